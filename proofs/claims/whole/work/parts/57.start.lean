section START57
/-! THE CLAIM OUT OF ONE WALK OF THE LAW'S BODY. Your part is whole_start (and what it stands on); all else here is the same for every law, but numbers. -/
def R_law : String := "RainIndexLaw"
def lw_P (b : Addr) (xs : List Int32) (args : Array Value) (s : State) : Prop := args = #[.ref b] ∧ s.IntsAt b xs ∧ xs.length ≤ 3072 ∧ (Jvm.Cond.and given_1 narrow_1).before args s = true
def lw_Q (_ : Array Value) (s : State) (o : Outcome) (t : State) : Prop := o = .returned (some (.int 1)) ∧ Framed s o t [] 601024 7293034
def lw_Z (below : List Frame) (a : Array Value) (s : State) : State → Prop := fun t => ∃ o, t.status = .running ∧ Ended t below o ∧ lw_Q a s o t
/-- the law's own end, with 1 on the stack, nothing written that was there before, its room as the claim has it -/
theorem lw_ret {p : Program} {l : Launch} {e : Env} {s : State} {m : MethodId} {below : List Frame} {meth : Method} {c : Code} {b : Nat} (hx : p.tables.exec = Jvm.exec) (hb : c.code = code) (hr : meth.sig.returnType = ret) (hlocks : meth.locks = false) {pc : Nat} {H : Heap} {ls : Array Slot} (hdg : decode code pc = .ok (.ireturn, 1)) : W p l e room_1 s m #[Value.ref b] below meth c H [] 601024 7293034 (lw_Z below #[Value.ref b] s) (F0 m pc ls [.int 1]) := by
  intro T hT X
  obtain ⟨fs, hret, hrun, hended, hW, hframe⟩ := X.leave (v := some (.int 1)) (hlocks := hlocks) (fun h => by rw [hr] at h; cases h)
  have hmeth' : T.vm.method? m = some meth := X.method'
  refine ⟨T.setFrames fs, ?_, .returned (some (.int 1)), hrun, hended, rfl, ⟨_, rfl⟩, hW, hframe⟩
  jvm_step X.here [X.here.top, hx, hb, hdg, hmeth', hr, ret, narrow_b1]
  (try refine ⟨rfl, ?_⟩); (try refine ⟨rfl, ?_⟩)
  first | (intro acts; rw [hret _ acts rfl rfl rfl]) | rw [hret _ _ rfl rfl rfl]
  exact Steps.refl _
/-- what holds at the law's entry: the machine, the code, the tables' words (any of lw_tbl by 'hts w (by decide +kernel)'), the script of L ints xs at the cell b, what the Statement gives of the start (any of its parts by flat_of_before) -/
def lw_At (p : Program) (s : State) (m : MethodId) (meth : Method) (c : Code) (b L : Nat) (xs : Nat → Int32) : Prop :=
  p.tables.exec = Jvm.exec ∧ c.code = code ∧ meth.sig.returnType = ret ∧ c.maxLocals = 7 ∧ s.vm.findClass R_law = some m.cls ∧ (∀ w ∈ lw_tbl, w.before #[Value.ref b] s = true) ∧ va_X b L xs s s.heap ∧ b < s.heap.size ∧ meth.locks = false ∧ (Jvm.Cond.and given_1 narrow_1).before #[Value.ref b] s = true
theorem ar_p {args : Array Value} {s : State} {ty : FieldType} (h : (Cond.arrayClass ty).before args s = true) (hr : refKind ty = false) : ∃ cA : ClassId, ArrOfT s cA ty ∧ s.vm.findClass ("[" ++ ty.toString) = some cA := by
  obtain ⟨cA, kA, comp, h1, h2, h3⟩ := Cond.arrayClass_spec h
  exact ⟨cA, fun N z => ⟨fun k h => (by cases h), kA, h2, comp, h3⟩, h1⟩
theorem ar_o {args : Array Value} {s : State} {C : String} (h : (Cond.arrayOver (.object C)).before args s = true) : ∃ cA : ClassId, ArrOfT s cA (.object C) ∧ va_RA s cA (.object C) := by
  obtain ⟨comp, cA, kA, h1, h2, h3, h4, h5⟩ := Cond.arrayOver_spec h
  exact ⟨cA, fun N z => ⟨fun k h => (by cases h), kA, h3, comp, h4⟩, kA, comp, h3, h4, h1, h5⟩
theorem strs_ok : strs.all (fun q => ((flatC (Jvm.Cond.and given_1 narrow_1)).contains (Cond.exactly (.string q.1 q.2.1) "java/lang/String")) && lw_tbl.contains (Cond.stringRef q.1 q.2.1 q.2.2)) = true := by decide +kernel
set_option maxRecDepth 100000 in
/-- what is known at the law's entry -/
theorem env_start {p : Program} {s : State} {m : MethodId} {meth : Method} {c : Code} {b L : Nat} {xs : Nat → Int32} (C0 : lw_At p s m meth c b L xs) : ∃ (D : va_G) (cy : Nat → ClassId) (de : Nat), va_K D vwCl (tysC cy) s ∧ Envf cy s.heap.size de s s.heap ∧ NCS s := by
  obtain ⟨hx, hb, hr, hml, hown, hts, hX, hbl, hlocks, hgv⟩ := C0
  have hs := flat_of_before _ hgv
  have hA : ∀ a : Nat, a < s.heap.size → ¬ s.heap.size ≤ a := fun a h => Nat.not_le.mpr h
  have tl : ∀ {w : Cond}, w ∈ TBL → w.before #[Value.ref b] s = true := fun h => hts _ (List.mem_filter.mp h).1
  have tt : ∀ {i : Nat} {w : Cond}, tables_1[i]? = some w → w.before #[Value.ref b] s = true := fun h => hts _ (List.mem_append_right _ (List.mem_of_getElem? h))
  have hk : ∀ c : Nat, ∃ q : ClassId × (Nat → Nat), ∀ r : vw_C, vwCl[c]? = some r → u_Kn s r.1 r.2.1 r.2.2 q.1 q.2 := by
    intro c
    match c with
    | 0 => obtain ⟨cC, iS, h⟩ := u_known (ws := TBL) (s := s) (args := #[Value.ref b]) (fun w h => tl h) cls_0.2.1 (tl k_42); exact ⟨(cC, iS), fun r hr => by cases cls_0.1.symm.trans hr; exact h⟩
    | 1 => obtain ⟨cC, iS, h⟩ := u_known (ws := TBL) (s := s) (args := #[Value.ref b]) (fun w h => tl h) cls_1.2.1 (tl k_90); exact ⟨(cC, iS), fun r hr => by cases cls_1.1.symm.trans hr; exact h⟩
    | 2 => obtain ⟨cC, iS, h⟩ := u_known (ws := TBL) (s := s) (args := #[Value.ref b]) (fun w h => tl h) cls_2.2.1 (tl k_687); exact ⟨(cC, iS), fun r hr => by cases cls_2.1.symm.trans hr; exact h⟩
    | 3 => obtain ⟨cC, iS, h⟩ := u_known (ws := TBL) (s := s) (args := #[Value.ref b]) (fun w h => tl h) cls_3.2.1 (tl k_526); exact ⟨(cC, iS), fun r hr => by cases cls_3.1.symm.trans hr; exact h⟩
    | 4 => obtain ⟨cC, iS, h⟩ := u_known (ws := TBL) (s := s) (args := #[Value.ref b]) (fun w h => tl h) cls_4.2.1 (tl k_467); exact ⟨(cC, iS), fun r hr => by cases cls_4.1.symm.trans hr; exact h⟩
    | 5 => obtain ⟨cC, iS, h⟩ := u_known (ws := TBL) (s := s) (args := #[Value.ref b]) (fun w h => tl h) cls_5.2.1 (tl k_113); exact ⟨(cC, iS), fun r hr => by cases cls_5.1.symm.trans hr; exact h⟩
    | 6 => obtain ⟨cC, iS, h⟩ := u_known (ws := TBL) (s := s) (args := #[Value.ref b]) (fun w h => tl h) cls_6.2.1 (tl k_77); exact ⟨(cC, iS), fun r hr => by cases cls_6.1.symm.trans hr; exact h⟩
    | 7 => obtain ⟨cC, iS, h⟩ := u_known (ws := TBL) (s := s) (args := #[Value.ref b]) (fun w h => tl h) cls_7.2.1 (tl k_281); exact ⟨(cC, iS), fun r hr => by cases cls_7.1.symm.trans hr; exact h⟩
    | 8 => obtain ⟨cC, iS, h⟩ := u_known (ws := TBL) (s := s) (args := #[Value.ref b]) (fun w h => tl h) cls_8.2.1 (tl k_426); exact ⟨(cC, iS), fun r hr => by cases cls_8.1.symm.trans hr; exact h⟩
    | 9 => obtain ⟨cC, iS, h⟩ := u_known (ws := TBL) (s := s) (args := #[Value.ref b]) (fun w h => tl h) cls_9.2.1 (tl k_36); exact ⟨(cC, iS), fun r hr => by cases cls_9.1.symm.trans hr; exact h⟩
    | 10 => obtain ⟨cC, iS, h⟩ := u_known (ws := TBL) (s := s) (args := #[Value.ref b]) (fun w h => tl h) cls_10.2.1 (tl k_28); exact ⟨(cC, iS), fun r hr => by cases cls_10.1.symm.trans hr; exact h⟩
    | 11 => obtain ⟨cC, iS, h⟩ := u_known (ws := TBL) (s := s) (args := #[Value.ref b]) (fun w h => tl h) cls_11.2.1 (tl k_910); exact ⟨(cC, iS), fun r hr => by cases cls_11.1.symm.trans hr; exact h⟩
    | n + 12 => exact ⟨(0, fun _ => 0), fun r hr => by have h9 := (List.getElem?_eq_some_iff.mp hr).1; simp only [vwCl, List.length_cons, List.length_nil] at h9; omega⟩
  obtain ⟨dC, hdC⟩ : ∃ dC : Nat → ClassId × (Nat → Nat), ∀ (c : Nat) (r : vw_C), vwCl[c]? = some r → u_Kn s r.1 r.2.1 r.2.2 (dC c).1 (dC c).2 := ⟨fun c => Classical.choose (hk c), fun c => Classical.choose_spec (hk c)⟩
  obtain ⟨c0, a0, n0⟩ := ar_p (ty := .int) (tt (by decide +kernel : tables_1[86]? = some _)) rfl
  obtain ⟨c1, a1, n1⟩ := ar_p (ty := .boolean) (tt (by decide +kernel : tables_1[308]? = some _)) rfl
  obtain ⟨c2, a2, n2⟩ := ar_o (C := "RainIndex$Telling") (tt (by decide +kernel : tables_1[287]? = some _))
  obtain ⟨c3, a3, n3⟩ := ar_o (C := "java/lang/Object") (tt (by decide +kernel : tables_1[361]? = some _))
  obtain ⟨c4, a4, n4⟩ := ar_p (ty := .long) (tt (by decide +kernel : tables_1[1188]? = some _)) rfl
  obtain ⟨de, e1, e2⟩ := va_Tof (N := 0) (f := fun _ => Value.null) (tm := (.static "java/util/ArrayList" "DEFAULTCAPACITY_EMPTY_ELEMENTDATA" "[Ljava/lang/Object;")) (ty := .object "java/lang/Object") (A := fun q => s.heap.size ≤ q) (by decide) (hs _ (by decide +kernel)) (va_eqt (hs (.eq (.length (.static "java/util/ArrayList" "DEFAULTCAPACITY_EMPTY_ELEMENTDATA" "[Ljava/lang/Object;")) (.int 0)) (by decide +kernel))) (fun j h => absurd h (Nat.not_lt_zero j)) hA
  have hde : de < s.heap.size := by
    obtain ⟨cell, h1, -⟩ := e2
    exact (Array.getElem?_eq_some_iff.mp h1).1
  refine ⟨(fun c => (dC c).1, fun c => (dC c).2), (fun k => match k with | 0 => c0 | 1 => c1 | 2 => c2 | 3 => c3 | _ => c4), de, ⟨hdC, fun k q hq => ?_⟩, ⟨fun w hw hc => ?_, va_AO.of (tt (by decide +kernel : tables_1[287]? = some _)), va_AO.of (tt (by decide +kernel : tables_1[361]? = some _)), va_Dc.of (tt (by decide +kernel : tables_1[1209]? = some _)), va_Mi.of (hs _ (by decide +kernel)), ?_, ?_, ⟨?_, hde, e2⟩, fun q hq => ?_⟩, va_Nc.of (hs (.not (.castable "java/lang/IllegalArgumentException" "java/lang/IndexOutOfBoundsException")) (by decide +kernel)), va_Nc.of (hs (.not (.castable "java/lang/IllegalStateException" "java/lang/IndexOutOfBoundsException")) (by decide +kernel)), va_Nc.of (hs (.not (.castable "java/lang/IllegalStateException" "java/lang/IllegalArgumentException")) (by decide +kernel))⟩
  · match k with
    | 0 => cases hq; exact ⟨a0, n0⟩
    | 1 => cases hq; exact ⟨a1, n1⟩
    | 2 => cases hq; exact ⟨a2, n2⟩
    | 3 => cases hq; exact ⟨a3, n3⟩
    | 4 => cases hq; exact ⟨a4, n4⟩
    | n + 5 => cases hq
  · have h9 := hts w hw
    cases w <;> first | exact va_Nw.of rfl h9 | cases hc
  · exact vx_Zqof (tt (by decide +kernel : tables_1[219]? = some _)) (tl k_11) (hs _ (by decide +kernel)) hA
  · exact vx_Zqof (tt (by decide +kernel : tables_1[221]? = some _)) (tl k_11) (hs _ (by decide +kernel)) hA
  · exact va_Zof (tt (by decide +kernel : tables_1[54]? = some _)) (tl k_5) e1 hA
  · have h9 := List.all_eq_true.mp strs_ok q hq
    simp only [Bool.and_eq_true, List.contains_iff_mem] at h9
    obtain ⟨a, -, -, -, ha, -⟩ := Cond.exactly_spec (hs _ h9.1)
    exact ⟨a, vk_R.of (hts _ h9.2) ha⟩
section
variable {p : Program} {l : Launch} {e : Env} {R : Room} {s : State} {m : MethodId} {args : Array Value} {below : List Frame} {meth : Method} {c : Code} {D : va_G} {cy : Nat → ClassId} {z : Nat} {cc : ByteArray} {own : String} {nL : Nat} {ret : Option FieldType} {fr lo mc ms de : Nat} {w : Wd} {kc ns pc : Nat} {lv : List (Nat × Value)} {st : List Value} {Q : State → Prop}
/-- the script's own cells -/
theorem g_sld (C : Cx p l R s m args meth c D cy z cc own nL ret fr lo mc ms de) {b L : Nat} {xs : Nat → Int32} (hX : va_X b L xs s s.heap) (hbl : b < z) (k : Nat) {i : Int32} (hi : i = nI k) (hk : k < L) (hL : L ≤ 100000) (hdg : decode cc pc = .ok (.iaload, 1)) (kk : G p l e R s m args below meth c D cy z nL w kc ns (pc + 1) lv (.int (xs k) :: st) Q) : G p l e R s m args below meth c D cy z nL w kc ns pc lv (.int i :: .ref b :: st) Q := by
  subst hi
  intro H locs ls hH hS hl
  refine va_sld C.1 C.2.1 hX (Nat.lt_of_lt_of_le hbl C.2.2.2.2.2.2.2.2.2.2.1) (Nat.not_le.mpr hbl) hS (nI_vp hk hL) hdg ?_
  rw [nI_tn (by omega)]
  exact kk H locs ls hH hS hl
theorem g_slen (C : Cx p l R s m args meth c D cy z cc own nL ret fr lo mc ms de) {b L : Nat} {xs : Nat → Int32} (hX : va_X b L xs s s.heap) (hbl : b < z) (hdg : decode cc pc = .ok (.arraylength, 1)) (kk : G p l e R s m args below meth c D cy z nL w kc ns (pc + 1) lv (.int (nI L) :: st) Q) : G p l e R s m args below meth c D cy z nL w kc ns pc lv (.ref b :: st) Q := fun H locs ls hH hS hl =>
  va_slen C.1 C.2.1 hX (Nat.lt_of_lt_of_le hbl C.2.2.2.2.2.2.2.2.2.2.1) (Nat.not_le.mpr hbl) hS hdg (kk H locs ls hH hS hl)
end
theorem lg_cmp_self (x : Int64) : lg_cmp x x = 0 := by
  unfold lg_cmp
  rw [if_neg (show ¬ x > x from Int64.lt_irrefl), if_pos rfl]
/-- the law's end -/
theorem g_lwret {p : Program} {l : Launch} {e : Env} {s : State} {m : MethodId} {b : Nat} {below : List Frame} {meth : Method} {c : Code} {D : va_G} {cy : Nat → ClassId} {w : Wd} {kc ns pc de : Nat} {lv : List (Nat × Value)} {own : String} {nL fr lo mc ms : Nat} (C : Cx p l room_1 s m #[.ref b] meth c D cy s.heap.size code own nL ret fr lo mc ms de) (h1 : kc ≤ 601024) (h2 : ns ≤ 7293034) (hdg : decode code pc = .ok (.ireturn, 1)) : G p l e room_1 s m #[.ref b] below meth c D cy s.heap.size nL w kc ns pc lv [.int 1] (lw_Z below #[.ref b] s) := fun H locs ls hH hS hl =>
  va_forget (fun q hq => hS.2.2 q hq) (W.widen h1 h2 (lw_ret C.1 C.2.1 C.2.2.2.2.2.2.1 C.2.2.2.2.2.1 hdg))
theorem iv_skip {w : Wd} {de x mo ou j : Nat} {ad : Nat → Nat} {L : Int32} (h : IV w de x mo ou ad L j) : IV w de x mo ou ad L (j + 1) := by
  obtain ⟨hm, h1, h2, A, F, g, nS, nP, nF, nC, tl, ho, cf, cp, cs, sb, pn, dn, ch, ca, T, rt, ly, sN, h3, h4, h5, h6, h7⟩ := h
  exact ⟨hm, h1, h2, A, F, g, nS, nP, nF, nC, tl, ho, cf, cp, cs, sb, pn, dn, ch, ca, T, rt, ly, sN, h3, h4, h5, h6, by omega⟩
/-- what the reference says it told -/
theorem iv_thrown (de : Nat) {w : Wd} {x mo ou j : Nat} {ad : Nat → Nat} {L : Int32} (h : IV w de x mo ou ad L j) : Ct yX10_thrown cX10_thrown 1 (some .int) 0 0 0 0 de [.ref mo] w (fun r w' => r = some (.int L) ∧ w = w') := by
  obtain ⟨hm, h1, h2, A, F, g, nS, nP, nF, nC, tl, ho, cf, cp, cs, sb, pn, dn, ch, ca, T, rt, ly, sN, h3, -⟩ := h
  have o := o_thrown de w mo ad A F L g hm
  rw [h3] at o
  exact o
/-- both days are the same -/
theorem iv_day {w : Wd} {de x mo ou j : Nat} {ad : Nat → Nat} {L : Int32} (h : IV w de x mo ou ad L j) : kd w x = 11 ∧ kd w mo = 12 ∧ ∃ v : Int32, Ct yX9_day cX9_day 1 (some .int) 0 0 0 0 de [.ref x] w (fun r w' => r = some (.int v) ∧ w = w') ∧ ∃ P : Option Value → Wd → Prop, Ct yX10_day cX10_day 1 (some .int) 0 0 0 0 de [.ref mo] w P ∧ ∀ r w', P r w' → r = some (.int v) ∧ IV w' de x mo ou ad 0 (j + 1) := by
  obtain ⟨hm, h1, h2, A, F, g, nS, nP, nF, nC, tl, ho, cf, cp, cs, sb, pn, dn, ch, ca, T, rt, ly, sN, h3, h4, h5, h6, h7⟩ := h
  have o := o_day de w mo ad A F L g hm
  rw [h3] at o
  exact ⟨h4.1.1, hm.1, F 0, c_X9_day de w x A F nS nP nF nC tl ho cf cp cs sb pn dn ch ca h4, _, o, fun r w' hp => ⟨hp.1, by rw [← hp.2]; exact iv_err hm h1 h2 h4 h5 h6 h7 0⟩⟩
end START57
