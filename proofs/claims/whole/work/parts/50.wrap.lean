section WRAP50
/-- of the three exceptions none is another -/
def NCS (U : State) : Prop := va_Nc "java/lang/IllegalArgumentException" "java/lang/IndexOutOfBoundsException" U ∧ va_Nc "java/lang/IllegalStateException" "java/lang/IndexOutOfBoundsException" U ∧ va_Nc "java/lang/IllegalStateException" "java/lang/IllegalArgumentException" U
theorem NCS.moved {u U : State} (hvm : u.vm.Alike U.vm) (h : NCS u) : NCS U := ⟨va_Nc.moved hvm h.1, va_Nc.moved hvm h.2.1, va_Nc.moved hvm h.2.2⟩
/-- a method with handlers, that always returns -/
def CtH (y : MethodName) (cc : ByteArray) (nL : Nat) (ret : Option FieldType) (hh : List (Nat × Nat × Nat × Nat)) (fr lo mc ms de : Nat) (av : List Value) (w : Wd) (Post : Option Value → Wd → Prop) : Prop :=
  ∀ (l : Launch) (D : va_G) (cy : Nat → ClassId) (z : Nat), l.stackTraces = false → Met l y (.codeWith y cc nL ret hh :: TBL) { frames := fr, cells := mc, slots := ms, locals := lo } (fun A U => CtP D cy z de av w A U ∧ NCS U) (CtQ D cy z Post) mc ms (fun q => z ≤ q)
theorem met_ofWH {l : Launch} {y : MethodName} {ws ws' : List Cond} {rm : Room} {Pc : Array Value → State → Prop} {Qc : Array Value → State → Outcome → State → Prop} {mc ms : Nat} {free : Addr → Prop} {cc : ByteArray} {maxL : Nat} {ret : Option FieldType} {hh : List (Nat × Nat × Nat × Nat)}
    (hy : plainName y.cls = true) (hw : ws = Cond.codeWith y cc maxL ret hh :: ws')
    (body : ∀ p e s m args below meth c s₁, BodyLoose p l y (headSpec ws rm) cc maxL ret e s m args below meth c s₁ → c.maxLocals = maxL → Pc args s →
      W p l e (headSpec ws rm).room s m args below meth c s.heap [] 0 0 (MQ below Qc args s mc ms free) (entryFrame m args maxL)) : Met l y ws rm Pc Qc mc ms free := by
  refine MetFree.of_bodyS (code := cc) (maxLocals := maxL) (ret := ret) hy ?_ ?_
  · intro args s m h hn
    obtain ⟨m9, meth, c, hn9, h1, h2, h3, h4, -, h5, h6, -⟩ := Cond.codeWith_spec (atoms_spec (ws := ws) h _ (by rw [hw]; exact List.mem_cons_self))
    cases hn.symm.trans hn9
    exact ⟨meth, c, h1, h2, h3, h4, h5, h6⟩
  · intro p e s m args below meth c s₁ B hml hP _
    have hh0 : s₁.heap = s.heap := by rw [B.state]; rfl
    obtain ⟨t, a1, o, b1, b2, b3⟩ := body p e s m args below meth c s₁ B hml hP s₁ hh0 (Stand.of_body B)
    exact ⟨t, o, a1, b1, b2, ⟨b3.1, b3.2⟩⟩
theorem CtH.mk {y : MethodName} {cc : ByteArray} {nL : Nat} {ret : Option FieldType} {hh : List (Nat × Nat × Nat × Nat)} {fr lo mc ms de : Nat} {w : Wd} {Post : Option Value → Wd → Prop} {av : List Value} (hy : plainName y.cls = true) (lv : List (Nat × Value)) (hlv : lv_args 0 av = lv) (hlen : (lg_sl av).length ≤ nL)
    (body : ∀ (p : Program) (l : Launch) (e : Env) (R : Room) (s : State) (m : MethodId) (args : Array Value) (below : List Frame) (meth : Method) (c : Code) (D : va_G) (cy : Nat → ClassId) (z : Nat), Cx p l R s m args meth c D cy z cc y.cls nL ret fr lo mc ms de → c.exceptionTable.toList = tableOf hh → NCS s → G p l e R s m args below meth c D cy z nL w 0 0 0 lv [] (QM below args s D cy z Post mc ms)) :
    CtH y cc nL ret hh fr lo mc ms de av w Post := by
  intro l D cy z hl
  refine met_ofWH (cc := cc) (maxL := nL) (ret := ret) (hh := hh) hy rfl ?_
  intro p e s m args below meth c s₁ B hml hv
  obtain ⟨⟨rfl, hH, hK, hE, hz⟩, hN⟩ := hv
  have hts := atoms_spec (ws := Cond.codeWith y cc nL ret hh :: TBL) B.pre
  have C : Cx p l (headSpec (Cond.codeWith y cc nL ret hh :: TBL) { frames := fr, cells := mc, slots := ms, locals := lo }).room s m av.toArray meth c D cy z cc y.cls nL ret fr lo mc ms de :=
    ⟨B.exec, B.bytes, hml, findClass_of_methodNamed B.named, fun w hw => hts w (List.mem_cons_of_mem _ hw), B.notSynchronized, B.returns, hK, hE, rfl, hz, hl⟩
  rw [lg_entry_eq]
  exact body p l e _ s m _ below meth c D cy z C (vx_table (x := y) B (hts _ List.mem_cons_self)) hN s.heap [] _ hH va_S.rf (hlv ▸ lv_entry av hlen)
def MthH (y : MethodName) (cc : ByteArray) (nL : Nat) (ret : Option FieldType) (hh : List (Nat × Nat × Nat × Nat)) (n : Nat) : Prop :=
  Cond.codeWith y cc nL ret hh ∈ TBL ∧ Cond.initialized y.cls ∈ TBL ∧ Cond.static y ∈ TBL ∧ (y.cls ≠ "java/lang/invoke/MethodHandle" ∧ y.cls ≠ "java/lang/invoke/VarHandle") ∧ (parseMethodDescriptor y.desc).map (fun d => d.parameters.length) = some n
section
variable {p : Program} {l : Launch} {e : Env} {R : Room} {s : State} {m : MethodId} {args : Array Value} {below : List Frame} {meth : Method} {c : Code} {D : va_G} {cy : Nat → ClassId} {z : Nat} {cc : ByteArray} {own : String} {nL : Nat} {ret : Option FieldType} {fr lo mc ms de : Nat} {w : Wd} {kc ns pc : Nat} {lv : List (Nat × Value)} {st rest : List Value} {Q : State → Prop} {y : MethodName} {cc' : ByteArray} {nL' : Nat} {ret' : Option FieldType} {fr' lo' mc' ms' : Nat} {Post : Option Value → Wd → Prop} {hh : List (Nat × Nat × Nat × Nat)}
/-- caught -/
theorem gx_catch (C : Cx p l R s m args meth c D cy z cc own nL ret fr lo mc ms de) {E name : String} (pre : List ExceptionTableEntry) (x : ExceptionTableEntry) (suf : List ExceptionTableEntry) (hsplit : c.exceptionTable.toList = pre ++ x :: suf) (hpass : ∀ z ∈ pre, z.catchType ≠ 0 ∧ ∃ nm : String, Cond.classLink own z.catchType nm ∈ TBL ∧ va_Nc E nm s) (hx : covers x pc = true) (h0 : x.catchType ≠ 0) (hlink : Cond.classLink own x.catchType name ∈ TBL) (hcast : Cond.castable E name ∈ lw_tbl)
    (kk : ∀ q : Nat, G p l e R s m args below meth c D cy z nL w kc ns x.handlerPc lv [.ref q] Q) : GX p l e R s m args below meth c D cy z nL w kc ns pc lv rest Q E := fun H locs ls q ce hH hS hl hq hv hc =>
  vx_catch C.2.2.2.1 pre x suf hsplit (fun z hz => by
    obtain ⟨h1, nm, h2, h3⟩ := hpass z hz
    exact Or.inr ⟨h1, nm, C.2.2.2.2.1 _ h2, h3⟩) hx h0 (C.2.2.2.2.1 _ hlink) (va_Nw.use rfl (C.2.2.2.2.2.2.2.2.1.1 _ hcast rfl)) hq hv hc (kk q H locs ls hH hS hl)
theorem g_callH (C : Cx p l R s m args meth c D cy z cc own nL ret fr lo mc ms de) {n index : Nat} (hM : MthH y cc' nL' ret' hh n) (As : List Value) (hCt : CtH y cc' nL' ret' hh fr' lo' mc' ms' de As w Post) (hN : NCS s)
    (hlink : Cond.methodLink own index y ∈ TBL) (hn : As.length = n) (hst : st = As.reverse ++ rest) (hw8 : (rest.map fun v => v.category).sum ≤ 8) (hfr : fr' + 1 ≤ fr) (hlo : 8 + (nL' + 11) + lo' ≤ lo) (h1 : kc + mc' ≤ mc) (h2 : ns + ms' ≤ ms) (hdg : decode cc pc = .ok (.invokestatic index, 3))
    (kk : ∀ (r : Option Value) (w' : Wd), Post r w' → G p l e R s m args below meth c D cy z nL w' (kc + mc') (ns + ms') (pc + 3) lv (r.toList ++ rest) Q) : G p l e R s m args below meth c D cy z nL w kc ns pc lv st Q := by
  intro H locs ls hH hS hl
  subst hst
  have ht := C.2.2.2.2.1
  have hR := C.2.2.2.2.2.2.2.2.2.1
  refine run_ok hl hS (vx_runSW (hh := hh) C.fix (hCt l D cy z C.2.2.2.2.2.2.2.2.2.2.2) ⟨⟨rfl, rfl, by rw [hR]; exact hfr, by rw [hR]; exact hlo, pay_in ht (tb_GoodIn hM.1), List.mem_cons_self⟩, ht _ hM.1, ht _ hM.2.1, hM.2.2.2.1, fun sig h => ?_, ht _ hlink, ht _ hM.2.2.1⟩ ⟨fun a U g mk h => ⟨blind a U g mk h.1, NCS.moved (Vm.Alike.refl U.vm) h.2⟩, fun U hU hW => ⟨C.pre hH hS U hU hW, NCS.moved hW.alike hN⟩⟩ rfl hn hl.1 rfl (lv_room hw8) hdg (C.room h1 h2)) kk
  have h2 := hM.2.2.2.2
  rw [h] at h2
  exact (Option.some.inj h2).symm
end
theorem cs_IAE : Cond.castable "java/lang/IllegalArgumentException" "java/lang/IllegalArgumentException" ∈ lw_tbl := List.mem_append_right _ (tb_c1 _ (List.mem_of_getElem? (i := 194) (by decide +kernel)))
theorem cs_ISE : Cond.castable "java/lang/IllegalStateException" "java/lang/IllegalStateException" ∈ lw_tbl := List.mem_append_right _ (tb_c2 _ (List.mem_of_getElem? (i := 26) (by decide +kernel)))
theorem cs_IOB : Cond.castable "java/lang/IndexOutOfBoundsException" "java/lang/IndexOutOfBoundsException" ∈ lw_tbl := List.mem_append_right _ (tb_c2 _ (List.mem_of_getElem? (i := 145) (by decide +kernel)))
theorem mt_L_station : MthH yL_station cL_station 5 (some .int) [(0, 10, 13, 13), (0, 10, 17, 15)] 4 := ⟨k_179, k_0, k_178, by decide, by decide +kernel⟩
theorem dL_station_0 : decode cL_station 0 = .ok (.aload_n 3, 1) := by decide +kernel
theorem dL_station_1 : decode cL_station 1 = .ok (.iconst 0, 1) := by decide +kernel
theorem dL_station_2 : decode cL_station 2 = .ok (.aload_n 0, 1) := by decide +kernel
theorem dL_station_3 : decode cL_station 3 = .ok (.iload_n 1, 1) := by decide +kernel
theorem dL_station_4 : decode cL_station 4 = .ok (.iload_n 2, 1) := by decide +kernel
theorem dL_station_5 : decode cL_station 5 = .ok (.invokevirtual 7, 3) := by decide +kernel
theorem dL_station_8 : decode cL_station 8 = .ok (.i2l, 1) := by decide +kernel
theorem dL_station_9 : decode cL_station 9 = .ok (.lastore, 1) := by decide +kernel
theorem dL_station_10 : decode cL_station 10 = .ok (.goto 11, 3) := by decide +kernel
theorem dL_station_13 : decode cL_station 13 = .ok (.astore 4, 2) := by decide +kernel
theorem dL_station_15 : decode cL_station 15 = .ok (.iconst 1, 1) := by decide +kernel
theorem dL_station_16 : decode cL_station 16 = .ok (.ireturn, 1) := by decide +kernel
theorem dL_station_17 : decode cL_station 17 = .ok (.astore 4, 2) := by decide +kernel
theorem dL_station_19 : decode cL_station 19 = .ok (.iconst 2, 1) := by decide +kernel
theorem dL_station_20 : decode cL_station 20 = .ok (.ireturn, 1) := by decide +kernel
theorem dL_station_21 : decode cL_station 21 = .ok (.iconst 0, 1) := by decide +kernel
theorem dL_station_22 : decode cL_station 22 = .ok (.ireturn, 1) := by decide +kernel
set_option maxHeartbeats 1000000 in
set_option maxRecDepth 100000 in
theorem l_station (de : Nat) (w : Wd) (x ou : Nat) (a0 a1 : Int32) (Post : Option Value → Wd → Prop) (PX : String → Wd → Prop) (hC : Cw yX9_station cX9_station 3 (some .int) 7 171 8 1450 de [.ref x, .int a0, .int a1] w Post PX) (hx : kd w x = 11) (ho : kd w ou = 2994) (hk : ∀ r w', Post r w' → ∃ v, r = some (.int v) ∧ kd w' ou = 2994 ∧ aL w' ou = 1) (hE : ∀ E w', PX E w' → E = "java/lang/IllegalArgumentException" ∨ E = "java/lang/IllegalStateException") : CtH yL_station cL_station 5 (some .int) [(0, 10, 13, 13), (0, 10, 17, 15)] 8 193 8 1450 de [.ref x, .int a0, .int a1, .ref ou] w (fun r w' => (∃ v w1, Post (some (.int v)) w1 ∧ r = some (.int 0) ∧ w' = pAJ w1 2994 ou 0 v.toInt64) ∨ (PX "java/lang/IllegalArgumentException" w' ∧ r = some (.int 1)) ∨ (PX "java/lang/IllegalStateException" w' ∧ r = some (.int 2))) := by
  refine CtH.mk (by decide +kernel) [(0, .ref x), (1, .int a0), (2, .int a1), (3, .ref ou)] rfl (Nat.le_of_ble_eq_true rfl) ?_
  intro p l e R s m args below meth c D cy z C ht hN
  refine g_aload_n C dL_station_0 rfl ?_
  refine g_iconst C 0 dL_station_1 (by rfl) ?_
  refine g_aload_n C dL_station_2 rfl ?_
  refine g_iload_n C dL_station_3 rfl ?_
  refine g_iload_n C dL_station_4 rfl ?_
  refine gx_callV C cls_10 11 mt_X9_station [.int a0, .int a1] hC hx (by decide) k_182 rfl rfl (Nat.le_of_ble_eq_true rfl) (by decide) (by decide) (by decide) (by decide) dL_station_5 (fun E9 w9 hx9 => ?_) (fun r9 w9 hp9 => ?_)
  · rcases hE E9 w9 hx9 with rfl | rfl
    · refine gx_catch C [] ⟨0, 10, 13, 13⟩ [⟨0, 10, 17, 15⟩] ht (fun q hq => by cases hq) (by decide) (by decide) k_180 cs_IAE (fun q9 => ?_)
      refine g_astore C dL_station_13 (by decide) ?_
      refine g_iconst C 1 dL_station_15 (by rfl) ?_
      refine g_iret C rfl rfl (by decide) (by decide) dL_station_16 ?_
      exact Or.inr (Or.inl (⟨hx9, rfl⟩))
    · refine gx_catch C [⟨0, 10, 13, 13⟩] ⟨0, 10, 17, 15⟩ [] ht (fun q hq => by
        simp only [List.mem_cons, List.not_mem_nil, or_false] at hq
        rcases hq with rfl
        · exact ⟨by decide, _, k_180, hN.2.2⟩) (by decide) (by decide) k_181 cs_ISE (fun q9 => ?_)
      refine g_astore C dL_station_17 (by decide) ?_
      refine g_iconst C 2 dL_station_19 (by rfl) ?_
      refine g_iret C rfl rfl (by decide) (by decide) dL_station_20 ?_
      exact Or.inr (Or.inr (⟨hx9, rfl⟩))
  obtain ⟨v, rfl, ho1, ho2⟩ := hk r9 w9 hp9
  refine g_i2l C dL_station_8 ?_
  refine g_last C 2994 (by first | exact ho | exact ho1) rfl (show vp_in (nI 0) (aL w9 ou) by rw [ho2]; exact nI_vp (by omega) (by omega)) dL_station_9 ?_
  rw [show (0 : Int32).toNatClampNeg = 0 by decide]
  refine g_goto C 21 dL_station_10 (by decide) ?_
  refine g_iconst C 0 dL_station_21 (by rfl) ?_
  refine g_iret C rfl rfl (by decide) (by decide) dL_station_22 ?_
  exact Or.inl ⟨v, w9, hp9, rfl, rfl⟩
theorem mt_L_rain : MthH yL_rain cL_rain 6 (some .int) [(0, 12, 15, 21), (0, 12, 19, 13)] 5 := ⟨k_373, k_0, k_372, by decide, by decide +kernel⟩
theorem dL_rain_0 : decode cL_rain 0 = .ok (.aload 4, 2) := by decide +kernel
theorem dL_rain_2 : decode cL_rain 2 = .ok (.iconst 0, 1) := by decide +kernel
theorem dL_rain_3 : decode cL_rain 3 = .ok (.aload_n 0, 1) := by decide +kernel
theorem dL_rain_4 : decode cL_rain 4 = .ok (.iload_n 1, 1) := by decide +kernel
theorem dL_rain_5 : decode cL_rain 5 = .ok (.iload_n 2, 1) := by decide +kernel
theorem dL_rain_6 : decode cL_rain 6 = .ok (.iload_n 3, 1) := by decide +kernel
theorem dL_rain_7 : decode cL_rain 7 = .ok (.invokevirtual 17, 3) := by decide +kernel
theorem dL_rain_10 : decode cL_rain 10 = .ok (.i2l, 1) := by decide +kernel
theorem dL_rain_11 : decode cL_rain 11 = .ok (.lastore, 1) := by decide +kernel
theorem dL_rain_12 : decode cL_rain 12 = .ok (.goto 11, 3) := by decide +kernel
theorem dL_rain_15 : decode cL_rain 15 = .ok (.astore 5, 2) := by decide +kernel
theorem dL_rain_17 : decode cL_rain 17 = .ok (.iconst 1, 1) := by decide +kernel
theorem dL_rain_18 : decode cL_rain 18 = .ok (.ireturn, 1) := by decide +kernel
theorem dL_rain_19 : decode cL_rain 19 = .ok (.astore 5, 2) := by decide +kernel
theorem dL_rain_21 : decode cL_rain 21 = .ok (.iconst 2, 1) := by decide +kernel
theorem dL_rain_22 : decode cL_rain 22 = .ok (.ireturn, 1) := by decide +kernel
theorem dL_rain_23 : decode cL_rain 23 = .ok (.iconst 0, 1) := by decide +kernel
theorem dL_rain_24 : decode cL_rain 24 = .ok (.ireturn, 1) := by decide +kernel
set_option maxHeartbeats 1000000 in
set_option maxRecDepth 100000 in
theorem l_rain (de : Nat) (w : Wd) (x ou : Nat) (a0 a1 a2 : Int32) (Post : Option Value → Wd → Prop) (PX : String → Wd → Prop) (hC : Cw yX9_rain cX9_rain 5 (some .int) 7 111 6 40 de [.ref x, .int a0, .int a1, .int a2] w Post PX) (hx : kd w x = 11) (ho : kd w ou = 2994) (hk : ∀ r w', Post r w' → ∃ v, r = some (.int v) ∧ kd w' ou = 2994 ∧ aL w' ou = 1) (hE : ∀ E w', PX E w' → E = "java/lang/IndexOutOfBoundsException" ∨ E = "java/lang/IllegalArgumentException") : CtH yL_rain cL_rain 6 (some .int) [(0, 12, 15, 21), (0, 12, 19, 13)] 8 135 6 40 de [.ref x, .int a0, .int a1, .int a2, .ref ou] w (fun r w' => (∃ v w1, Post (some (.int v)) w1 ∧ r = some (.int 0) ∧ w' = pAJ w1 2994 ou 0 v.toInt64) ∨ (PX "java/lang/IndexOutOfBoundsException" w' ∧ r = some (.int 1)) ∨ (PX "java/lang/IllegalArgumentException" w' ∧ r = some (.int 2))) := by
  refine CtH.mk (by decide +kernel) [(0, .ref x), (1, .int a0), (2, .int a1), (3, .int a2), (4, .ref ou)] rfl (Nat.le_of_ble_eq_true rfl) ?_
  intro p l e R s m args below meth c D cy z C ht hN
  refine g_aload C dL_rain_0 rfl ?_
  refine g_iconst C 0 dL_rain_2 (by rfl) ?_
  refine g_aload_n C dL_rain_3 rfl ?_
  refine g_iload_n C dL_rain_4 rfl ?_
  refine g_iload_n C dL_rain_5 rfl ?_
  refine g_iload_n C dL_rain_6 rfl ?_
  refine gx_callV C cls_10 11 mt_X9_rain [.int a0, .int a1, .int a2] hC hx (by decide) k_375 rfl rfl (Nat.le_of_ble_eq_true rfl) (by decide) (by decide) (by decide) (by decide) dL_rain_7 (fun E9 w9 hx9 => ?_) (fun r9 w9 hp9 => ?_)
  · rcases hE E9 w9 hx9 with rfl | rfl
    · refine gx_catch C [] ⟨0, 12, 15, 21⟩ [⟨0, 12, 19, 13⟩] ht (fun q hq => by cases hq) (by decide) (by decide) k_374 cs_IOB (fun q9 => ?_)
      refine g_astore C dL_rain_15 (by decide) ?_
      refine g_iconst C 1 dL_rain_17 (by rfl) ?_
      refine g_iret C rfl rfl (by decide) (by decide) dL_rain_18 ?_
      exact Or.inr (Or.inl (⟨hx9, rfl⟩))
    · refine gx_catch C [⟨0, 12, 15, 21⟩] ⟨0, 12, 19, 13⟩ [] ht (fun q hq => by
        simp only [List.mem_cons, List.not_mem_nil, or_false] at hq
        rcases hq with rfl
        · exact ⟨by decide, _, k_374, hN.1⟩) (by decide) (by decide) k_180 cs_IAE (fun q9 => ?_)
      refine g_astore C dL_rain_19 (by decide) ?_
      refine g_iconst C 2 dL_rain_21 (by rfl) ?_
      refine g_iret C rfl rfl (by decide) (by decide) dL_rain_22 ?_
      exact Or.inr (Or.inr (⟨hx9, rfl⟩))
  obtain ⟨v, rfl, ho1, ho2⟩ := hk r9 w9 hp9
  refine g_i2l C dL_rain_10 ?_
  refine g_last C 2994 (by first | exact ho | exact ho1) rfl (show vp_in (nI 0) (aL w9 ou) by rw [ho2]; exact nI_vp (by omega) (by omega)) dL_rain_11 ?_
  rw [show (0 : Int32).toNatClampNeg = 0 by decide]
  refine g_goto C 23 dL_rain_12 (by decide) ?_
  refine g_iconst C 0 dL_rain_23 (by rfl) ?_
  refine g_iret C rfl rfl (by decide) (by decide) dL_rain_24 ?_
  exact Or.inl ⟨v, w9, hp9, rfl, rfl⟩
theorem mt_L_pass : MthH yL_pass cL_pass 4 (some .int) [(0, 9, 12, 13), (0, 9, 15, 15)] 3 := ⟨k_450, k_0, k_449, by decide, by decide +kernel⟩
theorem dL_pass_0 : decode cL_pass 0 = .ok (.aload_n 2, 1) := by decide +kernel
theorem dL_pass_1 : decode cL_pass 1 = .ok (.iconst 0, 1) := by decide +kernel
theorem dL_pass_2 : decode cL_pass 2 = .ok (.aload_n 0, 1) := by decide +kernel
theorem dL_pass_3 : decode cL_pass 3 = .ok (.iload_n 1, 1) := by decide +kernel
theorem dL_pass_4 : decode cL_pass 4 = .ok (.invokevirtual 23, 3) := by decide +kernel
theorem dL_pass_7 : decode cL_pass 7 = .ok (.i2l, 1) := by decide +kernel
theorem dL_pass_8 : decode cL_pass 8 = .ok (.lastore, 1) := by decide +kernel
theorem dL_pass_9 : decode cL_pass 9 = .ok (.goto 9, 3) := by decide +kernel
theorem dL_pass_12 : decode cL_pass 12 = .ok (.astore_n 3, 1) := by decide +kernel
theorem dL_pass_13 : decode cL_pass 13 = .ok (.iconst 1, 1) := by decide +kernel
theorem dL_pass_14 : decode cL_pass 14 = .ok (.ireturn, 1) := by decide +kernel
theorem dL_pass_15 : decode cL_pass 15 = .ok (.astore_n 3, 1) := by decide +kernel
theorem dL_pass_16 : decode cL_pass 16 = .ok (.iconst 2, 1) := by decide +kernel
theorem dL_pass_17 : decode cL_pass 17 = .ok (.ireturn, 1) := by decide +kernel
theorem dL_pass_18 : decode cL_pass 18 = .ok (.iconst 0, 1) := by decide +kernel
theorem dL_pass_19 : decode cL_pass 19 = .ok (.ireturn, 1) := by decide +kernel
set_option maxHeartbeats 1000000 in
set_option maxRecDepth 100000 in
theorem l_pass (de : Nat) (w : Wd) (x ou : Nat) (a0 : Int32) (Post : Option Value → Wd → Prop) (PX : String → Wd → Prop) (hC : Cw yX9_pass cX9_pass 2 (some .int) 6 90 5 30 de [.ref x, .int a0] w Post PX) (hx : kd w x = 11) (ho : kd w ou = 2994) (hk : ∀ r w', Post r w' → ∃ v, r = some (.int v) ∧ kd w' ou = 2994 ∧ aL w' ou = 1) (hE : ∀ E w', PX E w' → E = "java/lang/IllegalArgumentException" ∨ E = "java/lang/IllegalStateException") : CtH yL_pass cL_pass 4 (some .int) [(0, 9, 12, 13), (0, 9, 15, 15)] 7 111 5 30 de [.ref x, .int a0, .ref ou] w (fun r w' => (∃ v w1, Post (some (.int v)) w1 ∧ r = some (.int 0) ∧ w' = pAJ w1 2994 ou 0 v.toInt64) ∨ (PX "java/lang/IllegalArgumentException" w' ∧ r = some (.int 1)) ∨ (PX "java/lang/IllegalStateException" w' ∧ r = some (.int 2))) := by
  refine CtH.mk (by decide +kernel) [(0, .ref x), (1, .int a0), (2, .ref ou)] rfl (Nat.le_of_ble_eq_true rfl) ?_
  intro p l e R s m args below meth c D cy z C ht hN
  refine g_aload_n C dL_pass_0 rfl ?_
  refine g_iconst C 0 dL_pass_1 (by rfl) ?_
  refine g_aload_n C dL_pass_2 rfl ?_
  refine g_iload_n C dL_pass_3 rfl ?_
  refine gx_callV C cls_10 11 mt_X9_pass [.int a0] hC hx (by decide) k_451 rfl rfl (Nat.le_of_ble_eq_true rfl) (by decide) (by decide) (by decide) (by decide) dL_pass_4 (fun E9 w9 hx9 => ?_) (fun r9 w9 hp9 => ?_)
  · rcases hE E9 w9 hx9 with rfl | rfl
    · refine gx_catch C [] ⟨0, 9, 12, 13⟩ [⟨0, 9, 15, 15⟩] ht (fun q hq => by cases hq) (by decide) (by decide) k_180 cs_IAE (fun q9 => ?_)
      refine g_astore_n C dL_pass_12 (by decide) ?_
      refine g_iconst C 1 dL_pass_13 (by rfl) ?_
      refine g_iret C rfl rfl (by decide) (by decide) dL_pass_14 ?_
      exact Or.inr (Or.inl (⟨hx9, rfl⟩))
    · refine gx_catch C [⟨0, 9, 12, 13⟩] ⟨0, 9, 15, 15⟩ [] ht (fun q hq => by
        simp only [List.mem_cons, List.not_mem_nil, or_false] at hq
        rcases hq with rfl
        · exact ⟨by decide, _, k_180, hN.2.2⟩) (by decide) (by decide) k_181 cs_ISE (fun q9 => ?_)
      refine g_astore_n C dL_pass_15 (by decide) ?_
      refine g_iconst C 2 dL_pass_16 (by rfl) ?_
      refine g_iret C rfl rfl (by decide) (by decide) dL_pass_17 ?_
      exact Or.inr (Or.inr (⟨hx9, rfl⟩))
  obtain ⟨v, rfl, ho1, ho2⟩ := hk r9 w9 hp9
  refine g_i2l C dL_pass_7 ?_
  refine g_last C 2994 (by first | exact ho | exact ho1) rfl (show vp_in (nI 0) (aL w9 ou) by rw [ho2]; exact nI_vp (by omega) (by omega)) dL_pass_8 ?_
  rw [show (0 : Int32).toNatClampNeg = 0 by decide]
  refine g_goto C 18 dL_pass_9 (by decide) ?_
  refine g_iconst C 0 dL_pass_18 (by rfl) ?_
  refine g_iret C rfl rfl (by decide) (by decide) dL_pass_19 ?_
  exact Or.inl ⟨v, w9, hp9, rfl, rfl⟩
theorem mt_L_phase : MthH yL_phase cL_phase 8 (some .int) [(0, 16, 19, 13), (0, 16, 23, 15)] 7 := ⟨k_459, k_0, k_458, by decide, by decide +kernel⟩
theorem dL_phase_0 : decode cL_phase 0 = .ok (.aload 6, 2) := by decide +kernel
theorem dL_phase_2 : decode cL_phase 2 = .ok (.iconst 0, 1) := by decide +kernel
theorem dL_phase_3 : decode cL_phase 3 = .ok (.aload_n 0, 1) := by decide +kernel
theorem dL_phase_4 : decode cL_phase 4 = .ok (.iload_n 1, 1) := by decide +kernel
theorem dL_phase_5 : decode cL_phase 5 = .ok (.iload_n 2, 1) := by decide +kernel
theorem dL_phase_6 : decode cL_phase 6 = .ok (.iload_n 3, 1) := by decide +kernel
theorem dL_phase_7 : decode cL_phase 7 = .ok (.iload 4, 2) := by decide +kernel
theorem dL_phase_9 : decode cL_phase 9 = .ok (.iload 5, 2) := by decide +kernel
theorem dL_phase_11 : decode cL_phase 11 = .ok (.invokevirtual 27, 3) := by decide +kernel
theorem dL_phase_14 : decode cL_phase 14 = .ok (.i2l, 1) := by decide +kernel
theorem dL_phase_15 : decode cL_phase 15 = .ok (.lastore, 1) := by decide +kernel
theorem dL_phase_16 : decode cL_phase 16 = .ok (.goto 11, 3) := by decide +kernel
theorem dL_phase_19 : decode cL_phase 19 = .ok (.astore 7, 2) := by decide +kernel
theorem dL_phase_21 : decode cL_phase 21 = .ok (.iconst 1, 1) := by decide +kernel
theorem dL_phase_22 : decode cL_phase 22 = .ok (.ireturn, 1) := by decide +kernel
theorem dL_phase_23 : decode cL_phase 23 = .ok (.astore 7, 2) := by decide +kernel
theorem dL_phase_25 : decode cL_phase 25 = .ok (.iconst 2, 1) := by decide +kernel
theorem dL_phase_26 : decode cL_phase 26 = .ok (.ireturn, 1) := by decide +kernel
theorem dL_phase_27 : decode cL_phase 27 = .ok (.iconst 0, 1) := by decide +kernel
theorem dL_phase_28 : decode cL_phase 28 = .ok (.ireturn, 1) := by decide +kernel
set_option maxHeartbeats 1000000 in
set_option maxRecDepth 100000 in
theorem l_phase (de : Nat) (w : Wd) (x ou : Nat) (a0 a1 a2 a3 a4 : Int32) (Post : Option Value → Wd → Prop) (PX : String → Wd → Prop) (hC : Cw yX9_phase cX9_phase 6 (some .int) 7 171 8 1450 de [.ref x, .int a0, .int a1, .int a2, .int a3, .int a4] w Post PX) (hx : kd w x = 11) (ho : kd w ou = 2994) (hk : ∀ r w', Post r w' → ∃ v, r = some (.int v) ∧ kd w' ou = 2994 ∧ aL w' ou = 1) (hE : ∀ E w', PX E w' → E = "java/lang/IllegalArgumentException" ∨ E = "java/lang/IllegalStateException") : CtH yL_phase cL_phase 8 (some .int) [(0, 16, 19, 13), (0, 16, 23, 15)] 8 196 8 1450 de [.ref x, .int a0, .int a1, .int a2, .int a3, .int a4, .ref ou] w (fun r w' => (∃ v w1, Post (some (.int v)) w1 ∧ r = some (.int 0) ∧ w' = pAJ w1 2994 ou 0 v.toInt64) ∨ (PX "java/lang/IllegalArgumentException" w' ∧ r = some (.int 1)) ∨ (PX "java/lang/IllegalStateException" w' ∧ r = some (.int 2))) := by
  refine CtH.mk (by decide +kernel) [(0, .ref x), (1, .int a0), (2, .int a1), (3, .int a2), (4, .int a3), (5, .int a4), (6, .ref ou)] rfl (Nat.le_of_ble_eq_true rfl) ?_
  intro p l e R s m args below meth c D cy z C ht hN
  refine g_aload C dL_phase_0 rfl ?_
  refine g_iconst C 0 dL_phase_2 (by rfl) ?_
  refine g_aload_n C dL_phase_3 rfl ?_
  refine g_iload_n C dL_phase_4 rfl ?_
  refine g_iload_n C dL_phase_5 rfl ?_
  refine g_iload_n C dL_phase_6 rfl ?_
  refine g_iload C dL_phase_7 rfl ?_
  refine g_iload C dL_phase_9 rfl ?_
  refine gx_callV C cls_10 11 mt_X9_phase [.int a0, .int a1, .int a2, .int a3, .int a4] hC hx (by decide) k_460 rfl rfl (Nat.le_of_ble_eq_true rfl) (by decide) (by decide) (by decide) (by decide) dL_phase_11 (fun E9 w9 hx9 => ?_) (fun r9 w9 hp9 => ?_)
  · rcases hE E9 w9 hx9 with rfl | rfl
    · refine gx_catch C [] ⟨0, 16, 19, 13⟩ [⟨0, 16, 23, 15⟩] ht (fun q hq => by cases hq) (by decide) (by decide) k_180 cs_IAE (fun q9 => ?_)
      refine g_astore C dL_phase_19 (by decide) ?_
      refine g_iconst C 1 dL_phase_21 (by rfl) ?_
      refine g_iret C rfl rfl (by decide) (by decide) dL_phase_22 ?_
      exact Or.inr (Or.inl (⟨hx9, rfl⟩))
    · refine gx_catch C [⟨0, 16, 19, 13⟩] ⟨0, 16, 23, 15⟩ [] ht (fun q hq => by
        simp only [List.mem_cons, List.not_mem_nil, or_false] at hq
        rcases hq with rfl
        · exact ⟨by decide, _, k_180, hN.2.2⟩) (by decide) (by decide) k_181 cs_ISE (fun q9 => ?_)
      refine g_astore C dL_phase_23 (by decide) ?_
      refine g_iconst C 2 dL_phase_25 (by rfl) ?_
      refine g_iret C rfl rfl (by decide) (by decide) dL_phase_26 ?_
      exact Or.inr (Or.inr (⟨hx9, rfl⟩))
  obtain ⟨v, rfl, ho1, ho2⟩ := hk r9 w9 hp9
  refine g_i2l C dL_phase_14 ?_
  refine g_last C 2994 (by first | exact ho | exact ho1) rfl (show vp_in (nI 0) (aL w9 ou) by rw [ho2]; exact nI_vp (by omega) (by omega)) dL_phase_15 ?_
  rw [show (0 : Int32).toNatClampNeg = 0 by decide]
  refine g_goto C 27 dL_phase_16 (by decide) ?_
  refine g_iconst C 0 dL_phase_27 (by rfl) ?_
  refine g_iret C rfl rfl (by decide) (by decide) dL_phase_28 ?_
  exact Or.inl ⟨v, w9, hp9, rfl, rfl⟩
theorem mt_L_product : MthH yL_product cL_product 4 (some .int) [(0, 9, 12, 13), (0, 9, 15, 15)] 3 := ⟨k_492, k_0, k_491, by decide, by decide +kernel⟩
theorem dL_product_0 : decode cL_product 0 = .ok (.aload_n 2, 1) := by decide +kernel
theorem dL_product_1 : decode cL_product 1 = .ok (.iconst 0, 1) := by decide +kernel
theorem dL_product_2 : decode cL_product 2 = .ok (.aload_n 0, 1) := by decide +kernel
theorem dL_product_3 : decode cL_product 3 = .ok (.iload_n 1, 1) := by decide +kernel
theorem dL_product_4 : decode cL_product 4 = .ok (.invokevirtual 31, 3) := by decide +kernel
theorem dL_product_7 : decode cL_product 7 = .ok (.i2l, 1) := by decide +kernel
theorem dL_product_8 : decode cL_product 8 = .ok (.lastore, 1) := by decide +kernel
theorem dL_product_9 : decode cL_product 9 = .ok (.goto 9, 3) := by decide +kernel
theorem dL_product_12 : decode cL_product 12 = .ok (.astore_n 3, 1) := by decide +kernel
theorem dL_product_13 : decode cL_product 13 = .ok (.iconst 1, 1) := by decide +kernel
theorem dL_product_14 : decode cL_product 14 = .ok (.ireturn, 1) := by decide +kernel
theorem dL_product_15 : decode cL_product 15 = .ok (.astore_n 3, 1) := by decide +kernel
theorem dL_product_16 : decode cL_product 16 = .ok (.iconst 2, 1) := by decide +kernel
theorem dL_product_17 : decode cL_product 17 = .ok (.ireturn, 1) := by decide +kernel
theorem dL_product_18 : decode cL_product 18 = .ok (.iconst 0, 1) := by decide +kernel
theorem dL_product_19 : decode cL_product 19 = .ok (.ireturn, 1) := by decide +kernel
set_option maxHeartbeats 1000000 in
set_option maxRecDepth 100000 in
theorem l_product (de : Nat) (w : Wd) (x ou : Nat) (a0 : Int32) (Post : Option Value → Wd → Prop) (PX : String → Wd → Prop) (hC : Cw yX9_product cX9_product 2 (some .int) 7 171 8 1450 de [.ref x, .int a0] w Post PX) (hx : kd w x = 11) (ho : kd w ou = 2994) (hk : ∀ r w', Post r w' → ∃ v, r = some (.int v) ∧ kd w' ou = 2994 ∧ aL w' ou = 1) (hE : ∀ E w', PX E w' → E = "java/lang/IllegalArgumentException" ∨ E = "java/lang/IllegalStateException") : CtH yL_product cL_product 4 (some .int) [(0, 9, 12, 13), (0, 9, 15, 15)] 8 192 8 1450 de [.ref x, .int a0, .ref ou] w (fun r w' => (∃ v w1, Post (some (.int v)) w1 ∧ r = some (.int 0) ∧ w' = pAJ w1 2994 ou 0 v.toInt64) ∨ (PX "java/lang/IllegalArgumentException" w' ∧ r = some (.int 1)) ∨ (PX "java/lang/IllegalStateException" w' ∧ r = some (.int 2))) := by
  refine CtH.mk (by decide +kernel) [(0, .ref x), (1, .int a0), (2, .ref ou)] rfl (Nat.le_of_ble_eq_true rfl) ?_
  intro p l e R s m args below meth c D cy z C ht hN
  refine g_aload_n C dL_product_0 rfl ?_
  refine g_iconst C 0 dL_product_1 (by rfl) ?_
  refine g_aload_n C dL_product_2 rfl ?_
  refine g_iload_n C dL_product_3 rfl ?_
  refine gx_callV C cls_10 11 mt_X9_product [.int a0] hC hx (by decide) k_493 rfl rfl (Nat.le_of_ble_eq_true rfl) (by decide) (by decide) (by decide) (by decide) dL_product_4 (fun E9 w9 hx9 => ?_) (fun r9 w9 hp9 => ?_)
  · rcases hE E9 w9 hx9 with rfl | rfl
    · refine gx_catch C [] ⟨0, 9, 12, 13⟩ [⟨0, 9, 15, 15⟩] ht (fun q hq => by cases hq) (by decide) (by decide) k_180 cs_IAE (fun q9 => ?_)
      refine g_astore_n C dL_product_12 (by decide) ?_
      refine g_iconst C 1 dL_product_13 (by rfl) ?_
      refine g_iret C rfl rfl (by decide) (by decide) dL_product_14 ?_
      exact Or.inr (Or.inl (⟨hx9, rfl⟩))
    · refine gx_catch C [⟨0, 9, 12, 13⟩] ⟨0, 9, 15, 15⟩ [] ht (fun q hq => by
        simp only [List.mem_cons, List.not_mem_nil, or_false] at hq
        rcases hq with rfl
        · exact ⟨by decide, _, k_180, hN.2.2⟩) (by decide) (by decide) k_181 cs_ISE (fun q9 => ?_)
      refine g_astore_n C dL_product_15 (by decide) ?_
      refine g_iconst C 2 dL_product_16 (by rfl) ?_
      refine g_iret C rfl rfl (by decide) (by decide) dL_product_17 ?_
      exact Or.inr (Or.inr (⟨hx9, rfl⟩))
  obtain ⟨v, rfl, ho1, ho2⟩ := hk r9 w9 hp9
  refine g_i2l C dL_product_7 ?_
  refine g_last C 2994 (by first | exact ho | exact ho1) rfl (show vp_in (nI 0) (aL w9 ou) by rw [ho2]; exact nI_vp (by omega) (by omega)) dL_product_8 ?_
  rw [show (0 : Int32).toNatClampNeg = 0 by decide]
  refine g_goto C 18 dL_product_9 (by decide) ?_
  refine g_iconst C 0 dL_product_18 (by rfl) ?_
  refine g_iret C rfl rfl (by decide) (by decide) dL_product_19 ?_
  exact Or.inl ⟨v, w9, hp9, rfl, rfl⟩
theorem mt_L_farm : MthH yL_farm cL_farm 5 (some .int) [(0, 10, 13, 13), (0, 10, 17, 15)] 4 := ⟨k_508, k_0, k_507, by decide, by decide +kernel⟩
theorem dL_farm_0 : decode cL_farm 0 = .ok (.aload_n 3, 1) := by decide +kernel
theorem dL_farm_1 : decode cL_farm 1 = .ok (.iconst 0, 1) := by decide +kernel
theorem dL_farm_2 : decode cL_farm 2 = .ok (.aload_n 0, 1) := by decide +kernel
theorem dL_farm_3 : decode cL_farm 3 = .ok (.iload_n 1, 1) := by decide +kernel
theorem dL_farm_4 : decode cL_farm 4 = .ok (.iload_n 2, 1) := by decide +kernel
theorem dL_farm_5 : decode cL_farm 5 = .ok (.invokevirtual 34, 3) := by decide +kernel
theorem dL_farm_8 : decode cL_farm 8 = .ok (.i2l, 1) := by decide +kernel
theorem dL_farm_9 : decode cL_farm 9 = .ok (.lastore, 1) := by decide +kernel
theorem dL_farm_10 : decode cL_farm 10 = .ok (.goto 11, 3) := by decide +kernel
theorem dL_farm_13 : decode cL_farm 13 = .ok (.astore 4, 2) := by decide +kernel
theorem dL_farm_15 : decode cL_farm 15 = .ok (.iconst 1, 1) := by decide +kernel
theorem dL_farm_16 : decode cL_farm 16 = .ok (.ireturn, 1) := by decide +kernel
theorem dL_farm_17 : decode cL_farm 17 = .ok (.astore 4, 2) := by decide +kernel
theorem dL_farm_19 : decode cL_farm 19 = .ok (.iconst 2, 1) := by decide +kernel
theorem dL_farm_20 : decode cL_farm 20 = .ok (.ireturn, 1) := by decide +kernel
theorem dL_farm_21 : decode cL_farm 21 = .ok (.iconst 0, 1) := by decide +kernel
theorem dL_farm_22 : decode cL_farm 22 = .ok (.ireturn, 1) := by decide +kernel
set_option maxHeartbeats 1000000 in
set_option maxRecDepth 100000 in
theorem l_farm (de : Nat) (w : Wd) (x ou : Nat) (a0 a1 : Int32) (Post : Option Value → Wd → Prop) (PX : String → Wd → Prop) (hC : Cw yX9_farm cX9_farm 4 (some .int) 7 171 8 1450 de [.ref x, .int a0, .int a1] w Post PX) (hx : kd w x = 11) (ho : kd w ou = 2994) (hk : ∀ r w', Post r w' → ∃ v, r = some (.int v) ∧ kd w' ou = 2994 ∧ aL w' ou = 1) (hE : ∀ E w', PX E w' → E = "java/lang/IllegalArgumentException" ∨ E = "java/lang/IllegalStateException") : CtH yL_farm cL_farm 5 (some .int) [(0, 10, 13, 13), (0, 10, 17, 15)] 8 194 8 1450 de [.ref x, .int a0, .int a1, .ref ou] w (fun r w' => (∃ v w1, Post (some (.int v)) w1 ∧ r = some (.int 0) ∧ w' = pAJ w1 2994 ou 0 v.toInt64) ∨ (PX "java/lang/IllegalArgumentException" w' ∧ r = some (.int 1)) ∨ (PX "java/lang/IllegalStateException" w' ∧ r = some (.int 2))) := by
  refine CtH.mk (by decide +kernel) [(0, .ref x), (1, .int a0), (2, .int a1), (3, .ref ou)] rfl (Nat.le_of_ble_eq_true rfl) ?_
  intro p l e R s m args below meth c D cy z C ht hN
  refine g_aload_n C dL_farm_0 rfl ?_
  refine g_iconst C 0 dL_farm_1 (by rfl) ?_
  refine g_aload_n C dL_farm_2 rfl ?_
  refine g_iload_n C dL_farm_3 rfl ?_
  refine g_iload_n C dL_farm_4 rfl ?_
  refine gx_callV C cls_10 11 mt_X9_farm [.int a0, .int a1] hC hx (by decide) k_509 rfl rfl (Nat.le_of_ble_eq_true rfl) (by decide) (by decide) (by decide) (by decide) dL_farm_5 (fun E9 w9 hx9 => ?_) (fun r9 w9 hp9 => ?_)
  · rcases hE E9 w9 hx9 with rfl | rfl
    · refine gx_catch C [] ⟨0, 10, 13, 13⟩ [⟨0, 10, 17, 15⟩] ht (fun q hq => by cases hq) (by decide) (by decide) k_180 cs_IAE (fun q9 => ?_)
      refine g_astore C dL_farm_13 (by decide) ?_
      refine g_iconst C 1 dL_farm_15 (by rfl) ?_
      refine g_iret C rfl rfl (by decide) (by decide) dL_farm_16 ?_
      exact Or.inr (Or.inl (⟨hx9, rfl⟩))
    · refine gx_catch C [⟨0, 10, 13, 13⟩] ⟨0, 10, 17, 15⟩ [] ht (fun q hq => by
        simp only [List.mem_cons, List.not_mem_nil, or_false] at hq
        rcases hq with rfl
        · exact ⟨by decide, _, k_180, hN.2.2⟩) (by decide) (by decide) k_181 cs_ISE (fun q9 => ?_)
      refine g_astore C dL_farm_17 (by decide) ?_
      refine g_iconst C 2 dL_farm_19 (by rfl) ?_
      refine g_iret C rfl rfl (by decide) (by decide) dL_farm_20 ?_
      exact Or.inr (Or.inr (⟨hx9, rfl⟩))
  obtain ⟨v, rfl, ho1, ho2⟩ := hk r9 w9 hp9
  refine g_i2l C dL_farm_8 ?_
  refine g_last C 2994 (by first | exact ho | exact ho1) rfl (show vp_in (nI 0) (aL w9 ou) by rw [ho2]; exact nI_vp (by omega) (by omega)) dL_farm_9 ?_
  rw [show (0 : Int32).toNatClampNeg = 0 by decide]
  refine g_goto C 21 dL_farm_10 (by decide) ?_
  refine g_iconst C 0 dL_farm_21 (by rfl) ?_
  refine g_iret C rfl rfl (by decide) (by decide) dL_farm_22 ?_
  exact Or.inl ⟨v, w9, hp9, rfl, rfl⟩
theorem mt_L_lend : MthH yL_lend cL_lend 5 (some .int) [(0, 10, 13, 21), (0, 10, 17, 13), (0, 10, 21, 15)] 4 := ⟨k_564, k_0, k_563, by decide, by decide +kernel⟩
theorem dL_lend_0 : decode cL_lend 0 = .ok (.aload_n 3, 1) := by decide +kernel
theorem dL_lend_1 : decode cL_lend 1 = .ok (.iconst 0, 1) := by decide +kernel
theorem dL_lend_2 : decode cL_lend 2 = .ok (.aload_n 0, 1) := by decide +kernel
theorem dL_lend_3 : decode cL_lend 3 = .ok (.iload_n 1, 1) := by decide +kernel
theorem dL_lend_4 : decode cL_lend 4 = .ok (.iload_n 2, 1) := by decide +kernel
theorem dL_lend_5 : decode cL_lend 5 = .ok (.invokevirtual 37, 3) := by decide +kernel
theorem dL_lend_8 : decode cL_lend 8 = .ok (.i2l, 1) := by decide +kernel
theorem dL_lend_9 : decode cL_lend 9 = .ok (.lastore, 1) := by decide +kernel
theorem dL_lend_10 : decode cL_lend 10 = .ok (.goto 15, 3) := by decide +kernel
theorem dL_lend_13 : decode cL_lend 13 = .ok (.astore 4, 2) := by decide +kernel
theorem dL_lend_15 : decode cL_lend 15 = .ok (.iconst 1, 1) := by decide +kernel
theorem dL_lend_16 : decode cL_lend 16 = .ok (.ireturn, 1) := by decide +kernel
theorem dL_lend_17 : decode cL_lend 17 = .ok (.astore 4, 2) := by decide +kernel
theorem dL_lend_19 : decode cL_lend 19 = .ok (.iconst 2, 1) := by decide +kernel
theorem dL_lend_20 : decode cL_lend 20 = .ok (.ireturn, 1) := by decide +kernel
theorem dL_lend_21 : decode cL_lend 21 = .ok (.astore 4, 2) := by decide +kernel
theorem dL_lend_23 : decode cL_lend 23 = .ok (.iconst 3, 1) := by decide +kernel
theorem dL_lend_24 : decode cL_lend 24 = .ok (.ireturn, 1) := by decide +kernel
theorem dL_lend_25 : decode cL_lend 25 = .ok (.iconst 0, 1) := by decide +kernel
theorem dL_lend_26 : decode cL_lend 26 = .ok (.ireturn, 1) := by decide +kernel
set_option maxHeartbeats 1000000 in
set_option maxRecDepth 100000 in
theorem l_lend (de : Nat) (w : Wd) (x ou : Nat) (a0 a1 : Int32) (Post : Option Value → Wd → Prop) (PX : String → Wd → Prop) (hC : Cw yX9_lend cX9_lend 4 (some .int) 7 111 5 30 de [.ref x, .int a0, .int a1] w Post PX) (hx : kd w x = 11) (ho : kd w ou = 2994) (hk : ∀ r w', Post r w' → ∃ v, r = some (.int v) ∧ kd w' ou = 2994 ∧ aL w' ou = 1) (hE : ∀ E w', PX E w' → E = "java/lang/IndexOutOfBoundsException" ∨ E = "java/lang/IllegalArgumentException" ∨ E = "java/lang/IllegalStateException") : CtH yL_lend cL_lend 5 (some .int) [(0, 10, 13, 21), (0, 10, 17, 13), (0, 10, 21, 15)] 8 134 5 30 de [.ref x, .int a0, .int a1, .ref ou] w (fun r w' => (∃ v w1, Post (some (.int v)) w1 ∧ r = some (.int 0) ∧ w' = pAJ w1 2994 ou 0 v.toInt64) ∨ (PX "java/lang/IndexOutOfBoundsException" w' ∧ r = some (.int 1)) ∨ (PX "java/lang/IllegalArgumentException" w' ∧ r = some (.int 2)) ∨ (PX "java/lang/IllegalStateException" w' ∧ r = some (.int 3))) := by
  refine CtH.mk (by decide +kernel) [(0, .ref x), (1, .int a0), (2, .int a1), (3, .ref ou)] rfl (Nat.le_of_ble_eq_true rfl) ?_
  intro p l e R s m args below meth c D cy z C ht hN
  refine g_aload_n C dL_lend_0 rfl ?_
  refine g_iconst C 0 dL_lend_1 (by rfl) ?_
  refine g_aload_n C dL_lend_2 rfl ?_
  refine g_iload_n C dL_lend_3 rfl ?_
  refine g_iload_n C dL_lend_4 rfl ?_
  refine gx_callV C cls_10 11 mt_X9_lend [.int a0, .int a1] hC hx (by decide) k_565 rfl rfl (Nat.le_of_ble_eq_true rfl) (by decide) (by decide) (by decide) (by decide) dL_lend_5 (fun E9 w9 hx9 => ?_) (fun r9 w9 hp9 => ?_)
  · rcases hE E9 w9 hx9 with rfl | rfl | rfl
    · refine gx_catch C [] ⟨0, 10, 13, 21⟩ [⟨0, 10, 17, 13⟩, ⟨0, 10, 21, 15⟩] ht (fun q hq => by cases hq) (by decide) (by decide) k_374 cs_IOB (fun q9 => ?_)
      refine g_astore C dL_lend_13 (by decide) ?_
      refine g_iconst C 1 dL_lend_15 (by rfl) ?_
      refine g_iret C rfl rfl (by decide) (by decide) dL_lend_16 ?_
      exact Or.inr (Or.inl (⟨hx9, rfl⟩))
    · refine gx_catch C [⟨0, 10, 13, 21⟩] ⟨0, 10, 17, 13⟩ [⟨0, 10, 21, 15⟩] ht (fun q hq => by
        simp only [List.mem_cons, List.not_mem_nil, or_false] at hq
        rcases hq with rfl
        · exact ⟨by decide, _, k_374, hN.1⟩) (by decide) (by decide) k_180 cs_IAE (fun q9 => ?_)
      refine g_astore C dL_lend_17 (by decide) ?_
      refine g_iconst C 2 dL_lend_19 (by rfl) ?_
      refine g_iret C rfl rfl (by decide) (by decide) dL_lend_20 ?_
      exact Or.inr (Or.inr (Or.inl (⟨hx9, rfl⟩)))
    · refine gx_catch C [⟨0, 10, 13, 21⟩, ⟨0, 10, 17, 13⟩] ⟨0, 10, 21, 15⟩ [] ht (fun q hq => by
        simp only [List.mem_cons, List.not_mem_nil, or_false] at hq
        rcases hq with rfl | rfl
        · exact ⟨by decide, _, k_374, hN.2.1⟩
        · exact ⟨by decide, _, k_180, hN.2.2⟩) (by decide) (by decide) k_181 cs_ISE (fun q9 => ?_)
      refine g_astore C dL_lend_21 (by decide) ?_
      refine g_iconst C 3 dL_lend_23 (by rfl) ?_
      refine g_iret C rfl rfl (by decide) (by decide) dL_lend_24 ?_
      exact Or.inr (Or.inr (Or.inr (⟨hx9, rfl⟩)))
  obtain ⟨v, rfl, ho1, ho2⟩ := hk r9 w9 hp9
  refine g_i2l C dL_lend_8 ?_
  refine g_last C 2994 (by first | exact ho | exact ho1) rfl (show vp_in (nI 0) (aL w9 ou) by rw [ho2]; exact nI_vp (by omega) (by omega)) dL_lend_9 ?_
  rw [show (0 : Int32).toNatClampNeg = 0 by decide]
  refine g_goto C 25 dL_lend_10 (by decide) ?_
  refine g_iconst C 0 dL_lend_25 (by rfl) ?_
  refine g_iret C rfl rfl (by decide) (by decide) dL_lend_26 ?_
  exact Or.inl ⟨v, w9, hp9, rfl, rfl⟩
theorem mt_L_loading : MthH yL_loading cL_loading 4 (some .int) [(0, 9, 12, 13)] 3 := ⟨k_579, k_0, k_578, by decide, by decide +kernel⟩
theorem dL_loading_0 : decode cL_loading 0 = .ok (.aload_n 2, 1) := by decide +kernel
theorem dL_loading_1 : decode cL_loading 1 = .ok (.iconst 0, 1) := by decide +kernel
theorem dL_loading_2 : decode cL_loading 2 = .ok (.aload_n 0, 1) := by decide +kernel
theorem dL_loading_3 : decode cL_loading 3 = .ok (.iload_n 1, 1) := by decide +kernel
theorem dL_loading_4 : decode cL_loading 4 = .ok (.invokevirtual 40, 3) := by decide +kernel
theorem dL_loading_7 : decode cL_loading 7 = .ok (.i2l, 1) := by decide +kernel
theorem dL_loading_8 : decode cL_loading 8 = .ok (.lastore, 1) := by decide +kernel
theorem dL_loading_9 : decode cL_loading 9 = .ok (.goto 6, 3) := by decide +kernel
theorem dL_loading_12 : decode cL_loading 12 = .ok (.astore_n 3, 1) := by decide +kernel
theorem dL_loading_13 : decode cL_loading 13 = .ok (.iconst 1, 1) := by decide +kernel
theorem dL_loading_14 : decode cL_loading 14 = .ok (.ireturn, 1) := by decide +kernel
theorem dL_loading_15 : decode cL_loading 15 = .ok (.iconst 0, 1) := by decide +kernel
theorem dL_loading_16 : decode cL_loading 16 = .ok (.ireturn, 1) := by decide +kernel
set_option maxHeartbeats 1000000 in
set_option maxRecDepth 100000 in
theorem l_loading (de : Nat) (w : Wd) (x ou : Nat) (a0 : Int32) (Post : Option Value → Wd → Prop) (PX : String → Wd → Prop) (hC : Cw yX9_loading cX9_loading 3 (some .int) 6 90 5 30 de [.ref x, .int a0] w Post PX) (hx : kd w x = 11) (ho : kd w ou = 2994) (hk : ∀ r w', Post r w' → ∃ v, r = some (.int v) ∧ kd w' ou = 2994 ∧ aL w' ou = 1) (hE : ∀ E w', PX E w' → E = "java/lang/IllegalArgumentException") : CtH yL_loading cL_loading 4 (some .int) [(0, 9, 12, 13)] 7 112 5 30 de [.ref x, .int a0, .ref ou] w (fun r w' => (∃ v w1, Post (some (.int v)) w1 ∧ r = some (.int 0) ∧ w' = pAJ w1 2994 ou 0 v.toInt64) ∨ (PX "java/lang/IllegalArgumentException" w' ∧ r = some (.int 1))) := by
  refine CtH.mk (by decide +kernel) [(0, .ref x), (1, .int a0), (2, .ref ou)] rfl (Nat.le_of_ble_eq_true rfl) ?_
  intro p l e R s m args below meth c D cy z C ht hN
  refine g_aload_n C dL_loading_0 rfl ?_
  refine g_iconst C 0 dL_loading_1 (by rfl) ?_
  refine g_aload_n C dL_loading_2 rfl ?_
  refine g_iload_n C dL_loading_3 rfl ?_
  refine gx_callV C cls_10 11 mt_X9_loading [.int a0] hC hx (by decide) k_580 rfl rfl (Nat.le_of_ble_eq_true rfl) (by decide) (by decide) (by decide) (by decide) dL_loading_4 (fun E9 w9 hx9 => ?_) (fun r9 w9 hp9 => ?_)
  · rcases hE E9 w9 hx9 with rfl
    · refine gx_catch C [] ⟨0, 9, 12, 13⟩ [] ht (fun q hq => by cases hq) (by decide) (by decide) k_180 cs_IAE (fun q9 => ?_)
      refine g_astore_n C dL_loading_12 (by decide) ?_
      refine g_iconst C 1 dL_loading_13 (by rfl) ?_
      refine g_iret C rfl rfl (by decide) (by decide) dL_loading_14 ?_
      exact Or.inr (⟨hx9, rfl⟩)
  obtain ⟨v, rfl, ho1, ho2⟩ := hk r9 w9 hp9
  refine g_i2l C dL_loading_7 ?_
  refine g_last C 2994 (by first | exact ho | exact ho1) rfl (show vp_in (nI 0) (aL w9 ou) by rw [ho2]; exact nI_vp (by omega) (by omega)) dL_loading_8 ?_
  rw [show (0 : Int32).toNatClampNeg = 0 by decide]
  refine g_goto C 15 dL_loading_9 (by decide) ?_
  refine g_iconst C 0 dL_loading_15 (by rfl) ?_
  refine g_iret C rfl rfl (by decide) (by decide) dL_loading_16 ?_
  exact Or.inl ⟨v, w9, hp9, rfl, rfl⟩
theorem mt_L_layer : MthH yL_layer cL_layer 5 (some .int) [(0, 10, 13, 13)] 4 := ⟨k_587, k_0, k_586, by decide, by decide +kernel⟩
theorem dL_layer_0 : decode cL_layer 0 = .ok (.aload_n 3, 1) := by decide +kernel
theorem dL_layer_1 : decode cL_layer 1 = .ok (.iconst 0, 1) := by decide +kernel
theorem dL_layer_2 : decode cL_layer 2 = .ok (.aload_n 0, 1) := by decide +kernel
theorem dL_layer_3 : decode cL_layer 3 = .ok (.iload_n 1, 1) := by decide +kernel
theorem dL_layer_4 : decode cL_layer 4 = .ok (.iload_n 2, 1) := by decide +kernel
theorem dL_layer_5 : decode cL_layer 5 = .ok (.invokevirtual 43, 3) := by decide +kernel
theorem dL_layer_8 : decode cL_layer 8 = .ok (.i2l, 1) := by decide +kernel
theorem dL_layer_9 : decode cL_layer 9 = .ok (.lastore, 1) := by decide +kernel
theorem dL_layer_10 : decode cL_layer 10 = .ok (.goto 7, 3) := by decide +kernel
theorem dL_layer_13 : decode cL_layer 13 = .ok (.astore 4, 2) := by decide +kernel
theorem dL_layer_15 : decode cL_layer 15 = .ok (.iconst 1, 1) := by decide +kernel
theorem dL_layer_16 : decode cL_layer 16 = .ok (.ireturn, 1) := by decide +kernel
theorem dL_layer_17 : decode cL_layer 17 = .ok (.iconst 0, 1) := by decide +kernel
theorem dL_layer_18 : decode cL_layer 18 = .ok (.ireturn, 1) := by decide +kernel
set_option maxHeartbeats 1000000 in
set_option maxRecDepth 100000 in
theorem l_layer (de : Nat) (w : Wd) (x ou : Nat) (a0 a1 : Int32) (Post : Option Value → Wd → Prop) (PX : String → Wd → Prop) (hC : Cw yX9_layer cX9_layer 4 (some .int) 6 90 5 30 de [.ref x, .int a0, .int a1] w Post PX) (hx : kd w x = 11) (ho : kd w ou = 2994) (hk : ∀ r w', Post r w' → ∃ v, r = some (.int v) ∧ kd w' ou = 2994 ∧ aL w' ou = 1) (hE : ∀ E w', PX E w' → E = "java/lang/IllegalArgumentException") : CtH yL_layer cL_layer 5 (some .int) [(0, 10, 13, 13)] 7 113 5 30 de [.ref x, .int a0, .int a1, .ref ou] w (fun r w' => (∃ v w1, Post (some (.int v)) w1 ∧ r = some (.int 0) ∧ w' = pAJ w1 2994 ou 0 v.toInt64) ∨ (PX "java/lang/IllegalArgumentException" w' ∧ r = some (.int 1))) := by
  refine CtH.mk (by decide +kernel) [(0, .ref x), (1, .int a0), (2, .int a1), (3, .ref ou)] rfl (Nat.le_of_ble_eq_true rfl) ?_
  intro p l e R s m args below meth c D cy z C ht hN
  refine g_aload_n C dL_layer_0 rfl ?_
  refine g_iconst C 0 dL_layer_1 (by rfl) ?_
  refine g_aload_n C dL_layer_2 rfl ?_
  refine g_iload_n C dL_layer_3 rfl ?_
  refine g_iload_n C dL_layer_4 rfl ?_
  refine gx_callV C cls_10 11 mt_X9_layer [.int a0, .int a1] hC hx (by decide) k_588 rfl rfl (Nat.le_of_ble_eq_true rfl) (by decide) (by decide) (by decide) (by decide) dL_layer_5 (fun E9 w9 hx9 => ?_) (fun r9 w9 hp9 => ?_)
  · rcases hE E9 w9 hx9 with rfl
    · refine gx_catch C [] ⟨0, 10, 13, 13⟩ [] ht (fun q hq => by cases hq) (by decide) (by decide) k_180 cs_IAE (fun q9 => ?_)
      refine g_astore C dL_layer_13 (by decide) ?_
      refine g_iconst C 1 dL_layer_15 (by rfl) ?_
      refine g_iret C rfl rfl (by decide) (by decide) dL_layer_16 ?_
      exact Or.inr (⟨hx9, rfl⟩)
  obtain ⟨v, rfl, ho1, ho2⟩ := hk r9 w9 hp9
  refine g_i2l C dL_layer_8 ?_
  refine g_last C 2994 (by first | exact ho | exact ho1) rfl (show vp_in (nI 0) (aL w9 ou) by rw [ho2]; exact nI_vp (by omega) (by omega)) dL_layer_9 ?_
  rw [show (0 : Int32).toNatClampNeg = 0 by decide]
  refine g_goto C 17 dL_layer_10 (by decide) ?_
  refine g_iconst C 0 dL_layer_17 (by rfl) ?_
  refine g_iret C rfl rfl (by decide) (by decide) dL_layer_18 ?_
  exact Or.inl ⟨v, w9, hp9, rfl, rfl⟩
theorem mt_L_sell : MthH yL_sell cL_sell 7 (some .int) [(0, 14, 17, 21), (0, 14, 21, 13), (0, 14, 25, 15)] 6 := ⟨k_595, k_0, k_594, by decide, by decide +kernel⟩
theorem dL_sell_0 : decode cL_sell 0 = .ok (.aload 5, 2) := by decide +kernel
theorem dL_sell_2 : decode cL_sell 2 = .ok (.iconst 0, 1) := by decide +kernel
theorem dL_sell_3 : decode cL_sell 3 = .ok (.aload_n 0, 1) := by decide +kernel
theorem dL_sell_4 : decode cL_sell 4 = .ok (.iload_n 1, 1) := by decide +kernel
theorem dL_sell_5 : decode cL_sell 5 = .ok (.iload_n 2, 1) := by decide +kernel
theorem dL_sell_6 : decode cL_sell 6 = .ok (.iload_n 3, 1) := by decide +kernel
theorem dL_sell_7 : decode cL_sell 7 = .ok (.iload 4, 2) := by decide +kernel
theorem dL_sell_9 : decode cL_sell 9 = .ok (.invokevirtual 46, 3) := by decide +kernel
theorem dL_sell_12 : decode cL_sell 12 = .ok (.i2l, 1) := by decide +kernel
theorem dL_sell_13 : decode cL_sell 13 = .ok (.lastore, 1) := by decide +kernel
theorem dL_sell_14 : decode cL_sell 14 = .ok (.goto 15, 3) := by decide +kernel
theorem dL_sell_17 : decode cL_sell 17 = .ok (.astore 6, 2) := by decide +kernel
theorem dL_sell_19 : decode cL_sell 19 = .ok (.iconst 1, 1) := by decide +kernel
theorem dL_sell_20 : decode cL_sell 20 = .ok (.ireturn, 1) := by decide +kernel
theorem dL_sell_21 : decode cL_sell 21 = .ok (.astore 6, 2) := by decide +kernel
theorem dL_sell_23 : decode cL_sell 23 = .ok (.iconst 2, 1) := by decide +kernel
theorem dL_sell_24 : decode cL_sell 24 = .ok (.ireturn, 1) := by decide +kernel
theorem dL_sell_25 : decode cL_sell 25 = .ok (.astore 6, 2) := by decide +kernel
theorem dL_sell_27 : decode cL_sell 27 = .ok (.iconst 3, 1) := by decide +kernel
theorem dL_sell_28 : decode cL_sell 28 = .ok (.ireturn, 1) := by decide +kernel
theorem dL_sell_29 : decode cL_sell 29 = .ok (.iconst 0, 1) := by decide +kernel
theorem dL_sell_30 : decode cL_sell 30 = .ok (.ireturn, 1) := by decide +kernel
set_option maxHeartbeats 1000000 in
set_option maxRecDepth 100000 in
theorem l_sell (de : Nat) (w : Wd) (x ou : Nat) (a0 a1 a2 a3 : Int32) (Post : Option Value → Wd → Prop) (PX : String → Wd → Prop) (hC : Cw yX9_sell cX9_sell 9 (some .int) 7 171 8 1450 de [.ref x, .int a0, .int a1, .int a2, .int a3] w Post PX) (hx : kd w x = 11) (ho : kd w ou = 2994) (hk : ∀ r w', Post r w' → ∃ v, r = some (.int v) ∧ kd w' ou = 2994 ∧ aL w' ou = 1) (hE : ∀ E w', PX E w' → E = "java/lang/IndexOutOfBoundsException" ∨ E = "java/lang/IllegalArgumentException" ∨ E = "java/lang/IllegalStateException") : CtH yL_sell cL_sell 7 (some .int) [(0, 14, 17, 21), (0, 14, 21, 13), (0, 14, 25, 15)] 8 199 8 1450 de [.ref x, .int a0, .int a1, .int a2, .int a3, .ref ou] w (fun r w' => (∃ v w1, Post (some (.int v)) w1 ∧ r = some (.int 0) ∧ w' = pAJ w1 2994 ou 0 v.toInt64) ∨ (PX "java/lang/IndexOutOfBoundsException" w' ∧ r = some (.int 1)) ∨ (PX "java/lang/IllegalArgumentException" w' ∧ r = some (.int 2)) ∨ (PX "java/lang/IllegalStateException" w' ∧ r = some (.int 3))) := by
  refine CtH.mk (by decide +kernel) [(0, .ref x), (1, .int a0), (2, .int a1), (3, .int a2), (4, .int a3), (5, .ref ou)] rfl (Nat.le_of_ble_eq_true rfl) ?_
  intro p l e R s m args below meth c D cy z C ht hN
  refine g_aload C dL_sell_0 rfl ?_
  refine g_iconst C 0 dL_sell_2 (by rfl) ?_
  refine g_aload_n C dL_sell_3 rfl ?_
  refine g_iload_n C dL_sell_4 rfl ?_
  refine g_iload_n C dL_sell_5 rfl ?_
  refine g_iload_n C dL_sell_6 rfl ?_
  refine g_iload C dL_sell_7 rfl ?_
  refine gx_callV C cls_10 11 mt_X9_sell [.int a0, .int a1, .int a2, .int a3] hC hx (by decide) k_596 rfl rfl (Nat.le_of_ble_eq_true rfl) (by decide) (by decide) (by decide) (by decide) dL_sell_9 (fun E9 w9 hx9 => ?_) (fun r9 w9 hp9 => ?_)
  · rcases hE E9 w9 hx9 with rfl | rfl | rfl
    · refine gx_catch C [] ⟨0, 14, 17, 21⟩ [⟨0, 14, 21, 13⟩, ⟨0, 14, 25, 15⟩] ht (fun q hq => by cases hq) (by decide) (by decide) k_374 cs_IOB (fun q9 => ?_)
      refine g_astore C dL_sell_17 (by decide) ?_
      refine g_iconst C 1 dL_sell_19 (by rfl) ?_
      refine g_iret C rfl rfl (by decide) (by decide) dL_sell_20 ?_
      exact Or.inr (Or.inl (⟨hx9, rfl⟩))
    · refine gx_catch C [⟨0, 14, 17, 21⟩] ⟨0, 14, 21, 13⟩ [⟨0, 14, 25, 15⟩] ht (fun q hq => by
        simp only [List.mem_cons, List.not_mem_nil, or_false] at hq
        rcases hq with rfl
        · exact ⟨by decide, _, k_374, hN.1⟩) (by decide) (by decide) k_180 cs_IAE (fun q9 => ?_)
      refine g_astore C dL_sell_21 (by decide) ?_
      refine g_iconst C 2 dL_sell_23 (by rfl) ?_
      refine g_iret C rfl rfl (by decide) (by decide) dL_sell_24 ?_
      exact Or.inr (Or.inr (Or.inl (⟨hx9, rfl⟩)))
    · refine gx_catch C [⟨0, 14, 17, 21⟩, ⟨0, 14, 21, 13⟩] ⟨0, 14, 25, 15⟩ [] ht (fun q hq => by
        simp only [List.mem_cons, List.not_mem_nil, or_false] at hq
        rcases hq with rfl | rfl
        · exact ⟨by decide, _, k_374, hN.2.1⟩
        · exact ⟨by decide, _, k_180, hN.2.2⟩) (by decide) (by decide) k_181 cs_ISE (fun q9 => ?_)
      refine g_astore C dL_sell_25 (by decide) ?_
      refine g_iconst C 3 dL_sell_27 (by rfl) ?_
      refine g_iret C rfl rfl (by decide) (by decide) dL_sell_28 ?_
      exact Or.inr (Or.inr (Or.inr (⟨hx9, rfl⟩)))
  obtain ⟨v, rfl, ho1, ho2⟩ := hk r9 w9 hp9
  refine g_i2l C dL_sell_12 ?_
  refine g_last C 2994 (by first | exact ho | exact ho1) rfl (show vp_in (nI 0) (aL w9 ou) by rw [ho2]; exact nI_vp (by omega) (by omega)) dL_sell_13 ?_
  rw [show (0 : Int32).toNatClampNeg = 0 by decide]
  refine g_goto C 29 dL_sell_14 (by decide) ?_
  refine g_iconst C 0 dL_sell_29 (by rfl) ?_
  refine g_iret C rfl rfl (by decide) (by decide) dL_sell_30 ?_
  exact Or.inl ⟨v, w9, hp9, rfl, rfl⟩
theorem mt_L_settle : MthH yL_settle cL_settle 4 (some .int) [(0, 9, 12, 21), (0, 9, 15, 15)] 3 := ⟨k_740, k_0, k_739, by decide, by decide +kernel⟩
theorem dL_settle_0 : decode cL_settle 0 = .ok (.aload_n 2, 1) := by decide +kernel
theorem dL_settle_1 : decode cL_settle 1 = .ok (.iconst 0, 1) := by decide +kernel
theorem dL_settle_2 : decode cL_settle 2 = .ok (.aload_n 0, 1) := by decide +kernel
theorem dL_settle_3 : decode cL_settle 3 = .ok (.iload_n 1, 1) := by decide +kernel
theorem dL_settle_4 : decode cL_settle 4 = .ok (.invokevirtual 50, 3) := by decide +kernel
theorem dL_settle_7 : decode cL_settle 7 = .ok (.i2l, 1) := by decide +kernel
theorem dL_settle_8 : decode cL_settle 8 = .ok (.lastore, 1) := by decide +kernel
theorem dL_settle_9 : decode cL_settle 9 = .ok (.goto 9, 3) := by decide +kernel
theorem dL_settle_12 : decode cL_settle 12 = .ok (.astore_n 3, 1) := by decide +kernel
theorem dL_settle_13 : decode cL_settle 13 = .ok (.iconst 1, 1) := by decide +kernel
theorem dL_settle_14 : decode cL_settle 14 = .ok (.ireturn, 1) := by decide +kernel
theorem dL_settle_15 : decode cL_settle 15 = .ok (.astore_n 3, 1) := by decide +kernel
theorem dL_settle_16 : decode cL_settle 16 = .ok (.iconst 2, 1) := by decide +kernel
theorem dL_settle_17 : decode cL_settle 17 = .ok (.ireturn, 1) := by decide +kernel
theorem dL_settle_18 : decode cL_settle 18 = .ok (.iconst 0, 1) := by decide +kernel
theorem dL_settle_19 : decode cL_settle 19 = .ok (.ireturn, 1) := by decide +kernel
set_option maxHeartbeats 1000000 in
set_option maxRecDepth 100000 in
theorem l_settle (de : Nat) (w : Wd) (x ou : Nat) (a0 : Int32) (Post : Option Value → Wd → Prop) (PX : String → Wd → Prop) (hC : Cw yX9_settle cX9_settle 3 (some .int) 7 167 5 30 de [.ref x, .int a0] w Post PX) (hx : kd w x = 11) (ho : kd w ou = 2994) (hk : ∀ r w', Post r w' → ∃ v, r = some (.int v) ∧ kd w' ou = 2994 ∧ aL w' ou = 1) (hE : ∀ E w', PX E w' → E = "java/lang/IndexOutOfBoundsException" ∨ E = "java/lang/IllegalStateException") : CtH yL_settle cL_settle 4 (some .int) [(0, 9, 12, 21), (0, 9, 15, 15)] 8 189 5 30 de [.ref x, .int a0, .ref ou] w (fun r w' => (∃ v w1, Post (some (.int v)) w1 ∧ r = some (.int 0) ∧ w' = pAJ w1 2994 ou 0 v.toInt64) ∨ (PX "java/lang/IndexOutOfBoundsException" w' ∧ r = some (.int 1)) ∨ (PX "java/lang/IllegalStateException" w' ∧ r = some (.int 2))) := by
  refine CtH.mk (by decide +kernel) [(0, .ref x), (1, .int a0), (2, .ref ou)] rfl (Nat.le_of_ble_eq_true rfl) ?_
  intro p l e R s m args below meth c D cy z C ht hN
  refine g_aload_n C dL_settle_0 rfl ?_
  refine g_iconst C 0 dL_settle_1 (by rfl) ?_
  refine g_aload_n C dL_settle_2 rfl ?_
  refine g_iload_n C dL_settle_3 rfl ?_
  refine gx_callV C cls_10 11 mt_X9_settle [.int a0] hC hx (by decide) k_741 rfl rfl (Nat.le_of_ble_eq_true rfl) (by decide) (by decide) (by decide) (by decide) dL_settle_4 (fun E9 w9 hx9 => ?_) (fun r9 w9 hp9 => ?_)
  · rcases hE E9 w9 hx9 with rfl | rfl
    · refine gx_catch C [] ⟨0, 9, 12, 21⟩ [⟨0, 9, 15, 15⟩] ht (fun q hq => by cases hq) (by decide) (by decide) k_374 cs_IOB (fun q9 => ?_)
      refine g_astore_n C dL_settle_12 (by decide) ?_
      refine g_iconst C 1 dL_settle_13 (by rfl) ?_
      refine g_iret C rfl rfl (by decide) (by decide) dL_settle_14 ?_
      exact Or.inr (Or.inl (⟨hx9, rfl⟩))
    · refine gx_catch C [⟨0, 9, 12, 21⟩] ⟨0, 9, 15, 15⟩ [] ht (fun q hq => by
        simp only [List.mem_cons, List.not_mem_nil, or_false] at hq
        rcases hq with rfl
        · exact ⟨by decide, _, k_374, hN.2.1⟩) (by decide) (by decide) k_181 cs_ISE (fun q9 => ?_)
      refine g_astore_n C dL_settle_15 (by decide) ?_
      refine g_iconst C 2 dL_settle_16 (by rfl) ?_
      refine g_iret C rfl rfl (by decide) (by decide) dL_settle_17 ?_
      exact Or.inr (Or.inr (⟨hx9, rfl⟩))
  obtain ⟨v, rfl, ho1, ho2⟩ := hk r9 w9 hp9
  refine g_i2l C dL_settle_7 ?_
  refine g_last C 2994 (by first | exact ho | exact ho1) rfl (show vp_in (nI 0) (aL w9 ou) by rw [ho2]; exact nI_vp (by omega) (by omega)) dL_settle_8 ?_
  rw [show (0 : Int32).toNatClampNeg = 0 by decide]
  refine g_goto C 18 dL_settle_9 (by decide) ?_
  refine g_iconst C 0 dL_settle_18 (by rfl) ?_
  refine g_iret C rfl rfl (by decide) (by decide) dL_settle_19 ?_
  exact Or.inl ⟨v, w9, hp9, rfl, rfl⟩
theorem mt_L_loss : MthH yL_loss cL_loss 6 (some .int) [(0, 12, 15, 21), (0, 12, 19, 13), (0, 12, 23, 15)] 5 := ⟨k_779, k_0, k_778, by decide, by decide +kernel⟩
theorem dL_loss_0 : decode cL_loss 0 = .ok (.aload 4, 2) := by decide +kernel
theorem dL_loss_2 : decode cL_loss 2 = .ok (.iconst 0, 1) := by decide +kernel
theorem dL_loss_3 : decode cL_loss 3 = .ok (.aload_n 0, 1) := by decide +kernel
theorem dL_loss_4 : decode cL_loss 4 = .ok (.iload_n 1, 1) := by decide +kernel
theorem dL_loss_5 : decode cL_loss 5 = .ok (.iload_n 2, 1) := by decide +kernel
theorem dL_loss_6 : decode cL_loss 6 = .ok (.iload_n 3, 1) := by decide +kernel
theorem dL_loss_7 : decode cL_loss 7 = .ok (.invokevirtual 53, 3) := by decide +kernel
theorem dL_loss_10 : decode cL_loss 10 = .ok (.i2l, 1) := by decide +kernel
theorem dL_loss_11 : decode cL_loss 11 = .ok (.lastore, 1) := by decide +kernel
theorem dL_loss_12 : decode cL_loss 12 = .ok (.goto 15, 3) := by decide +kernel
theorem dL_loss_15 : decode cL_loss 15 = .ok (.astore 5, 2) := by decide +kernel
theorem dL_loss_17 : decode cL_loss 17 = .ok (.iconst 1, 1) := by decide +kernel
theorem dL_loss_18 : decode cL_loss 18 = .ok (.ireturn, 1) := by decide +kernel
theorem dL_loss_19 : decode cL_loss 19 = .ok (.astore 5, 2) := by decide +kernel
theorem dL_loss_21 : decode cL_loss 21 = .ok (.iconst 2, 1) := by decide +kernel
theorem dL_loss_22 : decode cL_loss 22 = .ok (.ireturn, 1) := by decide +kernel
theorem dL_loss_23 : decode cL_loss 23 = .ok (.astore 5, 2) := by decide +kernel
theorem dL_loss_25 : decode cL_loss 25 = .ok (.iconst 3, 1) := by decide +kernel
theorem dL_loss_26 : decode cL_loss 26 = .ok (.ireturn, 1) := by decide +kernel
theorem dL_loss_27 : decode cL_loss 27 = .ok (.iconst 0, 1) := by decide +kernel
theorem dL_loss_28 : decode cL_loss 28 = .ok (.ireturn, 1) := by decide +kernel
set_option maxHeartbeats 1000000 in
set_option maxRecDepth 100000 in
theorem l_loss (de : Nat) (w : Wd) (x ou : Nat) (a0 a1 a2 : Int32) (Post : Option Value → Wd → Prop) (PX : String → Wd → Prop) (hC : Cw yX9_loss cX9_loss 6 (some .int) 7 111 5 30 de [.ref x, .int a0, .int a1, .int a2] w Post PX) (hx : kd w x = 11) (ho : kd w ou = 2994) (hk : ∀ r w', Post r w' → ∃ v, r = some (.int v) ∧ kd w' ou = 2994 ∧ aL w' ou = 1) (hE : ∀ E w', PX E w' → E = "java/lang/IndexOutOfBoundsException" ∨ E = "java/lang/IllegalArgumentException" ∨ E = "java/lang/IllegalStateException") : CtH yL_loss cL_loss 6 (some .int) [(0, 12, 15, 21), (0, 12, 19, 13), (0, 12, 23, 15)] 8 136 5 30 de [.ref x, .int a0, .int a1, .int a2, .ref ou] w (fun r w' => (∃ v w1, Post (some (.int v)) w1 ∧ r = some (.int 0) ∧ w' = pAJ w1 2994 ou 0 v.toInt64) ∨ (PX "java/lang/IndexOutOfBoundsException" w' ∧ r = some (.int 1)) ∨ (PX "java/lang/IllegalArgumentException" w' ∧ r = some (.int 2)) ∨ (PX "java/lang/IllegalStateException" w' ∧ r = some (.int 3))) := by
  refine CtH.mk (by decide +kernel) [(0, .ref x), (1, .int a0), (2, .int a1), (3, .int a2), (4, .ref ou)] rfl (Nat.le_of_ble_eq_true rfl) ?_
  intro p l e R s m args below meth c D cy z C ht hN
  refine g_aload C dL_loss_0 rfl ?_
  refine g_iconst C 0 dL_loss_2 (by rfl) ?_
  refine g_aload_n C dL_loss_3 rfl ?_
  refine g_iload_n C dL_loss_4 rfl ?_
  refine g_iload_n C dL_loss_5 rfl ?_
  refine g_iload_n C dL_loss_6 rfl ?_
  refine gx_callV C cls_10 11 mt_X9_loss [.int a0, .int a1, .int a2] hC hx (by decide) k_780 rfl rfl (Nat.le_of_ble_eq_true rfl) (by decide) (by decide) (by decide) (by decide) dL_loss_7 (fun E9 w9 hx9 => ?_) (fun r9 w9 hp9 => ?_)
  · rcases hE E9 w9 hx9 with rfl | rfl | rfl
    · refine gx_catch C [] ⟨0, 12, 15, 21⟩ [⟨0, 12, 19, 13⟩, ⟨0, 12, 23, 15⟩] ht (fun q hq => by cases hq) (by decide) (by decide) k_374 cs_IOB (fun q9 => ?_)
      refine g_astore C dL_loss_15 (by decide) ?_
      refine g_iconst C 1 dL_loss_17 (by rfl) ?_
      refine g_iret C rfl rfl (by decide) (by decide) dL_loss_18 ?_
      exact Or.inr (Or.inl (⟨hx9, rfl⟩))
    · refine gx_catch C [⟨0, 12, 15, 21⟩] ⟨0, 12, 19, 13⟩ [⟨0, 12, 23, 15⟩] ht (fun q hq => by
        simp only [List.mem_cons, List.not_mem_nil, or_false] at hq
        rcases hq with rfl
        · exact ⟨by decide, _, k_374, hN.1⟩) (by decide) (by decide) k_180 cs_IAE (fun q9 => ?_)
      refine g_astore C dL_loss_19 (by decide) ?_
      refine g_iconst C 2 dL_loss_21 (by rfl) ?_
      refine g_iret C rfl rfl (by decide) (by decide) dL_loss_22 ?_
      exact Or.inr (Or.inr (Or.inl (⟨hx9, rfl⟩)))
    · refine gx_catch C [⟨0, 12, 15, 21⟩, ⟨0, 12, 19, 13⟩] ⟨0, 12, 23, 15⟩ [] ht (fun q hq => by
        simp only [List.mem_cons, List.not_mem_nil, or_false] at hq
        rcases hq with rfl | rfl
        · exact ⟨by decide, _, k_374, hN.2.1⟩
        · exact ⟨by decide, _, k_180, hN.2.2⟩) (by decide) (by decide) k_181 cs_ISE (fun q9 => ?_)
      refine g_astore C dL_loss_23 (by decide) ?_
      refine g_iconst C 3 dL_loss_25 (by rfl) ?_
      refine g_iret C rfl rfl (by decide) (by decide) dL_loss_26 ?_
      exact Or.inr (Or.inr (Or.inr (⟨hx9, rfl⟩)))
  obtain ⟨v, rfl, ho1, ho2⟩ := hk r9 w9 hp9
  refine g_i2l C dL_loss_10 ?_
  refine g_last C 2994 (by first | exact ho | exact ho1) rfl (show vp_in (nI 0) (aL w9 ou) by rw [ho2]; exact nI_vp (by omega) (by omega)) dL_loss_11 ?_
  rw [show (0 : Int32).toNatClampNeg = 0 by decide]
  refine g_goto C 27 dL_loss_12 (by decide) ?_
  refine g_iconst C 0 dL_loss_27 (by rfl) ?_
  refine g_iret C rfl rfl (by decide) (by decide) dL_loss_28 ?_
  exact Or.inl ⟨v, w9, hp9, rfl, rfl⟩
theorem mt_L_complain : MthH yL_complain cL_complain 5 (some .int) [(0, 10, 13, 21), (0, 10, 17, 15)] 4 := ⟨k_791, k_0, k_790, by decide, by decide +kernel⟩
theorem dL_complain_0 : decode cL_complain 0 = .ok (.aload_n 3, 1) := by decide +kernel
theorem dL_complain_1 : decode cL_complain 1 = .ok (.iconst 0, 1) := by decide +kernel
theorem dL_complain_2 : decode cL_complain 2 = .ok (.aload_n 0, 1) := by decide +kernel
theorem dL_complain_3 : decode cL_complain 3 = .ok (.iload_n 1, 1) := by decide +kernel
theorem dL_complain_4 : decode cL_complain 4 = .ok (.iload_n 2, 1) := by decide +kernel
theorem dL_complain_5 : decode cL_complain 5 = .ok (.invokevirtual 56, 3) := by decide +kernel
theorem dL_complain_8 : decode cL_complain 8 = .ok (.i2l, 1) := by decide +kernel
theorem dL_complain_9 : decode cL_complain 9 = .ok (.lastore, 1) := by decide +kernel
theorem dL_complain_10 : decode cL_complain 10 = .ok (.goto 11, 3) := by decide +kernel
theorem dL_complain_13 : decode cL_complain 13 = .ok (.astore 4, 2) := by decide +kernel
theorem dL_complain_15 : decode cL_complain 15 = .ok (.iconst 1, 1) := by decide +kernel
theorem dL_complain_16 : decode cL_complain 16 = .ok (.ireturn, 1) := by decide +kernel
theorem dL_complain_17 : decode cL_complain 17 = .ok (.astore 4, 2) := by decide +kernel
theorem dL_complain_19 : decode cL_complain 19 = .ok (.iconst 2, 1) := by decide +kernel
theorem dL_complain_20 : decode cL_complain 20 = .ok (.ireturn, 1) := by decide +kernel
theorem dL_complain_21 : decode cL_complain 21 = .ok (.iconst 0, 1) := by decide +kernel
theorem dL_complain_22 : decode cL_complain 22 = .ok (.ireturn, 1) := by decide +kernel
set_option maxHeartbeats 1000000 in
set_option maxRecDepth 100000 in
theorem l_complain (de : Nat) (w : Wd) (x ou : Nat) (a0 a1 : Int32) (Post : Option Value → Wd → Prop) (PX : String → Wd → Prop) (hC : Cw yX9_complain cX9_complain 5 (some .int) 7 116 5 30 de [.ref x, .int a0, .int a1] w Post PX) (hx : kd w x = 11) (ho : kd w ou = 2994) (hk : ∀ r w', Post r w' → ∃ v, r = some (.int v) ∧ kd w' ou = 2994 ∧ aL w' ou = 1) (hE : ∀ E w', PX E w' → E = "java/lang/IndexOutOfBoundsException" ∨ E = "java/lang/IllegalStateException") : CtH yL_complain cL_complain 5 (some .int) [(0, 10, 13, 21), (0, 10, 17, 15)] 8 140 5 30 de [.ref x, .int a0, .int a1, .ref ou] w (fun r w' => (∃ v w1, Post (some (.int v)) w1 ∧ r = some (.int 0) ∧ w' = pAJ w1 2994 ou 0 v.toInt64) ∨ (PX "java/lang/IndexOutOfBoundsException" w' ∧ r = some (.int 1)) ∨ (PX "java/lang/IllegalStateException" w' ∧ r = some (.int 2))) := by
  refine CtH.mk (by decide +kernel) [(0, .ref x), (1, .int a0), (2, .int a1), (3, .ref ou)] rfl (Nat.le_of_ble_eq_true rfl) ?_
  intro p l e R s m args below meth c D cy z C ht hN
  refine g_aload_n C dL_complain_0 rfl ?_
  refine g_iconst C 0 dL_complain_1 (by rfl) ?_
  refine g_aload_n C dL_complain_2 rfl ?_
  refine g_iload_n C dL_complain_3 rfl ?_
  refine g_iload_n C dL_complain_4 rfl ?_
  refine gx_callV C cls_10 11 mt_X9_complain [.int a0, .int a1] hC hx (by decide) k_792 rfl rfl (Nat.le_of_ble_eq_true rfl) (by decide) (by decide) (by decide) (by decide) dL_complain_5 (fun E9 w9 hx9 => ?_) (fun r9 w9 hp9 => ?_)
  · rcases hE E9 w9 hx9 with rfl | rfl
    · refine gx_catch C [] ⟨0, 10, 13, 21⟩ [⟨0, 10, 17, 15⟩] ht (fun q hq => by cases hq) (by decide) (by decide) k_374 cs_IOB (fun q9 => ?_)
      refine g_astore C dL_complain_13 (by decide) ?_
      refine g_iconst C 1 dL_complain_15 (by rfl) ?_
      refine g_iret C rfl rfl (by decide) (by decide) dL_complain_16 ?_
      exact Or.inr (Or.inl (⟨hx9, rfl⟩))
    · refine gx_catch C [⟨0, 10, 13, 21⟩] ⟨0, 10, 17, 15⟩ [] ht (fun q hq => by
        simp only [List.mem_cons, List.not_mem_nil, or_false] at hq
        rcases hq with rfl
        · exact ⟨by decide, _, k_374, hN.2.1⟩) (by decide) (by decide) k_181 cs_ISE (fun q9 => ?_)
      refine g_astore C dL_complain_17 (by decide) ?_
      refine g_iconst C 2 dL_complain_19 (by rfl) ?_
      refine g_iret C rfl rfl (by decide) (by decide) dL_complain_20 ?_
      exact Or.inr (Or.inr (⟨hx9, rfl⟩))
  obtain ⟨v, rfl, ho1, ho2⟩ := hk r9 w9 hp9
  refine g_i2l C dL_complain_8 ?_
  refine g_last C 2994 (by first | exact ho | exact ho1) rfl (show vp_in (nI 0) (aL w9 ou) by rw [ho2]; exact nI_vp (by omega) (by omega)) dL_complain_9 ?_
  rw [show (0 : Int32).toNatClampNeg = 0 by decide]
  refine g_goto C 21 dL_complain_10 (by decide) ?_
  refine g_iconst C 0 dL_complain_21 (by rfl) ?_
  refine g_iret C rfl rfl (by decide) (by decide) dL_complain_22 ?_
  exact Or.inl ⟨v, w9, hp9, rfl, rfl⟩
theorem mt_L_filled : MthH yL_filled cL_filled 6 (some .int) [(0, 12, 15, 21), (0, 12, 19, 13)] 5 := ⟨k_821, k_0, k_820, by decide, by decide +kernel⟩
theorem dL_filled_0 : decode cL_filled 0 = .ok (.aload 4, 2) := by decide +kernel
theorem dL_filled_2 : decode cL_filled 2 = .ok (.iconst 0, 1) := by decide +kernel
theorem dL_filled_3 : decode cL_filled 3 = .ok (.aload_n 0, 1) := by decide +kernel
theorem dL_filled_4 : decode cL_filled 4 = .ok (.iload_n 1, 1) := by decide +kernel
theorem dL_filled_5 : decode cL_filled 5 = .ok (.iload_n 2, 1) := by decide +kernel
theorem dL_filled_6 : decode cL_filled 6 = .ok (.iload_n 3, 1) := by decide +kernel
theorem dL_filled_7 : decode cL_filled 7 = .ok (.invokevirtual 59, 3) := by decide +kernel
theorem dL_filled_10 : decode cL_filled 10 = .ok (.i2l, 1) := by decide +kernel
theorem dL_filled_11 : decode cL_filled 11 = .ok (.lastore, 1) := by decide +kernel
theorem dL_filled_12 : decode cL_filled 12 = .ok (.goto 11, 3) := by decide +kernel
theorem dL_filled_15 : decode cL_filled 15 = .ok (.astore 5, 2) := by decide +kernel
theorem dL_filled_17 : decode cL_filled 17 = .ok (.iconst 1, 1) := by decide +kernel
theorem dL_filled_18 : decode cL_filled 18 = .ok (.ireturn, 1) := by decide +kernel
theorem dL_filled_19 : decode cL_filled 19 = .ok (.astore 5, 2) := by decide +kernel
theorem dL_filled_21 : decode cL_filled 21 = .ok (.iconst 2, 1) := by decide +kernel
theorem dL_filled_22 : decode cL_filled 22 = .ok (.ireturn, 1) := by decide +kernel
theorem dL_filled_23 : decode cL_filled 23 = .ok (.iconst 0, 1) := by decide +kernel
theorem dL_filled_24 : decode cL_filled 24 = .ok (.ireturn, 1) := by decide +kernel
set_option maxHeartbeats 1000000 in
set_option maxRecDepth 100000 in
theorem l_filled (de : Nat) (w : Wd) (x ou : Nat) (a0 a1 a2 : Int32) (Post : Option Value → Wd → Prop) (PX : String → Wd → Prop) (hC : Cw yX9_filled cX9_filled 5 (some .int) 7 111 5 30 de [.ref x, .int a0, .int a1, .int a2] w Post PX) (hx : kd w x = 11) (ho : kd w ou = 2994) (hk : ∀ r w', Post r w' → ∃ v, r = some (.int v) ∧ kd w' ou = 2994 ∧ aL w' ou = 1) (hE : ∀ E w', PX E w' → E = "java/lang/IndexOutOfBoundsException" ∨ E = "java/lang/IllegalArgumentException") : CtH yL_filled cL_filled 6 (some .int) [(0, 12, 15, 21), (0, 12, 19, 13)] 8 135 5 30 de [.ref x, .int a0, .int a1, .int a2, .ref ou] w (fun r w' => (∃ v w1, Post (some (.int v)) w1 ∧ r = some (.int 0) ∧ w' = pAJ w1 2994 ou 0 v.toInt64) ∨ (PX "java/lang/IndexOutOfBoundsException" w' ∧ r = some (.int 1)) ∨ (PX "java/lang/IllegalArgumentException" w' ∧ r = some (.int 2))) := by
  refine CtH.mk (by decide +kernel) [(0, .ref x), (1, .int a0), (2, .int a1), (3, .int a2), (4, .ref ou)] rfl (Nat.le_of_ble_eq_true rfl) ?_
  intro p l e R s m args below meth c D cy z C ht hN
  refine g_aload C dL_filled_0 rfl ?_
  refine g_iconst C 0 dL_filled_2 (by rfl) ?_
  refine g_aload_n C dL_filled_3 rfl ?_
  refine g_iload_n C dL_filled_4 rfl ?_
  refine g_iload_n C dL_filled_5 rfl ?_
  refine g_iload_n C dL_filled_6 rfl ?_
  refine gx_callV C cls_10 11 mt_X9_filled [.int a0, .int a1, .int a2] hC hx (by decide) k_822 rfl rfl (Nat.le_of_ble_eq_true rfl) (by decide) (by decide) (by decide) (by decide) dL_filled_7 (fun E9 w9 hx9 => ?_) (fun r9 w9 hp9 => ?_)
  · rcases hE E9 w9 hx9 with rfl | rfl
    · refine gx_catch C [] ⟨0, 12, 15, 21⟩ [⟨0, 12, 19, 13⟩] ht (fun q hq => by cases hq) (by decide) (by decide) k_374 cs_IOB (fun q9 => ?_)
      refine g_astore C dL_filled_15 (by decide) ?_
      refine g_iconst C 1 dL_filled_17 (by rfl) ?_
      refine g_iret C rfl rfl (by decide) (by decide) dL_filled_18 ?_
      exact Or.inr (Or.inl (⟨hx9, rfl⟩))
    · refine gx_catch C [⟨0, 12, 15, 21⟩] ⟨0, 12, 19, 13⟩ [] ht (fun q hq => by
        simp only [List.mem_cons, List.not_mem_nil, or_false] at hq
        rcases hq with rfl
        · exact ⟨by decide, _, k_374, hN.1⟩) (by decide) (by decide) k_180 cs_IAE (fun q9 => ?_)
      refine g_astore C dL_filled_19 (by decide) ?_
      refine g_iconst C 2 dL_filled_21 (by rfl) ?_
      refine g_iret C rfl rfl (by decide) (by decide) dL_filled_22 ?_
      exact Or.inr (Or.inr (⟨hx9, rfl⟩))
  obtain ⟨v, rfl, ho1, ho2⟩ := hk r9 w9 hp9
  refine g_i2l C dL_filled_10 ?_
  refine g_last C 2994 (by first | exact ho | exact ho1) rfl (show vp_in (nI 0) (aL w9 ou) by rw [ho2]; exact nI_vp (by omega) (by omega)) dL_filled_11 ?_
  rw [show (0 : Int32).toNatClampNeg = 0 by decide]
  refine g_goto C 23 dL_filled_12 (by decide) ?_
  refine g_iconst C 0 dL_filled_23 (by rfl) ?_
  refine g_iret C rfl rfl (by decide) (by decide) dL_filled_24 ?_
  exact Or.inl ⟨v, w9, hp9, rfl, rfl⟩
theorem mt_L_onset : MthH yL_onset cL_onset 6 (some .int) [(0, 12, 15, 21), (0, 12, 19, 13)] 5 := ⟨k_830, k_0, k_829, by decide, by decide +kernel⟩
theorem dL_onset_0 : decode cL_onset 0 = .ok (.aload 4, 2) := by decide +kernel
theorem dL_onset_2 : decode cL_onset 2 = .ok (.iconst 0, 1) := by decide +kernel
theorem dL_onset_3 : decode cL_onset 3 = .ok (.aload_n 0, 1) := by decide +kernel
theorem dL_onset_4 : decode cL_onset 4 = .ok (.iload_n 1, 1) := by decide +kernel
theorem dL_onset_5 : decode cL_onset 5 = .ok (.iload_n 2, 1) := by decide +kernel
theorem dL_onset_6 : decode cL_onset 6 = .ok (.iload_n 3, 1) := by decide +kernel
theorem dL_onset_7 : decode cL_onset 7 = .ok (.invokevirtual 62, 3) := by decide +kernel
theorem dL_onset_10 : decode cL_onset 10 = .ok (.i2l, 1) := by decide +kernel
theorem dL_onset_11 : decode cL_onset 11 = .ok (.lastore, 1) := by decide +kernel
theorem dL_onset_12 : decode cL_onset 12 = .ok (.goto 11, 3) := by decide +kernel
theorem dL_onset_15 : decode cL_onset 15 = .ok (.astore 5, 2) := by decide +kernel
theorem dL_onset_17 : decode cL_onset 17 = .ok (.iconst 1, 1) := by decide +kernel
theorem dL_onset_18 : decode cL_onset 18 = .ok (.ireturn, 1) := by decide +kernel
theorem dL_onset_19 : decode cL_onset 19 = .ok (.astore 5, 2) := by decide +kernel
theorem dL_onset_21 : decode cL_onset 21 = .ok (.iconst 2, 1) := by decide +kernel
theorem dL_onset_22 : decode cL_onset 22 = .ok (.ireturn, 1) := by decide +kernel
theorem dL_onset_23 : decode cL_onset 23 = .ok (.iconst 0, 1) := by decide +kernel
theorem dL_onset_24 : decode cL_onset 24 = .ok (.ireturn, 1) := by decide +kernel
set_option maxHeartbeats 1000000 in
set_option maxRecDepth 100000 in
theorem l_onset (de : Nat) (w : Wd) (x ou : Nat) (a0 a1 a2 : Int32) (Post : Option Value → Wd → Prop) (PX : String → Wd → Prop) (hC : Cw yX9_onset cX9_onset 6 (some .int) 7 119 5 30 de [.ref x, .int a0, .int a1, .int a2] w Post PX) (hx : kd w x = 11) (ho : kd w ou = 2994) (hk : ∀ r w', Post r w' → ∃ v, r = some (.int v) ∧ kd w' ou = 2994 ∧ aL w' ou = 1) (hE : ∀ E w', PX E w' → E = "java/lang/IndexOutOfBoundsException" ∨ E = "java/lang/IllegalArgumentException") : CtH yL_onset cL_onset 6 (some .int) [(0, 12, 15, 21), (0, 12, 19, 13)] 8 144 5 30 de [.ref x, .int a0, .int a1, .int a2, .ref ou] w (fun r w' => (∃ v w1, Post (some (.int v)) w1 ∧ r = some (.int 0) ∧ w' = pAJ w1 2994 ou 0 v.toInt64) ∨ (PX "java/lang/IndexOutOfBoundsException" w' ∧ r = some (.int 1)) ∨ (PX "java/lang/IllegalArgumentException" w' ∧ r = some (.int 2))) := by
  refine CtH.mk (by decide +kernel) [(0, .ref x), (1, .int a0), (2, .int a1), (3, .int a2), (4, .ref ou)] rfl (Nat.le_of_ble_eq_true rfl) ?_
  intro p l e R s m args below meth c D cy z C ht hN
  refine g_aload C dL_onset_0 rfl ?_
  refine g_iconst C 0 dL_onset_2 (by rfl) ?_
  refine g_aload_n C dL_onset_3 rfl ?_
  refine g_iload_n C dL_onset_4 rfl ?_
  refine g_iload_n C dL_onset_5 rfl ?_
  refine g_iload_n C dL_onset_6 rfl ?_
  refine gx_callV C cls_10 11 mt_X9_onset [.int a0, .int a1, .int a2] hC hx (by decide) k_831 rfl rfl (Nat.le_of_ble_eq_true rfl) (by decide) (by decide) (by decide) (by decide) dL_onset_7 (fun E9 w9 hx9 => ?_) (fun r9 w9 hp9 => ?_)
  · rcases hE E9 w9 hx9 with rfl | rfl
    · refine gx_catch C [] ⟨0, 12, 15, 21⟩ [⟨0, 12, 19, 13⟩] ht (fun q hq => by cases hq) (by decide) (by decide) k_374 cs_IOB (fun q9 => ?_)
      refine g_astore C dL_onset_15 (by decide) ?_
      refine g_iconst C 1 dL_onset_17 (by rfl) ?_
      refine g_iret C rfl rfl (by decide) (by decide) dL_onset_18 ?_
      exact Or.inr (Or.inl (⟨hx9, rfl⟩))
    · refine gx_catch C [⟨0, 12, 15, 21⟩] ⟨0, 12, 19, 13⟩ [] ht (fun q hq => by
        simp only [List.mem_cons, List.not_mem_nil, or_false] at hq
        rcases hq with rfl
        · exact ⟨by decide, _, k_374, hN.1⟩) (by decide) (by decide) k_180 cs_IAE (fun q9 => ?_)
      refine g_astore C dL_onset_19 (by decide) ?_
      refine g_iconst C 2 dL_onset_21 (by rfl) ?_
      refine g_iret C rfl rfl (by decide) (by decide) dL_onset_22 ?_
      exact Or.inr (Or.inr (⟨hx9, rfl⟩))
  obtain ⟨v, rfl, ho1, ho2⟩ := hk r9 w9 hp9
  refine g_i2l C dL_onset_10 ?_
  refine g_last C 2994 (by first | exact ho | exact ho1) rfl (show vp_in (nI 0) (aL w9 ou) by rw [ho2]; exact nI_vp (by omega) (by omega)) dL_onset_11 ?_
  rw [show (0 : Int32).toNatClampNeg = 0 by decide]
  refine g_goto C 23 dL_onset_12 (by decide) ?_
  refine g_iconst C 0 dL_onset_23 (by rfl) ?_
  refine g_iret C rfl rfl (by decide) (by decide) dL_onset_24 ?_
  exact Or.inl ⟨v, w9, hp9, rfl, rfl⟩
theorem mt_L_index : MthH yL_index cL_index 7 (some .int) [(0, 14, 17, 21)] 6 := ⟨k_838, k_0, k_837, by decide, by decide +kernel⟩
theorem dL_index_0 : decode cL_index 0 = .ok (.aload 5, 2) := by decide +kernel
theorem dL_index_2 : decode cL_index 2 = .ok (.iconst 0, 1) := by decide +kernel
theorem dL_index_3 : decode cL_index 3 = .ok (.aload_n 0, 1) := by decide +kernel
theorem dL_index_4 : decode cL_index 4 = .ok (.iload_n 1, 1) := by decide +kernel
theorem dL_index_5 : decode cL_index 5 = .ok (.iload_n 2, 1) := by decide +kernel
theorem dL_index_6 : decode cL_index 6 = .ok (.iload_n 3, 1) := by decide +kernel
theorem dL_index_7 : decode cL_index 7 = .ok (.iload 4, 2) := by decide +kernel
theorem dL_index_9 : decode cL_index 9 = .ok (.invokevirtual 65, 3) := by decide +kernel
theorem dL_index_12 : decode cL_index 12 = .ok (.i2l, 1) := by decide +kernel
theorem dL_index_13 : decode cL_index 13 = .ok (.lastore, 1) := by decide +kernel
theorem dL_index_14 : decode cL_index 14 = .ok (.goto 7, 3) := by decide +kernel
theorem dL_index_17 : decode cL_index 17 = .ok (.astore 6, 2) := by decide +kernel
theorem dL_index_19 : decode cL_index 19 = .ok (.iconst 1, 1) := by decide +kernel
theorem dL_index_20 : decode cL_index 20 = .ok (.ireturn, 1) := by decide +kernel
theorem dL_index_21 : decode cL_index 21 = .ok (.iconst 0, 1) := by decide +kernel
theorem dL_index_22 : decode cL_index 22 = .ok (.ireturn, 1) := by decide +kernel
set_option maxHeartbeats 1000000 in
set_option maxRecDepth 100000 in
theorem l_index (de : Nat) (w : Wd) (x ou : Nat) (a0 a1 a2 a3 : Int32) (Post : Option Value → Wd → Prop) (PX : String → Wd → Prop) (hC : Cw yX9_index cX9_index 7 (some .int) 7 119 5 30 de [.ref x, .int a0, .int a1, .int a2, .int a3] w Post PX) (hx : kd w x = 11) (ho : kd w ou = 2994) (hk : ∀ r w', Post r w' → ∃ v, r = some (.int v) ∧ kd w' ou = 2994 ∧ aL w' ou = 1) (hE : ∀ E w', PX E w' → E = "java/lang/IndexOutOfBoundsException") : CtH yL_index cL_index 7 (some .int) [(0, 14, 17, 21)] 8 145 5 30 de [.ref x, .int a0, .int a1, .int a2, .int a3, .ref ou] w (fun r w' => (∃ v w1, Post (some (.int v)) w1 ∧ r = some (.int 0) ∧ w' = pAJ w1 2994 ou 0 v.toInt64) ∨ (PX "java/lang/IndexOutOfBoundsException" w' ∧ r = some (.int 1))) := by
  refine CtH.mk (by decide +kernel) [(0, .ref x), (1, .int a0), (2, .int a1), (3, .int a2), (4, .int a3), (5, .ref ou)] rfl (Nat.le_of_ble_eq_true rfl) ?_
  intro p l e R s m args below meth c D cy z C ht hN
  refine g_aload C dL_index_0 rfl ?_
  refine g_iconst C 0 dL_index_2 (by rfl) ?_
  refine g_aload_n C dL_index_3 rfl ?_
  refine g_iload_n C dL_index_4 rfl ?_
  refine g_iload_n C dL_index_5 rfl ?_
  refine g_iload_n C dL_index_6 rfl ?_
  refine g_iload C dL_index_7 rfl ?_
  refine gx_callV C cls_10 11 mt_X9_index [.int a0, .int a1, .int a2, .int a3] hC hx (by decide) k_839 rfl rfl (Nat.le_of_ble_eq_true rfl) (by decide) (by decide) (by decide) (by decide) dL_index_9 (fun E9 w9 hx9 => ?_) (fun r9 w9 hp9 => ?_)
  · rcases hE E9 w9 hx9 with rfl
    · refine gx_catch C [] ⟨0, 14, 17, 21⟩ [] ht (fun q hq => by cases hq) (by decide) (by decide) k_374 cs_IOB (fun q9 => ?_)
      refine g_astore C dL_index_17 (by decide) ?_
      refine g_iconst C 1 dL_index_19 (by rfl) ?_
      refine g_iret C rfl rfl (by decide) (by decide) dL_index_20 ?_
      exact Or.inr (⟨hx9, rfl⟩)
  obtain ⟨v, rfl, ho1, ho2⟩ := hk r9 w9 hp9
  refine g_i2l C dL_index_12 ?_
  refine g_last C 2994 (by first | exact ho | exact ho1) rfl (show vp_in (nI 0) (aL w9 ou) by rw [ho2]; exact nI_vp (by omega) (by omega)) dL_index_13 ?_
  rw [show (0 : Int32).toNatClampNeg = 0 by decide]
  refine g_goto C 21 dL_index_14 (by decide) ?_
  refine g_iconst C 0 dL_index_21 (by rfl) ?_
  refine g_iret C rfl rfl (by decide) (by decide) dL_index_22 ?_
  exact Or.inl ⟨v, w9, hp9, rfl, rfl⟩
theorem mt_L_rate : MthH yL_rate cL_rate 6 (some .int) [(0, 12, 15, 21)] 5 := ⟨k_848, k_0, k_847, by decide, by decide +kernel⟩
theorem dL_rate_0 : decode cL_rate 0 = .ok (.aload 4, 2) := by decide +kernel
theorem dL_rate_2 : decode cL_rate 2 = .ok (.iconst 0, 1) := by decide +kernel
theorem dL_rate_3 : decode cL_rate 3 = .ok (.aload_n 0, 1) := by decide +kernel
theorem dL_rate_4 : decode cL_rate 4 = .ok (.iload_n 1, 1) := by decide +kernel
theorem dL_rate_5 : decode cL_rate 5 = .ok (.iload_n 2, 1) := by decide +kernel
theorem dL_rate_6 : decode cL_rate 6 = .ok (.iload_n 3, 1) := by decide +kernel
theorem dL_rate_7 : decode cL_rate 7 = .ok (.invokevirtual 68, 3) := by decide +kernel
theorem dL_rate_10 : decode cL_rate 10 = .ok (.i2l, 1) := by decide +kernel
theorem dL_rate_11 : decode cL_rate 11 = .ok (.lastore, 1) := by decide +kernel
theorem dL_rate_12 : decode cL_rate 12 = .ok (.goto 7, 3) := by decide +kernel
theorem dL_rate_15 : decode cL_rate 15 = .ok (.astore 5, 2) := by decide +kernel
theorem dL_rate_17 : decode cL_rate 17 = .ok (.iconst 1, 1) := by decide +kernel
theorem dL_rate_18 : decode cL_rate 18 = .ok (.ireturn, 1) := by decide +kernel
theorem dL_rate_19 : decode cL_rate 19 = .ok (.iconst 0, 1) := by decide +kernel
theorem dL_rate_20 : decode cL_rate 20 = .ok (.ireturn, 1) := by decide +kernel
set_option maxHeartbeats 1000000 in
set_option maxRecDepth 100000 in
theorem l_rate (de : Nat) (w : Wd) (x ou : Nat) (a0 a1 a2 : Int32) (Post : Option Value → Wd → Prop) (PX : String → Wd → Prop) (hC : Cw yX9_rate cX9_rate 5 (some .int) 7 143 5 30 de [.ref x, .int a0, .int a1, .int a2] w Post PX) (hx : kd w x = 11) (ho : kd w ou = 2994) (hk : ∀ r w', Post r w' → ∃ v, r = some (.int v) ∧ kd w' ou = 2994 ∧ aL w' ou = 1) (hE : ∀ E w', PX E w' → E = "java/lang/IndexOutOfBoundsException") : CtH yL_rate cL_rate 6 (some .int) [(0, 12, 15, 21)] 8 167 5 30 de [.ref x, .int a0, .int a1, .int a2, .ref ou] w (fun r w' => (∃ v w1, Post (some (.int v)) w1 ∧ r = some (.int 0) ∧ w' = pAJ w1 2994 ou 0 v.toInt64) ∨ (PX "java/lang/IndexOutOfBoundsException" w' ∧ r = some (.int 1))) := by
  refine CtH.mk (by decide +kernel) [(0, .ref x), (1, .int a0), (2, .int a1), (3, .int a2), (4, .ref ou)] rfl (Nat.le_of_ble_eq_true rfl) ?_
  intro p l e R s m args below meth c D cy z C ht hN
  refine g_aload C dL_rate_0 rfl ?_
  refine g_iconst C 0 dL_rate_2 (by rfl) ?_
  refine g_aload_n C dL_rate_3 rfl ?_
  refine g_iload_n C dL_rate_4 rfl ?_
  refine g_iload_n C dL_rate_5 rfl ?_
  refine g_iload_n C dL_rate_6 rfl ?_
  refine gx_callV C cls_10 11 mt_X9_rate [.int a0, .int a1, .int a2] hC hx (by decide) k_849 rfl rfl (Nat.le_of_ble_eq_true rfl) (by decide) (by decide) (by decide) (by decide) dL_rate_7 (fun E9 w9 hx9 => ?_) (fun r9 w9 hp9 => ?_)
  · rcases hE E9 w9 hx9 with rfl
    · refine gx_catch C [] ⟨0, 12, 15, 21⟩ [] ht (fun q hq => by cases hq) (by decide) (by decide) k_374 cs_IOB (fun q9 => ?_)
      refine g_astore C dL_rate_15 (by decide) ?_
      refine g_iconst C 1 dL_rate_17 (by rfl) ?_
      refine g_iret C rfl rfl (by decide) (by decide) dL_rate_18 ?_
      exact Or.inr (⟨hx9, rfl⟩)
  obtain ⟨v, rfl, ho1, ho2⟩ := hk r9 w9 hp9
  refine g_i2l C dL_rate_10 ?_
  refine g_last C 2994 (by first | exact ho | exact ho1) rfl (show vp_in (nI 0) (aL w9 ou) by rw [ho2]; exact nI_vp (by omega) (by omega)) dL_rate_11 ?_
  rw [show (0 : Int32).toNatClampNeg = 0 by decide]
  refine g_goto C 19 dL_rate_12 (by decide) ?_
  refine g_iconst C 0 dL_rate_19 (by rfl) ?_
  refine g_iret C rfl rfl (by decide) (by decide) dL_rate_20 ?_
  exact Or.inl ⟨v, w9, hp9, rfl, rfl⟩
theorem mt_L_priced : MthH yL_priced cL_priced 5 (some .int) [(0, 10, 13, 21)] 4 := ⟨k_855, k_0, k_854, by decide, by decide +kernel⟩
theorem dL_priced_0 : decode cL_priced 0 = .ok (.aload_n 3, 1) := by decide +kernel
theorem dL_priced_1 : decode cL_priced 1 = .ok (.iconst 0, 1) := by decide +kernel
theorem dL_priced_2 : decode cL_priced 2 = .ok (.aload_n 0, 1) := by decide +kernel
theorem dL_priced_3 : decode cL_priced 3 = .ok (.iload_n 1, 1) := by decide +kernel
theorem dL_priced_4 : decode cL_priced 4 = .ok (.iload_n 2, 1) := by decide +kernel
theorem dL_priced_5 : decode cL_priced 5 = .ok (.invokevirtual 71, 3) := by decide +kernel
theorem dL_priced_8 : decode cL_priced 8 = .ok (.i2l, 1) := by decide +kernel
theorem dL_priced_9 : decode cL_priced 9 = .ok (.lastore, 1) := by decide +kernel
theorem dL_priced_10 : decode cL_priced 10 = .ok (.goto 7, 3) := by decide +kernel
theorem dL_priced_13 : decode cL_priced 13 = .ok (.astore 4, 2) := by decide +kernel
theorem dL_priced_15 : decode cL_priced 15 = .ok (.iconst 1, 1) := by decide +kernel
theorem dL_priced_16 : decode cL_priced 16 = .ok (.ireturn, 1) := by decide +kernel
theorem dL_priced_17 : decode cL_priced 17 = .ok (.iconst 0, 1) := by decide +kernel
theorem dL_priced_18 : decode cL_priced 18 = .ok (.ireturn, 1) := by decide +kernel
set_option maxHeartbeats 1000000 in
set_option maxRecDepth 100000 in
theorem l_priced (de : Nat) (w : Wd) (x ou : Nat) (a0 a1 : Int32) (Post : Option Value → Wd → Prop) (PX : String → Wd → Prop) (hC : Cw yX9_priced cX9_priced 3 (some .int) 7 168 5 30 de [.ref x, .int a0, .int a1] w Post PX) (hx : kd w x = 11) (ho : kd w ou = 2994) (hk : ∀ r w', Post r w' → ∃ v, r = some (.int v) ∧ kd w' ou = 2994 ∧ aL w' ou = 1) (hE : ∀ E w', PX E w' → E = "java/lang/IndexOutOfBoundsException") : CtH yL_priced cL_priced 5 (some .int) [(0, 10, 13, 21)] 8 190 5 30 de [.ref x, .int a0, .int a1, .ref ou] w (fun r w' => (∃ v w1, Post (some (.int v)) w1 ∧ r = some (.int 0) ∧ w' = pAJ w1 2994 ou 0 v.toInt64) ∨ (PX "java/lang/IndexOutOfBoundsException" w' ∧ r = some (.int 1))) := by
  refine CtH.mk (by decide +kernel) [(0, .ref x), (1, .int a0), (2, .int a1), (3, .ref ou)] rfl (Nat.le_of_ble_eq_true rfl) ?_
  intro p l e R s m args below meth c D cy z C ht hN
  refine g_aload_n C dL_priced_0 rfl ?_
  refine g_iconst C 0 dL_priced_1 (by rfl) ?_
  refine g_aload_n C dL_priced_2 rfl ?_
  refine g_iload_n C dL_priced_3 rfl ?_
  refine g_iload_n C dL_priced_4 rfl ?_
  refine gx_callV C cls_10 11 mt_X9_priced [.int a0, .int a1] hC hx (by decide) k_856 rfl rfl (Nat.le_of_ble_eq_true rfl) (by decide) (by decide) (by decide) (by decide) dL_priced_5 (fun E9 w9 hx9 => ?_) (fun r9 w9 hp9 => ?_)
  · rcases hE E9 w9 hx9 with rfl
    · refine gx_catch C [] ⟨0, 10, 13, 21⟩ [] ht (fun q hq => by cases hq) (by decide) (by decide) k_374 cs_IOB (fun q9 => ?_)
      refine g_astore C dL_priced_13 (by decide) ?_
      refine g_iconst C 1 dL_priced_15 (by rfl) ?_
      refine g_iret C rfl rfl (by decide) (by decide) dL_priced_16 ?_
      exact Or.inr (⟨hx9, rfl⟩)
  obtain ⟨v, rfl, ho1, ho2⟩ := hk r9 w9 hp9
  refine g_i2l C dL_priced_8 ?_
  refine g_last C 2994 (by first | exact ho | exact ho1) rfl (show vp_in (nI 0) (aL w9 ou) by rw [ho2]; exact nI_vp (by omega) (by omega)) dL_priced_9 ?_
  rw [show (0 : Int32).toNatClampNeg = 0 by decide]
  refine g_goto C 17 dL_priced_10 (by decide) ?_
  refine g_iconst C 0 dL_priced_17 (by rfl) ?_
  refine g_iret C rfl rfl (by decide) (by decide) dL_priced_18 ?_
  exact Or.inl ⟨v, w9, hp9, rfl, rfl⟩
theorem mt_L_cover : MthH yL_cover cL_cover 5 (some .int) [(0, 10, 13, 21), (0, 10, 17, 13)] 4 := ⟨k_862, k_0, k_861, by decide, by decide +kernel⟩
theorem dL_cover_0 : decode cL_cover 0 = .ok (.aload_n 3, 1) := by decide +kernel
theorem dL_cover_1 : decode cL_cover 1 = .ok (.iconst 0, 1) := by decide +kernel
theorem dL_cover_2 : decode cL_cover 2 = .ok (.aload_n 0, 1) := by decide +kernel
theorem dL_cover_3 : decode cL_cover 3 = .ok (.iload_n 1, 1) := by decide +kernel
theorem dL_cover_4 : decode cL_cover 4 = .ok (.iload_n 2, 1) := by decide +kernel
theorem dL_cover_5 : decode cL_cover 5 = .ok (.invokevirtual 74, 3) := by decide +kernel
theorem dL_cover_8 : decode cL_cover 8 = .ok (.i2l, 1) := by decide +kernel
theorem dL_cover_9 : decode cL_cover 9 = .ok (.lastore, 1) := by decide +kernel
theorem dL_cover_10 : decode cL_cover 10 = .ok (.goto 11, 3) := by decide +kernel
theorem dL_cover_13 : decode cL_cover 13 = .ok (.astore 4, 2) := by decide +kernel
theorem dL_cover_15 : decode cL_cover 15 = .ok (.iconst 1, 1) := by decide +kernel
theorem dL_cover_16 : decode cL_cover 16 = .ok (.ireturn, 1) := by decide +kernel
theorem dL_cover_17 : decode cL_cover 17 = .ok (.astore 4, 2) := by decide +kernel
theorem dL_cover_19 : decode cL_cover 19 = .ok (.iconst 2, 1) := by decide +kernel
theorem dL_cover_20 : decode cL_cover 20 = .ok (.ireturn, 1) := by decide +kernel
theorem dL_cover_21 : decode cL_cover 21 = .ok (.iconst 0, 1) := by decide +kernel
theorem dL_cover_22 : decode cL_cover 22 = .ok (.ireturn, 1) := by decide +kernel
set_option maxHeartbeats 1000000 in
set_option maxRecDepth 100000 in
theorem l_cover (de : Nat) (w : Wd) (x ou : Nat) (a0 a1 : Int32) (Post : Option Value → Wd → Prop) (PX : String → Wd → Prop) (hC : Cw yX9_cover cX9_cover 4 (some .int) 7 111 5 30 de [.ref x, .int a0, .int a1] w Post PX) (hx : kd w x = 11) (ho : kd w ou = 2994) (hk : ∀ r w', Post r w' → ∃ v, r = some (.int v) ∧ kd w' ou = 2994 ∧ aL w' ou = 1) (hE : ∀ E w', PX E w' → E = "java/lang/IndexOutOfBoundsException" ∨ E = "java/lang/IllegalArgumentException") : CtH yL_cover cL_cover 5 (some .int) [(0, 10, 13, 21), (0, 10, 17, 13)] 8 134 5 30 de [.ref x, .int a0, .int a1, .ref ou] w (fun r w' => (∃ v w1, Post (some (.int v)) w1 ∧ r = some (.int 0) ∧ w' = pAJ w1 2994 ou 0 v.toInt64) ∨ (PX "java/lang/IndexOutOfBoundsException" w' ∧ r = some (.int 1)) ∨ (PX "java/lang/IllegalArgumentException" w' ∧ r = some (.int 2))) := by
  refine CtH.mk (by decide +kernel) [(0, .ref x), (1, .int a0), (2, .int a1), (3, .ref ou)] rfl (Nat.le_of_ble_eq_true rfl) ?_
  intro p l e R s m args below meth c D cy z C ht hN
  refine g_aload_n C dL_cover_0 rfl ?_
  refine g_iconst C 0 dL_cover_1 (by rfl) ?_
  refine g_aload_n C dL_cover_2 rfl ?_
  refine g_iload_n C dL_cover_3 rfl ?_
  refine g_iload_n C dL_cover_4 rfl ?_
  refine gx_callV C cls_10 11 mt_X9_cover [.int a0, .int a1] hC hx (by decide) k_863 rfl rfl (Nat.le_of_ble_eq_true rfl) (by decide) (by decide) (by decide) (by decide) dL_cover_5 (fun E9 w9 hx9 => ?_) (fun r9 w9 hp9 => ?_)
  · rcases hE E9 w9 hx9 with rfl | rfl
    · refine gx_catch C [] ⟨0, 10, 13, 21⟩ [⟨0, 10, 17, 13⟩] ht (fun q hq => by cases hq) (by decide) (by decide) k_374 cs_IOB (fun q9 => ?_)
      refine g_astore C dL_cover_13 (by decide) ?_
      refine g_iconst C 1 dL_cover_15 (by rfl) ?_
      refine g_iret C rfl rfl (by decide) (by decide) dL_cover_16 ?_
      exact Or.inr (Or.inl (⟨hx9, rfl⟩))
    · refine gx_catch C [⟨0, 10, 13, 21⟩] ⟨0, 10, 17, 13⟩ [] ht (fun q hq => by
        simp only [List.mem_cons, List.not_mem_nil, or_false] at hq
        rcases hq with rfl
        · exact ⟨by decide, _, k_374, hN.1⟩) (by decide) (by decide) k_180 cs_IAE (fun q9 => ?_)
      refine g_astore C dL_cover_17 (by decide) ?_
      refine g_iconst C 2 dL_cover_19 (by rfl) ?_
      refine g_iret C rfl rfl (by decide) (by decide) dL_cover_20 ?_
      exact Or.inr (Or.inr (⟨hx9, rfl⟩))
  obtain ⟨v, rfl, ho1, ho2⟩ := hk r9 w9 hp9
  refine g_i2l C dL_cover_8 ?_
  refine g_last C 2994 (by first | exact ho | exact ho1) rfl (show vp_in (nI 0) (aL w9 ou) by rw [ho2]; exact nI_vp (by omega) (by omega)) dL_cover_9 ?_
  rw [show (0 : Int32).toNatClampNeg = 0 by decide]
  refine g_goto C 21 dL_cover_10 (by decide) ?_
  refine g_iconst C 0 dL_cover_21 (by rfl) ?_
  refine g_iret C rfl rfl (by decide) (by decide) dL_cover_22 ?_
  exact Or.inl ⟨v, w9, hp9, rfl, rfl⟩
theorem mt_L_dueAnew : MthH yL_dueAnew cL_dueAnew 4 (some .int) [(0, 9, 12, 21)] 3 := ⟨k_882, k_0, k_881, by decide, by decide +kernel⟩
theorem dL_dueAnew_0 : decode cL_dueAnew 0 = .ok (.aload_n 2, 1) := by decide +kernel
theorem dL_dueAnew_1 : decode cL_dueAnew 1 = .ok (.iconst 0, 1) := by decide +kernel
theorem dL_dueAnew_2 : decode cL_dueAnew 2 = .ok (.aload_n 0, 1) := by decide +kernel
theorem dL_dueAnew_3 : decode cL_dueAnew 3 = .ok (.iload_n 1, 1) := by decide +kernel
theorem dL_dueAnew_4 : decode cL_dueAnew 4 = .ok (.invokevirtual 77, 3) := by decide +kernel
theorem dL_dueAnew_7 : decode cL_dueAnew 7 = .ok (.i2l, 1) := by decide +kernel
theorem dL_dueAnew_8 : decode cL_dueAnew 8 = .ok (.lastore, 1) := by decide +kernel
theorem dL_dueAnew_9 : decode cL_dueAnew 9 = .ok (.goto 6, 3) := by decide +kernel
theorem dL_dueAnew_12 : decode cL_dueAnew 12 = .ok (.astore_n 3, 1) := by decide +kernel
theorem dL_dueAnew_13 : decode cL_dueAnew 13 = .ok (.iconst 1, 1) := by decide +kernel
theorem dL_dueAnew_14 : decode cL_dueAnew 14 = .ok (.ireturn, 1) := by decide +kernel
theorem dL_dueAnew_15 : decode cL_dueAnew 15 = .ok (.iconst 0, 1) := by decide +kernel
theorem dL_dueAnew_16 : decode cL_dueAnew 16 = .ok (.ireturn, 1) := by decide +kernel
set_option maxHeartbeats 1000000 in
set_option maxRecDepth 100000 in
theorem l_dueAnew (de : Nat) (w : Wd) (x ou : Nat) (a0 : Int32) (Post : Option Value → Wd → Prop) (PX : String → Wd → Prop) (hC : Cw yX9_dueAnew cX9_dueAnew 3 (some .int) 7 143 5 30 de [.ref x, .int a0] w Post PX) (hx : kd w x = 11) (ho : kd w ou = 2994) (hk : ∀ r w', Post r w' → ∃ v, r = some (.int v) ∧ kd w' ou = 2994 ∧ aL w' ou = 1) (hE : ∀ E w', PX E w' → E = "java/lang/IndexOutOfBoundsException") : CtH yL_dueAnew cL_dueAnew 4 (some .int) [(0, 9, 12, 21)] 8 165 5 30 de [.ref x, .int a0, .ref ou] w (fun r w' => (∃ v w1, Post (some (.int v)) w1 ∧ r = some (.int 0) ∧ w' = pAJ w1 2994 ou 0 v.toInt64) ∨ (PX "java/lang/IndexOutOfBoundsException" w' ∧ r = some (.int 1))) := by
  refine CtH.mk (by decide +kernel) [(0, .ref x), (1, .int a0), (2, .ref ou)] rfl (Nat.le_of_ble_eq_true rfl) ?_
  intro p l e R s m args below meth c D cy z C ht hN
  refine g_aload_n C dL_dueAnew_0 rfl ?_
  refine g_iconst C 0 dL_dueAnew_1 (by rfl) ?_
  refine g_aload_n C dL_dueAnew_2 rfl ?_
  refine g_iload_n C dL_dueAnew_3 rfl ?_
  refine gx_callV C cls_10 11 mt_X9_dueAnew [.int a0] hC hx (by decide) k_883 rfl rfl (Nat.le_of_ble_eq_true rfl) (by decide) (by decide) (by decide) (by decide) dL_dueAnew_4 (fun E9 w9 hx9 => ?_) (fun r9 w9 hp9 => ?_)
  · rcases hE E9 w9 hx9 with rfl
    · refine gx_catch C [] ⟨0, 9, 12, 21⟩ [] ht (fun q hq => by cases hq) (by decide) (by decide) k_374 cs_IOB (fun q9 => ?_)
      refine g_astore_n C dL_dueAnew_12 (by decide) ?_
      refine g_iconst C 1 dL_dueAnew_13 (by rfl) ?_
      refine g_iret C rfl rfl (by decide) (by decide) dL_dueAnew_14 ?_
      exact Or.inr (⟨hx9, rfl⟩)
  obtain ⟨v, rfl, ho1, ho2⟩ := hk r9 w9 hp9
  refine g_i2l C dL_dueAnew_7 ?_
  refine g_last C 2994 (by first | exact ho | exact ho1) rfl (show vp_in (nI 0) (aL w9 ou) by rw [ho2]; exact nI_vp (by omega) (by omega)) dL_dueAnew_8 ?_
  rw [show (0 : Int32).toNatClampNeg = 0 by decide]
  refine g_goto C 15 dL_dueAnew_9 (by decide) ?_
  refine g_iconst C 0 dL_dueAnew_15 (by rfl) ?_
  refine g_iret C rfl rfl (by decide) (by decide) dL_dueAnew_16 ?_
  exact Or.inl ⟨v, w9, hp9, rfl, rfl⟩
theorem mt_L_told : MthH yL_told cL_told 5 (some .int) [(0, 10, 13, 21), (0, 10, 17, 13)] 4 := ⟨k_889, k_0, k_888, by decide, by decide +kernel⟩
theorem dL_told_0 : decode cL_told 0 = .ok (.aload_n 3, 1) := by decide +kernel
theorem dL_told_1 : decode cL_told 1 = .ok (.iconst 0, 1) := by decide +kernel
theorem dL_told_2 : decode cL_told 2 = .ok (.aload_n 0, 1) := by decide +kernel
theorem dL_told_3 : decode cL_told 3 = .ok (.iload_n 1, 1) := by decide +kernel
theorem dL_told_4 : decode cL_told 4 = .ok (.iload_n 2, 1) := by decide +kernel
theorem dL_told_5 : decode cL_told 5 = .ok (.invokevirtual 80, 3) := by decide +kernel
theorem dL_told_8 : decode cL_told 8 = .ok (.i2l, 1) := by decide +kernel
theorem dL_told_9 : decode cL_told 9 = .ok (.lastore, 1) := by decide +kernel
theorem dL_told_10 : decode cL_told 10 = .ok (.goto 11, 3) := by decide +kernel
theorem dL_told_13 : decode cL_told 13 = .ok (.astore 4, 2) := by decide +kernel
theorem dL_told_15 : decode cL_told 15 = .ok (.iconst 1, 1) := by decide +kernel
theorem dL_told_16 : decode cL_told 16 = .ok (.ireturn, 1) := by decide +kernel
theorem dL_told_17 : decode cL_told 17 = .ok (.astore 4, 2) := by decide +kernel
theorem dL_told_19 : decode cL_told 19 = .ok (.iconst 2, 1) := by decide +kernel
theorem dL_told_20 : decode cL_told 20 = .ok (.ireturn, 1) := by decide +kernel
theorem dL_told_21 : decode cL_told 21 = .ok (.iconst 0, 1) := by decide +kernel
theorem dL_told_22 : decode cL_told 22 = .ok (.ireturn, 1) := by decide +kernel
set_option maxHeartbeats 1000000 in
set_option maxRecDepth 100000 in
theorem l_told (de : Nat) (w : Wd) (x ou : Nat) (a0 a1 : Int32) (Post : Option Value → Wd → Prop) (PX : String → Wd → Prop) (hC : Cw yX9_told cX9_told 4 (some .int) 7 111 5 30 de [.ref x, .int a0, .int a1] w Post PX) (hx : kd w x = 11) (ho : kd w ou = 2994) (hk : ∀ r w', Post r w' → ∃ v, r = some (.int v) ∧ kd w' ou = 2994 ∧ aL w' ou = 1) (hE : ∀ E w', PX E w' → E = "java/lang/IndexOutOfBoundsException" ∨ E = "java/lang/IllegalArgumentException") : CtH yL_told cL_told 5 (some .int) [(0, 10, 13, 21), (0, 10, 17, 13)] 8 134 5 30 de [.ref x, .int a0, .int a1, .ref ou] w (fun r w' => (∃ v w1, Post (some (.int v)) w1 ∧ r = some (.int 0) ∧ w' = pAJ w1 2994 ou 0 v.toInt64) ∨ (PX "java/lang/IndexOutOfBoundsException" w' ∧ r = some (.int 1)) ∨ (PX "java/lang/IllegalArgumentException" w' ∧ r = some (.int 2))) := by
  refine CtH.mk (by decide +kernel) [(0, .ref x), (1, .int a0), (2, .int a1), (3, .ref ou)] rfl (Nat.le_of_ble_eq_true rfl) ?_
  intro p l e R s m args below meth c D cy z C ht hN
  refine g_aload_n C dL_told_0 rfl ?_
  refine g_iconst C 0 dL_told_1 (by rfl) ?_
  refine g_aload_n C dL_told_2 rfl ?_
  refine g_iload_n C dL_told_3 rfl ?_
  refine g_iload_n C dL_told_4 rfl ?_
  refine gx_callV C cls_10 11 mt_X9_told [.int a0, .int a1] hC hx (by decide) k_890 rfl rfl (Nat.le_of_ble_eq_true rfl) (by decide) (by decide) (by decide) (by decide) dL_told_5 (fun E9 w9 hx9 => ?_) (fun r9 w9 hp9 => ?_)
  · rcases hE E9 w9 hx9 with rfl | rfl
    · refine gx_catch C [] ⟨0, 10, 13, 21⟩ [⟨0, 10, 17, 13⟩] ht (fun q hq => by cases hq) (by decide) (by decide) k_374 cs_IOB (fun q9 => ?_)
      refine g_astore C dL_told_13 (by decide) ?_
      refine g_iconst C 1 dL_told_15 (by rfl) ?_
      refine g_iret C rfl rfl (by decide) (by decide) dL_told_16 ?_
      exact Or.inr (Or.inl (⟨hx9, rfl⟩))
    · refine gx_catch C [⟨0, 10, 13, 21⟩] ⟨0, 10, 17, 13⟩ [] ht (fun q hq => by
        simp only [List.mem_cons, List.not_mem_nil, or_false] at hq
        rcases hq with rfl
        · exact ⟨by decide, _, k_374, hN.1⟩) (by decide) (by decide) k_180 cs_IAE (fun q9 => ?_)
      refine g_astore C dL_told_17 (by decide) ?_
      refine g_iconst C 2 dL_told_19 (by rfl) ?_
      refine g_iret C rfl rfl (by decide) (by decide) dL_told_20 ?_
      exact Or.inr (Or.inr (⟨hx9, rfl⟩))
  obtain ⟨v, rfl, ho1, ho2⟩ := hk r9 w9 hp9
  refine g_i2l C dL_told_8 ?_
  refine g_last C 2994 (by first | exact ho | exact ho1) rfl (show vp_in (nI 0) (aL w9 ou) by rw [ho2]; exact nI_vp (by omega) (by omega)) dL_told_9 ?_
  rw [show (0 : Int32).toNatClampNeg = 0 by decide]
  refine g_goto C 21 dL_told_10 (by decide) ?_
  refine g_iconst C 0 dL_told_21 (by rfl) ?_
  refine g_iret C rfl rfl (by decide) (by decide) dL_told_22 ?_
  exact Or.inl ⟨v, w9, hp9, rfl, rfl⟩
theorem mt_L_books : MthH yL_books cL_books 4 (some .int) [(0, 9, 12, 13)] 3 := ⟨k_900, k_0, k_899, by decide, by decide +kernel⟩
theorem dL_books_0 : decode cL_books 0 = .ok (.aload_n 2, 1) := by decide +kernel
theorem dL_books_1 : decode cL_books 1 = .ok (.iconst 0, 1) := by decide +kernel
theorem dL_books_2 : decode cL_books 2 = .ok (.aload_n 0, 1) := by decide +kernel
theorem dL_books_3 : decode cL_books 3 = .ok (.iload_n 1, 1) := by decide +kernel
theorem dL_books_4 : decode cL_books 4 = .ok (.invokevirtual 83, 3) := by decide +kernel
theorem dL_books_7 : decode cL_books 7 = .ok (.i2l, 1) := by decide +kernel
theorem dL_books_8 : decode cL_books 8 = .ok (.lastore, 1) := by decide +kernel
theorem dL_books_9 : decode cL_books 9 = .ok (.goto 6, 3) := by decide +kernel
theorem dL_books_12 : decode cL_books 12 = .ok (.astore_n 3, 1) := by decide +kernel
theorem dL_books_13 : decode cL_books 13 = .ok (.iconst 1, 1) := by decide +kernel
theorem dL_books_14 : decode cL_books 14 = .ok (.ireturn, 1) := by decide +kernel
theorem dL_books_15 : decode cL_books 15 = .ok (.iconst 0, 1) := by decide +kernel
theorem dL_books_16 : decode cL_books 16 = .ok (.ireturn, 1) := by decide +kernel
set_option maxHeartbeats 1000000 in
set_option maxRecDepth 100000 in
theorem l_books (de : Nat) (w : Wd) (x ou : Nat) (a0 : Int32) (Post : Option Value → Wd → Prop) (PX : String → Wd → Prop) (hC : Cw yX9_books cX9_books 2 (some .int) 7 111 5 30 de [.ref x, .int a0] w Post PX) (hx : kd w x = 11) (ho : kd w ou = 2994) (hk : ∀ r w', Post r w' → ∃ v, r = some (.int v) ∧ kd w' ou = 2994 ∧ aL w' ou = 1) (hE : ∀ E w', PX E w' → E = "java/lang/IllegalArgumentException") : CtH yL_books cL_books 4 (some .int) [(0, 9, 12, 13)] 8 132 5 30 de [.ref x, .int a0, .ref ou] w (fun r w' => (∃ v w1, Post (some (.int v)) w1 ∧ r = some (.int 0) ∧ w' = pAJ w1 2994 ou 0 v.toInt64) ∨ (PX "java/lang/IllegalArgumentException" w' ∧ r = some (.int 1))) := by
  refine CtH.mk (by decide +kernel) [(0, .ref x), (1, .int a0), (2, .ref ou)] rfl (Nat.le_of_ble_eq_true rfl) ?_
  intro p l e R s m args below meth c D cy z C ht hN
  refine g_aload_n C dL_books_0 rfl ?_
  refine g_iconst C 0 dL_books_1 (by rfl) ?_
  refine g_aload_n C dL_books_2 rfl ?_
  refine g_iload_n C dL_books_3 rfl ?_
  refine gx_callV C cls_10 11 mt_X9_books [.int a0] hC hx (by decide) k_901 rfl rfl (Nat.le_of_ble_eq_true rfl) (by decide) (by decide) (by decide) (by decide) dL_books_4 (fun E9 w9 hx9 => ?_) (fun r9 w9 hp9 => ?_)
  · rcases hE E9 w9 hx9 with rfl
    · refine gx_catch C [] ⟨0, 9, 12, 13⟩ [] ht (fun q hq => by cases hq) (by decide) (by decide) k_180 cs_IAE (fun q9 => ?_)
      refine g_astore_n C dL_books_12 (by decide) ?_
      refine g_iconst C 1 dL_books_13 (by rfl) ?_
      refine g_iret C rfl rfl (by decide) (by decide) dL_books_14 ?_
      exact Or.inr (⟨hx9, rfl⟩)
  obtain ⟨v, rfl, ho1, ho2⟩ := hk r9 w9 hp9
  refine g_i2l C dL_books_7 ?_
  refine g_last C 2994 (by first | exact ho | exact ho1) rfl (show vp_in (nI 0) (aL w9 ou) by rw [ho2]; exact nI_vp (by omega) (by omega)) dL_books_8 ?_
  rw [show (0 : Int32).toNatClampNeg = 0 by decide]
  refine g_goto C 15 dL_books_9 (by decide) ?_
  refine g_iconst C 0 dL_books_15 (by rfl) ?_
  refine g_iret C rfl rfl (by decide) (by decide) dL_books_16 ?_
  exact Or.inl ⟨v, w9, hp9, rfl, rfl⟩
end WRAP50
