section JDK26
section
variable {p : Program} {l : Launch} {e : Env} {R : Room} {s : State} {m : MethodId} {args : Array Value} {below : List Frame} {meth : Method} {c : Code} {D : va_G} {cy : Nat → ClassId} {z : Nat} {cc : ByteArray} {own : String} {nL : Nat} {ret : Option FieldType} {fr lo mc ms de : Nat} {w : Wd} {kc ns pc : Nat} {lv : List (Nat × Value)} {st rest : List Value} {Q : State → Prop} {y : MethodName} {cc' : ByteArray} {nL' : Nat} {ret' : Option FieldType} {fr' lo' mc' ms' : Nat} {Post : Option Value → Wd → Prop}
def stO (w : Wd) (K a : Nat) (g : Nat → Option Nat) : Wd := (w.1, w.2.1, w.2.2.1, w.2.2.2.1, w.2.2.2.2.1, (fun x y j => if x = K ∧ y = a then g j else w.2.2.2.2.2.1 x y j), w.2.2.2.2.2.2)
theorem stO_at {K a : Nat} {g : Nat → Option Nat} : aR (stO w K a g) K a = g := funext fun _ => if_pos ⟨rfl, rfl⟩
theorem SmA.stO {K b a : Nat} {g : Nat → Option Nat} (h : a ≠ b) : SmA w (stO w K b g) a := ⟨rfl, rfl, fun _ _ => rfl, fun _ _ => rfl, fun _ => rfl, fun _ => funext fun _ => if_neg (fun z => h z.2), fun _ => rfl⟩
theorem stO_cell {K a : Nat} {g : Nat → Option Nat} {b : Nat} (hb : b ≠ a) : cellE cy (stO w K a g) b = cellE cy w b :=
  cell_same rfl (fun _ _ => rfl) (fun _ _ => rfl) rfl (fun _ => rfl) (fun _ => funext fun _ => if_neg (fun z => hb z.2)) (fun _ => rfl)
/-- the constant of ArrayList -/
theorem g_getsDe (C : Cx p l R s m args meth c D cy z cc own nL ret fr lo mc ms de) {index : Nat} (hlink : Cond.fieldLink own index "java/util/ArrayList" "DEFAULTCAPACITY_EMPTY_ELEMENTDATA" "[Ljava/lang/Object;" ∈ TBL) (hdg : decode cc pc = .ok (.getstatic index, 3)) (kk : G p l e R s m args below meth c D cy z nL w kc ns (pc + 3) lv (.ref de :: st) Q) : G p l e R s m args below meth c D cy z nL w kc ns pc lv st Q := fun H locs ls hH hS hl =>
  va_gets C.1 C.2.1 C.2.2.2.2.2.2.2.2.1.2.2.2.2.2.2.2.1.1 hS C.2.2.2.1 (C.2.2.2.2.1 _ hlink) (fun _ h => h) hdg (kk H locs ls hH hS hl)
theorem g_alenDe (C : Cx p l R s m args meth c D cy z cc own nL ret fr lo mc ms de) (hdg : decode cc pc = .ok (.arraylength, 1)) (kk : G p l e R s m args below meth c D cy z nL w kc ns (pc + 1) lv (.int 0 :: st) Q) : G p l e R s m args below meth c D cy z nL w kc ns pc lv (.ref de :: st) Q := by
  intro H locs ls hH hS hl
  obtain ⟨-, h1, cell, c1, c2, c3, c4, c5, c6, c7⟩ := C.2.2.2.2.2.2.2.2.1.2.2.2.2.2.2.2.1
  exact W.alen (n := 0) (cell := cell) C.1 C.2.1 (by rw [hS.2.1 de (Array.getElem?_eq_some_iff.mp c1).1 (by omega)]; exact c1) c2 c5 rfl rfl hdg (kk H locs ls hH hS hl)
theorem g_ldcM (C : Cx p l R s m args meth c D cy z cc own nL ret fr lo mc ms de) {index mi : Nat} (hlink : Cond.classLink own index "[Ljava/lang/Object;" ∈ TBL) (hM : va_Mi "[Ljava/lang/Object;" mi s) (hdg : decode cc pc = .ok (.ldc index, 2)) (kk : G p l e R s m args below meth c D cy z nL w kc ns (pc + 2) lv (.ref mi :: st) Q) : G p l e R s m args below meth c D cy z nL w kc ns pc lv st Q := fun H locs ls hH hS hl =>
  va_ldcM C.1 C.2.1 C.2.2.2.1 (C.2.2.2.2.1 _ hlink) hM hdg (kk H locs ls hH hS hl)
theorem g_getC (C : Cx p l R s m args meth c D cy z cc own nL ret fr lo mc ms de) (K : Nat) {index a mi : Nat} (hk : kd w a = K) (hK : okA K 3 = true) (hlink : Cond.methodLink own index ⟨"java/lang/Object", "getClass", "()Ljava/lang/Class;"⟩ ∈ TBL) (hM : va_Mi "[Ljava/lang/Object;" mi s) (hfr : 1 ≤ fr) (hlo : (st.map fun v => v.category).sum + 14 ≤ lo) (hdg : decode cc pc = .ok (.invokevirtual index, 3)) (kk : G p l e R s m args below meth c D cy z nL w kc ns (pc + 3) lv (.ref mi :: st) Q) : G p l e R s m args below meth c D cy z nL w kc ns pc lv (.ref a :: st) Q := by
  intro H locs ls hH hS hl
  obtain ⟨q0, hq⟩ := hH.get (a := a) (by rw [hk]; exact (okA_spec hK).1)
  rw [arr_3 hk hK] at hq
  have hR := C.2.2.2.2.2.2.2.2.2.1
  exact va_getC C.1 C.2.1 (C.2.2.1.trans hl.1.symm) C.2.2.2.1 (C.2.2.2.2.1 _ hlink) (va_Dc.use C.2.2.2.2.2.2.2.2.1.2.2.2.1) (C.2.2.2.2.1 _ k_1208) (C.2.2.2.2.1 _ k_339) (C.2.2.2.2.1 _ k_356) hM
    ⟨_, hH.P q0 _ hq, rfl, va_nmO (C.2.2.2.2.2.2.2.1.2 3 (cy 3, .object "java/lang/Object") rfl).2 rfl⟩ (by rw [hR]; exact hfr) (by rw [hR]; exact hlo) hdg (kk H locs ls hH hS hl)
theorem g_copyq (C : Cx p l R s m args meth c D cy z cc own nL ret fr lo mc ms de) {ci N : Nat} {Cn : String} {T : u_T} {ty0 : Nat → FieldType} (hcl : ClsOk ci Cn T N ty0) (hca : Cond.castable Cn "java/lang/Object" ∈ lw_tbl) (K K2 : Nat) {a0 a n index : Nat} (hk0 : kd w a0 = K) (hk : kd w a = K) (hK : okA K 3 = true) (hK2 : 0 < K2 ∧ K2 < 1000 ∧ (K2 - 1) % 20 = ci)
    (hel : ∀ i, i < n → ∀ y, aR w K a0 i = some y → kd w y = K2) (hn0 : n ≤ aL w a0) (hn1 : n ≤ aL w a) (hn : n < 2 ^ 31) (hlink : Cond.methodLink own index ⟨"java/lang/System", "arraycopy", "(Ljava/lang/Object;ILjava/lang/Object;II)V"⟩ ∈ TBL) (hfr : 1 ≤ fr) (hlo : (st.map fun v => v.category).sum + (nativeFrameWords "java/lang/System" "arraycopy" 5 + 11) ≤ lo) (hdg : decode cc pc = .ok (.invokestatic index, 3))
    (kk : G p l e R s m args below meth c D cy z nL (stO w K a (va_cpy (aR w K a0) (aR w K a) 0 0 n)) kc ns (pc + 3) lv st Q) : G p l e R s m args below meth c D cy z nL w kc ns pc lv (.int (nI n) :: .int 0 :: .ref a :: .int 0 :: .ref a0 :: st) Q := by
  intro H locs ls hH hS hl
  obtain ⟨q0, hq0⟩ := hH.get (a := a0) (by rw [hk0]; exact (okA_spec hK).1)
  rw [arr_3 hk0 hK] at hq0
  obtain ⟨q1, hq1⟩ := hH.get (a := a) (by rw [hk]; exact (okA_spec hK).1)
  rw [arr_3 hk hK] at hq1
  have hR := C.2.2.2.2.2.2.2.2.2.1
  have hc : (nI n).toNatClampNeg = n := nI_clamp hn
  have h0 : (0 : Int32).toNatClampNeg = 0 := by decide
  refine va_copyq C.1 C.2.1 (C.2.2.1.trans hl.1.symm) C.2.2.2.1 (C.2.2.2.2.1 _ hlink) (C.2.2.2.2.1 _ k_368) (C.2.2.2.2.1 _ k_367) (C.2.2.2.2.1 _ k_19) C.2.2.2.2.2.2.2.1 hH.P hH.dj hS q0 q1 3 3 (E0 := "java/lang/Object") (E1 := "java/lang/Object") (C := Cn) hq0 hq1 rfl rfl (by decide) (by decide) (nI_pos hn) (by rw [hc, h0]; omega) (by rw [hc, h0]; omega)
    (fun i hi y hy => recv C hcl (hel i (by rw [hc] at hi; exact hi) y (by rw [h0, Nat.zero_add] at hy; exact hy)) hK2 hH) (fun comp c0 h1 h2 => ?_) (by rw [hR]; exact hfr) (by rw [hR]; exact hlo) hdg (fun H1 locs1 hP _ hS1 => ?_)
  · obtain ⟨c1, t1, f1, f2, f3⟩ := Cond.castable_spec (va_Nw.use (A := args) rfl (C.2.2.2.2.2.2.2.2.1.1 _ hca rfl))
    cases h2.symm.trans f1
    cases h1.symm.trans f2
    exact f3
  · rw [hc, h0] at hP
    refine kk H1 locs1 ls (hH.set hq1 hP ?_ (fun b hb hb2 => ⟨hb2, stO_cell hb⟩)) hS1 hl
    rw [arr_3 (w := stO w K a _) (K := K) hk hK, stO_at]
    rfl
/-- a method that is given the class object of Object[] -/
def Cm (y : MethodName) (cc : ByteArray) (nL : Nat) (ret : Option FieldType) (fr lo mc ms de : Nat) (av : Nat → List Value) (w : Wd) (Post : Option Value → Wd → Prop) : Prop :=
  ∀ (l : Launch) (D : va_G) (cy : Nat → ClassId) (z mi : Nat), l.stackTraces = false → Met l y (.code y cc nL ret :: TBL) { frames := fr, cells := mc, slots := ms, locals := lo } (fun A U => CtP D cy z de (av mi) w A U ∧ va_Mi "[Ljava/lang/Object;" mi U) (CtQ D cy z Post) mc ms (fun q => z ≤ q)
theorem Cm.mk {av : Nat → List Value} (hy : plainName y.cls = true) (lv : Nat → List (Nat × Value)) (hlv : ∀ mi, lv_args 0 (av mi) = lv mi) (hlen : ∀ mi, (lg_sl (av mi)).length ≤ nL)
    (body : ∀ (p : Program) (l : Launch) (e : Env) (R : Room) (s : State) (m : MethodId) (args : Array Value) (below : List Frame) (meth : Method) (c : Code) (D : va_G) (cy : Nat → ClassId) (z mi : Nat), Cx p l R s m args meth c D cy z cc y.cls nL ret fr lo mc ms de → va_Mi "[Ljava/lang/Object;" mi s → G p l e R s m args below meth c D cy z nL w 0 0 0 (lv mi) [] (QM below args s D cy z Post mc ms)) :
    Cm y cc nL ret fr lo mc ms de av w Post := by
  intro l D cy z mi hl
  refine Met.ofW (cc := cc) (maxL := nL) (ret := ret) hy rfl ?_
  intro p e s m args below meth c s₁ B hml hv
  obtain ⟨⟨rfl, hH, hK, hE, hz⟩, hM⟩ := hv
  have hts := atoms_spec (ws := Cond.code y cc nL ret :: TBL) B.pre
  have C : Cx p l (headSpec (Cond.code y cc nL ret :: TBL) { frames := fr, cells := mc, slots := ms, locals := lo }).room s m (av mi).toArray meth c D cy z cc y.cls nL ret fr lo mc ms de :=
    ⟨B.exec, B.bytes, hml, findClass_of_methodNamed B.named, fun w hw => hts w (List.mem_cons_of_mem _ hw), B.notSynchronized, B.returns, hK, hE, rfl, hz, hl⟩
  rw [lg_entry_eq]
  exact body p l e _ s m _ below meth c D cy z mi C hM s.heap [] _ hH va_S.rf (hlv mi ▸ lv_entry (av mi) (hlen mi))
theorem g_callM (C : Cx p l R s m args meth c D cy z cc own nL ret fr lo mc ms de) {n index mi : Nat} (hM : MthS y cc' nL' ret' n) (As : Nat → List Value) (hCt : Cm y cc' nL' ret' fr' lo' mc' ms' de As w Post) (hMi : va_Mi "[Ljava/lang/Object;" mi s)
    (hlink : Cond.methodLink own index y ∈ TBL) (hn : (As mi).length = n) (hst : st = (As mi).reverse ++ rest) (hw8 : (rest.map fun v => v.category).sum ≤ 8) (hfr : fr' + 1 ≤ fr) (hlo : 8 + (nL' + 11) + lo' ≤ lo) (h1 : kc + mc' ≤ mc) (h2 : ns + ms' ≤ ms) (hdg : decode cc pc = .ok (.invokestatic index, 3))
    (kk : ∀ (r : Option Value) (w' : Wd), Post r w' → G p l e R s m args below meth c D cy z nL w' (kc + mc') (ns + ms') (pc + 3) lv (r.toList ++ rest) Q) : G p l e R s m args below meth c D cy z nL w kc ns pc lv st Q := by
  intro H locs ls hH hS hl
  subst hst
  exact run_ok hl hS (va_runS C.fix (hCt l D cy z mi C.2.2.2.2.2.2.2.2.2.2.2) ⟨C.callB hM.1 hlink hfr hlo, C.2.2.2.2.1 _ hM.2⟩ ⟨fun a U g mk h => ⟨blind a U g mk h.1, va_Mi.moved (Vm.Alike.refl U.vm) h.2⟩, fun U hU hW => ⟨C.pre hH hS U hU hW, va_Mi.moved hW.alike hMi⟩⟩ rfl hn hl.1 rfl (lv_room hw8) hdg (C.room h1 h2)) kk
end
end JDK26
