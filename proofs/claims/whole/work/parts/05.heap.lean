section HEAPOPS
variable {p : Program} {l : Launch} {e : Env} {R : Room} {s : State} {m : MethodId} {args : Array Value} {below : List Frame} {meth : Method} {c : Code} {D : va_G} {cy : Nat → ClassId} {z : Nat}
variable {cc : ByteArray} {own : String} {nL : Nat} {ret : Option FieldType} {fr lo mc ms de : Nat} {w w' : Wd} {kc ns pc : Nat} {lv : List (Nat × Value)} {st : List Value} {Q : State → Prop}
/-- kind K is of objects of class ci, which has N fields; k is one of them, of int sort (b = false) or a reference (b = true) -/
def okF (ci N K k : Nat) (b : Bool) : Bool := Nat.ble 1 K && Nat.ble K 999 && Nat.beq ((K - 1) % 20) ci && Nat.ble (k + 1) N && Nat.beq (nFl ci) N && (isRf ci k == b)
theorem okF_spec {ci N K k : Nat} {b : Bool} (h : okF ci N K k b = true) : K ≠ 0 ∧ K < 1000 ∧ (K - 1) % 20 = ci ∧ k < N ∧ nFl ci = N ∧ isRf ci k = b := by
  simp only [okF, Bool.and_eq_true, beq_iff_eq, Nat.ble_eq, Nat.beq_eq] at h
  obtain ⟨⟨⟨⟨⟨h1, h2⟩, h3⟩, h4⟩, h5⟩, h6⟩ := h
  exact ⟨by omega, by omega, h3, by omega, h5, h6⟩
theorem g_getV (C : Cx p l R s m args meth c D cy z cc own nL ret fr lo mc ms de) {ci N : Nat} {Cn : String} {T : u_T} {ty0 : Nat → FieldType} (hcl : ClsOk ci Cn T N ty0) {K k a index : Nat} {b : Bool} {ref : String} (hk : kd w a = K) (hK : okF ci N K k b = true)
    (hlink : Cond.fieldLink own index ref (T k).2.1 (T k).2.2.1 ∈ TBL) (hsame : ∀ x, s.fieldFound? (T k).1 (T k).2.1 (T k).2.2.1 = some x → s.fieldFound? ref (T k).2.1 (T k).2.2.1 = some x) (hdg : decode cc pc = .ok (.getfield index, 3))
    (kk : G p l e R s m args below meth c D cy z nL w kc ns (pc + 3) lv (fval w K a k :: st) Q) : G p l e R s m args below meth c D cy z nL w kc ns pc lv (.ref a :: st) Q := by
  obtain ⟨h1, h2, h3, h4, h5, h6⟩ := okF_spec hK
  intro H locs ls hH hS hl
  obtain ⟨q0, hq⟩ := hH.get (a := a) (by rw [hk]; exact h1)
  rw [cell_obj hk h2, h3] at hq
  exact va_get C.1 C.2.1 C.2.2.2.2.1 hcl.2.1 C.2.2.2.1 C.2.2.2.2.2.2.2.1 hH.P q0 hq hcl.1 k h4 (C.2.2.2.2.1 _ hlink) hsame (flds_get (by rw [h3, h5]; exact h4)) hdg (kk H locs ls hH hS hl)
theorem fval_I {w : Wd} {K a k : Nat} (h : isRf ((K - 1) % 20) k = false) : fval w K a k = .int (fI w K k a) := by unfold fval; rw [h]; rfl
theorem fval_R {w : Wd} {K a k : Nat} (h : isRf ((K - 1) % 20) k = true) : fval w K a k = va_rf (fR w K k a) := by unfold fval; rw [h]; rfl
theorem g_getI (C : Cx p l R s m args meth c D cy z cc own nL ret fr lo mc ms de) {ci N : Nat} {Cn : String} {T : u_T} {ty0 : Nat → FieldType} (hcl : ClsOk ci Cn T N ty0) (K k : Nat) {a index : Nat} (hk : kd w a = K) (hK : okF ci N K k false = true)
    (hlink : Cond.fieldLink own index (T k).1 (T k).2.1 (T k).2.2.1 ∈ TBL) (hdg : decode cc pc = .ok (.getfield index, 3))
    (kk : G p l e R s m args below meth c D cy z nL w kc ns (pc + 3) lv (.int (fI w K k a) :: st) Q) : G p l e R s m args below meth c D cy z nL w kc ns pc lv (.ref a :: st) Q := by
  obtain ⟨h1, h2, h3, h4, h5, h6⟩ := okF_spec hK
  refine g_getV C hcl hk hK hlink (fun _ h => h) hdg ?_
  rw [fval_I (by rw [h3]; exact h6)]
  exact kk
theorem g_getR (C : Cx p l R s m args meth c D cy z cc own nL ret fr lo mc ms de) {ci N : Nat} {Cn : String} {T : u_T} {ty0 : Nat → FieldType} (hcl : ClsOk ci Cn T N ty0) (K k : Nat) {a index b : Nat} (hk : kd w a = K) (hb : fR w K k a = some b) (hK : okF ci N K k true = true)
    (hlink : Cond.fieldLink own index (T k).1 (T k).2.1 (T k).2.2.1 ∈ TBL) (hdg : decode cc pc = .ok (.getfield index, 3))
    (kk : G p l e R s m args below meth c D cy z nL w kc ns (pc + 3) lv (.ref b :: st) Q) : G p l e R s m args below meth c D cy z nL w kc ns pc lv (.ref a :: st) Q := by
  obtain ⟨h1, h2, h3, h4, h5, h6⟩ := okF_spec hK
  refine g_getV C hcl hk hK hlink (fun _ h => h) hdg ?_
  rw [fval_R (by rw [h3]; exact h6), hb]
  exact kk
theorem g_getN (C : Cx p l R s m args meth c D cy z cc own nL ret fr lo mc ms de) {ci N : Nat} {Cn : String} {T : u_T} {ty0 : Nat → FieldType} (hcl : ClsOk ci Cn T N ty0) (K k : Nat) {a index : Nat} (hk : kd w a = K) (hb : fR w K k a = none) (hK : okF ci N K k true = true)
    (hlink : Cond.fieldLink own index (T k).1 (T k).2.1 (T k).2.2.1 ∈ TBL) (hdg : decode cc pc = .ok (.getfield index, 3))
    (kk : G p l e R s m args below meth c D cy z nL w kc ns (pc + 3) lv (.null :: st) Q) : G p l e R s m args below meth c D cy z nL w kc ns pc lv (.ref a :: st) Q := by
  obtain ⟨h1, h2, h3, h4, h5, h6⟩ := okF_spec hK
  refine g_getV C hcl hk hK hlink (fun _ h => h) hdg ?_
  rw [fval_R (by rw [h3]; exact h6), hb]
  exact kk
/-- a field may be written: it isn't final, or this is the constructor of its class -/
def finOk (T : u_T) (k : Nat) (own nm : String) : Prop := (T k).2.2.2 = false ∨ ((T k).2.2.2 = true ∧ nm = "<init>" ∧ (T k).1 = own)
theorem g_putV (C : Cx p l R s m args meth c D cy z cc own nL ret fr lo mc ms de) {ci N : Nat} {Cn : String} {T : u_T} {ty0 : Nat → FieldType} (hcl : ClsOk ci Cn T N ty0) {K k a index : Nat} {b : Bool} {v : Value} {ref : String} (hk : kd w a = K) (hK : okF ci N K k b = true) (hfin : finOk T k own meth.name)
    (hn : narrow (ty0 k) v = v) (hfit : fits (ty0 k) v = true) (hlink : Cond.fieldLink own index ref (T k).2.1 (T k).2.2.1 ∈ TBL) (hsame : ∀ x, s.fieldFound? (T k).1 (T k).2.1 (T k).2.2.1 = some x → s.fieldFound? ref (T k).2.1 (T k).2.2.1 = some x) (hdg : decode cc pc = .ok (.putfield index, 3))
    (hkd : ∀ b, kd w' b = kd w b) (hv : fval w' K a k = v) (ho : ∀ j, j ≠ k → fval w' K a j = fval w K a j) (hc : ∀ b, b ≠ a → cellE cy w' b = cellE cy w b)
    (kk : G p l e R s m args below meth c D cy z nL w' kc ns (pc + 3) lv st Q) : G p l e R s m args below meth c D cy z nL w kc ns pc lv (v :: .ref a :: st) Q := by
  obtain ⟨h1, h2, h3, h4, h5, h6⟩ := okF_spec hK
  intro H locs ls hH hS hl
  obtain ⟨q0, hq⟩ := hH.get (a := a) (by rw [hk]; exact h1)
  rw [cell_obj hk h2, h3] at hq
  have hE : cellE cy w' a = .inr (ci, (flds w K a).set k v) := by
    rw [cell_obj ((hkd a).trans hk) h2, h3, flds_set (w := w) (by rw [h3, h5]; exact h4) hv ho]
  have fin : ∀ (H1 : Heap) (locs1 : List Loc), va_P D vwCl ((wsO cy w H.size).set q0 (a, .inr (ci, (flds w K a).set k v))) H1 → va_D (fun q => z ≤ q) ((wsO cy w H.size).set q0 (a, .inr (ci, (flds w K a).set k v))) → va_S (fun q => z ≤ q) s.heap H1 locs1 → W p l e R s m args below meth c H1 locs1 kc ns Q (F0 m (pc + 3) ls st) := fun H1 locs1 hP _ hS1 =>
    kk H1 locs1 ls (hH.set hq hP hE (fun b hb hb2 => ⟨by rw [← hkd b]; exact hb2, hc b hb⟩)) hS1 hl
  have hlen : k < (flds w K a).length := by rw [flds_len, h3, h5]; exact h4
  rcases hfin with f1 | ⟨f1, f2, f3⟩
  · exact va_put C.1 C.2.1 C.2.2.2.2.1 hcl.2.1 ty0 hcl.2.2.1 hcl.2.2.2 C.2.2.2.1 C.2.2.2.2.2.2.2.1 hH.P hH.dj hS q0 hq hcl.1 k h4 (C.2.2.2.2.1 _ hlink) hsame f1 (hcl.2.2.1 k h4) hn hfit hlen hdg fin
  · exact va_putF C.1 C.2.1 C.2.2.2.2.1 hcl.2.1 ty0 hcl.2.2.1 hcl.2.2.2 C.2.2.2.1 C.2.2.2.2.2.2.2.1 hH.P hH.dj hS q0 hq hcl.1 k h4 (C.2.2.2.2.1 _ hlink) hsame f1 f2 f3 (hcl.2.2.1 k h4) hn hfit hlen hdg fin
theorem g_putI (C : Cx p l R s m args meth c D cy z cc own nL ret fr lo mc ms de) {ci N : Nat} {Cn : String} {T : u_T} {ty0 : Nat → FieldType} (hcl : ClsOk ci Cn T N ty0) (K k : Nat) {a index : Nat} {v : Int32} (hk : kd w a = K) (hK : okF ci N K k false = true) (hfin : finOk T k own meth.name)
    (hn : narrow (ty0 k) (.int v) = .int v) (hfit : fits (ty0 k) (.int v) = true) (hlink : Cond.fieldLink own index (T k).1 (T k).2.1 (T k).2.2.1 ∈ TBL) (hdg : decode cc pc = .ok (.putfield index, 3))
    (kk : G p l e R s m args below meth c D cy z nL (pI w K k a v) kc ns (pc + 3) lv st Q) : G p l e R s m args below meth c D cy z nL w kc ns pc lv (.int v :: .ref a :: st) Q := by
  obtain ⟨h1, h2, h3, h4, h5, h6⟩ := okF_spec hK
  refine g_putV (w' := pI w K k a v) C hcl hk hK hfin hn hfit hlink (fun _ h => h) hdg (fun _ => rfl) ?_ (fun j hj => ?_) (fun b hb => ?_) kk
  · rw [fval_I (by rw [h3]; exact h6)]
    exact congrArg Value.int up3_same
  · unfold fval
    rw [show fI (pI w K k a v) K j a = fI w K j a from up3_y hj]
    rfl
  · exact cell_same rfl (fun _ _ => up3_z hb) (fun _ _ => rfl) rfl (fun _ => rfl) (fun _ => rfl) (fun _ => rfl)
/-- the same, by a name that an heir gives the field -/
theorem g_getI2 (C : Cx p l R s m args meth c D cy z cc own nL ret fr lo mc ms de) {ci N : Nat} {Cn : String} {T : u_T} {ty0 : Nat → FieldType} (hcl : ClsOk ci Cn T N ty0) (K k : Nat) {a index : Nat} {ref : String} (hk : kd w a = K) (hK : okF ci N K k false = true)
    (hsf : Cond.sameField ref (T k).1 (T k).2.1 (T k).2.2.1 ∈ TBL) (hlink : Cond.fieldLink own index ref (T k).2.1 (T k).2.2.1 ∈ TBL) (hdg : decode cc pc = .ok (.getfield index, 3))
    (kk : G p l e R s m args below meth c D cy z nL w kc ns (pc + 3) lv (.int (fI w K k a) :: st) Q) : G p l e R s m args below meth c D cy z nL w kc ns pc lv (.ref a :: st) Q := by
  obtain ⟨h1, h2, h3, h4, h5, h6⟩ := okF_spec hK
  refine g_getV C hcl hk hK hlink (fun x hx => u_same (C.2.2.2.2.1 _ hsf) x hx) hdg ?_
  rw [fval_I (by rw [h3]; exact h6)]
  exact kk
theorem g_putI2 (C : Cx p l R s m args meth c D cy z cc own nL ret fr lo mc ms de) {ci N : Nat} {Cn : String} {T : u_T} {ty0 : Nat → FieldType} (hcl : ClsOk ci Cn T N ty0) (K k : Nat) {a index : Nat} {v : Int32} {ref : String} (hk : kd w a = K) (hK : okF ci N K k false = true) (hfin : finOk T k own meth.name)
    (hn : narrow (ty0 k) (.int v) = .int v) (hfit : fits (ty0 k) (.int v) = true) (hsf : Cond.sameField ref (T k).1 (T k).2.1 (T k).2.2.1 ∈ TBL) (hlink : Cond.fieldLink own index ref (T k).2.1 (T k).2.2.1 ∈ TBL) (hdg : decode cc pc = .ok (.putfield index, 3))
    (kk : G p l e R s m args below meth c D cy z nL (pI w K k a v) kc ns (pc + 3) lv st Q) : G p l e R s m args below meth c D cy z nL w kc ns pc lv (.int v :: .ref a :: st) Q := by
  obtain ⟨h1, h2, h3, h4, h5, h6⟩ := okF_spec hK
  refine g_putV (w' := pI w K k a v) C hcl hk hK hfin hn hfit hlink (fun x hx => u_same (C.2.2.2.2.1 _ hsf) x hx) hdg (fun _ => rfl) ?_ (fun j hj => ?_) (fun b hb => ?_) kk
  · rw [fval_I (by rw [h3]; exact h6)]
    exact congrArg Value.int up3_same
  · unfold fval
    rw [show fI (pI w K k a v) K j a = fI w K j a from up3_y hj]
    rfl
  · exact cell_same rfl (fun _ _ => up3_z hb) (fun _ _ => rfl) rfl (fun _ => rfl) (fun _ => rfl) (fun _ => rfl)
theorem g_putR (C : Cx p l R s m args meth c D cy z cc own nL ret fr lo mc ms de) {ci N : Nat} {Cn : String} {T : u_T} {ty0 : Nat → FieldType} (hcl : ClsOk ci Cn T N ty0) (K k : Nat) {a index : Nat} (v : Option Nat) {vv : Value} (hvv : vv = va_rf v) (hk : kd w a = K) (hK : okF ci N K k true = true) (hfin : finOk T k own meth.name)
    (hn : narrow (ty0 k) vv = vv) (hfit : fits (ty0 k) vv = true) (hlink : Cond.fieldLink own index (T k).1 (T k).2.1 (T k).2.2.1 ∈ TBL) (hdg : decode cc pc = .ok (.putfield index, 3))
    (kk : G p l e R s m args below meth c D cy z nL (pR w K k a v) kc ns (pc + 3) lv st Q) : G p l e R s m args below meth c D cy z nL w kc ns pc lv (vv :: .ref a :: st) Q := by
  obtain ⟨h1, h2, h3, h4, h5, h6⟩ := okF_spec hK
  refine g_putV (w' := pR w K k a v) C hcl hk hK hfin hn hfit hlink (fun _ h => h) hdg (fun _ => rfl) ?_ (fun j hj => ?_) (fun b hb => ?_) kk
  · rw [fval_R (by rw [h3]; exact h6), hvv]
    exact congrArg va_rf up3_same
  · unfold fval
    rw [show fR (pR w K k a v) K j a = fR w K j a from up3_y hj]
    rfl
  · exact cell_same rfl (fun _ _ => rfl) (fun _ _ => up3_z hb) rfl (fun _ => rfl) (fun _ => rfl) (fun _ => rfl)
/-- kind K is of arrays of sort t -/
def okA (K t : Nat) : Bool := Nat.ble 1000 K && Nat.beq (K % 10) t
theorem okA_spec {K t : Nat} (h : okA K t = true) : K ≠ 0 ∧ ¬ K < 1000 ∧ K % 10 = t := by
  simp only [okA, Bool.and_eq_true, Nat.ble_eq, Nat.beq_eq] at h
  exact ⟨by omega, by omega, h.2⟩
theorem arr_0 {K a : Nat} (h : kd w a = K) (hK : okA K 0 = true) : cellE cy w a = .inl (cy 0, aL w a, .inl (aI w K a)) := by
  obtain ⟨h1, h2, h3⟩ := okA_spec hK
  rw [cell_arr h h2]; unfold arrE; rw [if_pos h3]
theorem arr_1 {K a : Nat} (h : kd w a = K) (hK : okA K 1 = true) : cellE cy w a = .inl (cy 1, aL w a, .inl (aI w K a)) := by
  obtain ⟨h1, h2, h3⟩ := okA_spec hK
  rw [cell_arr h h2]; unfold arrE; rw [if_neg (by omega), if_pos h3]
theorem arr_2 {K a : Nat} (h : kd w a = K) (hK : okA K 2 = true) : cellE cy w a = .inl (cy 2, aL w a, .inr (.inr (.inr (.inr (aR w K a))))) := by
  obtain ⟨h1, h2, h3⟩ := okA_spec hK
  rw [cell_arr h h2]; unfold arrE; rw [if_neg (by omega), if_neg (by omega), if_pos h3]
theorem arr_3 {K a : Nat} (h : kd w a = K) (hK : okA K 3 = true) : cellE cy w a = .inl (cy 3, aL w a, .inr (.inr (.inr (.inr (aR w K a))))) := by
  obtain ⟨h1, h2, h3⟩ := okA_spec hK
  rw [cell_arr h h2]; unfold arrE; rw [if_neg (by omega), if_neg (by omega), if_neg (by omega), if_pos h3]
theorem arr_4 {K a : Nat} (h : kd w a = K) (hK : okA K 4 = true) : cellE cy w a = .inl (cy 4, aL w a, .inr (.inl (aJ w K a))) := by
  obtain ⟨h1, h2, h3⟩ := okA_spec hK
  rw [cell_arr h h2]; unfold arrE; rw [if_neg (by omega), if_neg (by omega), if_neg (by omega), if_neg (by omega)]
theorem g_iald (C : Cx p l R s m args meth c D cy z cc own nL ret fr lo mc ms de) (K : Nat) {a : Nat} {i : Int32} (hk : kd w a = K) (hK : okA K 0 = true) (hin : vp_in i (aL w a)) (hdg : decode cc pc = .ok (.iaload, 1))
    (kk : G p l e R s m args below meth c D cy z nL w kc ns (pc + 1) lv (.int (aI w K a i.toNatClampNeg) :: st) Q) : G p l e R s m args below meth c D cy z nL w kc ns pc lv (.int i :: .ref a :: st) Q := by
  intro H locs ls hH hS hl
  obtain ⟨q0, hq⟩ := hH.get (a := a) (by rw [hk]; exact (okA_spec hK).1)
  rw [arr_0 hk hK] at hq
  exact va_iald C.1 C.2.1 C.2.2.2.2.2.2.2.1 hH.P q0 0 hq rfl hin hdg (kk H locs ls hH hS hl)
theorem g_zald (C : Cx p l R s m args meth c D cy z cc own nL ret fr lo mc ms de) (K : Nat) {a : Nat} {i : Int32} (hk : kd w a = K) (hK : okA K 1 = true) (hin : vp_in i (aL w a)) (hdg : decode cc pc = .ok (.baload, 1))
    (kk : G p l e R s m args below meth c D cy z nL w kc ns (pc + 1) lv (.int (aI w K a i.toNatClampNeg) :: st) Q) : G p l e R s m args below meth c D cy z nL w kc ns pc lv (.int i :: .ref a :: st) Q := by
  intro H locs ls hH hS hl
  obtain ⟨q0, hq⟩ := hH.get (a := a) (by rw [hk]; exact (okA_spec hK).1)
  rw [arr_1 hk hK] at hq
  exact va_zald C.1 C.2.1 C.2.2.2.2.2.2.2.1 hH.P q0 1 hq rfl hin hdg (kk H locs ls hH hS hl)
theorem g_lald (C : Cx p l R s m args meth c D cy z cc own nL ret fr lo mc ms de) (K : Nat) {a : Nat} {i : Int32} (hk : kd w a = K) (hK : okA K 4 = true) (hin : vp_in i (aL w a)) (hdg : decode cc pc = .ok (.laload, 1))
    (kk : G p l e R s m args below meth c D cy z nL w kc ns (pc + 1) lv (.long (aJ w K a i.toNatClampNeg) :: st) Q) : G p l e R s m args below meth c D cy z nL w kc ns pc lv (.int i :: .ref a :: st) Q := by
  intro H locs ls hH hS hl
  obtain ⟨q0, hq⟩ := hH.get (a := a) (by rw [hk]; exact (okA_spec hK).1)
  rw [arr_4 hk hK] at hq
  exact va_lald C.1 C.2.1 C.2.2.2.2.2.2.2.1 hH.P q0 4 hq rfl hin hdg (kk H locs ls hH hS hl)
theorem g_aald (C : Cx p l R s m args meth c D cy z cc own nL ret fr lo mc ms de) (K : Nat) {a : Nat} {i : Int32} (r : Option Nat) (hk : kd w a = K) (hK : okA K 2 = true ∨ okA K 3 = true) (hin : vp_in i (aL w a)) (hr : aR w K a i.toNatClampNeg = r) (hdg : decode cc pc = .ok (.aaload, 1))
    (kk : G p l e R s m args below meth c D cy z nL w kc ns (pc + 1) lv (va_rf r :: st) Q) : G p l e R s m args below meth c D cy z nL w kc ns pc lv (.int i :: .ref a :: st) Q := by
  intro H locs ls hH hS hl
  subst hr
  rcases hK with hK | hK
  · obtain ⟨q0, hq⟩ := hH.get (a := a) (by rw [hk]; exact (okA_spec hK).1)
    rw [arr_2 hk hK] at hq
    exact va_aldq C.1 C.2.1 C.2.2.2.2.2.2.2.1 hH.P q0 2 hq rfl hin hdg (kk H locs ls hH hS hl)
  · obtain ⟨q0, hq⟩ := hH.get (a := a) (by rw [hk]; exact (okA_spec hK).1)
    rw [arr_3 hk hK] at hq
    exact va_aldq C.1 C.2.1 C.2.2.2.2.2.2.2.1 hH.P q0 3 hq rfl hin hdg (kk H locs ls hH hS hl)
theorem upd_eq {w : Wd} {K a j : Nat} {v : Int32} : upd (aI w K a) j v = aI (pAI w K a j v) K a := by
  funext i
  show _ = up3 w.2.2.2.2.1 K a j v K a i
  simp [upd, up3, aI]
theorem pAI_cell {K a j : Nat} {v : Int32} {b : Nat} (hb : b ≠ a) : cellE cy (pAI w K a j v) b = cellE cy w b :=
  cell_same rfl (fun _ _ => rfl) (fun _ _ => rfl) rfl (fun _ => funext fun _ => up3_y hb) (fun _ => rfl) (fun _ => rfl)
theorem g_iast (C : Cx p l R s m args meth c D cy z cc own nL ret fr lo mc ms de) (K : Nat) {a : Nat} {i v : Int32} (hk : kd w a = K) (hK : okA K 0 = true) (hin : vp_in i (aL w a)) (hdg : decode cc pc = .ok (.iastore, 1))
    (kk : G p l e R s m args below meth c D cy z nL (pAI w K a i.toNatClampNeg v) kc ns (pc + 1) lv st Q) : G p l e R s m args below meth c D cy z nL w kc ns pc lv (.int v :: .int i :: .ref a :: st) Q := by
  intro H locs ls hH hS hl
  obtain ⟨q0, hq⟩ := hH.get (a := a) (by rw [hk]; exact (okA_spec hK).1)
  rw [arr_0 hk hK] at hq
  refine va_iast C.1 C.2.1 C.2.2.2.2.2.2.2.1 hH.P hH.dj hS q0 0 hq rfl hin hdg (fun H1 locs1 hP _ hS1 => kk H1 locs1 ls (hH.set hq hP ?_ (fun b hb hb2 => ⟨hb2, pAI_cell hb⟩)) hS1 hl)
  rw [arr_0 (w := pAI w K a i.toNatClampNeg v) (K := K) hk hK, upd_eq]
  rfl
theorem g_zast (C : Cx p l R s m args meth c D cy z cc own nL ret fr lo mc ms de) (K : Nat) {a : Nat} {i v : Int32} (hk : kd w a = K) (hK : okA K 1 = true) (hin : vp_in i (aL w a)) (hv : vp_nar .boolean v = v) (hdg : decode cc pc = .ok (.bastore, 1))
    (kk : G p l e R s m args below meth c D cy z nL (pAI w K a i.toNatClampNeg v) kc ns (pc + 1) lv st Q) : G p l e R s m args below meth c D cy z nL w kc ns pc lv (.int v :: .int i :: .ref a :: st) Q := by
  intro H locs ls hH hS hl
  obtain ⟨q0, hq⟩ := hH.get (a := a) (by rw [hk]; exact (okA_spec hK).1)
  rw [arr_1 hk hK] at hq
  refine va_zast C.1 C.2.1 C.2.2.2.2.2.2.2.1 hH.P hH.dj hS q0 1 hq rfl hin hdg (fun H1 locs1 hP _ hS1 => kk H1 locs1 ls (hH.set hq hP ?_ (fun b hb hb2 => ⟨hb2, pAI_cell hb⟩)) hS1 hl)
  rw [arr_1 (w := pAI w K a i.toNatClampNeg v) (K := K) hk hK, hv, upd_eq]
  rfl
theorem g_last (C : Cx p l R s m args meth c D cy z cc own nL ret fr lo mc ms de) (K : Nat) {a : Nat} {i : Int32} {v : Int64} (hk : kd w a = K) (hK : okA K 4 = true) (hin : vp_in i (aL w a)) (hdg : decode cc pc = .ok (.lastore, 1))
    (kk : G p l e R s m args below meth c D cy z nL (pAJ w K a i.toNatClampNeg v) kc ns (pc + 1) lv st Q) : G p l e R s m args below meth c D cy z nL w kc ns pc lv (.long v :: .int i :: .ref a :: st) Q := by
  intro H locs ls hH hS hl
  obtain ⟨q0, hq⟩ := hH.get (a := a) (by rw [hk]; exact (okA_spec hK).1)
  rw [arr_4 hk hK] at hq
  refine va_last C.1 C.2.1 C.2.2.2.2.2.2.2.1 hH.P hH.dj hS q0 4 hq rfl hin hdg (fun H1 locs1 hP _ hS1 => kk H1 locs1 ls (hH.set hq hP ?_ (fun b hb hb2 => ⟨hb2, cell_same rfl (fun _ _ => rfl) (fun _ _ => rfl) rfl (fun _ => rfl) (fun _ => rfl) (fun _ => funext fun _ => up3_y hb)⟩)) hS1 hl)
  rw [arr_4 (w := pAJ w K a i.toNatClampNeg v) (K := K) hk hK]
  refine congrArg (fun f => Sum.inl (cy 4, aL w a, Sum.inr (Sum.inl f))) (funext fun j => ?_)
  show up3 w.2.2.2.2.2.2 K a i.toNatClampNeg v K a j = vp_updL (aJ w K a) i.toNatClampNeg v j
  simp [vp_updL, up3, aJ]
theorem pAR_cell {K a j : Nat} {v : Option Nat} {b : Nat} (hb : b ≠ a) : cellE cy (pAR w K a j v) b = cellE cy w b :=
  cell_same rfl (fun _ _ => rfl) (fun _ _ => rfl) rfl (fun _ => rfl) (fun _ => funext fun _ => up3_y hb) (fun _ => rfl)
theorem vaup_eq {w : Wd} {K a j : Nat} {v : Option Nat} : va_up (aR w K a) j v = aR (pAR w K a j v) K a := by
  funext i
  show _ = up3 w.2.2.2.2.2.1 K a j v K a i
  simp [va_up, up3, aR]
/-- a Telling into a row of them -/
theorem g_aast2 (C : Cx p l R s m args meth c D cy z cc own nL ret fr lo mc ms de) (K K2 : Nat) {a v : Nat} {i : Int32} (hk : kd w a = K) (hK : okA K 2 = true) (hv : kd w v = K2) (hK2 : okF 8 4 K2 0 false = true) (hin : vp_in i (aL w a)) (hdg : decode cc pc = .ok (.aastore, 1))
    (kk : G p l e R s m args below meth c D cy z nL (pAR w K a i.toNatClampNeg (some v)) kc ns (pc + 1) lv st Q) : G p l e R s m args below meth c D cy z nL w kc ns pc lv (.ref v :: .int i :: .ref a :: st) Q := by
  obtain ⟨h1, h2, h3, -⟩ := okF_spec hK2
  intro H locs ls hH hS hl
  obtain ⟨q0, hq⟩ := hH.get (a := a) (by rw [hk]; exact (okA_spec hK).1)
  rw [arr_2 hk hK] at hq
  obtain ⟨q1, hq1⟩ := hH.get (a := v) (by rw [hv]; exact h1)
  rw [cell_obj hv h2, h3] at hq1
  refine va_astq C.1 C.2.1 C.2.2.2.2.2.2.2.1 hH.P hH.dj hS q0 2 q1 8 (r := (RX7, TX7, 4)) hq rfl hq1 rfl hin hdg (fun H1 locs1 hP _ hS1 => kk H1 locs1 ls (hH.set hq hP ?_ (fun b hb hb2 => ⟨hb2, pAR_cell hb⟩)) hS1 hl)
  rw [arr_2 (w := pAR w K a i.toNatClampNeg (some v)) (K := K) hk hK, vaup_eq]
  rfl
/-- an object into a row of Object -/
theorem g_aast3 (C : Cx p l R s m args meth c D cy z cc own nL ret fr lo mc ms de) {ci N : Nat} {Cn : String} {T : u_T} {ty0 : Nat → FieldType} (hcl : ClsOk ci Cn T N ty0) (hca : Cond.castable Cn "java/lang/Object" ∈ lw_tbl) (K K2 : Nat) {a v : Nat} {i : Int32} (hk : kd w a = K) (hK : okA K 3 = true) (hv : kd w v = K2) (hK2 : 0 < K2 ∧ K2 < 1000 ∧ (K2 - 1) % 20 = ci) (hin : vp_in i (aL w a)) (hdg : decode cc pc = .ok (.aastore, 1))
    (kk : G p l e R s m args below meth c D cy z nL (pAR w K a i.toNatClampNeg (some v)) kc ns (pc + 1) lv st Q) : G p l e R s m args below meth c D cy z nL w kc ns pc lv (.ref v :: .int i :: .ref a :: st) Q := by
  obtain ⟨h1, h2, h3⟩ := hK2
  intro H locs ls hH hS hl
  obtain ⟨q0, hq⟩ := hH.get (a := a) (by rw [hk]; exact (okA_spec hK).1)
  rw [arr_3 hk hK] at hq
  obtain ⟨q1, hq1⟩ := hH.get (a := v) (by rw [hv]; omega)
  rw [cell_obj hv h2, h3] at hq1
  refine va_astqO C.1 C.2.1 C.2.2.2.2.2.2.2.1 hH.P hH.dj hS q0 3 q1 ci (r := (Cn, T, N)) hq rfl (C.2.2.2.2.2.2.2.2.1.1 _ hca rfl) hq1 hcl.1 hin hdg (fun H1 locs1 hP _ hS1 => kk H1 locs1 ls (hH.set hq hP ?_ (fun b hb hb2 => ⟨hb2, pAR_cell hb⟩)) hS1 hl)
  rw [arr_3 (w := pAR w K a i.toNatClampNeg (some v)) (K := K) hk hK, vaup_eq]
  rfl
theorem g_alen (C : Cx p l R s m args meth c D cy z cc own nL ret fr lo mc ms de) (K t : Nat) {a : Nat} (hk : kd w a = K) (hK : okA K t = true) (ht : t < 5) (hdg : decode cc pc = .ok (.arraylength, 1))
    (kk : G p l e R s m args below meth c D cy z nL w kc ns (pc + 1) lv (.int (Int32.ofNat (aL w a)) :: st) Q) : G p l e R s m args below meth c D cy z nL w kc ns pc lv (.ref a :: st) Q := by
  intro H locs ls hH hS hl
  obtain ⟨q0, hq⟩ := hH.get (a := a) (by rw [hk]; exact (okA_spec hK).1)
  have hK' := C.2.2.2.2.2.2.2.1
  rcases (show t = 0 ∨ t = 1 ∨ t = 2 ∨ t = 3 ∨ t = 4 by omega) with rfl | rfl | rfl | rfl | rfl
  · rw [arr_0 hk hK] at hq
    exact va_alen C.1 C.2.1 hK' hH.P q0 0 hq (ty := .int) rfl rfl hdg (kk H locs ls hH hS hl)
  · rw [arr_1 hk hK] at hq
    exact va_alen C.1 C.2.1 hK' hH.P q0 1 hq (ty := .boolean) rfl rfl hdg (kk H locs ls hH hS hl)
  · rw [arr_2 hk hK] at hq
    exact va_alen C.1 C.2.1 hK' hH.P q0 2 hq (ty := .object "RainIndex$Telling") rfl rfl hdg (kk H locs ls hH hS hl)
  · rw [arr_3 hk hK] at hq
    exact va_alen C.1 C.2.1 hK' hH.P q0 3 hq (ty := .object "java/lang/Object") rfl rfl hdg (kk H locs ls hH hS hl)
  · rw [arr_4 hk hK] at hq
    exact va_alen C.1 C.2.1 hK' hH.P q0 4 hq (ty := .long) rfl rfl hdg (kk H locs ls hH hS hl)
theorem nw_other {w : Wd} {q K n b : Nat} (hb : b ≠ q) : cellE cy (nw w q K n) b = cellE cy w b :=
  cell_same (va_up_ne _ _ hb) (fun x y => show (if b = q then 0 else w.2.1 x y b) = w.2.1 x y b from if_neg hb) (fun x y => show (if b = q then none else w.2.2.1 x y b) = w.2.2.1 x y b from if_neg hb) (va_up_ne _ _ hb)
    (fun x => funext fun i => show (if b = q then 0 else w.2.2.2.2.1 x b i) = w.2.2.2.2.1 x b i from if_neg hb) (fun x => funext fun i => show (if b = q then none else w.2.2.2.2.2.1 x b i) = w.2.2.2.2.2.1 x b i from if_neg hb) (fun x => funext fun i => show (if b = q then 0 else w.2.2.2.2.2.2 x b i) = w.2.2.2.2.2.2 x b i from if_neg hb)
theorem nw_kd {w : Wd} {q K n b : Nat} (hb : b ≠ q) : kd (nw w q K n) b = kd w b := va_up_ne _ _ hb
theorem nw_kd0 {w : Wd} {q K n : Nat} : kd (nw w q K n) q = K := va_up_self _ _ _
theorem nw_aL0 {w : Wd} {q K n : Nat} : aL (nw w q K n) q = n := va_up_self _ _ _
theorem nw_aI0 {w : Wd} {q K n : Nat} : aI (nw w q K n) K q = fun _ => 0 := funext fun _ => if_pos rfl
theorem nw_aR0 {w : Wd} {q K n : Nat} : aR (nw w q K n) K q = fun _ => none := funext fun _ => if_pos rfl
theorem nw_aJ0 {w : Wd} {q K n : Nat} : aJ (nw w q K n) K q = fun _ => 0 := funext fun _ => if_pos rfl
theorem ra_prim {U : State} {c1 c2 : ClassId} {ty : FieldType} (h : ∀ C, ty ≠ .object C) (h1 : va_RA U c1 ty) (h2 : va_RA U c2 ty) : c1 = c2 := by
  cases ty <;> first | exact absurd rfl (h _) | exact Option.some.inj (h1.symm.trans h2)
theorem ra_obj {U : State} {c1 c2 : ClassId} {C : String} (h1 : va_RA U c1 (.object C)) (h2 : va_RA U c2 (.object C)) : c1 = c2 := by
  obtain ⟨_, _, _, _, _, a⟩ := h1
  obtain ⟨_, _, _, _, _, b⟩ := h2
  exact Option.some.inj (a.symm.trans b)
theorem A_new {w : Wd} (C : Cx p l R s m args meth c D cy z cc own nL ret fr lo mc ms de) : ∀ q : Nat, s.heap.size ≤ q → (fun q => z ≤ q) q := fun q h => Nat.le_trans C.2.2.2.2.2.2.2.2.2.2.1 h
theorem g_newI (C : Cx p l R s m args meth c D cy z cc own nL ret fr lo mc ms de) (K N : Nat) {n : Int32} (hK : okA K 0 = true) (harr : Cond.arrayClass .int ∈ TBL) (hn : ¬ n < 0) (hN : n.toNatClampNeg = N) (hb : N * 4 ≤ 536870912) (h1 : kc + 1 ≤ mc) (h2 : ns + N ≤ ms) (hdg : decode cc pc = .ok (.newarray .int, 2))
    (kk : ∀ q : Nat, kd w q = 0 → q ≠ de → G p l e R s m args below meth c D cy z nL (nw w q K N) (kc + 1) (ns + N) (pc + 2) lv (.ref q :: st) Q) : G p l e R s m args below meth c D cy z nL w kc ns pc lv (.int n :: st) Q := by
  intro H locs ls hH hS hl
  have hR := C.2.2.2.2.2.2.2.2.2.1
  refine va_newa (atype := .int) (ty := .int) C.1 C.2.1 (C.2.2.2.2.1 _ harr) rfl C.2.2.2.2.2.2.2.1 hH.P hH.dj hS (A_new (w := w) C) (a0 := (N, .inl (fun _ => 0))) (fun cA => rfl) hn hN hb (by rw [hR]; exact h1) (by rw [hR]; exact h2) hdg (fun q cA H1 hK1 hP hD hS1 => ?_)
  have e1 : cA = cy 0 := ra_prim (fun _ h => by cases h) (hK1.2 5 (cA, .int) rfl).2 (hK1.2 0 (cy 0, .int) rfl).2
  subst e1
  obtain ⟨hH1, hq0, hqz⟩ := hH.new (w' := nw w q K N) hP hD (by rw [arr_0 nw_kd0 hK, nw_aL0, nw_aI0]) (fun b hb hb2 => ⟨by rw [← nw_kd (w := w) (K := K) (n := N) hb]; exact hb2, nw_other hb⟩)
  exact kk q hq0 (fun h9 => by have := C.2.2.2.2.2.2.2.2.1.2.2.2.2.2.2.2.1.2.1; omega) H1 locs ls hH1 hS1 hl
theorem g_newZ (C : Cx p l R s m args meth c D cy z cc own nL ret fr lo mc ms de) (K N : Nat) {n : Int32} (hK : okA K 1 = true) (harr : Cond.arrayClass .boolean ∈ TBL) (hn : ¬ n < 0) (hN : n.toNatClampNeg = N) (hb : N * componentBytes .boolean ≤ 536870912) (h1 : kc + 1 ≤ mc) (h2 : ns + N ≤ ms) (hdg : decode cc pc = .ok (.newarray .boolean, 2))
    (kk : ∀ q : Nat, kd w q = 0 → q ≠ de → G p l e R s m args below meth c D cy z nL (nw w q K N) (kc + 1) (ns + N) (pc + 2) lv (.ref q :: st) Q) : G p l e R s m args below meth c D cy z nL w kc ns pc lv (.int n :: st) Q := by
  intro H locs ls hH hS hl
  have hR := C.2.2.2.2.2.2.2.2.2.1
  refine va_newa (atype := .boolean) (ty := .boolean) C.1 C.2.1 (C.2.2.2.2.1 _ harr) rfl C.2.2.2.2.2.2.2.1 hH.P hH.dj hS (A_new (w := w) C) (a0 := (N, .inl (fun _ => 0))) (fun cA => rfl) hn hN hb (by rw [hR]; exact h1) (by rw [hR]; exact h2) hdg (fun q cA H1 hK1 hP hD hS1 => ?_)
  have e1 : cA = cy 1 := ra_prim (fun _ h => by cases h) (hK1.2 5 (cA, .boolean) rfl).2 (hK1.2 1 (cy 1, .boolean) rfl).2
  subst e1
  obtain ⟨hH1, hq0, hqz⟩ := hH.new (w' := nw w q K N) hP hD (by rw [arr_1 nw_kd0 hK, nw_aL0, nw_aI0]) (fun b hb hb2 => ⟨by rw [← nw_kd (w := w) (K := K) (n := N) hb]; exact hb2, nw_other hb⟩)
  exact kk q hq0 (fun h9 => by have := C.2.2.2.2.2.2.2.2.1.2.2.2.2.2.2.2.1.2.1; omega) H1 locs ls hH1 hS1 hl
theorem g_newJ (C : Cx p l R s m args meth c D cy z cc own nL ret fr lo mc ms de) (K N : Nat) {n : Int32} (hK : okA K 4 = true) (harr : Cond.arrayClass .long ∈ TBL) (hn : ¬ n < 0) (hN : n.toNatClampNeg = N) (hb : N * componentBytes .long ≤ 536870912) (h1 : kc + 1 ≤ mc) (h2 : ns + N ≤ ms) (hdg : decode cc pc = .ok (.newarray .long, 2))
    (kk : ∀ q : Nat, kd w q = 0 → q ≠ de → G p l e R s m args below meth c D cy z nL (nw w q K N) (kc + 1) (ns + N) (pc + 2) lv (.ref q :: st) Q) : G p l e R s m args below meth c D cy z nL w kc ns pc lv (.int n :: st) Q := by
  intro H locs ls hH hS hl
  have hR := C.2.2.2.2.2.2.2.2.2.1
  refine va_newa (atype := .long) (ty := .long) C.1 C.2.1 (C.2.2.2.2.1 _ harr) rfl C.2.2.2.2.2.2.2.1 hH.P hH.dj hS (A_new (w := w) C) (a0 := (N, .inr (.inl (fun _ => 0)))) (fun cA => rfl) hn hN hb (by rw [hR]; exact h1) (by rw [hR]; exact h2) hdg (fun q cA H1 hK1 hP hD hS1 => ?_)
  have e1 : cA = cy 4 := ra_prim (fun _ h => by cases h) (hK1.2 5 (cA, .long) rfl).2 (hK1.2 4 (cy 4, .long) rfl).2
  subst e1
  obtain ⟨hH1, hq0, hqz⟩ := hH.new (w' := nw w q K N) hP hD (by rw [arr_4 nw_kd0 hK, nw_aL0, nw_aJ0]) (fun b hb hb2 => ⟨by rw [← nw_kd (w := w) (K := K) (n := N) hb]; exact hb2, nw_other hb⟩)
  exact kk q hq0 (fun h9 => by have := C.2.2.2.2.2.2.2.2.1.2.2.2.2.2.2.2.1.2.1; omega) H1 locs ls hH1 hS1 hl
theorem g_newT (C : Cx p l R s m args meth c D cy z cc own nL ret fr lo mc ms de) (K N : Nat) {n : Int32} {index : Nat} (hK : okA K 2 = true) (hlink : Cond.classLink own index "RainIndex$Telling" ∈ TBL) (hn : ¬ n < 0) (hN : n.toNatClampNeg = N) (hb : N * 4 ≤ 536870912) (h1 : kc + 1 ≤ mc) (h2 : ns + N ≤ ms) (hdg : decode cc pc = .ok (.anewarray index, 3))
    (kk : ∀ q : Nat, kd w q = 0 → q ≠ de → G p l e R s m args below meth c D cy z nL (nw w q K N) (kc + 1) (ns + N) (pc + 3) lv (.ref q :: st) Q) : G p l e R s m args below meth c D cy z nL w kc ns pc lv (.int n :: st) Q := by
  intro H locs ls hH hS hl
  have hR := C.2.2.2.2.2.2.2.2.2.1
  refine va_newq C.1 C.2.1 C.2.2.2.1 (C.2.2.2.2.1 _ hlink) C.2.2.2.2.2.2.2.2.1.2.1 C.2.2.2.2.2.2.2.1 hH.P hH.dj hS (A_new (w := w) C) hn hN hb (by rw [hR]; exact h1) (by rw [hR]; exact h2) hdg (fun q cA H1 hK1 hP hD hS1 => ?_)
  have e1 : cA = cy 2 := ra_obj (hK1.2 5 (cA, .object "RainIndex$Telling") rfl).2 (hK1.2 2 (cy 2, .object "RainIndex$Telling") rfl).2
  subst e1
  obtain ⟨hH1, hq0, hqz⟩ := hH.new (w' := nw w q K N) hP hD (by rw [arr_2 nw_kd0 hK, nw_aL0, nw_aR0]) (fun b hb hb2 => ⟨by rw [← nw_kd (w := w) (K := K) (n := N) hb]; exact hb2, nw_other hb⟩)
  exact kk q hq0 (fun h9 => by have := C.2.2.2.2.2.2.2.2.1.2.2.2.2.2.2.2.1.2.1; omega) H1 locs ls hH1 hS1 hl
theorem g_newO (C : Cx p l R s m args meth c D cy z cc own nL ret fr lo mc ms de) (K N : Nat) {n : Int32} {index : Nat} (hK : okA K 3 = true) (hlink : Cond.classLink own index "java/lang/Object" ∈ TBL) (hn : ¬ n < 0) (hN : n.toNatClampNeg = N) (hb : N * 4 ≤ 536870912) (h1 : kc + 1 ≤ mc) (h2 : ns + N ≤ ms) (hdg : decode cc pc = .ok (.anewarray index, 3))
    (kk : ∀ q : Nat, kd w q = 0 → q ≠ de → G p l e R s m args below meth c D cy z nL (nw w q K N) (kc + 1) (ns + N) (pc + 3) lv (.ref q :: st) Q) : G p l e R s m args below meth c D cy z nL w kc ns pc lv (.int n :: st) Q := by
  intro H locs ls hH hS hl
  have hR := C.2.2.2.2.2.2.2.2.2.1
  refine va_newq C.1 C.2.1 C.2.2.2.1 (C.2.2.2.2.1 _ hlink) C.2.2.2.2.2.2.2.2.1.2.2.1 C.2.2.2.2.2.2.2.1 hH.P hH.dj hS (A_new (w := w) C) hn hN hb (by rw [hR]; exact h1) (by rw [hR]; exact h2) hdg (fun q cA H1 hK1 hP hD hS1 => ?_)
  have e1 : cA = cy 3 := ra_obj (hK1.2 5 (cA, .object "java/lang/Object") rfl).2 (hK1.2 3 (cy 3, .object "java/lang/Object") rfl).2
  subst e1
  obtain ⟨hH1, hq0, hqz⟩ := hH.new (w' := nw w q K N) hP hD (by rw [arr_3 nw_kd0 hK, nw_aL0, nw_aR0]) (fun b hb hb2 => ⟨by rw [← nw_kd (w := w) (K := K) (n := N) hb]; exact hb2, nw_other hb⟩)
  exact kk q hq0 (fun h9 => by have := C.2.2.2.2.2.2.2.2.1.2.2.2.2.2.2.2.1.2.1; omega) H1 locs ls hH1 hS1 hl
/-- the types of a class's fields are those of isRf: references where it says so, whole numbers elsewhere -/
def tyOk (ci N : Nat) (ty0 : Nat → FieldType) : Bool := (List.range N).all (fun k => if isRf ci k then defaultValue (ty0 k) == Value.null else defaultValue (ty0 k) == Value.int 0)
theorem g_new (C : Cx p l R s m args meth c D cy z cc own nL ret fr lo mc ms de) {ci N : Nat} {Cn : String} {T : u_T} {ty0 : Nat → FieldType} (hcl : ClsOk ci Cn T N ty0) (hty : ∀ k, k < N → defaultValue (ty0 k) = if isRf ci k then Value.null else Value.int 0) (K : Nat) {index : Nat} (hK : okF ci N K 0 (isRf ci 0) = true)
    (hlink : Cond.classLink own index Cn ∈ TBL) (hins : Cond.instantiable Cn N ∈ TBL) (hini : Cond.initialized Cn ∈ TBL) (h1 : kc + 1 ≤ mc) (h2 : ns + N ≤ ms) (hdg : decode cc pc = .ok (.new index, 3))
    (kk : ∀ q : Nat, kd w q = 0 → q ≠ de → G p l e R s m args below meth c D cy z nL (nw w q K 0) (kc + 1) (ns + N) (pc + 3) lv (.ref q :: st) Q) : G p l e R s m args below meth c D cy z nL w kc ns pc lv st Q := by
  obtain ⟨g1, g2, g3, g4, g5, g6⟩ := okF_spec hK
  intro H locs ls hH hS hl
  have hR := C.2.2.2.2.2.2.2.2.2.1
  have hts := C.2.2.2.2.1
  have hf : ∀ q j, j < N → vp_V (flds (nw w q K 0) K q) j = if isRf ci j then Value.null else Value.int 0 := by
    intro q j hj
    unfold vp_V
    rw [List.getD_eq_getElem?_getD, flds_get (by rw [g3, g5]; exact hj)]
    show fval (nw w q K 0) K q j = _
    unfold fval
    rw [g3, show fR (nw w q K 0) K j q = none from if_pos rfl, show fI (nw w q K 0) K j q = 0 from if_pos rfl]
    cases isRf ci j <;> rfl
  obtain ⟨q9, hq9⟩ : ∃ q : Nat, q = H.size := ⟨_, rfl⟩
  refine va_new C.1 C.2.1 hts hcl.2.1 ty0 hcl.2.2.1 C.2.2.2.1 (hts _ hlink) (hts _ hins) (hts _ hini) C.2.2.2.2.2.2.2.1 hH.P hH.dj hS (A_new (w := w) C) hcl.1 (fs := flds (nw w q9 K 0) K q9) (fun j hj => by rw [hf q9 j hj]; exact hty j hj) (by rw [hR]; exact h1) (by rw [hR]; exact h2) hdg (fun q H1 hP hD hS1 => ?_)
  have ef : flds (nw w q9 K 0) K q9 = flds (nw w q K 0) K q := by
    unfold flds
    refine List.map_congr_left (fun j hj => ?_)
    unfold fval
    rw [show fR (nw w q9 K 0) K j q9 = none from if_pos rfl, show fI (nw w q9 K 0) K j q9 = 0 from if_pos rfl, show fR (nw w q K 0) K j q = none from if_pos rfl, show fI (nw w q K 0) K j q = 0 from if_pos rfl]
  rw [ef] at hP hD
  obtain ⟨hH1, hq0, hqz⟩ := hH.new (w' := nw w q K 0) hP hD (by rw [cell_obj nw_kd0 g2, g3]) (fun b hb hb2 => ⟨by rw [← nw_kd (w := w) (K := K) (n := 0) hb]; exact hb2, nw_other hb⟩)
  exact kk q hq0 (fun h9 => by have := C.2.2.2.2.2.2.2.2.1.2.2.2.2.2.2.2.1.2.1; omega) H1 locs ls hH1 hS1 hl
theorem recv {K ci N a : Nat} {Cn : String} {T : u_T} {ty0 : Nat → FieldType} (C : Cx p l R s m args meth c D cy z cc own nL ret fr lo mc ms de) (hcl : ClsOk ci Cn T N ty0) (hk : kd w a = K) (hK : 0 < K ∧ K < 1000 ∧ (K - 1) % 20 = ci) {H : Heap} (hH : HH D cy z w H) : ∃ cell : Cell, H[a]? = some cell ∧ cell.vm.isStatics = false ∧ s.vm.findClass Cn = some cell.cls := by
  obtain ⟨q0, hq⟩ := hH.get (a := a) (by rw [hk]; omega)
  rw [cell_obj hk hK.2.1, hK.2.2] at hq
  exact va_recv C.2.2.2.2.2.2.2.1 hH.P hcl.1 hq
theorem g_cast (C : Cx p l R s m args meth c D cy z cc own nL ret fr lo mc ms de) {ci N : Nat} {Cn : String} {T : u_T} {ty0 : Nat → FieldType} (hcl : ClsOk ci Cn T N ty0) (K : Nat) {a index : Nat} (hk : kd w a = K) (hK : 0 < K ∧ K < 1000 ∧ (K - 1) % 20 = ci) (hlink : Cond.classLink own index Cn ∈ TBL) (hdg : decode cc pc = .ok (.checkcast index, 3))
    (kk : G p l e R s m args below meth c D cy z nL w kc ns (pc + 3) lv (.ref a :: st) Q) : G p l e R s m args below meth c D cy z nL w kc ns pc lv (.ref a :: st) Q := fun H locs ls hH hS hl =>
  va_castS C.1 C.2.1 C.2.2.2.1 (C.2.2.2.2.1 _ hlink) (C.2.2.2.2.2.2.2.1.1 ci (Cn, T, N) hcl.1).2 (recv C hcl hk hK hH) hdg (kk H locs ls hH hS hl)
end HEAPOPS
