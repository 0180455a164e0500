section BASE
/-! worlds: every cell by the kind of its address; objects: kind K < 1000, class (K-1)%20 of vwCl; arrays: kind K >= 1000, sort K%10 -/
abbrev Wd : Type := (Nat → Nat) × (Nat → Nat → Nat → Int32) × (Nat → Nat → Nat → Option Nat) × (Nat → Nat) × (Nat → Nat → Nat → Int32) × (Nat → Nat → Nat → Option Nat) × (Nat → Nat → Nat → Int64)
def kd (w : Wd) (a : Nat) : Nat := w.1 a
def fI (w : Wd) (K k a : Nat) : Int32 := w.2.1 K k a
def fR (w : Wd) (K k a : Nat) : Option Nat := w.2.2.1 K k a
def aL (w : Wd) (a : Nat) : Nat := w.2.2.2.1 a
def aI (w : Wd) (K a j : Nat) : Int32 := w.2.2.2.2.1 K a j
def aR (w : Wd) (K a j : Nat) : Option Nat := w.2.2.2.2.2.1 K a j
def aJ (w : Wd) (K a j : Nat) : Int64 := w.2.2.2.2.2.2 K a j
def up3 {α : Type} (f : Nat → Nat → Nat → α) (x y z : Nat) (v : α) : Nat → Nat → Nat → α := fun x' y' z' => if x' = x ∧ y' = y ∧ z' = z then v else f x' y' z'
def pI (w : Wd) (K k a : Nat) (v : Int32) : Wd := (w.1, up3 w.2.1 K k a v, w.2.2)
def pR (w : Wd) (K k a : Nat) (v : Option Nat) : Wd := (w.1, w.2.1, up3 w.2.2.1 K k a v, w.2.2.2)
def pAI (w : Wd) (K a j : Nat) (v : Int32) : Wd := (w.1, w.2.1, w.2.2.1, w.2.2.2.1, up3 w.2.2.2.2.1 K a j v, w.2.2.2.2.2)
def pAR (w : Wd) (K a j : Nat) (v : Option Nat) : Wd := (w.1, w.2.1, w.2.2.1, w.2.2.2.1, w.2.2.2.2.1, up3 w.2.2.2.2.2.1 K a j v, w.2.2.2.2.2.2)
def pAJ (w : Wd) (K a j : Nat) (v : Int64) : Wd := (w.1, w.2.1, w.2.2.1, w.2.2.2.1, w.2.2.2.2.1, w.2.2.2.2.2.1, up3 w.2.2.2.2.2.2 K a j v)
/-- a new cell at a, of kind K, all zero; n: its length, if it is an array -/
def nw (w : Wd) (a K n : Nat) : Wd := (va_up w.1 a K, (fun x y z => if z = a then 0 else w.2.1 x y z), (fun x y z => if z = a then none else w.2.2.1 x y z), va_up w.2.2.2.1 a n,
  (fun x y z => if y = a then 0 else w.2.2.2.2.1 x y z), (fun x y z => if y = a then none else w.2.2.2.2.2.1 x y z), (fun x y z => if y = a then 0 else w.2.2.2.2.2.2 x y z))
def nFl : Nat → Nat
  | 0 => 3 | 1 => 4 | 2 => 12 | 3 => 7 | 4 => 5 | 5 => 3 | 6 => 1 | 7 => 5 | 8 => 4 | 9 => 2 | 10 => 12 | 11 => 30 | _ => 0
def rfl_ : Nat → List Nat
  | 0 => [1] | 2 => [0, 1] | 3 => [1, 2] | 5 => [1] | 6 => [0] | 7 => [3, 4] | 8 => [3] | 9 => [0] | 10 => [0, 1, 2, 3, 4, 5, 6, 7]
  | 11 => [1, 2, 4, 5, 7, 8, 9, 12, 13, 14, 15, 16, 18, 19, 23, 25, 26, 28] | _ => []
def isRf (ci k : Nat) : Bool := (rfl_ ci).contains k
def fval (w : Wd) (K a k : Nat) : Value := if isRf ((K - 1) % 20) k then va_rf (fR w K k a) else .int (fI w K k a)
def flds (w : Wd) (K a : Nat) : List Value := (List.range (nFl ((K - 1) % 20))).map (fval w K a)
def arrE (cy : Nat → ClassId) (w : Wd) (K a : Nat) : va_E :=
  if K % 10 = 0 then .inl (cy 0, aL w a, .inl (aI w K a)) else if K % 10 = 1 then .inl (cy 1, aL w a, .inl (aI w K a))
  else if K % 10 = 2 then .inl (cy 2, aL w a, .inr (.inr (.inr (.inr (aR w K a))))) else if K % 10 = 3 then .inl (cy 3, aL w a, .inr (.inr (.inr (.inr (aR w K a)))))
  else .inl (cy 4, aL w a, .inr (.inl (aJ w K a)))
def cellE (cy : Nat → ClassId) (w : Wd) (a : Nat) : va_E := if kd w a < 1000 then .inr ((kd w a - 1) % 20, flds w (kd w a) a) else arrE cy w (kd w a) a
def HH (D : va_G) (cy : Nat → ClassId) (z : Nat) (w : Wd) (H : Heap) : Prop := ∀ a, kd w a ≠ 0 → z ≤ a ∧ va_at D vwCl (a, cellE cy w a) H
def wsO (cy : Nat → ClassId) (w : Wd) (n : Nat) : va_W := ((List.range n).filter (fun a => decide (kd w a ≠ 0))).map (fun a => (a, cellE cy w a))
variable {D : va_G} {cy : Nat → ClassId} {z : Nat} {w w' : Wd} {H H1 : Heap} {a : Nat}
theorem wsO_get {n : Nat} (h : kd w a ≠ 0) (hn : a < n) : ∃ q0 : Nat, (wsO cy w n)[q0]? = some (a, cellE cy w a) :=
  List.getElem?_of_mem (List.mem_map.mpr ⟨a, List.mem_filter.mpr ⟨List.mem_range.mpr hn, by simpa using h⟩, rfl⟩)
theorem wsO_of {n k : Nat} {q : Nat × va_E} (h : (wsO cy w n)[k]? = some q) : q.1 < n ∧ kd w q.1 ≠ 0 ∧ q.2 = cellE cy w q.1 := by
  obtain ⟨b, hb, rfl⟩ := List.mem_map.mp (List.mem_of_getElem? h)
  obtain ⟨h1, h2⟩ := List.mem_filter.mp hb
  exact ⟨List.mem_range.mp h1, by simpa using h2, rfl⟩
theorem wsO_inj {n i j : Nat} {p q : Nat × va_E} (hi : (wsO cy w n)[i]? = some p) (hj : (wsO cy w n)[j]? = some q) (h : p.1 = q.1) : i = j := by
  have hn : ((List.range n).filter (fun a => decide (kd w a ≠ 0))).Nodup := List.Pairwise.filter _ List.nodup_range
  unfold wsO at hi hj
  rw [List.getElem?_map] at hi hj
  obtain ⟨x, hx, rfl⟩ := Option.map_eq_some_iff.mp hi
  obtain ⟨y, hy, rfl⟩ := Option.map_eq_some_iff.mp hj
  have e : x = y := h
  subst e
  have hl : i < ((List.range n).filter (fun a => decide (kd w a ≠ 0))).length := (List.getElem?_eq_some_iff.mp hx).1
  exact (List.getElem?_inj hl hn).mp (hx.trans hy.symm)
theorem HH.lt (h : HH D cy z w H) (ha : kd w a ≠ 0) : a < H.size := (h a ha).2.lt
theorem HH.P (h : HH D cy z w H) : va_P D vwCl (wsO cy w H.size) H := by
  intro k q hk
  obtain ⟨h1, h2, h3⟩ := wsO_of hk
  obtain ⟨b, e⟩ := q
  have h3 : e = cellE cy w b := h3
  subst h3
  exact (h b h2).2
theorem HH.dj (h : HH D cy z w H) : va_D (fun q => z ≤ q) (wsO cy w H.size) :=
  ⟨fun _ _ _ _ hi hj e => wsO_inj hi hj e, fun _ q hk => (h q.1 (wsO_of hk).2.1).1⟩
theorem HH.get (h : HH D cy z w H) (ha : kd w a ≠ 0) : ∃ q0 : Nat, (wsO cy w H.size)[q0]? = some (a, cellE cy w a) := wsO_get ha (h.lt ha)
theorem HH.set {q0 : Nat} {e e' : va_E} (h : HH D cy z w H) (h0 : (wsO cy w H.size)[q0]? = some (a, e)) (hP : va_P D vwCl ((wsO cy w H.size).set q0 (a, e')) H1) (hc : cellE cy w' a = e')
    (ho : ∀ b, b ≠ a → kd w' b ≠ 0 → kd w b ≠ 0 ∧ cellE cy w' b = cellE cy w b) : HH D cy z w' H1 := by
  have hl := (List.getElem?_eq_some_iff.mp h0).1
  intro b hb
  by_cases e1 : b = a
  · subst e1
    refine ⟨(h b (wsO_of h0).2.1).1, ?_⟩
    rw [hc]
    exact hP q0 _ (List.getElem?_set_self hl)
  · obtain ⟨h1, h2⟩ := ho b e1 hb
    obtain ⟨q1, hq⟩ := h.get h1
    refine ⟨(h b h1).1, ?_⟩
    rw [h2]
    refine hP q1 _ ?_
    rw [List.getElem?_set_ne]
    · exact hq
    · intro e2
      subst e2
      rw [h0] at hq
      exact e1 (congrArg Prod.fst (Option.some.inj hq)).symm
theorem HH.new {q : Nat} {e : va_E} (h : HH D cy z w H) (hP : va_P D vwCl (wsO cy w H.size ++ [(q, e)]) H1) (hD : va_D (fun q => z ≤ q) (wsO cy w H.size ++ [(q, e)])) (hc : cellE cy w' q = e)
    (ho : ∀ b, b ≠ q → kd w' b ≠ 0 → kd w b ≠ 0 ∧ cellE cy w' b = cellE cy w b) : HH D cy z w' H1 ∧ kd w q = 0 ∧ z ≤ q := by
  have hq : (wsO cy w H.size ++ [(q, e)])[(wsO cy w H.size).length]? = some (q, e) := by simp
  refine ⟨?_, ?_, hD.2 _ _ hq⟩
  · intro b hb
    by_cases e1 : b = q
    · subst e1
      refine ⟨hD.2 _ _ hq, ?_⟩
      rw [hc]
      exact hP _ _ hq
    · obtain ⟨h1, h2⟩ := ho b e1 hb
      obtain ⟨q1, hq1⟩ := h.get h1
      refine ⟨(h b h1).1, ?_⟩
      rw [h2]
      exact hP q1 _ (by rw [List.getElem?_append_left (List.getElem?_eq_some_iff.mp hq1).1]; exact hq1)
  · by_cases e1 : kd w q = 0
    · exact e1
    · obtain ⟨q1, hq1⟩ := h.get e1
      have hl := (List.getElem?_eq_some_iff.mp hq1).1
      have := hD.1 q1 (wsO cy w H.size).length (q, cellE cy w q) (q, e) (by rw [List.getElem?_append_left hl]; exact hq1) hq rfl
      omega
theorem flds_get {K k : Nat} (hk : k < nFl ((K - 1) % 20)) : (flds w K a)[k]? = some (fval w K a k) := by
  unfold flds
  rw [List.getElem?_map, List.getElem?_range hk]
  rfl
theorem flds_len {K : Nat} : (flds w K a).length = nFl ((K - 1) % 20) := by simp [flds]
theorem flds_set {K k : Nat} {v : Value} (hk : k < nFl ((K - 1) % 20)) (h1 : fval w' K a k = v) (h2 : ∀ j, j ≠ k → fval w' K a j = fval w K a j) : flds w' K a = (flds w K a).set k v := by
  apply List.ext_getElem?
  intro j
  by_cases hj : j = k
  · subst hj
    rw [List.getElem?_set_self (by rw [flds_len]; exact hk), flds_get hk, h1]
  · rw [List.getElem?_set_ne (Ne.symm hj)]
    unfold flds
    rw [List.getElem?_map, List.getElem?_map]
    by_cases hl : j < nFl ((K - 1) % 20)
    · rw [List.getElem?_range hl]
      show some (fval w' K a j) = some (fval w K a j)
      rw [h2 j hj]
    · rw [List.getElem?_eq_none (by simpa using hl)]
      rfl
theorem cell_obj {K : Nat} (h : kd w a = K) (hK : K < 1000) : cellE cy w a = .inr ((K - 1) % 20, flds w K a) := by
  unfold cellE
  rw [h, if_pos hK]
theorem cell_arr {K : Nat} (h : kd w a = K) (hK : ¬ K < 1000) : cellE cy w a = arrE cy w K a := by
  unfold cellE
  rw [h, if_neg hK]
/-- cells are the same where kinds, fields, lengths and rows are -/
theorem cell_same {b : Nat} (h1 : kd w' b = kd w b) (h2 : ∀ K k, fI w' K k b = fI w K k b) (h3 : ∀ K k, fR w' K k b = fR w K k b) (h4 : aL w' b = aL w b) (h5 : ∀ K, aI w' K b = aI w K b) (h6 : ∀ K, aR w' K b = aR w K b) (h7 : ∀ K, aJ w' K b = aJ w K b) : cellE cy w' b = cellE cy w b := by
  have e : ∀ K, flds w' K b = flds w K b := fun K => by
    unfold flds
    exact congrArg (fun g => List.map g _) (funext fun k => by unfold fval; rw [h2, h3])
  unfold cellE arrE
  rw [h1, e, h4, h5, h6, h7]
theorem up3_same {α : Type} {f : Nat → Nat → Nat → α} {x y z : Nat} {v : α} : up3 f x y z v x y z = v := by simp [up3]
theorem up3_z {α : Type} {f : Nat → Nat → Nat → α} {x y z x' y' z' : Nat} {v : α} (h : z' ≠ z) : up3 f x y z v x' y' z' = f x' y' z' := by simp [up3, h]
theorem up3_y {α : Type} {f : Nat → Nat → Nat → α} {x y z x' y' z' : Nat} {v : α} (h : y' ≠ y) : up3 f x y z v x' y' z' = f x' y' z' := by simp [up3, h]
theorem up3_x {α : Type} {f : Nat → Nat → Nat → α} {x y z x' y' z' : Nat} {v : α} (h : x' ≠ x) : up3 f x y z v x' y' z' = f x' y' z' := by simp [up3, h]
end BASE
