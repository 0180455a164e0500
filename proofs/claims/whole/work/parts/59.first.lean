section FIRST59
def w0 : Wd := (fun _ => 0, fun _ _ _ => 0, fun _ _ _ => none, fun _ => 0, fun _ _ _ => 0, fun _ _ _ => none, fun _ _ _ => 0)
def DN10 : List (Nat × Nat × Nat) := [(28, 2280, 60), (26, 2261, 100), (25, 2250, 20), (23, 2230, 600), (19, 2191, 320), (18, 2180, 320), (16, 2160, 16), (15, 2150, 16), (14, 2140, 16), (13, 2130, 16), (12, 2120, 16), (9, 2090, 7), (8, 2080, 7), (7, 2070, 105), (5, 2050, 6000), (4, 2040, 6000), (2, 2020, 5), (1, 2010, 5)]
theorem rm_dn : ∀ q ∈ rmF, q ∈ DN10 := by decide
/-- the reference as it is made -/
theorem M_zero {w : Wd} {mo : Nat} {ad : Nat → Nat} {F : Nat → Int32} {L : Int32} (hz : ∀ q ∈ rmF, ∀ j, aI w q.2.1 (ad q.1) j = 0) (hf : ∀ k, fI w 12 k mo = F k) (hL : F 29 = L) : M w mo ad (fun _ _ => 0) F L (fun _ => 0) = w := by
  have e1 : (M w mo ad (fun _ _ => 0) F L (fun _ => 0)).2.1 = w.2.1 := by
    funext K i a
    show (if K = 12 ∧ a = mo then (if i = 29 then L else F i) else w.2.1 K i a) = w.2.1 K i a
    by_cases h : K = 12 ∧ a = mo
    · rw [if_pos h, h.1, h.2]
      have e := hf i
      by_cases h9 : i = 29
      · rw [if_pos h9, ← hL, ← h9]
        exact e.symm
      · rw [if_neg h9]
        exact e.symm
    · rw [if_neg h]
  have e2 : (M w mo ad (fun _ _ => 0) F L (fun _ => 0)).2.2.2.2.1 = w.2.2.2.2.1 := by
    funext K a j
    show (if isA ((K - 2000) / 10) = true ∧ K = kq ((K - 2000) / 10) ∧ a = ad ((K - 2000) / 10) then (if K = 2280 then (0 : Int32) else 0) else w.2.2.2.2.1 K a j) = w.2.2.2.2.1 K a j
    by_cases h : isA ((K - 2000) / 10) = true ∧ K = kq ((K - 2000) / 10) ∧ a = ad ((K - 2000) / 10)
    · rw [if_pos h, ite_self]
      obtain ⟨l, hl⟩ := isA_in h.1
      have e := hz _ hl j
      have e3 : aI w K a j = 0 := by
        rw [h.2.2]
        rw [← h.2.1] at e
        exact e
      exact e3.symm
    · rw [if_neg h]
  show (w.1, (M w mo ad (fun _ _ => 0) F L (fun _ => 0)).2.1, w.2.2.1, w.2.2.2.1, (M w mo ad (fun _ _ => 0) F L (fun _ => 0)).2.2.2.2.1, w.2.2.2.2.2) = w
  rw [e1, e2]
/-- the numbers of the first day -/
theorem PV_first : PV (fun _ _ => 0) FI0 0 0 0 0 0 (fun _ => 0) (fun _ => 0) (fun _ => 0) (fun _ => 0) (fun _ => 0) (fun _ => 0) (fun _ _ => 0) (fun _ _ => []) 0 5000 5000 (fun _ => 0) := by
  have n0 : ∀ {k : Nat} {P : Prop}, k < 0 → P := fun h => absurd h (Nat.not_lt_zero _)
  refine ⟨by decide, by omega, by decide, by decide, by decide, by omega, by decide, by decide, by decide, by decide, by decide, by omega, by omega, ⟨by omega, by omega, by omega, fun k h => n0 h, fun k h => n0 h⟩, fun k h => n0 h, fun i j h => n0 h, fun f h => n0 h, fun f h => n0 h, fun j h => ⟨0, by omega, rfl⟩, fun k h => n0 h, fun k h => n0 h, ?_, ?_, fun k h => n0 h, ⟨Nat.zero_le 3, fun i h => n0 h⟩, fun f h1 h2 => ⟨rfl, rfl, rfl, fun q hq => rfl⟩, fun f q hq h => rfl, fun k h1 h2 => ⟨rfl, rfl⟩, fun s h1 h2 q hq => rfl, fun j hj h => absurd rfl h, rfl⟩
  · intro s hs d hd
    exact ⟨⟨rfl, rfl⟩, trivial, fun _ => rfl⟩
  · intro s d t ht
    cases ht
/-- behind the three that the law makes -/
theorem iv_first {w2 w4 : Wd} {de x mo ou : Nat} {ad : Nat → Nat} {f : Nat → Int32} {ca : Nat → Nat → Nat} (h : RC0 w2 de x (fun _ _ => 0) FI0 0 0 0 0 0 (fun _ => 0) (fun _ => 0) (fun _ => 0) (fun _ => 0) (fun _ => 0) (fun _ => 0) (fun _ _ => 0) (fun _ _ => []) ca) (hB : KB w2 0 (fun _ _ => 0) FI0 ca) (hmo : kd w2 mo = 0) (hr : RBp (nw w2 mo 12 0) w4 mo DN10 ad f) (hf : f = FI0) (hou : kd w4 ou = 0) : IV (nw w4 ou 2994 1) de x mo ou ad 0 0 := by
  obtain ⟨r1, r2, r3, r4⟩ := hr
  have hno : mo ≠ ou := nw_ne r1 (by decide) hou
  have old : Old w2 (nw w4 ou 2994 1) := Old.mk2 (q := mo) (K := 12) (n := 0) hmo (fun b hb hbm => by
    have s := r4 b hb hbm
    exact s.tr (SmA.nw (nw_ne (K := kd (nw w2 mo 12 0) b) s.1 hb hou)))
  have ks : ∀ q ∈ rmF, ad q.1 ≠ ou := fun q hq => nw_ne (r2 q (rm_dn q hq)).2.2.1 (r2 q (rm_dn q hq)).1 hou
  have hm : RM (nw w4 ou 2994 1) mo ad := by
    refine ⟨(nw_kd hno).trans r1, fun q hq => ?_⟩
    obtain ⟨g0, g1, g2, g3, g4⟩ := r2 q (rm_dn q hq)
    exact ⟨(fR_nw hno).trans g1, (nw_kd (ks q hq)).trans g2, (aL_nw (ks q hq)).trans g3⟩
  refine ⟨hm, nw_kd0, nw_aL0, fun _ _ => 0, FI0, fun _ => 0, 0, 0, 0, 0, 0, fun _ => 0, fun _ => 0, fun _ => 0, fun _ => 0, fun _ => 0, fun _ => 0, fun _ _ => 0, fun _ _ => [], ca, 0, 5000, 5000, fun _ => 0, M_zero (fun q hq j => ?_) (fun k => (fI_nw hno).trans ((r3 k).trans (by rw [hf]))) (by decide), h.kp (old.kp (by decide)), hB.mv (old.kp (by decide)) rfl rfl, PV_first, Nat.le_refl 0⟩
  rw [aI_nw (ks q hq)]
  exact (r2 q (rm_dn q hq)).2.2.2.2 j
end FIRST59
