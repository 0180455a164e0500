section MOVE51
section
variable {w w1 : Wd} {mo ou : Nat} {ad : Nat → Nat} {A A1 : Nat → Nat → Int32} {F F1 : Nat → Int32} {L L1 : Int32} {g g1 : Nat → Int32}
theorem isA_in {k : Nat} (h : isA k = true) : ∃ l, (k, kq k, l) ∈ rmF := by
  unfold isA at h
  simp only [List.contains_iff_mem, List.mem_cons, List.not_mem_nil, or_false] at h
  rcases h with rfl | rfl | rfl | rfl | rfl | rfl | rfl | rfl | rfl | rfl | rfl | rfl | rfl | rfl | rfl | rfl | rfl | rfl
  · exact ⟨5, by decide⟩
  · exact ⟨5, by decide⟩
  · exact ⟨6000, by decide⟩
  · exact ⟨6000, by decide⟩
  · exact ⟨105, by decide⟩
  · exact ⟨7, by decide⟩
  · exact ⟨7, by decide⟩
  · exact ⟨16, by decide⟩
  · exact ⟨16, by decide⟩
  · exact ⟨16, by decide⟩
  · exact ⟨16, by decide⟩
  · exact ⟨16, by decide⟩
  · exact ⟨320, by decide⟩
  · exact ⟨320, by decide⟩
  · exact ⟨600, by decide⟩
  · exact ⟨20, by decide⟩
  · exact ⟨100, by decide⟩
  · exact ⟨60, by decide⟩
theorem RM.adr (h : RM w mo ad) {k : Nat} (hk : isA k = true) : kd w (ad k) = kq k := by
  obtain ⟨l, hl⟩ := isA_in hk
  exact (h.2 _ hl).2.1
theorem isA_le {k : Nat} (h : isA k = true) : k ≤ 28 := by
  unfold isA at h
  simp only [List.contains_iff_mem, List.mem_cons, List.not_mem_nil, or_false] at h
  omega
theorem kq_b {k : Nat} (h : isA k = true) : 2000 ≤ kq k ∧ kq k < 2300 := by
  have := isA_le h
  unfold kq
  split <;> omega
theorem rm_ge {q : Nat × Nat × Nat} (h : q ∈ rmF) : 2000 ≤ q.2.1 := by
  unfold rmF at h
  simp only [List.mem_cons, List.not_mem_nil, or_false] at h
  rcases h with rfl | rfl | rfl | rfl | rfl | rfl | rfl | rfl | rfl | rfl | rfl | rfl | rfl | rfl | rfl | rfl | rfl | rfl <;> decide
theorem s_lt {n : Nat} (h : n ∈ [11, 1020, 10, 81, 1013, 8, 1002, 9, 1041, 7, 1010, 21, 1023, 6, 101, 1053, 5, 41, 1033, 4, 1030, 61, 1043, 3]) : n < 2000 := by
  simp only [List.mem_cons, List.not_mem_nil, or_false] at h
  omega
theorem RM.fr (h : RM w mo ad) (k : FrR w w1) : RM w1 mo ad := by
  have s := k mo (Or.inl h.1)
  refine ⟨s.1.trans h.1, fun q hq => ?_⟩
  obtain ⟨a, b, d⟩ := h.2 q hq
  have t := k (ad q.1) (Or.inr (by rw [b]; exact rm_ge hq))
  exact ⟨(s.2.2.2.1 _ _).trans a, t.1.trans b, t.2.1.trans d⟩
theorem M_M : M (M w mo ad A F L g) mo ad A1 F1 L1 g1 = M w mo ad A1 F1 L1 g1 := by
  have e1 : (M (M w mo ad A F L g) mo ad A1 F1 L1 g1).2.1 = (M w mo ad A1 F1 L1 g1).2.1 := by
    funext K k a
    show (if K = 12 ∧ a = mo then (if k = 29 then L1 else F1 k) else (if K = 12 ∧ a = mo then (if k = 29 then L else F k) else w.2.1 K k a)) = if K = 12 ∧ a = mo then (if k = 29 then L1 else F1 k) else w.2.1 K k a
    by_cases h : K = 12 ∧ a = mo
    · rw [if_pos h, if_pos h]
    · rw [if_neg h, if_neg h, if_neg h]
  have e2 : (M (M w mo ad A F L g) mo ad A1 F1 L1 g1).2.2.2.2.1 = (M w mo ad A1 F1 L1 g1).2.2.2.2.1 := by
    funext K a j
    show (if isA ((K - 2000) / 10) = true ∧ K = kq ((K - 2000) / 10) ∧ a = ad ((K - 2000) / 10) then (if K = 2280 then g1 j else A1 ((K - 2000) / 10) j) else (if isA ((K - 2000) / 10) = true ∧ K = kq ((K - 2000) / 10) ∧ a = ad ((K - 2000) / 10) then (if K = 2280 then g j else A ((K - 2000) / 10) j) else w.2.2.2.2.1 K a j)) = if isA ((K - 2000) / 10) = true ∧ K = kq ((K - 2000) / 10) ∧ a = ad ((K - 2000) / 10) then (if K = 2280 then g1 j else A1 ((K - 2000) / 10) j) else w.2.2.2.2.1 K a j
    by_cases h : isA ((K - 2000) / 10) = true ∧ K = kq ((K - 2000) / 10) ∧ a = ad ((K - 2000) / 10)
    · rw [if_pos h, if_pos h]
    · rw [if_neg h, if_neg h, if_neg h]
  show (w.1, (M (M w mo ad A F L g) mo ad A1 F1 L1 g1).2.1, w.2.2.1, w.2.2.2.1, (M (M w mo ad A F L g) mo ad A1 F1 L1 g1).2.2.2.2.1, w.2.2.2.2.2) = (w.1, (M w mo ad A1 F1 L1 g1).2.1, w.2.2.1, w.2.2.2.1, (M w mo ad A1 F1 L1 g1).2.2.2.2.1, w.2.2.2.2.2)
  rw [e1, e2]
/-- a world that has the reference as it was -/
theorem M_self (hm : RM w mo ad) (hM : M w mo ad A F L g = w) (k : FrR w w1) : M w1 mo ad A F L g = w1 := by
  have s := k mo (Or.inl hm.1)
  have e1 : (M w1 mo ad A F L g).2.1 = w1.2.1 := by
    funext K i a
    show (if K = 12 ∧ a = mo then (if i = 29 then L else F i) else w1.2.1 K i a) = w1.2.1 K i a
    by_cases h : K = 12 ∧ a = mo
    · rw [if_pos h, h.1, h.2]
      have e : fI w 12 i mo = if i = 29 then L else F i := by
        rw [← hM]
        exact if_pos ⟨rfl, rfl⟩
      exact (e.symm.trans (s.2.2.1 12 i).symm)
    · rw [if_neg h]
  have e2 : (M w1 mo ad A F L g).2.2.2.2.1 = w1.2.2.2.2.1 := by
    funext K a j
    show (if isA ((K - 2000) / 10) = true ∧ K = kq ((K - 2000) / 10) ∧ a = ad ((K - 2000) / 10) then (if K = 2280 then g j else A ((K - 2000) / 10) j) else w1.2.2.2.2.1 K a j) = w1.2.2.2.2.1 K a j
    by_cases h : isA ((K - 2000) / 10) = true ∧ K = kq ((K - 2000) / 10) ∧ a = ad ((K - 2000) / 10)
    · rw [if_pos h]
      have t := k a (Or.inr (by rw [h.2.2, hm.adr h.1]; exact (kq_b h.1).1))
      have e : aI w K a j = if K = 2280 then g j else A ((K - 2000) / 10) j := by
        rw [← hM]
        exact if_pos h
      exact (e.symm.trans (congrFun (t.2.2.2.2.1 K) j).symm)
    · rw [if_neg h]
  show (w1.1, (M w1 mo ad A F L g).2.1, w1.2.2.1, w1.2.2.2.1, (M w1 mo ad A F L g).2.2.2.2.1, w1.2.2.2.2.2) = w1
  rw [e1, e2]
theorem M_J {v : Int64} {j : Nat} (h : M w mo ad A F L g = w) : M (pAJ w 2994 ou j v) mo ad A F L g = pAJ w 2994 ou j v :=
  (show M (pAJ w 2994 ou j v) mo ad A F L g = pAJ (M w mo ad A F L g) 2994 ou j v from rfl).trans (by rw [h])
/-- cells that are not the reference's -/
theorem M_sm (hm : RM w mo ad) {b : Nat} (h1 : kd w b ≠ 12) (h2 : kd w b < 2000 ∨ 2300 ≤ kd w b) : SmA w (M w mo ad A F L g) b := by
  refine ⟨rfl, rfl, fun K k => if_neg (fun z => h1 (by rw [z.2]; exact hm.1)), fun _ _ => rfl, fun K => funext fun j => if_neg (fun z => ?_), fun _ => rfl, fun _ => rfl⟩
  have := kq_b z.1
  have e := hm.adr z.1
  rw [← z.2.2] at e
  omega
theorem M_kp (hm : RM w mo ad) : Kp [11, 1020, 10, 81, 1013, 8, 1002, 9, 1041, 7, 1010, 21, 1023, 6, 101, 1053, 5, 41, 1033, 4, 1030, 61, 1043, 3] w (M w mo ad A F L g) := fun b hb => M_sm hm (fun z => by rw [z] at hb; exact absurd hb (by decide)) (Or.inl (s_lt hb))
theorem Kp.pAJ {S : List Nat} {K K0 a j : Nat} {v : Int64} (hk : kd w a = K0) (h : K0 ∉ S) : Kp S w (pAJ w K a j v) := fun _ hb => SmA.pAJ (Kp.ne hk h hb)
end
section
variable {w : Wd} {de x nS nP nF nC tl : Nat} {A A1 : Nat → Nat → Int32} {F F1 : Nat → Int32} {ho cf cp cs sb pn : Nat → Nat} {dn : Nat → Nat → Nat} {ch : Nat → Nat → List (Nat × Int32)} {ca : Nat → Nat → Nat} {ca1 : Nat → Nat → Nat} {w1 w2 : Wd}
theorem CVA.cg (h : CVA A nC nF nS cf cs ho) (e23 : A1 23 = A 23) (e12 : A1 12 = A 12) : CVA A1 nC nF nS cf cs ho := by unfold CVA at h ⊢; rw [e23, e12]; exact h
theorem LSB.cg (h : LSB A nF) (e : A1 18 = A 18) : LSB A1 nF := by unfold LSB at h ⊢; rw [e]; exact h
theorem TRB.cg (h : TRB A nF) (e : A1 13 = A 13) : TRB A1 nF := by unfold TRB at h ⊢; rw [e]; exact h
theorem XYG.cg (h : XYG A nS) (e1 : A1 1 = A 1) (e2 : A1 2 = A 2) : XYG A1 nS := by unfold XYG at h ⊢; rw [e1, e2]; exact h
theorem ChA.cg (h : ChA A nS tl ch) (e4 : A1 4 = A 4) (e5 : A1 5 = A 5) : ChA A1 nS tl ch := by unfold ChA at h ⊢; rw [e4, e5]; exact h
theorem PHB.cg {pr n : Nat} {dN : Nat → Nat} (h : PHB A pr n dN) (e7 : A1 7 = A 7) : PHB A1 pr n dN := by unfold PHB phA at h ⊢; rw [e7]; exact h
theorem ratC_cg {pr n t s0 se : Nat} {dN : Nat → Nat} (e1 : A1 1 = A 1) (e2 : A1 2 = A 2) (e7 : A1 7 = A 7) (e9 : A1 9 = A 9) : ratC A1 nS ch pr n dN t s0 se = ratC A nS ch pr n dN t s0 se := by unfold ratC phA; rw [e1, e2, e7, e9]
theorem dSum_cg {dN dN' : Nat → Nat} : ∀ n, (∀ i, i < n → dN' i = dN i) → dSum dN' n = dSum dN n
  | 0, _ => rfl
  | n + 1, h => by rw [dSum, dSum, dSum_cg n (fun i hi => h i (by omega)), h n (by omega)]
theorem ratV_cg {f : Nat → Int32} {dN dN' : Nat → Nat} {dr tr ex wt dr' tr' ex' wt' : Nat → Int32} : ∀ n, (∀ i, i < n → dN' i = dN i ∧ dr' i = dr i ∧ tr' i = tr i ∧ ex' i = ex i ∧ wt' i = wt i) → ratV f dN' dr' tr' ex' wt' n = ratV f dN dr tr ex wt n
  | 0, _ => rfl
  | n + 1, h => by
    obtain ⟨e1, e2, e3, e4, e5⟩ := h n (by omega)
    rw [ratV, ratV, ratV_cg n (fun i hi => h i (by omega)), e1, e2, e3, e4, e5, dSum_cg n (fun i hi => (h i (by omega)).1)]
theorem rateV_cg {f : Nat → Int32} {n : Nat} {dN dN' : Nat → Nat} {dr tr ex wt dr' tr' ex' wt' : Nat → Int32} (h : ∀ i, i < n → dN' i = dN i ∧ dr' i = dr i ∧ tr' i = tr i ∧ ex' i = ex i ∧ wt' i = wt i) : rateV f n dN' dr' tr' ex' wt' = rateV f n dN dr tr ex wt := by unfold rateV; rw [ratV_cg n h]
theorem PHB.cg2 {pr n : Nat} {dN dN' : Nat → Nat} {pr' : Nat} (h : PHB A pr n dN) (e : ∀ i, i < n → dN' i = dN i ∧ ∀ k, k < 5 → phA A1 pr' k i = phA A pr k i) : PHB A1 pr' n dN' := by
  refine ⟨h.1, fun i hi => ?_⟩
  obtain ⟨e1, e2⟩ := e i hi
  rw [e1, e2 0 (by decide), e2 1 (by decide), e2 2 (by decide), e2 3 (by decide), e2 4 (by decide)]
  exact h.2 i hi
end
end MOVE51
