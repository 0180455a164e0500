section REFM18
/-- the reference's arrays, by their fields -/
def isA (k : Nat) : Bool := [1, 2, 4, 5, 7, 8, 9, 12, 13, 14, 15, 16, 18, 19, 23, 25, 26, 28].contains k
def kq (k : Nat) : Nat := if k = 19 ∨ k = 26 then 2001 + 10 * k else 2000 + 10 * k
/-- the world w, but the reference at mo holds A, F, last L, rains g -/
def M (w : Wd) (mo : Nat) (ad : Nat → Nat) (A : Nat → Nat → Int32) (F : Nat → Int32) (L : Int32) (g : Nat → Int32) : Wd :=
  (w.1, (fun K k a => if K = 12 ∧ a = mo then (if k = 29 then L else F k) else w.2.1 K k a), w.2.2.1, w.2.2.2.1,
    (fun K a j => if isA ((K - 2000) / 10) = true ∧ K = kq ((K - 2000) / 10) ∧ a = ad ((K - 2000) / 10) then (if K = 2280 then g j else A ((K - 2000) / 10) j) else w.2.2.2.2.1 K a j), w.2.2.2.2.2)
def updF (F : Nat → Int32) (k : Nat) (v : Int32) : Nat → Int32 := fun i => if i = k then v else F i
def updA (A : Nat → Nat → Int32) (k j : Nat) (v : Int32) : Nat → Nat → Int32 := fun i q => if i = k ∧ q = j then v else A i q
section
variable {w : Wd} {mo : Nat} {ad : Nat → Nat} {A : Nat → Nat → Int32} {F : Nat → Int32} {L v : Int32} {g g1 : Nat → Int32} {j : Nat}
theorem M_RM (h : RM w mo ad) : RM (M w mo ad A F L g) mo ad := h
theorem M_L : fI (M w mo ad A F L g) 12 29 mo = L := (if_pos ⟨rfl, rfl⟩).trans (if_pos rfl)
theorem M_g : aI (M w mo ad A F L g) 2280 (ad 28) = g := funext fun _ => (if_pos ⟨by decide, by decide, rfl⟩).trans (if_pos rfl)
theorem M_fe {F' : Nat → Int32} (h : ∀ k, k ≠ 29 → F k = F' k) : M w mo ad A F L g = M w mo ad A F' L g := by
  have e : (M w mo ad A F L g).2.1 = (M w mo ad A F' L g).2.1 := by
    funext K k a
    show (if K = 12 ∧ a = mo then (if k = 29 then L else F k) else w.2.1 K k a) = if K = 12 ∧ a = mo then (if k = 29 then L else F' k) else w.2.1 K k a
    by_cases h1 : k = 29
    · rw [if_pos h1, if_pos h1]
    · rw [if_neg h1, if_neg h1, h k h1]
  show (w.1, (M w mo ad A F L g).2.1, _, _, _, _) = _
  rw [e]
  rfl
theorem M_pI {k : Nat} (hk : k ≠ 29) : pI (M w mo ad A F L g) 12 k mo v = M w mo ad A (updF F k v) L g := by
  have e : up3 (M w mo ad A F L g).2.1 12 k mo v = (M w mo ad A (updF F k v) L g).2.1 := by
    funext K i a
    show (if K = 12 ∧ i = k ∧ a = mo then v else if K = 12 ∧ a = mo then (if i = 29 then L else F i) else w.2.1 K i a) = if K = 12 ∧ a = mo then (if i = 29 then L else updF F k v i) else w.2.1 K i a
    by_cases h : K = 12 ∧ a = mo
    · rw [if_pos h, if_pos h]
      by_cases hi : i = k
      · rw [if_pos ⟨h.1, hi, h.2⟩, if_neg (by omega)]
        exact (if_pos hi).symm
      · rw [if_neg (fun z => hi z.2.1)]
        by_cases h2 : i = 29
        · rw [if_pos h2, if_pos h2]
        · rw [if_neg h2, if_neg h2]
          exact (if_neg hi).symm
    · rw [if_neg h, if_neg h, if_neg (fun z => h ⟨z.1, z.2.2⟩)]
  show (w.1, up3 (M w mo ad A F L g).2.1 12 k mo v, _, _, _, _) = _
  rw [e]
  rfl
theorem M_pL : pI (M w mo ad A F L g) 12 29 mo v = M w mo ad A F v g := by
  have e : up3 (M w mo ad A F L g).2.1 12 29 mo v = (M w mo ad A F v g).2.1 := by
    funext K i a
    show (if K = 12 ∧ i = 29 ∧ a = mo then v else if K = 12 ∧ a = mo then (if i = 29 then L else F i) else w.2.1 K i a) = if K = 12 ∧ a = mo then (if i = 29 then v else F i) else w.2.1 K i a
    by_cases h : K = 12 ∧ a = mo
    · rw [if_pos h, if_pos h]
      by_cases hi : i = 29
      · rw [if_pos ⟨h.1, hi, h.2⟩, if_pos hi]
      · rw [if_neg (fun z => hi z.2.1), if_neg hi, if_neg hi]
    · rw [if_neg h, if_neg h, if_neg (fun z => h ⟨z.1, z.2.2⟩)]
  show (w.1, up3 (M w mo ad A F L g).2.1 12 29 mo v, _, _, _, _) = _
  rw [e]
  rfl
theorem M_pA (k K : Nat) (h1 : (K - 2000) / 10 = k) (h2 : isA k = true) (h3 : K = kq k) (h4 : K ≠ 2280) : pAI (M w mo ad A F L g) K (ad k) j v = M w mo ad (updA A k j v) F L g := by
  have e : up3 (M w mo ad A F L g).2.2.2.2.1 K (ad k) j v = (M w mo ad (updA A k j v) F L g).2.2.2.2.1 := by
    funext K' a q
    show (if K' = K ∧ a = ad k ∧ q = j then v else if isA ((K' - 2000) / 10) = true ∧ K' = kq ((K' - 2000) / 10) ∧ a = ad ((K' - 2000) / 10) then (if K' = 2280 then g q else A ((K' - 2000) / 10) q) else w.2.2.2.2.1 K' a q)
      = if isA ((K' - 2000) / 10) = true ∧ K' = kq ((K' - 2000) / 10) ∧ a = ad ((K' - 2000) / 10) then (if K' = 2280 then g q else updA A k j v ((K' - 2000) / 10) q) else w.2.2.2.2.1 K' a q
    by_cases h : K' = K
    · subst h
      rw [h1]
      by_cases ha : a = ad k
      · rw [if_pos (c := isA k = true ∧ K' = kq k ∧ a = ad k) ⟨h2, h3, ha⟩, if_pos (c := isA k = true ∧ K' = kq k ∧ a = ad k) ⟨h2, h3, ha⟩, if_neg h4, if_neg h4]
        unfold updA
        by_cases hq : q = j
        · rw [if_pos ⟨rfl, ha, hq⟩, if_pos ⟨rfl, hq⟩]
        · rw [if_neg (fun z => hq z.2.2), if_neg (fun z => hq z.2)]
      · rw [if_neg (fun z => ha z.2.1), if_neg (fun z => ha z.2.2), if_neg (fun z => ha z.2.2)]
    · rw [if_neg (fun z => h z.1)]
      by_cases h5 : isA ((K' - 2000) / 10) = true ∧ K' = kq ((K' - 2000) / 10) ∧ a = ad ((K' - 2000) / 10)
      · rw [if_pos h5, if_pos h5]
        unfold updA
        rw [if_neg (c := (K' - 2000) / 10 = k ∧ q = j) (fun z => h (by rw [h5.2.1, z.1, ← h3]))]
      · rw [if_neg h5, if_neg h5]
  show (w.1, _, _, _, up3 (M w mo ad A F L g).2.2.2.2.1 K (ad k) j v, _) = _
  rw [e]
  rfl
theorem M_stR : stR (M w mo ad A F L g) 2280 (ad 28) g1 = M w mo ad A F L g1 := by
  have e : (stR (M w mo ad A F L g) 2280 (ad 28) g1).2.2.2.2.1 = (M w mo ad A F L g1).2.2.2.2.1 := by
    funext K' a q
    show (if K' = 2280 ∧ a = ad 28 then g1 q else if isA ((K' - 2000) / 10) = true ∧ K' = kq ((K' - 2000) / 10) ∧ a = ad ((K' - 2000) / 10) then (if K' = 2280 then g q else A ((K' - 2000) / 10) q) else w.2.2.2.2.1 K' a q)
      = if isA ((K' - 2000) / 10) = true ∧ K' = kq ((K' - 2000) / 10) ∧ a = ad ((K' - 2000) / 10) then (if K' = 2280 then g1 q else A ((K' - 2000) / 10) q) else w.2.2.2.2.1 K' a q
    by_cases h : K' = 2280
    · subst h
      by_cases ha : a = ad 28
      · rw [if_pos ⟨rfl, ha⟩, if_pos ⟨by decide, by decide, ha⟩, if_pos rfl]
      · rw [if_neg (fun z => ha z.2), if_neg (fun z => ha z.2.2), if_neg (fun z => ha z.2.2)]
    · rw [if_neg (fun z => h z.1), if_neg h, if_neg h]
  show (w.1, _, _, _, (stR (M w mo ad A F L g) 2280 (ad 28) g1).2.2.2.2.1, _) = _
  rw [e]
  rfl
theorem M_a1 : aI (M w mo ad A F L g) 2010 (ad 1) = A 1 := funext fun _ => (if_pos ⟨by decide, by decide, rfl⟩).trans (if_neg (by decide))
theorem M_p1 : pAI (M w mo ad A F L g) 2010 (ad 1) j v = M w mo ad (updA A 1 j v) F L g := M_pA 1 2010 (by decide) (by decide) (by decide) (by decide)
theorem M_a2 : aI (M w mo ad A F L g) 2020 (ad 2) = A 2 := funext fun _ => (if_pos ⟨by decide, by decide, rfl⟩).trans (if_neg (by decide))
theorem M_p2 : pAI (M w mo ad A F L g) 2020 (ad 2) j v = M w mo ad (updA A 2 j v) F L g := M_pA 2 2020 (by decide) (by decide) (by decide) (by decide)
theorem M_a4 : aI (M w mo ad A F L g) 2040 (ad 4) = A 4 := funext fun _ => (if_pos ⟨by decide, by decide, rfl⟩).trans (if_neg (by decide))
theorem M_p4 : pAI (M w mo ad A F L g) 2040 (ad 4) j v = M w mo ad (updA A 4 j v) F L g := M_pA 4 2040 (by decide) (by decide) (by decide) (by decide)
theorem M_a5 : aI (M w mo ad A F L g) 2050 (ad 5) = A 5 := funext fun _ => (if_pos ⟨by decide, by decide, rfl⟩).trans (if_neg (by decide))
theorem M_p5 : pAI (M w mo ad A F L g) 2050 (ad 5) j v = M w mo ad (updA A 5 j v) F L g := M_pA 5 2050 (by decide) (by decide) (by decide) (by decide)
theorem M_a7 : aI (M w mo ad A F L g) 2070 (ad 7) = A 7 := funext fun _ => (if_pos ⟨by decide, by decide, rfl⟩).trans (if_neg (by decide))
theorem M_p7 : pAI (M w mo ad A F L g) 2070 (ad 7) j v = M w mo ad (updA A 7 j v) F L g := M_pA 7 2070 (by decide) (by decide) (by decide) (by decide)
theorem M_a8 : aI (M w mo ad A F L g) 2080 (ad 8) = A 8 := funext fun _ => (if_pos ⟨by decide, by decide, rfl⟩).trans (if_neg (by decide))
theorem M_p8 : pAI (M w mo ad A F L g) 2080 (ad 8) j v = M w mo ad (updA A 8 j v) F L g := M_pA 8 2080 (by decide) (by decide) (by decide) (by decide)
theorem M_a9 : aI (M w mo ad A F L g) 2090 (ad 9) = A 9 := funext fun _ => (if_pos ⟨by decide, by decide, rfl⟩).trans (if_neg (by decide))
theorem M_p9 : pAI (M w mo ad A F L g) 2090 (ad 9) j v = M w mo ad (updA A 9 j v) F L g := M_pA 9 2090 (by decide) (by decide) (by decide) (by decide)
theorem M_a12 : aI (M w mo ad A F L g) 2120 (ad 12) = A 12 := funext fun _ => (if_pos ⟨by decide, by decide, rfl⟩).trans (if_neg (by decide))
theorem M_p12 : pAI (M w mo ad A F L g) 2120 (ad 12) j v = M w mo ad (updA A 12 j v) F L g := M_pA 12 2120 (by decide) (by decide) (by decide) (by decide)
theorem M_a13 : aI (M w mo ad A F L g) 2130 (ad 13) = A 13 := funext fun _ => (if_pos ⟨by decide, by decide, rfl⟩).trans (if_neg (by decide))
theorem M_p13 : pAI (M w mo ad A F L g) 2130 (ad 13) j v = M w mo ad (updA A 13 j v) F L g := M_pA 13 2130 (by decide) (by decide) (by decide) (by decide)
theorem M_a14 : aI (M w mo ad A F L g) 2140 (ad 14) = A 14 := funext fun _ => (if_pos ⟨by decide, by decide, rfl⟩).trans (if_neg (by decide))
theorem M_p14 : pAI (M w mo ad A F L g) 2140 (ad 14) j v = M w mo ad (updA A 14 j v) F L g := M_pA 14 2140 (by decide) (by decide) (by decide) (by decide)
theorem M_a15 : aI (M w mo ad A F L g) 2150 (ad 15) = A 15 := funext fun _ => (if_pos ⟨by decide, by decide, rfl⟩).trans (if_neg (by decide))
theorem M_p15 : pAI (M w mo ad A F L g) 2150 (ad 15) j v = M w mo ad (updA A 15 j v) F L g := M_pA 15 2150 (by decide) (by decide) (by decide) (by decide)
theorem M_a16 : aI (M w mo ad A F L g) 2160 (ad 16) = A 16 := funext fun _ => (if_pos ⟨by decide, by decide, rfl⟩).trans (if_neg (by decide))
theorem M_p16 : pAI (M w mo ad A F L g) 2160 (ad 16) j v = M w mo ad (updA A 16 j v) F L g := M_pA 16 2160 (by decide) (by decide) (by decide) (by decide)
theorem M_a18 : aI (M w mo ad A F L g) 2180 (ad 18) = A 18 := funext fun _ => (if_pos ⟨by decide, by decide, rfl⟩).trans (if_neg (by decide))
theorem M_p18 : pAI (M w mo ad A F L g) 2180 (ad 18) j v = M w mo ad (updA A 18 j v) F L g := M_pA 18 2180 (by decide) (by decide) (by decide) (by decide)
theorem M_a19 : aI (M w mo ad A F L g) 2191 (ad 19) = A 19 := funext fun _ => (if_pos ⟨by decide, by decide, rfl⟩).trans (if_neg (by decide))
theorem M_p19 : pAI (M w mo ad A F L g) 2191 (ad 19) j v = M w mo ad (updA A 19 j v) F L g := M_pA 19 2191 (by decide) (by decide) (by decide) (by decide)
theorem M_a23 : aI (M w mo ad A F L g) 2230 (ad 23) = A 23 := funext fun _ => (if_pos ⟨by decide, by decide, rfl⟩).trans (if_neg (by decide))
theorem M_p23 : pAI (M w mo ad A F L g) 2230 (ad 23) j v = M w mo ad (updA A 23 j v) F L g := M_pA 23 2230 (by decide) (by decide) (by decide) (by decide)
theorem M_a25 : aI (M w mo ad A F L g) 2250 (ad 25) = A 25 := funext fun _ => (if_pos ⟨by decide, by decide, rfl⟩).trans (if_neg (by decide))
theorem M_p25 : pAI (M w mo ad A F L g) 2250 (ad 25) j v = M w mo ad (updA A 25 j v) F L g := M_pA 25 2250 (by decide) (by decide) (by decide) (by decide)
theorem M_a26 : aI (M w mo ad A F L g) 2261 (ad 26) = A 26 := funext fun _ => (if_pos ⟨by decide, by decide, rfl⟩).trans (if_neg (by decide))
theorem M_p26 : pAI (M w mo ad A F L g) 2261 (ad 26) j v = M w mo ad (updA A 26 j v) F L g := M_pA 26 2261 (by decide) (by decide) (by decide) (by decide)
theorem M_f0 : fI (M w mo ad A F L g) 12 0 mo = F 0 := (if_pos ⟨rfl, rfl⟩).trans (if_neg (by decide))
theorem M_q0 : pI (M w mo ad A F L g) 12 0 mo v = M w mo ad A (updF F 0 v) L g := M_pI (by decide)
theorem M_f3 : fI (M w mo ad A F L g) 12 3 mo = F 3 := (if_pos ⟨rfl, rfl⟩).trans (if_neg (by decide))
theorem M_q3 : pI (M w mo ad A F L g) 12 3 mo v = M w mo ad A (updF F 3 v) L g := M_pI (by decide)
theorem M_f6 : fI (M w mo ad A F L g) 12 6 mo = F 6 := (if_pos ⟨rfl, rfl⟩).trans (if_neg (by decide))
theorem M_q6 : pI (M w mo ad A F L g) 12 6 mo v = M w mo ad A (updF F 6 v) L g := M_pI (by decide)
theorem M_f10 : fI (M w mo ad A F L g) 12 10 mo = F 10 := (if_pos ⟨rfl, rfl⟩).trans (if_neg (by decide))
theorem M_q10 : pI (M w mo ad A F L g) 12 10 mo v = M w mo ad A (updF F 10 v) L g := M_pI (by decide)
theorem M_f11 : fI (M w mo ad A F L g) 12 11 mo = F 11 := (if_pos ⟨rfl, rfl⟩).trans (if_neg (by decide))
theorem M_q11 : pI (M w mo ad A F L g) 12 11 mo v = M w mo ad A (updF F 11 v) L g := M_pI (by decide)
theorem M_f17 : fI (M w mo ad A F L g) 12 17 mo = F 17 := (if_pos ⟨rfl, rfl⟩).trans (if_neg (by decide))
theorem M_q17 : pI (M w mo ad A F L g) 12 17 mo v = M w mo ad A (updF F 17 v) L g := M_pI (by decide)
theorem M_f20 : fI (M w mo ad A F L g) 12 20 mo = F 20 := (if_pos ⟨rfl, rfl⟩).trans (if_neg (by decide))
theorem M_q20 : pI (M w mo ad A F L g) 12 20 mo v = M w mo ad A (updF F 20 v) L g := M_pI (by decide)
theorem M_f21 : fI (M w mo ad A F L g) 12 21 mo = F 21 := (if_pos ⟨rfl, rfl⟩).trans (if_neg (by decide))
theorem M_q21 : pI (M w mo ad A F L g) 12 21 mo v = M w mo ad A (updF F 21 v) L g := M_pI (by decide)
theorem M_f22 : fI (M w mo ad A F L g) 12 22 mo = F 22 := (if_pos ⟨rfl, rfl⟩).trans (if_neg (by decide))
theorem M_q22 : pI (M w mo ad A F L g) 12 22 mo v = M w mo ad A (updF F 22 v) L g := M_pI (by decide)
theorem M_f24 : fI (M w mo ad A F L g) 12 24 mo = F 24 := (if_pos ⟨rfl, rfl⟩).trans (if_neg (by decide))
theorem M_q24 : pI (M w mo ad A F L g) 12 24 mo v = M w mo ad A (updF F 24 v) L g := M_pI (by decide)
theorem M_f27 : fI (M w mo ad A F L g) 12 27 mo = F 27 := (if_pos ⟨rfl, rfl⟩).trans (if_neg (by decide))
theorem M_q27 : pI (M w mo ad A F L g) 12 27 mo v = M w mo ad A (updF F 27 v) L g := M_pI (by decide)
def phA (A : Nat → Nat → Int32) (pr k : Nat) : Nat → Int32 := fun i => A 7 (5 * (3 * pr + i) + k)
theorem M_phV {pr k : Nat} : phV (M w mo ad A F L g) ad pr k = phA A pr k := by
  funext i
  unfold phV phA
  rw [M_a7]
/-- the reference's row and rate -/
def rowA (A : Nat → Nat → Int32) (nS : Nat) (kn : Int32) (se s0 : Nat) : Nat → Int32 := fun j => rrV nS (A 1) (A 2) (A 4) (A 5) kn (60 * se + j) s0
def ratA (A : Nat → Nat → Int32) (nS pr n : Nat) (dN : Nat → Nat) (s0 se : Nat) : Int32 := rateV (rowA A nS (A 9 pr) se s0) n dN (phA A pr 1) (phA A pr 2) (phA A pr 3) (phA A pr 4)
theorem M_rrat {nS pr n s0 se : Nat} {dN : Nat → Nat} : rrat (M w mo ad A F L g) ad nS pr n dN s0 se = ratA A nS pr n dN s0 se := by
  unfold rrat ratA rrow rowA
  rw [M_a1, M_a2, M_a4, M_a5, M_a9, M_phV, M_phV, M_phV, M_phV]
def PHA (A : Nat → Nat → Int32) (pr n : Nat) (dN : Nat → Nat) : Prop := n ≤ 3 ∧ ∀ i, i < n → phA A pr 0 i = nI (dN i) ∧ dN i ≤ 30 ∧ (phA A pr 1 i = 0 ∨ phA A pr 1 i = 1)
theorem M_RPH {pr n : Nat} {dN : Nat → Nat} (h : PHA A pr n dN) : RPH (M w mo ad A F L g) ad pr n dN := by
  unfold RPH
  rw [M_phV, M_phV]
  exact h
end
theorem m_goes (de : Nat) (w : Wd) (mo : Nat) (ad : Nat → Nat) (A : Nat → Nat → Int32) (F : Nat → Int32) (L : Int32) (g : Nat → Int32) (hm : RM w mo ad) (a b cq : Int32) : Ct yX10_goes cX10_goes 4 (some .boolean) 0 0 0 0 de [.ref mo, .int a, .int b, .int cq] (M w mo ad A F L g) (fun r w' => r = some (.int (bI (decide (goV a b cq = 0)))) ∧ w' = M w mo ad A F (goV a b cq) g) := by
  have h := c_X10_goes de (M w mo ad A F L g) mo ad hm a b cq
  rw [M_pL] at h
  exact h
theorem m_isStation (de : Nat) (w : Wd) (mo : Nat) (ad : Nat → Nat) (A : Nat → Nat → Int32) (F : Nat → Int32) (L : Int32) (g : Nat → Int32) (hm : RM w mo ad) (a : Int32) : Ct yX10_isStation cX10_isStation 2 (some .boolean) 1 22 0 0 de [.ref mo, .int a] (M w mo ad A F L g) (fun r w' => r = some (.int (bI (inR a 0 (F 3 - 1)))) ∧ (M w mo ad A F L g) = w') := by
  have h := c_X10_isStation de (M w mo ad A F L g) mo ad hm a
  rw [M_f3] at h
  exact h
theorem m_isProduct (de : Nat) (w : Wd) (mo : Nat) (ad : Nat → Nat) (A : Nat → Nat → Int32) (F : Nat → Int32) (L : Int32) (g : Nat → Int32) (hm : RM w mo ad) (a : Int32) : Ct yX10_isProduct cX10_isProduct 2 (some .boolean) 1 22 0 0 de [.ref mo, .int a] (M w mo ad A F L g) (fun r w' => r = some (.int (bI (inR a 0 (F 10 - 1)))) ∧ (M w mo ad A F L g) = w') := by
  have h := c_X10_isProduct de (M w mo ad A F L g) mo ad hm a
  rw [M_f10] at h
  exact h
theorem m_isFarm (de : Nat) (w : Wd) (mo : Nat) (ad : Nat → Nat) (A : Nat → Nat → Int32) (F : Nat → Int32) (L : Int32) (g : Nat → Int32) (hm : RM w mo ad) (a : Int32) : Ct yX10_isFarm cX10_isFarm 2 (some .boolean) 1 22 0 0 de [.ref mo, .int a] (M w mo ad A F L g) (fun r w' => r = some (.int (bI (inR a 0 (F 17 - 1)))) ∧ (M w mo ad A F L g) = w') := by
  have h := c_X10_isFarm de (M w mo ad A F L g) mo ad hm a
  rw [M_f17] at h
  exact h
theorem m_off (de : Nat) (w : Wd) (mo : Nat) (ad : Nat → Nat) (A : Nat → Nat → Int32) (F : Nat → Int32) (L : Int32) (g : Nat → Int32) (hm : RM w mo ad) (x y : Int32) (k : Nat) (hk : k < 5) : Ct yX10_off cX10_off 4 (some .int) 0 0 0 0 de [.ref mo, .int x, .int y, .int (nI k)] (M w mo ad A F L g) (fun r w' => r = some (.int (offV (A 1) (A 2) x y k)) ∧ (M w mo ad A F L g) = w') := by
  have h := c_X10_off de (M w mo ad A F L g) mo ad hm x y k hk
  rw [M_a1, M_a2] at h
  exact h
theorem m_rainOn (de : Nat) (w : Wd) (mo : Nat) (ad : Nat → Nat) (A : Nat → Nat → Int32) (F : Nat → Int32) (L : Int32) (g : Nat → Int32) (hm : RM w mo ad) (nS s0 d : Nat) (kn : Int32) (hS : F 3 = nI nS) (hn5 : nS ≤ 5) (hs : s0 < nS) (hd : d < 1200) : Ct yX10_rainOn cX10_rainOn 8 (some .int) 1 23 0 0 de [.ref mo, .int (nI s0), .int (nI d), .int kn] (M w mo ad A F L g) (fun r w' => r = some (.int (rrV nS (A 1) (A 2) (A 4) (A 5) kn d s0)) ∧ (M w mo ad A F L g) = w') := by
  have h := c_X10_rainOn de (M w mo ad A F L g) mo ad hm nS s0 d kn (by rw [M_f3]; exact hS) hn5 hs hd
  rw [M_a1, M_a2, M_a4, M_a5] at h
  exact h
theorem m_lays (de : Nat) (w : Wd) (mo : Nat) (ad : Nat → Nat) (A : Nat → Nat → Int32) (F : Nat → Int32) (L : Int32) (g : Nat → Int32) (hm : RM w mo ad) (nS s0 se : Nat) (kn : Int32) (hS : F 3 = nI nS) (hn5 : nS ≤ 5) (hs : s0 < nS) (hse : se < 20) : Ct yX10_lays cX10_lays 5 none 2 50 0 0 de [.ref mo, .int (nI s0), .int (nI se), .int kn] (M w mo ad A F L g) (fun r w' => r = none ∧ ∃ g', w' = M w mo ad A F L g' ∧ ∀ j, j < 60 → g' j = rowA A nS kn se s0 j) := by
  have h := c_X10_lays de (M w mo ad A F L g) mo ad hm nS s0 se kn (by rw [M_f3]; exact hS) hn5 hs hse
  rw [M_a1, M_a2, M_a4, M_a5] at h
  simp only [M_stR] at h
  exact h
theorem m_beginning (de : Nat) (w : Wd) (mo : Nat) (ad : Nat → Nat) (A : Nat → Nat → Int32) (F : Nat → Int32) (L : Int32) (g : Nat → Int32) (hm : RM w mo ad)  : Ct yX10_beginning cX10_beginning 2 (some .int) 1 24 0 0 de [.ref mo] (M w mo ad A F L g) (fun r w' => r = some (.int (oI (begO g 58))) ∧ (M w mo ad A F L g) = w') := by
  have h := c_X10_beginning de (M w mo ad A F L g) mo ad hm
  rw [M_g] at h
  exact h
theorem m_looksAt (de : Nat) (w : Wd) (mo : Nat) (ad : Nat → Nat) (A : Nat → Nat → Int32) (F : Nat → Int32) (L : Int32) (g : Nat → Int32) (hm : RM w mo ad) (pr n : Nat) (dN : Nat → Nat) (hpr : pr < 7) (hp : PHA A pr n dN) (ph : Nat) (hph : ph < n) : Ct yX10_looksAt cX10_looksAt 10 (some .int) 2 45 0 0 de [.ref mo, .int (nI pr), .int (nI ph)] (M w mo ad A F L g) (fun r w' => r = some (.int (lookV g (phA A pr 1 ph) (dN ph) (stN g + dSum dN ph))) ∧ (M w mo ad A F L g) = w') := by
  have h := c_X10_looksAt de (M w mo ad A F L g) mo ad hm pr n dN hpr (M_RPH hp) ph hph
  rw [M_g, M_phV] at h
  exact h
theorem m_rateOf (de : Nat) (w : Wd) (mo : Nat) (ad : Nat → Nat) (A : Nat → Nat → Int32) (F : Nat → Int32) (L : Int32) (g : Nat → Int32) (hm : RM w mo ad) (nS s0 : Nat) (hS : F 3 = nI nS) (hn5 : nS ≤ 5) (hs : s0 < nS) (pr n : Nat) (dN : Nat → Nat) (hpr : pr < 7) (hp : PHA A pr n dN) (se : Nat) (hse : se < 20) (hsz : A 8 pr = nI n) : Ct yX10_rateOf cX10_rateOf 6 (some .int) 4 100 0 0 de [.ref mo, .int (nI s0), .int (nI se), .int (nI pr)] (M w mo ad A F L g) (fun r w' => r = some (.int (ratA A nS pr n dN s0 se)) ∧ ∃ g', w' = M w mo ad A F L g') := by
  have h := c_X10_rateOf de (M w mo ad A F L g) mo ad hm nS s0 (by rw [M_f3]; exact hS) hn5 hs pr n dN hpr (M_RPH hp) se hse (by rw [M_a8]; exact hsz)
  rw [M_rrat] at h
  simp only [M_stR] at h
  exact h
theorem m_isOver (de : Nat) (w : Wd) (mo : Nat) (ad : Nat → Nat) (A : Nat → Nat → Int32) (F : Nat → Int32) (L : Int32) (g : Nat → Int32) (hm : RM w mo ad) (i T : Nat) (hi : i ≤ 20) (hT : F 0 = nI T) (hT2 : T < 1200) : Ct yX10_isOver cX10_isOver 2 (some .boolean) 0 0 0 0 de [.ref mo, .int (nI i)] (M w mo ad A F L g) (fun r w' => r = some (.int (bI (decide ((i + 1) * 60 ≤ T)))) ∧ (M w mo ad A F L g) = w') := by
  exact c_X10_isOver de (M w mo ad A F L g) mo ad hm i T hi (by rw [M_f0]; exact hT) hT2
theorem m_pricedOf (de : Nat) (w : Wd) (mo : Nat) (ad : Nat → Nat) (A : Nat → Nat → Int32) (F : Nat → Int32) (L : Int32) (g : Nat → Int32) (hm : RM w mo ad) (nS s0 : Nat) (hS : F 3 = nI nS) (hn5 : nS ≤ 5) (hs : s0 < nS) (pr n : Nat) (dN : Nat → Nat) (hpr : pr < 7) (hp : PHA A pr n dN) (T : Nat) (hT : F 0 = nI T) (hT2 : T < 1200) (hsz : A 8 pr = nI n) : Ct yX10_pricedOf cX10_pricedOf 6 (some .int) 5 125 0 0 de [.ref mo, .int (nI s0), .int (nI pr)] (M w mo ad A F L g) (fun r w' => r = some (.int (prcV (ratA A nS pr n dN s0) (T / 60))) ∧ ∃ g', w' = M w mo ad A F L g') := by
  have h := c_X10_pricedOf de (M w mo ad A F L g) mo ad hm nS s0 (by rw [M_f3]; exact hS) hn5 hs pr n dN hpr (M_RPH hp) T (by rw [M_f0]; exact hT) hT2 (by rw [M_a8]; exact hsz)
  simp only [M_stR] at h
  rw [show rrat (M w mo ad A F L g) ad nS pr n dN s0 = ratA A nS pr n dN s0 from funext fun _ => M_rrat] at h
  exact h
end REFM18
