section PAIR54
/-- the class and the reference hold the same, after j calls; L: what the last call told -/
def IV (w : Wd) (de x mo ou : Nat) (ad : Nat → Nat) (L : Int32) (j : Nat) : Prop := RM w mo ad ∧ kd w ou = 2994 ∧ aL w ou = 1 ∧ ∃ (A : Nat → Nat → Int32) (F g : Nat → Int32) (nS nP nF nC tl : Nat) (ho cf cp cs sb pn : Nat → Nat) (dn : Nat → Nat → Nat) (ch : Nat → Nat → List (Nat × Int32)) (ca : Nat → Nat → Nat) (T rt ly : Nat) (sN : Nat → Nat),
  M w mo ad A F L g = w ∧ RC0 w de x A F nS nP nF nC tl ho cf cp cs sb pn dn ch ca ∧ KB w nC A F ca ∧ PV A F nS nP nF nC tl ho cf cp cs sb pn dn ch T rt ly sN ∧ tl ≤ j
section
variable {w : Wd} {de x nS nP nF nC tl : Nat} {A A1 : Nat → Nat → Int32} {F F1 : Nat → Int32} {ho cf cp cs sb pn : Nat → Nat} {dn : Nat → Nat → Nat} {ch : Nat → Nat → List (Nat × Int32)} {ca : Nat → Nat → Nat} {w1 : Wd} {ca1 : Nat → Nat → Nat} {mo ou j T rt ly nS1 nP1 nF1 nC1 tl1 T1 rt1 ly1 : Nat} {ad : Nat → Nat} {L : Int32} {g g1 : Nat → Int32} {v : Int64} {sN ho1 cf1 cp1 cs1 sb1 pn1 sN1 : Nat → Nat} {dn1 : Nat → Nat → Nat} {ch1 : Nat → Nat → List (Nat × Int32)}
theorem M_kpB (hm : RM w mo ad) : Kp [2] w (M w mo ad A F L g) := fun b hb => by
  have e : kd w b = 2 := List.mem_singleton.mp hb
  exact M_sm hm (by rw [e]; decide) (Or.inl (by rw [e]; decide))
theorem iv_2 (hm : RM w mo ad) (hM : M w mo ad A F L g = w) (ho : kd w ou = 2994) (hf : FrR w w1) : RM (pAJ w1 2994 ou 0 v) mo ad ∧ M (pAJ w1 2994 ou 0 v) mo ad A F L g = pAJ w1 2994 ou 0 v ∧ kd (pAJ w1 2994 ou 0 v) ou = 2994 ∧ aL (pAJ w1 2994 ou 0 v) ou = aL w ou :=
  ⟨(show RM (pAJ w1 2994 ou 0 v) mo ad from (hm.fr hf : RM w1 mo ad)), M_J (M_self hm hM hf), (hf ou (Or.inr (by rw [ho]; decide))).1.trans ho, (hf ou (Or.inr (by rw [ho]; decide))).2.1⟩
/-- both have done it -/
theorem iv_ok (hm : RM w mo ad) (hM : M w mo ad A F L g = w) (ho : kd w ou = 2994) (ho2 : aL w ou = 1) (hf : FrR w w1) (h1 : RC0 w1 de x A1 F1 nS1 nP1 nF1 nC1 tl1 ho1 cf1 cp1 cs1 sb1 pn1 dn1 ch1 ca1) (hB1 : KB w1 nC1 A1 F1 ca1) (hv1 : PV A1 F1 nS1 nP1 nF1 nC1 tl1 ho1 cf1 cp1 cs1 sb1 pn1 dn1 ch1 T1 rt1 ly1 sN1) (ht : tl1 ≤ j + 1) :
    IV (M (pAJ w1 2994 ou 0 v) mo ad A1 F1 0 g1) de x mo ou ad 0 (j + 1) ∧ aJ (M (pAJ w1 2994 ou 0 v) mo ad A1 F1 0 g1) 2994 ou 0 = v := by
  obtain ⟨hm2, -, hk2, hl2⟩ := iv_2 (v := v) hm hM ho hf
  have ko : kd w1 ou = 2994 := hk2
  have kp : Kp [11, 1020, 10, 81, 1013, 8, 1002, 9, 1041, 7, 1010, 21, 1023, 6, 101, 1053, 5, 41, 1033, 4, 1030, 61, 1043, 3] w1 (M (pAJ w1 2994 ou 0 v) mo ad A1 F1 0 g1) := (Kp.pAJ ko (by decide) : Kp [11, 1020, 10, 81, 1013, 8, 1002, 9, 1041, 7, 1010, 21, 1023, 6, 101, 1053, 5, 41, 1033, 4, 1030, 61, 1043, 3] w1 (pAJ w1 2994 ou 0 v)).tr (M_kp hm2)
  exact ⟨⟨hm2, hk2, hl2.trans ho2, A1, F1, g1, nS1, nP1, nF1, nC1, tl1, ho1, cf1, cp1, cs1, sb1, pn1, dn1, ch1, ca1, T1, rt1, ly1, sN1, M_M, h1.kp kp, hB1.mv ((Kp.pAJ ko (by decide) : Kp [2] w1 (pAJ w1 2994 ou 0 v)).tr (M_kpB hm2)) rfl rfl, hv1, ht⟩, up3_same⟩
/-- both have refused it -/
theorem iv_err (hm : RM w mo ad) (ho3 : kd w ou = 2994) (ho2 : aL w ou = 1) (h : RC0 w de x A F nS nP nF nC tl ho cf cp cs sb pn dn ch ca) (hB : KB w nC A F ca) (hv : PV A F nS nP nF nC tl ho cf cp cs sb pn dn ch T rt ly sN) (ht : tl ≤ j) (k : Int32) : IV (M w mo ad A F k g) de x mo ou ad k (j + 1) :=
  ⟨hm, ho3, ho2, A, F, g, nS, nP, nF, nC, tl, ho, cf, cp, cs, sb, pn, dn, ch, ca, T, rt, ly, sN, M_M, h.kp (M_kp hm), hB.mv (M_kpB hm) rfl rfl, hv, by omega⟩
end
theorem ex_n {a b : Int32} {n : Nat} (h : b = nI n) (hn : n < 100000) : ∃ i : Nat, inR a 0 (b - 1) = true → a = nI i ∧ i < n := by
  by_cases c : inR a 0 (b - 1) = true
  · rw [h] at c
    obtain ⟨i, h1, h2⟩ := inRn_ex hn c
    exact ⟨i, fun _ => ⟨h1, h2⟩⟩
  · exact ⟨0, fun z => absurd z c⟩
theorem ex_m {a b : Int32} {n : Nat} (h : b = nI n) (hn : n < 100000) : ∃ i : Nat, inR a 0 b = true → a = nI i ∧ i < n + 1 := by
  by_cases c : inR a 0 b = true
  · rw [h] at c
    obtain ⟨i, h1, -, h2⟩ := inR_ex (lo := 0) (by omega) hn c
    exact ⟨i, fun _ => ⟨h1, by omega⟩⟩
  · exact ⟨0, fun z => absurd z c⟩
end PAIR54
