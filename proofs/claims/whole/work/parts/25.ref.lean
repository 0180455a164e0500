section REF25
/-- the reference's arrays made so far -/
def RBp (w0 w1 : Wd) (mo : Nat) (dn : List (Nat × Nat × Nat)) (ad : Nat → Nat) (f : Nat → Int32) : Prop :=
  kd w1 mo = 12 ∧ (∀ q ∈ dn, q.2.1 ≠ 0 ∧ fR w1 12 q.1 mo = some (ad q.1) ∧ kd w1 (ad q.1) = q.2.1 ∧ aL w1 (ad q.1) = q.2.2 ∧ ∀ j, aI w1 q.2.1 (ad q.1) j = 0) ∧ (∀ k, fI w1 12 k mo = f k) ∧ ∀ a, kd w0 a ≠ 0 → a ≠ mo → SmA w0 w1 a
def adU (ad : Nat → Nat) (k q : Nat) : Nat → Nat := fun i => if i = k then q else ad i
theorem RB_a {w0 w1 : Wd} {mo : Nat} {dn : List (Nat × Nat × Nat)} {ad : Nat → Nat} {f : Nat → Int32} (h : RBp w0 w1 mo dn ad f) {q : Nat} (k K n : Nat) (hq : kd w1 q = 0) (hK : K ≠ 0) (hk : dn.all (fun t => !Nat.beq t.1 k) = true) :
    RBp w0 (pR (nw w1 q K n) 12 k mo (some q)) mo ((k, K, n) :: dn) (adU ad k q) f := by
  obtain ⟨h1, h2, h3, h4⟩ := h
  have hmq : mo ≠ q := nw_ne h1 (by decide) hq
  refine ⟨(nw_kd (w := w1) (K := K) (n := n) hmq).trans h1, fun t ht => ?_, fun i => (fI_nw (w := w1) (K' := K) (n := n) hmq).trans (h3 i), fun a ha hm => ?_⟩
  · rcases List.mem_cons.mp ht with rfl | ht
    · have e : adU ad k q k = q := if_pos rfl
      refine ⟨hK, ?_, ?_, ?_, fun j => ?_⟩
      · show fR _ 12 k mo = some (adU ad k q k)
        rw [e]
        exact up3_same
      · show kd (nw w1 q K n) (adU ad k q k) = K
        rw [e]
        exact nw_kd0
      · show aL (nw w1 q K n) (adU ad k q k) = n
        rw [e]
        exact nw_aL0
      · show aI (nw w1 q K n) K (adU ad k q k) j = 0
        rw [e, nw_aI0]
    · obtain ⟨g0, g1, g2, g3, g4⟩ := h2 t ht
      have hne : t.1 ≠ k := fun z => by
        have := List.all_eq_true.mp hk t ht
        rw [z] at this
        simp at this
      have e : adU ad k q t.1 = ad t.1 := if_neg hne
      have hq2 : ad t.1 ≠ q := nw_ne g2 g0 hq
      rw [e]
      exact ⟨g0, (up3_y hne).trans ((fR_nw (w := w1) (K' := K) (n := n) hmq).trans g1), (nw_kd (w := w1) (K := K) (n := n) hq2).trans g2, (aL_nw (w := w1) (K' := K) (n := n) hq2).trans g3, fun j => (congrFun (aI_nw (w := w1) (K' := K) (n := n) hq2) j).trans (g4 j)⟩
  · have s := h4 a ha hm
    exact s.tr ((SmA.nw (nw_ne (K := kd w1 a) rfl (by rw [s.1]; exact ha) hq)).tr (SmA.pR hm))
theorem RB_f {w0 w1 : Wd} {mo : Nat} {dn : List (Nat × Nat × Nat)} {ad : Nat → Nat} {f : Nat → Int32} (h : RBp w0 w1 mo dn ad f) (k : Nat) (v : Int32) : RBp w0 (pI w1 12 k mo v) mo dn ad (updF f k v) := by
  obtain ⟨h1, h2, h3, h4⟩ := h
  refine ⟨h1, h2, fun i => ?_, fun a ha hm => (h4 a ha hm).tr (SmA.pI hm)⟩
  by_cases e : i = k
  · subst e
    exact up3_same.trans (if_pos rfl).symm
  · exact (up3_y e).trans ((h3 i).trans (if_neg e).symm)
theorem dX10_init_0 : decode cX10_init 0 = .ok (.aload_n 0, 1) := by decide +kernel
theorem dX10_init_1 : decode cX10_init 1 = .ok (.invokespecial 1, 3) := by decide +kernel
theorem dX10_init_4 : decode cX10_init 4 = .ok (.aload_n 0, 1) := by decide +kernel
theorem dX10_init_5 : decode cX10_init 5 = .ok (.iconst 5, 1) := by decide +kernel
theorem dX10_init_6 : decode cX10_init 6 = .ok (.newarray .int, 2) := by decide +kernel
theorem dX10_init_8 : decode cX10_init 8 = .ok (.putfield 7, 3) := by decide +kernel
theorem dX10_init_11 : decode cX10_init 11 = .ok (.aload_n 0, 1) := by decide +kernel
theorem dX10_init_12 : decode cX10_init 12 = .ok (.iconst 5, 1) := by decide +kernel
theorem dX10_init_13 : decode cX10_init 13 = .ok (.newarray .int, 2) := by decide +kernel
theorem dX10_init_15 : decode cX10_init 15 = .ok (.putfield 13, 3) := by decide +kernel
theorem dX10_init_18 : decode cX10_init 18 = .ok (.aload_n 0, 1) := by decide +kernel
theorem dX10_init_19 : decode cX10_init 19 = .ok (.sipush 6000, 3) := by decide +kernel
theorem dX10_init_22 : decode cX10_init 22 = .ok (.newarray .int, 2) := by decide +kernel
theorem dX10_init_24 : decode cX10_init 24 = .ok (.putfield 16, 3) := by decide +kernel
theorem dX10_init_27 : decode cX10_init 27 = .ok (.aload_n 0, 1) := by decide +kernel
theorem dX10_init_28 : decode cX10_init 28 = .ok (.sipush 6000, 3) := by decide +kernel
theorem dX10_init_31 : decode cX10_init 31 = .ok (.newarray .int, 2) := by decide +kernel
theorem dX10_init_33 : decode cX10_init 33 = .ok (.putfield 19, 3) := by decide +kernel
theorem dX10_init_36 : decode cX10_init 36 = .ok (.aload_n 0, 1) := by decide +kernel
theorem dX10_init_37 : decode cX10_init 37 = .ok (.bipush 105, 2) := by decide +kernel
theorem dX10_init_39 : decode cX10_init 39 = .ok (.newarray .int, 2) := by decide +kernel
theorem dX10_init_41 : decode cX10_init 41 = .ok (.putfield 22, 3) := by decide +kernel
theorem dX10_init_44 : decode cX10_init 44 = .ok (.aload_n 0, 1) := by decide +kernel
theorem dX10_init_45 : decode cX10_init 45 = .ok (.bipush 7, 2) := by decide +kernel
theorem dX10_init_47 : decode cX10_init 47 = .ok (.newarray .int, 2) := by decide +kernel
theorem dX10_init_49 : decode cX10_init 49 = .ok (.putfield 25, 3) := by decide +kernel
theorem dX10_init_52 : decode cX10_init 52 = .ok (.aload_n 0, 1) := by decide +kernel
theorem dX10_init_53 : decode cX10_init 53 = .ok (.bipush 7, 2) := by decide +kernel
theorem dX10_init_55 : decode cX10_init 55 = .ok (.newarray .int, 2) := by decide +kernel
theorem dX10_init_57 : decode cX10_init 57 = .ok (.putfield 28, 3) := by decide +kernel
theorem dX10_init_60 : decode cX10_init 60 = .ok (.aload_n 0, 1) := by decide +kernel
theorem dX10_init_61 : decode cX10_init 61 = .ok (.bipush 16, 2) := by decide +kernel
theorem dX10_init_63 : decode cX10_init 63 = .ok (.newarray .int, 2) := by decide +kernel
theorem dX10_init_65 : decode cX10_init 65 = .ok (.putfield 31, 3) := by decide +kernel
theorem dX10_init_68 : decode cX10_init 68 = .ok (.aload_n 0, 1) := by decide +kernel
theorem dX10_init_69 : decode cX10_init 69 = .ok (.bipush 16, 2) := by decide +kernel
theorem dX10_init_71 : decode cX10_init 71 = .ok (.newarray .int, 2) := by decide +kernel
theorem dX10_init_73 : decode cX10_init 73 = .ok (.putfield 34, 3) := by decide +kernel
theorem dX10_init_76 : decode cX10_init 76 = .ok (.aload_n 0, 1) := by decide +kernel
theorem dX10_init_77 : decode cX10_init 77 = .ok (.bipush 16, 2) := by decide +kernel
theorem dX10_init_79 : decode cX10_init 79 = .ok (.newarray .int, 2) := by decide +kernel
theorem dX10_init_81 : decode cX10_init 81 = .ok (.putfield 37, 3) := by decide +kernel
theorem dX10_init_84 : decode cX10_init 84 = .ok (.aload_n 0, 1) := by decide +kernel
theorem dX10_init_85 : decode cX10_init 85 = .ok (.bipush 16, 2) := by decide +kernel
theorem dX10_init_87 : decode cX10_init 87 = .ok (.newarray .int, 2) := by decide +kernel
theorem dX10_init_89 : decode cX10_init 89 = .ok (.putfield 40, 3) := by decide +kernel
theorem dX10_init_92 : decode cX10_init 92 = .ok (.aload_n 0, 1) := by decide +kernel
theorem dX10_init_93 : decode cX10_init 93 = .ok (.bipush 16, 2) := by decide +kernel
theorem dX10_init_95 : decode cX10_init 95 = .ok (.newarray .int, 2) := by decide +kernel
theorem dX10_init_97 : decode cX10_init 97 = .ok (.putfield 43, 3) := by decide +kernel
theorem dX10_init_100 : decode cX10_init 100 = .ok (.aload_n 0, 1) := by decide +kernel
theorem dX10_init_101 : decode cX10_init 101 = .ok (.sipush 320, 3) := by decide +kernel
theorem dX10_init_104 : decode cX10_init 104 = .ok (.newarray .int, 2) := by decide +kernel
theorem dX10_init_106 : decode cX10_init 106 = .ok (.putfield 46, 3) := by decide +kernel
theorem dX10_init_109 : decode cX10_init 109 = .ok (.aload_n 0, 1) := by decide +kernel
theorem dX10_init_110 : decode cX10_init 110 = .ok (.sipush 320, 3) := by decide +kernel
theorem dX10_init_113 : decode cX10_init 113 = .ok (.newarray .boolean, 2) := by decide +kernel
theorem dX10_init_115 : decode cX10_init 115 = .ok (.putfield 49, 3) := by decide +kernel
theorem dX10_init_118 : decode cX10_init 118 = .ok (.aload_n 0, 1) := by decide +kernel
theorem dX10_init_119 : decode cX10_init 119 = .ok (.bipush 30, 2) := by decide +kernel
theorem dX10_init_121 : decode cX10_init 121 = .ok (.putfield 53, 3) := by decide +kernel
theorem dX10_init_124 : decode cX10_init 124 = .ok (.aload_n 0, 1) := by decide +kernel
theorem dX10_init_125 : decode cX10_init 125 = .ok (.sipush 5000, 3) := by decide +kernel
theorem dX10_init_128 : decode cX10_init 128 = .ok (.putfield 57, 3) := by decide +kernel
theorem dX10_init_131 : decode cX10_init 131 = .ok (.aload_n 0, 1) := by decide +kernel
theorem dX10_init_132 : decode cX10_init 132 = .ok (.sipush 5000, 3) := by decide +kernel
theorem dX10_init_135 : decode cX10_init 135 = .ok (.putfield 60, 3) := by decide +kernel
theorem dX10_init_138 : decode cX10_init 138 = .ok (.aload_n 0, 1) := by decide +kernel
theorem dX10_init_139 : decode cX10_init 139 = .ok (.sipush 600, 3) := by decide +kernel
theorem dX10_init_142 : decode cX10_init 142 = .ok (.newarray .int, 2) := by decide +kernel
theorem dX10_init_144 : decode cX10_init 144 = .ok (.putfield 63, 3) := by decide +kernel
theorem dX10_init_147 : decode cX10_init 147 = .ok (.aload_n 0, 1) := by decide +kernel
theorem dX10_init_148 : decode cX10_init 148 = .ok (.bipush 20, 2) := by decide +kernel
theorem dX10_init_150 : decode cX10_init 150 = .ok (.newarray .int, 2) := by decide +kernel
theorem dX10_init_152 : decode cX10_init 152 = .ok (.putfield 66, 3) := by decide +kernel
theorem dX10_init_155 : decode cX10_init 155 = .ok (.aload_n 0, 1) := by decide +kernel
theorem dX10_init_156 : decode cX10_init 156 = .ok (.bipush 100, 2) := by decide +kernel
theorem dX10_init_158 : decode cX10_init 158 = .ok (.newarray .boolean, 2) := by decide +kernel
theorem dX10_init_160 : decode cX10_init 160 = .ok (.putfield 69, 3) := by decide +kernel
theorem dX10_init_163 : decode cX10_init 163 = .ok (.aload_n 0, 1) := by decide +kernel
theorem dX10_init_164 : decode cX10_init 164 = .ok (.bipush 60, 2) := by decide +kernel
theorem dX10_init_166 : decode cX10_init 166 = .ok (.newarray .int, 2) := by decide +kernel
theorem dX10_init_168 : decode cX10_init 168 = .ok (.putfield 72, 3) := by decide +kernel
theorem dX10_init_171 : decode cX10_init 171 = .ok (.return_, 1) := by decide +kernel
set_option maxHeartbeats 1000000 in
set_option maxRecDepth 100000 in
theorem c_X10_init (de : Nat) (w : Wd) (mo : Nat) (hm : kd w mo = 12) (hz : ∀ k, fI w 12 k mo = 0) : Ct yX10_init cX10_init 1 none 1 20 18 13629 de [.ref mo] w (fun r w' => r = none ∧ ∃ (ad : Nat → Nat) (f : Nat → Int32), RBp w w' mo [(28, 2280, 60), (26, 2261, 100), (25, 2250, 20), (23, 2230, 600), (19, 2191, 320), (18, 2180, 320), (16, 2160, 16), (15, 2150, 16), (14, 2140, 16), (13, 2130, 16), (12, 2120, 16), (9, 2090, 7), (8, 2080, 7), (7, 2070, 105), (5, 2050, 6000), (4, 2040, 6000), (2, 2020, 5), (1, 2010, 5)] ad f ∧ f = (updF (updF (updF (fun _ => 0) 20 30) 21 5000) 22 5000)) := by
  refine Ct.mk (by decide +kernel) [(0, .ref mo)] rfl (Nat.le_of_ble_eq_true rfl) ?_
  intro p l e R s m args below meth c D cy z C hnm
  have hB : RBp w w mo [] (fun _ => 0) (fun _ => 0) := ⟨hm, fun q hq => (List.not_mem_nil hq).elim, hz, fun a ha hm => SmA.rf⟩
  refine g_aload_n C dX10_init_0 rfl ?_
  refine g_objInit C k_914 k_33 k_34 (Nat.le_of_ble_eq_true rfl) (by decide) dX10_init_1 ?_
  refine g_aload_n C dX10_init_4 rfl ?_
  refine g_iconst C 5 dX10_init_5 (by rfl) ?_
  refine g_newI C 2010 5 rfl k_86 (by decide) (by decide) (by decide) (by decide) (by decide) dX10_init_6 (fun q1 hq1 => ?_)
  intro hde
  refine g_putR C cls_11 12 1 (some q1) rfl (by first | exact hB.1 | exact kd_nw hB.1 (by decide) (by assumption)) rfl (Or.inr ⟨rfl, hnm, rfl⟩) rfl rfl k_916 dX10_init_8 ?_
  replace hB := RB_a hB 1 2010 5 hq1 (by decide) (by decide)
  revert hB
  generalize pR (nw w q1 2010 5) 12 1 mo (some q1) = w1
  intro hB
  refine g_aload_n C dX10_init_11 rfl ?_
  refine g_iconst C 5 dX10_init_12 (by rfl) ?_
  refine g_newI C 2020 5 rfl k_86 (by decide) (by decide) (by decide) (by decide) (by decide) dX10_init_13 (fun q2 hq2 => ?_)
  intro hde
  refine g_putR C cls_11 12 2 (some q2) rfl (by first | exact hB.1 | exact kd_nw hB.1 (by decide) (by assumption)) rfl (Or.inr ⟨rfl, hnm, rfl⟩) rfl rfl k_917 dX10_init_15 ?_
  replace hB := RB_a hB 2 2020 5 hq2 (by decide) (by decide)
  revert hB
  generalize pR (nw w1 q2 2020 5) 12 2 mo (some q2) = w2
  intro hB
  refine g_aload_n C dX10_init_18 rfl ?_
  refine g_sipush C 6000 dX10_init_19 (by rfl) ?_
  refine g_newI C 2040 6000 rfl k_86 (by decide) (by decide) (by decide) (by decide) (by decide) dX10_init_22 (fun q4 hq4 => ?_)
  intro hde
  refine g_putR C cls_11 12 4 (some q4) rfl (by first | exact hB.1 | exact kd_nw hB.1 (by decide) (by assumption)) rfl (Or.inr ⟨rfl, hnm, rfl⟩) rfl rfl k_919 dX10_init_24 ?_
  replace hB := RB_a hB 4 2040 6000 hq4 (by decide) (by decide)
  revert hB
  generalize pR (nw w2 q4 2040 6000) 12 4 mo (some q4) = w4
  intro hB
  refine g_aload_n C dX10_init_27 rfl ?_
  refine g_sipush C 6000 dX10_init_28 (by rfl) ?_
  refine g_newI C 2050 6000 rfl k_86 (by decide) (by decide) (by decide) (by decide) (by decide) dX10_init_31 (fun q5 hq5 => ?_)
  intro hde
  refine g_putR C cls_11 12 5 (some q5) rfl (by first | exact hB.1 | exact kd_nw hB.1 (by decide) (by assumption)) rfl (Or.inr ⟨rfl, hnm, rfl⟩) rfl rfl k_920 dX10_init_33 ?_
  replace hB := RB_a hB 5 2050 6000 hq5 (by decide) (by decide)
  revert hB
  generalize pR (nw w4 q5 2050 6000) 12 5 mo (some q5) = w5
  intro hB
  refine g_aload_n C dX10_init_36 rfl ?_
  refine g_bipush C 105 dX10_init_37 (by rfl) ?_
  refine g_newI C 2070 105 rfl k_86 (by decide) (by decide) (by decide) (by decide) (by decide) dX10_init_39 (fun q7 hq7 => ?_)
  intro hde
  refine g_putR C cls_11 12 7 (some q7) rfl (by first | exact hB.1 | exact kd_nw hB.1 (by decide) (by assumption)) rfl (Or.inr ⟨rfl, hnm, rfl⟩) rfl rfl k_922 dX10_init_41 ?_
  replace hB := RB_a hB 7 2070 105 hq7 (by decide) (by decide)
  revert hB
  generalize pR (nw w5 q7 2070 105) 12 7 mo (some q7) = w7
  intro hB
  refine g_aload_n C dX10_init_44 rfl ?_
  refine g_bipush C 7 dX10_init_45 (by rfl) ?_
  refine g_newI C 2080 7 rfl k_86 (by decide) (by decide) (by decide) (by decide) (by decide) dX10_init_47 (fun q8 hq8 => ?_)
  intro hde
  refine g_putR C cls_11 12 8 (some q8) rfl (by first | exact hB.1 | exact kd_nw hB.1 (by decide) (by assumption)) rfl (Or.inr ⟨rfl, hnm, rfl⟩) rfl rfl k_923 dX10_init_49 ?_
  replace hB := RB_a hB 8 2080 7 hq8 (by decide) (by decide)
  revert hB
  generalize pR (nw w7 q8 2080 7) 12 8 mo (some q8) = w8
  intro hB
  refine g_aload_n C dX10_init_52 rfl ?_
  refine g_bipush C 7 dX10_init_53 (by rfl) ?_
  refine g_newI C 2090 7 rfl k_86 (by decide) (by decide) (by decide) (by decide) (by decide) dX10_init_55 (fun q9 hq9 => ?_)
  intro hde
  refine g_putR C cls_11 12 9 (some q9) rfl (by first | exact hB.1 | exact kd_nw hB.1 (by decide) (by assumption)) rfl (Or.inr ⟨rfl, hnm, rfl⟩) rfl rfl k_924 dX10_init_57 ?_
  replace hB := RB_a hB 9 2090 7 hq9 (by decide) (by decide)
  revert hB
  generalize pR (nw w8 q9 2090 7) 12 9 mo (some q9) = w9
  intro hB
  refine g_aload_n C dX10_init_60 rfl ?_
  refine g_bipush C 16 dX10_init_61 (by rfl) ?_
  refine g_newI C 2120 16 rfl k_86 (by decide) (by decide) (by decide) (by decide) (by decide) dX10_init_63 (fun q12 hq12 => ?_)
  intro hde
  refine g_putR C cls_11 12 12 (some q12) rfl (by first | exact hB.1 | exact kd_nw hB.1 (by decide) (by assumption)) rfl (Or.inr ⟨rfl, hnm, rfl⟩) rfl rfl k_927 dX10_init_65 ?_
  replace hB := RB_a hB 12 2120 16 hq12 (by decide) (by decide)
  revert hB
  generalize pR (nw w9 q12 2120 16) 12 12 mo (some q12) = w12
  intro hB
  refine g_aload_n C dX10_init_68 rfl ?_
  refine g_bipush C 16 dX10_init_69 (by rfl) ?_
  refine g_newI C 2130 16 rfl k_86 (by decide) (by decide) (by decide) (by decide) (by decide) dX10_init_71 (fun q13 hq13 => ?_)
  intro hde
  refine g_putR C cls_11 12 13 (some q13) rfl (by first | exact hB.1 | exact kd_nw hB.1 (by decide) (by assumption)) rfl (Or.inr ⟨rfl, hnm, rfl⟩) rfl rfl k_928 dX10_init_73 ?_
  replace hB := RB_a hB 13 2130 16 hq13 (by decide) (by decide)
  revert hB
  generalize pR (nw w12 q13 2130 16) 12 13 mo (some q13) = w13
  intro hB
  refine g_aload_n C dX10_init_76 rfl ?_
  refine g_bipush C 16 dX10_init_77 (by rfl) ?_
  refine g_newI C 2140 16 rfl k_86 (by decide) (by decide) (by decide) (by decide) (by decide) dX10_init_79 (fun q14 hq14 => ?_)
  intro hde
  refine g_putR C cls_11 12 14 (some q14) rfl (by first | exact hB.1 | exact kd_nw hB.1 (by decide) (by assumption)) rfl (Or.inr ⟨rfl, hnm, rfl⟩) rfl rfl k_929 dX10_init_81 ?_
  replace hB := RB_a hB 14 2140 16 hq14 (by decide) (by decide)
  revert hB
  generalize pR (nw w13 q14 2140 16) 12 14 mo (some q14) = w14
  intro hB
  refine g_aload_n C dX10_init_84 rfl ?_
  refine g_bipush C 16 dX10_init_85 (by rfl) ?_
  refine g_newI C 2150 16 rfl k_86 (by decide) (by decide) (by decide) (by decide) (by decide) dX10_init_87 (fun q15 hq15 => ?_)
  intro hde
  refine g_putR C cls_11 12 15 (some q15) rfl (by first | exact hB.1 | exact kd_nw hB.1 (by decide) (by assumption)) rfl (Or.inr ⟨rfl, hnm, rfl⟩) rfl rfl k_930 dX10_init_89 ?_
  replace hB := RB_a hB 15 2150 16 hq15 (by decide) (by decide)
  revert hB
  generalize pR (nw w14 q15 2150 16) 12 15 mo (some q15) = w15
  intro hB
  refine g_aload_n C dX10_init_92 rfl ?_
  refine g_bipush C 16 dX10_init_93 (by rfl) ?_
  refine g_newI C 2160 16 rfl k_86 (by decide) (by decide) (by decide) (by decide) (by decide) dX10_init_95 (fun q16 hq16 => ?_)
  intro hde
  refine g_putR C cls_11 12 16 (some q16) rfl (by first | exact hB.1 | exact kd_nw hB.1 (by decide) (by assumption)) rfl (Or.inr ⟨rfl, hnm, rfl⟩) rfl rfl k_931 dX10_init_97 ?_
  replace hB := RB_a hB 16 2160 16 hq16 (by decide) (by decide)
  revert hB
  generalize pR (nw w15 q16 2160 16) 12 16 mo (some q16) = w16
  intro hB
  refine g_aload_n C dX10_init_100 rfl ?_
  refine g_sipush C 320 dX10_init_101 (by rfl) ?_
  refine g_newI C 2180 320 rfl k_86 (by decide) (by decide) (by decide) (by decide) (by decide) dX10_init_104 (fun q18 hq18 => ?_)
  intro hde
  refine g_putR C cls_11 12 18 (some q18) rfl (by first | exact hB.1 | exact kd_nw hB.1 (by decide) (by assumption)) rfl (Or.inr ⟨rfl, hnm, rfl⟩) rfl rfl k_933 dX10_init_106 ?_
  replace hB := RB_a hB 18 2180 320 hq18 (by decide) (by decide)
  revert hB
  generalize pR (nw w16 q18 2180 320) 12 18 mo (some q18) = w18
  intro hB
  refine g_aload_n C dX10_init_109 rfl ?_
  refine g_sipush C 320 dX10_init_110 (by rfl) ?_
  refine g_newZ C 2191 320 rfl k_308 (by decide) (by decide) (by decide) (by decide) (by decide) dX10_init_113 (fun q19 hq19 => ?_)
  intro hde
  refine g_putR C cls_11 12 19 (some q19) rfl (by first | exact hB.1 | exact kd_nw hB.1 (by decide) (by assumption)) rfl (Or.inr ⟨rfl, hnm, rfl⟩) rfl rfl k_934 dX10_init_115 ?_
  replace hB := RB_a hB 19 2191 320 hq19 (by decide) (by decide)
  revert hB
  generalize pR (nw w18 q19 2191 320) 12 19 mo (some q19) = w19
  intro hB
  refine g_aload_n C dX10_init_118 rfl ?_
  refine g_bipush C 30 dX10_init_119 (by rfl) ?_
  refine g_putI C cls_11 12 20 (by first | exact hB.1 | exact kd_nw hB.1 (by decide) (by assumption)) rfl (Or.inl rfl) rfl rfl k_935 dX10_init_121 ?_
  replace hB := RB_f hB 20 30
  revert hB
  generalize pI w19 12 20 mo 30 = w20
  intro hB
  refine g_aload_n C dX10_init_124 rfl ?_
  refine g_sipush C 5000 dX10_init_125 (by rfl) ?_
  refine g_putI C cls_11 12 21 (by first | exact hB.1 | exact kd_nw hB.1 (by decide) (by assumption)) rfl (Or.inl rfl) rfl rfl k_936 dX10_init_128 ?_
  replace hB := RB_f hB 21 5000
  revert hB
  generalize pI w20 12 21 mo 5000 = w21
  intro hB
  refine g_aload_n C dX10_init_131 rfl ?_
  refine g_sipush C 5000 dX10_init_132 (by rfl) ?_
  refine g_putI C cls_11 12 22 (by first | exact hB.1 | exact kd_nw hB.1 (by decide) (by assumption)) rfl (Or.inl rfl) rfl rfl k_937 dX10_init_135 ?_
  replace hB := RB_f hB 22 5000
  revert hB
  generalize pI w21 12 22 mo 5000 = w22
  intro hB
  refine g_aload_n C dX10_init_138 rfl ?_
  refine g_sipush C 600 dX10_init_139 (by rfl) ?_
  refine g_newI C 2230 600 rfl k_86 (by decide) (by decide) (by decide) (by decide) (by decide) dX10_init_142 (fun q23 hq23 => ?_)
  intro hde
  refine g_putR C cls_11 12 23 (some q23) rfl (by first | exact hB.1 | exact kd_nw hB.1 (by decide) (by assumption)) rfl (Or.inr ⟨rfl, hnm, rfl⟩) rfl rfl k_938 dX10_init_144 ?_
  replace hB := RB_a hB 23 2230 600 hq23 (by decide) (by decide)
  revert hB
  generalize pR (nw w22 q23 2230 600) 12 23 mo (some q23) = w23
  intro hB
  refine g_aload_n C dX10_init_147 rfl ?_
  refine g_bipush C 20 dX10_init_148 (by rfl) ?_
  refine g_newI C 2250 20 rfl k_86 (by decide) (by decide) (by decide) (by decide) (by decide) dX10_init_150 (fun q25 hq25 => ?_)
  intro hde
  refine g_putR C cls_11 12 25 (some q25) rfl (by first | exact hB.1 | exact kd_nw hB.1 (by decide) (by assumption)) rfl (Or.inr ⟨rfl, hnm, rfl⟩) rfl rfl k_940 dX10_init_152 ?_
  replace hB := RB_a hB 25 2250 20 hq25 (by decide) (by decide)
  revert hB
  generalize pR (nw w23 q25 2250 20) 12 25 mo (some q25) = w25
  intro hB
  refine g_aload_n C dX10_init_155 rfl ?_
  refine g_bipush C 100 dX10_init_156 (by rfl) ?_
  refine g_newZ C 2261 100 rfl k_308 (by decide) (by decide) (by decide) (by decide) (by decide) dX10_init_158 (fun q26 hq26 => ?_)
  intro hde
  refine g_putR C cls_11 12 26 (some q26) rfl (by first | exact hB.1 | exact kd_nw hB.1 (by decide) (by assumption)) rfl (Or.inr ⟨rfl, hnm, rfl⟩) rfl rfl k_941 dX10_init_160 ?_
  replace hB := RB_a hB 26 2261 100 hq26 (by decide) (by decide)
  revert hB
  generalize pR (nw w25 q26 2261 100) 12 26 mo (some q26) = w26
  intro hB
  refine g_aload_n C dX10_init_163 rfl ?_
  refine g_bipush C 60 dX10_init_164 (by rfl) ?_
  refine g_newI C 2280 60 rfl k_86 (by decide) (by decide) (by decide) (by decide) (by decide) dX10_init_166 (fun q28 hq28 => ?_)
  intro hde
  refine g_putR C cls_11 12 28 (some q28) rfl (by first | exact hB.1 | exact kd_nw hB.1 (by decide) (by assumption)) rfl (Or.inr ⟨rfl, hnm, rfl⟩) rfl rfl k_943 dX10_init_168 ?_
  replace hB := RB_a hB 28 2280 60 hq28 (by decide) (by decide)
  revert hB
  generalize pR (nw w26 q28 2280 60) 12 28 mo (some q28) = w28
  intro hB
  refine g_vret C rfl (by decide) (by decide) dX10_init_171 ?_
  exact ⟨rfl, _, _, hB, rfl⟩
end REF25
