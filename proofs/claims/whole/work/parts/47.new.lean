section NEW47
/-- the arrays with a phase more -/
def pheA (A : Nat → Nat → Int32) (nD : Nat) (dy db tr ex wt : Int32) : Nat → Nat → Int32 := (updA (updA (updA (updA (updA A 7 (5 * (18 + nD)) dy) 7 (5 * (18 + nD) + 1) db) 7 (5 * (18 + nD) + 2) tr) 7 (5 * (18 + nD) + 3) ex) 7 (5 * (18 + nD) + 4) wt)
section
variable {w : Wd} {de x nS nP nF nC tl : Nat} {A A1 : Nat → Nat → Int32} {F F1 : Nat → Int32} {ho cf cp cs sb pn : Nat → Nat} {dn : Nat → Nat → Nat} {ch : Nat → Nat → List (Nat × Int32)} {ca : Nat → Nat → Nat} {w1 : Wd} {nD q dyN : Nat} {dy db tr ex wt v : Int32}
theorem pheA_row {k : Nat} (h : k ≠ 7) : pheA A nD dy db tr ex wt k = A k := by
  unfold pheA
  iterate 5 rw [updA_row h]
theorem pheA_ne {j : Nat} (h : j < 5 * (18 + nD) ∨ 5 * (18 + nD) + 4 < j) : pheA A nD dy db tr ex wt 7 j = A 7 j := by
  unfold pheA
  iterate 5 rw [updA_ne (Or.inr (by omega))]
theorem pheA_0 : pheA A nD dy db tr ex wt 7 (5 * (18 + nD)) = dy := by
  unfold pheA
  iterate 4 rw [updA_ne (Or.inr (by omega))]
  exact updA_eq
theorem pheA_1 : pheA A nD dy db tr ex wt 7 (5 * (18 + nD) + 1) = db := by
  unfold pheA
  iterate 3 rw [updA_ne (Or.inr (by omega))]
  exact updA_eq
theorem pheA_2 : pheA A nD dy db tr ex wt 7 (5 * (18 + nD) + 2) = tr := by
  unfold pheA
  iterate 2 rw [updA_ne (Or.inr (by omega))]
  exact updA_eq
theorem pheA_3 : pheA A nD dy db tr ex wt 7 (5 * (18 + nD) + 3) = ex := by
  unfold pheA
  iterate 1 rw [updA_ne (Or.inr (by omega))]
  exact updA_eq
theorem pheA_4 : pheA A nD dy db tr ex wt 7 (5 * (18 + nD) + 4) = wt := by
  unfold pheA
  exact updA_eq
theorem PHs.cg {pl n : Nat} {el dN el' dN' : Nat → Nat} {dr tr ex wt dr' tr' ex' wt' : Nat → Int32} (h : PHs w de pl n el dN dr tr ex wt) (e : ∀ i, i < n → el' i = el i ∧ dN' i = dN i ∧ dr' i = dr i ∧ tr' i = tr i ∧ ex' i = ex i ∧ wt' i = wt i) : PHs w de pl n el' dN' dr' tr' ex' wt' := by
  obtain ⟨h1, h2, h3⟩ := h
  refine ⟨h1.cg (fun i hi => (e i hi).1), h2, fun i hi => ?_⟩
  obtain ⟨e1, e2, e3, e4, e5, e6⟩ := e i hi
  rw [e1, e2, e3, e4, e5, e6]
  exact h3 i hi
theorem PHs.sm {pl n : Nat} {el dN : Nat → Nat} {dr tr ex wt : Nat → Int32} (h : PHs w de pl n el dN dr tr ex wt) (h1 : SmA w w1 pl) (h2 : ∀ r, r ≠ de → fR w 101 1 pl = some r → SmA w w1 r) (k : Kp [5] w w1) : PHs w1 de pl n el dN dr tr ex wt := by
  obtain ⟨g1, g2, g3⟩ := h
  refine ⟨g1.keep h1 h2, g2, fun i hi => ?_⟩
  have s := k (el i) (by rw [(g3 i hi).1]; decide)
  rw [s.1, s.2.2.1, s.2.2.1, s.2.2.1, s.2.2.1, s.2.2.1]
  exact g3 i hi
/-- a phase more of the draft -/
theorem phaR (h : RC0 w de x A F nS nP nF nC tl ho cf cp cs sb pn dn ch ca) (hadd : AddP w w1 de 101 1053 (ca 4 6) (pn 6) q (fun j => ca 5 (3 * 6 + j))) (hde : kd w de = 0) (hn : pn 6 < 3) (q1 : kd w q = 5) (q2 : fI w 5 0 q = nI dyN) (hd : dyN ≤ 30) (q3 : fI w 5 1 q = db) (q4 : fI w 5 2 q = tr) (q5 : fI w 5 3 q = ex) (q6 : fI w 5 4 q = wt) :
    RC0 w1 de x (pheA A (pn 6) (nI dyN) db tr ex wt) (updF F 11 v) nS nP nF nC tl ho cf cp cs sb (updN pn 6 (pn 6 + 1)) (caU dn 6 (pn 6) dyN) ch (caU ca 5 (3 * 6 + pn 6) q) := by
  have hP := h.2.2.2.2.1
  have hJ := h.2.2.2.2.2.2.2
  have h6 := hP.2.2.1 6 (Or.inr rfl)
  have hA := hadd.sm h6.1.2.2.1 hde
  have k : Kp [11, 1020, 10, 81, 1013, 8, 1002, 9, 1041, 7, 1010, 21, 1023, 6, 5, 41, 1033, 4, 1030, 61, 1043, 3] w w1 := Kp.add hA (by decide)
  have e : ∀ i, i ≠ 5 → caU ca 5 (3 * 6 + pn 6) q i = ca i := fun i h0 => caU_row h0
  have f0 : ∀ j, j ≠ 3 * 6 + pn 6 → caU ca 5 (3 * 6 + pn 6) q 5 j = ca 5 j := fun j hj => caU_ne (Or.inr hj)
  have n0 : caU ca 5 (3 * 6 + pn 6) q 5 (3 * 6 + pn 6) = q := caU_eq
  generalize caU ca 5 (3 * 6 + pn 6) q = ca1 at e f0 n0 ⊢
  have e9 := e 9 (by decide)
  refine ⟨(h.1.mv (k.sub (by decide)) (if_neg (by decide)) (if_neg (by decide)) (if_neg (by decide)) (if_neg (by decide))).adr e9 (by rw [e 3 (by decide)]), (h.2.1.mv (k.sub (by decide)) (pheA_row (by decide))).adr e9,
    (h.2.2.1.mv (k.sub (by decide)) (pheA_row (by decide)) (pheA_row (by decide)) (pheA_row (by decide))).adr e9 (e 0 (by decide)) (e 1 (by decide)) (e 2 (by decide)), (h.2.2.2.1.kp (k.sub (by decide))).adr e9, ⟨?_, hP.2.1, fun i hi => ?_, fun i j hi hj hij r hr => ?_⟩,
    (h.2.2.2.2.2.1.mv (k.sub (by decide)) (pheA_row (by decide)) (pheA_row (by decide)) (pheA_row (by decide)) (pheA_row (by decide)) (pheA_row (by decide))).adr e9 (fun i hi => by rw [e 0 (by decide)]) (e 6 (by decide)) (e 7 (by decide)),
    (h.2.2.2.2.2.2.1.mv (k.sub (by decide)) (pheA_row (by decide)) (pheA_row (by decide))).adr e9 (fun i hi => by rw [e 3 (by decide)]) (fun i hi => by rw [e 6 (by decide)]) (e 8 (by decide)), ?_⟩
  · rw [e9, e 3 (by decide)]
    exact hP.1.kp (S := [21, 1023]) (k.sub (by decide)) (by decide) (by decide)
  · rw [e 3 (by decide), e 4 (by decide), pheA_row (k := 9) (by decide)]
    obtain ⟨g1, g2, g3⟩ := hP.2.2.1 i hi
    have s := k (ca 3 i) (by rw [g1.1]; decide)
    refine ⟨⟨s.1.trans g1.1, (s.2.2.2.1 _ _).trans g1.2.1, ?_⟩, (s.2.2.1 _ _).trans g2, fun z => (s.2.2.1 _ _).trans (g3 z)⟩
    by_cases z : i = 6
    · subst z
      rw [show updN pn 6 (pn 6 + 1) 6 = pn 6 + 1 from if_pos rfl]
      refine ⟨hadd.1.cg (fun j hj => ?_), by omega, fun j hj => ?_⟩
      · by_cases z2 : j = pn 6
        · rw [if_pos z2, z2, n0]
        · rw [if_neg z2, f0 _ (by omega)]
      · dsimp only
        by_cases z2 : j = pn 6
        · subst z2
          have t := k q (by rw [q1]; decide)
          rw [n0, show caU dn 6 (pn 6) dyN 6 (pn 6) = dyN from caU_eq, t.1, t.2.2.1, t.2.2.1, t.2.2.1, t.2.2.1, t.2.2.1]
          refine ⟨q1, q2, hd, q3.trans pheA_1.symm, q4.trans pheA_2.symm, q5.trans pheA_3.symm, q6.trans pheA_4.symm⟩
        · have g := g1.2.2.2.2 j (by omega)
          rw [f0 _ (by omega), show caU dn 6 (pn 6) dyN 6 j = dn 6 j from caU_ne (Or.inr z2)]
          have t := k (ca 5 (3 * 6 + j)) (by rw [g.1]; decide)
          rw [t.1, t.2.2.1, t.2.2.1, t.2.2.1, t.2.2.1, t.2.2.1]
          refine ⟨g.1, g.2.1, g.2.2.1, g.2.2.2.1.trans (pheA_ne (Or.inl (by omega))).symm, g.2.2.2.2.1.trans (pheA_ne (Or.inl (by omega))).symm, g.2.2.2.2.2.1.trans (pheA_ne (Or.inl (by omega))).symm, g.2.2.2.2.2.2.trans (pheA_ne (Or.inl (by omega))).symm⟩
    · have hi2 : i < nP := hi.resolve_right z
      have hP6 := hP.2.1
      have hn3 := g1.2.2.2.1
      rw [show updN pn 6 (pn 6 + 1) i = pn i from if_neg z, caU_row z]
      have h4 : ca 4 i ≠ ca 4 6 := fun z2 => z (hJ.2.1 i 6 hi (Or.inr rfl) (Or.inr z2))
      have s1 : SmA w w1 (ca 4 i) := hadd.2.1 (ca 4 i) (by rw [g1.2.2.1.1]; decide) h4 (fun r hr z2 => by
        rcases h6.1.2.2.1.2.2.2 with ⟨-, y⟩ | ⟨ar, y, -, y2, -⟩
        · rw [hr] at y; cases y
          have y3 := g1.2.2.1.1
          rw [z2, hde] at y3
          exact absurd y3 (by decide)
        · rw [hr] at y; cases y
          have y3 := g1.2.2.1.1
          rw [z2, y2] at y3
          exact absurd y3 (by decide))
      refine (g1.2.2.sm s1 (fun r hr hf => ?_) (k.sub (by decide))).cg (fun j hj => ⟨f0 _ (by omega), rfl, ?_, ?_, ?_, ?_⟩)
      · rcases g1.2.2.1.2.2.2 with ⟨-, y⟩ | ⟨ar, y, -, y2, -⟩
        · rw [hf] at y; cases y; exact absurd rfl hr
        · rw [hf] at y; cases y
          refine hadd.2.1 r (by rw [y2]; decide) (fun z2 => by rw [z2, h6.1.2.2.1.1] at y2; exact absurd y2 (by decide)) (fun r2 hr2 z2 => ?_)
          exact hP.2.2.2 i 6 hi (Or.inr rfl) z r hr hf (by rw [z2]; exact hr2)
      · exact pheA_ne (Or.inl (by omega))
      · exact pheA_ne (Or.inl (by omega))
      · exact pheA_ne (Or.inl (by omega))
      · exact pheA_ne (Or.inl (by omega))
  · rw [e 4 (by decide)]
    intro hf hf2
    -- the arrays behind the lists stay apart
    have st : ∀ t, (t < nP ∨ t = 6) → t ≠ 6 → fR w1 101 1 (ca 4 t) = fR w 101 1 (ca 4 t) := fun t ht z => by
      have g1 := (hP.2.2.1 t ht).1
      have h4 : ca 4 t ≠ ca 4 6 := fun z2 => z (hJ.2.1 t 6 ht (Or.inr rfl) (Or.inr z2))
      refine (hadd.2.1 (ca 4 t) (by rw [g1.2.2.1.1]; decide) h4 (fun r hr z2 => ?_)).2.2.2.1 _ _
      rcases h6.1.2.2.1.2.2.2 with ⟨-, y⟩ | ⟨ar, y, -, y2, -⟩
      · rw [hr] at y; cases y
        have y3 := g1.2.2.1.1
        rw [z2, hde] at y3
        exact absurd y3 (by decide)
      · rw [hr] at y; cases y
        have y3 := g1.2.2.1.1
        rw [z2, y2] at y3
        exact absurd y3 (by decide)
    have nw6 : ∀ t, (t < nP ∨ t = 6) → t ≠ 6 → ∀ r, r ≠ de → fR w 101 1 (ca 4 t) = some r → fR w1 101 1 (ca 4 6) ≠ some r := fun t ht z r hr hf hf2 => by
      rcases hadd.2.2 with y | ⟨q9, y, y2, -⟩
      · rw [y] at hf2
        exact hP.2.2.2 t 6 ht (Or.inr rfl) z r hr hf hf2
      · rw [y] at hf2
        cases hf2
        rcases (hP.2.2.1 t ht).1.2.2.1.2.2.2 with ⟨-, y3⟩ | ⟨ar, y3, -, y4, -⟩
        · rw [hf] at y3; cases y3; exact hr rfl
        · rw [hf] at y3; cases y3
          rw [y2] at y4
          exact absurd y4 (by decide)
    by_cases z : i = 6
    · subst z
      have zj : j ≠ 6 := fun q => hij q.symm
      exact nw6 j hj zj r hr (by rw [← st j hj zj]; exact hf2) hf
    · by_cases z2 : j = 6
      · subst z2
        exact nw6 i hi z r hr (by rw [← st i hi z]; exact hf) hf2
      · rw [st i hi z] at hf
        rw [st j hj z2] at hf2
        exact hP.2.2.2 i j hi hj hij r hr hf hf2
  · unfold KJ at hJ ⊢
    rw [e 0 (by decide), e 1 (by decide), e 2 (by decide), e 3 (by decide), e 4 (by decide), e 6 (by decide), e 7 (by decide), e 8 (by decide)]
    exact hJ
end
theorem dX9_phase_0 : decode cX9_phase 0 = .ok (.iload_n 1, 1) := by decide +kernel
theorem dX9_phase_1 : decode cX9_phase 1 = .ok (.iconst 1, 1) := by decide +kernel
theorem dX9_phase_2 : decode cX9_phase 2 = .ok (.bipush 30, 2) := by decide +kernel
theorem dX9_phase_4 : decode cX9_phase 4 = .ok (.invokestatic 109, 3) := by decide +kernel
theorem dX9_phase_7 : decode cX9_phase 7 = .ok (.ifCond .eq 56, 3) := by decide +kernel
theorem dX9_phase_10 : decode cX9_phase 10 = .ok (.iload 5, 2) := by decide +kernel
theorem dX9_phase_12 : decode cX9_phase 12 = .ok (.iconst 1, 1) := by decide +kernel
theorem dX9_phase_13 : decode cX9_phase 13 = .ok (.bipush 100, 2) := by decide +kernel
theorem dX9_phase_15 : decode cX9_phase 15 = .ok (.invokestatic 109, 3) := by decide +kernel
theorem dX9_phase_18 : decode cX9_phase 18 = .ok (.ifCond .eq 45, 3) := by decide +kernel
theorem dX9_phase_21 : decode cX9_phase 21 = .ok (.iload_n 3, 1) := by decide +kernel
theorem dX9_phase_22 : decode cX9_phase 22 = .ok (.iconst 0, 1) := by decide +kernel
theorem dX9_phase_23 : decode cX9_phase 23 = .ok (.sipush 9999, 3) := by decide +kernel
theorem dX9_phase_26 : decode cX9_phase 26 = .ok (.invokestatic 109, 3) := by decide +kernel
theorem dX9_phase_29 : decode cX9_phase 29 = .ok (.ifCond .eq 34, 3) := by decide +kernel
theorem dX9_phase_32 : decode cX9_phase 32 = .ok (.iload 4, 2) := by decide +kernel
theorem dX9_phase_34 : decode cX9_phase 34 = .ok (.iconst 0, 1) := by decide +kernel
theorem dX9_phase_35 : decode cX9_phase 35 = .ok (.sipush 9999, 3) := by decide +kernel
theorem dX9_phase_38 : decode cX9_phase 38 = .ok (.invokestatic 109, 3) := by decide +kernel
theorem dX9_phase_41 : decode cX9_phase 41 = .ok (.ifCond .eq 22, 3) := by decide +kernel
theorem dX9_phase_44 : decode cX9_phase 44 = .ok (.iload_n 2, 1) := by decide +kernel
theorem dX9_phase_45 : decode cX9_phase 45 = .ok (.ifCond .eq 12, 3) := by decide +kernel
theorem dX9_phase_48 : decode cX9_phase 48 = .ok (.iload_n 3, 1) := by decide +kernel
theorem dX9_phase_49 : decode cX9_phase 49 = .ok (.iload 4, 2) := by decide +kernel
theorem dX9_phase_51 : decode cX9_phase 51 = .ok (.if_icmp .lt 22, 3) := by decide +kernel
theorem dX9_phase_54 : decode cX9_phase 54 = .ok (.goto 9, 3) := by decide +kernel
theorem dX9_phase_57 : decode cX9_phase 57 = .ok (.iload_n 3, 1) := by decide +kernel
theorem dX9_phase_58 : decode cX9_phase 58 = .ok (.iload 4, 2) := by decide +kernel
theorem dX9_phase_60 : decode cX9_phase 60 = .ok (.if_icmp .gt 13, 3) := by decide +kernel
theorem dX9_phase_63 : decode cX9_phase 63 = .ok (.new 113, 3) := by decide +kernel
theorem dX9_phase_66 : decode cX9_phase 66 = .ok (.dup, 1) := by decide +kernel
theorem dX9_phase_67 : decode cX9_phase 67 = .ok (.ldc 126, 2) := by decide +kernel
theorem dX9_phase_69 : decode cX9_phase 69 = .ok (.invokespecial 117, 3) := by decide +kernel
theorem dX9_phase_72 : decode cX9_phase 72 = .ok (.athrow, 1) := by decide +kernel
theorem dX9_phase_73 : decode cX9_phase 73 = .ok (.aload_n 0, 1) := by decide +kernel
theorem dX9_phase_74 : decode cX9_phase 74 = .ok (.getfield 52, 3) := by decide +kernel
theorem dX9_phase_77 : decode cX9_phase 77 = .ok (.getfield 128, 3) := by decide +kernel
theorem dX9_phase_80 : decode cX9_phase 80 = .ok (.invokevirtual 82, 3) := by decide +kernel
theorem dX9_phase_83 : decode cX9_phase 83 = .ok (.iconst 3, 1) := by decide +kernel
theorem dX9_phase_84 : decode cX9_phase 84 = .ok (.if_icmp .lt 13, 3) := by decide +kernel
theorem dX9_phase_87 : decode cX9_phase 87 = .ok (.new 89, 3) := by decide +kernel
theorem dX9_phase_90 : decode cX9_phase 90 = .ok (.dup, 1) := by decide +kernel
theorem dX9_phase_91 : decode cX9_phase 91 = .ok (.ldc 131, 2) := by decide +kernel
theorem dX9_phase_93 : decode cX9_phase 93 = .ok (.invokespecial 93, 3) := by decide +kernel
theorem dX9_phase_96 : decode cX9_phase 96 = .ok (.athrow, 1) := by decide +kernel
theorem dX9_phase_97 : decode cX9_phase 97 = .ok (.aload_n 0, 1) := by decide +kernel
theorem dX9_phase_98 : decode cX9_phase 98 = .ok (.getfield 52, 3) := by decide +kernel
theorem dX9_phase_101 : decode cX9_phase 101 = .ok (.getfield 128, 3) := by decide +kernel
theorem dX9_phase_104 : decode cX9_phase 104 = .ok (.new 133, 3) := by decide +kernel
theorem dX9_phase_107 : decode cX9_phase 107 = .ok (.dup, 1) := by decide +kernel
theorem dX9_phase_108 : decode cX9_phase 108 = .ok (.iload_n 1, 1) := by decide +kernel
theorem dX9_phase_109 : decode cX9_phase 109 = .ok (.iload_n 2, 1) := by decide +kernel
theorem dX9_phase_110 : decode cX9_phase 110 = .ok (.iload_n 3, 1) := by decide +kernel
theorem dX9_phase_111 : decode cX9_phase 111 = .ok (.iload 4, 2) := by decide +kernel
theorem dX9_phase_113 : decode cX9_phase 113 = .ok (.iload 5, 2) := by decide +kernel
theorem dX9_phase_115 : decode cX9_phase 115 = .ok (.invokespecial 135, 3) := by decide +kernel
theorem dX9_phase_118 : decode cX9_phase 118 = .ok (.invokevirtual 101, 3) := by decide +kernel
theorem dX9_phase_121 : decode cX9_phase 121 = .ok (.pop, 1) := by decide +kernel
theorem dX9_phase_122 : decode cX9_phase 122 = .ok (.aload_n 0, 1) := by decide +kernel
theorem dX9_phase_123 : decode cX9_phase 123 = .ok (.getfield 52, 3) := by decide +kernel
theorem dX9_phase_126 : decode cX9_phase 126 = .ok (.getfield 128, 3) := by decide +kernel
theorem dX9_phase_129 : decode cX9_phase 129 = .ok (.invokevirtual 82, 3) := by decide +kernel
theorem dX9_phase_132 : decode cX9_phase 132 = .ok (.ireturn, 1) := by decide +kernel
set_option maxHeartbeats 1000000 in
set_option maxRecDepth 100000 in
theorem c_X9_phase (de : Nat) (w : Wd) (x : Nat) (A : Nat → Nat → Int32) (F : Nat → Int32) (nS nP nF nC tl : Nat) (ho cf cp cs sb pn : Nat → Nat) (dn : Nat → Nat → Nat) (ch : Nat → Nat → List (Nat × Int32)) (ca : Nat → Nat → Nat) (h : RC0 w de x A F nS nP nF nC tl ho cf cp cs sb pn dn ch ca) (hB : KB w nC A F ca) (T rt ly : Nat) (sN : Nat → Nat) (hv : PV A F nS nP nF nC tl ho cf cp cs sb pn dn ch T rt ly sN) (dy : Int32) (dB : Bool) (tr ex wt : Int32) (hD9 : pn 6 ≤ 3) : Cw yX9_phase cX9_phase 6 (some .int) 7 171 8 1450 de [.ref x, .int dy, .int (bI dB), .int tr, .int ex, .int wt] w (fun r w' => goV (bI ((inR dy 1 30 && (inR tr 0 9999 && (inR ex 0 9999 && inR wt 1 100))) && (if dB = true then decide (tr < ex) else decide (ex < tr)))) (bI (decide (F 11 < 3))) 1 = 0 ∧ r = some (.int (F 11 + 1)) ∧ ∃ (ca' : Nat → Nat → Nat) (dyN : Nat), dy = nI dyN ∧ dyN ≤ 30 ∧ RC0 w' de x (pheA A (pn 6) (nI dyN) (bI dB) tr ex wt) (updF F 11 (F 11 + 1)) nS nP nF nC tl ho cf cp cs sb (updN pn 6 (pn 6 + 1)) (caU dn 6 (pn 6) dyN) ch ca' ∧ KB w' nC (pheA A (pn 6) (nI dyN) (bI dB) tr ex wt) (updF F 11 (F 11 + 1)) ca' ∧ FrR w w') (fun E w' => w = w' ∧ ((E = "java/lang/IllegalArgumentException" ∧ goV (bI ((inR dy 1 30 && (inR tr 0 9999 && (inR ex 0 9999 && inR wt 1 100))) && (if dB = true then decide (tr < ex) else decide (ex < tr)))) (bI (decide (F 11 < 3))) 1 = 1) ∨ (E = "java/lang/IllegalStateException" ∧ goV (bI ((inR dy 1 30 && (inR tr 0 9999 && (inR ex 0 9999 && inR wt 1 100))) && (if dB = true then decide (tr < ex) else decide (ex < tr)))) (bI (decide (F 11 < 3))) 1 = 2))) := by
  refine Cw.mk (by decide +kernel) [(0, .ref x), (1, .int dy), (2, .int (bI dB)), (3, .int tr), (4, .int ex), (5, .int wt)] rfl (Nat.le_of_ble_eq_true rfl) ?_
  intro p l e R s m args below meth c D cy z C ht
  obtain ⟨h60, h16, h5, hcv, hho⟩ := id hv.hcv
  have hfr : FrR w w := FrR.rf
  have hbk : Kp [2] w w := Kp.rf
  have hnS : nS < 100000 := by omega
  have hnP : nP < 100000 := by have := hv.hP6; omega
  have hnF : nF < 100000 := by omega
  have hnC : nC < 100000 := by omega
  refine g_iload_n C dX9_phase_0 rfl ?_
  refine g_iconst C 1 dX9_phase_1 (by rfl) ?_
  refine g_bipush C 30 dX9_phase_2 (by rfl) ?_
  refine g_callS C mt_X9_isWithin [.int dy, .int 1, .int 30] (c_X9_isWithin de w dy 1 30) k_189 rfl rfl (Nat.le_of_ble_eq_true rfl) (by decide) (by decide) (by decide) (by decide) dX9_phase_4 (fun r_4 w_4 hp_4 => ?_)
  obtain ⟨rfl, rfl⟩ := hp_4
  refine g_if_eq C 63 dX9_phase_7 (by decide) (fun c_7 => ?_) (fun c_7 => ?_)
  · have b_7 := bI_0.mp c_7
    exact gx_throw C ht th_X9_117 k_192 k_14 (is := 126) (text := "an argument is out of range") (by decide) dX9_phase_63 dX9_phase_66 dX9_phase_67 dX9_phase_69 dX9_phase_72 (by decide) (Nat.le_of_ble_eq_true rfl) (by decide) (by decide) (by first | exact ⟨rfl, Or.inl ⟨rfl, goV_1 (and_f1 (and_f1 b_7))⟩⟩ | exact ⟨rfl, Or.inl ⟨rfl, goV_1 (and_f1 (and_f2 (and_f2 (and_f2 b_18))))⟩⟩ | exact ⟨rfl, Or.inl ⟨rfl, goV_1 (and_f1 (and_f2 (and_f1 b_29)))⟩⟩ | exact ⟨rfl, Or.inl ⟨rfl, goV_1 (and_f1 (and_f2 (and_f2 (and_f1 b_41))))⟩⟩ | exact ⟨rfl, Or.inl ⟨rfl, goV_1 (and_f2 (by rw [if_pos b_45]; exact b_51.2))⟩⟩ | exact ⟨rfl, Or.inl ⟨rfl, goV_1 (and_f2 (by rw [if_neg (by rw [b_45]; decide)]; exact b_60.2))⟩⟩)
  · have b_7 := bI_n0.mp c_7
    refine g_iload C dX9_phase_10 rfl ?_
    refine g_iconst C 1 dX9_phase_12 (by rfl) ?_
    refine g_bipush C 100 dX9_phase_13 (by rfl) ?_
    refine g_callS C mt_X9_isWithin [.int wt, .int 1, .int 100] (c_X9_isWithin de w wt 1 100) k_189 rfl rfl (Nat.le_of_ble_eq_true rfl) (by decide) (by decide) (by decide) (by decide) dX9_phase_15 (fun r_15 w_15 hp_15 => ?_)
    obtain ⟨rfl, rfl⟩ := hp_15
    refine g_if_eq C 63 dX9_phase_18 (by decide) (fun c_18 => ?_) (fun c_18 => ?_)
    · have b_18 := bI_0.mp c_18
      exact gx_throw C ht th_X9_117 k_192 k_14 (is := 126) (text := "an argument is out of range") (by decide) dX9_phase_63 dX9_phase_66 dX9_phase_67 dX9_phase_69 dX9_phase_72 (by decide) (Nat.le_of_ble_eq_true rfl) (by decide) (by decide) (by first | exact ⟨rfl, Or.inl ⟨rfl, goV_1 (and_f1 (and_f1 b_7))⟩⟩ | exact ⟨rfl, Or.inl ⟨rfl, goV_1 (and_f1 (and_f2 (and_f2 (and_f2 b_18))))⟩⟩ | exact ⟨rfl, Or.inl ⟨rfl, goV_1 (and_f1 (and_f2 (and_f1 b_29)))⟩⟩ | exact ⟨rfl, Or.inl ⟨rfl, goV_1 (and_f1 (and_f2 (and_f2 (and_f1 b_41))))⟩⟩ | exact ⟨rfl, Or.inl ⟨rfl, goV_1 (and_f2 (by rw [if_pos b_45]; exact b_51.2))⟩⟩ | exact ⟨rfl, Or.inl ⟨rfl, goV_1 (and_f2 (by rw [if_neg (by rw [b_45]; decide)]; exact b_60.2))⟩⟩)
    · have b_18 := bI_n0.mp c_18
      refine g_iload_n C dX9_phase_21 rfl ?_
      refine g_iconst C 0 dX9_phase_22 (by rfl) ?_
      refine g_sipush C 9999 dX9_phase_23 (by rfl) ?_
      refine g_callS C mt_X9_isWithin [.int tr, .int 0, .int 9999] (c_X9_isWithin de w tr 0 9999) k_189 rfl rfl (Nat.le_of_ble_eq_true rfl) (by decide) (by decide) (by decide) (by decide) dX9_phase_26 (fun r_26 w_26 hp_26 => ?_)
      obtain ⟨rfl, rfl⟩ := hp_26
      refine g_if_eq C 63 dX9_phase_29 (by decide) (fun c_29 => ?_) (fun c_29 => ?_)
      · have b_29 := bI_0.mp c_29
        exact gx_throw C ht th_X9_117 k_192 k_14 (is := 126) (text := "an argument is out of range") (by decide) dX9_phase_63 dX9_phase_66 dX9_phase_67 dX9_phase_69 dX9_phase_72 (by decide) (Nat.le_of_ble_eq_true rfl) (by decide) (by decide) (by first | exact ⟨rfl, Or.inl ⟨rfl, goV_1 (and_f1 (and_f1 b_7))⟩⟩ | exact ⟨rfl, Or.inl ⟨rfl, goV_1 (and_f1 (and_f2 (and_f2 (and_f2 b_18))))⟩⟩ | exact ⟨rfl, Or.inl ⟨rfl, goV_1 (and_f1 (and_f2 (and_f1 b_29)))⟩⟩ | exact ⟨rfl, Or.inl ⟨rfl, goV_1 (and_f1 (and_f2 (and_f2 (and_f1 b_41))))⟩⟩ | exact ⟨rfl, Or.inl ⟨rfl, goV_1 (and_f2 (by rw [if_pos b_45]; exact b_51.2))⟩⟩ | exact ⟨rfl, Or.inl ⟨rfl, goV_1 (and_f2 (by rw [if_neg (by rw [b_45]; decide)]; exact b_60.2))⟩⟩)
      · have b_29 := bI_n0.mp c_29
        refine g_iload C dX9_phase_32 rfl ?_
        refine g_iconst C 0 dX9_phase_34 (by rfl) ?_
        refine g_sipush C 9999 dX9_phase_35 (by rfl) ?_
        refine g_callS C mt_X9_isWithin [.int ex, .int 0, .int 9999] (c_X9_isWithin de w ex 0 9999) k_189 rfl rfl (Nat.le_of_ble_eq_true rfl) (by decide) (by decide) (by decide) (by decide) dX9_phase_38 (fun r_38 w_38 hp_38 => ?_)
        obtain ⟨rfl, rfl⟩ := hp_38
        refine g_if_eq C 63 dX9_phase_41 (by decide) (fun c_41 => ?_) (fun c_41 => ?_)
        · have b_41 := bI_0.mp c_41
          exact gx_throw C ht th_X9_117 k_192 k_14 (is := 126) (text := "an argument is out of range") (by decide) dX9_phase_63 dX9_phase_66 dX9_phase_67 dX9_phase_69 dX9_phase_72 (by decide) (Nat.le_of_ble_eq_true rfl) (by decide) (by decide) (by first | exact ⟨rfl, Or.inl ⟨rfl, goV_1 (and_f1 (and_f1 b_7))⟩⟩ | exact ⟨rfl, Or.inl ⟨rfl, goV_1 (and_f1 (and_f2 (and_f2 (and_f2 b_18))))⟩⟩ | exact ⟨rfl, Or.inl ⟨rfl, goV_1 (and_f1 (and_f2 (and_f1 b_29)))⟩⟩ | exact ⟨rfl, Or.inl ⟨rfl, goV_1 (and_f1 (and_f2 (and_f2 (and_f1 b_41))))⟩⟩ | exact ⟨rfl, Or.inl ⟨rfl, goV_1 (and_f2 (by rw [if_pos b_45]; exact b_51.2))⟩⟩ | exact ⟨rfl, Or.inl ⟨rfl, goV_1 (and_f2 (by rw [if_neg (by rw [b_45]; decide)]; exact b_60.2))⟩⟩)
        · have b_41 := bI_n0.mp c_41
          refine g_iload_n C dX9_phase_44 rfl ?_
          refine g_if_eq C 57 dX9_phase_45 (by decide) (fun c_45 => ?_) (fun c_45 => ?_)
          · have b_45 := bI_0.mp c_45
            refine g_iload_n C dX9_phase_57 rfl ?_
            refine g_iload C dX9_phase_58 rfl ?_
            refine g_icmp_gt C 73 dX9_phase_60 (by decide) (fun c_60 => ?_) (fun c_60 => ?_)
            · have b_60 := And.intro (decide_eq_false (Int32.not_le.mpr c_60)) (decide_eq_true c_60)
              refine g_aload_n C dX9_phase_73 rfl ?_
              refine g_getR (b := (ca 3 6)) C cls_10 11 7 h.1.1 h.1.2.2.2.2.2.2.2.2.1 rfl k_143 dX9_phase_74 ?_
              refine g_getR (b := (ca 4 6)) C cls_5 6 1 (h.2.2.2.2.1.2.2.1 6 (Or.inr rfl)).1.1 (h.2.2.2.2.1.2.2.1 6 (Or.inr rfl)).1.2.1 rfl k_123 dX9_phase_77 ?_
              refine g_callV C cls_0 101 mt_Jx4a65c_size_8abf5 [] (c_sz de w 101 1053 KL_ph (ca 4 6) (pn 6) (fun j => ca 5 (3 * 6 + j)) (h.2.2.2.2.1.2.2.1 6 (Or.inr rfl)).1.2.2.1) (h.2.2.2.2.1.2.2.1 6 (Or.inr rfl)).1.2.2.1.1 (by decide) k_260 rfl rfl (Nat.le_of_ble_eq_true rfl) (by decide) (by decide) (by decide) (by decide) dX9_phase_80 (fun r_80 w_80 hp_80 => ?_)
              obtain ⟨rfl, rfl⟩ := hp_80
              refine g_iconst C 3 dX9_phase_83 (by rfl) ?_
              refine g_icmp_lt C 97 dX9_phase_84 (by decide) (fun c_84 => ?_) (fun c_84 => ?_)
              · have b_84 := And.intro (decide_eq_false (Int32.not_le.mpr c_84)) (decide_eq_true c_84)
                have hn3 : pn 6 < 3 := nI_lt_of (b := 3) c_84 (by omega) (by omega)
                obtain ⟨dyN, rfl, -, hdy⟩ := inR_ex (lo := 1) (n := 30) (by omega) (by omega) b_7
                refine g_aload_n C dX9_phase_97 rfl ?_
                refine g_getR (b := (ca 3 6)) C cls_10 11 7 h.1.1 h.1.2.2.2.2.2.2.2.2.1 rfl k_143 dX9_phase_98 ?_
                refine g_getR (b := (ca 4 6)) C cls_5 6 1 (h.2.2.2.2.1.2.2.1 6 (Or.inr rfl)).1.1 (h.2.2.2.2.1.2.2.1 6 (Or.inr rfl)).1.2.1 rfl k_123 dX9_phase_101 ?_
                refine g_new C cls_4 dv_4 5 rfl k_466 k_467 k_24 (by decide) (by decide) dX9_phase_104 (fun q hq => ?_)
                intro hde
                have h0 := h
                have hkq : kd (nw w q 5 0) q = 5 := nw_kd0
                have h := h0.kp ((Old.n1 hq : Old w (nw w q 5 0)).kp (by decide))
                refine g_dup C dX9_phase_107 rfl ?_
                refine g_iload_n C dX9_phase_108 rfl ?_
                refine g_iload_n C dX9_phase_109 rfl ?_
                refine g_iload_n C dX9_phase_110 rfl ?_
                refine g_iload C dX9_phase_111 rfl ?_
                refine g_iload C dX9_phase_113 rfl ?_
                refine g_callI C mt_X3_init [.int (nI dyN), .int (bI dB), .int tr, .int ex, .int wt] (c_X3_init de _ q (nI dyN) dB tr ex wt hkq) k_468 rfl rfl (Nat.le_of_ble_eq_true rfl) (by decide) (by decide) (by decide) (by decide) dX9_phase_115 (fun r_115 w_115 hp_115 => ?_)
                obtain ⟨rfl, f1, q1, q2, q3, q4, q5, q6⟩ := hp_115
                have o2 : Old w w_115 := Old.mk2 hq (fun b _ hb2 => f1 b hb2)
                have h := h0.kp (o2.kp (by decide))
                refine g_de C (fun hde2 => ?_)
                refine g_callV C cls_0 101 mt_Jx4a65c_add_9ea2d [.ref q] (c_Jx4a65c_add_9ea2d de w_115 101 1053 KL_ph cls_4 ca_Phase 5 (by decide) (ca 4 6) (pn 6) q (fun j => ca 5 (3 * 6 + j)) (h.2.2.2.2.1.2.2.1 6 (Or.inr rfl)).1.2.2.1 (by omega) q1 (fun i hi => ((h.2.2.2.2.1.2.2.1 6 (Or.inr rfl)).1.2.2.2.2 i hi).1)) (h.2.2.2.2.1.2.2.1 6 (Or.inr rfl)).1.2.2.1.1 (by decide) k_309 rfl rfl (Nat.le_of_ble_eq_true rfl) (by decide) (by decide) (by decide) (by decide) dX9_phase_118 (fun r_118 w_118 hp_118 => ?_)
                obtain ⟨rfl, hadd⟩ := hp_118
                have hA := AddP.old o2 hadd (h.2.2.2.2.1.2.2.1 6 (Or.inr rfl)).1.2.2.1 hde2
                have hR := phaR h hadd hde2 hn3 q1 q2 hdy q3 q4 q5 q6 (v := F 11 + 1)
                have hxx := hA x (by rw [h0.1.1]; decide) (by rw [h0.1.1]; decide) (by rw [h0.1.1]; decide)
                have hdd := hA (ca 3 6) (by rw [(h0.2.2.2.2.1.2.2.1 6 (Or.inr rfl)).1.1]; decide) (by rw [(h0.2.2.2.2.1.2.2.1 6 (Or.inr rfl)).1.1]; decide) (by rw [(h0.2.2.2.2.1.2.2.1 6 (Or.inr rfl)).1.1]; decide)
                have h := hR
                refine g_pop C dX9_phase_121 rfl ?_
                refine g_aload_n C dX9_phase_122 rfl ?_
                refine g_getR (b := (ca 3 6)) C cls_10 11 7 h.1.1 ((hxx.2.2.2.1 _ _).trans h0.1.2.2.2.2.2.2.2.2.1) rfl k_143 dX9_phase_123 ?_
                refine g_getR (b := (ca 4 6)) C cls_5 6 1 (hdd.1.trans (h0.2.2.2.2.1.2.2.1 6 (Or.inr rfl)).1.1) ((hdd.2.2.2.1 _ _).trans (h0.2.2.2.2.1.2.2.1 6 (Or.inr rfl)).1.2.1) rfl k_123 dX9_phase_126 ?_
                refine g_callV C cls_0 101 mt_Jx4a65c_size_8abf5 [] (c_sz de w_118 101 1053 KL_ph (ca 4 6) (pn 6 + 1) _ hadd.1) hadd.1.1 (by decide) k_260 rfl rfl (Nat.le_of_ble_eq_true rfl) (by decide) (by decide) (by decide) (by decide) dX9_phase_129 (fun r_129 w_129 hp_129 => ?_)
                obtain ⟨rfl, rfl⟩ := hp_129
                refine gx_ret <| g_iret C rfl rfl (by decide) (by decide) dX9_phase_132 ?_
                exact ⟨goV_000 (by first | exact and_t (and_t b_7 (and_t b_29 (and_t b_41 b_18))) (by rw [if_pos b_45]; exact b_51.2) | exact and_t (and_t b_7 (and_t b_29 (and_t b_41 b_18))) (by rw [if_neg (by rw [b_45]; decide)]; exact b_60.2)) (by rw [hv.hD]; exact b_84.2), congrArg (fun v => some (Value.int v)) (by rw [hv.hD, nI_1]), _, dyN, rfl, hdy, h, (hB.mv (Kp.add hA (by decide)) (pheA_row (by decide)) (if_neg (by decide))).adr (caU_row (by decide)), FrR.add hA (by decide)⟩
              · have b_84 := And.intro (decide_eq_true (Int32.not_lt.mp c_84)) (decide_eq_false c_84)
                exact gx_throw C ht th_X9_93 k_264 k_15 (is := 131) (text := "the product has 3 phases") (by decide) dX9_phase_87 dX9_phase_90 dX9_phase_91 dX9_phase_93 dX9_phase_96 (by decide) (Nat.le_of_ble_eq_true rfl) (by decide) (by decide) ⟨rfl, Or.inr (⟨rfl, goV_2 (by first | exact and_t (and_t b_7 (and_t b_29 (and_t b_41 b_18))) (by rw [if_pos b_45]; exact b_51.2) | exact and_t (and_t b_7 (and_t b_29 (and_t b_41 b_18))) (by rw [if_neg (by rw [b_45]; decide)]; exact b_60.2)) (by rw [hv.hD]; exact b_84.2)⟩)⟩
            · have b_60 := And.intro (decide_eq_true (Int32.not_lt.mp c_60)) (decide_eq_false c_60)
              exact gx_throw C ht th_X9_117 k_192 k_14 (is := 126) (text := "an argument is out of range") (by decide) dX9_phase_63 dX9_phase_66 dX9_phase_67 dX9_phase_69 dX9_phase_72 (by decide) (Nat.le_of_ble_eq_true rfl) (by decide) (by decide) (by first | exact ⟨rfl, Or.inl ⟨rfl, goV_1 (and_f1 (and_f1 b_7))⟩⟩ | exact ⟨rfl, Or.inl ⟨rfl, goV_1 (and_f1 (and_f2 (and_f2 (and_f2 b_18))))⟩⟩ | exact ⟨rfl, Or.inl ⟨rfl, goV_1 (and_f1 (and_f2 (and_f1 b_29)))⟩⟩ | exact ⟨rfl, Or.inl ⟨rfl, goV_1 (and_f1 (and_f2 (and_f2 (and_f1 b_41))))⟩⟩ | exact ⟨rfl, Or.inl ⟨rfl, goV_1 (and_f2 (by rw [if_pos b_45]; exact b_51.2))⟩⟩ | exact ⟨rfl, Or.inl ⟨rfl, goV_1 (and_f2 (by rw [if_neg (by rw [b_45]; decide)]; exact b_60.2))⟩⟩)
          · have b_45 := bI_n0.mp c_45
            refine g_iload_n C dX9_phase_48 rfl ?_
            refine g_iload C dX9_phase_49 rfl ?_
            refine g_icmp_lt C 73 dX9_phase_51 (by decide) (fun c_51 => ?_) (fun c_51 => ?_)
            · have b_51 := And.intro (decide_eq_false (Int32.not_le.mpr c_51)) (decide_eq_true c_51)
              refine g_aload_n C dX9_phase_73 rfl ?_
              refine g_getR (b := (ca 3 6)) C cls_10 11 7 h.1.1 h.1.2.2.2.2.2.2.2.2.1 rfl k_143 dX9_phase_74 ?_
              refine g_getR (b := (ca 4 6)) C cls_5 6 1 (h.2.2.2.2.1.2.2.1 6 (Or.inr rfl)).1.1 (h.2.2.2.2.1.2.2.1 6 (Or.inr rfl)).1.2.1 rfl k_123 dX9_phase_77 ?_
              refine g_callV C cls_0 101 mt_Jx4a65c_size_8abf5 [] (c_sz de w 101 1053 KL_ph (ca 4 6) (pn 6) (fun j => ca 5 (3 * 6 + j)) (h.2.2.2.2.1.2.2.1 6 (Or.inr rfl)).1.2.2.1) (h.2.2.2.2.1.2.2.1 6 (Or.inr rfl)).1.2.2.1.1 (by decide) k_260 rfl rfl (Nat.le_of_ble_eq_true rfl) (by decide) (by decide) (by decide) (by decide) dX9_phase_80 (fun r_80 w_80 hp_80 => ?_)
              obtain ⟨rfl, rfl⟩ := hp_80
              refine g_iconst C 3 dX9_phase_83 (by rfl) ?_
              refine g_icmp_lt C 97 dX9_phase_84 (by decide) (fun c_84 => ?_) (fun c_84 => ?_)
              · have b_84 := And.intro (decide_eq_false (Int32.not_le.mpr c_84)) (decide_eq_true c_84)
                have hn3 : pn 6 < 3 := nI_lt_of (b := 3) c_84 (by omega) (by omega)
                obtain ⟨dyN, rfl, -, hdy⟩ := inR_ex (lo := 1) (n := 30) (by omega) (by omega) b_7
                refine g_aload_n C dX9_phase_97 rfl ?_
                refine g_getR (b := (ca 3 6)) C cls_10 11 7 h.1.1 h.1.2.2.2.2.2.2.2.2.1 rfl k_143 dX9_phase_98 ?_
                refine g_getR (b := (ca 4 6)) C cls_5 6 1 (h.2.2.2.2.1.2.2.1 6 (Or.inr rfl)).1.1 (h.2.2.2.2.1.2.2.1 6 (Or.inr rfl)).1.2.1 rfl k_123 dX9_phase_101 ?_
                refine g_new C cls_4 dv_4 5 rfl k_466 k_467 k_24 (by decide) (by decide) dX9_phase_104 (fun q hq => ?_)
                intro hde
                have h0 := h
                have hkq : kd (nw w q 5 0) q = 5 := nw_kd0
                have h := h0.kp ((Old.n1 hq : Old w (nw w q 5 0)).kp (by decide))
                refine g_dup C dX9_phase_107 rfl ?_
                refine g_iload_n C dX9_phase_108 rfl ?_
                refine g_iload_n C dX9_phase_109 rfl ?_
                refine g_iload_n C dX9_phase_110 rfl ?_
                refine g_iload C dX9_phase_111 rfl ?_
                refine g_iload C dX9_phase_113 rfl ?_
                refine g_callI C mt_X3_init [.int (nI dyN), .int (bI dB), .int tr, .int ex, .int wt] (c_X3_init de _ q (nI dyN) dB tr ex wt hkq) k_468 rfl rfl (Nat.le_of_ble_eq_true rfl) (by decide) (by decide) (by decide) (by decide) dX9_phase_115 (fun r_115 w_115 hp_115 => ?_)
                obtain ⟨rfl, f1, q1, q2, q3, q4, q5, q6⟩ := hp_115
                have o2 : Old w w_115 := Old.mk2 hq (fun b _ hb2 => f1 b hb2)
                have h := h0.kp (o2.kp (by decide))
                refine g_de C (fun hde2 => ?_)
                refine g_callV C cls_0 101 mt_Jx4a65c_add_9ea2d [.ref q] (c_Jx4a65c_add_9ea2d de w_115 101 1053 KL_ph cls_4 ca_Phase 5 (by decide) (ca 4 6) (pn 6) q (fun j => ca 5 (3 * 6 + j)) (h.2.2.2.2.1.2.2.1 6 (Or.inr rfl)).1.2.2.1 (by omega) q1 (fun i hi => ((h.2.2.2.2.1.2.2.1 6 (Or.inr rfl)).1.2.2.2.2 i hi).1)) (h.2.2.2.2.1.2.2.1 6 (Or.inr rfl)).1.2.2.1.1 (by decide) k_309 rfl rfl (Nat.le_of_ble_eq_true rfl) (by decide) (by decide) (by decide) (by decide) dX9_phase_118 (fun r_118 w_118 hp_118 => ?_)
                obtain ⟨rfl, hadd⟩ := hp_118
                have hA := AddP.old o2 hadd (h.2.2.2.2.1.2.2.1 6 (Or.inr rfl)).1.2.2.1 hde2
                have hR := phaR h hadd hde2 hn3 q1 q2 hdy q3 q4 q5 q6 (v := F 11 + 1)
                have hxx := hA x (by rw [h0.1.1]; decide) (by rw [h0.1.1]; decide) (by rw [h0.1.1]; decide)
                have hdd := hA (ca 3 6) (by rw [(h0.2.2.2.2.1.2.2.1 6 (Or.inr rfl)).1.1]; decide) (by rw [(h0.2.2.2.2.1.2.2.1 6 (Or.inr rfl)).1.1]; decide) (by rw [(h0.2.2.2.2.1.2.2.1 6 (Or.inr rfl)).1.1]; decide)
                have h := hR
                refine g_pop C dX9_phase_121 rfl ?_
                refine g_aload_n C dX9_phase_122 rfl ?_
                refine g_getR (b := (ca 3 6)) C cls_10 11 7 h.1.1 ((hxx.2.2.2.1 _ _).trans h0.1.2.2.2.2.2.2.2.2.1) rfl k_143 dX9_phase_123 ?_
                refine g_getR (b := (ca 4 6)) C cls_5 6 1 (hdd.1.trans (h0.2.2.2.2.1.2.2.1 6 (Or.inr rfl)).1.1) ((hdd.2.2.2.1 _ _).trans (h0.2.2.2.2.1.2.2.1 6 (Or.inr rfl)).1.2.1) rfl k_123 dX9_phase_126 ?_
                refine g_callV C cls_0 101 mt_Jx4a65c_size_8abf5 [] (c_sz de w_118 101 1053 KL_ph (ca 4 6) (pn 6 + 1) _ hadd.1) hadd.1.1 (by decide) k_260 rfl rfl (Nat.le_of_ble_eq_true rfl) (by decide) (by decide) (by decide) (by decide) dX9_phase_129 (fun r_129 w_129 hp_129 => ?_)
                obtain ⟨rfl, rfl⟩ := hp_129
                refine gx_ret <| g_iret C rfl rfl (by decide) (by decide) dX9_phase_132 ?_
                exact ⟨goV_000 (by first | exact and_t (and_t b_7 (and_t b_29 (and_t b_41 b_18))) (by rw [if_pos b_45]; exact b_51.2) | exact and_t (and_t b_7 (and_t b_29 (and_t b_41 b_18))) (by rw [if_neg (by rw [b_45]; decide)]; exact b_60.2)) (by rw [hv.hD]; exact b_84.2), congrArg (fun v => some (Value.int v)) (by rw [hv.hD, nI_1]), _, dyN, rfl, hdy, h, (hB.mv (Kp.add hA (by decide)) (pheA_row (by decide)) (if_neg (by decide))).adr (caU_row (by decide)), FrR.add hA (by decide)⟩
              · have b_84 := And.intro (decide_eq_true (Int32.not_lt.mp c_84)) (decide_eq_false c_84)
                exact gx_throw C ht th_X9_93 k_264 k_15 (is := 131) (text := "the product has 3 phases") (by decide) dX9_phase_87 dX9_phase_90 dX9_phase_91 dX9_phase_93 dX9_phase_96 (by decide) (Nat.le_of_ble_eq_true rfl) (by decide) (by decide) ⟨rfl, Or.inr (⟨rfl, goV_2 (by first | exact and_t (and_t b_7 (and_t b_29 (and_t b_41 b_18))) (by rw [if_pos b_45]; exact b_51.2) | exact and_t (and_t b_7 (and_t b_29 (and_t b_41 b_18))) (by rw [if_neg (by rw [b_45]; decide)]; exact b_60.2)) (by rw [hv.hD]; exact b_84.2)⟩)⟩
            · have b_51 := And.intro (decide_eq_true (Int32.not_lt.mp c_51)) (decide_eq_false c_51)
              refine g_goto C 63 dX9_phase_54 (by decide) ?_
              exact gx_throw C ht th_X9_117 k_192 k_14 (is := 126) (text := "an argument is out of range") (by decide) dX9_phase_63 dX9_phase_66 dX9_phase_67 dX9_phase_69 dX9_phase_72 (by decide) (Nat.le_of_ble_eq_true rfl) (by decide) (by decide) (by first | exact ⟨rfl, Or.inl ⟨rfl, goV_1 (and_f1 (and_f1 b_7))⟩⟩ | exact ⟨rfl, Or.inl ⟨rfl, goV_1 (and_f1 (and_f2 (and_f2 (and_f2 b_18))))⟩⟩ | exact ⟨rfl, Or.inl ⟨rfl, goV_1 (and_f1 (and_f2 (and_f1 b_29)))⟩⟩ | exact ⟨rfl, Or.inl ⟨rfl, goV_1 (and_f1 (and_f2 (and_f2 (and_f1 b_41))))⟩⟩ | exact ⟨rfl, Or.inl ⟨rfl, goV_1 (and_f2 (by rw [if_pos b_45]; exact b_51.2))⟩⟩ | exact ⟨rfl, Or.inl ⟨rfl, goV_1 (and_f2 (by rw [if_neg (by rw [b_45]; decide)]; exact b_60.2))⟩⟩)
end NEW47
