section LOOK39
theorem sumC_b {A : Nat → Nat → Int32} {cf cs ho : Nat → Nat} {st se nF : Nat} (hL : LSB A nF) (hse : se < 20) : ∀ n, (∀ k, k < n → cf k < nF) → ∃ t : Nat, t ≤ 100 * cntN (qT A cf cs ho st se) n ∧ sumC (qT A cf cs ho st se) (fun k => A 18 (20 * cf k + se) - 1) n = nI t
  | 0, _ => ⟨0, by omega, rfl⟩
  | n + 1, hc => by
    obtain ⟨t, ht, e⟩ := sumC_b hL hse n (fun k hk => hc k (by omega))
    by_cases h : qT A cf cs ho st se n = true
    · rw [cntN_t h, sumC_t h, e]
      obtain ⟨v, hv, e2⟩ := hL (cf n) (hc n (by omega)) se hse
      have h2 : 0 < A 18 (20 * cf n + se) := by
        unfold qT at h
        exact of_decide_eq_true (band h).2
      cases v with
      | zero => rw [e2] at h2; exact absurd h2 (by decide)
      | succ v =>
        refine ⟨t + v, by omega, ?_⟩
        show nI t + (A 18 (20 * cf n + se) - 1) = _
        rw [e2, ← nI_1, a11, nI_add]
    · rw [cntN_f h, sumC_f h]
      exact ⟨t, ht, e⟩
theorem lkV_b {A : Nat → Nat → Int32} {cf cs ho : Nat → Nat} {st se nF n : Nat} (hL : LSB A nF) (hse : se < 20) (hc : ∀ k, k < n → cf k < nF) (hn : n ≤ 60) (h0 : ¬ cntN (qT A cf cs ho st se) n = 0) : ∃ t : Nat, t ≤ 100 ∧ lkV A cf cs ho st se n = nI t := by
  obtain ⟨t, ht, e⟩ := sumC_b hL hse n hc (cs := cs) (ho := ho) (st := st)
  have h1 := cntN_le (P := qT A cf cs ho st se) n
  refine ⟨t / cntN (qT A cf cs ho st se) n, Nat.div_le_of_le_mul (by rw [Nat.mul_comm]; exact ht), ?_⟩
  unfold lkV
  rw [e, nI_div (by omega) (by omega) (by omega)]
theorem lkC_4 {A : Nat → Nat → Int32} {cf cs ho : Nat → Nat} {st se n : Nat} (h : bI (decide (cntN (qO cf cs ho st se) n < 2 * cntN (qC A cf cs ho st se) n)) = 0) : lkC A cf cs ho st se n = true := by
  unfold lkC
  rw [decide_eq_true (p := 2 * cntN (qC A cf cs ho st se) n ≤ cntN (qO cf cs ho st se) n) (Nat.not_lt.mp (of_decide_eq_false (bI_0.mp h)))]
  simp
theorem lkC_5 {A : Nat → Nat → Int32} {cf cs ho : Nat → Nat} {st se n : Nat} (h : cntN (qT A cf cs ho st se) n = 0) : lkC A cf cs ho st se n = true := by
  unfold lkC
  rw [decide_eq_true (p := cntN (qT A cf cs ho st se) n = 0) h]
  simp
theorem lkC_6 {A : Nat → Nat → Int32} {cf cs ho : Nat → Nat} {st se n : Nat} (h0 : A 26 (20 * st + se) = 0) (h : ¬ bI (decide (cntN (qO cf cs ho st se) n < 2 * cntN (qC A cf cs ho st se) n)) = 0) (h3 : ¬ cntN (qT A cf cs ho st se) n = 0) : ¬ lkC A cf cs ho st se n = true := by
  unfold lkC
  rw [decide_eq_true h0, decide_eq_false (p := 2 * cntN (qC A cf cs ho st se) n ≤ cntN (qO cf cs ho st se) n) (Nat.not_le.mpr (of_decide_eq_true (bI_n0.mp h))), decide_eq_false (p := cntN (qT A cf cs ho st se) n = 0) h3]
  simp
theorem lkM_e {A : Nat → Nat → Int32} {mean : Int32} {k : Nat} : (if A 23 (10 * k + 2) * (mean - 20) / 100 - A 23 (10 * k + 8) < 0 then 0 else A 23 (10 * k + 2) * (mean - 20) / 100 - A 23 (10 * k + 8)) = lkM A mean k := by
  unfold lkM
  by_cases c1 : A 23 (10 * k + 2) * (mean - 20) / 100 - A 23 (10 * k + 8) < 0
  · rw [if_pos c1, if_neg (fun z => by rw [i32_lt] at c1 z; omega)]
  · rw [if_neg c1]
    by_cases c2 : 0 < A 23 (10 * k + 2) * (mean - 20) / 100 - A 23 (10 * k + 8)
    · rw [if_pos c2]
    · rw [if_neg c2, i32_eq]
      rw [i32_lt] at c1 c2
      show _ = (0 : Int)
      have z0 : (0 : Int32).toInt = 0 := rfl
      omega
theorem sumS_ext {f g : Nat → Int32} : ∀ n, (∀ k, k < n → f k = g k) → sumS f n = sumS g n
  | 0, _ => rfl
  | n + 1, h => by
    show sumS f n + f n = sumS g n + g n
    rw [sumS_ext n (fun k hk => h k (by omega)), h n (by omega)]
theorem sumS_up {f : Nat → Int32} {i : Nat} {v : Int32} : ∀ n, i < n → sumS (fun k => if k = i then f k + v else f k) n = sumS f n + v
  | 0, h => by omega
  | n + 1, h => by
    show sumS (fun k => if k = i then f k + v else f k) n + (if n = i then f n + v else f n) = sumS f n + f n + v
    by_cases e : n = i
    · rw [if_pos e, sumS_ext n (fun k hk => if_neg (show ¬ k = i by omega)), ← Int32.add_assoc]
    · rw [if_neg e, sumS_up n (by omega), Int32.add_assoc, Int32.add_comm v, ← Int32.add_assoc]
theorem lkF_sum {A0 : Nat → Nat → Int32} {cf cs ho : Nat → Nat} {st se n : Nat} {mean : Int32} : ∀ i, i ≤ n → sumS (fun k => (lkF cf cs ho st se mean A0 i).1 23 (10 * k + 8)) n = sumS (fun k => A0 23 (10 * k + 8)) n + (lkF cf cs ho st se mean A0 i).2
  | 0, _ => (Int32.add_zero _).symm
  | i + 1, hi => by
    have ih := lkF_sum (n := n) (A0 := A0) (cf := cf) (cs := cs) (ho := ho) (st := st) (se := se) (mean := mean) i (by omega)
    rw [lkF]
    split
    · generalize lkF cf cs ho st se mean A0 i = q at ih ⊢
      show sumS (fun k => updA (updA q.1 23 (10 * i + 8) (q.1 23 (10 * i + 8) + lkM q.1 mean i)) 15 (cf i) (q.1 15 (cf i) + lkM q.1 mean i) 23 (10 * k + 8)) n = _ + (q.2 + lkM q.1 mean i)
      rw [← Int32.add_assoc, ← ih, ← sumS_up (i := i) (v := lkM q.1 mean i) n (by omega)]
      refine sumS_ext n (fun k hk => ?_)
      rw [updA_ne (Or.inl (by decide))]
      by_cases e : k = i
      · rw [if_pos e, e, updA_eq]
      · rw [if_neg e, updA_ne (Or.inr (by omega))]
    · exact ih
theorem lkF_ne {A0 : Nat → Nat → Int32} {cf cs ho : Nat → Nat} {st se q j : Nat} {mean : Int32} (h : q ≠ 15 ∧ (q ≠ 23 ∨ j % 10 ≠ 8)) : ∀ i, (lkF cf cs ho st se mean A0 i).1 q j = A0 q j
  | 0 => rfl
  | i + 1 => by
    rw [lkF]
    split
    · show updA (updA _ 23 (10 * i + 8) _) 15 (cf i) _ q j = _
      rw [updA_ne (Or.inl h.1), updA_ne (by omega)]
      exact lkF_ne h i
    · exact lkF_ne h i
theorem dX9_lookAgain_0 : decode cX9_lookAgain 0 = .ok (.aload_n 0, 1) := by decide +kernel
theorem dX9_lookAgain_1 : decode cX9_lookAgain 1 = .ok (.aload_n 1, 1) := by decide +kernel
theorem dX9_lookAgain_2 : decode cX9_lookAgain 2 = .ok (.iload_n 2, 1) := by decide +kernel
theorem dX9_lookAgain_3 : decode cX9_lookAgain 3 = .ok (.invokevirtual 374, 3) := by decide +kernel
theorem dX9_lookAgain_6 : decode cX9_lookAgain 6 = .ok (.istore_n 3, 1) := by decide +kernel
theorem dX9_lookAgain_7 : decode cX9_lookAgain 7 = .ok (.aload_n 1, 1) := by decide +kernel
theorem dX9_lookAgain_8 : decode cX9_lookAgain 8 = .ok (.getfield 377, 3) := by decide +kernel
theorem dX9_lookAgain_11 : decode cX9_lookAgain 11 = .ok (.iload_n 2, 1) := by decide +kernel
theorem dX9_lookAgain_12 : decode cX9_lookAgain 12 = .ok (.baload, 1) := by decide +kernel
theorem dX9_lookAgain_13 : decode cX9_lookAgain 13 = .ok (.ifCond .ne 17, 3) := by decide +kernel
theorem dX9_lookAgain_16 : decode cX9_lookAgain 16 = .ok (.iload_n 3, 1) := by decide +kernel
theorem dX9_lookAgain_17 : decode cX9_lookAgain 17 = .ok (.iconst (-1), 1) := by decide +kernel
theorem dX9_lookAgain_18 : decode cX9_lookAgain 18 = .ok (.if_icmp .eq 12, 3) := by decide +kernel
theorem dX9_lookAgain_21 : decode cX9_lookAgain 21 = .ok (.aload_n 0, 1) := by decide +kernel
theorem dX9_lookAgain_22 : decode cX9_lookAgain 22 = .ok (.aload_n 1, 1) := by decide +kernel
theorem dX9_lookAgain_23 : decode cX9_lookAgain 23 = .ok (.iload_n 2, 1) := by decide +kernel
theorem dX9_lookAgain_24 : decode cX9_lookAgain 24 = .ok (.invokevirtual 381, 3) := by decide +kernel
theorem dX9_lookAgain_27 : decode cX9_lookAgain 27 = .ok (.ifCond .ne 5, 3) := by decide +kernel
theorem dX9_lookAgain_30 : decode cX9_lookAgain 30 = .ok (.iconst 0, 1) := by decide +kernel
theorem dX9_lookAgain_31 : decode cX9_lookAgain 31 = .ok (.ireturn, 1) := by decide +kernel
theorem dX9_lookAgain_32 : decode cX9_lookAgain 32 = .ok (.aload_n 1, 1) := by decide +kernel
theorem dX9_lookAgain_33 : decode cX9_lookAgain 33 = .ok (.getfield 377, 3) := by decide +kernel
theorem dX9_lookAgain_36 : decode cX9_lookAgain 36 = .ok (.iload_n 2, 1) := by decide +kernel
theorem dX9_lookAgain_37 : decode cX9_lookAgain 37 = .ok (.iconst 1, 1) := by decide +kernel
theorem dX9_lookAgain_38 : decode cX9_lookAgain 38 = .ok (.bastore, 1) := by decide +kernel
theorem dX9_lookAgain_39 : decode cX9_lookAgain 39 = .ok (.iconst 0, 1) := by decide +kernel
theorem dX9_lookAgain_40 : decode cX9_lookAgain 40 = .ok (.istore 4, 2) := by decide +kernel
theorem dX9_lookAgain_42 : decode cX9_lookAgain 42 = .ok (.iconst 0, 1) := by decide +kernel
theorem dX9_lookAgain_43 : decode cX9_lookAgain 43 = .ok (.istore 5, 2) := by decide +kernel
theorem dX9_lookAgain_45 : decode cX9_lookAgain 45 = .ok (.iload 5, 2) := by decide +kernel
theorem dX9_lookAgain_47 : decode cX9_lookAgain 47 = .ok (.aload_n 0, 1) := by decide +kernel
theorem dX9_lookAgain_48 : decode cX9_lookAgain 48 = .ok (.getfield 33, 3) := by decide +kernel
theorem dX9_lookAgain_51 : decode cX9_lookAgain 51 = .ok (.invokevirtual 82, 3) := by decide +kernel
theorem dX9_lookAgain_54 : decode cX9_lookAgain 54 = .ok (.if_icmp .ge 44, 3) := by decide +kernel
theorem dX9_lookAgain_57 : decode cX9_lookAgain 57 = .ok (.aload_n 0, 1) := by decide +kernel
theorem dX9_lookAgain_58 : decode cX9_lookAgain 58 = .ok (.getfield 33, 3) := by decide +kernel
theorem dX9_lookAgain_61 : decode cX9_lookAgain 61 = .ok (.iload 5, 2) := by decide +kernel
theorem dX9_lookAgain_63 : decode cX9_lookAgain 63 = .ok (.invokevirtual 292, 3) := by decide +kernel
theorem dX9_lookAgain_66 : decode cX9_lookAgain 66 = .ok (.checkcast 214, 3) := by decide +kernel
theorem dX9_lookAgain_69 : decode cX9_lookAgain 69 = .ok (.astore 6, 2) := by decide +kernel
theorem dX9_lookAgain_71 : decode cX9_lookAgain 71 = .ok (.aload 6, 2) := by decide +kernel
theorem dX9_lookAgain_73 : decode cX9_lookAgain 73 = .ok (.aload_n 1, 1) := by decide +kernel
theorem dX9_lookAgain_74 : decode cX9_lookAgain 74 = .ok (.iload_n 2, 1) := by decide +kernel
theorem dX9_lookAgain_75 : decode cX9_lookAgain 75 = .ok (.invokevirtual 385, 3) := by decide +kernel
theorem dX9_lookAgain_78 : decode cX9_lookAgain 78 = .ok (.ifCond .eq 14, 3) := by decide +kernel
theorem dX9_lookAgain_81 : decode cX9_lookAgain 81 = .ok (.iload 4, 2) := by decide +kernel
theorem dX9_lookAgain_83 : decode cX9_lookAgain 83 = .ok (.aload 6, 2) := by decide +kernel
theorem dX9_lookAgain_85 : decode cX9_lookAgain 85 = .ok (.iload_n 3, 1) := by decide +kernel
theorem dX9_lookAgain_86 : decode cX9_lookAgain 86 = .ok (.invokevirtual 388, 3) := by decide +kernel
theorem dX9_lookAgain_89 : decode cX9_lookAgain 89 = .ok (.iadd, 1) := by decide +kernel
theorem dX9_lookAgain_90 : decode cX9_lookAgain 90 = .ok (.istore 4, 2) := by decide +kernel
theorem dX9_lookAgain_92 : decode cX9_lookAgain 92 = .ok (.iinc 5 1, 3) := by decide +kernel
theorem dX9_lookAgain_95 : decode cX9_lookAgain 95 = .ok (.goto (-50), 3) := by decide +kernel
theorem dX9_lookAgain_98 : decode cX9_lookAgain 98 = .ok (.aload_n 0, 1) := by decide +kernel
theorem dX9_lookAgain_99 : decode cX9_lookAgain 99 = .ok (.getfield 39, 3) := by decide +kernel
theorem dX9_lookAgain_102 : decode cX9_lookAgain 102 = .ok (.dup, 1) := by decide +kernel
theorem dX9_lookAgain_103 : decode cX9_lookAgain 103 = .ok (.getfield 240, 3) := by decide +kernel
theorem dX9_lookAgain_106 : decode cX9_lookAgain 106 = .ok (.iload 4, 2) := by decide +kernel
theorem dX9_lookAgain_108 : decode cX9_lookAgain 108 = .ok (.iadd, 1) := by decide +kernel
theorem dX9_lookAgain_109 : decode cX9_lookAgain 109 = .ok (.putfield 240, 3) := by decide +kernel
theorem dX9_lookAgain_112 : decode cX9_lookAgain 112 = .ok (.iload 4, 2) := by decide +kernel
theorem dX9_lookAgain_114 : decode cX9_lookAgain 114 = .ok (.ireturn, 1) := by decide +kernel
set_option maxHeartbeats 1000000 in
set_option maxRecDepth 100000 in
theorem c_X9_lookAgain (de : Nat) (w : Wd) (x : Nat) (A : Nat → Nat → Int32) (F : Nat → Int32) (nS nP nF nC tl : Nat) (ho cf cp cs sb pn : Nat → Nat) (dn : Nat → Nat → Nat) (ch : Nat → Nat → List (Nat × Int32)) (ca : Nat → Nat → Nat) (h : RC0 w de x A F nS nP nF nC tl ho cf cp cs sb pn dn ch ca) (hC : CVA A nC nF nS cf cs ho) (hL : LSB A nF) (hB : KB w nC A F ca) (st se : Nat) (hst : st < nS) (hse : se < 20) : Ct yX9_lookAgain cX9_lookAgain 7 (some .int) 4 90 0 0 de [.ref x, .ref (ca 0 st), .int (nI se)] w (fun r w' => r = some (.int (lkR A cf cs ho st se nC).2) ∧ RC0 w' de x (lkR A cf cs ho st se nC).1 F nS nP nF nC tl ho cf cp cs sb pn dn ch ca ∧ FrR w w' ∧ KB w' nC (lkR A cf cs ho st se nC).1 F ca) := by
  refine Ct.mk (by decide +kernel) [(0, .ref x), (1, .ref (ca 0 st)), (2, .int (nI se))] rfl (Nat.le_of_ble_eq_true rfl) ?_
  intro p l e R s m args below meth c D cy z C hnm
  obtain ⟨h60, h16, h5, hcv, hho⟩ := id hC
  have hC1 : CVA (updA A 26 (20 * st + se) 1) nC nF nS cf cs ho := hC.upd (by decide) (Or.inl (by decide))
  have hM1 : (if cntN (qT A cf cs ho st se) nC = 0 then -1 else lkV A cf cs ho st se nC) = -1 → lkC A cf cs ho st se nC = true := fun z => by
    by_cases e : cntN (qT A cf cs ho st se) nC = 0
    · exact lkC_5 e
    · rw [if_neg e] at z
      obtain ⟨t, ht, e2⟩ := lkV_b (cs := cs) (ho := ho) (st := st) hL hse (fun k hk => (hcv k hk).2.1) h60 e
      rw [e2] at z
      exact absurd z (fun z2 => nI_pos (n := t) (by omega) (by rw [z2]; decide))
  have loop : ∀ mean : Int32, (lkR A cf cs ho st se nC) = (lkF cf cs ho st se mean (updA A 26 (20 * st + se) 1) nC) → ∀ (k i : Nat) (w1 : Wd), i + k = nC → RC0 w1 de x (lkF cf cs ho st se mean (updA A 26 (20 * st + se) 1) i).1 F nS nP nF nC tl ho cf cp cs sb pn dn ch ca → FrR w w1 → Kp [2] w w1 → G p l e R s m args below meth c D cy z 7 w1 0 0 45 [(0, .ref x), (1, .ref (ca 0 st)), (2, .int (nI se)), (3, .int mean), (4, .int (lkF cf cs ho st se mean (updA A 26 (20 * st + se) 1) i).2), (5, .int (nI i))] [] (QM below args s D cy z (fun r w' => r = some (.int (lkR A cf cs ho st se nC).2) ∧ RC0 w' de x (lkR A cf cs ho st se nC).1 F nS nP nF nC tl ho cf cp cs sb pn dn ch ca ∧ FrR w w' ∧ KB w' nC (lkR A cf cs ho st se nC).1 F ca) 0 0) := by
    intro mean hR
    intro k
    induction k with
    | zero =>
      intro i w1 hik h hfr hbk
      have hi9 : i = nC := by omega
      rw [hi9] at h ⊢
      have hB1 : KB w1 nC A F ca := hB.mv hbk rfl rfl
      refine g_iload C dX9_lookAgain_45 rfl ?_
      refine g_aload_n C dX9_lookAgain_47 rfl ?_
      refine g_getR (b := (ca 9 6)) C cls_10 11 4 h.1.1 h.1.2.2.2.2.2.1 rfl k_140 dX9_lookAgain_48 ?_
      refine g_callV C cls_0 61 mt_Jx4a65c_size_8abf5 [] (c_sz de _ 61 1043 KL_co (ca 9 6) nC (ca 8) h.2.2.2.2.2.2.1.1) h.2.2.2.2.2.2.1.1.1 (by decide) k_260 rfl rfl (Nat.le_of_ble_eq_true rfl) (by decide) (by decide) (by decide) (by decide) dX9_lookAgain_51 (fun r_51 w_51 hp_51 => ?_)
      obtain ⟨rfl, rfl⟩ := hp_51
      refine g_icmp_ge C 98 dX9_lookAgain_54 (by decide) (fun c_54 => ?_) (fun c_54 => ?_)
      · refine g_aload_n C dX9_lookAgain_98 rfl ?_
        refine g_getR (b := (ca 9 7)) C cls_10 11 5 h.1.1 h.1.2.2.2.2.2.2.1 rfl k_141 dX9_lookAgain_99 ?_
        refine g_dup C dX9_lookAgain_102 rfl ?_
        refine g_getI C cls_1 2 2 hB1.1 rfl k_100 dX9_lookAgain_103 ?_
        rw [hB1.2.2.2.1]
        refine g_iload C dX9_lookAgain_106 rfl ?_
        refine g_iadd C dX9_lookAgain_108 ?_
        refine g_putI C cls_1 2 2 hB1.1 rfl (Or.inl rfl) rfl rfl k_100 dX9_lookAgain_109 ?_
        refine g_iload C dX9_lookAgain_112 rfl ?_
        refine g_iret C rfl rfl (by decide) (by decide) dX9_lookAgain_114 ?_
        rw [hR]
        refine ⟨rfl, h.book hB1.1 2 _, hfr.tr (FrR.pI hB1.1 (by decide)), ?_⟩
        refine ⟨hB1.1, ?_, ?_, ?_, ?_⟩
        · rw [fI_y (by decide), hB1.2.1]
          exact sumS_ext nC (fun k hk => by rw [lkF_ne (by omega), updA_ne (Or.inl (by decide))])
        · rw [fI_y (by decide), hB1.2.2.1]
          exact sumS_ext nC (fun k hk => by rw [lkF_ne (by omega), updA_ne (Or.inl (by decide))])
        · rw [fI_pI, lkF_sum nC (Nat.le_refl _)]
          congr 1
        · rw [fI_y (by decide), hB1.2.2.2.2]
      · exact absurd (nI_nle_of c_54 (by omega) (by omega)) (by omega)
    | succ k ih =>
      intro i w1 hik h hfr hbk
      have hi : i < nC := by omega
      have hcfi := (hcv i hi).2.1
      have hC2 := lkF_CVA (st := st) (se := se) (mean := mean) hC1 i
      generalize hAi : (lkF cf cs ho st se mean (updA A 26 (20 * st + se) 1) i) = q at h hC2 ⊢
      obtain ⟨Ai, ti⟩ := q
      dsimp only at h hC2 ⊢
      refine g_iload C dX9_lookAgain_45 rfl ?_
      refine g_aload_n C dX9_lookAgain_47 rfl ?_
      refine g_getR (b := (ca 9 6)) C cls_10 11 4 h.1.1 h.1.2.2.2.2.2.1 rfl k_140 dX9_lookAgain_48 ?_
      refine g_callV C cls_0 61 mt_Jx4a65c_size_8abf5 [] (c_sz de _ 61 1043 KL_co (ca 9 6) nC (ca 8) h.2.2.2.2.2.2.1.1) h.2.2.2.2.2.2.1.1.1 (by decide) k_260 rfl rfl (Nat.le_of_ble_eq_true rfl) (by decide) (by decide) (by decide) (by decide) dX9_lookAgain_51 (fun r_51 w_51 hp_51 => ?_)
      obtain ⟨rfl, rfl⟩ := hp_51
      refine g_icmp_ge C 98 dX9_lookAgain_54 (by decide) (fun c_54 => ?_) (fun c_54 => ?_)
      · exact absurd (nI_le_of c_54 (by omega) (by omega)) (by omega)
      · refine g_aload_n C dX9_lookAgain_57 rfl ?_
        refine g_getR (b := (ca 9 6)) C cls_10 11 4 h.1.1 h.1.2.2.2.2.2.1 rfl k_140 dX9_lookAgain_58 ?_
        refine g_iload C dX9_lookAgain_61 rfl ?_
        refine g_callV C cls_0 61 mt_Jx4a65c_get_915e3 [.int (nI i)] (c_Jx4a65c_get_915e3 de _ 61 1043 KL_co (ca 9 6) nC i (ca 8) h.2.2.2.2.2.2.1.1 hi) h.2.2.2.2.2.2.1.1.1 (by decide) k_399 rfl rfl (Nat.le_of_ble_eq_true rfl) (by decide) (by decide) (by decide) (by decide) dX9_lookAgain_63 (fun r_63 w_63 hp_63 => ?_)
        obtain ⟨rfl, rfl⟩ := hp_63
        refine g_cast C cls_2 3 (h.2.2.2.2.2.2.1.2 i hi).1 (by decide) k_621 dX9_lookAgain_66 ?_
        refine g_astore C dX9_lookAgain_69 (by decide) ?_
        refine g_aload C dX9_lookAgain_71 rfl ?_
        refine g_aload_n C dX9_lookAgain_73 rfl ?_
        refine g_iload_n C dX9_lookAgain_74 rfl ?_
        refine g_callV C cls_2 3 mt_X1_isOf [.ref (ca 0 st), .int (nI se)] (c_X1_isOf de w1 (ca 8 i) (ca 6 (cf i)) (ca 0 (ho (cf i))) (ca 0 st) (h.2.2.2.2.2.2.1.2 i hi).1 (h.2.2.2.2.2.2.1.2 i hi).2.1 (h.2.2.2.2.2.1.2 (cf i) hcfi).1 (h.2.2.2.2.2.1.2 (cf i) hcfi).2.2.1 (h.2.2.1.1.2.2.2.2 (ho (cf i)) (hho (cf i) hcfi).2).1 (nI se)) (h.2.2.2.2.2.2.1.2 i hi).1 (by decide) k_805 rfl rfl (Nat.le_of_ble_eq_true rfl) (by decide) (by decide) (by decide) (by decide) dX9_lookAgain_75 (fun r_75 w_75 hp_75 => ?_)
        obtain ⟨rfl, rfl⟩ := hp_75
        rw [(h.2.2.2.2.2.2.1.2 i hi).2.2.2.2.1, (hC2.2.2.2.1 i hi).2.2.1, isO_e h.2.2.2.2.2.2.2.1 (hho (cf i) hcfi).2 hst (hcv i hi).2.2.2 hse]
        refine g_if_eq C 92 dX9_lookAgain_78 (by decide) (fun c_78 => ?_) (fun c_78 => ?_)
        · refine g_iinc C dX9_lookAgain_92 rfl (nI_1 i) (by decide) ?_
          refine g_goto C 45 dX9_lookAgain_95 (by decide) ?_
          have h9 := ih (i + 1) w1 (by omega) (by rw [lkF_f hAi (Or.inl c_78)]; exact h) hfr hbk
          rw [lkF_f hAi (Or.inl c_78)] at h9
          exact g_lv2 [(0, .ref x), (1, .ref (ca 0 st)), (2, .int (nI se)), (3, .int mean), (4, .int ti), (5, .int (nI (i + 1)))] rfl h9
        · refine g_iload C dX9_lookAgain_81 rfl ?_
          refine g_aload C dX9_lookAgain_83 rfl ?_
          refine g_iload_n C dX9_lookAgain_85 rfl ?_
          refine g_callV C cls_2 3 mt_X1_payMore [.int mean] (c_X1_payMore de w1 (ca 8 i) (ca 6 (cf i)) mean (h.2.2.2.2.2.2.1.2 i hi).1 (h.2.2.2.2.2.2.1.2 i hi).2.1 (h.2.2.2.2.2.1.2 (cf i) hcfi).1) (h.2.2.2.2.2.2.1.2 i hi).1 (by decide) k_814 rfl rfl (Nat.le_of_ble_eq_true rfl) (by decide) (by decide) (by decide) (by decide) dX9_lookAgain_86 (fun r_86 w_86 hp_86 => ?_)
          rw [(h.2.2.2.2.2.2.1.2 i hi).2.2.2.2.2.2.2.2.1, (h.2.2.2.2.2.2.1.2 i hi).2.2.2.1, (h.2.2.2.2.2.2.1.2 i hi).2.2.2.2.2.2.2.2.2.2.1, (h.2.2.2.2.2.1.2 (cf i) hcfi).2.2.2.2.2.2.2.2.2.1, lkM_e] at hp_86
          by_cases hme : mean ≤ Ai 23 (10 * i + 6) / 10 + 20
          · obtain ⟨rfl, rfl⟩ := hp_86.1 hme
            refine g_iadd C dX9_lookAgain_89 ?_
            try rw [Int32.add_zero]
            refine g_istore C dX9_lookAgain_90 (by decide) ?_
            refine g_iinc C dX9_lookAgain_92 rfl (nI_1 i) (by decide) ?_
            refine g_goto C 45 dX9_lookAgain_95 (by decide) ?_
            have h9 := ih (i + 1) w1 (by omega) (by rw [lkF_f hAi (Or.inr hme)]; exact h) hfr hbk
            rw [lkF_f hAi (Or.inr hme)] at h9
            exact g_lv2 [(0, .ref x), (1, .ref (ca 0 st)), (2, .int (nI se)), (3, .int mean), (4, .int ti), (5, .int (nI (i + 1)))] rfl h9
          · obtain ⟨rfl, rfl⟩ := hp_86.2 hme
            replace hfr := hfr.tr ((FrR.pI (h.2.2.2.2.2.2.1.2 i hi).1 (by decide) : FrR _ (pI w1 3 9 (ca 8 i) (Ai 23 (10 * i + 8) + (lkM Ai mean i)))).tr (FrR.pI (show kd (pI w1 3 9 (ca 8 i) (Ai 23 (10 * i + 8) + (lkM Ai mean i))) (ca 6 (cf i)) = 4 from (h.2.2.2.2.2.1.2 (cf i) hcfi).1) (by decide) : FrR _ (pI (pI w1 3 9 (ca 8 i) (Ai 23 (10 * i + 8) + (lkM Ai mean i))) 4 5 (ca 6 (cf i)) (Ai 15 (cf i) + (lkM Ai mean i)))))
            replace hbk := hbk.tr ((Kp.pI (h.2.2.2.2.2.2.1.2 i hi).1 (by decide) : Kp [2] _ (pI w1 3 9 (ca 8 i) (Ai 23 (10 * i + 8) + (lkM Ai mean i)))).tr (Kp.pI (show kd (pI w1 3 9 (ca 8 i) (Ai 23 (10 * i + 8) + (lkM Ai mean i))) (ca 6 (cf i)) = 4 from (h.2.2.2.2.2.1.2 (cf i) hcfi).1) (by decide) : Kp [2] _ (pI (pI w1 3 9 (ca 8 i) (Ai 23 (10 * i + 8) + (lkM Ai mean i))) 4 5 (ca 6 (cf i)) (Ai 15 (cf i) + (lkM Ai mean i)))))
            replace h := (h.cov9 hi (Ai 23 (10 * i + 8) + (lkM Ai mean i))).far5 hcfi (Ai 15 (cf i) + (lkM Ai mean i))
            generalize (pI (pI w1 3 9 (ca 8 i) (Ai 23 (10 * i + 8) + (lkM Ai mean i))) 4 5 (ca 6 (cf i)) (Ai 15 (cf i) + (lkM Ai mean i))) = w3 at h hfr hbk ⊢
            refine g_iadd C dX9_lookAgain_89 ?_
            try rw [Int32.add_zero]
            refine g_istore C dX9_lookAgain_90 (by decide) ?_
            refine g_iinc C dX9_lookAgain_92 rfl (nI_1 i) (by decide) ?_
            refine g_goto C 45 dX9_lookAgain_95 (by decide) ?_
            have h9 := ih (i + 1) w3 (by omega) (by rw [lkF_t hAi c_78 hme]; exact h) hfr hbk
            rw [lkF_t hAi c_78 hme] at h9
            exact g_lv2 [(0, .ref x), (1, .ref (ca 0 st)), (2, .int (nI se)), (3, .int mean), (4, .int (ti + lkM Ai mean i)), (5, .int (nI (i + 1)))] rfl h9
  refine g_aload_n C dX9_lookAgain_0 rfl ?_
  refine g_aload_n C dX9_lookAgain_1 rfl ?_
  refine g_iload_n C dX9_lookAgain_2 rfl ?_
  refine g_callV C cls_10 11 mt_X9_meanLoss [.ref (ca 0 st), .int (nI se)] (c_X9_meanLoss de w x A F nS nP nF nC tl ho cf cp cs sb pn dn ch ca h hC hL st se hst hse) h.1.1 (by decide) k_801 rfl rfl (Nat.le_of_ble_eq_true rfl) (by decide) (by decide) (by decide) (by decide) dX9_lookAgain_3 (fun r_3 w_3 hp_3 => ?_)
  obtain ⟨rfl, rfl⟩ := hp_3
  refine g_istore_n C dX9_lookAgain_6 (by decide) ?_
  refine g_aload_n C dX9_lookAgain_7 rfl ?_
  refine g_getR (b := (ca 2 st)) C cls_7 8 4 (h.2.2.1.1.2.2.2.2 st hst).1 (h.2.2.1.2.2 st hst).1 rfl k_296 dX9_lookAgain_8 ?_
  refine g_iload_n C dX9_lookAgain_11 rfl ?_
  refine g_zald C 1041 (h.2.2.1.2.2 st hst).2.1 rfl (by rw [(h.2.2.1.2.2 st hst).2.2.1]; exact nI_vp hse (by omega)) dX9_lookAgain_12 ?_
  rw [nI_tn (by omega), (h.2.2.1.2.2 st hst).2.2.2 se hse]
  refine g_if_ne C 30 dX9_lookAgain_13 (by decide) (fun c_13 => ?_) (fun c_13 => ?_)
  · refine g_iconst C 0 dX9_lookAgain_30 (by rfl) ?_
    refine g_iret C rfl rfl (by decide) (by decide) dX9_lookAgain_31 ?_
    first
    | exact ⟨by rw [lkR_t (lkC_1 c_13)], by rw [lkR_t (lkC_1 c_13)]; exact h, FrR.rf, by rw [lkR_t (lkC_1 c_13)]; exact hB⟩
    | exact ⟨by rw [lkR_t (lkC_4 c_27)], by rw [lkR_t (lkC_4 c_27)]; exact h, FrR.rf, by rw [lkR_t (lkC_4 c_27)]; exact hB⟩
    | exact ⟨by rw [lkR_t (hM1 c_18)], by rw [lkR_t (hM1 c_18)]; exact h, FrR.rf, by rw [lkR_t (hM1 c_18)]; exact hB⟩
  · refine g_iload_n C dX9_lookAgain_16 rfl ?_
    refine g_iconst C (-1) dX9_lookAgain_17 (by rfl) ?_
    refine g_icmp_eq C 30 dX9_lookAgain_18 (by decide) (fun c_18 => ?_) (fun c_18 => ?_)
    · refine g_iconst C 0 dX9_lookAgain_30 (by rfl) ?_
      refine g_iret C rfl rfl (by decide) (by decide) dX9_lookAgain_31 ?_
      first
      | exact ⟨by rw [lkR_t (lkC_1 c_13)], by rw [lkR_t (lkC_1 c_13)]; exact h, FrR.rf, by rw [lkR_t (lkC_1 c_13)]; exact hB⟩
      | exact ⟨by rw [lkR_t (lkC_4 c_27)], by rw [lkR_t (lkC_4 c_27)]; exact h, FrR.rf, by rw [lkR_t (lkC_4 c_27)]; exact hB⟩
      | exact ⟨by rw [lkR_t (hM1 c_18)], by rw [lkR_t (hM1 c_18)]; exact h, FrR.rf, by rw [lkR_t (hM1 c_18)]; exact hB⟩
    · refine g_aload_n C dX9_lookAgain_21 rfl ?_
      refine g_aload_n C dX9_lookAgain_22 rfl ?_
      refine g_iload_n C dX9_lookAgain_23 rfl ?_
      refine g_callV C cls_10 11 mt_X9_mostComplained [.ref (ca 0 st), .int (nI se)] (c_X9_mostComplained de w x A F nS nP nF nC tl ho cf cp cs sb pn dn ch ca h hC st se hst hse) h.1.1 (by decide) k_810 rfl rfl (Nat.le_of_ble_eq_true rfl) (by decide) (by decide) (by decide) (by decide) dX9_lookAgain_24 (fun r_24 w_24 hp_24 => ?_)
      obtain ⟨rfl, rfl⟩ := hp_24
      refine g_if_ne C 32 dX9_lookAgain_27 (by decide) (fun c_27 => ?_) (fun c_27 => ?_)
      · refine g_aload_n C dX9_lookAgain_32 rfl ?_
        refine g_getR (b := (ca 2 st)) C cls_7 8 4 (h.2.2.1.1.2.2.2.2 st hst).1 (h.2.2.1.2.2 st hst).1 rfl k_296 dX9_lookAgain_33 ?_
        refine g_iload_n C dX9_lookAgain_36 rfl ?_
        refine g_iconst C 1 dX9_lookAgain_37 (by rfl) ?_
        refine g_zast C 1041 (h.2.2.1.2.2 st hst).2.1 rfl (by rw [(h.2.2.1.2.2 st hst).2.2.1]; exact nI_vp hse (by omega)) rfl dX9_lookAgain_38 ?_
        rw [nI_tn (by omega)]
        have hfr := (FrR.pAI (h.2.2.1.2.2 st hst).2.1 (by decide) : FrR w (pAI w 1041 (ca 2 st) se 1))
        have hbk := (Kp.pAI (h.2.2.1.2.2 st hst).2.1 (by decide) : Kp [2] w (pAI w 1041 (ca 2 st) se 1))
        replace h := h.mark hst hse 1
        generalize pAI w 1041 (ca 2 st) se 1 = w1 at h hfr hbk ⊢
        refine g_iconst C 0 dX9_lookAgain_39 (by rfl) ?_
        refine g_istore C dX9_lookAgain_40 (by decide) ?_
        refine g_iconst C 0 dX9_lookAgain_42 (by rfl) ?_
        refine g_istore C dX9_lookAgain_43 (by decide) ?_
        rw [if_neg (fun z => c_18 (if_pos z))]
        exact g_lv2 [(0, .ref x), (1, .ref (ca 0 st)), (2, .int (nI se)), (3, .int (lkV A cf cs ho st se nC)), (4, .int 0), (5, .int (nI 0))] rfl (loop _ (lkR_f (lkC_6 c_13 c_27 (fun z => c_18 (if_pos z)))) nC 0 w1 (by omega) h hfr hbk)
      · refine g_iconst C 0 dX9_lookAgain_30 (by rfl) ?_
        refine g_iret C rfl rfl (by decide) (by decide) dX9_lookAgain_31 ?_
        first
        | exact ⟨by rw [lkR_t (lkC_1 c_13)], by rw [lkR_t (lkC_1 c_13)]; exact h, FrR.rf, by rw [lkR_t (lkC_1 c_13)]; exact hB⟩
        | exact ⟨by rw [lkR_t (lkC_4 c_27)], by rw [lkR_t (lkC_4 c_27)]; exact h, FrR.rf, by rw [lkR_t (lkC_4 c_27)]; exact hB⟩
        | exact ⟨by rw [lkR_t (hM1 c_18)], by rw [lkR_t (hM1 c_18)]; exact h, FrR.rf, by rw [lkR_t (hM1 c_18)]; exact hB⟩
end LOOK39
