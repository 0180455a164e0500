section PUB42
theorem spF_b {cf cs dv : Nat → Nat} {se cap all : Nat} {A1 : Nat → Nat → Int32} (hc : all ≤ cap) : ∀ i, (spF cf cs se dv cap all A1 i).2 = allN cs se dv i
  | 0 => rfl
  | i + 1 => by
    have ih := spF_b (cf := cf) (cs := cs) (dv := dv) (se := se) (A1 := A1) hc i
    rw [spF, allN]
    by_cases e : cs i = se
    · rw [if_pos e, if_pos e]
      show (spF cf cs se dv cap all A1 i).2 + cutN (dv i) cap all = _
      rw [ih, show cutN (dv i) cap all = dv i from if_neg (by omega)]
    · rw [if_neg e, if_neg e, ih]
      rfl
theorem spF_c {cf cs dv : Nat → Nat} {se cap all : Nat} {A1 : Nat → Nat → Int32} (hc : cap < all) : ∀ i, (spF cf cs se dv cap all A1 i).2 * all ≤ allN cs se dv i * cap
  | 0 => by show 0 * all ≤ 0 * cap; omega
  | i + 1 => by
    have ih := spF_c (cf := cf) (cs := cs) (dv := dv) (se := se) (A1 := A1) hc i
    rw [spF, allN]
    by_cases e : cs i = se
    · rw [if_pos e, if_pos e]
      show ((spF cf cs se dv cap all A1 i).2 + cutN (dv i) cap all) * all ≤ _
      rw [show cutN (dv i) cap all = dv i * cap / all from if_pos hc, Nat.add_mul, Nat.add_mul]
      have := Nat.div_mul_le_self (dv i * cap) all
      omega
    · rw [if_neg e, if_neg e]
      exact ih
theorem spF_cap {cf cs dv : Nat → Nat} {se cap n : Nat} {A1 : Nat → Nat → Int32} : (spF cf cs se dv cap (allN cs se dv n) A1 n).2 ≤ cap := by
  by_cases hc : allN cs se dv n ≤ cap
  · rw [spF_b hc]; exact hc
  · have h := spF_c (cf := cf) (cs := cs) (dv := dv) (se := se) (A1 := A1) (Nat.not_le.mp hc) n
    rw [Nat.mul_comm] at h
    exact Nat.le_of_mul_le_mul_left h (by omega)
theorem spF_8 {cf cs dv : Nat → Nat} {se cap all k : Nat} {A1 : Nat → Nat → Int32} : ∀ i, i ≤ k → (spF cf cs se dv cap all A1 i).1 23 (10 * k + 8) = A1 23 (10 * k + 8)
  | 0, _ => rfl
  | i + 1, hi => by
    rw [spF]
    split
    · show payS _ i (cf i) se _ 23 (10 * k + 8) = _
      unfold payS
      rw [updA_ne (Or.inl (by decide)), updA_ne (Or.inl (by decide)), updA_ne (Or.inl (by decide)), updA_ne (Or.inr (by omega)), updA_ne (Or.inr (by omega))]
      exact spF_8 i (by omega)
    · exact spF_8 i (by omega)
theorem spF_sum {cf cs dv : Nat → Nat} {se cap all n : Nat} {A1 : Nat → Nat → Int32} (hz : ∀ k, k < n → cs k = se → A1 23 (10 * k + 8) = 0) : ∀ i, i ≤ n → sumS (fun k => (spF cf cs se dv cap all A1 i).1 23 (10 * k + 8)) n = sumS (fun k => A1 23 (10 * k + 8)) n + nI (spF cf cs se dv cap all A1 i).2
  | 0, _ => (Int32.add_zero _).symm
  | i + 1, hi => by
    have ih := spF_sum (cf := cf) (dv := dv) (cap := cap) (all := all) hz i (by omega)
    have e8 := spF_8 (cf := cf) (cs := cs) (dv := dv) (se := se) (cap := cap) (all := all) (A1 := A1) (k := i) i (by omega)
    rw [spF]
    by_cases e : cs i = se
    · rw [if_pos e]
      rw [hz i (by omega) e] at e8
      generalize spF cf cs se dv cap all A1 i = q at ih e8 ⊢
      show sumS (fun k => payS q.1 i (cf i) se (cutN (dv i) cap all) 23 (10 * k + 8)) n = _ + nI (q.2 + cutN (dv i) cap all)
      rw [← nI_add, ← Int32.add_assoc, ← ih, ← sumS_up (i := i) (v := nI (cutN (dv i) cap all)) n (by omega)]
      refine sumS_ext n (fun k hk => ?_)
      unfold payS
      rw [updA_ne (Or.inl (by decide)), updA_ne (Or.inl (by decide)), updA_ne (Or.inl (by decide)), updA_ne (Or.inr (by omega))]
      by_cases e2 : k = i
      · rw [if_pos e2, e2, updA_eq, e8, Int32.zero_add]
      · rw [if_neg e2, updA_ne (Or.inr (by omega))]
    · rw [if_neg e]
      exact ih
theorem carr {pd rt ly : Nat} (h : pd ≤ rt + ly) (h1 : rt ≤ 99999) (h2 : ly ≤ 99999) : (if nI ly < (if nI pd - nI rt < 0 then 0 else nI pd - nI rt) then nI ly else (if nI pd - nI rt < 0 then 0 else nI pd - nI rt)) = if nI rt < nI pd then nI pd - nI rt else 0 := by
  by_cases c : rt < pd
  · have e : nI pd - nI rt = nI (pd - rt) := pk_sub (by omega)
    have e1 : ¬ nI (pd - rt) < 0 := nI_pos (by omega)
    rw [e, if_neg e1, if_pos (nI_lt c (by omega)), if_neg (nI_nlt (by omega) (by omega))]
  · have e2 : (if nI pd - nI rt < 0 then 0 else nI pd - nI rt) = 0 := by
      by_cases c2 : nI pd - nI rt < 0
      · exact if_pos c2
      · rw [if_neg c2]
        have e3 := pk_sub_toInt (a := pd) (b := rt) (by omega) (by omega)
        rw [i32_lt, e3] at c2
        rw [i32_eq, e3]
        show (pd : Int) - rt = 0
        have c2 : ¬ (pd : Int) - rt < 0 := c2
        omega
    rw [e2, if_neg (nI_nlt (a := rt) (b := pd) (by omega) (by omega))]
    have e4 : ¬ nI ly < 0 := nI_pos (by omega)
    rw [if_neg e4]
theorem LSB.ne {A : Nat → Nat → Int32} {nF k j : Nat} {v : Int32} (h : LSB A nF) (hk : 18 ≠ k) : LSB (updA A k j v) nF := fun f hf q hq => by
  rw [updA_ne (Or.inl hk)]
  exact h f hf q hq
theorem nok {k : Nat} (hk : k < 100000) : (!decide (oI (some k) = -1)) = true := by
  rw [decide_eq_false (fun z => nI_pos (n := k) (by omega) (by rw [show nI k = -1 from z]; decide))]
  rfl
theorem dX9_complain_0 : decode cX9_complain 0 = .ok (.aload_n 0, 1) := by decide +kernel
theorem dX9_complain_1 : decode cX9_complain 1 = .ok (.iload_n 1, 1) := by decide +kernel
theorem dX9_complain_2 : decode cX9_complain 2 = .ok (.invokevirtual 161, 3) := by decide +kernel
theorem dX9_complain_5 : decode cX9_complain 5 = .ok (.astore_n 3, 1) := by decide +kernel
theorem dX9_complain_6 : decode cX9_complain 6 = .ok (.iload_n 2, 1) := by decide +kernel
theorem dX9_complain_7 : decode cX9_complain 7 = .ok (.invokestatic 181, 3) := by decide +kernel
theorem dX9_complain_10 : decode cX9_complain 10 = .ok (.aload_n 0, 1) := by decide +kernel
theorem dX9_complain_11 : decode cX9_complain 11 = .ok (.aload_n 3, 1) := by decide +kernel
theorem dX9_complain_12 : decode cX9_complain 12 = .ok (.iload_n 2, 1) := by decide +kernel
theorem dX9_complain_13 : decode cX9_complain 13 = .ok (.invokevirtual 190, 3) := by decide +kernel
theorem dX9_complain_16 : decode cX9_complain 16 = .ok (.astore 4, 2) := by decide +kernel
theorem dX9_complain_18 : decode cX9_complain 18 = .ok (.aload_n 0, 1) := by decide +kernel
theorem dX9_complain_19 : decode cX9_complain 19 = .ok (.getfield 43, 3) := by decide +kernel
theorem dX9_complain_22 : decode cX9_complain 22 = .ok (.iload_n 2, 1) := by decide +kernel
theorem dX9_complain_23 : decode cX9_complain 23 = .ok (.iaload, 1) := by decide +kernel
theorem dX9_complain_24 : decode cX9_complain 24 = .ok (.iconst (-1), 1) := by decide +kernel
theorem dX9_complain_25 : decode cX9_complain 25 = .ok (.if_icmp .eq 32, 3) := by decide +kernel
theorem dX9_complain_28 : decode cX9_complain 28 = .ok (.aload 4, 2) := by decide +kernel
theorem dX9_complain_30 : decode cX9_complain 30 = .ok (.ifnull 27, 3) := by decide +kernel
theorem dX9_complain_33 : decode cX9_complain 33 = .ok (.aload 4, 2) := by decide +kernel
theorem dX9_complain_35 : decode cX9_complain 35 = .ok (.getfield 262, 3) := by decide +kernel
theorem dX9_complain_38 : decode cX9_complain 38 = .ok (.ifCond .ne 19, 3) := by decide +kernel
theorem dX9_complain_41 : decode cX9_complain 41 = .ok (.aload_n 0, 1) := by decide +kernel
theorem dX9_complain_42 : decode cX9_complain 42 = .ok (.getfield 56, 3) := by decide +kernel
theorem dX9_complain_45 : decode cX9_complain 45 = .ok (.aload_n 0, 1) := by decide +kernel
theorem dX9_complain_46 : decode cX9_complain 46 = .ok (.getfield 43, 3) := by decide +kernel
theorem dX9_complain_49 : decode cX9_complain 49 = .ok (.iload_n 2, 1) := by decide +kernel
theorem dX9_complain_50 : decode cX9_complain 50 = .ok (.iaload, 1) := by decide +kernel
theorem dX9_complain_51 : decode cX9_complain 51 = .ok (.bipush 20, 2) := by decide +kernel
theorem dX9_complain_53 : decode cX9_complain 53 = .ok (.iadd, 1) := by decide +kernel
theorem dX9_complain_54 : decode cX9_complain 54 = .ok (.if_icmp .le 14, 3) := by decide +kernel
theorem dX9_complain_57 : decode cX9_complain 57 = .ok (.new 89, 3) := by decide +kernel
theorem dX9_complain_60 : decode cX9_complain 60 = .ok (.dup, 1) := by decide +kernel
theorem dX9_complain_61 : decode cX9_complain 61 = .ok (.ldc_w 266, 3) := by decide +kernel
theorem dX9_complain_64 : decode cX9_complain 64 = .ok (.invokespecial 93, 3) := by decide +kernel
theorem dX9_complain_67 : decode cX9_complain 67 = .ok (.athrow, 1) := by decide +kernel
theorem dX9_complain_68 : decode cX9_complain 68 = .ok (.aload 4, 2) := by decide +kernel
theorem dX9_complain_70 : decode cX9_complain 70 = .ok (.iconst 1, 1) := by decide +kernel
theorem dX9_complain_71 : decode cX9_complain 71 = .ok (.putfield 262, 3) := by decide +kernel
theorem dX9_complain_74 : decode cX9_complain 74 = .ok (.aload_n 0, 1) := by decide +kernel
theorem dX9_complain_75 : decode cX9_complain 75 = .ok (.aload_n 3, 1) := by decide +kernel
theorem dX9_complain_76 : decode cX9_complain 76 = .ok (.getfield 199, 3) := by decide +kernel
theorem dX9_complain_79 : decode cX9_complain 79 = .ok (.iload_n 2, 1) := by decide +kernel
theorem dX9_complain_80 : decode cX9_complain 80 = .ok (.invokevirtual 268, 3) := by decide +kernel
theorem dX9_complain_83 : decode cX9_complain 83 = .ok (.ireturn, 1) := by decide +kernel
set_option maxHeartbeats 1000000 in
set_option maxRecDepth 100000 in
theorem c_X9_complain (de : Nat) (w : Wd) (x : Nat) (A : Nat → Nat → Int32) (F : Nat → Int32) (nS nP nF nC tl : Nat) (ho cf cp cs sb pn : Nat → Nat) (dn : Nat → Nat → Nat) (ch : Nat → Nat → List (Nat × Int32)) (ca : Nat → Nat → Nat) (h : RC0 w de x A F nS nP nF nC tl ho cf cp cs sb pn dn ch ca) (hB : KB w nC A F ca) (T rt ly : Nat) (sN : Nat → Nat) (hv : PV A F nS nP nF nC tl ho cf cp cs sb pn dn ch T rt ly sN) (xa xe : Int32) (fi : Nat) (hfi : inR xa 0 (F 17 - 1) = true → xa = nI fi ∧ fi < nF) (se : Nat) (hse : inR xe 0 19 = true → xe = nI se ∧ se < 20) : Cw yX9_complain cX9_complain 5 (some .int) 7 116 5 30 de [.ref x, .int xa, .int xe] w (fun r w' => goV (bI (inR xa 0 (F 17 - 1) && inR xe 0 19)) (bI ((inR xa 0 (F 17 - 1) && inR xe 0 19) && (decide (0 < A 25 se) && (decide (F 0 ≤ A 25 se - 1 + 20) && (!decide ((oI (lastO (qF cf cs fi se) nC)) = -1) && decide (A 19 (20 * fi + se) = 0)))))) 1 = 0 ∧ r = some (.int ((lkR (updA A 19 (20 * fi + se) 1) cf cs ho (ho fi) se nC).2)) ∧ RC0 w' de x ((lkR (updA A 19 (20 * fi + se) 1) cf cs ho (ho fi) se nC).1) (F) nS nP nF nC tl ho cf cp cs sb pn dn ch ca ∧ KB w' nC ((lkR (updA A 19 (20 * fi + se) 1) cf cs ho (ho fi) se nC).1) (F) ca ∧ FrR w w') (fun E w' => w = w' ∧ ((E = "java/lang/IndexOutOfBoundsException" ∧ goV (bI (inR xa 0 (F 17 - 1) && inR xe 0 19)) (bI ((inR xa 0 (F 17 - 1) && inR xe 0 19) && (decide (0 < A 25 se) && (decide (F 0 ≤ A 25 se - 1 + 20) && (!decide ((oI (lastO (qF cf cs fi se) nC)) = -1) && decide (A 19 (20 * fi + se) = 0)))))) 1 = 1) ∨ (E = "java/lang/IllegalStateException" ∧ goV (bI (inR xa 0 (F 17 - 1) && inR xe 0 19)) (bI ((inR xa 0 (F 17 - 1) && inR xe 0 19) && (decide (0 < A 25 se) && (decide (F 0 ≤ A 25 se - 1 + 20) && (!decide ((oI (lastO (qF cf cs fi se) nC)) = -1) && decide (A 19 (20 * fi + se) = 0)))))) 1 = 2))) := by
  refine Cw.mk (by decide +kernel) [(0, .ref x), (1, .int xa), (2, .int xe)] rfl (Nat.le_of_ble_eq_true rfl) ?_
  intro p l e R s m args below meth c D cy z C ht
  obtain ⟨h60, h16, h5, hcv, hho⟩ := id hv.hcv
  have hfr : FrR w w := FrR.rf
  have hbk : Kp [2] w w := Kp.rf
  have hnS : nS < 100000 := by omega
  have hnP : nP < 100000 := by have := hv.hP6; omega
  have hnF : nF < 100000 := by omega
  have hnC : nC < 100000 := by omega
  refine g_aload_n C dX9_complain_0 rfl ?_
  refine g_iload_n C dX9_complain_1 rfl ?_
  refine gx_callV C cls_10 11 mt_X9_farmNumbered [.int xa] (c_X9_farmNumbered de w x A F nS nP nF nC tl ho cf cp cs sb pn dn ch ca h xa fi hv.hN hnF hfi) h.1.1 (by decide) k_569 rfl rfl (Nat.le_of_ble_eq_true rfl) (by decide) (by decide) (by decide) (by decide) dX9_complain_2 (fun E9 w9 hx9 => gx_out C ht (by decide) (by decide) ⟨hx9.2.1, Or.inl ⟨hx9.1, goV_1 (and_f1 hx9.2.2)⟩⟩) (fun r_2 w_2 hp_2 => ?_)
  obtain ⟨rfl, rfl, f_2⟩ := hp_2
  obtain ⟨rfl, hf5⟩ := hfi f_2
  refine g_astore_n C dX9_complain_5 (by decide) ?_
  refine g_iload_n C dX9_complain_6 rfl ?_
  refine gx_callS C mt_X9_testSeason [.int xe] (c_X9_testSeason de w xe) k_605 rfl rfl (Nat.le_of_ble_eq_true rfl) (by decide) (by decide) (by decide) (by decide) dX9_complain_7 (fun E9 w9 hx9 => gx_out C ht (by decide) (by decide) ⟨hx9.2.1, Or.inl ⟨hx9.1, goV_1 (and_f2 hx9.2.2)⟩⟩) (fun r_7 w_7 hp_7 => ?_)
  obtain ⟨rfl, rfl, f_7⟩ := hp_7
  obtain ⟨rfl, he5⟩ := hse f_7
  refine g_aload_n C dX9_complain_10 rfl ?_
  refine g_aload_n C dX9_complain_11 rfl ?_
  refine g_iload_n C dX9_complain_12 rfl ?_
  refine g_callV C cls_10 11 mt_X9_coverOf [.ref (ca 6 fi), .int (nI se)] (c_X9_coverOf de w x A F nS nP nF nC tl ho cf cp cs sb pn dn ch ca h hv.hcv hv.huq fi se hf5 he5) h.1.1 (by decide) k_617 rfl rfl (Nat.le_of_ble_eq_true rfl) (by decide) (by decide) (by decide) (by decide) dX9_complain_13 (fun r_13 w_13 hp_13 => ?_)
  obtain ⟨rfl, rfl⟩ := hp_13
  generalize hlo : (lastO (qF cf cs fi se) nC) = lo
  obtain ⟨t9, ht9, hs9⟩ := hv.hse se he5
  rcases lo with _ | k
  · have hdn : (oI (none : Option Nat) = -1) := rfl
    refine g_astoreN C dX9_complain_16 (by decide) ?_
    refine g_aload_n C dX9_complain_18 rfl ?_
    refine g_getR (b := (ca 9 8)) C cls_10 11 6 h.1.1 h.1.2.2.2.2.2.2.2.1 rfl k_142 dX9_complain_19 ?_
    refine g_iload_n C dX9_complain_22 rfl ?_
    refine g_iald C 1020 h.2.1.1 rfl (by rw [h.2.1.2.1]; exact nI_vp he5 (by omega)) dX9_complain_23 ?_
    rw [nI_tn (by omega), h.2.1.2.2 _ he5]
    refine g_iconst C (-1) dX9_complain_24 (by rfl) ?_
    refine g_icmp_eq C 57 dX9_complain_25 (by decide) (fun c_25 => ?_) (fun c_25 => ?_)
    · have b_25 := decide_eq_true c_25
      exact gx_throwW C ht th_X9_93 k_264 k_15 (is := 266) (text := "the farm can't complain about that season, or no more") (by decide) dX9_complain_57 dX9_complain_60 dX9_complain_61 dX9_complain_64 dX9_complain_67 (by decide) (Nat.le_of_ble_eq_true rfl) (by decide) (by decide) (by first | exact ⟨rfl, Or.inr (⟨rfl, goV_2 (and_t f_2 f_7) (and_f2 (and_f1 (decide_eq_false (fun z => (neT (hv.hse _ he5)).2.mp z ((neT (hv.hse _ he5)).1.mp c_25)))))⟩)⟩ | exact ⟨rfl, Or.inr (⟨rfl, goV_2 (and_t f_2 f_7) (and_f2 (and_f2 (and_f2 (and_f1 (by first | rfl | (rw [hlo]; rfl))))))⟩)⟩ | exact ⟨rfl, Or.inr (⟨rfl, goV_2 (and_t f_2 f_7) (and_f2 (and_f2 (and_f2 (and_f2 (decide_eq_false c_38)))))⟩)⟩ | exact ⟨rfl, Or.inr (⟨rfl, goV_2 (and_t f_2 f_7) (and_f2 (and_f2 (and_f1 b_54.2)))⟩)⟩)
    · have b_25 := decide_eq_false c_25
      refine g_aloadN C dX9_complain_28 rfl ?_
      refine g_ifnullN C 57 dX9_complain_30 (by decide) ?_
      exact gx_throwW C ht th_X9_93 k_264 k_15 (is := 266) (text := "the farm can't complain about that season, or no more") (by decide) dX9_complain_57 dX9_complain_60 dX9_complain_61 dX9_complain_64 dX9_complain_67 (by decide) (Nat.le_of_ble_eq_true rfl) (by decide) (by decide) (by first | exact ⟨rfl, Or.inr (⟨rfl, goV_2 (and_t f_2 f_7) (and_f2 (and_f1 (decide_eq_false (fun z => (neT (hv.hse _ he5)).2.mp z ((neT (hv.hse _ he5)).1.mp c_25)))))⟩)⟩ | exact ⟨rfl, Or.inr (⟨rfl, goV_2 (and_t f_2 f_7) (and_f2 (and_f2 (and_f2 (and_f1 (by first | rfl | (rw [hlo]; rfl))))))⟩)⟩ | exact ⟨rfl, Or.inr (⟨rfl, goV_2 (and_t f_2 f_7) (and_f2 (and_f2 (and_f2 (and_f2 (decide_eq_false c_38)))))⟩)⟩ | exact ⟨rfl, Or.inr (⟨rfl, goV_2 (and_t f_2 f_7) (and_f2 (and_f2 (and_f1 b_54.2)))⟩)⟩)
  · obtain ⟨hk, hqk⟩ := lastO_some hlo
    obtain ⟨hqf, hqs⟩ := qF_spec.mp hqk
    refine g_astore C dX9_complain_16 (by decide) ?_
    refine g_aload_n C dX9_complain_18 rfl ?_
    refine g_getR (b := (ca 9 8)) C cls_10 11 6 h.1.1 h.1.2.2.2.2.2.2.2.1 rfl k_142 dX9_complain_19 ?_
    refine g_iload_n C dX9_complain_22 rfl ?_
    refine g_iald C 1020 h.2.1.1 rfl (by rw [h.2.1.2.1]; exact nI_vp he5 (by omega)) dX9_complain_23 ?_
    rw [nI_tn (by omega), h.2.1.2.2 _ he5]
    refine g_iconst C (-1) dX9_complain_24 (by rfl) ?_
    refine g_icmp_eq C 57 dX9_complain_25 (by decide) (fun c_25 => ?_) (fun c_25 => ?_)
    · have b_25 := decide_eq_true c_25
      exact gx_throwW C ht th_X9_93 k_264 k_15 (is := 266) (text := "the farm can't complain about that season, or no more") (by decide) dX9_complain_57 dX9_complain_60 dX9_complain_61 dX9_complain_64 dX9_complain_67 (by decide) (Nat.le_of_ble_eq_true rfl) (by decide) (by decide) (by first | exact ⟨rfl, Or.inr (⟨rfl, goV_2 (and_t f_2 f_7) (and_f2 (and_f1 (decide_eq_false (fun z => (neT (hv.hse _ he5)).2.mp z ((neT (hv.hse _ he5)).1.mp c_25)))))⟩)⟩ | exact ⟨rfl, Or.inr (⟨rfl, goV_2 (and_t f_2 f_7) (and_f2 (and_f2 (and_f2 (and_f1 (by first | rfl | (rw [hlo]; rfl))))))⟩)⟩ | exact ⟨rfl, Or.inr (⟨rfl, goV_2 (and_t f_2 f_7) (and_f2 (and_f2 (and_f2 (and_f2 (decide_eq_false c_38)))))⟩)⟩ | exact ⟨rfl, Or.inr (⟨rfl, goV_2 (and_t f_2 f_7) (and_f2 (and_f2 (and_f1 b_54.2)))⟩)⟩)
    · have b_25 := decide_eq_false c_25
      refine g_aload C dX9_complain_28 rfl ?_
      refine g_ifnull C dX9_complain_30 ?_
      refine g_aload C dX9_complain_33 rfl ?_
      refine g_getI C cls_2 3 11 (h.2.2.2.2.2.2.1.2 k hk).1 rfl k_712 dX9_complain_35 ?_
      rw [(h.2.2.2.2.2.2.1.2 k hk).2.2.2.2.2.2.2.2.2.2.2.2, hqf, hqs]
      refine g_if_ne C 57 dX9_complain_38 (by decide) (fun c_38 => ?_) (fun c_38 => ?_)
      · have b_38 := decide_eq_false c_38
        exact gx_throwW C ht th_X9_93 k_264 k_15 (is := 266) (text := "the farm can't complain about that season, or no more") (by decide) dX9_complain_57 dX9_complain_60 dX9_complain_61 dX9_complain_64 dX9_complain_67 (by decide) (Nat.le_of_ble_eq_true rfl) (by decide) (by decide) (by first | exact ⟨rfl, Or.inr (⟨rfl, goV_2 (and_t f_2 f_7) (and_f2 (and_f1 (decide_eq_false (fun z => (neT (hv.hse _ he5)).2.mp z ((neT (hv.hse _ he5)).1.mp c_25)))))⟩)⟩ | exact ⟨rfl, Or.inr (⟨rfl, goV_2 (and_t f_2 f_7) (and_f2 (and_f2 (and_f2 (and_f1 (by first | rfl | (rw [hlo]; rfl))))))⟩)⟩ | exact ⟨rfl, Or.inr (⟨rfl, goV_2 (and_t f_2 f_7) (and_f2 (and_f2 (and_f2 (and_f2 (decide_eq_false c_38)))))⟩)⟩ | exact ⟨rfl, Or.inr (⟨rfl, goV_2 (and_t f_2 f_7) (and_f2 (and_f2 (and_f1 b_54.2)))⟩)⟩)
      · have b_38 := decide_eq_true c_38
        refine g_aload_n C dX9_complain_41 rfl ?_
        refine g_getI C cls_10 11 8 h.1.1 rfl k_144 dX9_complain_42 ?_
        rw [h.1.2.2.2.2.2.2.2.2.2.1]
        refine g_aload_n C dX9_complain_45 rfl ?_
        refine g_getR (b := (ca 9 8)) C cls_10 11 6 h.1.1 h.1.2.2.2.2.2.2.2.1 rfl k_142 dX9_complain_46 ?_
        refine g_iload_n C dX9_complain_49 rfl ?_
        refine g_iald C 1020 h.2.1.1 rfl (by rw [h.2.1.2.1]; exact nI_vp he5 (by omega)) dX9_complain_50 ?_
        rw [nI_tn (by omega), h.2.1.2.2 _ he5]
        refine g_bipush C 20 dX9_complain_51 (by rfl) ?_
        refine g_iadd C dX9_complain_53 ?_
        refine g_icmp_le C 68 dX9_complain_54 (by decide) (fun c_54 => ?_) (fun c_54 => ?_)
        · have b_54 := And.intro (decide_eq_false (Int32.not_lt.mpr c_54)) (decide_eq_true c_54)
          have hu9 : ∀ j, j < nC → j ≠ k → 20 * cf j + cs j ≠ 20 * cf k + cs k := fun j hj hne z => hne (hv.huq j k hj hk (by have := (hcv j hj).2.2.2; omega) (by have := (hcv j hj).2.2.2; omega))
          refine g_aload C dX9_complain_68 rfl ?_
          refine g_iconst C 1 dX9_complain_70 (by rfl) ?_
          refine g_putI C cls_2 3 11 (h.2.2.2.2.2.2.1.2 k hk).1 rfl (Or.inl rfl) rfl rfl k_712 dX9_complain_71 ?_
          replace hfr := hfr.tr (FrR.pI (h.2.2.2.2.2.2.1.2 k hk).1 (by decide) : FrR _ (pI w 3 11 (ca 8 k) 1))
          replace hbk := hbk.tr (Kp.pI (h.2.2.2.2.2.2.1.2 k hk).1 (by decide) : Kp [2] _ (pI w 3 11 (ca 8 k) 1))
          replace h := h.cov11 hk 1 hu9
          generalize pI w 3 11 (ca 8 k) 1 = w1 at h hfr hbk ⊢
          rw [hqf, hqs] at h
          refine g_aload_n C dX9_complain_74 rfl ?_
          refine g_aload_n C dX9_complain_75 rfl ?_
          refine g_getR (b := (ca 0 (ho fi))) C cls_3 4 1 (h.2.2.2.2.2.1.2 fi hf5).1 (h.2.2.2.2.2.1.2 fi hf5).2.2.1 rfl k_536 dX9_complain_76 ?_
          refine g_iload_n C dX9_complain_79 rfl ?_
          refine g_callV C cls_10 11 mt_X9_lookAgain [.ref (ca 0 (ho fi)), .int (nI se)] (c_X9_lookAgain de w1 x (updA A 19 (20 * fi + se) 1) F nS nP nF nC tl ho cf cp cs sb pn dn ch ca h (hv.hcv.upd (by decide) (Or.inl (by decide))) (hv.hls.ne (by decide)) (hB.mv hbk (updA_row (by decide)) rfl) (ho fi) se (hho fi hf5).2 he5) h.1.1 (by decide) k_797 rfl rfl (Nat.le_of_ble_eq_true rfl) (by decide) (by decide) (by decide) (by decide) dX9_complain_80 (fun r_80 w_80 hp_80 => ?_)
          obtain ⟨rfl, h, hfr2, hB2⟩ := hp_80
          refine gx_ret <| g_iret C rfl rfl (by decide) (by decide) dX9_complain_83 ?_
          exact ⟨goV_000 (and_t f_2 f_7) (and_t (and_t f_2 f_7) (and_t (decide_eq_true ((neT (hv.hse _ he5)).2.mpr (fun z => c_25 ((neT (hv.hse _ he5)).1.mpr z)))) (and_t b_54.2 (and_t (by first | exact nok (by omega) | (rw [hlo]; exact nok (by omega))) (decide_eq_true c_38))))), rfl, h, hB2, hfr.tr hfr2⟩
        · have b_54 := And.intro (decide_eq_true (Int32.not_le.mp c_54)) (decide_eq_false c_54)
          exact gx_throwW C ht th_X9_93 k_264 k_15 (is := 266) (text := "the farm can't complain about that season, or no more") (by decide) dX9_complain_57 dX9_complain_60 dX9_complain_61 dX9_complain_64 dX9_complain_67 (by decide) (Nat.le_of_ble_eq_true rfl) (by decide) (by decide) (by first | exact ⟨rfl, Or.inr (⟨rfl, goV_2 (and_t f_2 f_7) (and_f2 (and_f1 (decide_eq_false (fun z => (neT (hv.hse _ he5)).2.mp z ((neT (hv.hse _ he5)).1.mp c_25)))))⟩)⟩ | exact ⟨rfl, Or.inr (⟨rfl, goV_2 (and_t f_2 f_7) (and_f2 (and_f2 (and_f2 (and_f1 (by first | rfl | (rw [hlo]; rfl))))))⟩)⟩ | exact ⟨rfl, Or.inr (⟨rfl, goV_2 (and_t f_2 f_7) (and_f2 (and_f2 (and_f2 (and_f2 (decide_eq_false c_38)))))⟩)⟩ | exact ⟨rfl, Or.inr (⟨rfl, goV_2 (and_t f_2 f_7) (and_f2 (and_f2 (and_f1 b_54.2)))⟩)⟩)
theorem decI {a b : Nat} (ha : a < 1000000) (hb : b < 1000000) : decide (nI a ≤ nI b) = decide (a ≤ b) := decide_eq_decide.mpr (nI_leI (by omega) (by omega))
theorem sdF_TRB {A : Nat → Nat → Int32} {nF se : Nat} {cs sN rN : Nat → Nat} (h : TRB A nF) (i : Nat) : TRB (sdF cs se sN rN A i) nF := fun g hg => by
  rw [sdF_ne (Or.inl (by decide))]
  exact h g hg
theorem RC0.fe {w : Wd} {de x nS nP nF nC tl : Nat} {A : Nat → Nat → Int32} {F F1 : Nat → Int32} {ho cf cp cs sb pn : Nat → Nat} {dn : Nat → Nat → Nat} {ch : Nat → Nat → List (Nat × Int32)} {ca : Nat → Nat → Nat} (h : RC0 w de x A F nS nP nF nC tl ho cf cp cs sb pn dn ch ca) (e0 : F1 0 = F 0) (e20 : F1 20 = F 20) (e21 : F1 21 = F 21) (e22 : F1 22 = F 22) : RC0 w de x A F1 nS nP nF nC tl ho cf cp cs sb pn dn ch ca := ⟨h.1.mv Kp.rf e0 e20 e21 e22, h.2⟩
theorem dX9_settle_0 : decode cX9_settle 0 = .ok (.iload_n 1, 1) := by decide +kernel
theorem dX9_settle_1 : decode cX9_settle 1 = .ok (.invokestatic 181, 3) := by decide +kernel
theorem dX9_settle_4 : decode cX9_settle 4 = .ok (.aload_n 0, 1) := by decide +kernel
theorem dX9_settle_5 : decode cX9_settle 5 = .ok (.iload_n 1, 1) := by decide +kernel
theorem dX9_settle_6 : decode cX9_settle 6 = .ok (.invokevirtual 228, 3) := by decide +kernel
theorem dX9_settle_9 : decode cX9_settle 9 = .ok (.ifCond .eq 13, 3) := by decide +kernel
theorem dX9_settle_12 : decode cX9_settle 12 = .ok (.aload_n 0, 1) := by decide +kernel
theorem dX9_settle_13 : decode cX9_settle 13 = .ok (.getfield 43, 3) := by decide +kernel
theorem dX9_settle_16 : decode cX9_settle 16 = .ok (.iload_n 1, 1) := by decide +kernel
theorem dX9_settle_17 : decode cX9_settle 17 = .ok (.iaload, 1) := by decide +kernel
theorem dX9_settle_18 : decode cX9_settle 18 = .ok (.iconst (-1), 1) := by decide +kernel
theorem dX9_settle_19 : decode cX9_settle 19 = .ok (.if_icmp .eq 13, 3) := by decide +kernel
theorem dX9_settle_22 : decode cX9_settle 22 = .ok (.new 89, 3) := by decide +kernel
theorem dX9_settle_25 : decode cX9_settle 25 = .ok (.dup, 1) := by decide +kernel
theorem dX9_settle_26 : decode cX9_settle 26 = .ok (.ldc 231, 2) := by decide +kernel
theorem dX9_settle_28 : decode cX9_settle 28 = .ok (.invokespecial 93, 3) := by decide +kernel
theorem dX9_settle_31 : decode cX9_settle 31 = .ok (.athrow, 1) := by decide +kernel
theorem dX9_settle_32 : decode cX9_settle 32 = .ok (.aload_n 0, 1) := by decide +kernel
theorem dX9_settle_33 : decode cX9_settle 33 = .ok (.getfield 43, 3) := by decide +kernel
theorem dX9_settle_36 : decode cX9_settle 36 = .ok (.iload_n 1, 1) := by decide +kernel
theorem dX9_settle_37 : decode cX9_settle 37 = .ok (.aload_n 0, 1) := by decide +kernel
theorem dX9_settle_38 : decode cX9_settle 38 = .ok (.getfield 56, 3) := by decide +kernel
theorem dX9_settle_41 : decode cX9_settle 41 = .ok (.iastore, 1) := by decide +kernel
theorem dX9_settle_42 : decode cX9_settle 42 = .ok (.aload_n 0, 1) := by decide +kernel
theorem dX9_settle_43 : decode cX9_settle 43 = .ok (.iload_n 1, 1) := by decide +kernel
theorem dX9_settle_44 : decode cX9_settle 44 = .ok (.aload_n 0, 1) := by decide +kernel
theorem dX9_settle_45 : decode cX9_settle 45 = .ok (.iload_n 1, 1) := by decide +kernel
theorem dX9_settle_46 : decode cX9_settle 46 = .ok (.invokevirtual 233, 3) := by decide +kernel
theorem dX9_settle_49 : decode cX9_settle 49 = .ok (.invokevirtual 237, 3) := by decide +kernel
theorem dX9_settle_52 : decode cX9_settle 52 = .ok (.istore_n 2, 1) := by decide +kernel
theorem dX9_settle_53 : decode cX9_settle 53 = .ok (.aload_n 0, 1) := by decide +kernel
theorem dX9_settle_54 : decode cX9_settle 54 = .ok (.getfield 39, 3) := by decide +kernel
theorem dX9_settle_57 : decode cX9_settle 57 = .ok (.dup, 1) := by decide +kernel
theorem dX9_settle_58 : decode cX9_settle 58 = .ok (.getfield 240, 3) := by decide +kernel
theorem dX9_settle_61 : decode cX9_settle 61 = .ok (.iload_n 2, 1) := by decide +kernel
theorem dX9_settle_62 : decode cX9_settle 62 = .ok (.iadd, 1) := by decide +kernel
theorem dX9_settle_63 : decode cX9_settle 63 = .ok (.putfield 240, 3) := by decide +kernel
theorem dX9_settle_66 : decode cX9_settle 66 = .ok (.aload_n 0, 1) := by decide +kernel
theorem dX9_settle_67 : decode cX9_settle 67 = .ok (.getfield 39, 3) := by decide +kernel
theorem dX9_settle_70 : decode cX9_settle 70 = .ok (.dup, 1) := by decide +kernel
theorem dX9_settle_71 : decode cX9_settle 71 = .ok (.getfield 243, 3) := by decide +kernel
theorem dX9_settle_74 : decode cX9_settle 74 = .ok (.iload_n 2, 1) := by decide +kernel
theorem dX9_settle_75 : decode cX9_settle 75 = .ok (.aload_n 0, 1) := by decide +kernel
theorem dX9_settle_76 : decode cX9_settle 76 = .ok (.getfield 63, 3) := by decide +kernel
theorem dX9_settle_79 : decode cX9_settle 79 = .ok (.isub, 1) := by decide +kernel
theorem dX9_settle_80 : decode cX9_settle 80 = .ok (.iconst 0, 1) := by decide +kernel
theorem dX9_settle_81 : decode cX9_settle 81 = .ok (.invokestatic 246, 3) := by decide +kernel
theorem dX9_settle_84 : decode cX9_settle 84 = .ok (.aload_n 0, 1) := by decide +kernel
theorem dX9_settle_85 : decode cX9_settle 85 = .ok (.getfield 66, 3) := by decide +kernel
theorem dX9_settle_88 : decode cX9_settle 88 = .ok (.invokestatic 251, 3) := by decide +kernel
theorem dX9_settle_91 : decode cX9_settle 91 = .ok (.iadd, 1) := by decide +kernel
theorem dX9_settle_92 : decode cX9_settle 92 = .ok (.putfield 243, 3) := by decide +kernel
theorem dX9_settle_95 : decode cX9_settle 95 = .ok (.iload_n 2, 1) := by decide +kernel
theorem dX9_settle_96 : decode cX9_settle 96 = .ok (.ireturn, 1) := by decide +kernel
set_option maxHeartbeats 1000000 in
set_option maxRecDepth 100000 in
theorem c_X9_settle (de : Nat) (w : Wd) (x : Nat) (A : Nat → Nat → Int32) (F : Nat → Int32) (nS nP nF nC tl : Nat) (ho cf cp cs sb pn : Nat → Nat) (dn : Nat → Nat → Nat) (ch : Nat → Nat → List (Nat × Int32)) (ca : Nat → Nat → Nat) (h : RC0 w de x A F nS nP nF nC tl ho cf cp cs sb pn dn ch ca) (hB : KB w nC A F ca) (T rt ly : Nat) (sN : Nat → Nat) (hv : PV A F nS nP nF nC tl ho cf cp cs sb pn dn ch T rt ly sN) (xe : Int32) (se : Nat) (hse : inR xe 0 19 = true → xe = nI se ∧ se < 20) (rN : Nat → Nat) (hrN : ∀ k, k < nC → (se < 20 → ratC A nS ch (cp k) (pn (cp k)) (dn (cp k)) tl (ho (cf k)) se = nI (rN k)) ∧ rN k ≤ 1000) (htl : tl < 100000) : Cw yX9_settle cX9_settle 3 (some .int) 7 167 5 30 de [.ref x, .int xe] w (fun r w' => goV (bI (inR xe 0 19)) (bI (inR xe 0 19 && (decide ((se + 1) * 60 ≤ T) && decide (A 25 se = 0)))) 1 = 0 ∧ r = some (.int (nI (setR A (F 0) cf cs se sN rN rt ly nC).2)) ∧ ∃ sb', RC0 w' de x ((setR A (F 0) cf cs se sN rN rt ly nC).1) (updF F 27 (F 27 + (if nI rt < nI (setR A (F 0) cf cs se sN rN rt ly nC).2 then nI (setR A (F 0) cf cs se sN rN rt ly nC).2 - nI rt else 0))) nS nP nF nC tl ho cf cp cs sb' pn dn ch ca ∧ KB w' nC ((setR A (F 0) cf cs se sN rN rt ly nC).1) (updF F 27 (F 27 + (if nI rt < nI (setR A (F 0) cf cs se sN rN rt ly nC).2 then nI (setR A (F 0) cf cs se sN rN rt ly nC).2 - nI rt else 0))) ca ∧ FrR w w' ∧ ∀ j, j < nC → sb' j = if cs j = se then tl else sb j) (fun E w' => w = w' ∧ ((E = "java/lang/IndexOutOfBoundsException" ∧ goV (bI (inR xe 0 19)) (bI (inR xe 0 19 && (decide ((se + 1) * 60 ≤ T) && decide (A 25 se = 0)))) 1 = 1) ∨ (E = "java/lang/IllegalStateException" ∧ goV (bI (inR xe 0 19)) (bI (inR xe 0 19 && (decide ((se + 1) * 60 ≤ T) && decide (A 25 se = 0)))) 1 = 2))) := by
  refine Cw.mk (by decide +kernel) [(0, .ref x), (1, .int xe)] rfl (Nat.le_of_ble_eq_true rfl) ?_
  intro p l e R s m args below meth c D cy z C ht
  obtain ⟨h60, h16, h5, hcv, hho⟩ := id hv.hcv
  have hfr : FrR w w := FrR.rf
  have hbk : Kp [2] w w := Kp.rf
  have hnS : nS < 100000 := by omega
  have hnP : nP < 100000 := by have := hv.hP6; omega
  have hnF : nF < 100000 := by omega
  have hnC : nC < 100000 := by omega
  refine g_iload_n C dX9_settle_0 rfl ?_
  refine gx_callS C mt_X9_testSeason [.int xe] (c_X9_testSeason de w xe) k_605 rfl rfl (Nat.le_of_ble_eq_true rfl) (by decide) (by decide) (by decide) (by decide) dX9_settle_1 (fun E9 w9 hx9 => gx_out C ht (by decide) (by decide) ⟨hx9.2.1, Or.inl ⟨hx9.1, goV_1 hx9.2.2⟩⟩) (fun r_1 w_1 hp_1 => ?_)
  obtain ⟨rfl, rfl, f_1⟩ := hp_1
  obtain ⟨rfl, he5⟩ := hse f_1
  refine g_aload_n C dX9_settle_4 rfl ?_
  refine g_iload_n C dX9_settle_5 rfl ?_
  refine g_callV C cls_10 11 mt_X9_isOver [.int (nI se)] (c_X9_isOver de w x h.1.1 (nI se)) h.1.1 (by decide) k_627 rfl rfl (Nat.le_of_ble_eq_true rfl) (by decide) (by decide) (by decide) (by decide) dX9_settle_6 (fun r_6 w_6 hp_6 => ?_)
  obtain ⟨rfl, rfl⟩ := hp_6
  rw [show decide ((nI se + 1) * 60 ≤ fI w 11 8 x) = decide ((se + 1) * 60 ≤ T) by rw [h.1.2.2.2.2.2.2.2.2.2.1, hv.hT, nI_1, show nI (se + 1) * 60 = nI ((se + 1) * 60) from pk_mul _ 60, decI (by omega) (by have := hv.hT2; omega)]]
  refine g_if_eq C 22 dX9_settle_9 (by decide) (fun c_9 => ?_) (fun c_9 => ?_)
  · have b_9 := bI_0.mp c_9
    exact gx_throw C ht th_X9_93 k_264 k_15 (is := 231) (text := "the season is not over, or settled") (by decide) dX9_settle_22 dX9_settle_25 dX9_settle_26 dX9_settle_28 dX9_settle_31 (by decide) (Nat.le_of_ble_eq_true rfl) (by decide) (by decide) (by first | exact ⟨rfl, Or.inr (⟨rfl, goV_2 f_1 (and_f2 (and_f1 b_9))⟩)⟩ | exact ⟨rfl, Or.inr (⟨rfl, goV_2 f_1 (and_f2 (and_f2 (decide_eq_false (fun z => c_19 ((neT (hv.hse se he5)).1.mpr z)))))⟩)⟩)
  · have b_9 := bI_n0.mp c_9
    refine g_aload_n C dX9_settle_12 rfl ?_
    refine g_getR (b := (ca 9 8)) C cls_10 11 6 h.1.1 h.1.2.2.2.2.2.2.2.1 rfl k_142 dX9_settle_13 ?_
    refine g_iload_n C dX9_settle_16 rfl ?_
    refine g_iald C 1020 h.2.1.1 rfl (by rw [h.2.1.2.1]; exact nI_vp he5 (by omega)) dX9_settle_17 ?_
    rw [nI_tn (by omega), h.2.1.2.2 _ he5]
    refine g_iconst C (-1) dX9_settle_18 (by rfl) ?_
    refine g_icmp_eq C 32 dX9_settle_19 (by decide) (fun c_19 => ?_) (fun c_19 => ?_)
    · have b_19 := decide_eq_true c_19
      refine g_aload_n C dX9_settle_32 rfl ?_
      refine g_getR (b := (ca 9 8)) C cls_10 11 6 h.1.1 h.1.2.2.2.2.2.2.2.1 rfl k_142 dX9_settle_33 ?_
      refine g_iload_n C dX9_settle_36 rfl ?_
      refine g_aload_n C dX9_settle_37 rfl ?_
      refine g_getI C cls_10 11 8 h.1.1 rfl k_144 dX9_settle_38 ?_
      rw [h.1.2.2.2.2.2.2.2.2.2.1]
      refine g_iast C 1020 h.2.1.1 rfl (by rw [h.2.1.2.1]; exact nI_vp he5 (by omega)) dX9_settle_41 ?_
      rw [nI_tn (by omega), show pAI w 1020 (ca 9 8) se (F 0) = pAI w 1020 (ca 9 8) se (F 0 + 1 - 1) by rw [a11]]
      replace hfr := hfr.tr (FrR.pAI h.2.1.1 (by decide) : FrR _ (pAI w 1020 (ca 9 8) se (F 0 + 1 - 1)))
      replace hbk := hbk.tr (Kp.pAI h.2.1.1 (by decide) : Kp [2] _ (pAI w 1020 (ca 9 8) se (F 0 + 1 - 1)))
      replace h := h.sett (q := se) (F 0 + 1)
      generalize pAI w 1020 (ca 9 8) se (F 0 + 1 - 1) = w1 at h hfr hbk ⊢
      refine g_aload_n C dX9_settle_42 rfl ?_
      refine g_iload_n C dX9_settle_43 rfl ?_
      refine g_aload_n C dX9_settle_44 rfl ?_
      refine g_iload_n C dX9_settle_45 rfl ?_
      refine g_callV C cls_10 11 mt_X9_findDues [.int (nI se)] (c_X9_findDues de w1 x (updA A 25 se (F 0 + 1)) F nS nP nF nC tl ho cf cp cs sb pn dn ch ca h (hv.hcv.upd (by decide) (Or.inl (by decide))) se he5 sN rN (fun k hk => ⟨(hv.hco k hk).2.1, by rw [updA_row (by decide)]; exact (hv.hco k hk).2.2.1, (hv.hco k hk).2.2.2.2, by rw [← (hrN k hk).1 he5]; unfold ratC phA; rw [updA_row (by decide), updA_row (by decide), updA_row (by decide), updA_row (by decide)], (hrN k hk).2⟩) htl) h.1.1 (by decide) k_746 rfl rfl (Nat.le_of_ble_eq_true rfl) (by decide) (by decide) (by decide) (by decide) dX9_settle_46 (fun r_46 w_46 hp_46 => ?_)
      obtain ⟨rfl, sb1, h, hfr1, hbk1, hsb⟩ := hp_46
      replace hfr := hfr.tr hfr1
      replace hbk := hbk.tr hbk1
      refine g_callV C cls_10 11 mt_X9_payOut [.int (nI se), .int (nI (allN cs se (dvN sN rN) nC))] (c_X9_payOut de w_46 x (sdF cs se sN rN (updA A 25 se (F 0 + 1)) nC) F nS nP nF nC tl ho cf cp cs sb1 pn dn ch ca h (sdF_CVA (hv.hcv.upd (by decide) (Or.inl (by decide))) nC) (sdF_TRB (hv.htr.ne (by decide)) nC) se he5 (dvN sN rN) (fun k hk => ⟨(dv_le (hv.hco k hk).2.2.2.2 (hrN k hk).2).2, fun z => sdF_7 z nC hk⟩) (allN cs se (dvN sN rN) nC) rt ly (by have := allN_le (cs := cs) (se := se) (dv := dvN sN rN) (n := nC) (fun k hk => (dv_le (hv.hco k hk).2.2.2.2 (hrN k hk).2).2) nC (Nat.le_refl _); omega) hv.hrt hv.hly hv.hr9 hv.hl9) h.1.1 (by decide) k_754 rfl rfl (Nat.le_of_ble_eq_true rfl) (by decide) (by decide) (by decide) (by decide) dX9_settle_49 (fun r_49 w_49 hp_49 => ?_)
      obtain ⟨rfl, h, hfr2, hbk2⟩ := hp_49
      replace hfr := hfr.tr hfr2
      replace hbk := hbk.tr hbk2
      have hcap : (setR A (F 0) cf cs se sN rN rt ly nC).2 ≤ rt + ly := spF_cap
      have hz : ∀ k, k < nC → cs k = se → (sdF cs se sN rN (updA A 25 se (F 0 + 1)) nC) 23 (10 * k + 8) = 0 := fun k hk z => by
        rw [sdF_ne (by omega), updA_ne (Or.inl (by decide))]
        rcases (hv.hdu k hk).2 with q | q
        · exact q.2.2.2
        · exact absurd ((neT (hv.hse se he5)).1.mp c_19) (by rw [← z]; exact q.1)
      have hsum := spF_sum (cf := cf) (dv := dvN sN rN) (cap := rt + ly) (all := (allN cs se (dvN sN rN) nC)) hz nC (Nat.le_refl _)
      rw [sumS_ext (f := fun k => (sdF cs se sN rN (updA A 25 se (F 0 + 1)) nC) 23 (10 * k + 8)) (g := fun k => A 23 (10 * k + 8)) nC (fun k hk => (sdF_ne (by omega) nC).trans (updA_ne (Or.inl (by decide))))] at hsum
      have hr4 : ∀ q, q % 10 ≠ 6 ∧ q % 10 ≠ 7 ∧ q % 10 ≠ 8 ∧ q % 10 ≠ 9 → (setR A (F 0) cf cs se sN rN rt ly nC).1 23 q = A 23 q := fun q hq => (spF_ne (by omega) nC).trans ((sdF_ne (by omega) nC).trans (updA_ne (Or.inl (by decide))))
      change RC0 _ de x (setR A (F 0) cf cs se sN rN rt ly nC).1 F nS nP nF nC tl ho cf cp cs sb1 pn dn ch ca at h
      change _ = _ + nI (setR A (F 0) cf cs se sN rN rt ly nC).2 at hsum
      change sumS (fun k => (setR A (F 0) cf cs se sN rN rt ly nC).1 23 (10 * k + 8)) nC = _ at hsum
      rw [show (spF cf cs se (dvN sN rN) (rt + ly) (allN cs se (dvN sN rN) nC) (sdF cs se sN rN (updA A 25 se (F 0 + 1)) nC) nC) = (setR A (F 0) cf cs se sN rN rt ly nC) from rfl]
      generalize (setR A (F 0) cf cs se sN rN rt ly nC) = rr at h hcap hsum hr4 ⊢
      have hb8 := hbk (ca 9 7) (by rw [hB.1]; decide)
      have hb9 := hb8.1.trans hB.1
      refine g_istore_n C dX9_settle_52 (by decide) ?_
      refine g_aload_n C dX9_settle_53 rfl ?_
      refine g_getR (b := (ca 9 7)) C cls_10 11 5 h.1.1 h.1.2.2.2.2.2.2.1 rfl k_141 dX9_settle_54 ?_
      refine g_dup C dX9_settle_57 rfl ?_
      refine g_getI C cls_1 2 2 hb9 rfl k_100 dX9_settle_58 ?_
      rw [(hb8.2.2.1 2 2).trans hB.2.2.2.1]
      refine g_iload_n C dX9_settle_61 rfl ?_
      refine g_iadd C dX9_settle_62 ?_
      refine g_putI C cls_1 2 2 hb9 rfl (Or.inl rfl) rfl rfl k_100 dX9_settle_63 ?_
      have e0 : fI (pI w_49 2 2 (ca 9 7) (sumS (fun k => A 23 (10 * k + 8)) nC + nI rr.2)) 2 0 (ca 9 7) = _ := (fI_y (by decide)).trans ((hb8.2.2.1 2 0).trans hB.2.1)
      have e1 : fI (pI w_49 2 2 (ca 9 7) (sumS (fun k => A 23 (10 * k + 8)) nC + nI rr.2)) 2 1 (ca 9 7) = _ := (fI_y (by decide)).trans ((hb8.2.2.1 2 1).trans hB.2.2.1)
      have e2 : fI (pI w_49 2 2 (ca 9 7) (sumS (fun k => A 23 (10 * k + 8)) nC + nI rr.2)) 2 2 (ca 9 7) = _ := fI_pI
      have e3 : fI (pI w_49 2 2 (ca 9 7) (sumS (fun k => A 23 (10 * k + 8)) nC + nI rr.2)) 2 3 (ca 9 7) = F 27 := (fI_y (by decide)).trans ((hb8.2.2.1 2 3).trans hB.2.2.2.2)
      replace hfr := hfr.tr (FrR.pI hb9 (by decide) : FrR _ (pI w_49 2 2 (ca 9 7) (sumS (fun k => A 23 (10 * k + 8)) nC + nI rr.2)))
      replace h := h.book hb9 2 (sumS (fun k => A 23 (10 * k + 8)) nC + nI rr.2)
      replace hb9 : kd (pI w_49 2 2 (ca 9 7) (sumS (fun k => A 23 (10 * k + 8)) nC + nI rr.2)) (ca 9 7) = 2 := hb9
      clear hb8 hbk hbk1 hbk2 hfr1 hfr2
      generalize (pI w_49 2 2 (ca 9 7) (sumS (fun k => A 23 (10 * k + 8)) nC + nI rr.2)) = w2 at h hfr e0 e1 e2 e3 hb9 ⊢
      refine g_aload_n C dX9_settle_66 rfl ?_
      refine g_getR (b := (ca 9 7)) C cls_10 11 5 h.1.1 h.1.2.2.2.2.2.2.1 rfl k_141 dX9_settle_67 ?_
      refine g_dup C dX9_settle_70 rfl ?_
      refine g_getI C cls_1 2 3 hb9 rfl k_102 dX9_settle_71 ?_
      rw [e3]
      refine g_iload_n C dX9_settle_74 rfl ?_
      refine g_aload_n C dX9_settle_75 rfl ?_
      refine g_getI C cls_10 11 10 h.1.1 rfl k_146 dX9_settle_76 ?_
      rw [h.1.2.2.2.2.2.2.2.2.2.2.2.1, hv.hrt]
      refine g_isub C dX9_settle_79 ?_
      refine g_iconst C 0 dX9_settle_80 (by rfl) ?_
      refine g_max C k_776 k_329 k_18 k_330 (by decide) (Nat.le_of_ble_eq_true rfl) (by decide) (by decide) dX9_settle_81 ?_
      refine g_aload_n C dX9_settle_84 rfl ?_
      refine g_getI C cls_10 11 11 h.1.1 rfl k_147 dX9_settle_85 ?_
      rw [h.1.2.2.2.2.2.2.2.2.2.2.2.2, hv.hly]
      refine g_min C k_686 k_364 k_18 k_365 (by decide) (Nat.le_of_ble_eq_true rfl) (by decide) (by decide) dX9_settle_88 ?_
      rw [carr hcap hv.hr9 hv.hl9]
      refine g_iadd C dX9_settle_91 ?_
      refine g_putI C cls_1 2 3 hb9 rfl (Or.inl rfl) rfl rfl k_102 dX9_settle_92 ?_
      refine g_iload_n C dX9_settle_95 rfl ?_
      refine gx_ret <| g_iret C rfl rfl (by decide) (by decide) dX9_settle_96 ?_
      refine ⟨goV_000 f_1 (and_t f_1 (and_t b_9 (decide_eq_true ((neT (hv.hse se he5)).1.mp c_19)))), rfl, sb1, (h.book hb9 3 (F 27 + (if nI rt < nI rr.2 then nI rr.2 - nI rt else 0))).fe (if_neg (by decide)) (if_neg (by decide)) (if_neg (by decide)) (if_neg (by decide)), ⟨hb9, ?_, ?_, ?_, ?_⟩, hfr.tr (FrR.pI hb9 (by decide)), hsb⟩
      · rw [fI_y (by decide), e0]
        exact sumS_ext nC (fun k hk => (hr4 _ (by omega)).symm)
      · rw [fI_y (by decide), e1]
        exact sumS_ext nC (fun k hk => (hr4 _ (by omega)).symm)
      · rw [fI_y (by decide), e2]
        exact hsum.symm
      · exact fI_pI.trans (if_pos rfl).symm
    · have b_19 := decide_eq_false c_19
      exact gx_throw C ht th_X9_93 k_264 k_15 (is := 231) (text := "the season is not over, or settled") (by decide) dX9_settle_22 dX9_settle_25 dX9_settle_26 dX9_settle_28 dX9_settle_31 (by decide) (Nat.le_of_ble_eq_true rfl) (by decide) (by decide) (by first | exact ⟨rfl, Or.inr (⟨rfl, goV_2 f_1 (and_f2 (and_f1 b_9))⟩)⟩ | exact ⟨rfl, Or.inr (⟨rfl, goV_2 f_1 (and_f2 (and_f2 (decide_eq_false (fun z => c_19 ((neT (hv.hse se he5)).1.mpr z)))))⟩)⟩)
end PUB42
