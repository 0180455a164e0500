section REF17
theorem less_m {x y : Int32} : (if x < y then x else y) = if y < x then y else x := by
  by_cases h : x < y
  · rw [if_pos h, if_neg (fun z => by rw [i32_lt] at h z; omega)]
  · by_cases h2 : y < x
    · rw [if_neg h, if_pos h2]
    · rw [if_neg h, if_neg h2, i32_eq]
      rw [i32_lt] at h h2
      omega
def rrow (w : Wd) (ad : Nat → Nat) (nS : Nat) (kn : Int32) (se s0 : Nat) : Nat → Int32 := fun j => rrV nS (aI w 2010 (ad 1)) (aI w 2020 (ad 2)) (aI w 2040 (ad 4)) (aI w 2050 (ad 5)) kn (60 * se + j) s0
/-- the reference's rate of product pr for a season at a station -/
def rrat (w : Wd) (ad : Nat → Nat) (nS pr n : Nat) (dN : Nat → Nat) (s0 se : Nat) : Int32 := rateV (rrow w ad nS (aI w 2090 (ad 9) pr) se s0) n dN (phV w ad pr 1) (phV w ad pr 2) (phV w ad pr 3) (phV w ad pr 4)
theorem dX10_rateOf_0 : decode cX10_rateOf 0 = .ok (.aload_n 0, 1) := by decide +kernel
theorem dX10_rateOf_1 : decode cX10_rateOf 1 = .ok (.iload_n 1, 1) := by decide +kernel
theorem dX10_rateOf_2 : decode cX10_rateOf 2 = .ok (.iload_n 2, 1) := by decide +kernel
theorem dX10_rateOf_3 : decode cX10_rateOf 3 = .ok (.aload_n 0, 1) := by decide +kernel
theorem dX10_rateOf_4 : decode cX10_rateOf 4 = .ok (.getfield 28, 3) := by decide +kernel
theorem dX10_rateOf_7 : decode cX10_rateOf 7 = .ok (.iload_n 3, 1) := by decide +kernel
theorem dX10_rateOf_8 : decode cX10_rateOf 8 = .ok (.iaload, 1) := by decide +kernel
theorem dX10_rateOf_9 : decode cX10_rateOf 9 = .ok (.invokevirtual 119, 3) := by decide +kernel
theorem dX10_rateOf_12 : decode cX10_rateOf 12 = .ok (.iconst 0, 1) := by decide +kernel
theorem dX10_rateOf_13 : decode cX10_rateOf 13 = .ok (.istore 4, 2) := by decide +kernel
theorem dX10_rateOf_15 : decode cX10_rateOf 15 = .ok (.iconst 0, 1) := by decide +kernel
theorem dX10_rateOf_16 : decode cX10_rateOf 16 = .ok (.istore 5, 2) := by decide +kernel
theorem dX10_rateOf_18 : decode cX10_rateOf 18 = .ok (.iload 5, 2) := by decide +kernel
theorem dX10_rateOf_20 : decode cX10_rateOf 20 = .ok (.aload_n 0, 1) := by decide +kernel
theorem dX10_rateOf_21 : decode cX10_rateOf 21 = .ok (.getfield 25, 3) := by decide +kernel
theorem dX10_rateOf_24 : decode cX10_rateOf 24 = .ok (.iload_n 3, 1) := by decide +kernel
theorem dX10_rateOf_25 : decode cX10_rateOf 25 = .ok (.iaload, 1) := by decide +kernel
theorem dX10_rateOf_26 : decode cX10_rateOf 26 = .ok (.if_icmp .ge 40, 3) := by decide +kernel
theorem dX10_rateOf_29 : decode cX10_rateOf 29 = .ok (.iload 4, 2) := by decide +kernel
theorem dX10_rateOf_31 : decode cX10_rateOf 31 = .ok (.aload_n 0, 1) := by decide +kernel
theorem dX10_rateOf_32 : decode cX10_rateOf 32 = .ok (.iload_n 3, 1) := by decide +kernel
theorem dX10_rateOf_33 : decode cX10_rateOf 33 = .ok (.iload 5, 2) := by decide +kernel
theorem dX10_rateOf_35 : decode cX10_rateOf 35 = .ok (.invokevirtual 134, 3) := by decide +kernel
theorem dX10_rateOf_38 : decode cX10_rateOf 38 = .ok (.aload_n 0, 1) := by decide +kernel
theorem dX10_rateOf_39 : decode cX10_rateOf 39 = .ok (.getfield 22, 3) := by decide +kernel
theorem dX10_rateOf_42 : decode cX10_rateOf 42 = .ok (.iconst 5, 1) := by decide +kernel
theorem dX10_rateOf_43 : decode cX10_rateOf 43 = .ok (.iconst 3, 1) := by decide +kernel
theorem dX10_rateOf_44 : decode cX10_rateOf 44 = .ok (.iload_n 3, 1) := by decide +kernel
theorem dX10_rateOf_45 : decode cX10_rateOf 45 = .ok (.imul, 1) := by decide +kernel
theorem dX10_rateOf_46 : decode cX10_rateOf 46 = .ok (.iload 5, 2) := by decide +kernel
theorem dX10_rateOf_48 : decode cX10_rateOf 48 = .ok (.iadd, 1) := by decide +kernel
theorem dX10_rateOf_49 : decode cX10_rateOf 49 = .ok (.imul, 1) := by decide +kernel
theorem dX10_rateOf_50 : decode cX10_rateOf 50 = .ok (.iconst 4, 1) := by decide +kernel
theorem dX10_rateOf_51 : decode cX10_rateOf 51 = .ok (.iadd, 1) := by decide +kernel
theorem dX10_rateOf_52 : decode cX10_rateOf 52 = .ok (.iaload, 1) := by decide +kernel
theorem dX10_rateOf_53 : decode cX10_rateOf 53 = .ok (.imul, 1) := by decide +kernel
theorem dX10_rateOf_54 : decode cX10_rateOf 54 = .ok (.bipush 100, 2) := by decide +kernel
theorem dX10_rateOf_56 : decode cX10_rateOf 56 = .ok (.idiv, 1) := by decide +kernel
theorem dX10_rateOf_57 : decode cX10_rateOf 57 = .ok (.iadd, 1) := by decide +kernel
theorem dX10_rateOf_58 : decode cX10_rateOf 58 = .ok (.istore 4, 2) := by decide +kernel
theorem dX10_rateOf_60 : decode cX10_rateOf 60 = .ok (.iinc 5 1, 3) := by decide +kernel
theorem dX10_rateOf_63 : decode cX10_rateOf 63 = .ok (.goto (-45), 3) := by decide +kernel
theorem dX10_rateOf_66 : decode cX10_rateOf 66 = .ok (.iload 4, 2) := by decide +kernel
theorem dX10_rateOf_68 : decode cX10_rateOf 68 = .ok (.sipush 1000, 3) := by decide +kernel
theorem dX10_rateOf_71 : decode cX10_rateOf 71 = .ok (.invokestatic 137, 3) := by decide +kernel
theorem dX10_rateOf_74 : decode cX10_rateOf 74 = .ok (.ireturn, 1) := by decide +kernel
set_option maxHeartbeats 4000000 in
set_option maxRecDepth 100000 in
theorem c_X10_rateOf (de : Nat) (w : Wd) (mo : Nat) (ad : Nat → Nat) (hm : RM w mo ad) (nS s0 : Nat) (hS : fI w 12 3 mo = nI nS) (hn5 : nS ≤ 5) (hs : s0 < nS) (pr n : Nat) (dN : Nat → Nat) (hpr : pr < 7) (hp : RPH w ad pr n dN) (se : Nat) (hse : se < 20) (hsz : aI w 2080 (ad 8) pr = nI n) : Ct yX10_rateOf cX10_rateOf 6 (some .int) 4 100 0 0 de [.ref mo, .int (nI s0), .int (nI se), .int (nI pr)] w (fun r w' => r = some (.int (rrat w ad nS pr n dN s0 se)) ∧ ∃ g, w' = stR w 2280 (ad 28) g) := by
  refine Ct.mk (by decide +kernel) [(0, .ref mo), (1, .int (nI s0)), (2, .int (nI se)), (3, .int (nI pr))] rfl (Nat.le_of_ble_eq_true rfl) ?_
  intro p l e R s m args below meth c D cy z C hnm
  have hn3 := hp.1
  have loop : ∀ g : Nat → Int32, (∀ j, j < 60 → g j = rrow w ad nS (aI w 2090 (ad 9) pr) se s0 j) → ∀ (k i : Nat), i + k = n → G p l e R s m args below meth c D cy z 6 (stR w 2280 (ad 28) g) 0 0 18 [(0, .ref mo), (1, .int (nI s0)), (2, .int (nI se)), (3, .int (nI pr)), (4, .int (ratV (aI (stR w 2280 (ad 28) g) 2280 (ad 28)) dN (phV w ad pr 1) (phV w ad pr 2) (phV w ad pr 3) (phV w ad pr 4) i)), (5, .int (nI i))] [] (QM below args s D cy z (fun r w' => r = some (.int (rrat w ad nS pr n dN s0 se)) ∧ ∃ g, w' = stR w 2280 (ad 28) g) 0 0) := by
    intro g hg
    intro k
    induction k with
    | zero =>
      intro i hik
      have hi9 : i = n := by omega
      refine g_iload C dX10_rateOf_18 rfl ?_
      refine g_aload_n C dX10_rateOf_20 rfl ?_
      refine g_getR (b := (ad 8)) C cls_11 12 8 hm.1 (rm_8 hm).1 rfl k_923 dX10_rateOf_21 ?_
      refine g_iload_n C dX10_rateOf_24 rfl ?_
      refine g_iald C 2080 (rm_8 hm).2.1 rfl (show vp_in (nI pr) (aL w (ad 8)) by rw [(rm_8 hm).2.2]; exact nI_vp (show pr < 7 by omega) (by omega)) dX10_rateOf_25 ?_
      rw [nI_tn (by omega), show aI (stR w 2280 (ad 28) g) 2080 (ad 8) pr = nI n from hsz]
      refine g_icmp_ge C 66 dX10_rateOf_26 (by decide) (fun c_26 => ?_) (fun c_26 => ?_)
      · rw [hi9]
        refine g_iload C dX10_rateOf_66 rfl ?_
        refine g_sipush C 1000 dX10_rateOf_68 (by rfl) ?_
        refine g_callS C mt_X10_lesser [.int (ratV (aI (stR w 2280 (ad 28) g) 2280 (ad 28)) dN (phV w ad pr 1) (phV w ad pr 2) (phV w ad pr 3) (phV w ad pr 4) n), .int 1000] (c_X10_lesser de (stR w 2280 (ad 28) g) (ratV (aI (stR w 2280 (ad 28) g) 2280 (ad 28)) dN (phV w ad pr 1) (phV w ad pr 2) (phV w ad pr 3) (phV w ad pr 4) n) 1000) k_1100 rfl rfl (Nat.le_of_ble_eq_true rfl) (by decide) (by decide) (by decide) (by decide) dX10_rateOf_71 (fun r_71 w_71 hp_71 => ?_)
        obtain ⟨rfl, rfl⟩ := hp_71
        refine g_iret C rfl rfl (by decide) (by decide) dX10_rateOf_74 ?_
        refine ⟨congrArg (fun v => some (Value.int v)) ?_, g, rfl⟩
        rw [show (if ratV (aI (stR w 2280 (ad 28) g) 2280 (ad 28)) dN (phV w ad pr 1) (phV w ad pr 2) (phV w ad pr 3) (phV w ad pr 4) n < 1000 then ratV (aI (stR w 2280 (ad 28) g) 2280 (ad 28)) dN (phV w ad pr 1) (phV w ad pr 2) (phV w ad pr 3) (phV w ad pr 4) n else 1000) = rateV (aI (stR w 2280 (ad 28) g) 2280 (ad 28)) n dN (phV w ad pr 1) (phV w ad pr 2) (phV w ad pr 3) (phV w ad pr 4) from less_m]
        rw [stR_at]
        exact rateV_congr hg
      · exact absurd (nI_nle_of c_26 (by omega) (by omega)) (by omega)
    | succ k ih =>
      intro i hik
      refine g_iload C dX10_rateOf_18 rfl ?_
      refine g_aload_n C dX10_rateOf_20 rfl ?_
      refine g_getR (b := (ad 8)) C cls_11 12 8 hm.1 (rm_8 hm).1 rfl k_923 dX10_rateOf_21 ?_
      refine g_iload_n C dX10_rateOf_24 rfl ?_
      refine g_iald C 2080 (rm_8 hm).2.1 rfl (show vp_in (nI pr) (aL w (ad 8)) by rw [(rm_8 hm).2.2]; exact nI_vp (show pr < 7 by omega) (by omega)) dX10_rateOf_25 ?_
      rw [nI_tn (by omega), show aI (stR w 2280 (ad 28) g) 2080 (ad 8) pr = nI n from hsz]
      refine g_icmp_ge C 66 dX10_rateOf_26 (by decide) (fun c_26 => ?_) (fun c_26 => ?_)
      · exact absurd (nI_le_of c_26 (by omega) (by omega)) (by omega)
      · refine g_iload C dX10_rateOf_29 rfl ?_
        refine g_aload_n C dX10_rateOf_31 rfl ?_
        refine g_iload_n C dX10_rateOf_32 rfl ?_
        refine g_iload C dX10_rateOf_33 rfl ?_
        refine g_callV C cls_11 12 mt_X10_pays [.int (nI pr), .int (nI i)] (c_X10_pays de (stR w 2280 (ad 28) g) mo ad hm pr n dN hpr hp i (by omega)) hm.1 (by decide) k_1096 rfl rfl (Nat.le_of_ble_eq_true rfl) (by decide) (by decide) (by decide) (by decide) dX10_rateOf_35 (fun r_35 w_35 hp_35 => ?_)
        obtain ⟨rfl, rfl⟩ := hp_35
        refine g_aload_n C dX10_rateOf_38 rfl ?_
        refine g_getR (b := (ad 7)) C cls_11 12 7 hm.1 (rm_7 hm).1 rfl k_922 dX10_rateOf_39 ?_
        refine g_iconst C 5 dX10_rateOf_42 (by rfl) ?_
        refine g_iconst C 3 dX10_rateOf_43 (by rfl) ?_
        refine g_iload_n C dX10_rateOf_44 rfl ?_
        refine g_imul C dX10_rateOf_45 ?_
        refine g_iload C dX10_rateOf_46 rfl ?_
        refine g_iadd C dX10_rateOf_48 ?_
        refine g_imul C dX10_rateOf_49 ?_
        refine g_iconst C 4 dX10_rateOf_50 (by rfl) ?_
        refine g_iadd C dX10_rateOf_51 ?_
        rw [ix5, show nI (5 * (3 * pr + i)) + 4 = nI (5 * (3 * pr + i) + 4) from nI_add _ 4]
        refine g_iald C 2070 (rm_7 hm).2.1 rfl (show vp_in (nI (5 * (3 * pr + i) + 4)) (aL w (ad 7)) by rw [(rm_7 hm).2.2]; exact nI_vp (show 5 * (3 * pr + i) + 4 < 105 by omega) (by omega)) dX10_rateOf_52 ?_
        rw [nI_tn (by omega)]
        refine g_imul C dX10_rateOf_53 ?_
        refine g_bipush C 100 dX10_rateOf_54 (by rfl) ?_
        refine g_idiv C dX10_rateOf_56 (by decide) ?_
        refine g_iadd C dX10_rateOf_57 ?_
        refine g_istore C dX10_rateOf_58 (by decide) ?_
        refine g_iinc C dX10_rateOf_60 rfl (nI_1 i) (by decide) ?_
        refine g_goto C 18 dX10_rateOf_63 (by decide) ?_
        have h9 := ih (i + 1) (by omega)
        exact g_lv2 [(0, .ref mo), (1, .int (nI s0)), (2, .int (nI se)), (3, .int (nI pr)), (4, .int (ratV (aI (stR w 2280 (ad 28) g) 2280 (ad 28)) dN (phV w ad pr 1) (phV w ad pr 2) (phV w ad pr 3) (phV w ad pr 4) (i + 1))), (5, .int (nI (i + 1)))] rfl h9
  refine g_aload_n C dX10_rateOf_0 rfl ?_
  refine g_iload_n C dX10_rateOf_1 rfl ?_
  refine g_iload_n C dX10_rateOf_2 rfl ?_
  refine g_aload_n C dX10_rateOf_3 rfl ?_
  refine g_getR (b := (ad 9)) C cls_11 12 9 hm.1 (rm_9 hm).1 rfl k_924 dX10_rateOf_4 ?_
  refine g_iload_n C dX10_rateOf_7 rfl ?_
  refine g_iald C 2090 (rm_9 hm).2.1 rfl (by rw [(rm_9 hm).2.2]; exact nI_vp (show pr < 7 by omega) (by omega)) dX10_rateOf_8 ?_
  rw [nI_tn (by omega)]
  refine g_callV C cls_11 12 mt_X10_lays [.int (nI s0), .int (nI se), .int (aI w 2090 (ad 9) pr)] (c_X10_lays de w mo ad hm nS s0 se (aI w 2090 (ad 9) pr) hS hn5 hs hse) hm.1 (by decide) k_1056 rfl rfl (Nat.le_of_ble_eq_true rfl) (by decide) (by decide) (by decide) (by decide) dX10_rateOf_9 (fun r_9 w_9 hp_9 => ?_)
  obtain ⟨rfl, g, rfl, hg⟩ := hp_9
  refine g_iconst C 0 dX10_rateOf_12 (by rfl) ?_
  refine g_istore C dX10_rateOf_13 (by decide) ?_
  refine g_iconst C 0 dX10_rateOf_15 (by rfl) ?_
  refine g_istore C dX10_rateOf_16 (by decide) ?_
  exact g_lv2 [(0, .ref mo), (1, .int (nI s0)), (2, .int (nI se)), (3, .int (nI pr)), (4, .int (ratV (aI (stR w 2280 (ad 28) g) 2280 (ad 28)) dN (phV w ad pr 1) (phV w ad pr 2) (phV w ad pr 3) (phV w ad pr 4) 0)), (5, .int (nI 0))] rfl (loop g hg n 0 (by omega))
theorem dX10_isOver_0 : decode cX10_isOver 0 = .ok (.aload_n 0, 1) := by decide +kernel
theorem dX10_isOver_1 : decode cX10_isOver 1 = .ok (.getfield 103, 3) := by decide +kernel
theorem dX10_isOver_4 : decode cX10_isOver 4 = .ok (.bipush 60, 2) := by decide +kernel
theorem dX10_isOver_6 : decode cX10_isOver 6 = .ok (.iload_n 1, 1) := by decide +kernel
theorem dX10_isOver_7 : decode cX10_isOver 7 = .ok (.imul, 1) := by decide +kernel
theorem dX10_isOver_8 : decode cX10_isOver 8 = .ok (.bipush 60, 2) := by decide +kernel
theorem dX10_isOver_10 : decode cX10_isOver 10 = .ok (.iadd, 1) := by decide +kernel
theorem dX10_isOver_11 : decode cX10_isOver 11 = .ok (.if_icmp .lt 7, 3) := by decide +kernel
theorem dX10_isOver_14 : decode cX10_isOver 14 = .ok (.iconst 1, 1) := by decide +kernel
theorem dX10_isOver_15 : decode cX10_isOver 15 = .ok (.goto 4, 3) := by decide +kernel
theorem dX10_isOver_18 : decode cX10_isOver 18 = .ok (.iconst 0, 1) := by decide +kernel
theorem dX10_isOver_19 : decode cX10_isOver 19 = .ok (.ireturn, 1) := by decide +kernel
set_option maxHeartbeats 4000000 in
set_option maxRecDepth 100000 in
theorem c_X10_isOver (de : Nat) (w : Wd) (mo : Nat) (ad : Nat → Nat) (hm : RM w mo ad) (i T : Nat) (hi : i ≤ 20) (hT : fI w 12 0 mo = nI T) (hT2 : T < 1200) : Ct yX10_isOver cX10_isOver 2 (some .boolean) 0 0 0 0 de [.ref mo, .int (nI i)] w (fun r w' => r = some (.int (bI (decide ((i + 1) * 60 ≤ T)))) ∧ w = w') := by
  refine Ct.mk (by decide +kernel) [(0, .ref mo), (1, .int (nI i))] rfl (Nat.le_of_ble_eq_true rfl) ?_
  intro p l e R s m args below meth c D cy z C hnm
  refine g_aload_n C dX10_isOver_0 rfl ?_
  refine g_getI C cls_11 12 0 hm.1 rfl k_915 dX10_isOver_1 ?_
  refine g_bipush C 60 dX10_isOver_4 (by rfl) ?_
  refine g_iload_n C dX10_isOver_6 rfl ?_
  refine g_imul C dX10_isOver_7 ?_
  refine g_bipush C 60 dX10_isOver_8 (by rfl) ?_
  refine g_iadd C dX10_isOver_10 ?_
  rw [show (60 : Int32) * nI i + 60 = nI ((i + 1) * 60) by rw [show (60 : Int32) = nI 60 from rfl, pk_mul, nI_add, show 60 * i + 60 = (i + 1) * 60 by omega], hT]
  refine g_icmp_lt C 18 dX10_isOver_11 (by decide) (fun c_11 => ?_) (fun c_11 => ?_)
  · refine g_iconst C 0 dX10_isOver_18 (by rfl) ?_
    refine g_iret C rfl rfl (by decide) (by decide) dX10_isOver_19 ?_
    first
    | exact ⟨congrArg (fun v => some (Value.int v)) (by rw [decide_eq_true (p := (i + 1) * 60 ≤ T) (nI_nlt_of c_11 (by omega) (by omega))]; rfl), rfl⟩
    | exact ⟨congrArg (fun v => some (Value.int v)) (by rw [decide_eq_false (p := (i + 1) * 60 ≤ T) (by have := nI_lt_of c_11 (by omega) (by omega); omega)]; rfl), rfl⟩
  · refine g_iconst C 1 dX10_isOver_14 (by rfl) ?_
    refine g_goto C 19 dX10_isOver_15 (by decide) ?_
    refine g_iret C rfl rfl (by decide) (by decide) dX10_isOver_19 ?_
    first
    | exact ⟨congrArg (fun v => some (Value.int v)) (by rw [decide_eq_true (p := (i + 1) * 60 ≤ T) (nI_nlt_of c_11 (by omega) (by omega))]; rfl), rfl⟩
    | exact ⟨congrArg (fun v => some (Value.int v)) (by rw [decide_eq_false (p := (i + 1) * 60 ≤ T) (by have := nI_lt_of c_11 (by omega) (by omega); omega)]; rfl), rfl⟩
theorem dX10_pricedOf_0 : decode cX10_pricedOf 0 = .ok (.iconst 0, 1) := by decide +kernel
theorem dX10_pricedOf_1 : decode cX10_pricedOf 1 = .ok (.istore_n 3, 1) := by decide +kernel
theorem dX10_pricedOf_2 : decode cX10_pricedOf 2 = .ok (.iconst 0, 1) := by decide +kernel
theorem dX10_pricedOf_3 : decode cX10_pricedOf 3 = .ok (.istore 4, 2) := by decide +kernel
theorem dX10_pricedOf_5 : decode cX10_pricedOf 5 = .ok (.iconst 0, 1) := by decide +kernel
theorem dX10_pricedOf_6 : decode cX10_pricedOf 6 = .ok (.istore 5, 2) := by decide +kernel
theorem dX10_pricedOf_8 : decode cX10_pricedOf 8 = .ok (.iload 5, 2) := by decide +kernel
theorem dX10_pricedOf_10 : decode cX10_pricedOf 10 = .ok (.bipush 20, 2) := by decide +kernel
theorem dX10_pricedOf_12 : decode cX10_pricedOf 12 = .ok (.if_icmp .ge 32, 3) := by decide +kernel
theorem dX10_pricedOf_15 : decode cX10_pricedOf 15 = .ok (.aload_n 0, 1) := by decide +kernel
theorem dX10_pricedOf_16 : decode cX10_pricedOf 16 = .ok (.iload 5, 2) := by decide +kernel
theorem dX10_pricedOf_18 : decode cX10_pricedOf 18 = .ok (.invokevirtual 146, 3) := by decide +kernel
theorem dX10_pricedOf_21 : decode cX10_pricedOf 21 = .ok (.ifCond .eq 23, 3) := by decide +kernel
theorem dX10_pricedOf_24 : decode cX10_pricedOf 24 = .ok (.iload_n 3, 1) := by decide +kernel
theorem dX10_pricedOf_25 : decode cX10_pricedOf 25 = .ok (.aload_n 0, 1) := by decide +kernel
theorem dX10_pricedOf_26 : decode cX10_pricedOf 26 = .ok (.iload_n 1, 1) := by decide +kernel
theorem dX10_pricedOf_27 : decode cX10_pricedOf 27 = .ok (.iload 5, 2) := by decide +kernel
theorem dX10_pricedOf_29 : decode cX10_pricedOf 29 = .ok (.iload_n 2, 1) := by decide +kernel
theorem dX10_pricedOf_30 : decode cX10_pricedOf 30 = .ok (.invokevirtual 143, 3) := by decide +kernel
theorem dX10_pricedOf_33 : decode cX10_pricedOf 33 = .ok (.iadd, 1) := by decide +kernel
theorem dX10_pricedOf_34 : decode cX10_pricedOf 34 = .ok (.istore_n 3, 1) := by decide +kernel
theorem dX10_pricedOf_35 : decode cX10_pricedOf 35 = .ok (.iinc 4 1, 3) := by decide +kernel
theorem dX10_pricedOf_38 : decode cX10_pricedOf 38 = .ok (.iinc 5 1, 3) := by decide +kernel
theorem dX10_pricedOf_41 : decode cX10_pricedOf 41 = .ok (.goto (-33), 3) := by decide +kernel
theorem dX10_pricedOf_44 : decode cX10_pricedOf 44 = .ok (.iload 4, 2) := by decide +kernel
theorem dX10_pricedOf_46 : decode cX10_pricedOf 46 = .ok (.ifCond .ne 8, 3) := by decide +kernel
theorem dX10_pricedOf_49 : decode cX10_pricedOf 49 = .ok (.bipush 100, 2) := by decide +kernel
theorem dX10_pricedOf_51 : decode cX10_pricedOf 51 = .ok (.goto 7, 3) := by decide +kernel
theorem dX10_pricedOf_54 : decode cX10_pricedOf 54 = .ok (.iload_n 3, 1) := by decide +kernel
theorem dX10_pricedOf_55 : decode cX10_pricedOf 55 = .ok (.iload 4, 2) := by decide +kernel
theorem dX10_pricedOf_57 : decode cX10_pricedOf 57 = .ok (.idiv, 1) := by decide +kernel
theorem dX10_pricedOf_58 : decode cX10_pricedOf 58 = .ok (.ireturn, 1) := by decide +kernel
set_option maxHeartbeats 4000000 in
set_option maxRecDepth 100000 in
theorem c_X10_pricedOf (de : Nat) (w : Wd) (mo : Nat) (ad : Nat → Nat) (hm : RM w mo ad) (nS s0 : Nat) (hS : fI w 12 3 mo = nI nS) (hn5 : nS ≤ 5) (hs : s0 < nS) (pr n : Nat) (dN : Nat → Nat) (hpr : pr < 7) (hp : RPH w ad pr n dN) (T : Nat) (hT : fI w 12 0 mo = nI T) (hT2 : T < 1200) (hsz : aI w 2080 (ad 8) pr = nI n) : Ct yX10_pricedOf cX10_pricedOf 6 (some .int) 5 125 0 0 de [.ref mo, .int (nI s0), .int (nI pr)] w (fun r w' => r = some (.int (prcV (rrat w ad nS pr n dN s0) (T / 60))) ∧ ∃ g, w' = stR w 2280 (ad 28) g) := by
  refine Ct.mk (by decide +kernel) [(0, .ref mo), (1, .int (nI s0)), (2, .int (nI pr))] rfl (Nat.le_of_ble_eq_true rfl) ?_
  intro p l e R s m args below meth c D cy z C hnm
  obtain ⟨rt, hrt⟩ : ∃ rt : Nat → Int32, ∀ se, rt se = rrat w ad nS pr n dN s0 se := ⟨_, fun _ => rfl⟩
  rw [show (rrat w ad nS pr n dN s0) = rt from funext fun se => (hrt se).symm]
  obtain ⟨M, hM⟩ : ∃ M : Nat, M = T / 60 := ⟨_, rfl⟩
  have loop : ∀ (k i : Nat) (g : Nat → Int32), i + k = M → G p l e R s m args below meth c D cy z 6 (stR w 2280 (ad 28) g) 0 0 8 [(0, .ref mo), (1, .int (nI s0)), (2, .int (nI pr)), (3, .int (sumS rt i)), (4, .int (nI i)), (5, .int (nI i))] [] (QM below args s D cy z (fun r w' => r = some (.int (prcV rt (T / 60))) ∧ ∃ g, w' = stR w 2280 (ad 28) g) 0 0) := by
    intro k
    induction k with
    | zero =>
      intro i g hik
      refine g_iload C dX10_pricedOf_8 rfl ?_
      refine g_bipush C 20 dX10_pricedOf_10 (by rfl) ?_
      refine g_icmp_ge C 44 dX10_pricedOf_12 (by decide) (fun c_12 => ?_) (fun c_12 => ?_)
      · refine g_iload C dX10_pricedOf_44 rfl ?_
        refine g_if_ne C 54 dX10_pricedOf_46 (by decide) (fun c_46 => ?_) (fun c_46 => ?_)
        · refine g_iload_n C dX10_pricedOf_54 rfl ?_
          refine g_iload C dX10_pricedOf_55 rfl ?_
          refine g_idiv C dX10_pricedOf_57 (fun z => c_46 z) ?_
          refine g_iret C rfl rfl (by decide) (by decide) dX10_pricedOf_58 ?_
          first
          | exact ⟨congrArg (fun v => some (Value.int v)) (by have e9 : i = 0 := by { by_cases e8 : i = 0; exact e8; exact absurd c_46 (nI_ne0 (by omega) (by omega)) }; rw [prcV, if_pos (by omega)]), g, rfl⟩
          | exact ⟨congrArg (fun v => some (Value.int v)) (by have e9 : ¬ T / 60 = 0 := fun z => c_46 (by rw [show i = 0 by omega]; rfl); rw [prcV, if_neg e9, ← hM, show i = M by omega]), g, rfl⟩
        · refine g_bipush C 100 dX10_pricedOf_49 (by rfl) ?_
          refine g_goto C 58 dX10_pricedOf_51 (by decide) ?_
          refine g_iret C rfl rfl (by decide) (by decide) dX10_pricedOf_58 ?_
          first
          | exact ⟨congrArg (fun v => some (Value.int v)) (by have e9 : i = 0 := by { by_cases e8 : i = 0; exact e8; exact absurd c_46 (nI_ne0 (by omega) (by omega)) }; rw [prcV, if_pos (by omega)]), g, rfl⟩
          | exact ⟨congrArg (fun v => some (Value.int v)) (by have e9 : ¬ T / 60 = 0 := fun z => c_46 (by rw [show i = 0 by omega]; rfl); rw [prcV, if_neg e9, ← hM, show i = M by omega]), g, rfl⟩
      · refine g_aload_n C dX10_pricedOf_15 rfl ?_
        refine g_iload C dX10_pricedOf_16 rfl ?_
        refine g_callV C cls_11 12 mt_X10_isOver [.int (nI i)] (c_X10_isOver de (stR w 2280 (ad 28) g) mo ad hm i T (by omega) hT hT2) hm.1 (by decide) k_1111 rfl rfl (Nat.le_of_ble_eq_true rfl) (by decide) (by decide) (by decide) (by decide) dX10_pricedOf_18 (fun r_18 w_18 hp_18 => ?_)
        obtain ⟨rfl, rfl⟩ := hp_18
        refine g_if_eq C 44 dX10_pricedOf_21 (by decide) (fun c_21 => ?_) (fun c_21 => ?_)
        · refine g_iload C dX10_pricedOf_44 rfl ?_
          refine g_if_ne C 54 dX10_pricedOf_46 (by decide) (fun c_46 => ?_) (fun c_46 => ?_)
          · refine g_iload_n C dX10_pricedOf_54 rfl ?_
            refine g_iload C dX10_pricedOf_55 rfl ?_
            refine g_idiv C dX10_pricedOf_57 (fun z => c_46 z) ?_
            refine g_iret C rfl rfl (by decide) (by decide) dX10_pricedOf_58 ?_
            first
            | exact ⟨congrArg (fun v => some (Value.int v)) (by have e9 : i = 0 := by { by_cases e8 : i = 0; exact e8; exact absurd c_46 (nI_ne0 (by omega) (by omega)) }; rw [prcV, if_pos (by omega)]), g, rfl⟩
            | exact ⟨congrArg (fun v => some (Value.int v)) (by have e9 : ¬ T / 60 = 0 := fun z => c_46 (by rw [show i = 0 by omega]; rfl); rw [prcV, if_neg e9, ← hM, show i = M by omega]), g, rfl⟩
          · refine g_bipush C 100 dX10_pricedOf_49 (by rfl) ?_
            refine g_goto C 58 dX10_pricedOf_51 (by decide) ?_
            refine g_iret C rfl rfl (by decide) (by decide) dX10_pricedOf_58 ?_
            first
            | exact ⟨congrArg (fun v => some (Value.int v)) (by have e9 : i = 0 := by { by_cases e8 : i = 0; exact e8; exact absurd c_46 (nI_ne0 (by omega) (by omega)) }; rw [prcV, if_pos (by omega)]), g, rfl⟩
            | exact ⟨congrArg (fun v => some (Value.int v)) (by have e9 : ¬ T / 60 = 0 := fun z => c_46 (by rw [show i = 0 by omega]; rfl); rw [prcV, if_neg e9, ← hM, show i = M by omega]), g, rfl⟩
        · exact absurd (of_decide_eq_true (bI_n0.mp c_21)) (by omega)
    | succ k ih =>
      intro i g hik
      refine g_iload C dX10_pricedOf_8 rfl ?_
      refine g_bipush C 20 dX10_pricedOf_10 (by rfl) ?_
      refine g_icmp_ge C 44 dX10_pricedOf_12 (by decide) (fun c_12 => ?_) (fun c_12 => ?_)
      · first
        | exact absurd (nI_le_of (a := 20) c_12 (by omega) (by omega)) (by omega)
        | exact absurd (of_decide_eq_false (bI_0.mp c_21)) (by omega)
      · refine g_aload_n C dX10_pricedOf_15 rfl ?_
        refine g_iload C dX10_pricedOf_16 rfl ?_
        refine g_callV C cls_11 12 mt_X10_isOver [.int (nI i)] (c_X10_isOver de (stR w 2280 (ad 28) g) mo ad hm i T (by omega) hT hT2) hm.1 (by decide) k_1111 rfl rfl (Nat.le_of_ble_eq_true rfl) (by decide) (by decide) (by decide) (by decide) dX10_pricedOf_18 (fun r_18 w_18 hp_18 => ?_)
        obtain ⟨rfl, rfl⟩ := hp_18
        refine g_if_eq C 44 dX10_pricedOf_21 (by decide) (fun c_21 => ?_) (fun c_21 => ?_)
        · first
          | exact absurd (nI_le_of (a := 20) c_12 (by omega) (by omega)) (by omega)
          | exact absurd (of_decide_eq_false (bI_0.mp c_21)) (by omega)
        · refine g_iload_n C dX10_pricedOf_24 rfl ?_
          refine g_aload_n C dX10_pricedOf_25 rfl ?_
          refine g_iload_n C dX10_pricedOf_26 rfl ?_
          refine g_iload C dX10_pricedOf_27 rfl ?_
          refine g_iload_n C dX10_pricedOf_29 rfl ?_
          refine g_callV C cls_11 12 mt_X10_rateOf [.int (nI s0), .int (nI i), .int (nI pr)] (c_X10_rateOf de (stR w 2280 (ad 28) g) mo ad hm nS s0 hS hn5 hs pr n dN hpr hp i (by omega) hsz) hm.1 (by decide) k_1092 rfl rfl (Nat.le_of_ble_eq_true rfl) (by decide) (by decide) (by decide) (by decide) dX10_pricedOf_30 (fun r_30 w_30 hp_30 => ?_)
          obtain ⟨rfl, g1, rfl⟩ := hp_30
          rw [show rrat (stR w 2280 (ad 28) g) ad nS pr n dN s0 i = rt i from (hrt i).symm]
          refine g_iadd C dX10_pricedOf_33 ?_
          refine g_istore_n C dX10_pricedOf_34 (by decide) ?_
          refine g_iinc C dX10_pricedOf_35 rfl (nI_1 i) (by decide) ?_
          refine g_iinc C dX10_pricedOf_38 rfl (nI_1 i) (by decide) ?_
          refine g_goto C 8 dX10_pricedOf_41 (by decide) ?_
          have h9 := ih (i + 1) g1 (by omega)
          refine g_eq rfl rfl (w' := stR w 2280 (ad 28) g1) ?_ ?_
          · exact stR_stR
          · exact g_lv2 [(0, .ref mo), (1, .int (nI s0)), (2, .int (nI pr)), (3, .int (sumS rt (i + 1))), (4, .int (nI (i + 1))), (5, .int (nI (i + 1)))] rfl h9
  refine g_iconst C 0 dX10_pricedOf_0 (by rfl) ?_
  refine g_istore_n C dX10_pricedOf_1 (by decide) ?_
  refine g_iconst C 0 dX10_pricedOf_2 (by rfl) ?_
  refine g_istore C dX10_pricedOf_3 (by decide) ?_
  refine g_iconst C 0 dX10_pricedOf_5 (by rfl) ?_
  refine g_istore C dX10_pricedOf_6 (by decide) ?_
  refine g_eq rfl rfl (w' := stR w 2280 (ad 28) (aI w 2280 (ad 28))) stR_self.symm ?_
  exact g_lv2 [(0, .ref mo), (1, .int (nI s0)), (2, .int (nI pr)), (3, .int (sumS rt 0)), (4, .int (nI 0)), (5, .int (nI 0))] rfl (loop M 0 _ (by omega))
end REF17
