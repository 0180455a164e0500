section MAKE30
def truK (t lo paid : Int32) : Int32 := if 0 < paid then (if 100 < t + 10 then 100 else t + 10) else if 30 < lo then (if t - 20 < 0 then 0 else t - 20) else t
theorem pI_self {w : Wd} {K k a : Nat} : pI w K k a (fI w K k a) = w := by
  have e : up3 w.2.1 K k a (fI w K k a) = w.2.1 := by
    funext x y z
    by_cases h : x = K ∧ y = k ∧ z = a
    · obtain ⟨rfl, rfl, rfl⟩ := h
      exact up3_same
    · exact if_neg h
  show (w.1, up3 w.2.1 K k a (fI w K k a), w.2.2) = w
  rw [e]
theorem swq {q j : Nat} (hq : q < 100000) (h : (nI q).toInt = (j : Int)) : q = j := by rw [nI_toInt (by omega)] at h; omega
theorem swn {q j : Nat} (hq : q < 100000) (h : ¬ (nI q).toInt = (j : Int)) : q ≠ j := by rw [nI_toInt (by omega)] at h; omega
theorem nI_leB {a b : Nat} (h : nI a ≤ nI b) (ha : a < 1000000) (hb : b < 1000000) : a ≤ b := (nI_leI (by omega) (by omega)).mp h
theorem nI_nleB {a b : Nat} (h : ¬ nI a ≤ nI b) (ha : a < 1000000) (hb : b < 1000000) : b < a := Nat.not_le.mp (fun z => h ((nI_leI (by omega) (by omega)).mpr z))
theorem nI_div {a d : Nat} (ha : a < 1000000000) (h0 : 0 < d) (hd : d < 1000000) : nI a / nI d = nI (a / d) := pk_div (by omega) h0 (by omega)
theorem dX8_init_0 : decode cX8_init 0 = .ok (.aload_n 0, 1) := by decide +kernel
theorem dX8_init_1 : decode cX8_init 1 = .ok (.invokespecial 3, 3) := by decide +kernel
theorem dX8_init_4 : decode cX8_init 4 = .ok (.aload_n 0, 1) := by decide +kernel
theorem dX8_init_5 : decode cX8_init 5 = .ok (.new 9, 3) := by decide +kernel
theorem dX8_init_8 : decode cX8_init 8 = .ok (.dup, 1) := by decide +kernel
theorem dX8_init_9 : decode cX8_init 9 = .ok (.invokespecial 11, 3) := by decide +kernel
theorem dX8_init_12 : decode cX8_init 12 = .ok (.putfield 12, 3) := by decide +kernel
theorem dX8_init_15 : decode cX8_init 15 = .ok (.aload_n 0, 1) := by decide +kernel
theorem dX8_init_16 : decode cX8_init 16 = .ok (.iconst 0, 1) := by decide +kernel
theorem dX8_init_17 : decode cX8_init 17 = .ok (.putfield 18, 3) := by decide +kernel
theorem dX8_init_20 : decode cX8_init 20 = .ok (.return_, 1) := by decide +kernel
set_option maxHeartbeats 1000000 in
set_option maxRecDepth 100000 in
theorem c_X8_init (de : Nat) (w : Wd) (a : Nat)  (ha : kd w a = 10) : Ct yX8_init cX8_init 1 none 4 80 1 3 de [.ref a] w (fun r w' => r = none ∧ ∃ sl : Nat, kd w sl = 0 ∧ sl ≠ de ∧ (∀ b, kd w b ≠ 0 → b ≠ a → SmA w w' b) ∧ kd w' a = 10 ∧ fR w' 10 0 a = some sl ∧ fI w' 10 1 a = 0 ∧ (∀ el, RLs w' de 81 1013 sl 0 el) ∧ fR w' 81 1 sl = some de) := by
  refine Ct.mk (by decide +kernel) [(0, .ref a)] rfl (Nat.le_of_ble_eq_true rfl) ?_
  intro p l e R s m args below meth c D cy z C hnm
  refine g_aload_n C dX8_init_0 rfl ?_
  refine g_objInit C k_40 k_33 k_34 (Nat.le_of_ble_eq_true rfl) (by decide) dX8_init_1 ?_
  refine g_aload_n C dX8_init_4 rfl ?_
  refine g_new C cls_0 dv_0 81 rfl k_41 k_42 k_5 (by decide) (by decide) dX8_init_5 (fun sl hsl => ?_)
  intro hde
  have ha1 : kd (nw w sl 81 0) a = 10 := kd_nw ha (by decide) hsl
  have has := nw_ne ha (by decide) hsl
  refine g_dup C dX8_init_8 rfl ?_
  refine g_callI C mt_Jx4a65c_init_da8c8 [] (c_Jx4a65c_init_da8c8 de _ 81 1013 KL_st sl nw_kd0) k_43 rfl rfl (Nat.le_of_ble_eq_true rfl) (by decide) (by decide) (by decide) (by decide) dX8_init_9 (fun r_9 w_9 hp_9 => ?_)
  obtain ⟨rfl, rfl⟩ := hp_9
  refine g_putR C cls_9 10 0 (some sl) rfl (by first | exact ha | exact ha1) rfl (Or.inr ⟨rfl, hnm, rfl⟩) rfl rfl k_67 dX8_init_12 ?_
  refine g_aload_n C dX8_init_15 rfl ?_
  refine g_iconst C 0 dX8_init_16 (by rfl) ?_
  refine g_putI C cls_9 10 1 (by first | exact ha | exact ha1) rfl (Or.inl rfl) rfl rfl k_69 dX8_init_17 ?_
  refine g_vret C rfl (by decide) (by decide) dX8_init_20 ?_
  refine ⟨rfl, sl, hsl, hde, fun b hb hba => ?_, ha1, by simp [fI, fR, pI, pR, up3, kd, nw, va_up, has, has.symm], by simp [fI, fR, pI, pR, up3, kd, nw, va_up, has, has.symm], fun el => RLs_0 (nw_kd0 (w := w) (n := 0)) (by simp [fI, fR, pI, pR, up3, kd, nw, va_up, has, has.symm]) (by simp [fI, fR, pI, pR, up3, kd, nw, va_up, has, has.symm]), by simp [fI, fR, pI, pR, up3, kd, nw, va_up, has, has.symm]⟩
  have hbl : b ≠ sl := fun z => hb (by rw [z]; assumption)
  repeat (first | exact SmA.rf | refine SmA.tr ?_ (SmA.pI hba) | refine SmA.tr ?_ (SmA.pR hba) | refine SmA.tr ?_ (SmA.pI hbl) | refine SmA.tr ?_ (SmA.pR hbl) | refine SmA.tr ?_ (SmA.nw hbl))
theorem dX4_init_0 : decode cX4_init 0 = .ok (.aload_n 0, 1) := by decide +kernel
theorem dX4_init_1 : decode cX4_init 1 = .ok (.invokespecial 3, 3) := by decide +kernel
theorem dX4_init_4 : decode cX4_init 4 = .ok (.aload_n 0, 1) := by decide +kernel
theorem dX4_init_5 : decode cX4_init 5 = .ok (.new 9, 3) := by decide +kernel
theorem dX4_init_8 : decode cX4_init 8 = .ok (.dup, 1) := by decide +kernel
theorem dX4_init_9 : decode cX4_init 9 = .ok (.invokespecial 11, 3) := by decide +kernel
theorem dX4_init_12 : decode cX4_init 12 = .ok (.putfield 12, 3) := by decide +kernel
theorem dX4_init_15 : decode cX4_init 15 = .ok (.aload_n 0, 1) := by decide +kernel
theorem dX4_init_16 : decode cX4_init 16 = .ok (.iconst 0, 1) := by decide +kernel
theorem dX4_init_17 : decode cX4_init 17 = .ok (.putfield 18, 3) := by decide +kernel
theorem dX4_init_20 : decode cX4_init 20 = .ok (.aload_n 0, 1) := by decide +kernel
theorem dX4_init_21 : decode cX4_init 21 = .ok (.iload_n 1, 1) := by decide +kernel
theorem dX4_init_22 : decode cX4_init 22 = .ok (.putfield 22, 3) := by decide +kernel
theorem dX4_init_25 : decode cX4_init 25 = .ok (.return_, 1) := by decide +kernel
set_option maxHeartbeats 1000000 in
set_option maxRecDepth 100000 in
theorem c_X4_init (de : Nat) (w : Wd) (a : Nat) (num : Int32) (ha : kd w a = 6) : Ct yX4_init cX4_init 2 none 4 80 1 3 de [.ref a, .int num] w (fun r w' => r = none ∧ ∃ sl : Nat, kd w sl = 0 ∧ sl ≠ de ∧ (∀ b, kd w b ≠ 0 → b ≠ a → SmA w w' b) ∧ kd w' a = 6 ∧ fR w' 6 1 a = some sl ∧ fI w' 6 2 a = 0 ∧ fI w' 6 0 a = num ∧ (∀ el, RLs w' de 101 1053 sl 0 el) ∧ fR w' 101 1 sl = some de) := by
  refine Ct.mk (by decide +kernel) [(0, .ref a), (1, .int num)] rfl (Nat.le_of_ble_eq_true rfl) ?_
  intro p l e R s m args below meth c D cy z C hnm
  refine g_aload_n C dX4_init_0 rfl ?_
  refine g_objInit C k_117 k_33 k_34 (Nat.le_of_ble_eq_true rfl) (by decide) dX4_init_1 ?_
  refine g_aload_n C dX4_init_4 rfl ?_
  refine g_new C cls_0 dv_0 101 rfl k_118 k_42 k_5 (by decide) (by decide) dX4_init_5 (fun sl hsl => ?_)
  intro hde
  have ha1 : kd (nw w sl 101 0) a = 6 := kd_nw ha (by decide) hsl
  have has := nw_ne ha (by decide) hsl
  refine g_dup C dX4_init_8 rfl ?_
  refine g_callI C mt_Jx4a65c_init_da8c8 [] (c_Jx4a65c_init_da8c8 de _ 101 1053 KL_ph sl nw_kd0) k_119 rfl rfl (Nat.le_of_ble_eq_true rfl) (by decide) (by decide) (by decide) (by decide) dX4_init_9 (fun r_9 w_9 hp_9 => ?_)
  obtain ⟨rfl, rfl⟩ := hp_9
  refine g_putR C cls_5 6 1 (some sl) rfl (by first | exact ha | exact ha1) rfl (Or.inr ⟨rfl, hnm, rfl⟩) rfl rfl k_122 dX4_init_12 ?_
  refine g_aload_n C dX4_init_15 rfl ?_
  refine g_iconst C 0 dX4_init_16 (by rfl) ?_
  refine g_putI C cls_5 6 2 (by first | exact ha | exact ha1) rfl (Or.inl rfl) rfl rfl k_124 dX4_init_17 ?_
  refine g_aload_n C dX4_init_20 rfl ?_
  refine g_iload_n C dX4_init_21 rfl ?_
  refine g_putI C cls_5 6 0 (by first | exact ha | exact ha1) rfl (Or.inr ⟨rfl, hnm, rfl⟩) rfl rfl k_120 dX4_init_22 ?_
  refine g_vret C rfl (by decide) (by decide) dX4_init_25 ?_
  refine ⟨rfl, sl, hsl, hde, fun b hb hba => ?_, ha1, by simp [fI, fR, pI, pR, up3, kd, nw, va_up, has, has.symm], by simp [fI, fR, pI, pR, up3, kd, nw, va_up, has, has.symm], by simp [fI, fR, pI, pR, up3, kd, nw, va_up, has, has.symm], fun el => RLs_0 (nw_kd0 (w := w) (n := 0)) (by simp [fI, fR, pI, pR, up3, kd, nw, va_up, has, has.symm]) (by simp [fI, fR, pI, pR, up3, kd, nw, va_up, has, has.symm]), by simp [fI, fR, pI, pR, up3, kd, nw, va_up, has, has.symm]⟩
  have hbl : b ≠ sl := fun z => hb (by rw [z]; assumption)
  repeat (first | exact SmA.rf | refine SmA.tr ?_ (SmA.pI hba) | refine SmA.tr ?_ (SmA.pR hba) | refine SmA.tr ?_ (SmA.pI hbl) | refine SmA.tr ?_ (SmA.pR hbl) | refine SmA.tr ?_ (SmA.nw hbl))
theorem dX2_init_0 : decode cX2_init 0 = .ok (.aload_n 0, 1) := by decide +kernel
theorem dX2_init_1 : decode cX2_init 1 = .ok (.invokespecial 3, 3) := by decide +kernel
theorem dX2_init_4 : decode cX2_init 4 = .ok (.aload_n 0, 1) := by decide +kernel
theorem dX2_init_5 : decode cX2_init 5 = .ok (.bipush 20, 2) := by decide +kernel
theorem dX2_init_7 : decode cX2_init 7 = .ok (.newarray .int, 2) := by decide +kernel
theorem dX2_init_9 : decode cX2_init 9 = .ok (.putfield 9, 3) := by decide +kernel
theorem dX2_init_12 : decode cX2_init 12 = .ok (.aload_n 0, 1) := by decide +kernel
theorem dX2_init_13 : decode cX2_init 13 = .ok (.bipush 50, 2) := by decide +kernel
theorem dX2_init_15 : decode cX2_init 15 = .ok (.putfield 15, 3) := by decide +kernel
theorem dX2_init_18 : decode cX2_init 18 = .ok (.aload_n 0, 1) := by decide +kernel
theorem dX2_init_19 : decode cX2_init 19 = .ok (.iconst 0, 1) := by decide +kernel
theorem dX2_init_20 : decode cX2_init 20 = .ok (.putfield 19, 3) := by decide +kernel
theorem dX2_init_23 : decode cX2_init 23 = .ok (.aload_n 0, 1) := by decide +kernel
theorem dX2_init_24 : decode cX2_init 24 = .ok (.iconst 0, 1) := by decide +kernel
theorem dX2_init_25 : decode cX2_init 25 = .ok (.putfield 22, 3) := by decide +kernel
theorem dX2_init_28 : decode cX2_init 28 = .ok (.aload_n 0, 1) := by decide +kernel
theorem dX2_init_29 : decode cX2_init 29 = .ok (.iconst 0, 1) := by decide +kernel
theorem dX2_init_30 : decode cX2_init 30 = .ok (.putfield 25, 3) := by decide +kernel
theorem dX2_init_33 : decode cX2_init 33 = .ok (.aload_n 0, 1) := by decide +kernel
theorem dX2_init_34 : decode cX2_init 34 = .ok (.iload_n 1, 1) := by decide +kernel
theorem dX2_init_35 : decode cX2_init 35 = .ok (.putfield 28, 3) := by decide +kernel
theorem dX2_init_38 : decode cX2_init 38 = .ok (.aload_n 0, 1) := by decide +kernel
theorem dX2_init_39 : decode cX2_init 39 = .ok (.aload_n 2, 1) := by decide +kernel
theorem dX2_init_40 : decode cX2_init 40 = .ok (.putfield 31, 3) := by decide +kernel
theorem dX2_init_43 : decode cX2_init 43 = .ok (.aload_n 0, 1) := by decide +kernel
theorem dX2_init_44 : decode cX2_init 44 = .ok (.getfield 9, 3) := by decide +kernel
theorem dX2_init_47 : decode cX2_init 47 = .ok (.iconst (-1), 1) := by decide +kernel
theorem dX2_init_48 : decode cX2_init 48 = .ok (.invokestatic 35, 3) := by decide +kernel
theorem dX2_init_51 : decode cX2_init 51 = .ok (.return_, 1) := by decide +kernel
set_option maxHeartbeats 1000000 in
set_option maxRecDepth 100000 in
theorem c_X2_init (de : Nat) (w : Wd) (a sx : Nat) (num : Int32) (ha : kd w a = 4) : Ct yX2_init cX2_init 3 none 1 23 1 20 de [.ref a, .int num, .ref sx] w (fun r w' => r = none ∧ ∃ lo : Nat, kd w lo = 0 ∧ (∀ b, kd w b ≠ 0 → b ≠ a → SmA w w' b) ∧ kd w' a = 4 ∧ fI w' 4 0 a = num ∧ fR w' 4 1 a = some sx ∧ fR w' 4 2 a = some lo ∧ fI w' 4 3 a = 50 ∧ fI w' 4 4 a = 0 ∧ fI w' 4 5 a = 0 ∧ fI w' 4 6 a = 0 ∧ kd w' lo = 1030 ∧ aL w' lo = 20 ∧ ∀ j, j < 20 → aI w' 1030 lo j = -1) := by
  refine Ct.mk (by decide +kernel) [(0, .ref a), (1, .int num), (2, .ref sx)] rfl (Nat.le_of_ble_eq_true rfl) ?_
  intro p l e R s m args below meth c D cy z C hnm
  refine g_aload_n C dX2_init_0 rfl ?_
  refine g_objInit C k_530 k_33 k_34 (Nat.le_of_ble_eq_true rfl) (by decide) dX2_init_1 ?_
  refine g_aload_n C dX2_init_4 rfl ?_
  refine g_bipush C 20 dX2_init_5 (by rfl) ?_
  refine g_newI C 1030 20 rfl k_86 (by decide) (by decide) (by decide) (by decide) (by decide) dX2_init_7 (fun lo hlo => ?_)
  intro hde
  have ha1 : kd (nw w lo 1030 20) a = 4 := kd_nw ha (by decide) hlo
  have hal := nw_ne ha (by decide) hlo
  have hlo1 : kd (nw w lo 1030 20) lo = 1030 := nw_kd0
  have hlo2 : aL (nw w lo 1030 20) lo = 20 := nw_aL0
  refine g_putR C cls_3 4 2 (some lo) rfl (by first | exact ha | exact ha1) rfl (Or.inr ⟨rfl, hnm, rfl⟩) rfl rfl k_537 dX2_init_9 ?_
  refine g_aload_n C dX2_init_12 rfl ?_
  refine g_bipush C 50 dX2_init_13 (by rfl) ?_
  refine g_putI C cls_3 4 3 (by first | exact ha | exact ha1) rfl (Or.inl rfl) rfl rfl k_539 dX2_init_15 ?_
  refine g_aload_n C dX2_init_18 rfl ?_
  refine g_iconst C 0 dX2_init_19 (by rfl) ?_
  refine g_putI C cls_3 4 4 (by first | exact ha | exact ha1) rfl (Or.inl rfl) rfl rfl k_541 dX2_init_20 ?_
  refine g_aload_n C dX2_init_23 rfl ?_
  refine g_iconst C 0 dX2_init_24 (by rfl) ?_
  refine g_putI C cls_3 4 5 (by first | exact ha | exact ha1) rfl (Or.inl rfl) rfl rfl k_543 dX2_init_25 ?_
  refine g_aload_n C dX2_init_28 rfl ?_
  refine g_iconst C 0 dX2_init_29 (by rfl) ?_
  refine g_putI C cls_3 4 6 (by first | exact ha | exact ha1) rfl (Or.inl rfl) rfl rfl k_545 dX2_init_30 ?_
  refine g_aload_n C dX2_init_33 rfl ?_
  refine g_iload_n C dX2_init_34 rfl ?_
  refine g_putI C cls_3 4 0 (by first | exact ha | exact ha1) rfl (Or.inr ⟨rfl, hnm, rfl⟩) rfl rfl k_532 dX2_init_35 ?_
  refine g_aload_n C dX2_init_38 rfl ?_
  refine g_aload_n C dX2_init_39 rfl ?_
  refine g_putR C cls_3 4 1 (some sx) rfl (by first | exact ha | exact ha1) rfl (Or.inr ⟨rfl, hnm, rfl⟩) rfl rfl k_534 dX2_init_40 ?_
  refine g_aload_n C dX2_init_43 rfl ?_
  refine g_getR (b := lo) C cls_3 4 2 (by first | exact ha | exact ha1) (by simp [fR, pI, pR, up3]) rfl k_537 dX2_init_44 ?_
  refine g_iconst C (-1) dX2_init_47 (by rfl) ?_
  refine g_callS C mt_J7_fill_53178 [.ref lo, .int (-1)] (c_J7_fill_53178 de _ 1030 lo 20 (-1) rfl hlo1 hlo2 (by decide)) k_531 rfl rfl (Nat.le_of_ble_eq_true rfl) (by decide) (by decide) (by decide) (by decide) dX2_init_48 (fun r_48 w_48 hp_48 => ?_)
  obtain ⟨rfl, g, rfl, hg⟩ := hp_48
  refine g_vret C rfl (by decide) (by decide) dX2_init_51 ?_
  refine ⟨rfl, lo, hlo, fun b hb hba => ?_, ha1, by simp [fI, fR, pI, pR, up3, kd, nw, va_up, hal, hal.symm, stR], by simp [fI, fR, pI, pR, up3, kd, nw, va_up, hal, hal.symm, stR], by simp [fI, fR, pI, pR, up3, kd, nw, va_up, hal, hal.symm, stR], by simp [fI, fR, pI, pR, up3, kd, nw, va_up, hal, hal.symm, stR], by simp [fI, fR, pI, pR, up3, kd, nw, va_up, hal, hal.symm, stR], by simp [fI, fR, pI, pR, up3, kd, nw, va_up, hal, hal.symm, stR], by simp [fI, fR, pI, pR, up3, kd, nw, va_up, hal, hal.symm, stR], hlo1, hlo2, fun j hj => (congrFun stR_at j).trans (hg j hj)⟩
  have hbl : b ≠ lo := fun z => hb (by rw [z]; assumption)
  refine SmA.tr ?_ (SmA.stR hbl)
  repeat (first | exact SmA.rf | refine SmA.tr ?_ (SmA.pI hba) | refine SmA.tr ?_ (SmA.pR hba) | refine SmA.tr ?_ (SmA.nw hbl))
theorem dX2_lossIn_0 : decode cX2_lossIn 0 = .ok (.iload_n 1, 1) := by decide +kernel
theorem dX2_lossIn_1 : decode cX2_lossIn 1 = .ok (.ifCond .lt 12, 3) := by decide +kernel
theorem dX2_lossIn_4 : decode cX2_lossIn 4 = .ok (.iload_n 1, 1) := by decide +kernel
theorem dX2_lossIn_5 : decode cX2_lossIn 5 = .ok (.aload_n 0, 1) := by decide +kernel
theorem dX2_lossIn_6 : decode cX2_lossIn 6 = .ok (.getfield 9, 3) := by decide +kernel
theorem dX2_lossIn_9 : decode cX2_lossIn 9 = .ok (.arraylength, 1) := by decide +kernel
theorem dX2_lossIn_10 : decode cX2_lossIn 10 = .ok (.if_icmp .lt 7, 3) := by decide +kernel
theorem dX2_lossIn_17 : decode cX2_lossIn 17 = .ok (.aload_n 0, 1) := by decide +kernel
theorem dX2_lossIn_18 : decode cX2_lossIn 18 = .ok (.getfield 9, 3) := by decide +kernel
theorem dX2_lossIn_21 : decode cX2_lossIn 21 = .ok (.iload_n 1, 1) := by decide +kernel
theorem dX2_lossIn_22 : decode cX2_lossIn 22 = .ok (.iaload, 1) := by decide +kernel
theorem dX2_lossIn_23 : decode cX2_lossIn 23 = .ok (.ireturn, 1) := by decide +kernel
set_option maxHeartbeats 1000000 in
set_option maxRecDepth 100000 in
theorem c_X2_lossIn (de : Nat) (w : Wd) (a lo : Nat) (ha : kd w a = 4) (hlo : fR w 4 2 a = some lo) (hk : kd w lo = 1030) (hl : aL w lo = 20) (se : Nat) (hse : se < 20) : Ct yX2_lossIn cX2_lossIn 2 (some .int) 0 0 0 0 de [.ref a, .int (nI se)] w (fun r w' => r = some (.int (aI w 1030 lo se)) ∧ w = w') := by
  refine Ct.mk (by decide +kernel) [(0, .ref a), (1, .int (nI se))] rfl (Nat.le_of_ble_eq_true rfl) ?_
  intro p l e R s m args below meth c D cy z C hnm
  refine g_iload_n C dX2_lossIn_0 rfl ?_
  refine g_if_lt C 13 dX2_lossIn_1 (by decide) (fun c_1 => ?_) (fun c_1 => ?_)
  · first
    | exact absurd c_1 (nI_pos (by omega))
    | exact absurd (nI_lt hse (by omega)) c_10
  · refine g_iload_n C dX2_lossIn_4 rfl ?_
    refine g_aload_n C dX2_lossIn_5 rfl ?_
    refine g_getR (b := lo) C cls_3 4 2 ha hlo rfl k_537 dX2_lossIn_6 ?_
    refine g_alen C 1030 0 hk rfl (by decide) dX2_lossIn_9 ?_
    rw [hl, show Int32.ofNat 20 = nI 20 from rfl]
    refine g_icmp_lt C 17 dX2_lossIn_10 (by decide) (fun c_10 => ?_) (fun c_10 => ?_)
    · refine g_aload_n C dX2_lossIn_17 rfl ?_
      refine g_getR (b := lo) C cls_3 4 2 ha hlo rfl k_537 dX2_lossIn_18 ?_
      refine g_iload_n C dX2_lossIn_21 rfl ?_
      refine g_iald C 1030 hk rfl (by rw [hl]; exact nI_vp hse (by omega)) dX2_lossIn_22 ?_
      refine g_iret C rfl rfl (by decide) (by decide) dX2_lossIn_23 ?_
      exact ⟨by rw [nI_tn (by omega)], rfl⟩
    · first
      | exact absurd c_1 (nI_pos (by omega))
      | exact absurd (nI_lt hse (by omega)) c_10
theorem dX2_receive_0 : decode cX2_receive 0 = .ok (.aload_n 0, 1) := by decide +kernel
theorem dX2_receive_1 : decode cX2_receive 1 = .ok (.getfield 19, 3) := by decide +kernel
theorem dX2_receive_4 : decode cX2_receive 4 = .ok (.iload_n 1, 1) := by decide +kernel
theorem dX2_receive_5 : decode cX2_receive 5 = .ok (.invokestatic 41, 3) := by decide +kernel
theorem dX2_receive_8 : decode cX2_receive 8 = .ok (.istore_n 2, 1) := by decide +kernel
theorem dX2_receive_9 : decode cX2_receive 9 = .ok (.aload_n 0, 1) := by decide +kernel
theorem dX2_receive_10 : decode cX2_receive 10 = .ok (.dup, 1) := by decide +kernel
theorem dX2_receive_11 : decode cX2_receive 11 = .ok (.getfield 19, 3) := by decide +kernel
theorem dX2_receive_14 : decode cX2_receive 14 = .ok (.iload_n 2, 1) := by decide +kernel
theorem dX2_receive_15 : decode cX2_receive 15 = .ok (.isub, 1) := by decide +kernel
theorem dX2_receive_16 : decode cX2_receive 16 = .ok (.putfield 19, 3) := by decide +kernel
theorem dX2_receive_19 : decode cX2_receive 19 = .ok (.aload_n 0, 1) := by decide +kernel
theorem dX2_receive_20 : decode cX2_receive 20 = .ok (.dup, 1) := by decide +kernel
theorem dX2_receive_21 : decode cX2_receive 21 = .ok (.getfield 22, 3) := by decide +kernel
theorem dX2_receive_24 : decode cX2_receive 24 = .ok (.iload_n 1, 1) := by decide +kernel
theorem dX2_receive_25 : decode cX2_receive 25 = .ok (.iload_n 2, 1) := by decide +kernel
theorem dX2_receive_26 : decode cX2_receive 26 = .ok (.isub, 1) := by decide +kernel
theorem dX2_receive_27 : decode cX2_receive 27 = .ok (.iadd, 1) := by decide +kernel
theorem dX2_receive_28 : decode cX2_receive 28 = .ok (.putfield 22, 3) := by decide +kernel
theorem dX2_receive_31 : decode cX2_receive 31 = .ok (.iload_n 2, 1) := by decide +kernel
theorem dX2_receive_32 : decode cX2_receive 32 = .ok (.ireturn, 1) := by decide +kernel
set_option maxHeartbeats 1000000 in
set_option maxRecDepth 100000 in
theorem c_X2_receive (de : Nat) (w : Wd) (a : Nat) (pd : Int32) (ha : kd w a = 4) : Ct yX2_receive cX2_receive 3 (some .int) 1 21 0 0 de [.ref a, .int pd] w (fun r w' => r = some (.int (if pd < fI w 4 4 a then pd else fI w 4 4 a)) ∧ w' = pI (pI w 4 4 a (fI w 4 4 a - (if pd < fI w 4 4 a then pd else fI w 4 4 a))) 4 5 a (fI w 4 5 a + (pd - (if pd < fI w 4 4 a then pd else fI w 4 4 a)))) := by
  refine Ct.mk (by decide +kernel) [(0, .ref a), (1, .int pd)] rfl (Nat.le_of_ble_eq_true rfl) ?_
  intro p l e R s m args below meth c D cy z C hnm
  refine g_aload_n C dX2_receive_0 rfl ?_
  refine g_getI C cls_3 4 4 ha rfl k_541 dX2_receive_1 ?_
  refine g_iload_n C dX2_receive_4 rfl ?_
  refine g_min C k_766 k_364 k_18 k_365 (by decide) (Nat.le_of_ble_eq_true rfl) (by decide) (by decide) dX2_receive_5 ?_
  refine g_istore_n C dX2_receive_8 (by decide) ?_
  refine g_aload_n C dX2_receive_9 rfl ?_
  refine g_dup C dX2_receive_10 rfl ?_
  refine g_getI C cls_3 4 4 ha rfl k_541 dX2_receive_11 ?_
  refine g_iload_n C dX2_receive_14 rfl ?_
  refine g_isub C dX2_receive_15 ?_
  refine g_putI C cls_3 4 4 ha rfl (Or.inl rfl) rfl rfl k_541 dX2_receive_16 ?_
  refine g_aload_n C dX2_receive_19 rfl ?_
  refine g_dup C dX2_receive_20 rfl ?_
  refine g_getI C cls_3 4 5 ha rfl k_543 dX2_receive_21 ?_
  rw [show fI (pI w 4 4 a (fI w 4 4 a - (if pd < fI w 4 4 a then pd else fI w 4 4 a))) 4 5 a = fI w 4 5 a by simp [fI, pI, up3]]
  refine g_iload_n C dX2_receive_24 rfl ?_
  refine g_iload_n C dX2_receive_25 rfl ?_
  refine g_isub C dX2_receive_26 ?_
  refine g_iadd C dX2_receive_27 ?_
  refine g_putI C cls_3 4 5 ha rfl (Or.inl rfl) rfl rfl k_543 dX2_receive_28 ?_
  refine g_iload_n C dX2_receive_31 rfl ?_
  refine g_iret C rfl rfl (by decide) (by decide) dX2_receive_32 ?_
  exact ⟨rfl, rfl⟩
theorem dX2_judge_0 : decode cX2_judge 0 = .ok (.iload_n 1, 1) := by decide +kernel
theorem dX2_judge_1 : decode cX2_judge 1 = .ok (.ifCond .le 22, 3) := by decide +kernel
theorem dX2_judge_4 : decode cX2_judge 4 = .ok (.aload_n 0, 1) := by decide +kernel
theorem dX2_judge_5 : decode cX2_judge 5 = .ok (.aload_n 0, 1) := by decide +kernel
theorem dX2_judge_6 : decode cX2_judge 6 = .ok (.getfield 15, 3) := by decide +kernel
theorem dX2_judge_9 : decode cX2_judge 9 = .ok (.bipush 10, 2) := by decide +kernel
theorem dX2_judge_11 : decode cX2_judge 11 = .ok (.iadd, 1) := by decide +kernel
theorem dX2_judge_12 : decode cX2_judge 12 = .ok (.bipush 100, 2) := by decide +kernel
theorem dX2_judge_14 : decode cX2_judge 14 = .ok (.invokestatic 41, 3) := by decide +kernel
theorem dX2_judge_17 : decode cX2_judge 17 = .ok (.putfield 15, 3) := by decide +kernel
theorem dX2_judge_20 : decode cX2_judge 20 = .ok (.goto 28, 3) := by decide +kernel
theorem dX2_judge_23 : decode cX2_judge 23 = .ok (.aload_n 0, 1) := by decide +kernel
theorem dX2_judge_24 : decode cX2_judge 24 = .ok (.iload_n 2, 1) := by decide +kernel
theorem dX2_judge_25 : decode cX2_judge 25 = .ok (.invokevirtual 47, 3) := by decide +kernel
theorem dX2_judge_28 : decode cX2_judge 28 = .ok (.bipush 30, 2) := by decide +kernel
theorem dX2_judge_30 : decode cX2_judge 30 = .ok (.if_icmp .le 18, 3) := by decide +kernel
theorem dX2_judge_33 : decode cX2_judge 33 = .ok (.aload_n 0, 1) := by decide +kernel
theorem dX2_judge_34 : decode cX2_judge 34 = .ok (.aload_n 0, 1) := by decide +kernel
theorem dX2_judge_35 : decode cX2_judge 35 = .ok (.getfield 15, 3) := by decide +kernel
theorem dX2_judge_38 : decode cX2_judge 38 = .ok (.bipush 20, 2) := by decide +kernel
theorem dX2_judge_40 : decode cX2_judge 40 = .ok (.isub, 1) := by decide +kernel
theorem dX2_judge_41 : decode cX2_judge 41 = .ok (.iconst 0, 1) := by decide +kernel
theorem dX2_judge_42 : decode cX2_judge 42 = .ok (.invokestatic 51, 3) := by decide +kernel
theorem dX2_judge_45 : decode cX2_judge 45 = .ok (.putfield 15, 3) := by decide +kernel
theorem dX2_judge_48 : decode cX2_judge 48 = .ok (.return_, 1) := by decide +kernel
set_option maxHeartbeats 1000000 in
set_option maxRecDepth 100000 in
theorem c_X2_judge (de : Nat) (w : Wd) (a lo : Nat) (ha : kd w a = 4) (hlo : fR w 4 2 a = some lo) (hk : kd w lo = 1030) (hl : aL w lo = 20) (se : Nat) (hse : se < 20) (pd : Int32) : Ct yX2_judge cX2_judge 3 none 1 21 0 0 de [.ref a, .int pd, .int (nI se)] w (fun r w' => r = none ∧ w' = pI w 4 3 a (truK (fI w 4 3 a) (aI w 1030 lo se) pd)) := by
  refine Ct.mk (by decide +kernel) [(0, .ref a), (1, .int pd), (2, .int (nI se))] rfl (Nat.le_of_ble_eq_true rfl) ?_
  intro p l e R s m args below meth c D cy z C hnm
  refine g_iload_n C dX2_judge_0 rfl ?_
  refine g_if_le C 23 dX2_judge_1 (by decide) (fun c_1 => ?_) (fun c_1 => ?_)
  · refine g_aload_n C dX2_judge_23 rfl ?_
    refine g_iload_n C dX2_judge_24 rfl ?_
    refine g_callV C cls_3 4 mt_X2_lossIn [.int (nI se)] (c_X2_lossIn de w a lo ha hlo hk hl se hse) ha (by decide) k_771 rfl rfl (Nat.le_of_ble_eq_true rfl) (by decide) (by decide) (by decide) (by decide) dX2_judge_25 (fun r_25 w_25 hp_25 => ?_)
    obtain ⟨rfl, rfl⟩ := hp_25
    refine g_bipush C 30 dX2_judge_28 (by rfl) ?_
    refine g_icmp_le C 48 dX2_judge_30 (by decide) (fun c_30 => ?_) (fun c_30 => ?_)
    · refine g_vret C rfl (by decide) (by decide) dX2_judge_48 ?_
      first
      | exact ⟨rfl, by unfold truK; rw [if_pos (Int32.not_le.mp c_1)]⟩
      | exact ⟨rfl, by unfold truK; rw [if_neg (Int32.not_lt.mpr c_1), if_pos (Int32.not_le.mp c_30)]⟩
      | exact ⟨rfl, by unfold truK; rw [if_neg (Int32.not_lt.mpr c_1), if_neg (Int32.not_lt.mpr c_30)]; exact pI_self.symm⟩
    · refine g_aload_n C dX2_judge_33 rfl ?_
      refine g_aload_n C dX2_judge_34 rfl ?_
      refine g_getI C cls_3 4 3 ha rfl k_539 dX2_judge_35 ?_
      refine g_bipush C 20 dX2_judge_38 (by rfl) ?_
      refine g_isub C dX2_judge_40 ?_
      refine g_iconst C 0 dX2_judge_41 (by rfl) ?_
      refine g_max C k_775 k_329 k_18 k_330 (by decide) (Nat.le_of_ble_eq_true rfl) (by decide) (by decide) dX2_judge_42 ?_
      refine g_putI C cls_3 4 3 ha rfl (Or.inl rfl) rfl rfl k_539 dX2_judge_45 ?_
      refine g_vret C rfl (by decide) (by decide) dX2_judge_48 ?_
      first
      | exact ⟨rfl, by unfold truK; rw [if_pos (Int32.not_le.mp c_1)]⟩
      | exact ⟨rfl, by unfold truK; rw [if_neg (Int32.not_lt.mpr c_1), if_pos (Int32.not_le.mp c_30)]⟩
      | exact ⟨rfl, by unfold truK; rw [if_neg (Int32.not_lt.mpr c_1), if_neg (Int32.not_lt.mpr c_30)]; exact pI_self.symm⟩
  · refine g_aload_n C dX2_judge_4 rfl ?_
    refine g_aload_n C dX2_judge_5 rfl ?_
    refine g_getI C cls_3 4 3 ha rfl k_539 dX2_judge_6 ?_
    refine g_bipush C 10 dX2_judge_9 (by rfl) ?_
    refine g_iadd C dX2_judge_11 ?_
    refine g_bipush C 100 dX2_judge_12 (by rfl) ?_
    refine g_min C k_766 k_364 k_18 k_365 (by decide) (Nat.le_of_ble_eq_true rfl) (by decide) (by decide) dX2_judge_14 ?_
    refine g_putI C cls_3 4 3 ha rfl (Or.inl rfl) rfl rfl k_539 dX2_judge_17 ?_
    refine g_goto C 48 dX2_judge_20 (by decide) ?_
    refine g_vret C rfl (by decide) (by decide) dX2_judge_48 ?_
    first
    | exact ⟨rfl, by unfold truK; rw [if_pos (Int32.not_le.mp c_1)]⟩
    | exact ⟨rfl, by unfold truK; rw [if_neg (Int32.not_lt.mpr c_1), if_pos (Int32.not_le.mp c_30)]⟩
    | exact ⟨rfl, by unfold truK; rw [if_neg (Int32.not_lt.mpr c_1), if_neg (Int32.not_lt.mpr c_30)]; exact pI_self.symm⟩
theorem dX2_tell_0 : decode cX2_tell 0 = .ok (.iload_n 1, 1) := by decide +kernel
theorem dX2_tell_1 : decode cX2_tell 1 = .ok (.tableswitch 54 0 3 #[31, 39, 44, 49], 31) := by decide +kernel
theorem dX2_tell_32 : decode cX2_tell 32 = .ok (.aload_n 0, 1) := by decide +kernel
theorem dX2_tell_33 : decode cX2_tell 33 = .ok (.getfield 31, 3) := by decide +kernel
theorem dX2_tell_36 : decode cX2_tell 36 = .ok (.getfield 54, 3) := by decide +kernel
theorem dX2_tell_39 : decode cX2_tell 39 = .ok (.ireturn, 1) := by decide +kernel
theorem dX2_tell_40 : decode cX2_tell 40 = .ok (.aload_n 0, 1) := by decide +kernel
theorem dX2_tell_41 : decode cX2_tell 41 = .ok (.getfield 15, 3) := by decide +kernel
theorem dX2_tell_44 : decode cX2_tell 44 = .ok (.ireturn, 1) := by decide +kernel
theorem dX2_tell_45 : decode cX2_tell 45 = .ok (.aload_n 0, 1) := by decide +kernel
theorem dX2_tell_46 : decode cX2_tell 46 = .ok (.getfield 19, 3) := by decide +kernel
theorem dX2_tell_49 : decode cX2_tell 49 = .ok (.ireturn, 1) := by decide +kernel
theorem dX2_tell_50 : decode cX2_tell 50 = .ok (.aload_n 0, 1) := by decide +kernel
theorem dX2_tell_51 : decode cX2_tell 51 = .ok (.getfield 22, 3) := by decide +kernel
theorem dX2_tell_54 : decode cX2_tell 54 = .ok (.ireturn, 1) := by decide +kernel
theorem dX2_tell_55 : decode cX2_tell 55 = .ok (.aload_n 0, 1) := by decide +kernel
theorem dX2_tell_56 : decode cX2_tell 56 = .ok (.getfield 25, 3) := by decide +kernel
theorem dX2_tell_59 : decode cX2_tell 59 = .ok (.ireturn, 1) := by decide +kernel
set_option maxHeartbeats 1000000 in
set_option maxRecDepth 100000 in
theorem c_X2_tell (de : Nat) (w : Wd) (a sx : Nat) (ha : kd w a = 4) (hsx : fR w 4 1 a = some sx) (hk : kd w sx = 8) (V : Int32) (q : Nat) (hq : q ≤ 4) (h0 : q = 0 → fI w 8 0 sx = V) (h1 : q = 1 → fI w 4 3 a = V) (h2 : q = 2 → fI w 4 4 a = V) (h3 : q = 3 → fI w 4 5 a = V) (h4 : q = 4 → fI w 4 6 a = V) : Ct yX2_tell cX2_tell 2 (some .int) 0 0 0 0 de [.ref a, .int (nI q)] w (fun r w' => r = some (.int V) ∧ w = w') := by
  refine Ct.mk (by decide +kernel) [(0, .ref a), (1, .int (nI q))] rfl (Nat.le_of_ble_eq_true rfl) ?_
  intro p l e R s m args below meth c D cy z C hnm
  have hq9 : q < 100000 := by omega
  have hq8 := nI_toInt (n := q) (by omega)
  refine g_iload_n C dX2_tell_0 rfl ?_
  by_cases sw_0 : (nI q).toInt = 0
  · refine g_tabIn C 32 dX2_tell_1 sw_0 (by decide) (by decide) rfl (by decide) ?_
    refine g_aload_n C dX2_tell_32 rfl ?_
    refine g_getR (b := sx) C cls_3 4 1 ha hsx rfl k_534 dX2_tell_33 ?_
    refine g_getI C cls_7 8 0 hk rfl k_289 dX2_tell_36 ?_
    refine g_iret C rfl rfl (by decide) (by decide) dX2_tell_39 ?_
    exact ⟨congrArg (fun v => some (Value.int v)) (h0 (swq hq9 sw_0)), rfl⟩
  by_cases sw_1 : (nI q).toInt = 1
  · refine g_tabIn C 40 dX2_tell_1 sw_1 (by decide) (by decide) rfl (by decide) ?_
    refine g_aload_n C dX2_tell_40 rfl ?_
    refine g_getI C cls_3 4 3 ha rfl k_539 dX2_tell_41 ?_
    refine g_iret C rfl rfl (by decide) (by decide) dX2_tell_44 ?_
    exact ⟨congrArg (fun v => some (Value.int v)) (h1 (swq hq9 sw_1)), rfl⟩
  by_cases sw_2 : (nI q).toInt = 2
  · refine g_tabIn C 45 dX2_tell_1 sw_2 (by decide) (by decide) rfl (by decide) ?_
    refine g_aload_n C dX2_tell_45 rfl ?_
    refine g_getI C cls_3 4 4 ha rfl k_541 dX2_tell_46 ?_
    refine g_iret C rfl rfl (by decide) (by decide) dX2_tell_49 ?_
    exact ⟨congrArg (fun v => some (Value.int v)) (h2 (swq hq9 sw_2)), rfl⟩
  by_cases sw_3 : (nI q).toInt = 3
  · refine g_tabIn C 50 dX2_tell_1 sw_3 (by decide) (by decide) rfl (by decide) ?_
    refine g_aload_n C dX2_tell_50 rfl ?_
    refine g_getI C cls_3 4 5 ha rfl k_543 dX2_tell_51 ?_
    refine g_iret C rfl rfl (by decide) (by decide) dX2_tell_54 ?_
    exact ⟨congrArg (fun v => some (Value.int v)) (h3 (swq hq9 sw_3)), rfl⟩
  refine g_tabOut C 55 dX2_tell_1 (by omega) (by decide) ?_
  refine g_aload_n C dX2_tell_55 rfl ?_
  refine g_getI C cls_3 4 6 ha rfl k_545 dX2_tell_56 ?_
  refine g_iret C rfl rfl (by decide) (by decide) dX2_tell_59 ?_
  exact ⟨congrArg (fun v => some (Value.int v)) (h4 (by have g0 := swn (j := 0) hq9 sw_0; have g1 := swn (j := 1) hq9 sw_1; have g2 := swn (j := 2) hq9 sw_2; have g3 := swn (j := 3) hq9 sw_3; omega)), rfl⟩
theorem dX1_tell_0 : decode cX1_tell 0 = .ok (.iload_n 1, 1) := by decide +kernel
theorem dX1_tell_1 : decode cX1_tell 1 = .ok (.tableswitch 102 0 8 #[51, 59, 67, 72, 77, 82, 87, 92, 97], 51) := by decide +kernel
theorem dX1_tell_52 : decode cX1_tell 52 = .ok (.aload_n 0, 1) := by decide +kernel
theorem dX1_tell_53 : decode cX1_tell 53 = .ok (.getfield 31, 3) := by decide +kernel
theorem dX1_tell_56 : decode cX1_tell 56 = .ok (.getfield 66, 3) := by decide +kernel
theorem dX1_tell_59 : decode cX1_tell 59 = .ok (.ireturn, 1) := by decide +kernel
theorem dX1_tell_60 : decode cX1_tell 60 = .ok (.aload_n 0, 1) := by decide +kernel
theorem dX1_tell_61 : decode cX1_tell 61 = .ok (.getfield 35, 3) := by decide +kernel
theorem dX1_tell_64 : decode cX1_tell 64 = .ok (.getfield 69, 3) := by decide +kernel
theorem dX1_tell_67 : decode cX1_tell 67 = .ok (.ireturn, 1) := by decide +kernel
theorem dX1_tell_68 : decode cX1_tell 68 = .ok (.aload_n 0, 1) := by decide +kernel
theorem dX1_tell_69 : decode cX1_tell 69 = .ok (.getfield 39, 3) := by decide +kernel
theorem dX1_tell_72 : decode cX1_tell 72 = .ok (.ireturn, 1) := by decide +kernel
theorem dX1_tell_73 : decode cX1_tell 73 = .ok (.aload_n 0, 1) := by decide +kernel
theorem dX1_tell_74 : decode cX1_tell 74 = .ok (.getfield 42, 3) := by decide +kernel
theorem dX1_tell_77 : decode cX1_tell 77 = .ok (.ireturn, 1) := by decide +kernel
theorem dX1_tell_78 : decode cX1_tell 78 = .ok (.aload_n 0, 1) := by decide +kernel
theorem dX1_tell_79 : decode cX1_tell 79 = .ok (.getfield 45, 3) := by decide +kernel
theorem dX1_tell_82 : decode cX1_tell 82 = .ok (.ireturn, 1) := by decide +kernel
theorem dX1_tell_83 : decode cX1_tell 83 = .ok (.aload_n 0, 1) := by decide +kernel
theorem dX1_tell_84 : decode cX1_tell 84 = .ok (.getfield 48, 3) := by decide +kernel
theorem dX1_tell_87 : decode cX1_tell 87 = .ok (.ireturn, 1) := by decide +kernel
theorem dX1_tell_88 : decode cX1_tell 88 = .ok (.aload_n 0, 1) := by decide +kernel
theorem dX1_tell_89 : decode cX1_tell 89 = .ok (.getfield 15, 3) := by decide +kernel
theorem dX1_tell_92 : decode cX1_tell 92 = .ok (.ireturn, 1) := by decide +kernel
theorem dX1_tell_93 : decode cX1_tell 93 = .ok (.aload_n 0, 1) := by decide +kernel
theorem dX1_tell_94 : decode cX1_tell 94 = .ok (.getfield 18, 3) := by decide +kernel
theorem dX1_tell_97 : decode cX1_tell 97 = .ok (.ireturn, 1) := by decide +kernel
theorem dX1_tell_98 : decode cX1_tell 98 = .ok (.aload_n 0, 1) := by decide +kernel
theorem dX1_tell_99 : decode cX1_tell 99 = .ok (.getfield 21, 3) := by decide +kernel
theorem dX1_tell_102 : decode cX1_tell 102 = .ok (.ireturn, 1) := by decide +kernel
theorem dX1_tell_103 : decode cX1_tell 103 = .ok (.aload_n 0, 1) := by decide +kernel
theorem dX1_tell_104 : decode cX1_tell 104 = .ok (.getfield 24, 3) := by decide +kernel
theorem dX1_tell_107 : decode cX1_tell 107 = .ok (.ireturn, 1) := by decide +kernel
set_option maxHeartbeats 1000000 in
set_option maxRecDepth 100000 in
theorem c_X1_tell (de : Nat) (w : Wd) (a fa pr : Nat) (ha : kd w a = 3) (hfa : fR w 3 0 a = some fa) (hk : kd w fa = 4) (hpr : fR w 3 1 a = some pr) (hk2 : kd w pr = 6) (V : Int32) (q : Nat) (hq : q ≤ 9) (h0 : q = 0 → fI w 4 0 fa = V) (h1 : q = 1 → fI w 6 0 pr = V) (h2 : q = 2 → fI w 3 2 a = V) (h3 : q = 3 → fI w 3 3 a = V) (h4 : q = 4 → fI w 3 4 a = V) (h5 : q = 5 → fI w 3 5 a = V) (h6 : q = 6 → fI w 3 7 a = V) (h7 : q = 7 → fI w 3 8 a = V) (h8 : q = 8 → fI w 3 9 a = V) (h9 : q = 9 → fI w 3 10 a = V) : Ct yX1_tell cX1_tell 2 (some .int) 0 0 0 0 de [.ref a, .int (nI q)] w (fun r w' => r = some (.int V) ∧ w = w') := by
  refine Ct.mk (by decide +kernel) [(0, .ref a), (1, .int (nI q))] rfl (Nat.le_of_ble_eq_true rfl) ?_
  intro p l e R s m args below meth c D cy z C hnm
  have hq9 : q < 100000 := by omega
  have hq8 := nI_toInt (n := q) (by omega)
  refine g_iload_n C dX1_tell_0 rfl ?_
  by_cases sw_0 : (nI q).toInt = 0
  · refine g_tabIn C 52 dX1_tell_1 sw_0 (by decide) (by decide) rfl (by decide) ?_
    refine g_aload_n C dX1_tell_52 rfl ?_
    refine g_getR (b := fa) C cls_2 3 0 ha hfa rfl k_692 dX1_tell_53 ?_
    refine g_getI C cls_3 4 0 hk rfl k_533 dX1_tell_56 ?_
    refine g_iret C rfl rfl (by decide) (by decide) dX1_tell_59 ?_
    exact ⟨congrArg (fun v => some (Value.int v)) (h0 (swq hq9 sw_0)), rfl⟩
  by_cases sw_1 : (nI q).toInt = 1
  · refine g_tabIn C 60 dX1_tell_1 sw_1 (by decide) (by decide) rfl (by decide) ?_
    refine g_aload_n C dX1_tell_60 rfl ?_
    refine g_getR (b := pr) C cls_2 3 1 ha hpr rfl k_694 dX1_tell_61 ?_
    refine g_getI C cls_5 6 0 hk2 rfl k_121 dX1_tell_64 ?_
    refine g_iret C rfl rfl (by decide) (by decide) dX1_tell_67 ?_
    exact ⟨congrArg (fun v => some (Value.int v)) (h1 (swq hq9 sw_1)), rfl⟩
  by_cases sw_2 : (nI q).toInt = 2
  · refine g_tabIn C 68 dX1_tell_1 sw_2 (by decide) (by decide) rfl (by decide) ?_
    refine g_aload_n C dX1_tell_68 rfl ?_
    refine g_getI C cls_2 3 2 ha rfl k_696 dX1_tell_69 ?_
    refine g_iret C rfl rfl (by decide) (by decide) dX1_tell_72 ?_
    exact ⟨congrArg (fun v => some (Value.int v)) (h2 (swq hq9 sw_2)), rfl⟩
  by_cases sw_3 : (nI q).toInt = 3
  · refine g_tabIn C 73 dX1_tell_1 sw_3 (by decide) (by decide) rfl (by decide) ?_
    refine g_aload_n C dX1_tell_73 rfl ?_
    refine g_getI C cls_2 3 3 ha rfl k_697 dX1_tell_74 ?_
    refine g_iret C rfl rfl (by decide) (by decide) dX1_tell_77 ?_
    exact ⟨congrArg (fun v => some (Value.int v)) (h3 (swq hq9 sw_3)), rfl⟩
  by_cases sw_4 : (nI q).toInt = 4
  · refine g_tabIn C 78 dX1_tell_1 sw_4 (by decide) (by decide) rfl (by decide) ?_
    refine g_aload_n C dX1_tell_78 rfl ?_
    refine g_getI C cls_2 3 4 ha rfl k_699 dX1_tell_79 ?_
    refine g_iret C rfl rfl (by decide) (by decide) dX1_tell_82 ?_
    exact ⟨congrArg (fun v => some (Value.int v)) (h4 (swq hq9 sw_4)), rfl⟩
  by_cases sw_5 : (nI q).toInt = 5
  · refine g_tabIn C 83 dX1_tell_1 sw_5 (by decide) (by decide) rfl (by decide) ?_
    refine g_aload_n C dX1_tell_83 rfl ?_
    refine g_getI C cls_2 3 5 ha rfl k_700 dX1_tell_84 ?_
    refine g_iret C rfl rfl (by decide) (by decide) dX1_tell_87 ?_
    exact ⟨congrArg (fun v => some (Value.int v)) (h5 (swq hq9 sw_5)), rfl⟩
  by_cases sw_6 : (nI q).toInt = 6
  · refine g_tabIn C 88 dX1_tell_1 sw_6 (by decide) (by decide) rfl (by decide) ?_
    refine g_aload_n C dX1_tell_88 rfl ?_
    refine g_getI C cls_2 3 7 ha rfl k_703 dX1_tell_89 ?_
    refine g_iret C rfl rfl (by decide) (by decide) dX1_tell_92 ?_
    exact ⟨congrArg (fun v => some (Value.int v)) (h6 (swq hq9 sw_6)), rfl⟩
  by_cases sw_7 : (nI q).toInt = 7
  · refine g_tabIn C 93 dX1_tell_1 sw_7 (by decide) (by decide) rfl (by decide) ?_
    refine g_aload_n C dX1_tell_93 rfl ?_
    refine g_getI C cls_2 3 8 ha rfl k_705 dX1_tell_94 ?_
    refine g_iret C rfl rfl (by decide) (by decide) dX1_tell_97 ?_
    exact ⟨congrArg (fun v => some (Value.int v)) (h7 (swq hq9 sw_7)), rfl⟩
  by_cases sw_8 : (nI q).toInt = 8
  · refine g_tabIn C 98 dX1_tell_1 sw_8 (by decide) (by decide) rfl (by decide) ?_
    refine g_aload_n C dX1_tell_98 rfl ?_
    refine g_getI C cls_2 3 9 ha rfl k_707 dX1_tell_99 ?_
    refine g_iret C rfl rfl (by decide) (by decide) dX1_tell_102 ?_
    exact ⟨congrArg (fun v => some (Value.int v)) (h8 (swq hq9 sw_8)), rfl⟩
  refine g_tabOut C 103 dX1_tell_1 (by omega) (by decide) ?_
  refine g_aload_n C dX1_tell_103 rfl ?_
  refine g_getI C cls_2 3 10 ha rfl k_709 dX1_tell_104 ?_
  refine g_iret C rfl rfl (by decide) (by decide) dX1_tell_107 ?_
  exact ⟨congrArg (fun v => some (Value.int v)) (h9 (by have g0 := swn (j := 0) hq9 sw_0; have g1 := swn (j := 1) hq9 sw_1; have g2 := swn (j := 2) hq9 sw_2; have g3 := swn (j := 3) hq9 sw_3; have g4 := swn (j := 4) hq9 sw_4; have g5 := swn (j := 5) hq9 sw_5; have g6 := swn (j := 6) hq9 sw_6; have g7 := swn (j := 7) hq9 sw_7; have g8 := swn (j := 8) hq9 sw_8; omega)), rfl⟩
theorem dX0_tell_0 : decode cX0_tell 0 = .ok (.iload_n 1, 1) := by decide +kernel
theorem dX0_tell_1 : decode cX0_tell 1 = .ok (.tableswitch 51 0 3 #[31, 36, 41, 46], 31) := by decide +kernel
theorem dX0_tell_32 : decode cX0_tell 32 = .ok (.aload_n 0, 1) := by decide +kernel
theorem dX0_tell_33 : decode cX0_tell 33 = .ok (.getfield 7, 3) := by decide +kernel
theorem dX0_tell_36 : decode cX0_tell 36 = .ok (.ireturn, 1) := by decide +kernel
theorem dX0_tell_37 : decode cX0_tell 37 = .ok (.aload_n 0, 1) := by decide +kernel
theorem dX0_tell_38 : decode cX0_tell 38 = .ok (.getfield 13, 3) := by decide +kernel
theorem dX0_tell_41 : decode cX0_tell 41 = .ok (.ireturn, 1) := by decide +kernel
theorem dX0_tell_42 : decode cX0_tell 42 = .ok (.aload_n 0, 1) := by decide +kernel
theorem dX0_tell_43 : decode cX0_tell 43 = .ok (.getfield 16, 3) := by decide +kernel
theorem dX0_tell_46 : decode cX0_tell 46 = .ok (.ireturn, 1) := by decide +kernel
theorem dX0_tell_47 : decode cX0_tell 47 = .ok (.aload_n 0, 1) := by decide +kernel
theorem dX0_tell_48 : decode cX0_tell 48 = .ok (.getfield 19, 3) := by decide +kernel
theorem dX0_tell_51 : decode cX0_tell 51 = .ok (.ireturn, 1) := by decide +kernel
theorem dX0_tell_52 : decode cX0_tell 52 = .ok (.aload_n 0, 1) := by decide +kernel
theorem dX0_tell_53 : decode cX0_tell 53 = .ok (.getfield 7, 3) := by decide +kernel
theorem dX0_tell_56 : decode cX0_tell 56 = .ok (.aload_n 0, 1) := by decide +kernel
theorem dX0_tell_57 : decode cX0_tell 57 = .ok (.getfield 19, 3) := by decide +kernel
theorem dX0_tell_60 : decode cX0_tell 60 = .ok (.iadd, 1) := by decide +kernel
theorem dX0_tell_61 : decode cX0_tell 61 = .ok (.aload_n 0, 1) := by decide +kernel
theorem dX0_tell_62 : decode cX0_tell 62 = .ok (.getfield 16, 3) := by decide +kernel
theorem dX0_tell_65 : decode cX0_tell 65 = .ok (.isub, 1) := by decide +kernel
theorem dX0_tell_66 : decode cX0_tell 66 = .ok (.ireturn, 1) := by decide +kernel
set_option maxHeartbeats 1000000 in
set_option maxRecDepth 100000 in
theorem c_X0_tell (de : Nat) (w : Wd) (a : Nat) (ha : kd w a = 2) (V : Int32) (q : Nat) (hq : q ≤ 4) (h0 : q = 0 → fI w 2 0 a = V) (h1 : q = 1 → fI w 2 1 a = V) (h2 : q = 2 → fI w 2 2 a = V) (h3 : q = 3 → fI w 2 3 a = V) (h4 : q = 4 → fI w 2 0 a + fI w 2 3 a - fI w 2 2 a = V) : Ct yX0_tell cX0_tell 2 (some .int) 0 0 0 0 de [.ref a, .int (nI q)] w (fun r w' => r = some (.int V) ∧ w = w') := by
  refine Ct.mk (by decide +kernel) [(0, .ref a), (1, .int (nI q))] rfl (Nat.le_of_ble_eq_true rfl) ?_
  intro p l e R s m args below meth c D cy z C hnm
  have hq9 : q < 100000 := by omega
  have hq8 := nI_toInt (n := q) (by omega)
  refine g_iload_n C dX0_tell_0 rfl ?_
  by_cases sw_0 : (nI q).toInt = 0
  · refine g_tabIn C 32 dX0_tell_1 sw_0 (by decide) (by decide) rfl (by decide) ?_
    refine g_aload_n C dX0_tell_32 rfl ?_
    refine g_getI C cls_1 2 0 ha rfl k_95 dX0_tell_33 ?_
    refine g_iret C rfl rfl (by decide) (by decide) dX0_tell_36 ?_
    exact ⟨congrArg (fun v => some (Value.int v)) (h0 (swq hq9 sw_0)), rfl⟩
  by_cases sw_1 : (nI q).toInt = 1
  · refine g_tabIn C 37 dX0_tell_1 sw_1 (by decide) (by decide) rfl (by decide) ?_
    refine g_aload_n C dX0_tell_37 rfl ?_
    refine g_getI C cls_1 2 1 ha rfl k_97 dX0_tell_38 ?_
    refine g_iret C rfl rfl (by decide) (by decide) dX0_tell_41 ?_
    exact ⟨congrArg (fun v => some (Value.int v)) (h1 (swq hq9 sw_1)), rfl⟩
  by_cases sw_2 : (nI q).toInt = 2
  · refine g_tabIn C 42 dX0_tell_1 sw_2 (by decide) (by decide) rfl (by decide) ?_
    refine g_aload_n C dX0_tell_42 rfl ?_
    refine g_getI C cls_1 2 2 ha rfl k_99 dX0_tell_43 ?_
    refine g_iret C rfl rfl (by decide) (by decide) dX0_tell_46 ?_
    exact ⟨congrArg (fun v => some (Value.int v)) (h2 (swq hq9 sw_2)), rfl⟩
  by_cases sw_3 : (nI q).toInt = 3
  · refine g_tabIn C 47 dX0_tell_1 sw_3 (by decide) (by decide) rfl (by decide) ?_
    refine g_aload_n C dX0_tell_47 rfl ?_
    refine g_getI C cls_1 2 3 ha rfl k_101 dX0_tell_48 ?_
    refine g_iret C rfl rfl (by decide) (by decide) dX0_tell_51 ?_
    exact ⟨congrArg (fun v => some (Value.int v)) (h3 (swq hq9 sw_3)), rfl⟩
  refine g_tabOut C 52 dX0_tell_1 (by omega) (by decide) ?_
  refine g_aload_n C dX0_tell_52 rfl ?_
  refine g_getI C cls_1 2 0 ha rfl k_95 dX0_tell_53 ?_
  refine g_aload_n C dX0_tell_56 rfl ?_
  refine g_getI C cls_1 2 3 ha rfl k_101 dX0_tell_57 ?_
  refine g_iadd C dX0_tell_60 ?_
  refine g_aload_n C dX0_tell_61 rfl ?_
  refine g_getI C cls_1 2 2 ha rfl k_99 dX0_tell_62 ?_
  refine g_isub C dX0_tell_65 ?_
  refine g_iret C rfl rfl (by decide) (by decide) dX0_tell_66 ?_
  exact ⟨congrArg (fun v => some (Value.int v)) (h4 (by have g0 := swn (j := 0) hq9 sw_0; have g1 := swn (j := 1) hq9 sw_1; have g2 := swn (j := 2) hq9 sw_2; have g3 := swn (j := 3) hq9 sw_3; omega)), rfl⟩
theorem dX1_isOf_0 : decode cX1_isOf 0 = .ok (.aload_n 0, 1) := by decide +kernel
theorem dX1_isOf_1 : decode cX1_isOf 1 = .ok (.getfield 31, 3) := by decide +kernel
theorem dX1_isOf_4 : decode cX1_isOf 4 = .ok (.getfield 51, 3) := by decide +kernel
theorem dX1_isOf_7 : decode cX1_isOf 7 = .ok (.aload_n 1, 1) := by decide +kernel
theorem dX1_isOf_8 : decode cX1_isOf 8 = .ok (.if_acmp .ne 15, 3) := by decide +kernel
theorem dX1_isOf_11 : decode cX1_isOf 11 = .ok (.aload_n 0, 1) := by decide +kernel
theorem dX1_isOf_12 : decode cX1_isOf 12 = .ok (.getfield 42, 3) := by decide +kernel
theorem dX1_isOf_15 : decode cX1_isOf 15 = .ok (.iload_n 2, 1) := by decide +kernel
theorem dX1_isOf_16 : decode cX1_isOf 16 = .ok (.if_icmp .ne 7, 3) := by decide +kernel
theorem dX1_isOf_19 : decode cX1_isOf 19 = .ok (.iconst 1, 1) := by decide +kernel
theorem dX1_isOf_20 : decode cX1_isOf 20 = .ok (.goto 4, 3) := by decide +kernel
theorem dX1_isOf_23 : decode cX1_isOf 23 = .ok (.iconst 0, 1) := by decide +kernel
theorem dX1_isOf_24 : decode cX1_isOf 24 = .ok (.ireturn, 1) := by decide +kernel
set_option maxHeartbeats 1000000 in
set_option maxRecDepth 100000 in
theorem c_X1_isOf (de : Nat) (w : Wd) (a fa s1 s2 : Nat) (ha : kd w a = 3) (hfa : fR w 3 0 a = some fa) (hk : kd w fa = 4) (hfs : fR w 4 1 fa = some s1) (hs1 : kd w s1 = 8) (se : Int32) : Ct yX1_isOf cX1_isOf 3 (some .boolean) 0 0 0 0 de [.ref a, .ref s2, .int se] w (fun r w' => r = some (.int (bI (decide (fI w 3 3 a = se) && decide (s1 = s2)))) ∧ w = w') := by
  refine Ct.mk (by decide +kernel) [(0, .ref a), (1, .ref s2), (2, .int se)] rfl (Nat.le_of_ble_eq_true rfl) ?_
  intro p l e R s m args below meth c D cy z C hnm
  refine g_aload_n C dX1_isOf_0 rfl ?_
  refine g_getR (b := fa) C cls_2 3 0 ha hfa rfl k_692 dX1_isOf_1 ?_
  refine g_getR (b := s1) C cls_3 4 1 hk hfs rfl k_535 dX1_isOf_4 ?_
  refine g_aload_n C dX1_isOf_7 rfl ?_
  refine g_acmp_ne (rx := (some s1)) (ry := (some s2)) C 23 dX1_isOf_8 (by decide) (fun c_8 => ?_) (fun c_8 => ?_)
  · refine g_iconst C 0 dX1_isOf_23 (by rfl) ?_
    refine g_iret C rfl rfl (by decide) (by decide) dX1_isOf_24 ?_
    first
    | exact ⟨congrArg (fun v => some (Value.int v)) (by rw [decide_eq_true c_16, decide_eq_true (Option.some.inj c_8)]; rfl), rfl⟩
    | exact ⟨congrArg (fun v => some (Value.int v)) (by rw [decide_eq_false c_16]; simp [bI]), rfl⟩
    | exact ⟨congrArg (fun v => some (Value.int v)) (by rw [decide_eq_false (p := s1 = s2) (fun z => c_8 (by rw [z]))]; simp [bI]), rfl⟩
  · refine g_aload_n C dX1_isOf_11 rfl ?_
    refine g_getI C cls_2 3 3 ha rfl k_697 dX1_isOf_12 ?_
    refine g_iload_n C dX1_isOf_15 rfl ?_
    refine g_icmp_ne C 23 dX1_isOf_16 (by decide) (fun c_16 => ?_) (fun c_16 => ?_)
    · refine g_iconst C 0 dX1_isOf_23 (by rfl) ?_
      refine g_iret C rfl rfl (by decide) (by decide) dX1_isOf_24 ?_
      first
      | exact ⟨congrArg (fun v => some (Value.int v)) (by rw [decide_eq_true c_16, decide_eq_true (Option.some.inj c_8)]; rfl), rfl⟩
      | exact ⟨congrArg (fun v => some (Value.int v)) (by rw [decide_eq_false c_16]; simp [bI]), rfl⟩
      | exact ⟨congrArg (fun v => some (Value.int v)) (by rw [decide_eq_false (p := s1 = s2) (fun z => c_8 (by rw [z]))]; simp [bI]), rfl⟩
    · refine g_iconst C 1 dX1_isOf_19 (by rfl) ?_
      refine g_goto C 24 dX1_isOf_20 (by decide) ?_
      refine g_iret C rfl rfl (by decide) (by decide) dX1_isOf_24 ?_
      first
      | exact ⟨congrArg (fun v => some (Value.int v)) (by rw [decide_eq_true c_16, decide_eq_true (Option.some.inj c_8)]; rfl), rfl⟩
      | exact ⟨congrArg (fun v => some (Value.int v)) (by rw [decide_eq_false c_16]; simp [bI]), rfl⟩
      | exact ⟨congrArg (fun v => some (Value.int v)) (by rw [decide_eq_false (p := s1 = s2) (fun z => c_8 (by rw [z]))]; simp [bI]), rfl⟩
theorem dX1_dueBy_0 : decode cX1_dueBy 0 = .ok (.aload_n 0, 1) := by decide +kernel
theorem dX1_dueBy_1 : decode cX1_dueBy 1 = .ok (.getfield 39, 3) := by decide +kernel
theorem dX1_dueBy_4 : decode cX1_dueBy 4 = .ok (.iload_n 1, 1) := by decide +kernel
theorem dX1_dueBy_5 : decode cX1_dueBy 5 = .ok (.imul, 1) := by decide +kernel
theorem dX1_dueBy_6 : decode cX1_dueBy 6 = .ok (.sipush 1000, 3) := by decide +kernel
theorem dX1_dueBy_9 : decode cX1_dueBy 9 = .ok (.idiv, 1) := by decide +kernel
theorem dX1_dueBy_10 : decode cX1_dueBy 10 = .ok (.ireturn, 1) := by decide +kernel
set_option maxHeartbeats 1000000 in
set_option maxRecDepth 100000 in
theorem c_X1_dueBy (de : Nat) (w : Wd) (a : Nat) (ha : kd w a = 3) (rt : Int32) : Ct yX1_dueBy cX1_dueBy 2 (some .int) 0 0 0 0 de [.ref a, .int rt] w (fun r w' => r = some (.int (fI w 3 2 a * rt / 1000)) ∧ w = w') := by
  refine Ct.mk (by decide +kernel) [(0, .ref a), (1, .int rt)] rfl (Nat.le_of_ble_eq_true rfl) ?_
  intro p l e R s m args below meth c D cy z C hnm
  refine g_aload_n C dX1_dueBy_0 rfl ?_
  refine g_getI C cls_2 3 2 ha rfl k_696 dX1_dueBy_1 ?_
  refine g_iload_n C dX1_dueBy_4 rfl ?_
  refine g_imul C dX1_dueBy_5 ?_
  refine g_sipush C 1000 dX1_dueBy_6 (by rfl) ?_
  refine g_idiv C dX1_dueBy_9 (by decide) ?_
  refine g_iret C rfl rfl (by decide) (by decide) dX1_dueBy_10 ?_
  exact ⟨rfl, rfl⟩
theorem dX1_payMore_0 : decode cX1_payMore 0 = .ok (.aload_n 0, 1) := by decide +kernel
theorem dX1_payMore_1 : decode cX1_payMore 1 = .ok (.getfield 15, 3) := by decide +kernel
theorem dX1_payMore_4 : decode cX1_payMore 4 = .ok (.bipush 10, 2) := by decide +kernel
theorem dX1_payMore_6 : decode cX1_payMore 6 = .ok (.idiv, 1) := by decide +kernel
theorem dX1_payMore_7 : decode cX1_payMore 7 = .ok (.bipush 20, 2) := by decide +kernel
theorem dX1_payMore_9 : decode cX1_payMore 9 = .ok (.iadd, 1) := by decide +kernel
theorem dX1_payMore_10 : decode cX1_payMore 10 = .ok (.iload_n 1, 1) := by decide +kernel
theorem dX1_payMore_11 : decode cX1_payMore 11 = .ok (.if_icmp .lt 5, 3) := by decide +kernel
theorem dX1_payMore_14 : decode cX1_payMore 14 = .ok (.iconst 0, 1) := by decide +kernel
theorem dX1_payMore_15 : decode cX1_payMore 15 = .ok (.ireturn, 1) := by decide +kernel
theorem dX1_payMore_16 : decode cX1_payMore 16 = .ok (.aload_n 0, 1) := by decide +kernel
theorem dX1_payMore_17 : decode cX1_payMore 17 = .ok (.getfield 39, 3) := by decide +kernel
theorem dX1_payMore_20 : decode cX1_payMore 20 = .ok (.iload_n 1, 1) := by decide +kernel
theorem dX1_payMore_21 : decode cX1_payMore 21 = .ok (.bipush 20, 2) := by decide +kernel
theorem dX1_payMore_23 : decode cX1_payMore 23 = .ok (.isub, 1) := by decide +kernel
theorem dX1_payMore_24 : decode cX1_payMore 24 = .ok (.imul, 1) := by decide +kernel
theorem dX1_payMore_25 : decode cX1_payMore 25 = .ok (.bipush 100, 2) := by decide +kernel
theorem dX1_payMore_27 : decode cX1_payMore 27 = .ok (.idiv, 1) := by decide +kernel
theorem dX1_payMore_28 : decode cX1_payMore 28 = .ok (.aload_n 0, 1) := by decide +kernel
theorem dX1_payMore_29 : decode cX1_payMore 29 = .ok (.getfield 21, 3) := by decide +kernel
theorem dX1_payMore_32 : decode cX1_payMore 32 = .ok (.isub, 1) := by decide +kernel
theorem dX1_payMore_33 : decode cX1_payMore 33 = .ok (.iconst 0, 1) := by decide +kernel
theorem dX1_payMore_34 : decode cX1_payMore 34 = .ok (.invokestatic 57, 3) := by decide +kernel
theorem dX1_payMore_37 : decode cX1_payMore 37 = .ok (.istore_n 2, 1) := by decide +kernel
theorem dX1_payMore_38 : decode cX1_payMore 38 = .ok (.aload_n 0, 1) := by decide +kernel
theorem dX1_payMore_39 : decode cX1_payMore 39 = .ok (.dup, 1) := by decide +kernel
theorem dX1_payMore_40 : decode cX1_payMore 40 = .ok (.getfield 21, 3) := by decide +kernel
theorem dX1_payMore_43 : decode cX1_payMore 43 = .ok (.iload_n 2, 1) := by decide +kernel
theorem dX1_payMore_44 : decode cX1_payMore 44 = .ok (.iadd, 1) := by decide +kernel
theorem dX1_payMore_45 : decode cX1_payMore 45 = .ok (.putfield 21, 3) := by decide +kernel
theorem dX1_payMore_48 : decode cX1_payMore 48 = .ok (.aload_n 0, 1) := by decide +kernel
theorem dX1_payMore_49 : decode cX1_payMore 49 = .ok (.getfield 31, 3) := by decide +kernel
theorem dX1_payMore_52 : decode cX1_payMore 52 = .ok (.dup, 1) := by decide +kernel
theorem dX1_payMore_53 : decode cX1_payMore 53 = .ok (.getfield 63, 3) := by decide +kernel
theorem dX1_payMore_56 : decode cX1_payMore 56 = .ok (.iload_n 2, 1) := by decide +kernel
theorem dX1_payMore_57 : decode cX1_payMore 57 = .ok (.iadd, 1) := by decide +kernel
theorem dX1_payMore_58 : decode cX1_payMore 58 = .ok (.putfield 63, 3) := by decide +kernel
theorem dX1_payMore_61 : decode cX1_payMore 61 = .ok (.iload_n 2, 1) := by decide +kernel
theorem dX1_payMore_62 : decode cX1_payMore 62 = .ok (.ireturn, 1) := by decide +kernel
set_option maxHeartbeats 1000000 in
set_option maxRecDepth 100000 in
theorem c_X1_payMore (de : Nat) (w : Wd) (a fa : Nat) (mean : Int32) (ha : kd w a = 3) (hfa : fR w 3 0 a = some fa) (hk : kd w fa = 4) : Ct yX1_payMore cX1_payMore 3 (some .int) 1 21 0 0 de [.ref a, .int mean] w (fun r w' => (mean ≤ fI w 3 7 a / 10 + 20 → r = some (.int 0) ∧ w = w') ∧ (¬ mean ≤ fI w 3 7 a / 10 + 20 → r = some (.int (if (fI w 3 2 a * (mean - 20) / 100 - fI w 3 9 a) < 0 then 0 else (fI w 3 2 a * (mean - 20) / 100 - fI w 3 9 a))) ∧ w' = pI (pI w 3 9 a (fI w 3 9 a + (if (fI w 3 2 a * (mean - 20) / 100 - fI w 3 9 a) < 0 then 0 else (fI w 3 2 a * (mean - 20) / 100 - fI w 3 9 a)))) 4 5 fa (fI w 4 5 fa + (if (fI w 3 2 a * (mean - 20) / 100 - fI w 3 9 a) < 0 then 0 else (fI w 3 2 a * (mean - 20) / 100 - fI w 3 9 a))))) := by
  refine Ct.mk (by decide +kernel) [(0, .ref a), (1, .int mean)] rfl (Nat.le_of_ble_eq_true rfl) ?_
  intro p l e R s m args below meth c D cy z C hnm
  refine g_aload_n C dX1_payMore_0 rfl ?_
  refine g_getI C cls_2 3 7 ha rfl k_703 dX1_payMore_1 ?_
  refine g_bipush C 10 dX1_payMore_4 (by rfl) ?_
  refine g_idiv C dX1_payMore_6 (by decide) ?_
  refine g_bipush C 20 dX1_payMore_7 (by rfl) ?_
  refine g_iadd C dX1_payMore_9 ?_
  refine g_iload_n C dX1_payMore_10 rfl ?_
  refine g_icmp_lt C 16 dX1_payMore_11 (by decide) (fun c_11 => ?_) (fun c_11 => ?_)
  · refine g_aload_n C dX1_payMore_16 rfl ?_
    refine g_getI C cls_2 3 2 ha rfl k_696 dX1_payMore_17 ?_
    refine g_iload_n C dX1_payMore_20 rfl ?_
    refine g_bipush C 20 dX1_payMore_21 (by rfl) ?_
    refine g_isub C dX1_payMore_23 ?_
    refine g_imul C dX1_payMore_24 ?_
    refine g_bipush C 100 dX1_payMore_25 (by rfl) ?_
    refine g_idiv C dX1_payMore_27 (by decide) ?_
    refine g_aload_n C dX1_payMore_28 rfl ?_
    refine g_getI C cls_2 3 9 ha rfl k_707 dX1_payMore_29 ?_
    refine g_isub C dX1_payMore_32 ?_
    refine g_iconst C 0 dX1_payMore_33 (by rfl) ?_
    refine g_max C k_818 k_329 k_18 k_330 (by decide) (Nat.le_of_ble_eq_true rfl) (by decide) (by decide) dX1_payMore_34 ?_
    refine g_istore_n C dX1_payMore_37 (by decide) ?_
    refine g_aload_n C dX1_payMore_38 rfl ?_
    refine g_dup C dX1_payMore_39 rfl ?_
    refine g_getI C cls_2 3 9 ha rfl k_707 dX1_payMore_40 ?_
    refine g_iload_n C dX1_payMore_43 rfl ?_
    refine g_iadd C dX1_payMore_44 ?_
    refine g_putI C cls_2 3 9 ha rfl (Or.inl rfl) rfl rfl k_707 dX1_payMore_45 ?_
    refine g_aload_n C dX1_payMore_48 rfl ?_
    refine g_getR (b := fa) C cls_2 3 0 ha hfa rfl k_692 dX1_payMore_49 ?_
    refine g_dup C dX1_payMore_52 rfl ?_
    refine g_getI C cls_3 4 5 hk rfl k_544 dX1_payMore_53 ?_
    refine g_iload_n C dX1_payMore_56 rfl ?_
    refine g_iadd C dX1_payMore_57 ?_
    refine g_putI C cls_3 4 5 hk rfl (Or.inl rfl) rfl rfl k_544 dX1_payMore_58 ?_
    refine g_iload_n C dX1_payMore_61 rfl ?_
    refine g_iret C rfl rfl (by decide) (by decide) dX1_payMore_62 ?_
    exact ⟨fun h9 => absurd h9 (Int32.not_le.mpr c_11), fun _ => ⟨rfl, rfl⟩⟩
  · refine g_iconst C 0 dX1_payMore_14 (by rfl) ?_
    refine g_iret C rfl rfl (by decide) (by decide) dX1_payMore_15 ?_
    exact ⟨fun _ => ⟨rfl, rfl⟩, fun h9 => absurd (Int32.not_lt.mp c_11) h9⟩
theorem dX9_cutToCap_0 : decode cX9_cutToCap 0 = .ok (.aload_n 0, 1) := by decide +kernel
theorem dX9_cutToCap_1 : decode cX9_cutToCap 1 = .ok (.getfield 63, 3) := by decide +kernel
theorem dX9_cutToCap_4 : decode cX9_cutToCap 4 = .ok (.aload_n 0, 1) := by decide +kernel
theorem dX9_cutToCap_5 : decode cX9_cutToCap 5 = .ok (.getfield 66, 3) := by decide +kernel
theorem dX9_cutToCap_8 : decode cX9_cutToCap 8 = .ok (.iadd, 1) := by decide +kernel
theorem dX9_cutToCap_9 : decode cX9_cutToCap 9 = .ok (.istore_n 3, 1) := by decide +kernel
theorem dX9_cutToCap_10 : decode cX9_cutToCap 10 = .ok (.iload_n 2, 1) := by decide +kernel
theorem dX9_cutToCap_11 : decode cX9_cutToCap 11 = .ok (.ifCond .le 16, 3) := by decide +kernel
theorem dX9_cutToCap_14 : decode cX9_cutToCap 14 = .ok (.iload_n 2, 1) := by decide +kernel
theorem dX9_cutToCap_15 : decode cX9_cutToCap 15 = .ok (.iload_n 3, 1) := by decide +kernel
theorem dX9_cutToCap_16 : decode cX9_cutToCap 16 = .ok (.if_icmp .le 11, 3) := by decide +kernel
theorem dX9_cutToCap_19 : decode cX9_cutToCap 19 = .ok (.iload_n 1, 1) := by decide +kernel
theorem dX9_cutToCap_20 : decode cX9_cutToCap 20 = .ok (.iload_n 3, 1) := by decide +kernel
theorem dX9_cutToCap_21 : decode cX9_cutToCap 21 = .ok (.imul, 1) := by decide +kernel
theorem dX9_cutToCap_22 : decode cX9_cutToCap 22 = .ok (.iload_n 2, 1) := by decide +kernel
theorem dX9_cutToCap_23 : decode cX9_cutToCap 23 = .ok (.idiv, 1) := by decide +kernel
theorem dX9_cutToCap_24 : decode cX9_cutToCap 24 = .ok (.goto 4, 3) := by decide +kernel
theorem dX9_cutToCap_27 : decode cX9_cutToCap 27 = .ok (.iload_n 1, 1) := by decide +kernel
theorem dX9_cutToCap_28 : decode cX9_cutToCap 28 = .ok (.ireturn, 1) := by decide +kernel
set_option maxHeartbeats 1000000 in
set_option maxRecDepth 100000 in
theorem c_X9_cutToCap (de : Nat) (w : Wd) (x d al rt ly : Nat) (hx : kd w x = 11) (hrt : fI w 11 10 x = nI rt) (hly : fI w 11 11 x = nI ly) (hd : d ≤ 2000) (ha : al ≤ 120000) (hr9 : rt ≤ 99999) (hl9 : ly ≤ 99999) : Ct yX9_cutToCap cX9_cutToCap 4 (some .int) 0 0 0 0 de [.ref x, .int (nI d), .int (nI al)] w (fun r w' => r = some (.int (nI (cutN d (rt + ly) al))) ∧ w = w') := by
  refine Ct.mk (by decide +kernel) [(0, .ref x), (1, .int (nI d)), (2, .int (nI al))] rfl (Nat.le_of_ble_eq_true rfl) ?_
  intro p l e R s m args below meth c D cy z C hnm
  refine g_aload_n C dX9_cutToCap_0 rfl ?_
  refine g_getI C cls_10 11 10 hx rfl k_146 dX9_cutToCap_1 ?_
  rw [hrt]
  refine g_aload_n C dX9_cutToCap_4 rfl ?_
  refine g_getI C cls_10 11 11 hx rfl k_147 dX9_cutToCap_5 ?_
  rw [hly]
  refine g_iadd C dX9_cutToCap_8 ?_
  rw [nI_add]
  refine g_istore_n C dX9_cutToCap_9 (by decide) ?_
  refine g_iload_n C dX9_cutToCap_10 rfl ?_
  refine g_if_le C 27 dX9_cutToCap_11 (by decide) (fun c_11 => ?_) (fun c_11 => ?_)
  · refine g_iload_n C dX9_cutToCap_27 rfl ?_
    refine g_iret C rfl rfl (by decide) (by decide) dX9_cutToCap_28 ?_
    first
    | exact ⟨congrArg (fun v => some (Value.int v)) (by have h9 := nI_nleB c_16 (by omega) (by omega); unfold cutN; rw [if_pos h9, pk_mul, nI_div (by have := Nat.mul_le_mul hd (show rt + ly ≤ 199998 by omega); omega) (by omega) (by omega)]), rfl⟩
    | exact ⟨congrArg (fun v => some (Value.int v)) (by have h9 := nI_leB c_16 (by omega) (by omega); unfold cutN; rw [if_neg (by omega)]), rfl⟩
    | exact ⟨congrArg (fun v => some (Value.int v)) (by have h9 := nI_leB (b := 0) c_11 (by omega) (by omega); unfold cutN; rw [if_neg (by omega)]), rfl⟩
  · refine g_iload_n C dX9_cutToCap_14 rfl ?_
    refine g_iload_n C dX9_cutToCap_15 rfl ?_
    refine g_icmp_le C 27 dX9_cutToCap_16 (by decide) (fun c_16 => ?_) (fun c_16 => ?_)
    · refine g_iload_n C dX9_cutToCap_27 rfl ?_
      refine g_iret C rfl rfl (by decide) (by decide) dX9_cutToCap_28 ?_
      first
      | exact ⟨congrArg (fun v => some (Value.int v)) (by have h9 := nI_nleB c_16 (by omega) (by omega); unfold cutN; rw [if_pos h9, pk_mul, nI_div (by have := Nat.mul_le_mul hd (show rt + ly ≤ 199998 by omega); omega) (by omega) (by omega)]), rfl⟩
      | exact ⟨congrArg (fun v => some (Value.int v)) (by have h9 := nI_leB c_16 (by omega) (by omega); unfold cutN; rw [if_neg (by omega)]), rfl⟩
      | exact ⟨congrArg (fun v => some (Value.int v)) (by have h9 := nI_leB (b := 0) c_11 (by omega) (by omega); unfold cutN; rw [if_neg (by omega)]), rfl⟩
    · refine g_iload_n C dX9_cutToCap_19 rfl ?_
      refine g_iload_n C dX9_cutToCap_20 rfl ?_
      refine g_imul C dX9_cutToCap_21 ?_
      refine g_iload_n C dX9_cutToCap_22 rfl ?_
      refine g_idiv C dX9_cutToCap_23 (nI_ne0 (by have := nI_nleB (b := 0) c_11 (by omega) (by omega); omega) (by omega)) ?_
      refine g_goto C 28 dX9_cutToCap_24 (by decide) ?_
      refine g_iret C rfl rfl (by decide) (by decide) dX9_cutToCap_28 ?_
      first
      | exact ⟨congrArg (fun v => some (Value.int v)) (by have h9 := nI_nleB c_16 (by omega) (by omega); unfold cutN; rw [if_pos h9, pk_mul, nI_div (by have := Nat.mul_le_mul hd (show rt + ly ≤ 199998 by omega); omega) (by omega) (by omega)]), rfl⟩
      | exact ⟨congrArg (fun v => some (Value.int v)) (by have h9 := nI_leB c_16 (by omega) (by omega); unfold cutN; rw [if_neg (by omega)]), rfl⟩
      | exact ⟨congrArg (fun v => some (Value.int v)) (by have h9 := nI_leB (b := 0) c_11 (by omega) (by omega); unfold cutN; rw [if_neg (by omega)]), rfl⟩
end MAKE30
