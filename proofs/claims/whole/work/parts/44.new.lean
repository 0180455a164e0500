section NEW44
theorem ra_0 {F : Nat → Int32} {tl : Nat} (h : F 6 = (if tl = 0 then 0 else 1)) (ht : tl < 100000) : (nI tl ≤ 0 → decide (F 6 = 0) = true) ∧ (¬ nI tl ≤ 0 → decide (F 6 = 0) = false) := by
  rw [h]
  refine ⟨fun z => ?_, fun z => ?_⟩
  · have : tl ≤ 0 := (nI_leI (b := 0) (by omega) (by omega)).mp z
    rw [if_pos (by omega)]
    rfl
  · have : ¬ tl = 0 := fun q => z (by rw [q]; decide)
    rw [if_neg this]
    rfl
theorem dX9_station_0 : decode cX9_station 0 = .ok (.iload_n 1, 1) := by decide +kernel
theorem dX9_station_1 : decode cX9_station 1 = .ok (.iload_n 2, 1) := by decide +kernel
theorem dX9_station_2 : decode cX9_station 2 = .ok (.invokestatic 75, 3) := by decide +kernel
theorem dX9_station_5 : decode cX9_station 5 = .ok (.aload_n 0, 1) := by decide +kernel
theorem dX9_station_6 : decode cX9_station 6 = .ok (.getfield 10, 3) := by decide +kernel
theorem dX9_station_9 : decode cX9_station 9 = .ok (.getfield 79, 3) := by decide +kernel
theorem dX9_station_12 : decode cX9_station 12 = .ok (.invokevirtual 82, 3) := by decide +kernel
theorem dX9_station_15 : decode cX9_station 15 = .ok (.iconst 5, 1) := by decide +kernel
theorem dX9_station_16 : decode cX9_station 16 = .ok (.if_icmp .ge 13, 3) := by decide +kernel
theorem dX9_station_19 : decode cX9_station 19 = .ok (.aload_n 0, 1) := by decide +kernel
theorem dX9_station_20 : decode cX9_station 20 = .ok (.getfield 10, 3) := by decide +kernel
theorem dX9_station_23 : decode cX9_station 23 = .ok (.getfield 86, 3) := by decide +kernel
theorem dX9_station_26 : decode cX9_station 26 = .ok (.ifCond .le 13, 3) := by decide +kernel
theorem dX9_station_29 : decode cX9_station 29 = .ok (.new 89, 3) := by decide +kernel
theorem dX9_station_32 : decode cX9_station 32 = .ok (.dup, 1) := by decide +kernel
theorem dX9_station_33 : decode cX9_station 33 = .ok (.ldc 91, 2) := by decide +kernel
theorem dX9_station_35 : decode cX9_station 35 = .ok (.invokespecial 93, 3) := by decide +kernel
theorem dX9_station_38 : decode cX9_station 38 = .ok (.athrow, 1) := by decide +kernel
theorem dX9_station_39 : decode cX9_station 39 = .ok (.aload_n 0, 1) := by decide +kernel
theorem dX9_station_40 : decode cX9_station 40 = .ok (.getfield 10, 3) := by decide +kernel
theorem dX9_station_43 : decode cX9_station 43 = .ok (.getfield 79, 3) := by decide +kernel
theorem dX9_station_46 : decode cX9_station 46 = .ok (.new 96, 3) := by decide +kernel
theorem dX9_station_49 : decode cX9_station 49 = .ok (.dup, 1) := by decide +kernel
theorem dX9_station_50 : decode cX9_station 50 = .ok (.aload_n 0, 1) := by decide +kernel
theorem dX9_station_51 : decode cX9_station 51 = .ok (.getfield 10, 3) := by decide +kernel
theorem dX9_station_54 : decode cX9_station 54 = .ok (.getfield 79, 3) := by decide +kernel
theorem dX9_station_57 : decode cX9_station 57 = .ok (.invokevirtual 82, 3) := by decide +kernel
theorem dX9_station_60 : decode cX9_station 60 = .ok (.iload_n 1, 1) := by decide +kernel
theorem dX9_station_61 : decode cX9_station 61 = .ok (.iload_n 2, 1) := by decide +kernel
theorem dX9_station_62 : decode cX9_station 62 = .ok (.invokespecial 98, 3) := by decide +kernel
theorem dX9_station_65 : decode cX9_station 65 = .ok (.invokevirtual 101, 3) := by decide +kernel
theorem dX9_station_68 : decode cX9_station 68 = .ok (.pop, 1) := by decide +kernel
theorem dX9_station_69 : decode cX9_station 69 = .ok (.aload_n 0, 1) := by decide +kernel
theorem dX9_station_70 : decode cX9_station 70 = .ok (.getfield 10, 3) := by decide +kernel
theorem dX9_station_73 : decode cX9_station 73 = .ok (.getfield 79, 3) := by decide +kernel
theorem dX9_station_76 : decode cX9_station 76 = .ok (.invokevirtual 82, 3) := by decide +kernel
theorem dX9_station_79 : decode cX9_station 79 = .ok (.iconst 1, 1) := by decide +kernel
theorem dX9_station_80 : decode cX9_station 80 = .ok (.isub, 1) := by decide +kernel
theorem dX9_station_81 : decode cX9_station 81 = .ok (.ireturn, 1) := by decide +kernel
set_option maxHeartbeats 1000000 in
set_option maxRecDepth 100000 in
theorem c_X9_station (de : Nat) (w : Wd) (x : Nat) (A : Nat → Nat → Int32) (F : Nat → Int32) (nS nP nF nC tl : Nat) (ho cf cp cs sb pn : Nat → Nat) (dn : Nat → Nat → Nat) (ch : Nat → Nat → List (Nat × Int32)) (ca : Nat → Nat → Nat) (h : RC0 w de x A F nS nP nF nC tl ho cf cp cs sb pn dn ch ca) (hB : KB w nC A F ca) (T rt ly : Nat) (sN : Nat → Nat) (hv : PV A F nS nP nF nC tl ho cf cp cs sb pn dn ch T rt ly sN) (xa ya : Int32) (htl : tl < 100000) : Cw yX9_station cX9_station 3 (some .int) 7 171 8 1450 de [.ref x, .int xa, .int ya] w (fun r w' => goV (bI (inR xa 0 9 && inR ya 0 9)) (bI (decide (F 3 < 5) && decide (F 6 = 0))) 1 = 0 ∧ r = some (.int (F 3)) ∧ ∃ ca', RC0 w' de x (updA (updA A 1 nS xa) 2 nS ya) (updF F 3 (F 3 + 1)) (nS + 1) nP nF nC tl ho cf cp cs sb pn dn ch ca' ∧ KB w' nC (updA (updA A 1 nS xa) 2 nS ya) (updF F 3 (F 3 + 1)) ca' ∧ FrR w w') (fun E w' => w = w' ∧ ((E = "java/lang/IllegalArgumentException" ∧ goV (bI (inR xa 0 9 && inR ya 0 9)) (bI (decide (F 3 < 5) && decide (F 6 = 0))) 1 = 1) ∨ (E = "java/lang/IllegalStateException" ∧ goV (bI (inR xa 0 9 && inR ya 0 9)) (bI (decide (F 3 < 5) && decide (F 6 = 0))) 1 = 2))) := by
  refine Cw.mk (by decide +kernel) [(0, .ref x), (1, .int xa), (2, .int ya)] rfl (Nat.le_of_ble_eq_true rfl) ?_
  intro p l e R s m args below meth c D cy z C ht
  obtain ⟨h60, h16, h5, hcv, hho⟩ := id hv.hcv
  have hfr : FrR w w := FrR.rf
  have hbk : Kp [2] w w := Kp.rf
  have hnS : nS < 100000 := by omega
  have hnP : nP < 100000 := by have := hv.hP6; omega
  have hnF : nF < 100000 := by omega
  have hnC : nC < 100000 := by omega
  refine g_iload_n C dX9_station_0 rfl ?_
  refine g_iload_n C dX9_station_1 rfl ?_
  refine gx_callS C mt_X9_testPlace [.int xa, .int ya] (c_X9_testPlace de w xa ya) k_186 rfl rfl (Nat.le_of_ble_eq_true rfl) (by decide) (by decide) (by decide) (by decide) dX9_station_2 (fun E9 w9 hx9 => gx_out C ht (by decide) (by decide) ⟨hx9.2.1, Or.inl ⟨hx9.1, goV_1 hx9.2.2⟩⟩) (fun r_2 w_2 hp_2 => ?_)
  obtain ⟨rfl, rfl, f_2⟩ := hp_2
  refine g_aload_n C dX9_station_5 rfl ?_
  refine g_getR (b := (ca 9 0)) C cls_10 11 0 h.1.1 h.1.2.1 rfl k_136 dX9_station_6 ?_
  refine g_getR (b := (ca 9 3)) C cls_9 10 0 h.2.2.1.1.1 h.2.2.1.1.2.1 rfl k_68 dX9_station_9 ?_
  refine g_callV C cls_0 81 mt_Jx4a65c_size_8abf5 [] (c_sz de w 81 1013 KL_st (ca 9 3) nS (ca 0) h.2.2.1.1.2.2.1) h.2.2.1.1.2.2.1.1 (by decide) k_260 rfl rfl (Nat.le_of_ble_eq_true rfl) (by decide) (by decide) (by decide) (by decide) dX9_station_12 (fun r_12 w_12 hp_12 => ?_)
  obtain ⟨rfl, rfl⟩ := hp_12
  refine g_iconst C 5 dX9_station_15 (by rfl) ?_
  refine g_icmp_ge C 29 dX9_station_16 (by decide) (fun c_16 => ?_) (fun c_16 => ?_)
  · have b_16 := And.intro (decide_eq_false (Int32.not_lt.mpr c_16)) (decide_eq_true c_16)
    exact gx_throw C ht th_X9_93 k_264 k_15 (is := 91) (text := "there are 5 stations, or rain was told") (by decide) dX9_station_29 dX9_station_32 dX9_station_33 dX9_station_35 dX9_station_38 (by decide) (Nat.le_of_ble_eq_true rfl) (by decide) (by decide) (by first | exact ⟨rfl, Or.inr (⟨rfl, goV_2 f_2 (and_f1 (by rw [hv.hS]; exact b_16.1))⟩)⟩ | exact ⟨rfl, Or.inr (⟨rfl, goV_2 f_2 (and_f2 ((ra_0 hv.hra htl).2 c_26))⟩)⟩)
  · have b_16 := And.intro (decide_eq_true (Int32.not_le.mp c_16)) (decide_eq_false c_16)
    refine g_aload_n C dX9_station_19 rfl ?_
    refine g_getR (b := (ca 9 0)) C cls_10 11 0 h.1.1 h.1.2.1 rfl k_136 dX9_station_20 ?_
    refine g_getI C cls_9 10 1 h.2.2.1.1.1 rfl k_70 dX9_station_23 ?_
    rw [h.2.2.1.2.1]
    refine g_if_le C 39 dX9_station_26 (by decide) (fun c_26 => ?_) (fun c_26 => ?_)
    · have b_26 := And.intro (decide_eq_false (Int32.not_lt.mpr c_26)) (decide_eq_true c_26)
      refine g_aload_n C dX9_station_39 rfl ?_
      refine g_getR (b := (ca 9 0)) C cls_10 11 0 h.1.1 h.1.2.1 rfl k_136 dX9_station_40 ?_
      refine g_getR (b := (ca 9 3)) C cls_9 10 0 h.2.2.1.1.1 h.2.2.1.1.2.1 rfl k_68 dX9_station_43 ?_
      refine g_new C cls_7 dv_7 8 rfl k_280 k_281 k_16 (by decide) (by decide) dX9_station_46 (fun q hq => ?_)
      intro hde
      have h0 := h
      have hkq : kd (nw w q 8 0) q = 8 := nw_kd0
      have h := h0.kp ((Old.n1 hq : Old w (nw w q 8 0)).kp (by decide))
      refine g_dup C dX9_station_49 rfl ?_
      refine g_aload_n C dX9_station_50 rfl ?_
      refine g_getR (b := (ca 9 0)) C cls_10 11 0 h.1.1 h.1.2.1 rfl k_136 dX9_station_51 ?_
      refine g_getR (b := (ca 9 3)) C cls_9 10 0 h.2.2.1.1.1 h.2.2.1.1.2.1 rfl k_68 dX9_station_54 ?_
      refine g_callV C cls_0 81 mt_Jx4a65c_size_8abf5 [] (c_sz de _ 81 1013 KL_st (ca 9 3) nS (ca 0) h.2.2.1.1.2.2.1) h.2.2.1.1.2.2.1.1 (by decide) k_260 rfl rfl (Nat.le_of_ble_eq_true rfl) (by decide) (by decide) (by decide) (by decide) dX9_station_57 (fun r_57 w_57 hp_57 => ?_)
      obtain ⟨rfl, rfl⟩ := hp_57
      refine g_iload_n C dX9_station_60 rfl ?_
      refine g_iload_n C dX9_station_61 rfl ?_
      refine g_callI C mt_X6_init [.int (nI nS), .int xa, .int ya] (c_X6_init de _ q (nI nS) xa ya hkq) k_282 rfl rfl (Nat.le_of_ble_eq_true rfl) (by decide) (by decide) (by decide) (by decide) dX9_station_62 (fun r_62 w_62 hp_62 => ?_)
      obtain ⟨rfl, la, lk, hla, hlk, hll, f1, q1, q2, q3, q4, q5, q6, a1, a2, a3, b1, b2, b3⟩ := hp_62
      have hlaq : la ≠ q := fun z => by rw [z, hkq] at hla; exact absurd hla (by decide)
      have hlkq : lk ≠ q := fun z => by rw [z, hkq] at hlk; exact absurd hlk (by decide)
      replace hla : kd w la = 0 := (nw_kd hlaq).symm.trans hla
      replace hlk : kd w lk = 0 := (nw_kd hlkq).symm.trans hlk
      have o2 : Old w w_62 := Old.mk2 hq f1
      have h := h0.kp (o2.kp (by decide))
      refine g_de C (fun hde2 => ?_)
      refine g_callV C cls_0 81 mt_Jx4a65c_add_9ea2d [.ref q] (c_Jx4a65c_add_9ea2d de w_62 81 1013 KL_st cls_7 ca_Station 8 (by decide) (ca 9 3) nS q (ca 0) h.2.2.1.1.2.2.1 (by omega) q1 (fun i hi => (h.2.2.1.1.2.2.2.2 i hi).1)) h.2.2.1.1.2.2.1.1 (by decide) k_309 rfl rfl (Nat.le_of_ble_eq_true rfl) (by decide) (by decide) (by decide) (by decide) dX9_station_65 (fun r_65 w_65 hp_65 => ?_)
      obtain ⟨rfl, hadd⟩ := hp_65
      have hA := AddP.old o2 hadd h.2.2.1.1.2.2.1 hde2
      have sq := hadd.sm h.2.2.1.1.2.2.1 hde2 q (by rw [q1]; decide) (by rw [q1]; decide) (by rw [q1]; decide)
      have sla := hadd.sm h.2.2.1.1.2.2.1 hde2 la (by rw [a1]; decide) (by rw [a1]; decide) (by rw [a1]; decide)
      have slk := hadd.sm h.2.2.1.1.2.2.1 hde2 lk (by rw [b1]; decide) (by rw [b1]; decide) (by rw [b1]; decide)
      have hn5 : nS < 5 := nI_lt_of (b := 5) (of_decide_eq_true b_16.1) (by omega) (by omega)
      have h := stnR h0 hq hla hlk (Kp.add hA (by decide)) hadd.1 hn5 (fun i hi => (hho i hi).2) (xa := xa) (ya := ya) (v := F 3 + 1) (sq.1.trans q1) ((sq.2.2.1 _ _).trans q2) ((sq.2.2.1 _ _).trans q3) ((sq.2.2.1 _ _).trans q4) ((sq.2.2.2.1 _ _).trans q5) ((sq.2.2.2.1 _ _).trans q6) (sla.1.trans a1) (sla.2.1.trans a2) (fun j => by rw [sla.2.2.2.2.2.1]; exact a3 j) (slk.1.trans b1) (slk.2.1.trans b2) (fun j => by rw [slk.2.2.2.2.1]; exact b3 j) (fun j hj => hv.hzs nS (Nat.le_refl _) hn5 j hj) (fun d hd => (hv.hca nS hn5 d hd).2.2 (Nat.le_refl _))
      have hwe := hA (ca 9 0) (by rw [h0.2.2.1.1.1]; decide) (by rw [h0.2.2.1.1.1]; decide) (by rw [h0.2.2.1.1.1]; decide)
      have hxx := hA x (by rw [h0.1.1]; decide) (by rw [h0.1.1]; decide) (by rw [h0.1.1]; decide)
      refine g_pop C dX9_station_68 rfl ?_
      refine g_aload_n C dX9_station_69 rfl ?_
      refine g_getR (b := (ca 9 0)) C cls_10 11 0 h.1.1 ((hxx.2.2.2.1 _ _).trans h0.1.2.1) rfl k_136 dX9_station_70 ?_
      refine g_getR (b := (ca 9 3)) C cls_9 10 0 (hwe.1.trans h0.2.2.1.1.1) ((hwe.2.2.2.1 _ _).trans h0.2.2.1.1.2.1) rfl k_68 dX9_station_73 ?_
      refine g_callV C cls_0 81 mt_Jx4a65c_size_8abf5 [] (c_sz de w_65 81 1013 KL_st (ca 9 3) (nS + 1) _ hadd.1) hadd.1.1 (by decide) k_260 rfl rfl (Nat.le_of_ble_eq_true rfl) (by decide) (by decide) (by decide) (by decide) dX9_station_76 (fun r_76 w_76 hp_76 => ?_)
      obtain ⟨rfl, rfl⟩ := hp_76
      refine g_iconst C 1 dX9_station_79 (by rfl) ?_
      refine g_isub C dX9_station_80 ?_
      refine gx_ret <| g_iret C rfl rfl (by decide) (by decide) dX9_station_81 ?_
      exact ⟨goV_000 f_2 (and_t (by rw [hv.hS]; exact b_16.1) ((ra_0 hv.hra htl).1 c_26)), congrArg (fun v => some (Value.int v)) (by rw [← nI_1, a11, hv.hS]), _, h, (hB.mv (Kp.add hA (by decide)) (by rw [updA_row (by decide), updA_row (by decide)]) (if_neg (by decide))).adr (by rw [caU_row (by decide), caU_row (by decide), caU_row (by decide)]), FrR.add hA (by decide)⟩
    · have b_26 := And.intro (decide_eq_true (Int32.not_le.mp c_26)) (decide_eq_false c_26)
      exact gx_throw C ht th_X9_93 k_264 k_15 (is := 91) (text := "there are 5 stations, or rain was told") (by decide) dX9_station_29 dX9_station_32 dX9_station_33 dX9_station_35 dX9_station_38 (by decide) (Nat.le_of_ble_eq_true rfl) (by decide) (by decide) (by first | exact ⟨rfl, Or.inr (⟨rfl, goV_2 f_2 (and_f1 (by rw [hv.hS]; exact b_16.1))⟩)⟩ | exact ⟨rfl, Or.inr (⟨rfl, goV_2 f_2 (and_f2 ((ra_0 hv.hra htl).2 c_26))⟩)⟩)
end NEW44
