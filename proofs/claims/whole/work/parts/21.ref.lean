section REF21
theorem goV_012 {x y q : Bool} (h : goV (bI x) (bI y) (bI q) = 0) : x = true ∧ y = true ∧ q = true := by
  cases x <;> cases y <;> cases q <;> first | exact ⟨rfl, rfl, rfl⟩ | exact absurd h (by decide)
theorem goV_01 {x y : Bool} (h : goV (bI x) (bI y) 1 = 0) : x = true ∧ y = true := by
  cases x <;> cases y <;> first | exact ⟨rfl, rfl⟩ | exact absurd h (by decide)
theorem goV_0 {x : Bool} (h : goV (bI x) 1 1 = 0) : x = true := by
  cases x <;> first | rfl | exact absurd h (by decide)
theorem band {x y : Bool} (h : (x && y) = true) : x = true ∧ y = true := by
  cases x <;> cases y <;> first | exact ⟨rfl, rfl⟩ | exact absurd h (by decide)
theorem a11 {x : Int32} : x + 1 - 1 = x := by rw [Int32.add_sub_cancel]
theorem dX10_thrown_0 : decode cX10_thrown 0 = .ok (.aload_n 0, 1) := by decide +kernel
theorem dX10_thrown_1 : decode cX10_thrown 1 = .ok (.getfield 75, 3) := by decide +kernel
theorem dX10_thrown_4 : decode cX10_thrown 4 = .ok (.ireturn, 1) := by decide +kernel
set_option maxHeartbeats 4000000 in
set_option maxRecDepth 100000 in
theorem o_thrown (de : Nat) (w : Wd) (mo : Nat) (ad : Nat → Nat) (A : Nat → Nat → Int32) (F : Nat → Int32) (L : Int32) (g : Nat → Int32) (hm : RM w mo ad) : Ct yX10_thrown cX10_thrown 1 (some .int) 0 0 0 0 de [.ref mo] (M w mo ad A F L g) (fun r w' => r = some (.int L) ∧ (M w mo ad A F L g) = w') := by
  refine Ct.mk (by decide +kernel) [(0, .ref mo)] rfl (Nat.le_of_ble_eq_true rfl) ?_
  intro p l e R s m args below meth c D cy z C hnm
  refine g_aload_n C dX10_thrown_0 rfl ?_
  refine g_getI C cls_11 12 29 hm.1 rfl k_944 dX10_thrown_1 ?_
  rw [M_L]
  refine g_iret C rfl rfl (by decide) (by decide) dX10_thrown_4 ?_
  exact ⟨rfl, rfl⟩
theorem dX10_day_0 : decode cX10_day 0 = .ok (.aload_n 0, 1) := by decide +kernel
theorem dX10_day_1 : decode cX10_day 1 = .ok (.iconst 0, 1) := by decide +kernel
theorem dX10_day_2 : decode cX10_day 2 = .ok (.putfield 75, 3) := by decide +kernel
theorem dX10_day_5 : decode cX10_day 5 = .ok (.aload_n 0, 1) := by decide +kernel
theorem dX10_day_6 : decode cX10_day 6 = .ok (.getfield 103, 3) := by decide +kernel
theorem dX10_day_9 : decode cX10_day 9 = .ok (.ireturn, 1) := by decide +kernel
set_option maxHeartbeats 4000000 in
set_option maxRecDepth 100000 in
theorem o_day (de : Nat) (w : Wd) (mo : Nat) (ad : Nat → Nat) (A : Nat → Nat → Int32) (F : Nat → Int32) (L : Int32) (g : Nat → Int32) (hm : RM w mo ad) : Ct yX10_day cX10_day 1 (some .int) 0 0 0 0 de [.ref mo] (M w mo ad A F L g) (fun r w' => r = some (.int (F 0)) ∧ M w mo ad A F 0 g = w') := by
  refine Ct.mk (by decide +kernel) [(0, .ref mo)] rfl (Nat.le_of_ble_eq_true rfl) ?_
  intro p l e R s m args below meth c D cy z C hnm
  refine g_aload_n C dX10_day_0 rfl ?_
  refine g_iconst C 0 dX10_day_1 (by rfl) ?_
  refine g_putI C cls_11 12 29 hm.1 rfl (Or.inl rfl) rfl rfl k_944 dX10_day_2 ?_
  rw [M_pL]
  refine g_aload_n C dX10_day_5 rfl ?_
  refine g_getI C cls_11 12 0 hm.1 rfl k_915 dX10_day_6 ?_
  rw [M_f0]
  refine g_iret C rfl rfl (by decide) (by decide) dX10_day_9 ?_
  exact ⟨rfl, rfl⟩
theorem dX10_station_0 : decode cX10_station 0 = .ok (.aload_n 0, 1) := by decide +kernel
theorem dX10_station_1 : decode cX10_station 1 = .ok (.iload_n 1, 1) := by decide +kernel
theorem dX10_station_2 : decode cX10_station 2 = .ok (.iconst 0, 1) := by decide +kernel
theorem dX10_station_3 : decode cX10_station 3 = .ok (.bipush 9, 2) := by decide +kernel
theorem dX10_station_5 : decode cX10_station 5 = .ok (.invokestatic 81, 3) := by decide +kernel
theorem dX10_station_8 : decode cX10_station 8 = .ok (.ifCond .eq 17, 3) := by decide +kernel
theorem dX10_station_11 : decode cX10_station 11 = .ok (.iload_n 2, 1) := by decide +kernel
theorem dX10_station_12 : decode cX10_station 12 = .ok (.iconst 0, 1) := by decide +kernel
theorem dX10_station_13 : decode cX10_station 13 = .ok (.bipush 9, 2) := by decide +kernel
theorem dX10_station_15 : decode cX10_station 15 = .ok (.invokestatic 81, 3) := by decide +kernel
theorem dX10_station_18 : decode cX10_station 18 = .ok (.ifCond .eq 7, 3) := by decide +kernel
theorem dX10_station_21 : decode cX10_station 21 = .ok (.iconst 1, 1) := by decide +kernel
theorem dX10_station_22 : decode cX10_station 22 = .ok (.goto 4, 3) := by decide +kernel
theorem dX10_station_25 : decode cX10_station 25 = .ok (.iconst 0, 1) := by decide +kernel
theorem dX10_station_26 : decode cX10_station 26 = .ok (.aload_n 0, 1) := by decide +kernel
theorem dX10_station_27 : decode cX10_station 27 = .ok (.getfield 78, 3) := by decide +kernel
theorem dX10_station_30 : decode cX10_station 30 = .ok (.iconst 5, 1) := by decide +kernel
theorem dX10_station_31 : decode cX10_station 31 = .ok (.if_icmp .ge 14, 3) := by decide +kernel
theorem dX10_station_34 : decode cX10_station 34 = .ok (.aload_n 0, 1) := by decide +kernel
theorem dX10_station_35 : decode cX10_station 35 = .ok (.getfield 91, 3) := by decide +kernel
theorem dX10_station_38 : decode cX10_station 38 = .ok (.ifCond .ne 7, 3) := by decide +kernel
theorem dX10_station_41 : decode cX10_station 41 = .ok (.iconst 1, 1) := by decide +kernel
theorem dX10_station_42 : decode cX10_station 42 = .ok (.goto 4, 3) := by decide +kernel
theorem dX10_station_45 : decode cX10_station 45 = .ok (.iconst 0, 1) := by decide +kernel
theorem dX10_station_46 : decode cX10_station 46 = .ok (.iconst 1, 1) := by decide +kernel
theorem dX10_station_47 : decode cX10_station 47 = .ok (.invokevirtual 95, 3) := by decide +kernel
theorem dX10_station_50 : decode cX10_station 50 = .ok (.ifCond .ne 5, 3) := by decide +kernel
theorem dX10_station_53 : decode cX10_station 53 = .ok (.iconst 0, 1) := by decide +kernel
theorem dX10_station_54 : decode cX10_station 54 = .ok (.ireturn, 1) := by decide +kernel
theorem dX10_station_55 : decode cX10_station 55 = .ok (.aload_n 0, 1) := by decide +kernel
theorem dX10_station_56 : decode cX10_station 56 = .ok (.getfield 7, 3) := by decide +kernel
theorem dX10_station_59 : decode cX10_station 59 = .ok (.aload_n 0, 1) := by decide +kernel
theorem dX10_station_60 : decode cX10_station 60 = .ok (.getfield 78, 3) := by decide +kernel
theorem dX10_station_63 : decode cX10_station 63 = .ok (.iload_n 1, 1) := by decide +kernel
theorem dX10_station_64 : decode cX10_station 64 = .ok (.iastore, 1) := by decide +kernel
theorem dX10_station_65 : decode cX10_station 65 = .ok (.aload_n 0, 1) := by decide +kernel
theorem dX10_station_66 : decode cX10_station 66 = .ok (.getfield 13, 3) := by decide +kernel
theorem dX10_station_69 : decode cX10_station 69 = .ok (.aload_n 0, 1) := by decide +kernel
theorem dX10_station_70 : decode cX10_station 70 = .ok (.getfield 78, 3) := by decide +kernel
theorem dX10_station_73 : decode cX10_station 73 = .ok (.iload_n 2, 1) := by decide +kernel
theorem dX10_station_74 : decode cX10_station 74 = .ok (.iastore, 1) := by decide +kernel
theorem dX10_station_75 : decode cX10_station 75 = .ok (.aload_n 0, 1) := by decide +kernel
theorem dX10_station_76 : decode cX10_station 76 = .ok (.dup, 1) := by decide +kernel
theorem dX10_station_77 : decode cX10_station 77 = .ok (.getfield 78, 3) := by decide +kernel
theorem dX10_station_80 : decode cX10_station 80 = .ok (.iconst 1, 1) := by decide +kernel
theorem dX10_station_81 : decode cX10_station 81 = .ok (.iadd, 1) := by decide +kernel
theorem dX10_station_82 : decode cX10_station 82 = .ok (.putfield 78, 3) := by decide +kernel
theorem dX10_station_85 : decode cX10_station 85 = .ok (.aload_n 0, 1) := by decide +kernel
theorem dX10_station_86 : decode cX10_station 86 = .ok (.getfield 78, 3) := by decide +kernel
theorem dX10_station_89 : decode cX10_station 89 = .ok (.iconst 1, 1) := by decide +kernel
theorem dX10_station_90 : decode cX10_station 90 = .ok (.isub, 1) := by decide +kernel
theorem dX10_station_91 : decode cX10_station 91 = .ok (.ireturn, 1) := by decide +kernel
set_option maxHeartbeats 4000000 in
set_option maxRecDepth 100000 in
theorem o_station (de : Nat) (w : Wd) (mo : Nat) (ad : Nat → Nat) (A : Nat → Nat → Int32) (F : Nat → Int32) (L : Int32) (g : Nat → Int32) (hm : RM w mo ad) (xa ya : Int32) (nS : Nat) (hS : F 3 = nI nS) (hn9 : nS < 100) : Ct yX10_station cX10_station 3 (some .int) 1 23 0 0 de [.ref mo, .int xa, .int ya] (M w mo ad A F L g) (fun r w' => (goV (bI (inR xa 0 9 && inR ya 0 9)) (bI (decide (F 3 < 5) && decide (F 6 = 0))) 1 = 0 → r = some (.int (F 3)) ∧ ∃ g', w' = M w mo ad (updA (updA A 1 nS xa) 2 nS ya) (updF F 3 (F 3 + 1)) 0 g') ∧ (¬ goV (bI (inR xa 0 9 && inR ya 0 9)) (bI (decide (F 3 < 5) && decide (F 6 = 0))) 1 = 0 → r = some (.int 0) ∧ w' = M w mo ad A F (goV (bI (inR xa 0 9 && inR ya 0 9)) (bI (decide (F 3 < 5) && decide (F 6 = 0))) 1) g)) := by
  refine Ct.mk (by decide +kernel) [(0, .ref mo), (1, .int xa), (2, .int ya)] rfl (Nat.le_of_ble_eq_true rfl) ?_
  intro p l e R s m args below meth c D cy z C hnm
  refine g_aload_n C dX10_station_0 rfl ?_
  refine g_cutS (pc' := 26) (.int (bI (inR xa 0 9 && inR ya 0 9))) ?_ (fun j_26 => ?_)
  · refine g_cutS (pc' := 46) (.int (bI (decide (F 3 < 5) && decide (F 6 = 0)))) ?_ (fun j_46 => ?_)
    · refine g_iconst C 1 dX10_station_46 (by rfl) ?_
      refine g_callV C cls_11 12 mt_X10_goes [.int (bI (inR xa 0 9 && inR ya 0 9)), .int (bI (decide (F 3 < 5) && decide (F 6 = 0))), .int 1] (m_goes de w mo ad A F L g hm (bI (inR xa 0 9 && inR ya 0 9)) (bI (decide (F 3 < 5) && decide (F 6 = 0))) 1) hm.1 (by decide) k_1017 rfl rfl (Nat.le_of_ble_eq_true rfl) (by decide) (by decide) (by decide) (by decide) dX10_station_47 (fun r_47 w_47 hp_47 => ?_)
      obtain ⟨rfl, rfl⟩ := hp_47
      refine g_if_ne C 55 dX10_station_50 (by decide) (fun c_50 => ?_) (fun c_50 => ?_)
      · have b_50 := bI_n0.mp c_50
        have hg := of_decide_eq_true b_50
        rw [hg]
        obtain ⟨ha9, hb9⟩ := goV_01 hg
        have hn := nI_lt_of (b := 5) (hS ▸ of_decide_eq_true (band hb9).1) (by omega) (by omega)
        refine g_aload_n C dX10_station_55 rfl ?_
        refine g_getR (b := (ad 1)) C cls_11 12 1 hm.1 (rm_1 hm).1 rfl k_916 dX10_station_56 ?_
        refine g_aload_n C dX10_station_59 rfl ?_
        refine g_getI C cls_11 12 3 hm.1 rfl k_918 dX10_station_60 ?_
        rw [M_f3]
        rw [hS]
        refine g_iload_n C dX10_station_63 rfl ?_
        refine g_iast C 2010 (rm_1 hm).2.1 rfl (show vp_in (nI (nS)) (aL w (ad 1)) by rw [(rm_1 hm).2.2]; exact nI_vp (show nS < 5 by omega) (by omega)) dX10_station_64 ?_
        rw [nI_tn (show nS ≤ 100000 by omega), M_p1]
        refine g_aload_n C dX10_station_65 rfl ?_
        refine g_getR (b := (ad 2)) C cls_11 12 2 hm.1 (rm_2 hm).1 rfl k_917 dX10_station_66 ?_
        refine g_aload_n C dX10_station_69 rfl ?_
        refine g_getI C cls_11 12 3 hm.1 rfl k_918 dX10_station_70 ?_
        rw [M_f3]
        rw [hS]
        refine g_iload_n C dX10_station_73 rfl ?_
        refine g_iast C 2020 (rm_2 hm).2.1 rfl (show vp_in (nI (nS)) (aL w (ad 2)) by rw [(rm_2 hm).2.2]; exact nI_vp (show nS < 5 by omega) (by omega)) dX10_station_74 ?_
        rw [nI_tn (show nS ≤ 100000 by omega), M_p2]
        refine g_aload_n C dX10_station_75 rfl ?_
        refine g_dup C dX10_station_76 rfl ?_
        refine g_getI C cls_11 12 3 hm.1 rfl k_918 dX10_station_77 ?_
        rw [M_f3]
        rw [hS]
        refine g_iconst C 1 dX10_station_80 (by rfl) ?_
        refine g_iadd C dX10_station_81 ?_
        refine g_putI C cls_11 12 3 hm.1 rfl (Or.inl rfl) rfl rfl k_918 dX10_station_82 ?_
        rw [M_q3]
        refine g_aload_n C dX10_station_85 rfl ?_
        refine g_getI C cls_11 12 3 hm.1 rfl k_918 dX10_station_86 ?_
        rw [M_f3]
        refine g_iconst C 1 dX10_station_89 (by rfl) ?_
        refine g_isub C dX10_station_90 ?_
        refine g_iret C rfl rfl (by decide) (by decide) dX10_station_91 ?_
        first
        | exact ⟨fun h9 => absurd h9 hg, fun _ => ⟨rfl, rfl⟩⟩
        | (refine ⟨fun _ => ⟨?_, _, rfl⟩, fun h9 => absurd rfl h9⟩; exact congrArg (fun v => some (Value.int v)) (a11))
      · have b_50 := bI_0.mp c_50
        have hg := of_decide_eq_false b_50
        refine g_iconst C 0 dX10_station_53 (by rfl) ?_
        refine g_iret C rfl rfl (by decide) (by decide) dX10_station_54 ?_
        first
        | exact ⟨fun h9 => absurd h9 hg, fun _ => ⟨rfl, rfl⟩⟩
        | (refine ⟨fun _ => ⟨?_, _, rfl⟩, fun h9 => absurd rfl h9⟩; exact congrArg (fun v => some (Value.int v)) (a11))
    · refine g_aload_n C dX10_station_26 rfl ?_
      refine g_getI C cls_11 12 3 hm.1 rfl k_918 dX10_station_27 ?_
      rw [M_f3]
      refine g_iconst C 5 dX10_station_30 (by rfl) ?_
      refine g_icmp_ge C 45 dX10_station_31 (by decide) (fun c_31 => ?_) (fun c_31 => ?_)
      · have b_31 := And.intro (decide_eq_false (Int32.not_lt.mpr c_31)) (decide_eq_true c_31)
        refine g_iconst C 0 dX10_station_45 (by rfl) ?_
        exact g_eq rfl (congrArg (fun v => Value.int v :: _) (by first | rfl | (simp only [b_31]; done) | (simp only [b_31]; rfl) | (simp [b_31, bI]; done))) rfl j_46
      · have b_31 := And.intro (decide_eq_true (Int32.not_le.mp c_31)) (decide_eq_false c_31)
        refine g_aload_n C dX10_station_34 rfl ?_
        refine g_getI C cls_11 12 6 hm.1 rfl k_921 dX10_station_35 ?_
        rw [M_f6]
        refine g_if_ne C 45 dX10_station_38 (by decide) (fun c_38 => ?_) (fun c_38 => ?_)
        · have b_38 := decide_eq_false c_38
          refine g_iconst C 0 dX10_station_45 (by rfl) ?_
          exact g_eq rfl (congrArg (fun v => Value.int v :: _) (by first | rfl | (simp only [b_31, b_38]; done) | (simp only [b_31, b_38]; rfl) | (simp [b_31, b_38, bI]; done))) rfl j_46
        · have b_38 := decide_eq_true c_38
          refine g_iconst C 1 dX10_station_41 (by rfl) ?_
          refine g_goto C 46 dX10_station_42 (by decide) ?_
          exact g_eq rfl (congrArg (fun v => Value.int v :: _) (by first | rfl | (simp only [b_31, b_38]; done) | (simp only [b_31, b_38]; rfl) | (simp [b_31, b_38, bI]; done))) rfl j_46
  · refine g_iload_n C dX10_station_1 rfl ?_
    refine g_iconst C 0 dX10_station_2 (by rfl) ?_
    refine g_bipush C 9 dX10_station_3 (by rfl) ?_
    refine g_callS C mt_X10_in [.int xa, .int 0, .int 9] (c_X10_in de _ xa 0 9) k_1014 rfl rfl (Nat.le_of_ble_eq_true rfl) (by decide) (by decide) (by decide) (by decide) dX10_station_5 (fun r_5 w_5 hp_5 => ?_)
    obtain ⟨rfl, rfl⟩ := hp_5
    refine g_if_eq C 25 dX10_station_8 (by decide) (fun c_8 => ?_) (fun c_8 => ?_)
    · have b_8 := bI_0.mp c_8
      refine g_iconst C 0 dX10_station_25 (by rfl) ?_
      exact g_eq rfl (congrArg (fun v => Value.int v :: _) (by first | rfl | (simp only [b_8]; done) | (simp only [b_8]; rfl) | (simp [b_8, bI]; done))) rfl j_26
    · have b_8 := bI_n0.mp c_8
      refine g_iload_n C dX10_station_11 rfl ?_
      refine g_iconst C 0 dX10_station_12 (by rfl) ?_
      refine g_bipush C 9 dX10_station_13 (by rfl) ?_
      refine g_callS C mt_X10_in [.int ya, .int 0, .int 9] (c_X10_in de _ ya 0 9) k_1014 rfl rfl (Nat.le_of_ble_eq_true rfl) (by decide) (by decide) (by decide) (by decide) dX10_station_15 (fun r_15 w_15 hp_15 => ?_)
      obtain ⟨rfl, rfl⟩ := hp_15
      refine g_if_eq C 25 dX10_station_18 (by decide) (fun c_18 => ?_) (fun c_18 => ?_)
      · have b_18 := bI_0.mp c_18
        refine g_iconst C 0 dX10_station_25 (by rfl) ?_
        exact g_eq rfl (congrArg (fun v => Value.int v :: _) (by first | rfl | (simp only [b_8, b_18]; done) | (simp only [b_8, b_18]; rfl) | (simp [b_8, b_18, bI]; done))) rfl j_26
      · have b_18 := bI_n0.mp c_18
        refine g_iconst C 1 dX10_station_21 (by rfl) ?_
        refine g_goto C 26 dX10_station_22 (by decide) ?_
        exact g_eq rfl (congrArg (fun v => Value.int v :: _) (by first | rfl | (simp only [b_8, b_18]; done) | (simp only [b_8, b_18]; rfl) | (simp [b_8, b_18, bI]; done))) rfl j_26
theorem dX10_rain_0 : decode cX10_rain 0 = .ok (.aload_n 0, 1) := by decide +kernel
theorem dX10_rain_1 : decode cX10_rain 1 = .ok (.aload_n 0, 1) := by decide +kernel
theorem dX10_rain_2 : decode cX10_rain 2 = .ok (.iload_n 1, 1) := by decide +kernel
theorem dX10_rain_3 : decode cX10_rain 3 = .ok (.invokevirtual 99, 3) := by decide +kernel
theorem dX10_rain_6 : decode cX10_rain 6 = .ok (.iload_n 2, 1) := by decide +kernel
theorem dX10_rain_7 : decode cX10_rain 7 = .ok (.iconst 0, 1) := by decide +kernel
theorem dX10_rain_8 : decode cX10_rain 8 = .ok (.aload_n 0, 1) := by decide +kernel
theorem dX10_rain_9 : decode cX10_rain 9 = .ok (.getfield 103, 3) := by decide +kernel
theorem dX10_rain_12 : decode cX10_rain 12 = .ok (.invokestatic 81, 3) := by decide +kernel
theorem dX10_rain_15 : decode cX10_rain 15 = .ok (.ifCond .eq 18, 3) := by decide +kernel
theorem dX10_rain_18 : decode cX10_rain 18 = .ok (.iload_n 3, 1) := by decide +kernel
theorem dX10_rain_19 : decode cX10_rain 19 = .ok (.iconst 0, 1) := by decide +kernel
theorem dX10_rain_20 : decode cX10_rain 20 = .ok (.sipush 2000, 3) := by decide +kernel
theorem dX10_rain_23 : decode cX10_rain 23 = .ok (.invokestatic 81, 3) := by decide +kernel
theorem dX10_rain_26 : decode cX10_rain 26 = .ok (.ifCond .eq 7, 3) := by decide +kernel
theorem dX10_rain_29 : decode cX10_rain 29 = .ok (.iconst 1, 1) := by decide +kernel
theorem dX10_rain_30 : decode cX10_rain 30 = .ok (.goto 4, 3) := by decide +kernel
theorem dX10_rain_33 : decode cX10_rain 33 = .ok (.iconst 0, 1) := by decide +kernel
theorem dX10_rain_34 : decode cX10_rain 34 = .ok (.iconst 1, 1) := by decide +kernel
theorem dX10_rain_35 : decode cX10_rain 35 = .ok (.invokevirtual 95, 3) := by decide +kernel
theorem dX10_rain_38 : decode cX10_rain 38 = .ok (.ifCond .ne 5, 3) := by decide +kernel
theorem dX10_rain_41 : decode cX10_rain 41 = .ok (.iconst 0, 1) := by decide +kernel
theorem dX10_rain_42 : decode cX10_rain 42 = .ok (.ireturn, 1) := by decide +kernel
theorem dX10_rain_43 : decode cX10_rain 43 = .ok (.sipush 1200, 3) := by decide +kernel
theorem dX10_rain_46 : decode cX10_rain 46 = .ok (.iload_n 1, 1) := by decide +kernel
theorem dX10_rain_47 : decode cX10_rain 47 = .ok (.imul, 1) := by decide +kernel
theorem dX10_rain_48 : decode cX10_rain 48 = .ok (.iload_n 2, 1) := by decide +kernel
theorem dX10_rain_49 : decode cX10_rain 49 = .ok (.iadd, 1) := by decide +kernel
theorem dX10_rain_50 : decode cX10_rain 50 = .ok (.istore 4, 2) := by decide +kernel
theorem dX10_rain_52 : decode cX10_rain 52 = .ok (.aload_n 0, 1) := by decide +kernel
theorem dX10_rain_53 : decode cX10_rain 53 = .ok (.getfield 19, 3) := by decide +kernel
theorem dX10_rain_56 : decode cX10_rain 56 = .ok (.iload 4, 2) := by decide +kernel
theorem dX10_rain_58 : decode cX10_rain 58 = .ok (.iaload, 1) := by decide +kernel
theorem dX10_rain_59 : decode cX10_rain 59 = .ok (.iconst 1, 1) := by decide +kernel
theorem dX10_rain_60 : decode cX10_rain 60 = .ok (.isub, 1) := by decide +kernel
theorem dX10_rain_61 : decode cX10_rain 61 = .ok (.istore 5, 2) := by decide +kernel
theorem dX10_rain_63 : decode cX10_rain 63 = .ok (.aload_n 0, 1) := by decide +kernel
theorem dX10_rain_64 : decode cX10_rain 64 = .ok (.getfield 16, 3) := by decide +kernel
theorem dX10_rain_67 : decode cX10_rain 67 = .ok (.iload 4, 2) := by decide +kernel
theorem dX10_rain_69 : decode cX10_rain 69 = .ok (.aload_n 0, 1) := by decide +kernel
theorem dX10_rain_70 : decode cX10_rain 70 = .ok (.getfield 16, 3) := by decide +kernel
theorem dX10_rain_73 : decode cX10_rain 73 = .ok (.iload 4, 2) := by decide +kernel
theorem dX10_rain_75 : decode cX10_rain 75 = .ok (.iaload, 1) := by decide +kernel
theorem dX10_rain_76 : decode cX10_rain 76 = .ok (.ifCond .ne 9, 3) := by decide +kernel
theorem dX10_rain_79 : decode cX10_rain 79 = .ok (.iload_n 3, 1) := by decide +kernel
theorem dX10_rain_80 : decode cX10_rain 80 = .ok (.iconst 1, 1) := by decide +kernel
theorem dX10_rain_81 : decode cX10_rain 81 = .ok (.iadd, 1) := by decide +kernel
theorem dX10_rain_82 : decode cX10_rain 82 = .ok (.goto 10, 3) := by decide +kernel
theorem dX10_rain_85 : decode cX10_rain 85 = .ok (.aload_n 0, 1) := by decide +kernel
theorem dX10_rain_86 : decode cX10_rain 86 = .ok (.getfield 16, 3) := by decide +kernel
theorem dX10_rain_89 : decode cX10_rain 89 = .ok (.iload 4, 2) := by decide +kernel
theorem dX10_rain_91 : decode cX10_rain 91 = .ok (.iaload, 1) := by decide +kernel
theorem dX10_rain_92 : decode cX10_rain 92 = .ok (.iastore, 1) := by decide +kernel
theorem dX10_rain_93 : decode cX10_rain 93 = .ok (.aload_n 0, 1) := by decide +kernel
theorem dX10_rain_94 : decode cX10_rain 94 = .ok (.getfield 19, 3) := by decide +kernel
theorem dX10_rain_97 : decode cX10_rain 97 = .ok (.iload 4, 2) := by decide +kernel
theorem dX10_rain_99 : decode cX10_rain 99 = .ok (.iload_n 3, 1) := by decide +kernel
theorem dX10_rain_100 : decode cX10_rain 100 = .ok (.iconst 1, 1) := by decide +kernel
theorem dX10_rain_101 : decode cX10_rain 101 = .ok (.iadd, 1) := by decide +kernel
theorem dX10_rain_102 : decode cX10_rain 102 = .ok (.iastore, 1) := by decide +kernel
theorem dX10_rain_103 : decode cX10_rain 103 = .ok (.aload_n 0, 1) := by decide +kernel
theorem dX10_rain_104 : decode cX10_rain 104 = .ok (.iconst 1, 1) := by decide +kernel
theorem dX10_rain_105 : decode cX10_rain 105 = .ok (.putfield 91, 3) := by decide +kernel
theorem dX10_rain_108 : decode cX10_rain 108 = .ok (.iload 5, 2) := by decide +kernel
theorem dX10_rain_110 : decode cX10_rain 110 = .ok (.ireturn, 1) := by decide +kernel
set_option maxHeartbeats 4000000 in
set_option maxRecDepth 100000 in
theorem o_rain (de : Nat) (w : Wd) (mo : Nat) (ad : Nat → Nat) (A : Nat → Nat → Int32) (F : Nat → Int32) (L : Int32) (g : Nat → Int32) (hm : RM w mo ad) (xs xd tt : Int32) (nS s0 d : Nat) (hn5 : nS ≤ 5) (hst : inR xs 0 (F 3 - 1) = true → xs = nI s0 ∧ s0 < nS) (hdd : inR xd 0 (F 0) = true → xd = nI d ∧ d < 1200) : Ct yX10_rain cX10_rain 6 (some .int) 2 43 0 0 de [.ref mo, .int xs, .int xd, .int tt] (M w mo ad A F L g) (fun r w' => (goV (bI (inR xs 0 (F 3 - 1))) (bI (inR xd 0 (F 0) && inR tt 0 2000)) 1 = 0 → r = some (.int (A 5 (1200 * s0 + d) - 1)) ∧ ∃ g', w' = M w mo ad (updA (updA A 4 (1200 * s0 + d) (if A 4 (1200 * s0 + d) = 0 then tt + 1 else A 4 (1200 * s0 + d))) 5 (1200 * s0 + d) (tt + 1)) (updF F 6 1) 0 g') ∧ (¬ goV (bI (inR xs 0 (F 3 - 1))) (bI (inR xd 0 (F 0) && inR tt 0 2000)) 1 = 0 → r = some (.int 0) ∧ w' = M w mo ad A F (goV (bI (inR xs 0 (F 3 - 1))) (bI (inR xd 0 (F 0) && inR tt 0 2000)) 1) g)) := by
  refine Ct.mk (by decide +kernel) [(0, .ref mo), (1, .int xs), (2, .int xd), (3, .int tt)] rfl (Nat.le_of_ble_eq_true rfl) ?_
  intro p l e R s m args below meth c D cy z C hnm
  refine g_aload_n C dX10_rain_0 rfl ?_
  refine g_aload_n C dX10_rain_1 rfl ?_
  refine g_iload_n C dX10_rain_2 rfl ?_
  refine g_callV C cls_11 12 mt_X10_isStation [.int xs] (m_isStation de w mo ad A F L g hm xs) hm.1 (by decide) k_1025 rfl rfl (Nat.le_of_ble_eq_true rfl) (by decide) (by decide) (by decide) (by decide) dX10_rain_3 (fun r_3 w_3 hp_3 => ?_)
  obtain ⟨rfl, rfl⟩ := hp_3
  refine g_cutS (pc' := 34) (.int (bI (inR xd 0 (F 0) && inR tt 0 2000))) ?_ (fun j_34 => ?_)
  · refine g_iconst C 1 dX10_rain_34 (by rfl) ?_
    refine g_callV C cls_11 12 mt_X10_goes [.int (bI (inR xs 0 (F 3 - 1))), .int (bI (inR xd 0 (F 0) && inR tt 0 2000)), .int 1] (m_goes de w mo ad A F L g hm (bI (inR xs 0 (F 3 - 1))) (bI (inR xd 0 (F 0) && inR tt 0 2000)) 1) hm.1 (by decide) k_1017 rfl rfl (Nat.le_of_ble_eq_true rfl) (by decide) (by decide) (by decide) (by decide) dX10_rain_35 (fun r_35 w_35 hp_35 => ?_)
    obtain ⟨rfl, rfl⟩ := hp_35
    refine g_if_ne C 43 dX10_rain_38 (by decide) (fun c_38 => ?_) (fun c_38 => ?_)
    · have b_38 := bI_n0.mp c_38
      have hg := of_decide_eq_true b_38
      rw [hg]
      obtain ⟨ha9, hb9⟩ := goV_01 hg
      obtain ⟨rfl, hs5⟩ := hst ha9
      obtain ⟨rfl, hd5⟩ := hdd (band hb9).1
      refine g_sipush C 1200 dX10_rain_43 (by rfl) ?_
      refine g_iload_n C dX10_rain_46 rfl ?_
      refine g_imul C dX10_rain_47 ?_
      refine g_iload_n C dX10_rain_48 rfl ?_
      refine g_iadd C dX10_rain_49 ?_
      rw [show (1200 : Int32) * nI s0 + nI d = nI (1200 * s0 + d) from ixm 1200 s0 d]
      refine g_istore C dX10_rain_50 (by decide) ?_
      refine g_aload_n C dX10_rain_52 rfl ?_
      refine g_getR (b := (ad 5)) C cls_11 12 5 hm.1 (rm_5 hm).1 rfl k_920 dX10_rain_53 ?_
      refine g_iload C dX10_rain_56 rfl ?_
      refine g_iald C 2050 (rm_5 hm).2.1 rfl (show vp_in (nI ((1200 * s0 + d))) (aL w (ad 5)) by rw [(rm_5 hm).2.2]; exact nI_vp (show (1200 * s0 + d) < 6000 by omega) (by omega)) dX10_rain_58 ?_
      rw [M_a5, nI_tn (show (1200 * s0 + d) ≤ 100000 by omega)]
      refine g_iconst C 1 dX10_rain_59 (by rfl) ?_
      refine g_isub C dX10_rain_60 ?_
      refine g_istore C dX10_rain_61 (by decide) ?_
      refine g_aload_n C dX10_rain_63 rfl ?_
      refine g_getR (b := (ad 4)) C cls_11 12 4 hm.1 (rm_4 hm).1 rfl k_919 dX10_rain_64 ?_
      refine g_iload C dX10_rain_67 rfl ?_
      refine g_cutS (pc' := 92) (.int (if A 4 (1200 * s0 + d) = 0 then tt + 1 else A 4 (1200 * s0 + d))) ?_ (fun j_92 => ?_)
      · refine g_iast C 2040 (rm_4 hm).2.1 rfl (show vp_in (nI ((1200 * s0 + d))) (aL w (ad 4)) by rw [(rm_4 hm).2.2]; exact nI_vp (show (1200 * s0 + d) < 6000 by omega) (by omega)) dX10_rain_92 ?_
        rw [nI_tn (show (1200 * s0 + d) ≤ 100000 by omega), M_p4]
        refine g_aload_n C dX10_rain_93 rfl ?_
        refine g_getR (b := (ad 5)) C cls_11 12 5 hm.1 (rm_5 hm).1 rfl k_920 dX10_rain_94 ?_
        refine g_iload C dX10_rain_97 rfl ?_
        refine g_iload_n C dX10_rain_99 rfl ?_
        refine g_iconst C 1 dX10_rain_100 (by rfl) ?_
        refine g_iadd C dX10_rain_101 ?_
        refine g_iast C 2050 (rm_5 hm).2.1 rfl (show vp_in (nI ((1200 * s0 + d))) (aL w (ad 5)) by rw [(rm_5 hm).2.2]; exact nI_vp (show (1200 * s0 + d) < 6000 by omega) (by omega)) dX10_rain_102 ?_
        rw [nI_tn (show (1200 * s0 + d) ≤ 100000 by omega), M_p5]
        refine g_aload_n C dX10_rain_103 rfl ?_
        refine g_iconst C 1 dX10_rain_104 (by rfl) ?_
        refine g_putI C cls_11 12 6 hm.1 rfl (Or.inl rfl) rfl rfl k_921 dX10_rain_105 ?_
        rw [M_q6]
        refine g_iload C dX10_rain_108 rfl ?_
        refine g_iret C rfl rfl (by decide) (by decide) dX10_rain_110 ?_
        first
        | exact ⟨fun h9 => absurd h9 hg, fun _ => ⟨rfl, rfl⟩⟩
        | (refine ⟨fun _ => ⟨?_, _, rfl⟩, fun h9 => absurd rfl h9⟩; exact congrArg (fun v => some (Value.int v)) (rfl))
      · refine g_aload_n C dX10_rain_69 rfl ?_
        refine g_getR (b := (ad 4)) C cls_11 12 4 hm.1 (rm_4 hm).1 rfl k_919 dX10_rain_70 ?_
        refine g_iload C dX10_rain_73 rfl ?_
        refine g_iald C 2040 (rm_4 hm).2.1 rfl (show vp_in (nI ((1200 * s0 + d))) (aL w (ad 4)) by rw [(rm_4 hm).2.2]; exact nI_vp (show (1200 * s0 + d) < 6000 by omega) (by omega)) dX10_rain_75 ?_
        rw [M_a4, nI_tn (show (1200 * s0 + d) ≤ 100000 by omega)]
        refine g_if_ne C 85 dX10_rain_76 (by decide) (fun c_76 => ?_) (fun c_76 => ?_)
        · have b_76 := decide_eq_false c_76
          refine g_aload_n C dX10_rain_85 rfl ?_
          refine g_getR (b := (ad 4)) C cls_11 12 4 hm.1 (rm_4 hm).1 rfl k_919 dX10_rain_86 ?_
          refine g_iload C dX10_rain_89 rfl ?_
          refine g_iald C 2040 (rm_4 hm).2.1 rfl (show vp_in (nI ((1200 * s0 + d))) (aL w (ad 4)) by rw [(rm_4 hm).2.2]; exact nI_vp (show (1200 * s0 + d) < 6000 by omega) (by omega)) dX10_rain_91 ?_
          rw [M_a4, nI_tn (show (1200 * s0 + d) ≤ 100000 by omega)]
          exact g_eq rfl (congrArg (fun v => Value.int v :: _) (by first | exact (if_pos c_76).symm | exact (if_neg c_76).symm)) rfl j_92
        · have b_76 := decide_eq_true c_76
          refine g_iload_n C dX10_rain_79 rfl ?_
          refine g_iconst C 1 dX10_rain_80 (by rfl) ?_
          refine g_iadd C dX10_rain_81 ?_
          refine g_goto C 92 dX10_rain_82 (by decide) ?_
          exact g_eq rfl (congrArg (fun v => Value.int v :: _) (by first | exact (if_pos c_76).symm | exact (if_neg c_76).symm)) rfl j_92
    · have b_38 := bI_0.mp c_38
      have hg := of_decide_eq_false b_38
      refine g_iconst C 0 dX10_rain_41 (by rfl) ?_
      refine g_iret C rfl rfl (by decide) (by decide) dX10_rain_42 ?_
      first
      | exact ⟨fun h9 => absurd h9 hg, fun _ => ⟨rfl, rfl⟩⟩
      | (refine ⟨fun _ => ⟨?_, _, rfl⟩, fun h9 => absurd rfl h9⟩; exact congrArg (fun v => some (Value.int v)) (rfl))
  · refine g_iload_n C dX10_rain_6 rfl ?_
    refine g_iconst C 0 dX10_rain_7 (by rfl) ?_
    refine g_aload_n C dX10_rain_8 rfl ?_
    refine g_getI C cls_11 12 0 hm.1 rfl k_915 dX10_rain_9 ?_
    rw [M_f0]
    refine g_callS C mt_X10_in [.int xd, .int 0, .int (F 0)] (c_X10_in de _ xd 0 (F 0)) k_1014 rfl rfl (Nat.le_of_ble_eq_true rfl) (by decide) (by decide) (by decide) (by decide) dX10_rain_12 (fun r_12 w_12 hp_12 => ?_)
    obtain ⟨rfl, rfl⟩ := hp_12
    refine g_if_eq C 33 dX10_rain_15 (by decide) (fun c_15 => ?_) (fun c_15 => ?_)
    · have b_15 := bI_0.mp c_15
      refine g_iconst C 0 dX10_rain_33 (by rfl) ?_
      exact g_eq rfl (congrArg (fun v => Value.int v :: _) (by first | rfl | (simp only [b_15]; done) | (simp only [b_15]; rfl) | (simp [b_15, bI]; done))) rfl j_34
    · have b_15 := bI_n0.mp c_15
      refine g_iload_n C dX10_rain_18 rfl ?_
      refine g_iconst C 0 dX10_rain_19 (by rfl) ?_
      refine g_sipush C 2000 dX10_rain_20 (by rfl) ?_
      refine g_callS C mt_X10_in [.int tt, .int 0, .int 2000] (c_X10_in de _ tt 0 2000) k_1014 rfl rfl (Nat.le_of_ble_eq_true rfl) (by decide) (by decide) (by decide) (by decide) dX10_rain_23 (fun r_23 w_23 hp_23 => ?_)
      obtain ⟨rfl, rfl⟩ := hp_23
      refine g_if_eq C 33 dX10_rain_26 (by decide) (fun c_26 => ?_) (fun c_26 => ?_)
      · have b_26 := bI_0.mp c_26
        refine g_iconst C 0 dX10_rain_33 (by rfl) ?_
        exact g_eq rfl (congrArg (fun v => Value.int v :: _) (by first | rfl | (simp only [b_15, b_26]; done) | (simp only [b_15, b_26]; rfl) | (simp [b_15, b_26, bI]; done))) rfl j_34
      · have b_26 := bI_n0.mp c_26
        refine g_iconst C 1 dX10_rain_29 (by rfl) ?_
        refine g_goto C 34 dX10_rain_30 (by decide) ?_
        exact g_eq rfl (congrArg (fun v => Value.int v :: _) (by first | rfl | (simp only [b_15, b_26]; done) | (simp only [b_15, b_26]; rfl) | (simp [b_15, b_26, bI]; done))) rfl j_34
theorem dX10_pass_0 : decode cX10_pass 0 = .ok (.iload_n 1, 1) := by decide +kernel
theorem dX10_pass_1 : decode cX10_pass 1 = .ok (.iconst 1, 1) := by decide +kernel
theorem dX10_pass_2 : decode cX10_pass 2 = .ok (.bipush 60, 2) := by decide +kernel
theorem dX10_pass_4 : decode cX10_pass 4 = .ok (.invokestatic 81, 3) := by decide +kernel
theorem dX10_pass_7 : decode cX10_pass 7 = .ok (.istore_n 2, 1) := by decide +kernel
theorem dX10_pass_8 : decode cX10_pass 8 = .ok (.aload_n 0, 1) := by decide +kernel
theorem dX10_pass_9 : decode cX10_pass 9 = .ok (.iload_n 2, 1) := by decide +kernel
theorem dX10_pass_10 : decode cX10_pass 10 = .ok (.iload_n 2, 1) := by decide +kernel
theorem dX10_pass_11 : decode cX10_pass 11 = .ok (.ifCond .eq 19, 3) := by decide +kernel
theorem dX10_pass_14 : decode cX10_pass 14 = .ok (.aload_n 0, 1) := by decide +kernel
theorem dX10_pass_15 : decode cX10_pass 15 = .ok (.getfield 103, 3) := by decide +kernel
theorem dX10_pass_18 : decode cX10_pass 18 = .ok (.iload_n 1, 1) := by decide +kernel
theorem dX10_pass_19 : decode cX10_pass 19 = .ok (.iadd, 1) := by decide +kernel
theorem dX10_pass_20 : decode cX10_pass 20 = .ok (.sipush 1200, 3) := by decide +kernel
theorem dX10_pass_23 : decode cX10_pass 23 = .ok (.if_icmp .ge 7, 3) := by decide +kernel
theorem dX10_pass_26 : decode cX10_pass 26 = .ok (.iconst 1, 1) := by decide +kernel
theorem dX10_pass_27 : decode cX10_pass 27 = .ok (.goto 4, 3) := by decide +kernel
theorem dX10_pass_30 : decode cX10_pass 30 = .ok (.iconst 0, 1) := by decide +kernel
theorem dX10_pass_31 : decode cX10_pass 31 = .ok (.iconst 1, 1) := by decide +kernel
theorem dX10_pass_32 : decode cX10_pass 32 = .ok (.invokevirtual 95, 3) := by decide +kernel
theorem dX10_pass_35 : decode cX10_pass 35 = .ok (.ifCond .ne 5, 3) := by decide +kernel
theorem dX10_pass_38 : decode cX10_pass 38 = .ok (.iconst 0, 1) := by decide +kernel
theorem dX10_pass_39 : decode cX10_pass 39 = .ok (.ireturn, 1) := by decide +kernel
theorem dX10_pass_40 : decode cX10_pass 40 = .ok (.aload_n 0, 1) := by decide +kernel
theorem dX10_pass_41 : decode cX10_pass 41 = .ok (.dup, 1) := by decide +kernel
theorem dX10_pass_42 : decode cX10_pass 42 = .ok (.getfield 103, 3) := by decide +kernel
theorem dX10_pass_45 : decode cX10_pass 45 = .ok (.iload_n 1, 1) := by decide +kernel
theorem dX10_pass_46 : decode cX10_pass 46 = .ok (.iadd, 1) := by decide +kernel
theorem dX10_pass_47 : decode cX10_pass 47 = .ok (.putfield 103, 3) := by decide +kernel
theorem dX10_pass_50 : decode cX10_pass 50 = .ok (.aload_n 0, 1) := by decide +kernel
theorem dX10_pass_51 : decode cX10_pass 51 = .ok (.getfield 103, 3) := by decide +kernel
theorem dX10_pass_54 : decode cX10_pass 54 = .ok (.ireturn, 1) := by decide +kernel
set_option maxHeartbeats 4000000 in
set_option maxRecDepth 100000 in
theorem o_pass (de : Nat) (w : Wd) (mo : Nat) (ad : Nat → Nat) (A : Nat → Nat → Int32) (F : Nat → Int32) (L : Int32) (g : Nat → Int32) (hm : RM w mo ad) (dy : Int32) : Ct yX10_pass cX10_pass 3 (some .int) 1 23 0 0 de [.ref mo, .int dy] (M w mo ad A F L g) (fun r w' => (goV (bI (inR dy 1 60)) (bI (inR dy 1 60 && decide (F 0 + dy < 1200))) 1 = 0 → r = some (.int (F 0 + dy)) ∧ ∃ g', w' = M w mo ad (A) (updF F 0 (F 0 + dy)) 0 g') ∧ (¬ goV (bI (inR dy 1 60)) (bI (inR dy 1 60 && decide (F 0 + dy < 1200))) 1 = 0 → r = some (.int 0) ∧ w' = M w mo ad A F (goV (bI (inR dy 1 60)) (bI (inR dy 1 60 && decide (F 0 + dy < 1200))) 1) g)) := by
  refine Ct.mk (by decide +kernel) [(0, .ref mo), (1, .int dy)] rfl (Nat.le_of_ble_eq_true rfl) ?_
  intro p l e R s m args below meth c D cy z C hnm
  refine g_iload_n C dX10_pass_0 rfl ?_
  refine g_iconst C 1 dX10_pass_1 (by rfl) ?_
  refine g_bipush C 60 dX10_pass_2 (by rfl) ?_
  refine g_callS C mt_X10_in [.int dy, .int 1, .int 60] (c_X10_in de _ dy 1 60) k_1014 rfl rfl (Nat.le_of_ble_eq_true rfl) (by decide) (by decide) (by decide) (by decide) dX10_pass_4 (fun r_4 w_4 hp_4 => ?_)
  obtain ⟨rfl, rfl⟩ := hp_4
  refine g_istore_n C dX10_pass_7 (by decide) ?_
  refine g_aload_n C dX10_pass_8 rfl ?_
  refine g_iload_n C dX10_pass_9 rfl ?_
  refine g_cutS (pc' := 31) (.int (bI (inR dy 1 60 && decide (F 0 + dy < 1200)))) ?_ (fun j_31 => ?_)
  · refine g_iconst C 1 dX10_pass_31 (by rfl) ?_
    refine g_callV C cls_11 12 mt_X10_goes [.int (bI (inR dy 1 60)), .int (bI (inR dy 1 60 && decide (F 0 + dy < 1200))), .int 1] (m_goes de w mo ad A F L g hm (bI (inR dy 1 60)) (bI (inR dy 1 60 && decide (F 0 + dy < 1200))) 1) hm.1 (by decide) k_1017 rfl rfl (Nat.le_of_ble_eq_true rfl) (by decide) (by decide) (by decide) (by decide) dX10_pass_32 (fun r_32 w_32 hp_32 => ?_)
    obtain ⟨rfl, rfl⟩ := hp_32
    refine g_if_ne C 40 dX10_pass_35 (by decide) (fun c_35 => ?_) (fun c_35 => ?_)
    · have b_35 := bI_n0.mp c_35
      have hg := of_decide_eq_true b_35
      rw [hg]
      obtain ⟨ha9, hb9⟩ := goV_01 hg
      refine g_aload_n C dX10_pass_40 rfl ?_
      refine g_dup C dX10_pass_41 rfl ?_
      refine g_getI C cls_11 12 0 hm.1 rfl k_915 dX10_pass_42 ?_
      rw [M_f0]
      refine g_iload_n C dX10_pass_45 rfl ?_
      refine g_iadd C dX10_pass_46 ?_
      refine g_putI C cls_11 12 0 hm.1 rfl (Or.inl rfl) rfl rfl k_915 dX10_pass_47 ?_
      rw [M_q0]
      refine g_aload_n C dX10_pass_50 rfl ?_
      refine g_getI C cls_11 12 0 hm.1 rfl k_915 dX10_pass_51 ?_
      rw [M_f0]
      refine g_iret C rfl rfl (by decide) (by decide) dX10_pass_54 ?_
      first
      | exact ⟨fun h9 => absurd h9 hg, fun _ => ⟨rfl, rfl⟩⟩
      | (refine ⟨fun _ => ⟨?_, _, rfl⟩, fun h9 => absurd rfl h9⟩; exact congrArg (fun v => some (Value.int v)) (rfl))
    · have b_35 := bI_0.mp c_35
      have hg := of_decide_eq_false b_35
      refine g_iconst C 0 dX10_pass_38 (by rfl) ?_
      refine g_iret C rfl rfl (by decide) (by decide) dX10_pass_39 ?_
      first
      | exact ⟨fun h9 => absurd h9 hg, fun _ => ⟨rfl, rfl⟩⟩
      | (refine ⟨fun _ => ⟨?_, _, rfl⟩, fun h9 => absurd rfl h9⟩; exact congrArg (fun v => some (Value.int v)) (rfl))
  · refine g_iload_n C dX10_pass_10 rfl ?_
    refine g_if_eq C 30 dX10_pass_11 (by decide) (fun c_11 => ?_) (fun c_11 => ?_)
    · have b_11 := bI_0.mp c_11
      refine g_iconst C 0 dX10_pass_30 (by rfl) ?_
      exact g_eq rfl (congrArg (fun v => Value.int v :: _) (by first | rfl | (simp only [b_11]; done) | (simp only [b_11]; rfl) | (simp [b_11, bI]; done))) rfl j_31
    · have b_11 := bI_n0.mp c_11
      refine g_aload_n C dX10_pass_14 rfl ?_
      refine g_getI C cls_11 12 0 hm.1 rfl k_915 dX10_pass_15 ?_
      rw [M_f0]
      refine g_iload_n C dX10_pass_18 rfl ?_
      refine g_iadd C dX10_pass_19 ?_
      refine g_sipush C 1200 dX10_pass_20 (by rfl) ?_
      refine g_icmp_ge C 30 dX10_pass_23 (by decide) (fun c_23 => ?_) (fun c_23 => ?_)
      · have b_23 := And.intro (decide_eq_false (Int32.not_lt.mpr c_23)) (decide_eq_true c_23)
        refine g_iconst C 0 dX10_pass_30 (by rfl) ?_
        exact g_eq rfl (congrArg (fun v => Value.int v :: _) (by first | rfl | (simp only [b_11, b_23]; done) | (simp only [b_11, b_23]; rfl) | (simp [b_11, b_23, bI]; done))) rfl j_31
      · have b_23 := And.intro (decide_eq_true (Int32.not_le.mp c_23)) (decide_eq_false c_23)
        refine g_iconst C 1 dX10_pass_26 (by rfl) ?_
        refine g_goto C 31 dX10_pass_27 (by decide) ?_
        exact g_eq rfl (congrArg (fun v => Value.int v :: _) (by first | rfl | (simp only [b_11, b_23]; done) | (simp only [b_11, b_23]; rfl) | (simp [b_11, b_23, bI]; done))) rfl j_31
theorem dX10_lend_0 : decode cX10_lend 0 = .ok (.aload_n 0, 1) := by decide +kernel
theorem dX10_lend_1 : decode cX10_lend 1 = .ok (.iload_n 1, 1) := by decide +kernel
theorem dX10_lend_2 : decode cX10_lend 2 = .ok (.invokevirtual 152, 3) := by decide +kernel
theorem dX10_lend_5 : decode cX10_lend 5 = .ok (.istore_n 3, 1) := by decide +kernel
theorem dX10_lend_6 : decode cX10_lend 6 = .ok (.iload_n 2, 1) := by decide +kernel
theorem dX10_lend_7 : decode cX10_lend 7 = .ok (.iconst 1, 1) := by decide +kernel
theorem dX10_lend_8 : decode cX10_lend 8 = .ok (.sipush 9999, 3) := by decide +kernel
theorem dX10_lend_11 : decode cX10_lend 11 = .ok (.invokestatic 81, 3) := by decide +kernel
theorem dX10_lend_14 : decode cX10_lend 14 = .ok (.istore 4, 2) := by decide +kernel
theorem dX10_lend_16 : decode cX10_lend 16 = .ok (.aload_n 0, 1) := by decide +kernel
theorem dX10_lend_17 : decode cX10_lend 17 = .ok (.iload_n 3, 1) := by decide +kernel
theorem dX10_lend_18 : decode cX10_lend 18 = .ok (.iload 4, 2) := by decide +kernel
theorem dX10_lend_20 : decode cX10_lend 20 = .ok (.iload_n 3, 1) := by decide +kernel
theorem dX10_lend_21 : decode cX10_lend 21 = .ok (.ifCond .eq 25, 3) := by decide +kernel
theorem dX10_lend_24 : decode cX10_lend 24 = .ok (.iload 4, 2) := by decide +kernel
theorem dX10_lend_26 : decode cX10_lend 26 = .ok (.ifCond .eq 20, 3) := by decide +kernel
theorem dX10_lend_29 : decode cX10_lend 29 = .ok (.aload_n 0, 1) := by decide +kernel
theorem dX10_lend_30 : decode cX10_lend 30 = .ok (.getfield 37, 3) := by decide +kernel
theorem dX10_lend_33 : decode cX10_lend 33 = .ok (.iload_n 1, 1) := by decide +kernel
theorem dX10_lend_34 : decode cX10_lend 34 = .ok (.iaload, 1) := by decide +kernel
theorem dX10_lend_35 : decode cX10_lend 35 = .ok (.iload_n 2, 1) := by decide +kernel
theorem dX10_lend_36 : decode cX10_lend 36 = .ok (.iadd, 1) := by decide +kernel
theorem dX10_lend_37 : decode cX10_lend 37 = .ok (.ldc 155, 2) := by decide +kernel
theorem dX10_lend_39 : decode cX10_lend 39 = .ok (.if_icmp .gt 7, 3) := by decide +kernel
theorem dX10_lend_42 : decode cX10_lend 42 = .ok (.iconst 1, 1) := by decide +kernel
theorem dX10_lend_43 : decode cX10_lend 43 = .ok (.goto 4, 3) := by decide +kernel
theorem dX10_lend_46 : decode cX10_lend 46 = .ok (.iconst 0, 1) := by decide +kernel
theorem dX10_lend_47 : decode cX10_lend 47 = .ok (.invokevirtual 95, 3) := by decide +kernel
theorem dX10_lend_50 : decode cX10_lend 50 = .ok (.ifCond .ne 5, 3) := by decide +kernel
theorem dX10_lend_53 : decode cX10_lend 53 = .ok (.iconst 0, 1) := by decide +kernel
theorem dX10_lend_54 : decode cX10_lend 54 = .ok (.ireturn, 1) := by decide +kernel
theorem dX10_lend_55 : decode cX10_lend 55 = .ok (.aload_n 0, 1) := by decide +kernel
theorem dX10_lend_56 : decode cX10_lend 56 = .ok (.getfield 37, 3) := by decide +kernel
theorem dX10_lend_59 : decode cX10_lend 59 = .ok (.iload_n 1, 1) := by decide +kernel
theorem dX10_lend_60 : decode cX10_lend 60 = .ok (.dup2, 1) := by decide +kernel
theorem dX10_lend_61 : decode cX10_lend 61 = .ok (.iaload, 1) := by decide +kernel
theorem dX10_lend_62 : decode cX10_lend 62 = .ok (.iload_n 2, 1) := by decide +kernel
theorem dX10_lend_63 : decode cX10_lend 63 = .ok (.iadd, 1) := by decide +kernel
theorem dX10_lend_64 : decode cX10_lend 64 = .ok (.iastore, 1) := by decide +kernel
theorem dX10_lend_65 : decode cX10_lend 65 = .ok (.aload_n 0, 1) := by decide +kernel
theorem dX10_lend_66 : decode cX10_lend 66 = .ok (.getfield 37, 3) := by decide +kernel
theorem dX10_lend_69 : decode cX10_lend 69 = .ok (.iload_n 1, 1) := by decide +kernel
theorem dX10_lend_70 : decode cX10_lend 70 = .ok (.iaload, 1) := by decide +kernel
theorem dX10_lend_71 : decode cX10_lend 71 = .ok (.ireturn, 1) := by decide +kernel
set_option maxHeartbeats 4000000 in
set_option maxRecDepth 100000 in
theorem o_lend (de : Nat) (w : Wd) (mo : Nat) (ad : Nat → Nat) (A : Nat → Nat → Int32) (F : Nat → Int32) (L : Int32) (g : Nat → Int32) (hm : RM w mo ad) (xa am : Int32) (nF fi : Nat) (h16 : nF ≤ 16) (hfi : inR xa 0 (F 17 - 1) = true → xa = nI fi ∧ fi < nF) : Ct yX10_lend cX10_lend 5 (some .int) 2 43 0 0 de [.ref mo, .int xa, .int am] (M w mo ad A F L g) (fun r w' => (goV (bI (inR xa 0 (F 17 - 1))) (bI (inR am 1 9999)) (bI (inR xa 0 (F 17 - 1) && (inR am 1 9999 && decide (A 14 fi + am ≤ 99999)))) = 0 → r = some (.int (A 14 fi + am)) ∧ ∃ g', w' = M w mo ad (updA A 14 fi (A 14 fi + am)) (F) 0 g') ∧ (¬ goV (bI (inR xa 0 (F 17 - 1))) (bI (inR am 1 9999)) (bI (inR xa 0 (F 17 - 1) && (inR am 1 9999 && decide (A 14 fi + am ≤ 99999)))) = 0 → r = some (.int 0) ∧ w' = M w mo ad A F (goV (bI (inR xa 0 (F 17 - 1))) (bI (inR am 1 9999)) (bI (inR xa 0 (F 17 - 1) && (inR am 1 9999 && decide (A 14 fi + am ≤ 99999))))) g)) := by
  refine Ct.mk (by decide +kernel) [(0, .ref mo), (1, .int xa), (2, .int am)] rfl (Nat.le_of_ble_eq_true rfl) ?_
  intro p l e R s m args below meth c D cy z C hnm
  refine g_aload_n C dX10_lend_0 rfl ?_
  refine g_iload_n C dX10_lend_1 rfl ?_
  refine g_callV C cls_11 12 mt_X10_isFarm [.int xa] (m_isFarm de w mo ad A F L g hm xa) hm.1 (by decide) k_1123 rfl rfl (Nat.le_of_ble_eq_true rfl) (by decide) (by decide) (by decide) (by decide) dX10_lend_2 (fun r_2 w_2 hp_2 => ?_)
  obtain ⟨rfl, rfl⟩ := hp_2
  refine g_istore_n C dX10_lend_5 (by decide) ?_
  refine g_iload_n C dX10_lend_6 rfl ?_
  refine g_iconst C 1 dX10_lend_7 (by rfl) ?_
  refine g_sipush C 9999 dX10_lend_8 (by rfl) ?_
  refine g_callS C mt_X10_in [.int am, .int 1, .int 9999] (c_X10_in de _ am 1 9999) k_1014 rfl rfl (Nat.le_of_ble_eq_true rfl) (by decide) (by decide) (by decide) (by decide) dX10_lend_11 (fun r_11 w_11 hp_11 => ?_)
  obtain ⟨rfl, rfl⟩ := hp_11
  refine g_istore C dX10_lend_14 (by decide) ?_
  refine g_aload_n C dX10_lend_16 rfl ?_
  refine g_iload_n C dX10_lend_17 rfl ?_
  refine g_iload C dX10_lend_18 rfl ?_
  refine g_cutS (pc' := 47) (.int (bI (inR xa 0 (F 17 - 1) && (inR am 1 9999 && decide (A 14 fi + am ≤ 99999))))) ?_ (fun j_47 => ?_)
  · refine g_callV C cls_11 12 mt_X10_goes [.int (bI (inR xa 0 (F 17 - 1))), .int (bI (inR am 1 9999)), .int (bI (inR xa 0 (F 17 - 1) && (inR am 1 9999 && decide (A 14 fi + am ≤ 99999))))] (m_goes de w mo ad A F L g hm (bI (inR xa 0 (F 17 - 1))) (bI (inR am 1 9999)) (bI (inR xa 0 (F 17 - 1) && (inR am 1 9999 && decide (A 14 fi + am ≤ 99999))))) hm.1 (by decide) k_1017 rfl rfl (Nat.le_of_ble_eq_true rfl) (by decide) (by decide) (by decide) (by decide) dX10_lend_47 (fun r_47 w_47 hp_47 => ?_)
    obtain ⟨rfl, rfl⟩ := hp_47
    refine g_if_ne C 55 dX10_lend_50 (by decide) (fun c_50 => ?_) (fun c_50 => ?_)
    · have b_50 := bI_n0.mp c_50
      have hg := of_decide_eq_true b_50
      rw [hg]
      obtain ⟨ha9, hb9, hc9⟩ := goV_012 hg
      obtain ⟨rfl, hf5⟩ := hfi ha9
      refine g_aload_n C dX10_lend_55 rfl ?_
      refine g_getR (b := (ad 14)) C cls_11 12 14 hm.1 (rm_14 hm).1 rfl k_929 dX10_lend_56 ?_
      refine g_iload_n C dX10_lend_59 rfl ?_
      refine g_dup2 C dX10_lend_60 rfl rfl ?_
      refine g_iald C 2140 (rm_14 hm).2.1 rfl (show vp_in (nI (fi)) (aL w (ad 14)) by rw [(rm_14 hm).2.2]; exact nI_vp (show fi < 16 by omega) (by omega)) dX10_lend_61 ?_
      rw [M_a14, nI_tn (show fi ≤ 100000 by omega)]
      refine g_iload_n C dX10_lend_62 rfl ?_
      refine g_iadd C dX10_lend_63 ?_
      refine g_iast C 2140 (rm_14 hm).2.1 rfl (show vp_in (nI (fi)) (aL w (ad 14)) by rw [(rm_14 hm).2.2]; exact nI_vp (show fi < 16 by omega) (by omega)) dX10_lend_64 ?_
      rw [nI_tn (show fi ≤ 100000 by omega), M_p14]
      refine g_aload_n C dX10_lend_65 rfl ?_
      refine g_getR (b := (ad 14)) C cls_11 12 14 hm.1 (rm_14 hm).1 rfl k_929 dX10_lend_66 ?_
      refine g_iload_n C dX10_lend_69 rfl ?_
      refine g_iald C 2140 (rm_14 hm).2.1 rfl (show vp_in (nI (fi)) (aL w (ad 14)) by rw [(rm_14 hm).2.2]; exact nI_vp (show fi < 16 by omega) (by omega)) dX10_lend_70 ?_
      rw [M_a14, nI_tn (show fi ≤ 100000 by omega)]
      refine g_iret C rfl rfl (by decide) (by decide) dX10_lend_71 ?_
      first
      | exact ⟨fun h9 => absurd h9 hg, fun _ => ⟨rfl, rfl⟩⟩
      | (refine ⟨fun _ => ⟨?_, _, rfl⟩, fun h9 => absurd rfl h9⟩; exact congrArg (fun v => some (Value.int v)) (updA_eq))
    · have b_50 := bI_0.mp c_50
      have hg := of_decide_eq_false b_50
      refine g_iconst C 0 dX10_lend_53 (by rfl) ?_
      refine g_iret C rfl rfl (by decide) (by decide) dX10_lend_54 ?_
      first
      | exact ⟨fun h9 => absurd h9 hg, fun _ => ⟨rfl, rfl⟩⟩
      | (refine ⟨fun _ => ⟨?_, _, rfl⟩, fun h9 => absurd rfl h9⟩; exact congrArg (fun v => some (Value.int v)) (updA_eq))
  · refine g_iload_n C dX10_lend_20 rfl ?_
    refine g_if_eq C 46 dX10_lend_21 (by decide) (fun c_21 => ?_) (fun c_21 => ?_)
    · have b_21 := bI_0.mp c_21
      refine g_iconst C 0 dX10_lend_46 (by rfl) ?_
      exact g_eq rfl (congrArg (fun v => Value.int v :: _) (by first | rfl | (simp only [b_21]; done) | (simp only [b_21]; rfl) | (simp [b_21, bI]; done))) rfl j_47
    · have b_21 := bI_n0.mp c_21
      obtain ⟨rfl, hf5⟩ := hfi b_21
      refine g_iload C dX10_lend_24 rfl ?_
      refine g_if_eq C 46 dX10_lend_26 (by decide) (fun c_26 => ?_) (fun c_26 => ?_)
      · have b_26 := bI_0.mp c_26
        refine g_iconst C 0 dX10_lend_46 (by rfl) ?_
        exact g_eq rfl (congrArg (fun v => Value.int v :: _) (by first | rfl | (simp only [b_21, b_26]; done) | (simp only [b_21, b_26]; rfl) | (simp [b_21, b_26, bI]; done))) rfl j_47
      · have b_26 := bI_n0.mp c_26
        refine g_aload_n C dX10_lend_29 rfl ?_
        refine g_getR (b := (ad 14)) C cls_11 12 14 hm.1 (rm_14 hm).1 rfl k_929 dX10_lend_30 ?_
        refine g_iload_n C dX10_lend_33 rfl ?_
        refine g_iald C 2140 (rm_14 hm).2.1 rfl (show vp_in (nI (fi)) (aL w (ad 14)) by rw [(rm_14 hm).2.2]; exact nI_vp (show fi < 16 by omega) (by omega)) dX10_lend_34 ?_
        rw [M_a14, nI_tn (show fi ≤ 100000 by omega)]
        refine g_iload_n C dX10_lend_35 rfl ?_
        refine g_iadd C dX10_lend_36 ?_
        refine g_ldc C k_1127 dX10_lend_37 ?_
        refine g_icmp_gt C 46 dX10_lend_39 (by decide) (fun c_39 => ?_) (fun c_39 => ?_)
        · have b_39 := And.intro (decide_eq_false (Int32.not_le.mpr c_39)) (decide_eq_true c_39)
          refine g_iconst C 0 dX10_lend_46 (by rfl) ?_
          exact g_eq rfl (congrArg (fun v => Value.int v :: _) (by first | rfl | (simp only [b_21, b_26, b_39]; done) | (simp only [b_21, b_26, b_39]; rfl) | (simp [b_21, b_26, b_39, bI]; done))) rfl j_47
        · have b_39 := And.intro (decide_eq_true (Int32.not_lt.mp c_39)) (decide_eq_false c_39)
          refine g_iconst C 1 dX10_lend_42 (by rfl) ?_
          refine g_goto C 47 dX10_lend_43 (by decide) ?_
          exact g_eq rfl (congrArg (fun v => Value.int v :: _) (by first | rfl | (simp only [b_21, b_26, b_39]; done) | (simp only [b_21, b_26, b_39]; rfl) | (simp [b_21, b_26, b_39, bI]; done))) rfl j_47
theorem dX10_loading_0 : decode cX10_loading 0 = .ok (.aload_n 0, 1) := by decide +kernel
theorem dX10_loading_1 : decode cX10_loading 1 = .ok (.iload_n 1, 1) := by decide +kernel
theorem dX10_loading_2 : decode cX10_loading 2 = .ok (.iconst 0, 1) := by decide +kernel
theorem dX10_loading_3 : decode cX10_loading 3 = .ok (.sipush 200, 3) := by decide +kernel
theorem dX10_loading_6 : decode cX10_loading 6 = .ok (.invokestatic 81, 3) := by decide +kernel
theorem dX10_loading_9 : decode cX10_loading 9 = .ok (.iconst 1, 1) := by decide +kernel
theorem dX10_loading_10 : decode cX10_loading 10 = .ok (.iconst 1, 1) := by decide +kernel
theorem dX10_loading_11 : decode cX10_loading 11 = .ok (.invokevirtual 95, 3) := by decide +kernel
theorem dX10_loading_14 : decode cX10_loading 14 = .ok (.ifCond .ne 5, 3) := by decide +kernel
theorem dX10_loading_17 : decode cX10_loading 17 = .ok (.iconst 0, 1) := by decide +kernel
theorem dX10_loading_18 : decode cX10_loading 18 = .ok (.ireturn, 1) := by decide +kernel
theorem dX10_loading_19 : decode cX10_loading 19 = .ok (.aload_n 0, 1) := by decide +kernel
theorem dX10_loading_20 : decode cX10_loading 20 = .ok (.getfield 53, 3) := by decide +kernel
theorem dX10_loading_23 : decode cX10_loading 23 = .ok (.istore_n 2, 1) := by decide +kernel
theorem dX10_loading_24 : decode cX10_loading 24 = .ok (.aload_n 0, 1) := by decide +kernel
theorem dX10_loading_25 : decode cX10_loading 25 = .ok (.iload_n 1, 1) := by decide +kernel
theorem dX10_loading_26 : decode cX10_loading 26 = .ok (.putfield 53, 3) := by decide +kernel
theorem dX10_loading_29 : decode cX10_loading 29 = .ok (.iload_n 2, 1) := by decide +kernel
theorem dX10_loading_30 : decode cX10_loading 30 = .ok (.ireturn, 1) := by decide +kernel
set_option maxHeartbeats 4000000 in
set_option maxRecDepth 100000 in
theorem o_loading (de : Nat) (w : Wd) (mo : Nat) (ad : Nat → Nat) (A : Nat → Nat → Int32) (F : Nat → Int32) (L : Int32) (g : Nat → Int32) (hm : RM w mo ad) (hu : Int32) : Ct yX10_loading cX10_loading 3 (some .int) 1 23 0 0 de [.ref mo, .int hu] (M w mo ad A F L g) (fun r w' => (goV (bI (inR hu 0 200)) 1 1 = 0 → r = some (.int (F 20)) ∧ ∃ g', w' = M w mo ad (A) (updF F 20 hu) 0 g') ∧ (¬ goV (bI (inR hu 0 200)) 1 1 = 0 → r = some (.int 0) ∧ w' = M w mo ad A F (goV (bI (inR hu 0 200)) 1 1) g)) := by
  refine Ct.mk (by decide +kernel) [(0, .ref mo), (1, .int hu)] rfl (Nat.le_of_ble_eq_true rfl) ?_
  intro p l e R s m args below meth c D cy z C hnm
  refine g_aload_n C dX10_loading_0 rfl ?_
  refine g_iload_n C dX10_loading_1 rfl ?_
  refine g_iconst C 0 dX10_loading_2 (by rfl) ?_
  refine g_sipush C 200 dX10_loading_3 (by rfl) ?_
  refine g_callS C mt_X10_in [.int hu, .int 0, .int 200] (c_X10_in de _ hu 0 200) k_1014 rfl rfl (Nat.le_of_ble_eq_true rfl) (by decide) (by decide) (by decide) (by decide) dX10_loading_6 (fun r_6 w_6 hp_6 => ?_)
  obtain ⟨rfl, rfl⟩ := hp_6
  refine g_iconst C 1 dX10_loading_9 (by rfl) ?_
  refine g_iconst C 1 dX10_loading_10 (by rfl) ?_
  refine g_callV C cls_11 12 mt_X10_goes [.int (bI (inR hu 0 200)), .int 1, .int 1] (m_goes de w mo ad A F L g hm (bI (inR hu 0 200)) 1 1) hm.1 (by decide) k_1017 rfl rfl (Nat.le_of_ble_eq_true rfl) (by decide) (by decide) (by decide) (by decide) dX10_loading_11 (fun r_11 w_11 hp_11 => ?_)
  obtain ⟨rfl, rfl⟩ := hp_11
  refine g_if_ne C 19 dX10_loading_14 (by decide) (fun c_14 => ?_) (fun c_14 => ?_)
  · have b_14 := bI_n0.mp c_14
    have hg := of_decide_eq_true b_14
    rw [hg]
    obtain ha9 := goV_0 hg
    refine g_aload_n C dX10_loading_19 rfl ?_
    refine g_getI C cls_11 12 20 hm.1 rfl k_935 dX10_loading_20 ?_
    rw [M_f20]
    refine g_istore_n C dX10_loading_23 (by decide) ?_
    refine g_aload_n C dX10_loading_24 rfl ?_
    refine g_iload_n C dX10_loading_25 rfl ?_
    refine g_putI C cls_11 12 20 hm.1 rfl (Or.inl rfl) rfl rfl k_935 dX10_loading_26 ?_
    rw [M_q20]
    refine g_iload_n C dX10_loading_29 rfl ?_
    refine g_iret C rfl rfl (by decide) (by decide) dX10_loading_30 ?_
    first
    | exact ⟨fun h9 => absurd h9 hg, fun _ => ⟨rfl, rfl⟩⟩
    | (refine ⟨fun _ => ⟨?_, _, rfl⟩, fun h9 => absurd rfl h9⟩; exact congrArg (fun v => some (Value.int v)) (rfl))
  · have b_14 := bI_0.mp c_14
    have hg := of_decide_eq_false b_14
    refine g_iconst C 0 dX10_loading_17 (by rfl) ?_
    refine g_iret C rfl rfl (by decide) (by decide) dX10_loading_18 ?_
    first
    | exact ⟨fun h9 => absurd h9 hg, fun _ => ⟨rfl, rfl⟩⟩
    | (refine ⟨fun _ => ⟨?_, _, rfl⟩, fun h9 => absurd rfl h9⟩; exact congrArg (fun v => some (Value.int v)) (rfl))
theorem dX10_layer_0 : decode cX10_layer 0 = .ok (.aload_n 0, 1) := by decide +kernel
theorem dX10_layer_1 : decode cX10_layer 1 = .ok (.iload_n 1, 1) := by decide +kernel
theorem dX10_layer_2 : decode cX10_layer 2 = .ok (.iconst 0, 1) := by decide +kernel
theorem dX10_layer_3 : decode cX10_layer 3 = .ok (.ldc 155, 2) := by decide +kernel
theorem dX10_layer_5 : decode cX10_layer 5 = .ok (.invokestatic 81, 3) := by decide +kernel
theorem dX10_layer_8 : decode cX10_layer 8 = .ok (.ifCond .eq 17, 3) := by decide +kernel
theorem dX10_layer_11 : decode cX10_layer 11 = .ok (.iload_n 2, 1) := by decide +kernel
theorem dX10_layer_12 : decode cX10_layer 12 = .ok (.iconst 0, 1) := by decide +kernel
theorem dX10_layer_13 : decode cX10_layer 13 = .ok (.ldc 155, 2) := by decide +kernel
theorem dX10_layer_15 : decode cX10_layer 15 = .ok (.invokestatic 81, 3) := by decide +kernel
theorem dX10_layer_18 : decode cX10_layer 18 = .ok (.ifCond .eq 7, 3) := by decide +kernel
theorem dX10_layer_21 : decode cX10_layer 21 = .ok (.iconst 1, 1) := by decide +kernel
theorem dX10_layer_22 : decode cX10_layer 22 = .ok (.goto 4, 3) := by decide +kernel
theorem dX10_layer_25 : decode cX10_layer 25 = .ok (.iconst 0, 1) := by decide +kernel
theorem dX10_layer_26 : decode cX10_layer 26 = .ok (.iconst 1, 1) := by decide +kernel
theorem dX10_layer_27 : decode cX10_layer 27 = .ok (.iconst 1, 1) := by decide +kernel
theorem dX10_layer_28 : decode cX10_layer 28 = .ok (.invokevirtual 95, 3) := by decide +kernel
theorem dX10_layer_31 : decode cX10_layer 31 = .ok (.ifCond .ne 5, 3) := by decide +kernel
theorem dX10_layer_34 : decode cX10_layer 34 = .ok (.iconst 0, 1) := by decide +kernel
theorem dX10_layer_35 : decode cX10_layer 35 = .ok (.ireturn, 1) := by decide +kernel
theorem dX10_layer_36 : decode cX10_layer 36 = .ok (.aload_n 0, 1) := by decide +kernel
theorem dX10_layer_37 : decode cX10_layer 37 = .ok (.getfield 57, 3) := by decide +kernel
theorem dX10_layer_40 : decode cX10_layer 40 = .ok (.istore_n 3, 1) := by decide +kernel
theorem dX10_layer_41 : decode cX10_layer 41 = .ok (.aload_n 0, 1) := by decide +kernel
theorem dX10_layer_42 : decode cX10_layer 42 = .ok (.iload_n 1, 1) := by decide +kernel
theorem dX10_layer_43 : decode cX10_layer 43 = .ok (.putfield 57, 3) := by decide +kernel
theorem dX10_layer_46 : decode cX10_layer 46 = .ok (.aload_n 0, 1) := by decide +kernel
theorem dX10_layer_47 : decode cX10_layer 47 = .ok (.iload_n 2, 1) := by decide +kernel
theorem dX10_layer_48 : decode cX10_layer 48 = .ok (.putfield 60, 3) := by decide +kernel
theorem dX10_layer_51 : decode cX10_layer 51 = .ok (.iload_n 3, 1) := by decide +kernel
theorem dX10_layer_52 : decode cX10_layer 52 = .ok (.ireturn, 1) := by decide +kernel
set_option maxHeartbeats 4000000 in
set_option maxRecDepth 100000 in
theorem o_layer (de : Nat) (w : Wd) (mo : Nat) (ad : Nat → Nat) (A : Nat → Nat → Int32) (F : Nat → Int32) (L : Int32) (g : Nat → Int32) (hm : RM w mo ad) (xa ya : Int32) : Ct yX10_layer cX10_layer 4 (some .int) 1 23 0 0 de [.ref mo, .int xa, .int ya] (M w mo ad A F L g) (fun r w' => (goV (bI (inR xa 0 99999 && inR ya 0 99999)) 1 1 = 0 → r = some (.int (F 21)) ∧ ∃ g', w' = M w mo ad (A) (updF (updF F 21 xa) 22 ya) 0 g') ∧ (¬ goV (bI (inR xa 0 99999 && inR ya 0 99999)) 1 1 = 0 → r = some (.int 0) ∧ w' = M w mo ad A F (goV (bI (inR xa 0 99999 && inR ya 0 99999)) 1 1) g)) := by
  refine Ct.mk (by decide +kernel) [(0, .ref mo), (1, .int xa), (2, .int ya)] rfl (Nat.le_of_ble_eq_true rfl) ?_
  intro p l e R s m args below meth c D cy z C hnm
  refine g_aload_n C dX10_layer_0 rfl ?_
  refine g_cutS (pc' := 26) (.int (bI (inR xa 0 99999 && inR ya 0 99999))) ?_ (fun j_26 => ?_)
  · refine g_iconst C 1 dX10_layer_26 (by rfl) ?_
    refine g_iconst C 1 dX10_layer_27 (by rfl) ?_
    refine g_callV C cls_11 12 mt_X10_goes [.int (bI (inR xa 0 99999 && inR ya 0 99999)), .int 1, .int 1] (m_goes de w mo ad A F L g hm (bI (inR xa 0 99999 && inR ya 0 99999)) 1 1) hm.1 (by decide) k_1017 rfl rfl (Nat.le_of_ble_eq_true rfl) (by decide) (by decide) (by decide) (by decide) dX10_layer_28 (fun r_28 w_28 hp_28 => ?_)
    obtain ⟨rfl, rfl⟩ := hp_28
    refine g_if_ne C 36 dX10_layer_31 (by decide) (fun c_31 => ?_) (fun c_31 => ?_)
    · have b_31 := bI_n0.mp c_31
      have hg := of_decide_eq_true b_31
      rw [hg]
      obtain ha9 := goV_0 hg
      refine g_aload_n C dX10_layer_36 rfl ?_
      refine g_getI C cls_11 12 21 hm.1 rfl k_936 dX10_layer_37 ?_
      rw [M_f21]
      refine g_istore_n C dX10_layer_40 (by decide) ?_
      refine g_aload_n C dX10_layer_41 rfl ?_
      refine g_iload_n C dX10_layer_42 rfl ?_
      refine g_putI C cls_11 12 21 hm.1 rfl (Or.inl rfl) rfl rfl k_936 dX10_layer_43 ?_
      rw [M_q21]
      refine g_aload_n C dX10_layer_46 rfl ?_
      refine g_iload_n C dX10_layer_47 rfl ?_
      refine g_putI C cls_11 12 22 hm.1 rfl (Or.inl rfl) rfl rfl k_937 dX10_layer_48 ?_
      rw [M_q22]
      refine g_iload_n C dX10_layer_51 rfl ?_
      refine g_iret C rfl rfl (by decide) (by decide) dX10_layer_52 ?_
      first
      | exact ⟨fun h9 => absurd h9 hg, fun _ => ⟨rfl, rfl⟩⟩
      | (refine ⟨fun _ => ⟨?_, _, rfl⟩, fun h9 => absurd rfl h9⟩; exact congrArg (fun v => some (Value.int v)) (rfl))
    · have b_31 := bI_0.mp c_31
      have hg := of_decide_eq_false b_31
      refine g_iconst C 0 dX10_layer_34 (by rfl) ?_
      refine g_iret C rfl rfl (by decide) (by decide) dX10_layer_35 ?_
      first
      | exact ⟨fun h9 => absurd h9 hg, fun _ => ⟨rfl, rfl⟩⟩
      | (refine ⟨fun _ => ⟨?_, _, rfl⟩, fun h9 => absurd rfl h9⟩; exact congrArg (fun v => some (Value.int v)) (rfl))
  · refine g_iload_n C dX10_layer_1 rfl ?_
    refine g_iconst C 0 dX10_layer_2 (by rfl) ?_
    refine g_ldc C k_1127 dX10_layer_3 ?_
    refine g_callS C mt_X10_in [.int xa, .int 0, .int 99999] (c_X10_in de _ xa 0 99999) k_1014 rfl rfl (Nat.le_of_ble_eq_true rfl) (by decide) (by decide) (by decide) (by decide) dX10_layer_5 (fun r_5 w_5 hp_5 => ?_)
    obtain ⟨rfl, rfl⟩ := hp_5
    refine g_if_eq C 25 dX10_layer_8 (by decide) (fun c_8 => ?_) (fun c_8 => ?_)
    · have b_8 := bI_0.mp c_8
      refine g_iconst C 0 dX10_layer_25 (by rfl) ?_
      exact g_eq rfl (congrArg (fun v => Value.int v :: _) (by first | rfl | (simp only [b_8]; done) | (simp only [b_8]; rfl) | (simp [b_8, bI]; done))) rfl j_26
    · have b_8 := bI_n0.mp c_8
      refine g_iload_n C dX10_layer_11 rfl ?_
      refine g_iconst C 0 dX10_layer_12 (by rfl) ?_
      refine g_ldc C k_1127 dX10_layer_13 ?_
      refine g_callS C mt_X10_in [.int ya, .int 0, .int 99999] (c_X10_in de _ ya 0 99999) k_1014 rfl rfl (Nat.le_of_ble_eq_true rfl) (by decide) (by decide) (by decide) (by decide) dX10_layer_15 (fun r_15 w_15 hp_15 => ?_)
      obtain ⟨rfl, rfl⟩ := hp_15
      refine g_if_eq C 25 dX10_layer_18 (by decide) (fun c_18 => ?_) (fun c_18 => ?_)
      · have b_18 := bI_0.mp c_18
        refine g_iconst C 0 dX10_layer_25 (by rfl) ?_
        exact g_eq rfl (congrArg (fun v => Value.int v :: _) (by first | rfl | (simp only [b_8, b_18]; done) | (simp only [b_8, b_18]; rfl) | (simp [b_8, b_18, bI]; done))) rfl j_26
      · have b_18 := bI_n0.mp c_18
        refine g_iconst C 1 dX10_layer_21 (by rfl) ?_
        refine g_goto C 26 dX10_layer_22 (by decide) ?_
        exact g_eq rfl (congrArg (fun v => Value.int v :: _) (by first | rfl | (simp only [b_8, b_18]; done) | (simp only [b_8, b_18]; rfl) | (simp [b_8, b_18, bI]; done))) rfl j_26
theorem dX10_loss_0 : decode cX10_loss 0 = .ok (.aload_n 0, 1) := by decide +kernel
theorem dX10_loss_1 : decode cX10_loss 1 = .ok (.iload_n 1, 1) := by decide +kernel
theorem dX10_loss_2 : decode cX10_loss 2 = .ok (.invokevirtual 152, 3) := by decide +kernel
theorem dX10_loss_5 : decode cX10_loss 5 = .ok (.ifCond .eq 14, 3) := by decide +kernel
theorem dX10_loss_8 : decode cX10_loss 8 = .ok (.iload_n 2, 1) := by decide +kernel
theorem dX10_loss_9 : decode cX10_loss 9 = .ok (.invokestatic 116, 3) := by decide +kernel
theorem dX10_loss_12 : decode cX10_loss 12 = .ok (.ifCond .eq 7, 3) := by decide +kernel
theorem dX10_loss_15 : decode cX10_loss 15 = .ok (.iconst 1, 1) := by decide +kernel
theorem dX10_loss_16 : decode cX10_loss 16 = .ok (.goto 4, 3) := by decide +kernel
theorem dX10_loss_19 : decode cX10_loss 19 = .ok (.iconst 0, 1) := by decide +kernel
theorem dX10_loss_20 : decode cX10_loss 20 = .ok (.istore 4, 2) := by decide +kernel
theorem dX10_loss_22 : decode cX10_loss 22 = .ok (.aload_n 0, 1) := by decide +kernel
theorem dX10_loss_23 : decode cX10_loss 23 = .ok (.iload 4, 2) := by decide +kernel
theorem dX10_loss_25 : decode cX10_loss 25 = .ok (.iload_n 3, 1) := by decide +kernel
theorem dX10_loss_26 : decode cX10_loss 26 = .ok (.iconst 0, 1) := by decide +kernel
theorem dX10_loss_27 : decode cX10_loss 27 = .ok (.bipush 100, 2) := by decide +kernel
theorem dX10_loss_29 : decode cX10_loss 29 = .ok (.invokestatic 81, 3) := by decide +kernel
theorem dX10_loss_32 : decode cX10_loss 32 = .ok (.iload 4, 2) := by decide +kernel
theorem dX10_loss_34 : decode cX10_loss 34 = .ok (.ifCond .eq 18, 3) := by decide +kernel
theorem dX10_loss_37 : decode cX10_loss 37 = .ok (.aload_n 0, 1) := by decide +kernel
theorem dX10_loss_38 : decode cX10_loss 38 = .ok (.getfield 103, 3) := by decide +kernel
theorem dX10_loss_41 : decode cX10_loss 41 = .ok (.bipush 60, 2) := by decide +kernel
theorem dX10_loss_43 : decode cX10_loss 43 = .ok (.iload_n 2, 1) := by decide +kernel
theorem dX10_loss_44 : decode cX10_loss 44 = .ok (.imul, 1) := by decide +kernel
theorem dX10_loss_45 : decode cX10_loss 45 = .ok (.if_icmp .lt 7, 3) := by decide +kernel
theorem dX10_loss_48 : decode cX10_loss 48 = .ok (.iconst 1, 1) := by decide +kernel
theorem dX10_loss_49 : decode cX10_loss 49 = .ok (.goto 4, 3) := by decide +kernel
theorem dX10_loss_52 : decode cX10_loss 52 = .ok (.iconst 0, 1) := by decide +kernel
theorem dX10_loss_53 : decode cX10_loss 53 = .ok (.invokevirtual 95, 3) := by decide +kernel
theorem dX10_loss_56 : decode cX10_loss 56 = .ok (.ifCond .ne 5, 3) := by decide +kernel
theorem dX10_loss_59 : decode cX10_loss 59 = .ok (.iconst 0, 1) := by decide +kernel
theorem dX10_loss_60 : decode cX10_loss 60 = .ok (.ireturn, 1) := by decide +kernel
theorem dX10_loss_61 : decode cX10_loss 61 = .ok (.aload_n 0, 1) := by decide +kernel
theorem dX10_loss_62 : decode cX10_loss 62 = .ok (.getfield 46, 3) := by decide +kernel
theorem dX10_loss_65 : decode cX10_loss 65 = .ok (.bipush 20, 2) := by decide +kernel
theorem dX10_loss_67 : decode cX10_loss 67 = .ok (.iload_n 1, 1) := by decide +kernel
theorem dX10_loss_68 : decode cX10_loss 68 = .ok (.imul, 1) := by decide +kernel
theorem dX10_loss_69 : decode cX10_loss 69 = .ok (.iload_n 2, 1) := by decide +kernel
theorem dX10_loss_70 : decode cX10_loss 70 = .ok (.iadd, 1) := by decide +kernel
theorem dX10_loss_71 : decode cX10_loss 71 = .ok (.iaload, 1) := by decide +kernel
theorem dX10_loss_72 : decode cX10_loss 72 = .ok (.iconst 1, 1) := by decide +kernel
theorem dX10_loss_73 : decode cX10_loss 73 = .ok (.isub, 1) := by decide +kernel
theorem dX10_loss_74 : decode cX10_loss 74 = .ok (.istore 5, 2) := by decide +kernel
theorem dX10_loss_76 : decode cX10_loss 76 = .ok (.aload_n 0, 1) := by decide +kernel
theorem dX10_loss_77 : decode cX10_loss 77 = .ok (.getfield 46, 3) := by decide +kernel
theorem dX10_loss_80 : decode cX10_loss 80 = .ok (.bipush 20, 2) := by decide +kernel
theorem dX10_loss_82 : decode cX10_loss 82 = .ok (.iload_n 1, 1) := by decide +kernel
theorem dX10_loss_83 : decode cX10_loss 83 = .ok (.imul, 1) := by decide +kernel
theorem dX10_loss_84 : decode cX10_loss 84 = .ok (.iload_n 2, 1) := by decide +kernel
theorem dX10_loss_85 : decode cX10_loss 85 = .ok (.iadd, 1) := by decide +kernel
theorem dX10_loss_86 : decode cX10_loss 86 = .ok (.iload_n 3, 1) := by decide +kernel
theorem dX10_loss_87 : decode cX10_loss 87 = .ok (.iconst 1, 1) := by decide +kernel
theorem dX10_loss_88 : decode cX10_loss 88 = .ok (.iadd, 1) := by decide +kernel
theorem dX10_loss_89 : decode cX10_loss 89 = .ok (.iastore, 1) := by decide +kernel
theorem dX10_loss_90 : decode cX10_loss 90 = .ok (.iload 5, 2) := by decide +kernel
theorem dX10_loss_92 : decode cX10_loss 92 = .ok (.ireturn, 1) := by decide +kernel
set_option maxHeartbeats 4000000 in
set_option maxRecDepth 100000 in
theorem o_loss (de : Nat) (w : Wd) (mo : Nat) (ad : Nat → Nat) (A : Nat → Nat → Int32) (F : Nat → Int32) (L : Int32) (g : Nat → Int32) (hm : RM w mo ad) (xa xs hu : Int32) (nF fi : Nat) (h16 : nF ≤ 16) (hfi : inR xa 0 (F 17 - 1) = true → xa = nI fi ∧ fi < nF) (se : Nat) (hse : inR xs 0 19 = true → xs = nI se ∧ se < 20) : Ct yX10_loss cX10_loss 6 (some .int) 2 43 0 0 de [.ref mo, .int xa, .int xs, .int hu] (M w mo ad A F L g) (fun r w' => (goV (bI (inR xa 0 (F 17 - 1) && inR xs 0 19)) (bI (inR hu 0 100)) (bI ((inR xa 0 (F 17 - 1) && inR xs 0 19) && decide (60 * xs ≤ F 0))) = 0 → r = some (.int (A 18 (20 * fi + se) - 1)) ∧ ∃ g', w' = M w mo ad (updA A 18 (20 * fi + se) (hu + 1)) (F) 0 g') ∧ (¬ goV (bI (inR xa 0 (F 17 - 1) && inR xs 0 19)) (bI (inR hu 0 100)) (bI ((inR xa 0 (F 17 - 1) && inR xs 0 19) && decide (60 * xs ≤ F 0))) = 0 → r = some (.int 0) ∧ w' = M w mo ad A F (goV (bI (inR xa 0 (F 17 - 1) && inR xs 0 19)) (bI (inR hu 0 100)) (bI ((inR xa 0 (F 17 - 1) && inR xs 0 19) && decide (60 * xs ≤ F 0)))) g)) := by
  refine Ct.mk (by decide +kernel) [(0, .ref mo), (1, .int xa), (2, .int xs), (3, .int hu)] rfl (Nat.le_of_ble_eq_true rfl) ?_
  intro p l e R s m args below meth c D cy z C hnm
  refine g_cutS (pc' := 20) (.int (bI (inR xa 0 (F 17 - 1) && inR xs 0 19))) ?_ (fun j_20 => ?_)
  · refine g_istore C dX10_loss_20 (by decide) ?_
    refine g_aload_n C dX10_loss_22 rfl ?_
    refine g_iload C dX10_loss_23 rfl ?_
    refine g_iload_n C dX10_loss_25 rfl ?_
    refine g_iconst C 0 dX10_loss_26 (by rfl) ?_
    refine g_bipush C 100 dX10_loss_27 (by rfl) ?_
    refine g_callS C mt_X10_in [.int hu, .int 0, .int 100] (c_X10_in de _ hu 0 100) k_1014 rfl rfl (Nat.le_of_ble_eq_true rfl) (by decide) (by decide) (by decide) (by decide) dX10_loss_29 (fun r_29 w_29 hp_29 => ?_)
    obtain ⟨rfl, rfl⟩ := hp_29
    refine g_cutS (pc' := 53) (.int (bI ((inR xa 0 (F 17 - 1) && inR xs 0 19) && decide (60 * xs ≤ F 0)))) ?_ (fun j_53 => ?_)
    · refine g_callV C cls_11 12 mt_X10_goes [.int (bI (inR xa 0 (F 17 - 1) && inR xs 0 19)), .int (bI (inR hu 0 100)), .int (bI ((inR xa 0 (F 17 - 1) && inR xs 0 19) && decide (60 * xs ≤ F 0)))] (m_goes de w mo ad A F L g hm (bI (inR xa 0 (F 17 - 1) && inR xs 0 19)) (bI (inR hu 0 100)) (bI ((inR xa 0 (F 17 - 1) && inR xs 0 19) && decide (60 * xs ≤ F 0)))) hm.1 (by decide) k_1017 rfl rfl (Nat.le_of_ble_eq_true rfl) (by decide) (by decide) (by decide) (by decide) dX10_loss_53 (fun r_53 w_53 hp_53 => ?_)
      obtain ⟨rfl, rfl⟩ := hp_53
      refine g_if_ne C 61 dX10_loss_56 (by decide) (fun c_56 => ?_) (fun c_56 => ?_)
      · have b_56 := bI_n0.mp c_56
        have hg := of_decide_eq_true b_56
        rw [hg]
        obtain ⟨ha9, hb9, hc9⟩ := goV_012 hg
        obtain ⟨rfl, hf5⟩ := hfi (band ha9).1
        obtain ⟨rfl, hs5⟩ := hse (band ha9).2
        refine g_aload_n C dX10_loss_61 rfl ?_
        refine g_getR (b := (ad 18)) C cls_11 12 18 hm.1 (rm_18 hm).1 rfl k_933 dX10_loss_62 ?_
        refine g_bipush C 20 dX10_loss_65 (by rfl) ?_
        refine g_iload_n C dX10_loss_67 rfl ?_
        refine g_imul C dX10_loss_68 ?_
        refine g_iload_n C dX10_loss_69 rfl ?_
        refine g_iadd C dX10_loss_70 ?_
        rw [show (20 : Int32) * nI fi + nI se = nI (20 * fi + se) from ixm 20 fi se]
        refine g_iald C 2180 (rm_18 hm).2.1 rfl (show vp_in (nI ((20 * fi + se))) (aL w (ad 18)) by rw [(rm_18 hm).2.2]; exact nI_vp (show (20 * fi + se) < 320 by omega) (by omega)) dX10_loss_71 ?_
        rw [M_a18, nI_tn (show (20 * fi + se) ≤ 100000 by omega)]
        refine g_iconst C 1 dX10_loss_72 (by rfl) ?_
        refine g_isub C dX10_loss_73 ?_
        refine g_istore C dX10_loss_74 (by decide) ?_
        refine g_aload_n C dX10_loss_76 rfl ?_
        refine g_getR (b := (ad 18)) C cls_11 12 18 hm.1 (rm_18 hm).1 rfl k_933 dX10_loss_77 ?_
        refine g_bipush C 20 dX10_loss_80 (by rfl) ?_
        refine g_iload_n C dX10_loss_82 rfl ?_
        refine g_imul C dX10_loss_83 ?_
        refine g_iload_n C dX10_loss_84 rfl ?_
        refine g_iadd C dX10_loss_85 ?_
        rw [show (20 : Int32) * nI fi + nI se = nI (20 * fi + se) from ixm 20 fi se]
        refine g_iload_n C dX10_loss_86 rfl ?_
        refine g_iconst C 1 dX10_loss_87 (by rfl) ?_
        refine g_iadd C dX10_loss_88 ?_
        refine g_iast C 2180 (rm_18 hm).2.1 rfl (show vp_in (nI ((20 * fi + se))) (aL w (ad 18)) by rw [(rm_18 hm).2.2]; exact nI_vp (show (20 * fi + se) < 320 by omega) (by omega)) dX10_loss_89 ?_
        rw [nI_tn (show (20 * fi + se) ≤ 100000 by omega), M_p18]
        refine g_iload C dX10_loss_90 rfl ?_
        refine g_iret C rfl rfl (by decide) (by decide) dX10_loss_92 ?_
        first
        | exact ⟨fun h9 => absurd h9 hg, fun _ => ⟨rfl, rfl⟩⟩
        | (refine ⟨fun _ => ⟨?_, _, rfl⟩, fun h9 => absurd rfl h9⟩; exact congrArg (fun v => some (Value.int v)) (rfl))
      · have b_56 := bI_0.mp c_56
        have hg := of_decide_eq_false b_56
        refine g_iconst C 0 dX10_loss_59 (by rfl) ?_
        refine g_iret C rfl rfl (by decide) (by decide) dX10_loss_60 ?_
        first
        | exact ⟨fun h9 => absurd h9 hg, fun _ => ⟨rfl, rfl⟩⟩
        | (refine ⟨fun _ => ⟨?_, _, rfl⟩, fun h9 => absurd rfl h9⟩; exact congrArg (fun v => some (Value.int v)) (rfl))
    · refine g_iload C dX10_loss_32 rfl ?_
      refine g_if_eq C 52 dX10_loss_34 (by decide) (fun c_34 => ?_) (fun c_34 => ?_)
      · have b_34 := bI_0.mp c_34
        refine g_iconst C 0 dX10_loss_52 (by rfl) ?_
        exact g_eq rfl (congrArg (fun v => Value.int v :: _) (by first | rfl | (simp only [b_34]; done) | (simp only [b_34]; rfl) | (simp [b_34, bI]; done))) rfl j_53
      · have b_34 := bI_n0.mp c_34
        refine g_aload_n C dX10_loss_37 rfl ?_
        refine g_getI C cls_11 12 0 hm.1 rfl k_915 dX10_loss_38 ?_
        rw [M_f0]
        refine g_bipush C 60 dX10_loss_41 (by rfl) ?_
        refine g_iload_n C dX10_loss_43 rfl ?_
        refine g_imul C dX10_loss_44 ?_
        refine g_icmp_lt C 52 dX10_loss_45 (by decide) (fun c_45 => ?_) (fun c_45 => ?_)
        · have b_45 := And.intro (decide_eq_false (Int32.not_le.mpr c_45)) (decide_eq_true c_45)
          refine g_iconst C 0 dX10_loss_52 (by rfl) ?_
          exact g_eq rfl (congrArg (fun v => Value.int v :: _) (by first | rfl | (simp only [b_34, b_45]; done) | (simp only [b_34, b_45]; rfl) | (simp [b_34, b_45, bI]; done))) rfl j_53
        · have b_45 := And.intro (decide_eq_true (Int32.not_lt.mp c_45)) (decide_eq_false c_45)
          refine g_iconst C 1 dX10_loss_48 (by rfl) ?_
          refine g_goto C 53 dX10_loss_49 (by decide) ?_
          exact g_eq rfl (congrArg (fun v => Value.int v :: _) (by first | rfl | (simp only [b_34, b_45]; done) | (simp only [b_34, b_45]; rfl) | (simp [b_34, b_45, bI]; done))) rfl j_53
  · refine g_aload_n C dX10_loss_0 rfl ?_
    refine g_iload_n C dX10_loss_1 rfl ?_
    refine g_callV C cls_11 12 mt_X10_isFarm [.int xa] (m_isFarm de w mo ad A F L g hm xa) hm.1 (by decide) k_1123 rfl rfl (Nat.le_of_ble_eq_true rfl) (by decide) (by decide) (by decide) (by decide) dX10_loss_2 (fun r_2 w_2 hp_2 => ?_)
    obtain ⟨rfl, rfl⟩ := hp_2
    refine g_if_eq C 19 dX10_loss_5 (by decide) (fun c_5 => ?_) (fun c_5 => ?_)
    · have b_5 := bI_0.mp c_5
      refine g_iconst C 0 dX10_loss_19 (by rfl) ?_
      exact g_eq rfl (congrArg (fun v => Value.int v :: _) (by first | rfl | (simp only [b_5]; done) | (simp only [b_5]; rfl) | (simp [b_5, bI]; done))) rfl j_20
    · have b_5 := bI_n0.mp c_5
      refine g_iload_n C dX10_loss_8 rfl ?_
      refine g_callS C mt_X10_isSeason [.int xs] (c_X10_isSeason de _ xs) k_1053 rfl rfl (Nat.le_of_ble_eq_true rfl) (by decide) (by decide) (by decide) (by decide) dX10_loss_9 (fun r_9 w_9 hp_9 => ?_)
      obtain ⟨rfl, rfl⟩ := hp_9
      refine g_if_eq C 19 dX10_loss_12 (by decide) (fun c_12 => ?_) (fun c_12 => ?_)
      · have b_12 := bI_0.mp c_12
        refine g_iconst C 0 dX10_loss_19 (by rfl) ?_
        exact g_eq rfl (congrArg (fun v => Value.int v :: _) (by first | rfl | (simp only [b_5, b_12]; done) | (simp only [b_5, b_12]; rfl) | (simp [b_5, b_12, bI]; done))) rfl j_20
      · have b_12 := bI_n0.mp c_12
        refine g_iconst C 1 dX10_loss_15 (by rfl) ?_
        refine g_goto C 20 dX10_loss_16 (by decide) ?_
        exact g_eq rfl (congrArg (fun v => Value.int v :: _) (by first | rfl | (simp only [b_5, b_12]; done) | (simp only [b_5, b_12]; rfl) | (simp [b_5, b_12, bI]; done))) rfl j_20
end REF21
