section REF23
theorem inR_ne0 {x hi : Int32} (h : inR x 1 hi = true) : ¬ x = 0 := fun z => by
  rw [inR_iff, z] at h
  exact absurd h.1 (by decide)
theorem dX10_complain_0 : decode cX10_complain 0 = .ok (.aload_n 0, 1) := by decide +kernel
theorem dX10_complain_1 : decode cX10_complain 1 = .ok (.iload_n 1, 1) := by decide +kernel
theorem dX10_complain_2 : decode cX10_complain 2 = .ok (.invokevirtual 152, 3) := by decide +kernel
theorem dX10_complain_5 : decode cX10_complain 5 = .ok (.ifCond .eq 14, 3) := by decide +kernel
theorem dX10_complain_8 : decode cX10_complain 8 = .ok (.iload_n 2, 1) := by decide +kernel
theorem dX10_complain_9 : decode cX10_complain 9 = .ok (.invokestatic 116, 3) := by decide +kernel
theorem dX10_complain_12 : decode cX10_complain 12 = .ok (.ifCond .eq 7, 3) := by decide +kernel
theorem dX10_complain_15 : decode cX10_complain 15 = .ok (.iconst 1, 1) := by decide +kernel
theorem dX10_complain_16 : decode cX10_complain 16 = .ok (.goto 4, 3) := by decide +kernel
theorem dX10_complain_19 : decode cX10_complain 19 = .ok (.iconst 0, 1) := by decide +kernel
theorem dX10_complain_20 : decode cX10_complain 20 = .ok (.istore_n 3, 1) := by decide +kernel
theorem dX10_complain_21 : decode cX10_complain 21 = .ok (.iload_n 3, 1) := by decide +kernel
theorem dX10_complain_22 : decode cX10_complain 22 = .ok (.ifCond .eq 58, 3) := by decide +kernel
theorem dX10_complain_25 : decode cX10_complain 25 = .ok (.aload_n 0, 1) := by decide +kernel
theorem dX10_complain_26 : decode cX10_complain 26 = .ok (.getfield 66, 3) := by decide +kernel
theorem dX10_complain_29 : decode cX10_complain 29 = .ok (.iload_n 2, 1) := by decide +kernel
theorem dX10_complain_30 : decode cX10_complain 30 = .ok (.iaload, 1) := by decide +kernel
theorem dX10_complain_31 : decode cX10_complain 31 = .ok (.ifCond .le 49, 3) := by decide +kernel
theorem dX10_complain_34 : decode cX10_complain 34 = .ok (.aload_n 0, 1) := by decide +kernel
theorem dX10_complain_35 : decode cX10_complain 35 = .ok (.getfield 103, 3) := by decide +kernel
theorem dX10_complain_38 : decode cX10_complain 38 = .ok (.aload_n 0, 1) := by decide +kernel
theorem dX10_complain_39 : decode cX10_complain 39 = .ok (.getfield 66, 3) := by decide +kernel
theorem dX10_complain_42 : decode cX10_complain 42 = .ok (.iload_n 2, 1) := by decide +kernel
theorem dX10_complain_43 : decode cX10_complain 43 = .ok (.iaload, 1) := by decide +kernel
theorem dX10_complain_44 : decode cX10_complain 44 = .ok (.iconst 1, 1) := by decide +kernel
theorem dX10_complain_45 : decode cX10_complain 45 = .ok (.isub, 1) := by decide +kernel
theorem dX10_complain_46 : decode cX10_complain 46 = .ok (.bipush 20, 2) := by decide +kernel
theorem dX10_complain_48 : decode cX10_complain 48 = .ok (.iadd, 1) := by decide +kernel
theorem dX10_complain_49 : decode cX10_complain 49 = .ok (.if_icmp .gt 31, 3) := by decide +kernel
theorem dX10_complain_52 : decode cX10_complain 52 = .ok (.aload_n 0, 1) := by decide +kernel
theorem dX10_complain_53 : decode cX10_complain 53 = .ok (.iload_n 1, 1) := by decide +kernel
theorem dX10_complain_54 : decode cX10_complain 54 = .ok (.iload_n 2, 1) := by decide +kernel
theorem dX10_complain_55 : decode cX10_complain 55 = .ok (.invokevirtual 159, 3) := by decide +kernel
theorem dX10_complain_58 : decode cX10_complain 58 = .ok (.iconst (-1), 1) := by decide +kernel
theorem dX10_complain_59 : decode cX10_complain 59 = .ok (.if_icmp .eq 21, 3) := by decide +kernel
theorem dX10_complain_62 : decode cX10_complain 62 = .ok (.aload_n 0, 1) := by decide +kernel
theorem dX10_complain_63 : decode cX10_complain 63 = .ok (.getfield 49, 3) := by decide +kernel
theorem dX10_complain_66 : decode cX10_complain 66 = .ok (.bipush 20, 2) := by decide +kernel
theorem dX10_complain_68 : decode cX10_complain 68 = .ok (.iload_n 1, 1) := by decide +kernel
theorem dX10_complain_69 : decode cX10_complain 69 = .ok (.imul, 1) := by decide +kernel
theorem dX10_complain_70 : decode cX10_complain 70 = .ok (.iload_n 2, 1) := by decide +kernel
theorem dX10_complain_71 : decode cX10_complain 71 = .ok (.iadd, 1) := by decide +kernel
theorem dX10_complain_72 : decode cX10_complain 72 = .ok (.baload, 1) := by decide +kernel
theorem dX10_complain_73 : decode cX10_complain 73 = .ok (.ifCond .ne 7, 3) := by decide +kernel
theorem dX10_complain_76 : decode cX10_complain 76 = .ok (.iconst 1, 1) := by decide +kernel
theorem dX10_complain_77 : decode cX10_complain 77 = .ok (.goto 4, 3) := by decide +kernel
theorem dX10_complain_80 : decode cX10_complain 80 = .ok (.iconst 0, 1) := by decide +kernel
theorem dX10_complain_81 : decode cX10_complain 81 = .ok (.istore 4, 2) := by decide +kernel
theorem dX10_complain_83 : decode cX10_complain 83 = .ok (.aload_n 0, 1) := by decide +kernel
theorem dX10_complain_84 : decode cX10_complain 84 = .ok (.iload_n 3, 1) := by decide +kernel
theorem dX10_complain_85 : decode cX10_complain 85 = .ok (.iload 4, 2) := by decide +kernel
theorem dX10_complain_87 : decode cX10_complain 87 = .ok (.iconst 1, 1) := by decide +kernel
theorem dX10_complain_88 : decode cX10_complain 88 = .ok (.invokevirtual 95, 3) := by decide +kernel
theorem dX10_complain_91 : decode cX10_complain 91 = .ok (.ifCond .ne 5, 3) := by decide +kernel
theorem dX10_complain_94 : decode cX10_complain 94 = .ok (.iconst 0, 1) := by decide +kernel
theorem dX10_complain_95 : decode cX10_complain 95 = .ok (.ireturn, 1) := by decide +kernel
theorem dX10_complain_96 : decode cX10_complain 96 = .ok (.aload_n 0, 1) := by decide +kernel
theorem dX10_complain_97 : decode cX10_complain 97 = .ok (.getfield 49, 3) := by decide +kernel
theorem dX10_complain_100 : decode cX10_complain 100 = .ok (.bipush 20, 2) := by decide +kernel
theorem dX10_complain_102 : decode cX10_complain 102 = .ok (.iload_n 1, 1) := by decide +kernel
theorem dX10_complain_103 : decode cX10_complain 103 = .ok (.imul, 1) := by decide +kernel
theorem dX10_complain_104 : decode cX10_complain 104 = .ok (.iload_n 2, 1) := by decide +kernel
theorem dX10_complain_105 : decode cX10_complain 105 = .ok (.iadd, 1) := by decide +kernel
theorem dX10_complain_106 : decode cX10_complain 106 = .ok (.iconst 1, 1) := by decide +kernel
theorem dX10_complain_107 : decode cX10_complain 107 = .ok (.bastore, 1) := by decide +kernel
theorem dX10_complain_108 : decode cX10_complain 108 = .ok (.aload_n 0, 1) := by decide +kernel
theorem dX10_complain_109 : decode cX10_complain 109 = .ok (.aload_n 0, 1) := by decide +kernel
theorem dX10_complain_110 : decode cX10_complain 110 = .ok (.getfield 31, 3) := by decide +kernel
theorem dX10_complain_113 : decode cX10_complain 113 = .ok (.iload_n 1, 1) := by decide +kernel
theorem dX10_complain_114 : decode cX10_complain 114 = .ok (.iaload, 1) := by decide +kernel
theorem dX10_complain_115 : decode cX10_complain 115 = .ok (.iload_n 2, 1) := by decide +kernel
theorem dX10_complain_116 : decode cX10_complain 116 = .ok (.invokevirtual 170, 3) := by decide +kernel
theorem dX10_complain_119 : decode cX10_complain 119 = .ok (.ireturn, 1) := by decide +kernel
set_option maxHeartbeats 1000000 in
set_option maxRecDepth 100000 in
theorem o_complain (de : Nat) (w : Wd) (mo : Nat) (ad : Nat → Nat) (A : Nat → Nat → Int32) (F : Nat → Int32) (L : Int32) (g : Nat → Int32) (hm : RM w mo ad) (xa xe : Int32) (nC nF nS : Nat) (cf cs ho : Nat → Nat) (hC : CVA A nC nF nS cf cs ho) (hN : F 24 = nI nC) (fi : Nat) (hfi : inR xa 0 (F 17 - 1) = true → xa = nI fi ∧ fi < nF) (se : Nat) (hse : inR xe 0 19 = true → xe = nI se ∧ se < 20) : Ct yX10_complain cX10_complain 5 (some .int) 2 53 0 0 de [.ref mo, .int xa, .int xe] (M w mo ad A F L g) (fun r w' => (goV (bI (inR xa 0 (F 17 - 1) && inR xe 0 19)) (bI ((inR xa 0 (F 17 - 1) && inR xe 0 19) && (decide (0 < A 25 se) && (decide (F 0 ≤ A 25 se - 1 + 20) && (!decide ((oI (lastO (qF cf cs fi se) nC)) = -1) && decide (A 19 (20 * fi + se) = 0)))))) 1 = 0 → r = some (.int ((lkR (updA A 19 (20 * fi + se) 1) cf cs ho (ho fi) se nC).2)) ∧ ∃ g', w' = M w mo ad ((lkR (updA A 19 (20 * fi + se) 1) cf cs ho (ho fi) se nC).1) (F) 0 g') ∧ (¬ goV (bI (inR xa 0 (F 17 - 1) && inR xe 0 19)) (bI ((inR xa 0 (F 17 - 1) && inR xe 0 19) && (decide (0 < A 25 se) && (decide (F 0 ≤ A 25 se - 1 + 20) && (!decide ((oI (lastO (qF cf cs fi se) nC)) = -1) && decide (A 19 (20 * fi + se) = 0)))))) 1 = 0 → r = some (.int 0) ∧ w' = M w mo ad A F (goV (bI (inR xa 0 (F 17 - 1) && inR xe 0 19)) (bI ((inR xa 0 (F 17 - 1) && inR xe 0 19) && (decide (0 < A 25 se) && (decide (F 0 ≤ A 25 se - 1 + 20) && (!decide ((oI (lastO (qF cf cs fi se) nC)) = -1) && decide (A 19 (20 * fi + se) = 0)))))) 1) g)) := by
  refine Ct.mk (by decide +kernel) [(0, .ref mo), (1, .int xa), (2, .int xe)] rfl (Nat.le_of_ble_eq_true rfl) ?_
  intro p l e R s m args below meth c D cy z C hnm
  obtain ⟨h60, h16, h5, hcv, hho⟩ := id hC
  refine g_cutS (pc' := 20) (.int (bI (inR xa 0 (F 17 - 1) && inR xe 0 19))) ?_ (fun j_20 => ?_)
  · refine g_istore_n C dX10_complain_20 (by decide) ?_
    refine g_cutS (pc' := 81) (.int (bI ((inR xa 0 (F 17 - 1) && inR xe 0 19) && (decide (0 < A 25 se) && (decide (F 0 ≤ A 25 se - 1 + 20) && (!decide ((oI (lastO (qF cf cs fi se) nC)) = -1) && decide (A 19 (20 * fi + se) = 0))))))) ?_ (fun j_81 => ?_)
    · refine g_istore C dX10_complain_81 (by decide) ?_
      refine g_aload_n C dX10_complain_83 rfl ?_
      refine g_iload_n C dX10_complain_84 rfl ?_
      refine g_iload C dX10_complain_85 rfl ?_
      refine g_iconst C 1 dX10_complain_87 (by rfl) ?_
      refine g_callV C cls_11 12 mt_X10_goes [.int (bI (inR xa 0 (F 17 - 1) && inR xe 0 19)), .int (bI ((inR xa 0 (F 17 - 1) && inR xe 0 19) && (decide (0 < A 25 se) && (decide (F 0 ≤ A 25 se - 1 + 20) && (!decide ((oI (lastO (qF cf cs fi se) nC)) = -1) && decide (A 19 (20 * fi + se) = 0)))))), .int 1] (m_goes de w mo ad A F L g hm (bI (inR xa 0 (F 17 - 1) && inR xe 0 19)) (bI ((inR xa 0 (F 17 - 1) && inR xe 0 19) && (decide (0 < A 25 se) && (decide (F 0 ≤ A 25 se - 1 + 20) && (!decide ((oI (lastO (qF cf cs fi se) nC)) = -1) && decide (A 19 (20 * fi + se) = 0)))))) 1) hm.1 (by decide) k_1017 rfl rfl (Nat.le_of_ble_eq_true rfl) (by decide) (by decide) (by decide) (by decide) dX10_complain_88 (fun r_88 w_88 hp_88 => ?_)
      obtain ⟨rfl, rfl⟩ := hp_88
      refine g_if_ne C 96 dX10_complain_91 (by decide) (fun c_91 => ?_) (fun c_91 => ?_)
      · have b_91 := bI_n0.mp c_91
        have hg := of_decide_eq_true b_91
        rw [hg]
        obtain ⟨ha9, hb9⟩ := goV_01 hg
        obtain ⟨rfl, hf5⟩ := hfi (band ha9).1
        obtain ⟨rfl, he5⟩ := hse (band ha9).2
        refine g_aload_n C dX10_complain_96 rfl ?_
        refine g_getR (b := (ad 19)) C cls_11 12 19 hm.1 (rm_19 hm).1 rfl k_934 dX10_complain_97 ?_
        refine g_bipush C 20 dX10_complain_100 (by rfl) ?_
        refine g_iload_n C dX10_complain_102 rfl ?_
        refine g_imul C dX10_complain_103 ?_
        refine g_iload_n C dX10_complain_104 rfl ?_
        refine g_iadd C dX10_complain_105 ?_
        rw [show (20 : Int32) * nI fi + nI se = nI (20 * fi + se) from ixm 20 fi se]
        refine g_iconst C 1 dX10_complain_106 (by rfl) ?_
        refine g_zast C 2191 (rm_19 hm).2.1 rfl (show vp_in (nI (20 * fi + se)) (aL w (ad 19)) by rw [(rm_19 hm).2.2]; exact nI_vp (show 20 * fi + se < 320 by omega) (by omega)) (by decide) dX10_complain_107 ?_
        rw [nI_tn (show 20 * fi + se ≤ 100000 by omega), M_p19]
        refine g_aload_n C dX10_complain_108 rfl ?_
        refine g_aload_n C dX10_complain_109 rfl ?_
        refine g_getR (b := (ad 12)) C cls_11 12 12 hm.1 (rm_12 hm).1 rfl k_927 dX10_complain_110 ?_
        refine g_iload_n C dX10_complain_113 rfl ?_
        refine g_iald C 2120 (rm_12 hm).2.1 rfl (show vp_in (nI (fi)) (aL w (ad 12)) by rw [(rm_12 hm).2.2]; exact nI_vp (show fi < 16 by omega) (by omega)) dX10_complain_114 ?_
        rw [M_a12, nI_tn (show fi ≤ 100000 by omega)]
        rw [updA_ne (Or.inl (by decide)), (hho fi hf5).1]
        refine g_iload_n C dX10_complain_115 rfl ?_
        refine g_callV C cls_11 12 mt_X10_looks [.int (nI (ho fi)), .int (nI se)] (m_looks de w mo ad (updA A 19 (20 * fi + se) 1) F 0 g hm nC nF nS cf cs ho (hC.upd (by decide) (Or.inl (by decide))) hN (ho fi) se (hho fi hf5).2 he5) hm.1 (by decide) k_1160 rfl rfl (Nat.le_of_ble_eq_true rfl) (by decide) (by decide) (by decide) (by decide) dX10_complain_116 (fun r_116 w_116 hp_116 => ?_)
        obtain ⟨rfl, rfl⟩ := hp_116
        refine g_iret C rfl rfl (by decide) (by decide) dX10_complain_119 ?_
        first
        | exact ⟨fun h9 => absurd h9 hg, fun _ => ⟨rfl, rfl⟩⟩
        | (refine ⟨fun _ => ⟨?_, _, rfl⟩, fun h9 => absurd rfl h9⟩; exact congrArg (fun v => some (Value.int v)) (rfl))
      · have b_91 := bI_0.mp c_91
        have hg := of_decide_eq_false b_91
        refine g_iconst C 0 dX10_complain_94 (by rfl) ?_
        refine g_iret C rfl rfl (by decide) (by decide) dX10_complain_95 ?_
        first
        | exact ⟨fun h9 => absurd h9 hg, fun _ => ⟨rfl, rfl⟩⟩
        | (refine ⟨fun _ => ⟨?_, _, rfl⟩, fun h9 => absurd rfl h9⟩; exact congrArg (fun v => some (Value.int v)) (rfl))
    · refine g_iload_n C dX10_complain_21 rfl ?_
      refine g_if_eq C 80 dX10_complain_22 (by decide) (fun c_22 => ?_) (fun c_22 => ?_)
      · have b_22 := bI_0.mp c_22
        refine g_iconst C 0 dX10_complain_80 (by rfl) ?_
        exact g_eq rfl (congrArg (fun v => Value.int v :: _) (by first | rfl | (simp only [b_22]; done) | (simp only [b_22]; rfl) | ((try simp only [b_22]); rfl) | (simp [b_22, bI]; done))) rfl j_81
      · have b_22 := bI_n0.mp c_22
        obtain ⟨rfl, hf5⟩ := hfi (band b_22).1
        obtain ⟨rfl, he5⟩ := hse (band b_22).2
        refine g_aload_n C dX10_complain_25 rfl ?_
        refine g_getR (b := (ad 25)) C cls_11 12 25 hm.1 (rm_25 hm).1 rfl k_940 dX10_complain_26 ?_
        refine g_iload_n C dX10_complain_29 rfl ?_
        refine g_iald C 2250 (rm_25 hm).2.1 rfl (show vp_in (nI (se)) (aL w (ad 25)) by rw [(rm_25 hm).2.2]; exact nI_vp (show se < 20 by omega) (by omega)) dX10_complain_30 ?_
        rw [M_a25, nI_tn (show se ≤ 100000 by omega)]
        refine g_if_le C 80 dX10_complain_31 (by decide) (fun c_31 => ?_) (fun c_31 => ?_)
        · have b_31 := And.intro (decide_eq_false (Int32.not_lt.mpr c_31)) (decide_eq_true c_31)
          refine g_iconst C 0 dX10_complain_80 (by rfl) ?_
          exact g_eq rfl (congrArg (fun v => Value.int v :: _) (by first | rfl | (simp only [b_22, b_31]; done) | (simp only [b_22, b_31]; rfl) | ((try simp only [b_31]); (try simp only [b_22]); rfl) | (simp [b_22, b_31, bI]; done))) rfl j_81
        · have b_31 := And.intro (decide_eq_true (Int32.not_le.mp c_31)) (decide_eq_false c_31)
          refine g_aload_n C dX10_complain_34 rfl ?_
          refine g_getI C cls_11 12 0 hm.1 rfl k_915 dX10_complain_35 ?_
          rw [M_f0]
          refine g_aload_n C dX10_complain_38 rfl ?_
          refine g_getR (b := (ad 25)) C cls_11 12 25 hm.1 (rm_25 hm).1 rfl k_940 dX10_complain_39 ?_
          refine g_iload_n C dX10_complain_42 rfl ?_
          refine g_iald C 2250 (rm_25 hm).2.1 rfl (show vp_in (nI (se)) (aL w (ad 25)) by rw [(rm_25 hm).2.2]; exact nI_vp (show se < 20 by omega) (by omega)) dX10_complain_43 ?_
          rw [M_a25, nI_tn (show se ≤ 100000 by omega)]
          refine g_iconst C 1 dX10_complain_44 (by rfl) ?_
          refine g_isub C dX10_complain_45 ?_
          refine g_bipush C 20 dX10_complain_46 (by rfl) ?_
          refine g_iadd C dX10_complain_48 ?_
          refine g_icmp_gt C 80 dX10_complain_49 (by decide) (fun c_49 => ?_) (fun c_49 => ?_)
          · have b_49 := And.intro (decide_eq_false (Int32.not_le.mpr c_49)) (decide_eq_true c_49)
            refine g_iconst C 0 dX10_complain_80 (by rfl) ?_
            exact g_eq rfl (congrArg (fun v => Value.int v :: _) (by first | rfl | (simp only [b_22, b_31, b_49]; done) | (simp only [b_22, b_31, b_49]; rfl) | ((try simp only [b_49]); (try simp only [b_31]); (try simp only [b_22]); rfl) | (simp [b_22, b_31, b_49, bI]; done))) rfl j_81
          · have b_49 := And.intro (decide_eq_true (Int32.not_lt.mp c_49)) (decide_eq_false c_49)
            refine g_aload_n C dX10_complain_52 rfl ?_
            refine g_iload_n C dX10_complain_53 rfl ?_
            refine g_iload_n C dX10_complain_54 rfl ?_
            refine g_callV C cls_11 12 mt_X10_coverOf [.int (nI fi), .int (nI se)] (m_coverOf de w mo ad A F L g hm nC nF nS cf cs ho hC hN fi se (by omega) (by omega)) hm.1 (by decide) k_1140 rfl rfl (Nat.le_of_ble_eq_true rfl) (by decide) (by decide) (by decide) (by decide) dX10_complain_55 (fun r_55 w_55 hp_55 => ?_)
            obtain ⟨rfl, rfl⟩ := hp_55
            refine g_iconst C (-1) dX10_complain_58 (by rfl) ?_
            refine g_icmp_eq C 80 dX10_complain_59 (by decide) (fun c_59 => ?_) (fun c_59 => ?_)
            · have b_59 := decide_eq_true c_59
              refine g_iconst C 0 dX10_complain_80 (by rfl) ?_
              exact g_eq rfl (congrArg (fun v => Value.int v :: _) (by first | rfl | (simp only [b_22, b_31, b_49, b_59]; done) | (simp only [b_22, b_31, b_49, b_59]; rfl) | ((try simp only [b_59]); (try simp only [b_49]); (try simp only [b_31]); (try simp only [b_22]); rfl) | (simp [b_22, b_31, b_49, b_59, bI]; done))) rfl j_81
            · have b_59 := decide_eq_false c_59
              refine g_aload_n C dX10_complain_62 rfl ?_
              refine g_getR (b := (ad 19)) C cls_11 12 19 hm.1 (rm_19 hm).1 rfl k_934 dX10_complain_63 ?_
              refine g_bipush C 20 dX10_complain_66 (by rfl) ?_
              refine g_iload_n C dX10_complain_68 rfl ?_
              refine g_imul C dX10_complain_69 ?_
              refine g_iload_n C dX10_complain_70 rfl ?_
              refine g_iadd C dX10_complain_71 ?_
              rw [show (20 : Int32) * nI fi + nI se = nI (20 * fi + se) from ixm 20 fi se]
              refine g_zald C 2191 (rm_19 hm).2.1 rfl (show vp_in (nI (20 * fi + se)) (aL w (ad 19)) by rw [(rm_19 hm).2.2]; exact nI_vp (show 20 * fi + se < 320 by omega) (by omega)) dX10_complain_72 ?_
              rw [M_a19, nI_tn (show 20 * fi + se ≤ 100000 by omega)]
              refine g_if_ne C 80 dX10_complain_73 (by decide) (fun c_73 => ?_) (fun c_73 => ?_)
              · have b_73 := decide_eq_false c_73
                refine g_iconst C 0 dX10_complain_80 (by rfl) ?_
                exact g_eq rfl (congrArg (fun v => Value.int v :: _) (by first | rfl | (simp only [b_22, b_31, b_49, b_59, b_73]; done) | (simp only [b_22, b_31, b_49, b_59, b_73]; rfl) | ((try simp only [b_73]); (try simp only [b_59]); (try simp only [b_49]); (try simp only [b_31]); (try simp only [b_22]); rfl) | (simp [b_22, b_31, b_49, b_59, b_73, bI]; done))) rfl j_81
              · have b_73 := decide_eq_true c_73
                refine g_iconst C 1 dX10_complain_76 (by rfl) ?_
                refine g_goto C 81 dX10_complain_77 (by decide) ?_
                exact g_eq rfl (congrArg (fun v => Value.int v :: _) (by first | rfl | (simp only [b_22, b_31, b_49, b_59, b_73]; done) | (simp only [b_22, b_31, b_49, b_59, b_73]; rfl) | ((try simp only [b_73]); (try simp only [b_59]); (try simp only [b_49]); (try simp only [b_31]); (try simp only [b_22]); rfl) | (simp [b_22, b_31, b_49, b_59, b_73, bI]; done))) rfl j_81
  · refine g_aload_n C dX10_complain_0 rfl ?_
    refine g_iload_n C dX10_complain_1 rfl ?_
    refine g_callV C cls_11 12 mt_X10_isFarm [.int xa] (m_isFarm de w mo ad A F L g hm xa) hm.1 (by decide) k_1123 rfl rfl (Nat.le_of_ble_eq_true rfl) (by decide) (by decide) (by decide) (by decide) dX10_complain_2 (fun r_2 w_2 hp_2 => ?_)
    obtain ⟨rfl, rfl⟩ := hp_2
    refine g_if_eq C 19 dX10_complain_5 (by decide) (fun c_5 => ?_) (fun c_5 => ?_)
    · have b_5 := bI_0.mp c_5
      refine g_iconst C 0 dX10_complain_19 (by rfl) ?_
      exact g_eq rfl (congrArg (fun v => Value.int v :: _) (by first | rfl | (simp only [b_5]; done) | (simp only [b_5]; rfl) | ((try simp only [b_5]); rfl) | (simp [b_5, bI]; done))) rfl j_20
    · have b_5 := bI_n0.mp c_5
      refine g_iload_n C dX10_complain_8 rfl ?_
      refine g_callS C mt_X10_isSeason [.int xe] (c_X10_isSeason de _ xe) k_1053 rfl rfl (Nat.le_of_ble_eq_true rfl) (by decide) (by decide) (by decide) (by decide) dX10_complain_9 (fun r_9 w_9 hp_9 => ?_)
      obtain ⟨rfl, rfl⟩ := hp_9
      refine g_if_eq C 19 dX10_complain_12 (by decide) (fun c_12 => ?_) (fun c_12 => ?_)
      · have b_12 := bI_0.mp c_12
        refine g_iconst C 0 dX10_complain_19 (by rfl) ?_
        exact g_eq rfl (congrArg (fun v => Value.int v :: _) (by first | rfl | (simp only [b_5, b_12]; done) | (simp only [b_5, b_12]; rfl) | ((try simp only [b_12]); (try simp only [b_5]); rfl) | (simp [b_5, b_12, bI]; done))) rfl j_20
      · have b_12 := bI_n0.mp c_12
        refine g_iconst C 1 dX10_complain_15 (by rfl) ?_
        refine g_goto C 20 dX10_complain_16 (by decide) ?_
        exact g_eq rfl (congrArg (fun v => Value.int v :: _) (by first | rfl | (simp only [b_5, b_12]; done) | (simp only [b_5, b_12]; rfl) | ((try simp only [b_12]); (try simp only [b_5]); rfl) | (simp [b_5, b_12, bI]; done))) rfl j_20
theorem dX10_sell_0 : decode cX10_sell 0 = .ok (.aload_n 0, 1) := by decide +kernel
theorem dX10_sell_1 : decode cX10_sell 1 = .ok (.iload_n 1, 1) := by decide +kernel
theorem dX10_sell_2 : decode cX10_sell 2 = .ok (.invokevirtual 152, 3) := by decide +kernel
theorem dX10_sell_5 : decode cX10_sell 5 = .ok (.ifCond .eq 23, 3) := by decide +kernel
theorem dX10_sell_8 : decode cX10_sell 8 = .ok (.aload_n 0, 1) := by decide +kernel
theorem dX10_sell_9 : decode cX10_sell 9 = .ok (.iload_n 2, 1) := by decide +kernel
theorem dX10_sell_10 : decode cX10_sell 10 = .ok (.invokevirtual 140, 3) := by decide +kernel
theorem dX10_sell_13 : decode cX10_sell 13 = .ok (.ifCond .eq 15, 3) := by decide +kernel
theorem dX10_sell_16 : decode cX10_sell 16 = .ok (.iload 4, 2) := by decide +kernel
theorem dX10_sell_18 : decode cX10_sell 18 = .ok (.invokestatic 116, 3) := by decide +kernel
theorem dX10_sell_21 : decode cX10_sell 21 = .ok (.ifCond .eq 7, 3) := by decide +kernel
theorem dX10_sell_24 : decode cX10_sell 24 = .ok (.iconst 1, 1) := by decide +kernel
theorem dX10_sell_25 : decode cX10_sell 25 = .ok (.goto 4, 3) := by decide +kernel
theorem dX10_sell_28 : decode cX10_sell 28 = .ok (.iconst 0, 1) := by decide +kernel
theorem dX10_sell_29 : decode cX10_sell 29 = .ok (.istore 5, 2) := by decide +kernel
theorem dX10_sell_31 : decode cX10_sell 31 = .ok (.aload_n 0, 1) := by decide +kernel
theorem dX10_sell_32 : decode cX10_sell 32 = .ok (.getfield 103, 3) := by decide +kernel
theorem dX10_sell_35 : decode cX10_sell 35 = .ok (.bipush 60, 2) := by decide +kernel
theorem dX10_sell_37 : decode cX10_sell 37 = .ok (.iload 5, 2) := by decide +kernel
theorem dX10_sell_39 : decode cX10_sell 39 = .ok (.ifCond .eq 8, 3) := by decide +kernel
theorem dX10_sell_42 : decode cX10_sell 42 = .ok (.iload 4, 2) := by decide +kernel
theorem dX10_sell_44 : decode cX10_sell 44 = .ok (.goto 4, 3) := by decide +kernel
theorem dX10_sell_47 : decode cX10_sell 47 = .ok (.iconst 0, 1) := by decide +kernel
theorem dX10_sell_48 : decode cX10_sell 48 = .ok (.imul, 1) := by decide +kernel
theorem dX10_sell_49 : decode cX10_sell 49 = .ok (.bipush 30, 2) := by decide +kernel
theorem dX10_sell_51 : decode cX10_sell 51 = .ok (.isub, 1) := by decide +kernel
theorem dX10_sell_52 : decode cX10_sell 52 = .ok (.bipush 60, 2) := by decide +kernel
theorem dX10_sell_54 : decode cX10_sell 54 = .ok (.iload 5, 2) := by decide +kernel
theorem dX10_sell_56 : decode cX10_sell 56 = .ok (.ifCond .eq 8, 3) := by decide +kernel
theorem dX10_sell_59 : decode cX10_sell 59 = .ok (.iload 4, 2) := by decide +kernel
theorem dX10_sell_61 : decode cX10_sell 61 = .ok (.goto 4, 3) := by decide +kernel
theorem dX10_sell_64 : decode cX10_sell 64 = .ok (.iconst 0, 1) := by decide +kernel
theorem dX10_sell_65 : decode cX10_sell 65 = .ok (.imul, 1) := by decide +kernel
theorem dX10_sell_66 : decode cX10_sell 66 = .ok (.iconst 1, 1) := by decide +kernel
theorem dX10_sell_67 : decode cX10_sell 67 = .ok (.isub, 1) := by decide +kernel
theorem dX10_sell_68 : decode cX10_sell 68 = .ok (.invokestatic 81, 3) := by decide +kernel
theorem dX10_sell_71 : decode cX10_sell 71 = .ok (.istore 6, 2) := by decide +kernel
theorem dX10_sell_73 : decode cX10_sell 73 = .ok (.aload_n 0, 1) := by decide +kernel
theorem dX10_sell_74 : decode cX10_sell 74 = .ok (.iload 5, 2) := by decide +kernel
theorem dX10_sell_76 : decode cX10_sell 76 = .ok (.iload_n 3, 1) := by decide +kernel
theorem dX10_sell_77 : decode cX10_sell 77 = .ok (.iconst 1, 1) := by decide +kernel
theorem dX10_sell_78 : decode cX10_sell 78 = .ok (.sipush 2000, 3) := by decide +kernel
theorem dX10_sell_81 : decode cX10_sell 81 = .ok (.invokestatic 81, 3) := by decide +kernel
theorem dX10_sell_84 : decode cX10_sell 84 = .ok (.iload 5, 2) := by decide +kernel
theorem dX10_sell_86 : decode cX10_sell 86 = .ok (.ifCond .eq 43, 3) := by decide +kernel
theorem dX10_sell_89 : decode cX10_sell 89 = .ok (.aload_n 0, 1) := by decide +kernel
theorem dX10_sell_90 : decode cX10_sell 90 = .ok (.getfield 156, 3) := by decide +kernel
theorem dX10_sell_93 : decode cX10_sell 93 = .ok (.bipush 60, 2) := by decide +kernel
theorem dX10_sell_95 : decode cX10_sell 95 = .ok (.if_icmp .ge 34, 3) := by decide +kernel
theorem dX10_sell_98 : decode cX10_sell 98 = .ok (.iload 6, 2) := by decide +kernel
theorem dX10_sell_100 : decode cX10_sell 100 = .ok (.ifCond .eq 29, 3) := by decide +kernel
theorem dX10_sell_103 : decode cX10_sell 103 = .ok (.aload_n 0, 1) := by decide +kernel
theorem dX10_sell_104 : decode cX10_sell 104 = .ok (.iload_n 1, 1) := by decide +kernel
theorem dX10_sell_105 : decode cX10_sell 105 = .ok (.iload 4, 2) := by decide +kernel
theorem dX10_sell_107 : decode cX10_sell 107 = .ok (.invokevirtual 159, 3) := by decide +kernel
theorem dX10_sell_110 : decode cX10_sell 110 = .ok (.iconst (-1), 1) := by decide +kernel
theorem dX10_sell_111 : decode cX10_sell 111 = .ok (.if_icmp .ne 18, 3) := by decide +kernel
theorem dX10_sell_114 : decode cX10_sell 114 = .ok (.aload_n 0, 1) := by decide +kernel
theorem dX10_sell_115 : decode cX10_sell 115 = .ok (.getfield 34, 3) := by decide +kernel
theorem dX10_sell_118 : decode cX10_sell 118 = .ok (.iload_n 1, 1) := by decide +kernel
theorem dX10_sell_119 : decode cX10_sell 119 = .ok (.iaload, 1) := by decide +kernel
theorem dX10_sell_120 : decode cX10_sell 120 = .ok (.bipush 20, 2) := by decide +kernel
theorem dX10_sell_122 : decode cX10_sell 122 = .ok (.if_icmp .lt 7, 3) := by decide +kernel
theorem dX10_sell_125 : decode cX10_sell 125 = .ok (.iconst 1, 1) := by decide +kernel
theorem dX10_sell_126 : decode cX10_sell 126 = .ok (.goto 4, 3) := by decide +kernel
theorem dX10_sell_129 : decode cX10_sell 129 = .ok (.iconst 0, 1) := by decide +kernel
theorem dX10_sell_130 : decode cX10_sell 130 = .ok (.invokevirtual 95, 3) := by decide +kernel
theorem dX10_sell_133 : decode cX10_sell 133 = .ok (.ifCond .ne 5, 3) := by decide +kernel
theorem dX10_sell_136 : decode cX10_sell 136 = .ok (.iconst 0, 1) := by decide +kernel
theorem dX10_sell_137 : decode cX10_sell 137 = .ok (.ireturn, 1) := by decide +kernel
theorem dX10_sell_138 : decode cX10_sell 138 = .ok (.iload_n 3, 1) := by decide +kernel
theorem dX10_sell_139 : decode cX10_sell 139 = .ok (.aload_n 0, 1) := by decide +kernel
theorem dX10_sell_140 : decode cX10_sell 140 = .ok (.aload_n 0, 1) := by decide +kernel
theorem dX10_sell_141 : decode cX10_sell 141 = .ok (.getfield 31, 3) := by decide +kernel
theorem dX10_sell_144 : decode cX10_sell 144 = .ok (.iload_n 1, 1) := by decide +kernel
theorem dX10_sell_145 : decode cX10_sell 145 = .ok (.iaload, 1) := by decide +kernel
theorem dX10_sell_146 : decode cX10_sell 146 = .ok (.iload_n 2, 1) := by decide +kernel
theorem dX10_sell_147 : decode cX10_sell 147 = .ok (.invokevirtual 149, 3) := by decide +kernel
theorem dX10_sell_150 : decode cX10_sell 150 = .ok (.imul, 1) := by decide +kernel
theorem dX10_sell_151 : decode cX10_sell 151 = .ok (.sipush 1000, 3) := by decide +kernel
theorem dX10_sell_154 : decode cX10_sell 154 = .ok (.idiv, 1) := by decide +kernel
theorem dX10_sell_155 : decode cX10_sell 155 = .ok (.istore 7, 2) := by decide +kernel
theorem dX10_sell_157 : decode cX10_sell 157 = .ok (.iload 7, 2) := by decide +kernel
theorem dX10_sell_159 : decode cX10_sell 159 = .ok (.iload 7, 2) := by decide +kernel
theorem dX10_sell_161 : decode cX10_sell 161 = .ok (.aload_n 0, 1) := by decide +kernel
theorem dX10_sell_162 : decode cX10_sell 162 = .ok (.getfield 53, 3) := by decide +kernel
theorem dX10_sell_165 : decode cX10_sell 165 = .ok (.imul, 1) := by decide +kernel
theorem dX10_sell_166 : decode cX10_sell 166 = .ok (.bipush 100, 2) := by decide +kernel
theorem dX10_sell_168 : decode cX10_sell 168 = .ok (.idiv, 1) := by decide +kernel
theorem dX10_sell_169 : decode cX10_sell 169 = .ok (.iadd, 1) := by decide +kernel
theorem dX10_sell_170 : decode cX10_sell 170 = .ok (.istore 8, 2) := by decide +kernel
theorem dX10_sell_172 : decode cX10_sell 172 = .ok (.iload 8, 2) := by decide +kernel
theorem dX10_sell_174 : decode cX10_sell 174 = .ok (.iload_n 3, 1) := by decide +kernel
theorem dX10_sell_175 : decode cX10_sell 175 = .ok (.sipush 500, 3) := by decide +kernel
theorem dX10_sell_178 : decode cX10_sell 178 = .ok (.invokestatic 137, 3) := by decide +kernel
theorem dX10_sell_181 : decode cX10_sell 181 = .ok (.imul, 1) := by decide +kernel
theorem dX10_sell_182 : decode cX10_sell 182 = .ok (.iload_n 3, 1) := by decide +kernel
theorem dX10_sell_183 : decode cX10_sell 183 = .ok (.idiv, 1) := by decide +kernel
theorem dX10_sell_184 : decode cX10_sell 184 = .ok (.iconst 2, 1) := by decide +kernel
theorem dX10_sell_185 : decode cX10_sell 185 = .ok (.idiv, 1) := by decide +kernel
theorem dX10_sell_186 : decode cX10_sell 186 = .ok (.istore 9, 2) := by decide +kernel
theorem dX10_sell_188 : decode cX10_sell 188 = .ok (.bipush 10, 2) := by decide +kernel
theorem dX10_sell_190 : decode cX10_sell 190 = .ok (.aload_n 0, 1) := by decide +kernel
theorem dX10_sell_191 : decode cX10_sell 191 = .ok (.getfield 156, 3) := by decide +kernel
theorem dX10_sell_194 : decode cX10_sell 194 = .ok (.imul, 1) := by decide +kernel
theorem dX10_sell_195 : decode cX10_sell 195 = .ok (.istore 10, 2) := by decide +kernel
theorem dX10_sell_197 : decode cX10_sell 197 = .ok (.aload_n 0, 1) := by decide +kernel
theorem dX10_sell_198 : decode cX10_sell 198 = .ok (.getfield 63, 3) := by decide +kernel
theorem dX10_sell_201 : decode cX10_sell 201 = .ok (.iload 10, 2) := by decide +kernel
theorem dX10_sell_203 : decode cX10_sell 203 = .ok (.iload_n 1, 1) := by decide +kernel
theorem dX10_sell_204 : decode cX10_sell 204 = .ok (.iastore, 1) := by decide +kernel
theorem dX10_sell_205 : decode cX10_sell 205 = .ok (.aload_n 0, 1) := by decide +kernel
theorem dX10_sell_206 : decode cX10_sell 206 = .ok (.getfield 63, 3) := by decide +kernel
theorem dX10_sell_209 : decode cX10_sell 209 = .ok (.iload 10, 2) := by decide +kernel
theorem dX10_sell_211 : decode cX10_sell 211 = .ok (.iconst 1, 1) := by decide +kernel
theorem dX10_sell_212 : decode cX10_sell 212 = .ok (.iadd, 1) := by decide +kernel
theorem dX10_sell_213 : decode cX10_sell 213 = .ok (.iload_n 2, 1) := by decide +kernel
theorem dX10_sell_214 : decode cX10_sell 214 = .ok (.iastore, 1) := by decide +kernel
theorem dX10_sell_215 : decode cX10_sell 215 = .ok (.aload_n 0, 1) := by decide +kernel
theorem dX10_sell_216 : decode cX10_sell 216 = .ok (.getfield 63, 3) := by decide +kernel
theorem dX10_sell_219 : decode cX10_sell 219 = .ok (.iload 10, 2) := by decide +kernel
theorem dX10_sell_221 : decode cX10_sell 221 = .ok (.iconst 2, 1) := by decide +kernel
theorem dX10_sell_222 : decode cX10_sell 222 = .ok (.iadd, 1) := by decide +kernel
theorem dX10_sell_223 : decode cX10_sell 223 = .ok (.iload_n 3, 1) := by decide +kernel
theorem dX10_sell_224 : decode cX10_sell 224 = .ok (.iastore, 1) := by decide +kernel
theorem dX10_sell_225 : decode cX10_sell 225 = .ok (.aload_n 0, 1) := by decide +kernel
theorem dX10_sell_226 : decode cX10_sell 226 = .ok (.getfield 63, 3) := by decide +kernel
theorem dX10_sell_229 : decode cX10_sell 229 = .ok (.iload 10, 2) := by decide +kernel
theorem dX10_sell_231 : decode cX10_sell 231 = .ok (.iconst 3, 1) := by decide +kernel
theorem dX10_sell_232 : decode cX10_sell 232 = .ok (.iadd, 1) := by decide +kernel
theorem dX10_sell_233 : decode cX10_sell 233 = .ok (.iload 4, 2) := by decide +kernel
theorem dX10_sell_235 : decode cX10_sell 235 = .ok (.iastore, 1) := by decide +kernel
theorem dX10_sell_236 : decode cX10_sell 236 = .ok (.aload_n 0, 1) := by decide +kernel
theorem dX10_sell_237 : decode cX10_sell 237 = .ok (.getfield 63, 3) := by decide +kernel
theorem dX10_sell_240 : decode cX10_sell 240 = .ok (.iload 10, 2) := by decide +kernel
theorem dX10_sell_242 : decode cX10_sell 242 = .ok (.iconst 4, 1) := by decide +kernel
theorem dX10_sell_243 : decode cX10_sell 243 = .ok (.iadd, 1) := by decide +kernel
theorem dX10_sell_244 : decode cX10_sell 244 = .ok (.iload 8, 2) := by decide +kernel
theorem dX10_sell_246 : decode cX10_sell 246 = .ok (.iastore, 1) := by decide +kernel
theorem dX10_sell_247 : decode cX10_sell 247 = .ok (.aload_n 0, 1) := by decide +kernel
theorem dX10_sell_248 : decode cX10_sell 248 = .ok (.getfield 63, 3) := by decide +kernel
theorem dX10_sell_251 : decode cX10_sell 251 = .ok (.iload 10, 2) := by decide +kernel
theorem dX10_sell_253 : decode cX10_sell 253 = .ok (.iconst 5, 1) := by decide +kernel
theorem dX10_sell_254 : decode cX10_sell 254 = .ok (.iadd, 1) := by decide +kernel
theorem dX10_sell_255 : decode cX10_sell 255 = .ok (.iload 9, 2) := by decide +kernel
theorem dX10_sell_257 : decode cX10_sell 257 = .ok (.iastore, 1) := by decide +kernel
theorem dX10_sell_258 : decode cX10_sell 258 = .ok (.aload_n 0, 1) := by decide +kernel
theorem dX10_sell_259 : decode cX10_sell 259 = .ok (.getfield 63, 3) := by decide +kernel
theorem dX10_sell_262 : decode cX10_sell 262 = .ok (.iload 10, 2) := by decide +kernel
theorem dX10_sell_264 : decode cX10_sell 264 = .ok (.bipush 6, 2) := by decide +kernel
theorem dX10_sell_266 : decode cX10_sell 266 = .ok (.iadd, 1) := by decide +kernel
theorem dX10_sell_267 : decode cX10_sell 267 = .ok (.iconst (-1), 1) := by decide +kernel
theorem dX10_sell_268 : decode cX10_sell 268 = .ok (.iastore, 1) := by decide +kernel
theorem dX10_sell_269 : decode cX10_sell 269 = .ok (.aload_n 0, 1) := by decide +kernel
theorem dX10_sell_270 : decode cX10_sell 270 = .ok (.getfield 63, 3) := by decide +kernel
theorem dX10_sell_273 : decode cX10_sell 273 = .ok (.iload 10, 2) := by decide +kernel
theorem dX10_sell_275 : decode cX10_sell 275 = .ok (.bipush 7, 2) := by decide +kernel
theorem dX10_sell_277 : decode cX10_sell 277 = .ok (.iadd, 1) := by decide +kernel
theorem dX10_sell_278 : decode cX10_sell 278 = .ok (.iconst (-1), 1) := by decide +kernel
theorem dX10_sell_279 : decode cX10_sell 279 = .ok (.iastore, 1) := by decide +kernel
theorem dX10_sell_280 : decode cX10_sell 280 = .ok (.aload_n 0, 1) := by decide +kernel
theorem dX10_sell_281 : decode cX10_sell 281 = .ok (.getfield 43, 3) := by decide +kernel
theorem dX10_sell_284 : decode cX10_sell 284 = .ok (.iload_n 1, 1) := by decide +kernel
theorem dX10_sell_285 : decode cX10_sell 285 = .ok (.dup2, 1) := by decide +kernel
theorem dX10_sell_286 : decode cX10_sell 286 = .ok (.iaload, 1) := by decide +kernel
theorem dX10_sell_287 : decode cX10_sell 287 = .ok (.iload 8, 2) := by decide +kernel
theorem dX10_sell_289 : decode cX10_sell 289 = .ok (.iload 9, 2) := by decide +kernel
theorem dX10_sell_291 : decode cX10_sell 291 = .ok (.isub, 1) := by decide +kernel
theorem dX10_sell_292 : decode cX10_sell 292 = .ok (.iadd, 1) := by decide +kernel
theorem dX10_sell_293 : decode cX10_sell 293 = .ok (.iastore, 1) := by decide +kernel
theorem dX10_sell_294 : decode cX10_sell 294 = .ok (.aload_n 0, 1) := by decide +kernel
theorem dX10_sell_295 : decode cX10_sell 295 = .ok (.dup, 1) := by decide +kernel
theorem dX10_sell_296 : decode cX10_sell 296 = .ok (.getfield 156, 3) := by decide +kernel
theorem dX10_sell_299 : decode cX10_sell 299 = .ok (.iconst 1, 1) := by decide +kernel
theorem dX10_sell_300 : decode cX10_sell 300 = .ok (.iadd, 1) := by decide +kernel
theorem dX10_sell_301 : decode cX10_sell 301 = .ok (.putfield 156, 3) := by decide +kernel
theorem dX10_sell_304 : decode cX10_sell 304 = .ok (.aload_n 0, 1) := by decide +kernel
theorem dX10_sell_305 : decode cX10_sell 305 = .ok (.getfield 156, 3) := by decide +kernel
theorem dX10_sell_308 : decode cX10_sell 308 = .ok (.iconst 1, 1) := by decide +kernel
theorem dX10_sell_309 : decode cX10_sell 309 = .ok (.isub, 1) := by decide +kernel
theorem dX10_sell_310 : decode cX10_sell 310 = .ok (.ireturn, 1) := by decide +kernel
set_option maxHeartbeats 1000000 in
set_option maxRecDepth 100000 in
theorem o_sell (de : Nat) (w : Wd) (mo : Nat) (ad : Nat → Nat) (A : Nat → Nat → Int32) (F : Nat → Int32) (L : Int32) (g : Nat → Int32) (hm : RM w mo ad) (xa xp su xe : Int32) (nC nF nS : Nat) (cf cs ho : Nat → Nat) (hC : CVA A nC nF nS cf cs ho) (hN : F 24 = nI nC) (fi : Nat) (hfi : inR xa 0 (F 17 - 1) = true → xa = nI fi ∧ fi < nF) (se : Nat) (hse : inR xe 0 19 = true → xe = nI se ∧ se < 20) (pr n : Nat) (dN : Nat → Nat) (hpr : inR xp 0 (F 10 - 1) = true → xp = nI pr ∧ pr < 6 ∧ PHA A pr n dN ∧ A 8 pr = nI n) (hS : F 3 = nI nS) (T : Nat) (hT : F 0 = nI T) (hT2 : T < 1200) : Ct yX10_sell cX10_sell 11 (some .int) 6 150 0 0 de [.ref mo, .int xa, .int xp, .int su, .int xe] (M w mo ad A F L g) (fun r w' => (goV (bI (inR xa 0 (F 17 - 1) && (inR xp 0 (F 10 - 1) && inR xe 0 19))) (bI (inR su 1 2000)) (bI ((inR xa 0 (F 17 - 1) && (inR xp 0 (F 10 - 1) && inR xe 0 19)) && (decide (F 24 < 60) && ((inR (F 0) ((60 * (if (inR xa 0 (F 17 - 1) && (inR xp 0 (F 10 - 1) && inR xe 0 19)) = true then xe else 0)) - 30) ((60 * (if (inR xa 0 (F 17 - 1) && (inR xp 0 (F 10 - 1) && inR xe 0 19)) = true then xe else 0)) - 1)) && (decide ((oI (lastO (qF cf cs fi se) nC)) = -1) && decide (20 ≤ A 13 fi)))))) = 0 → r = some (.int (nI nC)) ∧ ∃ g', w' = M w mo ad (updA (updA (updA (updA (updA (updA (updA (updA (updA A 23 (10 * nC) (nI fi)) 23 (10 * nC + 1) (nI pr)) 23 (10 * nC + 2) su) 23 (10 * nC + 3) (nI se)) 23 (10 * nC + 4) (priV su (prcV (ratA A nS pr n dN (ho fi)) (T / 60)) (F 20))) 23 (10 * nC + 5) (shrV (priV su (prcV (ratA A nS pr n dN (ho fi)) (T / 60)) (F 20)) su)) 23 (10 * nC + 6) (-1)) 23 (10 * nC + 7) (-1)) 16 fi (A 16 fi + ((priV su (prcV (ratA A nS pr n dN (ho fi)) (T / 60)) (F 20)) - (shrV (priV su (prcV (ratA A nS pr n dN (ho fi)) (T / 60)) (F 20)) su)))) (updF F 24 (nI nC + 1)) 0 g') ∧ (¬ goV (bI (inR xa 0 (F 17 - 1) && (inR xp 0 (F 10 - 1) && inR xe 0 19))) (bI (inR su 1 2000)) (bI ((inR xa 0 (F 17 - 1) && (inR xp 0 (F 10 - 1) && inR xe 0 19)) && (decide (F 24 < 60) && ((inR (F 0) ((60 * (if (inR xa 0 (F 17 - 1) && (inR xp 0 (F 10 - 1) && inR xe 0 19)) = true then xe else 0)) - 30) ((60 * (if (inR xa 0 (F 17 - 1) && (inR xp 0 (F 10 - 1) && inR xe 0 19)) = true then xe else 0)) - 1)) && (decide ((oI (lastO (qF cf cs fi se) nC)) = -1) && decide (20 ≤ A 13 fi)))))) = 0 → r = some (.int 0) ∧ w' = M w mo ad A F (goV (bI (inR xa 0 (F 17 - 1) && (inR xp 0 (F 10 - 1) && inR xe 0 19))) (bI (inR su 1 2000)) (bI ((inR xa 0 (F 17 - 1) && (inR xp 0 (F 10 - 1) && inR xe 0 19)) && (decide (F 24 < 60) && ((inR (F 0) ((60 * (if (inR xa 0 (F 17 - 1) && (inR xp 0 (F 10 - 1) && inR xe 0 19)) = true then xe else 0)) - 30) ((60 * (if (inR xa 0 (F 17 - 1) && (inR xp 0 (F 10 - 1) && inR xe 0 19)) = true then xe else 0)) - 1)) && (decide ((oI (lastO (qF cf cs fi se) nC)) = -1) && decide (20 ≤ A 13 fi))))))) g)) := by
  refine Ct.mk (by decide +kernel) [(0, .ref mo), (1, .int xa), (2, .int xp), (3, .int su), (4, .int xe)] rfl (Nat.le_of_ble_eq_true rfl) ?_
  intro p l e R s m args below meth c D cy z C hnm
  obtain ⟨h60, h16, h5, hcv, hho⟩ := id hC
  refine g_cutS (pc' := 29) (.int (bI (inR xa 0 (F 17 - 1) && (inR xp 0 (F 10 - 1) && inR xe 0 19)))) ?_ (fun j_29 => ?_)
  · refine g_istore C dX10_sell_29 (by decide) ?_
    refine g_aload_n C dX10_sell_31 rfl ?_
    refine g_getI C cls_11 12 0 hm.1 rfl k_915 dX10_sell_32 ?_
    rw [M_f0]
    refine g_bipush C 60 dX10_sell_35 (by rfl) ?_
    refine g_cutS (pc' := 48) (.int (if (inR xa 0 (F 17 - 1) && (inR xp 0 (F 10 - 1) && inR xe 0 19)) = true then xe else 0)) ?_ (fun j_48 => ?_)
    · refine g_imul C dX10_sell_48 ?_
      refine g_bipush C 30 dX10_sell_49 (by rfl) ?_
      refine g_isub C dX10_sell_51 ?_
      refine g_bipush C 60 dX10_sell_52 (by rfl) ?_
      refine g_cutS (pc' := 65) (.int (if (inR xa 0 (F 17 - 1) && (inR xp 0 (F 10 - 1) && inR xe 0 19)) = true then xe else 0)) ?_ (fun j_65 => ?_)
      · refine g_imul C dX10_sell_65 ?_
        refine g_iconst C 1 dX10_sell_66 (by rfl) ?_
        refine g_isub C dX10_sell_67 ?_
        refine g_callS C mt_X10_in [.int (F 0), .int ((60 * (if (inR xa 0 (F 17 - 1) && (inR xp 0 (F 10 - 1) && inR xe 0 19)) = true then xe else 0)) - 30), .int ((60 * (if (inR xa 0 (F 17 - 1) && (inR xp 0 (F 10 - 1) && inR xe 0 19)) = true then xe else 0)) - 1)] (c_X10_in de _ (F 0) ((60 * (if (inR xa 0 (F 17 - 1) && (inR xp 0 (F 10 - 1) && inR xe 0 19)) = true then xe else 0)) - 30) ((60 * (if (inR xa 0 (F 17 - 1) && (inR xp 0 (F 10 - 1) && inR xe 0 19)) = true then xe else 0)) - 1)) k_1014 rfl rfl (Nat.le_of_ble_eq_true rfl) (by decide) (by decide) (by decide) (by decide) dX10_sell_68 (fun r_68 w_68 hp_68 => ?_)
        obtain ⟨rfl, rfl⟩ := hp_68
        refine g_istore C dX10_sell_71 (by decide) ?_
        refine g_aload_n C dX10_sell_73 rfl ?_
        refine g_iload C dX10_sell_74 rfl ?_
        refine g_iload_n C dX10_sell_76 rfl ?_
        refine g_iconst C 1 dX10_sell_77 (by rfl) ?_
        refine g_sipush C 2000 dX10_sell_78 (by rfl) ?_
        refine g_callS C mt_X10_in [.int su, .int 1, .int 2000] (c_X10_in de _ su 1 2000) k_1014 rfl rfl (Nat.le_of_ble_eq_true rfl) (by decide) (by decide) (by decide) (by decide) dX10_sell_81 (fun r_81 w_81 hp_81 => ?_)
        obtain ⟨rfl, rfl⟩ := hp_81
        refine g_cutS (pc' := 130) (.int (bI ((inR xa 0 (F 17 - 1) && (inR xp 0 (F 10 - 1) && inR xe 0 19)) && (decide (F 24 < 60) && ((inR (F 0) ((60 * (if (inR xa 0 (F 17 - 1) && (inR xp 0 (F 10 - 1) && inR xe 0 19)) = true then xe else 0)) - 30) ((60 * (if (inR xa 0 (F 17 - 1) && (inR xp 0 (F 10 - 1) && inR xe 0 19)) = true then xe else 0)) - 1)) && (decide ((oI (lastO (qF cf cs fi se) nC)) = -1) && decide (20 ≤ A 13 fi))))))) ?_ (fun j_130 => ?_)
        · refine g_callV C cls_11 12 mt_X10_goes [.int (bI (inR xa 0 (F 17 - 1) && (inR xp 0 (F 10 - 1) && inR xe 0 19))), .int (bI (inR su 1 2000)), .int (bI ((inR xa 0 (F 17 - 1) && (inR xp 0 (F 10 - 1) && inR xe 0 19)) && (decide (F 24 < 60) && ((inR (F 0) ((60 * (if (inR xa 0 (F 17 - 1) && (inR xp 0 (F 10 - 1) && inR xe 0 19)) = true then xe else 0)) - 30) ((60 * (if (inR xa 0 (F 17 - 1) && (inR xp 0 (F 10 - 1) && inR xe 0 19)) = true then xe else 0)) - 1)) && (decide ((oI (lastO (qF cf cs fi se) nC)) = -1) && decide (20 ≤ A 13 fi))))))] (m_goes de w mo ad A F L g hm (bI (inR xa 0 (F 17 - 1) && (inR xp 0 (F 10 - 1) && inR xe 0 19))) (bI (inR su 1 2000)) (bI ((inR xa 0 (F 17 - 1) && (inR xp 0 (F 10 - 1) && inR xe 0 19)) && (decide (F 24 < 60) && ((inR (F 0) ((60 * (if (inR xa 0 (F 17 - 1) && (inR xp 0 (F 10 - 1) && inR xe 0 19)) = true then xe else 0)) - 30) ((60 * (if (inR xa 0 (F 17 - 1) && (inR xp 0 (F 10 - 1) && inR xe 0 19)) = true then xe else 0)) - 1)) && (decide ((oI (lastO (qF cf cs fi se) nC)) = -1) && decide (20 ≤ A 13 fi))))))) hm.1 (by decide) k_1017 rfl rfl (Nat.le_of_ble_eq_true rfl) (by decide) (by decide) (by decide) (by decide) dX10_sell_130 (fun r_130 w_130 hp_130 => ?_)
          obtain ⟨rfl, rfl⟩ := hp_130
          refine g_if_ne C 138 dX10_sell_133 (by decide) (fun c_133 => ?_) (fun c_133 => ?_)
          · have b_133 := bI_n0.mp c_133
            have hg := of_decide_eq_true b_133
            rw [hg]
            obtain ⟨ha9, hb9, hc9⟩ := goV_012 hg
            obtain ⟨rfl, hf5⟩ := hfi (band ha9).1
            obtain ⟨rfl, he5⟩ := hse (band (band ha9).2).2
            obtain ⟨rfl, hp6, hpp, hsz⟩ := hpr (band (band ha9).2).1
            have hn := nI_lt_of (b := 60) (hN ▸ of_decide_eq_true (band (band hc9).2).1) (by omega) (by omega)
            refine g_iload_n C dX10_sell_138 rfl ?_
            refine g_aload_n C dX10_sell_139 rfl ?_
            refine g_aload_n C dX10_sell_140 rfl ?_
            refine g_getR (b := (ad 12)) C cls_11 12 12 hm.1 (rm_12 hm).1 rfl k_927 dX10_sell_141 ?_
            refine g_iload_n C dX10_sell_144 rfl ?_
            refine g_iald C 2120 (rm_12 hm).2.1 rfl (show vp_in (nI (fi)) (aL w (ad 12)) by rw [(rm_12 hm).2.2]; exact nI_vp (show fi < 16 by omega) (by omega)) dX10_sell_145 ?_
            rw [M_a12, nI_tn (show fi ≤ 100000 by omega)]
            rw [(hho fi hf5).1]
            refine g_iload_n C dX10_sell_146 rfl ?_
            refine g_callV C cls_11 12 mt_X10_pricedOf [.int (nI (ho fi)), .int (nI pr)] (m_pricedOf de w mo ad A F 0 g hm nS (ho fi) hS h5 (hho fi hf5).2 pr n dN (by omega) hpp T hT hT2 hsz) hm.1 (by decide) k_1107 rfl rfl (Nat.le_of_ble_eq_true rfl) (by decide) (by decide) (by decide) (by decide) dX10_sell_147 (fun r_147 w_147 hp_147 => ?_)
            obtain ⟨rfl, g1, rfl⟩ := hp_147
            refine g_imul C dX10_sell_150 ?_
            refine g_sipush C 1000 dX10_sell_151 (by rfl) ?_
            refine g_idiv C dX10_sell_154 (by decide) ?_
            refine g_istore C dX10_sell_155 (by decide) ?_
            refine g_iload C dX10_sell_157 rfl ?_
            refine g_iload C dX10_sell_159 rfl ?_
            refine g_aload_n C dX10_sell_161 rfl ?_
            refine g_getI C cls_11 12 20 hm.1 rfl k_935 dX10_sell_162 ?_
            rw [M_f20]
            refine g_imul C dX10_sell_165 ?_
            refine g_bipush C 100 dX10_sell_166 (by rfl) ?_
            refine g_idiv C dX10_sell_168 (by decide) ?_
            refine g_iadd C dX10_sell_169 ?_
            rw [show su * (prcV (ratA A nS pr n dN (ho fi)) (T / 60)) / 1000 + su * (prcV (ratA A nS pr n dN (ho fi)) (T / 60)) / 1000 * F 20 / 100 = (priV su (prcV (ratA A nS pr n dN (ho fi)) (T / 60)) (F 20)) from rfl]
            refine g_istore C dX10_sell_170 (by decide) ?_
            refine g_iload C dX10_sell_172 rfl ?_
            refine g_iload_n C dX10_sell_174 rfl ?_
            refine g_sipush C 500 dX10_sell_175 (by rfl) ?_
            refine g_callS C mt_X10_lesser [.int su, .int 500] (c_X10_lesser de _ su 500) k_1100 rfl rfl (Nat.le_of_ble_eq_true rfl) (by decide) (by decide) (by decide) (by decide) dX10_sell_178 (fun r_178 w_178 hp_178 => ?_)
            obtain ⟨rfl, rfl⟩ := hp_178
            rw [less_m]
            refine g_imul C dX10_sell_181 ?_
            refine g_iload_n C dX10_sell_182 rfl ?_
            refine g_idiv C dX10_sell_183 (inR_ne0 hb9) ?_
            refine g_iconst C 2 dX10_sell_184 (by rfl) ?_
            refine g_idiv C dX10_sell_185 (by decide) ?_
            rw [show (priV su (prcV (ratA A nS pr n dN (ho fi)) (T / 60)) (F 20)) * (if 500 < su then 500 else su) / su / 2 = (shrV (priV su (prcV (ratA A nS pr n dN (ho fi)) (T / 60)) (F 20)) su) from rfl]
            refine g_istore C dX10_sell_186 (by decide) ?_
            refine g_bipush C 10 dX10_sell_188 (by rfl) ?_
            refine g_aload_n C dX10_sell_190 rfl ?_
            refine g_getI C cls_11 12 24 hm.1 rfl k_939 dX10_sell_191 ?_
            rw [M_f24]
            rw [hN]
            refine g_imul C dX10_sell_194 ?_
            rw [show (10 : Int32) * nI nC = nI (10 * nC) from pk_mul 10 nC]
            refine g_istore C dX10_sell_195 (by decide) ?_
            refine g_aload_n C dX10_sell_197 rfl ?_
            refine g_getR (b := (ad 23)) C cls_11 12 23 hm.1 (rm_23 hm).1 rfl k_938 dX10_sell_198 ?_
            refine g_iload C dX10_sell_201 rfl ?_
            refine g_iload_n C dX10_sell_203 rfl ?_
            refine g_iast C 2230 (rm_23 hm).2.1 rfl (show vp_in (nI (10 * nC)) (aL w (ad 23)) by rw [(rm_23 hm).2.2]; exact nI_vp (show 10 * nC < 600 by omega) (by omega)) dX10_sell_204 ?_
            rw [nI_tn (show 10 * nC ≤ 100000 by omega), M_p23]
            refine g_aload_n C dX10_sell_205 rfl ?_
            refine g_getR (b := (ad 23)) C cls_11 12 23 hm.1 (rm_23 hm).1 rfl k_938 dX10_sell_206 ?_
            refine g_iload C dX10_sell_209 rfl ?_
            refine g_iconst C 1 dX10_sell_211 (by rfl) ?_
            refine g_iadd C dX10_sell_212 ?_
            rw [show nI (10 * nC) + 1 = nI (10 * nC + 1) from nI_add _ 1]
            refine g_iload_n C dX10_sell_213 rfl ?_
            refine g_iast C 2230 (rm_23 hm).2.1 rfl (show vp_in (nI (10 * nC + 1)) (aL w (ad 23)) by rw [(rm_23 hm).2.2]; exact nI_vp (show 10 * nC + 1 < 600 by omega) (by omega)) dX10_sell_214 ?_
            rw [nI_tn (show 10 * nC + 1 ≤ 100000 by omega), M_p23]
            refine g_aload_n C dX10_sell_215 rfl ?_
            refine g_getR (b := (ad 23)) C cls_11 12 23 hm.1 (rm_23 hm).1 rfl k_938 dX10_sell_216 ?_
            refine g_iload C dX10_sell_219 rfl ?_
            refine g_iconst C 2 dX10_sell_221 (by rfl) ?_
            refine g_iadd C dX10_sell_222 ?_
            rw [show nI (10 * nC) + 2 = nI (10 * nC + 2) from nI_add _ 2]
            refine g_iload_n C dX10_sell_223 rfl ?_
            refine g_iast C 2230 (rm_23 hm).2.1 rfl (show vp_in (nI (10 * nC + 2)) (aL w (ad 23)) by rw [(rm_23 hm).2.2]; exact nI_vp (show 10 * nC + 2 < 600 by omega) (by omega)) dX10_sell_224 ?_
            rw [nI_tn (show 10 * nC + 2 ≤ 100000 by omega), M_p23]
            refine g_aload_n C dX10_sell_225 rfl ?_
            refine g_getR (b := (ad 23)) C cls_11 12 23 hm.1 (rm_23 hm).1 rfl k_938 dX10_sell_226 ?_
            refine g_iload C dX10_sell_229 rfl ?_
            refine g_iconst C 3 dX10_sell_231 (by rfl) ?_
            refine g_iadd C dX10_sell_232 ?_
            rw [show nI (10 * nC) + 3 = nI (10 * nC + 3) from nI_add _ 3]
            refine g_iload C dX10_sell_233 rfl ?_
            refine g_iast C 2230 (rm_23 hm).2.1 rfl (show vp_in (nI (10 * nC + 3)) (aL w (ad 23)) by rw [(rm_23 hm).2.2]; exact nI_vp (show 10 * nC + 3 < 600 by omega) (by omega)) dX10_sell_235 ?_
            rw [nI_tn (show 10 * nC + 3 ≤ 100000 by omega), M_p23]
            refine g_aload_n C dX10_sell_236 rfl ?_
            refine g_getR (b := (ad 23)) C cls_11 12 23 hm.1 (rm_23 hm).1 rfl k_938 dX10_sell_237 ?_
            refine g_iload C dX10_sell_240 rfl ?_
            refine g_iconst C 4 dX10_sell_242 (by rfl) ?_
            refine g_iadd C dX10_sell_243 ?_
            rw [show nI (10 * nC) + 4 = nI (10 * nC + 4) from nI_add _ 4]
            refine g_iload C dX10_sell_244 rfl ?_
            refine g_iast C 2230 (rm_23 hm).2.1 rfl (show vp_in (nI (10 * nC + 4)) (aL w (ad 23)) by rw [(rm_23 hm).2.2]; exact nI_vp (show 10 * nC + 4 < 600 by omega) (by omega)) dX10_sell_246 ?_
            rw [nI_tn (show 10 * nC + 4 ≤ 100000 by omega), M_p23]
            refine g_aload_n C dX10_sell_247 rfl ?_
            refine g_getR (b := (ad 23)) C cls_11 12 23 hm.1 (rm_23 hm).1 rfl k_938 dX10_sell_248 ?_
            refine g_iload C dX10_sell_251 rfl ?_
            refine g_iconst C 5 dX10_sell_253 (by rfl) ?_
            refine g_iadd C dX10_sell_254 ?_
            rw [show nI (10 * nC) + 5 = nI (10 * nC + 5) from nI_add _ 5]
            refine g_iload C dX10_sell_255 rfl ?_
            refine g_iast C 2230 (rm_23 hm).2.1 rfl (show vp_in (nI (10 * nC + 5)) (aL w (ad 23)) by rw [(rm_23 hm).2.2]; exact nI_vp (show 10 * nC + 5 < 600 by omega) (by omega)) dX10_sell_257 ?_
            rw [nI_tn (show 10 * nC + 5 ≤ 100000 by omega), M_p23]
            refine g_aload_n C dX10_sell_258 rfl ?_
            refine g_getR (b := (ad 23)) C cls_11 12 23 hm.1 (rm_23 hm).1 rfl k_938 dX10_sell_259 ?_
            refine g_iload C dX10_sell_262 rfl ?_
            refine g_bipush C 6 dX10_sell_264 (by rfl) ?_
            refine g_iadd C dX10_sell_266 ?_
            rw [show nI (10 * nC) + 6 = nI (10 * nC + 6) from nI_add _ 6]
            refine g_iconst C (-1) dX10_sell_267 (by rfl) ?_
            refine g_iast C 2230 (rm_23 hm).2.1 rfl (show vp_in (nI (10 * nC + 6)) (aL w (ad 23)) by rw [(rm_23 hm).2.2]; exact nI_vp (show 10 * nC + 6 < 600 by omega) (by omega)) dX10_sell_268 ?_
            rw [nI_tn (show 10 * nC + 6 ≤ 100000 by omega), M_p23]
            refine g_aload_n C dX10_sell_269 rfl ?_
            refine g_getR (b := (ad 23)) C cls_11 12 23 hm.1 (rm_23 hm).1 rfl k_938 dX10_sell_270 ?_
            refine g_iload C dX10_sell_273 rfl ?_
            refine g_bipush C 7 dX10_sell_275 (by rfl) ?_
            refine g_iadd C dX10_sell_277 ?_
            rw [show nI (10 * nC) + 7 = nI (10 * nC + 7) from nI_add _ 7]
            refine g_iconst C (-1) dX10_sell_278 (by rfl) ?_
            refine g_iast C 2230 (rm_23 hm).2.1 rfl (show vp_in (nI (10 * nC + 7)) (aL w (ad 23)) by rw [(rm_23 hm).2.2]; exact nI_vp (show 10 * nC + 7 < 600 by omega) (by omega)) dX10_sell_279 ?_
            rw [nI_tn (show 10 * nC + 7 ≤ 100000 by omega), M_p23]
            refine g_aload_n C dX10_sell_280 rfl ?_
            refine g_getR (b := (ad 16)) C cls_11 12 16 hm.1 (rm_16 hm).1 rfl k_931 dX10_sell_281 ?_
            refine g_iload_n C dX10_sell_284 rfl ?_
            refine g_dup2 C dX10_sell_285 rfl rfl ?_
            refine g_iald C 2160 (rm_16 hm).2.1 rfl (show vp_in (nI (fi)) (aL w (ad 16)) by rw [(rm_16 hm).2.2]; exact nI_vp (show fi < 16 by omega) (by omega)) dX10_sell_286 ?_
            rw [M_a16, nI_tn (show fi ≤ 100000 by omega)]
            iterate 8 rw [updA_ne (k' := 16) (Or.inl (by decide))]
            refine g_iload C dX10_sell_287 rfl ?_
            refine g_iload C dX10_sell_289 rfl ?_
            refine g_isub C dX10_sell_291 ?_
            refine g_iadd C dX10_sell_292 ?_
            refine g_iast C 2160 (rm_16 hm).2.1 rfl (show vp_in (nI (fi)) (aL w (ad 16)) by rw [(rm_16 hm).2.2]; exact nI_vp (show fi < 16 by omega) (by omega)) dX10_sell_293 ?_
            rw [nI_tn (show fi ≤ 100000 by omega), M_p16]
            refine g_aload_n C dX10_sell_294 rfl ?_
            refine g_dup C dX10_sell_295 rfl ?_
            refine g_getI C cls_11 12 24 hm.1 rfl k_939 dX10_sell_296 ?_
            rw [M_f24]
            rw [hN]
            refine g_iconst C 1 dX10_sell_299 (by rfl) ?_
            refine g_iadd C dX10_sell_300 ?_
            refine g_putI C cls_11 12 24 hm.1 rfl (Or.inl rfl) rfl rfl k_939 dX10_sell_301 ?_
            rw [M_q24]
            refine g_aload_n C dX10_sell_304 rfl ?_
            refine g_getI C cls_11 12 24 hm.1 rfl k_939 dX10_sell_305 ?_
            rw [M_f24]
            refine g_iconst C 1 dX10_sell_308 (by rfl) ?_
            refine g_isub C dX10_sell_309 ?_
            refine g_iret C rfl rfl (by decide) (by decide) dX10_sell_310 ?_
            first
            | exact ⟨fun h9 => absurd h9 hg, fun _ => ⟨rfl, rfl⟩⟩
            | (refine ⟨fun _ => ⟨?_, _, rfl⟩, fun h9 => absurd rfl h9⟩; exact congrArg (fun v => some (Value.int v)) (a11))
          · have b_133 := bI_0.mp c_133
            have hg := of_decide_eq_false b_133
            refine g_iconst C 0 dX10_sell_136 (by rfl) ?_
            refine g_iret C rfl rfl (by decide) (by decide) dX10_sell_137 ?_
            first
            | exact ⟨fun h9 => absurd h9 hg, fun _ => ⟨rfl, rfl⟩⟩
            | (refine ⟨fun _ => ⟨?_, _, rfl⟩, fun h9 => absurd rfl h9⟩; exact congrArg (fun v => some (Value.int v)) (a11))
        · refine g_iload C dX10_sell_84 rfl ?_
          refine g_if_eq C 129 dX10_sell_86 (by decide) (fun c_86 => ?_) (fun c_86 => ?_)
          · have b_86 := bI_0.mp c_86
            refine g_iconst C 0 dX10_sell_129 (by rfl) ?_
            exact g_eq rfl (congrArg (fun v => Value.int v :: _) (by first | rfl | (simp only [b_86]; done) | (simp only [b_86]; rfl) | ((try simp only [b_86]); rfl) | (simp [b_86, bI]; done))) rfl j_130
          · have b_86 := bI_n0.mp c_86
            obtain ⟨rfl, hf5⟩ := hfi (band b_86).1
            obtain ⟨rfl, he5⟩ := hse (band (band b_86).2).2
            refine g_aload_n C dX10_sell_89 rfl ?_
            refine g_getI C cls_11 12 24 hm.1 rfl k_939 dX10_sell_90 ?_
            rw [M_f24]
            refine g_bipush C 60 dX10_sell_93 (by rfl) ?_
            refine g_icmp_ge C 129 dX10_sell_95 (by decide) (fun c_95 => ?_) (fun c_95 => ?_)
            · have b_95 := And.intro (decide_eq_false (Int32.not_lt.mpr c_95)) (decide_eq_true c_95)
              refine g_iconst C 0 dX10_sell_129 (by rfl) ?_
              exact g_eq rfl (congrArg (fun v => Value.int v :: _) (by first | rfl | (simp only [b_86, b_95]; done) | (simp only [b_86, b_95]; rfl) | ((try simp only [b_95]); (try simp only [b_86]); rfl) | (simp [b_86, b_95, bI]; done))) rfl j_130
            · have b_95 := And.intro (decide_eq_true (Int32.not_le.mp c_95)) (decide_eq_false c_95)
              refine g_iload C dX10_sell_98 rfl ?_
              refine g_if_eq C 129 dX10_sell_100 (by decide) (fun c_100 => ?_) (fun c_100 => ?_)
              · have b_100 := bI_0.mp c_100
                refine g_iconst C 0 dX10_sell_129 (by rfl) ?_
                exact g_eq rfl (congrArg (fun v => Value.int v :: _) (by first | rfl | (simp only [b_86, b_95, b_100]; done) | (simp only [b_86, b_95, b_100]; rfl) | ((try simp only [b_100]); (try simp only [b_95]); (try simp only [b_86]); rfl) | (simp [b_86, b_95, b_100, bI]; done))) rfl j_130
              · have b_100 := bI_n0.mp c_100
                refine g_aload_n C dX10_sell_103 rfl ?_
                refine g_iload_n C dX10_sell_104 rfl ?_
                refine g_iload C dX10_sell_105 rfl ?_
                refine g_callV C cls_11 12 mt_X10_coverOf [.int (nI fi), .int (nI se)] (m_coverOf de w mo ad A F L g hm nC nF nS cf cs ho hC hN fi se (by omega) (by omega)) hm.1 (by decide) k_1140 rfl rfl (Nat.le_of_ble_eq_true rfl) (by decide) (by decide) (by decide) (by decide) dX10_sell_107 (fun r_107 w_107 hp_107 => ?_)
                obtain ⟨rfl, rfl⟩ := hp_107
                refine g_iconst C (-1) dX10_sell_110 (by rfl) ?_
                refine g_icmp_ne C 129 dX10_sell_111 (by decide) (fun c_111 => ?_) (fun c_111 => ?_)
                · have b_111 := decide_eq_false c_111
                  refine g_iconst C 0 dX10_sell_129 (by rfl) ?_
                  exact g_eq rfl (congrArg (fun v => Value.int v :: _) (by first | rfl | (simp only [b_86, b_95, b_100, b_111]; done) | (simp only [b_86, b_95, b_100, b_111]; rfl) | ((try simp only [b_111]); (try simp only [b_100]); (try simp only [b_95]); (try simp only [b_86]); rfl) | (simp [b_86, b_95, b_100, b_111, bI]; done))) rfl j_130
                · have b_111 := decide_eq_true c_111
                  refine g_aload_n C dX10_sell_114 rfl ?_
                  refine g_getR (b := (ad 13)) C cls_11 12 13 hm.1 (rm_13 hm).1 rfl k_928 dX10_sell_115 ?_
                  refine g_iload_n C dX10_sell_118 rfl ?_
                  refine g_iald C 2130 (rm_13 hm).2.1 rfl (show vp_in (nI (fi)) (aL w (ad 13)) by rw [(rm_13 hm).2.2]; exact nI_vp (show fi < 16 by omega) (by omega)) dX10_sell_119 ?_
                  rw [M_a13, nI_tn (show fi ≤ 100000 by omega)]
                  refine g_bipush C 20 dX10_sell_120 (by rfl) ?_
                  refine g_icmp_lt C 129 dX10_sell_122 (by decide) (fun c_122 => ?_) (fun c_122 => ?_)
                  · have b_122 := And.intro (decide_eq_false (Int32.not_le.mpr c_122)) (decide_eq_true c_122)
                    refine g_iconst C 0 dX10_sell_129 (by rfl) ?_
                    exact g_eq rfl (congrArg (fun v => Value.int v :: _) (by first | rfl | (simp only [b_86, b_95, b_100, b_111, b_122]; done) | (simp only [b_86, b_95, b_100, b_111, b_122]; rfl) | ((try simp only [b_122]); (try simp only [b_111]); (try simp only [b_100]); (try simp only [b_95]); (try simp only [b_86]); rfl) | (simp [b_86, b_95, b_100, b_111, b_122, bI]; done))) rfl j_130
                  · have b_122 := And.intro (decide_eq_true (Int32.not_lt.mp c_122)) (decide_eq_false c_122)
                    refine g_iconst C 1 dX10_sell_125 (by rfl) ?_
                    refine g_goto C 130 dX10_sell_126 (by decide) ?_
                    exact g_eq rfl (congrArg (fun v => Value.int v :: _) (by first | rfl | (simp only [b_86, b_95, b_100, b_111, b_122]; done) | (simp only [b_86, b_95, b_100, b_111, b_122]; rfl) | ((try simp only [b_122]); (try simp only [b_111]); (try simp only [b_100]); (try simp only [b_95]); (try simp only [b_86]); rfl) | (simp [b_86, b_95, b_100, b_111, b_122, bI]; done))) rfl j_130
      · refine g_iload C dX10_sell_54 rfl ?_
        refine g_if_eq C 64 dX10_sell_56 (by decide) (fun c_56 => ?_) (fun c_56 => ?_)
        · have b_56 := bI_0.mp c_56
          refine g_iconst C 0 dX10_sell_64 (by rfl) ?_
          exact g_eq rfl (congrArg (fun v => Value.int v :: _) (by first | exact (if_pos b_56).symm | exact (if_neg (by rw [b_56]; decide)).symm)) rfl j_65
        · have b_56 := bI_n0.mp c_56
          refine g_iload C dX10_sell_59 rfl ?_
          refine g_goto C 65 dX10_sell_61 (by decide) ?_
          exact g_eq rfl (congrArg (fun v => Value.int v :: _) (by first | exact (if_pos b_56).symm | exact (if_neg (by rw [b_56]; decide)).symm)) rfl j_65
    · refine g_iload C dX10_sell_37 rfl ?_
      refine g_if_eq C 47 dX10_sell_39 (by decide) (fun c_39 => ?_) (fun c_39 => ?_)
      · have b_39 := bI_0.mp c_39
        refine g_iconst C 0 dX10_sell_47 (by rfl) ?_
        exact g_eq rfl (congrArg (fun v => Value.int v :: _) (by first | exact (if_pos b_39).symm | exact (if_neg (by rw [b_39]; decide)).symm)) rfl j_48
      · have b_39 := bI_n0.mp c_39
        refine g_iload C dX10_sell_42 rfl ?_
        refine g_goto C 48 dX10_sell_44 (by decide) ?_
        exact g_eq rfl (congrArg (fun v => Value.int v :: _) (by first | exact (if_pos b_39).symm | exact (if_neg (by rw [b_39]; decide)).symm)) rfl j_48
  · refine g_aload_n C dX10_sell_0 rfl ?_
    refine g_iload_n C dX10_sell_1 rfl ?_
    refine g_callV C cls_11 12 mt_X10_isFarm [.int xa] (m_isFarm de w mo ad A F L g hm xa) hm.1 (by decide) k_1123 rfl rfl (Nat.le_of_ble_eq_true rfl) (by decide) (by decide) (by decide) (by decide) dX10_sell_2 (fun r_2 w_2 hp_2 => ?_)
    obtain ⟨rfl, rfl⟩ := hp_2
    refine g_if_eq C 28 dX10_sell_5 (by decide) (fun c_5 => ?_) (fun c_5 => ?_)
    · have b_5 := bI_0.mp c_5
      refine g_iconst C 0 dX10_sell_28 (by rfl) ?_
      exact g_eq rfl (congrArg (fun v => Value.int v :: _) (by first | rfl | (simp only [b_5]; done) | (simp only [b_5]; rfl) | ((try simp only [b_5]); rfl) | (simp [b_5, bI]; done))) rfl j_29
    · have b_5 := bI_n0.mp c_5
      refine g_aload_n C dX10_sell_8 rfl ?_
      refine g_iload_n C dX10_sell_9 rfl ?_
      refine g_callV C cls_11 12 mt_X10_isProduct [.int xp] (m_isProduct de w mo ad A F L g hm xp) hm.1 (by decide) k_1080 rfl rfl (Nat.le_of_ble_eq_true rfl) (by decide) (by decide) (by decide) (by decide) dX10_sell_10 (fun r_10 w_10 hp_10 => ?_)
      obtain ⟨rfl, rfl⟩ := hp_10
      refine g_if_eq C 28 dX10_sell_13 (by decide) (fun c_13 => ?_) (fun c_13 => ?_)
      · have b_13 := bI_0.mp c_13
        refine g_iconst C 0 dX10_sell_28 (by rfl) ?_
        exact g_eq rfl (congrArg (fun v => Value.int v :: _) (by first | rfl | (simp only [b_5, b_13]; done) | (simp only [b_5, b_13]; rfl) | ((try simp only [b_13]); (try simp only [b_5]); rfl) | (simp [b_5, b_13, bI]; done))) rfl j_29
      · have b_13 := bI_n0.mp c_13
        refine g_iload C dX10_sell_16 rfl ?_
        refine g_callS C mt_X10_isSeason [.int xe] (c_X10_isSeason de _ xe) k_1053 rfl rfl (Nat.le_of_ble_eq_true rfl) (by decide) (by decide) (by decide) (by decide) dX10_sell_18 (fun r_18 w_18 hp_18 => ?_)
        obtain ⟨rfl, rfl⟩ := hp_18
        refine g_if_eq C 28 dX10_sell_21 (by decide) (fun c_21 => ?_) (fun c_21 => ?_)
        · have b_21 := bI_0.mp c_21
          refine g_iconst C 0 dX10_sell_28 (by rfl) ?_
          exact g_eq rfl (congrArg (fun v => Value.int v :: _) (by first | rfl | (simp only [b_5, b_13, b_21]; done) | (simp only [b_5, b_13, b_21]; rfl) | ((try simp only [b_21]); (try simp only [b_13]); (try simp only [b_5]); rfl) | (simp [b_5, b_13, b_21, bI]; done))) rfl j_29
        · have b_21 := bI_n0.mp c_21
          refine g_iconst C 1 dX10_sell_24 (by rfl) ?_
          refine g_goto C 29 dX10_sell_25 (by decide) ?_
          exact g_eq rfl (congrArg (fun v => Value.int v :: _) (by first | rfl | (simp only [b_5, b_13, b_21]; done) | (simp only [b_5, b_13, b_21]; rfl) | ((try simp only [b_21]); (try simp only [b_13]); (try simp only [b_5]); rfl) | (simp [b_5, b_13, b_21, bI]; done))) rfl j_29
end REF23
