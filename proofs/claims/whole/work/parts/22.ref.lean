section REF22
/-- the draft's phases, copied -/
def cpyA (A : Nat → Nat → Int32) (nP : Nat) : Nat → Nat → Nat → Int32
  | 0 => A
  | k + 1 => updA (cpyA A nP k) 7 (15 * nP + k) (cpyA A nP k 7 (90 + k))
theorem nearS_ex {dist : Nat → Int32} : ∀ k, ∃ j, j < k + 1 ∧ nearS dist (k + 1) = some j
  | 0 => ⟨0, by omega, nearS_1 rfl⟩
  | k + 1 => by
    obtain ⟨j, hj, h⟩ := nearS_ex (dist := dist) k
    by_cases h2 : dist (k + 1) < dist j
    · exact ⟨k + 1, by omega, nearS_2 h h2⟩
    · exact ⟨j, by omega, nearS_3 h h2⟩
theorem dX10_phase_0 : decode cX10_phase 0 = .ok (.iload_n 1, 1) := by decide +kernel
theorem dX10_phase_1 : decode cX10_phase 1 = .ok (.iconst 1, 1) := by decide +kernel
theorem dX10_phase_2 : decode cX10_phase 2 = .ok (.bipush 30, 2) := by decide +kernel
theorem dX10_phase_4 : decode cX10_phase 4 = .ok (.invokestatic 81, 3) := by decide +kernel
theorem dX10_phase_7 : decode cX10_phase 7 = .ok (.ifCond .eq 41, 3) := by decide +kernel
theorem dX10_phase_10 : decode cX10_phase 10 = .ok (.iload_n 3, 1) := by decide +kernel
theorem dX10_phase_11 : decode cX10_phase 11 = .ok (.iconst 0, 1) := by decide +kernel
theorem dX10_phase_12 : decode cX10_phase 12 = .ok (.sipush 9999, 3) := by decide +kernel
theorem dX10_phase_15 : decode cX10_phase 15 = .ok (.invokestatic 81, 3) := by decide +kernel
theorem dX10_phase_18 : decode cX10_phase 18 = .ok (.ifCond .eq 30, 3) := by decide +kernel
theorem dX10_phase_21 : decode cX10_phase 21 = .ok (.iload 4, 2) := by decide +kernel
theorem dX10_phase_23 : decode cX10_phase 23 = .ok (.iconst 0, 1) := by decide +kernel
theorem dX10_phase_24 : decode cX10_phase 24 = .ok (.sipush 9999, 3) := by decide +kernel
theorem dX10_phase_27 : decode cX10_phase 27 = .ok (.invokestatic 81, 3) := by decide +kernel
theorem dX10_phase_30 : decode cX10_phase 30 = .ok (.ifCond .eq 18, 3) := by decide +kernel
theorem dX10_phase_33 : decode cX10_phase 33 = .ok (.iload 5, 2) := by decide +kernel
theorem dX10_phase_35 : decode cX10_phase 35 = .ok (.iconst 1, 1) := by decide +kernel
theorem dX10_phase_36 : decode cX10_phase 36 = .ok (.bipush 100, 2) := by decide +kernel
theorem dX10_phase_38 : decode cX10_phase 38 = .ok (.invokestatic 81, 3) := by decide +kernel
theorem dX10_phase_41 : decode cX10_phase 41 = .ok (.ifCond .eq 7, 3) := by decide +kernel
theorem dX10_phase_44 : decode cX10_phase 44 = .ok (.iconst 1, 1) := by decide +kernel
theorem dX10_phase_45 : decode cX10_phase 45 = .ok (.goto 4, 3) := by decide +kernel
theorem dX10_phase_48 : decode cX10_phase 48 = .ok (.iconst 0, 1) := by decide +kernel
theorem dX10_phase_49 : decode cX10_phase 49 = .ok (.istore 6, 2) := by decide +kernel
theorem dX10_phase_51 : decode cX10_phase 51 = .ok (.aload_n 0, 1) := by decide +kernel
theorem dX10_phase_52 : decode cX10_phase 52 = .ok (.iload 6, 2) := by decide +kernel
theorem dX10_phase_54 : decode cX10_phase 54 = .ok (.ifCond .eq 26, 3) := by decide +kernel
theorem dX10_phase_57 : decode cX10_phase 57 = .ok (.iload_n 2, 1) := by decide +kernel
theorem dX10_phase_58 : decode cX10_phase 58 = .ok (.ifCond .eq 12, 3) := by decide +kernel
theorem dX10_phase_61 : decode cX10_phase 61 = .ok (.iload_n 3, 1) := by decide +kernel
theorem dX10_phase_62 : decode cX10_phase 62 = .ok (.iload 4, 2) := by decide +kernel
theorem dX10_phase_64 : decode cX10_phase 64 = .ok (.if_icmp .ge 16, 3) := by decide +kernel
theorem dX10_phase_67 : decode cX10_phase 67 = .ok (.goto 9, 3) := by decide +kernel
theorem dX10_phase_70 : decode cX10_phase 70 = .ok (.iload_n 3, 1) := by decide +kernel
theorem dX10_phase_71 : decode cX10_phase 71 = .ok (.iload 4, 2) := by decide +kernel
theorem dX10_phase_73 : decode cX10_phase 73 = .ok (.if_icmp .le 7, 3) := by decide +kernel
theorem dX10_phase_76 : decode cX10_phase 76 = .ok (.iconst 1, 1) := by decide +kernel
theorem dX10_phase_77 : decode cX10_phase 77 = .ok (.goto 4, 3) := by decide +kernel
theorem dX10_phase_80 : decode cX10_phase 80 = .ok (.iconst 0, 1) := by decide +kernel
theorem dX10_phase_81 : decode cX10_phase 81 = .ok (.aload_n 0, 1) := by decide +kernel
theorem dX10_phase_82 : decode cX10_phase 82 = .ok (.getfield 127, 3) := by decide +kernel
theorem dX10_phase_85 : decode cX10_phase 85 = .ok (.iconst 3, 1) := by decide +kernel
theorem dX10_phase_86 : decode cX10_phase 86 = .ok (.if_icmp .ge 7, 3) := by decide +kernel
theorem dX10_phase_89 : decode cX10_phase 89 = .ok (.iconst 1, 1) := by decide +kernel
theorem dX10_phase_90 : decode cX10_phase 90 = .ok (.goto 4, 3) := by decide +kernel
theorem dX10_phase_93 : decode cX10_phase 93 = .ok (.iconst 0, 1) := by decide +kernel
theorem dX10_phase_94 : decode cX10_phase 94 = .ok (.iconst 1, 1) := by decide +kernel
theorem dX10_phase_95 : decode cX10_phase 95 = .ok (.invokevirtual 95, 3) := by decide +kernel
theorem dX10_phase_98 : decode cX10_phase 98 = .ok (.ifCond .ne 5, 3) := by decide +kernel
theorem dX10_phase_101 : decode cX10_phase 101 = .ok (.iconst 0, 1) := by decide +kernel
theorem dX10_phase_102 : decode cX10_phase 102 = .ok (.ireturn, 1) := by decide +kernel
theorem dX10_phase_103 : decode cX10_phase 103 = .ok (.iconst 5, 1) := by decide +kernel
theorem dX10_phase_104 : decode cX10_phase 104 = .ok (.bipush 18, 2) := by decide +kernel
theorem dX10_phase_106 : decode cX10_phase 106 = .ok (.aload_n 0, 1) := by decide +kernel
theorem dX10_phase_107 : decode cX10_phase 107 = .ok (.getfield 127, 3) := by decide +kernel
theorem dX10_phase_110 : decode cX10_phase 110 = .ok (.iadd, 1) := by decide +kernel
theorem dX10_phase_111 : decode cX10_phase 111 = .ok (.imul, 1) := by decide +kernel
theorem dX10_phase_112 : decode cX10_phase 112 = .ok (.istore 7, 2) := by decide +kernel
theorem dX10_phase_114 : decode cX10_phase 114 = .ok (.aload_n 0, 1) := by decide +kernel
theorem dX10_phase_115 : decode cX10_phase 115 = .ok (.getfield 22, 3) := by decide +kernel
theorem dX10_phase_118 : decode cX10_phase 118 = .ok (.iload 7, 2) := by decide +kernel
theorem dX10_phase_120 : decode cX10_phase 120 = .ok (.iload_n 1, 1) := by decide +kernel
theorem dX10_phase_121 : decode cX10_phase 121 = .ok (.iastore, 1) := by decide +kernel
theorem dX10_phase_122 : decode cX10_phase 122 = .ok (.aload_n 0, 1) := by decide +kernel
theorem dX10_phase_123 : decode cX10_phase 123 = .ok (.getfield 22, 3) := by decide +kernel
theorem dX10_phase_126 : decode cX10_phase 126 = .ok (.iload 7, 2) := by decide +kernel
theorem dX10_phase_128 : decode cX10_phase 128 = .ok (.iconst 1, 1) := by decide +kernel
theorem dX10_phase_129 : decode cX10_phase 129 = .ok (.iadd, 1) := by decide +kernel
theorem dX10_phase_130 : decode cX10_phase 130 = .ok (.iload_n 2, 1) := by decide +kernel
theorem dX10_phase_131 : decode cX10_phase 131 = .ok (.ifCond .eq 7, 3) := by decide +kernel
theorem dX10_phase_134 : decode cX10_phase 134 = .ok (.iconst 1, 1) := by decide +kernel
theorem dX10_phase_135 : decode cX10_phase 135 = .ok (.goto 4, 3) := by decide +kernel
theorem dX10_phase_138 : decode cX10_phase 138 = .ok (.iconst 0, 1) := by decide +kernel
theorem dX10_phase_139 : decode cX10_phase 139 = .ok (.iastore, 1) := by decide +kernel
theorem dX10_phase_140 : decode cX10_phase 140 = .ok (.aload_n 0, 1) := by decide +kernel
theorem dX10_phase_141 : decode cX10_phase 141 = .ok (.getfield 22, 3) := by decide +kernel
theorem dX10_phase_144 : decode cX10_phase 144 = .ok (.iload 7, 2) := by decide +kernel
theorem dX10_phase_146 : decode cX10_phase 146 = .ok (.iconst 2, 1) := by decide +kernel
theorem dX10_phase_147 : decode cX10_phase 147 = .ok (.iadd, 1) := by decide +kernel
theorem dX10_phase_148 : decode cX10_phase 148 = .ok (.iload_n 3, 1) := by decide +kernel
theorem dX10_phase_149 : decode cX10_phase 149 = .ok (.iastore, 1) := by decide +kernel
theorem dX10_phase_150 : decode cX10_phase 150 = .ok (.aload_n 0, 1) := by decide +kernel
theorem dX10_phase_151 : decode cX10_phase 151 = .ok (.getfield 22, 3) := by decide +kernel
theorem dX10_phase_154 : decode cX10_phase 154 = .ok (.iload 7, 2) := by decide +kernel
theorem dX10_phase_156 : decode cX10_phase 156 = .ok (.iconst 3, 1) := by decide +kernel
theorem dX10_phase_157 : decode cX10_phase 157 = .ok (.iadd, 1) := by decide +kernel
theorem dX10_phase_158 : decode cX10_phase 158 = .ok (.iload 4, 2) := by decide +kernel
theorem dX10_phase_160 : decode cX10_phase 160 = .ok (.iastore, 1) := by decide +kernel
theorem dX10_phase_161 : decode cX10_phase 161 = .ok (.aload_n 0, 1) := by decide +kernel
theorem dX10_phase_162 : decode cX10_phase 162 = .ok (.getfield 22, 3) := by decide +kernel
theorem dX10_phase_165 : decode cX10_phase 165 = .ok (.iload 7, 2) := by decide +kernel
theorem dX10_phase_167 : decode cX10_phase 167 = .ok (.iconst 4, 1) := by decide +kernel
theorem dX10_phase_168 : decode cX10_phase 168 = .ok (.iadd, 1) := by decide +kernel
theorem dX10_phase_169 : decode cX10_phase 169 = .ok (.iload 5, 2) := by decide +kernel
theorem dX10_phase_171 : decode cX10_phase 171 = .ok (.iastore, 1) := by decide +kernel
theorem dX10_phase_172 : decode cX10_phase 172 = .ok (.aload_n 0, 1) := by decide +kernel
theorem dX10_phase_173 : decode cX10_phase 173 = .ok (.dup, 1) := by decide +kernel
theorem dX10_phase_174 : decode cX10_phase 174 = .ok (.getfield 127, 3) := by decide +kernel
theorem dX10_phase_177 : decode cX10_phase 177 = .ok (.iconst 1, 1) := by decide +kernel
theorem dX10_phase_178 : decode cX10_phase 178 = .ok (.iadd, 1) := by decide +kernel
theorem dX10_phase_179 : decode cX10_phase 179 = .ok (.putfield 127, 3) := by decide +kernel
theorem dX10_phase_182 : decode cX10_phase 182 = .ok (.aload_n 0, 1) := by decide +kernel
theorem dX10_phase_183 : decode cX10_phase 183 = .ok (.getfield 127, 3) := by decide +kernel
theorem dX10_phase_186 : decode cX10_phase 186 = .ok (.ireturn, 1) := by decide +kernel
set_option maxHeartbeats 1000000 in
set_option maxRecDepth 100000 in
theorem o_phase (de : Nat) (w : Wd) (mo : Nat) (ad : Nat → Nat) (A : Nat → Nat → Int32) (F : Nat → Int32) (L : Int32) (g : Nat → Int32) (hm : RM w mo ad) (dy : Int32) (dB : Bool) (tr ex wt : Int32) (nD : Nat) (hD : F 11 = nI nD) (hD9 : nD < 100) : Ct yX10_phase cX10_phase 8 (some .int) 1 23 0 0 de [.ref mo, .int dy, .int (bI dB), .int tr, .int ex, .int wt] (M w mo ad A F L g) (fun r w' => (goV (bI ((inR dy 1 30 && (inR tr 0 9999 && (inR ex 0 9999 && inR wt 1 100))) && (if dB = true then decide (tr < ex) else decide (ex < tr)))) (bI (decide (F 11 < 3))) 1 = 0 → r = some (.int (F 11 + 1)) ∧ ∃ g', w' = M w mo ad (updA (updA (updA (updA (updA A 7 (5 * (18 + nD)) dy) 7 (5 * (18 + nD) + 1) (bI dB)) 7 (5 * (18 + nD) + 2) tr) 7 (5 * (18 + nD) + 3) ex) 7 (5 * (18 + nD) + 4) wt) (updF F 11 (F 11 + 1)) 0 g') ∧ (¬ goV (bI ((inR dy 1 30 && (inR tr 0 9999 && (inR ex 0 9999 && inR wt 1 100))) && (if dB = true then decide (tr < ex) else decide (ex < tr)))) (bI (decide (F 11 < 3))) 1 = 0 → r = some (.int 0) ∧ w' = M w mo ad A F (goV (bI ((inR dy 1 30 && (inR tr 0 9999 && (inR ex 0 9999 && inR wt 1 100))) && (if dB = true then decide (tr < ex) else decide (ex < tr)))) (bI (decide (F 11 < 3))) 1) g)) := by
  refine Ct.mk (by decide +kernel) [(0, .ref mo), (1, .int dy), (2, .int (bI dB)), (3, .int tr), (4, .int ex), (5, .int wt)] rfl (Nat.le_of_ble_eq_true rfl) ?_
  intro p l e R s m args below meth c D cy z C hnm
  refine g_cutS (pc' := 49) (.int (bI (inR dy 1 30 && (inR tr 0 9999 && (inR ex 0 9999 && inR wt 1 100))))) ?_ (fun j_49 => ?_)
  · refine g_istore C dX10_phase_49 (by decide) ?_
    refine g_aload_n C dX10_phase_51 rfl ?_
    refine g_cutS (pc' := 81) (.int (bI ((inR dy 1 30 && (inR tr 0 9999 && (inR ex 0 9999 && inR wt 1 100))) && (if dB = true then decide (tr < ex) else decide (ex < tr))))) ?_ (fun j_81 => ?_)
    · refine g_cutS (pc' := 94) (.int (bI (decide (F 11 < 3)))) ?_ (fun j_94 => ?_)
      · refine g_iconst C 1 dX10_phase_94 (by rfl) ?_
        refine g_callV C cls_11 12 mt_X10_goes [.int (bI ((inR dy 1 30 && (inR tr 0 9999 && (inR ex 0 9999 && inR wt 1 100))) && (if dB = true then decide (tr < ex) else decide (ex < tr)))), .int (bI (decide (F 11 < 3))), .int 1] (m_goes de w mo ad A F L g hm (bI ((inR dy 1 30 && (inR tr 0 9999 && (inR ex 0 9999 && inR wt 1 100))) && (if dB = true then decide (tr < ex) else decide (ex < tr)))) (bI (decide (F 11 < 3))) 1) hm.1 (by decide) k_1017 rfl rfl (Nat.le_of_ble_eq_true rfl) (by decide) (by decide) (by decide) (by decide) dX10_phase_95 (fun r_95 w_95 hp_95 => ?_)
        obtain ⟨rfl, rfl⟩ := hp_95
        refine g_if_ne C 103 dX10_phase_98 (by decide) (fun c_98 => ?_) (fun c_98 => ?_)
        · have b_98 := bI_n0.mp c_98
          have hg := of_decide_eq_true b_98
          rw [hg]
          obtain ⟨ha9, hb9⟩ := goV_01 hg
          have hn := nI_lt_of (b := 3) (hD ▸ of_decide_eq_true hb9) (by omega) (by omega)
          refine g_iconst C 5 dX10_phase_103 (by rfl) ?_
          refine g_bipush C 18 dX10_phase_104 (by rfl) ?_
          refine g_aload_n C dX10_phase_106 rfl ?_
          refine g_getI C cls_11 12 11 hm.1 rfl k_926 dX10_phase_107 ?_
          rw [M_f11]
          rw [hD]
          refine g_iadd C dX10_phase_110 ?_
          refine g_imul C dX10_phase_111 ?_
          rw [show (5 : Int32) * (18 + nI nD) = nI (5 * (18 + nD)) by rw [show (18 : Int32) = nI 18 from rfl, nI_add, show (5 : Int32) = nI 5 from rfl, pk_mul]]
          refine g_istore C dX10_phase_112 (by decide) ?_
          refine g_aload_n C dX10_phase_114 rfl ?_
          refine g_getR (b := (ad 7)) C cls_11 12 7 hm.1 (rm_7 hm).1 rfl k_922 dX10_phase_115 ?_
          refine g_iload C dX10_phase_118 rfl ?_
          refine g_iload_n C dX10_phase_120 rfl ?_
          refine g_iast C 2070 (rm_7 hm).2.1 rfl (show vp_in (nI (5 * (18 + nD))) (aL w (ad 7)) by rw [(rm_7 hm).2.2]; exact nI_vp (show 5 * (18 + nD) < 105 by omega) (by omega)) dX10_phase_121 ?_
          rw [nI_tn (show 5 * (18 + nD) ≤ 100000 by omega), M_p7]
          refine g_aload_n C dX10_phase_122 rfl ?_
          refine g_getR (b := (ad 7)) C cls_11 12 7 hm.1 (rm_7 hm).1 rfl k_922 dX10_phase_123 ?_
          refine g_iload C dX10_phase_126 rfl ?_
          refine g_iconst C 1 dX10_phase_128 (by rfl) ?_
          refine g_iadd C dX10_phase_129 ?_
          rw [show nI (5 * (18 + nD)) + 1 = nI (5 * (18 + nD) + 1) from nI_add _ 1]
          refine g_cutS (pc' := 139) (.int (bI dB)) ?_ (fun j_139 => ?_)
          · refine g_iast C 2070 (rm_7 hm).2.1 rfl (show vp_in (nI (5 * (18 + nD) + 1)) (aL w (ad 7)) by rw [(rm_7 hm).2.2]; exact nI_vp (show 5 * (18 + nD) + 1 < 105 by omega) (by omega)) dX10_phase_139 ?_
            rw [nI_tn (show 5 * (18 + nD) + 1 ≤ 100000 by omega), M_p7]
            refine g_aload_n C dX10_phase_140 rfl ?_
            refine g_getR (b := (ad 7)) C cls_11 12 7 hm.1 (rm_7 hm).1 rfl k_922 dX10_phase_141 ?_
            refine g_iload C dX10_phase_144 rfl ?_
            refine g_iconst C 2 dX10_phase_146 (by rfl) ?_
            refine g_iadd C dX10_phase_147 ?_
            rw [show nI (5 * (18 + nD)) + 2 = nI (5 * (18 + nD) + 2) from nI_add _ 2]
            refine g_iload_n C dX10_phase_148 rfl ?_
            refine g_iast C 2070 (rm_7 hm).2.1 rfl (show vp_in (nI (5 * (18 + nD) + 2)) (aL w (ad 7)) by rw [(rm_7 hm).2.2]; exact nI_vp (show 5 * (18 + nD) + 2 < 105 by omega) (by omega)) dX10_phase_149 ?_
            rw [nI_tn (show 5 * (18 + nD) + 2 ≤ 100000 by omega), M_p7]
            refine g_aload_n C dX10_phase_150 rfl ?_
            refine g_getR (b := (ad 7)) C cls_11 12 7 hm.1 (rm_7 hm).1 rfl k_922 dX10_phase_151 ?_
            refine g_iload C dX10_phase_154 rfl ?_
            refine g_iconst C 3 dX10_phase_156 (by rfl) ?_
            refine g_iadd C dX10_phase_157 ?_
            rw [show nI (5 * (18 + nD)) + 3 = nI (5 * (18 + nD) + 3) from nI_add _ 3]
            refine g_iload C dX10_phase_158 rfl ?_
            refine g_iast C 2070 (rm_7 hm).2.1 rfl (show vp_in (nI (5 * (18 + nD) + 3)) (aL w (ad 7)) by rw [(rm_7 hm).2.2]; exact nI_vp (show 5 * (18 + nD) + 3 < 105 by omega) (by omega)) dX10_phase_160 ?_
            rw [nI_tn (show 5 * (18 + nD) + 3 ≤ 100000 by omega), M_p7]
            refine g_aload_n C dX10_phase_161 rfl ?_
            refine g_getR (b := (ad 7)) C cls_11 12 7 hm.1 (rm_7 hm).1 rfl k_922 dX10_phase_162 ?_
            refine g_iload C dX10_phase_165 rfl ?_
            refine g_iconst C 4 dX10_phase_167 (by rfl) ?_
            refine g_iadd C dX10_phase_168 ?_
            rw [show nI (5 * (18 + nD)) + 4 = nI (5 * (18 + nD) + 4) from nI_add _ 4]
            refine g_iload C dX10_phase_169 rfl ?_
            refine g_iast C 2070 (rm_7 hm).2.1 rfl (show vp_in (nI (5 * (18 + nD) + 4)) (aL w (ad 7)) by rw [(rm_7 hm).2.2]; exact nI_vp (show 5 * (18 + nD) + 4 < 105 by omega) (by omega)) dX10_phase_171 ?_
            rw [nI_tn (show 5 * (18 + nD) + 4 ≤ 100000 by omega), M_p7]
            refine g_aload_n C dX10_phase_172 rfl ?_
            refine g_dup C dX10_phase_173 rfl ?_
            refine g_getI C cls_11 12 11 hm.1 rfl k_926 dX10_phase_174 ?_
            rw [M_f11]
            rw [hD]
            refine g_iconst C 1 dX10_phase_177 (by rfl) ?_
            refine g_iadd C dX10_phase_178 ?_
            refine g_putI C cls_11 12 11 hm.1 rfl (Or.inl rfl) rfl rfl k_926 dX10_phase_179 ?_
            rw [M_q11]
            refine g_aload_n C dX10_phase_182 rfl ?_
            refine g_getI C cls_11 12 11 hm.1 rfl k_926 dX10_phase_183 ?_
            rw [M_f11]
            refine g_iret C rfl rfl (by decide) (by decide) dX10_phase_186 ?_
            first
            | exact ⟨fun h9 => absurd h9 hg, fun _ => ⟨rfl, rfl⟩⟩
            | (refine ⟨fun _ => ⟨?_, _, rfl⟩, fun h9 => absurd rfl h9⟩; exact congrArg (fun v => some (Value.int v)) (rfl))
          · refine g_iload_n C dX10_phase_130 rfl ?_
            refine g_if_eq C 138 dX10_phase_131 (by decide) (fun c_131 => ?_) (fun c_131 => ?_)
            · have b_131 := bI_0.mp c_131
              refine g_iconst C 0 dX10_phase_138 (by rfl) ?_
              exact g_eq rfl (congrArg (fun v => Value.int v :: _) (by first | rfl | (simp only [b_98, b_131]; done) | (simp only [b_98, b_131]; rfl) | (simp [b_98, b_131, bI]; done))) rfl j_139
            · have b_131 := bI_n0.mp c_131
              refine g_iconst C 1 dX10_phase_134 (by rfl) ?_
              refine g_goto C 139 dX10_phase_135 (by decide) ?_
              exact g_eq rfl (congrArg (fun v => Value.int v :: _) (by first | rfl | (simp only [b_98, b_131]; done) | (simp only [b_98, b_131]; rfl) | (simp [b_98, b_131, bI]; done))) rfl j_139
        · have b_98 := bI_0.mp c_98
          have hg := of_decide_eq_false b_98
          refine g_iconst C 0 dX10_phase_101 (by rfl) ?_
          refine g_iret C rfl rfl (by decide) (by decide) dX10_phase_102 ?_
          first
          | exact ⟨fun h9 => absurd h9 hg, fun _ => ⟨rfl, rfl⟩⟩
          | (refine ⟨fun _ => ⟨?_, _, rfl⟩, fun h9 => absurd rfl h9⟩; exact congrArg (fun v => some (Value.int v)) (rfl))
      · refine g_aload_n C dX10_phase_81 rfl ?_
        refine g_getI C cls_11 12 11 hm.1 rfl k_926 dX10_phase_82 ?_
        rw [M_f11]
        refine g_iconst C 3 dX10_phase_85 (by rfl) ?_
        refine g_icmp_ge C 93 dX10_phase_86 (by decide) (fun c_86 => ?_) (fun c_86 => ?_)
        · have b_86 := And.intro (decide_eq_false (Int32.not_lt.mpr c_86)) (decide_eq_true c_86)
          refine g_iconst C 0 dX10_phase_93 (by rfl) ?_
          exact g_eq rfl (congrArg (fun v => Value.int v :: _) (by first | rfl | (simp only [b_86]; done) | (simp only [b_86]; rfl) | (simp [b_86, bI]; done))) rfl j_94
        · have b_86 := And.intro (decide_eq_true (Int32.not_le.mp c_86)) (decide_eq_false c_86)
          refine g_iconst C 1 dX10_phase_89 (by rfl) ?_
          refine g_goto C 94 dX10_phase_90 (by decide) ?_
          exact g_eq rfl (congrArg (fun v => Value.int v :: _) (by first | rfl | (simp only [b_86]; done) | (simp only [b_86]; rfl) | (simp [b_86, bI]; done))) rfl j_94
    · refine g_iload C dX10_phase_52 rfl ?_
      refine g_if_eq C 80 dX10_phase_54 (by decide) (fun c_54 => ?_) (fun c_54 => ?_)
      · have b_54 := bI_0.mp c_54
        refine g_iconst C 0 dX10_phase_80 (by rfl) ?_
        exact g_eq rfl (congrArg (fun v => Value.int v :: _) (by first | rfl | (simp only [b_54]; done) | (simp only [b_54]; rfl) | (simp [b_54, bI]; done))) rfl j_81
      · have b_54 := bI_n0.mp c_54
        refine g_iload_n C dX10_phase_57 rfl ?_
        refine g_if_eq C 70 dX10_phase_58 (by decide) (fun c_58 => ?_) (fun c_58 => ?_)
        · have b_58 := bI_0.mp c_58
          refine g_iload_n C dX10_phase_70 rfl ?_
          refine g_iload C dX10_phase_71 rfl ?_
          refine g_icmp_le C 80 dX10_phase_73 (by decide) (fun c_73 => ?_) (fun c_73 => ?_)
          · have b_73 := And.intro (decide_eq_false (Int32.not_lt.mpr c_73)) (decide_eq_true c_73)
            refine g_iconst C 0 dX10_phase_80 (by rfl) ?_
            exact g_eq rfl (congrArg (fun v => Value.int v :: _) (by first | rfl | (simp only [b_54, b_58, b_73]; done) | (simp only [b_54, b_58, b_73]; rfl) | (simp [b_54, b_58, b_73, bI]; done))) rfl j_81
          · have b_73 := And.intro (decide_eq_true (Int32.not_le.mp c_73)) (decide_eq_false c_73)
            refine g_iconst C 1 dX10_phase_76 (by rfl) ?_
            refine g_goto C 81 dX10_phase_77 (by decide) ?_
            exact g_eq rfl (congrArg (fun v => Value.int v :: _) (by first | rfl | (simp only [b_54, b_58, b_73]; done) | (simp only [b_54, b_58, b_73]; rfl) | (simp [b_54, b_58, b_73, bI]; done))) rfl j_81
        · have b_58 := bI_n0.mp c_58
          refine g_iload_n C dX10_phase_61 rfl ?_
          refine g_iload C dX10_phase_62 rfl ?_
          refine g_icmp_ge C 80 dX10_phase_64 (by decide) (fun c_64 => ?_) (fun c_64 => ?_)
          · have b_64 := And.intro (decide_eq_false (Int32.not_lt.mpr c_64)) (decide_eq_true c_64)
            refine g_iconst C 0 dX10_phase_80 (by rfl) ?_
            exact g_eq rfl (congrArg (fun v => Value.int v :: _) (by first | rfl | (simp only [b_54, b_58, b_64]; done) | (simp only [b_54, b_58, b_64]; rfl) | (simp [b_54, b_58, b_64, bI]; done))) rfl j_81
          · have b_64 := And.intro (decide_eq_true (Int32.not_le.mp c_64)) (decide_eq_false c_64)
            refine g_goto C 76 dX10_phase_67 (by decide) ?_
            refine g_iconst C 1 dX10_phase_76 (by rfl) ?_
            refine g_goto C 81 dX10_phase_77 (by decide) ?_
            exact g_eq rfl (congrArg (fun v => Value.int v :: _) (by first | rfl | (simp only [b_54, b_58, b_64]; done) | (simp only [b_54, b_58, b_64]; rfl) | (simp [b_54, b_58, b_64, bI]; done))) rfl j_81
  · refine g_iload_n C dX10_phase_0 rfl ?_
    refine g_iconst C 1 dX10_phase_1 (by rfl) ?_
    refine g_bipush C 30 dX10_phase_2 (by rfl) ?_
    refine g_callS C mt_X10_in [.int dy, .int 1, .int 30] (c_X10_in de _ dy 1 30) k_1014 rfl rfl (Nat.le_of_ble_eq_true rfl) (by decide) (by decide) (by decide) (by decide) dX10_phase_4 (fun r_4 w_4 hp_4 => ?_)
    obtain ⟨rfl, rfl⟩ := hp_4
    refine g_if_eq C 48 dX10_phase_7 (by decide) (fun c_7 => ?_) (fun c_7 => ?_)
    · have b_7 := bI_0.mp c_7
      refine g_iconst C 0 dX10_phase_48 (by rfl) ?_
      exact g_eq rfl (congrArg (fun v => Value.int v :: _) (by first | rfl | (simp only [b_7]; done) | (simp only [b_7]; rfl) | (simp [b_7, bI]; done))) rfl j_49
    · have b_7 := bI_n0.mp c_7
      refine g_iload_n C dX10_phase_10 rfl ?_
      refine g_iconst C 0 dX10_phase_11 (by rfl) ?_
      refine g_sipush C 9999 dX10_phase_12 (by rfl) ?_
      refine g_callS C mt_X10_in [.int tr, .int 0, .int 9999] (c_X10_in de _ tr 0 9999) k_1014 rfl rfl (Nat.le_of_ble_eq_true rfl) (by decide) (by decide) (by decide) (by decide) dX10_phase_15 (fun r_15 w_15 hp_15 => ?_)
      obtain ⟨rfl, rfl⟩ := hp_15
      refine g_if_eq C 48 dX10_phase_18 (by decide) (fun c_18 => ?_) (fun c_18 => ?_)
      · have b_18 := bI_0.mp c_18
        refine g_iconst C 0 dX10_phase_48 (by rfl) ?_
        exact g_eq rfl (congrArg (fun v => Value.int v :: _) (by first | rfl | (simp only [b_7, b_18]; done) | (simp only [b_7, b_18]; rfl) | (simp [b_7, b_18, bI]; done))) rfl j_49
      · have b_18 := bI_n0.mp c_18
        refine g_iload C dX10_phase_21 rfl ?_
        refine g_iconst C 0 dX10_phase_23 (by rfl) ?_
        refine g_sipush C 9999 dX10_phase_24 (by rfl) ?_
        refine g_callS C mt_X10_in [.int ex, .int 0, .int 9999] (c_X10_in de _ ex 0 9999) k_1014 rfl rfl (Nat.le_of_ble_eq_true rfl) (by decide) (by decide) (by decide) (by decide) dX10_phase_27 (fun r_27 w_27 hp_27 => ?_)
        obtain ⟨rfl, rfl⟩ := hp_27
        refine g_if_eq C 48 dX10_phase_30 (by decide) (fun c_30 => ?_) (fun c_30 => ?_)
        · have b_30 := bI_0.mp c_30
          refine g_iconst C 0 dX10_phase_48 (by rfl) ?_
          exact g_eq rfl (congrArg (fun v => Value.int v :: _) (by first | rfl | (simp only [b_7, b_18, b_30]; done) | (simp only [b_7, b_18, b_30]; rfl) | (simp [b_7, b_18, b_30, bI]; done))) rfl j_49
        · have b_30 := bI_n0.mp c_30
          refine g_iload C dX10_phase_33 rfl ?_
          refine g_iconst C 1 dX10_phase_35 (by rfl) ?_
          refine g_bipush C 100 dX10_phase_36 (by rfl) ?_
          refine g_callS C mt_X10_in [.int wt, .int 1, .int 100] (c_X10_in de _ wt 1 100) k_1014 rfl rfl (Nat.le_of_ble_eq_true rfl) (by decide) (by decide) (by decide) (by decide) dX10_phase_38 (fun r_38 w_38 hp_38 => ?_)
          obtain ⟨rfl, rfl⟩ := hp_38
          refine g_if_eq C 48 dX10_phase_41 (by decide) (fun c_41 => ?_) (fun c_41 => ?_)
          · have b_41 := bI_0.mp c_41
            refine g_iconst C 0 dX10_phase_48 (by rfl) ?_
            exact g_eq rfl (congrArg (fun v => Value.int v :: _) (by first | rfl | (simp only [b_7, b_18, b_30, b_41]; done) | (simp only [b_7, b_18, b_30, b_41]; rfl) | (simp [b_7, b_18, b_30, b_41, bI]; done))) rfl j_49
          · have b_41 := bI_n0.mp c_41
            refine g_iconst C 1 dX10_phase_44 (by rfl) ?_
            refine g_goto C 49 dX10_phase_45 (by decide) ?_
            exact g_eq rfl (congrArg (fun v => Value.int v :: _) (by first | rfl | (simp only [b_7, b_18, b_30, b_41]; done) | (simp only [b_7, b_18, b_30, b_41]; rfl) | (simp [b_7, b_18, b_30, b_41, bI]; done))) rfl j_49
theorem dX10_product_0 : decode cX10_product 0 = .ok (.aload_n 0, 1) := by decide +kernel
theorem dX10_product_1 : decode cX10_product 1 = .ok (.iload_n 1, 1) := by decide +kernel
theorem dX10_product_2 : decode cX10_product 2 = .ok (.iconst 0, 1) := by decide +kernel
theorem dX10_product_3 : decode cX10_product 3 = .ok (.iconst 1, 1) := by decide +kernel
theorem dX10_product_4 : decode cX10_product 4 = .ok (.invokestatic 81, 3) := by decide +kernel
theorem dX10_product_7 : decode cX10_product 7 = .ok (.aload_n 0, 1) := by decide +kernel
theorem dX10_product_8 : decode cX10_product 8 = .ok (.getfield 127, 3) := by decide +kernel
theorem dX10_product_11 : decode cX10_product 11 = .ok (.ifCond .le 16, 3) := by decide +kernel
theorem dX10_product_14 : decode cX10_product 14 = .ok (.aload_n 0, 1) := by decide +kernel
theorem dX10_product_15 : decode cX10_product 15 = .ok (.getfield 85, 3) := by decide +kernel
theorem dX10_product_18 : decode cX10_product 18 = .ok (.bipush 6, 2) := by decide +kernel
theorem dX10_product_20 : decode cX10_product 20 = .ok (.if_icmp .ge 7, 3) := by decide +kernel
theorem dX10_product_23 : decode cX10_product 23 = .ok (.iconst 1, 1) := by decide +kernel
theorem dX10_product_24 : decode cX10_product 24 = .ok (.goto 4, 3) := by decide +kernel
theorem dX10_product_27 : decode cX10_product 27 = .ok (.iconst 0, 1) := by decide +kernel
theorem dX10_product_28 : decode cX10_product 28 = .ok (.iconst 1, 1) := by decide +kernel
theorem dX10_product_29 : decode cX10_product 29 = .ok (.invokevirtual 95, 3) := by decide +kernel
theorem dX10_product_32 : decode cX10_product 32 = .ok (.ifCond .ne 5, 3) := by decide +kernel
theorem dX10_product_35 : decode cX10_product 35 = .ok (.iconst 0, 1) := by decide +kernel
theorem dX10_product_36 : decode cX10_product 36 = .ok (.ireturn, 1) := by decide +kernel
theorem dX10_product_37 : decode cX10_product 37 = .ok (.iconst 0, 1) := by decide +kernel
theorem dX10_product_38 : decode cX10_product 38 = .ok (.istore_n 2, 1) := by decide +kernel
theorem dX10_product_39 : decode cX10_product 39 = .ok (.iload_n 2, 1) := by decide +kernel
theorem dX10_product_40 : decode cX10_product 40 = .ok (.bipush 15, 2) := by decide +kernel
theorem dX10_product_42 : decode cX10_product 42 = .ok (.if_icmp .ge 32, 3) := by decide +kernel
theorem dX10_product_45 : decode cX10_product 45 = .ok (.aload_n 0, 1) := by decide +kernel
theorem dX10_product_46 : decode cX10_product 46 = .ok (.getfield 22, 3) := by decide +kernel
theorem dX10_product_49 : decode cX10_product 49 = .ok (.bipush 15, 2) := by decide +kernel
theorem dX10_product_51 : decode cX10_product 51 = .ok (.aload_n 0, 1) := by decide +kernel
theorem dX10_product_52 : decode cX10_product 52 = .ok (.getfield 85, 3) := by decide +kernel
theorem dX10_product_55 : decode cX10_product 55 = .ok (.imul, 1) := by decide +kernel
theorem dX10_product_56 : decode cX10_product 56 = .ok (.iload_n 2, 1) := by decide +kernel
theorem dX10_product_57 : decode cX10_product 57 = .ok (.iadd, 1) := by decide +kernel
theorem dX10_product_58 : decode cX10_product 58 = .ok (.aload_n 0, 1) := by decide +kernel
theorem dX10_product_59 : decode cX10_product 59 = .ok (.getfield 22, 3) := by decide +kernel
theorem dX10_product_62 : decode cX10_product 62 = .ok (.bipush 90, 2) := by decide +kernel
theorem dX10_product_64 : decode cX10_product 64 = .ok (.iload_n 2, 1) := by decide +kernel
theorem dX10_product_65 : decode cX10_product 65 = .ok (.iadd, 1) := by decide +kernel
theorem dX10_product_66 : decode cX10_product 66 = .ok (.iaload, 1) := by decide +kernel
theorem dX10_product_67 : decode cX10_product 67 = .ok (.iastore, 1) := by decide +kernel
theorem dX10_product_68 : decode cX10_product 68 = .ok (.iinc 2 1, 3) := by decide +kernel
theorem dX10_product_71 : decode cX10_product 71 = .ok (.goto (-32), 3) := by decide +kernel
theorem dX10_product_74 : decode cX10_product 74 = .ok (.aload_n 0, 1) := by decide +kernel
theorem dX10_product_75 : decode cX10_product 75 = .ok (.getfield 25, 3) := by decide +kernel
theorem dX10_product_78 : decode cX10_product 78 = .ok (.aload_n 0, 1) := by decide +kernel
theorem dX10_product_79 : decode cX10_product 79 = .ok (.getfield 85, 3) := by decide +kernel
theorem dX10_product_82 : decode cX10_product 82 = .ok (.aload_n 0, 1) := by decide +kernel
theorem dX10_product_83 : decode cX10_product 83 = .ok (.getfield 127, 3) := by decide +kernel
theorem dX10_product_86 : decode cX10_product 86 = .ok (.iastore, 1) := by decide +kernel
theorem dX10_product_87 : decode cX10_product 87 = .ok (.aload_n 0, 1) := by decide +kernel
theorem dX10_product_88 : decode cX10_product 88 = .ok (.getfield 28, 3) := by decide +kernel
theorem dX10_product_91 : decode cX10_product 91 = .ok (.aload_n 0, 1) := by decide +kernel
theorem dX10_product_92 : decode cX10_product 92 = .ok (.getfield 85, 3) := by decide +kernel
theorem dX10_product_95 : decode cX10_product 95 = .ok (.iload_n 1, 1) := by decide +kernel
theorem dX10_product_96 : decode cX10_product 96 = .ok (.iastore, 1) := by decide +kernel
theorem dX10_product_97 : decode cX10_product 97 = .ok (.aload_n 0, 1) := by decide +kernel
theorem dX10_product_98 : decode cX10_product 98 = .ok (.iconst 0, 1) := by decide +kernel
theorem dX10_product_99 : decode cX10_product 99 = .ok (.putfield 127, 3) := by decide +kernel
theorem dX10_product_102 : decode cX10_product 102 = .ok (.aload_n 0, 1) := by decide +kernel
theorem dX10_product_103 : decode cX10_product 103 = .ok (.dup, 1) := by decide +kernel
theorem dX10_product_104 : decode cX10_product 104 = .ok (.getfield 85, 3) := by decide +kernel
theorem dX10_product_107 : decode cX10_product 107 = .ok (.iconst 1, 1) := by decide +kernel
theorem dX10_product_108 : decode cX10_product 108 = .ok (.iadd, 1) := by decide +kernel
theorem dX10_product_109 : decode cX10_product 109 = .ok (.putfield 85, 3) := by decide +kernel
theorem dX10_product_112 : decode cX10_product 112 = .ok (.aload_n 0, 1) := by decide +kernel
theorem dX10_product_113 : decode cX10_product 113 = .ok (.getfield 85, 3) := by decide +kernel
theorem dX10_product_116 : decode cX10_product 116 = .ok (.iconst 1, 1) := by decide +kernel
theorem dX10_product_117 : decode cX10_product 117 = .ok (.isub, 1) := by decide +kernel
theorem dX10_product_118 : decode cX10_product 118 = .ok (.ireturn, 1) := by decide +kernel
set_option maxHeartbeats 1000000 in
set_option maxRecDepth 100000 in
theorem o_product (de : Nat) (w : Wd) (mo : Nat) (ad : Nat → Nat) (A : Nat → Nat → Int32) (F : Nat → Int32) (L : Int32) (g : Nat → Int32) (hm : RM w mo ad) (kn : Int32) (nP : Nat) (hP : F 10 = nI nP) (hP9 : nP < 100) : Ct yX10_product cX10_product 3 (some .int) 1 23 0 0 de [.ref mo, .int kn] (M w mo ad A F L g) (fun r w' => (goV (bI (inR kn 0 1)) (bI (decide (0 < F 11) && decide (F 10 < 6))) 1 = 0 → r = some (.int (nI nP)) ∧ ∃ g', w' = M w mo ad (updA (updA (cpyA A nP 15) 8 nP (F 11)) 9 nP kn) (updF (updF F 11 0) 10 (nI nP + 1)) 0 g') ∧ (¬ goV (bI (inR kn 0 1)) (bI (decide (0 < F 11) && decide (F 10 < 6))) 1 = 0 → r = some (.int 0) ∧ w' = M w mo ad A F (goV (bI (inR kn 0 1)) (bI (decide (0 < F 11) && decide (F 10 < 6))) 1) g)) := by
  refine Ct.mk (by decide +kernel) [(0, .ref mo), (1, .int kn)] rfl (Nat.le_of_ble_eq_true rfl) ?_
  intro p l e R s m args below meth c D cy z C hnm
  have loop : nP < 6 → ∀ (k i : Nat), i + k = 15 → G p l e R s m args below meth c D cy z 3 (M w mo ad (cpyA A nP i) F 0 g) 0 0 39 [(0, .ref mo), (1, .int kn), (2, .int (nI i))] [] (QM below args s D cy z (fun r w' => ((0 : Int32) = 0 → r = some (.int (nI nP)) ∧ ∃ g', w' = M w mo ad (updA (updA (cpyA A nP 15) 8 nP (F 11)) 9 nP kn) (updF (updF F 11 0) 10 (nI nP + 1)) 0 g') ∧ (¬ (0 : Int32) = 0 → r = some (.int 0) ∧ w' = M w mo ad A F ((0 : Int32)) g)) 0 0) := by
    intro hP6
    intro k
    induction k with
    | zero =>
      intro i hik
      have hi9 : i = 15 := by omega
      subst hi9
      refine g_iload_n C dX10_product_39 rfl ?_
      refine g_bipush C 15 dX10_product_40 (by rfl) ?_
      refine g_icmp_ge C 74 dX10_product_42 (by decide) (fun c_42 => ?_) (fun c_42 => ?_)
      · refine g_aload_n C dX10_product_74 rfl ?_
        refine g_getR (b := (ad 8)) C cls_11 12 8 hm.1 (rm_8 hm).1 rfl k_923 dX10_product_75 ?_
        refine g_aload_n C dX10_product_78 rfl ?_
        refine g_getI C cls_11 12 10 hm.1 rfl k_925 dX10_product_79 ?_
        rw [M_f10]
        rw [hP]
        refine g_aload_n C dX10_product_82 rfl ?_
        refine g_getI C cls_11 12 11 hm.1 rfl k_926 dX10_product_83 ?_
        rw [M_f11]
        refine g_iast C 2080 (rm_8 hm).2.1 rfl (show vp_in (nI (nP)) (aL w (ad 8)) by rw [(rm_8 hm).2.2]; exact nI_vp (show nP < 7 by omega) (by omega)) dX10_product_86 ?_
        rw [nI_tn (show nP ≤ 100000 by omega), M_p8]
        refine g_aload_n C dX10_product_87 rfl ?_
        refine g_getR (b := (ad 9)) C cls_11 12 9 hm.1 (rm_9 hm).1 rfl k_924 dX10_product_88 ?_
        refine g_aload_n C dX10_product_91 rfl ?_
        refine g_getI C cls_11 12 10 hm.1 rfl k_925 dX10_product_92 ?_
        rw [M_f10]
        rw [hP]
        refine g_iload_n C dX10_product_95 rfl ?_
        refine g_iast C 2090 (rm_9 hm).2.1 rfl (show vp_in (nI (nP)) (aL w (ad 9)) by rw [(rm_9 hm).2.2]; exact nI_vp (show nP < 7 by omega) (by omega)) dX10_product_96 ?_
        rw [nI_tn (show nP ≤ 100000 by omega), M_p9]
        refine g_aload_n C dX10_product_97 rfl ?_
        refine g_iconst C 0 dX10_product_98 (by rfl) ?_
        refine g_putI C cls_11 12 11 hm.1 rfl (Or.inl rfl) rfl rfl k_926 dX10_product_99 ?_
        rw [M_q11]
        refine g_aload_n C dX10_product_102 rfl ?_
        refine g_dup C dX10_product_103 rfl ?_
        refine g_getI C cls_11 12 10 hm.1 rfl k_925 dX10_product_104 ?_
        rw [M_f10]
        rw [show updF F 11 0 10 = F 10 from rfl, hP]
        refine g_iconst C 1 dX10_product_107 (by rfl) ?_
        refine g_iadd C dX10_product_108 ?_
        refine g_putI C cls_11 12 10 hm.1 rfl (Or.inl rfl) rfl rfl k_925 dX10_product_109 ?_
        rw [M_q10]
        refine g_aload_n C dX10_product_112 rfl ?_
        refine g_getI C cls_11 12 10 hm.1 rfl k_925 dX10_product_113 ?_
        rw [M_f10]
        refine g_iconst C 1 dX10_product_116 (by rfl) ?_
        refine g_isub C dX10_product_117 ?_
        refine g_iret C rfl rfl (by decide) (by decide) dX10_product_118 ?_
        exact ⟨fun _ => ⟨congrArg (fun v => some (Value.int v)) a11, _, rfl⟩, fun h9 => absurd rfl h9⟩
      · exact absurd (show (15 : Int32) ≤ nI 15 by decide) c_42
    | succ k ih =>
      intro i hik
      refine g_iload_n C dX10_product_39 rfl ?_
      refine g_bipush C 15 dX10_product_40 (by rfl) ?_
      refine g_icmp_ge C 74 dX10_product_42 (by decide) (fun c_42 => ?_) (fun c_42 => ?_)
      · exact absurd (nI_le_of (a := 15) c_42 (by omega) (by omega)) (by omega)
      · refine g_aload_n C dX10_product_45 rfl ?_
        refine g_getR (b := (ad 7)) C cls_11 12 7 hm.1 (rm_7 hm).1 rfl k_922 dX10_product_46 ?_
        refine g_bipush C 15 dX10_product_49 (by rfl) ?_
        refine g_aload_n C dX10_product_51 rfl ?_
        refine g_getI C cls_11 12 10 hm.1 rfl k_925 dX10_product_52 ?_
        rw [M_f10]
        rw [hP]
        refine g_imul C dX10_product_55 ?_
        refine g_iload_n C dX10_product_56 rfl ?_
        refine g_iadd C dX10_product_57 ?_
        rw [show (15 : Int32) * nI nP + nI i = nI (15 * nP + i) from ixm 15 nP i]
        refine g_aload_n C dX10_product_58 rfl ?_
        refine g_getR (b := (ad 7)) C cls_11 12 7 hm.1 (rm_7 hm).1 rfl k_922 dX10_product_59 ?_
        refine g_bipush C 90 dX10_product_62 (by rfl) ?_
        refine g_iload_n C dX10_product_64 rfl ?_
        refine g_iadd C dX10_product_65 ?_
        rw [show (90 : Int32) + nI i = nI (90 + i) from nI_add 90 i]
        refine g_iald C 2070 (rm_7 hm).2.1 rfl (show vp_in (nI (90 + i)) (aL w (ad 7)) by rw [(rm_7 hm).2.2]; exact nI_vp (show 90 + i < 105 by omega) (by omega)) dX10_product_66 ?_
        rw [M_a7, nI_tn (show 90 + i ≤ 100000 by omega)]
        refine g_iast C 2070 (rm_7 hm).2.1 rfl (show vp_in (nI (15 * nP + i)) (aL w (ad 7)) by rw [(rm_7 hm).2.2]; exact nI_vp (show 15 * nP + i < 105 by omega) (by omega)) dX10_product_67 ?_
        rw [nI_tn (show 15 * nP + i ≤ 100000 by omega), M_p7]
        refine g_iinc C dX10_product_68 rfl (nI_1 i) (by decide) ?_
        refine g_goto C 39 dX10_product_71 (by decide) ?_
        have h9 := ih (i + 1) (by omega)
        exact g_lv2 [(0, .ref mo), (1, .int kn), (2, .int (nI (i + 1)))] rfl h9
  refine g_aload_n C dX10_product_0 rfl ?_
  refine g_iload_n C dX10_product_1 rfl ?_
  refine g_iconst C 0 dX10_product_2 (by rfl) ?_
  refine g_iconst C 1 dX10_product_3 (by rfl) ?_
  refine g_callS C mt_X10_in [.int kn, .int 0, .int 1] (c_X10_in de _ kn 0 1) k_1014 rfl rfl (Nat.le_of_ble_eq_true rfl) (by decide) (by decide) (by decide) (by decide) dX10_product_4 (fun r_4 w_4 hp_4 => ?_)
  obtain ⟨rfl, rfl⟩ := hp_4
  refine g_cutS (pc' := 28) (.int (bI (decide (0 < F 11) && decide (F 10 < 6)))) ?_ (fun j_28 => ?_)
  · refine g_iconst C 1 dX10_product_28 (by rfl) ?_
    refine g_callV C cls_11 12 mt_X10_goes [.int (bI (inR kn 0 1)), .int (bI (decide (0 < F 11) && decide (F 10 < 6))), .int 1] (m_goes de w mo ad A F L g hm (bI (inR kn 0 1)) (bI (decide (0 < F 11) && decide (F 10 < 6))) 1) hm.1 (by decide) k_1017 rfl rfl (Nat.le_of_ble_eq_true rfl) (by decide) (by decide) (by decide) (by decide) dX10_product_29 (fun r_29 w_29 hp_29 => ?_)
    obtain ⟨rfl, rfl⟩ := hp_29
    refine g_if_ne C 37 dX10_product_32 (by decide) (fun c_32 => ?_) (fun c_32 => ?_)
    · have b_32 := bI_n0.mp c_32
      have hg := of_decide_eq_true b_32
      rw [hg]
      obtain ⟨ha9, hb9⟩ := goV_01 hg
      have hn := nI_lt_of (b := 6) (hP ▸ of_decide_eq_true (band hb9).2) (by omega) (by omega)
      refine g_iconst C 0 dX10_product_37 (by rfl) ?_
      refine g_istore_n C dX10_product_38 (by decide) ?_
      exact g_lv2 [(0, .ref mo), (1, .int kn), (2, .int (nI 0))] rfl (loop hn 15 0 (by omega))
    · have b_32 := bI_0.mp c_32
      have hg := of_decide_eq_false b_32
      refine g_iconst C 0 dX10_product_35 (by rfl) ?_
      refine g_iret C rfl rfl (by decide) (by decide) dX10_product_36 ?_
      first
      | exact ⟨fun h9 => absurd h9 hg, fun _ => ⟨rfl, rfl⟩⟩
      | (refine ⟨fun _ => ⟨?_, _, rfl⟩, fun h9 => absurd rfl h9⟩; exact congrArg (fun v => some (Value.int v)) (rfl))
  · refine g_aload_n C dX10_product_7 rfl ?_
    refine g_getI C cls_11 12 11 hm.1 rfl k_926 dX10_product_8 ?_
    rw [M_f11]
    refine g_if_le C 27 dX10_product_11 (by decide) (fun c_11 => ?_) (fun c_11 => ?_)
    · have b_11 := And.intro (decide_eq_false (Int32.not_lt.mpr c_11)) (decide_eq_true c_11)
      refine g_iconst C 0 dX10_product_27 (by rfl) ?_
      exact g_eq rfl (congrArg (fun v => Value.int v :: _) (by first | rfl | (simp only [b_11]; done) | (simp only [b_11]; rfl) | (simp [b_11, bI]; done))) rfl j_28
    · have b_11 := And.intro (decide_eq_true (Int32.not_le.mp c_11)) (decide_eq_false c_11)
      refine g_aload_n C dX10_product_14 rfl ?_
      refine g_getI C cls_11 12 10 hm.1 rfl k_925 dX10_product_15 ?_
      rw [M_f10]
      refine g_bipush C 6 dX10_product_18 (by rfl) ?_
      refine g_icmp_ge C 27 dX10_product_20 (by decide) (fun c_20 => ?_) (fun c_20 => ?_)
      · have b_20 := And.intro (decide_eq_false (Int32.not_lt.mpr c_20)) (decide_eq_true c_20)
        refine g_iconst C 0 dX10_product_27 (by rfl) ?_
        exact g_eq rfl (congrArg (fun v => Value.int v :: _) (by first | rfl | (simp only [b_11, b_20]; done) | (simp only [b_11, b_20]; rfl) | (simp [b_11, b_20, bI]; done))) rfl j_28
      · have b_20 := And.intro (decide_eq_true (Int32.not_le.mp c_20)) (decide_eq_false c_20)
        refine g_iconst C 1 dX10_product_23 (by rfl) ?_
        refine g_goto C 28 dX10_product_24 (by decide) ?_
        exact g_eq rfl (congrArg (fun v => Value.int v :: _) (by first | rfl | (simp only [b_11, b_20]; done) | (simp only [b_11, b_20]; rfl) | (simp [b_11, b_20, bI]; done))) rfl j_28
theorem dX10_farm_0 : decode cX10_farm 0 = .ok (.aload_n 0, 1) := by decide +kernel
theorem dX10_farm_1 : decode cX10_farm 1 = .ok (.iload_n 1, 1) := by decide +kernel
theorem dX10_farm_2 : decode cX10_farm 2 = .ok (.iconst 0, 1) := by decide +kernel
theorem dX10_farm_3 : decode cX10_farm 3 = .ok (.bipush 9, 2) := by decide +kernel
theorem dX10_farm_5 : decode cX10_farm 5 = .ok (.invokestatic 81, 3) := by decide +kernel
theorem dX10_farm_8 : decode cX10_farm 8 = .ok (.ifCond .eq 17, 3) := by decide +kernel
theorem dX10_farm_11 : decode cX10_farm 11 = .ok (.iload_n 2, 1) := by decide +kernel
theorem dX10_farm_12 : decode cX10_farm 12 = .ok (.iconst 0, 1) := by decide +kernel
theorem dX10_farm_13 : decode cX10_farm 13 = .ok (.bipush 9, 2) := by decide +kernel
theorem dX10_farm_15 : decode cX10_farm 15 = .ok (.invokestatic 81, 3) := by decide +kernel
theorem dX10_farm_18 : decode cX10_farm 18 = .ok (.ifCond .eq 7, 3) := by decide +kernel
theorem dX10_farm_21 : decode cX10_farm 21 = .ok (.iconst 1, 1) := by decide +kernel
theorem dX10_farm_22 : decode cX10_farm 22 = .ok (.goto 4, 3) := by decide +kernel
theorem dX10_farm_25 : decode cX10_farm 25 = .ok (.iconst 0, 1) := by decide +kernel
theorem dX10_farm_26 : decode cX10_farm 26 = .ok (.aload_n 0, 1) := by decide +kernel
theorem dX10_farm_27 : decode cX10_farm 27 = .ok (.getfield 88, 3) := by decide +kernel
theorem dX10_farm_30 : decode cX10_farm 30 = .ok (.bipush 16, 2) := by decide +kernel
theorem dX10_farm_32 : decode cX10_farm 32 = .ok (.if_icmp .ge 14, 3) := by decide +kernel
theorem dX10_farm_35 : decode cX10_farm 35 = .ok (.aload_n 0, 1) := by decide +kernel
theorem dX10_farm_36 : decode cX10_farm 36 = .ok (.getfield 78, 3) := by decide +kernel
theorem dX10_farm_39 : decode cX10_farm 39 = .ok (.ifCond .le 7, 3) := by decide +kernel
theorem dX10_farm_42 : decode cX10_farm 42 = .ok (.iconst 1, 1) := by decide +kernel
theorem dX10_farm_43 : decode cX10_farm 43 = .ok (.goto 4, 3) := by decide +kernel
theorem dX10_farm_46 : decode cX10_farm 46 = .ok (.iconst 0, 1) := by decide +kernel
theorem dX10_farm_47 : decode cX10_farm 47 = .ok (.iconst 1, 1) := by decide +kernel
theorem dX10_farm_48 : decode cX10_farm 48 = .ok (.invokevirtual 95, 3) := by decide +kernel
theorem dX10_farm_51 : decode cX10_farm 51 = .ok (.ifCond .ne 5, 3) := by decide +kernel
theorem dX10_farm_54 : decode cX10_farm 54 = .ok (.iconst 0, 1) := by decide +kernel
theorem dX10_farm_55 : decode cX10_farm 55 = .ok (.ireturn, 1) := by decide +kernel
theorem dX10_farm_56 : decode cX10_farm 56 = .ok (.iconst 0, 1) := by decide +kernel
theorem dX10_farm_57 : decode cX10_farm 57 = .ok (.istore_n 3, 1) := by decide +kernel
theorem dX10_farm_58 : decode cX10_farm 58 = .ok (.iconst 1, 1) := by decide +kernel
theorem dX10_farm_59 : decode cX10_farm 59 = .ok (.istore 4, 2) := by decide +kernel
theorem dX10_farm_61 : decode cX10_farm 61 = .ok (.iload 4, 2) := by decide +kernel
theorem dX10_farm_63 : decode cX10_farm 63 = .ok (.aload_n 0, 1) := by decide +kernel
theorem dX10_farm_64 : decode cX10_farm 64 = .ok (.getfield 78, 3) := by decide +kernel
theorem dX10_farm_67 : decode cX10_farm 67 = .ok (.if_icmp .ge 34, 3) := by decide +kernel
theorem dX10_farm_70 : decode cX10_farm 70 = .ok (.aload_n 0, 1) := by decide +kernel
theorem dX10_farm_71 : decode cX10_farm 71 = .ok (.iload_n 1, 1) := by decide +kernel
theorem dX10_farm_72 : decode cX10_farm 72 = .ok (.iload_n 2, 1) := by decide +kernel
theorem dX10_farm_73 : decode cX10_farm 73 = .ok (.iload 4, 2) := by decide +kernel
theorem dX10_farm_75 : decode cX10_farm 75 = .ok (.invokevirtual 106, 3) := by decide +kernel
theorem dX10_farm_78 : decode cX10_farm 78 = .ok (.aload_n 0, 1) := by decide +kernel
theorem dX10_farm_79 : decode cX10_farm 79 = .ok (.iload_n 1, 1) := by decide +kernel
theorem dX10_farm_80 : decode cX10_farm 80 = .ok (.iload_n 2, 1) := by decide +kernel
theorem dX10_farm_81 : decode cX10_farm 81 = .ok (.iload_n 3, 1) := by decide +kernel
theorem dX10_farm_82 : decode cX10_farm 82 = .ok (.invokevirtual 106, 3) := by decide +kernel
theorem dX10_farm_85 : decode cX10_farm 85 = .ok (.if_icmp .ge 8, 3) := by decide +kernel
theorem dX10_farm_88 : decode cX10_farm 88 = .ok (.iload 4, 2) := by decide +kernel
theorem dX10_farm_90 : decode cX10_farm 90 = .ok (.goto 4, 3) := by decide +kernel
theorem dX10_farm_93 : decode cX10_farm 93 = .ok (.iload_n 3, 1) := by decide +kernel
theorem dX10_farm_94 : decode cX10_farm 94 = .ok (.istore_n 3, 1) := by decide +kernel
theorem dX10_farm_95 : decode cX10_farm 95 = .ok (.iinc 4 1, 3) := by decide +kernel
theorem dX10_farm_98 : decode cX10_farm 98 = .ok (.goto (-37), 3) := by decide +kernel
theorem dX10_farm_101 : decode cX10_farm 101 = .ok (.aload_n 0, 1) := by decide +kernel
theorem dX10_farm_102 : decode cX10_farm 102 = .ok (.getfield 31, 3) := by decide +kernel
theorem dX10_farm_105 : decode cX10_farm 105 = .ok (.aload_n 0, 1) := by decide +kernel
theorem dX10_farm_106 : decode cX10_farm 106 = .ok (.getfield 88, 3) := by decide +kernel
theorem dX10_farm_109 : decode cX10_farm 109 = .ok (.iload_n 3, 1) := by decide +kernel
theorem dX10_farm_110 : decode cX10_farm 110 = .ok (.iastore, 1) := by decide +kernel
theorem dX10_farm_111 : decode cX10_farm 111 = .ok (.aload_n 0, 1) := by decide +kernel
theorem dX10_farm_112 : decode cX10_farm 112 = .ok (.getfield 34, 3) := by decide +kernel
theorem dX10_farm_115 : decode cX10_farm 115 = .ok (.aload_n 0, 1) := by decide +kernel
theorem dX10_farm_116 : decode cX10_farm 116 = .ok (.getfield 88, 3) := by decide +kernel
theorem dX10_farm_119 : decode cX10_farm 119 = .ok (.bipush 50, 2) := by decide +kernel
theorem dX10_farm_121 : decode cX10_farm 121 = .ok (.iastore, 1) := by decide +kernel
theorem dX10_farm_122 : decode cX10_farm 122 = .ok (.aload_n 0, 1) := by decide +kernel
theorem dX10_farm_123 : decode cX10_farm 123 = .ok (.dup, 1) := by decide +kernel
theorem dX10_farm_124 : decode cX10_farm 124 = .ok (.getfield 88, 3) := by decide +kernel
theorem dX10_farm_127 : decode cX10_farm 127 = .ok (.iconst 1, 1) := by decide +kernel
theorem dX10_farm_128 : decode cX10_farm 128 = .ok (.iadd, 1) := by decide +kernel
theorem dX10_farm_129 : decode cX10_farm 129 = .ok (.putfield 88, 3) := by decide +kernel
theorem dX10_farm_132 : decode cX10_farm 132 = .ok (.aload_n 0, 1) := by decide +kernel
theorem dX10_farm_133 : decode cX10_farm 133 = .ok (.getfield 88, 3) := by decide +kernel
theorem dX10_farm_136 : decode cX10_farm 136 = .ok (.iconst 1, 1) := by decide +kernel
theorem dX10_farm_137 : decode cX10_farm 137 = .ok (.isub, 1) := by decide +kernel
theorem dX10_farm_138 : decode cX10_farm 138 = .ok (.ireturn, 1) := by decide +kernel
set_option maxHeartbeats 1000000 in
set_option maxRecDepth 100000 in
theorem o_farm (de : Nat) (w : Wd) (mo : Nat) (ad : Nat → Nat) (A : Nat → Nat → Int32) (F : Nat → Int32) (L : Int32) (g : Nat → Int32) (hm : RM w mo ad) (xa ya : Int32) (nS nF : Nat) (hS : F 3 = nI nS) (hn5 : nS ≤ 5) (hN : F 17 = nI nF) (hN9 : nF < 100) : Ct yX10_farm cX10_farm 5 (some .int) 1 23 0 0 de [.ref mo, .int xa, .int ya] (M w mo ad A F L g) (fun r w' => (goV (bI (inR xa 0 9 && inR ya 0 9)) (bI (decide (F 17 < 16) && decide (0 < F 3))) 1 = 0 → r = some (.int (F 17)) ∧ ∃ g', w' = M w mo ad (updA (updA A 12 nF (oI (nearS (offV (A 1) (A 2) xa ya) nS))) 13 nF 50) (updF F 17 (F 17 + 1)) 0 g') ∧ (¬ goV (bI (inR xa 0 9 && inR ya 0 9)) (bI (decide (F 17 < 16) && decide (0 < F 3))) 1 = 0 → r = some (.int 0) ∧ w' = M w mo ad A F (goV (bI (inR xa 0 9 && inR ya 0 9)) (bI (decide (F 17 < 16) && decide (0 < F 3))) 1) g)) := by
  refine Ct.mk (by decide +kernel) [(0, .ref mo), (1, .int xa), (2, .int ya)] rfl (Nat.le_of_ble_eq_true rfl) ?_
  intro p l e R s m args below meth c D cy z C hnm
  have loop : nF < 16 → ∀ (k i : Nat), i + 1 + k = nS → G p l e R s m args below meth c D cy z 5 (M w mo ad A F 0 g) 0 0 61 [(0, .ref mo), (1, .int xa), (2, .int ya), (3, .int (oI (nearS (offV (A 1) (A 2) xa ya) (i + 1)))), (4, .int (nI (i + 1)))] [] (QM below args s D cy z (fun r w' => ((0 : Int32) = 0 → r = some (.int (F 17)) ∧ ∃ g', w' = M w mo ad (updA (updA A 12 nF (oI (nearS (offV (A 1) (A 2) xa ya) nS))) 13 nF 50) (updF F 17 (F 17 + 1)) 0 g') ∧ (¬ (0 : Int32) = 0 → r = some (.int 0) ∧ w' = M w mo ad A F ((0 : Int32)) g)) 0 0) := by
    intro hF6
    intro k
    induction k with
    | zero =>
      intro i hik
      have hi9 : nS = i + 1 := by omega
      subst hi9
      refine g_iload C dX10_farm_61 rfl ?_
      refine g_aload_n C dX10_farm_63 rfl ?_
      refine g_getI C cls_11 12 3 hm.1 rfl k_918 dX10_farm_64 ?_
      rw [M_f3]
      rw [hS]
      refine g_icmp_ge C 101 dX10_farm_67 (by decide) (fun c_67 => ?_) (fun c_67 => ?_)
      · refine g_aload_n C dX10_farm_101 rfl ?_
        refine g_getR (b := (ad 12)) C cls_11 12 12 hm.1 (rm_12 hm).1 rfl k_927 dX10_farm_102 ?_
        refine g_aload_n C dX10_farm_105 rfl ?_
        refine g_getI C cls_11 12 17 hm.1 rfl k_932 dX10_farm_106 ?_
        rw [M_f17]
        rw [hN]
        refine g_iload_n C dX10_farm_109 rfl ?_
        refine g_iast C 2120 (rm_12 hm).2.1 rfl (show vp_in (nI (nF)) (aL w (ad 12)) by rw [(rm_12 hm).2.2]; exact nI_vp (show nF < 16 by omega) (by omega)) dX10_farm_110 ?_
        rw [nI_tn (show nF ≤ 100000 by omega), M_p12]
        refine g_aload_n C dX10_farm_111 rfl ?_
        refine g_getR (b := (ad 13)) C cls_11 12 13 hm.1 (rm_13 hm).1 rfl k_928 dX10_farm_112 ?_
        refine g_aload_n C dX10_farm_115 rfl ?_
        refine g_getI C cls_11 12 17 hm.1 rfl k_932 dX10_farm_116 ?_
        rw [M_f17]
        rw [hN]
        refine g_bipush C 50 dX10_farm_119 (by rfl) ?_
        refine g_iast C 2130 (rm_13 hm).2.1 rfl (show vp_in (nI (nF)) (aL w (ad 13)) by rw [(rm_13 hm).2.2]; exact nI_vp (show nF < 16 by omega) (by omega)) dX10_farm_121 ?_
        rw [nI_tn (show nF ≤ 100000 by omega), M_p13]
        refine g_aload_n C dX10_farm_122 rfl ?_
        refine g_dup C dX10_farm_123 rfl ?_
        refine g_getI C cls_11 12 17 hm.1 rfl k_932 dX10_farm_124 ?_
        rw [M_f17]
        rw [hN]
        refine g_iconst C 1 dX10_farm_127 (by rfl) ?_
        refine g_iadd C dX10_farm_128 ?_
        refine g_putI C cls_11 12 17 hm.1 rfl (Or.inl rfl) rfl rfl k_932 dX10_farm_129 ?_
        rw [M_q17]
        refine g_aload_n C dX10_farm_132 rfl ?_
        refine g_getI C cls_11 12 17 hm.1 rfl k_932 dX10_farm_133 ?_
        rw [M_f17]
        refine g_iconst C 1 dX10_farm_136 (by rfl) ?_
        refine g_isub C dX10_farm_137 ?_
        refine g_iret C rfl rfl (by decide) (by decide) dX10_farm_138 ?_
        refine ⟨fun _ => ⟨congrArg (fun v => some (Value.int v)) a11, _, rfl⟩, fun h9 => absurd rfl h9⟩
      · exact absurd (nI_nle_of c_67 (by omega) (by omega)) (by omega)
    | succ k ih =>
      intro i hik
      obtain ⟨j, hj, hnr⟩ := nearS_ex (dist := (offV (A 1) (A 2) xa ya)) i
      rw [show oI (nearS (offV (A 1) (A 2) xa ya) (i + 1)) = nI j by rw [hnr]; rfl]
      refine g_iload C dX10_farm_61 rfl ?_
      refine g_aload_n C dX10_farm_63 rfl ?_
      refine g_getI C cls_11 12 3 hm.1 rfl k_918 dX10_farm_64 ?_
      rw [M_f3]
      rw [hS]
      refine g_icmp_ge C 101 dX10_farm_67 (by decide) (fun c_67 => ?_) (fun c_67 => ?_)
      · exact absurd (nI_le_of c_67 (by omega) (by omega)) (by omega)
      · refine g_cutS (pc' := 94) (.int (oI (nearS (offV (A 1) (A 2) xa ya) (i + 1 + 1)))) ?_ (fun j_94 => ?_)
        · refine g_istore_n C dX10_farm_94 (by decide) ?_
          refine g_iinc C dX10_farm_95 rfl (nI_1 (i + 1)) (by decide) ?_
          refine g_goto C 61 dX10_farm_98 (by decide) ?_
          have h9 := ih (i + 1) (by omega)
          exact g_lv2 [(0, .ref mo), (1, .int xa), (2, .int ya), (3, .int (oI (nearS (offV (A 1) (A 2) xa ya) ((i + 1) + 1)))), (4, .int (nI ((i + 1) + 1)))] rfl h9
        · refine g_aload_n C dX10_farm_70 rfl ?_
          refine g_iload_n C dX10_farm_71 rfl ?_
          refine g_iload_n C dX10_farm_72 rfl ?_
          refine g_iload C dX10_farm_73 rfl ?_
          refine g_callV C cls_11 12 mt_X10_off [.int xa, .int ya, .int (nI (i + 1))] (m_off de w mo ad A F 0 g hm xa ya (i + 1) (by omega)) hm.1 (by decide) k_1045 rfl rfl (Nat.le_of_ble_eq_true rfl) (by decide) (by decide) (by decide) (by decide) dX10_farm_75 (fun r_75 w_75 hp_75 => ?_)
          obtain ⟨rfl, rfl⟩ := hp_75
          refine g_aload_n C dX10_farm_78 rfl ?_
          refine g_iload_n C dX10_farm_79 rfl ?_
          refine g_iload_n C dX10_farm_80 rfl ?_
          refine g_iload_n C dX10_farm_81 rfl ?_
          refine g_callV C cls_11 12 mt_X10_off [.int xa, .int ya, .int (nI j)] (m_off de w mo ad A F 0 g hm xa ya j (by omega)) hm.1 (by decide) k_1045 rfl rfl (Nat.le_of_ble_eq_true rfl) (by decide) (by decide) (by decide) (by decide) dX10_farm_82 (fun r_82 w_82 hp_82 => ?_)
          obtain ⟨rfl, rfl⟩ := hp_82
          refine g_icmp_ge C 93 dX10_farm_85 (by decide) (fun c_85 => ?_) (fun c_85 => ?_)
          · refine g_iload_n C dX10_farm_93 rfl ?_
            exact g_eq rfl (congrArg (fun v => Value.int v :: _) (by first | (rw [nearS_2 hnr (Int32.not_le.mp c_85)]; rfl) | (rw [nearS_3 hnr (Int32.not_lt.mpr c_85)]; rfl))) rfl j_94
          · refine g_iload C dX10_farm_88 rfl ?_
            refine g_goto C 94 dX10_farm_90 (by decide) ?_
            exact g_eq rfl (congrArg (fun v => Value.int v :: _) (by first | (rw [nearS_2 hnr (Int32.not_le.mp c_85)]; rfl) | (rw [nearS_3 hnr (Int32.not_lt.mpr c_85)]; rfl))) rfl j_94
  refine g_aload_n C dX10_farm_0 rfl ?_
  refine g_cutS (pc' := 26) (.int (bI (inR xa 0 9 && inR ya 0 9))) ?_ (fun j_26 => ?_)
  · refine g_cutS (pc' := 47) (.int (bI (decide (F 17 < 16) && decide (0 < F 3)))) ?_ (fun j_47 => ?_)
    · refine g_iconst C 1 dX10_farm_47 (by rfl) ?_
      refine g_callV C cls_11 12 mt_X10_goes [.int (bI (inR xa 0 9 && inR ya 0 9)), .int (bI (decide (F 17 < 16) && decide (0 < F 3))), .int 1] (m_goes de w mo ad A F L g hm (bI (inR xa 0 9 && inR ya 0 9)) (bI (decide (F 17 < 16) && decide (0 < F 3))) 1) hm.1 (by decide) k_1017 rfl rfl (Nat.le_of_ble_eq_true rfl) (by decide) (by decide) (by decide) (by decide) dX10_farm_48 (fun r_48 w_48 hp_48 => ?_)
      obtain ⟨rfl, rfl⟩ := hp_48
      refine g_if_ne C 56 dX10_farm_51 (by decide) (fun c_51 => ?_) (fun c_51 => ?_)
      · have b_51 := bI_n0.mp c_51
        have hg := of_decide_eq_true b_51
        rw [hg]
        obtain ⟨ha9, hb9⟩ := goV_01 hg
        have hn := nI_lt_of (b := 16) (hN ▸ of_decide_eq_true (band hb9).1) (by omega) (by omega)
        have hn1 := nI_lt_of (a := 0) (hS ▸ of_decide_eq_true (band hb9).2) (by omega) (by omega)
        refine g_iconst C 0 dX10_farm_56 (by rfl) ?_
        refine g_istore_n C dX10_farm_57 (by decide) ?_
        refine g_iconst C 1 dX10_farm_58 (by rfl) ?_
        refine g_istore C dX10_farm_59 (by decide) ?_
        exact g_lv2 [(0, .ref mo), (1, .int xa), (2, .int ya), (3, .int (oI (nearS (offV (A 1) (A 2) xa ya) (0 + 1)))), (4, .int (nI (0 + 1)))] rfl (loop hn (nS - 1) 0 (by omega))
      · have b_51 := bI_0.mp c_51
        have hg := of_decide_eq_false b_51
        refine g_iconst C 0 dX10_farm_54 (by rfl) ?_
        refine g_iret C rfl rfl (by decide) (by decide) dX10_farm_55 ?_
        first
        | exact ⟨fun h9 => absurd h9 hg, fun _ => ⟨rfl, rfl⟩⟩
        | (refine ⟨fun _ => ⟨?_, _, rfl⟩, fun h9 => absurd rfl h9⟩; exact congrArg (fun v => some (Value.int v)) (rfl))
    · refine g_aload_n C dX10_farm_26 rfl ?_
      refine g_getI C cls_11 12 17 hm.1 rfl k_932 dX10_farm_27 ?_
      rw [M_f17]
      refine g_bipush C 16 dX10_farm_30 (by rfl) ?_
      refine g_icmp_ge C 46 dX10_farm_32 (by decide) (fun c_32 => ?_) (fun c_32 => ?_)
      · have b_32 := And.intro (decide_eq_false (Int32.not_lt.mpr c_32)) (decide_eq_true c_32)
        refine g_iconst C 0 dX10_farm_46 (by rfl) ?_
        exact g_eq rfl (congrArg (fun v => Value.int v :: _) (by first | rfl | (simp only [b_32]; done) | (simp only [b_32]; rfl) | (simp [b_32, bI]; done))) rfl j_47
      · have b_32 := And.intro (decide_eq_true (Int32.not_le.mp c_32)) (decide_eq_false c_32)
        refine g_aload_n C dX10_farm_35 rfl ?_
        refine g_getI C cls_11 12 3 hm.1 rfl k_918 dX10_farm_36 ?_
        rw [M_f3]
        refine g_if_le C 46 dX10_farm_39 (by decide) (fun c_39 => ?_) (fun c_39 => ?_)
        · have b_39 := And.intro (decide_eq_false (Int32.not_lt.mpr c_39)) (decide_eq_true c_39)
          refine g_iconst C 0 dX10_farm_46 (by rfl) ?_
          exact g_eq rfl (congrArg (fun v => Value.int v :: _) (by first | rfl | (simp only [b_32, b_39]; done) | (simp only [b_32, b_39]; rfl) | (simp [b_32, b_39, bI]; done))) rfl j_47
        · have b_39 := And.intro (decide_eq_true (Int32.not_le.mp c_39)) (decide_eq_false c_39)
          refine g_iconst C 1 dX10_farm_42 (by rfl) ?_
          refine g_goto C 47 dX10_farm_43 (by decide) ?_
          exact g_eq rfl (congrArg (fun v => Value.int v :: _) (by first | rfl | (simp only [b_32, b_39]; done) | (simp only [b_32, b_39]; rfl) | (simp [b_32, b_39, bI]; done))) rfl j_47
  · refine g_iload_n C dX10_farm_1 rfl ?_
    refine g_iconst C 0 dX10_farm_2 (by rfl) ?_
    refine g_bipush C 9 dX10_farm_3 (by rfl) ?_
    refine g_callS C mt_X10_in [.int xa, .int 0, .int 9] (c_X10_in de _ xa 0 9) k_1014 rfl rfl (Nat.le_of_ble_eq_true rfl) (by decide) (by decide) (by decide) (by decide) dX10_farm_5 (fun r_5 w_5 hp_5 => ?_)
    obtain ⟨rfl, rfl⟩ := hp_5
    refine g_if_eq C 25 dX10_farm_8 (by decide) (fun c_8 => ?_) (fun c_8 => ?_)
    · have b_8 := bI_0.mp c_8
      refine g_iconst C 0 dX10_farm_25 (by rfl) ?_
      exact g_eq rfl (congrArg (fun v => Value.int v :: _) (by first | rfl | (simp only [b_8]; done) | (simp only [b_8]; rfl) | (simp [b_8, bI]; done))) rfl j_26
    · have b_8 := bI_n0.mp c_8
      refine g_iload_n C dX10_farm_11 rfl ?_
      refine g_iconst C 0 dX10_farm_12 (by rfl) ?_
      refine g_bipush C 9 dX10_farm_13 (by rfl) ?_
      refine g_callS C mt_X10_in [.int ya, .int 0, .int 9] (c_X10_in de _ ya 0 9) k_1014 rfl rfl (Nat.le_of_ble_eq_true rfl) (by decide) (by decide) (by decide) (by decide) dX10_farm_15 (fun r_15 w_15 hp_15 => ?_)
      obtain ⟨rfl, rfl⟩ := hp_15
      refine g_if_eq C 25 dX10_farm_18 (by decide) (fun c_18 => ?_) (fun c_18 => ?_)
      · have b_18 := bI_0.mp c_18
        refine g_iconst C 0 dX10_farm_25 (by rfl) ?_
        exact g_eq rfl (congrArg (fun v => Value.int v :: _) (by first | rfl | (simp only [b_8, b_18]; done) | (simp only [b_8, b_18]; rfl) | (simp [b_8, b_18, bI]; done))) rfl j_26
      · have b_18 := bI_n0.mp c_18
        refine g_iconst C 1 dX10_farm_21 (by rfl) ?_
        refine g_goto C 26 dX10_farm_22 (by decide) ?_
        exact g_eq rfl (congrArg (fun v => Value.int v :: _) (by first | rfl | (simp only [b_8, b_18]; done) | (simp only [b_8, b_18]; rfl) | (simp [b_8, b_18, bI]; done))) rfl j_26
theorem dX10_filled_0 : decode cX10_filled 0 = .ok (.iload_n 2, 1) := by decide +kernel
theorem dX10_filled_1 : decode cX10_filled 1 = .ok (.iconst 0, 1) := by decide +kernel
theorem dX10_filled_2 : decode cX10_filled 2 = .ok (.sipush 1199, 3) := by decide +kernel
theorem dX10_filled_5 : decode cX10_filled 5 = .ok (.invokestatic 81, 3) := by decide +kernel
theorem dX10_filled_8 : decode cX10_filled 8 = .ok (.ifCond .eq 16, 3) := by decide +kernel
theorem dX10_filled_11 : decode cX10_filled 11 = .ok (.iload_n 3, 1) := by decide +kernel
theorem dX10_filled_12 : decode cX10_filled 12 = .ok (.iconst 0, 1) := by decide +kernel
theorem dX10_filled_13 : decode cX10_filled 13 = .ok (.iconst 1, 1) := by decide +kernel
theorem dX10_filled_14 : decode cX10_filled 14 = .ok (.invokestatic 81, 3) := by decide +kernel
theorem dX10_filled_17 : decode cX10_filled 17 = .ok (.ifCond .eq 7, 3) := by decide +kernel
theorem dX10_filled_20 : decode cX10_filled 20 = .ok (.iconst 1, 1) := by decide +kernel
theorem dX10_filled_21 : decode cX10_filled 21 = .ok (.goto 4, 3) := by decide +kernel
theorem dX10_filled_24 : decode cX10_filled 24 = .ok (.iconst 0, 1) := by decide +kernel
theorem dX10_filled_25 : decode cX10_filled 25 = .ok (.istore 4, 2) := by decide +kernel
theorem dX10_filled_27 : decode cX10_filled 27 = .ok (.aload_n 0, 1) := by decide +kernel
theorem dX10_filled_28 : decode cX10_filled 28 = .ok (.aload_n 0, 1) := by decide +kernel
theorem dX10_filled_29 : decode cX10_filled 29 = .ok (.iload_n 1, 1) := by decide +kernel
theorem dX10_filled_30 : decode cX10_filled 30 = .ok (.invokevirtual 99, 3) := by decide +kernel
theorem dX10_filled_33 : decode cX10_filled 33 = .ok (.iload 4, 2) := by decide +kernel
theorem dX10_filled_35 : decode cX10_filled 35 = .ok (.iconst 1, 1) := by decide +kernel
theorem dX10_filled_36 : decode cX10_filled 36 = .ok (.invokevirtual 95, 3) := by decide +kernel
theorem dX10_filled_39 : decode cX10_filled 39 = .ok (.ifCond .eq 13, 3) := by decide +kernel
theorem dX10_filled_42 : decode cX10_filled 42 = .ok (.aload_n 0, 1) := by decide +kernel
theorem dX10_filled_43 : decode cX10_filled 43 = .ok (.iload_n 1, 1) := by decide +kernel
theorem dX10_filled_44 : decode cX10_filled 44 = .ok (.iload_n 2, 1) := by decide +kernel
theorem dX10_filled_45 : decode cX10_filled 45 = .ok (.iload_n 3, 1) := by decide +kernel
theorem dX10_filled_46 : decode cX10_filled 46 = .ok (.invokevirtual 110, 3) := by decide +kernel
theorem dX10_filled_49 : decode cX10_filled 49 = .ok (.goto 4, 3) := by decide +kernel
theorem dX10_filled_52 : decode cX10_filled 52 = .ok (.iconst 0, 1) := by decide +kernel
theorem dX10_filled_53 : decode cX10_filled 53 = .ok (.ireturn, 1) := by decide +kernel
set_option maxHeartbeats 1000000 in
set_option maxRecDepth 100000 in
theorem o_filled (de : Nat) (w : Wd) (mo : Nat) (ad : Nat → Nat) (A : Nat → Nat → Int32) (F : Nat → Int32) (L : Int32) (g : Nat → Int32) (hm : RM w mo ad) (xs xd kn : Int32) (nS s0 : Nat) (hS : F 3 = nI nS) (hn5 : nS ≤ 5) (hst : inR xs 0 (F 3 - 1) = true → xs = nI s0 ∧ s0 < nS) (d : Nat) (hdd : inR xd 0 1199 = true → xd = nI d ∧ d < 1200) : Ct yX10_filled cX10_filled 5 (some .int) 2 50 0 0 de [.ref mo, .int xs, .int xd, .int kn] (M w mo ad A F L g) (fun r w' => (goV (bI (inR xs 0 (F 3 - 1))) (bI (inR xd 0 1199 && inR kn 0 1)) 1 = 0 → r = some (.int (rrV nS (A 1) (A 2) (A 4) (A 5) kn d s0)) ∧ ∃ g', w' = M w mo ad (A) (F) 0 g') ∧ (¬ goV (bI (inR xs 0 (F 3 - 1))) (bI (inR xd 0 1199 && inR kn 0 1)) 1 = 0 → r = some (.int 0) ∧ w' = M w mo ad A F (goV (bI (inR xs 0 (F 3 - 1))) (bI (inR xd 0 1199 && inR kn 0 1)) 1) g)) := by
  refine Ct.mk (by decide +kernel) [(0, .ref mo), (1, .int xs), (2, .int xd), (3, .int kn)] rfl (Nat.le_of_ble_eq_true rfl) ?_
  intro p l e R s m args below meth c D cy z C hnm
  refine g_cutS (pc' := 25) (.int (bI (inR xd 0 1199 && inR kn 0 1))) ?_ (fun j_25 => ?_)
  · refine g_istore C dX10_filled_25 (by decide) ?_
    refine g_aload_n C dX10_filled_27 rfl ?_
    refine g_aload_n C dX10_filled_28 rfl ?_
    refine g_iload_n C dX10_filled_29 rfl ?_
    refine g_callV C cls_11 12 mt_X10_isStation [.int xs] (m_isStation de w mo ad A F L g hm xs) hm.1 (by decide) k_1025 rfl rfl (Nat.le_of_ble_eq_true rfl) (by decide) (by decide) (by decide) (by decide) dX10_filled_30 (fun r_30 w_30 hp_30 => ?_)
    obtain ⟨rfl, rfl⟩ := hp_30
    refine g_iload C dX10_filled_33 rfl ?_
    refine g_iconst C 1 dX10_filled_35 (by rfl) ?_
    refine g_callV C cls_11 12 mt_X10_goes [.int (bI (inR xs 0 (F 3 - 1))), .int (bI (inR xd 0 1199 && inR kn 0 1)), .int 1] (m_goes de w mo ad A F L g hm (bI (inR xs 0 (F 3 - 1))) (bI (inR xd 0 1199 && inR kn 0 1)) 1) hm.1 (by decide) k_1017 rfl rfl (Nat.le_of_ble_eq_true rfl) (by decide) (by decide) (by decide) (by decide) dX10_filled_36 (fun r_36 w_36 hp_36 => ?_)
    obtain ⟨rfl, rfl⟩ := hp_36
    refine g_if_eq C 52 dX10_filled_39 (by decide) (fun c_39 => ?_) (fun c_39 => ?_)
    · have b_39 := bI_0.mp c_39
      have hg := of_decide_eq_false b_39
      refine g_iconst C 0 dX10_filled_52 (by rfl) ?_
      refine g_iret C rfl rfl (by decide) (by decide) dX10_filled_53 ?_
      first
      | exact ⟨fun h9 => absurd h9 hg, fun _ => ⟨rfl, rfl⟩⟩
      | (refine ⟨fun _ => ⟨?_, _, rfl⟩, fun h9 => absurd rfl h9⟩; exact congrArg (fun v => some (Value.int v)) (rfl))
    · have b_39 := bI_n0.mp c_39
      have hg := of_decide_eq_true b_39
      rw [hg]
      obtain ⟨ha9, hb9⟩ := goV_01 hg
      obtain ⟨rfl, hs5⟩ := hst ha9
      obtain ⟨rfl, hd5⟩ := hdd (band hb9).1
      refine g_aload_n C dX10_filled_42 rfl ?_
      refine g_iload_n C dX10_filled_43 rfl ?_
      refine g_iload_n C dX10_filled_44 rfl ?_
      refine g_iload_n C dX10_filled_45 rfl ?_
      refine g_callV C cls_11 12 mt_X10_rainOn [.int (nI s0), .int (nI d), .int kn] (m_rainOn de w mo ad A F 0 g hm nS s0 d kn hS hn5 hs5 hd5) hm.1 (by decide) k_1041 rfl rfl (Nat.le_of_ble_eq_true rfl) (by decide) (by decide) (by decide) (by decide) dX10_filled_46 (fun r_46 w_46 hp_46 => ?_)
      obtain ⟨rfl, rfl⟩ := hp_46
      refine g_goto C 53 dX10_filled_49 (by decide) ?_
      refine g_iret C rfl rfl (by decide) (by decide) dX10_filled_53 ?_
      first
      | exact ⟨fun h9 => absurd h9 hg, fun _ => ⟨rfl, rfl⟩⟩
      | (refine ⟨fun _ => ⟨?_, _, rfl⟩, fun h9 => absurd rfl h9⟩; exact congrArg (fun v => some (Value.int v)) (rfl))
  · refine g_iload_n C dX10_filled_0 rfl ?_
    refine g_iconst C 0 dX10_filled_1 (by rfl) ?_
    refine g_sipush C 1199 dX10_filled_2 (by rfl) ?_
    refine g_callS C mt_X10_in [.int xd, .int 0, .int 1199] (c_X10_in de _ xd 0 1199) k_1014 rfl rfl (Nat.le_of_ble_eq_true rfl) (by decide) (by decide) (by decide) (by decide) dX10_filled_5 (fun r_5 w_5 hp_5 => ?_)
    obtain ⟨rfl, rfl⟩ := hp_5
    refine g_if_eq C 24 dX10_filled_8 (by decide) (fun c_8 => ?_) (fun c_8 => ?_)
    · have b_8 := bI_0.mp c_8
      refine g_iconst C 0 dX10_filled_24 (by rfl) ?_
      exact g_eq rfl (congrArg (fun v => Value.int v :: _) (by first | rfl | (simp only [b_8]; done) | (simp only [b_8]; rfl) | (simp [b_8, bI]; done))) rfl j_25
    · have b_8 := bI_n0.mp c_8
      refine g_iload_n C dX10_filled_11 rfl ?_
      refine g_iconst C 0 dX10_filled_12 (by rfl) ?_
      refine g_iconst C 1 dX10_filled_13 (by rfl) ?_
      refine g_callS C mt_X10_in [.int kn, .int 0, .int 1] (c_X10_in de _ kn 0 1) k_1014 rfl rfl (Nat.le_of_ble_eq_true rfl) (by decide) (by decide) (by decide) (by decide) dX10_filled_14 (fun r_14 w_14 hp_14 => ?_)
      obtain ⟨rfl, rfl⟩ := hp_14
      refine g_if_eq C 24 dX10_filled_17 (by decide) (fun c_17 => ?_) (fun c_17 => ?_)
      · have b_17 := bI_0.mp c_17
        refine g_iconst C 0 dX10_filled_24 (by rfl) ?_
        exact g_eq rfl (congrArg (fun v => Value.int v :: _) (by first | rfl | (simp only [b_8, b_17]; done) | (simp only [b_8, b_17]; rfl) | (simp [b_8, b_17, bI]; done))) rfl j_25
      · have b_17 := bI_n0.mp c_17
        refine g_iconst C 1 dX10_filled_20 (by rfl) ?_
        refine g_goto C 25 dX10_filled_21 (by decide) ?_
        exact g_eq rfl (congrArg (fun v => Value.int v :: _) (by first | rfl | (simp only [b_8, b_17]; done) | (simp only [b_8, b_17]; rfl) | (simp [b_8, b_17, bI]; done))) rfl j_25
theorem dX10_onset_0 : decode cX10_onset 0 = .ok (.aload_n 0, 1) := by decide +kernel
theorem dX10_onset_1 : decode cX10_onset 1 = .ok (.aload_n 0, 1) := by decide +kernel
theorem dX10_onset_2 : decode cX10_onset 2 = .ok (.iload_n 1, 1) := by decide +kernel
theorem dX10_onset_3 : decode cX10_onset 3 = .ok (.invokevirtual 99, 3) := by decide +kernel
theorem dX10_onset_6 : decode cX10_onset 6 = .ok (.ifCond .eq 14, 3) := by decide +kernel
theorem dX10_onset_9 : decode cX10_onset 9 = .ok (.iload_n 2, 1) := by decide +kernel
theorem dX10_onset_10 : decode cX10_onset 10 = .ok (.invokestatic 116, 3) := by decide +kernel
theorem dX10_onset_13 : decode cX10_onset 13 = .ok (.ifCond .eq 7, 3) := by decide +kernel
theorem dX10_onset_16 : decode cX10_onset 16 = .ok (.iconst 1, 1) := by decide +kernel
theorem dX10_onset_17 : decode cX10_onset 17 = .ok (.goto 4, 3) := by decide +kernel
theorem dX10_onset_20 : decode cX10_onset 20 = .ok (.iconst 0, 1) := by decide +kernel
theorem dX10_onset_21 : decode cX10_onset 21 = .ok (.iload_n 3, 1) := by decide +kernel
theorem dX10_onset_22 : decode cX10_onset 22 = .ok (.iconst 0, 1) := by decide +kernel
theorem dX10_onset_23 : decode cX10_onset 23 = .ok (.iconst 1, 1) := by decide +kernel
theorem dX10_onset_24 : decode cX10_onset 24 = .ok (.invokestatic 81, 3) := by decide +kernel
theorem dX10_onset_27 : decode cX10_onset 27 = .ok (.iconst 1, 1) := by decide +kernel
theorem dX10_onset_28 : decode cX10_onset 28 = .ok (.invokevirtual 95, 3) := by decide +kernel
theorem dX10_onset_31 : decode cX10_onset 31 = .ok (.ifCond .ne 5, 3) := by decide +kernel
theorem dX10_onset_34 : decode cX10_onset 34 = .ok (.iconst 0, 1) := by decide +kernel
theorem dX10_onset_35 : decode cX10_onset 35 = .ok (.ireturn, 1) := by decide +kernel
theorem dX10_onset_36 : decode cX10_onset 36 = .ok (.aload_n 0, 1) := by decide +kernel
theorem dX10_onset_37 : decode cX10_onset 37 = .ok (.iload_n 1, 1) := by decide +kernel
theorem dX10_onset_38 : decode cX10_onset 38 = .ok (.iload_n 2, 1) := by decide +kernel
theorem dX10_onset_39 : decode cX10_onset 39 = .ok (.iload_n 3, 1) := by decide +kernel
theorem dX10_onset_40 : decode cX10_onset 40 = .ok (.invokevirtual 119, 3) := by decide +kernel
theorem dX10_onset_43 : decode cX10_onset 43 = .ok (.aload_n 0, 1) := by decide +kernel
theorem dX10_onset_44 : decode cX10_onset 44 = .ok (.invokevirtual 123, 3) := by decide +kernel
theorem dX10_onset_47 : decode cX10_onset 47 = .ok (.iconst (-1), 1) := by decide +kernel
theorem dX10_onset_48 : decode cX10_onset 48 = .ok (.if_icmp .ne 7, 3) := by decide +kernel
theorem dX10_onset_51 : decode cX10_onset 51 = .ok (.iconst (-1), 1) := by decide +kernel
theorem dX10_onset_52 : decode cX10_onset 52 = .ok (.goto 12, 3) := by decide +kernel
theorem dX10_onset_55 : decode cX10_onset 55 = .ok (.bipush 60, 2) := by decide +kernel
theorem dX10_onset_57 : decode cX10_onset 57 = .ok (.iload_n 2, 1) := by decide +kernel
theorem dX10_onset_58 : decode cX10_onset 58 = .ok (.imul, 1) := by decide +kernel
theorem dX10_onset_59 : decode cX10_onset 59 = .ok (.aload_n 0, 1) := by decide +kernel
theorem dX10_onset_60 : decode cX10_onset 60 = .ok (.invokevirtual 123, 3) := by decide +kernel
theorem dX10_onset_63 : decode cX10_onset 63 = .ok (.iadd, 1) := by decide +kernel
theorem dX10_onset_64 : decode cX10_onset 64 = .ok (.ireturn, 1) := by decide +kernel
set_option maxHeartbeats 1000000 in
set_option maxRecDepth 100000 in
theorem o_onset (de : Nat) (w : Wd) (mo : Nat) (ad : Nat → Nat) (A : Nat → Nat → Int32) (F : Nat → Int32) (L : Int32) (g : Nat → Int32) (hm : RM w mo ad) (xs xe kn : Int32) (nS s0 : Nat) (hS : F 3 = nI nS) (hn5 : nS ≤ 5) (hst : inR xs 0 (F 3 - 1) = true → xs = nI s0 ∧ s0 < nS) (se : Nat) (hse : inR xe 0 19 = true → xe = nI se ∧ se < 20) : Ct yX10_onset cX10_onset 4 (some .int) 3 74 0 0 de [.ref mo, .int xs, .int xe, .int kn] (M w mo ad A F L g) (fun r w' => (goV (bI (inR xs 0 (F 3 - 1) && inR xe 0 19)) (bI (inR kn 0 1)) 1 = 0 → r = some (.int (if oI (begO (rowA A nS kn se s0) 58) = -1 then -1 else 60 * nI se + oI (begO (rowA A nS kn se s0) 58))) ∧ ∃ g', w' = M w mo ad (A) (F) 0 g') ∧ (¬ goV (bI (inR xs 0 (F 3 - 1) && inR xe 0 19)) (bI (inR kn 0 1)) 1 = 0 → r = some (.int 0) ∧ w' = M w mo ad A F (goV (bI (inR xs 0 (F 3 - 1) && inR xe 0 19)) (bI (inR kn 0 1)) 1) g)) := by
  refine Ct.mk (by decide +kernel) [(0, .ref mo), (1, .int xs), (2, .int xe), (3, .int kn)] rfl (Nat.le_of_ble_eq_true rfl) ?_
  intro p l e R s m args below meth c D cy z C hnm
  refine g_aload_n C dX10_onset_0 rfl ?_
  refine g_cutS (pc' := 21) (.int (bI (inR xs 0 (F 3 - 1) && inR xe 0 19))) ?_ (fun j_21 => ?_)
  · refine g_iload_n C dX10_onset_21 rfl ?_
    refine g_iconst C 0 dX10_onset_22 (by rfl) ?_
    refine g_iconst C 1 dX10_onset_23 (by rfl) ?_
    refine g_callS C mt_X10_in [.int kn, .int 0, .int 1] (c_X10_in de _ kn 0 1) k_1014 rfl rfl (Nat.le_of_ble_eq_true rfl) (by decide) (by decide) (by decide) (by decide) dX10_onset_24 (fun r_24 w_24 hp_24 => ?_)
    obtain ⟨rfl, rfl⟩ := hp_24
    refine g_iconst C 1 dX10_onset_27 (by rfl) ?_
    refine g_callV C cls_11 12 mt_X10_goes [.int (bI (inR xs 0 (F 3 - 1) && inR xe 0 19)), .int (bI (inR kn 0 1)), .int 1] (m_goes de w mo ad A F L g hm (bI (inR xs 0 (F 3 - 1) && inR xe 0 19)) (bI (inR kn 0 1)) 1) hm.1 (by decide) k_1017 rfl rfl (Nat.le_of_ble_eq_true rfl) (by decide) (by decide) (by decide) (by decide) dX10_onset_28 (fun r_28 w_28 hp_28 => ?_)
    obtain ⟨rfl, rfl⟩ := hp_28
    refine g_if_ne C 36 dX10_onset_31 (by decide) (fun c_31 => ?_) (fun c_31 => ?_)
    · have b_31 := bI_n0.mp c_31
      have hg := of_decide_eq_true b_31
      rw [hg]
      obtain ⟨ha9, hb9⟩ := goV_01 hg
      obtain ⟨rfl, hs5⟩ := hst (band ha9).1
      obtain ⟨rfl, he5⟩ := hse (band ha9).2
      refine g_aload_n C dX10_onset_36 rfl ?_
      refine g_iload_n C dX10_onset_37 rfl ?_
      refine g_iload_n C dX10_onset_38 rfl ?_
      refine g_iload_n C dX10_onset_39 rfl ?_
      refine g_callV C cls_11 12 mt_X10_lays [.int (nI s0), .int (nI se), .int kn] (m_lays de w mo ad A F 0 g hm nS s0 se kn hS hn5 hs5 he5) hm.1 (by decide) k_1056 rfl rfl (Nat.le_of_ble_eq_true rfl) (by decide) (by decide) (by decide) (by decide) dX10_onset_40 (fun r_40 w_40 hp_40 => ?_)
      obtain ⟨rfl, g1, rfl, hg1⟩ := hp_40
      refine g_aload_n C dX10_onset_43 rfl ?_
      refine g_callV C cls_11 12 mt_X10_beginning [] (m_beginning de w mo ad A F 0 g1 hm) hm.1 (by decide) k_1060 rfl rfl (Nat.le_of_ble_eq_true rfl) (by decide) (by decide) (by decide) (by decide) dX10_onset_44 (fun r_44 w_44 hp_44 => ?_)
      obtain ⟨rfl, rfl⟩ := hp_44
      rw [begO_congr hg1 58 (by omega)]
      refine g_iconst C (-1) dX10_onset_47 (by rfl) ?_
      refine g_icmp_ne C 55 dX10_onset_48 (by decide) (fun c_48 => ?_) (fun c_48 => ?_)
      · have b_48 := decide_eq_false c_48
        refine g_bipush C 60 dX10_onset_55 (by rfl) ?_
        refine g_iload_n C dX10_onset_57 rfl ?_
        refine g_imul C dX10_onset_58 ?_
        refine g_aload_n C dX10_onset_59 rfl ?_
        refine g_callV C cls_11 12 mt_X10_beginning [] (m_beginning de w mo ad A F 0 g1 hm) hm.1 (by decide) k_1060 rfl rfl (Nat.le_of_ble_eq_true rfl) (by decide) (by decide) (by decide) (by decide) dX10_onset_60 (fun r_60 w_60 hp_60 => ?_)
        obtain ⟨rfl, rfl⟩ := hp_60
        rw [begO_congr hg1 58 (by omega)]
        refine g_iadd C dX10_onset_63 ?_
        refine g_iret C rfl rfl (by decide) (by decide) dX10_onset_64 ?_
        first
        | exact ⟨fun h9 => absurd h9 hg, fun _ => ⟨rfl, rfl⟩⟩
        | (refine ⟨fun _ => ⟨?_, _, rfl⟩, fun h9 => absurd rfl h9⟩; exact congrArg (fun v => some (Value.int v)) (by first | exact (if_pos c_48).symm | exact (if_neg c_48).symm))
      · have b_48 := decide_eq_true c_48
        refine g_iconst C (-1) dX10_onset_51 (by rfl) ?_
        refine g_goto C 64 dX10_onset_52 (by decide) ?_
        refine g_iret C rfl rfl (by decide) (by decide) dX10_onset_64 ?_
        first
        | exact ⟨fun h9 => absurd h9 hg, fun _ => ⟨rfl, rfl⟩⟩
        | (refine ⟨fun _ => ⟨?_, _, rfl⟩, fun h9 => absurd rfl h9⟩; exact congrArg (fun v => some (Value.int v)) (by first | exact (if_pos c_48).symm | exact (if_neg c_48).symm))
    · have b_31 := bI_0.mp c_31
      have hg := of_decide_eq_false b_31
      refine g_iconst C 0 dX10_onset_34 (by rfl) ?_
      refine g_iret C rfl rfl (by decide) (by decide) dX10_onset_35 ?_
      first
      | exact ⟨fun h9 => absurd h9 hg, fun _ => ⟨rfl, rfl⟩⟩
      | (refine ⟨fun _ => ⟨?_, _, rfl⟩, fun h9 => absurd rfl h9⟩; exact congrArg (fun v => some (Value.int v)) (by first | exact (if_pos c_48).symm | exact (if_neg c_48).symm))
  · refine g_aload_n C dX10_onset_1 rfl ?_
    refine g_iload_n C dX10_onset_2 rfl ?_
    refine g_callV C cls_11 12 mt_X10_isStation [.int xs] (m_isStation de w mo ad A F L g hm xs) hm.1 (by decide) k_1025 rfl rfl (Nat.le_of_ble_eq_true rfl) (by decide) (by decide) (by decide) (by decide) dX10_onset_3 (fun r_3 w_3 hp_3 => ?_)
    obtain ⟨rfl, rfl⟩ := hp_3
    refine g_if_eq C 20 dX10_onset_6 (by decide) (fun c_6 => ?_) (fun c_6 => ?_)
    · have b_6 := bI_0.mp c_6
      refine g_iconst C 0 dX10_onset_20 (by rfl) ?_
      exact g_eq rfl (congrArg (fun v => Value.int v :: _) (by first | rfl | (simp only [b_6]; done) | (simp only [b_6]; rfl) | (simp [b_6, bI]; done))) rfl j_21
    · have b_6 := bI_n0.mp c_6
      refine g_iload_n C dX10_onset_9 rfl ?_
      refine g_callS C mt_X10_isSeason [.int xe] (c_X10_isSeason de _ xe) k_1053 rfl rfl (Nat.le_of_ble_eq_true rfl) (by decide) (by decide) (by decide) (by decide) dX10_onset_10 (fun r_10 w_10 hp_10 => ?_)
      obtain ⟨rfl, rfl⟩ := hp_10
      refine g_if_eq C 20 dX10_onset_13 (by decide) (fun c_13 => ?_) (fun c_13 => ?_)
      · have b_13 := bI_0.mp c_13
        refine g_iconst C 0 dX10_onset_20 (by rfl) ?_
        exact g_eq rfl (congrArg (fun v => Value.int v :: _) (by first | rfl | (simp only [b_6, b_13]; done) | (simp only [b_6, b_13]; rfl) | (simp [b_6, b_13, bI]; done))) rfl j_21
      · have b_13 := bI_n0.mp c_13
        refine g_iconst C 1 dX10_onset_16 (by rfl) ?_
        refine g_goto C 21 dX10_onset_17 (by decide) ?_
        exact g_eq rfl (congrArg (fun v => Value.int v :: _) (by first | rfl | (simp only [b_6, b_13]; done) | (simp only [b_6, b_13]; rfl) | (simp [b_6, b_13, bI]; done))) rfl j_21
theorem dX10_index_0 : decode cX10_index 0 = .ok (.aload_n 0, 1) := by decide +kernel
theorem dX10_index_1 : decode cX10_index 1 = .ok (.iload_n 1, 1) := by decide +kernel
theorem dX10_index_2 : decode cX10_index 2 = .ok (.invokevirtual 99, 3) := by decide +kernel
theorem dX10_index_5 : decode cX10_index 5 = .ok (.ifCond .eq 51, 3) := by decide +kernel
theorem dX10_index_8 : decode cX10_index 8 = .ok (.iload_n 2, 1) := by decide +kernel
theorem dX10_index_9 : decode cX10_index 9 = .ok (.invokestatic 116, 3) := by decide +kernel
theorem dX10_index_12 : decode cX10_index 12 = .ok (.ifCond .eq 44, 3) := by decide +kernel
theorem dX10_index_15 : decode cX10_index 15 = .ok (.aload_n 0, 1) := by decide +kernel
theorem dX10_index_16 : decode cX10_index 16 = .ok (.iload_n 3, 1) := by decide +kernel
theorem dX10_index_17 : decode cX10_index 17 = .ok (.invokevirtual 140, 3) := by decide +kernel
theorem dX10_index_20 : decode cX10_index 20 = .ok (.ifCond .eq 36, 3) := by decide +kernel
theorem dX10_index_23 : decode cX10_index 23 = .ok (.iload 4, 2) := by decide +kernel
theorem dX10_index_25 : decode cX10_index 25 = .ok (.iconst 0, 1) := by decide +kernel
theorem dX10_index_26 : decode cX10_index 26 = .ok (.aload_n 0, 1) := by decide +kernel
theorem dX10_index_27 : decode cX10_index 27 = .ok (.getfield 25, 3) := by decide +kernel
theorem dX10_index_30 : decode cX10_index 30 = .ok (.aload_n 0, 1) := by decide +kernel
theorem dX10_index_31 : decode cX10_index 31 = .ok (.iload_n 3, 1) := by decide +kernel
theorem dX10_index_32 : decode cX10_index 32 = .ok (.invokevirtual 140, 3) := by decide +kernel
theorem dX10_index_35 : decode cX10_index 35 = .ok (.ifCond .eq 7, 3) := by decide +kernel
theorem dX10_index_38 : decode cX10_index 38 = .ok (.iload_n 3, 1) := by decide +kernel
theorem dX10_index_39 : decode cX10_index 39 = .ok (.goto 4, 3) := by decide +kernel
theorem dX10_index_43 : decode cX10_index 43 = .ok (.iaload, 1) := by decide +kernel
theorem dX10_index_44 : decode cX10_index 44 = .ok (.iconst 1, 1) := by decide +kernel
theorem dX10_index_45 : decode cX10_index 45 = .ok (.isub, 1) := by decide +kernel
theorem dX10_index_46 : decode cX10_index 46 = .ok (.invokestatic 81, 3) := by decide +kernel
theorem dX10_index_49 : decode cX10_index 49 = .ok (.ifCond .eq 7, 3) := by decide +kernel
theorem dX10_index_52 : decode cX10_index 52 = .ok (.iconst 1, 1) := by decide +kernel
theorem dX10_index_53 : decode cX10_index 53 = .ok (.goto 4, 3) := by decide +kernel
theorem dX10_index_56 : decode cX10_index 56 = .ok (.iconst 0, 1) := by decide +kernel
theorem dX10_index_57 : decode cX10_index 57 = .ok (.istore 5, 2) := by decide +kernel
theorem dX10_index_59 : decode cX10_index 59 = .ok (.aload_n 0, 1) := by decide +kernel
theorem dX10_index_60 : decode cX10_index 60 = .ok (.iload 5, 2) := by decide +kernel
theorem dX10_index_62 : decode cX10_index 62 = .ok (.iconst 1, 1) := by decide +kernel
theorem dX10_index_63 : decode cX10_index 63 = .ok (.iconst 1, 1) := by decide +kernel
theorem dX10_index_64 : decode cX10_index 64 = .ok (.invokevirtual 95, 3) := by decide +kernel
theorem dX10_index_67 : decode cX10_index 67 = .ok (.ifCond .ne 5, 3) := by decide +kernel
theorem dX10_index_70 : decode cX10_index 70 = .ok (.iconst 0, 1) := by decide +kernel
theorem dX10_index_71 : decode cX10_index 71 = .ok (.ireturn, 1) := by decide +kernel
theorem dX10_index_72 : decode cX10_index 72 = .ok (.aload_n 0, 1) := by decide +kernel
theorem dX10_index_73 : decode cX10_index 73 = .ok (.iload_n 1, 1) := by decide +kernel
theorem dX10_index_74 : decode cX10_index 74 = .ok (.iload_n 2, 1) := by decide +kernel
theorem dX10_index_75 : decode cX10_index 75 = .ok (.aload_n 0, 1) := by decide +kernel
theorem dX10_index_76 : decode cX10_index 76 = .ok (.getfield 28, 3) := by decide +kernel
theorem dX10_index_79 : decode cX10_index 79 = .ok (.iload_n 3, 1) := by decide +kernel
theorem dX10_index_80 : decode cX10_index 80 = .ok (.iaload, 1) := by decide +kernel
theorem dX10_index_81 : decode cX10_index 81 = .ok (.invokevirtual 119, 3) := by decide +kernel
theorem dX10_index_84 : decode cX10_index 84 = .ok (.aload_n 0, 1) := by decide +kernel
theorem dX10_index_85 : decode cX10_index 85 = .ok (.iload_n 3, 1) := by decide +kernel
theorem dX10_index_86 : decode cX10_index 86 = .ok (.iload 4, 2) := by decide +kernel
theorem dX10_index_88 : decode cX10_index 88 = .ok (.invokevirtual 130, 3) := by decide +kernel
theorem dX10_index_91 : decode cX10_index 91 = .ok (.ireturn, 1) := by decide +kernel
set_option maxHeartbeats 1000000 in
set_option maxRecDepth 100000 in
theorem o_index (de : Nat) (w : Wd) (mo : Nat) (ad : Nat → Nat) (A : Nat → Nat → Int32) (F : Nat → Int32) (L : Int32) (g : Nat → Int32) (hm : RM w mo ad) (xs xe xp xh : Int32) (nS s0 : Nat) (hS : F 3 = nI nS) (hn5 : nS ≤ 5) (hst : inR xs 0 (F 3 - 1) = true → xs = nI s0 ∧ s0 < nS) (se : Nat) (hse : inR xe 0 19 = true → xe = nI se ∧ se < 20) (pr n : Nat) (dN : Nat → Nat) (hpr : inR xp 0 (F 10 - 1) = true → xp = nI pr ∧ pr < 6 ∧ PHA A pr n dN ∧ A 8 pr = nI n) (ph : Nat) (hph : inR xh 0 (A 8 pr - 1) = true → xh = nI ph ∧ ph < n) : Ct yX10_index cX10_index 6 (some .int) 3 74 0 0 de [.ref mo, .int xs, .int xe, .int xp, .int xh] (M w mo ad A F L g) (fun r w' => (goV (bI (inR xs 0 (F 3 - 1) && (inR xe 0 19 && (inR xp 0 (F 10 - 1) && inR xh 0 (A 8 pr - 1))))) 1 1 = 0 → r = some (.int (lookV (rowA A nS (A 9 pr) se s0) (phA A pr 1 ph) (dN ph) (stN (rowA A nS (A 9 pr) se s0) + dSum dN ph))) ∧ ∃ g', w' = M w mo ad (A) (F) 0 g') ∧ (¬ goV (bI (inR xs 0 (F 3 - 1) && (inR xe 0 19 && (inR xp 0 (F 10 - 1) && inR xh 0 (A 8 pr - 1))))) 1 1 = 0 → r = some (.int 0) ∧ w' = M w mo ad A F (goV (bI (inR xs 0 (F 3 - 1) && (inR xe 0 19 && (inR xp 0 (F 10 - 1) && inR xh 0 (A 8 pr - 1))))) 1 1) g)) := by
  refine Ct.mk (by decide +kernel) [(0, .ref mo), (1, .int xs), (2, .int xe), (3, .int xp), (4, .int xh)] rfl (Nat.le_of_ble_eq_true rfl) ?_
  intro p l e R s m args below meth c D cy z C hnm
  refine g_cutS (pc' := 57) (.int (bI (inR xs 0 (F 3 - 1) && (inR xe 0 19 && (inR xp 0 (F 10 - 1) && inR xh 0 (A 8 pr - 1)))))) ?_ (fun j_57 => ?_)
  · refine g_istore C dX10_index_57 (by decide) ?_
    refine g_aload_n C dX10_index_59 rfl ?_
    refine g_iload C dX10_index_60 rfl ?_
    refine g_iconst C 1 dX10_index_62 (by rfl) ?_
    refine g_iconst C 1 dX10_index_63 (by rfl) ?_
    refine g_callV C cls_11 12 mt_X10_goes [.int (bI (inR xs 0 (F 3 - 1) && (inR xe 0 19 && (inR xp 0 (F 10 - 1) && inR xh 0 (A 8 pr - 1))))), .int 1, .int 1] (m_goes de w mo ad A F L g hm (bI (inR xs 0 (F 3 - 1) && (inR xe 0 19 && (inR xp 0 (F 10 - 1) && inR xh 0 (A 8 pr - 1))))) 1 1) hm.1 (by decide) k_1017 rfl rfl (Nat.le_of_ble_eq_true rfl) (by decide) (by decide) (by decide) (by decide) dX10_index_64 (fun r_64 w_64 hp_64 => ?_)
    obtain ⟨rfl, rfl⟩ := hp_64
    refine g_if_ne C 72 dX10_index_67 (by decide) (fun c_67 => ?_) (fun c_67 => ?_)
    · have b_67 := bI_n0.mp c_67
      have hg := of_decide_eq_true b_67
      rw [hg]
      obtain ha9 := goV_0 hg
      obtain ⟨rfl, hs5⟩ := hst (band ha9).1
      obtain ⟨rfl, he5⟩ := hse (band (band ha9).2).1
      obtain ⟨rfl, hp6, hpp, hsz⟩ := hpr (band (band (band ha9).2).2).1
      obtain ⟨rfl, hh5⟩ := hph (band (band (band ha9).2).2).2
      refine g_aload_n C dX10_index_72 rfl ?_
      refine g_iload_n C dX10_index_73 rfl ?_
      refine g_iload_n C dX10_index_74 rfl ?_
      refine g_aload_n C dX10_index_75 rfl ?_
      refine g_getR (b := (ad 9)) C cls_11 12 9 hm.1 (rm_9 hm).1 rfl k_924 dX10_index_76 ?_
      refine g_iload_n C dX10_index_79 rfl ?_
      refine g_iald C 2090 (rm_9 hm).2.1 rfl (show vp_in (nI (pr)) (aL w (ad 9)) by rw [(rm_9 hm).2.2]; exact nI_vp (show pr < 7 by omega) (by omega)) dX10_index_80 ?_
      rw [M_a9, nI_tn (show pr ≤ 100000 by omega)]
      refine g_callV C cls_11 12 mt_X10_lays [.int (nI s0), .int (nI se), .int (A 9 pr)] (m_lays de w mo ad A F 0 g hm nS s0 se (A 9 pr) hS hn5 hs5 he5) hm.1 (by decide) k_1056 rfl rfl (Nat.le_of_ble_eq_true rfl) (by decide) (by decide) (by decide) (by decide) dX10_index_81 (fun r_81 w_81 hp_81 => ?_)
      obtain ⟨rfl, g1, rfl, hg1⟩ := hp_81
      refine g_aload_n C dX10_index_84 rfl ?_
      refine g_iload_n C dX10_index_85 rfl ?_
      refine g_iload C dX10_index_86 rfl ?_
      refine g_callV C cls_11 12 mt_X10_looksAt [.int (nI pr), .int (nI ph)] (m_looksAt de w mo ad A F 0 g1 hm pr n dN (by omega) hpp ph hh5) hm.1 (by decide) k_1084 rfl rfl (Nat.le_of_ble_eq_true rfl) (by decide) (by decide) (by decide) (by decide) dX10_index_88 (fun r_88 w_88 hp_88 => ?_)
      obtain ⟨rfl, rfl⟩ := hp_88
      rw [lookV_congr hg1, stN_congr hg1]
      refine g_iret C rfl rfl (by decide) (by decide) dX10_index_91 ?_
      first
      | exact ⟨fun h9 => absurd h9 hg, fun _ => ⟨rfl, rfl⟩⟩
      | (refine ⟨fun _ => ⟨?_, _, rfl⟩, fun h9 => absurd rfl h9⟩; exact congrArg (fun v => some (Value.int v)) (rfl))
    · have b_67 := bI_0.mp c_67
      have hg := of_decide_eq_false b_67
      refine g_iconst C 0 dX10_index_70 (by rfl) ?_
      refine g_iret C rfl rfl (by decide) (by decide) dX10_index_71 ?_
      first
      | exact ⟨fun h9 => absurd h9 hg, fun _ => ⟨rfl, rfl⟩⟩
      | (refine ⟨fun _ => ⟨?_, _, rfl⟩, fun h9 => absurd rfl h9⟩; exact congrArg (fun v => some (Value.int v)) (rfl))
  · refine g_aload_n C dX10_index_0 rfl ?_
    refine g_iload_n C dX10_index_1 rfl ?_
    refine g_callV C cls_11 12 mt_X10_isStation [.int xs] (m_isStation de w mo ad A F L g hm xs) hm.1 (by decide) k_1025 rfl rfl (Nat.le_of_ble_eq_true rfl) (by decide) (by decide) (by decide) (by decide) dX10_index_2 (fun r_2 w_2 hp_2 => ?_)
    obtain ⟨rfl, rfl⟩ := hp_2
    refine g_if_eq C 56 dX10_index_5 (by decide) (fun c_5 => ?_) (fun c_5 => ?_)
    · have b_5 := bI_0.mp c_5
      refine g_iconst C 0 dX10_index_56 (by rfl) ?_
      exact g_eq rfl (congrArg (fun v => Value.int v :: _) (by first | rfl | (simp only [b_5]; done) | (simp only [b_5]; rfl) | (simp [b_5, bI]; done))) rfl j_57
    · have b_5 := bI_n0.mp c_5
      refine g_iload_n C dX10_index_8 rfl ?_
      refine g_callS C mt_X10_isSeason [.int xe] (c_X10_isSeason de _ xe) k_1053 rfl rfl (Nat.le_of_ble_eq_true rfl) (by decide) (by decide) (by decide) (by decide) dX10_index_9 (fun r_9 w_9 hp_9 => ?_)
      obtain ⟨rfl, rfl⟩ := hp_9
      refine g_if_eq C 56 dX10_index_12 (by decide) (fun c_12 => ?_) (fun c_12 => ?_)
      · have b_12 := bI_0.mp c_12
        refine g_iconst C 0 dX10_index_56 (by rfl) ?_
        exact g_eq rfl (congrArg (fun v => Value.int v :: _) (by first | rfl | (simp only [b_5, b_12]; done) | (simp only [b_5, b_12]; rfl) | (simp [b_5, b_12, bI]; done))) rfl j_57
      · have b_12 := bI_n0.mp c_12
        refine g_aload_n C dX10_index_15 rfl ?_
        refine g_iload_n C dX10_index_16 rfl ?_
        refine g_callV C cls_11 12 mt_X10_isProduct [.int xp] (m_isProduct de w mo ad A F L g hm xp) hm.1 (by decide) k_1080 rfl rfl (Nat.le_of_ble_eq_true rfl) (by decide) (by decide) (by decide) (by decide) dX10_index_17 (fun r_17 w_17 hp_17 => ?_)
        obtain ⟨rfl, rfl⟩ := hp_17
        refine g_if_eq C 56 dX10_index_20 (by decide) (fun c_20 => ?_) (fun c_20 => ?_)
        · have b_20 := bI_0.mp c_20
          refine g_iconst C 0 dX10_index_56 (by rfl) ?_
          exact g_eq rfl (congrArg (fun v => Value.int v :: _) (by first | rfl | (simp only [b_5, b_12, b_20]; done) | (simp only [b_5, b_12, b_20]; rfl) | (simp [b_5, b_12, b_20, bI]; done))) rfl j_57
        · have b_20 := bI_n0.mp c_20
          refine g_iload C dX10_index_23 rfl ?_
          refine g_iconst C 0 dX10_index_25 (by rfl) ?_
          refine g_aload_n C dX10_index_26 rfl ?_
          refine g_getR (b := (ad 8)) C cls_11 12 8 hm.1 (rm_8 hm).1 rfl k_923 dX10_index_27 ?_
          refine g_aload_n C dX10_index_30 rfl ?_
          refine g_iload_n C dX10_index_31 rfl ?_
          refine g_callV C cls_11 12 mt_X10_isProduct [.int xp] (m_isProduct de w mo ad A F L g hm xp) hm.1 (by decide) k_1080 rfl rfl (Nat.le_of_ble_eq_true rfl) (by decide) (by decide) (by decide) (by decide) dX10_index_32 (fun r_32 w_32 hp_32 => ?_)
          obtain ⟨rfl, rfl⟩ := hp_32
          refine g_if_eq C 42 dX10_index_35 (by decide) (fun c_35 => ?_) (fun c_35 => ?_)
          · have b_35 := bI_0.mp c_35
            exact absurd (b_20.symm.trans b_35) (by decide)
          · have b_35 := bI_n0.mp c_35
            refine g_iload_n C dX10_index_38 rfl ?_
            refine g_goto C 43 dX10_index_39 (by decide) ?_
            obtain ⟨rfl, hp6, hpp, hsz⟩ := hpr b_20
            refine g_iald C 2080 (rm_8 hm).2.1 rfl (show vp_in (nI (pr)) (aL w (ad 8)) by rw [(rm_8 hm).2.2]; exact nI_vp (show pr < 7 by omega) (by omega)) dX10_index_43 ?_
            rw [M_a8, nI_tn (show pr ≤ 100000 by omega)]
            refine g_iconst C 1 dX10_index_44 (by rfl) ?_
            refine g_isub C dX10_index_45 ?_
            refine g_callS C mt_X10_in [.int xh, .int 0, .int ((A 8 (pr)) - 1)] (c_X10_in de _ xh 0 ((A 8 (pr)) - 1)) k_1014 rfl rfl (Nat.le_of_ble_eq_true rfl) (by decide) (by decide) (by decide) (by decide) dX10_index_46 (fun r_46 w_46 hp_46 => ?_)
            obtain ⟨rfl, rfl⟩ := hp_46
            refine g_if_eq C 56 dX10_index_49 (by decide) (fun c_49 => ?_) (fun c_49 => ?_)
            · have b_49 := bI_0.mp c_49
              refine g_iconst C 0 dX10_index_56 (by rfl) ?_
              exact g_eq rfl (congrArg (fun v => Value.int v :: _) (by first | rfl | (simp only [b_5, b_12, b_20, b_35, b_49]; done) | (simp only [b_5, b_12, b_20, b_35, b_49]; rfl) | (simp [b_5, b_12, b_20, b_35, b_49, bI]; done))) rfl j_57
            · have b_49 := bI_n0.mp c_49
              refine g_iconst C 1 dX10_index_52 (by rfl) ?_
              refine g_goto C 57 dX10_index_53 (by decide) ?_
              exact g_eq rfl (congrArg (fun v => Value.int v :: _) (by first | rfl | (simp only [b_5, b_12, b_20, b_35, b_49]; done) | (simp only [b_5, b_12, b_20, b_35, b_49]; rfl) | (simp [b_5, b_12, b_20, b_35, b_49, bI]; done))) rfl j_57
theorem dX10_rate_0 : decode cX10_rate 0 = .ok (.aload_n 0, 1) := by decide +kernel
theorem dX10_rate_1 : decode cX10_rate 1 = .ok (.aload_n 0, 1) := by decide +kernel
theorem dX10_rate_2 : decode cX10_rate 2 = .ok (.iload_n 1, 1) := by decide +kernel
theorem dX10_rate_3 : decode cX10_rate 3 = .ok (.invokevirtual 99, 3) := by decide +kernel
theorem dX10_rate_6 : decode cX10_rate 6 = .ok (.ifCond .eq 22, 3) := by decide +kernel
theorem dX10_rate_9 : decode cX10_rate 9 = .ok (.iload_n 2, 1) := by decide +kernel
theorem dX10_rate_10 : decode cX10_rate 10 = .ok (.invokestatic 116, 3) := by decide +kernel
theorem dX10_rate_13 : decode cX10_rate 13 = .ok (.ifCond .eq 15, 3) := by decide +kernel
theorem dX10_rate_16 : decode cX10_rate 16 = .ok (.aload_n 0, 1) := by decide +kernel
theorem dX10_rate_17 : decode cX10_rate 17 = .ok (.iload_n 3, 1) := by decide +kernel
theorem dX10_rate_18 : decode cX10_rate 18 = .ok (.invokevirtual 140, 3) := by decide +kernel
theorem dX10_rate_21 : decode cX10_rate 21 = .ok (.ifCond .eq 7, 3) := by decide +kernel
theorem dX10_rate_24 : decode cX10_rate 24 = .ok (.iconst 1, 1) := by decide +kernel
theorem dX10_rate_25 : decode cX10_rate 25 = .ok (.goto 4, 3) := by decide +kernel
theorem dX10_rate_28 : decode cX10_rate 28 = .ok (.iconst 0, 1) := by decide +kernel
theorem dX10_rate_29 : decode cX10_rate 29 = .ok (.iconst 1, 1) := by decide +kernel
theorem dX10_rate_30 : decode cX10_rate 30 = .ok (.iconst 1, 1) := by decide +kernel
theorem dX10_rate_31 : decode cX10_rate 31 = .ok (.invokevirtual 95, 3) := by decide +kernel
theorem dX10_rate_34 : decode cX10_rate 34 = .ok (.ifCond .eq 13, 3) := by decide +kernel
theorem dX10_rate_37 : decode cX10_rate 37 = .ok (.aload_n 0, 1) := by decide +kernel
theorem dX10_rate_38 : decode cX10_rate 38 = .ok (.iload_n 1, 1) := by decide +kernel
theorem dX10_rate_39 : decode cX10_rate 39 = .ok (.iload_n 2, 1) := by decide +kernel
theorem dX10_rate_40 : decode cX10_rate 40 = .ok (.iload_n 3, 1) := by decide +kernel
theorem dX10_rate_41 : decode cX10_rate 41 = .ok (.invokevirtual 143, 3) := by decide +kernel
theorem dX10_rate_44 : decode cX10_rate 44 = .ok (.goto 4, 3) := by decide +kernel
theorem dX10_rate_47 : decode cX10_rate 47 = .ok (.iconst 0, 1) := by decide +kernel
theorem dX10_rate_48 : decode cX10_rate 48 = .ok (.ireturn, 1) := by decide +kernel
set_option maxHeartbeats 1000000 in
set_option maxRecDepth 100000 in
theorem o_rate (de : Nat) (w : Wd) (mo : Nat) (ad : Nat → Nat) (A : Nat → Nat → Int32) (F : Nat → Int32) (L : Int32) (g : Nat → Int32) (hm : RM w mo ad) (xs xe xp : Int32) (nS s0 : Nat) (hS : F 3 = nI nS) (hn5 : nS ≤ 5) (hst : inR xs 0 (F 3 - 1) = true → xs = nI s0 ∧ s0 < nS) (se : Nat) (hse : inR xe 0 19 = true → xe = nI se ∧ se < 20) (pr n : Nat) (dN : Nat → Nat) (hpr : inR xp 0 (F 10 - 1) = true → xp = nI pr ∧ pr < 6 ∧ PHA A pr n dN ∧ A 8 pr = nI n) : Ct yX10_rate cX10_rate 4 (some .int) 5 125 0 0 de [.ref mo, .int xs, .int xe, .int xp] (M w mo ad A F L g) (fun r w' => (goV (bI (inR xs 0 (F 3 - 1) && (inR xe 0 19 && inR xp 0 (F 10 - 1)))) 1 1 = 0 → r = some (.int (ratA A nS pr n dN s0 se)) ∧ ∃ g', w' = M w mo ad (A) (F) 0 g') ∧ (¬ goV (bI (inR xs 0 (F 3 - 1) && (inR xe 0 19 && inR xp 0 (F 10 - 1)))) 1 1 = 0 → r = some (.int 0) ∧ w' = M w mo ad A F (goV (bI (inR xs 0 (F 3 - 1) && (inR xe 0 19 && inR xp 0 (F 10 - 1)))) 1 1) g)) := by
  refine Ct.mk (by decide +kernel) [(0, .ref mo), (1, .int xs), (2, .int xe), (3, .int xp)] rfl (Nat.le_of_ble_eq_true rfl) ?_
  intro p l e R s m args below meth c D cy z C hnm
  refine g_aload_n C dX10_rate_0 rfl ?_
  refine g_cutS (pc' := 29) (.int (bI (inR xs 0 (F 3 - 1) && (inR xe 0 19 && inR xp 0 (F 10 - 1))))) ?_ (fun j_29 => ?_)
  · refine g_iconst C 1 dX10_rate_29 (by rfl) ?_
    refine g_iconst C 1 dX10_rate_30 (by rfl) ?_
    refine g_callV C cls_11 12 mt_X10_goes [.int (bI (inR xs 0 (F 3 - 1) && (inR xe 0 19 && inR xp 0 (F 10 - 1)))), .int 1, .int 1] (m_goes de w mo ad A F L g hm (bI (inR xs 0 (F 3 - 1) && (inR xe 0 19 && inR xp 0 (F 10 - 1)))) 1 1) hm.1 (by decide) k_1017 rfl rfl (Nat.le_of_ble_eq_true rfl) (by decide) (by decide) (by decide) (by decide) dX10_rate_31 (fun r_31 w_31 hp_31 => ?_)
    obtain ⟨rfl, rfl⟩ := hp_31
    refine g_if_eq C 47 dX10_rate_34 (by decide) (fun c_34 => ?_) (fun c_34 => ?_)
    · have b_34 := bI_0.mp c_34
      have hg := of_decide_eq_false b_34
      refine g_iconst C 0 dX10_rate_47 (by rfl) ?_
      refine g_iret C rfl rfl (by decide) (by decide) dX10_rate_48 ?_
      first
      | exact ⟨fun h9 => absurd h9 hg, fun _ => ⟨rfl, rfl⟩⟩
      | (refine ⟨fun _ => ⟨?_, _, rfl⟩, fun h9 => absurd rfl h9⟩; exact congrArg (fun v => some (Value.int v)) (rfl))
    · have b_34 := bI_n0.mp c_34
      have hg := of_decide_eq_true b_34
      rw [hg]
      obtain ha9 := goV_0 hg
      obtain ⟨rfl, hs5⟩ := hst (band ha9).1
      obtain ⟨rfl, he5⟩ := hse (band (band ha9).2).1
      obtain ⟨rfl, hp6, hpp, hsz⟩ := hpr (band (band ha9).2).2
      refine g_aload_n C dX10_rate_37 rfl ?_
      refine g_iload_n C dX10_rate_38 rfl ?_
      refine g_iload_n C dX10_rate_39 rfl ?_
      refine g_iload_n C dX10_rate_40 rfl ?_
      refine g_callV C cls_11 12 mt_X10_rateOf [.int (nI s0), .int (nI se), .int (nI pr)] (m_rateOf de w mo ad A F 0 g hm nS s0 hS hn5 hs5 pr n dN (by omega) hpp se he5 hsz) hm.1 (by decide) k_1092 rfl rfl (Nat.le_of_ble_eq_true rfl) (by decide) (by decide) (by decide) (by decide) dX10_rate_41 (fun r_41 w_41 hp_41 => ?_)
      obtain ⟨rfl, g1, rfl⟩ := hp_41
      refine g_goto C 48 dX10_rate_44 (by decide) ?_
      refine g_iret C rfl rfl (by decide) (by decide) dX10_rate_48 ?_
      first
      | exact ⟨fun h9 => absurd h9 hg, fun _ => ⟨rfl, rfl⟩⟩
      | (refine ⟨fun _ => ⟨?_, _, rfl⟩, fun h9 => absurd rfl h9⟩; exact congrArg (fun v => some (Value.int v)) (rfl))
  · refine g_aload_n C dX10_rate_1 rfl ?_
    refine g_iload_n C dX10_rate_2 rfl ?_
    refine g_callV C cls_11 12 mt_X10_isStation [.int xs] (m_isStation de w mo ad A F L g hm xs) hm.1 (by decide) k_1025 rfl rfl (Nat.le_of_ble_eq_true rfl) (by decide) (by decide) (by decide) (by decide) dX10_rate_3 (fun r_3 w_3 hp_3 => ?_)
    obtain ⟨rfl, rfl⟩ := hp_3
    refine g_if_eq C 28 dX10_rate_6 (by decide) (fun c_6 => ?_) (fun c_6 => ?_)
    · have b_6 := bI_0.mp c_6
      refine g_iconst C 0 dX10_rate_28 (by rfl) ?_
      exact g_eq rfl (congrArg (fun v => Value.int v :: _) (by first | rfl | (simp only [b_6]; done) | (simp only [b_6]; rfl) | (simp [b_6, bI]; done))) rfl j_29
    · have b_6 := bI_n0.mp c_6
      refine g_iload_n C dX10_rate_9 rfl ?_
      refine g_callS C mt_X10_isSeason [.int xe] (c_X10_isSeason de _ xe) k_1053 rfl rfl (Nat.le_of_ble_eq_true rfl) (by decide) (by decide) (by decide) (by decide) dX10_rate_10 (fun r_10 w_10 hp_10 => ?_)
      obtain ⟨rfl, rfl⟩ := hp_10
      refine g_if_eq C 28 dX10_rate_13 (by decide) (fun c_13 => ?_) (fun c_13 => ?_)
      · have b_13 := bI_0.mp c_13
        refine g_iconst C 0 dX10_rate_28 (by rfl) ?_
        exact g_eq rfl (congrArg (fun v => Value.int v :: _) (by first | rfl | (simp only [b_6, b_13]; done) | (simp only [b_6, b_13]; rfl) | (simp [b_6, b_13, bI]; done))) rfl j_29
      · have b_13 := bI_n0.mp c_13
        refine g_aload_n C dX10_rate_16 rfl ?_
        refine g_iload_n C dX10_rate_17 rfl ?_
        refine g_callV C cls_11 12 mt_X10_isProduct [.int xp] (m_isProduct de w mo ad A F L g hm xp) hm.1 (by decide) k_1080 rfl rfl (Nat.le_of_ble_eq_true rfl) (by decide) (by decide) (by decide) (by decide) dX10_rate_18 (fun r_18 w_18 hp_18 => ?_)
        obtain ⟨rfl, rfl⟩ := hp_18
        refine g_if_eq C 28 dX10_rate_21 (by decide) (fun c_21 => ?_) (fun c_21 => ?_)
        · have b_21 := bI_0.mp c_21
          refine g_iconst C 0 dX10_rate_28 (by rfl) ?_
          exact g_eq rfl (congrArg (fun v => Value.int v :: _) (by first | rfl | (simp only [b_6, b_13, b_21]; done) | (simp only [b_6, b_13, b_21]; rfl) | (simp [b_6, b_13, b_21, bI]; done))) rfl j_29
        · have b_21 := bI_n0.mp c_21
          refine g_iconst C 1 dX10_rate_24 (by rfl) ?_
          refine g_goto C 29 dX10_rate_25 (by decide) ?_
          exact g_eq rfl (congrArg (fun v => Value.int v :: _) (by first | rfl | (simp only [b_6, b_13, b_21]; done) | (simp only [b_6, b_13, b_21]; rfl) | (simp [b_6, b_13, b_21, bI]; done))) rfl j_29
theorem dX10_priced_0 : decode cX10_priced 0 = .ok (.aload_n 0, 1) := by decide +kernel
theorem dX10_priced_1 : decode cX10_priced 1 = .ok (.aload_n 0, 1) := by decide +kernel
theorem dX10_priced_2 : decode cX10_priced 2 = .ok (.iload_n 1, 1) := by decide +kernel
theorem dX10_priced_3 : decode cX10_priced 3 = .ok (.invokevirtual 99, 3) := by decide +kernel
theorem dX10_priced_6 : decode cX10_priced 6 = .ok (.ifCond .eq 15, 3) := by decide +kernel
theorem dX10_priced_9 : decode cX10_priced 9 = .ok (.aload_n 0, 1) := by decide +kernel
theorem dX10_priced_10 : decode cX10_priced 10 = .ok (.iload_n 2, 1) := by decide +kernel
theorem dX10_priced_11 : decode cX10_priced 11 = .ok (.invokevirtual 140, 3) := by decide +kernel
theorem dX10_priced_14 : decode cX10_priced 14 = .ok (.ifCond .eq 7, 3) := by decide +kernel
theorem dX10_priced_17 : decode cX10_priced 17 = .ok (.iconst 1, 1) := by decide +kernel
theorem dX10_priced_18 : decode cX10_priced 18 = .ok (.goto 4, 3) := by decide +kernel
theorem dX10_priced_21 : decode cX10_priced 21 = .ok (.iconst 0, 1) := by decide +kernel
theorem dX10_priced_22 : decode cX10_priced 22 = .ok (.iconst 1, 1) := by decide +kernel
theorem dX10_priced_23 : decode cX10_priced 23 = .ok (.iconst 1, 1) := by decide +kernel
theorem dX10_priced_24 : decode cX10_priced 24 = .ok (.invokevirtual 95, 3) := by decide +kernel
theorem dX10_priced_27 : decode cX10_priced 27 = .ok (.ifCond .eq 12, 3) := by decide +kernel
theorem dX10_priced_30 : decode cX10_priced 30 = .ok (.aload_n 0, 1) := by decide +kernel
theorem dX10_priced_31 : decode cX10_priced 31 = .ok (.iload_n 1, 1) := by decide +kernel
theorem dX10_priced_32 : decode cX10_priced 32 = .ok (.iload_n 2, 1) := by decide +kernel
theorem dX10_priced_33 : decode cX10_priced 33 = .ok (.invokevirtual 149, 3) := by decide +kernel
theorem dX10_priced_36 : decode cX10_priced 36 = .ok (.goto 4, 3) := by decide +kernel
theorem dX10_priced_39 : decode cX10_priced 39 = .ok (.iconst 0, 1) := by decide +kernel
theorem dX10_priced_40 : decode cX10_priced 40 = .ok (.ireturn, 1) := by decide +kernel
set_option maxHeartbeats 1000000 in
set_option maxRecDepth 100000 in
theorem o_priced (de : Nat) (w : Wd) (mo : Nat) (ad : Nat → Nat) (A : Nat → Nat → Int32) (F : Nat → Int32) (L : Int32) (g : Nat → Int32) (hm : RM w mo ad) (xs xp : Int32) (nS s0 : Nat) (hS : F 3 = nI nS) (hn5 : nS ≤ 5) (hst : inR xs 0 (F 3 - 1) = true → xs = nI s0 ∧ s0 < nS) (pr n : Nat) (dN : Nat → Nat) (hpr : inR xp 0 (F 10 - 1) = true → xp = nI pr ∧ pr < 6 ∧ PHA A pr n dN ∧ A 8 pr = nI n) (T : Nat) (hT : F 0 = nI T) (hT2 : T < 1200) : Ct yX10_priced cX10_priced 3 (some .int) 6 150 0 0 de [.ref mo, .int xs, .int xp] (M w mo ad A F L g) (fun r w' => (goV (bI (inR xs 0 (F 3 - 1) && inR xp 0 (F 10 - 1))) 1 1 = 0 → r = some (.int (prcV (ratA A nS pr n dN s0) (T / 60))) ∧ ∃ g', w' = M w mo ad (A) (F) 0 g') ∧ (¬ goV (bI (inR xs 0 (F 3 - 1) && inR xp 0 (F 10 - 1))) 1 1 = 0 → r = some (.int 0) ∧ w' = M w mo ad A F (goV (bI (inR xs 0 (F 3 - 1) && inR xp 0 (F 10 - 1))) 1 1) g)) := by
  refine Ct.mk (by decide +kernel) [(0, .ref mo), (1, .int xs), (2, .int xp)] rfl (Nat.le_of_ble_eq_true rfl) ?_
  intro p l e R s m args below meth c D cy z C hnm
  refine g_aload_n C dX10_priced_0 rfl ?_
  refine g_cutS (pc' := 22) (.int (bI (inR xs 0 (F 3 - 1) && inR xp 0 (F 10 - 1)))) ?_ (fun j_22 => ?_)
  · refine g_iconst C 1 dX10_priced_22 (by rfl) ?_
    refine g_iconst C 1 dX10_priced_23 (by rfl) ?_
    refine g_callV C cls_11 12 mt_X10_goes [.int (bI (inR xs 0 (F 3 - 1) && inR xp 0 (F 10 - 1))), .int 1, .int 1] (m_goes de w mo ad A F L g hm (bI (inR xs 0 (F 3 - 1) && inR xp 0 (F 10 - 1))) 1 1) hm.1 (by decide) k_1017 rfl rfl (Nat.le_of_ble_eq_true rfl) (by decide) (by decide) (by decide) (by decide) dX10_priced_24 (fun r_24 w_24 hp_24 => ?_)
    obtain ⟨rfl, rfl⟩ := hp_24
    refine g_if_eq C 39 dX10_priced_27 (by decide) (fun c_27 => ?_) (fun c_27 => ?_)
    · have b_27 := bI_0.mp c_27
      have hg := of_decide_eq_false b_27
      refine g_iconst C 0 dX10_priced_39 (by rfl) ?_
      refine g_iret C rfl rfl (by decide) (by decide) dX10_priced_40 ?_
      first
      | exact ⟨fun h9 => absurd h9 hg, fun _ => ⟨rfl, rfl⟩⟩
      | (refine ⟨fun _ => ⟨?_, _, rfl⟩, fun h9 => absurd rfl h9⟩; exact congrArg (fun v => some (Value.int v)) (rfl))
    · have b_27 := bI_n0.mp c_27
      have hg := of_decide_eq_true b_27
      rw [hg]
      obtain ha9 := goV_0 hg
      obtain ⟨rfl, hs5⟩ := hst (band ha9).1
      obtain ⟨rfl, hp6, hpp, hsz⟩ := hpr (band ha9).2
      refine g_aload_n C dX10_priced_30 rfl ?_
      refine g_iload_n C dX10_priced_31 rfl ?_
      refine g_iload_n C dX10_priced_32 rfl ?_
      refine g_callV C cls_11 12 mt_X10_pricedOf [.int (nI s0), .int (nI pr)] (m_pricedOf de w mo ad A F 0 g hm nS s0 hS hn5 hs5 pr n dN (by omega) hpp T hT hT2 hsz) hm.1 (by decide) k_1107 rfl rfl (Nat.le_of_ble_eq_true rfl) (by decide) (by decide) (by decide) (by decide) dX10_priced_33 (fun r_33 w_33 hp_33 => ?_)
      obtain ⟨rfl, g1, rfl⟩ := hp_33
      refine g_goto C 40 dX10_priced_36 (by decide) ?_
      refine g_iret C rfl rfl (by decide) (by decide) dX10_priced_40 ?_
      first
      | exact ⟨fun h9 => absurd h9 hg, fun _ => ⟨rfl, rfl⟩⟩
      | (refine ⟨fun _ => ⟨?_, _, rfl⟩, fun h9 => absurd rfl h9⟩; exact congrArg (fun v => some (Value.int v)) (rfl))
  · refine g_aload_n C dX10_priced_1 rfl ?_
    refine g_iload_n C dX10_priced_2 rfl ?_
    refine g_callV C cls_11 12 mt_X10_isStation [.int xs] (m_isStation de w mo ad A F L g hm xs) hm.1 (by decide) k_1025 rfl rfl (Nat.le_of_ble_eq_true rfl) (by decide) (by decide) (by decide) (by decide) dX10_priced_3 (fun r_3 w_3 hp_3 => ?_)
    obtain ⟨rfl, rfl⟩ := hp_3
    refine g_if_eq C 21 dX10_priced_6 (by decide) (fun c_6 => ?_) (fun c_6 => ?_)
    · have b_6 := bI_0.mp c_6
      refine g_iconst C 0 dX10_priced_21 (by rfl) ?_
      exact g_eq rfl (congrArg (fun v => Value.int v :: _) (by first | rfl | (simp only [b_6]; done) | (simp only [b_6]; rfl) | (simp [b_6, bI]; done))) rfl j_22
    · have b_6 := bI_n0.mp c_6
      refine g_aload_n C dX10_priced_9 rfl ?_
      refine g_iload_n C dX10_priced_10 rfl ?_
      refine g_callV C cls_11 12 mt_X10_isProduct [.int xp] (m_isProduct de w mo ad A F L g hm xp) hm.1 (by decide) k_1080 rfl rfl (Nat.le_of_ble_eq_true rfl) (by decide) (by decide) (by decide) (by decide) dX10_priced_11 (fun r_11 w_11 hp_11 => ?_)
      obtain ⟨rfl, rfl⟩ := hp_11
      refine g_if_eq C 21 dX10_priced_14 (by decide) (fun c_14 => ?_) (fun c_14 => ?_)
      · have b_14 := bI_0.mp c_14
        refine g_iconst C 0 dX10_priced_21 (by rfl) ?_
        exact g_eq rfl (congrArg (fun v => Value.int v :: _) (by first | rfl | (simp only [b_6, b_14]; done) | (simp only [b_6, b_14]; rfl) | (simp [b_6, b_14, bI]; done))) rfl j_22
      · have b_14 := bI_n0.mp c_14
        refine g_iconst C 1 dX10_priced_17 (by rfl) ?_
        refine g_goto C 22 dX10_priced_18 (by decide) ?_
        exact g_eq rfl (congrArg (fun v => Value.int v :: _) (by first | rfl | (simp only [b_6, b_14]; done) | (simp only [b_6, b_14]; rfl) | (simp [b_6, b_14, bI]; done))) rfl j_22
theorem dX10_cover_0 : decode cX10_cover 0 = .ok (.aload_n 0, 1) := by decide +kernel
theorem dX10_cover_1 : decode cX10_cover 1 = .ok (.iload_n 1, 1) := by decide +kernel
theorem dX10_cover_2 : decode cX10_cover 2 = .ok (.iconst 0, 1) := by decide +kernel
theorem dX10_cover_3 : decode cX10_cover 3 = .ok (.aload_n 0, 1) := by decide +kernel
theorem dX10_cover_4 : decode cX10_cover 4 = .ok (.getfield 156, 3) := by decide +kernel
theorem dX10_cover_7 : decode cX10_cover 7 = .ok (.iconst 1, 1) := by decide +kernel
theorem dX10_cover_8 : decode cX10_cover 8 = .ok (.isub, 1) := by decide +kernel
theorem dX10_cover_9 : decode cX10_cover 9 = .ok (.invokestatic 81, 3) := by decide +kernel
theorem dX10_cover_12 : decode cX10_cover 12 = .ok (.iload_n 2, 1) := by decide +kernel
theorem dX10_cover_13 : decode cX10_cover 13 = .ok (.iconst 0, 1) := by decide +kernel
theorem dX10_cover_14 : decode cX10_cover 14 = .ok (.bipush 9, 2) := by decide +kernel
theorem dX10_cover_16 : decode cX10_cover 16 = .ok (.invokestatic 81, 3) := by decide +kernel
theorem dX10_cover_19 : decode cX10_cover 19 = .ok (.iconst 1, 1) := by decide +kernel
theorem dX10_cover_20 : decode cX10_cover 20 = .ok (.invokevirtual 95, 3) := by decide +kernel
theorem dX10_cover_23 : decode cX10_cover 23 = .ok (.ifCond .eq 17, 3) := by decide +kernel
theorem dX10_cover_26 : decode cX10_cover 26 = .ok (.aload_n 0, 1) := by decide +kernel
theorem dX10_cover_27 : decode cX10_cover 27 = .ok (.getfield 63, 3) := by decide +kernel
theorem dX10_cover_30 : decode cX10_cover 30 = .ok (.bipush 10, 2) := by decide +kernel
theorem dX10_cover_32 : decode cX10_cover 32 = .ok (.iload_n 1, 1) := by decide +kernel
theorem dX10_cover_33 : decode cX10_cover 33 = .ok (.imul, 1) := by decide +kernel
theorem dX10_cover_34 : decode cX10_cover 34 = .ok (.iload_n 2, 1) := by decide +kernel
theorem dX10_cover_35 : decode cX10_cover 35 = .ok (.iadd, 1) := by decide +kernel
theorem dX10_cover_36 : decode cX10_cover 36 = .ok (.iaload, 1) := by decide +kernel
theorem dX10_cover_37 : decode cX10_cover 37 = .ok (.goto 4, 3) := by decide +kernel
theorem dX10_cover_40 : decode cX10_cover 40 = .ok (.iconst 0, 1) := by decide +kernel
theorem dX10_cover_41 : decode cX10_cover 41 = .ok (.ireturn, 1) := by decide +kernel
set_option maxHeartbeats 1000000 in
set_option maxRecDepth 100000 in
theorem o_cover (de : Nat) (w : Wd) (mo : Nat) (ad : Nat → Nat) (A : Nat → Nat → Int32) (F : Nat → Int32) (L : Int32) (g : Nat → Int32) (hm : RM w mo ad) (xc xw : Int32) (nC k : Nat) (h60 : nC ≤ 60) (hk : inR xc 0 (F 24 - 1) = true → xc = nI k ∧ k < nC) (q : Nat) (hq : inR xw 0 9 = true → xw = nI q ∧ q < 10) : Ct yX10_cover cX10_cover 3 (some .int) 1 23 0 0 de [.ref mo, .int xc, .int xw] (M w mo ad A F L g) (fun r w' => (goV (bI (inR xc 0 (F 24 - 1))) (bI (inR xw 0 9)) 1 = 0 → r = some (.int (A 23 (10 * k + q))) ∧ ∃ g', w' = M w mo ad (A) (F) 0 g') ∧ (¬ goV (bI (inR xc 0 (F 24 - 1))) (bI (inR xw 0 9)) 1 = 0 → r = some (.int 0) ∧ w' = M w mo ad A F (goV (bI (inR xc 0 (F 24 - 1))) (bI (inR xw 0 9)) 1) g)) := by
  refine Ct.mk (by decide +kernel) [(0, .ref mo), (1, .int xc), (2, .int xw)] rfl (Nat.le_of_ble_eq_true rfl) ?_
  intro p l e R s m args below meth c D cy z C hnm
  refine g_aload_n C dX10_cover_0 rfl ?_
  refine g_iload_n C dX10_cover_1 rfl ?_
  refine g_iconst C 0 dX10_cover_2 (by rfl) ?_
  refine g_aload_n C dX10_cover_3 rfl ?_
  refine g_getI C cls_11 12 24 hm.1 rfl k_939 dX10_cover_4 ?_
  rw [M_f24]
  refine g_iconst C 1 dX10_cover_7 (by rfl) ?_
  refine g_isub C dX10_cover_8 ?_
  refine g_callS C mt_X10_in [.int xc, .int 0, .int ((F 24) - 1)] (c_X10_in de _ xc 0 ((F 24) - 1)) k_1014 rfl rfl (Nat.le_of_ble_eq_true rfl) (by decide) (by decide) (by decide) (by decide) dX10_cover_9 (fun r_9 w_9 hp_9 => ?_)
  obtain ⟨rfl, rfl⟩ := hp_9
  refine g_iload_n C dX10_cover_12 rfl ?_
  refine g_iconst C 0 dX10_cover_13 (by rfl) ?_
  refine g_bipush C 9 dX10_cover_14 (by rfl) ?_
  refine g_callS C mt_X10_in [.int xw, .int 0, .int 9] (c_X10_in de _ xw 0 9) k_1014 rfl rfl (Nat.le_of_ble_eq_true rfl) (by decide) (by decide) (by decide) (by decide) dX10_cover_16 (fun r_16 w_16 hp_16 => ?_)
  obtain ⟨rfl, rfl⟩ := hp_16
  refine g_iconst C 1 dX10_cover_19 (by rfl) ?_
  refine g_callV C cls_11 12 mt_X10_goes [.int (bI (inR xc 0 ((F 24) - 1))), .int (bI (inR xw 0 9)), .int 1] (m_goes de w mo ad A F L g hm (bI (inR xc 0 ((F 24) - 1))) (bI (inR xw 0 9)) 1) hm.1 (by decide) k_1017 rfl rfl (Nat.le_of_ble_eq_true rfl) (by decide) (by decide) (by decide) (by decide) dX10_cover_20 (fun r_20 w_20 hp_20 => ?_)
  obtain ⟨rfl, rfl⟩ := hp_20
  refine g_if_eq C 40 dX10_cover_23 (by decide) (fun c_23 => ?_) (fun c_23 => ?_)
  · have b_23 := bI_0.mp c_23
    have hg := of_decide_eq_false b_23
    refine g_iconst C 0 dX10_cover_40 (by rfl) ?_
    refine g_iret C rfl rfl (by decide) (by decide) dX10_cover_41 ?_
    first
    | exact ⟨fun h9 => absurd h9 hg, fun _ => ⟨rfl, rfl⟩⟩
    | (refine ⟨fun _ => ⟨?_, _, rfl⟩, fun h9 => absurd rfl h9⟩; exact congrArg (fun v => some (Value.int v)) (rfl))
  · have b_23 := bI_n0.mp c_23
    have hg := of_decide_eq_true b_23
    rw [hg]
    obtain ⟨ha9, hb9⟩ := goV_01 hg
    obtain ⟨rfl, hk5⟩ := hk ha9
    obtain ⟨rfl, hq5⟩ := hq hb9
    refine g_aload_n C dX10_cover_26 rfl ?_
    refine g_getR (b := (ad 23)) C cls_11 12 23 hm.1 (rm_23 hm).1 rfl k_938 dX10_cover_27 ?_
    refine g_bipush C 10 dX10_cover_30 (by rfl) ?_
    refine g_iload_n C dX10_cover_32 rfl ?_
    refine g_imul C dX10_cover_33 ?_
    refine g_iload_n C dX10_cover_34 rfl ?_
    refine g_iadd C dX10_cover_35 ?_
    rw [show (10 : Int32) * nI k + nI q = nI (10 * k + q) from ixm 10 k q]
    refine g_iald C 2230 (rm_23 hm).2.1 rfl (show vp_in (nI (10 * k + q)) (aL w (ad 23)) by rw [(rm_23 hm).2.2]; exact nI_vp (show 10 * k + q < 600 by omega) (by omega)) dX10_cover_36 ?_
    rw [M_a23, nI_tn (show 10 * k + q ≤ 100000 by omega)]
    refine g_goto C 41 dX10_cover_37 (by decide) ?_
    refine g_iret C rfl rfl (by decide) (by decide) dX10_cover_41 ?_
    first
    | exact ⟨fun h9 => absurd h9 hg, fun _ => ⟨rfl, rfl⟩⟩
    | (refine ⟨fun _ => ⟨?_, _, rfl⟩, fun h9 => absurd rfl h9⟩; exact congrArg (fun v => some (Value.int v)) (rfl))
theorem dX10_dueAnew_0 : decode cX10_dueAnew 0 = .ok (.aload_n 0, 1) := by decide +kernel
theorem dX10_dueAnew_1 : decode cX10_dueAnew 1 = .ok (.iload_n 1, 1) := by decide +kernel
theorem dX10_dueAnew_2 : decode cX10_dueAnew 2 = .ok (.iconst 0, 1) := by decide +kernel
theorem dX10_dueAnew_3 : decode cX10_dueAnew 3 = .ok (.aload_n 0, 1) := by decide +kernel
theorem dX10_dueAnew_4 : decode cX10_dueAnew 4 = .ok (.getfield 156, 3) := by decide +kernel
theorem dX10_dueAnew_7 : decode cX10_dueAnew 7 = .ok (.iconst 1, 1) := by decide +kernel
theorem dX10_dueAnew_8 : decode cX10_dueAnew 8 = .ok (.isub, 1) := by decide +kernel
theorem dX10_dueAnew_9 : decode cX10_dueAnew 9 = .ok (.invokestatic 81, 3) := by decide +kernel
theorem dX10_dueAnew_12 : decode cX10_dueAnew 12 = .ok (.iconst 1, 1) := by decide +kernel
theorem dX10_dueAnew_13 : decode cX10_dueAnew 13 = .ok (.iconst 1, 1) := by decide +kernel
theorem dX10_dueAnew_14 : decode cX10_dueAnew 14 = .ok (.invokevirtual 95, 3) := by decide +kernel
theorem dX10_dueAnew_17 : decode cX10_dueAnew 17 = .ok (.ifCond .eq 18, 3) := by decide +kernel
theorem dX10_dueAnew_20 : decode cX10_dueAnew 20 = .ok (.aload_n 0, 1) := by decide +kernel
theorem dX10_dueAnew_21 : decode cX10_dueAnew 21 = .ok (.getfield 63, 3) := by decide +kernel
theorem dX10_dueAnew_24 : decode cX10_dueAnew 24 = .ok (.bipush 10, 2) := by decide +kernel
theorem dX10_dueAnew_26 : decode cX10_dueAnew 26 = .ok (.iload_n 1, 1) := by decide +kernel
theorem dX10_dueAnew_27 : decode cX10_dueAnew 27 = .ok (.imul, 1) := by decide +kernel
theorem dX10_dueAnew_28 : decode cX10_dueAnew 28 = .ok (.bipush 7, 2) := by decide +kernel
theorem dX10_dueAnew_30 : decode cX10_dueAnew 30 = .ok (.iadd, 1) := by decide +kernel
theorem dX10_dueAnew_31 : decode cX10_dueAnew 31 = .ok (.iaload, 1) := by decide +kernel
theorem dX10_dueAnew_32 : decode cX10_dueAnew 32 = .ok (.goto 4, 3) := by decide +kernel
theorem dX10_dueAnew_35 : decode cX10_dueAnew 35 = .ok (.iconst 0, 1) := by decide +kernel
theorem dX10_dueAnew_36 : decode cX10_dueAnew 36 = .ok (.ireturn, 1) := by decide +kernel
set_option maxHeartbeats 1000000 in
set_option maxRecDepth 100000 in
theorem o_dueAnew (de : Nat) (w : Wd) (mo : Nat) (ad : Nat → Nat) (A : Nat → Nat → Int32) (F : Nat → Int32) (L : Int32) (g : Nat → Int32) (hm : RM w mo ad) (xc : Int32) (nC k : Nat) (h60 : nC ≤ 60) (hk : inR xc 0 (F 24 - 1) = true → xc = nI k ∧ k < nC) : Ct yX10_dueAnew cX10_dueAnew 2 (some .int) 1 23 0 0 de [.ref mo, .int xc] (M w mo ad A F L g) (fun r w' => (goV (bI (inR xc 0 (F 24 - 1))) 1 1 = 0 → r = some (.int (A 23 (10 * k + 7))) ∧ ∃ g', w' = M w mo ad (A) (F) 0 g') ∧ (¬ goV (bI (inR xc 0 (F 24 - 1))) 1 1 = 0 → r = some (.int 0) ∧ w' = M w mo ad A F (goV (bI (inR xc 0 (F 24 - 1))) 1 1) g)) := by
  refine Ct.mk (by decide +kernel) [(0, .ref mo), (1, .int xc)] rfl (Nat.le_of_ble_eq_true rfl) ?_
  intro p l e R s m args below meth c D cy z C hnm
  refine g_aload_n C dX10_dueAnew_0 rfl ?_
  refine g_iload_n C dX10_dueAnew_1 rfl ?_
  refine g_iconst C 0 dX10_dueAnew_2 (by rfl) ?_
  refine g_aload_n C dX10_dueAnew_3 rfl ?_
  refine g_getI C cls_11 12 24 hm.1 rfl k_939 dX10_dueAnew_4 ?_
  rw [M_f24]
  refine g_iconst C 1 dX10_dueAnew_7 (by rfl) ?_
  refine g_isub C dX10_dueAnew_8 ?_
  refine g_callS C mt_X10_in [.int xc, .int 0, .int ((F 24) - 1)] (c_X10_in de _ xc 0 ((F 24) - 1)) k_1014 rfl rfl (Nat.le_of_ble_eq_true rfl) (by decide) (by decide) (by decide) (by decide) dX10_dueAnew_9 (fun r_9 w_9 hp_9 => ?_)
  obtain ⟨rfl, rfl⟩ := hp_9
  refine g_iconst C 1 dX10_dueAnew_12 (by rfl) ?_
  refine g_iconst C 1 dX10_dueAnew_13 (by rfl) ?_
  refine g_callV C cls_11 12 mt_X10_goes [.int (bI (inR xc 0 ((F 24) - 1))), .int 1, .int 1] (m_goes de w mo ad A F L g hm (bI (inR xc 0 ((F 24) - 1))) 1 1) hm.1 (by decide) k_1017 rfl rfl (Nat.le_of_ble_eq_true rfl) (by decide) (by decide) (by decide) (by decide) dX10_dueAnew_14 (fun r_14 w_14 hp_14 => ?_)
  obtain ⟨rfl, rfl⟩ := hp_14
  refine g_if_eq C 35 dX10_dueAnew_17 (by decide) (fun c_17 => ?_) (fun c_17 => ?_)
  · have b_17 := bI_0.mp c_17
    have hg := of_decide_eq_false b_17
    refine g_iconst C 0 dX10_dueAnew_35 (by rfl) ?_
    refine g_iret C rfl rfl (by decide) (by decide) dX10_dueAnew_36 ?_
    first
    | exact ⟨fun h9 => absurd h9 hg, fun _ => ⟨rfl, rfl⟩⟩
    | (refine ⟨fun _ => ⟨?_, _, rfl⟩, fun h9 => absurd rfl h9⟩; exact congrArg (fun v => some (Value.int v)) (rfl))
  · have b_17 := bI_n0.mp c_17
    have hg := of_decide_eq_true b_17
    rw [hg]
    obtain ha9 := goV_0 hg
    obtain ⟨rfl, hk5⟩ := hk ha9
    refine g_aload_n C dX10_dueAnew_20 rfl ?_
    refine g_getR (b := (ad 23)) C cls_11 12 23 hm.1 (rm_23 hm).1 rfl k_938 dX10_dueAnew_21 ?_
    refine g_bipush C 10 dX10_dueAnew_24 (by rfl) ?_
    refine g_iload_n C dX10_dueAnew_26 rfl ?_
    refine g_imul C dX10_dueAnew_27 ?_
    refine g_bipush C 7 dX10_dueAnew_28 (by rfl) ?_
    refine g_iadd C dX10_dueAnew_30 ?_
    rw [show (10 : Int32) * nI k + 7 = nI (10 * k + 7) from ixm 10 k 7]
    refine g_iald C 2230 (rm_23 hm).2.1 rfl (show vp_in (nI (10 * k + 7)) (aL w (ad 23)) by rw [(rm_23 hm).2.2]; exact nI_vp (show 10 * k + 7 < 600 by omega) (by omega)) dX10_dueAnew_31 ?_
    rw [M_a23, nI_tn (show 10 * k + 7 ≤ 100000 by omega)]
    refine g_goto C 36 dX10_dueAnew_32 (by decide) ?_
    refine g_iret C rfl rfl (by decide) (by decide) dX10_dueAnew_36 ?_
    first
    | exact ⟨fun h9 => absurd h9 hg, fun _ => ⟨rfl, rfl⟩⟩
    | (refine ⟨fun _ => ⟨?_, _, rfl⟩, fun h9 => absurd rfl h9⟩; exact congrArg (fun v => some (Value.int v)) (rfl))
theorem dX10_told_0 : decode cX10_told 0 = .ok (.aload_n 0, 1) := by decide +kernel
theorem dX10_told_1 : decode cX10_told 1 = .ok (.aload_n 0, 1) := by decide +kernel
theorem dX10_told_2 : decode cX10_told 2 = .ok (.iload_n 1, 1) := by decide +kernel
theorem dX10_told_3 : decode cX10_told 3 = .ok (.invokevirtual 152, 3) := by decide +kernel
theorem dX10_told_6 : decode cX10_told 6 = .ok (.iload_n 2, 1) := by decide +kernel
theorem dX10_told_7 : decode cX10_told 7 = .ok (.iconst 0, 1) := by decide +kernel
theorem dX10_told_8 : decode cX10_told 8 = .ok (.iconst 4, 1) := by decide +kernel
theorem dX10_told_9 : decode cX10_told 9 = .ok (.invokestatic 81, 3) := by decide +kernel
theorem dX10_told_12 : decode cX10_told 12 = .ok (.iconst 1, 1) := by decide +kernel
theorem dX10_told_13 : decode cX10_told 13 = .ok (.invokevirtual 95, 3) := by decide +kernel
theorem dX10_told_16 : decode cX10_told 16 = .ok (.ifCond .ne 5, 3) := by decide +kernel
theorem dX10_told_19 : decode cX10_told 19 = .ok (.iconst 0, 1) := by decide +kernel
theorem dX10_told_20 : decode cX10_told 20 = .ok (.ireturn, 1) := by decide +kernel
theorem dX10_told_21 : decode cX10_told 21 = .ok (.iload_n 2, 1) := by decide +kernel
theorem dX10_told_22 : decode cX10_told 22 = .ok (.ifCond .ne 12, 3) := by decide +kernel
theorem dX10_told_25 : decode cX10_told 25 = .ok (.aload_n 0, 1) := by decide +kernel
theorem dX10_told_26 : decode cX10_told 26 = .ok (.getfield 31, 3) := by decide +kernel
theorem dX10_told_29 : decode cX10_told 29 = .ok (.iload_n 1, 1) := by decide +kernel
theorem dX10_told_30 : decode cX10_told 30 = .ok (.iaload, 1) := by decide +kernel
theorem dX10_told_31 : decode cX10_told 31 = .ok (.goto 51, 3) := by decide +kernel
theorem dX10_told_34 : decode cX10_told 34 = .ok (.iload_n 2, 1) := by decide +kernel
theorem dX10_told_35 : decode cX10_told 35 = .ok (.iconst 1, 1) := by decide +kernel
theorem dX10_told_36 : decode cX10_told 36 = .ok (.if_icmp .ne 12, 3) := by decide +kernel
theorem dX10_told_39 : decode cX10_told 39 = .ok (.aload_n 0, 1) := by decide +kernel
theorem dX10_told_40 : decode cX10_told 40 = .ok (.getfield 34, 3) := by decide +kernel
theorem dX10_told_43 : decode cX10_told 43 = .ok (.iload_n 1, 1) := by decide +kernel
theorem dX10_told_44 : decode cX10_told 44 = .ok (.iaload, 1) := by decide +kernel
theorem dX10_told_45 : decode cX10_told 45 = .ok (.goto 37, 3) := by decide +kernel
theorem dX10_told_48 : decode cX10_told 48 = .ok (.iload_n 2, 1) := by decide +kernel
theorem dX10_told_49 : decode cX10_told 49 = .ok (.iconst 2, 1) := by decide +kernel
theorem dX10_told_50 : decode cX10_told 50 = .ok (.if_icmp .ne 12, 3) := by decide +kernel
theorem dX10_told_53 : decode cX10_told 53 = .ok (.aload_n 0, 1) := by decide +kernel
theorem dX10_told_54 : decode cX10_told 54 = .ok (.getfield 37, 3) := by decide +kernel
theorem dX10_told_57 : decode cX10_told 57 = .ok (.iload_n 1, 1) := by decide +kernel
theorem dX10_told_58 : decode cX10_told 58 = .ok (.iaload, 1) := by decide +kernel
theorem dX10_told_59 : decode cX10_told 59 = .ok (.goto 23, 3) := by decide +kernel
theorem dX10_told_62 : decode cX10_told 62 = .ok (.iload_n 2, 1) := by decide +kernel
theorem dX10_told_63 : decode cX10_told 63 = .ok (.iconst 3, 1) := by decide +kernel
theorem dX10_told_64 : decode cX10_told 64 = .ok (.if_icmp .ne 12, 3) := by decide +kernel
theorem dX10_told_67 : decode cX10_told 67 = .ok (.aload_n 0, 1) := by decide +kernel
theorem dX10_told_68 : decode cX10_told 68 = .ok (.getfield 40, 3) := by decide +kernel
theorem dX10_told_71 : decode cX10_told 71 = .ok (.iload_n 1, 1) := by decide +kernel
theorem dX10_told_72 : decode cX10_told 72 = .ok (.iaload, 1) := by decide +kernel
theorem dX10_told_73 : decode cX10_told 73 = .ok (.goto 9, 3) := by decide +kernel
theorem dX10_told_76 : decode cX10_told 76 = .ok (.aload_n 0, 1) := by decide +kernel
theorem dX10_told_77 : decode cX10_told 77 = .ok (.getfield 43, 3) := by decide +kernel
theorem dX10_told_80 : decode cX10_told 80 = .ok (.iload_n 1, 1) := by decide +kernel
theorem dX10_told_81 : decode cX10_told 81 = .ok (.iaload, 1) := by decide +kernel
theorem dX10_told_82 : decode cX10_told 82 = .ok (.ireturn, 1) := by decide +kernel
set_option maxHeartbeats 1000000 in
set_option maxRecDepth 100000 in
theorem o_told (de : Nat) (w : Wd) (mo : Nat) (ad : Nat → Nat) (A : Nat → Nat → Int32) (F : Nat → Int32) (L : Int32) (g : Nat → Int32) (hm : RM w mo ad) (xa xw : Int32) (nF fi : Nat) (h16 : nF ≤ 16) (hfi : inR xa 0 (F 17 - 1) = true → xa = nI fi ∧ fi < nF) : Ct yX10_told cX10_told 3 (some .int) 2 43 0 0 de [.ref mo, .int xa, .int xw] (M w mo ad A F L g) (fun r w' => (goV (bI (inR xa 0 (F 17 - 1))) (bI (inR xw 0 4)) 1 = 0 → r = some (.int (if xw = 0 then A 12 fi else if xw = 1 then A 13 fi else if xw = 2 then A 14 fi else if xw = 3 then A 15 fi else A 16 fi)) ∧ ∃ g', w' = M w mo ad (A) (F) 0 g') ∧ (¬ goV (bI (inR xa 0 (F 17 - 1))) (bI (inR xw 0 4)) 1 = 0 → r = some (.int 0) ∧ w' = M w mo ad A F (goV (bI (inR xa 0 (F 17 - 1))) (bI (inR xw 0 4)) 1) g)) := by
  refine Ct.mk (by decide +kernel) [(0, .ref mo), (1, .int xa), (2, .int xw)] rfl (Nat.le_of_ble_eq_true rfl) ?_
  intro p l e R s m args below meth c D cy z C hnm
  refine g_aload_n C dX10_told_0 rfl ?_
  refine g_aload_n C dX10_told_1 rfl ?_
  refine g_iload_n C dX10_told_2 rfl ?_
  refine g_callV C cls_11 12 mt_X10_isFarm [.int xa] (m_isFarm de w mo ad A F L g hm xa) hm.1 (by decide) k_1123 rfl rfl (Nat.le_of_ble_eq_true rfl) (by decide) (by decide) (by decide) (by decide) dX10_told_3 (fun r_3 w_3 hp_3 => ?_)
  obtain ⟨rfl, rfl⟩ := hp_3
  refine g_iload_n C dX10_told_6 rfl ?_
  refine g_iconst C 0 dX10_told_7 (by rfl) ?_
  refine g_iconst C 4 dX10_told_8 (by rfl) ?_
  refine g_callS C mt_X10_in [.int xw, .int 0, .int 4] (c_X10_in de _ xw 0 4) k_1014 rfl rfl (Nat.le_of_ble_eq_true rfl) (by decide) (by decide) (by decide) (by decide) dX10_told_9 (fun r_9 w_9 hp_9 => ?_)
  obtain ⟨rfl, rfl⟩ := hp_9
  refine g_iconst C 1 dX10_told_12 (by rfl) ?_
  refine g_callV C cls_11 12 mt_X10_goes [.int (bI (inR xa 0 (F 17 - 1))), .int (bI (inR xw 0 4)), .int 1] (m_goes de w mo ad A F L g hm (bI (inR xa 0 (F 17 - 1))) (bI (inR xw 0 4)) 1) hm.1 (by decide) k_1017 rfl rfl (Nat.le_of_ble_eq_true rfl) (by decide) (by decide) (by decide) (by decide) dX10_told_13 (fun r_13 w_13 hp_13 => ?_)
  obtain ⟨rfl, rfl⟩ := hp_13
  refine g_if_ne C 21 dX10_told_16 (by decide) (fun c_16 => ?_) (fun c_16 => ?_)
  · have b_16 := bI_n0.mp c_16
    have hg := of_decide_eq_true b_16
    rw [hg]
    obtain ⟨ha9, hb9⟩ := goV_01 hg
    obtain ⟨rfl, hf5⟩ := hfi ha9
    refine g_iload_n C dX10_told_21 rfl ?_
    refine g_if_ne C 34 dX10_told_22 (by decide) (fun c_22 => ?_) (fun c_22 => ?_)
    · have b_22 := decide_eq_false c_22
      refine g_iload_n C dX10_told_34 rfl ?_
      refine g_iconst C 1 dX10_told_35 (by rfl) ?_
      refine g_icmp_ne C 48 dX10_told_36 (by decide) (fun c_36 => ?_) (fun c_36 => ?_)
      · have b_36 := decide_eq_false c_36
        refine g_iload_n C dX10_told_48 rfl ?_
        refine g_iconst C 2 dX10_told_49 (by rfl) ?_
        refine g_icmp_ne C 62 dX10_told_50 (by decide) (fun c_50 => ?_) (fun c_50 => ?_)
        · have b_50 := decide_eq_false c_50
          refine g_iload_n C dX10_told_62 rfl ?_
          refine g_iconst C 3 dX10_told_63 (by rfl) ?_
          refine g_icmp_ne C 76 dX10_told_64 (by decide) (fun c_64 => ?_) (fun c_64 => ?_)
          · have b_64 := decide_eq_false c_64
            refine g_aload_n C dX10_told_76 rfl ?_
            refine g_getR (b := (ad 16)) C cls_11 12 16 hm.1 (rm_16 hm).1 rfl k_931 dX10_told_77 ?_
            refine g_iload_n C dX10_told_80 rfl ?_
            refine g_iald C 2160 (rm_16 hm).2.1 rfl (show vp_in (nI (fi)) (aL w (ad 16)) by rw [(rm_16 hm).2.2]; exact nI_vp (show fi < 16 by omega) (by omega)) dX10_told_81 ?_
            rw [M_a16, nI_tn (show fi ≤ 100000 by omega)]
            refine g_iret C rfl rfl (by decide) (by decide) dX10_told_82 ?_
            first
            | exact ⟨fun h9 => absurd h9 hg, fun _ => ⟨rfl, rfl⟩⟩
            | (refine ⟨fun _ => ⟨?_, _, rfl⟩, fun h9 => absurd rfl h9⟩; exact congrArg (fun v => some (Value.int v)) (by first | exact (if_pos c_22).symm | exact ((if_neg c_22).trans (if_pos c_36)).symm | exact ((if_neg c_22).trans ((if_neg c_36).trans (if_pos c_50))).symm | exact ((if_neg c_22).trans ((if_neg c_36).trans ((if_neg c_50).trans (if_pos c_64)))).symm | exact ((if_neg c_22).trans ((if_neg c_36).trans ((if_neg c_50).trans (if_neg c_64)))).symm))
          · have b_64 := decide_eq_true c_64
            refine g_aload_n C dX10_told_67 rfl ?_
            refine g_getR (b := (ad 15)) C cls_11 12 15 hm.1 (rm_15 hm).1 rfl k_930 dX10_told_68 ?_
            refine g_iload_n C dX10_told_71 rfl ?_
            refine g_iald C 2150 (rm_15 hm).2.1 rfl (show vp_in (nI (fi)) (aL w (ad 15)) by rw [(rm_15 hm).2.2]; exact nI_vp (show fi < 16 by omega) (by omega)) dX10_told_72 ?_
            rw [M_a15, nI_tn (show fi ≤ 100000 by omega)]
            refine g_goto C 82 dX10_told_73 (by decide) ?_
            refine g_iret C rfl rfl (by decide) (by decide) dX10_told_82 ?_
            first
            | exact ⟨fun h9 => absurd h9 hg, fun _ => ⟨rfl, rfl⟩⟩
            | (refine ⟨fun _ => ⟨?_, _, rfl⟩, fun h9 => absurd rfl h9⟩; exact congrArg (fun v => some (Value.int v)) (by first | exact (if_pos c_22).symm | exact ((if_neg c_22).trans (if_pos c_36)).symm | exact ((if_neg c_22).trans ((if_neg c_36).trans (if_pos c_50))).symm | exact ((if_neg c_22).trans ((if_neg c_36).trans ((if_neg c_50).trans (if_pos c_64)))).symm | exact ((if_neg c_22).trans ((if_neg c_36).trans ((if_neg c_50).trans (if_neg c_64)))).symm))
        · have b_50 := decide_eq_true c_50
          refine g_aload_n C dX10_told_53 rfl ?_
          refine g_getR (b := (ad 14)) C cls_11 12 14 hm.1 (rm_14 hm).1 rfl k_929 dX10_told_54 ?_
          refine g_iload_n C dX10_told_57 rfl ?_
          refine g_iald C 2140 (rm_14 hm).2.1 rfl (show vp_in (nI (fi)) (aL w (ad 14)) by rw [(rm_14 hm).2.2]; exact nI_vp (show fi < 16 by omega) (by omega)) dX10_told_58 ?_
          rw [M_a14, nI_tn (show fi ≤ 100000 by omega)]
          refine g_goto C 82 dX10_told_59 (by decide) ?_
          refine g_iret C rfl rfl (by decide) (by decide) dX10_told_82 ?_
          first
          | exact ⟨fun h9 => absurd h9 hg, fun _ => ⟨rfl, rfl⟩⟩
          | (refine ⟨fun _ => ⟨?_, _, rfl⟩, fun h9 => absurd rfl h9⟩; exact congrArg (fun v => some (Value.int v)) (by first | exact (if_pos c_22).symm | exact ((if_neg c_22).trans (if_pos c_36)).symm | exact ((if_neg c_22).trans ((if_neg c_36).trans (if_pos c_50))).symm | exact ((if_neg c_22).trans ((if_neg c_36).trans ((if_neg c_50).trans (if_pos c_64)))).symm | exact ((if_neg c_22).trans ((if_neg c_36).trans ((if_neg c_50).trans (if_neg c_64)))).symm))
      · have b_36 := decide_eq_true c_36
        refine g_aload_n C dX10_told_39 rfl ?_
        refine g_getR (b := (ad 13)) C cls_11 12 13 hm.1 (rm_13 hm).1 rfl k_928 dX10_told_40 ?_
        refine g_iload_n C dX10_told_43 rfl ?_
        refine g_iald C 2130 (rm_13 hm).2.1 rfl (show vp_in (nI (fi)) (aL w (ad 13)) by rw [(rm_13 hm).2.2]; exact nI_vp (show fi < 16 by omega) (by omega)) dX10_told_44 ?_
        rw [M_a13, nI_tn (show fi ≤ 100000 by omega)]
        refine g_goto C 82 dX10_told_45 (by decide) ?_
        refine g_iret C rfl rfl (by decide) (by decide) dX10_told_82 ?_
        first
        | exact ⟨fun h9 => absurd h9 hg, fun _ => ⟨rfl, rfl⟩⟩
        | (refine ⟨fun _ => ⟨?_, _, rfl⟩, fun h9 => absurd rfl h9⟩; exact congrArg (fun v => some (Value.int v)) (by first | exact (if_pos c_22).symm | exact ((if_neg c_22).trans (if_pos c_36)).symm | exact ((if_neg c_22).trans ((if_neg c_36).trans (if_pos c_50))).symm | exact ((if_neg c_22).trans ((if_neg c_36).trans ((if_neg c_50).trans (if_pos c_64)))).symm | exact ((if_neg c_22).trans ((if_neg c_36).trans ((if_neg c_50).trans (if_neg c_64)))).symm))
    · have b_22 := decide_eq_true c_22
      refine g_aload_n C dX10_told_25 rfl ?_
      refine g_getR (b := (ad 12)) C cls_11 12 12 hm.1 (rm_12 hm).1 rfl k_927 dX10_told_26 ?_
      refine g_iload_n C dX10_told_29 rfl ?_
      refine g_iald C 2120 (rm_12 hm).2.1 rfl (show vp_in (nI (fi)) (aL w (ad 12)) by rw [(rm_12 hm).2.2]; exact nI_vp (show fi < 16 by omega) (by omega)) dX10_told_30 ?_
      rw [M_a12, nI_tn (show fi ≤ 100000 by omega)]
      refine g_goto C 82 dX10_told_31 (by decide) ?_
      refine g_iret C rfl rfl (by decide) (by decide) dX10_told_82 ?_
      first
      | exact ⟨fun h9 => absurd h9 hg, fun _ => ⟨rfl, rfl⟩⟩
      | (refine ⟨fun _ => ⟨?_, _, rfl⟩, fun h9 => absurd rfl h9⟩; exact congrArg (fun v => some (Value.int v)) (by first | exact (if_pos c_22).symm | exact ((if_neg c_22).trans (if_pos c_36)).symm | exact ((if_neg c_22).trans ((if_neg c_36).trans (if_pos c_50))).symm | exact ((if_neg c_22).trans ((if_neg c_36).trans ((if_neg c_50).trans (if_pos c_64)))).symm | exact ((if_neg c_22).trans ((if_neg c_36).trans ((if_neg c_50).trans (if_neg c_64)))).symm))
  · have b_16 := bI_0.mp c_16
    have hg := of_decide_eq_false b_16
    refine g_iconst C 0 dX10_told_19 (by rfl) ?_
    refine g_iret C rfl rfl (by decide) (by decide) dX10_told_20 ?_
    first
    | exact ⟨fun h9 => absurd h9 hg, fun _ => ⟨rfl, rfl⟩⟩
    | (refine ⟨fun _ => ⟨?_, _, rfl⟩, fun h9 => absurd rfl h9⟩; exact congrArg (fun v => some (Value.int v)) (by first | exact (if_pos c_22).symm | exact ((if_neg c_22).trans (if_pos c_36)).symm | exact ((if_neg c_22).trans ((if_neg c_36).trans (if_pos c_50))).symm | exact ((if_neg c_22).trans ((if_neg c_36).trans ((if_neg c_50).trans (if_pos c_64)))).symm | exact ((if_neg c_22).trans ((if_neg c_36).trans ((if_neg c_50).trans (if_neg c_64)))).symm))
theorem dX10_books_0 : decode cX10_books 0 = .ok (.aload_n 0, 1) := by decide +kernel
theorem dX10_books_1 : decode cX10_books 1 = .ok (.iload_n 1, 1) := by decide +kernel
theorem dX10_books_2 : decode cX10_books 2 = .ok (.iconst 0, 1) := by decide +kernel
theorem dX10_books_3 : decode cX10_books 3 = .ok (.iconst 4, 1) := by decide +kernel
theorem dX10_books_4 : decode cX10_books 4 = .ok (.invokestatic 81, 3) := by decide +kernel
theorem dX10_books_7 : decode cX10_books 7 = .ok (.iconst 1, 1) := by decide +kernel
theorem dX10_books_8 : decode cX10_books 8 = .ok (.iconst 1, 1) := by decide +kernel
theorem dX10_books_9 : decode cX10_books 9 = .ok (.invokevirtual 95, 3) := by decide +kernel
theorem dX10_books_12 : decode cX10_books 12 = .ok (.ifCond .ne 5, 3) := by decide +kernel
theorem dX10_books_15 : decode cX10_books 15 = .ok (.iconst 0, 1) := by decide +kernel
theorem dX10_books_16 : decode cX10_books 16 = .ok (.ireturn, 1) := by decide +kernel
theorem dX10_books_17 : decode cX10_books 17 = .ok (.iload_n 1, 1) := by decide +kernel
theorem dX10_books_18 : decode cX10_books 18 = .ok (.ifCond .ne 11, 3) := by decide +kernel
theorem dX10_books_21 : decode cX10_books 21 = .ok (.aload_n 0, 1) := by decide +kernel
theorem dX10_books_22 : decode cX10_books 22 = .ok (.iconst 4, 1) := by decide +kernel
theorem dX10_books_23 : decode cX10_books 23 = .ok (.invokevirtual 173, 3) := by decide +kernel
theorem dX10_books_26 : decode cX10_books 26 = .ok (.goto 59, 3) := by decide +kernel
theorem dX10_books_29 : decode cX10_books 29 = .ok (.iload_n 1, 1) := by decide +kernel
theorem dX10_books_30 : decode cX10_books 30 = .ok (.iconst 1, 1) := by decide +kernel
theorem dX10_books_31 : decode cX10_books 31 = .ok (.if_icmp .ne 11, 3) := by decide +kernel
theorem dX10_books_34 : decode cX10_books 34 = .ok (.aload_n 0, 1) := by decide +kernel
theorem dX10_books_35 : decode cX10_books 35 = .ok (.iconst 5, 1) := by decide +kernel
theorem dX10_books_36 : decode cX10_books 36 = .ok (.invokevirtual 173, 3) := by decide +kernel
theorem dX10_books_39 : decode cX10_books 39 = .ok (.goto 46, 3) := by decide +kernel
theorem dX10_books_42 : decode cX10_books 42 = .ok (.iload_n 1, 1) := by decide +kernel
theorem dX10_books_43 : decode cX10_books 43 = .ok (.iconst 2, 1) := by decide +kernel
theorem dX10_books_44 : decode cX10_books 44 = .ok (.if_icmp .ne 12, 3) := by decide +kernel
theorem dX10_books_47 : decode cX10_books 47 = .ok (.aload_n 0, 1) := by decide +kernel
theorem dX10_books_48 : decode cX10_books 48 = .ok (.bipush 8, 2) := by decide +kernel
theorem dX10_books_50 : decode cX10_books 50 = .ok (.invokevirtual 173, 3) := by decide +kernel
theorem dX10_books_53 : decode cX10_books 53 = .ok (.goto 32, 3) := by decide +kernel
theorem dX10_books_56 : decode cX10_books 56 = .ok (.iload_n 1, 1) := by decide +kernel
theorem dX10_books_57 : decode cX10_books 57 = .ok (.iconst 3, 1) := by decide +kernel
theorem dX10_books_58 : decode cX10_books 58 = .ok (.if_icmp .ne 10, 3) := by decide +kernel
theorem dX10_books_61 : decode cX10_books 61 = .ok (.aload_n 0, 1) := by decide +kernel
theorem dX10_books_62 : decode cX10_books 62 = .ok (.getfield 164, 3) := by decide +kernel
theorem dX10_books_65 : decode cX10_books 65 = .ok (.goto 20, 3) := by decide +kernel
theorem dX10_books_68 : decode cX10_books 68 = .ok (.aload_n 0, 1) := by decide +kernel
theorem dX10_books_69 : decode cX10_books 69 = .ok (.iconst 4, 1) := by decide +kernel
theorem dX10_books_70 : decode cX10_books 70 = .ok (.invokevirtual 173, 3) := by decide +kernel
theorem dX10_books_73 : decode cX10_books 73 = .ok (.aload_n 0, 1) := by decide +kernel
theorem dX10_books_74 : decode cX10_books 74 = .ok (.getfield 164, 3) := by decide +kernel
theorem dX10_books_77 : decode cX10_books 77 = .ok (.iadd, 1) := by decide +kernel
theorem dX10_books_78 : decode cX10_books 78 = .ok (.aload_n 0, 1) := by decide +kernel
theorem dX10_books_79 : decode cX10_books 79 = .ok (.bipush 8, 2) := by decide +kernel
theorem dX10_books_81 : decode cX10_books 81 = .ok (.invokevirtual 173, 3) := by decide +kernel
theorem dX10_books_84 : decode cX10_books 84 = .ok (.isub, 1) := by decide +kernel
theorem dX10_books_85 : decode cX10_books 85 = .ok (.ireturn, 1) := by decide +kernel
set_option maxHeartbeats 1000000 in
set_option maxRecDepth 100000 in
theorem o_books (de : Nat) (w : Wd) (mo : Nat) (ad : Nat → Nat) (A : Nat → Nat → Int32) (F : Nat → Int32) (L : Int32) (g : Nat → Int32) (hm : RM w mo ad) (xw : Int32) (nC : Nat) (hN : F 24 = nI nC) (h60 : nC ≤ 60) : Ct yX10_books cX10_books 2 (some .int) 1 23 0 0 de [.ref mo, .int xw] (M w mo ad A F L g) (fun r w' => (goV (bI (inR xw 0 4)) 1 1 = 0 → r = some (.int (if xw = 0 then sumS (fun k => A 23 (10 * k + 4)) nC else if xw = 1 then sumS (fun k => A 23 (10 * k + 5)) nC else if xw = 2 then sumS (fun k => A 23 (10 * k + 8)) nC else if xw = 3 then F 27 else sumS (fun k => A 23 (10 * k + 4)) nC + F 27 - sumS (fun k => A 23 (10 * k + 8)) nC)) ∧ ∃ g', w' = M w mo ad (A) (F) 0 g') ∧ (¬ goV (bI (inR xw 0 4)) 1 1 = 0 → r = some (.int 0) ∧ w' = M w mo ad A F (goV (bI (inR xw 0 4)) 1 1) g)) := by
  refine Ct.mk (by decide +kernel) [(0, .ref mo), (1, .int xw)] rfl (Nat.le_of_ble_eq_true rfl) ?_
  intro p l e R s m args below meth c D cy z C hnm
  refine g_aload_n C dX10_books_0 rfl ?_
  refine g_iload_n C dX10_books_1 rfl ?_
  refine g_iconst C 0 dX10_books_2 (by rfl) ?_
  refine g_iconst C 4 dX10_books_3 (by rfl) ?_
  refine g_callS C mt_X10_in [.int xw, .int 0, .int 4] (c_X10_in de _ xw 0 4) k_1014 rfl rfl (Nat.le_of_ble_eq_true rfl) (by decide) (by decide) (by decide) (by decide) dX10_books_4 (fun r_4 w_4 hp_4 => ?_)
  obtain ⟨rfl, rfl⟩ := hp_4
  refine g_iconst C 1 dX10_books_7 (by rfl) ?_
  refine g_iconst C 1 dX10_books_8 (by rfl) ?_
  refine g_callV C cls_11 12 mt_X10_goes [.int (bI (inR xw 0 4)), .int 1, .int 1] (m_goes de w mo ad A F L g hm (bI (inR xw 0 4)) 1 1) hm.1 (by decide) k_1017 rfl rfl (Nat.le_of_ble_eq_true rfl) (by decide) (by decide) (by decide) (by decide) dX10_books_9 (fun r_9 w_9 hp_9 => ?_)
  obtain ⟨rfl, rfl⟩ := hp_9
  refine g_if_ne C 17 dX10_books_12 (by decide) (fun c_12 => ?_) (fun c_12 => ?_)
  · have b_12 := bI_n0.mp c_12
    have hg := of_decide_eq_true b_12
    rw [hg]
    obtain ha9 := goV_0 hg
    refine g_iload_n C dX10_books_17 rfl ?_
    refine g_if_ne C 29 dX10_books_18 (by decide) (fun c_18 => ?_) (fun c_18 => ?_)
    · have b_18 := decide_eq_false c_18
      refine g_iload_n C dX10_books_29 rfl ?_
      refine g_iconst C 1 dX10_books_30 (by rfl) ?_
      refine g_icmp_ne C 42 dX10_books_31 (by decide) (fun c_31 => ?_) (fun c_31 => ?_)
      · have b_31 := decide_eq_false c_31
        refine g_iload_n C dX10_books_42 rfl ?_
        refine g_iconst C 2 dX10_books_43 (by rfl) ?_
        refine g_icmp_ne C 56 dX10_books_44 (by decide) (fun c_44 => ?_) (fun c_44 => ?_)
        · have b_44 := decide_eq_false c_44
          refine g_iload_n C dX10_books_56 rfl ?_
          refine g_iconst C 3 dX10_books_57 (by rfl) ?_
          refine g_icmp_ne C 68 dX10_books_58 (by decide) (fun c_58 => ?_) (fun c_58 => ?_)
          · have b_58 := decide_eq_false c_58
            refine g_aload_n C dX10_books_68 rfl ?_
            refine g_iconst C 4 dX10_books_69 (by rfl) ?_
            refine g_callV C cls_11 12 mt_X10_sumOf [.int (nI 4)] (m_sumOf de w mo ad A F 0 g hm nC hN h60 4 (by decide)) hm.1 (by decide) k_1184 rfl rfl (Nat.le_of_ble_eq_true rfl) (by decide) (by decide) (by decide) (by decide) dX10_books_70 (fun r_70 w_70 hp_70 => ?_)
            obtain ⟨rfl, rfl⟩ := hp_70
            refine g_aload_n C dX10_books_73 rfl ?_
            refine g_getI C cls_11 12 27 hm.1 rfl k_942 dX10_books_74 ?_
            rw [M_f27]
            refine g_iadd C dX10_books_77 ?_
            refine g_aload_n C dX10_books_78 rfl ?_
            refine g_bipush C 8 dX10_books_79 (by rfl) ?_
            refine g_callV C cls_11 12 mt_X10_sumOf [.int (nI 8)] (m_sumOf de w mo ad A F 0 g hm nC hN h60 8 (by decide)) hm.1 (by decide) k_1184 rfl rfl (Nat.le_of_ble_eq_true rfl) (by decide) (by decide) (by decide) (by decide) dX10_books_81 (fun r_81 w_81 hp_81 => ?_)
            obtain ⟨rfl, rfl⟩ := hp_81
            refine g_isub C dX10_books_84 ?_
            refine g_iret C rfl rfl (by decide) (by decide) dX10_books_85 ?_
            first
            | exact ⟨fun h9 => absurd h9 hg, fun _ => ⟨rfl, rfl⟩⟩
            | (refine ⟨fun _ => ⟨?_, _, rfl⟩, fun h9 => absurd rfl h9⟩; exact congrArg (fun v => some (Value.int v)) (by first | exact (if_pos c_18).symm | exact ((if_neg c_18).trans (if_pos c_31)).symm | exact ((if_neg c_18).trans ((if_neg c_31).trans (if_pos c_44))).symm | exact ((if_neg c_18).trans ((if_neg c_31).trans ((if_neg c_44).trans (if_pos c_58)))).symm | exact ((if_neg c_18).trans ((if_neg c_31).trans ((if_neg c_44).trans (if_neg c_58)))).symm))
          · have b_58 := decide_eq_true c_58
            refine g_aload_n C dX10_books_61 rfl ?_
            refine g_getI C cls_11 12 27 hm.1 rfl k_942 dX10_books_62 ?_
            rw [M_f27]
            refine g_goto C 85 dX10_books_65 (by decide) ?_
            refine g_iret C rfl rfl (by decide) (by decide) dX10_books_85 ?_
            first
            | exact ⟨fun h9 => absurd h9 hg, fun _ => ⟨rfl, rfl⟩⟩
            | (refine ⟨fun _ => ⟨?_, _, rfl⟩, fun h9 => absurd rfl h9⟩; exact congrArg (fun v => some (Value.int v)) (by first | exact (if_pos c_18).symm | exact ((if_neg c_18).trans (if_pos c_31)).symm | exact ((if_neg c_18).trans ((if_neg c_31).trans (if_pos c_44))).symm | exact ((if_neg c_18).trans ((if_neg c_31).trans ((if_neg c_44).trans (if_pos c_58)))).symm | exact ((if_neg c_18).trans ((if_neg c_31).trans ((if_neg c_44).trans (if_neg c_58)))).symm))
        · have b_44 := decide_eq_true c_44
          refine g_aload_n C dX10_books_47 rfl ?_
          refine g_bipush C 8 dX10_books_48 (by rfl) ?_
          refine g_callV C cls_11 12 mt_X10_sumOf [.int (nI 8)] (m_sumOf de w mo ad A F 0 g hm nC hN h60 8 (by decide)) hm.1 (by decide) k_1184 rfl rfl (Nat.le_of_ble_eq_true rfl) (by decide) (by decide) (by decide) (by decide) dX10_books_50 (fun r_50 w_50 hp_50 => ?_)
          obtain ⟨rfl, rfl⟩ := hp_50
          refine g_goto C 85 dX10_books_53 (by decide) ?_
          refine g_iret C rfl rfl (by decide) (by decide) dX10_books_85 ?_
          first
          | exact ⟨fun h9 => absurd h9 hg, fun _ => ⟨rfl, rfl⟩⟩
          | (refine ⟨fun _ => ⟨?_, _, rfl⟩, fun h9 => absurd rfl h9⟩; exact congrArg (fun v => some (Value.int v)) (by first | exact (if_pos c_18).symm | exact ((if_neg c_18).trans (if_pos c_31)).symm | exact ((if_neg c_18).trans ((if_neg c_31).trans (if_pos c_44))).symm | exact ((if_neg c_18).trans ((if_neg c_31).trans ((if_neg c_44).trans (if_pos c_58)))).symm | exact ((if_neg c_18).trans ((if_neg c_31).trans ((if_neg c_44).trans (if_neg c_58)))).symm))
      · have b_31 := decide_eq_true c_31
        refine g_aload_n C dX10_books_34 rfl ?_
        refine g_iconst C 5 dX10_books_35 (by rfl) ?_
        refine g_callV C cls_11 12 mt_X10_sumOf [.int (nI 5)] (m_sumOf de w mo ad A F 0 g hm nC hN h60 5 (by decide)) hm.1 (by decide) k_1184 rfl rfl (Nat.le_of_ble_eq_true rfl) (by decide) (by decide) (by decide) (by decide) dX10_books_36 (fun r_36 w_36 hp_36 => ?_)
        obtain ⟨rfl, rfl⟩ := hp_36
        refine g_goto C 85 dX10_books_39 (by decide) ?_
        refine g_iret C rfl rfl (by decide) (by decide) dX10_books_85 ?_
        first
        | exact ⟨fun h9 => absurd h9 hg, fun _ => ⟨rfl, rfl⟩⟩
        | (refine ⟨fun _ => ⟨?_, _, rfl⟩, fun h9 => absurd rfl h9⟩; exact congrArg (fun v => some (Value.int v)) (by first | exact (if_pos c_18).symm | exact ((if_neg c_18).trans (if_pos c_31)).symm | exact ((if_neg c_18).trans ((if_neg c_31).trans (if_pos c_44))).symm | exact ((if_neg c_18).trans ((if_neg c_31).trans ((if_neg c_44).trans (if_pos c_58)))).symm | exact ((if_neg c_18).trans ((if_neg c_31).trans ((if_neg c_44).trans (if_neg c_58)))).symm))
    · have b_18 := decide_eq_true c_18
      refine g_aload_n C dX10_books_21 rfl ?_
      refine g_iconst C 4 dX10_books_22 (by rfl) ?_
      refine g_callV C cls_11 12 mt_X10_sumOf [.int (nI 4)] (m_sumOf de w mo ad A F 0 g hm nC hN h60 4 (by decide)) hm.1 (by decide) k_1184 rfl rfl (Nat.le_of_ble_eq_true rfl) (by decide) (by decide) (by decide) (by decide) dX10_books_23 (fun r_23 w_23 hp_23 => ?_)
      obtain ⟨rfl, rfl⟩ := hp_23
      refine g_goto C 85 dX10_books_26 (by decide) ?_
      refine g_iret C rfl rfl (by decide) (by decide) dX10_books_85 ?_
      first
      | exact ⟨fun h9 => absurd h9 hg, fun _ => ⟨rfl, rfl⟩⟩
      | (refine ⟨fun _ => ⟨?_, _, rfl⟩, fun h9 => absurd rfl h9⟩; exact congrArg (fun v => some (Value.int v)) (by first | exact (if_pos c_18).symm | exact ((if_neg c_18).trans (if_pos c_31)).symm | exact ((if_neg c_18).trans ((if_neg c_31).trans (if_pos c_44))).symm | exact ((if_neg c_18).trans ((if_neg c_31).trans ((if_neg c_44).trans (if_pos c_58)))).symm | exact ((if_neg c_18).trans ((if_neg c_31).trans ((if_neg c_44).trans (if_neg c_58)))).symm))
  · have b_12 := bI_0.mp c_12
    have hg := of_decide_eq_false b_12
    refine g_iconst C 0 dX10_books_15 (by rfl) ?_
    refine g_iret C rfl rfl (by decide) (by decide) dX10_books_16 ?_
    first
    | exact ⟨fun h9 => absurd h9 hg, fun _ => ⟨rfl, rfl⟩⟩
    | (refine ⟨fun _ => ⟨?_, _, rfl⟩, fun h9 => absurd rfl h9⟩; exact congrArg (fun v => some (Value.int v)) (by first | exact (if_pos c_18).symm | exact ((if_neg c_18).trans (if_pos c_31)).symm | exact ((if_neg c_18).trans ((if_neg c_31).trans (if_pos c_44))).symm | exact ((if_neg c_18).trans ((if_neg c_31).trans ((if_neg c_44).trans (if_pos c_58)))).symm | exact ((if_neg c_18).trans ((if_neg c_31).trans ((if_neg c_44).trans (if_neg c_58)))).symm))
end REF22
