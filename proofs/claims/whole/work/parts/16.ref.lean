section REF16
theorem phV_e {w : Wd} {ad : Nat → Nat} {pr k i : Nat} : aI w 2070 (ad 7) (5 * (3 * pr + i) + k) = phV w ad pr k i := rfl
theorem phV_0 {w : Wd} {ad : Nat → Nat} {pr i : Nat} : aI w 2070 (ad 7) (5 * (3 * pr + i)) = phV w ad pr 0 i := rfl
theorem look_n {f : Nat → Int32} {dry : Int32} {days fr : Nat} (h : 60 ≤ fr) (hd : dry = 1) : (60 : Int32) = lookV f dry days fr := by
  unfold lookV
  rw [if_pos h, if_neg (by rw [hd]; decide)]
theorem look_n0 {f : Nat → Int32} {dry : Int32} {days fr : Nat} (h : 60 ≤ fr) (hd : dry = 0) : (0 : Int32) = lookV f dry days fr := by
  unfold lookV
  rw [if_pos h, if_pos hd]
theorem look_d {f : Nat → Int32} {dry : Int32} {days fr : Nat} (h : ¬ 60 ≤ fr) (hd : dry = 1) : nI (dryN f fr (min (fr + days) 60 - fr)).1 = lookV f dry days fr := by
  unfold lookV
  rw [if_neg h, if_neg (by rw [hd]; decide)]
theorem look_s {f : Nat → Int32} {dry : Int32} {days fr : Nat} (h : ¬ 60 ≤ fr) (hd : dry = 0) : sumF f fr (min (fr + days) 60 - fr) = lookV f dry days fr := by
  unfold lookV
  rw [if_neg h, if_pos hd]
theorem beg_j1 {f : Nat → Int32} {k : Nat} (h : oI (begO f 58) = -1) : (1 : Int32) = bI (decide (60 ≤ stN f + k)) := by
  rw [decide_eq_true (p := 60 ≤ stN f + k) (by rw [stN_60 h]; omega)]
  rfl
theorem beg_j2 {f : Nat → Int32} {k b0 f0 : Nat} (hb : (oI (begO f 58) = -1 ∧ stN f = 60) ∨ (¬ oI (begO f 58) = -1 ∧ stN f = b0)) (h : ¬ oI (begO f 58) = -1) (hf : f0 = b0 + k) (h2 : 60 ≤ f0) : (1 : Int32) = bI (decide (60 ≤ stN f + k)) := by
  rcases hb with ⟨h3, -⟩ | ⟨-, h3⟩
  · exact absurd h3 h
  · rw [decide_eq_true (p := 60 ≤ stN f + k) (by omega)]
    rfl
theorem beg_j3 {f : Nat → Int32} {k b0 f0 : Nat} (hb : (oI (begO f 58) = -1 ∧ stN f = 60) ∨ (¬ oI (begO f 58) = -1 ∧ stN f = b0)) (h : ¬ oI (begO f 58) = -1) (hf : f0 = b0 + k) (h2 : f0 < 60) : (0 : Int32) = bI (decide (60 ≤ stN f + k)) := by
  rcases hb with ⟨h3, -⟩ | ⟨-, h3⟩
  · exact absurd h3 h
  · rw [decide_eq_false (p := 60 ≤ stN f + k) (by omega)]
    rfl
theorem dry01 {x : Int32} (h : x = 0 ∨ x = 1) (h1 : ¬ x = 1) : x = 0 := h.resolve_right h1
theorem payV_4 {dry tr ex its by_ all : Int32} (h1 : by_ = if dry = 0 then tr - its else its - tr) (h2 : all = if dry = 0 then tr - ex else ex - tr) (h : ¬ by_ ≤ 0) (h3 : all ≤ by_) : payV dry tr ex its = 1000 := by
  by_cases h4 : all ≤ 0
  · exact payV_1 h1 h2 h h4
  · exact payV_2 h1 h2 h h4 h3
theorem payV_5 {dry tr ex its by_ all : Int32} (h1 : by_ = if dry = 0 then tr - its else its - tr) (h2 : all = if dry = 0 then tr - ex else ex - tr) (h : ¬ by_ ≤ 0) (h3 : by_ < all) : payV dry tr ex its = 1000 * by_ / all :=
  payV_3 h1 h2 h (fun z => by rw [i32_le] at z h; rw [i32_lt] at h3; omega) (Int32.not_le.mpr h3)
theorem pay_ne {by_ all : Int32} (h : 0 < by_) (h3 : by_ < all) : ¬ all = 0 := fun z => by subst z; rw [i32_lt] at h h3; omega
theorem dX10_looksAt_0 : decode cX10_looksAt 0 = .ok (.aload_n 0, 1) := by decide +kernel
theorem dX10_looksAt_1 : decode cX10_looksAt 1 = .ok (.invokevirtual 123, 3) := by decide +kernel
theorem dX10_looksAt_4 : decode cX10_looksAt 4 = .ok (.istore_n 3, 1) := by decide +kernel
theorem dX10_looksAt_5 : decode cX10_looksAt 5 = .ok (.iconst 5, 1) := by decide +kernel
theorem dX10_looksAt_6 : decode cX10_looksAt 6 = .ok (.iconst 3, 1) := by decide +kernel
theorem dX10_looksAt_7 : decode cX10_looksAt 7 = .ok (.iload_n 1, 1) := by decide +kernel
theorem dX10_looksAt_8 : decode cX10_looksAt 8 = .ok (.imul, 1) := by decide +kernel
theorem dX10_looksAt_9 : decode cX10_looksAt 9 = .ok (.iload_n 2, 1) := by decide +kernel
theorem dX10_looksAt_10 : decode cX10_looksAt 10 = .ok (.iadd, 1) := by decide +kernel
theorem dX10_looksAt_11 : decode cX10_looksAt 11 = .ok (.imul, 1) := by decide +kernel
theorem dX10_looksAt_12 : decode cX10_looksAt 12 = .ok (.istore 4, 2) := by decide +kernel
theorem dX10_looksAt_14 : decode cX10_looksAt 14 = .ok (.iload_n 3, 1) := by decide +kernel
theorem dX10_looksAt_15 : decode cX10_looksAt 15 = .ok (.iconst 1, 1) := by decide +kernel
theorem dX10_looksAt_16 : decode cX10_looksAt 16 = .ok (.iadd, 1) := by decide +kernel
theorem dX10_looksAt_17 : decode cX10_looksAt 17 = .ok (.istore 5, 2) := by decide +kernel
theorem dX10_looksAt_19 : decode cX10_looksAt 19 = .ok (.iconst 0, 1) := by decide +kernel
theorem dX10_looksAt_20 : decode cX10_looksAt 20 = .ok (.istore 6, 2) := by decide +kernel
theorem dX10_looksAt_22 : decode cX10_looksAt 22 = .ok (.iload 6, 2) := by decide +kernel
theorem dX10_looksAt_24 : decode cX10_looksAt 24 = .ok (.iload_n 2, 1) := by decide +kernel
theorem dX10_looksAt_25 : decode cX10_looksAt 25 = .ok (.if_icmp .ge 27, 3) := by decide +kernel
theorem dX10_looksAt_28 : decode cX10_looksAt 28 = .ok (.iload 5, 2) := by decide +kernel
theorem dX10_looksAt_30 : decode cX10_looksAt 30 = .ok (.aload_n 0, 1) := by decide +kernel
theorem dX10_looksAt_31 : decode cX10_looksAt 31 = .ok (.getfield 22, 3) := by decide +kernel
theorem dX10_looksAt_34 : decode cX10_looksAt 34 = .ok (.iconst 5, 1) := by decide +kernel
theorem dX10_looksAt_35 : decode cX10_looksAt 35 = .ok (.iconst 3, 1) := by decide +kernel
theorem dX10_looksAt_36 : decode cX10_looksAt 36 = .ok (.iload_n 1, 1) := by decide +kernel
theorem dX10_looksAt_37 : decode cX10_looksAt 37 = .ok (.imul, 1) := by decide +kernel
theorem dX10_looksAt_38 : decode cX10_looksAt 38 = .ok (.iload 6, 2) := by decide +kernel
theorem dX10_looksAt_40 : decode cX10_looksAt 40 = .ok (.iadd, 1) := by decide +kernel
theorem dX10_looksAt_41 : decode cX10_looksAt 41 = .ok (.imul, 1) := by decide +kernel
theorem dX10_looksAt_42 : decode cX10_looksAt 42 = .ok (.iaload, 1) := by decide +kernel
theorem dX10_looksAt_43 : decode cX10_looksAt 43 = .ok (.iadd, 1) := by decide +kernel
theorem dX10_looksAt_44 : decode cX10_looksAt 44 = .ok (.istore 5, 2) := by decide +kernel
theorem dX10_looksAt_46 : decode cX10_looksAt 46 = .ok (.iinc 6 1, 3) := by decide +kernel
theorem dX10_looksAt_49 : decode cX10_looksAt 49 = .ok (.goto (-27), 3) := by decide +kernel
theorem dX10_looksAt_52 : decode cX10_looksAt 52 = .ok (.iconst 0, 1) := by decide +kernel
theorem dX10_looksAt_53 : decode cX10_looksAt 53 = .ok (.istore 6, 2) := by decide +kernel
theorem dX10_looksAt_55 : decode cX10_looksAt 55 = .ok (.iconst 0, 1) := by decide +kernel
theorem dX10_looksAt_56 : decode cX10_looksAt 56 = .ok (.istore 7, 2) := by decide +kernel
theorem dX10_looksAt_58 : decode cX10_looksAt 58 = .ok (.iconst 0, 1) := by decide +kernel
theorem dX10_looksAt_59 : decode cX10_looksAt 59 = .ok (.istore 8, 2) := by decide +kernel
theorem dX10_looksAt_61 : decode cX10_looksAt 61 = .ok (.iload 5, 2) := by decide +kernel
theorem dX10_looksAt_63 : decode cX10_looksAt 63 = .ok (.istore 9, 2) := by decide +kernel
theorem dX10_looksAt_65 : decode cX10_looksAt 65 = .ok (.iload 9, 2) := by decide +kernel
theorem dX10_looksAt_67 : decode cX10_looksAt 67 = .ok (.iload 5, 2) := by decide +kernel
theorem dX10_looksAt_69 : decode cX10_looksAt 69 = .ok (.aload_n 0, 1) := by decide +kernel
theorem dX10_looksAt_70 : decode cX10_looksAt 70 = .ok (.getfield 22, 3) := by decide +kernel
theorem dX10_looksAt_73 : decode cX10_looksAt 73 = .ok (.iload 4, 2) := by decide +kernel
theorem dX10_looksAt_75 : decode cX10_looksAt 75 = .ok (.iaload, 1) := by decide +kernel
theorem dX10_looksAt_76 : decode cX10_looksAt 76 = .ok (.iadd, 1) := by decide +kernel
theorem dX10_looksAt_77 : decode cX10_looksAt 77 = .ok (.if_icmp .ge 66, 3) := by decide +kernel
theorem dX10_looksAt_80 : decode cX10_looksAt 80 = .ok (.iload 9, 2) := by decide +kernel
theorem dX10_looksAt_82 : decode cX10_looksAt 82 = .ok (.bipush 60, 2) := by decide +kernel
theorem dX10_looksAt_84 : decode cX10_looksAt 84 = .ok (.if_icmp .ge 59, 3) := by decide +kernel
theorem dX10_looksAt_87 : decode cX10_looksAt 87 = .ok (.iload 6, 2) := by decide +kernel
theorem dX10_looksAt_89 : decode cX10_looksAt 89 = .ok (.aload_n 0, 1) := by decide +kernel
theorem dX10_looksAt_90 : decode cX10_looksAt 90 = .ok (.getfield 72, 3) := by decide +kernel
theorem dX10_looksAt_93 : decode cX10_looksAt 93 = .ok (.iload 9, 2) := by decide +kernel
theorem dX10_looksAt_95 : decode cX10_looksAt 95 = .ok (.iaload, 1) := by decide +kernel
theorem dX10_looksAt_96 : decode cX10_looksAt 96 = .ok (.iadd, 1) := by decide +kernel
theorem dX10_looksAt_97 : decode cX10_looksAt 97 = .ok (.istore 6, 2) := by decide +kernel
theorem dX10_looksAt_99 : decode cX10_looksAt 99 = .ok (.aload_n 0, 1) := by decide +kernel
theorem dX10_looksAt_100 : decode cX10_looksAt 100 = .ok (.getfield 72, 3) := by decide +kernel
theorem dX10_looksAt_103 : decode cX10_looksAt 103 = .ok (.iload 9, 2) := by decide +kernel
theorem dX10_looksAt_105 : decode cX10_looksAt 105 = .ok (.iaload, 1) := by decide +kernel
theorem dX10_looksAt_106 : decode cX10_looksAt 106 = .ok (.bipush 10, 2) := by decide +kernel
theorem dX10_looksAt_108 : decode cX10_looksAt 108 = .ok (.if_icmp .ge 10, 3) := by decide +kernel
theorem dX10_looksAt_111 : decode cX10_looksAt 111 = .ok (.iload 7, 2) := by decide +kernel
theorem dX10_looksAt_113 : decode cX10_looksAt 113 = .ok (.iconst 1, 1) := by decide +kernel
theorem dX10_looksAt_114 : decode cX10_looksAt 114 = .ok (.iadd, 1) := by decide +kernel
theorem dX10_looksAt_115 : decode cX10_looksAt 115 = .ok (.goto 4, 3) := by decide +kernel
theorem dX10_looksAt_118 : decode cX10_looksAt 118 = .ok (.iconst 0, 1) := by decide +kernel
theorem dX10_looksAt_119 : decode cX10_looksAt 119 = .ok (.istore 7, 2) := by decide +kernel
theorem dX10_looksAt_121 : decode cX10_looksAt 121 = .ok (.iload 7, 2) := by decide +kernel
theorem dX10_looksAt_123 : decode cX10_looksAt 123 = .ok (.iload 8, 2) := by decide +kernel
theorem dX10_looksAt_125 : decode cX10_looksAt 125 = .ok (.if_icmp .le 8, 3) := by decide +kernel
theorem dX10_looksAt_128 : decode cX10_looksAt 128 = .ok (.iload 7, 2) := by decide +kernel
theorem dX10_looksAt_130 : decode cX10_looksAt 130 = .ok (.goto 5, 3) := by decide +kernel
theorem dX10_looksAt_133 : decode cX10_looksAt 133 = .ok (.iload 8, 2) := by decide +kernel
theorem dX10_looksAt_135 : decode cX10_looksAt 135 = .ok (.istore 8, 2) := by decide +kernel
theorem dX10_looksAt_137 : decode cX10_looksAt 137 = .ok (.iinc 9 1, 3) := by decide +kernel
theorem dX10_looksAt_140 : decode cX10_looksAt 140 = .ok (.goto (-75), 3) := by decide +kernel
theorem dX10_looksAt_143 : decode cX10_looksAt 143 = .ok (.iload_n 3, 1) := by decide +kernel
theorem dX10_looksAt_144 : decode cX10_looksAt 144 = .ok (.iconst (-1), 1) := by decide +kernel
theorem dX10_looksAt_145 : decode cX10_looksAt 145 = .ok (.if_icmp .eq 10, 3) := by decide +kernel
theorem dX10_looksAt_148 : decode cX10_looksAt 148 = .ok (.iload 5, 2) := by decide +kernel
theorem dX10_looksAt_150 : decode cX10_looksAt 150 = .ok (.bipush 60, 2) := by decide +kernel
theorem dX10_looksAt_152 : decode cX10_looksAt 152 = .ok (.if_icmp .lt 7, 3) := by decide +kernel
theorem dX10_looksAt_155 : decode cX10_looksAt 155 = .ok (.iconst 1, 1) := by decide +kernel
theorem dX10_looksAt_156 : decode cX10_looksAt 156 = .ok (.goto 4, 3) := by decide +kernel
theorem dX10_looksAt_159 : decode cX10_looksAt 159 = .ok (.iconst 0, 1) := by decide +kernel
theorem dX10_looksAt_160 : decode cX10_looksAt 160 = .ok (.istore 9, 2) := by decide +kernel
theorem dX10_looksAt_162 : decode cX10_looksAt 162 = .ok (.aload_n 0, 1) := by decide +kernel
theorem dX10_looksAt_163 : decode cX10_looksAt 163 = .ok (.getfield 22, 3) := by decide +kernel
theorem dX10_looksAt_166 : decode cX10_looksAt 166 = .ok (.iload 4, 2) := by decide +kernel
theorem dX10_looksAt_168 : decode cX10_looksAt 168 = .ok (.iconst 1, 1) := by decide +kernel
theorem dX10_looksAt_169 : decode cX10_looksAt 169 = .ok (.iadd, 1) := by decide +kernel
theorem dX10_looksAt_170 : decode cX10_looksAt 170 = .ok (.iaload, 1) := by decide +kernel
theorem dX10_looksAt_171 : decode cX10_looksAt 171 = .ok (.iconst 1, 1) := by decide +kernel
theorem dX10_looksAt_172 : decode cX10_looksAt 172 = .ok (.if_icmp .ne 18, 3) := by decide +kernel
theorem dX10_looksAt_175 : decode cX10_looksAt 175 = .ok (.iload 9, 2) := by decide +kernel
theorem dX10_looksAt_177 : decode cX10_looksAt 177 = .ok (.ifCond .eq 8, 3) := by decide +kernel
theorem dX10_looksAt_180 : decode cX10_looksAt 180 = .ok (.bipush 60, 2) := by decide +kernel
theorem dX10_looksAt_182 : decode cX10_looksAt 182 = .ok (.goto 19, 3) := by decide +kernel
theorem dX10_looksAt_185 : decode cX10_looksAt 185 = .ok (.iload 8, 2) := by decide +kernel
theorem dX10_looksAt_187 : decode cX10_looksAt 187 = .ok (.goto 14, 3) := by decide +kernel
theorem dX10_looksAt_190 : decode cX10_looksAt 190 = .ok (.iload 9, 2) := by decide +kernel
theorem dX10_looksAt_192 : decode cX10_looksAt 192 = .ok (.ifCond .eq 7, 3) := by decide +kernel
theorem dX10_looksAt_195 : decode cX10_looksAt 195 = .ok (.iconst 0, 1) := by decide +kernel
theorem dX10_looksAt_196 : decode cX10_looksAt 196 = .ok (.goto 5, 3) := by decide +kernel
theorem dX10_looksAt_199 : decode cX10_looksAt 199 = .ok (.iload 6, 2) := by decide +kernel
theorem dX10_looksAt_201 : decode cX10_looksAt 201 = .ok (.ireturn, 1) := by decide +kernel
set_option maxHeartbeats 4000000 in
set_option maxRecDepth 100000 in
theorem c_X10_looksAt (de : Nat) (w : Wd) (mo : Nat) (ad : Nat → Nat) (hm : RM w mo ad) (pr n : Nat) (dN : Nat → Nat) (hpr : pr < 7) (hp : RPH w ad pr n dN) (ph : Nat) (hph : ph < n) : Ct yX10_looksAt cX10_looksAt 10 (some .int) 2 45 0 0 de [.ref mo, .int (nI pr), .int (nI ph)] w (fun r w' => r = some (.int (lookV (aI w 2280 (ad 28)) (phV w ad pr 1 ph) (dN ph) (stN (aI w 2280 (ad 28)) + dSum dN ph))) ∧ w = w') := by
  refine Ct.mk (by decide +kernel) [(0, .ref mo), (1, .int (nI pr)), (2, .int (nI ph))] rfl (Nat.le_of_ble_eq_true rfl) ?_
  intro p l e R s m args below meth c D cy z C hnm
  obtain ⟨b0, hb0, hb1, hb2⟩ := beg_b0 (aI w 2280 (ad 28))
  obtain ⟨hn3, hel⟩ := hp
  have hds := dSum_le (dN := dN) (n := n) (fun i hi => (hel i hi).2.1)
  have hdp := hds ph (by omega)
  have hdq := (hel ph hph).2.1
  obtain ⟨f0, hf0⟩ : ∃ f0 : Nat, f0 = b0 + dSum dN ph := ⟨_, rfl⟩
  obtain ⟨N, hN⟩ : ∃ N : Nat, N = min (f0 + dN ph) 60 - f0 := ⟨_, rfl⟩
  have h01 := (hel ph hph).2.2
  have loop2 : ∀ (k i : Nat), i + k = N → G p l e R s m args below meth c D cy z 10 w 0 0 65 [(0, .ref mo), (1, .int (nI pr)), (2, .int (nI ph)), (3, .int (oI (begO (aI w 2280 (ad 28)) 58))), (4, .int (nI (5 * (3 * pr + ph)))), (5, .int (nI f0)), (6, .int (sumF (aI w 2280 (ad 28)) f0 i)), (7, .int (nI (dryN (aI w 2280 (ad 28)) f0 i).2)), (8, .int (nI (dryN (aI w 2280 (ad 28)) f0 i).1)), (9, .int (nI (f0 + i)))] [] (QM below args s D cy z (fun r w' => r = some (.int (lookV (aI w 2280 (ad 28)) (phV w ad pr 1 ph) (dN ph) (stN (aI w 2280 (ad 28)) + dSum dN ph))) ∧ w = w') 0 0) := by
    intro k
    induction k with
    | zero =>
      intro i hik
      refine g_iload C dX10_looksAt_65 rfl ?_
      refine g_iload C dX10_looksAt_67 rfl ?_
      refine g_aload_n C dX10_looksAt_69 rfl ?_
      refine g_getR (b := (ad 7)) C cls_11 12 7 hm.1 (rm_7 hm).1 rfl k_922 dX10_looksAt_70 ?_
      refine g_iload C dX10_looksAt_73 rfl ?_
      refine g_iald C 2070 (rm_7 hm).2.1 rfl (by rw [(rm_7 hm).2.2]; exact nI_vp (show 5 * (3 * pr + ph) < 105 by omega) (by omega)) dX10_looksAt_75 ?_
      rw [nI_tn (by omega), phV_0, (hel ph hph).1]
      refine g_iadd C dX10_looksAt_76 ?_
      rw [nI_add]
      refine g_icmp_ge C 143 dX10_looksAt_77 (by decide) (fun c_77 => ?_) (fun c_77 => ?_)
      · refine g_cutS (pc' := 160) (.int (bI (decide (60 ≤ stN (aI w 2280 (ad 28)) + dSum dN ph)))) ?_ (fun j_160 => ?_)
        · refine g_istore C dX10_looksAt_160 (by decide) ?_
          refine g_aload_n C dX10_looksAt_162 rfl ?_
          refine g_getR (b := (ad 7)) C cls_11 12 7 hm.1 (rm_7 hm).1 rfl k_922 dX10_looksAt_163 ?_
          refine g_iload C dX10_looksAt_166 rfl ?_
          refine g_iconst C 1 dX10_looksAt_168 (by rfl) ?_
          refine g_iadd C dX10_looksAt_169 ?_
          rw [show nI (5 * (3 * pr + ph)) + 1 = nI (5 * (3 * pr + ph) + 1) from nI_1 _]
          refine g_iald C 2070 (rm_7 hm).2.1 rfl (by rw [(rm_7 hm).2.2]; exact nI_vp (show 5 * (3 * pr + ph) + 1 < 105 by omega) (by omega)) dX10_looksAt_170 ?_
          rw [nI_tn (by omega), phV_e]
          refine g_iconst C 1 dX10_looksAt_171 (by rfl) ?_
          refine g_icmp_ne C 190 dX10_looksAt_172 (by decide) (fun c_172 => ?_) (fun c_172 => ?_)
          · refine g_iload C dX10_looksAt_190 rfl ?_
            refine g_if_eq C 199 dX10_looksAt_192 (by decide) (fun c_192 => ?_) (fun c_192 => ?_)
            · refine g_iload C dX10_looksAt_199 rfl ?_
              refine g_iret C rfl rfl (by decide) (by decide) dX10_looksAt_201 ?_
              first
              | exact ⟨congrArg (fun v => some (Value.int v)) (look_n (of_decide_eq_true (bI_n0.mp c_177)) c_172), rfl⟩
              | exact ⟨congrArg (fun v => some (Value.int v)) (look_n0 (of_decide_eq_true (bI_n0.mp c_192)) (dry01 h01 c_172)), rfl⟩
              | (have e9 : f0 = stN (aI w 2280 (ad 28)) + dSum dN ph := (by have h9 : ¬ 60 ≤ stN (aI w 2280 (ad 28)) + dSum dN ph := of_decide_eq_false (bI_0.mp c_177); rcases hb2 with ⟨-, h⟩ | ⟨-, h⟩ <;> omega); exact ⟨congrArg (fun v => some (Value.int v)) (by rw [show i = N by omega, hN, e9]; exact look_d (of_decide_eq_false (bI_0.mp c_177)) c_172), rfl⟩)
              | (have e9 : f0 = stN (aI w 2280 (ad 28)) + dSum dN ph := (by have h9 : ¬ 60 ≤ stN (aI w 2280 (ad 28)) + dSum dN ph := of_decide_eq_false (bI_0.mp c_192); rcases hb2 with ⟨-, h⟩ | ⟨-, h⟩ <;> omega); exact ⟨congrArg (fun v => some (Value.int v)) (by rw [show i = N by omega, hN, e9]; exact look_s (of_decide_eq_false (bI_0.mp c_192)) (dry01 h01 c_172)), rfl⟩)
            · refine g_iconst C 0 dX10_looksAt_195 (by rfl) ?_
              refine g_goto C 201 dX10_looksAt_196 (by decide) ?_
              refine g_iret C rfl rfl (by decide) (by decide) dX10_looksAt_201 ?_
              first
              | exact ⟨congrArg (fun v => some (Value.int v)) (look_n (of_decide_eq_true (bI_n0.mp c_177)) c_172), rfl⟩
              | exact ⟨congrArg (fun v => some (Value.int v)) (look_n0 (of_decide_eq_true (bI_n0.mp c_192)) (dry01 h01 c_172)), rfl⟩
              | (have e9 : f0 = stN (aI w 2280 (ad 28)) + dSum dN ph := (by have h9 : ¬ 60 ≤ stN (aI w 2280 (ad 28)) + dSum dN ph := of_decide_eq_false (bI_0.mp c_177); rcases hb2 with ⟨-, h⟩ | ⟨-, h⟩ <;> omega); exact ⟨congrArg (fun v => some (Value.int v)) (by rw [show i = N by omega, hN, e9]; exact look_d (of_decide_eq_false (bI_0.mp c_177)) c_172), rfl⟩)
              | (have e9 : f0 = stN (aI w 2280 (ad 28)) + dSum dN ph := (by have h9 : ¬ 60 ≤ stN (aI w 2280 (ad 28)) + dSum dN ph := of_decide_eq_false (bI_0.mp c_192); rcases hb2 with ⟨-, h⟩ | ⟨-, h⟩ <;> omega); exact ⟨congrArg (fun v => some (Value.int v)) (by rw [show i = N by omega, hN, e9]; exact look_s (of_decide_eq_false (bI_0.mp c_192)) (dry01 h01 c_172)), rfl⟩)
          · refine g_iload C dX10_looksAt_175 rfl ?_
            refine g_if_eq C 185 dX10_looksAt_177 (by decide) (fun c_177 => ?_) (fun c_177 => ?_)
            · refine g_iload C dX10_looksAt_185 rfl ?_
              refine g_goto C 201 dX10_looksAt_187 (by decide) ?_
              refine g_iret C rfl rfl (by decide) (by decide) dX10_looksAt_201 ?_
              first
              | exact ⟨congrArg (fun v => some (Value.int v)) (look_n (of_decide_eq_true (bI_n0.mp c_177)) c_172), rfl⟩
              | exact ⟨congrArg (fun v => some (Value.int v)) (look_n0 (of_decide_eq_true (bI_n0.mp c_192)) (dry01 h01 c_172)), rfl⟩
              | (have e9 : f0 = stN (aI w 2280 (ad 28)) + dSum dN ph := (by have h9 : ¬ 60 ≤ stN (aI w 2280 (ad 28)) + dSum dN ph := of_decide_eq_false (bI_0.mp c_177); rcases hb2 with ⟨-, h⟩ | ⟨-, h⟩ <;> omega); exact ⟨congrArg (fun v => some (Value.int v)) (by rw [show i = N by omega, hN, e9]; exact look_d (of_decide_eq_false (bI_0.mp c_177)) c_172), rfl⟩)
              | (have e9 : f0 = stN (aI w 2280 (ad 28)) + dSum dN ph := (by have h9 : ¬ 60 ≤ stN (aI w 2280 (ad 28)) + dSum dN ph := of_decide_eq_false (bI_0.mp c_192); rcases hb2 with ⟨-, h⟩ | ⟨-, h⟩ <;> omega); exact ⟨congrArg (fun v => some (Value.int v)) (by rw [show i = N by omega, hN, e9]; exact look_s (of_decide_eq_false (bI_0.mp c_192)) (dry01 h01 c_172)), rfl⟩)
            · refine g_bipush C 60 dX10_looksAt_180 (by rfl) ?_
              refine g_goto C 201 dX10_looksAt_182 (by decide) ?_
              refine g_iret C rfl rfl (by decide) (by decide) dX10_looksAt_201 ?_
              first
              | exact ⟨congrArg (fun v => some (Value.int v)) (look_n (of_decide_eq_true (bI_n0.mp c_177)) c_172), rfl⟩
              | exact ⟨congrArg (fun v => some (Value.int v)) (look_n0 (of_decide_eq_true (bI_n0.mp c_192)) (dry01 h01 c_172)), rfl⟩
              | (have e9 : f0 = stN (aI w 2280 (ad 28)) + dSum dN ph := (by have h9 : ¬ 60 ≤ stN (aI w 2280 (ad 28)) + dSum dN ph := of_decide_eq_false (bI_0.mp c_177); rcases hb2 with ⟨-, h⟩ | ⟨-, h⟩ <;> omega); exact ⟨congrArg (fun v => some (Value.int v)) (by rw [show i = N by omega, hN, e9]; exact look_d (of_decide_eq_false (bI_0.mp c_177)) c_172), rfl⟩)
              | (have e9 : f0 = stN (aI w 2280 (ad 28)) + dSum dN ph := (by have h9 : ¬ 60 ≤ stN (aI w 2280 (ad 28)) + dSum dN ph := of_decide_eq_false (bI_0.mp c_192); rcases hb2 with ⟨-, h⟩ | ⟨-, h⟩ <;> omega); exact ⟨congrArg (fun v => some (Value.int v)) (by rw [show i = N by omega, hN, e9]; exact look_s (of_decide_eq_false (bI_0.mp c_192)) (dry01 h01 c_172)), rfl⟩)
        · refine g_iload_n C dX10_looksAt_143 rfl ?_
          refine g_iconst C (-1) dX10_looksAt_144 (by rfl) ?_
          refine g_icmp_eq C 155 dX10_looksAt_145 (by decide) (fun c_145 => ?_) (fun c_145 => ?_)
          · refine g_iconst C 1 dX10_looksAt_155 (by rfl) ?_
            refine g_goto C 160 dX10_looksAt_156 (by decide) ?_
            exact g_eq rfl (congrArg (fun v => Value.int v :: _) (by first | exact beg_j1 c_145 | exact beg_j2 hb2 c_145 hf0 (nI_nlt_of (b := 60) c_152 (by omega) (by omega)) | exact beg_j3 hb2 c_145 hf0 (nI_lt_of (b := 60) c_152 (by omega) (by omega)))) rfl j_160
          · refine g_iload C dX10_looksAt_148 rfl ?_
            refine g_bipush C 60 dX10_looksAt_150 (by rfl) ?_
            refine g_icmp_lt C 159 dX10_looksAt_152 (by decide) (fun c_152 => ?_) (fun c_152 => ?_)
            · refine g_iconst C 0 dX10_looksAt_159 (by rfl) ?_
              exact g_eq rfl (congrArg (fun v => Value.int v :: _) (by first | exact beg_j1 c_145 | exact beg_j2 hb2 c_145 hf0 (nI_nlt_of (b := 60) c_152 (by omega) (by omega)) | exact beg_j3 hb2 c_145 hf0 (nI_lt_of (b := 60) c_152 (by omega) (by omega)))) rfl j_160
            · refine g_iconst C 1 dX10_looksAt_155 (by rfl) ?_
              refine g_goto C 160 dX10_looksAt_156 (by decide) ?_
              exact g_eq rfl (congrArg (fun v => Value.int v :: _) (by first | exact beg_j1 c_145 | exact beg_j2 hb2 c_145 hf0 (nI_nlt_of (b := 60) c_152 (by omega) (by omega)) | exact beg_j3 hb2 c_145 hf0 (nI_lt_of (b := 60) c_152 (by omega) (by omega)))) rfl j_160
      · refine g_iload C dX10_looksAt_80 rfl ?_
        refine g_bipush C 60 dX10_looksAt_82 (by rfl) ?_
        refine g_icmp_ge C 143 dX10_looksAt_84 (by decide) (fun c_84 => ?_) (fun c_84 => ?_)
        · refine g_cutS (pc' := 160) (.int (bI (decide (60 ≤ stN (aI w 2280 (ad 28)) + dSum dN ph)))) ?_ (fun j_160 => ?_)
          · refine g_istore C dX10_looksAt_160 (by decide) ?_
            refine g_aload_n C dX10_looksAt_162 rfl ?_
            refine g_getR (b := (ad 7)) C cls_11 12 7 hm.1 (rm_7 hm).1 rfl k_922 dX10_looksAt_163 ?_
            refine g_iload C dX10_looksAt_166 rfl ?_
            refine g_iconst C 1 dX10_looksAt_168 (by rfl) ?_
            refine g_iadd C dX10_looksAt_169 ?_
            rw [show nI (5 * (3 * pr + ph)) + 1 = nI (5 * (3 * pr + ph) + 1) from nI_1 _]
            refine g_iald C 2070 (rm_7 hm).2.1 rfl (by rw [(rm_7 hm).2.2]; exact nI_vp (show 5 * (3 * pr + ph) + 1 < 105 by omega) (by omega)) dX10_looksAt_170 ?_
            rw [nI_tn (by omega), phV_e]
            refine g_iconst C 1 dX10_looksAt_171 (by rfl) ?_
            refine g_icmp_ne C 190 dX10_looksAt_172 (by decide) (fun c_172 => ?_) (fun c_172 => ?_)
            · refine g_iload C dX10_looksAt_190 rfl ?_
              refine g_if_eq C 199 dX10_looksAt_192 (by decide) (fun c_192 => ?_) (fun c_192 => ?_)
              · refine g_iload C dX10_looksAt_199 rfl ?_
                refine g_iret C rfl rfl (by decide) (by decide) dX10_looksAt_201 ?_
                first
                | exact ⟨congrArg (fun v => some (Value.int v)) (look_n (of_decide_eq_true (bI_n0.mp c_177)) c_172), rfl⟩
                | exact ⟨congrArg (fun v => some (Value.int v)) (look_n0 (of_decide_eq_true (bI_n0.mp c_192)) (dry01 h01 c_172)), rfl⟩
                | (have e9 : f0 = stN (aI w 2280 (ad 28)) + dSum dN ph := (by have h9 : ¬ 60 ≤ stN (aI w 2280 (ad 28)) + dSum dN ph := of_decide_eq_false (bI_0.mp c_177); rcases hb2 with ⟨-, h⟩ | ⟨-, h⟩ <;> omega); exact ⟨congrArg (fun v => some (Value.int v)) (by rw [show i = N by omega, hN, e9]; exact look_d (of_decide_eq_false (bI_0.mp c_177)) c_172), rfl⟩)
                | (have e9 : f0 = stN (aI w 2280 (ad 28)) + dSum dN ph := (by have h9 : ¬ 60 ≤ stN (aI w 2280 (ad 28)) + dSum dN ph := of_decide_eq_false (bI_0.mp c_192); rcases hb2 with ⟨-, h⟩ | ⟨-, h⟩ <;> omega); exact ⟨congrArg (fun v => some (Value.int v)) (by rw [show i = N by omega, hN, e9]; exact look_s (of_decide_eq_false (bI_0.mp c_192)) (dry01 h01 c_172)), rfl⟩)
              · refine g_iconst C 0 dX10_looksAt_195 (by rfl) ?_
                refine g_goto C 201 dX10_looksAt_196 (by decide) ?_
                refine g_iret C rfl rfl (by decide) (by decide) dX10_looksAt_201 ?_
                first
                | exact ⟨congrArg (fun v => some (Value.int v)) (look_n (of_decide_eq_true (bI_n0.mp c_177)) c_172), rfl⟩
                | exact ⟨congrArg (fun v => some (Value.int v)) (look_n0 (of_decide_eq_true (bI_n0.mp c_192)) (dry01 h01 c_172)), rfl⟩
                | (have e9 : f0 = stN (aI w 2280 (ad 28)) + dSum dN ph := (by have h9 : ¬ 60 ≤ stN (aI w 2280 (ad 28)) + dSum dN ph := of_decide_eq_false (bI_0.mp c_177); rcases hb2 with ⟨-, h⟩ | ⟨-, h⟩ <;> omega); exact ⟨congrArg (fun v => some (Value.int v)) (by rw [show i = N by omega, hN, e9]; exact look_d (of_decide_eq_false (bI_0.mp c_177)) c_172), rfl⟩)
                | (have e9 : f0 = stN (aI w 2280 (ad 28)) + dSum dN ph := (by have h9 : ¬ 60 ≤ stN (aI w 2280 (ad 28)) + dSum dN ph := of_decide_eq_false (bI_0.mp c_192); rcases hb2 with ⟨-, h⟩ | ⟨-, h⟩ <;> omega); exact ⟨congrArg (fun v => some (Value.int v)) (by rw [show i = N by omega, hN, e9]; exact look_s (of_decide_eq_false (bI_0.mp c_192)) (dry01 h01 c_172)), rfl⟩)
            · refine g_iload C dX10_looksAt_175 rfl ?_
              refine g_if_eq C 185 dX10_looksAt_177 (by decide) (fun c_177 => ?_) (fun c_177 => ?_)
              · refine g_iload C dX10_looksAt_185 rfl ?_
                refine g_goto C 201 dX10_looksAt_187 (by decide) ?_
                refine g_iret C rfl rfl (by decide) (by decide) dX10_looksAt_201 ?_
                first
                | exact ⟨congrArg (fun v => some (Value.int v)) (look_n (of_decide_eq_true (bI_n0.mp c_177)) c_172), rfl⟩
                | exact ⟨congrArg (fun v => some (Value.int v)) (look_n0 (of_decide_eq_true (bI_n0.mp c_192)) (dry01 h01 c_172)), rfl⟩
                | (have e9 : f0 = stN (aI w 2280 (ad 28)) + dSum dN ph := (by have h9 : ¬ 60 ≤ stN (aI w 2280 (ad 28)) + dSum dN ph := of_decide_eq_false (bI_0.mp c_177); rcases hb2 with ⟨-, h⟩ | ⟨-, h⟩ <;> omega); exact ⟨congrArg (fun v => some (Value.int v)) (by rw [show i = N by omega, hN, e9]; exact look_d (of_decide_eq_false (bI_0.mp c_177)) c_172), rfl⟩)
                | (have e9 : f0 = stN (aI w 2280 (ad 28)) + dSum dN ph := (by have h9 : ¬ 60 ≤ stN (aI w 2280 (ad 28)) + dSum dN ph := of_decide_eq_false (bI_0.mp c_192); rcases hb2 with ⟨-, h⟩ | ⟨-, h⟩ <;> omega); exact ⟨congrArg (fun v => some (Value.int v)) (by rw [show i = N by omega, hN, e9]; exact look_s (of_decide_eq_false (bI_0.mp c_192)) (dry01 h01 c_172)), rfl⟩)
              · refine g_bipush C 60 dX10_looksAt_180 (by rfl) ?_
                refine g_goto C 201 dX10_looksAt_182 (by decide) ?_
                refine g_iret C rfl rfl (by decide) (by decide) dX10_looksAt_201 ?_
                first
                | exact ⟨congrArg (fun v => some (Value.int v)) (look_n (of_decide_eq_true (bI_n0.mp c_177)) c_172), rfl⟩
                | exact ⟨congrArg (fun v => some (Value.int v)) (look_n0 (of_decide_eq_true (bI_n0.mp c_192)) (dry01 h01 c_172)), rfl⟩
                | (have e9 : f0 = stN (aI w 2280 (ad 28)) + dSum dN ph := (by have h9 : ¬ 60 ≤ stN (aI w 2280 (ad 28)) + dSum dN ph := of_decide_eq_false (bI_0.mp c_177); rcases hb2 with ⟨-, h⟩ | ⟨-, h⟩ <;> omega); exact ⟨congrArg (fun v => some (Value.int v)) (by rw [show i = N by omega, hN, e9]; exact look_d (of_decide_eq_false (bI_0.mp c_177)) c_172), rfl⟩)
                | (have e9 : f0 = stN (aI w 2280 (ad 28)) + dSum dN ph := (by have h9 : ¬ 60 ≤ stN (aI w 2280 (ad 28)) + dSum dN ph := of_decide_eq_false (bI_0.mp c_192); rcases hb2 with ⟨-, h⟩ | ⟨-, h⟩ <;> omega); exact ⟨congrArg (fun v => some (Value.int v)) (by rw [show i = N by omega, hN, e9]; exact look_s (of_decide_eq_false (bI_0.mp c_192)) (dry01 h01 c_172)), rfl⟩)
          · refine g_iload_n C dX10_looksAt_143 rfl ?_
            refine g_iconst C (-1) dX10_looksAt_144 (by rfl) ?_
            refine g_icmp_eq C 155 dX10_looksAt_145 (by decide) (fun c_145 => ?_) (fun c_145 => ?_)
            · refine g_iconst C 1 dX10_looksAt_155 (by rfl) ?_
              refine g_goto C 160 dX10_looksAt_156 (by decide) ?_
              exact g_eq rfl (congrArg (fun v => Value.int v :: _) (by first | exact beg_j1 c_145 | exact beg_j2 hb2 c_145 hf0 (nI_nlt_of (b := 60) c_152 (by omega) (by omega)) | exact beg_j3 hb2 c_145 hf0 (nI_lt_of (b := 60) c_152 (by omega) (by omega)))) rfl j_160
            · refine g_iload C dX10_looksAt_148 rfl ?_
              refine g_bipush C 60 dX10_looksAt_150 (by rfl) ?_
              refine g_icmp_lt C 159 dX10_looksAt_152 (by decide) (fun c_152 => ?_) (fun c_152 => ?_)
              · refine g_iconst C 0 dX10_looksAt_159 (by rfl) ?_
                exact g_eq rfl (congrArg (fun v => Value.int v :: _) (by first | exact beg_j1 c_145 | exact beg_j2 hb2 c_145 hf0 (nI_nlt_of (b := 60) c_152 (by omega) (by omega)) | exact beg_j3 hb2 c_145 hf0 (nI_lt_of (b := 60) c_152 (by omega) (by omega)))) rfl j_160
              · refine g_iconst C 1 dX10_looksAt_155 (by rfl) ?_
                refine g_goto C 160 dX10_looksAt_156 (by decide) ?_
                exact g_eq rfl (congrArg (fun v => Value.int v :: _) (by first | exact beg_j1 c_145 | exact beg_j2 hb2 c_145 hf0 (nI_nlt_of (b := 60) c_152 (by omega) (by omega)) | exact beg_j3 hb2 c_145 hf0 (nI_lt_of (b := 60) c_152 (by omega) (by omega)))) rfl j_160
        · exact absurd (nI_nle_of (a := 60) c_84 (by omega) (by omega)) (by have := nI_nle_of c_77 (by omega) (by omega); omega)
    | succ k ih =>
      intro i hik
      have hx9 : f0 + i < f0 + dN ph ∧ f0 + i < 60 := by omega
      refine g_iload C dX10_looksAt_65 rfl ?_
      refine g_iload C dX10_looksAt_67 rfl ?_
      refine g_aload_n C dX10_looksAt_69 rfl ?_
      refine g_getR (b := (ad 7)) C cls_11 12 7 hm.1 (rm_7 hm).1 rfl k_922 dX10_looksAt_70 ?_
      refine g_iload C dX10_looksAt_73 rfl ?_
      refine g_iald C 2070 (rm_7 hm).2.1 rfl (by rw [(rm_7 hm).2.2]; exact nI_vp (show 5 * (3 * pr + ph) < 105 by omega) (by omega)) dX10_looksAt_75 ?_
      rw [nI_tn (by omega), phV_0, (hel ph hph).1]
      refine g_iadd C dX10_looksAt_76 ?_
      rw [nI_add]
      refine g_icmp_ge C 143 dX10_looksAt_77 (by decide) (fun c_77 => ?_) (fun c_77 => ?_)
      · first
        | exact absurd (nI_le_of c_77 (by omega) (by omega)) (by omega)
        | exact absurd (nI_le_of (a := 60) c_84 (by omega) (by omega)) (by omega)
      · refine g_iload C dX10_looksAt_80 rfl ?_
        refine g_bipush C 60 dX10_looksAt_82 (by rfl) ?_
        refine g_icmp_ge C 143 dX10_looksAt_84 (by decide) (fun c_84 => ?_) (fun c_84 => ?_)
        · first
          | exact absurd (nI_le_of c_77 (by omega) (by omega)) (by omega)
          | exact absurd (nI_le_of (a := 60) c_84 (by omega) (by omega)) (by omega)
        · refine g_iload C dX10_looksAt_87 rfl ?_
          refine g_aload_n C dX10_looksAt_89 rfl ?_
          refine g_getR (b := (ad 28)) C cls_11 12 28 hm.1 (rm_28 hm).1 rfl k_943 dX10_looksAt_90 ?_
          refine g_iload C dX10_looksAt_93 rfl ?_
          refine g_iald C 2280 (rm_28 hm).2.1 rfl (by rw [(rm_28 hm).2.2]; exact nI_vp (show f0 + i < 60 by omega) (by omega)) dX10_looksAt_95 ?_
          rw [nI_tn (by omega)]
          refine g_iadd C dX10_looksAt_96 ?_
          refine g_istore C dX10_looksAt_97 (by decide) ?_
          refine g_cutS (pc' := 119) (.int (nI (dryN (aI w 2280 (ad 28)) f0 (i + 1)).2)) ?_ (fun j_119 => ?_)
          · refine g_istore C dX10_looksAt_119 (by decide) ?_
            refine g_cutS (pc' := 135) (.int (nI (dryN (aI w 2280 (ad 28)) f0 (i + 1)).1)) ?_ (fun j_135 => ?_)
            · refine g_istore C dX10_looksAt_135 (by decide) ?_
              refine g_iinc C dX10_looksAt_137 rfl (nI_1 (f0 + i)) (by decide) ?_
              refine g_goto C 65 dX10_looksAt_140 (by decide) ?_
              have h9 := ih (i + 1) (by omega)
              exact g_lv2 [(0, .ref mo), (1, .int (nI pr)), (2, .int (nI ph)), (3, .int (oI (begO (aI w 2280 (ad 28)) 58))), (4, .int (nI (5 * (3 * pr + ph)))), (5, .int (nI f0)), (6, .int (sumF (aI w 2280 (ad 28)) f0 (i + 1))), (7, .int (nI (dryN (aI w 2280 (ad 28)) f0 (i + 1)).2)), (8, .int (nI (dryN (aI w 2280 (ad 28)) f0 (i + 1)).1)), (9, .int (nI (f0 + (i + 1))))] rfl h9
            · refine g_iload C dX10_looksAt_121 rfl ?_
              refine g_iload C dX10_looksAt_123 rfl ?_
              refine g_icmp_le C 133 dX10_looksAt_125 (by decide) (fun c_125 => ?_) (fun c_125 => ?_)
              · refine g_iload C dX10_looksAt_133 rfl ?_
                exact g_eq rfl (congrArg (fun v => Value.int v :: _) (by first | exact dry_m1 (by omega) c_125 | exact dry_m0 (by omega) c_125)) rfl j_135
              · refine g_iload C dX10_looksAt_128 rfl ?_
                refine g_goto C 135 dX10_looksAt_130 (by decide) ?_
                exact g_eq rfl (congrArg (fun v => Value.int v :: _) (by first | exact dry_m1 (by omega) c_125 | exact dry_m0 (by omega) c_125)) rfl j_135
          · refine g_aload_n C dX10_looksAt_99 rfl ?_
            refine g_getR (b := (ad 28)) C cls_11 12 28 hm.1 (rm_28 hm).1 rfl k_943 dX10_looksAt_100 ?_
            refine g_iload C dX10_looksAt_103 rfl ?_
            refine g_iald C 2280 (rm_28 hm).2.1 rfl (by rw [(rm_28 hm).2.2]; exact nI_vp (show f0 + i < 60 by omega) (by omega)) dX10_looksAt_105 ?_
            rw [nI_tn (by omega)]
            refine g_bipush C 10 dX10_looksAt_106 (by rfl) ?_
            refine g_icmp_ge C 118 dX10_looksAt_108 (by decide) (fun c_108 => ?_) (fun c_108 => ?_)
            · refine g_iconst C 0 dX10_looksAt_118 (by rfl) ?_
              exact g_eq rfl (congrArg (fun v => Value.int v :: _) (by first | exact dry_r1 (Int32.not_le.mp c_108) | exact dry_r0 (Int32.not_lt.mpr c_108))) rfl j_119
            · refine g_iload C dX10_looksAt_111 rfl ?_
              refine g_iconst C 1 dX10_looksAt_113 (by rfl) ?_
              refine g_iadd C dX10_looksAt_114 ?_
              refine g_goto C 119 dX10_looksAt_115 (by decide) ?_
              exact g_eq rfl (congrArg (fun v => Value.int v :: _) (by first | exact dry_r1 (Int32.not_le.mp c_108) | exact dry_r0 (Int32.not_lt.mpr c_108))) rfl j_119
  have loop1 : ∀ (k i : Nat), i + k = ph → G p l e R s m args below meth c D cy z 10 w 0 0 22 [(0, .ref mo), (1, .int (nI pr)), (2, .int (nI ph)), (3, .int (oI (begO (aI w 2280 (ad 28)) 58))), (4, .int (nI (5 * (3 * pr + ph)))), (5, .int (nI (b0 + dSum dN i))), (6, .int (nI i))] [] (QM below args s D cy z (fun r w' => r = some (.int (lookV (aI w 2280 (ad 28)) (phV w ad pr 1 ph) (dN ph) (stN (aI w 2280 (ad 28)) + dSum dN ph))) ∧ w = w') 0 0) := by
    intro k
    induction k with
    | zero =>
      intro i hik
      have hi9 : i = ph := by omega
      have hdi := hds i (by omega)
      refine g_iload C dX10_looksAt_22 rfl ?_
      refine g_iload_n C dX10_looksAt_24 rfl ?_
      refine g_icmp_ge C 52 dX10_looksAt_25 (by decide) (fun c_25 => ?_) (fun c_25 => ?_)
      · refine g_iconst C 0 dX10_looksAt_52 (by rfl) ?_
        refine g_istore C dX10_looksAt_53 (by decide) ?_
        refine g_iconst C 0 dX10_looksAt_55 (by rfl) ?_
        refine g_istore C dX10_looksAt_56 (by decide) ?_
        refine g_iconst C 0 dX10_looksAt_58 (by rfl) ?_
        refine g_istore C dX10_looksAt_59 (by decide) ?_
        refine g_iload C dX10_looksAt_61 rfl ?_
        refine g_istore C dX10_looksAt_63 (by decide) ?_
        rw [hi9, ← hf0]
        exact g_lv2 [(0, .ref mo), (1, .int (nI pr)), (2, .int (nI ph)), (3, .int (oI (begO (aI w 2280 (ad 28)) 58))), (4, .int (nI (5 * (3 * pr + ph)))), (5, .int (nI f0)), (6, .int (sumF (aI w 2280 (ad 28)) f0 0)), (7, .int (nI (dryN (aI w 2280 (ad 28)) f0 0).2)), (8, .int (nI (dryN (aI w 2280 (ad 28)) f0 0).1)), (9, .int (nI (f0 + 0)))] rfl (loop2 N 0 (by omega))
      · exact absurd (nI_nle_of c_25 (by omega) (by omega)) (by omega)
    | succ k ih =>
      intro i hik
      have hdi := hds i (by omega)
      refine g_iload C dX10_looksAt_22 rfl ?_
      refine g_iload_n C dX10_looksAt_24 rfl ?_
      refine g_icmp_ge C 52 dX10_looksAt_25 (by decide) (fun c_25 => ?_) (fun c_25 => ?_)
      · exact absurd (nI_le_of c_25 (by omega) (by omega)) (by omega)
      · refine g_iload C dX10_looksAt_28 rfl ?_
        refine g_aload_n C dX10_looksAt_30 rfl ?_
        refine g_getR (b := (ad 7)) C cls_11 12 7 hm.1 (rm_7 hm).1 rfl k_922 dX10_looksAt_31 ?_
        refine g_iconst C 5 dX10_looksAt_34 (by rfl) ?_
        refine g_iconst C 3 dX10_looksAt_35 (by rfl) ?_
        refine g_iload_n C dX10_looksAt_36 rfl ?_
        refine g_imul C dX10_looksAt_37 ?_
        refine g_iload C dX10_looksAt_38 rfl ?_
        refine g_iadd C dX10_looksAt_40 ?_
        refine g_imul C dX10_looksAt_41 ?_
        rw [ix5]
        refine g_iald C 2070 (rm_7 hm).2.1 rfl (by rw [(rm_7 hm).2.2]; exact nI_vp (show 5 * (3 * pr + i) < 105 by omega) (by omega)) dX10_looksAt_42 ?_
        rw [nI_tn (by omega), phV_0, (hel i (by omega)).1]
        refine g_iadd C dX10_looksAt_43 ?_
        rw [nI_add, show b0 + dSum dN i + dN i = b0 + dSum dN (i + 1) from Nat.add_assoc _ _ _]
        refine g_istore C dX10_looksAt_44 (by decide) ?_
        refine g_iinc C dX10_looksAt_46 rfl (nI_1 i) (by decide) ?_
        refine g_goto C 22 dX10_looksAt_49 (by decide) ?_
        have h9 := ih (i + 1) (by omega)
        exact g_lv2 [(0, .ref mo), (1, .int (nI pr)), (2, .int (nI ph)), (3, .int (oI (begO (aI w 2280 (ad 28)) 58))), (4, .int (nI (5 * (3 * pr + ph)))), (5, .int (nI (b0 + dSum dN (i + 1)))), (6, .int (nI (i + 1)))] rfl h9
  refine g_aload_n C dX10_looksAt_0 rfl ?_
  refine g_callV C cls_11 12 mt_X10_beginning [] (c_X10_beginning de w mo ad hm) hm.1 (by decide) k_1060 rfl rfl (Nat.le_of_ble_eq_true rfl) (by decide) (by decide) (by decide) (by decide) dX10_looksAt_1 (fun r_1 w_1 hp_1 => ?_)
  obtain ⟨rfl, rfl⟩ := hp_1
  refine g_istore_n C dX10_looksAt_4 (by decide) ?_
  refine g_iconst C 5 dX10_looksAt_5 (by rfl) ?_
  refine g_iconst C 3 dX10_looksAt_6 (by rfl) ?_
  refine g_iload_n C dX10_looksAt_7 rfl ?_
  refine g_imul C dX10_looksAt_8 ?_
  refine g_iload_n C dX10_looksAt_9 rfl ?_
  refine g_iadd C dX10_looksAt_10 ?_
  refine g_imul C dX10_looksAt_11 ?_
  rw [ix5]
  refine g_istore C dX10_looksAt_12 (by decide) ?_
  refine g_iload_n C dX10_looksAt_14 rfl ?_
  refine g_iconst C 1 dX10_looksAt_15 (by rfl) ?_
  refine g_iadd C dX10_looksAt_16 ?_
  rw [hb1]
  refine g_istore C dX10_looksAt_17 (by decide) ?_
  refine g_iconst C 0 dX10_looksAt_19 (by rfl) ?_
  refine g_istore C dX10_looksAt_20 (by decide) ?_
  exact g_lv2 [(0, .ref mo), (1, .int (nI pr)), (2, .int (nI ph)), (3, .int (oI (begO (aI w 2280 (ad 28)) 58))), (4, .int (nI (5 * (3 * pr + ph)))), (5, .int (nI (b0 + dSum dN 0))), (6, .int (nI 0))] rfl (loop1 ph 0 (by omega))
theorem dX10_pays_0 : decode cX10_pays 0 = .ok (.iconst 5, 1) := by decide +kernel
theorem dX10_pays_1 : decode cX10_pays 1 = .ok (.iconst 3, 1) := by decide +kernel
theorem dX10_pays_2 : decode cX10_pays 2 = .ok (.iload_n 1, 1) := by decide +kernel
theorem dX10_pays_3 : decode cX10_pays 3 = .ok (.imul, 1) := by decide +kernel
theorem dX10_pays_4 : decode cX10_pays 4 = .ok (.iload_n 2, 1) := by decide +kernel
theorem dX10_pays_5 : decode cX10_pays 5 = .ok (.iadd, 1) := by decide +kernel
theorem dX10_pays_6 : decode cX10_pays 6 = .ok (.imul, 1) := by decide +kernel
theorem dX10_pays_7 : decode cX10_pays 7 = .ok (.istore_n 3, 1) := by decide +kernel
theorem dX10_pays_8 : decode cX10_pays 8 = .ok (.aload_n 0, 1) := by decide +kernel
theorem dX10_pays_9 : decode cX10_pays 9 = .ok (.iload_n 1, 1) := by decide +kernel
theorem dX10_pays_10 : decode cX10_pays 10 = .ok (.iload_n 2, 1) := by decide +kernel
theorem dX10_pays_11 : decode cX10_pays 11 = .ok (.invokevirtual 130, 3) := by decide +kernel
theorem dX10_pays_14 : decode cX10_pays 14 = .ok (.istore 4, 2) := by decide +kernel
theorem dX10_pays_16 : decode cX10_pays 16 = .ok (.aload_n 0, 1) := by decide +kernel
theorem dX10_pays_17 : decode cX10_pays 17 = .ok (.getfield 22, 3) := by decide +kernel
theorem dX10_pays_20 : decode cX10_pays 20 = .ok (.iload_n 3, 1) := by decide +kernel
theorem dX10_pays_21 : decode cX10_pays 21 = .ok (.iconst 1, 1) := by decide +kernel
theorem dX10_pays_22 : decode cX10_pays 22 = .ok (.iadd, 1) := by decide +kernel
theorem dX10_pays_23 : decode cX10_pays 23 = .ok (.iaload, 1) := by decide +kernel
theorem dX10_pays_24 : decode cX10_pays 24 = .ok (.iconst 1, 1) := by decide +kernel
theorem dX10_pays_25 : decode cX10_pays 25 = .ok (.if_icmp .ne 17, 3) := by decide +kernel
theorem dX10_pays_28 : decode cX10_pays 28 = .ok (.iload 4, 2) := by decide +kernel
theorem dX10_pays_30 : decode cX10_pays 30 = .ok (.aload_n 0, 1) := by decide +kernel
theorem dX10_pays_31 : decode cX10_pays 31 = .ok (.getfield 22, 3) := by decide +kernel
theorem dX10_pays_34 : decode cX10_pays 34 = .ok (.iload_n 3, 1) := by decide +kernel
theorem dX10_pays_35 : decode cX10_pays 35 = .ok (.iconst 2, 1) := by decide +kernel
theorem dX10_pays_36 : decode cX10_pays 36 = .ok (.iadd, 1) := by decide +kernel
theorem dX10_pays_37 : decode cX10_pays 37 = .ok (.iaload, 1) := by decide +kernel
theorem dX10_pays_38 : decode cX10_pays 38 = .ok (.isub, 1) := by decide +kernel
theorem dX10_pays_39 : decode cX10_pays 39 = .ok (.goto 14, 3) := by decide +kernel
theorem dX10_pays_42 : decode cX10_pays 42 = .ok (.aload_n 0, 1) := by decide +kernel
theorem dX10_pays_43 : decode cX10_pays 43 = .ok (.getfield 22, 3) := by decide +kernel
theorem dX10_pays_46 : decode cX10_pays 46 = .ok (.iload_n 3, 1) := by decide +kernel
theorem dX10_pays_47 : decode cX10_pays 47 = .ok (.iconst 2, 1) := by decide +kernel
theorem dX10_pays_48 : decode cX10_pays 48 = .ok (.iadd, 1) := by decide +kernel
theorem dX10_pays_49 : decode cX10_pays 49 = .ok (.iaload, 1) := by decide +kernel
theorem dX10_pays_50 : decode cX10_pays 50 = .ok (.iload 4, 2) := by decide +kernel
theorem dX10_pays_52 : decode cX10_pays 52 = .ok (.isub, 1) := by decide +kernel
theorem dX10_pays_53 : decode cX10_pays 53 = .ok (.istore 5, 2) := by decide +kernel
theorem dX10_pays_55 : decode cX10_pays 55 = .ok (.aload_n 0, 1) := by decide +kernel
theorem dX10_pays_56 : decode cX10_pays 56 = .ok (.getfield 22, 3) := by decide +kernel
theorem dX10_pays_59 : decode cX10_pays 59 = .ok (.iload_n 3, 1) := by decide +kernel
theorem dX10_pays_60 : decode cX10_pays 60 = .ok (.iconst 1, 1) := by decide +kernel
theorem dX10_pays_61 : decode cX10_pays 61 = .ok (.iadd, 1) := by decide +kernel
theorem dX10_pays_62 : decode cX10_pays 62 = .ok (.iaload, 1) := by decide +kernel
theorem dX10_pays_63 : decode cX10_pays 63 = .ok (.iconst 1, 1) := by decide +kernel
theorem dX10_pays_64 : decode cX10_pays 64 = .ok (.if_icmp .ne 23, 3) := by decide +kernel
theorem dX10_pays_67 : decode cX10_pays 67 = .ok (.aload_n 0, 1) := by decide +kernel
theorem dX10_pays_68 : decode cX10_pays 68 = .ok (.getfield 22, 3) := by decide +kernel
theorem dX10_pays_71 : decode cX10_pays 71 = .ok (.iload_n 3, 1) := by decide +kernel
theorem dX10_pays_72 : decode cX10_pays 72 = .ok (.iconst 3, 1) := by decide +kernel
theorem dX10_pays_73 : decode cX10_pays 73 = .ok (.iadd, 1) := by decide +kernel
theorem dX10_pays_74 : decode cX10_pays 74 = .ok (.iaload, 1) := by decide +kernel
theorem dX10_pays_75 : decode cX10_pays 75 = .ok (.aload_n 0, 1) := by decide +kernel
theorem dX10_pays_76 : decode cX10_pays 76 = .ok (.getfield 22, 3) := by decide +kernel
theorem dX10_pays_79 : decode cX10_pays 79 = .ok (.iload_n 3, 1) := by decide +kernel
theorem dX10_pays_80 : decode cX10_pays 80 = .ok (.iconst 2, 1) := by decide +kernel
theorem dX10_pays_81 : decode cX10_pays 81 = .ok (.iadd, 1) := by decide +kernel
theorem dX10_pays_82 : decode cX10_pays 82 = .ok (.iaload, 1) := by decide +kernel
theorem dX10_pays_83 : decode cX10_pays 83 = .ok (.isub, 1) := by decide +kernel
theorem dX10_pays_84 : decode cX10_pays 84 = .ok (.goto 20, 3) := by decide +kernel
theorem dX10_pays_87 : decode cX10_pays 87 = .ok (.aload_n 0, 1) := by decide +kernel
theorem dX10_pays_88 : decode cX10_pays 88 = .ok (.getfield 22, 3) := by decide +kernel
theorem dX10_pays_91 : decode cX10_pays 91 = .ok (.iload_n 3, 1) := by decide +kernel
theorem dX10_pays_92 : decode cX10_pays 92 = .ok (.iconst 2, 1) := by decide +kernel
theorem dX10_pays_93 : decode cX10_pays 93 = .ok (.iadd, 1) := by decide +kernel
theorem dX10_pays_94 : decode cX10_pays 94 = .ok (.iaload, 1) := by decide +kernel
theorem dX10_pays_95 : decode cX10_pays 95 = .ok (.aload_n 0, 1) := by decide +kernel
theorem dX10_pays_96 : decode cX10_pays 96 = .ok (.getfield 22, 3) := by decide +kernel
theorem dX10_pays_99 : decode cX10_pays 99 = .ok (.iload_n 3, 1) := by decide +kernel
theorem dX10_pays_100 : decode cX10_pays 100 = .ok (.iconst 3, 1) := by decide +kernel
theorem dX10_pays_101 : decode cX10_pays 101 = .ok (.iadd, 1) := by decide +kernel
theorem dX10_pays_102 : decode cX10_pays 102 = .ok (.iaload, 1) := by decide +kernel
theorem dX10_pays_103 : decode cX10_pays 103 = .ok (.isub, 1) := by decide +kernel
theorem dX10_pays_104 : decode cX10_pays 104 = .ok (.istore 6, 2) := by decide +kernel
theorem dX10_pays_106 : decode cX10_pays 106 = .ok (.iload 5, 2) := by decide +kernel
theorem dX10_pays_108 : decode cX10_pays 108 = .ok (.ifCond .gt 7, 3) := by decide +kernel
theorem dX10_pays_111 : decode cX10_pays 111 = .ok (.iconst 0, 1) := by decide +kernel
theorem dX10_pays_112 : decode cX10_pays 112 = .ok (.goto 25, 3) := by decide +kernel
theorem dX10_pays_115 : decode cX10_pays 115 = .ok (.iload 5, 2) := by decide +kernel
theorem dX10_pays_117 : decode cX10_pays 117 = .ok (.iload 6, 2) := by decide +kernel
theorem dX10_pays_119 : decode cX10_pays 119 = .ok (.if_icmp .lt 9, 3) := by decide +kernel
theorem dX10_pays_122 : decode cX10_pays 122 = .ok (.sipush 1000, 3) := by decide +kernel
theorem dX10_pays_125 : decode cX10_pays 125 = .ok (.goto 12, 3) := by decide +kernel
theorem dX10_pays_128 : decode cX10_pays 128 = .ok (.sipush 1000, 3) := by decide +kernel
theorem dX10_pays_131 : decode cX10_pays 131 = .ok (.iload 5, 2) := by decide +kernel
theorem dX10_pays_133 : decode cX10_pays 133 = .ok (.imul, 1) := by decide +kernel
theorem dX10_pays_134 : decode cX10_pays 134 = .ok (.iload 6, 2) := by decide +kernel
theorem dX10_pays_136 : decode cX10_pays 136 = .ok (.idiv, 1) := by decide +kernel
theorem dX10_pays_137 : decode cX10_pays 137 = .ok (.ireturn, 1) := by decide +kernel
set_option maxHeartbeats 4000000 in
set_option maxRecDepth 100000 in
theorem c_X10_pays (de : Nat) (w : Wd) (mo : Nat) (ad : Nat → Nat) (hm : RM w mo ad) (pr n : Nat) (dN : Nat → Nat) (hpr : pr < 7) (hp : RPH w ad pr n dN) (ph : Nat) (hph : ph < n) : Ct yX10_pays cX10_pays 7 (some .int) 3 74 0 0 de [.ref mo, .int (nI pr), .int (nI ph)] w (fun r w' => r = some (.int (payV (phV w ad pr 1 ph) (phV w ad pr 2 ph) (phV w ad pr 3 ph) (lookV (aI w 2280 (ad 28)) (phV w ad pr 1 ph) (dN ph) (stN (aI w 2280 (ad 28)) + dSum dN ph)))) ∧ w = w') := by
  refine Ct.mk (by decide +kernel) [(0, .ref mo), (1, .int (nI pr)), (2, .int (nI ph))] rfl (Nat.le_of_ble_eq_true rfl) ?_
  intro p l e R s m args below meth c D cy z C hnm
  refine g_iconst C 5 dX10_pays_0 (by rfl) ?_
  refine g_iconst C 3 dX10_pays_1 (by rfl) ?_
  refine g_iload_n C dX10_pays_2 rfl ?_
  refine g_imul C dX10_pays_3 ?_
  refine g_iload_n C dX10_pays_4 rfl ?_
  refine g_iadd C dX10_pays_5 ?_
  refine g_imul C dX10_pays_6 ?_
  rw [ix5]
  have hn3 := hp.1
  have h01 := (hp.2 ph hph).2.2
  refine g_istore_n C dX10_pays_7 (by decide) ?_
  refine g_aload_n C dX10_pays_8 rfl ?_
  refine g_iload_n C dX10_pays_9 rfl ?_
  refine g_iload_n C dX10_pays_10 rfl ?_
  refine g_callV C cls_11 12 mt_X10_looksAt [.int (nI pr), .int (nI ph)] (c_X10_looksAt de w mo ad hm pr n dN hpr hp ph hph) hm.1 (by decide) k_1084 rfl rfl (Nat.le_of_ble_eq_true rfl) (by decide) (by decide) (by decide) (by decide) dX10_pays_11 (fun r_11 w_11 hp_11 => ?_)
  obtain ⟨rfl, rfl⟩ := hp_11
  refine g_istore C dX10_pays_14 (by decide) ?_
  refine g_cutS (pc' := 53) (.int (if phV w ad pr 1 ph = 0 then phV w ad pr 2 ph - (lookV (aI w 2280 (ad 28)) (phV w ad pr 1 ph) (dN ph) (stN (aI w 2280 (ad 28)) + dSum dN ph)) else (lookV (aI w 2280 (ad 28)) (phV w ad pr 1 ph) (dN ph) (stN (aI w 2280 (ad 28)) + dSum dN ph)) - phV w ad pr 2 ph)) ?_ (fun j_53 => ?_)
  · refine g_istore C dX10_pays_53 (by decide) ?_
    refine g_cutS (pc' := 104) (.int (if phV w ad pr 1 ph = 0 then phV w ad pr 2 ph - phV w ad pr 3 ph else phV w ad pr 3 ph - phV w ad pr 2 ph)) ?_ (fun j_104 => ?_)
    · refine g_istore C dX10_pays_104 (by decide) ?_
      refine g_iload C dX10_pays_106 rfl ?_
      refine g_if_gt C 115 dX10_pays_108 (by decide) (fun c_108 => ?_) (fun c_108 => ?_)
      · refine g_iload C dX10_pays_115 rfl ?_
        refine g_iload C dX10_pays_117 rfl ?_
        refine g_icmp_lt C 128 dX10_pays_119 (by decide) (fun c_119 => ?_) (fun c_119 => ?_)
        · refine g_sipush C 1000 dX10_pays_128 (by rfl) ?_
          refine g_iload C dX10_pays_131 rfl ?_
          refine g_imul C dX10_pays_133 ?_
          refine g_iload C dX10_pays_134 rfl ?_
          refine g_idiv C dX10_pays_136 (pay_ne c_108 c_119) ?_
          refine g_iret C rfl rfl (by decide) (by decide) dX10_pays_137 ?_
          first
          | exact ⟨congrArg (fun v => some (Value.int v)) (payV_0 rfl rfl (Int32.not_lt.mp c_108)).symm, rfl⟩
          | exact ⟨congrArg (fun v => some (Value.int v)) (payV_4 rfl rfl (Int32.not_le.mpr c_108) (Int32.not_lt.mp c_119)).symm, rfl⟩
          | exact ⟨congrArg (fun v => some (Value.int v)) (payV_5 rfl rfl (Int32.not_le.mpr c_108) c_119).symm, rfl⟩
        · refine g_sipush C 1000 dX10_pays_122 (by rfl) ?_
          refine g_goto C 137 dX10_pays_125 (by decide) ?_
          refine g_iret C rfl rfl (by decide) (by decide) dX10_pays_137 ?_
          first
          | exact ⟨congrArg (fun v => some (Value.int v)) (payV_0 rfl rfl (Int32.not_lt.mp c_108)).symm, rfl⟩
          | exact ⟨congrArg (fun v => some (Value.int v)) (payV_4 rfl rfl (Int32.not_le.mpr c_108) (Int32.not_lt.mp c_119)).symm, rfl⟩
          | exact ⟨congrArg (fun v => some (Value.int v)) (payV_5 rfl rfl (Int32.not_le.mpr c_108) c_119).symm, rfl⟩
      · refine g_iconst C 0 dX10_pays_111 (by rfl) ?_
        refine g_goto C 137 dX10_pays_112 (by decide) ?_
        refine g_iret C rfl rfl (by decide) (by decide) dX10_pays_137 ?_
        first
        | exact ⟨congrArg (fun v => some (Value.int v)) (payV_0 rfl rfl (Int32.not_lt.mp c_108)).symm, rfl⟩
        | exact ⟨congrArg (fun v => some (Value.int v)) (payV_4 rfl rfl (Int32.not_le.mpr c_108) (Int32.not_lt.mp c_119)).symm, rfl⟩
        | exact ⟨congrArg (fun v => some (Value.int v)) (payV_5 rfl rfl (Int32.not_le.mpr c_108) c_119).symm, rfl⟩
    · refine g_aload_n C dX10_pays_55 rfl ?_
      refine g_getR (b := (ad 7)) C cls_11 12 7 hm.1 (rm_7 hm).1 rfl k_922 dX10_pays_56 ?_
      refine g_iload_n C dX10_pays_59 rfl ?_
      refine g_iconst C 1 dX10_pays_60 (by rfl) ?_
      refine g_iadd C dX10_pays_61 ?_
      rw [show nI (5 * (3 * pr + ph)) + 1 = nI (5 * (3 * pr + ph) + 1) from nI_add _ 1]
      refine g_iald C 2070 (rm_7 hm).2.1 rfl (by rw [(rm_7 hm).2.2]; exact nI_vp (show 5 * (3 * pr + ph) + 1 < 105 by omega) (by omega)) dX10_pays_62 ?_
      rw [nI_tn (by omega), phV_e]
      refine g_iconst C 1 dX10_pays_63 (by rfl) ?_
      refine g_icmp_ne C 87 dX10_pays_64 (by decide) (fun c_64 => ?_) (fun c_64 => ?_)
      · refine g_aload_n C dX10_pays_87 rfl ?_
        refine g_getR (b := (ad 7)) C cls_11 12 7 hm.1 (rm_7 hm).1 rfl k_922 dX10_pays_88 ?_
        refine g_iload_n C dX10_pays_91 rfl ?_
        refine g_iconst C 2 dX10_pays_92 (by rfl) ?_
        refine g_iadd C dX10_pays_93 ?_
        rw [show nI (5 * (3 * pr + ph)) + 2 = nI (5 * (3 * pr + ph) + 2) from nI_add _ 2]
        refine g_iald C 2070 (rm_7 hm).2.1 rfl (by rw [(rm_7 hm).2.2]; exact nI_vp (show 5 * (3 * pr + ph) + 2 < 105 by omega) (by omega)) dX10_pays_94 ?_
        rw [nI_tn (by omega), phV_e]
        refine g_aload_n C dX10_pays_95 rfl ?_
        refine g_getR (b := (ad 7)) C cls_11 12 7 hm.1 (rm_7 hm).1 rfl k_922 dX10_pays_96 ?_
        refine g_iload_n C dX10_pays_99 rfl ?_
        refine g_iconst C 3 dX10_pays_100 (by rfl) ?_
        refine g_iadd C dX10_pays_101 ?_
        rw [show nI (5 * (3 * pr + ph)) + 3 = nI (5 * (3 * pr + ph) + 3) from nI_add _ 3]
        refine g_iald C 2070 (rm_7 hm).2.1 rfl (by rw [(rm_7 hm).2.2]; exact nI_vp (show 5 * (3 * pr + ph) + 3 < 105 by omega) (by omega)) dX10_pays_102 ?_
        rw [nI_tn (by omega), phV_e]
        refine g_isub C dX10_pays_103 ?_
        exact g_eq rfl (congrArg (fun v => Value.int v :: _) (by first | exact (if_neg (by rw [c_64]; decide)).symm | exact (if_pos (dry01 h01 c_64)).symm)) rfl j_104
      · refine g_aload_n C dX10_pays_67 rfl ?_
        refine g_getR (b := (ad 7)) C cls_11 12 7 hm.1 (rm_7 hm).1 rfl k_922 dX10_pays_68 ?_
        refine g_iload_n C dX10_pays_71 rfl ?_
        refine g_iconst C 3 dX10_pays_72 (by rfl) ?_
        refine g_iadd C dX10_pays_73 ?_
        rw [show nI (5 * (3 * pr + ph)) + 3 = nI (5 * (3 * pr + ph) + 3) from nI_add _ 3]
        refine g_iald C 2070 (rm_7 hm).2.1 rfl (by rw [(rm_7 hm).2.2]; exact nI_vp (show 5 * (3 * pr + ph) + 3 < 105 by omega) (by omega)) dX10_pays_74 ?_
        rw [nI_tn (by omega), phV_e]
        refine g_aload_n C dX10_pays_75 rfl ?_
        refine g_getR (b := (ad 7)) C cls_11 12 7 hm.1 (rm_7 hm).1 rfl k_922 dX10_pays_76 ?_
        refine g_iload_n C dX10_pays_79 rfl ?_
        refine g_iconst C 2 dX10_pays_80 (by rfl) ?_
        refine g_iadd C dX10_pays_81 ?_
        rw [show nI (5 * (3 * pr + ph)) + 2 = nI (5 * (3 * pr + ph) + 2) from nI_add _ 2]
        refine g_iald C 2070 (rm_7 hm).2.1 rfl (by rw [(rm_7 hm).2.2]; exact nI_vp (show 5 * (3 * pr + ph) + 2 < 105 by omega) (by omega)) dX10_pays_82 ?_
        rw [nI_tn (by omega), phV_e]
        refine g_isub C dX10_pays_83 ?_
        refine g_goto C 104 dX10_pays_84 (by decide) ?_
        exact g_eq rfl (congrArg (fun v => Value.int v :: _) (by first | exact (if_neg (by rw [c_64]; decide)).symm | exact (if_pos (dry01 h01 c_64)).symm)) rfl j_104
  · refine g_aload_n C dX10_pays_16 rfl ?_
    refine g_getR (b := (ad 7)) C cls_11 12 7 hm.1 (rm_7 hm).1 rfl k_922 dX10_pays_17 ?_
    refine g_iload_n C dX10_pays_20 rfl ?_
    refine g_iconst C 1 dX10_pays_21 (by rfl) ?_
    refine g_iadd C dX10_pays_22 ?_
    rw [show nI (5 * (3 * pr + ph)) + 1 = nI (5 * (3 * pr + ph) + 1) from nI_add _ 1]
    refine g_iald C 2070 (rm_7 hm).2.1 rfl (by rw [(rm_7 hm).2.2]; exact nI_vp (show 5 * (3 * pr + ph) + 1 < 105 by omega) (by omega)) dX10_pays_23 ?_
    rw [nI_tn (by omega), phV_e]
    refine g_iconst C 1 dX10_pays_24 (by rfl) ?_
    refine g_icmp_ne C 42 dX10_pays_25 (by decide) (fun c_25 => ?_) (fun c_25 => ?_)
    · refine g_aload_n C dX10_pays_42 rfl ?_
      refine g_getR (b := (ad 7)) C cls_11 12 7 hm.1 (rm_7 hm).1 rfl k_922 dX10_pays_43 ?_
      refine g_iload_n C dX10_pays_46 rfl ?_
      refine g_iconst C 2 dX10_pays_47 (by rfl) ?_
      refine g_iadd C dX10_pays_48 ?_
      rw [show nI (5 * (3 * pr + ph)) + 2 = nI (5 * (3 * pr + ph) + 2) from nI_add _ 2]
      refine g_iald C 2070 (rm_7 hm).2.1 rfl (by rw [(rm_7 hm).2.2]; exact nI_vp (show 5 * (3 * pr + ph) + 2 < 105 by omega) (by omega)) dX10_pays_49 ?_
      rw [nI_tn (by omega), phV_e]
      refine g_iload C dX10_pays_50 rfl ?_
      refine g_isub C dX10_pays_52 ?_
      exact g_eq rfl (congrArg (fun v => Value.int v :: _) (by first | exact (if_neg (by rw [c_25]; decide)).symm | exact (if_pos (dry01 h01 c_25)).symm)) rfl j_53
    · refine g_iload C dX10_pays_28 rfl ?_
      refine g_aload_n C dX10_pays_30 rfl ?_
      refine g_getR (b := (ad 7)) C cls_11 12 7 hm.1 (rm_7 hm).1 rfl k_922 dX10_pays_31 ?_
      refine g_iload_n C dX10_pays_34 rfl ?_
      refine g_iconst C 2 dX10_pays_35 (by rfl) ?_
      refine g_iadd C dX10_pays_36 ?_
      rw [show nI (5 * (3 * pr + ph)) + 2 = nI (5 * (3 * pr + ph) + 2) from nI_add _ 2]
      refine g_iald C 2070 (rm_7 hm).2.1 rfl (by rw [(rm_7 hm).2.2]; exact nI_vp (show 5 * (3 * pr + ph) + 2 < 105 by omega) (by omega)) dX10_pays_37 ?_
      rw [nI_tn (by omega), phV_e]
      refine g_isub C dX10_pays_38 ?_
      refine g_goto C 53 dX10_pays_39 (by decide) ?_
      exact g_eq rfl (congrArg (fun v => Value.int v :: _) (by first | exact (if_neg (by rw [c_25]; decide)).symm | exact (if_pos (dry01 h01 c_25)).symm)) rfl j_53
end REF16
