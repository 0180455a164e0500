section LEAF8
theorem i32_lt {a b : Int32} : a < b ↔ a.toInt < b.toInt := Int32.lt_iff_toInt_lt
theorem i32_le {a b : Int32} : a ≤ b ↔ a.toInt ≤ b.toInt := Int32.le_iff_toInt_le
theorem i32_eq {a b : Int32} : a = b ↔ a.toInt = b.toInt := Int32.toInt_inj.symm
theorem inR_iff {n lo hi : Int32} : inR n lo hi = true ↔ lo.toInt ≤ n.toInt ∧ n.toInt ≤ hi.toInt := by simp [inR, i32_le]
theorem inR_T {n lo hi : Int32} (h1 : ¬ n < lo) (h2 : ¬ hi < n) : (1 : Int32) = bI (inR n lo hi) := by
  rw [i32_lt] at h1 h2
  rw [inR_iff.mpr ⟨by omega, by omega⟩]
  rfl
theorem inR_F {n lo hi : Int32} (h : inR n lo hi = false) : (0 : Int32) = bI (inR n lo hi) := by rw [h]; rfl
theorem inR_F1 {n lo hi : Int32} (h1 : n < lo) : (0 : Int32) = bI (inR n lo hi) := inR_F (by
  rw [i32_lt] at h1
  rw [← Bool.not_eq_true, inR_iff]
  omega)
theorem inR_F2 {n lo hi : Int32} (h1 : hi < n) : (0 : Int32) = bI (inR n lo hi) := inR_F (by
  rw [i32_lt] at h1
  rw [← Bool.not_eq_true, inR_iff]
  omega)
theorem i32_less1 {x y : Int32} (h : y ≤ x) : y = if x < y then x else y := by
  rw [if_neg (by rw [i32_lt]; rw [i32_le] at h; omega)]
theorem i32_less2 {x y : Int32} (h : ¬ y ≤ x) : x = if x < y then x else y := by
  rw [if_pos (by rw [i32_lt]; rw [i32_le] at h; omega)]
theorem inR19 {x : Int32} (h1 : ¬ x < 0) (h2 : x < 20) : inR x 0 19 = true := by
  rw [i32_lt] at h1 h2
  rw [inR_iff]
  simp at h1 h2 ⊢
  omega
theorem inR19n {x : Int32} (h : x < 0 ∨ ¬ x < 20) : inR x 0 19 = false := by
  rw [i32_lt, i32_lt] at h
  rw [← Bool.not_eq_true, inR_iff]
  simp at h ⊢
  omega
theorem dX9_isWithin_0 : decode cX9_isWithin 0 = .ok (.iload_n 0, 1) := by decide +kernel
theorem dX9_isWithin_1 : decode cX9_isWithin 1 = .ok (.iload_n 1, 1) := by decide +kernel
theorem dX9_isWithin_2 : decode cX9_isWithin 2 = .ok (.if_icmp .lt 12, 3) := by decide +kernel
theorem dX9_isWithin_5 : decode cX9_isWithin 5 = .ok (.iload_n 0, 1) := by decide +kernel
theorem dX9_isWithin_6 : decode cX9_isWithin 6 = .ok (.iload_n 2, 1) := by decide +kernel
theorem dX9_isWithin_7 : decode cX9_isWithin 7 = .ok (.if_icmp .gt 7, 3) := by decide +kernel
theorem dX9_isWithin_10 : decode cX9_isWithin 10 = .ok (.iconst 1, 1) := by decide +kernel
theorem dX9_isWithin_11 : decode cX9_isWithin 11 = .ok (.goto 4, 3) := by decide +kernel
theorem dX9_isWithin_14 : decode cX9_isWithin 14 = .ok (.iconst 0, 1) := by decide +kernel
theorem dX9_isWithin_15 : decode cX9_isWithin 15 = .ok (.ireturn, 1) := by decide +kernel
set_option maxHeartbeats 4000000 in
set_option maxRecDepth 100000 in
theorem c_X9_isWithin (de : Nat) (w : Wd) (n lo hi : Int32) : Ct yX9_isWithin cX9_isWithin 3 (some .boolean) 0 0 0 0 de [.int n, .int lo, .int hi] w (fun r w' => r = some (.int (bI (inR n lo hi))) ∧ w = w') := by
  refine Ct.mk (by decide +kernel) [(0, .int n), (1, .int lo), (2, .int hi)] rfl (Nat.le_of_ble_eq_true rfl) ?_
  intro p l e R s m args below meth c D cy z C hnm
  refine g_iload_n C dX9_isWithin_0 rfl ?_
  refine g_iload_n C dX9_isWithin_1 rfl ?_
  refine g_icmp_lt C 14 dX9_isWithin_2 (by decide) (fun c_2 => ?_) (fun c_2 => ?_)
  · refine g_iconst C 0 dX9_isWithin_14 (by rfl) ?_
    refine g_iret C rfl rfl (by decide) (by decide) dX9_isWithin_15 ?_
    exact ⟨congrArg (fun v => some (Value.int v)) (by first | exact inR_T c_2 c_7 | exact inR_F1 c_2 | exact inR_F2 c_7), rfl⟩
  · refine g_iload_n C dX9_isWithin_5 rfl ?_
    refine g_iload_n C dX9_isWithin_6 rfl ?_
    refine g_icmp_gt C 14 dX9_isWithin_7 (by decide) (fun c_7 => ?_) (fun c_7 => ?_)
    · refine g_iconst C 0 dX9_isWithin_14 (by rfl) ?_
      refine g_iret C rfl rfl (by decide) (by decide) dX9_isWithin_15 ?_
      exact ⟨congrArg (fun v => some (Value.int v)) (by first | exact inR_T c_2 c_7 | exact inR_F1 c_2 | exact inR_F2 c_7), rfl⟩
    · refine g_iconst C 1 dX9_isWithin_10 (by rfl) ?_
      refine g_goto C 15 dX9_isWithin_11 (by decide) ?_
      refine g_iret C rfl rfl (by decide) (by decide) dX9_isWithin_15 ?_
      exact ⟨congrArg (fun v => some (Value.int v)) (by first | exact inR_T c_2 c_7 | exact inR_F1 c_2 | exact inR_F2 c_7), rfl⟩
theorem dX10_in_0 : decode cX10_in 0 = .ok (.iload_n 0, 1) := by decide +kernel
theorem dX10_in_1 : decode cX10_in 1 = .ok (.iload_n 1, 1) := by decide +kernel
theorem dX10_in_2 : decode cX10_in 2 = .ok (.if_icmp .lt 12, 3) := by decide +kernel
theorem dX10_in_5 : decode cX10_in 5 = .ok (.iload_n 0, 1) := by decide +kernel
theorem dX10_in_6 : decode cX10_in 6 = .ok (.iload_n 2, 1) := by decide +kernel
theorem dX10_in_7 : decode cX10_in 7 = .ok (.if_icmp .gt 7, 3) := by decide +kernel
theorem dX10_in_10 : decode cX10_in 10 = .ok (.iconst 1, 1) := by decide +kernel
theorem dX10_in_11 : decode cX10_in 11 = .ok (.goto 4, 3) := by decide +kernel
theorem dX10_in_14 : decode cX10_in 14 = .ok (.iconst 0, 1) := by decide +kernel
theorem dX10_in_15 : decode cX10_in 15 = .ok (.ireturn, 1) := by decide +kernel
set_option maxHeartbeats 4000000 in
set_option maxRecDepth 100000 in
theorem c_X10_in (de : Nat) (w : Wd) (n lo hi : Int32) : Ct yX10_in cX10_in 3 (some .boolean) 0 0 0 0 de [.int n, .int lo, .int hi] w (fun r w' => r = some (.int (bI (inR n lo hi))) ∧ w = w') := by
  refine Ct.mk (by decide +kernel) [(0, .int n), (1, .int lo), (2, .int hi)] rfl (Nat.le_of_ble_eq_true rfl) ?_
  intro p l e R s m args below meth c D cy z C hnm
  refine g_iload_n C dX10_in_0 rfl ?_
  refine g_iload_n C dX10_in_1 rfl ?_
  refine g_icmp_lt C 14 dX10_in_2 (by decide) (fun c_2 => ?_) (fun c_2 => ?_)
  · refine g_iconst C 0 dX10_in_14 (by rfl) ?_
    refine g_iret C rfl rfl (by decide) (by decide) dX10_in_15 ?_
    exact ⟨congrArg (fun v => some (Value.int v)) (by first | exact inR_T c_2 c_7 | exact inR_F1 c_2 | exact inR_F2 c_7), rfl⟩
  · refine g_iload_n C dX10_in_5 rfl ?_
    refine g_iload_n C dX10_in_6 rfl ?_
    refine g_icmp_gt C 14 dX10_in_7 (by decide) (fun c_7 => ?_) (fun c_7 => ?_)
    · refine g_iconst C 0 dX10_in_14 (by rfl) ?_
      refine g_iret C rfl rfl (by decide) (by decide) dX10_in_15 ?_
      exact ⟨congrArg (fun v => some (Value.int v)) (by first | exact inR_T c_2 c_7 | exact inR_F1 c_2 | exact inR_F2 c_7), rfl⟩
    · refine g_iconst C 1 dX10_in_10 (by rfl) ?_
      refine g_goto C 15 dX10_in_11 (by decide) ?_
      refine g_iret C rfl rfl (by decide) (by decide) dX10_in_15 ?_
      exact ⟨congrArg (fun v => some (Value.int v)) (by first | exact inR_T c_2 c_7 | exact inR_F1 c_2 | exact inR_F2 c_7), rfl⟩
theorem dX10_lesser_0 : decode cX10_lesser 0 = .ok (.iload_n 0, 1) := by decide +kernel
theorem dX10_lesser_1 : decode cX10_lesser 1 = .ok (.iload_n 1, 1) := by decide +kernel
theorem dX10_lesser_2 : decode cX10_lesser 2 = .ok (.if_icmp .ge 7, 3) := by decide +kernel
theorem dX10_lesser_5 : decode cX10_lesser 5 = .ok (.iload_n 0, 1) := by decide +kernel
theorem dX10_lesser_6 : decode cX10_lesser 6 = .ok (.goto 4, 3) := by decide +kernel
theorem dX10_lesser_9 : decode cX10_lesser 9 = .ok (.iload_n 1, 1) := by decide +kernel
theorem dX10_lesser_10 : decode cX10_lesser 10 = .ok (.ireturn, 1) := by decide +kernel
set_option maxHeartbeats 4000000 in
set_option maxRecDepth 100000 in
theorem c_X10_lesser (de : Nat) (w : Wd) (x y : Int32) : Ct yX10_lesser cX10_lesser 2 (some .int) 0 0 0 0 de [.int x, .int y] w (fun r w' => r = some (.int (if x < y then x else y)) ∧ w = w') := by
  refine Ct.mk (by decide +kernel) [(0, .int x), (1, .int y)] rfl (Nat.le_of_ble_eq_true rfl) ?_
  intro p l e R s m args below meth c D cy z C hnm
  refine g_iload_n C dX10_lesser_0 rfl ?_
  refine g_iload_n C dX10_lesser_1 rfl ?_
  refine g_icmp_ge C 9 dX10_lesser_2 (by decide) (fun c_2 => ?_) (fun c_2 => ?_)
  · refine g_iload_n C dX10_lesser_9 rfl ?_
    refine g_iret C rfl rfl (by decide) (by decide) dX10_lesser_10 ?_
    exact ⟨congrArg (fun v => some (Value.int v)) (by first | exact i32_less1 c_2 | exact i32_less2 c_2), rfl⟩
  · refine g_iload_n C dX10_lesser_5 rfl ?_
    refine g_goto C 10 dX10_lesser_6 (by decide) ?_
    refine g_iret C rfl rfl (by decide) (by decide) dX10_lesser_10 ?_
    exact ⟨congrArg (fun v => some (Value.int v)) (by first | exact i32_less1 c_2 | exact i32_less2 c_2), rfl⟩
theorem dX9_firstDay_0 : decode cX9_firstDay 0 = .ok (.iload_n 0, 1) := by decide +kernel
theorem dX9_firstDay_1 : decode cX9_firstDay 1 = .ok (.bipush 60, 2) := by decide +kernel
theorem dX9_firstDay_3 : decode cX9_firstDay 3 = .ok (.imul, 1) := by decide +kernel
theorem dX9_firstDay_4 : decode cX9_firstDay 4 = .ok (.ireturn, 1) := by decide +kernel
set_option maxHeartbeats 4000000 in
set_option maxRecDepth 100000 in
theorem c_X9_firstDay (de : Nat) (w : Wd) (x : Int32) : Ct yX9_firstDay cX9_firstDay 1 (some .int) 0 0 0 0 de [.int x] w (fun r w' => r = some (.int (x * 60)) ∧ w = w') := by
  refine Ct.mk (by decide +kernel) [(0, .int x)] rfl (Nat.le_of_ble_eq_true rfl) ?_
  intro p l e R s m args below meth c D cy z C hnm
  refine g_iload_n C dX9_firstDay_0 rfl ?_
  refine g_bipush C 60 dX9_firstDay_1 (by rfl) ?_
  refine g_imul C dX9_firstDay_3 ?_
  refine g_iret C rfl rfl (by decide) (by decide) dX9_firstDay_4 ?_
  exact ⟨rfl, rfl⟩
theorem dX9_testPlace_0 : decode cX9_testPlace 0 = .ok (.iload_n 0, 1) := by decide +kernel
theorem dX9_testPlace_1 : decode cX9_testPlace 1 = .ok (.iconst 0, 1) := by decide +kernel
theorem dX9_testPlace_2 : decode cX9_testPlace 2 = .ok (.bipush 9, 2) := by decide +kernel
theorem dX9_testPlace_4 : decode cX9_testPlace 4 = .ok (.invokestatic 109, 3) := by decide +kernel
theorem dX9_testPlace_7 : decode cX9_testPlace 7 = .ok (.ifCond .eq 13, 3) := by decide +kernel
theorem dX9_testPlace_10 : decode cX9_testPlace 10 = .ok (.iload_n 1, 1) := by decide +kernel
theorem dX9_testPlace_11 : decode cX9_testPlace 11 = .ok (.iconst 0, 1) := by decide +kernel
theorem dX9_testPlace_12 : decode cX9_testPlace 12 = .ok (.bipush 9, 2) := by decide +kernel
theorem dX9_testPlace_14 : decode cX9_testPlace 14 = .ok (.invokestatic 109, 3) := by decide +kernel
theorem dX9_testPlace_17 : decode cX9_testPlace 17 = .ok (.ifCond .ne 14, 3) := by decide +kernel
theorem dX9_testPlace_20 : decode cX9_testPlace 20 = .ok (.new 113, 3) := by decide +kernel
theorem dX9_testPlace_23 : decode cX9_testPlace 23 = .ok (.dup, 1) := by decide +kernel
theorem dX9_testPlace_24 : decode cX9_testPlace 24 = .ok (.ldc_w 338, 3) := by decide +kernel
theorem dX9_testPlace_27 : decode cX9_testPlace 27 = .ok (.invokespecial 117, 3) := by decide +kernel
theorem dX9_testPlace_30 : decode cX9_testPlace 30 = .ok (.athrow, 1) := by decide +kernel
theorem dX9_testPlace_31 : decode cX9_testPlace 31 = .ok (.return_, 1) := by decide +kernel
set_option maxHeartbeats 4000000 in
set_option maxRecDepth 100000 in
theorem c_X9_testPlace (de : Nat) (w : Wd) (x y : Int32) : Cw yX9_testPlace cX9_testPlace 2 none 6 90 1 6 de [.int x, .int y] w (fun r w' => r = none ∧ w = w' ∧ (inR x 0 9 && inR y 0 9) = true) (fun E w' => E = "java/lang/IllegalArgumentException" ∧ w = w' ∧ (inR x 0 9 && inR y 0 9) = false) := by
  refine Cw.mk (by decide +kernel) [(0, .int x), (1, .int y)] rfl (Nat.le_of_ble_eq_true rfl) ?_
  intro p l e R s m args below meth c D cy z C ht
  refine g_iload_n C dX9_testPlace_0 rfl ?_
  refine g_iconst C 0 dX9_testPlace_1 (by rfl) ?_
  refine g_bipush C 9 dX9_testPlace_2 (by rfl) ?_
  refine g_callS C mt_X9_isWithin [.int x, .int 0, .int 9] (c_X9_isWithin de w x 0 9) k_189 rfl rfl (Nat.le_of_ble_eq_true rfl) (by decide) (by decide) (by decide) (by decide) dX9_testPlace_4 (fun r_4 w_4 hp_4 => ?_)
  obtain ⟨rfl, rfl⟩ := hp_4
  refine g_if_eq C 20 dX9_testPlace_7 (by decide) (fun c_7 => ?_) (fun c_7 => ?_)
  · exact gx_throwW C ht th_X9_117 k_192 k_14 (is := 338) (text := "x or y is out of range") (by decide) dX9_testPlace_20 dX9_testPlace_23 dX9_testPlace_24 dX9_testPlace_27 dX9_testPlace_30 (by decide) (Nat.le_of_ble_eq_true rfl) (by decide) (by decide) ⟨rfl, rfl, by simp_all [bI_0, bI_n0]⟩
  · refine g_iload_n C dX9_testPlace_10 rfl ?_
    refine g_iconst C 0 dX9_testPlace_11 (by rfl) ?_
    refine g_bipush C 9 dX9_testPlace_12 (by rfl) ?_
    refine g_callS C mt_X9_isWithin [.int y, .int 0, .int 9] (c_X9_isWithin de w y 0 9) k_189 rfl rfl (Nat.le_of_ble_eq_true rfl) (by decide) (by decide) (by decide) (by decide) dX9_testPlace_14 (fun r_14 w_14 hp_14 => ?_)
    obtain ⟨rfl, rfl⟩ := hp_14
    refine g_if_ne C 31 dX9_testPlace_17 (by decide) (fun c_17 => ?_) (fun c_17 => ?_)
    · refine gx_ret <| g_vret C rfl (by decide) (by decide) dX9_testPlace_31 ?_
      exact ⟨rfl, rfl, by simp_all [bI_0, bI_n0]⟩
    · exact gx_throwW C ht th_X9_117 k_192 k_14 (is := 338) (text := "x or y is out of range") (by decide) dX9_testPlace_20 dX9_testPlace_23 dX9_testPlace_24 dX9_testPlace_27 dX9_testPlace_30 (by decide) (Nat.le_of_ble_eq_true rfl) (by decide) (by decide) ⟨rfl, rfl, by simp_all [bI_0, bI_n0]⟩
theorem dX9_testKnown_0 : decode cX9_testKnown 0 = .ok (.iload_n 0, 1) := by decide +kernel
theorem dX9_testKnown_1 : decode cX9_testKnown 1 = .ok (.ifCond .eq 19, 3) := by decide +kernel
theorem dX9_testKnown_4 : decode cX9_testKnown 4 = .ok (.iload_n 0, 1) := by decide +kernel
theorem dX9_testKnown_5 : decode cX9_testKnown 5 = .ok (.iconst 1, 1) := by decide +kernel
theorem dX9_testKnown_6 : decode cX9_testKnown 6 = .ok (.if_icmp .eq 14, 3) := by decide +kernel
theorem dX9_testKnown_9 : decode cX9_testKnown 9 = .ok (.new 113, 3) := by decide +kernel
theorem dX9_testKnown_12 : decode cX9_testKnown 12 = .ok (.dup, 1) := by decide +kernel
theorem dX9_testKnown_13 : decode cX9_testKnown 13 = .ok (.ldc_w 340, 3) := by decide +kernel
theorem dX9_testKnown_16 : decode cX9_testKnown 16 = .ok (.invokespecial 117, 3) := by decide +kernel
theorem dX9_testKnown_19 : decode cX9_testKnown 19 = .ok (.athrow, 1) := by decide +kernel
theorem dX9_testKnown_20 : decode cX9_testKnown 20 = .ok (.return_, 1) := by decide +kernel
set_option maxHeartbeats 4000000 in
set_option maxRecDepth 100000 in
theorem c_X9_testKnown (de : Nat) (w : Wd) (k : Int32) : Cw yX9_testKnown cX9_testKnown 1 none 6 90 1 6 de [.int k] w (fun r w' => r = none ∧ w = w' ∧ (k = 0 ∨ k = 1)) (fun E w' => E = "java/lang/IllegalArgumentException" ∧ w = w' ∧ ¬ (k = 0 ∨ k = 1)) := by
  refine Cw.mk (by decide +kernel) [(0, .int k)] rfl (Nat.le_of_ble_eq_true rfl) ?_
  intro p l e R s m args below meth c D cy z C ht
  refine g_iload_n C dX9_testKnown_0 rfl ?_
  refine g_if_eq C 20 dX9_testKnown_1 (by decide) (fun c_1 => ?_) (fun c_1 => ?_)
  · refine gx_ret <| g_vret C rfl (by decide) (by decide) dX9_testKnown_20 ?_
    exact ⟨rfl, rfl, by first | exact Or.inl c_1 | exact Or.inr c_6⟩
  · refine g_iload_n C dX9_testKnown_4 rfl ?_
    refine g_iconst C 1 dX9_testKnown_5 (by rfl) ?_
    refine g_icmp_eq C 20 dX9_testKnown_6 (by decide) (fun c_6 => ?_) (fun c_6 => ?_)
    · refine gx_ret <| g_vret C rfl (by decide) (by decide) dX9_testKnown_20 ?_
      exact ⟨rfl, rfl, by first | exact Or.inl c_1 | exact Or.inr c_6⟩
    · exact gx_throwW C ht th_X9_117 k_192 k_14 (is := 340) (text := "known is out of range") (by decide) dX9_testKnown_9 dX9_testKnown_12 dX9_testKnown_13 dX9_testKnown_16 dX9_testKnown_19 (by decide) (Nat.le_of_ble_eq_true rfl) (by decide) (by decide) ⟨rfl, rfl, fun h9 => h9.elim c_1 c_6⟩
theorem dX9_testWhat_0 : decode cX9_testWhat 0 = .ok (.iload_n 0, 1) := by decide +kernel
theorem dX9_testWhat_1 : decode cX9_testWhat 1 = .ok (.iconst 0, 1) := by decide +kernel
theorem dX9_testWhat_2 : decode cX9_testWhat 2 = .ok (.iload_n 1, 1) := by decide +kernel
theorem dX9_testWhat_3 : decode cX9_testWhat 3 = .ok (.invokestatic 109, 3) := by decide +kernel
theorem dX9_testWhat_6 : decode cX9_testWhat 6 = .ok (.ifCond .ne 14, 3) := by decide +kernel
theorem dX9_testWhat_9 : decode cX9_testWhat 9 = .ok (.new 113, 3) := by decide +kernel
theorem dX9_testWhat_12 : decode cX9_testWhat 12 = .ok (.dup, 1) := by decide +kernel
theorem dX9_testWhat_13 : decode cX9_testWhat 13 = .ok (.ldc_w 342, 3) := by decide +kernel
theorem dX9_testWhat_16 : decode cX9_testWhat 16 = .ok (.invokespecial 117, 3) := by decide +kernel
theorem dX9_testWhat_19 : decode cX9_testWhat 19 = .ok (.athrow, 1) := by decide +kernel
theorem dX9_testWhat_20 : decode cX9_testWhat 20 = .ok (.return_, 1) := by decide +kernel
set_option maxHeartbeats 4000000 in
set_option maxRecDepth 100000 in
theorem c_X9_testWhat (de : Nat) (w : Wd) (x y : Int32) : Cw yX9_testWhat cX9_testWhat 2 none 6 90 1 6 de [.int x, .int y] w (fun r w' => r = none ∧ w = w' ∧ inR x 0 y = true) (fun E w' => E = "java/lang/IllegalArgumentException" ∧ w = w' ∧ inR x 0 y = false) := by
  refine Cw.mk (by decide +kernel) [(0, .int x), (1, .int y)] rfl (Nat.le_of_ble_eq_true rfl) ?_
  intro p l e R s m args below meth c D cy z C ht
  refine g_iload_n C dX9_testWhat_0 rfl ?_
  refine g_iconst C 0 dX9_testWhat_1 (by rfl) ?_
  refine g_iload_n C dX9_testWhat_2 rfl ?_
  refine g_callS C mt_X9_isWithin [.int x, .int 0, .int y] (c_X9_isWithin de w x 0 y) k_189 rfl rfl (Nat.le_of_ble_eq_true rfl) (by decide) (by decide) (by decide) (by decide) dX9_testWhat_3 (fun r_3 w_3 hp_3 => ?_)
  obtain ⟨rfl, rfl⟩ := hp_3
  refine g_if_ne C 20 dX9_testWhat_6 (by decide) (fun c_6 => ?_) (fun c_6 => ?_)
  · refine gx_ret <| g_vret C rfl (by decide) (by decide) dX9_testWhat_20 ?_
    exact ⟨rfl, rfl, by simp_all [bI_0, bI_n0]⟩
  · exact gx_throwW C ht th_X9_117 k_192 k_14 (is := 342) (text := "what is out of range") (by decide) dX9_testWhat_9 dX9_testWhat_12 dX9_testWhat_13 dX9_testWhat_16 dX9_testWhat_19 (by decide) (Nat.le_of_ble_eq_true rfl) (by decide) (by decide) ⟨rfl, rfl, by simp_all [bI_0, bI_n0]⟩
theorem dX9_testSeason_0 : decode cX9_testSeason 0 = .ok (.iload_n 0, 1) := by decide +kernel
theorem dX9_testSeason_1 : decode cX9_testSeason 1 = .ok (.ifCond .lt 9, 3) := by decide +kernel
theorem dX9_testSeason_4 : decode cX9_testSeason 4 = .ok (.iload_n 0, 1) := by decide +kernel
theorem dX9_testSeason_5 : decode cX9_testSeason 5 = .ok (.bipush 20, 2) := by decide +kernel
theorem dX9_testSeason_7 : decode cX9_testSeason 7 = .ok (.if_icmp .lt 14, 3) := by decide +kernel
theorem dX9_testSeason_10 : decode cX9_testSeason 10 = .ok (.new 287, 3) := by decide +kernel
theorem dX9_testSeason_13 : decode cX9_testSeason 13 = .ok (.dup, 1) := by decide +kernel
theorem dX9_testSeason_14 : decode cX9_testSeason 14 = .ok (.ldc_w 344, 3) := by decide +kernel
theorem dX9_testSeason_17 : decode cX9_testSeason 17 = .ok (.invokespecial 291, 3) := by decide +kernel
theorem dX9_testSeason_20 : decode cX9_testSeason 20 = .ok (.athrow, 1) := by decide +kernel
theorem dX9_testSeason_21 : decode cX9_testSeason 21 = .ok (.return_, 1) := by decide +kernel
set_option maxHeartbeats 4000000 in
set_option maxRecDepth 100000 in
theorem c_X9_testSeason (de : Nat) (w : Wd) (x : Int32) : Cw yX9_testSeason cX9_testSeason 1 none 6 90 1 6 de [.int x] w (fun r w' => r = none ∧ w = w' ∧ inR x 0 19 = true) (fun E w' => E = "java/lang/IndexOutOfBoundsException" ∧ w = w' ∧ inR x 0 19 = false) := by
  refine Cw.mk (by decide +kernel) [(0, .int x)] rfl (Nat.le_of_ble_eq_true rfl) ?_
  intro p l e R s m args below meth c D cy z C ht
  refine g_iload_n C dX9_testSeason_0 rfl ?_
  refine g_if_lt C 10 dX9_testSeason_1 (by decide) (fun c_1 => ?_) (fun c_1 => ?_)
  · exact gx_throwW C ht th_X9_291 k_383 k_20 (is := 344) (text := "no such season") (by decide) dX9_testSeason_10 dX9_testSeason_13 dX9_testSeason_14 dX9_testSeason_17 dX9_testSeason_20 (by decide) (Nat.le_of_ble_eq_true rfl) (by decide) (by decide) ⟨rfl, rfl, by first | exact inR19n (Or.inl c_1) | exact inR19n (Or.inr c_7)⟩
  · refine g_iload_n C dX9_testSeason_4 rfl ?_
    refine g_bipush C 20 dX9_testSeason_5 (by rfl) ?_
    refine g_icmp_lt C 21 dX9_testSeason_7 (by decide) (fun c_7 => ?_) (fun c_7 => ?_)
    · refine gx_ret <| g_vret C rfl (by decide) (by decide) dX9_testSeason_21 ?_
      exact ⟨rfl, rfl, inR19 c_1 c_7⟩
    · exact gx_throwW C ht th_X9_291 k_383 k_20 (is := 344) (text := "no such season") (by decide) dX9_testSeason_10 dX9_testSeason_13 dX9_testSeason_14 dX9_testSeason_17 dX9_testSeason_20 (by decide) (Nat.le_of_ble_eq_true rfl) (by decide) (by decide) ⟨rfl, rfl, by first | exact inR19n (Or.inl c_1) | exact inR19n (Or.inr c_7)⟩
theorem dX9_hasBegun_0 : decode cX9_hasBegun 0 = .ok (.aload_n 0, 1) := by decide +kernel
theorem dX9_hasBegun_1 : decode cX9_hasBegun 1 = .ok (.getfield 56, 3) := by decide +kernel
theorem dX9_hasBegun_4 : decode cX9_hasBegun 4 = .ok (.iload_n 1, 1) := by decide +kernel
theorem dX9_hasBegun_5 : decode cX9_hasBegun 5 = .ok (.invokestatic 284, 3) := by decide +kernel
theorem dX9_hasBegun_8 : decode cX9_hasBegun 8 = .ok (.if_icmp .lt 7, 3) := by decide +kernel
theorem dX9_hasBegun_11 : decode cX9_hasBegun 11 = .ok (.iconst 1, 1) := by decide +kernel
theorem dX9_hasBegun_12 : decode cX9_hasBegun 12 = .ok (.goto 4, 3) := by decide +kernel
theorem dX9_hasBegun_15 : decode cX9_hasBegun 15 = .ok (.iconst 0, 1) := by decide +kernel
theorem dX9_hasBegun_16 : decode cX9_hasBegun 16 = .ok (.ireturn, 1) := by decide +kernel
set_option maxHeartbeats 4000000 in
set_option maxRecDepth 100000 in
theorem c_X9_hasBegun (de : Nat) (w : Wd) (x : Nat) (hx : kd w x = 11) (k : Int32) : Ct yX9_hasBegun cX9_hasBegun 2 (some .boolean) 1 20 0 0 de [.ref x, .int k] w (fun r w' => r = some (.int (bI (decide (k * 60 ≤ fI w 11 8 x)))) ∧ w = w') := by
  refine Ct.mk (by decide +kernel) [(0, .ref x), (1, .int k)] rfl (Nat.le_of_ble_eq_true rfl) ?_
  intro p l e R s m args below meth c D cy z C hnm
  refine g_aload_n C dX9_hasBegun_0 rfl ?_
  refine g_getI C cls_10 11 8 hx rfl k_144 dX9_hasBegun_1 ?_
  refine g_iload_n C dX9_hasBegun_4 rfl ?_
  refine g_callS C mt_X9_firstDay [.int k] (c_X9_firstDay de w k) k_614 rfl rfl (Nat.le_of_ble_eq_true rfl) (by decide) (by decide) (by decide) (by decide) dX9_hasBegun_5 (fun r_5 w_5 hp_5 => ?_)
  obtain ⟨rfl, rfl⟩ := hp_5
  refine g_icmp_lt C 15 dX9_hasBegun_8 (by decide) (fun c_8 => ?_) (fun c_8 => ?_)
  · refine g_iconst C 0 dX9_hasBegun_15 (by rfl) ?_
    refine g_iret C rfl rfl (by decide) (by decide) dX9_hasBegun_16 ?_
    exact ⟨congrArg (fun v => some (Value.int v)) (by simp_all [bI]), rfl⟩
  · refine g_iconst C 1 dX9_hasBegun_11 (by rfl) ?_
    refine g_goto C 16 dX9_hasBegun_12 (by decide) ?_
    refine g_iret C rfl rfl (by decide) (by decide) dX9_hasBegun_16 ?_
    exact ⟨congrArg (fun v => some (Value.int v)) (by simp_all [bI]), rfl⟩
theorem dX9_isOver_0 : decode cX9_isOver 0 = .ok (.aload_n 0, 1) := by decide +kernel
theorem dX9_isOver_1 : decode cX9_isOver 1 = .ok (.getfield 56, 3) := by decide +kernel
theorem dX9_isOver_4 : decode cX9_isOver 4 = .ok (.iload_n 1, 1) := by decide +kernel
theorem dX9_isOver_5 : decode cX9_isOver 5 = .ok (.iconst 1, 1) := by decide +kernel
theorem dX9_isOver_6 : decode cX9_isOver 6 = .ok (.iadd, 1) := by decide +kernel
theorem dX9_isOver_7 : decode cX9_isOver 7 = .ok (.invokestatic 284, 3) := by decide +kernel
theorem dX9_isOver_10 : decode cX9_isOver 10 = .ok (.if_icmp .lt 7, 3) := by decide +kernel
theorem dX9_isOver_13 : decode cX9_isOver 13 = .ok (.iconst 1, 1) := by decide +kernel
theorem dX9_isOver_14 : decode cX9_isOver 14 = .ok (.goto 4, 3) := by decide +kernel
theorem dX9_isOver_17 : decode cX9_isOver 17 = .ok (.iconst 0, 1) := by decide +kernel
theorem dX9_isOver_18 : decode cX9_isOver 18 = .ok (.ireturn, 1) := by decide +kernel
set_option maxHeartbeats 4000000 in
set_option maxRecDepth 100000 in
theorem c_X9_isOver (de : Nat) (w : Wd) (x : Nat) (hx : kd w x = 11) (k : Int32) : Ct yX9_isOver cX9_isOver 2 (some .boolean) 1 20 0 0 de [.ref x, .int k] w (fun r w' => r = some (.int (bI (decide ((k + 1) * 60 ≤ fI w 11 8 x)))) ∧ w = w') := by
  refine Ct.mk (by decide +kernel) [(0, .ref x), (1, .int k)] rfl (Nat.le_of_ble_eq_true rfl) ?_
  intro p l e R s m args below meth c D cy z C hnm
  refine g_aload_n C dX9_isOver_0 rfl ?_
  refine g_getI C cls_10 11 8 hx rfl k_144 dX9_isOver_1 ?_
  refine g_iload_n C dX9_isOver_4 rfl ?_
  refine g_iconst C 1 dX9_isOver_5 (by rfl) ?_
  refine g_iadd C dX9_isOver_6 ?_
  refine g_callS C mt_X9_firstDay [.int (k + 1)] (c_X9_firstDay de w (k + 1)) k_614 rfl rfl (Nat.le_of_ble_eq_true rfl) (by decide) (by decide) (by decide) (by decide) dX9_isOver_7 (fun r_7 w_7 hp_7 => ?_)
  obtain ⟨rfl, rfl⟩ := hp_7
  refine g_icmp_lt C 17 dX9_isOver_10 (by decide) (fun c_10 => ?_) (fun c_10 => ?_)
  · refine g_iconst C 0 dX9_isOver_17 (by rfl) ?_
    refine g_iret C rfl rfl (by decide) (by decide) dX9_isOver_18 ?_
    exact ⟨congrArg (fun v => some (Value.int v)) (by simp_all [bI]), rfl⟩
  · refine g_iconst C 1 dX9_isOver_13 (by rfl) ?_
    refine g_goto C 18 dX9_isOver_14 (by decide) ?_
    refine g_iret C rfl rfl (by decide) (by decide) dX9_isOver_18 ?_
    exact ⟨congrArg (fun v => some (Value.int v)) (by simp_all [bI]), rfl⟩
theorem dX9_isOnSale_0 : decode cX9_isOnSale 0 = .ok (.aload_n 0, 1) := by decide +kernel
theorem dX9_isOnSale_1 : decode cX9_isOnSale 1 = .ok (.getfield 56, 3) := by decide +kernel
theorem dX9_isOnSale_4 : decode cX9_isOnSale 4 = .ok (.iload_n 1, 1) := by decide +kernel
theorem dX9_isOnSale_5 : decode cX9_isOnSale 5 = .ok (.invokestatic 284, 3) := by decide +kernel
theorem dX9_isOnSale_8 : decode cX9_isOnSale 8 = .ok (.bipush 30, 2) := by decide +kernel
theorem dX9_isOnSale_10 : decode cX9_isOnSale 10 = .ok (.isub, 1) := by decide +kernel
theorem dX9_isOnSale_11 : decode cX9_isOnSale 11 = .ok (.if_icmp .lt 18, 3) := by decide +kernel
theorem dX9_isOnSale_14 : decode cX9_isOnSale 14 = .ok (.aload_n 0, 1) := by decide +kernel
theorem dX9_isOnSale_15 : decode cX9_isOnSale 15 = .ok (.getfield 56, 3) := by decide +kernel
theorem dX9_isOnSale_18 : decode cX9_isOnSale 18 = .ok (.iload_n 1, 1) := by decide +kernel
theorem dX9_isOnSale_19 : decode cX9_isOnSale 19 = .ok (.invokestatic 284, 3) := by decide +kernel
theorem dX9_isOnSale_22 : decode cX9_isOnSale 22 = .ok (.if_icmp .ge 7, 3) := by decide +kernel
theorem dX9_isOnSale_25 : decode cX9_isOnSale 25 = .ok (.iconst 1, 1) := by decide +kernel
theorem dX9_isOnSale_26 : decode cX9_isOnSale 26 = .ok (.goto 4, 3) := by decide +kernel
theorem dX9_isOnSale_29 : decode cX9_isOnSale 29 = .ok (.iconst 0, 1) := by decide +kernel
theorem dX9_isOnSale_30 : decode cX9_isOnSale 30 = .ok (.ireturn, 1) := by decide +kernel
set_option maxHeartbeats 4000000 in
set_option maxRecDepth 100000 in
theorem c_X9_isOnSale (de : Nat) (w : Wd) (x : Nat) (hx : kd w x = 11) (k : Int32) : Ct yX9_isOnSale cX9_isOnSale 2 (some .boolean) 1 20 0 0 de [.ref x, .int k] w (fun r w' => r = some (.int (bI (decide (k * 60 - 30 ≤ fI w 11 8 x) && decide (fI w 11 8 x < k * 60)))) ∧ w = w') := by
  refine Ct.mk (by decide +kernel) [(0, .ref x), (1, .int k)] rfl (Nat.le_of_ble_eq_true rfl) ?_
  intro p l e R s m args below meth c D cy z C hnm
  refine g_aload_n C dX9_isOnSale_0 rfl ?_
  refine g_getI C cls_10 11 8 hx rfl k_144 dX9_isOnSale_1 ?_
  refine g_iload_n C dX9_isOnSale_4 rfl ?_
  refine g_callS C mt_X9_firstDay [.int k] (c_X9_firstDay de w k) k_614 rfl rfl (Nat.le_of_ble_eq_true rfl) (by decide) (by decide) (by decide) (by decide) dX9_isOnSale_5 (fun r_5 w_5 hp_5 => ?_)
  obtain ⟨rfl, rfl⟩ := hp_5
  refine g_bipush C 30 dX9_isOnSale_8 (by rfl) ?_
  refine g_isub C dX9_isOnSale_10 ?_
  refine g_icmp_lt C 29 dX9_isOnSale_11 (by decide) (fun c_11 => ?_) (fun c_11 => ?_)
  · refine g_iconst C 0 dX9_isOnSale_29 (by rfl) ?_
    refine g_iret C rfl rfl (by decide) (by decide) dX9_isOnSale_30 ?_
    exact ⟨congrArg (fun v => some (Value.int v)) (by first | (simp_all [bI]; done) | (rw [decide_eq_false (Int32.not_le.mpr c_11)]; rfl)), rfl⟩
  · refine g_aload_n C dX9_isOnSale_14 rfl ?_
    refine g_getI C cls_10 11 8 hx rfl k_144 dX9_isOnSale_15 ?_
    refine g_iload_n C dX9_isOnSale_18 rfl ?_
    refine g_callS C mt_X9_firstDay [.int k] (c_X9_firstDay de w k) k_614 rfl rfl (Nat.le_of_ble_eq_true rfl) (by decide) (by decide) (by decide) (by decide) dX9_isOnSale_19 (fun r_19 w_19 hp_19 => ?_)
    obtain ⟨rfl, rfl⟩ := hp_19
    refine g_icmp_ge C 29 dX9_isOnSale_22 (by decide) (fun c_22 => ?_) (fun c_22 => ?_)
    · refine g_iconst C 0 dX9_isOnSale_29 (by rfl) ?_
      refine g_iret C rfl rfl (by decide) (by decide) dX9_isOnSale_30 ?_
      exact ⟨congrArg (fun v => some (Value.int v)) (by first | (simp_all [bI]; done) | (rw [decide_eq_false (Int32.not_le.mpr c_11)]; rfl)), rfl⟩
    · refine g_iconst C 1 dX9_isOnSale_25 (by rfl) ?_
      refine g_goto C 30 dX9_isOnSale_26 (by decide) ?_
      refine g_iret C rfl rfl (by decide) (by decide) dX9_isOnSale_30 ?_
      exact ⟨congrArg (fun v => some (Value.int v)) (by first | (simp_all [bI]; done) | (rw [decide_eq_false (Int32.not_le.mpr c_11)]; rfl)), rfl⟩
end LEAF8
