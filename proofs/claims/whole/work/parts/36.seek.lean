section SEEK36
theorem inRn {a : Int32} {n : Nat} (hn : n < 100000) : inR a 0 (nI n - 1) = true ↔ ¬ a < 0 ∧ a < nI n := by
  rw [inR_iff, i32_lt, i32_lt, nI_toInt (by omega), show (nI n - 1 : Int32).toInt = (n : Int) - 1 from pk_sub_toInt (b := 1) (by omega) (by omega)]
  show (0 : Int) ≤ a.toInt ∧ _ ↔ ¬ a.toInt < 0 ∧ _
  omega
theorem inRn_t {a : Int32} {n : Nat} (hn : n < 100000) (h1 : ¬ a < 0) (h2 : a < nI n) : inR a 0 (nI n - 1) = true := (inRn hn).mpr ⟨h1, h2⟩
theorem inRn_f1 {a : Int32} {n : Nat} (hn : n < 100000) (h1 : a < 0) : inR a 0 (nI n - 1) = false := by
  rw [← Bool.not_eq_true, inRn hn]
  exact fun z => z.1 h1
theorem inRn_f2 {a : Int32} {n : Nat} (hn : n < 100000) (h1 : ¬ a < nI n) : inR a 0 (nI n - 1) = false := by
  rw [← Bool.not_eq_true, inRn hn]
  exact fun z => h1 z.2
theorem inR_ex {a : Int32} {lo n : Nat} (hl : lo < 100000) (hn : n < 100000) (h : inR a (nI lo) (nI n) = true) : ∃ i : Nat, a = nI i ∧ lo ≤ i ∧ i ≤ n := by
  rw [inR_iff, nI_toInt (by omega), nI_toInt (by omega)] at h
  refine ⟨a.toInt.toNat, ?_, by omega, by omega⟩
  rw [i32_eq, nI_toInt (by omega)]
  omega
theorem inRn_ex {a : Int32} {n : Nat} (hn : n < 100000) (h : inR a 0 (nI n - 1) = true) : ∃ i : Nat, a = nI i ∧ i < n := by
  obtain ⟨h1, h2⟩ := (inRn hn).mp h
  rw [i32_lt, nI_toInt (by omega)] at h2
  rw [i32_lt] at h1
  have h1 : ¬ a.toInt < 0 := h1
  refine ⟨a.toInt.toNat, ?_, by omega⟩
  rw [i32_eq, nI_toInt (by omega)]
  omega
theorem lastO_u {P : Nat → Bool} {i : Nat} (hP : P i = true) : ∀ n, (∀ j, j < n → P j = true → j = i) → i < n → lastO P n = some i
  | 0, _, h => by omega
  | n + 1, hu, hn => by
    rw [lastO]
    by_cases e : P n = true
    · rw [if_pos e, hu n (by omega) e]
    · rw [if_neg e]
      exact lastO_u hP n (fun j hj => hu j (by omega)) (by have z : i ≠ n := fun z => e (z ▸ hP); omega)
theorem lastO_n {P : Nat → Bool} : ∀ n, (∀ j, j < n → ¬ P j = true) → lastO P n = none
  | 0, _ => rfl
  | n + 1, h => by
    rw [lastO, if_neg (h n (by omega))]
    exact lastO_n n (fun j hj => h j (by omega))
theorem lastO_some {P : Nat → Bool} : ∀ {n i : Nat}, lastO P n = some i → i < n ∧ P i = true
  | 0, i, h => by cases h
  | n + 1, i, h => by
    rw [lastO] at h
    by_cases e : P n = true
    · rw [if_pos e] at h; cases h; exact ⟨by omega, e⟩
    · rw [if_neg e] at h
      have := lastO_some h
      exact ⟨by omega, this.2⟩
/-- a farm has one cover of a season -/
def UQ (nC : Nat) (cf cs : Nat → Nat) : Prop := ∀ i j, i < nC → j < nC → cf i = cf j → cs i = cs j → i = j
theorem qF_spec {cf cs : Nat → Nat} {fa se k : Nat} : qF cf cs fa se k = true ↔ cf k = fa ∧ cs k = se := by unfold qF; simp
theorem qO_spec {cf cs ho : Nat → Nat} {st se k : Nat} : qO cf cs ho st se k = true ↔ cs k = se ∧ ho (cf k) = st := by unfold qO; simp
theorem isO_e {ca : Nat → Nat → Nat} {nS k st se : Nat} {cf cs ho : Nat → Nat} (hJ : ∀ i j, i < nS → j < nS → (ca 0 i = ca 0 j ∨ ca 1 i = ca 1 j ∨ ca 2 i = ca 2 j) → i = j) (h1 : ho (cf k) < nS) (h2 : st < nS) (h3 : cs k < 20) (h4 : se < 20) :
    (decide (nI (cs k) = nI se) && decide (ca 0 (ho (cf k)) = ca 0 st)) = qO cf cs ho st se k := by
  unfold qO
  congr 1
  · exact decide_eq_decide.mpr (nI_eq (by omega) (by omega))
  · exact decide_eq_decide.mpr ⟨fun z => hJ _ _ h1 h2 (Or.inl z), fun z => by rw [z]⟩
/-- losses are told in hundredths -/
def LSB (A : Nat → Nat → Int32) (nF : Nat) : Prop := ∀ f, f < nF → ∀ q, q < 20 → ∃ t : Nat, t ≤ 101 ∧ A 18 (20 * f + q) = nI t
theorem ls_pos {A : Nat → Nat → Int32} {nF f q : Nat} (h : LSB A nF) (hf : f < nF) (hq : q < 20) : (0 < A 18 (20 * f + q)) ↔ ¬ A 18 (20 * f + q) - 1 = -1 := by
  obtain ⟨t, ht, e⟩ := h f hf q hq
  rw [e]
  cases t with
  | zero => exact ⟨fun z => absurd z (by decide), fun z => absurd (by decide) z⟩
  | succ t =>
    refine ⟨fun _ z => ?_, fun _ => nI_lt (a := 0) (by omega) (by omega)⟩
    rw [← nI_1, a11] at z
    exact nI_pos (n := t) (by omega) (by rw [z]; decide)
theorem dX9_stationNumbered_0 : decode cX9_stationNumbered 0 = .ok (.iload_n 1, 1) := by decide +kernel
theorem dX9_stationNumbered_1 : decode cX9_stationNumbered 1 = .ok (.ifCond .lt 17, 3) := by decide +kernel
theorem dX9_stationNumbered_4 : decode cX9_stationNumbered 4 = .ok (.iload_n 1, 1) := by decide +kernel
theorem dX9_stationNumbered_5 : decode cX9_stationNumbered 5 = .ok (.aload_n 0, 1) := by decide +kernel
theorem dX9_stationNumbered_6 : decode cX9_stationNumbered 6 = .ok (.getfield 10, 3) := by decide +kernel
theorem dX9_stationNumbered_9 : decode cX9_stationNumbered 9 = .ok (.getfield 79, 3) := by decide +kernel
theorem dX9_stationNumbered_12 : decode cX9_stationNumbered 12 = .ok (.invokevirtual 82, 3) := by decide +kernel
theorem dX9_stationNumbered_15 : decode cX9_stationNumbered 15 = .ok (.if_icmp .lt 14, 3) := by decide +kernel
theorem dX9_stationNumbered_18 : decode cX9_stationNumbered 18 = .ok (.new 287, 3) := by decide +kernel
theorem dX9_stationNumbered_21 : decode cX9_stationNumbered 21 = .ok (.dup, 1) := by decide +kernel
theorem dX9_stationNumbered_22 : decode cX9_stationNumbered 22 = .ok (.ldc_w 346, 3) := by decide +kernel
theorem dX9_stationNumbered_25 : decode cX9_stationNumbered 25 = .ok (.invokespecial 291, 3) := by decide +kernel
theorem dX9_stationNumbered_28 : decode cX9_stationNumbered 28 = .ok (.athrow, 1) := by decide +kernel
theorem dX9_stationNumbered_29 : decode cX9_stationNumbered 29 = .ok (.aload_n 0, 1) := by decide +kernel
theorem dX9_stationNumbered_30 : decode cX9_stationNumbered 30 = .ok (.getfield 10, 3) := by decide +kernel
theorem dX9_stationNumbered_33 : decode cX9_stationNumbered 33 = .ok (.getfield 79, 3) := by decide +kernel
theorem dX9_stationNumbered_36 : decode cX9_stationNumbered 36 = .ok (.iload_n 1, 1) := by decide +kernel
theorem dX9_stationNumbered_37 : decode cX9_stationNumbered 37 = .ok (.invokevirtual 292, 3) := by decide +kernel
theorem dX9_stationNumbered_40 : decode cX9_stationNumbered 40 = .ok (.checkcast 96, 3) := by decide +kernel
theorem dX9_stationNumbered_43 : decode cX9_stationNumbered 43 = .ok (.areturn, 1) := by decide +kernel
set_option maxHeartbeats 1000000 in
set_option maxRecDepth 100000 in
theorem c_X9_stationNumbered (de : Nat) (w : Wd) (x : Nat) (A : Nat → Nat → Int32) (F : Nat → Int32) (nS nP nF nC tl : Nat) (ho cf cp cs sb pn : Nat → Nat) (dn : Nat → Nat → Nat) (ch : Nat → Nat → List (Nat × Int32)) (ca : Nat → Nat → Nat) (h : RC0 w de x A F nS nP nF nC tl ho cf cp cs sb pn dn ch ca) (a : Int32) (i : Nat) (hN : F 3 = nI nS) (hn9 : nS < 100000) (hia : inR a 0 (F 3 - 1) = true → a = nI i ∧ i < nS) : Cw yX9_stationNumbered cX9_stationNumbered 2 (some (.object "RainIndex$Station")) 6 90 1 6 de [.ref x, .int a] w (fun r w' => r = some (.ref (ca 0 i)) ∧ w = w' ∧ inR a 0 (F 3 - 1) = true) (fun E w' => E = "java/lang/IndexOutOfBoundsException" ∧ w = w' ∧ inR a 0 (F 3 - 1) = false) := by
  refine Cw.mk (by decide +kernel) [(0, .ref x), (1, .int a)] rfl (Nat.le_of_ble_eq_true rfl) ?_
  intro p l e R s m args below meth c D cy z C ht
  refine g_iload_n C dX9_stationNumbered_0 rfl ?_
  refine g_if_lt C 18 dX9_stationNumbered_1 (by decide) (fun c_1 => ?_) (fun c_1 => ?_)
  · exact gx_throwW C ht th_X9_291 k_383 k_20 (is := 346) (text := "no such station") (by decide) dX9_stationNumbered_18 dX9_stationNumbered_21 dX9_stationNumbered_22 dX9_stationNumbered_25 dX9_stationNumbered_28 (by decide) (Nat.le_of_ble_eq_true rfl) (by decide) (by decide) ⟨rfl, rfl, by rw [hN]; first | exact inRn_f1 hn9 c_1 | exact inRn_f2 hn9 c_15⟩
  · refine g_iload_n C dX9_stationNumbered_4 rfl ?_
    refine g_aload_n C dX9_stationNumbered_5 rfl ?_
    refine g_getR (b := (ca 9 0)) C cls_10 11 0 h.1.1 h.1.2.1 rfl k_136 dX9_stationNumbered_6 ?_
    refine g_getR (b := (ca 9 3)) C cls_9 10 0 h.2.2.1.1.1 h.2.2.1.1.2.1 rfl k_68 dX9_stationNumbered_9 ?_
    refine g_callV C cls_0 81 mt_Jx4a65c_size_8abf5 [] (c_sz de w 81 1013 KL_st (ca 9 3) nS (ca 0) h.2.2.1.1.2.2.1) h.2.2.1.1.2.2.1.1 (by decide) k_260 rfl rfl (Nat.le_of_ble_eq_true rfl) (by decide) (by decide) (by decide) (by decide) dX9_stationNumbered_12 (fun r_12 w_12 hp_12 => ?_)
    obtain ⟨rfl, rfl⟩ := hp_12
    refine g_icmp_lt C 29 dX9_stationNumbered_15 (by decide) (fun c_15 => ?_) (fun c_15 => ?_)
    · obtain ⟨rfl, hi⟩ := hia (by rw [hN]; exact inRn_t hn9 c_1 c_15)
      refine g_aload_n C dX9_stationNumbered_29 rfl ?_
      refine g_getR (b := (ca 9 0)) C cls_10 11 0 h.1.1 h.1.2.1 rfl k_136 dX9_stationNumbered_30 ?_
      refine g_getR (b := (ca 9 3)) C cls_9 10 0 h.2.2.1.1.1 h.2.2.1.1.2.1 rfl k_68 dX9_stationNumbered_33 ?_
      refine g_iload_n C dX9_stationNumbered_36 rfl ?_
      refine g_callV C cls_0 81 mt_Jx4a65c_get_915e3 [.int (nI i)] (c_Jx4a65c_get_915e3 de w 81 1013 KL_st (ca 9 3) nS i (ca 0) h.2.2.1.1.2.2.1 hi) h.2.2.1.1.2.2.1.1 (by decide) k_399 rfl rfl (Nat.le_of_ble_eq_true rfl) (by decide) (by decide) (by decide) (by decide) dX9_stationNumbered_37 (fun r_37 w_37 hp_37 => ?_)
      obtain ⟨rfl, rfl⟩ := hp_37
      refine g_cast C cls_7 8 (h.2.2.1.1.2.2.2.2 i hi).1 (by decide) k_280 dX9_stationNumbered_40 ?_
      refine gx_ret <| g_aret C rfl (Or.inl ⟨_, rfl⟩) (Or.inr ⟨_, rfl⟩) (by decide) (by decide) dX9_stationNumbered_43 ?_
      exact ⟨rfl, rfl, by rw [hN]; exact inRn_t hn9 c_1 c_15⟩
    · exact gx_throwW C ht th_X9_291 k_383 k_20 (is := 346) (text := "no such station") (by decide) dX9_stationNumbered_18 dX9_stationNumbered_21 dX9_stationNumbered_22 dX9_stationNumbered_25 dX9_stationNumbered_28 (by decide) (Nat.le_of_ble_eq_true rfl) (by decide) (by decide) ⟨rfl, rfl, by rw [hN]; first | exact inRn_f1 hn9 c_1 | exact inRn_f2 hn9 c_15⟩
theorem dX9_productNumbered_0 : decode cX9_productNumbered 0 = .ok (.iload_n 1, 1) := by decide +kernel
theorem dX9_productNumbered_1 : decode cX9_productNumbered 1 = .ok (.ifCond .lt 14, 3) := by decide +kernel
theorem dX9_productNumbered_4 : decode cX9_productNumbered 4 = .ok (.iload_n 1, 1) := by decide +kernel
theorem dX9_productNumbered_5 : decode cX9_productNumbered 5 = .ok (.aload_n 0, 1) := by decide +kernel
theorem dX9_productNumbered_6 : decode cX9_productNumbered 6 = .ok (.getfield 26, 3) := by decide +kernel
theorem dX9_productNumbered_9 : decode cX9_productNumbered 9 = .ok (.invokevirtual 82, 3) := by decide +kernel
theorem dX9_productNumbered_12 : decode cX9_productNumbered 12 = .ok (.if_icmp .lt 14, 3) := by decide +kernel
theorem dX9_productNumbered_15 : decode cX9_productNumbered 15 = .ok (.new 287, 3) := by decide +kernel
theorem dX9_productNumbered_18 : decode cX9_productNumbered 18 = .ok (.dup, 1) := by decide +kernel
theorem dX9_productNumbered_19 : decode cX9_productNumbered 19 = .ok (.ldc_w 348, 3) := by decide +kernel
theorem dX9_productNumbered_22 : decode cX9_productNumbered 22 = .ok (.invokespecial 291, 3) := by decide +kernel
theorem dX9_productNumbered_25 : decode cX9_productNumbered 25 = .ok (.athrow, 1) := by decide +kernel
theorem dX9_productNumbered_26 : decode cX9_productNumbered 26 = .ok (.aload_n 0, 1) := by decide +kernel
theorem dX9_productNumbered_27 : decode cX9_productNumbered 27 = .ok (.getfield 26, 3) := by decide +kernel
theorem dX9_productNumbered_30 : decode cX9_productNumbered 30 = .ok (.iload_n 1, 1) := by decide +kernel
theorem dX9_productNumbered_31 : decode cX9_productNumbered 31 = .ok (.invokevirtual 292, 3) := by decide +kernel
theorem dX9_productNumbered_34 : decode cX9_productNumbered 34 = .ok (.checkcast 47, 3) := by decide +kernel
theorem dX9_productNumbered_37 : decode cX9_productNumbered 37 = .ok (.areturn, 1) := by decide +kernel
set_option maxHeartbeats 1000000 in
set_option maxRecDepth 100000 in
theorem c_X9_productNumbered (de : Nat) (w : Wd) (x : Nat) (A : Nat → Nat → Int32) (F : Nat → Int32) (nS nP nF nC tl : Nat) (ho cf cp cs sb pn : Nat → Nat) (dn : Nat → Nat → Nat) (ch : Nat → Nat → List (Nat × Int32)) (ca : Nat → Nat → Nat) (h : RC0 w de x A F nS nP nF nC tl ho cf cp cs sb pn dn ch ca) (a : Int32) (i : Nat) (hN : F 10 = nI nP) (hn9 : nP < 100000) (hia : inR a 0 (F 10 - 1) = true → a = nI i ∧ i < nP) : Cw yX9_productNumbered cX9_productNumbered 2 (some (.object "RainIndex$Product")) 6 90 1 6 de [.ref x, .int a] w (fun r w' => r = some (.ref (ca 3 i)) ∧ w = w' ∧ inR a 0 (F 10 - 1) = true) (fun E w' => E = "java/lang/IndexOutOfBoundsException" ∧ w = w' ∧ inR a 0 (F 10 - 1) = false) := by
  refine Cw.mk (by decide +kernel) [(0, .ref x), (1, .int a)] rfl (Nat.le_of_ble_eq_true rfl) ?_
  intro p l e R s m args below meth c D cy z C ht
  refine g_iload_n C dX9_productNumbered_0 rfl ?_
  refine g_if_lt C 15 dX9_productNumbered_1 (by decide) (fun c_1 => ?_) (fun c_1 => ?_)
  · exact gx_throwW C ht th_X9_291 k_383 k_20 (is := 348) (text := "no such product") (by decide) dX9_productNumbered_15 dX9_productNumbered_18 dX9_productNumbered_19 dX9_productNumbered_22 dX9_productNumbered_25 (by decide) (Nat.le_of_ble_eq_true rfl) (by decide) (by decide) ⟨rfl, rfl, by rw [hN]; first | exact inRn_f1 hn9 c_1 | exact inRn_f2 hn9 c_12⟩
  · refine g_iload_n C dX9_productNumbered_4 rfl ?_
    refine g_aload_n C dX9_productNumbered_5 rfl ?_
    refine g_getR (b := (ca 9 4)) C cls_10 11 2 h.1.1 h.1.2.2.2.1 rfl k_138 dX9_productNumbered_6 ?_
    refine g_callV C cls_0 21 mt_Jx4a65c_size_8abf5 [] (c_sz de w 21 1023 KL_pr (ca 9 4) nP (ca 3) h.2.2.2.2.1.1) h.2.2.2.2.1.1.1 (by decide) k_260 rfl rfl (Nat.le_of_ble_eq_true rfl) (by decide) (by decide) (by decide) (by decide) dX9_productNumbered_9 (fun r_9 w_9 hp_9 => ?_)
    obtain ⟨rfl, rfl⟩ := hp_9
    refine g_icmp_lt C 26 dX9_productNumbered_12 (by decide) (fun c_12 => ?_) (fun c_12 => ?_)
    · obtain ⟨rfl, hi⟩ := hia (by rw [hN]; exact inRn_t hn9 c_1 c_12)
      refine g_aload_n C dX9_productNumbered_26 rfl ?_
      refine g_getR (b := (ca 9 4)) C cls_10 11 2 h.1.1 h.1.2.2.2.1 rfl k_138 dX9_productNumbered_27 ?_
      refine g_iload_n C dX9_productNumbered_30 rfl ?_
      refine g_callV C cls_0 21 mt_Jx4a65c_get_915e3 [.int (nI i)] (c_Jx4a65c_get_915e3 de w 21 1023 KL_pr (ca 9 4) nP i (ca 3) h.2.2.2.2.1.1 hi) h.2.2.2.2.1.1.1 (by decide) k_399 rfl rfl (Nat.le_of_ble_eq_true rfl) (by decide) (by decide) (by decide) (by decide) dX9_productNumbered_31 (fun r_31 w_31 hp_31 => ?_)
      obtain ⟨rfl, rfl⟩ := hp_31
      refine g_cast C cls_5 6 (h.2.2.2.2.1.2.2.1 i (Or.inl hi)).1.1 (by decide) k_112 dX9_productNumbered_34 ?_
      refine gx_ret <| g_aret C rfl (Or.inl ⟨_, rfl⟩) (Or.inr ⟨_, rfl⟩) (by decide) (by decide) dX9_productNumbered_37 ?_
      exact ⟨rfl, rfl, by rw [hN]; exact inRn_t hn9 c_1 c_12⟩
    · exact gx_throwW C ht th_X9_291 k_383 k_20 (is := 348) (text := "no such product") (by decide) dX9_productNumbered_15 dX9_productNumbered_18 dX9_productNumbered_19 dX9_productNumbered_22 dX9_productNumbered_25 (by decide) (Nat.le_of_ble_eq_true rfl) (by decide) (by decide) ⟨rfl, rfl, by rw [hN]; first | exact inRn_f1 hn9 c_1 | exact inRn_f2 hn9 c_12⟩
theorem dX9_farmNumbered_0 : decode cX9_farmNumbered 0 = .ok (.iload_n 1, 1) := by decide +kernel
theorem dX9_farmNumbered_1 : decode cX9_farmNumbered 1 = .ok (.ifCond .lt 14, 3) := by decide +kernel
theorem dX9_farmNumbered_4 : decode cX9_farmNumbered 4 = .ok (.iload_n 1, 1) := by decide +kernel
theorem dX9_farmNumbered_5 : decode cX9_farmNumbered 5 = .ok (.aload_n 0, 1) := by decide +kernel
theorem dX9_farmNumbered_6 : decode cX9_farmNumbered 6 = .ok (.getfield 30, 3) := by decide +kernel
theorem dX9_farmNumbered_9 : decode cX9_farmNumbered 9 = .ok (.invokevirtual 82, 3) := by decide +kernel
theorem dX9_farmNumbered_12 : decode cX9_farmNumbered 12 = .ok (.if_icmp .lt 14, 3) := by decide +kernel
theorem dX9_farmNumbered_15 : decode cX9_farmNumbered 15 = .ok (.new 287, 3) := by decide +kernel
theorem dX9_farmNumbered_18 : decode cX9_farmNumbered 18 = .ok (.dup, 1) := by decide +kernel
theorem dX9_farmNumbered_19 : decode cX9_farmNumbered 19 = .ok (.ldc_w 350, 3) := by decide +kernel
theorem dX9_farmNumbered_22 : decode cX9_farmNumbered 22 = .ok (.invokespecial 291, 3) := by decide +kernel
theorem dX9_farmNumbered_25 : decode cX9_farmNumbered 25 = .ok (.athrow, 1) := by decide +kernel
theorem dX9_farmNumbered_26 : decode cX9_farmNumbered 26 = .ok (.aload_n 0, 1) := by decide +kernel
theorem dX9_farmNumbered_27 : decode cX9_farmNumbered 27 = .ok (.getfield 30, 3) := by decide +kernel
theorem dX9_farmNumbered_30 : decode cX9_farmNumbered 30 = .ok (.iload_n 1, 1) := by decide +kernel
theorem dX9_farmNumbered_31 : decode cX9_farmNumbered 31 = .ok (.invokevirtual 292, 3) := by decide +kernel
theorem dX9_farmNumbered_34 : decode cX9_farmNumbered 34 = .ok (.checkcast 156, 3) := by decide +kernel
theorem dX9_farmNumbered_37 : decode cX9_farmNumbered 37 = .ok (.areturn, 1) := by decide +kernel
set_option maxHeartbeats 1000000 in
set_option maxRecDepth 100000 in
theorem c_X9_farmNumbered (de : Nat) (w : Wd) (x : Nat) (A : Nat → Nat → Int32) (F : Nat → Int32) (nS nP nF nC tl : Nat) (ho cf cp cs sb pn : Nat → Nat) (dn : Nat → Nat → Nat) (ch : Nat → Nat → List (Nat × Int32)) (ca : Nat → Nat → Nat) (h : RC0 w de x A F nS nP nF nC tl ho cf cp cs sb pn dn ch ca) (a : Int32) (i : Nat) (hN : F 17 = nI nF) (hn9 : nF < 100000) (hia : inR a 0 (F 17 - 1) = true → a = nI i ∧ i < nF) : Cw yX9_farmNumbered cX9_farmNumbered 2 (some (.object "RainIndex$Farm")) 6 90 1 6 de [.ref x, .int a] w (fun r w' => r = some (.ref (ca 6 i)) ∧ w = w' ∧ inR a 0 (F 17 - 1) = true) (fun E w' => E = "java/lang/IndexOutOfBoundsException" ∧ w = w' ∧ inR a 0 (F 17 - 1) = false) := by
  refine Cw.mk (by decide +kernel) [(0, .ref x), (1, .int a)] rfl (Nat.le_of_ble_eq_true rfl) ?_
  intro p l e R s m args below meth c D cy z C ht
  refine g_iload_n C dX9_farmNumbered_0 rfl ?_
  refine g_if_lt C 15 dX9_farmNumbered_1 (by decide) (fun c_1 => ?_) (fun c_1 => ?_)
  · exact gx_throwW C ht th_X9_291 k_383 k_20 (is := 350) (text := "no such farm") (by decide) dX9_farmNumbered_15 dX9_farmNumbered_18 dX9_farmNumbered_19 dX9_farmNumbered_22 dX9_farmNumbered_25 (by decide) (Nat.le_of_ble_eq_true rfl) (by decide) (by decide) ⟨rfl, rfl, by rw [hN]; first | exact inRn_f1 hn9 c_1 | exact inRn_f2 hn9 c_12⟩
  · refine g_iload_n C dX9_farmNumbered_4 rfl ?_
    refine g_aload_n C dX9_farmNumbered_5 rfl ?_
    refine g_getR (b := (ca 9 5)) C cls_10 11 3 h.1.1 h.1.2.2.2.2.1 rfl k_139 dX9_farmNumbered_6 ?_
    refine g_callV C cls_0 41 mt_Jx4a65c_size_8abf5 [] (c_sz de w 41 1033 KL_fa (ca 9 5) nF (ca 6) h.2.2.2.2.2.1.1) h.2.2.2.2.2.1.1.1 (by decide) k_260 rfl rfl (Nat.le_of_ble_eq_true rfl) (by decide) (by decide) (by decide) (by decide) dX9_farmNumbered_9 (fun r_9 w_9 hp_9 => ?_)
    obtain ⟨rfl, rfl⟩ := hp_9
    refine g_icmp_lt C 26 dX9_farmNumbered_12 (by decide) (fun c_12 => ?_) (fun c_12 => ?_)
    · obtain ⟨rfl, hi⟩ := hia (by rw [hN]; exact inRn_t hn9 c_1 c_12)
      refine g_aload_n C dX9_farmNumbered_26 rfl ?_
      refine g_getR (b := (ca 9 5)) C cls_10 11 3 h.1.1 h.1.2.2.2.2.1 rfl k_139 dX9_farmNumbered_27 ?_
      refine g_iload_n C dX9_farmNumbered_30 rfl ?_
      refine g_callV C cls_0 41 mt_Jx4a65c_get_915e3 [.int (nI i)] (c_Jx4a65c_get_915e3 de w 41 1033 KL_fa (ca 9 5) nF i (ca 6) h.2.2.2.2.2.1.1 hi) h.2.2.2.2.2.1.1.1 (by decide) k_399 rfl rfl (Nat.le_of_ble_eq_true rfl) (by decide) (by decide) (by decide) (by decide) dX9_farmNumbered_31 (fun r_31 w_31 hp_31 => ?_)
      obtain ⟨rfl, rfl⟩ := hp_31
      refine g_cast C cls_3 4 (h.2.2.2.2.2.1.2 i hi).1 (by decide) k_525 dX9_farmNumbered_34 ?_
      refine gx_ret <| g_aret C rfl (Or.inl ⟨_, rfl⟩) (Or.inr ⟨_, rfl⟩) (by decide) (by decide) dX9_farmNumbered_37 ?_
      exact ⟨rfl, rfl, by rw [hN]; exact inRn_t hn9 c_1 c_12⟩
    · exact gx_throwW C ht th_X9_291 k_383 k_20 (is := 350) (text := "no such farm") (by decide) dX9_farmNumbered_15 dX9_farmNumbered_18 dX9_farmNumbered_19 dX9_farmNumbered_22 dX9_farmNumbered_25 (by decide) (Nat.le_of_ble_eq_true rfl) (by decide) (by decide) ⟨rfl, rfl, by rw [hN]; first | exact inRn_f1 hn9 c_1 | exact inRn_f2 hn9 c_12⟩
theorem dX9_coverNumbered_0 : decode cX9_coverNumbered 0 = .ok (.iload_n 1, 1) := by decide +kernel
theorem dX9_coverNumbered_1 : decode cX9_coverNumbered 1 = .ok (.ifCond .lt 14, 3) := by decide +kernel
theorem dX9_coverNumbered_4 : decode cX9_coverNumbered 4 = .ok (.iload_n 1, 1) := by decide +kernel
theorem dX9_coverNumbered_5 : decode cX9_coverNumbered 5 = .ok (.aload_n 0, 1) := by decide +kernel
theorem dX9_coverNumbered_6 : decode cX9_coverNumbered 6 = .ok (.getfield 33, 3) := by decide +kernel
theorem dX9_coverNumbered_9 : decode cX9_coverNumbered 9 = .ok (.invokevirtual 82, 3) := by decide +kernel
theorem dX9_coverNumbered_12 : decode cX9_coverNumbered 12 = .ok (.if_icmp .lt 14, 3) := by decide +kernel
theorem dX9_coverNumbered_15 : decode cX9_coverNumbered 15 = .ok (.new 287, 3) := by decide +kernel
theorem dX9_coverNumbered_18 : decode cX9_coverNumbered 18 = .ok (.dup, 1) := by decide +kernel
theorem dX9_coverNumbered_19 : decode cX9_coverNumbered 19 = .ok (.ldc_w 352, 3) := by decide +kernel
theorem dX9_coverNumbered_22 : decode cX9_coverNumbered 22 = .ok (.invokespecial 291, 3) := by decide +kernel
theorem dX9_coverNumbered_25 : decode cX9_coverNumbered 25 = .ok (.athrow, 1) := by decide +kernel
theorem dX9_coverNumbered_26 : decode cX9_coverNumbered 26 = .ok (.aload_n 0, 1) := by decide +kernel
theorem dX9_coverNumbered_27 : decode cX9_coverNumbered 27 = .ok (.getfield 33, 3) := by decide +kernel
theorem dX9_coverNumbered_30 : decode cX9_coverNumbered 30 = .ok (.iload_n 1, 1) := by decide +kernel
theorem dX9_coverNumbered_31 : decode cX9_coverNumbered 31 = .ok (.invokevirtual 292, 3) := by decide +kernel
theorem dX9_coverNumbered_34 : decode cX9_coverNumbered 34 = .ok (.checkcast 214, 3) := by decide +kernel
theorem dX9_coverNumbered_37 : decode cX9_coverNumbered 37 = .ok (.areturn, 1) := by decide +kernel
set_option maxHeartbeats 1000000 in
set_option maxRecDepth 100000 in
theorem c_X9_coverNumbered (de : Nat) (w : Wd) (x : Nat) (A : Nat → Nat → Int32) (F : Nat → Int32) (nS nP nF nC tl : Nat) (ho cf cp cs sb pn : Nat → Nat) (dn : Nat → Nat → Nat) (ch : Nat → Nat → List (Nat × Int32)) (ca : Nat → Nat → Nat) (h : RC0 w de x A F nS nP nF nC tl ho cf cp cs sb pn dn ch ca) (a : Int32) (i : Nat) (hN : F 24 = nI nC) (hn9 : nC < 100000) (hia : inR a 0 (F 24 - 1) = true → a = nI i ∧ i < nC) : Cw yX9_coverNumbered cX9_coverNumbered 2 (some (.object "RainIndex$Cover")) 6 90 1 6 de [.ref x, .int a] w (fun r w' => r = some (.ref (ca 8 i)) ∧ w = w' ∧ inR a 0 (F 24 - 1) = true) (fun E w' => E = "java/lang/IndexOutOfBoundsException" ∧ w = w' ∧ inR a 0 (F 24 - 1) = false) := by
  refine Cw.mk (by decide +kernel) [(0, .ref x), (1, .int a)] rfl (Nat.le_of_ble_eq_true rfl) ?_
  intro p l e R s m args below meth c D cy z C ht
  refine g_iload_n C dX9_coverNumbered_0 rfl ?_
  refine g_if_lt C 15 dX9_coverNumbered_1 (by decide) (fun c_1 => ?_) (fun c_1 => ?_)
  · exact gx_throwW C ht th_X9_291 k_383 k_20 (is := 352) (text := "no such cover") (by decide) dX9_coverNumbered_15 dX9_coverNumbered_18 dX9_coverNumbered_19 dX9_coverNumbered_22 dX9_coverNumbered_25 (by decide) (Nat.le_of_ble_eq_true rfl) (by decide) (by decide) ⟨rfl, rfl, by rw [hN]; first | exact inRn_f1 hn9 c_1 | exact inRn_f2 hn9 c_12⟩
  · refine g_iload_n C dX9_coverNumbered_4 rfl ?_
    refine g_aload_n C dX9_coverNumbered_5 rfl ?_
    refine g_getR (b := (ca 9 6)) C cls_10 11 4 h.1.1 h.1.2.2.2.2.2.1 rfl k_140 dX9_coverNumbered_6 ?_
    refine g_callV C cls_0 61 mt_Jx4a65c_size_8abf5 [] (c_sz de w 61 1043 KL_co (ca 9 6) nC (ca 8) h.2.2.2.2.2.2.1.1) h.2.2.2.2.2.2.1.1.1 (by decide) k_260 rfl rfl (Nat.le_of_ble_eq_true rfl) (by decide) (by decide) (by decide) (by decide) dX9_coverNumbered_9 (fun r_9 w_9 hp_9 => ?_)
    obtain ⟨rfl, rfl⟩ := hp_9
    refine g_icmp_lt C 26 dX9_coverNumbered_12 (by decide) (fun c_12 => ?_) (fun c_12 => ?_)
    · obtain ⟨rfl, hi⟩ := hia (by rw [hN]; exact inRn_t hn9 c_1 c_12)
      refine g_aload_n C dX9_coverNumbered_26 rfl ?_
      refine g_getR (b := (ca 9 6)) C cls_10 11 4 h.1.1 h.1.2.2.2.2.2.1 rfl k_140 dX9_coverNumbered_27 ?_
      refine g_iload_n C dX9_coverNumbered_30 rfl ?_
      refine g_callV C cls_0 61 mt_Jx4a65c_get_915e3 [.int (nI i)] (c_Jx4a65c_get_915e3 de w 61 1043 KL_co (ca 9 6) nC i (ca 8) h.2.2.2.2.2.2.1.1 hi) h.2.2.2.2.2.2.1.1.1 (by decide) k_399 rfl rfl (Nat.le_of_ble_eq_true rfl) (by decide) (by decide) (by decide) (by decide) dX9_coverNumbered_31 (fun r_31 w_31 hp_31 => ?_)
      obtain ⟨rfl, rfl⟩ := hp_31
      refine g_cast C cls_2 3 (h.2.2.2.2.2.2.1.2 i hi).1 (by decide) k_621 dX9_coverNumbered_34 ?_
      refine gx_ret <| g_aret C rfl (Or.inl ⟨_, rfl⟩) (Or.inr ⟨_, rfl⟩) (by decide) (by decide) dX9_coverNumbered_37 ?_
      exact ⟨rfl, rfl, by rw [hN]; exact inRn_t hn9 c_1 c_12⟩
    · exact gx_throwW C ht th_X9_291 k_383 k_20 (is := 352) (text := "no such cover") (by decide) dX9_coverNumbered_15 dX9_coverNumbered_18 dX9_coverNumbered_19 dX9_coverNumbered_22 dX9_coverNumbered_25 (by decide) (Nat.le_of_ble_eq_true rfl) (by decide) (by decide) ⟨rfl, rfl, by rw [hN]; first | exact inRn_f1 hn9 c_1 | exact inRn_f2 hn9 c_12⟩
theorem dX9_coverOf_0 : decode cX9_coverOf 0 = .ok (.iconst 0, 1) := by decide +kernel
theorem dX9_coverOf_1 : decode cX9_coverOf 1 = .ok (.istore_n 3, 1) := by decide +kernel
theorem dX9_coverOf_2 : decode cX9_coverOf 2 = .ok (.iload_n 3, 1) := by decide +kernel
theorem dX9_coverOf_3 : decode cX9_coverOf 3 = .ok (.aload_n 0, 1) := by decide +kernel
theorem dX9_coverOf_4 : decode cX9_coverOf 4 = .ok (.getfield 33, 3) := by decide +kernel
theorem dX9_coverOf_7 : decode cX9_coverOf 7 = .ok (.invokevirtual 82, 3) := by decide +kernel
theorem dX9_coverOf_10 : decode cX9_coverOf 10 = .ok (.if_icmp .ge 43, 3) := by decide +kernel
theorem dX9_coverOf_13 : decode cX9_coverOf 13 = .ok (.aload_n 0, 1) := by decide +kernel
theorem dX9_coverOf_14 : decode cX9_coverOf 14 = .ok (.getfield 33, 3) := by decide +kernel
theorem dX9_coverOf_17 : decode cX9_coverOf 17 = .ok (.iload_n 3, 1) := by decide +kernel
theorem dX9_coverOf_18 : decode cX9_coverOf 18 = .ok (.invokevirtual 292, 3) := by decide +kernel
theorem dX9_coverOf_21 : decode cX9_coverOf 21 = .ok (.checkcast 214, 3) := by decide +kernel
theorem dX9_coverOf_24 : decode cX9_coverOf 24 = .ok (.astore 4, 2) := by decide +kernel
theorem dX9_coverOf_26 : decode cX9_coverOf 26 = .ok (.aload 4, 2) := by decide +kernel
theorem dX9_coverOf_28 : decode cX9_coverOf 28 = .ok (.getfield 320, 3) := by decide +kernel
theorem dX9_coverOf_31 : decode cX9_coverOf 31 = .ok (.aload_n 1, 1) := by decide +kernel
theorem dX9_coverOf_32 : decode cX9_coverOf 32 = .ok (.if_acmp .ne 15, 3) := by decide +kernel
theorem dX9_coverOf_35 : decode cX9_coverOf 35 = .ok (.aload 4, 2) := by decide +kernel
theorem dX9_coverOf_37 : decode cX9_coverOf 37 = .ok (.getfield 324, 3) := by decide +kernel
theorem dX9_coverOf_40 : decode cX9_coverOf 40 = .ok (.iload_n 2, 1) := by decide +kernel
theorem dX9_coverOf_41 : decode cX9_coverOf 41 = .ok (.if_icmp .ne 6, 3) := by decide +kernel
theorem dX9_coverOf_44 : decode cX9_coverOf 44 = .ok (.aload 4, 2) := by decide +kernel
theorem dX9_coverOf_46 : decode cX9_coverOf 46 = .ok (.areturn, 1) := by decide +kernel
theorem dX9_coverOf_47 : decode cX9_coverOf 47 = .ok (.iinc 3 1, 3) := by decide +kernel
theorem dX9_coverOf_50 : decode cX9_coverOf 50 = .ok (.goto (-48), 3) := by decide +kernel
theorem dX9_coverOf_53 : decode cX9_coverOf 53 = .ok (.aconst_null, 1) := by decide +kernel
theorem dX9_coverOf_54 : decode cX9_coverOf 54 = .ok (.areturn, 1) := by decide +kernel
set_option maxHeartbeats 1000000 in
set_option maxRecDepth 100000 in
theorem c_X9_coverOf (de : Nat) (w : Wd) (x : Nat) (A : Nat → Nat → Int32) (F : Nat → Int32) (nS nP nF nC tl : Nat) (ho cf cp cs sb pn : Nat → Nat) (dn : Nat → Nat → Nat) (ch : Nat → Nat → List (Nat × Int32)) (ca : Nat → Nat → Nat) (h : RC0 w de x A F nS nP nF nC tl ho cf cp cs sb pn dn ch ca) (hC : CVA A nC nF nS cf cs ho) (hU : UQ nC cf cs) (fi se : Nat) (hf : fi < nF) (hse : se < 20) : Ct yX9_coverOf cX9_coverOf 5 (some (.object "RainIndex$Cover")) 3 64 0 0 de [.ref x, .ref (ca 6 fi), .int (nI se)] w (fun r w' => r = some (va_rf ((lastO (qF cf cs fi se) nC).map (ca 8))) ∧ w = w') := by
  refine Ct.mk (by decide +kernel) [(0, .ref x), (1, .ref (ca 6 fi)), (2, .int (nI se))] rfl (Nat.le_of_ble_eq_true rfl) ?_
  intro p l e R s m args below meth c D cy z C hnm
  obtain ⟨h60, h16, h5, hcv, hho⟩ := id hC
  have loop : ∀ (k i : Nat), i + k = nC → (∀ j, j < i → ¬ (qF cf cs fi se) j = true) → G p l e R s m args below meth c D cy z 5 w 0 0 2 [(0, .ref x), (1, .ref (ca 6 fi)), (2, .int (nI se)), (3, .int (nI i))] [] (QM below args s D cy z (fun r w' => r = some (va_rf ((lastO (qF cf cs fi se) nC).map (ca 8))) ∧ w = w') 0 0) := by
    intro k
    induction k with
    | zero =>
      intro i hik hno
      refine g_iload_n C dX9_coverOf_2 rfl ?_
      refine g_aload_n C dX9_coverOf_3 rfl ?_
      refine g_getR (b := (ca 9 6)) C cls_10 11 4 h.1.1 h.1.2.2.2.2.2.1 rfl k_140 dX9_coverOf_4 ?_
      refine g_callV C cls_0 61 mt_Jx4a65c_size_8abf5 [] (c_sz de w 61 1043 KL_co (ca 9 6) nC (ca 8) h.2.2.2.2.2.2.1.1) h.2.2.2.2.2.2.1.1.1 (by decide) k_260 rfl rfl (Nat.le_of_ble_eq_true rfl) (by decide) (by decide) (by decide) (by decide) dX9_coverOf_7 (fun r_7 w_7 hp_7 => ?_)
      obtain ⟨rfl, rfl⟩ := hp_7
      refine g_icmp_ge C 53 dX9_coverOf_10 (by decide) (fun c_10 => ?_) (fun c_10 => ?_)
      · refine g_null C dX9_coverOf_53 ?_
        refine g_aret C rfl (Or.inl ⟨_, rfl⟩) (Or.inl rfl) (by decide) (by decide) dX9_coverOf_54 ?_
        exact ⟨by rw [lastO_n (P := (qF cf cs fi se)) nC (fun j hj => hno j (by omega))]; rfl, rfl⟩
      · exact absurd (nI_nle_of c_10 (by omega) (by omega)) (by omega)
    | succ k ih =>
      intro i hik hno
      have hi : i < nC := by omega
      refine g_iload_n C dX9_coverOf_2 rfl ?_
      refine g_aload_n C dX9_coverOf_3 rfl ?_
      refine g_getR (b := (ca 9 6)) C cls_10 11 4 h.1.1 h.1.2.2.2.2.2.1 rfl k_140 dX9_coverOf_4 ?_
      refine g_callV C cls_0 61 mt_Jx4a65c_size_8abf5 [] (c_sz de w 61 1043 KL_co (ca 9 6) nC (ca 8) h.2.2.2.2.2.2.1.1) h.2.2.2.2.2.2.1.1.1 (by decide) k_260 rfl rfl (Nat.le_of_ble_eq_true rfl) (by decide) (by decide) (by decide) (by decide) dX9_coverOf_7 (fun r_7 w_7 hp_7 => ?_)
      obtain ⟨rfl, rfl⟩ := hp_7
      refine g_icmp_ge C 53 dX9_coverOf_10 (by decide) (fun c_10 => ?_) (fun c_10 => ?_)
      · exact absurd (nI_le_of c_10 (by omega) (by omega)) (by omega)
      · refine g_aload_n C dX9_coverOf_13 rfl ?_
        refine g_getR (b := (ca 9 6)) C cls_10 11 4 h.1.1 h.1.2.2.2.2.2.1 rfl k_140 dX9_coverOf_14 ?_
        refine g_iload_n C dX9_coverOf_17 rfl ?_
        refine g_callV C cls_0 61 mt_Jx4a65c_get_915e3 [.int (nI i)] (c_Jx4a65c_get_915e3 de w 61 1043 KL_co (ca 9 6) nC i (ca 8) h.2.2.2.2.2.2.1.1 hi) h.2.2.2.2.2.2.1.1.1 (by decide) k_399 rfl rfl (Nat.le_of_ble_eq_true rfl) (by decide) (by decide) (by decide) (by decide) dX9_coverOf_18 (fun r_18 w_18 hp_18 => ?_)
        obtain ⟨rfl, rfl⟩ := hp_18
        refine g_cast C cls_2 3 (h.2.2.2.2.2.2.1.2 i hi).1 (by decide) k_621 dX9_coverOf_21 ?_
        refine g_astore C dX9_coverOf_24 (by decide) ?_
        refine g_aload C dX9_coverOf_26 rfl ?_
        refine g_getR (b := (ca 6 (cf i))) C cls_2 3 0 (h.2.2.2.2.2.2.1.2 i hi).1 (h.2.2.2.2.2.2.1.2 i hi).2.1 rfl k_693 dX9_coverOf_28 ?_
        refine g_aload_n C dX9_coverOf_31 rfl ?_
        refine g_acmp_ne (rx := (some (ca 6 (cf i)))) (ry := (some (ca 6 fi))) C 47 dX9_coverOf_32 (by decide) (fun c_32 => ?_) (fun c_32 => ?_)
        · refine g_iinc C dX9_coverOf_47 rfl (nI_1 i) (by decide) ?_
          refine g_goto C 2 dX9_coverOf_50 (by decide) ?_
          have hq : ¬ (qF cf cs fi se) i = true := fun z => c_32 (by rw [(qF_spec.mp z).1])
          have h9 := ih (i + 1) (by omega) (fun j hj => if e9 : j = i then e9 ▸ hq else hno j (by omega))
          exact g_lv2 [(0, .ref x), (1, .ref (ca 6 fi)), (2, .int (nI se)), (3, .int (nI (i + 1)))] rfl h9
        · refine g_aload C dX9_coverOf_35 rfl ?_
          refine g_getI C cls_2 3 3 (h.2.2.2.2.2.2.1.2 i hi).1 rfl k_698 dX9_coverOf_37 ?_
          rw [(h.2.2.2.2.2.2.1.2 i hi).2.2.2.2.1, (hcv i hi).2.2.1]
          refine g_iload_n C dX9_coverOf_40 rfl ?_
          refine g_icmp_ne C 47 dX9_coverOf_41 (by decide) (fun c_41 => ?_) (fun c_41 => ?_)
          · refine g_iinc C dX9_coverOf_47 rfl (nI_1 i) (by decide) ?_
            refine g_goto C 2 dX9_coverOf_50 (by decide) ?_
            have hq : ¬ (qF cf cs fi se) i = true := fun z => c_41 (by rw [(qF_spec.mp z).2])
            have h9 := ih (i + 1) (by omega) (fun j hj => if e9 : j = i then e9 ▸ hq else hno j (by omega))
            exact g_lv2 [(0, .ref x), (1, .ref (ca 6 fi)), (2, .int (nI se)), (3, .int (nI (i + 1)))] rfl h9
          · refine g_aload C dX9_coverOf_44 rfl ?_
            refine g_aret C rfl (Or.inl ⟨_, rfl⟩) (Or.inr ⟨_, rfl⟩) (by decide) (by decide) dX9_coverOf_46 ?_
            have e1 : cf i = fi := h.2.2.2.2.2.2.2.2.2.1 _ _ (hcv i hi).2.1 hf (Or.inl (Option.some.inj c_32))
            have e2 : cs i = se := (nI_eq (by have := hcv i hi; omega) (by omega)).mp c_41
            exact ⟨by rw [lastO_u (P := (qF cf cs fi se)) (qF_spec.mpr ⟨e1, e2⟩) nC (fun j hj z => hU j i hj hi ((qF_spec.mp z).1.trans e1.symm) ((qF_spec.mp z).2.trans e2.symm)) hi]; rfl, rfl⟩
  refine g_iconst C 0 dX9_coverOf_0 (by rfl) ?_
  refine g_istore_n C dX9_coverOf_1 (by decide) ?_
  exact g_lv2 [(0, .ref x), (1, .ref (ca 6 fi)), (2, .int (nI se)), (3, .int (nI 0))] rfl (loop nC 0 (by omega) (fun j hj => absurd hj (by omega)))
theorem dX9_meanLoss_0 : decode cX9_meanLoss 0 = .ok (.iconst 0, 1) := by decide +kernel
theorem dX9_meanLoss_1 : decode cX9_meanLoss 1 = .ok (.istore_n 3, 1) := by decide +kernel
theorem dX9_meanLoss_2 : decode cX9_meanLoss 2 = .ok (.iconst 0, 1) := by decide +kernel
theorem dX9_meanLoss_3 : decode cX9_meanLoss 3 = .ok (.istore 4, 2) := by decide +kernel
theorem dX9_meanLoss_5 : decode cX9_meanLoss 5 = .ok (.iconst 0, 1) := by decide +kernel
theorem dX9_meanLoss_6 : decode cX9_meanLoss 6 = .ok (.istore 5, 2) := by decide +kernel
theorem dX9_meanLoss_8 : decode cX9_meanLoss 8 = .ok (.iload 5, 2) := by decide +kernel
theorem dX9_meanLoss_10 : decode cX9_meanLoss 10 = .ok (.aload_n 0, 1) := by decide +kernel
theorem dX9_meanLoss_11 : decode cX9_meanLoss 11 = .ok (.getfield 33, 3) := by decide +kernel
theorem dX9_meanLoss_14 : decode cX9_meanLoss 14 = .ok (.invokevirtual 82, 3) := by decide +kernel
theorem dX9_meanLoss_17 : decode cX9_meanLoss 17 = .ok (.if_icmp .ge 63, 3) := by decide +kernel
theorem dX9_meanLoss_20 : decode cX9_meanLoss 20 = .ok (.aload_n 0, 1) := by decide +kernel
theorem dX9_meanLoss_21 : decode cX9_meanLoss 21 = .ok (.getfield 33, 3) := by decide +kernel
theorem dX9_meanLoss_24 : decode cX9_meanLoss 24 = .ok (.iload 5, 2) := by decide +kernel
theorem dX9_meanLoss_26 : decode cX9_meanLoss 26 = .ok (.invokevirtual 292, 3) := by decide +kernel
theorem dX9_meanLoss_29 : decode cX9_meanLoss 29 = .ok (.checkcast 214, 3) := by decide +kernel
theorem dX9_meanLoss_32 : decode cX9_meanLoss 32 = .ok (.astore 6, 2) := by decide +kernel
theorem dX9_meanLoss_34 : decode cX9_meanLoss 34 = .ok (.aload 6, 2) := by decide +kernel
theorem dX9_meanLoss_36 : decode cX9_meanLoss 36 = .ok (.aload_n 1, 1) := by decide +kernel
theorem dX9_meanLoss_37 : decode cX9_meanLoss 37 = .ok (.iload_n 2, 1) := by decide +kernel
theorem dX9_meanLoss_38 : decode cX9_meanLoss 38 = .ok (.invokevirtual 385, 3) := by decide +kernel
theorem dX9_meanLoss_41 : decode cX9_meanLoss 41 = .ok (.ifCond .eq 33, 3) := by decide +kernel
theorem dX9_meanLoss_44 : decode cX9_meanLoss 44 = .ok (.aload 6, 2) := by decide +kernel
theorem dX9_meanLoss_46 : decode cX9_meanLoss 46 = .ok (.getfield 320, 3) := by decide +kernel
theorem dX9_meanLoss_49 : decode cX9_meanLoss 49 = .ok (.iload_n 2, 1) := by decide +kernel
theorem dX9_meanLoss_50 : decode cX9_meanLoss 50 = .ok (.invokevirtual 391, 3) := by decide +kernel
theorem dX9_meanLoss_53 : decode cX9_meanLoss 53 = .ok (.iconst (-1), 1) := by decide +kernel
theorem dX9_meanLoss_54 : decode cX9_meanLoss 54 = .ok (.if_icmp .eq 20, 3) := by decide +kernel
theorem dX9_meanLoss_57 : decode cX9_meanLoss 57 = .ok (.iinc 3 1, 3) := by decide +kernel
theorem dX9_meanLoss_60 : decode cX9_meanLoss 60 = .ok (.iload 4, 2) := by decide +kernel
theorem dX9_meanLoss_62 : decode cX9_meanLoss 62 = .ok (.aload 6, 2) := by decide +kernel
theorem dX9_meanLoss_64 : decode cX9_meanLoss 64 = .ok (.getfield 320, 3) := by decide +kernel
theorem dX9_meanLoss_67 : decode cX9_meanLoss 67 = .ok (.iload_n 2, 1) := by decide +kernel
theorem dX9_meanLoss_68 : decode cX9_meanLoss 68 = .ok (.invokevirtual 391, 3) := by decide +kernel
theorem dX9_meanLoss_71 : decode cX9_meanLoss 71 = .ok (.iadd, 1) := by decide +kernel
theorem dX9_meanLoss_72 : decode cX9_meanLoss 72 = .ok (.istore 4, 2) := by decide +kernel
theorem dX9_meanLoss_74 : decode cX9_meanLoss 74 = .ok (.iinc 5 1, 3) := by decide +kernel
theorem dX9_meanLoss_77 : decode cX9_meanLoss 77 = .ok (.goto (-69), 3) := by decide +kernel
theorem dX9_meanLoss_80 : decode cX9_meanLoss 80 = .ok (.iload_n 3, 1) := by decide +kernel
theorem dX9_meanLoss_81 : decode cX9_meanLoss 81 = .ok (.ifCond .ne 7, 3) := by decide +kernel
theorem dX9_meanLoss_84 : decode cX9_meanLoss 84 = .ok (.iconst (-1), 1) := by decide +kernel
theorem dX9_meanLoss_85 : decode cX9_meanLoss 85 = .ok (.goto 7, 3) := by decide +kernel
theorem dX9_meanLoss_88 : decode cX9_meanLoss 88 = .ok (.iload 4, 2) := by decide +kernel
theorem dX9_meanLoss_90 : decode cX9_meanLoss 90 = .ok (.iload_n 3, 1) := by decide +kernel
theorem dX9_meanLoss_91 : decode cX9_meanLoss 91 = .ok (.idiv, 1) := by decide +kernel
theorem dX9_meanLoss_92 : decode cX9_meanLoss 92 = .ok (.ireturn, 1) := by decide +kernel
set_option maxHeartbeats 1000000 in
set_option maxRecDepth 100000 in
theorem c_X9_meanLoss (de : Nat) (w : Wd) (x : Nat) (A : Nat → Nat → Int32) (F : Nat → Int32) (nS nP nF nC tl : Nat) (ho cf cp cs sb pn : Nat → Nat) (dn : Nat → Nat → Nat) (ch : Nat → Nat → List (Nat × Int32)) (ca : Nat → Nat → Nat) (h : RC0 w de x A F nS nP nF nC tl ho cf cp cs sb pn dn ch ca) (hC : CVA A nC nF nS cf cs ho) (hL : LSB A nF) (st se : Nat) (hst : st < nS) (hse : se < 20) : Ct yX9_meanLoss cX9_meanLoss 7 (some .int) 3 64 0 0 de [.ref x, .ref (ca 0 st), .int (nI se)] w (fun r w' => r = some (.int (if cntN (qT A cf cs ho st se) nC = 0 then -1 else lkV A cf cs ho st se nC)) ∧ w = w') := by
  refine Ct.mk (by decide +kernel) [(0, .ref x), (1, .ref (ca 0 st)), (2, .int (nI se))] rfl (Nat.le_of_ble_eq_true rfl) ?_
  intro p l e R s m args below meth c D cy z C hnm
  obtain ⟨h60, h16, h5, hcv, hho⟩ := id hC
  have loop : ∀ (k i : Nat), i + k = nC → G p l e R s m args below meth c D cy z 7 w 0 0 8 [(0, .ref x), (1, .ref (ca 0 st)), (2, .int (nI se)), (3, .int (nI (cntN (qT A cf cs ho st se) i))), (4, .int (sumC (qT A cf cs ho st se) (fun k => A 18 (20 * cf k + se) - 1) i)), (5, .int (nI i))] [] (QM below args s D cy z (fun r w' => r = some (.int (if cntN (qT A cf cs ho st se) nC = 0 then -1 else lkV A cf cs ho st se nC)) ∧ w = w') 0 0) := by
    intro k
    induction k with
    | zero =>
      intro i hik
      have hi9 : i = nC := by omega
      rw [hi9]
      have hcl := cntN_le (P := (qT A cf cs ho st se)) nC
      refine g_iload C dX9_meanLoss_8 rfl ?_
      refine g_aload_n C dX9_meanLoss_10 rfl ?_
      refine g_getR (b := (ca 9 6)) C cls_10 11 4 h.1.1 h.1.2.2.2.2.2.1 rfl k_140 dX9_meanLoss_11 ?_
      refine g_callV C cls_0 61 mt_Jx4a65c_size_8abf5 [] (c_sz de w 61 1043 KL_co (ca 9 6) nC (ca 8) h.2.2.2.2.2.2.1.1) h.2.2.2.2.2.2.1.1.1 (by decide) k_260 rfl rfl (Nat.le_of_ble_eq_true rfl) (by decide) (by decide) (by decide) (by decide) dX9_meanLoss_14 (fun r_14 w_14 hp_14 => ?_)
      obtain ⟨rfl, rfl⟩ := hp_14
      refine g_icmp_ge C 80 dX9_meanLoss_17 (by decide) (fun c_17 => ?_) (fun c_17 => ?_)
      · refine g_iload_n C dX9_meanLoss_80 rfl ?_
        refine g_if_ne C 88 dX9_meanLoss_81 (by decide) (fun c_81 => ?_) (fun c_81 => ?_)
        · refine g_iload C dX9_meanLoss_88 rfl ?_
          refine g_iload_n C dX9_meanLoss_90 rfl ?_
          refine g_idiv C dX9_meanLoss_91 (fun z => c_81 z) ?_
          refine g_iret C rfl rfl (by decide) (by decide) dX9_meanLoss_92 ?_
          first
          | exact ⟨congrArg (fun v => some (Value.int v)) (if_pos ((nI_eq (b := 0) (by omega) (by omega)).mp c_81)).symm, rfl⟩
          | exact ⟨congrArg (fun v => some (Value.int v)) (if_neg (fun z => c_81 (by rw [z]; rfl))).symm, rfl⟩
        · refine g_iconst C (-1) dX9_meanLoss_84 (by rfl) ?_
          refine g_goto C 92 dX9_meanLoss_85 (by decide) ?_
          refine g_iret C rfl rfl (by decide) (by decide) dX9_meanLoss_92 ?_
          first
          | exact ⟨congrArg (fun v => some (Value.int v)) (if_pos ((nI_eq (b := 0) (by omega) (by omega)).mp c_81)).symm, rfl⟩
          | exact ⟨congrArg (fun v => some (Value.int v)) (if_neg (fun z => c_81 (by rw [z]; rfl))).symm, rfl⟩
      · exact absurd (nI_nle_of c_17 (by omega) (by omega)) (by omega)
    | succ k ih =>
      intro i hik
      have hi : i < nC := by omega
      refine g_iload C dX9_meanLoss_8 rfl ?_
      refine g_aload_n C dX9_meanLoss_10 rfl ?_
      refine g_getR (b := (ca 9 6)) C cls_10 11 4 h.1.1 h.1.2.2.2.2.2.1 rfl k_140 dX9_meanLoss_11 ?_
      refine g_callV C cls_0 61 mt_Jx4a65c_size_8abf5 [] (c_sz de w 61 1043 KL_co (ca 9 6) nC (ca 8) h.2.2.2.2.2.2.1.1) h.2.2.2.2.2.2.1.1.1 (by decide) k_260 rfl rfl (Nat.le_of_ble_eq_true rfl) (by decide) (by decide) (by decide) (by decide) dX9_meanLoss_14 (fun r_14 w_14 hp_14 => ?_)
      obtain ⟨rfl, rfl⟩ := hp_14
      refine g_icmp_ge C 80 dX9_meanLoss_17 (by decide) (fun c_17 => ?_) (fun c_17 => ?_)
      · exact absurd (nI_le_of c_17 (by omega) (by omega)) (by omega)
      · refine g_aload_n C dX9_meanLoss_20 rfl ?_
        refine g_getR (b := (ca 9 6)) C cls_10 11 4 h.1.1 h.1.2.2.2.2.2.1 rfl k_140 dX9_meanLoss_21 ?_
        refine g_iload C dX9_meanLoss_24 rfl ?_
        refine g_callV C cls_0 61 mt_Jx4a65c_get_915e3 [.int (nI i)] (c_Jx4a65c_get_915e3 de w 61 1043 KL_co (ca 9 6) nC i (ca 8) h.2.2.2.2.2.2.1.1 hi) h.2.2.2.2.2.2.1.1.1 (by decide) k_399 rfl rfl (Nat.le_of_ble_eq_true rfl) (by decide) (by decide) (by decide) (by decide) dX9_meanLoss_26 (fun r_26 w_26 hp_26 => ?_)
        obtain ⟨rfl, rfl⟩ := hp_26
        refine g_cast C cls_2 3 (h.2.2.2.2.2.2.1.2 i hi).1 (by decide) k_621 dX9_meanLoss_29 ?_
        refine g_astore C dX9_meanLoss_32 (by decide) ?_
        refine g_aload C dX9_meanLoss_34 rfl ?_
        refine g_aload_n C dX9_meanLoss_36 rfl ?_
        refine g_iload_n C dX9_meanLoss_37 rfl ?_
        refine g_callV C cls_2 3 mt_X1_isOf [.ref (ca 0 st), .int (nI se)] (c_X1_isOf de w (ca 8 i) (ca 6 (cf i)) (ca 0 (ho (cf i))) (ca 0 st) (h.2.2.2.2.2.2.1.2 i hi).1 (h.2.2.2.2.2.2.1.2 i hi).2.1 (h.2.2.2.2.2.1.2 (cf i) (hcv i hi).2.1).1 (h.2.2.2.2.2.1.2 (cf i) (hcv i hi).2.1).2.2.1 (h.2.2.1.1.2.2.2.2 (ho (cf i)) (hho (cf i) (hcv i hi).2.1).2).1 (nI se)) (h.2.2.2.2.2.2.1.2 i hi).1 (by decide) k_805 rfl rfl (Nat.le_of_ble_eq_true rfl) (by decide) (by decide) (by decide) (by decide) dX9_meanLoss_38 (fun r_38 w_38 hp_38 => ?_)
        obtain ⟨rfl, rfl⟩ := hp_38
        rw [(h.2.2.2.2.2.2.1.2 i hi).2.2.2.2.1, (hcv i hi).2.2.1, isO_e h.2.2.2.2.2.2.2.1 (hho (cf i) (hcv i hi).2.1).2 hst (hcv i hi).2.2.2 hse]
        refine g_if_eq C 74 dX9_meanLoss_41 (by decide) (fun c_41 => ?_) (fun c_41 => ?_)
        · refine g_iinc C dX9_meanLoss_74 rfl (nI_1 i) (by decide) ?_
          refine g_goto C 8 dX9_meanLoss_77 (by decide) ?_
          have h9 := ih (i + 1) (by omega)
          rw [cntN_f (q_T c_41), sumC_f (q_T c_41)] at h9
          exact g_lv2 [(0, .ref x), (1, .ref (ca 0 st)), (2, .int (nI se)), (3, .int (nI (cntN (qT A cf cs ho st se) i))), (4, .int (sumC (qT A cf cs ho st se) (fun k => A 18 (20 * cf k + se) - 1) i)), (5, .int (nI (i + 1)))] rfl h9
        · refine g_aload C dX9_meanLoss_44 rfl ?_
          refine g_getR (b := (ca 6 (cf i))) C cls_2 3 0 (h.2.2.2.2.2.2.1.2 i hi).1 (h.2.2.2.2.2.2.1.2 i hi).2.1 rfl k_693 dX9_meanLoss_46 ?_
          refine g_iload_n C dX9_meanLoss_49 rfl ?_
          refine g_callV C cls_3 4 mt_X2_lossIn [.int (nI se)] (c_X2_lossIn de w (ca 6 (cf i)) (ca 7 (cf i)) (h.2.2.2.2.2.1.2 (cf i) (hcv i hi).2.1).1 (h.2.2.2.2.2.1.2 (cf i) (hcv i hi).2.1).2.2.2.1 (h.2.2.2.2.2.1.2 (cf i) (hcv i hi).2.1).2.2.2.2.1 (h.2.2.2.2.2.1.2 (cf i) (hcv i hi).2.1).2.2.2.2.2.1 se hse) (h.2.2.2.2.2.1.2 (cf i) (hcv i hi).2.1).1 (by decide) k_809 rfl rfl (Nat.le_of_ble_eq_true rfl) (by decide) (by decide) (by decide) (by decide) dX9_meanLoss_50 (fun r_50 w_50 hp_50 => ?_)
          obtain ⟨rfl, rfl⟩ := hp_50
          rw [(h.2.2.2.2.2.1.2 (cf i) (hcv i hi).2.1).2.2.2.2.2.2.1 se hse]
          refine g_iconst C (-1) dX9_meanLoss_53 (by rfl) ?_
          refine g_icmp_eq C 74 dX9_meanLoss_54 (by decide) (fun c_54 => ?_) (fun c_54 => ?_)
          · refine g_iinc C dX9_meanLoss_74 rfl (nI_1 i) (by decide) ?_
            refine g_goto C 8 dX9_meanLoss_77 (by decide) ?_
            have hq : ¬ (qT A cf cs ho st se) i = true := qT_f (Int32.not_lt.mp (fun z => (ls_pos hL (hcv i hi).2.1 hse).mp z c_54))
            have h9 := ih (i + 1) (by omega)
            rw [cntN_f hq, sumC_f hq] at h9
            exact g_lv2 [(0, .ref x), (1, .ref (ca 0 st)), (2, .int (nI se)), (3, .int (nI (cntN (qT A cf cs ho st se) i))), (4, .int (sumC (qT A cf cs ho st se) (fun k => A 18 (20 * cf k + se) - 1) i)), (5, .int (nI (i + 1)))] rfl h9
          · refine g_iinc C dX9_meanLoss_57 rfl (nI_1 _) (by decide) ?_
            refine g_iload C dX9_meanLoss_60 rfl ?_
            refine g_aload C dX9_meanLoss_62 rfl ?_
            refine g_getR (b := (ca 6 (cf i))) C cls_2 3 0 (h.2.2.2.2.2.2.1.2 i hi).1 (h.2.2.2.2.2.2.1.2 i hi).2.1 rfl k_693 dX9_meanLoss_64 ?_
            refine g_iload_n C dX9_meanLoss_67 rfl ?_
            refine g_callV C cls_3 4 mt_X2_lossIn [.int (nI se)] (c_X2_lossIn de w (ca 6 (cf i)) (ca 7 (cf i)) (h.2.2.2.2.2.1.2 (cf i) (hcv i hi).2.1).1 (h.2.2.2.2.2.1.2 (cf i) (hcv i hi).2.1).2.2.2.1 (h.2.2.2.2.2.1.2 (cf i) (hcv i hi).2.1).2.2.2.2.1 (h.2.2.2.2.2.1.2 (cf i) (hcv i hi).2.1).2.2.2.2.2.1 se hse) (h.2.2.2.2.2.1.2 (cf i) (hcv i hi).2.1).1 (by decide) k_809 rfl rfl (Nat.le_of_ble_eq_true rfl) (by decide) (by decide) (by decide) (by decide) dX9_meanLoss_68 (fun r_68 w_68 hp_68 => ?_)
            obtain ⟨rfl, rfl⟩ := hp_68
            rw [(h.2.2.2.2.2.1.2 (cf i) (hcv i hi).2.1).2.2.2.2.2.2.1 se hse]
            refine g_iadd C dX9_meanLoss_71 ?_
            refine g_istore C dX9_meanLoss_72 (by decide) ?_
            refine g_iinc C dX9_meanLoss_74 rfl (nI_1 i) (by decide) ?_
            refine g_goto C 8 dX9_meanLoss_77 (by decide) ?_
            have hq : (qT A cf cs ho st se) i = true := qT_t c_41 (Int32.not_le.mpr ((ls_pos hL (hcv i hi).2.1 hse).mpr c_54))
            have h9 := ih (i + 1) (by omega)
            rw [cntN_t hq, sumC_t hq] at h9
            exact g_lv2 [(0, .ref x), (1, .ref (ca 0 st)), (2, .int (nI se)), (3, .int (nI (cntN (qT A cf cs ho st se) i + 1))), (4, .int (sumC (qT A cf cs ho st se) (fun k => A 18 (20 * cf k + se) - 1) i + (A 18 (20 * cf i + se) - 1))), (5, .int (nI (i + 1)))] rfl h9
  refine g_iconst C 0 dX9_meanLoss_0 (by rfl) ?_
  refine g_istore_n C dX9_meanLoss_1 (by decide) ?_
  refine g_iconst C 0 dX9_meanLoss_2 (by rfl) ?_
  refine g_istore C dX9_meanLoss_3 (by decide) ?_
  refine g_iconst C 0 dX9_meanLoss_5 (by rfl) ?_
  refine g_istore C dX9_meanLoss_6 (by decide) ?_
  exact g_lv2 [(0, .ref x), (1, .ref (ca 0 st)), (2, .int (nI se)), (3, .int (nI (cntN (qT A cf cs ho st se) 0))), (4, .int (sumC (qT A cf cs ho st se) (fun k => A 18 (20 * cf k + se) - 1) 0)), (5, .int (nI 0))] rfl (loop nC 0 (by omega))
theorem dX9_mostComplained_0 : decode cX9_mostComplained 0 = .ok (.iconst 0, 1) := by decide +kernel
theorem dX9_mostComplained_1 : decode cX9_mostComplained 1 = .ok (.istore_n 3, 1) := by decide +kernel
theorem dX9_mostComplained_2 : decode cX9_mostComplained 2 = .ok (.iconst 0, 1) := by decide +kernel
theorem dX9_mostComplained_3 : decode cX9_mostComplained 3 = .ok (.istore 4, 2) := by decide +kernel
theorem dX9_mostComplained_5 : decode cX9_mostComplained 5 = .ok (.iconst 0, 1) := by decide +kernel
theorem dX9_mostComplained_6 : decode cX9_mostComplained 6 = .ok (.istore 5, 2) := by decide +kernel
theorem dX9_mostComplained_8 : decode cX9_mostComplained 8 = .ok (.iload 5, 2) := by decide +kernel
theorem dX9_mostComplained_10 : decode cX9_mostComplained 10 = .ok (.aload_n 0, 1) := by decide +kernel
theorem dX9_mostComplained_11 : decode cX9_mostComplained 11 = .ok (.getfield 33, 3) := by decide +kernel
theorem dX9_mostComplained_14 : decode cX9_mostComplained 14 = .ok (.invokevirtual 82, 3) := by decide +kernel
theorem dX9_mostComplained_17 : decode cX9_mostComplained 17 = .ok (.if_icmp .ge 54, 3) := by decide +kernel
theorem dX9_mostComplained_20 : decode cX9_mostComplained 20 = .ok (.aload_n 0, 1) := by decide +kernel
theorem dX9_mostComplained_21 : decode cX9_mostComplained 21 = .ok (.getfield 33, 3) := by decide +kernel
theorem dX9_mostComplained_24 : decode cX9_mostComplained 24 = .ok (.iload 5, 2) := by decide +kernel
theorem dX9_mostComplained_26 : decode cX9_mostComplained 26 = .ok (.invokevirtual 292, 3) := by decide +kernel
theorem dX9_mostComplained_29 : decode cX9_mostComplained 29 = .ok (.checkcast 214, 3) := by decide +kernel
theorem dX9_mostComplained_32 : decode cX9_mostComplained 32 = .ok (.astore 6, 2) := by decide +kernel
theorem dX9_mostComplained_34 : decode cX9_mostComplained 34 = .ok (.aload 6, 2) := by decide +kernel
theorem dX9_mostComplained_36 : decode cX9_mostComplained 36 = .ok (.aload_n 1, 1) := by decide +kernel
theorem dX9_mostComplained_37 : decode cX9_mostComplained 37 = .ok (.iload_n 2, 1) := by decide +kernel
theorem dX9_mostComplained_38 : decode cX9_mostComplained 38 = .ok (.invokevirtual 385, 3) := by decide +kernel
theorem dX9_mostComplained_41 : decode cX9_mostComplained 41 = .ok (.ifCond .eq 24, 3) := by decide +kernel
theorem dX9_mostComplained_44 : decode cX9_mostComplained 44 = .ok (.iinc 3 1, 3) := by decide +kernel
theorem dX9_mostComplained_47 : decode cX9_mostComplained 47 = .ok (.iload 4, 2) := by decide +kernel
theorem dX9_mostComplained_49 : decode cX9_mostComplained 49 = .ok (.aload 6, 2) := by decide +kernel
theorem dX9_mostComplained_51 : decode cX9_mostComplained 51 = .ok (.getfield 262, 3) := by decide +kernel
theorem dX9_mostComplained_54 : decode cX9_mostComplained 54 = .ok (.ifCond .eq 7, 3) := by decide +kernel
theorem dX9_mostComplained_57 : decode cX9_mostComplained 57 = .ok (.iconst 1, 1) := by decide +kernel
theorem dX9_mostComplained_58 : decode cX9_mostComplained 58 = .ok (.goto 4, 3) := by decide +kernel
theorem dX9_mostComplained_61 : decode cX9_mostComplained 61 = .ok (.iconst 0, 1) := by decide +kernel
theorem dX9_mostComplained_62 : decode cX9_mostComplained 62 = .ok (.iadd, 1) := by decide +kernel
theorem dX9_mostComplained_63 : decode cX9_mostComplained 63 = .ok (.istore 4, 2) := by decide +kernel
theorem dX9_mostComplained_65 : decode cX9_mostComplained 65 = .ok (.iinc 5 1, 3) := by decide +kernel
theorem dX9_mostComplained_68 : decode cX9_mostComplained 68 = .ok (.goto (-60), 3) := by decide +kernel
theorem dX9_mostComplained_71 : decode cX9_mostComplained 71 = .ok (.iconst 2, 1) := by decide +kernel
theorem dX9_mostComplained_72 : decode cX9_mostComplained 72 = .ok (.iload 4, 2) := by decide +kernel
theorem dX9_mostComplained_74 : decode cX9_mostComplained 74 = .ok (.imul, 1) := by decide +kernel
theorem dX9_mostComplained_75 : decode cX9_mostComplained 75 = .ok (.iload_n 3, 1) := by decide +kernel
theorem dX9_mostComplained_76 : decode cX9_mostComplained 76 = .ok (.if_icmp .le 7, 3) := by decide +kernel
theorem dX9_mostComplained_79 : decode cX9_mostComplained 79 = .ok (.iconst 1, 1) := by decide +kernel
theorem dX9_mostComplained_80 : decode cX9_mostComplained 80 = .ok (.goto 4, 3) := by decide +kernel
theorem dX9_mostComplained_83 : decode cX9_mostComplained 83 = .ok (.iconst 0, 1) := by decide +kernel
theorem dX9_mostComplained_84 : decode cX9_mostComplained 84 = .ok (.ireturn, 1) := by decide +kernel
set_option maxHeartbeats 1000000 in
set_option maxRecDepth 100000 in
theorem c_X9_mostComplained (de : Nat) (w : Wd) (x : Nat) (A : Nat → Nat → Int32) (F : Nat → Int32) (nS nP nF nC tl : Nat) (ho cf cp cs sb pn : Nat → Nat) (dn : Nat → Nat → Nat) (ch : Nat → Nat → List (Nat × Int32)) (ca : Nat → Nat → Nat) (h : RC0 w de x A F nS nP nF nC tl ho cf cp cs sb pn dn ch ca) (hC : CVA A nC nF nS cf cs ho) (st se : Nat) (hst : st < nS) (hse : se < 20) : Ct yX9_mostComplained cX9_mostComplained 7 (some .boolean) 3 64 0 0 de [.ref x, .ref (ca 0 st), .int (nI se)] w (fun r w' => r = some (.int (bI (decide (cntN (qO cf cs ho st se) nC < 2 * cntN (qC A cf cs ho st se) nC)))) ∧ w = w') := by
  refine Ct.mk (by decide +kernel) [(0, .ref x), (1, .ref (ca 0 st)), (2, .int (nI se))] rfl (Nat.le_of_ble_eq_true rfl) ?_
  intro p l e R s m args below meth c D cy z C hnm
  obtain ⟨h60, h16, h5, hcv, hho⟩ := id hC
  have loop : ∀ (k i : Nat), i + k = nC → G p l e R s m args below meth c D cy z 7 w 0 0 8 [(0, .ref x), (1, .ref (ca 0 st)), (2, .int (nI se)), (3, .int (nI (cntN (qO cf cs ho st se) i))), (4, .int (nI (cntN (qC A cf cs ho st se) i))), (5, .int (nI i))] [] (QM below args s D cy z (fun r w' => r = some (.int (bI (decide (cntN (qO cf cs ho st se) nC < 2 * cntN (qC A cf cs ho st se) nC)))) ∧ w = w') 0 0) := by
    intro k
    induction k with
    | zero =>
      intro i hik
      have hi9 : i = nC := by omega
      rw [hi9]
      have hcl := cntN_le (P := (qO cf cs ho st se)) nC
      have hcm := cntN_le (P := (qC A cf cs ho st se)) nC
      refine g_iload C dX9_mostComplained_8 rfl ?_
      refine g_aload_n C dX9_mostComplained_10 rfl ?_
      refine g_getR (b := (ca 9 6)) C cls_10 11 4 h.1.1 h.1.2.2.2.2.2.1 rfl k_140 dX9_mostComplained_11 ?_
      refine g_callV C cls_0 61 mt_Jx4a65c_size_8abf5 [] (c_sz de w 61 1043 KL_co (ca 9 6) nC (ca 8) h.2.2.2.2.2.2.1.1) h.2.2.2.2.2.2.1.1.1 (by decide) k_260 rfl rfl (Nat.le_of_ble_eq_true rfl) (by decide) (by decide) (by decide) (by decide) dX9_mostComplained_14 (fun r_14 w_14 hp_14 => ?_)
      obtain ⟨rfl, rfl⟩ := hp_14
      refine g_icmp_ge C 71 dX9_mostComplained_17 (by decide) (fun c_17 => ?_) (fun c_17 => ?_)
      · refine g_iconst C 2 dX9_mostComplained_71 (by rfl) ?_
        refine g_iload C dX9_mostComplained_72 rfl ?_
        refine g_imul C dX9_mostComplained_74 ?_
        refine g_iload_n C dX9_mostComplained_75 rfl ?_
        refine g_icmp_le C 83 dX9_mostComplained_76 (by decide) (fun c_76 => ?_) (fun c_76 => ?_)
        · refine g_iconst C 0 dX9_mostComplained_83 (by rfl) ?_
          refine g_iret C rfl rfl (by decide) (by decide) dX9_mostComplained_84 ?_
          first
          | exact ⟨congrArg (fun v => some (Value.int v)) (by rw [decide_eq_true (Nat.not_le.mp (fun z => c_76 ((le2 (by omega) (by omega)).mpr z)))]; rfl), rfl⟩
          | exact ⟨congrArg (fun v => some (Value.int v)) (by rw [decide_eq_false (Nat.not_lt.mpr ((le2 (by omega) (by omega)).mp c_76))]; rfl), rfl⟩
        · refine g_iconst C 1 dX9_mostComplained_79 (by rfl) ?_
          refine g_goto C 84 dX9_mostComplained_80 (by decide) ?_
          refine g_iret C rfl rfl (by decide) (by decide) dX9_mostComplained_84 ?_
          first
          | exact ⟨congrArg (fun v => some (Value.int v)) (by rw [decide_eq_true (Nat.not_le.mp (fun z => c_76 ((le2 (by omega) (by omega)).mpr z)))]; rfl), rfl⟩
          | exact ⟨congrArg (fun v => some (Value.int v)) (by rw [decide_eq_false (Nat.not_lt.mpr ((le2 (by omega) (by omega)).mp c_76))]; rfl), rfl⟩
      · exact absurd (nI_nle_of c_17 (by omega) (by omega)) (by omega)
    | succ k ih =>
      intro i hik
      have hi : i < nC := by omega
      refine g_iload C dX9_mostComplained_8 rfl ?_
      refine g_aload_n C dX9_mostComplained_10 rfl ?_
      refine g_getR (b := (ca 9 6)) C cls_10 11 4 h.1.1 h.1.2.2.2.2.2.1 rfl k_140 dX9_mostComplained_11 ?_
      refine g_callV C cls_0 61 mt_Jx4a65c_size_8abf5 [] (c_sz de w 61 1043 KL_co (ca 9 6) nC (ca 8) h.2.2.2.2.2.2.1.1) h.2.2.2.2.2.2.1.1.1 (by decide) k_260 rfl rfl (Nat.le_of_ble_eq_true rfl) (by decide) (by decide) (by decide) (by decide) dX9_mostComplained_14 (fun r_14 w_14 hp_14 => ?_)
      obtain ⟨rfl, rfl⟩ := hp_14
      refine g_icmp_ge C 71 dX9_mostComplained_17 (by decide) (fun c_17 => ?_) (fun c_17 => ?_)
      · exact absurd (nI_le_of c_17 (by omega) (by omega)) (by omega)
      · refine g_aload_n C dX9_mostComplained_20 rfl ?_
        refine g_getR (b := (ca 9 6)) C cls_10 11 4 h.1.1 h.1.2.2.2.2.2.1 rfl k_140 dX9_mostComplained_21 ?_
        refine g_iload C dX9_mostComplained_24 rfl ?_
        refine g_callV C cls_0 61 mt_Jx4a65c_get_915e3 [.int (nI i)] (c_Jx4a65c_get_915e3 de w 61 1043 KL_co (ca 9 6) nC i (ca 8) h.2.2.2.2.2.2.1.1 hi) h.2.2.2.2.2.2.1.1.1 (by decide) k_399 rfl rfl (Nat.le_of_ble_eq_true rfl) (by decide) (by decide) (by decide) (by decide) dX9_mostComplained_26 (fun r_26 w_26 hp_26 => ?_)
        obtain ⟨rfl, rfl⟩ := hp_26
        refine g_cast C cls_2 3 (h.2.2.2.2.2.2.1.2 i hi).1 (by decide) k_621 dX9_mostComplained_29 ?_
        refine g_astore C dX9_mostComplained_32 (by decide) ?_
        refine g_aload C dX9_mostComplained_34 rfl ?_
        refine g_aload_n C dX9_mostComplained_36 rfl ?_
        refine g_iload_n C dX9_mostComplained_37 rfl ?_
        refine g_callV C cls_2 3 mt_X1_isOf [.ref (ca 0 st), .int (nI se)] (c_X1_isOf de w (ca 8 i) (ca 6 (cf i)) (ca 0 (ho (cf i))) (ca 0 st) (h.2.2.2.2.2.2.1.2 i hi).1 (h.2.2.2.2.2.2.1.2 i hi).2.1 (h.2.2.2.2.2.1.2 (cf i) (hcv i hi).2.1).1 (h.2.2.2.2.2.1.2 (cf i) (hcv i hi).2.1).2.2.1 (h.2.2.1.1.2.2.2.2 (ho (cf i)) (hho (cf i) (hcv i hi).2.1).2).1 (nI se)) (h.2.2.2.2.2.2.1.2 i hi).1 (by decide) k_805 rfl rfl (Nat.le_of_ble_eq_true rfl) (by decide) (by decide) (by decide) (by decide) dX9_mostComplained_38 (fun r_38 w_38 hp_38 => ?_)
        obtain ⟨rfl, rfl⟩ := hp_38
        rw [(h.2.2.2.2.2.2.1.2 i hi).2.2.2.2.1, (hcv i hi).2.2.1, isO_e h.2.2.2.2.2.2.2.1 (hho (cf i) (hcv i hi).2.1).2 hst (hcv i hi).2.2.2 hse]
        refine g_if_eq C 65 dX9_mostComplained_41 (by decide) (fun c_41 => ?_) (fun c_41 => ?_)
        · refine g_iinc C dX9_mostComplained_65 rfl (nI_1 i) (by decide) ?_
          refine g_goto C 8 dX9_mostComplained_68 (by decide) ?_
          have h9 := ih (i + 1) (by omega)
          rw [cntN_f (q_O c_41), cntN_f (q_C c_41)] at h9
          exact g_lv2 [(0, .ref x), (1, .ref (ca 0 st)), (2, .int (nI se)), (3, .int (nI (cntN (qO cf cs ho st se) i))), (4, .int (nI (cntN (qC A cf cs ho st se) i))), (5, .int (nI (i + 1)))] rfl h9
        · refine g_iinc C dX9_mostComplained_44 rfl (nI_1 _) (by decide) ?_
          refine g_iload C dX9_mostComplained_47 rfl ?_
          refine g_cutS (pc' := 62) (.int (nI (if (qC A cf cs ho st se) i = true then 1 else 0))) ?_ (fun j_62 => ?_)
          · refine g_iadd C dX9_mostComplained_62 ?_
            rw [nI_add]
            refine g_istore C dX9_mostComplained_63 (by decide) ?_
            refine g_iinc C dX9_mostComplained_65 rfl (nI_1 i) (by decide) ?_
            refine g_goto C 8 dX9_mostComplained_68 (by decide) ?_
            have h9 := ih (i + 1) (by omega)
            rw [cntN_t (P := (qO cf cs ho st se)) (bI_n0.mp c_41)] at h9
            exact g_lv2 [(0, .ref x), (1, .ref (ca 0 st)), (2, .int (nI se)), (3, .int (nI (cntN (qO cf cs ho st se) i + 1))), (4, .int (nI (cntN (qC A cf cs ho st se) (i + 1)))), (5, .int (nI (i + 1)))] rfl h9
          · refine g_aload C dX9_mostComplained_49 rfl ?_
            refine g_getI C cls_2 3 11 (h.2.2.2.2.2.2.1.2 i hi).1 rfl k_712 dX9_mostComplained_51 ?_
            rw [(h.2.2.2.2.2.2.1.2 i hi).2.2.2.2.2.2.2.2.2.2.2.2, (qO_spec.mp (bI_n0.mp c_41)).1]
            refine g_if_eq C 61 dX9_mostComplained_54 (by decide) (fun c_54 => ?_) (fun c_54 => ?_)
            · refine g_iconst C 0 dX9_mostComplained_61 (by rfl) ?_
              exact g_eq rfl (congrArg (fun v => Value.int v :: _) (by first | exact qC_1 c_41 c_54 | exact qC_0 c_54)) rfl j_62
            · refine g_iconst C 1 dX9_mostComplained_57 (by rfl) ?_
              refine g_goto C 62 dX9_mostComplained_58 (by decide) ?_
              exact g_eq rfl (congrArg (fun v => Value.int v :: _) (by first | exact qC_1 c_41 c_54 | exact qC_0 c_54)) rfl j_62
  refine g_iconst C 0 dX9_mostComplained_0 (by rfl) ?_
  refine g_istore_n C dX9_mostComplained_1 (by decide) ?_
  refine g_iconst C 0 dX9_mostComplained_2 (by rfl) ?_
  refine g_istore C dX9_mostComplained_3 (by decide) ?_
  refine g_iconst C 0 dX9_mostComplained_5 (by rfl) ?_
  refine g_istore C dX9_mostComplained_6 (by decide) ?_
  exact g_lv2 [(0, .ref x), (1, .ref (ca 0 st)), (2, .int (nI se)), (3, .int (nI (cntN (qO cf cs ho st se) 0))), (4, .int (nI (cntN (qC A cf cs ho st se) 0))), (5, .int (nI 0))] rfl (loop nC 0 (by omega))
end SEEK36
