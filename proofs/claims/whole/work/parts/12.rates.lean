section RATES12
theorem st_sub : ∀ d : Nat, d < 60 → 2 ≤ d → nI d - 3 + 1 = nI (d - 2) := by decide +kernel
theorem okD_t {f : Nat → Int32} {d : Nat} (h1 : ¬ sumF f (d - 2) 3 < 200) (h2 : ¬ 7 ≤ nI (dryN f (d + 1) (min (d + 16) 60 - (d + 1))).1) : okD f d = true := by
  unfold okD
  rw [decide_eq_true (Int32.not_lt.mp h1), decide_eq_true (Nat.not_le.mp (fun z => h2 (nI_le (a := 7) z (by have := (dryN_le (f := f) (a := d + 1) (min (d + 16) 60 - (d + 1))).1; omega))))]
  rfl
theorem okD_f {f : Nat → Int32} {d : Nat} (h : sumF f (d - 2) 3 < 200 ∨ 7 ≤ nI (dryN f (d + 1) (min (d + 16) 60 - (d + 1))).1) : ¬ okD f d = true := by
  unfold okD
  rcases h with h | h
  · rw [decide_eq_false (Int32.not_le.mpr h)]; simp
  · rw [decide_eq_false (p := (dryN f (d + 1) (min (d + 16) 60 - (d + 1))).1 < 7) (fun z => nI_ge (b := 7) z (by decide) h)]; simp
theorem begO_t {f : Nat → Int32} {k d : Nat} (hd : d + (k + 1) = 60) (h : okD f d = true) : begO f (k + 1) = some d := by
  have e : 60 - (k + 1) = d := by omega
  rw [begO, e, if_pos h]
theorem begO_f {f : Nat → Int32} {k d : Nat} (hd : d + (k + 1) = 60) (h : ¬ okD f d = true) : begO f (k + 1) = begO f k := by
  have e : 60 - (k + 1) = d := by omega
  rw [begO, e, if_neg h]
theorem oI_m1 {o : Option Nat} (ho : ∀ d, o = some d → d < 60) (h : oI o = -1) : o = none := by
  cases o with
  | none => rfl
  | some d =>
    have h1 : nI d = -1 := h
    exact absurd h1 (fun z => nI_pos (n := d) (by have := ho d rfl; omega) (by rw [z]; decide))
theorem stN_60 {f : Nat → Int32} (h : oI (begO f 58) = -1) : stN f = 60 := by
  unfold stN
  rw [oI_m1 (fun d hd => begO_lt hd) h]
theorem stN_s {f : Nat → Int32} (h : ¬ oI (begO f 58) = -1) : oI (begO f 58) + 1 = nI (stN f) := by
  unfold stN
  cases hb : begO f 58 with
  | none => rw [hb] at h; exact absurd rfl h
  | some d => exact nI_1 d
theorem dX5_start_0 : decode cX5_start 0 = .ok (.iconst 2, 1) := by decide +kernel
theorem dX5_start_1 : decode cX5_start 1 = .ok (.istore_n 1, 1) := by decide +kernel
theorem dX5_start_2 : decode cX5_start 2 = .ok (.iload_n 1, 1) := by decide +kernel
theorem dX5_start_3 : decode cX5_start 3 = .ok (.aload_n 0, 1) := by decide +kernel
theorem dX5_start_4 : decode cX5_start 4 = .ok (.getfield 9, 3) := by decide +kernel
theorem dX5_start_7 : decode cX5_start 7 = .ok (.arraylength, 1) := by decide +kernel
theorem dX5_start_8 : decode cX5_start 8 = .ok (.if_icmp .ge 47, 3) := by decide +kernel
theorem dX5_start_11 : decode cX5_start 11 = .ok (.aload_n 0, 1) := by decide +kernel
theorem dX5_start_12 : decode cX5_start 12 = .ok (.iload_n 1, 1) := by decide +kernel
theorem dX5_start_13 : decode cX5_start 13 = .ok (.iconst 3, 1) := by decide +kernel
theorem dX5_start_14 : decode cX5_start 14 = .ok (.isub, 1) := by decide +kernel
theorem dX5_start_15 : decode cX5_start 15 = .ok (.iconst 1, 1) := by decide +kernel
theorem dX5_start_16 : decode cX5_start 16 = .ok (.iadd, 1) := by decide +kernel
theorem dX5_start_17 : decode cX5_start 17 = .ok (.iload_n 1, 1) := by decide +kernel
theorem dX5_start_18 : decode cX5_start 18 = .ok (.iconst 1, 1) := by decide +kernel
theorem dX5_start_19 : decode cX5_start 19 = .ok (.iadd, 1) := by decide +kernel
theorem dX5_start_20 : decode cX5_start 20 = .ok (.invokevirtual 31, 3) := by decide +kernel
theorem dX5_start_23 : decode cX5_start 23 = .ok (.sipush 200, 3) := by decide +kernel
theorem dX5_start_26 : decode cX5_start 26 = .ok (.if_icmp .lt 23, 3) := by decide +kernel
theorem dX5_start_29 : decode cX5_start 29 = .ok (.aload_n 0, 1) := by decide +kernel
theorem dX5_start_30 : decode cX5_start 30 = .ok (.iload_n 1, 1) := by decide +kernel
theorem dX5_start_31 : decode cX5_start 31 = .ok (.iconst 1, 1) := by decide +kernel
theorem dX5_start_32 : decode cX5_start 32 = .ok (.iadd, 1) := by decide +kernel
theorem dX5_start_33 : decode cX5_start 33 = .ok (.iload_n 1, 1) := by decide +kernel
theorem dX5_start_34 : decode cX5_start 34 = .ok (.iconst 1, 1) := by decide +kernel
theorem dX5_start_35 : decode cX5_start 35 = .ok (.iadd, 1) := by decide +kernel
theorem dX5_start_36 : decode cX5_start 36 = .ok (.bipush 15, 2) := by decide +kernel
theorem dX5_start_38 : decode cX5_start 38 = .ok (.iadd, 1) := by decide +kernel
theorem dX5_start_39 : decode cX5_start 39 = .ok (.invokevirtual 34, 3) := by decide +kernel
theorem dX5_start_42 : decode cX5_start 42 = .ok (.bipush 7, 2) := by decide +kernel
theorem dX5_start_44 : decode cX5_start 44 = .ok (.if_icmp .ge 5, 3) := by decide +kernel
theorem dX5_start_47 : decode cX5_start 47 = .ok (.iload_n 1, 1) := by decide +kernel
theorem dX5_start_48 : decode cX5_start 48 = .ok (.ireturn, 1) := by decide +kernel
theorem dX5_start_49 : decode cX5_start 49 = .ok (.iinc 1 1, 3) := by decide +kernel
theorem dX5_start_52 : decode cX5_start 52 = .ok (.goto (-50), 3) := by decide +kernel
theorem dX5_start_55 : decode cX5_start 55 = .ok (.iconst (-1), 1) := by decide +kernel
theorem dX5_start_56 : decode cX5_start 56 = .ok (.ireturn, 1) := by decide +kernel
set_option maxHeartbeats 4000000 in
set_option maxRecDepth 100000 in
theorem c_X5_start (de : Nat) (w : Wd) (a ta : Nat) (hs : SR9 w a ta) : Ct yX5_start cX5_start 2 (some .int) 2 46 0 0 de [.ref a] w (fun r w' => r = some (.int (oI (begO (aI w 1010 ta) 58))) ∧ w = w') := by
  refine Ct.mk (by decide +kernel) [(0, .ref a)] rfl (Nat.le_of_ble_eq_true rfl) ?_
  intro p l e R s m args below meth c D cy z C hnm
  obtain ⟨ha, htf, hta, htl⟩ := id hs
  have loop : ∀ (k d : Nat), d + k = 60 → 2 ≤ d → begO (aI w 1010 ta) k = begO (aI w 1010 ta) 58 → G p l e R s m args below meth c D cy z 2 w 0 0 2 [(0, .ref a), (1, .int (nI d))] [] (QM below args s D cy z (fun r w' => r = some (.int (oI (begO (aI w 1010 ta) 58))) ∧ w = w') 0 0) := by
    intro k
    induction k with
    | zero =>
      intro d hdk hd2 hb
      refine g_iload_n C dX5_start_2 rfl ?_
      refine g_aload_n C dX5_start_3 rfl ?_
      refine g_getR (b := ta) C cls_6 7 0 ha htf rfl k_82 dX5_start_4 ?_
      refine g_alen C 1010 0 hta rfl (by decide) dX5_start_7 ?_
      refine g_icmp_ge C 55 dX5_start_8 (by decide) (fun c_8 => ?_) (fun c_8 => ?_)
      · refine g_iconst C (-1) dX5_start_55 (by rfl) ?_
        refine g_iret C rfl rfl (by decide) (by decide) dX5_start_56 ?_
        exact ⟨by rw [← hb]; rfl, rfl⟩
      · exact absurd (by rw [htl]; exact nI_le (by omega) (by omega)) c_8
    | succ k ih =>
      intro d hdk hd2 hb
      refine g_iload_n C dX5_start_2 rfl ?_
      refine g_aload_n C dX5_start_3 rfl ?_
      refine g_getR (b := ta) C cls_6 7 0 ha htf rfl k_82 dX5_start_4 ?_
      refine g_alen C 1010 0 hta rfl (by decide) dX5_start_7 ?_
      refine g_icmp_ge C 55 dX5_start_8 (by decide) (fun c_8 => ?_) (fun c_8 => ?_)
      · exact absurd (by rw [htl] at c_8; exact c_8) (nI_ge (a := d) (b := 60) (by omega) (by decide))
      · refine g_aload_n C dX5_start_11 rfl ?_
        refine g_iload_n C dX5_start_12 rfl ?_
        refine g_iconst C 3 dX5_start_13 (by rfl) ?_
        refine g_isub C dX5_start_14 ?_
        refine g_iconst C 1 dX5_start_15 (by rfl) ?_
        refine g_iadd C dX5_start_16 ?_
        refine g_iload_n C dX5_start_17 rfl ?_
        refine g_iconst C 1 dX5_start_18 (by rfl) ?_
        refine g_iadd C dX5_start_19 ?_
        rw [nI_1 d, st_sub d (by omega) (by omega)]
        refine g_callV C cls_6 7 mt_X5_sum [.int (nI (d - 2)), .int (nI (d + 1))] (c_X5_sum de w a ta (d - 2) (d + 1) hs (by omega) (by omega)) ha (by decide) k_656 rfl rfl (Nat.le_of_ble_eq_true rfl) (by decide) (by decide) (by decide) (by decide) dX5_start_20 (fun r_20 w_20 hp_20 => ?_)
        obtain ⟨rfl, rfl⟩ := hp_20
        rw [show min (d + 1) 60 - (d - 2) = 3 by omega]
        refine g_sipush C 200 dX5_start_23 (by rfl) ?_
        refine g_icmp_lt C 49 dX5_start_26 (by decide) (fun c_26 => ?_) (fun c_26 => ?_)
        · refine g_iinc C dX5_start_49 rfl (nI_1 d) (by decide) ?_
          refine g_goto C 2 dX5_start_52 (by decide) ?_
          have h9 := ih (d + 1) (by omega) (by omega) (by rw [← begO_f (d := d) (by omega) (okD_f (by first | exact Or.inl c_26 | exact Or.inr c_44))]; exact hb)
          exact g_lv2 [(0, .ref a), (1, .int (nI (d + 1)))] rfl h9
        · refine g_aload_n C dX5_start_29 rfl ?_
          refine g_iload_n C dX5_start_30 rfl ?_
          refine g_iconst C 1 dX5_start_31 (by rfl) ?_
          refine g_iadd C dX5_start_32 ?_
          refine g_iload_n C dX5_start_33 rfl ?_
          refine g_iconst C 1 dX5_start_34 (by rfl) ?_
          refine g_iadd C dX5_start_35 ?_
          refine g_bipush C 15 dX5_start_36 (by rfl) ?_
          refine g_iadd C dX5_start_38 ?_
          rw [nI_1 d, show nI (d + 1) + 15 = nI (d + 16) from nI_add (d + 1) 15]
          refine g_callV C cls_6 7 mt_X5_drySpell [.int (nI (d + 1)), .int (nI (d + 16))] (c_X5_drySpell de w a ta (d + 1) (d + 16) hs (by omega) (by omega)) ha (by decide) k_661 rfl rfl (Nat.le_of_ble_eq_true rfl) (by decide) (by decide) (by decide) (by decide) dX5_start_39 (fun r_39 w_39 hp_39 => ?_)
          obtain ⟨rfl, rfl⟩ := hp_39
          refine g_bipush C 7 dX5_start_42 (by rfl) ?_
          refine g_icmp_ge C 49 dX5_start_44 (by decide) (fun c_44 => ?_) (fun c_44 => ?_)
          · refine g_iinc C dX5_start_49 rfl (nI_1 d) (by decide) ?_
            refine g_goto C 2 dX5_start_52 (by decide) ?_
            have h9 := ih (d + 1) (by omega) (by omega) (by rw [← begO_f (d := d) (by omega) (okD_f (by first | exact Or.inl c_26 | exact Or.inr c_44))]; exact hb)
            exact g_lv2 [(0, .ref a), (1, .int (nI (d + 1)))] rfl h9
          · refine g_iload_n C dX5_start_47 rfl ?_
            refine g_iret C rfl rfl (by decide) (by decide) dX5_start_48 ?_
            exact ⟨by rw [← hb, begO_t (d := d) (by omega) (okD_t c_26 c_44)]; rfl, rfl⟩
  refine g_iconst C 2 dX5_start_0 (by rfl) ?_
  refine g_istore_n C dX5_start_1 (by decide) ?_
  exact g_lv2 [(0, .ref a), (1, .int (nI 2))] rfl (loop 58 2 (by omega) (by omega) rfl)
theorem dX5_fill_0 : decode cX5_fill 0 = .ok (.iconst 0, 1) := by decide +kernel
theorem dX5_fill_1 : decode cX5_fill 1 = .ok (.istore 6, 2) := by decide +kernel
theorem dX5_fill_3 : decode cX5_fill 3 = .ok (.iload 6, 2) := by decide +kernel
theorem dX5_fill_5 : decode cX5_fill 5 = .ok (.aload_n 0, 1) := by decide +kernel
theorem dX5_fill_6 : decode cX5_fill 6 = .ok (.getfield 9, 3) := by decide +kernel
theorem dX5_fill_9 : decode cX5_fill 9 = .ok (.arraylength, 1) := by decide +kernel
theorem dX5_fill_10 : decode cX5_fill 10 = .ok (.if_icmp .ge 32, 3) := by decide +kernel
theorem dX5_fill_13 : decode cX5_fill 13 = .ok (.aload_n 0, 1) := by decide +kernel
theorem dX5_fill_14 : decode cX5_fill 14 = .ok (.getfield 9, 3) := by decide +kernel
theorem dX5_fill_17 : decode cX5_fill 17 = .ok (.iload 6, 2) := by decide +kernel
theorem dX5_fill_19 : decode cX5_fill 19 = .ok (.aload_n 1, 1) := by decide +kernel
theorem dX5_fill_20 : decode cX5_fill 20 = .ok (.aload_n 2, 1) := by decide +kernel
theorem dX5_fill_21 : decode cX5_fill 21 = .ok (.iload_n 3, 1) := by decide +kernel
theorem dX5_fill_22 : decode cX5_fill 22 = .ok (.invokestatic 15, 3) := by decide +kernel
theorem dX5_fill_25 : decode cX5_fill 25 = .ok (.iload 6, 2) := by decide +kernel
theorem dX5_fill_27 : decode cX5_fill 27 = .ok (.iadd, 1) := by decide +kernel
theorem dX5_fill_28 : decode cX5_fill 28 = .ok (.iload 4, 2) := by decide +kernel
theorem dX5_fill_30 : decode cX5_fill 30 = .ok (.iload 5, 2) := by decide +kernel
theorem dX5_fill_32 : decode cX5_fill 32 = .ok (.invokevirtual 19, 3) := by decide +kernel
theorem dX5_fill_35 : decode cX5_fill 35 = .ok (.iastore, 1) := by decide +kernel
theorem dX5_fill_36 : decode cX5_fill 36 = .ok (.iinc 6 1, 3) := by decide +kernel
theorem dX5_fill_39 : decode cX5_fill 39 = .ok (.goto (-36), 3) := by decide +kernel
theorem dX5_fill_42 : decode cX5_fill 42 = .ok (.return_, 1) := by decide +kernel
set_option maxHeartbeats 4000000 in
set_option maxRecDepth 100000 in
theorem c_X5_fill (de : Nat) (w : Wd) (a ta : Nat) (hs : SR9 w a ta) (we sl nS : Nat) (stA laA : Nat → Nat) (xs ys : Nat → Int32) (ch : Nat → Nat → List (Nat × Int32)) (hw : WS9 w de we sl nS stA laA xs ys ch) (s0 se n : Nat) (kn : Int32) (hs0 : s0 < nS) (hse : se < 20) (hn : n < 100000) : Ct yX5_fill cX5_fill 7 none 4 93 0 0 de [.ref a, .ref we, .ref (stA s0), .int (nI se), .int kn, .int (nI n)] w (fun r w' => r = none ∧ ∃ g, w' = stR w 1010 ta g ∧ ∀ j, j < 60 → g j = rainV nS xs ys (fun k => datV (ch k (60 * se + j)) kn n) s0) := by
  refine Ct.mk (by decide +kernel) [(0, .ref a), (1, .ref we), (2, .ref (stA s0)), (3, .int (nI se)), (4, .int kn), (5, .int (nI n))] rfl (Nat.le_of_ble_eq_true rfl) ?_
  intro p l e R s m args below meth c D cy z C hnm
  obtain ⟨ha, htf, hta, htl⟩ := id hs
  obtain ⟨row, hrow⟩ : ∃ row : Nat → Int32, ∀ j, row j = rainV nS xs ys (fun k => datV (ch k (60 * se + j)) kn n) s0 := ⟨_, fun _ => rfl⟩
  simp only [← hrow]
  have loop : ∀ (k i : Nat) (g : Nat → Int32), i + k = 60 → (∀ j, j < i → g j = row j) → G p l e R s m args below meth c D cy z 7 (stR w 1010 ta g) 0 0 3 [(0, .ref a), (1, .ref we), (2, .ref (stA s0)), (3, .int (nI se)), (4, .int kn), (5, .int (nI n)), (6, .int (nI i))] [] (QM below args s D cy z (fun r w' => r = none ∧ ∃ g, w' = stR w 1010 ta g ∧ ∀ j, j < 60 → g j = row j) 0 0) := by
    intro k
    induction k with
    | zero =>
      intro i g hik hg
      refine g_iload C dX5_fill_3 rfl ?_
      refine g_aload_n C dX5_fill_5 rfl ?_
      refine g_getR (b := ta) C cls_6 7 0 ha htf rfl k_82 dX5_fill_6 ?_
      refine g_alen C 1010 0 hta rfl (by decide) dX5_fill_9 ?_
      refine g_icmp_ge C 42 dX5_fill_10 (by decide) (fun c_10 => ?_) (fun c_10 => ?_)
      · refine g_vret C rfl (by decide) (by decide) dX5_fill_42 ?_
        exact ⟨rfl, g, rfl, fun j hj => hg j (by omega)⟩
      · exact absurd (show Int32.ofNat (aL w ta) ≤ nI i by rw [htl]; exact nI_le (by omega) (by omega)) c_10
    | succ k ih =>
      intro i g hik hg
      refine g_iload C dX5_fill_3 rfl ?_
      refine g_aload_n C dX5_fill_5 rfl ?_
      refine g_getR (b := ta) C cls_6 7 0 ha htf rfl k_82 dX5_fill_6 ?_
      refine g_alen C 1010 0 hta rfl (by decide) dX5_fill_9 ?_
      refine g_icmp_ge C 42 dX5_fill_10 (by decide) (fun c_10 => ?_) (fun c_10 => ?_)
      · exact absurd (show nI 60 ≤ nI i by have h9 : Int32.ofNat (aL w ta) ≤ nI i := c_10; rw [htl] at h9; exact h9) (nI_ge (a := i) (b := 60) (by omega) (by decide))
      · refine g_aload_n C dX5_fill_13 rfl ?_
        refine g_getR (b := ta) C cls_6 7 0 ha htf rfl k_82 dX5_fill_14 ?_
        refine g_iload C dX5_fill_17 rfl ?_
        refine g_aload_n C dX5_fill_19 rfl ?_
        refine g_aload_n C dX5_fill_20 rfl ?_
        refine g_iload_n C dX5_fill_21 rfl ?_
        refine g_callSN C mt_X9_firstDay [.int (nI se)] (c_X9_firstDay de (stR w 1010 ta g) (nI se)) kn_639 rfl rfl (Nat.le_of_ble_eq_true rfl) (by decide) (by decide) (by decide) (by decide) dX5_fill_22 (fun r_22 w_22 hp_22 => ?_)
        obtain ⟨rfl, rfl⟩ := hp_22
        refine g_iload C dX5_fill_25 rfl ?_
        refine g_iadd C dX5_fill_27 ?_
        rw [show nI se * 60 + nI i = nI (60 * se + i) by rw [show (60 : Int32) = nI 60 from rfl, pk_mul, nI_add, Nat.mul_comm]]
        refine g_iload C dX5_fill_28 rfl ?_
        refine g_iload C dX5_fill_30 rfl ?_
        refine g_callV C cls_9 10 mt_X8_rainOn [.ref (stA s0), .int (nI (60 * se + i)), .int kn, .int (nI n)] (c_X8_rainOn de (stR w 1010 ta g) we sl nS stA laA xs ys ch hw s0 (60 * se + i) n kn hs0 (by omega) hn) hw.1 (by decide) k_640 rfl rfl (Nat.le_of_ble_eq_true rfl) (by decide) (by decide) (by decide) (by decide) dX5_fill_32 (fun r_32 w_32 hp_32 => ?_)
        obtain ⟨rfl, rfl⟩ := hp_32
        rw [← hrow i]
        refine g_iast C 1010 hta rfl (show vp_in (nI i) (aL w ta) by rw [htl]; exact nI_vp (by omega) (by omega)) dX5_fill_35 ?_
        refine g_iinc C dX5_fill_36 rfl (nI_1 i) (by decide) ?_
        refine g_goto C 3 dX5_fill_39 (by decide) ?_
        have h9 := ih (i + 1) (upd g i (row i)) (by omega) (fun j hj => by by_cases e9 : j = i <;> simp [upd, e9] <;> exact hg j (by omega))
        refine g_eq rfl rfl (w' := stR w 1010 ta (upd g i (row i))) (by rw [nI_tn (by omega)]; exact pAI_stR) ?_
        exact g_lv2 [(0, .ref a), (1, .ref we), (2, .ref (stA s0)), (3, .int (nI se)), (4, .int kn), (5, .int (nI n)), (6, .int (nI (i + 1)))] rfl h9
  refine g_iconst C 0 dX5_fill_0 (by rfl) ?_
  refine g_istore C dX5_fill_1 (by decide) ?_
  refine g_eq rfl rfl (w' := stR w 1010 ta (aI w 1010 ta)) stR_self.symm ?_
  exact g_lv2 [(0, .ref a), (1, .ref we), (2, .ref (stA s0)), (3, .int (nI se)), (4, .int kn), (5, .int (nI n)), (6, .int (nI 0))] rfl (loop 60 0 _ (by omega) (fun j hj => absurd hj (by omega)))
theorem dX3_look_0 : decode cX3_look 0 = .ok (.iload_n 2, 1) := by decide +kernel
theorem dX3_look_1 : decode cX3_look 1 = .ok (.bipush 60, 2) := by decide +kernel
theorem dX3_look_3 : decode cX3_look 3 = .ok (.if_icmp .lt 17, 3) := by decide +kernel
theorem dX3_look_6 : decode cX3_look 6 = .ok (.aload_n 0, 1) := by decide +kernel
theorem dX3_look_7 : decode cX3_look 7 = .ok (.getfield 15, 3) := by decide +kernel
theorem dX3_look_10 : decode cX3_look 10 = .ok (.ifCond .eq 8, 3) := by decide +kernel
theorem dX3_look_13 : decode cX3_look 13 = .ok (.bipush 60, 2) := by decide +kernel
theorem dX3_look_15 : decode cX3_look 15 = .ok (.goto 4, 3) := by decide +kernel
theorem dX3_look_18 : decode cX3_look 18 = .ok (.iconst 0, 1) := by decide +kernel
theorem dX3_look_19 : decode cX3_look 19 = .ok (.ireturn, 1) := by decide +kernel
theorem dX3_look_20 : decode cX3_look 20 = .ok (.aload_n 0, 1) := by decide +kernel
theorem dX3_look_21 : decode cX3_look 21 = .ok (.getfield 15, 3) := by decide +kernel
theorem dX3_look_24 : decode cX3_look 24 = .ok (.ifCond .eq 17, 3) := by decide +kernel
theorem dX3_look_27 : decode cX3_look 27 = .ok (.aload_n 1, 1) := by decide +kernel
theorem dX3_look_28 : decode cX3_look 28 = .ok (.iload_n 2, 1) := by decide +kernel
theorem dX3_look_29 : decode cX3_look 29 = .ok (.iload_n 2, 1) := by decide +kernel
theorem dX3_look_30 : decode cX3_look 30 = .ok (.aload_n 0, 1) := by decide +kernel
theorem dX3_look_31 : decode cX3_look 31 = .ok (.getfield 9, 3) := by decide +kernel
theorem dX3_look_34 : decode cX3_look 34 = .ok (.iadd, 1) := by decide +kernel
theorem dX3_look_35 : decode cX3_look 35 = .ok (.invokevirtual 28, 3) := by decide +kernel
theorem dX3_look_38 : decode cX3_look 38 = .ok (.goto 14, 3) := by decide +kernel
theorem dX3_look_41 : decode cX3_look 41 = .ok (.aload_n 1, 1) := by decide +kernel
theorem dX3_look_42 : decode cX3_look 42 = .ok (.iload_n 2, 1) := by decide +kernel
theorem dX3_look_43 : decode cX3_look 43 = .ok (.iload_n 2, 1) := by decide +kernel
theorem dX3_look_44 : decode cX3_look 44 = .ok (.aload_n 0, 1) := by decide +kernel
theorem dX3_look_45 : decode cX3_look 45 = .ok (.getfield 9, 3) := by decide +kernel
theorem dX3_look_48 : decode cX3_look 48 = .ok (.iadd, 1) := by decide +kernel
theorem dX3_look_49 : decode cX3_look 49 = .ok (.invokevirtual 34, 3) := by decide +kernel
theorem dX3_look_52 : decode cX3_look 52 = .ok (.ireturn, 1) := by decide +kernel
set_option maxHeartbeats 4000000 in
set_option maxRecDepth 100000 in
theorem c_X3_look (de : Nat) (w : Wd) (ph a ta dn fr : Nat) (hs : SR9 w a ta) (hp : kd w ph = 5) (hdn : fI w 5 0 ph = nI dn) (hd : dn ≤ 30) (hf : fr ≤ 500) : Ct yX3_look cX3_look 3 (some .int) 2 46 0 0 de [.ref ph, .ref a, .int (nI fr)] w (fun r w' => r = some (.int (lookV (aI w 1010 ta) (fI w 5 1 ph) dn fr)) ∧ w = w') := by
  refine Ct.mk (by decide +kernel) [(0, .ref ph), (1, .ref a), (2, .int (nI fr))] rfl (Nat.le_of_ble_eq_true rfl) ?_
  intro p l e R s m args below meth c D cy z C hnm
  refine g_iload_n C dX3_look_0 rfl ?_
  refine g_bipush C 60 dX3_look_1 (by rfl) ?_
  refine g_icmp_lt C 20 dX3_look_3 (by decide) (fun c_3 => ?_) (fun c_3 => ?_)
  · refine g_aload_n C dX3_look_20 rfl ?_
    refine g_getI C cls_4 5 1 hp rfl k_474 dX3_look_21 ?_
    refine g_if_eq C 41 dX3_look_24 (by decide) (fun c_24 => ?_) (fun c_24 => ?_)
    · refine g_aload_n C dX3_look_41 rfl ?_
      refine g_iload_n C dX3_look_42 rfl ?_
      refine g_iload_n C dX3_look_43 rfl ?_
      refine g_aload_n C dX3_look_44 rfl ?_
      refine g_getI C cls_4 5 0 hp rfl k_472 dX3_look_45 ?_
      refine g_iadd C dX3_look_48 ?_
      rw [hdn, nI_add]
      refine g_callV C cls_6 7 mt_X5_sum [.int (nI fr), .int (nI (fr + dn))] (c_X5_sum de w a ta fr (fr + dn) hs (by omega) (by omega)) hs.1 (by decide) k_673 rfl rfl (Nat.le_of_ble_eq_true rfl) (by decide) (by decide) (by decide) (by decide) dX3_look_49 (fun r_49 w_49 hp_49 => ?_)
      obtain ⟨rfl, rfl⟩ := hp_49
      refine g_iret C rfl rfl (by decide) (by decide) dX3_look_52 ?_
      have h9 : ¬ 60 ≤ fr := Nat.not_le.mpr (nI_lt_of c_3 (by omega) (by omega))
      first
      | exact ⟨congrArg (fun v => some (Value.int v)) (by rw [lookV, if_neg h9, if_pos c_24]), rfl⟩
      | exact ⟨congrArg (fun v => some (Value.int v)) (by rw [lookV, if_neg h9, if_neg c_24]), rfl⟩
    · refine g_aload_n C dX3_look_27 rfl ?_
      refine g_iload_n C dX3_look_28 rfl ?_
      refine g_iload_n C dX3_look_29 rfl ?_
      refine g_aload_n C dX3_look_30 rfl ?_
      refine g_getI C cls_4 5 0 hp rfl k_472 dX3_look_31 ?_
      refine g_iadd C dX3_look_34 ?_
      rw [hdn, nI_add]
      refine g_callV C cls_6 7 mt_X5_drySpell [.int (nI fr), .int (nI (fr + dn))] (c_X5_drySpell de w a ta fr (fr + dn) hs (by omega) (by omega)) hs.1 (by decide) k_672 rfl rfl (Nat.le_of_ble_eq_true rfl) (by decide) (by decide) (by decide) (by decide) dX3_look_35 (fun r_35 w_35 hp_35 => ?_)
      obtain ⟨rfl, rfl⟩ := hp_35
      refine g_goto C 52 dX3_look_38 (by decide) ?_
      refine g_iret C rfl rfl (by decide) (by decide) dX3_look_52 ?_
      have h9 : ¬ 60 ≤ fr := Nat.not_le.mpr (nI_lt_of c_3 (by omega) (by omega))
      first
      | exact ⟨congrArg (fun v => some (Value.int v)) (by rw [lookV, if_neg h9, if_pos c_24]), rfl⟩
      | exact ⟨congrArg (fun v => some (Value.int v)) (by rw [lookV, if_neg h9, if_neg c_24]), rfl⟩
  · refine g_aload_n C dX3_look_6 rfl ?_
    refine g_getI C cls_4 5 1 hp rfl k_474 dX3_look_7 ?_
    refine g_if_eq C 18 dX3_look_10 (by decide) (fun c_10 => ?_) (fun c_10 => ?_)
    · refine g_iconst C 0 dX3_look_18 (by rfl) ?_
      refine g_iret C rfl rfl (by decide) (by decide) dX3_look_19 ?_
      have h9 : 60 ≤ fr := nI_nlt_of c_3 (by omega) (by omega)
      first
      | exact ⟨congrArg (fun v => some (Value.int v)) (by rw [lookV, if_pos h9, if_pos c_10]), rfl⟩
      | exact ⟨congrArg (fun v => some (Value.int v)) (by rw [lookV, if_pos h9, if_neg c_10]), rfl⟩
    · refine g_bipush C 60 dX3_look_13 (by rfl) ?_
      refine g_goto C 19 dX3_look_15 (by decide) ?_
      refine g_iret C rfl rfl (by decide) (by decide) dX3_look_19 ?_
      have h9 : 60 ≤ fr := nI_nlt_of c_3 (by omega) (by omega)
      first
      | exact ⟨congrArg (fun v => some (Value.int v)) (by rw [lookV, if_pos h9, if_pos c_10]), rfl⟩
      | exact ⟨congrArg (fun v => some (Value.int v)) (by rw [lookV, if_pos h9, if_neg c_10]), rfl⟩
theorem dX3_pays_0 : decode cX3_pays 0 = .ok (.aload_n 0, 1) := by decide +kernel
theorem dX3_pays_1 : decode cX3_pays 1 = .ok (.getfield 15, 3) := by decide +kernel
theorem dX3_pays_4 : decode cX3_pays 4 = .ok (.ifCond .eq 12, 3) := by decide +kernel
theorem dX3_pays_7 : decode cX3_pays 7 = .ok (.iload_n 1, 1) := by decide +kernel
theorem dX3_pays_8 : decode cX3_pays 8 = .ok (.aload_n 0, 1) := by decide +kernel
theorem dX3_pays_9 : decode cX3_pays 9 = .ok (.getfield 19, 3) := by decide +kernel
theorem dX3_pays_12 : decode cX3_pays 12 = .ok (.isub, 1) := by decide +kernel
theorem dX3_pays_13 : decode cX3_pays 13 = .ok (.goto 9, 3) := by decide +kernel
theorem dX3_pays_16 : decode cX3_pays 16 = .ok (.aload_n 0, 1) := by decide +kernel
theorem dX3_pays_17 : decode cX3_pays 17 = .ok (.getfield 19, 3) := by decide +kernel
theorem dX3_pays_20 : decode cX3_pays 20 = .ok (.iload_n 1, 1) := by decide +kernel
theorem dX3_pays_21 : decode cX3_pays 21 = .ok (.isub, 1) := by decide +kernel
theorem dX3_pays_22 : decode cX3_pays 22 = .ok (.istore_n 2, 1) := by decide +kernel
theorem dX3_pays_23 : decode cX3_pays 23 = .ok (.aload_n 0, 1) := by decide +kernel
theorem dX3_pays_24 : decode cX3_pays 24 = .ok (.getfield 15, 3) := by decide +kernel
theorem dX3_pays_27 : decode cX3_pays 27 = .ok (.ifCond .eq 15, 3) := by decide +kernel
theorem dX3_pays_30 : decode cX3_pays 30 = .ok (.aload_n 0, 1) := by decide +kernel
theorem dX3_pays_31 : decode cX3_pays 31 = .ok (.getfield 22, 3) := by decide +kernel
theorem dX3_pays_34 : decode cX3_pays 34 = .ok (.aload_n 0, 1) := by decide +kernel
theorem dX3_pays_35 : decode cX3_pays 35 = .ok (.getfield 19, 3) := by decide +kernel
theorem dX3_pays_38 : decode cX3_pays 38 = .ok (.isub, 1) := by decide +kernel
theorem dX3_pays_39 : decode cX3_pays 39 = .ok (.goto 12, 3) := by decide +kernel
theorem dX3_pays_42 : decode cX3_pays 42 = .ok (.aload_n 0, 1) := by decide +kernel
theorem dX3_pays_43 : decode cX3_pays 43 = .ok (.getfield 19, 3) := by decide +kernel
theorem dX3_pays_46 : decode cX3_pays 46 = .ok (.aload_n 0, 1) := by decide +kernel
theorem dX3_pays_47 : decode cX3_pays 47 = .ok (.getfield 22, 3) := by decide +kernel
theorem dX3_pays_50 : decode cX3_pays 50 = .ok (.isub, 1) := by decide +kernel
theorem dX3_pays_51 : decode cX3_pays 51 = .ok (.istore_n 3, 1) := by decide +kernel
theorem dX3_pays_52 : decode cX3_pays 52 = .ok (.iload_n 2, 1) := by decide +kernel
theorem dX3_pays_53 : decode cX3_pays 53 = .ok (.ifCond .gt 5, 3) := by decide +kernel
theorem dX3_pays_56 : decode cX3_pays 56 = .ok (.iconst 0, 1) := by decide +kernel
theorem dX3_pays_57 : decode cX3_pays 57 = .ok (.ireturn, 1) := by decide +kernel
theorem dX3_pays_58 : decode cX3_pays 58 = .ok (.iload_n 3, 1) := by decide +kernel
theorem dX3_pays_59 : decode cX3_pays 59 = .ok (.ifCond .le 8, 3) := by decide +kernel
theorem dX3_pays_62 : decode cX3_pays 62 = .ok (.iload_n 2, 1) := by decide +kernel
theorem dX3_pays_63 : decode cX3_pays 63 = .ok (.iload_n 3, 1) := by decide +kernel
theorem dX3_pays_64 : decode cX3_pays 64 = .ok (.if_icmp .lt 9, 3) := by decide +kernel
theorem dX3_pays_67 : decode cX3_pays 67 = .ok (.sipush 1000, 3) := by decide +kernel
theorem dX3_pays_70 : decode cX3_pays 70 = .ok (.goto 10, 3) := by decide +kernel
theorem dX3_pays_73 : decode cX3_pays 73 = .ok (.sipush 1000, 3) := by decide +kernel
theorem dX3_pays_76 : decode cX3_pays 76 = .ok (.iload_n 2, 1) := by decide +kernel
theorem dX3_pays_77 : decode cX3_pays 77 = .ok (.imul, 1) := by decide +kernel
theorem dX3_pays_78 : decode cX3_pays 78 = .ok (.iload_n 3, 1) := by decide +kernel
theorem dX3_pays_79 : decode cX3_pays 79 = .ok (.idiv, 1) := by decide +kernel
theorem dX3_pays_80 : decode cX3_pays 80 = .ok (.ireturn, 1) := by decide +kernel
set_option maxHeartbeats 4000000 in
set_option maxRecDepth 100000 in
theorem c_X3_pays (de : Nat) (w : Wd) (ph : Nat) (its : Int32) (hp : kd w ph = 5) : Ct yX3_pays cX3_pays 4 (some .int) 0 0 0 0 de [.ref ph, .int its] w (fun r w' => r = some (.int (payV (fI w 5 1 ph) (fI w 5 2 ph) (fI w 5 3 ph) its)) ∧ w = w') := by
  refine Ct.mk (by decide +kernel) [(0, .ref ph), (1, .int its)] rfl (Nat.le_of_ble_eq_true rfl) ?_
  intro p l e R s m args below meth c D cy z C hnm
  refine g_aload_n C dX3_pays_0 rfl ?_
  refine g_getI C cls_4 5 1 hp rfl k_474 dX3_pays_1 ?_
  refine g_if_eq C 16 dX3_pays_4 (by decide) (fun c_4 => ?_) (fun c_4 => ?_)
  · refine g_aload_n C dX3_pays_16 rfl ?_
    refine g_getI C cls_4 5 2 hp rfl k_475 dX3_pays_17 ?_
    refine g_iload_n C dX3_pays_20 rfl ?_
    refine g_isub C dX3_pays_21 ?_
    refine g_istore_n C dX3_pays_22 (by decide) ?_
    refine g_aload_n C dX3_pays_23 rfl ?_
    refine g_getI C cls_4 5 1 hp rfl k_474 dX3_pays_24 ?_
    refine g_if_eq C 42 dX3_pays_27 (by decide) (fun c_27 => ?_) (fun c_27 => ?_)
    · refine g_aload_n C dX3_pays_42 rfl ?_
      refine g_getI C cls_4 5 2 hp rfl k_475 dX3_pays_43 ?_
      refine g_aload_n C dX3_pays_46 rfl ?_
      refine g_getI C cls_4 5 3 hp rfl k_476 dX3_pays_47 ?_
      refine g_isub C dX3_pays_50 ?_
      refine g_istore_n C dX3_pays_51 (by decide) ?_
      refine g_iload_n C dX3_pays_52 rfl ?_
      refine g_if_gt C 58 dX3_pays_53 (by decide) (fun c_53 => ?_) (fun c_53 => ?_)
      · refine g_iload_n C dX3_pays_58 rfl ?_
        refine g_if_le C 67 dX3_pays_59 (by decide) (fun c_59 => ?_) (fun c_59 => ?_)
        · refine g_sipush C 1000 dX3_pays_67 (by rfl) ?_
          refine g_goto C 80 dX3_pays_70 (by decide) ?_
          refine g_iret C rfl rfl (by decide) (by decide) dX3_pays_80 ?_
          first
          | exact absurd c_4 c_27
          | exact absurd c_27 c_4
          | exact ⟨congrArg (fun v => some (Value.int v)) ((payV_1 (if_pos c_4).symm (if_pos c_27).symm (Int32.not_le.mpr c_53) c_59).symm), rfl⟩
          | exact ⟨congrArg (fun v => some (Value.int v)) ((payV_1 (if_pos c_4).symm (if_neg c_27).symm (Int32.not_le.mpr c_53) c_59).symm), rfl⟩
          | exact ⟨congrArg (fun v => some (Value.int v)) ((payV_1 (if_neg c_4).symm (if_pos c_27).symm (Int32.not_le.mpr c_53) c_59).symm), rfl⟩
          | exact ⟨congrArg (fun v => some (Value.int v)) ((payV_1 (if_neg c_4).symm (if_neg c_27).symm (Int32.not_le.mpr c_53) c_59).symm), rfl⟩
          | exact ⟨congrArg (fun v => some (Value.int v)) ((payV_2 (if_pos c_4).symm (if_pos c_27).symm (Int32.not_le.mpr c_53) c_59 (Int32.not_lt.mp c_64)).symm), rfl⟩
          | exact ⟨congrArg (fun v => some (Value.int v)) ((payV_2 (if_pos c_4).symm (if_neg c_27).symm (Int32.not_le.mpr c_53) c_59 (Int32.not_lt.mp c_64)).symm), rfl⟩
          | exact ⟨congrArg (fun v => some (Value.int v)) ((payV_2 (if_neg c_4).symm (if_pos c_27).symm (Int32.not_le.mpr c_53) c_59 (Int32.not_lt.mp c_64)).symm), rfl⟩
          | exact ⟨congrArg (fun v => some (Value.int v)) ((payV_2 (if_neg c_4).symm (if_neg c_27).symm (Int32.not_le.mpr c_53) c_59 (Int32.not_lt.mp c_64)).symm), rfl⟩
          | exact ⟨congrArg (fun v => some (Value.int v)) ((payV_3 (if_pos c_4).symm (if_pos c_27).symm (Int32.not_le.mpr c_53) c_59 (Int32.not_le.mpr c_64)).symm), rfl⟩
          | exact ⟨congrArg (fun v => some (Value.int v)) ((payV_3 (if_pos c_4).symm (if_neg c_27).symm (Int32.not_le.mpr c_53) c_59 (Int32.not_le.mpr c_64)).symm), rfl⟩
          | exact ⟨congrArg (fun v => some (Value.int v)) ((payV_3 (if_neg c_4).symm (if_pos c_27).symm (Int32.not_le.mpr c_53) c_59 (Int32.not_le.mpr c_64)).symm), rfl⟩
          | exact ⟨congrArg (fun v => some (Value.int v)) ((payV_3 (if_neg c_4).symm (if_neg c_27).symm (Int32.not_le.mpr c_53) c_59 (Int32.not_le.mpr c_64)).symm), rfl⟩
        · refine g_iload_n C dX3_pays_62 rfl ?_
          refine g_iload_n C dX3_pays_63 rfl ?_
          refine g_icmp_lt C 73 dX3_pays_64 (by decide) (fun c_64 => ?_) (fun c_64 => ?_)
          · refine g_sipush C 1000 dX3_pays_73 (by rfl) ?_
            refine g_iload_n C dX3_pays_76 rfl ?_
            refine g_imul C dX3_pays_77 ?_
            refine g_iload_n C dX3_pays_78 rfl ?_
            refine g_idiv C dX3_pays_79 (fun z => c_59 (by rw [z]; exact Int32.le_refl 0)) ?_
            refine g_iret C rfl rfl (by decide) (by decide) dX3_pays_80 ?_
            first
            | exact absurd c_4 c_27
            | exact absurd c_27 c_4
            | exact ⟨congrArg (fun v => some (Value.int v)) ((payV_1 (if_pos c_4).symm (if_pos c_27).symm (Int32.not_le.mpr c_53) c_59).symm), rfl⟩
            | exact ⟨congrArg (fun v => some (Value.int v)) ((payV_1 (if_pos c_4).symm (if_neg c_27).symm (Int32.not_le.mpr c_53) c_59).symm), rfl⟩
            | exact ⟨congrArg (fun v => some (Value.int v)) ((payV_1 (if_neg c_4).symm (if_pos c_27).symm (Int32.not_le.mpr c_53) c_59).symm), rfl⟩
            | exact ⟨congrArg (fun v => some (Value.int v)) ((payV_1 (if_neg c_4).symm (if_neg c_27).symm (Int32.not_le.mpr c_53) c_59).symm), rfl⟩
            | exact ⟨congrArg (fun v => some (Value.int v)) ((payV_2 (if_pos c_4).symm (if_pos c_27).symm (Int32.not_le.mpr c_53) c_59 (Int32.not_lt.mp c_64)).symm), rfl⟩
            | exact ⟨congrArg (fun v => some (Value.int v)) ((payV_2 (if_pos c_4).symm (if_neg c_27).symm (Int32.not_le.mpr c_53) c_59 (Int32.not_lt.mp c_64)).symm), rfl⟩
            | exact ⟨congrArg (fun v => some (Value.int v)) ((payV_2 (if_neg c_4).symm (if_pos c_27).symm (Int32.not_le.mpr c_53) c_59 (Int32.not_lt.mp c_64)).symm), rfl⟩
            | exact ⟨congrArg (fun v => some (Value.int v)) ((payV_2 (if_neg c_4).symm (if_neg c_27).symm (Int32.not_le.mpr c_53) c_59 (Int32.not_lt.mp c_64)).symm), rfl⟩
            | exact ⟨congrArg (fun v => some (Value.int v)) ((payV_3 (if_pos c_4).symm (if_pos c_27).symm (Int32.not_le.mpr c_53) c_59 (Int32.not_le.mpr c_64)).symm), rfl⟩
            | exact ⟨congrArg (fun v => some (Value.int v)) ((payV_3 (if_pos c_4).symm (if_neg c_27).symm (Int32.not_le.mpr c_53) c_59 (Int32.not_le.mpr c_64)).symm), rfl⟩
            | exact ⟨congrArg (fun v => some (Value.int v)) ((payV_3 (if_neg c_4).symm (if_pos c_27).symm (Int32.not_le.mpr c_53) c_59 (Int32.not_le.mpr c_64)).symm), rfl⟩
            | exact ⟨congrArg (fun v => some (Value.int v)) ((payV_3 (if_neg c_4).symm (if_neg c_27).symm (Int32.not_le.mpr c_53) c_59 (Int32.not_le.mpr c_64)).symm), rfl⟩
          · refine g_sipush C 1000 dX3_pays_67 (by rfl) ?_
            refine g_goto C 80 dX3_pays_70 (by decide) ?_
            refine g_iret C rfl rfl (by decide) (by decide) dX3_pays_80 ?_
            first
            | exact absurd c_4 c_27
            | exact absurd c_27 c_4
            | exact ⟨congrArg (fun v => some (Value.int v)) ((payV_1 (if_pos c_4).symm (if_pos c_27).symm (Int32.not_le.mpr c_53) c_59).symm), rfl⟩
            | exact ⟨congrArg (fun v => some (Value.int v)) ((payV_1 (if_pos c_4).symm (if_neg c_27).symm (Int32.not_le.mpr c_53) c_59).symm), rfl⟩
            | exact ⟨congrArg (fun v => some (Value.int v)) ((payV_1 (if_neg c_4).symm (if_pos c_27).symm (Int32.not_le.mpr c_53) c_59).symm), rfl⟩
            | exact ⟨congrArg (fun v => some (Value.int v)) ((payV_1 (if_neg c_4).symm (if_neg c_27).symm (Int32.not_le.mpr c_53) c_59).symm), rfl⟩
            | exact ⟨congrArg (fun v => some (Value.int v)) ((payV_2 (if_pos c_4).symm (if_pos c_27).symm (Int32.not_le.mpr c_53) c_59 (Int32.not_lt.mp c_64)).symm), rfl⟩
            | exact ⟨congrArg (fun v => some (Value.int v)) ((payV_2 (if_pos c_4).symm (if_neg c_27).symm (Int32.not_le.mpr c_53) c_59 (Int32.not_lt.mp c_64)).symm), rfl⟩
            | exact ⟨congrArg (fun v => some (Value.int v)) ((payV_2 (if_neg c_4).symm (if_pos c_27).symm (Int32.not_le.mpr c_53) c_59 (Int32.not_lt.mp c_64)).symm), rfl⟩
            | exact ⟨congrArg (fun v => some (Value.int v)) ((payV_2 (if_neg c_4).symm (if_neg c_27).symm (Int32.not_le.mpr c_53) c_59 (Int32.not_lt.mp c_64)).symm), rfl⟩
            | exact ⟨congrArg (fun v => some (Value.int v)) ((payV_3 (if_pos c_4).symm (if_pos c_27).symm (Int32.not_le.mpr c_53) c_59 (Int32.not_le.mpr c_64)).symm), rfl⟩
            | exact ⟨congrArg (fun v => some (Value.int v)) ((payV_3 (if_pos c_4).symm (if_neg c_27).symm (Int32.not_le.mpr c_53) c_59 (Int32.not_le.mpr c_64)).symm), rfl⟩
            | exact ⟨congrArg (fun v => some (Value.int v)) ((payV_3 (if_neg c_4).symm (if_pos c_27).symm (Int32.not_le.mpr c_53) c_59 (Int32.not_le.mpr c_64)).symm), rfl⟩
            | exact ⟨congrArg (fun v => some (Value.int v)) ((payV_3 (if_neg c_4).symm (if_neg c_27).symm (Int32.not_le.mpr c_53) c_59 (Int32.not_le.mpr c_64)).symm), rfl⟩
      · refine g_iconst C 0 dX3_pays_56 (by rfl) ?_
        refine g_iret C rfl rfl (by decide) (by decide) dX3_pays_57 ?_
        first
        | exact absurd c_4 c_27
        | exact absurd c_27 c_4
        | exact ⟨congrArg (fun v => some (Value.int v)) ((payV_0 (if_pos c_4).symm (if_pos c_27).symm (Int32.not_lt.mp c_53)).symm), rfl⟩
        | exact ⟨congrArg (fun v => some (Value.int v)) ((payV_0 (if_pos c_4).symm (if_neg c_27).symm (Int32.not_lt.mp c_53)).symm), rfl⟩
        | exact ⟨congrArg (fun v => some (Value.int v)) ((payV_0 (if_neg c_4).symm (if_pos c_27).symm (Int32.not_lt.mp c_53)).symm), rfl⟩
        | exact ⟨congrArg (fun v => some (Value.int v)) ((payV_0 (if_neg c_4).symm (if_neg c_27).symm (Int32.not_lt.mp c_53)).symm), rfl⟩
    · refine g_aload_n C dX3_pays_30 rfl ?_
      refine g_getI C cls_4 5 3 hp rfl k_476 dX3_pays_31 ?_
      refine g_aload_n C dX3_pays_34 rfl ?_
      refine g_getI C cls_4 5 2 hp rfl k_475 dX3_pays_35 ?_
      refine g_isub C dX3_pays_38 ?_
      refine g_goto C 51 dX3_pays_39 (by decide) ?_
      refine g_istore_n C dX3_pays_51 (by decide) ?_
      refine g_iload_n C dX3_pays_52 rfl ?_
      refine g_if_gt C 58 dX3_pays_53 (by decide) (fun c_53 => ?_) (fun c_53 => ?_)
      · refine g_iload_n C dX3_pays_58 rfl ?_
        refine g_if_le C 67 dX3_pays_59 (by decide) (fun c_59 => ?_) (fun c_59 => ?_)
        · refine g_sipush C 1000 dX3_pays_67 (by rfl) ?_
          refine g_goto C 80 dX3_pays_70 (by decide) ?_
          refine g_iret C rfl rfl (by decide) (by decide) dX3_pays_80 ?_
          first
          | exact absurd c_4 c_27
          | exact absurd c_27 c_4
          | exact ⟨congrArg (fun v => some (Value.int v)) ((payV_1 (if_pos c_4).symm (if_pos c_27).symm (Int32.not_le.mpr c_53) c_59).symm), rfl⟩
          | exact ⟨congrArg (fun v => some (Value.int v)) ((payV_1 (if_pos c_4).symm (if_neg c_27).symm (Int32.not_le.mpr c_53) c_59).symm), rfl⟩
          | exact ⟨congrArg (fun v => some (Value.int v)) ((payV_1 (if_neg c_4).symm (if_pos c_27).symm (Int32.not_le.mpr c_53) c_59).symm), rfl⟩
          | exact ⟨congrArg (fun v => some (Value.int v)) ((payV_1 (if_neg c_4).symm (if_neg c_27).symm (Int32.not_le.mpr c_53) c_59).symm), rfl⟩
          | exact ⟨congrArg (fun v => some (Value.int v)) ((payV_2 (if_pos c_4).symm (if_pos c_27).symm (Int32.not_le.mpr c_53) c_59 (Int32.not_lt.mp c_64)).symm), rfl⟩
          | exact ⟨congrArg (fun v => some (Value.int v)) ((payV_2 (if_pos c_4).symm (if_neg c_27).symm (Int32.not_le.mpr c_53) c_59 (Int32.not_lt.mp c_64)).symm), rfl⟩
          | exact ⟨congrArg (fun v => some (Value.int v)) ((payV_2 (if_neg c_4).symm (if_pos c_27).symm (Int32.not_le.mpr c_53) c_59 (Int32.not_lt.mp c_64)).symm), rfl⟩
          | exact ⟨congrArg (fun v => some (Value.int v)) ((payV_2 (if_neg c_4).symm (if_neg c_27).symm (Int32.not_le.mpr c_53) c_59 (Int32.not_lt.mp c_64)).symm), rfl⟩
          | exact ⟨congrArg (fun v => some (Value.int v)) ((payV_3 (if_pos c_4).symm (if_pos c_27).symm (Int32.not_le.mpr c_53) c_59 (Int32.not_le.mpr c_64)).symm), rfl⟩
          | exact ⟨congrArg (fun v => some (Value.int v)) ((payV_3 (if_pos c_4).symm (if_neg c_27).symm (Int32.not_le.mpr c_53) c_59 (Int32.not_le.mpr c_64)).symm), rfl⟩
          | exact ⟨congrArg (fun v => some (Value.int v)) ((payV_3 (if_neg c_4).symm (if_pos c_27).symm (Int32.not_le.mpr c_53) c_59 (Int32.not_le.mpr c_64)).symm), rfl⟩
          | exact ⟨congrArg (fun v => some (Value.int v)) ((payV_3 (if_neg c_4).symm (if_neg c_27).symm (Int32.not_le.mpr c_53) c_59 (Int32.not_le.mpr c_64)).symm), rfl⟩
        · refine g_iload_n C dX3_pays_62 rfl ?_
          refine g_iload_n C dX3_pays_63 rfl ?_
          refine g_icmp_lt C 73 dX3_pays_64 (by decide) (fun c_64 => ?_) (fun c_64 => ?_)
          · refine g_sipush C 1000 dX3_pays_73 (by rfl) ?_
            refine g_iload_n C dX3_pays_76 rfl ?_
            refine g_imul C dX3_pays_77 ?_
            refine g_iload_n C dX3_pays_78 rfl ?_
            refine g_idiv C dX3_pays_79 (fun z => c_59 (by rw [z]; exact Int32.le_refl 0)) ?_
            refine g_iret C rfl rfl (by decide) (by decide) dX3_pays_80 ?_
            first
            | exact absurd c_4 c_27
            | exact absurd c_27 c_4
            | exact ⟨congrArg (fun v => some (Value.int v)) ((payV_1 (if_pos c_4).symm (if_pos c_27).symm (Int32.not_le.mpr c_53) c_59).symm), rfl⟩
            | exact ⟨congrArg (fun v => some (Value.int v)) ((payV_1 (if_pos c_4).symm (if_neg c_27).symm (Int32.not_le.mpr c_53) c_59).symm), rfl⟩
            | exact ⟨congrArg (fun v => some (Value.int v)) ((payV_1 (if_neg c_4).symm (if_pos c_27).symm (Int32.not_le.mpr c_53) c_59).symm), rfl⟩
            | exact ⟨congrArg (fun v => some (Value.int v)) ((payV_1 (if_neg c_4).symm (if_neg c_27).symm (Int32.not_le.mpr c_53) c_59).symm), rfl⟩
            | exact ⟨congrArg (fun v => some (Value.int v)) ((payV_2 (if_pos c_4).symm (if_pos c_27).symm (Int32.not_le.mpr c_53) c_59 (Int32.not_lt.mp c_64)).symm), rfl⟩
            | exact ⟨congrArg (fun v => some (Value.int v)) ((payV_2 (if_pos c_4).symm (if_neg c_27).symm (Int32.not_le.mpr c_53) c_59 (Int32.not_lt.mp c_64)).symm), rfl⟩
            | exact ⟨congrArg (fun v => some (Value.int v)) ((payV_2 (if_neg c_4).symm (if_pos c_27).symm (Int32.not_le.mpr c_53) c_59 (Int32.not_lt.mp c_64)).symm), rfl⟩
            | exact ⟨congrArg (fun v => some (Value.int v)) ((payV_2 (if_neg c_4).symm (if_neg c_27).symm (Int32.not_le.mpr c_53) c_59 (Int32.not_lt.mp c_64)).symm), rfl⟩
            | exact ⟨congrArg (fun v => some (Value.int v)) ((payV_3 (if_pos c_4).symm (if_pos c_27).symm (Int32.not_le.mpr c_53) c_59 (Int32.not_le.mpr c_64)).symm), rfl⟩
            | exact ⟨congrArg (fun v => some (Value.int v)) ((payV_3 (if_pos c_4).symm (if_neg c_27).symm (Int32.not_le.mpr c_53) c_59 (Int32.not_le.mpr c_64)).symm), rfl⟩
            | exact ⟨congrArg (fun v => some (Value.int v)) ((payV_3 (if_neg c_4).symm (if_pos c_27).symm (Int32.not_le.mpr c_53) c_59 (Int32.not_le.mpr c_64)).symm), rfl⟩
            | exact ⟨congrArg (fun v => some (Value.int v)) ((payV_3 (if_neg c_4).symm (if_neg c_27).symm (Int32.not_le.mpr c_53) c_59 (Int32.not_le.mpr c_64)).symm), rfl⟩
          · refine g_sipush C 1000 dX3_pays_67 (by rfl) ?_
            refine g_goto C 80 dX3_pays_70 (by decide) ?_
            refine g_iret C rfl rfl (by decide) (by decide) dX3_pays_80 ?_
            first
            | exact absurd c_4 c_27
            | exact absurd c_27 c_4
            | exact ⟨congrArg (fun v => some (Value.int v)) ((payV_1 (if_pos c_4).symm (if_pos c_27).symm (Int32.not_le.mpr c_53) c_59).symm), rfl⟩
            | exact ⟨congrArg (fun v => some (Value.int v)) ((payV_1 (if_pos c_4).symm (if_neg c_27).symm (Int32.not_le.mpr c_53) c_59).symm), rfl⟩
            | exact ⟨congrArg (fun v => some (Value.int v)) ((payV_1 (if_neg c_4).symm (if_pos c_27).symm (Int32.not_le.mpr c_53) c_59).symm), rfl⟩
            | exact ⟨congrArg (fun v => some (Value.int v)) ((payV_1 (if_neg c_4).symm (if_neg c_27).symm (Int32.not_le.mpr c_53) c_59).symm), rfl⟩
            | exact ⟨congrArg (fun v => some (Value.int v)) ((payV_2 (if_pos c_4).symm (if_pos c_27).symm (Int32.not_le.mpr c_53) c_59 (Int32.not_lt.mp c_64)).symm), rfl⟩
            | exact ⟨congrArg (fun v => some (Value.int v)) ((payV_2 (if_pos c_4).symm (if_neg c_27).symm (Int32.not_le.mpr c_53) c_59 (Int32.not_lt.mp c_64)).symm), rfl⟩
            | exact ⟨congrArg (fun v => some (Value.int v)) ((payV_2 (if_neg c_4).symm (if_pos c_27).symm (Int32.not_le.mpr c_53) c_59 (Int32.not_lt.mp c_64)).symm), rfl⟩
            | exact ⟨congrArg (fun v => some (Value.int v)) ((payV_2 (if_neg c_4).symm (if_neg c_27).symm (Int32.not_le.mpr c_53) c_59 (Int32.not_lt.mp c_64)).symm), rfl⟩
            | exact ⟨congrArg (fun v => some (Value.int v)) ((payV_3 (if_pos c_4).symm (if_pos c_27).symm (Int32.not_le.mpr c_53) c_59 (Int32.not_le.mpr c_64)).symm), rfl⟩
            | exact ⟨congrArg (fun v => some (Value.int v)) ((payV_3 (if_pos c_4).symm (if_neg c_27).symm (Int32.not_le.mpr c_53) c_59 (Int32.not_le.mpr c_64)).symm), rfl⟩
            | exact ⟨congrArg (fun v => some (Value.int v)) ((payV_3 (if_neg c_4).symm (if_pos c_27).symm (Int32.not_le.mpr c_53) c_59 (Int32.not_le.mpr c_64)).symm), rfl⟩
            | exact ⟨congrArg (fun v => some (Value.int v)) ((payV_3 (if_neg c_4).symm (if_neg c_27).symm (Int32.not_le.mpr c_53) c_59 (Int32.not_le.mpr c_64)).symm), rfl⟩
      · refine g_iconst C 0 dX3_pays_56 (by rfl) ?_
        refine g_iret C rfl rfl (by decide) (by decide) dX3_pays_57 ?_
        first
        | exact absurd c_4 c_27
        | exact absurd c_27 c_4
        | exact ⟨congrArg (fun v => some (Value.int v)) ((payV_0 (if_pos c_4).symm (if_pos c_27).symm (Int32.not_lt.mp c_53)).symm), rfl⟩
        | exact ⟨congrArg (fun v => some (Value.int v)) ((payV_0 (if_pos c_4).symm (if_neg c_27).symm (Int32.not_lt.mp c_53)).symm), rfl⟩
        | exact ⟨congrArg (fun v => some (Value.int v)) ((payV_0 (if_neg c_4).symm (if_pos c_27).symm (Int32.not_lt.mp c_53)).symm), rfl⟩
        | exact ⟨congrArg (fun v => some (Value.int v)) ((payV_0 (if_neg c_4).symm (if_neg c_27).symm (Int32.not_lt.mp c_53)).symm), rfl⟩
  · refine g_iload_n C dX3_pays_7 rfl ?_
    refine g_aload_n C dX3_pays_8 rfl ?_
    refine g_getI C cls_4 5 2 hp rfl k_475 dX3_pays_9 ?_
    refine g_isub C dX3_pays_12 ?_
    refine g_goto C 22 dX3_pays_13 (by decide) ?_
    refine g_istore_n C dX3_pays_22 (by decide) ?_
    refine g_aload_n C dX3_pays_23 rfl ?_
    refine g_getI C cls_4 5 1 hp rfl k_474 dX3_pays_24 ?_
    refine g_if_eq C 42 dX3_pays_27 (by decide) (fun c_27 => ?_) (fun c_27 => ?_)
    · refine g_aload_n C dX3_pays_42 rfl ?_
      refine g_getI C cls_4 5 2 hp rfl k_475 dX3_pays_43 ?_
      refine g_aload_n C dX3_pays_46 rfl ?_
      refine g_getI C cls_4 5 3 hp rfl k_476 dX3_pays_47 ?_
      refine g_isub C dX3_pays_50 ?_
      refine g_istore_n C dX3_pays_51 (by decide) ?_
      refine g_iload_n C dX3_pays_52 rfl ?_
      refine g_if_gt C 58 dX3_pays_53 (by decide) (fun c_53 => ?_) (fun c_53 => ?_)
      · refine g_iload_n C dX3_pays_58 rfl ?_
        refine g_if_le C 67 dX3_pays_59 (by decide) (fun c_59 => ?_) (fun c_59 => ?_)
        · refine g_sipush C 1000 dX3_pays_67 (by rfl) ?_
          refine g_goto C 80 dX3_pays_70 (by decide) ?_
          refine g_iret C rfl rfl (by decide) (by decide) dX3_pays_80 ?_
          first
          | exact absurd c_4 c_27
          | exact absurd c_27 c_4
          | exact ⟨congrArg (fun v => some (Value.int v)) ((payV_1 (if_pos c_4).symm (if_pos c_27).symm (Int32.not_le.mpr c_53) c_59).symm), rfl⟩
          | exact ⟨congrArg (fun v => some (Value.int v)) ((payV_1 (if_pos c_4).symm (if_neg c_27).symm (Int32.not_le.mpr c_53) c_59).symm), rfl⟩
          | exact ⟨congrArg (fun v => some (Value.int v)) ((payV_1 (if_neg c_4).symm (if_pos c_27).symm (Int32.not_le.mpr c_53) c_59).symm), rfl⟩
          | exact ⟨congrArg (fun v => some (Value.int v)) ((payV_1 (if_neg c_4).symm (if_neg c_27).symm (Int32.not_le.mpr c_53) c_59).symm), rfl⟩
          | exact ⟨congrArg (fun v => some (Value.int v)) ((payV_2 (if_pos c_4).symm (if_pos c_27).symm (Int32.not_le.mpr c_53) c_59 (Int32.not_lt.mp c_64)).symm), rfl⟩
          | exact ⟨congrArg (fun v => some (Value.int v)) ((payV_2 (if_pos c_4).symm (if_neg c_27).symm (Int32.not_le.mpr c_53) c_59 (Int32.not_lt.mp c_64)).symm), rfl⟩
          | exact ⟨congrArg (fun v => some (Value.int v)) ((payV_2 (if_neg c_4).symm (if_pos c_27).symm (Int32.not_le.mpr c_53) c_59 (Int32.not_lt.mp c_64)).symm), rfl⟩
          | exact ⟨congrArg (fun v => some (Value.int v)) ((payV_2 (if_neg c_4).symm (if_neg c_27).symm (Int32.not_le.mpr c_53) c_59 (Int32.not_lt.mp c_64)).symm), rfl⟩
          | exact ⟨congrArg (fun v => some (Value.int v)) ((payV_3 (if_pos c_4).symm (if_pos c_27).symm (Int32.not_le.mpr c_53) c_59 (Int32.not_le.mpr c_64)).symm), rfl⟩
          | exact ⟨congrArg (fun v => some (Value.int v)) ((payV_3 (if_pos c_4).symm (if_neg c_27).symm (Int32.not_le.mpr c_53) c_59 (Int32.not_le.mpr c_64)).symm), rfl⟩
          | exact ⟨congrArg (fun v => some (Value.int v)) ((payV_3 (if_neg c_4).symm (if_pos c_27).symm (Int32.not_le.mpr c_53) c_59 (Int32.not_le.mpr c_64)).symm), rfl⟩
          | exact ⟨congrArg (fun v => some (Value.int v)) ((payV_3 (if_neg c_4).symm (if_neg c_27).symm (Int32.not_le.mpr c_53) c_59 (Int32.not_le.mpr c_64)).symm), rfl⟩
        · refine g_iload_n C dX3_pays_62 rfl ?_
          refine g_iload_n C dX3_pays_63 rfl ?_
          refine g_icmp_lt C 73 dX3_pays_64 (by decide) (fun c_64 => ?_) (fun c_64 => ?_)
          · refine g_sipush C 1000 dX3_pays_73 (by rfl) ?_
            refine g_iload_n C dX3_pays_76 rfl ?_
            refine g_imul C dX3_pays_77 ?_
            refine g_iload_n C dX3_pays_78 rfl ?_
            refine g_idiv C dX3_pays_79 (fun z => c_59 (by rw [z]; exact Int32.le_refl 0)) ?_
            refine g_iret C rfl rfl (by decide) (by decide) dX3_pays_80 ?_
            first
            | exact absurd c_4 c_27
            | exact absurd c_27 c_4
            | exact ⟨congrArg (fun v => some (Value.int v)) ((payV_1 (if_pos c_4).symm (if_pos c_27).symm (Int32.not_le.mpr c_53) c_59).symm), rfl⟩
            | exact ⟨congrArg (fun v => some (Value.int v)) ((payV_1 (if_pos c_4).symm (if_neg c_27).symm (Int32.not_le.mpr c_53) c_59).symm), rfl⟩
            | exact ⟨congrArg (fun v => some (Value.int v)) ((payV_1 (if_neg c_4).symm (if_pos c_27).symm (Int32.not_le.mpr c_53) c_59).symm), rfl⟩
            | exact ⟨congrArg (fun v => some (Value.int v)) ((payV_1 (if_neg c_4).symm (if_neg c_27).symm (Int32.not_le.mpr c_53) c_59).symm), rfl⟩
            | exact ⟨congrArg (fun v => some (Value.int v)) ((payV_2 (if_pos c_4).symm (if_pos c_27).symm (Int32.not_le.mpr c_53) c_59 (Int32.not_lt.mp c_64)).symm), rfl⟩
            | exact ⟨congrArg (fun v => some (Value.int v)) ((payV_2 (if_pos c_4).symm (if_neg c_27).symm (Int32.not_le.mpr c_53) c_59 (Int32.not_lt.mp c_64)).symm), rfl⟩
            | exact ⟨congrArg (fun v => some (Value.int v)) ((payV_2 (if_neg c_4).symm (if_pos c_27).symm (Int32.not_le.mpr c_53) c_59 (Int32.not_lt.mp c_64)).symm), rfl⟩
            | exact ⟨congrArg (fun v => some (Value.int v)) ((payV_2 (if_neg c_4).symm (if_neg c_27).symm (Int32.not_le.mpr c_53) c_59 (Int32.not_lt.mp c_64)).symm), rfl⟩
            | exact ⟨congrArg (fun v => some (Value.int v)) ((payV_3 (if_pos c_4).symm (if_pos c_27).symm (Int32.not_le.mpr c_53) c_59 (Int32.not_le.mpr c_64)).symm), rfl⟩
            | exact ⟨congrArg (fun v => some (Value.int v)) ((payV_3 (if_pos c_4).symm (if_neg c_27).symm (Int32.not_le.mpr c_53) c_59 (Int32.not_le.mpr c_64)).symm), rfl⟩
            | exact ⟨congrArg (fun v => some (Value.int v)) ((payV_3 (if_neg c_4).symm (if_pos c_27).symm (Int32.not_le.mpr c_53) c_59 (Int32.not_le.mpr c_64)).symm), rfl⟩
            | exact ⟨congrArg (fun v => some (Value.int v)) ((payV_3 (if_neg c_4).symm (if_neg c_27).symm (Int32.not_le.mpr c_53) c_59 (Int32.not_le.mpr c_64)).symm), rfl⟩
          · refine g_sipush C 1000 dX3_pays_67 (by rfl) ?_
            refine g_goto C 80 dX3_pays_70 (by decide) ?_
            refine g_iret C rfl rfl (by decide) (by decide) dX3_pays_80 ?_
            first
            | exact absurd c_4 c_27
            | exact absurd c_27 c_4
            | exact ⟨congrArg (fun v => some (Value.int v)) ((payV_1 (if_pos c_4).symm (if_pos c_27).symm (Int32.not_le.mpr c_53) c_59).symm), rfl⟩
            | exact ⟨congrArg (fun v => some (Value.int v)) ((payV_1 (if_pos c_4).symm (if_neg c_27).symm (Int32.not_le.mpr c_53) c_59).symm), rfl⟩
            | exact ⟨congrArg (fun v => some (Value.int v)) ((payV_1 (if_neg c_4).symm (if_pos c_27).symm (Int32.not_le.mpr c_53) c_59).symm), rfl⟩
            | exact ⟨congrArg (fun v => some (Value.int v)) ((payV_1 (if_neg c_4).symm (if_neg c_27).symm (Int32.not_le.mpr c_53) c_59).symm), rfl⟩
            | exact ⟨congrArg (fun v => some (Value.int v)) ((payV_2 (if_pos c_4).symm (if_pos c_27).symm (Int32.not_le.mpr c_53) c_59 (Int32.not_lt.mp c_64)).symm), rfl⟩
            | exact ⟨congrArg (fun v => some (Value.int v)) ((payV_2 (if_pos c_4).symm (if_neg c_27).symm (Int32.not_le.mpr c_53) c_59 (Int32.not_lt.mp c_64)).symm), rfl⟩
            | exact ⟨congrArg (fun v => some (Value.int v)) ((payV_2 (if_neg c_4).symm (if_pos c_27).symm (Int32.not_le.mpr c_53) c_59 (Int32.not_lt.mp c_64)).symm), rfl⟩
            | exact ⟨congrArg (fun v => some (Value.int v)) ((payV_2 (if_neg c_4).symm (if_neg c_27).symm (Int32.not_le.mpr c_53) c_59 (Int32.not_lt.mp c_64)).symm), rfl⟩
            | exact ⟨congrArg (fun v => some (Value.int v)) ((payV_3 (if_pos c_4).symm (if_pos c_27).symm (Int32.not_le.mpr c_53) c_59 (Int32.not_le.mpr c_64)).symm), rfl⟩
            | exact ⟨congrArg (fun v => some (Value.int v)) ((payV_3 (if_pos c_4).symm (if_neg c_27).symm (Int32.not_le.mpr c_53) c_59 (Int32.not_le.mpr c_64)).symm), rfl⟩
            | exact ⟨congrArg (fun v => some (Value.int v)) ((payV_3 (if_neg c_4).symm (if_pos c_27).symm (Int32.not_le.mpr c_53) c_59 (Int32.not_le.mpr c_64)).symm), rfl⟩
            | exact ⟨congrArg (fun v => some (Value.int v)) ((payV_3 (if_neg c_4).symm (if_neg c_27).symm (Int32.not_le.mpr c_53) c_59 (Int32.not_le.mpr c_64)).symm), rfl⟩
      · refine g_iconst C 0 dX3_pays_56 (by rfl) ?_
        refine g_iret C rfl rfl (by decide) (by decide) dX3_pays_57 ?_
        first
        | exact absurd c_4 c_27
        | exact absurd c_27 c_4
        | exact ⟨congrArg (fun v => some (Value.int v)) ((payV_0 (if_pos c_4).symm (if_pos c_27).symm (Int32.not_lt.mp c_53)).symm), rfl⟩
        | exact ⟨congrArg (fun v => some (Value.int v)) ((payV_0 (if_pos c_4).symm (if_neg c_27).symm (Int32.not_lt.mp c_53)).symm), rfl⟩
        | exact ⟨congrArg (fun v => some (Value.int v)) ((payV_0 (if_neg c_4).symm (if_pos c_27).symm (Int32.not_lt.mp c_53)).symm), rfl⟩
        | exact ⟨congrArg (fun v => some (Value.int v)) ((payV_0 (if_neg c_4).symm (if_neg c_27).symm (Int32.not_lt.mp c_53)).symm), rfl⟩
    · refine g_aload_n C dX3_pays_30 rfl ?_
      refine g_getI C cls_4 5 3 hp rfl k_476 dX3_pays_31 ?_
      refine g_aload_n C dX3_pays_34 rfl ?_
      refine g_getI C cls_4 5 2 hp rfl k_475 dX3_pays_35 ?_
      refine g_isub C dX3_pays_38 ?_
      refine g_goto C 51 dX3_pays_39 (by decide) ?_
      refine g_istore_n C dX3_pays_51 (by decide) ?_
      refine g_iload_n C dX3_pays_52 rfl ?_
      refine g_if_gt C 58 dX3_pays_53 (by decide) (fun c_53 => ?_) (fun c_53 => ?_)
      · refine g_iload_n C dX3_pays_58 rfl ?_
        refine g_if_le C 67 dX3_pays_59 (by decide) (fun c_59 => ?_) (fun c_59 => ?_)
        · refine g_sipush C 1000 dX3_pays_67 (by rfl) ?_
          refine g_goto C 80 dX3_pays_70 (by decide) ?_
          refine g_iret C rfl rfl (by decide) (by decide) dX3_pays_80 ?_
          first
          | exact absurd c_4 c_27
          | exact absurd c_27 c_4
          | exact ⟨congrArg (fun v => some (Value.int v)) ((payV_1 (if_pos c_4).symm (if_pos c_27).symm (Int32.not_le.mpr c_53) c_59).symm), rfl⟩
          | exact ⟨congrArg (fun v => some (Value.int v)) ((payV_1 (if_pos c_4).symm (if_neg c_27).symm (Int32.not_le.mpr c_53) c_59).symm), rfl⟩
          | exact ⟨congrArg (fun v => some (Value.int v)) ((payV_1 (if_neg c_4).symm (if_pos c_27).symm (Int32.not_le.mpr c_53) c_59).symm), rfl⟩
          | exact ⟨congrArg (fun v => some (Value.int v)) ((payV_1 (if_neg c_4).symm (if_neg c_27).symm (Int32.not_le.mpr c_53) c_59).symm), rfl⟩
          | exact ⟨congrArg (fun v => some (Value.int v)) ((payV_2 (if_pos c_4).symm (if_pos c_27).symm (Int32.not_le.mpr c_53) c_59 (Int32.not_lt.mp c_64)).symm), rfl⟩
          | exact ⟨congrArg (fun v => some (Value.int v)) ((payV_2 (if_pos c_4).symm (if_neg c_27).symm (Int32.not_le.mpr c_53) c_59 (Int32.not_lt.mp c_64)).symm), rfl⟩
          | exact ⟨congrArg (fun v => some (Value.int v)) ((payV_2 (if_neg c_4).symm (if_pos c_27).symm (Int32.not_le.mpr c_53) c_59 (Int32.not_lt.mp c_64)).symm), rfl⟩
          | exact ⟨congrArg (fun v => some (Value.int v)) ((payV_2 (if_neg c_4).symm (if_neg c_27).symm (Int32.not_le.mpr c_53) c_59 (Int32.not_lt.mp c_64)).symm), rfl⟩
          | exact ⟨congrArg (fun v => some (Value.int v)) ((payV_3 (if_pos c_4).symm (if_pos c_27).symm (Int32.not_le.mpr c_53) c_59 (Int32.not_le.mpr c_64)).symm), rfl⟩
          | exact ⟨congrArg (fun v => some (Value.int v)) ((payV_3 (if_pos c_4).symm (if_neg c_27).symm (Int32.not_le.mpr c_53) c_59 (Int32.not_le.mpr c_64)).symm), rfl⟩
          | exact ⟨congrArg (fun v => some (Value.int v)) ((payV_3 (if_neg c_4).symm (if_pos c_27).symm (Int32.not_le.mpr c_53) c_59 (Int32.not_le.mpr c_64)).symm), rfl⟩
          | exact ⟨congrArg (fun v => some (Value.int v)) ((payV_3 (if_neg c_4).symm (if_neg c_27).symm (Int32.not_le.mpr c_53) c_59 (Int32.not_le.mpr c_64)).symm), rfl⟩
        · refine g_iload_n C dX3_pays_62 rfl ?_
          refine g_iload_n C dX3_pays_63 rfl ?_
          refine g_icmp_lt C 73 dX3_pays_64 (by decide) (fun c_64 => ?_) (fun c_64 => ?_)
          · refine g_sipush C 1000 dX3_pays_73 (by rfl) ?_
            refine g_iload_n C dX3_pays_76 rfl ?_
            refine g_imul C dX3_pays_77 ?_
            refine g_iload_n C dX3_pays_78 rfl ?_
            refine g_idiv C dX3_pays_79 (fun z => c_59 (by rw [z]; exact Int32.le_refl 0)) ?_
            refine g_iret C rfl rfl (by decide) (by decide) dX3_pays_80 ?_
            first
            | exact absurd c_4 c_27
            | exact absurd c_27 c_4
            | exact ⟨congrArg (fun v => some (Value.int v)) ((payV_1 (if_pos c_4).symm (if_pos c_27).symm (Int32.not_le.mpr c_53) c_59).symm), rfl⟩
            | exact ⟨congrArg (fun v => some (Value.int v)) ((payV_1 (if_pos c_4).symm (if_neg c_27).symm (Int32.not_le.mpr c_53) c_59).symm), rfl⟩
            | exact ⟨congrArg (fun v => some (Value.int v)) ((payV_1 (if_neg c_4).symm (if_pos c_27).symm (Int32.not_le.mpr c_53) c_59).symm), rfl⟩
            | exact ⟨congrArg (fun v => some (Value.int v)) ((payV_1 (if_neg c_4).symm (if_neg c_27).symm (Int32.not_le.mpr c_53) c_59).symm), rfl⟩
            | exact ⟨congrArg (fun v => some (Value.int v)) ((payV_2 (if_pos c_4).symm (if_pos c_27).symm (Int32.not_le.mpr c_53) c_59 (Int32.not_lt.mp c_64)).symm), rfl⟩
            | exact ⟨congrArg (fun v => some (Value.int v)) ((payV_2 (if_pos c_4).symm (if_neg c_27).symm (Int32.not_le.mpr c_53) c_59 (Int32.not_lt.mp c_64)).symm), rfl⟩
            | exact ⟨congrArg (fun v => some (Value.int v)) ((payV_2 (if_neg c_4).symm (if_pos c_27).symm (Int32.not_le.mpr c_53) c_59 (Int32.not_lt.mp c_64)).symm), rfl⟩
            | exact ⟨congrArg (fun v => some (Value.int v)) ((payV_2 (if_neg c_4).symm (if_neg c_27).symm (Int32.not_le.mpr c_53) c_59 (Int32.not_lt.mp c_64)).symm), rfl⟩
            | exact ⟨congrArg (fun v => some (Value.int v)) ((payV_3 (if_pos c_4).symm (if_pos c_27).symm (Int32.not_le.mpr c_53) c_59 (Int32.not_le.mpr c_64)).symm), rfl⟩
            | exact ⟨congrArg (fun v => some (Value.int v)) ((payV_3 (if_pos c_4).symm (if_neg c_27).symm (Int32.not_le.mpr c_53) c_59 (Int32.not_le.mpr c_64)).symm), rfl⟩
            | exact ⟨congrArg (fun v => some (Value.int v)) ((payV_3 (if_neg c_4).symm (if_pos c_27).symm (Int32.not_le.mpr c_53) c_59 (Int32.not_le.mpr c_64)).symm), rfl⟩
            | exact ⟨congrArg (fun v => some (Value.int v)) ((payV_3 (if_neg c_4).symm (if_neg c_27).symm (Int32.not_le.mpr c_53) c_59 (Int32.not_le.mpr c_64)).symm), rfl⟩
          · refine g_sipush C 1000 dX3_pays_67 (by rfl) ?_
            refine g_goto C 80 dX3_pays_70 (by decide) ?_
            refine g_iret C rfl rfl (by decide) (by decide) dX3_pays_80 ?_
            first
            | exact absurd c_4 c_27
            | exact absurd c_27 c_4
            | exact ⟨congrArg (fun v => some (Value.int v)) ((payV_1 (if_pos c_4).symm (if_pos c_27).symm (Int32.not_le.mpr c_53) c_59).symm), rfl⟩
            | exact ⟨congrArg (fun v => some (Value.int v)) ((payV_1 (if_pos c_4).symm (if_neg c_27).symm (Int32.not_le.mpr c_53) c_59).symm), rfl⟩
            | exact ⟨congrArg (fun v => some (Value.int v)) ((payV_1 (if_neg c_4).symm (if_pos c_27).symm (Int32.not_le.mpr c_53) c_59).symm), rfl⟩
            | exact ⟨congrArg (fun v => some (Value.int v)) ((payV_1 (if_neg c_4).symm (if_neg c_27).symm (Int32.not_le.mpr c_53) c_59).symm), rfl⟩
            | exact ⟨congrArg (fun v => some (Value.int v)) ((payV_2 (if_pos c_4).symm (if_pos c_27).symm (Int32.not_le.mpr c_53) c_59 (Int32.not_lt.mp c_64)).symm), rfl⟩
            | exact ⟨congrArg (fun v => some (Value.int v)) ((payV_2 (if_pos c_4).symm (if_neg c_27).symm (Int32.not_le.mpr c_53) c_59 (Int32.not_lt.mp c_64)).symm), rfl⟩
            | exact ⟨congrArg (fun v => some (Value.int v)) ((payV_2 (if_neg c_4).symm (if_pos c_27).symm (Int32.not_le.mpr c_53) c_59 (Int32.not_lt.mp c_64)).symm), rfl⟩
            | exact ⟨congrArg (fun v => some (Value.int v)) ((payV_2 (if_neg c_4).symm (if_neg c_27).symm (Int32.not_le.mpr c_53) c_59 (Int32.not_lt.mp c_64)).symm), rfl⟩
            | exact ⟨congrArg (fun v => some (Value.int v)) ((payV_3 (if_pos c_4).symm (if_pos c_27).symm (Int32.not_le.mpr c_53) c_59 (Int32.not_le.mpr c_64)).symm), rfl⟩
            | exact ⟨congrArg (fun v => some (Value.int v)) ((payV_3 (if_pos c_4).symm (if_neg c_27).symm (Int32.not_le.mpr c_53) c_59 (Int32.not_le.mpr c_64)).symm), rfl⟩
            | exact ⟨congrArg (fun v => some (Value.int v)) ((payV_3 (if_neg c_4).symm (if_pos c_27).symm (Int32.not_le.mpr c_53) c_59 (Int32.not_le.mpr c_64)).symm), rfl⟩
            | exact ⟨congrArg (fun v => some (Value.int v)) ((payV_3 (if_neg c_4).symm (if_neg c_27).symm (Int32.not_le.mpr c_53) c_59 (Int32.not_le.mpr c_64)).symm), rfl⟩
      · refine g_iconst C 0 dX3_pays_56 (by rfl) ?_
        refine g_iret C rfl rfl (by decide) (by decide) dX3_pays_57 ?_
        first
        | exact absurd c_4 c_27
        | exact absurd c_27 c_4
        | exact ⟨congrArg (fun v => some (Value.int v)) ((payV_0 (if_pos c_4).symm (if_pos c_27).symm (Int32.not_lt.mp c_53)).symm), rfl⟩
        | exact ⟨congrArg (fun v => some (Value.int v)) ((payV_0 (if_pos c_4).symm (if_neg c_27).symm (Int32.not_lt.mp c_53)).symm), rfl⟩
        | exact ⟨congrArg (fun v => some (Value.int v)) ((payV_0 (if_neg c_4).symm (if_pos c_27).symm (Int32.not_lt.mp c_53)).symm), rfl⟩
        | exact ⟨congrArg (fun v => some (Value.int v)) ((payV_0 (if_neg c_4).symm (if_neg c_27).symm (Int32.not_lt.mp c_53)).symm), rfl⟩
end RATES12
