section TELL31
theorem datV_1c {q : Nat × Int32} {l : List (Nat × Int32)} {n : Nat} (h : q.1 < n) : datV (q :: l) 1 n = q.2 := by
  rw [datV, if_neg (by omega), if_neg (by decide)]
theorem dX6_keep_0 : decode cX6_keep 0 = .ok (.iload_n 1, 1) := by decide +kernel
theorem dX6_keep_1 : decode cX6_keep 1 = .ok (.ifCond .lt 33, 3) := by decide +kernel
theorem dX6_keep_4 : decode cX6_keep 4 = .ok (.iload_n 1, 1) := by decide +kernel
theorem dX6_keep_5 : decode cX6_keep 5 = .ok (.aload_n 0, 1) := by decide +kernel
theorem dX6_keep_6 : decode cX6_keep 6 = .ok (.getfield 11, 3) := by decide +kernel
theorem dX6_keep_9 : decode cX6_keep 9 = .ok (.arraylength, 1) := by decide +kernel
theorem dX6_keep_10 : decode cX6_keep 10 = .ok (.if_icmp .ge 24, 3) := by decide +kernel
theorem dX6_keep_13 : decode cX6_keep 13 = .ok (.aload_n 0, 1) := by decide +kernel
theorem dX6_keep_14 : decode cX6_keep 14 = .ok (.getfield 11, 3) := by decide +kernel
theorem dX6_keep_17 : decode cX6_keep 17 = .ok (.iload_n 1, 1) := by decide +kernel
theorem dX6_keep_18 : decode cX6_keep 18 = .ok (.new 9, 3) := by decide +kernel
theorem dX6_keep_21 : decode cX6_keep 21 = .ok (.dup, 1) := by decide +kernel
theorem dX6_keep_22 : decode cX6_keep 22 = .ok (.iload_n 3, 1) := by decide +kernel
theorem dX6_keep_23 : decode cX6_keep 23 = .ok (.iload_n 2, 1) := by decide +kernel
theorem dX6_keep_24 : decode cX6_keep 24 = .ok (.aload_n 0, 1) := by decide +kernel
theorem dX6_keep_25 : decode cX6_keep 25 = .ok (.getfield 11, 3) := by decide +kernel
theorem dX6_keep_28 : decode cX6_keep 28 = .ok (.iload_n 1, 1) := by decide +kernel
theorem dX6_keep_29 : decode cX6_keep 29 = .ok (.aaload, 1) := by decide +kernel
theorem dX6_keep_30 : decode cX6_keep 30 = .ok (.invokespecial 31, 3) := by decide +kernel
theorem dX6_keep_33 : decode cX6_keep 33 = .ok (.aastore, 1) := by decide +kernel
theorem dX6_keep_34 : decode cX6_keep 34 = .ok (.return_, 1) := by decide +kernel
set_option maxHeartbeats 1000000 in
set_option maxRecDepth 100000 in
theorem c_X6_keep (de : Nat) (w : Wd) (a la d tl : Nat) (tt : Int32) (l0 : List (Nat × Int32)) (ha : kd w a = 8) (hl3 : fR w 8 3 a = some la) (hla : kd w la = 1002) (hla2 : aL w la = 1200) (hd : d < 1200) (htl : tl < 100000) (hc : Chn w l0 (aR w 1002 la d)) : Ct yX6_keep cX6_keep 4 none 2 60 1 4 de [.ref a, .int (nI d), .int tt, .int (nI tl)] w (fun r w' => r = none ∧ Chn w' ((tl, tt) :: l0) (aR w' 1002 la d) ∧ (∀ j, j ≠ d → aR w' 1002 la j = aR w 1002 la j) ∧ kd w' la = 1002 ∧ aL w' la = 1200 ∧ (∀ b, kd w b ≠ 0 → b ≠ la → SmA w w' b)) := by
  refine Ct.mk (by decide +kernel) [(0, .ref a), (1, .int (nI d)), (2, .int tt), (3, .int (nI tl))] rfl (Nat.le_of_ble_eq_true rfl) ?_
  intro p l e R s m args below meth c D cy z C hnm
  have hla9 : vp_in (nI d) (aL w la) := by rw [hla2]; exact nI_vp hd (by omega)
  have hla2c := hla2
  rcases hr0 : aR w 1002 la d with _ | b9
  · have hcase := hr0
    refine g_iload_n C dX6_keep_0 rfl ?_
    refine g_if_lt C 34 dX6_keep_1 (by decide) (fun c_1 => ?_) (fun c_1 => ?_)
    · exact absurd c_1 (nI_pos (by omega))
    · refine g_iload_n C dX6_keep_4 rfl ?_
      refine g_aload_n C dX6_keep_5 rfl ?_
      refine g_getR (b := la) C cls_7 8 3 (by first | exact ha | exact ha1) (by first | exact hl3 | exact hl3n) rfl k_294 dX6_keep_6 ?_
      refine g_alen C 1002 2 (by first | exact hla | exact hla1 | exact hla2) rfl (by decide) dX6_keep_9 ?_
      rw [hla2, show Int32.ofNat 1200 = nI 1200 from rfl]
      refine g_icmp_ge C 34 dX6_keep_10 (by decide) (fun c_10 => ?_) (fun c_10 => ?_)
      · exact absurd c_10 (nI_ge hd (by decide))
      · refine g_aload_n C dX6_keep_13 rfl ?_
        refine g_getR (b := la) C cls_7 8 3 (by first | exact ha | exact ha1) (by first | exact hl3 | exact hl3n) rfl k_294 dX6_keep_14 ?_
        refine g_iload_n C dX6_keep_17 rfl ?_
        refine g_new C cls_8 dv_8 9 rfl k_286 k_426 k_23 (by decide) (by decide) dX6_keep_18 (fun q hq => ?_)
        intro hde
        have hlq := nw_ne hla (by decide) hq
        have haq := nw_ne ha (by decide) hq
        have ha1 : kd (nw w q 9 0) a = 8 := kd_nw ha (by decide) hq
        have hla1 : kd (nw w q 9 0) la = 1002 := kd_nw hla (by decide) hq
        have hl3n : fR (nw w q 9 0) 8 3 a = some la := (fR_nw haq).trans hl3
        have hla9n : vp_in (nI d) (aL (nw w q 9 0) la) := by rw [aL_nw hlq]; exact hla9
        have hr1 : aR (nw w q 9 0) 1002 la d = none := (congrFun (aR_nw hlq) d).trans hr0
        refine g_dup C dX6_keep_21 rfl ?_
        refine g_iload_n C dX6_keep_22 rfl ?_
        refine g_iload_n C dX6_keep_23 rfl ?_
        refine g_aload_n C dX6_keep_24 rfl ?_
        refine g_getR (b := la) C cls_7 8 3 (by first | exact ha | exact ha1) (by first | exact hl3 | exact hl3n) rfl k_294 dX6_keep_25 ?_
        refine g_iload_n C dX6_keep_28 rfl ?_
        refine g_aald C 1002 none (by first | exact hla | exact hla1 | exact hla2) (Or.inl rfl) (by first | exact hla9 | exact hla9n) (by rw [nI_tn (by omega)]; exact hr1) dX6_keep_29 ?_
        refine g_callI C mt_X7_init [.int (nI tl), .int tt, .null] (c0_X7_init de _ q (nI tl) tt nw_kd0) k_427 rfl rfl (Nat.le_of_ble_eq_true rfl) (by decide) (by decide) (by decide) (by decide) dX6_keep_30 (fun r_30 w_30 hp_30 => ?_)
        obtain ⟨rfl, f1, f2, f3, f4, f5, f6⟩ := hp_30
        have hkq := f2
        have sla := (SmA.nw (K := 9) (n := 0) hlq).tr (f1 la hlq)
        have hla2 : kd w_30 la = 1002 := sla.1.trans hla
        have hla92 : vp_in (nI d) (aL w_30 la) := by rw [sla.2.1]; exact hla9
        refine g_aast2 C 1002 9 (by first | exact hla | exact hla1 | exact hla2) rfl hkq rfl hla92 dX6_keep_33 ?_
        refine g_vret C rfl (by decide) (by decide) dX6_keep_34 ?_
        rw [nI_tn (by omega)]
        have hfr : ∀ b, kd w b ≠ 0 → b ≠ la → SmA w (pAR w_30 1002 la d (some q)) b := fun b hb hbl => by
          have hbq9 : b ≠ q := fun z => hb (by rw [z]; exact hq)
          exact (SmA.nw hbq9).tr ((f1 b hbq9).tr (SmA.pAR hbl))
        refine ⟨rfl, ?_, fun j hj => ?_, hla2, sla.2.1.trans hla2c, hfr⟩
        · rw [show aR (pAR w_30 1002 la d (some q)) 1002 la d = some q from up3_same]
          refine Chn_cons.mpr ⟨q, rfl, f2, f3, htl, f4, ?_, ?_⟩
          · rw [show fI (pAR w_30 1002 la d (some q)) 9 2 q = fI w_30 9 2 q from rfl, f5, lstV_c]
            have h9 : l0 = [] := by
              rw [hr0] at hc
              cases l0 with
              | nil => rfl
              | cons q0 l1 => obtain ⟨b, hb, -⟩ := Chn_cons.mp hc; cases hb
            rw [if_pos h9]
          · rw [show fR (pAR w_30 1002 la d (some q)) 9 3 q = fR w_30 9 3 q from rfl, f6]
            exact Chn.keep (w := w) (fun b hb => hfr b (by rw [hb]; decide) (fun z => by rw [z, hla] at hb; exact absurd hb (by decide))) (by rw [← hr0]; exact hc)
        · rw [show aR (pAR w_30 1002 la d (some q)) 1002 la j = aR w_30 1002 la j from if_neg (fun z => hj z.2.2), sla.2.2.2.2.2.1]
  · have hcase := hr0
    have hb8 : l0 ≠ [] ∧ kd w b9 = 9 ∧ fI w 9 2 b9 = lstV l0 := by
      rw [hr0] at hc
      cases l0 with
      | nil => exact absurd (show some b9 = none from hc) (by simp)
      | cons q0 l1 =>
        obtain ⟨b, hb, h1, -, -, -, h2, -⟩ := Chn_cons.mp hc
        cases hb
        exact ⟨by simp, h1, h2⟩
    obtain ⟨hl0, hb9, hb2⟩ := hb8
    refine g_iload_n C dX6_keep_0 rfl ?_
    refine g_if_lt C 34 dX6_keep_1 (by decide) (fun c_1 => ?_) (fun c_1 => ?_)
    · exact absurd c_1 (nI_pos (by omega))
    · refine g_iload_n C dX6_keep_4 rfl ?_
      refine g_aload_n C dX6_keep_5 rfl ?_
      refine g_getR (b := la) C cls_7 8 3 (by first | exact ha | exact ha1) (by first | exact hl3 | exact hl3n) rfl k_294 dX6_keep_6 ?_
      refine g_alen C 1002 2 (by first | exact hla | exact hla1 | exact hla2) rfl (by decide) dX6_keep_9 ?_
      rw [hla2, show Int32.ofNat 1200 = nI 1200 from rfl]
      refine g_icmp_ge C 34 dX6_keep_10 (by decide) (fun c_10 => ?_) (fun c_10 => ?_)
      · exact absurd c_10 (nI_ge hd (by decide))
      · refine g_aload_n C dX6_keep_13 rfl ?_
        refine g_getR (b := la) C cls_7 8 3 (by first | exact ha | exact ha1) (by first | exact hl3 | exact hl3n) rfl k_294 dX6_keep_14 ?_
        refine g_iload_n C dX6_keep_17 rfl ?_
        refine g_new C cls_8 dv_8 9 rfl k_286 k_426 k_23 (by decide) (by decide) dX6_keep_18 (fun q hq => ?_)
        intro hde
        have hlq := nw_ne hla (by decide) hq
        have haq := nw_ne ha (by decide) hq
        have ha1 : kd (nw w q 9 0) a = 8 := kd_nw ha (by decide) hq
        have hla1 : kd (nw w q 9 0) la = 1002 := kd_nw hla (by decide) hq
        have hl3n : fR (nw w q 9 0) 8 3 a = some la := (fR_nw haq).trans hl3
        have hla9n : vp_in (nI d) (aL (nw w q 9 0) la) := by rw [aL_nw hlq]; exact hla9
        have hr1 : aR (nw w q 9 0) 1002 la d = some b9 := (congrFun (aR_nw hlq) d).trans hr0
        have hb1 : kd (nw w q 9 0) b9 = 9 := kd_nw hb9 (by decide) hq
        have hbq := nw_ne hb9 (by decide) hq
        refine g_dup C dX6_keep_21 rfl ?_
        refine g_iload_n C dX6_keep_22 rfl ?_
        refine g_iload_n C dX6_keep_23 rfl ?_
        refine g_aload_n C dX6_keep_24 rfl ?_
        refine g_getR (b := la) C cls_7 8 3 (by first | exact ha | exact ha1) (by first | exact hl3 | exact hl3n) rfl k_294 dX6_keep_25 ?_
        refine g_iload_n C dX6_keep_28 rfl ?_
        refine g_aald C 1002 (some b9) (by first | exact hla | exact hla1 | exact hla2) (Or.inl rfl) (by first | exact hla9 | exact hla9n) (by rw [nI_tn (by omega)]; exact hr1) dX6_keep_29 ?_
        refine g_callI C mt_X7_init [.int (nI tl), .int tt, .ref b9] (c1_X7_init de _ q (nI tl) tt nw_kd0 b9 hb1 hbq) k_427 rfl rfl (Nat.le_of_ble_eq_true rfl) (by decide) (by decide) (by decide) (by decide) dX6_keep_30 (fun r_30 w_30 hp_30 => ?_)
        obtain ⟨rfl, f1, f2, f3, f4, f5, f6⟩ := hp_30
        have hkq := f2
        have sla := (SmA.nw (K := 9) (n := 0) hlq).tr (f1 la hlq)
        have hla2 : kd w_30 la = 1002 := sla.1.trans hla
        have hla92 : vp_in (nI d) (aL w_30 la) := by rw [sla.2.1]; exact hla9
        refine g_aast2 C 1002 9 (by first | exact hla | exact hla1 | exact hla2) rfl hkq rfl hla92 dX6_keep_33 ?_
        refine g_vret C rfl (by decide) (by decide) dX6_keep_34 ?_
        rw [nI_tn (by omega)]
        have hfr : ∀ b, kd w b ≠ 0 → b ≠ la → SmA w (pAR w_30 1002 la d (some q)) b := fun b hb hbl => by
          have hbq9 : b ≠ q := fun z => hb (by rw [z]; exact hq)
          exact (SmA.nw hbq9).tr ((f1 b hbq9).tr (SmA.pAR hbl))
        refine ⟨rfl, ?_, fun j hj => ?_, hla2, sla.2.1.trans hla2c, hfr⟩
        · rw [show aR (pAR w_30 1002 la d (some q)) 1002 la d = some q from up3_same]
          refine Chn_cons.mpr ⟨q, rfl, f2, f3, htl, f4, ?_, ?_⟩
          · rw [show fI (pAR w_30 1002 la d (some q)) 9 2 q = fI w_30 9 2 q from rfl, f5, lstV_c]
            rw [if_neg hl0, show fI (nw w q 9 0) 9 2 b9 = fI w 9 2 b9 from fI_nw hbq]
            exact hb2
          · rw [show fR (pAR w_30 1002 la d (some q)) 9 3 q = fR w_30 9 3 q from rfl, f6]
            exact Chn.keep (w := w) (fun b hb => hfr b (by rw [hb]; decide) (fun z => by rw [z, hla] at hb; exact absurd hb (by decide))) (by rw [← hr0]; exact hc)
        · rw [show aR (pAR w_30 1002 la d (some q)) 1002 la j = aR w_30 1002 la j from if_neg (fun z => hj z.2.2), sla.2.2.2.2.2.1]
theorem dX8_tell_0 : decode cX8_tell 0 = .ok (.aload_n 1, 1) := by decide +kernel
theorem dX8_tell_1 : decode cX8_tell 1 = .ok (.iload_n 2, 1) := by decide +kernel
theorem dX8_tell_2 : decode cX8_tell 2 = .ok (.iconst 1, 1) := by decide +kernel
theorem dX8_tell_3 : decode cX8_tell 3 = .ok (.aload_n 0, 1) := by decide +kernel
theorem dX8_tell_4 : decode cX8_tell 4 = .ok (.getfield 18, 3) := by decide +kernel
theorem dX8_tell_7 : decode cX8_tell 7 = .ok (.invokevirtual 22, 3) := by decide +kernel
theorem dX8_tell_10 : decode cX8_tell 10 = .ok (.istore 4, 2) := by decide +kernel
theorem dX8_tell_12 : decode cX8_tell 12 = .ok (.aload_n 0, 1) := by decide +kernel
theorem dX8_tell_13 : decode cX8_tell 13 = .ok (.getfield 18, 3) := by decide +kernel
theorem dX8_tell_16 : decode cX8_tell 16 = .ok (.sipush 512, 3) := by decide +kernel
theorem dX8_tell_19 : decode cX8_tell 19 = .ok (.if_icmp .ge 23, 3) := by decide +kernel
theorem dX8_tell_22 : decode cX8_tell 22 = .ok (.aload_n 1, 1) := by decide +kernel
theorem dX8_tell_23 : decode cX8_tell 23 = .ok (.iload_n 2, 1) := by decide +kernel
theorem dX8_tell_24 : decode cX8_tell 24 = .ok (.iload_n 3, 1) := by decide +kernel
theorem dX8_tell_25 : decode cX8_tell 25 = .ok (.aload_n 0, 1) := by decide +kernel
theorem dX8_tell_26 : decode cX8_tell 26 = .ok (.getfield 18, 3) := by decide +kernel
theorem dX8_tell_29 : decode cX8_tell 29 = .ok (.invokevirtual 28, 3) := by decide +kernel
theorem dX8_tell_32 : decode cX8_tell 32 = .ok (.aload_n 0, 1) := by decide +kernel
theorem dX8_tell_33 : decode cX8_tell 33 = .ok (.dup, 1) := by decide +kernel
theorem dX8_tell_34 : decode cX8_tell 34 = .ok (.getfield 18, 3) := by decide +kernel
theorem dX8_tell_37 : decode cX8_tell 37 = .ok (.iconst 1, 1) := by decide +kernel
theorem dX8_tell_38 : decode cX8_tell 38 = .ok (.iadd, 1) := by decide +kernel
theorem dX8_tell_39 : decode cX8_tell 39 = .ok (.putfield 18, 3) := by decide +kernel
theorem dX8_tell_42 : decode cX8_tell 42 = .ok (.iload 4, 2) := by decide +kernel
theorem dX8_tell_44 : decode cX8_tell 44 = .ok (.ireturn, 1) := by decide +kernel
set_option maxHeartbeats 1000000 in
set_option maxRecDepth 100000 in
theorem c_X8_tell (de : Nat) (w : Wd) (we sl nS : Nat) (stA laA : Nat → Nat) (xs ys : Nat → Int32) (ch : Nat → Nat → List (Nat × Int32)) (hw : WS9 w de we sl nS stA laA xs ys ch) (s0 d tl : Nat) (tt : Int32) (hs0 : s0 < nS) (hd : d < 1200) (htl : tl < 512) (htl0 : fI w 10 1 we = nI tl) : Ct yX8_tell cX8_tell 5 (some .int) 3 83 1 4 de [.ref we, .ref (stA s0), .int (nI d), .int tt] w (fun r w' => r = some (.int (datV (ch s0 d) 1 tl)) ∧ Chn w' ((tl, tt) :: ch s0 d) (aR w' 1002 (laA s0) d) ∧ (∀ j, j ≠ d → aR w' 1002 (laA s0) j = aR w 1002 (laA s0) j) ∧ kd w' (laA s0) = 1002 ∧ aL w' (laA s0) = 1200 ∧ (∀ b, kd w b ≠ 0 → b ≠ laA s0 → b ≠ we → SmA w w' b) ∧ kd w' we = 10 ∧ fR w' 10 0 we = some sl ∧ fI w' 10 1 we = nI (tl + 1)) := by
  refine Ct.mk (by decide +kernel) [(0, .ref we), (1, .ref (stA s0)), (2, .int (nI d)), (3, .int tt)] rfl (Nat.le_of_ble_eq_true rfl) ?_
  intro p l e R s m args below meth c D cy z C hnm
  refine g_aload_n C dX8_tell_0 rfl ?_
  refine g_iload_n C dX8_tell_1 rfl ?_
  refine g_iconst C 1 dX8_tell_2 (by rfl) ?_
  refine g_aload_n C dX8_tell_3 rfl ?_
  refine g_getI C cls_9 10 1 (by first | exact hw.1 | exact hwe1) rfl k_69 dX8_tell_4 ?_
  rw [htl0]
  refine g_callV C cls_7 8 mt_X6_datum [.int (nI d), .int 1, .int (nI tl)] (c_X6_datum de w (stA s0) (laA s0) d tl 1 (ch s0 d) (hw.2.2.2.2 s0 hs0).1 (hw.2.2.2.2 s0 hs0).2.2.2.2.1 (hw.2.2.2.2 s0 hs0).2.2.2.2.2.1 (hw.2.2.2.2 s0 hs0).2.2.2.2.2.2.1 hd (by omega) ((hw.2.2.2.2 s0 hs0).2.2.2.2.2.2.2 d hd)) (hw.2.2.2.2 s0 hs0).1 (by decide) k_418 rfl rfl (Nat.le_of_ble_eq_true rfl) (by decide) (by decide) (by decide) (by decide) dX8_tell_7 (fun r_7 w_7 hp_7 => ?_)
  obtain ⟨rfl, rfl⟩ := hp_7
  refine g_istore C dX8_tell_10 (by decide) ?_
  refine g_aload_n C dX8_tell_12 rfl ?_
  refine g_getI C cls_9 10 1 (by first | exact hw.1 | exact hwe1) rfl k_69 dX8_tell_13 ?_
  rw [htl0]
  refine g_sipush C 512 dX8_tell_16 (by rfl) ?_
  refine g_icmp_ge C 42 dX8_tell_19 (by decide) (fun c_19 => ?_) (fun c_19 => ?_)
  · exact absurd c_19 (nI_ge (a := tl) (b := 512) (by omega) (by decide))
  · refine g_aload_n C dX8_tell_22 rfl ?_
    refine g_iload_n C dX8_tell_23 rfl ?_
    refine g_iload_n C dX8_tell_24 rfl ?_
    refine g_aload_n C dX8_tell_25 rfl ?_
    refine g_getI C cls_9 10 1 (by first | exact hw.1 | exact hwe1) rfl k_69 dX8_tell_26 ?_
    rw [htl0]
    refine g_callV C cls_7 8 mt_X6_keep [.int (nI d), .int tt, .int (nI tl)] (c_X6_keep de w (stA s0) (laA s0) d tl tt (ch s0 d) (hw.2.2.2.2 s0 hs0).1 (hw.2.2.2.2 s0 hs0).2.2.2.2.1 (hw.2.2.2.2 s0 hs0).2.2.2.2.2.1 (hw.2.2.2.2 s0 hs0).2.2.2.2.2.2.1 hd (by omega) ((hw.2.2.2.2 s0 hs0).2.2.2.2.2.2.2 d hd)) (hw.2.2.2.2 s0 hs0).1 (by decide) k_422 rfl rfl (Nat.le_of_ble_eq_true rfl) (by decide) (by decide) (by decide) (by decide) dX8_tell_29 (fun r_29 w_29 hp_29 => ?_)
    obtain ⟨rfl, f1, f2, f3, f4, f5⟩ := hp_29
    have swe := f5 we (by rw [hw.1]; decide) (fun z => by have h9 := hw.1; rw [z, (hw.2.2.2.2 s0 hs0).2.2.2.2.2.1] at h9; exact absurd h9 (by decide))
    have hwe1 : kd w_29 we = 10 := swe.1.trans hw.1
    refine g_aload_n C dX8_tell_32 rfl ?_
    refine g_dup C dX8_tell_33 rfl ?_
    refine g_getI C cls_9 10 1 (by first | exact hw.1 | exact hwe1) rfl k_69 dX8_tell_34 ?_
    rw [show fI w_29 10 1 we = nI tl from (swe.2.2.1 10 1).trans htl0]
    refine g_iconst C 1 dX8_tell_37 (by rfl) ?_
    refine g_iadd C dX8_tell_38 ?_
    rw [nI_1]
    refine g_putI C cls_9 10 1 (by first | exact hw.1 | exact hwe1) rfl (Or.inl rfl) rfl rfl k_69 dX8_tell_39 ?_
    refine g_iload C dX8_tell_42 rfl ?_
    refine g_iret C rfl rfl (by decide) (by decide) dX8_tell_44 ?_
    refine ⟨rfl, ?_, f2, f3, f4, fun b hb hbl hbw => (f5 b hb hbl).tr (SmA.pI hbw), hwe1, (swe.2.2.2.1 10 0).trans hw.2.1, up3_same⟩
    exact Chn.keep (w := w_29) (fun b hb => SmA.pI (fun z => by rw [z, hwe1] at hb; exact absurd hb (by decide))) f1
end TELL31
