section DUES37
theorem k_rateBy (de : Nat) (w : Wd) (x : Nat) (A : Nat → Nat → Int32) (F : Nat → Int32) (nS nP nF nC tl : Nat) (ho cf cp cs sb pn : Nat → Nat) (dn : Nat → Nat → Nat) (ch : Nat → Nat → List (Nat × Int32)) (ca : Nat → Nat → Nat) (h : RC0 w de x A F nS nP nF nC tl ho cf cp cs sb pn dn ch ca) (s0 se k n : Nat) (hs : s0 < nS) (hse : se < 20) (hk : k < nP) (hn : n < 100000) : Ct yX9_rateBy cX9_rateBy 5 (some .int) 5 119 0 0 de [.ref x, .ref (ca 0 s0), .int (nI se), .ref (ca 3 k), .int (nI n)] w (fun r w' => r = some (.int (ratC A nS ch k (pn k) (dn k) n s0 se)) ∧ ∃ g, w' = stR w 1010 (ca 9 2) g) := by
  have h9 := c_X9_rateBy de w (ca 9 0) (ca 9 3) nS (ca 0) (ca 1) (A 1) (A 2) ch h.2.2.1.1 (ca 3 k) (ca 4 k) (pn k) (fun j => ca 5 (3 * k + j)) (dn k) (phA A k 1) (phA A k 2) (phA A k 3) (phA A k 4) (h.2.2.2.2.1.2.2.1 k (Or.inl hk)).1 x (ca 9 1) (ca 9 2) h.1.1 h.1.2.1 h.1.2.2.1 h.2.2.2.1 s0 se n hs hse hn
  rw [(h.2.2.2.2.1.2.2.1 k (Or.inl hk)).2.2 (by have := h.2.2.2.2.1.2.1; omega)] at h9
  exact h9
theorem k_pricesRate (de : Nat) (w : Wd) (x : Nat) (A : Nat → Nat → Int32) (F : Nat → Int32) (nS nP nF nC tl : Nat) (ho cf cp cs sb pn : Nat → Nat) (dn : Nat → Nat → Nat) (ch : Nat → Nat → List (Nat × Int32)) (ca : Nat → Nat → Nat) (h : RC0 w de x A F nS nP nF nC tl ho cf cp cs sb pn dn ch ca) (s0 k T : Nat) (hs : s0 < nS) (hk : k < nP) (hn : tl < 100000) (hT : F 0 = nI T) (hT2 : T < 1200) : Ct yX9_pricesRate cX9_pricesRate 6 (some .int) 6 143 0 0 de [.ref x, .ref (ca 0 s0), .ref (ca 3 k)] w (fun r w' => r = some (.int (prcV (fun se => ratC A nS ch k (pn k) (dn k) tl s0 se) (T / 60))) ∧ ∃ g, w' = stR w 1010 (ca 9 2) g) := by
  have h9 := c_X9_pricesRate de w (ca 9 0) (ca 9 3) nS (ca 0) (ca 1) (A 1) (A 2) ch h.2.2.1.1 (ca 3 k) (ca 4 k) (pn k) (fun j => ca 5 (3 * k + j)) (dn k) (phA A k 1) (phA A k 2) (phA A k 3) (phA A k 4) (h.2.2.2.2.1.2.2.1 k (Or.inl hk)).1 x (ca 9 1) (ca 9 2) h.1.1 h.1.2.1 h.1.2.2.1 h.2.2.2.1 s0 tl T hs hn h.2.2.1.2.1 (h.1.2.2.2.2.2.2.2.2.2.1.trans hT) hT2
  rw [(h.2.2.2.2.1.2.2.1 k (Or.inl hk)).2.2 (by have := h.2.2.2.2.1.2.1; omega)] at h9
  exact h9
theorem dX9_findDues_0 : decode cX9_findDues 0 = .ok (.iconst 0, 1) := by decide +kernel
theorem dX9_findDues_1 : decode cX9_findDues 1 = .ok (.istore_n 2, 1) := by decide +kernel
theorem dX9_findDues_2 : decode cX9_findDues 2 = .ok (.iconst 0, 1) := by decide +kernel
theorem dX9_findDues_3 : decode cX9_findDues 3 = .ok (.istore_n 3, 1) := by decide +kernel
theorem dX9_findDues_4 : decode cX9_findDues 4 = .ok (.iload_n 3, 1) := by decide +kernel
theorem dX9_findDues_5 : decode cX9_findDues 5 = .ok (.aload_n 0, 1) := by decide +kernel
theorem dX9_findDues_6 : decode cX9_findDues 6 = .ok (.getfield 33, 3) := by decide +kernel
theorem dX9_findDues_9 : decode cX9_findDues 9 = .ok (.invokevirtual 82, 3) := by decide +kernel
theorem dX9_findDues_12 : decode cX9_findDues 12 = .ok (.if_icmp .ge 96, 3) := by decide +kernel
theorem dX9_findDues_15 : decode cX9_findDues 15 = .ok (.aload_n 0, 1) := by decide +kernel
theorem dX9_findDues_16 : decode cX9_findDues 16 = .ok (.getfield 33, 3) := by decide +kernel
theorem dX9_findDues_19 : decode cX9_findDues 19 = .ok (.iload_n 3, 1) := by decide +kernel
theorem dX9_findDues_20 : decode cX9_findDues 20 = .ok (.invokevirtual 292, 3) := by decide +kernel
theorem dX9_findDues_23 : decode cX9_findDues 23 = .ok (.checkcast 214, 3) := by decide +kernel
theorem dX9_findDues_26 : decode cX9_findDues 26 = .ok (.astore 4, 2) := by decide +kernel
theorem dX9_findDues_28 : decode cX9_findDues 28 = .ok (.aload 4, 2) := by decide +kernel
theorem dX9_findDues_30 : decode cX9_findDues 30 = .ok (.getfield 324, 3) := by decide +kernel
theorem dX9_findDues_33 : decode cX9_findDues 33 = .ok (.iload_n 1, 1) := by decide +kernel
theorem dX9_findDues_34 : decode cX9_findDues 34 = .ok (.if_icmp .ne 68, 3) := by decide +kernel
theorem dX9_findDues_37 : decode cX9_findDues 37 = .ok (.aload 4, 2) := by decide +kernel
theorem dX9_findDues_39 : decode cX9_findDues 39 = .ok (.aload_n 0, 1) := by decide +kernel
theorem dX9_findDues_40 : decode cX9_findDues 40 = .ok (.getfield 10, 3) := by decide +kernel
theorem dX9_findDues_43 : decode cX9_findDues 43 = .ok (.getfield 86, 3) := by decide +kernel
theorem dX9_findDues_46 : decode cX9_findDues 46 = .ok (.putfield 330, 3) := by decide +kernel
theorem dX9_findDues_49 : decode cX9_findDues 49 = .ok (.aload 4, 2) := by decide +kernel
theorem dX9_findDues_51 : decode cX9_findDues 51 = .ok (.aload_n 0, 1) := by decide +kernel
theorem dX9_findDues_52 : decode cX9_findDues 52 = .ok (.aload 4, 2) := by decide +kernel
theorem dX9_findDues_54 : decode cX9_findDues 54 = .ok (.getfield 320, 3) := by decide +kernel
theorem dX9_findDues_57 : decode cX9_findDues 57 = .ok (.getfield 199, 3) := by decide +kernel
theorem dX9_findDues_60 : decode cX9_findDues 60 = .ok (.iload_n 1, 1) := by decide +kernel
theorem dX9_findDues_61 : decode cX9_findDues 61 = .ok (.aload 4, 2) := by decide +kernel
theorem dX9_findDues_63 : decode cX9_findDues 63 = .ok (.getfield 327, 3) := by decide +kernel
theorem dX9_findDues_66 : decode cX9_findDues 66 = .ok (.aload_n 0, 1) := by decide +kernel
theorem dX9_findDues_67 : decode cX9_findDues 67 = .ok (.getfield 10, 3) := by decide +kernel
theorem dX9_findDues_70 : decode cX9_findDues 70 = .ok (.getfield 86, 3) := by decide +kernel
theorem dX9_findDues_73 : decode cX9_findDues 73 = .ok (.invokevirtual 304, 3) := by decide +kernel
theorem dX9_findDues_76 : decode cX9_findDues 76 = .ok (.putfield 317, 3) := by decide +kernel
theorem dX9_findDues_79 : decode cX9_findDues 79 = .ok (.aload 4, 2) := by decide +kernel
theorem dX9_findDues_81 : decode cX9_findDues 81 = .ok (.aload 4, 2) := by decide +kernel
theorem dX9_findDues_83 : decode cX9_findDues 83 = .ok (.aload 4, 2) := by decide +kernel
theorem dX9_findDues_85 : decode cX9_findDues 85 = .ok (.getfield 317, 3) := by decide +kernel
theorem dX9_findDues_88 : decode cX9_findDues 88 = .ok (.invokevirtual 333, 3) := by decide +kernel
theorem dX9_findDues_91 : decode cX9_findDues 91 = .ok (.putfield 358, 3) := by decide +kernel
theorem dX9_findDues_94 : decode cX9_findDues 94 = .ok (.iload_n 2, 1) := by decide +kernel
theorem dX9_findDues_95 : decode cX9_findDues 95 = .ok (.aload 4, 2) := by decide +kernel
theorem dX9_findDues_97 : decode cX9_findDues 97 = .ok (.getfield 358, 3) := by decide +kernel
theorem dX9_findDues_100 : decode cX9_findDues 100 = .ok (.iadd, 1) := by decide +kernel
theorem dX9_findDues_101 : decode cX9_findDues 101 = .ok (.istore_n 2, 1) := by decide +kernel
theorem dX9_findDues_102 : decode cX9_findDues 102 = .ok (.iinc 3 1, 3) := by decide +kernel
theorem dX9_findDues_105 : decode cX9_findDues 105 = .ok (.goto (-101), 3) := by decide +kernel
theorem dX9_findDues_108 : decode cX9_findDues 108 = .ok (.iload_n 2, 1) := by decide +kernel
theorem dX9_findDues_109 : decode cX9_findDues 109 = .ok (.ireturn, 1) := by decide +kernel
set_option maxHeartbeats 1000000 in
set_option maxRecDepth 100000 in
theorem c_X9_findDues (de : Nat) (w : Wd) (x : Nat) (A : Nat → Nat → Int32) (F : Nat → Int32) (nS nP nF nC tl : Nat) (ho cf cp cs sb pn : Nat → Nat) (dn : Nat → Nat → Nat) (ch : Nat → Nat → List (Nat × Int32)) (ca : Nat → Nat → Nat) (h : RC0 w de x A F nS nP nF nC tl ho cf cp cs sb pn dn ch ca) (hC : CVA A nC nF nS cf cs ho) (se : Nat) (hse : se < 20) (sN rN : Nat → Nat) (hK : ∀ k, k < nC → cp k < nP ∧ A 23 (10 * k + 2) = nI (sN k) ∧ sN k ≤ 2000 ∧ ratC A nS ch (cp k) (pn (cp k)) (dn (cp k)) tl (ho (cf k)) se = nI (rN k) ∧ rN k ≤ 1000) (htl : tl < 100000) : Ct yX9_findDues cX9_findDues 5 (some .int) 6 143 0 0 de [.ref x, .int (nI se)] w (fun r w' => r = some (.int (nI (allN cs se (dvN sN rN) nC))) ∧ ∃ sb', RC0 w' de x (sdF cs se sN rN A nC) F nS nP nF nC tl ho cf cp cs sb' pn dn ch ca ∧ FrR w w' ∧ Kp [2] w w' ∧ ∀ j, j < nC → sb' j = if cs j = se then tl else sb j) := by
  refine Ct.mk (by decide +kernel) [(0, .ref x), (1, .int (nI se))] rfl (Nat.le_of_ble_eq_true rfl) ?_
  intro p l e R s m args below meth c D cy z C hnm
  obtain ⟨h60, h16, h5, hcv, hho⟩ := id hC
  have loop : ∀ (k i : Nat) (w1 : Wd) (sb1 : Nat → Nat), i + k = nC → RC0 w1 de x (sdF cs se sN rN A i) F nS nP nF nC tl ho cf cp cs sb1 pn dn ch ca → FrR w w1 → Kp [2] w w1 → (∀ j, j < nC → sb1 j = if j < i ∧ cs j = se then tl else sb j) → G p l e R s m args below meth c D cy z 5 w1 0 0 4 [(0, .ref x), (1, .int (nI se)), (2, .int (nI (allN cs se (dvN sN rN) i))), (3, .int (nI i))] [] (QM below args s D cy z (fun r w' => r = some (.int (nI (allN cs se (dvN sN rN) nC))) ∧ ∃ sb', RC0 w' de x (sdF cs se sN rN A nC) F nS nP nF nC tl ho cf cp cs sb' pn dn ch ca ∧ FrR w w' ∧ Kp [2] w w' ∧ ∀ j, j < nC → sb' j = if cs j = se then tl else sb j) 0 0) := by
    intro k
    induction k with
    | zero =>
      intro i w1 sb1 hik h hfr hbk hsb
      have hi9 : i = nC := by omega
      rw [hi9] at h ⊢
      refine g_iload_n C dX9_findDues_4 rfl ?_
      refine g_aload_n C dX9_findDues_5 rfl ?_
      refine g_getR (b := (ca 9 6)) C cls_10 11 4 h.1.1 h.1.2.2.2.2.2.1 rfl k_140 dX9_findDues_6 ?_
      refine g_callV C cls_0 61 mt_Jx4a65c_size_8abf5 [] (c_sz de _ 61 1043 KL_co (ca 9 6) nC (ca 8) h.2.2.2.2.2.2.1.1) h.2.2.2.2.2.2.1.1.1 (by decide) k_260 rfl rfl (Nat.le_of_ble_eq_true rfl) (by decide) (by decide) (by decide) (by decide) dX9_findDues_9 (fun r_9 w_9 hp_9 => ?_)
      obtain ⟨rfl, rfl⟩ := hp_9
      refine g_icmp_ge C 108 dX9_findDues_12 (by decide) (fun c_12 => ?_) (fun c_12 => ?_)
      · refine g_iload_n C dX9_findDues_108 rfl ?_
        refine g_iret C rfl rfl (by decide) (by decide) dX9_findDues_109 ?_
        exact ⟨rfl, sb1, h, hfr, hbk, fun j hj => by rw [hsb j hj]; exact ite_congr (propext ⟨fun z => z.2, fun z => ⟨by omega, z⟩⟩) (fun _ => rfl) (fun _ => rfl)⟩
      · exact absurd (nI_nle_of c_12 (by omega) (by omega)) (by omega)
    | succ k ih =>
      intro i w1 sb1 hik h hfr hbk hsb
      have hi : i < nC := by omega
      have hC2 := sdF_CVA (se := se) (sN := sN) (rN := rN) hC i
      have hA23 : ∀ j, j % 10 ≠ 6 ∧ j % 10 ≠ 7 → (sdF cs se sN rN A i) 23 j = A 23 j := fun j hj => sdF_ne (Or.inr hj) i
      have hAq : ∀ q, q ≠ 23 → (sdF cs se sN rN A i) q = A q := fun q h1 => funext fun j => sdF_ne (Or.inl h1) i
      generalize hAi : (sdF cs se sN rN A i) = Ai at h hC2 hA23 hAq
      have hra : ratC Ai nS ch (cp i) (pn (cp i)) (dn (cp i)) tl (ho (cf i)) se = nI (rN i) := by
        rw [← (hK i hi).2.2.2.1]
        unfold ratC phA
        rw [hAq 1 (by decide), hAq 2 (by decide), hAq 7 (by decide), hAq 9 (by decide)]
      refine g_iload_n C dX9_findDues_4 rfl ?_
      refine g_aload_n C dX9_findDues_5 rfl ?_
      refine g_getR (b := (ca 9 6)) C cls_10 11 4 h.1.1 h.1.2.2.2.2.2.1 rfl k_140 dX9_findDues_6 ?_
      refine g_callV C cls_0 61 mt_Jx4a65c_size_8abf5 [] (c_sz de _ 61 1043 KL_co (ca 9 6) nC (ca 8) h.2.2.2.2.2.2.1.1) h.2.2.2.2.2.2.1.1.1 (by decide) k_260 rfl rfl (Nat.le_of_ble_eq_true rfl) (by decide) (by decide) (by decide) (by decide) dX9_findDues_9 (fun r_9 w_9 hp_9 => ?_)
      obtain ⟨rfl, rfl⟩ := hp_9
      refine g_icmp_ge C 108 dX9_findDues_12 (by decide) (fun c_12 => ?_) (fun c_12 => ?_)
      · exact absurd (nI_le_of c_12 (by omega) (by omega)) (by omega)
      · refine g_aload_n C dX9_findDues_15 rfl ?_
        refine g_getR (b := (ca 9 6)) C cls_10 11 4 h.1.1 h.1.2.2.2.2.2.1 rfl k_140 dX9_findDues_16 ?_
        refine g_iload_n C dX9_findDues_19 rfl ?_
        refine g_callV C cls_0 61 mt_Jx4a65c_get_915e3 [.int (nI i)] (c_Jx4a65c_get_915e3 de _ 61 1043 KL_co (ca 9 6) nC i (ca 8) h.2.2.2.2.2.2.1.1 hi) h.2.2.2.2.2.2.1.1.1 (by decide) k_399 rfl rfl (Nat.le_of_ble_eq_true rfl) (by decide) (by decide) (by decide) (by decide) dX9_findDues_20 (fun r_20 w_20 hp_20 => ?_)
        obtain ⟨rfl, rfl⟩ := hp_20
        refine g_cast C cls_2 3 (h.2.2.2.2.2.2.1.2 i hi).1 (by decide) k_621 dX9_findDues_23 ?_
        refine g_astore C dX9_findDues_26 (by decide) ?_
        refine g_aload C dX9_findDues_28 rfl ?_
        refine g_getI C cls_2 3 3 (h.2.2.2.2.2.2.1.2 i hi).1 rfl k_698 dX9_findDues_30 ?_
        rw [(h.2.2.2.2.2.2.1.2 i hi).2.2.2.2.1, (hC2.2.2.2.1 i hi).2.2.1]
        refine g_iload_n C dX9_findDues_33 rfl ?_
        refine g_icmp_ne C 102 dX9_findDues_34 (by decide) (fun c_34 => ?_) (fun c_34 => ?_)
        · refine g_iinc C dX9_findDues_102 rfl (nI_1 i) (by decide) ?_
          refine g_goto C 4 dX9_findDues_105 (by decide) ?_
          have h9 := ih (i + 1) w1 sb1 (by omega) (by rw [sdF_f c_34, hAi]; exact h) hfr hbk (fun j hj => by rw [hsb j hj]; refine ite_congr (propext ⟨fun z => ⟨by omega, z.2⟩, fun z => ⟨?_, z.2⟩⟩) (fun _ => rfl) (fun _ => rfl); have : j ≠ i := fun z2 => c_34 (by rw [← z2, z.2]); omega)
          rw [allN_f c_34] at h9
          exact g_lv2 [(0, .ref x), (1, .int (nI se)), (2, .int (nI (allN cs se (dvN sN rN) i))), (3, .int (nI (i + 1)))] rfl h9
        · refine g_aload C dX9_findDues_37 rfl ?_
          refine g_aload_n C dX9_findDues_39 rfl ?_
          refine g_getR (b := (ca 9 0)) C cls_10 11 0 h.1.1 h.1.2.1 rfl k_136 dX9_findDues_40 ?_
          refine g_getI C cls_9 10 1 h.2.2.1.1.1 rfl k_70 dX9_findDues_43 ?_
          rw [h.2.2.1.2.1]
          refine g_putI C cls_2 3 6 (h.2.2.2.2.2.2.1.2 i hi).1 rfl (Or.inl rfl) rfl rfl k_702 dX9_findDues_46 ?_
          replace hfr := hfr.tr (FrR.pI (h.2.2.2.2.2.2.1.2 i hi).1 (by decide) : FrR _ (pI w1 3 6 (ca 8 i) (nI tl)))
          replace hbk := hbk.tr (Kp.pI (h.2.2.2.2.2.2.1.2 i hi).1 (by decide) : Kp [2] _ (pI w1 3 6 (ca 8 i) (nI tl)))
          replace h := h.cov6 hi tl
          generalize pI w1 3 6 (ca 8 i) (nI tl) = w2 at h hfr hbk ⊢
          refine g_aload C dX9_findDues_49 rfl ?_
          refine g_aload_n C dX9_findDues_51 rfl ?_
          refine g_aload C dX9_findDues_52 rfl ?_
          refine g_getR (b := (ca 6 (cf i))) C cls_2 3 0 (h.2.2.2.2.2.2.1.2 i hi).1 (h.2.2.2.2.2.2.1.2 i hi).2.1 rfl k_693 dX9_findDues_54 ?_
          refine g_getR (b := (ca 0 (ho (cf i)))) C cls_3 4 1 (h.2.2.2.2.2.1.2 (cf i) (hcv i hi).2.1).1 (h.2.2.2.2.2.1.2 (cf i) (hcv i hi).2.1).2.2.1 rfl k_536 dX9_findDues_57 ?_
          refine g_iload_n C dX9_findDues_60 rfl ?_
          refine g_aload C dX9_findDues_61 rfl ?_
          refine g_getR (b := (ca 3 (cp i))) C cls_2 3 1 (h.2.2.2.2.2.2.1.2 i hi).1 (h.2.2.2.2.2.2.1.2 i hi).2.2.1 rfl k_695 dX9_findDues_63 ?_
          refine g_aload_n C dX9_findDues_66 rfl ?_
          refine g_getR (b := (ca 9 0)) C cls_10 11 0 h.1.1 h.1.2.1 rfl k_136 dX9_findDues_67 ?_
          refine g_getI C cls_9 10 1 h.2.2.1.1.1 rfl k_70 dX9_findDues_70 ?_
          rw [h.2.2.1.2.1]
          refine g_callV C cls_10 11 mt_X9_rateBy [.ref (ca 0 (ho (cf i))), .int (nI se), .ref (ca 3 (cp i)), .int (nI tl)] (k_rateBy de _ x _ F nS nP nF nC tl ho cf cp cs _ pn dn ch ca h (ho (cf i)) se (cp i) tl (hho (cf i) (hcv i hi).2.1).2 hse (hK i hi).1 htl) h.1.1 (by decide) k_631 rfl rfl (Nat.le_of_ble_eq_true rfl) (by decide) (by decide) (by decide) (by decide) dX9_findDues_73 (fun r_73 w_73 hp_73 => ?_)
          obtain ⟨rfl, g, rfl⟩ := hp_73
          rw [hra]
          replace hfr := hfr.tr (FrR.stR h.2.2.2.1.2.2.1 (by decide) : FrR _ (stR w2 1010 (ca 9 2) g))
          replace hbk := hbk.tr (Kp.stR h.2.2.2.1.2.2.1 (by decide) : Kp [2] _ (stR w2 1010 (ca 9 2) g))
          replace h := h.view g
          generalize stR w2 1010 (ca 9 2) g = w3 at h hfr hbk ⊢
          refine g_putI C cls_2 3 7 (h.2.2.2.2.2.2.1.2 i hi).1 rfl (Or.inl rfl) rfl rfl k_704 dX9_findDues_76 ?_
          replace hfr := hfr.tr (FrR.pI (h.2.2.2.2.2.2.1.2 i hi).1 (by decide) : FrR _ (pI w3 3 7 (ca 8 i) (nI (rN i))))
          replace hbk := hbk.tr (Kp.pI (h.2.2.2.2.2.2.1.2 i hi).1 (by decide) : Kp [2] _ (pI w3 3 7 (ca 8 i) (nI (rN i))))
          replace h := h.cov7 hi (nI (rN i))
          generalize pI w3 3 7 (ca 8 i) (nI (rN i)) = w4 at h hfr hbk ⊢
          refine g_aload C dX9_findDues_79 rfl ?_
          refine g_aload C dX9_findDues_81 rfl ?_
          refine g_aload C dX9_findDues_83 rfl ?_
          refine g_getI C cls_2 3 7 (h.2.2.2.2.2.2.1.2 i hi).1 rfl k_704 dX9_findDues_85 ?_
          rw [(h.2.2.2.2.2.2.1.2 i hi).2.2.2.2.2.2.2.2.1, updA_eq]
          refine g_callV C cls_2 3 mt_X1_dueBy [.int (nI (rN i))] (c_X1_dueBy de _ (ca 8 i) (h.2.2.2.2.2.2.1.2 i hi).1 (nI (rN i))) (h.2.2.2.2.2.2.1.2 i hi).1 (by decide) k_750 rfl rfl (Nat.le_of_ble_eq_true rfl) (by decide) (by decide) (by decide) (by decide) dX9_findDues_88 (fun r_88 w_88 hp_88 => ?_)
          obtain ⟨rfl, rfl⟩ := hp_88
          rw [(h.2.2.2.2.2.2.1.2 i hi).2.2.2.1, updA_ne (by omega), hA23 (10 * i + 2) (by omega), (hK i hi).2.1, dv_e (hK i hi).2.2.1 (hK i hi).2.2.2.2]
          refine g_putI C cls_2 3 8 (h.2.2.2.2.2.2.1.2 i hi).1 rfl (Or.inl rfl) rfl rfl k_706 dX9_findDues_91 ?_
          replace hfr := hfr.tr (FrR.pI (h.2.2.2.2.2.2.1.2 i hi).1 (by decide) : FrR _ (pI w4 3 8 (ca 8 i) (nI ((dvN sN rN) i))))
          replace hbk := hbk.tr (Kp.pI (h.2.2.2.2.2.2.1.2 i hi).1 (by decide) : Kp [2] _ (pI w4 3 8 (ca 8 i) (nI ((dvN sN rN) i))))
          replace h := h.cov8 hi (nI ((dvN sN rN) i))
          generalize pI w4 3 8 (ca 8 i) (nI ((dvN sN rN) i)) = w5 at h hfr hbk ⊢
          refine g_iload_n C dX9_findDues_94 rfl ?_
          refine g_aload C dX9_findDues_95 rfl ?_
          refine g_getI C cls_2 3 8 (h.2.2.2.2.2.2.1.2 i hi).1 rfl k_706 dX9_findDues_97 ?_
          rw [(h.2.2.2.2.2.2.1.2 i hi).2.2.2.2.2.2.2.2.2.1, updA_eq]
          refine g_iadd C dX9_findDues_100 ?_
          rw [nI_add]
          refine g_istore_n C dX9_findDues_101 (by decide) ?_
          refine g_iinc C dX9_findDues_102 rfl (nI_1 i) (by decide) ?_
          refine g_goto C 4 dX9_findDues_105 (by decide) ?_
          have h9 := ih (i + 1) w5 (updN sb1 i tl) (by omega) (by rw [sdF_t c_34 (by have := hcv i hi; omega) (by omega), hAi]; exact h) hfr hbk (fun j hj => by
            have e8 : cs i = se := (nI_eq (by have := hcv i hi; omega) (by omega)).mp c_34
            by_cases e9 : j = i
            · rw [e9, if_pos ⟨by omega, e8⟩]; exact if_pos rfl
            · rw [show updN sb1 i tl j = sb1 j from if_neg e9, hsb j hj]; exact ite_congr (propext ⟨fun z => ⟨by omega, z.2⟩, fun z => ⟨by omega, z.2⟩⟩) (fun _ => rfl) (fun _ => rfl))
          rw [allN_t c_34 (by have := hcv i hi; omega) (by omega)] at h9
          exact g_lv2 [(0, .ref x), (1, .int (nI se)), (2, .int (nI ((allN cs se (dvN sN rN) i) + (dvN sN rN) i))), (3, .int (nI (i + 1)))] rfl h9
  refine g_iconst C 0 dX9_findDues_0 (by rfl) ?_
  refine g_istore_n C dX9_findDues_1 (by decide) ?_
  refine g_iconst C 0 dX9_findDues_2 (by rfl) ?_
  refine g_istore_n C dX9_findDues_3 (by decide) ?_
  exact g_lv2 [(0, .ref x), (1, .int (nI se)), (2, .int (nI 0)), (3, .int (nI 0))] rfl (loop nC 0 w sb (by omega) h FrR.rf Kp.rf (fun j hj => (if_neg (fun z => by omega)).symm))
end DUES37
