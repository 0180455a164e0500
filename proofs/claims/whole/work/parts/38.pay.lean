section PAY38
theorem updA_comm {A : Nat → Nat → Int32} {k j k' j' : Nat} {v v' : Int32} (h : k ≠ k' ∨ j ≠ j') : updA (updA A k j v) k' j' v' = updA (updA A k' j' v') k j v := by
  funext x y
  unfold updA
  by_cases e1 : x = k ∧ y = j
  · rw [if_pos e1, if_neg (fun z => by omega), if_pos e1]
  · rw [if_neg e1, if_neg e1]
/-- trust is 0 to 100 -/
def TRB (A : Nat → Nat → Int32) (nF : Nat) : Prop := ∀ f, f < nF → ∃ t : Nat, t ≤ 100 ∧ A 13 f = nI t
theorem truE {t : Nat} {x pd : Int32} (ht : t ≤ 100) : truK (nI t) (x - 1) pd = truV (nI t) x pd ∧ ∃ u : Nat, u ≤ 100 ∧ truV (nI t) x pd = nI u := by
  have a10 : nI t + 10 = nI (t + 10) := nI_add t 10
  have key : ∀ s : Nat, s ≤ 110 → (if nI s < 0 then (0 : Int32) else if 100 < nI s then 100 else nI s) = (if 100 < nI s then 100 else nI s) ∧ ∃ u : Nat, u ≤ 100 ∧ (if nI s < 0 then (0 : Int32) else if 100 < nI s then 100 else nI s) = nI u := by
    intro s hs
    have h1 : ¬ nI s < 0 := nI_pos (by omega)
    rw [if_neg h1]
    refine ⟨rfl, ?_⟩
    by_cases c : 100 < s
    · exact ⟨100, by omega, if_pos (nI_lt (a := 100) c (by omega))⟩
    · exact ⟨s, by omega, if_neg (nI_nlt (a := 100) (b := s) (by omega) (by omega))⟩
  unfold truK truV
  by_cases c1 : 0 < pd
  · rw [if_pos c1, if_pos c1, a10]
    obtain ⟨k1, k2⟩ := key (t + 10) (by omega)
    exact ⟨k1.symm, k2⟩
  · rw [if_neg c1, if_neg c1]
    by_cases c2 : 30 < x - 1
    · rw [if_pos c2, if_pos c2, show nI t + -20 = nI t - 20 from (Int32.sub_eq_add_neg ..).symm]
      by_cases c3 : 20 ≤ t
      · rw [show nI t - 20 = nI (t - 20) from pk_sub c3]
        obtain ⟨k1, k2⟩ := key (t - 20) (by omega)
        rw [k1]
        have h1 : ¬ nI (t - 20) < 0 := nI_pos (by omega)
        have h2 : ¬ 100 < nI (t - 20) := nI_nlt (a := 100) (b := t - 20) (by omega) (by omega)
        rw [if_neg h1, if_neg h2]
        exact ⟨rfl, t - 20, by omega, rfl⟩
      · have h1 : nI t - 20 < 0 := by
          rw [i32_lt, show (nI t - 20 : Int32).toInt = (t : Int) - 20 from pk_sub_toInt (b := 20) (by omega) (by omega)]
          show (t : Int) - 20 < 0
          omega
        rw [if_pos h1, if_pos h1]
        exact ⟨rfl, 0, by omega, rfl⟩
    · rw [if_neg c2, if_neg c2, Int32.add_zero]
      obtain ⟨k1, k2⟩ := key t (by omega)
      have h2 : ¬ 100 < nI t := nI_nlt (a := 100) (b := t) (by omega) (by omega)
      refine ⟨?_, k2⟩
      rw [k1, if_neg h2]
theorem TRB.upd {A : Nat → Nat → Int32} {nF f : Nat} {x pd : Int32} (h : TRB A nF) (hf : f < nF) : TRB (updA A 13 f (truV (A 13 f) x pd)) nF := fun g hg => by
  by_cases e : g = f
  · subst e
    obtain ⟨t, ht, e2⟩ := h g hg
    rw [updA_eq, e2]
    exact (truE ht).2
  · rw [updA_ne (Or.inr e)]
    exact h g hg
theorem TRB.ne {A : Nat → Nat → Int32} {nF k j : Nat} {v : Int32} (h : TRB A nF) (hk : 13 ≠ k) : TRB (updA A k j v) nF := fun g hg => by
  rw [updA_ne (Or.inl hk)]
  exact h g hg
theorem payS_TRB {A : Nat → Nat → Int32} {nF k f se its : Nat} (h : TRB A nF) (hf : f < nF) : TRB (payS A k f se its) nF := fun g hg => by
  have e : payS A k f se its 13 g = updA A 13 f (truV (A 13 f) (A 18 (20 * f + se)) (nI its)) 13 g := by
    unfold payS
    by_cases e : g = f
    · subst e; rw [updA_eq, updA_eq]
    · rw [updA_ne (Or.inr e), updA_ne (Or.inl (by decide)), updA_ne (Or.inl (by decide)), updA_ne (Or.inl (by decide)), updA_ne (Or.inl (by decide)), updA_ne (Or.inr e)]
  rw [e]
  exact h.upd hf g hg
theorem spF_TRB {A : Nat → Nat → Int32} {nF n se cap all : Nat} {cf cs dv : Nat → Nat} (h : TRB A nF) (hcf : ∀ k, k < n → cf k < nF) : ∀ i, i ≤ n → TRB (spF cf cs se dv cap all A i).1 nF
  | 0, _ => h
  | i + 1, hi => by
    have ih := spF_TRB (cs := cs) (dv := dv) (se := se) (cap := cap) (all := all) h hcf i (by omega)
    rw [spF]
    split
    · exact payS_TRB ih (hcf i (by omega))
    · exact ih
theorem dX9_payOut_0 : decode cX9_payOut 0 = .ok (.iconst 0, 1) := by decide +kernel
theorem dX9_payOut_1 : decode cX9_payOut 1 = .ok (.istore_n 3, 1) := by decide +kernel
theorem dX9_payOut_2 : decode cX9_payOut 2 = .ok (.iconst 0, 1) := by decide +kernel
theorem dX9_payOut_3 : decode cX9_payOut 3 = .ok (.istore 4, 2) := by decide +kernel
theorem dX9_payOut_5 : decode cX9_payOut 5 = .ok (.iload 4, 2) := by decide +kernel
theorem dX9_payOut_7 : decode cX9_payOut 7 = .ok (.aload_n 0, 1) := by decide +kernel
theorem dX9_payOut_8 : decode cX9_payOut 8 = .ok (.getfield 33, 3) := by decide +kernel
theorem dX9_payOut_11 : decode cX9_payOut 11 = .ok (.invokevirtual 82, 3) := by decide +kernel
theorem dX9_payOut_14 : decode cX9_payOut 14 = .ok (.if_icmp .ge 87, 3) := by decide +kernel
theorem dX9_payOut_17 : decode cX9_payOut 17 = .ok (.aload_n 0, 1) := by decide +kernel
theorem dX9_payOut_18 : decode cX9_payOut 18 = .ok (.getfield 33, 3) := by decide +kernel
theorem dX9_payOut_21 : decode cX9_payOut 21 = .ok (.iload 4, 2) := by decide +kernel
theorem dX9_payOut_23 : decode cX9_payOut 23 = .ok (.invokevirtual 292, 3) := by decide +kernel
theorem dX9_payOut_26 : decode cX9_payOut 26 = .ok (.checkcast 214, 3) := by decide +kernel
theorem dX9_payOut_29 : decode cX9_payOut 29 = .ok (.astore 5, 2) := by decide +kernel
theorem dX9_payOut_31 : decode cX9_payOut 31 = .ok (.aload 5, 2) := by decide +kernel
theorem dX9_payOut_33 : decode cX9_payOut 33 = .ok (.getfield 324, 3) := by decide +kernel
theorem dX9_payOut_36 : decode cX9_payOut 36 = .ok (.iload_n 1, 1) := by decide +kernel
theorem dX9_payOut_37 : decode cX9_payOut 37 = .ok (.if_icmp .ne 58, 3) := by decide +kernel
theorem dX9_payOut_40 : decode cX9_payOut 40 = .ok (.aload 5, 2) := by decide +kernel
theorem dX9_payOut_42 : decode cX9_payOut 42 = .ok (.aload_n 0, 1) := by decide +kernel
theorem dX9_payOut_43 : decode cX9_payOut 43 = .ok (.aload 5, 2) := by decide +kernel
theorem dX9_payOut_45 : decode cX9_payOut 45 = .ok (.getfield 358, 3) := by decide +kernel
theorem dX9_payOut_48 : decode cX9_payOut 48 = .ok (.iload_n 2, 1) := by decide +kernel
theorem dX9_payOut_49 : decode cX9_payOut 49 = .ok (.invokevirtual 361, 3) := by decide +kernel
theorem dX9_payOut_52 : decode cX9_payOut 52 = .ok (.putfield 364, 3) := by decide +kernel
theorem dX9_payOut_55 : decode cX9_payOut 55 = .ok (.aload 5, 2) := by decide +kernel
theorem dX9_payOut_57 : decode cX9_payOut 57 = .ok (.aload 5, 2) := by decide +kernel
theorem dX9_payOut_59 : decode cX9_payOut 59 = .ok (.getfield 320, 3) := by decide +kernel
theorem dX9_payOut_62 : decode cX9_payOut 62 = .ok (.aload 5, 2) := by decide +kernel
theorem dX9_payOut_64 : decode cX9_payOut 64 = .ok (.getfield 364, 3) := by decide +kernel
theorem dX9_payOut_67 : decode cX9_payOut 67 = .ok (.invokevirtual 365, 3) := by decide +kernel
theorem dX9_payOut_70 : decode cX9_payOut 70 = .ok (.putfield 368, 3) := by decide +kernel
theorem dX9_payOut_73 : decode cX9_payOut 73 = .ok (.aload 5, 2) := by decide +kernel
theorem dX9_payOut_75 : decode cX9_payOut 75 = .ok (.getfield 320, 3) := by decide +kernel
theorem dX9_payOut_78 : decode cX9_payOut 78 = .ok (.aload 5, 2) := by decide +kernel
theorem dX9_payOut_80 : decode cX9_payOut 80 = .ok (.getfield 364, 3) := by decide +kernel
theorem dX9_payOut_83 : decode cX9_payOut 83 = .ok (.iload_n 1, 1) := by decide +kernel
theorem dX9_payOut_84 : decode cX9_payOut 84 = .ok (.invokevirtual 371, 3) := by decide +kernel
theorem dX9_payOut_87 : decode cX9_payOut 87 = .ok (.iload_n 3, 1) := by decide +kernel
theorem dX9_payOut_88 : decode cX9_payOut 88 = .ok (.aload 5, 2) := by decide +kernel
theorem dX9_payOut_90 : decode cX9_payOut 90 = .ok (.getfield 364, 3) := by decide +kernel
theorem dX9_payOut_93 : decode cX9_payOut 93 = .ok (.iadd, 1) := by decide +kernel
theorem dX9_payOut_94 : decode cX9_payOut 94 = .ok (.istore_n 3, 1) := by decide +kernel
theorem dX9_payOut_95 : decode cX9_payOut 95 = .ok (.iinc 4 1, 3) := by decide +kernel
theorem dX9_payOut_98 : decode cX9_payOut 98 = .ok (.goto (-93), 3) := by decide +kernel
theorem dX9_payOut_101 : decode cX9_payOut 101 = .ok (.iload_n 3, 1) := by decide +kernel
theorem dX9_payOut_102 : decode cX9_payOut 102 = .ok (.ireturn, 1) := by decide +kernel
set_option maxHeartbeats 1000000 in
set_option maxRecDepth 100000 in
theorem c_X9_payOut (de : Nat) (w : Wd) (x : Nat) (A : Nat → Nat → Int32) (F : Nat → Int32) (nS nP nF nC tl : Nat) (ho cf cp cs sb pn : Nat → Nat) (dn : Nat → Nat → Nat) (ch : Nat → Nat → List (Nat × Int32)) (ca : Nat → Nat → Nat) (h : RC0 w de x A F nS nP nF nC tl ho cf cp cs sb pn dn ch ca) (hC : CVA A nC nF nS cf cs ho) (hTR : TRB A nF) (se : Nat) (hse : se < 20) (dv : Nat → Nat) (hdv : ∀ k, k < nC → dv k ≤ 2000 ∧ (cs k = se → A 23 (10 * k + 7) = nI (dv k))) (al rt ly : Nat) (hal : al ≤ 120000) (hrt : F 21 = nI rt) (hly : F 22 = nI ly) (hr9 : rt ≤ 99999) (hl9 : ly ≤ 99999) : Ct yX9_payOut cX9_payOut 6 (some .int) 3 64 0 0 de [.ref x, .int (nI se), .int (nI al)] w (fun r w' => r = some (.int (nI (spF cf cs se dv (rt + ly) al A nC).2)) ∧ RC0 w' de x (spF cf cs se dv (rt + ly) al A nC).1 F nS nP nF nC tl ho cf cp cs sb pn dn ch ca ∧ FrR w w' ∧ Kp [2] w w') := by
  refine Ct.mk (by decide +kernel) [(0, .ref x), (1, .int (nI se)), (2, .int (nI al))] rfl (Nat.le_of_ble_eq_true rfl) ?_
  intro p l e R s m args below meth c D cy z C hnm
  obtain ⟨h60, h16, h5, hcv, hho⟩ := id hC
  have loop : ∀ (k i : Nat) (w1 : Wd), i + k = nC → RC0 w1 de x (spF cf cs se dv (rt + ly) al A i).1 F nS nP nF nC tl ho cf cp cs sb pn dn ch ca → FrR w w1 → Kp [2] w w1 → G p l e R s m args below meth c D cy z 6 w1 0 0 5 [(0, .ref x), (1, .int (nI se)), (2, .int (nI al)), (3, .int (nI (spF cf cs se dv (rt + ly) al A i).2)), (4, .int (nI i))] [] (QM below args s D cy z (fun r w' => r = some (.int (nI (spF cf cs se dv (rt + ly) al A nC).2)) ∧ RC0 w' de x (spF cf cs se dv (rt + ly) al A nC).1 F nS nP nF nC tl ho cf cp cs sb pn dn ch ca ∧ FrR w w' ∧ Kp [2] w w') 0 0) := by
    intro k
    induction k with
    | zero =>
      intro i w1 hik h hfr hbk
      have hi9 : i = nC := by omega
      rw [hi9] at h ⊢
      refine g_iload C dX9_payOut_5 rfl ?_
      refine g_aload_n C dX9_payOut_7 rfl ?_
      refine g_getR (b := (ca 9 6)) C cls_10 11 4 h.1.1 h.1.2.2.2.2.2.1 rfl k_140 dX9_payOut_8 ?_
      refine g_callV C cls_0 61 mt_Jx4a65c_size_8abf5 [] (c_sz de _ 61 1043 KL_co (ca 9 6) nC (ca 8) h.2.2.2.2.2.2.1.1) h.2.2.2.2.2.2.1.1.1 (by decide) k_260 rfl rfl (Nat.le_of_ble_eq_true rfl) (by decide) (by decide) (by decide) (by decide) dX9_payOut_11 (fun r_11 w_11 hp_11 => ?_)
      obtain ⟨rfl, rfl⟩ := hp_11
      refine g_icmp_ge C 101 dX9_payOut_14 (by decide) (fun c_14 => ?_) (fun c_14 => ?_)
      · refine g_iload_n C dX9_payOut_101 rfl ?_
        refine g_iret C rfl rfl (by decide) (by decide) dX9_payOut_102 ?_
        exact ⟨rfl, h, hfr, hbk⟩
      · exact absurd (nI_nle_of c_14 (by omega) (by omega)) (by omega)
    | succ k ih =>
      intro i w1 hik h hfr hbk
      have hi : i < nC := by omega
      have hcfi := (hcv i hi).2.1
      have hci := (hcv i hi).2.2.2
      have hC2 := spF_CVA (se := se) (dv := dv) (cap := rt + ly) (all := al) hC i
      have h7i : cs i = se → (spF cf cs se dv (rt + ly) al A i).1 23 (10 * i + 7) = nI (dv i) := fun z => by rw [spF_ne (by omega)]; exact (hdv i hi).2 z
      have hT2 := spF_TRB (cs := cs) (se := se) (dv := dv) (cap := rt + ly) (all := al) (n := nC) hTR (fun k hk => (hcv k hk).2.1) i (by omega)
      generalize hAi : (spF cf cs se dv (rt + ly) al A i) = q at h hC2 h7i hT2 ⊢
      obtain ⟨Ai, ti⟩ := q
      dsimp only at h hC2 h7i hT2 ⊢
      obtain ⟨t9, ht9, hti⟩ := hT2 (cf i) hcfi
      refine g_iload C dX9_payOut_5 rfl ?_
      refine g_aload_n C dX9_payOut_7 rfl ?_
      refine g_getR (b := (ca 9 6)) C cls_10 11 4 h.1.1 h.1.2.2.2.2.2.1 rfl k_140 dX9_payOut_8 ?_
      refine g_callV C cls_0 61 mt_Jx4a65c_size_8abf5 [] (c_sz de _ 61 1043 KL_co (ca 9 6) nC (ca 8) h.2.2.2.2.2.2.1.1) h.2.2.2.2.2.2.1.1.1 (by decide) k_260 rfl rfl (Nat.le_of_ble_eq_true rfl) (by decide) (by decide) (by decide) (by decide) dX9_payOut_11 (fun r_11 w_11 hp_11 => ?_)
      obtain ⟨rfl, rfl⟩ := hp_11
      refine g_icmp_ge C 101 dX9_payOut_14 (by decide) (fun c_14 => ?_) (fun c_14 => ?_)
      · exact absurd (nI_le_of c_14 (by omega) (by omega)) (by omega)
      · refine g_aload_n C dX9_payOut_17 rfl ?_
        refine g_getR (b := (ca 9 6)) C cls_10 11 4 h.1.1 h.1.2.2.2.2.2.1 rfl k_140 dX9_payOut_18 ?_
        refine g_iload C dX9_payOut_21 rfl ?_
        refine g_callV C cls_0 61 mt_Jx4a65c_get_915e3 [.int (nI i)] (c_Jx4a65c_get_915e3 de _ 61 1043 KL_co (ca 9 6) nC i (ca 8) h.2.2.2.2.2.2.1.1 hi) h.2.2.2.2.2.2.1.1.1 (by decide) k_399 rfl rfl (Nat.le_of_ble_eq_true rfl) (by decide) (by decide) (by decide) (by decide) dX9_payOut_23 (fun r_23 w_23 hp_23 => ?_)
        obtain ⟨rfl, rfl⟩ := hp_23
        refine g_cast C cls_2 3 (h.2.2.2.2.2.2.1.2 i hi).1 (by decide) k_621 dX9_payOut_26 ?_
        refine g_astore C dX9_payOut_29 (by decide) ?_
        refine g_aload C dX9_payOut_31 rfl ?_
        refine g_getI C cls_2 3 3 (h.2.2.2.2.2.2.1.2 i hi).1 rfl k_698 dX9_payOut_33 ?_
        rw [(h.2.2.2.2.2.2.1.2 i hi).2.2.2.2.1, (hC2.2.2.2.1 i hi).2.2.1]
        refine g_iload_n C dX9_payOut_36 rfl ?_
        refine g_icmp_ne C 95 dX9_payOut_37 (by decide) (fun c_37 => ?_) (fun c_37 => ?_)
        · refine g_iinc C dX9_payOut_95 rfl (nI_1 i) (by decide) ?_
          refine g_goto C 5 dX9_payOut_98 (by decide) ?_
          have h9 := ih (i + 1) w1 (by omega) (by rw [spF_f c_37, hAi]; exact h) hfr hbk
          rw [spF_f c_37, hAi] at h9
          exact g_lv2 [(0, .ref x), (1, .int (nI se)), (2, .int (nI al)), (3, .int (nI ti)), (4, .int (nI (i + 1)))] rfl h9
        · refine g_aload C dX9_payOut_40 rfl ?_
          refine g_aload_n C dX9_payOut_42 rfl ?_
          refine g_aload C dX9_payOut_43 rfl ?_
          refine g_getI C cls_2 3 8 (h.2.2.2.2.2.2.1.2 i hi).1 rfl k_706 dX9_payOut_45 ?_
          rw [(h.2.2.2.2.2.2.1.2 i hi).2.2.2.2.2.2.2.2.2.1, h7i ((nI_eq (by omega) (by omega)).mp c_37)]
          refine g_iload_n C dX9_payOut_48 rfl ?_
          refine g_callV C cls_10 11 mt_X9_cutToCap [.int (nI (dv i)), .int (nI al)] (c_X9_cutToCap de _ x (dv i) al rt ly h.1.1 (h.1.2.2.2.2.2.2.2.2.2.2.2.1.trans hrt) (h.1.2.2.2.2.2.2.2.2.2.2.2.2.trans hly) (hdv i hi).1 hal hr9 hl9) h.1.1 (by decide) k_758 rfl rfl (Nat.le_of_ble_eq_true rfl) (by decide) (by decide) (by decide) (by decide) dX9_payOut_49 (fun r_49 w_49 hp_49 => ?_)
          obtain ⟨rfl, rfl⟩ := hp_49
          refine g_putI C cls_2 3 9 (h.2.2.2.2.2.2.1.2 i hi).1 rfl (Or.inl rfl) rfl rfl k_708 dX9_payOut_52 ?_
          replace hfr := hfr.tr (FrR.pI (h.2.2.2.2.2.2.1.2 i hi).1 (by decide) : FrR _ (pI w1 3 9 (ca 8 i) (nI (cutN (dv i) (rt + ly) al))))
          replace hbk := hbk.tr (Kp.pI (h.2.2.2.2.2.2.1.2 i hi).1 (by decide) : Kp [2] _ (pI w1 3 9 (ca 8 i) (nI (cutN (dv i) (rt + ly) al))))
          replace h := h.cov9 hi (nI (cutN (dv i) (rt + ly) al))
          generalize pI w1 3 9 (ca 8 i) (nI (cutN (dv i) (rt + ly) al)) = w2 at h hfr hbk ⊢
          refine g_aload C dX9_payOut_55 rfl ?_
          refine g_aload C dX9_payOut_57 rfl ?_
          refine g_getR (b := (ca 6 (cf i))) C cls_2 3 0 (h.2.2.2.2.2.2.1.2 i hi).1 (h.2.2.2.2.2.2.1.2 i hi).2.1 rfl k_693 dX9_payOut_59 ?_
          refine g_aload C dX9_payOut_62 rfl ?_
          refine g_getI C cls_2 3 9 (h.2.2.2.2.2.2.1.2 i hi).1 rfl k_708 dX9_payOut_64 ?_
          rw [(h.2.2.2.2.2.2.1.2 i hi).2.2.2.2.2.2.2.2.2.2.1, updA_eq]
          refine g_callV C cls_3 4 mt_X2_receive [.int (nI (cutN (dv i) (rt + ly) al))] (c_X2_receive de _ (ca 6 (cf i)) (nI (cutN (dv i) (rt + ly) al)) (h.2.2.2.2.2.1.2 (cf i) hcfi).1) (h.2.2.2.2.2.1.2 (cf i) hcfi).1 (by decide) k_762 rfl rfl (Nat.le_of_ble_eq_true rfl) (by decide) (by decide) (by decide) (by decide) dX9_payOut_67 (fun r_67 w_67 hp_67 => ?_)
          obtain ⟨rfl, rfl⟩ := hp_67
          rw [(h.2.2.2.2.2.1.2 (cf i) hcfi).2.2.2.2.2.2.2.2.1.trans (updA_ne (Or.inl (by decide)) : (updA Ai 23 (10 * i + 8) (nI (cutN (dv i) (rt + ly) al))) 14 (cf i) = Ai 14 (cf i)), (h.2.2.2.2.2.1.2 (cf i) hcfi).2.2.2.2.2.2.2.2.2.1.trans (updA_ne (Or.inl (by decide)) : (updA Ai 23 (10 * i + 8) (nI (cutN (dv i) (rt + ly) al))) 15 (cf i) = Ai 15 (cf i))]
          replace hfr := hfr.tr ((FrR.pI (h.2.2.2.2.2.1.2 (cf i) hcfi).1 (by decide) : FrR _ (pI w2 4 4 (ca 6 (cf i)) (Ai 14 (cf i) - (if (nI (cutN (dv i) (rt + ly) al)) < Ai 14 (cf i) then (nI (cutN (dv i) (rt + ly) al)) else Ai 14 (cf i))))).tr (FrR.pI (show kd (pI w2 4 4 (ca 6 (cf i)) (Ai 14 (cf i) - (if (nI (cutN (dv i) (rt + ly) al)) < Ai 14 (cf i) then (nI (cutN (dv i) (rt + ly) al)) else Ai 14 (cf i)))) (ca 6 (cf i)) = 4 from (h.2.2.2.2.2.1.2 (cf i) hcfi).1) (by decide) : FrR _ (pI (pI w2 4 4 (ca 6 (cf i)) (Ai 14 (cf i) - (if (nI (cutN (dv i) (rt + ly) al)) < Ai 14 (cf i) then (nI (cutN (dv i) (rt + ly) al)) else Ai 14 (cf i)))) 4 5 (ca 6 (cf i)) (Ai 15 (cf i) + ((nI (cutN (dv i) (rt + ly) al)) - (if (nI (cutN (dv i) (rt + ly) al)) < Ai 14 (cf i) then (nI (cutN (dv i) (rt + ly) al)) else Ai 14 (cf i)))))))
          replace hbk := hbk.tr ((Kp.pI (h.2.2.2.2.2.1.2 (cf i) hcfi).1 (by decide) : Kp [2] _ (pI w2 4 4 (ca 6 (cf i)) (Ai 14 (cf i) - (if (nI (cutN (dv i) (rt + ly) al)) < Ai 14 (cf i) then (nI (cutN (dv i) (rt + ly) al)) else Ai 14 (cf i))))).tr (Kp.pI (show kd (pI w2 4 4 (ca 6 (cf i)) (Ai 14 (cf i) - (if (nI (cutN (dv i) (rt + ly) al)) < Ai 14 (cf i) then (nI (cutN (dv i) (rt + ly) al)) else Ai 14 (cf i)))) (ca 6 (cf i)) = 4 from (h.2.2.2.2.2.1.2 (cf i) hcfi).1) (by decide) : Kp [2] _ (pI (pI w2 4 4 (ca 6 (cf i)) (Ai 14 (cf i) - (if (nI (cutN (dv i) (rt + ly) al)) < Ai 14 (cf i) then (nI (cutN (dv i) (rt + ly) al)) else Ai 14 (cf i)))) 4 5 (ca 6 (cf i)) (Ai 15 (cf i) + ((nI (cutN (dv i) (rt + ly) al)) - (if (nI (cutN (dv i) (rt + ly) al)) < Ai 14 (cf i) then (nI (cutN (dv i) (rt + ly) al)) else Ai 14 (cf i)))))))
          replace h := (h.far4 hcfi (Ai 14 (cf i) - (if (nI (cutN (dv i) (rt + ly) al)) < Ai 14 (cf i) then (nI (cutN (dv i) (rt + ly) al)) else Ai 14 (cf i)))).far5 hcfi (Ai 15 (cf i) + ((nI (cutN (dv i) (rt + ly) al)) - (if (nI (cutN (dv i) (rt + ly) al)) < Ai 14 (cf i) then (nI (cutN (dv i) (rt + ly) al)) else Ai 14 (cf i))))
          generalize (pI (pI w2 4 4 (ca 6 (cf i)) (Ai 14 (cf i) - (if (nI (cutN (dv i) (rt + ly) al)) < Ai 14 (cf i) then (nI (cutN (dv i) (rt + ly) al)) else Ai 14 (cf i)))) 4 5 (ca 6 (cf i)) (Ai 15 (cf i) + ((nI (cutN (dv i) (rt + ly) al)) - (if (nI (cutN (dv i) (rt + ly) al)) < Ai 14 (cf i) then (nI (cutN (dv i) (rt + ly) al)) else Ai 14 (cf i))))) = w3 at h hfr hbk ⊢
          refine g_putI C cls_2 3 10 (h.2.2.2.2.2.2.1.2 i hi).1 rfl (Or.inl rfl) rfl rfl k_710 dX9_payOut_70 ?_
          replace hfr := hfr.tr (FrR.pI (h.2.2.2.2.2.2.1.2 i hi).1 (by decide) : FrR _ (pI w3 3 10 (ca 8 i) (if (nI (cutN (dv i) (rt + ly) al)) < Ai 14 (cf i) then (nI (cutN (dv i) (rt + ly) al)) else Ai 14 (cf i))))
          replace hbk := hbk.tr (Kp.pI (h.2.2.2.2.2.2.1.2 i hi).1 (by decide) : Kp [2] _ (pI w3 3 10 (ca 8 i) (if (nI (cutN (dv i) (rt + ly) al)) < Ai 14 (cf i) then (nI (cutN (dv i) (rt + ly) al)) else Ai 14 (cf i))))
          replace h := h.cov10 hi (if (nI (cutN (dv i) (rt + ly) al)) < Ai 14 (cf i) then (nI (cutN (dv i) (rt + ly) al)) else Ai 14 (cf i))
          generalize pI w3 3 10 (ca 8 i) (if (nI (cutN (dv i) (rt + ly) al)) < Ai 14 (cf i) then (nI (cutN (dv i) (rt + ly) al)) else Ai 14 (cf i)) = w4 at h hfr hbk ⊢
          refine g_aload C dX9_payOut_73 rfl ?_
          refine g_getR (b := (ca 6 (cf i))) C cls_2 3 0 (h.2.2.2.2.2.2.1.2 i hi).1 (h.2.2.2.2.2.2.1.2 i hi).2.1 rfl k_693 dX9_payOut_75 ?_
          refine g_aload C dX9_payOut_78 rfl ?_
          refine g_getI C cls_2 3 9 (h.2.2.2.2.2.2.1.2 i hi).1 rfl k_708 dX9_payOut_80 ?_
          rw [(h.2.2.2.2.2.2.1.2 i hi).2.2.2.2.2.2.2.2.2.2.1, updA_ne (by omega), updA_ne (by omega), updA_ne (by omega), updA_eq]
          refine g_iload_n C dX9_payOut_83 rfl ?_
          refine g_callV C cls_3 4 mt_X2_judge [.int (nI (cutN (dv i) (rt + ly) al)), .int (nI se)] (c_X2_judge de _ (ca 6 (cf i)) (ca 7 (cf i)) (h.2.2.2.2.2.1.2 (cf i) hcfi).1 (h.2.2.2.2.2.1.2 (cf i) hcfi).2.2.2.1 (h.2.2.2.2.2.1.2 (cf i) hcfi).2.2.2.2.1 (h.2.2.2.2.2.1.2 (cf i) hcfi).2.2.2.2.2.1 se hse (nI (cutN (dv i) (rt + ly) al))) (h.2.2.2.2.2.1.2 (cf i) hcfi).1 (by decide) k_767 rfl rfl (Nat.le_of_ble_eq_true rfl) (by decide) (by decide) (by decide) (by decide) dX9_payOut_84 (fun r_84 w_84 hp_84 => ?_)
          obtain ⟨rfl, rfl⟩ := hp_84
          rw [show fI w4 4 3 (ca 6 (cf i)) = Ai 13 (cf i) from (h.2.2.2.2.2.1.2 (cf i) hcfi).2.2.2.2.2.2.2.1.trans (by iterate 4 rw [updA_ne (k' := 13) (Or.inl (by decide))]), show aI w4 1030 (ca 7 (cf i)) se = Ai 18 (20 * cf i + se) - 1 from ((h.2.2.2.2.2.1.2 (cf i) hcfi).2.2.2.2.2.2.1 se hse).trans (by iterate 4 rw [updA_ne (k' := 18) (Or.inl (by decide))]), hti, (truE ht9).1, ← hti]
          replace hfr := hfr.tr (FrR.pI (h.2.2.2.2.2.1.2 (cf i) hcfi).1 (by decide) : FrR _ (pI w4 4 3 (ca 6 (cf i)) (truV (Ai 13 (cf i)) (Ai 18 (20 * cf i + se)) (nI (cutN (dv i) (rt + ly) al)))))
          replace hbk := hbk.tr (Kp.pI (h.2.2.2.2.2.1.2 (cf i) hcfi).1 (by decide) : Kp [2] _ (pI w4 4 3 (ca 6 (cf i)) (truV (Ai 13 (cf i)) (Ai 18 (20 * cf i + se)) (nI (cutN (dv i) (rt + ly) al)))))
          replace h := h.far3 hcfi (truV (Ai 13 (cf i)) (Ai 18 (20 * cf i + se)) (nI (cutN (dv i) (rt + ly) al)))
          generalize pI w4 4 3 (ca 6 (cf i)) (truV (Ai 13 (cf i)) (Ai 18 (20 * cf i + se)) (nI (cutN (dv i) (rt + ly) al))) = w5 at h hfr hbk ⊢
          refine g_iload_n C dX9_payOut_87 rfl ?_
          refine g_aload C dX9_payOut_88 rfl ?_
          refine g_getI C cls_2 3 9 (h.2.2.2.2.2.2.1.2 i hi).1 rfl k_708 dX9_payOut_90 ?_
          rw [(h.2.2.2.2.2.2.1.2 i hi).2.2.2.2.2.2.2.2.2.2.1, updA_ne (by omega), updA_ne (by omega), updA_ne (by omega), updA_ne (by omega), updA_eq]
          refine g_iadd C dX9_payOut_93 ?_
          rw [nI_add]
          refine g_istore_n C dX9_payOut_94 (by decide) ?_
          refine g_iinc C dX9_payOut_95 rfl (nI_1 i) (by decide) ?_
          refine g_goto C 5 dX9_payOut_98 (by decide) ?_
          have e9 : (updA (updA (updA (updA (updA Ai 23 (10 * i + 8) (nI (cutN (dv i) (rt + ly) al))) 14 (cf i) (Ai 14 (cf i) - (if (nI (cutN (dv i) (rt + ly) al)) < Ai 14 (cf i) then (nI (cutN (dv i) (rt + ly) al)) else Ai 14 (cf i)))) 15 (cf i) (Ai 15 (cf i) + ((nI (cutN (dv i) (rt + ly) al)) - (if (nI (cutN (dv i) (rt + ly) al)) < Ai 14 (cf i) then (nI (cutN (dv i) (rt + ly) al)) else Ai 14 (cf i))))) 23 (10 * i + 9) (if (nI (cutN (dv i) (rt + ly) al)) < Ai 14 (cf i) then (nI (cutN (dv i) (rt + ly) al)) else Ai 14 (cf i))) 13 (cf i) (truV (Ai 13 (cf i)) (Ai 18 (20 * cf i + se)) (nI (cutN (dv i) (rt + ly) al)))) = payS Ai i (cf i) se (cutN (dv i) (rt + ly) al) := by
            unfold payS
            rw [updA_comm (k := 15) (k' := 23) (Or.inl (by decide)), updA_comm (k := 14) (k' := 23) (Or.inl (by decide))]
          rw [e9] at h
          have h9 := ih (i + 1) w5 (by omega) (by rw [spF_t c_37 (by omega) (by omega), hAi]; exact h) hfr hbk
          rw [spF_t c_37 (by omega) (by omega), hAi] at h9
          exact g_lv2 [(0, .ref x), (1, .int (nI se)), (2, .int (nI al)), (3, .int (nI (ti + cutN (dv i) (rt + ly) al))), (4, .int (nI (i + 1)))] rfl h9
  refine g_iconst C 0 dX9_payOut_0 (by rfl) ?_
  refine g_istore_n C dX9_payOut_1 (by decide) ?_
  refine g_iconst C 0 dX9_payOut_2 (by rfl) ?_
  refine g_istore C dX9_payOut_3 (by decide) ?_
  exact g_lv2 [(0, .ref x), (1, .int (nI se)), (2, .int (nI al)), (3, .int (nI 0)), (4, .int (nI 0))] rfl (loop nC 0 w (by omega) h FrR.rf Kp.rf)
end PAY38
