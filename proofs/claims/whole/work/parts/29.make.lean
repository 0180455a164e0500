section MAKE29
theorem lstV_c {q : Nat × Int32} {l : List (Nat × Int32)} : lstV (q :: l) = if l = [] then q.2 else lstV l := by
  cases l with
  | nil => rfl
  | cons a l => rfl
theorem fld_nw {w : Wd} {q K n k : Nat} : fI (nw w q K n) K k q = 0 := if_pos rfl
theorem flr_nw {w : Wd} {q K n k : Nat} : fR (nw w q K n) K k q = none := if_pos rfl
theorem RLs_0 {w : Wd} {de Kl Ke a : Nat} {el : Nat → Nat} (h1 : kd w a = Kl) (h2 : fI w Kl 2 a = 0) (h3 : fR w Kl 1 a = some de) : RLs w de Kl Ke a 0 el := ⟨h1, h2, by omega, Or.inl ⟨rfl, h3⟩⟩
theorem RLs.keep {w w' : Wd} {de Kl Ke a n : Nat} {el : Nat → Nat} (h : RLs w de Kl Ke a n el) (h1 : SmA w w' a) (h2 : ∀ r, r ≠ de → fR w Kl 1 a = some r → SmA w w' r) : RLs w' de Kl Ke a n el := by
  obtain ⟨a1, a2, a3, a4⟩ := h
  refine ⟨h1.1.trans a1, (h1.2.2.1 _ _).trans a2, a3, ?_⟩
  rcases a4 with ⟨b1, b2⟩ | ⟨ar, b1, b2, b3, b4, b5, b6, b7⟩
  · exact Or.inl ⟨b1, (h1.2.2.2.1 _ _).trans b2⟩
  · have s := h2 ar b2 b1
    exact Or.inr ⟨ar, (h1.2.2.2.1 _ _).trans b1, b2, s.1.trans b3, by rw [s.2.1]; exact b4, by rw [s.2.1]; exact b5, by rw [s.2.1]; exact b6, fun i hi => by rw [s.2.2.2.2.2.1]; exact b7 i hi⟩
theorem dJ7_fill_53178_0 : decode cJ7_fill_53178 0 = .ok (.iconst 0, 1) := by decide +kernel
theorem dJ7_fill_53178_1 : decode cJ7_fill_53178 1 = .ok (.istore_n 2, 1) := by decide +kernel
theorem dJ7_fill_53178_2 : decode cJ7_fill_53178 2 = .ok (.aload_n 0, 1) := by decide +kernel
theorem dJ7_fill_53178_3 : decode cJ7_fill_53178 3 = .ok (.arraylength, 1) := by decide +kernel
theorem dJ7_fill_53178_4 : decode cJ7_fill_53178 4 = .ok (.istore_n 3, 1) := by decide +kernel
theorem dJ7_fill_53178_5 : decode cJ7_fill_53178 5 = .ok (.iload_n 2, 1) := by decide +kernel
theorem dJ7_fill_53178_6 : decode cJ7_fill_53178 6 = .ok (.iload_n 3, 1) := by decide +kernel
theorem dJ7_fill_53178_7 : decode cJ7_fill_53178 7 = .ok (.if_icmp .ge 13, 3) := by decide +kernel
theorem dJ7_fill_53178_10 : decode cJ7_fill_53178 10 = .ok (.aload_n 0, 1) := by decide +kernel
theorem dJ7_fill_53178_11 : decode cJ7_fill_53178 11 = .ok (.iload_n 2, 1) := by decide +kernel
theorem dJ7_fill_53178_12 : decode cJ7_fill_53178 12 = .ok (.iload_n 1, 1) := by decide +kernel
theorem dJ7_fill_53178_13 : decode cJ7_fill_53178 13 = .ok (.iastore, 1) := by decide +kernel
theorem dJ7_fill_53178_14 : decode cJ7_fill_53178 14 = .ok (.iinc 2 1, 3) := by decide +kernel
theorem dJ7_fill_53178_17 : decode cJ7_fill_53178 17 = .ok (.goto (-12), 3) := by decide +kernel
theorem dJ7_fill_53178_20 : decode cJ7_fill_53178 20 = .ok (.return_, 1) := by decide +kernel
set_option maxHeartbeats 1000000 in
set_option maxRecDepth 100000 in
theorem c_J7_fill_53178 (de : Nat) (w : Wd) (Ka ar n : Nat) (v : Int32) (hKa : okA Ka 0 = true) (har : kd w ar = Ka) (hlen : aL w ar = n) (hn : n ≤ 1000) : Ct yJ7_fill_53178 cJ7_fill_53178 4 none 0 0 0 0 de [.ref ar, .int v] w (fun r w' => r = none ∧ ∃ g, w' = stR w Ka ar g ∧ ∀ j, j < n → g j = v) := by
  refine Ct.mk (by decide +kernel) [(0, .ref ar), (1, .int v)] rfl (Nat.le_of_ble_eq_true rfl) ?_
  intro p l e R s m args below meth c D cy z C hnm
  have loop : ∀ (k i : Nat) (g : Nat → Int32), i + k = n → (∀ j, j < i → g j = v) → G p l e R s m args below meth c D cy z 4 (stR w Ka ar g) 0 0 5 [(0, .ref ar), (1, .int v), (2, .int (nI i)), (3, .int (nI n))] [] (QM below args s D cy z (fun r w' => r = none ∧ ∃ g, w' = stR w Ka ar g ∧ ∀ j, j < n → g j = v) 0 0) := by
    intro k
    induction k with
    | zero =>
      intro i g hik hg
      refine g_iload_n C dJ7_fill_53178_5 rfl ?_
      refine g_iload_n C dJ7_fill_53178_6 rfl ?_
      refine g_icmp_ge C 20 dJ7_fill_53178_7 (by decide) (fun c_7 => ?_) (fun c_7 => ?_)
      · refine g_vret C rfl (by decide) (by decide) dJ7_fill_53178_20 ?_
        exact ⟨rfl, g, rfl, fun j hj => hg j (by omega)⟩
      · exact absurd (nI_nle_of c_7 (by omega) (by omega)) (by omega)
    | succ k ih =>
      intro i g hik hg
      refine g_iload_n C dJ7_fill_53178_5 rfl ?_
      refine g_iload_n C dJ7_fill_53178_6 rfl ?_
      refine g_icmp_ge C 20 dJ7_fill_53178_7 (by decide) (fun c_7 => ?_) (fun c_7 => ?_)
      · exact absurd (nI_le_of c_7 (by omega) (by omega)) (by omega)
      · refine g_aload_n C dJ7_fill_53178_10 rfl ?_
        refine g_iload_n C dJ7_fill_53178_11 rfl ?_
        refine g_iload_n C dJ7_fill_53178_12 rfl ?_
        refine g_iast C Ka har hKa (show vp_in (nI i) (aL w ar) by rw [hlen]; exact nI_vp (by omega) (by omega)) dJ7_fill_53178_13 ?_
        refine g_iinc C dJ7_fill_53178_14 rfl (nI_1 i) (by decide) ?_
        refine g_goto C 5 dJ7_fill_53178_17 (by decide) ?_
        have h9 := ih (i + 1) (upd g i v) (by omega) (fun j hj => by by_cases e9 : j = i <;> simp [upd, e9] <;> exact hg j (by omega))
        refine g_eq rfl rfl (w' := stR w Ka ar (upd g i v)) (by rw [nI_tn (by omega)]; exact pAI_stR) ?_
        exact g_lv2 [(0, .ref ar), (1, .int v), (2, .int (nI (i + 1))), (3, .int (nI n))] rfl h9
  refine g_iconst C 0 dJ7_fill_53178_0 (by rfl) ?_
  refine g_istore_n C dJ7_fill_53178_1 (by decide) ?_
  refine g_aload_n C dJ7_fill_53178_2 rfl ?_
  refine g_alen C Ka 0 har hKa (by decide) dJ7_fill_53178_3 ?_
  rw [hlen, show Int32.ofNat n = nI n from rfl]
  refine g_istore_n C dJ7_fill_53178_4 (by decide) ?_
  refine g_eq rfl rfl (w' := stR w Ka ar (aI w Ka ar)) stR_self.symm ?_
  exact g_lv2 [(0, .ref ar), (1, .int v), (2, .int (nI 0)), (3, .int (nI n))] rfl (loop n 0 _ (by omega) (fun j hj => absurd hj (by omega)))
theorem dX7_init_0 : decode cX7_init 0 = .ok (.aload_n 0, 1) := by decide +kernel
theorem dX7_init_1 : decode cX7_init 1 = .ok (.invokespecial 1, 3) := by decide +kernel
theorem dX7_init_4 : decode cX7_init 4 = .ok (.aload_n 0, 1) := by decide +kernel
theorem dX7_init_5 : decode cX7_init 5 = .ok (.iload_n 1, 1) := by decide +kernel
theorem dX7_init_6 : decode cX7_init 6 = .ok (.putfield 7, 3) := by decide +kernel
theorem dX7_init_9 : decode cX7_init 9 = .ok (.aload_n 0, 1) := by decide +kernel
theorem dX7_init_10 : decode cX7_init 10 = .ok (.iload_n 2, 1) := by decide +kernel
theorem dX7_init_11 : decode cX7_init 11 = .ok (.putfield 13, 3) := by decide +kernel
theorem dX7_init_14 : decode cX7_init 14 = .ok (.aload_n 0, 1) := by decide +kernel
theorem dX7_init_15 : decode cX7_init 15 = .ok (.aload_n 3, 1) := by decide +kernel
theorem dX7_init_16 : decode cX7_init 16 = .ok (.ifnonnull 7, 3) := by decide +kernel
theorem dX7_init_19 : decode cX7_init 19 = .ok (.iload_n 2, 1) := by decide +kernel
theorem dX7_init_20 : decode cX7_init 20 = .ok (.goto 7, 3) := by decide +kernel
theorem dX7_init_27 : decode cX7_init 27 = .ok (.putfield 16, 3) := by decide +kernel
theorem dX7_init_30 : decode cX7_init 30 = .ok (.aload_n 0, 1) := by decide +kernel
theorem dX7_init_31 : decode cX7_init 31 = .ok (.aload_n 3, 1) := by decide +kernel
theorem dX7_init_32 : decode cX7_init 32 = .ok (.putfield 19, 3) := by decide +kernel
theorem dX7_init_35 : decode cX7_init 35 = .ok (.return_, 1) := by decide +kernel
set_option maxHeartbeats 1000000 in
set_option maxRecDepth 100000 in
theorem c0_X7_init (de : Nat) (w : Wd) (a : Nat) (num ten : Int32) (ha : kd w a = 9)  : Ct yX7_init cX7_init 4 none 1 20 0 0 de [.ref a, .int num, .int ten, .null] w (fun r w' => r = none ∧ (∀ b, b ≠ a → SmA w w' b) ∧ kd w' a = 9 ∧ fI w' 9 0 a = num ∧ fI w' 9 1 a = ten ∧ fI w' 9 2 a = ten ∧ fR w' 9 3 a = none) := by
  refine Ct.mk (by decide +kernel) [(0, .ref a), (1, .int num), (2, .int ten), (3, .null)] rfl (Nat.le_of_ble_eq_true rfl) ?_
  intro p l e R s m args below meth c D cy z C hnm
  refine g_aload_n C dX7_init_0 rfl ?_
  refine g_objInit C k_430 k_33 k_34 (Nat.le_of_ble_eq_true rfl) (by decide) dX7_init_1 ?_
  refine g_aload_n C dX7_init_4 rfl ?_
  refine g_iload_n C dX7_init_5 rfl ?_
  refine g_putI C cls_8 9 0 ha rfl (Or.inr ⟨rfl, hnm, rfl⟩) rfl rfl k_431 dX7_init_6 ?_
  refine g_aload_n C dX7_init_9 rfl ?_
  refine g_iload_n C dX7_init_10 rfl ?_
  refine g_putI C cls_8 9 1 ha rfl (Or.inr ⟨rfl, hnm, rfl⟩) rfl rfl k_433 dX7_init_11 ?_
  refine g_aload_n C dX7_init_14 rfl ?_
  refine g_aload_nN C dX7_init_15 rfl ?_
  refine g_ifnonnullN C dX7_init_16 ?_
  refine g_iload_n C dX7_init_19 rfl ?_
  refine g_goto C 27 dX7_init_20 (by decide) ?_
  refine g_putI C cls_8 9 2 ha rfl (Or.inr ⟨rfl, hnm, rfl⟩) rfl rfl k_435 dX7_init_27 ?_
  refine g_aload_n C dX7_init_30 rfl ?_
  refine g_aload_nN C dX7_init_31 rfl ?_
  refine g_putR C cls_8 9 3 none rfl ha rfl (Or.inr ⟨rfl, hnm, rfl⟩) rfl rfl k_437 dX7_init_32 ?_
  refine g_vret C rfl (by decide) (by decide) dX7_init_35 ?_
  exact ⟨rfl, fun b hba => by repeat (first | exact SmA.rf | refine SmA.tr ?_ (SmA.pI hba) | refine SmA.tr ?_ (SmA.pR hba) | refine SmA.tr ?_ (SmA.pAR hbl) | refine SmA.tr ?_ (SmA.nw (fun z => hb (by rw [z]; assumption)))), ha, by simp [fI, fR, pI, pR, up3, kd], by simp [fI, fR, pI, pR, up3, kd], by simp [fI, fR, pI, pR, up3, kd], by simp [fI, fR, pI, pR, up3, kd]⟩
theorem dX7_init_23 : decode cX7_init 23 = .ok (.aload_n 3, 1) := by decide +kernel
theorem dX7_init_24 : decode cX7_init 24 = .ok (.getfield 16, 3) := by decide +kernel
set_option maxHeartbeats 1000000 in
set_option maxRecDepth 100000 in
theorem c1_X7_init (de : Nat) (w : Wd) (a : Nat) (num ten : Int32) (ha : kd w a = 9) (b9 : Nat) (hb9 : kd w b9 = 9) (hne : b9 ≠ a) : Ct yX7_init cX7_init 4 none 1 20 0 0 de [.ref a, .int num, .int ten, .ref b9] w (fun r w' => r = none ∧ (∀ b, b ≠ a → SmA w w' b) ∧ kd w' a = 9 ∧ fI w' 9 0 a = num ∧ fI w' 9 1 a = ten ∧ fI w' 9 2 a = (fI w 9 2 b9) ∧ fR w' 9 3 a = (some b9)) := by
  refine Ct.mk (by decide +kernel) [(0, .ref a), (1, .int num), (2, .int ten), (3, .ref b9)] rfl (Nat.le_of_ble_eq_true rfl) ?_
  intro p l e R s m args below meth c D cy z C hnm
  refine g_aload_n C dX7_init_0 rfl ?_
  refine g_objInit C k_430 k_33 k_34 (Nat.le_of_ble_eq_true rfl) (by decide) dX7_init_1 ?_
  refine g_aload_n C dX7_init_4 rfl ?_
  refine g_iload_n C dX7_init_5 rfl ?_
  refine g_putI C cls_8 9 0 ha rfl (Or.inr ⟨rfl, hnm, rfl⟩) rfl rfl k_431 dX7_init_6 ?_
  refine g_aload_n C dX7_init_9 rfl ?_
  refine g_iload_n C dX7_init_10 rfl ?_
  refine g_putI C cls_8 9 1 ha rfl (Or.inr ⟨rfl, hnm, rfl⟩) rfl rfl k_433 dX7_init_11 ?_
  refine g_aload_n C dX7_init_14 rfl ?_
  refine g_aload_n C dX7_init_15 rfl ?_
  refine g_ifnonnull C 23 dX7_init_16 (by decide) ?_
  refine g_aload_n C dX7_init_23 rfl ?_
  refine g_getI C cls_8 9 2 hb9 rfl k_435 dX7_init_24 ?_
  rw [show fI (pI (pI w 9 0 a num) 9 1 a ten) 9 2 b9 = fI w 9 2 b9 by simp [fI, pI, up3, hne]]
  refine g_putI C cls_8 9 2 ha rfl (Or.inr ⟨rfl, hnm, rfl⟩) rfl rfl k_435 dX7_init_27 ?_
  refine g_aload_n C dX7_init_30 rfl ?_
  refine g_aload_n C dX7_init_31 rfl ?_
  refine g_putR C cls_8 9 3 (some b9) rfl ha rfl (Or.inr ⟨rfl, hnm, rfl⟩) rfl rfl k_437 dX7_init_32 ?_
  refine g_vret C rfl (by decide) (by decide) dX7_init_35 ?_
  exact ⟨rfl, fun b hba => by repeat (first | exact SmA.rf | refine SmA.tr ?_ (SmA.pI hba) | refine SmA.tr ?_ (SmA.pR hba) | refine SmA.tr ?_ (SmA.pAR hbl) | refine SmA.tr ?_ (SmA.nw (fun z => hb (by rw [z]; assumption)))), ha, by simp [fI, fR, pI, pR, up3, kd], by simp [fI, fR, pI, pR, up3, kd], by simp [fI, fR, pI, pR, up3, kd], by simp [fI, fR, pI, pR, up3, kd]⟩
theorem dX6_init_0 : decode cX6_init 0 = .ok (.aload_n 0, 1) := by decide +kernel
theorem dX6_init_1 : decode cX6_init 1 = .ok (.invokespecial 3, 3) := by decide +kernel
theorem dX6_init_4 : decode cX6_init 4 = .ok (.aload_n 0, 1) := by decide +kernel
theorem dX6_init_5 : decode cX6_init 5 = .ok (.sipush 1200, 3) := by decide +kernel
theorem dX6_init_8 : decode cX6_init 8 = .ok (.anewarray 9, 3) := by decide +kernel
theorem dX6_init_11 : decode cX6_init 11 = .ok (.putfield 11, 3) := by decide +kernel
theorem dX6_init_14 : decode cX6_init 14 = .ok (.aload_n 0, 1) := by decide +kernel
theorem dX6_init_15 : decode cX6_init 15 = .ok (.bipush 20, 2) := by decide +kernel
theorem dX6_init_17 : decode cX6_init 17 = .ok (.newarray .boolean, 2) := by decide +kernel
theorem dX6_init_19 : decode cX6_init 19 = .ok (.putfield 17, 3) := by decide +kernel
theorem dX6_init_22 : decode cX6_init 22 = .ok (.aload_n 0, 1) := by decide +kernel
theorem dX6_init_23 : decode cX6_init 23 = .ok (.iload_n 1, 1) := by decide +kernel
theorem dX6_init_24 : decode cX6_init 24 = .ok (.putfield 21, 3) := by decide +kernel
theorem dX6_init_27 : decode cX6_init 27 = .ok (.aload_n 0, 1) := by decide +kernel
theorem dX6_init_28 : decode cX6_init 28 = .ok (.iload_n 2, 1) := by decide +kernel
theorem dX6_init_29 : decode cX6_init 29 = .ok (.putfield 25, 3) := by decide +kernel
theorem dX6_init_32 : decode cX6_init 32 = .ok (.aload_n 0, 1) := by decide +kernel
theorem dX6_init_33 : decode cX6_init 33 = .ok (.iload_n 3, 1) := by decide +kernel
theorem dX6_init_34 : decode cX6_init 34 = .ok (.putfield 28, 3) := by decide +kernel
theorem dX6_init_37 : decode cX6_init 37 = .ok (.return_, 1) := by decide +kernel
set_option maxHeartbeats 1000000 in
set_option maxRecDepth 100000 in
theorem c_X6_init (de : Nat) (w : Wd) (a : Nat) (num xa ya : Int32) (ha : kd w a = 8) : Ct yX6_init cX6_init 4 none 1 20 2 1220 de [.ref a, .int num, .int xa, .int ya] w (fun r w' => r = none ∧ ∃ la lk : Nat, kd w la = 0 ∧ kd w lk = 0 ∧ la ≠ lk ∧ (∀ b, kd w b ≠ 0 → b ≠ a → SmA w w' b) ∧ kd w' a = 8 ∧ fI w' 8 0 a = num ∧ fI w' 8 1 a = xa ∧ fI w' 8 2 a = ya ∧ fR w' 8 3 a = some la ∧ fR w' 8 4 a = some lk ∧ kd w' la = 1002 ∧ aL w' la = 1200 ∧ (∀ j, aR w' 1002 la j = none) ∧ kd w' lk = 1041 ∧ aL w' lk = 20 ∧ ∀ j, aI w' 1041 lk j = 0) := by
  refine Ct.mk (by decide +kernel) [(0, .ref a), (1, .int num), (2, .int xa), (3, .int ya)] rfl (Nat.le_of_ble_eq_true rfl) ?_
  intro p l e R s m args below meth c D cy z C hnm
  refine g_aload_n C dX6_init_0 rfl ?_
  refine g_objInit C k_285 k_33 k_34 (Nat.le_of_ble_eq_true rfl) (by decide) dX6_init_1 ?_
  refine g_aload_n C dX6_init_4 rfl ?_
  refine g_sipush C 1200 dX6_init_5 (by rfl) ?_
  refine g_newT C 1002 1200 rfl k_286 (by decide) (by decide) (by decide) (by decide) (by decide) dX6_init_8 (fun la hla => ?_)
  intro hde
  have ha1 : kd (nw w la 1002 1200) a = 8 := kd_nw ha (by decide) hla
  have hal := nw_ne ha (by decide) hla
  refine g_putR C cls_7 8 3 (some la) rfl (by first | exact ha | exact ha1 | exact ha2) rfl (Or.inr ⟨rfl, hnm, rfl⟩) rfl rfl k_294 dX6_init_11 ?_
  refine g_aload_n C dX6_init_14 rfl ?_
  refine g_bipush C 20 dX6_init_15 (by rfl) ?_
  refine g_newZ C 1041 20 rfl k_308 (by decide) (by decide) (by decide) (by decide) (by decide) dX6_init_17 (fun lk hlk => ?_)
  intro hde2
  have ha2 : kd (nw (pR (nw w la 1002 1200) 8 3 a (some la)) lk 1041 20) a = 8 := kd_nw ha1 (by decide) hlk
  have hak := nw_ne ha1 (by decide) hlk
  have hlk0 : lk ≠ la := fun z => by rw [z] at hlk; have h9 : kd (nw w la 1002 1200) la = 0 := hlk; rw [nw_kd0] at h9; exact absurd h9 (by decide)
  have hlkw : kd w lk = 0 := (nw_kd (w := w) (K := 1002) (n := 1200) hlk0).symm.trans hlk
  refine g_putR C cls_7 8 4 (some lk) rfl (by first | exact ha | exact ha1 | exact ha2) rfl (Or.inr ⟨rfl, hnm, rfl⟩) rfl rfl k_295 dX6_init_19 ?_
  refine g_aload_n C dX6_init_22 rfl ?_
  refine g_iload_n C dX6_init_23 rfl ?_
  refine g_putI C cls_7 8 0 (by first | exact ha | exact ha1 | exact ha2) rfl (Or.inr ⟨rfl, hnm, rfl⟩) rfl rfl k_288 dX6_init_24 ?_
  refine g_aload_n C dX6_init_27 rfl ?_
  refine g_iload_n C dX6_init_28 rfl ?_
  refine g_putI C cls_7 8 1 (by first | exact ha | exact ha1 | exact ha2) rfl (Or.inr ⟨rfl, hnm, rfl⟩) rfl rfl k_290 dX6_init_29 ?_
  refine g_aload_n C dX6_init_32 rfl ?_
  refine g_iload_n C dX6_init_33 rfl ?_
  refine g_putI C cls_7 8 2 (by first | exact ha | exact ha1 | exact ha2) rfl (Or.inr ⟨rfl, hnm, rfl⟩) rfl rfl k_292 dX6_init_34 ?_
  refine g_vret C rfl (by decide) (by decide) dX6_init_37 ?_
  refine ⟨rfl, la, lk, hla, hlkw, hlk0.symm, fun b hb hba => ?_, ha2, by simp [fI, fR, pI, pR, up3, kd, nw, va_up, aL, aI, aR, hal, hak, hlk0, hlk0.symm], by simp [fI, fR, pI, pR, up3, kd, nw, va_up, aL, aI, aR, hal, hak, hlk0, hlk0.symm], by simp [fI, fR, pI, pR, up3, kd, nw, va_up, aL, aI, aR, hal, hak, hlk0, hlk0.symm], by simp [fI, fR, pI, pR, up3, kd, nw, va_up, aL, aI, aR, hal, hak, hlk0, hlk0.symm], by simp [fI, fR, pI, pR, up3, kd, nw, va_up, aL, aI, aR, hal, hak, hlk0, hlk0.symm], by simp [fI, fR, pI, pR, up3, kd, nw, va_up, aL, aI, aR, hal, hak, hlk0, hlk0.symm], by simp [fI, fR, pI, pR, up3, kd, nw, va_up, aL, aI, aR, hal, hak, hlk0, hlk0.symm], by simp [fI, fR, pI, pR, up3, kd, nw, va_up, aL, aI, aR, hal, hak, hlk0, hlk0.symm], by simp [fI, fR, pI, pR, up3, kd, nw, va_up, aL, aI, aR, hal, hak, hlk0, hlk0.symm], by simp [fI, fR, pI, pR, up3, kd, nw, va_up, aL, aI, aR, hal, hak, hlk0, hlk0.symm], by simp [fI, fR, pI, pR, up3, kd, nw, va_up, aL, aI, aR, hal, hak, hlk0, hlk0.symm]⟩
  repeat (first | exact SmA.rf | refine SmA.tr ?_ (SmA.pI hba) | refine SmA.tr ?_ (SmA.pR hba) | refine SmA.tr ?_ (SmA.pAR hbl) | refine SmA.tr ?_ (SmA.nw (fun z => hb (by rw [z]; first | exact hla | exact hlkw))))
theorem dX5_init_0 : decode cX5_init 0 = .ok (.aload_n 0, 1) := by decide +kernel
theorem dX5_init_1 : decode cX5_init 1 = .ok (.invokespecial 3, 3) := by decide +kernel
theorem dX5_init_4 : decode cX5_init 4 = .ok (.aload_n 0, 1) := by decide +kernel
theorem dX5_init_5 : decode cX5_init 5 = .ok (.bipush 60, 2) := by decide +kernel
theorem dX5_init_7 : decode cX5_init 7 = .ok (.newarray .int, 2) := by decide +kernel
theorem dX5_init_9 : decode cX5_init 9 = .ok (.putfield 9, 3) := by decide +kernel
theorem dX5_init_12 : decode cX5_init 12 = .ok (.return_, 1) := by decide +kernel
set_option maxHeartbeats 1000000 in
set_option maxRecDepth 100000 in
theorem c_X5_init (de : Nat) (w : Wd) (a : Nat) (ha : kd w a = 7) : Ct yX5_init cX5_init 1 none 1 20 1 60 de [.ref a] w (fun r w' => r = none ∧ ∃ ta : Nat, kd w ta = 0 ∧ (∀ b, kd w b ≠ 0 → b ≠ a → SmA w w' b) ∧ kd w' a = 7 ∧ fR w' 7 0 a = some ta ∧ kd w' ta = 1010 ∧ aL w' ta = 60) := by
  refine Ct.mk (by decide +kernel) [(0, .ref a)] rfl (Nat.le_of_ble_eq_true rfl) ?_
  intro p l e R s m args below meth c D cy z C hnm
  refine g_aload_n C dX5_init_0 rfl ?_
  refine g_objInit C k_81 k_33 k_34 (Nat.le_of_ble_eq_true rfl) (by decide) dX5_init_1 ?_
  refine g_aload_n C dX5_init_4 rfl ?_
  refine g_bipush C 60 dX5_init_5 (by rfl) ?_
  refine g_newI C 1010 60 rfl k_86 (by decide) (by decide) (by decide) (by decide) (by decide) dX5_init_7 (fun ta hta => ?_)
  intro hde
  have ha1 : kd (nw w ta 1010 60) a = 7 := kd_nw ha (by decide) hta
  have hat := nw_ne ha (by decide) hta
  refine g_putR C cls_6 7 0 (some ta) rfl (by first | exact ha | exact ha1) rfl (Or.inr ⟨rfl, hnm, rfl⟩) rfl rfl k_82 dX5_init_9 ?_
  refine g_vret C rfl (by decide) (by decide) dX5_init_12 ?_
  refine ⟨rfl, ta, hta, fun b hb hba => ?_, ha1, by simp [fI, fR, pI, pR, up3, kd, nw, va_up, aL, aI, aR, hat, hat.symm], by simp [fI, fR, pI, pR, up3, kd, nw, va_up, aL, aI, aR, hat, hat.symm], by simp [fI, fR, pI, pR, up3, kd, nw, va_up, aL, aI, aR, hat, hat.symm]⟩
  repeat (first | exact SmA.rf | refine SmA.tr ?_ (SmA.pI hba) | refine SmA.tr ?_ (SmA.pR hba) | refine SmA.tr ?_ (SmA.pAR hbl) | refine SmA.tr ?_ (SmA.nw (fun z => hb (by rw [z]; assumption))))
theorem dX0_init_0 : decode cX0_init 0 = .ok (.aload_n 0, 1) := by decide +kernel
theorem dX0_init_1 : decode cX0_init 1 = .ok (.invokespecial 1, 3) := by decide +kernel
theorem dX0_init_4 : decode cX0_init 4 = .ok (.aload_n 0, 1) := by decide +kernel
theorem dX0_init_5 : decode cX0_init 5 = .ok (.iconst 0, 1) := by decide +kernel
theorem dX0_init_6 : decode cX0_init 6 = .ok (.putfield 7, 3) := by decide +kernel
theorem dX0_init_9 : decode cX0_init 9 = .ok (.aload_n 0, 1) := by decide +kernel
theorem dX0_init_10 : decode cX0_init 10 = .ok (.iconst 0, 1) := by decide +kernel
theorem dX0_init_11 : decode cX0_init 11 = .ok (.putfield 13, 3) := by decide +kernel
theorem dX0_init_14 : decode cX0_init 14 = .ok (.aload_n 0, 1) := by decide +kernel
theorem dX0_init_15 : decode cX0_init 15 = .ok (.iconst 0, 1) := by decide +kernel
theorem dX0_init_16 : decode cX0_init 16 = .ok (.putfield 16, 3) := by decide +kernel
theorem dX0_init_19 : decode cX0_init 19 = .ok (.aload_n 0, 1) := by decide +kernel
theorem dX0_init_20 : decode cX0_init 20 = .ok (.iconst 0, 1) := by decide +kernel
theorem dX0_init_21 : decode cX0_init 21 = .ok (.putfield 19, 3) := by decide +kernel
theorem dX0_init_24 : decode cX0_init 24 = .ok (.return_, 1) := by decide +kernel
set_option maxHeartbeats 1000000 in
set_option maxRecDepth 100000 in
theorem c_X0_init (de : Nat) (w : Wd) (a : Nat) (ha : kd w a = 2) : Ct yX0_init cX0_init 1 none 1 20 0 0 de [.ref a] w (fun r w' => r = none ∧ (∀ b, b ≠ a → SmA w w' b) ∧ kd w' a = 2 ∧ fI w' 2 0 a = 0 ∧ fI w' 2 1 a = 0 ∧ fI w' 2 2 a = 0 ∧ fI w' 2 3 a = 0) := by
  refine Ct.mk (by decide +kernel) [(0, .ref a)] rfl (Nat.le_of_ble_eq_true rfl) ?_
  intro p l e R s m args below meth c D cy z C hnm
  refine g_aload_n C dX0_init_0 rfl ?_
  refine g_objInit C k_94 k_33 k_34 (Nat.le_of_ble_eq_true rfl) (by decide) dX0_init_1 ?_
  refine g_aload_n C dX0_init_4 rfl ?_
  refine g_iconst C 0 dX0_init_5 (by rfl) ?_
  refine g_putI C cls_1 2 0 ha rfl (Or.inl rfl) rfl rfl k_95 dX0_init_6 ?_
  refine g_aload_n C dX0_init_9 rfl ?_
  refine g_iconst C 0 dX0_init_10 (by rfl) ?_
  refine g_putI C cls_1 2 1 ha rfl (Or.inl rfl) rfl rfl k_97 dX0_init_11 ?_
  refine g_aload_n C dX0_init_14 rfl ?_
  refine g_iconst C 0 dX0_init_15 (by rfl) ?_
  refine g_putI C cls_1 2 2 ha rfl (Or.inl rfl) rfl rfl k_99 dX0_init_16 ?_
  refine g_aload_n C dX0_init_19 rfl ?_
  refine g_iconst C 0 dX0_init_20 (by rfl) ?_
  refine g_putI C cls_1 2 3 ha rfl (Or.inl rfl) rfl rfl k_101 dX0_init_21 ?_
  refine g_vret C rfl (by decide) (by decide) dX0_init_24 ?_
  exact ⟨rfl, fun b hba => by repeat (first | exact SmA.rf | refine SmA.tr ?_ (SmA.pI hba) | refine SmA.tr ?_ (SmA.pR hba) | refine SmA.tr ?_ (SmA.pAR hbl) | refine SmA.tr ?_ (SmA.nw (fun z => hb (by rw [z]; assumption)))), ha, by simp [fI, fR, pI, pR, up3, kd], by simp [fI, fR, pI, pR, up3, kd], by simp [fI, fR, pI, pR, up3, kd], by simp [fI, fR, pI, pR, up3, kd]⟩
theorem dX3_init_0 : decode cX3_init 0 = .ok (.aload_n 0, 1) := by decide +kernel
theorem dX3_init_1 : decode cX3_init 1 = .ok (.invokespecial 3, 3) := by decide +kernel
theorem dX3_init_4 : decode cX3_init 4 = .ok (.aload_n 0, 1) := by decide +kernel
theorem dX3_init_5 : decode cX3_init 5 = .ok (.iload_n 1, 1) := by decide +kernel
theorem dX3_init_6 : decode cX3_init 6 = .ok (.putfield 9, 3) := by decide +kernel
theorem dX3_init_9 : decode cX3_init 9 = .ok (.aload_n 0, 1) := by decide +kernel
theorem dX3_init_10 : decode cX3_init 10 = .ok (.iload_n 2, 1) := by decide +kernel
theorem dX3_init_11 : decode cX3_init 11 = .ok (.putfield 15, 3) := by decide +kernel
theorem dX3_init_14 : decode cX3_init 14 = .ok (.aload_n 0, 1) := by decide +kernel
theorem dX3_init_15 : decode cX3_init 15 = .ok (.iload_n 3, 1) := by decide +kernel
theorem dX3_init_16 : decode cX3_init 16 = .ok (.putfield 19, 3) := by decide +kernel
theorem dX3_init_19 : decode cX3_init 19 = .ok (.aload_n 0, 1) := by decide +kernel
theorem dX3_init_20 : decode cX3_init 20 = .ok (.iload 4, 2) := by decide +kernel
theorem dX3_init_22 : decode cX3_init 22 = .ok (.putfield 22, 3) := by decide +kernel
theorem dX3_init_25 : decode cX3_init 25 = .ok (.aload_n 0, 1) := by decide +kernel
theorem dX3_init_26 : decode cX3_init 26 = .ok (.iload 5, 2) := by decide +kernel
theorem dX3_init_28 : decode cX3_init 28 = .ok (.putfield 25, 3) := by decide +kernel
theorem dX3_init_31 : decode cX3_init 31 = .ok (.return_, 1) := by decide +kernel
set_option maxHeartbeats 1000000 in
set_option maxRecDepth 100000 in
theorem c_X3_init (de : Nat) (w : Wd) (a : Nat) (dy : Int32) (dB : Bool) (tr ex wt : Int32) (ha : kd w a = 5) : Ct yX3_init cX3_init 6 none 1 20 0 0 de [.ref a, .int dy, .int (bI dB), .int tr, .int ex, .int wt] w (fun r w' => r = none ∧ (∀ b, b ≠ a → SmA w w' b) ∧ kd w' a = 5 ∧ fI w' 5 0 a = dy ∧ fI w' 5 1 a = bI dB ∧ fI w' 5 2 a = tr ∧ fI w' 5 3 a = ex ∧ fI w' 5 4 a = wt) := by
  refine Ct.mk (by decide +kernel) [(0, .ref a), (1, .int dy), (2, .int (bI dB)), (3, .int tr), (4, .int ex), (5, .int wt)] rfl (Nat.le_of_ble_eq_true rfl) ?_
  intro p l e R s m args below meth c D cy z C hnm
  refine g_aload_n C dX3_init_0 rfl ?_
  refine g_objInit C k_471 k_33 k_34 (Nat.le_of_ble_eq_true rfl) (by decide) dX3_init_1 ?_
  refine g_aload_n C dX3_init_4 rfl ?_
  refine g_iload_n C dX3_init_5 rfl ?_
  refine g_putI C cls_4 5 0 ha rfl (Or.inr ⟨rfl, hnm, rfl⟩) rfl rfl k_472 dX3_init_6 ?_
  refine g_aload_n C dX3_init_9 rfl ?_
  refine g_iload_n C dX3_init_10 rfl ?_
  refine g_putI C cls_4 5 1 ha rfl (Or.inr ⟨rfl, hnm, rfl⟩) (bI_nar dB) (bI_fit dB) k_474 dX3_init_11 ?_
  refine g_aload_n C dX3_init_14 rfl ?_
  refine g_iload_n C dX3_init_15 rfl ?_
  refine g_putI C cls_4 5 2 ha rfl (Or.inr ⟨rfl, hnm, rfl⟩) rfl rfl k_475 dX3_init_16 ?_
  refine g_aload_n C dX3_init_19 rfl ?_
  refine g_iload C dX3_init_20 rfl ?_
  refine g_putI C cls_4 5 3 ha rfl (Or.inr ⟨rfl, hnm, rfl⟩) rfl rfl k_476 dX3_init_22 ?_
  refine g_aload_n C dX3_init_25 rfl ?_
  refine g_iload C dX3_init_26 rfl ?_
  refine g_putI C cls_4 5 4 ha rfl (Or.inr ⟨rfl, hnm, rfl⟩) rfl rfl k_477 dX3_init_28 ?_
  refine g_vret C rfl (by decide) (by decide) dX3_init_31 ?_
  exact ⟨rfl, fun b hba => by repeat (first | exact SmA.rf | refine SmA.tr ?_ (SmA.pI hba) | refine SmA.tr ?_ (SmA.pR hba) | refine SmA.tr ?_ (SmA.pAR hbl) | refine SmA.tr ?_ (SmA.nw (fun z => hb (by rw [z]; assumption)))), ha, by simp [fI, fR, pI, pR, up3, kd], by simp [fI, fR, pI, pR, up3, kd], by simp [fI, fR, pI, pR, up3, kd], by simp [fI, fR, pI, pR, up3, kd], by simp [fI, fR, pI, pR, up3, kd]⟩
theorem dX1_init_0 : decode cX1_init 0 = .ok (.aload_n 0, 1) := by decide +kernel
theorem dX1_init_1 : decode cX1_init 1 = .ok (.invokespecial 3, 3) := by decide +kernel
theorem dX1_init_4 : decode cX1_init 4 = .ok (.aload_n 0, 1) := by decide +kernel
theorem dX1_init_5 : decode cX1_init 5 = .ok (.iconst 0, 1) := by decide +kernel
theorem dX1_init_6 : decode cX1_init 6 = .ok (.putfield 9, 3) := by decide +kernel
theorem dX1_init_9 : decode cX1_init 9 = .ok (.aload_n 0, 1) := by decide +kernel
theorem dX1_init_10 : decode cX1_init 10 = .ok (.iconst (-1), 1) := by decide +kernel
theorem dX1_init_11 : decode cX1_init 11 = .ok (.putfield 15, 3) := by decide +kernel
theorem dX1_init_14 : decode cX1_init 14 = .ok (.aload_n 0, 1) := by decide +kernel
theorem dX1_init_15 : decode cX1_init 15 = .ok (.iconst (-1), 1) := by decide +kernel
theorem dX1_init_16 : decode cX1_init 16 = .ok (.putfield 18, 3) := by decide +kernel
theorem dX1_init_19 : decode cX1_init 19 = .ok (.aload_n 0, 1) := by decide +kernel
theorem dX1_init_20 : decode cX1_init 20 = .ok (.iconst 0, 1) := by decide +kernel
theorem dX1_init_21 : decode cX1_init 21 = .ok (.putfield 21, 3) := by decide +kernel
theorem dX1_init_24 : decode cX1_init 24 = .ok (.aload_n 0, 1) := by decide +kernel
theorem dX1_init_25 : decode cX1_init 25 = .ok (.iconst 0, 1) := by decide +kernel
theorem dX1_init_26 : decode cX1_init 26 = .ok (.putfield 24, 3) := by decide +kernel
theorem dX1_init_29 : decode cX1_init 29 = .ok (.aload_n 0, 1) := by decide +kernel
theorem dX1_init_30 : decode cX1_init 30 = .ok (.iconst 0, 1) := by decide +kernel
theorem dX1_init_31 : decode cX1_init 31 = .ok (.putfield 27, 3) := by decide +kernel
theorem dX1_init_34 : decode cX1_init 34 = .ok (.aload_n 0, 1) := by decide +kernel
theorem dX1_init_35 : decode cX1_init 35 = .ok (.aload_n 1, 1) := by decide +kernel
theorem dX1_init_36 : decode cX1_init 36 = .ok (.putfield 31, 3) := by decide +kernel
theorem dX1_init_39 : decode cX1_init 39 = .ok (.aload_n 0, 1) := by decide +kernel
theorem dX1_init_40 : decode cX1_init 40 = .ok (.aload_n 2, 1) := by decide +kernel
theorem dX1_init_41 : decode cX1_init 41 = .ok (.putfield 35, 3) := by decide +kernel
theorem dX1_init_44 : decode cX1_init 44 = .ok (.aload_n 0, 1) := by decide +kernel
theorem dX1_init_45 : decode cX1_init 45 = .ok (.iload_n 3, 1) := by decide +kernel
theorem dX1_init_46 : decode cX1_init 46 = .ok (.putfield 39, 3) := by decide +kernel
theorem dX1_init_49 : decode cX1_init 49 = .ok (.aload_n 0, 1) := by decide +kernel
theorem dX1_init_50 : decode cX1_init 50 = .ok (.iload 4, 2) := by decide +kernel
theorem dX1_init_52 : decode cX1_init 52 = .ok (.putfield 42, 3) := by decide +kernel
theorem dX1_init_55 : decode cX1_init 55 = .ok (.aload_n 0, 1) := by decide +kernel
theorem dX1_init_56 : decode cX1_init 56 = .ok (.iload 5, 2) := by decide +kernel
theorem dX1_init_58 : decode cX1_init 58 = .ok (.putfield 45, 3) := by decide +kernel
theorem dX1_init_61 : decode cX1_init 61 = .ok (.aload_n 0, 1) := by decide +kernel
theorem dX1_init_62 : decode cX1_init 62 = .ok (.iload 6, 2) := by decide +kernel
theorem dX1_init_64 : decode cX1_init 64 = .ok (.putfield 48, 3) := by decide +kernel
theorem dX1_init_67 : decode cX1_init 67 = .ok (.return_, 1) := by decide +kernel
set_option maxHeartbeats 1000000 in
set_option maxRecDepth 100000 in
theorem c_X1_init (de : Nat) (w : Wd) (a fa pr : Nat) (su se pc9 sh : Int32) (ha : kd w a = 3) : Ct yX1_init cX1_init 7 none 1 20 0 0 de [.ref a, .ref fa, .ref pr, .int su, .int se, .int pc9, .int sh] w (fun r w' => r = none ∧ (∀ b, b ≠ a → SmA w w' b) ∧ kd w' a = 3 ∧ fR w' 3 0 a = some fa ∧ fR w' 3 1 a = some pr ∧ fI w' 3 2 a = su ∧ fI w' 3 3 a = se ∧ fI w' 3 4 a = pc9 ∧ fI w' 3 5 a = sh ∧ fI w' 3 6 a = 0 ∧ fI w' 3 7 a = -1 ∧ fI w' 3 8 a = -1 ∧ fI w' 3 9 a = 0 ∧ fI w' 3 10 a = 0 ∧ fI w' 3 11 a = 0) := by
  refine Ct.mk (by decide +kernel) [(0, .ref a), (1, .ref fa), (2, .ref pr), (3, .int su), (4, .int se), (5, .int pc9), (6, .int sh)] rfl (Nat.le_of_ble_eq_true rfl) ?_
  intro p l e R s m args below meth c D cy z C hnm
  refine g_aload_n C dX1_init_0 rfl ?_
  refine g_objInit C k_691 k_33 k_34 (Nat.le_of_ble_eq_true rfl) (by decide) dX1_init_1 ?_
  refine g_aload_n C dX1_init_4 rfl ?_
  refine g_iconst C 0 dX1_init_5 (by rfl) ?_
  refine g_putI C cls_2 3 6 ha rfl (Or.inl rfl) rfl rfl k_701 dX1_init_6 ?_
  refine g_aload_n C dX1_init_9 rfl ?_
  refine g_iconst C (-1) dX1_init_10 (by rfl) ?_
  refine g_putI C cls_2 3 7 ha rfl (Or.inl rfl) rfl rfl k_703 dX1_init_11 ?_
  refine g_aload_n C dX1_init_14 rfl ?_
  refine g_iconst C (-1) dX1_init_15 (by rfl) ?_
  refine g_putI C cls_2 3 8 ha rfl (Or.inl rfl) rfl rfl k_705 dX1_init_16 ?_
  refine g_aload_n C dX1_init_19 rfl ?_
  refine g_iconst C 0 dX1_init_20 (by rfl) ?_
  refine g_putI C cls_2 3 9 ha rfl (Or.inl rfl) rfl rfl k_707 dX1_init_21 ?_
  refine g_aload_n C dX1_init_24 rfl ?_
  refine g_iconst C 0 dX1_init_25 (by rfl) ?_
  refine g_putI C cls_2 3 10 ha rfl (Or.inl rfl) rfl rfl k_709 dX1_init_26 ?_
  refine g_aload_n C dX1_init_29 rfl ?_
  refine g_iconst C 0 dX1_init_30 (by rfl) ?_
  refine g_putI C cls_2 3 11 ha rfl (Or.inl rfl) rfl rfl k_711 dX1_init_31 ?_
  refine g_aload_n C dX1_init_34 rfl ?_
  refine g_aload_n C dX1_init_35 rfl ?_
  refine g_putR C cls_2 3 0 (some fa) rfl ha rfl (Or.inr ⟨rfl, hnm, rfl⟩) rfl rfl k_692 dX1_init_36 ?_
  refine g_aload_n C dX1_init_39 rfl ?_
  refine g_aload_n C dX1_init_40 rfl ?_
  refine g_putR C cls_2 3 1 (some pr) rfl ha rfl (Or.inr ⟨rfl, hnm, rfl⟩) rfl rfl k_694 dX1_init_41 ?_
  refine g_aload_n C dX1_init_44 rfl ?_
  refine g_iload_n C dX1_init_45 rfl ?_
  refine g_putI C cls_2 3 2 ha rfl (Or.inr ⟨rfl, hnm, rfl⟩) rfl rfl k_696 dX1_init_46 ?_
  refine g_aload_n C dX1_init_49 rfl ?_
  refine g_iload C dX1_init_50 rfl ?_
  refine g_putI C cls_2 3 3 ha rfl (Or.inr ⟨rfl, hnm, rfl⟩) rfl rfl k_697 dX1_init_52 ?_
  refine g_aload_n C dX1_init_55 rfl ?_
  refine g_iload C dX1_init_56 rfl ?_
  refine g_putI C cls_2 3 4 ha rfl (Or.inr ⟨rfl, hnm, rfl⟩) rfl rfl k_699 dX1_init_58 ?_
  refine g_aload_n C dX1_init_61 rfl ?_
  refine g_iload C dX1_init_62 rfl ?_
  refine g_putI C cls_2 3 5 ha rfl (Or.inr ⟨rfl, hnm, rfl⟩) rfl rfl k_700 dX1_init_64 ?_
  refine g_vret C rfl (by decide) (by decide) dX1_init_67 ?_
  exact ⟨rfl, fun b hba => by repeat (first | exact SmA.rf | refine SmA.tr ?_ (SmA.pI hba) | refine SmA.tr ?_ (SmA.pR hba) | refine SmA.tr ?_ (SmA.pAR hbl) | refine SmA.tr ?_ (SmA.nw (fun z => hb (by rw [z]; assumption)))), ha, by simp [fI, fR, pI, pR, up3, kd], by simp [fI, fR, pI, pR, up3, kd], by simp [fI, fR, pI, pR, up3, kd], by simp [fI, fR, pI, pR, up3, kd], by simp [fI, fR, pI, pR, up3, kd], by simp [fI, fR, pI, pR, up3, kd], by simp [fI, fR, pI, pR, up3, kd], by simp [fI, fR, pI, pR, up3, kd], by simp [fI, fR, pI, pR, up3, kd], by simp [fI, fR, pI, pR, up3, kd], by simp [fI, fR, pI, pR, up3, kd], by simp [fI, fR, pI, pR, up3, kd]⟩
end MAKE29
