section PUB41
theorem neT {x : Int32} (h : ∃ t : Nat, t ≤ 1200 ∧ x = nI t) : (x - 1 = -1 ↔ x = 0) ∧ (0 < x ↔ ¬ x = 0) := by
  obtain ⟨t, ht, e⟩ := h
  rw [e]
  cases t with
  | zero => exact ⟨⟨fun _ => rfl, fun _ => rfl⟩, ⟨fun z => absurd z (by decide), fun z => absurd rfl z⟩⟩
  | succ t =>
    have h1 : nI (t + 1) - 1 = nI t := by rw [← nI_1, a11]
    have h2 : ¬ nI (t + 1) = 0 := fun z => by
      have := (nI_eq (a := t + 1) (b := 0) (by omega) (by omega)).mp z
      omega
    refine ⟨⟨fun z => ?_, fun z => absurd z h2⟩, ⟨fun _ => h2, fun _ => nI_lt (a := 0) (b := t + 1) (by omega) (by omega)⟩⟩
    rw [h1] at z
    exact absurd z (fun z2 => nI_pos (n := t) (by omega) (by rw [z2]; decide))
/-- one telling more -/
def chU (ch : Nat → Nat → List (Nat × Int32)) (s0 d tl : Nat) (tt : Int32) : Nat → Nat → List (Nat × Int32) := fun s q => if s = s0 ∧ q = d then (tl, tt) :: ch s0 d else ch s q
theorem Kp.of {S : List Nat} {w w1 : Wd} {X : Nat → Prop} (h : ∀ b, kd w b ≠ 0 → ¬ X b → SmA w w1 b) (hX : ∀ b, X b → kd w b ∉ S) (h0 : 0 ∉ S) : Kp S w w1 := fun b hb => h b (fun z => h0 (by rw [← z]; exact hb)) (fun z => hX b z hb)
theorem dX9_pass_0 : decode cX9_pass 0 = .ok (.iload_n 1, 1) := by decide +kernel
theorem dX9_pass_1 : decode cX9_pass 1 = .ok (.iconst 1, 1) := by decide +kernel
theorem dX9_pass_2 : decode cX9_pass 2 = .ok (.bipush 60, 2) := by decide +kernel
theorem dX9_pass_4 : decode cX9_pass 4 = .ok (.invokestatic 109, 3) := by decide +kernel
theorem dX9_pass_7 : decode cX9_pass 7 = .ok (.ifCond .ne 13, 3) := by decide +kernel
theorem dX9_pass_10 : decode cX9_pass 10 = .ok (.new 113, 3) := by decide +kernel
theorem dX9_pass_13 : decode cX9_pass 13 = .ok (.dup, 1) := by decide +kernel
theorem dX9_pass_14 : decode cX9_pass 14 = .ok (.ldc 122, 2) := by decide +kernel
theorem dX9_pass_16 : decode cX9_pass 16 = .ok (.invokespecial 117, 3) := by decide +kernel
theorem dX9_pass_19 : decode cX9_pass 19 = .ok (.athrow, 1) := by decide +kernel
theorem dX9_pass_20 : decode cX9_pass 20 = .ok (.aload_n 0, 1) := by decide +kernel
theorem dX9_pass_21 : decode cX9_pass 21 = .ok (.getfield 56, 3) := by decide +kernel
theorem dX9_pass_24 : decode cX9_pass 24 = .ok (.iload_n 1, 1) := by decide +kernel
theorem dX9_pass_25 : decode cX9_pass 25 = .ok (.iadd, 1) := by decide +kernel
theorem dX9_pass_26 : decode cX9_pass 26 = .ok (.sipush 1200, 3) := by decide +kernel
theorem dX9_pass_29 : decode cX9_pass 29 = .ok (.if_icmp .lt 13, 3) := by decide +kernel
theorem dX9_pass_32 : decode cX9_pass 32 = .ok (.new 89, 3) := by decide +kernel
theorem dX9_pass_35 : decode cX9_pass 35 = .ok (.dup, 1) := by decide +kernel
theorem dX9_pass_36 : decode cX9_pass 36 = .ok (.ldc 124, 2) := by decide +kernel
theorem dX9_pass_38 : decode cX9_pass 38 = .ok (.invokespecial 93, 3) := by decide +kernel
theorem dX9_pass_41 : decode cX9_pass 41 = .ok (.athrow, 1) := by decide +kernel
theorem dX9_pass_42 : decode cX9_pass 42 = .ok (.aload_n 0, 1) := by decide +kernel
theorem dX9_pass_43 : decode cX9_pass 43 = .ok (.dup, 1) := by decide +kernel
theorem dX9_pass_44 : decode cX9_pass 44 = .ok (.getfield 56, 3) := by decide +kernel
theorem dX9_pass_47 : decode cX9_pass 47 = .ok (.iload_n 1, 1) := by decide +kernel
theorem dX9_pass_48 : decode cX9_pass 48 = .ok (.iadd, 1) := by decide +kernel
theorem dX9_pass_49 : decode cX9_pass 49 = .ok (.putfield 56, 3) := by decide +kernel
theorem dX9_pass_52 : decode cX9_pass 52 = .ok (.aload_n 0, 1) := by decide +kernel
theorem dX9_pass_53 : decode cX9_pass 53 = .ok (.getfield 56, 3) := by decide +kernel
theorem dX9_pass_56 : decode cX9_pass 56 = .ok (.ireturn, 1) := by decide +kernel
set_option maxHeartbeats 1000000 in
set_option maxRecDepth 100000 in
theorem c_X9_pass (de : Nat) (w : Wd) (x : Nat) (A : Nat → Nat → Int32) (F : Nat → Int32) (nS nP nF nC tl : Nat) (ho cf cp cs sb pn : Nat → Nat) (dn : Nat → Nat → Nat) (ch : Nat → Nat → List (Nat × Int32)) (ca : Nat → Nat → Nat) (h : RC0 w de x A F nS nP nF nC tl ho cf cp cs sb pn dn ch ca) (hB : KB w nC A F ca) (T rt ly : Nat) (sN : Nat → Nat) (hv : PV A F nS nP nF nC tl ho cf cp cs sb pn dn ch T rt ly sN) (dy : Int32) : Cw yX9_pass cX9_pass 2 (some .int) 6 90 5 30 de [.ref x, .int dy] w (fun r w' => goV (bI (inR dy 1 60)) (bI (inR dy 1 60 && decide (F 0 + dy < 1200))) 1 = 0 ∧ r = some (.int (F 0 + dy)) ∧ RC0 w' de x (A) (updF F 0 (F 0 + dy)) nS nP nF nC tl ho cf cp cs sb pn dn ch ca ∧ KB w' nC (A) (updF F 0 (F 0 + dy)) ca ∧ FrR w w') (fun E w' => w = w' ∧ ((E = "java/lang/IllegalArgumentException" ∧ goV (bI (inR dy 1 60)) (bI (inR dy 1 60 && decide (F 0 + dy < 1200))) 1 = 1) ∨ (E = "java/lang/IllegalStateException" ∧ goV (bI (inR dy 1 60)) (bI (inR dy 1 60 && decide (F 0 + dy < 1200))) 1 = 2))) := by
  refine Cw.mk (by decide +kernel) [(0, .ref x), (1, .int dy)] rfl (Nat.le_of_ble_eq_true rfl) ?_
  intro p l e R s m args below meth c D cy z C ht
  obtain ⟨h60, h16, h5, hcv, hho⟩ := id hv.hcv
  have hfr : FrR w w := FrR.rf
  have hbk : Kp [2] w w := Kp.rf
  have hnS : nS < 100000 := by omega
  have hnP : nP < 100000 := by have := hv.hP6; omega
  have hnF : nF < 100000 := by omega
  have hnC : nC < 100000 := by omega
  refine g_iload_n C dX9_pass_0 rfl ?_
  refine g_iconst C 1 dX9_pass_1 (by rfl) ?_
  refine g_bipush C 60 dX9_pass_2 (by rfl) ?_
  refine g_callS C mt_X9_isWithin [.int dy, .int 1, .int 60] (c_X9_isWithin de w dy 1 60) k_189 rfl rfl (Nat.le_of_ble_eq_true rfl) (by decide) (by decide) (by decide) (by decide) dX9_pass_4 (fun r_4 w_4 hp_4 => ?_)
  obtain ⟨rfl, rfl⟩ := hp_4
  refine g_if_ne C 20 dX9_pass_7 (by decide) (fun c_7 => ?_) (fun c_7 => ?_)
  · have b_7 := bI_n0.mp c_7
    refine g_aload_n C dX9_pass_20 rfl ?_
    refine g_getI C cls_10 11 8 h.1.1 rfl k_144 dX9_pass_21 ?_
    rw [h.1.2.2.2.2.2.2.2.2.2.1]
    refine g_iload_n C dX9_pass_24 rfl ?_
    refine g_iadd C dX9_pass_25 ?_
    refine g_sipush C 1200 dX9_pass_26 (by rfl) ?_
    refine g_icmp_lt C 42 dX9_pass_29 (by decide) (fun c_29 => ?_) (fun c_29 => ?_)
    · have b_29 := And.intro (decide_eq_false (Int32.not_le.mpr c_29)) (decide_eq_true c_29)
      refine g_aload_n C dX9_pass_42 rfl ?_
      refine g_dup C dX9_pass_43 rfl ?_
      refine g_getI C cls_10 11 8 h.1.1 rfl k_144 dX9_pass_44 ?_
      rw [h.1.2.2.2.2.2.2.2.2.2.1]
      refine g_iload_n C dX9_pass_47 rfl ?_
      refine g_iadd C dX9_pass_48 ?_
      refine g_putI C cls_10 11 8 h.1.1 rfl (Or.inl rfl) rfl rfl k_144 dX9_pass_49 ?_
      replace hfr := hfr.tr (FrR.pI h.1.1 (by decide) : FrR _ (pI w 11 8 x (F 0 + dy)))
      replace hbk := hbk.tr (Kp.pI h.1.1 (by decide) : Kp [2] _ (pI w 11 8 x (F 0 + dy)))
      replace h := h.own8 (F 0 + dy)
      generalize pI w 11 8 x (F 0 + dy) = w1 at h hfr hbk ⊢
      refine g_aload_n C dX9_pass_52 rfl ?_
      refine g_getI C cls_10 11 8 h.1.1 rfl k_144 dX9_pass_53 ?_
      rw [h.1.2.2.2.2.2.2.2.2.2.1]
      refine gx_ret <| g_iret C rfl rfl (by decide) (by decide) dX9_pass_56 ?_
      exact ⟨goV_000 b_7 (and_t b_7 b_29.2), congrArg (fun v => some (Value.int v)) (if_pos rfl), h, hB.mv hbk rfl (if_neg (by decide)), hfr⟩
    · have b_29 := And.intro (decide_eq_true (Int32.not_lt.mp c_29)) (decide_eq_false c_29)
      exact gx_throw C ht th_X9_93 k_264 k_15 (is := 124) (text := "the day would be above 1199") (by decide) dX9_pass_32 dX9_pass_35 dX9_pass_36 dX9_pass_38 dX9_pass_41 (by decide) (Nat.le_of_ble_eq_true rfl) (by decide) (by decide) ⟨rfl, Or.inr (⟨rfl, goV_2 b_7 (and_f2 b_29.2)⟩)⟩
  · have b_7 := bI_0.mp c_7
    exact gx_throw C ht th_X9_117 k_192 k_14 (is := 122) (text := "days is out of range") (by decide) dX9_pass_10 dX9_pass_13 dX9_pass_14 dX9_pass_16 dX9_pass_19 (by decide) (Nat.le_of_ble_eq_true rfl) (by decide) (by decide) ⟨rfl, Or.inl ⟨rfl, goV_1 b_7⟩⟩
theorem dX9_loading_0 : decode cX9_loading 0 = .ok (.iload_n 1, 1) := by decide +kernel
theorem dX9_loading_1 : decode cX9_loading 1 = .ok (.iconst 0, 1) := by decide +kernel
theorem dX9_loading_2 : decode cX9_loading 2 = .ok (.sipush 200, 3) := by decide +kernel
theorem dX9_loading_5 : decode cX9_loading 5 = .ok (.invokestatic 109, 3) := by decide +kernel
theorem dX9_loading_8 : decode cX9_loading 8 = .ok (.ifCond .ne 13, 3) := by decide +kernel
theorem dX9_loading_11 : decode cX9_loading 11 = .ok (.new 113, 3) := by decide +kernel
theorem dX9_loading_14 : decode cX9_loading 14 = .ok (.dup, 1) := by decide +kernel
theorem dX9_loading_15 : decode cX9_loading 15 = .ok (.ldc 173, 2) := by decide +kernel
theorem dX9_loading_17 : decode cX9_loading 17 = .ok (.invokespecial 117, 3) := by decide +kernel
theorem dX9_loading_20 : decode cX9_loading 20 = .ok (.athrow, 1) := by decide +kernel
theorem dX9_loading_21 : decode cX9_loading 21 = .ok (.aload_n 0, 1) := by decide +kernel
theorem dX9_loading_22 : decode cX9_loading 22 = .ok (.getfield 60, 3) := by decide +kernel
theorem dX9_loading_25 : decode cX9_loading 25 = .ok (.istore_n 2, 1) := by decide +kernel
theorem dX9_loading_26 : decode cX9_loading 26 = .ok (.aload_n 0, 1) := by decide +kernel
theorem dX9_loading_27 : decode cX9_loading 27 = .ok (.iload_n 1, 1) := by decide +kernel
theorem dX9_loading_28 : decode cX9_loading 28 = .ok (.putfield 60, 3) := by decide +kernel
theorem dX9_loading_31 : decode cX9_loading 31 = .ok (.iload_n 2, 1) := by decide +kernel
theorem dX9_loading_32 : decode cX9_loading 32 = .ok (.ireturn, 1) := by decide +kernel
set_option maxHeartbeats 1000000 in
set_option maxRecDepth 100000 in
theorem c_X9_loading (de : Nat) (w : Wd) (x : Nat) (A : Nat → Nat → Int32) (F : Nat → Int32) (nS nP nF nC tl : Nat) (ho cf cp cs sb pn : Nat → Nat) (dn : Nat → Nat → Nat) (ch : Nat → Nat → List (Nat × Int32)) (ca : Nat → Nat → Nat) (h : RC0 w de x A F nS nP nF nC tl ho cf cp cs sb pn dn ch ca) (hB : KB w nC A F ca) (T rt ly : Nat) (sN : Nat → Nat) (hv : PV A F nS nP nF nC tl ho cf cp cs sb pn dn ch T rt ly sN) (hu : Int32) : Cw yX9_loading cX9_loading 3 (some .int) 6 90 5 30 de [.ref x, .int hu] w (fun r w' => goV (bI (inR hu 0 200)) 1 1 = 0 ∧ r = some (.int (F 20)) ∧ RC0 w' de x (A) (updF F 20 hu) nS nP nF nC tl ho cf cp cs sb pn dn ch ca ∧ KB w' nC (A) (updF F 20 hu) ca ∧ FrR w w') (fun E w' => w = w' ∧ ((E = "java/lang/IllegalArgumentException" ∧ goV (bI (inR hu 0 200)) 1 1 = 1))) := by
  refine Cw.mk (by decide +kernel) [(0, .ref x), (1, .int hu)] rfl (Nat.le_of_ble_eq_true rfl) ?_
  intro p l e R s m args below meth c D cy z C ht
  obtain ⟨h60, h16, h5, hcv, hho⟩ := id hv.hcv
  have hfr : FrR w w := FrR.rf
  have hbk : Kp [2] w w := Kp.rf
  have hnS : nS < 100000 := by omega
  have hnP : nP < 100000 := by have := hv.hP6; omega
  have hnF : nF < 100000 := by omega
  have hnC : nC < 100000 := by omega
  refine g_iload_n C dX9_loading_0 rfl ?_
  refine g_iconst C 0 dX9_loading_1 (by rfl) ?_
  refine g_sipush C 200 dX9_loading_2 (by rfl) ?_
  refine g_callS C mt_X9_isWithin [.int hu, .int 0, .int 200] (c_X9_isWithin de w hu 0 200) k_189 rfl rfl (Nat.le_of_ble_eq_true rfl) (by decide) (by decide) (by decide) (by decide) dX9_loading_5 (fun r_5 w_5 hp_5 => ?_)
  obtain ⟨rfl, rfl⟩ := hp_5
  refine g_if_ne C 21 dX9_loading_8 (by decide) (fun c_8 => ?_) (fun c_8 => ?_)
  · have b_8 := bI_n0.mp c_8
    refine g_aload_n C dX9_loading_21 rfl ?_
    refine g_getI C cls_10 11 9 h.1.1 rfl k_145 dX9_loading_22 ?_
    rw [h.1.2.2.2.2.2.2.2.2.2.2.1]
    refine g_istore_n C dX9_loading_25 (by decide) ?_
    refine g_aload_n C dX9_loading_26 rfl ?_
    refine g_iload_n C dX9_loading_27 rfl ?_
    refine g_putI C cls_10 11 9 h.1.1 rfl (Or.inl rfl) rfl rfl k_145 dX9_loading_28 ?_
    replace hfr := hfr.tr (FrR.pI h.1.1 (by decide) : FrR _ (pI w 11 9 x hu))
    replace hbk := hbk.tr (Kp.pI h.1.1 (by decide) : Kp [2] _ (pI w 11 9 x hu))
    replace h := h.own9 hu
    generalize pI w 11 9 x hu = w1 at h hfr hbk ⊢
    refine g_iload_n C dX9_loading_31 rfl ?_
    refine gx_ret <| g_iret C rfl rfl (by decide) (by decide) dX9_loading_32 ?_
    exact ⟨goV_00 b_8, congrArg (fun v => some (Value.int v)) (rfl), h, hB.mv hbk rfl (if_neg (by decide)), hfr⟩
  · have b_8 := bI_0.mp c_8
    exact gx_throw C ht th_X9_117 k_192 k_14 (is := 173) (text := "hundredths is out of range") (by decide) dX9_loading_11 dX9_loading_14 dX9_loading_15 dX9_loading_17 dX9_loading_20 (by decide) (Nat.le_of_ble_eq_true rfl) (by decide) (by decide) ⟨rfl, ⟨rfl, goV_1 b_8⟩⟩
theorem dX9_layer_0 : decode cX9_layer 0 = .ok (.iload_n 1, 1) := by decide +kernel
theorem dX9_layer_1 : decode cX9_layer 1 = .ok (.iconst 0, 1) := by decide +kernel
theorem dX9_layer_2 : decode cX9_layer 2 = .ok (.ldc 170, 2) := by decide +kernel
theorem dX9_layer_4 : decode cX9_layer 4 = .ok (.invokestatic 109, 3) := by decide +kernel
theorem dX9_layer_7 : decode cX9_layer 7 = .ok (.ifCond .eq 13, 3) := by decide +kernel
theorem dX9_layer_10 : decode cX9_layer 10 = .ok (.iload_n 2, 1) := by decide +kernel
theorem dX9_layer_11 : decode cX9_layer 11 = .ok (.iconst 0, 1) := by decide +kernel
theorem dX9_layer_12 : decode cX9_layer 12 = .ok (.ldc 170, 2) := by decide +kernel
theorem dX9_layer_14 : decode cX9_layer 14 = .ok (.invokestatic 109, 3) := by decide +kernel
theorem dX9_layer_17 : decode cX9_layer 17 = .ok (.ifCond .ne 13, 3) := by decide +kernel
theorem dX9_layer_20 : decode cX9_layer 20 = .ok (.new 113, 3) := by decide +kernel
theorem dX9_layer_23 : decode cX9_layer 23 = .ok (.dup, 1) := by decide +kernel
theorem dX9_layer_24 : decode cX9_layer 24 = .ok (.ldc 175, 2) := by decide +kernel
theorem dX9_layer_26 : decode cX9_layer 26 = .ok (.invokespecial 117, 3) := by decide +kernel
theorem dX9_layer_29 : decode cX9_layer 29 = .ok (.athrow, 1) := by decide +kernel
theorem dX9_layer_30 : decode cX9_layer 30 = .ok (.aload_n 0, 1) := by decide +kernel
theorem dX9_layer_31 : decode cX9_layer 31 = .ok (.getfield 63, 3) := by decide +kernel
theorem dX9_layer_34 : decode cX9_layer 34 = .ok (.istore_n 3, 1) := by decide +kernel
theorem dX9_layer_35 : decode cX9_layer 35 = .ok (.aload_n 0, 1) := by decide +kernel
theorem dX9_layer_36 : decode cX9_layer 36 = .ok (.iload_n 1, 1) := by decide +kernel
theorem dX9_layer_37 : decode cX9_layer 37 = .ok (.putfield 63, 3) := by decide +kernel
theorem dX9_layer_40 : decode cX9_layer 40 = .ok (.aload_n 0, 1) := by decide +kernel
theorem dX9_layer_41 : decode cX9_layer 41 = .ok (.iload_n 2, 1) := by decide +kernel
theorem dX9_layer_42 : decode cX9_layer 42 = .ok (.putfield 66, 3) := by decide +kernel
theorem dX9_layer_45 : decode cX9_layer 45 = .ok (.iload_n 3, 1) := by decide +kernel
theorem dX9_layer_46 : decode cX9_layer 46 = .ok (.ireturn, 1) := by decide +kernel
set_option maxHeartbeats 1000000 in
set_option maxRecDepth 100000 in
theorem c_X9_layer (de : Nat) (w : Wd) (x : Nat) (A : Nat → Nat → Int32) (F : Nat → Int32) (nS nP nF nC tl : Nat) (ho cf cp cs sb pn : Nat → Nat) (dn : Nat → Nat → Nat) (ch : Nat → Nat → List (Nat × Int32)) (ca : Nat → Nat → Nat) (h : RC0 w de x A F nS nP nF nC tl ho cf cp cs sb pn dn ch ca) (hB : KB w nC A F ca) (T rt ly : Nat) (sN : Nat → Nat) (hv : PV A F nS nP nF nC tl ho cf cp cs sb pn dn ch T rt ly sN) (xa ya : Int32) : Cw yX9_layer cX9_layer 4 (some .int) 6 90 5 30 de [.ref x, .int xa, .int ya] w (fun r w' => goV (bI (inR xa 0 99999 && inR ya 0 99999)) 1 1 = 0 ∧ r = some (.int (F 21)) ∧ RC0 w' de x (A) (updF (updF F 21 xa) 22 ya) nS nP nF nC tl ho cf cp cs sb pn dn ch ca ∧ KB w' nC (A) (updF (updF F 21 xa) 22 ya) ca ∧ FrR w w') (fun E w' => w = w' ∧ ((E = "java/lang/IllegalArgumentException" ∧ goV (bI (inR xa 0 99999 && inR ya 0 99999)) 1 1 = 1))) := by
  refine Cw.mk (by decide +kernel) [(0, .ref x), (1, .int xa), (2, .int ya)] rfl (Nat.le_of_ble_eq_true rfl) ?_
  intro p l e R s m args below meth c D cy z C ht
  obtain ⟨h60, h16, h5, hcv, hho⟩ := id hv.hcv
  have hfr : FrR w w := FrR.rf
  have hbk : Kp [2] w w := Kp.rf
  have hnS : nS < 100000 := by omega
  have hnP : nP < 100000 := by have := hv.hP6; omega
  have hnF : nF < 100000 := by omega
  have hnC : nC < 100000 := by omega
  refine g_iload_n C dX9_layer_0 rfl ?_
  refine g_iconst C 0 dX9_layer_1 (by rfl) ?_
  refine g_ldc C k_575 dX9_layer_2 ?_
  refine g_callS C mt_X9_isWithin [.int xa, .int 0, .int 99999] (c_X9_isWithin de w xa 0 99999) k_189 rfl rfl (Nat.le_of_ble_eq_true rfl) (by decide) (by decide) (by decide) (by decide) dX9_layer_4 (fun r_4 w_4 hp_4 => ?_)
  obtain ⟨rfl, rfl⟩ := hp_4
  refine g_if_eq C 20 dX9_layer_7 (by decide) (fun c_7 => ?_) (fun c_7 => ?_)
  · have b_7 := bI_0.mp c_7
    exact gx_throw C ht th_X9_117 k_192 k_14 (is := 175) (text := "retention or layer is out of range") (by decide) dX9_layer_20 dX9_layer_23 dX9_layer_24 dX9_layer_26 dX9_layer_29 (by decide) (Nat.le_of_ble_eq_true rfl) (by decide) (by decide) (by first | exact ⟨rfl, ⟨rfl, goV_1 (and_f1 b_7)⟩⟩ | exact ⟨rfl, ⟨rfl, goV_1 (and_f2 b_17)⟩⟩)
  · have b_7 := bI_n0.mp c_7
    refine g_iload_n C dX9_layer_10 rfl ?_
    refine g_iconst C 0 dX9_layer_11 (by rfl) ?_
    refine g_ldc C k_575 dX9_layer_12 ?_
    refine g_callS C mt_X9_isWithin [.int ya, .int 0, .int 99999] (c_X9_isWithin de w ya 0 99999) k_189 rfl rfl (Nat.le_of_ble_eq_true rfl) (by decide) (by decide) (by decide) (by decide) dX9_layer_14 (fun r_14 w_14 hp_14 => ?_)
    obtain ⟨rfl, rfl⟩ := hp_14
    refine g_if_ne C 30 dX9_layer_17 (by decide) (fun c_17 => ?_) (fun c_17 => ?_)
    · have b_17 := bI_n0.mp c_17
      refine g_aload_n C dX9_layer_30 rfl ?_
      refine g_getI C cls_10 11 10 h.1.1 rfl k_146 dX9_layer_31 ?_
      rw [h.1.2.2.2.2.2.2.2.2.2.2.2.1]
      refine g_istore_n C dX9_layer_34 (by decide) ?_
      refine g_aload_n C dX9_layer_35 rfl ?_
      refine g_iload_n C dX9_layer_36 rfl ?_
      refine g_putI C cls_10 11 10 h.1.1 rfl (Or.inl rfl) rfl rfl k_146 dX9_layer_37 ?_
      replace hfr := hfr.tr (FrR.pI h.1.1 (by decide) : FrR _ (pI w 11 10 x xa))
      replace hbk := hbk.tr (Kp.pI h.1.1 (by decide) : Kp [2] _ (pI w 11 10 x xa))
      replace h := h.own10 xa
      generalize pI w 11 10 x xa = w1 at h hfr hbk ⊢
      refine g_aload_n C dX9_layer_40 rfl ?_
      refine g_iload_n C dX9_layer_41 rfl ?_
      refine g_putI C cls_10 11 11 h.1.1 rfl (Or.inl rfl) rfl rfl k_147 dX9_layer_42 ?_
      replace hfr := hfr.tr (FrR.pI h.1.1 (by decide) : FrR _ (pI w1 11 11 x ya))
      replace hbk := hbk.tr (Kp.pI h.1.1 (by decide) : Kp [2] _ (pI w1 11 11 x ya))
      replace h := h.own11 ya
      generalize pI w1 11 11 x ya = w2 at h hfr hbk ⊢
      refine g_iload_n C dX9_layer_45 rfl ?_
      refine gx_ret <| g_iret C rfl rfl (by decide) (by decide) dX9_layer_46 ?_
      exact ⟨goV_00 (and_t b_7 b_17), congrArg (fun v => some (Value.int v)) (rfl), h, hB.mv hbk rfl rfl, hfr⟩
    · have b_17 := bI_0.mp c_17
      exact gx_throw C ht th_X9_117 k_192 k_14 (is := 175) (text := "retention or layer is out of range") (by decide) dX9_layer_20 dX9_layer_23 dX9_layer_24 dX9_layer_26 dX9_layer_29 (by decide) (Nat.le_of_ble_eq_true rfl) (by decide) (by decide) (by first | exact ⟨rfl, ⟨rfl, goV_1 (and_f1 b_7)⟩⟩ | exact ⟨rfl, ⟨rfl, goV_1 (and_f2 b_17)⟩⟩)
theorem dX9_lend_0 : decode cX9_lend 0 = .ok (.aload_n 0, 1) := by decide +kernel
theorem dX9_lend_1 : decode cX9_lend 1 = .ok (.iload_n 1, 1) := by decide +kernel
theorem dX9_lend_2 : decode cX9_lend 2 = .ok (.invokevirtual 161, 3) := by decide +kernel
theorem dX9_lend_5 : decode cX9_lend 5 = .ok (.astore_n 3, 1) := by decide +kernel
theorem dX9_lend_6 : decode cX9_lend 6 = .ok (.iload_n 2, 1) := by decide +kernel
theorem dX9_lend_7 : decode cX9_lend 7 = .ok (.iconst 1, 1) := by decide +kernel
theorem dX9_lend_8 : decode cX9_lend 8 = .ok (.sipush 9999, 3) := by decide +kernel
theorem dX9_lend_11 : decode cX9_lend 11 = .ok (.invokestatic 109, 3) := by decide +kernel
theorem dX9_lend_14 : decode cX9_lend 14 = .ok (.ifCond .ne 13, 3) := by decide +kernel
theorem dX9_lend_17 : decode cX9_lend 17 = .ok (.new 113, 3) := by decide +kernel
theorem dX9_lend_20 : decode cX9_lend 20 = .ok (.dup, 1) := by decide +kernel
theorem dX9_lend_21 : decode cX9_lend 21 = .ok (.ldc 165, 2) := by decide +kernel
theorem dX9_lend_23 : decode cX9_lend 23 = .ok (.invokespecial 117, 3) := by decide +kernel
theorem dX9_lend_26 : decode cX9_lend 26 = .ok (.athrow, 1) := by decide +kernel
theorem dX9_lend_27 : decode cX9_lend 27 = .ok (.aload_n 3, 1) := by decide +kernel
theorem dX9_lend_28 : decode cX9_lend 28 = .ok (.getfield 167, 3) := by decide +kernel
theorem dX9_lend_31 : decode cX9_lend 31 = .ok (.iload_n 2, 1) := by decide +kernel
theorem dX9_lend_32 : decode cX9_lend 32 = .ok (.iadd, 1) := by decide +kernel
theorem dX9_lend_33 : decode cX9_lend 33 = .ok (.ldc 170, 2) := by decide +kernel
theorem dX9_lend_35 : decode cX9_lend 35 = .ok (.if_icmp .le 13, 3) := by decide +kernel
theorem dX9_lend_38 : decode cX9_lend 38 = .ok (.new 89, 3) := by decide +kernel
theorem dX9_lend_41 : decode cX9_lend 41 = .ok (.dup, 1) := by decide +kernel
theorem dX9_lend_42 : decode cX9_lend 42 = .ok (.ldc 171, 2) := by decide +kernel
theorem dX9_lend_44 : decode cX9_lend 44 = .ok (.invokespecial 93, 3) := by decide +kernel
theorem dX9_lend_47 : decode cX9_lend 47 = .ok (.athrow, 1) := by decide +kernel
theorem dX9_lend_48 : decode cX9_lend 48 = .ok (.aload_n 3, 1) := by decide +kernel
theorem dX9_lend_49 : decode cX9_lend 49 = .ok (.dup, 1) := by decide +kernel
theorem dX9_lend_50 : decode cX9_lend 50 = .ok (.getfield 167, 3) := by decide +kernel
theorem dX9_lend_53 : decode cX9_lend 53 = .ok (.iload_n 2, 1) := by decide +kernel
theorem dX9_lend_54 : decode cX9_lend 54 = .ok (.iadd, 1) := by decide +kernel
theorem dX9_lend_55 : decode cX9_lend 55 = .ok (.putfield 167, 3) := by decide +kernel
theorem dX9_lend_58 : decode cX9_lend 58 = .ok (.aload_n 3, 1) := by decide +kernel
theorem dX9_lend_59 : decode cX9_lend 59 = .ok (.getfield 167, 3) := by decide +kernel
theorem dX9_lend_62 : decode cX9_lend 62 = .ok (.ireturn, 1) := by decide +kernel
set_option maxHeartbeats 1000000 in
set_option maxRecDepth 100000 in
theorem c_X9_lend (de : Nat) (w : Wd) (x : Nat) (A : Nat → Nat → Int32) (F : Nat → Int32) (nS nP nF nC tl : Nat) (ho cf cp cs sb pn : Nat → Nat) (dn : Nat → Nat → Nat) (ch : Nat → Nat → List (Nat × Int32)) (ca : Nat → Nat → Nat) (h : RC0 w de x A F nS nP nF nC tl ho cf cp cs sb pn dn ch ca) (hB : KB w nC A F ca) (T rt ly : Nat) (sN : Nat → Nat) (hv : PV A F nS nP nF nC tl ho cf cp cs sb pn dn ch T rt ly sN) (xa am : Int32) (fi : Nat) (hfi : inR xa 0 (F 17 - 1) = true → xa = nI fi ∧ fi < nF) : Cw yX9_lend cX9_lend 4 (some .int) 7 111 5 30 de [.ref x, .int xa, .int am] w (fun r w' => goV (bI (inR xa 0 (F 17 - 1))) (bI (inR am 1 9999)) (bI (inR xa 0 (F 17 - 1) && (inR am 1 9999 && decide (A 14 fi + am ≤ 99999)))) = 0 ∧ r = some (.int (A 14 fi + am)) ∧ RC0 w' de x (updA A 14 fi (A 14 fi + am)) (F) nS nP nF nC tl ho cf cp cs sb pn dn ch ca ∧ KB w' nC (updA A 14 fi (A 14 fi + am)) (F) ca ∧ FrR w w') (fun E w' => w = w' ∧ ((E = "java/lang/IndexOutOfBoundsException" ∧ goV (bI (inR xa 0 (F 17 - 1))) (bI (inR am 1 9999)) (bI (inR xa 0 (F 17 - 1) && (inR am 1 9999 && decide (A 14 fi + am ≤ 99999)))) = 1) ∨ (E = "java/lang/IllegalArgumentException" ∧ goV (bI (inR xa 0 (F 17 - 1))) (bI (inR am 1 9999)) (bI (inR xa 0 (F 17 - 1) && (inR am 1 9999 && decide (A 14 fi + am ≤ 99999)))) = 2) ∨ (E = "java/lang/IllegalStateException" ∧ goV (bI (inR xa 0 (F 17 - 1))) (bI (inR am 1 9999)) (bI (inR xa 0 (F 17 - 1) && (inR am 1 9999 && decide (A 14 fi + am ≤ 99999)))) = 3))) := by
  refine Cw.mk (by decide +kernel) [(0, .ref x), (1, .int xa), (2, .int am)] rfl (Nat.le_of_ble_eq_true rfl) ?_
  intro p l e R s m args below meth c D cy z C ht
  obtain ⟨h60, h16, h5, hcv, hho⟩ := id hv.hcv
  have hfr : FrR w w := FrR.rf
  have hbk : Kp [2] w w := Kp.rf
  have hnS : nS < 100000 := by omega
  have hnP : nP < 100000 := by have := hv.hP6; omega
  have hnF : nF < 100000 := by omega
  have hnC : nC < 100000 := by omega
  refine g_aload_n C dX9_lend_0 rfl ?_
  refine g_iload_n C dX9_lend_1 rfl ?_
  refine gx_callV C cls_10 11 mt_X9_farmNumbered [.int xa] (c_X9_farmNumbered de w x A F nS nP nF nC tl ho cf cp cs sb pn dn ch ca h xa fi hv.hN hnF hfi) h.1.1 (by decide) k_569 rfl rfl (Nat.le_of_ble_eq_true rfl) (by decide) (by decide) (by decide) (by decide) dX9_lend_2 (fun E9 w9 hx9 => gx_out C ht (by decide) (by decide) ⟨hx9.2.1, Or.inl ⟨hx9.1, goV_1 hx9.2.2⟩⟩) (fun r_2 w_2 hp_2 => ?_)
  obtain ⟨rfl, rfl, f_2⟩ := hp_2
  obtain ⟨rfl, hf5⟩ := hfi f_2
  refine g_astore_n C dX9_lend_5 (by decide) ?_
  refine g_iload_n C dX9_lend_6 rfl ?_
  refine g_iconst C 1 dX9_lend_7 (by rfl) ?_
  refine g_sipush C 9999 dX9_lend_8 (by rfl) ?_
  refine g_callS C mt_X9_isWithin [.int am, .int 1, .int 9999] (c_X9_isWithin de w am 1 9999) k_189 rfl rfl (Nat.le_of_ble_eq_true rfl) (by decide) (by decide) (by decide) (by decide) dX9_lend_11 (fun r_11 w_11 hp_11 => ?_)
  obtain ⟨rfl, rfl⟩ := hp_11
  refine g_if_ne C 27 dX9_lend_14 (by decide) (fun c_14 => ?_) (fun c_14 => ?_)
  · have b_14 := bI_n0.mp c_14
    refine g_aload_n C dX9_lend_27 rfl ?_
    refine g_getI C cls_3 4 4 (h.2.2.2.2.2.1.2 fi hf5).1 rfl k_542 dX9_lend_28 ?_
    rw [(h.2.2.2.2.2.1.2 fi hf5).2.2.2.2.2.2.2.2.1]
    refine g_iload_n C dX9_lend_31 rfl ?_
    refine g_iadd C dX9_lend_32 ?_
    refine g_ldc C k_575 dX9_lend_33 ?_
    refine g_icmp_le C 48 dX9_lend_35 (by decide) (fun c_35 => ?_) (fun c_35 => ?_)
    · have b_35 := And.intro (decide_eq_false (Int32.not_lt.mpr c_35)) (decide_eq_true c_35)
      refine g_aload_n C dX9_lend_48 rfl ?_
      refine g_dup C dX9_lend_49 rfl ?_
      refine g_getI C cls_3 4 4 (h.2.2.2.2.2.1.2 fi hf5).1 rfl k_542 dX9_lend_50 ?_
      rw [(h.2.2.2.2.2.1.2 fi hf5).2.2.2.2.2.2.2.2.1]
      refine g_iload_n C dX9_lend_53 rfl ?_
      refine g_iadd C dX9_lend_54 ?_
      refine g_putI C cls_3 4 4 (h.2.2.2.2.2.1.2 fi hf5).1 rfl (Or.inl rfl) rfl rfl k_542 dX9_lend_55 ?_
      replace hfr := hfr.tr (FrR.pI (h.2.2.2.2.2.1.2 fi hf5).1 (by decide) : FrR _ (pI w 4 4 (ca 6 fi) (A 14 fi + am)))
      replace hbk := hbk.tr (Kp.pI (h.2.2.2.2.2.1.2 fi hf5).1 (by decide) : Kp [2] _ (pI w 4 4 (ca 6 fi) (A 14 fi + am)))
      replace h := h.far4 hf5 (A 14 fi + am)
      generalize pI w 4 4 (ca 6 fi) (A 14 fi + am) = w1 at h hfr hbk ⊢
      refine g_aload_n C dX9_lend_58 rfl ?_
      refine g_getI C cls_3 4 4 (h.2.2.2.2.2.1.2 fi hf5).1 rfl k_542 dX9_lend_59 ?_
      rw [(h.2.2.2.2.2.1.2 fi hf5).2.2.2.2.2.2.2.2.1]
      refine gx_ret <| g_iret C rfl rfl (by decide) (by decide) dX9_lend_62 ?_
      exact ⟨goV_0000 f_2 b_14 (and_t f_2 (and_t b_14 b_35.2)), congrArg (fun v => some (Value.int v)) (updA_eq), h, hB.mv hbk rfl rfl, hfr⟩
    · have b_35 := And.intro (decide_eq_true (Int32.not_le.mp c_35)) (decide_eq_false c_35)
      exact gx_throw C ht th_X9_93 k_264 k_15 (is := 171) (text := "the debt would be above 99999") (by decide) dX9_lend_38 dX9_lend_41 dX9_lend_42 dX9_lend_44 dX9_lend_47 (by decide) (Nat.le_of_ble_eq_true rfl) (by decide) (by decide) ⟨rfl, Or.inr (Or.inr ⟨rfl, goV_3 f_2 b_14 (and_f2 (and_f2 b_35.2))⟩)⟩
  · have b_14 := bI_0.mp c_14
    exact gx_throw C ht th_X9_117 k_192 k_14 (is := 165) (text := "amount is out of range") (by decide) dX9_lend_17 dX9_lend_20 dX9_lend_21 dX9_lend_23 dX9_lend_26 (by decide) (Nat.le_of_ble_eq_true rfl) (by decide) (by decide) ⟨rfl, Or.inr (Or.inl ⟨rfl, goV_2 f_2 b_14⟩)⟩
theorem dX9_loss_0 : decode cX9_loss 0 = .ok (.aload_n 0, 1) := by decide +kernel
theorem dX9_loss_1 : decode cX9_loss 1 = .ok (.iload_n 1, 1) := by decide +kernel
theorem dX9_loss_2 : decode cX9_loss 2 = .ok (.invokevirtual 161, 3) := by decide +kernel
theorem dX9_loss_5 : decode cX9_loss 5 = .ok (.astore 4, 2) := by decide +kernel
theorem dX9_loss_7 : decode cX9_loss 7 = .ok (.iload_n 2, 1) := by decide +kernel
theorem dX9_loss_8 : decode cX9_loss 8 = .ok (.invokestatic 181, 3) := by decide +kernel
theorem dX9_loss_11 : decode cX9_loss 11 = .ok (.iload_n 3, 1) := by decide +kernel
theorem dX9_loss_12 : decode cX9_loss 12 = .ok (.iconst 0, 1) := by decide +kernel
theorem dX9_loss_13 : decode cX9_loss 13 = .ok (.bipush 100, 2) := by decide +kernel
theorem dX9_loss_15 : decode cX9_loss 15 = .ok (.invokestatic 109, 3) := by decide +kernel
theorem dX9_loss_18 : decode cX9_loss 18 = .ok (.ifCond .ne 13, 3) := by decide +kernel
theorem dX9_loss_21 : decode cX9_loss 21 = .ok (.new 113, 3) := by decide +kernel
theorem dX9_loss_24 : decode cX9_loss 24 = .ok (.dup, 1) := by decide +kernel
theorem dX9_loss_25 : decode cX9_loss 25 = .ok (.ldc 173, 2) := by decide +kernel
theorem dX9_loss_27 : decode cX9_loss 27 = .ok (.invokespecial 117, 3) := by decide +kernel
theorem dX9_loss_30 : decode cX9_loss 30 = .ok (.athrow, 1) := by decide +kernel
theorem dX9_loss_31 : decode cX9_loss 31 = .ok (.aload_n 0, 1) := by decide +kernel
theorem dX9_loss_32 : decode cX9_loss 32 = .ok (.iload_n 2, 1) := by decide +kernel
theorem dX9_loss_33 : decode cX9_loss 33 = .ok (.invokevirtual 254, 3) := by decide +kernel
theorem dX9_loss_36 : decode cX9_loss 36 = .ok (.ifCond .ne 14, 3) := by decide +kernel
theorem dX9_loss_39 : decode cX9_loss 39 = .ok (.new 89, 3) := by decide +kernel
theorem dX9_loss_42 : decode cX9_loss 42 = .ok (.dup, 1) := by decide +kernel
theorem dX9_loss_43 : decode cX9_loss 43 = .ok (.ldc_w 257, 3) := by decide +kernel
theorem dX9_loss_46 : decode cX9_loss 46 = .ok (.invokespecial 93, 3) := by decide +kernel
theorem dX9_loss_49 : decode cX9_loss 49 = .ok (.athrow, 1) := by decide +kernel
theorem dX9_loss_50 : decode cX9_loss 50 = .ok (.aload 4, 2) := by decide +kernel
theorem dX9_loss_52 : decode cX9_loss 52 = .ok (.getfield 259, 3) := by decide +kernel
theorem dX9_loss_55 : decode cX9_loss 55 = .ok (.iload_n 2, 1) := by decide +kernel
theorem dX9_loss_56 : decode cX9_loss 56 = .ok (.iaload, 1) := by decide +kernel
theorem dX9_loss_57 : decode cX9_loss 57 = .ok (.istore 5, 2) := by decide +kernel
theorem dX9_loss_59 : decode cX9_loss 59 = .ok (.aload 4, 2) := by decide +kernel
theorem dX9_loss_61 : decode cX9_loss 61 = .ok (.getfield 259, 3) := by decide +kernel
theorem dX9_loss_64 : decode cX9_loss 64 = .ok (.iload_n 2, 1) := by decide +kernel
theorem dX9_loss_65 : decode cX9_loss 65 = .ok (.iload_n 3, 1) := by decide +kernel
theorem dX9_loss_66 : decode cX9_loss 66 = .ok (.iastore, 1) := by decide +kernel
theorem dX9_loss_67 : decode cX9_loss 67 = .ok (.iload 5, 2) := by decide +kernel
theorem dX9_loss_69 : decode cX9_loss 69 = .ok (.ireturn, 1) := by decide +kernel
set_option maxHeartbeats 1000000 in
set_option maxRecDepth 100000 in
theorem c_X9_loss (de : Nat) (w : Wd) (x : Nat) (A : Nat → Nat → Int32) (F : Nat → Int32) (nS nP nF nC tl : Nat) (ho cf cp cs sb pn : Nat → Nat) (dn : Nat → Nat → Nat) (ch : Nat → Nat → List (Nat × Int32)) (ca : Nat → Nat → Nat) (h : RC0 w de x A F nS nP nF nC tl ho cf cp cs sb pn dn ch ca) (hB : KB w nC A F ca) (T rt ly : Nat) (sN : Nat → Nat) (hv : PV A F nS nP nF nC tl ho cf cp cs sb pn dn ch T rt ly sN) (xa xs hu : Int32) (fi : Nat) (hfi : inR xa 0 (F 17 - 1) = true → xa = nI fi ∧ fi < nF) (se : Nat) (hse : inR xs 0 19 = true → xs = nI se ∧ se < 20) : Cw yX9_loss cX9_loss 6 (some .int) 7 111 5 30 de [.ref x, .int xa, .int xs, .int hu] w (fun r w' => goV (bI (inR xa 0 (F 17 - 1) && inR xs 0 19)) (bI (inR hu 0 100)) (bI ((inR xa 0 (F 17 - 1) && inR xs 0 19) && decide (60 * xs ≤ F 0))) = 0 ∧ r = some (.int (A 18 (20 * fi + se) - 1)) ∧ RC0 w' de x (updA A 18 (20 * fi + se) (hu + 1)) (F) nS nP nF nC tl ho cf cp cs sb pn dn ch ca ∧ KB w' nC (updA A 18 (20 * fi + se) (hu + 1)) (F) ca ∧ FrR w w') (fun E w' => w = w' ∧ ((E = "java/lang/IndexOutOfBoundsException" ∧ goV (bI (inR xa 0 (F 17 - 1) && inR xs 0 19)) (bI (inR hu 0 100)) (bI ((inR xa 0 (F 17 - 1) && inR xs 0 19) && decide (60 * xs ≤ F 0))) = 1) ∨ (E = "java/lang/IllegalArgumentException" ∧ goV (bI (inR xa 0 (F 17 - 1) && inR xs 0 19)) (bI (inR hu 0 100)) (bI ((inR xa 0 (F 17 - 1) && inR xs 0 19) && decide (60 * xs ≤ F 0))) = 2) ∨ (E = "java/lang/IllegalStateException" ∧ goV (bI (inR xa 0 (F 17 - 1) && inR xs 0 19)) (bI (inR hu 0 100)) (bI ((inR xa 0 (F 17 - 1) && inR xs 0 19) && decide (60 * xs ≤ F 0))) = 3))) := by
  refine Cw.mk (by decide +kernel) [(0, .ref x), (1, .int xa), (2, .int xs), (3, .int hu)] rfl (Nat.le_of_ble_eq_true rfl) ?_
  intro p l e R s m args below meth c D cy z C ht
  obtain ⟨h60, h16, h5, hcv, hho⟩ := id hv.hcv
  have hfr : FrR w w := FrR.rf
  have hbk : Kp [2] w w := Kp.rf
  have hnS : nS < 100000 := by omega
  have hnP : nP < 100000 := by have := hv.hP6; omega
  have hnF : nF < 100000 := by omega
  have hnC : nC < 100000 := by omega
  refine g_aload_n C dX9_loss_0 rfl ?_
  refine g_iload_n C dX9_loss_1 rfl ?_
  refine gx_callV C cls_10 11 mt_X9_farmNumbered [.int xa] (c_X9_farmNumbered de w x A F nS nP nF nC tl ho cf cp cs sb pn dn ch ca h xa fi hv.hN hnF hfi) h.1.1 (by decide) k_569 rfl rfl (Nat.le_of_ble_eq_true rfl) (by decide) (by decide) (by decide) (by decide) dX9_loss_2 (fun E9 w9 hx9 => gx_out C ht (by decide) (by decide) ⟨hx9.2.1, Or.inl ⟨hx9.1, goV_1 (and_f1 hx9.2.2)⟩⟩) (fun r_2 w_2 hp_2 => ?_)
  obtain ⟨rfl, rfl, f_2⟩ := hp_2
  obtain ⟨rfl, hf5⟩ := hfi f_2
  refine g_astore C dX9_loss_5 (by decide) ?_
  refine g_iload_n C dX9_loss_7 rfl ?_
  refine gx_callS C mt_X9_testSeason [.int xs] (c_X9_testSeason de w xs) k_605 rfl rfl (Nat.le_of_ble_eq_true rfl) (by decide) (by decide) (by decide) (by decide) dX9_loss_8 (fun E9 w9 hx9 => gx_out C ht (by decide) (by decide) ⟨hx9.2.1, Or.inl ⟨hx9.1, goV_1 (and_f2 hx9.2.2)⟩⟩) (fun r_8 w_8 hp_8 => ?_)
  obtain ⟨rfl, rfl, f_8⟩ := hp_8
  obtain ⟨rfl, he5⟩ := hse f_8
  refine g_iload_n C dX9_loss_11 rfl ?_
  refine g_iconst C 0 dX9_loss_12 (by rfl) ?_
  refine g_bipush C 100 dX9_loss_13 (by rfl) ?_
  refine g_callS C mt_X9_isWithin [.int hu, .int 0, .int 100] (c_X9_isWithin de w hu 0 100) k_189 rfl rfl (Nat.le_of_ble_eq_true rfl) (by decide) (by decide) (by decide) (by decide) dX9_loss_15 (fun r_15 w_15 hp_15 => ?_)
  obtain ⟨rfl, rfl⟩ := hp_15
  refine g_if_ne C 31 dX9_loss_18 (by decide) (fun c_18 => ?_) (fun c_18 => ?_)
  · have b_18 := bI_n0.mp c_18
    refine g_aload_n C dX9_loss_31 rfl ?_
    refine g_iload_n C dX9_loss_32 rfl ?_
    refine g_callV C cls_10 11 mt_X9_hasBegun [.int (nI se)] (c_X9_hasBegun de w x h.1.1 (nI se)) h.1.1 (by decide) k_784 rfl rfl (Nat.le_of_ble_eq_true rfl) (by decide) (by decide) (by decide) (by decide) dX9_loss_33 (fun r_33 w_33 hp_33 => ?_)
    obtain ⟨rfl, rfl⟩ := hp_33
    rw [h.1.2.2.2.2.2.2.2.2.2.1, Int32.mul_comm]
    refine g_if_ne C 50 dX9_loss_36 (by decide) (fun c_36 => ?_) (fun c_36 => ?_)
    · have b_36 := bI_n0.mp c_36
      refine g_aload C dX9_loss_50 rfl ?_
      refine g_getR (b := (ca 7 fi)) C cls_3 4 2 (h.2.2.2.2.2.1.2 fi hf5).1 (h.2.2.2.2.2.1.2 fi hf5).2.2.2.1 rfl k_538 dX9_loss_52 ?_
      refine g_iload_n C dX9_loss_55 rfl ?_
      refine g_iald C 1030 (h.2.2.2.2.2.1.2 fi hf5).2.2.2.2.1 rfl (by rw [(h.2.2.2.2.2.1.2 fi hf5).2.2.2.2.2.1]; exact nI_vp he5 (by omega)) dX9_loss_56 ?_
      rw [nI_tn (by omega), (h.2.2.2.2.2.1.2 fi hf5).2.2.2.2.2.2.1 se he5]
      refine g_istore C dX9_loss_57 (by decide) ?_
      refine g_aload C dX9_loss_59 rfl ?_
      refine g_getR (b := (ca 7 fi)) C cls_3 4 2 (h.2.2.2.2.2.1.2 fi hf5).1 (h.2.2.2.2.2.1.2 fi hf5).2.2.2.1 rfl k_538 dX9_loss_61 ?_
      refine g_iload_n C dX9_loss_64 rfl ?_
      refine g_iload_n C dX9_loss_65 rfl ?_
      refine g_iast C 1030 (h.2.2.2.2.2.1.2 fi hf5).2.2.2.2.1 rfl (by rw [(h.2.2.2.2.2.1.2 fi hf5).2.2.2.2.2.1]; exact nI_vp he5 (by omega)) dX9_loss_66 ?_
      rw [nI_tn (by omega), show pAI w 1030 (ca 7 fi) se hu = pAI w 1030 (ca 7 fi) se (hu + 1 - 1) by rw [a11]]
      replace hfr := hfr.tr (FrR.pAI (h.2.2.2.2.2.1.2 fi hf5).2.2.2.2.1 (by decide) : FrR _ (pAI w 1030 (ca 7 fi) se (hu + 1 - 1)))
      replace hbk := hbk.tr (Kp.pAI (h.2.2.2.2.2.1.2 fi hf5).2.2.2.2.1 (by decide) : Kp [2] _ (pAI w 1030 (ca 7 fi) se (hu + 1 - 1)))
      replace h := h.loss hf5 he5 (hu + 1)
      generalize pAI w 1030 (ca 7 fi) se (hu + 1 - 1) = w1 at h hfr hbk ⊢
      refine g_iload C dX9_loss_67 rfl ?_
      refine gx_ret <| g_iret C rfl rfl (by decide) (by decide) dX9_loss_69 ?_
      exact ⟨goV_0000 (and_t f_2 f_8) b_18 (and_t (and_t f_2 f_8) b_36), congrArg (fun v => some (Value.int v)) (rfl), h, hB.mv hbk rfl rfl, hfr⟩
    · have b_36 := bI_0.mp c_36
      exact gx_throwW C ht th_X9_93 k_264 k_15 (is := 257) (text := "the season has not begun") (by decide) dX9_loss_39 dX9_loss_42 dX9_loss_43 dX9_loss_46 dX9_loss_49 (by decide) (Nat.le_of_ble_eq_true rfl) (by decide) (by decide) ⟨rfl, Or.inr (Or.inr ⟨rfl, goV_3 (and_t f_2 f_8) b_18 (and_f2 b_36)⟩)⟩
  · have b_18 := bI_0.mp c_18
    exact gx_throw C ht th_X9_117 k_192 k_14 (is := 173) (text := "hundredths is out of range") (by decide) dX9_loss_21 dX9_loss_24 dX9_loss_25 dX9_loss_27 dX9_loss_30 (by decide) (Nat.le_of_ble_eq_true rfl) (by decide) (by decide) ⟨rfl, Or.inr (Or.inl ⟨rfl, goV_2 (and_t f_2 f_8) b_18⟩)⟩
theorem tellW {w w1 : Wd} {de nS tl s0 d : Nat} {tt : Int32} {A : Nat → Nat → Int32} {ch : Nat → Nat → List (Nat × Int32)} {ca : Nat → Nat → Nat} (h : KW w de nS tl A ch ca) (hs : s0 < nS) (hd : d < 1200) (hJ : ∀ i j, i < nS → j < nS → (ca 0 i = ca 0 j ∨ ca 1 i = ca 1 j ∨ ca 2 i = ca 2 j) → i = j) (k : Kp [81, 1013, 8, 9, 1041] w w1) (t9 : ∀ b, kd w b ≠ 0 → ¬ (b = ca 1 s0 ∨ b = ca 9 0) → SmA w w1 b)
    (t1 : Chn w1 ((tl, tt) :: ch s0 d) (aR w1 1002 (ca 1 s0) d)) (t2 : ∀ j, j ≠ d → aR w1 1002 (ca 1 s0) j = aR w 1002 (ca 1 s0) j) (t3 : kd w1 (ca 1 s0) = 1002) (t4 : aL w1 (ca 1 s0) = 1200) (t6 : kd w1 (ca 9 0) = 10) (t7 : fR w1 10 0 (ca 9 0) = some (ca 9 3)) (t8 : fI w1 10 1 (ca 9 0) = nI (tl + 1)) : KW w1 de nS (tl + 1) A (chU ch s0 d tl tt) ca := by
  obtain ⟨⟨a1, a2, a3, a4, a5⟩, b1, b2⟩ := h
  refine ⟨⟨t6, t7, a3.kp (k.sub (by decide)) (by decide : 81 ∈ [81, 1013]) (by decide), a4, fun i hi => ?_⟩, t8, fun i hi => ?_⟩
  · obtain ⟨g1, g2, g3, g4, g5, g6, g7, g8⟩ := a5 i hi
    have s := k (ca 0 i) (by rw [g1]; decide)
    refine ⟨s.1.trans g1, (s.2.2.1 _ _).trans g2, (s.2.2.1 _ _).trans g3, (s.2.2.1 _ _).trans g4, (s.2.2.2.1 _ _).trans g5, ?_⟩
    have kc : ∀ b, kd w b = 9 → SmA w w1 b := fun b hb => k b (by rw [hb]; decide)
    by_cases e : i = s0
    · subst e
      refine ⟨t3, t4, fun q hq => ?_⟩
      by_cases e2 : q = d
      · subst e2
        rw [show chU ch i q tl tt i q = (tl, tt) :: ch i q from if_pos ⟨rfl, rfl⟩]
        exact t1
      · rw [show chU ch i d tl tt i q = ch i q from if_neg (fun z => e2 z.2), t2 q e2]
        exact (g8 q hq).keep kc
    · have n1 : ¬ (ca 1 i = ca 1 s0 ∨ ca 1 i = ca 9 0) := fun z => z.elim (fun z => e (hJ i s0 hi hs (Or.inr (Or.inl z)))) (fun z => by rw [z, a1] at g6; exact absurd g6 (by decide))
      have s2 := t9 (ca 1 i) (by rw [g6]; decide) n1
      refine ⟨s2.1.trans g6, s2.2.1.trans g7, fun q hq => ?_⟩
      rw [show chU ch s0 d tl tt i q = ch i q from if_neg (fun z => e z.1), s2.2.2.2.2.2.1]
      exact (g8 q hq).keep kc
  · obtain ⟨g1, g2, g3, g4⟩ := b2 i hi
    have s1 := k (ca 0 i) (by rw [(a5 i hi).1]; decide)
    have s2 := k (ca 2 i) (by rw [g2]; decide)
    exact ⟨(s1.2.2.2.1 _ _).trans g1, s2.1.trans g2, s2.2.1.trans g3, fun j hj => by rw [s2.2.2.2.2.1]; exact g4 j hj⟩
theorem tellR {w w1 : Wd} {de x nS nP nF nC tl tl' : Nat} {A : Nat → Nat → Int32} {F : Nat → Int32} {ho cf cp cs sb pn : Nat → Nat} {dn : Nat → Nat → Nat} {ch ch' : Nat → Nat → List (Nat × Int32)} {ca : Nat → Nat → Nat} {at4 : Nat} (h : RC0 w de x A F nS nP nF nC tl ho cf cp cs sb pn dn ch ca) (k : Kp [11, 1020, 7, 1010, 21, 1023, 6, 101, 1053, 5, 41, 1033, 4, 1030, 61, 1043, 3] w w1) (hW : KW w1 de nS tl' A ch' ca) (v1 v2 : Int32) : RC0 w1 de x (updA (updA A 4 at4 v1) 5 at4 v2) (updF F 6 1) nS nP nF nC tl' ho cf cp cs sb pn dn ch' ca := by
  have e : ∀ q, q ≠ 4 → q ≠ 5 → updA (updA A 4 at4 v1) 5 at4 v2 q = A q := fun q h4 h5 => by rw [updA_row h5, updA_row h4]
  exact ⟨h.1.mv (k.sub (by decide)) (if_neg (by decide)) (if_neg (by decide)) (if_neg (by decide)) (if_neg (by decide)), h.2.1.mv (k.sub (by decide)) (e 25 (by decide) (by decide)), hW.mv (k := Kp.rf) (e 1 (by decide) (by decide)) (e 2 (by decide) (by decide)) (e 26 (by decide) (by decide)), h.2.2.2.1.kp (k.sub (by decide)),
    h.2.2.2.2.1.mv (k.sub (by decide)) (e 7 (by decide) (by decide)) (e 9 (by decide) (by decide)), h.2.2.2.2.2.1.mv (k.sub (by decide)) (e 13 (by decide) (by decide)) (e 14 (by decide) (by decide)) (e 15 (by decide) (by decide)) (e 16 (by decide) (by decide)) (e 18 (by decide) (by decide)), h.2.2.2.2.2.2.1.mv (k.sub (by decide)) (e 23 (by decide) (by decide)) (e 19 (by decide) (by decide)), h.2.2.2.2.2.2.2⟩
theorem dX9_rain_0 : decode cX9_rain 0 = .ok (.aload_n 0, 1) := by decide +kernel
theorem dX9_rain_1 : decode cX9_rain 1 = .ok (.iload_n 1, 1) := by decide +kernel
theorem dX9_rain_2 : decode cX9_rain 2 = .ok (.invokevirtual 105, 3) := by decide +kernel
theorem dX9_rain_5 : decode cX9_rain 5 = .ok (.astore 4, 2) := by decide +kernel
theorem dX9_rain_7 : decode cX9_rain 7 = .ok (.iload_n 2, 1) := by decide +kernel
theorem dX9_rain_8 : decode cX9_rain 8 = .ok (.iconst 0, 1) := by decide +kernel
theorem dX9_rain_9 : decode cX9_rain 9 = .ok (.aload_n 0, 1) := by decide +kernel
theorem dX9_rain_10 : decode cX9_rain 10 = .ok (.getfield 56, 3) := by decide +kernel
theorem dX9_rain_13 : decode cX9_rain 13 = .ok (.invokestatic 109, 3) := by decide +kernel
theorem dX9_rain_16 : decode cX9_rain 16 = .ok (.ifCond .eq 14, 3) := by decide +kernel
theorem dX9_rain_19 : decode cX9_rain 19 = .ok (.iload_n 3, 1) := by decide +kernel
theorem dX9_rain_20 : decode cX9_rain 20 = .ok (.iconst 0, 1) := by decide +kernel
theorem dX9_rain_21 : decode cX9_rain 21 = .ok (.sipush 2000, 3) := by decide +kernel
theorem dX9_rain_24 : decode cX9_rain 24 = .ok (.invokestatic 109, 3) := by decide +kernel
theorem dX9_rain_27 : decode cX9_rain 27 = .ok (.ifCond .ne 13, 3) := by decide +kernel
theorem dX9_rain_30 : decode cX9_rain 30 = .ok (.new 113, 3) := by decide +kernel
theorem dX9_rain_33 : decode cX9_rain 33 = .ok (.dup, 1) := by decide +kernel
theorem dX9_rain_34 : decode cX9_rain 34 = .ok (.ldc 115, 2) := by decide +kernel
theorem dX9_rain_36 : decode cX9_rain 36 = .ok (.invokespecial 117, 3) := by decide +kernel
theorem dX9_rain_39 : decode cX9_rain 39 = .ok (.athrow, 1) := by decide +kernel
theorem dX9_rain_40 : decode cX9_rain 40 = .ok (.aload_n 0, 1) := by decide +kernel
theorem dX9_rain_41 : decode cX9_rain 41 = .ok (.getfield 10, 3) := by decide +kernel
theorem dX9_rain_44 : decode cX9_rain 44 = .ok (.aload 4, 2) := by decide +kernel
theorem dX9_rain_46 : decode cX9_rain 46 = .ok (.iload_n 2, 1) := by decide +kernel
theorem dX9_rain_47 : decode cX9_rain 47 = .ok (.iload_n 3, 1) := by decide +kernel
theorem dX9_rain_48 : decode cX9_rain 48 = .ok (.invokevirtual 118, 3) := by decide +kernel
theorem dX9_rain_51 : decode cX9_rain 51 = .ok (.ireturn, 1) := by decide +kernel
set_option maxHeartbeats 1000000 in
set_option maxRecDepth 100000 in
theorem c_X9_rain (de : Nat) (w : Wd) (x : Nat) (A : Nat → Nat → Int32) (F : Nat → Int32) (nS nP nF nC tl : Nat) (ho cf cp cs sb pn : Nat → Nat) (dn : Nat → Nat → Nat) (ch : Nat → Nat → List (Nat × Int32)) (ca : Nat → Nat → Nat) (h : RC0 w de x A F nS nP nF nC tl ho cf cp cs sb pn dn ch ca) (hB : KB w nC A F ca) (T rt ly : Nat) (sN : Nat → Nat) (hv : PV A F nS nP nF nC tl ho cf cp cs sb pn dn ch T rt ly sN) (xs xd tt : Int32) (s0 : Nat) (hst : inR xs 0 (F 3 - 1) = true → xs = nI s0 ∧ s0 < nS) (d : Nat) (hdd : inR xd 0 (F 0) = true → xd = nI d ∧ d < 1200) (htl : tl < 512) : Cw yX9_rain cX9_rain 5 (some .int) 7 111 6 40 de [.ref x, .int xs, .int xd, .int tt] w (fun r w' => goV (bI (inR xs 0 (F 3 - 1))) (bI (inR xd 0 (F 0) && inR tt 0 2000)) 1 = 0 ∧ r = some (.int (A 5 (1200 * s0 + d) - 1)) ∧ RC0 w' de x (updA (updA A 4 (1200 * s0 + d) (if A 4 (1200 * s0 + d) = 0 then tt + 1 else A 4 (1200 * s0 + d))) 5 (1200 * s0 + d) (tt + 1)) (updF F 6 1) nS nP nF nC (tl + 1) ho cf cp cs sb pn dn (chU ch s0 d tl tt) ca ∧ KB w' nC (updA (updA A 4 (1200 * s0 + d) (if A 4 (1200 * s0 + d) = 0 then tt + 1 else A 4 (1200 * s0 + d))) 5 (1200 * s0 + d) (tt + 1)) (updF F 6 1) ca ∧ FrR w w') (fun E w' => w = w' ∧ ((E = "java/lang/IndexOutOfBoundsException" ∧ goV (bI (inR xs 0 (F 3 - 1))) (bI (inR xd 0 (F 0) && inR tt 0 2000)) 1 = 1) ∨ (E = "java/lang/IllegalArgumentException" ∧ goV (bI (inR xs 0 (F 3 - 1))) (bI (inR xd 0 (F 0) && inR tt 0 2000)) 1 = 2))) := by
  refine Cw.mk (by decide +kernel) [(0, .ref x), (1, .int xs), (2, .int xd), (3, .int tt)] rfl (Nat.le_of_ble_eq_true rfl) ?_
  intro p l e R s m args below meth c D cy z C ht
  obtain ⟨h60, h16, h5, hcv, hho⟩ := id hv.hcv
  have hfr : FrR w w := FrR.rf
  have hbk : Kp [2] w w := Kp.rf
  have hnS : nS < 100000 := by omega
  have hnP : nP < 100000 := by have := hv.hP6; omega
  have hnF : nF < 100000 := by omega
  have hnC : nC < 100000 := by omega
  refine g_aload_n C dX9_rain_0 rfl ?_
  refine g_iload_n C dX9_rain_1 rfl ?_
  refine gx_callV C cls_10 11 mt_X9_stationNumbered [.int xs] (c_X9_stationNumbered de w x A F nS nP nF nC tl ho cf cp cs sb pn dn ch ca h xs s0 hv.hS hnS hst) h.1.1 (by decide) k_379 rfl rfl (Nat.le_of_ble_eq_true rfl) (by decide) (by decide) (by decide) (by decide) dX9_rain_2 (fun E9 w9 hx9 => gx_out C ht (by decide) (by decide) ⟨hx9.2.1, Or.inl ⟨hx9.1, goV_1 hx9.2.2⟩⟩) (fun r_2 w_2 hp_2 => ?_)
  obtain ⟨rfl, rfl, f_2⟩ := hp_2
  obtain ⟨rfl, hs5⟩ := hst f_2
  refine g_astore C dX9_rain_5 (by decide) ?_
  refine g_iload_n C dX9_rain_7 rfl ?_
  refine g_iconst C 0 dX9_rain_8 (by rfl) ?_
  refine g_aload_n C dX9_rain_9 rfl ?_
  refine g_getI C cls_10 11 8 h.1.1 rfl k_144 dX9_rain_10 ?_
  rw [h.1.2.2.2.2.2.2.2.2.2.1]
  refine g_callS C mt_X9_isWithin [.int xd, .int 0, .int (F 0)] (c_X9_isWithin de w xd 0 (F 0)) k_189 rfl rfl (Nat.le_of_ble_eq_true rfl) (by decide) (by decide) (by decide) (by decide) dX9_rain_13 (fun r_13 w_13 hp_13 => ?_)
  obtain ⟨rfl, rfl⟩ := hp_13
  refine g_if_eq C 30 dX9_rain_16 (by decide) (fun c_16 => ?_) (fun c_16 => ?_)
  · have b_16 := bI_0.mp c_16
    exact gx_throw C ht th_X9_117 k_192 k_14 (is := 115) (text := "day or tenths is out of range") (by decide) dX9_rain_30 dX9_rain_33 dX9_rain_34 dX9_rain_36 dX9_rain_39 (by decide) (Nat.le_of_ble_eq_true rfl) (by decide) (by decide) (by first | exact ⟨rfl, Or.inr (⟨rfl, goV_2 f_2 (and_f1 b_16)⟩)⟩ | exact ⟨rfl, Or.inr (⟨rfl, goV_2 f_2 (and_f2 b_27)⟩)⟩)
  · have b_16 := bI_n0.mp c_16
    refine g_iload_n C dX9_rain_19 rfl ?_
    refine g_iconst C 0 dX9_rain_20 (by rfl) ?_
    refine g_sipush C 2000 dX9_rain_21 (by rfl) ?_
    refine g_callS C mt_X9_isWithin [.int tt, .int 0, .int 2000] (c_X9_isWithin de w tt 0 2000) k_189 rfl rfl (Nat.le_of_ble_eq_true rfl) (by decide) (by decide) (by decide) (by decide) dX9_rain_24 (fun r_24 w_24 hp_24 => ?_)
    obtain ⟨rfl, rfl⟩ := hp_24
    refine g_if_ne C 40 dX9_rain_27 (by decide) (fun c_27 => ?_) (fun c_27 => ?_)
    · have b_27 := bI_n0.mp c_27
      obtain ⟨rfl, hd5⟩ := hdd b_16
      refine g_aload_n C dX9_rain_40 rfl ?_
      refine g_getR (b := (ca 9 0)) C cls_10 11 0 h.1.1 h.1.2.1 rfl k_136 dX9_rain_41 ?_
      refine g_aload C dX9_rain_44 rfl ?_
      refine g_iload_n C dX9_rain_46 rfl ?_
      refine g_iload_n C dX9_rain_47 rfl ?_
      refine g_callV C cls_9 10 mt_X8_tell [.ref (ca 0 s0), .int (nI d), .int tt] (c_X8_tell de w (ca 9 0) (ca 9 3) nS (ca 0) (ca 1) (A 1) (A 2) ch h.2.2.1.1 s0 d tl tt hs5 hd5 htl h.2.2.1.2.1) h.2.2.1.1.1 (by decide) k_414 rfl rfl (Nat.le_of_ble_eq_true rfl) (by decide) (by decide) (by decide) (by decide) dX9_rain_48 (fun r_48 w_48 hp_48 => ?_)
      obtain ⟨rfl, t1, t2, t3, t4, t5, t6, t7, t8⟩ := hp_48
      have t9 : (∀ b, kd w b ≠ 0 → ¬ (b = ca 1 s0 ∨ b = ca 9 0) → SmA w w_48 b) := fun b hb hx => t5 b hb (fun z => hx (Or.inl z)) (fun z => hx (Or.inr z))
      have tk : ∀ b, (b = ca 1 s0 ∨ b = ca 9 0) → kd w b = 1002 ∨ kd w b = 10 := fun b hb => hb.elim (fun z => Or.inl (by rw [z]; exact (h.2.2.1.1.2.2.2.2 s0 hs5).2.2.2.2.2.1)) (fun z => Or.inr (by rw [z]; exact h.2.2.1.1.1))
      have kp : ∀ S : List Nat, 1002 ∉ S → 10 ∉ S → 0 ∉ S → Kp S w w_48 := fun S g1 g2 g0 => Kp.of t9 (fun b hb => by rcases tk b hb with z | z <;> rw [z] <;> assumption) g0
      have hfr9 : FrR w w_48 := FrR.of t9 (fun b hb => by rcases tk b hb with z | z <;> rw [z] <;> decide)
      have hW9 := tellW h.2.2.1 hs5 hd5 h.2.2.2.2.2.2.2.1 (kp [81, 1013, 8, 9, 1041] (by decide) (by decide) (by decide)) t9 t1 t2 t3 t4 t6 t7 t8
      have h9 := tellR (at4 := 1200 * s0 + d) h (kp [11, 1020, 7, 1010, 21, 1023, 6, 101, 1053, 5, 41, 1033, 4, 1030, 61, 1043, 3] (by decide) (by decide) (by decide)) hW9 (if A 4 (1200 * s0 + d) = 0 then tt + 1 else A 4 (1200 * s0 + d)) (tt + 1)
      refine gx_ret <| g_iret C rfl rfl (by decide) (by decide) dX9_rain_51 ?_
      exact ⟨goV_000 f_2 (and_t b_16 b_27), congrArg (fun v => some (Value.int v)) (((hv.hca s0 (by omega) d hd5).1.dat (kn := 1) (hv.hca s0 (by omega) d hd5).2.1).1), h9, hB.mv (kp [2] (by decide) (by decide) (by decide)) rfl (if_neg (by decide)), hfr9⟩
    · have b_27 := bI_0.mp c_27
      exact gx_throw C ht th_X9_117 k_192 k_14 (is := 115) (text := "day or tenths is out of range") (by decide) dX9_rain_30 dX9_rain_33 dX9_rain_34 dX9_rain_36 dX9_rain_39 (by decide) (Nat.le_of_ble_eq_true rfl) (by decide) (by decide) (by first | exact ⟨rfl, Or.inr (⟨rfl, goV_2 f_2 (and_f1 b_16)⟩)⟩ | exact ⟨rfl, Or.inr (⟨rfl, goV_2 f_2 (and_f2 b_27)⟩)⟩)
end PUB41
