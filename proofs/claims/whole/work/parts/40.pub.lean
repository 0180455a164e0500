section PUB40
/-- what the numbers keep to -/
def PV (A : Nat → Nat → Int32) (F : Nat → Int32) (nS nP nF nC tl : Nat) (ho cf cp cs sb pn : Nat → Nat) (dn : Nat → Nat → Nat) (ch : Nat → Nat → List (Nat × Int32)) (T rt ly : Nat) (sN : Nat → Nat) : Prop := F 0 = nI T ∧ T < 1200 ∧ F 3 = nI nS ∧ F 6 = (if tl = 0 then 0 else 1) ∧ F 10 = nI nP ∧ nP ≤ 6 ∧ F 11 = nI (pn 6) ∧ F 17 = nI nF ∧ F 24 = nI nC ∧ F 21 = nI rt ∧ F 22 = nI ly ∧ rt ≤ 99999 ∧ ly ≤ 99999 ∧ CVA A nC nF nS cf cs ho ∧ (∀ k, k < nC → A 23 (10 * k + 1) = nI (cp k) ∧ cp k < nP ∧ A 23 (10 * k + 2) = nI (sN k) ∧ 1 ≤ sN k ∧ sN k ≤ 2000) ∧ UQ nC cf cs ∧ LSB A nF ∧ TRB A nF ∧ (∀ j, j < 20 → ∃ t : Nat, t ≤ 1200 ∧ A 25 j = nI t) ∧ (∀ k, k < nC → sb k ≤ tl ∧ ((A 25 (cs k) = 0 ∧ A 23 (10 * k + 6) = -1 ∧ A 23 (10 * k + 7) = -1 ∧ A 23 (10 * k + 8) = 0) ∨ (¬ A 25 (cs k) = 0 ∧ ∃ r : Nat, r ≤ 1000 ∧ A 23 (10 * k + 6) = nI r ∧ A 23 (10 * k + 7) = nI (sN k * r / 1000) ∧ ratC A nS ch (cp k) (pn (cp k)) (dn (cp k)) (sb k) (ho (cf k)) (cs k) = nI r))) ∧ XYG A nS ∧ ChA A nS tl ch ∧ ChB ch ∧ (∀ k, k < nP → PHB A k (pn k) (dn k) ∧ A 8 k = nI (pn k)) ∧ PHB A 6 (pn 6) (dn 6) ∧ (∀ f, nF ≤ f → f < 16 → A 14 f = 0 ∧ A 15 f = 0 ∧ A 16 f = 0 ∧ ∀ q, q < 20 → A 18 (20 * f + q) = 0) ∧ (∀ f q, q < 20 → (∀ k, k < nC → ¬ (cf k = f ∧ cs k = q)) → A 19 (20 * f + q) = 0) ∧ (∀ k, nC ≤ k → k < 60 → A 23 (10 * k + 8) = 0 ∧ A 23 (10 * k + 9) = 0) ∧ (∀ s, nS ≤ s → s < 5 → ∀ q, q < 20 → A 26 (20 * s + q) = 0) ∧ (∀ j, j < 20 → ¬ A 25 j = 0 → (j + 1) * 60 ≤ T) ∧ A 8 6 = 0
section
variable {A : Nat → Nat → Int32} {F : Nat → Int32} {nS nP nF nC tl : Nat} {ho cf cp cs sb pn : Nat → Nat} {dn : Nat → Nat → Nat} {ch : Nat → Nat → List (Nat × Int32)} {T rt ly : Nat} {sN : Nat → Nat}
theorem PV.hT (h : PV A F nS nP nF nC tl ho cf cp cs sb pn dn ch T rt ly sN) : F 0 = nI T := h.1
theorem PV.hT2 (h : PV A F nS nP nF nC tl ho cf cp cs sb pn dn ch T rt ly sN) : T < 1200 := h.2.1
theorem PV.hS (h : PV A F nS nP nF nC tl ho cf cp cs sb pn dn ch T rt ly sN) : F 3 = nI nS := h.2.2.1
theorem PV.hra (h : PV A F nS nP nF nC tl ho cf cp cs sb pn dn ch T rt ly sN) : F 6 = (if tl = 0 then 0 else 1) := h.2.2.2.1
theorem PV.hP (h : PV A F nS nP nF nC tl ho cf cp cs sb pn dn ch T rt ly sN) : F 10 = nI nP := h.2.2.2.2.1
theorem PV.hP6 (h : PV A F nS nP nF nC tl ho cf cp cs sb pn dn ch T rt ly sN) : nP ≤ 6 := h.2.2.2.2.2.1
theorem PV.hD (h : PV A F nS nP nF nC tl ho cf cp cs sb pn dn ch T rt ly sN) : F 11 = nI (pn 6) := h.2.2.2.2.2.2.1
theorem PV.hN (h : PV A F nS nP nF nC tl ho cf cp cs sb pn dn ch T rt ly sN) : F 17 = nI nF := h.2.2.2.2.2.2.2.1
theorem PV.hC (h : PV A F nS nP nF nC tl ho cf cp cs sb pn dn ch T rt ly sN) : F 24 = nI nC := h.2.2.2.2.2.2.2.2.1
theorem PV.hrt (h : PV A F nS nP nF nC tl ho cf cp cs sb pn dn ch T rt ly sN) : F 21 = nI rt := h.2.2.2.2.2.2.2.2.2.1
theorem PV.hly (h : PV A F nS nP nF nC tl ho cf cp cs sb pn dn ch T rt ly sN) : F 22 = nI ly := h.2.2.2.2.2.2.2.2.2.2.1
theorem PV.hr9 (h : PV A F nS nP nF nC tl ho cf cp cs sb pn dn ch T rt ly sN) : rt ≤ 99999 := h.2.2.2.2.2.2.2.2.2.2.2.1
theorem PV.hl9 (h : PV A F nS nP nF nC tl ho cf cp cs sb pn dn ch T rt ly sN) : ly ≤ 99999 := h.2.2.2.2.2.2.2.2.2.2.2.2.1
theorem PV.hcv (h : PV A F nS nP nF nC tl ho cf cp cs sb pn dn ch T rt ly sN) : CVA A nC nF nS cf cs ho := h.2.2.2.2.2.2.2.2.2.2.2.2.2.1
theorem PV.hco (h : PV A F nS nP nF nC tl ho cf cp cs sb pn dn ch T rt ly sN) : ∀ k, k < nC → A 23 (10 * k + 1) = nI (cp k) ∧ cp k < nP ∧ A 23 (10 * k + 2) = nI (sN k) ∧ 1 ≤ sN k ∧ sN k ≤ 2000 := h.2.2.2.2.2.2.2.2.2.2.2.2.2.2.1
theorem PV.huq (h : PV A F nS nP nF nC tl ho cf cp cs sb pn dn ch T rt ly sN) : UQ nC cf cs := h.2.2.2.2.2.2.2.2.2.2.2.2.2.2.2.1
theorem PV.hls (h : PV A F nS nP nF nC tl ho cf cp cs sb pn dn ch T rt ly sN) : LSB A nF := h.2.2.2.2.2.2.2.2.2.2.2.2.2.2.2.2.1
theorem PV.htr (h : PV A F nS nP nF nC tl ho cf cp cs sb pn dn ch T rt ly sN) : TRB A nF := h.2.2.2.2.2.2.2.2.2.2.2.2.2.2.2.2.2.1
theorem PV.hse (h : PV A F nS nP nF nC tl ho cf cp cs sb pn dn ch T rt ly sN) : ∀ j, j < 20 → ∃ t : Nat, t ≤ 1200 ∧ A 25 j = nI t := h.2.2.2.2.2.2.2.2.2.2.2.2.2.2.2.2.2.2.1
theorem PV.hdu (h : PV A F nS nP nF nC tl ho cf cp cs sb pn dn ch T rt ly sN) : ∀ k, k < nC → sb k ≤ tl ∧ ((A 25 (cs k) = 0 ∧ A 23 (10 * k + 6) = -1 ∧ A 23 (10 * k + 7) = -1 ∧ A 23 (10 * k + 8) = 0) ∨ (¬ A 25 (cs k) = 0 ∧ ∃ r : Nat, r ≤ 1000 ∧ A 23 (10 * k + 6) = nI r ∧ A 23 (10 * k + 7) = nI (sN k * r / 1000) ∧ ratC A nS ch (cp k) (pn (cp k)) (dn (cp k)) (sb k) (ho (cf k)) (cs k) = nI r)) := h.2.2.2.2.2.2.2.2.2.2.2.2.2.2.2.2.2.2.2.1
theorem PV.hxy (h : PV A F nS nP nF nC tl ho cf cp cs sb pn dn ch T rt ly sN) : XYG A nS := h.2.2.2.2.2.2.2.2.2.2.2.2.2.2.2.2.2.2.2.2.1
theorem PV.hca (h : PV A F nS nP nF nC tl ho cf cp cs sb pn dn ch T rt ly sN) : ChA A nS tl ch := h.2.2.2.2.2.2.2.2.2.2.2.2.2.2.2.2.2.2.2.2.2.1
theorem PV.hcb (h : PV A F nS nP nF nC tl ho cf cp cs sb pn dn ch T rt ly sN) : ChB ch := h.2.2.2.2.2.2.2.2.2.2.2.2.2.2.2.2.2.2.2.2.2.2.1
theorem PV.hph (h : PV A F nS nP nF nC tl ho cf cp cs sb pn dn ch T rt ly sN) : ∀ k, k < nP → PHB A k (pn k) (dn k) ∧ A 8 k = nI (pn k) := h.2.2.2.2.2.2.2.2.2.2.2.2.2.2.2.2.2.2.2.2.2.2.2.1
theorem PV.hdr (h : PV A F nS nP nF nC tl ho cf cp cs sb pn dn ch T rt ly sN) : PHB A 6 (pn 6) (dn 6) := h.2.2.2.2.2.2.2.2.2.2.2.2.2.2.2.2.2.2.2.2.2.2.2.2.1
theorem PV.hzf (h : PV A F nS nP nF nC tl ho cf cp cs sb pn dn ch T rt ly sN) : ∀ f, nF ≤ f → f < 16 → A 14 f = 0 ∧ A 15 f = 0 ∧ A 16 f = 0 ∧ ∀ q, q < 20 → A 18 (20 * f + q) = 0 := h.2.2.2.2.2.2.2.2.2.2.2.2.2.2.2.2.2.2.2.2.2.2.2.2.2.1
theorem PV.hzc (h : PV A F nS nP nF nC tl ho cf cp cs sb pn dn ch T rt ly sN) : ∀ f q, q < 20 → (∀ k, k < nC → ¬ (cf k = f ∧ cs k = q)) → A 19 (20 * f + q) = 0 := h.2.2.2.2.2.2.2.2.2.2.2.2.2.2.2.2.2.2.2.2.2.2.2.2.2.2.1
theorem PV.hzk (h : PV A F nS nP nF nC tl ho cf cp cs sb pn dn ch T rt ly sN) : ∀ k, nC ≤ k → k < 60 → A 23 (10 * k + 8) = 0 ∧ A 23 (10 * k + 9) = 0 := h.2.2.2.2.2.2.2.2.2.2.2.2.2.2.2.2.2.2.2.2.2.2.2.2.2.2.2.1
theorem PV.hzs (h : PV A F nS nP nF nC tl ho cf cp cs sb pn dn ch T rt ly sN) : ∀ s, nS ≤ s → s < 5 → ∀ q, q < 20 → A 26 (20 * s + q) = 0 := h.2.2.2.2.2.2.2.2.2.2.2.2.2.2.2.2.2.2.2.2.2.2.2.2.2.2.2.2.1
theorem PV.hso (h : PV A F nS nP nF nC tl ho cf cp cs sb pn dn ch T rt ly sN) : ∀ j, j < 20 → ¬ A 25 j = 0 → (j + 1) * 60 ≤ T := h.2.2.2.2.2.2.2.2.2.2.2.2.2.2.2.2.2.2.2.2.2.2.2.2.2.2.2.2.2.1
theorem PV.hz8 (h : PV A F nS nP nF nC tl ho cf cp cs sb pn dn ch T rt ly sN) : A 8 6 = 0 := h.2.2.2.2.2.2.2.2.2.2.2.2.2.2.2.2.2.2.2.2.2.2.2.2.2.2.2.2.2.2
end
theorem goV_1 {x : Bool} {b c : Int32} (h : x = false) : goV (bI x) b c = 1 := by rw [h]; rfl
theorem goV_2 {x y : Bool} {c : Int32} (h : x = true) (h2 : y = false) : goV (bI x) (bI y) c = 2 := by rw [h, h2]; rfl
theorem goV_3 {x y q : Bool} (h : x = true) (h2 : y = true) (h3 : q = false) : goV (bI x) (bI y) (bI q) = 3 := by rw [h, h2, h3]; rfl
theorem goV_00 {x : Bool} (h : x = true) : goV (bI x) 1 1 = 0 := by rw [h]; rfl
theorem goV_000 {x y : Bool} (h : x = true) (h2 : y = true) : goV (bI x) (bI y) 1 = 0 := by rw [h, h2]; rfl
theorem goV_0000 {x y q : Bool} (h : x = true) (h2 : y = true) (h3 : q = true) : goV (bI x) (bI y) (bI q) = 0 := by rw [h, h2, h3]; rfl
theorem and_t {x y : Bool} (h : x = true) (h2 : y = true) : (x && y) = true := by rw [h, h2]; rfl
theorem and_f1 {x y : Bool} (h : x = false) : (x && y) = false := by rw [h]; rfl
theorem and_f2 {x y : Bool} (h : y = false) : (x && y) = false := by rw [h, Bool.and_false]
theorem in01 {k : Int32} : inR k 0 1 = true ↔ k = 0 ∨ k = 1 := by
  rw [inR_iff, i32_eq, i32_eq]
  show (0 : Int) ≤ k.toInt ∧ k.toInt ≤ 1 ↔ k.toInt = 0 ∨ k.toInt = 1
  omega
theorem in01f {k : Int32} (h : ¬ (k = 0 ∨ k = 1)) : inR k 0 1 = false := by rw [← Bool.not_eq_true, in01]; exact h
theorem prcV_congr {f g : Nat → Int32} {m : Nat} (h : ∀ k, k < m → f k = g k) : prcV f m = prcV g m := by unfold prcV; rw [sumS_ext m h]
theorem dX9_day_0 : decode cX9_day 0 = .ok (.aload_n 0, 1) := by decide +kernel
theorem dX9_day_1 : decode cX9_day 1 = .ok (.getfield 56, 3) := by decide +kernel
theorem dX9_day_4 : decode cX9_day 4 = .ok (.ireturn, 1) := by decide +kernel
set_option maxHeartbeats 1000000 in
set_option maxRecDepth 100000 in
theorem c_X9_day (de : Nat) (w : Wd) (x : Nat) (A : Nat → Nat → Int32) (F : Nat → Int32) (nS nP nF nC tl : Nat) (ho cf cp cs sb pn : Nat → Nat) (dn : Nat → Nat → Nat) (ch : Nat → Nat → List (Nat × Int32)) (ca : Nat → Nat → Nat) (h : RC0 w de x A F nS nP nF nC tl ho cf cp cs sb pn dn ch ca) : Ct yX9_day cX9_day 1 (some .int) 0 0 0 0 de [.ref x] w (fun r w' => r = some (.int (F 0)) ∧ w = w') := by
  refine Ct.mk (by decide +kernel) [(0, .ref x)] rfl (Nat.le_of_ble_eq_true rfl) ?_
  intro p l e R s m args below meth c D cy z C hnm
  refine g_aload_n C dX9_day_0 rfl ?_
  refine g_getI C cls_10 11 8 h.1.1 rfl k_144 dX9_day_1 ?_
  rw [h.1.2.2.2.2.2.2.2.2.2.1]
  refine g_iret C rfl rfl (by decide) (by decide) dX9_day_4 ?_
  exact ⟨rfl, rfl⟩
theorem dX9_filled_0 : decode cX9_filled 0 = .ok (.aload_n 0, 1) := by decide +kernel
theorem dX9_filled_1 : decode cX9_filled 1 = .ok (.iload_n 1, 1) := by decide +kernel
theorem dX9_filled_2 : decode cX9_filled 2 = .ok (.invokevirtual 105, 3) := by decide +kernel
theorem dX9_filled_5 : decode cX9_filled 5 = .ok (.astore 4, 2) := by decide +kernel
theorem dX9_filled_7 : decode cX9_filled 7 = .ok (.iload_n 3, 1) := by decide +kernel
theorem dX9_filled_8 : decode cX9_filled 8 = .ok (.invokestatic 138, 3) := by decide +kernel
theorem dX9_filled_11 : decode cX9_filled 11 = .ok (.iload_n 2, 1) := by decide +kernel
theorem dX9_filled_12 : decode cX9_filled 12 = .ok (.iconst 0, 1) := by decide +kernel
theorem dX9_filled_13 : decode cX9_filled 13 = .ok (.sipush 1199, 3) := by decide +kernel
theorem dX9_filled_16 : decode cX9_filled 16 = .ok (.invokestatic 109, 3) := by decide +kernel
theorem dX9_filled_19 : decode cX9_filled 19 = .ok (.ifCond .ne 14, 3) := by decide +kernel
theorem dX9_filled_22 : decode cX9_filled 22 = .ok (.new 113, 3) := by decide +kernel
theorem dX9_filled_25 : decode cX9_filled 25 = .ok (.dup, 1) := by decide +kernel
theorem dX9_filled_26 : decode cX9_filled 26 = .ok (.ldc_w 272, 3) := by decide +kernel
theorem dX9_filled_29 : decode cX9_filled 29 = .ok (.invokespecial 117, 3) := by decide +kernel
theorem dX9_filled_32 : decode cX9_filled 32 = .ok (.athrow, 1) := by decide +kernel
theorem dX9_filled_33 : decode cX9_filled 33 = .ok (.aload_n 0, 1) := by decide +kernel
theorem dX9_filled_34 : decode cX9_filled 34 = .ok (.getfield 10, 3) := by decide +kernel
theorem dX9_filled_37 : decode cX9_filled 37 = .ok (.aload 4, 2) := by decide +kernel
theorem dX9_filled_39 : decode cX9_filled 39 = .ok (.iload_n 2, 1) := by decide +kernel
theorem dX9_filled_40 : decode cX9_filled 40 = .ok (.iload_n 3, 1) := by decide +kernel
theorem dX9_filled_41 : decode cX9_filled 41 = .ok (.aload_n 0, 1) := by decide +kernel
theorem dX9_filled_42 : decode cX9_filled 42 = .ok (.getfield 10, 3) := by decide +kernel
theorem dX9_filled_45 : decode cX9_filled 45 = .ok (.getfield 86, 3) := by decide +kernel
theorem dX9_filled_48 : decode cX9_filled 48 = .ok (.invokevirtual 274, 3) := by decide +kernel
theorem dX9_filled_51 : decode cX9_filled 51 = .ok (.ireturn, 1) := by decide +kernel
set_option maxHeartbeats 1000000 in
set_option maxRecDepth 100000 in
theorem c_X9_filled (de : Nat) (w : Wd) (x : Nat) (A : Nat → Nat → Int32) (F : Nat → Int32) (nS nP nF nC tl : Nat) (ho cf cp cs sb pn : Nat → Nat) (dn : Nat → Nat → Nat) (ch : Nat → Nat → List (Nat × Int32)) (ca : Nat → Nat → Nat) (h : RC0 w de x A F nS nP nF nC tl ho cf cp cs sb pn dn ch ca) (hB : KB w nC A F ca) (T rt ly : Nat) (sN : Nat → Nat) (hv : PV A F nS nP nF nC tl ho cf cp cs sb pn dn ch T rt ly sN) (xs xd kn : Int32) (s0 : Nat) (hst : inR xs 0 (F 3 - 1) = true → xs = nI s0 ∧ s0 < nS) (d : Nat) (hdd : inR xd 0 1199 = true → xd = nI d ∧ d < 1200) (htl : tl < 100000) : Cw yX9_filled cX9_filled 5 (some .int) 7 111 5 30 de [.ref x, .int xs, .int xd, .int kn] w (fun r w' => goV (bI (inR xs 0 (F 3 - 1))) (bI (inR xd 0 1199 && inR kn 0 1)) 1 = 0 ∧ r = some (.int (rrV nS (A 1) (A 2) (A 4) (A 5) kn d s0)) ∧ RC0 w' de x (A) (F) nS nP nF nC tl ho cf cp cs sb pn dn ch ca ∧ KB w' nC (A) (F) ca ∧ FrR w w') (fun E w' => w = w' ∧ ((E = "java/lang/IndexOutOfBoundsException" ∧ goV (bI (inR xs 0 (F 3 - 1))) (bI (inR xd 0 1199 && inR kn 0 1)) 1 = 1) ∨ (E = "java/lang/IllegalArgumentException" ∧ goV (bI (inR xs 0 (F 3 - 1))) (bI (inR xd 0 1199 && inR kn 0 1)) 1 = 2))) := by
  refine Cw.mk (by decide +kernel) [(0, .ref x), (1, .int xs), (2, .int xd), (3, .int kn)] rfl (Nat.le_of_ble_eq_true rfl) ?_
  intro p l e R s m args below meth c D cy z C ht
  obtain ⟨h60, h16, h5, hcv, hho⟩ := id hv.hcv
  have hfr : FrR w w := FrR.rf
  have hbk : Kp [2] w w := Kp.rf
  have hnS : nS < 100000 := by omega
  have hnP : nP < 100000 := by have := hv.hP6; omega
  have hnF : nF < 100000 := by omega
  have hnC : nC < 100000 := by omega
  refine g_aload_n C dX9_filled_0 rfl ?_
  refine g_iload_n C dX9_filled_1 rfl ?_
  refine gx_callV C cls_10 11 mt_X9_stationNumbered [.int xs] (c_X9_stationNumbered de w x A F nS nP nF nC tl ho cf cp cs sb pn dn ch ca h xs s0 hv.hS hnS hst) h.1.1 (by decide) k_379 rfl rfl (Nat.le_of_ble_eq_true rfl) (by decide) (by decide) (by decide) (by decide) dX9_filled_2 (fun E9 w9 hx9 => gx_out C ht (by decide) (by decide) ⟨hx9.2.1, Or.inl ⟨hx9.1, goV_1 hx9.2.2⟩⟩) (fun r_2 w_2 hp_2 => ?_)
  obtain ⟨rfl, rfl, f_2⟩ := hp_2
  obtain ⟨rfl, hs5⟩ := hst f_2
  refine g_astore C dX9_filled_5 (by decide) ?_
  refine g_iload_n C dX9_filled_7 rfl ?_
  refine gx_callS C mt_X9_testKnown [.int kn] (c_X9_testKnown de w kn) k_497 rfl rfl (Nat.le_of_ble_eq_true rfl) (by decide) (by decide) (by decide) (by decide) dX9_filled_8 (fun E9 w9 hx9 => gx_out C ht (by decide) (by decide) ⟨hx9.2.1, Or.inr (⟨hx9.1, goV_2 f_2 (and_f2 (in01f hx9.2.2))⟩)⟩) (fun r_8 w_8 hp_8 => ?_)
  obtain ⟨rfl, rfl, f_8⟩ := hp_8
  replace f_8 := in01.mpr f_8
  refine g_iload_n C dX9_filled_11 rfl ?_
  refine g_iconst C 0 dX9_filled_12 (by rfl) ?_
  refine g_sipush C 1199 dX9_filled_13 (by rfl) ?_
  refine g_callS C mt_X9_isWithin [.int xd, .int 0, .int 1199] (c_X9_isWithin de w xd 0 1199) k_189 rfl rfl (Nat.le_of_ble_eq_true rfl) (by decide) (by decide) (by decide) (by decide) dX9_filled_16 (fun r_16 w_16 hp_16 => ?_)
  obtain ⟨rfl, rfl⟩ := hp_16
  refine g_if_ne C 33 dX9_filled_19 (by decide) (fun c_19 => ?_) (fun c_19 => ?_)
  · have b_19 := bI_n0.mp c_19
    refine g_aload_n C dX9_filled_33 rfl ?_
    refine g_getR (b := (ca 9 0)) C cls_10 11 0 h.1.1 h.1.2.1 rfl k_136 dX9_filled_34 ?_
    refine g_aload C dX9_filled_37 rfl ?_
    refine g_iload_n C dX9_filled_39 rfl ?_
    refine g_iload_n C dX9_filled_40 rfl ?_
    refine g_aload_n C dX9_filled_41 rfl ?_
    refine g_getR (b := (ca 9 0)) C cls_10 11 0 h.1.1 h.1.2.1 rfl k_136 dX9_filled_42 ?_
    refine g_getI C cls_9 10 1 h.2.2.1.1.1 rfl k_70 dX9_filled_45 ?_
    rw [h.2.2.1.2.1]
    obtain ⟨rfl, hd5⟩ := hdd b_19
    refine g_callV C cls_9 10 mt_X8_rainOn [.ref (ca 0 s0), .int (nI d), .int kn, .int (nI tl)] (c_X8_rainOn de w (ca 9 0) (ca 9 3) nS (ca 0) (ca 1) (A 1) (A 2) ch h.2.2.1.1 s0 d tl kn hs5 hd5 htl) h.2.2.1.1.1 (by decide) k_827 rfl rfl (Nat.le_of_ble_eq_true rfl) (by decide) (by decide) (by decide) (by decide) dX9_filled_48 (fun r_48 w_48 hp_48 => ?_)
    obtain ⟨rfl, rfl⟩ := hp_48
    refine gx_ret <| g_iret C rfl rfl (by decide) (by decide) dX9_filled_51 ?_
    exact ⟨goV_000 f_2 (and_t b_19 f_8), congrArg (fun v => some (Value.int v)) ((row_d hv.hca hv.hxy h5 hd5 hs5).symm), h, hB.mv hbk rfl rfl, hfr⟩
  · have b_19 := bI_0.mp c_19
    exact gx_throwW C ht th_X9_117 k_192 k_14 (is := 272) (text := "day is out of range") (by decide) dX9_filled_22 dX9_filled_25 dX9_filled_26 dX9_filled_29 dX9_filled_32 (by decide) (Nat.le_of_ble_eq_true rfl) (by decide) (by decide) ⟨rfl, Or.inr (⟨rfl, goV_2 f_2 (and_f1 b_19)⟩)⟩
theorem dX9_onset_0 : decode cX9_onset 0 = .ok (.aload_n 0, 1) := by decide +kernel
theorem dX9_onset_1 : decode cX9_onset 1 = .ok (.iload_n 1, 1) := by decide +kernel
theorem dX9_onset_2 : decode cX9_onset 2 = .ok (.invokevirtual 105, 3) := by decide +kernel
theorem dX9_onset_5 : decode cX9_onset 5 = .ok (.astore 4, 2) := by decide +kernel
theorem dX9_onset_7 : decode cX9_onset 7 = .ok (.iload_n 2, 1) := by decide +kernel
theorem dX9_onset_8 : decode cX9_onset 8 = .ok (.invokestatic 181, 3) := by decide +kernel
theorem dX9_onset_11 : decode cX9_onset 11 = .ok (.iload_n 3, 1) := by decide +kernel
theorem dX9_onset_12 : decode cX9_onset 12 = .ok (.invokestatic 138, 3) := by decide +kernel
theorem dX9_onset_15 : decode cX9_onset 15 = .ok (.aload_n 0, 1) := by decide +kernel
theorem dX9_onset_16 : decode cX9_onset 16 = .ok (.getfield 19, 3) := by decide +kernel
theorem dX9_onset_19 : decode cX9_onset 19 = .ok (.aload_n 0, 1) := by decide +kernel
theorem dX9_onset_20 : decode cX9_onset 20 = .ok (.getfield 10, 3) := by decide +kernel
theorem dX9_onset_23 : decode cX9_onset 23 = .ok (.aload 4, 2) := by decide +kernel
theorem dX9_onset_25 : decode cX9_onset 25 = .ok (.iload_n 2, 1) := by decide +kernel
theorem dX9_onset_26 : decode cX9_onset 26 = .ok (.iload_n 3, 1) := by decide +kernel
theorem dX9_onset_27 : decode cX9_onset 27 = .ok (.aload_n 0, 1) := by decide +kernel
theorem dX9_onset_28 : decode cX9_onset 28 = .ok (.getfield 10, 3) := by decide +kernel
theorem dX9_onset_31 : decode cX9_onset 31 = .ok (.getfield 86, 3) := by decide +kernel
theorem dX9_onset_34 : decode cX9_onset 34 = .ok (.invokevirtual 278, 3) := by decide +kernel
theorem dX9_onset_37 : decode cX9_onset 37 = .ok (.aload_n 0, 1) := by decide +kernel
theorem dX9_onset_38 : decode cX9_onset 38 = .ok (.getfield 19, 3) := by decide +kernel
theorem dX9_onset_41 : decode cX9_onset 41 = .ok (.invokevirtual 281, 3) := by decide +kernel
theorem dX9_onset_44 : decode cX9_onset 44 = .ok (.istore 5, 2) := by decide +kernel
theorem dX9_onset_46 : decode cX9_onset 46 = .ok (.iload 5, 2) := by decide +kernel
theorem dX9_onset_48 : decode cX9_onset 48 = .ok (.iconst (-1), 1) := by decide +kernel
theorem dX9_onset_49 : decode cX9_onset 49 = .ok (.if_icmp .ne 7, 3) := by decide +kernel
theorem dX9_onset_52 : decode cX9_onset 52 = .ok (.iconst (-1), 1) := by decide +kernel
theorem dX9_onset_53 : decode cX9_onset 53 = .ok (.goto 10, 3) := by decide +kernel
theorem dX9_onset_56 : decode cX9_onset 56 = .ok (.iload_n 2, 1) := by decide +kernel
theorem dX9_onset_57 : decode cX9_onset 57 = .ok (.invokestatic 284, 3) := by decide +kernel
theorem dX9_onset_60 : decode cX9_onset 60 = .ok (.iload 5, 2) := by decide +kernel
theorem dX9_onset_62 : decode cX9_onset 62 = .ok (.iadd, 1) := by decide +kernel
theorem dX9_onset_63 : decode cX9_onset 63 = .ok (.ireturn, 1) := by decide +kernel
set_option maxHeartbeats 1000000 in
set_option maxRecDepth 100000 in
theorem c_X9_onset (de : Nat) (w : Wd) (x : Nat) (A : Nat → Nat → Int32) (F : Nat → Int32) (nS nP nF nC tl : Nat) (ho cf cp cs sb pn : Nat → Nat) (dn : Nat → Nat → Nat) (ch : Nat → Nat → List (Nat × Int32)) (ca : Nat → Nat → Nat) (h : RC0 w de x A F nS nP nF nC tl ho cf cp cs sb pn dn ch ca) (hB : KB w nC A F ca) (T rt ly : Nat) (sN : Nat → Nat) (hv : PV A F nS nP nF nC tl ho cf cp cs sb pn dn ch T rt ly sN) (xs xe kn : Int32) (s0 : Nat) (hst : inR xs 0 (F 3 - 1) = true → xs = nI s0 ∧ s0 < nS) (se : Nat) (hse : inR xe 0 19 = true → xe = nI se ∧ se < 20) (htl : tl < 100000) : Cw yX9_onset cX9_onset 6 (some .int) 7 119 5 30 de [.ref x, .int xs, .int xe, .int kn] w (fun r w' => goV (bI (inR xs 0 (F 3 - 1) && inR xe 0 19)) (bI (inR kn 0 1)) 1 = 0 ∧ r = some (.int (if oI (begO (rowA A nS kn se s0) 58) = -1 then -1 else 60 * nI se + oI (begO (rowA A nS kn se s0) 58))) ∧ RC0 w' de x (A) (F) nS nP nF nC tl ho cf cp cs sb pn dn ch ca ∧ KB w' nC (A) (F) ca ∧ FrR w w') (fun E w' => w = w' ∧ ((E = "java/lang/IndexOutOfBoundsException" ∧ goV (bI (inR xs 0 (F 3 - 1) && inR xe 0 19)) (bI (inR kn 0 1)) 1 = 1) ∨ (E = "java/lang/IllegalArgumentException" ∧ goV (bI (inR xs 0 (F 3 - 1) && inR xe 0 19)) (bI (inR kn 0 1)) 1 = 2))) := by
  refine Cw.mk (by decide +kernel) [(0, .ref x), (1, .int xs), (2, .int xe), (3, .int kn)] rfl (Nat.le_of_ble_eq_true rfl) ?_
  intro p l e R s m args below meth c D cy z C ht
  obtain ⟨h60, h16, h5, hcv, hho⟩ := id hv.hcv
  have hfr : FrR w w := FrR.rf
  have hbk : Kp [2] w w := Kp.rf
  have hnS : nS < 100000 := by omega
  have hnP : nP < 100000 := by have := hv.hP6; omega
  have hnF : nF < 100000 := by omega
  have hnC : nC < 100000 := by omega
  refine g_aload_n C dX9_onset_0 rfl ?_
  refine g_iload_n C dX9_onset_1 rfl ?_
  refine gx_callV C cls_10 11 mt_X9_stationNumbered [.int xs] (c_X9_stationNumbered de w x A F nS nP nF nC tl ho cf cp cs sb pn dn ch ca h xs s0 hv.hS hnS hst) h.1.1 (by decide) k_379 rfl rfl (Nat.le_of_ble_eq_true rfl) (by decide) (by decide) (by decide) (by decide) dX9_onset_2 (fun E9 w9 hx9 => gx_out C ht (by decide) (by decide) ⟨hx9.2.1, Or.inl ⟨hx9.1, goV_1 (and_f1 hx9.2.2)⟩⟩) (fun r_2 w_2 hp_2 => ?_)
  obtain ⟨rfl, rfl, f_2⟩ := hp_2
  obtain ⟨rfl, hs5⟩ := hst f_2
  refine g_astore C dX9_onset_5 (by decide) ?_
  refine g_iload_n C dX9_onset_7 rfl ?_
  refine gx_callS C mt_X9_testSeason [.int xe] (c_X9_testSeason de w xe) k_605 rfl rfl (Nat.le_of_ble_eq_true rfl) (by decide) (by decide) (by decide) (by decide) dX9_onset_8 (fun E9 w9 hx9 => gx_out C ht (by decide) (by decide) ⟨hx9.2.1, Or.inl ⟨hx9.1, goV_1 (and_f2 hx9.2.2)⟩⟩) (fun r_8 w_8 hp_8 => ?_)
  obtain ⟨rfl, rfl, f_8⟩ := hp_8
  obtain ⟨rfl, he5⟩ := hse f_8
  refine g_iload_n C dX9_onset_11 rfl ?_
  refine gx_callS C mt_X9_testKnown [.int kn] (c_X9_testKnown de w kn) k_497 rfl rfl (Nat.le_of_ble_eq_true rfl) (by decide) (by decide) (by decide) (by decide) dX9_onset_12 (fun E9 w9 hx9 => gx_out C ht (by decide) (by decide) ⟨hx9.2.1, Or.inr (⟨hx9.1, goV_2 (and_t f_2 f_8) (in01f hx9.2.2)⟩)⟩) (fun r_12 w_12 hp_12 => ?_)
  obtain ⟨rfl, rfl, f_12⟩ := hp_12
  replace f_12 := in01.mpr f_12
  refine g_aload_n C dX9_onset_15 rfl ?_
  refine g_getR (b := (ca 9 1)) C cls_10 11 1 h.1.1 h.1.2.2.1 rfl k_137 dX9_onset_16 ?_
  refine g_aload_n C dX9_onset_19 rfl ?_
  refine g_getR (b := (ca 9 0)) C cls_10 11 0 h.1.1 h.1.2.1 rfl k_136 dX9_onset_20 ?_
  refine g_aload C dX9_onset_23 rfl ?_
  refine g_iload_n C dX9_onset_25 rfl ?_
  refine g_iload_n C dX9_onset_26 rfl ?_
  refine g_aload_n C dX9_onset_27 rfl ?_
  refine g_getR (b := (ca 9 0)) C cls_10 11 0 h.1.1 h.1.2.1 rfl k_136 dX9_onset_28 ?_
  refine g_getI C cls_9 10 1 h.2.2.1.1.1 rfl k_70 dX9_onset_31 ?_
  rw [h.2.2.1.2.1]
  refine g_callV C cls_6 7 mt_X5_fill [.ref (ca 9 0), .ref (ca 0 s0), .int (nI se), .int kn, .int (nI tl)] (c_X5_fill de w (ca 9 1) (ca 9 2) h.2.2.2.1 (ca 9 0) (ca 9 3) nS (ca 0) (ca 1) (A 1) (A 2) ch h.2.2.1.1 s0 se tl kn hs5 he5 htl) h.2.2.2.1.1 (by decide) k_635 rfl rfl (Nat.le_of_ble_eq_true rfl) (by decide) (by decide) (by decide) (by decide) dX9_onset_34 (fun r_34 w_34 hp_34 => ?_)
  obtain ⟨rfl, g, rfl, hg⟩ := hp_34
  have hga : aI (stR w 1010 (ca 9 2) g) 1010 (ca 9 2) = g := stR_at
  replace hfr := hfr.tr (FrR.stR h.2.2.2.1.2.2.1 (by decide) : FrR _ (stR w 1010 (ca 9 2) g))
  replace hbk := hbk.tr (Kp.stR h.2.2.2.1.2.2.1 (by decide) : Kp [2] _ (stR w 1010 (ca 9 2) g))
  replace h := h.view g
  generalize stR w 1010 (ca 9 2) g = w1 at h hfr hbk hga ⊢
  have hgr : ∀ j, j < 60 → g j = (rowA A nS kn se s0) j := fun j hj => (hg j hj).trans (row_e hv.hca hv.hxy h5 he5 hs5 j hj).symm
  refine g_aload_n C dX9_onset_37 rfl ?_
  refine g_getR (b := (ca 9 1)) C cls_10 11 1 h.1.1 h.1.2.2.1 rfl k_137 dX9_onset_38 ?_
  refine g_callV C cls_6 7 mt_X5_start [] (c_X5_start de w1 (ca 9 1) (ca 9 2) h.2.2.2.1) h.2.2.2.1.1 (by decide) k_835 rfl rfl (Nat.le_of_ble_eq_true rfl) (by decide) (by decide) (by decide) (by decide) dX9_onset_41 (fun r_41 w_41 hp_41 => ?_)
  obtain ⟨rfl, rfl⟩ := hp_41
  rw [hga, begO_congr (f := g) (g := (rowA A nS kn se s0)) hgr 58 (by omega)]
  refine g_istore C dX9_onset_44 (by decide) ?_
  refine g_iload C dX9_onset_46 rfl ?_
  refine g_iconst C (-1) dX9_onset_48 (by rfl) ?_
  refine g_icmp_ne C 56 dX9_onset_49 (by decide) (fun c_49 => ?_) (fun c_49 => ?_)
  · have b_49 := decide_eq_false c_49
    refine g_iload_n C dX9_onset_56 rfl ?_
    refine g_callS C mt_X9_firstDay [.int (nI se)] (c_X9_firstDay de w1 (nI se)) k_614 rfl rfl (Nat.le_of_ble_eq_true rfl) (by decide) (by decide) (by decide) (by decide) dX9_onset_57 (fun r_57 w_57 hp_57 => ?_)
    obtain ⟨rfl, rfl⟩ := hp_57
    refine g_iload C dX9_onset_60 rfl ?_
    refine g_iadd C dX9_onset_62 ?_
    refine gx_ret <| g_iret C rfl rfl (by decide) (by decide) dX9_onset_63 ?_
    first
    | exact ⟨goV_000 (and_t f_2 f_8) f_12, congrArg (fun v => some (Value.int v)) ((if_pos c_49).symm), h, hB.mv hbk rfl rfl, hfr⟩
    | exact ⟨goV_000 (and_t f_2 f_8) f_12, congrArg (fun v => some (Value.int v)) (by rw [if_neg c_49, Int32.mul_comm]), h, hB.mv hbk rfl rfl, hfr⟩
  · have b_49 := decide_eq_true c_49
    refine g_iconst C (-1) dX9_onset_52 (by rfl) ?_
    refine g_goto C 63 dX9_onset_53 (by decide) ?_
    refine gx_ret <| g_iret C rfl rfl (by decide) (by decide) dX9_onset_63 ?_
    first
    | exact ⟨goV_000 (and_t f_2 f_8) f_12, congrArg (fun v => some (Value.int v)) ((if_pos c_49).symm), h, hB.mv hbk rfl rfl, hfr⟩
    | exact ⟨goV_000 (and_t f_2 f_8) f_12, congrArg (fun v => some (Value.int v)) (by rw [if_neg c_49, Int32.mul_comm]), h, hB.mv hbk rfl rfl, hfr⟩
theorem dX9_index_0 : decode cX9_index 0 = .ok (.aload_n 0, 1) := by decide +kernel
theorem dX9_index_1 : decode cX9_index 1 = .ok (.iload_n 1, 1) := by decide +kernel
theorem dX9_index_2 : decode cX9_index 2 = .ok (.invokevirtual 105, 3) := by decide +kernel
theorem dX9_index_5 : decode cX9_index 5 = .ok (.astore 5, 2) := by decide +kernel
theorem dX9_index_7 : decode cX9_index 7 = .ok (.iload_n 2, 1) := by decide +kernel
theorem dX9_index_8 : decode cX9_index 8 = .ok (.invokestatic 181, 3) := by decide +kernel
theorem dX9_index_11 : decode cX9_index 11 = .ok (.aload_n 0, 1) := by decide +kernel
theorem dX9_index_12 : decode cX9_index 12 = .ok (.iload_n 3, 1) := by decide +kernel
theorem dX9_index_13 : decode cX9_index 13 = .ok (.invokevirtual 177, 3) := by decide +kernel
theorem dX9_index_16 : decode cX9_index 16 = .ok (.astore 6, 2) := by decide +kernel
theorem dX9_index_18 : decode cX9_index 18 = .ok (.iload 4, 2) := by decide +kernel
theorem dX9_index_20 : decode cX9_index 20 = .ok (.ifCond .lt 16, 3) := by decide +kernel
theorem dX9_index_23 : decode cX9_index 23 = .ok (.iload 4, 2) := by decide +kernel
theorem dX9_index_25 : decode cX9_index 25 = .ok (.aload 6, 2) := by decide +kernel
theorem dX9_index_27 : decode cX9_index 27 = .ok (.getfield 128, 3) := by decide +kernel
theorem dX9_index_30 : decode cX9_index 30 = .ok (.invokevirtual 82, 3) := by decide +kernel
theorem dX9_index_33 : decode cX9_index 33 = .ok (.if_icmp .lt 14, 3) := by decide +kernel
theorem dX9_index_36 : decode cX9_index 36 = .ok (.new 287, 3) := by decide +kernel
theorem dX9_index_39 : decode cX9_index 39 = .ok (.dup, 1) := by decide +kernel
theorem dX9_index_40 : decode cX9_index 40 = .ok (.ldc_w 289, 3) := by decide +kernel
theorem dX9_index_43 : decode cX9_index 43 = .ok (.invokespecial 291, 3) := by decide +kernel
theorem dX9_index_46 : decode cX9_index 46 = .ok (.athrow, 1) := by decide +kernel
theorem dX9_index_47 : decode cX9_index 47 = .ok (.aload_n 0, 1) := by decide +kernel
theorem dX9_index_48 : decode cX9_index 48 = .ok (.getfield 19, 3) := by decide +kernel
theorem dX9_index_51 : decode cX9_index 51 = .ok (.aload_n 0, 1) := by decide +kernel
theorem dX9_index_52 : decode cX9_index 52 = .ok (.getfield 10, 3) := by decide +kernel
theorem dX9_index_55 : decode cX9_index 55 = .ok (.aload 5, 2) := by decide +kernel
theorem dX9_index_57 : decode cX9_index 57 = .ok (.iload_n 2, 1) := by decide +kernel
theorem dX9_index_58 : decode cX9_index 58 = .ok (.aload 6, 2) := by decide +kernel
theorem dX9_index_60 : decode cX9_index 60 = .ok (.getfield 147, 3) := by decide +kernel
theorem dX9_index_63 : decode cX9_index 63 = .ok (.aload_n 0, 1) := by decide +kernel
theorem dX9_index_64 : decode cX9_index 64 = .ok (.getfield 10, 3) := by decide +kernel
theorem dX9_index_67 : decode cX9_index 67 = .ok (.getfield 86, 3) := by decide +kernel
theorem dX9_index_70 : decode cX9_index 70 = .ok (.invokevirtual 278, 3) := by decide +kernel
theorem dX9_index_73 : decode cX9_index 73 = .ok (.aload 6, 2) := by decide +kernel
theorem dX9_index_75 : decode cX9_index 75 = .ok (.getfield 128, 3) := by decide +kernel
theorem dX9_index_78 : decode cX9_index 78 = .ok (.iload 4, 2) := by decide +kernel
theorem dX9_index_80 : decode cX9_index 80 = .ok (.invokevirtual 292, 3) := by decide +kernel
theorem dX9_index_83 : decode cX9_index 83 = .ok (.checkcast 133, 3) := by decide +kernel
theorem dX9_index_86 : decode cX9_index 86 = .ok (.aload_n 0, 1) := by decide +kernel
theorem dX9_index_87 : decode cX9_index 87 = .ok (.getfield 19, 3) := by decide +kernel
theorem dX9_index_90 : decode cX9_index 90 = .ok (.aload 6, 2) := by decide +kernel
theorem dX9_index_92 : decode cX9_index 92 = .ok (.iload 4, 2) := by decide +kernel
theorem dX9_index_94 : decode cX9_index 94 = .ok (.aload_n 0, 1) := by decide +kernel
theorem dX9_index_95 : decode cX9_index 95 = .ok (.getfield 19, 3) := by decide +kernel
theorem dX9_index_98 : decode cX9_index 98 = .ok (.invokevirtual 296, 3) := by decide +kernel
theorem dX9_index_101 : decode cX9_index 101 = .ok (.invokevirtual 300, 3) := by decide +kernel
theorem dX9_index_104 : decode cX9_index 104 = .ok (.ireturn, 1) := by decide +kernel
set_option maxHeartbeats 1000000 in
set_option maxRecDepth 100000 in
theorem c_X9_index (de : Nat) (w : Wd) (x : Nat) (A : Nat → Nat → Int32) (F : Nat → Int32) (nS nP nF nC tl : Nat) (ho cf cp cs sb pn : Nat → Nat) (dn : Nat → Nat → Nat) (ch : Nat → Nat → List (Nat × Int32)) (ca : Nat → Nat → Nat) (h : RC0 w de x A F nS nP nF nC tl ho cf cp cs sb pn dn ch ca) (hB : KB w nC A F ca) (T rt ly : Nat) (sN : Nat → Nat) (hv : PV A F nS nP nF nC tl ho cf cp cs sb pn dn ch T rt ly sN) (xs xe xp xh : Int32) (s0 : Nat) (hst : inR xs 0 (F 3 - 1) = true → xs = nI s0 ∧ s0 < nS) (se : Nat) (hse : inR xe 0 19 = true → xe = nI se ∧ se < 20) (pr : Nat) (hpr : inR xp 0 (F 10 - 1) = true → xp = nI pr ∧ pr < nP) (ph : Nat) (hph : inR xh 0 (A 8 pr - 1) = true → xh = nI ph ∧ ph < pn pr) (htl : tl < 100000) : Cw yX9_index cX9_index 7 (some .int) 7 119 5 30 de [.ref x, .int xs, .int xe, .int xp, .int xh] w (fun r w' => goV (bI (inR xs 0 (F 3 - 1) && (inR xe 0 19 && (inR xp 0 (F 10 - 1) && inR xh 0 (A 8 pr - 1))))) 1 1 = 0 ∧ r = some (.int (lookV (rowA A nS (A 9 pr) se s0) (phA A pr 1 ph) ((dn pr) ph) (stN (rowA A nS (A 9 pr) se s0) + dSum (dn pr) ph))) ∧ RC0 w' de x (A) (F) nS nP nF nC tl ho cf cp cs sb pn dn ch ca ∧ KB w' nC (A) (F) ca ∧ FrR w w') (fun E w' => w = w' ∧ ((E = "java/lang/IndexOutOfBoundsException" ∧ goV (bI (inR xs 0 (F 3 - 1) && (inR xe 0 19 && (inR xp 0 (F 10 - 1) && inR xh 0 (A 8 pr - 1))))) 1 1 = 1))) := by
  refine Cw.mk (by decide +kernel) [(0, .ref x), (1, .int xs), (2, .int xe), (3, .int xp), (4, .int xh)] rfl (Nat.le_of_ble_eq_true rfl) ?_
  intro p l e R s m args below meth c D cy z C ht
  obtain ⟨h60, h16, h5, hcv, hho⟩ := id hv.hcv
  have hfr : FrR w w := FrR.rf
  have hbk : Kp [2] w w := Kp.rf
  have hnS : nS < 100000 := by omega
  have hnP : nP < 100000 := by have := hv.hP6; omega
  have hnF : nF < 100000 := by omega
  have hnC : nC < 100000 := by omega
  refine g_aload_n C dX9_index_0 rfl ?_
  refine g_iload_n C dX9_index_1 rfl ?_
  refine gx_callV C cls_10 11 mt_X9_stationNumbered [.int xs] (c_X9_stationNumbered de w x A F nS nP nF nC tl ho cf cp cs sb pn dn ch ca h xs s0 hv.hS hnS hst) h.1.1 (by decide) k_379 rfl rfl (Nat.le_of_ble_eq_true rfl) (by decide) (by decide) (by decide) (by decide) dX9_index_2 (fun E9 w9 hx9 => gx_out C ht (by decide) (by decide) ⟨hx9.2.1, ⟨hx9.1, goV_1 (and_f1 hx9.2.2)⟩⟩) (fun r_2 w_2 hp_2 => ?_)
  obtain ⟨rfl, rfl, f_2⟩ := hp_2
  obtain ⟨rfl, hs5⟩ := hst f_2
  refine g_astore C dX9_index_5 (by decide) ?_
  refine g_iload_n C dX9_index_7 rfl ?_
  refine gx_callS C mt_X9_testSeason [.int xe] (c_X9_testSeason de w xe) k_605 rfl rfl (Nat.le_of_ble_eq_true rfl) (by decide) (by decide) (by decide) (by decide) dX9_index_8 (fun E9 w9 hx9 => gx_out C ht (by decide) (by decide) ⟨hx9.2.1, ⟨hx9.1, goV_1 (and_f2 (and_f1 hx9.2.2))⟩⟩) (fun r_8 w_8 hp_8 => ?_)
  obtain ⟨rfl, rfl, f_8⟩ := hp_8
  obtain ⟨rfl, he5⟩ := hse f_8
  refine g_aload_n C dX9_index_11 rfl ?_
  refine g_iload_n C dX9_index_12 rfl ?_
  refine gx_callV C cls_10 11 mt_X9_productNumbered [.int xp] (c_X9_productNumbered de w x A F nS nP nF nC tl ho cf cp cs sb pn dn ch ca h xp pr hv.hP hnP hpr) h.1.1 (by decide) k_600 rfl rfl (Nat.le_of_ble_eq_true rfl) (by decide) (by decide) (by decide) (by decide) dX9_index_13 (fun E9 w9 hx9 => gx_out C ht (by decide) (by decide) ⟨hx9.2.1, ⟨hx9.1, goV_1 (and_f2 (and_f2 (and_f1 hx9.2.2)))⟩⟩) (fun r_13 w_13 hp_13 => ?_)
  obtain ⟨rfl, rfl, f_13⟩ := hp_13
  obtain ⟨rfl, hp5⟩ := hpr f_13
  refine g_astore C dX9_index_16 (by decide) ?_
  refine g_iload C dX9_index_18 rfl ?_
  refine g_if_lt C 36 dX9_index_20 (by decide) (fun c_20 => ?_) (fun c_20 => ?_)
  · have b_20 := And.intro (decide_eq_false (Int32.not_le.mpr c_20)) (decide_eq_true c_20)
    exact gx_throwW C ht th_X9_291 k_383 k_20 (is := 289) (text := "no such phase") (by decide) dX9_index_36 dX9_index_39 dX9_index_40 dX9_index_43 dX9_index_46 (by decide) (Nat.le_of_ble_eq_true rfl) (by decide) (by decide) ⟨rfl, ⟨rfl, goV_1 (and_f2 (and_f2 (and_f2 (by rw [(hv.hph pr hp5).2]; first | exact inRn_f1 (by have := (h.2.2.2.2.1.2.2.1 pr (Or.inl hp5)).1.2.2.2.1; omega) c_20 | exact inRn_f2 (by have := (h.2.2.2.2.1.2.2.1 pr (Or.inl hp5)).1.2.2.2.1; omega) c_33))))⟩⟩
  · have b_20 := And.intro (decide_eq_true (Int32.not_lt.mp c_20)) (decide_eq_false c_20)
    refine g_iload C dX9_index_23 rfl ?_
    refine g_aload C dX9_index_25 rfl ?_
    refine g_getR (b := (ca 4 pr)) C cls_5 6 1 (h.2.2.2.2.1.2.2.1 pr (Or.inl hp5)).1.1 (h.2.2.2.2.1.2.2.1 pr (Or.inl hp5)).1.2.1 rfl k_123 dX9_index_27 ?_
    refine g_callV C cls_0 101 mt_Jx4a65c_size_8abf5 [] (c_sz de w 101 1053 KL_ph (ca 4 pr) (pn pr) (fun j => ca 5 (3 * pr + j)) (h.2.2.2.2.1.2.2.1 pr (Or.inl hp5)).1.2.2.1) (h.2.2.2.2.1.2.2.1 pr (Or.inl hp5)).1.2.2.1.1 (by decide) k_260 rfl rfl (Nat.le_of_ble_eq_true rfl) (by decide) (by decide) (by decide) (by decide) dX9_index_30 (fun r_30 w_30 hp_30 => ?_)
    obtain ⟨rfl, rfl⟩ := hp_30
    refine g_icmp_lt C 47 dX9_index_33 (by decide) (fun c_33 => ?_) (fun c_33 => ?_)
    · have b_33 := And.intro (decide_eq_false (Int32.not_le.mpr c_33)) (decide_eq_true c_33)
      have b_h : inR xh 0 (A 8 pr - 1) = true := by rw [(hv.hph pr hp5).2]; exact inRn_t (by have := (h.2.2.2.2.1.2.2.1 pr (Or.inl hp5)).1.2.2.2.1; omega) c_20 c_33
      obtain ⟨rfl, hh5⟩ := hph b_h
      refine g_aload_n C dX9_index_47 rfl ?_
      refine g_getR (b := (ca 9 1)) C cls_10 11 1 h.1.1 h.1.2.2.1 rfl k_137 dX9_index_48 ?_
      refine g_aload_n C dX9_index_51 rfl ?_
      refine g_getR (b := (ca 9 0)) C cls_10 11 0 h.1.1 h.1.2.1 rfl k_136 dX9_index_52 ?_
      refine g_aload C dX9_index_55 rfl ?_
      refine g_iload_n C dX9_index_57 rfl ?_
      refine g_aload C dX9_index_58 rfl ?_
      refine g_getI C cls_5 6 2 (h.2.2.2.2.1.2.2.1 pr (Or.inl hp5)).1.1 rfl k_125 dX9_index_60 ?_
      rw [(h.2.2.2.2.1.2.2.1 pr (Or.inl hp5)).2.2 (by have := hv.hP6; omega)]
      refine g_aload_n C dX9_index_63 rfl ?_
      refine g_getR (b := (ca 9 0)) C cls_10 11 0 h.1.1 h.1.2.1 rfl k_136 dX9_index_64 ?_
      refine g_getI C cls_9 10 1 h.2.2.1.1.1 rfl k_70 dX9_index_67 ?_
      rw [h.2.2.1.2.1]
      refine g_callV C cls_6 7 mt_X5_fill [.ref (ca 9 0), .ref (ca 0 s0), .int (nI se), .int (A 9 pr), .int (nI tl)] (c_X5_fill de w (ca 9 1) (ca 9 2) h.2.2.2.1 (ca 9 0) (ca 9 3) nS (ca 0) (ca 1) (A 1) (A 2) ch h.2.2.1.1 s0 se tl (A 9 pr) hs5 he5 htl) h.2.2.2.1.1 (by decide) k_635 rfl rfl (Nat.le_of_ble_eq_true rfl) (by decide) (by decide) (by decide) (by decide) dX9_index_70 (fun r_70 w_70 hp_70 => ?_)
      obtain ⟨rfl, g, rfl, hg⟩ := hp_70
      have hga : aI (stR w 1010 (ca 9 2) g) 1010 (ca 9 2) = g := stR_at
      replace hfr := hfr.tr (FrR.stR h.2.2.2.1.2.2.1 (by decide) : FrR _ (stR w 1010 (ca 9 2) g))
      replace hbk := hbk.tr (Kp.stR h.2.2.2.1.2.2.1 (by decide) : Kp [2] _ (stR w 1010 (ca 9 2) g))
      replace h := h.view g
      generalize stR w 1010 (ca 9 2) g = w1 at h hfr hbk hga ⊢
      refine g_aload C dX9_index_73 rfl ?_
      refine g_getR (b := (ca 4 pr)) C cls_5 6 1 (h.2.2.2.2.1.2.2.1 pr (Or.inl hp5)).1.1 (h.2.2.2.2.1.2.2.1 pr (Or.inl hp5)).1.2.1 rfl k_123 dX9_index_75 ?_
      refine g_iload C dX9_index_78 rfl ?_
      refine g_callV C cls_0 101 mt_Jx4a65c_get_915e3 [.int (nI ph)] (c_Jx4a65c_get_915e3 de w1 101 1053 KL_ph (ca 4 pr) (pn pr) ph (fun j => ca 5 (3 * pr + j)) (h.2.2.2.2.1.2.2.1 pr (Or.inl hp5)).1.2.2.1 hh5) (h.2.2.2.2.1.2.2.1 pr (Or.inl hp5)).1.2.2.1.1 (by decide) k_399 rfl rfl (Nat.le_of_ble_eq_true rfl) (by decide) (by decide) (by decide) (by decide) dX9_index_80 (fun r_80 w_80 hp_80 => ?_)
      obtain ⟨rfl, rfl⟩ := hp_80
      refine g_cast C cls_4 5 ((h.2.2.2.2.1.2.2.1 pr (Or.inl hp5)).1.2.2.2.2 ph hh5).1 (by decide) k_466 dX9_index_83 ?_
      refine g_aload_n C dX9_index_86 rfl ?_
      refine g_getR (b := (ca 9 1)) C cls_10 11 1 h.1.1 h.1.2.2.1 rfl k_137 dX9_index_87 ?_
      refine g_aload C dX9_index_90 rfl ?_
      refine g_iload C dX9_index_92 rfl ?_
      refine g_aload_n C dX9_index_94 rfl ?_
      refine g_getR (b := (ca 9 1)) C cls_10 11 1 h.1.1 h.1.2.2.1 rfl k_137 dX9_index_95 ?_
      refine g_callV C cls_5 6 mt_X4_startOf [.int (nI ph), .ref (ca 9 1)] (c_X4_startOf de w1 (ca 3 pr) (ca 4 pr) (pn pr) (fun j => ca 5 (3 * pr + j)) (dn pr) (phA A pr 1) (phA A pr 2) (phA A pr 3) (phA A pr 4) (h.2.2.2.2.1.2.2.1 pr (Or.inl hp5)).1 (ca 9 1) (ca 9 2) h.2.2.2.1 ph (by omega)) (h.2.2.2.2.1.2.2.1 pr (Or.inl hp5)).1.1 (by decide) k_844 rfl rfl (Nat.le_of_ble_eq_true rfl) (by decide) (by decide) (by decide) (by decide) dX9_index_98 (fun r_98 w_98 hp_98 => ?_)
      obtain ⟨rfl, rfl⟩ := hp_98
      refine g_callV C cls_4 5 mt_X3_look [.ref (ca 9 1), .int (nI (stN (aI w1 1010 (ca 9 2)) + dSum (dn pr) ph))] (c_X3_look de w1 (ca 5 (3 * pr + ph)) (ca 9 1) (ca 9 2) (dn pr ph) (stN (aI w1 1010 (ca 9 2)) + dSum (dn pr) ph) h.2.2.2.1 ((h.2.2.2.2.1.2.2.1 pr (Or.inl hp5)).1.2.2.2.2 ph hh5).1 ((h.2.2.2.2.1.2.2.1 pr (Or.inl hp5)).1.2.2.2.2 ph hh5).2.1 ((h.2.2.2.2.1.2.2.1 pr (Or.inl hp5)).1.2.2.2.2 ph hh5).2.2.1 (by have h1 := stN_le (aI w1 1010 (ca 9 2)); have h2 := dSum_le (dN := dn pr) (n := pn pr) (fun i hi => ((h.2.2.2.2.1.2.2.1 pr (Or.inl hp5)).1.2.2.2.2 i hi).2.2.1) ph (by omega); have h3 := (h.2.2.2.2.1.2.2.1 pr (Or.inl hp5)).1.2.2.2.1; omega)) ((h.2.2.2.2.1.2.2.1 pr (Or.inl hp5)).1.2.2.2.2 ph hh5).1 (by decide) k_845 rfl rfl (Nat.le_of_ble_eq_true rfl) (by decide) (by decide) (by decide) (by decide) dX9_index_101 (fun r_101 w_101 hp_101 => ?_)
      obtain ⟨rfl, rfl⟩ := hp_101
      refine gx_ret <| g_iret C rfl rfl (by decide) (by decide) dX9_index_104 ?_
      have hgr : ∀ j, j < 60 → g j = (rowA A nS (A 9 pr) se s0) j := fun j hj => (hg j hj).trans (row_e hv.hca hv.hxy h5 he5 hs5 j hj).symm
      exact ⟨goV_00 (and_t f_2 (and_t f_8 (and_t f_13 b_h))), congrArg (fun v => some (Value.int v)) (by rw [((h.2.2.2.2.1.2.2.1 pr (Or.inl hp5)).1.2.2.2.2 ph hh5).2.2.2.1, hga, lookV_congr hgr, stN_congr hgr]), h, hB.mv hbk rfl rfl, hfr⟩
    · have b_33 := And.intro (decide_eq_true (Int32.not_lt.mp c_33)) (decide_eq_false c_33)
      exact gx_throwW C ht th_X9_291 k_383 k_20 (is := 289) (text := "no such phase") (by decide) dX9_index_36 dX9_index_39 dX9_index_40 dX9_index_43 dX9_index_46 (by decide) (Nat.le_of_ble_eq_true rfl) (by decide) (by decide) ⟨rfl, ⟨rfl, goV_1 (and_f2 (and_f2 (and_f2 (by rw [(hv.hph pr hp5).2]; first | exact inRn_f1 (by have := (h.2.2.2.2.1.2.2.1 pr (Or.inl hp5)).1.2.2.2.1; omega) c_20 | exact inRn_f2 (by have := (h.2.2.2.2.1.2.2.1 pr (Or.inl hp5)).1.2.2.2.1; omega) c_33))))⟩⟩
theorem dX9_rate_0 : decode cX9_rate 0 = .ok (.aload_n 0, 1) := by decide +kernel
theorem dX9_rate_1 : decode cX9_rate 1 = .ok (.iload_n 1, 1) := by decide +kernel
theorem dX9_rate_2 : decode cX9_rate 2 = .ok (.invokevirtual 105, 3) := by decide +kernel
theorem dX9_rate_5 : decode cX9_rate 5 = .ok (.astore 4, 2) := by decide +kernel
theorem dX9_rate_7 : decode cX9_rate 7 = .ok (.iload_n 2, 1) := by decide +kernel
theorem dX9_rate_8 : decode cX9_rate 8 = .ok (.invokestatic 181, 3) := by decide +kernel
theorem dX9_rate_11 : decode cX9_rate 11 = .ok (.aload_n 0, 1) := by decide +kernel
theorem dX9_rate_12 : decode cX9_rate 12 = .ok (.aload 4, 2) := by decide +kernel
theorem dX9_rate_14 : decode cX9_rate 14 = .ok (.iload_n 2, 1) := by decide +kernel
theorem dX9_rate_15 : decode cX9_rate 15 = .ok (.aload_n 0, 1) := by decide +kernel
theorem dX9_rate_16 : decode cX9_rate 16 = .ok (.iload_n 3, 1) := by decide +kernel
theorem dX9_rate_17 : decode cX9_rate 17 = .ok (.invokevirtual 177, 3) := by decide +kernel
theorem dX9_rate_20 : decode cX9_rate 20 = .ok (.aload_n 0, 1) := by decide +kernel
theorem dX9_rate_21 : decode cX9_rate 21 = .ok (.getfield 10, 3) := by decide +kernel
theorem dX9_rate_24 : decode cX9_rate 24 = .ok (.getfield 86, 3) := by decide +kernel
theorem dX9_rate_27 : decode cX9_rate 27 = .ok (.invokevirtual 304, 3) := by decide +kernel
theorem dX9_rate_30 : decode cX9_rate 30 = .ok (.ireturn, 1) := by decide +kernel
set_option maxHeartbeats 1000000 in
set_option maxRecDepth 100000 in
theorem c_X9_rate (de : Nat) (w : Wd) (x : Nat) (A : Nat → Nat → Int32) (F : Nat → Int32) (nS nP nF nC tl : Nat) (ho cf cp cs sb pn : Nat → Nat) (dn : Nat → Nat → Nat) (ch : Nat → Nat → List (Nat × Int32)) (ca : Nat → Nat → Nat) (h : RC0 w de x A F nS nP nF nC tl ho cf cp cs sb pn dn ch ca) (hB : KB w nC A F ca) (T rt ly : Nat) (sN : Nat → Nat) (hv : PV A F nS nP nF nC tl ho cf cp cs sb pn dn ch T rt ly sN) (xs xe xp : Int32) (s0 : Nat) (hst : inR xs 0 (F 3 - 1) = true → xs = nI s0 ∧ s0 < nS) (se : Nat) (hse : inR xe 0 19 = true → xe = nI se ∧ se < 20) (pr : Nat) (hpr : inR xp 0 (F 10 - 1) = true → xp = nI pr ∧ pr < nP) (htl : tl < 100000) : Cw yX9_rate cX9_rate 5 (some .int) 7 143 5 30 de [.ref x, .int xs, .int xe, .int xp] w (fun r w' => goV (bI (inR xs 0 (F 3 - 1) && (inR xe 0 19 && inR xp 0 (F 10 - 1)))) 1 1 = 0 ∧ r = some (.int (ratA A nS pr (pn pr) (dn pr) s0 se)) ∧ RC0 w' de x (A) (F) nS nP nF nC tl ho cf cp cs sb pn dn ch ca ∧ KB w' nC (A) (F) ca ∧ FrR w w') (fun E w' => w = w' ∧ ((E = "java/lang/IndexOutOfBoundsException" ∧ goV (bI (inR xs 0 (F 3 - 1) && (inR xe 0 19 && inR xp 0 (F 10 - 1)))) 1 1 = 1))) := by
  refine Cw.mk (by decide +kernel) [(0, .ref x), (1, .int xs), (2, .int xe), (3, .int xp)] rfl (Nat.le_of_ble_eq_true rfl) ?_
  intro p l e R s m args below meth c D cy z C ht
  obtain ⟨h60, h16, h5, hcv, hho⟩ := id hv.hcv
  have hfr : FrR w w := FrR.rf
  have hbk : Kp [2] w w := Kp.rf
  have hnS : nS < 100000 := by omega
  have hnP : nP < 100000 := by have := hv.hP6; omega
  have hnF : nF < 100000 := by omega
  have hnC : nC < 100000 := by omega
  refine g_aload_n C dX9_rate_0 rfl ?_
  refine g_iload_n C dX9_rate_1 rfl ?_
  refine gx_callV C cls_10 11 mt_X9_stationNumbered [.int xs] (c_X9_stationNumbered de w x A F nS nP nF nC tl ho cf cp cs sb pn dn ch ca h xs s0 hv.hS hnS hst) h.1.1 (by decide) k_379 rfl rfl (Nat.le_of_ble_eq_true rfl) (by decide) (by decide) (by decide) (by decide) dX9_rate_2 (fun E9 w9 hx9 => gx_out C ht (by decide) (by decide) ⟨hx9.2.1, ⟨hx9.1, goV_1 (and_f1 hx9.2.2)⟩⟩) (fun r_2 w_2 hp_2 => ?_)
  obtain ⟨rfl, rfl, f_2⟩ := hp_2
  obtain ⟨rfl, hs5⟩ := hst f_2
  refine g_astore C dX9_rate_5 (by decide) ?_
  refine g_iload_n C dX9_rate_7 rfl ?_
  refine gx_callS C mt_X9_testSeason [.int xe] (c_X9_testSeason de w xe) k_605 rfl rfl (Nat.le_of_ble_eq_true rfl) (by decide) (by decide) (by decide) (by decide) dX9_rate_8 (fun E9 w9 hx9 => gx_out C ht (by decide) (by decide) ⟨hx9.2.1, ⟨hx9.1, goV_1 (and_f2 (and_f1 hx9.2.2))⟩⟩) (fun r_8 w_8 hp_8 => ?_)
  obtain ⟨rfl, rfl, f_8⟩ := hp_8
  obtain ⟨rfl, he5⟩ := hse f_8
  refine g_aload_n C dX9_rate_11 rfl ?_
  refine g_aload C dX9_rate_12 rfl ?_
  refine g_iload_n C dX9_rate_14 rfl ?_
  refine g_aload_n C dX9_rate_15 rfl ?_
  refine g_iload_n C dX9_rate_16 rfl ?_
  refine gx_callV C cls_10 11 mt_X9_productNumbered [.int xp] (c_X9_productNumbered de w x A F nS nP nF nC tl ho cf cp cs sb pn dn ch ca h xp pr hv.hP hnP hpr) h.1.1 (by decide) k_600 rfl rfl (Nat.le_of_ble_eq_true rfl) (by decide) (by decide) (by decide) (by decide) dX9_rate_17 (fun E9 w9 hx9 => gx_out C ht (by decide) (by decide) ⟨hx9.2.1, ⟨hx9.1, goV_1 (and_f2 (and_f2 hx9.2.2))⟩⟩) (fun r_17 w_17 hp_17 => ?_)
  obtain ⟨rfl, rfl, f_17⟩ := hp_17
  obtain ⟨rfl, hp5⟩ := hpr f_17
  refine g_aload_n C dX9_rate_20 rfl ?_
  refine g_getR (b := (ca 9 0)) C cls_10 11 0 h.1.1 h.1.2.1 rfl k_136 dX9_rate_21 ?_
  refine g_getI C cls_9 10 1 h.2.2.1.1.1 rfl k_70 dX9_rate_24 ?_
  rw [h.2.2.1.2.1]
  refine g_callV C cls_10 11 mt_X9_rateBy [.ref (ca 0 s0), .int (nI se), .ref (ca 3 pr), .int (nI tl)] (k_rateBy de w x A F nS nP nF nC tl ho cf cp cs sb pn dn ch ca h s0 se pr tl hs5 he5 hp5 htl) h.1.1 (by decide) k_631 rfl rfl (Nat.le_of_ble_eq_true rfl) (by decide) (by decide) (by decide) (by decide) dX9_rate_27 (fun r_27 w_27 hp_27 => ?_)
  obtain ⟨rfl, g, rfl⟩ := hp_27
  replace hfr := hfr.tr (FrR.stR h.2.2.2.1.2.2.1 (by decide) : FrR _ (stR w 1010 (ca 9 2) g))
  replace hbk := hbk.tr (Kp.stR h.2.2.2.1.2.2.1 (by decide) : Kp [2] _ (stR w 1010 (ca 9 2) g))
  replace h := h.view g
  generalize stR w 1010 (ca 9 2) g = w1 at h hfr hbk ⊢
  refine gx_ret <| g_iret C rfl rfl (by decide) (by decide) dX9_rate_30 ?_
  exact ⟨goV_00 (and_t f_2 (and_t f_8 f_17)), congrArg (fun v => some (Value.int v)) ((rat_e hv.hca hv.hxy h5 he5 hs5).symm), h, hB.mv hbk rfl rfl, hfr⟩
theorem dX9_priced_0 : decode cX9_priced 0 = .ok (.aload_n 0, 1) := by decide +kernel
theorem dX9_priced_1 : decode cX9_priced 1 = .ok (.aload_n 0, 1) := by decide +kernel
theorem dX9_priced_2 : decode cX9_priced 2 = .ok (.iload_n 1, 1) := by decide +kernel
theorem dX9_priced_3 : decode cX9_priced 3 = .ok (.invokevirtual 105, 3) := by decide +kernel
theorem dX9_priced_6 : decode cX9_priced 6 = .ok (.aload_n 0, 1) := by decide +kernel
theorem dX9_priced_7 : decode cX9_priced 7 = .ok (.iload_n 2, 1) := by decide +kernel
theorem dX9_priced_8 : decode cX9_priced 8 = .ok (.invokevirtual 177, 3) := by decide +kernel
theorem dX9_priced_11 : decode cX9_priced 11 = .ok (.invokevirtual 203, 3) := by decide +kernel
theorem dX9_priced_14 : decode cX9_priced 14 = .ok (.ireturn, 1) := by decide +kernel
set_option maxHeartbeats 1000000 in
set_option maxRecDepth 100000 in
theorem c_X9_priced (de : Nat) (w : Wd) (x : Nat) (A : Nat → Nat → Int32) (F : Nat → Int32) (nS nP nF nC tl : Nat) (ho cf cp cs sb pn : Nat → Nat) (dn : Nat → Nat → Nat) (ch : Nat → Nat → List (Nat × Int32)) (ca : Nat → Nat → Nat) (h : RC0 w de x A F nS nP nF nC tl ho cf cp cs sb pn dn ch ca) (hB : KB w nC A F ca) (T rt ly : Nat) (sN : Nat → Nat) (hv : PV A F nS nP nF nC tl ho cf cp cs sb pn dn ch T rt ly sN) (xs xp : Int32) (s0 : Nat) (hst : inR xs 0 (F 3 - 1) = true → xs = nI s0 ∧ s0 < nS) (pr : Nat) (hpr : inR xp 0 (F 10 - 1) = true → xp = nI pr ∧ pr < nP) (htl : tl < 100000) : Cw yX9_priced cX9_priced 3 (some .int) 7 168 5 30 de [.ref x, .int xs, .int xp] w (fun r w' => goV (bI (inR xs 0 (F 3 - 1) && inR xp 0 (F 10 - 1))) 1 1 = 0 ∧ r = some (.int (prcV (ratA A nS pr (pn pr) (dn pr) s0) (T / 60))) ∧ RC0 w' de x (A) (F) nS nP nF nC tl ho cf cp cs sb pn dn ch ca ∧ KB w' nC (A) (F) ca ∧ FrR w w') (fun E w' => w = w' ∧ ((E = "java/lang/IndexOutOfBoundsException" ∧ goV (bI (inR xs 0 (F 3 - 1) && inR xp 0 (F 10 - 1))) 1 1 = 1))) := by
  refine Cw.mk (by decide +kernel) [(0, .ref x), (1, .int xs), (2, .int xp)] rfl (Nat.le_of_ble_eq_true rfl) ?_
  intro p l e R s m args below meth c D cy z C ht
  obtain ⟨h60, h16, h5, hcv, hho⟩ := id hv.hcv
  have hfr : FrR w w := FrR.rf
  have hbk : Kp [2] w w := Kp.rf
  have hnS : nS < 100000 := by omega
  have hnP : nP < 100000 := by have := hv.hP6; omega
  have hnF : nF < 100000 := by omega
  have hnC : nC < 100000 := by omega
  refine g_aload_n C dX9_priced_0 rfl ?_
  refine g_aload_n C dX9_priced_1 rfl ?_
  refine g_iload_n C dX9_priced_2 rfl ?_
  refine gx_callV C cls_10 11 mt_X9_stationNumbered [.int xs] (c_X9_stationNumbered de w x A F nS nP nF nC tl ho cf cp cs sb pn dn ch ca h xs s0 hv.hS hnS hst) h.1.1 (by decide) k_379 rfl rfl (Nat.le_of_ble_eq_true rfl) (by decide) (by decide) (by decide) (by decide) dX9_priced_3 (fun E9 w9 hx9 => gx_out C ht (by decide) (by decide) ⟨hx9.2.1, ⟨hx9.1, goV_1 (and_f1 hx9.2.2)⟩⟩) (fun r_3 w_3 hp_3 => ?_)
  obtain ⟨rfl, rfl, f_3⟩ := hp_3
  obtain ⟨rfl, hs5⟩ := hst f_3
  refine g_aload_n C dX9_priced_6 rfl ?_
  refine g_iload_n C dX9_priced_7 rfl ?_
  refine gx_callV C cls_10 11 mt_X9_productNumbered [.int xp] (c_X9_productNumbered de w x A F nS nP nF nC tl ho cf cp cs sb pn dn ch ca h xp pr hv.hP hnP hpr) h.1.1 (by decide) k_600 rfl rfl (Nat.le_of_ble_eq_true rfl) (by decide) (by decide) (by decide) (by decide) dX9_priced_8 (fun E9 w9 hx9 => gx_out C ht (by decide) (by decide) ⟨hx9.2.1, ⟨hx9.1, goV_1 (and_f2 hx9.2.2)⟩⟩) (fun r_8 w_8 hp_8 => ?_)
  obtain ⟨rfl, rfl, f_8⟩ := hp_8
  obtain ⟨rfl, hp5⟩ := hpr f_8
  refine g_callV C cls_10 11 mt_X9_pricesRate [.ref (ca 0 s0), .ref (ca 3 pr)] (k_pricesRate de w x A F nS nP nF nC tl ho cf cp cs sb pn dn ch ca h s0 pr T hs5 hp5 htl hv.hT hv.hT2) h.1.1 (by decide) k_623 rfl rfl (Nat.le_of_ble_eq_true rfl) (by decide) (by decide) (by decide) (by decide) dX9_priced_11 (fun r_11 w_11 hp_11 => ?_)
  obtain ⟨rfl, g, rfl⟩ := hp_11
  replace hfr := hfr.tr (FrR.stR h.2.2.2.1.2.2.1 (by decide) : FrR _ (stR w 1010 (ca 9 2) g))
  replace hbk := hbk.tr (Kp.stR h.2.2.2.1.2.2.1 (by decide) : Kp [2] _ (stR w 1010 (ca 9 2) g))
  replace h := h.view g
  generalize stR w 1010 (ca 9 2) g = w1 at h hfr hbk ⊢
  refine gx_ret <| g_iret C rfl rfl (by decide) (by decide) dX9_priced_14 ?_
  exact ⟨goV_00 (and_t f_3 f_8), congrArg (fun v => some (Value.int v)) ((prcV_congr (fun j hj => (rat_e hv.hca hv.hxy h5 (by have := hv.hT2; omega) hs5).symm))), h, hB.mv hbk rfl rfl, hfr⟩
theorem dX9_cover_0 : decode cX9_cover 0 = .ok (.aload_n 0, 1) := by decide +kernel
theorem dX9_cover_1 : decode cX9_cover 1 = .ok (.iload_n 1, 1) := by decide +kernel
theorem dX9_cover_2 : decode cX9_cover 2 = .ok (.invokevirtual 308, 3) := by decide +kernel
theorem dX9_cover_5 : decode cX9_cover 5 = .ok (.astore_n 3, 1) := by decide +kernel
theorem dX9_cover_6 : decode cX9_cover 6 = .ok (.iload_n 2, 1) := by decide +kernel
theorem dX9_cover_7 : decode cX9_cover 7 = .ok (.bipush 9, 2) := by decide +kernel
theorem dX9_cover_9 : decode cX9_cover 9 = .ok (.invokestatic 312, 3) := by decide +kernel
theorem dX9_cover_12 : decode cX9_cover 12 = .ok (.aload_n 3, 1) := by decide +kernel
theorem dX9_cover_13 : decode cX9_cover 13 = .ok (.iload_n 2, 1) := by decide +kernel
theorem dX9_cover_14 : decode cX9_cover 14 = .ok (.invokevirtual 315, 3) := by decide +kernel
theorem dX9_cover_17 : decode cX9_cover 17 = .ok (.ireturn, 1) := by decide +kernel
set_option maxHeartbeats 1000000 in
set_option maxRecDepth 100000 in
theorem c_X9_cover (de : Nat) (w : Wd) (x : Nat) (A : Nat → Nat → Int32) (F : Nat → Int32) (nS nP nF nC tl : Nat) (ho cf cp cs sb pn : Nat → Nat) (dn : Nat → Nat → Nat) (ch : Nat → Nat → List (Nat × Int32)) (ca : Nat → Nat → Nat) (h : RC0 w de x A F nS nP nF nC tl ho cf cp cs sb pn dn ch ca) (hB : KB w nC A F ca) (T rt ly : Nat) (sN : Nat → Nat) (hv : PV A F nS nP nF nC tl ho cf cp cs sb pn dn ch T rt ly sN) (xc xw : Int32) (k : Nat) (hk : inR xc 0 (F 24 - 1) = true → xc = nI k ∧ k < nC) (q : Nat) (hq : inR xw 0 9 = true → xw = nI q ∧ q < 10) : Cw yX9_cover cX9_cover 4 (some .int) 7 111 5 30 de [.ref x, .int xc, .int xw] w (fun r w' => goV (bI (inR xc 0 (F 24 - 1))) (bI (inR xw 0 9)) 1 = 0 ∧ r = some (.int (A 23 (10 * k + q))) ∧ RC0 w' de x (A) (F) nS nP nF nC tl ho cf cp cs sb pn dn ch ca ∧ KB w' nC (A) (F) ca ∧ FrR w w') (fun E w' => w = w' ∧ ((E = "java/lang/IndexOutOfBoundsException" ∧ goV (bI (inR xc 0 (F 24 - 1))) (bI (inR xw 0 9)) 1 = 1) ∨ (E = "java/lang/IllegalArgumentException" ∧ goV (bI (inR xc 0 (F 24 - 1))) (bI (inR xw 0 9)) 1 = 2))) := by
  refine Cw.mk (by decide +kernel) [(0, .ref x), (1, .int xc), (2, .int xw)] rfl (Nat.le_of_ble_eq_true rfl) ?_
  intro p l e R s m args below meth c D cy z C ht
  obtain ⟨h60, h16, h5, hcv, hho⟩ := id hv.hcv
  have hfr : FrR w w := FrR.rf
  have hbk : Kp [2] w w := Kp.rf
  have hnS : nS < 100000 := by omega
  have hnP : nP < 100000 := by have := hv.hP6; omega
  have hnF : nF < 100000 := by omega
  have hnC : nC < 100000 := by omega
  refine g_aload_n C dX9_cover_0 rfl ?_
  refine g_iload_n C dX9_cover_1 rfl ?_
  refine gx_callV C cls_10 11 mt_X9_coverNumbered [.int xc] (c_X9_coverNumbered de w x A F nS nP nF nC tl ho cf cp cs sb pn dn ch ca h xc k hv.hC hnC hk) h.1.1 (by decide) k_867 rfl rfl (Nat.le_of_ble_eq_true rfl) (by decide) (by decide) (by decide) (by decide) dX9_cover_2 (fun E9 w9 hx9 => gx_out C ht (by decide) (by decide) ⟨hx9.2.1, Or.inl ⟨hx9.1, goV_1 hx9.2.2⟩⟩) (fun r_2 w_2 hp_2 => ?_)
  obtain ⟨rfl, rfl, f_2⟩ := hp_2
  obtain ⟨rfl, hk5⟩ := hk f_2
  refine g_astore_n C dX9_cover_5 (by decide) ?_
  refine g_iload_n C dX9_cover_6 rfl ?_
  refine g_bipush C 9 dX9_cover_7 (by rfl) ?_
  refine gx_callS C mt_X9_testWhat [.int xw, .int 9] (c_X9_testWhat de w xw 9) k_872 rfl rfl (Nat.le_of_ble_eq_true rfl) (by decide) (by decide) (by decide) (by decide) dX9_cover_9 (fun E9 w9 hx9 => gx_out C ht (by decide) (by decide) ⟨hx9.2.1, Or.inr (⟨hx9.1, goV_2 f_2 hx9.2.2⟩)⟩) (fun r_9 w_9 hp_9 => ?_)
  obtain ⟨rfl, rfl, f_9⟩ := hp_9
  obtain ⟨rfl, hq5⟩ := hq f_9
  refine g_aload_n C dX9_cover_12 rfl ?_
  refine g_iload_n C dX9_cover_13 rfl ?_
  refine g_callV C cls_2 3 mt_X1_tell [.int (nI q)] (c_X1_tell de w (ca 8 k) (ca 6 (cf k)) (ca 3 (cp k)) (h.2.2.2.2.2.2.1.2 k hk5).1 (h.2.2.2.2.2.2.1.2 k hk5).2.1 (h.2.2.2.2.2.1.2 (cf k) (hcv k hk5).2.1).1 (h.2.2.2.2.2.2.1.2 k hk5).2.2.1 (h.2.2.2.2.1.2.2.1 (cp k) (Or.inl (hv.hco k hk5).2.1)).1.1 (A 23 (10 * k + q)) q (by omega) (fun z => by rw [z]; exact (h.2.2.2.2.2.1.2 (cf k) (hcv k hk5).2.1).2.1.trans (hcv k hk5).1.symm) (fun z => by rw [z]; exact ((h.2.2.2.2.1.2.2.1 (cp k) (Or.inl (hv.hco k hk5).2.1)).2.1.trans (by rw [if_neg (by have := hv.hP6; have := (hv.hco k hk5).2.1; omega)])).trans (hv.hco k hk5).1.symm) (fun z => by rw [z]; exact (h.2.2.2.2.2.2.1.2 k hk5).2.2.2.1) (fun z => by rw [z]; exact (h.2.2.2.2.2.2.1.2 k hk5).2.2.2.2.1) (fun z => by rw [z]; exact (h.2.2.2.2.2.2.1.2 k hk5).2.2.2.2.2.1) (fun z => by rw [z]; exact (h.2.2.2.2.2.2.1.2 k hk5).2.2.2.2.2.2.1) (fun z => by rw [z]; exact (h.2.2.2.2.2.2.1.2 k hk5).2.2.2.2.2.2.2.2.1) (fun z => by rw [z]; exact (h.2.2.2.2.2.2.1.2 k hk5).2.2.2.2.2.2.2.2.2.1) (fun z => by rw [z]; exact (h.2.2.2.2.2.2.1.2 k hk5).2.2.2.2.2.2.2.2.2.2.1) (fun z => by rw [z]; exact (h.2.2.2.2.2.2.1.2 k hk5).2.2.2.2.2.2.2.2.2.2.2.1)) (h.2.2.2.2.2.2.1.2 k hk5).1 (by decide) k_876 rfl rfl (Nat.le_of_ble_eq_true rfl) (by decide) (by decide) (by decide) (by decide) dX9_cover_14 (fun r_14 w_14 hp_14 => ?_)
  obtain ⟨rfl, rfl⟩ := hp_14
  refine gx_ret <| g_iret C rfl rfl (by decide) (by decide) dX9_cover_17 ?_
  exact ⟨goV_000 f_2 f_9, congrArg (fun v => some (Value.int v)) (rfl), h, hB.mv hbk rfl rfl, hfr⟩
theorem dX9_dueAnew_0 : decode cX9_dueAnew 0 = .ok (.aload_n 0, 1) := by decide +kernel
theorem dX9_dueAnew_1 : decode cX9_dueAnew 1 = .ok (.iload_n 1, 1) := by decide +kernel
theorem dX9_dueAnew_2 : decode cX9_dueAnew 2 = .ok (.invokevirtual 308, 3) := by decide +kernel
theorem dX9_dueAnew_5 : decode cX9_dueAnew 5 = .ok (.astore_n 2, 1) := by decide +kernel
theorem dX9_dueAnew_6 : decode cX9_dueAnew 6 = .ok (.aload_n 2, 1) := by decide +kernel
theorem dX9_dueAnew_7 : decode cX9_dueAnew 7 = .ok (.getfield 317, 3) := by decide +kernel
theorem dX9_dueAnew_10 : decode cX9_dueAnew 10 = .ok (.iconst (-1), 1) := by decide +kernel
theorem dX9_dueAnew_11 : decode cX9_dueAnew 11 = .ok (.if_icmp .ne 5, 3) := by decide +kernel
theorem dX9_dueAnew_14 : decode cX9_dueAnew 14 = .ok (.iconst (-1), 1) := by decide +kernel
theorem dX9_dueAnew_15 : decode cX9_dueAnew 15 = .ok (.ireturn, 1) := by decide +kernel
theorem dX9_dueAnew_16 : decode cX9_dueAnew 16 = .ok (.aload_n 2, 1) := by decide +kernel
theorem dX9_dueAnew_17 : decode cX9_dueAnew 17 = .ok (.aload_n 0, 1) := by decide +kernel
theorem dX9_dueAnew_18 : decode cX9_dueAnew 18 = .ok (.aload_n 2, 1) := by decide +kernel
theorem dX9_dueAnew_19 : decode cX9_dueAnew 19 = .ok (.getfield 320, 3) := by decide +kernel
theorem dX9_dueAnew_22 : decode cX9_dueAnew 22 = .ok (.getfield 199, 3) := by decide +kernel
theorem dX9_dueAnew_25 : decode cX9_dueAnew 25 = .ok (.aload_n 2, 1) := by decide +kernel
theorem dX9_dueAnew_26 : decode cX9_dueAnew 26 = .ok (.getfield 324, 3) := by decide +kernel
theorem dX9_dueAnew_29 : decode cX9_dueAnew 29 = .ok (.aload_n 2, 1) := by decide +kernel
theorem dX9_dueAnew_30 : decode cX9_dueAnew 30 = .ok (.getfield 327, 3) := by decide +kernel
theorem dX9_dueAnew_33 : decode cX9_dueAnew 33 = .ok (.aload_n 2, 1) := by decide +kernel
theorem dX9_dueAnew_34 : decode cX9_dueAnew 34 = .ok (.getfield 330, 3) := by decide +kernel
theorem dX9_dueAnew_37 : decode cX9_dueAnew 37 = .ok (.invokevirtual 304, 3) := by decide +kernel
theorem dX9_dueAnew_40 : decode cX9_dueAnew 40 = .ok (.invokevirtual 333, 3) := by decide +kernel
theorem dX9_dueAnew_43 : decode cX9_dueAnew 43 = .ok (.ireturn, 1) := by decide +kernel
set_option maxHeartbeats 1000000 in
set_option maxRecDepth 100000 in
theorem c_X9_dueAnew (de : Nat) (w : Wd) (x : Nat) (A : Nat → Nat → Int32) (F : Nat → Int32) (nS nP nF nC tl : Nat) (ho cf cp cs sb pn : Nat → Nat) (dn : Nat → Nat → Nat) (ch : Nat → Nat → List (Nat × Int32)) (ca : Nat → Nat → Nat) (h : RC0 w de x A F nS nP nF nC tl ho cf cp cs sb pn dn ch ca) (hB : KB w nC A F ca) (T rt ly : Nat) (sN : Nat → Nat) (hv : PV A F nS nP nF nC tl ho cf cp cs sb pn dn ch T rt ly sN) (xc : Int32) (k : Nat) (hk : inR xc 0 (F 24 - 1) = true → xc = nI k ∧ k < nC) (htl : tl < 100000) : Cw yX9_dueAnew cX9_dueAnew 3 (some .int) 7 143 5 30 de [.ref x, .int xc] w (fun r w' => goV (bI (inR xc 0 (F 24 - 1))) 1 1 = 0 ∧ r = some (.int (A 23 (10 * k + 7))) ∧ RC0 w' de x (A) (F) nS nP nF nC tl ho cf cp cs sb pn dn ch ca ∧ KB w' nC (A) (F) ca ∧ FrR w w') (fun E w' => w = w' ∧ ((E = "java/lang/IndexOutOfBoundsException" ∧ goV (bI (inR xc 0 (F 24 - 1))) 1 1 = 1))) := by
  refine Cw.mk (by decide +kernel) [(0, .ref x), (1, .int xc)] rfl (Nat.le_of_ble_eq_true rfl) ?_
  intro p l e R s m args below meth c D cy z C ht
  obtain ⟨h60, h16, h5, hcv, hho⟩ := id hv.hcv
  have hfr : FrR w w := FrR.rf
  have hbk : Kp [2] w w := Kp.rf
  have hnS : nS < 100000 := by omega
  have hnP : nP < 100000 := by have := hv.hP6; omega
  have hnF : nF < 100000 := by omega
  have hnC : nC < 100000 := by omega
  refine g_aload_n C dX9_dueAnew_0 rfl ?_
  refine g_iload_n C dX9_dueAnew_1 rfl ?_
  refine gx_callV C cls_10 11 mt_X9_coverNumbered [.int xc] (c_X9_coverNumbered de w x A F nS nP nF nC tl ho cf cp cs sb pn dn ch ca h xc k hv.hC hnC hk) h.1.1 (by decide) k_867 rfl rfl (Nat.le_of_ble_eq_true rfl) (by decide) (by decide) (by decide) (by decide) dX9_dueAnew_2 (fun E9 w9 hx9 => gx_out C ht (by decide) (by decide) ⟨hx9.2.1, ⟨hx9.1, goV_1 hx9.2.2⟩⟩) (fun r_2 w_2 hp_2 => ?_)
  obtain ⟨rfl, rfl, f_2⟩ := hp_2
  obtain ⟨rfl, hk5⟩ := hk f_2
  obtain ⟨hsb, hdu⟩ := hv.hdu k hk5
  rcases hdu with ⟨d1, d2, d3, d8⟩ | ⟨d1, r9, d2, d3, d4, d5⟩
  · have hcase := d2
    refine g_astore_n C dX9_dueAnew_5 (by decide) ?_
    refine g_aload_n C dX9_dueAnew_6 rfl ?_
    refine g_getI C cls_2 3 7 (h.2.2.2.2.2.2.1.2 k hk5).1 rfl k_704 dX9_dueAnew_7 ?_
    rw [(h.2.2.2.2.2.2.1.2 k hk5).2.2.2.2.2.2.2.2.1, hcase]
    refine g_iconst C (-1) dX9_dueAnew_10 (by rfl) ?_
    refine g_icmp_ne C 16 dX9_dueAnew_11 (by decide) (fun c_11 => ?_) (fun c_11 => ?_)
    · have b_11 := decide_eq_false c_11
      exact absurd rfl c_11
    · have b_11 := decide_eq_true c_11
      refine g_iconst C (-1) dX9_dueAnew_14 (by rfl) ?_
      refine gx_ret <| g_iret C rfl rfl (by decide) (by decide) dX9_dueAnew_15 ?_
      first
      | exact ⟨goV_00 f_2, congrArg (fun v => some (Value.int v)) (d3.symm), h, hB.mv hbk rfl rfl, hfr⟩
      | exact absurd c_11 (fun z2 => nI_pos (n := r9) (by omega) (by rw [z2]; decide))
  · have hcase := d3
    refine g_astore_n C dX9_dueAnew_5 (by decide) ?_
    refine g_aload_n C dX9_dueAnew_6 rfl ?_
    refine g_getI C cls_2 3 7 (h.2.2.2.2.2.2.1.2 k hk5).1 rfl k_704 dX9_dueAnew_7 ?_
    rw [(h.2.2.2.2.2.2.1.2 k hk5).2.2.2.2.2.2.2.2.1, hcase]
    refine g_iconst C (-1) dX9_dueAnew_10 (by rfl) ?_
    refine g_icmp_ne C 16 dX9_dueAnew_11 (by decide) (fun c_11 => ?_) (fun c_11 => ?_)
    · have b_11 := decide_eq_false c_11
      refine g_aload_n C dX9_dueAnew_16 rfl ?_
      refine g_aload_n C dX9_dueAnew_17 rfl ?_
      refine g_aload_n C dX9_dueAnew_18 rfl ?_
      refine g_getR (b := (ca 6 (cf k))) C cls_2 3 0 (h.2.2.2.2.2.2.1.2 k hk5).1 (h.2.2.2.2.2.2.1.2 k hk5).2.1 rfl k_693 dX9_dueAnew_19 ?_
      refine g_getR (b := (ca 0 (ho (cf k)))) C cls_3 4 1 (h.2.2.2.2.2.1.2 (cf k) (hcv k hk5).2.1).1 (h.2.2.2.2.2.1.2 (cf k) (hcv k hk5).2.1).2.2.1 rfl k_536 dX9_dueAnew_22 ?_
      refine g_aload_n C dX9_dueAnew_25 rfl ?_
      refine g_getI C cls_2 3 3 (h.2.2.2.2.2.2.1.2 k hk5).1 rfl k_698 dX9_dueAnew_26 ?_
      rw [(h.2.2.2.2.2.2.1.2 k hk5).2.2.2.2.1, (hcv k hk5).2.2.1]
      refine g_aload_n C dX9_dueAnew_29 rfl ?_
      refine g_getR (b := (ca 3 (cp k))) C cls_2 3 1 (h.2.2.2.2.2.2.1.2 k hk5).1 (h.2.2.2.2.2.2.1.2 k hk5).2.2.1 rfl k_695 dX9_dueAnew_30 ?_
      refine g_aload_n C dX9_dueAnew_33 rfl ?_
      refine g_getI C cls_2 3 6 (h.2.2.2.2.2.2.1.2 k hk5).1 rfl k_702 dX9_dueAnew_34 ?_
      rw [(h.2.2.2.2.2.2.1.2 k hk5).2.2.2.2.2.2.2.1]
      refine g_callV C cls_10 11 mt_X9_rateBy [.ref (ca 0 (ho (cf k))), .int (nI (cs k)), .ref (ca 3 (cp k)), .int (nI (sb k))] (k_rateBy de w x A F nS nP nF nC tl ho cf cp cs sb pn dn ch ca h (ho (cf k)) (cs k) (cp k) (sb k) (hho (cf k) (hcv k hk5).2.1).2 (hcv k hk5).2.2.2 (hv.hco k hk5).2.1 (by omega)) h.1.1 (by decide) k_631 rfl rfl (Nat.le_of_ble_eq_true rfl) (by decide) (by decide) (by decide) (by decide) dX9_dueAnew_37 (fun r_37 w_37 hp_37 => ?_)
      obtain ⟨rfl, g, rfl⟩ := hp_37
      rw [d5]
      replace hfr := hfr.tr (FrR.stR h.2.2.2.1.2.2.1 (by decide) : FrR _ (stR w 1010 (ca 9 2) g))
      replace hbk := hbk.tr (Kp.stR h.2.2.2.1.2.2.1 (by decide) : Kp [2] _ (stR w 1010 (ca 9 2) g))
      replace h := h.view g
      generalize stR w 1010 (ca 9 2) g = w1 at h hfr hbk ⊢
      refine g_callV C cls_2 3 mt_X1_dueBy [.int (nI r9)] (c_X1_dueBy de w1 (ca 8 k) (h.2.2.2.2.2.2.1.2 k hk5).1 (nI r9)) (h.2.2.2.2.2.2.1.2 k hk5).1 (by decide) k_750 rfl rfl (Nat.le_of_ble_eq_true rfl) (by decide) (by decide) (by decide) (by decide) dX9_dueAnew_40 (fun r_40 w_40 hp_40 => ?_)
      obtain ⟨rfl, rfl⟩ := hp_40
      refine gx_ret <| g_iret C rfl rfl (by decide) (by decide) dX9_dueAnew_43 ?_
      exact ⟨goV_00 f_2, congrArg (fun v => some (Value.int v)) (by rw [(h.2.2.2.2.2.2.1.2 k hk5).2.2.2.1, (hv.hco k hk5).2.2.1]; exact (dv_e (sN := sN) (rN := fun _ => r9) (k := k) (hv.hco k hk5).2.2.2.2 d2).trans d4.symm), h, hB.mv hbk rfl rfl, hfr⟩
    · have b_11 := decide_eq_true c_11
      refine g_iconst C (-1) dX9_dueAnew_14 (by rfl) ?_
      refine gx_ret <| g_iret C rfl rfl (by decide) (by decide) dX9_dueAnew_15 ?_
      first
      | exact ⟨goV_00 f_2, congrArg (fun v => some (Value.int v)) (d3.symm), h, hB.mv hbk rfl rfl, hfr⟩
      | exact absurd c_11 (fun z2 => nI_pos (n := r9) (by omega) (by rw [z2]; decide))
theorem dX9_told_0 : decode cX9_told 0 = .ok (.aload_n 0, 1) := by decide +kernel
theorem dX9_told_1 : decode cX9_told 1 = .ok (.iload_n 1, 1) := by decide +kernel
theorem dX9_told_2 : decode cX9_told 2 = .ok (.invokevirtual 161, 3) := by decide +kernel
theorem dX9_told_5 : decode cX9_told 5 = .ok (.astore_n 3, 1) := by decide +kernel
theorem dX9_told_6 : decode cX9_told 6 = .ok (.iload_n 2, 1) := by decide +kernel
theorem dX9_told_7 : decode cX9_told 7 = .ok (.iconst 4, 1) := by decide +kernel
theorem dX9_told_8 : decode cX9_told 8 = .ok (.invokestatic 312, 3) := by decide +kernel
theorem dX9_told_11 : decode cX9_told 11 = .ok (.aload_n 3, 1) := by decide +kernel
theorem dX9_told_12 : decode cX9_told 12 = .ok (.iload_n 2, 1) := by decide +kernel
theorem dX9_told_13 : decode cX9_told 13 = .ok (.invokevirtual 336, 3) := by decide +kernel
theorem dX9_told_16 : decode cX9_told 16 = .ok (.ireturn, 1) := by decide +kernel
set_option maxHeartbeats 1000000 in
set_option maxRecDepth 100000 in
theorem c_X9_told (de : Nat) (w : Wd) (x : Nat) (A : Nat → Nat → Int32) (F : Nat → Int32) (nS nP nF nC tl : Nat) (ho cf cp cs sb pn : Nat → Nat) (dn : Nat → Nat → Nat) (ch : Nat → Nat → List (Nat × Int32)) (ca : Nat → Nat → Nat) (h : RC0 w de x A F nS nP nF nC tl ho cf cp cs sb pn dn ch ca) (hB : KB w nC A F ca) (T rt ly : Nat) (sN : Nat → Nat) (hv : PV A F nS nP nF nC tl ho cf cp cs sb pn dn ch T rt ly sN) (xa xw : Int32) (fi : Nat) (hfi : inR xa 0 (F 17 - 1) = true → xa = nI fi ∧ fi < nF) (q : Nat) (hq : inR xw 0 4 = true → xw = nI q ∧ q < 5) : Cw yX9_told cX9_told 4 (some .int) 7 111 5 30 de [.ref x, .int xa, .int xw] w (fun r w' => goV (bI (inR xa 0 (F 17 - 1))) (bI (inR xw 0 4)) 1 = 0 ∧ r = some (.int (if xw = 0 then A 12 fi else if xw = 1 then A 13 fi else if xw = 2 then A 14 fi else if xw = 3 then A 15 fi else A 16 fi)) ∧ RC0 w' de x (A) (F) nS nP nF nC tl ho cf cp cs sb pn dn ch ca ∧ KB w' nC (A) (F) ca ∧ FrR w w') (fun E w' => w = w' ∧ ((E = "java/lang/IndexOutOfBoundsException" ∧ goV (bI (inR xa 0 (F 17 - 1))) (bI (inR xw 0 4)) 1 = 1) ∨ (E = "java/lang/IllegalArgumentException" ∧ goV (bI (inR xa 0 (F 17 - 1))) (bI (inR xw 0 4)) 1 = 2))) := by
  refine Cw.mk (by decide +kernel) [(0, .ref x), (1, .int xa), (2, .int xw)] rfl (Nat.le_of_ble_eq_true rfl) ?_
  intro p l e R s m args below meth c D cy z C ht
  obtain ⟨h60, h16, h5, hcv, hho⟩ := id hv.hcv
  have hfr : FrR w w := FrR.rf
  have hbk : Kp [2] w w := Kp.rf
  have hnS : nS < 100000 := by omega
  have hnP : nP < 100000 := by have := hv.hP6; omega
  have hnF : nF < 100000 := by omega
  have hnC : nC < 100000 := by omega
  refine g_aload_n C dX9_told_0 rfl ?_
  refine g_iload_n C dX9_told_1 rfl ?_
  refine gx_callV C cls_10 11 mt_X9_farmNumbered [.int xa] (c_X9_farmNumbered de w x A F nS nP nF nC tl ho cf cp cs sb pn dn ch ca h xa fi hv.hN hnF hfi) h.1.1 (by decide) k_569 rfl rfl (Nat.le_of_ble_eq_true rfl) (by decide) (by decide) (by decide) (by decide) dX9_told_2 (fun E9 w9 hx9 => gx_out C ht (by decide) (by decide) ⟨hx9.2.1, Or.inl ⟨hx9.1, goV_1 hx9.2.2⟩⟩) (fun r_2 w_2 hp_2 => ?_)
  obtain ⟨rfl, rfl, f_2⟩ := hp_2
  obtain ⟨rfl, hf5⟩ := hfi f_2
  refine g_astore_n C dX9_told_5 (by decide) ?_
  refine g_iload_n C dX9_told_6 rfl ?_
  refine g_iconst C 4 dX9_told_7 (by rfl) ?_
  refine gx_callS C mt_X9_testWhat [.int xw, .int 4] (c_X9_testWhat de w xw 4) k_872 rfl rfl (Nat.le_of_ble_eq_true rfl) (by decide) (by decide) (by decide) (by decide) dX9_told_8 (fun E9 w9 hx9 => gx_out C ht (by decide) (by decide) ⟨hx9.2.1, Or.inr (⟨hx9.1, goV_2 f_2 hx9.2.2⟩)⟩) (fun r_8 w_8 hp_8 => ?_)
  obtain ⟨rfl, rfl, f_8⟩ := hp_8
  obtain ⟨rfl, hq5⟩ := hq f_8
  refine g_aload_n C dX9_told_11 rfl ?_
  refine g_iload_n C dX9_told_12 rfl ?_
  refine g_callV C cls_3 4 mt_X2_tell [.int (nI q)] (c_X2_tell de w (ca 6 fi) (ca 0 (ho fi)) (h.2.2.2.2.2.1.2 fi hf5).1 (h.2.2.2.2.2.1.2 fi hf5).2.2.1 (h.2.2.1.1.2.2.2.2 (ho fi) (hho fi hf5).2).1 (if nI q = 0 then A 12 fi else if nI q = 1 then A 13 fi else if nI q = 2 then A 14 fi else if nI q = 3 then A 15 fi else A 16 fi) q (by omega) (fun z => by rw [z]; exact (h.2.2.1.1.2.2.2.2 (ho fi) (hho fi hf5).2).2.1.trans (hho fi hf5).1.symm) (fun z => by rw [z]; exact (h.2.2.2.2.2.1.2 fi hf5).2.2.2.2.2.2.2.1) (fun z => by rw [z]; exact (h.2.2.2.2.2.1.2 fi hf5).2.2.2.2.2.2.2.2.1) (fun z => by rw [z]; exact (h.2.2.2.2.2.1.2 fi hf5).2.2.2.2.2.2.2.2.2.1) (fun z => by rw [z]; exact (h.2.2.2.2.2.1.2 fi hf5).2.2.2.2.2.2.2.2.2.2)) (h.2.2.2.2.2.1.2 fi hf5).1 (by decide) k_894 rfl rfl (Nat.le_of_ble_eq_true rfl) (by decide) (by decide) (by decide) (by decide) dX9_told_13 (fun r_13 w_13 hp_13 => ?_)
  obtain ⟨rfl, rfl⟩ := hp_13
  refine gx_ret <| g_iret C rfl rfl (by decide) (by decide) dX9_told_16 ?_
  exact ⟨goV_000 f_2 f_8, congrArg (fun v => some (Value.int v)) (rfl), h, hB.mv hbk rfl rfl, hfr⟩
theorem dX9_books_0 : decode cX9_books 0 = .ok (.iload_n 1, 1) := by decide +kernel
theorem dX9_books_1 : decode cX9_books 1 = .ok (.iconst 4, 1) := by decide +kernel
theorem dX9_books_2 : decode cX9_books 2 = .ok (.invokestatic 312, 3) := by decide +kernel
theorem dX9_books_5 : decode cX9_books 5 = .ok (.aload_n 0, 1) := by decide +kernel
theorem dX9_books_6 : decode cX9_books 6 = .ok (.getfield 39, 3) := by decide +kernel
theorem dX9_books_9 : decode cX9_books 9 = .ok (.iload_n 1, 1) := by decide +kernel
theorem dX9_books_10 : decode cX9_books 10 = .ok (.invokevirtual 337, 3) := by decide +kernel
theorem dX9_books_13 : decode cX9_books 13 = .ok (.ireturn, 1) := by decide +kernel
set_option maxHeartbeats 1000000 in
set_option maxRecDepth 100000 in
theorem c_X9_books (de : Nat) (w : Wd) (x : Nat) (A : Nat → Nat → Int32) (F : Nat → Int32) (nS nP nF nC tl : Nat) (ho cf cp cs sb pn : Nat → Nat) (dn : Nat → Nat → Nat) (ch : Nat → Nat → List (Nat × Int32)) (ca : Nat → Nat → Nat) (h : RC0 w de x A F nS nP nF nC tl ho cf cp cs sb pn dn ch ca) (hB : KB w nC A F ca) (T rt ly : Nat) (sN : Nat → Nat) (hv : PV A F nS nP nF nC tl ho cf cp cs sb pn dn ch T rt ly sN) (xw : Int32) (q : Nat) (hq : inR xw 0 4 = true → xw = nI q ∧ q < 5) : Cw yX9_books cX9_books 2 (some .int) 7 111 5 30 de [.ref x, .int xw] w (fun r w' => goV (bI (inR xw 0 4)) 1 1 = 0 ∧ r = some (.int (if xw = 0 then sumS (fun k => A 23 (10 * k + 4)) nC else if xw = 1 then sumS (fun k => A 23 (10 * k + 5)) nC else if xw = 2 then sumS (fun k => A 23 (10 * k + 8)) nC else if xw = 3 then F 27 else sumS (fun k => A 23 (10 * k + 4)) nC + F 27 - sumS (fun k => A 23 (10 * k + 8)) nC)) ∧ RC0 w' de x (A) (F) nS nP nF nC tl ho cf cp cs sb pn dn ch ca ∧ KB w' nC (A) (F) ca ∧ FrR w w') (fun E w' => w = w' ∧ ((E = "java/lang/IllegalArgumentException" ∧ goV (bI (inR xw 0 4)) 1 1 = 1))) := by
  refine Cw.mk (by decide +kernel) [(0, .ref x), (1, .int xw)] rfl (Nat.le_of_ble_eq_true rfl) ?_
  intro p l e R s m args below meth c D cy z C ht
  obtain ⟨h60, h16, h5, hcv, hho⟩ := id hv.hcv
  have hfr : FrR w w := FrR.rf
  have hbk : Kp [2] w w := Kp.rf
  have hnS : nS < 100000 := by omega
  have hnP : nP < 100000 := by have := hv.hP6; omega
  have hnF : nF < 100000 := by omega
  have hnC : nC < 100000 := by omega
  refine g_iload_n C dX9_books_0 rfl ?_
  refine g_iconst C 4 dX9_books_1 (by rfl) ?_
  refine gx_callS C mt_X9_testWhat [.int xw, .int 4] (c_X9_testWhat de w xw 4) k_872 rfl rfl (Nat.le_of_ble_eq_true rfl) (by decide) (by decide) (by decide) (by decide) dX9_books_2 (fun E9 w9 hx9 => gx_out C ht (by decide) (by decide) ⟨hx9.2.1, ⟨hx9.1, goV_1 hx9.2.2⟩⟩) (fun r_2 w_2 hp_2 => ?_)
  obtain ⟨rfl, rfl, f_2⟩ := hp_2
  obtain ⟨rfl, hq5⟩ := hq f_2
  refine g_aload_n C dX9_books_5 rfl ?_
  refine g_getR (b := (ca 9 7)) C cls_10 11 5 h.1.1 h.1.2.2.2.2.2.2.1 rfl k_141 dX9_books_6 ?_
  refine g_iload_n C dX9_books_9 rfl ?_
  refine g_callV C cls_1 2 mt_X0_tell [.int (nI q)] (c_X0_tell de w (ca 9 7) hB.1 (if nI q = 0 then sumS (fun k => A 23 (10 * k + 4)) nC else if nI q = 1 then sumS (fun k => A 23 (10 * k + 5)) nC else if nI q = 2 then sumS (fun k => A 23 (10 * k + 8)) nC else if nI q = 3 then F 27 else sumS (fun k => A 23 (10 * k + 4)) nC + F 27 - sumS (fun k => A 23 (10 * k + 8)) nC) q (by omega) (fun z => by rw [z]; exact hB.2.1) (fun z => by rw [z]; exact hB.2.2.1) (fun z => by rw [z]; exact hB.2.2.2.1) (fun z => by rw [z]; exact hB.2.2.2.2) (fun z => by rw [z, hB.2.1, hB.2.2.2.2, hB.2.2.2.1]; rfl)) hB.1 (by decide) k_905 rfl rfl (Nat.le_of_ble_eq_true rfl) (by decide) (by decide) (by decide) (by decide) dX9_books_10 (fun r_10 w_10 hp_10 => ?_)
  obtain ⟨rfl, rfl⟩ := hp_10
  refine gx_ret <| g_iret C rfl rfl (by decide) (by decide) dX9_books_13 ?_
  exact ⟨goV_00 f_2, congrArg (fun v => some (Value.int v)) (rfl), h, hB.mv hbk rfl rfl, hfr⟩
end PUB40
