section LISTS9
/-- kinds of a list and of its row -/
def KL (Kl Ke : Nat) : Prop := okF 0 3 Kl 0 false = true ∧ okF 0 3 Kl 1 true = true ∧ okF 0 3 Kl 2 false = true ∧ okA Ke 3 = true ∧ (0 < Kl ∧ Kl < 1000 ∧ (Kl - 1) % 20 = 0)
/-- the list at l holds the n objects el 0, el 1 .. -/
def RLs (w : Wd) (de Kl Ke l n : Nat) (el : Nat → Nat) : Prop := kd w l = Kl ∧ fI w Kl 2 l = nI n ∧ n ≤ 600 ∧
  ((n = 0 ∧ fR w Kl 1 l = some de) ∨ ∃ ar : Nat, fR w Kl 1 l = some ar ∧ ar ≠ de ∧ kd w ar = Ke ∧ n ≤ aL w ar ∧ 10 ≤ aL w ar ∧ aL w ar ≤ 1000 ∧ ∀ i, i < n → aR w Ke ar i = some (el i))
theorem RLs.nth {w : Wd} {de Kl Ke l n i : Nat} {el : Nat → Nat} (h : RLs w de Kl Ke l n el) (hi : i < n) : ∃ ar : Nat, fR w Kl 1 l = some ar ∧ kd w ar = Ke ∧ n ≤ aL w ar ∧ aL w ar ≤ 1000 ∧ aR w Ke ar i = some (el i) := by
  obtain ⟨-, -, -, h4⟩ := h
  rcases h4 with ⟨h5, -⟩ | ⟨ar, h5, h6, h7, h8, h9, h10, h11⟩
  · omega
  · exact ⟨ar, h5, h7, h8, h10, h11 i hi⟩
theorem nI_vp {i n : Nat} (h : i < n) (hn : n ≤ 100000) : vp_in (nI i) n := vp_in_nI h (by omega)
theorem nI_tn {i : Nat} (h : i ≤ 100000) : (nI i).toNatClampNeg = i := nI_clamp (by omega)
theorem dJx4a65c_size_8abf5_0 : decode cJx4a65c_size_8abf5 0 = .ok (.aload_n 0, 1) := by decide +kernel
theorem dJx4a65c_size_8abf5_1 : decode cJx4a65c_size_8abf5 1 = .ok (.getfield 48, 3) := by decide +kernel
theorem dJx4a65c_size_8abf5_4 : decode cJx4a65c_size_8abf5 4 = .ok (.ireturn, 1) := by decide +kernel
set_option maxHeartbeats 4000000 in
set_option maxRecDepth 100000 in
theorem c_Jx4a65c_size_8abf5 (de : Nat) (w : Wd) (Kl Ke : Nat) (hL : KL Kl Ke) (a : Nat) (ha : kd w a = Kl) : Ct yJx4a65c_size_8abf5 cJx4a65c_size_8abf5 1 (some .int) 0 0 0 0 de [.ref a] w (fun r w' => r = some (.int (fI w Kl 2 a)) ∧ w = w') := by
  refine Ct.mk (by decide +kernel) [(0, .ref a)] rfl (Nat.le_of_ble_eq_true rfl) ?_
  intro p l e R s m args below meth c D cy z C hnm
  refine g_aload_n C dJx4a65c_size_8abf5_0 rfl ?_
  refine g_getI C cls_0 Kl 2 ha hL.2.2.1 k_56 dJx4a65c_size_8abf5_1 ?_
  refine g_iret C rfl rfl (by decide) (by decide) dJx4a65c_size_8abf5_4 ?_
  exact ⟨rfl, rfl⟩
theorem dJx4a65c_isEmpty_aae02_0 : decode cJx4a65c_isEmpty_aae02 0 = .ok (.aload_n 0, 1) := by decide +kernel
theorem dJx4a65c_isEmpty_aae02_1 : decode cJx4a65c_isEmpty_aae02 1 = .ok (.getfield 48, 3) := by decide +kernel
theorem dJx4a65c_isEmpty_aae02_4 : decode cJx4a65c_isEmpty_aae02 4 = .ok (.ifCond .ne 7, 3) := by decide +kernel
theorem dJx4a65c_isEmpty_aae02_7 : decode cJx4a65c_isEmpty_aae02 7 = .ok (.iconst 1, 1) := by decide +kernel
theorem dJx4a65c_isEmpty_aae02_8 : decode cJx4a65c_isEmpty_aae02 8 = .ok (.goto 4, 3) := by decide +kernel
theorem dJx4a65c_isEmpty_aae02_11 : decode cJx4a65c_isEmpty_aae02 11 = .ok (.iconst 0, 1) := by decide +kernel
theorem dJx4a65c_isEmpty_aae02_12 : decode cJx4a65c_isEmpty_aae02 12 = .ok (.ireturn, 1) := by decide +kernel
set_option maxHeartbeats 4000000 in
set_option maxRecDepth 100000 in
theorem c_Jx4a65c_isEmpty_aae02 (de : Nat) (w : Wd) (Kl Ke : Nat) (hL : KL Kl Ke) (a : Nat) (ha : kd w a = Kl) : Ct yJx4a65c_isEmpty_aae02 cJx4a65c_isEmpty_aae02 1 (some .boolean) 0 0 0 0 de [.ref a] w (fun r w' => r = some (.int (bI (decide (fI w Kl 2 a = 0)))) ∧ w = w') := by
  refine Ct.mk (by decide +kernel) [(0, .ref a)] rfl (Nat.le_of_ble_eq_true rfl) ?_
  intro p l e R s m args below meth c D cy z C hnm
  refine g_aload_n C dJx4a65c_isEmpty_aae02_0 rfl ?_
  refine g_getI C cls_0 Kl 2 ha hL.2.2.1 k_56 dJx4a65c_isEmpty_aae02_1 ?_
  refine g_if_ne C 11 dJx4a65c_isEmpty_aae02_4 (by decide) (fun c_4 => ?_) (fun c_4 => ?_)
  · refine g_iconst C 0 dJx4a65c_isEmpty_aae02_11 (by rfl) ?_
    refine g_iret C rfl rfl (by decide) (by decide) dJx4a65c_isEmpty_aae02_12 ?_
    exact ⟨congrArg (fun v => some (Value.int v)) (by simp_all [bI]), rfl⟩
  · refine g_iconst C 1 dJx4a65c_isEmpty_aae02_7 (by rfl) ?_
    refine g_goto C 12 dJx4a65c_isEmpty_aae02_8 (by decide) ?_
    refine g_iret C rfl rfl (by decide) (by decide) dJx4a65c_isEmpty_aae02_12 ?_
    exact ⟨congrArg (fun v => some (Value.int v)) (by simp_all [bI]), rfl⟩
theorem dJ3_checkIndex_8e157_0 : decode cJ3_checkIndex_8e157 0 = .ok (.iload_n 0, 1) := by decide +kernel
theorem dJ3_checkIndex_8e157_1 : decode cJ3_checkIndex_8e157 1 = .ok (.ifCond .lt 8, 3) := by decide +kernel
theorem dJ3_checkIndex_8e157_4 : decode cJ3_checkIndex_8e157 4 = .ok (.iload_n 0, 1) := by decide +kernel
theorem dJ3_checkIndex_8e157_5 : decode cJ3_checkIndex_8e157 5 = .ok (.iload_n 1, 1) := by decide +kernel
theorem dJ3_checkIndex_8e157_6 : decode cJ3_checkIndex_8e157 6 = .ok (.if_icmp .lt 10, 3) := by decide +kernel
theorem dJ3_checkIndex_8e157_16 : decode cJ3_checkIndex_8e157 16 = .ok (.iload_n 0, 1) := by decide +kernel
theorem dJ3_checkIndex_8e157_17 : decode cJ3_checkIndex_8e157 17 = .ok (.ireturn, 1) := by decide +kernel
set_option maxHeartbeats 4000000 in
set_option maxRecDepth 100000 in
theorem c_J3_checkIndex_8e157 (de : Nat) (w : Wd) (x y : Int32) (h1 : ¬ x < 0) (h2 : x < y) : Ct yJ3_checkIndex_8e157 cJ3_checkIndex_8e157 3 (some .int) 0 0 0 0 de [.int x, .int y, .null] w (fun r w' => r = some (.int x) ∧ w = w') := by
  refine Ct.mk (by decide +kernel) [(0, .int x), (1, .int y), (2, .null)] rfl (Nat.le_of_ble_eq_true rfl) ?_
  intro p l e R s m args below meth c D cy z C hnm
  refine g_iload_n C dJ3_checkIndex_8e157_0 rfl ?_
  refine g_if_lt C 9 dJ3_checkIndex_8e157_1 (by decide) (fun c_1 => ?_) (fun c_1 => ?_)
  · first | exact absurd c_1 h1 | exact absurd h2 c_6
  · refine g_iload_n C dJ3_checkIndex_8e157_4 rfl ?_
    refine g_iload_n C dJ3_checkIndex_8e157_5 rfl ?_
    refine g_icmp_lt C 16 dJ3_checkIndex_8e157_6 (by decide) (fun c_6 => ?_) (fun c_6 => ?_)
    · refine g_iload_n C dJ3_checkIndex_8e157_16 rfl ?_
      refine g_iret C rfl rfl (by decide) (by decide) dJ3_checkIndex_8e157_17 ?_
      exact ⟨rfl, rfl⟩
    · first | exact absurd c_1 h1 | exact absurd h2 c_6
theorem dJ15_checkIndex_7cf53_0 : decode cJ15_checkIndex_7cf53 0 = .ok (.iload_n 0, 1) := by decide +kernel
theorem dJ15_checkIndex_7cf53_1 : decode cJ15_checkIndex_7cf53 1 = .ok (.iload_n 1, 1) := by decide +kernel
theorem dJ15_checkIndex_7cf53_2 : decode cJ15_checkIndex_7cf53 2 = .ok (.aconst_null, 1) := by decide +kernel
theorem dJ15_checkIndex_7cf53_3 : decode cJ15_checkIndex_7cf53 3 = .ok (.invokestatic 105, 3) := by decide +kernel
theorem dJ15_checkIndex_7cf53_6 : decode cJ15_checkIndex_7cf53 6 = .ok (.ireturn, 1) := by decide +kernel
set_option maxHeartbeats 4000000 in
set_option maxRecDepth 100000 in
theorem c_J15_checkIndex_7cf53 (de : Nat) (w : Wd) (x y : Int32) (h1 : ¬ x < 0) (h2 : x < y) : Ct yJ15_checkIndex_7cf53 cJ15_checkIndex_7cf53 2 (some .int) 1 22 0 0 de [.int x, .int y] w (fun r w' => r = some (.int x) ∧ w = w') := by
  refine Ct.mk (by decide +kernel) [(0, .int x), (1, .int y)] rfl (Nat.le_of_ble_eq_true rfl) ?_
  intro p l e R s m args below meth c D cy z C hnm
  refine g_iload_n C dJ15_checkIndex_7cf53_0 rfl ?_
  refine g_iload_n C dJ15_checkIndex_7cf53_1 rfl ?_
  refine g_null C dJ15_checkIndex_7cf53_2 ?_
  refine g_callS C mt_J3_checkIndex_8e157 [.int x, .int y, .null] (c_J3_checkIndex_8e157 de w x y h1 h2) k_406 rfl rfl (Nat.le_of_ble_eq_true rfl) (by decide) (by decide) (by decide) (by decide) dJ15_checkIndex_7cf53_3 (fun r_3 w_3 hp_3 => ?_)
  obtain ⟨rfl, rfl⟩ := hp_3
  refine g_iret C rfl rfl (by decide) (by decide) dJ15_checkIndex_7cf53_6 ?_
  exact ⟨rfl, rfl⟩
theorem dJx4a65c_elementData_915e3_0 : decode cJx4a65c_elementData_915e3 0 = .ok (.aload_n 0, 1) := by decide +kernel
theorem dJx4a65c_elementData_915e3_1 : decode cJx4a65c_elementData_915e3 1 = .ok (.getfield 9, 3) := by decide +kernel
theorem dJx4a65c_elementData_915e3_4 : decode cJx4a65c_elementData_915e3 4 = .ok (.iload_n 1, 1) := by decide +kernel
theorem dJx4a65c_elementData_915e3_5 : decode cJx4a65c_elementData_915e3 5 = .ok (.aaload, 1) := by decide +kernel
theorem dJx4a65c_elementData_915e3_6 : decode cJx4a65c_elementData_915e3 6 = .ok (.areturn, 1) := by decide +kernel
set_option maxHeartbeats 4000000 in
set_option maxRecDepth 100000 in
theorem c_Jx4a65c_elementData_915e3 (de : Nat) (w : Wd) (Kl Ke : Nat) (hL : KL Kl Ke) (a ar v : Nat) (x : Int32) (ha : kd w a = Kl) (hr : fR w Kl 1 a = some ar) (har : kd w ar = Ke) (hx : vp_in x (aL w ar)) (hv : aR w Ke ar x.toNatClampNeg = some v) : Ct yJx4a65c_elementData_915e3 cJx4a65c_elementData_915e3 2 (some (.object "java/lang/Object")) 0 0 0 0 de [.ref a, .int x] w (fun r w' => r = some (.ref v) ∧ w = w') := by
  refine Ct.mk (by decide +kernel) [(0, .ref a), (1, .int x)] rfl (Nat.le_of_ble_eq_true rfl) ?_
  intro p l e R s m args below meth c D cy z C hnm
  refine g_aload_n C dJx4a65c_elementData_915e3_0 rfl ?_
  refine g_getR (b := ar) C cls_0 Kl 1 ha hr hL.2.1 k_55 dJx4a65c_elementData_915e3_1 ?_
  refine g_iload_n C dJx4a65c_elementData_915e3_4 rfl ?_
  refine g_aald C Ke (some v) har (Or.inr hL.2.2.2.1) hx hv dJx4a65c_elementData_915e3_5 ?_
  refine g_aret C rfl (Or.inl ⟨_, rfl⟩) (Or.inr ⟨_, rfl⟩) (by decide) (by decide) dJx4a65c_elementData_915e3_6 ?_
  exact ⟨rfl, rfl⟩
theorem dJx4a65c_get_915e3_0 : decode cJx4a65c_get_915e3 0 = .ok (.iload_n 1, 1) := by decide +kernel
theorem dJx4a65c_get_915e3_1 : decode cJx4a65c_get_915e3 1 = .ok (.aload_n 0, 1) := by decide +kernel
theorem dJx4a65c_get_915e3_2 : decode cJx4a65c_get_915e3 2 = .ok (.getfield 48, 3) := by decide +kernel
theorem dJx4a65c_get_915e3_5 : decode cJx4a65c_get_915e3 5 = .ok (.invokestatic 118, 3) := by decide +kernel
theorem dJx4a65c_get_915e3_8 : decode cJx4a65c_get_915e3 8 = .ok (.pop, 1) := by decide +kernel
theorem dJx4a65c_get_915e3_9 : decode cJx4a65c_get_915e3 9 = .ok (.aload_n 0, 1) := by decide +kernel
theorem dJx4a65c_get_915e3_10 : decode cJx4a65c_get_915e3 10 = .ok (.iload_n 1, 1) := by decide +kernel
theorem dJx4a65c_get_915e3_11 : decode cJx4a65c_get_915e3 11 = .ok (.invokevirtual 123, 3) := by decide +kernel
theorem dJx4a65c_get_915e3_14 : decode cJx4a65c_get_915e3 14 = .ok (.areturn, 1) := by decide +kernel
set_option maxHeartbeats 4000000 in
set_option maxRecDepth 100000 in
theorem c_Jx4a65c_get_915e3 (de : Nat) (w : Wd) (Kl Ke : Nat) (hL : KL Kl Ke) (a n i : Nat) (el : Nat → Nat) (hR : RLs w de Kl Ke a n el) (hi : i < n) : Ct yJx4a65c_get_915e3 cJx4a65c_get_915e3 2 (some (.object "java/lang/Object")) 2 43 0 0 de [.ref a, .int (nI i)] w (fun r w' => r = some (.ref (el i)) ∧ w = w') := by
  refine Ct.mk (by decide +kernel) [(0, .ref a), (1, .int (nI i))] rfl (Nat.le_of_ble_eq_true rfl) ?_
  intro p l e R s m args below meth c D cy z C hnm
  have hn600 := hR.2.2.1
  have ha := hR.1
  have hsz := hR.2.1
  obtain ⟨ar, hr, har, hlen, hle, hv⟩ := hR.nth hi
  refine g_iload_n C dJx4a65c_get_915e3_0 rfl ?_
  refine g_aload_n C dJx4a65c_get_915e3_1 rfl ?_
  refine g_getI C cls_0 Kl 2 ha hL.2.2.1 k_56 dJx4a65c_get_915e3_2 ?_
  refine g_callS C mt_J15_checkIndex_7cf53 [.int (nI i), .int (fI w Kl 2 a)] (c_J15_checkIndex_7cf53 de w (nI i) (fI w Kl 2 a) (nI_pos (by omega)) (by rw [hsz]; exact nI_lt hi (by omega))) k_403 rfl rfl (Nat.le_of_ble_eq_true rfl) (by decide) (by decide) (by decide) (by decide) dJx4a65c_get_915e3_5 (fun r_5 w_5 hp_5 => ?_)
  obtain ⟨rfl, rfl⟩ := hp_5
  refine g_pop C dJx4a65c_get_915e3_8 rfl ?_
  refine g_aload_n C dJx4a65c_get_915e3_9 rfl ?_
  refine g_iload_n C dJx4a65c_get_915e3_10 rfl ?_
  refine g_callV C cls_0 Kl mt_Jx4a65c_elementData_915e3 [.int (nI i)] (c_Jx4a65c_elementData_915e3 de w Kl Ke hL a ar (el i) (nI i) ha hr har (nI_vp (by omega) (by omega)) (by rw [nI_tn (by omega)]; exact hv)) ha hL.2.2.2.2 k_409 rfl rfl (Nat.le_of_ble_eq_true rfl) (by decide) (by decide) (by decide) (by decide) dJx4a65c_get_915e3_11 (fun r_11 w_11 hp_11 => ?_)
  obtain ⟨rfl, rfl⟩ := hp_11
  refine g_aret C rfl (Or.inl ⟨_, rfl⟩) (Or.inr ⟨_, rfl⟩) (by decide) (by decide) dJx4a65c_get_915e3_14 ?_
  exact ⟨rfl, rfl⟩
/-- what was told last of a list of tellings, latest first: the number and the tenths -/
def lstV : List (Nat × Int32) → Int32
  | [] => 0
  | [q] => q.2
  | _ :: q :: l => lstV (q :: l)
/-- the tellings at r, latest first -/
def ChnC (kf : Nat → Nat) (fi : Nat → Nat → Nat → Int32) (fr : Nat → Nat → Nat → Option Nat) : List (Nat × Int32) → Option Nat → Prop
  | [], r => r = none
  | q :: l, r => ∃ a : Nat, r = some a ∧ kf a = 9 ∧ fi 9 0 a = nI q.1 ∧ q.1 < 100000 ∧ fi 9 1 a = q.2 ∧ fi 9 2 a = lstV (q :: l) ∧ ChnC kf fi fr l (fr 9 3 a)
def Chn (w : Wd) (l : List (Nat × Int32)) (r : Option Nat) : Prop := ChnC w.1 w.2.1 w.2.2.1 l r
theorem Chn_cons {w : Wd} {q : Nat × Int32} {l : List (Nat × Int32)} {r : Option Nat} : Chn w (q :: l) r ↔ ∃ a : Nat, r = some a ∧ kd w a = 9 ∧ fI w 9 0 a = nI q.1 ∧ q.1 < 100000 ∧ fI w 9 1 a = q.2 ∧ fI w 9 2 a = lstV (q :: l) ∧ Chn w l (fR w 9 3 a) := Iff.rfl
theorem Chn.keep {w w' : Wd} (h : ∀ a, kd w a = 9 → SmA w w' a) : ∀ {l : List (Nat × Int32)} {r : Option Nat}, Chn w l r → Chn w' l r
  | [], _, hc => hc
  | q :: l, r, hc => by
    obtain ⟨a, h1, h2, h3, h4, h5, h6, h7⟩ := hc
    have s := h a h2
    refine ⟨a, h1, s.1.trans h2, (s.2.2.1 9 0).trans h3, h4, (s.2.2.1 9 1).trans h5, (s.2.2.1 9 2).trans h6, ?_⟩
    have e : w'.2.2.1 9 3 a = w.2.2.1 9 3 a := s.2.2.2.1 9 3
    rw [e]
    exact Chn.keep h h7
/-- what was known of it when n tellings had come: the first (kn = 0) or the latest; -1 for nothing -/
def datV : List (Nat × Int32) → Int32 → Nat → Int32
  | [], _, _ => -1
  | q :: l, kn, n => if n ≤ q.1 then datV l kn n else if kn = 0 then lstV (q :: l) else q.2
theorem dX6_distanceTo_0 : decode cX6_distanceTo 0 = .ok (.aload_n 0, 1) := by decide +kernel
theorem dX6_distanceTo_1 : decode cX6_distanceTo 1 = .ok (.getfield 25, 3) := by decide +kernel
theorem dX6_distanceTo_4 : decode cX6_distanceTo 4 = .ok (.iload_n 1, 1) := by decide +kernel
theorem dX6_distanceTo_5 : decode cX6_distanceTo 5 = .ok (.isub, 1) := by decide +kernel
theorem dX6_distanceTo_6 : decode cX6_distanceTo 6 = .ok (.aload_n 0, 1) := by decide +kernel
theorem dX6_distanceTo_7 : decode cX6_distanceTo 7 = .ok (.getfield 25, 3) := by decide +kernel
theorem dX6_distanceTo_10 : decode cX6_distanceTo 10 = .ok (.iload_n 1, 1) := by decide +kernel
theorem dX6_distanceTo_11 : decode cX6_distanceTo 11 = .ok (.isub, 1) := by decide +kernel
theorem dX6_distanceTo_12 : decode cX6_distanceTo 12 = .ok (.imul, 1) := by decide +kernel
theorem dX6_distanceTo_13 : decode cX6_distanceTo 13 = .ok (.aload_n 0, 1) := by decide +kernel
theorem dX6_distanceTo_14 : decode cX6_distanceTo 14 = .ok (.getfield 28, 3) := by decide +kernel
theorem dX6_distanceTo_17 : decode cX6_distanceTo 17 = .ok (.iload_n 2, 1) := by decide +kernel
theorem dX6_distanceTo_18 : decode cX6_distanceTo 18 = .ok (.isub, 1) := by decide +kernel
theorem dX6_distanceTo_19 : decode cX6_distanceTo 19 = .ok (.aload_n 0, 1) := by decide +kernel
theorem dX6_distanceTo_20 : decode cX6_distanceTo 20 = .ok (.getfield 28, 3) := by decide +kernel
theorem dX6_distanceTo_23 : decode cX6_distanceTo 23 = .ok (.iload_n 2, 1) := by decide +kernel
theorem dX6_distanceTo_24 : decode cX6_distanceTo 24 = .ok (.isub, 1) := by decide +kernel
theorem dX6_distanceTo_25 : decode cX6_distanceTo 25 = .ok (.imul, 1) := by decide +kernel
theorem dX6_distanceTo_26 : decode cX6_distanceTo 26 = .ok (.iadd, 1) := by decide +kernel
theorem dX6_distanceTo_27 : decode cX6_distanceTo 27 = .ok (.ireturn, 1) := by decide +kernel
set_option maxHeartbeats 4000000 in
set_option maxRecDepth 100000 in
theorem c_X6_distanceTo (de : Nat) (w : Wd) (a : Nat) (ha : kd w a = 8) (x y : Int32) : Ct yX6_distanceTo cX6_distanceTo 3 (some .int) 0 0 0 0 de [.ref a, .int x, .int y] w (fun r w' => r = some (.int ((fI w 8 1 a - x) * (fI w 8 1 a - x) + (fI w 8 2 a - y) * (fI w 8 2 a - y))) ∧ w = w') := by
  refine Ct.mk (by decide +kernel) [(0, .ref a), (1, .int x), (2, .int y)] rfl (Nat.le_of_ble_eq_true rfl) ?_
  intro p l e R s m args below meth c D cy z C hnm
  refine g_aload_n C dX6_distanceTo_0 rfl ?_
  refine g_getI C cls_7 8 1 ha rfl k_290 dX6_distanceTo_1 ?_
  refine g_iload_n C dX6_distanceTo_4 rfl ?_
  refine g_isub C dX6_distanceTo_5 ?_
  refine g_aload_n C dX6_distanceTo_6 rfl ?_
  refine g_getI C cls_7 8 1 ha rfl k_290 dX6_distanceTo_7 ?_
  refine g_iload_n C dX6_distanceTo_10 rfl ?_
  refine g_isub C dX6_distanceTo_11 ?_
  refine g_imul C dX6_distanceTo_12 ?_
  refine g_aload_n C dX6_distanceTo_13 rfl ?_
  refine g_getI C cls_7 8 2 ha rfl k_292 dX6_distanceTo_14 ?_
  refine g_iload_n C dX6_distanceTo_17 rfl ?_
  refine g_isub C dX6_distanceTo_18 ?_
  refine g_aload_n C dX6_distanceTo_19 rfl ?_
  refine g_getI C cls_7 8 2 ha rfl k_292 dX6_distanceTo_20 ?_
  refine g_iload_n C dX6_distanceTo_23 rfl ?_
  refine g_isub C dX6_distanceTo_24 ?_
  refine g_imul C dX6_distanceTo_25 ?_
  refine g_iadd C dX6_distanceTo_26 ?_
  refine g_iret C rfl rfl (by decide) (by decide) dX6_distanceTo_27 ?_
  exact ⟨rfl, rfl⟩
theorem dX6_datum_0 : decode cX6_datum 0 = .ok (.iload_n 1, 1) := by decide +kernel
theorem dX6_datum_1 : decode cX6_datum 1 = .ok (.ifCond .lt 12, 3) := by decide +kernel
theorem dX6_datum_4 : decode cX6_datum 4 = .ok (.iload_n 1, 1) := by decide +kernel
theorem dX6_datum_5 : decode cX6_datum 5 = .ok (.aload_n 0, 1) := by decide +kernel
theorem dX6_datum_6 : decode cX6_datum 6 = .ok (.getfield 11, 3) := by decide +kernel
theorem dX6_datum_9 : decode cX6_datum 9 = .ok (.arraylength, 1) := by decide +kernel
theorem dX6_datum_10 : decode cX6_datum 10 = .ok (.if_icmp .lt 7, 3) := by decide +kernel
theorem dX6_datum_17 : decode cX6_datum 17 = .ok (.aload_n 0, 1) := by decide +kernel
theorem dX6_datum_18 : decode cX6_datum 18 = .ok (.getfield 11, 3) := by decide +kernel
theorem dX6_datum_21 : decode cX6_datum 21 = .ok (.iload_n 1, 1) := by decide +kernel
theorem dX6_datum_22 : decode cX6_datum 22 = .ok (.aaload, 1) := by decide +kernel
theorem dX6_datum_23 : decode cX6_datum 23 = .ok (.astore 4, 2) := by decide +kernel
theorem dX6_datum_25 : decode cX6_datum 25 = .ok (.aload 4, 2) := by decide +kernel
theorem dX6_datum_27 : decode cX6_datum 27 = .ok (.ifnull 22, 3) := by decide +kernel
theorem dX6_datum_30 : decode cX6_datum 30 = .ok (.aload 4, 2) := by decide +kernel
theorem dX6_datum_32 : decode cX6_datum 32 = .ok (.getfield 34, 3) := by decide +kernel
theorem dX6_datum_35 : decode cX6_datum 35 = .ok (.iload_n 3, 1) := by decide +kernel
theorem dX6_datum_36 : decode cX6_datum 36 = .ok (.if_icmp .lt 13, 3) := by decide +kernel
theorem dX6_datum_39 : decode cX6_datum 39 = .ok (.aload 4, 2) := by decide +kernel
theorem dX6_datum_41 : decode cX6_datum 41 = .ok (.getfield 35, 3) := by decide +kernel
theorem dX6_datum_44 : decode cX6_datum 44 = .ok (.astore 4, 2) := by decide +kernel
theorem dX6_datum_46 : decode cX6_datum 46 = .ok (.goto (-21), 3) := by decide +kernel
theorem dX6_datum_49 : decode cX6_datum 49 = .ok (.aload 4, 2) := by decide +kernel
theorem dX6_datum_51 : decode cX6_datum 51 = .ok (.ifnonnull 5, 3) := by decide +kernel
theorem dX6_datum_54 : decode cX6_datum 54 = .ok (.iconst (-1), 1) := by decide +kernel
theorem dX6_datum_55 : decode cX6_datum 55 = .ok (.ireturn, 1) := by decide +kernel
theorem dX6_datum_56 : decode cX6_datum 56 = .ok (.iload_n 2, 1) := by decide +kernel
theorem dX6_datum_57 : decode cX6_datum 57 = .ok (.ifCond .ne 11, 3) := by decide +kernel
theorem dX6_datum_60 : decode cX6_datum 60 = .ok (.aload 4, 2) := by decide +kernel
theorem dX6_datum_62 : decode cX6_datum 62 = .ok (.getfield 39, 3) := by decide +kernel
theorem dX6_datum_65 : decode cX6_datum 65 = .ok (.goto 8, 3) := by decide +kernel
theorem dX6_datum_68 : decode cX6_datum 68 = .ok (.aload 4, 2) := by decide +kernel
theorem dX6_datum_70 : decode cX6_datum 70 = .ok (.getfield 42, 3) := by decide +kernel
theorem dX6_datum_73 : decode cX6_datum 73 = .ok (.ireturn, 1) := by decide +kernel
theorem datV_s {q : Nat × Int32} {l : List (Nat × Int32)} {kn : Int32} {n : Nat} (h : ¬ nI q.1 < nI n) (h1 : q.1 < 100000) (h2 : n < 100000) : datV (q :: l) kn n = datV l kn n := by
  rw [datV]
  exact if_pos (Nat.not_lt.mp (fun z => h (nI_lt z (by omega))))
theorem datV_0 {q : Nat × Int32} {l : List (Nat × Int32)} {kn : Int32} {n : Nat} (h : nI q.1 < nI n) (hk : kn = 0) (h1 : q.1 < 100000) (h2 : n < 100000) : datV (q :: l) kn n = lstV (q :: l) := by
  rw [datV, if_neg (fun z => nI_nlt z (by omega) h), if_pos hk]
theorem datV_1 {q : Nat × Int32} {l : List (Nat × Int32)} {kn : Int32} {n : Nat} (h : nI q.1 < nI n) (hk : ¬ kn = 0) (h1 : q.1 < 100000) (h2 : n < 100000) : datV (q :: l) kn n = q.2 := by
  rw [datV, if_neg (fun z => nI_nlt z (by omega) h), if_neg hk]
set_option maxHeartbeats 4000000 in
set_option maxRecDepth 100000 in
theorem c_X6_datum (de : Nat) (w : Wd) (a la d n : Nat) (kn : Int32) (l0 : List (Nat × Int32)) (ha : kd w a = 8) (hl3 : fR w 8 3 a = some la) (hla : kd w la = 1002) (hla2 : aL w la = 1200) (hd : d < 1200) (hn : n < 100000) (hc : Chn w l0 (aR w 1002 la d)) : Ct yX6_datum cX6_datum 5 (some .int) 0 0 0 0 de [.ref a, .int (nI d), .int kn, .int (nI n)] w (fun r w' => r = some (.int (datV l0 kn n)) ∧ w = w') := by
  refine Ct.mk (by decide +kernel) [(0, .ref a), (1, .int (nI d)), (2, .int kn), (3, .int (nI n))] rfl (Nat.le_of_ble_eq_true rfl) ?_
  intro p l e R s m args below meth c D cy z C hnm
  have hla9 : vp_in (nI d) (aL w la) := by rw [hla2]; exact nI_vp hd (by omega)
  have loop : ∀ (tl : List (Nat × Int32)) (r : Option Nat), Chn w tl r → datV tl kn n = datV l0 kn n → G p l e R s m args below meth c D cy z 5 w 0 0 25 [(0, .ref a), (1, .int (nI d)), (2, .int kn), (3, .int (nI n)), (4, va_rf r)] [] (QM below args s D cy z (fun r w' => r = some (.int (datV l0 kn n)) ∧ w = w') 0 0) := by
    intro tl
    induction tl with
    | nil =>
      intro r hr hV
      have hr : r = none := hr
      subst hr
      refine g_aloadN C dX6_datum_25 rfl ?_
      refine g_ifnullN C 49 dX6_datum_27 (by decide) ?_
      refine g_aloadN C dX6_datum_49 rfl ?_
      refine g_ifnonnullN C dX6_datum_51 ?_
      refine g_iconst C (-1) dX6_datum_54 (by rfl) ?_
      refine g_iret C rfl rfl (by decide) (by decide) dX6_datum_55 ?_
      exact ⟨congrArg (fun v => some (Value.int v)) hV, rfl⟩
    | cons q tl ih =>
      intro r hr hV
      obtain ⟨b, rfl, hb, hb0, hb1, hb2, hb3, hb4⟩ := Chn_cons.mp hr
      refine g_aload C dX6_datum_25 rfl ?_
      refine g_ifnull C dX6_datum_27 ?_
      refine g_aload C dX6_datum_30 rfl ?_
      refine g_getI C cls_8 9 0 hb rfl k_432 dX6_datum_32 ?_
      refine g_iload_n C dX6_datum_35 rfl ?_
      refine g_icmp_lt C 49 dX6_datum_36 (by decide) (fun c_36 => ?_) (fun c_36 => ?_)
      · refine g_aload C dX6_datum_49 rfl ?_
        refine g_ifnonnull C 56 dX6_datum_51 (by decide) ?_
        refine g_iload_n C dX6_datum_56 rfl ?_
        refine g_if_ne C 68 dX6_datum_57 (by decide) (fun c_57 => ?_) (fun c_57 => ?_)
        · refine g_aload C dX6_datum_68 rfl ?_
          refine g_getI C cls_8 9 1 hb rfl k_434 dX6_datum_70 ?_
          refine g_iret C rfl rfl (by decide) (by decide) dX6_datum_73 ?_
          first | exact ⟨congrArg (fun v => some (Value.int v)) (by rw [← hV, hb3]; exact (datV_0 (hb0 ▸ c_36) c_57 hb1 hn).symm), rfl⟩ | exact ⟨congrArg (fun v => some (Value.int v)) (by rw [← hV, hb2]; exact (datV_1 (hb0 ▸ c_36) c_57 hb1 hn).symm), rfl⟩
        · refine g_aload C dX6_datum_60 rfl ?_
          refine g_getI C cls_8 9 2 hb rfl k_436 dX6_datum_62 ?_
          refine g_goto C 73 dX6_datum_65 (by decide) ?_
          refine g_iret C rfl rfl (by decide) (by decide) dX6_datum_73 ?_
          first | exact ⟨congrArg (fun v => some (Value.int v)) (by rw [← hV, hb3]; exact (datV_0 (hb0 ▸ c_36) c_57 hb1 hn).symm), rfl⟩ | exact ⟨congrArg (fun v => some (Value.int v)) (by rw [← hV, hb2]; exact (datV_1 (hb0 ▸ c_36) c_57 hb1 hn).symm), rfl⟩
      · refine g_aload C dX6_datum_39 rfl ?_
        refine g_getO C cls_8 9 3 hb rfl k_438 dX6_datum_41 ?_
        refine g_astoreR C dX6_datum_44 (by decide) ?_
        refine g_goto C 25 dX6_datum_46 (by decide) ?_
        refine g_lv2 [(0, .ref a), (1, .int (nI d)), (2, .int kn), (3, .int (nI n)), (4, va_rf (fR w 9 3 b))] rfl ?_
        exact ih _ hb4 ((datV_s (hb0 ▸ c_36) hb1 hn).symm.trans hV)
  refine g_iload_n C dX6_datum_0 rfl ?_
  refine g_if_lt C 13 dX6_datum_1 (by decide) (fun c_1 => ?_) (fun c_1 => ?_)
  · first | exact absurd c_1 (nI_pos (by omega)) | exact absurd (by rw [hla2]; exact nI_lt hd (by decide)) c_10
  · refine g_iload_n C dX6_datum_4 rfl ?_
    refine g_aload_n C dX6_datum_5 rfl ?_
    refine g_getR (b := la) C cls_7 8 3 ha hl3 rfl k_294 dX6_datum_6 ?_
    refine g_alen C 1002 2 hla rfl (by decide) dX6_datum_9 ?_
    refine g_icmp_lt C 17 dX6_datum_10 (by decide) (fun c_10 => ?_) (fun c_10 => ?_)
    · refine g_aload_n C dX6_datum_17 rfl ?_
      refine g_getR (b := la) C cls_7 8 3 ha hl3 rfl k_294 dX6_datum_18 ?_
      refine g_iload_n C dX6_datum_21 rfl ?_
      refine g_aald C 1002 (aR w 1002 la d) hla (Or.inl rfl) hla9 (by rw [nI_tn (by omega)]) dX6_datum_22 ?_
      refine g_astoreR C dX6_datum_23 (by decide) ?_
      refine g_lv2 [(0, .ref a), (1, .int (nI d)), (2, .int kn), (3, .int (nI n)), (4, va_rf (aR w 1002 la d))] rfl ?_
      exact loop l0 _ hc rfl
    · first | exact absurd c_1 (nI_pos (by omega)) | exact absurd (by rw [hla2]; exact nI_lt hd (by decide)) c_10
end LISTS9
