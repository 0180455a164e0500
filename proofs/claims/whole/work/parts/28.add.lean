section ADD28
theorem sub_1 {n : Nat} : nI (n + 1) - nI n = 1 := by rw [pk_sub (by omega), show n + 1 - n = 1 by omega]; rfl
theorem shr_1 {n : Nat} (hn : n ≤ 1000) : nI n >>> ((1 : Int32) &&& 31) = nI (n / 2) := by
  have k := pk_shrN (n := n) (by omega) ((1 : Int32) &&& 31) 1 (by decide)
  rw [Nat.pow_one] at k
  exact k
/-- what adding v to the list at a leaves -/
def AddP (w w' : Wd) (de Kl Ke a n v : Nat) (el : Nat → Nat) : Prop := RLs w' de Kl Ke a (n + 1) (fun i => if i = n then v else el i) ∧
  (∀ b, kd w b ≠ 0 → b ≠ a → (∀ r, fR w Kl 1 a = some r → b ≠ r) → SmA w w' b) ∧ (fR w' Kl 1 a = fR w Kl 1 a ∨ ∃ q, fR w' Kl 1 a = some q ∧ kd w q = 0 ∧ q ≠ de)
section
variable {w : Wd} {de Kl Ke a n v ar q : Nat} {el : Nat → Nat}
theorem KLne (hL : KL Kl Ke) : Kl ≠ 0 ∧ Ke ≠ 0 ∧ Kl ≠ Ke := by
  have h1 := okA_spec hL.2.2.2.1
  have h2 := hL.2.2.2.2
  omega
theorem addL_room (hL : KL Kl Ke) (ha : kd w a = Kl) (hn : n < 600) (hr : fR w Kl 1 a = some ar) (hne : ar ≠ de) (har : kd w ar = Ke) (h1 : n < aL w ar) (h2 : 10 ≤ aL w ar) (h3 : aL w ar ≤ 1000) (hel : ∀ i, i < n → aR w Ke ar i = some (el i)) :
    AddP w (pI (pAR w Ke ar n (some v)) Kl 2 a (nI (n + 1))) de Kl Ke a n v el := by
  refine ⟨⟨ha, up3_same, by omega, Or.inr ⟨ar, hr, hne, har, h1, h2, h3, fun i hi => ?_⟩⟩, fun b hb hba hbr => (SmA.pAR (hbr ar hr)).tr (SmA.pI hba), Or.inl rfl⟩
  show _ = some (if i = n then v else el i)
  by_cases e : i = n
  · rw [if_pos e, e]
    exact up3_same
  · rw [if_neg e]
    refine Eq.trans ?_ (hel i (by omega))
    exact (if_neg (fun z => e z.2.2))
theorem addL_empty (hL : KL Kl Ke) (ha : kd w a = Kl) (hr : fR w Kl 1 a = some de) (hq : kd w q = 0) (hde : q ≠ de) :
    AddP w (pI (pAR (pR (nw w q Ke 10) Kl 1 a (some q)) Ke q 0 (some v)) Kl 2 a (nI 1)) de Kl Ke a 0 v el := by
  obtain ⟨k1, k2, k3⟩ := KLne hL
  have haq : a ≠ q := nw_ne ha k1 hq
  refine ⟨⟨(nw_kd (w := w) (K := Ke) (n := 10) haq).trans ha, up3_same, by omega, Or.inr ⟨q, up3_same, hde, nw_kd0 (w := w) (n := 10), ?_, ?_, ?_, fun i hi => ?_⟩⟩, fun b hb hba hbr => ?_, Or.inr ⟨q, up3_same, hq, hde⟩⟩
  · show 0 + 1 ≤ aL (nw w q Ke 10) q
    rw [nw_aL0]; omega
  · show 10 ≤ aL (nw w q Ke 10) q
    rw [nw_aL0]; omega
  · show aL (nw w q Ke 10) q ≤ 1000
    rw [nw_aL0]; omega
  · have e : i = 0 := by omega
    subst e
    show _ = some (if 0 = 0 then v else el 0)
    rw [if_pos rfl]
    exact up3_same
  · have hbq : b ≠ q := fun z => hb (by rw [z]; exact hq)
    exact (SmA.nw hbq).tr ((SmA.pR hba).tr ((SmA.pAR hbq).tr (SmA.pI hba)))
theorem addL_full (hL : KL Kl Ke) (ha : kd w a = Kl) (hn : n ≤ 100) (hr : fR w Kl 1 a = some ar) (har : kd w ar = Ke) (h1 : aL w ar = n) (h2 : 10 ≤ n) (hel : ∀ i, i < n → aR w Ke ar i = some (el i)) (hq : kd w q = 0) (hde : q ≠ de) :
    AddP w (pI (pAR (pR (stO (nw w q Ke (n + n / 2)) Ke q (va_cpy (aR (nw w q Ke (n + n / 2)) Ke ar) (aR (nw w q Ke (n + n / 2)) Ke q) 0 0 n)) Kl 1 a (some q)) Ke q n (some v)) Kl 2 a (nI (n + 1))) de Kl Ke a n v el := by
  obtain ⟨k1, k2, k3⟩ := KLne hL
  have haq : a ≠ q := nw_ne ha k1 hq
  have hrq : ar ≠ q := nw_ne har k2 hq
  refine ⟨⟨(nw_kd (w := w) (K := Ke) (n := n + n / 2) haq).trans ha, up3_same, by omega, Or.inr ⟨q, up3_same, hde, nw_kd0 (w := w) (n := n + n / 2), ?_, ?_, ?_, fun i hi => ?_⟩⟩, fun b hb hba hbr => ?_, Or.inr ⟨q, up3_same, hq, hde⟩⟩
  · show n + 1 ≤ aL (nw w q Ke (n + n / 2)) q
    rw [nw_aL0]; omega
  · show 10 ≤ aL (nw w q Ke (n + n / 2)) q
    rw [nw_aL0]; omega
  · show aL (nw w q Ke (n + n / 2)) q ≤ 1000
    rw [nw_aL0]; omega
  · show _ = some (if i = n then v else el i)
    by_cases e : i = n
    · rw [if_pos e, e]
      exact up3_same
    · rw [if_neg e]
      refine Eq.trans (if_neg (fun z => e z.2.2)) ?_
      show aR (stO (nw w q Ke (n + n / 2)) Ke q (va_cpy (aR (nw w q Ke (n + n / 2)) Ke ar) (aR (nw w q Ke (n + n / 2)) Ke q) 0 0 n)) Ke q i = _
      rw [stO_at]
      unfold va_cpy
      rw [if_pos ⟨by omega, by omega⟩, show 0 + (i - 0) = i by omega, aR_nw hrq]
      exact hel i (by omega)
  · have hbq : b ≠ q := fun z => hb (by rw [z]; exact hq)
    exact (SmA.nw hbq).tr ((SmA.stO hbq).tr ((SmA.pR hba).tr ((SmA.pAR hbq).tr (SmA.pI hba))))
end
theorem dJx4a65c_grow_92f84_0 : decode cJx4a65c_grow_92f84 0 = .ok (.aload_n 0, 1) := by decide +kernel
theorem dJx4a65c_grow_92f84_1 : decode cJx4a65c_grow_92f84 1 = .ok (.getfield 9, 3) := by decide +kernel
theorem dJx4a65c_grow_92f84_4 : decode cJx4a65c_grow_92f84 4 = .ok (.arraylength, 1) := by decide +kernel
theorem dJx4a65c_grow_92f84_5 : decode cJx4a65c_grow_92f84 5 = .ok (.istore_n 2, 1) := by decide +kernel
theorem dJx4a65c_grow_92f84_6 : decode cJx4a65c_grow_92f84 6 = .ok (.iload_n 2, 1) := by decide +kernel
theorem dJx4a65c_grow_92f84_7 : decode cJx4a65c_grow_92f84 7 = .ok (.ifCond .gt 13, 3) := by decide +kernel
theorem dJx4a65c_grow_92f84_10 : decode cJx4a65c_grow_92f84 10 = .ok (.aload_n 0, 1) := by decide +kernel
theorem dJx4a65c_grow_92f84_11 : decode cJx4a65c_grow_92f84 11 = .ok (.getfield 9, 3) := by decide +kernel
theorem dJx4a65c_grow_92f84_14 : decode cJx4a65c_grow_92f84 14 = .ok (.getstatic 39, 3) := by decide +kernel
theorem dJx4a65c_grow_92f84_17 : decode cJx4a65c_grow_92f84 17 = .ok (.if_acmp .eq 28, 3) := by decide +kernel
theorem dJx4a65c_grow_92f84_45 : decode cJx4a65c_grow_92f84 45 = .ok (.aload_n 0, 1) := by decide +kernel
theorem dJx4a65c_grow_92f84_46 : decode cJx4a65c_grow_92f84 46 = .ok (.bipush 10, 2) := by decide +kernel
theorem dJx4a65c_grow_92f84_48 : decode cJx4a65c_grow_92f84 48 = .ok (.iload_n 1, 1) := by decide +kernel
theorem dJx4a65c_grow_92f84_49 : decode cJx4a65c_grow_92f84 49 = .ok (.invokestatic 79, 3) := by decide +kernel
theorem dJx4a65c_grow_92f84_52 : decode cJx4a65c_grow_92f84 52 = .ok (.anewarray 7, 3) := by decide +kernel
theorem dJx4a65c_grow_92f84_55 : decode cJx4a65c_grow_92f84 55 = .ok (.dup_x1, 1) := by decide +kernel
theorem dJx4a65c_grow_92f84_56 : decode cJx4a65c_grow_92f84 56 = .ok (.putfield 9, 3) := by decide +kernel
theorem dJx4a65c_grow_92f84_59 : decode cJx4a65c_grow_92f84 59 = .ok (.areturn, 1) := by decide +kernel
set_option maxHeartbeats 1000000 in
set_option maxRecDepth 100000 in
theorem ge_growI (de : Nat) (w : Wd) (Kl Ke : Nat) (hL : KL Kl Ke) (a : Nat) (ha : kd w a = Kl) (he : fR w Kl 1 a = some de) : Ct yJx4a65c_grow_92f84 cJx4a65c_grow_92f84 4 (some (.array (.object "java/lang/Object"))) 3 84 1 160 de [.ref a, .int 1] w (fun r w' => ∃ q : Nat, kd w q = 0 ∧ q ≠ de ∧ r = some (.ref q) ∧ w' = pR (nw w q Ke 10) Kl 1 a (some q)) := by
  refine Ct.mk (by decide +kernel) [(0, .ref a), (1, .int 1)] rfl (Nat.le_of_ble_eq_true rfl) ?_
  intro p l e R s m args below meth c D cy z C hnm
  refine g_aload_n C dJx4a65c_grow_92f84_0 rfl ?_
  refine g_getR (b := de) C cls_0 Kl 1 (by first | exact ha | exact kd_nw (n := 10) ha (KLne hL).1 hq | exact kd_nw (n := n + n / 2) ha (KLne hL).1 hq) he hL.2.1 k_55 dJx4a65c_grow_92f84_1 ?_
  refine g_alenDe C dJx4a65c_grow_92f84_4 ?_
  refine g_istore_n C dJx4a65c_grow_92f84_5 (by decide) ?_
  refine g_iload_n C dJx4a65c_grow_92f84_6 rfl ?_
  refine g_if_gt C 20 dJx4a65c_grow_92f84_7 (by decide) (fun c_7 => ?_) (fun c_7 => ?_)
  · exact absurd c_7 (by decide)
  · refine g_aload_n C dJx4a65c_grow_92f84_10 rfl ?_
    refine g_getR (b := de) C cls_0 Kl 1 (by first | exact ha | exact kd_nw (n := 10) ha (KLne hL).1 hq | exact kd_nw (n := n + n / 2) ha (KLne hL).1 hq) he hL.2.1 k_55 dJx4a65c_grow_92f84_11 ?_
    refine g_getsDe C k_53 dJx4a65c_grow_92f84_14 ?_
    refine g_acmp_eq (rx := (some de)) (ry := (some de)) C 45 dJx4a65c_grow_92f84_17 (by decide) (fun c_17 => ?_) (fun c_17 => ?_)
    · refine g_aload_n C dJx4a65c_grow_92f84_45 rfl ?_
      refine g_bipush C 10 dJx4a65c_grow_92f84_46 (by rfl) ?_
      refine g_iload_n C dJx4a65c_grow_92f84_48 rfl ?_
      refine g_max C k_369 k_329 k_18 k_330 (by decide) (Nat.le_of_ble_eq_true rfl) (by first | decide | omega) (by first | decide | omega) dJx4a65c_grow_92f84_49 ?_
      rw [show (if (10 : Int32) < 1 then 1 else 10) = nI 10 from rfl]
      refine g_newO C Ke 10 hL.2.2.2.1 k_370 (by decide) (by decide) (by first | decide | omega) (by first | decide | omega) (by first | decide | omega) dJx4a65c_grow_92f84_52 (fun q hq => ?_)
      intro hde
      refine g_dup_x1 C dJx4a65c_grow_92f84_55 rfl rfl ?_
      refine g_putR C cls_0 Kl 1 (some q) rfl (by first | exact ha | exact kd_nw (n := 10) ha (KLne hL).1 hq | exact kd_nw (n := n + n / 2) ha (KLne hL).1 hq) hL.2.1 (Or.inl rfl) rfl rfl k_55 dJx4a65c_grow_92f84_56 ?_
      refine g_aret C rfl (Or.inr ⟨_, rfl⟩) (Or.inr ⟨_, rfl⟩) (by first | decide | omega) (by first | decide | omega) dJx4a65c_grow_92f84_59 ?_
      exact ⟨q, hq, hde, rfl, rfl⟩
    · exact absurd rfl c_17
theorem dJx4a65c_grow_92f84_20 : decode cJx4a65c_grow_92f84 20 = .ok (.iload_n 2, 1) := by decide +kernel
theorem dJx4a65c_grow_92f84_21 : decode cJx4a65c_grow_92f84 21 = .ok (.iload_n 1, 1) := by decide +kernel
theorem dJx4a65c_grow_92f84_22 : decode cJx4a65c_grow_92f84 22 = .ok (.iload_n 2, 1) := by decide +kernel
theorem dJx4a65c_grow_92f84_23 : decode cJx4a65c_grow_92f84 23 = .ok (.isub, 1) := by decide +kernel
theorem dJx4a65c_grow_92f84_24 : decode cJx4a65c_grow_92f84 24 = .ok (.iload_n 2, 1) := by decide +kernel
theorem dJx4a65c_grow_92f84_25 : decode cJx4a65c_grow_92f84 25 = .ok (.iconst 1, 1) := by decide +kernel
theorem dJx4a65c_grow_92f84_26 : decode cJx4a65c_grow_92f84 26 = .ok (.ishr, 1) := by decide +kernel
theorem dJx4a65c_grow_92f84_27 : decode cJx4a65c_grow_92f84 27 = .ok (.invokestatic 73, 3) := by decide +kernel
theorem dJx4a65c_grow_92f84_30 : decode cJx4a65c_grow_92f84 30 = .ok (.istore_n 3, 1) := by decide +kernel
theorem dJx4a65c_grow_92f84_31 : decode cJx4a65c_grow_92f84 31 = .ok (.aload_n 0, 1) := by decide +kernel
theorem dJx4a65c_grow_92f84_32 : decode cJx4a65c_grow_92f84 32 = .ok (.aload_n 0, 1) := by decide +kernel
theorem dJx4a65c_grow_92f84_33 : decode cJx4a65c_grow_92f84 33 = .ok (.getfield 9, 3) := by decide +kernel
theorem dJx4a65c_grow_92f84_36 : decode cJx4a65c_grow_92f84 36 = .ok (.iload_n 3, 1) := by decide +kernel
theorem dJx4a65c_grow_92f84_37 : decode cJx4a65c_grow_92f84 37 = .ok (.invokestatic 66, 3) := by decide +kernel
theorem dJx4a65c_grow_92f84_40 : decode cJx4a65c_grow_92f84 40 = .ok (.dup_x1, 1) := by decide +kernel
theorem dJx4a65c_grow_92f84_41 : decode cJx4a65c_grow_92f84 41 = .ok (.putfield 9, 3) := by decide +kernel
theorem dJx4a65c_grow_92f84_44 : decode cJx4a65c_grow_92f84 44 = .ok (.areturn, 1) := by decide +kernel
set_option maxHeartbeats 1000000 in
set_option maxRecDepth 100000 in
theorem gf_growI (de : Nat) (w : Wd) (Kl Ke : Nat) (hL : KL Kl Ke) {ci N : Nat} {Cn : String} {T : u_T} {ty0 : Nat → FieldType} (hcl : ClsOk ci Cn T N ty0) (hca : Cond.castable Cn "java/lang/Object" ∈ lw_tbl) (K2 : Nat) (hK2 : 0 < K2 ∧ K2 < 1000 ∧ (K2 - 1) % 20 = ci) (a ar n : Nat) (ha : kd w a = Kl) (hr : fR w Kl 1 a = some ar) (har : kd w ar = Ke) (hlen : aL w ar = n) (h10 : 10 ≤ n) (hn : n ≤ 100) (hel : ∀ i, i < n → ∀ y, aR w Ke ar i = some y → kd w y = K2) : Ct yJx4a65c_grow_92f84 cJx4a65c_grow_92f84 4 (some (.array (.object "java/lang/Object"))) 3 84 1 160 de [.ref a, .int (nI (n + 1))] w (fun r w' => ∃ q : Nat, kd w q = 0 ∧ q ≠ de ∧ r = some (.ref q) ∧ w' = pR (stO (nw w q Ke (n + n / 2)) Ke q (va_cpy (aR (nw w q Ke (n + n / 2)) Ke ar) (aR (nw w q Ke (n + n / 2)) Ke q) 0 0 n)) Kl 1 a (some q)) := by
  refine Ct.mk (by decide +kernel) [(0, .ref a), (1, .int (nI (n + 1)))] rfl (Nat.le_of_ble_eq_true rfl) ?_
  intro p l e R s m args below meth c D cy z C hnm
  refine g_aload_n C dJx4a65c_grow_92f84_0 rfl ?_
  refine g_getR (b := ar) C cls_0 Kl 1 (by first | exact ha | exact kd_nw (n := 10) ha (KLne hL).1 hq | exact kd_nw (n := n + n / 2) ha (KLne hL).1 hq) hr hL.2.1 k_55 dJx4a65c_grow_92f84_1 ?_
  refine g_alen C Ke 3 har hL.2.2.2.1 (by decide) dJx4a65c_grow_92f84_4 ?_
  rw [hlen, show Int32.ofNat n = nI n from rfl]
  refine g_istore_n C dJx4a65c_grow_92f84_5 (by decide) ?_
  refine g_iload_n C dJx4a65c_grow_92f84_6 rfl ?_
  refine g_if_gt C 20 dJx4a65c_grow_92f84_7 (by decide) (fun c_7 => ?_) (fun c_7 => ?_)
  · refine g_iload_n C dJx4a65c_grow_92f84_20 rfl ?_
    refine g_iload_n C dJx4a65c_grow_92f84_21 rfl ?_
    refine g_iload_n C dJx4a65c_grow_92f84_22 rfl ?_
    refine g_isub C dJx4a65c_grow_92f84_23 ?_
    rw [sub_1]
    refine g_iload_n C dJx4a65c_grow_92f84_24 rfl ?_
    refine g_iconst C 1 dJx4a65c_grow_92f84_25 (by rfl) ?_
    refine g_ishr C dJx4a65c_grow_92f84_26 ?_
    rw [shr_1 (by omega)]
    refine g_callS C mt_J8_newLength_cabcc [.int (nI n), .int 1, .int (nI (n / 2))] (c_J8_newLength_cabcc de w n h10 (by omega)) k_325 rfl rfl (Nat.le_of_ble_eq_true rfl) (by decide) (by decide) (by first | decide | omega) (by first | decide | omega) dJx4a65c_grow_92f84_27 (fun r_27 w_27 hp_27 => ?_)
    obtain ⟨rfl, rfl⟩ := hp_27
    refine g_istore_n C dJx4a65c_grow_92f84_30 (by decide) ?_
    refine g_aload_n C dJx4a65c_grow_92f84_31 rfl ?_
    refine g_aload_n C dJx4a65c_grow_92f84_32 rfl ?_
    refine g_getR (b := ar) C cls_0 Kl 1 (by first | exact ha | exact kd_nw (n := 10) ha (KLne hL).1 hq | exact kd_nw (n := n + n / 2) ha (KLne hL).1 hq) hr hL.2.1 k_55 dJx4a65c_grow_92f84_33 ?_
    refine g_iload_n C dJx4a65c_grow_92f84_36 rfl ?_
    refine g_callS C mt_J7_copyOf_1904c [.ref ar, .int (nI (n + n / 2))] (c_J7_copyOf_1904c de w Kl Ke hL hcl hca K2 hK2 ar n (n + n / 2) har hlen (by omega) (by omega) hel) k_335 rfl rfl (Nat.le_of_ble_eq_true rfl) (by decide) (by decide) (by first | decide | omega) (by first | decide | omega) dJx4a65c_grow_92f84_37 (fun r_37 w_37 hp_37 => ?_)
    obtain ⟨q, hq, hde, rfl, rfl⟩ := hp_37
    refine g_dup_x1 C dJx4a65c_grow_92f84_40 rfl rfl ?_
    refine g_putR C cls_0 Kl 1 (some q) rfl (by first | exact ha | exact kd_nw (n := 10) ha (KLne hL).1 hq | exact kd_nw (n := n + n / 2) ha (KLne hL).1 hq) hL.2.1 (Or.inl rfl) rfl rfl k_55 dJx4a65c_grow_92f84_41 ?_
    refine g_aret C rfl (Or.inr ⟨_, rfl⟩) (Or.inr ⟨_, rfl⟩) (by first | decide | omega) (by first | decide | omega) dJx4a65c_grow_92f84_44 ?_
    exact ⟨q, hq, hde, rfl, rfl⟩
  · exact absurd (nI_lt (a := 0) (b := n) (by omega) (by omega)) c_7
theorem dJx4a65c_grow_d5877_0 : decode cJx4a65c_grow_d5877 0 = .ok (.aload_n 0, 1) := by decide +kernel
theorem dJx4a65c_grow_d5877_1 : decode cJx4a65c_grow_d5877 1 = .ok (.aload_n 0, 1) := by decide +kernel
theorem dJx4a65c_grow_d5877_2 : decode cJx4a65c_grow_d5877 2 = .ok (.getfield 48, 3) := by decide +kernel
theorem dJx4a65c_grow_d5877_5 : decode cJx4a65c_grow_d5877 5 = .ok (.iconst 1, 1) := by decide +kernel
theorem dJx4a65c_grow_d5877_6 : decode cJx4a65c_grow_d5877 6 = .ok (.iadd, 1) := by decide +kernel
theorem dJx4a65c_grow_d5877_7 : decode cJx4a65c_grow_d5877 7 = .ok (.invokevirtual 69, 3) := by decide +kernel
theorem dJx4a65c_grow_d5877_10 : decode cJx4a65c_grow_d5877 10 = .ok (.areturn, 1) := by decide +kernel
set_option maxHeartbeats 1000000 in
set_option maxRecDepth 100000 in
theorem ge_grow (de : Nat) (w : Wd) (Kl Ke : Nat) (hL : KL Kl Ke) (a : Nat) (ha : kd w a = Kl) (he : fR w Kl 1 a = some de) (hsz : fI w Kl 2 a = 0) : Ct yJx4a65c_grow_d5877 cJx4a65c_grow_d5877 1 (some (.array (.object "java/lang/Object"))) 4 107 1 160 de [.ref a] w (fun r w' => ∃ q : Nat, kd w q = 0 ∧ q ≠ de ∧ r = some (.ref q) ∧ w' = pR (nw w q Ke 10) Kl 1 a (some q)) := by
  refine Ct.mk (by decide +kernel) [(0, .ref a)] rfl (Nat.le_of_ble_eq_true rfl) ?_
  intro p l e R s m args below meth c D cy z C hnm
  refine g_aload_n C dJx4a65c_grow_d5877_0 rfl ?_
  refine g_aload_n C dJx4a65c_grow_d5877_1 rfl ?_
  refine g_getI C cls_0 Kl 2 (by first | exact ha | exact kd_nw (n := 10) ha (KLne hL).1 hq | exact kd_nw (n := n + n / 2) ha (KLne hL).1 hq) hL.2.2.1 k_56 dJx4a65c_grow_d5877_2 ?_
  rw [hsz]
  refine g_iconst C 1 dJx4a65c_grow_d5877_5 (by rfl) ?_
  refine g_iadd C dJx4a65c_grow_d5877_6 ?_
  rw [show (0 : Int32) + 1 = 1 from rfl]
  refine g_callV C cls_0 Kl mt_Jx4a65c_grow_92f84 [.int 1] (ge_growI de w Kl Ke hL a ha he) (by first | exact ha | exact kd_nw (n := 10) ha (KLne hL).1 hq | exact kd_nw (n := n + n / 2) ha (KLne hL).1 hq) hL.2.2.2.2 k_321 rfl rfl (Nat.le_of_ble_eq_true rfl) (by decide) (by decide) (by first | decide | omega) (by first | decide | omega) dJx4a65c_grow_d5877_7 (fun r_7 w_7 hp_7 => ?_)
  obtain ⟨q, hq, hde, rfl, rfl⟩ := hp_7
  refine g_aret C rfl (Or.inr ⟨_, rfl⟩) (Or.inr ⟨_, rfl⟩) (by first | decide | omega) (by first | decide | omega) dJx4a65c_grow_d5877_10 ?_
  exact ⟨q, hq, hde, rfl, rfl⟩

set_option maxHeartbeats 1000000 in
set_option maxRecDepth 100000 in
theorem gf_grow (de : Nat) (w : Wd) (Kl Ke : Nat) (hL : KL Kl Ke) {ci N : Nat} {Cn : String} {T : u_T} {ty0 : Nat → FieldType} (hcl : ClsOk ci Cn T N ty0) (hca : Cond.castable Cn "java/lang/Object" ∈ lw_tbl) (K2 : Nat) (hK2 : 0 < K2 ∧ K2 < 1000 ∧ (K2 - 1) % 20 = ci) (a ar n : Nat) (ha : kd w a = Kl) (hr : fR w Kl 1 a = some ar) (har : kd w ar = Ke) (hlen : aL w ar = n) (h10 : 10 ≤ n) (hn : n ≤ 100) (hel : ∀ i, i < n → ∀ y, aR w Ke ar i = some y → kd w y = K2) (hsz : fI w Kl 2 a = nI n) : Ct yJx4a65c_grow_d5877 cJx4a65c_grow_d5877 1 (some (.array (.object "java/lang/Object"))) 4 107 1 160 de [.ref a] w (fun r w' => ∃ q : Nat, kd w q = 0 ∧ q ≠ de ∧ r = some (.ref q) ∧ w' = pR (stO (nw w q Ke (n + n / 2)) Ke q (va_cpy (aR (nw w q Ke (n + n / 2)) Ke ar) (aR (nw w q Ke (n + n / 2)) Ke q) 0 0 n)) Kl 1 a (some q)) := by
  refine Ct.mk (by decide +kernel) [(0, .ref a)] rfl (Nat.le_of_ble_eq_true rfl) ?_
  intro p l e R s m args below meth c D cy z C hnm
  refine g_aload_n C dJx4a65c_grow_d5877_0 rfl ?_
  refine g_aload_n C dJx4a65c_grow_d5877_1 rfl ?_
  refine g_getI C cls_0 Kl 2 (by first | exact ha | exact kd_nw (n := 10) ha (KLne hL).1 hq | exact kd_nw (n := n + n / 2) ha (KLne hL).1 hq) hL.2.2.1 k_56 dJx4a65c_grow_d5877_2 ?_
  rw [hsz]
  refine g_iconst C 1 dJx4a65c_grow_d5877_5 (by rfl) ?_
  refine g_iadd C dJx4a65c_grow_d5877_6 ?_
  rw [nI_1]
  refine g_callV C cls_0 Kl mt_Jx4a65c_grow_92f84 [.int (nI (n + 1))] (gf_growI de w Kl Ke hL hcl hca K2 hK2 a ar n ha hr har hlen h10 hn hel) (by first | exact ha | exact kd_nw (n := 10) ha (KLne hL).1 hq | exact kd_nw (n := n + n / 2) ha (KLne hL).1 hq) hL.2.2.2.2 k_321 rfl rfl (Nat.le_of_ble_eq_true rfl) (by decide) (by decide) (by first | decide | omega) (by first | decide | omega) dJx4a65c_grow_d5877_7 (fun r_7 w_7 hp_7 => ?_)
  obtain ⟨q, hq, hde, rfl, rfl⟩ := hp_7
  refine g_aret C rfl (Or.inr ⟨_, rfl⟩) (Or.inr ⟨_, rfl⟩) (by first | decide | omega) (by first | decide | omega) dJx4a65c_grow_d5877_10 ?_
  exact ⟨q, hq, hde, rfl, rfl⟩
theorem dJx4a65c_add_72be8_0 : decode cJx4a65c_add_72be8 0 = .ok (.iload_n 3, 1) := by decide +kernel
theorem dJx4a65c_add_72be8_1 : decode cJx4a65c_add_72be8 1 = .ok (.aload_n 2, 1) := by decide +kernel
theorem dJx4a65c_add_72be8_2 : decode cJx4a65c_add_72be8 2 = .ok (.arraylength, 1) := by decide +kernel
theorem dJx4a65c_add_72be8_3 : decode cJx4a65c_add_72be8 3 = .ok (.if_icmp .ne 8, 3) := by decide +kernel
theorem dJx4a65c_add_72be8_6 : decode cJx4a65c_add_72be8 6 = .ok (.aload_n 0, 1) := by decide +kernel
theorem dJx4a65c_add_72be8_7 : decode cJx4a65c_add_72be8 7 = .ok (.invokevirtual 129, 3) := by decide +kernel
theorem dJx4a65c_add_72be8_10 : decode cJx4a65c_add_72be8 10 = .ok (.astore_n 2, 1) := by decide +kernel
theorem dJx4a65c_add_72be8_11 : decode cJx4a65c_add_72be8 11 = .ok (.aload_n 2, 1) := by decide +kernel
theorem dJx4a65c_add_72be8_12 : decode cJx4a65c_add_72be8 12 = .ok (.iload_n 3, 1) := by decide +kernel
theorem dJx4a65c_add_72be8_13 : decode cJx4a65c_add_72be8 13 = .ok (.aload_n 1, 1) := by decide +kernel
theorem dJx4a65c_add_72be8_14 : decode cJx4a65c_add_72be8 14 = .ok (.aastore, 1) := by decide +kernel
theorem dJx4a65c_add_72be8_15 : decode cJx4a65c_add_72be8 15 = .ok (.aload_n 0, 1) := by decide +kernel
theorem dJx4a65c_add_72be8_16 : decode cJx4a65c_add_72be8 16 = .ok (.iload_n 3, 1) := by decide +kernel
theorem dJx4a65c_add_72be8_17 : decode cJx4a65c_add_72be8 17 = .ok (.iconst 1, 1) := by decide +kernel
theorem dJx4a65c_add_72be8_18 : decode cJx4a65c_add_72be8 18 = .ok (.iadd, 1) := by decide +kernel
theorem dJx4a65c_add_72be8_19 : decode cJx4a65c_add_72be8 19 = .ok (.putfield 48, 3) := by decide +kernel
theorem dJx4a65c_add_72be8_22 : decode cJx4a65c_add_72be8 22 = .ok (.return_, 1) := by decide +kernel
set_option maxHeartbeats 1000000 in
set_option maxRecDepth 100000 in
theorem c_Jx4a65c_add_72be8 (de : Nat) (w : Wd) (Kl Ke : Nat) (hL : KL Kl Ke) {ci N : Nat} {Cn : String} {T : u_T} {ty0 : Nat → FieldType} (hcl : ClsOk ci Cn T N ty0) (hca : Cond.castable Cn "java/lang/Object" ∈ lw_tbl) (K2 : Nat) (hK2 : 0 < K2 ∧ K2 < 1000 ∧ (K2 - 1) % 20 = ci) (a rr n v : Nat) (el : Nat → Nat) (ha : kd w a = Kl) (hsz : fI w Kl 2 a = nI n) (hn : n ≤ 100) (hv : kd w v = K2) (helem : ∀ i, i < n → kd w (el i) = K2) (hcase : (n = 0 ∧ de = rr ∧ fR w Kl 1 a = some de) ∨ (rr ≠ de ∧ fR w Kl 1 a = some rr ∧ kd w rr = Ke ∧ n ≤ aL w rr ∧ 10 ≤ aL w rr ∧ aL w rr ≤ 1000 ∧ ∀ i, i < n → aR w Ke rr i = some (el i))) : Ct yJx4a65c_add_72be8 cJx4a65c_add_72be8 4 none 5 127 1 160 de [.ref a, .ref v, .ref rr, .int (nI n)] w (fun r w' => r = none ∧ AddP w w' de Kl Ke a n v el) := by
  refine Ct.mk (by decide +kernel) [(0, .ref a), (1, .ref v), (2, .ref rr), (3, .int (nI n))] rfl (Nat.le_of_ble_eq_true rfl) ?_
  intro p l e R s m args below meth c D cy z C hnm
  rcases hcase with ⟨hn0, hrd, he⟩ | ⟨hne, hr, har, hlen, h10, h1000, hel⟩
  · subst hrd
    subst hn0
    have hsz : fI w Kl 2 a = 0 := hsz
    refine g_iload_n C dJx4a65c_add_72be8_0 rfl ?_
    refine g_aload_n C dJx4a65c_add_72be8_1 rfl ?_
    refine g_alenDe C dJx4a65c_add_72be8_2 ?_
    refine g_icmp_ne C 11 dJx4a65c_add_72be8_3 (by decide) (fun c_3 => ?_) (fun c_3 => ?_)
    · exact absurd rfl c_3
    · refine g_aload_n C dJx4a65c_add_72be8_6 rfl ?_
      refine g_callV C cls_0 Kl mt_Jx4a65c_grow_d5877 [] (ge_grow de w Kl Ke hL a ha he hsz) (by first | exact ha | exact kd_nw (n := 10) ha (KLne hL).1 hq | exact kd_nw (n := n + n / 2) ha (KLne hL).1 hq) hL.2.2.2.2 k_317 rfl rfl (Nat.le_of_ble_eq_true rfl) (by decide) (by decide) (by first | decide | omega) (by first | decide | omega) dJx4a65c_add_72be8_7 (fun r_7 w_7 hp_7 => ?_)
      obtain ⟨q, hq, hde, rfl, rfl⟩ := hp_7
      refine g_astore_n C dJx4a65c_add_72be8_10 (by decide) ?_
      refine g_aload_n C dJx4a65c_add_72be8_11 rfl ?_
      refine g_iload_n C dJx4a65c_add_72be8_12 rfl ?_
      refine g_aload_n C dJx4a65c_add_72be8_13 rfl ?_
      refine g_aast3 C hcl hca Ke K2 (nw_kd0 (w := w) (n := 10)) hL.2.2.2.1 (by first | exact hv | exact kd_nw (n := 10) hv (show K2 ≠ 0 by omega) hq | exact kd_nw (n := n + n / 2) hv (show K2 ≠ 0 by omega) hq) hK2 (show vp_in (nI 0) (aL (nw w q Ke 10) q) by rw [nw_aL0]; exact nI_vp (by omega) (by omega)) dJx4a65c_add_72be8_14 ?_
      refine g_aload_n C dJx4a65c_add_72be8_15 rfl ?_
      refine g_iload_n C dJx4a65c_add_72be8_16 rfl ?_
      refine g_iconst C 1 dJx4a65c_add_72be8_17 (by rfl) ?_
      refine g_iadd C dJx4a65c_add_72be8_18 ?_
      refine g_putI C cls_0 Kl 2 (by first | exact ha | exact kd_nw (n := 10) ha (KLne hL).1 hq | exact kd_nw (n := n + n / 2) ha (KLne hL).1 hq) hL.2.2.1 (Or.inl rfl) rfl rfl k_56 dJx4a65c_add_72be8_19 ?_
      refine g_vret C rfl (by first | decide | omega) (by first | decide | omega) dJx4a65c_add_72be8_22 ?_
      exact ⟨rfl, addL_empty hL ha he hq hde⟩
  · by_cases hfull : aL w rr = n
    · refine g_iload_n C dJx4a65c_add_72be8_0 rfl ?_
      refine g_aload_n C dJx4a65c_add_72be8_1 rfl ?_
      refine g_alen C Ke 3 har hL.2.2.2.1 (by decide) dJx4a65c_add_72be8_2 ?_
      rw [hfull, show Int32.ofNat n = nI n from rfl]
      refine g_icmp_ne C 11 dJx4a65c_add_72be8_3 (by decide) (fun c_3 => ?_) (fun c_3 => ?_)
      · exact absurd rfl c_3
      · refine g_aload_n C dJx4a65c_add_72be8_6 rfl ?_
        refine g_callV C cls_0 Kl mt_Jx4a65c_grow_d5877 [] (gf_grow de w Kl Ke hL hcl hca K2 hK2 a rr n ha hr har hfull (by omega) hn (fun i hi y hy => by rw [hel i hi] at hy; cases hy; exact helem i hi) hsz) (by first | exact ha | exact kd_nw (n := 10) ha (KLne hL).1 hq | exact kd_nw (n := n + n / 2) ha (KLne hL).1 hq) hL.2.2.2.2 k_317 rfl rfl (Nat.le_of_ble_eq_true rfl) (by decide) (by decide) (by first | decide | omega) (by first | decide | omega) dJx4a65c_add_72be8_7 (fun r_7 w_7 hp_7 => ?_)
        obtain ⟨q, hq, hde, rfl, rfl⟩ := hp_7
        refine g_astore_n C dJx4a65c_add_72be8_10 (by decide) ?_
        refine g_aload_n C dJx4a65c_add_72be8_11 rfl ?_
        refine g_iload_n C dJx4a65c_add_72be8_12 rfl ?_
        refine g_aload_n C dJx4a65c_add_72be8_13 rfl ?_
        refine g_aast3 C hcl hca Ke K2 (nw_kd0 (w := w) (n := n + n / 2)) hL.2.2.2.1 (by first | exact hv | exact kd_nw (n := 10) hv (show K2 ≠ 0 by omega) hq | exact kd_nw (n := n + n / 2) hv (show K2 ≠ 0 by omega) hq) hK2 (show vp_in (nI n) (aL (nw w q Ke (n + n / 2)) q) by rw [nw_aL0]; exact nI_vp (by omega) (by omega)) dJx4a65c_add_72be8_14 ?_
        refine g_aload_n C dJx4a65c_add_72be8_15 rfl ?_
        refine g_iload_n C dJx4a65c_add_72be8_16 rfl ?_
        refine g_iconst C 1 dJx4a65c_add_72be8_17 (by rfl) ?_
        refine g_iadd C dJx4a65c_add_72be8_18 ?_
        rw [nI_1, nI_tn (by omega)]
        refine g_putI C cls_0 Kl 2 (by first | exact ha | exact kd_nw (n := 10) ha (KLne hL).1 hq | exact kd_nw (n := n + n / 2) ha (KLne hL).1 hq) hL.2.2.1 (Or.inl rfl) rfl rfl k_56 dJx4a65c_add_72be8_19 ?_
        refine g_vret C rfl (by first | decide | omega) (by first | decide | omega) dJx4a65c_add_72be8_22 ?_
        exact ⟨rfl, addL_full hL ha hn hr har hfull (by omega) hel hq hde⟩
    · refine g_iload_n C dJx4a65c_add_72be8_0 rfl ?_
      refine g_aload_n C dJx4a65c_add_72be8_1 rfl ?_
      refine g_alen C Ke 3 har hL.2.2.2.1 (by decide) dJx4a65c_add_72be8_2 ?_
      refine g_icmp_ne C 11 dJx4a65c_add_72be8_3 (by decide) (fun c_3 => ?_) (fun c_3 => ?_)
      · refine g_aload_n C dJx4a65c_add_72be8_11 rfl ?_
        refine g_iload_n C dJx4a65c_add_72be8_12 rfl ?_
        refine g_aload_n C dJx4a65c_add_72be8_13 rfl ?_
        refine g_aast3 C hcl hca Ke K2 har hL.2.2.2.1 (by first | exact hv | exact kd_nw (n := 10) hv (show K2 ≠ 0 by omega) hq | exact kd_nw (n := n + n / 2) hv (show K2 ≠ 0 by omega) hq) hK2 (nI_vp (by omega) (by omega)) dJx4a65c_add_72be8_14 ?_
        refine g_aload_n C dJx4a65c_add_72be8_15 rfl ?_
        refine g_iload_n C dJx4a65c_add_72be8_16 rfl ?_
        refine g_iconst C 1 dJx4a65c_add_72be8_17 (by rfl) ?_
        refine g_iadd C dJx4a65c_add_72be8_18 ?_
        rw [nI_1, nI_tn (by omega)]
        refine g_putI C cls_0 Kl 2 (by first | exact ha | exact kd_nw (n := 10) ha (KLne hL).1 hq | exact kd_nw (n := n + n / 2) ha (KLne hL).1 hq) hL.2.2.1 (Or.inl rfl) rfl rfl k_56 dJx4a65c_add_72be8_19 ?_
        refine g_vret C rfl (by first | decide | omega) (by first | decide | omega) dJx4a65c_add_72be8_22 ?_
        exact ⟨rfl, addL_room hL ha (by omega) hr hne har (by omega) h10 h1000 hel⟩
      · exact absurd ((nI_eq (b := aL w rr) (by omega) (by omega)).mp c_3) (by omega)
theorem dJx4a65c_add_9ea2d_0 : decode cJx4a65c_add_9ea2d 0 = .ok (.aload_n 0, 1) := by decide +kernel
theorem dJx4a65c_add_9ea2d_1 : decode cJx4a65c_add_9ea2d 1 = .ok (.dup, 1) := by decide +kernel
theorem dJx4a65c_add_9ea2d_2 : decode cJx4a65c_add_9ea2d 2 = .ok (.getfield 63, 3) := by decide +kernel
theorem dJx4a65c_add_9ea2d_5 : decode cJx4a65c_add_9ea2d 5 = .ok (.iconst 1, 1) := by decide +kernel
theorem dJx4a65c_add_9ea2d_6 : decode cJx4a65c_add_9ea2d 6 = .ok (.iadd, 1) := by decide +kernel
theorem dJx4a65c_add_9ea2d_7 : decode cJx4a65c_add_9ea2d 7 = .ok (.putfield 63, 3) := by decide +kernel
theorem dJx4a65c_add_9ea2d_10 : decode cJx4a65c_add_9ea2d 10 = .ok (.aload_n 0, 1) := by decide +kernel
theorem dJx4a65c_add_9ea2d_11 : decode cJx4a65c_add_9ea2d 11 = .ok (.aload_n 1, 1) := by decide +kernel
theorem dJx4a65c_add_9ea2d_12 : decode cJx4a65c_add_9ea2d 12 = .ok (.aload_n 0, 1) := by decide +kernel
theorem dJx4a65c_add_9ea2d_13 : decode cJx4a65c_add_9ea2d 13 = .ok (.getfield 9, 3) := by decide +kernel
theorem dJx4a65c_add_9ea2d_16 : decode cJx4a65c_add_9ea2d 16 = .ok (.aload_n 0, 1) := by decide +kernel
theorem dJx4a65c_add_9ea2d_17 : decode cJx4a65c_add_9ea2d 17 = .ok (.getfield 48, 3) := by decide +kernel
theorem dJx4a65c_add_9ea2d_20 : decode cJx4a65c_add_9ea2d 20 = .ok (.invokevirtual 131, 3) := by decide +kernel
theorem dJx4a65c_add_9ea2d_23 : decode cJx4a65c_add_9ea2d 23 = .ok (.iconst 1, 1) := by decide +kernel
theorem dJx4a65c_add_9ea2d_24 : decode cJx4a65c_add_9ea2d 24 = .ok (.ireturn, 1) := by decide +kernel
theorem addL_mod {w w' : Wd} {de Kl Ke a n v : Nat} {el : Nat → Nat} {x : Int32} (h : AddP (pI w Kl 0 a x) w' de Kl Ke a n v el) (hm : ∀ b, b ≠ a → SmA w (pI w Kl 0 a x) b) : AddP w w' de Kl Ke a n v el :=
  ⟨h.1, fun b hb hba hbr => (hm b hba).tr (h.2.1 b hb hba hbr), h.2.2⟩
set_option maxHeartbeats 1000000 in
set_option maxRecDepth 100000 in
theorem c_Jx4a65c_add_9ea2d (de : Nat) (w : Wd) (Kl Ke : Nat) (hL : KL Kl Ke) {ci N : Nat} {Cn : String} {T : u_T} {ty0 : Nat → FieldType} (hcl : ClsOk ci Cn T N ty0) (hca : Cond.castable Cn "java/lang/Object" ∈ lw_tbl) (K2 : Nat) (hK2 : 0 < K2 ∧ K2 < 1000 ∧ (K2 - 1) % 20 = ci) (a n v : Nat) (el : Nat → Nat) (hR : RLs w de Kl Ke a n el) (hn : n ≤ 100) (hv : kd w v = K2) (helem : ∀ i, i < n → kd w (el i) = K2) : Ct yJx4a65c_add_9ea2d cJx4a65c_add_9ea2d 2 (some .boolean) 6 150 1 160 de [.ref a, .ref v] w (fun r w' => r = some (.int 1) ∧ AddP w w' de Kl Ke a n v el) := by
  refine Ct.mk (by decide +kernel) [(0, .ref a), (1, .ref v)] rfl (Nat.le_of_ble_eq_true rfl) ?_
  intro p l e R s m args below meth c D cy z C hnm
  obtain ⟨ha, hsz, h600, hcase0⟩ := hR
  obtain ⟨rr, hrr, hcase⟩ : ∃ rr, fR w Kl 1 a = some rr ∧ ((n = 0 ∧ de = rr ∧ fR w Kl 1 a = some de) ∨ (rr ≠ de ∧ fR w Kl 1 a = some rr ∧ kd w rr = Ke ∧ n ≤ aL w rr ∧ 10 ≤ aL w rr ∧ aL w rr ≤ 1000 ∧ ∀ i, i < n → aR w Ke rr i = some (el i))) := by
    rcases hcase0 with ⟨h1, h2⟩ | ⟨rr, h1, h2⟩
    · exact ⟨de, h2, Or.inl ⟨h1, rfl, h2⟩⟩
    · exact ⟨rr, h1, Or.inr ⟨h2.1, h1, h2.2⟩⟩
  have hmod : ∀ b, b ≠ a → SmA w (pI w Kl 0 a (fI w Kl 0 a + 1)) b := fun b hb => SmA.pI hb
  refine g_aload_n C dJx4a65c_add_9ea2d_0 rfl ?_
  refine g_dup C dJx4a65c_add_9ea2d_1 rfl ?_
  refine g_getI2 C cls_0 Kl 0 ha hL.1 k_59 k_58 dJx4a65c_add_9ea2d_2 ?_
  refine g_iconst C 1 dJx4a65c_add_9ea2d_5 (by rfl) ?_
  refine g_iadd C dJx4a65c_add_9ea2d_6 ?_
  refine g_putI2 C cls_0 Kl 0 ha hL.1 (Or.inl rfl) rfl rfl k_59 k_58 dJx4a65c_add_9ea2d_7 ?_
  refine g_aload_n C dJx4a65c_add_9ea2d_10 rfl ?_
  refine g_aload_n C dJx4a65c_add_9ea2d_11 rfl ?_
  refine g_aload_n C dJx4a65c_add_9ea2d_12 rfl ?_
  refine g_getR (b := rr) C cls_0 Kl 1 ha hrr hL.2.1 k_55 dJx4a65c_add_9ea2d_13 ?_
  refine g_aload_n C dJx4a65c_add_9ea2d_16 rfl ?_
  refine g_getI C cls_0 Kl 2 ha hL.2.2.1 k_56 dJx4a65c_add_9ea2d_17 ?_
  rw [show fI (pI w Kl 0 a (fI w Kl 0 a + 1)) Kl 2 a = nI n from (up3_y (by decide)).trans hsz]
  refine g_callV C cls_0 Kl mt_Jx4a65c_add_72be8 [.ref v, .ref rr, .int (nI n)] (c_Jx4a65c_add_72be8 de (pI w Kl 0 a (fI w Kl 0 a + 1)) Kl Ke hL hcl hca K2 hK2 a rr n v el ha ((up3_y (by decide)).trans hsz) hn hv helem hcase) ha hL.2.2.2.2 k_313 rfl rfl (Nat.le_of_ble_eq_true rfl) (by decide) (by decide) (by first | decide | omega) (by first | decide | omega) dJx4a65c_add_9ea2d_20 (fun r_20 w_20 hp_20 => ?_)
  obtain ⟨rfl, hadd⟩ := hp_20
  refine g_iconst C 1 dJx4a65c_add_9ea2d_23 (by rfl) ?_
  refine g_iret C rfl rfl (by first | decide | omega) (by first | decide | omega) dJx4a65c_add_9ea2d_24 ?_
  exact ⟨rfl, addL_mod hadd hmod⟩
end ADD28
