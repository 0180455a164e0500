section ADD27
theorem dJxa1e45_init_da8c8_0 : decode cJxa1e45_init_da8c8 0 = .ok (.aload_n 0, 1) := by decide +kernel
theorem dJxa1e45_init_da8c8_1 : decode cJxa1e45_init_da8c8 1 = .ok (.invokespecial 1, 3) := by decide +kernel
theorem dJxa1e45_init_da8c8_4 : decode cJxa1e45_init_da8c8 4 = .ok (.return_, 1) := by decide +kernel
set_option maxHeartbeats 1000000 in
set_option maxRecDepth 100000 in
theorem c_Jxa1e45_init_da8c8 (de : Nat) (w : Wd) (a : Nat) : Ct yJxa1e45_init_da8c8 cJxa1e45_init_da8c8 1 none 1 20 0 0 de [.ref a] w (fun r w' => r = none ∧ w = w') := by
  refine Ct.mk (by decide +kernel) [(0, .ref a)] rfl (Nat.le_of_ble_eq_true rfl) ?_
  intro p l e R s m args below meth c D cy z C hnm
  refine g_aload_n C dJxa1e45_init_da8c8_0 rfl ?_
  refine g_objInit C k_52 k_33 k_34 (Nat.le_of_ble_eq_true rfl) (by decide) dJxa1e45_init_da8c8_1 ?_
  refine g_vret C rfl (by decide) (by decide) dJxa1e45_init_da8c8_4 ?_
  exact ⟨rfl, rfl⟩
theorem dJxc12de_init_da8c8_0 : decode cJxc12de_init_da8c8 0 = .ok (.aload_n 0, 1) := by decide +kernel
theorem dJxc12de_init_da8c8_1 : decode cJxc12de_init_da8c8 1 = .ok (.invokespecial 1, 3) := by decide +kernel
theorem dJxc12de_init_da8c8_4 : decode cJxc12de_init_da8c8 4 = .ok (.aload_n 0, 1) := by decide +kernel
theorem dJxc12de_init_da8c8_5 : decode cJxc12de_init_da8c8 5 = .ok (.iconst 0, 1) := by decide +kernel
theorem dJxc12de_init_da8c8_6 : decode cJxc12de_init_da8c8 6 = .ok (.putfield 7, 3) := by decide +kernel
theorem dJxc12de_init_da8c8_9 : decode cJxc12de_init_da8c8 9 = .ok (.return_, 1) := by decide +kernel
set_option maxHeartbeats 1000000 in
set_option maxRecDepth 100000 in
theorem c_Jxc12de_init_da8c8 (de : Nat) (w : Wd) (Kl Ke : Nat) (hL : KL Kl Ke) (a : Nat) (ha : kd w a = Kl) : Ct yJxc12de_init_da8c8 cJxc12de_init_da8c8 1 none 2 40 0 0 de [.ref a] w (fun r w' => r = none ∧ w' = pI w Kl 0 a 0) := by
  refine Ct.mk (by decide +kernel) [(0, .ref a)] rfl (Nat.le_of_ble_eq_true rfl) ?_
  intro p l e R s m args below meth c D cy z C hnm
  refine g_aload_n C dJxc12de_init_da8c8_0 rfl ?_
  refine g_callI C mt_Jxa1e45_init_da8c8 [] (c_Jxa1e45_init_da8c8 de w a) k_49 rfl rfl (Nat.le_of_ble_eq_true rfl) (by decide) (by decide) (by decide) (by decide) dJxc12de_init_da8c8_1 (fun r_1 w_1 hp_1 => ?_)
  obtain ⟨rfl, rfl⟩ := hp_1
  refine g_aload_n C dJxc12de_init_da8c8_4 rfl ?_
  refine g_iconst C 0 dJxc12de_init_da8c8_5 (by rfl) ?_
  refine g_putI C cls_0 Kl 0 ha hL.1 (Or.inl rfl) rfl rfl k_57 dJxc12de_init_da8c8_6 ?_
  refine g_vret C rfl (by decide) (by decide) dJxc12de_init_da8c8_9 ?_
  exact ⟨rfl, rfl⟩
theorem dJx4a65c_init_da8c8_0 : decode cJx4a65c_init_da8c8 0 = .ok (.aload_n 0, 1) := by decide +kernel
theorem dJx4a65c_init_da8c8_1 : decode cJx4a65c_init_da8c8 1 = .ok (.invokespecial 1, 3) := by decide +kernel
theorem dJx4a65c_init_da8c8_4 : decode cJx4a65c_init_da8c8 4 = .ok (.aload_n 0, 1) := by decide +kernel
theorem dJx4a65c_init_da8c8_5 : decode cJx4a65c_init_da8c8 5 = .ok (.getstatic 39, 3) := by decide +kernel
theorem dJx4a65c_init_da8c8_8 : decode cJx4a65c_init_da8c8 8 = .ok (.putfield 9, 3) := by decide +kernel
theorem dJx4a65c_init_da8c8_11 : decode cJx4a65c_init_da8c8 11 = .ok (.return_, 1) := by decide +kernel
set_option maxHeartbeats 1000000 in
set_option maxRecDepth 100000 in
theorem c_Jx4a65c_init_da8c8 (de : Nat) (w : Wd) (Kl Ke : Nat) (hL : KL Kl Ke) (a : Nat) (ha : kd w a = Kl) : Ct yJx4a65c_init_da8c8 cJx4a65c_init_da8c8 1 none 3 60 0 0 de [.ref a] w (fun r w' => r = none ∧ w' = pR (pI w Kl 0 a 0) Kl 1 a (some de)) := by
  refine Ct.mk (by decide +kernel) [(0, .ref a)] rfl (Nat.le_of_ble_eq_true rfl) ?_
  intro p l e R s m args below meth c D cy z C hnm
  refine g_aload_n C dJx4a65c_init_da8c8_0 rfl ?_
  refine g_callI C mt_Jxc12de_init_da8c8 [] (c_Jxc12de_init_da8c8 de w Kl Ke hL a ha) k_46 rfl rfl (Nat.le_of_ble_eq_true rfl) (by decide) (by decide) (by decide) (by decide) dJx4a65c_init_da8c8_1 (fun r_1 w_1 hp_1 => ?_)
  obtain ⟨rfl, rfl⟩ := hp_1
  refine g_aload_n C dJx4a65c_init_da8c8_4 rfl ?_
  refine g_getsDe C k_53 dJx4a65c_init_da8c8_5 ?_
  refine g_putR C cls_0 Kl 1 (some de) rfl ha hL.2.1 (Or.inl rfl) rfl rfl k_55 dJx4a65c_init_da8c8_8 ?_
  refine g_vret C rfl (by decide) (by decide) dJx4a65c_init_da8c8_11 ?_
  exact ⟨rfl, rfl⟩
theorem dJ8_newLength_cabcc_0 : decode cJ8_newLength_cabcc 0 = .ok (.iload_n 0, 1) := by decide +kernel
theorem dJ8_newLength_cabcc_1 : decode cJ8_newLength_cabcc 1 = .ok (.iload_n 1, 1) := by decide +kernel
theorem dJ8_newLength_cabcc_2 : decode cJ8_newLength_cabcc 2 = .ok (.iload_n 2, 1) := by decide +kernel
theorem dJ8_newLength_cabcc_3 : decode cJ8_newLength_cabcc 3 = .ok (.invokestatic 194, 3) := by decide +kernel
theorem dJ8_newLength_cabcc_6 : decode cJ8_newLength_cabcc 6 = .ok (.iadd, 1) := by decide +kernel
theorem dJ8_newLength_cabcc_7 : decode cJ8_newLength_cabcc 7 = .ok (.istore_n 3, 1) := by decide +kernel
theorem dJ8_newLength_cabcc_8 : decode cJ8_newLength_cabcc 8 = .ok (.iconst 0, 1) := by decide +kernel
theorem dJ8_newLength_cabcc_9 : decode cJ8_newLength_cabcc 9 = .ok (.iload_n 3, 1) := by decide +kernel
theorem dJ8_newLength_cabcc_10 : decode cJ8_newLength_cabcc 10 = .ok (.if_icmp .ge 11, 3) := by decide +kernel
theorem dJ8_newLength_cabcc_13 : decode cJ8_newLength_cabcc 13 = .ok (.iload_n 3, 1) := by decide +kernel
theorem dJ8_newLength_cabcc_14 : decode cJ8_newLength_cabcc 14 = .ok (.ldc 200, 2) := by decide +kernel
theorem dJ8_newLength_cabcc_16 : decode cJ8_newLength_cabcc 16 = .ok (.if_icmp .gt 5, 3) := by decide +kernel
theorem dJ8_newLength_cabcc_19 : decode cJ8_newLength_cabcc 19 = .ok (.iload_n 3, 1) := by decide +kernel
theorem dJ8_newLength_cabcc_20 : decode cJ8_newLength_cabcc 20 = .ok (.ireturn, 1) := by decide +kernel
set_option maxHeartbeats 1000000 in
set_option maxRecDepth 100000 in
theorem c_J8_newLength_cabcc (de : Nat) (w : Wd) (n : Nat) (h10 : 10 ≤ n) (hn : n ≤ 1000) : Ct yJ8_newLength_cabcc cJ8_newLength_cabcc 4 (some .int) 1 21 0 0 de [.int (nI n), .int 1, .int (nI (n / 2))] w (fun r w' => r = some (.int (nI (n + n / 2))) ∧ w = w') := by
  refine Ct.mk (by decide +kernel) [(0, .int (nI n)), (1, .int 1), (2, .int (nI (n / 2)))] rfl (Nat.le_of_ble_eq_true rfl) ?_
  intro p l e R s m args below meth c D cy z C hnm
  refine g_iload_n C dJ8_newLength_cabcc_0 rfl ?_
  refine g_iload_n C dJ8_newLength_cabcc_1 rfl ?_
  refine g_iload_n C dJ8_newLength_cabcc_2 rfl ?_
  refine g_max C k_328 k_329 k_18 k_330 (by decide) (Nat.le_of_ble_eq_true rfl) (by decide) (by decide) dJ8_newLength_cabcc_3 ?_
  rw [show (if (1 : Int32) < nI (n / 2) then nI (n / 2) else 1) = nI (n / 2) from if_pos (nI_lt (a := 1) (by omega) (by omega))]
  refine g_iadd C dJ8_newLength_cabcc_6 ?_
  rw [nI_add]
  refine g_istore_n C dJ8_newLength_cabcc_7 (by decide) ?_
  refine g_iconst C 0 dJ8_newLength_cabcc_8 (by rfl) ?_
  refine g_iload_n C dJ8_newLength_cabcc_9 rfl ?_
  refine g_icmp_ge C 21 dJ8_newLength_cabcc_10 (by decide) (fun c_10 => ?_) (fun c_10 => ?_)
  · first
    | exact absurd (nI_le_of (b := 0) (by first | exact c_10) (by omega) (by omega)) (by omega)
    | exact absurd c_16 (by rw [i32_lt, nI_toInt (by omega)]; exact fun z => by have : (2147483639 : Int32).toInt = 2147483639 := rfl; omega)
  · refine g_iload_n C dJ8_newLength_cabcc_13 rfl ?_
    refine g_ldc C k_331 dJ8_newLength_cabcc_14 ?_
    refine g_icmp_gt C 21 dJ8_newLength_cabcc_16 (by decide) (fun c_16 => ?_) (fun c_16 => ?_)
    · first
      | exact absurd (nI_le_of (b := 0) (by first | exact c_10) (by omega) (by omega)) (by omega)
      | exact absurd c_16 (by rw [i32_lt, nI_toInt (by omega)]; exact fun z => by have : (2147483639 : Int32).toInt = 2147483639 := rfl; omega)
    · refine g_iload_n C dJ8_newLength_cabcc_19 rfl ?_
      refine g_iret C rfl rfl (by decide) (by decide) dJ8_newLength_cabcc_20 ?_
      exact ⟨rfl, rfl⟩
theorem dJ7_copyOf_6403c_0 : decode cJ7_copyOf_6403c 0 = .ok (.aload_n 2, 1) := by decide +kernel
theorem dJ7_copyOf_6403c_1 : decode cJ7_copyOf_6403c 1 = .ok (.ldc 110, 2) := by decide +kernel
theorem dJ7_copyOf_6403c_3 : decode cJ7_copyOf_6403c 3 = .ok (.if_acmp .ne 10, 3) := by decide +kernel
theorem dJ7_copyOf_6403c_6 : decode cJ7_copyOf_6403c 6 = .ok (.iload_n 1, 1) := by decide +kernel
theorem dJ7_copyOf_6403c_7 : decode cJ7_copyOf_6403c 7 = .ok (.anewarray 2, 3) := by decide +kernel
theorem dJ7_copyOf_6403c_10 : decode cJ7_copyOf_6403c 10 = .ok (.goto 14, 3) := by decide +kernel
theorem dJ7_copyOf_6403c_24 : decode cJ7_copyOf_6403c 24 = .ok (.astore_n 3, 1) := by decide +kernel
theorem dJ7_copyOf_6403c_25 : decode cJ7_copyOf_6403c 25 = .ok (.aload_n 0, 1) := by decide +kernel
theorem dJ7_copyOf_6403c_26 : decode cJ7_copyOf_6403c 26 = .ok (.iconst 0, 1) := by decide +kernel
theorem dJ7_copyOf_6403c_27 : decode cJ7_copyOf_6403c 27 = .ok (.aload_n 3, 1) := by decide +kernel
theorem dJ7_copyOf_6403c_28 : decode cJ7_copyOf_6403c 28 = .ok (.iconst 0, 1) := by decide +kernel
theorem dJ7_copyOf_6403c_29 : decode cJ7_copyOf_6403c 29 = .ok (.aload_n 0, 1) := by decide +kernel
theorem dJ7_copyOf_6403c_30 : decode cJ7_copyOf_6403c 30 = .ok (.arraylength, 1) := by decide +kernel
theorem dJ7_copyOf_6403c_31 : decode cJ7_copyOf_6403c 31 = .ok (.iload_n 1, 1) := by decide +kernel
theorem dJ7_copyOf_6403c_32 : decode cJ7_copyOf_6403c 32 = .ok (.invokestatic 304, 3) := by decide +kernel
theorem dJ7_copyOf_6403c_35 : decode cJ7_copyOf_6403c 35 = .ok (.invokestatic 150, 3) := by decide +kernel
theorem dJ7_copyOf_6403c_38 : decode cJ7_copyOf_6403c 38 = .ok (.aload_n 3, 1) := by decide +kernel
theorem dJ7_copyOf_6403c_39 : decode cJ7_copyOf_6403c 39 = .ok (.areturn, 1) := by decide +kernel
set_option maxHeartbeats 1000000 in
set_option maxRecDepth 100000 in
theorem c_J7_copyOf_6403c (de : Nat) (w : Wd) (Kl Ke : Nat) (hL : KL Kl Ke) {ci N : Nat} {Cn : String} {T : u_T} {ty0 : Nat → FieldType} (hcl : ClsOk ci Cn T N ty0) (hca : Cond.castable Cn "java/lang/Object" ∈ lw_tbl) (K2 : Nat) (hK2 : 0 < K2 ∧ K2 < 1000 ∧ (K2 - 1) % 20 = ci) (ar n N : Nat) (har : kd w ar = Ke) (hlen : aL w ar = n) (hn : n ≤ N) (hN : N ≤ 1000) (hel : ∀ i, i < n → ∀ y, aR w Ke ar i = some y → kd w y = K2) : Cm yJ7_copyOf_6403c cJ7_copyOf_6403c 4 (some (.array (.object "java/lang/Object"))) 1 40 1 N de (fun mi => [.ref ar, .int (nI N), .ref mi]) w (fun r w' => ∃ q : Nat, kd w q = 0 ∧ q ≠ de ∧ r = some (.ref q) ∧ w' = stO (nw w q Ke N) Ke q (va_cpy (aR (nw w q Ke N) Ke ar) (aR (nw w q Ke N) Ke q) 0 0 n)) := by
  refine Cm.mk (by decide +kernel) (fun mi => [(0, .ref ar), (1, .int (nI N)), (2, .ref mi)]) (fun _ => rfl) (fun _ => Nat.le_of_ble_eq_true rfl) ?_
  intro p l e R s m args below meth c D cy z mi C hMi
  refine g_aload_n C dJ7_copyOf_6403c_0 rfl ?_
  refine g_ldcM C k_360 hMi dJ7_copyOf_6403c_1 ?_
  refine g_acmp_ne (rx := (some mi)) (ry := (some mi)) C 13 dJ7_copyOf_6403c_3 (by decide) (fun c_3 => ?_) (fun c_3 => ?_)
  · exact absurd rfl c_3
  · refine g_iload_n C dJ7_copyOf_6403c_6 rfl ?_
    refine g_newO C Ke N hL.2.2.2.1 k_362 (nI_pos (by omega)) (nI_clamp (by omega)) (by first | decide | omega) (by first | decide | omega) (by first | decide | omega) dJ7_copyOf_6403c_7 (fun q hq => ?_)
    intro hde
    have ha0 : kd (nw w q Ke N) ar = Ke := kd_nw har (okA_spec hL.2.2.2.1).1 hq
    have hla : aL (nw w q Ke N) ar = aL w ar := aL_nw (nw_ne har (okA_spec hL.2.2.2.1).1 hq)
    refine g_goto C 24 dJ7_copyOf_6403c_10 (by decide) ?_
    refine g_astore_n C dJ7_copyOf_6403c_24 (by decide) ?_
    refine g_aload_n C dJ7_copyOf_6403c_25 rfl ?_
    refine g_iconst C 0 dJ7_copyOf_6403c_26 (by rfl) ?_
    refine g_aload_n C dJ7_copyOf_6403c_27 rfl ?_
    refine g_iconst C 0 dJ7_copyOf_6403c_28 (by rfl) ?_
    refine g_aload_n C dJ7_copyOf_6403c_29 rfl ?_
    refine g_alen C Ke 3 (by first | exact har | exact ha0) hL.2.2.2.1 (by decide) dJ7_copyOf_6403c_30 ?_
    refine g_iload_n C dJ7_copyOf_6403c_31 rfl ?_
    rw [hla, hlen, show Int32.ofNat n = nI n from rfl]
    refine g_min C k_363 k_364 k_18 k_365 (by decide) (Nat.le_of_ble_eq_true rfl) (by first | decide | omega) (by first | decide | omega) dJ7_copyOf_6403c_32 ?_
    rw [show (if nI N < nI n then nI N else nI n) = nI n from if_neg (nI_nlt (by omega) (by omega))]
    refine g_copyq C hcl hca Ke K2 ha0 nw_kd0 hL.2.2.2.1 hK2 (fun i hi y hy => ?_) (by rw [hla]; omega) (by rw [nw_aL0]; omega) (by omega) k_366 (by decide) (Nat.le_of_ble_eq_true rfl) dJ7_copyOf_6403c_35 ?_
    · rw [show aR (nw w q Ke N) Ke ar i = aR w Ke ar i from congrFun (aR_nw (nw_ne har (okA_spec hL.2.2.2.1).1 hq)) i] at hy
      have h9 := hel i hi y hy
      exact kd_nw h9 (by omega) hq
    refine g_aload_n C dJ7_copyOf_6403c_38 rfl ?_
    refine g_aret C rfl (Or.inr ⟨_, rfl⟩) (Or.inr ⟨_, rfl⟩) (by first | decide | omega) (by first | decide | omega) dJ7_copyOf_6403c_39 ?_
    exact ⟨q, hq, hde, rfl, rfl⟩
theorem dJ7_copyOf_1904c_0 : decode cJ7_copyOf_1904c 0 = .ok (.aload_n 0, 1) := by decide +kernel
theorem dJ7_copyOf_1904c_1 : decode cJ7_copyOf_1904c 1 = .ok (.iload_n 1, 1) := by decide +kernel
theorem dJ7_copyOf_1904c_2 : decode cJ7_copyOf_1904c 2 = .ok (.aload_n 0, 1) := by decide +kernel
theorem dJ7_copyOf_1904c_3 : decode cJ7_copyOf_1904c 3 = .ok (.invokevirtual 86, 3) := by decide +kernel
theorem dJ7_copyOf_1904c_6 : decode cJ7_copyOf_1904c 6 = .ok (.invokestatic 300, 3) := by decide +kernel
theorem dJ7_copyOf_1904c_9 : decode cJ7_copyOf_1904c 9 = .ok (.areturn, 1) := by decide +kernel
set_option maxHeartbeats 1000000 in
set_option maxRecDepth 100000 in
theorem c_J7_copyOf_1904c (de : Nat) (w : Wd) (Kl Ke : Nat) (hL : KL Kl Ke) {ci N : Nat} {Cn : String} {T : u_T} {ty0 : Nat → FieldType} (hcl : ClsOk ci Cn T N ty0) (hca : Cond.castable Cn "java/lang/Object" ∈ lw_tbl) (K2 : Nat) (hK2 : 0 < K2 ∧ K2 < 1000 ∧ (K2 - 1) % 20 = ci) (ar n N : Nat) (har : kd w ar = Ke) (hlen : aL w ar = n) (hn : n ≤ N) (hN : N ≤ 1000) (hel : ∀ i, i < n → ∀ y, aR w Ke ar i = some y → kd w y = K2) : Ct yJ7_copyOf_1904c cJ7_copyOf_1904c 2 (some (.array (.object "java/lang/Object"))) 2 63 1 N de [.ref ar, .int (nI N)] w (fun r w' => ∃ q : Nat, kd w q = 0 ∧ q ≠ de ∧ r = some (.ref q) ∧ w' = stO (nw w q Ke N) Ke q (va_cpy (aR (nw w q Ke N) Ke ar) (aR (nw w q Ke N) Ke q) 0 0 n)) := by
  refine Ct.mk (by decide +kernel) [(0, .ref ar), (1, .int (nI N))] rfl (Nat.le_of_ble_eq_true rfl) ?_
  intro p l e R s m args below meth c D cy z C hnm
  refine g_aload_n C dJ7_copyOf_1904c_0 rfl ?_
  refine g_iload_n C dJ7_copyOf_1904c_1 rfl ?_
  refine g_aload_n C dJ7_copyOf_1904c_2 rfl ?_
  obtain ⟨mi, hMi⟩ := C.2.2.2.2.2.2.2.2.1.2.2.2.2.1
  refine g_getC C Ke har hL.2.2.2.1 k_338 hMi (by decide) (Nat.le_of_ble_eq_true rfl) dJ7_copyOf_1904c_3 ?_
  refine g_callM C mt_J7_copyOf_6403c (fun mi => [.ref ar, .int (nI N), .ref mi]) (c_J7_copyOf_6403c de w Kl Ke hL hcl hca K2 hK2 ar n N har hlen hn hN hel) hMi k_357 rfl rfl (Nat.le_of_ble_eq_true rfl) (by decide) (by decide) (by omega) (by omega) dJ7_copyOf_1904c_6 (fun r_6 w_6 hp_6 => ?_)
  obtain ⟨q, hq, hde, rfl, rfl⟩ := hp_6
  refine g_aret C rfl (Or.inr ⟨_, rfl⟩) (Or.inr ⟨_, rfl⟩) (by first | decide | omega) (by first | decide | omega) dJ7_copyOf_1904c_9 ?_
  exact ⟨q, hq, hde, rfl, rfl⟩
end ADD27
