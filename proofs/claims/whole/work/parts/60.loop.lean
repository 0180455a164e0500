section LOOP60
theorem sub6 {L k : Nat} (hL : L ≤ 3072) (hk : k ≤ 100000) : (nI L - 6 < nI k) ↔ L < k + 6 := by
  rw [Int32.lt_iff_toInt_lt, Int32.toInt_sub, nI_toInt (by omega), nI_toInt (by omega), show (6 : Int32).toInt = 6 by decide, Int.bmod_eq_of_le (by omega) (by omega)]
  omega
section
variable {p : Program} {l : Launch} {e : Env} {s : State} {m : MethodId} {below : List Frame} {meth : Method} {c : Code} {D : va_G} {cy : Nat → ClassId} {de b L : Nat} {xs : Nat → Int32}
set_option maxRecDepth 100000 in
set_option maxHeartbeats 1000000 in
/-- the law's loop -/
theorem law_loop (C : Cx p l room_1 s m #[.ref b] meth c D cy s.heap.size code "RainIndexLaw" 7 ret 11 446 601024 7293034 de) (hN : NCS s) (hX : va_X b L xs s s.heap) (hb : b < s.heap.size) (hL : L ≤ 3072) {x mo ou : Nat} {ad : Nat → Nat} : ∀ (n j : Nat) (w : Wd) (T : Int32), j + n = 513 → (j = 0 ∨ 6 * j ≤ L) → IV w de x mo ou ad T j → G p l e room_1 s m #[.ref b] below meth c D cy s.heap.size 7 w (40 + 40 * j) (14000 + 2000 * j) 23 [(0, .ref b), (1, .ref x), (2, .ref mo), (3, .ref ou), (4, .int (nI (6 * j)))] [] (lw_Z below #[.ref b] s) := by
  intro n
  induction n with
  | zero =>
    intro j w T hn hj hi
    omega
  | succ n ih =>
    intro j w T hn hj hi
    refine g_iload C dL_23 rfl ?_
    refine g_aload_n C dL_25 rfl ?_
    refine g_slen C hX hb dL_26 ?_
    refine g_bipush C 6 dL_27 (by rfl) ?_
    refine g_isub C dL_29 ?_
    refine g_icmp_gt C 1751 dL_30 (by decide) (fun _ => ?_) (fun h => ?_)
    · refine g_iconst C 1 dL_1751 (by rfl) ?_
      exact g_lwret C (by omega) (by omega) dL_1752
    · have hj6 : 6 * j + 6 ≤ L := by
        rw [sub6 hL (by omega)] at h
        omega
      have e6 : nI (6 * j) + Int32.ofInt 6 = nI (6 * (j + 1)) := by
        rw [show Int32.ofInt 6 = nI 6 by decide, nI_ad, Nat.mul_succ]
      have next : ∀ (w' : Wd) (T' : Int32), IV w' de x mo ou ad T' (j + 1) → G p l e room_1 s m #[.ref b] below meth c D cy s.heap.size 7 w' (40 + 40 * j + 40) (14000 + 2000 * j + 2000) 1745 [(0, .ref b), (1, .ref x), (2, .ref mo), (3, .ref ou), (4, .int (nI (6 * j)))] [] (lw_Z below #[.ref b] s) := fun w' T' h' => by
        refine g_iinc C dL_1745 rfl e6 (by decide) ?_
        refine g_goto C 23 dL_1748 (by decide) ?_
        exact g_lv2 [(0, .ref b), (1, .ref x), (2, .ref mo), (3, .ref ou), (4, .int (nI (6 * (j + 1))))] rfl (g_wid (40 + 40 * (j + 1)) (14000 + 2000 * (j + 1)) (by omega) (by omega) (ih (j + 1) w' T' (by omega) (Or.inr (by omega)) h'))
      refine g_aload_n C dL_33 rfl ?_
      refine g_iload C dL_34 rfl ?_
      refine g_sld C hX hb (6 * j) rfl (by omega) (by omega) dL_36 ?_
      refine g_bipush C 31 dL_37 (by rfl) ?_
      refine g_iand C dL_39 ?_
      generalize xs (6 * j) &&& 31 = v
      by_cases sw_0 : v.toInt = 0
      · exact g_tabIn C 148 dL_40 sw_0 (by decide) (by decide) rfl (by decide) (case_station C hN hX hb hL hj6 hi (by omega) (by omega) next)
      by_cases sw_1 : v.toInt = 1
      · exact g_tabIn C 216 dL_40 sw_1 (by decide) (by decide) rfl (by decide) (case_rain C hN hX hb hL hj6 hi (by omega) (by omega) next)
      by_cases sw_2 : v.toInt = 2
      · exact g_tabIn C 296 dL_40 sw_2 (by decide) (by decide) rfl (by decide) (case_pass C hN hX hb hL hj6 hi (by omega) (by omega) next)
      by_cases sw_3 : v.toInt = 3
      · exact g_tabIn C 352 dL_40 sw_3 (by decide) (by decide) rfl (by decide) (case_phase C hN hX hb hL hj6 hi (by omega) (by omega) next)
      by_cases sw_4 : v.toInt = 4
      · exact g_tabIn C 472 dL_40 sw_4 (by decide) (by decide) rfl (by decide) (case_product C hN hX hb hL hj6 hi (by omega) (by omega) next)
      by_cases sw_5 : v.toInt = 5
      · exact g_tabIn C 528 dL_40 sw_5 (by decide) (by decide) rfl (by decide) (case_farm C hN hX hb hL hj6 hi (by omega) (by omega) next)
      by_cases sw_6 : v.toInt = 6
      · exact g_tabIn C 596 dL_40 sw_6 (by decide) (by decide) rfl (by decide) (case_lend C hN hX hb hL hj6 hi (by omega) (by omega) next)
      by_cases sw_7 : v.toInt = 7
      · exact g_tabIn C 664 dL_40 sw_7 (by decide) (by decide) rfl (by decide) (case_loading C hN hX hb hL hj6 hi (by omega) (by omega) next)
      by_cases sw_8 : v.toInt = 8
      · exact g_tabIn C 720 dL_40 sw_8 (by decide) (by decide) rfl (by decide) (case_layer C hN hX hb hL hj6 hi (by omega) (by omega) next)
      by_cases sw_9 : v.toInt = 9
      · exact g_tabIn C 788 dL_40 sw_9 (by decide) (by decide) rfl (by decide) (case_sell C hN hX hb hL hj6 hi (by omega) (by omega) next)
      by_cases sw_10 : v.toInt = 10
      · exact g_tabIn C 880 dL_40 sw_10 (by decide) (by decide) rfl (by decide) (case_settle C hN hX hb hL hj6 hi (by omega) (by omega) next)
      by_cases sw_11 : v.toInt = 11
      · exact g_tabIn C 936 dL_40 sw_11 (by decide) (by decide) rfl (by decide) (case_loss C hN hX hb hL hj6 hi (by omega) (by omega) next)
      by_cases sw_12 : v.toInt = 12
      · exact g_tabIn C 1016 dL_40 sw_12 (by decide) (by decide) rfl (by decide) (case_complain C hN hX hb hL hj6 hi (by omega) (by omega) next)
      by_cases sw_13 : v.toInt = 13
      · exact g_tabIn C 1084 dL_40 sw_13 (by decide) (by decide) rfl (by decide) (case_day C hN hX hb hL hj6 hi (by omega) (by omega) next)
      by_cases sw_14 : v.toInt = 14
      · exact g_tabIn C 1097 dL_40 sw_14 (by decide) (by decide) rfl (by decide) (case_filled C hN hX hb hL hj6 hi (by omega) (by omega) next)
      by_cases sw_15 : v.toInt = 15
      · exact g_tabIn C 1177 dL_40 sw_15 (by decide) (by decide) rfl (by decide) (case_onset C hN hX hb hL hj6 hi (by omega) (by omega) next)
      by_cases sw_16 : v.toInt = 16
      · exact g_tabIn C 1257 dL_40 sw_16 (by decide) (by decide) rfl (by decide) (case_index C hN hX hb hL hj6 hi (by omega) (by omega) next)
      by_cases sw_17 : v.toInt = 17
      · exact g_tabIn C 1349 dL_40 sw_17 (by decide) (by decide) rfl (by decide) (case_rate C hN hX hb hL hj6 hi (by omega) (by omega) next)
      by_cases sw_18 : v.toInt = 18
      · exact g_tabIn C 1429 dL_40 sw_18 (by decide) (by decide) rfl (by decide) (case_priced C hN hX hb hL hj6 hi (by omega) (by omega) next)
      by_cases sw_19 : v.toInt = 19
      · exact g_tabIn C 1497 dL_40 sw_19 (by decide) (by decide) rfl (by decide) (case_cover C hN hX hb hL hj6 hi (by omega) (by omega) next)
      by_cases sw_20 : v.toInt = 20
      · exact g_tabIn C 1565 dL_40 sw_20 (by decide) (by decide) rfl (by decide) (case_dueAnew C hN hX hb hL hj6 hi (by omega) (by omega) next)
      by_cases sw_21 : v.toInt = 21
      · exact g_tabIn C 1621 dL_40 sw_21 (by decide) (by decide) rfl (by decide) (case_told C hN hX hb hL hj6 hi (by omega) (by omega) next)
      by_cases sw_22 : v.toInt = 22
      · exact g_tabIn C 1689 dL_40 sw_22 (by decide) (by decide) rfl (by decide) (case_books C hN hX hb hL hj6 hi (by omega) (by omega) next)
      exact g_tabOut C 1745 dL_40 (by omega) (by decide) (g_wid (40 + 40 * j + 40) (14000 + 2000 * j + 2000) (by omega) (by omega) (next _ _ (iv_skip hi)))
set_option maxRecDepth 100000 in
set_option maxHeartbeats 1000000 in
/-- the law, from its entry -/
theorem law_start (C : Cx p l room_1 s m #[.ref b] meth c D cy s.heap.size code "RainIndexLaw" 7 ret 11 446 601024 7293034 de) (hN : NCS s) (hX : va_X b L xs s s.heap) (hb : b < s.heap.size) (hL : L ≤ 3072) : G p l e room_1 s m #[.ref b] below meth c D cy s.heap.size 7 w0 0 0 0 [(0, .ref b)] [] (lw_Z below #[.ref b] s) := by
  refine g_new C cls_10 dv_10 11 rfl k_27 k_28 k_1 (by decide) (by decide) dL_0 (fun x hx0 hxd => ?_)
  refine g_dup C dL_3 rfl ?_
  refine g_callI C mt_X9_init [] (c_X9_init de (nw w0 x 11 0) x nw_kd0 (fun _ => 0) (fun _ => 0) (fun _ => 0) (fun _ => 0) (fun _ => 0) (fun _ => 0) (fun _ _ => 0) (fun _ _ => []) rfl) k_29 rfl rfl (Nat.le_of_ble_eq_true rfl) (by decide) (by decide) (by decide) (by decide) dL_4 (fun r1 w1 hp1 => ?_)
  obtain ⟨rfl, ca, h1, hB1, -⟩ := hp1
  refine g_astore_n C dL_7 (by decide) ?_
  refine g_new C cls_11 dv_11 12 rfl k_909 k_910 k_10 (by decide) (by decide) dL_8 (fun mo hm0 hmd => ?_)
  refine g_dup C dL_11 rfl ?_
  refine g_callI C mt_X10_init [] (c_X10_init de (nw w1 mo 12 0) mo nw_kd0 (fun k => if_pos rfl)) k_911 rfl rfl (Nat.le_of_ble_eq_true rfl) (by decide) (by decide) (by decide) (by decide) dL_12 (fun r2 w2 hp2 => ?_)
  obtain ⟨rfl, ad, f, hr, hf⟩ := hp2
  refine g_astore_n C dL_15 (by decide) ?_
  refine g_iconst C 1 dL_16 (by rfl) ?_
  refine g_newJ C 2994 1 rfl k_1188 (by decide) (by decide) (by decide) (by decide) (by decide) dL_17 (fun ou ho0 hod => ?_)
  refine g_astore_n C dL_19 (by decide) ?_
  refine g_iconst C 0 dL_20 (by rfl) ?_
  refine g_istore C dL_21 (by decide) ?_
  exact g_lv2 [(0, .ref b), (1, .ref x), (2, .ref mo), (3, .ref ou), (4, .int (nI (6 * 0)))] rfl (g_wid (40 + 40 * 0) (14000 + 2000 * 0) (by decide) (by decide) (law_loop C hN hX hb hL 513 0 _ 0 rfl (Or.inl rfl) (iv_first h1 hB1 hm0 hr hf ho0)))
end
/-- from the entry, for every script, the law comes to its end with true -/
theorem whole_start {p : Program} {e : Env} {s : State} {m : MethodId} {below : List Frame} {meth : Method} {c : Code} (l : Launch) (hflags : l.flags = flags0) {b L : Nat} {xs : Nat → Int32} (hL : L ≤ 3072) (C0 : lw_At p s m meth c b L xs) : W p l e room_1 s m #[Value.ref b] below meth c s.heap [] 0 0 (lw_Z below #[Value.ref b] s) (entryFrame m ([Value.ref b] : List Value).toArray 7) := by
  obtain ⟨D, cy, de, hK, hE, hN⟩ := env_start C0
  obtain ⟨hx, hb, hr, hml, hown, hts, hX, hbl, hlocks, hgv⟩ := C0
  have C : Cx p l room_1 s m #[Value.ref b] meth c D cy s.heap.size code "RainIndexLaw" 7 ret 11 446 601024 7293034 de := ⟨hx, hb, hml, hown, fun w hw => hts w (List.mem_filter.mp hw).1, hlocks, hr, hK, hE, rfl, Nat.le_refl _, by first | (unfold Launch.stackTraces; rw [hflags]; decide +kernel) | (simp only [Launch.stackTraces, hflags]; decide +kernel)⟩
  rw [lg_entry_eq]
  exact law_start C hN hX hbl hL s.heap [] _ (fun a h => absurd rfl h) va_S.rf (lv_entry ([.ref b]) (n := 7) (Nat.le_of_ble_eq_true rfl))
end LOOP60
