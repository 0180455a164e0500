section RATES13
theorem sumF_congr {f g : Nat → Int32} {a : Nat} : ∀ {n : Nat}, (∀ j, j < 60 → f j = g j) → a + n ≤ 60 → sumF f a n = sumF g a n
  | 0, _, _ => rfl
  | n + 1, h, hn => by rw [sumF, sumF, sumF_congr (n := n) h (by omega), h (a + n) (by omega)]
theorem dryN_congr {f g : Nat → Int32} {a : Nat} : ∀ {n : Nat}, (∀ j, j < 60 → f j = g j) → a + n ≤ 60 → dryN f a n = dryN g a n
  | 0, _, _ => rfl
  | n + 1, h, hn => by rw [dryN, dryN, dryN_congr (n := n) h (by omega), h (a + n) (by omega)]
theorem okD_congr {f g : Nat → Int32} {d : Nat} (h : ∀ j, j < 60 → f j = g j) (hd : d < 60) : okD f d = okD g d := by
  unfold okD
  rw [sumF_congr h (by omega), dryN_congr h (by omega)]
theorem begO_congr {f g : Nat → Int32} (h : ∀ j, j < 60 → f j = g j) : ∀ k, k ≤ 60 → begO f k = begO g k
  | 0, _ => rfl
  | k + 1, hk => by rw [begO, begO, okD_congr h (by omega), begO_congr h k (by omega)]
theorem stN_congr {f g : Nat → Int32} (h : ∀ j, j < 60 → f j = g j) : stN f = stN g := by unfold stN; rw [begO_congr h 58 (by omega)]
theorem lookV_congr {f g : Nat → Int32} {dry : Int32} {days fr : Nat} (h : ∀ j, j < 60 → f j = g j) : lookV f dry days fr = lookV g dry days fr := by
  unfold lookV
  by_cases h60 : 60 ≤ fr
  · rw [if_pos h60, if_pos h60]
  · rw [if_neg h60, if_neg h60, sumF_congr h (by omega), dryN_congr h (by omega)]
theorem ratV_congr {f g : Nat → Int32} {dN : Nat → Nat} {dr tr ex wt : Nat → Int32} (h : ∀ j, j < 60 → f j = g j) : ∀ i, ratV f dN dr tr ex wt i = ratV g dN dr tr ex wt i
  | 0 => rfl
  | i + 1 => by rw [ratV, ratV, ratV_congr h i, lookV_congr h, stN_congr h]
theorem rateV_congr {f g : Nat → Int32} {n : Nat} {dN : Nat → Nat} {dr tr ex wt : Nat → Int32} (h : ∀ j, j < 60 → f j = g j) : rateV f n dN dr tr ex wt = rateV g n dN dr tr ex wt := by unfold rateV; rw [ratV_congr h]
/-- a season's row as it was known when n tellings had come -/
def rowV (nS : Nat) (xs ys : Nat → Int32) (ch : Nat → Nat → List (Nat × Int32)) (kn : Int32) (n se s0 : Nat) : Nat → Int32 := fun j => rainV nS xs ys (fun k => datV (ch k (60 * se + j)) kn n) s0
def sumS (f : Nat → Int32) : Nat → Int32
  | 0 => 0
  | n + 1 => sumS f n + f n
def prcV (rt : Nat → Int32) (m : Nat) : Int32 := if m = 0 then 100 else sumS rt m / nI m
def priV (sum rate load : Int32) : Int32 := sum * rate / 1000 + sum * rate / 1000 * load / 100
def shrV (price sum : Int32) : Int32 := price * (if 500 < sum then 500 else sum) / sum / 2
/-- a product -/
def PD9 (w : Wd) (de pr pl n : Nat) (el dN : Nat → Nat) (dr tr ex wt : Nat → Int32) : Prop := kd w pr = 6 ∧ fR w 6 1 pr = some pl ∧ PHs w de pl n el dN dr tr ex wt
theorem dX4_startOf_0 : decode cX4_startOf 0 = .ok (.aload_n 2, 1) := by decide +kernel
theorem dX4_startOf_1 : decode cX4_startOf 1 = .ok (.invokevirtual 25, 3) := by decide +kernel
theorem dX4_startOf_4 : decode cX4_startOf 4 = .ok (.istore_n 3, 1) := by decide +kernel
theorem dX4_startOf_5 : decode cX4_startOf 5 = .ok (.iload_n 3, 1) := by decide +kernel
theorem dX4_startOf_6 : decode cX4_startOf 6 = .ok (.iconst (-1), 1) := by decide +kernel
theorem dX4_startOf_7 : decode cX4_startOf 7 = .ok (.if_icmp .ne 8, 3) := by decide +kernel
theorem dX4_startOf_10 : decode cX4_startOf 10 = .ok (.bipush 60, 2) := by decide +kernel
theorem dX4_startOf_12 : decode cX4_startOf 12 = .ok (.goto 6, 3) := by decide +kernel
theorem dX4_startOf_15 : decode cX4_startOf 15 = .ok (.iload_n 3, 1) := by decide +kernel
theorem dX4_startOf_16 : decode cX4_startOf 16 = .ok (.iconst 1, 1) := by decide +kernel
theorem dX4_startOf_17 : decode cX4_startOf 17 = .ok (.iadd, 1) := by decide +kernel
theorem dX4_startOf_18 : decode cX4_startOf 18 = .ok (.istore 4, 2) := by decide +kernel
theorem dX4_startOf_20 : decode cX4_startOf 20 = .ok (.iconst 0, 1) := by decide +kernel
theorem dX4_startOf_21 : decode cX4_startOf 21 = .ok (.istore 5, 2) := by decide +kernel
theorem dX4_startOf_23 : decode cX4_startOf 23 = .ok (.iload 5, 2) := by decide +kernel
theorem dX4_startOf_25 : decode cX4_startOf 25 = .ok (.iload_n 1, 1) := by decide +kernel
theorem dX4_startOf_26 : decode cX4_startOf 26 = .ok (.if_icmp .ge 41, 3) := by decide +kernel
theorem dX4_startOf_29 : decode cX4_startOf 29 = .ok (.iload 5, 2) := by decide +kernel
theorem dX4_startOf_31 : decode cX4_startOf 31 = .ok (.aload_n 0, 1) := by decide +kernel
theorem dX4_startOf_32 : decode cX4_startOf 32 = .ok (.getfield 12, 3) := by decide +kernel
theorem dX4_startOf_35 : decode cX4_startOf 35 = .ok (.invokevirtual 31, 3) := by decide +kernel
theorem dX4_startOf_38 : decode cX4_startOf 38 = .ok (.if_icmp .ge 29, 3) := by decide +kernel
theorem dX4_startOf_41 : decode cX4_startOf 41 = .ok (.iload 4, 2) := by decide +kernel
theorem dX4_startOf_43 : decode cX4_startOf 43 = .ok (.aload_n 0, 1) := by decide +kernel
theorem dX4_startOf_44 : decode cX4_startOf 44 = .ok (.getfield 12, 3) := by decide +kernel
theorem dX4_startOf_47 : decode cX4_startOf 47 = .ok (.iload 5, 2) := by decide +kernel
theorem dX4_startOf_49 : decode cX4_startOf 49 = .ok (.invokevirtual 34, 3) := by decide +kernel
theorem dX4_startOf_52 : decode cX4_startOf 52 = .ok (.checkcast 38, 3) := by decide +kernel
theorem dX4_startOf_55 : decode cX4_startOf 55 = .ok (.getfield 40, 3) := by decide +kernel
theorem dX4_startOf_58 : decode cX4_startOf 58 = .ok (.iadd, 1) := by decide +kernel
theorem dX4_startOf_59 : decode cX4_startOf 59 = .ok (.istore 4, 2) := by decide +kernel
theorem dX4_startOf_61 : decode cX4_startOf 61 = .ok (.iinc 5 1, 3) := by decide +kernel
theorem dX4_startOf_64 : decode cX4_startOf 64 = .ok (.goto (-41), 3) := by decide +kernel
theorem dX4_startOf_67 : decode cX4_startOf 67 = .ok (.iload 4, 2) := by decide +kernel
theorem dX4_startOf_69 : decode cX4_startOf 69 = .ok (.ireturn, 1) := by decide +kernel
set_option maxHeartbeats 4000000 in
set_option maxRecDepth 100000 in
theorem c_X4_startOf (de : Nat) (w : Wd) (pr pl n : Nat) (el dN : Nat → Nat) (dr tr ex wt : Nat → Int32) (hp : PD9 w de pr pl n el dN dr tr ex wt) (a ta : Nat) (hs : SR9 w a ta) (ph : Nat) (hph : ph ≤ n) : Ct yX4_startOf cX4_startOf 6 (some .int) 3 67 0 0 de [.ref pr, .int (nI ph), .ref a] w (fun r w' => r = some (.int (nI (stN (aI w 1010 ta) + dSum dN ph))) ∧ w = w') := by
  refine Ct.mk (by decide +kernel) [(0, .ref pr), (1, .int (nI ph)), (2, .ref a)] rfl (Nat.le_of_ble_eq_true rfl) ?_
  intro p l e R s m args below meth c D cy z C hnm
  obtain ⟨hpr, hpl, hR, hn3, hel⟩ := id hp
  have hst9 := stN_le (aI w 1010 ta)
  have hds9 := dSum_le (dN := dN) (n := n) (fun i hi => (hel i hi).2.2.1)
  have loop : ∀ (k i : Nat), i + k = ph → G p l e R s m args below meth c D cy z 6 w 0 0 23 [(0, .ref pr), (1, .int (nI ph)), (4, .int (nI (stN (aI w 1010 ta) + dSum dN i))), (5, .int (nI i))] [] (QM below args s D cy z (fun r w' => r = some (.int (nI (stN (aI w 1010 ta) + dSum dN ph))) ∧ w = w') 0 0) := by
    intro k
    induction k with
    | zero =>
      intro i hik
      refine g_iload C dX4_startOf_23 rfl ?_
      refine g_iload_n C dX4_startOf_25 rfl ?_
      refine g_icmp_ge C 67 dX4_startOf_26 (by decide) (fun c_26 => ?_) (fun c_26 => ?_)
      · refine g_iload C dX4_startOf_67 rfl ?_
        refine g_iret C rfl rfl (by decide) (by decide) dX4_startOf_69 ?_
        exact ⟨by rw [show i = ph by omega], rfl⟩
      · exact absurd (nI_nle_of c_26 (by omega) (by omega)) (by omega)
    | succ k ih =>
      intro i hik
      have hi : i < n := by omega
      refine g_iload C dX4_startOf_23 rfl ?_
      refine g_iload_n C dX4_startOf_25 rfl ?_
      refine g_icmp_ge C 67 dX4_startOf_26 (by decide) (fun c_26 => ?_) (fun c_26 => ?_)
      · first
        | exact absurd (nI_le_of c_26 (by omega) (by omega)) (by omega)
        | exact absurd (nI_le_of c_38 (by omega) (by omega)) (by omega)
      · refine g_iload C dX4_startOf_29 rfl ?_
        refine g_aload_n C dX4_startOf_31 rfl ?_
        refine g_getR (b := pl) C cls_5 6 1 hpr hpl rfl k_122 dX4_startOf_32 ?_
        refine g_callV C cls_0 101 mt_Jx4a65c_size_8abf5 [] (c_sz de w 101 1053 KL_ph pl n el hR) hR.1 (by decide) k_665 rfl rfl (Nat.le_of_ble_eq_true rfl) (by decide) (by decide) (by decide) (by decide) dX4_startOf_35 (fun r_35 w_35 hp_35 => ?_)
        obtain ⟨rfl, rfl⟩ := hp_35
        refine g_icmp_ge C 67 dX4_startOf_38 (by decide) (fun c_38 => ?_) (fun c_38 => ?_)
        · first
          | exact absurd (nI_le_of c_26 (by omega) (by omega)) (by omega)
          | exact absurd (nI_le_of c_38 (by omega) (by omega)) (by omega)
        · refine g_iload C dX4_startOf_41 rfl ?_
          refine g_aload_n C dX4_startOf_43 rfl ?_
          refine g_getR (b := pl) C cls_5 6 1 hpr hpl rfl k_122 dX4_startOf_44 ?_
          refine g_iload C dX4_startOf_47 rfl ?_
          refine g_callV C cls_0 101 mt_Jx4a65c_get_915e3 [.int (nI i)] (c_Jx4a65c_get_915e3 de w 101 1053 KL_ph pl n i el hR hi) hR.1 (by decide) k_666 rfl rfl (Nat.le_of_ble_eq_true rfl) (by decide) (by decide) (by decide) (by decide) dX4_startOf_49 (fun r_49 w_49 hp_49 => ?_)
          obtain ⟨rfl, rfl⟩ := hp_49
          refine g_cast C cls_4 5 (hel i hi).1 (by decide) k_667 dX4_startOf_52 ?_
          refine g_getI C cls_4 5 0 (hel i hi).1 rfl k_473 dX4_startOf_55 ?_
          refine g_iadd C dX4_startOf_58 ?_
          rw [(hel i hi).2.1, nI_add, show stN (aI w 1010 ta) + dSum dN i + dN i = stN (aI w 1010 ta) + dSum dN (i + 1) from Nat.add_assoc _ _ _]
          refine g_istore C dX4_startOf_59 (by decide) ?_
          refine g_iinc C dX4_startOf_61 rfl (nI_1 i) (by decide) ?_
          refine g_goto C 23 dX4_startOf_64 (by decide) ?_
          have h9 := ih (i + 1) (by omega)
          exact g_lv2 [(0, .ref pr), (1, .int (nI ph)), (4, .int (nI (stN (aI w 1010 ta) + dSum dN (i + 1)))), (5, .int (nI (i + 1)))] rfl h9
  refine g_aload_n C dX4_startOf_0 rfl ?_
  refine g_callV C cls_6 7 mt_X5_start [] (c_X5_start de w a ta hs) hs.1 (by decide) k_652 rfl rfl (Nat.le_of_ble_eq_true rfl) (by decide) (by decide) (by decide) (by decide) dX4_startOf_1 (fun r_1 w_1 hp_1 => ?_)
  obtain ⟨rfl, rfl⟩ := hp_1
  refine g_istore_n C dX4_startOf_4 (by decide) ?_
  refine g_iload_n C dX4_startOf_5 rfl ?_
  refine g_iconst C (-1) dX4_startOf_6 (by rfl) ?_
  refine g_icmp_ne C 15 dX4_startOf_7 (by decide) (fun c_7 => ?_) (fun c_7 => ?_)
  · refine g_iload_n C dX4_startOf_15 rfl ?_
    refine g_iconst C 1 dX4_startOf_16 (by rfl) ?_
    refine g_iadd C dX4_startOf_17 ?_
    refine g_istore C dX4_startOf_18 (by decide) ?_
    refine g_iconst C 0 dX4_startOf_20 (by rfl) ?_
    refine g_istore C dX4_startOf_21 (by decide) ?_
    first
    | (rw [stN_s c_7]; exact g_lv2 [(0, .ref pr), (1, .int (nI ph)), (4, .int (nI (stN (aI w 1010 ta) + dSum dN 0))), (5, .int (nI 0))] rfl (loop ph 0 (by omega)))
    | (have e9 : (60 : Int32) = nI (stN (aI w 1010 ta) + dSum dN 0) := (by rw [stN_60 c_7]; rfl); exact g_lv2 [(0, .ref pr), (1, .int (nI ph)), (4, .int (nI (stN (aI w 1010 ta) + dSum dN 0))), (5, .int (nI 0))] (by rw [← e9]; rfl) (loop ph 0 (by omega)))
  · refine g_bipush C 60 dX4_startOf_10 (by rfl) ?_
    refine g_goto C 18 dX4_startOf_12 (by decide) ?_
    refine g_istore C dX4_startOf_18 (by decide) ?_
    refine g_iconst C 0 dX4_startOf_20 (by rfl) ?_
    refine g_istore C dX4_startOf_21 (by decide) ?_
    first
    | (rw [stN_s c_7]; exact g_lv2 [(0, .ref pr), (1, .int (nI ph)), (4, .int (nI (stN (aI w 1010 ta) + dSum dN 0))), (5, .int (nI 0))] rfl (loop ph 0 (by omega)))
    | (have e9 : (60 : Int32) = nI (stN (aI w 1010 ta) + dSum dN 0) := (by rw [stN_60 c_7]; rfl); exact g_lv2 [(0, .ref pr), (1, .int (nI ph)), (4, .int (nI (stN (aI w 1010 ta) + dSum dN 0))), (5, .int (nI 0))] (by rw [← e9]; rfl) (loop ph 0 (by omega)))
theorem dX4_rateIn_0 : decode cX4_rateIn 0 = .ok (.aload_n 0, 1) := by decide +kernel
theorem dX4_rateIn_1 : decode cX4_rateIn 1 = .ok (.iconst 0, 1) := by decide +kernel
theorem dX4_rateIn_2 : decode cX4_rateIn 2 = .ok (.aload_n 1, 1) := by decide +kernel
theorem dX4_rateIn_3 : decode cX4_rateIn 3 = .ok (.invokevirtual 43, 3) := by decide +kernel
theorem dX4_rateIn_6 : decode cX4_rateIn 6 = .ok (.istore_n 2, 1) := by decide +kernel
theorem dX4_rateIn_7 : decode cX4_rateIn 7 = .ok (.iconst 0, 1) := by decide +kernel
theorem dX4_rateIn_8 : decode cX4_rateIn 8 = .ok (.istore_n 3, 1) := by decide +kernel
theorem dX4_rateIn_9 : decode cX4_rateIn 9 = .ok (.iconst 0, 1) := by decide +kernel
theorem dX4_rateIn_10 : decode cX4_rateIn 10 = .ok (.istore 4, 2) := by decide +kernel
theorem dX4_rateIn_12 : decode cX4_rateIn 12 = .ok (.iload 4, 2) := by decide +kernel
theorem dX4_rateIn_14 : decode cX4_rateIn 14 = .ok (.aload_n 0, 1) := by decide +kernel
theorem dX4_rateIn_15 : decode cX4_rateIn 15 = .ok (.getfield 12, 3) := by decide +kernel
theorem dX4_rateIn_18 : decode cX4_rateIn 18 = .ok (.invokevirtual 31, 3) := by decide +kernel
theorem dX4_rateIn_21 : decode cX4_rateIn 21 = .ok (.if_icmp .ge 55, 3) := by decide +kernel
theorem dX4_rateIn_24 : decode cX4_rateIn 24 = .ok (.aload_n 0, 1) := by decide +kernel
theorem dX4_rateIn_25 : decode cX4_rateIn 25 = .ok (.getfield 12, 3) := by decide +kernel
theorem dX4_rateIn_28 : decode cX4_rateIn 28 = .ok (.iload 4, 2) := by decide +kernel
theorem dX4_rateIn_30 : decode cX4_rateIn 30 = .ok (.invokevirtual 34, 3) := by decide +kernel
theorem dX4_rateIn_33 : decode cX4_rateIn 33 = .ok (.checkcast 38, 3) := by decide +kernel
theorem dX4_rateIn_36 : decode cX4_rateIn 36 = .ok (.astore 5, 2) := by decide +kernel
theorem dX4_rateIn_38 : decode cX4_rateIn 38 = .ok (.iload_n 3, 1) := by decide +kernel
theorem dX4_rateIn_39 : decode cX4_rateIn 39 = .ok (.aload 5, 2) := by decide +kernel
theorem dX4_rateIn_41 : decode cX4_rateIn 41 = .ok (.aload 5, 2) := by decide +kernel
theorem dX4_rateIn_43 : decode cX4_rateIn 43 = .ok (.aload_n 1, 1) := by decide +kernel
theorem dX4_rateIn_44 : decode cX4_rateIn 44 = .ok (.iload_n 2, 1) := by decide +kernel
theorem dX4_rateIn_45 : decode cX4_rateIn 45 = .ok (.invokevirtual 47, 3) := by decide +kernel
theorem dX4_rateIn_48 : decode cX4_rateIn 48 = .ok (.invokevirtual 51, 3) := by decide +kernel
theorem dX4_rateIn_51 : decode cX4_rateIn 51 = .ok (.aload 5, 2) := by decide +kernel
theorem dX4_rateIn_53 : decode cX4_rateIn 53 = .ok (.getfield 55, 3) := by decide +kernel
theorem dX4_rateIn_56 : decode cX4_rateIn 56 = .ok (.imul, 1) := by decide +kernel
theorem dX4_rateIn_57 : decode cX4_rateIn 57 = .ok (.bipush 100, 2) := by decide +kernel
theorem dX4_rateIn_59 : decode cX4_rateIn 59 = .ok (.idiv, 1) := by decide +kernel
theorem dX4_rateIn_60 : decode cX4_rateIn 60 = .ok (.iadd, 1) := by decide +kernel
theorem dX4_rateIn_61 : decode cX4_rateIn 61 = .ok (.istore_n 3, 1) := by decide +kernel
theorem dX4_rateIn_62 : decode cX4_rateIn 62 = .ok (.iload_n 2, 1) := by decide +kernel
theorem dX4_rateIn_63 : decode cX4_rateIn 63 = .ok (.aload 5, 2) := by decide +kernel
theorem dX4_rateIn_65 : decode cX4_rateIn 65 = .ok (.getfield 40, 3) := by decide +kernel
theorem dX4_rateIn_68 : decode cX4_rateIn 68 = .ok (.iadd, 1) := by decide +kernel
theorem dX4_rateIn_69 : decode cX4_rateIn 69 = .ok (.istore_n 2, 1) := by decide +kernel
theorem dX4_rateIn_70 : decode cX4_rateIn 70 = .ok (.iinc 4 1, 3) := by decide +kernel
theorem dX4_rateIn_73 : decode cX4_rateIn 73 = .ok (.goto (-61), 3) := by decide +kernel
theorem dX4_rateIn_76 : decode cX4_rateIn 76 = .ok (.iload_n 3, 1) := by decide +kernel
theorem dX4_rateIn_77 : decode cX4_rateIn 77 = .ok (.sipush 1000, 3) := by decide +kernel
theorem dX4_rateIn_80 : decode cX4_rateIn 80 = .ok (.invokestatic 58, 3) := by decide +kernel
theorem dX4_rateIn_83 : decode cX4_rateIn 83 = .ok (.ireturn, 1) := by decide +kernel
set_option maxHeartbeats 4000000 in
set_option maxRecDepth 100000 in
theorem c_X4_rateIn (de : Nat) (w : Wd) (pr pl n : Nat) (el dN : Nat → Nat) (dr tr ex wt : Nat → Int32) (hp : PD9 w de pr pl n el dN dr tr ex wt) (a ta : Nat) (hs : SR9 w a ta) : Ct yX4_rateIn cX4_rateIn 6 (some .int) 4 92 0 0 de [.ref pr, .ref a] w (fun r w' => r = some (.int (rateV (aI w 1010 ta) n dN dr tr ex wt)) ∧ w = w') := by
  refine Ct.mk (by decide +kernel) [(0, .ref pr), (1, .ref a)] rfl (Nat.le_of_ble_eq_true rfl) ?_
  intro p l e R s m args below meth c D cy z C hnm
  obtain ⟨hpr, hpl, hR, hn3, hel⟩ := id hp
  have hst9 := stN_le (aI w 1010 ta)
  have hds9 := dSum_le (dN := dN) (n := n) (fun i hi => (hel i hi).2.2.1)
  have loop : ∀ (k i : Nat), i + k = n → G p l e R s m args below meth c D cy z 6 w 0 0 12 [(0, .ref pr), (1, .ref a), (2, .int (nI (stN (aI w 1010 ta) + dSum dN i))), (3, .int (ratV (aI w 1010 ta) dN dr tr ex wt i)), (4, .int (nI i))] [] (QM below args s D cy z (fun r w' => r = some (.int (rateV (aI w 1010 ta) n dN dr tr ex wt)) ∧ w = w') 0 0) := by
    intro k
    induction k with
    | zero =>
      intro i hik
      refine g_iload C dX4_rateIn_12 rfl ?_
      refine g_aload_n C dX4_rateIn_14 rfl ?_
      refine g_getR (b := pl) C cls_5 6 1 hpr hpl rfl k_122 dX4_rateIn_15 ?_
      refine g_callV C cls_0 101 mt_Jx4a65c_size_8abf5 [] (c_sz de w 101 1053 KL_ph pl n el hR) hR.1 (by decide) k_665 rfl rfl (Nat.le_of_ble_eq_true rfl) (by decide) (by decide) (by decide) (by decide) dX4_rateIn_18 (fun r_18 w_18 hp_18 => ?_)
      obtain ⟨rfl, rfl⟩ := hp_18
      refine g_icmp_ge C 76 dX4_rateIn_21 (by decide) (fun c_21 => ?_) (fun c_21 => ?_)
      · refine g_iload_n C dX4_rateIn_76 rfl ?_
        refine g_sipush C 1000 dX4_rateIn_77 (by rfl) ?_
        refine g_min C k_678 k_364 k_18 k_365 (by decide) (Nat.le_of_ble_eq_true rfl) (by decide) (by decide) dX4_rateIn_80 ?_
        refine g_iret C rfl rfl (by decide) (by decide) dX4_rateIn_83 ?_
        exact ⟨by rw [show i = n by omega]; rfl, rfl⟩
      · exact absurd (nI_nle_of c_21 (by omega) (by omega)) (by omega)
    | succ k ih =>
      intro i hik
      have hi : i < n := by omega
      refine g_iload C dX4_rateIn_12 rfl ?_
      refine g_aload_n C dX4_rateIn_14 rfl ?_
      refine g_getR (b := pl) C cls_5 6 1 hpr hpl rfl k_122 dX4_rateIn_15 ?_
      refine g_callV C cls_0 101 mt_Jx4a65c_size_8abf5 [] (c_sz de w 101 1053 KL_ph pl n el hR) hR.1 (by decide) k_665 rfl rfl (Nat.le_of_ble_eq_true rfl) (by decide) (by decide) (by decide) (by decide) dX4_rateIn_18 (fun r_18 w_18 hp_18 => ?_)
      obtain ⟨rfl, rfl⟩ := hp_18
      refine g_icmp_ge C 76 dX4_rateIn_21 (by decide) (fun c_21 => ?_) (fun c_21 => ?_)
      · exact absurd (nI_le_of c_21 (by omega) (by omega)) (by omega)
      · refine g_aload_n C dX4_rateIn_24 rfl ?_
        refine g_getR (b := pl) C cls_5 6 1 hpr hpl rfl k_122 dX4_rateIn_25 ?_
        refine g_iload C dX4_rateIn_28 rfl ?_
        refine g_callV C cls_0 101 mt_Jx4a65c_get_915e3 [.int (nI i)] (c_Jx4a65c_get_915e3 de w 101 1053 KL_ph pl n i el hR hi) hR.1 (by decide) k_666 rfl rfl (Nat.le_of_ble_eq_true rfl) (by decide) (by decide) (by decide) (by decide) dX4_rateIn_30 (fun r_30 w_30 hp_30 => ?_)
        obtain ⟨rfl, rfl⟩ := hp_30
        refine g_cast C cls_4 5 (hel i hi).1 (by decide) k_667 dX4_rateIn_33 ?_
        refine g_astore C dX4_rateIn_36 (by decide) ?_
        refine g_iload_n C dX4_rateIn_38 rfl ?_
        refine g_aload C dX4_rateIn_39 rfl ?_
        refine g_aload C dX4_rateIn_41 rfl ?_
        refine g_aload_n C dX4_rateIn_43 rfl ?_
        refine g_iload_n C dX4_rateIn_44 rfl ?_
        refine g_callV C cls_4 5 mt_X3_look [.ref a, .int (nI (stN (aI w 1010 ta) + dSum dN i))] (c_X3_look de w (el i) a ta (dN i) (stN (aI w 1010 ta) + dSum dN i) hs (hel i hi).1 (hel i hi).2.1 (hel i hi).2.2.1 (by have := hds9 i (by omega); omega)) (hel i hi).1 (by decide) k_668 rfl rfl (Nat.le_of_ble_eq_true rfl) (by decide) (by decide) (by decide) (by decide) dX4_rateIn_45 (fun r_45 w_45 hp_45 => ?_)
        obtain ⟨rfl, rfl⟩ := hp_45
        rw [(hel i hi).2.2.2.1]
        refine g_callV C cls_4 5 mt_X3_pays [.int (lookV (aI w 1010 ta) (dr i) (dN i) (stN (aI w 1010 ta) + dSum dN i))] (c_X3_pays de w (el i) (lookV (aI w 1010 ta) (dr i) (dN i) (stN (aI w 1010 ta) + dSum dN i)) (hel i hi).1) (hel i hi).1 (by decide) k_674 rfl rfl (Nat.le_of_ble_eq_true rfl) (by decide) (by decide) (by decide) (by decide) dX4_rateIn_48 (fun r_48 w_48 hp_48 => ?_)
        obtain ⟨rfl, rfl⟩ := hp_48
        rw [(hel i hi).2.2.2.1, (hel i hi).2.2.2.2.1, (hel i hi).2.2.2.2.2.1]
        refine g_aload C dX4_rateIn_51 rfl ?_
        refine g_getI C cls_4 5 4 (hel i hi).1 rfl k_478 dX4_rateIn_53 ?_
        rw [(hel i hi).2.2.2.2.2.2]
        refine g_imul C dX4_rateIn_56 ?_
        refine g_bipush C 100 dX4_rateIn_57 (by rfl) ?_
        refine g_idiv C dX4_rateIn_59 (by decide) ?_
        refine g_iadd C dX4_rateIn_60 ?_
        refine g_istore_n C dX4_rateIn_61 (by decide) ?_
        refine g_iload_n C dX4_rateIn_62 rfl ?_
        refine g_aload C dX4_rateIn_63 rfl ?_
        refine g_getI C cls_4 5 0 (hel i hi).1 rfl k_473 dX4_rateIn_65 ?_
        refine g_iadd C dX4_rateIn_68 ?_
        rw [(hel i hi).2.1, nI_add, show stN (aI w 1010 ta) + dSum dN i + dN i = stN (aI w 1010 ta) + dSum dN (i + 1) from Nat.add_assoc _ _ _]
        refine g_istore_n C dX4_rateIn_69 (by decide) ?_
        refine g_iinc C dX4_rateIn_70 rfl (nI_1 i) (by decide) ?_
        refine g_goto C 12 dX4_rateIn_73 (by decide) ?_
        have h9 := ih (i + 1) (by omega)
        exact g_lv2 [(0, .ref pr), (1, .ref a), (2, .int (nI (stN (aI w 1010 ta) + dSum dN (i + 1)))), (3, .int (ratV (aI w 1010 ta) dN dr tr ex wt (i + 1))), (4, .int (nI (i + 1)))] rfl h9
  refine g_aload_n C dX4_rateIn_0 rfl ?_
  refine g_iconst C 0 dX4_rateIn_1 (by rfl) ?_
  refine g_aload_n C dX4_rateIn_2 rfl ?_
  refine g_callV C cls_5 6 mt_X4_startOf [.int (nI 0), .ref a] (c_X4_startOf de w pr pl n el dN dr tr ex wt hp a ta hs 0 (by omega)) hpr (by decide) k_648 rfl rfl (Nat.le_of_ble_eq_true rfl) (by decide) (by decide) (by decide) (by decide) dX4_rateIn_3 (fun r_3 w_3 hp_3 => ?_)
  obtain ⟨rfl, rfl⟩ := hp_3
  refine g_istore_n C dX4_rateIn_6 (by decide) ?_
  refine g_iconst C 0 dX4_rateIn_7 (by rfl) ?_
  refine g_istore_n C dX4_rateIn_8 (by decide) ?_
  refine g_iconst C 0 dX4_rateIn_9 (by rfl) ?_
  refine g_istore C dX4_rateIn_10 (by decide) ?_
  exact g_lv2 [(0, .ref pr), (1, .ref a), (2, .int (nI (stN (aI w 1010 ta) + dSum dN 0))), (3, .int (ratV (aI w 1010 ta) dN dr tr ex wt 0)), (4, .int (nI 0))] rfl (loop n 0 (by omega))
theorem dX9_rateBy_0 : decode cX9_rateBy 0 = .ok (.aload_n 0, 1) := by decide +kernel
theorem dX9_rateBy_1 : decode cX9_rateBy 1 = .ok (.getfield 19, 3) := by decide +kernel
theorem dX9_rateBy_4 : decode cX9_rateBy 4 = .ok (.aload_n 0, 1) := by decide +kernel
theorem dX9_rateBy_5 : decode cX9_rateBy 5 = .ok (.getfield 10, 3) := by decide +kernel
theorem dX9_rateBy_8 : decode cX9_rateBy 8 = .ok (.aload_n 1, 1) := by decide +kernel
theorem dX9_rateBy_9 : decode cX9_rateBy 9 = .ok (.iload_n 2, 1) := by decide +kernel
theorem dX9_rateBy_10 : decode cX9_rateBy 10 = .ok (.aload_n 3, 1) := by decide +kernel
theorem dX9_rateBy_11 : decode cX9_rateBy 11 = .ok (.getfield 147, 3) := by decide +kernel
theorem dX9_rateBy_14 : decode cX9_rateBy 14 = .ok (.iload 4, 2) := by decide +kernel
theorem dX9_rateBy_16 : decode cX9_rateBy 16 = .ok (.invokevirtual 278, 3) := by decide +kernel
theorem dX9_rateBy_19 : decode cX9_rateBy 19 = .ok (.aload_n 3, 1) := by decide +kernel
theorem dX9_rateBy_20 : decode cX9_rateBy 20 = .ok (.aload_n 0, 1) := by decide +kernel
theorem dX9_rateBy_21 : decode cX9_rateBy 21 = .ok (.getfield 19, 3) := by decide +kernel
theorem dX9_rateBy_24 : decode cX9_rateBy 24 = .ok (.invokevirtual 354, 3) := by decide +kernel
theorem dX9_rateBy_27 : decode cX9_rateBy 27 = .ok (.ireturn, 1) := by decide +kernel
set_option maxHeartbeats 4000000 in
set_option maxRecDepth 100000 in
theorem c_X9_rateBy (de : Nat) (w : Wd) (we sl nS : Nat) (stA laA : Nat → Nat) (xs ys : Nat → Int32) (ch : Nat → Nat → List (Nat × Int32)) (hw : WS9 w de we sl nS stA laA xs ys ch) (pr pl n : Nat) (el dN : Nat → Nat) (dr tr ex wt : Nat → Int32) (hp : PD9 w de pr pl n el dN dr tr ex wt) (x va ta : Nat) (hx : kd w x = 11) (hx0 : fR w 11 0 x = some we) (hx1 : fR w 11 1 x = some va) (hs : SR9 w va ta) (s0 se tl : Nat) (hs0 : s0 < nS) (hse : se < 20) (htl : tl < 100000) : Ct yX9_rateBy cX9_rateBy 5 (some .int) 5 119 0 0 de [.ref x, .ref (stA s0), .int (nI se), .ref pr, .int (nI tl)] w (fun r w' => r = some (.int (rateV (rowV nS xs ys ch (fI w 6 2 pr) tl se s0) n dN dr tr ex wt)) ∧ ∃ g, w' = stR w 1010 ta g) := by
  refine Ct.mk (by decide +kernel) [(0, .ref x), (1, .ref (stA s0)), (2, .int (nI se)), (3, .ref pr), (4, .int (nI tl))] rfl (Nat.le_of_ble_eq_true rfl) ?_
  intro p l e R s m args below meth c D cy z C hnm
  refine g_aload_n C dX9_rateBy_0 rfl ?_
  refine g_getR (b := va) C cls_10 11 1 hx hx1 rfl k_137 dX9_rateBy_1 ?_
  refine g_aload_n C dX9_rateBy_4 rfl ?_
  refine g_getR (b := we) C cls_10 11 0 hx hx0 rfl k_136 dX9_rateBy_5 ?_
  refine g_aload_n C dX9_rateBy_8 rfl ?_
  refine g_iload_n C dX9_rateBy_9 rfl ?_
  refine g_aload_n C dX9_rateBy_10 rfl ?_
  refine g_getI C cls_5 6 2 hp.1 rfl k_125 dX9_rateBy_11 ?_
  refine g_iload C dX9_rateBy_14 rfl ?_
  refine g_callV C cls_6 7 mt_X5_fill [.ref we, .ref (stA s0), .int (nI se), .int (fI w 6 2 pr), .int (nI tl)] (c_X5_fill de w va ta hs we sl nS stA laA xs ys ch hw s0 se tl (fI w 6 2 pr) hs0 hse htl) hs.1 (by decide) k_635 rfl rfl (Nat.le_of_ble_eq_true rfl) (by decide) (by decide) (by decide) (by decide) dX9_rateBy_16 (fun r_16 w_16 hp_16 => ?_)
  obtain ⟨rfl, g, rfl, hg⟩ := hp_16
  refine g_aload_n C dX9_rateBy_19 rfl ?_
  refine g_aload_n C dX9_rateBy_20 rfl ?_
  refine g_getR (b := va) C cls_10 11 1 hx hx1 rfl k_137 dX9_rateBy_21 ?_
  refine g_callV C cls_5 6 mt_X4_rateIn [.ref va] (c_X4_rateIn de (stR w 1010 ta g) pr pl n el dN dr tr ex wt hp va ta hs) hp.1 (by decide) k_644 rfl rfl (Nat.le_of_ble_eq_true rfl) (by decide) (by decide) (by decide) (by decide) dX9_rateBy_24 (fun r_24 w_24 hp_24 => ?_)
  obtain ⟨rfl, rfl⟩ := hp_24
  refine g_iret C rfl rfl (by decide) (by decide) dX9_rateBy_27 ?_
  exact ⟨congrArg (fun v => some (Value.int v)) (by rw [stR_at]; exact rateV_congr hg), g, rfl⟩
theorem dX9_pricesRate_0 : decode cX9_pricesRate 0 = .ok (.iconst 0, 1) := by decide +kernel
theorem dX9_pricesRate_1 : decode cX9_pricesRate 1 = .ok (.istore_n 3, 1) := by decide +kernel
theorem dX9_pricesRate_2 : decode cX9_pricesRate 2 = .ok (.iconst 0, 1) := by decide +kernel
theorem dX9_pricesRate_3 : decode cX9_pricesRate 3 = .ok (.istore 4, 2) := by decide +kernel
theorem dX9_pricesRate_5 : decode cX9_pricesRate 5 = .ok (.iconst 0, 1) := by decide +kernel
theorem dX9_pricesRate_6 : decode cX9_pricesRate 6 = .ok (.istore 5, 2) := by decide +kernel
theorem dX9_pricesRate_8 : decode cX9_pricesRate 8 = .ok (.iload 5, 2) := by decide +kernel
theorem dX9_pricesRate_10 : decode cX9_pricesRate 10 = .ok (.bipush 20, 2) := by decide +kernel
theorem dX9_pricesRate_12 : decode cX9_pricesRate 12 = .ok (.if_icmp .ge 41, 3) := by decide +kernel
theorem dX9_pricesRate_15 : decode cX9_pricesRate 15 = .ok (.aload_n 0, 1) := by decide +kernel
theorem dX9_pricesRate_16 : decode cX9_pricesRate 16 = .ok (.iload 5, 2) := by decide +kernel
theorem dX9_pricesRate_18 : decode cX9_pricesRate 18 = .ok (.invokevirtual 228, 3) := by decide +kernel
theorem dX9_pricesRate_21 : decode cX9_pricesRate 21 = .ok (.ifCond .eq 32, 3) := by decide +kernel
theorem dX9_pricesRate_24 : decode cX9_pricesRate 24 = .ok (.iinc 3 1, 3) := by decide +kernel
theorem dX9_pricesRate_27 : decode cX9_pricesRate 27 = .ok (.iload 4, 2) := by decide +kernel
theorem dX9_pricesRate_29 : decode cX9_pricesRate 29 = .ok (.aload_n 0, 1) := by decide +kernel
theorem dX9_pricesRate_30 : decode cX9_pricesRate 30 = .ok (.aload_n 1, 1) := by decide +kernel
theorem dX9_pricesRate_31 : decode cX9_pricesRate 31 = .ok (.iload 5, 2) := by decide +kernel
theorem dX9_pricesRate_33 : decode cX9_pricesRate 33 = .ok (.aload_n 2, 1) := by decide +kernel
theorem dX9_pricesRate_34 : decode cX9_pricesRate 34 = .ok (.aload_n 0, 1) := by decide +kernel
theorem dX9_pricesRate_35 : decode cX9_pricesRate 35 = .ok (.getfield 10, 3) := by decide +kernel
theorem dX9_pricesRate_38 : decode cX9_pricesRate 38 = .ok (.getfield 86, 3) := by decide +kernel
theorem dX9_pricesRate_41 : decode cX9_pricesRate 41 = .ok (.invokevirtual 304, 3) := by decide +kernel
theorem dX9_pricesRate_44 : decode cX9_pricesRate 44 = .ok (.iadd, 1) := by decide +kernel
theorem dX9_pricesRate_45 : decode cX9_pricesRate 45 = .ok (.istore 4, 2) := by decide +kernel
theorem dX9_pricesRate_47 : decode cX9_pricesRate 47 = .ok (.iinc 5 1, 3) := by decide +kernel
theorem dX9_pricesRate_50 : decode cX9_pricesRate 50 = .ok (.goto (-42), 3) := by decide +kernel
theorem dX9_pricesRate_53 : decode cX9_pricesRate 53 = .ok (.iload_n 3, 1) := by decide +kernel
theorem dX9_pricesRate_54 : decode cX9_pricesRate 54 = .ok (.ifCond .ne 8, 3) := by decide +kernel
theorem dX9_pricesRate_57 : decode cX9_pricesRate 57 = .ok (.bipush 100, 2) := by decide +kernel
theorem dX9_pricesRate_59 : decode cX9_pricesRate 59 = .ok (.goto 7, 3) := by decide +kernel
theorem dX9_pricesRate_62 : decode cX9_pricesRate 62 = .ok (.iload 4, 2) := by decide +kernel
theorem dX9_pricesRate_64 : decode cX9_pricesRate 64 = .ok (.iload_n 3, 1) := by decide +kernel
theorem dX9_pricesRate_65 : decode cX9_pricesRate 65 = .ok (.idiv, 1) := by decide +kernel
theorem dX9_pricesRate_66 : decode cX9_pricesRate 66 = .ok (.ireturn, 1) := by decide +kernel
theorem stR_stR {w : Wd} {K a : Nat} {g g1 : Nat → Int32} : stR (stR w K a g) K a g1 = stR w K a g1 := by
  have e : (stR (stR w K a g) K a g1).2.2.2.2.1 = (stR w K a g1).2.2.2.2.1 := by
    funext x y j
    show (if x = K ∧ y = a then g1 j else if x = K ∧ y = a then g j else w.2.2.2.2.1 x y j) = if x = K ∧ y = a then g1 j else w.2.2.2.2.1 x y j
    by_cases h : x = K ∧ y = a
    · rw [if_pos h, if_pos h]
    · rw [if_neg h, if_neg h, if_neg h]
  show (w.1, w.2.1, w.2.2.1, w.2.2.2.1, (stR (stR w K a g) K a g1).2.2.2.2.1, w.2.2.2.2.2) = stR w K a g1
  rw [e]
  rfl
set_option maxHeartbeats 4000000 in
set_option maxRecDepth 100000 in
theorem c_X9_pricesRate (de : Nat) (w : Wd) (we sl nS : Nat) (stA laA : Nat → Nat) (xs ys : Nat → Int32) (ch : Nat → Nat → List (Nat × Int32)) (hw : WS9 w de we sl nS stA laA xs ys ch) (pr pl n : Nat) (el dN : Nat → Nat) (dr tr ex wt : Nat → Int32) (hp : PD9 w de pr pl n el dN dr tr ex wt) (x va ta : Nat) (hx : kd w x = 11) (hx0 : fR w 11 0 x = some we) (hx1 : fR w 11 1 x = some va) (hs : SR9 w va ta) (s0 tl T : Nat) (hs0 : s0 < nS) (htl : tl < 100000) (htl0 : fI w 10 1 we = nI tl) (hT : fI w 11 8 x = nI T) (hT2 : T < 1200) : Ct yX9_pricesRate cX9_pricesRate 6 (some .int) 6 143 0 0 de [.ref x, .ref (stA s0), .ref pr] w (fun r w' => r = some (.int (prcV (fun se => rateV (rowV nS xs ys ch (fI w 6 2 pr) tl se s0) n dN dr tr ex wt) (T / 60))) ∧ ∃ g, w' = stR w 1010 ta g) := by
  refine Ct.mk (by decide +kernel) [(0, .ref x), (1, .ref (stA s0)), (2, .ref pr)] rfl (Nat.le_of_ble_eq_true rfl) ?_
  intro p l e R s m args below meth c D cy z C hnm
  obtain ⟨rt, hrt⟩ : ∃ rt : Nat → Int32, ∀ se, rt se = rateV (rowV nS xs ys ch (fI w 6 2 pr) tl se s0) n dN dr tr ex wt := ⟨_, fun _ => rfl⟩
  simp only [← hrt]
  obtain ⟨M, hM⟩ : ∃ M : Nat, M = T / 60 := ⟨_, rfl⟩
  have loop : ∀ (k i : Nat) (g : Nat → Int32), i + k = M → G p l e R s m args below meth c D cy z 6 (stR w 1010 ta g) 0 0 8 [(0, .ref x), (1, .ref (stA s0)), (2, .ref pr), (3, .int (nI i)), (4, .int (sumS rt i)), (5, .int (nI i))] [] (QM below args s D cy z (fun r w' => r = some (.int (prcV rt (T / 60))) ∧ ∃ g, w' = stR w 1010 ta g) 0 0) := by
    intro k
    induction k with
    | zero =>
      intro i g hik
      refine g_iload C dX9_pricesRate_8 rfl ?_
      refine g_bipush C 20 dX9_pricesRate_10 (by rfl) ?_
      refine g_icmp_ge C 53 dX9_pricesRate_12 (by decide) (fun c_12 => ?_) (fun c_12 => ?_)
      · refine g_iload_n C dX9_pricesRate_53 rfl ?_
        refine g_if_ne C 62 dX9_pricesRate_54 (by decide) (fun c_54 => ?_) (fun c_54 => ?_)
        · refine g_iload C dX9_pricesRate_62 rfl ?_
          refine g_iload_n C dX9_pricesRate_64 rfl ?_
          refine g_idiv C dX9_pricesRate_65 (fun z => c_54 z) ?_
          refine g_iret C rfl rfl (by decide) (by decide) dX9_pricesRate_66 ?_
          first
          | exact ⟨congrArg (fun v => some (Value.int v)) (by have e9 : i = 0 := by { by_cases e8 : i = 0; exact e8; exact absurd c_54 (nI_ne0 (by omega) (by omega)) }; rw [prcV, if_pos (by omega)]), g, rfl⟩
          | exact ⟨congrArg (fun v => some (Value.int v)) (by have e9 : ¬ T / 60 = 0 := fun z => c_54 (by rw [show i = 0 by omega]; rfl); rw [prcV, if_neg e9, ← hM, show i = M by omega]), g, rfl⟩
        · refine g_bipush C 100 dX9_pricesRate_57 (by rfl) ?_
          refine g_goto C 66 dX9_pricesRate_59 (by decide) ?_
          refine g_iret C rfl rfl (by decide) (by decide) dX9_pricesRate_66 ?_
          first
          | exact ⟨congrArg (fun v => some (Value.int v)) (by have e9 : i = 0 := by { by_cases e8 : i = 0; exact e8; exact absurd c_54 (nI_ne0 (by omega) (by omega)) }; rw [prcV, if_pos (by omega)]), g, rfl⟩
          | exact ⟨congrArg (fun v => some (Value.int v)) (by have e9 : ¬ T / 60 = 0 := fun z => c_54 (by rw [show i = 0 by omega]; rfl); rw [prcV, if_neg e9, ← hM, show i = M by omega]), g, rfl⟩
      · refine g_aload_n C dX9_pricesRate_15 rfl ?_
        refine g_iload C dX9_pricesRate_16 rfl ?_
        refine g_callV C cls_10 11 mt_X9_isOver [.int (nI i)] (c_X9_isOver de (stR w 1010 ta g) x hx (nI i)) hx (by decide) k_627 rfl rfl (Nat.le_of_ble_eq_true rfl) (by decide) (by decide) (by decide) (by decide) dX9_pricesRate_18 (fun r_18 w_18 hp_18 => ?_)
        obtain ⟨rfl, rfl⟩ := hp_18
        have hov : bI (decide ((nI i + 1) * 60 ≤ fI (stR w 1010 ta g) 11 8 x)) = bI (decide ((i + 1) * 60 ≤ T)) := by rw [show fI (stR w 1010 ta g) 11 8 x = nI T from hT, nI_1, show (60 : Int32) = nI 60 from rfl, pk_mul]; exact congrArg bI (decide_eq_decide.mpr (nI_leI (by omega) (by omega)))
        rw [hov]
        refine g_if_eq C 53 dX9_pricesRate_21 (by decide) (fun c_21 => ?_) (fun c_21 => ?_)
        · refine g_iload_n C dX9_pricesRate_53 rfl ?_
          refine g_if_ne C 62 dX9_pricesRate_54 (by decide) (fun c_54 => ?_) (fun c_54 => ?_)
          · refine g_iload C dX9_pricesRate_62 rfl ?_
            refine g_iload_n C dX9_pricesRate_64 rfl ?_
            refine g_idiv C dX9_pricesRate_65 (fun z => c_54 z) ?_
            refine g_iret C rfl rfl (by decide) (by decide) dX9_pricesRate_66 ?_
            first
            | exact ⟨congrArg (fun v => some (Value.int v)) (by have e9 : i = 0 := by { by_cases e8 : i = 0; exact e8; exact absurd c_54 (nI_ne0 (by omega) (by omega)) }; rw [prcV, if_pos (by omega)]), g, rfl⟩
            | exact ⟨congrArg (fun v => some (Value.int v)) (by have e9 : ¬ T / 60 = 0 := fun z => c_54 (by rw [show i = 0 by omega]; rfl); rw [prcV, if_neg e9, ← hM, show i = M by omega]), g, rfl⟩
          · refine g_bipush C 100 dX9_pricesRate_57 (by rfl) ?_
            refine g_goto C 66 dX9_pricesRate_59 (by decide) ?_
            refine g_iret C rfl rfl (by decide) (by decide) dX9_pricesRate_66 ?_
            first
            | exact ⟨congrArg (fun v => some (Value.int v)) (by have e9 : i = 0 := by { by_cases e8 : i = 0; exact e8; exact absurd c_54 (nI_ne0 (by omega) (by omega)) }; rw [prcV, if_pos (by omega)]), g, rfl⟩
            | exact ⟨congrArg (fun v => some (Value.int v)) (by have e9 : ¬ T / 60 = 0 := fun z => c_54 (by rw [show i = 0 by omega]; rfl); rw [prcV, if_neg e9, ← hM, show i = M by omega]), g, rfl⟩
        · exact absurd (of_decide_eq_true (bI_n0.mp c_21)) (by omega)
    | succ k ih =>
      intro i g hik
      refine g_iload C dX9_pricesRate_8 rfl ?_
      refine g_bipush C 20 dX9_pricesRate_10 (by rfl) ?_
      refine g_icmp_ge C 53 dX9_pricesRate_12 (by decide) (fun c_12 => ?_) (fun c_12 => ?_)
      · first
        | exact absurd (nI_le_of (a := 20) c_12 (by omega) (by omega)) (by omega)
        | exact absurd (of_decide_eq_false (bI_0.mp c_21)) (by omega)
      · refine g_aload_n C dX9_pricesRate_15 rfl ?_
        refine g_iload C dX9_pricesRate_16 rfl ?_
        refine g_callV C cls_10 11 mt_X9_isOver [.int (nI i)] (c_X9_isOver de (stR w 1010 ta g) x hx (nI i)) hx (by decide) k_627 rfl rfl (Nat.le_of_ble_eq_true rfl) (by decide) (by decide) (by decide) (by decide) dX9_pricesRate_18 (fun r_18 w_18 hp_18 => ?_)
        obtain ⟨rfl, rfl⟩ := hp_18
        have hov : bI (decide ((nI i + 1) * 60 ≤ fI (stR w 1010 ta g) 11 8 x)) = bI (decide ((i + 1) * 60 ≤ T)) := by rw [show fI (stR w 1010 ta g) 11 8 x = nI T from hT, nI_1, show (60 : Int32) = nI 60 from rfl, pk_mul]; exact congrArg bI (decide_eq_decide.mpr (nI_leI (by omega) (by omega)))
        rw [hov]
        refine g_if_eq C 53 dX9_pricesRate_21 (by decide) (fun c_21 => ?_) (fun c_21 => ?_)
        · first
          | exact absurd (nI_le_of (a := 20) c_12 (by omega) (by omega)) (by omega)
          | exact absurd (of_decide_eq_false (bI_0.mp c_21)) (by omega)
        · refine g_iinc C dX9_pricesRate_24 rfl (nI_1 i) (by decide) ?_
          refine g_iload C dX9_pricesRate_27 rfl ?_
          refine g_aload_n C dX9_pricesRate_29 rfl ?_
          refine g_aload_n C dX9_pricesRate_30 rfl ?_
          refine g_iload C dX9_pricesRate_31 rfl ?_
          refine g_aload_n C dX9_pricesRate_33 rfl ?_
          refine g_aload_n C dX9_pricesRate_34 rfl ?_
          refine g_getR (b := we) C cls_10 11 0 hx hx0 rfl k_136 dX9_pricesRate_35 ?_
          refine g_getI C cls_9 10 1 hw.1 rfl k_70 dX9_pricesRate_38 ?_
          rw [show fI (stR w 1010 ta g) 10 1 we = nI tl from htl0]
          refine g_callV C cls_10 11 mt_X9_rateBy [.ref (stA s0), .int (nI i), .ref pr, .int (nI tl)] (c_X9_rateBy de (stR w 1010 ta g) we sl nS stA laA xs ys ch hw pr pl n el dN dr tr ex wt hp x va ta hx hx0 hx1 hs s0 i tl hs0 (by omega) htl) hx (by decide) k_631 rfl rfl (Nat.le_of_ble_eq_true rfl) (by decide) (by decide) (by decide) (by decide) dX9_pricesRate_41 (fun r_41 w_41 hp_41 => ?_)
          obtain ⟨rfl, g1, rfl⟩ := hp_41
          rw [show fI (stR w 1010 ta g) 6 2 pr = fI w 6 2 pr from rfl, ← hrt i]
          refine g_iadd C dX9_pricesRate_44 ?_
          refine g_istore C dX9_pricesRate_45 (by decide) ?_
          refine g_iinc C dX9_pricesRate_47 rfl (nI_1 i) (by decide) ?_
          refine g_goto C 8 dX9_pricesRate_50 (by decide) ?_
          have h9 := ih (i + 1) g1 (by omega)
          refine g_eq rfl rfl (w' := stR w 1010 ta g1) ?_ ?_
          · exact stR_stR
          · exact g_lv2 [(0, .ref x), (1, .ref (stA s0)), (2, .ref pr), (3, .int (nI (i + 1))), (4, .int (sumS rt (i + 1))), (5, .int (nI (i + 1)))] rfl h9
  refine g_iconst C 0 dX9_pricesRate_0 (by rfl) ?_
  refine g_istore_n C dX9_pricesRate_1 (by decide) ?_
  refine g_iconst C 0 dX9_pricesRate_2 (by rfl) ?_
  refine g_istore C dX9_pricesRate_3 (by decide) ?_
  refine g_iconst C 0 dX9_pricesRate_5 (by rfl) ?_
  refine g_istore C dX9_pricesRate_6 (by decide) ?_
  refine g_eq rfl rfl (w' := stR w 1010 ta (aI w 1010 ta)) stR_self.symm ?_
  exact g_lv2 [(0, .ref x), (1, .ref (stA s0)), (2, .ref pr), (3, .int (nI 0)), (4, .int (sumS rt 0)), (5, .int (nI 0))] rfl (loop M 0 _ (by omega))
theorem dX9_priceOf_0 : decode cX9_priceOf 0 = .ok (.iload_n 1, 1) := by decide +kernel
theorem dX9_priceOf_1 : decode cX9_priceOf 1 = .ok (.iload_n 2, 1) := by decide +kernel
theorem dX9_priceOf_2 : decode cX9_priceOf 2 = .ok (.imul, 1) := by decide +kernel
theorem dX9_priceOf_3 : decode cX9_priceOf 3 = .ok (.sipush 1000, 3) := by decide +kernel
theorem dX9_priceOf_6 : decode cX9_priceOf 6 = .ok (.idiv, 1) := by decide +kernel
theorem dX9_priceOf_7 : decode cX9_priceOf 7 = .ok (.istore_n 3, 1) := by decide +kernel
theorem dX9_priceOf_8 : decode cX9_priceOf 8 = .ok (.iload_n 3, 1) := by decide +kernel
theorem dX9_priceOf_9 : decode cX9_priceOf 9 = .ok (.iload_n 3, 1) := by decide +kernel
theorem dX9_priceOf_10 : decode cX9_priceOf 10 = .ok (.aload_n 0, 1) := by decide +kernel
theorem dX9_priceOf_11 : decode cX9_priceOf 11 = .ok (.getfield 60, 3) := by decide +kernel
theorem dX9_priceOf_14 : decode cX9_priceOf 14 = .ok (.imul, 1) := by decide +kernel
theorem dX9_priceOf_15 : decode cX9_priceOf 15 = .ok (.bipush 100, 2) := by decide +kernel
theorem dX9_priceOf_17 : decode cX9_priceOf 17 = .ok (.idiv, 1) := by decide +kernel
theorem dX9_priceOf_18 : decode cX9_priceOf 18 = .ok (.iadd, 1) := by decide +kernel
theorem dX9_priceOf_19 : decode cX9_priceOf 19 = .ok (.ireturn, 1) := by decide +kernel
set_option maxHeartbeats 4000000 in
set_option maxRecDepth 100000 in
theorem c_X9_priceOf (de : Nat) (w : Wd) (x : Nat) (hx : kd w x = 11) (su ra : Int32) : Ct yX9_priceOf cX9_priceOf 4 (some .int) 0 0 0 0 de [.ref x, .int su, .int ra] w (fun r w' => r = some (.int (priV su ra (fI w 11 9 x))) ∧ w = w') := by
  refine Ct.mk (by decide +kernel) [(0, .ref x), (1, .int su), (2, .int ra)] rfl (Nat.le_of_ble_eq_true rfl) ?_
  intro p l e R s m args below meth c D cy z C hnm
  refine g_iload_n C dX9_priceOf_0 rfl ?_
  refine g_iload_n C dX9_priceOf_1 rfl ?_
  refine g_imul C dX9_priceOf_2 ?_
  refine g_sipush C 1000 dX9_priceOf_3 (by rfl) ?_
  refine g_idiv C dX9_priceOf_6 (by decide) ?_
  refine g_istore_n C dX9_priceOf_7 (by decide) ?_
  refine g_iload_n C dX9_priceOf_8 rfl ?_
  refine g_iload_n C dX9_priceOf_9 rfl ?_
  refine g_aload_n C dX9_priceOf_10 rfl ?_
  refine g_getI C cls_10 11 9 hx rfl k_145 dX9_priceOf_11 ?_
  refine g_imul C dX9_priceOf_14 ?_
  refine g_bipush C 100 dX9_priceOf_15 (by rfl) ?_
  refine g_idiv C dX9_priceOf_17 (by decide) ?_
  refine g_iadd C dX9_priceOf_18 ?_
  refine g_iret C rfl rfl (by decide) (by decide) dX9_priceOf_19 ?_
  exact ⟨rfl, rfl⟩
theorem dX9_stateShare_0 : decode cX9_stateShare 0 = .ok (.iload_n 1, 1) := by decide +kernel
theorem dX9_stateShare_1 : decode cX9_stateShare 1 = .ok (.iconst 1, 1) := by decide +kernel
theorem dX9_stateShare_2 : decode cX9_stateShare 2 = .ok (.if_icmp .ge 7, 3) := by decide +kernel
theorem dX9_stateShare_9 : decode cX9_stateShare 9 = .ok (.iload_n 0, 1) := by decide +kernel
theorem dX9_stateShare_10 : decode cX9_stateShare 10 = .ok (.iload_n 1, 1) := by decide +kernel
theorem dX9_stateShare_11 : decode cX9_stateShare 11 = .ok (.sipush 500, 3) := by decide +kernel
theorem dX9_stateShare_14 : decode cX9_stateShare 14 = .ok (.invokestatic 251, 3) := by decide +kernel
theorem dX9_stateShare_17 : decode cX9_stateShare 17 = .ok (.imul, 1) := by decide +kernel
theorem dX9_stateShare_18 : decode cX9_stateShare 18 = .ok (.iload_n 1, 1) := by decide +kernel
theorem dX9_stateShare_19 : decode cX9_stateShare 19 = .ok (.idiv, 1) := by decide +kernel
theorem dX9_stateShare_20 : decode cX9_stateShare 20 = .ok (.iconst 2, 1) := by decide +kernel
theorem dX9_stateShare_21 : decode cX9_stateShare 21 = .ok (.idiv, 1) := by decide +kernel
theorem dX9_stateShare_22 : decode cX9_stateShare 22 = .ok (.ireturn, 1) := by decide +kernel
set_option maxHeartbeats 4000000 in
set_option maxRecDepth 100000 in
theorem c_X9_stateShare (de : Nat) (w : Wd) (pr su : Int32) (hsu : ¬ su < 1) : Ct yX9_stateShare cX9_stateShare 2 (some .int) 1 21 0 0 de [.int pr, .int su] w (fun r w' => r = some (.int (shrV pr su)) ∧ w = w') := by
  refine Ct.mk (by decide +kernel) [(0, .int pr), (1, .int su)] rfl (Nat.le_of_ble_eq_true rfl) ?_
  intro p l e R s m args below meth c D cy z C hnm
  refine g_iload_n C dX9_stateShare_0 rfl ?_
  refine g_iconst C 1 dX9_stateShare_1 (by rfl) ?_
  refine g_icmp_ge C 9 dX9_stateShare_2 (by decide) (fun c_2 => ?_) (fun c_2 => ?_)
  · refine g_iload_n C dX9_stateShare_9 rfl ?_
    refine g_iload_n C dX9_stateShare_10 rfl ?_
    refine g_sipush C 500 dX9_stateShare_11 (by rfl) ?_
    refine g_min C k_686 k_364 k_18 k_365 (by decide) (Nat.le_of_ble_eq_true rfl) (by decide) (by decide) dX9_stateShare_14 ?_
    refine g_imul C dX9_stateShare_17 ?_
    refine g_iload_n C dX9_stateShare_18 rfl ?_
    refine g_idiv C dX9_stateShare_19 (fun z => hsu (by rw [z]; decide)) ?_
    refine g_iconst C 2 dX9_stateShare_20 (by rfl) ?_
    refine g_idiv C dX9_stateShare_21 (by decide) ?_
    refine g_iret C rfl rfl (by decide) (by decide) dX9_stateShare_22 ?_
    exact ⟨rfl, rfl⟩
  · exact absurd (by first | exact c_2 | exact Int32.not_le.mp c_2) hsu
end RATES13
