section SEASON10
theorem nI_le_of {a b : Nat} (h : nI a ≤ nI b) (ha : a < 100000) (hb : b < 100000) : a ≤ b := (nI_leI (by omega) (by omega)).mp h
theorem nI_lt_of {a b : Nat} (h : nI a < nI b) (ha : a < 100000) (hb : b < 100000) : a < b := (nI_ltI (by omega) (by omega)).mp h
theorem nI_nle_of {a b : Nat} (h : ¬ nI a ≤ nI b) (ha : a < 100000) (hb : b < 100000) : b < a := Nat.not_le.mp (fun z => h ((nI_leI (by omega) (by omega)).mpr z))
theorem nI_nlt_of {a b : Nat} (h : ¬ nI a < nI b) (ha : a < 100000) (hb : b < 100000) : b ≤ a := Nat.not_lt.mp (fun z => h ((nI_ltI (by omega) (by omega)).mpr z))
theorem c_sz (de : Nat) (w : Wd) (Kl Ke : Nat) (hL : KL Kl Ke) (a n : Nat) (el : Nat → Nat) (hR : RLs w de Kl Ke a n el) : Ct yJx4a65c_size_8abf5 cJx4a65c_size_8abf5 1 (some .int) 0 0 0 0 de [.ref a] w (fun r w' => r = some (.int (nI n)) ∧ w = w') := by
  have h := c_Jx4a65c_size_8abf5 de w Kl Ke hL a hR.1
  rw [hR.2.1] at h
  exact h
theorem KL_st : KL 81 1013 := ⟨rfl, rfl, rfl, rfl, by decide⟩
theorem KL_pr : KL 21 1023 := ⟨rfl, rfl, rfl, rfl, by decide⟩
theorem KL_fa : KL 41 1033 := ⟨rfl, rfl, rfl, rfl, by decide⟩
theorem KL_co : KL 61 1043 := ⟨rfl, rfl, rfl, rfl, by decide⟩
theorem KL_ph : KL 101 1053 := ⟨rfl, rfl, rfl, rfl, by decide⟩
/-- the weather at we: its stations stA k, their rows laA k, their places, what was told of them -/
def WS9 (w : Wd) (de we sl nS : Nat) (stA laA : Nat → Nat) (xs ys : Nat → Int32) (ch : Nat → Nat → List (Nat × Int32)) : Prop := kd w we = 10 ∧ fR w 10 0 we = some sl ∧ RLs w de 81 1013 sl nS stA ∧ nS ≤ 5 ∧
  ∀ k, k < nS → kd w (stA k) = 8 ∧ fI w 8 0 (stA k) = nI k ∧ fI w 8 1 (stA k) = xs k ∧ fI w 8 2 (stA k) = ys k ∧ fR w 8 3 (stA k) = some (laA k) ∧ kd w (laA k) = 1002 ∧ aL w (laA k) = 1200 ∧ ∀ d, d < 1200 → Chn w (ch k d) (aR w 1002 (laA k) d)
def disV (xs ys : Nat → Int32) (x y : Int32) (k : Nat) : Int32 := (xs k - x) * (xs k - x) + (ys k - y) * (ys k - y)
/-- the nearest of those with a datum, among the first k, and its rain -/
def nearF (dat dist : Nat → Int32) : Nat → Option Nat × Int32
  | 0 => (none, 0)
  | k + 1 => if dat k = -1 then nearF dat dist k else match (nearF dat dist k).1 with
    | none => (some k, dat k)
    | some j => if dist k < dist j then (some k, dat k) else nearF dat dist k
def rainV (nS : Nat) (xs ys dat : Nat → Int32) (s : Nat) : Int32 := if dat s = -1 then (nearF dat (disV xs ys (xs s) (ys s)) nS).2 else dat s
theorem nearF_0 {dat dist : Nat → Int32} {k : Nat} (h : dat k = -1) : nearF dat dist (k + 1) = nearF dat dist k := by rw [nearF, if_pos h]
theorem nearF_1 {dat dist : Nat → Int32} {k : Nat} (h : ¬ dat k = -1) (h2 : (nearF dat dist k).1 = none) : nearF dat dist (k + 1) = (some k, dat k) := by rw [nearF, if_neg h, h2]
theorem nearF_2 {dat dist : Nat → Int32} {k j : Nat} (h : ¬ dat k = -1) (h2 : (nearF dat dist k).1 = some j) (h3 : dist k < dist j) : nearF dat dist (k + 1) = (some k, dat k) := by rw [nearF, if_neg h, h2]; exact if_pos h3
theorem nearF_3 {dat dist : Nat → Int32} {k j : Nat} (h : ¬ dat k = -1) (h2 : (nearF dat dist k).1 = some j) (h3 : ¬ dist k < dist j) : nearF dat dist (k + 1) = nearF dat dist k := by rw [nearF, if_neg h, h2]; exact if_neg h3
theorem nearF_lt {dat dist : Nat → Int32} : ∀ {k j : Nat}, (nearF dat dist k).1 = some j → j < k
  | 0, j, h => by cases h
  | k + 1, j, h => by
    by_cases h1 : dat k = -1
    · rw [nearF_0 h1] at h; exact Nat.lt_succ_of_lt (nearF_lt h)
    · cases h2 : (nearF dat dist k).1 with
      | none => rw [nearF_1 h1 h2] at h; cases h; exact Nat.lt_succ_self _
      | some i =>
        by_cases h3 : dist k < dist i
        · rw [nearF_2 h1 h2 h3] at h; cases h; exact Nat.lt_succ_self _
        · rw [nearF_3 h1 h2 h3] at h; exact Nat.lt_succ_of_lt (nearF_lt h)
/-- the nearest of all stations to a place -/
def nearS (dist : Nat → Int32) : Nat → Option Nat
  | 0 => none
  | k + 1 => match nearS dist k with
    | none => some k
    | some j => if dist k < dist j then some k else some j
theorem nearS_lt {dist : Nat → Int32} : ∀ {k j : Nat}, nearS dist k = some j → j < k
  | 0, j, h => by cases h
  | k + 1, j, h => by
    rw [nearS] at h
    cases h2 : nearS dist k with
    | none => rw [h2] at h; cases h; exact Nat.lt_succ_self _
    | some i =>
      rw [h2] at h
      have hi := nearS_lt h2
      by_cases h3 : dist k < dist i
      · have h : (if dist k < dist i then some k else some i) = some j := h
        rw [if_pos h3] at h; cases h; exact Nat.lt_succ_self _
      · have h : (if dist k < dist i then some k else some i) = some j := h
        rw [if_neg h3] at h; cases h; omega
theorem nearS_1 {dist : Nat → Int32} {k : Nat} (h : nearS dist k = none) : nearS dist (k + 1) = some k := by rw [nearS, h]
theorem nearS_2 {dist : Nat → Int32} {k j : Nat} (h : nearS dist k = some j) (h3 : dist k < dist j) : nearS dist (k + 1) = some k := by rw [nearS, h]; exact if_pos h3
theorem nearS_3 {dist : Nat → Int32} {k j : Nat} (h : nearS dist k = some j) (h3 : ¬ dist k < dist j) : nearS dist (k + 1) = some j := by rw [nearS, h]; exact if_neg h3
theorem dX8_rainOn_0 : decode cX8_rainOn 0 = .ok (.aload_n 1, 1) := by decide +kernel
theorem dX8_rainOn_1 : decode cX8_rainOn 1 = .ok (.iload_n 2, 1) := by decide +kernel
theorem dX8_rainOn_2 : decode cX8_rainOn 2 = .ok (.iload_n 3, 1) := by decide +kernel
theorem dX8_rainOn_3 : decode cX8_rainOn 3 = .ok (.iload 4, 2) := by decide +kernel
theorem dX8_rainOn_5 : decode cX8_rainOn 5 = .ok (.invokevirtual 22, 3) := by decide +kernel
theorem dX8_rainOn_8 : decode cX8_rainOn 8 = .ok (.istore 5, 2) := by decide +kernel
theorem dX8_rainOn_10 : decode cX8_rainOn 10 = .ok (.iload 5, 2) := by decide +kernel
theorem dX8_rainOn_12 : decode cX8_rainOn 12 = .ok (.iconst (-1), 1) := by decide +kernel
theorem dX8_rainOn_13 : decode cX8_rainOn 13 = .ok (.if_icmp .eq 6, 3) := by decide +kernel
theorem dX8_rainOn_16 : decode cX8_rainOn 16 = .ok (.iload 5, 2) := by decide +kernel
theorem dX8_rainOn_18 : decode cX8_rainOn 18 = .ok (.ireturn, 1) := by decide +kernel
theorem dX8_rainOn_19 : decode cX8_rainOn 19 = .ok (.iconst 0, 1) := by decide +kernel
theorem dX8_rainOn_20 : decode cX8_rainOn 20 = .ok (.istore 5, 2) := by decide +kernel
theorem dX8_rainOn_22 : decode cX8_rainOn 22 = .ok (.aconst_null, 1) := by decide +kernel
theorem dX8_rainOn_23 : decode cX8_rainOn 23 = .ok (.astore 6, 2) := by decide +kernel
theorem dX8_rainOn_25 : decode cX8_rainOn 25 = .ok (.iconst 0, 1) := by decide +kernel
theorem dX8_rainOn_26 : decode cX8_rainOn 26 = .ok (.istore 7, 2) := by decide +kernel
theorem dX8_rainOn_28 : decode cX8_rainOn 28 = .ok (.iload 7, 2) := by decide +kernel
theorem dX8_rainOn_30 : decode cX8_rainOn 30 = .ok (.aload_n 0, 1) := by decide +kernel
theorem dX8_rainOn_31 : decode cX8_rainOn 31 = .ok (.getfield 12, 3) := by decide +kernel
theorem dX8_rainOn_34 : decode cX8_rainOn 34 = .ok (.invokevirtual 32, 3) := by decide +kernel
theorem dX8_rainOn_37 : decode cX8_rainOn 37 = .ok (.if_icmp .ge 82, 3) := by decide +kernel
theorem dX8_rainOn_40 : decode cX8_rainOn 40 = .ok (.aload_n 0, 1) := by decide +kernel
theorem dX8_rainOn_41 : decode cX8_rainOn 41 = .ok (.getfield 12, 3) := by decide +kernel
theorem dX8_rainOn_44 : decode cX8_rainOn 44 = .ok (.iload 7, 2) := by decide +kernel
theorem dX8_rainOn_46 : decode cX8_rainOn 46 = .ok (.invokevirtual 36, 3) := by decide +kernel
theorem dX8_rainOn_49 : decode cX8_rainOn 49 = .ok (.checkcast 23, 3) := by decide +kernel
theorem dX8_rainOn_52 : decode cX8_rainOn 52 = .ok (.astore 8, 2) := by decide +kernel
theorem dX8_rainOn_54 : decode cX8_rainOn 54 = .ok (.aload 8, 2) := by decide +kernel
theorem dX8_rainOn_56 : decode cX8_rainOn 56 = .ok (.iload_n 2, 1) := by decide +kernel
theorem dX8_rainOn_57 : decode cX8_rainOn 57 = .ok (.iload_n 3, 1) := by decide +kernel
theorem dX8_rainOn_58 : decode cX8_rainOn 58 = .ok (.iload 4, 2) := by decide +kernel
theorem dX8_rainOn_60 : decode cX8_rainOn 60 = .ok (.invokevirtual 22, 3) := by decide +kernel
theorem dX8_rainOn_63 : decode cX8_rainOn 63 = .ok (.istore 9, 2) := by decide +kernel
theorem dX8_rainOn_65 : decode cX8_rainOn 65 = .ok (.iload 9, 2) := by decide +kernel
theorem dX8_rainOn_67 : decode cX8_rainOn 67 = .ok (.iconst (-1), 1) := by decide +kernel
theorem dX8_rainOn_68 : decode cX8_rainOn 68 = .ok (.if_icmp .eq 45, 3) := by decide +kernel
theorem dX8_rainOn_71 : decode cX8_rainOn 71 = .ok (.aload 6, 2) := by decide +kernel
theorem dX8_rainOn_73 : decode cX8_rainOn 73 = .ok (.ifnull 32, 3) := by decide +kernel
theorem dX8_rainOn_76 : decode cX8_rainOn 76 = .ok (.aload 8, 2) := by decide +kernel
theorem dX8_rainOn_78 : decode cX8_rainOn 78 = .ok (.aload_n 1, 1) := by decide +kernel
theorem dX8_rainOn_79 : decode cX8_rainOn 79 = .ok (.getfield 44, 3) := by decide +kernel
theorem dX8_rainOn_82 : decode cX8_rainOn 82 = .ok (.aload_n 1, 1) := by decide +kernel
theorem dX8_rainOn_83 : decode cX8_rainOn 83 = .ok (.getfield 47, 3) := by decide +kernel
theorem dX8_rainOn_86 : decode cX8_rainOn 86 = .ok (.invokevirtual 40, 3) := by decide +kernel
theorem dX8_rainOn_89 : decode cX8_rainOn 89 = .ok (.aload 6, 2) := by decide +kernel
theorem dX8_rainOn_91 : decode cX8_rainOn 91 = .ok (.aload_n 1, 1) := by decide +kernel
theorem dX8_rainOn_92 : decode cX8_rainOn 92 = .ok (.getfield 44, 3) := by decide +kernel
theorem dX8_rainOn_95 : decode cX8_rainOn 95 = .ok (.aload_n 1, 1) := by decide +kernel
theorem dX8_rainOn_96 : decode cX8_rainOn 96 = .ok (.getfield 47, 3) := by decide +kernel
theorem dX8_rainOn_99 : decode cX8_rainOn 99 = .ok (.invokevirtual 40, 3) := by decide +kernel
theorem dX8_rainOn_102 : decode cX8_rainOn 102 = .ok (.if_icmp .ge 11, 3) := by decide +kernel
theorem dX8_rainOn_105 : decode cX8_rainOn 105 = .ok (.aload 8, 2) := by decide +kernel
theorem dX8_rainOn_107 : decode cX8_rainOn 107 = .ok (.astore 6, 2) := by decide +kernel
theorem dX8_rainOn_109 : decode cX8_rainOn 109 = .ok (.iload 9, 2) := by decide +kernel
theorem dX8_rainOn_111 : decode cX8_rainOn 111 = .ok (.istore 5, 2) := by decide +kernel
theorem dX8_rainOn_113 : decode cX8_rainOn 113 = .ok (.iinc 7 1, 3) := by decide +kernel
theorem dX8_rainOn_116 : decode cX8_rainOn 116 = .ok (.goto (-88), 3) := by decide +kernel
theorem dX8_rainOn_119 : decode cX8_rainOn 119 = .ok (.iload 5, 2) := by decide +kernel
theorem dX8_rainOn_121 : decode cX8_rainOn 121 = .ok (.ireturn, 1) := by decide +kernel
set_option maxHeartbeats 4000000 in
set_option maxRecDepth 100000 in
theorem c_X8_rainOn (de : Nat) (w : Wd) (we sl nS : Nat) (stA laA : Nat → Nat) (xs ys : Nat → Int32) (ch : Nat → Nat → List (Nat × Int32)) (hw : WS9 w de we sl nS stA laA xs ys ch) (s0 d n : Nat) (kn : Int32) (hs : s0 < nS) (hd : d < 1200) (hn : n < 100000) : Ct yX8_rainOn cX8_rainOn 10 (some .int) 3 64 0 0 de [.ref we, .ref (stA s0), .int (nI d), .int kn, .int (nI n)] w (fun r w' => r = some (.int (rainV nS xs ys (fun k => datV (ch k d) kn n) s0)) ∧ w = w') := by
  refine Ct.mk (by decide +kernel) [(0, .ref we), (1, .ref (stA s0)), (2, .int (nI d)), (3, .int kn), (4, .int (nI n))] rfl (Nat.le_of_ble_eq_true rfl) ?_
  intro p l e R s m args below meth c D cy z C hnm
  obtain ⟨hwe, hsl, hR, hn5, hst⟩ := hw
  have hs0 := (hst s0 hs).1
  generalize hdat : (fun k => datV (ch k d) kn n) = dat
  generalize hdis : disV xs ys (xs s0) (ys s0) = dist
  have hd0 : datV (ch s0 d) kn n = dat s0 := by rw [← hdat]
  have hV : rainV nS xs ys dat s0 = if dat s0 = -1 then (nearF dat dist nS).2 else dat s0 := by rw [← hdis]; rfl
  have hds : ∀ k, k < nS → (fI w 8 1 (stA k) - fI w 8 1 (stA s0)) * (fI w 8 1 (stA k) - fI w 8 1 (stA s0)) + (fI w 8 2 (stA k) - fI w 8 2 (stA s0)) * (fI w 8 2 (stA k) - fI w 8 2 (stA s0)) = dist k := by
    intro k hk
    rw [(hst k hk).2.2.1, (hst k hk).2.2.2.1, (hst s0 hs).2.2.1, (hst s0 hs).2.2.2.1, ← hdis]
    rfl
  have loop : dat s0 = -1 → ∀ (k i : Nat), i + k = nS → G p l e R s m args below meth c D cy z 10 w 0 0 28 [(0, .ref we), (1, .ref (stA s0)), (2, .int (nI d)), (3, .int kn), (4, .int (nI n)), (5, .int (nearF dat dist i).2), (6, va_rf ((nearF dat dist i).1.map stA)), (7, .int (nI i))] [] (QM below args s D cy z (fun r w' => r = some (.int (rainV nS xs ys dat s0)) ∧ w = w') 0 0) := by
    intro hm1 k
    induction k with
    | zero =>
      intro i hik
      refine g_iload C dX8_rainOn_28 rfl ?_
      refine g_aload_n C dX8_rainOn_30 rfl ?_
      refine g_getR (b := sl) C cls_9 10 0 hwe hsl rfl k_67 dX8_rainOn_31 ?_
      refine g_callV C cls_0 81 mt_Jx4a65c_size_8abf5 [] (c_sz de w 81 1013 KL_st sl nS stA hR) hR.1 (by decide) k_517 rfl rfl (Nat.le_of_ble_eq_true rfl) (by decide) (by decide) (by decide) (by decide) dX8_rainOn_34 (fun r_34 w_34 hp_34 => ?_)
      obtain ⟨rfl, rfl⟩ := hp_34
      refine g_icmp_ge C 119 dX8_rainOn_37 (by decide) (fun c_37 => ?_) (fun c_37 => ?_)
      · refine g_iload C dX8_rainOn_119 rfl ?_
        refine g_iret C rfl rfl (by decide) (by decide) dX8_rainOn_121 ?_
        exact ⟨congrArg (fun v => some (Value.int v)) (by rw [hV, if_pos hm1, show i = nS by omega]), rfl⟩
      · exact absurd (nI_nle_of c_37 (by omega) (by omega)) (by omega)
    | succ k ih =>
      intro i hik
      have hi : i < nS := by omega
      rcases hnr : (nearF dat dist i).1 with _ | j
      · refine g_iload C dX8_rainOn_28 rfl ?_
        refine g_aload_n C dX8_rainOn_30 rfl ?_
        refine g_getR (b := sl) C cls_9 10 0 hwe hsl rfl k_67 dX8_rainOn_31 ?_
        refine g_callV C cls_0 81 mt_Jx4a65c_size_8abf5 [] (c_sz de w 81 1013 KL_st sl nS stA hR) hR.1 (by decide) k_517 rfl rfl (Nat.le_of_ble_eq_true rfl) (by decide) (by decide) (by decide) (by decide) dX8_rainOn_34 (fun r_34 w_34 hp_34 => ?_)
        obtain ⟨rfl, rfl⟩ := hp_34
        refine g_icmp_ge C 119 dX8_rainOn_37 (by decide) (fun c_37 => ?_) (fun c_37 => ?_)
        · exact absurd (nI_le_of c_37 (by omega) (by omega)) (by omega)
        · refine g_aload_n C dX8_rainOn_40 rfl ?_
          refine g_getR (b := sl) C cls_9 10 0 hwe hsl rfl k_67 dX8_rainOn_41 ?_
          refine g_iload C dX8_rainOn_44 rfl ?_
          refine g_callV C cls_0 81 mt_Jx4a65c_get_915e3 [.int (nI i)] (c_Jx4a65c_get_915e3 de w 81 1013 KL_st sl nS i stA hR hi) hR.1 (by decide) k_518 rfl rfl (Nat.le_of_ble_eq_true rfl) (by decide) (by decide) (by decide) (by decide) dX8_rainOn_46 (fun r_46 w_46 hp_46 => ?_)
          obtain ⟨rfl, rfl⟩ := hp_46
          refine g_cast C cls_7 8 (hst i hi).1 (by decide) k_519 dX8_rainOn_49 ?_
          refine g_astore C dX8_rainOn_52 (by decide) ?_
          refine g_aload C dX8_rainOn_54 rfl ?_
          refine g_iload_n C dX8_rainOn_56 rfl ?_
          refine g_iload_n C dX8_rainOn_57 rfl ?_
          refine g_iload C dX8_rainOn_58 rfl ?_
          refine g_callV C cls_7 8 mt_X6_datum [.int (nI d), .int kn, .int (nI n)] (c_X6_datum de w (stA i) (laA i) d n kn (ch i d) (hst i hi).1 (hst i hi).2.2.2.2.1 (hst i hi).2.2.2.2.2.1 (hst i hi).2.2.2.2.2.2.1 hd hn ((hst i hi).2.2.2.2.2.2.2 d hd)) (hst i hi).1 (by decide) k_418 rfl rfl (Nat.le_of_ble_eq_true rfl) (by decide) (by decide) (by decide) (by decide) dX8_rainOn_60 (fun r_60 w_60 hp_60 => ?_)
          obtain ⟨rfl, rfl⟩ := hp_60
          rw [show datV (ch i d) kn n = dat i by rw [← hdat]]
          refine g_istore C dX8_rainOn_63 (by decide) ?_
          refine g_iload C dX8_rainOn_65 rfl ?_
          refine g_iconst C (-1) dX8_rainOn_67 (by rfl) ?_
          refine g_icmp_eq C 113 dX8_rainOn_68 (by decide) (fun c_68 => ?_) (fun c_68 => ?_)
          · refine g_iinc C dX8_rainOn_113 rfl (nI_1 i) (by decide) ?_
            refine g_goto C 28 dX8_rainOn_116 (by decide) ?_
            have e9 := nearF_0 (dist := dist) c_68
            have h9 := ih (i + 1) (by omega)
            rw [e9, hnr] at h9
            exact g_lv2 [(0, .ref we), (1, .ref (stA s0)), (2, .int (nI d)), (3, .int kn), (4, .int (nI n)), (5, .int (nearF dat dist i).2), (6, .null), (7, .int (nI (i + 1)))] rfl h9
          · refine g_aloadN C dX8_rainOn_71 rfl ?_
            refine g_ifnullN C 105 dX8_rainOn_73 (by decide) ?_
            refine g_aload C dX8_rainOn_105 rfl ?_
            refine g_astore C dX8_rainOn_107 (by decide) ?_
            refine g_iload C dX8_rainOn_109 rfl ?_
            refine g_istore C dX8_rainOn_111 (by decide) ?_
            refine g_iinc C dX8_rainOn_113 rfl (nI_1 i) (by decide) ?_
            refine g_goto C 28 dX8_rainOn_116 (by decide) ?_
            (have e9 := nearF_1 c_68 hnr; have h9 := ih (i + 1) (by omega); rw [e9] at h9; exact g_lv2 [(0, .ref we), (1, .ref (stA s0)), (2, .int (nI d)), (3, .int kn), (4, .int (nI n)), (5, .int (dat i)), (6, .ref (stA i)), (7, .int (nI (i + 1)))] rfl h9)
      · have hj : j < nS := by have := nearF_lt hnr; omega
        refine g_iload C dX8_rainOn_28 rfl ?_
        refine g_aload_n C dX8_rainOn_30 rfl ?_
        refine g_getR (b := sl) C cls_9 10 0 hwe hsl rfl k_67 dX8_rainOn_31 ?_
        refine g_callV C cls_0 81 mt_Jx4a65c_size_8abf5 [] (c_sz de w 81 1013 KL_st sl nS stA hR) hR.1 (by decide) k_517 rfl rfl (Nat.le_of_ble_eq_true rfl) (by decide) (by decide) (by decide) (by decide) dX8_rainOn_34 (fun r_34 w_34 hp_34 => ?_)
        obtain ⟨rfl, rfl⟩ := hp_34
        refine g_icmp_ge C 119 dX8_rainOn_37 (by decide) (fun c_37 => ?_) (fun c_37 => ?_)
        · exact absurd (nI_le_of c_37 (by omega) (by omega)) (by omega)
        · refine g_aload_n C dX8_rainOn_40 rfl ?_
          refine g_getR (b := sl) C cls_9 10 0 hwe hsl rfl k_67 dX8_rainOn_41 ?_
          refine g_iload C dX8_rainOn_44 rfl ?_
          refine g_callV C cls_0 81 mt_Jx4a65c_get_915e3 [.int (nI i)] (c_Jx4a65c_get_915e3 de w 81 1013 KL_st sl nS i stA hR hi) hR.1 (by decide) k_518 rfl rfl (Nat.le_of_ble_eq_true rfl) (by decide) (by decide) (by decide) (by decide) dX8_rainOn_46 (fun r_46 w_46 hp_46 => ?_)
          obtain ⟨rfl, rfl⟩ := hp_46
          refine g_cast C cls_7 8 (hst i hi).1 (by decide) k_519 dX8_rainOn_49 ?_
          refine g_astore C dX8_rainOn_52 (by decide) ?_
          refine g_aload C dX8_rainOn_54 rfl ?_
          refine g_iload_n C dX8_rainOn_56 rfl ?_
          refine g_iload_n C dX8_rainOn_57 rfl ?_
          refine g_iload C dX8_rainOn_58 rfl ?_
          refine g_callV C cls_7 8 mt_X6_datum [.int (nI d), .int kn, .int (nI n)] (c_X6_datum de w (stA i) (laA i) d n kn (ch i d) (hst i hi).1 (hst i hi).2.2.2.2.1 (hst i hi).2.2.2.2.2.1 (hst i hi).2.2.2.2.2.2.1 hd hn ((hst i hi).2.2.2.2.2.2.2 d hd)) (hst i hi).1 (by decide) k_418 rfl rfl (Nat.le_of_ble_eq_true rfl) (by decide) (by decide) (by decide) (by decide) dX8_rainOn_60 (fun r_60 w_60 hp_60 => ?_)
          obtain ⟨rfl, rfl⟩ := hp_60
          rw [show datV (ch i d) kn n = dat i by rw [← hdat]]
          refine g_istore C dX8_rainOn_63 (by decide) ?_
          refine g_iload C dX8_rainOn_65 rfl ?_
          refine g_iconst C (-1) dX8_rainOn_67 (by rfl) ?_
          refine g_icmp_eq C 113 dX8_rainOn_68 (by decide) (fun c_68 => ?_) (fun c_68 => ?_)
          · refine g_iinc C dX8_rainOn_113 rfl (nI_1 i) (by decide) ?_
            refine g_goto C 28 dX8_rainOn_116 (by decide) ?_
            first
            | (have e9 := nearF_0 (dist := dist) c_68; have h9 := ih (i + 1) (by omega); rw [e9, hnr] at h9; exact g_lv2 [(0, .ref we), (1, .ref (stA s0)), (2, .int (nI d)), (3, .int kn), (4, .int (nI n)), (5, .int (nearF dat dist i).2), (6, .ref (stA j)), (7, .int (nI (i + 1)))] rfl h9)
            | (have e9 := nearF_3 c_68 hnr (Int32.not_lt.mpr c_102); have h9 := ih (i + 1) (by omega); rw [e9, hnr] at h9; exact g_lv2 [(0, .ref we), (1, .ref (stA s0)), (2, .int (nI d)), (3, .int kn), (4, .int (nI n)), (5, .int (nearF dat dist i).2), (6, .ref (stA j)), (7, .int (nI (i + 1)))] rfl h9)
          · refine g_aload C dX8_rainOn_71 rfl ?_
            refine g_ifnull C dX8_rainOn_73 ?_
            refine g_aload C dX8_rainOn_76 rfl ?_
            refine g_aload_n C dX8_rainOn_78 rfl ?_
            refine g_getI C cls_7 8 1 hs0 rfl k_291 dX8_rainOn_79 ?_
            refine g_aload_n C dX8_rainOn_82 rfl ?_
            refine g_getI C cls_7 8 2 hs0 rfl k_293 dX8_rainOn_83 ?_
            refine g_callV C cls_7 8 mt_X6_distanceTo [.int (fI w 8 1 (stA s0)), .int (fI w 8 2 (stA s0))] (c_X6_distanceTo de w (stA i) (hst i hi).1 (fI w 8 1 (stA s0)) (fI w 8 2 (stA s0))) (hst i hi).1 (by decide) k_520 rfl rfl (Nat.le_of_ble_eq_true rfl) (by decide) (by decide) (by decide) (by decide) dX8_rainOn_86 (fun r_86 w_86 hp_86 => ?_)
            obtain ⟨rfl, rfl⟩ := hp_86
            rw [hds i hi]
            refine g_aload C dX8_rainOn_89 rfl ?_
            refine g_aload_n C dX8_rainOn_91 rfl ?_
            refine g_getI C cls_7 8 1 hs0 rfl k_291 dX8_rainOn_92 ?_
            refine g_aload_n C dX8_rainOn_95 rfl ?_
            refine g_getI C cls_7 8 2 hs0 rfl k_293 dX8_rainOn_96 ?_
            refine g_callV C cls_7 8 mt_X6_distanceTo [.int (fI w 8 1 (stA s0)), .int (fI w 8 2 (stA s0))] (c_X6_distanceTo de w (stA j) (hst j hj).1 (fI w 8 1 (stA s0)) (fI w 8 2 (stA s0))) (hst j hj).1 (by decide) k_520 rfl rfl (Nat.le_of_ble_eq_true rfl) (by decide) (by decide) (by decide) (by decide) dX8_rainOn_99 (fun r_99 w_99 hp_99 => ?_)
            obtain ⟨rfl, rfl⟩ := hp_99
            rw [hds j hj]
            refine g_icmp_ge C 113 dX8_rainOn_102 (by decide) (fun c_102 => ?_) (fun c_102 => ?_)
            · refine g_iinc C dX8_rainOn_113 rfl (nI_1 i) (by decide) ?_
              refine g_goto C 28 dX8_rainOn_116 (by decide) ?_
              first
              | (have e9 := nearF_0 (dist := dist) c_68; have h9 := ih (i + 1) (by omega); rw [e9, hnr] at h9; exact g_lv2 [(0, .ref we), (1, .ref (stA s0)), (2, .int (nI d)), (3, .int kn), (4, .int (nI n)), (5, .int (nearF dat dist i).2), (6, .ref (stA j)), (7, .int (nI (i + 1)))] rfl h9)
              | (have e9 := nearF_3 c_68 hnr (Int32.not_lt.mpr c_102); have h9 := ih (i + 1) (by omega); rw [e9, hnr] at h9; exact g_lv2 [(0, .ref we), (1, .ref (stA s0)), (2, .int (nI d)), (3, .int kn), (4, .int (nI n)), (5, .int (nearF dat dist i).2), (6, .ref (stA j)), (7, .int (nI (i + 1)))] rfl h9)
            · refine g_aload C dX8_rainOn_105 rfl ?_
              refine g_astore C dX8_rainOn_107 (by decide) ?_
              refine g_iload C dX8_rainOn_109 rfl ?_
              refine g_istore C dX8_rainOn_111 (by decide) ?_
              refine g_iinc C dX8_rainOn_113 rfl (nI_1 i) (by decide) ?_
              refine g_goto C 28 dX8_rainOn_116 (by decide) ?_
              first
              | (have e9 := nearF_2 c_68 hnr (Int32.not_le.mp c_102); have h9 := ih (i + 1) (by omega); rw [e9] at h9; exact g_lv2 [(0, .ref we), (1, .ref (stA s0)), (2, .int (nI d)), (3, .int kn), (4, .int (nI n)), (5, .int (dat i)), (6, .ref (stA i)), (7, .int (nI (i + 1)))] rfl h9)
  refine g_aload_n C dX8_rainOn_0 rfl ?_
  refine g_iload_n C dX8_rainOn_1 rfl ?_
  refine g_iload_n C dX8_rainOn_2 rfl ?_
  refine g_iload C dX8_rainOn_3 rfl ?_
  refine g_callV C cls_7 8 mt_X6_datum [.int (nI d), .int kn, .int (nI n)] (c_X6_datum de w (stA s0) (laA s0) d n kn (ch s0 d) (hst s0 hs).1 (hst s0 hs).2.2.2.2.1 (hst s0 hs).2.2.2.2.2.1 (hst s0 hs).2.2.2.2.2.2.1 hd hn ((hst s0 hs).2.2.2.2.2.2.2 d hd)) hs0 (by decide) k_418 rfl rfl (Nat.le_of_ble_eq_true rfl) (by decide) (by decide) (by decide) (by decide) dX8_rainOn_5 (fun r_5 w_5 hp_5 => ?_)
  obtain ⟨rfl, rfl⟩ := hp_5
  refine g_istore C dX8_rainOn_8 (by decide) ?_
  refine g_iload C dX8_rainOn_10 rfl ?_
  refine g_iconst C (-1) dX8_rainOn_12 (by rfl) ?_
  refine g_icmp_eq C 19 dX8_rainOn_13 (by decide) (fun c_13 => ?_) (fun c_13 => ?_)
  · refine g_iconst C 0 dX8_rainOn_19 (by rfl) ?_
    refine g_istore C dX8_rainOn_20 (by decide) ?_
    refine g_null C dX8_rainOn_22 ?_
    refine g_astoreN C dX8_rainOn_23 (by decide) ?_
    refine g_iconst C 0 dX8_rainOn_25 (by rfl) ?_
    refine g_istore C dX8_rainOn_26 (by decide) ?_
    exact g_lv2 [(0, .ref we), (1, .ref (stA s0)), (2, .int (nI d)), (3, .int kn), (4, .int (nI n)), (5, .int 0), (6, .null), (7, .int (nI 0))] rfl (loop (by rw [← hd0]; exact c_13) nS 0 (by omega))
  · refine g_iload C dX8_rainOn_16 rfl ?_
    refine g_iret C rfl rfl (by decide) (by decide) dX8_rainOn_18 ?_
    exact ⟨congrArg (fun v => some (Value.int v)) (by rw [hV, hd0, if_neg (by rw [← hd0]; exact c_13)]), rfl⟩
end SEASON10
