section REF19
theorem ixm (a b c : Nat) : nI a * nI b + nI c = nI (a * b + c) := by rw [pk_mul, nI_add]
/-- the last of the first n with P -/
def lastO (P : Nat → Bool) : Nat → Option Nat
  | 0 => none
  | k + 1 => if P k = true then some k else lastO P k
theorem lastO_t {P : Nat → Bool} {k : Nat} (h : P k = true) : nI k = oI (lastO P (k + 1)) := by rw [lastO, if_pos h]; rfl
theorem lastO_f {P : Nat → Bool} {k : Nat} (h : ¬ P k = true) : oI (lastO P k) = oI (lastO P (k + 1)) := by rw [lastO, if_neg h]
def cntN (P : Nat → Bool) : Nat → Nat
  | 0 => 0
  | k + 1 => cntN P k + if P k = true then 1 else 0
theorem cntN_le {P : Nat → Bool} : ∀ n, cntN P n ≤ n
  | 0 => Nat.le_refl _
  | n + 1 => by
    have h := cntN_le (P := P) n
    show cntN P n + (if P n = true then 1 else 0) ≤ n + 1
    split <;> omega
theorem cntN_t {P : Nat → Bool} {n : Nat} (h : P n = true) : cntN P (n + 1) = cntN P n + 1 := by rw [cntN, if_pos h]
theorem cntN_f {P : Nat → Bool} {n : Nat} (h : ¬ P n = true) : cntN P (n + 1) = cntN P n := by rw [cntN, if_neg h]; rfl
def sumC (P : Nat → Bool) (v : Nat → Int32) : Nat → Int32
  | 0 => 0
  | k + 1 => if P k = true then sumC P v k + v k else sumC P v k
theorem sumC_t {P : Nat → Bool} {v : Nat → Int32} {n : Nat} (h : P n = true) : sumC P v (n + 1) = sumC P v n + v n := by rw [sumC, if_pos h]
theorem sumC_f {P : Nat → Bool} {v : Nat → Int32} {n : Nat} (h : ¬ P n = true) : sumC P v (n + 1) = sumC P v n := by rw [sumC, if_neg h]
/-- covers, farms, homes of the reference -/
def CVA (A : Nat → Nat → Int32) (nC nF nS : Nat) (cf cs ho : Nat → Nat) : Prop := nC ≤ 60 ∧ nF ≤ 16 ∧ nS ≤ 5 ∧ (∀ k, k < nC → A 23 (10 * k) = nI (cf k) ∧ cf k < nF ∧ A 23 (10 * k + 3) = nI (cs k) ∧ cs k < 20) ∧ ∀ f, f < nF → A 12 f = nI (ho f) ∧ ho f < nS
def truV (t lo paid : Int32) : Int32 := if t + (if 0 < paid then 10 else if 30 < lo - 1 then -20 else 0) < 0 then 0 else if 100 < t + (if 0 < paid then 10 else if 30 < lo - 1 then -20 else 0) then 100 else t + (if 0 < paid then 10 else if 30 < lo - 1 then -20 else 0)
def qF (cf cs : Nat → Nat) (fa se k : Nat) : Bool := decide (cf k = fa) && decide (cs k = se)
def qO (cf cs ho : Nat → Nat) (st se k : Nat) : Bool := decide (cs k = se) && decide (ho (cf k) = st)
theorem qF_t {cf cs : Nat → Nat} {fa se k : Nat} (h1 : nI (cf k) = nI fa) (h2 : nI (cs k) = nI se) (b1 : cf k < 100000) (b2 : fa < 100000) (b3 : cs k < 100000) (b4 : se < 100000) : qF cf cs fa se k = true := by
  unfold qF
  rw [decide_eq_true ((nI_eq (by omega) (by omega)).mp h1), decide_eq_true ((nI_eq (by omega) (by omega)).mp h2)]
  rfl
theorem qF_f1 {cf cs : Nat → Nat} {fa se k : Nat} (h1 : ¬ nI (cf k) = nI fa) : ¬ qF cf cs fa se k = true := by
  unfold qF
  rw [decide_eq_false (fun z : cf k = fa => h1 (by rw [z]))]
  simp
theorem qF_f2 {cf cs : Nat → Nat} {fa se k : Nat} (h1 : ¬ nI (cs k) = nI se) : ¬ qF cf cs fa se k = true := by
  unfold qF
  rw [decide_eq_false (fun z : cs k = se => h1 (by rw [z]))]
  simp
theorem qO_t {cf cs ho : Nat → Nat} {st se k : Nat} (h1 : nI (cs k) = nI se) (h2 : nI (ho (cf k)) = nI st) (b1 : cs k < 100000) (b2 : se < 100000) (b3 : ho (cf k) < 100000) (b4 : st < 100000) : (1 : Int32) = bI (qO cf cs ho st se k) := by
  unfold qO
  rw [decide_eq_true ((nI_eq (by omega) (by omega)).mp h1), decide_eq_true ((nI_eq (by omega) (by omega)).mp h2)]
  rfl
theorem qO_f1 {cf cs ho : Nat → Nat} {st se k : Nat} (h1 : ¬ nI (cs k) = nI se) : (0 : Int32) = bI (qO cf cs ho st se k) := by
  unfold qO
  rw [decide_eq_false (fun z : cs k = se => h1 (by rw [z]))]
  rfl
theorem qO_f2 {cf cs ho : Nat → Nat} {st se k : Nat} (h1 : ¬ nI (ho (cf k)) = nI st) : (0 : Int32) = bI (qO cf cs ho st se k) := by
  unfold qO
  rw [decide_eq_false (fun z : ho (cf k) = st => h1 (by rw [z])), Bool.and_false]
  rfl
def qC (A : Nat → Nat → Int32) (cf cs ho : Nat → Nat) (st se k : Nat) : Bool := qO cf cs ho st se k && !decide (A 19 (20 * cf k + se) = 0)
def qT (A : Nat → Nat → Int32) (cf cs ho : Nat → Nat) (st se k : Nat) : Bool := qO cf cs ho st se k && decide (0 < A 18 (20 * cf k + se))
/-- a second look at one cover -/
def lkM (A : Nat → Nat → Int32) (mean : Int32) (k : Nat) : Int32 := if 0 < A 23 (10 * k + 2) * (mean - 20) / 100 - A 23 (10 * k + 8) then A 23 (10 * k + 2) * (mean - 20) / 100 - A 23 (10 * k + 8) else 0
def lkF (cf cs ho : Nat → Nat) (st se : Nat) (mean : Int32) (A0 : Nat → Nat → Int32) : Nat → (Nat → Nat → Int32) × Int32
  | 0 => (A0, 0)
  | k + 1 => if qO cf cs ho st se k = true ∧ (lkF cf cs ho st se mean A0 k).1 23 (10 * k + 6) / 10 + 20 < mean then
      (updA (updA (lkF cf cs ho st se mean A0 k).1 23 (10 * k + 8) ((lkF cf cs ho st se mean A0 k).1 23 (10 * k + 8) + lkM (lkF cf cs ho st se mean A0 k).1 mean k)) 15 (cf k) ((lkF cf cs ho st se mean A0 k).1 15 (cf k) + lkM (lkF cf cs ho st se mean A0 k).1 mean k),
       (lkF cf cs ho st se mean A0 k).2 + lkM (lkF cf cs ho st se mean A0 k).1 mean k)
    else lkF cf cs ho st se mean A0 k
def lkC (A : Nat → Nat → Int32) (cf cs ho : Nat → Nat) (st se n : Nat) : Bool := !decide (A 26 (20 * st + se) = 0) || (decide (2 * cntN (qC A cf cs ho st se) n ≤ cntN (qO cf cs ho st se) n) || decide (cntN (qT A cf cs ho st se) n = 0))
def lkV (A : Nat → Nat → Int32) (cf cs ho : Nat → Nat) (st se n : Nat) : Int32 := sumC (qT A cf cs ho st se) (fun k => A 18 (20 * cf k + se) - 1) n / nI (cntN (qT A cf cs ho st se) n)
/-- a second look: the arrays after it and what is paid more -/
def lkR (A : Nat → Nat → Int32) (cf cs ho : Nat → Nat) (st se n : Nat) : (Nat → Nat → Int32) × Int32 :=
  if lkC A cf cs ho st se n = true then (A, 0) else lkF cf cs ho st se (lkV A cf cs ho st se n) (updA A 26 (20 * st + se) 1) n
theorem updA_ne {A : Nat → Nat → Int32} {k j k' j' : Nat} {v : Int32} (h : k' ≠ k ∨ j' ≠ j) : updA A k j v k' j' = A k' j' := if_neg (fun z => h.elim (fun q => q z.1) (fun q => q z.2))
theorem updA_eq {A : Nat → Nat → Int32} {k j : Nat} {v : Int32} : updA A k j v k j = v := if_pos ⟨rfl, rfl⟩
theorem CVA.upd {A : Nat → Nat → Int32} {nC nF nS k j : Nat} {cf cs ho : Nat → Nat} {v : Int32} (h : CVA A nC nF nS cf cs ho) (h1 : k ≠ 12) (h2 : k ≠ 23 ∨ (j % 10 ≠ 0 ∧ j % 10 ≠ 3)) : CVA (updA A k j v) nC nF nS cf cs ho :=
  ⟨h.1, h.2.1, h.2.2.1, fun i hi => ⟨by rw [updA_ne (by omega)]; exact (h.2.2.2.1 i hi).1, (h.2.2.2.1 i hi).2.1, by rw [updA_ne (by omega)]; exact (h.2.2.2.1 i hi).2.2.1, (h.2.2.2.1 i hi).2.2.2⟩, fun f hf => ⟨by rw [updA_ne (by omega)]; exact (h.2.2.2.2 f hf).1, (h.2.2.2.2 f hf).2⟩⟩
theorem lkF_CVA {A0 : Nat → Nat → Int32} {nC nF nS st se : Nat} {cf cs ho : Nat → Nat} {mean : Int32} (h : CVA A0 nC nF nS cf cs ho) : ∀ n, CVA (lkF cf cs ho st se mean A0 n).1 nC nF nS cf cs ho
  | 0 => h
  | n + 1 => by
    rw [lkF]
    split
    · exact ((lkF_CVA h n).upd (by decide) (Or.inr (by omega))).upd (by decide) (Or.inl (by decide))
    · exact lkF_CVA h n
theorem dX10_coverOf_0 : decode cX10_coverOf 0 = .ok (.iconst (-1), 1) := by decide +kernel
theorem dX10_coverOf_1 : decode cX10_coverOf 1 = .ok (.istore_n 3, 1) := by decide +kernel
theorem dX10_coverOf_2 : decode cX10_coverOf 2 = .ok (.iconst 0, 1) := by decide +kernel
theorem dX10_coverOf_3 : decode cX10_coverOf 3 = .ok (.istore 4, 2) := by decide +kernel
theorem dX10_coverOf_5 : decode cX10_coverOf 5 = .ok (.iload 4, 2) := by decide +kernel
theorem dX10_coverOf_7 : decode cX10_coverOf 7 = .ok (.aload_n 0, 1) := by decide +kernel
theorem dX10_coverOf_8 : decode cX10_coverOf 8 = .ok (.getfield 156, 3) := by decide +kernel
theorem dX10_coverOf_11 : decode cX10_coverOf 11 = .ok (.if_icmp .ge 46, 3) := by decide +kernel
theorem dX10_coverOf_14 : decode cX10_coverOf 14 = .ok (.aload_n 0, 1) := by decide +kernel
theorem dX10_coverOf_15 : decode cX10_coverOf 15 = .ok (.getfield 63, 3) := by decide +kernel
theorem dX10_coverOf_18 : decode cX10_coverOf 18 = .ok (.bipush 10, 2) := by decide +kernel
theorem dX10_coverOf_20 : decode cX10_coverOf 20 = .ok (.iload 4, 2) := by decide +kernel
theorem dX10_coverOf_22 : decode cX10_coverOf 22 = .ok (.imul, 1) := by decide +kernel
theorem dX10_coverOf_23 : decode cX10_coverOf 23 = .ok (.iaload, 1) := by decide +kernel
theorem dX10_coverOf_24 : decode cX10_coverOf 24 = .ok (.iload_n 1, 1) := by decide +kernel
theorem dX10_coverOf_25 : decode cX10_coverOf 25 = .ok (.if_icmp .ne 24, 3) := by decide +kernel
theorem dX10_coverOf_28 : decode cX10_coverOf 28 = .ok (.aload_n 0, 1) := by decide +kernel
theorem dX10_coverOf_29 : decode cX10_coverOf 29 = .ok (.getfield 63, 3) := by decide +kernel
theorem dX10_coverOf_32 : decode cX10_coverOf 32 = .ok (.bipush 10, 2) := by decide +kernel
theorem dX10_coverOf_34 : decode cX10_coverOf 34 = .ok (.iload 4, 2) := by decide +kernel
theorem dX10_coverOf_36 : decode cX10_coverOf 36 = .ok (.imul, 1) := by decide +kernel
theorem dX10_coverOf_37 : decode cX10_coverOf 37 = .ok (.iconst 3, 1) := by decide +kernel
theorem dX10_coverOf_38 : decode cX10_coverOf 38 = .ok (.iadd, 1) := by decide +kernel
theorem dX10_coverOf_39 : decode cX10_coverOf 39 = .ok (.iaload, 1) := by decide +kernel
theorem dX10_coverOf_40 : decode cX10_coverOf 40 = .ok (.iload_n 2, 1) := by decide +kernel
theorem dX10_coverOf_41 : decode cX10_coverOf 41 = .ok (.if_icmp .ne 8, 3) := by decide +kernel
theorem dX10_coverOf_44 : decode cX10_coverOf 44 = .ok (.iload 4, 2) := by decide +kernel
theorem dX10_coverOf_46 : decode cX10_coverOf 46 = .ok (.goto 4, 3) := by decide +kernel
theorem dX10_coverOf_49 : decode cX10_coverOf 49 = .ok (.iload_n 3, 1) := by decide +kernel
theorem dX10_coverOf_50 : decode cX10_coverOf 50 = .ok (.istore_n 3, 1) := by decide +kernel
theorem dX10_coverOf_51 : decode cX10_coverOf 51 = .ok (.iinc 4 1, 3) := by decide +kernel
theorem dX10_coverOf_54 : decode cX10_coverOf 54 = .ok (.goto (-49), 3) := by decide +kernel
theorem dX10_coverOf_57 : decode cX10_coverOf 57 = .ok (.iload_n 3, 1) := by decide +kernel
theorem dX10_coverOf_58 : decode cX10_coverOf 58 = .ok (.ireturn, 1) := by decide +kernel
set_option maxHeartbeats 4000000 in
set_option maxRecDepth 100000 in
theorem m_coverOf (de : Nat) (w : Wd) (mo : Nat) (ad : Nat → Nat) (A : Nat → Nat → Int32) (F : Nat → Int32) (L : Int32) (g : Nat → Int32) (hm : RM w mo ad) (nC nF nS : Nat) (cf cs ho : Nat → Nat) (hC : CVA A nC nF nS cf cs ho) (hN : F 24 = nI nC) (fa se : Nat) (hfa : fa < 100000) (hse : se < 100000) : Ct yX10_coverOf cX10_coverOf 5 (some .int) 0 0 0 0 de [.ref mo, .int (nI fa), .int (nI se)] (M w mo ad A F L g) (fun r w' => r = some (.int (oI (lastO (qF cf cs fa se) nC))) ∧ (M w mo ad A F L g) = w') := by
  refine Ct.mk (by decide +kernel) [(0, .ref mo), (1, .int (nI fa)), (2, .int (nI se))] rfl (Nat.le_of_ble_eq_true rfl) ?_
  intro p l e R s m args below meth c D cy z C hnm
  obtain ⟨h60, h16, h5, hcv, hho⟩ := id hC
  have loop : ∀ (k i : Nat), i + k = nC → G p l e R s m args below meth c D cy z 5 (M w mo ad A F L g) 0 0 5 [(0, .ref mo), (1, .int (nI fa)), (2, .int (nI se)), (3, .int (oI (lastO (qF cf cs fa se) i))), (4, .int (nI i))] [] (QM below args s D cy z (fun r w' => r = some (.int (oI (lastO (qF cf cs fa se) nC))) ∧ (M w mo ad A F L g) = w') 0 0) := by
    intro k
    induction k with
    | zero =>
      intro i hik
      refine g_iload C dX10_coverOf_5 rfl ?_
      refine g_aload_n C dX10_coverOf_7 rfl ?_
      refine g_getI C cls_11 12 24 hm.1 rfl k_939 dX10_coverOf_8 ?_
      rw [M_f24]
      rw [hN]
      refine g_icmp_ge C 57 dX10_coverOf_11 (by decide) (fun c_11 => ?_) (fun c_11 => ?_)
      · refine g_iload_n C dX10_coverOf_57 rfl ?_
        refine g_iret C rfl rfl (by decide) (by decide) dX10_coverOf_58 ?_
        exact ⟨by rw [show i = nC by omega], rfl⟩
      · exact absurd (nI_nle_of c_11 (by omega) (by omega)) (by omega)
    | succ k ih =>
      intro i hik
      have hi : i < nC := by omega
      refine g_iload C dX10_coverOf_5 rfl ?_
      refine g_aload_n C dX10_coverOf_7 rfl ?_
      refine g_getI C cls_11 12 24 hm.1 rfl k_939 dX10_coverOf_8 ?_
      rw [M_f24]
      rw [hN]
      refine g_icmp_ge C 57 dX10_coverOf_11 (by decide) (fun c_11 => ?_) (fun c_11 => ?_)
      · exact absurd (nI_le_of c_11 (by omega) (by omega)) (by omega)
      · refine g_cutS (pc' := 50) (.int (oI (lastO (qF cf cs fa se) (i + 1)))) ?_ (fun j_50 => ?_)
        · refine g_istore_n C dX10_coverOf_50 (by decide) ?_
          refine g_iinc C dX10_coverOf_51 rfl (nI_1 i) (by decide) ?_
          refine g_goto C 5 dX10_coverOf_54 (by decide) ?_
          have h9 := ih (i + 1) (by omega)
          exact g_lv2 [(0, .ref mo), (1, .int (nI fa)), (2, .int (nI se)), (3, .int (oI (lastO (qF cf cs fa se) (i + 1)))), (4, .int (nI (i + 1)))] rfl h9
        · refine g_aload_n C dX10_coverOf_14 rfl ?_
          refine g_getR (b := (ad 23)) C cls_11 12 23 hm.1 (rm_23 hm).1 rfl k_938 dX10_coverOf_15 ?_
          refine g_bipush C 10 dX10_coverOf_18 (by rfl) ?_
          refine g_iload C dX10_coverOf_20 rfl ?_
          refine g_imul C dX10_coverOf_22 ?_
          rw [show (10 : Int32) * nI i = nI (10 * i) from pk_mul 10 i]
          refine g_iald C 2230 (rm_23 hm).2.1 rfl (show vp_in (nI (10 * i)) (aL w (ad 23)) by rw [(rm_23 hm).2.2]; exact nI_vp (show 10 * i < 600 by omega) (by omega)) dX10_coverOf_23 ?_
          rw [M_a23, nI_tn (show 10 * i ≤ 100000 by omega)]
          rw [(hcv i hi).1]
          refine g_iload_n C dX10_coverOf_24 rfl ?_
          refine g_icmp_ne C 49 dX10_coverOf_25 (by decide) (fun c_25 => ?_) (fun c_25 => ?_)
          · refine g_iload_n C dX10_coverOf_49 rfl ?_
            exact g_eq rfl (congrArg (fun v => Value.int v :: _) (by first | exact lastO_t (qF_t c_25 c_41 (by have := hcv i hi; omega) (by omega) (by have := hcv i hi; omega) (by omega)) | exact lastO_f (qF_f1 c_25) | exact lastO_f (qF_f2 c_41))) rfl j_50
          · refine g_aload_n C dX10_coverOf_28 rfl ?_
            refine g_getR (b := (ad 23)) C cls_11 12 23 hm.1 (rm_23 hm).1 rfl k_938 dX10_coverOf_29 ?_
            refine g_bipush C 10 dX10_coverOf_32 (by rfl) ?_
            refine g_iload C dX10_coverOf_34 rfl ?_
            refine g_imul C dX10_coverOf_36 ?_
            refine g_iconst C 3 dX10_coverOf_37 (by rfl) ?_
            refine g_iadd C dX10_coverOf_38 ?_
            rw [show (10 : Int32) * nI i + 3 = nI (10 * i + 3) from ixm 10 i 3]
            refine g_iald C 2230 (rm_23 hm).2.1 rfl (show vp_in (nI (10 * i + 3)) (aL w (ad 23)) by rw [(rm_23 hm).2.2]; exact nI_vp (show 10 * i + 3 < 600 by omega) (by omega)) dX10_coverOf_39 ?_
            rw [M_a23, nI_tn (show 10 * i + 3 ≤ 100000 by omega)]
            rw [(hcv i hi).2.2.1]
            refine g_iload_n C dX10_coverOf_40 rfl ?_
            refine g_icmp_ne C 49 dX10_coverOf_41 (by decide) (fun c_41 => ?_) (fun c_41 => ?_)
            · refine g_iload_n C dX10_coverOf_49 rfl ?_
              exact g_eq rfl (congrArg (fun v => Value.int v :: _) (by first | exact lastO_t (qF_t c_25 c_41 (by have := hcv i hi; omega) (by omega) (by have := hcv i hi; omega) (by omega)) | exact lastO_f (qF_f1 c_25) | exact lastO_f (qF_f2 c_41))) rfl j_50
            · refine g_iload C dX10_coverOf_44 rfl ?_
              refine g_goto C 50 dX10_coverOf_46 (by decide) ?_
              exact g_eq rfl (congrArg (fun v => Value.int v :: _) (by first | exact lastO_t (qF_t c_25 c_41 (by have := hcv i hi; omega) (by omega) (by have := hcv i hi; omega) (by omega)) | exact lastO_f (qF_f1 c_25) | exact lastO_f (qF_f2 c_41))) rfl j_50
  refine g_iconst C (-1) dX10_coverOf_0 (by rfl) ?_
  refine g_istore_n C dX10_coverOf_1 (by decide) ?_
  refine g_iconst C 0 dX10_coverOf_2 (by rfl) ?_
  refine g_istore C dX10_coverOf_3 (by decide) ?_
  exact g_lv2 [(0, .ref mo), (1, .int (nI fa)), (2, .int (nI se)), (3, .int (oI (lastO (qF cf cs fa se) 0))), (4, .int (nI 0))] rfl (loop nC 0 (by omega))
theorem dX10_trusts_0 : decode cX10_trusts 0 = .ok (.aload_n 0, 1) := by decide +kernel
theorem dX10_trusts_1 : decode cX10_trusts 1 = .ok (.getfield 46, 3) := by decide +kernel
theorem dX10_trusts_4 : decode cX10_trusts 4 = .ok (.bipush 20, 2) := by decide +kernel
theorem dX10_trusts_6 : decode cX10_trusts 6 = .ok (.iload_n 1, 1) := by decide +kernel
theorem dX10_trusts_7 : decode cX10_trusts 7 = .ok (.imul, 1) := by decide +kernel
theorem dX10_trusts_8 : decode cX10_trusts 8 = .ok (.iload_n 2, 1) := by decide +kernel
theorem dX10_trusts_9 : decode cX10_trusts 9 = .ok (.iadd, 1) := by decide +kernel
theorem dX10_trusts_10 : decode cX10_trusts 10 = .ok (.iaload, 1) := by decide +kernel
theorem dX10_trusts_11 : decode cX10_trusts 11 = .ok (.iconst 1, 1) := by decide +kernel
theorem dX10_trusts_12 : decode cX10_trusts 12 = .ok (.isub, 1) := by decide +kernel
theorem dX10_trusts_13 : decode cX10_trusts 13 = .ok (.istore 4, 2) := by decide +kernel
theorem dX10_trusts_15 : decode cX10_trusts 15 = .ok (.aload_n 0, 1) := by decide +kernel
theorem dX10_trusts_16 : decode cX10_trusts 16 = .ok (.getfield 34, 3) := by decide +kernel
theorem dX10_trusts_19 : decode cX10_trusts 19 = .ok (.iload_n 1, 1) := by decide +kernel
theorem dX10_trusts_20 : decode cX10_trusts 20 = .ok (.iaload, 1) := by decide +kernel
theorem dX10_trusts_21 : decode cX10_trusts 21 = .ok (.iload_n 3, 1) := by decide +kernel
theorem dX10_trusts_22 : decode cX10_trusts 22 = .ok (.ifCond .le 8, 3) := by decide +kernel
theorem dX10_trusts_25 : decode cX10_trusts 25 = .ok (.bipush 10, 2) := by decide +kernel
theorem dX10_trusts_27 : decode cX10_trusts 27 = .ok (.goto 16, 3) := by decide +kernel
theorem dX10_trusts_30 : decode cX10_trusts 30 = .ok (.iload 4, 2) := by decide +kernel
theorem dX10_trusts_32 : decode cX10_trusts 32 = .ok (.bipush 30, 2) := by decide +kernel
theorem dX10_trusts_34 : decode cX10_trusts 34 = .ok (.if_icmp .le 8, 3) := by decide +kernel
theorem dX10_trusts_37 : decode cX10_trusts 37 = .ok (.bipush (-20), 2) := by decide +kernel
theorem dX10_trusts_39 : decode cX10_trusts 39 = .ok (.goto 4, 3) := by decide +kernel
theorem dX10_trusts_42 : decode cX10_trusts 42 = .ok (.iconst 0, 1) := by decide +kernel
theorem dX10_trusts_43 : decode cX10_trusts 43 = .ok (.iadd, 1) := by decide +kernel
theorem dX10_trusts_44 : decode cX10_trusts 44 = .ok (.istore 5, 2) := by decide +kernel
theorem dX10_trusts_46 : decode cX10_trusts 46 = .ok (.aload_n 0, 1) := by decide +kernel
theorem dX10_trusts_47 : decode cX10_trusts 47 = .ok (.getfield 34, 3) := by decide +kernel
theorem dX10_trusts_50 : decode cX10_trusts 50 = .ok (.iload_n 1, 1) := by decide +kernel
theorem dX10_trusts_51 : decode cX10_trusts 51 = .ok (.iload 5, 2) := by decide +kernel
theorem dX10_trusts_53 : decode cX10_trusts 53 = .ok (.ifCond .ge 7, 3) := by decide +kernel
theorem dX10_trusts_56 : decode cX10_trusts 56 = .ok (.iconst 0, 1) := by decide +kernel
theorem dX10_trusts_57 : decode cX10_trusts 57 = .ok (.goto 17, 3) := by decide +kernel
theorem dX10_trusts_60 : decode cX10_trusts 60 = .ok (.iload 5, 2) := by decide +kernel
theorem dX10_trusts_62 : decode cX10_trusts 62 = .ok (.bipush 100, 2) := by decide +kernel
theorem dX10_trusts_64 : decode cX10_trusts 64 = .ok (.if_icmp .le 8, 3) := by decide +kernel
theorem dX10_trusts_67 : decode cX10_trusts 67 = .ok (.bipush 100, 2) := by decide +kernel
theorem dX10_trusts_69 : decode cX10_trusts 69 = .ok (.goto 5, 3) := by decide +kernel
theorem dX10_trusts_72 : decode cX10_trusts 72 = .ok (.iload 5, 2) := by decide +kernel
theorem dX10_trusts_74 : decode cX10_trusts 74 = .ok (.iastore, 1) := by decide +kernel
theorem dX10_trusts_75 : decode cX10_trusts 75 = .ok (.return_, 1) := by decide +kernel
set_option maxHeartbeats 4000000 in
set_option maxRecDepth 100000 in
theorem m_trusts (de : Nat) (w : Wd) (mo : Nat) (ad : Nat → Nat) (A : Nat → Nat → Int32) (F : Nat → Int32) (L : Int32) (g : Nat → Int32) (hm : RM w mo ad) (fa se : Nat) (paid : Int32) (hfa : fa < 16) (hse : se < 20) : Ct yX10_trusts cX10_trusts 6 none 0 0 0 0 de [.ref mo, .int (nI fa), .int (nI se), .int paid] (M w mo ad A F L g) (fun r w' => r = none ∧ M w mo ad (updA A 13 fa (truV (A 13 fa) (A 18 (20 * fa + se)) paid)) F L g = w') := by
  refine Ct.mk (by decide +kernel) [(0, .ref mo), (1, .int (nI fa)), (2, .int (nI se)), (3, .int paid)] rfl (Nat.le_of_ble_eq_true rfl) ?_
  intro p l e R s m args below meth c D cy z C hnm
  refine g_aload_n C dX10_trusts_0 rfl ?_
  refine g_getR (b := (ad 18)) C cls_11 12 18 hm.1 (rm_18 hm).1 rfl k_933 dX10_trusts_1 ?_
  refine g_bipush C 20 dX10_trusts_4 (by rfl) ?_
  refine g_iload_n C dX10_trusts_6 rfl ?_
  refine g_imul C dX10_trusts_7 ?_
  refine g_iload_n C dX10_trusts_8 rfl ?_
  refine g_iadd C dX10_trusts_9 ?_
  rw [show (20 : Int32) * nI fa + nI se = nI (20 * fa + se) from ixm 20 fa se]
  refine g_iald C 2180 (rm_18 hm).2.1 rfl (show vp_in (nI (20 * fa + se)) (aL w (ad 18)) by rw [(rm_18 hm).2.2]; exact nI_vp (show 20 * fa + se < 320 by omega) (by omega)) dX10_trusts_10 ?_
  rw [M_a18, nI_tn (show 20 * fa + se ≤ 100000 by omega)]
  refine g_iconst C 1 dX10_trusts_11 (by rfl) ?_
  refine g_isub C dX10_trusts_12 ?_
  refine g_istore C dX10_trusts_13 (by decide) ?_
  refine g_aload_n C dX10_trusts_15 rfl ?_
  refine g_getR (b := (ad 13)) C cls_11 12 13 hm.1 (rm_13 hm).1 rfl k_928 dX10_trusts_16 ?_
  refine g_iload_n C dX10_trusts_19 rfl ?_
  refine g_iald C 2130 (rm_13 hm).2.1 rfl (show vp_in (nI (fa)) (aL w (ad 13)) by rw [(rm_13 hm).2.2]; exact nI_vp (show fa < 16 by omega) (by omega)) dX10_trusts_20 ?_
  rw [M_a13, nI_tn (show fa ≤ 100000 by omega)]
  refine g_cutS (pc' := 43) (.int (if 0 < paid then 10 else if 30 < A 18 (20 * fa + se) - 1 then -20 else 0)) ?_ (fun j_43 => ?_)
  · refine g_iadd C dX10_trusts_43 ?_
    refine g_istore C dX10_trusts_44 (by decide) ?_
    refine g_aload_n C dX10_trusts_46 rfl ?_
    refine g_getR (b := (ad 13)) C cls_11 12 13 hm.1 (rm_13 hm).1 rfl k_928 dX10_trusts_47 ?_
    refine g_iload_n C dX10_trusts_50 rfl ?_
    refine g_cutS (pc' := 74) (.int (truV (A 13 fa) (A 18 (20 * fa + se)) paid)) ?_ (fun j_74 => ?_)
    · refine g_iast C 2130 (rm_13 hm).2.1 rfl (show vp_in (nI (fa)) (aL w (ad 13)) by rw [(rm_13 hm).2.2]; exact nI_vp (show fa < 16 by omega) (by omega)) dX10_trusts_74 ?_
      rw [nI_tn (show fa ≤ 100000 by omega), M_p13]
      refine g_vret C rfl (by decide) (by decide) dX10_trusts_75 ?_
      exact ⟨rfl, rfl⟩
    · refine g_iload C dX10_trusts_51 rfl ?_
      refine g_if_ge C 60 dX10_trusts_53 (by decide) (fun c_53 => ?_) (fun c_53 => ?_)
      · refine g_iload C dX10_trusts_60 rfl ?_
        refine g_bipush C 100 dX10_trusts_62 (by rfl) ?_
        refine g_icmp_le C 72 dX10_trusts_64 (by decide) (fun c_64 => ?_) (fun c_64 => ?_)
        · refine g_iload C dX10_trusts_72 rfl ?_
          exact g_eq rfl (congrArg (fun v => Value.int v :: _) (by unfold truV; first | rw [if_pos (Int32.not_le.mp c_53)] | rw [if_neg (Int32.not_lt.mpr c_53), if_pos (Int32.not_le.mp c_64)] | rw [if_neg (Int32.not_lt.mpr c_53), if_neg (Int32.not_lt.mpr c_64)])) rfl j_74
        · refine g_bipush C 100 dX10_trusts_67 (by rfl) ?_
          refine g_goto C 74 dX10_trusts_69 (by decide) ?_
          exact g_eq rfl (congrArg (fun v => Value.int v :: _) (by unfold truV; first | rw [if_pos (Int32.not_le.mp c_53)] | rw [if_neg (Int32.not_lt.mpr c_53), if_pos (Int32.not_le.mp c_64)] | rw [if_neg (Int32.not_lt.mpr c_53), if_neg (Int32.not_lt.mpr c_64)])) rfl j_74
      · refine g_iconst C 0 dX10_trusts_56 (by rfl) ?_
        refine g_goto C 74 dX10_trusts_57 (by decide) ?_
        exact g_eq rfl (congrArg (fun v => Value.int v :: _) (by unfold truV; first | rw [if_pos (Int32.not_le.mp c_53)] | rw [if_neg (Int32.not_lt.mpr c_53), if_pos (Int32.not_le.mp c_64)] | rw [if_neg (Int32.not_lt.mpr c_53), if_neg (Int32.not_lt.mpr c_64)])) rfl j_74
  · refine g_iload_n C dX10_trusts_21 rfl ?_
    refine g_if_le C 30 dX10_trusts_22 (by decide) (fun c_22 => ?_) (fun c_22 => ?_)
    · refine g_iload C dX10_trusts_30 rfl ?_
      refine g_bipush C 30 dX10_trusts_32 (by rfl) ?_
      refine g_icmp_le C 42 dX10_trusts_34 (by decide) (fun c_34 => ?_) (fun c_34 => ?_)
      · refine g_iconst C 0 dX10_trusts_42 (by rfl) ?_
        exact g_eq rfl (congrArg (fun v => Value.int v :: _) (by first | (rw [if_pos c_22]; done) | (rw [if_pos c_22]) | rw [if_neg (Int32.not_lt.mpr c_22), if_pos c_34] | rw [if_neg (Int32.not_lt.mpr c_22), if_neg (Int32.not_lt.mpr c_34)] | rw [if_pos (Int32.not_le.mp c_22)] | rw [if_neg (Int32.not_lt.mpr c_22), if_pos (Int32.not_le.mp c_34)])) rfl j_43
      · refine g_bipush C (-20) dX10_trusts_37 (by rfl) ?_
        refine g_goto C 43 dX10_trusts_39 (by decide) ?_
        exact g_eq rfl (congrArg (fun v => Value.int v :: _) (by first | (rw [if_pos c_22]; done) | (rw [if_pos c_22]) | rw [if_neg (Int32.not_lt.mpr c_22), if_pos c_34] | rw [if_neg (Int32.not_lt.mpr c_22), if_neg (Int32.not_lt.mpr c_34)] | rw [if_pos (Int32.not_le.mp c_22)] | rw [if_neg (Int32.not_lt.mpr c_22), if_pos (Int32.not_le.mp c_34)])) rfl j_43
    · refine g_bipush C 10 dX10_trusts_25 (by rfl) ?_
      refine g_goto C 43 dX10_trusts_27 (by decide) ?_
      exact g_eq rfl (congrArg (fun v => Value.int v :: _) (by first | (rw [if_pos c_22]; done) | (rw [if_pos c_22]) | rw [if_neg (Int32.not_lt.mpr c_22), if_pos c_34] | rw [if_neg (Int32.not_lt.mpr c_22), if_neg (Int32.not_lt.mpr c_34)] | rw [if_pos (Int32.not_le.mp c_22)] | rw [if_neg (Int32.not_lt.mpr c_22), if_pos (Int32.not_le.mp c_34)])) rfl j_43
theorem dX10_isOf_0 : decode cX10_isOf 0 = .ok (.aload_n 0, 1) := by decide +kernel
theorem dX10_isOf_1 : decode cX10_isOf 1 = .ok (.getfield 63, 3) := by decide +kernel
theorem dX10_isOf_4 : decode cX10_isOf 4 = .ok (.bipush 10, 2) := by decide +kernel
theorem dX10_isOf_6 : decode cX10_isOf 6 = .ok (.iload_n 1, 1) := by decide +kernel
theorem dX10_isOf_7 : decode cX10_isOf 7 = .ok (.imul, 1) := by decide +kernel
theorem dX10_isOf_8 : decode cX10_isOf 8 = .ok (.iconst 3, 1) := by decide +kernel
theorem dX10_isOf_9 : decode cX10_isOf 9 = .ok (.iadd, 1) := by decide +kernel
theorem dX10_isOf_10 : decode cX10_isOf 10 = .ok (.iaload, 1) := by decide +kernel
theorem dX10_isOf_11 : decode cX10_isOf 11 = .ok (.iload_n 2, 1) := by decide +kernel
theorem dX10_isOf_12 : decode cX10_isOf 12 = .ok (.if_icmp .ne 25, 3) := by decide +kernel
theorem dX10_isOf_15 : decode cX10_isOf 15 = .ok (.aload_n 0, 1) := by decide +kernel
theorem dX10_isOf_16 : decode cX10_isOf 16 = .ok (.getfield 31, 3) := by decide +kernel
theorem dX10_isOf_19 : decode cX10_isOf 19 = .ok (.aload_n 0, 1) := by decide +kernel
theorem dX10_isOf_20 : decode cX10_isOf 20 = .ok (.getfield 63, 3) := by decide +kernel
theorem dX10_isOf_23 : decode cX10_isOf 23 = .ok (.bipush 10, 2) := by decide +kernel
theorem dX10_isOf_25 : decode cX10_isOf 25 = .ok (.iload_n 1, 1) := by decide +kernel
theorem dX10_isOf_26 : decode cX10_isOf 26 = .ok (.imul, 1) := by decide +kernel
theorem dX10_isOf_27 : decode cX10_isOf 27 = .ok (.iaload, 1) := by decide +kernel
theorem dX10_isOf_28 : decode cX10_isOf 28 = .ok (.iaload, 1) := by decide +kernel
theorem dX10_isOf_29 : decode cX10_isOf 29 = .ok (.iload_n 3, 1) := by decide +kernel
theorem dX10_isOf_30 : decode cX10_isOf 30 = .ok (.if_icmp .ne 7, 3) := by decide +kernel
theorem dX10_isOf_33 : decode cX10_isOf 33 = .ok (.iconst 1, 1) := by decide +kernel
theorem dX10_isOf_34 : decode cX10_isOf 34 = .ok (.goto 4, 3) := by decide +kernel
theorem dX10_isOf_37 : decode cX10_isOf 37 = .ok (.iconst 0, 1) := by decide +kernel
theorem dX10_isOf_38 : decode cX10_isOf 38 = .ok (.ireturn, 1) := by decide +kernel
set_option maxHeartbeats 4000000 in
set_option maxRecDepth 100000 in
theorem m_isOf (de : Nat) (w : Wd) (mo : Nat) (ad : Nat → Nat) (A : Nat → Nat → Int32) (F : Nat → Int32) (L : Int32) (g : Nat → Int32) (hm : RM w mo ad) (nC nF nS : Nat) (cf cs ho : Nat → Nat) (hC : CVA A nC nF nS cf cs ho) (k se st : Nat) (hk : k < nC) (hse : se < 100000) (hst : st < 100000) : Ct yX10_isOf cX10_isOf 4 (some .boolean) 0 0 0 0 de [.ref mo, .int (nI k), .int (nI se), .int (nI st)] (M w mo ad A F L g) (fun r w' => r = some (.int (bI (qO cf cs ho st se k))) ∧ (M w mo ad A F L g) = w') := by
  refine Ct.mk (by decide +kernel) [(0, .ref mo), (1, .int (nI k)), (2, .int (nI se)), (3, .int (nI st))] rfl (Nat.le_of_ble_eq_true rfl) ?_
  intro p l e R s m args below meth c D cy z C hnm
  obtain ⟨h60, h16, h5, hcv, hho⟩ := id hC
  refine g_aload_n C dX10_isOf_0 rfl ?_
  refine g_getR (b := (ad 23)) C cls_11 12 23 hm.1 (rm_23 hm).1 rfl k_938 dX10_isOf_1 ?_
  refine g_bipush C 10 dX10_isOf_4 (by rfl) ?_
  refine g_iload_n C dX10_isOf_6 rfl ?_
  refine g_imul C dX10_isOf_7 ?_
  refine g_iconst C 3 dX10_isOf_8 (by rfl) ?_
  refine g_iadd C dX10_isOf_9 ?_
  rw [show (10 : Int32) * nI k + 3 = nI (10 * k + 3) from ixm 10 k 3]
  refine g_iald C 2230 (rm_23 hm).2.1 rfl (show vp_in (nI (10 * k + 3)) (aL w (ad 23)) by rw [(rm_23 hm).2.2]; exact nI_vp (show 10 * k + 3 < 600 by omega) (by omega)) dX10_isOf_10 ?_
  rw [M_a23, nI_tn (show 10 * k + 3 ≤ 100000 by omega)]
  rw [(hcv k hk).2.2.1]
  refine g_iload_n C dX10_isOf_11 rfl ?_
  refine g_icmp_ne C 37 dX10_isOf_12 (by decide) (fun c_12 => ?_) (fun c_12 => ?_)
  · refine g_iconst C 0 dX10_isOf_37 (by rfl) ?_
    refine g_iret C rfl rfl (by decide) (by decide) dX10_isOf_38 ?_
    exact ⟨congrArg (fun v => some (Value.int v)) (by have h8 := hcv k hk; have h9 := hho (cf k) h8.2.1; first | exact qO_t c_12 c_30 (by omega) (by omega) (by omega) (by omega) | exact qO_f1 c_12 | exact qO_f2 c_30), rfl⟩
  · refine g_aload_n C dX10_isOf_15 rfl ?_
    refine g_getR (b := (ad 12)) C cls_11 12 12 hm.1 (rm_12 hm).1 rfl k_927 dX10_isOf_16 ?_
    refine g_aload_n C dX10_isOf_19 rfl ?_
    refine g_getR (b := (ad 23)) C cls_11 12 23 hm.1 (rm_23 hm).1 rfl k_938 dX10_isOf_20 ?_
    refine g_bipush C 10 dX10_isOf_23 (by rfl) ?_
    refine g_iload_n C dX10_isOf_25 rfl ?_
    refine g_imul C dX10_isOf_26 ?_
    rw [show (10 : Int32) * nI k = nI (10 * k) from pk_mul 10 k]
    refine g_iald C 2230 (rm_23 hm).2.1 rfl (show vp_in (nI (10 * k)) (aL w (ad 23)) by rw [(rm_23 hm).2.2]; exact nI_vp (show 10 * k < 600 by omega) (by omega)) dX10_isOf_27 ?_
    rw [M_a23, nI_tn (show 10 * k ≤ 100000 by omega)]
    rw [(hcv k hk).1]
    have hcf := (hcv k hk).2.1
    refine g_iald C 2120 (rm_12 hm).2.1 rfl (show vp_in (nI (cf k)) (aL w (ad 12)) by rw [(rm_12 hm).2.2]; exact nI_vp (show cf k < 16 by omega) (by omega)) dX10_isOf_28 ?_
    rw [M_a12, nI_tn (show cf k ≤ 100000 by omega)]
    rw [(hho (cf k) hcf).1]
    refine g_iload_n C dX10_isOf_29 rfl ?_
    refine g_icmp_ne C 37 dX10_isOf_30 (by decide) (fun c_30 => ?_) (fun c_30 => ?_)
    · refine g_iconst C 0 dX10_isOf_37 (by rfl) ?_
      refine g_iret C rfl rfl (by decide) (by decide) dX10_isOf_38 ?_
      exact ⟨congrArg (fun v => some (Value.int v)) (by have h8 := hcv k hk; have h9 := hho (cf k) h8.2.1; first | exact qO_t c_12 c_30 (by omega) (by omega) (by omega) (by omega) | exact qO_f1 c_12 | exact qO_f2 c_30), rfl⟩
    · refine g_iconst C 1 dX10_isOf_33 (by rfl) ?_
      refine g_goto C 38 dX10_isOf_34 (by decide) ?_
      refine g_iret C rfl rfl (by decide) (by decide) dX10_isOf_38 ?_
      exact ⟨congrArg (fun v => some (Value.int v)) (by have h8 := hcv k hk; have h9 := hho (cf k) h8.2.1; first | exact qO_t c_12 c_30 (by omega) (by omega) (by omega) (by omega) | exact qO_f1 c_12 | exact qO_f2 c_30), rfl⟩
theorem dX10_sumOf_0 : decode cX10_sumOf 0 = .ok (.iconst 0, 1) := by decide +kernel
theorem dX10_sumOf_1 : decode cX10_sumOf 1 = .ok (.istore_n 2, 1) := by decide +kernel
theorem dX10_sumOf_2 : decode cX10_sumOf 2 = .ok (.iconst 0, 1) := by decide +kernel
theorem dX10_sumOf_3 : decode cX10_sumOf 3 = .ok (.istore_n 3, 1) := by decide +kernel
theorem dX10_sumOf_4 : decode cX10_sumOf 4 = .ok (.iload_n 3, 1) := by decide +kernel
theorem dX10_sumOf_5 : decode cX10_sumOf 5 = .ok (.aload_n 0, 1) := by decide +kernel
theorem dX10_sumOf_6 : decode cX10_sumOf 6 = .ok (.getfield 156, 3) := by decide +kernel
theorem dX10_sumOf_9 : decode cX10_sumOf 9 = .ok (.if_icmp .ge 23, 3) := by decide +kernel
theorem dX10_sumOf_12 : decode cX10_sumOf 12 = .ok (.iload_n 2, 1) := by decide +kernel
theorem dX10_sumOf_13 : decode cX10_sumOf 13 = .ok (.aload_n 0, 1) := by decide +kernel
theorem dX10_sumOf_14 : decode cX10_sumOf 14 = .ok (.getfield 63, 3) := by decide +kernel
theorem dX10_sumOf_17 : decode cX10_sumOf 17 = .ok (.bipush 10, 2) := by decide +kernel
theorem dX10_sumOf_19 : decode cX10_sumOf 19 = .ok (.iload_n 3, 1) := by decide +kernel
theorem dX10_sumOf_20 : decode cX10_sumOf 20 = .ok (.imul, 1) := by decide +kernel
theorem dX10_sumOf_21 : decode cX10_sumOf 21 = .ok (.iload_n 1, 1) := by decide +kernel
theorem dX10_sumOf_22 : decode cX10_sumOf 22 = .ok (.iadd, 1) := by decide +kernel
theorem dX10_sumOf_23 : decode cX10_sumOf 23 = .ok (.iaload, 1) := by decide +kernel
theorem dX10_sumOf_24 : decode cX10_sumOf 24 = .ok (.iadd, 1) := by decide +kernel
theorem dX10_sumOf_25 : decode cX10_sumOf 25 = .ok (.istore_n 2, 1) := by decide +kernel
theorem dX10_sumOf_26 : decode cX10_sumOf 26 = .ok (.iinc 3 1, 3) := by decide +kernel
theorem dX10_sumOf_29 : decode cX10_sumOf 29 = .ok (.goto (-25), 3) := by decide +kernel
theorem dX10_sumOf_32 : decode cX10_sumOf 32 = .ok (.iload_n 2, 1) := by decide +kernel
theorem dX10_sumOf_33 : decode cX10_sumOf 33 = .ok (.ireturn, 1) := by decide +kernel
set_option maxHeartbeats 4000000 in
set_option maxRecDepth 100000 in
theorem m_sumOf (de : Nat) (w : Wd) (mo : Nat) (ad : Nat → Nat) (A : Nat → Nat → Int32) (F : Nat → Int32) (L : Int32) (g : Nat → Int32) (hm : RM w mo ad) (nC : Nat) (hN : F 24 = nI nC) (h60 : nC ≤ 60) (q : Nat) (hq : q < 10) : Ct yX10_sumOf cX10_sumOf 4 (some .int) 0 0 0 0 de [.ref mo, .int (nI q)] (M w mo ad A F L g) (fun r w' => r = some (.int (sumS (fun k => A 23 (10 * k + q)) nC)) ∧ (M w mo ad A F L g) = w') := by
  refine Ct.mk (by decide +kernel) [(0, .ref mo), (1, .int (nI q))] rfl (Nat.le_of_ble_eq_true rfl) ?_
  intro p l e R s m args below meth c D cy z C hnm
  have loop : ∀ (k i : Nat), i + k = nC → G p l e R s m args below meth c D cy z 4 (M w mo ad A F L g) 0 0 4 [(0, .ref mo), (1, .int (nI q)), (2, .int (sumS (fun k => A 23 (10 * k + q)) i)), (3, .int (nI i))] [] (QM below args s D cy z (fun r w' => r = some (.int (sumS (fun k => A 23 (10 * k + q)) nC)) ∧ (M w mo ad A F L g) = w') 0 0) := by
    intro k
    induction k with
    | zero =>
      intro i hik
      refine g_iload_n C dX10_sumOf_4 rfl ?_
      refine g_aload_n C dX10_sumOf_5 rfl ?_
      refine g_getI C cls_11 12 24 hm.1 rfl k_939 dX10_sumOf_6 ?_
      rw [M_f24]
      rw [hN]
      refine g_icmp_ge C 32 dX10_sumOf_9 (by decide) (fun c_9 => ?_) (fun c_9 => ?_)
      · refine g_iload_n C dX10_sumOf_32 rfl ?_
        refine g_iret C rfl rfl (by decide) (by decide) dX10_sumOf_33 ?_
        exact ⟨by rw [show i = nC by omega], rfl⟩
      · exact absurd (nI_nle_of c_9 (by omega) (by omega)) (by omega)
    | succ k ih =>
      intro i hik
      have hi : i < nC := by omega
      refine g_iload_n C dX10_sumOf_4 rfl ?_
      refine g_aload_n C dX10_sumOf_5 rfl ?_
      refine g_getI C cls_11 12 24 hm.1 rfl k_939 dX10_sumOf_6 ?_
      rw [M_f24]
      rw [hN]
      refine g_icmp_ge C 32 dX10_sumOf_9 (by decide) (fun c_9 => ?_) (fun c_9 => ?_)
      · exact absurd (nI_le_of c_9 (by omega) (by omega)) (by omega)
      · refine g_iload_n C dX10_sumOf_12 rfl ?_
        refine g_aload_n C dX10_sumOf_13 rfl ?_
        refine g_getR (b := (ad 23)) C cls_11 12 23 hm.1 (rm_23 hm).1 rfl k_938 dX10_sumOf_14 ?_
        refine g_bipush C 10 dX10_sumOf_17 (by rfl) ?_
        refine g_iload_n C dX10_sumOf_19 rfl ?_
        refine g_imul C dX10_sumOf_20 ?_
        refine g_iload_n C dX10_sumOf_21 rfl ?_
        refine g_iadd C dX10_sumOf_22 ?_
        rw [show (10 : Int32) * nI i + nI q = nI (10 * i + q) from ixm 10 i q]
        refine g_iald C 2230 (rm_23 hm).2.1 rfl (show vp_in (nI (10 * i + q)) (aL w (ad 23)) by rw [(rm_23 hm).2.2]; exact nI_vp (show 10 * i + q < 600 by omega) (by omega)) dX10_sumOf_23 ?_
        rw [M_a23, nI_tn (show 10 * i + q ≤ 100000 by omega)]
        refine g_iadd C dX10_sumOf_24 ?_
        refine g_istore_n C dX10_sumOf_25 (by decide) ?_
        refine g_iinc C dX10_sumOf_26 rfl (nI_1 i) (by decide) ?_
        refine g_goto C 4 dX10_sumOf_29 (by decide) ?_
        have h9 := ih (i + 1) (by omega)
        exact g_lv2 [(0, .ref mo), (1, .int (nI q)), (2, .int (sumS (fun k => A 23 (10 * k + q)) (i + 1))), (3, .int (nI (i + 1)))] rfl h9
  refine g_iconst C 0 dX10_sumOf_0 (by rfl) ?_
  refine g_istore_n C dX10_sumOf_1 (by decide) ?_
  refine g_iconst C 0 dX10_sumOf_2 (by rfl) ?_
  refine g_istore_n C dX10_sumOf_3 (by decide) ?_
  exact g_lv2 [(0, .ref mo), (1, .int (nI q)), (2, .int (sumS (fun k => A 23 (10 * k + q)) 0)), (3, .int (nI 0))] rfl (loop nC 0 (by omega))
end REF19
