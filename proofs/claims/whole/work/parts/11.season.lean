section SEASON11
def stR (w : Wd) (K a : Nat) (g : Nat → Int32) : Wd := (w.1, w.2.1, w.2.2.1, w.2.2.2.1, (fun x y j => if x = K ∧ y = a then g j else w.2.2.2.2.1 x y j), w.2.2.2.2.2)
theorem stR_self {w : Wd} {K a : Nat} : stR w K a (aI w K a) = w := by
  have e : (fun x y j => if x = K ∧ y = a then aI w K a j else w.2.2.2.2.1 x y j) = w.2.2.2.2.1 := by
    funext x y j
    by_cases h : x = K ∧ y = a
    · rw [if_pos h, h.1, h.2]; rfl
    · rw [if_neg h]
  unfold stR
  rw [e]
theorem stR_at {w : Wd} {K a : Nat} {g : Nat → Int32} : aI (stR w K a g) K a = g := by
  funext j
  exact if_pos ⟨rfl, rfl⟩
theorem pAI_stR {w : Wd} {K a j : Nat} {v : Int32} {g : Nat → Int32} : pAI (stR w K a g) K a j v = stR w K a (upd g j v) := by
  have e : up3 (stR w K a g).2.2.2.2.1 K a j v = (stR w K a (upd g j v)).2.2.2.2.1 := by
    funext x y i
    show (if x = K ∧ y = a ∧ i = j then v else if x = K ∧ y = a then g i else w.2.2.2.2.1 x y i) = if x = K ∧ y = a then upd g j v i else w.2.2.2.2.1 x y i
    by_cases h : x = K ∧ y = a
    · obtain ⟨rfl, rfl⟩ := h
      by_cases hi : i = j
      · subst hi; simp [upd]
      · simp [upd, hi]
    · rw [if_neg h, if_neg h, if_neg (fun z => h ⟨z.1, z.2.1⟩)]
  show (w.1, w.2.1, w.2.2.1, w.2.2.2.1, up3 (stR w K a g).2.2.2.2.1 K a j v, w.2.2.2.2.2) = stR w K a (upd g j v)
  rw [e]
  rfl
theorem SmA.stR {w : Wd} {K b a : Nat} {g : Nat → Int32} (h : a ≠ b) : SmA w (stR w K b g) a := ⟨rfl, rfl, fun _ _ => rfl, fun _ _ => rfl, fun _ => funext fun _ => if_neg (fun z => h z.2), fun _ => rfl, fun _ => rfl⟩
/-- f a + f (a + 1) + .., n of them -/
def sumF (f : Nat → Int32) (a : Nat) : Nat → Int32
  | 0 => 0
  | n + 1 => sumF f a n + f (a + n)
/-- the longest dry spell and the one that lasts, of n days from a on -/
def dryN (f : Nat → Int32) (a : Nat) : Nat → Nat × Nat
  | 0 => (0, 0)
  | n + 1 => (max (dryN f a n).1 (if f (a + n) < 10 then (dryN f a n).2 + 1 else 0), if f (a + n) < 10 then (dryN f a n).2 + 1 else 0)
theorem dryN_le {f : Nat → Int32} {a : Nat} : ∀ n, (dryN f a n).1 ≤ n ∧ (dryN f a n).2 ≤ n
  | 0 => ⟨Nat.le_refl _, Nat.le_refl _⟩
  | n + 1 => by
    have h := dryN_le (f := f) (a := a) n
    show max (dryN f a n).1 (if f (a + n) < 10 then (dryN f a n).2 + 1 else 0) ≤ n + 1 ∧ (if f (a + n) < 10 then (dryN f a n).2 + 1 else 0) ≤ n + 1
    split <;> omega
theorem nI_max {a b : Nat} (ha : a < 100000) (hb : b < 100000) : (if nI a < nI b then nI b else nI a) = nI (max a b) := by
  by_cases h : a < b
  · rw [if_pos (nI_lt h (by omega)), Nat.max_eq_right (by omega)]
  · rw [if_neg (nI_nlt (by omega) (by omega)), Nat.max_eq_left (by omega)]
def okD (f : Nat → Int32) (d : Nat) : Bool := decide (200 ≤ sumF f (d - 2) 3) && decide ((dryN f (d + 1) (min (d + 16) 60 - (d + 1))).1 < 7)
def begO (f : Nat → Int32) : Nat → Option Nat
  | 0 => none
  | k + 1 => if okD f (60 - (k + 1)) = true then some (60 - (k + 1)) else begO f k
def oI (o : Option Nat) : Int32 := match o with
  | none => -1
  | some d => nI d
theorem begO_lt {f : Nat → Int32} : ∀ {k d : Nat}, begO f k = some d → d < 60
  | 0, d, h => by cases h
  | k + 1, d, h => by
    rw [begO] at h
    by_cases h1 : okD f (60 - (k + 1)) = true
    · rw [if_pos h1] at h; cases h; omega
    · rw [if_neg h1] at h; exact begO_lt h
/-- where the first phase starts -/
def stN (f : Nat → Int32) : Nat := match begO f 58 with
  | none => 60
  | some d => d + 1
def lookV (f : Nat → Int32) (dry : Int32) (days fr : Nat) : Int32 := if 60 ≤ fr then (if dry = 0 then 0 else 60) else if dry = 0 then sumF f fr (min (fr + days) 60 - fr) else nI (dryN f fr (min (fr + days) 60 - fr)).1
def payV (dry tr ex its : Int32) : Int32 :=
  let past := if dry = 0 then tr - its else its - tr
  let span := if dry = 0 then tr - ex else ex - tr
  if past ≤ 0 then 0 else if span ≤ 0 then 1000 else if span ≤ past then 1000 else 1000 * past / span
theorem payV_0 {dry tr ex its past span : Int32} (h1 : past = if dry = 0 then tr - its else its - tr) (h2 : span = if dry = 0 then tr - ex else ex - tr) (h : past ≤ 0) : payV dry tr ex its = 0 := by unfold payV; rw [← h1, ← h2]; exact if_pos h
theorem payV_1 {dry tr ex its past span : Int32} (h1 : past = if dry = 0 then tr - its else its - tr) (h2 : span = if dry = 0 then tr - ex else ex - tr) (h : ¬ past ≤ 0) (h3 : span ≤ 0) : payV dry tr ex its = 1000 := by unfold payV; rw [← h1, ← h2]; exact (if_neg h).trans (if_pos h3)
theorem payV_2 {dry tr ex its past span : Int32} (h1 : past = if dry = 0 then tr - its else its - tr) (h2 : span = if dry = 0 then tr - ex else ex - tr) (h : ¬ past ≤ 0) (h3 : ¬ span ≤ 0) (h4 : span ≤ past) : payV dry tr ex its = 1000 := by unfold payV; rw [← h1, ← h2]; exact (if_neg h).trans ((if_neg h3).trans (if_pos h4))
theorem payV_3 {dry tr ex its past span : Int32} (h1 : past = if dry = 0 then tr - its else its - tr) (h2 : span = if dry = 0 then tr - ex else ex - tr) (h : ¬ past ≤ 0) (h3 : ¬ span ≤ 0) (h4 : ¬ span ≤ past) : payV dry tr ex its = 1000 * past / span := by unfold payV; rw [← h1, ← h2]; exact (if_neg h).trans ((if_neg h3).trans (if_neg h4))
def dSum (dN : Nat → Nat) : Nat → Nat
  | 0 => 0
  | i + 1 => dSum dN i + dN i
theorem dSum_le {dN : Nat → Nat} {n : Nat} (h : ∀ i, i < n → dN i ≤ 30) : ∀ i, i ≤ n → dSum dN i ≤ 30 * i
  | 0, _ => Nat.le_refl _
  | i + 1, hi => by
    have h1 := dSum_le h i (by omega)
    have h2 := h i (by omega)
    show dSum dN i + dN i ≤ 30 * (i + 1)
    omega
def ratV (f : Nat → Int32) (dN : Nat → Nat) (dr tr ex wt : Nat → Int32) : Nat → Int32
  | 0 => 0
  | i + 1 => ratV f dN dr tr ex wt i + payV (dr i) (tr i) (ex i) (lookV f (dr i) (dN i) (stN f + dSum dN i)) * wt i / 100
def rateV (f : Nat → Int32) (n : Nat) (dN : Nat → Nat) (dr tr ex wt : Nat → Int32) : Int32 := if 1000 < ratV f dN dr tr ex wt n then 1000 else ratV f dN dr tr ex wt n
theorem stN_le (f : Nat → Int32) : stN f ≤ 60 := by
  unfold stN
  cases h : begO f 58 with
  | none => exact Nat.le_refl _
  | some d => exact begO_lt h
/-- the phases at pl -/
def PHs (w : Wd) (de pl n : Nat) (el dN : Nat → Nat) (dr tr ex wt : Nat → Int32) : Prop := RLs w de 101 1053 pl n el ∧ n ≤ 3 ∧
  ∀ i, i < n → kd w (el i) = 5 ∧ fI w 5 0 (el i) = nI (dN i) ∧ dN i ≤ 30 ∧ fI w 5 1 (el i) = dr i ∧ fI w 5 2 (el i) = tr i ∧ fI w 5 3 (el i) = ex i ∧ fI w 5 4 (el i) = wt i
/-- the season's row at a -/
def SR9 (w : Wd) (a ta : Nat) : Prop := kd w a = 7 ∧ fR w 7 0 a = some ta ∧ kd w ta = 1010 ∧ aL w ta = 60
theorem dX8_nearestTo_0 : decode cX8_nearestTo 0 = .ok (.aconst_null, 1) := by decide +kernel
theorem dX8_nearestTo_1 : decode cX8_nearestTo 1 = .ok (.astore_n 3, 1) := by decide +kernel
theorem dX8_nearestTo_2 : decode cX8_nearestTo 2 = .ok (.iconst 0, 1) := by decide +kernel
theorem dX8_nearestTo_3 : decode cX8_nearestTo 3 = .ok (.istore 4, 2) := by decide +kernel
theorem dX8_nearestTo_5 : decode cX8_nearestTo 5 = .ok (.iload 4, 2) := by decide +kernel
theorem dX8_nearestTo_7 : decode cX8_nearestTo 7 = .ok (.aload_n 0, 1) := by decide +kernel
theorem dX8_nearestTo_8 : decode cX8_nearestTo 8 = .ok (.getfield 12, 3) := by decide +kernel
theorem dX8_nearestTo_11 : decode cX8_nearestTo 11 = .ok (.invokevirtual 32, 3) := by decide +kernel
theorem dX8_nearestTo_14 : decode cX8_nearestTo 14 = .ok (.if_icmp .ge 46, 3) := by decide +kernel
theorem dX8_nearestTo_17 : decode cX8_nearestTo 17 = .ok (.aload_n 0, 1) := by decide +kernel
theorem dX8_nearestTo_18 : decode cX8_nearestTo 18 = .ok (.getfield 12, 3) := by decide +kernel
theorem dX8_nearestTo_21 : decode cX8_nearestTo 21 = .ok (.iload 4, 2) := by decide +kernel
theorem dX8_nearestTo_23 : decode cX8_nearestTo 23 = .ok (.invokevirtual 36, 3) := by decide +kernel
theorem dX8_nearestTo_26 : decode cX8_nearestTo 26 = .ok (.checkcast 23, 3) := by decide +kernel
theorem dX8_nearestTo_29 : decode cX8_nearestTo 29 = .ok (.astore 5, 2) := by decide +kernel
theorem dX8_nearestTo_31 : decode cX8_nearestTo 31 = .ok (.aload_n 3, 1) := by decide +kernel
theorem dX8_nearestTo_32 : decode cX8_nearestTo 32 = .ok (.ifnull 19, 3) := by decide +kernel
theorem dX8_nearestTo_35 : decode cX8_nearestTo 35 = .ok (.aload 5, 2) := by decide +kernel
theorem dX8_nearestTo_37 : decode cX8_nearestTo 37 = .ok (.iload_n 1, 1) := by decide +kernel
theorem dX8_nearestTo_38 : decode cX8_nearestTo 38 = .ok (.iload_n 2, 1) := by decide +kernel
theorem dX8_nearestTo_39 : decode cX8_nearestTo 39 = .ok (.invokevirtual 40, 3) := by decide +kernel
theorem dX8_nearestTo_42 : decode cX8_nearestTo 42 = .ok (.aload_n 3, 1) := by decide +kernel
theorem dX8_nearestTo_43 : decode cX8_nearestTo 43 = .ok (.iload_n 1, 1) := by decide +kernel
theorem dX8_nearestTo_44 : decode cX8_nearestTo 44 = .ok (.iload_n 2, 1) := by decide +kernel
theorem dX8_nearestTo_45 : decode cX8_nearestTo 45 = .ok (.invokevirtual 40, 3) := by decide +kernel
theorem dX8_nearestTo_48 : decode cX8_nearestTo 48 = .ok (.if_icmp .ge 6, 3) := by decide +kernel
theorem dX8_nearestTo_51 : decode cX8_nearestTo 51 = .ok (.aload 5, 2) := by decide +kernel
theorem dX8_nearestTo_53 : decode cX8_nearestTo 53 = .ok (.astore_n 3, 1) := by decide +kernel
theorem dX8_nearestTo_54 : decode cX8_nearestTo 54 = .ok (.iinc 4 1, 3) := by decide +kernel
theorem dX8_nearestTo_57 : decode cX8_nearestTo 57 = .ok (.goto (-52), 3) := by decide +kernel
theorem dX8_nearestTo_60 : decode cX8_nearestTo 60 = .ok (.aload_n 3, 1) := by decide +kernel
theorem dX8_nearestTo_61 : decode cX8_nearestTo 61 = .ok (.areturn, 1) := by decide +kernel
set_option maxHeartbeats 4000000 in
set_option maxRecDepth 100000 in
theorem c_X8_nearestTo (de : Nat) (w : Wd) (we sl nS : Nat) (stA laA : Nat → Nat) (xs ys : Nat → Int32) (ch : Nat → Nat → List (Nat × Int32)) (hw : WS9 w de we sl nS stA laA xs ys ch) (x y : Int32) : Ct yX8_nearestTo cX8_nearestTo 6 (some (.object "RainIndex$Station")) 3 64 0 0 de [.ref we, .int x, .int y] w (fun r w' => r = some (va_rf ((nearS (disV xs ys x y) nS).map stA)) ∧ w = w') := by
  refine Ct.mk (by decide +kernel) [(0, .ref we), (1, .int x), (2, .int y)] rfl (Nat.le_of_ble_eq_true rfl) ?_
  intro p l e R s m args below meth c D cy z C hnm
  obtain ⟨hwe, hsl, hR, hn5, hst⟩ := hw
  generalize hdis : disV xs ys x y = dist
  have hds : ∀ k, k < nS → (fI w 8 1 (stA k) - x) * (fI w 8 1 (stA k) - x) + (fI w 8 2 (stA k) - y) * (fI w 8 2 (stA k) - y) = dist k := by
    intro k hk
    rw [(hst k hk).2.2.1, (hst k hk).2.2.2.1, ← hdis]
    rfl
  have loop : ∀ (k i : Nat), i + k = nS → G p l e R s m args below meth c D cy z 6 w 0 0 5 [(0, .ref we), (1, .int x), (2, .int y), (3, va_rf ((nearS dist i).map stA)), (4, .int (nI i))] [] (QM below args s D cy z (fun r w' => r = some (va_rf ((nearS dist nS).map stA)) ∧ w = w') 0 0) := by
    intro k
    induction k with
    | zero =>
      intro i hik
      refine g_iload C dX8_nearestTo_5 rfl ?_
      refine g_aload_n C dX8_nearestTo_7 rfl ?_
      refine g_getR (b := sl) C cls_9 10 0 hwe hsl rfl k_67 dX8_nearestTo_8 ?_
      refine g_callV C cls_0 81 mt_Jx4a65c_size_8abf5 [] (c_sz de w 81 1013 KL_st sl nS stA hR) hR.1 (by decide) k_517 rfl rfl (Nat.le_of_ble_eq_true rfl) (by decide) (by decide) (by decide) (by decide) dX8_nearestTo_11 (fun r_11 w_11 hp_11 => ?_)
      obtain ⟨rfl, rfl⟩ := hp_11
      refine g_icmp_ge C 60 dX8_nearestTo_14 (by decide) (fun c_14 => ?_) (fun c_14 => ?_)
      · refine g_aload_nR C dX8_nearestTo_60 rfl ?_
        refine g_aret C rfl (Or.inl ⟨_, rfl⟩) (va_rf_or _) (by decide) (by decide) dX8_nearestTo_61 ?_
        exact ⟨by rw [show i = nS by omega], rfl⟩
      · exact absurd (nI_nle_of c_14 (by omega) (by omega)) (by omega)
    | succ k ih =>
      intro i hik
      have hi : i < nS := by omega
      rcases hnr : nearS dist i with _ | j
      · refine g_iload C dX8_nearestTo_5 rfl ?_
        refine g_aload_n C dX8_nearestTo_7 rfl ?_
        refine g_getR (b := sl) C cls_9 10 0 hwe hsl rfl k_67 dX8_nearestTo_8 ?_
        refine g_callV C cls_0 81 mt_Jx4a65c_size_8abf5 [] (c_sz de w 81 1013 KL_st sl nS stA hR) hR.1 (by decide) k_517 rfl rfl (Nat.le_of_ble_eq_true rfl) (by decide) (by decide) (by decide) (by decide) dX8_nearestTo_11 (fun r_11 w_11 hp_11 => ?_)
        obtain ⟨rfl, rfl⟩ := hp_11
        refine g_icmp_ge C 60 dX8_nearestTo_14 (by decide) (fun c_14 => ?_) (fun c_14 => ?_)
        · exact absurd (nI_le_of c_14 (by omega) (by omega)) (by omega)
        · refine g_aload_n C dX8_nearestTo_17 rfl ?_
          refine g_getR (b := sl) C cls_9 10 0 hwe hsl rfl k_67 dX8_nearestTo_18 ?_
          refine g_iload C dX8_nearestTo_21 rfl ?_
          refine g_callV C cls_0 81 mt_Jx4a65c_get_915e3 [.int (nI i)] (c_Jx4a65c_get_915e3 de w 81 1013 KL_st sl nS i stA hR hi) hR.1 (by decide) k_518 rfl rfl (Nat.le_of_ble_eq_true rfl) (by decide) (by decide) (by decide) (by decide) dX8_nearestTo_23 (fun r_23 w_23 hp_23 => ?_)
          obtain ⟨rfl, rfl⟩ := hp_23
          refine g_cast C cls_7 8 (hst i hi).1 (by decide) k_519 dX8_nearestTo_26 ?_
          refine g_astore C dX8_nearestTo_29 (by decide) ?_
          refine g_aload_nN C dX8_nearestTo_31 rfl ?_
          refine g_ifnullN C 51 dX8_nearestTo_32 (by decide) ?_
          refine g_aload C dX8_nearestTo_51 rfl ?_
          refine g_astore_n C dX8_nearestTo_53 (by decide) ?_
          refine g_iinc C dX8_nearestTo_54 rfl (nI_1 i) (by decide) ?_
          refine g_goto C 5 dX8_nearestTo_57 (by decide) ?_
          have e9 := nearS_1 hnr
          have h9 := ih (i + 1) (by omega)
          rw [e9] at h9
          exact g_lv2 [(0, .ref we), (1, .int x), (2, .int y), (3, .ref (stA i)), (4, .int (nI (i + 1)))] rfl h9
      · have hj : j < nS := by have := nearS_lt hnr; omega
        refine g_iload C dX8_nearestTo_5 rfl ?_
        refine g_aload_n C dX8_nearestTo_7 rfl ?_
        refine g_getR (b := sl) C cls_9 10 0 hwe hsl rfl k_67 dX8_nearestTo_8 ?_
        refine g_callV C cls_0 81 mt_Jx4a65c_size_8abf5 [] (c_sz de w 81 1013 KL_st sl nS stA hR) hR.1 (by decide) k_517 rfl rfl (Nat.le_of_ble_eq_true rfl) (by decide) (by decide) (by decide) (by decide) dX8_nearestTo_11 (fun r_11 w_11 hp_11 => ?_)
        obtain ⟨rfl, rfl⟩ := hp_11
        refine g_icmp_ge C 60 dX8_nearestTo_14 (by decide) (fun c_14 => ?_) (fun c_14 => ?_)
        · exact absurd (nI_le_of c_14 (by omega) (by omega)) (by omega)
        · refine g_aload_n C dX8_nearestTo_17 rfl ?_
          refine g_getR (b := sl) C cls_9 10 0 hwe hsl rfl k_67 dX8_nearestTo_18 ?_
          refine g_iload C dX8_nearestTo_21 rfl ?_
          refine g_callV C cls_0 81 mt_Jx4a65c_get_915e3 [.int (nI i)] (c_Jx4a65c_get_915e3 de w 81 1013 KL_st sl nS i stA hR hi) hR.1 (by decide) k_518 rfl rfl (Nat.le_of_ble_eq_true rfl) (by decide) (by decide) (by decide) (by decide) dX8_nearestTo_23 (fun r_23 w_23 hp_23 => ?_)
          obtain ⟨rfl, rfl⟩ := hp_23
          refine g_cast C cls_7 8 (hst i hi).1 (by decide) k_519 dX8_nearestTo_26 ?_
          refine g_astore C dX8_nearestTo_29 (by decide) ?_
          refine g_aload_n C dX8_nearestTo_31 rfl ?_
          refine g_ifnull C dX8_nearestTo_32 ?_
          refine g_aload C dX8_nearestTo_35 rfl ?_
          refine g_iload_n C dX8_nearestTo_37 rfl ?_
          refine g_iload_n C dX8_nearestTo_38 rfl ?_
          refine g_callV C cls_7 8 mt_X6_distanceTo [.int x, .int y] (c_X6_distanceTo de w (stA i) (hst i hi).1 x y) (hst i hi).1 (by decide) k_520 rfl rfl (Nat.le_of_ble_eq_true rfl) (by decide) (by decide) (by decide) (by decide) dX8_nearestTo_39 (fun r_39 w_39 hp_39 => ?_)
          obtain ⟨rfl, rfl⟩ := hp_39
          rw [hds i hi]
          refine g_aload_n C dX8_nearestTo_42 rfl ?_
          refine g_iload_n C dX8_nearestTo_43 rfl ?_
          refine g_iload_n C dX8_nearestTo_44 rfl ?_
          refine g_callV C cls_7 8 mt_X6_distanceTo [.int x, .int y] (c_X6_distanceTo de w (stA j) (hst j hj).1 x y) (hst j hj).1 (by decide) k_520 rfl rfl (Nat.le_of_ble_eq_true rfl) (by decide) (by decide) (by decide) (by decide) dX8_nearestTo_45 (fun r_45 w_45 hp_45 => ?_)
          obtain ⟨rfl, rfl⟩ := hp_45
          rw [hds j hj]
          refine g_icmp_ge C 54 dX8_nearestTo_48 (by decide) (fun c_48 => ?_) (fun c_48 => ?_)
          · refine g_iinc C dX8_nearestTo_54 rfl (nI_1 i) (by decide) ?_
            refine g_goto C 5 dX8_nearestTo_57 (by decide) ?_
            have e9 := nearS_3 hnr (Int32.not_lt.mpr c_48)
            have h9 := ih (i + 1) (by omega)
            rw [e9] at h9
            exact g_lv2 [(0, .ref we), (1, .int x), (2, .int y), (3, .ref (stA j)), (4, .int (nI (i + 1)))] rfl h9
          · refine g_aload C dX8_nearestTo_51 rfl ?_
            refine g_astore_n C dX8_nearestTo_53 (by decide) ?_
            refine g_iinc C dX8_nearestTo_54 rfl (nI_1 i) (by decide) ?_
            refine g_goto C 5 dX8_nearestTo_57 (by decide) ?_
            have e9 := nearS_2 hnr (Int32.not_le.mp c_48)
            have h9 := ih (i + 1) (by omega)
            rw [e9] at h9
            exact g_lv2 [(0, .ref we), (1, .int x), (2, .int y), (3, .ref (stA i)), (4, .int (nI (i + 1)))] rfl h9
  refine g_null C dX8_nearestTo_0 ?_
  refine g_astore_nN C dX8_nearestTo_1 (by decide) ?_
  refine g_iconst C 0 dX8_nearestTo_2 (by rfl) ?_
  refine g_istore C dX8_nearestTo_3 (by decide) ?_
  exact g_lv2 [(0, .ref we), (1, .int x), (2, .int y), (3, .null), (4, .int (nI 0))] rfl (loop nS 0 (by omega))
theorem dX5_sum_0 : decode cX5_sum 0 = .ok (.iconst 0, 1) := by decide +kernel
theorem dX5_sum_1 : decode cX5_sum 1 = .ok (.istore_n 3, 1) := by decide +kernel
theorem dX5_sum_2 : decode cX5_sum 2 = .ok (.iload_n 1, 1) := by decide +kernel
theorem dX5_sum_3 : decode cX5_sum 3 = .ok (.iconst 0, 1) := by decide +kernel
theorem dX5_sum_4 : decode cX5_sum 4 = .ok (.invokestatic 25, 3) := by decide +kernel
theorem dX5_sum_7 : decode cX5_sum 7 = .ok (.istore 4, 2) := by decide +kernel
theorem dX5_sum_9 : decode cX5_sum 9 = .ok (.iload 4, 2) := by decide +kernel
theorem dX5_sum_11 : decode cX5_sum 11 = .ok (.iload_n 2, 1) := by decide +kernel
theorem dX5_sum_12 : decode cX5_sum 12 = .ok (.if_icmp .ge 29, 3) := by decide +kernel
theorem dX5_sum_15 : decode cX5_sum 15 = .ok (.iload 4, 2) := by decide +kernel
theorem dX5_sum_17 : decode cX5_sum 17 = .ok (.aload_n 0, 1) := by decide +kernel
theorem dX5_sum_18 : decode cX5_sum 18 = .ok (.getfield 9, 3) := by decide +kernel
theorem dX5_sum_21 : decode cX5_sum 21 = .ok (.arraylength, 1) := by decide +kernel
theorem dX5_sum_22 : decode cX5_sum 22 = .ok (.if_icmp .ge 19, 3) := by decide +kernel
theorem dX5_sum_25 : decode cX5_sum 25 = .ok (.iload_n 3, 1) := by decide +kernel
theorem dX5_sum_26 : decode cX5_sum 26 = .ok (.aload_n 0, 1) := by decide +kernel
theorem dX5_sum_27 : decode cX5_sum 27 = .ok (.getfield 9, 3) := by decide +kernel
theorem dX5_sum_30 : decode cX5_sum 30 = .ok (.iload 4, 2) := by decide +kernel
theorem dX5_sum_32 : decode cX5_sum 32 = .ok (.iaload, 1) := by decide +kernel
theorem dX5_sum_33 : decode cX5_sum 33 = .ok (.iadd, 1) := by decide +kernel
theorem dX5_sum_34 : decode cX5_sum 34 = .ok (.istore_n 3, 1) := by decide +kernel
theorem dX5_sum_35 : decode cX5_sum 35 = .ok (.iinc 4 1, 3) := by decide +kernel
theorem dX5_sum_38 : decode cX5_sum 38 = .ok (.goto (-29), 3) := by decide +kernel
theorem dX5_sum_41 : decode cX5_sum 41 = .ok (.iload_n 3, 1) := by decide +kernel
theorem dX5_sum_42 : decode cX5_sum 42 = .ok (.ireturn, 1) := by decide +kernel
set_option maxHeartbeats 4000000 in
set_option maxRecDepth 100000 in
theorem c_X5_sum (de : Nat) (w : Wd) (a ta x b : Nat) (hs : SR9 w a ta) (hx : x ≤ 1000) (hb : b ≤ 1000) : Ct yX5_sum cX5_sum 5 (some .int) 1 21 0 0 de [.ref a, .int (nI x), .int (nI b)] w (fun r w' => r = some (.int (sumF (aI w 1010 ta) x (min b 60 - x))) ∧ w = w') := by
  refine Ct.mk (by decide +kernel) [(0, .ref a), (1, .int (nI x)), (2, .int (nI b))] rfl (Nat.le_of_ble_eq_true rfl) ?_
  intro p l e R s m args below meth c D cy z C hnm
  obtain ⟨ha, htf, hta, htl⟩ := hs
  obtain ⟨N, hN⟩ : ∃ N : Nat, N = min b 60 - x := ⟨_, rfl⟩
  have loop : ∀ (k i : Nat), i + k = N → G p l e R s m args below meth c D cy z 5 w 0 0 9 [(0, .ref a), (2, .int (nI b)), (3, .int (sumF (aI w 1010 ta) x i)), (4, .int (nI (x + i)))] [] (QM below args s D cy z (fun r w' => r = some (.int (sumF (aI w 1010 ta) x N)) ∧ w = w') 0 0) := by
    intro k
    induction k with
    | zero =>
      intro i hik
      refine g_iload C dX5_sum_9 rfl ?_
      refine g_iload_n C dX5_sum_11 rfl ?_
      refine g_icmp_ge C 41 dX5_sum_12 (by decide) (fun c_12 => ?_) (fun c_12 => ?_)
      · refine g_iload_n C dX5_sum_41 rfl ?_
        refine g_iret C rfl rfl (by decide) (by decide) dX5_sum_42 ?_
        exact ⟨by rw [show i = N by omega], rfl⟩
      · refine g_iload C dX5_sum_15 rfl ?_
        refine g_aload_n C dX5_sum_17 rfl ?_
        refine g_getR (b := ta) C cls_6 7 0 ha htf rfl k_82 dX5_sum_18 ?_
        refine g_alen C 1010 0 hta rfl (by decide) dX5_sum_21 ?_
        refine g_icmp_ge C 41 dX5_sum_22 (by decide) (fun c_22 => ?_) (fun c_22 => ?_)
        · refine g_iload_n C dX5_sum_41 rfl ?_
          refine g_iret C rfl rfl (by decide) (by decide) dX5_sum_42 ?_
          exact ⟨by rw [show i = N by omega], rfl⟩
        · have h60 : ¬ nI 60 ≤ nI (x + i) := (by rw [htl] at c_22; exact c_22)
          exact absurd (nI_nle_of c_12 (by omega) (by omega)) (by have := nI_nle_of h60 (by omega) (by omega); omega)
    | succ k ih =>
      intro i hik
      have hx9 : x + i < b ∧ x + i < 60 := by omega
      refine g_iload C dX5_sum_9 rfl ?_
      refine g_iload_n C dX5_sum_11 rfl ?_
      refine g_icmp_ge C 41 dX5_sum_12 (by decide) (fun c_12 => ?_) (fun c_12 => ?_)
      · first
        | exact absurd (nI_le_of c_12 (by omega) (by omega)) (by omega)
        | (have h60 : nI 60 ≤ nI (x + i) := (by rw [htl] at c_22; exact c_22); exact absurd (nI_le_of h60 (by omega) (by omega)) (by omega))
      · refine g_iload C dX5_sum_15 rfl ?_
        refine g_aload_n C dX5_sum_17 rfl ?_
        refine g_getR (b := ta) C cls_6 7 0 ha htf rfl k_82 dX5_sum_18 ?_
        refine g_alen C 1010 0 hta rfl (by decide) dX5_sum_21 ?_
        refine g_icmp_ge C 41 dX5_sum_22 (by decide) (fun c_22 => ?_) (fun c_22 => ?_)
        · first
          | exact absurd (nI_le_of c_12 (by omega) (by omega)) (by omega)
          | (have h60 : nI 60 ≤ nI (x + i) := (by rw [htl] at c_22; exact c_22); exact absurd (nI_le_of h60 (by omega) (by omega)) (by omega))
        · refine g_iload_n C dX5_sum_25 rfl ?_
          refine g_aload_n C dX5_sum_26 rfl ?_
          refine g_getR (b := ta) C cls_6 7 0 ha htf rfl k_82 dX5_sum_27 ?_
          refine g_iload C dX5_sum_30 rfl ?_
          refine g_iald C 1010 hta rfl (by rw [htl]; exact nI_vp (by omega) (by omega)) dX5_sum_32 ?_
          refine g_iadd C dX5_sum_33 ?_
          refine g_istore_n C dX5_sum_34 (by decide) ?_
          refine g_iinc C dX5_sum_35 rfl (nI_1 (x + i)) (by decide) ?_
          refine g_goto C 9 dX5_sum_38 (by decide) ?_
          have h9 := ih (i + 1) (by omega)
          refine g_lv2 [(0, .ref a), (2, .int (nI b)), (3, .int (sumF (aI w 1010 ta) x i + aI w 1010 ta (x + i))), (4, .int (nI (x + (i + 1))))] ?_ h9
          rw [nI_tn (by omega)]
          rfl
  refine g_iconst C 0 dX5_sum_0 (by rfl) ?_
  refine g_istore_n C dX5_sum_1 (by decide) ?_
  refine g_iload_n C dX5_sum_2 rfl ?_
  refine g_iconst C 0 dX5_sum_3 (by rfl) ?_
  refine g_max C k_660 k_329 k_18 k_330 (by decide) (Nat.le_of_ble_eq_true rfl) (by decide) (by decide) dX5_sum_4 ?_
  rw [if_neg (nI_pos (by omega))]
  refine g_istore C dX5_sum_7 (by decide) ?_
  rw [← hN]
  exact g_lv2 [(0, .ref a), (2, .int (nI b)), (3, .int (sumF (aI w 1010 ta) x 0)), (4, .int (nI (x + 0)))] rfl (loop N 0 (by omega))
theorem dX5_drySpell_0 : decode cX5_drySpell 0 = .ok (.iconst 0, 1) := by decide +kernel
theorem dX5_drySpell_1 : decode cX5_drySpell 1 = .ok (.istore_n 3, 1) := by decide +kernel
theorem dX5_drySpell_2 : decode cX5_drySpell 2 = .ok (.iconst 0, 1) := by decide +kernel
theorem dX5_drySpell_3 : decode cX5_drySpell 3 = .ok (.istore 4, 2) := by decide +kernel
theorem dX5_drySpell_5 : decode cX5_drySpell 5 = .ok (.iload_n 1, 1) := by decide +kernel
theorem dX5_drySpell_6 : decode cX5_drySpell 6 = .ok (.iconst 0, 1) := by decide +kernel
theorem dX5_drySpell_7 : decode cX5_drySpell 7 = .ok (.invokestatic 25, 3) := by decide +kernel
theorem dX5_drySpell_10 : decode cX5_drySpell 10 = .ok (.istore 5, 2) := by decide +kernel
theorem dX5_drySpell_12 : decode cX5_drySpell 12 = .ok (.iload 5, 2) := by decide +kernel
theorem dX5_drySpell_14 : decode cX5_drySpell 14 = .ok (.iload_n 2, 1) := by decide +kernel
theorem dX5_drySpell_15 : decode cX5_drySpell 15 = .ok (.if_icmp .ge 48, 3) := by decide +kernel
theorem dX5_drySpell_18 : decode cX5_drySpell 18 = .ok (.iload 5, 2) := by decide +kernel
theorem dX5_drySpell_20 : decode cX5_drySpell 20 = .ok (.aload_n 0, 1) := by decide +kernel
theorem dX5_drySpell_21 : decode cX5_drySpell 21 = .ok (.getfield 9, 3) := by decide +kernel
theorem dX5_drySpell_24 : decode cX5_drySpell 24 = .ok (.arraylength, 1) := by decide +kernel
theorem dX5_drySpell_25 : decode cX5_drySpell 25 = .ok (.if_icmp .ge 38, 3) := by decide +kernel
theorem dX5_drySpell_28 : decode cX5_drySpell 28 = .ok (.aload_n 0, 1) := by decide +kernel
theorem dX5_drySpell_29 : decode cX5_drySpell 29 = .ok (.getfield 9, 3) := by decide +kernel
theorem dX5_drySpell_32 : decode cX5_drySpell 32 = .ok (.iload 5, 2) := by decide +kernel
theorem dX5_drySpell_34 : decode cX5_drySpell 34 = .ok (.iaload, 1) := by decide +kernel
theorem dX5_drySpell_35 : decode cX5_drySpell 35 = .ok (.bipush 10, 2) := by decide +kernel
theorem dX5_drySpell_37 : decode cX5_drySpell 37 = .ok (.if_icmp .ge 10, 3) := by decide +kernel
theorem dX5_drySpell_40 : decode cX5_drySpell 40 = .ok (.iload 4, 2) := by decide +kernel
theorem dX5_drySpell_42 : decode cX5_drySpell 42 = .ok (.iconst 1, 1) := by decide +kernel
theorem dX5_drySpell_43 : decode cX5_drySpell 43 = .ok (.iadd, 1) := by decide +kernel
theorem dX5_drySpell_44 : decode cX5_drySpell 44 = .ok (.goto 4, 3) := by decide +kernel
theorem dX5_drySpell_47 : decode cX5_drySpell 47 = .ok (.iconst 0, 1) := by decide +kernel
theorem dX5_drySpell_48 : decode cX5_drySpell 48 = .ok (.istore 4, 2) := by decide +kernel
theorem dX5_drySpell_50 : decode cX5_drySpell 50 = .ok (.iload_n 3, 1) := by decide +kernel
theorem dX5_drySpell_51 : decode cX5_drySpell 51 = .ok (.iload 4, 2) := by decide +kernel
theorem dX5_drySpell_53 : decode cX5_drySpell 53 = .ok (.invokestatic 25, 3) := by decide +kernel
theorem dX5_drySpell_56 : decode cX5_drySpell 56 = .ok (.istore_n 3, 1) := by decide +kernel
theorem dX5_drySpell_57 : decode cX5_drySpell 57 = .ok (.iinc 5 1, 3) := by decide +kernel
theorem dX5_drySpell_60 : decode cX5_drySpell 60 = .ok (.goto (-48), 3) := by decide +kernel
theorem dX5_drySpell_63 : decode cX5_drySpell 63 = .ok (.iload_n 3, 1) := by decide +kernel
theorem dX5_drySpell_64 : decode cX5_drySpell 64 = .ok (.ireturn, 1) := by decide +kernel
set_option maxHeartbeats 4000000 in
set_option maxRecDepth 100000 in
theorem c_X5_drySpell (de : Nat) (w : Wd) (a ta x b : Nat) (hs : SR9 w a ta) (hx : x ≤ 1000) (hb : b ≤ 1000) : Ct yX5_drySpell cX5_drySpell 6 (some .int) 1 21 0 0 de [.ref a, .int (nI x), .int (nI b)] w (fun r w' => r = some (.int (nI (dryN (aI w 1010 ta) x (min b 60 - x)).1)) ∧ w = w') := by
  refine Ct.mk (by decide +kernel) [(0, .ref a), (1, .int (nI x)), (2, .int (nI b))] rfl (Nat.le_of_ble_eq_true rfl) ?_
  intro p l e R s m args below meth c D cy z C hnm
  obtain ⟨ha, htf, hta, htl⟩ := hs
  obtain ⟨N, hN⟩ : ∃ N : Nat, N = min b 60 - x := ⟨_, rfl⟩
  have loop : ∀ (k i : Nat), i + k = N → G p l e R s m args below meth c D cy z 6 w 0 0 12 [(0, .ref a), (2, .int (nI b)), (3, .int (nI (dryN (aI w 1010 ta) x i).1)), (4, .int (nI (dryN (aI w 1010 ta) x i).2)), (5, .int (nI (x + i)))] [] (QM below args s D cy z (fun r w' => r = some (.int (nI (dryN (aI w 1010 ta) x N).1)) ∧ w = w') 0 0) := by
    intro k
    induction k with
    | zero =>
      intro i hik
      refine g_iload C dX5_drySpell_12 rfl ?_
      refine g_iload_n C dX5_drySpell_14 rfl ?_
      refine g_icmp_ge C 63 dX5_drySpell_15 (by decide) (fun c_15 => ?_) (fun c_15 => ?_)
      · refine g_iload_n C dX5_drySpell_63 rfl ?_
        refine g_iret C rfl rfl (by decide) (by decide) dX5_drySpell_64 ?_
        exact ⟨by rw [show i = N by omega], rfl⟩
      · refine g_iload C dX5_drySpell_18 rfl ?_
        refine g_aload_n C dX5_drySpell_20 rfl ?_
        refine g_getR (b := ta) C cls_6 7 0 ha htf rfl k_82 dX5_drySpell_21 ?_
        refine g_alen C 1010 0 hta rfl (by decide) dX5_drySpell_24 ?_
        refine g_icmp_ge C 63 dX5_drySpell_25 (by decide) (fun c_25 => ?_) (fun c_25 => ?_)
        · refine g_iload_n C dX5_drySpell_63 rfl ?_
          refine g_iret C rfl rfl (by decide) (by decide) dX5_drySpell_64 ?_
          exact ⟨by rw [show i = N by omega], rfl⟩
        · have h60 : ¬ nI 60 ≤ nI (x + i) := (by rw [htl] at c_25; exact c_25)
          exact absurd (nI_nle_of c_15 (by omega) (by omega)) (by have := nI_nle_of h60 (by omega) (by omega); omega)
    | succ k ih =>
      intro i hik
      have hx9 : x + i < b ∧ x + i < 60 := by omega
      have hd9 := dryN_le (f := aI w 1010 ta) (a := x) i
      refine g_iload C dX5_drySpell_12 rfl ?_
      refine g_iload_n C dX5_drySpell_14 rfl ?_
      refine g_icmp_ge C 63 dX5_drySpell_15 (by decide) (fun c_15 => ?_) (fun c_15 => ?_)
      · first
        | exact absurd (nI_le_of c_15 (by omega) (by omega)) (by omega)
        | (have h60 : nI 60 ≤ nI (x + i) := (by rw [htl] at c_25; exact c_25); exact absurd (nI_le_of h60 (by omega) (by omega)) (by omega))
      · refine g_iload C dX5_drySpell_18 rfl ?_
        refine g_aload_n C dX5_drySpell_20 rfl ?_
        refine g_getR (b := ta) C cls_6 7 0 ha htf rfl k_82 dX5_drySpell_21 ?_
        refine g_alen C 1010 0 hta rfl (by decide) dX5_drySpell_24 ?_
        refine g_icmp_ge C 63 dX5_drySpell_25 (by decide) (fun c_25 => ?_) (fun c_25 => ?_)
        · first
          | exact absurd (nI_le_of c_15 (by omega) (by omega)) (by omega)
          | (have h60 : nI 60 ≤ nI (x + i) := (by rw [htl] at c_25; exact c_25); exact absurd (nI_le_of h60 (by omega) (by omega)) (by omega))
        · refine g_aload_n C dX5_drySpell_28 rfl ?_
          refine g_getR (b := ta) C cls_6 7 0 ha htf rfl k_82 dX5_drySpell_29 ?_
          refine g_iload C dX5_drySpell_32 rfl ?_
          refine g_iald C 1010 hta rfl (by rw [htl]; exact nI_vp (by omega) (by omega)) dX5_drySpell_34 ?_
          refine g_bipush C 10 dX5_drySpell_35 (by rfl) ?_
          refine g_icmp_ge C 47 dX5_drySpell_37 (by decide) (fun c_37 => ?_) (fun c_37 => ?_)
          · refine g_iconst C 0 dX5_drySpell_47 (by rfl) ?_
            refine g_istore C dX5_drySpell_48 (by decide) ?_
            refine g_iload_n C dX5_drySpell_50 rfl ?_
            refine g_iload C dX5_drySpell_51 rfl ?_
            refine g_max C k_660 k_329 k_18 k_330 (by decide) (Nat.le_of_ble_eq_true rfl) (by decide) (by decide) dX5_drySpell_53 ?_
            first
            | rw [nI_1, nI_max (by omega) (by omega)]
            | rw [show (0 : Int32) = nI 0 from rfl, nI_max (by omega) (by omega)]
            refine g_istore_n C dX5_drySpell_56 (by decide) ?_
            refine g_iinc C dX5_drySpell_57 rfl (nI_1 (x + i)) (by decide) ?_
            refine g_goto C 12 dX5_drySpell_60 (by decide) ?_
            by_cases c_9 : aI w 1010 ta (x + i) < 10
            · have h9 := ih (i + 1) (by omega)
              have e1 : (dryN (aI w 1010 ta) x (i + 1)).2 = (dryN (aI w 1010 ta) x i).2 + 1 := if_pos c_9
              have e2 : (dryN (aI w 1010 ta) x (i + 1)).1 = max (dryN (aI w 1010 ta) x i).1 (dryN (aI w 1010 ta) x (i + 1)).2 := rfl
              rw [e2, e1] at h9
              first
              | exact g_lv2 _ rfl h9
              | exact absurd c_9 (by rw [nI_tn (by omega)] at c_37; exact Int32.not_lt.mpr c_37)
            · have h9 := ih (i + 1) (by omega)
              have e1 : (dryN (aI w 1010 ta) x (i + 1)).2 = 0 := if_neg c_9
              have e2 : (dryN (aI w 1010 ta) x (i + 1)).1 = max (dryN (aI w 1010 ta) x i).1 (dryN (aI w 1010 ta) x (i + 1)).2 := rfl
              rw [e2, e1] at h9
              first
              | exact g_lv2 _ rfl h9
              | exact absurd (by rw [nI_tn (by omega)] at c_37; exact Int32.not_le.mp c_37) c_9
          · refine g_iload C dX5_drySpell_40 rfl ?_
            refine g_iconst C 1 dX5_drySpell_42 (by rfl) ?_
            refine g_iadd C dX5_drySpell_43 ?_
            refine g_goto C 48 dX5_drySpell_44 (by decide) ?_
            refine g_istore C dX5_drySpell_48 (by decide) ?_
            refine g_iload_n C dX5_drySpell_50 rfl ?_
            refine g_iload C dX5_drySpell_51 rfl ?_
            refine g_max C k_660 k_329 k_18 k_330 (by decide) (Nat.le_of_ble_eq_true rfl) (by decide) (by decide) dX5_drySpell_53 ?_
            first
            | rw [nI_1, nI_max (by omega) (by omega)]
            | rw [show (0 : Int32) = nI 0 from rfl, nI_max (by omega) (by omega)]
            refine g_istore_n C dX5_drySpell_56 (by decide) ?_
            refine g_iinc C dX5_drySpell_57 rfl (nI_1 (x + i)) (by decide) ?_
            refine g_goto C 12 dX5_drySpell_60 (by decide) ?_
            by_cases c_9 : aI w 1010 ta (x + i) < 10
            · have h9 := ih (i + 1) (by omega)
              have e1 : (dryN (aI w 1010 ta) x (i + 1)).2 = (dryN (aI w 1010 ta) x i).2 + 1 := if_pos c_9
              have e2 : (dryN (aI w 1010 ta) x (i + 1)).1 = max (dryN (aI w 1010 ta) x i).1 (dryN (aI w 1010 ta) x (i + 1)).2 := rfl
              rw [e2, e1] at h9
              first
              | exact g_lv2 _ rfl h9
              | exact absurd c_9 (by rw [nI_tn (by omega)] at c_37; exact Int32.not_lt.mpr c_37)
            · have h9 := ih (i + 1) (by omega)
              have e1 : (dryN (aI w 1010 ta) x (i + 1)).2 = 0 := if_neg c_9
              have e2 : (dryN (aI w 1010 ta) x (i + 1)).1 = max (dryN (aI w 1010 ta) x i).1 (dryN (aI w 1010 ta) x (i + 1)).2 := rfl
              rw [e2, e1] at h9
              first
              | exact g_lv2 _ rfl h9
              | exact absurd (by rw [nI_tn (by omega)] at c_37; exact Int32.not_le.mp c_37) c_9
  refine g_iconst C 0 dX5_drySpell_0 (by rfl) ?_
  refine g_istore_n C dX5_drySpell_1 (by decide) ?_
  refine g_iconst C 0 dX5_drySpell_2 (by rfl) ?_
  refine g_istore C dX5_drySpell_3 (by decide) ?_
  refine g_iload_n C dX5_drySpell_5 rfl ?_
  refine g_iconst C 0 dX5_drySpell_6 (by rfl) ?_
  refine g_max C k_660 k_329 k_18 k_330 (by decide) (Nat.le_of_ble_eq_true rfl) (by decide) (by decide) dX5_drySpell_7 ?_
  rw [if_neg (nI_pos (by omega))]
  refine g_istore C dX5_drySpell_10 (by decide) ?_
  rw [← hN]
  exact g_lv2 [(0, .ref a), (2, .int (nI b)), (3, .int (nI (dryN (aI w 1010 ta) x 0).1)), (4, .int (nI (dryN (aI w 1010 ta) x 0).2)), (5, .int (nI (x + 0)))] rfl (loop N 0 (by omega))
end SEASON11
