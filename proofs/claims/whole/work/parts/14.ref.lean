section REF14
/-- the reference at m: its arrays, by their fields -/
def rmF : List (Nat × Nat × Nat) := [(1, 2010, 5), (2, 2020, 5), (4, 2040, 6000), (5, 2050, 6000), (7, 2070, 105), (8, 2080, 7), (9, 2090, 7), (12, 2120, 16), (13, 2130, 16), (14, 2140, 16), (15, 2150, 16), (16, 2160, 16), (18, 2180, 320), (19, 2191, 320), (23, 2230, 600), (25, 2250, 20), (26, 2261, 100), (28, 2280, 60)]
def RM (w : Wd) (m : Nat) (ad : Nat → Nat) : Prop := kd w m = 12 ∧ ∀ q ∈ rmF, fR w 12 q.1 m = some (ad q.1) ∧ kd w (ad q.1) = q.2.1 ∧ aL w (ad q.1) = q.2.2
theorem rm_1 {w : Wd} {m : Nat} {ad : Nat → Nat} (h : RM w m ad) : fR w 12 1 m = some (ad 1) ∧ kd w (ad 1) = 2010 ∧ aL w (ad 1) = 5 := h.2 (1, 2010, 5) (by decide)
theorem rm_2 {w : Wd} {m : Nat} {ad : Nat → Nat} (h : RM w m ad) : fR w 12 2 m = some (ad 2) ∧ kd w (ad 2) = 2020 ∧ aL w (ad 2) = 5 := h.2 (2, 2020, 5) (by decide)
theorem rm_4 {w : Wd} {m : Nat} {ad : Nat → Nat} (h : RM w m ad) : fR w 12 4 m = some (ad 4) ∧ kd w (ad 4) = 2040 ∧ aL w (ad 4) = 6000 := h.2 (4, 2040, 6000) (by decide)
theorem rm_5 {w : Wd} {m : Nat} {ad : Nat → Nat} (h : RM w m ad) : fR w 12 5 m = some (ad 5) ∧ kd w (ad 5) = 2050 ∧ aL w (ad 5) = 6000 := h.2 (5, 2050, 6000) (by decide)
theorem rm_7 {w : Wd} {m : Nat} {ad : Nat → Nat} (h : RM w m ad) : fR w 12 7 m = some (ad 7) ∧ kd w (ad 7) = 2070 ∧ aL w (ad 7) = 105 := h.2 (7, 2070, 105) (by decide)
theorem rm_8 {w : Wd} {m : Nat} {ad : Nat → Nat} (h : RM w m ad) : fR w 12 8 m = some (ad 8) ∧ kd w (ad 8) = 2080 ∧ aL w (ad 8) = 7 := h.2 (8, 2080, 7) (by decide)
theorem rm_9 {w : Wd} {m : Nat} {ad : Nat → Nat} (h : RM w m ad) : fR w 12 9 m = some (ad 9) ∧ kd w (ad 9) = 2090 ∧ aL w (ad 9) = 7 := h.2 (9, 2090, 7) (by decide)
theorem rm_12 {w : Wd} {m : Nat} {ad : Nat → Nat} (h : RM w m ad) : fR w 12 12 m = some (ad 12) ∧ kd w (ad 12) = 2120 ∧ aL w (ad 12) = 16 := h.2 (12, 2120, 16) (by decide)
theorem rm_13 {w : Wd} {m : Nat} {ad : Nat → Nat} (h : RM w m ad) : fR w 12 13 m = some (ad 13) ∧ kd w (ad 13) = 2130 ∧ aL w (ad 13) = 16 := h.2 (13, 2130, 16) (by decide)
theorem rm_14 {w : Wd} {m : Nat} {ad : Nat → Nat} (h : RM w m ad) : fR w 12 14 m = some (ad 14) ∧ kd w (ad 14) = 2140 ∧ aL w (ad 14) = 16 := h.2 (14, 2140, 16) (by decide)
theorem rm_15 {w : Wd} {m : Nat} {ad : Nat → Nat} (h : RM w m ad) : fR w 12 15 m = some (ad 15) ∧ kd w (ad 15) = 2150 ∧ aL w (ad 15) = 16 := h.2 (15, 2150, 16) (by decide)
theorem rm_16 {w : Wd} {m : Nat} {ad : Nat → Nat} (h : RM w m ad) : fR w 12 16 m = some (ad 16) ∧ kd w (ad 16) = 2160 ∧ aL w (ad 16) = 16 := h.2 (16, 2160, 16) (by decide)
theorem rm_18 {w : Wd} {m : Nat} {ad : Nat → Nat} (h : RM w m ad) : fR w 12 18 m = some (ad 18) ∧ kd w (ad 18) = 2180 ∧ aL w (ad 18) = 320 := h.2 (18, 2180, 320) (by decide)
theorem rm_19 {w : Wd} {m : Nat} {ad : Nat → Nat} (h : RM w m ad) : fR w 12 19 m = some (ad 19) ∧ kd w (ad 19) = 2191 ∧ aL w (ad 19) = 320 := h.2 (19, 2191, 320) (by decide)
theorem rm_23 {w : Wd} {m : Nat} {ad : Nat → Nat} (h : RM w m ad) : fR w 12 23 m = some (ad 23) ∧ kd w (ad 23) = 2230 ∧ aL w (ad 23) = 600 := h.2 (23, 2230, 600) (by decide)
theorem rm_25 {w : Wd} {m : Nat} {ad : Nat → Nat} (h : RM w m ad) : fR w 12 25 m = some (ad 25) ∧ kd w (ad 25) = 2250 ∧ aL w (ad 25) = 20 := h.2 (25, 2250, 20) (by decide)
theorem rm_26 {w : Wd} {m : Nat} {ad : Nat → Nat} (h : RM w m ad) : fR w 12 26 m = some (ad 26) ∧ kd w (ad 26) = 2261 ∧ aL w (ad 26) = 100 := h.2 (26, 2261, 100) (by decide)
theorem rm_28 {w : Wd} {m : Nat} {ad : Nat → Nat} (h : RM w m ad) : fR w 12 28 m = some (ad 28) ∧ kd w (ad 28) = 2280 ∧ aL w (ad 28) = 60 := h.2 (28, 2280, 60) (by decide)
theorem oI_s {j : Nat} : oI (some j) = nI j := rfl
theorem fI_pI {w : Wd} {K k a : Nat} {v : Int32} : fI (pI w K k a v) K k a = v := up3_same
def goV (a b c : Int32) : Int32 := if a = 0 then 1 else if b = 0 then 2 else if c = 0 then 3 else 0
theorem ix_1200 {i d : Nat} : (1200 : Int32) * nI i + nI d = nI (1200 * i + d) := by rw [show (1200 : Int32) = nI 1200 from rfl, pk_mul, nI_add]
def offV (X Y : Nat → Int32) (x y : Int32) (k : Nat) : Int32 := (x - X k) * (x - X k) + (y - Y k) * (y - Y k)
def byV (X Y : Nat → Int32) (s k : Nat) : Int32 := if k = s then -1 else offV X Y (X s) (Y s) k
/-- the nearest with a datum among the first k, as the reference finds it -/
def rnF (has : Nat → Int32) (bv : Nat → Int32) : Nat → Option Nat
  | 0 => none
  | k + 1 => if 0 < has k then match rnF has bv k with
    | none => some k
    | some j => if bv k < bv j then some k else some j
    else rnF has bv k
theorem rnF_0 {has bv : Nat → Int32} {k : Nat} (h : ¬ 0 < has k) : rnF has bv (k + 1) = rnF has bv k := by rw [rnF, if_neg h]
theorem rnF_1 {has bv : Nat → Int32} {k : Nat} (h : 0 < has k) (h2 : rnF has bv k = none) : rnF has bv (k + 1) = some k := by rw [rnF, if_pos h, h2]
theorem rnF_2 {has bv : Nat → Int32} {k j : Nat} (h : 0 < has k) (h2 : rnF has bv k = some j) (h3 : bv k < bv j) : rnF has bv (k + 1) = some k := by rw [rnF, if_pos h, h2]; exact if_pos h3
theorem rnF_3 {has bv : Nat → Int32} {k j : Nat} (h : 0 < has k) (h2 : rnF has bv k = some j) (h3 : ¬ bv k < bv j) : rnF has bv (k + 1) = some j := by rw [rnF, if_pos h, h2]; exact if_neg h3
theorem rnF_lt {has bv : Nat → Int32} : ∀ {k j : Nat}, rnF has bv k = some j → j < k
  | 0, j, h => by cases h
  | k + 1, j, h => by
    by_cases h1 : 0 < has k
    · cases h2 : rnF has bv k with
      | none => rw [rnF_1 h1 h2] at h; cases h; exact Nat.lt_succ_self _
      | some i =>
        by_cases h3 : bv k < bv i
        · rw [rnF_2 h1 h2 h3] at h; cases h; exact Nat.lt_succ_self _
        · rw [rnF_3 h1 h2 h3] at h; cases h; exact Nat.lt_succ_of_lt (rnF_lt h2)
    · rw [rnF_0 h1] at h; exact Nat.lt_succ_of_lt (rnF_lt h)
/-- the reference's rain of station s on day d -/
def rrV (nS : Nat) (X Y fs ls : Nat → Int32) (kn : Int32) (d s : Nat) : Int32 := match rnF (fun k => fs (1200 * k + d)) (byV X Y s) nS with
  | none => 0
  | some j => (if kn = 0 then fs (1200 * j + d) else ls (1200 * j + d)) - 1
theorem rrV_0 {nS : Nat} {X Y fs ls : Nat → Int32} {kn : Int32} {d s : Nat} (h : rnF (fun k => fs (1200 * k + d)) (byV X Y s) nS = none) : rrV nS X Y fs ls kn d s = 0 := by unfold rrV; rw [h]
theorem rrV_1 {nS j : Nat} {X Y fs ls : Nat → Int32} {kn : Int32} {d s : Nat} (h : rnF (fun k => fs (1200 * k + d)) (byV X Y s) nS = some j) : rrV nS X Y fs ls kn d s = (if kn = 0 then fs (1200 * j + d) else ls (1200 * j + d)) - 1 := by unfold rrV; rw [h]
theorem dX10_goes_0 : decode cX10_goes 0 = .ok (.aload_n 0, 1) := by decide +kernel
theorem dX10_goes_1 : decode cX10_goes 1 = .ok (.iload_n 1, 1) := by decide +kernel
theorem dX10_goes_2 : decode cX10_goes 2 = .ok (.ifCond .ne 7, 3) := by decide +kernel
theorem dX10_goes_5 : decode cX10_goes 5 = .ok (.iconst 1, 1) := by decide +kernel
theorem dX10_goes_6 : decode cX10_goes 6 = .ok (.goto 20, 3) := by decide +kernel
theorem dX10_goes_9 : decode cX10_goes 9 = .ok (.iload_n 2, 1) := by decide +kernel
theorem dX10_goes_10 : decode cX10_goes 10 = .ok (.ifCond .ne 7, 3) := by decide +kernel
theorem dX10_goes_13 : decode cX10_goes 13 = .ok (.iconst 2, 1) := by decide +kernel
theorem dX10_goes_14 : decode cX10_goes 14 = .ok (.goto 12, 3) := by decide +kernel
theorem dX10_goes_17 : decode cX10_goes 17 = .ok (.iload_n 3, 1) := by decide +kernel
theorem dX10_goes_18 : decode cX10_goes 18 = .ok (.ifCond .eq 7, 3) := by decide +kernel
theorem dX10_goes_21 : decode cX10_goes 21 = .ok (.iconst 0, 1) := by decide +kernel
theorem dX10_goes_22 : decode cX10_goes 22 = .ok (.goto 4, 3) := by decide +kernel
theorem dX10_goes_25 : decode cX10_goes 25 = .ok (.iconst 3, 1) := by decide +kernel
theorem dX10_goes_26 : decode cX10_goes 26 = .ok (.putfield 75, 3) := by decide +kernel
theorem dX10_goes_29 : decode cX10_goes 29 = .ok (.aload_n 0, 1) := by decide +kernel
theorem dX10_goes_30 : decode cX10_goes 30 = .ok (.getfield 75, 3) := by decide +kernel
theorem dX10_goes_33 : decode cX10_goes 33 = .ok (.ifCond .ne 7, 3) := by decide +kernel
theorem dX10_goes_36 : decode cX10_goes 36 = .ok (.iconst 1, 1) := by decide +kernel
theorem dX10_goes_37 : decode cX10_goes 37 = .ok (.goto 4, 3) := by decide +kernel
theorem dX10_goes_40 : decode cX10_goes 40 = .ok (.iconst 0, 1) := by decide +kernel
theorem dX10_goes_41 : decode cX10_goes 41 = .ok (.ireturn, 1) := by decide +kernel
set_option maxHeartbeats 4000000 in
set_option maxRecDepth 100000 in
theorem c_X10_goes (de : Nat) (w : Wd) (mo : Nat) (ad : Nat → Nat) (hm : RM w mo ad) (a b cq : Int32) : Ct yX10_goes cX10_goes 4 (some .boolean) 0 0 0 0 de [.ref mo, .int a, .int b, .int cq] w (fun r w' => r = some (.int (bI (decide (goV a b cq = 0)))) ∧ w' = pI w 12 29 mo (goV a b cq)) := by
  refine Ct.mk (by decide +kernel) [(0, .ref mo), (1, .int a), (2, .int b), (3, .int cq)] rfl (Nat.le_of_ble_eq_true rfl) ?_
  intro p l e R s m args below meth c D cy z C hnm
  refine g_aload_n C dX10_goes_0 rfl ?_
  refine g_iload_n C dX10_goes_1 rfl ?_
  refine g_if_ne C 9 dX10_goes_2 (by decide) (fun c_2 => ?_) (fun c_2 => ?_)
  · refine g_iload_n C dX10_goes_9 rfl ?_
    refine g_if_ne C 17 dX10_goes_10 (by decide) (fun c_10 => ?_) (fun c_10 => ?_)
    · refine g_iload_n C dX10_goes_17 rfl ?_
      refine g_if_eq C 25 dX10_goes_18 (by decide) (fun c_18 => ?_) (fun c_18 => ?_)
      · refine g_iconst C 3 dX10_goes_25 (by rfl) ?_
        refine g_putI C cls_11 12 29 hm.1 rfl (Or.inl rfl) rfl rfl k_944 dX10_goes_26 ?_
        refine g_aload_n C dX10_goes_29 rfl ?_
        refine g_getI C cls_11 12 29 hm.1 rfl k_944 dX10_goes_30 ?_
        rw [fI_pI]
        refine g_if_ne C 40 dX10_goes_33 (by decide) (fun c_33 => ?_) (fun c_33 => ?_)
        · refine g_iconst C 0 dX10_goes_40 (by rfl) ?_
          refine g_iret C rfl rfl (by decide) (by decide) dX10_goes_41 ?_
          first
          | exact absurd c_33 (by decide)
          | exact absurd rfl c_33
          | (have e8 : goV a b cq = 1 := (if_pos c_2); rw [e8]; exact ⟨rfl, rfl⟩)
          | (have e8 : goV a b cq = 2 := ((if_neg c_2).trans (if_pos c_10)); rw [e8]; exact ⟨rfl, rfl⟩)
          | (have e8 : goV a b cq = 0 := ((if_neg c_2).trans ((if_neg c_10).trans (if_neg c_18))); rw [e8]; exact ⟨rfl, rfl⟩)
          | (have e8 : goV a b cq = 3 := ((if_neg c_2).trans ((if_neg c_10).trans (if_pos c_18))); rw [e8]; exact ⟨rfl, rfl⟩)
        · refine g_iconst C 1 dX10_goes_36 (by rfl) ?_
          refine g_goto C 41 dX10_goes_37 (by decide) ?_
          refine g_iret C rfl rfl (by decide) (by decide) dX10_goes_41 ?_
          first
          | exact absurd c_33 (by decide)
          | exact absurd rfl c_33
          | (have e8 : goV a b cq = 1 := (if_pos c_2); rw [e8]; exact ⟨rfl, rfl⟩)
          | (have e8 : goV a b cq = 2 := ((if_neg c_2).trans (if_pos c_10)); rw [e8]; exact ⟨rfl, rfl⟩)
          | (have e8 : goV a b cq = 0 := ((if_neg c_2).trans ((if_neg c_10).trans (if_neg c_18))); rw [e8]; exact ⟨rfl, rfl⟩)
          | (have e8 : goV a b cq = 3 := ((if_neg c_2).trans ((if_neg c_10).trans (if_pos c_18))); rw [e8]; exact ⟨rfl, rfl⟩)
      · refine g_iconst C 0 dX10_goes_21 (by rfl) ?_
        refine g_goto C 26 dX10_goes_22 (by decide) ?_
        refine g_putI C cls_11 12 29 hm.1 rfl (Or.inl rfl) rfl rfl k_944 dX10_goes_26 ?_
        refine g_aload_n C dX10_goes_29 rfl ?_
        refine g_getI C cls_11 12 29 hm.1 rfl k_944 dX10_goes_30 ?_
        rw [fI_pI]
        refine g_if_ne C 40 dX10_goes_33 (by decide) (fun c_33 => ?_) (fun c_33 => ?_)
        · refine g_iconst C 0 dX10_goes_40 (by rfl) ?_
          refine g_iret C rfl rfl (by decide) (by decide) dX10_goes_41 ?_
          first
          | exact absurd c_33 (by decide)
          | exact absurd rfl c_33
          | (have e8 : goV a b cq = 1 := (if_pos c_2); rw [e8]; exact ⟨rfl, rfl⟩)
          | (have e8 : goV a b cq = 2 := ((if_neg c_2).trans (if_pos c_10)); rw [e8]; exact ⟨rfl, rfl⟩)
          | (have e8 : goV a b cq = 0 := ((if_neg c_2).trans ((if_neg c_10).trans (if_neg c_18))); rw [e8]; exact ⟨rfl, rfl⟩)
          | (have e8 : goV a b cq = 3 := ((if_neg c_2).trans ((if_neg c_10).trans (if_pos c_18))); rw [e8]; exact ⟨rfl, rfl⟩)
        · refine g_iconst C 1 dX10_goes_36 (by rfl) ?_
          refine g_goto C 41 dX10_goes_37 (by decide) ?_
          refine g_iret C rfl rfl (by decide) (by decide) dX10_goes_41 ?_
          first
          | exact absurd c_33 (by decide)
          | exact absurd rfl c_33
          | (have e8 : goV a b cq = 1 := (if_pos c_2); rw [e8]; exact ⟨rfl, rfl⟩)
          | (have e8 : goV a b cq = 2 := ((if_neg c_2).trans (if_pos c_10)); rw [e8]; exact ⟨rfl, rfl⟩)
          | (have e8 : goV a b cq = 0 := ((if_neg c_2).trans ((if_neg c_10).trans (if_neg c_18))); rw [e8]; exact ⟨rfl, rfl⟩)
          | (have e8 : goV a b cq = 3 := ((if_neg c_2).trans ((if_neg c_10).trans (if_pos c_18))); rw [e8]; exact ⟨rfl, rfl⟩)
    · refine g_iconst C 2 dX10_goes_13 (by rfl) ?_
      refine g_goto C 26 dX10_goes_14 (by decide) ?_
      refine g_putI C cls_11 12 29 hm.1 rfl (Or.inl rfl) rfl rfl k_944 dX10_goes_26 ?_
      refine g_aload_n C dX10_goes_29 rfl ?_
      refine g_getI C cls_11 12 29 hm.1 rfl k_944 dX10_goes_30 ?_
      rw [fI_pI]
      refine g_if_ne C 40 dX10_goes_33 (by decide) (fun c_33 => ?_) (fun c_33 => ?_)
      · refine g_iconst C 0 dX10_goes_40 (by rfl) ?_
        refine g_iret C rfl rfl (by decide) (by decide) dX10_goes_41 ?_
        first
        | exact absurd c_33 (by decide)
        | exact absurd rfl c_33
        | (have e8 : goV a b cq = 1 := (if_pos c_2); rw [e8]; exact ⟨rfl, rfl⟩)
        | (have e8 : goV a b cq = 2 := ((if_neg c_2).trans (if_pos c_10)); rw [e8]; exact ⟨rfl, rfl⟩)
        | (have e8 : goV a b cq = 0 := ((if_neg c_2).trans ((if_neg c_10).trans (if_neg c_18))); rw [e8]; exact ⟨rfl, rfl⟩)
        | (have e8 : goV a b cq = 3 := ((if_neg c_2).trans ((if_neg c_10).trans (if_pos c_18))); rw [e8]; exact ⟨rfl, rfl⟩)
      · refine g_iconst C 1 dX10_goes_36 (by rfl) ?_
        refine g_goto C 41 dX10_goes_37 (by decide) ?_
        refine g_iret C rfl rfl (by decide) (by decide) dX10_goes_41 ?_
        first
        | exact absurd c_33 (by decide)
        | exact absurd rfl c_33
        | (have e8 : goV a b cq = 1 := (if_pos c_2); rw [e8]; exact ⟨rfl, rfl⟩)
        | (have e8 : goV a b cq = 2 := ((if_neg c_2).trans (if_pos c_10)); rw [e8]; exact ⟨rfl, rfl⟩)
        | (have e8 : goV a b cq = 0 := ((if_neg c_2).trans ((if_neg c_10).trans (if_neg c_18))); rw [e8]; exact ⟨rfl, rfl⟩)
        | (have e8 : goV a b cq = 3 := ((if_neg c_2).trans ((if_neg c_10).trans (if_pos c_18))); rw [e8]; exact ⟨rfl, rfl⟩)
  · refine g_iconst C 1 dX10_goes_5 (by rfl) ?_
    refine g_goto C 26 dX10_goes_6 (by decide) ?_
    refine g_putI C cls_11 12 29 hm.1 rfl (Or.inl rfl) rfl rfl k_944 dX10_goes_26 ?_
    refine g_aload_n C dX10_goes_29 rfl ?_
    refine g_getI C cls_11 12 29 hm.1 rfl k_944 dX10_goes_30 ?_
    rw [fI_pI]
    refine g_if_ne C 40 dX10_goes_33 (by decide) (fun c_33 => ?_) (fun c_33 => ?_)
    · refine g_iconst C 0 dX10_goes_40 (by rfl) ?_
      refine g_iret C rfl rfl (by decide) (by decide) dX10_goes_41 ?_
      first
      | exact absurd c_33 (by decide)
      | exact absurd rfl c_33
      | (have e8 : goV a b cq = 1 := (if_pos c_2); rw [e8]; exact ⟨rfl, rfl⟩)
      | (have e8 : goV a b cq = 2 := ((if_neg c_2).trans (if_pos c_10)); rw [e8]; exact ⟨rfl, rfl⟩)
      | (have e8 : goV a b cq = 0 := ((if_neg c_2).trans ((if_neg c_10).trans (if_neg c_18))); rw [e8]; exact ⟨rfl, rfl⟩)
      | (have e8 : goV a b cq = 3 := ((if_neg c_2).trans ((if_neg c_10).trans (if_pos c_18))); rw [e8]; exact ⟨rfl, rfl⟩)
    · refine g_iconst C 1 dX10_goes_36 (by rfl) ?_
      refine g_goto C 41 dX10_goes_37 (by decide) ?_
      refine g_iret C rfl rfl (by decide) (by decide) dX10_goes_41 ?_
      first
      | exact absurd c_33 (by decide)
      | exact absurd rfl c_33
      | (have e8 : goV a b cq = 1 := (if_pos c_2); rw [e8]; exact ⟨rfl, rfl⟩)
      | (have e8 : goV a b cq = 2 := ((if_neg c_2).trans (if_pos c_10)); rw [e8]; exact ⟨rfl, rfl⟩)
      | (have e8 : goV a b cq = 0 := ((if_neg c_2).trans ((if_neg c_10).trans (if_neg c_18))); rw [e8]; exact ⟨rfl, rfl⟩)
      | (have e8 : goV a b cq = 3 := ((if_neg c_2).trans ((if_neg c_10).trans (if_pos c_18))); rw [e8]; exact ⟨rfl, rfl⟩)
theorem dX10_isStation_0 : decode cX10_isStation 0 = .ok (.iload_n 1, 1) := by decide +kernel
theorem dX10_isStation_1 : decode cX10_isStation 1 = .ok (.iconst 0, 1) := by decide +kernel
theorem dX10_isStation_2 : decode cX10_isStation 2 = .ok (.aload_n 0, 1) := by decide +kernel
theorem dX10_isStation_3 : decode cX10_isStation 3 = .ok (.getfield 78, 3) := by decide +kernel
theorem dX10_isStation_6 : decode cX10_isStation 6 = .ok (.iconst 1, 1) := by decide +kernel
theorem dX10_isStation_7 : decode cX10_isStation 7 = .ok (.isub, 1) := by decide +kernel
theorem dX10_isStation_8 : decode cX10_isStation 8 = .ok (.invokestatic 81, 3) := by decide +kernel
theorem dX10_isStation_11 : decode cX10_isStation 11 = .ok (.ireturn, 1) := by decide +kernel
set_option maxHeartbeats 4000000 in
set_option maxRecDepth 100000 in
theorem c_X10_isStation (de : Nat) (w : Wd) (mo : Nat) (ad : Nat → Nat) (hm : RM w mo ad) (a : Int32) : Ct yX10_isStation cX10_isStation 2 (some .boolean) 1 22 0 0 de [.ref mo, .int a] w (fun r w' => r = some (.int (bI (inR a 0 (fI w 12 3 mo - 1)))) ∧ w = w') := by
  refine Ct.mk (by decide +kernel) [(0, .ref mo), (1, .int a)] rfl (Nat.le_of_ble_eq_true rfl) ?_
  intro p l e R s m args below meth c D cy z C hnm
  refine g_iload_n C dX10_isStation_0 rfl ?_
  refine g_iconst C 0 dX10_isStation_1 (by rfl) ?_
  refine g_aload_n C dX10_isStation_2 rfl ?_
  refine g_getI C cls_11 12 3 hm.1 rfl k_918 dX10_isStation_3 ?_
  refine g_iconst C 1 dX10_isStation_6 (by rfl) ?_
  refine g_isub C dX10_isStation_7 ?_
  refine g_callS C mt_X10_in [.int a, .int 0, .int (fI w 12 3 mo - 1)] (c_X10_in de w a 0 (fI w 12 3 mo - 1)) k_1014 rfl rfl (Nat.le_of_ble_eq_true rfl) (by decide) (by decide) (by decide) (by decide) dX10_isStation_8 (fun r_8 w_8 hp_8 => ?_)
  obtain ⟨rfl, rfl⟩ := hp_8
  refine g_iret C rfl (bI_nar _) (by decide) (by decide) dX10_isStation_11 ?_
  exact ⟨rfl, rfl⟩
theorem dX10_isProduct_0 : decode cX10_isProduct 0 = .ok (.iload_n 1, 1) := by decide +kernel
theorem dX10_isProduct_1 : decode cX10_isProduct 1 = .ok (.iconst 0, 1) := by decide +kernel
theorem dX10_isProduct_2 : decode cX10_isProduct 2 = .ok (.aload_n 0, 1) := by decide +kernel
theorem dX10_isProduct_3 : decode cX10_isProduct 3 = .ok (.getfield 85, 3) := by decide +kernel
theorem dX10_isProduct_6 : decode cX10_isProduct 6 = .ok (.iconst 1, 1) := by decide +kernel
theorem dX10_isProduct_7 : decode cX10_isProduct 7 = .ok (.isub, 1) := by decide +kernel
theorem dX10_isProduct_8 : decode cX10_isProduct 8 = .ok (.invokestatic 81, 3) := by decide +kernel
theorem dX10_isProduct_11 : decode cX10_isProduct 11 = .ok (.ireturn, 1) := by decide +kernel
set_option maxHeartbeats 4000000 in
set_option maxRecDepth 100000 in
theorem c_X10_isProduct (de : Nat) (w : Wd) (mo : Nat) (ad : Nat → Nat) (hm : RM w mo ad) (a : Int32) : Ct yX10_isProduct cX10_isProduct 2 (some .boolean) 1 22 0 0 de [.ref mo, .int a] w (fun r w' => r = some (.int (bI (inR a 0 (fI w 12 10 mo - 1)))) ∧ w = w') := by
  refine Ct.mk (by decide +kernel) [(0, .ref mo), (1, .int a)] rfl (Nat.le_of_ble_eq_true rfl) ?_
  intro p l e R s m args below meth c D cy z C hnm
  refine g_iload_n C dX10_isProduct_0 rfl ?_
  refine g_iconst C 0 dX10_isProduct_1 (by rfl) ?_
  refine g_aload_n C dX10_isProduct_2 rfl ?_
  refine g_getI C cls_11 12 10 hm.1 rfl k_925 dX10_isProduct_3 ?_
  refine g_iconst C 1 dX10_isProduct_6 (by rfl) ?_
  refine g_isub C dX10_isProduct_7 ?_
  refine g_callS C mt_X10_in [.int a, .int 0, .int (fI w 12 10 mo - 1)] (c_X10_in de w a 0 (fI w 12 10 mo - 1)) k_1014 rfl rfl (Nat.le_of_ble_eq_true rfl) (by decide) (by decide) (by decide) (by decide) dX10_isProduct_8 (fun r_8 w_8 hp_8 => ?_)
  obtain ⟨rfl, rfl⟩ := hp_8
  refine g_iret C rfl (bI_nar _) (by decide) (by decide) dX10_isProduct_11 ?_
  exact ⟨rfl, rfl⟩
theorem dX10_isFarm_0 : decode cX10_isFarm 0 = .ok (.iload_n 1, 1) := by decide +kernel
theorem dX10_isFarm_1 : decode cX10_isFarm 1 = .ok (.iconst 0, 1) := by decide +kernel
theorem dX10_isFarm_2 : decode cX10_isFarm 2 = .ok (.aload_n 0, 1) := by decide +kernel
theorem dX10_isFarm_3 : decode cX10_isFarm 3 = .ok (.getfield 88, 3) := by decide +kernel
theorem dX10_isFarm_6 : decode cX10_isFarm 6 = .ok (.iconst 1, 1) := by decide +kernel
theorem dX10_isFarm_7 : decode cX10_isFarm 7 = .ok (.isub, 1) := by decide +kernel
theorem dX10_isFarm_8 : decode cX10_isFarm 8 = .ok (.invokestatic 81, 3) := by decide +kernel
theorem dX10_isFarm_11 : decode cX10_isFarm 11 = .ok (.ireturn, 1) := by decide +kernel
set_option maxHeartbeats 4000000 in
set_option maxRecDepth 100000 in
theorem c_X10_isFarm (de : Nat) (w : Wd) (mo : Nat) (ad : Nat → Nat) (hm : RM w mo ad) (a : Int32) : Ct yX10_isFarm cX10_isFarm 2 (some .boolean) 1 22 0 0 de [.ref mo, .int a] w (fun r w' => r = some (.int (bI (inR a 0 (fI w 12 17 mo - 1)))) ∧ w = w') := by
  refine Ct.mk (by decide +kernel) [(0, .ref mo), (1, .int a)] rfl (Nat.le_of_ble_eq_true rfl) ?_
  intro p l e R s m args below meth c D cy z C hnm
  refine g_iload_n C dX10_isFarm_0 rfl ?_
  refine g_iconst C 0 dX10_isFarm_1 (by rfl) ?_
  refine g_aload_n C dX10_isFarm_2 rfl ?_
  refine g_getI C cls_11 12 17 hm.1 rfl k_932 dX10_isFarm_3 ?_
  refine g_iconst C 1 dX10_isFarm_6 (by rfl) ?_
  refine g_isub C dX10_isFarm_7 ?_
  refine g_callS C mt_X10_in [.int a, .int 0, .int (fI w 12 17 mo - 1)] (c_X10_in de w a 0 (fI w 12 17 mo - 1)) k_1014 rfl rfl (Nat.le_of_ble_eq_true rfl) (by decide) (by decide) (by decide) (by decide) dX10_isFarm_8 (fun r_8 w_8 hp_8 => ?_)
  obtain ⟨rfl, rfl⟩ := hp_8
  refine g_iret C rfl (bI_nar _) (by decide) (by decide) dX10_isFarm_11 ?_
  exact ⟨rfl, rfl⟩
theorem dX10_isSeason_0 : decode cX10_isSeason 0 = .ok (.iload_n 0, 1) := by decide +kernel
theorem dX10_isSeason_1 : decode cX10_isSeason 1 = .ok (.iconst 0, 1) := by decide +kernel
theorem dX10_isSeason_2 : decode cX10_isSeason 2 = .ok (.bipush 19, 2) := by decide +kernel
theorem dX10_isSeason_4 : decode cX10_isSeason 4 = .ok (.invokestatic 81, 3) := by decide +kernel
theorem dX10_isSeason_7 : decode cX10_isSeason 7 = .ok (.ireturn, 1) := by decide +kernel
set_option maxHeartbeats 4000000 in
set_option maxRecDepth 100000 in
theorem c_X10_isSeason (de : Nat) (w : Wd) (a : Int32) : Ct yX10_isSeason cX10_isSeason 1 (some .boolean) 1 22 0 0 de [.int a] w (fun r w' => r = some (.int (bI (inR a 0 19))) ∧ w = w') := by
  refine Ct.mk (by decide +kernel) [(0, .int a)] rfl (Nat.le_of_ble_eq_true rfl) ?_
  intro p l e R s m args below meth c D cy z C hnm
  refine g_iload_n C dX10_isSeason_0 rfl ?_
  refine g_iconst C 0 dX10_isSeason_1 (by rfl) ?_
  refine g_bipush C 19 dX10_isSeason_2 (by rfl) ?_
  refine g_callS C mt_X10_in [.int a, .int 0, .int 19] (c_X10_in de w a 0 19) k_1014 rfl rfl (Nat.le_of_ble_eq_true rfl) (by decide) (by decide) (by decide) (by decide) dX10_isSeason_4 (fun r_4 w_4 hp_4 => ?_)
  obtain ⟨rfl, rfl⟩ := hp_4
  refine g_iret C rfl (bI_nar _) (by decide) (by decide) dX10_isSeason_7 ?_
  exact ⟨rfl, rfl⟩
theorem dX10_off_0 : decode cX10_off 0 = .ok (.iload_n 1, 1) := by decide +kernel
theorem dX10_off_1 : decode cX10_off 1 = .ok (.aload_n 0, 1) := by decide +kernel
theorem dX10_off_2 : decode cX10_off 2 = .ok (.getfield 7, 3) := by decide +kernel
theorem dX10_off_5 : decode cX10_off 5 = .ok (.iload_n 3, 1) := by decide +kernel
theorem dX10_off_6 : decode cX10_off 6 = .ok (.iaload, 1) := by decide +kernel
theorem dX10_off_7 : decode cX10_off 7 = .ok (.isub, 1) := by decide +kernel
theorem dX10_off_8 : decode cX10_off 8 = .ok (.iload_n 1, 1) := by decide +kernel
theorem dX10_off_9 : decode cX10_off 9 = .ok (.aload_n 0, 1) := by decide +kernel
theorem dX10_off_10 : decode cX10_off 10 = .ok (.getfield 7, 3) := by decide +kernel
theorem dX10_off_13 : decode cX10_off 13 = .ok (.iload_n 3, 1) := by decide +kernel
theorem dX10_off_14 : decode cX10_off 14 = .ok (.iaload, 1) := by decide +kernel
theorem dX10_off_15 : decode cX10_off 15 = .ok (.isub, 1) := by decide +kernel
theorem dX10_off_16 : decode cX10_off 16 = .ok (.imul, 1) := by decide +kernel
theorem dX10_off_17 : decode cX10_off 17 = .ok (.iload_n 2, 1) := by decide +kernel
theorem dX10_off_18 : decode cX10_off 18 = .ok (.aload_n 0, 1) := by decide +kernel
theorem dX10_off_19 : decode cX10_off 19 = .ok (.getfield 13, 3) := by decide +kernel
theorem dX10_off_22 : decode cX10_off 22 = .ok (.iload_n 3, 1) := by decide +kernel
theorem dX10_off_23 : decode cX10_off 23 = .ok (.iaload, 1) := by decide +kernel
theorem dX10_off_24 : decode cX10_off 24 = .ok (.isub, 1) := by decide +kernel
theorem dX10_off_25 : decode cX10_off 25 = .ok (.iload_n 2, 1) := by decide +kernel
theorem dX10_off_26 : decode cX10_off 26 = .ok (.aload_n 0, 1) := by decide +kernel
theorem dX10_off_27 : decode cX10_off 27 = .ok (.getfield 13, 3) := by decide +kernel
theorem dX10_off_30 : decode cX10_off 30 = .ok (.iload_n 3, 1) := by decide +kernel
theorem dX10_off_31 : decode cX10_off 31 = .ok (.iaload, 1) := by decide +kernel
theorem dX10_off_32 : decode cX10_off 32 = .ok (.isub, 1) := by decide +kernel
theorem dX10_off_33 : decode cX10_off 33 = .ok (.imul, 1) := by decide +kernel
theorem dX10_off_34 : decode cX10_off 34 = .ok (.iadd, 1) := by decide +kernel
theorem dX10_off_35 : decode cX10_off 35 = .ok (.ireturn, 1) := by decide +kernel
set_option maxHeartbeats 4000000 in
set_option maxRecDepth 100000 in
theorem c_X10_off (de : Nat) (w : Wd) (mo : Nat) (ad : Nat → Nat) (hm : RM w mo ad) (x y : Int32) (k : Nat) (hk : k < 5) : Ct yX10_off cX10_off 4 (some .int) 0 0 0 0 de [.ref mo, .int x, .int y, .int (nI k)] w (fun r w' => r = some (.int (offV (aI w 2010 (ad 1)) (aI w 2020 (ad 2)) x y k)) ∧ w = w') := by
  refine Ct.mk (by decide +kernel) [(0, .ref mo), (1, .int x), (2, .int y), (3, .int (nI k))] rfl (Nat.le_of_ble_eq_true rfl) ?_
  intro p l e R s m args below meth c D cy z C hnm
  refine g_iload_n C dX10_off_0 rfl ?_
  refine g_aload_n C dX10_off_1 rfl ?_
  refine g_getR (b := (ad 1)) C cls_11 12 1 hm.1 (rm_1 hm).1 rfl k_916 dX10_off_2 ?_
  refine g_iload_n C dX10_off_5 rfl ?_
  refine g_iald C 2010 (rm_1 hm).2.1 rfl (by rw [(rm_1 hm).2.2]; exact nI_vp hk (by omega)) dX10_off_6 ?_
  refine g_isub C dX10_off_7 ?_
  refine g_iload_n C dX10_off_8 rfl ?_
  refine g_aload_n C dX10_off_9 rfl ?_
  refine g_getR (b := (ad 1)) C cls_11 12 1 hm.1 (rm_1 hm).1 rfl k_916 dX10_off_10 ?_
  refine g_iload_n C dX10_off_13 rfl ?_
  refine g_iald C 2010 (rm_1 hm).2.1 rfl (by rw [(rm_1 hm).2.2]; exact nI_vp hk (by omega)) dX10_off_14 ?_
  refine g_isub C dX10_off_15 ?_
  refine g_imul C dX10_off_16 ?_
  refine g_iload_n C dX10_off_17 rfl ?_
  refine g_aload_n C dX10_off_18 rfl ?_
  refine g_getR (b := (ad 2)) C cls_11 12 2 hm.1 (rm_2 hm).1 rfl k_917 dX10_off_19 ?_
  refine g_iload_n C dX10_off_22 rfl ?_
  refine g_iald C 2020 (rm_2 hm).2.1 rfl (by rw [(rm_2 hm).2.2]; exact nI_vp hk (by omega)) dX10_off_23 ?_
  refine g_isub C dX10_off_24 ?_
  refine g_iload_n C dX10_off_25 rfl ?_
  refine g_aload_n C dX10_off_26 rfl ?_
  refine g_getR (b := (ad 2)) C cls_11 12 2 hm.1 (rm_2 hm).1 rfl k_917 dX10_off_27 ?_
  refine g_iload_n C dX10_off_30 rfl ?_
  refine g_iald C 2020 (rm_2 hm).2.1 rfl (by rw [(rm_2 hm).2.2]; exact nI_vp hk (by omega)) dX10_off_31 ?_
  refine g_isub C dX10_off_32 ?_
  refine g_imul C dX10_off_33 ?_
  refine g_iadd C dX10_off_34 ?_
  refine g_iret C rfl rfl (by decide) (by decide) dX10_off_35 ?_
  exact ⟨by rw [nI_tn (by omega)]; rfl, rfl⟩
theorem dX10_rainOn_0 : decode cX10_rainOn 0 = .ok (.iconst (-1), 1) := by decide +kernel
theorem dX10_rainOn_1 : decode cX10_rainOn 1 = .ok (.istore 4, 2) := by decide +kernel
theorem dX10_rainOn_3 : decode cX10_rainOn 3 = .ok (.iconst 0, 1) := by decide +kernel
theorem dX10_rainOn_4 : decode cX10_rainOn 4 = .ok (.istore 5, 2) := by decide +kernel
theorem dX10_rainOn_6 : decode cX10_rainOn 6 = .ok (.iload 5, 2) := by decide +kernel
theorem dX10_rainOn_8 : decode cX10_rainOn 8 = .ok (.aload_n 0, 1) := by decide +kernel
theorem dX10_rainOn_9 : decode cX10_rainOn 9 = .ok (.getfield 78, 3) := by decide +kernel
theorem dX10_rainOn_12 : decode cX10_rainOn 12 = .ok (.if_icmp .ge 115, 3) := by decide +kernel
theorem dX10_rainOn_15 : decode cX10_rainOn 15 = .ok (.aload_n 0, 1) := by decide +kernel
theorem dX10_rainOn_16 : decode cX10_rainOn 16 = .ok (.getfield 16, 3) := by decide +kernel
theorem dX10_rainOn_19 : decode cX10_rainOn 19 = .ok (.sipush 1200, 3) := by decide +kernel
theorem dX10_rainOn_22 : decode cX10_rainOn 22 = .ok (.iload 5, 2) := by decide +kernel
theorem dX10_rainOn_24 : decode cX10_rainOn 24 = .ok (.imul, 1) := by decide +kernel
theorem dX10_rainOn_25 : decode cX10_rainOn 25 = .ok (.iload_n 2, 1) := by decide +kernel
theorem dX10_rainOn_26 : decode cX10_rainOn 26 = .ok (.iadd, 1) := by decide +kernel
theorem dX10_rainOn_27 : decode cX10_rainOn 27 = .ok (.iaload, 1) := by decide +kernel
theorem dX10_rainOn_28 : decode cX10_rainOn 28 = .ok (.ifCond .le 7, 3) := by decide +kernel
theorem dX10_rainOn_31 : decode cX10_rainOn 31 = .ok (.iconst 1, 1) := by decide +kernel
theorem dX10_rainOn_32 : decode cX10_rainOn 32 = .ok (.goto 4, 3) := by decide +kernel
theorem dX10_rainOn_35 : decode cX10_rainOn 35 = .ok (.iconst 0, 1) := by decide +kernel
theorem dX10_rainOn_36 : decode cX10_rainOn 36 = .ok (.istore 6, 2) := by decide +kernel
theorem dX10_rainOn_38 : decode cX10_rainOn 38 = .ok (.iload 5, 2) := by decide +kernel
theorem dX10_rainOn_40 : decode cX10_rainOn 40 = .ok (.iload_n 1, 1) := by decide +kernel
theorem dX10_rainOn_41 : decode cX10_rainOn 41 = .ok (.if_icmp .ne 7, 3) := by decide +kernel
theorem dX10_rainOn_44 : decode cX10_rainOn 44 = .ok (.iconst (-1), 1) := by decide +kernel
theorem dX10_rainOn_45 : decode cX10_rainOn 45 = .ok (.goto 21, 3) := by decide +kernel
theorem dX10_rainOn_48 : decode cX10_rainOn 48 = .ok (.aload_n 0, 1) := by decide +kernel
theorem dX10_rainOn_49 : decode cX10_rainOn 49 = .ok (.aload_n 0, 1) := by decide +kernel
theorem dX10_rainOn_50 : decode cX10_rainOn 50 = .ok (.getfield 7, 3) := by decide +kernel
theorem dX10_rainOn_53 : decode cX10_rainOn 53 = .ok (.iload_n 1, 1) := by decide +kernel
theorem dX10_rainOn_54 : decode cX10_rainOn 54 = .ok (.iaload, 1) := by decide +kernel
theorem dX10_rainOn_55 : decode cX10_rainOn 55 = .ok (.aload_n 0, 1) := by decide +kernel
theorem dX10_rainOn_56 : decode cX10_rainOn 56 = .ok (.getfield 13, 3) := by decide +kernel
theorem dX10_rainOn_59 : decode cX10_rainOn 59 = .ok (.iload_n 1, 1) := by decide +kernel
theorem dX10_rainOn_60 : decode cX10_rainOn 60 = .ok (.iaload, 1) := by decide +kernel
theorem dX10_rainOn_61 : decode cX10_rainOn 61 = .ok (.iload 5, 2) := by decide +kernel
theorem dX10_rainOn_63 : decode cX10_rainOn 63 = .ok (.invokevirtual 106, 3) := by decide +kernel
theorem dX10_rainOn_66 : decode cX10_rainOn 66 = .ok (.istore 7, 2) := by decide +kernel
theorem dX10_rainOn_68 : decode cX10_rainOn 68 = .ok (.iload 6, 2) := by decide +kernel
theorem dX10_rainOn_70 : decode cX10_rainOn 70 = .ok (.ifCond .eq 47, 3) := by decide +kernel
theorem dX10_rainOn_73 : decode cX10_rainOn 73 = .ok (.iload 4, 2) := by decide +kernel
theorem dX10_rainOn_75 : decode cX10_rainOn 75 = .ok (.iconst (-1), 1) := by decide +kernel
theorem dX10_rainOn_76 : decode cX10_rainOn 76 = .ok (.if_icmp .eq 36, 3) := by decide +kernel
theorem dX10_rainOn_79 : decode cX10_rainOn 79 = .ok (.iload 7, 2) := by decide +kernel
theorem dX10_rainOn_81 : decode cX10_rainOn 81 = .ok (.iload 4, 2) := by decide +kernel
theorem dX10_rainOn_83 : decode cX10_rainOn 83 = .ok (.iload_n 1, 1) := by decide +kernel
theorem dX10_rainOn_84 : decode cX10_rainOn 84 = .ok (.if_icmp .ne 7, 3) := by decide +kernel
theorem dX10_rainOn_87 : decode cX10_rainOn 87 = .ok (.iconst (-1), 1) := by decide +kernel
theorem dX10_rainOn_88 : decode cX10_rainOn 88 = .ok (.goto 21, 3) := by decide +kernel
theorem dX10_rainOn_91 : decode cX10_rainOn 91 = .ok (.aload_n 0, 1) := by decide +kernel
theorem dX10_rainOn_92 : decode cX10_rainOn 92 = .ok (.aload_n 0, 1) := by decide +kernel
theorem dX10_rainOn_93 : decode cX10_rainOn 93 = .ok (.getfield 7, 3) := by decide +kernel
theorem dX10_rainOn_96 : decode cX10_rainOn 96 = .ok (.iload_n 1, 1) := by decide +kernel
theorem dX10_rainOn_97 : decode cX10_rainOn 97 = .ok (.iaload, 1) := by decide +kernel
theorem dX10_rainOn_98 : decode cX10_rainOn 98 = .ok (.aload_n 0, 1) := by decide +kernel
theorem dX10_rainOn_99 : decode cX10_rainOn 99 = .ok (.getfield 13, 3) := by decide +kernel
theorem dX10_rainOn_102 : decode cX10_rainOn 102 = .ok (.iload_n 1, 1) := by decide +kernel
theorem dX10_rainOn_103 : decode cX10_rainOn 103 = .ok (.iaload, 1) := by decide +kernel
theorem dX10_rainOn_104 : decode cX10_rainOn 104 = .ok (.iload 4, 2) := by decide +kernel
theorem dX10_rainOn_106 : decode cX10_rainOn 106 = .ok (.invokevirtual 106, 3) := by decide +kernel
theorem dX10_rainOn_109 : decode cX10_rainOn 109 = .ok (.if_icmp .ge 8, 3) := by decide +kernel
theorem dX10_rainOn_112 : decode cX10_rainOn 112 = .ok (.iload 5, 2) := by decide +kernel
theorem dX10_rainOn_114 : decode cX10_rainOn 114 = .ok (.goto 5, 3) := by decide +kernel
theorem dX10_rainOn_117 : decode cX10_rainOn 117 = .ok (.iload 4, 2) := by decide +kernel
theorem dX10_rainOn_119 : decode cX10_rainOn 119 = .ok (.istore 4, 2) := by decide +kernel
theorem dX10_rainOn_121 : decode cX10_rainOn 121 = .ok (.iinc 5 1, 3) := by decide +kernel
theorem dX10_rainOn_124 : decode cX10_rainOn 124 = .ok (.goto (-118), 3) := by decide +kernel
theorem dX10_rainOn_127 : decode cX10_rainOn 127 = .ok (.iload 4, 2) := by decide +kernel
theorem dX10_rainOn_129 : decode cX10_rainOn 129 = .ok (.iconst (-1), 1) := by decide +kernel
theorem dX10_rainOn_130 : decode cX10_rainOn 130 = .ok (.if_icmp .ne 7, 3) := by decide +kernel
theorem dX10_rainOn_133 : decode cX10_rainOn 133 = .ok (.iconst 0, 1) := by decide +kernel
theorem dX10_rainOn_134 : decode cX10_rainOn 134 = .ok (.goto 38, 3) := by decide +kernel
theorem dX10_rainOn_137 : decode cX10_rainOn 137 = .ok (.iload_n 3, 1) := by decide +kernel
theorem dX10_rainOn_138 : decode cX10_rainOn 138 = .ok (.ifCond .ne 19, 3) := by decide +kernel
theorem dX10_rainOn_141 : decode cX10_rainOn 141 = .ok (.aload_n 0, 1) := by decide +kernel
theorem dX10_rainOn_142 : decode cX10_rainOn 142 = .ok (.getfield 16, 3) := by decide +kernel
theorem dX10_rainOn_145 : decode cX10_rainOn 145 = .ok (.sipush 1200, 3) := by decide +kernel
theorem dX10_rainOn_148 : decode cX10_rainOn 148 = .ok (.iload 4, 2) := by decide +kernel
theorem dX10_rainOn_150 : decode cX10_rainOn 150 = .ok (.imul, 1) := by decide +kernel
theorem dX10_rainOn_151 : decode cX10_rainOn 151 = .ok (.iload_n 2, 1) := by decide +kernel
theorem dX10_rainOn_152 : decode cX10_rainOn 152 = .ok (.iadd, 1) := by decide +kernel
theorem dX10_rainOn_153 : decode cX10_rainOn 153 = .ok (.iaload, 1) := by decide +kernel
theorem dX10_rainOn_154 : decode cX10_rainOn 154 = .ok (.goto 16, 3) := by decide +kernel
theorem dX10_rainOn_157 : decode cX10_rainOn 157 = .ok (.aload_n 0, 1) := by decide +kernel
theorem dX10_rainOn_158 : decode cX10_rainOn 158 = .ok (.getfield 19, 3) := by decide +kernel
theorem dX10_rainOn_161 : decode cX10_rainOn 161 = .ok (.sipush 1200, 3) := by decide +kernel
theorem dX10_rainOn_164 : decode cX10_rainOn 164 = .ok (.iload 4, 2) := by decide +kernel
theorem dX10_rainOn_166 : decode cX10_rainOn 166 = .ok (.imul, 1) := by decide +kernel
theorem dX10_rainOn_167 : decode cX10_rainOn 167 = .ok (.iload_n 2, 1) := by decide +kernel
theorem dX10_rainOn_168 : decode cX10_rainOn 168 = .ok (.iadd, 1) := by decide +kernel
theorem dX10_rainOn_169 : decode cX10_rainOn 169 = .ok (.iaload, 1) := by decide +kernel
theorem dX10_rainOn_170 : decode cX10_rainOn 170 = .ok (.iconst 1, 1) := by decide +kernel
theorem dX10_rainOn_171 : decode cX10_rainOn 171 = .ok (.isub, 1) := by decide +kernel
theorem dX10_rainOn_172 : decode cX10_rainOn 172 = .ok (.ireturn, 1) := by decide +kernel
set_option maxHeartbeats 4000000 in
set_option maxRecDepth 100000 in
theorem c_X10_rainOn (de : Nat) (w : Wd) (mo : Nat) (ad : Nat → Nat) (hm : RM w mo ad) (nS s0 d : Nat) (kn : Int32) (hS : fI w 12 3 mo = nI nS) (hn5 : nS ≤ 5) (hs : s0 < nS) (hd : d < 1200) : Ct yX10_rainOn cX10_rainOn 8 (some .int) 1 23 0 0 de [.ref mo, .int (nI s0), .int (nI d), .int kn] w (fun r w' => r = some (.int (rrV nS (aI w 2010 (ad 1)) (aI w 2020 (ad 2)) (aI w 2040 (ad 4)) (aI w 2050 (ad 5)) kn d s0)) ∧ w = w') := by
  refine Ct.mk (by decide +kernel) [(0, .ref mo), (1, .int (nI s0)), (2, .int (nI d)), (3, .int kn)] rfl (Nat.le_of_ble_eq_true rfl) ?_
  intro p l e R s m args below meth c D cy z C hnm
  have loop : ∀ (k i : Nat), i + k = nS → G p l e R s m args below meth c D cy z 8 w 0 0 6 [(0, .ref mo), (1, .int (nI s0)), (2, .int (nI d)), (3, .int kn), (4, .int (oI (rnF (fun k => (aI w 2040 (ad 4)) (1200 * k + d)) (byV (aI w 2010 (ad 1)) (aI w 2020 (ad 2)) s0) i))), (5, .int (nI i))] [] (QM below args s D cy z (fun r w' => r = some (.int (rrV nS (aI w 2010 (ad 1)) (aI w 2020 (ad 2)) (aI w 2040 (ad 4)) (aI w 2050 (ad 5)) kn d s0)) ∧ w = w') 0 0) := by
    intro k
    induction k with
    | zero =>
      intro i hik
      have hi : i = nS := by omega
      subst hi
      rcases hnr : rnF (fun k => (aI w 2040 (ad 4)) (1200 * k + d)) (byV (aI w 2010 (ad 1)) (aI w 2020 (ad 2)) s0) i with _ | j
      · refine g_iload C dX10_rainOn_6 rfl ?_
        refine g_aload_n C dX10_rainOn_8 rfl ?_
        refine g_getI C cls_11 12 3 hm.1 rfl k_918 dX10_rainOn_9 ?_
        refine g_icmp_ge C 127 dX10_rainOn_12 (by decide) (fun c_12 => ?_) (fun c_12 => ?_)
        · refine g_iload C dX10_rainOn_127 rfl ?_
          refine g_iconst C (-1) dX10_rainOn_129 (by rfl) ?_
          refine g_icmp_ne C 137 dX10_rainOn_130 (by decide) (fun c_130 => ?_) (fun c_130 => ?_)
          · exact absurd rfl c_130
          · refine g_iconst C 0 dX10_rainOn_133 (by rfl) ?_
            refine g_goto C 172 dX10_rainOn_134 (by decide) ?_
            refine g_iret C rfl rfl (by decide) (by decide) dX10_rainOn_172 ?_
            first
            | exact ⟨congrArg (fun v => some (Value.int v)) (rrV_0 hnr).symm, rfl⟩
            | exact absurd rfl c_130
        · exact absurd (by rw [hS]; exact nI_le (Nat.le_refl _) (by omega)) c_12
      · have hj := rnF_lt hnr
        rw [oI_s]
        refine g_iload C dX10_rainOn_6 rfl ?_
        refine g_aload_n C dX10_rainOn_8 rfl ?_
        refine g_getI C cls_11 12 3 hm.1 rfl k_918 dX10_rainOn_9 ?_
        refine g_icmp_ge C 127 dX10_rainOn_12 (by decide) (fun c_12 => ?_) (fun c_12 => ?_)
        · refine g_iload C dX10_rainOn_127 rfl ?_
          refine g_iconst C (-1) dX10_rainOn_129 (by rfl) ?_
          refine g_icmp_ne C 137 dX10_rainOn_130 (by decide) (fun c_130 => ?_) (fun c_130 => ?_)
          · refine g_iload_n C dX10_rainOn_137 rfl ?_
            refine g_if_ne C 157 dX10_rainOn_138 (by decide) (fun c_138 => ?_) (fun c_138 => ?_)
            · refine g_aload_n C dX10_rainOn_157 rfl ?_
              refine g_getR (b := (ad 5)) C cls_11 12 5 hm.1 (rm_5 hm).1 rfl k_920 dX10_rainOn_158 ?_
              refine g_sipush C 1200 dX10_rainOn_161 (by rfl) ?_
              refine g_iload C dX10_rainOn_164 rfl ?_
              refine g_imul C dX10_rainOn_166 ?_
              refine g_iload_n C dX10_rainOn_167 rfl ?_
              refine g_iadd C dX10_rainOn_168 ?_
              rw [ix_1200]
              refine g_iald C 2050 (rm_5 hm).2.1 rfl (by rw [(rm_5 hm).2.2]; exact nI_vp (show 1200 * j + d < 6000 by omega) (by omega)) dX10_rainOn_169 ?_
              refine g_iconst C 1 dX10_rainOn_170 (by rfl) ?_
              refine g_isub C dX10_rainOn_171 ?_
              refine g_iret C rfl rfl (by decide) (by decide) dX10_rainOn_172 ?_
              first
              | exact ⟨congrArg (fun v => some (Value.int v)) (by rw [rrV_1 hnr, if_pos c_138]), rfl⟩
              | exact ⟨congrArg (fun v => some (Value.int v)) (by rw [rrV_1 hnr, if_neg c_138, nI_tn (by omega)]), rfl⟩
            · refine g_aload_n C dX10_rainOn_141 rfl ?_
              refine g_getR (b := (ad 4)) C cls_11 12 4 hm.1 (rm_4 hm).1 rfl k_919 dX10_rainOn_142 ?_
              refine g_sipush C 1200 dX10_rainOn_145 (by rfl) ?_
              refine g_iload C dX10_rainOn_148 rfl ?_
              refine g_imul C dX10_rainOn_150 ?_
              refine g_iload_n C dX10_rainOn_151 rfl ?_
              refine g_iadd C dX10_rainOn_152 ?_
              rw [ix_1200]
              refine g_iald C 2040 (rm_4 hm).2.1 rfl (by rw [(rm_4 hm).2.2]; exact nI_vp (show 1200 * j + d < 6000 by omega) (by omega)) dX10_rainOn_153 ?_
              rw [nI_tn (by omega)]
              refine g_goto C 170 dX10_rainOn_154 (by decide) ?_
              refine g_iconst C 1 dX10_rainOn_170 (by rfl) ?_
              refine g_isub C dX10_rainOn_171 ?_
              refine g_iret C rfl rfl (by decide) (by decide) dX10_rainOn_172 ?_
              first
              | exact ⟨congrArg (fun v => some (Value.int v)) (by rw [rrV_1 hnr, if_pos c_138]), rfl⟩
              | exact ⟨congrArg (fun v => some (Value.int v)) (by rw [rrV_1 hnr, if_neg c_138, nI_tn (by omega)]), rfl⟩
          · exact absurd c_130 (show ¬ nI j = -1 from fun z => nI_pos (n := j) (by omega) (by rw [z]; decide))
        · exact absurd (by rw [hS]; exact nI_le (Nat.le_refl _) (by omega)) c_12
    | succ k ih =>
      intro i hik
      have hi : i < nS := by omega
      rcases hnr : rnF (fun k => (aI w 2040 (ad 4)) (1200 * k + d)) (byV (aI w 2010 (ad 1)) (aI w 2020 (ad 2)) s0) i with _ | j
      · refine g_iload C dX10_rainOn_6 rfl ?_
        refine g_aload_n C dX10_rainOn_8 rfl ?_
        refine g_getI C cls_11 12 3 hm.1 rfl k_918 dX10_rainOn_9 ?_
        refine g_icmp_ge C 127 dX10_rainOn_12 (by decide) (fun c_12 => ?_) (fun c_12 => ?_)
        · exact absurd (show nI nS ≤ nI i by rw [hS] at c_12; exact c_12) (nI_ge hi (by omega))
        · refine g_aload_n C dX10_rainOn_15 rfl ?_
          refine g_getR (b := (ad 4)) C cls_11 12 4 hm.1 (rm_4 hm).1 rfl k_919 dX10_rainOn_16 ?_
          refine g_sipush C 1200 dX10_rainOn_19 (by rfl) ?_
          refine g_iload C dX10_rainOn_22 rfl ?_
          refine g_imul C dX10_rainOn_24 ?_
          refine g_iload_n C dX10_rainOn_25 rfl ?_
          refine g_iadd C dX10_rainOn_26 ?_
          rw [ix_1200]
          refine g_iald C 2040 (rm_4 hm).2.1 rfl (by rw [(rm_4 hm).2.2]; exact nI_vp (show 1200 * i + d < 6000 by omega) (by omega)) dX10_rainOn_27 ?_
          rw [nI_tn (by omega)]
          refine g_if_le C 35 dX10_rainOn_28 (by decide) (fun c_28 => ?_) (fun c_28 => ?_)
          · refine g_iconst C 0 dX10_rainOn_35 (by rfl) ?_
            refine g_istore C dX10_rainOn_36 (by decide) ?_
            refine g_iload C dX10_rainOn_38 rfl ?_
            refine g_iload_n C dX10_rainOn_40 rfl ?_
            refine g_icmp_ne C 48 dX10_rainOn_41 (by decide) (fun c_41 => ?_) (fun c_41 => ?_)
            · refine g_aload_n C dX10_rainOn_48 rfl ?_
              refine g_aload_n C dX10_rainOn_49 rfl ?_
              refine g_getR (b := (ad 1)) C cls_11 12 1 hm.1 (rm_1 hm).1 rfl k_916 dX10_rainOn_50 ?_
              refine g_iload_n C dX10_rainOn_53 rfl ?_
              refine g_iald C 2010 (rm_1 hm).2.1 rfl (by rw [(rm_1 hm).2.2]; exact nI_vp (show s0 < 5 by omega) (by omega)) dX10_rainOn_54 ?_
              refine g_aload_n C dX10_rainOn_55 rfl ?_
              refine g_getR (b := (ad 2)) C cls_11 12 2 hm.1 (rm_2 hm).1 rfl k_917 dX10_rainOn_56 ?_
              refine g_iload_n C dX10_rainOn_59 rfl ?_
              refine g_iald C 2020 (rm_2 hm).2.1 rfl (by rw [(rm_2 hm).2.2]; exact nI_vp (show s0 < 5 by omega) (by omega)) dX10_rainOn_60 ?_
              refine g_iload C dX10_rainOn_61 rfl ?_
              simp only [nI_tn (show s0 ≤ 100000 by omega)]
              refine g_callV C cls_11 12 mt_X10_off [.int ((aI w 2010 (ad 1)) s0), .int ((aI w 2020 (ad 2)) s0), .int (nI i)] (c_X10_off de w mo ad hm ((aI w 2010 (ad 1)) s0) ((aI w 2020 (ad 2)) s0) i (by omega)) hm.1 (by decide) k_1045 rfl rfl (Nat.le_of_ble_eq_true rfl) (by decide) (by decide) (by decide) (by decide) dX10_rainOn_63 (fun r_63 w_63 hp_63 => ?_)
              obtain ⟨rfl, rfl⟩ := hp_63
              refine g_istore C dX10_rainOn_66 (by decide) ?_
              refine g_iload C dX10_rainOn_68 rfl ?_
              refine g_if_eq C 117 dX10_rainOn_70 (by decide) (fun c_70 => ?_) (fun c_70 => ?_)
              · refine g_iload C dX10_rainOn_117 rfl ?_
                refine g_istore C dX10_rainOn_119 (by decide) ?_
                refine g_iinc C dX10_rainOn_121 rfl (nI_1 i) (by decide) ?_
                refine g_goto C 6 dX10_rainOn_124 (by decide) ?_
                have e9 := rnF_0 (bv := (byV (aI w 2010 (ad 1)) (aI w 2020 (ad 2)) s0)) (has := (fun k => (aI w 2040 (ad 4)) (1200 * k + d))) (Int32.not_lt.mpr c_28)
                have h9 := ih (i + 1) (by omega)
                rw [e9, hnr] at h9
                exact g_lv2 [(0, .ref mo), (1, .int (nI s0)), (2, .int (nI d)), (3, .int kn), (4, .int (-1)), (5, .int (nI (i + 1)))] rfl h9
              · exact absurd c_70 (by decide)
            · refine g_iconst C (-1) dX10_rainOn_44 (by rfl) ?_
              refine g_goto C 66 dX10_rainOn_45 (by decide) ?_
              refine g_istore C dX10_rainOn_66 (by decide) ?_
              refine g_iload C dX10_rainOn_68 rfl ?_
              refine g_if_eq C 117 dX10_rainOn_70 (by decide) (fun c_70 => ?_) (fun c_70 => ?_)
              · refine g_iload C dX10_rainOn_117 rfl ?_
                refine g_istore C dX10_rainOn_119 (by decide) ?_
                refine g_iinc C dX10_rainOn_121 rfl (nI_1 i) (by decide) ?_
                refine g_goto C 6 dX10_rainOn_124 (by decide) ?_
                have e9 := rnF_0 (bv := (byV (aI w 2010 (ad 1)) (aI w 2020 (ad 2)) s0)) (has := (fun k => (aI w 2040 (ad 4)) (1200 * k + d))) (Int32.not_lt.mpr c_28)
                have h9 := ih (i + 1) (by omega)
                rw [e9, hnr] at h9
                exact g_lv2 [(0, .ref mo), (1, .int (nI s0)), (2, .int (nI d)), (3, .int kn), (4, .int (-1)), (5, .int (nI (i + 1)))] rfl h9
              · exact absurd c_70 (by decide)
          · refine g_iconst C 1 dX10_rainOn_31 (by rfl) ?_
            refine g_goto C 36 dX10_rainOn_32 (by decide) ?_
            refine g_istore C dX10_rainOn_36 (by decide) ?_
            refine g_iload C dX10_rainOn_38 rfl ?_
            refine g_iload_n C dX10_rainOn_40 rfl ?_
            refine g_icmp_ne C 48 dX10_rainOn_41 (by decide) (fun c_41 => ?_) (fun c_41 => ?_)
            · refine g_aload_n C dX10_rainOn_48 rfl ?_
              refine g_aload_n C dX10_rainOn_49 rfl ?_
              refine g_getR (b := (ad 1)) C cls_11 12 1 hm.1 (rm_1 hm).1 rfl k_916 dX10_rainOn_50 ?_
              refine g_iload_n C dX10_rainOn_53 rfl ?_
              refine g_iald C 2010 (rm_1 hm).2.1 rfl (by rw [(rm_1 hm).2.2]; exact nI_vp (show s0 < 5 by omega) (by omega)) dX10_rainOn_54 ?_
              refine g_aload_n C dX10_rainOn_55 rfl ?_
              refine g_getR (b := (ad 2)) C cls_11 12 2 hm.1 (rm_2 hm).1 rfl k_917 dX10_rainOn_56 ?_
              refine g_iload_n C dX10_rainOn_59 rfl ?_
              refine g_iald C 2020 (rm_2 hm).2.1 rfl (by rw [(rm_2 hm).2.2]; exact nI_vp (show s0 < 5 by omega) (by omega)) dX10_rainOn_60 ?_
              refine g_iload C dX10_rainOn_61 rfl ?_
              simp only [nI_tn (show s0 ≤ 100000 by omega)]
              refine g_callV C cls_11 12 mt_X10_off [.int ((aI w 2010 (ad 1)) s0), .int ((aI w 2020 (ad 2)) s0), .int (nI i)] (c_X10_off de w mo ad hm ((aI w 2010 (ad 1)) s0) ((aI w 2020 (ad 2)) s0) i (by omega)) hm.1 (by decide) k_1045 rfl rfl (Nat.le_of_ble_eq_true rfl) (by decide) (by decide) (by decide) (by decide) dX10_rainOn_63 (fun r_63 w_63 hp_63 => ?_)
              obtain ⟨rfl, rfl⟩ := hp_63
              refine g_istore C dX10_rainOn_66 (by decide) ?_
              refine g_iload C dX10_rainOn_68 rfl ?_
              refine g_if_eq C 117 dX10_rainOn_70 (by decide) (fun c_70 => ?_) (fun c_70 => ?_)
              · exact absurd c_70 (by decide)
              · refine g_iload C dX10_rainOn_73 rfl ?_
                refine g_iconst C (-1) dX10_rainOn_75 (by rfl) ?_
                refine g_icmp_eq C 112 dX10_rainOn_76 (by decide) (fun c_76 => ?_) (fun c_76 => ?_)
                · refine g_iload C dX10_rainOn_112 rfl ?_
                  refine g_goto C 119 dX10_rainOn_114 (by decide) ?_
                  refine g_istore C dX10_rainOn_119 (by decide) ?_
                  refine g_iinc C dX10_rainOn_121 rfl (nI_1 i) (by decide) ?_
                  refine g_goto C 6 dX10_rainOn_124 (by decide) ?_
                  have e9 := rnF_1 (bv := (byV (aI w 2010 (ad 1)) (aI w 2020 (ad 2)) s0)) (has := (fun k => (aI w 2040 (ad 4)) (1200 * k + d))) (Int32.not_le.mp c_28) hnr
                  have h9 := ih (i + 1) (by omega)
                  rw [e9] at h9
                  exact g_lv2 [(0, .ref mo), (1, .int (nI s0)), (2, .int (nI d)), (3, .int kn), (4, .int (nI i)), (5, .int (nI (i + 1)))] rfl h9
                · exact absurd rfl c_76
            · refine g_iconst C (-1) dX10_rainOn_44 (by rfl) ?_
              refine g_goto C 66 dX10_rainOn_45 (by decide) ?_
              refine g_istore C dX10_rainOn_66 (by decide) ?_
              refine g_iload C dX10_rainOn_68 rfl ?_
              refine g_if_eq C 117 dX10_rainOn_70 (by decide) (fun c_70 => ?_) (fun c_70 => ?_)
              · exact absurd c_70 (by decide)
              · refine g_iload C dX10_rainOn_73 rfl ?_
                refine g_iconst C (-1) dX10_rainOn_75 (by rfl) ?_
                refine g_icmp_eq C 112 dX10_rainOn_76 (by decide) (fun c_76 => ?_) (fun c_76 => ?_)
                · refine g_iload C dX10_rainOn_112 rfl ?_
                  refine g_goto C 119 dX10_rainOn_114 (by decide) ?_
                  refine g_istore C dX10_rainOn_119 (by decide) ?_
                  refine g_iinc C dX10_rainOn_121 rfl (nI_1 i) (by decide) ?_
                  refine g_goto C 6 dX10_rainOn_124 (by decide) ?_
                  have e9 := rnF_1 (bv := (byV (aI w 2010 (ad 1)) (aI w 2020 (ad 2)) s0)) (has := (fun k => (aI w 2040 (ad 4)) (1200 * k + d))) (Int32.not_le.mp c_28) hnr
                  have h9 := ih (i + 1) (by omega)
                  rw [e9] at h9
                  exact g_lv2 [(0, .ref mo), (1, .int (nI s0)), (2, .int (nI d)), (3, .int kn), (4, .int (nI i)), (5, .int (nI (i + 1)))] rfl h9
                · exact absurd rfl c_76
      · have hj := rnF_lt hnr
        rw [oI_s]
        refine g_iload C dX10_rainOn_6 rfl ?_
        refine g_aload_n C dX10_rainOn_8 rfl ?_
        refine g_getI C cls_11 12 3 hm.1 rfl k_918 dX10_rainOn_9 ?_
        refine g_icmp_ge C 127 dX10_rainOn_12 (by decide) (fun c_12 => ?_) (fun c_12 => ?_)
        · exact absurd (show nI nS ≤ nI i by rw [hS] at c_12; exact c_12) (nI_ge hi (by omega))
        · refine g_aload_n C dX10_rainOn_15 rfl ?_
          refine g_getR (b := (ad 4)) C cls_11 12 4 hm.1 (rm_4 hm).1 rfl k_919 dX10_rainOn_16 ?_
          refine g_sipush C 1200 dX10_rainOn_19 (by rfl) ?_
          refine g_iload C dX10_rainOn_22 rfl ?_
          refine g_imul C dX10_rainOn_24 ?_
          refine g_iload_n C dX10_rainOn_25 rfl ?_
          refine g_iadd C dX10_rainOn_26 ?_
          rw [ix_1200]
          refine g_iald C 2040 (rm_4 hm).2.1 rfl (by rw [(rm_4 hm).2.2]; exact nI_vp (show 1200 * i + d < 6000 by omega) (by omega)) dX10_rainOn_27 ?_
          rw [nI_tn (by omega)]
          refine g_if_le C 35 dX10_rainOn_28 (by decide) (fun c_28 => ?_) (fun c_28 => ?_)
          · refine g_iconst C 0 dX10_rainOn_35 (by rfl) ?_
            refine g_istore C dX10_rainOn_36 (by decide) ?_
            refine g_iload C dX10_rainOn_38 rfl ?_
            refine g_iload_n C dX10_rainOn_40 rfl ?_
            refine g_icmp_ne C 48 dX10_rainOn_41 (by decide) (fun c_41 => ?_) (fun c_41 => ?_)
            · refine g_aload_n C dX10_rainOn_48 rfl ?_
              refine g_aload_n C dX10_rainOn_49 rfl ?_
              refine g_getR (b := (ad 1)) C cls_11 12 1 hm.1 (rm_1 hm).1 rfl k_916 dX10_rainOn_50 ?_
              refine g_iload_n C dX10_rainOn_53 rfl ?_
              refine g_iald C 2010 (rm_1 hm).2.1 rfl (by rw [(rm_1 hm).2.2]; exact nI_vp (show s0 < 5 by omega) (by omega)) dX10_rainOn_54 ?_
              refine g_aload_n C dX10_rainOn_55 rfl ?_
              refine g_getR (b := (ad 2)) C cls_11 12 2 hm.1 (rm_2 hm).1 rfl k_917 dX10_rainOn_56 ?_
              refine g_iload_n C dX10_rainOn_59 rfl ?_
              refine g_iald C 2020 (rm_2 hm).2.1 rfl (by rw [(rm_2 hm).2.2]; exact nI_vp (show s0 < 5 by omega) (by omega)) dX10_rainOn_60 ?_
              refine g_iload C dX10_rainOn_61 rfl ?_
              simp only [nI_tn (show s0 ≤ 100000 by omega)]
              refine g_callV C cls_11 12 mt_X10_off [.int ((aI w 2010 (ad 1)) s0), .int ((aI w 2020 (ad 2)) s0), .int (nI i)] (c_X10_off de w mo ad hm ((aI w 2010 (ad 1)) s0) ((aI w 2020 (ad 2)) s0) i (by omega)) hm.1 (by decide) k_1045 rfl rfl (Nat.le_of_ble_eq_true rfl) (by decide) (by decide) (by decide) (by decide) dX10_rainOn_63 (fun r_63 w_63 hp_63 => ?_)
              obtain ⟨rfl, rfl⟩ := hp_63
              refine g_istore C dX10_rainOn_66 (by decide) ?_
              refine g_iload C dX10_rainOn_68 rfl ?_
              refine g_if_eq C 117 dX10_rainOn_70 (by decide) (fun c_70 => ?_) (fun c_70 => ?_)
              · refine g_iload C dX10_rainOn_117 rfl ?_
                refine g_istore C dX10_rainOn_119 (by decide) ?_
                refine g_iinc C dX10_rainOn_121 rfl (nI_1 i) (by decide) ?_
                refine g_goto C 6 dX10_rainOn_124 (by decide) ?_
                have e9 := rnF_0 (bv := (byV (aI w 2010 (ad 1)) (aI w 2020 (ad 2)) s0)) (has := (fun k => (aI w 2040 (ad 4)) (1200 * k + d))) (Int32.not_lt.mpr c_28)
                have h9 := ih (i + 1) (by omega)
                rw [e9, hnr] at h9
                exact g_lv2 [(0, .ref mo), (1, .int (nI s0)), (2, .int (nI d)), (3, .int kn), (4, .int (nI j)), (5, .int (nI (i + 1)))] rfl h9
              · exact absurd c_70 (by decide)
            · refine g_iconst C (-1) dX10_rainOn_44 (by rfl) ?_
              refine g_goto C 66 dX10_rainOn_45 (by decide) ?_
              refine g_istore C dX10_rainOn_66 (by decide) ?_
              refine g_iload C dX10_rainOn_68 rfl ?_
              refine g_if_eq C 117 dX10_rainOn_70 (by decide) (fun c_70 => ?_) (fun c_70 => ?_)
              · refine g_iload C dX10_rainOn_117 rfl ?_
                refine g_istore C dX10_rainOn_119 (by decide) ?_
                refine g_iinc C dX10_rainOn_121 rfl (nI_1 i) (by decide) ?_
                refine g_goto C 6 dX10_rainOn_124 (by decide) ?_
                have e9 := rnF_0 (bv := (byV (aI w 2010 (ad 1)) (aI w 2020 (ad 2)) s0)) (has := (fun k => (aI w 2040 (ad 4)) (1200 * k + d))) (Int32.not_lt.mpr c_28)
                have h9 := ih (i + 1) (by omega)
                rw [e9, hnr] at h9
                exact g_lv2 [(0, .ref mo), (1, .int (nI s0)), (2, .int (nI d)), (3, .int kn), (4, .int (nI j)), (5, .int (nI (i + 1)))] rfl h9
              · exact absurd c_70 (by decide)
          · refine g_iconst C 1 dX10_rainOn_31 (by rfl) ?_
            refine g_goto C 36 dX10_rainOn_32 (by decide) ?_
            refine g_istore C dX10_rainOn_36 (by decide) ?_
            refine g_iload C dX10_rainOn_38 rfl ?_
            refine g_iload_n C dX10_rainOn_40 rfl ?_
            refine g_icmp_ne C 48 dX10_rainOn_41 (by decide) (fun c_41 => ?_) (fun c_41 => ?_)
            · refine g_aload_n C dX10_rainOn_48 rfl ?_
              refine g_aload_n C dX10_rainOn_49 rfl ?_
              refine g_getR (b := (ad 1)) C cls_11 12 1 hm.1 (rm_1 hm).1 rfl k_916 dX10_rainOn_50 ?_
              refine g_iload_n C dX10_rainOn_53 rfl ?_
              refine g_iald C 2010 (rm_1 hm).2.1 rfl (by rw [(rm_1 hm).2.2]; exact nI_vp (show s0 < 5 by omega) (by omega)) dX10_rainOn_54 ?_
              refine g_aload_n C dX10_rainOn_55 rfl ?_
              refine g_getR (b := (ad 2)) C cls_11 12 2 hm.1 (rm_2 hm).1 rfl k_917 dX10_rainOn_56 ?_
              refine g_iload_n C dX10_rainOn_59 rfl ?_
              refine g_iald C 2020 (rm_2 hm).2.1 rfl (by rw [(rm_2 hm).2.2]; exact nI_vp (show s0 < 5 by omega) (by omega)) dX10_rainOn_60 ?_
              refine g_iload C dX10_rainOn_61 rfl ?_
              simp only [nI_tn (show s0 ≤ 100000 by omega)]
              refine g_callV C cls_11 12 mt_X10_off [.int ((aI w 2010 (ad 1)) s0), .int ((aI w 2020 (ad 2)) s0), .int (nI i)] (c_X10_off de w mo ad hm ((aI w 2010 (ad 1)) s0) ((aI w 2020 (ad 2)) s0) i (by omega)) hm.1 (by decide) k_1045 rfl rfl (Nat.le_of_ble_eq_true rfl) (by decide) (by decide) (by decide) (by decide) dX10_rainOn_63 (fun r_63 w_63 hp_63 => ?_)
              obtain ⟨rfl, rfl⟩ := hp_63
              refine g_istore C dX10_rainOn_66 (by decide) ?_
              refine g_iload C dX10_rainOn_68 rfl ?_
              refine g_if_eq C 117 dX10_rainOn_70 (by decide) (fun c_70 => ?_) (fun c_70 => ?_)
              · exact absurd c_70 (by decide)
              · refine g_iload C dX10_rainOn_73 rfl ?_
                refine g_iconst C (-1) dX10_rainOn_75 (by rfl) ?_
                refine g_icmp_eq C 112 dX10_rainOn_76 (by decide) (fun c_76 => ?_) (fun c_76 => ?_)
                · refine g_iload C dX10_rainOn_112 rfl ?_
                  refine g_goto C 119 dX10_rainOn_114 (by decide) ?_
                  refine g_istore C dX10_rainOn_119 (by decide) ?_
                  refine g_iinc C dX10_rainOn_121 rfl (nI_1 i) (by decide) ?_
                  refine g_goto C 6 dX10_rainOn_124 (by decide) ?_
                  exact absurd c_76 (show ¬ nI j = -1 from fun z => nI_pos (n := j) (by omega) (by rw [z]; decide))
                · refine g_iload C dX10_rainOn_79 rfl ?_
                  refine g_iload C dX10_rainOn_81 rfl ?_
                  refine g_iload_n C dX10_rainOn_83 rfl ?_
                  refine g_icmp_ne C 91 dX10_rainOn_84 (by decide) (fun c_84 => ?_) (fun c_84 => ?_)
                  · refine g_aload_n C dX10_rainOn_91 rfl ?_
                    refine g_aload_n C dX10_rainOn_92 rfl ?_
                    refine g_getR (b := (ad 1)) C cls_11 12 1 hm.1 (rm_1 hm).1 rfl k_916 dX10_rainOn_93 ?_
                    refine g_iload_n C dX10_rainOn_96 rfl ?_
                    refine g_iald C 2010 (rm_1 hm).2.1 rfl (by rw [(rm_1 hm).2.2]; exact nI_vp (show s0 < 5 by omega) (by omega)) dX10_rainOn_97 ?_
                    refine g_aload_n C dX10_rainOn_98 rfl ?_
                    refine g_getR (b := (ad 2)) C cls_11 12 2 hm.1 (rm_2 hm).1 rfl k_917 dX10_rainOn_99 ?_
                    refine g_iload_n C dX10_rainOn_102 rfl ?_
                    refine g_iald C 2020 (rm_2 hm).2.1 rfl (by rw [(rm_2 hm).2.2]; exact nI_vp (show s0 < 5 by omega) (by omega)) dX10_rainOn_103 ?_
                    refine g_iload C dX10_rainOn_104 rfl ?_
                    simp only [nI_tn (show s0 ≤ 100000 by omega)]
                    refine g_callV C cls_11 12 mt_X10_off [.int ((aI w 2010 (ad 1)) s0), .int ((aI w 2020 (ad 2)) s0), .int (nI j)] (c_X10_off de w mo ad hm ((aI w 2010 (ad 1)) s0) ((aI w 2020 (ad 2)) s0) j (by omega)) hm.1 (by decide) k_1045 rfl rfl (Nat.le_of_ble_eq_true rfl) (by decide) (by decide) (by decide) (by decide) dX10_rainOn_106 (fun r_106 w_106 hp_106 => ?_)
                    obtain ⟨rfl, rfl⟩ := hp_106
                    refine g_icmp_ge C 117 dX10_rainOn_109 (by decide) (fun c_109 => ?_) (fun c_109 => ?_)
                    · refine g_iload C dX10_rainOn_117 rfl ?_
                      refine g_istore C dX10_rainOn_119 (by decide) ?_
                      refine g_iinc C dX10_rainOn_121 rfl (nI_1 i) (by decide) ?_
                      refine g_goto C 6 dX10_rainOn_124 (by decide) ?_
                      have e9 := rnF_3 (bv := (byV (aI w 2010 (ad 1)) (aI w 2020 (ad 2)) s0)) (has := (fun k => (aI w 2040 (ad 4)) (1200 * k + d))) (Int32.not_le.mp c_28) hnr (by rw [show (byV (aI w 2010 (ad 1)) (aI w 2020 (ad 2)) s0) i = _ from (if_neg (fun z => c_41 (by rw [z]))), show (byV (aI w 2010 (ad 1)) (aI w 2020 (ad 2)) s0) j = _ from (if_neg (fun z => c_84 (by rw [z])))]; exact Int32.not_lt.mpr c_109)
                      have h9 := ih (i + 1) (by omega)
                      rw [e9] at h9
                      exact g_lv2 [(0, .ref mo), (1, .int (nI s0)), (2, .int (nI d)), (3, .int kn), (4, .int (nI j)), (5, .int (nI (i + 1)))] rfl h9
                    · refine g_iload C dX10_rainOn_112 rfl ?_
                      refine g_goto C 119 dX10_rainOn_114 (by decide) ?_
                      refine g_istore C dX10_rainOn_119 (by decide) ?_
                      refine g_iinc C dX10_rainOn_121 rfl (nI_1 i) (by decide) ?_
                      refine g_goto C 6 dX10_rainOn_124 (by decide) ?_
                      have e9 := rnF_2 (bv := (byV (aI w 2010 (ad 1)) (aI w 2020 (ad 2)) s0)) (has := (fun k => (aI w 2040 (ad 4)) (1200 * k + d))) (Int32.not_le.mp c_28) hnr (by rw [show (byV (aI w 2010 (ad 1)) (aI w 2020 (ad 2)) s0) i = _ from (if_neg (fun z => c_41 (by rw [z]))), show (byV (aI w 2010 (ad 1)) (aI w 2020 (ad 2)) s0) j = _ from (if_neg (fun z => c_84 (by rw [z])))]; exact Int32.not_le.mp c_109)
                      have h9 := ih (i + 1) (by omega)
                      rw [e9] at h9
                      exact g_lv2 [(0, .ref mo), (1, .int (nI s0)), (2, .int (nI d)), (3, .int kn), (4, .int (nI i)), (5, .int (nI (i + 1)))] rfl h9
                  · refine g_iconst C (-1) dX10_rainOn_87 (by rfl) ?_
                    refine g_goto C 109 dX10_rainOn_88 (by decide) ?_
                    refine g_icmp_ge C 117 dX10_rainOn_109 (by decide) (fun c_109 => ?_) (fun c_109 => ?_)
                    · refine g_iload C dX10_rainOn_117 rfl ?_
                      refine g_istore C dX10_rainOn_119 (by decide) ?_
                      refine g_iinc C dX10_rainOn_121 rfl (nI_1 i) (by decide) ?_
                      refine g_goto C 6 dX10_rainOn_124 (by decide) ?_
                      have e9 := rnF_3 (bv := (byV (aI w 2010 (ad 1)) (aI w 2020 (ad 2)) s0)) (has := (fun k => (aI w 2040 (ad 4)) (1200 * k + d))) (Int32.not_le.mp c_28) hnr (by rw [show (byV (aI w 2010 (ad 1)) (aI w 2020 (ad 2)) s0) i = _ from (if_neg (fun z => c_41 (by rw [z]))), show (byV (aI w 2010 (ad 1)) (aI w 2020 (ad 2)) s0) j = _ from (if_pos ((nI_eq (by omega) (by omega)).mp c_84))]; exact Int32.not_lt.mpr c_109)
                      have h9 := ih (i + 1) (by omega)
                      rw [e9] at h9
                      exact g_lv2 [(0, .ref mo), (1, .int (nI s0)), (2, .int (nI d)), (3, .int kn), (4, .int (nI j)), (5, .int (nI (i + 1)))] rfl h9
                    · refine g_iload C dX10_rainOn_112 rfl ?_
                      refine g_goto C 119 dX10_rainOn_114 (by decide) ?_
                      refine g_istore C dX10_rainOn_119 (by decide) ?_
                      refine g_iinc C dX10_rainOn_121 rfl (nI_1 i) (by decide) ?_
                      refine g_goto C 6 dX10_rainOn_124 (by decide) ?_
                      have e9 := rnF_2 (bv := (byV (aI w 2010 (ad 1)) (aI w 2020 (ad 2)) s0)) (has := (fun k => (aI w 2040 (ad 4)) (1200 * k + d))) (Int32.not_le.mp c_28) hnr (by rw [show (byV (aI w 2010 (ad 1)) (aI w 2020 (ad 2)) s0) i = _ from (if_neg (fun z => c_41 (by rw [z]))), show (byV (aI w 2010 (ad 1)) (aI w 2020 (ad 2)) s0) j = _ from (if_pos ((nI_eq (by omega) (by omega)).mp c_84))]; exact Int32.not_le.mp c_109)
                      have h9 := ih (i + 1) (by omega)
                      rw [e9] at h9
                      exact g_lv2 [(0, .ref mo), (1, .int (nI s0)), (2, .int (nI d)), (3, .int kn), (4, .int (nI i)), (5, .int (nI (i + 1)))] rfl h9
            · refine g_iconst C (-1) dX10_rainOn_44 (by rfl) ?_
              refine g_goto C 66 dX10_rainOn_45 (by decide) ?_
              refine g_istore C dX10_rainOn_66 (by decide) ?_
              refine g_iload C dX10_rainOn_68 rfl ?_
              refine g_if_eq C 117 dX10_rainOn_70 (by decide) (fun c_70 => ?_) (fun c_70 => ?_)
              · exact absurd c_70 (by decide)
              · refine g_iload C dX10_rainOn_73 rfl ?_
                refine g_iconst C (-1) dX10_rainOn_75 (by rfl) ?_
                refine g_icmp_eq C 112 dX10_rainOn_76 (by decide) (fun c_76 => ?_) (fun c_76 => ?_)
                · refine g_iload C dX10_rainOn_112 rfl ?_
                  refine g_goto C 119 dX10_rainOn_114 (by decide) ?_
                  refine g_istore C dX10_rainOn_119 (by decide) ?_
                  refine g_iinc C dX10_rainOn_121 rfl (nI_1 i) (by decide) ?_
                  refine g_goto C 6 dX10_rainOn_124 (by decide) ?_
                  exact absurd c_76 (show ¬ nI j = -1 from fun z => nI_pos (n := j) (by omega) (by rw [z]; decide))
                · refine g_iload C dX10_rainOn_79 rfl ?_
                  refine g_iload C dX10_rainOn_81 rfl ?_
                  refine g_iload_n C dX10_rainOn_83 rfl ?_
                  refine g_icmp_ne C 91 dX10_rainOn_84 (by decide) (fun c_84 => ?_) (fun c_84 => ?_)
                  · refine g_aload_n C dX10_rainOn_91 rfl ?_
                    refine g_aload_n C dX10_rainOn_92 rfl ?_
                    refine g_getR (b := (ad 1)) C cls_11 12 1 hm.1 (rm_1 hm).1 rfl k_916 dX10_rainOn_93 ?_
                    refine g_iload_n C dX10_rainOn_96 rfl ?_
                    refine g_iald C 2010 (rm_1 hm).2.1 rfl (by rw [(rm_1 hm).2.2]; exact nI_vp (show s0 < 5 by omega) (by omega)) dX10_rainOn_97 ?_
                    refine g_aload_n C dX10_rainOn_98 rfl ?_
                    refine g_getR (b := (ad 2)) C cls_11 12 2 hm.1 (rm_2 hm).1 rfl k_917 dX10_rainOn_99 ?_
                    refine g_iload_n C dX10_rainOn_102 rfl ?_
                    refine g_iald C 2020 (rm_2 hm).2.1 rfl (by rw [(rm_2 hm).2.2]; exact nI_vp (show s0 < 5 by omega) (by omega)) dX10_rainOn_103 ?_
                    refine g_iload C dX10_rainOn_104 rfl ?_
                    simp only [nI_tn (show s0 ≤ 100000 by omega)]
                    refine g_callV C cls_11 12 mt_X10_off [.int ((aI w 2010 (ad 1)) s0), .int ((aI w 2020 (ad 2)) s0), .int (nI j)] (c_X10_off de w mo ad hm ((aI w 2010 (ad 1)) s0) ((aI w 2020 (ad 2)) s0) j (by omega)) hm.1 (by decide) k_1045 rfl rfl (Nat.le_of_ble_eq_true rfl) (by decide) (by decide) (by decide) (by decide) dX10_rainOn_106 (fun r_106 w_106 hp_106 => ?_)
                    obtain ⟨rfl, rfl⟩ := hp_106
                    refine g_icmp_ge C 117 dX10_rainOn_109 (by decide) (fun c_109 => ?_) (fun c_109 => ?_)
                    · refine g_iload C dX10_rainOn_117 rfl ?_
                      refine g_istore C dX10_rainOn_119 (by decide) ?_
                      refine g_iinc C dX10_rainOn_121 rfl (nI_1 i) (by decide) ?_
                      refine g_goto C 6 dX10_rainOn_124 (by decide) ?_
                      have e9 := rnF_3 (bv := (byV (aI w 2010 (ad 1)) (aI w 2020 (ad 2)) s0)) (has := (fun k => (aI w 2040 (ad 4)) (1200 * k + d))) (Int32.not_le.mp c_28) hnr (by rw [show (byV (aI w 2010 (ad 1)) (aI w 2020 (ad 2)) s0) i = _ from (if_pos ((nI_eq (by omega) (by omega)).mp c_41)), show (byV (aI w 2010 (ad 1)) (aI w 2020 (ad 2)) s0) j = _ from (if_neg (fun z => c_84 (by rw [z])))]; exact Int32.not_lt.mpr c_109)
                      have h9 := ih (i + 1) (by omega)
                      rw [e9] at h9
                      exact g_lv2 [(0, .ref mo), (1, .int (nI s0)), (2, .int (nI d)), (3, .int kn), (4, .int (nI j)), (5, .int (nI (i + 1)))] rfl h9
                    · refine g_iload C dX10_rainOn_112 rfl ?_
                      refine g_goto C 119 dX10_rainOn_114 (by decide) ?_
                      refine g_istore C dX10_rainOn_119 (by decide) ?_
                      refine g_iinc C dX10_rainOn_121 rfl (nI_1 i) (by decide) ?_
                      refine g_goto C 6 dX10_rainOn_124 (by decide) ?_
                      have e9 := rnF_2 (bv := (byV (aI w 2010 (ad 1)) (aI w 2020 (ad 2)) s0)) (has := (fun k => (aI w 2040 (ad 4)) (1200 * k + d))) (Int32.not_le.mp c_28) hnr (by rw [show (byV (aI w 2010 (ad 1)) (aI w 2020 (ad 2)) s0) i = _ from (if_pos ((nI_eq (by omega) (by omega)).mp c_41)), show (byV (aI w 2010 (ad 1)) (aI w 2020 (ad 2)) s0) j = _ from (if_neg (fun z => c_84 (by rw [z])))]; exact Int32.not_le.mp c_109)
                      have h9 := ih (i + 1) (by omega)
                      rw [e9] at h9
                      exact g_lv2 [(0, .ref mo), (1, .int (nI s0)), (2, .int (nI d)), (3, .int kn), (4, .int (nI i)), (5, .int (nI (i + 1)))] rfl h9
                  · refine g_iconst C (-1) dX10_rainOn_87 (by rfl) ?_
                    refine g_goto C 109 dX10_rainOn_88 (by decide) ?_
                    refine g_icmp_ge C 117 dX10_rainOn_109 (by decide) (fun c_109 => ?_) (fun c_109 => ?_)
                    · refine g_iload C dX10_rainOn_117 rfl ?_
                      refine g_istore C dX10_rainOn_119 (by decide) ?_
                      refine g_iinc C dX10_rainOn_121 rfl (nI_1 i) (by decide) ?_
                      refine g_goto C 6 dX10_rainOn_124 (by decide) ?_
                      have e9 := rnF_3 (bv := (byV (aI w 2010 (ad 1)) (aI w 2020 (ad 2)) s0)) (has := (fun k => (aI w 2040 (ad 4)) (1200 * k + d))) (Int32.not_le.mp c_28) hnr (by rw [show (byV (aI w 2010 (ad 1)) (aI w 2020 (ad 2)) s0) i = _ from (if_pos ((nI_eq (by omega) (by omega)).mp c_41)), show (byV (aI w 2010 (ad 1)) (aI w 2020 (ad 2)) s0) j = _ from (if_pos ((nI_eq (by omega) (by omega)).mp c_84))]; exact Int32.not_lt.mpr c_109)
                      have h9 := ih (i + 1) (by omega)
                      rw [e9] at h9
                      exact g_lv2 [(0, .ref mo), (1, .int (nI s0)), (2, .int (nI d)), (3, .int kn), (4, .int (nI j)), (5, .int (nI (i + 1)))] rfl h9
                    · refine g_iload C dX10_rainOn_112 rfl ?_
                      refine g_goto C 119 dX10_rainOn_114 (by decide) ?_
                      refine g_istore C dX10_rainOn_119 (by decide) ?_
                      refine g_iinc C dX10_rainOn_121 rfl (nI_1 i) (by decide) ?_
                      refine g_goto C 6 dX10_rainOn_124 (by decide) ?_
                      have e9 := rnF_2 (bv := (byV (aI w 2010 (ad 1)) (aI w 2020 (ad 2)) s0)) (has := (fun k => (aI w 2040 (ad 4)) (1200 * k + d))) (Int32.not_le.mp c_28) hnr (by rw [show (byV (aI w 2010 (ad 1)) (aI w 2020 (ad 2)) s0) i = _ from (if_pos ((nI_eq (by omega) (by omega)).mp c_41)), show (byV (aI w 2010 (ad 1)) (aI w 2020 (ad 2)) s0) j = _ from (if_pos ((nI_eq (by omega) (by omega)).mp c_84))]; exact Int32.not_le.mp c_109)
                      have h9 := ih (i + 1) (by omega)
                      rw [e9] at h9
                      exact g_lv2 [(0, .ref mo), (1, .int (nI s0)), (2, .int (nI d)), (3, .int kn), (4, .int (nI i)), (5, .int (nI (i + 1)))] rfl h9
  refine g_iconst C (-1) dX10_rainOn_0 (by rfl) ?_
  refine g_istore C dX10_rainOn_1 (by decide) ?_
  refine g_iconst C 0 dX10_rainOn_3 (by rfl) ?_
  refine g_istore C dX10_rainOn_4 (by decide) ?_
  exact g_lv2 [(0, .ref mo), (1, .int (nI s0)), (2, .int (nI d)), (3, .int kn), (4, .int (-1)), (5, .int (nI 0))] rfl (loop nS 0 (by omega))
end REF14
