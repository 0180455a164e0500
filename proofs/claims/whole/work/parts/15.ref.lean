section REF15
theorem g_cutS {p : Program} {l : Launch} {e : Env} {R : Room} {s : State} {m : MethodId} {args : Array Value} {below : List Frame} {meth : Method} {c : Code} {D : va_G} {cy : Nat → ClassId} {z nL : Nat} {w : Wd} {kc ns pc : Nat} {lv : List (Nat × Value)} {st : List Value} {Q : State → Prop} {pc' : Nat} (v : Value) (j : G p l e R s m args below meth c D cy z nL w kc ns pc' lv (v :: st) Q)
    (k : G p l e R s m args below meth c D cy z nL w kc ns pc' lv (v :: st) Q → G p l e R s m args below meth c D cy z nL w kc ns pc lv st Q) : G p l e R s m args below meth c D cy z nL w kc ns pc lv st Q := k j
theorem dry_r1 {f : Nat → Int32} {a n : Nat} (h : f (a + n) < 10) : nI (dryN f a n).2 + 1 = nI (dryN f a (n + 1)).2 := by
  rw [show (dryN f a (n + 1)).2 = (dryN f a n).2 + 1 from if_pos h]
  exact nI_1 _
theorem dry_r0 {f : Nat → Int32} {a n : Nat} (h : ¬ f (a + n) < 10) : (0 : Int32) = nI (dryN f a (n + 1)).2 := by
  rw [show (dryN f a (n + 1)).2 = 0 from if_neg h]
  rfl
theorem dry_21 {f : Nat → Int32} {a : Nat} : ∀ n, (dryN f a n).2 ≤ (dryN f a n).1
  | 0 => Nat.le_refl _
  | n + 1 => Nat.le_max_right _ _
theorem dry_m1 {f : Nat → Int32} {a n : Nat} (hn : n < 1000) (h : ¬ nI (dryN f a (n + 1)).2 ≤ nI (dryN f a n).1) : nI (dryN f a (n + 1)).2 = nI (dryN f a (n + 1)).1 := by
  have h1 := (dryN_le (f := f) (a := a) (n + 1)).2
  have h2 := (dryN_le (f := f) (a := a) n).1
  have h3 := nI_nle_of h (by omega) (by omega)
  exact congrArg nI (Nat.max_eq_right (a := (dryN f a n).1) (b := (dryN f a (n + 1)).2) (by omega)).symm
theorem dry_m0 {f : Nat → Int32} {a n : Nat} (hn : n < 1000) (h : nI (dryN f a (n + 1)).2 ≤ nI (dryN f a n).1) : nI (dryN f a n).1 = nI (dryN f a (n + 1)).1 := by
  have h1 := (dryN_le (f := f) (a := a) (n + 1)).2
  have h2 := (dryN_le (f := f) (a := a) n).1
  have h3 := nI_le_of h (by omega) (by omega)
  exact congrArg nI (Nat.max_eq_left (a := (dryN f a n).1) (b := (dryN f a (n + 1)).2) (by omega)).symm
def sevN (f : Nat → Int32) (a n : Nat) : Bool := decide (7 ≤ (dryN f a n).1)
theorem sev_1 {f : Nat → Int32} {a n : Nat} (h : ¬ bI (sevN f a n) = 0) : (1 : Int32) = bI (sevN f a (n + 1)) := by
  have h1 : 7 ≤ (dryN f a n).1 := of_decide_eq_true (bI_n0.mp h)
  have h2 : (dryN f a n).1 ≤ (dryN f a (n + 1)).1 := Nat.le_max_left _ _
  unfold sevN
  rw [decide_eq_true (p := 7 ≤ (dryN f a (n + 1)).1) (by omega)]
  rfl
theorem sev_2 {f : Nat → Int32} {a n : Nat} (hn : n < 1000) (h : nI (dryN f a (n + 1)).2 = 7) : (1 : Int32) = bI (sevN f a (n + 1)) := by
  have h1 := (dryN_le (f := f) (a := a) (n + 1)).2
  have h2 : (dryN f a (n + 1)).2 = 7 := (nI_eq (a := (dryN f a (n + 1)).2) (b := 7) (by omega) (by omega)).mp h
  have h3 := dry_21 (f := f) (a := a) (n + 1)
  unfold sevN
  rw [decide_eq_true (p := 7 ≤ (dryN f a (n + 1)).1) (by omega)]
  rfl
theorem sev_3 {f : Nat → Int32} {a n : Nat} (hn : n < 1000) (h0 : bI (sevN f a n) = 0) (h : ¬ nI (dryN f a (n + 1)).2 = 7) : (0 : Int32) = bI (sevN f a (n + 1)) := by
  have h1 := (dryN_le (f := f) (a := a) (n + 1)).2
  have h2 : ¬ (dryN f a (n + 1)).2 = 7 := fun z => h (by rw [z]; rfl)
  have h3 : ¬ 7 ≤ (dryN f a n).1 := of_decide_eq_false (bI_0.mp h0)
  have h4 := dry_21 (f := f) (a := a) n
  have h5 : (dryN f a (n + 1)).2 ≤ (dryN f a n).2 + 1 := by
    show (if f (a + n) < 10 then (dryN f a n).2 + 1 else 0) ≤ _
    split <;> omega
  have h6 : (dryN f a (n + 1)).1 = max (dryN f a n).1 (dryN f a (n + 1)).2 := rfl
  unfold sevN
  rw [decide_eq_false (p := 7 ≤ (dryN f a (n + 1)).1) (by omega)]
  rfl
theorem sum3 {f : Nat → Int32} {d : Nat} (h : 2 ≤ d) : f d + f (d - 1) + f (d - 2) = sumF f (d - 2) 3 := by
  obtain ⟨k, rfl⟩ : ∃ k, d = k + 2 := ⟨d - 2, by omega⟩
  show f (k + 2) + f (k + 1) + f k = 0 + f k + f (k + 1) + f (k + 2)
  rw [Int32.zero_add, Int32.add_comm (f (k + 2)), Int32.add_assoc, Int32.add_comm (f (k + 2)), ← Int32.add_assoc, Int32.add_comm (f (k + 1))]
theorem ix5 {a b : Nat} : (5 : Int32) * (3 * nI a + nI b) = nI (5 * (3 * a + b)) := by
  rw [show (3 : Int32) = nI 3 from rfl, pk_mul, nI_add, show (5 : Int32) = nI 5 from rfl, pk_mul]
/-- the phase i of product pr, its word k -/
def phV (w : Wd) (ad : Nat → Nat) (pr k i : Nat) : Int32 := aI w 2070 (ad 7) (5 * (3 * pr + i) + k)
def RPH (w : Wd) (ad : Nat → Nat) (pr n : Nat) (dN : Nat → Nat) : Prop := n ≤ 3 ∧ ∀ i, i < n → phV w ad pr 0 i = nI (dN i) ∧ dN i ≤ 30 ∧ (phV w ad pr 1 i = 0 ∨ phV w ad pr 1 i = 1)
theorem beg_b0 (f : Nat → Int32) : ∃ b0 : Nat, b0 ≤ 60 ∧ oI (begO f 58) + 1 = nI b0 ∧ ((oI (begO f 58) = -1 ∧ stN f = 60) ∨ (¬ oI (begO f 58) = -1 ∧ stN f = b0)) := by
  by_cases h : oI (begO f 58) = -1
  · exact ⟨0, by omega, by rw [h]; rfl, Or.inl ⟨h, stN_60 h⟩⟩
  · exact ⟨stN f, stN_le f, stN_s h, Or.inr ⟨h, rfl⟩⟩
theorem dX10_lays_0 : decode cX10_lays 0 = .ok (.iconst 0, 1) := by decide +kernel
theorem dX10_lays_1 : decode cX10_lays 1 = .ok (.istore 4, 2) := by decide +kernel
theorem dX10_lays_3 : decode cX10_lays 3 = .ok (.iload 4, 2) := by decide +kernel
theorem dX10_lays_5 : decode cX10_lays 5 = .ok (.bipush 60, 2) := by decide +kernel
theorem dX10_lays_7 : decode cX10_lays 7 = .ok (.if_icmp .ge 29, 3) := by decide +kernel
theorem dX10_lays_10 : decode cX10_lays 10 = .ok (.aload_n 0, 1) := by decide +kernel
theorem dX10_lays_11 : decode cX10_lays 11 = .ok (.getfield 72, 3) := by decide +kernel
theorem dX10_lays_14 : decode cX10_lays 14 = .ok (.iload 4, 2) := by decide +kernel
theorem dX10_lays_16 : decode cX10_lays 16 = .ok (.aload_n 0, 1) := by decide +kernel
theorem dX10_lays_17 : decode cX10_lays 17 = .ok (.iload_n 1, 1) := by decide +kernel
theorem dX10_lays_18 : decode cX10_lays 18 = .ok (.bipush 60, 2) := by decide +kernel
theorem dX10_lays_20 : decode cX10_lays 20 = .ok (.iload_n 2, 1) := by decide +kernel
theorem dX10_lays_21 : decode cX10_lays 21 = .ok (.imul, 1) := by decide +kernel
theorem dX10_lays_22 : decode cX10_lays 22 = .ok (.iload 4, 2) := by decide +kernel
theorem dX10_lays_24 : decode cX10_lays 24 = .ok (.iadd, 1) := by decide +kernel
theorem dX10_lays_25 : decode cX10_lays 25 = .ok (.iload_n 3, 1) := by decide +kernel
theorem dX10_lays_26 : decode cX10_lays 26 = .ok (.invokevirtual 110, 3) := by decide +kernel
theorem dX10_lays_29 : decode cX10_lays 29 = .ok (.iastore, 1) := by decide +kernel
theorem dX10_lays_30 : decode cX10_lays 30 = .ok (.iinc 4 1, 3) := by decide +kernel
theorem dX10_lays_33 : decode cX10_lays 33 = .ok (.goto (-30), 3) := by decide +kernel
theorem dX10_lays_36 : decode cX10_lays 36 = .ok (.return_, 1) := by decide +kernel
set_option maxHeartbeats 4000000 in
set_option maxRecDepth 100000 in
theorem c_X10_lays (de : Nat) (w : Wd) (mo : Nat) (ad : Nat → Nat) (hm : RM w mo ad) (nS s0 se : Nat) (kn : Int32) (hS : fI w 12 3 mo = nI nS) (hn5 : nS ≤ 5) (hs : s0 < nS) (hse : se < 20) : Ct yX10_lays cX10_lays 5 none 2 50 0 0 de [.ref mo, .int (nI s0), .int (nI se), .int kn] w (fun r w' => r = none ∧ ∃ g, w' = stR w 2280 (ad 28) g ∧ ∀ j, j < 60 → g j = rrV nS (aI w 2010 (ad 1)) (aI w 2020 (ad 2)) (aI w 2040 (ad 4)) (aI w 2050 (ad 5)) kn (60 * se + j) s0) := by
  refine Ct.mk (by decide +kernel) [(0, .ref mo), (1, .int (nI s0)), (2, .int (nI se)), (3, .int kn)] rfl (Nat.le_of_ble_eq_true rfl) ?_
  intro p l e R s m args below meth c D cy z C hnm
  obtain ⟨row, hrow⟩ : ∃ row : Nat → Int32, ∀ j, row j = rrV nS (aI w 2010 (ad 1)) (aI w 2020 (ad 2)) (aI w 2040 (ad 4)) (aI w 2050 (ad 5)) kn (60 * se + j) s0 := ⟨_, fun _ => rfl⟩
  simp only [← hrow]
  have loop : ∀ (k i : Nat) (g : Nat → Int32), i + k = 60 → (∀ j, j < i → g j = row j) → G p l e R s m args below meth c D cy z 5 (stR w 2280 (ad 28) g) 0 0 3 [(0, .ref mo), (1, .int (nI s0)), (2, .int (nI se)), (3, .int kn), (4, .int (nI i))] [] (QM below args s D cy z (fun r w' => r = none ∧ ∃ g, w' = stR w 2280 (ad 28) g ∧ ∀ j, j < 60 → g j = row j) 0 0) := by
    intro k
    induction k with
    | zero =>
      intro i g hik hg
      refine g_iload C dX10_lays_3 rfl ?_
      refine g_bipush C 60 dX10_lays_5 (by rfl) ?_
      refine g_icmp_ge C 36 dX10_lays_7 (by decide) (fun c_7 => ?_) (fun c_7 => ?_)
      · refine g_vret C rfl (by decide) (by decide) dX10_lays_36 ?_
        exact ⟨rfl, g, rfl, fun j hj => hg j (by omega)⟩
      · exact absurd (nI_le (a := 60) (b := i) (by omega) (by omega)) c_7
    | succ k ih =>
      intro i g hik hg
      refine g_iload C dX10_lays_3 rfl ?_
      refine g_bipush C 60 dX10_lays_5 (by rfl) ?_
      refine g_icmp_ge C 36 dX10_lays_7 (by decide) (fun c_7 => ?_) (fun c_7 => ?_)
      · exact absurd c_7 (nI_ge (a := i) (b := 60) (by omega) (by decide))
      · refine g_aload_n C dX10_lays_10 rfl ?_
        refine g_getR (b := (ad 28)) C cls_11 12 28 hm.1 (rm_28 hm).1 rfl k_943 dX10_lays_11 ?_
        refine g_iload C dX10_lays_14 rfl ?_
        refine g_aload_n C dX10_lays_16 rfl ?_
        refine g_iload_n C dX10_lays_17 rfl ?_
        refine g_bipush C 60 dX10_lays_18 (by rfl) ?_
        refine g_iload_n C dX10_lays_20 rfl ?_
        refine g_imul C dX10_lays_21 ?_
        refine g_iload C dX10_lays_22 rfl ?_
        refine g_iadd C dX10_lays_24 ?_
        rw [show (60 : Int32) * nI se + nI i = nI (60 * se + i) by rw [show (60 : Int32) = nI 60 from rfl, pk_mul, nI_add]]
        refine g_iload_n C dX10_lays_25 rfl ?_
        refine g_callV C cls_11 12 mt_X10_rainOn [.int (nI s0), .int (nI (60 * se + i)), .int kn] (c_X10_rainOn de (stR w 2280 (ad 28) g) mo ad hm nS s0 (60 * se + i) kn hS hn5 hs (by omega)) hm.1 (by decide) k_1041 rfl rfl (Nat.le_of_ble_eq_true rfl) (by decide) (by decide) (by decide) (by decide) dX10_lays_26 (fun r_26 w_26 hp_26 => ?_)
        obtain ⟨rfl, rfl⟩ := hp_26
        rw [show rrV nS (aI (stR w 2280 (ad 28) g) 2010 (ad 1)) (aI (stR w 2280 (ad 28) g) 2020 (ad 2)) (aI (stR w 2280 (ad 28) g) 2040 (ad 4)) (aI (stR w 2280 (ad 28) g) 2050 (ad 5)) kn (60 * se + i) s0 = row i from (hrow i).symm]
        refine g_iast C 2280 (rm_28 hm).2.1 rfl (show vp_in (nI i) (aL w (ad 28)) by rw [(rm_28 hm).2.2]; exact nI_vp (show i < 60 by omega) (by omega)) dX10_lays_29 ?_
        refine g_iinc C dX10_lays_30 rfl (nI_1 i) (by decide) ?_
        refine g_goto C 3 dX10_lays_33 (by decide) ?_
        have h9 := ih (i + 1) (upd g i (row i)) (by omega) (fun j hj => by by_cases e9 : j = i <;> simp [upd, e9] <;> exact hg j (by omega))
        refine g_eq rfl rfl (w' := stR w 2280 (ad 28) (upd g i (row i))) (by rw [nI_tn (by omega)]; exact pAI_stR) ?_
        exact g_lv2 [(0, .ref mo), (1, .int (nI s0)), (2, .int (nI se)), (3, .int kn), (4, .int (nI (i + 1)))] rfl h9
  refine g_iconst C 0 dX10_lays_0 (by rfl) ?_
  refine g_istore C dX10_lays_1 (by decide) ?_
  refine g_eq rfl rfl (w' := stR w 2280 (ad 28) (aI w 2280 (ad 28))) stR_self.symm ?_
  exact g_lv2 [(0, .ref mo), (1, .int (nI s0)), (2, .int (nI se)), (3, .int kn), (4, .int (nI 0))] rfl (loop 60 0 _ (by omega) (fun j hj => absurd hj (by omega)))
theorem dX10_isFalse_0 : decode cX10_isFalse 0 = .ok (.iconst 0, 1) := by decide +kernel
theorem dX10_isFalse_1 : decode cX10_isFalse 1 = .ok (.istore_n 2, 1) := by decide +kernel
theorem dX10_isFalse_2 : decode cX10_isFalse 2 = .ok (.iconst 0, 1) := by decide +kernel
theorem dX10_isFalse_3 : decode cX10_isFalse 3 = .ok (.istore_n 3, 1) := by decide +kernel
theorem dX10_isFalse_4 : decode cX10_isFalse 4 = .ok (.iload_n 1, 1) := by decide +kernel
theorem dX10_isFalse_5 : decode cX10_isFalse 5 = .ok (.iconst 1, 1) := by decide +kernel
theorem dX10_isFalse_6 : decode cX10_isFalse 6 = .ok (.iadd, 1) := by decide +kernel
theorem dX10_isFalse_7 : decode cX10_isFalse 7 = .ok (.istore 4, 2) := by decide +kernel
theorem dX10_isFalse_9 : decode cX10_isFalse 9 = .ok (.iload 4, 2) := by decide +kernel
theorem dX10_isFalse_11 : decode cX10_isFalse 11 = .ok (.iload_n 1, 1) := by decide +kernel
theorem dX10_isFalse_12 : decode cX10_isFalse 12 = .ok (.bipush 15, 2) := by decide +kernel
theorem dX10_isFalse_14 : decode cX10_isFalse 14 = .ok (.iadd, 1) := by decide +kernel
theorem dX10_isFalse_15 : decode cX10_isFalse 15 = .ok (.if_icmp .gt 52, 3) := by decide +kernel
theorem dX10_isFalse_18 : decode cX10_isFalse 18 = .ok (.iload 4, 2) := by decide +kernel
theorem dX10_isFalse_20 : decode cX10_isFalse 20 = .ok (.bipush 60, 2) := by decide +kernel
theorem dX10_isFalse_22 : decode cX10_isFalse 22 = .ok (.if_icmp .ge 45, 3) := by decide +kernel
theorem dX10_isFalse_25 : decode cX10_isFalse 25 = .ok (.aload_n 0, 1) := by decide +kernel
theorem dX10_isFalse_26 : decode cX10_isFalse 26 = .ok (.getfield 72, 3) := by decide +kernel
theorem dX10_isFalse_29 : decode cX10_isFalse 29 = .ok (.iload 4, 2) := by decide +kernel
theorem dX10_isFalse_31 : decode cX10_isFalse 31 = .ok (.iaload, 1) := by decide +kernel
theorem dX10_isFalse_32 : decode cX10_isFalse 32 = .ok (.bipush 10, 2) := by decide +kernel
theorem dX10_isFalse_34 : decode cX10_isFalse 34 = .ok (.if_icmp .ge 9, 3) := by decide +kernel
theorem dX10_isFalse_37 : decode cX10_isFalse 37 = .ok (.iload_n 2, 1) := by decide +kernel
theorem dX10_isFalse_38 : decode cX10_isFalse 38 = .ok (.iconst 1, 1) := by decide +kernel
theorem dX10_isFalse_39 : decode cX10_isFalse 39 = .ok (.iadd, 1) := by decide +kernel
theorem dX10_isFalse_40 : decode cX10_isFalse 40 = .ok (.goto 4, 3) := by decide +kernel
theorem dX10_isFalse_43 : decode cX10_isFalse 43 = .ok (.iconst 0, 1) := by decide +kernel
theorem dX10_isFalse_44 : decode cX10_isFalse 44 = .ok (.istore_n 2, 1) := by decide +kernel
theorem dX10_isFalse_45 : decode cX10_isFalse 45 = .ok (.iload_n 3, 1) := by decide +kernel
theorem dX10_isFalse_46 : decode cX10_isFalse 46 = .ok (.ifCond .ne 9, 3) := by decide +kernel
theorem dX10_isFalse_49 : decode cX10_isFalse 49 = .ok (.iload_n 2, 1) := by decide +kernel
theorem dX10_isFalse_50 : decode cX10_isFalse 50 = .ok (.bipush 7, 2) := by decide +kernel
theorem dX10_isFalse_52 : decode cX10_isFalse 52 = .ok (.if_icmp .ne 7, 3) := by decide +kernel
theorem dX10_isFalse_55 : decode cX10_isFalse 55 = .ok (.iconst 1, 1) := by decide +kernel
theorem dX10_isFalse_56 : decode cX10_isFalse 56 = .ok (.goto 4, 3) := by decide +kernel
theorem dX10_isFalse_59 : decode cX10_isFalse 59 = .ok (.iconst 0, 1) := by decide +kernel
theorem dX10_isFalse_60 : decode cX10_isFalse 60 = .ok (.istore_n 3, 1) := by decide +kernel
theorem dX10_isFalse_61 : decode cX10_isFalse 61 = .ok (.iinc 4 1, 3) := by decide +kernel
theorem dX10_isFalse_64 : decode cX10_isFalse 64 = .ok (.goto (-55), 3) := by decide +kernel
theorem dX10_isFalse_67 : decode cX10_isFalse 67 = .ok (.iload_n 3, 1) := by decide +kernel
theorem dX10_isFalse_68 : decode cX10_isFalse 68 = .ok (.ireturn, 1) := by decide +kernel
set_option maxHeartbeats 4000000 in
set_option maxRecDepth 100000 in
theorem c_X10_isFalse (de : Nat) (w : Wd) (mo : Nat) (ad : Nat → Nat) (hm : RM w mo ad) (fr : Nat) (hfr : fr < 60) : Ct yX10_isFalse cX10_isFalse 5 (some .boolean) 0 0 0 0 de [.ref mo, .int (nI fr)] w (fun r w' => r = some (.int (bI (sevN (aI w 2280 (ad 28)) (fr + 1) (min (fr + 16) 60 - (fr + 1))))) ∧ w = w') := by
  refine Ct.mk (by decide +kernel) [(0, .ref mo), (1, .int (nI fr))] rfl (Nat.le_of_ble_eq_true rfl) ?_
  intro p l e R s m args below meth c D cy z C hnm
  obtain ⟨N, hN⟩ : ∃ N : Nat, N = min (fr + 16) 60 - (fr + 1) := ⟨_, rfl⟩
  have loop : ∀ (k i : Nat), i + k = N → G p l e R s m args below meth c D cy z 5 w 0 0 9 [(0, .ref mo), (1, .int (nI fr)), (2, .int (nI (dryN (aI w 2280 (ad 28)) (fr + 1) i).2)), (3, .int (bI (sevN (aI w 2280 (ad 28)) (fr + 1) i))), (4, .int (nI (fr + 1 + i)))] [] (QM below args s D cy z (fun r w' => r = some (.int (bI (sevN (aI w 2280 (ad 28)) (fr + 1) N))) ∧ w = w') 0 0) := by
    intro k
    induction k with
    | zero =>
      intro i hik
      refine g_iload C dX10_isFalse_9 rfl ?_
      refine g_iload_n C dX10_isFalse_11 rfl ?_
      refine g_bipush C 15 dX10_isFalse_12 (by rfl) ?_
      refine g_iadd C dX10_isFalse_14 ?_
      rw [show nI fr + 15 = nI (fr + 15) from nI_add fr 15]
      refine g_icmp_gt C 67 dX10_isFalse_15 (by decide) (fun c_15 => ?_) (fun c_15 => ?_)
      · refine g_iload_n C dX10_isFalse_67 rfl ?_
        refine g_iret C rfl (bI_nar _) (by decide) (by decide) dX10_isFalse_68 ?_
        exact ⟨by rw [show i = N by omega], rfl⟩
      · refine g_iload C dX10_isFalse_18 rfl ?_
        refine g_bipush C 60 dX10_isFalse_20 (by rfl) ?_
        refine g_icmp_ge C 67 dX10_isFalse_22 (by decide) (fun c_22 => ?_) (fun c_22 => ?_)
        · refine g_iload_n C dX10_isFalse_67 rfl ?_
          refine g_iret C rfl (bI_nar _) (by decide) (by decide) dX10_isFalse_68 ?_
          exact ⟨by rw [show i = N by omega], rfl⟩
        · exact absurd (nI_nle_of (a := 60) c_22 (by omega) (by omega)) (by have := nI_nlt_of c_15 (by omega) (by omega); omega)
    | succ k ih =>
      intro i hik
      have hx9 : fr + 1 + i ≤ fr + 15 ∧ fr + 1 + i < 60 := by omega
      refine g_iload C dX10_isFalse_9 rfl ?_
      refine g_iload_n C dX10_isFalse_11 rfl ?_
      refine g_bipush C 15 dX10_isFalse_12 (by rfl) ?_
      refine g_iadd C dX10_isFalse_14 ?_
      rw [show nI fr + 15 = nI (fr + 15) from nI_add fr 15]
      refine g_icmp_gt C 67 dX10_isFalse_15 (by decide) (fun c_15 => ?_) (fun c_15 => ?_)
      · first
        | exact absurd (nI_lt_of c_15 (by omega) (by omega)) (by omega)
        | exact absurd (nI_le_of (a := 60) c_22 (by omega) (by omega)) (by omega)
      · refine g_iload C dX10_isFalse_18 rfl ?_
        refine g_bipush C 60 dX10_isFalse_20 (by rfl) ?_
        refine g_icmp_ge C 67 dX10_isFalse_22 (by decide) (fun c_22 => ?_) (fun c_22 => ?_)
        · first
          | exact absurd (nI_lt_of c_15 (by omega) (by omega)) (by omega)
          | exact absurd (nI_le_of (a := 60) c_22 (by omega) (by omega)) (by omega)
        · refine g_cutS (pc' := 44) (.int (nI (dryN (aI w 2280 (ad 28)) (fr + 1) (i + 1)).2)) ?_ (fun j_44 => ?_)
          · refine g_istore_n C dX10_isFalse_44 (by decide) ?_
            refine g_cutS (pc' := 60) (.int (bI (sevN (aI w 2280 (ad 28)) (fr + 1) (i + 1)))) ?_ (fun j_60 => ?_)
            · refine g_istore_n C dX10_isFalse_60 (by decide) ?_
              refine g_iinc C dX10_isFalse_61 rfl (nI_1 (fr + 1 + i)) (by decide) ?_
              refine g_goto C 9 dX10_isFalse_64 (by decide) ?_
              have h9 := ih (i + 1) (by omega)
              exact g_lv2 [(0, .ref mo), (1, .int (nI fr)), (2, .int (nI (dryN (aI w 2280 (ad 28)) (fr + 1) (i + 1)).2)), (3, .int (bI (sevN (aI w 2280 (ad 28)) (fr + 1) (i + 1)))), (4, .int (nI (fr + 1 + (i + 1))))] rfl h9
            · refine g_iload_n C dX10_isFalse_45 rfl ?_
              refine g_if_ne C 55 dX10_isFalse_46 (by decide) (fun c_46 => ?_) (fun c_46 => ?_)
              · refine g_iconst C 1 dX10_isFalse_55 (by rfl) ?_
                refine g_goto C 60 dX10_isFalse_56 (by decide) ?_
                exact g_eq rfl (congrArg (fun v => Value.int v :: _) (by first | exact sev_1 c_46 | exact sev_2 (by omega) c_52 | exact sev_3 (by omega) c_46 c_52)) rfl j_60
              · refine g_iload_n C dX10_isFalse_49 rfl ?_
                refine g_bipush C 7 dX10_isFalse_50 (by rfl) ?_
                refine g_icmp_ne C 59 dX10_isFalse_52 (by decide) (fun c_52 => ?_) (fun c_52 => ?_)
                · refine g_iconst C 0 dX10_isFalse_59 (by rfl) ?_
                  exact g_eq rfl (congrArg (fun v => Value.int v :: _) (by first | exact sev_1 c_46 | exact sev_2 (by omega) c_52 | exact sev_3 (by omega) c_46 c_52)) rfl j_60
                · refine g_iconst C 1 dX10_isFalse_55 (by rfl) ?_
                  refine g_goto C 60 dX10_isFalse_56 (by decide) ?_
                  exact g_eq rfl (congrArg (fun v => Value.int v :: _) (by first | exact sev_1 c_46 | exact sev_2 (by omega) c_52 | exact sev_3 (by omega) c_46 c_52)) rfl j_60
          · refine g_aload_n C dX10_isFalse_25 rfl ?_
            refine g_getR (b := (ad 28)) C cls_11 12 28 hm.1 (rm_28 hm).1 rfl k_943 dX10_isFalse_26 ?_
            refine g_iload C dX10_isFalse_29 rfl ?_
            refine g_iald C 2280 (rm_28 hm).2.1 rfl (by rw [(rm_28 hm).2.2]; exact nI_vp (show fr + 1 + i < 60 by omega) (by omega)) dX10_isFalse_31 ?_
            rw [nI_tn (by omega)]
            refine g_bipush C 10 dX10_isFalse_32 (by rfl) ?_
            refine g_icmp_ge C 43 dX10_isFalse_34 (by decide) (fun c_34 => ?_) (fun c_34 => ?_)
            · refine g_iconst C 0 dX10_isFalse_43 (by rfl) ?_
              exact g_eq rfl (congrArg (fun v => Value.int v :: _) (by first | exact dry_r1 (Int32.not_le.mp c_34) | exact dry_r0 (Int32.not_lt.mpr c_34))) rfl j_44
            · refine g_iload_n C dX10_isFalse_37 rfl ?_
              refine g_iconst C 1 dX10_isFalse_38 (by rfl) ?_
              refine g_iadd C dX10_isFalse_39 ?_
              refine g_goto C 44 dX10_isFalse_40 (by decide) ?_
              exact g_eq rfl (congrArg (fun v => Value.int v :: _) (by first | exact dry_r1 (Int32.not_le.mp c_34) | exact dry_r0 (Int32.not_lt.mpr c_34))) rfl j_44
  refine g_iconst C 0 dX10_isFalse_0 (by rfl) ?_
  refine g_istore_n C dX10_isFalse_1 (by decide) ?_
  refine g_iconst C 0 dX10_isFalse_2 (by rfl) ?_
  refine g_istore_n C dX10_isFalse_3 (by decide) ?_
  refine g_iload_n C dX10_isFalse_4 rfl ?_
  refine g_iconst C 1 dX10_isFalse_5 (by rfl) ?_
  refine g_iadd C dX10_isFalse_6 ?_
  rw [nI_1 fr]
  refine g_istore C dX10_isFalse_7 (by decide) ?_
  rw [← hN]
  exact g_lv2 [(0, .ref mo), (1, .int (nI fr)), (2, .int (nI (dryN (aI w 2280 (ad 28)) (fr + 1) 0).2)), (3, .int (bI (sevN (aI w 2280 (ad 28)) (fr + 1) 0))), (4, .int (nI (fr + 1 + 0)))] rfl (loop N 0 (by omega))
theorem dX10_beginning_0 : decode cX10_beginning 0 = .ok (.iconst 2, 1) := by decide +kernel
theorem dX10_beginning_1 : decode cX10_beginning 1 = .ok (.istore_n 1, 1) := by decide +kernel
theorem dX10_beginning_2 : decode cX10_beginning 2 = .ok (.iload_n 1, 1) := by decide +kernel
theorem dX10_beginning_3 : decode cX10_beginning 3 = .ok (.bipush 60, 2) := by decide +kernel
theorem dX10_beginning_5 : decode cX10_beginning 5 = .ok (.if_icmp .ge 49, 3) := by decide +kernel
theorem dX10_beginning_8 : decode cX10_beginning 8 = .ok (.aload_n 0, 1) := by decide +kernel
theorem dX10_beginning_9 : decode cX10_beginning 9 = .ok (.getfield 72, 3) := by decide +kernel
theorem dX10_beginning_12 : decode cX10_beginning 12 = .ok (.iload_n 1, 1) := by decide +kernel
theorem dX10_beginning_13 : decode cX10_beginning 13 = .ok (.iaload, 1) := by decide +kernel
theorem dX10_beginning_14 : decode cX10_beginning 14 = .ok (.aload_n 0, 1) := by decide +kernel
theorem dX10_beginning_15 : decode cX10_beginning 15 = .ok (.getfield 72, 3) := by decide +kernel
theorem dX10_beginning_18 : decode cX10_beginning 18 = .ok (.iload_n 1, 1) := by decide +kernel
theorem dX10_beginning_19 : decode cX10_beginning 19 = .ok (.iconst 1, 1) := by decide +kernel
theorem dX10_beginning_20 : decode cX10_beginning 20 = .ok (.isub, 1) := by decide +kernel
theorem dX10_beginning_21 : decode cX10_beginning 21 = .ok (.iaload, 1) := by decide +kernel
theorem dX10_beginning_22 : decode cX10_beginning 22 = .ok (.iadd, 1) := by decide +kernel
theorem dX10_beginning_23 : decode cX10_beginning 23 = .ok (.aload_n 0, 1) := by decide +kernel
theorem dX10_beginning_24 : decode cX10_beginning 24 = .ok (.getfield 72, 3) := by decide +kernel
theorem dX10_beginning_27 : decode cX10_beginning 27 = .ok (.iload_n 1, 1) := by decide +kernel
theorem dX10_beginning_28 : decode cX10_beginning 28 = .ok (.iconst 2, 1) := by decide +kernel
theorem dX10_beginning_29 : decode cX10_beginning 29 = .ok (.isub, 1) := by decide +kernel
theorem dX10_beginning_30 : decode cX10_beginning 30 = .ok (.iaload, 1) := by decide +kernel
theorem dX10_beginning_31 : decode cX10_beginning 31 = .ok (.iadd, 1) := by decide +kernel
theorem dX10_beginning_32 : decode cX10_beginning 32 = .ok (.sipush 200, 3) := by decide +kernel
theorem dX10_beginning_35 : decode cX10_beginning 35 = .ok (.if_icmp .lt 13, 3) := by decide +kernel
theorem dX10_beginning_38 : decode cX10_beginning 38 = .ok (.aload_n 0, 1) := by decide +kernel
theorem dX10_beginning_39 : decode cX10_beginning 39 = .ok (.iload_n 1, 1) := by decide +kernel
theorem dX10_beginning_40 : decode cX10_beginning 40 = .ok (.invokevirtual 113, 3) := by decide +kernel
theorem dX10_beginning_43 : decode cX10_beginning 43 = .ok (.ifCond .ne 5, 3) := by decide +kernel
theorem dX10_beginning_46 : decode cX10_beginning 46 = .ok (.iload_n 1, 1) := by decide +kernel
theorem dX10_beginning_47 : decode cX10_beginning 47 = .ok (.ireturn, 1) := by decide +kernel
theorem dX10_beginning_48 : decode cX10_beginning 48 = .ok (.iinc 1 1, 3) := by decide +kernel
theorem dX10_beginning_51 : decode cX10_beginning 51 = .ok (.goto (-49), 3) := by decide +kernel
theorem dX10_beginning_54 : decode cX10_beginning 54 = .ok (.iconst (-1), 1) := by decide +kernel
theorem dX10_beginning_55 : decode cX10_beginning 55 = .ok (.ireturn, 1) := by decide +kernel
theorem sub_i (a b : Nat) (h : b ≤ a) (ha : a < 100000) (hb : b < 100000) : nI a - nI b = nI (a - b) := by
  obtain ⟨q, rfl⟩ : ∃ q, a = b + q := ⟨a - b, by omega⟩
  rw [show b + q - b = q by omega, ← nI_add, Int32.add_comm, Int32.sub_eq_add_neg, Int32.add_assoc, Int32.add_right_neg, Int32.add_zero]
set_option maxHeartbeats 4000000 in
set_option maxRecDepth 100000 in
theorem c_X10_beginning (de : Nat) (w : Wd) (mo : Nat) (ad : Nat → Nat) (hm : RM w mo ad) : Ct yX10_beginning cX10_beginning 2 (some .int) 1 24 0 0 de [.ref mo] w (fun r w' => r = some (.int (oI (begO (aI w 2280 (ad 28)) 58))) ∧ w = w') := by
  refine Ct.mk (by decide +kernel) [(0, .ref mo)] rfl (Nat.le_of_ble_eq_true rfl) ?_
  intro p l e R s m args below meth c D cy z C hnm
  have loop : ∀ (k d : Nat), d + k = 60 → 2 ≤ d → begO (aI w 2280 (ad 28)) k = begO (aI w 2280 (ad 28)) 58 → G p l e R s m args below meth c D cy z 2 w 0 0 2 [(0, .ref mo), (1, .int (nI d))] [] (QM below args s D cy z (fun r w' => r = some (.int (oI (begO (aI w 2280 (ad 28)) 58))) ∧ w = w') 0 0) := by
    intro k
    induction k with
    | zero =>
      intro d hdk hd2 hb
      refine g_iload_n C dX10_beginning_2 rfl ?_
      refine g_bipush C 60 dX10_beginning_3 (by rfl) ?_
      refine g_icmp_ge C 54 dX10_beginning_5 (by decide) (fun c_5 => ?_) (fun c_5 => ?_)
      · refine g_iconst C (-1) dX10_beginning_54 (by rfl) ?_
        refine g_iret C rfl rfl (by decide) (by decide) dX10_beginning_55 ?_
        exact ⟨by rw [← hb]; rfl, rfl⟩
      · exact absurd (nI_le (a := 60) (b := d) (by omega) (by omega)) c_5
    | succ k ih =>
      intro d hdk hd2 hb
      refine g_iload_n C dX10_beginning_2 rfl ?_
      refine g_bipush C 60 dX10_beginning_3 (by rfl) ?_
      refine g_icmp_ge C 54 dX10_beginning_5 (by decide) (fun c_5 => ?_) (fun c_5 => ?_)
      · exact absurd c_5 (nI_ge (a := d) (b := 60) (by omega) (by decide))
      · refine g_aload_n C dX10_beginning_8 rfl ?_
        refine g_getR (b := (ad 28)) C cls_11 12 28 hm.1 (rm_28 hm).1 rfl k_943 dX10_beginning_9 ?_
        refine g_iload_n C dX10_beginning_12 rfl ?_
        refine g_iald C 2280 (rm_28 hm).2.1 rfl (by rw [(rm_28 hm).2.2]; exact nI_vp (show d < 60 by omega) (by omega)) dX10_beginning_13 ?_
        refine g_aload_n C dX10_beginning_14 rfl ?_
        refine g_getR (b := (ad 28)) C cls_11 12 28 hm.1 (rm_28 hm).1 rfl k_943 dX10_beginning_15 ?_
        refine g_iload_n C dX10_beginning_18 rfl ?_
        refine g_iconst C 1 dX10_beginning_19 (by rfl) ?_
        refine g_isub C dX10_beginning_20 ?_
        rw [show nI d - 1 = nI (d - 1) from sub_i d 1 (by omega) (by omega) (by omega)]
        refine g_iald C 2280 (rm_28 hm).2.1 rfl (by rw [(rm_28 hm).2.2]; exact nI_vp (show d - 1 < 60 by omega) (by omega)) dX10_beginning_21 ?_
        refine g_iadd C dX10_beginning_22 ?_
        refine g_aload_n C dX10_beginning_23 rfl ?_
        refine g_getR (b := (ad 28)) C cls_11 12 28 hm.1 (rm_28 hm).1 rfl k_943 dX10_beginning_24 ?_
        refine g_iload_n C dX10_beginning_27 rfl ?_
        refine g_iconst C 2 dX10_beginning_28 (by rfl) ?_
        refine g_isub C dX10_beginning_29 ?_
        rw [show nI d - 2 = nI (d - 2) from sub_i d 2 (by omega) (by omega) (by omega)]
        refine g_iald C 2280 (rm_28 hm).2.1 rfl (by rw [(rm_28 hm).2.2]; exact nI_vp (show d - 2 < 60 by omega) (by omega)) dX10_beginning_30 ?_
        refine g_iadd C dX10_beginning_31 ?_
        rw [nI_tn (show d ≤ 100000 by omega), nI_tn (show d - 1 ≤ 100000 by omega), nI_tn (show d - 2 ≤ 100000 by omega), sum3 hd2]
        refine g_sipush C 200 dX10_beginning_32 (by rfl) ?_
        refine g_icmp_lt C 48 dX10_beginning_35 (by decide) (fun c_35 => ?_) (fun c_35 => ?_)
        · refine g_iinc C dX10_beginning_48 rfl (nI_1 d) (by decide) ?_
          refine g_goto C 2 dX10_beginning_51 (by decide) ?_
          have h9 := ih (d + 1) (by omega) (by omega) (by rw [← begO_f (d := d) (by omega) (okD_f (by first | exact Or.inl c_35 | exact Or.inr (nI_le (of_decide_eq_true (bI_n0.mp c_43)) (by have := (dryN_le (f := (aI w 2280 (ad 28))) (a := d + 1) (min (d + 16) 60 - (d + 1))).1; omega))))]; exact hb)
          exact g_lv2 [(0, .ref mo), (1, .int (nI (d + 1)))] rfl h9
        · refine g_aload_n C dX10_beginning_38 rfl ?_
          refine g_iload_n C dX10_beginning_39 rfl ?_
          refine g_callV C cls_11 12 mt_X10_isFalse [.int (nI d)] (c_X10_isFalse de w mo ad hm d (by omega)) hm.1 (by decide) k_1064 rfl rfl (Nat.le_of_ble_eq_true rfl) (by decide) (by decide) (by decide) (by decide) dX10_beginning_40 (fun r_40 w_40 hp_40 => ?_)
          obtain ⟨rfl, rfl⟩ := hp_40
          refine g_if_ne C 48 dX10_beginning_43 (by decide) (fun c_43 => ?_) (fun c_43 => ?_)
          · refine g_iinc C dX10_beginning_48 rfl (nI_1 d) (by decide) ?_
            refine g_goto C 2 dX10_beginning_51 (by decide) ?_
            have h9 := ih (d + 1) (by omega) (by omega) (by rw [← begO_f (d := d) (by omega) (okD_f (by first | exact Or.inl c_35 | exact Or.inr (nI_le (of_decide_eq_true (bI_n0.mp c_43)) (by have := (dryN_le (f := (aI w 2280 (ad 28))) (a := d + 1) (min (d + 16) 60 - (d + 1))).1; omega))))]; exact hb)
            exact g_lv2 [(0, .ref mo), (1, .int (nI (d + 1)))] rfl h9
          · refine g_iload_n C dX10_beginning_46 rfl ?_
            refine g_iret C rfl rfl (by decide) (by decide) dX10_beginning_47 ?_
            exact ⟨by rw [← hb, begO_t (d := d) (by omega) (okD_t c_35 (fun z9 => of_decide_eq_false (bI_0.mp c_43) (nI_le_of (a := 7) z9 (by omega) (by have := (dryN_le (f := (aI w 2280 (ad 28))) (a := d + 1) (min (d + 16) 60 - (d + 1))).1; omega))))]; rfl, rfl⟩
  refine g_iconst C 2 dX10_beginning_0 (by rfl) ?_
  refine g_istore_n C dX10_beginning_1 (by decide) ?_
  exact g_lv2 [(0, .ref mo), (1, .int (nI 2))] rfl (loop 58 2 (by omega) (by omega) rfl)
end REF15
