section NEW45
section
variable {w : Wd} {de x nS nP nF nC tl : Nat} {A A1 : Nat → Nat → Int32} {F F1 : Nat → Int32} {ho cf cp cs sb pn : Nat → Nat} {dn : Nat → Nat → Nat} {ch : Nat → Nat → List (Nat × Int32)} {ca : Nat → Nat → Nat} {w1 : Wd}
/-- a farm more -/
theorem farR (h : RC0 w de x A F nS nP nF nC tl ho cf cp cs sb pn dn ch ca) {q lo s1 : Nat} (hq : kd w q = 0) (hlo : kd w lo = 0) (k : Kp [11, 1020, 10, 81, 1013, 8, 1002, 9, 1041, 7, 1010, 21, 1023, 6, 101, 1053, 5, 4, 1030, 61, 1043, 3] w w1) (hL : RLs w1 de 41 1033 (ca 9 5) (nF + 1) (fun i => if i = nF then q else ca 6 i)) {v : Int32} (q1 : kd w1 q = 4) (q2 : fI w1 4 0 q = nI nF) (q3 : fR w1 4 1 q = some (ca 0 s1)) (q4 : fR w1 4 2 q = some lo)
    (q5 : fI w1 4 3 q = 50) (q6 : fI w1 4 4 q = 0) (q7 : fI w1 4 5 q = 0) (q8 : fI w1 4 6 q = 0) (a1 : kd w1 lo = 1030) (a2 : aL w1 lo = 20) (a3 : ∀ j, j < 20 → aI w1 1030 lo j = -1) (hz : A 14 nF = 0 ∧ A 15 nF = 0 ∧ A 16 nF = 0 ∧ ∀ q, q < 20 → A 18 (20 * nF + q) = 0) (hcf : ∀ k, k < nC → cf k < nF) :
    RC0 w1 de x (updA (updA A 12 nF (nI s1)) 13 nF 50) (updF F 17 v) nS nP (nF + 1) nC tl (updN ho nF s1) cf cp cs sb pn dn ch (caU (caU ca 6 nF q) 7 nF lo) := by
  have e : ∀ i, i ≠ 6 → i ≠ 7 → caU (caU ca 6 nF q) 7 nF lo i = ca i := fun i h0 h1 => by rw [caU_row h1, caU_row h0]
  have f0 : ∀ j, j ≠ nF → caU (caU ca 6 nF q) 7 nF lo 6 j = ca 6 j := fun j hj => by rw [caU_ne (Or.inl (by decide)), caU_ne (Or.inr hj)]
  have f1 : ∀ j, j ≠ nF → caU (caU ca 6 nF q) 7 nF lo 7 j = ca 7 j := fun j hj => by rw [caU_ne (Or.inr hj), caU_ne (Or.inl (by decide))]
  have n0 : caU (caU ca 6 nF q) 7 nF lo 6 nF = q := by rw [caU_ne (Or.inl (by decide)), caU_eq]
  have n1 : caU (caU ca 6 nF q) 7 nF lo 7 nF = lo := caU_eq
  generalize caU (caU ca 6 nF q) 7 nF lo = ca1 at e f0 f1 n0 n1 ⊢
  have eA : ∀ i, i ≠ 12 → i ≠ 13 → updA (updA A 12 nF (nI s1)) 13 nF 50 i = A i := fun i h1 h2 => by rw [updA_row h2, updA_row h1]
  have eB : ∀ i j, i ≠ 12 → j ≠ nF → updA (updA A 12 nF (nI s1)) 13 nF 50 i j = A i j := fun i j h1 h2 => by rw [updA_ne (Or.inr h2), updA_ne (Or.inl h1)]
  have hJ := h.2.2.2.2.2.2.2
  have hF := h.2.2.2.2.2.1
  have e9 := e 9 (by decide) (by decide)
  refine ⟨(h.1.mv (k.sub (by decide)) (if_neg (by decide)) (if_neg (by decide)) (if_neg (by decide)) (if_neg (by decide))).adr e9 (by rw [e 3 (by decide) (by decide)]), (h.2.1.mv (k.sub (by decide)) (eA 25 (by decide) (by decide))).adr e9,
    (h.2.2.1.mv (k.sub (by decide)) (eA 1 (by decide) (by decide)) (eA 2 (by decide) (by decide)) (eA 26 (by decide) (by decide))).adr e9 (e 0 (by decide) (by decide)) (e 1 (by decide) (by decide)) (e 2 (by decide) (by decide)), (h.2.2.2.1.kp (k.sub (by decide))).adr e9,
    (h.2.2.2.2.1.mv (k.sub (by decide)) (eA 7 (by decide) (by decide)) (eA 9 (by decide) (by decide))).adr e9 (e 3 (by decide) (by decide)) (e 4 (by decide) (by decide)) (e 5 (by decide) (by decide)), ⟨?_, fun i hi => ?_⟩,
    (h.2.2.2.2.2.2.1.mv (k.sub (by decide)) (eA 23 (by decide) (by decide)) (eA 19 (by decide) (by decide))).adr e9 (fun i hi => by rw [e 3 (by decide) (by decide)]) (fun i hi => f0 _ (by have := hcf i hi; omega)) (e 8 (by decide) (by decide)), ?_⟩
  · rw [e9]
    refine hL.cg (fun i hi => ?_)
    by_cases z : i = nF
    · rw [if_pos z, z, n0]
    · rw [if_neg z, f0 i z]
  · by_cases z : i = nF
    · subst z
      rw [n0, n1, e 0 (by decide) (by decide), show updN ho i s1 i = s1 from if_pos rfl]
      refine ⟨q1, q2, q3, q4, a1, a2, fun j hj => ?_, q5.trans updA_eq.symm, ?_, ?_, ?_⟩
      · rw [a3 j hj, eA 18 (by decide) (by decide), hz.2.2.2 j hj]; rfl
      · rw [q6, eA 14 (by decide) (by decide), hz.1]
      · rw [q7, eA 15 (by decide) (by decide), hz.2.1]
      · rw [q8, eA 16 (by decide) (by decide), hz.2.2.1]
    · have hi : i < nF := by omega
      rw [f0 i z, f1 i z, e 0 (by decide) (by decide), show updN ho nF s1 i = ho i from if_neg z]
      obtain ⟨g1, g2, g3, g4, g5, g6, g7, g8, g9, g10, g11⟩ := hF.2 i hi
      have s := k (ca 6 i) (by rw [g1]; decide)
      have t := k (ca 7 i) (by rw [g5]; decide)
      refine ⟨s.1.trans g1, (s.2.2.1 _ _).trans g2, (s.2.2.2.1 _ _).trans g3, (s.2.2.2.1 _ _).trans g4, t.1.trans g5, t.2.1.trans g6, fun j hj => ?_, (s.2.2.1 _ _).trans (g8.trans (eB 13 i (by decide) z).symm), (s.2.2.1 _ _).trans (g9.trans (eB 14 i (by decide) z).symm), (s.2.2.1 _ _).trans (g10.trans (eB 15 i (by decide) z).symm), (s.2.2.1 _ _).trans (g11.trans (eB 16 i (by decide) z).symm)⟩
      rw [t.2.2.2.2.1, eA 18 (by decide) (by decide)]
      exact g7 j hj
  · have x0 : ∀ i, i < nF → ca 6 i ≠ q := fun i hi => ne_kd (hF.2 i hi).1 hq (by decide)
    have x1 : ∀ i, i < nF → ca 7 i ≠ lo := fun i hi => ne_kd (hF.2 i hi).2.2.2.2.1 hlo (by decide)
    unfold KJ at hJ ⊢
    rw [e 0 (by decide) (by decide), e 1 (by decide) (by decide), e 2 (by decide) (by decide), e 3 (by decide) (by decide), e 4 (by decide) (by decide), e 8 (by decide) (by decide)]
    refine ⟨hJ.1, hJ.2.1, fun i j hi hj z => ?_, hJ.2.2.2⟩
    by_cases z1 : i = nF
    · by_cases z2 : j = nF
      · rw [z1, z2]
      · rw [z1, n0, n1, f0 j z2, f1 j z2] at z
        rcases z with z | z
        · exact absurd z.symm (x0 j (by omega))
        · exact absurd z.symm (x1 j (by omega))
    · by_cases z2 : j = nF
      · rw [z2, n0, n1, f0 i z1, f1 i z1] at z
        rcases z with z | z
        · exact absurd z (x0 i (by omega))
        · exact absurd z (x1 i (by omega))
      · rw [f0 i z1, f1 i z1, f0 j z2, f1 j z2] at z
        exact hJ.2.2.1 i j (by omega) (by omega) z
end
theorem nearS_cg {f g : Nat → Int32} : ∀ n, (∀ k, k < n → f k = g k) → nearS f n = nearS g n
  | 0, _ => rfl
  | 1, h => by rw [nearS_1 rfl, nearS_1 rfl]
  | n + 2, h => by
    have ih := nearS_cg (n + 1) (fun k hk => h k (by omega))
    obtain ⟨j, hj, hn⟩ := nearS_ex (dist := f) n
    have hn2 : nearS g (n + 1) = some j := by rw [← ih]; exact hn
    by_cases c : f (n + 1) < f j
    · rw [nearS_2 hn c, nearS_2 hn2 (by rw [← h (n + 1) (by omega), ← h j (by omega)]; exact c)]
    · rw [nearS_3 hn c, nearS_3 hn2 (by rw [← h (n + 1) (by omega), ← h j (by omega)]; exact c)]
theorem near_e {A : Nat → Nat → Int32} {nS : Nat} {xa ya : Int32} (hg : XYG A nS) (hp : (inR xa 0 9 && inR ya 0 9) = true) : nearS (disV (A 1) (A 2) xa ya) nS = nearS (offV (A 1) (A 2) xa ya) nS := by
  obtain ⟨a, rfl, -, ha⟩ := inR_ex (lo := 0) (n := 9) (by omega) (by omega) (band hp).1
  obtain ⟨b, rfl, -, hb⟩ := inR_ex (lo := 0) (n := 9) (by omega) (by omega) (band hp).2
  refine nearS_cg nS (fun k hk => ?_)
  obtain ⟨t, -, e1, e2⟩ := off_e (a := a) (b := b) hg hk (by omega) (by omega)
  rw [e1, e2]
theorem nearS_some {f : Nat → Int32} {n j : Nat} (h : nearS f n = some j) : j < n := by
  cases n with
  | zero => cases h
  | succ n =>
    obtain ⟨i, hi, h2⟩ := nearS_ex (dist := f) n
    rw [h] at h2
    cases h2
    exact hi
theorem nearS_none {f : Nat → Int32} {n : Nat} (h : nearS f n = none) : n = 0 := by
  cases n with
  | zero => rfl
  | succ n =>
    obtain ⟨i, hi, h2⟩ := nearS_ex (dist := f) n
    rw [h] at h2
    cases h2
theorem dX9_farm_0 : decode cX9_farm 0 = .ok (.iload_n 1, 1) := by decide +kernel
theorem dX9_farm_1 : decode cX9_farm 1 = .ok (.iload_n 2, 1) := by decide +kernel
theorem dX9_farm_2 : decode cX9_farm 2 = .ok (.invokestatic 75, 3) := by decide +kernel
theorem dX9_farm_5 : decode cX9_farm 5 = .ok (.aload_n 0, 1) := by decide +kernel
theorem dX9_farm_6 : decode cX9_farm 6 = .ok (.getfield 10, 3) := by decide +kernel
theorem dX9_farm_9 : decode cX9_farm 9 = .ok (.iload_n 1, 1) := by decide +kernel
theorem dX9_farm_10 : decode cX9_farm 10 = .ok (.iload_n 2, 1) := by decide +kernel
theorem dX9_farm_11 : decode cX9_farm 11 = .ok (.invokevirtual 150, 3) := by decide +kernel
theorem dX9_farm_14 : decode cX9_farm 14 = .ok (.astore_n 3, 1) := by decide +kernel
theorem dX9_farm_15 : decode cX9_farm 15 = .ok (.aload_n 0, 1) := by decide +kernel
theorem dX9_farm_16 : decode cX9_farm 16 = .ok (.getfield 30, 3) := by decide +kernel
theorem dX9_farm_19 : decode cX9_farm 19 = .ok (.invokevirtual 82, 3) := by decide +kernel
theorem dX9_farm_22 : decode cX9_farm 22 = .ok (.bipush 16, 2) := by decide +kernel
theorem dX9_farm_24 : decode cX9_farm 24 = .ok (.if_icmp .ge 7, 3) := by decide +kernel
theorem dX9_farm_27 : decode cX9_farm 27 = .ok (.aload_n 3, 1) := by decide +kernel
theorem dX9_farm_28 : decode cX9_farm 28 = .ok (.ifnonnull 13, 3) := by decide +kernel
theorem dX9_farm_31 : decode cX9_farm 31 = .ok (.new 89, 3) := by decide +kernel
theorem dX9_farm_34 : decode cX9_farm 34 = .ok (.dup, 1) := by decide +kernel
theorem dX9_farm_35 : decode cX9_farm 35 = .ok (.ldc 154, 2) := by decide +kernel
theorem dX9_farm_37 : decode cX9_farm 37 = .ok (.invokespecial 93, 3) := by decide +kernel
theorem dX9_farm_40 : decode cX9_farm 40 = .ok (.athrow, 1) := by decide +kernel
theorem dX9_farm_41 : decode cX9_farm 41 = .ok (.aload_n 0, 1) := by decide +kernel
theorem dX9_farm_42 : decode cX9_farm 42 = .ok (.getfield 30, 3) := by decide +kernel
theorem dX9_farm_45 : decode cX9_farm 45 = .ok (.new 156, 3) := by decide +kernel
theorem dX9_farm_48 : decode cX9_farm 48 = .ok (.dup, 1) := by decide +kernel
theorem dX9_farm_49 : decode cX9_farm 49 = .ok (.aload_n 0, 1) := by decide +kernel
theorem dX9_farm_50 : decode cX9_farm 50 = .ok (.getfield 30, 3) := by decide +kernel
theorem dX9_farm_53 : decode cX9_farm 53 = .ok (.invokevirtual 82, 3) := by decide +kernel
theorem dX9_farm_56 : decode cX9_farm 56 = .ok (.aload_n 3, 1) := by decide +kernel
theorem dX9_farm_57 : decode cX9_farm 57 = .ok (.invokespecial 158, 3) := by decide +kernel
theorem dX9_farm_60 : decode cX9_farm 60 = .ok (.invokevirtual 101, 3) := by decide +kernel
theorem dX9_farm_63 : decode cX9_farm 63 = .ok (.pop, 1) := by decide +kernel
theorem dX9_farm_64 : decode cX9_farm 64 = .ok (.aload_n 0, 1) := by decide +kernel
theorem dX9_farm_65 : decode cX9_farm 65 = .ok (.getfield 30, 3) := by decide +kernel
theorem dX9_farm_68 : decode cX9_farm 68 = .ok (.invokevirtual 82, 3) := by decide +kernel
theorem dX9_farm_71 : decode cX9_farm 71 = .ok (.iconst 1, 1) := by decide +kernel
theorem dX9_farm_72 : decode cX9_farm 72 = .ok (.isub, 1) := by decide +kernel
theorem dX9_farm_73 : decode cX9_farm 73 = .ok (.ireturn, 1) := by decide +kernel
set_option maxHeartbeats 1000000 in
set_option maxRecDepth 100000 in
theorem c_X9_farm (de : Nat) (w : Wd) (x : Nat) (A : Nat → Nat → Int32) (F : Nat → Int32) (nS nP nF nC tl : Nat) (ho cf cp cs sb pn : Nat → Nat) (dn : Nat → Nat → Nat) (ch : Nat → Nat → List (Nat × Int32)) (ca : Nat → Nat → Nat) (h : RC0 w de x A F nS nP nF nC tl ho cf cp cs sb pn dn ch ca) (hB : KB w nC A F ca) (T rt ly : Nat) (sN : Nat → Nat) (hv : PV A F nS nP nF nC tl ho cf cp cs sb pn dn ch T rt ly sN) (xa ya : Int32) (htl : tl < 100000) : Cw yX9_farm cX9_farm 4 (some .int) 7 171 8 1450 de [.ref x, .int xa, .int ya] w (fun r w' => goV (bI (inR xa 0 9 && inR ya 0 9)) (bI (decide (F 17 < 16) && decide (0 < F 3))) 1 = 0 ∧ r = some (.int (F 17)) ∧ ∃ (ca' : Nat → Nat → Nat) (s1 : Nat), (nearS (offV (A 1) (A 2) xa ya) nS) = some s1 ∧ RC0 w' de x (updA (updA A 12 nF (nI s1)) 13 nF 50) (updF F 17 (F 17 + 1)) nS nP (nF + 1) nC tl (updN ho nF s1) cf cp cs sb pn dn ch ca' ∧ KB w' nC (updA (updA A 12 nF (nI s1)) 13 nF 50) (updF F 17 (F 17 + 1)) ca' ∧ FrR w w') (fun E w' => w = w' ∧ ((E = "java/lang/IllegalArgumentException" ∧ goV (bI (inR xa 0 9 && inR ya 0 9)) (bI (decide (F 17 < 16) && decide (0 < F 3))) 1 = 1) ∨ (E = "java/lang/IllegalStateException" ∧ goV (bI (inR xa 0 9 && inR ya 0 9)) (bI (decide (F 17 < 16) && decide (0 < F 3))) 1 = 2))) := by
  refine Cw.mk (by decide +kernel) [(0, .ref x), (1, .int xa), (2, .int ya)] rfl (Nat.le_of_ble_eq_true rfl) ?_
  intro p l e R s m args below meth c D cy z C ht
  obtain ⟨h60, h16, h5, hcv, hho⟩ := id hv.hcv
  have hfr : FrR w w := FrR.rf
  have hbk : Kp [2] w w := Kp.rf
  have hnS : nS < 100000 := by omega
  have hnP : nP < 100000 := by have := hv.hP6; omega
  have hnF : nF < 100000 := by omega
  have hnC : nC < 100000 := by omega
  refine g_iload_n C dX9_farm_0 rfl ?_
  refine g_iload_n C dX9_farm_1 rfl ?_
  refine gx_callS C mt_X9_testPlace [.int xa, .int ya] (c_X9_testPlace de w xa ya) k_186 rfl rfl (Nat.le_of_ble_eq_true rfl) (by decide) (by decide) (by decide) (by decide) dX9_farm_2 (fun E9 w9 hx9 => gx_out C ht (by decide) (by decide) ⟨hx9.2.1, Or.inl ⟨hx9.1, goV_1 hx9.2.2⟩⟩) (fun r_2 w_2 hp_2 => ?_)
  obtain ⟨rfl, rfl, f_2⟩ := hp_2
  refine g_aload_n C dX9_farm_5 rfl ?_
  refine g_getR (b := (ca 9 0)) C cls_10 11 0 h.1.1 h.1.2.1 rfl k_136 dX9_farm_6 ?_
  refine g_iload_n C dX9_farm_9 rfl ?_
  refine g_iload_n C dX9_farm_10 rfl ?_
  refine g_callV C cls_9 10 mt_X8_nearestTo [.int xa, .int ya] (c_X8_nearestTo de w (ca 9 0) (ca 9 3) nS (ca 0) (ca 1) (A 1) (A 2) ch h.2.2.1.1 xa ya) h.2.2.1.1.1 (by decide) k_513 rfl rfl (Nat.le_of_ble_eq_true rfl) (by decide) (by decide) (by decide) (by decide) dX9_farm_11 (fun r_11 w_11 hp_11 => ?_)
  obtain ⟨rfl, rfl⟩ := hp_11
  rw [near_e hv.hxy f_2]
  generalize hnr : (nearS (offV (A 1) (A 2) xa ya) nS) = nr
  rcases nr with _ | s1
  · have hs0 := nearS_none hnr
    refine g_astore_nN C dX9_farm_14 (by decide) ?_
    refine g_aload_n C dX9_farm_15 rfl ?_
    refine g_getR (b := (ca 9 5)) C cls_10 11 3 h.1.1 h.1.2.2.2.2.1 rfl k_139 dX9_farm_16 ?_
    refine g_callV C cls_0 41 mt_Jx4a65c_size_8abf5 [] (c_sz de w 41 1033 KL_fa (ca 9 5) nF (ca 6) h.2.2.2.2.2.1.1) h.2.2.2.2.2.1.1.1 (by decide) k_260 rfl rfl (Nat.le_of_ble_eq_true rfl) (by decide) (by decide) (by decide) (by decide) dX9_farm_19 (fun r_19 w_19 hp_19 => ?_)
    obtain ⟨rfl, rfl⟩ := hp_19
    refine g_bipush C 16 dX9_farm_22 (by rfl) ?_
    refine g_icmp_ge C 31 dX9_farm_24 (by decide) (fun c_24 => ?_) (fun c_24 => ?_)
    · have b_24 := And.intro (decide_eq_false (Int32.not_lt.mpr c_24)) (decide_eq_true c_24)
      exact gx_throw C ht th_X9_93 k_264 k_15 (is := 154) (text := "there are 16 farms, or there is no station") (by decide) dX9_farm_31 dX9_farm_34 dX9_farm_35 dX9_farm_37 dX9_farm_40 (by decide) (Nat.le_of_ble_eq_true rfl) (by decide) (by decide) (by first | exact ⟨rfl, Or.inr (⟨rfl, goV_2 f_2 (and_f1 (by rw [hv.hN]; exact b_24.1))⟩)⟩ | exact ⟨rfl, Or.inr (⟨rfl, goV_2 f_2 (and_f2 (by rw [hv.hS, hs0]; rfl))⟩)⟩)
    · have b_24 := And.intro (decide_eq_true (Int32.not_le.mp c_24)) (decide_eq_false c_24)
      refine g_aload_nN C dX9_farm_27 rfl ?_
      refine g_ifnonnullN C dX9_farm_28 ?_
      exact gx_throw C ht th_X9_93 k_264 k_15 (is := 154) (text := "there are 16 farms, or there is no station") (by decide) dX9_farm_31 dX9_farm_34 dX9_farm_35 dX9_farm_37 dX9_farm_40 (by decide) (Nat.le_of_ble_eq_true rfl) (by decide) (by decide) (by first | exact ⟨rfl, Or.inr (⟨rfl, goV_2 f_2 (and_f1 (by rw [hv.hN]; exact b_24.1))⟩)⟩ | exact ⟨rfl, Or.inr (⟨rfl, goV_2 f_2 (and_f2 (by rw [hv.hS, hs0]; rfl))⟩)⟩)
  · have hs1 := nearS_some hnr
    refine g_astore_n C dX9_farm_14 (by decide) ?_
    refine g_aload_n C dX9_farm_15 rfl ?_
    refine g_getR (b := (ca 9 5)) C cls_10 11 3 h.1.1 h.1.2.2.2.2.1 rfl k_139 dX9_farm_16 ?_
    refine g_callV C cls_0 41 mt_Jx4a65c_size_8abf5 [] (c_sz de w 41 1033 KL_fa (ca 9 5) nF (ca 6) h.2.2.2.2.2.1.1) h.2.2.2.2.2.1.1.1 (by decide) k_260 rfl rfl (Nat.le_of_ble_eq_true rfl) (by decide) (by decide) (by decide) (by decide) dX9_farm_19 (fun r_19 w_19 hp_19 => ?_)
    obtain ⟨rfl, rfl⟩ := hp_19
    refine g_bipush C 16 dX9_farm_22 (by rfl) ?_
    refine g_icmp_ge C 31 dX9_farm_24 (by decide) (fun c_24 => ?_) (fun c_24 => ?_)
    · have b_24 := And.intro (decide_eq_false (Int32.not_lt.mpr c_24)) (decide_eq_true c_24)
      exact gx_throw C ht th_X9_93 k_264 k_15 (is := 154) (text := "there are 16 farms, or there is no station") (by decide) dX9_farm_31 dX9_farm_34 dX9_farm_35 dX9_farm_37 dX9_farm_40 (by decide) (Nat.le_of_ble_eq_true rfl) (by decide) (by decide) (by first | exact ⟨rfl, Or.inr (⟨rfl, goV_2 f_2 (and_f1 (by rw [hv.hN]; exact b_24.1))⟩)⟩ | exact ⟨rfl, Or.inr (⟨rfl, goV_2 f_2 (and_f2 (by rw [hv.hS, hs0]; rfl))⟩)⟩)
    · have b_24 := And.intro (decide_eq_true (Int32.not_le.mp c_24)) (decide_eq_false c_24)
      refine g_aload_n C dX9_farm_27 rfl ?_
      refine g_ifnonnull C 41 dX9_farm_28 (by decide) ?_
      refine g_aload_n C dX9_farm_41 rfl ?_
      refine g_getR (b := (ca 9 5)) C cls_10 11 3 h.1.1 h.1.2.2.2.2.1 rfl k_139 dX9_farm_42 ?_
      refine g_new C cls_3 dv_3 4 rfl k_525 k_526 k_25 (by decide) (by decide) dX9_farm_45 (fun q hq => ?_)
      intro hde
      have h0 := h
      have hkq : kd (nw w q 4 0) q = 4 := nw_kd0
      have h := h0.kp ((Old.n1 hq : Old w (nw w q 4 0)).kp (by decide))
      refine g_dup C dX9_farm_48 rfl ?_
      refine g_aload_n C dX9_farm_49 rfl ?_
      refine g_getR (b := (ca 9 5)) C cls_10 11 3 h.1.1 h.1.2.2.2.2.1 rfl k_139 dX9_farm_50 ?_
      refine g_callV C cls_0 41 mt_Jx4a65c_size_8abf5 [] (c_sz de _ 41 1033 KL_fa (ca 9 5) nF (ca 6) h.2.2.2.2.2.1.1) h.2.2.2.2.2.1.1.1 (by decide) k_260 rfl rfl (Nat.le_of_ble_eq_true rfl) (by decide) (by decide) (by decide) (by decide) dX9_farm_53 (fun r_53 w_53 hp_53 => ?_)
      obtain ⟨rfl, rfl⟩ := hp_53
      refine g_aload_n C dX9_farm_56 rfl ?_
      refine g_callI C mt_X2_init [.int (nI nF), .ref (ca 0 s1)] (c_X2_init de _ q (ca 0 s1) (nI nF) hkq) k_527 rfl rfl (Nat.le_of_ble_eq_true rfl) (by decide) (by decide) (by decide) (by decide) dX9_farm_57 (fun r_57 w_57 hp_57 => ?_)
      obtain ⟨rfl, lo, hlo, f1, q1, q2, q3, q4, q5, q6, q7, q8, a1, a2, a3⟩ := hp_57
      have hloq : lo ≠ q := fun z => by rw [z, hkq] at hlo; exact absurd hlo (by decide)
      replace hlo : kd w lo = 0 := (nw_kd hloq).symm.trans hlo
      have o2 : Old w w_57 := Old.mk2 hq f1
      have h := h0.kp (o2.kp (by decide))
      refine g_de C (fun hde2 => ?_)
      refine g_callV C cls_0 41 mt_Jx4a65c_add_9ea2d [.ref q] (c_Jx4a65c_add_9ea2d de w_57 41 1033 KL_fa cls_3 ca_Farm 4 (by decide) (ca 9 5) nF q (ca 6) h.2.2.2.2.2.1.1 (by omega) q1 (fun i hi => (h.2.2.2.2.2.1.2 i hi).1)) h.2.2.2.2.2.1.1.1 (by decide) k_309 rfl rfl (Nat.le_of_ble_eq_true rfl) (by decide) (by decide) (by decide) (by decide) dX9_farm_60 (fun r_60 w_60 hp_60 => ?_)
      obtain ⟨rfl, hadd⟩ := hp_60
      have hA := AddP.old o2 hadd h.2.2.2.2.2.1.1 hde2
      have sq := hadd.sm h.2.2.2.2.2.1.1 hde2 q (by rw [q1]; decide) (by rw [q1]; decide) (by rw [q1]; decide)
      have slo := hadd.sm h.2.2.2.2.2.1.1 hde2 lo (by rw [a1]; decide) (by rw [a1]; decide) (by rw [a1]; decide)
      have hn16 : nF < 16 := nI_lt_of (b := 16) (of_decide_eq_true b_24.1) (by omega) (by omega)
      have h := farR h0 hq hlo (Kp.add hA (by decide)) hadd.1 (v := F 17 + 1) (s1 := s1) (sq.1.trans q1) ((sq.2.2.1 _ _).trans q2) ((sq.2.2.2.1 _ _).trans q3) ((sq.2.2.2.1 _ _).trans q4) ((sq.2.2.1 _ _).trans q5) ((sq.2.2.1 _ _).trans q6) ((sq.2.2.1 _ _).trans q7) ((sq.2.2.1 _ _).trans q8) (slo.1.trans a1) (slo.2.1.trans a2) (fun j hj => by rw [slo.2.2.2.2.1]; exact a3 j hj) (hv.hzf nF (Nat.le_refl _) hn16) (fun i hi => (hcv i hi).2.1)
      have hxx := hA x (by rw [h0.1.1]; decide) (by rw [h0.1.1]; decide) (by rw [h0.1.1]; decide)
      refine g_pop C dX9_farm_63 rfl ?_
      refine g_aload_n C dX9_farm_64 rfl ?_
      refine g_getR (b := (ca 9 5)) C cls_10 11 3 h.1.1 ((hxx.2.2.2.1 _ _).trans h0.1.2.2.2.2.1) rfl k_139 dX9_farm_65 ?_
      refine g_callV C cls_0 41 mt_Jx4a65c_size_8abf5 [] (c_sz de w_60 41 1033 KL_fa (ca 9 5) (nF + 1) _ hadd.1) hadd.1.1 (by decide) k_260 rfl rfl (Nat.le_of_ble_eq_true rfl) (by decide) (by decide) (by decide) (by decide) dX9_farm_68 (fun r_68 w_68 hp_68 => ?_)
      obtain ⟨rfl, rfl⟩ := hp_68
      refine g_iconst C 1 dX9_farm_71 (by rfl) ?_
      refine g_isub C dX9_farm_72 ?_
      refine gx_ret <| g_iret C rfl rfl (by decide) (by decide) dX9_farm_73 ?_
      exact ⟨goV_000 f_2 (and_t (by rw [hv.hN]; exact b_24.1) (by rw [hv.hS]; exact decide_eq_true (nI_lt (a := 0) (by omega) (by omega)))), congrArg (fun v => some (Value.int v)) (by rw [← nI_1, a11, hv.hN]), _, s1, rfl, h, (hB.mv (Kp.add hA (by decide)) (by rw [updA_row (by decide), updA_row (by decide)]) (if_neg (by decide))).adr (by rw [caU_row (by decide), caU_row (by decide)]), FrR.add hA (by decide)⟩
end NEW45
