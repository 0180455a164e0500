section STEP52
set_option maxHeartbeats 1000000 in
set_option maxRecDepth 100000 in
theorem pv_pass {A : Nat → Nat → Int32} {F : Nat → Int32} {nS nP nF nC tl : Nat} {ho cf cp cs sb pn : Nat → Nat} {dn : Nat → Nat → Nat} {ch : Nat → Nat → List (Nat × Int32)} {T rt ly : Nat} {sN : Nat → Nat} (hv : PV A F nS nP nF nC tl ho cf cp cs sb pn dn ch T rt ly sN) {dy : Int32} {d : Nat} (h : F 0 + dy = nI (T + d)) (hd : T + d < 1200) : PV (A) (updF F 0 (F 0 + dy)) nS nP nF nC tl ho cf cp cs sb pn dn ch (T + d) rt ly sN := by
  exact ⟨(if_pos rfl).trans h,
    hd,
    (if_neg (by decide)).trans hv.hS,
    (if_neg (by decide)).trans hv.hra,
    (if_neg (by decide)).trans hv.hP,
    hv.hP6,
    (if_neg (by decide)).trans hv.hD,
    (if_neg (by decide)).trans hv.hN,
    (if_neg (by decide)).trans hv.hC,
    (if_neg (by decide)).trans hv.hrt,
    (if_neg (by decide)).trans hv.hly,
    hv.hr9,
    hv.hl9,
    hv.hcv,
    hv.hco,
    hv.huq,
    hv.hls,
    hv.htr,
    hv.hse,
    hv.hdu,
    hv.hxy,
    hv.hca,
    hv.hcb,
    hv.hph,
    hv.hdr,
    hv.hzf,
    hv.hzc,
    hv.hzk,
    hv.hzs,
    (fun j hj h => Nat.le_trans (hv.hso j hj h) (by omega)),
    hv.hz8⟩
set_option maxHeartbeats 1000000 in
set_option maxRecDepth 100000 in
theorem pv_loading {A : Nat → Nat → Int32} {F : Nat → Int32} {nS nP nF nC tl : Nat} {ho cf cp cs sb pn : Nat → Nat} {dn : Nat → Nat → Nat} {ch : Nat → Nat → List (Nat × Int32)} {T rt ly : Nat} {sN : Nat → Nat} (hv : PV A F nS nP nF nC tl ho cf cp cs sb pn dn ch T rt ly sN) {hu : Int32} : PV (A) (updF F 20 hu) nS nP nF nC tl ho cf cp cs sb pn dn ch T rt ly sN := by
  exact ⟨(if_neg (by decide)).trans hv.hT,
    hv.hT2,
    (if_neg (by decide)).trans hv.hS,
    (if_neg (by decide)).trans hv.hra,
    (if_neg (by decide)).trans hv.hP,
    hv.hP6,
    (if_neg (by decide)).trans hv.hD,
    (if_neg (by decide)).trans hv.hN,
    (if_neg (by decide)).trans hv.hC,
    (if_neg (by decide)).trans hv.hrt,
    (if_neg (by decide)).trans hv.hly,
    hv.hr9,
    hv.hl9,
    hv.hcv,
    hv.hco,
    hv.huq,
    hv.hls,
    hv.htr,
    hv.hse,
    hv.hdu,
    hv.hxy,
    hv.hca,
    hv.hcb,
    hv.hph,
    hv.hdr,
    hv.hzf,
    hv.hzc,
    hv.hzk,
    hv.hzs,
    hv.hso,
    hv.hz8⟩
set_option maxHeartbeats 1000000 in
set_option maxRecDepth 100000 in
theorem pv_layer {A : Nat → Nat → Int32} {F : Nat → Int32} {nS nP nF nC tl : Nat} {ho cf cp cs sb pn : Nat → Nat} {dn : Nat → Nat → Nat} {ch : Nat → Nat → List (Nat × Int32)} {T rt ly : Nat} {sN : Nat → Nat} (hv : PV A F nS nP nF nC tl ho cf cp cs sb pn dn ch T rt ly sN) {xa ya : Int32} {r2 l2 : Nat} (h1 : xa = nI r2) (h2 : ya = nI l2) (h3 : r2 ≤ 99999) (h4 : l2 ≤ 99999) : PV (A) (updF (updF F 21 xa) 22 ya) nS nP nF nC tl ho cf cp cs sb pn dn ch T r2 l2 sN := by
  exact ⟨((if_neg (by decide)).trans (if_neg (by decide))).trans hv.hT,
    hv.hT2,
    ((if_neg (by decide)).trans (if_neg (by decide))).trans hv.hS,
    ((if_neg (by decide)).trans (if_neg (by decide))).trans hv.hra,
    ((if_neg (by decide)).trans (if_neg (by decide))).trans hv.hP,
    hv.hP6,
    ((if_neg (by decide)).trans (if_neg (by decide))).trans hv.hD,
    ((if_neg (by decide)).trans (if_neg (by decide))).trans hv.hN,
    ((if_neg (by decide)).trans (if_neg (by decide))).trans hv.hC,
    ((if_neg (by decide)).trans (if_pos rfl)).trans h1,
    (if_pos rfl).trans h2,
    h3,
    h4,
    hv.hcv,
    hv.hco,
    hv.huq,
    hv.hls,
    hv.htr,
    hv.hse,
    hv.hdu,
    hv.hxy,
    hv.hca,
    hv.hcb,
    hv.hph,
    hv.hdr,
    hv.hzf,
    hv.hzc,
    hv.hzk,
    hv.hzs,
    hv.hso,
    hv.hz8⟩
set_option maxHeartbeats 1000000 in
set_option maxRecDepth 100000 in
theorem pv_lend {A : Nat → Nat → Int32} {F : Nat → Int32} {nS nP nF nC tl : Nat} {ho cf cp cs sb pn : Nat → Nat} {dn : Nat → Nat → Nat} {ch : Nat → Nat → List (Nat × Int32)} {T rt ly : Nat} {sN : Nat → Nat} (hv : PV A F nS nP nF nC tl ho cf cp cs sb pn dn ch T rt ly sN) {fi : Nat} {v : Int32} (hf : fi < nF) : PV (updA A 14 fi v) (F) nS nP nF nC tl ho cf cp cs sb pn dn ch T rt ly sN := by
  have eA : ∀ q, q ∉ ([14] : List Nat) → (updA A 14 fi v) q = A q := fun q hq => by
    simp only [List.mem_cons, List.not_mem_nil, or_false, not_or] at hq
    first | rw [updA_row hq] | (obtain ⟨h1, h2⟩ := hq; rw [updA_row (by assumption), updA_row (by assumption)]) | (rw [updA_row hq, updA_row hq])
  exact ⟨hv.hT,
    hv.hT2,
    hv.hS,
    hv.hra,
    hv.hP,
    hv.hP6,
    hv.hD,
    hv.hN,
    hv.hC,
    hv.hrt,
    hv.hly,
    hv.hr9,
    hv.hl9,
    hv.hcv.cg (eA 23 (by decide)) (eA 12 (by decide)),
    (by rw [(eA 23 (by decide))]; exact hv.hco),
    hv.huq,
    hv.hls.cg (eA 18 (by decide)),
    hv.htr.cg (eA 13 (by decide)),
    (by rw [(eA 25 (by decide))]; exact hv.hse),
    (fun k hk => by rw [(eA 25 (by decide)), (eA 23 (by decide)), ratC_cg (eA 1 (by decide)) (eA 2 (by decide)) (eA 7 (by decide)) (eA 9 (by decide))]; exact hv.hdu k hk),
    hv.hxy.cg (eA 1 (by decide)) (eA 2 (by decide)),
    hv.hca.cg (eA 4 (by decide)) (eA 5 (by decide)),
    hv.hcb,
    (fun k hk => ⟨(hv.hph k hk).1.cg (eA 7 (by decide)), by rw [(eA 8 (by decide))]; exact (hv.hph k hk).2⟩),
    hv.hdr.cg (eA 7 (by decide)),
    (fun f hf2 hf3 => by rw [updA_ne (Or.inr (by omega)), eA 15 (by decide), eA 16 (by decide), eA 18 (by decide)]; exact hv.hzf f hf2 hf3),
    (by rw [(eA 19 (by decide))]; exact hv.hzc),
    (by rw [(eA 23 (by decide))]; exact hv.hzk),
    (by rw [(eA 26 (by decide))]; exact hv.hzs),
    (by rw [(eA 25 (by decide))]; exact hv.hso),
    (by rw [(eA 8 (by decide))]; exact hv.hz8)⟩
set_option maxHeartbeats 1000000 in
set_option maxRecDepth 100000 in
theorem pv_loss {A : Nat → Nat → Int32} {F : Nat → Int32} {nS nP nF nC tl : Nat} {ho cf cp cs sb pn : Nat → Nat} {dn : Nat → Nat → Nat} {ch : Nat → Nat → List (Nat × Int32)} {T rt ly : Nat} {sN : Nat → Nat} (hv : PV A F nS nP nF nC tl ho cf cp cs sb pn dn ch T rt ly sN) {fi se t : Nat} {hu : Int32} (hf : fi < nF) (hse : se < 20) (h : hu = nI t) (ht : t ≤ 100) : PV (updA A 18 (20 * fi + se) (hu + 1)) (F) nS nP nF nC tl ho cf cp cs sb pn dn ch T rt ly sN := by
  have eA : ∀ q, q ∉ ([18] : List Nat) → (updA A 18 (20 * fi + se) (hu + 1)) q = A q := fun q hq => by
    simp only [List.mem_cons, List.not_mem_nil, or_false, not_or] at hq
    first | rw [updA_row hq] | (obtain ⟨h1, h2⟩ := hq; rw [updA_row (by assumption), updA_row (by assumption)]) | (rw [updA_row hq, updA_row hq])
  exact ⟨hv.hT,
    hv.hT2,
    hv.hS,
    hv.hra,
    hv.hP,
    hv.hP6,
    hv.hD,
    hv.hN,
    hv.hC,
    hv.hrt,
    hv.hly,
    hv.hr9,
    hv.hl9,
    hv.hcv.cg (eA 23 (by decide)) (eA 12 (by decide)),
    (by rw [(eA 23 (by decide))]; exact hv.hco),
    hv.huq,
    (fun f hf2 q hq => by
      by_cases e : 20 * f + q = 20 * fi + se
      · exact ⟨t + 1, by omega, by rw [e, updA_eq, h, nI_1]⟩
      · rw [updA_ne (Or.inr e)]; exact hv.hls f hf2 q hq),
    hv.htr.cg (eA 13 (by decide)),
    (by rw [(eA 25 (by decide))]; exact hv.hse),
    (fun k hk => by rw [(eA 25 (by decide)), (eA 23 (by decide)), ratC_cg (eA 1 (by decide)) (eA 2 (by decide)) (eA 7 (by decide)) (eA 9 (by decide))]; exact hv.hdu k hk),
    hv.hxy.cg (eA 1 (by decide)) (eA 2 (by decide)),
    hv.hca.cg (eA 4 (by decide)) (eA 5 (by decide)),
    hv.hcb,
    (fun k hk => ⟨(hv.hph k hk).1.cg (eA 7 (by decide)), by rw [(eA 8 (by decide))]; exact (hv.hph k hk).2⟩),
    hv.hdr.cg (eA 7 (by decide)),
    (fun f hf2 hf3 => by
      rw [eA 14 (by decide), eA 15 (by decide), eA 16 (by decide)]
      obtain ⟨h1, h2, h3, h4⟩ := hv.hzf f hf2 hf3
      exact ⟨h1, h2, h3, fun q hq => by rw [updA_ne (Or.inr (by omega))]; exact h4 q hq⟩),
    (by rw [(eA 19 (by decide))]; exact hv.hzc),
    (by rw [(eA 23 (by decide))]; exact hv.hzk),
    (by rw [(eA 26 (by decide))]; exact hv.hzs),
    (by rw [(eA 25 (by decide))]; exact hv.hso),
    (by rw [(eA 8 (by decide))]; exact hv.hz8)⟩
theorem ChS.up : ∀ {l : List (Nat × Int32)} {n m : Nat}, ChS l n → n ≤ m → ChS l m
  | [], _, _, _, _ => trivial
  | q :: l, n, m, h, hm => ⟨Nat.lt_of_lt_of_le h.1 hm, h.2⟩
theorem datV_new {q : Nat × Int32} {l : List (Nat × Int32)} {kn : Int32} {n : Nat} (h : n ≤ q.1) : datV (q :: l) kn n = datV l kn n := by rw [datV, if_pos h]
theorem ch_dat {ch : Nat → Nat → List (Nat × Int32)} {s0 d tl n : Nat} {tt kn : Int32} (h : n ≤ tl) (s q : Nat) : datV (chU ch s0 d tl tt s q) kn n = datV (ch s q) kn n := by
  unfold chU
  by_cases e : s = s0 ∧ q = d
  · rw [if_pos e, datV_new h, e.1, e.2]
  · rw [if_neg e]
theorem ratC_new {A : Nat → Nat → Int32} {nS : Nat} {ch : Nat → Nat → List (Nat × Int32)} {pr n t s1 se s0 d tl : Nat} {dN : Nat → Nat} {tt : Int32} (hs : s1 < nS) (h : t ≤ tl) : ratC A nS (chU ch s0 d tl tt) pr n dN t s1 se = ratC A nS ch pr n dN t s1 se := by
  unfold ratC
  rw [rowV_congr (ch := chU ch s0 d tl tt) (ch' := ch) (n' := t) hs (fun _ _ => rfl) (fun _ _ => rfl) (fun k _ q => ch_dat h k q)]
theorem ChR.new {l : List (Nat × Int32)} {f s : Int32} {tl t : Nat} (h : ChR l f s) (ht : t ≤ 2000) : ChR ((tl, nI t) :: l) (if f = 0 then nI t + 1 else f) (nI t + 1) := by
  cases l with
  | nil =>
    obtain ⟨rfl, rfl⟩ := h
    refine ⟨if_pos rfl, rfl, fun q hq => ?_⟩
    rcases List.mem_cons.mp hq with rfl | hq
    · exact ⟨t, ht, rfl⟩
    · cases hq
  | cons q l =>
    obtain ⟨h1, h2, h3⟩ := h
    obtain ⟨r, hr, hl⟩ := lstV_mem (q := q) (l := l)
    obtain ⟨v, hv, hv2⟩ := h3 r hr
    have hf : ¬ f = 0 := fun z => by
      rw [h1, hl, hv2, nI_1] at z
      have := (nI_eq (a := v + 1) (b := 0) (by omega) (by omega)).mp z
      omega
    refine ⟨?_, rfl, fun r hr => ?_⟩
    · rw [if_neg hf, h1]
      rfl
    · rcases List.mem_cons.mp hr with rfl | hr
      · exact ⟨t, ht, rfl⟩
      · exact h3 r hr
set_option maxHeartbeats 1000000 in
set_option maxRecDepth 100000 in
theorem pv_rain {A : Nat → Nat → Int32} {F : Nat → Int32} {nS nP nF nC tl : Nat} {ho cf cp cs sb pn : Nat → Nat} {dn : Nat → Nat → Nat} {ch : Nat → Nat → List (Nat × Int32)} {T rt ly : Nat} {sN : Nat → Nat} (hv : PV A F nS nP nF nC tl ho cf cp cs sb pn dn ch T rt ly sN) {s0 d t : Nat} {tt : Int32} (hs : s0 < nS) (hd : d < 1200) (h : tt = nI t) (ht : t ≤ 2000) : PV (updA (updA A 4 (1200 * s0 + d) (if A 4 (1200 * s0 + d) = 0 then tt + 1 else A 4 (1200 * s0 + d))) 5 (1200 * s0 + d) (tt + 1)) (updF F 6 1) nS nP nF nC (tl + 1) ho cf cp cs sb pn dn (chU ch s0 d tl tt) T rt ly sN := by
  have eA : ∀ q, q ∉ ([4, 5] : List Nat) → (updA (updA A 4 (1200 * s0 + d) (if A 4 (1200 * s0 + d) = 0 then tt + 1 else A 4 (1200 * s0 + d))) 5 (1200 * s0 + d) (tt + 1)) q = A q := fun q hq => by
    simp only [List.mem_cons, List.not_mem_nil, or_false, not_or] at hq
    first | rw [updA_row hq] | (obtain ⟨h1, h2⟩ := hq; rw [updA_row (by assumption), updA_row (by assumption)]) | (rw [updA_row hq, updA_row hq])
  exact ⟨(if_neg (by decide)).trans hv.hT,
    hv.hT2,
    (if_neg (by decide)).trans hv.hS,
    (if_pos rfl).trans (if_neg (by omega)).symm,
    (if_neg (by decide)).trans hv.hP,
    hv.hP6,
    (if_neg (by decide)).trans hv.hD,
    (if_neg (by decide)).trans hv.hN,
    (if_neg (by decide)).trans hv.hC,
    (if_neg (by decide)).trans hv.hrt,
    (if_neg (by decide)).trans hv.hly,
    hv.hr9,
    hv.hl9,
    hv.hcv.cg (eA 23 (by decide)) (eA 12 (by decide)),
    (by rw [(eA 23 (by decide))]; exact hv.hco),
    hv.huq,
    hv.hls.cg (eA 18 (by decide)),
    hv.htr.cg (eA 13 (by decide)),
    (by rw [(eA 25 (by decide))]; exact hv.hse),
    (fun k hk => by
      rw [eA 25 (by decide), eA 23 (by decide), ratC_cg (eA 1 (by decide)) (eA 2 (by decide)) (eA 7 (by decide)) (eA 9 (by decide))]
      obtain ⟨h1, h2⟩ := hv.hdu k hk
      rw [ratC_new (hv.hcv.2.2.2.2 _ (hv.hcv.2.2.2.1 k hk).2.1).2 h1]
      exact ⟨by omega, h2⟩),
    hv.hxy.cg (eA 1 (by decide)) (eA 2 (by decide)),
    (fun s hs5 q hq => by
      obtain ⟨h1, h2, h3⟩ := hv.hca s hs5 q hq
      by_cases e : s = s0 ∧ q = d
      · obtain ⟨rfl, rfl⟩ := e
        rw [show chU ch s q tl tt s q = (tl, tt) :: ch s q from if_pos ⟨rfl, rfl⟩, updA_ne (Or.inl (by decide)), updA_eq, updA_eq]
        exact ⟨by rw [h]; exact h1.new ht, ⟨Nat.lt_succ_self _, h2⟩, fun z => absurd z (by omega)⟩
      · rw [show chU ch s0 d tl tt s q = ch s q from if_neg e, updA_ne (Or.inl (by decide)), updA_ne (Or.inr (by omega)), updA_ne (Or.inr (by omega)), updA_ne (Or.inl (by decide))]
        exact ⟨h1, h2.up (by omega), h3⟩),
    (fun s q r hr => by
      unfold chU at hr
      by_cases e : s = s0 ∧ q = d
      · rw [if_pos e] at hr
        rcases List.mem_cons.mp hr with rfl | hr
        · exact ⟨t, ht, h⟩
        · exact hv.hcb _ _ r hr
      · rw [if_neg e] at hr
        exact hv.hcb _ _ r hr),
    (fun k hk => ⟨(hv.hph k hk).1.cg (eA 7 (by decide)), by rw [(eA 8 (by decide))]; exact (hv.hph k hk).2⟩),
    hv.hdr.cg (eA 7 (by decide)),
    (by rw [(eA 14 (by decide)), (eA 15 (by decide)), (eA 16 (by decide)), (eA 18 (by decide))]; exact hv.hzf),
    (by rw [(eA 19 (by decide))]; exact hv.hzc),
    (by rw [(eA 23 (by decide))]; exact hv.hzk),
    (by rw [(eA 26 (by decide))]; exact hv.hzs),
    (by rw [(eA 25 (by decide))]; exact hv.hso),
    (by rw [(eA 8 (by decide))]; exact hv.hz8)⟩
section
variable {A A0 : Nat → Nat → Int32} {cf cs ho : Nat → Nat} {st se n k f : Nat} {mean : Int32}
theorem lkF_8 : ∀ i, (i ≤ k ∨ cs k ≠ se) → (lkF cf cs ho st se mean A0 i).1 23 (10 * k + 8) = A0 23 (10 * k + 8)
  | 0, _ => rfl
  | i + 1, h => by
    have ih := lkF_8 i (by omega)
    rw [lkF]
    split
    · rename_i hq
      have hc := (qO_spec.mp hq.1).1
      dsimp only
      have e : k ≠ i := fun z => by rw [z] at h; omega
      rw [updA_ne (Or.inl (by decide)), updA_ne (Or.inr (by omega))]
      exact ih
    · exact ih
theorem lkF_15 : ∀ i, (∀ k, k < i → cf k ≠ f) → (lkF cf cs ho st se mean A0 i).1 15 f = A0 15 f
  | 0, _ => rfl
  | i + 1, h => by
    have ih := lkF_15 i (fun k hk => h k (by omega))
    rw [lkF]
    split
    · dsimp only
      rw [updA_ne (Or.inr (fun z => h i (by omega) z.symm)), updA_ne (Or.inl (by decide))]
      exact ih
    · exact ih
theorem lkR_ne {q j : Nat} (h : q ≠ 15 ∧ (q ≠ 23 ∨ j % 10 ≠ 8) ∧ (q ≠ 26 ∨ j ≠ 20 * st + se)) : (lkR A cf cs ho st se n).1 q j = A q j := by
  unfold lkR
  split
  · rfl
  · rw [lkF_ne ⟨h.1, h.2.1⟩, updA_ne (by omega)]
theorem lkR_8 (h : n ≤ k ∨ cs k ≠ se) : (lkR A cf cs ho st se n).1 23 (10 * k + 8) = A 23 (10 * k + 8) := by
  unfold lkR
  split
  · rfl
  · rw [lkF_8 n h, updA_ne (Or.inl (by decide))]
theorem lkR_15 (h : ∀ k, k < n → cf k ≠ f) : (lkR A cf cs ho st se n).1 15 f = A 15 f := by
  unfold lkR
  split
  · rfl
  · rw [lkF_15 n h, updA_ne (Or.inl (by decide))]
end
set_option maxHeartbeats 1000000 in
set_option maxRecDepth 100000 in
theorem pv_complain {A : Nat → Nat → Int32} {F : Nat → Int32} {nS nP nF nC tl : Nat} {ho cf cp cs sb pn : Nat → Nat} {dn : Nat → Nat → Nat} {ch : Nat → Nat → List (Nat × Int32)} {T rt ly : Nat} {sN : Nat → Nat} (hv : PV A F nS nP nF nC tl ho cf cp cs sb pn dn ch T rt ly sN) {fi se k9 : Nat} (hf : fi < nF) (hse : se < 20) (hs0 : ¬ A 25 se = 0) (hk9 : k9 < nC) (hkf : cf k9 = fi) (hks : cs k9 = se) : PV ((lkR (updA A 19 (20 * fi + se) 1) cf cs ho (ho fi) se nC).1) (F) nS nP nF nC tl ho cf cp cs sb pn dn ch T rt ly sN := by
  have eA : ∀ q, q ∉ ([15, 19, 23, 26] : List Nat) → ((lkR (updA A 19 (20 * fi + se) 1) cf cs ho (ho fi) se nC).1) q = A q := fun q hq => funext fun j => by
    simp only [List.mem_cons, List.not_mem_nil, or_false, not_or] at hq
    rw [lkR_ne (by omega), updA_ne (Or.inl hq.2.1)]
  have e23 : ∀ j, j % 10 ≠ 8 → (lkR (updA A 19 (20 * fi + se) 1) cf cs ho (ho fi) se nC).1 23 j = A 23 j := fun j hj => by rw [lkR_ne (by omega), updA_ne (Or.inl (by decide))]
  have e8 : ∀ k, (nC ≤ k ∨ cs k ≠ se) → (lkR (updA A 19 (20 * fi + se) 1) cf cs ho (ho fi) se nC).1 23 (10 * k + 8) = A 23 (10 * k + 8) := fun k hk => by rw [lkR_8 hk, updA_ne (Or.inl (by decide))]
  have hst := (hv.hcv.2.2.2.2 fi hf).2
  exact ⟨hv.hT,
    hv.hT2,
    hv.hS,
    hv.hra,
    hv.hP,
    hv.hP6,
    hv.hD,
    hv.hN,
    hv.hC,
    hv.hrt,
    hv.hly,
    hv.hr9,
    hv.hl9,
    ⟨hv.hcv.1, hv.hcv.2.1, hv.hcv.2.2.1, fun k hk => by rw [e23 _ (by omega), e23 _ (by omega)]; exact hv.hcv.2.2.2.1 k hk, fun f hf2 => by rw [eA 12 (by decide)]; exact hv.hcv.2.2.2.2 f hf2⟩,
    (fun k hk => by rw [e23 _ (by omega), e23 _ (by omega)]; exact hv.hco k hk),
    hv.huq,
    hv.hls.cg (eA 18 (by decide)),
    hv.htr.cg (eA 13 (by decide)),
    (by rw [(eA 25 (by decide))]; exact hv.hse),
    (fun k hk => by
      rw [eA 25 (by decide), e23 _ (by omega), e23 _ (by omega), ratC_cg (eA 1 (by decide)) (eA 2 (by decide)) (eA 7 (by decide)) (eA 9 (by decide))]
      obtain ⟨h1, h2⟩ := hv.hdu k hk
      refine ⟨h1, h2.imp (fun z => ⟨z.1, z.2.1, z.2.2.1, ?_⟩) id⟩
      rw [e8 k (Or.inr (fun y => hs0 (by rw [← y]; exact z.1)))]
      exact z.2.2.2),
    hv.hxy.cg (eA 1 (by decide)) (eA 2 (by decide)),
    hv.hca.cg (eA 4 (by decide)) (eA 5 (by decide)),
    hv.hcb,
    (fun k hk => ⟨(hv.hph k hk).1.cg (eA 7 (by decide)), by rw [(eA 8 (by decide))]; exact (hv.hph k hk).2⟩),
    hv.hdr.cg (eA 7 (by decide)),
    (fun f hf2 hf3 => by
      rw [eA 14 (by decide), eA 16 (by decide), eA 18 (by decide), lkR_15 (fun k hk z => by have := (hv.hcv.2.2.2.1 k hk).2.1; omega), updA_ne (Or.inl (by decide))]
      exact hv.hzf f hf2 hf3),
    (fun f q hq hn => by
      rw [lkR_ne (by omega), updA_ne (Or.inr (fun z => hn k9 hk9 (by omega)))]
      exact hv.hzc f q hq hn),
    (fun k h1 h2 => by
      rw [e8 k (Or.inl h1), e23 _ (by omega)]
      exact hv.hzk k h1 h2),
    (fun s h1 h2 q hq => by
      rw [lkR_ne (by omega), updA_ne (Or.inl (by decide))]
      exact hv.hzs s h1 h2 q hq),
    (by rw [(eA 25 (by decide))]; exact hv.hso),
    (by rw [(eA 8 (by decide))]; exact hv.hz8)⟩
end STEP52
