section STEP53
section
variable {cf cs sN rN dv ho : Nat → Nat} {se cap all n k f r nS pr : Nat} {A A0 A1 : Nat → Nat → Int32} {ch : Nat → Nat → List (Nat × Int32)}
theorem sdF_o (h : cs k ≠ se) (hr : r < 10) : ∀ i, sdF cs se sN rN A0 i 23 (10 * k + r) = A0 23 (10 * k + r)
  | 0 => rfl
  | i + 1 => by
    rw [sdF]
    by_cases e : cs i = se
    · have e2 : k ≠ i := fun z => h (by rw [z]; exact e)
      rw [if_pos e, updA_ne (Or.inr (by omega)), updA_ne (Or.inr (by omega))]
      exact sdF_o h hr i
    · rw [if_neg e]
      exact sdF_o h hr i
theorem sdF_6 (hk : cs k = se) : ∀ i, k < i → sdF cs se sN rN A0 i 23 (10 * k + 6) = nI (rN k)
  | 0, h => by omega
  | i + 1, h => by
    rw [sdF]
    by_cases e : i = k
    · rw [e, if_pos hk, updA_ne (Or.inr (by omega)), updA_eq]
    · by_cases h1 : cs i = se
      · rw [if_pos h1, updA_ne (Or.inr (by omega)), updA_ne (Or.inr (by omega))]
        exact sdF_6 hk i (by omega)
      · rw [if_neg h1]
        exact sdF_6 hk i (by omega)
theorem spF_o (hr : r < 10) : ∀ i, (i ≤ k ∨ cs k ≠ se) → (spF cf cs se dv cap all A1 i).1 23 (10 * k + r) = A1 23 (10 * k + r)
  | 0, _ => rfl
  | i + 1, h => by
    have ih := spF_o hr i (by omega)
    rw [spF]
    by_cases e : cs i = se
    · have e2 : k ≠ i := fun z => by rw [z] at h; omega
      rw [if_pos e]
      dsimp only
      unfold payS
      rw [updA_ne (Or.inl (by decide)), updA_ne (Or.inl (by decide)), updA_ne (Or.inl (by decide)), updA_ne (Or.inr (by omega)), updA_ne (Or.inr (by omega))]
      exact ih
    · rw [if_neg e]
      exact ih
theorem spF_f4 : ∀ i, (∀ k, k < i → cf k ≠ f) → (spF cf cs se dv cap all A1 i).1 14 f = A1 14 f ∧ (spF cf cs se dv cap all A1 i).1 15 f = A1 15 f
  | 0, _ => ⟨rfl, rfl⟩
  | i + 1, h => by
    have ih := spF_f4 i (fun k hk => h k (by omega))
    have hf : f ≠ cf i := fun z => h i (by omega) z.symm
    rw [spF]
    by_cases e : cs i = se
    · rw [if_pos e]
      dsimp only
      unfold payS
      refine ⟨?_, ?_⟩
      · rw [updA_ne (Or.inl (by decide)), updA_ne (Or.inl (by decide)), updA_ne (Or.inr hf), updA_ne (Or.inl (by decide)), updA_ne (Or.inl (by decide))]
        exact ih.1
      · rw [updA_ne (Or.inl (by decide)), updA_ne (Or.inr hf), updA_ne (Or.inl (by decide)), updA_ne (Or.inl (by decide)), updA_ne (Or.inl (by decide))]
        exact ih.2
    · rw [if_neg e]
      exact ih
theorem datV_z : ∀ {l : List (Nat × Int32)} {kn : Int32}, datV l kn 0 = -1
  | [], _ => rfl
  | q :: l, kn => by rw [datV, if_pos (Nat.zero_le _)]; exact datV_z
theorem nearF_none {dat dist : Nat → Int32} (h : ∀ k, dat k = -1) : ∀ n, (nearF dat dist n).2 = 0
  | 0 => rfl
  | n + 1 => by rw [nearF_0 (h n)]; exact nearF_none h n
theorem rowV_0 {xs ys : Nat → Int32} {kn : Int32} {s0 : Nat} : rowV nS xs ys ch kn 0 se s0 = fun _ => 0 := by
  funext j
  show rainV nS xs ys (fun k => datV (ch k (60 * se + j)) kn 0) s0 = 0
  unfold rainV
  rw [if_pos (show datV (ch s0 (60 * se + j)) kn 0 = -1 from datV_z)]
  exact nearF_none (fun _ => datV_z) nS
theorem ratC_0 {nS2 t s0 : Nat} {dN : Nat → Nat} (ht : t = 0) (e7 : A1 7 = A 7) (e9 : A1 9 = A 9) : ratC A1 nS2 ch pr n dN t s0 se = ratC A nS ch pr n dN t s0 se := by
  unfold ratC phA
  rw [ht, rowV_0, rowV_0, e7]
theorem ratC_cg2 {t s0 : Nat} {dN dN' : Nat → Nat} (e1 : A1 1 = A 1) (e2 : A1 2 = A 2) (e9 : A1 9 pr = A 9 pr) (h : ∀ i, i < n → dN' i = dN i ∧ ∀ k, k < 5 → phA A1 pr k i = phA A pr k i) : ratC A1 nS ch pr n dN' t s0 se = ratC A nS ch pr n dN t s0 se := by
  unfold ratC
  rw [e1, e2, e9]
  exact rateV_cg (fun i hi => ⟨(h i hi).1, (h i hi).2 1 (by decide), (h i hi).2 2 (by decide), (h i hi).2 3 (by decide), (h i hi).2 4 (by decide)⟩)
end
set_option maxHeartbeats 1000000 in
set_option maxRecDepth 100000 in
theorem pv_settle {A : Nat → Nat → Int32} {F : Nat → Int32} {nS nP nF nC tl : Nat} {ho cf cp cs sb pn : Nat → Nat} {dn : Nat → Nat → Nat} {ch : Nat → Nat → List (Nat × Int32)} {T rt ly : Nat} {sN : Nat → Nat} (hv : PV A F nS nP nF nC tl ho cf cp cs sb pn dn ch T rt ly sN) {se : Nat} {rN : Nat → Nat} {sb1 : Nat → Nat} {v : Int32} (hse : se < 20) (hov : (se + 1) * 60 ≤ T) (hrN : ∀ k, k < nC → (se < 20 → ratC A nS ch (cp k) (pn (cp k)) (dn (cp k)) tl (ho (cf k)) se = nI (rN k)) ∧ rN k ≤ 1000) (hsb : ∀ j, j < nC → sb1 j = if cs j = se then tl else sb j) : PV ((setR A (F 0) cf cs se sN rN rt ly nC).1) (updF F 27 v) nS nP nF nC tl ho cf cp cs sb1 pn dn ch T rt ly sN := by
  have eA : ∀ q, q ∉ ([13, 14, 15, 23, 25] : List Nat) → ((setR A (F 0) cf cs se sN rN rt ly nC).1) q = A q := fun q hq => funext fun j => by
    simp only [List.mem_cons, List.not_mem_nil, or_false, not_or] at hq
    show (spF cf cs se (dvN sN rN) (rt + ly) (allN cs se (dvN sN rN) nC) (sdF cs se sN rN (updA A 25 se (F 0 + 1)) nC) nC).1 q j = _
    rw [spF_ne (by omega), sdF_ne (Or.inl (by omega)), updA_ne (Or.inl (by omega))]
  have e23 : ∀ j, j % 10 ≠ 6 ∧ j % 10 ≠ 7 ∧ j % 10 ≠ 8 ∧ j % 10 ≠ 9 → (setR A (F 0) cf cs se sN rN rt ly nC).1 23 j = A 23 j := fun j hj => (spF_ne (by omega) nC).trans ((sdF_ne (by omega) nC).trans (updA_ne (Or.inl (by decide))))
  have eo : ∀ k r, r < 10 → cs k ≠ se → (setR A (F 0) cf cs se sN rN rt ly nC).1 23 (10 * k + r) = A 23 (10 * k + r) := fun k r hr hk => (spF_o hr nC (Or.inr hk)).trans ((sdF_o hk hr nC).trans (updA_ne (Or.inl (by decide))))
  have e25 : ∀ j, (setR A (F 0) cf cs se sN rN rt ly nC).1 25 j = updA A 25 se (F 0 + 1) 25 j := fun j => (spF_ne (by omega) nC).trans (sdF_ne (by omega) nC)
  have eT : F 0 + 1 = nI (T + 1) := by rw [hv.hT, nI_1]
  have hT2 := hv.hT2
  exact ⟨(if_neg (by decide)).trans hv.hT,
    hv.hT2,
    (if_neg (by decide)).trans hv.hS,
    (if_neg (by decide)).trans hv.hra,
    (if_neg (by decide)).trans hv.hP,
    hv.hP6,
    (if_neg (by decide)).trans hv.hD,
    (if_neg (by decide)).trans hv.hN,
    (if_neg (by decide)).trans hv.hC,
    (if_neg (by decide)).trans hv.hrt,
    (if_neg (by decide)).trans hv.hly,
    hv.hr9,
    hv.hl9,
    ⟨hv.hcv.1, hv.hcv.2.1, hv.hcv.2.2.1, fun k hk => by rw [e23 _ (by omega), e23 _ (by omega)]; exact hv.hcv.2.2.2.1 k hk, fun f hf2 => by rw [eA 12 (by decide)]; exact hv.hcv.2.2.2.2 f hf2⟩,
    (fun k hk => by rw [e23 _ (by omega), e23 _ (by omega)]; exact hv.hco k hk),
    hv.huq,
    hv.hls.cg (eA 18 (by decide)),
    spF_TRB (sdF_TRB (hv.htr.ne (by decide)) nC) (fun k hk => (hv.hcv.2.2.2.1 k hk).2.1) nC (Nat.le_refl _),
    (fun j hj => by
      rw [e25]
      by_cases e : j = se
      · exact ⟨T + 1, by omega, by rw [e, updA_eq, eT]⟩
      · rw [updA_ne (Or.inr e)]; exact hv.hse j hj),
    (fun k hk => by
      rw [e25, ratC_cg (eA 1 (by decide)) (eA 2 (by decide)) (eA 7 (by decide)) (eA 9 (by decide)), hsb k hk]
      obtain ⟨h1, h2⟩ := hv.hdu k hk
      by_cases e : cs k = se
      · rw [if_pos e, e, updA_eq, eT]
        refine ⟨Nat.le_refl _, Or.inr ⟨fun z => ?_, rN k, (hrN k hk).2, ?_, ?_, (hrN k hk).1 hse⟩⟩
        · have := (nI_eq (a := T + 1) (b := 0) (by omega) (by omega)).mp z
          omega
        · exact (spF_ne (by omega) nC).trans (sdF_6 e nC hk)
        · exact (spF_ne (by omega) nC).trans (sdF_7 e nC hk)
      · rw [if_neg e, updA_ne (Or.inr e), eo k 6 (by omega) e, eo k 7 (by omega) e, eo k 8 (by omega) e]
        exact ⟨h1, h2⟩),
    hv.hxy.cg (eA 1 (by decide)) (eA 2 (by decide)),
    hv.hca.cg (eA 4 (by decide)) (eA 5 (by decide)),
    hv.hcb,
    (fun k hk => ⟨(hv.hph k hk).1.cg (eA 7 (by decide)), by rw [(eA 8 (by decide))]; exact (hv.hph k hk).2⟩),
    hv.hdr.cg (eA 7 (by decide)),
    (fun f hf2 hf3 => by
      rw [eA 16 (by decide), eA 18 (by decide)]
      obtain ⟨h1, h2, h3, h4⟩ := hv.hzf f hf2 hf3
      have s := spF_f4 (cf := cf) (cs := cs) (se := se) (dv := dvN sN rN) (cap := rt + ly) (all := allN cs se (dvN sN rN) nC) (A1 := (sdF cs se sN rN (updA A 25 se (F 0 + 1)) nC)) (f := f) nC (fun k hk z => by have := (hv.hcv.2.2.2.1 k hk).2.1; omega)
      exact ⟨s.1.trans ((sdF_ne (Or.inl (by decide)) nC).trans ((updA_ne (Or.inl (by decide))).trans h1)), s.2.trans ((sdF_ne (Or.inl (by decide)) nC).trans ((updA_ne (Or.inl (by decide))).trans h2)), h3, h4⟩),
    (by rw [(eA 19 (by decide))]; exact hv.hzc),
    (fun k h1 h2 => by
      obtain ⟨g1, g2⟩ := hv.hzk k h1 h2
      exact ⟨(spF_o (by omega) nC (Or.inl h1)).trans ((sdF_ne (by omega) nC).trans ((updA_ne (Or.inl (by decide))).trans g1)), (spF_o (by omega) nC (Or.inl h1)).trans ((sdF_ne (by omega) nC).trans ((updA_ne (Or.inl (by decide))).trans g2))⟩),
    (by rw [(eA 26 (by decide))]; exact hv.hzs),
    (fun j hj z => by
      rw [e25] at z
      by_cases e : j = se
      · rw [e]; exact hov
      · rw [updA_ne (Or.inr e)] at z; exact hv.hso j hj z),
    (by rw [(eA 8 (by decide))]; exact hv.hz8)⟩
set_option maxHeartbeats 1000000 in
set_option maxRecDepth 100000 in
theorem pv_station {A : Nat → Nat → Int32} {F : Nat → Int32} {nS nP nF nC tl : Nat} {ho cf cp cs sb pn : Nat → Nat} {dn : Nat → Nat → Nat} {ch : Nat → Nat → List (Nat × Int32)} {T rt ly : Nat} {sN : Nat → Nat} (hv : PV A F nS nP nF nC tl ho cf cp cs sb pn dn ch T rt ly sN) {xa ya : Int32} {a b : Nat} (hn : nS < 5) (ht : tl = 0) (h1 : xa = nI a) (h2 : ya = nI b) (ha : a < 10) (hb : b < 10) : PV (updA (updA A 1 nS xa) 2 nS ya) (updF F 3 (F 3 + 1)) (nS + 1) nP nF nC tl ho cf cp cs sb pn dn ch T rt ly sN := by
  have eA : ∀ q, q ∉ ([1, 2] : List Nat) → (updA (updA A 1 nS xa) 2 nS ya) q = A q := fun q hq => by
    simp only [List.mem_cons, List.not_mem_nil, or_false, not_or] at hq
    first | rw [updA_row hq] | (obtain ⟨h1, h2⟩ := hq; rw [updA_row (by assumption), updA_row (by assumption)]) | (rw [updA_row hq, updA_row hq])
  exact ⟨(if_neg (by decide)).trans hv.hT,
    hv.hT2,
    ((if_pos rfl).trans (by rw [hv.hS, nI_1])),
    (if_neg (by decide)).trans hv.hra,
    (if_neg (by decide)).trans hv.hP,
    hv.hP6,
    (if_neg (by decide)).trans hv.hD,
    (if_neg (by decide)).trans hv.hN,
    (if_neg (by decide)).trans hv.hC,
    (if_neg (by decide)).trans hv.hrt,
    (if_neg (by decide)).trans hv.hly,
    hv.hr9,
    hv.hl9,
    ⟨hv.hcv.1, hv.hcv.2.1, by omega, fun k hk => by rw [eA 23 (by decide)]; exact hv.hcv.2.2.2.1 k hk, fun f hf => by rw [eA 12 (by decide)]; have := hv.hcv.2.2.2.2 f hf; exact ⟨this.1, by omega⟩⟩,
    (by rw [(eA 23 (by decide))]; exact hv.hco),
    hv.huq,
    hv.hls.cg (eA 18 (by decide)),
    hv.htr.cg (eA 13 (by decide)),
    (by rw [(eA 25 (by decide))]; exact hv.hse),
    (fun k hk => by
      obtain ⟨g1, g2⟩ := hv.hdu k hk
      rw [eA 25 (by decide), eA 23 (by decide), ratC_0 (A := A) (nS := nS) (by omega) (eA 7 (by decide)) (eA 9 (by decide))]
      exact ⟨g1, g2⟩),
    (fun k hk => by
      by_cases e : k = nS
      · exact ⟨a, b, ha, hb, by rw [e, updA_ne (Or.inl (by decide)), updA_eq, h1], by rw [e, updA_eq, h2]⟩
      · obtain ⟨c, d, hc, hd, e1, e2⟩ := hv.hxy k (by omega)
        exact ⟨c, d, hc, hd, by rw [updA_ne (Or.inl (by decide)), updA_ne (Or.inr e), e1], by rw [updA_ne (Or.inr e), updA_ne (Or.inl (by decide)), e2]⟩),
    (fun s hs q hq => by
      rw [eA 4 (by decide), eA 5 (by decide)]
      obtain ⟨g1, g2, g3⟩ := hv.hca s hs q hq
      exact ⟨g1, g2, fun z => g3 (by omega)⟩),
    hv.hcb,
    (fun k hk => ⟨(hv.hph k hk).1.cg (eA 7 (by decide)), by rw [(eA 8 (by decide))]; exact (hv.hph k hk).2⟩),
    hv.hdr.cg (eA 7 (by decide)),
    (by rw [(eA 14 (by decide)), (eA 15 (by decide)), (eA 16 (by decide)), (eA 18 (by decide))]; exact hv.hzf),
    (by rw [(eA 19 (by decide))]; exact hv.hzc),
    (by rw [(eA 23 (by decide))]; exact hv.hzk),
    (fun s g1 g2 q hq => by rw [eA 26 (by decide)]; exact hv.hzs s (by omega) g2 q hq),
    (by rw [(eA 25 (by decide))]; exact hv.hso),
    (by rw [(eA 8 (by decide))]; exact hv.hz8)⟩
set_option maxHeartbeats 1000000 in
set_option maxRecDepth 100000 in
theorem pv_phase {A : Nat → Nat → Int32} {F : Nat → Int32} {nS nP nF nC tl : Nat} {ho cf cp cs sb pn : Nat → Nat} {dn : Nat → Nat → Nat} {ch : Nat → Nat → List (Nat × Int32)} {T rt ly : Nat} {sN : Nat → Nat} (hv : PV A F nS nP nF nC tl ho cf cp cs sb pn dn ch T rt ly sN) {dyN b q u : Nat} {dB : Bool} {tr ex wt : Int32} (hn : pn 6 < 3) (hd : dyN ≤ 30) (h1 : tr = nI b) (h2 : ex = nI q) (h3 : wt = nI u) (hb : b ≤ 9999) (hq : q ≤ 9999) (hu : u ≤ 100) (hc : (dB = true ∧ b < q) ∨ (dB = false ∧ q < b)) : PV (pheA A (pn 6) (nI dyN) (bI dB) tr ex wt) (updF F 11 (F 11 + 1)) nS nP nF nC tl ho cf cp cs sb (updN pn 6 (pn 6 + 1)) (caU dn 6 (pn 6) dyN) ch T rt ly sN := by
  have eA : ∀ q, q ∉ ([7] : List Nat) → (pheA A (pn 6) (nI dyN) (bI dB) tr ex wt) q = A q := fun q hq => pheA_row (by simpa using hq)
  have p6 : ∀ i, i ≠ 6 → updN pn 6 (pn 6 + 1) i = pn i := fun i hi => if_neg hi
  have dq : ∀ i, i ≠ 6 → caU dn 6 (pn 6) dyN i = dn i := fun i hi => caU_row hi
  have hP6 := hv.hP6
  have pq : ∀ k i, k < nP → i < pn k → ∀ r, r < 5 → phA (pheA A (pn 6) (nI dyN) (bI dB) tr ex wt) k r i = phA A k r i := fun k i hk hi r hr => by
    have := (hv.hph k hk).1.1
    exact pheA_ne (Or.inl (by omega))
  exact ⟨(if_neg (by decide)).trans hv.hT,
    hv.hT2,
    (if_neg (by decide)).trans hv.hS,
    (if_neg (by decide)).trans hv.hra,
    (if_neg (by decide)).trans hv.hP,
    hv.hP6,
    ((if_pos rfl).trans (by rw [hv.hD, show updN pn 6 (pn 6 + 1) 6 = pn 6 + 1 from if_pos rfl, nI_1])),
    (if_neg (by decide)).trans hv.hN,
    (if_neg (by decide)).trans hv.hC,
    (if_neg (by decide)).trans hv.hrt,
    (if_neg (by decide)).trans hv.hly,
    hv.hr9,
    hv.hl9,
    hv.hcv.cg (eA 23 (by decide)) (eA 12 (by decide)),
    (by rw [(eA 23 (by decide))]; exact hv.hco),
    hv.huq,
    hv.hls.cg (eA 18 (by decide)),
    hv.htr.cg (eA 13 (by decide)),
    (by rw [(eA 25 (by decide))]; exact hv.hse),
    (fun k hk => by
      have hc9 := (hv.hco k hk).2.1
      rw [eA 25 (by decide), eA 23 (by decide), p6 _ (by omega), dq _ (by omega), ratC_cg2 (eA 1 (by decide)) (eA 2 (by decide)) (by rw [eA 9 (by decide)]) (fun i hi => ⟨rfl, pq _ i hc9 hi⟩)]
      exact hv.hdu k hk),
    hv.hxy.cg (eA 1 (by decide)) (eA 2 (by decide)),
    hv.hca.cg (eA 4 (by decide)) (eA 5 (by decide)),
    hv.hcb,
    (fun k hk => by
      rw [p6 k (by omega), dq k (by omega), eA 8 (by decide)]
      exact ⟨(hv.hph k hk).1.cg2 (fun i hi => ⟨rfl, pq k i hk hi⟩), (hv.hph k hk).2⟩),
    (by
      rw [show updN pn 6 (pn 6 + 1) 6 = pn 6 + 1 from if_pos rfl]
      refine ⟨by omega, fun i hi => ?_⟩
      by_cases e : i = pn 6
      · rw [e, show caU dn 6 (pn 6) dyN 6 (pn 6) = dyN from caU_eq]
        refine ⟨pheA_0, hd, b, q, u, pheA_2.trans h1, pheA_3.trans h2, pheA_4.trans h3, hb, hq, hu, ?_⟩
        rcases hc with ⟨e1, e2⟩ | ⟨e1, e2⟩
        · exact Or.inr ⟨pheA_1.trans (by rw [e1]; rfl), e2⟩
        · exact Or.inl ⟨pheA_1.trans (by rw [e1]; rfl), e2⟩
      · rw [show caU dn 6 (pn 6) dyN 6 i = dn 6 i from caU_ne (Or.inr e)]
        have h9 := hv.hdr.2 i (by omega)
        unfold phA at h9 ⊢
        rw [pheA_ne (Or.inl (by omega)), pheA_ne (Or.inl (by omega)), pheA_ne (Or.inl (by omega)), pheA_ne (Or.inl (by omega)), pheA_ne (Or.inl (by omega))]
        exact h9),
    (by rw [(eA 14 (by decide)), (eA 15 (by decide)), (eA 16 (by decide)), (eA 18 (by decide))]; exact hv.hzf),
    (by rw [(eA 19 (by decide))]; exact hv.hzc),
    (by rw [(eA 23 (by decide))]; exact hv.hzk),
    (by rw [(eA 26 (by decide))]; exact hv.hzs),
    (by rw [(eA 25 (by decide))]; exact hv.hso),
    (by rw [(eA 8 (by decide))]; exact hv.hz8)⟩
set_option maxHeartbeats 1000000 in
set_option maxRecDepth 100000 in
theorem pv_product {A : Nat → Nat → Int32} {F : Nat → Int32} {nS nP nF nC tl : Nat} {ho cf cp cs sb pn : Nat → Nat} {dn : Nat → Nat → Nat} {ch : Nat → Nat → List (Nat × Int32)} {T rt ly : Nat} {sN : Nat → Nat} (hv : PV A F nS nP nF nC tl ho cf cp cs sb pn dn ch T rt ly sN) {kn : Int32} (hn : nP < 6) : PV (updA (updA (cpyA A nP 15) 8 nP (F 11)) 9 nP kn) (updF (updF F 11 0) 10 (nI nP + 1)) nS (nP + 1) nF nC tl ho cf cp cs sb (updN (updN pn nP (pn 6)) 6 0) (fun k => if k = nP then dn 6 else dn k) ch T rt ly sN := by
  have eA : ∀ q, q ∉ ([7, 8, 9] : List Nat) → (updA (updA (cpyA A nP 15) 8 nP (F 11)) 9 nP kn) q = A q := fun q hq => by
    simp only [List.mem_cons, List.not_mem_nil, or_false, not_or] at hq
    rw [updA_row hq.2.2, updA_row hq.2.1, cpy_row hq.1]
  have p6 : updN (updN pn nP (pn 6)) 6 0 6 = 0 := if_pos rfl
  have pN : updN (updN pn nP (pn 6)) 6 0 nP = pn 6 := (if_neg (by omega)).trans (if_pos rfl)
  have pO : ∀ i, i < nP → updN (updN pn nP (pn 6)) 6 0 i = pn i := fun i h2 => (if_neg (by omega)).trans (if_neg (by omega))
  have dO : ∀ i, i < nP → (if i = nP then dn 6 else dn i) = dn i := fun i h1 => if_neg (by omega)
  have e7 : ∀ j, (updA (updA (cpyA A nP 15) 8 nP (F 11)) 9 nP kn) 7 j = cpyA A nP 15 7 j := fun j => by rw [updA_ne (Or.inl (by decide)), updA_ne (Or.inl (by decide))]
  have pq : ∀ k i, k < nP → i < pn k → ∀ r, r < 5 → phA (updA (updA (cpyA A nP 15) 8 nP (F 11)) 9 nP kn) k r i = phA A k r i := fun k i hk hi r hr => by
    have := (hv.hph k hk).1.1
    show (updA (updA (cpyA A nP 15) 8 nP (F 11)) 9 nP kn) 7 (5 * (3 * k + i) + r) = A 7 (5 * (3 * k + i) + r)
    rw [e7, cpy_lo (Or.inl (by omega))]
  have e9 : ∀ j, j < nP → (updA (updA (cpyA A nP 15) 8 nP (F 11)) 9 nP kn) 9 j = A 9 j := fun j hj => by rw [updA_ne (Or.inr (by omega)), updA_ne (Or.inl (by decide)), cpy_row (by decide)]
  have e8 : ∀ j, j < nP → (updA (updA (cpyA A nP 15) 8 nP (F 11)) 9 nP kn) 8 j = A 8 j := fun j hj => by rw [updA_ne (Or.inl (by decide)), updA_ne (Or.inr (by omega)), cpy_row (by decide)]
  exact ⟨((if_neg (by decide)).trans (if_neg (by decide))).trans hv.hT,
    hv.hT2,
    ((if_neg (by decide)).trans (if_neg (by decide))).trans hv.hS,
    ((if_neg (by decide)).trans (if_neg (by decide))).trans hv.hra,
    ((if_pos rfl).trans (nI_1 nP)),
    (by omega),
    ((if_neg (by decide)).trans ((if_pos rfl).trans (by rw [p6]; rfl))),
    ((if_neg (by decide)).trans (if_neg (by decide))).trans hv.hN,
    ((if_neg (by decide)).trans (if_neg (by decide))).trans hv.hC,
    ((if_neg (by decide)).trans (if_neg (by decide))).trans hv.hrt,
    ((if_neg (by decide)).trans (if_neg (by decide))).trans hv.hly,
    hv.hr9,
    hv.hl9,
    hv.hcv.cg (eA 23 (by decide)) (eA 12 (by decide)),
    (fun k hk => by rw [eA 23 (by decide)]; have h9 := hv.hco k hk; exact ⟨h9.1, by omega, h9.2.2⟩),
    hv.huq,
    hv.hls.cg (eA 18 (by decide)),
    hv.htr.cg (eA 13 (by decide)),
    (by rw [(eA 25 (by decide))]; exact hv.hse),
    (fun k hk => by
      have hc9 := (hv.hco k hk).2.1
      rw [eA 25 (by decide), eA 23 (by decide), pO _ hc9]
      dsimp only
      rw [dO _ hc9, ratC_cg2 (eA 1 (by decide)) (eA 2 (by decide)) (e9 _ hc9) (fun i hi => ⟨rfl, pq _ i hc9 hi⟩)]
      exact hv.hdu k hk),
    hv.hxy.cg (eA 1 (by decide)) (eA 2 (by decide)),
    hv.hca.cg (eA 4 (by decide)) (eA 5 (by decide)),
    hv.hcb,
    (fun k hk => by
      dsimp only
      by_cases e : k = nP
      · subst e
        rw [pN, if_pos rfl]
        have hp3 := hv.hdr.1
        refine ⟨hv.hdr.cg2 (fun i hi => ⟨rfl, fun r hr => ?_⟩), by rw [updA_ne (Or.inl (by decide)), updA_eq, hv.hD]⟩
        show (updA (updA (cpyA A k 15) 8 k (F 11)) 9 k kn) 7 (5 * (3 * k + i) + r) = A 7 (5 * (3 * 6 + i) + r)
        rw [e7, show 5 * (3 * k + i) + r = 15 * k + (5 * i + r) by omega, cpy_hi (by omega) (by omega) (by omega), show 90 + (5 * i + r) = 5 * (3 * 6 + i) + r by omega]
      · have hk2 : k < nP := by omega
        rw [pO k hk2, dO k hk2, e8 k hk2]
        exact ⟨(hv.hph k hk2).1.cg2 (fun i hi => ⟨rfl, pq k i hk2 hi⟩), (hv.hph k hk2).2⟩),
    (by rw [p6]; exact ⟨by omega, fun i hi => absurd hi (by omega)⟩),
    (by rw [(eA 14 (by decide)), (eA 15 (by decide)), (eA 16 (by decide)), (eA 18 (by decide))]; exact hv.hzf),
    (by rw [(eA 19 (by decide))]; exact hv.hzc),
    (by rw [(eA 23 (by decide))]; exact hv.hzk),
    (by rw [(eA 26 (by decide))]; exact hv.hzs),
    (by rw [(eA 25 (by decide))]; exact hv.hso),
    (by rw [updA_ne (Or.inl (by decide)), updA_ne (Or.inr (by omega)), cpy_row (by decide)]; exact hv.hz8)⟩
set_option maxHeartbeats 1000000 in
set_option maxRecDepth 100000 in
theorem pv_farm {A : Nat → Nat → Int32} {F : Nat → Int32} {nS nP nF nC tl : Nat} {ho cf cp cs sb pn : Nat → Nat} {dn : Nat → Nat → Nat} {ch : Nat → Nat → List (Nat × Int32)} {T rt ly : Nat} {sN : Nat → Nat} (hv : PV A F nS nP nF nC tl ho cf cp cs sb pn dn ch T rt ly sN) {s1 : Nat} (hn : nF < 16) (hs : s1 < nS) : PV (updA (updA A 12 nF (nI s1)) 13 nF 50) (updF F 17 (F 17 + 1)) nS nP (nF + 1) nC tl (updN ho nF s1) cf cp cs sb pn dn ch T rt ly sN := by
  have eA : ∀ q, q ∉ ([12, 13] : List Nat) → (updA (updA A 12 nF (nI s1)) 13 nF 50) q = A q := fun q hq => by
    simp only [List.mem_cons, List.not_mem_nil, or_false, not_or] at hq
    first | rw [updA_row hq] | (obtain ⟨h1, h2⟩ := hq; rw [updA_row (by assumption), updA_row (by assumption)]) | (rw [updA_row hq, updA_row hq])
  have hO : ∀ f, f < nF → updN ho nF s1 f = ho f := fun f hf => if_neg (by omega)
  exact ⟨(if_neg (by decide)).trans hv.hT,
    hv.hT2,
    (if_neg (by decide)).trans hv.hS,
    (if_neg (by decide)).trans hv.hra,
    (if_neg (by decide)).trans hv.hP,
    hv.hP6,
    (if_neg (by decide)).trans hv.hD,
    ((if_pos rfl).trans (by rw [hv.hN, nI_1])),
    (if_neg (by decide)).trans hv.hC,
    (if_neg (by decide)).trans hv.hrt,
    (if_neg (by decide)).trans hv.hly,
    hv.hr9,
    hv.hl9,
    ⟨hv.hcv.1, by omega, hv.hcv.2.2.1, fun k hk => by rw [eA 23 (by decide)]; have h9 := hv.hcv.2.2.2.1 k hk; exact ⟨h9.1, by omega, h9.2.2⟩, fun f hf => by
      by_cases e : f = nF
      · rw [e, updA_ne (Or.inl (by decide)), updA_eq, show updN ho nF s1 nF = s1 from if_pos rfl]; exact ⟨rfl, hs⟩
      · rw [updA_ne (Or.inl (by decide)), updA_ne (Or.inr e), hO f (by omega)]; exact hv.hcv.2.2.2.2 f (by omega)⟩,
    (by rw [(eA 23 (by decide))]; exact hv.hco),
    hv.huq,
    (fun f hf q hq => by
      rw [eA 18 (by decide)]
      by_cases e : f = nF
      · exact ⟨0, by omega, by rw [e]; exact (hv.hzf nF (Nat.le_refl _) hn).2.2.2 q hq⟩
      · exact hv.hls f (by omega) q hq),
    (fun f hf => by
      by_cases e : f = nF
      · exact ⟨50, by omega, by rw [e, updA_eq]; rfl⟩
      · rw [updA_ne (Or.inr e), updA_ne (Or.inl (by decide))]; exact hv.htr f (by omega)),
    (by rw [(eA 25 (by decide))]; exact hv.hse),
    (fun k hk => by rw [eA 25 (by decide), eA 23 (by decide), hO _ (hv.hcv.2.2.2.1 k hk).2.1, ratC_cg (eA 1 (by decide)) (eA 2 (by decide)) (eA 7 (by decide)) (eA 9 (by decide))]; exact hv.hdu k hk),
    hv.hxy.cg (eA 1 (by decide)) (eA 2 (by decide)),
    hv.hca.cg (eA 4 (by decide)) (eA 5 (by decide)),
    hv.hcb,
    (fun k hk => ⟨(hv.hph k hk).1.cg (eA 7 (by decide)), by rw [(eA 8 (by decide))]; exact (hv.hph k hk).2⟩),
    hv.hdr.cg (eA 7 (by decide)),
    (fun f h1 h2 => by rw [eA 14 (by decide), eA 15 (by decide), eA 16 (by decide), eA 18 (by decide)]; exact hv.hzf f (by omega) h2),
    (by rw [(eA 19 (by decide))]; exact hv.hzc),
    (by rw [(eA 23 (by decide))]; exact hv.hzk),
    (by rw [(eA 26 (by decide))]; exact hv.hzs),
    (by rw [(eA 25 (by decide))]; exact hv.hso),
    (by rw [(eA 8 (by decide))]; exact hv.hz8)⟩
set_option maxHeartbeats 1000000 in
set_option maxRecDepth 100000 in
theorem pv_sell {A : Nat → Nat → Int32} {F : Nat → Int32} {nS nP nF nC tl : Nat} {ho cf cp cs sb pn : Nat → Nat} {dn : Nat → Nat → Nat} {ch : Nat → Nat → List (Nat × Int32)} {T rt ly : Nat} {sN : Nat → Nat} (hv : PV A F nS nP nF nC tl ho cf cp cs sb pn dn ch T rt ly sN) {fi pr se suN : Nat} {su pri shr v6 : Int32} (hn : nC < 60) (hf : fi < nF) (hp : pr < nP) (hse : se < 20) (h1 : su = nI suN) (h2 : 1 ≤ suN) (h3 : suN ≤ 2000) (hT9 : T < 60 * se) (hno : ∀ k, k < nC → ¬ (cf k = fi ∧ cs k = se)) : PV (updA (newA A nC fi pr su se pri shr) 16 fi v6) (updF F 24 (nI nC + 1)) nS nP nF (nC + 1) tl ho (updN cf nC fi) (updN cp nC pr) (updN cs nC se) (updN sb nC 0) pn dn ch T rt ly (updN sN nC suN) := by
  have eA : ∀ q, q ∉ ([16, 23] : List Nat) → (updA (newA A nC fi pr su se pri shr) 16 fi v6) q = A q := fun q hq => by
    simp only [List.mem_cons, List.not_mem_nil, or_false, not_or] at hq
    rw [updA_row hq.1, newA_row hq.2]
  have e23 : (updA (newA A nC fi pr su se pri shr) 16 fi v6) 23 = (newA A nC fi pr su se pri shr) 23 := updA_row (by decide)
  have u1 : ∀ (f : Nat → Nat) (y : Nat), updN f nC y nC = y := fun f y => if_pos rfl
  have u2 : ∀ (f : Nat → Nat) (y i : Nat), i ≠ nC → updN f nC y i = f i := fun f y i hi => if_neg hi
  have h25 : A 25 se = 0 := Classical.byContradiction (fun z => by have := hv.hso se hse z; omega)
  exact ⟨(if_neg (by decide)).trans hv.hT,
    hv.hT2,
    (if_neg (by decide)).trans hv.hS,
    (if_neg (by decide)).trans hv.hra,
    (if_neg (by decide)).trans hv.hP,
    hv.hP6,
    (if_neg (by decide)).trans hv.hD,
    (if_neg (by decide)).trans hv.hN,
    ((if_pos rfl).trans (nI_1 nC)),
    (if_neg (by decide)).trans hv.hrt,
    (if_neg (by decide)).trans hv.hly,
    hv.hr9,
    hv.hl9,
    ⟨by omega, hv.hcv.2.1, hv.hcv.2.2.1, fun k hk => by
      rw [e23]
      by_cases e : k = nC
      · rw [e, u1, u1, newA_0, newA_3]; exact ⟨rfl, hf, rfl, hse⟩
      · rw [u2 _ _ k e, u2 _ _ k e, newA_ne (Or.inl (by omega)), newA_ne (Or.inl (by omega))]; exact hv.hcv.2.2.2.1 k (by omega), fun f hf2 => by rw [eA 12 (by decide)]; exact hv.hcv.2.2.2.2 f hf2⟩,
    (fun k hk => by
      rw [e23]
      by_cases e : k = nC
      · rw [e, u1, u1, newA_1, newA_2]; exact ⟨rfl, hp, h1, h2, h3⟩
      · rw [u2 _ _ k e, u2 _ _ k e, newA_ne (Or.inl (by omega)), newA_ne (Or.inl (by omega))]; exact hv.hco k (by omega)),
    (fun i j hi hj e1 e2 => by
      by_cases x : i = nC
      · by_cases y : j = nC
        · rw [x, y]
        · rw [x, u1, u2 _ _ j y] at e1 e2
          exact absurd ⟨e1.symm, e2.symm⟩ (hno j (by omega))
      · by_cases y : j = nC
        · rw [y, u1, u2 _ _ i x] at e1 e2
          exact absurd ⟨e1, e2⟩ (hno i (by omega))
        · rw [u2 _ _ i x, u2 _ _ j y] at e1 e2
          exact hv.huq i j (by omega) (by omega) e1 e2),
    hv.hls.cg (eA 18 (by decide)),
    hv.htr.cg (eA 13 (by decide)),
    (by rw [(eA 25 (by decide))]; exact hv.hse),
    (fun k hk => by
      rw [e23, eA 25 (by decide)]
      by_cases e : k = nC
      · rw [e, u1, u1, newA_6, newA_7, newA_ne (Or.inr (by omega)), h25]
        exact ⟨Nat.zero_le _, Or.inl ⟨rfl, rfl, rfl, (hv.hzk nC (Nat.le_refl _) hn).1⟩⟩
      · rw [u2 _ _ k e, u2 _ _ k e, u2 _ _ k e, u2 _ _ k e, u2 _ _ k e, newA_ne (Or.inl (by omega)), newA_ne (Or.inl (by omega)), newA_ne (Or.inl (by omega)), ratC_cg (eA 1 (by decide)) (eA 2 (by decide)) (eA 7 (by decide)) (eA 9 (by decide))]
        exact hv.hdu k (by omega)),
    hv.hxy.cg (eA 1 (by decide)) (eA 2 (by decide)),
    hv.hca.cg (eA 4 (by decide)) (eA 5 (by decide)),
    hv.hcb,
    (fun k hk => ⟨(hv.hph k hk).1.cg (eA 7 (by decide)), by rw [(eA 8 (by decide))]; exact (hv.hph k hk).2⟩),
    hv.hdr.cg (eA 7 (by decide)),
    (fun f g1 g2 => by rw [eA 14 (by decide), eA 15 (by decide), eA 18 (by decide), updA_ne (Or.inr (by omega)), newA_row (by decide)]; exact hv.hzf f g1 g2),
    (fun f q hq hn2 => by
      rw [eA 19 (by decide)]
      refine hv.hzc f q hq (fun k hk z => hn2 k (by omega) ?_)
      rw [u2 _ _ k (by omega), u2 _ _ k (by omega)]
      exact z),
    (fun k g1 g2 => by rw [e23, newA_ne (Or.inr (by omega)), newA_ne (Or.inr (by omega))]; exact hv.hzk k (by omega) g2),
    (by rw [(eA 26 (by decide))]; exact hv.hzs),
    (by rw [(eA 25 (by decide))]; exact hv.hso),
    (by rw [(eA 8 (by decide))]; exact hv.hz8)⟩
end STEP53
