section NEW48
section
variable {w : Wd} {de x nS nP nF nC tl : Nat} {A A1 : Nat → Nat → Int32} {F F1 : Nat → Int32} {ho cf cp cs sb pn : Nat → Nat} {dn : Nat → Nat → Nat} {ch : Nat → Nat → List (Nat × Int32)} {ca : Nat → Nat → Nat} {w1 w2 : Wd} {q sl : Nat} {kn v : Int32}
theorem cpy_row {k n : Nat} (h : k ≠ 7) : cpyA A nP n k = A k := by
  induction n with
  | zero => rfl
  | succ n ih => rw [cpyA, updA_row h, ih]
theorem cpy_lo {j n : Nat} (h : j < 15 * nP ∨ 15 * nP + n ≤ j) : cpyA A nP n 7 j = A 7 j := by
  induction n with
  | zero => rfl
  | succ n ih => rw [cpyA, updA_ne (Or.inr (by omega)), ih (by omega)]
theorem cpy_hi {j n : Nat} (hP : nP < 6) (h : j < n) (hn : n ≤ 15) : cpyA A nP n 7 (15 * nP + j) = A 7 (90 + j) := by
  induction n with
  | zero => omega
  | succ n ih =>
    rw [cpyA]
    by_cases e : j = n
    · rw [e, updA_eq, cpy_lo (Or.inr (by omega))]
    · rw [updA_ne (Or.inr (by omega)), ih (by omega) (by omega)]
/-- the draft's way to know data is told -/
theorem RC0.known (h : RC0 w de x A F nS nP nF nC tl ho cf cp cs sb pn dn ch ca) (v : Int32) : RC0 (pI w 6 2 (ca 3 6) v) de x A F nS nP nF nC tl ho cf cp cs sb pn dn ch ca := by
  have hP := h.2.2.2.2.1
  have k6 := (hP.2.2.1 6 (Or.inr rfl)).1.1
  have k : Kp [11, 1020, 10, 81, 1013, 8, 1002, 9, 1041, 7, 1010, 21, 1023, 101, 1053, 5, 41, 1033, 4, 1030, 61, 1043, 3] w (pI w 6 2 (ca 3 6) v) := Kp.pI k6 (by decide)
  refine ⟨h.1.mv (k.sub (by decide)) rfl rfl rfl rfl, h.2.1.mv (k.sub (by decide)) rfl, h.2.2.1.mv (k.sub (by decide)) rfl rfl rfl, h.2.2.2.1.kp (k.sub (by decide)), ⟨hP.1.keep (k _ (by rw [hP.1.1]; decide)) (fun r hr hf => ?_), hP.2.1, fun i hi => ?_, hP.2.2.2⟩, h.2.2.2.2.2.1.mv (k.sub (by decide)) rfl rfl rfl rfl rfl, h.2.2.2.2.2.2.1.mv (k.sub (by decide)) rfl rfl, h.2.2.2.2.2.2.2⟩
  · rcases hP.1.2.2.2 with ⟨-, h4⟩ | ⟨ar, h4, -, h5, -⟩
    · exact absurd (Option.some.inj (hf.symm.trans h4)) hr
    · cases hf.symm.trans h4
      exact k r (by rw [h5]; decide)
  · obtain ⟨g1, g2, g3⟩ := hP.2.2.1 i hi
    refine ⟨⟨g1.1, g1.2.1, g1.2.2.kp (k.sub (by decide))⟩, (fI_y (by decide)).trans g2, fun z => ?_⟩
    have ne : ca 3 i ≠ ca 3 6 := fun z2 => z (h.2.2.2.2.2.2.2.2.1 i 6 hi (Or.inr rfl) (Or.inl z2))
    exact ((SmA.pI ne : SmA w (pI w 6 2 (ca 3 6) v) (ca 3 i)).2.2.1 _ _).trans (g3 z)
/-- where a product more lies -/
def caP (ca : Nat → Nat → Nat) (nP q sl : Nat) : Nat → Nat → Nat := fun a b => if a = 3 then (if b = 6 then q else if b = nP then ca 3 6 else ca 3 b) else if a = 4 then (if b = 6 then sl else if b = nP then ca 4 6 else ca 4 b) else if a = 5 then (if 3 * nP ≤ b ∧ b < 3 * nP + 3 then ca 5 (3 * 6 + (b - 3 * nP)) else ca 5 b) else ca a b
/-- a product more -/
theorem prdR (h : RC0 w de x A F nS nP nF nC tl ho cf cp cs sb pn dn ch ca) (hkn : fI w 6 2 (ca 3 6) = kn) (hadd : AddP w w1 de 21 1023 (ca 9 4) nP (ca 3 6) (ca 3)) (hde : kd w de = 0) (o : Old w1 w2) (hq : kd w1 q = 0) (hsl : kd w1 sl = 0) (q1 : kd w2 q = 6) (q2 : fR w2 6 1 q = some sl) (q3 : fI w2 6 0 q = nI (nP + 1)) (q4 : ∀ el, RLs w2 de 101 1053 sl 0 el) (q5 : fR w2 101 1 sl = some de) (hn : nP < 6) (hD : F 11 = nI (pn 6)) (hcp : ∀ k, k < nC → cp k < nP) :
    RC0 (pR w2 11 7 x (some q)) de x (updA (updA (cpyA A nP 15) 8 nP (F 11)) 9 nP kn) (updF (updF F 11 0) 10 v) nS (nP + 1) nF nC tl ho cf cp cs sb (updN (updN pn nP (pn 6)) 6 0) (fun k => if k = nP then dn 6 else dn k) ch (caP ca nP q sl) := by
  have hP := h.2.2.2.2.1
  have hJ := h.2.2.2.2.2.2.2
  have hA := hadd.sm hP.1 hde
  have a1 : ∀ b, kd w b ≠ 0 → kd w b ≠ 21 → kd w b ≠ 1023 → kd w b ≠ 11 → SmA w (pR w2 11 7 x (some q)) b := fun b hb h1 h2 h3 => by
    have s := hA b hb h1 h2
    exact s.tr ((o b (by rw [s.1]; exact hb)).tr (SmA.pR (fun z => h3 (by rw [z]; exact h.1.1))))
  have k : Kp [1020, 10, 81, 1013, 8, 1002, 9, 1041, 7, 1010, 6, 101, 1053, 5, 41, 1033, 4, 1030, 61, 1043, 3] w (pR w2 11 7 x (some q)) := fun b hb => a1 b (fun z => by rw [z] at hb; exact absurd hb (by decide)) (fun z => by rw [z] at hb; exact absurd hb (by decide)) (fun z => by rw [z] at hb; exact absurd hb (by decide)) (fun z => by rw [z] at hb; exact absurd hb (by decide))
  have sx1 := hA x (by rw [h.1.1]; decide) (by rw [h.1.1]; decide) (by rw [h.1.1]; decide)
  have sx := sx1.tr (o x (by rw [sx1.1, h.1.1]; decide))
  have k2 : Kp [21, 1023] w1 (pR w2 11 7 x (some q)) := fun b hb => by
    have hb0 : kd w1 b ≠ 0 := fun z => by rw [z] at hb; exact absurd hb (by decide)
    refine (o b hb0).tr (SmA.pR (fun z => ?_))
    rw [z, sx1.1, h.1.1] at hb
    exact absurd hb (by decide)
  have k3 : Kp [101, 1053, 6] w2 (pR w2 11 7 x (some q)) := fun b hb => SmA.pR (fun z => by rw [z, sx.1, h.1.1] at hb; exact absurd hb (by decide))
  have eA : ∀ i, i ≠ 7 → i ≠ 8 → i ≠ 9 → (updA (updA (cpyA A nP 15) 8 nP (F 11)) 9 nP kn) i = A i := fun i h1 h2 h3 => by rw [updA_row h3, updA_row h2, cpy_row h1]
  have e7 : ∀ j, (updA (updA (cpyA A nP 15) 8 nP (F 11)) 9 nP kn) 7 j = cpyA A nP 15 7 j := fun j => by rw [updA_ne (Or.inl (by decide)), updA_ne (Or.inl (by decide))]
  have e9n : (updA (updA (cpyA A nP 15) 8 nP (F 11)) 9 nP kn) 9 nP = kn := updA_eq
  have e9o : ∀ j, j ≠ nP → (updA (updA (cpyA A nP 15) 8 nP (F 11)) 9 nP kn) 9 j = A 9 j := fun j hj => by rw [updA_ne (Or.inr hj), updA_ne (Or.inl (by decide)), cpy_row (by decide)]
  have c0 : ∀ a, a ≠ 3 → a ≠ 4 → a ≠ 5 → caP ca nP q sl a = ca a := fun a h3 h4 h5 => funext fun b => (if_neg h3).trans ((if_neg h4).trans (if_neg h5))
  have c36 : caP ca nP q sl 3 6 = q := (if_pos rfl).trans (if_pos rfl)
  have c3n : caP ca nP q sl 3 nP = ca 3 6 := (if_pos rfl).trans ((if_neg (by omega)).trans (if_pos rfl))
  have c3o : ∀ j, j ≠ 6 → j ≠ nP → caP ca nP q sl 3 j = ca 3 j := fun j h1 h2 => (if_pos rfl).trans ((if_neg h1).trans (if_neg h2))
  have c46 : caP ca nP q sl 4 6 = sl := (if_neg (by decide)).trans ((if_pos rfl).trans (if_pos rfl))
  have c4n : caP ca nP q sl 4 nP = ca 4 6 := (if_neg (by decide)).trans ((if_pos rfl).trans ((if_neg (by omega)).trans (if_pos rfl)))
  have c4o : ∀ j, j ≠ 6 → j ≠ nP → caP ca nP q sl 4 j = ca 4 j := fun j h1 h2 => (if_neg (by decide)).trans ((if_pos rfl).trans ((if_neg h1).trans (if_neg h2)))
  have c5n : ∀ j, j < 3 → caP ca nP q sl 5 (3 * nP + j) = ca 5 (3 * 6 + j) := fun j hj => (if_neg (by decide)).trans ((if_neg (by decide)).trans ((if_pos rfl).trans ((if_pos (by omega)).trans (by rw [Nat.add_sub_cancel_left]))))
  have c5o : ∀ j, j < 3 * nP → caP ca nP q sl 5 j = ca 5 j := fun j hj => (if_neg (by decide)).trans ((if_neg (by decide)).trans ((if_pos rfl).trans (if_neg (by omega))))
  have p6 : updN (updN pn nP (pn 6)) 6 0 6 = 0 := if_pos rfl
  have pN : updN (updN pn nP (pn 6)) 6 0 nP = pn 6 := (if_neg (by omega)).trans (if_pos rfl)
  have pO : ∀ i, i ≠ 6 → i ≠ nP → updN (updN pn nP (pn 6)) 6 0 i = pn i := fun i h1 h2 => (if_neg h1).trans (if_neg h2)
  have dN : (fun k => if k = nP then dn 6 else dn k) nP = dn 6 := if_pos rfl
  have dO : ∀ i, i ≠ nP → (fun k => if k = nP then dn 6 else dn k) i = dn i := fun i h1 => if_neg h1
  have uF : ∀ i, i ≠ 11 → i ≠ 10 → updF (updF F 11 0) 10 v i = F i := fun i h1 h2 => (if_neg h2).trans (if_neg h1)
  generalize caP ca nP q sl = ca1 at c0 c36 c3n c3o c46 c4n c4o c5n c5o ⊢
  generalize (updA (updA (cpyA A nP 15) 8 nP (F 11)) 9 nP kn) = A1 at eA e7 e9n e9o ⊢
  generalize updN (updN pn nP (pn 6)) 6 0 = pn1 at p6 pN pO ⊢
  generalize (fun k => if k = nP then dn 6 else dn k) = dn1 at dN dO ⊢
  generalize updF (updF F 11 0) 10 v = F1 at uF ⊢
  have c9 := c0 9 (by decide) (by decide) (by decide)
  have h6 := hP.2.2.1 6 (Or.inr rfl)
  refine ⟨?_, (h.2.1.mv (k.sub (by decide)) (eA 25 (by decide) (by decide) (by decide))).adr c9,
    (h.2.2.1.mv (k.sub (by decide)) (eA 1 (by decide) (by decide) (by decide)) (eA 2 (by decide) (by decide) (by decide)) (eA 26 (by decide) (by decide) (by decide))).adr c9 (c0 0 (by decide) (by decide) (by decide)) (c0 1 (by decide) (by decide) (by decide)) (c0 2 (by decide) (by decide) (by decide)), (h.2.2.2.1.kp (k.sub (by decide))).adr c9, ⟨?_, by omega, fun i hi => ?_, fun i j hi hj hij r hr hf hf2 => ?_⟩,
    (h.2.2.2.2.2.1.mv (k.sub (by decide)) (eA 13 (by decide) (by decide) (by decide)) (eA 14 (by decide) (by decide) (by decide)) (eA 15 (by decide) (by decide) (by decide)) (eA 16 (by decide) (by decide) (by decide)) (eA 18 (by decide) (by decide) (by decide))).adr c9 (fun i hi => by rw [c0 0 (by decide) (by decide) (by decide)]) (c0 6 (by decide) (by decide) (by decide)) (c0 7 (by decide) (by decide) (by decide)),
    (h.2.2.2.2.2.2.1.mv (k.sub (by decide)) (eA 23 (by decide) (by decide) (by decide)) (eA 19 (by decide) (by decide) (by decide))).adr c9 (fun i hi => c3o _ (by have := hcp i hi; omega) (by have := hcp i hi; omega)) (fun i hi => by rw [c0 6 (by decide) (by decide) (by decide)]) (c0 8 (by decide) (by decide) (by decide)), ?_⟩
  · obtain ⟨x1, x2, x3, x4, x5, x6, x7, x8, x9, x10, x11, x12, x13⟩ := h.1
    unfold KX
    rw [c9, c36, uF 0 (by decide) (by decide), uF 20 (by decide) (by decide), uF 21 (by decide) (by decide), uF 22 (by decide) (by decide)]
    have ry : ∀ i, i ≠ 7 → fR (pR w2 11 7 x (some q)) 11 i x = fR w 11 i x := fun i hi => (up3_y hi).trans (sx.2.2.2.1 _ _)
    refine ⟨sx.1.trans x1, (ry 0 (by decide)).trans x2, (ry 1 (by decide)).trans x3, (ry 2 (by decide)).trans x4, (ry 3 (by decide)).trans x5, (ry 4 (by decide)).trans x6, (ry 5 (by decide)).trans x7, (ry 6 (by decide)).trans x8, up3_same, (sx.2.2.1 _ _).trans x10, (sx.2.2.1 _ _).trans x11, (sx.2.2.1 _ _).trans x12, (sx.2.2.1 _ _).trans x13⟩
  · rw [c9]
    refine (hadd.1.kp k2 (by decide) (by decide)).cg (fun i hi => ?_)
    by_cases z : i = nP
    · rw [if_pos z, z, c3n]
    · rw [if_neg z, c3o i (by omega) z]
  · by_cases z : i = 6
    · subst z
      rw [c36, c46, p6]
      have s := k3 q (by rw [q1]; decide)
      exact ⟨⟨s.1.trans q1, (s.2.2.2.1 _ _).trans q2, (q4 _).kp k3 (by decide) (by decide), by omega, fun j hj => absurd hj (by omega)⟩, (s.2.2.1 _ _).trans q3, fun z => absurd rfl z⟩
    · by_cases z2 : i = nP
      · subst z2
        rw [c3n, c4n, pN, dN, if_neg (by omega), e9n]
        have s := k (ca 3 6) (by rw [h6.1.1]; decide)
        have hp3 := h6.1.2.2.2.1
        refine ⟨⟨s.1.trans h6.1.1, (s.2.2.2.1 _ _).trans h6.1.2.1, (h6.1.2.2.kp (k.sub (by decide))).cg (fun j hj => ⟨c5n j (by omega), rfl, ?_, ?_, ?_, ?_⟩)⟩, (s.2.2.1 _ _).trans h6.2.1, fun _ => (s.2.2.1 _ _).trans hkn⟩
        · show A1 7 (5 * (3 * i + j) + 1) = A 7 (5 * (3 * 6 + j) + 1)
          rw [e7, show 5 * (3 * i + j) + 1 = 15 * i + (5 * j + 1) by omega, cpy_hi (by omega) (by omega) (by omega), show 90 + (5 * j + 1) = 5 * (3 * 6 + j) + 1 by omega]
        · show A1 7 (5 * (3 * i + j) + 2) = A 7 (5 * (3 * 6 + j) + 2)
          rw [e7, show 5 * (3 * i + j) + 2 = 15 * i + (5 * j + 2) by omega, cpy_hi (by omega) (by omega) (by omega), show 90 + (5 * j + 2) = 5 * (3 * 6 + j) + 2 by omega]
        · show A1 7 (5 * (3 * i + j) + 3) = A 7 (5 * (3 * 6 + j) + 3)
          rw [e7, show 5 * (3 * i + j) + 3 = 15 * i + (5 * j + 3) by omega, cpy_hi (by omega) (by omega) (by omega), show 90 + (5 * j + 3) = 5 * (3 * 6 + j) + 3 by omega]
        · show A1 7 (5 * (3 * i + j) + 4) = A 7 (5 * (3 * 6 + j) + 4)
          rw [e7, show 5 * (3 * i + j) + 4 = 15 * i + (5 * j + 4) by omega, cpy_hi (by omega) (by omega) (by omega), show 90 + (5 * j + 4) = 5 * (3 * 6 + j) + 4 by omega]
      · have hi2 : i < nP := by omega
        obtain ⟨g1, g2, g3⟩ := hP.2.2.1 i (Or.inl hi2)
        rw [c3o i z z2, c4o i z z2, pO i z z2, dO i z2, if_neg z, e9o i z2]
        have s := k (ca 3 i) (by rw [g1.1]; decide)
        have hp3 := g1.2.2.2.1
        refine ⟨⟨s.1.trans g1.1, (s.2.2.2.1 _ _).trans g1.2.1, (g1.2.2.kp (k.sub (by decide))).cg (fun j hj => ⟨c5o _ (by omega), rfl, ?_, ?_, ?_, ?_⟩)⟩, (s.2.2.1 _ _).trans (g2.trans (by rw [if_neg z])), fun z => (s.2.2.1 _ _).trans (g3 z)⟩
        · show A1 7 (5 * (3 * i + j) + 1) = A 7 (5 * (3 * i + j) + 1)
          rw [e7, cpy_lo (Or.inl (by omega))]
        · show A1 7 (5 * (3 * i + j) + 2) = A 7 (5 * (3 * i + j) + 2)
          rw [e7, cpy_lo (Or.inl (by omega))]
        · show A1 7 (5 * (3 * i + j) + 3) = A 7 (5 * (3 * i + j) + 3)
          rw [e7, cpy_lo (Or.inl (by omega))]
        · show A1 7 (5 * (3 * i + j) + 4) = A 7 (5 * (3 * i + j) + 4)
          rw [e7, cpy_lo (Or.inl (by omega))]
  · have z6 : fR (pR w2 11 7 x (some q)) 101 1 sl = some de := by
      exact ((k3 sl (by rw [(q4 (fun j => j)).1]; decide)).2.2.2.1 _ _).trans q5
    by_cases zi : i = 6
    · rw [zi, c46, z6] at hf
      exact hr (Option.some.inj hf).symm
    · by_cases zj : j = 6
      · rw [zj, c46, z6] at hf2
        exact hr (Option.some.inj hf2).symm
      · -- the old ones
        obtain ⟨i0, hi0, ei, ii⟩ : ∃ i0, (i0 < nP ∨ i0 = 6) ∧ ca1 4 i = ca 4 i0 ∧ (i = nP ∧ i0 = 6 ∨ i ≠ nP ∧ i0 = i) := by
          by_cases y : i = nP
          · exact ⟨6, Or.inr rfl, by rw [y, c4n], Or.inl ⟨y, rfl⟩⟩
          · exact ⟨i, Or.inl (by omega), c4o i zi y, Or.inr ⟨y, rfl⟩⟩
        obtain ⟨j0, hj0, ej, jj⟩ : ∃ j0, (j0 < nP ∨ j0 = 6) ∧ ca1 4 j = ca 4 j0 ∧ (j = nP ∧ j0 = 6 ∨ j ≠ nP ∧ j0 = j) := by
          by_cases y : j = nP
          · exact ⟨6, Or.inr rfl, by rw [y, c4n], Or.inl ⟨y, rfl⟩⟩
          · exact ⟨j, Or.inl (by omega), c4o j zj y, Or.inr ⟨y, rfl⟩⟩
        rw [ei] at hf
        rw [ej] at hf2
        have s1 := k (ca 4 i0) (by rw [(hP.2.2.1 i0 hi0).1.2.2.1.1]; decide)
        have s2 := k (ca 4 j0) (by rw [(hP.2.2.1 j0 hj0).1.2.2.1.1]; decide)
        exact hP.2.2.2 i0 j0 hi0 hj0 (by omega) r hr ((s1.2.2.2.1 _ _).symm.trans hf) ((s2.2.2.2.1 _ _).symm.trans hf2)
  · have t3 : ∀ i, (i < nP ∨ i = 6) → ca 3 i ≠ q := fun i hi z => by
      have g := (hP.2.2.1 i hi).1.1
      have s := hA (ca 3 i) (by rw [g]; decide) (by rw [g]; decide) (by rw [g]; decide)
      have s1 := s.1
      rw [g, z, hq] at s1
      exact absurd s1 (by decide)
    have t4 : ∀ i, (i < nP ∨ i = 6) → ca 4 i ≠ sl := fun i hi z => by
      have g := (hP.2.2.1 i hi).1.2.2.1.1
      have s := hA (ca 4 i) (by rw [g]; decide) (by rw [g]; decide) (by rw [g]; decide)
      have s1 := s.1
      rw [g, z, hsl] at s1
      exact absurd s1 (by decide)
    unfold KJ at hJ ⊢
    rw [c0 0 (by decide) (by decide) (by decide), c0 1 (by decide) (by decide) (by decide), c0 2 (by decide) (by decide) (by decide), c0 6 (by decide) (by decide) (by decide), c0 7 (by decide) (by decide) (by decide), c0 8 (by decide) (by decide) (by decide)]
    refine ⟨hJ.1, fun i j hi hj z => ?_, hJ.2.2⟩
    have old : ∀ i, (i < nP + 1 ∨ i = 6) → i ≠ 6 → ∃ i0, (i0 < nP ∨ i0 = 6) ∧ ca1 3 i = ca 3 i0 ∧ ca1 4 i = ca 4 i0 ∧ (i = nP ∧ i0 = 6 ∨ i ≠ nP ∧ i0 = i) := fun i hi zi => by
      by_cases y : i = nP
      · exact ⟨6, Or.inr rfl, by rw [y, c3n], by rw [y, c4n], Or.inl ⟨y, rfl⟩⟩
      · exact ⟨i, Or.inl (by omega), c3o i zi y, c4o i zi y, Or.inr ⟨y, rfl⟩⟩
    by_cases zi : i = 6
    · by_cases zj : j = 6
      · rw [zi, zj]
      · obtain ⟨j0, hj0, y3, y4, -⟩ := old j hj zj
        rw [zi, c36, c46, y3, y4] at z
        exact z.elim (fun z => absurd z.symm (t3 j0 hj0)) (fun z => absurd z.symm (t4 j0 hj0))
    · obtain ⟨i0, hi0, x3, x4, xx⟩ := old i hi zi
      by_cases zj : j = 6
      · rw [zj, c36, c46, x3, x4] at z
        exact z.elim (fun z => absurd z (t3 i0 hi0)) (fun z => absurd z (t4 i0 hi0))
      · obtain ⟨j0, hj0, y3, y4, yy⟩ := old j hj zj
        rw [x3, x4, y3, y4] at z
        have := hJ.2.1 i0 j0 hi0 hj0 z
        omega
end
theorem fR_y {w : Wd} {K k a K' k' a' : Nat} {v : Option Nat} (h : k' ≠ k) : fR (pR w K k a v) K' k' a' = fR w K' k' a' := up3_y h
theorem caP_o {ca : Nat → Nat → Nat} {nP q sl a : Nat} (h3 : a ≠ 3) (h4 : a ≠ 4) (h5 : a ≠ 5) : caP ca nP q sl a = ca a := funext fun b => (if_neg h3).trans ((if_neg h4).trans (if_neg h5))
theorem dpos {n : Nat} (hn : n < 100000) : (decide (nI n = 0) = false → decide (0 < nI n) = true) ∧ (decide (nI n = 0) = true → decide (0 < nI n) = false) := by
  refine ⟨fun h => decide_eq_true ?_, fun h => ?_⟩
  · have : n ≠ 0 := fun z => of_decide_eq_false h (by rw [z]; rfl)
    exact nI_lt (a := 0) (by omega) (by omega)
  · rw [of_decide_eq_true h]
    rfl
theorem dX9_product_0 : decode cX9_product 0 = .ok (.iload_n 1, 1) := by decide +kernel
theorem dX9_product_1 : decode cX9_product 1 = .ok (.invokestatic 138, 3) := by decide +kernel
theorem dX9_product_4 : decode cX9_product 4 = .ok (.aload_n 0, 1) := by decide +kernel
theorem dX9_product_5 : decode cX9_product 5 = .ok (.getfield 52, 3) := by decide +kernel
theorem dX9_product_8 : decode cX9_product 8 = .ok (.getfield 128, 3) := by decide +kernel
theorem dX9_product_11 : decode cX9_product 11 = .ok (.invokevirtual 141, 3) := by decide +kernel
theorem dX9_product_14 : decode cX9_product 14 = .ok (.ifCond .ne 15, 3) := by decide +kernel
theorem dX9_product_17 : decode cX9_product 17 = .ok (.aload_n 0, 1) := by decide +kernel
theorem dX9_product_18 : decode cX9_product 18 = .ok (.getfield 26, 3) := by decide +kernel
theorem dX9_product_21 : decode cX9_product 21 = .ok (.invokevirtual 82, 3) := by decide +kernel
theorem dX9_product_24 : decode cX9_product 24 = .ok (.bipush 6, 2) := by decide +kernel
theorem dX9_product_26 : decode cX9_product 26 = .ok (.if_icmp .lt 13, 3) := by decide +kernel
theorem dX9_product_29 : decode cX9_product 29 = .ok (.new 89, 3) := by decide +kernel
theorem dX9_product_32 : decode cX9_product 32 = .ok (.dup, 1) := by decide +kernel
theorem dX9_product_33 : decode cX9_product 33 = .ok (.ldc 145, 2) := by decide +kernel
theorem dX9_product_35 : decode cX9_product 35 = .ok (.invokespecial 93, 3) := by decide +kernel
theorem dX9_product_38 : decode cX9_product 38 = .ok (.athrow, 1) := by decide +kernel
theorem dX9_product_39 : decode cX9_product 39 = .ok (.aload_n 0, 1) := by decide +kernel
theorem dX9_product_40 : decode cX9_product 40 = .ok (.getfield 52, 3) := by decide +kernel
theorem dX9_product_43 : decode cX9_product 43 = .ok (.iload_n 1, 1) := by decide +kernel
theorem dX9_product_44 : decode cX9_product 44 = .ok (.putfield 147, 3) := by decide +kernel
theorem dX9_product_47 : decode cX9_product 47 = .ok (.aload_n 0, 1) := by decide +kernel
theorem dX9_product_48 : decode cX9_product 48 = .ok (.getfield 26, 3) := by decide +kernel
theorem dX9_product_51 : decode cX9_product 51 = .ok (.aload_n 0, 1) := by decide +kernel
theorem dX9_product_52 : decode cX9_product 52 = .ok (.getfield 52, 3) := by decide +kernel
theorem dX9_product_55 : decode cX9_product 55 = .ok (.invokevirtual 101, 3) := by decide +kernel
theorem dX9_product_58 : decode cX9_product 58 = .ok (.pop, 1) := by decide +kernel
theorem dX9_product_59 : decode cX9_product 59 = .ok (.aload_n 0, 1) := by decide +kernel
theorem dX9_product_60 : decode cX9_product 60 = .ok (.new 47, 3) := by decide +kernel
theorem dX9_product_63 : decode cX9_product 63 = .ok (.dup, 1) := by decide +kernel
theorem dX9_product_64 : decode cX9_product 64 = .ok (.aload_n 0, 1) := by decide +kernel
theorem dX9_product_65 : decode cX9_product 65 = .ok (.getfield 26, 3) := by decide +kernel
theorem dX9_product_68 : decode cX9_product 68 = .ok (.invokevirtual 82, 3) := by decide +kernel
theorem dX9_product_71 : decode cX9_product 71 = .ok (.invokespecial 49, 3) := by decide +kernel
theorem dX9_product_74 : decode cX9_product 74 = .ok (.putfield 52, 3) := by decide +kernel
theorem dX9_product_77 : decode cX9_product 77 = .ok (.aload_n 0, 1) := by decide +kernel
theorem dX9_product_78 : decode cX9_product 78 = .ok (.getfield 26, 3) := by decide +kernel
theorem dX9_product_81 : decode cX9_product 81 = .ok (.invokevirtual 82, 3) := by decide +kernel
theorem dX9_product_84 : decode cX9_product 84 = .ok (.iconst 1, 1) := by decide +kernel
theorem dX9_product_85 : decode cX9_product 85 = .ok (.isub, 1) := by decide +kernel
theorem dX9_product_86 : decode cX9_product 86 = .ok (.ireturn, 1) := by decide +kernel
set_option maxHeartbeats 1000000 in
set_option maxRecDepth 100000 in
theorem c_X9_product (de : Nat) (w : Wd) (x : Nat) (A : Nat → Nat → Int32) (F : Nat → Int32) (nS nP nF nC tl : Nat) (ho cf cp cs sb pn : Nat → Nat) (dn : Nat → Nat → Nat) (ch : Nat → Nat → List (Nat × Int32)) (ca : Nat → Nat → Nat) (h : RC0 w de x A F nS nP nF nC tl ho cf cp cs sb pn dn ch ca) (hB : KB w nC A F ca) (T rt ly : Nat) (sN : Nat → Nat) (hv : PV A F nS nP nF nC tl ho cf cp cs sb pn dn ch T rt ly sN) (kn : Int32) (hD9 : pn 6 ≤ 3) : Cw yX9_product cX9_product 2 (some .int) 7 171 8 1450 de [.ref x, .int kn] w (fun r w' => goV (bI (inR kn 0 1)) (bI (decide (0 < F 11) && decide (F 10 < 6))) 1 = 0 ∧ r = some (.int (nI nP)) ∧ ∃ (ca' : Nat → Nat → Nat), RC0 w' de x (updA (updA (cpyA A nP 15) 8 nP (F 11)) 9 nP kn) (updF (updF F 11 0) 10 (nI nP + 1)) nS (nP + 1) nF nC tl ho cf cp cs sb (updN (updN pn nP (pn 6)) 6 0) (fun k => if k = nP then dn 6 else dn k) ch ca' ∧ KB w' nC (updA (updA (cpyA A nP 15) 8 nP (F 11)) 9 nP kn) (updF (updF F 11 0) 10 (nI nP + 1)) ca' ∧ FrR w w') (fun E w' => w = w' ∧ ((E = "java/lang/IllegalArgumentException" ∧ goV (bI (inR kn 0 1)) (bI (decide (0 < F 11) && decide (F 10 < 6))) 1 = 1) ∨ (E = "java/lang/IllegalStateException" ∧ goV (bI (inR kn 0 1)) (bI (decide (0 < F 11) && decide (F 10 < 6))) 1 = 2))) := by
  refine Cw.mk (by decide +kernel) [(0, .ref x), (1, .int kn)] rfl (Nat.le_of_ble_eq_true rfl) ?_
  intro p l e R s m args below meth c D cy z C ht
  obtain ⟨h60, h16, h5, hcv, hho⟩ := id hv.hcv
  have hfr : FrR w w := FrR.rf
  have hbk : Kp [2] w w := Kp.rf
  have hnS : nS < 100000 := by omega
  have hnP : nP < 100000 := by have := hv.hP6; omega
  have hnF : nF < 100000 := by omega
  have hnC : nC < 100000 := by omega
  refine g_iload_n C dX9_product_0 rfl ?_
  refine gx_callS C mt_X9_testKnown [.int kn] (c_X9_testKnown de w kn) k_497 rfl rfl (Nat.le_of_ble_eq_true rfl) (by decide) (by decide) (by decide) (by decide) dX9_product_1 (fun E9 w9 hx9 => gx_out C ht (by decide) (by decide) ⟨hx9.2.1, Or.inl ⟨hx9.1, goV_1 (in01f hx9.2.2)⟩⟩) (fun r_1 w_1 hp_1 => ?_)
  obtain ⟨rfl, rfl, f_1⟩ := hp_1
  replace f_1 := in01.mpr f_1
  refine g_aload_n C dX9_product_4 rfl ?_
  refine g_getR (b := (ca 3 6)) C cls_10 11 7 (by first | exact hxW | exact hxik | exact hxn | exact hxk | exact h.1.1) h.1.2.2.2.2.2.2.2.2.1 rfl k_143 dX9_product_5 ?_
  refine g_getR (b := (ca 4 6)) C cls_5 6 1 (h.2.2.2.2.1.2.2.1 6 (Or.inr rfl)).1.1 (h.2.2.2.2.1.2.2.1 6 (Or.inr rfl)).1.2.1 rfl k_123 dX9_product_8 ?_
  refine g_callV C cls_0 101 mt_Jx4a65c_isEmpty_aae02 [] (c_Jx4a65c_isEmpty_aae02 de w 101 1053 KL_ph (ca 4 6) (h.2.2.2.2.1.2.2.1 6 (Or.inr rfl)).1.2.2.1.1) (h.2.2.2.2.1.2.2.1 6 (Or.inr rfl)).1.2.2.1.1 (by decide) k_501 rfl rfl (Nat.le_of_ble_eq_true rfl) (by decide) (by decide) (by decide) (by decide) dX9_product_11 (fun r_11 w_11 hp_11 => ?_)
  obtain ⟨rfl, rfl⟩ := hp_11
  rw [(h.2.2.2.2.1.2.2.1 6 (Or.inr rfl)).1.2.2.1.2.1]
  refine g_if_ne C 29 dX9_product_14 (by decide) (fun c_14 => ?_) (fun c_14 => ?_)
  · have b_14 := bI_n0.mp c_14
    exact gx_throw C ht th_X9_93 k_264 k_15 (is := 145) (text := "the product has no phase, or there are 6") (by decide) dX9_product_29 dX9_product_32 dX9_product_33 dX9_product_35 dX9_product_38 (by decide) (Nat.le_of_ble_eq_true rfl) (by decide) (by decide) (by first | exact ⟨rfl, Or.inr (⟨rfl, goV_2 f_1 (and_f1 (by rw [hv.hD]; exact (dpos (by omega)).2 b_14))⟩)⟩ | exact ⟨rfl, Or.inr (⟨rfl, goV_2 f_1 (and_f2 (by rw [hv.hP]; exact b_26.2))⟩)⟩)
  · have b_14 := bI_0.mp c_14
    refine g_aload_n C dX9_product_17 rfl ?_
    refine g_getR (b := (ca 9 4)) C cls_10 11 2 (by first | exact hxW | exact hxik | exact hxn | exact hxk | exact h.1.1) h.1.2.2.2.1 rfl k_138 dX9_product_18 ?_
    refine g_callV C cls_0 21 mt_Jx4a65c_size_8abf5 [] (c_sz de w 21 1023 KL_pr (ca 9 4) nP (ca 3) h.2.2.2.2.1.1) h.2.2.2.2.1.1.1 (by decide) k_260 rfl rfl (Nat.le_of_ble_eq_true rfl) (by decide) (by decide) (by decide) (by decide) dX9_product_21 (fun r_21 w_21 hp_21 => ?_)
    obtain ⟨rfl, rfl⟩ := hp_21
    refine g_bipush C 6 dX9_product_24 (by rfl) ?_
    refine g_icmp_lt C 39 dX9_product_26 (by decide) (fun c_26 => ?_) (fun c_26 => ?_)
    · have b_26 := And.intro (decide_eq_false (Int32.not_le.mpr c_26)) (decide_eq_true c_26)
      refine g_aload_n C dX9_product_39 rfl ?_
      refine g_getR (b := (ca 3 6)) C cls_10 11 7 (by first | exact hxW | exact hxik | exact hxn | exact hxk | exact h.1.1) h.1.2.2.2.2.2.2.2.2.1 rfl k_143 dX9_product_40 ?_
      refine g_iload_n C dX9_product_43 rfl ?_
      refine g_putI C cls_5 6 2 (h.2.2.2.2.1.2.2.1 6 (Or.inr rfl)).1.1 rfl (Or.inl rfl) rfl rfl k_125 dX9_product_44 ?_
      have hkn : fI (pI w 6 2 (ca 3 6) kn) 6 2 (ca 3 6) = kn := fI_pI
      replace hfr := hfr.tr (FrR.pI (h.2.2.2.2.1.2.2.1 6 (Or.inr rfl)).1.1 (by decide) : FrR _ (pI w 6 2 (ca 3 6) kn))
      replace hbk := hbk.tr (Kp.pI (h.2.2.2.2.1.2.2.1 6 (Or.inr rfl)).1.1 (by decide) : Kp [2] _ (pI w 6 2 (ca 3 6) kn))
      replace h := h.known kn
      generalize pI w 6 2 (ca 3 6) kn = w1 at h hfr hbk hkn ⊢
      refine g_aload_n C dX9_product_47 rfl ?_
      refine g_getR (b := (ca 9 4)) C cls_10 11 2 (by first | exact hxW | exact hxik | exact hxn | exact hxk | exact h.1.1) h.1.2.2.2.1 rfl k_138 dX9_product_48 ?_
      refine g_aload_n C dX9_product_51 rfl ?_
      refine g_getR (b := (ca 3 6)) C cls_10 11 7 (by first | exact hxW | exact hxik | exact hxn | exact hxk | exact h.1.1) h.1.2.2.2.2.2.2.2.2.1 rfl k_143 dX9_product_52 ?_
      refine g_de C (fun hde2 => ?_)
      refine g_callV C cls_0 21 mt_Jx4a65c_add_9ea2d [.ref (ca 3 6)] (c_Jx4a65c_add_9ea2d de w1 21 1023 KL_pr cls_5 ca_Product 6 (by decide) (ca 9 4) nP (ca 3 6) (ca 3) h.2.2.2.2.1.1 (by have := hv.hP6; omega) (h.2.2.2.2.1.2.2.1 6 (Or.inr rfl)).1.1 (fun i hi => (h.2.2.2.2.1.2.2.1 i (Or.inl hi)).1.1)) h.2.2.2.2.1.1.1 (by decide) k_309 rfl rfl (Nat.le_of_ble_eq_true rfl) (by decide) (by decide) (by decide) (by decide) dX9_product_55 (fun r_55 w_55 hp_55 => ?_)
      obtain ⟨rfl, hadd⟩ := hp_55
      have hA := hadd.sm h.2.2.2.2.1.1 hde2
      have hx5 := hA x (by rw [h.1.1]; decide) (by rw [h.1.1]; decide) (by rw [h.1.1]; decide)
      have hxk : kd w_55 x = 11 := hx5.1.trans h.1.1
      have hx2 : fR w_55 11 2 x = some (ca 9 4) := (hx5.2.2.2.1 _ _).trans h.1.2.2.2.1
      have hL := hadd.1
      replace hfr := hfr.tr (FrR.add hA (by decide))
      replace hbk := hbk.tr (Kp.add (S := [2]) hA (by decide))
      refine g_pop C dX9_product_58 rfl ?_
      refine g_aload_n C dX9_product_59 rfl ?_
      refine g_new C cls_5 dv_5 6 rfl k_112 k_113 k_8 (by decide) (by decide) dX9_product_60 (fun q hq => ?_)
      intro hde
      have hkq : kd (nw w_55 q 6 0) q = 6 := nw_kd0
      have hxq : x ≠ q := ne_kd hxk hq (by decide)
      have hxn : kd (nw w_55 q 6 0) x = 11 := (nw_kd hxq).trans hxk
      have hx2n : fR (nw w_55 q 6 0) 11 2 x = some (ca 9 4) := (fR_nw hxq).trans hx2
      have hLn := hL.kp ((Old.n1 hq : Old w_55 (nw w_55 q 6 0)).kp (S := [21, 1023]) (by decide)) (by decide) (by decide)
      refine g_dup C dX9_product_63 rfl ?_
      refine g_aload_n C dX9_product_64 rfl ?_
      refine g_getR (b := (ca 9 4)) C cls_10 11 2 (by first | exact hxW | exact hxik | exact hxn | exact hxk | exact h.1.1) hx2n rfl k_138 dX9_product_65 ?_
      refine g_callV C cls_0 21 mt_Jx4a65c_size_8abf5 [] (c_sz de _ 21 1023 KL_pr (ca 9 4) (nP + 1) _ hLn) hLn.1 (by decide) k_260 rfl rfl (Nat.le_of_ble_eq_true rfl) (by decide) (by decide) (by decide) (by decide) dX9_product_68 (fun r_68 w_68 hp_68 => ?_)
      obtain ⟨rfl, rfl⟩ := hp_68
      refine g_callI C mt_X4_init [.int (nI (nP + 1))] (c_X4_init de _ q (nI (nP + 1)) hkq) k_114 rfl rfl (Nat.le_of_ble_eq_true rfl) (by decide) (by decide) (by decide) (by decide) dX9_product_71 (fun r_71 w_71 hp_71 => ?_)
      obtain ⟨rfl, sl, hsl, hslde, f1, q1, q2, qk, q3, q4, q5⟩ := hp_71
      have hslq : sl ≠ q := fun z => by rw [z, hkq] at hsl; exact absurd hsl (by decide)
      replace hsl : kd w_55 sl = 0 := (nw_kd hslq).symm.trans hsl
      have o2 : Old w_55 w_71 := Old.mk2 hq f1
      have hxi := o2 x (by rw [hxk]; decide)
      have hxik : kd w_71 x = 11 := hxi.1.trans hxk
      have hn6 : nP < 6 := nI_lt_of (b := 6) (of_decide_eq_true b_26.2) (by omega) (by omega)
      have hR := prdR h hkn hadd hde2 o2 hq hsl q1 q2 q3 q4 q5 hn6 hv.hD (fun k hk => (hv.hco k hk).2.1) (v := nI nP + 1)
      replace hfr := hfr.tr (o2.fr.tr (FrR.pR hxik (by decide) : FrR w_71 (pR w_71 11 7 x (some q))))
      replace hbk := hbk.tr ((o2.kp (S := [2]) (by decide)).tr (Kp.pR hxik (by decide) : Kp [2] w_71 (pR w_71 11 7 x (some q))))
      refine g_putR C cls_10 11 7 (some q) rfl (by first | exact hxW | exact hxik | exact hxn | exact hxk | exact h.1.1) rfl (Or.inl rfl) rfl rfl k_143 dX9_product_74 ?_
      have hxW : kd (pR w_71 11 7 x (some q)) x = 11 := hxik
      have hx2W : fR (pR w_71 11 7 x (some q)) 11 2 x = some (ca 9 4) := (fR_y (by decide)).trans ((hxi.2.2.2.1 _ _).trans hx2)
      have hLW := (hL.kp (o2.kp (S := [21, 1023]) (by decide)) (by decide) (by decide)).kp (Kp.pR hxik (by decide) : Kp [21, 1023] w_71 (pR w_71 11 7 x (some q))) (by decide) (by decide)
      refine g_aload_n C dX9_product_77 rfl ?_
      refine g_getR (b := (ca 9 4)) C cls_10 11 2 (by first | exact hxW | exact hxik | exact hxn | exact hxk | exact h.1.1) hx2W rfl k_138 dX9_product_78 ?_
      refine g_callV C cls_0 21 mt_Jx4a65c_size_8abf5 [] (c_sz de _ 21 1023 KL_pr (ca 9 4) (nP + 1) _ hLW) hLW.1 (by decide) k_260 rfl rfl (Nat.le_of_ble_eq_true rfl) (by decide) (by decide) (by decide) (by decide) dX9_product_81 (fun r_81 w_81 hp_81 => ?_)
      obtain ⟨rfl, rfl⟩ := hp_81
      refine g_iconst C 1 dX9_product_84 (by rfl) ?_
      refine g_isub C dX9_product_85 ?_
      refine gx_ret <| g_iret C rfl rfl (by decide) (by decide) dX9_product_86 ?_
      exact ⟨goV_000 f_1 (and_t (by rw [hv.hD]; exact (dpos (by omega)).1 b_14) (by rw [hv.hP]; exact b_26.2)), congrArg (fun v => some (Value.int v)) (by rw [← nI_1, a11]), _, hR, (hB.mv hbk (by rw [updA_row (by decide), updA_row (by decide), cpy_row (by decide)]) ((if_neg (by decide)).trans (if_neg (by decide)))).adr (caP_o (by decide) (by decide) (by decide)), hfr⟩
    · have b_26 := And.intro (decide_eq_true (Int32.not_lt.mp c_26)) (decide_eq_false c_26)
      exact gx_throw C ht th_X9_93 k_264 k_15 (is := 145) (text := "the product has no phase, or there are 6") (by decide) dX9_product_29 dX9_product_32 dX9_product_33 dX9_product_35 dX9_product_38 (by decide) (Nat.le_of_ble_eq_true rfl) (by decide) (by decide) (by first | exact ⟨rfl, Or.inr (⟨rfl, goV_2 f_1 (and_f1 (by rw [hv.hD]; exact (dpos (by omega)).2 b_14))⟩)⟩ | exact ⟨rfl, Or.inr (⟨rfl, goV_2 f_1 (and_f2 (by rw [hv.hP]; exact b_26.2))⟩)⟩)
end NEW48
