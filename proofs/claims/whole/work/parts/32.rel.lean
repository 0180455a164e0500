section REL32
/-- the cells of kinds S are as they were -/
def Kp (S : List Nat) (w w' : Wd) : Prop := ∀ b, kd w b ∈ S → SmA w w' b
section
variable {w w1 w2 : Wd} {S : List Nat} {K K0 k a j q n : Nat}
theorem Kp.rf : Kp S w w := fun _ _ => SmA.rf
theorem Kp.tr (h1 : Kp S w w1) (h2 : Kp S w1 w2) : Kp S w w2 := fun b hb => (h1 b hb).tr (h2 b (by rw [(h1 b hb).1]; exact hb))
theorem Kp.ne (hk : kd w a = K0) (h : K0 ∉ S) {b : Nat} (hb : kd w b ∈ S) : b ≠ a := fun z => h (by rw [← hk, ← z]; exact hb)
theorem Kp.pI {v : Int32} (hk : kd w a = K0) (h : K0 ∉ S) : Kp S w (pI w K k a v) := fun _ hb => SmA.pI (Kp.ne hk h hb)
theorem Kp.pR {v : Option Nat} (hk : kd w a = K0) (h : K0 ∉ S) : Kp S w (pR w K k a v) := fun _ hb => SmA.pR (Kp.ne hk h hb)
theorem Kp.pAI {v : Int32} (hk : kd w a = K0) (h : K0 ∉ S) : Kp S w (pAI w K a j v) := fun _ hb => SmA.pAI (Kp.ne hk h hb)
theorem Kp.pAR {v : Option Nat} (hk : kd w a = K0) (h : K0 ∉ S) : Kp S w (pAR w K a j v) := fun _ hb => SmA.pAR (Kp.ne hk h hb)
theorem Kp.stR {g : Nat → Int32} (hk : kd w a = K0) (h : K0 ∉ S) : Kp S w (stR w K a g) := fun _ hb => SmA.stR (Kp.ne hk h hb)
theorem Kp.nw (hq : kd w q = 0) (h : 0 ∉ S) : Kp S w (nw w q K n) := fun _ hb => SmA.nw (Kp.ne hq h hb)
theorem Kp.sub {T : List Nat} (h : Kp S w w1) (hs : ∀ K ∈ T, K ∈ S) : Kp T w w1 := fun b hb => h b (hs _ hb)
theorem RLs.kp {de Kl Ke : Nat} {el : Nat → Nat} (h : RLs w de Kl Ke a n el) (k : Kp S w w1) (h1 : Kl ∈ S) (h2 : Ke ∈ S) : RLs w1 de Kl Ke a n el := by
  refine h.keep (k a (by rw [h.1]; exact h1)) (fun r hr hf => ?_)
  rcases h.2.2.2 with ⟨-, h4⟩ | ⟨ar, h4, -, h5, -⟩
  · exact absurd (Option.some.inj (hf.symm.trans h4)) hr
  · cases hf.symm.trans h4
    exact k r (by rw [h5]; exact h2)
end
theorem updA_row {A : Nat → Nat → Int32} {k j k' : Nat} {v : Int32} (h : k' ≠ k) : updA A k j v k' = A k' := funext fun _ => if_neg (fun z => h z.1)
/-! the class's own: x the RainIndex, ca the addresses: 0 stations, 1 their rows of tellings, 2 their marks, 3 products (6: the draft), 4 their lists, 5 phases, 6 farms, 7 their losses, 8 covers,
9: weather, view, its row, stations' list, products' list, farms' list, covers' list, books, settledOn -/
def KX (w : Wd) (x : Nat) (F : Nat → Int32) (ca : Nat → Nat → Nat) : Prop := kd w x = 11 ∧ fR w 11 0 x = some (ca 9 0) ∧ fR w 11 1 x = some (ca 9 1) ∧ fR w 11 2 x = some (ca 9 4) ∧ fR w 11 3 x = some (ca 9 5) ∧ fR w 11 4 x = some (ca 9 6) ∧ fR w 11 5 x = some (ca 9 7) ∧ fR w 11 6 x = some (ca 9 8) ∧ fR w 11 7 x = some (ca 3 6) ∧
  fI w 11 8 x = F 0 ∧ fI w 11 9 x = F 20 ∧ fI w 11 10 x = F 21 ∧ fI w 11 11 x = F 22
def KO (w : Wd) (A : Nat → Nat → Int32) (ca : Nat → Nat → Nat) : Prop := kd w (ca 9 8) = 1020 ∧ aL w (ca 9 8) = 20 ∧ ∀ j, j < 20 → aI w 1020 (ca 9 8) j = A 25 j - 1
def KW (w : Wd) (de nS tl : Nat) (A : Nat → Nat → Int32) (ch : Nat → Nat → List (Nat × Int32)) (ca : Nat → Nat → Nat) : Prop := WS9 w de (ca 9 0) (ca 9 3) nS (ca 0) (ca 1) (A 1) (A 2) ch ∧ fI w 10 1 (ca 9 0) = nI tl ∧
  ∀ k, k < nS → fR w 8 4 (ca 0 k) = some (ca 2 k) ∧ kd w (ca 2 k) = 1041 ∧ aL w (ca 2 k) = 20 ∧ ∀ j, j < 20 → aI w 1041 (ca 2 k) j = A 26 (20 * k + j)
def KP (w : Wd) (de nP : Nat) (A : Nat → Nat → Int32) (pn : Nat → Nat) (dn : Nat → Nat → Nat) (ca : Nat → Nat → Nat) : Prop := RLs w de 21 1023 (ca 9 4) nP (ca 3) ∧ nP ≤ 6 ∧
  (∀ k, (k < nP ∨ k = 6) → PD9 w de (ca 3 k) (ca 4 k) (pn k) (fun j => ca 5 (3 * k + j)) (dn k) (phA A k 1) (phA A k 2) (phA A k 3) (phA A k 4) ∧ fI w 6 0 (ca 3 k) = nI (if k = 6 then nP else k) ∧ (k ≠ 6 → fI w 6 2 (ca 3 k) = A 9 k)) ∧
  ∀ i j, (i < nP ∨ i = 6) → (j < nP ∨ j = 6) → i ≠ j → ∀ r, r ≠ de → fR w 101 1 (ca 4 i) = some r → fR w 101 1 (ca 4 j) ≠ some r
def KF (w : Wd) (de nF : Nat) (A : Nat → Nat → Int32) (ho : Nat → Nat) (ca : Nat → Nat → Nat) : Prop := RLs w de 41 1033 (ca 9 5) nF (ca 6) ∧
  ∀ k, k < nF → kd w (ca 6 k) = 4 ∧ fI w 4 0 (ca 6 k) = nI k ∧ fR w 4 1 (ca 6 k) = some (ca 0 (ho k)) ∧ fR w 4 2 (ca 6 k) = some (ca 7 k) ∧ kd w (ca 7 k) = 1030 ∧ aL w (ca 7 k) = 20 ∧ (∀ j, j < 20 → aI w 1030 (ca 7 k) j = A 18 (20 * k + j) - 1) ∧
    fI w 4 3 (ca 6 k) = A 13 k ∧ fI w 4 4 (ca 6 k) = A 14 k ∧ fI w 4 5 (ca 6 k) = A 15 k ∧ fI w 4 6 (ca 6 k) = A 16 k
def KC (w : Wd) (de nC : Nat) (A : Nat → Nat → Int32) (cf cp cs sb : Nat → Nat) (ca : Nat → Nat → Nat) : Prop := RLs w de 61 1043 (ca 9 6) nC (ca 8) ∧
  ∀ k, k < nC → kd w (ca 8 k) = 3 ∧ fR w 3 0 (ca 8 k) = some (ca 6 (cf k)) ∧ fR w 3 1 (ca 8 k) = some (ca 3 (cp k)) ∧ fI w 3 2 (ca 8 k) = A 23 (10 * k + 2) ∧ fI w 3 3 (ca 8 k) = A 23 (10 * k + 3) ∧ fI w 3 4 (ca 8 k) = A 23 (10 * k + 4) ∧ fI w 3 5 (ca 8 k) = A 23 (10 * k + 5) ∧
    fI w 3 6 (ca 8 k) = nI (sb k) ∧ fI w 3 7 (ca 8 k) = A 23 (10 * k + 6) ∧ fI w 3 8 (ca 8 k) = A 23 (10 * k + 7) ∧ fI w 3 9 (ca 8 k) = A 23 (10 * k + 8) ∧ fI w 3 10 (ca 8 k) = A 23 (10 * k + 9) ∧ fI w 3 11 (ca 8 k) = A 19 (20 * cf k + cs k)
def KB (w : Wd) (nC : Nat) (A : Nat → Nat → Int32) (F : Nat → Int32) (ca : Nat → Nat → Nat) : Prop := kd w (ca 9 7) = 2 ∧ fI w 2 0 (ca 9 7) = sumS (fun k => A 23 (10 * k + 4)) nC ∧ fI w 2 1 (ca 9 7) = sumS (fun k => A 23 (10 * k + 5)) nC ∧ fI w 2 2 (ca 9 7) = sumS (fun k => A 23 (10 * k + 8)) nC ∧ fI w 2 3 (ca 9 7) = F 27
/-- addresses are apart -/
def KJ (nS nP nF nC : Nat) (ca : Nat → Nat → Nat) : Prop := (∀ i j, i < nS → j < nS → (ca 0 i = ca 0 j ∨ ca 1 i = ca 1 j ∨ ca 2 i = ca 2 j) → i = j) ∧ (∀ i j, (i < nP ∨ i = 6) → (j < nP ∨ j = 6) → (ca 3 i = ca 3 j ∨ ca 4 i = ca 4 j) → i = j) ∧
  (∀ i j, i < nF → j < nF → (ca 6 i = ca 6 j ∨ ca 7 i = ca 7 j) → i = j) ∧ ∀ i j, i < nC → j < nC → ca 8 i = ca 8 j → i = j
section
variable {w w1 : Wd} {de x nS nP nF nC tl : Nat} {A A1 : Nat → Nat → Int32} {F F1 : Nat → Int32} {ho cf cp cs sb pn : Nat → Nat} {dn : Nat → Nat → Nat} {ch : Nat → Nat → List (Nat × Int32)} {ca : Nat → Nat → Nat}
theorem KX.mv (h : KX w x F ca) (k : Kp [11] w w1) (e0 : F1 0 = F 0) (e20 : F1 20 = F 20) (e21 : F1 21 = F 21) (e22 : F1 22 = F 22) : KX w1 x F1 ca := by
  have s := k x (by rw [h.1]; decide)
  unfold KX
  rw [s.1, s.2.2.2.1, s.2.2.2.1, s.2.2.2.1, s.2.2.2.1, s.2.2.2.1, s.2.2.2.1, s.2.2.2.1, s.2.2.2.1, s.2.2.1, s.2.2.1, s.2.2.1, s.2.2.1, e0, e20, e21, e22]
  exact h
theorem KO.mv (h : KO w A ca) (k : Kp [1020] w w1) (e : A1 25 = A 25) : KO w1 A1 ca := by
  have s := k (ca 9 8) (by rw [h.1]; decide)
  unfold KO
  rw [s.1, s.2.1, s.2.2.2.2.1, e]
  exact h
theorem KB.mv (h : KB w nC A F ca) (k : Kp [2] w w1) (e : A1 23 = A 23) (ef : F1 27 = F 27) : KB w1 nC A1 F1 ca := by
  have s := k (ca 9 7) (by rw [h.1]; decide)
  unfold KB
  rw [s.1, s.2.2.1, s.2.2.1, s.2.2.1, s.2.2.1, e, ef]
  exact h
theorem WS9.kp {we sl : Nat} {stA laA : Nat → Nat} {xs ys : Nat → Int32} (h : WS9 w de we sl nS stA laA xs ys ch) (k : Kp [10, 81, 1013, 8, 1002, 9, 1041] w w1) : WS9 w1 de we sl nS stA laA xs ys ch := by
  obtain ⟨h1, h2, h3, h4, h5⟩ := h
  have s := k we (by rw [h1]; decide)
  refine ⟨s.1.trans h1, (s.2.2.2.1 _ _).trans h2, h3.kp k (by decide) (by decide), h4, fun i hi => ?_⟩
  obtain ⟨g1, g2, g3, g4, g5, g6, g7, g8⟩ := h5 i hi
  have s1 := k (stA i) (by rw [g1]; decide)
  have s2 := k (laA i) (by rw [g6]; decide)
  refine ⟨s1.1.trans g1, (s1.2.2.1 _ _).trans g2, (s1.2.2.1 _ _).trans g3, (s1.2.2.1 _ _).trans g4, (s1.2.2.2.1 _ _).trans g5, s2.1.trans g6, s2.2.1.trans g7, fun d hd => ?_⟩
  rw [s2.2.2.2.2.2.1]
  exact (g8 d hd).keep (fun b hb => k b (by rw [hb]; decide))
theorem KW.mv (h : KW w de nS tl A ch ca) (k : Kp [10, 81, 1013, 8, 1002, 9, 1041] w w1) (e1 : A1 1 = A 1) (e2 : A1 2 = A 2) (e26 : A1 26 = A 26) : KW w1 de nS tl A1 ch ca := by
  obtain ⟨h1, h2, h3⟩ := h
  have s := k (ca 9 0) (by rw [h1.1]; decide)
  refine ⟨?_, (s.2.2.1 _ _).trans h2, fun i hi => ?_⟩
  · rw [e1, e2]
    exact h1.kp k
  · obtain ⟨g1, g2, g3, g4⟩ := h3 i hi
    have s1 := k (ca 0 i) (by rw [(h1.2.2.2.2 i hi).1]; decide)
    have s2 := k (ca 2 i) (by rw [g2]; decide)
    exact ⟨(s1.2.2.2.1 _ _).trans g1, s2.1.trans g2, s2.2.1.trans g3, fun j hj => by rw [s2.2.2.2.2.1, e26]; exact g4 j hj⟩
theorem SR9.kp {a ta : Nat} (h : SR9 w a ta) (k : Kp [7, 1010] w w1) : SR9 w1 a ta := by
  obtain ⟨h1, h2, h3, h4⟩ := h
  have s := k a (by rw [h1]; decide)
  have t := k ta (by rw [h3]; decide)
  exact ⟨s.1.trans h1, (s.2.2.2.1 _ _).trans h2, t.1.trans h3, t.2.1.trans h4⟩
theorem PHs.kp {pl n : Nat} {el dN : Nat → Nat} {dr tr ex wt : Nat → Int32} (h : PHs w de pl n el dN dr tr ex wt) (k : Kp [101, 1053, 5] w w1) : PHs w1 de pl n el dN dr tr ex wt := by
  obtain ⟨h1, h2, h3⟩ := h
  refine ⟨h1.kp k (by decide) (by decide), h2, fun i hi => ?_⟩
  obtain ⟨g1, g2, g3, g4⟩ := h3 i hi
  have s := k (el i) (by rw [g1]; decide)
  rw [s.1, s.2.2.1, s.2.2.1, s.2.2.1, s.2.2.1, s.2.2.1]
  exact h3 i hi
theorem PD9.kp {pr pl n : Nat} {el dN : Nat → Nat} {dr tr ex wt : Nat → Int32} (h : PD9 w de pr pl n el dN dr tr ex wt) (k : Kp [21, 1023, 6, 101, 1053, 5] w w1) : PD9 w1 de pr pl n el dN dr tr ex wt := by
  obtain ⟨h1, h2, h3⟩ := h
  have s := k pr (by rw [h1]; decide)
  exact ⟨s.1.trans h1, (s.2.2.2.1 _ _).trans h2, h3.kp (k.sub (by decide))⟩
theorem KP.mv (h : KP w de nP A pn dn ca) (k : Kp [21, 1023, 6, 101, 1053, 5] w w1) (e7 : A1 7 = A 7) (e9 : A1 9 = A 9) : KP w1 de nP A1 pn dn ca := by
  obtain ⟨h1, h2, h3, h4⟩ := h
  refine ⟨h1.kp k (by decide) (by decide), h2, fun i hi => ?_, fun i j hi hj hij r hr => ?_⟩
  · obtain ⟨g1, g2, g3⟩ := h3 i hi
    have s := k (ca 3 i) (by rw [g1.1]; decide)
    refine ⟨?_, (s.2.2.1 _ _).trans g2, fun h6 => by rw [s.2.2.1, e9]; exact g3 h6⟩
    rw [show phA A1 i = phA A i by unfold phA; rw [e7]]
    exact g1.kp k
  · have si := k (ca 4 i) (by rw [(h3 i hi).1.2.2.1.1]; decide)
    have sj := k (ca 4 j) (by rw [(h3 j hj).1.2.2.1.1]; decide)
    rw [si.2.2.2.1, sj.2.2.2.1]
    exact h4 i j hi hj hij r hr
theorem KF.mv (h : KF w de nF A ho ca) (k : Kp [41, 1033, 4, 1030] w w1) (e13 : A1 13 = A 13) (e14 : A1 14 = A 14) (e15 : A1 15 = A 15) (e16 : A1 16 = A 16) (e18 : A1 18 = A 18) : KF w1 de nF A1 ho ca := by
  obtain ⟨h1, h3⟩ := h
  refine ⟨h1.kp k (by decide) (by decide), fun i hi => ?_⟩
  have g := h3 i hi
  have s := k (ca 6 i) (by rw [g.1]; decide)
  have t := k (ca 7 i) (by rw [g.2.2.2.2.1]; decide)
  rw [s.1, s.2.2.1, s.2.2.1, s.2.2.1, s.2.2.1, s.2.2.1, s.2.2.2.1, s.2.2.2.1, t.1, t.2.1, t.2.2.2.2.1, e13, e14, e15, e16, e18]
  exact g
theorem KC.mv (h : KC w de nC A cf cp cs sb ca) (k : Kp [61, 1043, 3] w w1) (e23 : A1 23 = A 23) (e19 : A1 19 = A 19) : KC w1 de nC A1 cf cp cs sb ca := by
  obtain ⟨h1, h3⟩ := h
  refine ⟨h1.kp k (by decide) (by decide), fun i hi => ?_⟩
  have g := h3 i hi
  have s := k (ca 8 i) (by rw [g.1]; decide)
  rw [s.1, s.2.2.2.1, s.2.2.2.1, s.2.2.1, s.2.2.1, s.2.2.1, s.2.2.1, s.2.2.1, s.2.2.1, s.2.2.1, s.2.2.1, s.2.2.1, s.2.2.1, e23, e19]
  exact g
end
end REL32
