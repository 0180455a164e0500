section RATE35
/-- a row of days of at most 2000 tenths each -/
def RowB (f : Nat → Int32) : Prop := ∀ j, j < 60 → ∃ v : Nat, v ≤ 2000 ∧ f j = nI v
theorem sumF_b {f : Nat → Int32} {a : Nat} (h : RowB f) : ∀ n, a + n ≤ 60 → ∃ t : Nat, t ≤ 2000 * n ∧ sumF f a n = nI t
  | 0, _ => ⟨0, by omega, rfl⟩
  | n + 1, hn => by
    obtain ⟨t, ht, e⟩ := sumF_b (a := a) h n (by omega)
    obtain ⟨v, hv, e2⟩ := h (a + n) (by omega)
    exact ⟨t + v, by omega, by rw [sumF, e, e2, nI_add]⟩
theorem lookV_b {f : Nat → Int32} {dry : Int32} {days fr : Nat} (h : RowB f) : ∃ t : Nat, t ≤ 120000 ∧ lookV f dry days fr = nI t := by
  unfold lookV
  by_cases h1 : 60 ≤ fr
  · rw [if_pos h1]
    split
    · exact ⟨0, by omega, rfl⟩
    · exact ⟨60, by omega, rfl⟩
  · rw [if_neg h1]
    split
    · obtain ⟨t, ht, e⟩ := sumF_b (a := fr) h (min (fr + days) 60 - fr) (by omega)
      exact ⟨t, by omega, e⟩
    · have := (dryN_le (f := f) (a := fr) (min (fr + days) 60 - fr)).1
      exact ⟨_, by omega, rfl⟩
theorem le0_sub {a b : Nat} (ha : a < 1000000) (hb : b < 1000000) (h : a ≤ b) : nI a - nI b ≤ 0 := by
  rw [i32_le, pk_sub_toInt (by omega) (by omega)]
  show (a : Int) - b ≤ 0
  omega
/-- the part of a phase that pays -/
theorem payN {dry : Int32} {a b q : Nat} (hx : a < 1000000) (hb : b ≤ 9999) (hq : q ≤ 9999) {tr ex its : Int32} (h : (dry = 0 ∧ q < b ∧ tr = nI b ∧ ex = nI q ∧ its = nI a) ∨ (dry = 1 ∧ b < q ∧ tr = nI b ∧ ex = nI q ∧ its = nI a)) : ∃ t : Nat, t ≤ 1000 ∧ payV dry tr ex its = nI t := by
  have key : ∀ u v s : Nat, u < 1000000 → v < 1000000 → 0 < s → s ≤ 9999 → ∀ past span : Int32, past = nI u - nI v → span = nI s → ∃ t : Nat, t ≤ 1000 ∧ (if past ≤ 0 then (0 : Int32) else if span ≤ 0 then 1000 else if span ≤ past then 1000 else 1000 * past / span) = nI t := by
    intro u v s hu hv hs hs2 past span e1 e2
    by_cases c1 : u ≤ v
    · exact ⟨0, by omega, if_pos (by rw [e1]; exact le0_sub hu hv c1)⟩
    · have e3 : past = nI (u - v) := by rw [e1]; exact pk_sub (by omega)
      have p1 : ¬ past ≤ 0 := by rw [e3]; exact nI_ge (a := 0) (b := u - v) (by omega) (by omega)
      have p2 : ¬ span ≤ 0 := by rw [e2]; exact nI_ge (a := 0) (b := s) (by omega) (by omega)
      rw [if_neg p1, if_neg p2]
      by_cases c2 : s ≤ u - v
      · exact ⟨1000, by omega, if_pos (by rw [e2, e3]; exact nI_le c2 (by omega))⟩
      · refine ⟨1000 * (u - v) / s, ?_, ?_⟩
        · have := Nat.div_le_of_le_mul (m := 1000 * (u - v)) (k := s) (n := 1000) (by rw [Nat.mul_comm s 1000]; omega)
          exact this
        · rw [if_neg (by rw [e2, e3]; exact nI_ge (by omega) (by omega)), e2, e3, show (1000 : Int32) = nI 1000 from rfl, pk_mul, nI_div (by omega) hs (by omega)]
  unfold payV
  rcases h with ⟨h1, h2, h3, h4, h5⟩ | ⟨h1, h2, h3, h4, h5⟩
  · refine key b a (b - q) (by omega) (by omega) (by omega) (by omega) _ _ ?_ ?_
    · rw [if_pos h1, h3, h5]
    · rw [if_pos h1, h3, h4]; exact pk_sub (by omega)
  · have h6 : ¬ dry = 0 := by rw [h1]; decide
    refine key a b (q - b) (by omega) (by omega) (by omega) (by omega) _ _ ?_ ?_
    · rw [if_neg h6, h3, h5]
    · rw [if_neg h6, h3, h4]; exact pk_sub (by omega)
/-- the phases of a product, as the promises bound them -/
def PHB (A : Nat → Nat → Int32) (pr n : Nat) (dN : Nat → Nat) : Prop := n ≤ 3 ∧ ∀ i, i < n → phA A pr 0 i = nI (dN i) ∧ dN i ≤ 30 ∧ ∃ b q u : Nat, phA A pr 2 i = nI b ∧ phA A pr 3 i = nI q ∧ phA A pr 4 i = nI u ∧ b ≤ 9999 ∧ q ≤ 9999 ∧ u ≤ 100 ∧ ((phA A pr 1 i = 0 ∧ q < b) ∨ (phA A pr 1 i = 1 ∧ b < q))
theorem PHB.A {A : Nat → Nat → Int32} {pr n : Nat} {dN : Nat → Nat} (h : PHB A pr n dN) : PHA A pr n dN := ⟨h.1, fun i hi => by
  obtain ⟨h1, h2, b, q, u, -, -, -, -, -, -, h3⟩ := h.2 i hi
  exact ⟨h1, h2, h3.elim (fun z => Or.inl z.1) (fun z => Or.inr z.1)⟩⟩
theorem ratV_b {f : Nat → Int32} {A : Nat → Nat → Int32} {pr n : Nat} {dN : Nat → Nat} (h : PHB A pr n dN) (hf : RowB f) : ∀ i, i ≤ n → ∃ t : Nat, t ≤ 1000 * i ∧ ratV f dN (phA A pr 1) (phA A pr 2) (phA A pr 3) (phA A pr 4) i = nI t
  | 0, _ => ⟨0, by omega, rfl⟩
  | i + 1, hi => by
    obtain ⟨t, ht, e⟩ := ratV_b h hf i (by omega)
    obtain ⟨-, -, b, q, u, e2, e3, e4, hb, hq, hu, h3⟩ := h.2 i (by omega)
    obtain ⟨a, ha, ea⟩ := lookV_b (dry := phA A pr 1 i) (days := dN i) (fr := stN f + dSum dN i) hf
    obtain ⟨v, hv, ev⟩ := payN (dry := phA A pr 1 i) (a := a) (b := b) (q := q) (by omega) hb hq (tr := phA A pr 2 i) (ex := phA A pr 3 i) (its := lookV f (phA A pr 1 i) (dN i) (stN f + dSum dN i)) (h3.elim (fun z => Or.inl ⟨z.1, z.2, e2, e3, ea⟩) (fun z => Or.inr ⟨z.1, z.2, e2, e3, ea⟩))
    have hm : v * u ≤ 1000 * 100 := Nat.mul_le_mul hv hu
    refine ⟨t + v * u / 100, by omega, ?_⟩
    rw [ratV, e, ev, e4, pk_mul, show (100 : Int32) = nI 100 from rfl, nI_div (by omega) (by omega) (by omega), nI_add]
theorem rateV_b {f : Nat → Int32} {A : Nat → Nat → Int32} {pr n : Nat} {dN : Nat → Nat} (h : PHB A pr n dN) (hf : RowB f) : ∃ t : Nat, t ≤ 1000 ∧ rateV f n dN (phA A pr 1) (phA A pr 2) (phA A pr 3) (phA A pr 4) = nI t := by
  obtain ⟨t, ht, e⟩ := ratV_b h hf n (Nat.le_refl _)
  have h3 := h.1
  unfold rateV
  rw [e]
  by_cases c : 1000 < t
  · exact ⟨1000, by omega, if_pos (nI_lt (a := 1000) c (by omega))⟩
  · exact ⟨t, by omega, if_neg (nI_nlt (a := 1000) (b := t) (by omega) (by omega))⟩
/-- all that was told is of 0 to 2000 tenths -/
def ChB (ch : Nat → Nat → List (Nat × Int32)) : Prop := ∀ s d, ∀ t ∈ ch s d, ∃ v : Nat, v ≤ 2000 ∧ t.2 = nI v
theorem datV_b : ∀ {l : List (Nat × Int32)} {kn : Int32} {n : Nat}, (∀ t ∈ l, ∃ v : Nat, v ≤ 2000 ∧ t.2 = nI v) → datV l kn n = -1 ∨ ∃ v : Nat, v ≤ 2000 ∧ datV l kn n = nI v
  | [], _, _, _ => Or.inl rfl
  | q :: l, kn, n, h => by
    rw [datV]
    by_cases c : n ≤ q.1
    · rw [if_pos c]
      exact datV_b (fun t ht => h t (List.mem_cons_of_mem _ ht))
    · rw [if_neg c]
      split
      · obtain ⟨t, ht, hl⟩ := lstV_mem (q := q) (l := l)
        rw [hl]
        exact Or.inr (h t ht)
      · exact Or.inr (h q List.mem_cons_self)
theorem nearF_b {dat dist : Nat → Int32} (h : ∀ k, dat k = -1 ∨ ∃ v : Nat, v ≤ 2000 ∧ dat k = nI v) : ∀ n, ∃ v : Nat, v ≤ 2000 ∧ (nearF dat dist n).2 = nI v
  | 0 => ⟨0, by omega, rfl⟩
  | n + 1 => by
    have ih := nearF_b (dist := dist) h n
    by_cases c : dat n = -1
    · rw [nearF_0 c]; exact ih
    · have hv := (h n).resolve_left c
      cases hr : (nearF dat dist n).1 with
      | none => rw [nearF_1 c hr]; exact hv
      | some j =>
        by_cases c2 : dist n < dist j
        · rw [nearF_2 c hr c2]; exact hv
        · rw [nearF_3 c hr c2]; exact ih
theorem row_b {nS n se s0 : Nat} {xs ys : Nat → Int32} {ch : Nat → Nat → List (Nat × Int32)} {kn : Int32} (h : ChB ch) : RowB (rowV nS xs ys ch kn n se s0) := fun j _ => by
  show ∃ v : Nat, v ≤ 2000 ∧ rainV nS xs ys (fun k => datV (ch k (60 * se + j)) kn n) s0 = nI v
  have hd : ∀ k, datV (ch k (60 * se + j)) kn n = -1 ∨ ∃ v : Nat, v ≤ 2000 ∧ datV (ch k (60 * se + j)) kn n = nI v := fun k => datV_b (h k _)
  unfold rainV
  by_cases c : datV (ch s0 (60 * se + j)) kn n = -1
  · rw [if_pos c]; exact nearF_b hd nS
  · rw [if_neg c]; exact (hd s0).resolve_left c
/-- the class's rate, by what was known at the telling n -/
def ratC (A : Nat → Nat → Int32) (nS : Nat) (ch : Nat → Nat → List (Nat × Int32)) (pr n : Nat) (dN : Nat → Nat) (tl s0 se : Nat) : Int32 := rateV (rowV nS (A 1) (A 2) ch (A 9 pr) tl se s0) n dN (phA A pr 1) (phA A pr 2) (phA A pr 3) (phA A pr 4)
theorem rat_e {A : Nat → Nat → Int32} {nS tl : Nat} {ch : Nat → Nat → List (Nat × Int32)} (hc : ChA A nS tl ch) (hg : XYG A nS) (hn : nS ≤ 5) {pr n : Nat} {dN : Nat → Nat} {se s0 : Nat} (hse : se < 20) (hs : s0 < nS) : ratA A nS pr n dN s0 se = ratC A nS ch pr n dN tl s0 se :=
  rateV_congr (row_e hc hg hn hse hs)
theorem ratC_b {A : Nat → Nat → Int32} {nS tl : Nat} {ch : Nat → Nat → List (Nat × Int32)} {pr n : Nat} {dN : Nat → Nat} {se s0 : Nat} (h : PHB A pr n dN) (hc : ChB ch) : ∃ t : Nat, t ≤ 1000 ∧ ratC A nS ch pr n dN tl s0 se = nI t := rateV_b h (row_b hc)
theorem nearF_congr {dat dat' dist dist' : Nat → Int32} : ∀ n, (∀ k, k < n → dat k = dat' k ∧ dist k = dist' k) → nearF dat dist n = nearF dat' dist' n
  | 0, _ => rfl
  | n + 1, h => by
    have ih := nearF_congr n (fun k hk => h k (by omega))
    obtain ⟨e1, e2⟩ := h n (by omega)
    by_cases c : dat n = -1
    · rw [nearF_0 c, nearF_0 (by rw [← e1]; exact c), ih]
    · have c' : ¬ dat' n = -1 := by rw [← e1]; exact c
      cases hr : (nearF dat dist n).1 with
      | none => rw [nearF_1 c hr, nearF_1 c' (by rw [← ih]; exact hr), e1]
      | some q =>
        have hq := nearF_lt hr
        by_cases c2 : dist n < dist q
        · rw [nearF_2 c hr c2, nearF_2 c' (by rw [← ih]; exact hr) (by rw [← e2, ← (h q (by omega)).2]; exact c2), e1]
        · rw [nearF_3 c hr c2, nearF_3 c' (by rw [← ih]; exact hr) (by rw [← e2, ← (h q (by omega)).2]; exact c2), ih]
theorem rowV_congr {nS n n' se s0 : Nat} {xs ys xs' ys' : Nat → Int32} {ch ch' : Nat → Nat → List (Nat × Int32)} {kn : Int32} (hs : s0 < nS) (hx : ∀ k, k < nS → xs k = xs' k) (hy : ∀ k, k < nS → ys k = ys' k) (h : ∀ k, k < nS → ∀ d, datV (ch k d) kn n = datV (ch' k d) kn n') :
    rowV nS xs ys ch kn n se s0 = rowV nS xs' ys' ch' kn n' se s0 := by
  funext j
  show rainV nS xs ys (fun k => datV (ch k (60 * se + j)) kn n) s0 = rainV nS xs' ys' (fun k => datV (ch' k (60 * se + j)) kn n') s0
  unfold rainV
  show (if datV (ch s0 (60 * se + j)) kn n = -1 then (nearF (fun k => datV (ch k (60 * se + j)) kn n) (disV xs ys (xs s0) (ys s0)) nS).2 else datV (ch s0 (60 * se + j)) kn n) = if datV (ch' s0 (60 * se + j)) kn n' = -1 then (nearF (fun k => datV (ch' k (60 * se + j)) kn n') (disV xs' ys' (xs' s0) (ys' s0)) nS).2 else datV (ch' s0 (60 * se + j)) kn n'
  rw [h s0 hs, hx s0 hs, hy s0 hs]
  have hd : ∀ k, k < nS → disV xs ys (xs' s0) (ys' s0) k = disV xs' ys' (xs' s0) (ys' s0) k := fun k hk => by unfold disV; rw [hx k hk, hy k hk]
  rw [nearF_congr nS (fun k hk => ⟨h k hk (60 * se + j), hd k hk⟩)]
end RATE35
