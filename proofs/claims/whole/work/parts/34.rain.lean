section RAIN34
def sqN (a b : Nat) : Nat := (a - b) * (a - b) + (b - a) * (b - a)
theorem sq_e : ∀ a, a < 10 → ∀ b, b < 10 → (nI a - nI b) * (nI a - nI b) = nI (sqN a b) := by decide +kernel
theorem sqN_c (a b : Nat) : sqN a b = sqN b a := Nat.add_comm _ _
theorem sqN_le : ∀ a, a < 10 → ∀ b, b < 10 → sqN a b ≤ 81 := by decide +kernel
/-- places are on the grid -/
def XYG (A : Nat → Nat → Int32) (nS : Nat) : Prop := ∀ k, k < nS → ∃ a b : Nat, a < 10 ∧ b < 10 ∧ A 1 k = nI a ∧ A 2 k = nI b
theorem off_e {A : Nat → Nat → Int32} {nS k a b : Nat} (h : XYG A nS) (hk : k < nS) (ha : a < 10) (hb : b < 10) : ∃ t : Nat, t ≤ 162 ∧ offV (A 1) (A 2) (nI a) (nI b) k = nI t ∧ disV (A 1) (A 2) (nI a) (nI b) k = nI t := by
  obtain ⟨c, d, hc, hd, e1, e2⟩ := h k hk
  refine ⟨sqN a c + sqN b d, ?_, ?_, ?_⟩
  · have := sqN_le a ha c hc
    have := sqN_le b hb d hd
    omega
  · unfold offV
    rw [e1, e2, sq_e a ha c hc, sq_e b hb d hd, nI_add]
  · unfold disV
    rw [e1, e2, sq_e c hc a ha, sq_e d hd b hb, nI_add, sqN_c c a, sqN_c d b]
theorem nearF_r {dat dist has bv : Nat → Int32} : ∀ n, (∀ k, k < n → (dat k = -1 ↔ ¬ 0 < has k)) → (∀ k, k < n → 0 < has k → bv k = dist k) →
    (nearF dat dist n).1 = rnF has bv n ∧ (nearF dat dist n).2 = match rnF has bv n with
      | none => 0
      | some j => dat j
  | 0, _, _ => ⟨rfl, rfl⟩
  | n + 1, h1, h2 => by
    obtain ⟨i1, i2⟩ := nearF_r n (fun k hk => h1 k (by omega)) (fun k hk => h2 k (by omega))
    by_cases hz : dat n = -1
    · have hh := (h1 n (by omega)).mp hz
      rw [nearF_0 hz, rnF_0 hh]
      exact ⟨i1, i2⟩
    · have hh : 0 < has n := Classical.byContradiction (fun z => hz ((h1 n (by omega)).mpr z))
      cases hr : rnF has bv n with
      | none =>
        rw [hr] at i1
        rw [nearF_1 hz i1, rnF_1 hh hr]
        exact ⟨rfl, rfl⟩
      | some j =>
        rw [hr] at i1 i2
        have hj := rnF_lt hr
        have hjh : 0 < has j := by
          have : ∀ m, rnF has bv m = some j → 0 < has j := by
            intro m
            induction m with
            | zero => intro z; cases z
            | succ m ih =>
              intro z
              by_cases g1 : 0 < has m
              · cases g2 : rnF has bv m with
                | none => rw [rnF_1 g1 g2] at z; cases z; exact g1
                | some q =>
                  by_cases g3 : bv m < bv q
                  · rw [rnF_2 g1 g2 g3] at z; cases z; exact g1
                  · rw [rnF_3 g1 g2 g3] at z; cases z; exact ih g2
              · rw [rnF_0 g1] at z; exact ih z
          exact this n hr
        have eb : (bv n < bv j) = (dist n < dist j) := by rw [h2 n (by omega) hh, h2 j (by omega) hjh]
        by_cases h3 : dist n < dist j
        · rw [nearF_2 hz i1 h3, rnF_2 hh hr (by rw [eb]; exact h3)]
          exact ⟨rfl, rfl⟩
        · rw [nearF_3 hz i1 h3, rnF_3 hh hr (by rw [eb]; exact h3)]
          exact ⟨i1, i2⟩
theorem rnF_self {has bv : Nat → Int32} {s0 : Nat} (hs : 0 < has s0) (hb : bv s0 = -1) : ∀ n, (∀ k, k < n → k ≠ s0 → ¬ bv k < -1 ∧ ¬ bv k = -1) → s0 < n → rnF has bv n = some s0
  | 0, _, h => by omega
  | n + 1, h, hn => by
    by_cases e : n = s0
    · subst e
      cases hr : rnF has bv n with
      | none => exact rnF_1 hs hr
      | some j =>
        have hj := rnF_lt hr
        obtain ⟨g1, g2⟩ := h j (by omega) (by omega)
        refine rnF_2 hs hr ?_
        rw [hb, i32_lt]
        rw [i32_lt] at g1
        rw [i32_eq] at g2
        omega
    · have ih := rnF_self hs hb n (fun k hk => h k (by omega)) (by omega)
      by_cases g : 0 < has n
      · exact rnF_3 g ih (by rw [hb]; exact (h n (by omega) e).1)
      · rw [rnF_0 g]; exact ih
/-- what was told of a day, against the reference's two numbers -/
def ChR (l : List (Nat × Int32)) (first last : Int32) : Prop := match l with
  | [] => first = 0 ∧ last = 0
  | q :: l => first = lstV (q :: l) + 1 ∧ last = q.2 + 1 ∧ ∀ t ∈ q :: l, ∃ v : Nat, v ≤ 2000 ∧ t.2 = nI v
def ChS : List (Nat × Int32) → Nat → Prop
  | [], _ => True
  | q :: l, n => q.1 < n ∧ ChS l q.1
theorem lstV_mem : ∀ {q : Nat × Int32} {l : List (Nat × Int32)}, ∃ t ∈ q :: l, lstV (q :: l) = t.2
  | q, [] => ⟨q, List.mem_cons_self, rfl⟩
  | q, a :: l => by
    obtain ⟨t, h1, h2⟩ := lstV_mem (q := a) (l := l)
    exact ⟨t, List.mem_cons_of_mem _ h1, h2⟩
theorem a1_sub {x : Int32} : x + 1 - 1 = x := a11
theorem ChR.dat {l : List (Nat × Int32)} {f s kn : Int32} {n : Nat} (h : ChR l f s) (hs : ChS l n) : datV l kn n = (if kn = 0 then f else s) - 1 ∧ (datV l kn n = -1 ↔ ¬ 0 < f) ∧ (0 < f → ∃ v : Nat, v ≤ 2000 ∧ datV l kn n = nI v) ∧ (¬ 0 < f → f = 0 ∧ s = 0) := by
  cases l with
  | nil =>
    obtain ⟨rfl, rfl⟩ := h
    refine ⟨by show -1 = _; split <;> rfl, ⟨fun _ => by decide, fun _ => rfl⟩, fun z => absurd z (by decide), fun _ => ⟨rfl, rfl⟩⟩
  | cons q l =>
    obtain ⟨h1, h2, h3⟩ := h
    have e : datV (q :: l) kn n = if kn = 0 then lstV (q :: l) else q.2 := by rw [datV, if_neg (by have := hs.1; omega)]
    obtain ⟨t, ht, hl⟩ := lstV_mem (q := q) (l := l)
    obtain ⟨v, hv, hv2⟩ := h3 t ht
    obtain ⟨v', hv', hv2'⟩ := h3 q List.mem_cons_self
    have hp : 0 < f := by rw [h1, hl, hv2, nI_1]; exact nI_lt (a := 0) (by omega) (by omega)
    have hex : ∃ u : Nat, u ≤ 2000 ∧ datV (q :: l) kn n = nI u := by
      rw [e]
      split
      · exact ⟨v, hv, by rw [hl, hv2]⟩
      · exact ⟨v', hv', hv2'⟩
    refine ⟨?_, ⟨fun z => ?_, fun z => absurd hp z⟩, fun _ => hex, fun z => absurd hp z⟩
    · rw [e, h1, h2]
      split <;> rw [a11]
    · obtain ⟨u, hu, hu2⟩ := hex
      rw [hu2] at z
      exact absurd z (fun z2 => nI_pos (n := u) (by omega) (by rw [z2]; decide))
/-- all that was told, against the reference's -/
def ChA (A : Nat → Nat → Int32) (nS tl : Nat) (ch : Nat → Nat → List (Nat × Int32)) : Prop := ∀ s, s < 5 → ∀ d, d < 1200 → ChR (ch s d) (A 4 (1200 * s + d)) (A 5 (1200 * s + d)) ∧ ChS (ch s d) tl ∧ (nS ≤ s → ch s d = [])
theorem row_d {A : Nat → Nat → Int32} {nS tl : Nat} {ch : Nat → Nat → List (Nat × Int32)} (hc : ChA A nS tl ch) (hg : XYG A nS) (hn : nS ≤ 5) {kn : Int32} {d s0 : Nat} (hd : d < 1200) (hs : s0 < nS) :
    rrV nS (A 1) (A 2) (A 4) (A 5) kn d s0 = rainV nS (A 1) (A 2) (fun k => datV (ch k d) kn tl) s0 := by
  have hk : ∀ k, k < nS → _ := fun k hk => (hc k (by omega) d hd).1.dat (kn := kn) (hc k (by omega) d hd).2.1
  obtain ⟨a0, b0, ha0, hb0, ea, eb⟩ := hg s0 hs
  have hbv : ∀ k, k < nS → k ≠ s0 → byV (A 1) (A 2) s0 k = disV (A 1) (A 2) (A 1 s0) (A 2 s0) k ∧ ¬ byV (A 1) (A 2) s0 k < -1 ∧ ¬ byV (A 1) (A 2) s0 k = -1 := by
    intro k hk2 hks
    obtain ⟨t, ht, e1, e2⟩ := off_e (a := a0) (b := b0) hg hk2 ha0 hb0
    have e3 : byV (A 1) (A 2) s0 k = nI t := by unfold byV; rw [if_neg hks, ea, eb]; exact e1
    rw [e3, ea, eb, e2]
    have := nI_toInt (n := t) (by omega)
    refine ⟨rfl, ?_, ?_⟩
    · rw [i32_lt, this]
      show ¬ (t : Int) < -1
      omega
    · rw [i32_eq, this]
      show ¬ (t : Int) = -1
      omega
  unfold rainV
  by_cases hz : datV (ch s0 d) kn tl = -1
  · rw [if_pos hz]
    have hh := (hk s0 hs).2.1.mp hz
    obtain ⟨i1, i2⟩ := nearF_r (dat := fun k => datV (ch k d) kn tl) (dist := disV (A 1) (A 2) (A 1 s0) (A 2 s0)) (has := fun k => A 4 (1200 * k + d)) (bv := byV (A 1) (A 2) s0) nS (fun k hk2 => (hk k hk2).2.1) (fun k hk2 h9 => (hbv k hk2 (fun z => hh (by rw [← z]; exact h9))).1)
    rw [i2]
    cases hr : rnF (fun k => A 4 (1200 * k + d)) (byV (A 1) (A 2) s0) nS with
    | none => exact rrV_0 hr
    | some j =>
      rw [rrV_1 hr]
      exact (hk j (rnF_lt hr)).1.symm
  · rw [if_neg hz]
    have hh : 0 < A 4 (1200 * s0 + d) := Classical.byContradiction (fun z => hz ((hk s0 hs).2.1.mpr z))
    have hr := rnF_self (has := fun k => A 4 (1200 * k + d)) (bv := byV (A 1) (A 2) s0) hh (if_pos rfl) nS (fun k hk2 hks => (hbv k hk2 hks).2) hs
    rw [rrV_1 hr]
    exact (hk s0 hs).1.symm
theorem row_e {A : Nat → Nat → Int32} {nS tl : Nat} {ch : Nat → Nat → List (Nat × Int32)} (hc : ChA A nS tl ch) (hg : XYG A nS) (hn : nS ≤ 5) {kn : Int32} {se s0 : Nat} (hse : se < 20) (hs : s0 < nS) : ∀ j, j < 60 → rowA A nS kn se s0 j = rowV nS (A 1) (A 2) ch kn tl se s0 j :=
  fun j hj => row_d hc hg hn (by omega) hs
end RAIN34
