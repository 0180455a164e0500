section NEW43
theorem ca_Station : Cond.castable "RainIndex$Station" "java/lang/Object" ∈ lw_tbl := List.mem_append_right _ (tb_c6 _ (List.mem_of_getElem? (i := 0) (by decide +kernel)))
theorem ca_Phase : Cond.castable "RainIndex$Phase" "java/lang/Object" ∈ lw_tbl := List.mem_append_right _ (tb_c6 _ (List.mem_of_getElem? (i := 2) (by decide +kernel)))
theorem ca_Product : Cond.castable "RainIndex$Product" "java/lang/Object" ∈ lw_tbl := List.mem_append_right _ (tb_c5 _ (List.mem_of_getElem? (i := 236) (by decide +kernel)))
theorem ca_Farm : Cond.castable "RainIndex$Farm" "java/lang/Object" ∈ lw_tbl := List.mem_append_right _ (tb_c6 _ (List.mem_of_getElem? (i := 3) (by decide +kernel)))
theorem ca_Cover : Cond.castable "RainIndex$Cover" "java/lang/Object" ∈ lw_tbl := List.mem_append_right _ (tb_c6 _ (List.mem_of_getElem? (i := 4) (by decide +kernel)))
/-- the empty row is not of the world -/
theorem g_de {p : Program} {l : Launch} {e : Env} {R : Room} {s : State} {m : MethodId} {args : Array Value} {below : List Frame} {meth : Method} {c : Code} {D : va_G} {cy : Nat → ClassId} {z : Nat} {cc : ByteArray} {own : String} {nL : Nat} {ret : Option FieldType} {fr lo mc ms de : Nat} {w : Wd} {kc ns pc : Nat} {lv : List (Nat × Value)} {st : List Value} {Q : State → Prop} (C : Cx p l R s m args meth c D cy z cc own nL ret fr lo mc ms de) (k : kd w de = 0 → G p l e R s m args below meth c D cy z nL w kc ns pc lv st Q) : G p l e R s m args below meth c D cy z nL w kc ns pc lv st Q := fun H locs ls hH hS hl => k (Classical.byContradiction fun h => by
  have h1 := (hH de h).1
  have h2 := C.2.2.2.2.2.2.2.2.1.2.2.2.2.2.2.2.1.2.1
  omega) H locs ls hH hS hl
def caU (ca : Nat → Nat → Nat) (i j v : Nat) : Nat → Nat → Nat := fun a b => if a = i ∧ b = j then v else ca a b
section
variable {w : Wd} {de x nS nP nF nC tl : Nat} {A A1 : Nat → Nat → Int32} {F F1 : Nat → Int32} {ho cf cp cs sb pn : Nat → Nat} {dn : Nat → Nat → Nat} {ch : Nat → Nat → List (Nat × Int32)} {ca : Nat → Nat → Nat} {ca1 : Nat → Nat → Nat} {w1 w2 : Wd} {S : List Nat}
theorem caU_eq {i j v : Nat} : caU ca i j v i j = v := if_pos ⟨rfl, rfl⟩
theorem caU_ne {i j v a b : Nat} (h : a ≠ i ∨ b ≠ j) : caU ca i j v a b = ca a b := if_neg (fun z => h.elim (fun q => q z.1) (fun q => q z.2))
theorem caU_row {i j v a : Nat} (h : a ≠ i) : caU ca i j v a = ca a := funext fun _ => caU_ne (Or.inl h)
theorem KX.adr (h : KX w x F ca) (e9 : ca1 9 = ca 9) (e3 : ca1 3 6 = ca 3 6) : KX w x F ca1 := by unfold KX at h ⊢; rw [e9, e3]; exact h
theorem KO.adr (h : KO w A ca) (e9 : ca1 9 = ca 9) : KO w A ca1 := by unfold KO at h ⊢; rw [e9]; exact h
theorem KW.adr (h : KW w de nS tl A ch ca) (e9 : ca1 9 = ca 9) (e0 : ca1 0 = ca 0) (e1 : ca1 1 = ca 1) (e2 : ca1 2 = ca 2) : KW w de nS tl A ch ca1 := by unfold KW at h ⊢; rw [e9, e0, e1, e2]; exact h
theorem KP.adr (h : KP w de nP A pn dn ca) (e9 : ca1 9 = ca 9) (e3 : ca1 3 = ca 3) (e4 : ca1 4 = ca 4) (e5 : ca1 5 = ca 5) : KP w de nP A pn dn ca1 := by unfold KP at h ⊢; rw [e9, e3, e4, e5]; exact h
theorem KF.adr (h : KF w de nF A ho ca) (e9 : ca1 9 = ca 9) (e0 : ∀ k, k < nF → ca1 0 (ho k) = ca 0 (ho k)) (e6 : ca1 6 = ca 6) (e7 : ca1 7 = ca 7) : KF w de nF A ho ca1 := by
  unfold KF at h ⊢
  rw [e9, e6, e7]
  exact ⟨h.1, fun k hk => by rw [e0 k hk]; exact h.2 k hk⟩
theorem KC.adr (h : KC w de nC A cf cp cs sb ca) (e9 : ca1 9 = ca 9) (e3 : ∀ k, k < nC → ca1 3 (cp k) = ca 3 (cp k)) (e6 : ∀ k, k < nC → ca1 6 (cf k) = ca 6 (cf k)) (e8 : ca1 8 = ca 8) : KC w de nC A cf cp cs sb ca1 := by
  unfold KC at h ⊢
  rw [e9, e8]
  exact ⟨h.1, fun k hk => by rw [e3 k hk, e6 k hk]; exact h.2 k hk⟩
theorem KB.adr (h : KB w nC A F ca) (e9 : ca1 9 = ca 9) : KB w nC A F ca1 := by unfold KB at h ⊢; rw [e9]; exact h
theorem SR9.adr (h : SR9 w (ca 9 1) (ca 9 2)) (e9 : ca1 9 = ca 9) : SR9 w (ca1 9 1) (ca1 9 2) := by rw [e9]; exact h
theorem RC0.kp (h : RC0 w de x A F nS nP nF nC tl ho cf cp cs sb pn dn ch ca) (k : Kp [11, 1020, 10, 81, 1013, 8, 1002, 9, 1041, 7, 1010, 21, 1023, 6, 101, 1053, 5, 41, 1033, 4, 1030, 61, 1043, 3] w w1) : RC0 w1 de x A F nS nP nF nC tl ho cf cp cs sb pn dn ch ca := by
  refine ⟨h.1.mv (k.sub ?_) rfl rfl rfl rfl, h.2.1.mv (k.sub ?_) rfl, h.2.2.1.mv (k.sub ?_) rfl rfl rfl, h.2.2.2.1.kp (k.sub ?_), h.2.2.2.2.1.mv (k.sub ?_) rfl rfl, h.2.2.2.2.2.1.mv (k.sub ?_) rfl rfl rfl rfl rfl, h.2.2.2.2.2.2.1.mv (k.sub ?_) rfl rfl, h.2.2.2.2.2.2.2⟩ <;> decide
/-- all cells that were -/
def Old (w w1 : Wd) : Prop := ∀ b, kd w b ≠ 0 → SmA w w1 b
theorem Old.kp (h : Old w w1) (h0 : 0 ∉ S) : Kp S w w1 := fun b hb => h b (fun z => h0 (by rw [← z]; exact hb))
theorem Old.fr (h : Old w w1) : FrR w w1 := fun b hb => h b (by omega)
theorem Old.n1 {q K n : Nat} (hq : kd w q = 0) : Old w (nw w q K n) := fun b hb => SmA.nw (fun z => hb (by rw [z]; exact hq))
theorem Old.mk2 {q K n : Nat} (hq : kd w q = 0) (h : ∀ b, kd (nw w q K n) b ≠ 0 → b ≠ q → SmA (nw w q K n) w1 b) : Old w w1 := fun b hb => by
  have hbq : b ≠ q := fun z => hb (by rw [z]; exact hq)
  exact (SmA.nw hbq).tr (h b (by rw [nw_kd hbq]; exact hb) hbq)
theorem AddP.sm {Kl Ke a n v : Nat} {el : Nat → Nat} (h : AddP w w1 de Kl Ke a n v el) (hR : RLs w de Kl Ke a n el) (hd : kd w de = 0) : ∀ b, kd w b ≠ 0 → kd w b ≠ Kl → kd w b ≠ Ke → SmA w w1 b := fun b hb h1 h2 => by
  refine h.2.1 b hb (fun z => h1 (by rw [z]; exact hR.1)) (fun r hr z => ?_)
  rcases hR.2.2.2 with ⟨-, h4⟩ | ⟨ar, h4, -, h5, -⟩
  · rw [hr] at h4
    cases h4
    exact hb (by rw [z]; exact hd)
  · rw [hr] at h4
    cases h4
    exact h2 (by rw [z]; exact h5)
/-- old cells, behind new ones and an addition to the list at a -/
theorem AddP.old {Kl Ke a n v : Nat} {el : Nat → Nat} (ho : Old w w1) (h : AddP w1 w2 de Kl Ke a n v el) (hR : RLs w1 de Kl Ke a n el) (hd : kd w1 de = 0) : ∀ b, kd w b ≠ 0 → kd w b ≠ Kl → kd w b ≠ Ke → SmA w w2 b := fun b hb h1 h2 => by
  have s := ho b hb
  exact s.tr (h.sm hR hd b (by rw [s.1]; exact hb) (by rw [s.1]; exact h1) (by rw [s.1]; exact h2))
theorem Kp.add {Kl Ke : Nat} (h : ∀ b, kd w b ≠ 0 → kd w b ≠ Kl → kd w b ≠ Ke → SmA w w2 b) (h0 : 0 ∉ S ∧ Kl ∉ S ∧ Ke ∉ S) : Kp S w w2 := fun b hb => h b (fun z => h0.1 (by rw [← z]; exact hb)) (fun z => h0.2.1 (by rw [← z]; exact hb)) (fun z => h0.2.2 (by rw [← z]; exact hb))
theorem FrR.add {Kl Ke : Nat} (h : ∀ b, kd w b ≠ 0 → kd w b ≠ Kl → kd w b ≠ Ke → SmA w w2 b) (h0 : (Kl ≠ 12 ∧ Kl < 2000) ∧ Ke ≠ 12 ∧ Ke < 2000) : FrR w w2 := fun b hb => h b (by omega) (by omega) (by omega)
theorem RLs.cg {Kl Ke a n : Nat} {el el1 : Nat → Nat} (h : RLs w de Kl Ke a n el) (e : ∀ i, i < n → el1 i = el i) : RLs w de Kl Ke a n el1 := by
  obtain ⟨h1, h2, h3, h4⟩ := h
  refine ⟨h1, h2, h3, ?_⟩
  rcases h4 with h4 | ⟨ar, g1, g2, g3, g4, g5, g6, g7⟩
  · exact Or.inl h4
  · exact Or.inr ⟨ar, g1, g2, g3, g4, g5, g6, fun i hi => by rw [e i hi]; exact g7 i hi⟩
theorem ne_kd {a b K : Nat} (h : kd w a = K) (h0 : kd w b = 0) (hK : K ≠ 0) : a ≠ b := fun z => hK (by rw [← h, z, h0])
/-- a station more -/
theorem stnR (h : RC0 w de x A F nS nP nF nC tl ho cf cp cs sb pn dn ch ca) {q la lk : Nat} (hq : kd w q = 0) (hla : kd w la = 0) (hlk : kd w lk = 0) (k : Kp [11, 1020, 10, 8, 1002, 9, 1041, 7, 1010, 21, 1023, 6, 101, 1053, 5, 41, 1033, 4, 1030, 61, 1043, 3] w w1) (hL : RLs w1 de 81 1013 (ca 9 3) (nS + 1) (fun i => if i = nS then q else ca 0 i))
    (hn : nS < 5) (hho : ∀ k, k < nF → ho k < nS) {xa ya v : Int32} (q1 : kd w1 q = 8) (q2 : fI w1 8 0 q = nI nS) (q3 : fI w1 8 1 q = xa) (q4 : fI w1 8 2 q = ya) (q5 : fR w1 8 3 q = some la) (q6 : fR w1 8 4 q = some lk) (a1 : kd w1 la = 1002) (a2 : aL w1 la = 1200) (a3 : ∀ j, aR w1 1002 la j = none) (b1 : kd w1 lk = 1041) (b2 : aL w1 lk = 20) (b3 : ∀ j, aI w1 1041 lk j = 0)
    (hz : ∀ j, j < 20 → A 26 (20 * nS + j) = 0) (hc : ∀ d, d < 1200 → ch nS d = []) : RC0 w1 de x (updA (updA A 1 nS xa) 2 nS ya) (updF F 3 v) (nS + 1) nP nF nC tl ho cf cp cs sb pn dn ch (caU (caU (caU ca 0 nS q) 1 nS la) 2 nS lk) := by
  have e : ∀ i, i ≠ 0 → i ≠ 1 → i ≠ 2 → caU (caU (caU ca 0 nS q) 1 nS la) 2 nS lk i = ca i := fun i h0 h1 h2 => by rw [caU_row h2, caU_row h1, caU_row h0]
  have f0 : ∀ j, j ≠ nS → caU (caU (caU ca 0 nS q) 1 nS la) 2 nS lk 0 j = ca 0 j := fun j hj => by rw [caU_ne (Or.inl (by decide)), caU_ne (Or.inl (by decide)), caU_ne (Or.inr hj)]
  have f1 : ∀ j, j ≠ nS → caU (caU (caU ca 0 nS q) 1 nS la) 2 nS lk 1 j = ca 1 j := fun j hj => by rw [caU_ne (Or.inl (by decide)), caU_ne (Or.inr hj), caU_ne (Or.inl (by decide))]
  have f2 : ∀ j, j ≠ nS → caU (caU (caU ca 0 nS q) 1 nS la) 2 nS lk 2 j = ca 2 j := fun j hj => by rw [caU_ne (Or.inr hj), caU_ne (Or.inl (by decide)), caU_ne (Or.inl (by decide))]
  have n0 : caU (caU (caU ca 0 nS q) 1 nS la) 2 nS lk 0 nS = q := by rw [caU_ne (Or.inl (by decide)), caU_ne (Or.inl (by decide)), caU_eq]
  have n1 : caU (caU (caU ca 0 nS q) 1 nS la) 2 nS lk 1 nS = la := by rw [caU_ne (Or.inl (by decide)), caU_eq]
  have n2 : caU (caU (caU ca 0 nS q) 1 nS la) 2 nS lk 2 nS = lk := caU_eq
  generalize caU (caU (caU ca 0 nS q) 1 nS la) 2 nS lk = ca1 at e f0 f1 f2 n0 n1 n2 ⊢
  have eA : ∀ i, i ≠ 1 → i ≠ 2 → updA (updA A 1 nS xa) 2 nS ya i = A i := fun i h1 h2 => by rw [updA_row h2, updA_row h1]
  obtain ⟨⟨⟨w1a, w2a, w3a, w4a, w5a⟩, ht, hk⟩, hJ⟩ := And.intro h.2.2.1 h.2.2.2.2.2.2.2
  have e9 := e 9 (by decide) (by decide) (by decide)
  have s0 := k (ca 9 0) (by rw [w1a]; decide)
  refine ⟨(h.1.mv (k.sub (by decide)) (if_neg (by decide)) (if_neg (by decide)) (if_neg (by decide)) (if_neg (by decide))).adr e9 (by rw [e 3 (by decide) (by decide) (by decide)]), (h.2.1.mv (k.sub (by decide)) (eA 25 (by decide) (by decide))).adr e9, ⟨⟨?_, ?_, ?_, by omega, fun i hi => ?_⟩, ?_, fun i hi => ?_⟩, (h.2.2.2.1.kp (k.sub (by decide))).adr e9,
    (h.2.2.2.2.1.mv (k.sub (by decide)) (eA 7 (by decide) (by decide)) (eA 9 (by decide) (by decide))).adr e9 (e 3 (by decide) (by decide) (by decide)) (e 4 (by decide) (by decide) (by decide)) (e 5 (by decide) (by decide) (by decide)),
    (h.2.2.2.2.2.1.mv (k.sub (by decide)) (eA 13 (by decide) (by decide)) (eA 14 (by decide) (by decide)) (eA 15 (by decide) (by decide)) (eA 16 (by decide) (by decide)) (eA 18 (by decide) (by decide))).adr e9 (fun i hi => f0 _ (by have := hho i hi; omega)) (e 6 (by decide) (by decide) (by decide)) (e 7 (by decide) (by decide) (by decide)),
    (h.2.2.2.2.2.2.1.mv (k.sub (by decide)) (eA 23 (by decide) (by decide)) (eA 19 (by decide) (by decide))).adr e9 (fun i hi => by rw [e 3 (by decide) (by decide) (by decide)]) (fun i hi => by rw [e 6 (by decide) (by decide) (by decide)]) (e 8 (by decide) (by decide) (by decide)), ?_⟩
  · rw [e9]; exact s0.1.trans w1a
  · rw [e9]; exact (s0.2.2.2.1 _ _).trans w2a
  · rw [e9]
    refine hL.cg (fun i hi => ?_)
    by_cases z : i = nS
    · rw [if_pos z, z, n0]
    · rw [if_neg z, f0 i z]
  · by_cases z : i = nS
    · subst z
      rw [n0, n1]
      refine ⟨q1, q2, q3.trans ((updA_ne (Or.inl (by decide))).trans updA_eq).symm, q4.trans updA_eq.symm, q5, a1, a2, fun d hd => ?_⟩
      rw [hc d hd, a3 d]
      exact rfl
    · have hi : i < nS := by omega
      rw [f0 i z, f1 i z]
      obtain ⟨g1, g2, g3, g4, g5, g6, g7, g8⟩ := w5a i hi
      have t1 := k (ca 0 i) (by rw [g1]; decide)
      have t2 := k (ca 1 i) (by rw [g6]; decide)
      refine ⟨t1.1.trans g1, (t1.2.2.1 _ _).trans g2, (t1.2.2.1 _ _).trans (g3.trans ((updA_ne (Or.inl (by decide))).trans (updA_ne (Or.inr z))).symm), (t1.2.2.1 _ _).trans (g4.trans ((updA_ne (Or.inr z)).trans (updA_ne (Or.inl (by decide)))).symm), (t1.2.2.2.1 _ _).trans g5, t2.1.trans g6, t2.2.1.trans g7, fun d hd => ?_⟩
      rw [t2.2.2.2.2.2.1]
      exact (g8 d hd).keep (fun b hb => k b (by rw [hb]; decide))
  · rw [e9]; exact (s0.2.2.1 _ _).trans ht
  · by_cases z : i = nS
    · subst z
      rw [n0, n2]
      exact ⟨q6, b1, b2, fun j hj => by rw [b3 j, eA 26 (by decide) (by decide), hz j hj]⟩
    · have hi : i < nS := by omega
      rw [f0 i z, f2 i z, eA 26 (by decide) (by decide)]
      obtain ⟨g1, g2, g3, g4⟩ := hk i hi
      have t1 := k (ca 0 i) (by rw [(w5a i hi).1]; decide)
      have t2 := k (ca 2 i) (by rw [g2]; decide)
      exact ⟨(t1.2.2.2.1 _ _).trans g1, t2.1.trans g2, t2.2.1.trans g3, fun j hj => by rw [t2.2.2.2.2.1]; exact g4 j hj⟩
  · refine ⟨fun i j hi hj z => ?_, ?_⟩
    · have x0 : ∀ i, i < nS → ca 0 i ≠ q := fun i hi => ne_kd (w5a i hi).1 hq (by decide)
      have x1 : ∀ i, i < nS → ca 1 i ≠ la := fun i hi => ne_kd (w5a i hi).2.2.2.2.2.1 hla (by decide)
      have x2 : ∀ i, i < nS → ca 2 i ≠ lk := fun i hi => ne_kd (hk i hi).2.1 hlk (by decide)
      by_cases z1 : i = nS
      · by_cases z2 : j = nS
        · rw [z1, z2]
        · rw [z1, n0, n1, n2, f0 j z2, f1 j z2, f2 j z2] at z
          rcases z with z | z | z
          · exact absurd z.symm (x0 j (by omega))
          · exact absurd z.symm (x1 j (by omega))
          · exact absurd z.symm (x2 j (by omega))
      · by_cases z2 : j = nS
        · rw [z2, n0, n1, n2, f0 i z1, f1 i z1, f2 i z1] at z
          rcases z with z | z | z
          · exact absurd z (x0 i (by omega))
          · exact absurd z (x1 i (by omega))
          · exact absurd z (x2 i (by omega))
        · rw [f0 i z1, f1 i z1, f2 i z1, f0 j z2, f1 j z2, f2 j z2] at z
          exact hJ.1 i j (by omega) (by omega) z
    · unfold KJ at hJ
      rw [e 3 (by decide) (by decide) (by decide), e 4 (by decide) (by decide) (by decide), e 6 (by decide) (by decide) (by decide), e 7 (by decide) (by decide) (by decide), e 8 (by decide) (by decide) (by decide)]
      exact hJ.2
end
end NEW43
