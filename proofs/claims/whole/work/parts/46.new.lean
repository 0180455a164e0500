section NEW46
theorem fI_x {w : Wd} {K k a K' k' a' : Nat} {v : Int32} (h : K' ≠ K) : fI (pI w K k a v) K' k' a' = fI w K' k' a' := up3_x h
/-- the arrays with a cover more -/
def newA (A : Nat → Nat → Int32) (nC fi pr : Nat) (su : Int32) (se : Nat) (pri shr : Int32) : Nat → Nat → Int32 := (updA (updA (updA (updA (updA (updA (updA (updA A 23 (10 * nC) (nI fi)) 23 (10 * nC + 1) (nI pr)) 23 (10 * nC + 2) su) 23 (10 * nC + 3) (nI se)) 23 (10 * nC + 4) pri) 23 (10 * nC + 5) shr) 23 (10 * nC + 6) (-1)) 23 (10 * nC + 7) (-1))
section
variable {w : Wd} {de x nS nP nF nC tl : Nat} {A A1 : Nat → Nat → Int32} {F F1 : Nat → Int32} {ho cf cp cs sb pn : Nat → Nat} {dn : Nat → Nat → Nat} {ch : Nat → Nat → List (Nat × Int32)} {ca : Nat → Nat → Nat} {w1 : Wd} {fi pr se q : Nat} {su pri shr v : Int32}
theorem newA_row {k : Nat} (h : k ≠ 23) : newA A nC fi pr su se pri shr k = A k := by
  unfold newA
  iterate 8 rw [updA_row h]
theorem newA_ne {j : Nat} (h : j < 10 * nC ∨ 10 * nC + 7 < j) : newA A nC fi pr su se pri shr 23 j = A 23 j := by
  unfold newA
  iterate 8 rw [updA_ne (Or.inr (by omega))]
theorem newA_0 : newA A nC fi pr su se pri shr 23 (10 * nC) = nI fi := by
  unfold newA
  iterate 7 rw [updA_ne (Or.inr (by omega))]
  exact updA_eq
theorem newA_1 : newA A nC fi pr su se pri shr 23 (10 * nC + 1) = nI pr := by
  unfold newA
  iterate 6 rw [updA_ne (Or.inr (by omega))]
  exact updA_eq
theorem newA_2 : newA A nC fi pr su se pri shr 23 (10 * nC + 2) = su := by
  unfold newA
  iterate 5 rw [updA_ne (Or.inr (by omega))]
  exact updA_eq
theorem newA_3 : newA A nC fi pr su se pri shr 23 (10 * nC + 3) = nI se := by
  unfold newA
  iterate 4 rw [updA_ne (Or.inr (by omega))]
  exact updA_eq
theorem newA_4 : newA A nC fi pr su se pri shr 23 (10 * nC + 4) = pri := by
  unfold newA
  iterate 3 rw [updA_ne (Or.inr (by omega))]
  exact updA_eq
theorem newA_5 : newA A nC fi pr su se pri shr 23 (10 * nC + 5) = shr := by
  unfold newA
  iterate 2 rw [updA_ne (Or.inr (by omega))]
  exact updA_eq
theorem newA_6 : newA A nC fi pr su se pri shr 23 (10 * nC + 6) = -1 := by
  unfold newA
  iterate 1 rw [updA_ne (Or.inr (by omega))]
  exact updA_eq
theorem newA_7 : newA A nC fi pr su se pri shr 23 (10 * nC + 7) = -1 := by
  unfold newA
  exact updA_eq
/-- a cover more -/
theorem covR (h : RC0 w de x A F nS nP nF nC tl ho cf cp cs sb pn dn ch ca) (hq : kd w q = 0) (k : Kp [11, 1020, 10, 81, 1013, 8, 1002, 9, 1041, 7, 1010, 21, 1023, 6, 101, 1053, 5, 41, 1033, 4, 1030, 3] w w1) (hL : RLs w1 de 61 1043 (ca 9 6) (nC + 1) (fun i => if i = nC then q else ca 8 i)) (q1 : kd w1 q = 3) (q2 : fR w1 3 0 q = some (ca 6 fi)) (q3 : fR w1 3 1 q = some (ca 3 pr)) (q4 : fI w1 3 2 q = su) (q5 : fI w1 3 3 q = nI se) (q6 : fI w1 3 4 q = pri) (q7 : fI w1 3 5 q = shr)
    (q8 : fI w1 3 6 q = 0) (q9 : fI w1 3 7 q = -1) (q10 : fI w1 3 8 q = -1) (q11 : fI w1 3 9 q = 0) (q12 : fI w1 3 10 q = 0) (q13 : fI w1 3 11 q = 0) (hz : A 23 (10 * nC + 8) = 0 ∧ A 23 (10 * nC + 9) = 0) (hz2 : A 19 (20 * fi + se) = 0) :
    RC0 w1 de x (newA A nC fi pr su se pri shr) (updF F 24 v) nS nP nF (nC + 1) tl ho (updN cf nC fi) (updN cp nC pr) (updN cs nC se) (updN sb nC 0) pn dn ch (caU ca 8 nC q) := by
  have e : ∀ i, i ≠ 8 → caU ca 8 nC q i = ca i := fun i h0 => caU_row h0
  have f0 : ∀ j, j ≠ nC → caU ca 8 nC q 8 j = ca 8 j := fun j hj => caU_ne (Or.inr hj)
  have n0 : caU ca 8 nC q 8 nC = q := caU_eq
  generalize caU ca 8 nC q = ca1 at e f0 n0 ⊢
  have u1 : ∀ (f : Nat → Nat) (y : Nat), updN f nC y nC = y := fun f y => if_pos rfl
  have u2 : ∀ (f : Nat → Nat) (y i : Nat), i ≠ nC → updN f nC y i = f i := fun f y i hi => if_neg hi
  have hJ := h.2.2.2.2.2.2.2
  have hC := h.2.2.2.2.2.2.1
  have e9 := e 9 (by decide)
  refine ⟨(h.1.mv (k.sub (by decide)) (if_neg (by decide)) (if_neg (by decide)) (if_neg (by decide)) (if_neg (by decide))).adr e9 (by rw [e 3 (by decide)]), (h.2.1.mv (k.sub (by decide)) (newA_row (by decide))).adr e9,
    (h.2.2.1.mv (k.sub (by decide)) (newA_row (by decide)) (newA_row (by decide)) (newA_row (by decide))).adr e9 (e 0 (by decide)) (e 1 (by decide)) (e 2 (by decide)), (h.2.2.2.1.kp (k.sub (by decide))).adr e9,
    (h.2.2.2.2.1.mv (k.sub (by decide)) (newA_row (by decide)) (newA_row (by decide))).adr e9 (e 3 (by decide)) (e 4 (by decide)) (e 5 (by decide)),
    (h.2.2.2.2.2.1.mv (k.sub (by decide)) (newA_row (by decide)) (newA_row (by decide)) (newA_row (by decide)) (newA_row (by decide)) (newA_row (by decide))).adr e9 (fun i hi => by rw [e 0 (by decide)]) (e 6 (by decide)) (e 7 (by decide)), ⟨?_, fun i hi => ?_⟩, ?_⟩
  · rw [e9]
    refine hL.cg (fun i hi => ?_)
    by_cases z : i = nC
    · rw [if_pos z, z, n0]
    · rw [if_neg z, f0 i z]
  · rw [e 6 (by decide), e 3 (by decide), newA_row (k := 19) (by decide)]
    by_cases z : i = nC
    · subst z
      rw [n0, u1, u1, u1, u1, newA_2, newA_3, newA_4, newA_5, newA_6, newA_7, newA_ne (Or.inr (by omega)), newA_ne (Or.inr (by omega)), hz.1, hz.2, hz2]
      exact ⟨q1, q2, q3, q4, q5, q6, q7, q8, q9, q10, q11, q12, q13⟩
    · have hi : i < nC := by omega
      rw [f0 i z, u2 _ _ i z, u2 _ _ i z, u2 _ _ i z, u2 _ _ i z]
      iterate 8 rw [newA_ne (Or.inl (by omega))]
      obtain ⟨g1, g2, g3, g4, g5, g6, g7, g8, g9, g10, g11, g12, g13⟩ := hC.2 i hi
      have s := k (ca 8 i) (by rw [g1]; decide)
      exact ⟨s.1.trans g1, (s.2.2.2.1 _ _).trans g2, (s.2.2.2.1 _ _).trans g3, (s.2.2.1 _ _).trans g4, (s.2.2.1 _ _).trans g5, (s.2.2.1 _ _).trans g6, (s.2.2.1 _ _).trans g7, (s.2.2.1 _ _).trans g8, (s.2.2.1 _ _).trans g9, (s.2.2.1 _ _).trans g10, (s.2.2.1 _ _).trans g11, (s.2.2.1 _ _).trans g12, (s.2.2.1 _ _).trans g13⟩
  · have x0 : ∀ i, i < nC → ca 8 i ≠ q := fun i hi => ne_kd (hC.2 i hi).1 hq (by decide)
    unfold KJ at hJ ⊢
    rw [e 0 (by decide), e 1 (by decide), e 2 (by decide), e 3 (by decide), e 4 (by decide), e 6 (by decide), e 7 (by decide)]
    refine ⟨hJ.1, hJ.2.1, hJ.2.2.1, fun i j hi hj z => ?_⟩
    by_cases z1 : i = nC
    · by_cases z2 : j = nC
      · rw [z1, z2]
      · rw [z1, n0, f0 j z2] at z
        exact absurd z.symm (x0 j (by omega))
    · by_cases z2 : j = nC
      · rw [z2, n0, f0 i z1] at z
        exact absurd z (x0 i (by omega))
      · rw [f0 i z1, f0 j z2] at z
        exact hJ.2.2.2 i j (by omega) (by omega) z
end
theorem sale {F : Nat → Int32} {T se : Nat} (hT : F 0 = nI T) (hT2 : T < 1200) (hse : se < 20) : (decide (nI se * 60 - 30 ≤ F 0) && decide (F 0 < nI se * 60)) = inR (F 0) (60 * nI se - 30) (60 * nI se - 1) := by
  rw [Int32.mul_comm, show (60 : Int32) * nI se = nI (60 * se) from pk_mul 60 se, hT]
  unfold inR
  congr 1
  refine decide_eq_decide.mpr ?_
  rw [i32_lt, i32_le, nI_toInt (by omega), nI_toInt (by omega), show (nI (60 * se) - 1 : Int32).toInt = ((60 * se : Nat) : Int) - 1 from pk_sub_toInt (b := 1) (by omega) (by omega)]
  omega
theorem lastO_no {k : Nat} (hk : k < 100000) : decide (oI (some k) = -1) = false := decide_eq_false (fun z => nI_pos (n := k) (by omega) (by rw [show nI k = -1 from z]; decide))
theorem qF_no {cf cs : Nat → Nat} {fi se n : Nat} (h : lastO (qF cf cs fi se) n = none) : ∀ k, k < n → ¬ (cf k = fi ∧ cs k = se) := by
  induction n with
  | zero => intro k hk; omega
  | succ n ih =>
    intro k hk z
    rw [lastO] at h
    by_cases c : qF cf cs fi se n = true
    · rw [if_pos c] at h; cases h
    · rw [if_neg c] at h
      by_cases e : k = n
      · exact c (by rw [← e]; exact qF_spec.mpr z)
      · exact ih h k (by omega) z
theorem newS4 {f g : Nat → Int32} {n : Nat} {v : Int32} (h : g n = v) (h2 : ∀ k, k < n → g k = f k) : sumS g (n + 1) = sumS f n + v := by
  show sumS g n + g n = _
  rw [h, sumS_ext n h2]
theorem dX9_sell_0 : decode cX9_sell 0 = .ok (.aload_n 0, 1) := by decide +kernel
theorem dX9_sell_1 : decode cX9_sell 1 = .ok (.iload_n 1, 1) := by decide +kernel
theorem dX9_sell_2 : decode cX9_sell 2 = .ok (.invokevirtual 161, 3) := by decide +kernel
theorem dX9_sell_5 : decode cX9_sell 5 = .ok (.astore 5, 2) := by decide +kernel
theorem dX9_sell_7 : decode cX9_sell 7 = .ok (.aload_n 0, 1) := by decide +kernel
theorem dX9_sell_8 : decode cX9_sell 8 = .ok (.iload_n 2, 1) := by decide +kernel
theorem dX9_sell_9 : decode cX9_sell 9 = .ok (.invokevirtual 177, 3) := by decide +kernel
theorem dX9_sell_12 : decode cX9_sell 12 = .ok (.astore 6, 2) := by decide +kernel
theorem dX9_sell_14 : decode cX9_sell 14 = .ok (.iload 4, 2) := by decide +kernel
theorem dX9_sell_16 : decode cX9_sell 16 = .ok (.invokestatic 181, 3) := by decide +kernel
theorem dX9_sell_19 : decode cX9_sell 19 = .ok (.iload_n 3, 1) := by decide +kernel
theorem dX9_sell_20 : decode cX9_sell 20 = .ok (.iconst 1, 1) := by decide +kernel
theorem dX9_sell_21 : decode cX9_sell 21 = .ok (.sipush 2000, 3) := by decide +kernel
theorem dX9_sell_24 : decode cX9_sell 24 = .ok (.invokestatic 109, 3) := by decide +kernel
theorem dX9_sell_27 : decode cX9_sell 27 = .ok (.ifCond .ne 13, 3) := by decide +kernel
theorem dX9_sell_30 : decode cX9_sell 30 = .ok (.new 113, 3) := by decide +kernel
theorem dX9_sell_33 : decode cX9_sell 33 = .ok (.dup, 1) := by decide +kernel
theorem dX9_sell_34 : decode cX9_sell 34 = .ok (.ldc 184, 2) := by decide +kernel
theorem dX9_sell_36 : decode cX9_sell 36 = .ok (.invokespecial 117, 3) := by decide +kernel
theorem dX9_sell_39 : decode cX9_sell 39 = .ok (.athrow, 1) := by decide +kernel
theorem dX9_sell_40 : decode cX9_sell 40 = .ok (.aload_n 0, 1) := by decide +kernel
theorem dX9_sell_41 : decode cX9_sell 41 = .ok (.getfield 33, 3) := by decide +kernel
theorem dX9_sell_44 : decode cX9_sell 44 = .ok (.invokevirtual 82, 3) := by decide +kernel
theorem dX9_sell_47 : decode cX9_sell 47 = .ok (.bipush 60, 2) := by decide +kernel
theorem dX9_sell_49 : decode cX9_sell 49 = .ok (.if_icmp .ge 33, 3) := by decide +kernel
theorem dX9_sell_52 : decode cX9_sell 52 = .ok (.aload_n 0, 1) := by decide +kernel
theorem dX9_sell_53 : decode cX9_sell 53 = .ok (.iload 4, 2) := by decide +kernel
theorem dX9_sell_55 : decode cX9_sell 55 = .ok (.invokevirtual 186, 3) := by decide +kernel
theorem dX9_sell_58 : decode cX9_sell 58 = .ok (.ifCond .eq 24, 3) := by decide +kernel
theorem dX9_sell_61 : decode cX9_sell 61 = .ok (.aload_n 0, 1) := by decide +kernel
theorem dX9_sell_62 : decode cX9_sell 62 = .ok (.aload 5, 2) := by decide +kernel
theorem dX9_sell_64 : decode cX9_sell 64 = .ok (.iload 4, 2) := by decide +kernel
theorem dX9_sell_66 : decode cX9_sell 66 = .ok (.invokevirtual 190, 3) := by decide +kernel
theorem dX9_sell_69 : decode cX9_sell 69 = .ok (.ifnonnull 13, 3) := by decide +kernel
theorem dX9_sell_72 : decode cX9_sell 72 = .ok (.aload 5, 2) := by decide +kernel
theorem dX9_sell_74 : decode cX9_sell 74 = .ok (.getfield 194, 3) := by decide +kernel
theorem dX9_sell_77 : decode cX9_sell 77 = .ok (.bipush 20, 2) := by decide +kernel
theorem dX9_sell_79 : decode cX9_sell 79 = .ok (.if_icmp .ge 13, 3) := by decide +kernel
theorem dX9_sell_82 : decode cX9_sell 82 = .ok (.new 89, 3) := by decide +kernel
theorem dX9_sell_85 : decode cX9_sell 85 = .ok (.dup, 1) := by decide +kernel
theorem dX9_sell_86 : decode cX9_sell 86 = .ok (.ldc 197, 2) := by decide +kernel
theorem dX9_sell_88 : decode cX9_sell 88 = .ok (.invokespecial 93, 3) := by decide +kernel
theorem dX9_sell_91 : decode cX9_sell 91 = .ok (.athrow, 1) := by decide +kernel
theorem dX9_sell_92 : decode cX9_sell 92 = .ok (.aload_n 0, 1) := by decide +kernel
theorem dX9_sell_93 : decode cX9_sell 93 = .ok (.iload_n 3, 1) := by decide +kernel
theorem dX9_sell_94 : decode cX9_sell 94 = .ok (.aload_n 0, 1) := by decide +kernel
theorem dX9_sell_95 : decode cX9_sell 95 = .ok (.aload 5, 2) := by decide +kernel
theorem dX9_sell_97 : decode cX9_sell 97 = .ok (.getfield 199, 3) := by decide +kernel
theorem dX9_sell_100 : decode cX9_sell 100 = .ok (.aload 6, 2) := by decide +kernel
theorem dX9_sell_102 : decode cX9_sell 102 = .ok (.invokevirtual 203, 3) := by decide +kernel
theorem dX9_sell_105 : decode cX9_sell 105 = .ok (.invokevirtual 207, 3) := by decide +kernel
theorem dX9_sell_108 : decode cX9_sell 108 = .ok (.istore 7, 2) := by decide +kernel
theorem dX9_sell_110 : decode cX9_sell 110 = .ok (.iload 7, 2) := by decide +kernel
theorem dX9_sell_112 : decode cX9_sell 112 = .ok (.iload_n 3, 1) := by decide +kernel
theorem dX9_sell_113 : decode cX9_sell 113 = .ok (.invokestatic 211, 3) := by decide +kernel
theorem dX9_sell_116 : decode cX9_sell 116 = .ok (.istore 8, 2) := by decide +kernel
theorem dX9_sell_118 : decode cX9_sell 118 = .ok (.aload_n 0, 1) := by decide +kernel
theorem dX9_sell_119 : decode cX9_sell 119 = .ok (.getfield 33, 3) := by decide +kernel
theorem dX9_sell_122 : decode cX9_sell 122 = .ok (.new 214, 3) := by decide +kernel
theorem dX9_sell_125 : decode cX9_sell 125 = .ok (.dup, 1) := by decide +kernel
theorem dX9_sell_126 : decode cX9_sell 126 = .ok (.aload 5, 2) := by decide +kernel
theorem dX9_sell_128 : decode cX9_sell 128 = .ok (.aload 6, 2) := by decide +kernel
theorem dX9_sell_130 : decode cX9_sell 130 = .ok (.iload_n 3, 1) := by decide +kernel
theorem dX9_sell_131 : decode cX9_sell 131 = .ok (.iload 4, 2) := by decide +kernel
theorem dX9_sell_133 : decode cX9_sell 133 = .ok (.iload 7, 2) := by decide +kernel
theorem dX9_sell_135 : decode cX9_sell 135 = .ok (.iload 8, 2) := by decide +kernel
theorem dX9_sell_137 : decode cX9_sell 137 = .ok (.invokespecial 216, 3) := by decide +kernel
theorem dX9_sell_140 : decode cX9_sell 140 = .ok (.invokevirtual 101, 3) := by decide +kernel
theorem dX9_sell_143 : decode cX9_sell 143 = .ok (.pop, 1) := by decide +kernel
theorem dX9_sell_144 : decode cX9_sell 144 = .ok (.aload 5, 2) := by decide +kernel
theorem dX9_sell_146 : decode cX9_sell 146 = .ok (.dup, 1) := by decide +kernel
theorem dX9_sell_147 : decode cX9_sell 147 = .ok (.getfield 219, 3) := by decide +kernel
theorem dX9_sell_150 : decode cX9_sell 150 = .ok (.iload 7, 2) := by decide +kernel
theorem dX9_sell_152 : decode cX9_sell 152 = .ok (.iload 8, 2) := by decide +kernel
theorem dX9_sell_154 : decode cX9_sell 154 = .ok (.isub, 1) := by decide +kernel
theorem dX9_sell_155 : decode cX9_sell 155 = .ok (.iadd, 1) := by decide +kernel
theorem dX9_sell_156 : decode cX9_sell 156 = .ok (.putfield 219, 3) := by decide +kernel
theorem dX9_sell_159 : decode cX9_sell 159 = .ok (.aload_n 0, 1) := by decide +kernel
theorem dX9_sell_160 : decode cX9_sell 160 = .ok (.getfield 39, 3) := by decide +kernel
theorem dX9_sell_163 : decode cX9_sell 163 = .ok (.dup, 1) := by decide +kernel
theorem dX9_sell_164 : decode cX9_sell 164 = .ok (.getfield 222, 3) := by decide +kernel
theorem dX9_sell_167 : decode cX9_sell 167 = .ok (.iload 7, 2) := by decide +kernel
theorem dX9_sell_169 : decode cX9_sell 169 = .ok (.iadd, 1) := by decide +kernel
theorem dX9_sell_170 : decode cX9_sell 170 = .ok (.putfield 222, 3) := by decide +kernel
theorem dX9_sell_173 : decode cX9_sell 173 = .ok (.aload_n 0, 1) := by decide +kernel
theorem dX9_sell_174 : decode cX9_sell 174 = .ok (.getfield 39, 3) := by decide +kernel
theorem dX9_sell_177 : decode cX9_sell 177 = .ok (.dup, 1) := by decide +kernel
theorem dX9_sell_178 : decode cX9_sell 178 = .ok (.getfield 225, 3) := by decide +kernel
theorem dX9_sell_181 : decode cX9_sell 181 = .ok (.iload 8, 2) := by decide +kernel
theorem dX9_sell_183 : decode cX9_sell 183 = .ok (.iadd, 1) := by decide +kernel
theorem dX9_sell_184 : decode cX9_sell 184 = .ok (.putfield 225, 3) := by decide +kernel
theorem dX9_sell_187 : decode cX9_sell 187 = .ok (.aload_n 0, 1) := by decide +kernel
theorem dX9_sell_188 : decode cX9_sell 188 = .ok (.getfield 33, 3) := by decide +kernel
theorem dX9_sell_191 : decode cX9_sell 191 = .ok (.invokevirtual 82, 3) := by decide +kernel
theorem dX9_sell_194 : decode cX9_sell 194 = .ok (.iconst 1, 1) := by decide +kernel
theorem dX9_sell_195 : decode cX9_sell 195 = .ok (.isub, 1) := by decide +kernel
theorem dX9_sell_196 : decode cX9_sell 196 = .ok (.ireturn, 1) := by decide +kernel
set_option maxHeartbeats 1000000 in
set_option maxRecDepth 100000 in
theorem c_X9_sell (de : Nat) (w : Wd) (x : Nat) (A : Nat → Nat → Int32) (F : Nat → Int32) (nS nP nF nC tl : Nat) (ho cf cp cs sb pn : Nat → Nat) (dn : Nat → Nat → Nat) (ch : Nat → Nat → List (Nat × Int32)) (ca : Nat → Nat → Nat) (h : RC0 w de x A F nS nP nF nC tl ho cf cp cs sb pn dn ch ca) (hB : KB w nC A F ca) (T rt ly : Nat) (sN : Nat → Nat) (hv : PV A F nS nP nF nC tl ho cf cp cs sb pn dn ch T rt ly sN) (xa xp su xe : Int32) (fi : Nat) (hfi : inR xa 0 (F 17 - 1) = true → xa = nI fi ∧ fi < nF) (pr : Nat) (hpr : inR xp 0 (F 10 - 1) = true → xp = nI pr ∧ pr < nP) (se : Nat) (hse : inR xe 0 19 = true → xe = nI se ∧ se < 20) (htl : tl < 100000) : Cw yX9_sell cX9_sell 9 (some .int) 7 171 8 1450 de [.ref x, .int xa, .int xp, .int su, .int xe] w (fun r w' => goV (bI (inR xa 0 (F 17 - 1) && (inR xp 0 (F 10 - 1) && inR xe 0 19))) (bI (inR su 1 2000)) (bI ((inR xa 0 (F 17 - 1) && (inR xp 0 (F 10 - 1) && inR xe 0 19)) && (decide (F 24 < 60) && ((inR (F 0) ((60 * (if (inR xa 0 (F 17 - 1) && (inR xp 0 (F 10 - 1) && inR xe 0 19)) = true then xe else 0)) - 30) ((60 * (if (inR xa 0 (F 17 - 1) && (inR xp 0 (F 10 - 1) && inR xe 0 19)) = true then xe else 0)) - 1)) && (decide ((oI (lastO (qF cf cs fi se) nC)) = -1) && decide (20 ≤ A 13 fi)))))) = 0 ∧ r = some (.int (nI nC)) ∧ ∃ (ca' : Nat → Nat → Nat), RC0 w' de x (updA (newA A nC fi pr su se (priV su (prcV (ratA A nS pr (pn pr) (dn pr) (ho fi)) (T / 60)) (F 20)) (shrV (priV su (prcV (ratA A nS pr (pn pr) (dn pr) (ho fi)) (T / 60)) (F 20)) su)) 16 fi (A 16 fi + ((priV su (prcV (ratA A nS pr (pn pr) (dn pr) (ho fi)) (T / 60)) (F 20)) - (shrV (priV su (prcV (ratA A nS pr (pn pr) (dn pr) (ho fi)) (T / 60)) (F 20)) su)))) (updF F 24 (nI nC + 1)) nS nP nF (nC + 1) tl ho (updN cf nC fi) (updN cp nC pr) (updN cs nC se) (updN sb nC 0) pn dn ch ca' ∧ KB w' (nC + 1) (updA (newA A nC fi pr su se (priV su (prcV (ratA A nS pr (pn pr) (dn pr) (ho fi)) (T / 60)) (F 20)) (shrV (priV su (prcV (ratA A nS pr (pn pr) (dn pr) (ho fi)) (T / 60)) (F 20)) su)) 16 fi (A 16 fi + ((priV su (prcV (ratA A nS pr (pn pr) (dn pr) (ho fi)) (T / 60)) (F 20)) - (shrV (priV su (prcV (ratA A nS pr (pn pr) (dn pr) (ho fi)) (T / 60)) (F 20)) su)))) (updF F 24 (nI nC + 1)) ca' ∧ FrR w w') (fun E w' => w = w' ∧ ((E = "java/lang/IndexOutOfBoundsException" ∧ goV (bI (inR xa 0 (F 17 - 1) && (inR xp 0 (F 10 - 1) && inR xe 0 19))) (bI (inR su 1 2000)) (bI ((inR xa 0 (F 17 - 1) && (inR xp 0 (F 10 - 1) && inR xe 0 19)) && (decide (F 24 < 60) && ((inR (F 0) ((60 * (if (inR xa 0 (F 17 - 1) && (inR xp 0 (F 10 - 1) && inR xe 0 19)) = true then xe else 0)) - 30) ((60 * (if (inR xa 0 (F 17 - 1) && (inR xp 0 (F 10 - 1) && inR xe 0 19)) = true then xe else 0)) - 1)) && (decide ((oI (lastO (qF cf cs fi se) nC)) = -1) && decide (20 ≤ A 13 fi)))))) = 1) ∨ (E = "java/lang/IllegalArgumentException" ∧ goV (bI (inR xa 0 (F 17 - 1) && (inR xp 0 (F 10 - 1) && inR xe 0 19))) (bI (inR su 1 2000)) (bI ((inR xa 0 (F 17 - 1) && (inR xp 0 (F 10 - 1) && inR xe 0 19)) && (decide (F 24 < 60) && ((inR (F 0) ((60 * (if (inR xa 0 (F 17 - 1) && (inR xp 0 (F 10 - 1) && inR xe 0 19)) = true then xe else 0)) - 30) ((60 * (if (inR xa 0 (F 17 - 1) && (inR xp 0 (F 10 - 1) && inR xe 0 19)) = true then xe else 0)) - 1)) && (decide ((oI (lastO (qF cf cs fi se) nC)) = -1) && decide (20 ≤ A 13 fi)))))) = 2) ∨ (E = "java/lang/IllegalStateException" ∧ goV (bI (inR xa 0 (F 17 - 1) && (inR xp 0 (F 10 - 1) && inR xe 0 19))) (bI (inR su 1 2000)) (bI ((inR xa 0 (F 17 - 1) && (inR xp 0 (F 10 - 1) && inR xe 0 19)) && (decide (F 24 < 60) && ((inR (F 0) ((60 * (if (inR xa 0 (F 17 - 1) && (inR xp 0 (F 10 - 1) && inR xe 0 19)) = true then xe else 0)) - 30) ((60 * (if (inR xa 0 (F 17 - 1) && (inR xp 0 (F 10 - 1) && inR xe 0 19)) = true then xe else 0)) - 1)) && (decide ((oI (lastO (qF cf cs fi se) nC)) = -1) && decide (20 ≤ A 13 fi)))))) = 3))) := by
  refine Cw.mk (by decide +kernel) [(0, .ref x), (1, .int xa), (2, .int xp), (3, .int su), (4, .int xe)] rfl (Nat.le_of_ble_eq_true rfl) ?_
  intro p l e R s m args below meth c D cy z C ht
  obtain ⟨h60, h16, h5, hcv, hho⟩ := id hv.hcv
  have hfr : FrR w w := FrR.rf
  have hbk : Kp [2] w w := Kp.rf
  have hnS : nS < 100000 := by omega
  have hnP : nP < 100000 := by have := hv.hP6; omega
  have hnF : nF < 100000 := by omega
  have hnC : nC < 100000 := by omega
  refine g_aload_n C dX9_sell_0 rfl ?_
  refine g_iload_n C dX9_sell_1 rfl ?_
  refine gx_callV C cls_10 11 mt_X9_farmNumbered [.int xa] (c_X9_farmNumbered de w x A F nS nP nF nC tl ho cf cp cs sb pn dn ch ca h xa fi hv.hN hnF hfi) h.1.1 (by decide) k_569 rfl rfl (Nat.le_of_ble_eq_true rfl) (by decide) (by decide) (by decide) (by decide) dX9_sell_2 (fun E9 w9 hx9 => gx_out C ht (by decide) (by decide) ⟨hx9.2.1, Or.inl ⟨hx9.1, goV_1 (and_f1 hx9.2.2)⟩⟩) (fun r_2 w_2 hp_2 => ?_)
  obtain ⟨rfl, rfl, f_2⟩ := hp_2
  obtain ⟨rfl, hf5⟩ := hfi f_2
  refine g_astore C dX9_sell_5 (by decide) ?_
  refine g_aload_n C dX9_sell_7 rfl ?_
  refine g_iload_n C dX9_sell_8 rfl ?_
  refine gx_callV C cls_10 11 mt_X9_productNumbered [.int xp] (c_X9_productNumbered de w x A F nS nP nF nC tl ho cf cp cs sb pn dn ch ca h xp pr hv.hP hnP hpr) h.1.1 (by decide) k_600 rfl rfl (Nat.le_of_ble_eq_true rfl) (by decide) (by decide) (by decide) (by decide) dX9_sell_9 (fun E9 w9 hx9 => gx_out C ht (by decide) (by decide) ⟨hx9.2.1, Or.inl ⟨hx9.1, goV_1 (and_f2 (and_f1 hx9.2.2))⟩⟩) (fun r_9 w_9 hp_9 => ?_)
  obtain ⟨rfl, rfl, f_9⟩ := hp_9
  obtain ⟨rfl, hp5⟩ := hpr f_9
  refine g_astore C dX9_sell_12 (by decide) ?_
  refine g_iload C dX9_sell_14 rfl ?_
  refine gx_callS C mt_X9_testSeason [.int xe] (c_X9_testSeason de w xe) k_605 rfl rfl (Nat.le_of_ble_eq_true rfl) (by decide) (by decide) (by decide) (by decide) dX9_sell_16 (fun E9 w9 hx9 => gx_out C ht (by decide) (by decide) ⟨hx9.2.1, Or.inl ⟨hx9.1, goV_1 (and_f2 (and_f2 hx9.2.2))⟩⟩) (fun r_16 w_16 hp_16 => ?_)
  obtain ⟨rfl, rfl, f_16⟩ := hp_16
  obtain ⟨rfl, he5⟩ := hse f_16
  refine g_iload_n C dX9_sell_19 rfl ?_
  refine g_iconst C 1 dX9_sell_20 (by rfl) ?_
  refine g_sipush C 2000 dX9_sell_21 (by rfl) ?_
  refine g_callS C mt_X9_isWithin [.int su, .int 1, .int 2000] (c_X9_isWithin de w su 1 2000) k_189 rfl rfl (Nat.le_of_ble_eq_true rfl) (by decide) (by decide) (by decide) (by decide) dX9_sell_24 (fun r_24 w_24 hp_24 => ?_)
  obtain ⟨rfl, rfl⟩ := hp_24
  refine g_if_ne C 40 dX9_sell_27 (by decide) (fun c_27 => ?_) (fun c_27 => ?_)
  · have b_27 := bI_n0.mp c_27
    refine g_aload_n C dX9_sell_40 rfl ?_
    refine g_getR (b := (ca 9 6)) C cls_10 11 4 h.1.1 h.1.2.2.2.2.2.1 rfl k_140 dX9_sell_41 ?_
    refine g_callV C cls_0 61 mt_Jx4a65c_size_8abf5 [] (c_sz de w 61 1043 KL_co (ca 9 6) nC (ca 8) h.2.2.2.2.2.2.1.1) h.2.2.2.2.2.2.1.1.1 (by decide) k_260 rfl rfl (Nat.le_of_ble_eq_true rfl) (by decide) (by decide) (by decide) (by decide) dX9_sell_44 (fun r_44 w_44 hp_44 => ?_)
    obtain ⟨rfl, rfl⟩ := hp_44
    refine g_bipush C 60 dX9_sell_47 (by rfl) ?_
    refine g_icmp_ge C 82 dX9_sell_49 (by decide) (fun c_49 => ?_) (fun c_49 => ?_)
    · have b_49 := And.intro (decide_eq_false (Int32.not_lt.mpr c_49)) (decide_eq_true c_49)
      exact gx_throw C ht th_X9_93 k_264 k_15 (is := 197) (text := "there are 60 covers, or this one can't be sold now") (by decide) dX9_sell_82 dX9_sell_85 dX9_sell_86 dX9_sell_88 dX9_sell_91 (by decide) (Nat.le_of_ble_eq_true rfl) (by decide) (by decide) (by first | exact ⟨rfl, Or.inr (Or.inr ⟨rfl, goV_3 (and_t f_2 (and_t f_9 f_16)) b_27 (and_f2 (and_f1 (by rw [hv.hC]; exact b_49.1)))⟩)⟩ | exact ⟨rfl, Or.inr (Or.inr ⟨rfl, goV_3 (and_t f_2 (and_t f_9 f_16)) b_27 (and_f2 (and_f2 (and_f1 (by rw [if_pos (and_t f_2 (and_t f_9 f_16))]; exact b_58))))⟩)⟩ | exact ⟨rfl, Or.inr (Or.inr ⟨rfl, goV_3 (and_t f_2 (and_t f_9 f_16)) b_27 (and_f2 (and_f2 (and_f2 (and_f1 (by first | exact hdn | (rw [hlo]; exact hdn))))))⟩)⟩ | exact ⟨rfl, Or.inr (Or.inr ⟨rfl, goV_3 (and_t f_2 (and_t f_9 f_16)) b_27 (and_f2 (and_f2 (and_f2 (and_f2 b_79.2))))⟩)⟩)
    · have b_49 := And.intro (decide_eq_true (Int32.not_le.mp c_49)) (decide_eq_false c_49)
      refine g_aload_n C dX9_sell_52 rfl ?_
      refine g_iload C dX9_sell_53 rfl ?_
      refine g_callV C cls_10 11 mt_X9_isOnSale [.int (nI se)] (c_X9_isOnSale de w x h.1.1 (nI se)) h.1.1 (by decide) k_610 rfl rfl (Nat.le_of_ble_eq_true rfl) (by decide) (by decide) (by decide) (by decide) dX9_sell_55 (fun r_55 w_55 hp_55 => ?_)
      obtain ⟨rfl, rfl⟩ := hp_55
      rw [show (decide (nI se * 60 - 30 ≤ fI w 11 8 x) && decide (fI w 11 8 x < nI se * 60)) = inR (F 0) (60 * nI se - 30) (60 * nI se - 1) by rw [h.1.2.2.2.2.2.2.2.2.2.1]; exact sale hv.hT hv.hT2 he5]
      refine g_if_eq C 82 dX9_sell_58 (by decide) (fun c_58 => ?_) (fun c_58 => ?_)
      · have b_58 := bI_0.mp c_58
        exact gx_throw C ht th_X9_93 k_264 k_15 (is := 197) (text := "there are 60 covers, or this one can't be sold now") (by decide) dX9_sell_82 dX9_sell_85 dX9_sell_86 dX9_sell_88 dX9_sell_91 (by decide) (Nat.le_of_ble_eq_true rfl) (by decide) (by decide) (by first | exact ⟨rfl, Or.inr (Or.inr ⟨rfl, goV_3 (and_t f_2 (and_t f_9 f_16)) b_27 (and_f2 (and_f1 (by rw [hv.hC]; exact b_49.1)))⟩)⟩ | exact ⟨rfl, Or.inr (Or.inr ⟨rfl, goV_3 (and_t f_2 (and_t f_9 f_16)) b_27 (and_f2 (and_f2 (and_f1 (by rw [if_pos (and_t f_2 (and_t f_9 f_16))]; exact b_58))))⟩)⟩ | exact ⟨rfl, Or.inr (Or.inr ⟨rfl, goV_3 (and_t f_2 (and_t f_9 f_16)) b_27 (and_f2 (and_f2 (and_f2 (and_f1 (by first | exact hdn | (rw [hlo]; exact hdn))))))⟩)⟩ | exact ⟨rfl, Or.inr (Or.inr ⟨rfl, goV_3 (and_t f_2 (and_t f_9 f_16)) b_27 (and_f2 (and_f2 (and_f2 (and_f2 b_79.2))))⟩)⟩)
      · have b_58 := bI_n0.mp c_58
        refine g_aload_n C dX9_sell_61 rfl ?_
        refine g_aload C dX9_sell_62 rfl ?_
        refine g_iload C dX9_sell_64 rfl ?_
        refine g_callV C cls_10 11 mt_X9_coverOf [.ref (ca 6 fi), .int (nI se)] (c_X9_coverOf de w x A F nS nP nF nC tl ho cf cp cs sb pn dn ch ca h hv.hcv hv.huq fi se hf5 he5) h.1.1 (by decide) k_617 rfl rfl (Nat.le_of_ble_eq_true rfl) (by decide) (by decide) (by decide) (by decide) dX9_sell_66 (fun r_66 w_66 hp_66 => ?_)
        obtain ⟨rfl, rfl⟩ := hp_66
        rcases hlo : (lastO (qF cf cs fi se) nC) with _ | k
        · have hdn : decide (oI (none : Option Nat) = -1) = true := rfl
          refine g_ifnonnullN C dX9_sell_69 ?_
          refine g_aload C dX9_sell_72 rfl ?_
          refine g_getI C cls_3 4 3 (by first | exact hFk | exact (h.2.2.2.2.2.1.2 fi hf5).1) rfl k_540 dX9_sell_74 ?_
          rw [(h.2.2.2.2.2.1.2 fi hf5).2.2.2.2.2.2.2.1]
          refine g_bipush C 20 dX9_sell_77 (by rfl) ?_
          refine g_icmp_ge C 92 dX9_sell_79 (by decide) (fun c_79 => ?_) (fun c_79 => ?_)
          · have b_79 := And.intro (decide_eq_false (Int32.not_lt.mpr c_79)) (decide_eq_true c_79)
            refine g_aload_n C dX9_sell_92 rfl ?_
            refine g_iload_n C dX9_sell_93 rfl ?_
            refine g_aload_n C dX9_sell_94 rfl ?_
            refine g_aload C dX9_sell_95 rfl ?_
            refine g_getR (b := (ca 0 (ho fi))) C cls_3 4 1 (by first | exact hFk | exact (h.2.2.2.2.2.1.2 fi hf5).1) (h.2.2.2.2.2.1.2 fi hf5).2.2.1 rfl k_536 dX9_sell_97 ?_
            refine g_aload C dX9_sell_100 rfl ?_
            refine g_callV C cls_10 11 mt_X9_pricesRate [.ref (ca 0 (ho fi)), .ref (ca 3 pr)] (k_pricesRate de w x A F nS nP nF nC tl ho cf cp cs sb pn dn ch ca h (ho fi) pr T (hho fi hf5).2 hp5 htl hv.hT hv.hT2) h.1.1 (by decide) k_623 rfl rfl (Nat.le_of_ble_eq_true rfl) (by decide) (by decide) (by decide) (by decide) dX9_sell_102 (fun r_102 w_102 hp_102 => ?_)
            obtain ⟨rfl, g, rfl⟩ := hp_102
            rw [prcV_congr (g := ratA A nS pr (pn pr) (dn pr) (ho fi)) (fun j hj => (rat_e hv.hca hv.hxy h5 (by have := hv.hT2; omega) (hho fi hf5).2).symm)]
            replace hfr := hfr.tr (FrR.stR h.2.2.2.1.2.2.1 (by decide) : FrR _ (stR w 1010 (ca 9 2) g))
            replace hbk := hbk.tr (Kp.stR h.2.2.2.1.2.2.1 (by decide) : Kp [2] _ (stR w 1010 (ca 9 2) g))
            replace h := h.view g
            generalize stR w 1010 (ca 9 2) g = w1 at h hfr hbk ⊢
            refine g_callV C cls_10 11 mt_X9_priceOf [.int su, .int (prcV (ratA A nS pr (pn pr) (dn pr) (ho fi)) (T / 60))] (c_X9_priceOf de w1 x h.1.1 su (prcV (ratA A nS pr (pn pr) (dn pr) (ho fi)) (T / 60))) h.1.1 (by decide) k_679 rfl rfl (Nat.le_of_ble_eq_true rfl) (by decide) (by decide) (by decide) (by decide) dX9_sell_105 (fun r_105 w_105 hp_105 => ?_)
            obtain ⟨rfl, rfl⟩ := hp_105
            rw [h.1.2.2.2.2.2.2.2.2.2.2.1]
            refine g_istore C dX9_sell_108 (by decide) ?_
            refine g_iload C dX9_sell_110 rfl ?_
            refine g_iload_n C dX9_sell_112 rfl ?_
            refine g_callS C mt_X9_stateShare [.int (priV su (prcV (ratA A nS pr (pn pr) (dn pr) (ho fi)) (T / 60)) (F 20)), .int su] (c_X9_stateShare de w1 (priV su (prcV (ratA A nS pr (pn pr) (dn pr) (ho fi)) (T / 60)) (F 20)) su (fun z => by have h9 := (inR_iff.mp b_27).1; rw [i32_lt] at z; have h8 : (1 : Int32).toInt = 1 := rfl; omega)) k_683 rfl rfl (Nat.le_of_ble_eq_true rfl) (by decide) (by decide) (by decide) (by decide) dX9_sell_113 (fun r_113 w_113 hp_113 => ?_)
            obtain ⟨rfl, rfl⟩ := hp_113
            refine g_istore C dX9_sell_116 (by decide) ?_
            refine g_aload_n C dX9_sell_118 rfl ?_
            refine g_getR (b := (ca 9 6)) C cls_10 11 4 h.1.1 h.1.2.2.2.2.2.1 rfl k_140 dX9_sell_119 ?_
            refine g_new C cls_2 dv_2 3 rfl k_621 k_687 k_26 (by decide) (by decide) dX9_sell_122 (fun q hq => ?_)
            intro hde
            have h0 := h
            have hkq : kd (nw w1 q 3 0) q = 3 := nw_kd0
            have h := h0.kp ((Old.n1 hq : Old w1 (nw w1 q 3 0)).kp (by decide))
            refine g_dup C dX9_sell_125 rfl ?_
            refine g_aload C dX9_sell_126 rfl ?_
            refine g_aload C dX9_sell_128 rfl ?_
            refine g_iload_n C dX9_sell_130 rfl ?_
            refine g_iload C dX9_sell_131 rfl ?_
            refine g_iload C dX9_sell_133 rfl ?_
            refine g_iload C dX9_sell_135 rfl ?_
            refine g_callI C mt_X1_init [.ref (ca 6 fi), .ref (ca 3 pr), .int su, .int (nI se), .int (priV su (prcV (ratA A nS pr (pn pr) (dn pr) (ho fi)) (T / 60)) (F 20)), .int (shrV (priV su (prcV (ratA A nS pr (pn pr) (dn pr) (ho fi)) (T / 60)) (F 20)) su)] (c_X1_init de _ q (ca 6 fi) (ca 3 pr) su (nI se) (priV su (prcV (ratA A nS pr (pn pr) (dn pr) (ho fi)) (T / 60)) (F 20)) (shrV (priV su (prcV (ratA A nS pr (pn pr) (dn pr) (ho fi)) (T / 60)) (F 20)) su) hkq) k_688 rfl rfl (Nat.le_of_ble_eq_true rfl) (by decide) (by decide) (by decide) (by decide) dX9_sell_137 (fun r_137 w_137 hp_137 => ?_)
            obtain ⟨rfl, f1, q1, q2, q3, q4, q5, q6, q7, q8, q9, q10, q11, q12, q13⟩ := hp_137
            have o2 : Old w1 w_137 := Old.mk2 hq (fun b _ hb2 => f1 b hb2)
            have h := h0.kp (o2.kp (by decide))
            refine g_de C (fun hde2 => ?_)
            refine g_callV C cls_0 61 mt_Jx4a65c_add_9ea2d [.ref q] (c_Jx4a65c_add_9ea2d de w_137 61 1043 KL_co cls_2 ca_Cover 3 (by decide) (ca 9 6) nC q (ca 8) h.2.2.2.2.2.2.1.1 (by omega) q1 (fun i hi => (h.2.2.2.2.2.2.1.2 i hi).1)) h.2.2.2.2.2.2.1.1.1 (by decide) k_309 rfl rfl (Nat.le_of_ble_eq_true rfl) (by decide) (by decide) (by decide) (by decide) dX9_sell_140 (fun r_140 w_140 hp_140 => ?_)
            obtain ⟨rfl, hadd⟩ := hp_140
            have hA := AddP.old o2 hadd h.2.2.2.2.2.2.1.1 hde2
            have sq := hadd.sm h.2.2.2.2.2.2.1.1 hde2 q (by rw [q1]; decide) (by rw [q1]; decide) (by rw [q1]; decide)
            have hn60 : nC < 60 := nI_lt_of (b := 60) (of_decide_eq_true b_49.1) (by omega) (by omega)
            obtain ⟨ca1, c9, c6, h⟩ : ∃ ca1 : Nat → Nat → Nat, ca1 9 = ca 9 ∧ ca1 6 = ca 6 ∧ RC0 w_140 de x (newA A nC fi pr su se (priV su (prcV (ratA A nS pr (pn pr) (dn pr) (ho fi)) (T / 60)) (F 20)) (shrV (priV su (prcV (ratA A nS pr (pn pr) (dn pr) (ho fi)) (T / 60)) (F 20)) su)) (updF F 24 (nI nC + 1)) nS nP nF (nC + 1) tl ho (updN cf nC fi) (updN cp nC pr) (updN cs nC se) (updN sb nC 0) pn dn ch ca1 := ⟨_, caU_row (by decide), caU_row (by decide), covR h0 hq (Kp.add hA (by decide)) hadd.1 (v := nI nC + 1) (fi := fi) (pr := pr) (se := se) (sq.1.trans q1) ((sq.2.2.2.1 _ _).trans q2) ((sq.2.2.2.1 _ _).trans q3) ((sq.2.2.1 _ _).trans q4) ((sq.2.2.1 _ _).trans q5) ((sq.2.2.1 _ _).trans q6) ((sq.2.2.1 _ _).trans q7) ((sq.2.2.1 _ _).trans q8) ((sq.2.2.1 _ _).trans q9) ((sq.2.2.1 _ _).trans q10) ((sq.2.2.1 _ _).trans q11) ((sq.2.2.1 _ _).trans q12) ((sq.2.2.1 _ _).trans q13) (hv.hzk nC (Nat.le_refl _) hn60) (hv.hzc fi se he5 (qF_no hlo))⟩
            have hxx := hA x (by rw [h0.1.1]; decide) (by rw [h0.1.1]; decide) (by rw [h0.1.1]; decide)
            replace hfr := hfr.tr (FrR.add hA (by decide))
            replace hbk := hbk.tr (Kp.add (S := [2]) hA (by decide))
            have hadd1 := hadd.1
            have hFk := (hA (ca 6 fi) (by rw [(h0.2.2.2.2.2.1.2 fi hf5).1]; decide) (by rw [(h0.2.2.2.2.2.1.2 fi hf5).1]; decide) (by rw [(h0.2.2.2.2.2.1.2 fi hf5).1]; decide)).1.trans (h0.2.2.2.2.2.1.2 fi hf5).1
            have hx4 : fR w_140 11 4 x = some (ca 9 6) := (hxx.2.2.2.1 _ _).trans h0.1.2.2.2.2.2.1
            have hx5 : fR w_140 11 5 x = some (ca 9 7) := (hxx.2.2.2.1 _ _).trans h0.1.2.2.2.2.2.2.1
            have hb8 := hbk (ca 9 7) (by rw [hB.1]; decide)
            have hb9 := hb8.1.trans hB.1
            have e0 := (hb8.2.2.1 2 0).trans hB.2.1
            have e1 := (hb8.2.2.1 2 1).trans hB.2.2.1
            have e2 := (hb8.2.2.1 2 2).trans hB.2.2.2.1
            have e3 := (hb8.2.2.1 2 3).trans hB.2.2.2.2
            clear hbk hb8 hA hadd sq h0 f1 o2
            refine g_pop C dX9_sell_143 rfl ?_
            refine g_aload C dX9_sell_144 rfl ?_
            refine g_dup C dX9_sell_146 rfl ?_
            refine g_getI C cls_3 4 6 (by first | exact hFk | exact (h.2.2.2.2.2.1.2 fi hf5).1) rfl k_546 dX9_sell_147 ?_
            rw [show fI w_140 4 6 (ca 6 fi) = A 16 fi by have h9 := (h.2.2.2.2.2.1.2 fi hf5).2.2.2.2.2.2.2.2.2.2; rw [c6, newA_row (by decide)] at h9; exact h9]
            refine g_iload C dX9_sell_150 rfl ?_
            refine g_iload C dX9_sell_152 rfl ?_
            refine g_isub C dX9_sell_154 ?_
            refine g_iadd C dX9_sell_155 ?_
            refine g_putI C cls_3 4 6 (by first | exact hFk | exact (h.2.2.2.2.2.1.2 fi hf5).1) rfl (Or.inl rfl) rfl rfl k_546 dX9_sell_156 ?_
            replace hfr := hfr.tr (FrR.pI hFk (by decide) : FrR _ (pI w_140 4 6 (ca 6 fi) (A 16 fi + ((priV su (prcV (ratA A nS pr (pn pr) (dn pr) (ho fi)) (T / 60)) (F 20)) - (shrV (priV su (prcV (ratA A nS pr (pn pr) (dn pr) (ho fi)) (T / 60)) (F 20)) su)))))
            replace hadd1 := hadd1.kp (S := [61, 1043]) (Kp.pI hFk (by decide) : Kp [61, 1043] _ (pI w_140 4 6 (ca 6 fi) (A 16 fi + ((priV su (prcV (ratA A nS pr (pn pr) (dn pr) (ho fi)) (T / 60)) (F 20)) - (shrV (priV su (prcV (ratA A nS pr (pn pr) (dn pr) (ho fi)) (T / 60)) (F 20)) su))))) (by decide) (by decide)
            replace hx4 : fR (pI w_140 4 6 (ca 6 fi) (A 16 fi + ((priV su (prcV (ratA A nS pr (pn pr) (dn pr) (ho fi)) (T / 60)) (F 20)) - (shrV (priV su (prcV (ratA A nS pr (pn pr) (dn pr) (ho fi)) (T / 60)) (F 20)) su)))) 11 4 x = some (ca 9 6) := hx4
            replace hx5 : fR (pI w_140 4 6 (ca 6 fi) (A 16 fi + ((priV su (prcV (ratA A nS pr (pn pr) (dn pr) (ho fi)) (T / 60)) (F 20)) - (shrV (priV su (prcV (ratA A nS pr (pn pr) (dn pr) (ho fi)) (T / 60)) (F 20)) su)))) 11 5 x = some (ca 9 7) := hx5
            replace hb9 : kd (pI w_140 4 6 (ca 6 fi) (A 16 fi + ((priV su (prcV (ratA A nS pr (pn pr) (dn pr) (ho fi)) (T / 60)) (F 20)) - (shrV (priV su (prcV (ratA A nS pr (pn pr) (dn pr) (ho fi)) (T / 60)) (F 20)) su)))) (ca 9 7) = 2 := hb9
            replace e0 : fI (pI w_140 4 6 (ca 6 fi) (A 16 fi + ((priV su (prcV (ratA A nS pr (pn pr) (dn pr) (ho fi)) (T / 60)) (F 20)) - (shrV (priV su (prcV (ratA A nS pr (pn pr) (dn pr) (ho fi)) (T / 60)) (F 20)) su)))) 2 0 (ca 9 7) = _ := (fI_x (by decide)).trans e0
            replace e1 : fI (pI w_140 4 6 (ca 6 fi) (A 16 fi + ((priV su (prcV (ratA A nS pr (pn pr) (dn pr) (ho fi)) (T / 60)) (F 20)) - (shrV (priV su (prcV (ratA A nS pr (pn pr) (dn pr) (ho fi)) (T / 60)) (F 20)) su)))) 2 1 (ca 9 7) = _ := (fI_x (by decide)).trans e1
            replace e2 : fI (pI w_140 4 6 (ca 6 fi) (A 16 fi + ((priV su (prcV (ratA A nS pr (pn pr) (dn pr) (ho fi)) (T / 60)) (F 20)) - (shrV (priV su (prcV (ratA A nS pr (pn pr) (dn pr) (ho fi)) (T / 60)) (F 20)) su)))) 2 2 (ca 9 7) = _ := (fI_x (by decide)).trans e2
            replace e3 : fI (pI w_140 4 6 (ca 6 fi) (A 16 fi + ((priV su (prcV (ratA A nS pr (pn pr) (dn pr) (ho fi)) (T / 60)) (F 20)) - (shrV (priV su (prcV (ratA A nS pr (pn pr) (dn pr) (ho fi)) (T / 60)) (F 20)) su)))) 2 3 (ca 9 7) = _ := (fI_x (by decide)).trans e3
            replace h := h.far6 hf5 (A 16 fi + ((priV su (prcV (ratA A nS pr (pn pr) (dn pr) (ho fi)) (T / 60)) (F 20)) - (shrV (priV su (prcV (ratA A nS pr (pn pr) (dn pr) (ho fi)) (T / 60)) (F 20)) su)))
            rw [c6] at h
            clear hFk hxx
            generalize pI w_140 4 6 (ca 6 fi) (A 16 fi + ((priV su (prcV (ratA A nS pr (pn pr) (dn pr) (ho fi)) (T / 60)) (F 20)) - (shrV (priV su (prcV (ratA A nS pr (pn pr) (dn pr) (ho fi)) (T / 60)) (F 20)) su))) = w2 at h hfr hadd1 hx4 hx5 hb9 e0 e1 e2 e3 ⊢
            refine g_aload_n C dX9_sell_159 rfl ?_
            refine g_getR (b := (ca 9 7)) C cls_10 11 5 h.1.1 hx5 rfl k_141 dX9_sell_160 ?_
            refine g_dup C dX9_sell_163 rfl ?_
            refine g_getI C cls_1 2 0 hb9 rfl k_96 dX9_sell_164 ?_
            rw [e0]
            refine g_iload C dX9_sell_167 rfl ?_
            refine g_iadd C dX9_sell_169 ?_
            refine g_putI C cls_1 2 0 hb9 rfl (Or.inl rfl) rfl rfl k_96 dX9_sell_170 ?_
            replace hfr := hfr.tr (FrR.pI hb9 (by decide) : FrR _ (pI w2 2 0 (ca 9 7) (sumS (fun k => A 23 (10 * k + 4)) nC + (priV su (prcV (ratA A nS pr (pn pr) (dn pr) (ho fi)) (T / 60)) (F 20)))))
            replace hadd1 := hadd1.kp (S := [61, 1043]) (Kp.pI hb9 (by decide) : Kp [61, 1043] _ (pI w2 2 0 (ca 9 7) (sumS (fun k => A 23 (10 * k + 4)) nC + (priV su (prcV (ratA A nS pr (pn pr) (dn pr) (ho fi)) (T / 60)) (F 20))))) (by decide) (by decide)
            replace hx4 : fR (pI w2 2 0 (ca 9 7) (sumS (fun k => A 23 (10 * k + 4)) nC + (priV su (prcV (ratA A nS pr (pn pr) (dn pr) (ho fi)) (T / 60)) (F 20)))) 11 4 x = some (ca 9 6) := hx4
            replace hx5 : fR (pI w2 2 0 (ca 9 7) (sumS (fun k => A 23 (10 * k + 4)) nC + (priV su (prcV (ratA A nS pr (pn pr) (dn pr) (ho fi)) (T / 60)) (F 20)))) 11 5 x = some (ca 9 7) := hx5
            replace h := h.book (by rw [c9]; exact hb9) 0 (sumS (fun k => A 23 (10 * k + 4)) nC + (priV su (prcV (ratA A nS pr (pn pr) (dn pr) (ho fi)) (T / 60)) (F 20)))
            rw [c9] at h
            replace e0 : fI (pI w2 2 0 (ca 9 7) (sumS (fun k => A 23 (10 * k + 4)) nC + (priV su (prcV (ratA A nS pr (pn pr) (dn pr) (ho fi)) (T / 60)) (F 20)))) 2 0 (ca 9 7) = _ := fI_pI
            replace e1 : fI (pI w2 2 0 (ca 9 7) (sumS (fun k => A 23 (10 * k + 4)) nC + (priV su (prcV (ratA A nS pr (pn pr) (dn pr) (ho fi)) (T / 60)) (F 20)))) 2 1 (ca 9 7) = _ := (fI_y (by decide)).trans e1
            replace e2 : fI (pI w2 2 0 (ca 9 7) (sumS (fun k => A 23 (10 * k + 4)) nC + (priV su (prcV (ratA A nS pr (pn pr) (dn pr) (ho fi)) (T / 60)) (F 20)))) 2 2 (ca 9 7) = _ := (fI_y (by decide)).trans e2
            replace e3 : fI (pI w2 2 0 (ca 9 7) (sumS (fun k => A 23 (10 * k + 4)) nC + (priV su (prcV (ratA A nS pr (pn pr) (dn pr) (ho fi)) (T / 60)) (F 20)))) 2 3 (ca 9 7) = _ := (fI_y (by decide)).trans e3
            replace hb9 : kd (pI w2 2 0 (ca 9 7) (sumS (fun k => A 23 (10 * k + 4)) nC + (priV su (prcV (ratA A nS pr (pn pr) (dn pr) (ho fi)) (T / 60)) (F 20)))) (ca 9 7) = 2 := hb9
            generalize pI w2 2 0 (ca 9 7) (sumS (fun k => A 23 (10 * k + 4)) nC + (priV su (prcV (ratA A nS pr (pn pr) (dn pr) (ho fi)) (T / 60)) (F 20))) = w3 at h hfr hadd1 hx4 hx5 hb9 e0 e1 e2 e3 ⊢
            refine g_aload_n C dX9_sell_173 rfl ?_
            refine g_getR (b := (ca 9 7)) C cls_10 11 5 h.1.1 hx5 rfl k_141 dX9_sell_174 ?_
            refine g_dup C dX9_sell_177 rfl ?_
            refine g_getI C cls_1 2 1 hb9 rfl k_98 dX9_sell_178 ?_
            rw [e1]
            refine g_iload C dX9_sell_181 rfl ?_
            refine g_iadd C dX9_sell_183 ?_
            refine g_putI C cls_1 2 1 hb9 rfl (Or.inl rfl) rfl rfl k_98 dX9_sell_184 ?_
            replace hfr := hfr.tr (FrR.pI hb9 (by decide) : FrR _ (pI w3 2 1 (ca 9 7) (sumS (fun k => A 23 (10 * k + 5)) nC + (shrV (priV su (prcV (ratA A nS pr (pn pr) (dn pr) (ho fi)) (T / 60)) (F 20)) su))))
            replace hadd1 := hadd1.kp (S := [61, 1043]) (Kp.pI hb9 (by decide) : Kp [61, 1043] _ (pI w3 2 1 (ca 9 7) (sumS (fun k => A 23 (10 * k + 5)) nC + (shrV (priV su (prcV (ratA A nS pr (pn pr) (dn pr) (ho fi)) (T / 60)) (F 20)) su)))) (by decide) (by decide)
            replace hx4 : fR (pI w3 2 1 (ca 9 7) (sumS (fun k => A 23 (10 * k + 5)) nC + (shrV (priV su (prcV (ratA A nS pr (pn pr) (dn pr) (ho fi)) (T / 60)) (F 20)) su))) 11 4 x = some (ca 9 6) := hx4
            replace h := h.book (by rw [c9]; exact hb9) 1 (sumS (fun k => A 23 (10 * k + 5)) nC + (shrV (priV su (prcV (ratA A nS pr (pn pr) (dn pr) (ho fi)) (T / 60)) (F 20)) su))
            rw [c9] at h
            replace e0 : fI (pI w3 2 1 (ca 9 7) (sumS (fun k => A 23 (10 * k + 5)) nC + (shrV (priV su (prcV (ratA A nS pr (pn pr) (dn pr) (ho fi)) (T / 60)) (F 20)) su))) 2 0 (ca 9 7) = _ := (fI_y (by decide)).trans e0
            replace e1 : fI (pI w3 2 1 (ca 9 7) (sumS (fun k => A 23 (10 * k + 5)) nC + (shrV (priV su (prcV (ratA A nS pr (pn pr) (dn pr) (ho fi)) (T / 60)) (F 20)) su))) 2 1 (ca 9 7) = _ := fI_pI
            replace e2 : fI (pI w3 2 1 (ca 9 7) (sumS (fun k => A 23 (10 * k + 5)) nC + (shrV (priV su (prcV (ratA A nS pr (pn pr) (dn pr) (ho fi)) (T / 60)) (F 20)) su))) 2 2 (ca 9 7) = _ := (fI_y (by decide)).trans e2
            replace e3 : fI (pI w3 2 1 (ca 9 7) (sumS (fun k => A 23 (10 * k + 5)) nC + (shrV (priV su (prcV (ratA A nS pr (pn pr) (dn pr) (ho fi)) (T / 60)) (F 20)) su))) 2 3 (ca 9 7) = _ := (fI_y (by decide)).trans e3
            replace hb9 : kd (pI w3 2 1 (ca 9 7) (sumS (fun k => A 23 (10 * k + 5)) nC + (shrV (priV su (prcV (ratA A nS pr (pn pr) (dn pr) (ho fi)) (T / 60)) (F 20)) su))) (ca 9 7) = 2 := hb9
            generalize pI w3 2 1 (ca 9 7) (sumS (fun k => A 23 (10 * k + 5)) nC + (shrV (priV su (prcV (ratA A nS pr (pn pr) (dn pr) (ho fi)) (T / 60)) (F 20)) su)) = w4 at h hfr hadd1 hx4 hb9 e0 e1 e2 e3 ⊢
            refine g_aload_n C dX9_sell_187 rfl ?_
            refine g_getR (b := (ca 9 6)) C cls_10 11 4 h.1.1 hx4 rfl k_140 dX9_sell_188 ?_
            refine g_callV C cls_0 61 mt_Jx4a65c_size_8abf5 [] (c_sz de _ 61 1043 KL_co (ca 9 6) (nC + 1) _ hadd1) hadd1.1 (by decide) k_260 rfl rfl (Nat.le_of_ble_eq_true rfl) (by decide) (by decide) (by decide) (by decide) dX9_sell_191 (fun r_191 w_191 hp_191 => ?_)
            obtain ⟨rfl, rfl⟩ := hp_191
            refine g_iconst C 1 dX9_sell_194 (by rfl) ?_
            refine g_isub C dX9_sell_195 ?_
            refine gx_ret <| g_iret C rfl rfl (by decide) (by decide) dX9_sell_196 ?_
            refine ⟨goV_0000 (and_t f_2 (and_t f_9 f_16)) b_27 (and_t (and_t f_2 (and_t f_9 f_16)) (and_t (by rw [hv.hC]; exact b_49.1) (and_t (by rw [if_pos (and_t f_2 (and_t f_9 f_16))]; exact b_58) (and_t (by first | exact hdn | (rw [hlo]; exact hdn)) b_79.2)))), congrArg (fun v => some (Value.int v)) (by rw [← nI_1, a11]), _, h, (show KB w4 (nC + 1) _ _ ca from ⟨hb9, ?_, ?_, ?_, ?_⟩).adr c9, hfr⟩
            · rw [e0]
              exact (newS4 (by rw [updA_ne (Or.inl (by decide)), newA_4]) (fun k hk => by rw [updA_ne (Or.inl (by decide)), newA_ne (Or.inl (by omega))])).symm
            · rw [e1]
              exact (newS4 (by rw [updA_ne (Or.inl (by decide)), newA_5]) (fun k hk => by rw [updA_ne (Or.inl (by decide)), newA_ne (Or.inl (by omega))])).symm
            · rw [e2, ← Int32.add_zero (sumS _ nC)]
              exact (newS4 (by rw [updA_ne (Or.inl (by decide)), newA_ne (Or.inr (by omega)), (hv.hzk nC (Nat.le_refl _) hn60).1]) (fun k hk => by rw [updA_ne (Or.inl (by decide)), newA_ne (Or.inl (by omega))])).symm
            · exact e3.trans (if_neg (by decide)).symm
          · have b_79 := And.intro (decide_eq_true (Int32.not_le.mp c_79)) (decide_eq_false c_79)
            exact gx_throw C ht th_X9_93 k_264 k_15 (is := 197) (text := "there are 60 covers, or this one can't be sold now") (by decide) dX9_sell_82 dX9_sell_85 dX9_sell_86 dX9_sell_88 dX9_sell_91 (by decide) (Nat.le_of_ble_eq_true rfl) (by decide) (by decide) (by first | exact ⟨rfl, Or.inr (Or.inr ⟨rfl, goV_3 (and_t f_2 (and_t f_9 f_16)) b_27 (and_f2 (and_f1 (by rw [hv.hC]; exact b_49.1)))⟩)⟩ | exact ⟨rfl, Or.inr (Or.inr ⟨rfl, goV_3 (and_t f_2 (and_t f_9 f_16)) b_27 (and_f2 (and_f2 (and_f1 (by rw [if_pos (and_t f_2 (and_t f_9 f_16))]; exact b_58))))⟩)⟩ | exact ⟨rfl, Or.inr (Or.inr ⟨rfl, goV_3 (and_t f_2 (and_t f_9 f_16)) b_27 (and_f2 (and_f2 (and_f2 (and_f1 (by first | exact hdn | (rw [hlo]; exact hdn))))))⟩)⟩ | exact ⟨rfl, Or.inr (Or.inr ⟨rfl, goV_3 (and_t f_2 (and_t f_9 f_16)) b_27 (and_f2 (and_f2 (and_f2 (and_f2 b_79.2))))⟩)⟩)
        · have hdn := lastO_no (show k < 100000 by have := (lastO_some hlo).1; omega)
          refine g_ifnonnull C 82 dX9_sell_69 (by decide) ?_
          exact gx_throw C ht th_X9_93 k_264 k_15 (is := 197) (text := "there are 60 covers, or this one can't be sold now") (by decide) dX9_sell_82 dX9_sell_85 dX9_sell_86 dX9_sell_88 dX9_sell_91 (by decide) (Nat.le_of_ble_eq_true rfl) (by decide) (by decide) (by first | exact ⟨rfl, Or.inr (Or.inr ⟨rfl, goV_3 (and_t f_2 (and_t f_9 f_16)) b_27 (and_f2 (and_f1 (by rw [hv.hC]; exact b_49.1)))⟩)⟩ | exact ⟨rfl, Or.inr (Or.inr ⟨rfl, goV_3 (and_t f_2 (and_t f_9 f_16)) b_27 (and_f2 (and_f2 (and_f1 (by rw [if_pos (and_t f_2 (and_t f_9 f_16))]; exact b_58))))⟩)⟩ | exact ⟨rfl, Or.inr (Or.inr ⟨rfl, goV_3 (and_t f_2 (and_t f_9 f_16)) b_27 (and_f2 (and_f2 (and_f2 (and_f1 (by first | exact hdn | (rw [hlo]; exact hdn))))))⟩)⟩ | exact ⟨rfl, Or.inr (Or.inr ⟨rfl, goV_3 (and_t f_2 (and_t f_9 f_16)) b_27 (and_f2 (and_f2 (and_f2 (and_f2 b_79.2))))⟩)⟩)
  · have b_27 := bI_0.mp c_27
    exact gx_throw C ht th_X9_117 k_192 k_14 (is := 184) (text := "sum is out of range") (by decide) dX9_sell_30 dX9_sell_33 dX9_sell_34 dX9_sell_36 dX9_sell_39 (by decide) (Nat.le_of_ble_eq_true rfl) (by decide) (by decide) ⟨rfl, Or.inr (Or.inl ⟨rfl, goV_2 (and_t f_2 (and_t f_9 f_16)) b_27⟩)⟩
end NEW46
