section REF20
section
variable {A : Nat → Nat → Int32} {cf cs ho : Nat → Nat} {st se k n : Nat}
theorem qC_1 (hq : ¬ bI (qO cf cs ho st se k) = 0) (h : ¬ A 19 (20 * cf k + se) = 0) : (1 : Int32) = nI (if qC A cf cs ho st se k = true then 1 else 0) := by
  rw [if_pos (by unfold qC; rw [bI_n0.mp hq, decide_eq_false h]; rfl)]; rfl
theorem qC_0 (h : A 19 (20 * cf k + se) = 0) : (0 : Int32) = nI (if qC A cf cs ho st se k = true then 1 else 0) := by
  rw [if_neg (by unfold qC; rw [decide_eq_true h]; simp)]; rfl
theorem qT_t (hq : ¬ bI (qO cf cs ho st se k) = 0) (h : ¬ A 18 (20 * cf k + se) ≤ 0) : qT A cf cs ho st se k = true := by unfold qT; rw [bI_n0.mp hq, decide_eq_true (Int32.not_le.mp h)]; rfl
theorem qT_f (h : A 18 (20 * cf k + se) ≤ 0) : ¬ qT A cf cs ho st se k = true := by unfold qT; rw [decide_eq_false (Int32.not_lt.mpr h)]; simp
theorem q_O (h : bI (qO cf cs ho st se k) = 0) : ¬ qO cf cs ho st se k = true := by rw [bI_0.mp h]; simp
theorem q_C (h : bI (qO cf cs ho st se k) = 0) : ¬ qC A cf cs ho st se k = true := by unfold qC; rw [bI_0.mp h]; simp
theorem q_T (h : bI (qO cf cs ho st se k) = 0) : ¬ qT A cf cs ho st se k = true := by unfold qT; rw [bI_0.mp h]; simp
theorem sumC_s {P : Nat → Bool} {v : Nat → Int32} : sumC P v n + (if P n = true then v n else 0) = sumC P v (n + 1) := by
  by_cases h : P n = true
  · rw [if_pos h, sumC_t h]
  · rw [if_neg h, sumC_f h, Int32.add_zero]
theorem lkC_1 (h : ¬ A 26 (20 * st + se) = 0) : lkC A cf cs ho st se n = true := by unfold lkC; rw [decide_eq_false h]; rfl
theorem le2 {a b : Nat} (ha : a < 100000) (hb : b < 100000) : (2 : Int32) * nI a ≤ nI b ↔ 2 * a ≤ b := by
  rw [show (2 : Int32) * nI a = nI (2 * a) from pk_mul 2 a]
  exact nI_leI (by omega) (by omega)
theorem lkC_2 (hn : n ≤ 60) (h : (2 : Int32) * nI (cntN (qC A cf cs ho st se) n) ≤ nI (cntN (qO cf cs ho st se) n)) : lkC A cf cs ho st se n = true := by
  have h1 := cntN_le (P := qC A cf cs ho st se) n
  have h2 := cntN_le (P := qO cf cs ho st se) n
  unfold lkC
  rw [decide_eq_true ((le2 (by omega) (by omega)).mp h)]
  simp
theorem lkC_3 (hn : n ≤ 60) (h : nI (cntN (qT A cf cs ho st se) n) = 0) : lkC A cf cs ho st se n = true := by
  have h1 := cntN_le (P := qT A cf cs ho st se) n
  unfold lkC
  rw [decide_eq_true (p := cntN (qT A cf cs ho st se) n = 0) ((nI_eq (b := 0) (by omega) (by omega)).mp h)]
  simp
theorem lkC_0 (hn : n ≤ 60) (h0 : A 26 (20 * st + se) = 0) (h : ¬ (2 : Int32) * nI (cntN (qC A cf cs ho st se) n) ≤ nI (cntN (qO cf cs ho st se) n)) (h3 : ¬ nI (cntN (qT A cf cs ho st se) n) = 0) : ¬ lkC A cf cs ho st se n = true := by
  have h1 := cntN_le (P := qC A cf cs ho st se) n
  have h2 := cntN_le (P := qO cf cs ho st se) n
  unfold lkC
  rw [decide_eq_true h0, decide_eq_false (fun z => h ((le2 (by omega) (by omega)).mpr z)), decide_eq_false (p := cntN (qT A cf cs ho st se) n = 0) (fun z => h3 (by rw [z]; rfl))]
  simp
theorem lkM_0 {mean : Int32} (h : A 23 (10 * k + 2) * (mean - 20) / 100 - A 23 (10 * k + 8) ≤ 0) : 0 = lkM A mean k := (if_neg (Int32.not_lt.mpr h)).symm
theorem lkM_1 {mean : Int32} (h : ¬ A 23 (10 * k + 2) * (mean - 20) / 100 - A 23 (10 * k + 8) ≤ 0) : A 23 (10 * k + 2) * (mean - 20) / 100 - A 23 (10 * k + 8) = lkM A mean k := (if_pos (Int32.not_le.mp h)).symm
theorem lkF_t {mean : Int32} {A0 : Nat → Nat → Int32} {q : (Nat → Nat → Int32) × Int32} (hA : lkF cf cs ho st se mean A0 k = q) (h : ¬ bI (qO cf cs ho st se k) = 0) (h2 : ¬ mean ≤ q.1 23 (10 * k + 6) / 10 + 20) :
    lkF cf cs ho st se mean A0 (k + 1) = (updA (updA q.1 23 (10 * k + 8) (q.1 23 (10 * k + 8) + lkM q.1 mean k)) 15 (cf k) (q.1 15 (cf k) + lkM q.1 mean k), q.2 + lkM q.1 mean k) := by
  rw [lkF, hA]
  exact if_pos ⟨bI_n0.mp h, Int32.not_le.mp h2⟩
theorem lkF_f {mean : Int32} {A0 : Nat → Nat → Int32} {q : (Nat → Nat → Int32) × Int32} (hA : lkF cf cs ho st se mean A0 k = q) (h : bI (qO cf cs ho st se k) = 0 ∨ mean ≤ q.1 23 (10 * k + 6) / 10 + 20) : lkF cf cs ho st se mean A0 (k + 1) = q := by
  rw [lkF, hA]
  refine if_neg (fun z => ?_)
  rcases h with h | h
  · exact q_O h z.1
  · exact Int32.not_le.mpr z.2 h
theorem lkR_t (h : lkC A cf cs ho st se n = true) : lkR A cf cs ho st se n = (A, 0) := if_pos h
theorem lkR_f (h : ¬ lkC A cf cs ho st se n = true) : lkR A cf cs ho st se n = lkF cf cs ho st se (lkV A cf cs ho st se n) (updA A 26 (20 * st + se) 1) n := if_neg h
end
theorem dX10_looks_0 : decode cX10_looks 0 = .ok (.iconst 0, 1) := by decide +kernel
theorem dX10_looks_1 : decode cX10_looks 1 = .ok (.istore_n 3, 1) := by decide +kernel
theorem dX10_looks_2 : decode cX10_looks 2 = .ok (.iconst 0, 1) := by decide +kernel
theorem dX10_looks_3 : decode cX10_looks 3 = .ok (.istore 4, 2) := by decide +kernel
theorem dX10_looks_5 : decode cX10_looks 5 = .ok (.iconst 0, 1) := by decide +kernel
theorem dX10_looks_6 : decode cX10_looks 6 = .ok (.istore 5, 2) := by decide +kernel
theorem dX10_looks_8 : decode cX10_looks 8 = .ok (.iconst 0, 1) := by decide +kernel
theorem dX10_looks_9 : decode cX10_looks 9 = .ok (.istore 6, 2) := by decide +kernel
theorem dX10_looks_11 : decode cX10_looks 11 = .ok (.iconst 0, 1) := by decide +kernel
theorem dX10_looks_12 : decode cX10_looks 12 = .ok (.istore 7, 2) := by decide +kernel
theorem dX10_looks_14 : decode cX10_looks 14 = .ok (.iload 7, 2) := by decide +kernel
theorem dX10_looks_16 : decode cX10_looks 16 = .ok (.aload_n 0, 1) := by decide +kernel
theorem dX10_looks_17 : decode cX10_looks 17 = .ok (.getfield 156, 3) := by decide +kernel
theorem dX10_looks_20 : decode cX10_looks 20 = .ok (.if_icmp .ge 108, 3) := by decide +kernel
theorem dX10_looks_23 : decode cX10_looks 23 = .ok (.bipush 20, 2) := by decide +kernel
theorem dX10_looks_25 : decode cX10_looks 25 = .ok (.aload_n 0, 1) := by decide +kernel
theorem dX10_looks_26 : decode cX10_looks 26 = .ok (.getfield 63, 3) := by decide +kernel
theorem dX10_looks_29 : decode cX10_looks 29 = .ok (.bipush 10, 2) := by decide +kernel
theorem dX10_looks_31 : decode cX10_looks 31 = .ok (.iload 7, 2) := by decide +kernel
theorem dX10_looks_33 : decode cX10_looks 33 = .ok (.imul, 1) := by decide +kernel
theorem dX10_looks_34 : decode cX10_looks 34 = .ok (.iaload, 1) := by decide +kernel
theorem dX10_looks_35 : decode cX10_looks 35 = .ok (.imul, 1) := by decide +kernel
theorem dX10_looks_36 : decode cX10_looks 36 = .ok (.iload_n 2, 1) := by decide +kernel
theorem dX10_looks_37 : decode cX10_looks 37 = .ok (.iadd, 1) := by decide +kernel
theorem dX10_looks_38 : decode cX10_looks 38 = .ok (.istore 8, 2) := by decide +kernel
theorem dX10_looks_40 : decode cX10_looks 40 = .ok (.aload_n 0, 1) := by decide +kernel
theorem dX10_looks_41 : decode cX10_looks 41 = .ok (.iload 7, 2) := by decide +kernel
theorem dX10_looks_43 : decode cX10_looks 43 = .ok (.iload_n 2, 1) := by decide +kernel
theorem dX10_looks_44 : decode cX10_looks 44 = .ok (.iload_n 1, 1) := by decide +kernel
theorem dX10_looks_45 : decode cX10_looks 45 = .ok (.invokevirtual 167, 3) := by decide +kernel
theorem dX10_looks_48 : decode cX10_looks 48 = .ok (.ifCond .eq 74, 3) := by decide +kernel
theorem dX10_looks_51 : decode cX10_looks 51 = .ok (.iinc 3 1, 3) := by decide +kernel
theorem dX10_looks_54 : decode cX10_looks 54 = .ok (.iload 4, 2) := by decide +kernel
theorem dX10_looks_56 : decode cX10_looks 56 = .ok (.aload_n 0, 1) := by decide +kernel
theorem dX10_looks_57 : decode cX10_looks 57 = .ok (.getfield 49, 3) := by decide +kernel
theorem dX10_looks_60 : decode cX10_looks 60 = .ok (.iload 8, 2) := by decide +kernel
theorem dX10_looks_62 : decode cX10_looks 62 = .ok (.baload, 1) := by decide +kernel
theorem dX10_looks_63 : decode cX10_looks 63 = .ok (.ifCond .eq 7, 3) := by decide +kernel
theorem dX10_looks_66 : decode cX10_looks 66 = .ok (.iconst 1, 1) := by decide +kernel
theorem dX10_looks_67 : decode cX10_looks 67 = .ok (.goto 4, 3) := by decide +kernel
theorem dX10_looks_70 : decode cX10_looks 70 = .ok (.iconst 0, 1) := by decide +kernel
theorem dX10_looks_71 : decode cX10_looks 71 = .ok (.iadd, 1) := by decide +kernel
theorem dX10_looks_72 : decode cX10_looks 72 = .ok (.istore 4, 2) := by decide +kernel
theorem dX10_looks_74 : decode cX10_looks 74 = .ok (.iload 5, 2) := by decide +kernel
theorem dX10_looks_76 : decode cX10_looks 76 = .ok (.aload_n 0, 1) := by decide +kernel
theorem dX10_looks_77 : decode cX10_looks 77 = .ok (.getfield 46, 3) := by decide +kernel
theorem dX10_looks_80 : decode cX10_looks 80 = .ok (.iload 8, 2) := by decide +kernel
theorem dX10_looks_82 : decode cX10_looks 82 = .ok (.iaload, 1) := by decide +kernel
theorem dX10_looks_83 : decode cX10_looks 83 = .ok (.ifCond .le 7, 3) := by decide +kernel
theorem dX10_looks_86 : decode cX10_looks 86 = .ok (.iconst 1, 1) := by decide +kernel
theorem dX10_looks_87 : decode cX10_looks 87 = .ok (.goto 4, 3) := by decide +kernel
theorem dX10_looks_90 : decode cX10_looks 90 = .ok (.iconst 0, 1) := by decide +kernel
theorem dX10_looks_91 : decode cX10_looks 91 = .ok (.iadd, 1) := by decide +kernel
theorem dX10_looks_92 : decode cX10_looks 92 = .ok (.istore 5, 2) := by decide +kernel
theorem dX10_looks_94 : decode cX10_looks 94 = .ok (.iload 6, 2) := by decide +kernel
theorem dX10_looks_96 : decode cX10_looks 96 = .ok (.aload_n 0, 1) := by decide +kernel
theorem dX10_looks_97 : decode cX10_looks 97 = .ok (.getfield 46, 3) := by decide +kernel
theorem dX10_looks_100 : decode cX10_looks 100 = .ok (.iload 8, 2) := by decide +kernel
theorem dX10_looks_102 : decode cX10_looks 102 = .ok (.iaload, 1) := by decide +kernel
theorem dX10_looks_103 : decode cX10_looks 103 = .ok (.ifCond .le 15, 3) := by decide +kernel
theorem dX10_looks_106 : decode cX10_looks 106 = .ok (.aload_n 0, 1) := by decide +kernel
theorem dX10_looks_107 : decode cX10_looks 107 = .ok (.getfield 46, 3) := by decide +kernel
theorem dX10_looks_110 : decode cX10_looks 110 = .ok (.iload 8, 2) := by decide +kernel
theorem dX10_looks_112 : decode cX10_looks 112 = .ok (.iaload, 1) := by decide +kernel
theorem dX10_looks_113 : decode cX10_looks 113 = .ok (.iconst 1, 1) := by decide +kernel
theorem dX10_looks_114 : decode cX10_looks 114 = .ok (.isub, 1) := by decide +kernel
theorem dX10_looks_115 : decode cX10_looks 115 = .ok (.goto 4, 3) := by decide +kernel
theorem dX10_looks_118 : decode cX10_looks 118 = .ok (.iconst 0, 1) := by decide +kernel
theorem dX10_looks_119 : decode cX10_looks 119 = .ok (.iadd, 1) := by decide +kernel
theorem dX10_looks_120 : decode cX10_looks 120 = .ok (.istore 6, 2) := by decide +kernel
theorem dX10_looks_122 : decode cX10_looks 122 = .ok (.iinc 7 1, 3) := by decide +kernel
theorem dX10_looks_125 : decode cX10_looks 125 = .ok (.goto (-111), 3) := by decide +kernel
theorem dX10_looks_128 : decode cX10_looks 128 = .ok (.aload_n 0, 1) := by decide +kernel
theorem dX10_looks_129 : decode cX10_looks 129 = .ok (.getfield 69, 3) := by decide +kernel
theorem dX10_looks_132 : decode cX10_looks 132 = .ok (.bipush 20, 2) := by decide +kernel
theorem dX10_looks_134 : decode cX10_looks 134 = .ok (.iload_n 1, 1) := by decide +kernel
theorem dX10_looks_135 : decode cX10_looks 135 = .ok (.imul, 1) := by decide +kernel
theorem dX10_looks_136 : decode cX10_looks 136 = .ok (.iload_n 2, 1) := by decide +kernel
theorem dX10_looks_137 : decode cX10_looks 137 = .ok (.iadd, 1) := by decide +kernel
theorem dX10_looks_138 : decode cX10_looks 138 = .ok (.baload, 1) := by decide +kernel
theorem dX10_looks_139 : decode cX10_looks 139 = .ok (.ifCond .ne 16, 3) := by decide +kernel
theorem dX10_looks_142 : decode cX10_looks 142 = .ok (.iconst 2, 1) := by decide +kernel
theorem dX10_looks_143 : decode cX10_looks 143 = .ok (.iload 4, 2) := by decide +kernel
theorem dX10_looks_145 : decode cX10_looks 145 = .ok (.imul, 1) := by decide +kernel
theorem dX10_looks_146 : decode cX10_looks 146 = .ok (.iload_n 3, 1) := by decide +kernel
theorem dX10_looks_147 : decode cX10_looks 147 = .ok (.if_icmp .le 8, 3) := by decide +kernel
theorem dX10_looks_150 : decode cX10_looks 150 = .ok (.iload 5, 2) := by decide +kernel
theorem dX10_looks_152 : decode cX10_looks 152 = .ok (.ifCond .ne 5, 3) := by decide +kernel
theorem dX10_looks_155 : decode cX10_looks 155 = .ok (.iconst 0, 1) := by decide +kernel
theorem dX10_looks_156 : decode cX10_looks 156 = .ok (.ireturn, 1) := by decide +kernel
theorem dX10_looks_157 : decode cX10_looks 157 = .ok (.aload_n 0, 1) := by decide +kernel
theorem dX10_looks_158 : decode cX10_looks 158 = .ok (.getfield 69, 3) := by decide +kernel
theorem dX10_looks_161 : decode cX10_looks 161 = .ok (.bipush 20, 2) := by decide +kernel
theorem dX10_looks_163 : decode cX10_looks 163 = .ok (.iload_n 1, 1) := by decide +kernel
theorem dX10_looks_164 : decode cX10_looks 164 = .ok (.imul, 1) := by decide +kernel
theorem dX10_looks_165 : decode cX10_looks 165 = .ok (.iload_n 2, 1) := by decide +kernel
theorem dX10_looks_166 : decode cX10_looks 166 = .ok (.iadd, 1) := by decide +kernel
theorem dX10_looks_167 : decode cX10_looks 167 = .ok (.iconst 1, 1) := by decide +kernel
theorem dX10_looks_168 : decode cX10_looks 168 = .ok (.bastore, 1) := by decide +kernel
theorem dX10_looks_169 : decode cX10_looks 169 = .ok (.iload 6, 2) := by decide +kernel
theorem dX10_looks_171 : decode cX10_looks 171 = .ok (.iload 5, 2) := by decide +kernel
theorem dX10_looks_173 : decode cX10_looks 173 = .ok (.idiv, 1) := by decide +kernel
theorem dX10_looks_174 : decode cX10_looks 174 = .ok (.istore 7, 2) := by decide +kernel
theorem dX10_looks_176 : decode cX10_looks 176 = .ok (.iconst 0, 1) := by decide +kernel
theorem dX10_looks_177 : decode cX10_looks 177 = .ok (.istore 8, 2) := by decide +kernel
theorem dX10_looks_179 : decode cX10_looks 179 = .ok (.iconst 0, 1) := by decide +kernel
theorem dX10_looks_180 : decode cX10_looks 180 = .ok (.istore 9, 2) := by decide +kernel
theorem dX10_looks_182 : decode cX10_looks 182 = .ok (.iload 9, 2) := by decide +kernel
theorem dX10_looks_184 : decode cX10_looks 184 = .ok (.aload_n 0, 1) := by decide +kernel
theorem dX10_looks_185 : decode cX10_looks 185 = .ok (.getfield 156, 3) := by decide +kernel
theorem dX10_looks_188 : decode cX10_looks 188 = .ok (.if_icmp .ge 139, 3) := by decide +kernel
theorem dX10_looks_191 : decode cX10_looks 191 = .ok (.aload_n 0, 1) := by decide +kernel
theorem dX10_looks_192 : decode cX10_looks 192 = .ok (.iload 9, 2) := by decide +kernel
theorem dX10_looks_194 : decode cX10_looks 194 = .ok (.iload_n 2, 1) := by decide +kernel
theorem dX10_looks_195 : decode cX10_looks 195 = .ok (.iload_n 1, 1) := by decide +kernel
theorem dX10_looks_196 : decode cX10_looks 196 = .ok (.invokevirtual 167, 3) := by decide +kernel
theorem dX10_looks_199 : decode cX10_looks 199 = .ok (.ifCond .eq 122, 3) := by decide +kernel
theorem dX10_looks_202 : decode cX10_looks 202 = .ok (.aload_n 0, 1) := by decide +kernel
theorem dX10_looks_203 : decode cX10_looks 203 = .ok (.getfield 63, 3) := by decide +kernel
theorem dX10_looks_206 : decode cX10_looks 206 = .ok (.bipush 10, 2) := by decide +kernel
theorem dX10_looks_208 : decode cX10_looks 208 = .ok (.iload 9, 2) := by decide +kernel
theorem dX10_looks_210 : decode cX10_looks 210 = .ok (.imul, 1) := by decide +kernel
theorem dX10_looks_211 : decode cX10_looks 211 = .ok (.bipush 6, 2) := by decide +kernel
theorem dX10_looks_213 : decode cX10_looks 213 = .ok (.iadd, 1) := by decide +kernel
theorem dX10_looks_214 : decode cX10_looks 214 = .ok (.iaload, 1) := by decide +kernel
theorem dX10_looks_215 : decode cX10_looks 215 = .ok (.bipush 10, 2) := by decide +kernel
theorem dX10_looks_217 : decode cX10_looks 217 = .ok (.idiv, 1) := by decide +kernel
theorem dX10_looks_218 : decode cX10_looks 218 = .ok (.bipush 20, 2) := by decide +kernel
theorem dX10_looks_220 : decode cX10_looks 220 = .ok (.iadd, 1) := by decide +kernel
theorem dX10_looks_221 : decode cX10_looks 221 = .ok (.iload 7, 2) := by decide +kernel
theorem dX10_looks_223 : decode cX10_looks 223 = .ok (.if_icmp .ge 98, 3) := by decide +kernel
theorem dX10_looks_226 : decode cX10_looks 226 = .ok (.aload_n 0, 1) := by decide +kernel
theorem dX10_looks_227 : decode cX10_looks 227 = .ok (.getfield 63, 3) := by decide +kernel
theorem dX10_looks_230 : decode cX10_looks 230 = .ok (.bipush 10, 2) := by decide +kernel
theorem dX10_looks_232 : decode cX10_looks 232 = .ok (.iload 9, 2) := by decide +kernel
theorem dX10_looks_234 : decode cX10_looks 234 = .ok (.imul, 1) := by decide +kernel
theorem dX10_looks_235 : decode cX10_looks 235 = .ok (.iconst 2, 1) := by decide +kernel
theorem dX10_looks_236 : decode cX10_looks 236 = .ok (.iadd, 1) := by decide +kernel
theorem dX10_looks_237 : decode cX10_looks 237 = .ok (.iaload, 1) := by decide +kernel
theorem dX10_looks_238 : decode cX10_looks 238 = .ok (.iload 7, 2) := by decide +kernel
theorem dX10_looks_240 : decode cX10_looks 240 = .ok (.bipush 20, 2) := by decide +kernel
theorem dX10_looks_242 : decode cX10_looks 242 = .ok (.isub, 1) := by decide +kernel
theorem dX10_looks_243 : decode cX10_looks 243 = .ok (.imul, 1) := by decide +kernel
theorem dX10_looks_244 : decode cX10_looks 244 = .ok (.bipush 100, 2) := by decide +kernel
theorem dX10_looks_246 : decode cX10_looks 246 = .ok (.idiv, 1) := by decide +kernel
theorem dX10_looks_247 : decode cX10_looks 247 = .ok (.aload_n 0, 1) := by decide +kernel
theorem dX10_looks_248 : decode cX10_looks 248 = .ok (.getfield 63, 3) := by decide +kernel
theorem dX10_looks_251 : decode cX10_looks 251 = .ok (.bipush 10, 2) := by decide +kernel
theorem dX10_looks_253 : decode cX10_looks 253 = .ok (.iload 9, 2) := by decide +kernel
theorem dX10_looks_255 : decode cX10_looks 255 = .ok (.imul, 1) := by decide +kernel
theorem dX10_looks_256 : decode cX10_looks 256 = .ok (.bipush 8, 2) := by decide +kernel
theorem dX10_looks_258 : decode cX10_looks 258 = .ok (.iadd, 1) := by decide +kernel
theorem dX10_looks_259 : decode cX10_looks 259 = .ok (.iaload, 1) := by decide +kernel
theorem dX10_looks_260 : decode cX10_looks 260 = .ok (.isub, 1) := by decide +kernel
theorem dX10_looks_261 : decode cX10_looks 261 = .ok (.istore 10, 2) := by decide +kernel
theorem dX10_looks_263 : decode cX10_looks 263 = .ok (.iload 10, 2) := by decide +kernel
theorem dX10_looks_265 : decode cX10_looks 265 = .ok (.ifCond .le 8, 3) := by decide +kernel
theorem dX10_looks_268 : decode cX10_looks 268 = .ok (.iload 10, 2) := by decide +kernel
theorem dX10_looks_270 : decode cX10_looks 270 = .ok (.goto 4, 3) := by decide +kernel
theorem dX10_looks_273 : decode cX10_looks 273 = .ok (.iconst 0, 1) := by decide +kernel
theorem dX10_looks_274 : decode cX10_looks 274 = .ok (.istore 10, 2) := by decide +kernel
theorem dX10_looks_276 : decode cX10_looks 276 = .ok (.aload_n 0, 1) := by decide +kernel
theorem dX10_looks_277 : decode cX10_looks 277 = .ok (.getfield 63, 3) := by decide +kernel
theorem dX10_looks_280 : decode cX10_looks 280 = .ok (.bipush 10, 2) := by decide +kernel
theorem dX10_looks_282 : decode cX10_looks 282 = .ok (.iload 9, 2) := by decide +kernel
theorem dX10_looks_284 : decode cX10_looks 284 = .ok (.imul, 1) := by decide +kernel
theorem dX10_looks_285 : decode cX10_looks 285 = .ok (.bipush 8, 2) := by decide +kernel
theorem dX10_looks_287 : decode cX10_looks 287 = .ok (.iadd, 1) := by decide +kernel
theorem dX10_looks_288 : decode cX10_looks 288 = .ok (.dup2, 1) := by decide +kernel
theorem dX10_looks_289 : decode cX10_looks 289 = .ok (.iaload, 1) := by decide +kernel
theorem dX10_looks_290 : decode cX10_looks 290 = .ok (.iload 10, 2) := by decide +kernel
theorem dX10_looks_292 : decode cX10_looks 292 = .ok (.iadd, 1) := by decide +kernel
theorem dX10_looks_293 : decode cX10_looks 293 = .ok (.iastore, 1) := by decide +kernel
theorem dX10_looks_294 : decode cX10_looks 294 = .ok (.aload_n 0, 1) := by decide +kernel
theorem dX10_looks_295 : decode cX10_looks 295 = .ok (.getfield 40, 3) := by decide +kernel
theorem dX10_looks_298 : decode cX10_looks 298 = .ok (.aload_n 0, 1) := by decide +kernel
theorem dX10_looks_299 : decode cX10_looks 299 = .ok (.getfield 63, 3) := by decide +kernel
theorem dX10_looks_302 : decode cX10_looks 302 = .ok (.bipush 10, 2) := by decide +kernel
theorem dX10_looks_304 : decode cX10_looks 304 = .ok (.iload 9, 2) := by decide +kernel
theorem dX10_looks_306 : decode cX10_looks 306 = .ok (.imul, 1) := by decide +kernel
theorem dX10_looks_307 : decode cX10_looks 307 = .ok (.iaload, 1) := by decide +kernel
theorem dX10_looks_308 : decode cX10_looks 308 = .ok (.dup2, 1) := by decide +kernel
theorem dX10_looks_309 : decode cX10_looks 309 = .ok (.iaload, 1) := by decide +kernel
theorem dX10_looks_310 : decode cX10_looks 310 = .ok (.iload 10, 2) := by decide +kernel
theorem dX10_looks_312 : decode cX10_looks 312 = .ok (.iadd, 1) := by decide +kernel
theorem dX10_looks_313 : decode cX10_looks 313 = .ok (.iastore, 1) := by decide +kernel
theorem dX10_looks_314 : decode cX10_looks 314 = .ok (.iload 8, 2) := by decide +kernel
theorem dX10_looks_316 : decode cX10_looks 316 = .ok (.iload 10, 2) := by decide +kernel
theorem dX10_looks_318 : decode cX10_looks 318 = .ok (.iadd, 1) := by decide +kernel
theorem dX10_looks_319 : decode cX10_looks 319 = .ok (.istore 8, 2) := by decide +kernel
theorem dX10_looks_321 : decode cX10_looks 321 = .ok (.iinc 9 1, 3) := by decide +kernel
theorem dX10_looks_324 : decode cX10_looks 324 = .ok (.goto (-142), 3) := by decide +kernel
theorem dX10_looks_327 : decode cX10_looks 327 = .ok (.iload 8, 2) := by decide +kernel
theorem dX10_looks_329 : decode cX10_looks 329 = .ok (.ireturn, 1) := by decide +kernel
set_option maxHeartbeats 4000000 in
set_option maxRecDepth 100000 in
theorem m_looks (de : Nat) (w : Wd) (mo : Nat) (ad : Nat → Nat) (A : Nat → Nat → Int32) (F : Nat → Int32) (L : Int32) (g : Nat → Int32) (hm : RM w mo ad) (nC nF nS : Nat) (cf cs ho : Nat → Nat) (hC : CVA A nC nF nS cf cs ho) (hN : F 24 = nI nC) (st se : Nat) (hst : st < nS) (hse : se < 20) : Ct yX10_looks cX10_looks 11 (some .int) 1 23 0 0 de [.ref mo, .int (nI st), .int (nI se)] (M w mo ad A F L g) (fun r w' => r = some (.int (lkR A cf cs ho st se nC).2) ∧ M w mo ad (lkR A cf cs ho st se nC).1 F L g = w') := by
  refine Ct.mk (by decide +kernel) [(0, .ref mo), (1, .int (nI st)), (2, .int (nI se))] rfl (Nat.le_of_ble_eq_true rfl) ?_
  intro p l e R s m args below meth c D cy z C hnm
  obtain ⟨h60, h16, h5, hcv, hho⟩ := id hC
  have hC1 : CVA (updA A 26 (20 * st + se) 1) nC nF nS cf cs ho := hC.upd (by decide) (Or.inl (by decide))
  have loop2 : ∀ mean : Int32, (lkR A cf cs ho st se nC) = (lkF cf cs ho st se mean (updA A 26 (20 * st + se) 1) nC) → ∀ (k i : Nat), i + k = nC → G p l e R s m args below meth c D cy z 11 (M w mo ad (lkF cf cs ho st se mean (updA A 26 (20 * st + se) 1) i).1 F L g) 0 0 182 [(0, .ref mo), (1, .int (nI st)), (2, .int (nI se)), (7, .int mean), (8, .int (lkF cf cs ho st se mean (updA A 26 (20 * st + se) 1) i).2), (9, .int (nI i))] [] (QM below args s D cy z (fun r w' => r = some (.int (lkR A cf cs ho st se nC).2) ∧ M w mo ad (lkR A cf cs ho st se nC).1 F L g = w') 0 0) := by
    intro mean hR
    intro k
    induction k with
    | zero =>
      intro i hik
      refine g_iload C dX10_looks_182 rfl ?_
      refine g_aload_n C dX10_looks_184 rfl ?_
      refine g_getI C cls_11 12 24 hm.1 rfl k_939 dX10_looks_185 ?_
      rw [M_f24]
      rw [hN]
      refine g_icmp_ge C 327 dX10_looks_188 (by decide) (fun c_188 => ?_) (fun c_188 => ?_)
      · refine g_iload C dX10_looks_327 rfl ?_
        refine g_iret C rfl rfl (by decide) (by decide) dX10_looks_329 ?_
        have hi9 : i = nC := by omega
        subst hi9
        exact ⟨by rw [hR], by rw [hR]⟩
      · exact absurd (nI_nle_of c_188 (by omega) (by omega)) (by omega)
    | succ k ih =>
      intro i hik
      have hi : i < nC := by omega
      have hC2 := lkF_CVA (st := st) (se := se) (mean := mean) hC1 i
      generalize hAi : (lkF cf cs ho st se mean (updA A 26 (20 * st + se) 1) i) = Ai at hC2 ⊢
      have hcv2 := hC2.2.2.2.1
      have hcfi := (hcv i hi).2.1
      refine g_iload C dX10_looks_182 rfl ?_
      refine g_aload_n C dX10_looks_184 rfl ?_
      refine g_getI C cls_11 12 24 hm.1 rfl k_939 dX10_looks_185 ?_
      rw [M_f24]
      rw [hN]
      refine g_icmp_ge C 327 dX10_looks_188 (by decide) (fun c_188 => ?_) (fun c_188 => ?_)
      · exact absurd (nI_le_of c_188 (by omega) (by omega)) (by omega)
      · refine g_aload_n C dX10_looks_191 rfl ?_
        refine g_iload C dX10_looks_192 rfl ?_
        refine g_iload_n C dX10_looks_194 rfl ?_
        refine g_iload_n C dX10_looks_195 rfl ?_
        refine g_callV C cls_11 12 mt_X10_isOf [.int (nI i), .int (nI se), .int (nI st)] (m_isOf de w mo ad Ai.1 F L g hm nC nF nS cf cs ho hC2 i se st hi (by omega) (by omega)) hm.1 (by decide) k_1164 rfl rfl (Nat.le_of_ble_eq_true rfl) (by decide) (by decide) (by decide) (by decide) dX10_looks_196 (fun r_196 w_196 hp_196 => ?_)
        obtain ⟨rfl, rfl⟩ := hp_196
        refine g_if_eq C 321 dX10_looks_199 (by decide) (fun c_199 => ?_) (fun c_199 => ?_)
        · refine g_iinc C dX10_looks_321 rfl (nI_1 i) (by decide) ?_
          refine g_goto C 182 dX10_looks_324 (by decide) ?_
          have h9 := ih (i + 1) (by omega)
          rw [lkF_f hAi (Or.inl c_199)] at h9
          exact g_lv2 [(0, .ref mo), (1, .int (nI st)), (2, .int (nI se)), (7, .int mean), (8, .int Ai.2), (9, .int (nI (i + 1)))] rfl h9
        · refine g_aload_n C dX10_looks_202 rfl ?_
          refine g_getR (b := (ad 23)) C cls_11 12 23 hm.1 (rm_23 hm).1 rfl k_938 dX10_looks_203 ?_
          refine g_bipush C 10 dX10_looks_206 (by rfl) ?_
          refine g_iload C dX10_looks_208 rfl ?_
          refine g_imul C dX10_looks_210 ?_
          refine g_bipush C 6 dX10_looks_211 (by rfl) ?_
          refine g_iadd C dX10_looks_213 ?_
          rw [show (10 : Int32) * nI i + 6 = nI (10 * i + 6) from ixm 10 i 6]
          refine g_iald C 2230 (rm_23 hm).2.1 rfl (show vp_in (nI (10 * i + 6)) (aL w (ad 23)) by rw [(rm_23 hm).2.2]; exact nI_vp (show 10 * i + 6 < 600 by omega) (by omega)) dX10_looks_214 ?_
          rw [M_a23, nI_tn (show 10 * i + 6 ≤ 100000 by omega)]
          refine g_bipush C 10 dX10_looks_215 (by rfl) ?_
          refine g_idiv C dX10_looks_217 (by decide) ?_
          refine g_bipush C 20 dX10_looks_218 (by rfl) ?_
          refine g_iadd C dX10_looks_220 ?_
          refine g_iload C dX10_looks_221 rfl ?_
          refine g_icmp_ge C 321 dX10_looks_223 (by decide) (fun c_223 => ?_) (fun c_223 => ?_)
          · refine g_iinc C dX10_looks_321 rfl (nI_1 i) (by decide) ?_
            refine g_goto C 182 dX10_looks_324 (by decide) ?_
            have h9 := ih (i + 1) (by omega)
            rw [lkF_f hAi (Or.inr c_223)] at h9
            exact g_lv2 [(0, .ref mo), (1, .int (nI st)), (2, .int (nI se)), (7, .int mean), (8, .int Ai.2), (9, .int (nI (i + 1)))] rfl h9
          · refine g_aload_n C dX10_looks_226 rfl ?_
            refine g_getR (b := (ad 23)) C cls_11 12 23 hm.1 (rm_23 hm).1 rfl k_938 dX10_looks_227 ?_
            refine g_bipush C 10 dX10_looks_230 (by rfl) ?_
            refine g_iload C dX10_looks_232 rfl ?_
            refine g_imul C dX10_looks_234 ?_
            refine g_iconst C 2 dX10_looks_235 (by rfl) ?_
            refine g_iadd C dX10_looks_236 ?_
            rw [show (10 : Int32) * nI i + 2 = nI (10 * i + 2) from ixm 10 i 2]
            refine g_iald C 2230 (rm_23 hm).2.1 rfl (show vp_in (nI (10 * i + 2)) (aL w (ad 23)) by rw [(rm_23 hm).2.2]; exact nI_vp (show 10 * i + 2 < 600 by omega) (by omega)) dX10_looks_237 ?_
            rw [M_a23, nI_tn (show 10 * i + 2 ≤ 100000 by omega)]
            refine g_iload C dX10_looks_238 rfl ?_
            refine g_bipush C 20 dX10_looks_240 (by rfl) ?_
            refine g_isub C dX10_looks_242 ?_
            refine g_imul C dX10_looks_243 ?_
            refine g_bipush C 100 dX10_looks_244 (by rfl) ?_
            refine g_idiv C dX10_looks_246 (by decide) ?_
            refine g_aload_n C dX10_looks_247 rfl ?_
            refine g_getR (b := (ad 23)) C cls_11 12 23 hm.1 (rm_23 hm).1 rfl k_938 dX10_looks_248 ?_
            refine g_bipush C 10 dX10_looks_251 (by rfl) ?_
            refine g_iload C dX10_looks_253 rfl ?_
            refine g_imul C dX10_looks_255 ?_
            refine g_bipush C 8 dX10_looks_256 (by rfl) ?_
            refine g_iadd C dX10_looks_258 ?_
            rw [show (10 : Int32) * nI i + 8 = nI (10 * i + 8) from ixm 10 i 8]
            refine g_iald C 2230 (rm_23 hm).2.1 rfl (show vp_in (nI (10 * i + 8)) (aL w (ad 23)) by rw [(rm_23 hm).2.2]; exact nI_vp (show 10 * i + 8 < 600 by omega) (by omega)) dX10_looks_259 ?_
            rw [M_a23, nI_tn (show 10 * i + 8 ≤ 100000 by omega)]
            refine g_isub C dX10_looks_260 ?_
            refine g_istore C dX10_looks_261 (by decide) ?_
            refine g_cutS (pc' := 274) (.int (lkM Ai.1 mean i)) ?_ (fun j_274 => ?_)
            · refine g_istore C dX10_looks_274 (by decide) ?_
              refine g_aload_n C dX10_looks_276 rfl ?_
              refine g_getR (b := (ad 23)) C cls_11 12 23 hm.1 (rm_23 hm).1 rfl k_938 dX10_looks_277 ?_
              refine g_bipush C 10 dX10_looks_280 (by rfl) ?_
              refine g_iload C dX10_looks_282 rfl ?_
              refine g_imul C dX10_looks_284 ?_
              refine g_bipush C 8 dX10_looks_285 (by rfl) ?_
              refine g_iadd C dX10_looks_287 ?_
              rw [show (10 : Int32) * nI i + 8 = nI (10 * i + 8) from ixm 10 i 8]
              refine g_dup2 C dX10_looks_288 rfl rfl ?_
              refine g_iald C 2230 (rm_23 hm).2.1 rfl (show vp_in (nI (10 * i + 8)) (aL w (ad 23)) by rw [(rm_23 hm).2.2]; exact nI_vp (show 10 * i + 8 < 600 by omega) (by omega)) dX10_looks_289 ?_
              rw [M_a23, nI_tn (show 10 * i + 8 ≤ 100000 by omega)]
              refine g_iload C dX10_looks_290 rfl ?_
              refine g_iadd C dX10_looks_292 ?_
              refine g_iast C 2230 (rm_23 hm).2.1 rfl (show vp_in (nI (10 * i + 8)) (aL w (ad 23)) by rw [(rm_23 hm).2.2]; exact nI_vp (show 10 * i + 8 < 600 by omega) (by omega)) dX10_looks_293 ?_
              rw [nI_tn (show 10 * i + 8 ≤ 100000 by omega), M_p23]
              refine g_aload_n C dX10_looks_294 rfl ?_
              refine g_getR (b := (ad 15)) C cls_11 12 15 hm.1 (rm_15 hm).1 rfl k_930 dX10_looks_295 ?_
              refine g_aload_n C dX10_looks_298 rfl ?_
              refine g_getR (b := (ad 23)) C cls_11 12 23 hm.1 (rm_23 hm).1 rfl k_938 dX10_looks_299 ?_
              refine g_bipush C 10 dX10_looks_302 (by rfl) ?_
              refine g_iload C dX10_looks_304 rfl ?_
              refine g_imul C dX10_looks_306 ?_
              rw [show (10 : Int32) * nI i = nI (10 * i) from pk_mul 10 i]
              refine g_iald C 2230 (rm_23 hm).2.1 rfl (show vp_in (nI (10 * i)) (aL w (ad 23)) by rw [(rm_23 hm).2.2]; exact nI_vp (show 10 * i < 600 by omega) (by omega)) dX10_looks_307 ?_
              rw [M_a23, nI_tn (show 10 * i ≤ 100000 by omega)]
              rw [updA_ne (by omega), (hcv2 i hi).1]
              refine g_dup2 C dX10_looks_308 rfl rfl ?_
              refine g_iald C 2150 (rm_15 hm).2.1 rfl (show vp_in (nI (cf i)) (aL w (ad 15)) by rw [(rm_15 hm).2.2]; exact nI_vp (show cf i < 16 by omega) (by omega)) dX10_looks_309 ?_
              rw [M_a15, nI_tn (show cf i ≤ 100000 by omega)]
              rw [updA_ne (Or.inl (by decide))]
              refine g_iload C dX10_looks_310 rfl ?_
              refine g_iadd C dX10_looks_312 ?_
              refine g_iast C 2150 (rm_15 hm).2.1 rfl (show vp_in (nI (cf i)) (aL w (ad 15)) by rw [(rm_15 hm).2.2]; exact nI_vp (show cf i < 16 by omega) (by omega)) dX10_looks_313 ?_
              rw [nI_tn (show cf i ≤ 100000 by omega), M_p15]
              refine g_iload C dX10_looks_314 rfl ?_
              refine g_iload C dX10_looks_316 rfl ?_
              refine g_iadd C dX10_looks_318 ?_
              refine g_istore C dX10_looks_319 (by decide) ?_
              refine g_iinc C dX10_looks_321 rfl (nI_1 i) (by decide) ?_
              refine g_goto C 182 dX10_looks_324 (by decide) ?_
              have h9 := ih (i + 1) (by omega)
              rw [lkF_t hAi c_199 c_223] at h9
              exact g_lv2 [(0, .ref mo), (1, .int (nI st)), (2, .int (nI se)), (7, .int mean), (8, .int (Ai.2 + lkM Ai.1 mean i)), (9, .int (nI (i + 1)))] rfl h9
            · refine g_iload C dX10_looks_263 rfl ?_
              refine g_if_le C 273 dX10_looks_265 (by decide) (fun c_265 => ?_) (fun c_265 => ?_)
              · refine g_iconst C 0 dX10_looks_273 (by rfl) ?_
                exact g_eq rfl (congrArg (fun v => Value.int v :: _) (by first | exact lkM_0 c_265 | exact lkM_1 c_265)) rfl j_274
              · refine g_iload C dX10_looks_268 rfl ?_
                refine g_goto C 274 dX10_looks_270 (by decide) ?_
                exact g_eq rfl (congrArg (fun v => Value.int v :: _) (by first | exact lkM_0 c_265 | exact lkM_1 c_265)) rfl j_274
  have loop1 : ∀ (k i : Nat), i + k = nC → G p l e R s m args below meth c D cy z 11 (M w mo ad A F L g) 0 0 14 [(0, .ref mo), (1, .int (nI st)), (2, .int (nI se)), (3, .int (nI (cntN (qO cf cs ho st se) i))), (4, .int (nI (cntN (qC A cf cs ho st se) i))), (5, .int (nI (cntN (qT A cf cs ho st se) i))), (6, .int (sumC (qT A cf cs ho st se) (fun k => A 18 (20 * cf k + se) - 1) i)), (7, .int (nI i))] [] (QM below args s D cy z (fun r w' => r = some (.int (lkR A cf cs ho st se nC).2) ∧ M w mo ad (lkR A cf cs ho st se nC).1 F L g = w') 0 0) := by
    intro k
    induction k with
    | zero =>
      intro i hik
      refine g_iload C dX10_looks_14 rfl ?_
      refine g_aload_n C dX10_looks_16 rfl ?_
      refine g_getI C cls_11 12 24 hm.1 rfl k_939 dX10_looks_17 ?_
      rw [M_f24]
      rw [hN]
      refine g_icmp_ge C 128 dX10_looks_20 (by decide) (fun c_20 => ?_) (fun c_20 => ?_)
      · refine g_aload_n C dX10_looks_128 rfl ?_
        refine g_getR (b := (ad 26)) C cls_11 12 26 hm.1 (rm_26 hm).1 rfl k_941 dX10_looks_129 ?_
        refine g_bipush C 20 dX10_looks_132 (by rfl) ?_
        refine g_iload_n C dX10_looks_134 rfl ?_
        refine g_imul C dX10_looks_135 ?_
        refine g_iload_n C dX10_looks_136 rfl ?_
        refine g_iadd C dX10_looks_137 ?_
        rw [show (20 : Int32) * nI st + nI se = nI (20 * st + se) from ixm 20 st se]
        refine g_zald C 2261 (rm_26 hm).2.1 rfl (show vp_in (nI (20 * st + se)) (aL w (ad 26)) by rw [(rm_26 hm).2.2]; exact nI_vp (show 20 * st + se < 100 by omega) (by omega)) dX10_looks_138 ?_
        rw [M_a26, nI_tn (show 20 * st + se ≤ 100000 by omega)]
        refine g_if_ne C 155 dX10_looks_139 (by decide) (fun c_139 => ?_) (fun c_139 => ?_)
        · refine g_iconst C 0 dX10_looks_155 (by rfl) ?_
          refine g_iret C rfl rfl (by decide) (by decide) dX10_looks_156 ?_
          have hi9 : i = nC := by omega
          subst hi9
          first
          | exact ⟨by rw [lkR_t (lkC_1 c_139)], by rw [lkR_t (lkC_1 c_139)]⟩
          | exact ⟨by rw [lkR_t (lkC_2 h60 c_147)], by rw [lkR_t (lkC_2 h60 c_147)]⟩
          | exact ⟨by rw [lkR_t (lkC_3 h60 c_152)], by rw [lkR_t (lkC_3 h60 c_152)]⟩
        · refine g_iconst C 2 dX10_looks_142 (by rfl) ?_
          refine g_iload C dX10_looks_143 rfl ?_
          refine g_imul C dX10_looks_145 ?_
          refine g_iload_n C dX10_looks_146 rfl ?_
          refine g_icmp_le C 155 dX10_looks_147 (by decide) (fun c_147 => ?_) (fun c_147 => ?_)
          · refine g_iconst C 0 dX10_looks_155 (by rfl) ?_
            refine g_iret C rfl rfl (by decide) (by decide) dX10_looks_156 ?_
            have hi9 : i = nC := by omega
            subst hi9
            first
            | exact ⟨by rw [lkR_t (lkC_1 c_139)], by rw [lkR_t (lkC_1 c_139)]⟩
            | exact ⟨by rw [lkR_t (lkC_2 h60 c_147)], by rw [lkR_t (lkC_2 h60 c_147)]⟩
            | exact ⟨by rw [lkR_t (lkC_3 h60 c_152)], by rw [lkR_t (lkC_3 h60 c_152)]⟩
          · refine g_iload C dX10_looks_150 rfl ?_
            refine g_if_ne C 157 dX10_looks_152 (by decide) (fun c_152 => ?_) (fun c_152 => ?_)
            · refine g_aload_n C dX10_looks_157 rfl ?_
              refine g_getR (b := (ad 26)) C cls_11 12 26 hm.1 (rm_26 hm).1 rfl k_941 dX10_looks_158 ?_
              refine g_bipush C 20 dX10_looks_161 (by rfl) ?_
              refine g_iload_n C dX10_looks_163 rfl ?_
              refine g_imul C dX10_looks_164 ?_
              refine g_iload_n C dX10_looks_165 rfl ?_
              refine g_iadd C dX10_looks_166 ?_
              rw [show (20 : Int32) * nI st + nI se = nI (20 * st + se) from ixm 20 st se]
              refine g_iconst C 1 dX10_looks_167 (by rfl) ?_
              refine g_zast C 2261 (rm_26 hm).2.1 rfl (show vp_in (nI (20 * st + se)) (aL w (ad 26)) by rw [(rm_26 hm).2.2]; exact nI_vp (show 20 * st + se < 100 by omega) (by omega)) (by decide) dX10_looks_168 ?_
              rw [nI_tn (show 20 * st + se ≤ 100000 by omega), M_p26]
              refine g_iload C dX10_looks_169 rfl ?_
              refine g_iload C dX10_looks_171 rfl ?_
              refine g_idiv C dX10_looks_173 c_152 ?_
              refine g_istore C dX10_looks_174 (by decide) ?_
              refine g_iconst C 0 dX10_looks_176 (by rfl) ?_
              refine g_istore C dX10_looks_177 (by decide) ?_
              refine g_iconst C 0 dX10_looks_179 (by rfl) ?_
              refine g_istore C dX10_looks_180 (by decide) ?_
              have hi9 : i = nC := by omega
              subst hi9
              exact g_lv2 [(0, .ref mo), (1, .int (nI st)), (2, .int (nI se)), (7, .int (lkV A cf cs ho st se i)), (8, .int 0), (9, .int (nI 0))] rfl (loop2 _ (lkR_f (lkC_0 h60 c_139 c_147 c_152)) i 0 (by omega))
            · refine g_iconst C 0 dX10_looks_155 (by rfl) ?_
              refine g_iret C rfl rfl (by decide) (by decide) dX10_looks_156 ?_
              have hi9 : i = nC := by omega
              subst hi9
              first
              | exact ⟨by rw [lkR_t (lkC_1 c_139)], by rw [lkR_t (lkC_1 c_139)]⟩
              | exact ⟨by rw [lkR_t (lkC_2 h60 c_147)], by rw [lkR_t (lkC_2 h60 c_147)]⟩
              | exact ⟨by rw [lkR_t (lkC_3 h60 c_152)], by rw [lkR_t (lkC_3 h60 c_152)]⟩
      · exact absurd (nI_nle_of c_20 (by omega) (by omega)) (by omega)
    | succ k ih =>
      intro i hik
      have hi : i < nC := by omega
      have hcfi := (hcv i hi).2.1
      refine g_iload C dX10_looks_14 rfl ?_
      refine g_aload_n C dX10_looks_16 rfl ?_
      refine g_getI C cls_11 12 24 hm.1 rfl k_939 dX10_looks_17 ?_
      rw [M_f24]
      rw [hN]
      refine g_icmp_ge C 128 dX10_looks_20 (by decide) (fun c_20 => ?_) (fun c_20 => ?_)
      · exact absurd (nI_le_of c_20 (by omega) (by omega)) (by omega)
      · refine g_bipush C 20 dX10_looks_23 (by rfl) ?_
        refine g_aload_n C dX10_looks_25 rfl ?_
        refine g_getR (b := (ad 23)) C cls_11 12 23 hm.1 (rm_23 hm).1 rfl k_938 dX10_looks_26 ?_
        refine g_bipush C 10 dX10_looks_29 (by rfl) ?_
        refine g_iload C dX10_looks_31 rfl ?_
        refine g_imul C dX10_looks_33 ?_
        rw [show (10 : Int32) * nI i = nI (10 * i) from pk_mul 10 i]
        refine g_iald C 2230 (rm_23 hm).2.1 rfl (show vp_in (nI (10 * i)) (aL w (ad 23)) by rw [(rm_23 hm).2.2]; exact nI_vp (show 10 * i < 600 by omega) (by omega)) dX10_looks_34 ?_
        rw [M_a23, nI_tn (show 10 * i ≤ 100000 by omega)]
        rw [(hcv i hi).1]
        refine g_imul C dX10_looks_35 ?_
        refine g_iload_n C dX10_looks_36 rfl ?_
        refine g_iadd C dX10_looks_37 ?_
        rw [show (20 : Int32) * nI (cf i) + nI se = nI (20 * (cf i) + se) from ixm 20 (cf i) se]
        refine g_istore C dX10_looks_38 (by decide) ?_
        refine g_aload_n C dX10_looks_40 rfl ?_
        refine g_iload C dX10_looks_41 rfl ?_
        refine g_iload_n C dX10_looks_43 rfl ?_
        refine g_iload_n C dX10_looks_44 rfl ?_
        refine g_callV C cls_11 12 mt_X10_isOf [.int (nI i), .int (nI se), .int (nI st)] (m_isOf de w mo ad A F L g hm nC nF nS cf cs ho hC i se st hi (by omega) (by omega)) hm.1 (by decide) k_1164 rfl rfl (Nat.le_of_ble_eq_true rfl) (by decide) (by decide) (by decide) (by decide) dX10_looks_45 (fun r_45 w_45 hp_45 => ?_)
        obtain ⟨rfl, rfl⟩ := hp_45
        refine g_if_eq C 122 dX10_looks_48 (by decide) (fun c_48 => ?_) (fun c_48 => ?_)
        · refine g_iinc C dX10_looks_122 rfl (nI_1 i) (by decide) ?_
          refine g_goto C 14 dX10_looks_125 (by decide) ?_
          have h9 := ih (i + 1) (by omega)
          rw [cntN_f (q_O c_48), cntN_f (q_C c_48), cntN_f (q_T c_48), sumC_f (q_T c_48)] at h9
          exact g_lv2 _ rfl h9
        · refine g_iinc C dX10_looks_51 rfl (nI_1 _) (by decide) ?_
          refine g_iload C dX10_looks_54 rfl ?_
          refine g_cutS (pc' := 71) (.int (nI (if (qC A cf cs ho st se) i = true then 1 else 0))) ?_ (fun j_71 => ?_)
          · refine g_iadd C dX10_looks_71 ?_
            rw [nI_add]
            refine g_istore C dX10_looks_72 (by decide) ?_
            refine g_iload C dX10_looks_74 rfl ?_
            refine g_cutS (pc' := 91) (.int (nI (if (qT A cf cs ho st se) i = true then 1 else 0))) ?_ (fun j_91 => ?_)
            · refine g_iadd C dX10_looks_91 ?_
              rw [nI_add]
              refine g_istore C dX10_looks_92 (by decide) ?_
              refine g_iload C dX10_looks_94 rfl ?_
              refine g_cutS (pc' := 119) (.int (if (qT A cf cs ho st se) i = true then A 18 (20 * cf i + se) - 1 else 0)) ?_ (fun j_119 => ?_)
              · refine g_iadd C dX10_looks_119 ?_
                rw [show sumC (qT A cf cs ho st se) (fun k => A 18 (20 * cf k + se) - 1) i + (if (qT A cf cs ho st se) i = true then A 18 (20 * cf i + se) - 1 else 0) = sumC (qT A cf cs ho st se) (fun k => A 18 (20 * cf k + se) - 1) (i + 1) from sumC_s]
                refine g_istore C dX10_looks_120 (by decide) ?_
                refine g_iinc C dX10_looks_122 rfl (nI_1 i) (by decide) ?_
                refine g_goto C 14 dX10_looks_125 (by decide) ?_
                have h9 := ih (i + 1) (by omega)
                rw [cntN_t (P := (qO cf cs ho st se)) (bI_n0.mp c_48)] at h9
                exact g_lv2 _ rfl h9
              · refine g_aload_n C dX10_looks_96 rfl ?_
                refine g_getR (b := (ad 18)) C cls_11 12 18 hm.1 (rm_18 hm).1 rfl k_933 dX10_looks_97 ?_
                refine g_iload C dX10_looks_100 rfl ?_
                refine g_iald C 2180 (rm_18 hm).2.1 rfl (show vp_in (nI (20 * cf i + se)) (aL w (ad 18)) by rw [(rm_18 hm).2.2]; exact nI_vp (show 20 * cf i + se < 320 by omega) (by omega)) dX10_looks_102 ?_
                rw [M_a18, nI_tn (show 20 * cf i + se ≤ 100000 by omega)]
                refine g_if_le C 118 dX10_looks_103 (by decide) (fun c_103 => ?_) (fun c_103 => ?_)
                · refine g_iconst C 0 dX10_looks_118 (by rfl) ?_
                  exact g_eq rfl (congrArg (fun v => Value.int v :: _) (by first | exact (if_pos (qT_t c_48 c_103)).symm | exact (if_neg (qT_f c_103)).symm)) rfl j_119
                · refine g_aload_n C dX10_looks_106 rfl ?_
                  refine g_getR (b := (ad 18)) C cls_11 12 18 hm.1 (rm_18 hm).1 rfl k_933 dX10_looks_107 ?_
                  refine g_iload C dX10_looks_110 rfl ?_
                  refine g_iald C 2180 (rm_18 hm).2.1 rfl (show vp_in (nI (20 * cf i + se)) (aL w (ad 18)) by rw [(rm_18 hm).2.2]; exact nI_vp (show 20 * cf i + se < 320 by omega) (by omega)) dX10_looks_112 ?_
                  rw [M_a18, nI_tn (show 20 * cf i + se ≤ 100000 by omega)]
                  refine g_iconst C 1 dX10_looks_113 (by rfl) ?_
                  refine g_isub C dX10_looks_114 ?_
                  refine g_goto C 119 dX10_looks_115 (by decide) ?_
                  exact g_eq rfl (congrArg (fun v => Value.int v :: _) (by first | exact (if_pos (qT_t c_48 c_103)).symm | exact (if_neg (qT_f c_103)).symm)) rfl j_119
            · refine g_aload_n C dX10_looks_76 rfl ?_
              refine g_getR (b := (ad 18)) C cls_11 12 18 hm.1 (rm_18 hm).1 rfl k_933 dX10_looks_77 ?_
              refine g_iload C dX10_looks_80 rfl ?_
              refine g_iald C 2180 (rm_18 hm).2.1 rfl (show vp_in (nI (20 * cf i + se)) (aL w (ad 18)) by rw [(rm_18 hm).2.2]; exact nI_vp (show 20 * cf i + se < 320 by omega) (by omega)) dX10_looks_82 ?_
              rw [M_a18, nI_tn (show 20 * cf i + se ≤ 100000 by omega)]
              refine g_if_le C 90 dX10_looks_83 (by decide) (fun c_83 => ?_) (fun c_83 => ?_)
              · refine g_iconst C 0 dX10_looks_90 (by rfl) ?_
                exact g_eq rfl (congrArg (fun v => Value.int v :: _) (by first | (rw [if_pos (qT_t c_48 c_83)]; rfl) | (rw [if_neg (qT_f c_83)]; rfl))) rfl j_91
              · refine g_iconst C 1 dX10_looks_86 (by rfl) ?_
                refine g_goto C 91 dX10_looks_87 (by decide) ?_
                exact g_eq rfl (congrArg (fun v => Value.int v :: _) (by first | (rw [if_pos (qT_t c_48 c_83)]; rfl) | (rw [if_neg (qT_f c_83)]; rfl))) rfl j_91
          · refine g_aload_n C dX10_looks_56 rfl ?_
            refine g_getR (b := (ad 19)) C cls_11 12 19 hm.1 (rm_19 hm).1 rfl k_934 dX10_looks_57 ?_
            refine g_iload C dX10_looks_60 rfl ?_
            refine g_zald C 2191 (rm_19 hm).2.1 rfl (show vp_in (nI (20 * cf i + se)) (aL w (ad 19)) by rw [(rm_19 hm).2.2]; exact nI_vp (show 20 * cf i + se < 320 by omega) (by omega)) dX10_looks_62 ?_
            rw [M_a19, nI_tn (show 20 * cf i + se ≤ 100000 by omega)]
            refine g_if_eq C 70 dX10_looks_63 (by decide) (fun c_63 => ?_) (fun c_63 => ?_)
            · refine g_iconst C 0 dX10_looks_70 (by rfl) ?_
              exact g_eq rfl (congrArg (fun v => Value.int v :: _) (by first | exact qC_1 c_48 c_63 | exact qC_0 c_63)) rfl j_71
            · refine g_iconst C 1 dX10_looks_66 (by rfl) ?_
              refine g_goto C 71 dX10_looks_67 (by decide) ?_
              exact g_eq rfl (congrArg (fun v => Value.int v :: _) (by first | exact qC_1 c_48 c_63 | exact qC_0 c_63)) rfl j_71
  refine g_iconst C 0 dX10_looks_0 (by rfl) ?_
  refine g_istore_n C dX10_looks_1 (by decide) ?_
  refine g_iconst C 0 dX10_looks_2 (by rfl) ?_
  refine g_istore C dX10_looks_3 (by decide) ?_
  refine g_iconst C 0 dX10_looks_5 (by rfl) ?_
  refine g_istore C dX10_looks_6 (by decide) ?_
  refine g_iconst C 0 dX10_looks_8 (by rfl) ?_
  refine g_istore C dX10_looks_9 (by decide) ?_
  refine g_iconst C 0 dX10_looks_11 (by rfl) ?_
  refine g_istore C dX10_looks_12 (by decide) ?_
  exact g_lv2 [(0, .ref mo), (1, .int (nI st)), (2, .int (nI se)), (3, .int (nI (cntN (qO cf cs ho st se) 0))), (4, .int (nI (cntN (qC A cf cs ho st se) 0))), (5, .int (nI (cntN (qT A cf cs ho st se) 0))), (6, .int (sumC (qT A cf cs ho st se) (fun k => A 18 (20 * cf k + se) - 1) 0)), (7, .int (nI 0))] rfl (loop1 nC 0 (by omega))
end REF20
