section REF24
def lvs2 (l : List (Nat × Value)) (i : Nat) (v : Value) : List (Nat × Value) := (i, v) :: l.filter (fun q => !(q.1 == i) && (!(q.1 == i + 1) && !(q.1 + 1 == i && q.2.category == 2)))
theorem g_lstore_n {p : Program} {l : Launch} {e : Env} {R : Room} {s : State} {m : MethodId} {args : Array Value} {below : List Frame} {meth : Method} {c : Code} {D : va_G} {cy : Nat → ClassId} {z : Nat} {cc : ByteArray} {own : String} {nL : Nat} {ret : Option FieldType} {fr lo mc ms de : Nat} {w : Wd} {kc ns pc : Nat} {lv : List (Nat × Value)} {st : List Value} {Q : State → Prop} (C : Cx p l R s m args meth c D cy z cc own nL ret fr lo mc ms de) {i : Fin 4} {x : Int64} (hdg : decode cc pc = .ok (.lstore_n i, 1)) (hn : (i : Nat) + 1 < nL) (k : G p l e R s m args below meth c D cy z nL w kc ns (pc + 1) (lvs2 lv (i : Nat) (.long x)) st Q) : G p l e R s m args below meth c D cy z nL w kc ns pc lv (.long x :: st) Q := fun H locs ls hH hS hl => lv_lstore_n C.1 C.2.1 hdg rfl hl hn rfl (fun ls' hl' => k H locs ls' hH hS hl')
theorem g_lstore {p : Program} {l : Launch} {e : Env} {R : Room} {s : State} {m : MethodId} {args : Array Value} {below : List Frame} {meth : Method} {c : Code} {D : va_G} {cy : Nat → ClassId} {z : Nat} {cc : ByteArray} {own : String} {nL : Nat} {ret : Option FieldType} {fr lo mc ms de : Nat} {w : Wd} {kc ns pc : Nat} {lv : List (Nat × Value)} {st : List Value} {Q : State → Prop} (C : Cx p l R s m args meth c D cy z cc own nL ret fr lo mc ms de) {i : Nat} {x : Int64} (hdg : decode cc pc = .ok (.lstore i, 2)) (hn : i + 1 < nL) (k : G p l e R s m args below meth c D cy z nL w kc ns (pc + 2) (lvs2 lv i (.long x)) st Q) : G p l e R s m args below meth c D cy z nL w kc ns pc lv (.long x :: st) Q := fun H locs ls hH hS hl => lv_lstore C.1 C.2.1 hdg hl hn rfl (fun ls' hl' => k H locs ls' hH hS hl')
theorem i2l_n {n : Nat} (h : n < 2 ^ 31) : (nI n).toInt64 = lN n := by
  apply Int64.toInt_inj.mp
  rw [Int32.toInt_toInt64, nI_toInt h, lN_toInt h]
def dvN (sN rN : Nat → Nat) (k : Nat) : Nat := sN k * rN k / 1000
theorem dv_le {sN rN : Nat → Nat} {k : Nat} (h1 : sN k ≤ 2000) (h2 : rN k ≤ 1000) : sN k * rN k ≤ 2000000 ∧ dvN sN rN k ≤ 2000 := by
  have h : sN k * rN k ≤ 2000 * 1000 := Nat.mul_le_mul h1 h2
  unfold dvN
  omega
theorem dv_e {sN rN : Nat → Nat} {k : Nat} (h1 : sN k ≤ 2000) (h2 : rN k ≤ 1000) : nI (sN k) * nI (rN k) / 1000 = nI (dvN sN rN k) := by
  have h := (dv_le h1 h2).1
  rw [pk_mul]
  exact pk_div (d := 1000) (by omega) (by decide) (by decide)
def sdF (cs : Nat → Nat) (se : Nat) (sN rN : Nat → Nat) (A0 : Nat → Nat → Int32) : Nat → Nat → Nat → Int32
  | 0 => A0
  | k + 1 => if cs k = se then updA (updA (sdF cs se sN rN A0 k) 23 (10 * k + 6) (nI (rN k))) 23 (10 * k + 7) (nI (dvN sN rN k)) else sdF cs se sN rN A0 k
def allN (cs : Nat → Nat) (se : Nat) (dv : Nat → Nat) : Nat → Nat
  | 0 => 0
  | k + 1 => allN cs se dv k + if cs k = se then dv k else 0
def cutN (d cap all : Nat) : Nat := if cap < all then d * cap / all else d
/-- what is paid for cover k of farm f -/
def payS (A : Nat → Nat → Int32) (k f se its : Nat) : Nat → Nat → Int32 :=
  updA (updA (updA (updA (updA A 23 (10 * k + 8) (nI its)) 23 (10 * k + 9) (if nI its < A 14 f then nI its else A 14 f)) 14 f (A 14 f - (if nI its < A 14 f then nI its else A 14 f))) 15 f (A 15 f + (nI its - (if nI its < A 14 f then nI its else A 14 f)))) 13 f (truV (A 13 f) (A 18 (20 * f + se)) (nI its))
def spF (cf cs : Nat → Nat) (se : Nat) (dv : Nat → Nat) (cap all : Nat) (A1 : Nat → Nat → Int32) : Nat → (Nat → Nat → Int32) × Nat
  | 0 => (A1, 0)
  | k + 1 => if cs k = se then (payS (spF cf cs se dv cap all A1 k).1 k (cf k) se (cutN (dv k) cap all), (spF cf cs se dv cap all A1 k).2 + cutN (dv k) cap all) else spF cf cs se dv cap all A1 k
/-- a settlement: the arrays after it, and what is paid -/
def setR (A : Nat → Nat → Int32) (D0 : Int32) (cf cs : Nat → Nat) (se : Nat) (sN rN : Nat → Nat) (rt ly n : Nat) : (Nat → Nat → Int32) × Nat :=
  spF cf cs se (dvN sN rN) (rt + ly) (allN cs se (dvN sN rN) n) (sdF cs se sN rN (updA A 25 se (D0 + 1)) n) n
section
variable {cf cs sN rN dv : Nat → Nat} {se cap all n k : Nat} {A A0 A1 : Nat → Nat → Int32}
theorem sdF_t (h : nI (cs k) = nI se) (h1 : cs k < 100000) (h2 : se < 100000) : sdF cs se sN rN A0 (k + 1) = updA (updA (sdF cs se sN rN A0 k) 23 (10 * k + 6) (nI (rN k))) 23 (10 * k + 7) (nI (dvN sN rN k)) := by
  rw [sdF, if_pos ((nI_eq (by omega) (by omega)).mp h)]
theorem sdF_f (h : ¬ nI (cs k) = nI se) : sdF cs se sN rN A0 (k + 1) = sdF cs se sN rN A0 k := by rw [sdF, if_neg (fun z => h (by rw [z]))]
theorem allN_t (h : nI (cs k) = nI se) (h1 : cs k < 100000) (h2 : se < 100000) : allN cs se dv (k + 1) = allN cs se dv k + dv k := by rw [allN, if_pos ((nI_eq (by omega) (by omega)).mp h)]
theorem allN_f (h : ¬ nI (cs k) = nI se) : allN cs se dv (k + 1) = allN cs se dv k := by rw [allN, if_neg (fun z => h (by rw [z]))]; rfl
theorem allN_le (h : ∀ k, k < n → dv k ≤ 2000) : ∀ i, i ≤ n → allN cs se dv i ≤ 2000 * i
  | 0, _ => Nat.le_refl _
  | i + 1, hi => by
    have h1 := allN_le h i (by omega)
    have h2 := h i (by omega)
    show allN cs se dv i + (if cs i = se then dv i else 0) ≤ 2000 * (i + 1)
    split <;> omega
theorem sdF_ne {q j : Nat} (h : q ≠ 23 ∨ (j % 10 ≠ 6 ∧ j % 10 ≠ 7)) : ∀ i, sdF cs se sN rN A0 i q j = A0 q j
  | 0 => rfl
  | i + 1 => by
    rw [sdF]
    by_cases h1 : cs i = se
    · rw [if_pos h1, updA_ne (by omega), updA_ne (by omega)]
      exact sdF_ne h i
    · rw [if_neg h1]
      exact sdF_ne h i
theorem sdF_7 (hk : cs k = se) : ∀ i, k < i → sdF cs se sN rN A0 i 23 (10 * k + 7) = nI (dvN sN rN k)
  | 0, h => by omega
  | i + 1, h => by
    rw [sdF]
    by_cases e : i = k
    · rw [e, if_pos hk, updA_eq]
    · by_cases h1 : cs i = se
      · rw [if_pos h1, updA_ne (by omega), updA_ne (by omega)]
        exact sdF_7 hk i (by omega)
      · rw [if_neg h1]
        exact sdF_7 hk i (by omega)
theorem sdF_CVA {nC nF nS : Nat} {ho : Nat → Nat} (h : CVA A0 nC nF nS cf cs ho) : ∀ i, CVA (sdF cs se sN rN A0 i) nC nF nS cf cs ho
  | 0 => h
  | i + 1 => by
    rw [sdF]
    split
    · exact ((sdF_CVA h i).upd (by decide) (Or.inr (by omega))).upd (by decide) (Or.inr (by omega))
    · exact sdF_CVA h i
theorem spF_t (h : nI (cs k) = nI se) (h1 : cs k < 100000) (h2 : se < 100000) : spF cf cs se dv cap all A1 (k + 1) = (payS (spF cf cs se dv cap all A1 k).1 k (cf k) se (cutN (dv k) cap all), (spF cf cs se dv cap all A1 k).2 + cutN (dv k) cap all) := by
  rw [spF, if_pos ((nI_eq (by omega) (by omega)).mp h)]
theorem spF_f (h : ¬ nI (cs k) = nI se) : spF cf cs se dv cap all A1 (k + 1) = spF cf cs se dv cap all A1 k := by rw [spF, if_neg (fun z => h (by rw [z]))]
theorem payS_ne {q j f its : Nat} (h : q ≠ 13 ∧ q ≠ 14 ∧ q ≠ 15 ∧ (q ≠ 23 ∨ (j % 10 ≠ 8 ∧ j % 10 ≠ 9))) : payS A k f se its q j = A q j := by
  unfold payS
  rw [updA_ne (by omega), updA_ne (by omega), updA_ne (by omega), updA_ne (by omega), updA_ne (by omega)]
theorem spF_ne {q j : Nat} (h : q ≠ 13 ∧ q ≠ 14 ∧ q ≠ 15 ∧ (q ≠ 23 ∨ (j % 10 ≠ 8 ∧ j % 10 ≠ 9))) : ∀ i, (spF cf cs se dv cap all A1 i).1 q j = A1 q j
  | 0 => rfl
  | i + 1 => by
    rw [spF]
    split
    · exact (payS_ne h).trans (spF_ne h i)
    · exact spF_ne h i
theorem spF_CVA {nC nF nS : Nat} {ho : Nat → Nat} (h : CVA A1 nC nF nS cf cs ho) (i : Nat) : CVA (spF cf cs se dv cap all A1 i).1 nC nF nS cf cs ho :=
  ⟨h.1, h.2.1, h.2.2.1, fun k hk => ⟨by rw [spF_ne (by omega)]; exact (h.2.2.2.1 k hk).1, (h.2.2.2.1 k hk).2.1, by rw [spF_ne (by omega)]; exact (h.2.2.2.1 k hk).2.2.1, (h.2.2.2.1 k hk).2.2.2⟩, fun f hf => ⟨by rw [spF_ne (by omega)]; exact (h.2.2.2.2 f hf).1, (h.2.2.2.2 f hf).2⟩⟩
theorem cutN_le {d : Nat} (h : d ≤ 2000) : cutN d cap all ≤ 2000 := by
  unfold cutN
  split
  · rename_i hc
    have h1 : d * cap / all ≤ d * all / all := Nat.div_le_div_right (Nat.mul_le_mul_left d (by omega))
    rw [Nat.mul_div_cancel d (by omega)] at h1
    omega
  · exact h
theorem spF_le (h : ∀ k, k < n → dv k ≤ 2000) : ∀ i, i ≤ n → (spF cf cs se dv cap all A1 i).2 ≤ 2000 * i
  | 0, _ => Nat.le_refl _
  | i + 1, hi => by
    have h1 := spF_le h i (by omega)
    have h2 := cutN_le (cap := cap) (all := all) (h i (by omega))
    rw [spF]
    split
    · show (spF cf cs se dv cap all A1 i).2 + cutN (dv i) cap all ≤ 2000 * (i + 1)
      omega
    · omega
theorem cut_1 {d : Nat} (hd : d ≤ 2000) (hc : cap ≤ 199998) (ha : all ≤ 120000) (h : ¬ lg_cmp (lN all) (lN cap) ≤ 0) : ((nI d).toInt64 * lN cap / lN all).toInt32 = nI (cutN d cap all) := by
  have h1 : cap < all := Nat.not_le.mp (fun z => h ((lg_cmp_le _ _).mpr ((lN_le (by omega) (by omega)).mpr z)))
  have h2 : d * cap ≤ 2000 * 199998 := Nat.mul_le_mul hd hc
  rw [i2l_n (by omega), lN_mul, pk_lDiv (by omega) (by omega) (by omega), lN_i]
  unfold cutN
  rw [if_pos h1]
theorem cut_0 {d : Nat} (hc : cap ≤ 199998) (ha : all ≤ 120000) (h : lg_cmp (lN all) (lN cap) ≤ 0) : nI d = nI (cutN d cap all) := by
  have h1 : all ≤ cap := (lN_le (by omega) (by omega)).mp ((lg_cmp_le _ _).mp h)
  unfold cutN
  rw [if_neg (by omega)]
theorem cut_ne (hc : cap ≤ 199998) (ha : all ≤ 120000) (h : ¬ lg_cmp (lN all) (lN cap) ≤ 0) : ¬ lN all = 0 := fun z => by
  have h1 : cap < all := Nat.not_le.mp (fun z => h ((lg_cmp_le _ _).mpr ((lN_le (by omega) (by omega)).mpr z)))
  have h2 := (lN_eq (a := all) (b := 0) (by omega) (by omega)).mp z
  omega
theorem ratA_congr {A' : Nat → Nat → Int32} {nS pr n s0 se : Nat} {dN : Nat → Nat} (h1 : A' 1 = A 1) (h2 : A' 2 = A 2) (h4 : A' 4 = A 4) (h5 : A' 5 = A 5) (h7 : A' 7 = A 7) (h9 : A' 9 = A 9) : ratA A' nS pr n dN s0 se = ratA A nS pr n dN s0 se := by
  unfold ratA rowA phA
  rw [h1, h2, h4, h5, h7, h9]
theorem PHA_congr {A' : Nat → Nat → Int32} {pr n : Nat} {dN : Nat → Nat} (h7 : A' 7 = A 7) (h : PHA A pr n dN) : PHA A' pr n dN := by
  unfold PHA phA at h ⊢
  rw [h7]
  exact h
end
theorem dX10_settle_0 : decode cX10_settle 0 = .ok (.iload_n 1, 1) := by decide +kernel
theorem dX10_settle_1 : decode cX10_settle 1 = .ok (.invokestatic 116, 3) := by decide +kernel
theorem dX10_settle_4 : decode cX10_settle 4 = .ok (.istore_n 2, 1) := by decide +kernel
theorem dX10_settle_5 : decode cX10_settle 5 = .ok (.aload_n 0, 1) := by decide +kernel
theorem dX10_settle_6 : decode cX10_settle 6 = .ok (.iload_n 2, 1) := by decide +kernel
theorem dX10_settle_7 : decode cX10_settle 7 = .ok (.iload_n 2, 1) := by decide +kernel
theorem dX10_settle_8 : decode cX10_settle 8 = .ok (.ifCond .eq 24, 3) := by decide +kernel
theorem dX10_settle_11 : decode cX10_settle 11 = .ok (.aload_n 0, 1) := by decide +kernel
theorem dX10_settle_12 : decode cX10_settle 12 = .ok (.iload_n 1, 1) := by decide +kernel
theorem dX10_settle_13 : decode cX10_settle 13 = .ok (.invokevirtual 146, 3) := by decide +kernel
theorem dX10_settle_16 : decode cX10_settle 16 = .ok (.ifCond .eq 16, 3) := by decide +kernel
theorem dX10_settle_19 : decode cX10_settle 19 = .ok (.aload_n 0, 1) := by decide +kernel
theorem dX10_settle_20 : decode cX10_settle 20 = .ok (.getfield 66, 3) := by decide +kernel
theorem dX10_settle_23 : decode cX10_settle 23 = .ok (.iload_n 1, 1) := by decide +kernel
theorem dX10_settle_24 : decode cX10_settle 24 = .ok (.iaload, 1) := by decide +kernel
theorem dX10_settle_25 : decode cX10_settle 25 = .ok (.ifCond .ne 7, 3) := by decide +kernel
theorem dX10_settle_28 : decode cX10_settle 28 = .ok (.iconst 1, 1) := by decide +kernel
theorem dX10_settle_29 : decode cX10_settle 29 = .ok (.goto 4, 3) := by decide +kernel
theorem dX10_settle_32 : decode cX10_settle 32 = .ok (.iconst 0, 1) := by decide +kernel
theorem dX10_settle_33 : decode cX10_settle 33 = .ok (.iconst 1, 1) := by decide +kernel
theorem dX10_settle_34 : decode cX10_settle 34 = .ok (.invokevirtual 95, 3) := by decide +kernel
theorem dX10_settle_37 : decode cX10_settle 37 = .ok (.ifCond .ne 5, 3) := by decide +kernel
theorem dX10_settle_40 : decode cX10_settle 40 = .ok (.iconst 0, 1) := by decide +kernel
theorem dX10_settle_41 : decode cX10_settle 41 = .ok (.ireturn, 1) := by decide +kernel
theorem dX10_settle_42 : decode cX10_settle 42 = .ok (.aload_n 0, 1) := by decide +kernel
theorem dX10_settle_43 : decode cX10_settle 43 = .ok (.getfield 66, 3) := by decide +kernel
theorem dX10_settle_46 : decode cX10_settle 46 = .ok (.iload_n 1, 1) := by decide +kernel
theorem dX10_settle_47 : decode cX10_settle 47 = .ok (.aload_n 0, 1) := by decide +kernel
theorem dX10_settle_48 : decode cX10_settle 48 = .ok (.getfield 103, 3) := by decide +kernel
theorem dX10_settle_51 : decode cX10_settle 51 = .ok (.iconst 1, 1) := by decide +kernel
theorem dX10_settle_52 : decode cX10_settle 52 = .ok (.iadd, 1) := by decide +kernel
theorem dX10_settle_53 : decode cX10_settle 53 = .ok (.iastore, 1) := by decide +kernel
theorem dX10_settle_54 : decode cX10_settle 54 = .ok (.lconst 0, 1) := by decide +kernel
theorem dX10_settle_55 : decode cX10_settle 55 = .ok (.lstore_n 3, 1) := by decide +kernel
theorem dX10_settle_56 : decode cX10_settle 56 = .ok (.iconst 0, 1) := by decide +kernel
theorem dX10_settle_57 : decode cX10_settle 57 = .ok (.istore 5, 2) := by decide +kernel
theorem dX10_settle_59 : decode cX10_settle 59 = .ok (.iload 5, 2) := by decide +kernel
theorem dX10_settle_61 : decode cX10_settle 61 = .ok (.aload_n 0, 1) := by decide +kernel
theorem dX10_settle_62 : decode cX10_settle 62 = .ok (.getfield 156, 3) := by decide +kernel
theorem dX10_settle_65 : decode cX10_settle 65 = .ok (.if_icmp .ge 130, 3) := by decide +kernel
theorem dX10_settle_68 : decode cX10_settle 68 = .ok (.aload_n 0, 1) := by decide +kernel
theorem dX10_settle_69 : decode cX10_settle 69 = .ok (.getfield 63, 3) := by decide +kernel
theorem dX10_settle_72 : decode cX10_settle 72 = .ok (.bipush 10, 2) := by decide +kernel
theorem dX10_settle_74 : decode cX10_settle 74 = .ok (.iload 5, 2) := by decide +kernel
theorem dX10_settle_76 : decode cX10_settle 76 = .ok (.imul, 1) := by decide +kernel
theorem dX10_settle_77 : decode cX10_settle 77 = .ok (.iconst 3, 1) := by decide +kernel
theorem dX10_settle_78 : decode cX10_settle 78 = .ok (.iadd, 1) := by decide +kernel
theorem dX10_settle_79 : decode cX10_settle 79 = .ok (.iaload, 1) := by decide +kernel
theorem dX10_settle_80 : decode cX10_settle 80 = .ok (.iload_n 1, 1) := by decide +kernel
theorem dX10_settle_81 : decode cX10_settle 81 = .ok (.if_icmp .ne 108, 3) := by decide +kernel
theorem dX10_settle_84 : decode cX10_settle 84 = .ok (.aload_n 0, 1) := by decide +kernel
theorem dX10_settle_85 : decode cX10_settle 85 = .ok (.getfield 63, 3) := by decide +kernel
theorem dX10_settle_88 : decode cX10_settle 88 = .ok (.bipush 10, 2) := by decide +kernel
theorem dX10_settle_90 : decode cX10_settle 90 = .ok (.iload 5, 2) := by decide +kernel
theorem dX10_settle_92 : decode cX10_settle 92 = .ok (.imul, 1) := by decide +kernel
theorem dX10_settle_93 : decode cX10_settle 93 = .ok (.bipush 6, 2) := by decide +kernel
theorem dX10_settle_95 : decode cX10_settle 95 = .ok (.iadd, 1) := by decide +kernel
theorem dX10_settle_96 : decode cX10_settle 96 = .ok (.aload_n 0, 1) := by decide +kernel
theorem dX10_settle_97 : decode cX10_settle 97 = .ok (.aload_n 0, 1) := by decide +kernel
theorem dX10_settle_98 : decode cX10_settle 98 = .ok (.getfield 31, 3) := by decide +kernel
theorem dX10_settle_101 : decode cX10_settle 101 = .ok (.aload_n 0, 1) := by decide +kernel
theorem dX10_settle_102 : decode cX10_settle 102 = .ok (.getfield 63, 3) := by decide +kernel
theorem dX10_settle_105 : decode cX10_settle 105 = .ok (.bipush 10, 2) := by decide +kernel
theorem dX10_settle_107 : decode cX10_settle 107 = .ok (.iload 5, 2) := by decide +kernel
theorem dX10_settle_109 : decode cX10_settle 109 = .ok (.imul, 1) := by decide +kernel
theorem dX10_settle_110 : decode cX10_settle 110 = .ok (.iaload, 1) := by decide +kernel
theorem dX10_settle_111 : decode cX10_settle 111 = .ok (.iaload, 1) := by decide +kernel
theorem dX10_settle_112 : decode cX10_settle 112 = .ok (.iload_n 1, 1) := by decide +kernel
theorem dX10_settle_113 : decode cX10_settle 113 = .ok (.aload_n 0, 1) := by decide +kernel
theorem dX10_settle_114 : decode cX10_settle 114 = .ok (.getfield 63, 3) := by decide +kernel
theorem dX10_settle_117 : decode cX10_settle 117 = .ok (.bipush 10, 2) := by decide +kernel
theorem dX10_settle_119 : decode cX10_settle 119 = .ok (.iload 5, 2) := by decide +kernel
theorem dX10_settle_121 : decode cX10_settle 121 = .ok (.imul, 1) := by decide +kernel
theorem dX10_settle_122 : decode cX10_settle 122 = .ok (.iconst 1, 1) := by decide +kernel
theorem dX10_settle_123 : decode cX10_settle 123 = .ok (.iadd, 1) := by decide +kernel
theorem dX10_settle_124 : decode cX10_settle 124 = .ok (.iaload, 1) := by decide +kernel
theorem dX10_settle_125 : decode cX10_settle 125 = .ok (.invokevirtual 143, 3) := by decide +kernel
theorem dX10_settle_128 : decode cX10_settle 128 = .ok (.iastore, 1) := by decide +kernel
theorem dX10_settle_129 : decode cX10_settle 129 = .ok (.aload_n 0, 1) := by decide +kernel
theorem dX10_settle_130 : decode cX10_settle 130 = .ok (.getfield 63, 3) := by decide +kernel
theorem dX10_settle_133 : decode cX10_settle 133 = .ok (.bipush 10, 2) := by decide +kernel
theorem dX10_settle_135 : decode cX10_settle 135 = .ok (.iload 5, 2) := by decide +kernel
theorem dX10_settle_137 : decode cX10_settle 137 = .ok (.imul, 1) := by decide +kernel
theorem dX10_settle_138 : decode cX10_settle 138 = .ok (.bipush 7, 2) := by decide +kernel
theorem dX10_settle_140 : decode cX10_settle 140 = .ok (.iadd, 1) := by decide +kernel
theorem dX10_settle_141 : decode cX10_settle 141 = .ok (.aload_n 0, 1) := by decide +kernel
theorem dX10_settle_142 : decode cX10_settle 142 = .ok (.getfield 63, 3) := by decide +kernel
theorem dX10_settle_145 : decode cX10_settle 145 = .ok (.bipush 10, 2) := by decide +kernel
theorem dX10_settle_147 : decode cX10_settle 147 = .ok (.iload 5, 2) := by decide +kernel
theorem dX10_settle_149 : decode cX10_settle 149 = .ok (.imul, 1) := by decide +kernel
theorem dX10_settle_150 : decode cX10_settle 150 = .ok (.iconst 2, 1) := by decide +kernel
theorem dX10_settle_151 : decode cX10_settle 151 = .ok (.iadd, 1) := by decide +kernel
theorem dX10_settle_152 : decode cX10_settle 152 = .ok (.iaload, 1) := by decide +kernel
theorem dX10_settle_153 : decode cX10_settle 153 = .ok (.aload_n 0, 1) := by decide +kernel
theorem dX10_settle_154 : decode cX10_settle 154 = .ok (.getfield 63, 3) := by decide +kernel
theorem dX10_settle_157 : decode cX10_settle 157 = .ok (.bipush 10, 2) := by decide +kernel
theorem dX10_settle_159 : decode cX10_settle 159 = .ok (.iload 5, 2) := by decide +kernel
theorem dX10_settle_161 : decode cX10_settle 161 = .ok (.imul, 1) := by decide +kernel
theorem dX10_settle_162 : decode cX10_settle 162 = .ok (.bipush 6, 2) := by decide +kernel
theorem dX10_settle_164 : decode cX10_settle 164 = .ok (.iadd, 1) := by decide +kernel
theorem dX10_settle_165 : decode cX10_settle 165 = .ok (.iaload, 1) := by decide +kernel
theorem dX10_settle_166 : decode cX10_settle 166 = .ok (.imul, 1) := by decide +kernel
theorem dX10_settle_167 : decode cX10_settle 167 = .ok (.sipush 1000, 3) := by decide +kernel
theorem dX10_settle_170 : decode cX10_settle 170 = .ok (.idiv, 1) := by decide +kernel
theorem dX10_settle_171 : decode cX10_settle 171 = .ok (.iastore, 1) := by decide +kernel
theorem dX10_settle_172 : decode cX10_settle 172 = .ok (.lload_n 3, 1) := by decide +kernel
theorem dX10_settle_173 : decode cX10_settle 173 = .ok (.aload_n 0, 1) := by decide +kernel
theorem dX10_settle_174 : decode cX10_settle 174 = .ok (.getfield 63, 3) := by decide +kernel
theorem dX10_settle_177 : decode cX10_settle 177 = .ok (.bipush 10, 2) := by decide +kernel
theorem dX10_settle_179 : decode cX10_settle 179 = .ok (.iload 5, 2) := by decide +kernel
theorem dX10_settle_181 : decode cX10_settle 181 = .ok (.imul, 1) := by decide +kernel
theorem dX10_settle_182 : decode cX10_settle 182 = .ok (.bipush 7, 2) := by decide +kernel
theorem dX10_settle_184 : decode cX10_settle 184 = .ok (.iadd, 1) := by decide +kernel
theorem dX10_settle_185 : decode cX10_settle 185 = .ok (.iaload, 1) := by decide +kernel
theorem dX10_settle_186 : decode cX10_settle 186 = .ok (.i2l, 1) := by decide +kernel
theorem dX10_settle_187 : decode cX10_settle 187 = .ok (.ladd, 1) := by decide +kernel
theorem dX10_settle_188 : decode cX10_settle 188 = .ok (.lstore_n 3, 1) := by decide +kernel
theorem dX10_settle_189 : decode cX10_settle 189 = .ok (.iinc 5 1, 3) := by decide +kernel
theorem dX10_settle_192 : decode cX10_settle 192 = .ok (.goto (-133), 3) := by decide +kernel
theorem dX10_settle_195 : decode cX10_settle 195 = .ok (.aload_n 0, 1) := by decide +kernel
theorem dX10_settle_196 : decode cX10_settle 196 = .ok (.getfield 57, 3) := by decide +kernel
theorem dX10_settle_199 : decode cX10_settle 199 = .ok (.aload_n 0, 1) := by decide +kernel
theorem dX10_settle_200 : decode cX10_settle 200 = .ok (.getfield 60, 3) := by decide +kernel
theorem dX10_settle_203 : decode cX10_settle 203 = .ok (.iadd, 1) := by decide +kernel
theorem dX10_settle_204 : decode cX10_settle 204 = .ok (.i2l, 1) := by decide +kernel
theorem dX10_settle_205 : decode cX10_settle 205 = .ok (.lstore 5, 2) := by decide +kernel
theorem dX10_settle_207 : decode cX10_settle 207 = .ok (.iconst 0, 1) := by decide +kernel
theorem dX10_settle_208 : decode cX10_settle 208 = .ok (.istore 7, 2) := by decide +kernel
theorem dX10_settle_210 : decode cX10_settle 210 = .ok (.iconst 0, 1) := by decide +kernel
theorem dX10_settle_211 : decode cX10_settle 211 = .ok (.istore 8, 2) := by decide +kernel
theorem dX10_settle_213 : decode cX10_settle 213 = .ok (.iload 8, 2) := by decide +kernel
theorem dX10_settle_215 : decode cX10_settle 215 = .ok (.aload_n 0, 1) := by decide +kernel
theorem dX10_settle_216 : decode cX10_settle 216 = .ok (.getfield 156, 3) := by decide +kernel
theorem dX10_settle_219 : decode cX10_settle 219 = .ok (.if_icmp .ge 169, 3) := by decide +kernel
theorem dX10_settle_222 : decode cX10_settle 222 = .ok (.aload_n 0, 1) := by decide +kernel
theorem dX10_settle_223 : decode cX10_settle 223 = .ok (.getfield 63, 3) := by decide +kernel
theorem dX10_settle_226 : decode cX10_settle 226 = .ok (.bipush 10, 2) := by decide +kernel
theorem dX10_settle_228 : decode cX10_settle 228 = .ok (.iload 8, 2) := by decide +kernel
theorem dX10_settle_230 : decode cX10_settle 230 = .ok (.imul, 1) := by decide +kernel
theorem dX10_settle_231 : decode cX10_settle 231 = .ok (.iconst 3, 1) := by decide +kernel
theorem dX10_settle_232 : decode cX10_settle 232 = .ok (.iadd, 1) := by decide +kernel
theorem dX10_settle_233 : decode cX10_settle 233 = .ok (.iaload, 1) := by decide +kernel
theorem dX10_settle_234 : decode cX10_settle 234 = .ok (.iload_n 1, 1) := by decide +kernel
theorem dX10_settle_235 : decode cX10_settle 235 = .ok (.if_icmp .ne 147, 3) := by decide +kernel
theorem dX10_settle_238 : decode cX10_settle 238 = .ok (.aload_n 0, 1) := by decide +kernel
theorem dX10_settle_239 : decode cX10_settle 239 = .ok (.getfield 63, 3) := by decide +kernel
theorem dX10_settle_242 : decode cX10_settle 242 = .ok (.bipush 10, 2) := by decide +kernel
theorem dX10_settle_244 : decode cX10_settle 244 = .ok (.iload 8, 2) := by decide +kernel
theorem dX10_settle_246 : decode cX10_settle 246 = .ok (.imul, 1) := by decide +kernel
theorem dX10_settle_247 : decode cX10_settle 247 = .ok (.iaload, 1) := by decide +kernel
theorem dX10_settle_248 : decode cX10_settle 248 = .ok (.istore 9, 2) := by decide +kernel
theorem dX10_settle_250 : decode cX10_settle 250 = .ok (.lload_n 3, 1) := by decide +kernel
theorem dX10_settle_251 : decode cX10_settle 251 = .ok (.lload 5, 2) := by decide +kernel
theorem dX10_settle_253 : decode cX10_settle 253 = .ok (.lcmp, 1) := by decide +kernel
theorem dX10_settle_254 : decode cX10_settle 254 = .ok (.ifCond .le 26, 3) := by decide +kernel
theorem dX10_settle_257 : decode cX10_settle 257 = .ok (.aload_n 0, 1) := by decide +kernel
theorem dX10_settle_258 : decode cX10_settle 258 = .ok (.getfield 63, 3) := by decide +kernel
theorem dX10_settle_261 : decode cX10_settle 261 = .ok (.bipush 10, 2) := by decide +kernel
theorem dX10_settle_263 : decode cX10_settle 263 = .ok (.iload 8, 2) := by decide +kernel
theorem dX10_settle_265 : decode cX10_settle 265 = .ok (.imul, 1) := by decide +kernel
theorem dX10_settle_266 : decode cX10_settle 266 = .ok (.bipush 7, 2) := by decide +kernel
theorem dX10_settle_268 : decode cX10_settle 268 = .ok (.iadd, 1) := by decide +kernel
theorem dX10_settle_269 : decode cX10_settle 269 = .ok (.iaload, 1) := by decide +kernel
theorem dX10_settle_270 : decode cX10_settle 270 = .ok (.i2l, 1) := by decide +kernel
theorem dX10_settle_271 : decode cX10_settle 271 = .ok (.lload 5, 2) := by decide +kernel
theorem dX10_settle_273 : decode cX10_settle 273 = .ok (.lmul, 1) := by decide +kernel
theorem dX10_settle_274 : decode cX10_settle 274 = .ok (.lload_n 3, 1) := by decide +kernel
theorem dX10_settle_275 : decode cX10_settle 275 = .ok (.ldiv, 1) := by decide +kernel
theorem dX10_settle_276 : decode cX10_settle 276 = .ok (.l2i, 1) := by decide +kernel
theorem dX10_settle_277 : decode cX10_settle 277 = .ok (.goto 16, 3) := by decide +kernel
theorem dX10_settle_280 : decode cX10_settle 280 = .ok (.aload_n 0, 1) := by decide +kernel
theorem dX10_settle_281 : decode cX10_settle 281 = .ok (.getfield 63, 3) := by decide +kernel
theorem dX10_settle_284 : decode cX10_settle 284 = .ok (.bipush 10, 2) := by decide +kernel
theorem dX10_settle_286 : decode cX10_settle 286 = .ok (.iload 8, 2) := by decide +kernel
theorem dX10_settle_288 : decode cX10_settle 288 = .ok (.imul, 1) := by decide +kernel
theorem dX10_settle_289 : decode cX10_settle 289 = .ok (.bipush 7, 2) := by decide +kernel
theorem dX10_settle_291 : decode cX10_settle 291 = .ok (.iadd, 1) := by decide +kernel
theorem dX10_settle_292 : decode cX10_settle 292 = .ok (.iaload, 1) := by decide +kernel
theorem dX10_settle_293 : decode cX10_settle 293 = .ok (.istore 10, 2) := by decide +kernel
theorem dX10_settle_295 : decode cX10_settle 295 = .ok (.iload 10, 2) := by decide +kernel
theorem dX10_settle_297 : decode cX10_settle 297 = .ok (.aload_n 0, 1) := by decide +kernel
theorem dX10_settle_298 : decode cX10_settle 298 = .ok (.getfield 37, 3) := by decide +kernel
theorem dX10_settle_301 : decode cX10_settle 301 = .ok (.iload 9, 2) := by decide +kernel
theorem dX10_settle_303 : decode cX10_settle 303 = .ok (.iaload, 1) := by decide +kernel
theorem dX10_settle_304 : decode cX10_settle 304 = .ok (.invokestatic 137, 3) := by decide +kernel
theorem dX10_settle_307 : decode cX10_settle 307 = .ok (.istore 11, 2) := by decide +kernel
theorem dX10_settle_309 : decode cX10_settle 309 = .ok (.aload_n 0, 1) := by decide +kernel
theorem dX10_settle_310 : decode cX10_settle 310 = .ok (.getfield 63, 3) := by decide +kernel
theorem dX10_settle_313 : decode cX10_settle 313 = .ok (.bipush 10, 2) := by decide +kernel
theorem dX10_settle_315 : decode cX10_settle 315 = .ok (.iload 8, 2) := by decide +kernel
theorem dX10_settle_317 : decode cX10_settle 317 = .ok (.imul, 1) := by decide +kernel
theorem dX10_settle_318 : decode cX10_settle 318 = .ok (.bipush 8, 2) := by decide +kernel
theorem dX10_settle_320 : decode cX10_settle 320 = .ok (.iadd, 1) := by decide +kernel
theorem dX10_settle_321 : decode cX10_settle 321 = .ok (.iload 10, 2) := by decide +kernel
theorem dX10_settle_323 : decode cX10_settle 323 = .ok (.iastore, 1) := by decide +kernel
theorem dX10_settle_324 : decode cX10_settle 324 = .ok (.aload_n 0, 1) := by decide +kernel
theorem dX10_settle_325 : decode cX10_settle 325 = .ok (.getfield 63, 3) := by decide +kernel
theorem dX10_settle_328 : decode cX10_settle 328 = .ok (.bipush 10, 2) := by decide +kernel
theorem dX10_settle_330 : decode cX10_settle 330 = .ok (.iload 8, 2) := by decide +kernel
theorem dX10_settle_332 : decode cX10_settle 332 = .ok (.imul, 1) := by decide +kernel
theorem dX10_settle_333 : decode cX10_settle 333 = .ok (.bipush 9, 2) := by decide +kernel
theorem dX10_settle_335 : decode cX10_settle 335 = .ok (.iadd, 1) := by decide +kernel
theorem dX10_settle_336 : decode cX10_settle 336 = .ok (.iload 11, 2) := by decide +kernel
theorem dX10_settle_338 : decode cX10_settle 338 = .ok (.iastore, 1) := by decide +kernel
theorem dX10_settle_339 : decode cX10_settle 339 = .ok (.aload_n 0, 1) := by decide +kernel
theorem dX10_settle_340 : decode cX10_settle 340 = .ok (.getfield 37, 3) := by decide +kernel
theorem dX10_settle_343 : decode cX10_settle 343 = .ok (.iload 9, 2) := by decide +kernel
theorem dX10_settle_345 : decode cX10_settle 345 = .ok (.dup2, 1) := by decide +kernel
theorem dX10_settle_346 : decode cX10_settle 346 = .ok (.iaload, 1) := by decide +kernel
theorem dX10_settle_347 : decode cX10_settle 347 = .ok (.iload 11, 2) := by decide +kernel
theorem dX10_settle_349 : decode cX10_settle 349 = .ok (.isub, 1) := by decide +kernel
theorem dX10_settle_350 : decode cX10_settle 350 = .ok (.iastore, 1) := by decide +kernel
theorem dX10_settle_351 : decode cX10_settle 351 = .ok (.aload_n 0, 1) := by decide +kernel
theorem dX10_settle_352 : decode cX10_settle 352 = .ok (.getfield 40, 3) := by decide +kernel
theorem dX10_settle_355 : decode cX10_settle 355 = .ok (.iload 9, 2) := by decide +kernel
theorem dX10_settle_357 : decode cX10_settle 357 = .ok (.dup2, 1) := by decide +kernel
theorem dX10_settle_358 : decode cX10_settle 358 = .ok (.iaload, 1) := by decide +kernel
theorem dX10_settle_359 : decode cX10_settle 359 = .ok (.iload 10, 2) := by decide +kernel
theorem dX10_settle_361 : decode cX10_settle 361 = .ok (.iload 11, 2) := by decide +kernel
theorem dX10_settle_363 : decode cX10_settle 363 = .ok (.isub, 1) := by decide +kernel
theorem dX10_settle_364 : decode cX10_settle 364 = .ok (.iadd, 1) := by decide +kernel
theorem dX10_settle_365 : decode cX10_settle 365 = .ok (.iastore, 1) := by decide +kernel
theorem dX10_settle_366 : decode cX10_settle 366 = .ok (.aload_n 0, 1) := by decide +kernel
theorem dX10_settle_367 : decode cX10_settle 367 = .ok (.iload 9, 2) := by decide +kernel
theorem dX10_settle_369 : decode cX10_settle 369 = .ok (.iload_n 1, 1) := by decide +kernel
theorem dX10_settle_370 : decode cX10_settle 370 = .ok (.iload 10, 2) := by decide +kernel
theorem dX10_settle_372 : decode cX10_settle 372 = .ok (.invokevirtual 162, 3) := by decide +kernel
theorem dX10_settle_375 : decode cX10_settle 375 = .ok (.iload 7, 2) := by decide +kernel
theorem dX10_settle_377 : decode cX10_settle 377 = .ok (.iload 10, 2) := by decide +kernel
theorem dX10_settle_379 : decode cX10_settle 379 = .ok (.iadd, 1) := by decide +kernel
theorem dX10_settle_380 : decode cX10_settle 380 = .ok (.istore 7, 2) := by decide +kernel
theorem dX10_settle_382 : decode cX10_settle 382 = .ok (.iinc 8 1, 3) := by decide +kernel
theorem dX10_settle_385 : decode cX10_settle 385 = .ok (.goto (-172), 3) := by decide +kernel
theorem dX10_settle_388 : decode cX10_settle 388 = .ok (.aload_n 0, 1) := by decide +kernel
theorem dX10_settle_389 : decode cX10_settle 389 = .ok (.dup, 1) := by decide +kernel
theorem dX10_settle_390 : decode cX10_settle 390 = .ok (.getfield 164, 3) := by decide +kernel
theorem dX10_settle_393 : decode cX10_settle 393 = .ok (.iload 7, 2) := by decide +kernel
theorem dX10_settle_395 : decode cX10_settle 395 = .ok (.aload_n 0, 1) := by decide +kernel
theorem dX10_settle_396 : decode cX10_settle 396 = .ok (.getfield 57, 3) := by decide +kernel
theorem dX10_settle_399 : decode cX10_settle 399 = .ok (.if_icmp .le 13, 3) := by decide +kernel
theorem dX10_settle_402 : decode cX10_settle 402 = .ok (.iload 7, 2) := by decide +kernel
theorem dX10_settle_404 : decode cX10_settle 404 = .ok (.aload_n 0, 1) := by decide +kernel
theorem dX10_settle_405 : decode cX10_settle 405 = .ok (.getfield 57, 3) := by decide +kernel
theorem dX10_settle_408 : decode cX10_settle 408 = .ok (.isub, 1) := by decide +kernel
theorem dX10_settle_409 : decode cX10_settle 409 = .ok (.goto 4, 3) := by decide +kernel
theorem dX10_settle_412 : decode cX10_settle 412 = .ok (.iconst 0, 1) := by decide +kernel
theorem dX10_settle_413 : decode cX10_settle 413 = .ok (.iadd, 1) := by decide +kernel
theorem dX10_settle_414 : decode cX10_settle 414 = .ok (.putfield 164, 3) := by decide +kernel
theorem dX10_settle_417 : decode cX10_settle 417 = .ok (.iload 7, 2) := by decide +kernel
theorem dX10_settle_419 : decode cX10_settle 419 = .ok (.ireturn, 1) := by decide +kernel
set_option maxHeartbeats 1000000 in
set_option maxRecDepth 100000 in
theorem o_settle (de : Nat) (w : Wd) (mo : Nat) (ad : Nat → Nat) (A : Nat → Nat → Int32) (F : Nat → Int32) (L : Int32) (g : Nat → Int32) (hm : RM w mo ad) (xe : Int32) (nC nF nS : Nat) (cf cs ho : Nat → Nat) (hC : CVA A nC nF nS cf cs ho) (hN : F 24 = nI nC) (se : Nat) (hse : inR xe 0 19 = true → xe = nI se ∧ se < 20) (hS : F 3 = nI nS) (T : Nat) (hT : F 0 = nI T) (hT2 : T < 1200) (nP : Nat) (hP6 : nP ≤ 6) (cp pn : Nat → Nat) (dn : Nat → Nat → Nat) (hPA : ∀ q, q < nP → PHA A q (pn q) (dn q) ∧ A 8 q = nI (pn q)) (sN rN : Nat → Nat) (hK : ∀ k, k < nC → A 23 (10 * k + 1) = nI (cp k) ∧ cp k < nP ∧ A 23 (10 * k + 2) = nI (sN k) ∧ sN k ≤ 2000 ∧ (se < 20 → ratA A nS (cp k) (pn (cp k)) (dn (cp k)) (ho (cf k)) se = nI (rN k)) ∧ rN k ≤ 1000) (rt ly : Nat) (hrt : F 21 = nI rt) (hly : F 22 = nI ly) (hr9 : rt ≤ 99999) (hl9 : ly ≤ 99999) : Ct yX10_settle cX10_settle 12 (some .int) 5 125 0 0 de [.ref mo, .int xe] (M w mo ad A F L g) (fun r w' => (goV (bI (inR xe 0 19)) (bI (inR xe 0 19 && (decide ((se + 1) * 60 ≤ T) && decide (A 25 se = 0)))) 1 = 0 → r = some (.int (nI (setR A (F 0) cf cs se sN rN rt ly nC).2)) ∧ ∃ g', w' = M w mo ad ((setR A (F 0) cf cs se sN rN rt ly nC).1) (updF F 27 (F 27 + (if nI rt < nI (setR A (F 0) cf cs se sN rN rt ly nC).2 then nI (setR A (F 0) cf cs se sN rN rt ly nC).2 - nI rt else 0))) 0 g') ∧ (¬ goV (bI (inR xe 0 19)) (bI (inR xe 0 19 && (decide ((se + 1) * 60 ≤ T) && decide (A 25 se = 0)))) 1 = 0 → r = some (.int 0) ∧ w' = M w mo ad A F (goV (bI (inR xe 0 19)) (bI (inR xe 0 19 && (decide ((se + 1) * 60 ≤ T) && decide (A 25 se = 0)))) 1) g)) := by
  refine Ct.mk (by decide +kernel) [(0, .ref mo), (1, .int xe)] rfl (Nat.le_of_ble_eq_true rfl) ?_
  intro p l e R s m args below meth c D cy z C hnm
  obtain ⟨h60, h16, h5, hcv, hho⟩ := id hC
  have hC0 : CVA (updA A 25 se (F 0 + 1)) nC nF nS cf cs ho := hC.upd (by decide) (Or.inl (by decide))
  have hC1 : CVA (sdF cs se sN rN (updA A 25 se (F 0 + 1)) nC) nC nF nS cf cs ho := sdF_CVA hC0 nC
  have hdv : ∀ k, k < nC → dvN sN rN k ≤ 2000 := fun k hk => (dv_le (hK k hk).2.2.2.1 (hK k hk).2.2.2.2.2).2
  have hal : (allN cs se (dvN sN rN) nC) ≤ 120000 := by have := allN_le (cs := cs) (se := se) hdv nC (Nat.le_refl _); omega
  have loop2 : se < 20 → (allN cs se (dvN sN rN) nC) ≤ 120000 → ∀ (k i : Nat) (g0 : Nat → Int32), i + k = nC → G p l e R s m args below meth c D cy z 12 (M w mo ad (spF cf cs se (dvN sN rN) (rt + ly) (allN cs se (dvN sN rN) nC) (sdF cs se sN rN (updA A 25 se (F 0 + 1)) nC) i).1 F 0 g0) 0 0 213 [(0, .ref mo), (1, .int (nI se)), (3, .long (lN (allN cs se (dvN sN rN) nC))), (5, .long (lN (rt + ly))), (7, .int (nI (spF cf cs se (dvN sN rN) (rt + ly) (allN cs se (dvN sN rN) nC) (sdF cs se sN rN (updA A 25 se (F 0 + 1)) nC) i).2)), (8, .int (nI i))] [] (QM below args s D cy z (fun r w' => ((0 : Int32) = 0 → r = some (.int (nI (setR A (F 0) cf cs se sN rN rt ly nC).2)) ∧ ∃ g', w' = M w mo ad ((setR A (F 0) cf cs se sN rN rt ly nC).1) (updF F 27 (F 27 + (if nI rt < nI (setR A (F 0) cf cs se sN rN rt ly nC).2 then nI (setR A (F 0) cf cs se sN rN rt ly nC).2 - nI rt else 0))) 0 g') ∧ (¬ (0 : Int32) = 0 → r = some (.int 0) ∧ w' = M w mo ad A F ((0 : Int32)) g)) 0 0) := by
    intro he5 hal
    intro k
    induction k with
    | zero =>
      intro i g0 hik
      have hi9 : i = nC := by omega
      rw [hi9]
      refine g_iload C dX10_settle_213 rfl ?_
      refine g_aload_n C dX10_settle_215 rfl ?_
      refine g_getI C cls_11 12 24 hm.1 rfl k_939 dX10_settle_216 ?_
      rw [M_f24]
      rw [hN]
      refine g_icmp_ge C 388 dX10_settle_219 (by decide) (fun c_219 => ?_) (fun c_219 => ?_)
      · refine g_aload_n C dX10_settle_388 rfl ?_
        skip
        refine g_dup C dX10_settle_389 rfl ?_
        refine g_getI C cls_11 12 27 hm.1 rfl k_942 dX10_settle_390 ?_
        rw [M_f27]
        refine g_cutS (pc' := 413) (.int (if nI rt < nI (spF cf cs se (dvN sN rN) (rt + ly) (allN cs se (dvN sN rN) nC) (sdF cs se sN rN (updA A 25 se (F 0 + 1)) nC) nC).2 then nI (spF cf cs se (dvN sN rN) (rt + ly) (allN cs se (dvN sN rN) nC) (sdF cs se sN rN (updA A 25 se (F 0 + 1)) nC) nC).2 - nI rt else 0)) ?_ (fun j_413 => ?_)
        · refine g_iadd C dX10_settle_413 ?_
          refine g_putI C cls_11 12 27 hm.1 rfl (Or.inl rfl) rfl rfl k_942 dX10_settle_414 ?_
          rw [M_q27]
          refine g_iload C dX10_settle_417 rfl ?_
          refine g_iret C rfl rfl (by decide) (by decide) dX10_settle_419 ?_
          exact ⟨fun _ => ⟨rfl, _, rfl⟩, fun h9 => absurd rfl h9⟩
        · refine g_iload C dX10_settle_393 rfl ?_
          refine g_aload_n C dX10_settle_395 rfl ?_
          refine g_getI C cls_11 12 21 hm.1 rfl k_936 dX10_settle_396 ?_
          rw [M_f21]
          rw [hrt]
          refine g_icmp_le C 412 dX10_settle_399 (by decide) (fun c_399 => ?_) (fun c_399 => ?_)
          · refine g_iconst C 0 dX10_settle_412 (by rfl) ?_
            exact g_eq rfl (congrArg (fun v => Value.int v :: _) (by first | exact (if_pos (Int32.not_le.mp c_399)).symm | exact (if_neg (Int32.not_lt.mpr c_399)).symm)) rfl j_413
          · refine g_iload C dX10_settle_402 rfl ?_
            refine g_aload_n C dX10_settle_404 rfl ?_
            refine g_getI C cls_11 12 21 hm.1 rfl k_936 dX10_settle_405 ?_
            rw [M_f21]
            rw [hrt]
            refine g_isub C dX10_settle_408 ?_
            refine g_goto C 413 dX10_settle_409 (by decide) ?_
            exact g_eq rfl (congrArg (fun v => Value.int v :: _) (by first | exact (if_pos (Int32.not_le.mp c_399)).symm | exact (if_neg (Int32.not_lt.mpr c_399)).symm)) rfl j_413
      · exact absurd (nI_nle_of c_219 (by omega) (by omega)) (by omega)
    | succ k ih =>
      intro i g0 hik
      have hi : i < nC := by omega
      have hci := hcv i hi
      have hC2 := spF_CVA (se := se) (dv := (dvN sN rN)) (cap := rt + ly) (all := (allN cs se (dvN sN rN) nC)) hC1 i
      have h7i : cs i = se → (spF cf cs se (dvN sN rN) (rt + ly) (allN cs se (dvN sN rN) nC) (sdF cs se sN rN (updA A 25 se (F 0 + 1)) nC) i).1 23 (10 * i + 7) = nI ((dvN sN rN) i) := fun z => by rw [spF_ne (by omega)]; exact sdF_7 z nC hi
      have hdi := hdv i hi
      generalize hAi : (spF cf cs se (dvN sN rN) (rt + ly) (allN cs se (dvN sN rN) nC) (sdF cs se sN rN (updA A 25 se (F 0 + 1)) nC) i) = Ai at hC2 h7i ⊢
      refine g_iload C dX10_settle_213 rfl ?_
      refine g_aload_n C dX10_settle_215 rfl ?_
      refine g_getI C cls_11 12 24 hm.1 rfl k_939 dX10_settle_216 ?_
      rw [M_f24]
      rw [hN]
      refine g_icmp_ge C 388 dX10_settle_219 (by decide) (fun c_219 => ?_) (fun c_219 => ?_)
      · exact absurd (nI_le_of c_219 (by omega) (by omega)) (by omega)
      · refine g_aload_n C dX10_settle_222 rfl ?_
        refine g_getR (b := (ad 23)) C cls_11 12 23 hm.1 (rm_23 hm).1 rfl k_938 dX10_settle_223 ?_
        refine g_bipush C 10 dX10_settle_226 (by rfl) ?_
        refine g_iload C dX10_settle_228 rfl ?_
        refine g_imul C dX10_settle_230 ?_
        refine g_iconst C 3 dX10_settle_231 (by rfl) ?_
        refine g_iadd C dX10_settle_232 ?_
        rw [show (10 : Int32) * nI i + 3 = nI (10 * i + 3) from ixm 10 i 3]
        refine g_iald C 2230 (rm_23 hm).2.1 rfl (show vp_in (nI (10 * i + 3)) (aL w (ad 23)) by rw [(rm_23 hm).2.2]; exact nI_vp (show 10 * i + 3 < 600 by omega) (by omega)) dX10_settle_233 ?_
        rw [M_a23, nI_tn (show 10 * i + 3 ≤ 100000 by omega)]
        rw [(hC2.2.2.2.1 i hi).2.2.1]
        refine g_iload_n C dX10_settle_234 rfl ?_
        refine g_icmp_ne C 382 dX10_settle_235 (by decide) (fun c_235 => ?_) (fun c_235 => ?_)
        · refine g_iinc C dX10_settle_382 rfl (nI_1 i) (by decide) ?_
          refine g_goto C 213 dX10_settle_385 (by decide) ?_
          have h9 := ih (i + 1) g0 (by omega)
          rw [spF_f c_235, hAi] at h9
          exact g_lv2 [(0, .ref mo), (1, .int (nI se)), (3, .long (lN (allN cs se (dvN sN rN) nC))), (5, .long (lN (rt + ly))), (7, .int (nI Ai.2)), (8, .int (nI (i + 1)))] rfl h9
        · refine g_aload_n C dX10_settle_238 rfl ?_
          refine g_getR (b := (ad 23)) C cls_11 12 23 hm.1 (rm_23 hm).1 rfl k_938 dX10_settle_239 ?_
          refine g_bipush C 10 dX10_settle_242 (by rfl) ?_
          refine g_iload C dX10_settle_244 rfl ?_
          refine g_imul C dX10_settle_246 ?_
          rw [show (10 : Int32) * nI i = nI (10 * i) from pk_mul 10 i]
          refine g_iald C 2230 (rm_23 hm).2.1 rfl (show vp_in (nI (10 * i)) (aL w (ad 23)) by rw [(rm_23 hm).2.2]; exact nI_vp (show 10 * i < 600 by omega) (by omega)) dX10_settle_247 ?_
          rw [M_a23, nI_tn (show 10 * i ≤ 100000 by omega)]
          rw [(hC2.2.2.2.1 i hi).1]
          refine g_istore C dX10_settle_248 (by decide) ?_
          refine g_cutS (pc' := 293) (.int (nI (cutN ((dvN sN rN) i) (rt + ly) (allN cs se (dvN sN rN) nC)))) ?_ (fun j_293 => ?_)
          · refine g_istore C dX10_settle_293 (by decide) ?_
            refine g_iload C dX10_settle_295 rfl ?_
            refine g_aload_n C dX10_settle_297 rfl ?_
            refine g_getR (b := (ad 14)) C cls_11 12 14 hm.1 (rm_14 hm).1 rfl k_929 dX10_settle_298 ?_
            refine g_iload C dX10_settle_301 rfl ?_
            refine g_iald C 2140 (rm_14 hm).2.1 rfl (show vp_in (nI (cf i)) (aL w (ad 14)) by rw [(rm_14 hm).2.2]; exact nI_vp (show cf i < 16 by omega) (by omega)) dX10_settle_303 ?_
            rw [M_a14, nI_tn (show cf i ≤ 100000 by omega)]
            refine g_callS C mt_X10_lesser [.int (nI (cutN ((dvN sN rN) i) (rt + ly) (allN cs se (dvN sN rN) nC))), .int (Ai.1 14 (cf i))] (c_X10_lesser de _ (nI (cutN ((dvN sN rN) i) (rt + ly) (allN cs se (dvN sN rN) nC))) (Ai.1 14 (cf i))) k_1100 rfl rfl (Nat.le_of_ble_eq_true rfl) (by decide) (by decide) (by decide) (by decide) dX10_settle_304 (fun r_304 w_304 hp_304 => ?_)
            obtain ⟨rfl, rfl⟩ := hp_304
            refine g_istore C dX10_settle_307 (by decide) ?_
            refine g_aload_n C dX10_settle_309 rfl ?_
            refine g_getR (b := (ad 23)) C cls_11 12 23 hm.1 (rm_23 hm).1 rfl k_938 dX10_settle_310 ?_
            refine g_bipush C 10 dX10_settle_313 (by rfl) ?_
            refine g_iload C dX10_settle_315 rfl ?_
            refine g_imul C dX10_settle_317 ?_
            refine g_bipush C 8 dX10_settle_318 (by rfl) ?_
            refine g_iadd C dX10_settle_320 ?_
            rw [show (10 : Int32) * nI i + 8 = nI (10 * i + 8) from ixm 10 i 8]
            refine g_iload C dX10_settle_321 rfl ?_
            refine g_iast C 2230 (rm_23 hm).2.1 rfl (show vp_in (nI (10 * i + 8)) (aL w (ad 23)) by rw [(rm_23 hm).2.2]; exact nI_vp (show 10 * i + 8 < 600 by omega) (by omega)) dX10_settle_323 ?_
            rw [nI_tn (show 10 * i + 8 ≤ 100000 by omega), M_p23]
            refine g_aload_n C dX10_settle_324 rfl ?_
            refine g_getR (b := (ad 23)) C cls_11 12 23 hm.1 (rm_23 hm).1 rfl k_938 dX10_settle_325 ?_
            refine g_bipush C 10 dX10_settle_328 (by rfl) ?_
            refine g_iload C dX10_settle_330 rfl ?_
            refine g_imul C dX10_settle_332 ?_
            refine g_bipush C 9 dX10_settle_333 (by rfl) ?_
            refine g_iadd C dX10_settle_335 ?_
            rw [show (10 : Int32) * nI i + 9 = nI (10 * i + 9) from ixm 10 i 9]
            refine g_iload C dX10_settle_336 rfl ?_
            refine g_iast C 2230 (rm_23 hm).2.1 rfl (show vp_in (nI (10 * i + 9)) (aL w (ad 23)) by rw [(rm_23 hm).2.2]; exact nI_vp (show 10 * i + 9 < 600 by omega) (by omega)) dX10_settle_338 ?_
            rw [nI_tn (show 10 * i + 9 ≤ 100000 by omega), M_p23]
            refine g_aload_n C dX10_settle_339 rfl ?_
            refine g_getR (b := (ad 14)) C cls_11 12 14 hm.1 (rm_14 hm).1 rfl k_929 dX10_settle_340 ?_
            refine g_iload C dX10_settle_343 rfl ?_
            refine g_dup2 C dX10_settle_345 rfl rfl ?_
            refine g_iald C 2140 (rm_14 hm).2.1 rfl (show vp_in (nI (cf i)) (aL w (ad 14)) by rw [(rm_14 hm).2.2]; exact nI_vp (show cf i < 16 by omega) (by omega)) dX10_settle_346 ?_
            rw [M_a14, nI_tn (show cf i ≤ 100000 by omega)]
            iterate 2 rw [updA_ne (k' := 14) (Or.inl (by decide))]
            refine g_iload C dX10_settle_347 rfl ?_
            refine g_isub C dX10_settle_349 ?_
            refine g_iast C 2140 (rm_14 hm).2.1 rfl (show vp_in (nI (cf i)) (aL w (ad 14)) by rw [(rm_14 hm).2.2]; exact nI_vp (show cf i < 16 by omega) (by omega)) dX10_settle_350 ?_
            rw [nI_tn (show cf i ≤ 100000 by omega), M_p14]
            refine g_aload_n C dX10_settle_351 rfl ?_
            refine g_getR (b := (ad 15)) C cls_11 12 15 hm.1 (rm_15 hm).1 rfl k_930 dX10_settle_352 ?_
            refine g_iload C dX10_settle_355 rfl ?_
            refine g_dup2 C dX10_settle_357 rfl rfl ?_
            refine g_iald C 2150 (rm_15 hm).2.1 rfl (show vp_in (nI (cf i)) (aL w (ad 15)) by rw [(rm_15 hm).2.2]; exact nI_vp (show cf i < 16 by omega) (by omega)) dX10_settle_358 ?_
            rw [M_a15, nI_tn (show cf i ≤ 100000 by omega)]
            iterate 3 rw [updA_ne (k' := 15) (Or.inl (by decide))]
            refine g_iload C dX10_settle_359 rfl ?_
            refine g_iload C dX10_settle_361 rfl ?_
            refine g_isub C dX10_settle_363 ?_
            refine g_iadd C dX10_settle_364 ?_
            refine g_iast C 2150 (rm_15 hm).2.1 rfl (show vp_in (nI (cf i)) (aL w (ad 15)) by rw [(rm_15 hm).2.2]; exact nI_vp (show cf i < 16 by omega) (by omega)) dX10_settle_365 ?_
            rw [nI_tn (show cf i ≤ 100000 by omega), M_p15]
            refine g_aload_n C dX10_settle_366 rfl ?_
            refine g_iload C dX10_settle_367 rfl ?_
            refine g_iload_n C dX10_settle_369 rfl ?_
            refine g_iload C dX10_settle_370 rfl ?_
            refine g_callV C cls_11 12 mt_X10_trusts [.int (nI (cf i)), .int (nI se), .int (nI (cutN ((dvN sN rN) i) (rt + ly) (allN cs se (dvN sN rN) nC)))] (m_trusts de w mo ad (updA (updA (updA (updA Ai.1 23 (10 * i + 8) (nI (cutN ((dvN sN rN) i) (rt + ly) (allN cs se (dvN sN rN) nC)))) 23 (10 * i + 9) (if (nI (cutN ((dvN sN rN) i) (rt + ly) (allN cs se (dvN sN rN) nC))) < Ai.1 14 (cf i) then (nI (cutN ((dvN sN rN) i) (rt + ly) (allN cs se (dvN sN rN) nC))) else Ai.1 14 (cf i))) 14 (cf i) (Ai.1 14 (cf i) - (if (nI (cutN ((dvN sN rN) i) (rt + ly) (allN cs se (dvN sN rN) nC))) < Ai.1 14 (cf i) then (nI (cutN ((dvN sN rN) i) (rt + ly) (allN cs se (dvN sN rN) nC))) else Ai.1 14 (cf i)))) 15 (cf i) (Ai.1 15 (cf i) + ((nI (cutN ((dvN sN rN) i) (rt + ly) (allN cs se (dvN sN rN) nC))) - (if (nI (cutN ((dvN sN rN) i) (rt + ly) (allN cs se (dvN sN rN) nC))) < Ai.1 14 (cf i) then (nI (cutN ((dvN sN rN) i) (rt + ly) (allN cs se (dvN sN rN) nC))) else Ai.1 14 (cf i))))) F 0 g0 hm (cf i) se (nI (cutN ((dvN sN rN) i) (rt + ly) (allN cs se (dvN sN rN) nC))) (by omega) he5) hm.1 (by decide) k_1148 rfl rfl (Nat.le_of_ble_eq_true rfl) (by decide) (by decide) (by decide) (by decide) dX10_settle_372 (fun r_372 w_372 hp_372 => ?_)
            obtain ⟨rfl, rfl⟩ := hp_372
            rw [show (updA (updA (updA (updA Ai.1 23 (10 * i + 8) (nI (cutN ((dvN sN rN) i) (rt + ly) (allN cs se (dvN sN rN) nC)))) 23 (10 * i + 9) (if (nI (cutN ((dvN sN rN) i) (rt + ly) (allN cs se (dvN sN rN) nC))) < Ai.1 14 (cf i) then (nI (cutN ((dvN sN rN) i) (rt + ly) (allN cs se (dvN sN rN) nC))) else Ai.1 14 (cf i))) 14 (cf i) (Ai.1 14 (cf i) - (if (nI (cutN ((dvN sN rN) i) (rt + ly) (allN cs se (dvN sN rN) nC))) < Ai.1 14 (cf i) then (nI (cutN ((dvN sN rN) i) (rt + ly) (allN cs se (dvN sN rN) nC))) else Ai.1 14 (cf i)))) 15 (cf i) (Ai.1 15 (cf i) + ((nI (cutN ((dvN sN rN) i) (rt + ly) (allN cs se (dvN sN rN) nC))) - (if (nI (cutN ((dvN sN rN) i) (rt + ly) (allN cs se (dvN sN rN) nC))) < Ai.1 14 (cf i) then (nI (cutN ((dvN sN rN) i) (rt + ly) (allN cs se (dvN sN rN) nC))) else Ai.1 14 (cf i))))) 13 (cf i) = Ai.1 13 (cf i) by iterate 4 rw [updA_ne (k' := 13) (Or.inl (by decide))], show (updA (updA (updA (updA Ai.1 23 (10 * i + 8) (nI (cutN ((dvN sN rN) i) (rt + ly) (allN cs se (dvN sN rN) nC)))) 23 (10 * i + 9) (if (nI (cutN ((dvN sN rN) i) (rt + ly) (allN cs se (dvN sN rN) nC))) < Ai.1 14 (cf i) then (nI (cutN ((dvN sN rN) i) (rt + ly) (allN cs se (dvN sN rN) nC))) else Ai.1 14 (cf i))) 14 (cf i) (Ai.1 14 (cf i) - (if (nI (cutN ((dvN sN rN) i) (rt + ly) (allN cs se (dvN sN rN) nC))) < Ai.1 14 (cf i) then (nI (cutN ((dvN sN rN) i) (rt + ly) (allN cs se (dvN sN rN) nC))) else Ai.1 14 (cf i)))) 15 (cf i) (Ai.1 15 (cf i) + ((nI (cutN ((dvN sN rN) i) (rt + ly) (allN cs se (dvN sN rN) nC))) - (if (nI (cutN ((dvN sN rN) i) (rt + ly) (allN cs se (dvN sN rN) nC))) < Ai.1 14 (cf i) then (nI (cutN ((dvN sN rN) i) (rt + ly) (allN cs se (dvN sN rN) nC))) else Ai.1 14 (cf i))))) 18 (20 * cf i + se) = Ai.1 18 (20 * cf i + se) by iterate 4 rw [updA_ne (k' := 18) (Or.inl (by decide))]]
            refine g_iload C dX10_settle_375 rfl ?_
            refine g_iload C dX10_settle_377 rfl ?_
            refine g_iadd C dX10_settle_379 ?_
            rw [nI_add]
            refine g_istore C dX10_settle_380 (by decide) ?_
            refine g_iinc C dX10_settle_382 rfl (nI_1 i) (by decide) ?_
            refine g_goto C 213 dX10_settle_385 (by decide) ?_
            have h9 := ih (i + 1) g0 (by omega)
            rw [spF_t c_235 (by omega) (by omega), hAi] at h9
            exact g_lv2 [(0, .ref mo), (1, .int (nI se)), (3, .long (lN (allN cs se (dvN sN rN) nC))), (5, .long (lN (rt + ly))), (7, .int (nI (Ai.2 + cutN ((dvN sN rN) i) (rt + ly) (allN cs se (dvN sN rN) nC)))), (8, .int (nI (i + 1)))] rfl h9
          · refine g_lload_n C dX10_settle_250 rfl ?_
            refine g_lload C dX10_settle_251 rfl ?_
            refine g_lcmp C dX10_settle_253 ?_
            refine g_if_le C 280 dX10_settle_254 (by decide) (fun c_254 => ?_) (fun c_254 => ?_)
            · refine g_aload_n C dX10_settle_280 rfl ?_
              refine g_getR (b := (ad 23)) C cls_11 12 23 hm.1 (rm_23 hm).1 rfl k_938 dX10_settle_281 ?_
              refine g_bipush C 10 dX10_settle_284 (by rfl) ?_
              refine g_iload C dX10_settle_286 rfl ?_
              refine g_imul C dX10_settle_288 ?_
              refine g_bipush C 7 dX10_settle_289 (by rfl) ?_
              refine g_iadd C dX10_settle_291 ?_
              rw [show (10 : Int32) * nI i + 7 = nI (10 * i + 7) from ixm 10 i 7]
              refine g_iald C 2230 (rm_23 hm).2.1 rfl (show vp_in (nI (10 * i + 7)) (aL w (ad 23)) by rw [(rm_23 hm).2.2]; exact nI_vp (show 10 * i + 7 < 600 by omega) (by omega)) dX10_settle_292 ?_
              rw [M_a23, nI_tn (show 10 * i + 7 ≤ 100000 by omega)]
              rw [h7i ((nI_eq (by omega) (by omega)).mp c_235)]
              exact g_eq rfl (congrArg (fun v => Value.int v :: _) (by first | exact cut_1 hdi (by omega) hal c_254 | exact cut_0 (by omega) hal c_254)) rfl j_293
            · refine g_aload_n C dX10_settle_257 rfl ?_
              refine g_getR (b := (ad 23)) C cls_11 12 23 hm.1 (rm_23 hm).1 rfl k_938 dX10_settle_258 ?_
              refine g_bipush C 10 dX10_settle_261 (by rfl) ?_
              refine g_iload C dX10_settle_263 rfl ?_
              refine g_imul C dX10_settle_265 ?_
              refine g_bipush C 7 dX10_settle_266 (by rfl) ?_
              refine g_iadd C dX10_settle_268 ?_
              rw [show (10 : Int32) * nI i + 7 = nI (10 * i + 7) from ixm 10 i 7]
              refine g_iald C 2230 (rm_23 hm).2.1 rfl (show vp_in (nI (10 * i + 7)) (aL w (ad 23)) by rw [(rm_23 hm).2.2]; exact nI_vp (show 10 * i + 7 < 600 by omega) (by omega)) dX10_settle_269 ?_
              rw [M_a23, nI_tn (show 10 * i + 7 ≤ 100000 by omega)]
              rw [h7i ((nI_eq (by omega) (by omega)).mp (by first | exact c_235 | exact Classical.not_not.mp c_235))]
              refine g_i2l C dX10_settle_270 ?_
              refine g_lload C dX10_settle_271 rfl ?_
              refine g_lmul C dX10_settle_273 ?_
              refine g_lload_n C dX10_settle_274 rfl ?_
              refine g_ldiv C dX10_settle_275 (cut_ne (by omega) hal c_254) ?_
              refine g_l2i C dX10_settle_276 ?_
              refine g_goto C 293 dX10_settle_277 (by decide) ?_
              exact g_eq rfl (congrArg (fun v => Value.int v :: _) (by first | exact cut_1 hdi (by omega) hal c_254 | exact cut_0 (by omega) hal c_254)) rfl j_293
  have loop1 : se < 20 → (allN cs se (dvN sN rN) nC) ≤ 120000 → ∀ (k i : Nat) (g0 : Nat → Int32), i + k = nC → G p l e R s m args below meth c D cy z 12 (M w mo ad (sdF cs se sN rN (updA A 25 se (F 0 + 1)) i) F 0 g0) 0 0 59 [(0, .ref mo), (1, .int (nI se)), (3, .long (lN (allN cs se (dvN sN rN) i))), (5, .int (nI i))] [] (QM below args s D cy z (fun r w' => ((0 : Int32) = 0 → r = some (.int (nI (setR A (F 0) cf cs se sN rN rt ly nC).2)) ∧ ∃ g', w' = M w mo ad ((setR A (F 0) cf cs se sN rN rt ly nC).1) (updF F 27 (F 27 + (if nI rt < nI (setR A (F 0) cf cs se sN rN rt ly nC).2 then nI (setR A (F 0) cf cs se sN rN rt ly nC).2 - nI rt else 0))) 0 g') ∧ (¬ (0 : Int32) = 0 → r = some (.int 0) ∧ w' = M w mo ad A F ((0 : Int32)) g)) 0 0) := by
    intro he5 hal
    intro k
    induction k with
    | zero =>
      intro i g0 hik
      have hi9 : i = nC := by omega
      refine g_iload C dX10_settle_59 rfl ?_
      refine g_aload_n C dX10_settle_61 rfl ?_
      refine g_getI C cls_11 12 24 hm.1 rfl k_939 dX10_settle_62 ?_
      rw [M_f24]
      rw [hN]
      refine g_icmp_ge C 195 dX10_settle_65 (by decide) (fun c_65 => ?_) (fun c_65 => ?_)
      · refine g_aload_n C dX10_settle_195 rfl ?_
        refine g_getI C cls_11 12 21 hm.1 rfl k_936 dX10_settle_196 ?_
        rw [M_f21]
        rw [hrt]
        refine g_aload_n C dX10_settle_199 rfl ?_
        refine g_getI C cls_11 12 22 hm.1 rfl k_937 dX10_settle_200 ?_
        rw [M_f22]
        rw [hly]
        refine g_iadd C dX10_settle_203 ?_
        rw [nI_add]
        refine g_i2l C dX10_settle_204 ?_
        rw [i2l_n (by omega)]
        refine g_lstore C dX10_settle_205 (by decide) ?_
        refine g_iconst C 0 dX10_settle_207 (by rfl) ?_
        refine g_istore C dX10_settle_208 (by decide) ?_
        refine g_iconst C 0 dX10_settle_210 (by rfl) ?_
        refine g_istore C dX10_settle_211 (by decide) ?_
        rw [hi9]
        exact g_lv2 [(0, .ref mo), (1, .int (nI se)), (3, .long (lN (allN cs se (dvN sN rN) nC))), (5, .long (lN (rt + ly))), (7, .int (nI 0)), (8, .int (nI 0))] rfl (loop2 he5 hal nC 0 _ (by omega))
      · exact absurd (nI_nle_of c_65 (by omega) (by omega)) (by omega)
    | succ k ih =>
      intro i g0 hik
      have hi : i < nC := by omega
      have hci := hcv i hi
      have hki := hK i hi
      have hhi := hho (cf i) (by omega)
      have hdi := hdv i hi
      have hai := allN_le (cs := cs) (se := se) hdv i (by omega)
      have hC2 := sdF_CVA (se := se) (sN := sN) (rN := rN) hC0 i
      have hA23 : ∀ j, j % 10 ≠ 6 ∧ j % 10 ≠ 7 → (sdF cs se sN rN (updA A 25 se (F 0 + 1)) i) 23 j = A 23 j := fun j hj => (sdF_ne (Or.inr hj) i).trans (updA_ne (by omega))
      have hAq : ∀ q, q ≠ 23 → q ≠ 25 → (sdF cs se sN rN (updA A 25 se (F 0 + 1)) i) q = A q := fun q h1 h2 => funext fun j => (sdF_ne (Or.inl h1) i).trans (updA_ne (Or.inl h2))
      generalize hAi : (sdF cs se sN rN (updA A 25 se (F 0 + 1)) i) = Ai at hC2 hA23 hAq ⊢
      have hph : PHA Ai (cp i) (pn (cp i)) (dn (cp i)) := PHA_congr (hAq 7 (by decide) (by decide)) (hPA (cp i) (by omega)).1
      have hsz : Ai 8 (cp i) = nI (pn (cp i)) := by rw [hAq 8 (by decide) (by decide)]; exact (hPA (cp i) (by omega)).2
      have hra : ratA Ai nS (cp i) (pn (cp i)) (dn (cp i)) (ho (cf i)) se = nI (rN i) := (ratA_congr (hAq 1 (by decide) (by decide)) (hAq 2 (by decide) (by decide)) (hAq 4 (by decide) (by decide)) (hAq 5 (by decide) (by decide)) (hAq 7 (by decide) (by decide)) (hAq 9 (by decide) (by decide))).trans (hki.2.2.2.2.1 he5)
      refine g_iload C dX10_settle_59 rfl ?_
      refine g_aload_n C dX10_settle_61 rfl ?_
      refine g_getI C cls_11 12 24 hm.1 rfl k_939 dX10_settle_62 ?_
      rw [M_f24]
      rw [hN]
      refine g_icmp_ge C 195 dX10_settle_65 (by decide) (fun c_65 => ?_) (fun c_65 => ?_)
      · exact absurd (nI_le_of c_65 (by omega) (by omega)) (by omega)
      · refine g_aload_n C dX10_settle_68 rfl ?_
        refine g_getR (b := (ad 23)) C cls_11 12 23 hm.1 (rm_23 hm).1 rfl k_938 dX10_settle_69 ?_
        refine g_bipush C 10 dX10_settle_72 (by rfl) ?_
        refine g_iload C dX10_settle_74 rfl ?_
        refine g_imul C dX10_settle_76 ?_
        refine g_iconst C 3 dX10_settle_77 (by rfl) ?_
        refine g_iadd C dX10_settle_78 ?_
        rw [show (10 : Int32) * nI i + 3 = nI (10 * i + 3) from ixm 10 i 3]
        refine g_iald C 2230 (rm_23 hm).2.1 rfl (show vp_in (nI (10 * i + 3)) (aL w (ad 23)) by rw [(rm_23 hm).2.2]; exact nI_vp (show 10 * i + 3 < 600 by omega) (by omega)) dX10_settle_79 ?_
        rw [M_a23, nI_tn (show 10 * i + 3 ≤ 100000 by omega)]
        rw [(hC2.2.2.2.1 i hi).2.2.1]
        refine g_iload_n C dX10_settle_80 rfl ?_
        refine g_icmp_ne C 189 dX10_settle_81 (by decide) (fun c_81 => ?_) (fun c_81 => ?_)
        · refine g_iinc C dX10_settle_189 rfl (nI_1 i) (by decide) ?_
          refine g_goto C 59 dX10_settle_192 (by decide) ?_
          have h9 := ih (i + 1) g0 (by omega)
          rw [sdF_f c_81, allN_f c_81, hAi] at h9
          exact g_lv2 [(0, .ref mo), (1, .int (nI se)), (3, .long (lN (allN cs se (dvN sN rN) i))), (5, .int (nI (i + 1)))] rfl h9
        · refine g_aload_n C dX10_settle_84 rfl ?_
          refine g_getR (b := (ad 23)) C cls_11 12 23 hm.1 (rm_23 hm).1 rfl k_938 dX10_settle_85 ?_
          refine g_bipush C 10 dX10_settle_88 (by rfl) ?_
          refine g_iload C dX10_settle_90 rfl ?_
          refine g_imul C dX10_settle_92 ?_
          refine g_bipush C 6 dX10_settle_93 (by rfl) ?_
          refine g_iadd C dX10_settle_95 ?_
          rw [show (10 : Int32) * nI i + 6 = nI (10 * i + 6) from ixm 10 i 6]
          refine g_aload_n C dX10_settle_96 rfl ?_
          refine g_aload_n C dX10_settle_97 rfl ?_
          refine g_getR (b := (ad 12)) C cls_11 12 12 hm.1 (rm_12 hm).1 rfl k_927 dX10_settle_98 ?_
          refine g_aload_n C dX10_settle_101 rfl ?_
          refine g_getR (b := (ad 23)) C cls_11 12 23 hm.1 (rm_23 hm).1 rfl k_938 dX10_settle_102 ?_
          refine g_bipush C 10 dX10_settle_105 (by rfl) ?_
          refine g_iload C dX10_settle_107 rfl ?_
          refine g_imul C dX10_settle_109 ?_
          rw [show (10 : Int32) * nI i = nI (10 * i) from pk_mul 10 i]
          refine g_iald C 2230 (rm_23 hm).2.1 rfl (show vp_in (nI (10 * i)) (aL w (ad 23)) by rw [(rm_23 hm).2.2]; exact nI_vp (show 10 * i < 600 by omega) (by omega)) dX10_settle_110 ?_
          rw [M_a23, nI_tn (show 10 * i ≤ 100000 by omega)]
          rw [(hC2.2.2.2.1 i hi).1]
          refine g_iald C 2120 (rm_12 hm).2.1 rfl (show vp_in (nI (cf i)) (aL w (ad 12)) by rw [(rm_12 hm).2.2]; exact nI_vp (show cf i < 16 by omega) (by omega)) dX10_settle_111 ?_
          rw [M_a12, nI_tn (show cf i ≤ 100000 by omega)]
          rw [(hC2.2.2.2.2 (cf i) (by omega)).1]
          refine g_iload_n C dX10_settle_112 rfl ?_
          refine g_aload_n C dX10_settle_113 rfl ?_
          refine g_getR (b := (ad 23)) C cls_11 12 23 hm.1 (rm_23 hm).1 rfl k_938 dX10_settle_114 ?_
          refine g_bipush C 10 dX10_settle_117 (by rfl) ?_
          refine g_iload C dX10_settle_119 rfl ?_
          refine g_imul C dX10_settle_121 ?_
          refine g_iconst C 1 dX10_settle_122 (by rfl) ?_
          refine g_iadd C dX10_settle_123 ?_
          rw [show (10 : Int32) * nI i + 1 = nI (10 * i + 1) from ixm 10 i 1]
          refine g_iald C 2230 (rm_23 hm).2.1 rfl (show vp_in (nI (10 * i + 1)) (aL w (ad 23)) by rw [(rm_23 hm).2.2]; exact nI_vp (show 10 * i + 1 < 600 by omega) (by omega)) dX10_settle_124 ?_
          rw [M_a23, nI_tn (show 10 * i + 1 ≤ 100000 by omega)]
          rw [hA23 (10 * i + 1) (by omega), (hK i hi).1]
          refine g_callV C cls_11 12 mt_X10_rateOf [.int (nI (ho (cf i))), .int (nI se), .int (nI (cp i))] (m_rateOf de w mo ad Ai F 0 g0 hm nS (ho (cf i)) hS h5 (by omega) (cp i) (pn (cp i)) (dn (cp i)) (by omega) hph se he5 hsz) hm.1 (by decide) k_1092 rfl rfl (Nat.le_of_ble_eq_true rfl) (by decide) (by decide) (by decide) (by decide) dX10_settle_125 (fun r_125 w_125 hp_125 => ?_)
          obtain ⟨rfl, g1, rfl⟩ := hp_125
          rw [hra]
          refine g_iast C 2230 (rm_23 hm).2.1 rfl (show vp_in (nI (10 * i + 6)) (aL w (ad 23)) by rw [(rm_23 hm).2.2]; exact nI_vp (show 10 * i + 6 < 600 by omega) (by omega)) dX10_settle_128 ?_
          rw [nI_tn (show 10 * i + 6 ≤ 100000 by omega), M_p23]
          refine g_aload_n C dX10_settle_129 rfl ?_
          refine g_getR (b := (ad 23)) C cls_11 12 23 hm.1 (rm_23 hm).1 rfl k_938 dX10_settle_130 ?_
          refine g_bipush C 10 dX10_settle_133 (by rfl) ?_
          refine g_iload C dX10_settle_135 rfl ?_
          refine g_imul C dX10_settle_137 ?_
          refine g_bipush C 7 dX10_settle_138 (by rfl) ?_
          refine g_iadd C dX10_settle_140 ?_
          rw [show (10 : Int32) * nI i + 7 = nI (10 * i + 7) from ixm 10 i 7]
          refine g_aload_n C dX10_settle_141 rfl ?_
          refine g_getR (b := (ad 23)) C cls_11 12 23 hm.1 (rm_23 hm).1 rfl k_938 dX10_settle_142 ?_
          refine g_bipush C 10 dX10_settle_145 (by rfl) ?_
          refine g_iload C dX10_settle_147 rfl ?_
          refine g_imul C dX10_settle_149 ?_
          refine g_iconst C 2 dX10_settle_150 (by rfl) ?_
          refine g_iadd C dX10_settle_151 ?_
          rw [show (10 : Int32) * nI i + 2 = nI (10 * i + 2) from ixm 10 i 2]
          refine g_iald C 2230 (rm_23 hm).2.1 rfl (show vp_in (nI (10 * i + 2)) (aL w (ad 23)) by rw [(rm_23 hm).2.2]; exact nI_vp (show 10 * i + 2 < 600 by omega) (by omega)) dX10_settle_152 ?_
          rw [M_a23, nI_tn (show 10 * i + 2 ≤ 100000 by omega)]
          rw [updA_ne (by omega), hA23 (10 * i + 2) (by omega), (hK i hi).2.2.1]
          refine g_aload_n C dX10_settle_153 rfl ?_
          refine g_getR (b := (ad 23)) C cls_11 12 23 hm.1 (rm_23 hm).1 rfl k_938 dX10_settle_154 ?_
          refine g_bipush C 10 dX10_settle_157 (by rfl) ?_
          refine g_iload C dX10_settle_159 rfl ?_
          refine g_imul C dX10_settle_161 ?_
          refine g_bipush C 6 dX10_settle_162 (by rfl) ?_
          refine g_iadd C dX10_settle_164 ?_
          rw [show (10 : Int32) * nI i + 6 = nI (10 * i + 6) from ixm 10 i 6]
          refine g_iald C 2230 (rm_23 hm).2.1 rfl (show vp_in (nI (10 * i + 6)) (aL w (ad 23)) by rw [(rm_23 hm).2.2]; exact nI_vp (show 10 * i + 6 < 600 by omega) (by omega)) dX10_settle_165 ?_
          rw [M_a23, nI_tn (show 10 * i + 6 ≤ 100000 by omega)]
          rw [updA_eq]
          refine g_imul C dX10_settle_166 ?_
          refine g_sipush C 1000 dX10_settle_167 (by rfl) ?_
          refine g_idiv C dX10_settle_170 (by decide) ?_
          rw [dv_e (by omega) (by omega)]
          refine g_iast C 2230 (rm_23 hm).2.1 rfl (show vp_in (nI (10 * i + 7)) (aL w (ad 23)) by rw [(rm_23 hm).2.2]; exact nI_vp (show 10 * i + 7 < 600 by omega) (by omega)) dX10_settle_171 ?_
          rw [nI_tn (show 10 * i + 7 ≤ 100000 by omega), M_p23]
          refine g_lload_n C dX10_settle_172 rfl ?_
          refine g_aload_n C dX10_settle_173 rfl ?_
          refine g_getR (b := (ad 23)) C cls_11 12 23 hm.1 (rm_23 hm).1 rfl k_938 dX10_settle_174 ?_
          refine g_bipush C 10 dX10_settle_177 (by rfl) ?_
          refine g_iload C dX10_settle_179 rfl ?_
          refine g_imul C dX10_settle_181 ?_
          refine g_bipush C 7 dX10_settle_182 (by rfl) ?_
          refine g_iadd C dX10_settle_184 ?_
          rw [show (10 : Int32) * nI i + 7 = nI (10 * i + 7) from ixm 10 i 7]
          refine g_iald C 2230 (rm_23 hm).2.1 rfl (show vp_in (nI (10 * i + 7)) (aL w (ad 23)) by rw [(rm_23 hm).2.2]; exact nI_vp (show 10 * i + 7 < 600 by omega) (by omega)) dX10_settle_185 ?_
          rw [M_a23, nI_tn (show 10 * i + 7 ≤ 100000 by omega)]
          rw [updA_eq]
          refine g_i2l C dX10_settle_186 ?_
          rw [i2l_n (by omega)]
          refine g_ladd C dX10_settle_187 ?_
          rw [lN_add]
          refine g_lstore_n C dX10_settle_188 (by decide) ?_
          refine g_iinc C dX10_settle_189 rfl (nI_1 i) (by decide) ?_
          refine g_goto C 59 dX10_settle_192 (by decide) ?_
          have h9 := ih (i + 1) g1 (by omega)
          rw [sdF_t c_81 (by omega) (by omega), allN_t c_81 (by omega) (by omega), hAi] at h9
          exact g_lv2 [(0, .ref mo), (1, .int (nI se)), (3, .long (lN (allN cs se (dvN sN rN) i + dvN sN rN i))), (5, .int (nI (i + 1)))] rfl h9
  refine g_iload_n C dX10_settle_0 rfl ?_
  refine g_callS C mt_X10_isSeason [.int xe] (c_X10_isSeason de _ xe) k_1053 rfl rfl (Nat.le_of_ble_eq_true rfl) (by decide) (by decide) (by decide) (by decide) dX10_settle_1 (fun r_1 w_1 hp_1 => ?_)
  obtain ⟨rfl, rfl⟩ := hp_1
  refine g_istore_n C dX10_settle_4 (by decide) ?_
  refine g_aload_n C dX10_settle_5 rfl ?_
  refine g_iload_n C dX10_settle_6 rfl ?_
  refine g_cutS (pc' := 33) (.int (bI (inR xe 0 19 && (decide ((se + 1) * 60 ≤ T) && decide (A 25 se = 0))))) ?_ (fun j_33 => ?_)
  · refine g_iconst C 1 dX10_settle_33 (by rfl) ?_
    refine g_callV C cls_11 12 mt_X10_goes [.int (bI (inR xe 0 19)), .int (bI (inR xe 0 19 && (decide ((se + 1) * 60 ≤ T) && decide (A 25 se = 0)))), .int 1] (m_goes de w mo ad A F L g hm (bI (inR xe 0 19)) (bI (inR xe 0 19 && (decide ((se + 1) * 60 ≤ T) && decide (A 25 se = 0)))) 1) hm.1 (by decide) k_1017 rfl rfl (Nat.le_of_ble_eq_true rfl) (by decide) (by decide) (by decide) (by decide) dX10_settle_34 (fun r_34 w_34 hp_34 => ?_)
    obtain ⟨rfl, rfl⟩ := hp_34
    refine g_if_ne C 42 dX10_settle_37 (by decide) (fun c_37 => ?_) (fun c_37 => ?_)
    · have b_37 := bI_n0.mp c_37
      have hg := of_decide_eq_true b_37
      rw [hg]
      obtain ⟨ha9, hb9⟩ := goV_01 hg
      obtain ⟨rfl, he5⟩ := hse ha9
      refine g_aload_n C dX10_settle_42 rfl ?_
      refine g_getR (b := (ad 25)) C cls_11 12 25 hm.1 (rm_25 hm).1 rfl k_940 dX10_settle_43 ?_
      refine g_iload_n C dX10_settle_46 rfl ?_
      refine g_aload_n C dX10_settle_47 rfl ?_
      refine g_getI C cls_11 12 0 hm.1 rfl k_915 dX10_settle_48 ?_
      rw [M_f0]
      refine g_iconst C 1 dX10_settle_51 (by rfl) ?_
      refine g_iadd C dX10_settle_52 ?_
      refine g_iast C 2250 (rm_25 hm).2.1 rfl (show vp_in (nI (se)) (aL w (ad 25)) by rw [(rm_25 hm).2.2]; exact nI_vp (show se < 20 by omega) (by omega)) dX10_settle_53 ?_
      rw [nI_tn (show se ≤ 100000 by omega), M_p25]
      refine g_lconst C 0 dX10_settle_54 (by rfl) ?_
      refine g_lstore_n C dX10_settle_55 (by decide) ?_
      refine g_iconst C 0 dX10_settle_56 (by rfl) ?_
      refine g_istore C dX10_settle_57 (by decide) ?_
      exact g_lv2 [(0, .ref mo), (1, .int (nI se)), (3, .long (lN (allN cs se (dvN sN rN) 0))), (5, .int (nI 0))] rfl (loop1 he5 hal nC 0 g (by omega))
    · have b_37 := bI_0.mp c_37
      have hg := of_decide_eq_false b_37
      refine g_iconst C 0 dX10_settle_40 (by rfl) ?_
      refine g_iret C rfl rfl (by decide) (by decide) dX10_settle_41 ?_
      first
      | exact ⟨fun h9 => absurd h9 hg, fun _ => ⟨rfl, rfl⟩⟩
      | (refine ⟨fun _ => ⟨?_, _, rfl⟩, fun h9 => absurd rfl h9⟩; exact congrArg (fun v => some (Value.int v)) (rfl))
  · refine g_iload_n C dX10_settle_7 rfl ?_
    refine g_if_eq C 32 dX10_settle_8 (by decide) (fun c_8 => ?_) (fun c_8 => ?_)
    · have b_8 := bI_0.mp c_8
      refine g_iconst C 0 dX10_settle_32 (by rfl) ?_
      exact g_eq rfl (congrArg (fun v => Value.int v :: _) (by first | rfl | (simp only [b_8]; done) | (simp only [b_8]; rfl) | ((try simp only [b_8]); rfl) | (simp [b_8, bI]; done))) rfl j_33
    · have b_8 := bI_n0.mp c_8
      obtain ⟨rfl, he5⟩ := hse b_8
      refine g_aload_n C dX10_settle_11 rfl ?_
      refine g_iload_n C dX10_settle_12 rfl ?_
      refine g_callV C cls_11 12 mt_X10_isOver [.int (nI se)] (m_isOver de w mo ad A F L g hm se T (by omega) hT hT2) hm.1 (by decide) k_1111 rfl rfl (Nat.le_of_ble_eq_true rfl) (by decide) (by decide) (by decide) (by decide) dX10_settle_13 (fun r_13 w_13 hp_13 => ?_)
      obtain ⟨rfl, rfl⟩ := hp_13
      refine g_if_eq C 32 dX10_settle_16 (by decide) (fun c_16 => ?_) (fun c_16 => ?_)
      · have b_16 := bI_0.mp c_16
        refine g_iconst C 0 dX10_settle_32 (by rfl) ?_
        exact g_eq rfl (congrArg (fun v => Value.int v :: _) (by first | rfl | (simp only [b_8, b_16]; done) | (simp only [b_8, b_16]; rfl) | ((try simp only [b_16]); (try simp only [b_8]); rfl) | (simp [b_8, b_16, bI]; done))) rfl j_33
      · have b_16 := bI_n0.mp c_16
        refine g_aload_n C dX10_settle_19 rfl ?_
        refine g_getR (b := (ad 25)) C cls_11 12 25 hm.1 (rm_25 hm).1 rfl k_940 dX10_settle_20 ?_
        refine g_iload_n C dX10_settle_23 rfl ?_
        refine g_iald C 2250 (rm_25 hm).2.1 rfl (show vp_in (nI (se)) (aL w (ad 25)) by rw [(rm_25 hm).2.2]; exact nI_vp (show se < 20 by omega) (by omega)) dX10_settle_24 ?_
        rw [M_a25, nI_tn (show se ≤ 100000 by omega)]
        refine g_if_ne C 32 dX10_settle_25 (by decide) (fun c_25 => ?_) (fun c_25 => ?_)
        · have b_25 := decide_eq_false c_25
          refine g_iconst C 0 dX10_settle_32 (by rfl) ?_
          exact g_eq rfl (congrArg (fun v => Value.int v :: _) (by first | rfl | (simp only [b_8, b_16, b_25]; done) | (simp only [b_8, b_16, b_25]; rfl) | ((try simp only [b_25]); (try simp only [b_16]); (try simp only [b_8]); rfl) | (simp [b_8, b_16, b_25, bI]; done))) rfl j_33
        · have b_25 := decide_eq_true c_25
          refine g_iconst C 1 dX10_settle_28 (by rfl) ?_
          refine g_goto C 33 dX10_settle_29 (by decide) ?_
          exact g_eq rfl (congrArg (fun v => Value.int v :: _) (by first | rfl | (simp only [b_8, b_16, b_25]; done) | (simp only [b_8, b_16, b_25]; rfl) | ((try simp only [b_25]); (try simp only [b_16]); (try simp only [b_8]); rfl) | (simp [b_8, b_16, b_25, bI]; done))) rfl j_33
end REF24
