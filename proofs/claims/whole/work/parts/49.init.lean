section INIT49
/-- all cells that were, but x -/
def OldX (w w1 : Wd) (x : Nat) : Prop := ∀ b, kd w b ≠ 0 → b ≠ x → SmA w w1 b
def XR (w : Wd) (x : Nat) (r : Nat → Option Nat) : Prop := kd w x = 11 ∧ ∀ k, fR w 11 k x = r k
def updR (r : Nat → Option Nat) (k q : Nat) : Nat → Option Nat := fun i => if i = k then some q else r i
theorem OldX.tr {w w1 w2 : Wd} {x : Nat} (h1 : OldX w w1 x) (h2 : OldX w1 w2 x) : OldX w w2 x := fun b hb hx => (h1 b hb hx).tr (h2 b (by rw [(h1 b hb hx).1]; exact hb) hx)
theorem inS {w w1 : Wd} {x : Nat} {r : Nat → Option Nat} (hX : XR w x r) (o : Old w w1) (k q : Nat) : XR (pR w1 11 k x (some q)) x (updR r k q) ∧ OldX w (pR w1 11 k x (some q)) x ∧ OldX w1 (pR w1 11 k x (some q)) x := by
  have s := o x (by rw [hX.1]; decide)
  refine ⟨⟨s.1.trans hX.1, fun i => ?_⟩, fun b hb hx => (o b hb).tr (SmA.pR hx), fun b hb hx => SmA.pR hx⟩
  by_cases e : i = k
  · rw [e]; exact up3_same.trans (if_pos rfl).symm
  · exact (fR_y e).trans (((s.2.2.2.1 _ _).trans (hX.2 i)).trans (if_neg e).symm)
theorem inI {w : Wd} {x : Nat} {r : Nat → Option Nat} (hX : XR w x r) (k : Nat) (v : Int32) : XR (pI w 11 k x v) x r ∧ OldX w (pI w 11 k x v) x := ⟨hX, fun b hb hx => SmA.pI hx⟩
def caI (we vi ta sl pr fa co bo so dr dl : Nat) : Nat → Nat → Nat := fun a b => if a = 9 then (if b = 0 then we else if b = 1 then vi else if b = 2 then ta else if b = 3 then sl else if b = 4 then pr else if b = 5 then fa else if b = 6 then co else if b = 7 then bo else so) else if a = 3 then dr else dl
def FI0 : Nat → Int32 := updF (updF (updF (fun _ => 0) 20 30) 21 5000) 22 5000
theorem lstI {u v w : Wd} {x de q Kl Ke : Nat} {el : Nat → Nat} (hKl : Kl ≠ 0) (hv : v = pR (pI (nw u q Kl 0) Kl 0 q 0) Kl 1 q (some de)) (t : OldX v w x) (hqx : q ≠ x) : RLs w de Kl Ke q 0 el := by
  have k0 : kd v q = Kl := by rw [hv]; exact nw_kd0 (n := 0)
  have s := t q (by rw [k0]; exact hKl) hqx
  refine RLs_0 (s.1.trans k0) ((s.2.2.1 _ _).trans ?_) ((s.2.2.2.1 _ _).trans ?_)
  · rw [hv]
    exact (fI_y (w := nw u q Kl 0) (K := Kl) (k := 0) (v := 0) (by decide)).trans fld_nw
  · rw [hv]
    exact up3_same
theorem lstF {u v w wF : Wd} {x de q : Nat} {el : Nat → Nat} (Kl Ke : Nat) (hKl : Kl ≠ 0) (hv : v = pR (pI (nw u q Kl 0) Kl 0 q 0) Kl 1 q (some de)) (t : OldX v w x) (hqx : q ≠ x) (hF : ∀ b, kd w b ≠ 0 → kd w b ≠ 1020 → SmA w wF b) (h3 : Kl ≠ 1020) : RLs wF de Kl Ke q 0 el := by
  have h := lstI (Ke := Ke) (el := el) hKl hv t hqx
  have s := hF q (by rw [h.1]; exact hKl) (by rw [h.1]; exact h3)
  have k0 : kd v q = Kl := by rw [hv]; exact nw_kd0 (n := 0)
  have s1 := t q (by rw [k0]; exact hKl) hqx
  exact RLs_0 (s.1.trans h.1) ((s.2.2.1 _ _).trans h.2.1) ((s.2.2.2.1 _ _).trans ((s1.2.2.2.1 _ _).trans (by rw [hv]; exact up3_same)))
theorem dX9_init_0 : decode cX9_init 0 = .ok (.aload_n 0, 1) := by decide +kernel
theorem dX9_init_1 : decode cX9_init 1 = .ok (.invokespecial 1, 3) := by decide +kernel
theorem dX9_init_4 : decode cX9_init 4 = .ok (.aload_n 0, 1) := by decide +kernel
theorem dX9_init_5 : decode cX9_init 5 = .ok (.new 7, 3) := by decide +kernel
theorem dX9_init_8 : decode cX9_init 8 = .ok (.dup, 1) := by decide +kernel
theorem dX9_init_9 : decode cX9_init 9 = .ok (.invokespecial 9, 3) := by decide +kernel
theorem dX9_init_12 : decode cX9_init 12 = .ok (.putfield 10, 3) := by decide +kernel
theorem dX9_init_15 : decode cX9_init 15 = .ok (.aload_n 0, 1) := by decide +kernel
theorem dX9_init_16 : decode cX9_init 16 = .ok (.new 16, 3) := by decide +kernel
theorem dX9_init_19 : decode cX9_init 19 = .ok (.dup, 1) := by decide +kernel
theorem dX9_init_20 : decode cX9_init 20 = .ok (.invokespecial 18, 3) := by decide +kernel
theorem dX9_init_23 : decode cX9_init 23 = .ok (.putfield 19, 3) := by decide +kernel
theorem dX9_init_26 : decode cX9_init 26 = .ok (.aload_n 0, 1) := by decide +kernel
theorem dX9_init_27 : decode cX9_init 27 = .ok (.new 23, 3) := by decide +kernel
theorem dX9_init_30 : decode cX9_init 30 = .ok (.dup, 1) := by decide +kernel
theorem dX9_init_31 : decode cX9_init 31 = .ok (.invokespecial 25, 3) := by decide +kernel
theorem dX9_init_34 : decode cX9_init 34 = .ok (.putfield 26, 3) := by decide +kernel
theorem dX9_init_37 : decode cX9_init 37 = .ok (.aload_n 0, 1) := by decide +kernel
theorem dX9_init_38 : decode cX9_init 38 = .ok (.new 23, 3) := by decide +kernel
theorem dX9_init_41 : decode cX9_init 41 = .ok (.dup, 1) := by decide +kernel
theorem dX9_init_42 : decode cX9_init 42 = .ok (.invokespecial 25, 3) := by decide +kernel
theorem dX9_init_45 : decode cX9_init 45 = .ok (.putfield 30, 3) := by decide +kernel
theorem dX9_init_48 : decode cX9_init 48 = .ok (.aload_n 0, 1) := by decide +kernel
theorem dX9_init_49 : decode cX9_init 49 = .ok (.new 23, 3) := by decide +kernel
theorem dX9_init_52 : decode cX9_init 52 = .ok (.dup, 1) := by decide +kernel
theorem dX9_init_53 : decode cX9_init 53 = .ok (.invokespecial 25, 3) := by decide +kernel
theorem dX9_init_56 : decode cX9_init 56 = .ok (.putfield 33, 3) := by decide +kernel
theorem dX9_init_59 : decode cX9_init 59 = .ok (.aload_n 0, 1) := by decide +kernel
theorem dX9_init_60 : decode cX9_init 60 = .ok (.new 36, 3) := by decide +kernel
theorem dX9_init_63 : decode cX9_init 63 = .ok (.dup, 1) := by decide +kernel
theorem dX9_init_64 : decode cX9_init 64 = .ok (.invokespecial 38, 3) := by decide +kernel
theorem dX9_init_67 : decode cX9_init 67 = .ok (.putfield 39, 3) := by decide +kernel
theorem dX9_init_70 : decode cX9_init 70 = .ok (.aload_n 0, 1) := by decide +kernel
theorem dX9_init_71 : decode cX9_init 71 = .ok (.bipush 20, 2) := by decide +kernel
theorem dX9_init_73 : decode cX9_init 73 = .ok (.newarray .int, 2) := by decide +kernel
theorem dX9_init_75 : decode cX9_init 75 = .ok (.putfield 43, 3) := by decide +kernel
theorem dX9_init_78 : decode cX9_init 78 = .ok (.aload_n 0, 1) := by decide +kernel
theorem dX9_init_79 : decode cX9_init 79 = .ok (.new 47, 3) := by decide +kernel
theorem dX9_init_82 : decode cX9_init 82 = .ok (.dup, 1) := by decide +kernel
theorem dX9_init_83 : decode cX9_init 83 = .ok (.iconst 0, 1) := by decide +kernel
theorem dX9_init_84 : decode cX9_init 84 = .ok (.invokespecial 49, 3) := by decide +kernel
theorem dX9_init_87 : decode cX9_init 87 = .ok (.putfield 52, 3) := by decide +kernel
theorem dX9_init_90 : decode cX9_init 90 = .ok (.aload_n 0, 1) := by decide +kernel
theorem dX9_init_91 : decode cX9_init 91 = .ok (.iconst 0, 1) := by decide +kernel
theorem dX9_init_92 : decode cX9_init 92 = .ok (.putfield 56, 3) := by decide +kernel
theorem dX9_init_95 : decode cX9_init 95 = .ok (.aload_n 0, 1) := by decide +kernel
theorem dX9_init_96 : decode cX9_init 96 = .ok (.bipush 30, 2) := by decide +kernel
theorem dX9_init_98 : decode cX9_init 98 = .ok (.putfield 60, 3) := by decide +kernel
theorem dX9_init_101 : decode cX9_init 101 = .ok (.aload_n 0, 1) := by decide +kernel
theorem dX9_init_102 : decode cX9_init 102 = .ok (.sipush 5000, 3) := by decide +kernel
theorem dX9_init_105 : decode cX9_init 105 = .ok (.putfield 63, 3) := by decide +kernel
theorem dX9_init_108 : decode cX9_init 108 = .ok (.aload_n 0, 1) := by decide +kernel
theorem dX9_init_109 : decode cX9_init 109 = .ok (.sipush 5000, 3) := by decide +kernel
theorem dX9_init_112 : decode cX9_init 112 = .ok (.putfield 66, 3) := by decide +kernel
theorem dX9_init_115 : decode cX9_init 115 = .ok (.aload_n 0, 1) := by decide +kernel
theorem dX9_init_116 : decode cX9_init 116 = .ok (.getfield 43, 3) := by decide +kernel
theorem dX9_init_119 : decode cX9_init 119 = .ok (.iconst (-1), 1) := by decide +kernel
theorem dX9_init_120 : decode cX9_init 120 = .ok (.invokestatic 69, 3) := by decide +kernel
theorem dX9_init_123 : decode cX9_init 123 = .ok (.return_, 1) := by decide +kernel
set_option maxHeartbeats 1000000 in
set_option maxRecDepth 100000 in
theorem c_X9_init (de : Nat) (w : Wd) (x : Nat) (hx : kd w x = 11) (ho cf cp cs sb pn : Nat → Nat) (dn : Nat → Nat → Nat) (ch : Nat → Nat → List (Nat × Int32)) (hpn : pn 6 = 0) : Ct yX9_init cX9_init 1 none 5 101 12 120 de [.ref x] w (fun r w' => r = none ∧ ∃ ca, RC0 w' de x (fun _ _ => 0) FI0 0 0 0 0 0 ho cf cp cs sb pn dn ch ca ∧ KB w' 0 (fun _ _ => 0) FI0 ca ∧ OldX w w' x) := by
  refine Ct.mk (by decide +kernel) [(0, .ref x)] rfl (Nat.le_of_ble_eq_true rfl) ?_
  intro p l e R s m args below meth c D cy z C hnm
  have hX : XR w x (fun k => fR w 11 k x) := ⟨hx, fun _ => rfl⟩
  refine g_aload_n C dX9_init_0 rfl ?_
  refine g_objInit C k_32 k_33 k_34 (Nat.le_of_ble_eq_true rfl) (by decide) dX9_init_1 ?_
  refine g_aload_n C dX9_init_4 rfl ?_
  refine g_new C cls_9 dv_9 10 rfl k_35 k_36 k_2 (by decide) (by decide) dX9_init_5 (fun we hwe => ?_)
  intro hde_we
  have n_we : we ≠ x := fun z => by have h9 := hX.1; rw [← z, hwe] at h9; exact absurd h9 (by decide)
  have k_we : kd (nw w we 10 0) we = 10 := nw_kd0
  refine g_dup C dX9_init_8 rfl ?_
  refine g_callIN C mt_X8_init [] (c_X8_init de _ we k_we) kn_37 rfl rfl (Nat.le_of_ble_eq_true rfl) (by decide) (by decide) (by decide) (by decide) dX9_init_9 (fun r_9 w_9 hp_9 => ?_)
  obtain ⟨rfl, sl, hsl, hslde, f_we, a1, a2, a3, a5, a6⟩ := hp_9
  have o_we : Old w w_9 := Old.mk2 hwe f_we
  have hxk : kd w_9 x = 11 := (o_we x (by rw [hX.1]; decide)).1.trans hX.1
  have hX0 := hX.1
  refine g_putR C cls_10 11 0 (some we) rfl (by first | exact hX.1 | exact hxk | exact kd_nw hX.1 (by decide) (by assumption)) rfl (Or.inr ⟨rfl, hnm, rfl⟩) rfl rfl k_136 dX9_init_12 ?_
  obtain ⟨hX1, c_we, d_we⟩ := inS hX o_we 0 we
  replace hX := hX1
  clear hX1
  generalize pR w_9 11 0 x (some we) = u1 at hX c_we d_we ⊢
  refine g_aload_n C dX9_init_15 rfl ?_
  refine g_new C cls_6 dv_6 7 rfl k_76 k_77 k_6 (by decide) (by decide) dX9_init_16 (fun vi hvi => ?_)
  intro hde_vi
  have n_vi : vi ≠ x := fun z => by have h9 := hX.1; rw [← z, hvi] at h9; exact absurd h9 (by decide)
  have k_vi : kd (nw u1 vi 7 0) vi = 7 := nw_kd0
  refine g_dup C dX9_init_19 rfl ?_
  refine g_callIN C mt_X5_init [] (c_X5_init de _ vi k_vi) kn_78 rfl rfl (Nat.le_of_ble_eq_true rfl) (by decide) (by decide) (by decide) (by decide) dX9_init_20 (fun r_20 w_20 hp_20 => ?_)
  obtain ⟨rfl, ta, hta, f_vi, b1, b2, b3, b4⟩ := hp_20
  have o_vi : Old u1 w_20 := Old.mk2 hvi f_vi
  have hxk : kd w_20 x = 11 := (o_vi x (by rw [hX.1]; decide)).1.trans hX.1
  have nta : ta ≠ x := fun z => by rw [z] at hta; rw [kd_nw hX.1 (by decide) hvi] at hta; exact absurd hta (by decide)
  refine g_putR C cls_10 11 1 (some vi) rfl (by first | exact hX.1 | exact hxk | exact kd_nw hX.1 (by decide) (by assumption)) rfl (Or.inr ⟨rfl, hnm, rfl⟩) rfl rfl k_137 dX9_init_23 ?_
  obtain ⟨hX1, c_vi, d_vi⟩ := inS hX o_vi 1 vi
  replace hX := hX1
  clear hX1
  generalize pR w_20 11 1 x (some vi) = u2 at hX c_vi d_vi ⊢
  refine g_aload_n C dX9_init_26 rfl ?_
  refine g_new C cls_0 dv_0 21 rfl k_87 k_42 k_5 (by decide) (by decide) dX9_init_27 (fun pr hpr => ?_)
  intro hde_pr
  have n_pr : pr ≠ x := fun z => by have h9 := hX.1; rw [← z, hpr] at h9; exact absurd h9 (by decide)
  have k_pr : kd (nw u2 pr 21 0) pr = 21 := nw_kd0
  refine g_dup C dX9_init_30 rfl ?_
  refine g_callI C mt_Jx4a65c_init_da8c8 [] (c_Jx4a65c_init_da8c8 de _ 21 1023 KL_pr pr k_pr) k_88 rfl rfl (Nat.le_of_ble_eq_true rfl) (by decide) (by decide) (by decide) (by decide) dX9_init_31 (fun r_31 w_31 hp_31 => ?_)
  obtain ⟨rfl, e_pr⟩ := hp_31
  have o_pr : Old u2 w_31 := by
    rw [e_pr]
    exact Old.mk2 hpr (fun b hb hb2 => (SmA.pI hb2).tr (SmA.pR hb2))
  have hxk : kd w_31 x = 11 := (o_pr x (by rw [hX.1]; decide)).1.trans hX.1
  refine g_putR C cls_10 11 2 (some pr) rfl (by first | exact hX.1 | exact hxk | exact kd_nw hX.1 (by decide) (by assumption)) rfl (Or.inr ⟨rfl, hnm, rfl⟩) rfl rfl k_138 dX9_init_34 ?_
  obtain ⟨hX1, c_pr, d_pr⟩ := inS hX o_pr 2 pr
  replace hX := hX1
  clear hX1
  generalize pR w_31 11 2 x (some pr) = u3 at hX c_pr d_pr ⊢
  refine g_aload_n C dX9_init_37 rfl ?_
  refine g_new C cls_0 dv_0 41 rfl k_87 k_42 k_5 (by decide) (by decide) dX9_init_38 (fun fa hfa => ?_)
  intro hde_fa
  have n_fa : fa ≠ x := fun z => by have h9 := hX.1; rw [← z, hfa] at h9; exact absurd h9 (by decide)
  have k_fa : kd (nw u3 fa 41 0) fa = 41 := nw_kd0
  refine g_dup C dX9_init_41 rfl ?_
  refine g_callI C mt_Jx4a65c_init_da8c8 [] (c_Jx4a65c_init_da8c8 de _ 41 1033 KL_fa fa k_fa) k_88 rfl rfl (Nat.le_of_ble_eq_true rfl) (by decide) (by decide) (by decide) (by decide) dX9_init_42 (fun r_42 w_42 hp_42 => ?_)
  obtain ⟨rfl, e_fa⟩ := hp_42
  have o_fa : Old u3 w_42 := by
    rw [e_fa]
    exact Old.mk2 hfa (fun b hb hb2 => (SmA.pI hb2).tr (SmA.pR hb2))
  have hxk : kd w_42 x = 11 := (o_fa x (by rw [hX.1]; decide)).1.trans hX.1
  refine g_putR C cls_10 11 3 (some fa) rfl (by first | exact hX.1 | exact hxk | exact kd_nw hX.1 (by decide) (by assumption)) rfl (Or.inr ⟨rfl, hnm, rfl⟩) rfl rfl k_139 dX9_init_45 ?_
  obtain ⟨hX1, c_fa, d_fa⟩ := inS hX o_fa 3 fa
  replace hX := hX1
  clear hX1
  generalize pR w_42 11 3 x (some fa) = u4 at hX c_fa d_fa ⊢
  refine g_aload_n C dX9_init_48 rfl ?_
  refine g_new C cls_0 dv_0 61 rfl k_87 k_42 k_5 (by decide) (by decide) dX9_init_49 (fun co hco => ?_)
  intro hde_co
  have n_co : co ≠ x := fun z => by have h9 := hX.1; rw [← z, hco] at h9; exact absurd h9 (by decide)
  have k_co : kd (nw u4 co 61 0) co = 61 := nw_kd0
  refine g_dup C dX9_init_52 rfl ?_
  refine g_callI C mt_Jx4a65c_init_da8c8 [] (c_Jx4a65c_init_da8c8 de _ 61 1043 KL_co co k_co) k_88 rfl rfl (Nat.le_of_ble_eq_true rfl) (by decide) (by decide) (by decide) (by decide) dX9_init_53 (fun r_53 w_53 hp_53 => ?_)
  obtain ⟨rfl, e_co⟩ := hp_53
  have o_co : Old u4 w_53 := by
    rw [e_co]
    exact Old.mk2 hco (fun b hb hb2 => (SmA.pI hb2).tr (SmA.pR hb2))
  have hxk : kd w_53 x = 11 := (o_co x (by rw [hX.1]; decide)).1.trans hX.1
  refine g_putR C cls_10 11 4 (some co) rfl (by first | exact hX.1 | exact hxk | exact kd_nw hX.1 (by decide) (by assumption)) rfl (Or.inr ⟨rfl, hnm, rfl⟩) rfl rfl k_140 dX9_init_56 ?_
  obtain ⟨hX1, c_co, d_co⟩ := inS hX o_co 4 co
  replace hX := hX1
  clear hX1
  generalize pR w_53 11 4 x (some co) = u5 at hX c_co d_co ⊢
  refine g_aload_n C dX9_init_59 rfl ?_
  refine g_new C cls_1 dv_1 2 rfl k_89 k_90 k_7 (by decide) (by decide) dX9_init_60 (fun bo hbo => ?_)
  intro hde_bo
  have n_bo : bo ≠ x := fun z => by have h9 := hX.1; rw [← z, hbo] at h9; exact absurd h9 (by decide)
  have k_bo : kd (nw u5 bo 2 0) bo = 2 := nw_kd0
  refine g_dup C dX9_init_63 rfl ?_
  refine g_callIN C mt_X0_init [] (c_X0_init de _ bo k_bo) kn_91 rfl rfl (Nat.le_of_ble_eq_true rfl) (by decide) (by decide) (by decide) (by decide) dX9_init_64 (fun r_64 w_64 hp_64 => ?_)
  obtain ⟨rfl, f_bo, g1, g2, g3, g4, g5⟩ := hp_64
  have o_bo : Old u5 w_64 := Old.mk2 hbo (fun b hb hb2 => f_bo b hb2)
  have hxk : kd w_64 x = 11 := (o_bo x (by rw [hX.1]; decide)).1.trans hX.1
  refine g_putR C cls_10 11 5 (some bo) rfl (by first | exact hX.1 | exact hxk | exact kd_nw hX.1 (by decide) (by assumption)) rfl (Or.inr ⟨rfl, hnm, rfl⟩) rfl rfl k_141 dX9_init_67 ?_
  obtain ⟨hX1, c_bo, d_bo⟩ := inS hX o_bo 5 bo
  replace hX := hX1
  clear hX1
  generalize pR w_64 11 5 x (some bo) = u6 at hX c_bo d_bo ⊢
  refine g_aload_n C dX9_init_70 rfl ?_
  refine g_bipush C 20 dX9_init_71 (by rfl) ?_
  refine g_newI C 1020 20 rfl k_86 (by decide) (by decide) (by decide) (by decide) (by decide) dX9_init_73 (fun so hso => ?_)
  intro hde_so
  have n_so : so ≠ x := fun z => by have h9 := hX.1; rw [← z, hso] at h9; exact absurd h9 (by decide)
  have k_so : kd (nw u6 so 1020 20) so = 1020 := nw_kd0
  have l_so : aL (nw u6 so 1020 20) so = 20 := nw_aL0
  have o_so : Old u6 (nw u6 so 1020 20) := Old.n1 hso
  have hso0 : kd w so = 0 := Classical.byContradiction (fun z => by have h9 := (((((c_we.tr c_vi).tr c_pr).tr c_fa).tr c_co).tr c_bo) so z n_so; exact z (h9.1.symm.trans hso))
  refine g_putR C cls_10 11 6 (some so) rfl (by first | exact hX.1 | exact hxk | exact kd_nw hX.1 (by decide) (by assumption)) rfl (Or.inr ⟨rfl, hnm, rfl⟩) rfl rfl k_142 dX9_init_75 ?_
  obtain ⟨hX1, c_so, d_so⟩ := inS hX o_so 6 so
  replace hX := hX1
  clear hX1
  generalize nw u6 so 1020 20 = w_73 at hX c_so d_so o_so k_so l_so ⊢
  generalize pR w_73 11 6 x (some so) = u7 at hX c_so d_so ⊢
  refine g_aload_n C dX9_init_78 rfl ?_
  refine g_new C cls_5 dv_5 6 rfl k_112 k_113 k_8 (by decide) (by decide) dX9_init_79 (fun dr hdr => ?_)
  intro hde_dr
  have n_dr : dr ≠ x := fun z => by have h9 := hX.1; rw [← z, hdr] at h9; exact absurd h9 (by decide)
  have k_dr : kd (nw u7 dr 6 0) dr = 6 := nw_kd0
  refine g_dup C dX9_init_82 rfl ?_
  refine g_iconst C 0 dX9_init_83 (by rfl) ?_
  refine g_callI C mt_X4_init [.int 0] (c_X4_init de _ dr 0 k_dr) k_114 rfl rfl (Nat.le_of_ble_eq_true rfl) (by decide) (by decide) (by decide) (by decide) dX9_init_84 (fun r_84 w_84 hp_84 => ?_)
  obtain ⟨rfl, dl, hdl, hdlde, f_dr, i1, i2, i3, i4, i5, i6⟩ := hp_84
  have o_dr : Old u7 w_84 := Old.mk2 hdr f_dr
  have hxk : kd w_84 x = 11 := (o_dr x (by rw [hX.1]; decide)).1.trans hX.1
  have ndl : dl ≠ x := fun z => by rw [z] at hdl; rw [kd_nw hX.1 (by decide) hdr] at hdl; exact absurd hdl (by decide)
  refine g_putR C cls_10 11 7 (some dr) rfl (by first | exact hX.1 | exact hxk | exact kd_nw hX.1 (by decide) (by assumption)) rfl (Or.inl rfl) rfl rfl k_143 dX9_init_87 ?_
  obtain ⟨hX1, c_dr, d_dr⟩ := inS hX o_dr 7 dr
  replace hX := hX1
  clear hX1
  generalize pR w_84 11 7 x (some dr) = u8 at hX c_dr d_dr ⊢
  refine g_aload_n C dX9_init_90 rfl ?_
  refine g_iconst C 0 dX9_init_91 (by rfl) ?_
  refine g_putI C cls_10 11 8 (by first | exact hX.1 | exact hxk | exact kd_nw hX.1 (by decide) (by assumption)) rfl (Or.inl rfl) rfl rfl k_144 dX9_init_92 ?_
  obtain ⟨hX1, c_t0⟩ := inI hX 8 0
  have y8 : fI (pI u8 11 8 x 0) 11 8 x = 0 := fI_pI
  replace hX := hX1
  clear hX1
  generalize pI u8 11 8 x 0 = t0 at hX c_t0 y8  ⊢
  refine g_aload_n C dX9_init_95 rfl ?_
  refine g_bipush C 30 dX9_init_96 (by rfl) ?_
  refine g_putI C cls_10 11 9 (by first | exact hX.1 | exact hxk | exact kd_nw hX.1 (by decide) (by assumption)) rfl (Or.inl rfl) rfl rfl k_145 dX9_init_98 ?_
  obtain ⟨hX1, c_t1⟩ := inI hX 9 30
  replace y8 : fI (pI t0 11 9 x 30) 11 8 x = 0 := (fI_y (by decide)).trans y8
  have y9 : fI (pI t0 11 9 x 30) 11 9 x = 30 := fI_pI
  replace hX := hX1
  clear hX1
  generalize pI t0 11 9 x 30 = t1 at hX c_t1 y9 y8 ⊢
  refine g_aload_n C dX9_init_101 rfl ?_
  refine g_sipush C 5000 dX9_init_102 (by rfl) ?_
  refine g_putI C cls_10 11 10 (by first | exact hX.1 | exact hxk | exact kd_nw hX.1 (by decide) (by assumption)) rfl (Or.inl rfl) rfl rfl k_146 dX9_init_105 ?_
  obtain ⟨hX1, c_t2⟩ := inI hX 10 5000
  replace y8 : fI (pI t1 11 10 x 5000) 11 8 x = 0 := (fI_y (by decide)).trans y8
  replace y9 : fI (pI t1 11 10 x 5000) 11 9 x = 30 := (fI_y (by decide)).trans y9
  have y10 : fI (pI t1 11 10 x 5000) 11 10 x = 5000 := fI_pI
  replace hX := hX1
  clear hX1
  generalize pI t1 11 10 x 5000 = t2 at hX c_t2 y10 y8 y9 ⊢
  refine g_aload_n C dX9_init_108 rfl ?_
  refine g_sipush C 5000 dX9_init_109 (by rfl) ?_
  refine g_putI C cls_10 11 11 (by first | exact hX.1 | exact hxk | exact kd_nw hX.1 (by decide) (by assumption)) rfl (Or.inl rfl) rfl rfl k_147 dX9_init_112 ?_
  obtain ⟨hX1, c_t3⟩ := inI hX 11 5000
  replace y8 : fI (pI t2 11 11 x 5000) 11 8 x = 0 := (fI_y (by decide)).trans y8
  replace y9 : fI (pI t2 11 11 x 5000) 11 9 x = 30 := (fI_y (by decide)).trans y9
  replace y10 : fI (pI t2 11 11 x 5000) 11 10 x = 5000 := (fI_y (by decide)).trans y10
  have y11 : fI (pI t2 11 11 x 5000) 11 11 x = 5000 := fI_pI
  replace hX := hX1
  clear hX1
  generalize pI t2 11 11 x 5000 = t3 at hX c_t3 y11 y8 y9 y10 ⊢
  have t_we := ((((((((d_we).tr c_vi).tr c_pr).tr c_fa).tr c_co).tr c_bo).tr c_so).tr c_dr).tr ((c_t0.tr c_t1).tr (c_t2.tr c_t3))
  have t_vi := (((((((d_vi).tr c_pr).tr c_fa).tr c_co).tr c_bo).tr c_so).tr c_dr).tr ((c_t0.tr c_t1).tr (c_t2.tr c_t3))
  have t_pr := ((((((d_pr).tr c_fa).tr c_co).tr c_bo).tr c_so).tr c_dr).tr ((c_t0.tr c_t1).tr (c_t2.tr c_t3))
  have t_fa := (((((d_fa).tr c_co).tr c_bo).tr c_so).tr c_dr).tr ((c_t0.tr c_t1).tr (c_t2.tr c_t3))
  have t_co := ((((d_co).tr c_bo).tr c_so).tr c_dr).tr ((c_t0.tr c_t1).tr (c_t2.tr c_t3))
  have t_bo := (((d_bo).tr c_so).tr c_dr).tr ((c_t0.tr c_t1).tr (c_t2.tr c_t3))
  have t_so := ((d_so).tr c_dr).tr ((c_t0.tr c_t1).tr (c_t2.tr c_t3))
  have t_dr := (d_dr).tr ((c_t0.tr c_t1).tr (c_t2.tr c_t3))
  have s_so := t_so so (by rw [k_so]; decide) n_so
  have hks : kd t3 so = 1020 := s_so.1.trans k_so
  have hls : aL t3 so = 20 := s_so.2.1.trans l_so
  refine g_aload_n C dX9_init_115 rfl ?_
  refine g_getR (b := so) C cls_10 11 6 (by first | exact hX.1 | exact hxk | exact kd_nw hX.1 (by decide) (by assumption)) ((hX.2 6).trans rfl) rfl k_142 dX9_init_116 ?_
  refine g_iconst C (-1) dX9_init_119 (by rfl) ?_
  refine g_callS C mt_J7_fill_53178 [.ref so, .int (-1)] (c_J7_fill_53178 de t3 1020 so 20 (-1) rfl hks hls (by decide)) k_133 rfl rfl (Nat.le_of_ble_eq_true rfl) (by decide) (by decide) (by decide) (by decide) dX9_init_120 (fun r_120 w_120 hp_120 => ?_)
  obtain ⟨rfl, gs, rfl, hgs⟩ := hp_120
  refine g_vret C rfl (by decide) (by decide) dX9_init_123 ?_
  have cF : OldX t3 (stR t3 1020 so gs) so := fun b hb hx => SmA.stR hx
  have eX : SmA t3 (stR t3 1020 so gs) x := SmA.stR n_so.symm
  have hF : ∀ b, kd t3 b ≠ 0 → kd t3 b ≠ 1020 → SmA t3 (stR t3 1020 so gs) b := fun b hb h2 => SmA.stR (fun z => h2 (by rw [z]; exact hks))
  have tF : ∀ {v : Wd} (_ : OldX v t3 x) (b : Nat), kd v b ≠ 0 → b ≠ x → kd v b ≠ 1020 → SmA v (stR t3 1020 so gs) b := fun t b hb hx h2 => (t b hb hx).tr (hF b (by rw [(t b hb hx).1]; exact hb) (by rw [(t b hb hx).1]; exact h2))
  have nsl : sl ≠ x := fun z => by rw [z] at hsl; rw [kd_nw hX0 (by decide) hwe] at hsl; exact absurd hsl (by decide)
  have s_we := tF t_we we (by rw [a1]; decide) n_we (by rw [a1]; decide)
  have s_vi := tF t_vi vi (by rw [b1]; decide) n_vi (by rw [b1]; decide)
  have s_bo := tF t_bo bo (by rw [g1]; decide) n_bo (by rw [g1]; decide)
  have s_dr := tF t_dr dr (by rw [i1]; decide) n_dr (by rw [i1]; decide)
  have s_sl := tF t_we sl (by rw [(a5 (fun j => j)).1]; decide) nsl (by rw [(a5 (fun j => j)).1]; decide)
  have s_ta := tF t_vi ta (by rw [b3]; decide) nta (by rw [b3]; decide)
  have s_dl := tF t_dr dl (by rw [(i5 (fun j => j)).1]; decide) ndl (by rw [(i5 (fun j => j)).1]; decide)
  have L0 : ∀ {v : Wd} {Kl Ke q : Nat} {el : Nat → Nat} (_ : SmA v (stR t3 1020 so gs) q) (_ : ∀ el, RLs v de Kl Ke q 0 el) (_ : fR v Kl 1 q = some de), RLs (stR t3 1020 so gs) de Kl Ke q 0 el := fun {v Kl Ke q el} s h h2 => RLs_0 (s.1.trans (h el).1) ((s.2.2.1 _ _).trans (h el).2.1) ((s.2.2.2.1 _ _).trans h2)
  have rX : ∀ k, fR (stR t3 1020 so gs) 11 k x = _ := fun k => (eX.2.2.2.1 11 k).trans (hX.2 k)
  refine ⟨rfl, (caI we vi ta sl pr fa co bo so dr dl), ⟨⟨eX.1.trans hX.1, (rX 0).trans rfl, (rX 1).trans rfl, (rX 2).trans rfl, (rX 3).trans rfl, (rX 4).trans rfl, (rX 5).trans rfl, (rX 6).trans rfl, (rX 7).trans rfl, (eX.2.2.1 _ _).trans y8, (eX.2.2.1 _ _).trans y9, (eX.2.2.1 _ _).trans y10, (eX.2.2.1 _ _).trans y11⟩,
    ⟨hks, hls, fun j hj => ?_⟩, ⟨⟨s_we.1.trans a1, (s_we.2.2.2.1 _ _).trans a2, L0 s_sl a5 a6, by omega, fun k hk => absurd hk (by omega)⟩, (s_we.2.2.1 _ _).trans a3, fun k hk => absurd hk (by omega)⟩, ⟨s_vi.1.trans b1, (s_vi.2.2.2.1 _ _).trans b2, s_ta.1.trans b3, s_ta.2.1.trans b4⟩,
    ⟨lstF 21 1023 (by decide) e_pr t_pr n_pr hF (by decide), by omega, fun k hk => ?_, fun i j hi hj hij => absurd ((hi.resolve_left (by omega)).trans (hj.resolve_left (by omega)).symm) hij⟩, ⟨lstF 41 1033 (by decide) e_fa t_fa n_fa hF (by decide), fun k hk => absurd hk (by omega)⟩, ⟨lstF 61 1043 (by decide) e_co t_co n_co hF (by decide), fun k hk => absurd hk (by omega)⟩, ?_⟩, ⟨s_bo.1.trans g1, (s_bo.2.2.1 _ _).trans g2, (s_bo.2.2.1 _ _).trans g3, (s_bo.2.2.1 _ _).trans g4, (s_bo.2.2.1 _ _).trans g5⟩, fun b hb hx => ?_⟩
  · rw [show aI (stR t3 1020 so gs) 1020 ((caI we vi ta sl pr fa co bo so dr dl) 9 8) = gs from stR_at, hgs j hj]; rfl
  · have e6 : k = 6 := hk.resolve_left (by omega)
    subst e6
    rw [hpn]
    exact ⟨⟨s_dr.1.trans i1, (s_dr.2.2.2.1 _ _).trans i2, L0 s_dl i5 i6, by omega, fun i hi => absurd hi (by omega)⟩, (s_dr.2.2.1 _ _).trans i4, fun z => absurd rfl z⟩
  · exact ⟨fun i j hi => absurd hi (by omega), fun i j hi hj _ => (hi.resolve_left (by omega)).trans (hj.resolve_left (by omega)).symm, fun i j hi => absurd hi (by omega), fun i j hi => absurd hi (by omega)⟩
  · exact (((((((((c_we.tr c_vi).tr c_pr).tr c_fa).tr c_co).tr c_bo).tr c_so).tr c_dr).tr ((c_t0.tr c_t1).tr (c_t2.tr c_t3))) b hb hx).tr (SmA.stR (fun z => hb (by rw [z]; exact hso0)))
end INIT49
