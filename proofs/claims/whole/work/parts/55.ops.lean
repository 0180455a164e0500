section OPS55
set_option maxHeartbeats 1000000 in
set_option maxRecDepth 100000 in
theorem step_station (de : Nat) {w : Wd} {x mo ou j : Nat} {ad : Nat → Nat} {L : Int32} (hi : IV w de x mo ou ad L j) (hj : j < 512) (xa : Int32) (ya : Int32) : ∃ P : Option Value → Wd → Prop, CtH yL_station cL_station 5 (some .int) [(0, 10, 13, 13), (0, 10, 17, 15)] 8 193 8 1450 de [.ref x, .int xa, .int ya, .ref ou] w P ∧ ∀ r w2, P r w2 → ∃ k : Int32, r = some (.int k) ∧ kd w2 mo = 12 ∧ ∃ P2 : Option Value → Wd → Prop, Ct yX10_station cX10_station 3 (some .int) 1 23 0 0 de [.ref mo, .int xa, .int ya] w2 P2 ∧ ∀ r' w3, P2 r' w3 → ∃ b : Int32, r' = some (.int b) ∧ IV w3 de x mo ou ad k (j + 1) ∧ (k = 0 → aJ w3 2994 ou 0 = b.toInt64) := by
  obtain ⟨hm, ho9, ho2, A, F, g, nS, nP, nF, nC, tl, ho, cf, cp, cs, sb, pn, dn, ch, ca, T, rt, ly, sN, hM, h, hB, hv, ht⟩ := hi
  obtain ⟨h60, h16, h5, hcv, hho⟩ := id hv.hcv
  have hP6 := hv.hP6
  have hT2 := hv.hT2
  have hc := c_X9_station de w x A F nS nP nF nC tl ho cf cp cs sb pn dn ch ca h hB T rt ly sN hv xa ya (show tl < 100000 by omega)
  refine ⟨_, l_station de w x ou xa ya _ _ hc h.1.1 ho9 (fun r w' hp => ?_) (fun E w' hx => ?_), fun r w2 hp => ?_⟩
  · obtain ⟨-, hr, ca1, h1, hB1, hf⟩ := hp
    exact ⟨_, hr, (hf ou (Or.inr (by rw [ho9]; decide))).1.trans ho9, (hf ou (Or.inr (by rw [ho9]; decide))).2.1.trans ho2⟩
  · rcases hx.2 with ⟨e, -⟩ | ⟨e, -⟩
    · exact Or.inl e
    · exact Or.inr (e)
  · rcases hp with ⟨v, w1, ⟨hG, hr, ca1, h1, hB1, hf⟩, rfl, rfl⟩ | ⟨hx, rfl⟩ | ⟨hx, rfl⟩
    · obtain ⟨hm2, hM2, hk2, -⟩ := iv_2 (v := v.toInt64) hm hM ho9 hf
      have hvv := Value.int.inj (Option.some.inj hr)
      obtain ⟨ha, hb⟩ := goV_01 hG
      obtain ⟨a, e_a, l_a, u_a⟩ := inR_ex (a := xa) (lo := 0) (n := 9) (by omega) (by omega) (band ha).1
      obtain ⟨b, e_b, l_b, u_b⟩ := inR_ex (a := ya) (lo := 0) (n := 9) (by omega) (by omega) (band ha).2
      have hn : nS < 5 := nI_lt_of (b := 5) (hv.hS ▸ of_decide_eq_true (band hb).1) (by omega) (by omega)
      have ht0 : tl = 0 := Classical.byContradiction (fun e => by have z := of_decide_eq_true (band hb).2; rw [hv.hra, if_neg e] at z; exact absurd z (by decide))
      have o := o_station de (pAJ w1 2994 ou 0 v.toInt64) mo ad A F L g hm2 xa ya nS hv.hS (by omega)
      rw [hM2] at o
      refine ⟨0, rfl, hm2.1, _, o, fun r' w3 hp3 => ?_⟩
      obtain ⟨rfl, g1, rfl⟩ := hp3.1 hG
      have q9 := iv_ok (v := v.toInt64) (g1 := g1) hm hM ho9 ho2 hf h1 hB1 (pv_station hv hn ht0 e_a e_b (by omega) (by omega)) (show _ ≤ j + 1 by omega)
      exact ⟨_, rfl, q9.1, fun _ => q9.2.trans (by rw [hvv])⟩
    · obtain ⟨rfl, hx⟩ := hx
      have hG := (hx.resolve_right (fun z => by exact absurd z.1 (by decide))).2
      have o := o_station de w mo ad A F L g hm xa ya nS hv.hS (by omega)
      rw [hM] at o
      refine ⟨1, rfl, hm.1, _, o, fun r' w3 hp3 => ?_⟩
      obtain ⟨rfl, rfl⟩ := hp3.2 (by rw [hG]; decide)
      rw [hG]
      exact ⟨_, rfl, iv_err hm ho9 ho2 h hB hv ht _, fun z => absurd z (by decide)⟩
    · obtain ⟨rfl, hx⟩ := hx
      have hG := (hx.resolve_left (fun z => absurd z.1 (by decide))).2
      have o := o_station de w mo ad A F L g hm xa ya nS hv.hS (by omega)
      rw [hM] at o
      refine ⟨2, rfl, hm.1, _, o, fun r' w3 hp3 => ?_⟩
      obtain ⟨rfl, rfl⟩ := hp3.2 (by rw [hG]; decide)
      rw [hG]
      exact ⟨_, rfl, iv_err hm ho9 ho2 h hB hv ht _, fun z => absurd z (by decide)⟩
set_option maxHeartbeats 1000000 in
set_option maxRecDepth 100000 in
theorem step_rain (de : Nat) {w : Wd} {x mo ou j : Nat} {ad : Nat → Nat} {L : Int32} (hi : IV w de x mo ou ad L j) (hj : j < 512) (xs : Int32) (xd : Int32) (tt : Int32) : ∃ P : Option Value → Wd → Prop, CtH yL_rain cL_rain 6 (some .int) [(0, 12, 15, 21), (0, 12, 19, 13)] 8 135 6 40 de [.ref x, .int xs, .int xd, .int tt, .ref ou] w P ∧ ∀ r w2, P r w2 → ∃ k : Int32, r = some (.int k) ∧ kd w2 mo = 12 ∧ ∃ P2 : Option Value → Wd → Prop, Ct yX10_rain cX10_rain 6 (some .int) 2 43 0 0 de [.ref mo, .int xs, .int xd, .int tt] w2 P2 ∧ ∀ r' w3, P2 r' w3 → ∃ b : Int32, r' = some (.int b) ∧ IV w3 de x mo ou ad k (j + 1) ∧ (k = 0 → aJ w3 2994 ou 0 = b.toInt64) := by
  obtain ⟨hm, ho9, ho2, A, F, g, nS, nP, nF, nC, tl, ho, cf, cp, cs, sb, pn, dn, ch, ca, T, rt, ly, sN, hM, h, hB, hv, ht⟩ := hi
  obtain ⟨h60, h16, h5, hcv, hho⟩ := id hv.hcv
  have hP6 := hv.hP6
  have hT2 := hv.hT2
  obtain ⟨s0, hst⟩ := ex_n (a := xs) hv.hS (show nS < 100000 by omega)
  obtain ⟨d, hdd0⟩ := ex_m (a := xd) hv.hT (show T < 100000 by omega)
  have hdd : inR xd 0 (F 0) = true → xd = nI d ∧ d < 1200 := fun z => ⟨(hdd0 z).1, by have := (hdd0 z).2; omega⟩
  have hc := c_X9_rain de w x A F nS nP nF nC tl ho cf cp cs sb pn dn ch ca h hB T rt ly sN hv xs xd tt s0 hst d hdd (show tl < 512 by omega)
  refine ⟨_, l_rain de w x ou xs xd tt _ _ hc h.1.1 ho9 (fun r w' hp => ?_) (fun E w' hx => ?_), fun r w2 hp => ?_⟩
  · obtain ⟨-, hr, h1, hB1, hf⟩ := hp
    exact ⟨_, hr, (hf ou (Or.inr (by rw [ho9]; decide))).1.trans ho9, (hf ou (Or.inr (by rw [ho9]; decide))).2.1.trans ho2⟩
  · rcases hx.2 with ⟨e, -⟩ | ⟨e, -⟩
    · exact Or.inl e
    · exact Or.inr (e)
  · rcases hp with ⟨v, w1, ⟨hG, hr, h1, hB1, hf⟩, rfl, rfl⟩ | ⟨hx, rfl⟩ | ⟨hx, rfl⟩
    · obtain ⟨hm2, hM2, hk2, -⟩ := iv_2 (v := v.toInt64) hm hM ho9 hf
      have hvv := Value.int.inj (Option.some.inj hr)
      obtain ⟨ha, hb⟩ := goV_01 hG
      obtain ⟨t, e_t, l_t, u_t⟩ := inR_ex (a := tt) (lo := 0) (n := 2000) (by omega) (by omega) (band hb).2
      have o := o_rain de (pAJ w1 2994 ou 0 v.toInt64) mo ad A F L g hm2 xs xd tt nS s0 d h5 hst hdd
      rw [hM2] at o
      refine ⟨0, rfl, hm2.1, _, o, fun r' w3 hp3 => ?_⟩
      obtain ⟨rfl, g1, rfl⟩ := hp3.1 hG
      have q9 := iv_ok (v := v.toInt64) (g1 := g1) hm hM ho9 ho2 hf h1 hB1 (pv_rain hv (hst ha).2 (hdd (band hb).1).2 e_t u_t) (show _ ≤ j + 1 by omega)
      exact ⟨_, rfl, q9.1, fun _ => q9.2.trans (by rw [hvv])⟩
    · obtain ⟨rfl, hx⟩ := hx
      have hG := (hx.resolve_right (fun z => by exact absurd z.1 (by decide))).2
      have o := o_rain de w mo ad A F L g hm xs xd tt nS s0 d h5 hst hdd
      rw [hM] at o
      refine ⟨1, rfl, hm.1, _, o, fun r' w3 hp3 => ?_⟩
      obtain ⟨rfl, rfl⟩ := hp3.2 (by rw [hG]; decide)
      rw [hG]
      exact ⟨_, rfl, iv_err hm ho9 ho2 h hB hv ht _, fun z => absurd z (by decide)⟩
    · obtain ⟨rfl, hx⟩ := hx
      have hG := (hx.resolve_left (fun z => absurd z.1 (by decide))).2
      have o := o_rain de w mo ad A F L g hm xs xd tt nS s0 d h5 hst hdd
      rw [hM] at o
      refine ⟨2, rfl, hm.1, _, o, fun r' w3 hp3 => ?_⟩
      obtain ⟨rfl, rfl⟩ := hp3.2 (by rw [hG]; decide)
      rw [hG]
      exact ⟨_, rfl, iv_err hm ho9 ho2 h hB hv ht _, fun z => absurd z (by decide)⟩
set_option maxHeartbeats 1000000 in
set_option maxRecDepth 100000 in
theorem step_pass (de : Nat) {w : Wd} {x mo ou j : Nat} {ad : Nat → Nat} {L : Int32} (hi : IV w de x mo ou ad L j) (hj : j < 512) (dy : Int32) : ∃ P : Option Value → Wd → Prop, CtH yL_pass cL_pass 4 (some .int) [(0, 9, 12, 13), (0, 9, 15, 15)] 7 111 5 30 de [.ref x, .int dy, .ref ou] w P ∧ ∀ r w2, P r w2 → ∃ k : Int32, r = some (.int k) ∧ kd w2 mo = 12 ∧ ∃ P2 : Option Value → Wd → Prop, Ct yX10_pass cX10_pass 3 (some .int) 1 23 0 0 de [.ref mo, .int dy] w2 P2 ∧ ∀ r' w3, P2 r' w3 → ∃ b : Int32, r' = some (.int b) ∧ IV w3 de x mo ou ad k (j + 1) ∧ (k = 0 → aJ w3 2994 ou 0 = b.toInt64) := by
  obtain ⟨hm, ho9, ho2, A, F, g, nS, nP, nF, nC, tl, ho, cf, cp, cs, sb, pn, dn, ch, ca, T, rt, ly, sN, hM, h, hB, hv, ht⟩ := hi
  obtain ⟨h60, h16, h5, hcv, hho⟩ := id hv.hcv
  have hP6 := hv.hP6
  have hT2 := hv.hT2
  have hc := c_X9_pass de w x A F nS nP nF nC tl ho cf cp cs sb pn dn ch ca h hB T rt ly sN hv dy
  refine ⟨_, l_pass de w x ou dy _ _ hc h.1.1 ho9 (fun r w' hp => ?_) (fun E w' hx => ?_), fun r w2 hp => ?_⟩
  · obtain ⟨-, hr, h1, hB1, hf⟩ := hp
    exact ⟨_, hr, (hf ou (Or.inr (by rw [ho9]; decide))).1.trans ho9, (hf ou (Or.inr (by rw [ho9]; decide))).2.1.trans ho2⟩
  · rcases hx.2 with ⟨e, -⟩ | ⟨e, -⟩
    · exact Or.inl e
    · exact Or.inr (e)
  · rcases hp with ⟨v, w1, ⟨hG, hr, h1, hB1, hf⟩, rfl, rfl⟩ | ⟨hx, rfl⟩ | ⟨hx, rfl⟩
    · obtain ⟨hm2, hM2, hk2, -⟩ := iv_2 (v := v.toInt64) hm hM ho9 hf
      have hvv := Value.int.inj (Option.some.inj hr)
      obtain ⟨ha, hb⟩ := goV_01 hG
      obtain ⟨d, e_d, l_d, u_d⟩ := inR_ex (a := dy) (lo := 1) (n := 60) (by omega) (by omega) ha
      have eT : F 0 + dy = nI (T + d) := by rw [hv.hT, e_d, nI_add]
      have hT9 : T + d < 1200 := by
        have z := of_decide_eq_true (band hb).2
        rw [eT] at z
        exact nI_lt_of (b := 1200) z (by omega) (by omega)
      have o := o_pass de (pAJ w1 2994 ou 0 v.toInt64) mo ad A F L g hm2 dy
      rw [hM2] at o
      refine ⟨0, rfl, hm2.1, _, o, fun r' w3 hp3 => ?_⟩
      obtain ⟨rfl, g1, rfl⟩ := hp3.1 hG
      have q9 := iv_ok (v := v.toInt64) (g1 := g1) hm hM ho9 ho2 hf h1 hB1 (pv_pass (d := d) hv eT hT9) (show _ ≤ j + 1 by omega)
      exact ⟨_, rfl, q9.1, fun _ => q9.2.trans (by rw [hvv])⟩
    · obtain ⟨rfl, hx⟩ := hx
      have hG := (hx.resolve_right (fun z => by exact absurd z.1 (by decide))).2
      have o := o_pass de w mo ad A F L g hm dy
      rw [hM] at o
      refine ⟨1, rfl, hm.1, _, o, fun r' w3 hp3 => ?_⟩
      obtain ⟨rfl, rfl⟩ := hp3.2 (by rw [hG]; decide)
      rw [hG]
      exact ⟨_, rfl, iv_err hm ho9 ho2 h hB hv ht _, fun z => absurd z (by decide)⟩
    · obtain ⟨rfl, hx⟩ := hx
      have hG := (hx.resolve_left (fun z => absurd z.1 (by decide))).2
      have o := o_pass de w mo ad A F L g hm dy
      rw [hM] at o
      refine ⟨2, rfl, hm.1, _, o, fun r' w3 hp3 => ?_⟩
      obtain ⟨rfl, rfl⟩ := hp3.2 (by rw [hG]; decide)
      rw [hG]
      exact ⟨_, rfl, iv_err hm ho9 ho2 h hB hv ht _, fun z => absurd z (by decide)⟩
set_option maxHeartbeats 1000000 in
set_option maxRecDepth 100000 in
theorem step_phase (de : Nat) {w : Wd} {x mo ou j : Nat} {ad : Nat → Nat} {L : Int32} (hi : IV w de x mo ou ad L j) (hj : j < 512) (dy : Int32) (dB : Bool) (tr : Int32) (ex : Int32) (wt : Int32) : ∃ P : Option Value → Wd → Prop, CtH yL_phase cL_phase 8 (some .int) [(0, 16, 19, 13), (0, 16, 23, 15)] 8 196 8 1450 de [.ref x, .int dy, .int (bI dB), .int tr, .int ex, .int wt, .ref ou] w P ∧ ∀ r w2, P r w2 → ∃ k : Int32, r = some (.int k) ∧ kd w2 mo = 12 ∧ ∃ P2 : Option Value → Wd → Prop, Ct yX10_phase cX10_phase 8 (some .int) 1 23 0 0 de [.ref mo, .int dy, .int (bI dB), .int tr, .int ex, .int wt] w2 P2 ∧ ∀ r' w3, P2 r' w3 → ∃ b : Int32, r' = some (.int b) ∧ IV w3 de x mo ou ad k (j + 1) ∧ (k = 0 → aJ w3 2994 ou 0 = b.toInt64) := by
  obtain ⟨hm, ho9, ho2, A, F, g, nS, nP, nF, nC, tl, ho, cf, cp, cs, sb, pn, dn, ch, ca, T, rt, ly, sN, hM, h, hB, hv, ht⟩ := hi
  obtain ⟨h60, h16, h5, hcv, hho⟩ := id hv.hcv
  have hP6 := hv.hP6
  have hT2 := hv.hT2
  have hD9 := hv.hdr.1
  have hc := c_X9_phase de w x A F nS nP nF nC tl ho cf cp cs sb pn dn ch ca h hB T rt ly sN hv dy dB tr ex wt hD9
  refine ⟨_, l_phase de w x ou dy (bI dB) tr ex wt _ _ hc h.1.1 ho9 (fun r w' hp => ?_) (fun E w' hx => ?_), fun r w2 hp => ?_⟩
  · obtain ⟨-, hr, ca1, dyN, hdy, hd30, h1, hB1, hf⟩ := hp
    exact ⟨_, hr, (hf ou (Or.inr (by rw [ho9]; decide))).1.trans ho9, (hf ou (Or.inr (by rw [ho9]; decide))).2.1.trans ho2⟩
  · rcases hx.2 with ⟨e, -⟩ | ⟨e, -⟩
    · exact Or.inl e
    · exact Or.inr (e)
  · rcases hp with ⟨v, w1, ⟨hG, hr, ca1, dyN, hdy, hd30, h1, hB1, hf⟩, rfl, rfl⟩ | ⟨hx, rfl⟩ | ⟨hx, rfl⟩
    · obtain ⟨hm2, hM2, hk2, -⟩ := iv_2 (v := v.toInt64) hm hM ho9 hf
      have hvv := Value.int.inj (Option.some.inj hr)
      obtain ⟨ha, hb⟩ := goV_01 hG
      obtain ⟨b, e_b, l_b, u_b⟩ := inR_ex (a := tr) (lo := 0) (n := 9999) (by omega) (by omega) (band (band (band ha).1).2).1
      obtain ⟨q, e_q, l_q, u_q⟩ := inR_ex (a := ex) (lo := 0) (n := 9999) (by omega) (by omega) (band (band (band (band ha).1).2).2).1
      obtain ⟨u, e_u, l_u, u_u⟩ := inR_ex (a := wt) (lo := 1) (n := 100) (by omega) (by omega) (band (band (band (band ha).1).2).2).2
      have hn3 : pn 6 < 3 := nI_lt_of (b := 3) (hv.hD ▸ of_decide_eq_true hb) (by omega) (by omega)
      have hcc : (dB = true ∧ b < q) ∨ (dB = false ∧ q < b) := by
        have z := (band ha).2
        cases dB with
        | true =>
          rw [if_pos rfl, e_b, e_q] at z
          exact Or.inl ⟨rfl, nI_lt_of (of_decide_eq_true z) (by omega) (by omega)⟩
        | false =>
          rw [if_neg (by decide), e_b, e_q] at z
          exact Or.inr ⟨rfl, nI_lt_of (of_decide_eq_true z) (by omega) (by omega)⟩
      subst hdy
      have o := o_phase de (pAJ w1 2994 ou 0 v.toInt64) mo ad A F L g hm2 (nI dyN) dB tr ex wt (pn 6) hv.hD (by omega)
      rw [hM2] at o
      refine ⟨0, rfl, hm2.1, _, o, fun r' w3 hp3 => ?_⟩
      obtain ⟨rfl, g1, rfl⟩ := hp3.1 hG
      have q9 := iv_ok (v := v.toInt64) (g1 := g1) hm hM ho9 ho2 hf h1 hB1 (pv_phase (b := b) (q := q) (u := u) hv hn3 hd30 e_b e_q e_u u_b u_q u_u hcc) (show _ ≤ j + 1 by omega)
      exact ⟨_, rfl, q9.1, fun _ => q9.2.trans (by rw [hvv])⟩
    · obtain ⟨rfl, hx⟩ := hx
      have hG := (hx.resolve_right (fun z => by exact absurd z.1 (by decide))).2
      have o := o_phase de w mo ad A F L g hm dy dB tr ex wt (pn 6) hv.hD (by omega)
      rw [hM] at o
      refine ⟨1, rfl, hm.1, _, o, fun r' w3 hp3 => ?_⟩
      obtain ⟨rfl, rfl⟩ := hp3.2 (by rw [hG]; decide)
      rw [hG]
      exact ⟨_, rfl, iv_err hm ho9 ho2 h hB hv ht _, fun z => absurd z (by decide)⟩
    · obtain ⟨rfl, hx⟩ := hx
      have hG := (hx.resolve_left (fun z => absurd z.1 (by decide))).2
      have o := o_phase de w mo ad A F L g hm dy dB tr ex wt (pn 6) hv.hD (by omega)
      rw [hM] at o
      refine ⟨2, rfl, hm.1, _, o, fun r' w3 hp3 => ?_⟩
      obtain ⟨rfl, rfl⟩ := hp3.2 (by rw [hG]; decide)
      rw [hG]
      exact ⟨_, rfl, iv_err hm ho9 ho2 h hB hv ht _, fun z => absurd z (by decide)⟩
set_option maxHeartbeats 1000000 in
set_option maxRecDepth 100000 in
theorem step_product (de : Nat) {w : Wd} {x mo ou j : Nat} {ad : Nat → Nat} {L : Int32} (hi : IV w de x mo ou ad L j) (hj : j < 512) (kn : Int32) : ∃ P : Option Value → Wd → Prop, CtH yL_product cL_product 4 (some .int) [(0, 9, 12, 13), (0, 9, 15, 15)] 8 192 8 1450 de [.ref x, .int kn, .ref ou] w P ∧ ∀ r w2, P r w2 → ∃ k : Int32, r = some (.int k) ∧ kd w2 mo = 12 ∧ ∃ P2 : Option Value → Wd → Prop, Ct yX10_product cX10_product 3 (some .int) 1 23 0 0 de [.ref mo, .int kn] w2 P2 ∧ ∀ r' w3, P2 r' w3 → ∃ b : Int32, r' = some (.int b) ∧ IV w3 de x mo ou ad k (j + 1) ∧ (k = 0 → aJ w3 2994 ou 0 = b.toInt64) := by
  obtain ⟨hm, ho9, ho2, A, F, g, nS, nP, nF, nC, tl, ho, cf, cp, cs, sb, pn, dn, ch, ca, T, rt, ly, sN, hM, h, hB, hv, ht⟩ := hi
  obtain ⟨h60, h16, h5, hcv, hho⟩ := id hv.hcv
  have hP6 := hv.hP6
  have hT2 := hv.hT2
  have hD9 := hv.hdr.1
  have hc := c_X9_product de w x A F nS nP nF nC tl ho cf cp cs sb pn dn ch ca h hB T rt ly sN hv kn hD9
  refine ⟨_, l_product de w x ou kn _ _ hc h.1.1 ho9 (fun r w' hp => ?_) (fun E w' hx => ?_), fun r w2 hp => ?_⟩
  · obtain ⟨-, hr, ca1, h1, hB1, hf⟩ := hp
    exact ⟨_, hr, (hf ou (Or.inr (by rw [ho9]; decide))).1.trans ho9, (hf ou (Or.inr (by rw [ho9]; decide))).2.1.trans ho2⟩
  · rcases hx.2 with ⟨e, -⟩ | ⟨e, -⟩
    · exact Or.inl e
    · exact Or.inr (e)
  · rcases hp with ⟨v, w1, ⟨hG, hr, ca1, h1, hB1, hf⟩, rfl, rfl⟩ | ⟨hx, rfl⟩ | ⟨hx, rfl⟩
    · obtain ⟨hm2, hM2, hk2, -⟩ := iv_2 (v := v.toInt64) hm hM ho9 hf
      have hvv := Value.int.inj (Option.some.inj hr)
      obtain ⟨ha, hb⟩ := goV_01 hG
      have hn6 : nP < 6 := nI_lt_of (b := 6) (hv.hP ▸ of_decide_eq_true (band hb).2) (by omega) (by omega)
      have o := o_product de (pAJ w1 2994 ou 0 v.toInt64) mo ad A F L g hm2 kn nP hv.hP (by omega)
      rw [hM2] at o
      refine ⟨0, rfl, hm2.1, _, o, fun r' w3 hp3 => ?_⟩
      obtain ⟨rfl, g1, rfl⟩ := hp3.1 hG
      have q9 := iv_ok (v := v.toInt64) (g1 := g1) hm hM ho9 ho2 hf h1 hB1 (pv_product hv hn6) (show _ ≤ j + 1 by omega)
      exact ⟨_, rfl, q9.1, fun _ => q9.2.trans (by rw [hvv])⟩
    · obtain ⟨rfl, hx⟩ := hx
      have hG := (hx.resolve_right (fun z => by exact absurd z.1 (by decide))).2
      have o := o_product de w mo ad A F L g hm kn nP hv.hP (by omega)
      rw [hM] at o
      refine ⟨1, rfl, hm.1, _, o, fun r' w3 hp3 => ?_⟩
      obtain ⟨rfl, rfl⟩ := hp3.2 (by rw [hG]; decide)
      rw [hG]
      exact ⟨_, rfl, iv_err hm ho9 ho2 h hB hv ht _, fun z => absurd z (by decide)⟩
    · obtain ⟨rfl, hx⟩ := hx
      have hG := (hx.resolve_left (fun z => absurd z.1 (by decide))).2
      have o := o_product de w mo ad A F L g hm kn nP hv.hP (by omega)
      rw [hM] at o
      refine ⟨2, rfl, hm.1, _, o, fun r' w3 hp3 => ?_⟩
      obtain ⟨rfl, rfl⟩ := hp3.2 (by rw [hG]; decide)
      rw [hG]
      exact ⟨_, rfl, iv_err hm ho9 ho2 h hB hv ht _, fun z => absurd z (by decide)⟩
set_option maxHeartbeats 1000000 in
set_option maxRecDepth 100000 in
theorem step_farm (de : Nat) {w : Wd} {x mo ou j : Nat} {ad : Nat → Nat} {L : Int32} (hi : IV w de x mo ou ad L j) (hj : j < 512) (xa : Int32) (ya : Int32) : ∃ P : Option Value → Wd → Prop, CtH yL_farm cL_farm 5 (some .int) [(0, 10, 13, 13), (0, 10, 17, 15)] 8 194 8 1450 de [.ref x, .int xa, .int ya, .ref ou] w P ∧ ∀ r w2, P r w2 → ∃ k : Int32, r = some (.int k) ∧ kd w2 mo = 12 ∧ ∃ P2 : Option Value → Wd → Prop, Ct yX10_farm cX10_farm 5 (some .int) 1 23 0 0 de [.ref mo, .int xa, .int ya] w2 P2 ∧ ∀ r' w3, P2 r' w3 → ∃ b : Int32, r' = some (.int b) ∧ IV w3 de x mo ou ad k (j + 1) ∧ (k = 0 → aJ w3 2994 ou 0 = b.toInt64) := by
  obtain ⟨hm, ho9, ho2, A, F, g, nS, nP, nF, nC, tl, ho, cf, cp, cs, sb, pn, dn, ch, ca, T, rt, ly, sN, hM, h, hB, hv, ht⟩ := hi
  obtain ⟨h60, h16, h5, hcv, hho⟩ := id hv.hcv
  have hP6 := hv.hP6
  have hT2 := hv.hT2
  have hc := c_X9_farm de w x A F nS nP nF nC tl ho cf cp cs sb pn dn ch ca h hB T rt ly sN hv xa ya (show tl < 100000 by omega)
  refine ⟨_, l_farm de w x ou xa ya _ _ hc h.1.1 ho9 (fun r w' hp => ?_) (fun E w' hx => ?_), fun r w2 hp => ?_⟩
  · obtain ⟨-, hr, ca1, s1, hnr, h1, hB1, hf⟩ := hp
    exact ⟨_, hr, (hf ou (Or.inr (by rw [ho9]; decide))).1.trans ho9, (hf ou (Or.inr (by rw [ho9]; decide))).2.1.trans ho2⟩
  · rcases hx.2 with ⟨e, -⟩ | ⟨e, -⟩
    · exact Or.inl e
    · exact Or.inr (e)
  · rcases hp with ⟨v, w1, ⟨hG, hr, ca1, s1, hnr, h1, hB1, hf⟩, rfl, rfl⟩ | ⟨hx, rfl⟩ | ⟨hx, rfl⟩
    · obtain ⟨hm2, hM2, hk2, -⟩ := iv_2 (v := v.toInt64) hm hM ho9 hf
      have hvv := Value.int.inj (Option.some.inj hr)
      obtain ⟨ha, hb⟩ := goV_01 hG
      have hn16 : nF < 16 := nI_lt_of (b := 16) (hv.hN ▸ of_decide_eq_true (band hb).1) (by omega) (by omega)
      have o := o_farm de (pAJ w1 2994 ou 0 v.toInt64) mo ad A F L g hm2 xa ya nS nF hv.hS h5 hv.hN (by omega)
      rw [hM2] at o
      refine ⟨0, rfl, hm2.1, _, o, fun r' w3 hp3 => ?_⟩
      obtain ⟨rfl, g1, rfl⟩ := hp3.1 hG
      rw [hnr]
      have q9 := iv_ok (v := v.toInt64) (g1 := g1) hm hM ho9 ho2 hf h1 hB1 (pv_farm hv hn16 (nearS_some hnr)) (show _ ≤ j + 1 by omega)
      exact ⟨_, rfl, q9.1, fun _ => q9.2.trans (by rw [hvv])⟩
    · obtain ⟨rfl, hx⟩ := hx
      have hG := (hx.resolve_right (fun z => by exact absurd z.1 (by decide))).2
      have o := o_farm de w mo ad A F L g hm xa ya nS nF hv.hS h5 hv.hN (by omega)
      rw [hM] at o
      refine ⟨1, rfl, hm.1, _, o, fun r' w3 hp3 => ?_⟩
      obtain ⟨rfl, rfl⟩ := hp3.2 (by rw [hG]; decide)
      rw [hG]
      exact ⟨_, rfl, iv_err hm ho9 ho2 h hB hv ht _, fun z => absurd z (by decide)⟩
    · obtain ⟨rfl, hx⟩ := hx
      have hG := (hx.resolve_left (fun z => absurd z.1 (by decide))).2
      have o := o_farm de w mo ad A F L g hm xa ya nS nF hv.hS h5 hv.hN (by omega)
      rw [hM] at o
      refine ⟨2, rfl, hm.1, _, o, fun r' w3 hp3 => ?_⟩
      obtain ⟨rfl, rfl⟩ := hp3.2 (by rw [hG]; decide)
      rw [hG]
      exact ⟨_, rfl, iv_err hm ho9 ho2 h hB hv ht _, fun z => absurd z (by decide)⟩
set_option maxHeartbeats 1000000 in
set_option maxRecDepth 100000 in
theorem step_lend (de : Nat) {w : Wd} {x mo ou j : Nat} {ad : Nat → Nat} {L : Int32} (hi : IV w de x mo ou ad L j) (hj : j < 512) (xa : Int32) (am : Int32) : ∃ P : Option Value → Wd → Prop, CtH yL_lend cL_lend 5 (some .int) [(0, 10, 13, 21), (0, 10, 17, 13), (0, 10, 21, 15)] 8 134 5 30 de [.ref x, .int xa, .int am, .ref ou] w P ∧ ∀ r w2, P r w2 → ∃ k : Int32, r = some (.int k) ∧ kd w2 mo = 12 ∧ ∃ P2 : Option Value → Wd → Prop, Ct yX10_lend cX10_lend 5 (some .int) 2 43 0 0 de [.ref mo, .int xa, .int am] w2 P2 ∧ ∀ r' w3, P2 r' w3 → ∃ b : Int32, r' = some (.int b) ∧ IV w3 de x mo ou ad k (j + 1) ∧ (k = 0 → aJ w3 2994 ou 0 = b.toInt64) := by
  obtain ⟨hm, ho9, ho2, A, F, g, nS, nP, nF, nC, tl, ho, cf, cp, cs, sb, pn, dn, ch, ca, T, rt, ly, sN, hM, h, hB, hv, ht⟩ := hi
  obtain ⟨h60, h16, h5, hcv, hho⟩ := id hv.hcv
  have hP6 := hv.hP6
  have hT2 := hv.hT2
  obtain ⟨fi, hfi⟩ := ex_n (a := xa) hv.hN (show nF < 100000 by omega)
  have hc := c_X9_lend de w x A F nS nP nF nC tl ho cf cp cs sb pn dn ch ca h hB T rt ly sN hv xa am fi hfi
  refine ⟨_, l_lend de w x ou xa am _ _ hc h.1.1 ho9 (fun r w' hp => ?_) (fun E w' hx => ?_), fun r w2 hp => ?_⟩
  · obtain ⟨-, hr, h1, hB1, hf⟩ := hp
    exact ⟨_, hr, (hf ou (Or.inr (by rw [ho9]; decide))).1.trans ho9, (hf ou (Or.inr (by rw [ho9]; decide))).2.1.trans ho2⟩
  · rcases hx.2 with ⟨e, -⟩ | ⟨e, -⟩ | ⟨e, -⟩
    · exact Or.inl e
    · exact Or.inr (Or.inl e)
    · exact Or.inr (Or.inr (e))
  · rcases hp with ⟨v, w1, ⟨hG, hr, h1, hB1, hf⟩, rfl, rfl⟩ | ⟨hx, rfl⟩ | ⟨hx, rfl⟩ | ⟨hx, rfl⟩
    · obtain ⟨hm2, hM2, hk2, -⟩ := iv_2 (v := v.toInt64) hm hM ho9 hf
      have hvv := Value.int.inj (Option.some.inj hr)
      obtain ⟨ha, hb, hc9⟩ := goV_012 hG
      have o := o_lend de (pAJ w1 2994 ou 0 v.toInt64) mo ad A F L g hm2 xa am nF fi h16 hfi
      rw [hM2] at o
      refine ⟨0, rfl, hm2.1, _, o, fun r' w3 hp3 => ?_⟩
      obtain ⟨rfl, g1, rfl⟩ := hp3.1 hG
      have q9 := iv_ok (v := v.toInt64) (g1 := g1) hm hM ho9 ho2 hf h1 hB1 (pv_lend hv (hfi ha).2) (show _ ≤ j + 1 by omega)
      exact ⟨_, rfl, q9.1, fun _ => q9.2.trans (by rw [hvv])⟩
    · obtain ⟨rfl, hx⟩ := hx
      have hG := (hx.resolve_right (fun z => by rcases z with z | z <;> exact absurd z.1 (by decide))).2
      have o := o_lend de w mo ad A F L g hm xa am nF fi h16 hfi
      rw [hM] at o
      refine ⟨1, rfl, hm.1, _, o, fun r' w3 hp3 => ?_⟩
      obtain ⟨rfl, rfl⟩ := hp3.2 (by rw [hG]; decide)
      rw [hG]
      exact ⟨_, rfl, iv_err hm ho9 ho2 h hB hv ht _, fun z => absurd z (by decide)⟩
    · obtain ⟨rfl, hx⟩ := hx
      have hG := ((hx.resolve_left (fun z => absurd z.1 (by decide))).resolve_right (fun z => by exact absurd z.1 (by decide))).2
      have o := o_lend de w mo ad A F L g hm xa am nF fi h16 hfi
      rw [hM] at o
      refine ⟨2, rfl, hm.1, _, o, fun r' w3 hp3 => ?_⟩
      obtain ⟨rfl, rfl⟩ := hp3.2 (by rw [hG]; decide)
      rw [hG]
      exact ⟨_, rfl, iv_err hm ho9 ho2 h hB hv ht _, fun z => absurd z (by decide)⟩
    · obtain ⟨rfl, hx⟩ := hx
      have hG := ((hx.resolve_left (fun z => absurd z.1 (by decide))).resolve_left (fun z => absurd z.1 (by decide))).2
      have o := o_lend de w mo ad A F L g hm xa am nF fi h16 hfi
      rw [hM] at o
      refine ⟨3, rfl, hm.1, _, o, fun r' w3 hp3 => ?_⟩
      obtain ⟨rfl, rfl⟩ := hp3.2 (by rw [hG]; decide)
      rw [hG]
      exact ⟨_, rfl, iv_err hm ho9 ho2 h hB hv ht _, fun z => absurd z (by decide)⟩
set_option maxHeartbeats 1000000 in
set_option maxRecDepth 100000 in
theorem step_loading (de : Nat) {w : Wd} {x mo ou j : Nat} {ad : Nat → Nat} {L : Int32} (hi : IV w de x mo ou ad L j) (hj : j < 512) (hu : Int32) : ∃ P : Option Value → Wd → Prop, CtH yL_loading cL_loading 4 (some .int) [(0, 9, 12, 13)] 7 112 5 30 de [.ref x, .int hu, .ref ou] w P ∧ ∀ r w2, P r w2 → ∃ k : Int32, r = some (.int k) ∧ kd w2 mo = 12 ∧ ∃ P2 : Option Value → Wd → Prop, Ct yX10_loading cX10_loading 3 (some .int) 1 23 0 0 de [.ref mo, .int hu] w2 P2 ∧ ∀ r' w3, P2 r' w3 → ∃ b : Int32, r' = some (.int b) ∧ IV w3 de x mo ou ad k (j + 1) ∧ (k = 0 → aJ w3 2994 ou 0 = b.toInt64) := by
  obtain ⟨hm, ho9, ho2, A, F, g, nS, nP, nF, nC, tl, ho, cf, cp, cs, sb, pn, dn, ch, ca, T, rt, ly, sN, hM, h, hB, hv, ht⟩ := hi
  obtain ⟨h60, h16, h5, hcv, hho⟩ := id hv.hcv
  have hP6 := hv.hP6
  have hT2 := hv.hT2
  have hc := c_X9_loading de w x A F nS nP nF nC tl ho cf cp cs sb pn dn ch ca h hB T rt ly sN hv hu
  refine ⟨_, l_loading de w x ou hu _ _ hc h.1.1 ho9 (fun r w' hp => ?_) (fun E w' hx => ?_), fun r w2 hp => ?_⟩
  · obtain ⟨-, hr, h1, hB1, hf⟩ := hp
    exact ⟨_, hr, (hf ou (Or.inr (by rw [ho9]; decide))).1.trans ho9, (hf ou (Or.inr (by rw [ho9]; decide))).2.1.trans ho2⟩
  · obtain ⟨e, -⟩ := hx.2
    exact e
  · rcases hp with ⟨v, w1, ⟨hG, hr, h1, hB1, hf⟩, rfl, rfl⟩ | ⟨hx, rfl⟩
    · obtain ⟨hm2, hM2, hk2, -⟩ := iv_2 (v := v.toInt64) hm hM ho9 hf
      have hvv := Value.int.inj (Option.some.inj hr)
      have ha := goV_0 hG
      have o := o_loading de (pAJ w1 2994 ou 0 v.toInt64) mo ad A F L g hm2 hu
      rw [hM2] at o
      refine ⟨0, rfl, hm2.1, _, o, fun r' w3 hp3 => ?_⟩
      obtain ⟨rfl, g1, rfl⟩ := hp3.1 hG
      have q9 := iv_ok (v := v.toInt64) (g1 := g1) hm hM ho9 ho2 hf h1 hB1 (pv_loading hv) (show _ ≤ j + 1 by omega)
      exact ⟨_, rfl, q9.1, fun _ => q9.2.trans (by rw [hvv])⟩
    · obtain ⟨rfl, hx⟩ := hx
      have hG := hx.2
      have o := o_loading de w mo ad A F L g hm hu
      rw [hM] at o
      refine ⟨1, rfl, hm.1, _, o, fun r' w3 hp3 => ?_⟩
      obtain ⟨rfl, rfl⟩ := hp3.2 (by rw [hG]; decide)
      rw [hG]
      exact ⟨_, rfl, iv_err hm ho9 ho2 h hB hv ht _, fun z => absurd z (by decide)⟩
set_option maxHeartbeats 1000000 in
set_option maxRecDepth 100000 in
theorem step_layer (de : Nat) {w : Wd} {x mo ou j : Nat} {ad : Nat → Nat} {L : Int32} (hi : IV w de x mo ou ad L j) (hj : j < 512) (xa : Int32) (ya : Int32) : ∃ P : Option Value → Wd → Prop, CtH yL_layer cL_layer 5 (some .int) [(0, 10, 13, 13)] 7 113 5 30 de [.ref x, .int xa, .int ya, .ref ou] w P ∧ ∀ r w2, P r w2 → ∃ k : Int32, r = some (.int k) ∧ kd w2 mo = 12 ∧ ∃ P2 : Option Value → Wd → Prop, Ct yX10_layer cX10_layer 4 (some .int) 1 23 0 0 de [.ref mo, .int xa, .int ya] w2 P2 ∧ ∀ r' w3, P2 r' w3 → ∃ b : Int32, r' = some (.int b) ∧ IV w3 de x mo ou ad k (j + 1) ∧ (k = 0 → aJ w3 2994 ou 0 = b.toInt64) := by
  obtain ⟨hm, ho9, ho2, A, F, g, nS, nP, nF, nC, tl, ho, cf, cp, cs, sb, pn, dn, ch, ca, T, rt, ly, sN, hM, h, hB, hv, ht⟩ := hi
  obtain ⟨h60, h16, h5, hcv, hho⟩ := id hv.hcv
  have hP6 := hv.hP6
  have hT2 := hv.hT2
  have hc := c_X9_layer de w x A F nS nP nF nC tl ho cf cp cs sb pn dn ch ca h hB T rt ly sN hv xa ya
  refine ⟨_, l_layer de w x ou xa ya _ _ hc h.1.1 ho9 (fun r w' hp => ?_) (fun E w' hx => ?_), fun r w2 hp => ?_⟩
  · obtain ⟨-, hr, h1, hB1, hf⟩ := hp
    exact ⟨_, hr, (hf ou (Or.inr (by rw [ho9]; decide))).1.trans ho9, (hf ou (Or.inr (by rw [ho9]; decide))).2.1.trans ho2⟩
  · obtain ⟨e, -⟩ := hx.2
    exact e
  · rcases hp with ⟨v, w1, ⟨hG, hr, h1, hB1, hf⟩, rfl, rfl⟩ | ⟨hx, rfl⟩
    · obtain ⟨hm2, hM2, hk2, -⟩ := iv_2 (v := v.toInt64) hm hM ho9 hf
      have hvv := Value.int.inj (Option.some.inj hr)
      have ha := goV_0 hG
      obtain ⟨a, e_a, l_a, u_a⟩ := inR_ex (a := xa) (lo := 0) (n := 99999) (by omega) (by omega) (band ha).1
      obtain ⟨b, e_b, l_b, u_b⟩ := inR_ex (a := ya) (lo := 0) (n := 99999) (by omega) (by omega) (band ha).2
      have o := o_layer de (pAJ w1 2994 ou 0 v.toInt64) mo ad A F L g hm2 xa ya
      rw [hM2] at o
      refine ⟨0, rfl, hm2.1, _, o, fun r' w3 hp3 => ?_⟩
      obtain ⟨rfl, g1, rfl⟩ := hp3.1 hG
      have q9 := iv_ok (v := v.toInt64) (g1 := g1) hm hM ho9 ho2 hf h1 hB1 (pv_layer hv e_a e_b u_a u_b) (show _ ≤ j + 1 by omega)
      exact ⟨_, rfl, q9.1, fun _ => q9.2.trans (by rw [hvv])⟩
    · obtain ⟨rfl, hx⟩ := hx
      have hG := hx.2
      have o := o_layer de w mo ad A F L g hm xa ya
      rw [hM] at o
      refine ⟨1, rfl, hm.1, _, o, fun r' w3 hp3 => ?_⟩
      obtain ⟨rfl, rfl⟩ := hp3.2 (by rw [hG]; decide)
      rw [hG]
      exact ⟨_, rfl, iv_err hm ho9 ho2 h hB hv ht _, fun z => absurd z (by decide)⟩
set_option maxHeartbeats 1000000 in
set_option maxRecDepth 100000 in
theorem step_sell (de : Nat) {w : Wd} {x mo ou j : Nat} {ad : Nat → Nat} {L : Int32} (hi : IV w de x mo ou ad L j) (hj : j < 512) (xa : Int32) (xp : Int32) (su : Int32) (xe : Int32) : ∃ P : Option Value → Wd → Prop, CtH yL_sell cL_sell 7 (some .int) [(0, 14, 17, 21), (0, 14, 21, 13), (0, 14, 25, 15)] 8 199 8 1450 de [.ref x, .int xa, .int xp, .int su, .int xe, .ref ou] w P ∧ ∀ r w2, P r w2 → ∃ k : Int32, r = some (.int k) ∧ kd w2 mo = 12 ∧ ∃ P2 : Option Value → Wd → Prop, Ct yX10_sell cX10_sell 11 (some .int) 6 150 0 0 de [.ref mo, .int xa, .int xp, .int su, .int xe] w2 P2 ∧ ∀ r' w3, P2 r' w3 → ∃ b : Int32, r' = some (.int b) ∧ IV w3 de x mo ou ad k (j + 1) ∧ (k = 0 → aJ w3 2994 ou 0 = b.toInt64) := by
  obtain ⟨hm, ho9, ho2, A, F, g, nS, nP, nF, nC, tl, ho, cf, cp, cs, sb, pn, dn, ch, ca, T, rt, ly, sN, hM, h, hB, hv, ht⟩ := hi
  obtain ⟨h60, h16, h5, hcv, hho⟩ := id hv.hcv
  have hP6 := hv.hP6
  have hT2 := hv.hT2
  obtain ⟨fi, hfi⟩ := ex_n (a := xa) hv.hN (show nF < 100000 by omega)
  obtain ⟨pr, hpr⟩ := ex_n (a := xp) hv.hP (show nP < 100000 by omega)
  have hpr2 : inR xp 0 (F 10 - 1) = true → xp = nI pr ∧ pr < 6 ∧ PHA A pr (pn pr) (dn pr) ∧ A 8 pr = nI (pn pr) := fun z => ⟨(hpr z).1, by have := (hpr z).2; omega, (hv.hph pr (hpr z).2).1.A, (hv.hph pr (hpr z).2).2⟩
  obtain ⟨se, hse⟩ := ex_m (a := xe) (b := 19) (n := 19) rfl (by omega)
  have hc := c_X9_sell de w x A F nS nP nF nC tl ho cf cp cs sb pn dn ch ca h hB T rt ly sN hv xa xp su xe fi hfi pr hpr se hse (show tl < 100000 by omega)
  refine ⟨_, l_sell de w x ou xa xp su xe _ _ hc h.1.1 ho9 (fun r w' hp => ?_) (fun E w' hx => ?_), fun r w2 hp => ?_⟩
  · obtain ⟨-, hr, ca1, h1, hB1, hf⟩ := hp
    exact ⟨_, hr, (hf ou (Or.inr (by rw [ho9]; decide))).1.trans ho9, (hf ou (Or.inr (by rw [ho9]; decide))).2.1.trans ho2⟩
  · rcases hx.2 with ⟨e, -⟩ | ⟨e, -⟩ | ⟨e, -⟩
    · exact Or.inl e
    · exact Or.inr (Or.inl e)
    · exact Or.inr (Or.inr (e))
  · rcases hp with ⟨v, w1, ⟨hG, hr, ca1, h1, hB1, hf⟩, rfl, rfl⟩ | ⟨hx, rfl⟩ | ⟨hx, rfl⟩ | ⟨hx, rfl⟩
    · obtain ⟨hm2, hM2, hk2, -⟩ := iv_2 (v := v.toInt64) hm hM ho9 hf
      have hvv := Value.int.inj (Option.some.inj hr)
      obtain ⟨ha, hb, hc9⟩ := goV_012 hG
      obtain ⟨suN, e_suN, l_suN, u_suN⟩ := inR_ex (a := su) (lo := 1) (n := 2000) (by omega) (by omega) hb
      have he5 := (hse (band (band ha).2).2).2
      have hxe := (hse (band (band ha).2).2).1
      have hn60 : nC < 60 := nI_lt_of (b := 60) (hv.hC ▸ of_decide_eq_true (band (band hc9).2).1) (by omega) (by omega)
      have hT9 : T < 60 * se := by
        have z := (inR_iff.mp (band (band (band hc9).2).2).1).2
        rw [if_pos ha, hxe, show (60 : Int32) * nI se = nI (60 * se) from pk_mul 60 se, hv.hT, nI_toInt (by omega), show (nI (60 * se) - 1 : Int32).toInt = ((60 * se : Nat) : Int) - 1 from pk_sub_toInt (b := 1) (by omega) (by omega)] at z
        omega
      have hno : ∀ k, k < nC → ¬ (cf k = fi ∧ cs k = se) := qF_no (oI_m1 (fun d hd => by have := (lastO_some hd).1; omega) (of_decide_eq_true (band (band (band (band hc9).2).2).2).1))
      have o := o_sell de (pAJ w1 2994 ou 0 v.toInt64) mo ad A F L g hm2 xa xp su xe nC nF nS cf cs ho hv.hcv hv.hC fi hfi se hse pr (pn pr) (dn pr) hpr2 hv.hS T hv.hT hv.hT2
      rw [hM2] at o
      refine ⟨0, rfl, hm2.1, _, o, fun r' w3 hp3 => ?_⟩
      obtain ⟨rfl, g1, rfl⟩ := hp3.1 hG
      have q9 := iv_ok (v := v.toInt64) (g1 := g1) hm hM ho9 ho2 hf h1 hB1 (pv_sell (suN := suN) hv hn60 (hfi (band ha).1).2 (hpr (band (band ha).2).1).2 he5 e_suN l_suN u_suN hT9 hno) (show _ ≤ j + 1 by omega)
      exact ⟨_, rfl, q9.1, fun _ => q9.2.trans (by rw [hvv])⟩
    · obtain ⟨rfl, hx⟩ := hx
      have hG := (hx.resolve_right (fun z => by rcases z with z | z <;> exact absurd z.1 (by decide))).2
      have o := o_sell de w mo ad A F L g hm xa xp su xe nC nF nS cf cs ho hv.hcv hv.hC fi hfi se hse pr (pn pr) (dn pr) hpr2 hv.hS T hv.hT hv.hT2
      rw [hM] at o
      refine ⟨1, rfl, hm.1, _, o, fun r' w3 hp3 => ?_⟩
      obtain ⟨rfl, rfl⟩ := hp3.2 (by rw [hG]; decide)
      rw [hG]
      exact ⟨_, rfl, iv_err hm ho9 ho2 h hB hv ht _, fun z => absurd z (by decide)⟩
    · obtain ⟨rfl, hx⟩ := hx
      have hG := ((hx.resolve_left (fun z => absurd z.1 (by decide))).resolve_right (fun z => by exact absurd z.1 (by decide))).2
      have o := o_sell de w mo ad A F L g hm xa xp su xe nC nF nS cf cs ho hv.hcv hv.hC fi hfi se hse pr (pn pr) (dn pr) hpr2 hv.hS T hv.hT hv.hT2
      rw [hM] at o
      refine ⟨2, rfl, hm.1, _, o, fun r' w3 hp3 => ?_⟩
      obtain ⟨rfl, rfl⟩ := hp3.2 (by rw [hG]; decide)
      rw [hG]
      exact ⟨_, rfl, iv_err hm ho9 ho2 h hB hv ht _, fun z => absurd z (by decide)⟩
    · obtain ⟨rfl, hx⟩ := hx
      have hG := ((hx.resolve_left (fun z => absurd z.1 (by decide))).resolve_left (fun z => absurd z.1 (by decide))).2
      have o := o_sell de w mo ad A F L g hm xa xp su xe nC nF nS cf cs ho hv.hcv hv.hC fi hfi se hse pr (pn pr) (dn pr) hpr2 hv.hS T hv.hT hv.hT2
      rw [hM] at o
      refine ⟨3, rfl, hm.1, _, o, fun r' w3 hp3 => ?_⟩
      obtain ⟨rfl, rfl⟩ := hp3.2 (by rw [hG]; decide)
      rw [hG]
      exact ⟨_, rfl, iv_err hm ho9 ho2 h hB hv ht _, fun z => absurd z (by decide)⟩
set_option maxHeartbeats 1000000 in
set_option maxRecDepth 100000 in
theorem step_settle (de : Nat) {w : Wd} {x mo ou j : Nat} {ad : Nat → Nat} {L : Int32} (hi : IV w de x mo ou ad L j) (hj : j < 512) (xe : Int32) : ∃ P : Option Value → Wd → Prop, CtH yL_settle cL_settle 4 (some .int) [(0, 9, 12, 21), (0, 9, 15, 15)] 8 189 5 30 de [.ref x, .int xe, .ref ou] w P ∧ ∀ r w2, P r w2 → ∃ k : Int32, r = some (.int k) ∧ kd w2 mo = 12 ∧ ∃ P2 : Option Value → Wd → Prop, Ct yX10_settle cX10_settle 12 (some .int) 5 125 0 0 de [.ref mo, .int xe] w2 P2 ∧ ∀ r' w3, P2 r' w3 → ∃ b : Int32, r' = some (.int b) ∧ IV w3 de x mo ou ad k (j + 1) ∧ (k = 0 → aJ w3 2994 ou 0 = b.toInt64) := by
  obtain ⟨hm, ho9, ho2, A, F, g, nS, nP, nF, nC, tl, ho, cf, cp, cs, sb, pn, dn, ch, ca, T, rt, ly, sN, hM, h, hB, hv, ht⟩ := hi
  obtain ⟨h60, h16, h5, hcv, hho⟩ := id hv.hcv
  have hP6 := hv.hP6
  have hT2 := hv.hT2
  obtain ⟨se, hse⟩ := ex_m (a := xe) (b := 19) (n := 19) rfl (by omega)
  obtain ⟨rN, hrN⟩ : ∃ rN : Nat → Nat, ∀ k, k < nC → (se < 20 → ratC A nS ch (cp k) (pn (cp k)) (dn (cp k)) tl (ho (cf k)) se = nI (rN k)) ∧ rN k ≤ 1000 := by
    refine ⟨fun k => (ratC A nS ch (cp k) (pn (cp k)) (dn (cp k)) tl (ho (cf k)) se).toInt.toNat, fun k hk => ?_⟩
    obtain ⟨t, ht9, e⟩ := ratC_b (A := A) (nS := nS) (tl := tl) (se := se) (s0 := ho (cf k)) (hv.hph (cp k) (hv.hco k hk).2.1).1 hv.hcb
    dsimp only
    rw [e, nI_toInt (by omega)]
    exact ⟨fun _ => by rw [Int.toNat_natCast], by rw [Int.toNat_natCast]; exact ht9⟩
  have hPA : ∀ q, q < nP → PHA A q (pn q) (dn q) ∧ A 8 q = nI (pn q) := fun q hq => ⟨(hv.hph q hq).1.A, (hv.hph q hq).2⟩
  have hK : ∀ k, k < nC → A 23 (10 * k + 1) = nI (cp k) ∧ cp k < nP ∧ A 23 (10 * k + 2) = nI (sN k) ∧ sN k ≤ 2000 ∧ (se < 20 → ratA A nS (cp k) (pn (cp k)) (dn (cp k)) (ho (cf k)) se = nI (rN k)) ∧ rN k ≤ 1000 := fun k hk => ⟨(hv.hco k hk).1, (hv.hco k hk).2.1, (hv.hco k hk).2.2.1, (hv.hco k hk).2.2.2.2, fun z => (rat_e hv.hca hv.hxy h5 z (hho (cf k) (hcv k hk).2.1).2).trans ((hrN k hk).1 z), (hrN k hk).2⟩
  have hc := c_X9_settle de w x A F nS nP nF nC tl ho cf cp cs sb pn dn ch ca h hB T rt ly sN hv xe se hse rN hrN (show tl < 100000 by omega)
  refine ⟨_, l_settle de w x ou xe _ _ hc h.1.1 ho9 (fun r w' hp => ?_) (fun E w' hx => ?_), fun r w2 hp => ?_⟩
  · obtain ⟨-, hr, sb1, h1, hB1, hf, hsb⟩ := hp
    exact ⟨_, hr, (hf ou (Or.inr (by rw [ho9]; decide))).1.trans ho9, (hf ou (Or.inr (by rw [ho9]; decide))).2.1.trans ho2⟩
  · rcases hx.2 with ⟨e, -⟩ | ⟨e, -⟩
    · exact Or.inl e
    · exact Or.inr (e)
  · rcases hp with ⟨v, w1, ⟨hG, hr, sb1, h1, hB1, hf, hsb⟩, rfl, rfl⟩ | ⟨hx, rfl⟩ | ⟨hx, rfl⟩
    · obtain ⟨hm2, hM2, hk2, -⟩ := iv_2 (v := v.toInt64) hm hM ho9 hf
      have hvv := Value.int.inj (Option.some.inj hr)
      obtain ⟨ha, hb⟩ := goV_01 hG
      have o := o_settle de (pAJ w1 2994 ou 0 v.toInt64) mo ad A F L g hm2 xe nC nF nS cf cs ho hv.hcv hv.hC se hse hv.hS T hv.hT hv.hT2 nP hv.hP6 cp pn dn hPA sN rN hK rt ly hv.hrt hv.hly hv.hr9 hv.hl9
      rw [hM2] at o
      refine ⟨0, rfl, hm2.1, _, o, fun r' w3 hp3 => ?_⟩
      obtain ⟨rfl, g1, rfl⟩ := hp3.1 hG
      have q9 := iv_ok (v := v.toInt64) (g1 := g1) hm hM ho9 ho2 hf h1 hB1 (pv_settle hv (hse ha).2 (of_decide_eq_true (band (band hb).2).1) hrN hsb) (show _ ≤ j + 1 by omega)
      exact ⟨_, rfl, q9.1, fun _ => q9.2.trans (by rw [hvv])⟩
    · obtain ⟨rfl, hx⟩ := hx
      have hG := (hx.resolve_right (fun z => by exact absurd z.1 (by decide))).2
      have o := o_settle de w mo ad A F L g hm xe nC nF nS cf cs ho hv.hcv hv.hC se hse hv.hS T hv.hT hv.hT2 nP hv.hP6 cp pn dn hPA sN rN hK rt ly hv.hrt hv.hly hv.hr9 hv.hl9
      rw [hM] at o
      refine ⟨1, rfl, hm.1, _, o, fun r' w3 hp3 => ?_⟩
      obtain ⟨rfl, rfl⟩ := hp3.2 (by rw [hG]; decide)
      rw [hG]
      exact ⟨_, rfl, iv_err hm ho9 ho2 h hB hv ht _, fun z => absurd z (by decide)⟩
    · obtain ⟨rfl, hx⟩ := hx
      have hG := (hx.resolve_left (fun z => absurd z.1 (by decide))).2
      have o := o_settle de w mo ad A F L g hm xe nC nF nS cf cs ho hv.hcv hv.hC se hse hv.hS T hv.hT hv.hT2 nP hv.hP6 cp pn dn hPA sN rN hK rt ly hv.hrt hv.hly hv.hr9 hv.hl9
      rw [hM] at o
      refine ⟨2, rfl, hm.1, _, o, fun r' w3 hp3 => ?_⟩
      obtain ⟨rfl, rfl⟩ := hp3.2 (by rw [hG]; decide)
      rw [hG]
      exact ⟨_, rfl, iv_err hm ho9 ho2 h hB hv ht _, fun z => absurd z (by decide)⟩
set_option maxHeartbeats 1000000 in
set_option maxRecDepth 100000 in
theorem step_loss (de : Nat) {w : Wd} {x mo ou j : Nat} {ad : Nat → Nat} {L : Int32} (hi : IV w de x mo ou ad L j) (hj : j < 512) (xa : Int32) (xs : Int32) (hu : Int32) : ∃ P : Option Value → Wd → Prop, CtH yL_loss cL_loss 6 (some .int) [(0, 12, 15, 21), (0, 12, 19, 13), (0, 12, 23, 15)] 8 136 5 30 de [.ref x, .int xa, .int xs, .int hu, .ref ou] w P ∧ ∀ r w2, P r w2 → ∃ k : Int32, r = some (.int k) ∧ kd w2 mo = 12 ∧ ∃ P2 : Option Value → Wd → Prop, Ct yX10_loss cX10_loss 6 (some .int) 2 43 0 0 de [.ref mo, .int xa, .int xs, .int hu] w2 P2 ∧ ∀ r' w3, P2 r' w3 → ∃ b : Int32, r' = some (.int b) ∧ IV w3 de x mo ou ad k (j + 1) ∧ (k = 0 → aJ w3 2994 ou 0 = b.toInt64) := by
  obtain ⟨hm, ho9, ho2, A, F, g, nS, nP, nF, nC, tl, ho, cf, cp, cs, sb, pn, dn, ch, ca, T, rt, ly, sN, hM, h, hB, hv, ht⟩ := hi
  obtain ⟨h60, h16, h5, hcv, hho⟩ := id hv.hcv
  have hP6 := hv.hP6
  have hT2 := hv.hT2
  obtain ⟨fi, hfi⟩ := ex_n (a := xa) hv.hN (show nF < 100000 by omega)
  obtain ⟨se, hse⟩ := ex_m (a := xs) (b := 19) (n := 19) rfl (by omega)
  have hc := c_X9_loss de w x A F nS nP nF nC tl ho cf cp cs sb pn dn ch ca h hB T rt ly sN hv xa xs hu fi hfi se hse
  refine ⟨_, l_loss de w x ou xa xs hu _ _ hc h.1.1 ho9 (fun r w' hp => ?_) (fun E w' hx => ?_), fun r w2 hp => ?_⟩
  · obtain ⟨-, hr, h1, hB1, hf⟩ := hp
    exact ⟨_, hr, (hf ou (Or.inr (by rw [ho9]; decide))).1.trans ho9, (hf ou (Or.inr (by rw [ho9]; decide))).2.1.trans ho2⟩
  · rcases hx.2 with ⟨e, -⟩ | ⟨e, -⟩ | ⟨e, -⟩
    · exact Or.inl e
    · exact Or.inr (Or.inl e)
    · exact Or.inr (Or.inr (e))
  · rcases hp with ⟨v, w1, ⟨hG, hr, h1, hB1, hf⟩, rfl, rfl⟩ | ⟨hx, rfl⟩ | ⟨hx, rfl⟩ | ⟨hx, rfl⟩
    · obtain ⟨hm2, hM2, hk2, -⟩ := iv_2 (v := v.toInt64) hm hM ho9 hf
      have hvv := Value.int.inj (Option.some.inj hr)
      obtain ⟨ha, hb, hc9⟩ := goV_012 hG
      obtain ⟨t, e_t, l_t, u_t⟩ := inR_ex (a := hu) (lo := 0) (n := 100) (by omega) (by omega) hb
      have o := o_loss de (pAJ w1 2994 ou 0 v.toInt64) mo ad A F L g hm2 xa xs hu nF fi h16 hfi se hse
      rw [hM2] at o
      refine ⟨0, rfl, hm2.1, _, o, fun r' w3 hp3 => ?_⟩
      obtain ⟨rfl, g1, rfl⟩ := hp3.1 hG
      have q9 := iv_ok (v := v.toInt64) (g1 := g1) hm hM ho9 ho2 hf h1 hB1 (pv_loss hv (hfi (band ha).1).2 (hse (band ha).2).2 e_t u_t) (show _ ≤ j + 1 by omega)
      exact ⟨_, rfl, q9.1, fun _ => q9.2.trans (by rw [hvv])⟩
    · obtain ⟨rfl, hx⟩ := hx
      have hG := (hx.resolve_right (fun z => by rcases z with z | z <;> exact absurd z.1 (by decide))).2
      have o := o_loss de w mo ad A F L g hm xa xs hu nF fi h16 hfi se hse
      rw [hM] at o
      refine ⟨1, rfl, hm.1, _, o, fun r' w3 hp3 => ?_⟩
      obtain ⟨rfl, rfl⟩ := hp3.2 (by rw [hG]; decide)
      rw [hG]
      exact ⟨_, rfl, iv_err hm ho9 ho2 h hB hv ht _, fun z => absurd z (by decide)⟩
    · obtain ⟨rfl, hx⟩ := hx
      have hG := ((hx.resolve_left (fun z => absurd z.1 (by decide))).resolve_right (fun z => by exact absurd z.1 (by decide))).2
      have o := o_loss de w mo ad A F L g hm xa xs hu nF fi h16 hfi se hse
      rw [hM] at o
      refine ⟨2, rfl, hm.1, _, o, fun r' w3 hp3 => ?_⟩
      obtain ⟨rfl, rfl⟩ := hp3.2 (by rw [hG]; decide)
      rw [hG]
      exact ⟨_, rfl, iv_err hm ho9 ho2 h hB hv ht _, fun z => absurd z (by decide)⟩
    · obtain ⟨rfl, hx⟩ := hx
      have hG := ((hx.resolve_left (fun z => absurd z.1 (by decide))).resolve_left (fun z => absurd z.1 (by decide))).2
      have o := o_loss de w mo ad A F L g hm xa xs hu nF fi h16 hfi se hse
      rw [hM] at o
      refine ⟨3, rfl, hm.1, _, o, fun r' w3 hp3 => ?_⟩
      obtain ⟨rfl, rfl⟩ := hp3.2 (by rw [hG]; decide)
      rw [hG]
      exact ⟨_, rfl, iv_err hm ho9 ho2 h hB hv ht _, fun z => absurd z (by decide)⟩
set_option maxHeartbeats 1000000 in
set_option maxRecDepth 100000 in
theorem step_complain (de : Nat) {w : Wd} {x mo ou j : Nat} {ad : Nat → Nat} {L : Int32} (hi : IV w de x mo ou ad L j) (hj : j < 512) (xa : Int32) (xe : Int32) : ∃ P : Option Value → Wd → Prop, CtH yL_complain cL_complain 5 (some .int) [(0, 10, 13, 21), (0, 10, 17, 15)] 8 140 5 30 de [.ref x, .int xa, .int xe, .ref ou] w P ∧ ∀ r w2, P r w2 → ∃ k : Int32, r = some (.int k) ∧ kd w2 mo = 12 ∧ ∃ P2 : Option Value → Wd → Prop, Ct yX10_complain cX10_complain 5 (some .int) 2 53 0 0 de [.ref mo, .int xa, .int xe] w2 P2 ∧ ∀ r' w3, P2 r' w3 → ∃ b : Int32, r' = some (.int b) ∧ IV w3 de x mo ou ad k (j + 1) ∧ (k = 0 → aJ w3 2994 ou 0 = b.toInt64) := by
  obtain ⟨hm, ho9, ho2, A, F, g, nS, nP, nF, nC, tl, ho, cf, cp, cs, sb, pn, dn, ch, ca, T, rt, ly, sN, hM, h, hB, hv, ht⟩ := hi
  obtain ⟨h60, h16, h5, hcv, hho⟩ := id hv.hcv
  have hP6 := hv.hP6
  have hT2 := hv.hT2
  obtain ⟨fi, hfi⟩ := ex_n (a := xa) hv.hN (show nF < 100000 by omega)
  obtain ⟨se, hse⟩ := ex_m (a := xe) (b := 19) (n := 19) rfl (by omega)
  have hc := c_X9_complain de w x A F nS nP nF nC tl ho cf cp cs sb pn dn ch ca h hB T rt ly sN hv xa xe fi hfi se hse
  refine ⟨_, l_complain de w x ou xa xe _ _ hc h.1.1 ho9 (fun r w' hp => ?_) (fun E w' hx => ?_), fun r w2 hp => ?_⟩
  · obtain ⟨-, hr, h1, hB1, hf⟩ := hp
    exact ⟨_, hr, (hf ou (Or.inr (by rw [ho9]; decide))).1.trans ho9, (hf ou (Or.inr (by rw [ho9]; decide))).2.1.trans ho2⟩
  · rcases hx.2 with ⟨e, -⟩ | ⟨e, -⟩
    · exact Or.inl e
    · exact Or.inr (e)
  · rcases hp with ⟨v, w1, ⟨hG, hr, h1, hB1, hf⟩, rfl, rfl⟩ | ⟨hx, rfl⟩ | ⟨hx, rfl⟩
    · obtain ⟨hm2, hM2, hk2, -⟩ := iv_2 (v := v.toInt64) hm hM ho9 hf
      have hvv := Value.int.inj (Option.some.inj hr)
      obtain ⟨ha, hb⟩ := goV_01 hG
      have he5 := (hse (band ha).2).2
      have hs0 : ¬ A 25 se = 0 := (neT (hv.hse se he5)).2.mp (of_decide_eq_true (band (band hb).2).1)
      have hlo := (band (band (band (band hb).2).2).2).1
      obtain ⟨k9, hk9, hkf, hks⟩ : ∃ k9, k9 < nC ∧ cf k9 = fi ∧ cs k9 = se := by
        cases hl : lastO (qF cf cs fi se) nC with
        | none => rw [hl] at hlo; exact absurd hlo (by decide)
        | some k9 => exact ⟨k9, (lastO_some hl).1, qF_spec.mp (lastO_some hl).2⟩
      have o := o_complain de (pAJ w1 2994 ou 0 v.toInt64) mo ad A F L g hm2 xa xe nC nF nS cf cs ho hv.hcv hv.hC fi hfi se hse
      rw [hM2] at o
      refine ⟨0, rfl, hm2.1, _, o, fun r' w3 hp3 => ?_⟩
      obtain ⟨rfl, g1, rfl⟩ := hp3.1 hG
      have q9 := iv_ok (v := v.toInt64) (g1 := g1) hm hM ho9 ho2 hf h1 hB1 (pv_complain hv (hfi (band ha).1).2 (hse (band ha).2).2 hs0 hk9 hkf hks) (show _ ≤ j + 1 by omega)
      exact ⟨_, rfl, q9.1, fun _ => q9.2.trans (by rw [hvv])⟩
    · obtain ⟨rfl, hx⟩ := hx
      have hG := (hx.resolve_right (fun z => by exact absurd z.1 (by decide))).2
      have o := o_complain de w mo ad A F L g hm xa xe nC nF nS cf cs ho hv.hcv hv.hC fi hfi se hse
      rw [hM] at o
      refine ⟨1, rfl, hm.1, _, o, fun r' w3 hp3 => ?_⟩
      obtain ⟨rfl, rfl⟩ := hp3.2 (by rw [hG]; decide)
      rw [hG]
      exact ⟨_, rfl, iv_err hm ho9 ho2 h hB hv ht _, fun z => absurd z (by decide)⟩
    · obtain ⟨rfl, hx⟩ := hx
      have hG := (hx.resolve_left (fun z => absurd z.1 (by decide))).2
      have o := o_complain de w mo ad A F L g hm xa xe nC nF nS cf cs ho hv.hcv hv.hC fi hfi se hse
      rw [hM] at o
      refine ⟨2, rfl, hm.1, _, o, fun r' w3 hp3 => ?_⟩
      obtain ⟨rfl, rfl⟩ := hp3.2 (by rw [hG]; decide)
      rw [hG]
      exact ⟨_, rfl, iv_err hm ho9 ho2 h hB hv ht _, fun z => absurd z (by decide)⟩
set_option maxHeartbeats 1000000 in
set_option maxRecDepth 100000 in
theorem step_filled (de : Nat) {w : Wd} {x mo ou j : Nat} {ad : Nat → Nat} {L : Int32} (hi : IV w de x mo ou ad L j) (hj : j < 512) (xs : Int32) (xd : Int32) (kn : Int32) : ∃ P : Option Value → Wd → Prop, CtH yL_filled cL_filled 6 (some .int) [(0, 12, 15, 21), (0, 12, 19, 13)] 8 135 5 30 de [.ref x, .int xs, .int xd, .int kn, .ref ou] w P ∧ ∀ r w2, P r w2 → ∃ k : Int32, r = some (.int k) ∧ kd w2 mo = 12 ∧ ∃ P2 : Option Value → Wd → Prop, Ct yX10_filled cX10_filled 5 (some .int) 2 50 0 0 de [.ref mo, .int xs, .int xd, .int kn] w2 P2 ∧ ∀ r' w3, P2 r' w3 → ∃ b : Int32, r' = some (.int b) ∧ IV w3 de x mo ou ad k (j + 1) ∧ (k = 0 → aJ w3 2994 ou 0 = b.toInt64) := by
  obtain ⟨hm, ho9, ho2, A, F, g, nS, nP, nF, nC, tl, ho, cf, cp, cs, sb, pn, dn, ch, ca, T, rt, ly, sN, hM, h, hB, hv, ht⟩ := hi
  obtain ⟨h60, h16, h5, hcv, hho⟩ := id hv.hcv
  have hP6 := hv.hP6
  have hT2 := hv.hT2
  obtain ⟨s0, hst⟩ := ex_n (a := xs) hv.hS (show nS < 100000 by omega)
  obtain ⟨d, hdd⟩ := ex_m (a := xd) (b := 1199) (n := 1199) rfl (by omega)
  have hc := c_X9_filled de w x A F nS nP nF nC tl ho cf cp cs sb pn dn ch ca h hB T rt ly sN hv xs xd kn s0 hst d hdd (show tl < 100000 by omega)
  refine ⟨_, l_filled de w x ou xs xd kn _ _ hc h.1.1 ho9 (fun r w' hp => ?_) (fun E w' hx => ?_), fun r w2 hp => ?_⟩
  · obtain ⟨-, hr, h1, hB1, hf⟩ := hp
    exact ⟨_, hr, (hf ou (Or.inr (by rw [ho9]; decide))).1.trans ho9, (hf ou (Or.inr (by rw [ho9]; decide))).2.1.trans ho2⟩
  · rcases hx.2 with ⟨e, -⟩ | ⟨e, -⟩
    · exact Or.inl e
    · exact Or.inr (e)
  · rcases hp with ⟨v, w1, ⟨hG, hr, h1, hB1, hf⟩, rfl, rfl⟩ | ⟨hx, rfl⟩ | ⟨hx, rfl⟩
    · obtain ⟨hm2, hM2, hk2, -⟩ := iv_2 (v := v.toInt64) hm hM ho9 hf
      have hvv := Value.int.inj (Option.some.inj hr)
      have o := o_filled de (pAJ w1 2994 ou 0 v.toInt64) mo ad A F L g hm2 xs xd kn nS s0 hv.hS h5 hst d hdd
      rw [hM2] at o
      refine ⟨0, rfl, hm2.1, _, o, fun r' w3 hp3 => ?_⟩
      obtain ⟨rfl, g1, rfl⟩ := hp3.1 hG
      have q9 := iv_ok (v := v.toInt64) (g1 := g1) hm hM ho9 ho2 hf h1 hB1 (hv) (show _ ≤ j + 1 by omega)
      exact ⟨_, rfl, q9.1, fun _ => q9.2.trans (by rw [hvv])⟩
    · obtain ⟨rfl, hx⟩ := hx
      have hG := (hx.resolve_right (fun z => by exact absurd z.1 (by decide))).2
      have o := o_filled de w mo ad A F L g hm xs xd kn nS s0 hv.hS h5 hst d hdd
      rw [hM] at o
      refine ⟨1, rfl, hm.1, _, o, fun r' w3 hp3 => ?_⟩
      obtain ⟨rfl, rfl⟩ := hp3.2 (by rw [hG]; decide)
      rw [hG]
      exact ⟨_, rfl, iv_err hm ho9 ho2 h hB hv ht _, fun z => absurd z (by decide)⟩
    · obtain ⟨rfl, hx⟩ := hx
      have hG := (hx.resolve_left (fun z => absurd z.1 (by decide))).2
      have o := o_filled de w mo ad A F L g hm xs xd kn nS s0 hv.hS h5 hst d hdd
      rw [hM] at o
      refine ⟨2, rfl, hm.1, _, o, fun r' w3 hp3 => ?_⟩
      obtain ⟨rfl, rfl⟩ := hp3.2 (by rw [hG]; decide)
      rw [hG]
      exact ⟨_, rfl, iv_err hm ho9 ho2 h hB hv ht _, fun z => absurd z (by decide)⟩
set_option maxHeartbeats 1000000 in
set_option maxRecDepth 100000 in
theorem step_onset (de : Nat) {w : Wd} {x mo ou j : Nat} {ad : Nat → Nat} {L : Int32} (hi : IV w de x mo ou ad L j) (hj : j < 512) (xs : Int32) (xe : Int32) (kn : Int32) : ∃ P : Option Value → Wd → Prop, CtH yL_onset cL_onset 6 (some .int) [(0, 12, 15, 21), (0, 12, 19, 13)] 8 144 5 30 de [.ref x, .int xs, .int xe, .int kn, .ref ou] w P ∧ ∀ r w2, P r w2 → ∃ k : Int32, r = some (.int k) ∧ kd w2 mo = 12 ∧ ∃ P2 : Option Value → Wd → Prop, Ct yX10_onset cX10_onset 4 (some .int) 3 74 0 0 de [.ref mo, .int xs, .int xe, .int kn] w2 P2 ∧ ∀ r' w3, P2 r' w3 → ∃ b : Int32, r' = some (.int b) ∧ IV w3 de x mo ou ad k (j + 1) ∧ (k = 0 → aJ w3 2994 ou 0 = b.toInt64) := by
  obtain ⟨hm, ho9, ho2, A, F, g, nS, nP, nF, nC, tl, ho, cf, cp, cs, sb, pn, dn, ch, ca, T, rt, ly, sN, hM, h, hB, hv, ht⟩ := hi
  obtain ⟨h60, h16, h5, hcv, hho⟩ := id hv.hcv
  have hP6 := hv.hP6
  have hT2 := hv.hT2
  obtain ⟨s0, hst⟩ := ex_n (a := xs) hv.hS (show nS < 100000 by omega)
  obtain ⟨se, hse⟩ := ex_m (a := xe) (b := 19) (n := 19) rfl (by omega)
  have hc := c_X9_onset de w x A F nS nP nF nC tl ho cf cp cs sb pn dn ch ca h hB T rt ly sN hv xs xe kn s0 hst se hse (show tl < 100000 by omega)
  refine ⟨_, l_onset de w x ou xs xe kn _ _ hc h.1.1 ho9 (fun r w' hp => ?_) (fun E w' hx => ?_), fun r w2 hp => ?_⟩
  · obtain ⟨-, hr, h1, hB1, hf⟩ := hp
    exact ⟨_, hr, (hf ou (Or.inr (by rw [ho9]; decide))).1.trans ho9, (hf ou (Or.inr (by rw [ho9]; decide))).2.1.trans ho2⟩
  · rcases hx.2 with ⟨e, -⟩ | ⟨e, -⟩
    · exact Or.inl e
    · exact Or.inr (e)
  · rcases hp with ⟨v, w1, ⟨hG, hr, h1, hB1, hf⟩, rfl, rfl⟩ | ⟨hx, rfl⟩ | ⟨hx, rfl⟩
    · obtain ⟨hm2, hM2, hk2, -⟩ := iv_2 (v := v.toInt64) hm hM ho9 hf
      have hvv := Value.int.inj (Option.some.inj hr)
      have o := o_onset de (pAJ w1 2994 ou 0 v.toInt64) mo ad A F L g hm2 xs xe kn nS s0 hv.hS h5 hst se hse
      rw [hM2] at o
      refine ⟨0, rfl, hm2.1, _, o, fun r' w3 hp3 => ?_⟩
      obtain ⟨rfl, g1, rfl⟩ := hp3.1 hG
      have q9 := iv_ok (v := v.toInt64) (g1 := g1) hm hM ho9 ho2 hf h1 hB1 (hv) (show _ ≤ j + 1 by omega)
      exact ⟨_, rfl, q9.1, fun _ => q9.2.trans (by rw [hvv])⟩
    · obtain ⟨rfl, hx⟩ := hx
      have hG := (hx.resolve_right (fun z => by exact absurd z.1 (by decide))).2
      have o := o_onset de w mo ad A F L g hm xs xe kn nS s0 hv.hS h5 hst se hse
      rw [hM] at o
      refine ⟨1, rfl, hm.1, _, o, fun r' w3 hp3 => ?_⟩
      obtain ⟨rfl, rfl⟩ := hp3.2 (by rw [hG]; decide)
      rw [hG]
      exact ⟨_, rfl, iv_err hm ho9 ho2 h hB hv ht _, fun z => absurd z (by decide)⟩
    · obtain ⟨rfl, hx⟩ := hx
      have hG := (hx.resolve_left (fun z => absurd z.1 (by decide))).2
      have o := o_onset de w mo ad A F L g hm xs xe kn nS s0 hv.hS h5 hst se hse
      rw [hM] at o
      refine ⟨2, rfl, hm.1, _, o, fun r' w3 hp3 => ?_⟩
      obtain ⟨rfl, rfl⟩ := hp3.2 (by rw [hG]; decide)
      rw [hG]
      exact ⟨_, rfl, iv_err hm ho9 ho2 h hB hv ht _, fun z => absurd z (by decide)⟩
set_option maxHeartbeats 1000000 in
set_option maxRecDepth 100000 in
theorem step_index (de : Nat) {w : Wd} {x mo ou j : Nat} {ad : Nat → Nat} {L : Int32} (hi : IV w de x mo ou ad L j) (hj : j < 512) (xs : Int32) (xe : Int32) (xp : Int32) (xh : Int32) : ∃ P : Option Value → Wd → Prop, CtH yL_index cL_index 7 (some .int) [(0, 14, 17, 21)] 8 145 5 30 de [.ref x, .int xs, .int xe, .int xp, .int xh, .ref ou] w P ∧ ∀ r w2, P r w2 → ∃ k : Int32, r = some (.int k) ∧ kd w2 mo = 12 ∧ ∃ P2 : Option Value → Wd → Prop, Ct yX10_index cX10_index 6 (some .int) 3 74 0 0 de [.ref mo, .int xs, .int xe, .int xp, .int xh] w2 P2 ∧ ∀ r' w3, P2 r' w3 → ∃ b : Int32, r' = some (.int b) ∧ IV w3 de x mo ou ad k (j + 1) ∧ (k = 0 → aJ w3 2994 ou 0 = b.toInt64) := by
  obtain ⟨hm, ho9, ho2, A, F, g, nS, nP, nF, nC, tl, ho, cf, cp, cs, sb, pn, dn, ch, ca, T, rt, ly, sN, hM, h, hB, hv, ht⟩ := hi
  obtain ⟨h60, h16, h5, hcv, hho⟩ := id hv.hcv
  have hP6 := hv.hP6
  have hT2 := hv.hT2
  obtain ⟨s0, hst⟩ := ex_n (a := xs) hv.hS (show nS < 100000 by omega)
  obtain ⟨se, hse⟩ := ex_m (a := xe) (b := 19) (n := 19) rfl (by omega)
  obtain ⟨pr, hpr, hpz⟩ : ∃ pr : Nat, (inR xp 0 (F 10 - 1) = true → xp = nI pr ∧ pr < nP) ∧ (pr < nP ∨ pr = 6) := by
    by_cases c : inR xp 0 (F 10 - 1) = true
    · have c2 := c
      rw [hv.hP] at c2
      obtain ⟨i, e1, e2⟩ := inRn_ex (by omega) c2
      exact ⟨i, fun _ => ⟨e1, e2⟩, Or.inl e2⟩
    · exact ⟨6, fun z => absurd z c, Or.inr rfl⟩
  obtain ⟨ph, hph⟩ : ∃ ph : Nat, inR xh 0 (A 8 pr - 1) = true → xh = nI ph ∧ ph < pn pr := by
    rcases hpz with z | rfl
    · exact ex_n (hv.hph pr z).2 (by have := (hv.hph pr z).1.1; omega)
    · refine ⟨0, fun z => ?_⟩
      rw [hv.hz8] at z
      have h9 := inR_iff.mp z
      have e1 : (0 - 1 : Int32).toInt = -1 := rfl
      have e0 : (0 : Int32).toInt = 0 := rfl
      omega
  have hpr2 : inR xp 0 (F 10 - 1) = true → xp = nI pr ∧ pr < 6 ∧ PHA A pr (pn pr) (dn pr) ∧ A 8 pr = nI (pn pr) := fun z => ⟨(hpr z).1, by have := (hpr z).2; omega, (hv.hph pr (hpr z).2).1.A, (hv.hph pr (hpr z).2).2⟩
  have hc := c_X9_index de w x A F nS nP nF nC tl ho cf cp cs sb pn dn ch ca h hB T rt ly sN hv xs xe xp xh s0 hst se hse pr hpr ph hph (show tl < 100000 by omega)
  refine ⟨_, l_index de w x ou xs xe xp xh _ _ hc h.1.1 ho9 (fun r w' hp => ?_) (fun E w' hx => ?_), fun r w2 hp => ?_⟩
  · obtain ⟨-, hr, h1, hB1, hf⟩ := hp
    exact ⟨_, hr, (hf ou (Or.inr (by rw [ho9]; decide))).1.trans ho9, (hf ou (Or.inr (by rw [ho9]; decide))).2.1.trans ho2⟩
  · obtain ⟨e, -⟩ := hx.2
    exact e
  · rcases hp with ⟨v, w1, ⟨hG, hr, h1, hB1, hf⟩, rfl, rfl⟩ | ⟨hx, rfl⟩
    · obtain ⟨hm2, hM2, hk2, -⟩ := iv_2 (v := v.toInt64) hm hM ho9 hf
      have hvv := Value.int.inj (Option.some.inj hr)
      have o := o_index de (pAJ w1 2994 ou 0 v.toInt64) mo ad A F L g hm2 xs xe xp xh nS s0 hv.hS h5 hst se hse pr (pn pr) (dn pr) hpr2 ph hph
      rw [hM2] at o
      refine ⟨0, rfl, hm2.1, _, o, fun r' w3 hp3 => ?_⟩
      obtain ⟨rfl, g1, rfl⟩ := hp3.1 hG
      have q9 := iv_ok (v := v.toInt64) (g1 := g1) hm hM ho9 ho2 hf h1 hB1 (hv) (show _ ≤ j + 1 by omega)
      exact ⟨_, rfl, q9.1, fun _ => q9.2.trans (by rw [hvv])⟩
    · obtain ⟨rfl, hx⟩ := hx
      have hG := hx.2
      have o := o_index de w mo ad A F L g hm xs xe xp xh nS s0 hv.hS h5 hst se hse pr (pn pr) (dn pr) hpr2 ph hph
      rw [hM] at o
      refine ⟨1, rfl, hm.1, _, o, fun r' w3 hp3 => ?_⟩
      obtain ⟨rfl, rfl⟩ := hp3.2 (by rw [hG]; decide)
      rw [hG]
      exact ⟨_, rfl, iv_err hm ho9 ho2 h hB hv ht _, fun z => absurd z (by decide)⟩
set_option maxHeartbeats 1000000 in
set_option maxRecDepth 100000 in
theorem step_rate (de : Nat) {w : Wd} {x mo ou j : Nat} {ad : Nat → Nat} {L : Int32} (hi : IV w de x mo ou ad L j) (hj : j < 512) (xs : Int32) (xe : Int32) (xp : Int32) : ∃ P : Option Value → Wd → Prop, CtH yL_rate cL_rate 6 (some .int) [(0, 12, 15, 21)] 8 167 5 30 de [.ref x, .int xs, .int xe, .int xp, .ref ou] w P ∧ ∀ r w2, P r w2 → ∃ k : Int32, r = some (.int k) ∧ kd w2 mo = 12 ∧ ∃ P2 : Option Value → Wd → Prop, Ct yX10_rate cX10_rate 4 (some .int) 5 125 0 0 de [.ref mo, .int xs, .int xe, .int xp] w2 P2 ∧ ∀ r' w3, P2 r' w3 → ∃ b : Int32, r' = some (.int b) ∧ IV w3 de x mo ou ad k (j + 1) ∧ (k = 0 → aJ w3 2994 ou 0 = b.toInt64) := by
  obtain ⟨hm, ho9, ho2, A, F, g, nS, nP, nF, nC, tl, ho, cf, cp, cs, sb, pn, dn, ch, ca, T, rt, ly, sN, hM, h, hB, hv, ht⟩ := hi
  obtain ⟨h60, h16, h5, hcv, hho⟩ := id hv.hcv
  have hP6 := hv.hP6
  have hT2 := hv.hT2
  obtain ⟨s0, hst⟩ := ex_n (a := xs) hv.hS (show nS < 100000 by omega)
  obtain ⟨se, hse⟩ := ex_m (a := xe) (b := 19) (n := 19) rfl (by omega)
  obtain ⟨pr, hpr⟩ := ex_n (a := xp) hv.hP (show nP < 100000 by omega)
  have hpr2 : inR xp 0 (F 10 - 1) = true → xp = nI pr ∧ pr < 6 ∧ PHA A pr (pn pr) (dn pr) ∧ A 8 pr = nI (pn pr) := fun z => ⟨(hpr z).1, by have := (hpr z).2; omega, (hv.hph pr (hpr z).2).1.A, (hv.hph pr (hpr z).2).2⟩
  have hc := c_X9_rate de w x A F nS nP nF nC tl ho cf cp cs sb pn dn ch ca h hB T rt ly sN hv xs xe xp s0 hst se hse pr hpr (show tl < 100000 by omega)
  refine ⟨_, l_rate de w x ou xs xe xp _ _ hc h.1.1 ho9 (fun r w' hp => ?_) (fun E w' hx => ?_), fun r w2 hp => ?_⟩
  · obtain ⟨-, hr, h1, hB1, hf⟩ := hp
    exact ⟨_, hr, (hf ou (Or.inr (by rw [ho9]; decide))).1.trans ho9, (hf ou (Or.inr (by rw [ho9]; decide))).2.1.trans ho2⟩
  · obtain ⟨e, -⟩ := hx.2
    exact e
  · rcases hp with ⟨v, w1, ⟨hG, hr, h1, hB1, hf⟩, rfl, rfl⟩ | ⟨hx, rfl⟩
    · obtain ⟨hm2, hM2, hk2, -⟩ := iv_2 (v := v.toInt64) hm hM ho9 hf
      have hvv := Value.int.inj (Option.some.inj hr)
      have o := o_rate de (pAJ w1 2994 ou 0 v.toInt64) mo ad A F L g hm2 xs xe xp nS s0 hv.hS h5 hst se hse pr (pn pr) (dn pr) hpr2
      rw [hM2] at o
      refine ⟨0, rfl, hm2.1, _, o, fun r' w3 hp3 => ?_⟩
      obtain ⟨rfl, g1, rfl⟩ := hp3.1 hG
      have q9 := iv_ok (v := v.toInt64) (g1 := g1) hm hM ho9 ho2 hf h1 hB1 (hv) (show _ ≤ j + 1 by omega)
      exact ⟨_, rfl, q9.1, fun _ => q9.2.trans (by rw [hvv])⟩
    · obtain ⟨rfl, hx⟩ := hx
      have hG := hx.2
      have o := o_rate de w mo ad A F L g hm xs xe xp nS s0 hv.hS h5 hst se hse pr (pn pr) (dn pr) hpr2
      rw [hM] at o
      refine ⟨1, rfl, hm.1, _, o, fun r' w3 hp3 => ?_⟩
      obtain ⟨rfl, rfl⟩ := hp3.2 (by rw [hG]; decide)
      rw [hG]
      exact ⟨_, rfl, iv_err hm ho9 ho2 h hB hv ht _, fun z => absurd z (by decide)⟩
set_option maxHeartbeats 1000000 in
set_option maxRecDepth 100000 in
theorem step_priced (de : Nat) {w : Wd} {x mo ou j : Nat} {ad : Nat → Nat} {L : Int32} (hi : IV w de x mo ou ad L j) (hj : j < 512) (xs : Int32) (xp : Int32) : ∃ P : Option Value → Wd → Prop, CtH yL_priced cL_priced 5 (some .int) [(0, 10, 13, 21)] 8 190 5 30 de [.ref x, .int xs, .int xp, .ref ou] w P ∧ ∀ r w2, P r w2 → ∃ k : Int32, r = some (.int k) ∧ kd w2 mo = 12 ∧ ∃ P2 : Option Value → Wd → Prop, Ct yX10_priced cX10_priced 3 (some .int) 6 150 0 0 de [.ref mo, .int xs, .int xp] w2 P2 ∧ ∀ r' w3, P2 r' w3 → ∃ b : Int32, r' = some (.int b) ∧ IV w3 de x mo ou ad k (j + 1) ∧ (k = 0 → aJ w3 2994 ou 0 = b.toInt64) := by
  obtain ⟨hm, ho9, ho2, A, F, g, nS, nP, nF, nC, tl, ho, cf, cp, cs, sb, pn, dn, ch, ca, T, rt, ly, sN, hM, h, hB, hv, ht⟩ := hi
  obtain ⟨h60, h16, h5, hcv, hho⟩ := id hv.hcv
  have hP6 := hv.hP6
  have hT2 := hv.hT2
  obtain ⟨s0, hst⟩ := ex_n (a := xs) hv.hS (show nS < 100000 by omega)
  obtain ⟨pr, hpr⟩ := ex_n (a := xp) hv.hP (show nP < 100000 by omega)
  have hpr2 : inR xp 0 (F 10 - 1) = true → xp = nI pr ∧ pr < 6 ∧ PHA A pr (pn pr) (dn pr) ∧ A 8 pr = nI (pn pr) := fun z => ⟨(hpr z).1, by have := (hpr z).2; omega, (hv.hph pr (hpr z).2).1.A, (hv.hph pr (hpr z).2).2⟩
  have hc := c_X9_priced de w x A F nS nP nF nC tl ho cf cp cs sb pn dn ch ca h hB T rt ly sN hv xs xp s0 hst pr hpr (show tl < 100000 by omega)
  refine ⟨_, l_priced de w x ou xs xp _ _ hc h.1.1 ho9 (fun r w' hp => ?_) (fun E w' hx => ?_), fun r w2 hp => ?_⟩
  · obtain ⟨-, hr, h1, hB1, hf⟩ := hp
    exact ⟨_, hr, (hf ou (Or.inr (by rw [ho9]; decide))).1.trans ho9, (hf ou (Or.inr (by rw [ho9]; decide))).2.1.trans ho2⟩
  · obtain ⟨e, -⟩ := hx.2
    exact e
  · rcases hp with ⟨v, w1, ⟨hG, hr, h1, hB1, hf⟩, rfl, rfl⟩ | ⟨hx, rfl⟩
    · obtain ⟨hm2, hM2, hk2, -⟩ := iv_2 (v := v.toInt64) hm hM ho9 hf
      have hvv := Value.int.inj (Option.some.inj hr)
      have o := o_priced de (pAJ w1 2994 ou 0 v.toInt64) mo ad A F L g hm2 xs xp nS s0 hv.hS h5 hst pr (pn pr) (dn pr) hpr2 T hv.hT hv.hT2
      rw [hM2] at o
      refine ⟨0, rfl, hm2.1, _, o, fun r' w3 hp3 => ?_⟩
      obtain ⟨rfl, g1, rfl⟩ := hp3.1 hG
      have q9 := iv_ok (v := v.toInt64) (g1 := g1) hm hM ho9 ho2 hf h1 hB1 (hv) (show _ ≤ j + 1 by omega)
      exact ⟨_, rfl, q9.1, fun _ => q9.2.trans (by rw [hvv])⟩
    · obtain ⟨rfl, hx⟩ := hx
      have hG := hx.2
      have o := o_priced de w mo ad A F L g hm xs xp nS s0 hv.hS h5 hst pr (pn pr) (dn pr) hpr2 T hv.hT hv.hT2
      rw [hM] at o
      refine ⟨1, rfl, hm.1, _, o, fun r' w3 hp3 => ?_⟩
      obtain ⟨rfl, rfl⟩ := hp3.2 (by rw [hG]; decide)
      rw [hG]
      exact ⟨_, rfl, iv_err hm ho9 ho2 h hB hv ht _, fun z => absurd z (by decide)⟩
set_option maxHeartbeats 1000000 in
set_option maxRecDepth 100000 in
theorem step_cover (de : Nat) {w : Wd} {x mo ou j : Nat} {ad : Nat → Nat} {L : Int32} (hi : IV w de x mo ou ad L j) (hj : j < 512) (xc : Int32) (xw : Int32) : ∃ P : Option Value → Wd → Prop, CtH yL_cover cL_cover 5 (some .int) [(0, 10, 13, 21), (0, 10, 17, 13)] 8 134 5 30 de [.ref x, .int xc, .int xw, .ref ou] w P ∧ ∀ r w2, P r w2 → ∃ k : Int32, r = some (.int k) ∧ kd w2 mo = 12 ∧ ∃ P2 : Option Value → Wd → Prop, Ct yX10_cover cX10_cover 3 (some .int) 1 23 0 0 de [.ref mo, .int xc, .int xw] w2 P2 ∧ ∀ r' w3, P2 r' w3 → ∃ b : Int32, r' = some (.int b) ∧ IV w3 de x mo ou ad k (j + 1) ∧ (k = 0 → aJ w3 2994 ou 0 = b.toInt64) := by
  obtain ⟨hm, ho9, ho2, A, F, g, nS, nP, nF, nC, tl, ho, cf, cp, cs, sb, pn, dn, ch, ca, T, rt, ly, sN, hM, h, hB, hv, ht⟩ := hi
  obtain ⟨h60, h16, h5, hcv, hho⟩ := id hv.hcv
  have hP6 := hv.hP6
  have hT2 := hv.hT2
  obtain ⟨k, hk⟩ := ex_n (a := xc) hv.hC (show nC < 100000 by omega)
  obtain ⟨q, hq⟩ := ex_m (a := xw) (b := 9) (n := 9) rfl (by omega)
  have hc := c_X9_cover de w x A F nS nP nF nC tl ho cf cp cs sb pn dn ch ca h hB T rt ly sN hv xc xw k hk q hq
  refine ⟨_, l_cover de w x ou xc xw _ _ hc h.1.1 ho9 (fun r w' hp => ?_) (fun E w' hx => ?_), fun r w2 hp => ?_⟩
  · obtain ⟨-, hr, h1, hB1, hf⟩ := hp
    exact ⟨_, hr, (hf ou (Or.inr (by rw [ho9]; decide))).1.trans ho9, (hf ou (Or.inr (by rw [ho9]; decide))).2.1.trans ho2⟩
  · rcases hx.2 with ⟨e, -⟩ | ⟨e, -⟩
    · exact Or.inl e
    · exact Or.inr (e)
  · rcases hp with ⟨v, w1, ⟨hG, hr, h1, hB1, hf⟩, rfl, rfl⟩ | ⟨hx, rfl⟩ | ⟨hx, rfl⟩
    · obtain ⟨hm2, hM2, hk2, -⟩ := iv_2 (v := v.toInt64) hm hM ho9 hf
      have hvv := Value.int.inj (Option.some.inj hr)
      have o := o_cover de (pAJ w1 2994 ou 0 v.toInt64) mo ad A F L g hm2 xc xw nC k h60 hk q hq
      rw [hM2] at o
      refine ⟨0, rfl, hm2.1, _, o, fun r' w3 hp3 => ?_⟩
      obtain ⟨rfl, g1, rfl⟩ := hp3.1 hG
      have q9 := iv_ok (v := v.toInt64) (g1 := g1) hm hM ho9 ho2 hf h1 hB1 (hv) (show _ ≤ j + 1 by omega)
      exact ⟨_, rfl, q9.1, fun _ => q9.2.trans (by rw [hvv])⟩
    · obtain ⟨rfl, hx⟩ := hx
      have hG := (hx.resolve_right (fun z => by exact absurd z.1 (by decide))).2
      have o := o_cover de w mo ad A F L g hm xc xw nC k h60 hk q hq
      rw [hM] at o
      refine ⟨1, rfl, hm.1, _, o, fun r' w3 hp3 => ?_⟩
      obtain ⟨rfl, rfl⟩ := hp3.2 (by rw [hG]; decide)
      rw [hG]
      exact ⟨_, rfl, iv_err hm ho9 ho2 h hB hv ht _, fun z => absurd z (by decide)⟩
    · obtain ⟨rfl, hx⟩ := hx
      have hG := (hx.resolve_left (fun z => absurd z.1 (by decide))).2
      have o := o_cover de w mo ad A F L g hm xc xw nC k h60 hk q hq
      rw [hM] at o
      refine ⟨2, rfl, hm.1, _, o, fun r' w3 hp3 => ?_⟩
      obtain ⟨rfl, rfl⟩ := hp3.2 (by rw [hG]; decide)
      rw [hG]
      exact ⟨_, rfl, iv_err hm ho9 ho2 h hB hv ht _, fun z => absurd z (by decide)⟩
set_option maxHeartbeats 1000000 in
set_option maxRecDepth 100000 in
theorem step_dueAnew (de : Nat) {w : Wd} {x mo ou j : Nat} {ad : Nat → Nat} {L : Int32} (hi : IV w de x mo ou ad L j) (hj : j < 512) (xc : Int32) : ∃ P : Option Value → Wd → Prop, CtH yL_dueAnew cL_dueAnew 4 (some .int) [(0, 9, 12, 21)] 8 165 5 30 de [.ref x, .int xc, .ref ou] w P ∧ ∀ r w2, P r w2 → ∃ k : Int32, r = some (.int k) ∧ kd w2 mo = 12 ∧ ∃ P2 : Option Value → Wd → Prop, Ct yX10_dueAnew cX10_dueAnew 2 (some .int) 1 23 0 0 de [.ref mo, .int xc] w2 P2 ∧ ∀ r' w3, P2 r' w3 → ∃ b : Int32, r' = some (.int b) ∧ IV w3 de x mo ou ad k (j + 1) ∧ (k = 0 → aJ w3 2994 ou 0 = b.toInt64) := by
  obtain ⟨hm, ho9, ho2, A, F, g, nS, nP, nF, nC, tl, ho, cf, cp, cs, sb, pn, dn, ch, ca, T, rt, ly, sN, hM, h, hB, hv, ht⟩ := hi
  obtain ⟨h60, h16, h5, hcv, hho⟩ := id hv.hcv
  have hP6 := hv.hP6
  have hT2 := hv.hT2
  obtain ⟨k, hk⟩ := ex_n (a := xc) hv.hC (show nC < 100000 by omega)
  have hc := c_X9_dueAnew de w x A F nS nP nF nC tl ho cf cp cs sb pn dn ch ca h hB T rt ly sN hv xc k hk (show tl < 100000 by omega)
  refine ⟨_, l_dueAnew de w x ou xc _ _ hc h.1.1 ho9 (fun r w' hp => ?_) (fun E w' hx => ?_), fun r w2 hp => ?_⟩
  · obtain ⟨-, hr, h1, hB1, hf⟩ := hp
    exact ⟨_, hr, (hf ou (Or.inr (by rw [ho9]; decide))).1.trans ho9, (hf ou (Or.inr (by rw [ho9]; decide))).2.1.trans ho2⟩
  · obtain ⟨e, -⟩ := hx.2
    exact e
  · rcases hp with ⟨v, w1, ⟨hG, hr, h1, hB1, hf⟩, rfl, rfl⟩ | ⟨hx, rfl⟩
    · obtain ⟨hm2, hM2, hk2, -⟩ := iv_2 (v := v.toInt64) hm hM ho9 hf
      have hvv := Value.int.inj (Option.some.inj hr)
      have o := o_dueAnew de (pAJ w1 2994 ou 0 v.toInt64) mo ad A F L g hm2 xc nC k h60 hk
      rw [hM2] at o
      refine ⟨0, rfl, hm2.1, _, o, fun r' w3 hp3 => ?_⟩
      obtain ⟨rfl, g1, rfl⟩ := hp3.1 hG
      have q9 := iv_ok (v := v.toInt64) (g1 := g1) hm hM ho9 ho2 hf h1 hB1 (hv) (show _ ≤ j + 1 by omega)
      exact ⟨_, rfl, q9.1, fun _ => q9.2.trans (by rw [hvv])⟩
    · obtain ⟨rfl, hx⟩ := hx
      have hG := hx.2
      have o := o_dueAnew de w mo ad A F L g hm xc nC k h60 hk
      rw [hM] at o
      refine ⟨1, rfl, hm.1, _, o, fun r' w3 hp3 => ?_⟩
      obtain ⟨rfl, rfl⟩ := hp3.2 (by rw [hG]; decide)
      rw [hG]
      exact ⟨_, rfl, iv_err hm ho9 ho2 h hB hv ht _, fun z => absurd z (by decide)⟩
set_option maxHeartbeats 1000000 in
set_option maxRecDepth 100000 in
theorem step_told (de : Nat) {w : Wd} {x mo ou j : Nat} {ad : Nat → Nat} {L : Int32} (hi : IV w de x mo ou ad L j) (hj : j < 512) (xa : Int32) (xw : Int32) : ∃ P : Option Value → Wd → Prop, CtH yL_told cL_told 5 (some .int) [(0, 10, 13, 21), (0, 10, 17, 13)] 8 134 5 30 de [.ref x, .int xa, .int xw, .ref ou] w P ∧ ∀ r w2, P r w2 → ∃ k : Int32, r = some (.int k) ∧ kd w2 mo = 12 ∧ ∃ P2 : Option Value → Wd → Prop, Ct yX10_told cX10_told 3 (some .int) 2 43 0 0 de [.ref mo, .int xa, .int xw] w2 P2 ∧ ∀ r' w3, P2 r' w3 → ∃ b : Int32, r' = some (.int b) ∧ IV w3 de x mo ou ad k (j + 1) ∧ (k = 0 → aJ w3 2994 ou 0 = b.toInt64) := by
  obtain ⟨hm, ho9, ho2, A, F, g, nS, nP, nF, nC, tl, ho, cf, cp, cs, sb, pn, dn, ch, ca, T, rt, ly, sN, hM, h, hB, hv, ht⟩ := hi
  obtain ⟨h60, h16, h5, hcv, hho⟩ := id hv.hcv
  have hP6 := hv.hP6
  have hT2 := hv.hT2
  obtain ⟨fi, hfi⟩ := ex_n (a := xa) hv.hN (show nF < 100000 by omega)
  obtain ⟨q, hq⟩ := ex_m (a := xw) (b := 4) (n := 4) rfl (by omega)
  have hc := c_X9_told de w x A F nS nP nF nC tl ho cf cp cs sb pn dn ch ca h hB T rt ly sN hv xa xw fi hfi q hq
  refine ⟨_, l_told de w x ou xa xw _ _ hc h.1.1 ho9 (fun r w' hp => ?_) (fun E w' hx => ?_), fun r w2 hp => ?_⟩
  · obtain ⟨-, hr, h1, hB1, hf⟩ := hp
    exact ⟨_, hr, (hf ou (Or.inr (by rw [ho9]; decide))).1.trans ho9, (hf ou (Or.inr (by rw [ho9]; decide))).2.1.trans ho2⟩
  · rcases hx.2 with ⟨e, -⟩ | ⟨e, -⟩
    · exact Or.inl e
    · exact Or.inr (e)
  · rcases hp with ⟨v, w1, ⟨hG, hr, h1, hB1, hf⟩, rfl, rfl⟩ | ⟨hx, rfl⟩ | ⟨hx, rfl⟩
    · obtain ⟨hm2, hM2, hk2, -⟩ := iv_2 (v := v.toInt64) hm hM ho9 hf
      have hvv := Value.int.inj (Option.some.inj hr)
      have o := o_told de (pAJ w1 2994 ou 0 v.toInt64) mo ad A F L g hm2 xa xw nF fi h16 hfi
      rw [hM2] at o
      refine ⟨0, rfl, hm2.1, _, o, fun r' w3 hp3 => ?_⟩
      obtain ⟨rfl, g1, rfl⟩ := hp3.1 hG
      have q9 := iv_ok (v := v.toInt64) (g1 := g1) hm hM ho9 ho2 hf h1 hB1 (hv) (show _ ≤ j + 1 by omega)
      exact ⟨_, rfl, q9.1, fun _ => q9.2.trans (by rw [hvv])⟩
    · obtain ⟨rfl, hx⟩ := hx
      have hG := (hx.resolve_right (fun z => by exact absurd z.1 (by decide))).2
      have o := o_told de w mo ad A F L g hm xa xw nF fi h16 hfi
      rw [hM] at o
      refine ⟨1, rfl, hm.1, _, o, fun r' w3 hp3 => ?_⟩
      obtain ⟨rfl, rfl⟩ := hp3.2 (by rw [hG]; decide)
      rw [hG]
      exact ⟨_, rfl, iv_err hm ho9 ho2 h hB hv ht _, fun z => absurd z (by decide)⟩
    · obtain ⟨rfl, hx⟩ := hx
      have hG := (hx.resolve_left (fun z => absurd z.1 (by decide))).2
      have o := o_told de w mo ad A F L g hm xa xw nF fi h16 hfi
      rw [hM] at o
      refine ⟨2, rfl, hm.1, _, o, fun r' w3 hp3 => ?_⟩
      obtain ⟨rfl, rfl⟩ := hp3.2 (by rw [hG]; decide)
      rw [hG]
      exact ⟨_, rfl, iv_err hm ho9 ho2 h hB hv ht _, fun z => absurd z (by decide)⟩
set_option maxHeartbeats 1000000 in
set_option maxRecDepth 100000 in
theorem step_books (de : Nat) {w : Wd} {x mo ou j : Nat} {ad : Nat → Nat} {L : Int32} (hi : IV w de x mo ou ad L j) (hj : j < 512) (xw : Int32) : ∃ P : Option Value → Wd → Prop, CtH yL_books cL_books 4 (some .int) [(0, 9, 12, 13)] 8 132 5 30 de [.ref x, .int xw, .ref ou] w P ∧ ∀ r w2, P r w2 → ∃ k : Int32, r = some (.int k) ∧ kd w2 mo = 12 ∧ ∃ P2 : Option Value → Wd → Prop, Ct yX10_books cX10_books 2 (some .int) 1 23 0 0 de [.ref mo, .int xw] w2 P2 ∧ ∀ r' w3, P2 r' w3 → ∃ b : Int32, r' = some (.int b) ∧ IV w3 de x mo ou ad k (j + 1) ∧ (k = 0 → aJ w3 2994 ou 0 = b.toInt64) := by
  obtain ⟨hm, ho9, ho2, A, F, g, nS, nP, nF, nC, tl, ho, cf, cp, cs, sb, pn, dn, ch, ca, T, rt, ly, sN, hM, h, hB, hv, ht⟩ := hi
  obtain ⟨h60, h16, h5, hcv, hho⟩ := id hv.hcv
  have hP6 := hv.hP6
  have hT2 := hv.hT2
  obtain ⟨q, hq⟩ := ex_m (a := xw) (b := 4) (n := 4) rfl (by omega)
  have hc := c_X9_books de w x A F nS nP nF nC tl ho cf cp cs sb pn dn ch ca h hB T rt ly sN hv xw q hq
  refine ⟨_, l_books de w x ou xw _ _ hc h.1.1 ho9 (fun r w' hp => ?_) (fun E w' hx => ?_), fun r w2 hp => ?_⟩
  · obtain ⟨-, hr, h1, hB1, hf⟩ := hp
    exact ⟨_, hr, (hf ou (Or.inr (by rw [ho9]; decide))).1.trans ho9, (hf ou (Or.inr (by rw [ho9]; decide))).2.1.trans ho2⟩
  · obtain ⟨e, -⟩ := hx.2
    exact e
  · rcases hp with ⟨v, w1, ⟨hG, hr, h1, hB1, hf⟩, rfl, rfl⟩ | ⟨hx, rfl⟩
    · obtain ⟨hm2, hM2, hk2, -⟩ := iv_2 (v := v.toInt64) hm hM ho9 hf
      have hvv := Value.int.inj (Option.some.inj hr)
      have o := o_books de (pAJ w1 2994 ou 0 v.toInt64) mo ad A F L g hm2 xw nC hv.hC h60
      rw [hM2] at o
      refine ⟨0, rfl, hm2.1, _, o, fun r' w3 hp3 => ?_⟩
      obtain ⟨rfl, g1, rfl⟩ := hp3.1 hG
      have q9 := iv_ok (v := v.toInt64) (g1 := g1) hm hM ho9 ho2 hf h1 hB1 (hv) (show _ ≤ j + 1 by omega)
      exact ⟨_, rfl, q9.1, fun _ => q9.2.trans (by rw [hvv])⟩
    · obtain ⟨rfl, hx⟩ := hx
      have hG := hx.2
      have o := o_books de w mo ad A F L g hm xw nC hv.hC h60
      rw [hM] at o
      refine ⟨1, rfl, hm.1, _, o, fun r' w3 hp3 => ?_⟩
      obtain ⟨rfl, rfl⟩ := hp3.2 (by rw [hG]; decide)
      rw [hG]
      exact ⟨_, rfl, iv_err hm ho9 ho2 h hB hv ht _, fun z => absurd z (by decide)⟩
end OPS55
