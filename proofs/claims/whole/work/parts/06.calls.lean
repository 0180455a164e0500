section CALLS9
/-! contracts: what a method asks of its arguments and world, what it leaves -/
def CtQ (D : va_G) (cy : Nat → ClassId) (z : Nat) (Post : Option Value → Wd → Prop) : Array Value → State → Outcome → State → Prop := fun _ st o t => (∃ (r : Option Value) (w' : Wd), o = .returned r ∧ Post r w' ∧ HH D cy z w' t.heap) ∧ va_F (fun q => z ≤ q) st t
def CtX (D : va_G) (cy : Nat → ClassId) (z : Nat) (PX : String → Wd → Prop) : String → State → State → Prop := fun E st t => (∃ w' : Wd, PX E w' ∧ HH D cy z w' t.heap) ∧ va_F (fun q => z ≤ q) st t
def CtP (D : va_G) (cy : Nat → ClassId) (z de : Nat) (av : List Value) (w : Wd) : Array Value → State → Prop := va_Pc av (fun U => Hd D cy z de w U U.heap)
/-- a method that always returns -/
def Ct (y : MethodName) (cc : ByteArray) (nL : Nat) (ret : Option FieldType) (fr lo mc ms de : Nat) (av : List Value) (w : Wd) (Post : Option Value → Wd → Prop) : Prop :=
  ∀ (l : Launch) (D : va_G) (cy : Nat → ClassId) (z : Nat), l.stackTraces = false → Met l y (.code y cc nL ret :: TBL) { frames := fr, cells := mc, slots := ms, locals := lo } (CtP D cy z de av w) (CtQ D cy z Post) mc ms (fun q => z ≤ q)
/-- a method that may throw -/
def Cw (y : MethodName) (cc : ByteArray) (nL : Nat) (ret : Option FieldType) (fr lo mc ms de : Nat) (av : List Value) (w : Wd) (Post : Option Value → Wd → Prop) (PX : String → Wd → Prop) : Prop :=
  ∀ (l : Launch) (D : va_G) (cy : Nat → ClassId) (z : Nat), l.stackTraces = false → vx_Met l y (.code y cc nL ret :: TBL) { frames := fr, cells := mc, slots := ms, locals := lo } (CtP D cy z de av w) (CtQ D cy z Post) (CtX D cy z PX) mc ms (fun q => z ≤ q)
theorem tb_good {w : Cond} (h : w ∈ TBL) : goodWord w = true := (List.mem_filter.mp h).2
theorem tb_in {w : Cond} (h : w ∈ TBL) : w ∈ lw_tbl := (List.mem_filter.mp h).1
theorem tb_GoodIn {w0 : Cond} (h : w0 ∈ TBL) : GoodIn TBL (w0 :: TBL) := fun w hw => by
  rcases List.mem_cons.mp hw with rfl | hw
  · exact ⟨h, good_of_word (tb_good h)⟩
  · exact ⟨hw, good_of_word (tb_good hw)⟩
/-- the tables' words of a method that is called -/
def MthB (y : MethodName) (cc : ByteArray) (nL : Nat) (ret : Option FieldType) (n : Nat) : Prop :=
  Cond.code y cc nL ret ∈ TBL ∧ Cond.initialized y.cls ∈ TBL ∧ (y.cls ≠ "java/lang/invoke/MethodHandle" ∧ y.cls ≠ "java/lang/invoke/VarHandle" ∧ (parseMethodDescriptor y.desc).map (fun d => d.parameters.length) = some n)
def MthV (y : MethodName) (cc : ByteArray) (nL : Nat) (ret : Option FieldType) (n : Nat) : Prop := MthB y cc nL ret n ∧ Cond.instanceMethod y ∈ TBL ∧ Cond.selects y.cls y y ∈ TBL
def MthS (y : MethodName) (cc : ByteArray) (nL : Nat) (ret : Option FieldType) (n : Nat) : Prop := MthB y cc nL ret n ∧ Cond.static y ∈ TBL
def MthI (y : MethodName) (cc : ByteArray) (nL : Nat) (n : Nat) : Prop := MthB y cc nL none n ∧ Cond.instanceMethod y ∈ TBL ∧ y.name = "<init>"
variable {p : Program} {l : Launch} {e : Env} {R : Room} {s : State} {m : MethodId} {args : Array Value} {below : List Frame} {meth : Method} {c : Code} {D : va_G} {cy : Nat → ClassId} {z : Nat}
variable {cc : ByteArray} {own : String} {nL : Nat} {ret : Option FieldType} {fr lo mc ms de : Nat} {w w' : Wd} {kc ns pc : Nat} {lv : List (Nat × Value)} {st rest : List Value} {Q : State → Prop}
variable {y : MethodName} {cc' : ByteArray} {nL' : Nat} {ret' : Option FieldType} {fr' lo' mc' ms' : Nat} {Post : Option Value → Wd → Prop} {PX : String → Wd → Prop}
theorem blind {de : Nat} {av : List Value} : FrameBlind (CtP D cy z de av w) := fun a U g mk h => ⟨h.1, h.2.1, va_K.moved (Vm.Alike.refl U.vm) h.2.2.1, Envf.go h.2.2.2.1 (State.WarmedH.refl U) (fun _ _ _ => rfl), h.2.2.2.2⟩
theorem Cx.pre {av : List Value} (C : Cx p l R s m args meth c D cy z cc own nL ret fr lo mc ms de) {H : Heap} {locs : List Loc} (hH : HH D cy z w H) (hS : va_S (fun q => z ≤ q) s.heap H locs) : ∀ U : State, U.heap = H → s.WarmedH U.vm → CtP D cy z de av w av.toArray U := fun U hU hW =>
  ⟨rfl, by rw [hU]; exact hH, va_K.moved hW.alike C.2.2.2.2.2.2.2.1, by rw [hU]; exact C.2.2.2.2.2.2.2.2.1.go hW hS.2.1, by rw [hU]; exact Nat.le_trans C.2.2.2.2.2.2.2.2.2.2.1 hS.1⟩
theorem Cx.fix (C : Cx p l R s m args meth c D cy z cc own nL ret fr lo mc ms de) : CallFix p m c cc nL s args TBL own := ⟨C.1, C.2.1, C.2.2.1, C.2.2.2.1, C.2.2.2.2.1⟩
theorem Cx.callB (C : Cx p l R s m args meth c D cy z cc own nL ret fr lo mc ms de) {n index : Nat} (hM : MthB y cc' nL' ret' n) (hlink : Cond.methodLink own index y ∈ TBL) (hfr : fr' + 1 ≤ fr) (hlo : 8 + (nL' + 11) + lo' ≤ lo) :
    CallB R s args own index y cc' nL' ret' (.code y cc' nL' ret' :: TBL) { frames := fr', cells := mc', slots := ms', locals := lo' } mc' ms' n :=
  callB_of n C.2.2.2.2.1 (tb_GoodIn hM.1) rfl rfl rfl (C.2.2.2.2.1 _ hM.2.1) (C.2.2.2.2.1 _ hlink) hM.2.2 (by rw [C.2.2.2.2.2.2.2.2.2.1]; exact ⟨hfr, hlo⟩)
theorem run_ok {ls : Array Slot} {H : Heap} {locs : List Loc} {a : Array Value} (hl : lv_has ls nL lv) (hS : va_S (fun q => z ≤ q) s.heap H locs)
    (hr : va_Run p l e R s m args below meth c H locs kc ns mc' ms' (F0 m pc ls st) rest (CtQ D cy z Post a) (fun q => z ≤ q))
    (kk : ∀ (r : Option Value) (w' : Wd), Post r w' → G p l e R s m args below meth c D cy z nL w' (kc + mc') (ns + ms') (pc + 3) lv (r.toList ++ rest) Q) : W p l e R s m args below meth c H locs kc ns Q (F0 m pc ls st) := by
  intro T hT X
  obtain ⟨v, st₀, t, T', L, h0, X', hL, e1, e2, ⟨⟨r, w', hv, hp, hb⟩, hz, hk⟩, stp⟩ := hr T hT X
  cases hv
  rw [h0] at hz hk
  obtain ⟨t2, a1, b1⟩ := kk v w' hp T'.heap (locs ++ L) ls (by rw [e1]; exact hb)
    ⟨Nat.le_trans hS.1 (by rw [e1]; exact hz), fun q h1 h2 => by rw [e1, hk q (Nat.lt_of_lt_of_le h1 hS.1) h2]; exact hS.2.1 q h1 h2, fun q hq => by
      rcases List.mem_append.mp hq with h | h
      · exact hS.2.2 q h
      · exact hL q h⟩ hl T' rfl X'
  exact ⟨t2, stp t2 a1, b1⟩
/-- the frame at pc, an exception of class E thrown over it -/
def GX (p : Program) (l : Launch) (e : Env) (R : Room) (s : State) (m : MethodId) (args : Array Value) (below : List Frame) (meth : Method) (c : Code) (D : va_G) (cy : Nat → ClassId) (z nL : Nat) (w : Wd) (kc ns pc : Nat) (lv : List (Nat × Value)) (st : List Value) (Q : State → Prop) (E : String) : Prop :=
  ∀ (H : Heap) (locs : List Loc) (ls : Array Slot) (q : Addr) (ce : Cell), HH D cy z w H → va_S (fun q => z ≤ q) s.heap H locs → lv_has ls nL lv → H[q]? = some ce → ce.vm = .none → s.vm.findClass E = some ce.cls → vx_W p l e R s m args below meth c H locs kc ns Q (F0 m pc ls st) q
theorem runx_ok {ls : Array Slot} {H : Heap} {locs : List Loc} {a : Array Value} (hl : lv_has ls nL lv) (hS : va_S (fun q => z ≤ q) s.heap H locs)
    (hr : vx_Run p l e R s m args below meth c H locs kc ns mc' ms' (F0 m pc ls st) rest (CtQ D cy z Post a) (CtX D cy z PX) (fun q => z ≤ q))
    (kx : ∀ (E : String) (w' : Wd), PX E w' → GX p l e R s m args below meth c D cy z nL w' (kc + mc') (ns + ms') pc lv rest Q E)
    (kk : ∀ (r : Option Value) (w' : Wd), Post r w' → G p l e R s m args below meth c D cy z nL w' (kc + mc') (ns + ms') (pc + 3) lv (r.toList ++ rest) Q) : W p l e R s m args below meth c H locs kc ns Q (F0 m pc ls st) := by
  intro T hT X
  rcases hr T hT X with ⟨v, st₀, t, T', L, h0, X', hL, e1, e2, ⟨⟨r, w', hv, hp, hb⟩, hF⟩, stp⟩ | ⟨q, st₀, t, T', L, E, ce, h0, X', hL, e1, e2, ⟨⟨w', hp, hb⟩, hF⟩, hce, hcv, hcl, stp⟩
  · cases hv
    obtain ⟨k1, k2, k3⟩ := vx_keep h0 e1 hS (fun _ _ h => h) (fun _ h => h) hL hF
    obtain ⟨t2, a1, b1⟩ := kk v w' hp T'.heap (locs ++ L) ls (by rw [e1]; exact hb) k3 hl T' rfl X'
    exact ⟨t2, stp t2 a1, b1⟩
  · obtain ⟨k1, k2, k3⟩ := vx_keep h0 e1 hS (fun _ _ h => h) (fun _ h => h) hL hF
    obtain ⟨t2, a1, b1⟩ := kx E w' hp T'.heap (locs ++ L) ls q ce (by rw [e1]; exact hb) k3 hl (by rw [e1]; exact hce) hcv hcl T' rfl X'
    exact ⟨t2, stp.trans a1, b1⟩
theorem Cx.room (C : Cx p l R s m args meth c D cy z cc own nL ret fr lo mc ms de) (h1 : kc + mc' ≤ mc) (h2 : ns + ms' ≤ ms) : kc + mc' ≤ R.cells ∧ ns + ms' ≤ R.slots := by rw [C.2.2.2.2.2.2.2.2.2.1]; exact ⟨h1, h2⟩
theorem g_callV (C : Cx p l R s m args meth c D cy z cc own nL ret fr lo mc ms de) {ci N n : Nat} {T : u_T} {ty0 : Nat → FieldType} (hcl : ClsOk ci y.cls T N ty0) (K : Nat) {b index : Nat} (hM : MthV y cc' nL' ret' n) (As : List Value) (hCt : Ct y cc' nL' ret' fr' lo' mc' ms' de (.ref b :: As) w Post)
    (hk : kd w b = K) (hK : 0 < K ∧ K < 1000 ∧ (K - 1) % 20 = ci) (hlink : Cond.methodLink own index y ∈ TBL) (hn : As.length = n) (hst : st = As.reverse ++ .ref b :: rest) (hw8 : (rest.map fun v => v.category).sum ≤ 8) (hfr : fr' + 1 ≤ fr) (hlo : 8 + (nL' + 11) + lo' ≤ lo) (h1 : kc + mc' ≤ mc) (h2 : ns + ms' ≤ ms) (hdg : decode cc pc = .ok (.invokevirtual index, 3))
    (kk : ∀ (r : Option Value) (w' : Wd), Post r w' → G p l e R s m args below meth c D cy z nL w' (kc + mc') (ns + ms') (pc + 3) lv (r.toList ++ rest) Q) : G p l e R s m args below meth c D cy z nL w kc ns pc lv st Q := by
  intro H locs ls hH hS hl
  subst hst
  exact run_ok hl hS (va_runV (C := y.cls) C.fix (hCt l D cy z C.2.2.2.2.2.2.2.2.2.2.2) ⟨C.callB hM.1 hlink hfr hlo, C.2.2.2.2.1 _ hM.2.1, C.2.2.2.2.1 _ hM.2.2⟩ ⟨blind, recv C hcl hk hK hH, C.pre hH hS⟩ rfl hn hl.1 rfl (lv_room hw8) hdg (C.room h1 h2)) kk
theorem g_callS (C : Cx p l R s m args meth c D cy z cc own nL ret fr lo mc ms de) {n : Nat} {index : Nat} (hM : MthS y cc' nL' ret' n) (As : List Value) (hCt : Ct y cc' nL' ret' fr' lo' mc' ms' de As w Post)
    (hlink : Cond.methodLink own index y ∈ TBL) (hn : As.length = n) (hst : st = As.reverse ++ rest) (hw8 : (rest.map fun v => v.category).sum ≤ 8) (hfr : fr' + 1 ≤ fr) (hlo : 8 + (nL' + 11) + lo' ≤ lo) (h1 : kc + mc' ≤ mc) (h2 : ns + ms' ≤ ms) (hdg : decode cc pc = .ok (.invokestatic index, 3))
    (kk : ∀ (r : Option Value) (w' : Wd), Post r w' → G p l e R s m args below meth c D cy z nL w' (kc + mc') (ns + ms') (pc + 3) lv (r.toList ++ rest) Q) : G p l e R s m args below meth c D cy z nL w kc ns pc lv st Q := by
  intro H locs ls hH hS hl
  subst hst
  exact run_ok hl hS (va_runS C.fix (hCt l D cy z C.2.2.2.2.2.2.2.2.2.2.2) ⟨C.callB hM.1 hlink hfr hlo, C.2.2.2.2.1 _ hM.2⟩ ⟨blind, C.pre hH hS⟩ rfl hn hl.1 rfl (lv_room hw8) hdg (C.room h1 h2)) kk
theorem g_callI (C : Cx p l R s m args meth c D cy z cc own nL ret fr lo mc ms de) {n : Nat} {b index : Nat} (hM : MthI y cc' nL' n) (As : List Value) (hCt : Ct y cc' nL' none fr' lo' mc' ms' de (.ref b :: As) w Post)
    (hlink : Cond.methodLink own index y ∈ TBL) (hn : As.length = n) (hst : st = As.reverse ++ .ref b :: rest) (hw8 : (rest.map fun v => v.category).sum ≤ 8) (hfr : fr' + 1 ≤ fr) (hlo : 8 + (nL' + 11) + lo' ≤ lo) (h1 : kc + mc' ≤ mc) (h2 : ns + ms' ≤ ms) (hdg : decode cc pc = .ok (.invokespecial index, 3))
    (kk : ∀ (r : Option Value) (w' : Wd), Post r w' → G p l e R s m args below meth c D cy z nL w' (kc + mc') (ns + ms') (pc + 3) lv (r.toList ++ rest) Q) : G p l e R s m args below meth c D cy z nL w kc ns pc lv st Q := by
  intro H locs ls hH hS hl
  subst hst
  exact run_ok hl hS (va_runI C.fix (hCt l D cy z C.2.2.2.2.2.2.2.2.2.2.2) ⟨C.callB hM.1 hlink hfr hlo, hM.2.2, C.2.2.2.2.1 _ hM.2.1⟩ ⟨blind, C.pre hH hS⟩ rfl hn hl.1 rfl (lv_room hw8) hdg (C.room h1 h2)) kk
/-- a nest mate's private method, by its own link -/
theorem Cx.callN (C : Cx p l R s m args meth c D cy z cc own nL ret fr lo mc ms de) {n index : Nat} {host : String} (hM : MthB y cc' nL' ret' n) (hlink : Cond.methodLinkNest own index y host ∈ lw_tbl) (hfr : fr' + 1 ≤ fr) (hlo : 8 + (nL' + 11) + lo' ≤ lo) :
    va_CN R s args own index y host cc' nL' ret' (.code y cc' nL' ret' :: TBL) { frames := fr', cells := mc', slots := ms', locals := lo' } mc' ms' n :=
  va_cnB n C.2.2.2.2.1 (tb_GoodIn hM.1) rfl rfl rfl (C.2.2.2.2.2.2.2.2.1.1 _ hlink rfl) (C.2.2.2.2.1 _ hM.2.1) hM.2.2 (by rw [C.2.2.2.2.2.2.2.2.2.1]; exact ⟨hfr, hlo⟩)
theorem g_callSN (C : Cx p l R s m args meth c D cy z cc own nL ret fr lo mc ms de) {n : Nat} {index : Nat} {host : String} (hM : MthS y cc' nL' ret' n) (As : List Value) (hCt : Ct y cc' nL' ret' fr' lo' mc' ms' de As w Post)
    (hlink : Cond.methodLinkNest own index y host ∈ lw_tbl) (hn : As.length = n) (hst : st = As.reverse ++ rest) (hw8 : (rest.map fun v => v.category).sum ≤ 8) (hfr : fr' + 1 ≤ fr) (hlo : 8 + (nL' + 11) + lo' ≤ lo) (h1 : kc + mc' ≤ mc) (h2 : ns + ms' ≤ ms) (hdg : decode cc pc = .ok (.invokestatic index, 3))
    (kk : ∀ (r : Option Value) (w' : Wd), Post r w' → G p l e R s m args below meth c D cy z nL w' (kc + mc') (ns + ms') (pc + 3) lv (r.toList ++ rest) Q) : G p l e R s m args below meth c D cy z nL w kc ns pc lv st Q := by
  intro H locs ls hH hS hl
  subst hst
  exact run_ok hl hS (va_runSN C.fix (hCt l D cy z C.2.2.2.2.2.2.2.2.2.2.2) ⟨C.callN hM.1 hlink hfr hlo, C.2.2.2.2.1 _ hM.2, trivial⟩ ⟨blind, C.pre hH hS⟩ rfl hn hl.1 rfl (lv_room hw8) hdg (C.room h1 h2)) kk
theorem g_callIN (C : Cx p l R s m args meth c D cy z cc own nL ret fr lo mc ms de) {n : Nat} {b index : Nat} {host : String} (hM : MthI y cc' nL' n) (As : List Value) (hCt : Ct y cc' nL' none fr' lo' mc' ms' de (.ref b :: As) w Post)
    (hlink : Cond.methodLinkNest own index y host ∈ lw_tbl) (hn : As.length = n) (hst : st = As.reverse ++ .ref b :: rest) (hw8 : (rest.map fun v => v.category).sum ≤ 8) (hfr : fr' + 1 ≤ fr) (hlo : 8 + (nL' + 11) + lo' ≤ lo) (h1 : kc + mc' ≤ mc) (h2 : ns + ms' ≤ ms) (hdg : decode cc pc = .ok (.invokespecial index, 3))
    (kk : ∀ (r : Option Value) (w' : Wd), Post r w' → G p l e R s m args below meth c D cy z nL w' (kc + mc') (ns + ms') (pc + 3) lv (r.toList ++ rest) Q) : G p l e R s m args below meth c D cy z nL w kc ns pc lv st Q := by
  intro H locs ls hH hS hl
  subst hst
  exact run_ok hl hS (va_runIN C.fix (hCt l D cy z C.2.2.2.2.2.2.2.2.2.2.2) ⟨C.callN hM.1 hlink hfr hlo, hM.2.2, C.2.2.2.2.1 _ hM.2.1⟩ ⟨blind, C.pre hH hS⟩ rfl hn hl.1 rfl (lv_room hw8) hdg (C.room h1 h2)) kk
theorem gx_callV (C : Cx p l R s m args meth c D cy z cc own nL ret fr lo mc ms de) {ci N n : Nat} {T : u_T} {ty0 : Nat → FieldType} (hcl : ClsOk ci y.cls T N ty0) (K : Nat) {b index : Nat} (hM : MthV y cc' nL' ret' n) (As : List Value) (hCt : Cw y cc' nL' ret' fr' lo' mc' ms' de (.ref b :: As) w Post PX)
    (hk : kd w b = K) (hK : 0 < K ∧ K < 1000 ∧ (K - 1) % 20 = ci) (hlink : Cond.methodLink own index y ∈ TBL) (hn : As.length = n) (hst : st = As.reverse ++ .ref b :: rest) (hw8 : (rest.map fun v => v.category).sum ≤ 8) (hfr : fr' + 1 ≤ fr) (hlo : 8 + (nL' + 11) + lo' ≤ lo) (h1 : kc + mc' ≤ mc) (h2 : ns + ms' ≤ ms) (hdg : decode cc pc = .ok (.invokevirtual index, 3))
    (kx : ∀ (E : String) (w' : Wd), PX E w' → GX p l e R s m args below meth c D cy z nL w' (kc + mc') (ns + ms') pc lv rest Q E)
    (kk : ∀ (r : Option Value) (w' : Wd), Post r w' → G p l e R s m args below meth c D cy z nL w' (kc + mc') (ns + ms') (pc + 3) lv (r.toList ++ rest) Q) : G p l e R s m args below meth c D cy z nL w kc ns pc lv st Q := by
  intro H locs ls hH hS hl
  subst hst
  exact runx_ok hl hS (vx_runV (C := y.cls) C.fix (hCt l D cy z C.2.2.2.2.2.2.2.2.2.2.2) ⟨C.callB hM.1 hlink hfr hlo, C.2.2.2.2.1 _ hM.2.1, C.2.2.2.2.1 _ hM.2.2⟩ ⟨blind, recv C hcl hk hK hH, C.pre hH hS⟩ rfl hn hl.1 rfl (lv_room hw8) hdg (C.room h1 h2)) kx kk
theorem gx_callS (C : Cx p l R s m args meth c D cy z cc own nL ret fr lo mc ms de) {n : Nat} {index : Nat} (hM : MthS y cc' nL' ret' n) (As : List Value) (hCt : Cw y cc' nL' ret' fr' lo' mc' ms' de As w Post PX)
    (hlink : Cond.methodLink own index y ∈ TBL) (hn : As.length = n) (hst : st = As.reverse ++ rest) (hw8 : (rest.map fun v => v.category).sum ≤ 8) (hfr : fr' + 1 ≤ fr) (hlo : 8 + (nL' + 11) + lo' ≤ lo) (h1 : kc + mc' ≤ mc) (h2 : ns + ms' ≤ ms) (hdg : decode cc pc = .ok (.invokestatic index, 3))
    (kx : ∀ (E : String) (w' : Wd), PX E w' → GX p l e R s m args below meth c D cy z nL w' (kc + mc') (ns + ms') pc lv rest Q E)
    (kk : ∀ (r : Option Value) (w' : Wd), Post r w' → G p l e R s m args below meth c D cy z nL w' (kc + mc') (ns + ms') (pc + 3) lv (r.toList ++ rest) Q) : G p l e R s m args below meth c D cy z nL w kc ns pc lv st Q := by
  intro H locs ls hH hS hl
  subst hst
  exact runx_ok hl hS (vx_runS C.fix (hCt l D cy z C.2.2.2.2.2.2.2.2.2.2.2) ⟨C.callB hM.1 hlink hfr hlo, C.2.2.2.2.1 _ hM.2⟩ ⟨blind, C.pre hH hS⟩ rfl hn hl.1 rfl (lv_room hw8) hdg (C.room h1 h2)) kx kk
theorem g_objInit (C : Cx p l R s m args meth c D cy z cc own nL ret fr lo mc ms de) {index a : Nat} (hlink : Cond.methodLink own index objectInit ∈ TBL) (h1 : Cond.instanceMethod objectInit ∈ TBL) (h2 : Cond.code objectInit ⟨#[0xb1]⟩ 1 none ∈ TBL) (hw8 : (st.map fun v => v.category).sum + 12 ≤ lo) (hfr : 1 ≤ fr) (hdg : decode cc pc = .ok (.invokespecial index, 3))
    (kk : G p l e R s m args below meth c D cy z nL w kc ns (pc + 3) lv st Q) : G p l e R s m args below meth c D cy z nL w kc ns pc lv (.ref a :: st) Q := by
  intro H locs ls hH hS hl
  have hR := C.2.2.2.2.2.2.2.2.2.1
  refine W.objInit C.1 C.2.1 C.2.2.2.1 (C.2.2.2.2.1 _ hlink) (C.2.2.2.2.1 _ h1) (C.2.2.2.2.1 _ h2) rfl (by rw [C.2.2.1]; exact hl.1) rfl hdg (by rw [hR]; exact hfr) (by rw [hR]; show 2 * 0 + _ + 12 ≤ lo; omega) ?_
  exact kk H locs ls hH hS hl
theorem g_max (C : Cx p l R s m args meth c D cy z cc own nL ret fr lo mc ms de) {index : Nat} {x y : Int32} (hlink : Cond.methodLink own index Lib.Math.max.name ∈ TBL) (h1 : Cond.static Lib.Math.max.name ∈ TBL) (h2 : Cond.initialized "java/lang/Math" ∈ TBL) (h3 : Cond.code Lib.Math.max.name Lib.Math.max.code 2 (some .int) ∈ TBL) (hfr : 1 ≤ fr) (hw8 : (st.map fun v => v.category).sum + 13 ≤ lo) (hc : kc ≤ mc) (hs : ns ≤ ms) (hdg : decode cc pc = .ok (.invokestatic index, 3))
    (kk : G p l e R s m args below meth c D cy z nL w kc ns (pc + 3) lv (.int (if x < y then y else x) :: st) Q) : G p l e R s m args below meth c D cy z nL w kc ns pc lv (.int y :: .int x :: st) Q := by
  intro H locs ls hH hS hl
  have hR := C.2.2.2.2.2.2.2.2.2.1
  exact va_mmax C.1 C.2.1 (by rw [C.2.2.1]; exact hl.1.symm) C.2.2.2.1 (C.2.2.2.2.1 _ hlink) (C.2.2.2.2.1 _ h1) (C.2.2.2.2.1 _ h2) (C.2.2.2.2.1 _ h3) (by rw [hR]; exact hfr) (by rw [hR]; exact hw8) (by rw [hR]; exact hc) (by rw [hR]; exact hs) hdg (kk H locs ls hH hS hl)
theorem g_min (C : Cx p l R s m args meth c D cy z cc own nL ret fr lo mc ms de) {index : Nat} {x y : Int32} (hlink : Cond.methodLink own index Lib.Math.min.name ∈ TBL) (h1 : Cond.static Lib.Math.min.name ∈ TBL) (h2 : Cond.initialized "java/lang/Math" ∈ TBL) (h3 : Cond.code Lib.Math.min.name Lib.Math.min.code 2 (some .int) ∈ TBL) (hfr : 1 ≤ fr) (hw8 : (st.map fun v => v.category).sum + 13 ≤ lo) (hc : kc ≤ mc) (hs : ns ≤ ms) (hdg : decode cc pc = .ok (.invokestatic index, 3))
    (kk : G p l e R s m args below meth c D cy z nL w kc ns (pc + 3) lv (.int (if y < x then y else x) :: st) Q) : G p l e R s m args below meth c D cy z nL w kc ns pc lv (.int y :: .int x :: st) Q := by
  intro H locs ls hH hS hl
  have hR := C.2.2.2.2.2.2.2.2.2.1
  exact va_mmin C.1 C.2.1 (by rw [C.2.2.1]; exact hl.1.symm) C.2.2.2.1 (C.2.2.2.2.1 _ hlink) (C.2.2.2.2.1 _ h1) (C.2.2.2.2.1 _ h2) (C.2.2.2.2.1 _ h3) (by rw [hR]; exact hfr) (by rw [hR]; exact hw8) (by rw [hR]; exact hc) (by rw [hR]; exact hs) hdg (kk H locs ls hH hS hl)
/-- what a body owes at its end -/
def QM (below : List Frame) (args : Array Value) (s : State) (D : va_G) (cy : Nat → ClassId) (z : Nat) (Post : Option Value → Wd → Prop) (mc ms : Nat) : State → Prop := MQ below (CtQ D cy z Post) args s mc ms (fun q => z ≤ q)
def QX (below : List Frame) (args : Array Value) (s : State) (D : va_G) (cy : Nat → ClassId) (z : Nat) (Post : Option Value → Wd → Prop) (PX : String → Wd → Prop) (mc ms : Nat) : State → Prop := vx_MQ below (CtQ D cy z Post) (CtX D cy z PX) args s mc ms (fun q => z ≤ q)
theorem Ct.mk {av : List Value} (hy : plainName y.cls = true) (lv : List (Nat × Value)) (hlv : lv_args 0 av = lv) (hlen : (lg_sl av).length ≤ nL)
    (body : ∀ (p : Program) (l : Launch) (e : Env) (R : Room) (s : State) (m : MethodId) (args : Array Value) (below : List Frame) (meth : Method) (c : Code) (D : va_G) (cy : Nat → ClassId) (z : Nat), Cx p l R s m args meth c D cy z cc y.cls nL ret fr lo mc ms de → meth.name = y.name → G p l e R s m args below meth c D cy z nL w 0 0 0 lv [] (QM below args s D cy z Post mc ms)) :
    Ct y cc nL ret fr lo mc ms de av w Post := by
  intro l D cy z hl
  refine Met.ofW (cc := cc) (maxL := nL) (ret := ret) hy rfl ?_
  intro p e s m args below meth c s₁ B hml hv
  obtain ⟨rfl, hH, hK, hE, hz⟩ := hv
  have hts := atoms_spec (ws := Cond.code y cc nL ret :: TBL) B.pre
  have C : Cx p l (headSpec (Cond.code y cc nL ret :: TBL) { frames := fr, cells := mc, slots := ms, locals := lo }).room s m av.toArray meth c D cy z cc y.cls nL ret fr lo mc ms de :=
    ⟨B.exec, B.bytes, hml, findClass_of_methodNamed B.named, fun w hw => hts w (List.mem_cons_of_mem _ hw), B.notSynchronized, B.returns, hK, hE, rfl, hz, hl⟩
  rw [lg_entry_eq]
  exact body p l e _ s m _ below meth c D cy z C (name_of_methodNamed B.named B.method).1 s.heap [] _ hH va_S.rf (hlv ▸ lv_entry av hlen)
theorem Cw.mk {av : List Value} (hy : plainName y.cls = true) (lv : List (Nat × Value)) (hlv : lv_args 0 av = lv) (hlen : (lg_sl av).length ≤ nL)
    (body : ∀ (p : Program) (l : Launch) (e : Env) (R : Room) (s : State) (m : MethodId) (args : Array Value) (below : List Frame) (meth : Method) (c : Code) (D : va_G) (cy : Nat → ClassId) (z : Nat), Cx p l R s m args meth c D cy z cc y.cls nL ret fr lo mc ms de → (∀ x ∈ c.exceptionTable.toList, False) → G p l e R s m args below meth c D cy z nL w 0 0 0 lv [] (QX below args s D cy z Post PX mc ms)) :
    Cw y cc nL ret fr lo mc ms de av w Post PX := by
  intro l D cy z hl
  refine vx_ofW (cc := cc) (maxL := nL) (ret := ret) hy rfl ?_
  intro p e s m args below meth c s₁ B hml ht hv
  obtain ⟨rfl, hH, hK, hE, hz⟩ := hv
  have hts := atoms_spec (ws := Cond.code y cc nL ret :: TBL) B.pre
  have C : Cx p l (headSpec (Cond.code y cc nL ret :: TBL) { frames := fr, cells := mc, slots := ms, locals := lo }).room s m av.toArray meth c D cy z cc y.cls nL ret fr lo mc ms de :=
    ⟨B.exec, B.bytes, hml, findClass_of_methodNamed B.named, fun w hw => hts w (List.mem_cons_of_mem _ hw), B.notSynchronized, B.returns, hK, hE, rfl, hz, hl⟩
  rw [lg_entry_eq]
  exact body p l e _ s m _ below meth c D cy z C ht s.heap [] _ hH va_S.rf (hlv ▸ lv_entry av hlen)
theorem g_iret (C : Cx p l R s m args meth c D cy z cc own nL ret fr lo mc ms de) {v : Int32} {ty : FieldType} (hr : ret = some ty) (hn : narrow ty (.int v) = .int v) (h1 : kc ≤ mc) (h2 : ns ≤ ms) (hdg : decode cc pc = .ok (.ireturn, 1)) (hp : Post (some (.int v)) w) : G p l e R s m args below meth c D cy z nL w kc ns pc lv [.int v] (QM below args s D cy z Post mc ms) := fun H locs ls hH hS hl =>
  W.widen h1 h2 (W.zret (ty := ty) C.1 C.2.1 (C.2.2.2.2.2.2.1.trans hr) hn (fun t ht _ => ⟨⟨_, w, rfl, hp, by rw [ht]; exact hH⟩, hS.F ht⟩) hS.2.2 hdg C.2.2.2.2.2.1)
theorem g_vret (C : Cx p l R s m args meth c D cy z cc own nL ret fr lo mc ms de) (hr : ret = none) (h1 : kc ≤ mc) (h2 : ns ≤ ms) (hdg : decode cc pc = .ok (.return_, 1)) (hp : Post none w) : G p l e R s m args below meth c D cy z nL w kc ns pc lv [] (QM below args s D cy z Post mc ms) := fun H locs ls hH hS hl =>
  W.widen h1 h2 (W.vret C.1 C.2.1 (C.2.2.2.2.2.2.1.trans hr) (fun t ht _ => ⟨⟨_, w, rfl, hp, by rw [ht]; exact hH⟩, hS.F ht⟩) hS.2.2 hdg C.2.2.2.2.2.1)
theorem g_aret (C : Cx p l R s m args meth c D cy z cc own nL ret fr lo mc ms de) {v : Value} {rt : FieldType} (hr : ret = some rt) (hrt : (∃ n, rt = .object n) ∨ ∃ t, rt = .array t) (hv : v = .null ∨ ∃ a, v = .ref a) (h1 : kc ≤ mc) (h2 : ns ≤ ms) (hdg : decode cc pc = .ok (.areturn, 1)) (hp : Post (some v) w) : G p l e R s m args below meth c D cy z nL w kc ns pc lv [v] (QM below args s D cy z Post mc ms) := fun H locs ls hH hS hl =>
  W.widen h1 h2 (W.aret C.1 C.2.1 (C.2.2.2.2.2.2.1.trans hr) hrt hv (fun t ht _ => ⟨⟨_, w, rfl, hp, by rw [ht]; exact hH⟩, hS.F ht⟩) hS.2.2 hdg C.2.2.2.2.2.1)
/-- a body that may throw, where it doesn't -/
theorem gx_ret (k : G p l e R s m args below meth c D cy z nL w kc ns pc lv st (QM below args s D cy z Post mc ms)) : G p l e R s m args below meth c D cy z nL w kc ns pc lv st (QX below args s D cy z Post PX mc ms) := fun H locs ls hH hS hl => vx_ret (k H locs ls hH hS hl)
theorem gx_out (C : Cx p l R s m args meth c D cy z cc own nL ret fr lo mc ms de) (ht : ∀ x ∈ c.exceptionTable.toList, False) {E : String} (h1 : kc ≤ mc) (h2 : ns ≤ ms) (hp : PX E w) : GX p l e R s m args below meth c D cy z nL w kc ns pc lv st (QX below args s D cy z Post PX mc ms) E := fun H locs ls q ce hH hS hl hq hv hc =>
  vx_out (fun x hx => (ht x hx).elim) C.2.2.2.2.2.1 hq hv hc (fun t e1 _ => ⟨⟨w, hp, by rw [e1]; exact hH⟩, hS.F e1⟩) hS.2.2 h1 h2
/-- the words of a throw of cls from class own by the link ic -/
def ThOk (own : String) (ic : Nat) (cls : String) (names : List String) : Prop := Bundle.fit cls = true ∧ (∀ n ∈ names, Bundle.fit n = true) ∧ (∀ w ∈ vx_atS own ic cls names, w ∈ lw_tbl ∧ vx_ot w = true ∧ (goodWord w = true ∨ isCN w = true))
theorem ThOk.of {own : String} {ic : Nat} {cls : String} {names : List String} (h1 : Bundle.fit cls = true) (h2 : names.all Bundle.fit = true) (h3 : (vx_atS own ic cls names).all (fun w => lw_tbl.contains w && vx_ot w && (goodWord w || isCN w)) = true) : ThOk own ic cls names := by
  refine ⟨h1, fun n hn => List.all_eq_true.mp h2 n hn, fun w hw => ?_⟩
  have h := List.all_eq_true.mp h3 w hw
  simp only [Bool.and_eq_true, Bool.or_eq_true, List.contains_iff_mem] at h
  exact ⟨h.1.1, h.1.2, h.2⟩
theorem gx_throw (C : Cx p l R s m args meth c D cy z cc own nL ret fr lo mc ms de) (ht : ∀ x ∈ c.exceptionTable.toList, False) {cls text : String} {names : List String} {ik is ic : Nat} (hT : ThOk own ic cls names) (hk : Cond.classLink own ik cls ∈ TBL) (hini : Cond.initialized cls ∈ TBL) (hs : (own, is, text) ∈ strs)
    (d0 : decode cc pc = .ok (.new ik, 3)) (d3 : decode cc (pc + 3) = .ok (.dup, 1)) (d4 : decode cc (pc + 4) = .ok (.ldc is, 2)) (d6 : decode cc (pc + 6) = .ok (.invokespecial ic, 3)) (d9 : decode cc (pc + 9) = .ok (.athrow, 1))
    (hfr : names.length + 3 < fr) (hlo : (st.map fun v => v.category).sum + (13 * (names.length + 1) + 43) ≤ lo) (h1 : kc + 1 ≤ mc) (h2 : ns + 6 ≤ ms) (hp : PX cls w) : G p l e R s m args below meth c D cy z nL w kc ns pc lv st (QX below args s D cy z Post PX mc ms) := by
  intro H locs ls hH hS hl
  have hR := C.2.2.2.2.2.2.2.2.2.1
  have hE := C.2.2.2.2.2.2.2.2.1
  have hts := C.2.2.2.2.1
  obtain ⟨sa, hsa⟩ := hE.2.2.2.2.2.2.2.2 _ hs
  refine vx_throwS (A := fun q => z ≤ q) C.1 C.2.1 C.2.2.2.2.2.2.2.2.2.2.2 C.2.2.2.1 hT.1 hT.2.1 (hts _ hk) (hts _ hini) hsa (fun w hw => ?_) (fun w hw => ?_) hE.2.2.2.2.2.1 hE.2.2.2.2.2.2.1 hS (by rw [C.2.2.1]; exact hl.1) d0 d3 d4 d6 d9 (fun x hx => (ht x hx).elim) (by rw [hR]; exact hfr) (by rw [hR]; exact hlo) (by rw [hR]; exact h1) (by rw [hR]; exact h2) C.2.2.2.2.2.1
    (fun t _ hz hq => ⟨⟨w, hp, fun a ha => ⟨(hH a ha).1, (hH a ha).2.kept (hq a (hH.lt ha))⟩⟩, Nat.le_trans hS.1 hz, fun q h3 h4 => by rw [hq q (Nat.lt_of_lt_of_le h3 hS.1)]; exact hS.2.1 q h3 h4⟩) hS.2.2 h1 h2
  · obtain ⟨g1, g2, g3⟩ := hT.2.2 w hw
    rcases g3 with g3 | g3
    · exact hts w (List.mem_filter.mpr ⟨g1, g3⟩)
    · cases w <;> first | exact va_Nw.use rfl (hE.1 _ g1 g3) | cases g3
  · rcases List.mem_cons.mp hw with rfl | hw
    · unfold vx_ot; rw [tb_good hk, Bool.or_true]
    · rcases List.mem_cons.mp hw with rfl | hw
      · unfold vx_ot; rw [tb_good hini, Bool.or_true]
      · exact (hT.2.2 w hw).2.1
theorem gx_throwW (C : Cx p l R s m args meth c D cy z cc own nL ret fr lo mc ms de) (ht : ∀ x ∈ c.exceptionTable.toList, False) {cls text : String} {names : List String} {ik is ic : Nat} (hT : ThOk own ic cls names) (hk : Cond.classLink own ik cls ∈ TBL) (hini : Cond.initialized cls ∈ TBL) (hs : (own, is, text) ∈ strs)
    (d0 : decode cc pc = .ok (.new ik, 3)) (d3 : decode cc (pc + 3) = .ok (.dup, 1)) (d4 : decode cc (pc + 4) = .ok (.ldc_w is, 3)) (d6 : decode cc (pc + 7) = .ok (.invokespecial ic, 3)) (d9 : decode cc (pc + 10) = .ok (.athrow, 1))
    (hfr : names.length + 3 < fr) (hlo : (st.map fun v => v.category).sum + (13 * (names.length + 1) + 43) ≤ lo) (h1 : kc + 1 ≤ mc) (h2 : ns + 6 ≤ ms) (hp : PX cls w) : G p l e R s m args below meth c D cy z nL w kc ns pc lv st (QX below args s D cy z Post PX mc ms) := by
  intro H locs ls hH hS hl
  have hR := C.2.2.2.2.2.2.2.2.2.1
  have hE := C.2.2.2.2.2.2.2.2.1
  have hts := C.2.2.2.2.1
  obtain ⟨sa, hsa⟩ := hE.2.2.2.2.2.2.2.2 _ hs
  refine vx_throwSW (A := fun q => z ≤ q) C.1 C.2.1 C.2.2.2.2.2.2.2.2.2.2.2 C.2.2.2.1 hT.1 hT.2.1 (hts _ hk) (hts _ hini) hsa (fun w hw => ?_) (fun w hw => ?_) hE.2.2.2.2.2.1 hE.2.2.2.2.2.2.1 hS (by rw [C.2.2.1]; exact hl.1) d0 d3 d4 d6 d9 (fun x hx => (ht x hx).elim) (by rw [hR]; exact hfr) (by rw [hR]; exact hlo) (by rw [hR]; exact h1) (by rw [hR]; exact h2) C.2.2.2.2.2.1
    (fun t _ hz hq => ⟨⟨w, hp, fun a ha => ⟨(hH a ha).1, (hH a ha).2.kept (hq a (hH.lt ha))⟩⟩, Nat.le_trans hS.1 hz, fun q h3 h4 => by rw [hq q (Nat.lt_of_lt_of_le h3 hS.1)]; exact hS.2.1 q h3 h4⟩) hS.2.2 h1 h2
  · obtain ⟨g1, g2, g3⟩ := hT.2.2 w hw
    rcases g3 with g3 | g3
    · exact hts w (List.mem_filter.mpr ⟨g1, g3⟩)
    · cases w <;> first | exact va_Nw.use rfl (hE.1 _ g1 g3) | cases g3
  · rcases List.mem_cons.mp hw with rfl | hw
    · unfold vx_ot; rw [tb_good hk, Bool.or_true]
    · rcases List.mem_cons.mp hw with rfl | hw
      · unfold vx_ot; rw [tb_good hini, Bool.or_true]
      · exact (hT.2.2 w hw).2.1
end CALLS9
