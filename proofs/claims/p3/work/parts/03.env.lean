/-! ===== the words of the tables that every method takes along; what a frame knows of the machine ===== -/
def TB : List Cond := lw_tbl.filter goodWord
theorem tb_at {w : Cond} (i : Nat) (h : lw_tbl[i]? = some w) (hg : goodWord w = true) : w ∈ TB := List.mem_filter.mpr ⟨List.mem_of_getElem? h, hg⟩
def WS (y : MethodName) (cc : ByteArray) (n : Nat) (r : Option FieldType) : List Cond := .code y cc n r :: TB
theorem ws_good {y y' : MethodName} {cc cc' : ByteArray} {n n' : Nat} {r r' : Option FieldType} (h : Cond.code y cc n r ∈ TB) : GoodIn (WS y' cc' n' r') (WS y cc n r) := by
  intro w hw
  have hm : w ∈ TB := by
    rcases List.mem_cons.mp hw with e | e
    · rw [e]; exact h
    · exact e
  exact ⟨List.mem_cons_of_mem _ hm, good_of_word (List.mem_filter.mp hm).2⟩
theorem tb_good {y : MethodName} {cc : ByteArray} {n : Nat} {r : Option FieldType} (h : Cond.code y cc n r ∈ TB) : GoodIn TB (WS y cc n r) := by
  intro w hw
  have hm : w ∈ TB := by
    rcases List.mem_cons.mp hw with e | e
    · rw [e]; exact h
    · exact e
  exact ⟨hm, good_of_word (List.mem_filter.mp hm).2⟩

def NL : List Cond := [Cond.methodLinkNest RX11 11 yX10_init RX11, Cond.methodLinkNest RX5 11 yX4_init RX11, Cond.methodLinkNest RX11 27 yX4_init RX11, Cond.methodLinkNest RX11 34 yX1_init RX11, Cond.methodLinkNest RX11 41 yX9_init RX11, Cond.methodLinkNest RX11 48 yX0_init RX11, Cond.methodLinkNest RX11 55 yX6_init RX11, Cond.methodLinkNest RX2 11 yX7_init RX11, Cond.methodLinkNest RX9 31 yX11_isWithin RX11, Cond.methodLinkNest RX0 34 yX11_isWithin RX11, Cond.methodLinkNest RX3 22 yX11_isWithin RX11, Cond.methodLinkNest RX4 38 yX11_isWithin RX11, Cond.methodLinkNest RX6 40 yX11_isWithin RX11, Cond.methodLinkNest RX5 119 yX11_isWithin RX11, Cond.methodLinkNest RX8 38 yX11_isWithin RX11]
theorem nl_form : ∀ w ∈ NL, ∃ (a : String) (i : Nat) (x : MethodName) (b : String), w = .methodLinkNest a i x b := by
  intro w hw
  simp only [NL, List.mem_cons, List.not_mem_nil, or_false] at hw
  rcases hw with rfl | rfl | rfl | rfl | rfl | rfl | rfl | rfl | rfl | rfl | rfl | rfl | rfl | rfl | rfl <;> exact ⟨_, _, _, _, rfl⟩
theorem nl_X11_11 : Cond.methodLinkNest RX11 11 yX10_init RX11 ∈ NL := List.mem_of_getElem? (i := 0) rfl
theorem nl_X5_11 : Cond.methodLinkNest RX5 11 yX4_init RX11 ∈ NL := List.mem_of_getElem? (i := 1) rfl
theorem nl_X11_27 : Cond.methodLinkNest RX11 27 yX4_init RX11 ∈ NL := List.mem_of_getElem? (i := 2) rfl
theorem nl_X11_34 : Cond.methodLinkNest RX11 34 yX1_init RX11 ∈ NL := List.mem_of_getElem? (i := 3) rfl
theorem nl_X11_41 : Cond.methodLinkNest RX11 41 yX9_init RX11 ∈ NL := List.mem_of_getElem? (i := 4) rfl
theorem nl_X11_48 : Cond.methodLinkNest RX11 48 yX0_init RX11 ∈ NL := List.mem_of_getElem? (i := 5) rfl
theorem nl_X11_55 : Cond.methodLinkNest RX11 55 yX6_init RX11 ∈ NL := List.mem_of_getElem? (i := 6) rfl
theorem nl_X2_11 : Cond.methodLinkNest RX2 11 yX7_init RX11 ∈ NL := List.mem_of_getElem? (i := 7) rfl
theorem nl_X9_31 : Cond.methodLinkNest RX9 31 yX11_isWithin RX11 ∈ NL := List.mem_of_getElem? (i := 8) rfl
theorem nl_X0_34 : Cond.methodLinkNest RX0 34 yX11_isWithin RX11 ∈ NL := List.mem_of_getElem? (i := 9) rfl
theorem nl_X3_22 : Cond.methodLinkNest RX3 22 yX11_isWithin RX11 ∈ NL := List.mem_of_getElem? (i := 10) rfl
theorem nl_X4_38 : Cond.methodLinkNest RX4 38 yX11_isWithin RX11 ∈ NL := List.mem_of_getElem? (i := 11) rfl
theorem nl_X6_40 : Cond.methodLinkNest RX6 40 yX11_isWithin RX11 ∈ NL := List.mem_of_getElem? (i := 12) rfl
theorem nl_X5_119 : Cond.methodLinkNest RX5 119 yX11_isWithin RX11 ∈ NL := List.mem_of_getElem? (i := 13) rfl
theorem nl_X8_38 : Cond.methodLinkNest RX8 38 yX11_isWithin RX11 ∈ NL := List.mem_of_getElem? (i := 14) rfl
/-- the array classes: bytes, ints, booleans, rows of ints -/
def TY (cy : Nat → ClassId) : List (ClassId × FieldType) := [(cy 0, .byte), (cy 1, .int), (cy 2, .boolean), (cy 3, .array .int)]
/-- what stays of the tables through every call: classes, arrays, links among nest mates -/
def KK (D : va_G) (cy : Nat → ClassId) (U : State) : Prop := va_K D vwCl (TY cy) U ∧ ∀ w ∈ NL, va_Nw w U
theorem KK.warm {D : va_G} {cy : Nat → ClassId} {s U : State} (hW : s.WarmedH U.vm) (h : KK D cy s) : KK D cy U := by
  refine ⟨va_K.moved hW.alike h.1, fun w hw => ?_⟩
  obtain ⟨a, i, x, b, rfl⟩ := nl_form w hw
  exact va_Nw.warmM hW (h.2 _ hw)
theorem KK.call {D : va_G} {cy : Nat → ClassId} {U : State} {g : JFrame} {mk : MethodId} {a : Array Value} (h : KK D cy U) : KK D cy (U.calling g mk a) := by
  refine ⟨va_K.moved (u := U) (U := U.calling g mk a) (Vm.Alike.refl U.vm) h.1, fun w hw => ?_⟩
  obtain ⟨a, i, x, b, rfl⟩ := nl_form w hw
  exact va_Nw.same rfl rfl (h.2 _ hw)
/-- a frame's ground: machine, bytes, locals, class, words, tables -/
def EV (p : Program) (s : State) (m : MethodId) (c : Code) (args : Array Value) (cc : ByteArray) (own : String) (nL : Nat) (D : va_G) (cy : Nat → ClassId) : Prop :=
  p.tables.exec = Jvm.exec ∧ c.code = cc ∧ c.maxLocals = nL ∧ s.vm.findClass own = some m.cls ∧ (∀ w ∈ TB, w.before args s = true) ∧ KK D cy s
/-- the heap now: the cells ws, apart, and nothing outside A changed since the frame's start -/
def HW (D : va_G) (A : Nat → Prop) (s : State) (ws : va_W) (H : Heap) (locs : List Loc) : Prop := va_P D vwCl ws H ∧ va_D A ws ∧ va_S A s.heap H locs
theorem va_D_fst {A : Nat → Prop} {ws ws' : va_W} (h : ws'.map (fun q => q.1) = ws.map (fun q => q.1)) (hD : va_D A ws) : va_D A ws' := by
  have key : ∀ (k : Nat) (q : Nat × va_E), ws'[k]? = some q → ∃ q0, ws[k]? = some q0 ∧ q0.1 = q.1 := by
    intro k q hk
    have h1 : (ws'.map (fun q => q.1))[k]? = some q.1 := by rw [List.getElem?_map, hk]; rfl
    rw [h, List.getElem?_map] at h1
    cases h2 : ws[k]? with
    | none => rw [h2] at h1; cases h1
    | some q0 => rw [h2] at h1; exact ⟨q0, rfl, Option.some.inj h1⟩
  refine ⟨fun i j x y hi hj hxy => ?_, fun k q hk => ?_⟩
  · obtain ⟨x0, h1, h2⟩ := key i x hi
    obtain ⟨y0, h3, h4⟩ := key j y hj
    exact hD.1 i j x0 y0 h1 h3 (h2.trans (hxy.trans h4.symm))
  · obtain ⟨q0, h1, h2⟩ := key k q hk
    rw [← h2]
    exact hD.2 k q0 h1
section RW
variable {p : Program} {l : Launch} {e : Env} {R : Room} {s : State} {m : MethodId} {args : Array Value} {below : List Frame} {meth : Method} {c : Code} {H : Heap} {locs : List Loc} {cells slots : Nat} {Q : State → Prop}
variable {cc : ByteArray} {pc : Nat} {ls : Array Slot} {rest : List Value} {D : va_G} {A : Nat → Prop} {a : Nat} {ws ws' : va_W} {own : String} {nL : Nat} {cy : Nat → ClassId}
theorem r_get (E : EV p s m c args cc own nL D cy) (h : HW D A s ws H locs) {q0 ci index N : Nat} {fs : List Value} {C : String} {T : u_T} (k : Nat) {v : Value} (he : ws[q0]? = some (a, .inr (ci, fs))) (hc : vwCl[ci]? = some (C, T, N)) (hin : ∀ w ∈ u_ws C T N, w ∈ TB) (hk : k < N) (hl : Cond.fieldLink own index (T k).1 (T k).2.1 (T k).2.2.1 ∈ TB) (hv : fs[k]? = some v) (hdg : decode cc pc = .ok (.getfield index, 3))
    (kk : W p l e R s m args below meth c H locs cells slots Q (F0 m (pc + 3) ls (v :: rest))) : W p l e R s m args below meth c H locs cells slots Q (F0 m pc ls (.ref a :: rest)) :=
  va_get (ref := (T k).1) E.1 E.2.1 E.2.2.2.2.1 hin E.2.2.2.1 E.2.2.2.2.2.1 h.1 q0 he hc k hk (E.2.2.2.2.1 _ hl) (fun _ h9 => h9) hv hdg kk
theorem r_put (E : EV p s m c args cc own nL D cy) (h : HW D A s ws H locs) {q0 ci index N : Nat} {fs : List Value} {C : String} {T : u_T} {ty0 : Nat → FieldType} {ty : FieldType} (k : Nat) {v : Value} (he : ws[q0]? = some (a, .inr (ci, fs))) (hc : vwCl[ci]? = some (C, T, N)) (hin : ∀ w ∈ u_ws C T N, w ∈ TB) (hty : ∀ k, k < N → parseFieldDescriptor (T k).2.2.1 = some (ty0 k)) (hnm : ∀ a, a < N → ∀ b, b < N → a ≠ b → (T a).2.1 ≠ (T b).2.1) (hk : k < N) (hl : Cond.fieldLink own index (T k).1 (T k).2.1 (T k).2.2.1 ∈ TB) (hfin : (T k).2.2.2 = false) (hd : parseFieldDescriptor (T k).2.2.1 = some ty) (hn : narrow ty v = v) (hfit : fits ty v = true) (hlen : k < fs.length) (hw : ws.set q0 (a, .inr (ci, fs.set k v)) = ws') (hdg : decode cc pc = .ok (.putfield index, 3))
    (kk : ∀ (H1 : Heap) (locs1 : List Loc), HW D A s ws' H1 locs1 → W p l e R s m args below meth c H1 locs1 cells slots Q (F0 m (pc + 3) ls rest)) : W p l e R s m args below meth c H locs cells slots Q (F0 m pc ls (v :: .ref a :: rest)) := by
  subst hw
  exact va_put (ref := (T k).1) E.1 E.2.1 E.2.2.2.2.1 hin ty0 hty hnm E.2.2.2.1 E.2.2.2.2.2.1 h.1 h.2.1 h.2.2 q0 he hc k hk (E.2.2.2.2.1 _ hl) (fun _ h9 => h9) hfin hd hn hfit hlen hdg (fun H1 locs1 h1 h2 h3 => kk H1 locs1 ⟨h1, h2, h3⟩)
theorem r_iald (E : EV p s m c args cc own nL D cy) (h : HW D A s ws H locs) {q0 n : Nat} {f : Nat → Int32} (he : ws[q0]? = some (a, .inl (cy 1, n, .inl f))) {i : Int32} (hin : vp_in i n) (hdg : decode cc pc = .ok (.iaload, 1))
    (kk : W p l e R s m args below meth c H locs cells slots Q (F0 m (pc + 1) ls (.int (f i.toNatClampNeg) :: rest))) : W p l e R s m args below meth c H locs cells slots Q (F0 m pc ls (.int i :: .ref a :: rest)) :=
  va_iald E.1 E.2.1 E.2.2.2.2.2.1 h.1 q0 1 he rfl hin hdg kk
theorem r_bald (E : EV p s m c args cc own nL D cy) (h : HW D A s ws H locs) {q0 n : Nat} {f : Nat → Int32} (he : ws[q0]? = some (a, .inl (cy 0, n, .inl f))) {i : Int32} (hin : vp_in i n) (hdg : decode cc pc = .ok (.baload, 1))
    (kk : W p l e R s m args below meth c H locs cells slots Q (F0 m (pc + 1) ls (.int (f i.toNatClampNeg) :: rest))) : W p l e R s m args below meth c H locs cells slots Q (F0 m pc ls (.int i :: .ref a :: rest)) :=
  va_bald E.1 E.2.1 E.2.2.2.2.2.1 h.1 q0 0 he rfl hin hdg kk
theorem r_zald (E : EV p s m c args cc own nL D cy) (h : HW D A s ws H locs) {q0 n : Nat} {f : Nat → Int32} (he : ws[q0]? = some (a, .inl (cy 2, n, .inl f))) {i : Int32} (hin : vp_in i n) (hdg : decode cc pc = .ok (.baload, 1))
    (kk : W p l e R s m args below meth c H locs cells slots Q (F0 m (pc + 1) ls (.int (f i.toNatClampNeg) :: rest))) : W p l e R s m args below meth c H locs cells slots Q (F0 m pc ls (.int i :: .ref a :: rest)) :=
  va_zald E.1 E.2.1 E.2.2.2.2.2.1 h.1 q0 2 he rfl hin hdg kk
theorem r_iast (E : EV p s m c args cc own nL D cy) (h : HW D A s ws H locs) {q0 n : Nat} {f : Nat → Int32} (he : ws[q0]? = some (a, .inl (cy 1, n, .inl f))) {i x : Int32} (hin : vp_in i n) (hw : ws.set q0 (a, .inl (cy 1, n, .inl (upd f i.toNatClampNeg x))) = ws') (hdg : decode cc pc = .ok (.iastore, 1))
    (kk : ∀ (H1 : Heap) (locs1 : List Loc), HW D A s ws' H1 locs1 → W p l e R s m args below meth c H1 locs1 cells slots Q (F0 m (pc + 1) ls rest)) : W p l e R s m args below meth c H locs cells slots Q (F0 m pc ls (.int x :: .int i :: .ref a :: rest)) := by
  subst hw
  exact va_iast E.1 E.2.1 E.2.2.2.2.2.1 h.1 h.2.1 h.2.2 q0 1 he rfl hin hdg (fun H1 locs1 h1 h2 h3 => kk H1 locs1 ⟨h1, h2, h3⟩)
theorem r_bast (E : EV p s m c args cc own nL D cy) (h : HW D A s ws H locs) {q0 n : Nat} {f : Nat → Int32} (he : ws[q0]? = some (a, .inl (cy 0, n, .inl f))) {i x : Int32} (hin : vp_in i n) (hw : ws.set q0 (a, .inl (cy 0, n, .inl (upd f i.toNatClampNeg (vp_nar .byte x)))) = ws') (hdg : decode cc pc = .ok (.bastore, 1))
    (kk : ∀ (H1 : Heap) (locs1 : List Loc), HW D A s ws' H1 locs1 → W p l e R s m args below meth c H1 locs1 cells slots Q (F0 m (pc + 1) ls rest)) : W p l e R s m args below meth c H locs cells slots Q (F0 m pc ls (.int x :: .int i :: .ref a :: rest)) := by
  subst hw
  exact va_bast E.1 E.2.1 E.2.2.2.2.2.1 h.1 h.2.1 h.2.2 q0 0 he rfl hin hdg (fun H1 locs1 h1 h2 h3 => kk H1 locs1 ⟨h1, h2, h3⟩)
theorem r_zast (E : EV p s m c args cc own nL D cy) (h : HW D A s ws H locs) {q0 n : Nat} {f : Nat → Int32} (he : ws[q0]? = some (a, .inl (cy 2, n, .inl f))) {i x : Int32} (hin : vp_in i n) (hw : ws.set q0 (a, .inl (cy 2, n, .inl (upd f i.toNatClampNeg (vp_nar .boolean x)))) = ws') (hdg : decode cc pc = .ok (.bastore, 1))
    (kk : ∀ (H1 : Heap) (locs1 : List Loc), HW D A s ws' H1 locs1 → W p l e R s m args below meth c H1 locs1 cells slots Q (F0 m (pc + 1) ls rest)) : W p l e R s m args below meth c H locs cells slots Q (F0 m pc ls (.int x :: .int i :: .ref a :: rest)) := by
  subst hw
  exact va_zast E.1 E.2.1 E.2.2.2.2.2.1 h.1 h.2.1 h.2.2 q0 2 he rfl hin hdg (fun H1 locs1 h1 h2 h3 => kk H1 locs1 ⟨h1, h2, h3⟩)
theorem r_alen (E : EV p s m c args cc own nL D cy) (h : HW D A s ws H locs) {q0 n : Nat} {f : Nat → Int32} (he : ws[q0]? = some (a, .inl (cy 1, n, .inl f))) {v : Int32} (hn : Int32.ofNat n = v) (hdg : decode cc pc = .ok (.arraylength, 1))
    (kk : W p l e R s m args below meth c H locs cells slots Q (F0 m (pc + 1) ls (.int v :: rest))) : W p l e R s m args below meth c H locs cells slots Q (F0 m pc ls (.ref a :: rest)) := by
  exact va_alen E.1 E.2.1 E.2.2.2.2.2.1 h.1 q0 1 he rfl hn hdg kk
end RW

