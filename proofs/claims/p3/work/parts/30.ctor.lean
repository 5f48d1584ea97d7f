/-! ===== constructors: worlds that grow ===== -/
def PC (D : va_G) (cy : Nat → ClassId) (ws : va_W) (sz : Nat) (U : State) : Prop := U.heap.size = sz ∧ va_P D vwCl ws U.heap ∧ va_D (fun _ => True) ws ∧ KK D cy U
def CC (l : Launch) (y : MethodName) (cc : ByteArray) (n : Nat) (rm : Room) (D : va_G) (cy : Nat → ClassId) (ws : va_W) (sz : Nat) (av : List Value) (mc ms : Nat) (w1 : (Nat → Nat) → va_W) : Prop :=
  Met l y (WS y cc n none) rm (va_Pc av (PC D cy ws sz)) (va_Qv (fun _ : Nat → Nat => True) (fun u t => va_P D vwCl (w1 u) t.heap ∧ va_D (va_A ws sz) (w1 u)) (va_A ws sz)) mc ms (va_A ws sz)
def rmC (f c k n : Nat) : Room := { frames := f, cells := c, slots := k, locals := n }
theorem pc_blind (D : va_G) (cy : Nat → ClassId) (ws : va_W) (sz : Nat) (av : List Value) : FrameBlind (va_Pc av (PC D cy ws sz)) := by
  intro a U g mk q
  exact ⟨q.1, q.2.1, q.2.2.1, q.2.2.2.1, q.2.2.2.2.call⟩
theorem n_of {l : Launch} {y : MethodName} {cc : ByteArray} {n : Nat} {rm : Room} {D : va_G} {cy : Nat → ClassId} {ws : va_W} {sz : Nat} {av : List Value} {mc ms : Nat} {w1 : (Nat → Nat) → va_W} {lv : List (Nat × Value)} (hy : plainName y.cls = true) (hlen : (lg_sl av).length ≤ n) (hlv : lv_args 0 av = lv) (hyn : y.name = "<init>")
    (body : ∀ (p : Program) (e : Env) (s : State) (m : MethodId) (args : Array Value) (below : List Frame) (meth : Method) (c : Code) (ls : Array Slot), EV p s m c args cc y.cls n D cy → s.heap.size = sz → HW D (va_A ws sz) s ws s.heap [] → (∀ q, s.heap.size ≤ q → va_A ws sz q) → meth.sig.returnType = none → meth.locks = false → meth.name = "<init>" → lv_has ls n lv → W p l e rm s m args below meth c s.heap [] 0 0 (MQ below (va_Qv (fun _ : Nat → Nat => True) (fun u t => va_P D vwCl (w1 u) t.heap ∧ va_D (va_A ws sz) (w1 u)) (va_A ws sz)) args s mc ms (va_A ws sz)) (F0 m 0 ls [])) :
    CC l y cc n rm D cy ws sz av mc ms w1 := by
  refine Met.ofW (cc := cc) (maxL := n) (ret := none) hy rfl ?_
  intro p e s m args below meth c s₁ B hml hv
  obtain ⟨rfl, hsz, hP, hD, hK⟩ := hv
  have hts := atoms_spec (ws := WS y cc n none) B.pre
  have hin : meth.name = y.name := (name_of_methodNamed B.named B.method).1
  have hl := lv_entry av (n := n) hlen
  rw [lg_entry_eq]
  generalize (lg_sl av ++ List.replicate (n - (lg_sl av).length) Slot.unset).toArray = ls at hl ⊢
  rw [hlv] at hl
  exact body p e s m av.toArray below meth c ls ⟨B.exec, B.bytes, hml, findClass_of_methodNamed B.named, fun w hw => hts w (List.mem_cons_of_mem _ hw), hK⟩ hsz ⟨hP, hD.self, va_S.rf⟩ (fun q hq => Or.inr (hsz ▸ hq)) B.returns B.notSynchronized (hin.trans hyn) hl
theorem sub_P {D : va_G} {cl : List vw_C} {ws wc : va_W} {H : Heap} {isC : List Nat} (h : va_P D cl ws H) (hC : isC.map (fun i => ws[i]?) = wc.map some) : va_P D cl wc H := by
  intro k q hk
  have h1 : (isC.map (fun i => ws[i]?))[k]? = some (some q) := by rw [hC, List.getElem?_map, hk]; rfl
  rw [List.getElem?_map] at h1
  cases hi : isC[k]? with
  | none => rw [hi] at h1; cases h1
  | some i => rw [hi] at h1; exact h i q (Option.some.inj h1)
section CT
variable {p : Program} {l : Launch} {e : Env} {R : Room} {s : State} {m : MethodId} {args : Array Value} {below : List Frame} {meth : Method} {c : Code} {H : Heap} {locs : List Loc} {cells slots : Nat} {Q : State → Prop}
variable {cc bytes : ByteArray} {pc maxL index fr lo mc ms : Nat} {ls : Array Slot} {rest st0 As : List Value} {D : va_G} {A : Nat → Prop} {a b : Nat} {own : String} {nL : Nat} {cy : Nat → ClassId} {ws ws' wc wr : va_W} {y : MethodName} {w1 : (Nat → Nat) → va_W}
theorem r_newa (E : EV p s m c args cc own nL D cy) (h : HW D A s ws H locs) (hA : ∀ q, s.heap.size ≤ q → A q) {atype : ArrayType} {ty : FieldType} {n : Int32} {N k : Nat} (hty : newarray.typeOf atype = ty) (hk : (TY cy)[k]? = some (cy k, ty)) (harr : Cond.arrayClass ty ∈ TB) (hdv : defaultValue ty = .int 0) (hra : ∀ (U : State) (cA : ClassId), va_RA U cA ty = (U.vm.findClass ("[" ++ ty.toString) = some cA)) (hn : ¬ n < 0) (hN : n.toNatClampNeg = N) (hbytes : N * componentBytes ty ≤ 536870912) (hcells : cells + 1 ≤ R.cells) (hslots : slots + N ≤ R.slots) (hdg : decode cc pc = .ok (.newarray atype, 2))
    (kk : ∀ (q : Nat) (H1 : Heap), HW D A s (ws ++ [(q, .inl (cy k, N, .inl (fun _ => 0)))]) H1 locs → W p l e R s m args below meth c H1 locs (cells + 1) (slots + N) Q (F0 m (pc + 2) ls (.ref q :: rest))) : W p l e R s m args below meth c H locs cells slots Q (F0 m pc ls (.int n :: rest)) := by
  subst hty
  refine va_newaK E.1 E.2.1 (E.2.2.2.2.1 _ harr) rfl hdg rfl hn hN hbytes hcells hslots rfl fun H1 cA e1 z1 o1 hAr hNm => ?_
  have hc : cA = cy k := by
    have h9 := (E.2.2.2.2.2.1.2 k _ hk).2
    rw [hra] at h9
    exact Option.some.inj (hNm.symm.trans h9)
  subst hc
  have hk9 : ∀ (k : Nat) (x : Nat × va_E), ws[k]? = some x → H1[x.1]? = H[x.1]? := fun k x hx => o1 x.1 ((h.1 k x hx).lt)
  refine kk H.size H1 ⟨(h.1.kept hk9).app (fun k x hx => ?_), h.2.1.push h.1 rfl (hA _ h.2.2.1), Nat.le_trans h.2.2.1 (by omega), fun x h1 h2 => (o1 x (Nat.lt_of_lt_of_le h1 h.2.2.1)).trans (h.2.2.2.1 x h1 h2), h.2.2.2.2⟩
  have hz : k < 1 := (List.getElem?_eq_some_iff.mp hx).1
  rw [show k = 0 by omega] at hx
  cases hx
  show H1[H.size]? = some (vp_cell _ _)
  rw [hdv] at e1
  rw [vp_cell_i]
  exact e1
theorem r_new (E : EV p s m c args cc own nL D cy) (h : HW D A s ws H locs) (hA : ∀ q, s.heap.size ≤ q → A q) {C : String} {T : u_T} {N ci : Nat} {ty0 : Nat → FieldType} {fs : List Value} (hin : ∀ w ∈ u_ws C T N, w ∈ TB) (hty : ∀ k, k < N → parseFieldDescriptor (T k).2.2.1 = some (ty0 k)) (cl : Cond.classLink own index C ∈ TB) (inst : Cond.instantiable C N ∈ TB) (ini : Cond.initialized C ∈ TB) (hc : vwCl[ci]? = some (C, T, N)) (hfs : ∀ j, j < N → defaultValue (ty0 j) = vp_V fs j) (hcells : cells + 1 ≤ R.cells) (hslots : slots + N ≤ R.slots) (hdg : decode cc pc = .ok (.new index, 3))
    (kk : ∀ (q : Nat) (H1 : Heap), HW D A s (ws ++ [(q, .inr (ci, fs))]) H1 locs → W p l e R s m args below meth c H1 locs (cells + 1) (slots + N) Q (F0 m (pc + 3) ls (.ref q :: rest))) : W p l e R s m args below meth c H locs cells slots Q (F0 m pc ls rest) :=
  va_new E.1 E.2.1 E.2.2.2.2.1 hin ty0 hty E.2.2.2.1 (E.2.2.2.2.1 _ cl) (E.2.2.2.2.1 _ inst) (E.2.2.2.2.1 _ ini) E.2.2.2.2.2.1 h.1 h.2.1 h.2.2 hA hc hfs hcells hslots hdg (fun q H1 h1 h2 h3 => kk q H1 ⟨h1, h2, h3⟩)
theorem r_putF (E : EV p s m c args cc own nL D cy) (hin2 : meth.name = "<init>") (h : HW D A s ws H locs) {q0 ci N : Nat} {fs : List Value} {C : String} {T : u_T} {ty0 : Nat → FieldType} {ty : FieldType} (k : Nat) {v : Value} (he : ws[q0]? = some (a, .inr (ci, fs))) (hc : vwCl[ci]? = some (C, T, N)) (hin : ∀ w ∈ u_ws C T N, w ∈ TB) (hty : ∀ k, k < N → parseFieldDescriptor (T k).2.2.1 = some (ty0 k)) (hnm : ∀ a, a < N → ∀ b, b < N → a ≠ b → (T a).2.1 ≠ (T b).2.1) (hk : k < N) (hl : Cond.fieldLink own index (T k).1 (T k).2.1 (T k).2.2.1 ∈ TB) (hfin : (T k).2.2.2 = true) (hdecl : (T k).1 = own) (hd : parseFieldDescriptor (T k).2.2.1 = some ty) (hn : narrow ty v = v) (hfit : fits ty v = true) (hlen : k < fs.length) (hw : ws.set q0 (a, .inr (ci, fs.set k v)) = ws') (hdg : decode cc pc = .ok (.putfield index, 3))
    (kk : ∀ (H1 : Heap) (locs1 : List Loc), HW D A s ws' H1 locs1 → W p l e R s m args below meth c H1 locs1 cells slots Q (F0 m (pc + 3) ls rest)) : W p l e R s m args below meth c H locs cells slots Q (F0 m pc ls (v :: .ref a :: rest)) := by
  subst hw
  exact va_putF (ref := (T k).1) E.1 E.2.1 E.2.2.2.2.1 hin ty0 hty hnm E.2.2.2.1 E.2.2.2.2.2.1 h.1 h.2.1 h.2.2 q0 he hc k hk (E.2.2.2.2.1 _ hl) (fun _ h9 => h9) hfin hin2 hdecl hd hn hfit hlen hdg (fun H1 locs1 h1 h2 h3 => kk H1 locs1 ⟨h1, h2, h3⟩)
theorem n_call (h : HW D A s ws H locs) (hA : ∀ q, s.heap.size ≤ q → A q) {a9 : Array Value} (isC isR : List Nat) (hC : isC.map (fun i => ws[i]?) = wc.map some) (hR : isR.map (fun i => ws[i]?) = wr.map some) (hn : va_nd isR = true) (hdis : ∀ i ∈ isR, i ∉ isC)
    (hr : va_Run p l e R s m args below meth c H locs cells slots mc ms (F0 m pc ls st0) rest (va_Qv (fun _ : Nat → Nat => True) (fun u t => va_P D vwCl (w1 u) t.heap ∧ va_D (va_A wc H.size) (w1 u)) (va_A wc H.size) a9) (va_A wc H.size))
    (kk : ∀ (u : Nat → Nat) (H1 : Heap) (locs1 : List Loc), HW D A s (wr ++ w1 u) H1 locs1 → W p l e R s m args below meth c H1 locs1 (cells + mc) (slots + ms) Q (F0 m (pc + 3) ls rest)) : W p l e R s m args below meth c H locs cells slots Q (F0 m pc ls st0) := by
  have hF := va_free h.2.1 h.2.2 hA isC hC
  refine va_callv hr h.2.2 (fun q _ hq => hF q hq) hF (fun u t H1 locs1 ht _ _ hB _ hk1 hS => ?_)
  obtain ⟨hP, hD⟩ := va_join h.1 h.2.1 isC isR hC hR hn hdis hk1 hF (ht ▸ hB.1) hB.2
  exact kk u H1 locs1 ⟨hP, hD, hS⟩
theorem n_runI (E : EV p s m c args cc own nL D cy) (h : HW D A s ws H locs) (isC : List Nat) (hnd : va_nd isC = true) (hC : isC.map (fun i => ws[i]?) = wc.map some) (hM : CC l y bytes maxL (rmC fr mc ms lo) D cy wc H.size (.ref b :: As) mc ms w1) (co : Cond.code y bytes maxL none ∈ TB) (ml : Cond.methodLink own index y ∈ TB) (im : Cond.instanceMethod y ∈ TB) (ini : Cond.initialized y.cls ∈ TB) (hyn : y.name = "<init>") {k : Nat} (hn : okN y k) (hlen : As.length = k)
    (hR : fr + 1 ≤ R.frames ∧ 8 + (maxL + 11) + lo ≤ R.locals) (hsz : ls.size = nL) (hst : st0 = As.reverse ++ .ref b :: rest) (hroom : (rest.map fun v => v.category).sum ≤ 8) (hdg : decode cc pc = .ok (.invokespecial index, 3)) (hcs : cells + mc ≤ R.cells ∧ slots + ms ≤ R.slots) :
    va_Run p l e R s m args below meth c H locs cells slots mc ms (F0 m pc ls st0) rest (va_Qv (fun _ : Nat → Nat => True) (fun u t => va_P D vwCl (w1 u) t.heap ∧ va_D (va_A wc H.size) (w1 u)) (va_A wc H.size) (Value.ref b :: As).toArray) (va_A wc H.size) :=
  va_runI (As := As) (rest := rest) ⟨E.1, E.2.1, E.2.2.1, E.2.2.2.1, E.2.2.2.2.1⟩ hM (cwI k E.2.2.2.2.1 (tb_good co) rfl rfl rfl (E.2.2.2.2.1 _ ini) (E.2.2.2.2.1 _ ml) (E.2.2.2.2.1 _ im) hyn hn hR) ⟨pc_blind D cy wc H.size _, fun U hU hW => ⟨rfl, by rw [hU], by rw [hU]; exact sub_P h.1 hC, (h.2.1.sub isC hnd hC).weaken (fun _ _ _ _ => trivial), E.2.2.2.2.2.warm hW⟩⟩ rfl hlen hsz hst (lv_room hroom) hdg hcs
theorem n_runIN {host : String} (E : EV p s m c args cc own nL D cy) (h : HW D A s ws H locs) (isC : List Nat) (hnd : va_nd isC = true) (hC : isC.map (fun i => ws[i]?) = wc.map some) (hM : CC l y bytes maxL (rmC fr mc ms lo) D cy wc H.size (.ref b :: As) mc ms w1) (co : Cond.code y bytes maxL none ∈ TB) (ml : Cond.methodLinkNest own index y host ∈ NL) (im : Cond.instanceMethod y ∈ TB) (ini : Cond.initialized y.cls ∈ TB) (hyn : y.name = "<init>") {k : Nat} (hn : okN y k) (hlen : As.length = k)
    (hR : fr + 1 ≤ R.frames ∧ 8 + (maxL + 11) + lo ≤ R.locals) (hsz : ls.size = nL) (hst : st0 = As.reverse ++ .ref b :: rest) (hroom : (rest.map fun v => v.category).sum ≤ 8) (hdg : decode cc pc = .ok (.invokespecial index, 3)) (hcs : cells + mc ≤ R.cells ∧ slots + ms ≤ R.slots) :
    va_Run p l e R s m args below meth c H locs cells slots mc ms (F0 m pc ls st0) rest (va_Qv (fun _ : Nat → Nat => True) (fun u t => va_P D vwCl (w1 u) t.heap ∧ va_D (va_A wc H.size) (w1 u)) (va_A wc H.size) (Value.ref b :: As).toArray) (va_A wc H.size) :=
  va_runIN (As := As) (rest := rest) ⟨E.1, E.2.1, E.2.2.1, E.2.2.2.1, E.2.2.2.2.1⟩ hM ⟨va_cnB k E.2.2.2.2.1 (tb_good co) rfl rfl rfl (E.2.2.2.2.2.2 _ ml) (E.2.2.2.2.1 _ ini) hn hR, hyn, E.2.2.2.2.1 _ im⟩ ⟨pc_blind D cy wc H.size _, fun U hU hW => ⟨rfl, by rw [hU], by rw [hU]; exact sub_P h.1 hC, (h.2.1.sub isC hnd hC).weaken (fun _ _ _ _ => trivial), E.2.2.2.2.2.warm hW⟩⟩ rfl hlen hsz hst (lv_room hroom) hdg hcs
theorem n_ret {A9 : Nat → Prop} (E : EV p s m c args cc own nL D cy) (h : HW D A9 s ws H locs) (hr : meth.sig.returnType = none) (hk : meth.locks = false) (u : Nat → Nat) (hw : ws = w1 u) (hdg : decode cc pc = .ok (.return_, 1)) : W p l e R s m args below meth c H locs cells slots (MQ below (va_Qv (fun _ : Nat → Nat => True) (fun u t => va_P D vwCl (w1 u) t.heap ∧ va_D A9 (w1 u)) A9) args s cells slots A9) (F0 m pc ls []) := by
  subst hw
  exact W.vret E.1 E.2.1 hr (fun t ht _ => ⟨⟨u, rfl, trivial, by show va_P D vwCl (w1 u) t.heap; rw [ht]; exact h.1, h.2.1⟩, h.2.2.F ht⟩) h.2.2.2.2 hdg hk
end CT
