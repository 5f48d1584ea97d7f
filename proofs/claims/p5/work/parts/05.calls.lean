/-! ===== contracts over one world: its ints, its rows, its longs; the calls of such contracts ===== -/
abbrev St : Type := (Nat → Int32) × (Nat → Nat → Int32) × (Nat → Int64)
def fF (σ : St) (k : Nat) (v : Int32) : St := (va_up σ.1 k v, σ.2.1, σ.2.2)
def fR (σ : St) (k : Nat) (f : Nat → Int32) : St := (σ.1, va_up σ.2.1 k f, σ.2.2)
def fL (σ : St) (k : Nat) (v : Int64) : St := (σ.1, σ.2.1, va_up σ.2.2 k v)
def PP (D : va_G) (cy : Nat → ClassId) (wf : St → va_W) (A : Nat → Prop) (σ : St) (U : State) : Prop := va_P D vwCl (wf σ) U.heap ∧ va_D A (wf σ) ∧ KK D cy U
def CI (l : Launch) (y : MethodName) (cc : ByteArray) (n : Nat) (r : Option FieldType) (rm : Room) (D : va_G) (cy : Nat → ClassId) (wf : St → va_W) (A : Nat → Prop) (av : List Value) (σ : St) (post : Int32 → St → Prop) : Prop :=
  Met l y (WS y cc n r) rm (va_Pc av (PP D cy wf A σ)) (va_Qi post (fun u t => va_P D vwCl (wf u) t.heap) A) 0 0 A
def CL (l : Launch) (y : MethodName) (cc : ByteArray) (n : Nat) (r : Option FieldType) (rm : Room) (D : va_G) (cy : Nat → ClassId) (wf : St → va_W) (A : Nat → Prop) (av : List Value) (σ : St) (post : Int64 → St → Prop) : Prop :=
  Met l y (WS y cc n r) rm (va_Pc av (PP D cy wf A σ)) (va_Ql post (fun u t => va_P D vwCl (wf u) t.heap) A) 0 0 A
def CV (l : Launch) (y : MethodName) (cc : ByteArray) (n : Nat) (r : Option FieldType) (rm : Room) (D : va_G) (cy : Nat → ClassId) (wf : St → va_W) (A : Nat → Prop) (av : List Value) (σ : St) (post : St → Prop) : Prop :=
  Met l y (WS y cc n r) rm (va_Pc av (PP D cy wf A σ)) (va_Qv post (fun u t => va_P D vwCl (wf u) t.heap) A) 0 0 A
/-- a room of depth d -/
def rmOf (f k : Nat) : Room := { frames := f, cells := 0, slots := 0, locals := k }
theorem pp_blind (D : va_G) (cy : Nat → ClassId) (wf : St → va_W) (A : Nat → Prop) (av : List Value) (σ : St) : FrameBlind (va_Pc av (PP D cy wf A σ)) := by
  intro a U g mk q
  exact ⟨q.1, q.2.1, q.2.2.1, q.2.2.2.call⟩
theorem wsv_good {y : MethodName} {cc : ByteArray} {n idx : Nat} {r : Option FieldType} {own : String} (co : Cond.code y cc n r ∈ TB) (ml : Cond.methodLink own idx y ∈ TB) (im : Cond.instanceMethod y ∈ TB) (se : Cond.selects y.cls y y ∈ TB) (ini : Cond.initialized y.cls ∈ TB) : GoodIn TB (wsV own idx y.cls y (WS y cc n r)) := by
  intro w hw
  rcases List.mem_append.mp hw with h | h
  · have hm : w ∈ TB := by
      rcases List.mem_cons.mp h with e | h
      · rw [e]; exact ml
      rcases List.mem_cons.mp h with e | h
      · rw [e]; exact im
      rcases List.mem_cons.mp h with e | h
      · rw [e]; exact se
      rcases List.mem_cons.mp h with e | h
      · rw [e]; exact ini
      · cases h
    exact ⟨hm, good_of_word (List.mem_filter.mp hm).2⟩
  · exact tb_good co w h
theorem wss_good {y : MethodName} {cc : ByteArray} {n idx : Nat} {r : Option FieldType} {own : String} (co : Cond.code y cc n r ∈ TB) (ml : Cond.methodLink own idx y ∈ TB) (st : Cond.static y ∈ TB) (ini : Cond.initialized own ∈ TB) : GoodIn TB (wsS own idx y (WS y cc n r)) := by
  intro w hw
  rcases List.mem_append.mp hw with h | h
  · have hm : w ∈ TB := by
      rcases List.mem_cons.mp h with e | h
      · rw [e]; exact ml
      rcases List.mem_cons.mp h with e | h
      · rw [e]; exact st
      rcases List.mem_cons.mp h with e | h
      · rw [e]; exact ini
      · cases h
    exact ⟨hm, good_of_word (List.mem_filter.mp hm).2⟩
  · exact tb_good co w h
/-- what a method's name must be to be called so, with k arguments -/
def okN (y : MethodName) (k : Nat) : Prop := y.cls ≠ "java/lang/invoke/MethodHandle" ∧ y.cls ≠ "java/lang/invoke/VarHandle" ∧ (parseMethodDescriptor y.desc).map (fun d => d.parameters.length) = some k
section CW
variable {p : Program} {l : Launch} {e : Env} {R : Room} {s : State} {m : MethodId} {args : Array Value} {below : List Frame} {meth : Method} {c : Code} {H : Heap} {locs : List Loc} {cells slots : Nat} {Q : State → Prop}
variable {cc bytes : ByteArray} {pc maxL index fr lo : Nat} {ls : Array Slot} {rest st0 As : List Value} {D : va_G} {A : Nat → Prop} {b : Nat} {own : String} {nL : Nat} {cy : Nat → ClassId} {wf : St → va_W} {σ : St} {y : MethodName} {ret : Option FieldType}
theorem q_runV {Qc : Array Value → State → Outcome → State → Prop} (E : EV p s m c args cc own nL D cy) (h : HW D A s (wf σ) H locs) (hM : Met l y (WS y bytes maxL ret) (rmOf fr lo) (va_Pc (.ref b :: As) (PP D cy wf A σ)) Qc 0 0 A) (co : Cond.code y bytes maxL ret ∈ TB) (ml : Cond.methodLink own index y ∈ TB) (im : Cond.instanceMethod y ∈ TB) (se : Cond.selects y.cls y y ∈ TB) (ini : Cond.initialized y.cls ∈ TB) {q0 ci N : Nat} {fs : List Value} {T : u_T} (he : (wf σ)[q0]? = some (b, .inr (ci, fs))) (hc : vwCl[ci]? = some (y.cls, T, N)) (hn : okN y As.length)
    (hR : fr + 1 ≤ R.frames ∧ 8 + (maxL + 11) + lo ≤ R.locals) (hsz : ls.size = nL) (hst : st0 = As.reverse ++ .ref b :: rest) (hroom : (rest.map fun v => v.category).sum ≤ 8) (hdg : decode cc pc = .ok (.invokevirtual index, 3)) (hcs : cells ≤ R.cells ∧ slots ≤ R.slots) :
    va_Run p l e R s m args below meth c H locs cells slots 0 0 (F0 m pc ls st0) rest (Qc (Value.ref b :: As).toArray) A :=
  va_runV (As := As) (rest := rest) ⟨E.1, E.2.1, E.2.2.1, E.2.2.2.1, E.2.2.2.2.1⟩ hM (cwV As.length E.2.2.2.2.1 (wsv_good co ml im se ini) rfl rfl rfl ⟨rfl, hn⟩ hR) ⟨pp_blind D cy wf A _ σ, va_recv E.2.2.2.2.2.1 h.1 hc he, fun U hU hW => ⟨rfl, by rw [hU]; exact h.1, h.2.1, E.2.2.2.2.2.warm hW⟩⟩ rfl rfl hsz hst (lv_room hroom) hdg hcs
theorem q_runS {Qc : Array Value → State → Outcome → State → Prop} (E : EV p s m c args cc own nL D cy) (h : HW D A s (wf σ) H locs) (hM : Met l y (WS y bytes maxL ret) (rmOf fr lo) (va_Pc As (PP D cy wf A σ)) Qc 0 0 A) (co : Cond.code y bytes maxL ret ∈ TB) (ml : Cond.methodLink own index y ∈ TB) (stt : Cond.static y ∈ TB) (ini : Cond.initialized own ∈ TB) (hy : y.cls = own) (hn : okN y As.length)
    (hR : fr + 1 ≤ R.frames ∧ 8 + (maxL + 11) + lo ≤ R.locals) (hsz : ls.size = nL) (hst : st0 = As.reverse ++ rest) (hroom : (rest.map fun v => v.category).sum ≤ 8) (hdg : decode cc pc = .ok (.invokestatic index, 3)) (hcs : cells ≤ R.cells ∧ slots ≤ R.slots) :
    va_Run p l e R s m args below meth c H locs cells slots 0 0 (F0 m pc ls st0) rest (Qc As.toArray) A :=
  va_runS (As := As) (rest := rest) ⟨E.1, E.2.1, E.2.2.1, E.2.2.2.1, E.2.2.2.2.1⟩ hM (cwS As.length E.2.2.2.2.1 (wss_good co ml stt ini) rfl rfl rfl ⟨hy, hn⟩ hR) ⟨pp_blind D cy wf A _ σ, fun U hU hW => ⟨rfl, by rw [hU]; exact h.1, h.2.1, E.2.2.2.2.2.warm hW⟩⟩ rfl rfl hsz hst (lv_room hroom) hdg hcs
theorem q_runSN {Qc : Array Value → State → Outcome → State → Prop} {host : String} (E : EV p s m c args cc own nL D cy) (h : HW D A s (wf σ) H locs) (hM : Met l y (WS y bytes maxL ret) (rmOf fr lo) (va_Pc As (PP D cy wf A σ)) Qc 0 0 A) (co : Cond.code y bytes maxL ret ∈ TB) (ml : Cond.methodLinkNest own index y host ∈ NL) (stt : Cond.static y ∈ TB) (ini : Cond.initialized y.cls ∈ TB) (hn : okN y As.length)
    (hR : fr + 1 ≤ R.frames ∧ 8 + (maxL + 11) + lo ≤ R.locals) (hsz : ls.size = nL) (hst : st0 = As.reverse ++ rest) (hroom : (rest.map fun v => v.category).sum ≤ 8) (hdg : decode cc pc = .ok (.invokestatic index, 3)) (hcs : cells ≤ R.cells ∧ slots ≤ R.slots) :
    va_Run p l e R s m args below meth c H locs cells slots 0 0 (F0 m pc ls st0) rest (Qc As.toArray) A :=
  va_runSN (As := As) (rest := rest) ⟨E.1, E.2.1, E.2.2.1, E.2.2.2.1, E.2.2.2.2.1⟩ hM ⟨va_cnB As.length E.2.2.2.2.1 (tb_good co) rfl rfl rfl (E.2.2.2.2.2.2 _ ml) (E.2.2.2.2.1 _ ini) hn hR, E.2.2.2.2.1 _ stt, trivial⟩ ⟨pp_blind D cy wf A _ σ, fun U hU hW => ⟨rfl, by rw [hU]; exact h.1, h.2.1, E.2.2.2.2.2.warm hW⟩⟩ rfl rfl hsz hst (lv_room hroom) hdg hcs
theorem k_i {post : Int32 → St → Prop} {a : Array Value} (h : HW D A s (wf σ) H locs) (hr : va_Run p l e R s m args below meth c H locs cells slots 0 0 (F0 m pc ls st0) rest (va_Qi post (fun u t => va_P D vwCl (wf u) t.heap) A a) A) (hw : ∀ σ σ' : St, (wf σ').map (fun q => q.1) = (wf σ).map (fun q => q.1))
    (kk : ∀ (r : Int32) (σ' : St) (H1 : Heap) (locs1 : List Loc), post r σ' → HW D A s (wf σ') H1 locs1 → W p l e R s m args below meth c H1 locs1 cells slots Q (F0 m (pc + 3) ls (.int r :: rest))) : W p l e R s m args below meth c H locs cells slots Q (F0 m pc ls st0) :=
  va_calli hr h.2.2 (fun _ _ h => h) (fun _ h => h) (fun r u t H1 locs1 ht _ hp hB _ _ hS => kk r u H1 locs1 hp ⟨ht ▸ hB, va_D_fst (hw σ u) h.2.1, hS⟩)
theorem k_l {post : Int64 → St → Prop} {a : Array Value} (h : HW D A s (wf σ) H locs) (hr : va_Run p l e R s m args below meth c H locs cells slots 0 0 (F0 m pc ls st0) rest (va_Ql post (fun u t => va_P D vwCl (wf u) t.heap) A a) A) (hw : ∀ σ σ' : St, (wf σ').map (fun q => q.1) = (wf σ).map (fun q => q.1))
    (kk : ∀ (r : Int64) (σ' : St) (H1 : Heap) (locs1 : List Loc), post r σ' → HW D A s (wf σ') H1 locs1 → W p l e R s m args below meth c H1 locs1 cells slots Q (F0 m (pc + 3) ls (.long r :: rest))) : W p l e R s m args below meth c H locs cells slots Q (F0 m pc ls st0) :=
  va_calll hr h.2.2 (fun _ _ h => h) (fun _ h => h) (fun r u t H1 locs1 ht _ hp hB _ _ hS => kk r u H1 locs1 hp ⟨ht ▸ hB, va_D_fst (hw σ u) h.2.1, hS⟩)
theorem k_v {post : St → Prop} {a : Array Value} (h : HW D A s (wf σ) H locs) (hr : va_Run p l e R s m args below meth c H locs cells slots 0 0 (F0 m pc ls st0) rest (va_Qv post (fun u t => va_P D vwCl (wf u) t.heap) A a) A) (hw : ∀ σ σ' : St, (wf σ').map (fun q => q.1) = (wf σ).map (fun q => q.1))
    (kk : ∀ (σ' : St) (H1 : Heap) (locs1 : List Loc), post σ' → HW D A s (wf σ') H1 locs1 → W p l e R s m args below meth c H1 locs1 cells slots Q (F0 m (pc + 3) ls rest)) : W p l e R s m args below meth c H locs cells slots Q (F0 m pc ls st0) :=
  va_callv hr h.2.2 (fun _ _ h => h) (fun _ h => h) (fun u t H1 locs1 ht _ hp hB _ _ hS => kk u H1 locs1 hp ⟨ht ▸ hB, va_D_fst (hw σ u) h.2.1, hS⟩)
/-- the ends -/
theorem t_i {post : Int32 → St → Prop} {v : Int32} (E : EV p s m c args cc own nL D cy) (h : HW D A s (wf σ) H locs) (hr : meth.sig.returnType = some .int) (hk : meth.locks = false) (hp : post v σ) (hdg : decode cc pc = .ok (.ireturn, 1)) : W p l e R s m args below meth c H locs 0 0 (MQ below (va_Qi post (fun u t => va_P D vwCl (wf u) t.heap) A) args s 0 0 A) (F0 m pc ls [.int v]) :=
  W.iret (v := v) E.1 E.2.1 hr (fun t ht _ => ⟨⟨v, σ, rfl, hp, by show va_P D vwCl (wf σ) t.heap; rw [ht]; exact h.1⟩, h.2.2.F ht⟩) h.2.2.2.2 hdg hk
theorem t_z {post : Int32 → St → Prop} {v : Int32} (E : EV p s m c args cc own nL D cy) (h : HW D A s (wf σ) H locs) (hr : meth.sig.returnType = some .boolean) (hk : meth.locks = false) (hv : v = 0 ∨ v = 1) (hp : post v σ) (hdg : decode cc pc = .ok (.ireturn, 1)) : W p l e R s m args below meth c H locs 0 0 (MQ below (va_Qi post (fun u t => va_P D vwCl (wf u) t.heap) A) args s 0 0 A) (F0 m pc ls [.int v]) :=
  W.zret (v := v) E.1 E.2.1 hr (by rcases hv with e | e <;> rw [e] <;> decide +kernel) (fun t ht _ => ⟨⟨v, σ, rfl, hp, by show va_P D vwCl (wf σ) t.heap; rw [ht]; exact h.1⟩, h.2.2.F ht⟩) h.2.2.2.2 hdg hk
theorem t_l {post : Int64 → St → Prop} {v : Int64} (E : EV p s m c args cc own nL D cy) (h : HW D A s (wf σ) H locs) (hr : meth.sig.returnType = some .long) (hk : meth.locks = false) (hp : post v σ) (hdg : decode cc pc = .ok (.lreturn, 1)) : W p l e R s m args below meth c H locs 0 0 (MQ below (va_Ql post (fun u t => va_P D vwCl (wf u) t.heap) A) args s 0 0 A) (F0 m pc ls [.long v]) :=
  W.lret (v := v) E.1 E.2.1 hr (fun t ht _ => ⟨⟨v, σ, rfl, hp, by show va_P D vwCl (wf σ) t.heap; rw [ht]; exact h.1⟩, h.2.2.F ht⟩) h.2.2.2.2 hdg hk
theorem t_v {post : St → Prop} (E : EV p s m c args cc own nL D cy) (h : HW D A s (wf σ) H locs) (hr : meth.sig.returnType = none) (hk : meth.locks = false) (hp : post σ) (hdg : decode cc pc = .ok (.return_, 1)) : W p l e R s m args below meth c H locs 0 0 (MQ below (va_Qv post (fun u t => va_P D vwCl (wf u) t.heap) A) args s 0 0 A) (F0 m pc ls []) :=
  W.vret E.1 E.2.1 hr (fun t ht _ => ⟨⟨σ, rfl, hp, by show va_P D vwCl (wf σ) t.heap; rw [ht]; exact h.1⟩, h.2.2.F ht⟩) h.2.2.2.2 hdg hk
end CW
/-- a contract out of a walk of its body -/
theorem c_of {l : Launch} {y : MethodName} {cc : ByteArray} {n : Nat} {r : Option FieldType} {rm : Room} {D : va_G} {cy : Nat → ClassId} {wf : St → va_W} {A : Nat → Prop} {av : List Value} {σ : St} {Qc : Array Value → State → Outcome → State → Prop} {lv : List (Nat × Value)} (hy : plainName y.cls = true) (hlen : (lg_sl av).length ≤ n) (hlv : lv_args 0 av = lv)
    (body : ∀ (p : Program) (e : Env) (s : State) (m : MethodId) (args : Array Value) (below : List Frame) (meth : Method) (c : Code) (ls : Array Slot), EV p s m c args cc y.cls n D cy → HW D A s (wf σ) s.heap [] → meth.sig.returnType = r → meth.locks = false → lv_has ls n lv → W p l e rm s m args below meth c s.heap [] 0 0 (MQ below Qc args s 0 0 A) (F0 m 0 ls [])) :
    Met l y (WS y cc n r) rm (va_Pc av (PP D cy wf A σ)) Qc 0 0 A := by
  refine Met.ofW (cc := cc) (maxL := n) (ret := r) hy rfl ?_
  intro p e s m args below meth c s₁ B hml hv
  obtain ⟨rfl, hP, hD, hK⟩ := hv
  have hts := atoms_spec (ws := WS y cc n r) B.pre
  have hl := lv_entry av (n := n) hlen
  rw [lg_entry_eq]
  generalize (lg_sl av ++ List.replicate (n - (lg_sl av).length) Slot.unset).toArray = ls at hl ⊢
  rw [hlv] at hl
  exact body p e s m av.toArray below meth c ls ⟨B.exec, B.bytes, hml, findClass_of_methodNamed B.named, fun w hw => hts w (List.mem_cons_of_mem _ hw), hK⟩ ⟨hP, hD, va_S.rf⟩ B.returns B.notSynchronized hl
