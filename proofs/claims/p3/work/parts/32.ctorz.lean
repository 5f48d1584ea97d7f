theorem aoa_warm {s U : State} (hW : s.WarmedH U.vm) (h : va_AOA .int s) : va_AOA .int U := by
  have h1 : (Cond.arrayOver (.array .int)).before #[] (s.setVm U.vm) = true := by rw [Cond.arrayOver_setVmC hW.alike]; exact h
  exact h1
theorem aoa_call {U : State} {g : JFrame} {mk : MethodId} {a : Array Value} (h : va_AOA .int U) : va_AOA .int (U.calling g mk a) := h
def PCz (D : va_G) (cy : Nat → ClassId) (ws : va_W) (sz : Nat) (U : State) : Prop := U.heap.size = sz ∧ va_P D vwCl ws U.heap ∧ va_D (fun _ => True) ws ∧ KK D cy U ∧ va_AOA .int U
def CCz (l : Launch) (y : MethodName) (cc : ByteArray) (n : Nat) (rm : Room) (D : va_G) (cy : Nat → ClassId) (ws : va_W) (sz : Nat) (av : List Value) (mc ms : Nat) (w1 : (Nat → Nat) → va_W) : Prop :=
  Met l y (WS y cc n none) rm (va_Pc av (PCz D cy ws sz)) (va_Qv (fun _ : Nat → Nat => True) (fun u t => va_P D vwCl (w1 u) t.heap ∧ va_D (va_A ws sz) (w1 u)) (va_A ws sz)) mc ms (va_A ws sz)
theorem pcz_blind (D : va_G) (cy : Nat → ClassId) (ws : va_W) (sz : Nat) (av : List Value) : FrameBlind (va_Pc av (PCz D cy ws sz)) := by
  intro a U g mk q
  exact ⟨q.1, q.2.1, q.2.2.1, q.2.2.2.1, q.2.2.2.2.1.call, aoa_call q.2.2.2.2.2⟩
theorem nz_of {l : Launch} {y : MethodName} {cc : ByteArray} {n : Nat} {rm : Room} {D : va_G} {cy : Nat → ClassId} {ws : va_W} {sz : Nat} {av : List Value} {mc ms : Nat} {w1 : (Nat → Nat) → va_W} {lv : List (Nat × Value)} (hy : plainName y.cls = true) (hlen : (lg_sl av).length ≤ n) (hlv : lv_args 0 av = lv) (hyn : y.name = "<init>")
    (body : ∀ (p : Program) (e : Env) (s : State) (m : MethodId) (args : Array Value) (below : List Frame) (meth : Method) (c : Code) (ls : Array Slot), EV p s m c args cc y.cls n D cy → s.heap.size = sz → HW D (va_A ws sz) s ws s.heap [] → (∀ q, s.heap.size ≤ q → va_A ws sz q) → meth.sig.returnType = none → meth.locks = false → meth.name = "<init>" → lv_has ls n lv → va_AOA .int s → W p l e rm s m args below meth c s.heap [] 0 0 (MQ below (va_Qv (fun _ : Nat → Nat => True) (fun u t => va_P D vwCl (w1 u) t.heap ∧ va_D (va_A ws sz) (w1 u)) (va_A ws sz)) args s mc ms (va_A ws sz)) (F0 m 0 ls [])) :
    CCz l y cc n rm D cy ws sz av mc ms w1 := by
  refine Met.ofW (cc := cc) (maxL := n) (ret := none) hy rfl ?_
  intro p e s m args below meth c s₁ B hml hv
  obtain ⟨rfl, hsz, hP, hD, hK, hz⟩ := hv
  have hts := atoms_spec (ws := WS y cc n none) B.pre
  have hin : meth.name = y.name := (name_of_methodNamed B.named B.method).1
  have hl := lv_entry av (n := n) hlen
  rw [lg_entry_eq]
  generalize (lg_sl av ++ List.replicate (n - (lg_sl av).length) Slot.unset).toArray = ls at hl ⊢
  rw [hlv] at hl
  exact body p e s m av.toArray below meth c ls ⟨B.exec, B.bytes, hml, findClass_of_methodNamed B.named, fun w hw => hts w (List.mem_cons_of_mem _ hw), hK⟩ hsz ⟨hP, hD.self, va_S.rf⟩ (fun q hq => Or.inr (hsz ▸ hq)) B.returns B.notSynchronized (hin.trans hyn) hl hz
section CZ
variable {p : Program} {l : Launch} {e : Env} {R : Room} {s : State} {m : MethodId} {args : Array Value} {below : List Frame} {meth : Method} {c : Code} {H : Heap} {locs : List Loc} {cells slots : Nat} {Q : State → Prop}
variable {cc bytes : ByteArray} {pc maxL index fr lo mc ms : Nat} {ls : Array Slot} {rest st0 As : List Value} {D : va_G} {A : Nat → Prop} {a b : Nat} {own : String} {nL : Nat} {cy : Nat → ClassId} {ws ws' wc wr : va_W} {y : MethodName} {w1 : (Nat → Nat) → va_W}
theorem nz_runI (E : EV p s m c args cc own nL D cy) (h : HW D A s ws H locs) (isC : List Nat) (hnd : va_nd isC = true) (hC : isC.map (fun i => ws[i]?) = wc.map some) (hz : va_AOA .int s) (hM : CCz l y bytes maxL (rmC fr mc ms lo) D cy wc H.size (.ref b :: As) mc ms w1) (co : Cond.code y bytes maxL none ∈ TB) (ml : Cond.methodLink own index y ∈ TB) (im : Cond.instanceMethod y ∈ TB) (ini : Cond.initialized y.cls ∈ TB) (hyn : y.name = "<init>") {k : Nat} (hn : okN y k) (hlen : As.length = k)
    (hR : fr + 1 ≤ R.frames ∧ 8 + (maxL + 11) + lo ≤ R.locals) (hsz : ls.size = nL) (hst : st0 = As.reverse ++ .ref b :: rest) (hroom : (rest.map fun v => v.category).sum ≤ 8) (hdg : decode cc pc = .ok (.invokespecial index, 3)) (hcs : cells + mc ≤ R.cells ∧ slots + ms ≤ R.slots) :
    va_Run p l e R s m args below meth c H locs cells slots mc ms (F0 m pc ls st0) rest (va_Qv (fun _ : Nat → Nat => True) (fun u t => va_P D vwCl (w1 u) t.heap ∧ va_D (va_A wc H.size) (w1 u)) (va_A wc H.size) (Value.ref b :: As).toArray) (va_A wc H.size) :=
  va_runI (As := As) (rest := rest) ⟨E.1, E.2.1, E.2.2.1, E.2.2.2.1, E.2.2.2.2.1⟩ hM (cwI k E.2.2.2.2.1 (tb_good co) rfl rfl rfl (E.2.2.2.2.1 _ ini) (E.2.2.2.2.1 _ ml) (E.2.2.2.2.1 _ im) hyn hn hR) ⟨pcz_blind D cy wc H.size _, fun U hU hW => ⟨rfl, by rw [hU], by rw [hU]; exact sub_P h.1 hC, (h.2.1.sub isC hnd hC).weaken (fun _ _ _ _ => trivial), E.2.2.2.2.2.warm hW, aoa_warm hW hz⟩⟩ rfl hlen hsz hst (lv_room hroom) hdg hcs
end CZ
