/-! ===== the law's ground: two worlds side by side ===== -/
theorem P_l {D : va_G} {cl : List vw_C} {w1 w2 : va_W} {H : Heap} (h : va_P D cl (w1 ++ w2) H) : va_P D cl w1 H := fun k q hk => h k q (by rw [List.getElem?_append_left (List.getElem?_eq_some_iff.mp hk).1]; exact hk)
theorem P_r {D : va_G} {cl : List vw_C} {w1 w2 : va_W} {H : Heap} (h : va_P D cl (w1 ++ w2) H) : va_P D cl w2 H := fun k q hk => h (w1.length + k) q (by rw [List.getElem?_append_right (Nat.le_add_right _ _), Nat.add_sub_cancel_left]; exact hk)
theorem at_l {w1 w2 : va_W} {k : Nat} {q : Nat × va_E} (hk : w1[k]? = some q) : (w1 ++ w2)[k]? = some q := by rw [List.getElem?_append_left (List.getElem?_eq_some_iff.mp hk).1]; exact hk
theorem at_r {w1 w2 : va_W} {k : Nat} {q : Nat × va_E} (hk : w2[k]? = some q) : (w1 ++ w2)[w1.length + k]? = some q := by rw [List.getElem?_append_right (Nat.le_add_right _ _), Nat.add_sub_cancel_left]; exact hk
theorem D_l {A : Nat → Prop} {w1 w2 : va_W} (h : va_D A (w1 ++ w2)) : va_D A w1 := ⟨fun i j p q hi hj => h.1 i j p q (at_l hi) (at_l hj), fun k q hk => h.2 k q (at_l hk)⟩
theorem D_r {A : Nat → Prop} {w1 w2 : va_W} (h : va_D A (w1 ++ w2)) : va_D A w2 := ⟨fun i j p q hi hj hpq => Nat.add_left_cancel (h.1 (w1.length + i) (w1.length + j) p q (at_r hi) (at_r hj) hpq), fun k q hk => h.2 _ q (at_r hk)⟩
theorem D_x {A : Nat → Prop} {w1 w2 : va_W} (h : va_D A (w1 ++ w2)) {i j : Nat} {p q : Nat × va_E} (hi : w1[i]? = some p) (hj : w2[j]? = some q) : p.1 ≠ q.1 := fun e => by
  have h1 := h.1 i (w1.length + j) p q (at_l hi) (at_r hj) e
  have hl := (List.getElem?_eq_some_iff.mp hi).1
  omega
theorem HW.swap {D : va_G} {A : Nat → Prop} {s : State} {w1 w2 : va_W} {H : Heap} {locs : List Loc} (h : HW D A s (w1 ++ w2) H locs) : HW D A s (w2 ++ w1) H locs := ⟨(P_r h.1).app (P_l h.1), va_D.app (D_r h.2.1) (D_l h.2.1) (fun i j p q hi hj e => D_x h.2.1 hj hi e.symm), h.2.2⟩
/-- the set A1 is just the addresses of w -/
def CVR (w : va_W) (A1 : Nat → Prop) : Prop := (∀ (k : Nat) (q : Nat × va_E), w[k]? = some q → A1 q.1) ∧ ∀ a, A1 a → ∃ (k : Nat) (q : Nat × va_E), w[k]? = some q ∧ q.1 = a
theorem cvr_of {w : va_W} {a : Nat → Nat} {n : Nat} (h : w.map (fun q => q.1) = (List.range n).map a) : CVR w (fun q => ∃ k, k < n ∧ q = a k) := by
  refine ⟨fun k q hk => ?_, ?_⟩
  · have h1 : (w.map (fun q => q.1))[k]? = some q.1 := by rw [List.getElem?_map, hk]; rfl
    rw [h, List.getElem?_map] at h1
    cases hr : (List.range n)[k]? with
    | none => rw [hr] at h1; cases h1
    | some i =>
      rw [hr] at h1
      have hi : i ∈ List.range n := List.mem_of_getElem? hr
      exact ⟨i, List.mem_range.mp hi, (Option.some.inj h1).symm⟩
  · intro x hx
    obtain ⟨k, hk, rfl⟩ := hx
    have h1 : (w.map (fun q => q.1))[k]? = some (a k) := by rw [h, List.getElem?_map, List.getElem?_range hk]; rfl
    rw [List.getElem?_map] at h1
    cases hr : w[k]? with
    | none => rw [hr] at h1; cases h1
    | some q => rw [hr] at h1; exact ⟨k, q, hr, Option.some.inj h1⟩
theorem cvX (cy : Nat → ClassId) (a : Nat → Nat) (σ : St) : CVR (wX cy a σ) (AX a) := cvr_of (n := 76) rfl
theorem cvM (cy : Nat → ClassId) (a : Nat → Nat) (σ : St) : CVR (wM cy a σ) (AM a) := cvr_of (n := 40) rfl
theorem CVR.D {A A1 : Nat → Prop} {w : va_W} (cv : CVR w A1) (h : va_D A w) : va_D A1 w := ⟨h.1, cv.1⟩
theorem l_join {D : va_G} {A A1 : Nat → Prop} {s : State} {w1 w1' w2 : va_W} {H H1 : Heap} {locs locs1 : List Loc} (h : HW D A s (w1 ++ w2) H locs) (cv : CVR w1 A1) (hw : w1'.map (fun q => q.1) = w1.map (fun q => q.1)) (hP : va_P D vwCl w1' H1) (hk : ∀ q : Nat, q < H.size → ¬ A1 q → H1[q]? = H[q]?) (hS : va_S A s.heap H1 locs1) : HW D A s (w1' ++ w2) H1 locs1 :=
  ⟨hP.app ((P_r h.1).kept (fun k q hq => hk q.1 ((P_r h.1) k q hq).lt (fun hA => by
    obtain ⟨j, x, hj, e⟩ := cv.2 _ hA
    exact D_x h.2.1 hj hq e))), va_D_fst (by rw [List.map_append, List.map_append, hw]) h.2.1, hS⟩
section LC
variable {p : Program} {l : Launch} {e : Env} {R : Room} {s : State} {m : MethodId} {args : Array Value} {below : List Frame} {meth : Method} {c : Code} {H : Heap} {locs : List Loc} {cells slots : Nat} {Q : State → Prop}
variable {cc bytes : ByteArray} {pc maxL index fr lo : Nat} {ls : Array Slot} {rest st0 As : List Value} {D : va_G} {A A1 : Nat → Prop} {b : Nat} {own : String} {nL : Nat} {cy : Nat → ClassId} {wf : St → va_W} {σ : St} {y : MethodName} {ret : Option FieldType} {wo : va_W}
theorem l_i {post : Int32 → St → Prop} {a9 : Array Value} (h : HW D A s (wf σ ++ wo) H locs) (cv : CVR (wf σ) A1) (hw : ∀ σ σ' : St, (wf σ').map (fun q => q.1) = (wf σ).map (fun q => q.1)) (hr : va_Run p l e R s m args below meth c H locs cells slots 0 0 (F0 m pc ls st0) rest (va_Qi post (fun u t => va_P D vwCl (wf u) t.heap) A1 a9) A1)
    (kk : ∀ (r : Int32) (σ' : St) (H1 : Heap) (locs1 : List Loc), post r σ' → HW D A s (wf σ' ++ wo) H1 locs1 → W p l e R s m args below meth c H1 locs1 cells slots Q (F0 m (pc + 3) ls (.int r :: rest))) : W p l e R s m args below meth c H locs cells slots Q (F0 m pc ls st0) := by
  have hF : ∀ q, A1 q → A q := fun q hq => by
    obtain ⟨k, x, hk, rfl⟩ := cv.2 q hq
    exact (D_l h.2.1).2 k x hk
  exact va_calli hr h.2.2 (fun q _ hq => hF q hq) hF (fun r u t H1 locs1 ht _ hp hB _ hk1 hS => kk r u H1 locs1 hp (l_join h cv (hw σ u) (ht ▸ hB) hk1 hS))
theorem l_l {post : Int64 → St → Prop} {a9 : Array Value} (h : HW D A s (wf σ ++ wo) H locs) (cv : CVR (wf σ) A1) (hw : ∀ σ σ' : St, (wf σ').map (fun q => q.1) = (wf σ).map (fun q => q.1)) (hr : va_Run p l e R s m args below meth c H locs cells slots 0 0 (F0 m pc ls st0) rest (va_Ql post (fun u t => va_P D vwCl (wf u) t.heap) A1 a9) A1)
    (kk : ∀ (r : Int64) (σ' : St) (H1 : Heap) (locs1 : List Loc), post r σ' → HW D A s (wf σ' ++ wo) H1 locs1 → W p l e R s m args below meth c H1 locs1 cells slots Q (F0 m (pc + 3) ls (.long r :: rest))) : W p l e R s m args below meth c H locs cells slots Q (F0 m pc ls st0) := by
  have hF : ∀ q, A1 q → A q := fun q hq => by
    obtain ⟨k, x, hk, rfl⟩ := cv.2 q hq
    exact (D_l h.2.1).2 k x hk
  exact va_calll hr h.2.2 (fun q _ hq => hF q hq) hF (fun r u t H1 locs1 ht _ hp hB _ hk1 hS => kk r u H1 locs1 hp (l_join h cv (hw σ u) (ht ▸ hB) hk1 hS))
theorem l_runV {Qc : Array Value → State → Outcome → State → Prop} (E : EV p s m c args cc own nL D cy) (h : HW D A s (wf σ ++ wo) H locs) (cv : CVR (wf σ) A1) (hM : Met l y (WS y bytes maxL ret) (rmOf fr lo) (va_Pc (.ref b :: As) (PP D cy wf A1 σ)) Qc 0 0 A1) (co : Cond.code y bytes maxL ret ∈ TB) (ml : Cond.methodLink own index y ∈ TB) (im : Cond.instanceMethod y ∈ TB) (se : Cond.selects y.cls y y ∈ TB) (ini : Cond.initialized y.cls ∈ TB) {q0 ci N : Nat} {fs : List Value} {T : u_T} (he : (wf σ)[q0]? = some (b, .inr (ci, fs))) (hc : vwCl[ci]? = some (y.cls, T, N)) {k : Nat} (hn : okN y k) (hlen : As.length = k)
    (hR : fr + 1 ≤ R.frames ∧ 8 + (maxL + 11) + lo ≤ R.locals) (hsz : ls.size = nL) (hst : st0 = As.reverse ++ .ref b :: rest) (hroom : (rest.map fun v => v.category).sum ≤ 8) (hdg : decode cc pc = .ok (.invokevirtual index, 3)) (hcs : cells ≤ R.cells ∧ slots ≤ R.slots) :
    va_Run p l e R s m args below meth c H locs cells slots 0 0 (F0 m pc ls st0) rest (Qc (Value.ref b :: As).toArray) A1 :=
  va_runV (As := As) (rest := rest) ⟨E.1, E.2.1, E.2.2.1, E.2.2.2.1, E.2.2.2.2.1⟩ hM (cwV k E.2.2.2.2.1 (wsv_good co ml im se ini) rfl rfl rfl ⟨rfl, hn⟩ hR) ⟨pp_blind D cy wf A1 _ σ, va_recv E.2.2.2.2.2.1 (P_l h.1) hc he, fun U hU hW => ⟨rfl, by rw [hU]; exact P_l h.1, cv.D (D_l h.2.1), E.2.2.2.2.2.warm hW⟩⟩ rfl hlen hsz hst (lv_room hroom) hdg hcs
theorem l_runZ {Z : State → Prop} {Qc : Array Value → State → Outcome → State → Prop} (E : EV p s m c args cc own nL D cy) (h : HW D A s (wf σ ++ wo) H locs) (cv : CVR (wf σ) A1) (hZ : ZOK A1 Z) (hz : ∀ U : State, U.heap = H → s.WarmedH U.vm → Z U) (hM : Met l y (WS y bytes maxL ret) (rmOf fr lo) (va_Pc (.ref b :: As) (PZ D cy wf A1 Z σ)) Qc 0 0 A1) (co : Cond.code y bytes maxL ret ∈ TB) (ml : Cond.methodLink own index y ∈ TB) (im : Cond.instanceMethod y ∈ TB) (se : Cond.selects y.cls y y ∈ TB) (ini : Cond.initialized y.cls ∈ TB) {q0 ci N : Nat} {fs : List Value} {T : u_T} (he : (wf σ)[q0]? = some (b, .inr (ci, fs))) (hc : vwCl[ci]? = some (y.cls, T, N)) {k : Nat} (hn : okN y k) (hlen : As.length = k)
    (hR : fr + 1 ≤ R.frames ∧ 8 + (maxL + 11) + lo ≤ R.locals) (hsz : ls.size = nL) (hst : st0 = As.reverse ++ .ref b :: rest) (hroom : (rest.map fun v => v.category).sum ≤ 8) (hdg : decode cc pc = .ok (.invokevirtual index, 3)) (hcs : cells ≤ R.cells ∧ slots ≤ R.slots) :
    va_Run p l e R s m args below meth c H locs cells slots 0 0 (F0 m pc ls st0) rest (Qc (Value.ref b :: As).toArray) A1 :=
  va_runV (As := As) (rest := rest) ⟨E.1, E.2.1, E.2.2.1, E.2.2.2.1, E.2.2.2.2.1⟩ hM (cwV k E.2.2.2.2.1 (wsv_good co ml im se ini) rfl rfl rfl ⟨rfl, hn⟩ hR) ⟨pz_blind hZ _ σ, va_recv E.2.2.2.2.2.1 (P_l h.1) hc he, fun U hU hW => ⟨rfl, ⟨by rw [hU]; exact P_l h.1, cv.D (D_l h.2.1), E.2.2.2.2.2.warm hW⟩, hz U hU hW⟩⟩ rfl hlen hsz hst (lv_room hroom) hdg hcs
end LC
theorem sz_narrow {adK adV : Nat → Nat} {A B : Nat → Prop} {U : State} (hAB : ∀ q, B q → A q) (h : SZ adK adV A U) : SZ adK adV B U := ⟨h.1.narrow hAB, h.2.1, h.2.2.1.narrow hAB, h.2.2.2.narrow hAB⟩
/-- the law's own cells: all that came since its start -/
def LA (s : State) : Nat → Prop := fun q => s.heap.size ≤ q
/-- the texts at a call of the law's -/
theorem l_sz {D : va_G} {s : State} {adK adV : Nat → Nat} {w1 wo : va_W} {A1 : Nat → Prop} {H : Heap} {locs : List Loc} (hz : SZ adK adV (LA s) s) (h : HW D (LA s) s (w1 ++ wo) H locs) (cv : CVR w1 A1) : ∀ U : State, U.heap = H → s.WarmedH U.vm → SZ adK adV A1 U := fun U hU hW =>
  sz_narrow (fun q hq => by
    obtain ⟨k, x, hk, rfl⟩ := cv.2 q hq
    exact (D_l h.2.1).2 k x hk) ((sz_ok adK adV (LA s)).1 s U H locs hz h.2.2 hU hW)
/-! ===== the law's start: classes, arrays, links, texts ===== -/
theorem aoa_cls {U : State} (h : va_AOA .int U) : ∃ (comp c : ClassId) (k : Class), U.vm.findClass (FieldType.array .int).toString = some comp ∧ U.vm.classes[c]? = some k ∧ k.kind = .array comp (.array .int) ∧ U.vm.findClass ("[" ++ (FieldType.array .int).toString) = some c := by
  have h : (Cond.arrayOver (.array .int)).holds #[] U none U [] = true := h
  simp only [Cond.holds, Cond.value, beq_iff_eq] at h
  cases hc : U.vm.findClass (FieldType.array .int).toString with
  | none => simp [hc] at h
  | some comp =>
    simp only [hc, Option.bind_some, Option.bind_eq_some_iff, Option.map_eq_some_iff] at h
    obtain ⟨c, hi, k, hk, hb⟩ := h
    obtain ⟨hlt, hp, -⟩ := Array.findIdx?_eq_some_iff_getElem.mp hi
    have hkk : U.vm.classes[c] = k := (Array.getElem?_eq_some_iff.mp hk).2
    rw [hkk] at hp
    cases hkind : k.kind with
    | array component ty =>
      rw [hkind] at hb hp
      simp at hb hp
      exact ⟨comp, c, k, rfl, hk, by rw [hkind, hp, hb.1], hb.2⟩
    | _ => rw [hkind] at hb; simp at hb
theorem arr_of {U : State} {cA comp : ClassId} {k : Class} {ty : FieldType} (hk : U.vm.classes[cA]? = some k) (hkd : k.kind = .array comp ty) : ArrOfT U cA ty := fun n z => ⟨fun k h => (by cases h), k, hk, comp, hkd⟩
theorem nl_tbl : ∀ w ∈ NL, w ∈ lw_tbl := by
  have key : ∀ i, i < 15 → (lw_tbl[([57, 79, 125, 128, 152, 182, 228, 296, 443, 467, 476, 504, 522, 659, 764] : List Nat).getD i 0]? = NL[i]?) := by decide +kernel
  intro w hw
  obtain ⟨i, hi, e⟩ := List.mem_iff_getElem.mp hw
  have hi2 : i < 15 := hi
  exact List.mem_of_getElem? ((key i hi2).trans (List.getElem?_eq_some_iff.mpr ⟨hi, e⟩))
theorem aoa_tbl : Cond.arrayOver (.array .int) ∈ lw_tbl := List.mem_of_getElem? (i := 320) (by decide +kernel)
theorem k_start {args : Array Value} {s : State} (hts : ∀ w ∈ lw_tbl, w.before args s = true) (haoa : Cond.arrayOver (.array .int) ∈ lw_tbl) : ∃ (D : va_G) (cy : Nat → ClassId), KK D cy s ∧ va_AOA .int s := by
  have htb : ∀ w ∈ TB, w.before args s = true := fun w hw => hts w (List.mem_filter.mp hw).1
  have hz : va_AOA .int s := by
    have h1 := hts _ haoa
    exact h1
  have hc : ∀ k : Nat, ∃ x : ClassId × (Nat → Nat), ∀ q : vw_C, vwCl[k]? = some q → u_Kn s q.1 q.2.1 q.2.2 x.1 x.2 := by
    intro k
    match k with
    | 0 =>
      obtain ⟨x, y, h⟩ := u_known (C := RX0) (T := TX0) (N := 5) (n := 5) htb fw_X0 (htb _ is_X0)
      exact ⟨(x, y), fun q hq => by cases hq; exact h⟩
    | 1 =>
      obtain ⟨x, y, h⟩ := u_known (C := RX1) (T := TX1) (N := 5) (n := 5) htb fw_X1 (htb _ is_X1)
      exact ⟨(x, y), fun q hq => by cases hq; exact h⟩
    | 2 =>
      obtain ⟨x, y, h⟩ := u_known (C := RX2) (T := TX2) (N := 15) (n := 15) htb fw_X2 (htb _ is_X2)
      exact ⟨(x, y), fun q hq => by cases hq; exact h⟩
    | 3 =>
      obtain ⟨x, y, h⟩ := u_known (C := RX3) (T := TX3) (N := 3) (n := 3) htb fw_X3 (htb _ is_X3)
      exact ⟨(x, y), fun q hq => by cases hq; exact h⟩
    | 4 =>
      obtain ⟨x, y, h⟩ := u_known (C := RX4) (T := TX4) (N := 6) (n := 6) htb fw_X4 (htb _ is_X4)
      exact ⟨(x, y), fun q hq => by cases hq; exact h⟩
    | 5 =>
      obtain ⟨x, y, h⟩ := u_known (C := RX5) (T := TX5) (N := 5) (n := 5) htb fw_X5 (htb _ is_X5)
      exact ⟨(x, y), fun q hq => by cases hq; exact h⟩
    | 6 =>
      obtain ⟨x, y, h⟩ := u_known (C := RX6) (T := TX6) (N := 7) (n := 7) htb fw_X6 (htb _ is_X6)
      exact ⟨(x, y), fun q hq => by cases hq; exact h⟩
    | 7 =>
      obtain ⟨x, y, h⟩ := u_known (C := RX7) (T := TX7) (N := 5) (n := 5) htb fw_X7 (htb _ is_X7)
      exact ⟨(x, y), fun q hq => by cases hq; exact h⟩
    | 8 =>
      obtain ⟨x, y, h⟩ := u_known (C := RX8) (T := TX8) (N := 5) (n := 5) htb fw_X8 (htb _ is_X8)
      exact ⟨(x, y), fun q hq => by cases hq; exact h⟩
    | 9 =>
      obtain ⟨x, y, h⟩ := u_known (C := RX9) (T := TX9) (N := 7) (n := 7) htb fw_X9 (htb _ is_X9)
      exact ⟨(x, y), fun q hq => by cases hq; exact h⟩
    | 10 =>
      obtain ⟨x, y, h⟩ := u_known (C := RX10) (T := TX10) (N := 2) (n := 2) htb fw_X10 (htb _ is_X10)
      exact ⟨(x, y), fun q hq => by cases hq; exact h⟩
    | 11 =>
      obtain ⟨x, y, h⟩ := u_known (C := RX11) (T := TX11) (N := 14) (n := 14) htb fw_X11 (htb _ is_X11)
      exact ⟨(x, y), fun q hq => by cases hq; exact h⟩
    | 12 =>
      obtain ⟨x, y, h⟩ := u_known (C := RX12) (T := TX12) (N := 60) (n := 60) htb fw_X12 (htb _ is_X12)
      exact ⟨(x, y), fun q hq => by cases hq; exact h⟩
    | k + 13 => exact ⟨(0, fun _ => 0), fun q hq => by simp [vwCl] at hq⟩
  obtain ⟨f, hf⟩ := Classical.axiomOfChoice hc
  obtain ⟨c0, k0, p0, a0, b0, d0⟩ := Cond.arrayClass_spec (htb _ ac_byte)
  obtain ⟨c1, k1, p1, a1, b1, d1⟩ := Cond.arrayClass_spec (htb _ ac_int)
  obtain ⟨c2, k2, p2, a2, b2, d2⟩ := Cond.arrayClass_spec (htb _ ac_boolean)
  obtain ⟨p3, c3, k3, _, b3, d3, a3⟩ := aoa_cls hz
  refine ⟨(fun k => (f k).1, fun k => (f k).2), fun k => [c0, c1, c2, c3].getD k 0, ⟨⟨fun k q hq => hf k q hq, fun k q hq => ?_⟩, fun w hw => ?_⟩, hz⟩
  · match k, hq with
    | 0, hq => cases hq; exact ⟨arr_of b0 d0, a0⟩
    | 1, hq => cases hq; exact ⟨arr_of b1 d1, a1⟩
    | 2, hq => cases hq; exact ⟨arr_of b2 d2, a2⟩
    | 3, hq => cases hq; exact ⟨arr_of b3 d3, a3⟩
    | k + 4, hq => simp [TY] at hq
  · have h1 := hts w (nl_tbl w hw)
    obtain ⟨a, i, x, b, rfl⟩ := nl_form w hw
    exact va_Nw.of rfl h1
def tmS (i : Nat) : Term := .string RX5 (sIx.getD i 0)
theorem sz_a1 : ∀ i, i < 11 → Cond.exactly (tmS i) "java/lang/String" ∈ flatC (Cond.and given_1 narrow_1) := by decide +kernel
theorem sz_a2 : ∀ i, i < 11 → Cond.eq (.field (tmS i) "java/lang/String" "coder" "B") (.int 0) ∈ flatC (Cond.and given_1 narrow_1) := by decide +kernel
theorem sz_a3 : ∀ i, i < 11 → Cond.arrayOf (.field (tmS i) "java/lang/String" "value" "[B") .byte ∈ flatC (Cond.and given_1 narrow_1) := by decide +kernel
theorem sz_a4 : ∀ i, i < 11 → Cond.eq (.length (.field (tmS i) "java/lang/String" "value" "[B")) (.int (Int32.ofNat (sLen.getD i 0))) ∈ flatC (Cond.and given_1 narrow_1) := by decide +kernel
theorem sz_a5 : ∀ i, i < 11 → ∀ j, j < sLen.getD i 0 → Cond.eq (.elem (.field (tmS i) "java/lang/String" "value" "[B") (.int (Int32.ofNat j))) (.int ((sByt.getD i []).getD j 0)) ∈ flatC (Cond.and given_1 narrow_1) := by decide +kernel
theorem sz_a6 : ∀ i, i < 11 → ∀ j, j < 11 → i < j → Cond.not (Cond.eq (tmS i) (tmS j)) ∈ flatC (Cond.and given_1 narrow_1) := by decide +kernel
theorem sz_a7 : Cond.eq (.static "java/lang/String" "COMPACT_STRINGS" "Z") (.int 1) ∈ flatC (Cond.and given_1 narrow_1) := by decide +kernel
theorem sz_a8 : Cond.isRef (.static "jdk/internal/util/Preconditions" "SIOOBE_FORMATTER" "Ljava/util/function/BiFunction;") ∈ flatC (Cond.and given_1 narrow_1) := by decide +kernel
theorem sz_b1 : ∀ i, i < 11 → lw_tbl[([600, 660, 665, 666, 667, 668, 669, 670, 675, 676, 677] : List Nat).getD i 0]? = some (Cond.stringRef RX5 (sIx.getD i 0) (sTx.getD i "")) := by decide +kernel
theorem sz_b2 : lw_tbl[614]? = some (Cond.laysStatic "java/lang/String" "COMPACT_STRINGS" "Z") := by decide +kernel
theorem sz_b3 : lw_tbl[630]? = some (Cond.laysStatic "jdk/internal/util/Preconditions" "SIOOBE_FORMATTER" "Ljava/util/function/BiFunction;") := by decide +kernel
theorem sz_b4 : lw_tbl[45]? = some (Cond.initialized "jdk/internal/util/Preconditions") := by decide +kernel
theorem sz_b5 : lw_tbl[43]? = some (Cond.initialized "java/lang/String") := by decide +kernel
theorem sl_31 : ∀ i, i < 11 → sLen.getD i 0 < 2 ^ 31 := by decide
theorem sz_start {args : Array Value} {s : State} (hts : ∀ w ∈ lw_tbl, w.before args s = true) (hgv : (Cond.and given_1 narrow_1).before args s = true) : ∃ adK adV : Nat → Nat, SZ adK adV (LA s) s := by
  have hs := flat_of_before _ hgv
  have hA : ∀ a : Nat, a < s.heap.size → ¬ LA s a := fun a h h2 => Nat.lt_irrefl _ (Nat.lt_of_lt_of_le h h2)
  obtain ⟨adK, adV, h1, h2⟩ := vk_Sof (args := args) (s := s) (N := 11) (tm := tmS) (len := sLen) (byt := sByt) (A := LA s) sl_31 (fun i hi => hs _ (sz_a1 i hi)) (fun i hi => hs _ (sz_a2 i hi)) (fun i hi => hs _ (sz_a3 i hi)) (fun i hi => hs _ (sz_a4 i hi)) (fun i hi j hj => hs _ (sz_a5 i hi j hj)) (fun i j hi hj hij => by
    rcases Nat.lt_or_gt_of_ne hij with h | h
    · exact Or.inl (hs _ (sz_a6 i hi j hj h))
    · exact Or.inr (hs _ (sz_a6 j hj i hi h))) hA
  exact ⟨adK, adV, h1, fun i hi => vk_R.of (hts _ (List.mem_of_getElem? (sz_b1 i hi))) (h2 i hi), va_Zof (hts _ (List.mem_of_getElem? sz_b2)) (hts _ (List.mem_of_getElem? sz_b5)) (va_eqi (hs _ sz_a7)) hA, va_Zqof (hts _ (List.mem_of_getElem? sz_b3)) (hts _ (List.mem_of_getElem? sz_b4)) (hs _ sz_a8) hA⟩
