/-! ===== rows by a number that counts; Math.min, Math.max; a row of rows ===== -/
section RN
variable {p : Program} {l : Launch} {e : Env} {R : Room} {s : State} {m : MethodId} {args : Array Value} {below : List Frame} {meth : Method} {c : Code} {H : Heap} {locs : List Loc} {cells slots : Nat} {Q : State → Prop}
variable {cc : ByteArray} {pc : Nat} {ls : Array Slot} {rest : List Value} {D : va_G} {A : Nat → Prop} {a : Nat} {ws ws' : va_W} {own : String} {nL : Nat} {cy : Nat → ClassId}
theorem r_ialdN (E : EV p s m c args cc own nL D cy) (h : HW D A s ws H locs) {q0 n j : Nat} {f : Nat → Int32} (he : ws[q0]? = some (a, .inl (cy 1, n, .inl f))) (hj : j < n) (hn : n < 2 ^ 31) (hdg : decode cc pc = .ok (.iaload, 1))
    (kk : W p l e R s m args below meth c H locs cells slots Q (F0 m (pc + 1) ls (.int (f j) :: rest))) : W p l e R s m args below meth c H locs cells slots Q (F0 m pc ls (.int (nI j) :: .ref a :: rest)) := by
  refine r_iald E h he (vp_in_nI hj hn) hdg ?_
  rw [nI_clamp (Nat.lt_trans hj hn)]
  exact kk
theorem r_baldN (E : EV p s m c args cc own nL D cy) (h : HW D A s ws H locs) {q0 n j : Nat} {f : Nat → Int32} (he : ws[q0]? = some (a, .inl (cy 0, n, .inl f))) (hj : j < n) (hn : n < 2 ^ 31) (hdg : decode cc pc = .ok (.baload, 1))
    (kk : W p l e R s m args below meth c H locs cells slots Q (F0 m (pc + 1) ls (.int (f j) :: rest))) : W p l e R s m args below meth c H locs cells slots Q (F0 m pc ls (.int (nI j) :: .ref a :: rest)) := by
  refine r_bald E h he (vp_in_nI hj hn) hdg ?_
  rw [nI_clamp (Nat.lt_trans hj hn)]
  exact kk
theorem r_zaldN (E : EV p s m c args cc own nL D cy) (h : HW D A s ws H locs) {q0 n j : Nat} {f : Nat → Int32} (he : ws[q0]? = some (a, .inl (cy 2, n, .inl f))) (hj : j < n) (hn : n < 2 ^ 31) (hdg : decode cc pc = .ok (.baload, 1))
    (kk : W p l e R s m args below meth c H locs cells slots Q (F0 m (pc + 1) ls (.int (f j) :: rest))) : W p l e R s m args below meth c H locs cells slots Q (F0 m pc ls (.int (nI j) :: .ref a :: rest)) := by
  refine r_zald E h he (vp_in_nI hj hn) hdg ?_
  rw [nI_clamp (Nat.lt_trans hj hn)]
  exact kk
theorem r_iastN (E : EV p s m c args cc own nL D cy) (h : HW D A s ws H locs) {q0 n j : Nat} {f : Nat → Int32} (he : ws[q0]? = some (a, .inl (cy 1, n, .inl f))) {x : Int32} (hj : j < n) (hn : n < 2 ^ 31) (hw : ws.set q0 (a, .inl (cy 1, n, .inl (upd f j x))) = ws') (hdg : decode cc pc = .ok (.iastore, 1))
    (kk : ∀ (H1 : Heap) (locs1 : List Loc), HW D A s ws' H1 locs1 → W p l e R s m args below meth c H1 locs1 cells slots Q (F0 m (pc + 1) ls rest)) : W p l e R s m args below meth c H locs cells slots Q (F0 m pc ls (.int x :: .int (nI j) :: .ref a :: rest)) :=
  r_iast E h he (vp_in_nI hj hn) (by rw [nI_clamp (Nat.lt_trans hj hn)]; exact hw) hdg kk
theorem r_bastN (E : EV p s m c args cc own nL D cy) (h : HW D A s ws H locs) {q0 n j : Nat} {f : Nat → Int32} (he : ws[q0]? = some (a, .inl (cy 0, n, .inl f))) {x : Int32} (hj : j < n) (hn : n < 2 ^ 31) (hw : ws.set q0 (a, .inl (cy 0, n, .inl (upd f j (vp_nar .byte x)))) = ws') (hdg : decode cc pc = .ok (.bastore, 1))
    (kk : ∀ (H1 : Heap) (locs1 : List Loc), HW D A s ws' H1 locs1 → W p l e R s m args below meth c H1 locs1 cells slots Q (F0 m (pc + 1) ls rest)) : W p l e R s m args below meth c H locs cells slots Q (F0 m pc ls (.int x :: .int (nI j) :: .ref a :: rest)) :=
  r_bast E h he (vp_in_nI hj hn) (by rw [nI_clamp (Nat.lt_trans hj hn)]; exact hw) hdg kk
theorem r_zastN (E : EV p s m c args cc own nL D cy) (h : HW D A s ws H locs) {q0 n j : Nat} {f : Nat → Int32} (he : ws[q0]? = some (a, .inl (cy 2, n, .inl f))) {x : Int32} (hj : j < n) (hn : n < 2 ^ 31) (hw : ws.set q0 (a, .inl (cy 2, n, .inl (upd f j (vp_nar .boolean x)))) = ws') (hdg : decode cc pc = .ok (.bastore, 1))
    (kk : ∀ (H1 : Heap) (locs1 : List Loc), HW D A s ws' H1 locs1 → W p l e R s m args below meth c H1 locs1 cells slots Q (F0 m (pc + 1) ls rest)) : W p l e R s m args below meth c H locs cells slots Q (F0 m pc ls (.int x :: .int (nI j) :: .ref a :: rest)) :=
  r_zast E h he (vp_in_nI hj hn) (by rw [nI_clamp (Nat.lt_trans hj hn)]; exact hw) hdg kk
theorem r_mmin (E : EV p s m c args cc own nL D cy) (hsz : ls.size = nL) {index : Nat} {x y : Int32} (ml : Cond.methodLink own index yJ9_min_7cf53 ∈ TB) (stt : Cond.static yJ9_min_7cf53 ∈ TB) (ini : Cond.initialized RJ9 ∈ TB) (co : Cond.code yJ9_min_7cf53 cJ9_min_7cf53 2 (some .int) ∈ TB) (hR : 1 ≤ R.frames ∧ (rest.map fun v => v.category).sum + 13 ≤ R.locals) (hcs : cells ≤ R.cells ∧ slots ≤ R.slots) (hdg : decode cc pc = .ok (.invokestatic index, 3))
    (kk : W p l e R s m args below meth c H locs cells slots Q (F0 m (pc + 3) ls (.int (if y < x then y else x) :: rest))) : W p l e R s m args below meth c H locs cells slots Q (F0 m pc ls (.int y :: .int x :: rest)) :=
  va_mmin E.1 E.2.1 (E.2.2.1.trans hsz.symm) E.2.2.2.1 (E.2.2.2.2.1 _ ml) (E.2.2.2.2.1 _ stt) (E.2.2.2.2.1 _ ini) (E.2.2.2.2.1 _ co) hR.1 hR.2 hcs.1 hcs.2 hdg kk
theorem r_mmax (E : EV p s m c args cc own nL D cy) (hsz : ls.size = nL) {index : Nat} {x y : Int32} (ml : Cond.methodLink own index yJ9_max_7cf53 ∈ TB) (stt : Cond.static yJ9_max_7cf53 ∈ TB) (ini : Cond.initialized RJ9 ∈ TB) (co : Cond.code yJ9_max_7cf53 cJ9_max_7cf53 2 (some .int) ∈ TB) (hR : 1 ≤ R.frames ∧ (rest.map fun v => v.category).sum + 13 ≤ R.locals) (hcs : cells ≤ R.cells ∧ slots ≤ R.slots) (hdg : decode cc pc = .ok (.invokestatic index, 3))
    (kk : W p l e R s m args below meth c H locs cells slots Q (F0 m (pc + 3) ls (.int (if x < y then y else x) :: rest))) : W p l e R s m args below meth c H locs cells slots Q (F0 m pc ls (.int y :: .int x :: rest)) :=
  va_mmax E.1 E.2.1 (E.2.2.1.trans hsz.symm) E.2.2.2.1 (E.2.2.2.2.1 _ ml) (E.2.2.2.2.1 _ stt) (E.2.2.2.2.1 _ ini) (E.2.2.2.2.1 _ co) hR.1 hR.2 hcs.1 hcs.2 hdg kk
end RN
/-! ===== numbers ===== -/
theorem z_lt (a b : Int32) : a < b ↔ a.toInt < b.toInt := Int32.lt_iff_toInt_lt
theorem z_le (a b : Int32) : a ≤ b ↔ a.toInt ≤ b.toInt := Int32.le_iff_toInt_le
theorem z_eq (a b : Int32) : a = b ↔ a.toInt = b.toInt := Int32.toInt_inj.symm
/-- x is one of 0 .. n: as the class's own test has it -/
theorem z_in {x : Int32} {n N : Nat} (h0 : (0 : Int32) ≤ x) (h1 : x ≤ nI n - 1) (hn : n ≤ N) (hN : N < 2 ^ 31) : ∃ j : Nat, j < n ∧ j < N ∧ x = nI j := by
  have h2 : ¬ x < 0 := Int32.not_lt.mpr h0
  obtain ⟨j, hj, rfl⟩ := nI_of h2
  rcases Nat.eq_zero_or_pos n with e | e
  · subst e
    exfalso
    rw [z_le] at h1
    have e1 : (nI 0 - 1 : Int32).toInt = -1 := by decide +kernel
    rw [e1, nI_toInt hj] at h1
    omega
  · obtain ⟨k, rfl⟩ : ∃ k, n = k + 1 := ⟨n - 1, by omega⟩
    rw [nI_pred] at h1
    have h3 := (nI_leI hj (by omega)).mp h1
    exact ⟨j, by omega, by omega, rfl⟩
section NN
variable {p : Program} {l : Launch} {e : Env} {R : Room} {s : State} {m : MethodId} {args : Array Value} {below : List Frame} {meth : Method} {c : Code} {H : Heap} {locs : List Loc} {cells slots : Nat} {Q : State → Prop}
variable {cc : ByteArray} {pc : Nat} {ls : Array Slot} {rest : List Value} {j k : Nat}
theorem n_add (hx : p.tables.exec = Jvm.exec) (hb : c.code = cc) (hdg : decode cc pc = .ok (.iadd, 1)) (kk : W p l e R s m args below meth c H locs cells slots Q (F0 m (pc + 1) ls (.int (nI (j + k)) :: rest))) : W p l e R s m args below meth c H locs cells slots Q (F0 m pc ls (.int (nI k) :: .int (nI j) :: rest)) := by
  refine lv_iadd hx hb hdg ?_
  rw [nI_add]
  exact kk
theorem n_mul (hx : p.tables.exec = Jvm.exec) (hb : c.code = cc) (hdg : decode cc pc = .ok (.imul, 1)) (kk : W p l e R s m args below meth c H locs cells slots Q (F0 m (pc + 1) ls (.int (nI (j * k)) :: rest))) : W p l e R s m args below meth c H locs cells slots Q (F0 m pc ls (.int (nI k) :: .int (nI j) :: rest)) := by
  refine lv_imul hx hb hdg ?_
  rw [pk_mul]
  exact kk
theorem n_sub1 (hx : p.tables.exec = Jvm.exec) (hb : c.code = cc) (hdg : decode cc pc = .ok (.isub, 1)) (kk : W p l e R s m args below meth c H locs cells slots Q (F0 m (pc + 1) ls (.int (nI j) :: rest))) : W p l e R s m args below meth c H locs cells slots Q (F0 m pc ls (.int 1 :: .int (nI (j + 1)) :: rest)) := by
  refine lv_isub hx hb hdg ?_
  rw [nI_pred]
  exact kk
end NN
/-- what isWithin answers -/
def WI (x lo hi r : Int32) : Prop := (r = 1 ∧ lo ≤ x ∧ x ≤ hi) ∨ (r = 0 ∧ ¬ (lo ≤ x ∧ x ≤ hi))
theorem WI.z {x lo hi r : Int32} (h : WI x lo hi r) : r = 0 ∨ r = 1 := h.elim (fun q => Or.inr q.1) (fun q => Or.inl q.1)
theorem WI.t {x lo hi r : Int32} (h : WI x lo hi r) (hr : ¬ r = 0) : lo ≤ x ∧ x ≤ hi := h.elim (fun q => q.2) (fun q => absurd q.1 hr)
theorem WI.f {x lo hi r : Int32} (h : WI x lo hi r) (hr : r = 0) : ¬ (lo ≤ x ∧ x ≤ hi) := h.elim (fun q => absurd (hr.symm.trans q.1) (by decide)) (fun q => q.2)
theorem n_lt {j k : Nat} (hj : j < 2 ^ 31) (hk : k < 2 ^ 31) (h : nI j < nI k) : j < k := (nI_ltI hj hk).mp h
theorem n_nlt {j k : Nat} (hj : j < 2 ^ 31) (hk : k < 2 ^ 31) (h : ¬ nI j < nI k) : k ≤ j := Nat.le_of_not_lt fun q => h ((nI_ltI hj hk).mpr q)
