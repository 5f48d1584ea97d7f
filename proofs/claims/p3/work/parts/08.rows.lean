/-! ===== rows by a number that counts; Math.min, Math.max; a row of rows ===== -/
section RN
variable {p : Program} {l : Launch} {e : Env} {R : Room} {s : State} {m : MethodId} {args : Array Value} {below : List Frame} {meth : Method} {c : Code} {H : Heap} {locs : List Loc} {cells slots : Nat} {Q : State → Prop}
variable {cc : ByteArray} {pc : Nat} {ls : Array Slot} {rest : List Value} {D : va_G} {A : Nat → Prop} {a : Nat} {ws ws' : va_W} {own : String} {nL : Nat} {cy : Nat → ClassId}
theorem r_ialdN (E : EV p s m c args cc own nL D cy) (h : HW D A s ws H locs) {q0 n j : Nat} {f : Nat → Int32} (he : ws[q0]? = some (a, .inl (cy 1, n, .inl f))) (hj : j < n) (hn : n < 2 ^ 31) {v : Int32} (hv : f j = v) (hdg : decode cc pc = .ok (.iaload, 1))
    (kk : W p l e R s m args below meth c H locs cells slots Q (F0 m (pc + 1) ls (.int v :: rest))) : W p l e R s m args below meth c H locs cells slots Q (F0 m pc ls (.int (nI j) :: .ref a :: rest)) := by
  refine r_iald E h he (vp_in_nI hj hn) hdg ?_
  rw [nI_clamp (Nat.lt_trans hj hn)]
  rw [hv]
  exact kk
theorem r_baldN (E : EV p s m c args cc own nL D cy) (h : HW D A s ws H locs) {q0 n j : Nat} {f : Nat → Int32} (he : ws[q0]? = some (a, .inl (cy 0, n, .inl f))) (hj : j < n) (hn : n < 2 ^ 31) {v : Int32} (hv : f j = v) (hdg : decode cc pc = .ok (.baload, 1))
    (kk : W p l e R s m args below meth c H locs cells slots Q (F0 m (pc + 1) ls (.int v :: rest))) : W p l e R s m args below meth c H locs cells slots Q (F0 m pc ls (.int (nI j) :: .ref a :: rest)) := by
  refine r_bald E h he (vp_in_nI hj hn) hdg ?_
  rw [nI_clamp (Nat.lt_trans hj hn)]
  rw [hv]
  exact kk
theorem r_zaldN (E : EV p s m c args cc own nL D cy) (h : HW D A s ws H locs) {q0 n j : Nat} {f : Nat → Int32} (he : ws[q0]? = some (a, .inl (cy 2, n, .inl f))) (hj : j < n) (hn : n < 2 ^ 31) {v : Int32} (hv : f j = v) (hdg : decode cc pc = .ok (.baload, 1))
    (kk : W p l e R s m args below meth c H locs cells slots Q (F0 m (pc + 1) ls (.int v :: rest))) : W p l e R s m args below meth c H locs cells slots Q (F0 m pc ls (.int (nI j) :: .ref a :: rest)) := by
  refine r_zald E h he (vp_in_nI hj hn) hdg ?_
  rw [nI_clamp (Nat.lt_trans hj hn)]
  rw [hv]
  exact kk
theorem r_iastN (E : EV p s m c args cc own nL D cy) (h : HW D A s ws H locs) {q0 n j : Nat} {f : Nat → Int32} (he : ws[q0]? = some (a, .inl (cy 1, n, .inl f))) {x : Int32} (hj : j < n) (hn : n < 2 ^ 31) (hw : ws.set q0 (a, .inl (cy 1, n, .inl (upd f j x))) = ws') (hdg : decode cc pc = .ok (.iastore, 1))
    (kk : ∀ (H1 : Heap) (locs1 : List Loc), HW D A s ws' H1 locs1 → W p l e R s m args below meth c H1 locs1 cells slots Q (F0 m (pc + 1) ls rest)) : W p l e R s m args below meth c H locs cells slots Q (F0 m pc ls (.int x :: .int (nI j) :: .ref a :: rest)) :=
  r_iast E h he (vp_in_nI hj hn) (by rw [nI_clamp (Nat.lt_trans hj hn)]; exact hw) hdg kk
theorem r_bastN (E : EV p s m c args cc own nL D cy) (h : HW D A s ws H locs) {q0 n j : Nat} {f : Nat → Int32} (he : ws[q0]? = some (a, .inl (cy 0, n, .inl f))) {x : Int32} (hj : j < n) (hn : n < 2 ^ 31) (hw : ws.set q0 (a, .inl (cy 0, n, .inl (upd f j (vp_nar .byte x)))) = ws') (hdg : decode cc pc = .ok (.bastore, 1))
    (kk : ∀ (H1 : Heap) (locs1 : List Loc), HW D A s ws' H1 locs1 → W p l e R s m args below meth c H1 locs1 cells slots Q (F0 m (pc + 1) ls rest)) : W p l e R s m args below meth c H locs cells slots Q (F0 m pc ls (.int x :: .int (nI j) :: .ref a :: rest)) :=
  r_bast E h he (vp_in_nI hj hn) (by rw [nI_clamp (Nat.lt_trans hj hn)]; exact hw) hdg kk
theorem r_zastN (E : EV p s m c args cc own nL D cy) (h : HW D A s ws H locs) {q0 n j : Nat} {f : Nat → Int32} (he : ws[q0]? = some (a, .inl (cy 2, n, .inl f))) {x : Int32} (hj : j < n) (hn : n < 2 ^ 31) (hw : ws.set q0 (a, .inl (cy 2, n, .inl (upd f j (vp_nar .boolean x)))) = ws') (hdg : decode cc pc = .ok (.bastore, 1))
    (kk : ∀ (H1 : Heap) (locs1 : List Loc), HW D A s ws' H1 locs1 → W p l e R s m args below meth c H1 locs1 cells slots Q (F0 m (pc + 1) ls rest)) : W p l e R s m args below meth c H locs cells slots Q (F0 m pc ls (.int x :: .int (nI j) :: .ref a :: rest)) :=
  r_zast E h he (vp_in_nI hj hn) (by rw [nI_clamp (Nat.lt_trans hj hn)]; exact hw) hdg kk
theorem r_ialdV (E : EV p s m c args cc own nL D cy) (h : HW D A s ws H locs) {q0 n : Nat} {f : Nat → Int32} (he : ws[q0]? = some (a, .inl (cy 1, n, .inl f))) {i : Int32} (hin : vp_in i n) {v : Int32} (hv : f i.toNatClampNeg = v) (hdg : decode cc pc = .ok (.iaload, 1))
    (kk : W p l e R s m args below meth c H locs cells slots Q (F0 m (pc + 1) ls (.int v :: rest))) : W p l e R s m args below meth c H locs cells slots Q (F0 m pc ls (.int i :: .ref a :: rest)) := by
  refine r_iald E h he hin hdg ?_
  rw [hv]
  exact kk
theorem r_mmin (E : EV p s m c args cc own nL D cy) (hsz : ls.size = nL) {index : Nat} {x y : Int32} (ml : Cond.methodLink own index yJ9_min_7cf53 ∈ TB) (stt : Cond.static yJ9_min_7cf53 ∈ TB) (ini : Cond.initialized RJ9 ∈ TB) (co : Cond.code yJ9_min_7cf53 cJ9_min_7cf53 2 (some .int) ∈ TB) (hR : 1 ≤ R.frames ∧ (rest.map fun v => v.category).sum + 13 ≤ R.locals) (hcs : cells ≤ R.cells ∧ slots ≤ R.slots) (hdg : decode cc pc = .ok (.invokestatic index, 3))
    (kk : W p l e R s m args below meth c H locs cells slots Q (F0 m (pc + 3) ls (.int (if y < x then y else x) :: rest))) : W p l e R s m args below meth c H locs cells slots Q (F0 m pc ls (.int y :: .int x :: rest)) :=
  va_mmin E.1 E.2.1 (E.2.2.1.trans hsz.symm) E.2.2.2.1 (E.2.2.2.2.1 _ ml) (E.2.2.2.2.1 _ stt) (E.2.2.2.2.1 _ ini) (E.2.2.2.2.1 _ co) hR.1 hR.2 hcs.1 hcs.2 hdg kk
theorem r_mmax (E : EV p s m c args cc own nL D cy) (hsz : ls.size = nL) {index : Nat} {x y : Int32} (ml : Cond.methodLink own index yJ9_max_7cf53 ∈ TB) (stt : Cond.static yJ9_max_7cf53 ∈ TB) (ini : Cond.initialized RJ9 ∈ TB) (co : Cond.code yJ9_max_7cf53 cJ9_max_7cf53 2 (some .int) ∈ TB) (hR : 1 ≤ R.frames ∧ (rest.map fun v => v.category).sum + 13 ≤ R.locals) (hcs : cells ≤ R.cells ∧ slots ≤ R.slots) (hdg : decode cc pc = .ok (.invokestatic index, 3))
    (kk : W p l e R s m args below meth c H locs cells slots Q (F0 m (pc + 3) ls (.int (if x < y then y else x) :: rest))) : W p l e R s m args below meth c H locs cells slots Q (F0 m pc ls (.int y :: .int x :: rest)) :=
  va_mmax E.1 E.2.1 (E.2.2.1.trans hsz.symm) E.2.2.2.1 (E.2.2.2.2.1 _ ml) (E.2.2.2.2.1 _ stt) (E.2.2.2.2.1 _ ini) (E.2.2.2.2.1 _ co) hR.1 hR.2 hcs.1 hcs.2 hdg kk
end RN
/-! ===== numbers ===== -/
theorem z_lt (a b : Int32) : a < b ↔ a.toInt < b.toInt := Int32.lt_iff_toInt_lt
theorem z_le (a b : Int32) : a ≤ b ↔ a.toInt ≤ b.toInt := Int32.le_iff_toInt_le
theorem z_eq (a b : Int32) : a = b ↔ a.toInt = b.toInt := Int32.toInt_inj.symm
/-- x is one of 0 .. n: as the class's own test has it -/
theorem z_in {x : Int32} {n N : Nat} (h0 : (0 : Int32) ≤ x) (h1 : x ≤ nI n - 1) (hn : n ≤ N) (hN : N < 2 ^ 31) : ∃ j : Nat, j < n ∧ j < N ∧ x = nI j := by
  have h2 : ¬ x < 0 := Int32.not_lt.mpr h0
  obtain ⟨j, hj, rfl⟩ := nI_of h2
  rcases Nat.eq_zero_or_pos n with e | e
  · subst e
    exfalso
    rw [z_le] at h1
    have e1 : (nI 0 - 1 : Int32).toInt = -1 := by decide +kernel
    rw [e1, nI_toInt hj] at h1
    omega
  · obtain ⟨k, rfl⟩ : ∃ k, n = k + 1 := ⟨n - 1, by omega⟩
    rw [nI_pred] at h1
    have h3 := (nI_leI hj (by omega)).mp h1
    exact ⟨j, by omega, by omega, rfl⟩
section NN
variable {p : Program} {l : Launch} {e : Env} {R : Room} {s : State} {m : MethodId} {args : Array Value} {below : List Frame} {meth : Method} {c : Code} {H : Heap} {locs : List Loc} {cells slots : Nat} {Q : State → Prop}
variable {cc : ByteArray} {pc : Nat} {ls : Array Slot} {rest : List Value} {j k : Nat}
theorem n_add (hx : p.tables.exec = Jvm.exec) (hb : c.code = cc) (hdg : decode cc pc = .ok (.iadd, 1)) (kk : W p l e R s m args below meth c H locs cells slots Q (F0 m (pc + 1) ls (.int (nI (j + k)) :: rest))) : W p l e R s m args below meth c H locs cells slots Q (F0 m pc ls (.int (nI k) :: .int (nI j) :: rest)) := by
  refine lv_iadd hx hb hdg ?_
  rw [nI_add]
  exact kk
theorem n_mul (hx : p.tables.exec = Jvm.exec) (hb : c.code = cc) (hdg : decode cc pc = .ok (.imul, 1)) (kk : W p l e R s m args below meth c H locs cells slots Q (F0 m (pc + 1) ls (.int (nI (j * k)) :: rest))) : W p l e R s m args below meth c H locs cells slots Q (F0 m pc ls (.int (nI k) :: .int (nI j) :: rest)) := by
  refine lv_imul hx hb hdg ?_
  rw [pk_mul]
  exact kk
theorem n_sub1 (hx : p.tables.exec = Jvm.exec) (hb : c.code = cc) (hdg : decode cc pc = .ok (.isub, 1)) (kk : W p l e R s m args below meth c H locs cells slots Q (F0 m (pc + 1) ls (.int (nI j) :: rest))) : W p l e R s m args below meth c H locs cells slots Q (F0 m pc ls (.int 1 :: .int (nI (j + 1)) :: rest)) := by
  refine lv_isub hx hb hdg ?_
  rw [nI_pred]
  exact kk
end NN
/-- what isWithin answers -/
def WI (x lo hi r : Int32) : Prop := (r = 1 ∧ lo ≤ x ∧ x ≤ hi) ∨ (r = 0 ∧ ¬ (lo ≤ x ∧ x ≤ hi))
theorem WI.z {x lo hi r : Int32} (h : WI x lo hi r) : r = 0 ∨ r = 1 := h.elim (fun q => Or.inr q.1) (fun q => Or.inl q.1)
theorem WI.t {x lo hi r : Int32} (h : WI x lo hi r) (hr : ¬ r = 0) : lo ≤ x ∧ x ≤ hi := h.elim (fun q => q.2) (fun q => absurd q.1 hr)
theorem WI.f {x lo hi r : Int32} (h : WI x lo hi r) (hr : r = 0) : ¬ (lo ≤ x ∧ x ≤ hi) := h.elim (fun q => absurd (hr.symm.trans q.1) (by decide)) (fun q => q.2)
theorem n_lt {j k : Nat} (hj : j < 2 ^ 31) (hk : k < 2 ^ 31) (h : nI j < nI k) : j < k := (nI_ltI hj hk).mp h
theorem n_nlt {j k : Nat} (hj : j < 2 ^ 31) (hk : k < 2 ^ 31) (h : ¬ nI j < nI k) : k ≤ j := Nat.le_of_not_lt fun q => h ((nI_ltI hj hk).mpr q)
theorem in_le {x : Int32} {a b : Nat} (h : vp_in x a) (hab : a ≤ b) : vp_in x b := by
  rw [vp_in_iff] at h ⊢
  omega
theorem in_clamp {x : Int32} {a : Nat} (h : vp_in x a) : x.toNatClampNeg < a := Nat.not_le.mp fun q => h (Or.inr q)
/-- a law's kind and value, as the class may hold them -/
def LAWOK (k v : Int32) : Prop := vp_in k 6 ∧ (k = 5 → vp_in v 3) ∧ (k = 0 → vp_in v 3)
/-- the ints fs and the rows rs are the same -/
def K (fs rs : List Nat) (σ τ : St) : Prop := (∀ k, k ∈ fs → τ.1 k = σ.1 k) ∧ ∀ k, k ∈ rs → τ.2.1 k = σ.2.1 k
theorem K.rf {fs rs : List Nat} {σ : St} : K fs rs σ σ := ⟨fun _ _ => rfl, fun _ _ => rfl⟩
theorem K.tr {fs rs : List Nat} {σ τ υ : St} (h : K fs rs σ τ) (h2 : K fs rs τ υ) : K fs rs σ υ := ⟨fun k hk => (h2.1 k hk).trans (h.1 k hk), fun k hk => (h2.2 k hk).trans (h.2 k hk)⟩
theorem K.F {fs rs : List Nat} {σ τ : St} (h : K fs rs σ τ) (k : Nat) (v : Int32) (hk : k ∉ fs) : K fs rs σ (fF τ k v) := ⟨fun j hj => by
  show va_up τ.1 k v j = _
  rw [va_up, if_neg (fun (q : j = k) => hk (q ▸ hj))]
  exact h.1 j hj, h.2⟩
theorem K.R {fs rs : List Nat} {σ τ : St} (h : K fs rs σ τ) (k : Nat) (f : Nat → Int32) (hk : k ∉ rs) : K fs rs σ (fR τ k f) := ⟨h.1, fun j hj => by
  show va_up τ.2.1 k f j = _
  rw [va_up, if_neg (fun (q : j = k) => hk (q ▸ hj))]
  exact h.2 j hj⟩
theorem K.sub {fs rs fs' rs' : List Nat} {σ τ : St} (h : K fs rs σ τ) (h1 : ∀ k ∈ fs', k ∈ fs) (h2 : ∀ k ∈ rs', k ∈ rs) : K fs' rs' σ τ := ⟨fun k hk => h.1 k (h1 k hk), fun k hk => h.2 k (h2 k hk)⟩
theorem upd_s {f : Nat → Int32} {k : Nat} {x : Int32} : upd f k x k = x := pk_us
theorem upd_n {f : Nat → Int32} {k j : Nat} {x : Int32} (h : j ≠ k) : upd f k x j = f j := pk_un h
/-- the class's own: what it keeps between calls (ints and rows), and beside them what counts in a year -/
def cF : List Nat := [0, 1, 3, 7, 9, 10, 11, 12, 13, 14, 15]
def cA : List Nat := [18, 19, 20, 21, 22, 29, 30, 31, 33, 34, 35, 36, 38, 39, 40, 41, 42, 43, 44, 45, 46, 47, 48, 49, 50, 51, 52, 53, 54, 55, 56, 57, 58, 59]
def cA2 : List Nat := 23 :: cA
/-- a row of groups: sizes f, members m, width w, numbers below b -/
def GRP (f m : Nat → Int32) (w b : Nat) : Prop := ∀ c, c < 12 → ∃ z, z ≤ w ∧ f c = nI z ∧ ∀ i, i < z → vp_in (m (c * w + i)) b
def gTape (σ : St) : Prop := ∃ n, n ≤ 400 ∧ σ.1 3 = nI n
def gBook (σ : St) : Prop := ∃ n, n ≤ 30 ∧ σ.1 7 = nI n ∧ ∀ i, i < n → LAWOK (σ.2.1 21 i) (σ.2.1 22 i)
def gDeaths (σ : St) : Prop := ∃ n, n ≤ 60 ∧ σ.1 9 = nI n ∧ ∀ i, i < n → vp_in (σ.2.1 29 i) 40
def gSprings (σ : St) : Prop := ∃ q n, q ≤ 4 ∧ σ.1 10 = nI q ∧ n ≤ 60 ∧ σ.1 11 = nI n ∧ ∀ i, i < n → vp_in (σ.2.1 34 i) 4
def gCastles (σ : St) : Prop := ∃ n, n ≤ 12 ∧ σ.1 12 = nI n ∧ ∀ i, i < n → σ.2.1 38 i < 100 → vp_in (σ.2.1 38 i) 4
def gNozzles (σ : St) : Prop := ∃ n, n ≤ 80 ∧ σ.1 13 = nI n ∧ ∀ i, i < n → (σ.2.1 42 i = 2 → vp_in (σ.2.1 43 i) 40) ∧ (¬ σ.2.1 42 i = 2 → vp_in (σ.2.1 43 i) 8)
def gRest (σ : St) : Prop := (∃ n, n ≤ 60 ∧ σ.1 14 = nI n) ∧ (∃ n, n ≤ 40 ∧ σ.1 15 = nI n) ∧ (∃ n, n ≤ 200 ∧ σ.1 1 = nI n) ∧ (∃ n, n ≤ 40 ∧ σ.1 0 = nI n)
def gGroups (σ : St) : Prop := GRP (σ.2.1 53) (σ.2.1 52) 12 12 ∧ GRP (σ.2.1 55) (σ.2.1 54) 80 80 ∧ GRP (σ.2.1 57) (σ.2.1 56) 60 60 ∧ GRP (σ.2.1 59) (σ.2.1 58) 40 40
def GX (σ : St) : Prop := gTape σ ∧ gBook σ ∧ gDeaths σ ∧ gSprings σ ∧ gCastles σ ∧ gNozzles σ ∧ gRest σ ∧ gGroups σ
theorem GX.kept {σ τ : St} (g : GX σ) (h : K cF cA σ τ) : GX τ := by
  obtain ⟨g1, g2, g3, g4, g5, g6, g7, g8⟩ := g
  refine ⟨?_, ?_, ?_, ?_, ?_, ?_, ?_, ?_⟩
  · unfold gTape at *; rw [h.1 3 (by decide)]; exact g1
  · unfold gBook at *; rw [h.1 7 (by decide), h.2 21 (by decide), h.2 22 (by decide)]; exact g2
  · unfold gDeaths at *; rw [h.1 9 (by decide), h.2 29 (by decide)]; exact g3
  · unfold gSprings at *; rw [h.1 10 (by decide), h.1 11 (by decide), h.2 34 (by decide)]; exact g4
  · unfold gCastles at *; rw [h.1 12 (by decide), h.2 38 (by decide)]; exact g5
  · unfold gNozzles at *; rw [h.1 13 (by decide), h.2 42 (by decide), h.2 43 (by decide)]; exact g6
  · unfold gRest at *; rw [h.1 14 (by decide), h.1 15 (by decide), h.1 1 (by decide), h.1 0 (by decide)]; exact g7
  · unfold gGroups at *; rw [h.2 52 (by decide), h.2 53 (by decide), h.2 54 (by decide), h.2 55 (by decide), h.2 56 (by decide), h.2 57 (by decide), h.2 58 (by decide), h.2 59 (by decide)]; exact g8
/-- what the class's book of a year says of the rank that is first -/
def CF (σ : St) : Prop := vp_in (σ.2.1 23 0) 3
/-- the claims laid down: fewer than 80, each a number below B -/
def SHI (B : Nat) (σ : St) : Prop := ∃ z, z ≤ 80 ∧ σ.1 17 = nI z ∧ ∀ i, i < z → vp_in (σ.2.1 60 i) B
