
def mF : List Nat := [2, 3, 4, 5, 6, 7, 8, 9, 10, 11, 13]
def mA : List Nat := [1, 2, 3, 4, 5, 6, 7, 8, 9, 10, 11, 12, 13, 14, 15, 16, 17, 18, 19, 20, 21, 22, 23, 24, 25, 26, 27, 29]
def WL (x lo hi : Int64) (r : Int32) : Prop := (r = 1 ∧ lo ≤ x ∧ x ≤ hi) ∨ (r = 0 ∧ ¬ (lo ≤ x ∧ x ≤ hi))
theorem WL.z {x lo hi : Int64} {r : Int32} (h : WL x lo hi r) : r = 0 ∨ r = 1 := h.elim (fun q => Or.inr q.1) (fun q => Or.inl q.1)
theorem wide_le (a b : Int32) : a.toInt64 ≤ b.toInt64 ↔ a ≤ b := by
  rw [Int64.le_iff_toInt_le, Int32.le_iff_toInt_le, Int32.toInt_toInt64, Int32.toInt_toInt64]
theorem WL.i {x l h r : Int32} {lo hi : Int64} (w : WL x.toInt64 lo hi r) (hl : lo = l.toInt64) (hh : hi = h.toInt64) : WI x l h r := by
  subst hl; subst hh
  unfold WL at w
  rw [wide_le, wide_le] at w
  exact w
theorem pred64 {n : Nat} (hn : n ≤ 1000) : (nI n).toInt64 - 1 = (nI n - 1).toInt64 := by
  rcases Nat.eq_zero_or_pos n with e | e
  · subst e; decide +kernel
  · obtain ⟨k, rfl⟩ : ∃ k, n = k + 1 := ⟨n - 1, by omega⟩
    rw [nI_pred, nI_l (by omega), nI_l (by omega)]
    exact lN_sub (a := k + 1) (b := 1) (by omega)
theorem n_eq {j k : Nat} (hj : j < 2 ^ 31) (hk : k < 2 ^ 31) (h : nI j = nI k) : j = k := (nI_eq hj hk).mp h
theorem n_ne {j k : Nat} (h : ¬ nI j = nI k) : j ≠ k := fun e => h (by rw [e])
theorem lcmp_lt {x y : Int64} : lg_cmp x y < 0 ↔ x < y := by
  unfold lg_cmp
  by_cases h : y < x
  · have h3 : ¬ x < y := Int64.lt_asymm h
    simp [h, h3]
  · by_cases h2 : x = y
    · subst h2; simp
    · have h3 : x < y := Int64.lt_of_le_of_ne (Int64.not_lt.mp h) h2
      simp [h, h2, h3]
theorem lcmp_gt {x y : Int64} : 0 < lg_cmp x y ↔ y < x := by
  unfold lg_cmp
  by_cases h : y < x
  · simp [h]
  · by_cases h2 : x = y
    · subst h2; simp
    · simp [h, h2]
theorem lcmp_le {x y : Int64} : lg_cmp x y ≤ 0 ↔ x ≤ y := by
  constructor
  · intro h
    exact Int64.not_lt.mp (fun q => absurd (lcmp_gt.mpr q) (Int32.not_lt.mpr h))
  · intro h
    exact Int32.not_lt.mp (fun q => absurd (lcmp_gt.mp q) (Int64.not_lt.mpr h))
/-- the last death told of x that is known by y -/
def ld (P Y N : Nat → Int32) (x y : Int32) : Nat → Int32
  | 0 => -1
  | n + 1 => if P n = x ∧ N n ≤ y then Y n else ld P Y N x y n
def WT (x : Int32) : Prop := 1 ≤ x.toInt ∧ x.toInt ≤ 100000
def GM (R : Nat) (σ : St) : Prop := (∃ n, n ≤ 4 ∧ σ.1 3 = nI n) ∧ (∃ n, n ≤ 60 ∧ σ.1 4 = nI n) ∧ (∃ n, n ≤ 12 ∧ σ.1 5 = nI n ∧ ∀ i, i < n → WT (σ.2.1 6 i)) ∧ (∃ n, n ≤ 40 ∧ σ.1 6 = nI n) ∧ (∃ n, n ≤ 60 ∧ σ.1 7 = nI n) ∧ (∃ n, n ≤ 80 ∧ σ.1 8 = nI n ∧ ∀ i, i < n → WT (σ.2.1 12 i)) ∧ (∃ n, n ≤ 60 ∧ σ.1 9 = nI n) ∧ (∃ n, n ≤ R ∧ σ.1 10 = nI n) ∧ (∃ n, n ≤ 30 ∧ σ.1 11 = nI n) ∧ (∃ n, n ≤ 400 ∧ σ.1 13 = nI n) ∧ (∃ n, n ≤ 200 ∧ σ.1 2 = nI n)
theorem GM.kept {R : Nat} {σ τ : St} (g : GM R σ) (h : K mF mA σ τ) : GM R τ := by
  unfold GM at *
  rw [h.1 2 (by decide), h.1 3 (by decide), h.1 4 (by decide), h.1 5 (by decide), h.1 6 (by decide), h.1 7 (by decide), h.1 8 (by decide), h.1 9 (by decide), h.1 10 (by decide), h.1 11 (by decide), h.1 13 (by decide), h.2 6 (by decide), h.2 12 (by decide)]
  exact g

set_option maxHeartbeats 4000000 in
set_option maxRecDepth 100000 in
theorem c_X12_in (l : Launch) (D : va_G) (cy : Nat → ClassId) (a : Nat → Nat) (σ : St) (x lo hi : Int64)  : CI l yX12_in cX12_in 6 (some .boolean) (rmOf 0 0) D cy (wM cy a) (AM a) [.long x, .long lo, .long hi] σ (fun r τ => τ = σ ∧ WL x lo hi r) := by
  refine c_of (lv := [(0, .long x), (2, .long lo), (4, .long hi)]) rfl (Nat.le_of_ble_eq_true rfl) rfl ?_
  intro p e s m args below meth c ls E h hr hk hl
  have hx := E.1
  have hb := E.2.1
  refine lv_lload_n hx hb dX12_in_0 rfl (lv_at hl 0 rfl) ?_
  refine lv_lload_n hx hb dX12_in_1 rfl (lv_at hl 1 rfl) ?_
  refine W.lcmp hx hb dX12_in_2 ?_
  refine lv_if_lt (tgt := 17) hx hb dX12_in_3 (by decide) (fun c3 => ?_) (fun c3 => ?_)
  · refine lv_iconst (v := 0) hx hb dX12_in_17 (by decide) ?_
    exact t_z E h hr hk (Or.inl rfl) ⟨rfl, Or.inr ⟨rfl, fun q => absurd q.1 (Int64.not_le.mpr (lcmp_lt.mp c3))⟩⟩ dX12_in_18
  · refine lv_lload_n hx hb dX12_in_6 rfl (lv_at hl 0 rfl) ?_
    refine lv_lload hx hb dX12_in_7 (lv_at hl 2 rfl) ?_
    refine W.lcmp hx hb dX12_in_9 ?_
    refine lv_if_gt (tgt := 17) hx hb dX12_in_10 (by decide) (fun c10 => ?_) (fun c10 => ?_)
    · refine lv_iconst (v := 0) hx hb dX12_in_17 (by decide) ?_
      exact t_z E h hr hk (Or.inl rfl) ⟨rfl, Or.inr ⟨rfl, fun q => absurd q.2 (Int64.not_le.mpr (lcmp_gt.mp c10))⟩⟩ dX12_in_18
    · refine lv_iconst (v := 1) hx hb dX12_in_13 (by decide) ?_
      refine lv_goto (tgt := 18) hx hb dX12_in_14 (by decide) ?_
      exact t_z E h hr hk (Or.inr rfl) ⟨rfl, Or.inl ⟨rfl, Int64.not_lt.mp (fun q => c3 (lcmp_lt.mpr q)), Int64.not_lt.mp (fun q => c10 (lcmp_gt.mpr q))⟩⟩ dX12_in_18

set_option maxHeartbeats 4000000 in
set_option maxRecDepth 100000 in
theorem c_X12_told (l : Launch) (D : va_G) (cy : Nat → ClassId) (a : Nat → Nat) (σ : St) (x : Int32)  : CI l yX12_told cX12_told 2 (some .int) (rmOf 0 0) D cy (wM cy a) (AM a) [.ref (a 0), .int x] σ (fun r τ => r = x ∧ ∃ v, τ = fF σ 1 v) := by
  refine c_of (lv := [(0, .ref (a 0)), (1, .int x)]) rfl (Nat.le_of_ble_eq_true rfl) rfl ?_
  intro p e s m args below meth c ls E h hr hk hl
  have hx := E.1
  have hb := E.2.1
  refine lv_aload_n hx hb dX12_told_0 rfl (lv_at hl 0 rfl) ?_
  refine lv_iload_n hx hb dX12_told_1 rfl (lv_at hl 1 rfl) ?_
  refine lv_if_ge (tgt := 9) hx hb dX12_told_2 (by decide) (fun c2 => ?_) (fun c2 => ?_)
  · refine lv_iconst (v := 0) hx hb dX12_told_9 (by decide) ?_
    refine r_put E h 1 (ty := .int) (eM_0 cy a σ) rfl fw_X12 tyX12_ok nmX12 (by decide) fl_X12_134 rfl (by decide +kernel) rfl rfl (Nat.le_of_ble_eq_true rfl) (sM_1 cy a σ 0) dX12_told_10 (fun H locs h => ?_)
    refine lv_iload_n hx hb dX12_told_13 rfl (lv_at hl 1 rfl) ?_
    exact t_i E h hr hk ⟨rfl, _, rfl⟩ dX12_told_14
  · refine lv_iload_n hx hb dX12_told_5 rfl (lv_at hl 1 rfl) ?_
    refine lv_goto (tgt := 10) hx hb dX12_told_6 (by decide) ?_
    refine r_put E h 1 (ty := .int) (eM_0 cy a σ) rfl fw_X12 tyX12_ok nmX12 (by decide) fl_X12_134 rfl (by decide +kernel) rfl rfl (Nat.le_of_ble_eq_true rfl) (sM_1 cy a σ x) dX12_told_10 (fun H locs h => ?_)
    refine lv_iload_n hx hb dX12_told_13 rfl (lv_at hl 1 rfl) ?_
    exact t_i E h hr hk ⟨rfl, _, rfl⟩ dX12_told_14

set_option maxHeartbeats 4000000 in
set_option maxRecDepth 100000 in
theorem c_X12_isYear (l : Launch) (D : va_G) (cy : Nat → ClassId) (a : Nat → Nat) (σ : St) (x : Int32)  : CI l yX12_isYear cX12_isYear 1 (some .boolean) (rmOf 1 25) D cy (wM cy a) (AM a) [.int x] σ (fun r τ => τ = σ ∧ WI x 0 200 r) := by
  refine c_of (lv := [(0, .int x)]) rfl (Nat.le_of_ble_eq_true rfl) rfl ?_
  intro p e s m args below meth c ls E h hr hk hl
  have hx := E.1
  have hb := E.2.1
  refine lv_iload_n hx hb dX12_isYear_0 rfl (lv_at hl 0 rfl) ?_
  refine lv_i2l hx hb dX12_isYear_1 rfl ?_
  refine lv_lconst (v := 0) hx hb dX12_isYear_2 (by decide) ?_
  refine lv_ldc2 (v := 200) hx hb E.2.2.2.1 (E.2.2.2.2.1 _ kl_X12_137) dX12_isYear_3 ?_
  refine k_i h (q_runS (As := [.long x.toInt64, .long 0, .long 200]) (rest := []) E h (c_X12_in l D cy a σ x.toInt64 0 200) co_X12_in ml_X12_139 st_X12_in in_X12 rfl ok_X12_in rfl ⟨by decide, by decide⟩ hl.1 rfl (Nat.le_of_ble_eq_true rfl) dX12_isYear_6 ⟨Nat.zero_le _, Nat.zero_le _⟩) (wM_fst cy a) (fun r6 τ6 H locs p6 h => ?_)
  rw [p6.1] at h
  exact t_z E h hr hk p6.2.z ⟨rfl, p6.2.i rfl rfl⟩ dX12_isYear_9

set_option maxHeartbeats 4000000 in
set_option maxRecDepth 100000 in
theorem c_X12_isCastle (l : Launch) (D : va_G) (cy : Nat → ClassId) (a : Nat → Nat) (σ : St) (x : Int32) (n : Nat) (hn : σ.1 5 = nI n) (hn9 : n ≤ 1000) : CI l yX12_isCastle cX12_isCastle 2 (some .boolean) (rmOf 1 25) D cy (wM cy a) (AM a) [.ref (a 0), .int x] σ (fun r τ => τ = σ ∧ WI x 0 (nI n - 1) r) := by
  refine c_of (lv := [(0, .ref (a 0)), (1, .int x)]) rfl (Nat.le_of_ble_eq_true rfl) rfl ?_
  intro p e s m args below meth c ls E h hr hk hl
  have hx := E.1
  have hb := E.2.1
  refine lv_iload_n hx hb dX12_isCastle_0 rfl (lv_at hl 1 rfl) ?_
  refine lv_i2l hx hb dX12_isCastle_1 rfl ?_
  refine lv_lconst (v := 0) hx hb dX12_isCastle_2 (by decide) ?_
  refine lv_aload_n hx hb dX12_isCastle_3 rfl (lv_at hl 0 rfl) ?_
  refine r_get E h 9 (v := .int (nI n)) (eM_0 cy a σ) rfl fw_X12 (by decide) fl_X12_143 (congrArg (fun z => some (Value.int z)) hn) dX12_isCastle_4 ?_
  refine lv_i2l hx hb dX12_isCastle_7 rfl ?_
  refine lv_lconst (v := 1) hx hb dX12_isCastle_8 (by decide) ?_
  refine lv_lsub hx hb dX12_isCastle_9 ?_
  refine k_i h (q_runS (As := [.long x.toInt64, .long 0, .long (((nI n).toInt64) - 1)]) (rest := []) E h (c_X12_in l D cy a σ x.toInt64 0 (((nI n).toInt64) - 1)) co_X12_in ml_X12_139 st_X12_in in_X12 rfl ok_X12_in rfl ⟨by decide, by decide⟩ hl.1 rfl (Nat.le_of_ble_eq_true rfl) dX12_isCastle_10 ⟨Nat.zero_le _, Nat.zero_le _⟩) (wM_fst cy a) (fun r10 τ10 H locs p10 h => ?_)
  rw [p10.1] at h
  exact t_z E h hr hk p10.2.z ⟨rfl, p10.2.i rfl (pred64 hn9)⟩ dX12_isCastle_13

set_option maxHeartbeats 4000000 in
set_option maxRecDepth 100000 in
theorem c_X12_isPerson (l : Launch) (D : va_G) (cy : Nat → ClassId) (a : Nat → Nat) (σ : St) (x : Int32) (n : Nat) (hn : σ.1 6 = nI n) (hn9 : n ≤ 1000) : CI l yX12_isPerson cX12_isPerson 2 (some .boolean) (rmOf 1 25) D cy (wM cy a) (AM a) [.ref (a 0), .int x] σ (fun r τ => τ = σ ∧ WI x 0 (nI n - 1) r) := by
  refine c_of (lv := [(0, .ref (a 0)), (1, .int x)]) rfl (Nat.le_of_ble_eq_true rfl) rfl ?_
  intro p e s m args below meth c ls E h hr hk hl
  have hx := E.1
  have hb := E.2.1
  refine lv_iload_n hx hb dX12_isPerson_0 rfl (lv_at hl 1 rfl) ?_
  refine lv_i2l hx hb dX12_isPerson_1 rfl ?_
  refine lv_lconst (v := 0) hx hb dX12_isPerson_2 (by decide) ?_
  refine lv_aload_n hx hb dX12_isPerson_3 rfl (lv_at hl 0 rfl) ?_
  refine r_get E h 13 (v := .int (nI n)) (eM_0 cy a σ) rfl fw_X12 (by decide) fl_X12_146 (congrArg (fun z => some (Value.int z)) hn) dX12_isPerson_4 ?_
  refine lv_i2l hx hb dX12_isPerson_7 rfl ?_
  refine lv_lconst (v := 1) hx hb dX12_isPerson_8 (by decide) ?_
  refine lv_lsub hx hb dX12_isPerson_9 ?_
  refine k_i h (q_runS (As := [.long x.toInt64, .long 0, .long (((nI n).toInt64) - 1)]) (rest := []) E h (c_X12_in l D cy a σ x.toInt64 0 (((nI n).toInt64) - 1)) co_X12_in ml_X12_139 st_X12_in in_X12 rfl ok_X12_in rfl ⟨by decide, by decide⟩ hl.1 rfl (Nat.le_of_ble_eq_true rfl) dX12_isPerson_10 ⟨Nat.zero_le _, Nat.zero_le _⟩) (wM_fst cy a) (fun r10 τ10 H locs p10 h => ?_)
  rw [p10.1] at h
  exact t_z E h hr hk p10.2.z ⟨rfl, p10.2.i rfl (pred64 hn9)⟩ dX12_isPerson_13

set_option maxHeartbeats 4000000 in
set_option maxRecDepth 100000 in
theorem c_X12_isNozzle (l : Launch) (D : va_G) (cy : Nat → ClassId) (a : Nat → Nat) (σ : St) (x : Int32) (n : Nat) (hn : σ.1 8 = nI n) (hn9 : n ≤ 1000) : CI l yX12_isNozzle cX12_isNozzle 2 (some .boolean) (rmOf 1 25) D cy (wM cy a) (AM a) [.ref (a 0), .int x] σ (fun r τ => τ = σ ∧ WI x 0 (nI n - 1) r) := by
  refine c_of (lv := [(0, .ref (a 0)), (1, .int x)]) rfl (Nat.le_of_ble_eq_true rfl) rfl ?_
  intro p e s m args below meth c ls E h hr hk hl
  have hx := E.1
  have hb := E.2.1
  refine lv_iload_n hx hb dX12_isNozzle_0 rfl (lv_at hl 1 rfl) ?_
  refine lv_i2l hx hb dX12_isNozzle_1 rfl ?_
  refine lv_lconst (v := 0) hx hb dX12_isNozzle_2 (by decide) ?_
  refine lv_aload_n hx hb dX12_isNozzle_3 rfl (lv_at hl 0 rfl) ?_
  refine r_get E h 18 (v := .int (nI n)) (eM_0 cy a σ) rfl fw_X12 (by decide) fl_X12_149 (congrArg (fun z => some (Value.int z)) hn) dX12_isNozzle_4 ?_
  refine lv_i2l hx hb dX12_isNozzle_7 rfl ?_
  refine lv_lconst (v := 1) hx hb dX12_isNozzle_8 (by decide) ?_
  refine lv_lsub hx hb dX12_isNozzle_9 ?_
  refine k_i h (q_runS (As := [.long x.toInt64, .long 0, .long (((nI n).toInt64) - 1)]) (rest := []) E h (c_X12_in l D cy a σ x.toInt64 0 (((nI n).toInt64) - 1)) co_X12_in ml_X12_139 st_X12_in in_X12 rfl ok_X12_in rfl ⟨by decide, by decide⟩ hl.1 rfl (Nat.le_of_ble_eq_true rfl) dX12_isNozzle_10 ⟨Nat.zero_le _, Nat.zero_le _⟩) (wM_fst cy a) (fun r10 τ10 H locs p10 h => ?_)
  rw [p10.1] at h
  exact t_z E h hr hk p10.2.z ⟨rfl, p10.2.i rfl (pred64 hn9)⟩ dX12_isNozzle_13

set_option maxHeartbeats 4000000 in
set_option maxRecDepth 100000 in
theorem c_X12_aqueduct (l : Launch) (D : va_G) (cy : Nat → ClassId) (a : Nat → Nat) (σ : St) (x : Int32) (q : Nat) (hq : σ.1 3 = nI q) (h4 : q ≤ 4) : CI l yX12_aqueduct cX12_aqueduct 2 (some .int) (rmOf 1 25) D cy (wM cy a) (AM a) [.ref (a 0), .int x] σ (fun r τ => (¬ ((0 : Int32) ≤ x ∧ x ≤ 100000) ∧ r = -1 ∧ K mF mA σ τ) ∨ (((0 : Int32) ≤ x ∧ x ≤ 100000) ∧ ((q = 4 ∧ r = -5 ∧ K mF mA σ τ) ∨ (q < 4 ∧ r = nI q ∧ τ.1 3 = nI (q + 1) ∧ K [2, 4, 5, 6, 7, 8, 9, 10, 11, 13] [2, 3, 4, 5, 6, 7, 8, 9, 10, 11, 12, 13, 14, 15, 16, 17, 18, 19, 20, 21, 22, 23, 24, 25, 26, 27, 29] σ τ)))) := by
  refine c_of (lv := [(0, .ref (a 0)), (1, .int x)]) rfl (Nat.le_of_ble_eq_true rfl) rfl ?_
  intro p e s m args below meth c ls E h hr hk hl
  have hx := E.1
  have hb := E.2.1
  refine lv_aload_n hx hb dX12_aqueduct_0 rfl (lv_at hl 0 rfl) ?_
  refine lv_iconst (v := 0) hx hb dX12_aqueduct_1 (by decide) ?_
  refine r_put E h 0 (ty := .int) (eM_0 cy a σ) rfl fw_X12 tyX12_ok nmX12 (by decide) fl_X12_131 rfl (by decide +kernel) rfl rfl (Nat.le_of_ble_eq_true rfl) (sM_0 cy a σ 0) dX12_aqueduct_2 (fun H locs h => ?_)
  refine lv_iload_n hx hb dX12_aqueduct_5 rfl (lv_at hl 1 rfl) ?_
  refine lv_i2l hx hb dX12_aqueduct_6 rfl ?_
  refine lv_lconst (v := 0) hx hb dX12_aqueduct_7 (by decide) ?_
  refine lv_ldc2 (v := 100000) hx hb E.2.2.2.1 (E.2.2.2.2.1 _ kl_X12_152) dX12_aqueduct_8 ?_
  refine k_i h (q_runS (As := [.long x.toInt64, .long 0, .long 100000]) (rest := []) E h (c_X12_in l D cy a (fF σ 0 0) x.toInt64 0 100000) co_X12_in ml_X12_139 st_X12_in in_X12 rfl ok_X12_in rfl ⟨by decide, by decide⟩ hl.1 rfl (Nat.le_of_ble_eq_true rfl) dX12_aqueduct_11 ⟨Nat.zero_le _, Nat.zero_le _⟩) (wM_fst cy a) (fun r11 τ11 H locs p11 h => ?_)
  rw [p11.1] at h
  have w11 : WI x 0 100000 r11 := p11.2.i rfl rfl
  refine lv_if_ne (tgt := 23) hx hb dX12_aqueduct_14 (by decide) (fun c14 => ?_) (fun c14 => ?_)
  · refine lv_aload_n hx hb dX12_aqueduct_23 rfl (lv_at hl 0 rfl) ?_
    refine r_get E h 3 (v := .int (nI q)) (eM_0 cy a (fF σ 0 0)) rfl fw_X12 (by decide) fl_X12_158 (congrArg (fun z => some (Value.int z)) hq) dX12_aqueduct_24 ?_
    refine lv_iconst (v := 4) hx hb dX12_aqueduct_27 (by decide) ?_
    refine lv_icmp_ne (tgt := 38) hx hb dX12_aqueduct_28 (by decide) (fun c28 => ?_) (fun c28 => ?_)
    · have c28 : q ≠ 4 := n_ne (k := 4) c28
      refine lv_aload_n hx hb dX12_aqueduct_38 rfl (lv_at hl 0 rfl) ?_
      refine r_get E h 4 (v := .ref (a 1)) (eM_0 cy a (fF σ 0 0)) rfl fw_X12 (by decide) fl_X12_7 rfl dX12_aqueduct_39 ?_
      refine lv_aload_n hx hb dX12_aqueduct_42 rfl (lv_at hl 0 rfl) ?_
      refine r_get E h 3 (v := .int (nI q)) (eM_0 cy a (fF σ 0 0)) rfl fw_X12 (by decide) fl_X12_158 (congrArg (fun z => some (Value.int z)) hq) dX12_aqueduct_43 ?_
      refine lv_iload_n hx hb dX12_aqueduct_46 rfl (lv_at hl 1 rfl) ?_
      refine r_iastN E h (f := σ.2.1 1) (eM_1 cy a (fF σ 0 0)) (j := q) (by omega) (by decide) (qM_1 cy a (fF σ 0 0) (upd (σ.2.1 1) q x)) dX12_aqueduct_47 (fun H locs h => ?_)
      refine lv_aload_n hx hb dX12_aqueduct_48 rfl (lv_at hl 0 rfl) ?_
      refine lv_dup hx hb dX12_aqueduct_49 rfl ?_
      refine r_get E h 3 (v := .int (nI q)) (eM_0 cy a (fR (fF σ 0 0) 1 (upd (σ.2.1 1) q x))) rfl fw_X12 (by decide) fl_X12_158 (congrArg (fun z => some (Value.int z)) hq) dX12_aqueduct_50 ?_
      refine lv_iconst (v := 1) hx hb dX12_aqueduct_53 (by decide) ?_
      refine n_add (j := q) (k := 1) hx hb dX12_aqueduct_54 ?_
      refine r_put E h 3 (ty := .int) (eM_0 cy a (fR (fF σ 0 0) 1 (upd (σ.2.1 1) q x))) rfl fw_X12 tyX12_ok nmX12 (by decide) fl_X12_158 rfl (by decide +kernel) rfl rfl (Nat.le_of_ble_eq_true rfl) (sM_3 cy a (fR (fF σ 0 0) 1 (upd (σ.2.1 1) q x)) (nI (q + 1))) dX12_aqueduct_55 (fun H locs h => ?_)
      refine lv_aload_n hx hb dX12_aqueduct_58 rfl (lv_at hl 0 rfl) ?_
      refine lv_aload_n hx hb dX12_aqueduct_59 rfl (lv_at hl 0 rfl) ?_
      refine r_get E h 3 (v := .int (nI (q + 1))) (eM_0 cy a (fF (fR (fF σ 0 0) 1 (upd (σ.2.1 1) q x)) 3 (nI (q + 1)))) rfl fw_X12 (by decide) fl_X12_158 rfl dX12_aqueduct_60 ?_
      refine lv_iconst (v := 1) hx hb dX12_aqueduct_63 (by decide) ?_
      refine n_sub1 hx hb dX12_aqueduct_64 ?_
      refine k_i h (q_runV (As := [.int (nI q)]) (rest := []) E h (c_X12_told l D cy a (fF (fR (fF σ 0 0) 1 (upd (σ.2.1 1) q x)) 3 (nI (q + 1))) (nI q)) co_X12_told ml_X12_154 im_X12_told se_X12_told in_X12 (eM_0 cy a (fF (fR (fF σ 0 0) 1 (upd (σ.2.1 1) q x)) 3 (nI (q + 1)))) rfl ok_X12_told rfl ⟨by decide, by decide⟩ hl.1 rfl (Nat.le_of_ble_eq_true rfl) dX12_aqueduct_65 ⟨Nat.zero_le _, Nat.zero_le _⟩) (wM_fst cy a) (fun r65 τ65 H locs p65 h => ?_)
      exact t_i E h hr hk (Or.inr ⟨w11.t c14, Or.inr ⟨by omega, p65.1, (by obtain ⟨v, e⟩ := p65.2; rw [e]; rfl), (by obtain ⟨v, e⟩ := p65.2; rw [e]; exact (((K.rf.F 0 _ (by decide)).R 1 _ (by decide)).F 3 _ (by decide)).F 1 _ (by decide))⟩⟩) dX12_aqueduct_68
    · have c28 : q = 4 := n_eq (k := 4) (by omega) (by decide) c28
      refine lv_aload_n hx hb dX12_aqueduct_31 rfl (lv_at hl 0 rfl) ?_
      refine lv_bipush (v := -5) hx hb dX12_aqueduct_32 (by decide) ?_
      refine k_i h (q_runV (As := [.int (-5)]) (rest := []) E h (c_X12_told l D cy a (fF σ 0 0) (-5)) co_X12_told ml_X12_154 im_X12_told se_X12_told in_X12 (eM_0 cy a (fF σ 0 0)) rfl ok_X12_told rfl ⟨by decide, by decide⟩ hl.1 rfl (Nat.le_of_ble_eq_true rfl) dX12_aqueduct_34 ⟨Nat.zero_le _, Nat.zero_le _⟩) (wM_fst cy a) (fun r34 τ34 H locs p34 h => ?_)
      exact t_i E h hr hk (Or.inr ⟨w11.t c14, Or.inl ⟨c28, p34.1, (by obtain ⟨v, e⟩ := p34.2; rw [e]; exact (K.rf.F 0 _ (by decide)).F 1 _ (by decide))⟩⟩) dX12_aqueduct_37
  · refine lv_aload_n hx hb dX12_aqueduct_17 rfl (lv_at hl 0 rfl) ?_
    refine lv_iconst (v := -1) hx hb dX12_aqueduct_18 (by decide) ?_
    refine k_i h (q_runV (As := [.int (-1)]) (rest := []) E h (c_X12_told l D cy a (fF σ 0 0) (-1)) co_X12_told ml_X12_154 im_X12_told se_X12_told in_X12 (eM_0 cy a (fF σ 0 0)) rfl ok_X12_told rfl ⟨by decide, by decide⟩ hl.1 rfl (Nat.le_of_ble_eq_true rfl) dX12_aqueduct_19 ⟨Nat.zero_le _, Nat.zero_le _⟩) (wM_fst cy a) (fun r19 τ19 H locs p19 h => ?_)
    exact t_i E h hr hk (Or.inl ⟨w11.f c14, p19.1, (by obtain ⟨v, e⟩ := p19.2; rw [e]; exact (K.rf.F 0 _ (by decide)).F 1 _ (by decide))⟩) dX12_aqueduct_22

set_option maxHeartbeats 4000000 in
set_option maxRecDepth 100000 in
theorem c_X12_person (l : Launch) (D : va_G) (cy : Nat → ClassId) (a : Nat → Nat) (σ : St) (n : Nat) (hn : σ.1 6 = nI n) (hn4 : n ≤ 40) : CI l yX12_person cX12_person 1 (some .int) (rmOf 1 21) D cy (wM cy a) (AM a) [.ref (a 0)] σ (fun r τ => (n = 40 ∧ r = -5 ∧ K mF mA σ τ) ∨ (n < 40 ∧ r = nI n ∧ τ.1 6 = nI (n + 1) ∧ K [2, 3, 4, 5, 7, 8, 9, 10, 11, 13] [1, 2, 3, 4, 5, 6, 7, 8, 9, 10, 11, 12, 13, 14, 15, 16, 17, 18, 19, 20, 21, 22, 23, 24, 25, 26, 27, 29] σ τ)) := by
  refine c_of (lv := [(0, .ref (a 0))]) rfl (Nat.le_of_ble_eq_true rfl) rfl ?_
  intro p e s m args below meth c ls E h hr hk hl
  have hx := E.1
  have hb := E.2.1
  refine lv_aload_n hx hb dX12_person_0 rfl (lv_at hl 0 rfl) ?_
  refine lv_iconst (v := 0) hx hb dX12_person_1 (by decide) ?_
  refine r_put E h 0 (ty := .int) (eM_0 cy a σ) rfl fw_X12 tyX12_ok nmX12 (by decide) fl_X12_131 rfl (by decide +kernel) rfl rfl (Nat.le_of_ble_eq_true rfl) (sM_0 cy a σ 0) dX12_person_2 (fun H locs h => ?_)
  refine lv_aload_n hx hb dX12_person_5 rfl (lv_at hl 0 rfl) ?_
  refine r_get E h 13 (v := .int (nI n)) (eM_0 cy a (fF σ 0 0)) rfl fw_X12 (by decide) fl_X12_146 (congrArg (fun z => some (Value.int z)) hn) dX12_person_6 ?_
  refine lv_bipush (v := 40) hx hb dX12_person_9 (by decide) ?_
  refine lv_icmp_ne (tgt := 21) hx hb dX12_person_11 (by decide) (fun c11 => ?_) (fun c11 => ?_)
  · have c11 : n ≠ 40 := n_ne (k := 40) c11
    refine lv_aload_n hx hb dX12_person_21 rfl (lv_at hl 0 rfl) ?_
    refine lv_dup hx hb dX12_person_22 rfl ?_
    refine r_get E h 13 (v := .int (nI n)) (eM_0 cy a (fF σ 0 0)) rfl fw_X12 (by decide) fl_X12_146 (congrArg (fun z => some (Value.int z)) hn) dX12_person_23 ?_
    refine lv_iconst (v := 1) hx hb dX12_person_26 (by decide) ?_
    refine n_add (j := n) (k := 1) hx hb dX12_person_27 ?_
    refine r_put E h 13 (ty := .int) (eM_0 cy a (fF σ 0 0)) rfl fw_X12 tyX12_ok nmX12 (by decide) fl_X12_146 rfl (by decide +kernel) rfl rfl (Nat.le_of_ble_eq_true rfl) (sM_6 cy a (fF σ 0 0) (nI (n + 1))) dX12_person_28 (fun H locs h => ?_)
    refine lv_aload_n hx hb dX12_person_31 rfl (lv_at hl 0 rfl) ?_
    refine lv_aload_n hx hb dX12_person_32 rfl (lv_at hl 0 rfl) ?_
    refine r_get E h 13 (v := .int (nI (n + 1))) (eM_0 cy a (fF (fF σ 0 0) 6 (nI (n + 1)))) rfl fw_X12 (by decide) fl_X12_146 rfl dX12_person_33 ?_
    refine lv_iconst (v := 1) hx hb dX12_person_36 (by decide) ?_
    refine n_sub1 hx hb dX12_person_37 ?_
    refine k_i h (q_runV (As := [.int (nI n)]) (rest := []) E h (c_X12_told l D cy a (fF (fF σ 0 0) 6 (nI (n + 1))) (nI n)) co_X12_told ml_X12_154 im_X12_told se_X12_told in_X12 (eM_0 cy a (fF (fF σ 0 0) 6 (nI (n + 1)))) rfl ok_X12_told rfl ⟨by decide, by decide⟩ hl.1 rfl (Nat.le_of_ble_eq_true rfl) dX12_person_38 ⟨Nat.zero_le _, Nat.zero_le _⟩) (wM_fst cy a) (fun r38 τ38 H locs p38 h => ?_)
    exact t_i E h hr hk (Or.inr ⟨by omega, p38.1, (by obtain ⟨v, e⟩ := p38.2; rw [e]; rfl), (by obtain ⟨v, e⟩ := p38.2; rw [e]; exact ((K.rf.F 0 _ (by decide)).F 6 _ (by decide)).F 1 _ (by decide))⟩) dX12_person_41
  · have c11 : n = 40 := n_eq (k := 40) (by omega) (by decide) c11
    refine lv_aload_n hx hb dX12_person_14 rfl (lv_at hl 0 rfl) ?_
    refine lv_bipush (v := -5) hx hb dX12_person_15 (by decide) ?_
    refine k_i h (q_runV (As := [.int (-5)]) (rest := []) E h (c_X12_told l D cy a (fF σ 0 0) (-5)) co_X12_told ml_X12_154 im_X12_told se_X12_told in_X12 (eM_0 cy a (fF σ 0 0)) rfl ok_X12_told rfl ⟨by decide, by decide⟩ hl.1 rfl (Nat.le_of_ble_eq_true rfl) dX12_person_17 ⟨Nat.zero_le _, Nat.zero_le _⟩) (wM_fst cy a) (fun r17 τ17 H locs p17 h => ?_)
    exact t_i E h hr hk (Or.inl ⟨c11, p17.1, (by obtain ⟨v, e⟩ := p17.2; rw [e]; exact (K.rf.F 0 _ (by decide)).F 1 _ (by decide))⟩) dX12_person_20

set_option maxHeartbeats 4000000 in
set_option maxRecDepth 100000 in
theorem c_X12_death (l : Launch) (D : va_G) (cy : Nat → ClassId) (a : Nat → Nat) (σ : St) (x y w : Int32) (q n : Nat) (hq : σ.1 6 = nI q) (hq4 : q ≤ 40) (hn : σ.1 7 = nI n) (hn6 : n ≤ 60) : CI l yX12_death cX12_death 4 (some .int) (rmOf 2 46) D cy (wM cy a) (AM a) [.ref (a 0), .int x, .int y, .int w] σ (fun r τ => (¬ (((0 : Int32) ≤ y ∧ y ≤ 200) ∧ ((0 : Int32) ≤ w ∧ w ≤ 200)) ∧ r = -1 ∧ K mF mA σ τ) ∨ ((((0 : Int32) ≤ y ∧ y ≤ 200) ∧ ((0 : Int32) ≤ w ∧ w ≤ 200)) ∧ ¬ ((0 : Int32) ≤ x ∧ x ≤ nI q - 1) ∧ r = -2 ∧ K mF mA σ τ) ∨ ((((0 : Int32) ≤ y ∧ y ≤ 200) ∧ ((0 : Int32) ≤ w ∧ w ≤ 200)) ∧ ((0 : Int32) ≤ x ∧ x ≤ nI q - 1) ∧ ((n = 60 ∧ r = -5 ∧ K mF mA σ τ) ∨ (n < 60 ∧ r = nI (n + 1) ∧ τ.1 7 = nI (n + 1) ∧ τ.2.1 8 = upd (σ.2.1 8) n x ∧ τ.2.1 9 = upd (σ.2.1 9) n y ∧ τ.2.1 10 = upd (σ.2.1 10) n w ∧ K [2, 3, 4, 5, 6, 8, 9, 10, 11, 13] [1, 2, 3, 4, 5, 6, 7, 11, 12, 13, 14, 15, 16, 17, 18, 19, 20, 21, 22, 23, 24, 25, 26, 27, 29] σ τ)))) := by
  refine c_of (lv := [(0, .ref (a 0)), (1, .int x), (2, .int y), (3, .int w)]) rfl (Nat.le_of_ble_eq_true rfl) rfl ?_
  intro p e s m args below meth c ls E h hr hk hl
  have hx := E.1
  have hb := E.2.1
  refine lv_aload_n hx hb dX12_death_0 rfl (lv_at hl 0 rfl) ?_
  refine lv_iconst (v := 0) hx hb dX12_death_1 (by decide) ?_
  refine r_put E h 0 (ty := .int) (eM_0 cy a σ) rfl fw_X12 tyX12_ok nmX12 (by decide) fl_X12_131 rfl (by decide +kernel) rfl rfl (Nat.le_of_ble_eq_true rfl) (sM_0 cy a σ 0) dX12_death_2 (fun H locs h => ?_)
  refine lv_iload_n hx hb dX12_death_5 rfl (lv_at hl 2 rfl) ?_
  refine k_i h (q_runS (As := [.int y]) (rest := []) E h (c_X12_isYear l D cy a (fF σ 0 0) y) co_X12_isYear ml_X12_161 st_X12_isYear in_X12 rfl ok_X12_isYear rfl ⟨by decide, by decide⟩ hl.1 rfl (Nat.le_of_ble_eq_true rfl) dX12_death_6 ⟨Nat.zero_le _, Nat.zero_le _⟩) (wM_fst cy a) (fun r6 τ6 H locs p6 h => ?_)
  rw [p6.1] at h
  refine lv_if_eq (tgt := 19) hx hb dX12_death_9 (by decide) (fun c9 => ?_) (fun c9 => ?_)
  · refine lv_aload_n hx hb dX12_death_19 rfl (lv_at hl 0 rfl) ?_
    refine lv_iconst (v := -1) hx hb dX12_death_20 (by decide) ?_
    refine k_i h (q_runV (As := [.int (-1)]) (rest := []) E h (c_X12_told l D cy a (fF σ 0 0) (-1)) co_X12_told ml_X12_154 im_X12_told se_X12_told in_X12 (eM_0 cy a (fF σ 0 0)) rfl ok_X12_told rfl ⟨by decide, by decide⟩ hl.1 rfl (Nat.le_of_ble_eq_true rfl) dX12_death_21 ⟨Nat.zero_le _, Nat.zero_le _⟩) (wM_fst cy a) (fun r21 τ21 H locs p21 h => ?_)
    exact t_i E h hr hk (Or.inl ⟨fun s9 => p6.2.f c9 s9.1, p21.1, (by obtain ⟨v, e⟩ := p21.2; rw [e]; exact (K.rf.F 0 _ (by decide)).F 1 _ (by decide))⟩) dX12_death_24
  · refine lv_iload_n hx hb dX12_death_12 rfl (lv_at hl 3 rfl) ?_
    refine k_i h (q_runS (As := [.int w]) (rest := []) E h (c_X12_isYear l D cy a (fF σ 0 0) w) co_X12_isYear ml_X12_161 st_X12_isYear in_X12 rfl ok_X12_isYear rfl ⟨by decide, by decide⟩ hl.1 rfl (Nat.le_of_ble_eq_true rfl) dX12_death_13 ⟨Nat.zero_le _, Nat.zero_le _⟩) (wM_fst cy a) (fun r13 τ13 H locs p13 h => ?_)
    rw [p13.1] at h
    refine lv_if_ne (tgt := 25) hx hb dX12_death_16 (by decide) (fun c16 => ?_) (fun c16 => ?_)
    · refine lv_aload_n hx hb dX12_death_25 rfl (lv_at hl 0 rfl) ?_
      refine lv_iload_n hx hb dX12_death_26 rfl (lv_at hl 1 rfl) ?_
      refine k_i h (q_runV (As := [.int x]) (rest := []) E h (c_X12_isPerson l D cy a (fF σ 0 0) x q hq (by omega)) co_X12_isPerson ml_X12_174 im_X12_isPerson se_X12_isPerson in_X12 (eM_0 cy a (fF σ 0 0)) rfl ok_X12_isPerson rfl ⟨by decide, by decide⟩ hl.1 rfl (Nat.le_of_ble_eq_true rfl) dX12_death_27 ⟨Nat.zero_le _, Nat.zero_le _⟩) (wM_fst cy a) (fun r27 τ27 H locs p27 h => ?_)
      rw [p27.1] at h
      refine lv_if_ne (tgt := 40) hx hb dX12_death_30 (by decide) (fun c30 => ?_) (fun c30 => ?_)
      · refine lv_aload_n hx hb dX12_death_40 rfl (lv_at hl 0 rfl) ?_
        refine r_get E h 14 (v := .int (nI n)) (eM_0 cy a (fF σ 0 0)) rfl fw_X12 (by decide) fl_X12_177 (congrArg (fun z => some (Value.int z)) hn) dX12_death_41 ?_
        refine lv_bipush (v := 60) hx hb dX12_death_44 (by decide) ?_
        refine lv_icmp_ne (tgt := 56) hx hb dX12_death_46 (by decide) (fun c46 => ?_) (fun c46 => ?_)
        · have c46 : n ≠ 60 := n_ne (k := 60) c46
          refine lv_aload_n hx hb dX12_death_56 rfl (lv_at hl 0 rfl) ?_
          refine r_get E h 15 (v := .ref (a 8)) (eM_0 cy a (fF σ 0 0)) rfl fw_X12 (by decide) fl_X12_31 rfl dX12_death_57 ?_
          refine lv_aload_n hx hb dX12_death_60 rfl (lv_at hl 0 rfl) ?_
          refine r_get E h 14 (v := .int (nI n)) (eM_0 cy a (fF σ 0 0)) rfl fw_X12 (by decide) fl_X12_177 (congrArg (fun z => some (Value.int z)) hn) dX12_death_61 ?_
          refine lv_iload_n hx hb dX12_death_64 rfl (lv_at hl 1 rfl) ?_
          refine r_iastN E h (f := σ.2.1 8) (eM_8 cy a (fF σ 0 0)) (j := n) (by omega) (by decide) (qM_8 cy a (fF σ 0 0) (upd (σ.2.1 8) n x)) dX12_death_65 (fun H locs h => ?_)
          refine lv_aload_n hx hb dX12_death_66 rfl (lv_at hl 0 rfl) ?_
          refine r_get E h 16 (v := .ref (a 9)) (eM_0 cy a (fR (fF σ 0 0) 8 (upd (σ.2.1 8) n x))) rfl fw_X12 (by decide) fl_X12_34 rfl dX12_death_67 ?_
          refine lv_aload_n hx hb dX12_death_70 rfl (lv_at hl 0 rfl) ?_
          refine r_get E h 14 (v := .int (nI n)) (eM_0 cy a (fR (fF σ 0 0) 8 (upd (σ.2.1 8) n x))) rfl fw_X12 (by decide) fl_X12_177 (congrArg (fun z => some (Value.int z)) hn) dX12_death_71 ?_
          refine lv_iload_n hx hb dX12_death_74 rfl (lv_at hl 2 rfl) ?_
          refine r_iastN E h (f := σ.2.1 9) (eM_9 cy a (fR (fF σ 0 0) 8 (upd (σ.2.1 8) n x))) (j := n) (by omega) (by decide) (qM_9 cy a (fR (fF σ 0 0) 8 (upd (σ.2.1 8) n x)) (upd (σ.2.1 9) n y)) dX12_death_75 (fun H locs h => ?_)
          refine lv_aload_n hx hb dX12_death_76 rfl (lv_at hl 0 rfl) ?_
          refine r_get E h 17 (v := .ref (a 10)) (eM_0 cy a (fR (fR (fF σ 0 0) 8 (upd (σ.2.1 8) n x)) 9 (upd (σ.2.1 9) n y))) rfl fw_X12 (by decide) fl_X12_37 rfl dX12_death_77 ?_
          refine lv_aload_n hx hb dX12_death_80 rfl (lv_at hl 0 rfl) ?_
          refine r_get E h 14 (v := .int (nI n)) (eM_0 cy a (fR (fR (fF σ 0 0) 8 (upd (σ.2.1 8) n x)) 9 (upd (σ.2.1 9) n y))) rfl fw_X12 (by decide) fl_X12_177 (congrArg (fun z => some (Value.int z)) hn) dX12_death_81 ?_
          refine lv_iload_n hx hb dX12_death_84 rfl (lv_at hl 3 rfl) ?_
          refine r_iastN E h (f := σ.2.1 10) (eM_10 cy a (fR (fR (fF σ 0 0) 8 (upd (σ.2.1 8) n x)) 9 (upd (σ.2.1 9) n y))) (j := n) (by omega) (by decide) (qM_10 cy a (fR (fR (fF σ 0 0) 8 (upd (σ.2.1 8) n x)) 9 (upd (σ.2.1 9) n y)) (upd (σ.2.1 10) n w)) dX12_death_85 (fun H locs h => ?_)
          refine lv_aload_n hx hb dX12_death_86 rfl (lv_at hl 0 rfl) ?_
          refine lv_dup hx hb dX12_death_87 rfl ?_
          refine r_get E h 14 (v := .int (nI n)) (eM_0 cy a (fR (fR (fR (fF σ 0 0) 8 (upd (σ.2.1 8) n x)) 9 (upd (σ.2.1 9) n y)) 10 (upd (σ.2.1 10) n w))) rfl fw_X12 (by decide) fl_X12_177 (congrArg (fun z => some (Value.int z)) hn) dX12_death_88 ?_
          refine lv_iconst (v := 1) hx hb dX12_death_91 (by decide) ?_
          refine n_add (j := n) (k := 1) hx hb dX12_death_92 ?_
          refine r_put E h 14 (ty := .int) (eM_0 cy a (fR (fR (fR (fF σ 0 0) 8 (upd (σ.2.1 8) n x)) 9 (upd (σ.2.1 9) n y)) 10 (upd (σ.2.1 10) n w))) rfl fw_X12 tyX12_ok nmX12 (by decide) fl_X12_177 rfl (by decide +kernel) rfl rfl (Nat.le_of_ble_eq_true rfl) (sM_7 cy a (fR (fR (fR (fF σ 0 0) 8 (upd (σ.2.1 8) n x)) 9 (upd (σ.2.1 9) n y)) 10 (upd (σ.2.1 10) n w)) (nI (n + 1))) dX12_death_93 (fun H locs h => ?_)
          refine lv_aload_n hx hb dX12_death_96 rfl (lv_at hl 0 rfl) ?_
          refine lv_aload_n hx hb dX12_death_97 rfl (lv_at hl 0 rfl) ?_
          refine r_get E h 14 (v := .int (nI (n + 1))) (eM_0 cy a (fF (fR (fR (fR (fF σ 0 0) 8 (upd (σ.2.1 8) n x)) 9 (upd (σ.2.1 9) n y)) 10 (upd (σ.2.1 10) n w)) 7 (nI (n + 1)))) rfl fw_X12 (by decide) fl_X12_177 rfl dX12_death_98 ?_
          refine k_i h (q_runV (As := [.int (nI (n + 1))]) (rest := []) E h (c_X12_told l D cy a (fF (fR (fR (fR (fF σ 0 0) 8 (upd (σ.2.1 8) n x)) 9 (upd (σ.2.1 9) n y)) 10 (upd (σ.2.1 10) n w)) 7 (nI (n + 1))) (nI (n + 1))) co_X12_told ml_X12_154 im_X12_told se_X12_told in_X12 (eM_0 cy a (fF (fR (fR (fR (fF σ 0 0) 8 (upd (σ.2.1 8) n x)) 9 (upd (σ.2.1 9) n y)) 10 (upd (σ.2.1 10) n w)) 7 (nI (n + 1)))) rfl ok_X12_told rfl ⟨by decide, by decide⟩ hl.1 rfl (Nat.le_of_ble_eq_true rfl) dX12_death_101 ⟨Nat.zero_le _, Nat.zero_le _⟩) (wM_fst cy a) (fun r101 τ101 H locs p101 h => ?_)
          exact t_i E h hr hk (Or.inr (Or.inr ⟨⟨p6.2.t c9, p13.2.t c16⟩, p27.2.t c30, Or.inr ⟨by omega, p101.1, (by obtain ⟨v, e⟩ := p101.2; rw [e]; rfl), (by obtain ⟨v, e⟩ := p101.2; rw [e]; rfl), (by obtain ⟨v, e⟩ := p101.2; rw [e]; rfl), (by obtain ⟨v, e⟩ := p101.2; rw [e]; rfl), (by obtain ⟨v, e⟩ := p101.2; rw [e]; exact (((((K.rf.F 0 _ (by decide)).R 8 _ (by decide)).R 9 _ (by decide)).R 10 _ (by decide)).F 7 _ (by decide)).F 1 _ (by decide))⟩⟩)) dX12_death_104
        · have c46 : n = 60 := n_eq (k := 60) (by omega) (by decide) c46
          refine lv_aload_n hx hb dX12_death_49 rfl (lv_at hl 0 rfl) ?_
          refine lv_bipush (v := -5) hx hb dX12_death_50 (by decide) ?_
          refine k_i h (q_runV (As := [.int (-5)]) (rest := []) E h (c_X12_told l D cy a (fF σ 0 0) (-5)) co_X12_told ml_X12_154 im_X12_told se_X12_told in_X12 (eM_0 cy a (fF σ 0 0)) rfl ok_X12_told rfl ⟨by decide, by decide⟩ hl.1 rfl (Nat.le_of_ble_eq_true rfl) dX12_death_52 ⟨Nat.zero_le _, Nat.zero_le _⟩) (wM_fst cy a) (fun r52 τ52 H locs p52 h => ?_)
          exact t_i E h hr hk (Or.inr (Or.inr ⟨⟨p6.2.t c9, p13.2.t c16⟩, p27.2.t c30, Or.inl ⟨c46, p52.1, (by obtain ⟨v, e⟩ := p52.2; rw [e]; exact (K.rf.F 0 _ (by decide)).F 1 _ (by decide))⟩⟩)) dX12_death_55
      · refine lv_aload_n hx hb dX12_death_33 rfl (lv_at hl 0 rfl) ?_
        refine lv_bipush (v := -2) hx hb dX12_death_34 (by decide) ?_
        refine k_i h (q_runV (As := [.int (-2)]) (rest := []) E h (c_X12_told l D cy a (fF σ 0 0) (-2)) co_X12_told ml_X12_154 im_X12_told se_X12_told in_X12 (eM_0 cy a (fF σ 0 0)) rfl ok_X12_told rfl ⟨by decide, by decide⟩ hl.1 rfl (Nat.le_of_ble_eq_true rfl) dX12_death_36 ⟨Nat.zero_le _, Nat.zero_le _⟩) (wM_fst cy a) (fun r36 τ36 H locs p36 h => ?_)
        exact t_i E h hr hk (Or.inr (Or.inl ⟨⟨p6.2.t c9, p13.2.t c16⟩, p27.2.f c30, p36.1, (by obtain ⟨v, e⟩ := p36.2; rw [e]; exact (K.rf.F 0 _ (by decide)).F 1 _ (by decide))⟩)) dX12_death_39
    · refine lv_aload_n hx hb dX12_death_19 rfl (lv_at hl 0 rfl) ?_
      refine lv_iconst (v := -1) hx hb dX12_death_20 (by decide) ?_
      refine k_i h (q_runV (As := [.int (-1)]) (rest := []) E h (c_X12_told l D cy a (fF σ 0 0) (-1)) co_X12_told ml_X12_154 im_X12_told se_X12_told in_X12 (eM_0 cy a (fF σ 0 0)) rfl ok_X12_told rfl ⟨by decide, by decide⟩ hl.1 rfl (Nat.le_of_ble_eq_true rfl) dX12_death_21 ⟨Nat.zero_le _, Nat.zero_le _⟩) (wM_fst cy a) (fun r21 τ21 H locs p21 h => ?_)
      exact t_i E h hr hk (Or.inl ⟨fun s9 => p13.2.f c16 s9.2, p21.1, (by obtain ⟨v, e⟩ := p21.2; rw [e]; exact (K.rf.F 0 _ (by decide)).F 1 _ (by decide))⟩) dX12_death_24

set_option maxHeartbeats 4000000 in
set_option maxRecDepth 100000 in
theorem c_X12_deadOf (l : Launch) (D : va_G) (cy : Nat → ClassId) (a : Nat → Nat) (σ : St) (x y : Int32) (n : Nat) (hn : σ.1 7 = nI n) (hn6 : n ≤ 60) : CI l yX12_deadOf cX12_deadOf 5 (some .int) (rmOf 0 0) D cy (wM cy a) (AM a) [.ref (a 0), .int x, .int y] σ (fun r τ => τ = σ ∧ r = ld (σ.2.1 8) (σ.2.1 9) (σ.2.1 10) x y n) := by
  refine c_of (lv := [(0, .ref (a 0)), (1, .int x), (2, .int y)]) rfl (Nat.le_of_ble_eq_true rfl) rfl ?_
  intro p e s m args below meth c ls E h hr hk hl
  have hx := E.1
  have hb := E.2.1
  refine lv_iconst (v := -1) hx hb dX12_deadOf_0 (by decide) ?_
  refine lv_istore_n (lv' := [(3, .int (-1)), (0, .ref (a 0)), (1, .int x), (2, .int y)]) hx hb dX12_deadOf_1 rfl hl (by decide) rfl (fun ls hl => ?_)
  refine lv_iconst (v := 0) hx hb dX12_deadOf_2 (by decide) ?_
  refine lv_istore (lv' := [(4, .int 0), (3, .int (-1)), (0, .ref (a 0)), (1, .int x), (2, .int y)]) hx hb dX12_deadOf_3 hl (by decide) rfl (fun ls hl => ?_)
  have lp5 : ∀ (f : Nat) (k : Nat) (u : Int32) (H : Heap) (locs : List Loc) (ls : Array Slot), (k ≤ n ∧ u = ld (σ.2.1 8) (σ.2.1 9) (σ.2.1 10) x y k) → (n - k) < f → HW D (AM a) s (wM cy a σ) H locs → lv_has ls 5 [(4, .int (nI k)), (3, .int u), (0, .ref (a 0)), (1, .int x), (2, .int y)] → W p l e (rmOf 0 0) s m args below meth c H locs 0 0 (MQ below (va_Qi (fun r τ => τ = σ ∧ r = ld (σ.2.1 8) (σ.2.1 9) (σ.2.1 10) x y n) (fun u t => va_P D vwCl (wM cy a u) t.heap) (AM a)) args s 0 0 (AM a)) (F0 m 5 ls []) := by
    intro f
    induction f with
    | zero => intro k u H locs ls _ hf; exact absurd hf (Nat.not_lt_zero _)
    | succ f ih5 =>
      intro k u H locs ls hi5 hf5 h hl
      refine lv_iload hx hb dX12_deadOf_5 (lv_at hl 0 rfl) ?_
      refine lv_aload_n hx hb dX12_deadOf_7 rfl (lv_at hl 2 rfl) ?_
      refine r_get E h 14 (v := .int (nI n)) (eM_0 cy a σ) rfl fw_X12 (by decide) fl_X12_177 (congrArg (fun z => some (Value.int z)) hn) dX12_deadOf_8 ?_
      refine lv_icmp_ge (tgt := 54) hx hb dX12_deadOf_11 (by decide) (fun c11 => ?_) (fun c11 => ?_)
      · have c11 : n ≤ k := (nI_leI (a := n) (b := k) (by omega) (by omega)).mp c11
        refine lv_iload_n hx hb dX12_deadOf_54 rfl (lv_at hl 1 rfl) ?_
        exact t_i E h hr hk ⟨rfl, by rw [hi5.2, show k = n by omega]⟩ dX12_deadOf_55
      · have c11 : k < n := Nat.lt_of_not_le fun q9 => c11 ((nI_leI (a := n) (b := k) (by omega) (by omega)).mpr q9)
        refine lv_aload_n hx hb dX12_deadOf_14 rfl (lv_at hl 2 rfl) ?_
        refine r_get E h 15 (v := .ref (a 8)) (eM_0 cy a σ) rfl fw_X12 (by decide) fl_X12_31 rfl dX12_deadOf_15 ?_
        refine lv_iload hx hb dX12_deadOf_18 (lv_at hl 0 rfl) ?_
        refine r_ialdN E h (f := σ.2.1 8) (eM_8 cy a σ) (j := k) (by omega) (by decide) (v := σ.2.1 8 k) rfl dX12_deadOf_20 ?_
        refine lv_iload_n hx hb dX12_deadOf_21 rfl (lv_at hl 3 rfl) ?_
        refine lv_icmp_ne (tgt := 46) hx hb dX12_deadOf_22 (by decide) (fun c22 => ?_) (fun c22 => ?_)
        · refine lv_iload_n hx hb dX12_deadOf_46 rfl (lv_at hl 1 rfl) ?_
          refine lv_istore_n (lv' := [(3, .int u), (4, .int (nI k)), (0, .ref (a 0)), (1, .int x), (2, .int y)]) hx hb dX12_deadOf_47 rfl hl (by decide) rfl (fun ls hl => ?_)
          refine lv_iinc (v := nI (k + 1)) (lv' := [(4, .int (nI (k + 1))), (3, .int u), (0, .ref (a 0)), (1, .int x), (2, .int y)]) hx hb dX12_deadOf_48 hl (k := 1) rfl (nI_succ k).symm (by decide) rfl (fun ls hl => ?_)
          refine lv_goto (tgt := 5) hx hb dX12_deadOf_51 (by decide) ?_
          exact ih5 (k + 1) u _ _ _ ⟨by omega, by rw [ld, if_neg (fun q => c22 q.1)]; exact hi5.2⟩ (by omega) h (lv_sub hl [0, 1, 2, 3, 4] rfl)
        · refine lv_aload_n hx hb dX12_deadOf_25 rfl (lv_at hl 2 rfl) ?_
          refine r_get E h 17 (v := .ref (a 10)) (eM_0 cy a σ) rfl fw_X12 (by decide) fl_X12_37 rfl dX12_deadOf_26 ?_
          refine lv_iload hx hb dX12_deadOf_29 (lv_at hl 0 rfl) ?_
          refine r_ialdN E h (f := σ.2.1 10) (eM_10 cy a σ) (j := k) (by omega) (by decide) (v := σ.2.1 10 k) rfl dX12_deadOf_31 ?_
          refine lv_iload_n hx hb dX12_deadOf_32 rfl (lv_at hl 4 rfl) ?_
          refine lv_icmp_gt (tgt := 46) hx hb dX12_deadOf_33 (by decide) (fun c33 => ?_) (fun c33 => ?_)
          · refine lv_iload_n hx hb dX12_deadOf_46 rfl (lv_at hl 1 rfl) ?_
            refine lv_istore_n (lv' := [(3, .int u), (4, .int (nI k)), (0, .ref (a 0)), (1, .int x), (2, .int y)]) hx hb dX12_deadOf_47 rfl hl (by decide) rfl (fun ls hl => ?_)
            refine lv_iinc (v := nI (k + 1)) (lv' := [(4, .int (nI (k + 1))), (3, .int u), (0, .ref (a 0)), (1, .int x), (2, .int y)]) hx hb dX12_deadOf_48 hl (k := 1) rfl (nI_succ k).symm (by decide) rfl (fun ls hl => ?_)
            refine lv_goto (tgt := 5) hx hb dX12_deadOf_51 (by decide) ?_
            exact ih5 (k + 1) u _ _ _ ⟨by omega, by rw [ld, if_neg (fun q => absurd q.2 (Int32.not_le.mpr c33))]; exact hi5.2⟩ (by omega) h (lv_sub hl [0, 1, 2, 3, 4] rfl)
          · refine lv_aload_n hx hb dX12_deadOf_36 rfl (lv_at hl 2 rfl) ?_
            refine r_get E h 16 (v := .ref (a 9)) (eM_0 cy a σ) rfl fw_X12 (by decide) fl_X12_34 rfl dX12_deadOf_37 ?_
            refine lv_iload hx hb dX12_deadOf_40 (lv_at hl 0 rfl) ?_
            refine r_ialdN E h (f := σ.2.1 9) (eM_9 cy a σ) (j := k) (by omega) (by decide) (v := σ.2.1 9 k) rfl dX12_deadOf_42 ?_
            refine lv_goto (tgt := 47) hx hb dX12_deadOf_43 (by decide) ?_
            refine lv_istore_n (lv' := [(3, .int (σ.2.1 9 k)), (4, .int (nI k)), (0, .ref (a 0)), (1, .int x), (2, .int y)]) hx hb dX12_deadOf_47 rfl hl (by decide) rfl (fun ls hl => ?_)
            refine lv_iinc (v := nI (k + 1)) (lv' := [(4, .int (nI (k + 1))), (3, .int (σ.2.1 9 k)), (0, .ref (a 0)), (1, .int x), (2, .int y)]) hx hb dX12_deadOf_48 hl (k := 1) rfl (nI_succ k).symm (by decide) rfl (fun ls hl => ?_)
            refine lv_goto (tgt := 5) hx hb dX12_deadOf_51 (by decide) ?_
            exact ih5 (k + 1) (σ.2.1 9 k) _ _ _ ⟨by omega, by rw [ld, if_pos ⟨c22, Int32.not_lt.mp c33⟩]⟩ (by omega) h (lv_sub hl [0, 1, 2, 3, 4] rfl)
  exact lp5 _ 0 (-1) _ _ _ ⟨Nat.zero_le _, rfl⟩ (Nat.lt_succ_self _) h (lv_sub hl [0, 1, 2, 3, 4] rfl)

set_option maxHeartbeats 4000000 in
set_option maxRecDepth 100000 in
theorem c_X12_dead (l : Launch) (D : va_G) (cy : Nat → ClassId) (a : Nat → Nat) (σ : St) (x y : Int32) (q n : Nat) (hq : σ.1 6 = nI q) (hq4 : q ≤ 40) (hn : σ.1 7 = nI n) (hn6 : n ≤ 60) : CI l yX12_dead cX12_dead 3 (some .int) (rmOf 2 46) D cy (wM cy a) (AM a) [.ref (a 0), .int x, .int y] σ (fun r τ => K mF mA σ τ ∧ ((¬ (((0 : Int32) ≤ x ∧ x ≤ nI q - 1) ∧ ((0 : Int32) ≤ y ∧ y ≤ 200)) ∧ r = -1) ∨ ((((0 : Int32) ≤ x ∧ x ≤ nI q - 1) ∧ ((0 : Int32) ≤ y ∧ y ≤ 200)) ∧ r = ld (σ.2.1 8) (σ.2.1 9) (σ.2.1 10) x y n))) := by
  refine c_of (lv := [(0, .ref (a 0)), (1, .int x), (2, .int y)]) rfl (Nat.le_of_ble_eq_true rfl) rfl ?_
  intro p e s m args below meth c ls E h hr hk hl
  have hx := E.1
  have hb := E.2.1
  refine lv_aload_n hx hb dX12_dead_0 rfl (lv_at hl 0 rfl) ?_
  refine lv_iconst (v := 0) hx hb dX12_dead_1 (by decide) ?_
  refine r_put E h 0 (ty := .int) (eM_0 cy a σ) rfl fw_X12 tyX12_ok nmX12 (by decide) fl_X12_131 rfl (by decide +kernel) rfl rfl (Nat.le_of_ble_eq_true rfl) (sM_0 cy a σ 0) dX12_dead_2 (fun H locs h => ?_)
  refine lv_aload_n hx hb dX12_dead_5 rfl (lv_at hl 0 rfl) ?_
  refine lv_iload_n hx hb dX12_dead_6 rfl (lv_at hl 1 rfl) ?_
  refine k_i h (q_runV (As := [.int x]) (rest := []) E h (c_X12_isPerson l D cy a (fF σ 0 0) x q hq (by omega)) co_X12_isPerson ml_X12_174 im_X12_isPerson se_X12_isPerson in_X12 (eM_0 cy a (fF σ 0 0)) rfl ok_X12_isPerson rfl ⟨by decide, by decide⟩ hl.1 rfl (Nat.le_of_ble_eq_true rfl) dX12_dead_7 ⟨Nat.zero_le _, Nat.zero_le _⟩) (wM_fst cy a) (fun r7 τ7 H locs p7 h => ?_)
  rw [p7.1] at h
  refine lv_if_eq (tgt := 29) hx hb dX12_dead_10 (by decide) (fun c10 => ?_) (fun c10 => ?_)
  · refine lv_iconst (v := -1) hx hb dX12_dead_29 (by decide) ?_
    exact t_i E h hr hk ⟨K.rf.F 0 _ (by decide), Or.inl ⟨fun s9 => p7.2.f c10 s9.1, rfl⟩⟩ dX12_dead_30
  · refine lv_iload_n hx hb dX12_dead_13 rfl (lv_at hl 2 rfl) ?_
    refine k_i h (q_runS (As := [.int y]) (rest := []) E h (c_X12_isYear l D cy a (fF σ 0 0) y) co_X12_isYear ml_X12_161 st_X12_isYear in_X12 rfl ok_X12_isYear rfl ⟨by decide, by decide⟩ hl.1 rfl (Nat.le_of_ble_eq_true rfl) dX12_dead_14 ⟨Nat.zero_le _, Nat.zero_le _⟩) (wM_fst cy a) (fun r14 τ14 H locs p14 h => ?_)
    rw [p14.1] at h
    refine lv_if_eq (tgt := 29) hx hb dX12_dead_17 (by decide) (fun c17 => ?_) (fun c17 => ?_)
    · refine lv_iconst (v := -1) hx hb dX12_dead_29 (by decide) ?_
      exact t_i E h hr hk ⟨K.rf.F 0 _ (by decide), Or.inl ⟨fun s9 => p14.2.f c17 s9.2, rfl⟩⟩ dX12_dead_30
    · refine lv_aload_n hx hb dX12_dead_20 rfl (lv_at hl 0 rfl) ?_
      refine lv_iload_n hx hb dX12_dead_21 rfl (lv_at hl 1 rfl) ?_
      refine lv_iload_n hx hb dX12_dead_22 rfl (lv_at hl 2 rfl) ?_
      refine k_i h (q_runV (As := [.int x, .int y]) (rest := []) E h (c_X12_deadOf l D cy a (fF σ 0 0) x y n hn hn6) co_X12_deadOf ml_X12_180 im_X12_deadOf se_X12_deadOf in_X12 (eM_0 cy a (fF σ 0 0)) rfl ok_X12_deadOf rfl ⟨by decide, by decide⟩ hl.1 rfl (Nat.le_of_ble_eq_true rfl) dX12_dead_23 ⟨Nat.zero_le _, Nat.zero_le _⟩) (wM_fst cy a) (fun r23 τ23 H locs p23 h => ?_)
      rw [p23.1] at h
      refine lv_goto (tgt := 30) hx hb dX12_dead_26 (by decide) ?_
      exact t_i E h hr hk ⟨K.rf.F 0 _ (by decide), Or.inr ⟨⟨p7.2.t c10, p14.2.t c17⟩, p23.2⟩⟩ dX12_dead_30

set_option maxHeartbeats 4000000 in
set_option maxRecDepth 100000 in
theorem c_X12_lawOf (l : Launch) (D : va_G) (cy : Nat → ClassId) (a : Nat → Nat) (σ : St) (x y : Int32) (n : Nat) (hn : σ.1 11 = nI n) (hn6 : n ≤ 30) : CI l yX12_lawOf cX12_lawOf 5 (some .int) (rmOf 1 25) D cy (wM cy a) (AM a) [.ref (a 0), .int x, .int y] σ (fun _ τ => τ = σ ∧ True) := by
  refine c_of (lv := [(0, .ref (a 0)), (1, .int x), (2, .int y)]) rfl (Nat.le_of_ble_eq_true rfl) rfl ?_
  intro p e s m args below meth c ls E h hr hk hl
  have hx := E.1
  have hb := E.2.1
  have jn10 : ∀ (v0 : Int32) (H : Heap) (locs : List Loc) (ls : Array Slot), (True) → HW D (AM a) s (wM cy a σ) H locs → lv_has ls 5 [(0, .ref (a 0)), (1, .int x), (2, .int y)] → W p l e (rmOf 1 25) s m args below meth c H locs 0 0 (MQ below (va_Qi (fun _ τ => τ = σ ∧ True) (fun u t => va_P D vwCl (wM cy a u) t.heap) (AM a)) args s 0 0 (AM a)) (F0 m 10 ls [.int v0]) := by
    intro v0 H locs ls hj10 h hl
    refine lv_istore_n (lv' := [(3, .int v0), (0, .ref (a 0)), (1, .int x), (2, .int y)]) hx hb dX12_lawOf_10 rfl hl (by decide) rfl (fun ls hl => ?_)
    refine lv_iconst (v := 0) hx hb dX12_lawOf_11 (by decide) ?_
    refine lv_istore (lv' := [(4, .int 0), (3, .int v0), (0, .ref (a 0)), (1, .int x), (2, .int y)]) hx hb dX12_lawOf_12 hl (by decide) rfl (fun ls hl => ?_)
    have lp14 : ∀ (f : Nat) (k : Nat) (u : Int32) (H : Heap) (locs : List Loc) (ls : Array Slot), (k ≤ n) → (n - k) < f → HW D (AM a) s (wM cy a σ) H locs → lv_has ls 5 [(4, .int (nI k)), (3, .int u), (0, .ref (a 0)), (1, .int x), (2, .int y)] → W p l e (rmOf 1 25) s m args below meth c H locs 0 0 (MQ below (va_Qi (fun _ τ => τ = σ ∧ True) (fun u t => va_P D vwCl (wM cy a u) t.heap) (AM a)) args s 0 0 (AM a)) (F0 m 14 ls []) := by
      intro f
      induction f with
      | zero => intro k u H locs ls _ hf; exact absurd hf (Nat.not_lt_zero _)
      | succ f ih14 =>
        intro k u H locs ls hi14 hf14 h hl
        refine lv_iload hx hb dX12_lawOf_14 (lv_at hl 0 rfl) ?_
        refine lv_aload_n hx hb dX12_lawOf_16 rfl (lv_at hl 2 rfl) ?_
        refine r_get E h 34 (v := .int (nI n)) (eM_0 cy a σ) rfl fw_X12 (by decide) fl_X12_210 (congrArg (fun z => some (Value.int z)) hn) dX12_lawOf_17 ?_
        refine lv_icmp_ge (tgt := 76) hx hb dX12_lawOf_20 (by decide) (fun c20 => ?_) (fun c20 => ?_)
        · refine lv_iload_n hx hb dX12_lawOf_76 rfl (lv_at hl 1 rfl) ?_
          exact t_i E h hr hk ⟨rfl, trivial⟩ dX12_lawOf_77
        · have c20 : k < n := Nat.lt_of_not_le fun q9 => c20 ((nI_leI (a := n) (b := k) (by omega) (by omega)).mpr q9)
          refine lv_aload_n hx hb dX12_lawOf_23 rfl (lv_at hl 2 rfl) ?_
          refine r_get E h 35 (v := .ref (a 24)) (eM_0 cy a σ) rfl fw_X12 (by decide) fl_X12_79 rfl dX12_lawOf_24 ?_
          refine lv_iload hx hb dX12_lawOf_27 (lv_at hl 0 rfl) ?_
          refine r_ialdN E h (f := σ.2.1 24) (eM_24 cy a σ) (j := k) (by omega) (by decide) (v := σ.2.1 24 k) rfl dX12_lawOf_29 ?_
          refine lv_iload_n hx hb dX12_lawOf_30 rfl (lv_at hl 4 rfl) ?_
          refine lv_icmp_ne (tgt := 68) hx hb dX12_lawOf_31 (by decide) (fun c31 => ?_) (fun c31 => ?_)
          · refine lv_iload_n hx hb dX12_lawOf_68 rfl (lv_at hl 1 rfl) ?_
            refine lv_istore_n (lv' := [(3, .int u), (4, .int (nI k)), (0, .ref (a 0)), (1, .int x), (2, .int y)]) hx hb dX12_lawOf_69 rfl hl (by decide) rfl (fun ls hl => ?_)
            refine lv_iinc (v := nI (k + 1)) (lv' := [(4, .int (nI (k + 1))), (3, .int u), (0, .ref (a 0)), (1, .int x), (2, .int y)]) hx hb dX12_lawOf_70 hl (k := 1) rfl (nI_succ k).symm (by decide) rfl (fun ls hl => ?_)
            refine lv_goto (tgt := 14) hx hb dX12_lawOf_73 (by decide) ?_
            exact ih14 (k + 1) u _ _ _ (by omega) (by omega) h (lv_sub hl [0, 1, 2, 3, 4] rfl)
          · refine lv_iload_n hx hb dX12_lawOf_34 rfl (lv_at hl 3 rfl) ?_
            refine lv_i2l hx hb dX12_lawOf_35 rfl ?_
            refine lv_aload_n hx hb dX12_lawOf_36 rfl (lv_at hl 2 rfl) ?_
            refine r_get E h 36 (v := .ref (a 25)) (eM_0 cy a σ) rfl fw_X12 (by decide) fl_X12_82 rfl dX12_lawOf_37 ?_
            refine lv_iload hx hb dX12_lawOf_40 (lv_at hl 0 rfl) ?_
            refine r_ialdN E h (f := σ.2.1 25) (eM_25 cy a σ) (j := k) (by omega) (by decide) (v := σ.2.1 25 k) rfl dX12_lawOf_42 ?_
            refine lv_i2l hx hb dX12_lawOf_43 rfl ?_
            refine lv_aload_n hx hb dX12_lawOf_44 rfl (lv_at hl 2 rfl) ?_
            refine r_get E h 37 (v := .ref (a 26)) (eM_0 cy a σ) rfl fw_X12 (by decide) fl_X12_85 rfl dX12_lawOf_45 ?_
            refine lv_iload hx hb dX12_lawOf_48 (lv_at hl 0 rfl) ?_
            refine r_ialdN E h (f := σ.2.1 26) (eM_26 cy a σ) (j := k) (by omega) (by decide) (v := σ.2.1 26 k) rfl dX12_lawOf_50 ?_
            refine lv_i2l hx hb dX12_lawOf_51 rfl ?_
            refine k_i h (q_runS (As := [.long x.toInt64, .long ((σ.2.1 25 k).toInt64), .long ((σ.2.1 26 k).toInt64)]) (rest := []) E h (c_X12_in l D cy a σ x.toInt64 ((σ.2.1 25 k).toInt64) ((σ.2.1 26 k).toInt64)) co_X12_in ml_X12_139 st_X12_in in_X12 rfl ok_X12_in rfl ⟨by decide, by decide⟩ hl.1 rfl (Nat.le_of_ble_eq_true rfl) dX12_lawOf_52 ⟨Nat.zero_le _, Nat.zero_le _⟩) (wM_fst cy a) (fun r52 τ52 H locs p52 h => ?_)
            rw [p52.1] at h
            refine lv_if_eq (tgt := 68) hx hb dX12_lawOf_55 (by decide) (fun c55 => ?_) (fun c55 => ?_)
            · refine lv_iload_n hx hb dX12_lawOf_68 rfl (lv_at hl 1 rfl) ?_
              refine lv_istore_n (lv' := [(3, .int u), (4, .int (nI k)), (0, .ref (a 0)), (1, .int x), (2, .int y)]) hx hb dX12_lawOf_69 rfl hl (by decide) rfl (fun ls hl => ?_)
              refine lv_iinc (v := nI (k + 1)) (lv' := [(4, .int (nI (k + 1))), (3, .int u), (0, .ref (a 0)), (1, .int x), (2, .int y)]) hx hb dX12_lawOf_70 hl (k := 1) rfl (nI_succ k).symm (by decide) rfl (fun ls hl => ?_)
              refine lv_goto (tgt := 14) hx hb dX12_lawOf_73 (by decide) ?_
              exact ih14 (k + 1) u _ _ _ (by omega) (by omega) h (lv_sub hl [0, 1, 2, 3, 4] rfl)
            · refine lv_aload_n hx hb dX12_lawOf_58 rfl (lv_at hl 2 rfl) ?_
              refine r_get E h 38 (v := .ref (a 27)) (eM_0 cy a σ) rfl fw_X12 (by decide) fl_X12_88 rfl dX12_lawOf_59 ?_
              refine lv_iload hx hb dX12_lawOf_62 (lv_at hl 0 rfl) ?_
              refine r_ialdN E h (f := σ.2.1 27) (eM_27 cy a σ) (j := k) (by omega) (by decide) (v := σ.2.1 27 k) rfl dX12_lawOf_64 ?_
              refine lv_goto (tgt := 69) hx hb dX12_lawOf_65 (by decide) ?_
              refine lv_istore_n (lv' := [(3, .int (σ.2.1 27 k)), (4, .int (nI k)), (0, .ref (a 0)), (1, .int x), (2, .int y)]) hx hb dX12_lawOf_69 rfl hl (by decide) rfl (fun ls hl => ?_)
              refine lv_iinc (v := nI (k + 1)) (lv' := [(4, .int (nI (k + 1))), (3, .int (σ.2.1 27 k)), (0, .ref (a 0)), (1, .int x), (2, .int y)]) hx hb dX12_lawOf_70 hl (k := 1) rfl (nI_succ k).symm (by decide) rfl (fun ls hl => ?_)
              refine lv_goto (tgt := 14) hx hb dX12_lawOf_73 (by decide) ?_
              exact ih14 (k + 1) (σ.2.1 27 k) _ _ _ (by omega) (by omega) h (lv_sub hl [0, 1, 2, 3, 4] rfl)
    exact lp14 _ 0 _ _ _ _ (Nat.zero_le _) (Nat.lt_succ_self _) h (lv_sub hl [0, 1, 2, 3, 4] rfl)
  refine lv_iload_n hx hb dX12_lawOf_0 rfl (lv_at hl 2 rfl) ?_
  refine lv_iconst (v := 4) hx hb dX12_lawOf_1 (by decide) ?_
  refine lv_icmp_ne (tgt := 9) hx hb dX12_lawOf_2 (by decide) (fun c2 => ?_) (fun c2 => ?_)
  · refine lv_iconst (v := 0) hx hb dX12_lawOf_9 (by decide) ?_
    exact jn10 0 _ _ _ trivial h (lv_sub hl [0, 1, 2] rfl)
  · refine lv_iconst (v := -1) hx hb dX12_lawOf_5 (by decide) ?_
    refine lv_goto (tgt := 10) hx hb dX12_lawOf_6 (by decide) ?_
    exact jn10 (-1) _ _ _ trivial h (lv_sub hl [0, 1, 2] rfl)

set_option maxHeartbeats 4000000 in
set_option maxRecDepth 100000 in
theorem c_X12_isClosed (l : Launch) (D : va_G) (cy : Nat → ClassId) (a : Nat → Nat) (σ : St) (x y : Int32) (n : Nat) (hn : σ.1 11 = nI n) (hn6 : n ≤ 30) : CI l yX12_isClosed cX12_isClosed 5 (some .boolean) (rmOf 1 25) D cy (wM cy a) (AM a) [.ref (a 0), .int x, .int y] σ (fun r τ => τ = σ ∧ (r = 0 ∨ r = 1)) := by
  refine c_of (lv := [(0, .ref (a 0)), (1, .int x), (2, .int y)]) rfl (Nat.le_of_ble_eq_true rfl) rfl ?_
  intro p e s m args below meth c ls E h hr hk hl
  have hx := E.1
  have hb := E.2.1
  refine lv_iconst (v := 0) hx hb dX12_isClosed_0 (by decide) ?_
  refine lv_istore_n (lv' := [(3, .int 0), (0, .ref (a 0)), (1, .int x), (2, .int y)]) hx hb dX12_isClosed_1 rfl hl (by decide) rfl (fun ls hl => ?_)
  refine lv_iconst (v := 0) hx hb dX12_isClosed_2 (by decide) ?_
  refine lv_istore (lv' := [(4, .int 0), (3, .int 0), (0, .ref (a 0)), (1, .int x), (2, .int y)]) hx hb dX12_isClosed_3 hl (by decide) rfl (fun ls hl => ?_)
  have lp5 : ∀ (f : Nat) (k : Nat) (u : Int32) (H : Heap) (locs : List Loc) (ls : Array Slot), (k ≤ n ∧ (u = 0 ∨ u = 1)) → (n - k) < f → HW D (AM a) s (wM cy a σ) H locs → lv_has ls 5 [(4, .int (nI k)), (3, .int u), (0, .ref (a 0)), (1, .int x), (2, .int y)] → W p l e (rmOf 1 25) s m args below meth c H locs 0 0 (MQ below (va_Qi (fun r τ => τ = σ ∧ (r = 0 ∨ r = 1)) (fun u t => va_P D vwCl (wM cy a u) t.heap) (AM a)) args s 0 0 (AM a)) (F0 m 5 ls []) := by
    intro f
    induction f with
    | zero => intro k u H locs ls _ hf; exact absurd hf (Nat.not_lt_zero _)
    | succ f ih5 =>
      intro k u H locs ls hi5 hf5 h hl
      refine lv_iload hx hb dX12_isClosed_5 (lv_at hl 0 rfl) ?_
      refine lv_aload_n hx hb dX12_isClosed_7 rfl (lv_at hl 2 rfl) ?_
      refine r_get E h 34 (v := .int (nI n)) (eM_0 cy a σ) rfl fw_X12 (by decide) fl_X12_210 (congrArg (fun z => some (Value.int z)) hn) dX12_isClosed_8 ?_
      refine lv_icmp_ge (tgt := 76) hx hb dX12_isClosed_11 (by decide) (fun c11 => ?_) (fun c11 => ?_)
      · refine lv_iload_n hx hb dX12_isClosed_76 rfl (lv_at hl 1 rfl) ?_
        exact t_z E h hr hk hi5.2 ⟨rfl, hi5.2⟩ dX12_isClosed_77
      · have c11 : k < n := Nat.lt_of_not_le fun q9 => c11 ((nI_leI (a := n) (b := k) (by omega) (by omega)).mpr q9)
        refine lv_iload_n hx hb dX12_isClosed_14 rfl (lv_at hl 1 rfl) ?_
        refine lv_if_ne (tgt := 64) hx hb dX12_isClosed_15 (by decide) (fun c15 => ?_) (fun c15 => ?_)
        · refine lv_iconst (v := 1) hx hb dX12_isClosed_64 (by decide) ?_
          refine lv_goto (tgt := 69) hx hb dX12_isClosed_65 (by decide) ?_
          refine lv_istore_n (lv' := [(3, .int 1), (4, .int (nI k)), (0, .ref (a 0)), (1, .int x), (2, .int y)]) hx hb dX12_isClosed_69 rfl hl (by decide) rfl (fun ls hl => ?_)
          refine lv_iinc (v := nI (k + 1)) (lv' := [(4, .int (nI (k + 1))), (3, .int 1), (0, .ref (a 0)), (1, .int x), (2, .int y)]) hx hb dX12_isClosed_70 hl (k := 1) rfl (nI_succ k).symm (by decide) rfl (fun ls hl => ?_)
          refine lv_goto (tgt := 5) hx hb dX12_isClosed_73 (by decide) ?_
          exact ih5 (k + 1) 1 _ _ _ ⟨by omega, Or.inr rfl⟩ (by omega) h (lv_sub hl [0, 1, 2, 3, 4] rfl)
        · refine lv_aload_n hx hb dX12_isClosed_18 rfl (lv_at hl 2 rfl) ?_
          refine r_get E h 35 (v := .ref (a 24)) (eM_0 cy a σ) rfl fw_X12 (by decide) fl_X12_79 rfl dX12_isClosed_19 ?_
          refine lv_iload hx hb dX12_isClosed_22 (lv_at hl 0 rfl) ?_
          refine r_ialdN E h (f := σ.2.1 24) (eM_24 cy a σ) (j := k) (by omega) (by decide) (v := σ.2.1 24 k) rfl dX12_isClosed_24 ?_
          refine lv_iconst (v := 5) hx hb dX12_isClosed_25 (by decide) ?_
          refine lv_icmp_ne (tgt := 68) hx hb dX12_isClosed_26 (by decide) (fun c26 => ?_) (fun c26 => ?_)
          · refine lv_iconst (v := 0) hx hb dX12_isClosed_68 (by decide) ?_
            refine lv_istore_n (lv' := [(3, .int 0), (4, .int (nI k)), (0, .ref (a 0)), (1, .int x), (2, .int y)]) hx hb dX12_isClosed_69 rfl hl (by decide) rfl (fun ls hl => ?_)
            refine lv_iinc (v := nI (k + 1)) (lv' := [(4, .int (nI (k + 1))), (3, .int 0), (0, .ref (a 0)), (1, .int x), (2, .int y)]) hx hb dX12_isClosed_70 hl (k := 1) rfl (nI_succ k).symm (by decide) rfl (fun ls hl => ?_)
            refine lv_goto (tgt := 5) hx hb dX12_isClosed_73 (by decide) ?_
            exact ih5 (k + 1) 0 _ _ _ ⟨by omega, Or.inl rfl⟩ (by omega) h (lv_sub hl [0, 1, 2, 3, 4] rfl)
          · refine lv_aload_n hx hb dX12_isClosed_29 rfl (lv_at hl 2 rfl) ?_
            refine r_get E h 38 (v := .ref (a 27)) (eM_0 cy a σ) rfl fw_X12 (by decide) fl_X12_88 rfl dX12_isClosed_30 ?_
            refine lv_iload hx hb dX12_isClosed_33 (lv_at hl 0 rfl) ?_
            refine r_ialdN E h (f := σ.2.1 27) (eM_27 cy a σ) (j := k) (by omega) (by decide) (v := σ.2.1 27 k) rfl dX12_isClosed_35 ?_
            refine lv_iload_n hx hb dX12_isClosed_36 rfl (lv_at hl 4 rfl) ?_
            refine lv_icmp_ne (tgt := 68) hx hb dX12_isClosed_37 (by decide) (fun c37 => ?_) (fun c37 => ?_)
            · refine lv_iconst (v := 0) hx hb dX12_isClosed_68 (by decide) ?_
              refine lv_istore_n (lv' := [(3, .int 0), (4, .int (nI k)), (0, .ref (a 0)), (1, .int x), (2, .int y)]) hx hb dX12_isClosed_69 rfl hl (by decide) rfl (fun ls hl => ?_)
              refine lv_iinc (v := nI (k + 1)) (lv' := [(4, .int (nI (k + 1))), (3, .int 0), (0, .ref (a 0)), (1, .int x), (2, .int y)]) hx hb dX12_isClosed_70 hl (k := 1) rfl (nI_succ k).symm (by decide) rfl (fun ls hl => ?_)
              refine lv_goto (tgt := 5) hx hb dX12_isClosed_73 (by decide) ?_
              exact ih5 (k + 1) 0 _ _ _ ⟨by omega, Or.inl rfl⟩ (by omega) h (lv_sub hl [0, 1, 2, 3, 4] rfl)
            · refine lv_iload_n hx hb dX12_isClosed_40 rfl (lv_at hl 3 rfl) ?_
              refine lv_i2l hx hb dX12_isClosed_41 rfl ?_
              refine lv_aload_n hx hb dX12_isClosed_42 rfl (lv_at hl 2 rfl) ?_
              refine r_get E h 36 (v := .ref (a 25)) (eM_0 cy a σ) rfl fw_X12 (by decide) fl_X12_82 rfl dX12_isClosed_43 ?_
              refine lv_iload hx hb dX12_isClosed_46 (lv_at hl 0 rfl) ?_
              refine r_ialdN E h (f := σ.2.1 25) (eM_25 cy a σ) (j := k) (by omega) (by decide) (v := σ.2.1 25 k) rfl dX12_isClosed_48 ?_
              refine lv_i2l hx hb dX12_isClosed_49 rfl ?_
              refine lv_aload_n hx hb dX12_isClosed_50 rfl (lv_at hl 2 rfl) ?_
              refine r_get E h 37 (v := .ref (a 26)) (eM_0 cy a σ) rfl fw_X12 (by decide) fl_X12_85 rfl dX12_isClosed_51 ?_
              refine lv_iload hx hb dX12_isClosed_54 (lv_at hl 0 rfl) ?_
              refine r_ialdN E h (f := σ.2.1 26) (eM_26 cy a σ) (j := k) (by omega) (by decide) (v := σ.2.1 26 k) rfl dX12_isClosed_56 ?_
              refine lv_i2l hx hb dX12_isClosed_57 rfl ?_
              refine k_i h (q_runS (As := [.long x.toInt64, .long ((σ.2.1 25 k).toInt64), .long ((σ.2.1 26 k).toInt64)]) (rest := []) E h (c_X12_in l D cy a σ x.toInt64 ((σ.2.1 25 k).toInt64) ((σ.2.1 26 k).toInt64)) co_X12_in ml_X12_139 st_X12_in in_X12 rfl ok_X12_in rfl ⟨by decide, by decide⟩ hl.1 rfl (Nat.le_of_ble_eq_true rfl) dX12_isClosed_58 ⟨Nat.zero_le _, Nat.zero_le _⟩) (wM_fst cy a) (fun r58 τ58 H locs p58 h => ?_)
              rw [p58.1] at h
              refine lv_if_eq (tgt := 68) hx hb dX12_isClosed_61 (by decide) (fun c61 => ?_) (fun c61 => ?_)
              · refine lv_iconst (v := 0) hx hb dX12_isClosed_68 (by decide) ?_
                refine lv_istore_n (lv' := [(3, .int 0), (4, .int (nI k)), (0, .ref (a 0)), (1, .int x), (2, .int y)]) hx hb dX12_isClosed_69 rfl hl (by decide) rfl (fun ls hl => ?_)
                refine lv_iinc (v := nI (k + 1)) (lv' := [(4, .int (nI (k + 1))), (3, .int 0), (0, .ref (a 0)), (1, .int x), (2, .int y)]) hx hb dX12_isClosed_70 hl (k := 1) rfl (nI_succ k).symm (by decide) rfl (fun ls hl => ?_)
                refine lv_goto (tgt := 5) hx hb dX12_isClosed_73 (by decide) ?_
                exact ih5 (k + 1) 0 _ _ _ ⟨by omega, Or.inl rfl⟩ (by omega) h (lv_sub hl [0, 1, 2, 3, 4] rfl)
              · refine lv_iconst (v := 1) hx hb dX12_isClosed_64 (by decide) ?_
                refine lv_goto (tgt := 69) hx hb dX12_isClosed_65 (by decide) ?_
                refine lv_istore_n (lv' := [(3, .int 1), (4, .int (nI k)), (0, .ref (a 0)), (1, .int x), (2, .int y)]) hx hb dX12_isClosed_69 rfl hl (by decide) rfl (fun ls hl => ?_)
                refine lv_iinc (v := nI (k + 1)) (lv' := [(4, .int (nI (k + 1))), (3, .int 1), (0, .ref (a 0)), (1, .int x), (2, .int y)]) hx hb dX12_isClosed_70 hl (k := 1) rfl (nI_succ k).symm (by decide) rfl (fun ls hl => ?_)
                refine lv_goto (tgt := 5) hx hb dX12_isClosed_73 (by decide) ?_
                exact ih5 (k + 1) 1 _ _ _ ⟨by omega, Or.inr rfl⟩ (by omega) h (lv_sub hl [0, 1, 2, 3, 4] rfl)
  exact lp5 _ 0 0 _ _ _ ⟨Nat.zero_le _, Or.inl rfl⟩ (Nat.lt_succ_self _) h (lv_sub hl [0, 1, 2, 3, 4] rfl)

set_option maxHeartbeats 4000000 in
set_option maxRecDepth 100000 in
theorem c_X12_isDown (l : Launch) (D : va_G) (cy : Nat → ClassId) (a : Nat → Nat) (σ : St) (x y : Int32) (n : Nat) (hn : σ.1 10 = nI n) (hn6 : n ≤ 41) : CI l yX12_isDown cX12_isDown 5 (some .boolean) (rmOf 1 25) D cy (wM cy a) (AM a) [.ref (a 0), .int x, .int y] σ (fun r τ => τ = σ ∧ (r = 0 ∨ r = 1)) := by
  refine c_of (lv := [(0, .ref (a 0)), (1, .int x), (2, .int y)]) rfl (Nat.le_of_ble_eq_true rfl) rfl ?_
  intro p e s m args below meth c ls E h hr hk hl
  have hx := E.1
  have hb := E.2.1
  refine lv_iconst (v := 0) hx hb dX12_isDown_0 (by decide) ?_
  refine lv_istore_n (lv' := [(3, .int 0), (0, .ref (a 0)), (1, .int x), (2, .int y)]) hx hb dX12_isDown_1 rfl hl (by decide) rfl (fun ls hl => ?_)
  refine lv_iconst (v := 0) hx hb dX12_isDown_2 (by decide) ?_
  refine lv_istore (lv' := [(4, .int 0), (3, .int 0), (0, .ref (a 0)), (1, .int x), (2, .int y)]) hx hb dX12_isDown_3 hl (by decide) rfl (fun ls hl => ?_)
  have lp5 : ∀ (f : Nat) (k : Nat) (u : Int32) (H : Heap) (locs : List Loc) (ls : Array Slot), (k ≤ n ∧ (u = 0 ∨ u = 1)) → (n - k) < f → HW D (AM a) s (wM cy a σ) H locs → lv_has ls 5 [(4, .int (nI k)), (3, .int u), (0, .ref (a 0)), (1, .int x), (2, .int y)] → W p l e (rmOf 1 25) s m args below meth c H locs 0 0 (MQ below (va_Qi (fun r τ => τ = σ ∧ (r = 0 ∨ r = 1)) (fun u t => va_P D vwCl (wM cy a u) t.heap) (AM a)) args s 0 0 (AM a)) (F0 m 5 ls []) := by
    intro f
    induction f with
    | zero => intro k u H locs ls _ hf; exact absurd hf (Nat.not_lt_zero _)
    | succ f ih5 =>
      intro k u H locs ls hi5 hf5 h hl
      refine lv_iload hx hb dX12_isDown_5 (lv_at hl 0 rfl) ?_
      refine lv_aload_n hx hb dX12_isDown_7 rfl (lv_at hl 2 rfl) ?_
      refine r_get E h 30 (v := .int (nI n)) (eM_0 cy a σ) rfl fw_X12 (by decide) fl_X12_205 (congrArg (fun z => some (Value.int z)) hn) dX12_isDown_8 ?_
      refine lv_icmp_ge (tgt := 65) hx hb dX12_isDown_11 (by decide) (fun c11 => ?_) (fun c11 => ?_)
      · refine lv_iload_n hx hb dX12_isDown_65 rfl (lv_at hl 1 rfl) ?_
        exact t_z E h hr hk hi5.2 ⟨rfl, hi5.2⟩ dX12_isDown_66
      · have c11 : k < n := Nat.lt_of_not_le fun q9 => c11 ((nI_leI (a := n) (b := k) (by omega) (by omega)).mpr q9)
        refine lv_iload_n hx hb dX12_isDown_14 rfl (lv_at hl 1 rfl) ?_
        refine lv_if_ne (tgt := 53) hx hb dX12_isDown_15 (by decide) (fun c15 => ?_) (fun c15 => ?_)
        · refine lv_iconst (v := 1) hx hb dX12_isDown_53 (by decide) ?_
          refine lv_goto (tgt := 58) hx hb dX12_isDown_54 (by decide) ?_
          refine lv_istore_n (lv' := [(3, .int 1), (4, .int (nI k)), (0, .ref (a 0)), (1, .int x), (2, .int y)]) hx hb dX12_isDown_58 rfl hl (by decide) rfl (fun ls hl => ?_)
          refine lv_iinc (v := nI (k + 1)) (lv' := [(4, .int (nI (k + 1))), (3, .int 1), (0, .ref (a 0)), (1, .int x), (2, .int y)]) hx hb dX12_isDown_59 hl (k := 1) rfl (nI_succ k).symm (by decide) rfl (fun ls hl => ?_)
          refine lv_goto (tgt := 5) hx hb dX12_isDown_62 (by decide) ?_
          exact ih5 (k + 1) 1 _ _ _ ⟨by omega, Or.inr rfl⟩ (by omega) h (lv_sub hl [0, 1, 2, 3, 4] rfl)
        · refine lv_aload_n hx hb dX12_isDown_18 rfl (lv_at hl 2 rfl) ?_
          refine r_get E h 31 (v := .ref (a 21)) (eM_0 cy a σ) rfl fw_X12 (by decide) fl_X12_70 rfl dX12_isDown_19 ?_
          refine lv_iload hx hb dX12_isDown_22 (lv_at hl 0 rfl) ?_
          refine r_ialdN E h (f := σ.2.1 21) (eM_21 cy a σ) (j := k) (by omega) (by decide) (v := σ.2.1 21 k) rfl dX12_isDown_24 ?_
          refine lv_iload_n hx hb dX12_isDown_25 rfl (lv_at hl 3 rfl) ?_
          refine lv_icmp_ne (tgt := 57) hx hb dX12_isDown_26 (by decide) (fun c26 => ?_) (fun c26 => ?_)
          · refine lv_iconst (v := 0) hx hb dX12_isDown_57 (by decide) ?_
            refine lv_istore_n (lv' := [(3, .int 0), (4, .int (nI k)), (0, .ref (a 0)), (1, .int x), (2, .int y)]) hx hb dX12_isDown_58 rfl hl (by decide) rfl (fun ls hl => ?_)
            refine lv_iinc (v := nI (k + 1)) (lv' := [(4, .int (nI (k + 1))), (3, .int 0), (0, .ref (a 0)), (1, .int x), (2, .int y)]) hx hb dX12_isDown_59 hl (k := 1) rfl (nI_succ k).symm (by decide) rfl (fun ls hl => ?_)
            refine lv_goto (tgt := 5) hx hb dX12_isDown_62 (by decide) ?_
            exact ih5 (k + 1) 0 _ _ _ ⟨by omega, Or.inl rfl⟩ (by omega) h (lv_sub hl [0, 1, 2, 3, 4] rfl)
          · refine lv_iload_n hx hb dX12_isDown_29 rfl (lv_at hl 4 rfl) ?_
            refine lv_i2l hx hb dX12_isDown_30 rfl ?_
            refine lv_aload_n hx hb dX12_isDown_31 rfl (lv_at hl 2 rfl) ?_
            refine r_get E h 32 (v := .ref (a 22)) (eM_0 cy a σ) rfl fw_X12 (by decide) fl_X12_73 rfl dX12_isDown_32 ?_
            refine lv_iload hx hb dX12_isDown_35 (lv_at hl 0 rfl) ?_
            refine r_ialdN E h (f := σ.2.1 22) (eM_22 cy a σ) (j := k) (by omega) (by decide) (v := σ.2.1 22 k) rfl dX12_isDown_37 ?_
            refine lv_i2l hx hb dX12_isDown_38 rfl ?_
            refine lv_aload_n hx hb dX12_isDown_39 rfl (lv_at hl 2 rfl) ?_
            refine r_get E h 33 (v := .ref (a 23)) (eM_0 cy a σ) rfl fw_X12 (by decide) fl_X12_76 rfl dX12_isDown_40 ?_
            refine lv_iload hx hb dX12_isDown_43 (lv_at hl 0 rfl) ?_
            refine r_ialdN E h (f := σ.2.1 23) (eM_23 cy a σ) (j := k) (by omega) (by decide) (v := σ.2.1 23 k) rfl dX12_isDown_45 ?_
            refine lv_i2l hx hb dX12_isDown_46 rfl ?_
            refine k_i h (q_runS (As := [.long y.toInt64, .long ((σ.2.1 22 k).toInt64), .long ((σ.2.1 23 k).toInt64)]) (rest := []) E h (c_X12_in l D cy a σ y.toInt64 ((σ.2.1 22 k).toInt64) ((σ.2.1 23 k).toInt64)) co_X12_in ml_X12_139 st_X12_in in_X12 rfl ok_X12_in rfl ⟨by decide, by decide⟩ hl.1 rfl (Nat.le_of_ble_eq_true rfl) dX12_isDown_47 ⟨Nat.zero_le _, Nat.zero_le _⟩) (wM_fst cy a) (fun r47 τ47 H locs p47 h => ?_)
            rw [p47.1] at h
            refine lv_if_eq (tgt := 57) hx hb dX12_isDown_50 (by decide) (fun c50 => ?_) (fun c50 => ?_)
            · refine lv_iconst (v := 0) hx hb dX12_isDown_57 (by decide) ?_
              refine lv_istore_n (lv' := [(3, .int 0), (4, .int (nI k)), (0, .ref (a 0)), (1, .int x), (2, .int y)]) hx hb dX12_isDown_58 rfl hl (by decide) rfl (fun ls hl => ?_)
              refine lv_iinc (v := nI (k + 1)) (lv' := [(4, .int (nI (k + 1))), (3, .int 0), (0, .ref (a 0)), (1, .int x), (2, .int y)]) hx hb dX12_isDown_59 hl (k := 1) rfl (nI_succ k).symm (by decide) rfl (fun ls hl => ?_)
              refine lv_goto (tgt := 5) hx hb dX12_isDown_62 (by decide) ?_
              exact ih5 (k + 1) 0 _ _ _ ⟨by omega, Or.inl rfl⟩ (by omega) h (lv_sub hl [0, 1, 2, 3, 4] rfl)
            · refine lv_iconst (v := 1) hx hb dX12_isDown_53 (by decide) ?_
              refine lv_goto (tgt := 58) hx hb dX12_isDown_54 (by decide) ?_
              refine lv_istore_n (lv' := [(3, .int 1), (4, .int (nI k)), (0, .ref (a 0)), (1, .int x), (2, .int y)]) hx hb dX12_isDown_58 rfl hl (by decide) rfl (fun ls hl => ?_)
              refine lv_iinc (v := nI (k + 1)) (lv' := [(4, .int (nI (k + 1))), (3, .int 1), (0, .ref (a 0)), (1, .int x), (2, .int y)]) hx hb dX12_isDown_59 hl (k := 1) rfl (nI_succ k).symm (by decide) rfl (fun ls hl => ?_)
              refine lv_goto (tgt := 5) hx hb dX12_isDown_62 (by decide) ?_
              exact ih5 (k + 1) 1 _ _ _ ⟨by omega, Or.inr rfl⟩ (by omega) h (lv_sub hl [0, 1, 2, 3, 4] rfl)
  exact lp5 _ 0 0 _ _ _ ⟨Nat.zero_le _, Or.inl rfl⟩ (Nat.lt_succ_self _) h (lv_sub hl [0, 1, 2, 3, 4] rfl)

set_option maxHeartbeats 4000000 in
set_option maxRecDepth 100000 in
theorem c_X12_isOpen (l : Launch) (D : va_G) (cy : Nat → ClassId) (a : Nat → Nat) (σ : St) (i : Nat) (y : Int32) (hi8 : i < 80) : CI l yX12_isOpen cX12_isOpen 3 (some .boolean) (rmOf 0 0) D cy (wM cy a) (AM a) [.ref (a 0), .int (nI i), .int y] σ (fun r τ => τ = σ ∧ (r = 0 ∨ r = 1)) := by
  refine c_of (lv := [(0, .ref (a 0)), (1, .int (nI i)), (2, .int y)]) rfl (Nat.le_of_ble_eq_true rfl) rfl ?_
  intro p e s m args below meth c ls E h hr hk hl
  have hx := E.1
  have hb := E.2.1
  refine lv_iload_n hx hb dX12_isOpen_0 rfl (lv_at hl 2 rfl) ?_
  refine lv_aload_n hx hb dX12_isOpen_1 rfl (lv_at hl 0 rfl) ?_
  refine r_get E h 23 (v := .ref (a 15)) (eM_0 cy a σ) rfl fw_X12 (by decide) fl_X12_52 rfl dX12_isOpen_2 ?_
  refine lv_iload_n hx hb dX12_isOpen_5 rfl (lv_at hl 1 rfl) ?_
  refine r_ialdN E h (f := σ.2.1 15) (eM_15 cy a σ) (j := i) hi8 (by decide) (v := σ.2.1 15 i) rfl dX12_isOpen_6 ?_
  refine lv_icmp_lt (tgt := 24) hx hb dX12_isOpen_7 (by decide) (fun c7 => ?_) (fun c7 => ?_)
  · refine lv_iconst (v := 0) hx hb dX12_isOpen_24 (by decide) ?_
    exact t_z E h hr hk (Or.inl rfl) ⟨rfl, Or.inl rfl⟩ dX12_isOpen_25
  · refine lv_iload_n hx hb dX12_isOpen_10 rfl (lv_at hl 2 rfl) ?_
    refine lv_aload_n hx hb dX12_isOpen_11 rfl (lv_at hl 0 rfl) ?_
    refine r_get E h 24 (v := .ref (a 16)) (eM_0 cy a σ) rfl fw_X12 (by decide) fl_X12_55 rfl dX12_isOpen_12 ?_
    refine lv_iload_n hx hb dX12_isOpen_15 rfl (lv_at hl 1 rfl) ?_
    refine r_ialdN E h (f := σ.2.1 16) (eM_16 cy a σ) (j := i) hi8 (by decide) (v := σ.2.1 16 i) rfl dX12_isOpen_16 ?_
    refine lv_icmp_ge (tgt := 24) hx hb dX12_isOpen_17 (by decide) (fun c17 => ?_) (fun c17 => ?_)
    · refine lv_iconst (v := 0) hx hb dX12_isOpen_24 (by decide) ?_
      exact t_z E h hr hk (Or.inl rfl) ⟨rfl, Or.inl rfl⟩ dX12_isOpen_25
    · refine lv_iconst (v := 1) hx hb dX12_isOpen_20 (by decide) ?_
      refine lv_goto (tgt := 25) hx hb dX12_isOpen_21 (by decide) ?_
      exact t_z E h hr hk (Or.inr rfl) ⟨rfl, Or.inr rfl⟩ dX12_isOpen_25

set_option maxHeartbeats 4000000 in
set_option maxRecDepth 100000 in
theorem c_X12_yieldOf (l : Launch) (D : va_G) (cy : Nat → ClassId) (a : Nat → Nat) (σ : St) (i : Nat) (y : Int32) (n : Nat) (hi4 : i < 4) (hn : σ.1 4 = nI n) (hn6 : n ≤ 60) : CI l yX12_yieldOf cX12_yieldOf 5 (some .int) (rmOf 0 0) D cy (wM cy a) (AM a) [.ref (a 0), .int (nI i), .int y] σ (fun _ τ => τ = σ ∧ True) := by
  refine c_of (lv := [(0, .ref (a 0)), (1, .int (nI i)), (2, .int y)]) rfl (Nat.le_of_ble_eq_true rfl) rfl ?_
  intro p e s m args below meth c ls E h hr hk hl
  have hx := E.1
  have hb := E.2.1
  refine lv_aload_n hx hb dX12_yieldOf_0 rfl (lv_at hl 0 rfl) ?_
  refine r_get E h 4 (v := .ref (a 1)) (eM_0 cy a σ) rfl fw_X12 (by decide) fl_X12_7 rfl dX12_yieldOf_1 ?_
  refine lv_iload_n hx hb dX12_yieldOf_4 rfl (lv_at hl 1 rfl) ?_
  refine r_ialdN E h (f := σ.2.1 1) (eM_1 cy a σ) (j := i) hi4 (by decide) (v := σ.2.1 1 i) rfl dX12_yieldOf_5 ?_
  refine lv_istore_n (lv' := [(3, .int (σ.2.1 1 i)), (0, .ref (a 0)), (1, .int (nI i)), (2, .int y)]) hx hb dX12_yieldOf_6 rfl hl (by decide) rfl (fun ls hl => ?_)
  refine lv_iconst (v := 0) hx hb dX12_yieldOf_7 (by decide) ?_
  refine lv_istore (lv' := [(4, .int 0), (3, .int (σ.2.1 1 i)), (0, .ref (a 0)), (1, .int (nI i)), (2, .int y)]) hx hb dX12_yieldOf_8 hl (by decide) rfl (fun ls hl => ?_)
  have lp10 : ∀ (f : Nat) (k : Nat) (u : Int32) (H : Heap) (locs : List Loc) (ls : Array Slot), (k ≤ n) → (n - k) < f → HW D (AM a) s (wM cy a σ) H locs → lv_has ls 5 [(4, .int (nI k)), (3, .int u), (0, .ref (a 0)), (1, .int (nI i)), (2, .int y)] → W p l e (rmOf 0 0) s m args below meth c H locs 0 0 (MQ below (va_Qi (fun _ τ => τ = σ ∧ True) (fun u t => va_P D vwCl (wM cy a u) t.heap) (AM a)) args s 0 0 (AM a)) (F0 m 10 ls []) := by
    intro f
    induction f with
    | zero => intro k u H locs ls _ hf; exact absurd hf (Nat.not_lt_zero _)
    | succ f ih10 =>
      intro k u H locs ls hi10 hf10 h hl
      refine lv_iload hx hb dX12_yieldOf_10 (lv_at hl 0 rfl) ?_
      refine lv_aload_n hx hb dX12_yieldOf_12 rfl (lv_at hl 2 rfl) ?_
      refine r_get E h 5 (v := .int (nI n)) (eM_0 cy a σ) rfl fw_X12 (by decide) fl_X12_165 (congrArg (fun z => some (Value.int z)) hn) dX12_yieldOf_13 ?_
      refine lv_icmp_ge (tgt := 59) hx hb dX12_yieldOf_16 (by decide) (fun c16 => ?_) (fun c16 => ?_)
      · refine lv_iload_n hx hb dX12_yieldOf_59 rfl (lv_at hl 1 rfl) ?_
        exact t_i E h hr hk ⟨rfl, trivial⟩ dX12_yieldOf_60
      · have c16 : k < n := Nat.lt_of_not_le fun q9 => c16 ((nI_leI (a := n) (b := k) (by omega) (by omega)).mpr q9)
        refine lv_aload_n hx hb dX12_yieldOf_19 rfl (lv_at hl 2 rfl) ?_
        refine r_get E h 6 (v := .ref (a 2)) (eM_0 cy a σ) rfl fw_X12 (by decide) fl_X12_13 rfl dX12_yieldOf_20 ?_
        refine lv_iload hx hb dX12_yieldOf_23 (lv_at hl 0 rfl) ?_
        refine r_ialdN E h (f := σ.2.1 2) (eM_2 cy a σ) (j := k) (by omega) (by decide) (v := σ.2.1 2 k) rfl dX12_yieldOf_25 ?_
        refine lv_iload_n hx hb dX12_yieldOf_26 rfl (lv_at hl 3 rfl) ?_
        refine lv_icmp_ne (tgt := 51) hx hb dX12_yieldOf_27 (by decide) (fun c27 => ?_) (fun c27 => ?_)
        · refine lv_iload_n hx hb dX12_yieldOf_51 rfl (lv_at hl 1 rfl) ?_
          refine lv_istore_n (lv' := [(3, .int u), (4, .int (nI k)), (0, .ref (a 0)), (1, .int (nI i)), (2, .int y)]) hx hb dX12_yieldOf_52 rfl hl (by decide) rfl (fun ls hl => ?_)
          refine lv_iinc (v := nI (k + 1)) (lv' := [(4, .int (nI (k + 1))), (3, .int u), (0, .ref (a 0)), (1, .int (nI i)), (2, .int y)]) hx hb dX12_yieldOf_53 hl (k := 1) rfl (nI_succ k).symm (by decide) rfl (fun ls hl => ?_)
          refine lv_goto (tgt := 10) hx hb dX12_yieldOf_56 (by decide) ?_
          exact ih10 (k + 1) u _ _ _ (by omega) (by omega) h (lv_sub hl [0, 1, 2, 3, 4] rfl)
        · refine lv_aload_n hx hb dX12_yieldOf_30 rfl (lv_at hl 2 rfl) ?_
          refine r_get E h 7 (v := .ref (a 3)) (eM_0 cy a σ) rfl fw_X12 (by decide) fl_X12_16 rfl dX12_yieldOf_31 ?_
          refine lv_iload hx hb dX12_yieldOf_34 (lv_at hl 0 rfl) ?_
          refine r_ialdN E h (f := σ.2.1 3) (eM_3 cy a σ) (j := k) (by omega) (by decide) (v := σ.2.1 3 k) rfl dX12_yieldOf_36 ?_
          refine lv_iload_n hx hb dX12_yieldOf_37 rfl (lv_at hl 4 rfl) ?_
          refine lv_icmp_ne (tgt := 51) hx hb dX12_yieldOf_38 (by decide) (fun c38 => ?_) (fun c38 => ?_)
          · refine lv_iload_n hx hb dX12_yieldOf_51 rfl (lv_at hl 1 rfl) ?_
            refine lv_istore_n (lv' := [(3, .int u), (4, .int (nI k)), (0, .ref (a 0)), (1, .int (nI i)), (2, .int y)]) hx hb dX12_yieldOf_52 rfl hl (by decide) rfl (fun ls hl => ?_)
            refine lv_iinc (v := nI (k + 1)) (lv' := [(4, .int (nI (k + 1))), (3, .int u), (0, .ref (a 0)), (1, .int (nI i)), (2, .int y)]) hx hb dX12_yieldOf_53 hl (k := 1) rfl (nI_succ k).symm (by decide) rfl (fun ls hl => ?_)
            refine lv_goto (tgt := 10) hx hb dX12_yieldOf_56 (by decide) ?_
            exact ih10 (k + 1) u _ _ _ (by omega) (by omega) h (lv_sub hl [0, 1, 2, 3, 4] rfl)
          · refine lv_aload_n hx hb dX12_yieldOf_41 rfl (lv_at hl 2 rfl) ?_
            refine r_get E h 8 (v := .ref (a 4)) (eM_0 cy a σ) rfl fw_X12 (by decide) fl_X12_19 rfl dX12_yieldOf_42 ?_
            refine lv_iload hx hb dX12_yieldOf_45 (lv_at hl 0 rfl) ?_
            refine r_ialdN E h (f := σ.2.1 4) (eM_4 cy a σ) (j := k) (by omega) (by decide) (v := σ.2.1 4 k) rfl dX12_yieldOf_47 ?_
            refine lv_goto (tgt := 52) hx hb dX12_yieldOf_48 (by decide) ?_
            refine lv_istore_n (lv' := [(3, .int (σ.2.1 4 k)), (4, .int (nI k)), (0, .ref (a 0)), (1, .int (nI i)), (2, .int y)]) hx hb dX12_yieldOf_52 rfl hl (by decide) rfl (fun ls hl => ?_)
            refine lv_iinc (v := nI (k + 1)) (lv' := [(4, .int (nI (k + 1))), (3, .int (σ.2.1 4 k)), (0, .ref (a 0)), (1, .int (nI i)), (2, .int y)]) hx hb dX12_yieldOf_53 hl (k := 1) rfl (nI_succ k).symm (by decide) rfl (fun ls hl => ?_)
            refine lv_goto (tgt := 10) hx hb dX12_yieldOf_56 (by decide) ?_
            exact ih10 (k + 1) (σ.2.1 4 k) _ _ _ (by omega) (by omega) h (lv_sub hl [0, 1, 2, 3, 4] rfl)
  exact lp10 _ 0 _ _ _ _ (Nat.zero_le _) (Nat.lt_succ_self _) h (lv_sub hl [0, 1, 2, 3, 4] rfl)

set_option maxHeartbeats 4000000 in
set_option maxRecDepth 100000 in
theorem c_X12_livesIn (l : Launch) (D : va_G) (cy : Nat → ClassId) (a : Nat → Nat) (σ : St) (i : Nat) (y w : Int32) (n d : Nat) (hi8 : i < 80) (hn : σ.1 11 = nI n) (hn6 : n ≤ 30) (hd : σ.1 7 = nI d) (hd6 : d ≤ 60) : CI l yX12_livesIn cX12_livesIn 6 (some .boolean) (rmOf 2 49) D cy (wM cy a) (AM a) [.ref (a 0), .int (nI i), .int y, .int w] σ (fun r τ => τ = σ ∧ (r = 0 ∨ r = 1)) := by
  refine c_of (lv := [(0, .ref (a 0)), (1, .int (nI i)), (2, .int y), (3, .int w)]) rfl (Nat.le_of_ble_eq_true rfl) rfl ?_
  intro p e s m args below meth c ls E h hr hk hl
  have hx := E.1
  have hb := E.2.1
  refine lv_aload_n hx hb dX12_livesIn_0 rfl (lv_at hl 0 rfl) ?_
  refine lv_iload_n hx hb dX12_livesIn_1 rfl (lv_at hl 2 rfl) ?_
  refine lv_iconst (v := 4) hx hb dX12_livesIn_2 (by decide) ?_
  refine k_i h (q_runV (As := [.int y, .int 4]) (rest := []) E h (c_X12_lawOf l D cy a σ y 4 n hn hn6) co_X12_lawOf ml_X12_194 im_X12_lawOf se_X12_lawOf in_X12 (eM_0 cy a σ) rfl ok_X12_lawOf rfl ⟨by decide, by decide⟩ hl.1 rfl (Nat.le_of_ble_eq_true rfl) dX12_livesIn_3 ⟨Nat.zero_le _, Nat.zero_le _⟩) (wM_fst cy a) (fun r3 τ3 H locs p3 h => ?_)
  rw [p3.1] at h
  refine lv_istore (lv' := [(4, .int r3), (0, .ref (a 0)), (1, .int (nI i)), (2, .int y), (3, .int w)]) hx hb dX12_livesIn_6 hl (by decide) rfl (fun ls hl => ?_)
  refine lv_aload_n hx hb dX12_livesIn_8 rfl (lv_at hl 1 rfl) ?_
  refine lv_aload_n hx hb dX12_livesIn_9 rfl (lv_at hl 1 rfl) ?_
  refine r_get E h 22 (v := .ref (a 14)) (eM_0 cy a σ) rfl fw_X12 (by decide) fl_X12_49 rfl dX12_livesIn_10 ?_
  refine lv_iload_n hx hb dX12_livesIn_13 rfl (lv_at hl 2 rfl) ?_
  refine r_ialdN E h (f := σ.2.1 14) (eM_14 cy a σ) (j := i) hi8 (by decide) (v := σ.2.1 14 i) rfl dX12_livesIn_14 ?_
  refine lv_iload_n hx hb dX12_livesIn_15 rfl (lv_at hl 4 rfl) ?_
  refine k_i h (q_runV (As := [.int (σ.2.1 14 i), .int w]) (rest := []) E h (c_X12_deadOf l D cy a σ (σ.2.1 14 i) w d hd hd6) co_X12_deadOf ml_X12_180 im_X12_deadOf se_X12_deadOf in_X12 (eM_0 cy a σ) rfl ok_X12_deadOf rfl ⟨by decide, by decide⟩ hl.1 rfl (Nat.le_of_ble_eq_true rfl) dX12_livesIn_16 ⟨Nat.zero_le _, Nat.zero_le _⟩) (wM_fst cy a) (fun r16 τ16 H locs p16 h => ?_)
  rw [p16.1] at h
  refine lv_istore (lv' := [(5, .int r16), (4, .int r3), (0, .ref (a 0)), (1, .int (nI i)), (2, .int y), (3, .int w)]) hx hb dX12_livesIn_19 hl (by decide) rfl (fun ls hl => ?_)
  refine lv_aload_n hx hb dX12_livesIn_21 rfl (lv_at hl 2 rfl) ?_
  refine lv_iload_n hx hb dX12_livesIn_22 rfl (lv_at hl 3 rfl) ?_
  refine lv_iload_n hx hb dX12_livesIn_23 rfl (lv_at hl 4 rfl) ?_
  refine k_i h (q_runV (As := [.int (nI i), .int y]) (rest := []) E h (c_X12_isOpen l D cy a σ i y hi8) co_X12_isOpen ml_X12_286 im_X12_isOpen se_X12_isOpen in_X12 (eM_0 cy a σ) rfl ok_X12_isOpen rfl ⟨by decide, by decide⟩ hl.1 rfl (Nat.le_of_ble_eq_true rfl) dX12_livesIn_24 ⟨Nat.zero_le _, Nat.zero_le _⟩) (wM_fst cy a) (fun r24 τ24 H locs p24 h => ?_)
  rw [p24.1] at h
  refine lv_if_eq (tgt := 70) hx hb dX12_livesIn_27 (by decide) (fun c27 => ?_) (fun c27 => ?_)
  · refine lv_iconst (v := 0) hx hb dX12_livesIn_70 (by decide) ?_
    exact t_z E h hr hk (Or.inl rfl) ⟨rfl, Or.inl rfl⟩ dX12_livesIn_71
  · refine lv_iload hx hb dX12_livesIn_30 (lv_at hl 1 rfl) ?_
    refine lv_iconst (v := -1) hx hb dX12_livesIn_32 (by decide) ?_
    refine lv_icmp_eq (tgt := 47) hx hb dX12_livesIn_33 (by decide) (fun c33 => ?_) (fun c33 => ?_)
    · refine lv_iload hx hb dX12_livesIn_47 (lv_at hl 0 rfl) ?_
      refine lv_iconst (v := -1) hx hb dX12_livesIn_49 (by decide) ?_
      refine lv_icmp_eq (tgt := 66) hx hb dX12_livesIn_50 (by decide) (fun c50 => ?_) (fun c50 => ?_)
      · refine lv_iconst (v := 1) hx hb dX12_livesIn_66 (by decide) ?_
        refine lv_goto (tgt := 71) hx hb dX12_livesIn_67 (by decide) ?_
        exact t_z E h hr hk (Or.inr rfl) ⟨rfl, Or.inr rfl⟩ dX12_livesIn_71
      · refine lv_iload_n hx hb dX12_livesIn_53 rfl (lv_at hl 4 rfl) ?_
        refine lv_iload hx hb dX12_livesIn_54 (lv_at hl 0 rfl) ?_
        refine lv_aload_n hx hb dX12_livesIn_56 rfl (lv_at hl 2 rfl) ?_
        refine lv_iload_n hx hb dX12_livesIn_57 rfl (lv_at hl 4 rfl) ?_
        refine lv_iconst (v := 1) hx hb dX12_livesIn_58 (by decide) ?_
        refine k_i h (q_runV (As := [.int y, .int 1]) (rest := [.int r16, .int y]) E h (c_X12_lawOf l D cy a σ y 1 n hn hn6) co_X12_lawOf ml_X12_194 im_X12_lawOf se_X12_lawOf in_X12 (eM_0 cy a σ) rfl ok_X12_lawOf rfl ⟨by decide, by decide⟩ hl.1 rfl (Nat.le_of_ble_eq_true rfl) dX12_livesIn_59 ⟨Nat.zero_le _, Nat.zero_le _⟩) (wM_fst cy a) (fun r59 τ59 H locs p59 h => ?_)
        rw [p59.1] at h
        refine lv_iadd hx hb dX12_livesIn_62 ?_
        refine lv_icmp_gt (tgt := 70) hx hb dX12_livesIn_63 (by decide) (fun c63 => ?_) (fun c63 => ?_)
        · refine lv_iconst (v := 0) hx hb dX12_livesIn_70 (by decide) ?_
          exact t_z E h hr hk (Or.inl rfl) ⟨rfl, Or.inl rfl⟩ dX12_livesIn_71
        · refine lv_iconst (v := 1) hx hb dX12_livesIn_66 (by decide) ?_
          refine lv_goto (tgt := 71) hx hb dX12_livesIn_67 (by decide) ?_
          exact t_z E h hr hk (Or.inr rfl) ⟨rfl, Or.inr rfl⟩ dX12_livesIn_71
    · refine lv_aload_n hx hb dX12_livesIn_36 rfl (lv_at hl 2 rfl) ?_
      refine r_get E h 20 (v := .ref (a 12)) (eM_0 cy a σ) rfl fw_X12 (by decide) fl_X12_43 rfl dX12_livesIn_37 ?_
      refine lv_iload_n hx hb dX12_livesIn_40 rfl (lv_at hl 3 rfl) ?_
      refine r_ialdN E h (f := σ.2.1 12) (eM_12 cy a σ) (j := i) hi8 (by decide) (v := σ.2.1 12 i) rfl dX12_livesIn_41 ?_
      refine lv_iload hx hb dX12_livesIn_42 (lv_at hl 1 rfl) ?_
      refine lv_icmp_gt (tgt := 70) hx hb dX12_livesIn_44 (by decide) (fun c44 => ?_) (fun c44 => ?_)
      · refine lv_iconst (v := 0) hx hb dX12_livesIn_70 (by decide) ?_
        exact t_z E h hr hk (Or.inl rfl) ⟨rfl, Or.inl rfl⟩ dX12_livesIn_71
      · refine lv_iload hx hb dX12_livesIn_47 (lv_at hl 0 rfl) ?_
        refine lv_iconst (v := -1) hx hb dX12_livesIn_49 (by decide) ?_
        refine lv_icmp_eq (tgt := 66) hx hb dX12_livesIn_50 (by decide) (fun c50 => ?_) (fun c50 => ?_)
        · refine lv_iconst (v := 1) hx hb dX12_livesIn_66 (by decide) ?_
          refine lv_goto (tgt := 71) hx hb dX12_livesIn_67 (by decide) ?_
          exact t_z E h hr hk (Or.inr rfl) ⟨rfl, Or.inr rfl⟩ dX12_livesIn_71
        · refine lv_iload_n hx hb dX12_livesIn_53 rfl (lv_at hl 4 rfl) ?_
          refine lv_iload hx hb dX12_livesIn_54 (lv_at hl 0 rfl) ?_
          refine lv_aload_n hx hb dX12_livesIn_56 rfl (lv_at hl 2 rfl) ?_
          refine lv_iload_n hx hb dX12_livesIn_57 rfl (lv_at hl 4 rfl) ?_
          refine lv_iconst (v := 1) hx hb dX12_livesIn_58 (by decide) ?_
          refine k_i h (q_runV (As := [.int y, .int 1]) (rest := [.int r16, .int y]) E h (c_X12_lawOf l D cy a σ y 1 n hn hn6) co_X12_lawOf ml_X12_194 im_X12_lawOf se_X12_lawOf in_X12 (eM_0 cy a σ) rfl ok_X12_lawOf rfl ⟨by decide, by decide⟩ hl.1 rfl (Nat.le_of_ble_eq_true rfl) dX12_livesIn_59 ⟨Nat.zero_le _, Nat.zero_le _⟩) (wM_fst cy a) (fun r59 τ59 H locs p59 h => ?_)
          rw [p59.1] at h
          refine lv_iadd hx hb dX12_livesIn_62 ?_
          refine lv_icmp_gt (tgt := 70) hx hb dX12_livesIn_63 (by decide) (fun c63 => ?_) (fun c63 => ?_)
          · refine lv_iconst (v := 0) hx hb dX12_livesIn_70 (by decide) ?_
            exact t_z E h hr hk (Or.inl rfl) ⟨rfl, Or.inl rfl⟩ dX12_livesIn_71
          · refine lv_iconst (v := 1) hx hb dX12_livesIn_66 (by decide) ?_
            refine lv_goto (tgt := 71) hx hb dX12_livesIn_67 (by decide) ?_
            exact t_z E h hr hk (Or.inr rfl) ⟨rfl, Or.inr rfl⟩ dX12_livesIn_71
