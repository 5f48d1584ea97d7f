
theorem cell_inj {w c j i z : Nat} (hi : i < w) (hz : z < w) (h : c * w + i = j * w + z) : c = j ∧ i = z := by
  have hw : 0 < w := by omega
  have h1 : (c * w + i) / w = c := by rw [Nat.mul_comm, Nat.mul_add_div hw, Nat.div_eq_of_lt hi, Nat.add_zero]
  have h2 : (j * w + z) / w = j := by rw [Nat.mul_comm, Nat.mul_add_div hw, Nat.div_eq_of_lt hz, Nat.add_zero]
  have e : c = j := by rw [← h1, ← h2, h]
  subst e
  exact ⟨rfl, by omega⟩
theorem in_W {x : Int32} {n : Nat} (h : (0 : Int32) ≤ x ∧ x ≤ nI n) (hn : n < 2 ^ 31 := by decide) (hn' : n + 1 < 2 ^ 31 := by decide) : vp_in x (n + 1) := by
  obtain ⟨j, hj, rfl⟩ := nI_of (Int32.not_lt.mpr h.1)
  exact vp_in_nI (by have := (nI_leI hj hn).mp h.2; omega) hn'
theorem grp_put {f m : Nat → Int32} {w b j z : Nat} {x : Int32} (g : GRP f m w b) (hz : f j = nI z) (hw : z < w) (hw9 : w < 1000) (hx : vp_in x b) : GRP (upd f j (nI (z + 1))) (upd m ((j * w) + z) x) w b := by
  intro c hc
  by_cases e : c = j
  · subst e
    obtain ⟨z', h1, h2, h3⟩ := g c hc
    refine ⟨z + 1, by omega, upd_s, fun i hi => ?_⟩
    by_cases e2 : i = z
    · subst e2; rw [upd_s]; exact hx
    · rw [upd_n (fun q => e2 (by omega))]
      have e3 : z' = z := (nI_eq (by omega) (by omega)).mp (h2.symm.trans hz)
      exact h3 i (by omega)
  · rw [upd_n e]
    obtain ⟨z', h1, h2, h3⟩ := g c hc
    refine ⟨z', h1, h2, fun i hi => ?_⟩
    rw [upd_n (fun q => e (cell_inj (by omega) hw q).1)]
    exact h3 i hi

set_option maxHeartbeats 4000000 in
set_option maxRecDepth 100000 in
theorem c_X11_isSource (l : Launch) (D : va_G) (cy : Nat → ClassId) (a : Nat → Nat) (σ : St) (x : Int32)  : CI l yX11_isSource cX11_isSource 2 (some .boolean) (rmOf 2 43) D cy (wX cy a) (AX a) [.ref (a 0), .int x] σ (fun r τ => τ = σ ∧ ((x < 100 ∧ WI x 0 (σ.1 10 - 1) r) ∨ ((100 : Int32) ≤ x ∧ WI (x - 100) 0 (σ.1 12 - 1) r))) := by
  refine c_of (lv := [(0, .ref (a 0)), (1, .int x)]) rfl (Nat.le_of_ble_eq_true rfl) rfl ?_
  intro p e s m args below meth c ls E h hr hk hl
  have hx := E.1
  have hb := E.2.1
  refine lv_iload_n hx hb dX11_isSource_0 rfl (lv_at hl 1 rfl) ?_
  refine lv_bipush (v := 100) hx hb dX11_isSource_1 (by decide) ?_
  refine lv_icmp_ge (tgt := 15) hx hb dX11_isSource_3 (by decide) (fun c3 => ?_) (fun c3 => ?_)
  · refine lv_aload_n hx hb dX11_isSource_15 rfl (lv_at hl 0 rfl) ?_
    refine r_get E h 5 (v := .ref (a 7)) (eX_0 cy a σ) rfl fw_X11 (by decide) fl_X11_49 rfl dX11_isSource_16 ?_
    refine lv_iload_n hx hb dX11_isSource_19 rfl (lv_at hl 1 rfl) ?_
    refine lv_bipush (v := 100) hx hb dX11_isSource_20 (by decide) ?_
    refine lv_isub hx hb dX11_isSource_22 ?_
    refine k_i h (q_runV (As := [.int (x - 100)]) (rest := []) E h (c_X0_has l D cy a σ (x - 100)) co_X0_has ml_X11_127 im_X0_has se_X0_has in_X0 (eX_7 cy a σ) rfl ok_X0_has rfl ⟨by decide, by decide⟩ hl.1 rfl (Nat.le_of_ble_eq_true rfl) dX11_isSource_23 ⟨Nat.zero_le _, Nat.zero_le _⟩) (wX_fst cy a) (fun r23 τ23 H locs p23 h => ?_)
    rw [p23.1] at h
    exact t_z E h hr hk p23.2.z ⟨rfl, Or.inr ⟨c3, p23.2⟩⟩ dX11_isSource_26
  · refine lv_aload_n hx hb dX11_isSource_6 rfl (lv_at hl 0 rfl) ?_
    refine r_get E h 4 (v := .ref (a 6)) (eX_0 cy a σ) rfl fw_X11 (by decide) fl_X11_42 rfl dX11_isSource_7 ?_
    refine lv_iload_n hx hb dX11_isSource_10 rfl (lv_at hl 1 rfl) ?_
    refine k_i h (q_runV (As := [.int x]) (rest := []) E h (c_X9_hasAqueduct l D cy a σ x) co_X9_hasAqueduct ml_X11_101 im_X9_hasAqueduct se_X9_hasAqueduct in_X9 (eX_6 cy a σ) rfl ok_X9_hasAqueduct rfl ⟨by decide, by decide⟩ hl.1 rfl (Nat.le_of_ble_eq_true rfl) dX11_isSource_11 ⟨Nat.zero_le _, Nat.zero_le _⟩) (wX_fst cy a) (fun r11 τ11 H locs p11 h => ?_)
    rw [p11.1] at h
    exact t_z E h hr hk p11.2.z ⟨rfl, Or.inl ⟨Int32.not_le.mp c3, p11.2⟩⟩ dX11_isSource_14

set_option maxHeartbeats 4000000 in
set_option maxRecDepth 100000 in
theorem c_X11_aqueduct (l : Launch) (D : va_G) (cy : Nat → ClassId) (a : Nat → Nat) (σ : St) (x : Int32) (q : Nat) (hq : σ.1 10 = nI q) (h4 : q ≤ 4) : CI l yX11_aqueduct cX11_aqueduct 2 (some .int) (rmOf 2 35) D cy (wX cy a) (AX a) [.ref (a 0), .int x] σ (fun r τ => ∃ υ : St, ((¬ ((0 : Int32) ≤ x ∧ x ≤ 100000) ∧ r = -1 ∧ υ = σ) ∨ (((0 : Int32) ≤ x ∧ x ≤ 100000) ∧ ((q = 4 ∧ r = -5 ∧ υ = σ) ∨ (q < 4 ∧ r = nI q ∧ υ = fF (fR σ 33 (upd (σ.2.1 33) q x)) 10 (nI (q + 1)))))) ∧ K cF cA υ τ) := by
  refine c_of (lv := [(0, .ref (a 0)), (1, .int x)]) rfl (Nat.le_of_ble_eq_true rfl) rfl ?_
  intro p e s m args below meth c ls E h hr hk hl
  have hx := E.1
  have hb := E.2.1
  refine lv_iload_n hx hb dX11_aqueduct_0 rfl (lv_at hl 1 rfl) ?_
  refine lv_iconst (v := 0) hx hb dX11_aqueduct_1 (by decide) ?_
  refine lv_ldc (v := 100000) hx hb E.2.2.2.1 (E.2.2.2.2.1 _ kc_X11_85) dX11_aqueduct_2 ?_
  refine k_i h (q_runS (As := [.int x, .int 0, .int 100000]) (rest := []) E h (c_X11_isWithin l D cy a σ x 0 100000) co_X11_isWithin ml_X11_86 st_X11_isWithin in_X11 rfl ok_X11_isWithin rfl ⟨by decide, by decide⟩ hl.1 rfl (Nat.le_of_ble_eq_true rfl) dX11_aqueduct_4 ⟨Nat.zero_le _, Nat.zero_le _⟩) (wX_fst cy a) (fun r4 τ4 H locs p4 h => ?_)
  rw [p4.1] at h
  refine lv_if_ne (tgt := 16) hx hb dX11_aqueduct_7 (by decide) (fun c7 => ?_) (fun c7 => ?_)
  · refine lv_aload_n hx hb dX11_aqueduct_16 rfl (lv_at hl 0 rfl) ?_
    refine lv_aload_n hx hb dX11_aqueduct_17 rfl (lv_at hl 0 rfl) ?_
    refine r_get E h 4 (v := .ref (a 6)) (eX_0 cy a σ) rfl fw_X11 (by decide) fl_X11_42 rfl dX11_aqueduct_18 ?_
    refine lv_iload_n hx hb dX11_aqueduct_21 rfl (lv_at hl 1 rfl) ?_
    refine k_i h (q_runV (As := [.int x]) (rest := [.ref (a 0)]) E h (c_X9_addAqueduct l D cy a σ x q hq h4) co_X9_addAqueduct ml_X11_94 im_X9_addAqueduct se_X9_addAqueduct in_X9 (eX_6 cy a σ) rfl ok_X9_addAqueduct rfl ⟨by decide, by decide⟩ hl.1 rfl (Nat.le_of_ble_eq_true rfl) dX11_aqueduct_22 ⟨Nat.zero_le _, Nat.zero_le _⟩) (wX_fst cy a) (fun r22 τ22 H locs p22 h => ?_)
    refine k_i h (q_runV (As := [.int r22]) (rest := []) E h (c_X11_told l D cy a τ22 r22) co_X11_told ml_X11_90 im_X11_told se_X11_told in_X11 (eX_0 cy a τ22) rfl ok_X11_told rfl ⟨by decide, by decide⟩ hl.1 rfl (Nat.le_of_ble_eq_true rfl) dX11_aqueduct_25 ⟨Nat.zero_le _, Nat.zero_le _⟩) (wX_fst cy a) (fun r25 τ25 H locs p25 h => ?_)
    exact t_i E h hr hk ⟨τ22, Or.inr ⟨p4.2.t c7, by rw [p25.1]; exact p22⟩, by rw [p25.2]; exact K.rf.F 2 _ (by decide)⟩ dX11_aqueduct_28
  · refine lv_aload_n hx hb dX11_aqueduct_10 rfl (lv_at hl 0 rfl) ?_
    refine lv_iconst (v := -1) hx hb dX11_aqueduct_11 (by decide) ?_
    refine k_i h (q_runV (As := [.int (-1)]) (rest := []) E h (c_X11_told l D cy a σ (-1)) co_X11_told ml_X11_90 im_X11_told se_X11_told in_X11 (eX_0 cy a σ) rfl ok_X11_told rfl ⟨by decide, by decide⟩ hl.1 rfl (Nat.le_of_ble_eq_true rfl) dX11_aqueduct_12 ⟨Nat.zero_le _, Nat.zero_le _⟩) (wX_fst cy a) (fun r12 τ12 H locs p12 h => ?_)
    exact t_i E h hr hk ⟨σ, Or.inl ⟨p4.2.f c7, p12.1, rfl⟩, by rw [p12.2]; exact K.rf.F 2 _ (by decide)⟩ dX11_aqueduct_15

set_option maxHeartbeats 4000000 in
set_option maxRecDepth 100000 in
theorem c_X11_person (l : Launch) (D : va_G) (cy : Nat → ClassId) (a : Nat → Nat) (σ : St) (n : Nat) (hn : σ.1 0 = nI n) (hn4 : n ≤ 40) : CI l yX11_person cX11_person 1 (some .int) (rmOf 2 35) D cy (wX cy a) (AX a) [.ref (a 0)] σ (fun r τ => ∃ υ : St, ((n = 40 ∧ r = -5 ∧ υ = σ) ∨ (n < 40 ∧ r = nI n ∧ υ = fF σ 0 (nI (n + 1)))) ∧ K cF cA υ τ) := by
  refine c_of (lv := [(0, .ref (a 0))]) rfl (Nat.le_of_ble_eq_true rfl) rfl ?_
  intro p e s m args below meth c ls E h hr hk hl
  have hx := E.1
  have hb := E.2.1
  refine lv_aload_n hx hb dX11_person_0 rfl (lv_at hl 0 rfl) ?_
  refine r_get E h 11 (v := .int (nI n)) (eX_0 cy a σ) rfl fw_X11 (by decide) fl_X11_114 (congrArg (fun z => some (Value.int z)) hn) dX11_person_1 ?_
  refine lv_bipush (v := 40) hx hb dX11_person_4 (by decide) ?_
  refine lv_icmp_lt (tgt := 16) hx hb dX11_person_6 (by decide) (fun c6 => ?_) (fun c6 => ?_)
  · have c6 : n < 40 := n_lt (by omega) (by decide) c6
    refine lv_aload_n hx hb dX11_person_16 rfl (lv_at hl 0 rfl) ?_
    refine lv_dup hx hb dX11_person_17 rfl ?_
    refine r_get E h 11 (v := .int (nI n)) (eX_0 cy a σ) rfl fw_X11 (by decide) fl_X11_114 (congrArg (fun z => some (Value.int z)) hn) dX11_person_18 ?_
    refine lv_iconst (v := 1) hx hb dX11_person_21 (by decide) ?_
    refine n_add (j := n) (k := 1) hx hb dX11_person_22 ?_
    refine r_put E h 11 (ty := .int) (eX_0 cy a σ) rfl fw_X11 tyX11_ok nmX11 (by decide) fl_X11_114 rfl (by decide +kernel) rfl rfl (Nat.le_of_ble_eq_true rfl) (sX_0 cy a σ (nI (n + 1))) dX11_person_23 (fun H locs h => ?_)
    refine lv_aload_n hx hb dX11_person_26 rfl (lv_at hl 0 rfl) ?_
    refine lv_aload_n hx hb dX11_person_27 rfl (lv_at hl 0 rfl) ?_
    refine r_get E h 11 (v := .int (nI (n + 1))) (eX_0 cy a (fF σ 0 (nI (n + 1)))) rfl fw_X11 (by decide) fl_X11_114 rfl dX11_person_28 ?_
    refine lv_iconst (v := 1) hx hb dX11_person_31 (by decide) ?_
    refine n_sub1 hx hb dX11_person_32 ?_
    refine k_i h (q_runV (As := [.int (nI n)]) (rest := []) E h (c_X11_told l D cy a (fF σ 0 (nI (n + 1))) (nI n)) co_X11_told ml_X11_90 im_X11_told se_X11_told in_X11 (eX_0 cy a (fF σ 0 (nI (n + 1)))) rfl ok_X11_told rfl ⟨by decide, by decide⟩ hl.1 rfl (Nat.le_of_ble_eq_true rfl) dX11_person_33 ⟨Nat.zero_le _, Nat.zero_le _⟩) (wX_fst cy a) (fun r33 τ33 H locs p33 h => ?_)
    exact t_i E h hr hk ⟨fF σ 0 (nI (n + 1)), Or.inr ⟨c6, p33.1, rfl⟩, by rw [p33.2]; exact K.rf.F 2 _ (by decide)⟩ dX11_person_36
  · have c6 : 40 ≤ n := n_nlt (by omega) (by decide) c6
    refine lv_aload_n hx hb dX11_person_9 rfl (lv_at hl 0 rfl) ?_
    refine lv_bipush (v := -5) hx hb dX11_person_10 (by decide) ?_
    refine k_i h (q_runV (As := [.int (-5)]) (rest := []) E h (c_X11_told l D cy a σ (-5)) co_X11_told ml_X11_90 im_X11_told se_X11_told in_X11 (eX_0 cy a σ) rfl ok_X11_told rfl ⟨by decide, by decide⟩ hl.1 rfl (Nat.le_of_ble_eq_true rfl) dX11_person_12 ⟨Nat.zero_le _, Nat.zero_le _⟩) (wX_fst cy a) (fun r12 τ12 H locs p12 h => ?_)
    exact t_i E h hr hk ⟨σ, Or.inl ⟨by omega, p12.1, rfl⟩, by rw [p12.2]; exact K.rf.F 2 _ (by decide)⟩ dX11_person_15

set_option maxHeartbeats 4000000 in
set_option maxRecDepth 100000 in
theorem c_X11_death (l : Launch) (D : va_G) (cy : Nat → ClassId) (a : Nat → Nat) (σ : St) (x y w : Int32) (n : Nat) (hn : σ.1 9 = nI n) (hn6 : n ≤ 60) : CI l yX11_death cX11_death 4 (some .int) (rmOf 2 43) D cy (wX cy a) (AX a) [.ref (a 0), .int x, .int y, .int w] σ (fun r τ => ∃ υ : St, ((¬ (((0 : Int32) ≤ y ∧ y ≤ 200) ∧ ((0 : Int32) ≤ w ∧ w ≤ 200)) ∧ r = -1 ∧ υ = σ) ∨ ((((0 : Int32) ≤ y ∧ y ≤ 200) ∧ ((0 : Int32) ≤ w ∧ w ≤ 200)) ∧ ¬ ((0 : Int32) ≤ x ∧ x ≤ σ.1 0 - 1) ∧ r = -2 ∧ υ = σ) ∨ ((((0 : Int32) ≤ y ∧ y ≤ 200) ∧ ((0 : Int32) ≤ w ∧ w ≤ 200)) ∧ ((0 : Int32) ≤ x ∧ x ≤ σ.1 0 - 1) ∧ ((n = 60 ∧ r = -5 ∧ υ = σ) ∨ (n < 60 ∧ r = nI (n + 1) ∧ υ = fF (fR (fR (fR σ 29 (upd (σ.2.1 29) n x)) 30 (upd (σ.2.1 30) n y)) 31 (upd (σ.2.1 31) n w)) 9 (nI (n + 1)))))) ∧ K cF cA υ τ) := by
  refine c_of (lv := [(0, .ref (a 0)), (1, .int x), (2, .int y), (3, .int w)]) rfl (Nat.le_of_ble_eq_true rfl) rfl ?_
  intro p e s m args below meth c ls E h hr hk hl
  have hx := E.1
  have hb := E.2.1
  refine lv_iload_n hx hb dX11_death_0 rfl (lv_at hl 2 rfl) ?_
  refine k_i h (q_runS (As := [.int y]) (rest := []) E h (c_X11_isYear l D cy a σ y) co_X11_isYear ml_X11_97 st_X11_isYear in_X11 rfl ok_X11_isYear rfl ⟨by decide, by decide⟩ hl.1 rfl (Nat.le_of_ble_eq_true rfl) dX11_death_1 ⟨Nat.zero_le _, Nat.zero_le _⟩) (wX_fst cy a) (fun r1 τ1 H locs p1 h => ?_)
  rw [p1.1] at h
  refine lv_if_eq (tgt := 14) hx hb dX11_death_4 (by decide) (fun c4 => ?_) (fun c4 => ?_)
  · refine lv_aload_n hx hb dX11_death_14 rfl (lv_at hl 0 rfl) ?_
    refine lv_iconst (v := -1) hx hb dX11_death_15 (by decide) ?_
    refine k_i h (q_runV (As := [.int (-1)]) (rest := []) E h (c_X11_told l D cy a σ (-1)) co_X11_told ml_X11_90 im_X11_told se_X11_told in_X11 (eX_0 cy a σ) rfl ok_X11_told rfl ⟨by decide, by decide⟩ hl.1 rfl (Nat.le_of_ble_eq_true rfl) dX11_death_16 ⟨Nat.zero_le _, Nat.zero_le _⟩) (wX_fst cy a) (fun r16 τ16 H locs p16 h => ?_)
    exact t_i E h hr hk ⟨σ, Or.inl ⟨fun q => p1.2.f c4 q.1, p16.1, rfl⟩, by rw [p16.2]; exact K.rf.F 2 _ (by decide)⟩ dX11_death_19
  · refine lv_iload_n hx hb dX11_death_7 rfl (lv_at hl 3 rfl) ?_
    refine k_i h (q_runS (As := [.int w]) (rest := []) E h (c_X11_isYear l D cy a σ w) co_X11_isYear ml_X11_97 st_X11_isYear in_X11 rfl ok_X11_isYear rfl ⟨by decide, by decide⟩ hl.1 rfl (Nat.le_of_ble_eq_true rfl) dX11_death_8 ⟨Nat.zero_le _, Nat.zero_le _⟩) (wX_fst cy a) (fun r8 τ8 H locs p8 h => ?_)
    rw [p8.1] at h
    refine lv_if_ne (tgt := 20) hx hb dX11_death_11 (by decide) (fun c11 => ?_) (fun c11 => ?_)
    · refine lv_aload_n hx hb dX11_death_20 rfl (lv_at hl 0 rfl) ?_
      refine lv_iload_n hx hb dX11_death_21 rfl (lv_at hl 1 rfl) ?_
      refine k_i h (q_runV (As := [.int x]) (rest := []) E h (c_X11_isPerson l D cy a σ x) co_X11_isPerson ml_X11_118 im_X11_isPerson se_X11_isPerson in_X11 (eX_0 cy a σ) rfl ok_X11_isPerson rfl ⟨by decide, by decide⟩ hl.1 rfl (Nat.le_of_ble_eq_true rfl) dX11_death_22 ⟨Nat.zero_le _, Nat.zero_le _⟩) (wX_fst cy a) (fun r22 τ22 H locs p22 h => ?_)
      rw [p22.1] at h
      refine lv_if_ne (tgt := 35) hx hb dX11_death_25 (by decide) (fun c25 => ?_) (fun c25 => ?_)
      · refine lv_aload_n hx hb dX11_death_35 rfl (lv_at hl 0 rfl) ?_
        refine lv_aload_n hx hb dX11_death_36 rfl (lv_at hl 0 rfl) ?_
        refine r_get E h 3 (v := .ref (a 5)) (eX_0 cy a σ) rfl fw_X11 (by decide) fl_X11_35 rfl dX11_death_37 ?_
        refine lv_iload_n hx hb dX11_death_40 rfl (lv_at hl 1 rfl) ?_
        refine lv_iload_n hx hb dX11_death_41 rfl (lv_at hl 2 rfl) ?_
        refine lv_iload_n hx hb dX11_death_42 rfl (lv_at hl 3 rfl) ?_
        refine k_i h (q_runV (As := [.int x, .int y, .int w]) (rest := [.ref (a 0)]) E h (c_X1_add l D cy a σ x y w n hn hn6) co_X1_add ml_X11_121 im_X1_add se_X1_add in_X1 (eX_5 cy a σ) rfl ok_X1_add rfl ⟨by decide, by decide⟩ hl.1 rfl (Nat.le_of_ble_eq_true rfl) dX11_death_43 ⟨Nat.zero_le _, Nat.zero_le _⟩) (wX_fst cy a) (fun r43 τ43 H locs p43 h => ?_)
        refine k_i h (q_runV (As := [.int r43]) (rest := []) E h (c_X11_told l D cy a τ43 r43) co_X11_told ml_X11_90 im_X11_told se_X11_told in_X11 (eX_0 cy a τ43) rfl ok_X11_told rfl ⟨by decide, by decide⟩ hl.1 rfl (Nat.le_of_ble_eq_true rfl) dX11_death_46 ⟨Nat.zero_le _, Nat.zero_le _⟩) (wX_fst cy a) (fun r46 τ46 H locs p46 h => ?_)
        exact t_i E h hr hk ⟨τ43, Or.inr (Or.inr ⟨⟨p1.2.t c4, p8.2.t c11⟩, p22.2.t c25, by rw [p46.1]; exact p43⟩), by rw [p46.2]; exact K.rf.F 2 _ (by decide)⟩ dX11_death_49
      · refine lv_aload_n hx hb dX11_death_28 rfl (lv_at hl 0 rfl) ?_
        refine lv_bipush (v := -2) hx hb dX11_death_29 (by decide) ?_
        refine k_i h (q_runV (As := [.int (-2)]) (rest := []) E h (c_X11_told l D cy a σ (-2)) co_X11_told ml_X11_90 im_X11_told se_X11_told in_X11 (eX_0 cy a σ) rfl ok_X11_told rfl ⟨by decide, by decide⟩ hl.1 rfl (Nat.le_of_ble_eq_true rfl) dX11_death_31 ⟨Nat.zero_le _, Nat.zero_le _⟩) (wX_fst cy a) (fun r31 τ31 H locs p31 h => ?_)
        exact t_i E h hr hk ⟨σ, Or.inr (Or.inl ⟨⟨p1.2.t c4, p8.2.t c11⟩, p22.2.f c25, p31.1, rfl⟩), by rw [p31.2]; exact K.rf.F 2 _ (by decide)⟩ dX11_death_34
    · refine lv_aload_n hx hb dX11_death_14 rfl (lv_at hl 0 rfl) ?_
      refine lv_iconst (v := -1) hx hb dX11_death_15 (by decide) ?_
      refine k_i h (q_runV (As := [.int (-1)]) (rest := []) E h (c_X11_told l D cy a σ (-1)) co_X11_told ml_X11_90 im_X11_told se_X11_told in_X11 (eX_0 cy a σ) rfl ok_X11_told rfl ⟨by decide, by decide⟩ hl.1 rfl (Nat.le_of_ble_eq_true rfl) dX11_death_16 ⟨Nat.zero_le _, Nat.zero_le _⟩) (wX_fst cy a) (fun r16 τ16 H locs p16 h => ?_)
      exact t_i E h hr hk ⟨σ, Or.inl ⟨fun q => p8.2.f c11 q.2, p16.1, rfl⟩, by rw [p16.2]; exact K.rf.F 2 _ (by decide)⟩ dX11_death_19

set_option maxHeartbeats 4000000 in
set_option maxRecDepth 100000 in
theorem c_X11_spring (l : Launch) (D : va_G) (cy : Nat → ClassId) (a : Nat → Nat) (σ : St) (x y w : Int32) (n : Nat) (hn : σ.1 11 = nI n) (hn6 : n ≤ 60) : CI l yX11_spring cX11_spring 4 (some .int) (rmOf 2 47) D cy (wX cy a) (AX a) [.ref (a 0), .int x, .int y, .int w] σ (fun r τ => ∃ υ : St, ((¬ (((0 : Int32) ≤ y ∧ y ≤ 200) ∧ ((0 : Int32) ≤ w ∧ w ≤ 100000)) ∧ r = -1 ∧ υ = σ) ∨ ((((0 : Int32) ≤ y ∧ y ≤ 200) ∧ ((0 : Int32) ≤ w ∧ w ≤ 100000)) ∧ ¬ ((0 : Int32) ≤ x ∧ x ≤ σ.1 10 - 1) ∧ r = -2 ∧ υ = σ) ∨ ((((0 : Int32) ≤ y ∧ y ≤ 200) ∧ ((0 : Int32) ≤ w ∧ w ≤ 100000)) ∧ ((0 : Int32) ≤ x ∧ x ≤ σ.1 10 - 1) ∧ (∃ t, t ≤ n ∧ (∀ i, i < t → ¬ (σ.2.1 34 i = x ∧ σ.2.1 35 i = y)) ∧ (t < n → (σ.2.1 34 t = x ∧ σ.2.1 35 t = y)) ∧ ((t = 60 ∧ r = -5 ∧ υ = σ) ∨ (t < 60 ∧ r = 0 ∧ υ = fF (fR (fR (fR σ 34 (upd (σ.2.1 34) t x)) 35 (upd (σ.2.1 35) t y)) 36 (upd (σ.2.1 36) t w)) 11 (if nI n < nI (t + 1) then nI (t + 1) else nI n)))))) ∧ K cF cA υ τ) := by
  refine c_of (lv := [(0, .ref (a 0)), (1, .int x), (2, .int y), (3, .int w)]) rfl (Nat.le_of_ble_eq_true rfl) rfl ?_
  intro p e s m args below meth c ls E h hr hk hl
  have hx := E.1
  have hb := E.2.1
  refine lv_iload_n hx hb dX11_spring_0 rfl (lv_at hl 2 rfl) ?_
  refine k_i h (q_runS (As := [.int y]) (rest := []) E h (c_X11_isYear l D cy a σ y) co_X11_isYear ml_X11_97 st_X11_isYear in_X11 rfl ok_X11_isYear rfl ⟨by decide, by decide⟩ hl.1 rfl (Nat.le_of_ble_eq_true rfl) dX11_spring_1 ⟨Nat.zero_le _, Nat.zero_le _⟩) (wX_fst cy a) (fun r1 τ1 H locs p1 h => ?_)
  rw [p1.1] at h
  refine lv_if_eq (tgt := 17) hx hb dX11_spring_4 (by decide) (fun c4 => ?_) (fun c4 => ?_)
  · refine lv_aload_n hx hb dX11_spring_17 rfl (lv_at hl 0 rfl) ?_
    refine lv_iconst (v := -1) hx hb dX11_spring_18 (by decide) ?_
    refine k_i h (q_runV (As := [.int (-1)]) (rest := []) E h (c_X11_told l D cy a σ (-1)) co_X11_told ml_X11_90 im_X11_told se_X11_told in_X11 (eX_0 cy a σ) rfl ok_X11_told rfl ⟨by decide, by decide⟩ hl.1 rfl (Nat.le_of_ble_eq_true rfl) dX11_spring_19 ⟨Nat.zero_le _, Nat.zero_le _⟩) (wX_fst cy a) (fun r19 τ19 H locs p19 h => ?_)
    exact t_i E h hr hk ⟨σ, Or.inl ⟨fun q => p1.2.f c4 q.1, p19.1, rfl⟩, by rw [p19.2]; exact K.rf.F 2 _ (by decide)⟩ dX11_spring_22
  · refine lv_iload_n hx hb dX11_spring_7 rfl (lv_at hl 3 rfl) ?_
    refine lv_iconst (v := 0) hx hb dX11_spring_8 (by decide) ?_
    refine lv_ldc (v := 100000) hx hb E.2.2.2.1 (E.2.2.2.2.1 _ kc_X11_85) dX11_spring_9 ?_
    refine k_i h (q_runS (As := [.int w, .int 0, .int 100000]) (rest := []) E h (c_X11_isWithin l D cy a σ w 0 100000) co_X11_isWithin ml_X11_86 st_X11_isWithin in_X11 rfl ok_X11_isWithin rfl ⟨by decide, by decide⟩ hl.1 rfl (Nat.le_of_ble_eq_true rfl) dX11_spring_11 ⟨Nat.zero_le _, Nat.zero_le _⟩) (wX_fst cy a) (fun r11 τ11 H locs p11 h => ?_)
    rw [p11.1] at h
    refine lv_if_ne (tgt := 23) hx hb dX11_spring_14 (by decide) (fun c14 => ?_) (fun c14 => ?_)
    · refine lv_aload_n hx hb dX11_spring_23 rfl (lv_at hl 0 rfl) ?_
      refine r_get E h 4 (v := .ref (a 6)) (eX_0 cy a σ) rfl fw_X11 (by decide) fl_X11_42 rfl dX11_spring_24 ?_
      refine lv_iload_n hx hb dX11_spring_27 rfl (lv_at hl 1 rfl) ?_
      refine k_i h (q_runV (As := [.int x]) (rest := []) E h (c_X9_hasAqueduct l D cy a σ x) co_X9_hasAqueduct ml_X11_101 im_X9_hasAqueduct se_X9_hasAqueduct in_X9 (eX_6 cy a σ) rfl ok_X9_hasAqueduct rfl ⟨by decide, by decide⟩ hl.1 rfl (Nat.le_of_ble_eq_true rfl) dX11_spring_28 ⟨Nat.zero_le _, Nat.zero_le _⟩) (wX_fst cy a) (fun r28 τ28 H locs p28 h => ?_)
      rw [p28.1] at h
      refine lv_if_ne (tgt := 41) hx hb dX11_spring_31 (by decide) (fun c31 => ?_) (fun c31 => ?_)
      · refine lv_aload_n hx hb dX11_spring_41 rfl (lv_at hl 0 rfl) ?_
        refine lv_aload_n hx hb dX11_spring_42 rfl (lv_at hl 0 rfl) ?_
        refine r_get E h 4 (v := .ref (a 6)) (eX_0 cy a σ) rfl fw_X11 (by decide) fl_X11_42 rfl dX11_spring_43 ?_
        refine lv_iload_n hx hb dX11_spring_46 rfl (lv_at hl 1 rfl) ?_
        refine lv_iload_n hx hb dX11_spring_47 rfl (lv_at hl 2 rfl) ?_
        refine lv_iload_n hx hb dX11_spring_48 rfl (lv_at hl 3 rfl) ?_
        refine k_i h (q_runV (As := [.int x, .int y, .int w]) (rest := [.ref (a 0)]) E h (c_X9_change l D cy a σ x y w n hn hn6) co_X9_change ml_X11_104 im_X9_change se_X9_change in_X9 (eX_6 cy a σ) rfl ok_X9_change rfl ⟨by decide, by decide⟩ hl.1 rfl (Nat.le_of_ble_eq_true rfl) dX11_spring_49 ⟨Nat.zero_le _, Nat.zero_le _⟩) (wX_fst cy a) (fun r49 τ49 H locs p49 h => ?_)
        refine k_i h (q_runV (As := [.int r49]) (rest := []) E h (c_X11_told l D cy a τ49 r49) co_X11_told ml_X11_90 im_X11_told se_X11_told in_X11 (eX_0 cy a τ49) rfl ok_X11_told rfl ⟨by decide, by decide⟩ hl.1 rfl (Nat.le_of_ble_eq_true rfl) dX11_spring_52 ⟨Nat.zero_le _, Nat.zero_le _⟩) (wX_fst cy a) (fun r52 τ52 H locs p52 h => ?_)
        exact t_i E h hr hk ⟨τ49, Or.inr (Or.inr ⟨⟨p1.2.t c4, p11.2.t c14⟩, p28.2.t c31, by rw [p52.1]; exact p49⟩), by rw [p52.2]; exact K.rf.F 2 _ (by decide)⟩ dX11_spring_55
      · refine lv_aload_n hx hb dX11_spring_34 rfl (lv_at hl 0 rfl) ?_
        refine lv_bipush (v := -2) hx hb dX11_spring_35 (by decide) ?_
        refine k_i h (q_runV (As := [.int (-2)]) (rest := []) E h (c_X11_told l D cy a σ (-2)) co_X11_told ml_X11_90 im_X11_told se_X11_told in_X11 (eX_0 cy a σ) rfl ok_X11_told rfl ⟨by decide, by decide⟩ hl.1 rfl (Nat.le_of_ble_eq_true rfl) dX11_spring_37 ⟨Nat.zero_le _, Nat.zero_le _⟩) (wX_fst cy a) (fun r37 τ37 H locs p37 h => ?_)
        exact t_i E h hr hk ⟨σ, Or.inr (Or.inl ⟨⟨p1.2.t c4, p11.2.t c14⟩, p28.2.f c31, p37.1, rfl⟩), by rw [p37.2]; exact K.rf.F 2 _ (by decide)⟩ dX11_spring_40
    · refine lv_aload_n hx hb dX11_spring_17 rfl (lv_at hl 0 rfl) ?_
      refine lv_iconst (v := -1) hx hb dX11_spring_18 (by decide) ?_
      refine k_i h (q_runV (As := [.int (-1)]) (rest := []) E h (c_X11_told l D cy a σ (-1)) co_X11_told ml_X11_90 im_X11_told se_X11_told in_X11 (eX_0 cy a σ) rfl ok_X11_told rfl ⟨by decide, by decide⟩ hl.1 rfl (Nat.le_of_ble_eq_true rfl) dX11_spring_19 ⟨Nat.zero_le _, Nat.zero_le _⟩) (wX_fst cy a) (fun r19 τ19 H locs p19 h => ?_)
      exact t_i E h hr hk ⟨σ, Or.inl ⟨fun q => p11.2.f c14 q.2, p19.1, rfl⟩, by rw [p19.2]; exact K.rf.F 2 _ (by decide)⟩ dX11_spring_22

set_option maxHeartbeats 4000000 in
set_option maxRecDepth 100000 in
theorem c_X11_go (l : Launch) (D : va_G) (cy : Nat → ClassId) (a : Nat → Nat) (σ : St) (x : Int32)  : CI l yX11_go cX11_go 2 (some .int) (rmOf 2 35) D cy (wX cy a) (AX a) [.ref (a 0), .int x] σ (fun r τ => ∃ υ : St, ((¬ (((1 : Int32) ≤ x ∧ x ≤ 50) ∧ σ.1 1 + x ≤ 200) ∧ r = -1 ∧ υ = σ) ∨ ((((1 : Int32) ≤ x ∧ x ≤ 50) ∧ σ.1 1 + x ≤ 200) ∧ r = σ.1 1 + x ∧ υ = fF σ 1 (σ.1 1 + x))) ∧ K cF cA υ τ) := by
  refine c_of (lv := [(0, .ref (a 0)), (1, .int x)]) rfl (Nat.le_of_ble_eq_true rfl) rfl ?_
  intro p e s m args below meth c ls E h hr hk hl
  have hx := E.1
  have hb := E.2.1
  refine lv_iload_n hx hb dX11_go_0 rfl (lv_at hl 1 rfl) ?_
  refine lv_iconst (v := 1) hx hb dX11_go_1 (by decide) ?_
  refine lv_bipush (v := 50) hx hb dX11_go_2 (by decide) ?_
  refine k_i h (q_runS (As := [.int x, .int 1, .int 50]) (rest := []) E h (c_X11_isWithin l D cy a σ x 1 50) co_X11_isWithin ml_X11_86 st_X11_isWithin in_X11 rfl ok_X11_isWithin rfl ⟨by decide, by decide⟩ hl.1 rfl (Nat.le_of_ble_eq_true rfl) dX11_go_4 ⟨Nat.zero_le _, Nat.zero_le _⟩) (wX_fst cy a) (fun r4 τ4 H locs p4 h => ?_)
  rw [p4.1] at h
  refine lv_if_eq (tgt := 22) hx hb dX11_go_7 (by decide) (fun c7 => ?_) (fun c7 => ?_)
  · refine lv_aload_n hx hb dX11_go_22 rfl (lv_at hl 0 rfl) ?_
    refine lv_iconst (v := -1) hx hb dX11_go_23 (by decide) ?_
    refine k_i h (q_runV (As := [.int (-1)]) (rest := []) E h (c_X11_told l D cy a σ (-1)) co_X11_told ml_X11_90 im_X11_told se_X11_told in_X11 (eX_0 cy a σ) rfl ok_X11_told rfl ⟨by decide, by decide⟩ hl.1 rfl (Nat.le_of_ble_eq_true rfl) dX11_go_24 ⟨Nat.zero_le _, Nat.zero_le _⟩) (wX_fst cy a) (fun r24 τ24 H locs p24 h => ?_)
    exact t_i E h hr hk ⟨σ, Or.inl ⟨fun q => p4.2.f c7 q.1, p24.1, rfl⟩, by rw [p24.2]; exact K.rf.F 2 _ (by decide)⟩ dX11_go_27
  · refine lv_aload_n hx hb dX11_go_10 rfl (lv_at hl 0 rfl) ?_
    refine r_get E h 12 (v := .int (σ.1 1)) (eX_0 cy a σ) rfl fw_X11 (by decide) fl_X11_130 rfl dX11_go_11 ?_
    refine lv_iload_n hx hb dX11_go_14 rfl (lv_at hl 1 rfl) ?_
    refine lv_iadd hx hb dX11_go_15 ?_
    refine lv_sipush (v := 200) hx hb dX11_go_16 (by decide) ?_
    refine lv_icmp_le (tgt := 28) hx hb dX11_go_19 (by decide) (fun c19 => ?_) (fun c19 => ?_)
    · refine lv_aload_n hx hb dX11_go_28 rfl (lv_at hl 0 rfl) ?_
      refine lv_dup hx hb dX11_go_29 rfl ?_
      refine r_get E h 12 (v := .int (σ.1 1)) (eX_0 cy a σ) rfl fw_X11 (by decide) fl_X11_130 rfl dX11_go_30 ?_
      refine lv_iload_n hx hb dX11_go_33 rfl (lv_at hl 1 rfl) ?_
      refine lv_iadd hx hb dX11_go_34 ?_
      refine r_put E h 12 (ty := .int) (eX_0 cy a σ) rfl fw_X11 tyX11_ok nmX11 (by decide) fl_X11_130 rfl (by decide +kernel) rfl rfl (Nat.le_of_ble_eq_true rfl) (sX_1 cy a σ ((σ.1 1) + x)) dX11_go_35 (fun H locs h => ?_)
      refine lv_aload_n hx hb dX11_go_38 rfl (lv_at hl 0 rfl) ?_
      refine lv_aload_n hx hb dX11_go_39 rfl (lv_at hl 0 rfl) ?_
      refine r_get E h 12 (v := .int ((σ.1 1) + x)) (eX_0 cy a (fF σ 1 ((σ.1 1) + x))) rfl fw_X11 (by decide) fl_X11_130 rfl dX11_go_40 ?_
      refine k_i h (q_runV (As := [.int ((σ.1 1) + x)]) (rest := []) E h (c_X11_told l D cy a (fF σ 1 ((σ.1 1) + x)) ((σ.1 1) + x)) co_X11_told ml_X11_90 im_X11_told se_X11_told in_X11 (eX_0 cy a (fF σ 1 ((σ.1 1) + x))) rfl ok_X11_told rfl ⟨by decide, by decide⟩ hl.1 rfl (Nat.le_of_ble_eq_true rfl) dX11_go_43 ⟨Nat.zero_le _, Nat.zero_le _⟩) (wX_fst cy a) (fun r43 τ43 H locs p43 h => ?_)
      exact t_i E h hr hk ⟨fF σ 1 (σ.1 1 + x), Or.inr ⟨⟨p4.2.t c7, c19⟩, p43.1, rfl⟩, by rw [p43.2]; exact K.rf.F 2 _ (by decide)⟩ dX11_go_46
    · refine lv_aload_n hx hb dX11_go_22 rfl (lv_at hl 0 rfl) ?_
      refine lv_iconst (v := -1) hx hb dX11_go_23 (by decide) ?_
      refine k_i h (q_runV (As := [.int (-1)]) (rest := []) E h (c_X11_told l D cy a σ (-1)) co_X11_told ml_X11_90 im_X11_told se_X11_told in_X11 (eX_0 cy a σ) rfl ok_X11_told rfl ⟨by decide, by decide⟩ hl.1 rfl (Nat.le_of_ble_eq_true rfl) dX11_go_24 ⟨Nat.zero_le _, Nat.zero_le _⟩) (wX_fst cy a) (fun r24 τ24 H locs p24 h => ?_)
      exact t_i E h hr hk ⟨σ, Or.inl ⟨fun q => c19 q.2, p24.1, rfl⟩, by rw [p24.2]; exact K.rf.F 2 _ (by decide)⟩ dX11_go_27

set_option maxHeartbeats 4000000 in
set_option maxRecDepth 100000 in
theorem c_X11_status (l : Launch) (D : va_G) (cy : Nat → ClassId) (a : Nat → Nat) (σ : St)   : CI l yX11_status cX11_status 1 (some .int) (rmOf 0 0) D cy (wX cy a) (AX a) [.ref (a 0)] σ (fun _ τ => K cF cA σ τ) := by
  refine c_of (lv := [(0, .ref (a 0))]) rfl (Nat.le_of_ble_eq_true rfl) rfl ?_
  intro p e s m args below meth c ls E h hr hk hl
  have hx := E.1
  have hb := E.2.1
  refine lv_aload_n hx hb dX11_status_0 rfl (lv_at hl 0 rfl) ?_
  refine r_get E h 13 (v := .int (σ.1 2)) (eX_0 cy a σ) rfl fw_X11 (by decide) fl_X11_240 rfl dX11_status_1 ?_
  exact t_i E h hr hk K.rf dX11_status_4

set_option maxHeartbeats 4000000 in
set_option maxRecDepth 100000 in
theorem c_X11_fault (l : Launch) (D : va_G) (cy : Nat → ClassId) (a : Nat → Nat) (σ : St)   : CI l yX11_fault cX11_fault 1 (some .int) (rmOf 0 0) D cy (wX cy a) (AX a) [.ref (a 0)] σ (fun _ τ => K cF cA σ τ) := by
  refine c_of (lv := [(0, .ref (a 0))]) rfl (Nat.le_of_ble_eq_true rfl) rfl ?_
  intro p e s m args below meth c ls E h hr hk hl
  have hx := E.1
  have hb := E.2.1
  refine lv_aload_n hx hb dX11_fault_0 rfl (lv_at hl 0 rfl) ?_
  refine r_get E h 1 (v := .ref (a 2)) (eX_0 cy a σ) rfl fw_X11 (by decide) fl_X11_21 rfl dX11_fault_1 ?_
  refine r_get E h 4 (v := .int (σ.1 6)) (eX_2 cy a σ) rfl fw_X5 (by decide) fl_X11_176 rfl dX11_fault_4 ?_
  exact t_i E h hr hk K.rf dX11_fault_7

set_option maxHeartbeats 4000000 in
set_option maxRecDepth 100000 in
theorem c_X11_law (l : Launch) (D : va_G) (cy : Nat → ClassId) (a : Nat → Nat) (σ : St) (x y : Int32) (g : GX σ) : CI l yX11_law cX11_law 3 (some .int) (rmOf 2 44) D cy (wX cy a) (AX a) [.ref (a 0), .int x, .int y] σ (fun _ τ => K cF cA σ τ) := by
  refine c_of (lv := [(0, .ref (a 0)), (1, .int x), (2, .int y)]) rfl (Nat.le_of_ble_eq_true rfl) rfl ?_
  intro p e s m args below meth c ls E h hr hk hl
  have hx := E.1
  have hb := E.2.1
  refine lv_iload_n hx hb dX11_law_0 rfl (lv_at hl 1 rfl) ?_
  refine k_i h (q_runS (As := [.int x]) (rest := []) E h (c_X11_isYear l D cy a σ x) co_X11_isYear ml_X11_97 st_X11_isYear in_X11 rfl ok_X11_isYear rfl ⟨by decide, by decide⟩ hl.1 rfl (Nat.le_of_ble_eq_true rfl) dX11_law_1 ⟨Nat.zero_le _, Nat.zero_le _⟩) (wX_fst cy a) (fun r1 τ1 H locs p1 h => ?_)
  rw [p1.1] at h
  refine lv_if_eq (tgt := 17) hx hb dX11_law_4 (by decide) (fun c4 => ?_) (fun c4 => ?_)
  · refine lv_iconst (v := -1) hx hb dX11_law_17 (by decide) ?_
    exact t_i E h hr hk K.rf dX11_law_18
  · refine lv_iload_n hx hb dX11_law_7 rfl (lv_at hl 2 rfl) ?_
    refine lv_iconst (v := 0) hx hb dX11_law_8 (by decide) ?_
    refine lv_bipush (v := 7) hx hb dX11_law_9 (by decide) ?_
    refine k_i h (q_runS (As := [.int y, .int 0, .int 7]) (rest := []) E h (c_X11_isWithin l D cy a σ y 0 7) co_X11_isWithin ml_X11_86 st_X11_isWithin in_X11 rfl ok_X11_isWithin rfl ⟨by decide, by decide⟩ hl.1 rfl (Nat.le_of_ble_eq_true rfl) dX11_law_11 ⟨Nat.zero_le _, Nat.zero_le _⟩) (wX_fst cy a) (fun r11 τ11 H locs p11 h => ?_)
    rw [p11.1] at h
    refine lv_if_ne (tgt := 19) hx hb dX11_law_14 (by decide) (fun c14 => ?_) (fun c14 => ?_)
    · refine lv_aload_n hx hb dX11_law_19 rfl (lv_at hl 0 rfl) ?_
      refine r_get E h 2 (v := .ref (a 3)) (eX_0 cy a σ) rfl fw_X11 (by decide) fl_X11_28 rfl dX11_law_20 ?_
      refine lv_iload_n hx hb dX11_law_23 rfl (lv_at hl 1 rfl) ?_
      refine k_v h (q_runV (As := [.int x]) (rest := []) E h (c_X4_settle_book l D cy a σ x g) co_X4_settle ml_X11_133 im_X4_settle se_X4_settle in_X4 (eX_3 cy a σ) rfl ok_X4_settle rfl ⟨by decide, by decide⟩ hl.1 rfl (Nat.le_of_ble_eq_true rfl) dX11_law_24 ⟨Nat.zero_le _, Nat.zero_le _⟩) (wX_fst cy a) (fun τ24 H locs p24 h => ?_)
      refine lv_aload_n hx hb dX11_law_27 rfl (lv_at hl 0 rfl) ?_
      refine r_get E h 2 (v := .ref (a 3)) (eX_0 cy a τ24) rfl fw_X11 (by decide) fl_X11_28 rfl dX11_law_28 ?_
      refine r_get E h 4 (v := .ref (a 23)) (eX_3 cy a τ24) rfl fw_X4 (by decide) fl_X11_179 rfl dX11_law_31 ?_
      refine lv_iload_n hx hb dX11_law_34 rfl (lv_at hl 2 rfl) ?_
      refine r_iald E h (f := τ24.2.1 23) (eX_23 cy a τ24) (in_W (n := 7) (p11.2.t c14)) dX11_law_35 ?_
      exact t_i E h hr hk p24.1 dX11_law_36
    · refine lv_iconst (v := -1) hx hb dX11_law_17 (by decide) ?_
      exact t_i E h hr hk K.rf dX11_law_18

set_option maxHeartbeats 4000000 in
set_option maxRecDepth 100000 in
theorem c_X11_shut (l : Launch) (D : va_G) (cy : Nat → ClassId) (a : Nat → Nat) (σ : St) (x : Int32) (g : GX σ) : CI l yX11_shut cX11_shut 2 (some .int) (rmOf 2 43) D cy (wX cy a) (AX a) [.ref (a 0), .int x] σ (fun _ τ => K cF [18, 19, 20, 21, 22, 29, 30, 31, 33, 34, 35, 36, 38, 39, 40, 41, 42, 43, 44, 46, 47, 48, 49, 50, 51, 52, 53, 54, 55, 56, 57, 58, 59] σ τ) := by
  refine c_of (lv := [(0, .ref (a 0)), (1, .int x)]) rfl (Nat.le_of_ble_eq_true rfl) rfl ?_
  intro p e s m args below meth c ls E h hr hk hl
  have hx := E.1
  have hb := E.2.1
  obtain ⟨n, hn8, hn, hN⟩ := gx_no g
  refine lv_aload_n hx hb dX11_shut_0 rfl (lv_at hl 0 rfl) ?_
  refine r_get E h 6 (v := .ref (a 8)) (eX_0 cy a σ) rfl fw_X11 (by decide) fl_X11_56 rfl dX11_shut_1 ?_
  refine lv_iload_n hx hb dX11_shut_4 rfl (lv_at hl 1 rfl) ?_
  refine k_i h (q_runV (As := [.int x]) (rest := []) E h (c_X6_has l D cy a σ x) co_X6_has ml_X11_143 im_X6_has se_X6_has in_X6 (eX_8 cy a σ) rfl ok_X6_has rfl ⟨by decide, by decide⟩ hl.1 rfl (Nat.le_of_ble_eq_true rfl) dX11_shut_5 ⟨Nat.zero_le _, Nat.zero_le _⟩) (wX_fst cy a) (fun r5 τ5 H locs p5 h => ?_)
  rw [p5.1] at h
  refine lv_if_ne (tgt := 18) hx hb dX11_shut_8 (by decide) (fun c8 => ?_) (fun c8 => ?_)
  · obtain ⟨i, hi, hi8, rfl⟩ := z_in (p5.2.t c8).1 (hn ▸ (p5.2.t c8).2) hn8 (by decide)
    refine lv_aload_n hx hb dX11_shut_18 rfl (lv_at hl 0 rfl) ?_
    refine r_get E h 6 (v := .ref (a 8)) (eX_0 cy a σ) rfl fw_X11 (by decide) fl_X11_56 rfl dX11_shut_19 ?_
    refine lv_iload_n hx hb dX11_shut_22 rfl (lv_at hl 1 rfl) ?_
    refine lv_aload_n hx hb dX11_shut_23 rfl (lv_at hl 0 rfl) ?_
    refine r_get E h 12 (v := .int (σ.1 1)) (eX_0 cy a σ) rfl fw_X11 (by decide) fl_X11_130 rfl dX11_shut_24 ?_
    refine k_v h (q_runV (As := [.int (nI i), .int (σ.1 1)]) (rest := []) E h (c_X6_close l D cy a σ i (σ.1 1) hi8) co_X6_close ml_X11_144 im_X6_close se_X6_close in_X6 (eX_8 cy a σ) rfl ok_X6_close rfl ⟨by decide, by decide⟩ hl.1 rfl (Nat.le_of_ble_eq_true rfl) dX11_shut_27 ⟨Nat.zero_le _, Nat.zero_le _⟩) (wX_fst cy a) (fun τ27 H locs p27 h => ?_)
    refine lv_aload_n hx hb dX11_shut_30 rfl (lv_at hl 0 rfl) ?_
    refine lv_iconst (v := 0) hx hb dX11_shut_31 (by decide) ?_
    refine k_i h (q_runV (As := [.int 0]) (rest := []) E h (c_X11_told l D cy a τ27 0) co_X11_told ml_X11_90 im_X11_told se_X11_told in_X11 (eX_0 cy a τ27) rfl ok_X11_told rfl ⟨by decide, by decide⟩ hl.1 rfl (Nat.le_of_ble_eq_true rfl) dX11_shut_32 ⟨Nat.zero_le _, Nat.zero_le _⟩) (wX_fst cy a) (fun r32 τ32 H locs p32 h => ?_)
    exact t_i E h hr hk (by obtain ⟨v, e⟩ := p27; rw [p32.2, e]; exact (K.rf.R 45 _ (by decide)).F 2 _ (by decide)) dX11_shut_35
  · refine lv_aload_n hx hb dX11_shut_11 rfl (lv_at hl 0 rfl) ?_
    refine lv_bipush (v := -2) hx hb dX11_shut_12 (by decide) ?_
    refine k_i h (q_runV (As := [.int (-2)]) (rest := []) E h (c_X11_told l D cy a σ (-2)) co_X11_told ml_X11_90 im_X11_told se_X11_told in_X11 (eX_0 cy a σ) rfl ok_X11_told rfl ⟨by decide, by decide⟩ hl.1 rfl (Nat.le_of_ble_eq_true rfl) dX11_shut_14 ⟨Nat.zero_le _, Nat.zero_le _⟩) (wX_fst cy a) (fun r14 τ14 H locs p14 h => ?_)
    exact t_i E h hr hk (by rw [p14.2]; exact K.rf.F 2 _ (by decide)) dX11_shut_17

set_option maxHeartbeats 4000000 in
set_option maxRecDepth 100000 in
theorem c_X11_lives (l : Launch) (D : va_G) (cy : Nat → ClassId) (a : Nat → Nat) (σ : St) (x y w : Int32) (g : GX σ) : CI l yX11_lives cX11_lives 4 (some .int) (rmOf 3 66) D cy (wX cy a) (AX a) [.ref (a 0), .int x, .int y, .int w] σ (fun _ τ => K cF cA σ τ) := by
  refine c_of (lv := [(0, .ref (a 0)), (1, .int x), (2, .int y), (3, .int w)]) rfl (Nat.le_of_ble_eq_true rfl) rfl ?_
  intro p e s m args below meth c ls E h hr hk hl
  have hx := E.1
  have hb := E.2.1
  obtain ⟨n, hn8, hn, hN⟩ := gx_no g
  refine lv_aload_n hx hb dX11_lives_0 rfl (lv_at hl 0 rfl) ?_
  refine r_get E h 6 (v := .ref (a 8)) (eX_0 cy a σ) rfl fw_X11 (by decide) fl_X11_56 rfl dX11_lives_1 ?_
  refine lv_iload_n hx hb dX11_lives_4 rfl (lv_at hl 1 rfl) ?_
  refine k_i h (q_runV (As := [.int x]) (rest := []) E h (c_X6_has l D cy a σ x) co_X6_has ml_X11_143 im_X6_has se_X6_has in_X6 (eX_8 cy a σ) rfl ok_X6_has rfl ⟨by decide, by decide⟩ hl.1 rfl (Nat.le_of_ble_eq_true rfl) dX11_lives_5 ⟨Nat.zero_le _, Nat.zero_le _⟩) (wX_fst cy a) (fun r5 τ5 H locs p5 h => ?_)
  rw [p5.1] at h
  refine lv_if_eq (tgt := 38) hx hb dX11_lives_8 (by decide) (fun c8 => ?_) (fun c8 => ?_)
  · refine lv_iconst (v := -1) hx hb dX11_lives_38 (by decide) ?_
    exact t_i E h hr hk K.rf dX11_lives_39
  · obtain ⟨i, hi, hi8, rfl⟩ := z_in (p5.2.t c8).1 (hn ▸ (p5.2.t c8).2) hn8 (by decide)
    refine lv_iload_n hx hb dX11_lives_11 rfl (lv_at hl 2 rfl) ?_
    refine k_i h (q_runS (As := [.int y]) (rest := []) E h (c_X11_isYear l D cy a σ y) co_X11_isYear ml_X11_97 st_X11_isYear in_X11 rfl ok_X11_isYear rfl ⟨by decide, by decide⟩ hl.1 rfl (Nat.le_of_ble_eq_true rfl) dX11_lives_12 ⟨Nat.zero_le _, Nat.zero_le _⟩) (wX_fst cy a) (fun r12 τ12 H locs p12 h => ?_)
    rw [p12.1] at h
    refine lv_if_eq (tgt := 38) hx hb dX11_lives_15 (by decide) (fun c15 => ?_) (fun c15 => ?_)
    · refine lv_iconst (v := -1) hx hb dX11_lives_38 (by decide) ?_
      exact t_i E h hr hk K.rf dX11_lives_39
    · refine lv_iload_n hx hb dX11_lives_18 rfl (lv_at hl 3 rfl) ?_
      refine k_i h (q_runS (As := [.int w]) (rest := []) E h (c_X11_isYear l D cy a σ w) co_X11_isYear ml_X11_97 st_X11_isYear in_X11 rfl ok_X11_isYear rfl ⟨by decide, by decide⟩ hl.1 rfl (Nat.le_of_ble_eq_true rfl) dX11_lives_19 ⟨Nat.zero_le _, Nat.zero_le _⟩) (wX_fst cy a) (fun r19 τ19 H locs p19 h => ?_)
      rw [p19.1] at h
      refine lv_if_eq (tgt := 38) hx hb dX11_lives_22 (by decide) (fun c22 => ?_) (fun c22 => ?_)
      · refine lv_iconst (v := -1) hx hb dX11_lives_38 (by decide) ?_
        exact t_i E h hr hk K.rf dX11_lives_39
      · refine lv_aload_n hx hb dX11_lives_25 rfl (lv_at hl 0 rfl) ?_
        refine r_get E h 6 (v := .ref (a 8)) (eX_0 cy a σ) rfl fw_X11 (by decide) fl_X11_56 rfl dX11_lives_26 ?_
        refine r_get E h 1 (v := .ref (a 42)) (eX_8 cy a σ) rfl fw_X6 (by decide) fl_X11_182 rfl dX11_lives_29 ?_
        refine lv_iload_n hx hb dX11_lives_32 rfl (lv_at hl 1 rfl) ?_
        refine r_ialdN E h (f := σ.2.1 42) (eX_42 cy a σ) (j := i) hi8 (by decide) (v := σ.2.1 42 i) rfl dX11_lives_33 ?_
        refine lv_iconst (v := 2) hx hb dX11_lives_34 (by decide) ?_
        refine lv_icmp_eq (tgt := 40) hx hb dX11_lives_35 (by decide) (fun c35 => ?_) (fun c35 => ?_)
        · refine lv_aload_n hx hb dX11_lives_40 rfl (lv_at hl 0 rfl) ?_
          refine r_get E h 9 (v := .ref (a 16)) (eX_0 cy a σ) rfl fw_X11 (by decide) fl_X11_77 rfl dX11_lives_41 ?_
          refine lv_iload_n hx hb dX11_lives_44 rfl (lv_at hl 2 rfl) ?_
          refine lv_iload_n hx hb dX11_lives_45 rfl (lv_at hl 3 rfl) ?_
          refine k_v h (q_runV (As := [.int y, .int w]) (rest := []) E h (c_X2_prepare l D cy a σ y w g) co_X2_prepare ml_X11_185 im_X2_prepare se_X2_prepare in_X2 (eX_16 cy a σ) rfl ok_X2_prepare rfl ⟨by decide, by decide⟩ hl.1 rfl (Nat.le_of_ble_eq_true rfl) dX11_lives_46 ⟨Nat.zero_le _, Nat.zero_le _⟩) (wX_fst cy a) (fun τ46 H locs p46 h => ?_)
          refine lv_aload_n hx hb dX11_lives_49 rfl (lv_at hl 0 rfl) ?_
          refine r_get E h 9 (v := .ref (a 16)) (eX_0 cy a τ46) rfl fw_X11 (by decide) fl_X11_77 rfl dX11_lives_50 ?_
          refine lv_iload_n hx hb dX11_lives_53 rfl (lv_at hl 1 rfl) ?_
          refine k_i h (q_runV (As := [.int (nI i)]) (rest := []) E h (c_X2_isLiving l D cy a τ46 i hi8 (by rw [p46.1.2 43 (by decide)]; exact (hN i hi).1 c35)) co_X2_isLiving ml_X11_188 im_X2_isLiving se_X2_isLiving in_X2 (eX_16 cy a τ46) rfl ok_X2_isLiving rfl ⟨by decide, by decide⟩ hl.1 rfl (Nat.le_of_ble_eq_true rfl) dX11_lives_54 ⟨Nat.zero_le _, Nat.zero_le _⟩) (wX_fst cy a) (fun r54 τ54 H locs p54 h => ?_)
          rw [p54.1] at h
          refine lv_if_eq (tgt := 64) hx hb dX11_lives_57 (by decide) (fun c57 => ?_) (fun c57 => ?_)
          · refine lv_iconst (v := 0) hx hb dX11_lives_64 (by decide) ?_
            exact t_i E h hr hk p46.1 dX11_lives_65
          · refine lv_iconst (v := 1) hx hb dX11_lives_60 (by decide) ?_
            refine lv_goto (tgt := 65) hx hb dX11_lives_61 (by decide) ?_
            exact t_i E h hr hk p46.1 dX11_lives_65
        · refine lv_iconst (v := -1) hx hb dX11_lives_38 (by decide) ?_
          exact t_i E h hr hk K.rf dX11_lives_39

set_option maxHeartbeats 4000000 in
set_option maxRecDepth 100000 in
theorem c_X11_gets (l : Launch) (D : va_G) (cy : Nat → ClassId) (a : Nat → Nat) (σ : St) (x y w : Int32) (g : GX σ) : CI l yX11_gets cX11_gets 4 (some .int) (rmOf 6 138) D cy (wX cy a) (AX a) [.ref (a 0), .int x, .int y, .int w] σ (fun _ τ => K cF cA σ τ) := by
  refine c_of (lv := [(0, .ref (a 0)), (1, .int x), (2, .int y), (3, .int w)]) rfl (Nat.le_of_ble_eq_true rfl) rfl ?_
  intro p e s m args below meth c ls E h hr hk hl
  have hx := E.1
  have hb := E.2.1
  obtain ⟨n, hn8, hn, hN⟩ := gx_no g
  refine lv_aload_n hx hb dX11_gets_0 rfl (lv_at hl 0 rfl) ?_
  refine r_get E h 6 (v := .ref (a 8)) (eX_0 cy a σ) rfl fw_X11 (by decide) fl_X11_56 rfl dX11_gets_1 ?_
  refine lv_iload_n hx hb dX11_gets_4 rfl (lv_at hl 1 rfl) ?_
  refine k_i h (q_runV (As := [.int x]) (rest := []) E h (c_X6_has l D cy a σ x) co_X6_has ml_X11_143 im_X6_has se_X6_has in_X6 (eX_8 cy a σ) rfl ok_X6_has rfl ⟨by decide, by decide⟩ hl.1 rfl (Nat.le_of_ble_eq_true rfl) dX11_gets_5 ⟨Nat.zero_le _, Nat.zero_le _⟩) (wX_fst cy a) (fun r5 τ5 H locs p5 h => ?_)
  rw [p5.1] at h
  refine lv_if_eq (tgt := 25) hx hb dX11_gets_8 (by decide) (fun c8 => ?_) (fun c8 => ?_)
  · refine lv_iconst (v := -1) hx hb dX11_gets_25 (by decide) ?_
    exact t_i E h hr hk K.rf dX11_gets_26
  · obtain ⟨i, hi, hi8, rfl⟩ := z_in (p5.2.t c8).1 (hn ▸ (p5.2.t c8).2) hn8 (by decide)
    refine lv_iload_n hx hb dX11_gets_11 rfl (lv_at hl 2 rfl) ?_
    refine k_i h (q_runS (As := [.int y]) (rest := []) E h (c_X11_isYear l D cy a σ y) co_X11_isYear ml_X11_97 st_X11_isYear in_X11 rfl ok_X11_isYear rfl ⟨by decide, by decide⟩ hl.1 rfl (Nat.le_of_ble_eq_true rfl) dX11_gets_12 ⟨Nat.zero_le _, Nat.zero_le _⟩) (wX_fst cy a) (fun r12 τ12 H locs p12 h => ?_)
    rw [p12.1] at h
    refine lv_if_eq (tgt := 25) hx hb dX11_gets_15 (by decide) (fun c15 => ?_) (fun c15 => ?_)
    · refine lv_iconst (v := -1) hx hb dX11_gets_25 (by decide) ?_
      exact t_i E h hr hk K.rf dX11_gets_26
    · refine lv_iload_n hx hb dX11_gets_18 rfl (lv_at hl 3 rfl) ?_
      refine k_i h (q_runS (As := [.int w]) (rest := []) E h (c_X11_isYear l D cy a σ w) co_X11_isYear ml_X11_97 st_X11_isYear in_X11 rfl ok_X11_isYear rfl ⟨by decide, by decide⟩ hl.1 rfl (Nat.le_of_ble_eq_true rfl) dX11_gets_19 ⟨Nat.zero_le _, Nat.zero_le _⟩) (wX_fst cy a) (fun r19 τ19 H locs p19 h => ?_)
      rw [p19.1] at h
      refine lv_if_ne (tgt := 27) hx hb dX11_gets_22 (by decide) (fun c22 => ?_) (fun c22 => ?_)
      · refine lv_aload_n hx hb dX11_gets_27 rfl (lv_at hl 0 rfl) ?_
        refine r_get E h 9 (v := .ref (a 16)) (eX_0 cy a σ) rfl fw_X11 (by decide) fl_X11_77 rfl dX11_gets_28 ?_
        refine lv_iload_n hx hb dX11_gets_31 rfl (lv_at hl 2 rfl) ?_
        refine lv_iload_n hx hb dX11_gets_32 rfl (lv_at hl 3 rfl) ?_
        refine k_v h (q_runV (As := [.int y, .int w]) (rest := []) E h (c_X2_run l D cy a σ y w g) co_X2_run ml_X11_191 im_X2_run se_X2_run in_X2 (eX_16 cy a σ) rfl ok_X2_run rfl ⟨by decide, by decide⟩ hl.1 rfl (Nat.le_of_ble_eq_true rfl) dX11_gets_33 ⟨Nat.zero_le _, Nat.zero_le _⟩) (wX_fst cy a) (fun τ33 H locs p33 h => ?_)
        refine lv_aload_n hx hb dX11_gets_36 rfl (lv_at hl 0 rfl) ?_
        refine r_get E h 9 (v := .ref (a 16)) (eX_0 cy a τ33) rfl fw_X11 (by decide) fl_X11_77 rfl dX11_gets_37 ?_
        refine r_get E h 11 (v := .ref (a 73)) (eX_16 cy a τ33) rfl fw_X2 (by decide) fl_X11_194 rfl dX11_gets_40 ?_
        refine lv_iload_n hx hb dX11_gets_43 rfl (lv_at hl 1 rfl) ?_
        refine r_ialdN E h (f := τ33.2.1 73) (eX_73 cy a τ33) (j := i) hi8 (by decide) (v := τ33.2.1 73 i) rfl dX11_gets_44 ?_
        exact t_i E h hr hk p33.1 dX11_gets_45
      · refine lv_iconst (v := -1) hx hb dX11_gets_25 (by decide) ?_
        exact t_i E h hr hk K.rf dX11_gets_26

set_option maxHeartbeats 4000000 in
set_option maxRecDepth 100000 in
theorem c_X11_dry (l : Launch) (D : va_G) (cy : Nat → ClassId) (a : Nat → Nat) (σ : St) (x y w : Int32) (g : GX σ) : CI l yX11_dry cX11_dry 4 (some .int) (rmOf 6 138) D cy (wX cy a) (AX a) [.ref (a 0), .int x, .int y, .int w] σ (fun _ τ => K cF cA σ τ) := by
  refine c_of (lv := [(0, .ref (a 0)), (1, .int x), (2, .int y), (3, .int w)]) rfl (Nat.le_of_ble_eq_true rfl) rfl ?_
  intro p e s m args below meth c ls E h hr hk hl
  have hx := E.1
  have hb := E.2.1
  refine lv_iload_n hx hb dX11_dry_0 rfl (lv_at hl 1 rfl) ?_
  refine k_i h (q_runS (As := [.int x]) (rest := []) E h (c_X11_isQuarter l D cy a σ x) co_X11_isQuarter ml_X11_124 st_X11_isQuarter in_X11 rfl ok_X11_isQuarter rfl ⟨by decide, by decide⟩ hl.1 rfl (Nat.le_of_ble_eq_true rfl) dX11_dry_1 ⟨Nat.zero_le _, Nat.zero_le _⟩) (wX_fst cy a) (fun r1 τ1 H locs p1 h => ?_)
  rw [p1.1] at h
  refine lv_if_eq (tgt := 21) hx hb dX11_dry_4 (by decide) (fun c4 => ?_) (fun c4 => ?_)
  · refine lv_iconst (v := -1) hx hb dX11_dry_21 (by decide) ?_
    exact t_i E h hr hk K.rf dX11_dry_22
  · obtain ⟨i, hi8, rfl⟩ := vp_in_of (in_W (n := 7) (p1.2.t c4)) (by decide)
    refine lv_iload_n hx hb dX11_dry_7 rfl (lv_at hl 2 rfl) ?_
    refine k_i h (q_runS (As := [.int y]) (rest := []) E h (c_X11_isYear l D cy a σ y) co_X11_isYear ml_X11_97 st_X11_isYear in_X11 rfl ok_X11_isYear rfl ⟨by decide, by decide⟩ hl.1 rfl (Nat.le_of_ble_eq_true rfl) dX11_dry_8 ⟨Nat.zero_le _, Nat.zero_le _⟩) (wX_fst cy a) (fun r8 τ8 H locs p8 h => ?_)
    rw [p8.1] at h
    refine lv_if_eq (tgt := 21) hx hb dX11_dry_11 (by decide) (fun c11 => ?_) (fun c11 => ?_)
    · refine lv_iconst (v := -1) hx hb dX11_dry_21 (by decide) ?_
      exact t_i E h hr hk K.rf dX11_dry_22
    · refine lv_iload_n hx hb dX11_dry_14 rfl (lv_at hl 3 rfl) ?_
      refine k_i h (q_runS (As := [.int w]) (rest := []) E h (c_X11_isYear l D cy a σ w) co_X11_isYear ml_X11_97 st_X11_isYear in_X11 rfl ok_X11_isYear rfl ⟨by decide, by decide⟩ hl.1 rfl (Nat.le_of_ble_eq_true rfl) dX11_dry_15 ⟨Nat.zero_le _, Nat.zero_le _⟩) (wX_fst cy a) (fun r15 τ15 H locs p15 h => ?_)
      rw [p15.1] at h
      refine lv_if_ne (tgt := 23) hx hb dX11_dry_18 (by decide) (fun c18 => ?_) (fun c18 => ?_)
      · refine lv_aload_n hx hb dX11_dry_23 rfl (lv_at hl 0 rfl) ?_
        refine r_get E h 9 (v := .ref (a 16)) (eX_0 cy a σ) rfl fw_X11 (by decide) fl_X11_77 rfl dX11_dry_24 ?_
        refine lv_iload_n hx hb dX11_dry_27 rfl (lv_at hl 2 rfl) ?_
        refine lv_iload_n hx hb dX11_dry_28 rfl (lv_at hl 3 rfl) ?_
        refine k_v h (q_runV (As := [.int y, .int w]) (rest := []) E h (c_X2_run l D cy a σ y w g) co_X2_run ml_X11_191 im_X2_run se_X2_run in_X2 (eX_16 cy a σ) rfl ok_X2_run rfl ⟨by decide, by decide⟩ hl.1 rfl (Nat.le_of_ble_eq_true rfl) dX11_dry_29 ⟨Nat.zero_le _, Nat.zero_le _⟩) (wX_fst cy a) (fun τ29 H locs p29 h => ?_)
        refine lv_aload_n hx hb dX11_dry_32 rfl (lv_at hl 0 rfl) ?_
        refine r_get E h 9 (v := .ref (a 16)) (eX_0 cy a τ29) rfl fw_X11 (by decide) fl_X11_77 rfl dX11_dry_33 ?_
        refine k_v h (q_runV (As := []) (rest := []) E h (c_X2_weighQuarters l D cy a τ29 (g.kept p29.1)) co_X2_weighQuarters ml_X11_201 im_X2_weighQuarters se_X2_weighQuarters in_X2 (eX_16 cy a τ29) rfl ok_X2_weighQuarters rfl ⟨by decide, by decide⟩ hl.1 rfl (Nat.le_of_ble_eq_true rfl) dX11_dry_36 ⟨Nat.zero_le _, Nat.zero_le _⟩) (wX_fst cy a) (fun τ36 H locs p36 h => ?_)
        refine lv_aload_n hx hb dX11_dry_39 rfl (lv_at hl 0 rfl) ?_
        refine r_get E h 9 (v := .ref (a 16)) (eX_0 cy a τ36) rfl fw_X11 (by decide) fl_X11_77 rfl dX11_dry_40 ?_
        refine lv_iload_n hx hb dX11_dry_43 rfl (lv_at hl 1 rfl) ?_
        refine k_i h (q_runV (As := [.int (nI i)]) (rest := []) E h (c_X2_isDry l D cy a τ36 i hi8) co_X2_isDry ml_X11_204 im_X2_isDry se_X2_isDry in_X2 (eX_16 cy a τ36) rfl ok_X2_isDry rfl ⟨by decide, by decide⟩ hl.1 rfl (Nat.le_of_ble_eq_true rfl) dX11_dry_44 ⟨Nat.zero_le _, Nat.zero_le _⟩) (wX_fst cy a) (fun r44 τ44 H locs p44 h => ?_)
        rw [p44.1] at h
        refine lv_if_eq (tgt := 54) hx hb dX11_dry_47 (by decide) (fun c47 => ?_) (fun c47 => ?_)
        · refine lv_iconst (v := 0) hx hb dX11_dry_54 (by decide) ?_
          exact t_i E h hr hk (p29.1.tr (k2 p36)) dX11_dry_55
        · refine lv_iconst (v := 1) hx hb dX11_dry_50 (by decide) ?_
          refine lv_goto (tgt := 55) hx hb dX11_dry_51 (by decide) ?_
          exact t_i E h hr hk (p29.1.tr (k2 p36)) dX11_dry_55
      · refine lv_iconst (v := -1) hx hb dX11_dry_21 (by decide) ?_
        exact t_i E h hr hk K.rf dX11_dry_22

set_option maxHeartbeats 4000000 in
set_option maxRecDepth 100000 in
theorem c_X11_found (l : Launch) (D : va_G) (cy : Nat → ClassId) (a : Nat → Nat) (σ : St) (x y : Int32) (g : GX σ) : CI l yX11_found cX11_found 3 (some .int) (rmOf 6 138) D cy (wX cy a) (AX a) [.ref (a 0), .int x, .int y] σ (fun _ τ => K cF cA σ τ) := by
  refine c_of (lv := [(0, .ref (a 0)), (1, .int x), (2, .int y)]) rfl (Nat.le_of_ble_eq_true rfl) rfl ?_
  intro p e s m args below meth c ls E h hr hk hl
  have hx := E.1
  have hb := E.2.1
  obtain ⟨n, hn2, hn, hN⟩ := gx_ca g
  refine lv_aload_n hx hb dX11_found_0 rfl (lv_at hl 0 rfl) ?_
  refine r_get E h 5 (v := .ref (a 7)) (eX_0 cy a σ) rfl fw_X11 (by decide) fl_X11_49 rfl dX11_found_1 ?_
  refine lv_iload_n hx hb dX11_found_4 rfl (lv_at hl 1 rfl) ?_
  refine k_i h (q_runV (As := [.int x]) (rest := []) E h (c_X0_has l D cy a σ x) co_X0_has ml_X11_127 im_X0_has se_X0_has in_X0 (eX_7 cy a σ) rfl ok_X0_has rfl ⟨by decide, by decide⟩ hl.1 rfl (Nat.le_of_ble_eq_true rfl) dX11_found_5 ⟨Nat.zero_le _, Nat.zero_le _⟩) (wX_fst cy a) (fun r5 τ5 H locs p5 h => ?_)
  rw [p5.1] at h
  refine lv_if_eq (tgt := 18) hx hb dX11_found_8 (by decide) (fun c8 => ?_) (fun c8 => ?_)
  · refine lv_iconst (v := -1) hx hb dX11_found_18 (by decide) ?_
    exact t_i E h hr hk K.rf dX11_found_19
  · obtain ⟨i, hi, hi2, rfl⟩ := z_in (p5.2.t c8).1 (hn ▸ (p5.2.t c8).2) hn2 (by decide)
    refine lv_iload_n hx hb dX11_found_11 rfl (lv_at hl 2 rfl) ?_
    refine k_i h (q_runS (As := [.int y]) (rest := []) E h (c_X11_isYear l D cy a σ y) co_X11_isYear ml_X11_97 st_X11_isYear in_X11 rfl ok_X11_isYear rfl ⟨by decide, by decide⟩ hl.1 rfl (Nat.le_of_ble_eq_true rfl) dX11_found_12 ⟨Nat.zero_le _, Nat.zero_le _⟩) (wX_fst cy a) (fun r12 τ12 H locs p12 h => ?_)
    rw [p12.1] at h
    refine lv_if_ne (tgt := 20) hx hb dX11_found_15 (by decide) (fun c15 => ?_) (fun c15 => ?_)
    · refine lv_aload_n hx hb dX11_found_20 rfl (lv_at hl 0 rfl) ?_
      refine r_get E h 9 (v := .ref (a 16)) (eX_0 cy a σ) rfl fw_X11 (by decide) fl_X11_77 rfl dX11_found_21 ?_
      refine lv_iload_n hx hb dX11_found_24 rfl (lv_at hl 2 rfl) ?_
      refine lv_aload_n hx hb dX11_found_25 rfl (lv_at hl 0 rfl) ?_
      refine r_get E h 12 (v := .int (σ.1 1)) (eX_0 cy a σ) rfl fw_X11 (by decide) fl_X11_130 rfl dX11_found_26 ?_
      refine k_v h (q_runV (As := [.int y, .int (σ.1 1)]) (rest := []) E h (c_X2_run l D cy a σ y (σ.1 1) g) co_X2_run ml_X11_191 im_X2_run se_X2_run in_X2 (eX_16 cy a σ) rfl ok_X2_run rfl ⟨by decide, by decide⟩ hl.1 rfl (Nat.le_of_ble_eq_true rfl) dX11_found_29 ⟨Nat.zero_le _, Nat.zero_le _⟩) (wX_fst cy a) (fun τ29 H locs p29 h => ?_)
      refine lv_aload_n hx hb dX11_found_32 rfl (lv_at hl 0 rfl) ?_
      refine r_get E h 9 (v := .ref (a 16)) (eX_0 cy a τ29) rfl fw_X11 (by decide) fl_X11_77 rfl dX11_found_33 ?_
      refine lv_iload_n hx hb dX11_found_36 rfl (lv_at hl 1 rfl) ?_
      refine k_i h (q_runV (As := [.int (nI i)]) (rest := []) E h (c_X2_leastMissing l D cy a τ29 i hi2) co_X2_leastMissing ml_X11_207 im_X2_leastMissing se_X2_leastMissing in_X2 (eX_16 cy a τ29) rfl ok_X2_leastMissing rfl ⟨by decide, by decide⟩ hl.1 rfl (Nat.le_of_ble_eq_true rfl) dX11_found_37 ⟨Nat.zero_le _, Nat.zero_le _⟩) (wX_fst cy a) (fun r37 τ37 H locs p37 h => ?_)
      rw [p37.1] at h
      exact t_i E h hr hk p29.1 dX11_found_40
    · refine lv_iconst (v := -1) hx hb dX11_found_18 (by decide) ?_
      exact t_i E h hr hk K.rf dX11_found_19

set_option maxHeartbeats 4000000 in
set_option maxRecDepth 100000 in
theorem c_X11_rent (l : Launch) (D : va_G) (cy : Nat → ClassId) (a : Nat → Nat) (σ : St) (x y : Int32) (g : GX σ) : CL l yX11_rent cX11_rent 6 (some .long) (rmOf 6 142) D cy (wX cy a) (AX a) [.ref (a 0), .int x, .int y] σ (fun _ τ => K cF cA σ τ) := by
  refine c_of (lv := [(0, .ref (a 0)), (1, .int x), (2, .int y)]) rfl (Nat.le_of_ble_eq_true rfl) rfl ?_
  intro p e s m args below meth c ls E h hr hk hl
  have hx := E.1
  have hb := E.2.1
  obtain ⟨n, hn2, hn⟩ := g.2.2.2.2.2.2.1.2.2.1
  obtain ⟨m9, hm9, hm⟩ := g.2.2.2.2.2.2.1.2.2.2
  refine lv_iload_n hx hb dX11_rent_0 rfl (lv_at hl 2 rfl) ?_
  refine k_i h (q_runS (As := [.int y]) (rest := []) E h (c_X11_isYear l D cy a σ y) co_X11_isYear ml_X11_97 st_X11_isYear in_X11 rfl ok_X11_isYear rfl ⟨by decide, by decide⟩ hl.1 rfl (Nat.le_of_ble_eq_true rfl) dX11_rent_1 ⟨Nat.zero_le _, Nat.zero_le _⟩) (wX_fst cy a) (fun r1 τ1 H locs p1 h => ?_)
  rw [p1.1] at h
  refine lv_if_ne (tgt := 11) hx hb dX11_rent_4 (by decide) (fun c4 => ?_) (fun c4 => ?_)
  · refine lv_aload_n hx hb dX11_rent_11 rfl (lv_at hl 0 rfl) ?_
    refine lv_iload_n hx hb dX11_rent_12 rfl (lv_at hl 1 rfl) ?_
    refine k_i h (q_runV (As := [.int x]) (rest := []) E h (c_X11_isPerson l D cy a σ x) co_X11_isPerson ml_X11_118 im_X11_isPerson se_X11_isPerson in_X11 (eX_0 cy a σ) rfl ok_X11_isPerson rfl ⟨by decide, by decide⟩ hl.1 rfl (Nat.le_of_ble_eq_true rfl) dX11_rent_13 ⟨Nat.zero_le _, Nat.zero_le _⟩) (wX_fst cy a) (fun r13 τ13 H locs p13 h => ?_)
    rw [p13.1] at h
    refine lv_if_ne (tgt := 23) hx hb dX11_rent_16 (by decide) (fun c16 => ?_) (fun c16 => ?_)
    · have hx4 : vp_in x 40 := by
        obtain ⟨i, hi, hi4, e9⟩ := z_in (p13.2.t c16).1 (hm ▸ (p13.2.t c16).2) hm9 (by decide)
        rw [e9]; exact vp_in_nI hi4 (by decide)
      refine lv_lconst (v := 0) hx hb dX11_rent_23 (by decide) ?_
      refine lv_lstore_n (lv' := [(3, .long 0), (0, .ref (a 0)), (1, .int x), (2, .int y)]) hx hb dX11_rent_24 rfl hl (by decide) rfl (fun ls hl => ?_)
      refine lv_iconst (v := 0) hx hb dX11_rent_25 (by decide) ?_
      refine lv_istore (lv' := [(5, .int 0), (3, .long 0), (0, .ref (a 0)), (1, .int x), (2, .int y)]) hx hb dX11_rent_26 hl (by decide) rfl (fun ls hl => ?_)
      have lp28 : ∀ (f : Nat) (k : Nat) (u : Int64) (τ : St) (H : Heap) (locs : List Loc) (ls : Array Slot), (k ≤ n ∧ K cF cA σ τ) → (n - k) < f → HW D (AX a) s (wX cy a τ) H locs → lv_has ls 6 [(5, .int (nI k)), (3, .long u), (0, .ref (a 0)), (1, .int x), (2, .int y)] → W p l e (rmOf 6 142) s m args below meth c H locs 0 0 (MQ below (va_Ql (fun _ τ => K cF cA σ τ) (fun u t => va_P D vwCl (wX cy a u) t.heap) (AX a)) args s 0 0 (AX a)) (F0 m 28 ls []) := by
        intro f
        induction f with
        | zero => intro k u τ H locs ls _ hf; exact absurd hf (Nat.not_lt_zero _)
        | succ f ih28 =>
          intro k u τ H locs ls hi28 hf28 h hl
          refine lv_iload hx hb dX11_rent_28 (lv_at hl 0 rfl) ?_
          refine lv_aload_n hx hb dX11_rent_30 rfl (lv_at hl 2 rfl) ?_
          refine r_get E h 12 (v := .int (nI n)) (eX_0 cy a τ) rfl fw_X11 (by decide) fl_X11_130 (congrArg (fun z => some (Value.int z)) ((hi28.2.1 1 (by decide)).trans hn)) dX11_rent_31 ?_
          refine lv_icmp_ge (tgt := 57) hx hb dX11_rent_34 (by decide) (fun c34 => ?_) (fun c34 => ?_)
          · refine lv_lload_n hx hb dX11_rent_57 rfl (lv_at hl 1 rfl) ?_
            exact t_l E h hr hk hi28.2 dX11_rent_58
          · have c34 : k < n := Nat.lt_of_not_le fun q9 => c34 ((nI_leI (a := n) (b := k) (by omega) (by omega)).mpr q9)
            refine lv_lload_n hx hb dX11_rent_37 rfl (lv_at hl 1 rfl) ?_
            refine lv_aload_n hx hb dX11_rent_38 rfl (lv_at hl 2 rfl) ?_
            refine r_get E h 9 (v := .ref (a 16)) (eX_0 cy a τ) rfl fw_X11 (by decide) fl_X11_77 rfl dX11_rent_39 ?_
            refine lv_iload_n hx hb dX11_rent_42 rfl (lv_at hl 3 rfl) ?_
            refine lv_iload hx hb dX11_rent_43 (lv_at hl 0 rfl) ?_
            refine lv_iload_n hx hb dX11_rent_45 rfl (lv_at hl 4 rfl) ?_
            refine k_l h (q_runV (As := [.int x, .int (nI k), .int y]) (rest := [.long u]) E h (c_X2_rentOf l D cy a τ x (nI k) y (g.kept hi28.2) hx4) co_X2_rentOf ml_X11_221 im_X2_rentOf se_X2_rentOf in_X2 (eX_16 cy a τ) rfl ok_X2_rentOf rfl ⟨by decide, by decide⟩ hl.1 rfl (Nat.le_of_ble_eq_true rfl) dX11_rent_46 ⟨Nat.zero_le _, Nat.zero_le _⟩) (wX_fst cy a) (fun r46 τ46 H locs p46 h => ?_)
            refine lv_ladd hx hb dX11_rent_49 ?_
            refine lv_lstore_n (lv' := [(3, .long (u + r46)), (5, .int (nI k)), (0, .ref (a 0)), (1, .int x), (2, .int y)]) hx hb dX11_rent_50 rfl hl (by decide) rfl (fun ls hl => ?_)
            refine lv_iinc (v := nI (k + 1)) (lv' := [(5, .int (nI (k + 1))), (3, .long (u + r46)), (0, .ref (a 0)), (1, .int x), (2, .int y)]) hx hb dX11_rent_51 hl (k := 1) rfl (nI_succ k).symm (by decide) rfl (fun ls hl => ?_)
            refine lv_goto (tgt := 28) hx hb dX11_rent_54 (by decide) ?_
            exact ih28 (k + 1) (u + r46) τ46 _ _ _ ⟨by omega, hi28.2.tr p46.1⟩ (by omega) h (lv_sub hl [0, 1, 2, 3, 4] rfl)
      exact lp28 _ 0 0 σ _ _ _ ⟨Nat.zero_le _, K.rf⟩ (Nat.lt_succ_self _) h (lv_sub hl [0, 1, 2, 3, 4] rfl)
    · refine lv_ldc2 (v := -2) hx hb E.2.2.2.1 (E.2.2.2.2.1 _ kl_X11_219) dX11_rent_19 ?_
      exact t_l E h hr hk K.rf dX11_rent_22
  · refine lv_ldc2 (v := -1) hx hb E.2.2.2.1 (E.2.2.2.2.1 _ kl_X11_217) dX11_rent_7 ?_
    exact t_l E h hr hk K.rf dX11_rent_10

set_option maxHeartbeats 4000000 in
set_option maxRecDepth 100000 in
theorem c_X11_fines (l : Launch) (D : va_G) (cy : Nat → ClassId) (a : Nat → Nat) (σ : St) (x : Int32) (g : GX σ) : CL l yX11_fines cX11_fines 5 (some .long) (rmOf 6 139) D cy (wX cy a) (AX a) [.ref (a 0), .int x] σ (fun _ τ => K cF cA σ τ) := by
  refine c_of (lv := [(0, .ref (a 0)), (1, .int x)]) rfl (Nat.le_of_ble_eq_true rfl) rfl ?_
  intro p e s m args below meth c ls E h hr hk hl
  have hx := E.1
  have hb := E.2.1
  obtain ⟨n0, hn2, hn, hN⟩ := gx_ca g
  obtain ⟨n, hn9, hm⟩ := g.2.2.2.2.2.2.1.2.2.1
  refine lv_aload_n hx hb dX11_fines_0 rfl (lv_at hl 0 rfl) ?_
  refine r_get E h 5 (v := .ref (a 7)) (eX_0 cy a σ) rfl fw_X11 (by decide) fl_X11_49 rfl dX11_fines_1 ?_
  refine lv_iload_n hx hb dX11_fines_4 rfl (lv_at hl 1 rfl) ?_
  refine k_i h (q_runV (As := [.int x]) (rest := []) E h (c_X0_has l D cy a σ x) co_X0_has ml_X11_127 im_X0_has se_X0_has in_X0 (eX_7 cy a σ) rfl ok_X0_has rfl ⟨by decide, by decide⟩ hl.1 rfl (Nat.le_of_ble_eq_true rfl) dX11_fines_5 ⟨Nat.zero_le _, Nat.zero_le _⟩) (wX_fst cy a) (fun r5 τ5 H locs p5 h => ?_)
  rw [p5.1] at h
  refine lv_if_ne (tgt := 15) hx hb dX11_fines_8 (by decide) (fun c8 => ?_) (fun c8 => ?_)
  · obtain ⟨i, hi, hi2, rfl⟩ := z_in (p5.2.t c8).1 (hn ▸ (p5.2.t c8).2) hn2 (by decide)
    refine lv_lconst (v := 0) hx hb dX11_fines_15 (by decide) ?_
    refine lv_lstore_n (lv' := [(2, .long 0), (0, .ref (a 0)), (1, .int (nI i))]) hx hb dX11_fines_16 rfl hl (by decide) rfl (fun ls hl => ?_)
    refine lv_iconst (v := 0) hx hb dX11_fines_17 (by decide) ?_
    refine lv_istore (lv' := [(4, .int 0), (2, .long 0), (0, .ref (a 0)), (1, .int (nI i))]) hx hb dX11_fines_18 hl (by decide) rfl (fun ls hl => ?_)
    have lp20 : ∀ (f : Nat) (k : Nat) (u : Int64) (τ : St) (H : Heap) (locs : List Loc) (ls : Array Slot), (k ≤ n ∧ K cF cA σ τ) → (n - k) < f → HW D (AX a) s (wX cy a τ) H locs → lv_has ls 5 [(4, .int (nI k)), (2, .long u), (0, .ref (a 0)), (1, .int (nI i))] → W p l e (rmOf 6 139) s m args below meth c H locs 0 0 (MQ below (va_Ql (fun _ τ => K cF cA σ τ) (fun u t => va_P D vwCl (wX cy a u) t.heap) (AX a)) args s 0 0 (AX a)) (F0 m 20 ls []) := by
      intro f
      induction f with
      | zero => intro k u τ H locs ls _ hf; exact absurd hf (Nat.not_lt_zero _)
      | succ f ih20 =>
        intro k u τ H locs ls hi20 hf20 h hl
        refine lv_iload hx hb dX11_fines_20 (lv_at hl 0 rfl) ?_
        refine lv_aload_n hx hb dX11_fines_22 rfl (lv_at hl 2 rfl) ?_
        refine r_get E h 12 (v := .int (nI n)) (eX_0 cy a τ) rfl fw_X11 (by decide) fl_X11_130 (congrArg (fun z => some (Value.int z)) ((hi20.2.1 1 (by decide)).trans hm)) dX11_fines_23 ?_
        refine lv_icmp_ge (tgt := 52) hx hb dX11_fines_26 (by decide) (fun c26 => ?_) (fun c26 => ?_)
        · refine lv_lload_n hx hb dX11_fines_52 rfl (lv_at hl 1 rfl) ?_
          exact t_l E h hr hk hi20.2 dX11_fines_53
        · have c26 : k < n := Nat.lt_of_not_le fun q9 => c26 ((nI_leI (a := n) (b := k) (by omega) (by omega)).mpr q9)
          refine lv_lload_n hx hb dX11_fines_29 rfl (lv_at hl 1 rfl) ?_
          refine lv_aload_n hx hb dX11_fines_30 rfl (lv_at hl 2 rfl) ?_
          refine r_get E h 9 (v := .ref (a 16)) (eX_0 cy a τ) rfl fw_X11 (by decide) fl_X11_77 rfl dX11_fines_31 ?_
          refine lv_iload_n hx hb dX11_fines_34 rfl (lv_at hl 3 rfl) ?_
          refine lv_iload hx hb dX11_fines_35 (lv_at hl 0 rfl) ?_
          refine lv_aload_n hx hb dX11_fines_37 rfl (lv_at hl 2 rfl) ?_
          refine r_get E h 12 (v := .int (nI n)) (eX_0 cy a τ) rfl fw_X11 (by decide) fl_X11_130 (congrArg (fun z => some (Value.int z)) ((hi20.2.1 1 (by decide)).trans hm)) dX11_fines_38 ?_
          refine k_l h (q_runV (As := [.int (nI i), .int (nI k), .int (nI n)]) (rest := [.long u]) E h (c_X2_fineOf l D cy a τ i (nI k) (nI n) (g.kept hi20.2) hi2) co_X2_fineOf ml_X11_225 im_X2_fineOf se_X2_fineOf in_X2 (eX_16 cy a τ) rfl ok_X2_fineOf rfl ⟨by decide, by decide⟩ hl.1 rfl (Nat.le_of_ble_eq_true rfl) dX11_fines_41 ⟨Nat.zero_le _, Nat.zero_le _⟩) (wX_fst cy a) (fun r41 τ41 H locs p41 h => ?_)
          refine lv_ladd hx hb dX11_fines_44 ?_
          refine lv_lstore_n (lv' := [(2, .long (u + r41)), (4, .int (nI k)), (0, .ref (a 0)), (1, .int (nI i))]) hx hb dX11_fines_45 rfl hl (by decide) rfl (fun ls hl => ?_)
          refine lv_iinc (v := nI (k + 1)) (lv' := [(4, .int (nI (k + 1))), (2, .long (u + r41)), (0, .ref (a 0)), (1, .int (nI i))]) hx hb dX11_fines_46 hl (k := 1) rfl (nI_succ k).symm (by decide) rfl (fun ls hl => ?_)
          refine lv_goto (tgt := 20) hx hb dX11_fines_49 (by decide) ?_
          exact ih20 (k + 1) (u + r41) τ41 _ _ _ ⟨by omega, hi20.2.tr p41.1⟩ (by omega) h (lv_sub hl [0, 1, 2, 3] rfl)
    exact lp20 _ 0 0 σ _ _ _ ⟨Nat.zero_le _, K.rf⟩ (Nat.lt_succ_self _) h (lv_sub hl [0, 1, 2, 3] rfl)
  · refine lv_ldc2 (v := -2) hx hb E.2.2.2.1 (E.2.2.2.2.1 _ kl_X11_219) dX11_fines_11 ?_
    exact t_l E h hr hk K.rf dX11_fines_14
