
theorem ld_put {f P Y N : Nat → Int32} {y : Int32} {k : Nat} (h : ∀ j, j < 40 → f j = ld P Y N (nI j) y k) (hp : vp_in (P k) 40) (hy : N k ≤ y) : ∀ j, j < 40 → upd f (P k).toNatClampNeg (Y k) j = ld P Y N (nI j) y (k + 1) := by
  intro j hj
  obtain ⟨a, ha, e⟩ := nI_of (fun q => hp (Or.inl q) : ¬ P k < 0)
  have hc := in_clamp hp
  rw [e, nI_clamp ha] at hc
  rw [e, nI_clamp ha, ld]
  by_cases hja : j = a
  · subst hja
    rw [upd_s, if_pos ⟨e, hy⟩]
  · rw [upd_n hja, if_neg (fun q => hja ((nI_eq (by omega) ha).mp (q.1.symm.trans e)))]
    exact h j hj
theorem ld_skip {f P Y N : Nat → Int32} {y : Int32} {k : Nat} (h : ∀ j, j < 40 → f j = ld P Y N (nI j) y k) (hy : y < N k) : ∀ j, j < 40 → f j = ld P Y N (nI j) y (k + 1) := by
  intro j hj
  rw [ld, if_neg (fun q => absurd q.2 (Int32.not_le.mpr hy))]
  exact h j hj

set_option maxHeartbeats 4000000 in
set_option maxRecDepth 100000 in
theorem c_X1_settle2 (l : Launch) (D : va_G) (cy : Nat → ClassId) (a : Nat → Nat) (σ : St) (y : Int32) (n : Nat) (hn : σ.1 9 = nI n) (hn6 : n ≤ 60) (hp : ∀ i, i < n → vp_in (σ.2.1 29 i) 40) : CV l yX1_settle cX1_settle 3 none (rmOf 0 0) D cy (wX cy a) (AX a) [.ref (a 5), .int y] σ (fun τ => K cF cA2 σ τ ∧ ∀ j, j < 40 → τ.2.1 32 j = ld (σ.2.1 29) (σ.2.1 30) (σ.2.1 31) (nI j) y n) := by
  refine c_of (lv := [(0, .ref (a 5)), (1, .int y)]) rfl (Nat.le_of_ble_eq_true rfl) rfl ?_
  intro p e s m args below meth c ls E h hr hk hl
  have hx := E.1
  have hb := E.2.1
  refine lv_iconst (v := 0) hx hb dX1_settle_0 (by decide) ?_
  refine lv_istore_n (lv' := [(2, .int 0), (0, .ref (a 5)), (1, .int y)]) hx hb dX1_settle_1 rfl hl (by decide) rfl (fun ls hl => ?_)
  have lp2 : ∀ (f : Nat) (i : Nat) (τ : St) (H : Heap) (locs : List Loc) (ls : Array Slot), (i ≤ 40 ∧ K cF cA2 σ τ ∧ ∀ j, j < i → τ.2.1 32 j = -1) → (40 - i) < f → HW D (AX a) s (wX cy a τ) H locs → lv_has ls 3 [(2, .int (nI i)), (0, .ref (a 5)), (1, .int y)] → W p l e (rmOf 0 0) s m args below meth c H locs 0 0 (MQ below (va_Qv (fun τ => K cF cA2 σ τ ∧ ∀ j, j < 40 → τ.2.1 32 j = ld (σ.2.1 29) (σ.2.1 30) (σ.2.1 31) (nI j) y n) (fun u t => va_P D vwCl (wX cy a u) t.heap) (AX a)) args s 0 0 (AX a)) (F0 m 2 ls []) := by
    intro f
    induction f with
    | zero => intro i τ H locs ls _ hf; exact absurd hf (Nat.not_lt_zero _)
    | succ f ih2 =>
      intro i τ H locs ls hi2 hf2 h hl
      refine lv_iload_n hx hb dX1_settle_2 rfl (lv_at hl 0 rfl) ?_
      refine lv_bipush (v := 40) hx hb dX1_settle_3 (by decide) ?_
      refine lv_icmp_ge (tgt := 21) hx hb dX1_settle_5 (by decide) (fun c5 => ?_) (fun c5 => ?_)
      · have c5 : 40 ≤ i := (nI_leI (a := 40) (b := i) (by omega) (by omega)).mp c5
        refine lv_iconst (v := 0) hx hb dX1_settle_21 (by decide) ?_
        refine lv_istore_n (lv' := [(2, .int 0), (0, .ref (a 5)), (1, .int y)]) hx hb dX1_settle_22 rfl hl (by decide) rfl (fun ls hl => ?_)
        have lp23 : ∀ (f : Nat) (k : Nat) (υ : St) (H : Heap) (locs : List Loc) (ls : Array Slot), (k ≤ n ∧ K cF cA2 σ υ ∧ ∀ j, j < 40 → υ.2.1 32 j = ld (σ.2.1 29) (σ.2.1 30) (σ.2.1 31) (nI j) y k) → (n - k) < f → HW D (AX a) s (wX cy a υ) H locs → lv_has ls 3 [(2, .int (nI k)), (0, .ref (a 5)), (1, .int y)] → W p l e (rmOf 0 0) s m args below meth c H locs 0 0 (MQ below (va_Qv (fun τ => K cF cA2 σ τ ∧ ∀ j, j < 40 → τ.2.1 32 j = ld (σ.2.1 29) (σ.2.1 30) (σ.2.1 31) (nI j) y n) (fun u t => va_P D vwCl (wX cy a u) t.heap) (AX a)) args s 0 0 (AX a)) (F0 m 23 ls []) := by
          intro f
          induction f with
          | zero => intro k υ H locs ls _ hf; exact absurd hf (Nat.not_lt_zero _)
          | succ f ih23 =>
            intro k υ H locs ls hi23 hf23 h hl
            refine lv_iload_n hx hb dX1_settle_23 rfl (lv_at hl 0 rfl) ?_
            refine lv_aload_n hx hb dX1_settle_24 rfl (lv_at hl 1 rfl) ?_
            refine r_get E h 4 (v := .int (nI n)) (eX_5 cy a υ) rfl fw_X1 (by decide) fl_X1_24 (congrArg (fun z => some (Value.int z)) ((hi23.2.1.1 9 (by decide)).trans hn)) dX1_settle_25 ?_
            refine lv_icmp_ge (tgt := 64) hx hb dX1_settle_28 (by decide) (fun c28 => ?_) (fun c28 => ?_)
            · have c28 : n ≤ k := (nI_leI (a := n) (b := k) (by omega) (by omega)).mp c28
              exact t_v E h hr hk ⟨hi23.2.1, fun j hj => by rw [hi23.2.2 j hj, show k = n by omega]⟩ dX1_settle_64
            · have c28 : k < n := Nat.lt_of_not_le fun q9 => c28 ((nI_leI (a := n) (b := k) (by omega) (by omega)).mpr q9)
              refine lv_aload_n hx hb dX1_settle_31 rfl (lv_at hl 1 rfl) ?_
              refine r_get E h 2 (v := .ref (a 31)) (eX_5 cy a υ) rfl fw_X1 (by decide) fl_X1_18 rfl dX1_settle_32 ?_
              refine lv_iload_n hx hb dX1_settle_35 rfl (lv_at hl 0 rfl) ?_
              refine r_ialdN E h (f := υ.2.1 31) (eX_31 cy a υ) (j := k) (by omega) (by decide) (v := υ.2.1 31 k) rfl dX1_settle_36 ?_
              refine lv_iload_n hx hb dX1_settle_37 rfl (lv_at hl 2 rfl) ?_
              refine lv_icmp_gt (tgt := 58) hx hb dX1_settle_38 (by decide) (fun c38 => ?_) (fun c38 => ?_)
              · refine lv_iinc (v := nI (k + 1)) (lv' := [(2, .int (nI (k + 1))), (0, .ref (a 5)), (1, .int y)]) hx hb dX1_settle_58 hl (k := 0) rfl (nI_succ k).symm (by decide) rfl (fun ls hl => ?_)
                refine lv_goto (tgt := 23) hx hb dX1_settle_61 (by decide) ?_
                exact ih23 (k + 1) υ _ _ _ ⟨by omega, hi23.2.1, ld_skip hi23.2.2 (by rw [← hi23.2.1.2 31 (by decide)]; exact c38)⟩ (by omega) h (lv_sub hl [0, 1, 2] rfl)
              · refine lv_aload_n hx hb dX1_settle_41 rfl (lv_at hl 1 rfl) ?_
                refine r_get E h 3 (v := .ref (a 32)) (eX_5 cy a υ) rfl fw_X1 (by decide) fl_X1_21 rfl dX1_settle_42 ?_
                refine lv_aload_n hx hb dX1_settle_45 rfl (lv_at hl 1 rfl) ?_
                refine r_get E h 0 (v := .ref (a 29)) (eX_5 cy a υ) rfl fw_X1 (by decide) fl_X1_9 rfl dX1_settle_46 ?_
                refine lv_iload_n hx hb dX1_settle_49 rfl (lv_at hl 0 rfl) ?_
                refine r_ialdN E h (f := υ.2.1 29) (eX_29 cy a υ) (j := k) (by omega) (by decide) (v := υ.2.1 29 k) rfl dX1_settle_50 ?_
                refine lv_aload_n hx hb dX1_settle_51 rfl (lv_at hl 1 rfl) ?_
                refine r_get E h 1 (v := .ref (a 30)) (eX_5 cy a υ) rfl fw_X1 (by decide) fl_X1_15 rfl dX1_settle_52 ?_
                refine lv_iload_n hx hb dX1_settle_55 rfl (lv_at hl 0 rfl) ?_
                refine r_ialdN E h (f := υ.2.1 30) (eX_30 cy a υ) (j := k) (by omega) (by decide) (v := υ.2.1 30 k) rfl dX1_settle_56 ?_
                refine r_iast E h (f := υ.2.1 32) (eX_32 cy a υ) (by rw [hi23.2.1.2 29 (by decide)]; exact hp k c28) (qX_32 cy a υ (upd (υ.2.1 32) ((υ.2.1 29 k).toNatClampNeg) (υ.2.1 30 k))) dX1_settle_57 (fun H locs h => ?_)
                refine lv_iinc (v := nI (k + 1)) (lv' := [(2, .int (nI (k + 1))), (0, .ref (a 5)), (1, .int y)]) hx hb dX1_settle_58 hl (k := 0) rfl (nI_succ k).symm (by decide) rfl (fun ls hl => ?_)
                refine lv_goto (tgt := 23) hx hb dX1_settle_61 (by decide) ?_
                exact ih23 (k + 1) (fR υ 32 (upd (υ.2.1 32) ((υ.2.1 29 k).toNatClampNeg) (υ.2.1 30 k))) _ _ _ ⟨by omega, hi23.2.1.R 32 _ (by decide), (show ∀ j, j < 40 → upd (υ.2.1 32) (υ.2.1 29 k).toNatClampNeg (υ.2.1 30 k) j = ld (σ.2.1 29) (σ.2.1 30) (σ.2.1 31) (nI j) y (k + 1) by rw [hi23.2.1.2 29 (by decide), hi23.2.1.2 30 (by decide)]; exact ld_put hi23.2.2 (hp k c28) (by rw [← hi23.2.1.2 31 (by decide)]; exact Int32.not_lt.mp c38))⟩ (by omega) h (lv_sub hl [0, 1, 2] rfl)
        exact lp23 _ 0 τ _ _ _ ⟨Nat.zero_le _, hi2.2.1, fun j hj => by rw [hi2.2.2 j (by omega)]; rfl⟩ (Nat.lt_succ_self _) h (lv_sub hl [0, 1, 2] rfl)
      · have c5 : i < 40 := Nat.lt_of_not_le fun q9 => c5 ((nI_leI (a := 40) (b := i) (by omega) (by omega)).mpr q9)
        refine lv_aload_n hx hb dX1_settle_8 rfl (lv_at hl 1 rfl) ?_
        refine r_get E h 3 (v := .ref (a 32)) (eX_5 cy a τ) rfl fw_X1 (by decide) fl_X1_21 rfl dX1_settle_9 ?_
        refine lv_iload_n hx hb dX1_settle_12 rfl (lv_at hl 0 rfl) ?_
        refine lv_iconst (v := -1) hx hb dX1_settle_13 (by decide) ?_
        refine r_iastN E h (f := τ.2.1 32) (eX_32 cy a τ) (j := i) c5 (by decide) (qX_32 cy a τ (upd (τ.2.1 32) i (-1))) dX1_settle_14 (fun H locs h => ?_)
        refine lv_iinc (v := nI (i + 1)) (lv' := [(2, .int (nI (i + 1))), (0, .ref (a 5)), (1, .int y)]) hx hb dX1_settle_15 hl (k := 0) rfl (nI_succ i).symm (by decide) rfl (fun ls hl => ?_)
        refine lv_goto (tgt := 2) hx hb dX1_settle_18 (by decide) ?_
        exact ih2 (i + 1) (fR τ 32 (upd (τ.2.1 32) i (-1))) _ _ _ ⟨by omega, hi2.2.1.R 32 _ (by decide), fun j hj => up_in (P := fun _ z => z = -1) hi2.2.2 rfl hj⟩ (by omega) h (lv_sub hl [0, 1, 2] rfl)
  exact lp2 _ 0 σ _ _ _ ⟨by omega, K.rf, fun j q => absurd q (Nat.not_lt_zero j)⟩ (Nat.lt_succ_self _) h (lv_sub hl [0, 1, 2] rfl)

set_option maxHeartbeats 4000000 in
set_option maxRecDepth 100000 in
theorem c_X11_dead2 (l : Launch) (D : va_G) (cy : Nat → ClassId) (a : Nat → Nat) (σ : St) (x y : Int32) (n : Nat) (g : GX σ) (hn : σ.1 9 = nI n) (hn6 : n ≤ 60) (hp : ∀ i, i < n → vp_in (σ.2.1 29 i) 40) : CI l yX11_dead cX11_dead 3 (some .int) (rmOf 2 43) D cy (wX cy a) (AX a) [.ref (a 0), .int x, .int y] σ (fun r τ => K cF cA σ τ ∧ ((¬ (((0 : Int32) ≤ x ∧ x ≤ σ.1 0 - 1) ∧ ((0 : Int32) ≤ y ∧ y ≤ 200)) ∧ r = -1) ∨ ((((0 : Int32) ≤ x ∧ x ≤ σ.1 0 - 1) ∧ ((0 : Int32) ≤ y ∧ y ≤ 200)) ∧ r = ld (σ.2.1 29) (σ.2.1 30) (σ.2.1 31) x y n))) := by
  refine c_of (lv := [(0, .ref (a 0)), (1, .int x), (2, .int y)]) rfl (Nat.le_of_ble_eq_true rfl) rfl ?_
  intro p e s m args below meth c ls E h hr hk hl
  have hx := E.1
  have hb := E.2.1
  obtain ⟨m9, hm9, hm⟩ := g.2.2.2.2.2.2.1.2.2.2
  refine lv_aload_n hx hb dX11_dead_0 rfl (lv_at hl 0 rfl) ?_
  refine lv_iload_n hx hb dX11_dead_1 rfl (lv_at hl 1 rfl) ?_
  refine k_i h (q_runV (As := [.int x]) (rest := []) E h (c_X11_isPerson l D cy a σ x) co_X11_isPerson ml_X11_118 im_X11_isPerson se_X11_isPerson in_X11 (eX_0 cy a σ) rfl ok_X11_isPerson rfl ⟨by decide, by decide⟩ hl.1 rfl (Nat.le_of_ble_eq_true rfl) dX11_dead_2 ⟨Nat.zero_le _, Nat.zero_le _⟩) (wX_fst cy a) (fun r2 τ2 H locs p2 h => ?_)
  rw [p2.1] at h
  refine lv_if_eq (tgt := 15) hx hb dX11_dead_5 (by decide) (fun c5 => ?_) (fun c5 => ?_)
  · refine lv_iconst (v := -1) hx hb dX11_dead_15 (by decide) ?_
    exact t_i E h hr hk ⟨K.rf, Or.inl ⟨fun s9 => p2.2.f c5 s9.1, rfl⟩⟩ dX11_dead_16
  · obtain ⟨i9, _, hi4, e9⟩ := z_in (N := 40) (p2.2.t c5).1 (hm ▸ (p2.2.t c5).2) hm9 (by decide)
    have hx4 : vp_in x 40 := by
      rw [e9]; exact vp_in_nI hi4 (by decide)
    refine lv_iload_n hx hb dX11_dead_8 rfl (lv_at hl 2 rfl) ?_
    refine k_i h (q_runS (As := [.int y]) (rest := []) E h (c_X11_isYear l D cy a σ y) co_X11_isYear ml_X11_97 st_X11_isYear in_X11 rfl ok_X11_isYear rfl ⟨by decide, by decide⟩ hl.1 rfl (Nat.le_of_ble_eq_true rfl) dX11_dead_9 ⟨Nat.zero_le _, Nat.zero_le _⟩) (wX_fst cy a) (fun r9 τ9 H locs p9 h => ?_)
    rw [p9.1] at h
    refine lv_if_ne (tgt := 17) hx hb dX11_dead_12 (by decide) (fun c12 => ?_) (fun c12 => ?_)
    · refine lv_aload_n hx hb dX11_dead_17 rfl (lv_at hl 0 rfl) ?_
      refine r_get E h 3 (v := .ref (a 5)) (eX_0 cy a σ) rfl fw_X11 (by decide) fl_X11_35 rfl dX11_dead_18 ?_
      refine lv_iload_n hx hb dX11_dead_21 rfl (lv_at hl 2 rfl) ?_
      refine k_v h (q_runV (As := [.int y]) (rest := []) E h (c_X1_settle2 l D cy a σ y n hn hn6 hp) co_X1_settle ml_X11_228 im_X1_settle se_X1_settle in_X1 (eX_5 cy a σ) rfl ok_X1_settle rfl ⟨by decide, by decide⟩ hl.1 rfl (Nat.le_of_ble_eq_true rfl) dX11_dead_22 ⟨Nat.zero_le _, Nat.zero_le _⟩) (wX_fst cy a) (fun τ22 H locs p22 h => ?_)
      refine lv_aload_n hx hb dX11_dead_25 rfl (lv_at hl 0 rfl) ?_
      refine r_get E h 3 (v := .ref (a 5)) (eX_0 cy a τ22) rfl fw_X11 (by decide) fl_X11_35 rfl dX11_dead_26 ?_
      refine r_get E h 3 (v := .ref (a 32)) (eX_5 cy a τ22) rfl fw_X1 (by decide) fl_X11_229 rfl dX11_dead_29 ?_
      refine lv_iload_n hx hb dX11_dead_32 rfl (lv_at hl 1 rfl) ?_
      refine r_iald E h (f := τ22.2.1 32) (eX_32 cy a τ22) hx4 dX11_dead_33 ?_
      refine t_i E h hr hk ?_ dX11_dead_34
      refine ⟨k2 p22.1, Or.inr ⟨⟨p2.2.t c5, p9.2.t c12⟩, ?_⟩⟩
      have q9 := p22.2 i9 hi4
      rw [e9, nI_clamp (by omega)]
      exact q9
    · refine lv_iconst (v := -1) hx hb dX11_dead_15 (by decide) ?_
      exact t_i E h hr hk ⟨K.rf, Or.inl ⟨fun s9 => p9.2.f c12 s9.2, rfl⟩⟩ dX11_dead_16
