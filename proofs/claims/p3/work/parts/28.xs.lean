
theorem sl_lt {i : Nat} (hi : i < 11) : sLen.getD i 0 < 1000 := by revert i; decide
/-- the draft's laws are such as may be -/
def DRF (σ : St) : Prop := ∃ d, d ≤ 30 ∧ σ.1 8 = nI d ∧ ∀ i, i < d → LAWOK (σ.2.1 26 i) (σ.2.1 27 i)
theorem DRF.kept {σ τ : St} (h : K rF rA σ τ) (d : DRF σ) : DRF τ := by
  unfold DRF at *
  rw [h.1 8 (by decide), h.2 26 (by decide), h.2 27 (by decide)]
  exact d
theorem r_c {σ τ : St} (h : K rF rA σ τ) : K cF cA2 σ τ := K.sub h (by decide) (by decide)
theorem lawok_new {k v : Int32} (hk : vp_in k 6) (h : (k = 0 ∧ vp_in v 3) ∨ (¬ k = 0 ∧ ∃ m, ((k = 5 ∧ m = 2) ∨ (¬ k = 5 ∧ m = 100000)) ∧ (0 : Int32) ≤ v ∧ v ≤ m)) : LAWOK k v := by
  refine ⟨hk, fun e => ?_, fun e => ?_⟩
  · rcases h with ⟨h0, h1⟩ | ⟨h0, m, hm, h1⟩
    · exact h1
    · rcases hm with ⟨_, rfl⟩ | ⟨h5, _⟩
      · exact in_W (n := 2) h1
      · exact absurd e h5
  · rcases h with ⟨h0, h1⟩ | ⟨h0, _⟩
    · exact h1
    · exact absurd e h0

set_option maxHeartbeats 4000000 in
set_option maxRecDepth 100000 in
theorem c_X5_takeWord (l : Launch) (D : va_G) (cy : Nat → ClassId) (a : Nat → Nat) (adK adV : Nat → Nat) (σ : St) (i n : Nat) (hi : i < 11) (hn : σ.1 3 = nI n) (hn4 : n ≤ 400) (hr9 : RD n σ) : ZI l yX5_takeWord cX5_takeWord 3 (some .boolean) (rmOf 4 85) D cy (wX cy a) (AX a) (SZ adK adV (AX a)) [.ref (a 2), .ref (adK i)] σ (fun r τ => K rF rA σ τ ∧ RD n τ ∧ (r = 0 ∨ r = 1)) := by
  refine z_of (lv := [(0, .ref (a 2)), (1, .ref (adK i))]) rfl (Nat.le_of_ble_eq_true rfl) rfl ?_
  intro p e s m args below meth c ls E h hr hk hl hz
  have hx := E.1
  have hb := E.2.1
  obtain ⟨s0, t0, hst, htn, hs, ht⟩ := id hr9
  have hL9 := sl_lt hi
  refine lv_aload_n hx hb dX5_takeWord_0 rfl (lv_at hl 0 rfl) ?_
  refine r_get E h 3 (v := .int (nI t0)) (eX_2 cy a σ) rfl fw_X5 (by decide) fl_X5_29 (congrArg (fun z => some (Value.int z)) ht) dX5_takeWord_1 ?_
  refine lv_aload_n hx hb dX5_takeWord_4 rfl (lv_at hl 0 rfl) ?_
  refine r_get E h 2 (v := .int (nI s0)) (eX_2 cy a σ) rfl fw_X5 (by decide) fl_X5_50 (congrArg (fun z => some (Value.int z)) hs) dX5_takeWord_5 ?_
  refine lv_isub hx hb dX5_takeWord_8 ?_
  refine lv_aload_n hx hb dX5_takeWord_9 rfl (lv_at hl 1 rfl) ?_
  refine k_i h (z_runV (As := []) (rest := [.int ((nI t0) - (nI s0))]) E h hz (sz_ok adK adV (AX a)) (c_J0_length l D cy (wX_fst cy a) adK adV σ i hi) co_J0_length_8abf5 ml_X5_101 im_J0_length_8abf5 se_J0_length_8abf5 in_J0 (vk_recv hz.1 hi h.2.2) ok_J0_length_8abf5 rfl ⟨by decide, by decide⟩ hl.1 rfl (Nat.le_of_ble_eq_true rfl) dX5_takeWord_10 ⟨Nat.zero_le _, Nat.zero_le _⟩) (wX_fst cy a) (fun r10 τ10 H locs p10 h => ?_)
  rw [p10.1] at h
  refine lv_icmp_eq (tgt := 18) hx hb dX5_takeWord_13 (by decide) (fun c13 => ?_) (fun c13 => ?_)
  · refine lv_iconst (v := 0) hx hb dX5_takeWord_18 (by decide) ?_
    refine lv_istore_n (lv' := [(2, .int 0), (0, .ref (a 2)), (1, .ref (adK i))]) hx hb dX5_takeWord_19 rfl hl (by decide) rfl (fun ls hl => ?_)
    have lp20 : ∀ (f : Nat) (k : Nat) (H : Heap) (locs : List Loc) (ls : Array Slot), (k ≤ sLen.getD i 0) → (sLen.getD i 0 - k) < f → HW D (AX a) s (wX cy a σ) H locs → lv_has ls 3 [(2, .int (nI k)), (0, .ref (a 2)), (1, .ref (adK i))] → W p l e (rmOf 4 85) s m args below meth c H locs 0 0 (MQ below (va_Qi (fun r τ => K rF rA σ τ ∧ RD n τ ∧ (r = 0 ∨ r = 1)) (fun u t => va_P D vwCl (wX cy a u) t.heap) (AX a)) args s 0 0 (AX a)) (F0 m 20 ls []) := by
      intro f
      induction f with
      | zero => intro k H locs ls _ hf; exact absurd hf (Nat.not_lt_zero _)
      | succ f ih20 =>
        intro k H locs ls hi20 hf20 h hl
        refine lv_iload_n hx hb dX5_takeWord_20 rfl (lv_at hl 0 rfl) ?_
        refine lv_aload_n hx hb dX5_takeWord_21 rfl (lv_at hl 2 rfl) ?_
        refine k_i h (z_runV (As := []) (rest := [.int (nI k)]) E h hz (sz_ok adK adV (AX a)) (c_J0_length l D cy (wX_fst cy a) adK adV σ i hi) co_J0_length_8abf5 ml_X5_101 im_J0_length_8abf5 se_J0_length_8abf5 in_J0 (vk_recv hz.1 hi h.2.2) ok_J0_length_8abf5 rfl ⟨by decide, by decide⟩ hl.1 rfl (Nat.le_of_ble_eq_true rfl) dX5_takeWord_22 ⟨Nat.zero_le _, Nat.zero_le _⟩) (wX_fst cy a) (fun r22 τ22 H locs p22 h => ?_)
        rw [p22.1] at h
        refine lv_icmp_ge (tgt := 57) hx hb dX5_takeWord_25 (by decide) (fun c25 => ?_) (fun c25 => ?_)
        · refine lv_aload_n hx hb dX5_takeWord_57 rfl (lv_at hl 1 rfl) ?_
          refine k_v h (q_runV (As := []) (rest := []) E h (c_X5_step l D cy a σ n t0 hn hn4 ht htn) co_X5_step ml_X5_32 im_X5_step se_X5_step in_X5 (eX_2 cy a σ) rfl ok_X5_step rfl ⟨by decide, by decide⟩ hl.1 rfl (Nat.le_of_ble_eq_true rfl) dX5_takeWord_58 ⟨Nat.zero_le _, Nat.zero_le _⟩) (wX_fst cy a) (fun τ58 H locs p58 h => ?_)
          refine lv_iconst (v := 1) hx hb dX5_takeWord_61 (by decide) ?_
          exact t_z E h hr hk (Or.inr rfl) ⟨p58.1, p58.2, Or.inr rfl⟩ dX5_takeWord_62
        · rw [p22.2] at c25
          have c25 : k < sLen.getD i 0 := Nat.lt_of_not_le fun q9 => c25 ((nI_leI (a := sLen.getD i 0) (b := k) (by omega) (by omega)).mpr q9)
          refine lv_aload_n hx hb dX5_takeWord_28 rfl (lv_at hl 1 rfl) ?_
          refine r_get E h 0 (v := .ref (a 1)) (eX_2 cy a σ) rfl fw_X5 (by decide) fl_X5_22 rfl dX5_takeWord_29 ?_
          refine lv_aload_n hx hb dX5_takeWord_32 rfl (lv_at hl 1 rfl) ?_
          refine r_get E h 2 (v := .int (nI s0)) (eX_2 cy a σ) rfl fw_X5 (by decide) fl_X5_50 (congrArg (fun z => some (Value.int z)) hs) dX5_takeWord_33 ?_
          refine lv_iload_n hx hb dX5_takeWord_36 rfl (lv_at hl 0 rfl) ?_
          refine n_add (j := s0) (k := k) hx hb dX5_takeWord_37 ?_
          refine k_i h (q_runV (As := [.int (nI (s0 + k))]) (rest := []) E h (c_X10_byteAt l D cy a σ (nI (s0 + k)) n hn hn4) co_X10_byteAt ml_X5_53 im_X10_byteAt se_X10_byteAt in_X10 (eX_1 cy a σ) rfl ok_X10_byteAt rfl ⟨by decide, by decide⟩ hl.1 rfl (Nat.le_of_ble_eq_true rfl) dX5_takeWord_38 ⟨Nat.zero_le _, Nat.zero_le _⟩) (wX_fst cy a) (fun r38 τ38 H locs p38 h => ?_)
          rw [p38.1] at h
          refine lv_aload_n hx hb dX5_takeWord_41 rfl (lv_at hl 2 rfl) ?_
          refine lv_iload_n hx hb dX5_takeWord_42 rfl (lv_at hl 0 rfl) ?_
          refine k_i h (z_runV (As := [.int (nI k)]) (rest := [.int r38]) E h hz (sz_ok adK adV (AX a)) (c_J0_charAt l D cy (wX_fst cy a) adK adV σ i k hi c25 hL9) co_J0_charAt_5068e ml_X5_106 im_J0_charAt_5068e se_J0_charAt_5068e in_J0 (vk_recv hz.1 hi h.2.2) ok_J0_charAt_5068e rfl ⟨by decide, by decide⟩ hl.1 rfl (Nat.le_of_ble_eq_true rfl) dX5_takeWord_43 ⟨Nat.zero_le _, Nat.zero_le _⟩) (wX_fst cy a) (fun r43 τ43 H locs p43 h => ?_)
          rw [p43.1] at h
          refine lv_icmp_eq (tgt := 51) hx hb dX5_takeWord_46 (by decide) (fun c46 => ?_) (fun c46 => ?_)
          · refine lv_iinc (v := nI (k + 1)) (lv' := [(2, .int (nI (k + 1))), (0, .ref (a 2)), (1, .ref (adK i))]) hx hb dX5_takeWord_51 hl (k := 0) rfl (nI_succ k).symm (by decide) rfl (fun ls hl => ?_)
            refine lv_goto (tgt := 20) hx hb dX5_takeWord_54 (by decide) ?_
            exact ih20 (k + 1) _ _ _ (by omega) (by omega) h (lv_sub hl [0, 1, 2] rfl)
          · refine lv_iconst (v := 0) hx hb dX5_takeWord_49 (by decide) ?_
            exact t_z E h hr hk (Or.inl rfl) ⟨K.rf, hr9, Or.inl rfl⟩ dX5_takeWord_50
    exact lp20 _ 0 _ _ _ (Nat.zero_le _) (Nat.lt_succ_self _) h (lv_sub hl [0, 1, 2] rfl)
  · refine lv_iconst (v := 0) hx hb dX5_takeWord_16 (by decide) ?_
    exact t_z E h hr hk (Or.inl rfl) ⟨K.rf, hr9, Or.inl rfl⟩ dX5_takeWord_17

set_option maxHeartbeats 4000000 in
set_option maxRecDepth 100000 in
theorem c_X5_takeKind (l : Launch) (D : va_G) (cy : Nat → ClassId) (a : Nat → Nat) (adK adV : Nat → Nat) (σ : St) (n : Nat) (hn : σ.1 3 = nI n) (hn4 : n ≤ 400) (hr9 : RD n σ) : ZI l yX5_takeKind cX5_takeKind 1 (some .int) (rmOf 5 107) D cy (wX cy a) (AX a) (SZ adK adV (AX a)) [.ref (a 2)] σ (fun r τ => K rF rA σ τ ∧ RD n τ ∧ (r = -1 ∨ vp_in r 6)) := by
  refine z_of (lv := [(0, .ref (a 2))]) rfl (Nat.le_of_ble_eq_true rfl) rfl ?_
  intro p e s m args below meth c ls E h hr hk hl hz
  have hx := E.1
  have hb := E.2.1
  refine lv_aload_n hx hb dX5_takeKind_0 rfl (lv_at hl 0 rfl) ?_
  refine va_ldcS hx hb E.2.2.2.1 (hz.2.1 2 (by decide)) dX5_takeKind_1 ?_
  refine k_i h (z_runV (As := [.ref (adK 2)]) (rest := []) E h hz (sz_ok adK adV (AX a)) (c_X5_takeWord l D cy a adK adV σ 2 n (by decide) hn hn4 hr9) co_X5_takeWord ml_X5_59 im_X5_takeWord se_X5_takeWord in_X5 (va_recv E.2.2.2.2.2.1 h.1 rfl (eX_2 cy a σ)) ok_X5_takeWord rfl ⟨by decide, by decide⟩ hl.1 rfl (Nat.le_of_ble_eq_true rfl) dX5_takeKind_3 ⟨Nat.zero_le _, Nat.zero_le _⟩) (wX_fst cy a) (fun r3 τ3 H locs p3 h => ?_)
  have k3 : K rF rA σ τ3 := p3.1
  refine lv_if_eq (tgt := 11) hx hb dX5_takeKind_6 (by decide) (fun c6 => ?_) (fun c6 => ?_)
  · refine lv_aload_n hx hb dX5_takeKind_11 rfl (lv_at hl 0 rfl) ?_
    refine va_ldcS hx hb E.2.2.2.1 (hz.2.1 3 (by decide)) dX5_takeKind_12 ?_
    refine k_i h (z_runV (As := [.ref (adK 3)]) (rest := []) E h hz (sz_ok adK adV (AX a)) (c_X5_takeWord l D cy a adK adV τ3 3 n (by decide) ((k3.1 3 (by decide)).trans hn) hn4 p3.2.1) co_X5_takeWord ml_X5_59 im_X5_takeWord se_X5_takeWord in_X5 (va_recv E.2.2.2.2.2.1 h.1 rfl (eX_2 cy a τ3)) ok_X5_takeWord rfl ⟨by decide, by decide⟩ hl.1 rfl (Nat.le_of_ble_eq_true rfl) dX5_takeKind_14 ⟨Nat.zero_le _, Nat.zero_le _⟩) (wX_fst cy a) (fun r14 τ14 H locs p14 h => ?_)
    have k14 : K rF rA σ τ14 := k3.tr p14.1
    refine lv_if_eq (tgt := 22) hx hb dX5_takeKind_17 (by decide) (fun c17 => ?_) (fun c17 => ?_)
    · refine lv_aload_n hx hb dX5_takeKind_22 rfl (lv_at hl 0 rfl) ?_
      refine va_ldcS hx hb E.2.2.2.1 (hz.2.1 4 (by decide)) dX5_takeKind_23 ?_
      refine k_i h (z_runV (As := [.ref (adK 4)]) (rest := []) E h hz (sz_ok adK adV (AX a)) (c_X5_takeWord l D cy a adK adV τ14 4 n (by decide) ((k14.1 3 (by decide)).trans hn) hn4 p14.2.1) co_X5_takeWord ml_X5_59 im_X5_takeWord se_X5_takeWord in_X5 (va_recv E.2.2.2.2.2.1 h.1 rfl (eX_2 cy a τ14)) ok_X5_takeWord rfl ⟨by decide, by decide⟩ hl.1 rfl (Nat.le_of_ble_eq_true rfl) dX5_takeKind_25 ⟨Nat.zero_le _, Nat.zero_le _⟩) (wX_fst cy a) (fun r25 τ25 H locs p25 h => ?_)
      have k25 : K rF rA σ τ25 := k14.tr p25.1
      refine lv_if_eq (tgt := 33) hx hb dX5_takeKind_28 (by decide) (fun c28 => ?_) (fun c28 => ?_)
      · refine lv_aload_n hx hb dX5_takeKind_33 rfl (lv_at hl 0 rfl) ?_
        refine va_ldcS hx hb E.2.2.2.1 (hz.2.1 5 (by decide)) dX5_takeKind_34 ?_
        refine k_i h (z_runV (As := [.ref (adK 5)]) (rest := []) E h hz (sz_ok adK adV (AX a)) (c_X5_takeWord l D cy a adK adV τ25 5 n (by decide) ((k25.1 3 (by decide)).trans hn) hn4 p25.2.1) co_X5_takeWord ml_X5_59 im_X5_takeWord se_X5_takeWord in_X5 (va_recv E.2.2.2.2.2.1 h.1 rfl (eX_2 cy a τ25)) ok_X5_takeWord rfl ⟨by decide, by decide⟩ hl.1 rfl (Nat.le_of_ble_eq_true rfl) dX5_takeKind_36 ⟨Nat.zero_le _, Nat.zero_le _⟩) (wX_fst cy a) (fun r36 τ36 H locs p36 h => ?_)
        have k36 : K rF rA σ τ36 := k25.tr p36.1
        refine lv_if_eq (tgt := 44) hx hb dX5_takeKind_39 (by decide) (fun c39 => ?_) (fun c39 => ?_)
        · refine lv_aload_n hx hb dX5_takeKind_44 rfl (lv_at hl 0 rfl) ?_
          refine va_ldcS hx hb E.2.2.2.1 (hz.2.1 6 (by decide)) dX5_takeKind_45 ?_
          refine k_i h (z_runV (As := [.ref (adK 6)]) (rest := []) E h hz (sz_ok adK adV (AX a)) (c_X5_takeWord l D cy a adK adV τ36 6 n (by decide) ((k36.1 3 (by decide)).trans hn) hn4 p36.2.1) co_X5_takeWord ml_X5_59 im_X5_takeWord se_X5_takeWord in_X5 (va_recv E.2.2.2.2.2.1 h.1 rfl (eX_2 cy a τ36)) ok_X5_takeWord rfl ⟨by decide, by decide⟩ hl.1 rfl (Nat.le_of_ble_eq_true rfl) dX5_takeKind_47 ⟨Nat.zero_le _, Nat.zero_le _⟩) (wX_fst cy a) (fun r47 τ47 H locs p47 h => ?_)
          have k47 : K rF rA σ τ47 := k36.tr p47.1
          refine lv_if_eq (tgt := 55) hx hb dX5_takeKind_50 (by decide) (fun c50 => ?_) (fun c50 => ?_)
          · refine lv_aload_n hx hb dX5_takeKind_55 rfl (lv_at hl 0 rfl) ?_
            refine va_ldcS hx hb E.2.2.2.1 (hz.2.1 7 (by decide)) dX5_takeKind_56 ?_
            refine k_i h (z_runV (As := [.ref (adK 7)]) (rest := []) E h hz (sz_ok adK adV (AX a)) (c_X5_takeWord l D cy a adK adV τ47 7 n (by decide) ((k47.1 3 (by decide)).trans hn) hn4 p47.2.1) co_X5_takeWord ml_X5_59 im_X5_takeWord se_X5_takeWord in_X5 (va_recv E.2.2.2.2.2.1 h.1 rfl (eX_2 cy a τ47)) ok_X5_takeWord rfl ⟨by decide, by decide⟩ hl.1 rfl (Nat.le_of_ble_eq_true rfl) dX5_takeKind_58 ⟨Nat.zero_le _, Nat.zero_le _⟩) (wX_fst cy a) (fun r58 τ58 H locs p58 h => ?_)
            have k58 : K rF rA σ τ58 := k47.tr p58.1
            refine lv_if_eq (tgt := 68) hx hb dX5_takeKind_61 (by decide) (fun c61 => ?_) (fun c61 => ?_)
            · refine lv_iconst (v := -1) hx hb dX5_takeKind_68 (by decide) ?_
              exact t_i E h hr hk ⟨k58, p58.2.1, Or.inl rfl⟩ dX5_takeKind_69
            · refine lv_iconst (v := 5) hx hb dX5_takeKind_64 (by decide) ?_
              refine lv_goto (tgt := 69) hx hb dX5_takeKind_65 (by decide) ?_
              exact t_i E h hr hk ⟨k58, p58.2.1, Or.inr (vp_in_nI (n := 5) (by decide) (by decide))⟩ dX5_takeKind_69
          · refine lv_iconst (v := 4) hx hb dX5_takeKind_53 (by decide) ?_
            exact t_i E h hr hk ⟨k47, p47.2.1, Or.inr (vp_in_nI (n := 4) (by decide) (by decide))⟩ dX5_takeKind_54
        · refine lv_iconst (v := 3) hx hb dX5_takeKind_42 (by decide) ?_
          exact t_i E h hr hk ⟨k36, p36.2.1, Or.inr (vp_in_nI (n := 3) (by decide) (by decide))⟩ dX5_takeKind_43
      · refine lv_iconst (v := 2) hx hb dX5_takeKind_31 (by decide) ?_
        exact t_i E h hr hk ⟨k25, p25.2.1, Or.inr (vp_in_nI (n := 2) (by decide) (by decide))⟩ dX5_takeKind_32
    · refine lv_iconst (v := 1) hx hb dX5_takeKind_20 (by decide) ?_
      exact t_i E h hr hk ⟨k14, p14.2.1, Or.inr (vp_in_nI (n := 1) (by decide) (by decide))⟩ dX5_takeKind_21
  · refine lv_iconst (v := 0) hx hb dX5_takeKind_9 (by decide) ?_
    exact t_i E h hr hk ⟨k3, p3.2.1, Or.inr (vp_in_nI (n := 0) (by decide) (by decide))⟩ dX5_takeKind_10

set_option maxHeartbeats 4000000 in
set_option maxRecDepth 100000 in
theorem c_X5_takeRankName (l : Launch) (D : va_G) (cy : Nat → ClassId) (a : Nat → Nat) (adK adV : Nat → Nat) (σ : St) (n : Nat) (hn : σ.1 3 = nI n) (hn4 : n ≤ 400) (hr9 : RD n σ) : ZI l yX5_takeRankName cX5_takeRankName 1 (some .int) (rmOf 5 107) D cy (wX cy a) (AX a) (SZ adK adV (AX a)) [.ref (a 2)] σ (fun r τ => K rF rA σ τ ∧ RD n τ ∧ (r = -1 ∨ vp_in r 3)) := by
  refine z_of (lv := [(0, .ref (a 2))]) rfl (Nat.le_of_ble_eq_true rfl) rfl ?_
  intro p e s m args below meth c ls E h hr hk hl hz
  have hx := E.1
  have hb := E.2.1
  refine lv_aload_n hx hb dX5_takeRankName_0 rfl (lv_at hl 0 rfl) ?_
  refine va_ldcS hx hb E.2.2.2.1 (hz.2.1 8 (by decide)) dX5_takeRankName_1 ?_
  refine k_i h (z_runV (As := [.ref (adK 8)]) (rest := []) E h hz (sz_ok adK adV (AX a)) (c_X5_takeWord l D cy a adK adV σ 8 n (by decide) hn hn4 hr9) co_X5_takeWord ml_X5_59 im_X5_takeWord se_X5_takeWord in_X5 (va_recv E.2.2.2.2.2.1 h.1 rfl (eX_2 cy a σ)) ok_X5_takeWord rfl ⟨by decide, by decide⟩ hl.1 rfl (Nat.le_of_ble_eq_true rfl) dX5_takeRankName_3 ⟨Nat.zero_le _, Nat.zero_le _⟩) (wX_fst cy a) (fun r3 τ3 H locs p3 h => ?_)
  have k3 : K rF rA σ τ3 := p3.1
  refine lv_if_eq (tgt := 11) hx hb dX5_takeRankName_6 (by decide) (fun c6 => ?_) (fun c6 => ?_)
  · refine lv_aload_n hx hb dX5_takeRankName_11 rfl (lv_at hl 0 rfl) ?_
    refine va_ldcS hx hb E.2.2.2.1 (hz.2.1 9 (by decide)) dX5_takeRankName_12 ?_
    refine k_i h (z_runV (As := [.ref (adK 9)]) (rest := []) E h hz (sz_ok adK adV (AX a)) (c_X5_takeWord l D cy a adK adV τ3 9 n (by decide) ((k3.1 3 (by decide)).trans hn) hn4 p3.2.1) co_X5_takeWord ml_X5_59 im_X5_takeWord se_X5_takeWord in_X5 (va_recv E.2.2.2.2.2.1 h.1 rfl (eX_2 cy a τ3)) ok_X5_takeWord rfl ⟨by decide, by decide⟩ hl.1 rfl (Nat.le_of_ble_eq_true rfl) dX5_takeRankName_14 ⟨Nat.zero_le _, Nat.zero_le _⟩) (wX_fst cy a) (fun r14 τ14 H locs p14 h => ?_)
    have k14 : K rF rA σ τ14 := k3.tr p14.1
    refine lv_if_eq (tgt := 22) hx hb dX5_takeRankName_17 (by decide) (fun c17 => ?_) (fun c17 => ?_)
    · refine lv_aload_n hx hb dX5_takeRankName_22 rfl (lv_at hl 0 rfl) ?_
      refine va_ldcS hx hb E.2.2.2.1 (hz.2.1 10 (by decide)) dX5_takeRankName_23 ?_
      refine k_i h (z_runV (As := [.ref (adK 10)]) (rest := []) E h hz (sz_ok adK adV (AX a)) (c_X5_takeWord l D cy a adK adV τ14 10 n (by decide) ((k14.1 3 (by decide)).trans hn) hn4 p14.2.1) co_X5_takeWord ml_X5_59 im_X5_takeWord se_X5_takeWord in_X5 (va_recv E.2.2.2.2.2.1 h.1 rfl (eX_2 cy a τ14)) ok_X5_takeWord rfl ⟨by decide, by decide⟩ hl.1 rfl (Nat.le_of_ble_eq_true rfl) dX5_takeRankName_25 ⟨Nat.zero_le _, Nat.zero_le _⟩) (wX_fst cy a) (fun r25 τ25 H locs p25 h => ?_)
      have k25 : K rF rA σ τ25 := k14.tr p25.1
      refine lv_if_eq (tgt := 35) hx hb dX5_takeRankName_28 (by decide) (fun c28 => ?_) (fun c28 => ?_)
      · refine lv_iconst (v := -1) hx hb dX5_takeRankName_35 (by decide) ?_
        exact t_i E h hr hk ⟨k25, p25.2.1, Or.inl rfl⟩ dX5_takeRankName_36
      · refine lv_iconst (v := 2) hx hb dX5_takeRankName_31 (by decide) ?_
        refine lv_goto (tgt := 36) hx hb dX5_takeRankName_32 (by decide) ?_
        exact t_i E h hr hk ⟨k25, p25.2.1, Or.inr (vp_in_nI (n := 2) (by decide) (by decide))⟩ dX5_takeRankName_36
    · refine lv_iconst (v := 1) hx hb dX5_takeRankName_20 (by decide) ?_
      exact t_i E h hr hk ⟨k14, p14.2.1, Or.inr (vp_in_nI (n := 1) (by decide) (by decide))⟩ dX5_takeRankName_21
  · refine lv_iconst (v := 0) hx hb dX5_takeRankName_9 (by decide) ?_
    exact t_i E h hr hk ⟨k3, p3.2.1, Or.inr (vp_in_nI (n := 0) (by decide) (by decide))⟩ dX5_takeRankName_10

set_option maxHeartbeats 4000000 in
set_option maxRecDepth 100000 in
theorem c_X5_readLaw (l : Launch) (D : va_G) (cy : Nat → ClassId) (a : Nat → Nat) (adK adV : Nat → Nat) (σ : St) (n : Nat) (hn : σ.1 3 = nI n) (hn4 : n ≤ 400) (hr9 : RD n σ) (hd9 : DRF σ) : ZI l yX5_readLaw cX5_readLaw 5 (some .boolean) (rmOf 6 127) D cy (wX cy a) (AX a) (SZ adK adV (AX a)) [.ref (a 2)] σ (fun r τ => K cF cA2 σ τ ∧ RD n τ ∧ (r = 0 ∨ r = 1) ∧ DRF τ) := by
  refine z_of (lv := [(0, .ref (a 2))]) rfl (Nat.le_of_ble_eq_true rfl) rfl ?_
  intro p e s m args below meth c ls E h hr hk hl hz
  have hx := E.1
  have hb := E.2.1
  refine lv_aload_n hx hb dX5_readLaw_0 rfl (lv_at hl 0 rfl) ?_
  refine va_ldcS hx hb E.2.2.2.1 (hz.2.1 0 (by decide)) dX5_readLaw_1 ?_
  refine k_i h (z_runV (As := [.ref (adK 0)]) (rest := []) E h hz (sz_ok adK adV (AX a)) (c_X5_takeWord l D cy a adK adV σ 0 n (by decide) hn hn4 hr9) co_X5_takeWord ml_X5_59 im_X5_takeWord se_X5_takeWord in_X5 (va_recv E.2.2.2.2.2.1 h.1 rfl (eX_2 cy a σ)) ok_X5_takeWord rfl ⟨by decide, by decide⟩ hl.1 rfl (Nat.le_of_ble_eq_true rfl) dX5_readLaw_3 ⟨Nat.zero_le _, Nat.zero_le _⟩) (wX_fst cy a) (fun r3 τ3 H locs p3 h => ?_)
  have k3 := p3.1
  refine lv_if_ne (tgt := 11) hx hb dX5_readLaw_6 (by decide) (fun c6 => ?_) (fun c6 => ?_)
  · refine lv_aload_n hx hb dX5_readLaw_11 rfl (lv_at hl 0 rfl) ?_
    refine lv_iconst (v := 0) hx hb dX5_readLaw_12 (by decide) ?_
    refine lv_sipush (v := 200) hx hb dX5_readLaw_13 (by decide) ?_
    refine k_i h (q_runV (As := [.int 0, .int 200]) (rest := []) E h (c_X5_takeNumber l D cy a τ3 0 200 n ((k3.1 3 (by decide)).trans hn) hn4 p3.2.1) co_X5_takeNumber ml_X5_63 im_X5_takeNumber se_X5_takeNumber in_X5 (eX_2 cy a τ3) rfl ok_X5_takeNumber rfl ⟨by decide, by decide⟩ hl.1 rfl (Nat.le_of_ble_eq_true rfl) dX5_readLaw_16 ⟨Nat.zero_le _, Nat.zero_le _⟩) (wX_fst cy a) (fun r16 τ16 H locs p16 h => ?_)
    have k16 : K rF rA σ τ16 := k3.tr p16.1
    refine lv_istore_n (lv' := [(1, .int r16), (0, .ref (a 2))]) hx hb dX5_readLaw_19 rfl hl (by decide) rfl (fun ls hl => ?_)
    refine lv_iload_n hx hb dX5_readLaw_20 rfl (lv_at hl 0 rfl) ?_
    refine lv_iconst (v := -1) hx hb dX5_readLaw_21 (by decide) ?_
    refine lv_icmp_ne (tgt := 27) hx hb dX5_readLaw_22 (by decide) (fun c22 => ?_) (fun c22 => ?_)
    · have jn50 : ∀ (l2 : Int32) (ω : St) (H : Heap) (locs : List Loc) (ls : Array Slot), (K rF rA σ ω ∧ RD n ω) → HW D (AX a) s (wX cy a ω) H locs → lv_has ls 5 [(1, .int r16), (0, .ref (a 2))] → W p l e (rmOf 6 127) s m args below meth c H locs 0 0 (MQ below (va_Qi (fun r τ => K cF cA2 σ τ ∧ RD n τ ∧ (r = 0 ∨ r = 1) ∧ DRF τ) (fun u t => va_P D vwCl (wX cy a u) t.heap) (AX a)) args s 0 0 (AX a)) (F0 m 50 ls [.int l2]) := by
        intro l2 ω H locs ls hj50 h hl
        refine lv_istore_n (lv' := [(2, .int l2), (1, .int r16), (0, .ref (a 2))]) hx hb dX5_readLaw_50 rfl hl (by decide) rfl (fun ls hl => ?_)
        refine lv_iload_n hx hb dX5_readLaw_51 rfl (lv_at hl 0 rfl) ?_
        refine lv_iconst (v := -1) hx hb dX5_readLaw_52 (by decide) ?_
        refine lv_icmp_ne (tgt := 58) hx hb dX5_readLaw_53 (by decide) (fun c53 => ?_) (fun c53 => ?_)
        · refine lv_aload_n hx hb dX5_readLaw_58 rfl (lv_at hl 2 rfl) ?_
          refine k_i h (z_runV (As := []) (rest := []) E h hz (sz_ok adK adV (AX a)) (c_X5_takeKind l D cy a adK adV ω n ((hj50.1.1 3 (by decide)).trans hn) hn4 hj50.2) co_X5_takeKind ml_X5_69 im_X5_takeKind se_X5_takeKind in_X5 (va_recv E.2.2.2.2.2.1 h.1 rfl (eX_2 cy a ω)) ok_X5_takeKind rfl ⟨by decide, by decide⟩ hl.1 rfl (Nat.le_of_ble_eq_true rfl) dX5_readLaw_59 ⟨Nat.zero_le _, Nat.zero_le _⟩) (wX_fst cy a) (fun r59 τ59 H locs p59 h => ?_)
          have k59 : K rF rA σ τ59 := hj50.1.tr p59.1
          refine lv_istore_n (lv' := [(3, .int r59), (2, .int l2), (1, .int r16), (0, .ref (a 2))]) hx hb dX5_readLaw_62 rfl hl (by decide) rfl (fun ls hl => ?_)
          refine lv_iload_n hx hb dX5_readLaw_63 rfl (lv_at hl 0 rfl) ?_
          refine lv_iconst (v := -1) hx hb dX5_readLaw_64 (by decide) ?_
          refine lv_icmp_ne (tgt := 70) hx hb dX5_readLaw_65 (by decide) (fun c65 => ?_) (fun c65 => ?_)
          · have hk6 : vp_in r59 6 := p59.2.2.elim (fun q9 => absurd q9 c65) id
            have jn90 : ∀ (l4 : Int32) (ψ : St) (H : Heap) (locs : List Loc) (ls : Array Slot), (K rF rA σ ψ ∧ RD n ψ ∧ (¬ l4 = -1 → LAWOK r59 l4)) → HW D (AX a) s (wX cy a ψ) H locs → lv_has ls 5 [(3, .int r59), (2, .int l2), (1, .int r16), (0, .ref (a 2))] → W p l e (rmOf 6 127) s m args below meth c H locs 0 0 (MQ below (va_Qi (fun r τ => K cF cA2 σ τ ∧ RD n τ ∧ (r = 0 ∨ r = 1) ∧ DRF τ) (fun u t => va_P D vwCl (wX cy a u) t.heap) (AX a)) args s 0 0 (AX a)) (F0 m 90 ls [.int l4]) := by
              intro l4 ψ H locs ls hj90 h hl
              refine lv_istore (lv' := [(4, .int l4), (3, .int r59), (2, .int l2), (1, .int r16), (0, .ref (a 2))]) hx hb dX5_readLaw_90 hl (by decide) rfl (fun ls hl => ?_)
              refine lv_iload hx hb dX5_readLaw_92 (lv_at hl 0 rfl) ?_
              refine lv_iconst (v := -1) hx hb dX5_readLaw_94 (by decide) ?_
              refine lv_icmp_ne (tgt := 100) hx hb dX5_readLaw_95 (by decide) (fun c95 => ?_) (fun c95 => ?_)
              · obtain ⟨d9, hd3, ed, hdl⟩ := id (hd9.kept hj90.1)
                have hv9 := hj90.2.2 c95
                refine lv_aload_n hx hb dX5_readLaw_100 rfl (lv_at hl 4 rfl) ?_
                refine r_get E h 1 (v := .ref (a 4)) (eX_2 cy a ψ) rfl fw_X5 (by decide) fl_X5_12 rfl dX5_readLaw_101 ?_
                refine lv_iload_n hx hb dX5_readLaw_104 rfl (lv_at hl 3 rfl) ?_
                refine lv_iload_n hx hb dX5_readLaw_105 rfl (lv_at hl 2 rfl) ?_
                refine lv_iload_n hx hb dX5_readLaw_106 rfl (lv_at hl 1 rfl) ?_
                refine lv_iload hx hb dX5_readLaw_107 (lv_at hl 0 rfl) ?_
                refine k_v h (q_runV (As := [.int r16, .int l2, .int r59, .int l4]) (rest := []) E h (c_X4_add_draft l D cy a ψ r16 l2 r59 l4 d9 ed hd3) co_X4_add ml_X5_79 im_X4_add se_X4_add in_X4 (eX_4 cy a ψ) rfl ok_X4_add rfl ⟨by decide, by decide⟩ hl.1 rfl (Nat.le_of_ble_eq_true rfl) dX5_readLaw_109 ⟨Nat.zero_le _, Nat.zero_le _⟩) (wX_fst cy a) (fun τ109 H locs p109 h => ?_)
                refine lv_iconst (v := 1) hx hb dX5_readLaw_112 (by decide) ?_
                refine t_z E h hr hk (Or.inr rfl) ?_ dX5_readLaw_113
                rcases p109 with ⟨_, rfl⟩ | ⟨hlt, rfl⟩
                · exact ⟨r_c hj90.1, hj90.2.1, Or.inr rfl, hd9.kept hj90.1⟩
                · refine ⟨((((((r_c hj90.1).R 24 _ (by decide)).R 25 _ (by decide)).R 26 _ (by decide)).R 27 _ (by decide)).F 8 _ (by decide)), hj90.2.1, Or.inr rfl, d9 + 1, by omega, rfl, fun i hi => ?_⟩
                  exact up_in2 (P := fun z w => LAWOK z w) hdl hv9 hi
              · refine lv_iconst (v := 0) hx hb dX5_readLaw_98 (by decide) ?_
                exact t_z E h hr hk (Or.inl rfl) ⟨r_c hj90.1, hj90.2.1, Or.inl rfl, hd9.kept hj90.1⟩ dX5_readLaw_99
            refine lv_iload_n hx hb dX5_readLaw_70 rfl (lv_at hl 0 rfl) ?_
            refine lv_if_ne (tgt := 81) hx hb dX5_readLaw_71 (by decide) (fun c71 => ?_) (fun c71 => ?_)
            · refine lv_aload_n hx hb dX5_readLaw_81 rfl (lv_at hl 3 rfl) ?_
              refine lv_iconst (v := 0) hx hb dX5_readLaw_82 (by decide) ?_
              refine lv_iload_n hx hb dX5_readLaw_83 rfl (lv_at hl 0 rfl) ?_
              refine k_i h (q_runS (As := [.int r59]) (rest := [.int 0, .ref (a 2)]) E h (c_X5_mostOf l D cy a τ59 r59) co_X5_mostOf ml_X5_76 st_X5_mostOf in_X5 rfl ok_X5_mostOf rfl ⟨by decide, by decide⟩ hl.1 rfl (Nat.le_of_ble_eq_true rfl) dX5_readLaw_84 ⟨Nat.zero_le _, Nat.zero_le _⟩) (wX_fst cy a) (fun r84 τ84 H locs p84 h => ?_)
              rw [p84.1] at h
              refine k_i h (q_runV (As := [.int 0, .int r84]) (rest := []) E h (c_X5_takeNumber l D cy a τ59 0 r84 n ((k59.1 3 (by decide)).trans hn) hn4 p59.2.1) co_X5_takeNumber ml_X5_63 im_X5_takeNumber se_X5_takeNumber in_X5 (eX_2 cy a τ59) rfl ok_X5_takeNumber rfl ⟨by decide, by decide⟩ hl.1 rfl (Nat.le_of_ble_eq_true rfl) dX5_readLaw_87 ⟨Nat.zero_le _, Nat.zero_le _⟩) (wX_fst cy a) (fun r87 τ87 H locs p87 h => ?_)
              exact jn90 r87 τ87 _ _ _ ⟨k59.tr p87.1, p87.2.1, fun q9 => lawok_new hk6 (Or.inr ⟨c71, r84, p84.2, p87.2.2.elim (fun u9 => absurd u9 q9) id⟩)⟩ h (lv_sub hl [0, 1, 2, 3] rfl)
            · refine lv_aload_n hx hb dX5_readLaw_74 rfl (lv_at hl 3 rfl) ?_
              refine k_i h (z_runV (As := []) (rest := []) E h hz (sz_ok adK adV (AX a)) (c_X5_takeRankName l D cy a adK adV τ59 n ((k59.1 3 (by decide)).trans hn) hn4 p59.2.1) co_X5_takeRankName ml_X5_73 im_X5_takeRankName se_X5_takeRankName in_X5 (va_recv E.2.2.2.2.2.1 h.1 rfl (eX_2 cy a τ59)) ok_X5_takeRankName rfl ⟨by decide, by decide⟩ hl.1 rfl (Nat.le_of_ble_eq_true rfl) dX5_readLaw_75 ⟨Nat.zero_le _, Nat.zero_le _⟩) (wX_fst cy a) (fun r75 τ75 H locs p75 h => ?_)
              refine lv_goto (tgt := 90) hx hb dX5_readLaw_78 (by decide) ?_
              exact jn90 r75 τ75 _ _ _ ⟨k59.tr p75.1, p75.2.1, fun q9 => lawok_new hk6 (Or.inl ⟨c71, p75.2.2.elim (fun u9 => absurd u9 q9) id⟩)⟩ h (lv_sub hl [0, 1, 2, 3] rfl)
          · refine lv_iconst (v := 0) hx hb dX5_readLaw_68 (by decide) ?_
            exact t_z E h hr hk (Or.inl rfl) ⟨r_c k59, p59.2.1, Or.inl rfl, hd9.kept k59⟩ dX5_readLaw_69
        · refine lv_iconst (v := 0) hx hb dX5_readLaw_56 (by decide) ?_
          exact t_z E h hr hk (Or.inl rfl) ⟨r_c hj50.1, hj50.2, Or.inl rfl, hd9.kept hj50.1⟩ dX5_readLaw_57
      refine lv_aload_n hx hb dX5_readLaw_27 rfl (lv_at hl 1 rfl) ?_
      refine va_ldcS hx hb E.2.2.2.1 (hz.2.1 1 (by decide)) dX5_readLaw_28 ?_
      refine k_i h (z_runV (As := [.ref (adK 1)]) (rest := []) E h hz (sz_ok adK adV (AX a)) (c_X5_takeWord l D cy a adK adV τ16 1 n (by decide) ((k16.1 3 (by decide)).trans hn) hn4 p16.2.1) co_X5_takeWord ml_X5_59 im_X5_takeWord se_X5_takeWord in_X5 (va_recv E.2.2.2.2.2.1 h.1 rfl (eX_2 cy a τ16)) ok_X5_takeWord rfl ⟨by decide, by decide⟩ hl.1 rfl (Nat.le_of_ble_eq_true rfl) dX5_readLaw_30 ⟨Nat.zero_le _, Nat.zero_le _⟩) (wX_fst cy a) (fun r30 τ30 H locs p30 h => ?_)
      have k30 : K rF rA σ τ30 := k16.tr p30.1
      refine lv_if_eq (tgt := 47) hx hb dX5_readLaw_33 (by decide) (fun c33 => ?_) (fun c33 => ?_)
      · refine lv_sipush (v := 200) hx hb dX5_readLaw_47 (by decide) ?_
        exact jn50 200 τ30 _ _ _ ⟨k30, p30.2.1⟩ h (lv_sub hl [0, 1] rfl)
      · refine lv_aload_n hx hb dX5_readLaw_36 rfl (lv_at hl 1 rfl) ?_
        refine lv_iload_n hx hb dX5_readLaw_37 rfl (lv_at hl 0 rfl) ?_
        refine lv_sipush (v := 200) hx hb dX5_readLaw_38 (by decide) ?_
        refine k_i h (q_runV (As := [.int r16, .int 200]) (rest := []) E h (c_X5_takeNumber l D cy a τ30 r16 200 n ((k30.1 3 (by decide)).trans hn) hn4 p30.2.1) co_X5_takeNumber ml_X5_63 im_X5_takeNumber se_X5_takeNumber in_X5 (eX_2 cy a τ30) rfl ok_X5_takeNumber rfl ⟨by decide, by decide⟩ hl.1 rfl (Nat.le_of_ble_eq_true rfl) dX5_readLaw_41 ⟨Nat.zero_le _, Nat.zero_le _⟩) (wX_fst cy a) (fun r41 τ41 H locs p41 h => ?_)
        refine lv_goto (tgt := 50) hx hb dX5_readLaw_44 (by decide) ?_
        exact jn50 r41 τ41 _ _ _ ⟨k30.tr p41.1, p41.2.1⟩ h (lv_sub hl [0, 1] rfl)
    · refine lv_iconst (v := 0) hx hb dX5_readLaw_25 (by decide) ?_
      exact t_z E h hr hk (Or.inl rfl) ⟨r_c k16, p16.2.1, Or.inl rfl, hd9.kept k16⟩ dX5_readLaw_26
  · refine lv_iconst (v := 0) hx hb dX5_readLaw_9 (by decide) ?_
    exact t_z E h hr hk (Or.inl rfl) ⟨r_c k3, p3.2.1, Or.inl rfl, hd9.kept k3⟩ dX5_readLaw_10

set_option maxHeartbeats 4000000 in
set_option maxRecDepth 100000 in
theorem c_X5_read (l : Launch) (D : va_G) (cy : Nat → ClassId) (a : Nat → Nat) (adK adV : Nat → Nat) (σ : St) (n : Nat) (hn : σ.1 3 = nI n) (hn4 : n ≤ 400) : ZI l yX5_read cX5_read 2 (some .boolean) (rmOf 7 151) D cy (wX cy a) (AX a) (SZ adK adV (AX a)) [.ref (a 2)] σ (fun r τ => K cF cA2 σ τ ∧ DRF τ ∧ (r = 0 ∨ r = 1)) := by
  refine z_of (lv := [(0, .ref (a 2))]) rfl (Nat.le_of_ble_eq_true rfl) rfl ?_
  intro p e s m args below meth c ls E h hr hk hl hz
  have hx := E.1
  have hb := E.2.1
  refine lv_aload_n hx hb dX5_read_0 rfl (lv_at hl 0 rfl) ?_
  refine lv_iconst (v := -1) hx hb dX5_read_1 (by decide) ?_
  refine r_put E h 4 (ty := .int) (eX_2 cy a σ) rfl fw_X5 tyX5_ok nmX5 (by decide) fl_X5_18 rfl (by decide +kernel) rfl rfl (Nat.le_of_ble_eq_true rfl) (sX_6 cy a σ (-1)) dX5_read_2 (fun H locs h => ?_)
  refine lv_aload_n hx hb dX5_read_5 rfl (lv_at hl 0 rfl) ?_
  refine r_get E h 1 (v := .ref (a 4)) (eX_2 cy a (fF σ 6 (-1))) rfl fw_X5 (by decide) fl_X5_12 rfl dX5_read_6 ?_
  refine k_v h (q_runV (As := []) (rest := []) E h (c_X4_clear_draft l D cy a (fF σ 6 (-1)) ) co_X4_clear ml_X5_26 im_X4_clear se_X4_clear in_X4 (eX_4 cy a (fF σ 6 (-1))) rfl ok_X4_clear rfl ⟨by decide, by decide⟩ hl.1 rfl (Nat.le_of_ble_eq_true rfl) dX5_read_9 ⟨Nat.zero_le _, Nat.zero_le _⟩) (wX_fst cy a) (fun τ9 H locs p9 h => ?_)
  subst p9
  refine lv_aload_n hx hb dX5_read_12 rfl (lv_at hl 0 rfl) ?_
  refine lv_iconst (v := 0) hx hb dX5_read_13 (by decide) ?_
  refine r_put E h 3 (ty := .int) (eX_2 cy a (fF (fF σ 6 (-1)) 8 0)) rfl fw_X5 tyX5_ok nmX5 (by decide) fl_X5_29 rfl (by decide +kernel) rfl rfl (Nat.le_of_ble_eq_true rfl) (sX_5 cy a (fF (fF σ 6 (-1)) 8 0) 0) dX5_read_14 (fun H locs h => ?_)
  refine lv_aload_n hx hb dX5_read_17 rfl (lv_at hl 0 rfl) ?_
  refine k_v h (q_runV (As := []) (rest := []) E h (c_X5_step l D cy a (fF (fF (fF σ 6 (-1)) 8 0) 5 0) n 0 hn hn4 rfl (Nat.zero_le _)) co_X5_step ml_X5_32 im_X5_step se_X5_step in_X5 (eX_2 cy a (fF (fF (fF σ 6 (-1)) 8 0) 5 0)) rfl ok_X5_step rfl ⟨by decide, by decide⟩ hl.1 rfl (Nat.le_of_ble_eq_true rfl) dX5_read_18 ⟨Nat.zero_le _, Nat.zero_le _⟩) (wX_fst cy a) (fun τ18 H locs p18 h => ?_)
  have k18 : K cF cA2 σ τ18 := (((K.rf.F 6 _ (by decide)).F 8 _ (by decide)).F 5 _ (by decide)).tr (r_c p18.1)
  have d18 : DRF τ18 := DRF.kept p18.1 ⟨0, by decide, rfl, fun i q => absurd q (Nat.not_lt_zero i)⟩
  refine lv_aload_n hx hb dX5_read_21 rfl (lv_at hl 0 rfl) ?_
  refine k_i h (q_runV (As := []) (rest := []) E h (c_X5_isAtEnd l D cy a τ18 ) co_X5_isAtEnd ml_X5_35 im_X5_isAtEnd se_X5_isAtEnd in_X5 (eX_2 cy a τ18) rfl ok_X5_isAtEnd rfl ⟨by decide, by decide⟩ hl.1 rfl (Nat.le_of_ble_eq_true rfl) dX5_read_22 ⟨Nat.zero_le _, Nat.zero_le _⟩) (wX_fst cy a) (fun r22 τ22 H locs p22 h => ?_)
  rw [p22.1] at h
  refine lv_if_eq (tgt := 51) hx hb dX5_read_25 (by decide) (fun c25 => ?_) (fun c25 => ?_)
  · refine lv_iconst (v := 0) hx hb dX5_read_51 (by decide) ?_
    refine lv_istore_n (lv' := [(1, .int 0), (0, .ref (a 2))]) hx hb dX5_read_52 rfl hl (by decide) rfl (fun ls hl => ?_)
    have lp53 : ∀ (f : Nat) (k : Nat) (ω : St) (H : Heap) (locs : List Loc) (ls : Array Slot), (k ≤ 30 ∧ K cF cA2 σ ω ∧ RD n ω ∧ DRF ω) → (30 - k) < f → HW D (AX a) s (wX cy a ω) H locs → lv_has ls 2 [(1, .int (nI k)), (0, .ref (a 2))] → W p l e (rmOf 7 151) s m args below meth c H locs 0 0 (MQ below (va_Qi (fun r τ => K cF cA2 σ τ ∧ DRF τ ∧ (r = 0 ∨ r = 1)) (fun u t => va_P D vwCl (wX cy a u) t.heap) (AX a)) args s 0 0 (AX a)) (F0 m 53 ls []) := by
      intro f
      induction f with
      | zero => intro k ω H locs ls _ hf; exact absurd hf (Nat.not_lt_zero _)
      | succ f ih53 =>
        intro k ω H locs ls hi53 hf53 h hl
        refine lv_iload_n hx hb dX5_read_53 rfl (lv_at hl 0 rfl) ?_
        refine lv_bipush (v := 30) hx hb dX5_read_54 (by decide) ?_
        refine lv_icmp_ge (tgt := 111) hx hb dX5_read_56 (by decide) (fun c56 => ?_) (fun c56 => ?_)
        · refine lv_aload_n hx hb dX5_read_111 rfl (lv_at hl 1 rfl) ?_
          refine k_i h (q_runV (As := []) (rest := []) E h (c_X5_cannotGoOn l D cy a ω ) co_X5_cannotGoOn ml_X5_44 im_X5_cannotGoOn se_X5_cannotGoOn in_X5 (eX_2 cy a ω) rfl ok_X5_cannotGoOn rfl ⟨by decide, by decide⟩ hl.1 rfl (Nat.le_of_ble_eq_true rfl) dX5_read_112 ⟨Nat.zero_le _, Nat.zero_le _⟩) (wX_fst cy a) (fun r112 τ112 H locs p112 h => ?_)
          refine t_z E h hr hk (Or.inl p112.1) ?_ dX5_read_115
          obtain ⟨rfl, rfl⟩ := p112
          exact ⟨hi53.2.1.F 6 _ (by decide), hi53.2.2.2, Or.inl rfl⟩
        · have c56 : k < 30 := Nat.lt_of_not_le fun q9 => c56 ((nI_leI (a := 30) (b := k) (by omega) (by omega)).mpr q9)
          refine lv_aload_n hx hb dX5_read_59 rfl (lv_at hl 1 rfl) ?_
          refine k_i h (z_runV (As := []) (rest := []) E h hz (sz_ok adK adV (AX a)) (c_X5_readLaw l D cy a adK adV ω n ((hi53.2.1.1 3 (by decide)).trans hn) hn4 hi53.2.2.1 hi53.2.2.2) co_X5_readLaw ml_X5_47 im_X5_readLaw se_X5_readLaw in_X5 (va_recv E.2.2.2.2.2.1 h.1 rfl (eX_2 cy a ω)) ok_X5_readLaw rfl ⟨by decide, by decide⟩ hl.1 rfl (Nat.le_of_ble_eq_true rfl) dX5_read_60 ⟨Nat.zero_le _, Nat.zero_le _⟩) (wX_fst cy a) (fun r60 τ60 H locs p60 h => ?_)
          have k60 : K cF cA2 σ τ60 := hi53.2.1.tr p60.1
          refine lv_if_ne (tgt := 71) hx hb dX5_read_63 (by decide) (fun c63 => ?_) (fun c63 => ?_)
          · refine lv_aload_n hx hb dX5_read_71 rfl (lv_at hl 1 rfl) ?_
            refine k_i h (q_runV (As := []) (rest := []) E h (c_X5_isAtEnd l D cy a τ60 ) co_X5_isAtEnd ml_X5_35 im_X5_isAtEnd se_X5_isAtEnd in_X5 (eX_2 cy a τ60) rfl ok_X5_isAtEnd rfl ⟨by decide, by decide⟩ hl.1 rfl (Nat.le_of_ble_eq_true rfl) dX5_read_72 ⟨Nat.zero_le _, Nat.zero_le _⟩) (wX_fst cy a) (fun r72 τ72 H locs p72 h => ?_)
            rw [p72.1] at h
            refine lv_if_eq (tgt := 80) hx hb dX5_read_75 (by decide) (fun c75 => ?_) (fun c75 => ?_)
            · refine lv_aload_n hx hb dX5_read_80 rfl (lv_at hl 1 rfl) ?_
              refine r_get E h 0 (v := .ref (a 1)) (eX_2 cy a τ60) rfl fw_X5 (by decide) fl_X5_22 rfl dX5_read_81 ?_
              refine lv_aload_n hx hb dX5_read_84 rfl (lv_at hl 1 rfl) ?_
              refine r_get E h 2 (v := .int (τ60.1 4)) (eX_2 cy a τ60) rfl fw_X5 (by decide) fl_X5_50 rfl dX5_read_85 ?_
              refine k_i h (q_runV (As := [.int (τ60.1 4)]) (rest := []) E h (c_X10_byteAt l D cy a τ60 (τ60.1 4) n ((k60.1 3 (by decide)).trans hn) hn4) co_X10_byteAt ml_X5_53 im_X10_byteAt se_X10_byteAt in_X10 (eX_1 cy a τ60) rfl ok_X10_byteAt rfl ⟨by decide, by decide⟩ hl.1 rfl (Nat.le_of_ble_eq_true rfl) dX5_read_88 ⟨Nat.zero_le _, Nat.zero_le _⟩) (wX_fst cy a) (fun r88 τ88 H locs p88 h => ?_)
              rw [p88.1] at h
              refine lv_bipush (v := 59) hx hb dX5_read_91 (by decide) ?_
              refine lv_icmp_eq (tgt := 101) hx hb dX5_read_93 (by decide) (fun c93 => ?_) (fun c93 => ?_)
              · obtain ⟨s9, t9, _, ht9, _, et⟩ := id p60.2.1
                refine lv_aload_n hx hb dX5_read_101 rfl (lv_at hl 1 rfl) ?_
                refine k_v h (q_runV (As := []) (rest := []) E h (c_X5_step l D cy a τ60 n t9 ((k60.1 3 (by decide)).trans hn) hn4 et ht9) co_X5_step ml_X5_32 im_X5_step se_X5_step in_X5 (eX_2 cy a τ60) rfl ok_X5_step rfl ⟨by decide, by decide⟩ hl.1 rfl (Nat.le_of_ble_eq_true rfl) dX5_read_102 ⟨Nat.zero_le _, Nat.zero_le _⟩) (wX_fst cy a) (fun τ102 H locs p102 h => ?_)
                refine lv_iinc (v := nI (k + 1)) (lv' := [(1, .int (nI (k + 1))), (0, .ref (a 2))]) hx hb dX5_read_105 hl (k := 0) rfl (nI_succ k).symm (by decide) rfl (fun ls hl => ?_)
                refine lv_goto (tgt := 53) hx hb dX5_read_108 (by decide) ?_
                exact ih53 (k + 1) τ102 _ _ _ ⟨by omega, k60.tr (r_c p102.1), p102.2, DRF.kept p102.1 p60.2.2.2⟩ (by omega) h (lv_sub hl [0, 1] rfl)
              · refine lv_aload_n hx hb dX5_read_96 rfl (lv_at hl 1 rfl) ?_
                refine k_i h (q_runV (As := []) (rest := []) E h (c_X5_cannotGoOn l D cy a τ60 ) co_X5_cannotGoOn ml_X5_44 im_X5_cannotGoOn se_X5_cannotGoOn in_X5 (eX_2 cy a τ60) rfl ok_X5_cannotGoOn rfl ⟨by decide, by decide⟩ hl.1 rfl (Nat.le_of_ble_eq_true rfl) dX5_read_97 ⟨Nat.zero_le _, Nat.zero_le _⟩) (wX_fst cy a) (fun r97 τ97 H locs p97 h => ?_)
                refine t_z E h hr hk (Or.inl p97.1) ?_ dX5_read_100
                obtain ⟨rfl, rfl⟩ := p97
                exact ⟨k60.F 6 _ (by decide), p60.2.2.2, Or.inl rfl⟩
            · refine lv_iconst (v := 1) hx hb dX5_read_78 (by decide) ?_
              exact t_z E h hr hk (Or.inr rfl) ⟨k60, p60.2.2.2, Or.inr rfl⟩ dX5_read_79
          · refine lv_aload_n hx hb dX5_read_66 rfl (lv_at hl 1 rfl) ?_
            refine k_i h (q_runV (As := []) (rest := []) E h (c_X5_cannotGoOn l D cy a τ60 ) co_X5_cannotGoOn ml_X5_44 im_X5_cannotGoOn se_X5_cannotGoOn in_X5 (eX_2 cy a τ60) rfl ok_X5_cannotGoOn rfl ⟨by decide, by decide⟩ hl.1 rfl (Nat.le_of_ble_eq_true rfl) dX5_read_67 ⟨Nat.zero_le _, Nat.zero_le _⟩) (wX_fst cy a) (fun r67 τ67 H locs p67 h => ?_)
            refine t_z E h hr hk (Or.inl p67.1) ?_ dX5_read_70
            obtain ⟨rfl, rfl⟩ := p67
            exact ⟨k60.F 6 _ (by decide), p60.2.2.2, Or.inl rfl⟩
    exact lp53 _ 0 τ18 _ _ _ ⟨by decide, k18, p18.2, d18⟩ (Nat.lt_succ_self _) h (lv_sub hl [0, 1] rfl)
  · refine lv_aload_n hx hb dX5_read_28 rfl (lv_at hl 0 rfl) ?_
    refine r_get E h 0 (v := .ref (a 1)) (eX_2 cy a τ18) rfl fw_X5 (by decide) fl_X5_22 rfl dX5_read_29 ?_
    refine r_get E h 1 (v := .int (τ18.1 3)) (eX_1 cy a τ18) rfl fw_X10 (by decide) fl_X5_39 rfl dX5_read_32 ?_
    refine lv_if_gt (tgt := 45) hx hb dX5_read_35 (by decide) (fun c35 => ?_) (fun c35 => ?_)
    · refine lv_iconst (v := 1) hx hb dX5_read_45 (by decide) ?_
      refine lv_goto (tgt := 50) hx hb dX5_read_46 (by decide) ?_
      refine t_z E h hr hk (Or.inr rfl) ?_ dX5_read_50
      exact ⟨k18, d18, Or.inr rfl⟩
    · refine lv_aload_n hx hb dX5_read_38 rfl (lv_at hl 0 rfl) ?_
      refine k_i h (q_runV (As := []) (rest := []) E h (c_X5_cannotGoOn l D cy a τ18 ) co_X5_cannotGoOn ml_X5_44 im_X5_cannotGoOn se_X5_cannotGoOn in_X5 (eX_2 cy a τ18) rfl ok_X5_cannotGoOn rfl ⟨by decide, by decide⟩ hl.1 rfl (Nat.le_of_ble_eq_true rfl) dX5_read_39 ⟨Nat.zero_le _, Nat.zero_le _⟩) (wX_fst cy a) (fun r39 τ39 H locs p39 h => ?_)
      refine lv_if_eq (tgt := 49) hx hb dX5_read_42 (by decide) (fun c42 => ?_) (fun c42 => ?_)
      · refine lv_iconst (v := 0) hx hb dX5_read_49 (by decide) ?_
        refine t_z E h hr hk (Or.inl rfl) ?_ dX5_read_50
        obtain ⟨_, rfl⟩ := p39
        exact ⟨k18.F 6 _ (by decide), d18, Or.inl rfl⟩
      · refine lv_iconst (v := 1) hx hb dX5_read_45 (by decide) ?_
        refine lv_goto (tgt := 50) hx hb dX5_read_46 (by decide) ?_
        refine t_z E h hr hk (Or.inr rfl) ?_ dX5_read_50
        obtain ⟨_, rfl⟩ := p39
        exact ⟨k18.F 6 _ (by decide), d18, Or.inr rfl⟩

theorem gx_laws {σ τ : St} (h3 : τ.1 3 = 0) (hb : gBook τ) (g : GX σ) (h : K [0, 1, 9, 10, 11, 12, 13, 14, 15] [29, 30, 31, 33, 34, 35, 36, 38, 39, 40, 41, 42, 43, 44, 45, 46, 47, 48, 49, 50, 51, 52, 53, 54, 55, 56, 57, 58, 59] σ τ) : GX τ := by
  obtain ⟨g1, g2, g3, g4, g5, g6, g7, g8⟩ := g
  refine ⟨?_, ?_, ?_, ?_, ?_, ?_, ?_, ?_⟩
  · exact ⟨0, by decide, h3⟩
  · exact hb
  · unfold gDeaths at *; rw [h.1 9 (by decide), h.2 29 (by decide)]; exact g3
  · unfold gSprings at *; rw [h.1 10 (by decide), h.1 11 (by decide), h.2 34 (by decide)]; exact g4
  · unfold gCastles at *; rw [h.1 12 (by decide), h.2 38 (by decide)]; exact g5
  · unfold gNozzles at *; rw [h.1 13 (by decide), h.2 42 (by decide), h.2 43 (by decide)]; exact g6
  · unfold gRest at *; rw [h.1 14 (by decide), h.1 15 (by decide), h.1 1 (by decide), h.1 0 (by decide)]; exact g7
  · unfold gGroups at *; rw [h.2 52 (by decide), h.2 53 (by decide), h.2 54 (by decide), h.2 55 (by decide), h.2 56 (by decide), h.2 57 (by decide), h.2 58 (by decide), h.2 59 (by decide)]; exact g8

set_option maxHeartbeats 4000000 in
set_option maxRecDepth 100000 in
theorem c_X11_laws (l : Launch) (D : va_G) (cy : Nat → ClassId) (a : Nat → Nat) (adK adV : Nat → Nat) (σ : St)  (g : GX σ) : ZI l yX11_laws cX11_laws 2 (some .int) (rmOf 8 172) D cy (wX cy a) (AX a) (SZ adK adV (AX a)) [.ref (a 0)] σ (fun _ τ => K [0, 1, 9, 10, 11, 12, 13, 14, 15] [29, 30, 31, 33, 34, 35, 36, 38, 39, 40, 41, 42, 43, 44, 45, 46, 47, 48, 49, 50, 51, 52, 53, 54, 55, 56, 57, 58, 59] σ τ ∧ GX τ ∧ τ.1 3 = 0) := by
  refine z_of (lv := [(0, .ref (a 0))]) rfl (Nat.le_of_ble_eq_true rfl) rfl ?_
  intro p e s m args below meth c ls E h hr hk hl hz
  have hx := E.1
  have hb := E.2.1
  obtain ⟨nx, hx4, hxt⟩ := g.1
  refine lv_aload_n hx hb dX11_laws_0 rfl (lv_at hl 0 rfl) ?_
  refine r_get E h 1 (v := .ref (a 2)) (eX_0 cy a σ) rfl fw_X11 (by decide) fl_X11_21 rfl dX11_laws_1 ?_
  refine k_i h (z_runV (As := []) (rest := []) E h hz (sz_ok adK adV (AX a)) (c_X5_read l D cy a adK adV σ nx hxt hx4) co_X5_read ml_X11_164 im_X5_read se_X5_read in_X5 (va_recv E.2.2.2.2.2.1 h.1 rfl (eX_2 cy a σ)) ok_X5_read rfl ⟨by decide, by decide⟩ hl.1 rfl (Nat.le_of_ble_eq_true rfl) dX11_laws_4 ⟨Nat.zero_le _, Nat.zero_le _⟩) (wX_fst cy a) (fun r4 τ4 H locs p4 h => ?_)
  refine lv_istore_n (lv' := [(1, .int r4), (0, .ref (a 0))]) hx hb dX11_laws_7 rfl hl (by decide) rfl (fun ls hl => ?_)
  refine lv_aload_n hx hb dX11_laws_8 rfl (lv_at hl 1 rfl) ?_
  refine r_get E h 0 (v := .ref (a 1)) (eX_0 cy a τ4) rfl fw_X11 (by decide) fl_X11_12 rfl dX11_laws_9 ?_
  refine lv_iconst (v := 0) hx hb dX11_laws_12 (by decide) ?_
  refine r_put E h 1 (ty := .int) (eX_1 cy a τ4) rfl fw_X10 tyX10_ok nmX10 (by decide) fl_X11_161 rfl (by decide +kernel) rfl rfl (Nat.le_of_ble_eq_true rfl) (sX_3 cy a τ4 0) dX11_laws_13 (fun H locs h => ?_)
  refine lv_iload_n hx hb dX11_laws_16 rfl (lv_at hl 0 rfl) ?_
  refine lv_if_ne (tgt := 27) hx hb dX11_laws_17 (by decide) (fun c17 => ?_) (fun c17 => ?_)
  · obtain ⟨d9, hd3, ed, hdl⟩ := id p4.2.1
    refine lv_aload_n hx hb dX11_laws_27 rfl (lv_at hl 1 rfl) ?_
    refine r_get E h 2 (v := .ref (a 3)) (eX_0 cy a (fF τ4 3 0)) rfl fw_X11 (by decide) fl_X11_28 rfl dX11_laws_28 ?_
    refine lv_aload_n hx hb dX11_laws_31 rfl (lv_at hl 1 rfl) ?_
    refine r_get E h 1 (v := .ref (a 2)) (eX_0 cy a (fF τ4 3 0)) rfl fw_X11 (by decide) fl_X11_21 rfl dX11_laws_32 ?_
    refine r_get E h 1 (v := .ref (a 4)) (eX_2 cy a (fF τ4 3 0)) rfl fw_X5 (by decide) fl_X11_168 rfl dX11_laws_35 ?_
    refine k_v h (q_runV (As := [.ref (a 4)]) (rest := []) E h (c_X4_copyFrom_book l D cy a (fF τ4 3 0) d9 ed hd3 hdl) co_X4_copyFrom ml_X11_171 im_X4_copyFrom se_X4_copyFrom in_X4 (eX_3 cy a (fF τ4 3 0)) rfl ok_X4_copyFrom rfl ⟨by decide, by decide⟩ hl.1 rfl (Nat.le_of_ble_eq_true rfl) dX11_laws_38 ⟨Nat.zero_le _, Nat.zero_le _⟩) (wX_fst cy a) (fun τ38 H locs p38 h => ?_)
    refine lv_aload_n hx hb dX11_laws_41 rfl (lv_at hl 1 rfl) ?_
    refine lv_aload_n hx hb dX11_laws_42 rfl (lv_at hl 1 rfl) ?_
    refine r_get E h 2 (v := .ref (a 3)) (eX_0 cy a τ38) rfl fw_X11 (by decide) fl_X11_28 rfl dX11_laws_43 ?_
    refine r_get E h 5 (v := .int (τ38.1 7)) (eX_3 cy a τ38) rfl fw_X4 (by decide) fl_X11_175 rfl dX11_laws_46 ?_
    refine k_i h (q_runV (As := [.int (τ38.1 7)]) (rest := []) E h (c_X11_told l D cy a τ38 (τ38.1 7)) co_X11_told ml_X11_90 im_X11_told se_X11_told in_X11 (eX_0 cy a τ38) rfl ok_X11_told rfl ⟨by decide, by decide⟩ hl.1 rfl (Nat.le_of_ble_eq_true rfl) dX11_laws_49 ⟨Nat.zero_le _, Nat.zero_le _⟩) (wX_fst cy a) (fun r49 τ49 H locs p49 h => ?_)
    refine t_i E h hr hk ?_ dX11_laws_52
    obtain ⟨rfl, rfl⟩ := p49
    have k9 : K [0, 1, 9, 10, 11, 12, 13, 14, 15] [29, 30, 31, 33, 34, 35, 36, 38, 39, 40, 41, 42, 43, 44, 45, 46, 47, 48, 49, 50, 51, 52, 53, 54, 55, 56, 57, 58, 59] σ (fF τ38 2 (if (0 : Int32) < τ38.1 7 then 0 else τ38.1 7)) := (((K.sub p4.1 (by decide) (by decide)).F 3 0 (by decide)).tr (K.sub p38.1 (by decide) (by decide))).F 2 _ (by decide)
    have e3 : τ38.1 3 = 0 := p38.1.1 3 (by decide)
    exact ⟨k9, gx_laws e3 p38.2.1 g k9, e3⟩
  · refine lv_aload_n hx hb dX11_laws_20 rfl (lv_at hl 1 rfl) ?_
    refine lv_bipush (v := -6) hx hb dX11_laws_21 (by decide) ?_
    refine k_i h (q_runV (As := [.int (-6)]) (rest := []) E h (c_X11_told l D cy a (fF τ4 3 0) (-6)) co_X11_told ml_X11_90 im_X11_told se_X11_told in_X11 (eX_0 cy a (fF τ4 3 0)) rfl ok_X11_told rfl ⟨by decide, by decide⟩ hl.1 rfl (Nat.le_of_ble_eq_true rfl) dX11_laws_23 ⟨Nat.zero_le _, Nat.zero_le _⟩) (wX_fst cy a) (fun r23 τ23 H locs p23 h => ?_)
    refine t_i E h hr hk ?_ dX11_laws_26
    obtain ⟨rfl, rfl⟩ := p23
    have k9 : K [0, 1, 9, 10, 11, 12, 13, 14, 15] [29, 30, 31, 33, 34, 35, 36, 38, 39, 40, 41, 42, 43, 44, 45, 46, 47, 48, 49, 50, 51, 52, 53, 54, 55, 56, 57, 58, 59] σ (fF (fF τ4 3 0) 2 (if (0 : Int32) < -6 then 0 else -6)) := ((K.sub p4.1 (by decide) (by decide)).F 3 _ (by decide)).F 2 _ (by decide)
    exact ⟨k9, gx_laws rfl (g.kept (k2 p4.1)).2.1 g k9, rfl⟩
