theorem n_pos {k : Nat} (h : k < 2 ^ 31) : ¬ nI k < 0 := nI_pos h
set_option maxHeartbeats 4000000 in
set_option maxRecDepth 100000 in
theorem c_J3_checkIndex (l : Launch) (D : va_G) (cy : Nat → ClassId) {wf : St → va_W} {A : Nat → Prop} (adK adV : Nat → Nat) (σ : St) (k n : Nat) (o : Option Nat) (hk9 : k < n) (hn9 : n < 1000) : ZI l yJ3_checkIndex_8e157 cJ3_checkIndex_8e157 3 (some .int) (rmOf 0 0) D cy wf A (SZ adK adV A) [.int (nI k), .int (nI n), va_rf o] σ (fun _ τ => τ = σ ∧ True) := by
  cases o with
  | none =>
    refine z_of (lv := [(0, .int (nI k)), (1, .int (nI n)), (2, .null)]) rfl (Nat.le_of_ble_eq_true rfl) rfl ?_
    intro p e s m args below meth c ls E h hr hk hl hz
    have hx := E.1
    have hb := E.2.1
    refine lv_iload_n hx hb dJ3_checkIndex_8e157_0 rfl (lv_at hl 0 rfl) ?_
    refine lv_if_lt (tgt := 9) hx hb dJ3_checkIndex_8e157_1 (by decide) (fun c1 => absurd c1 (n_pos (by omega))) (fun c1 => ?_)
    refine lv_iload_n hx hb dJ3_checkIndex_8e157_4 rfl (lv_at hl 0 rfl) ?_
    refine lv_iload_n hx hb dJ3_checkIndex_8e157_5 rfl (lv_at hl 1 rfl) ?_
    refine lv_icmp_lt (tgt := 16) hx hb dJ3_checkIndex_8e157_6 (by decide) (fun c6 => ?_) (fun c6 => absurd ((nI_ltI (by omega) (by omega)).mpr hk9) c6)
    refine lv_iload_n hx hb dJ3_checkIndex_8e157_16 rfl (lv_at hl 0 rfl) ?_
    exact t_i E h hr hk ⟨rfl, trivial⟩ dJ3_checkIndex_8e157_17
  | some t =>
    refine z_of (lv := [(0, .int (nI k)), (1, .int (nI n)), (2, .ref t)]) rfl (Nat.le_of_ble_eq_true rfl) rfl ?_
    intro p e s m args below meth c ls E h hr hk hl hz
    have hx := E.1
    have hb := E.2.1
    refine lv_iload_n hx hb dJ3_checkIndex_8e157_0 rfl (lv_at hl 0 rfl) ?_
    refine lv_if_lt (tgt := 9) hx hb dJ3_checkIndex_8e157_1 (by decide) (fun c1 => absurd c1 (n_pos (by omega))) (fun c1 => ?_)
    refine lv_iload_n hx hb dJ3_checkIndex_8e157_4 rfl (lv_at hl 0 rfl) ?_
    refine lv_iload_n hx hb dJ3_checkIndex_8e157_5 rfl (lv_at hl 1 rfl) ?_
    refine lv_icmp_lt (tgt := 16) hx hb dJ3_checkIndex_8e157_6 (by decide) (fun c6 => ?_) (fun c6 => absurd ((nI_ltI (by omega) (by omega)).mpr hk9) c6)
    refine lv_iload_n hx hb dJ3_checkIndex_8e157_16 rfl (lv_at hl 0 rfl) ?_
    exact t_i E h hr hk ⟨rfl, trivial⟩ dJ3_checkIndex_8e157_17
set_option maxHeartbeats 4000000 in
set_option maxRecDepth 100000 in
theorem c_J0_checkIndex (l : Launch) (D : va_G) (cy : Nat → ClassId) {wf : St → va_W} {A : Nat → Prop} (hwf : ∀ σ σ' : St, (wf σ').map (fun q => q.1) = (wf σ).map (fun q => q.1)) (adK adV : Nat → Nat) (σ : St) (k n : Nat) (hk9 : k < n) (hn9 : n < 1000) : ZV l yJ0_checkIndex_df160 cJ0_checkIndex_df160 2 none (rmOf 1 22) D cy wf A (SZ adK adV A) [.int (nI k), .int (nI n)] σ (fun τ => τ = σ) := by
  refine z_of (lv := [(0, .int (nI k)), (1, .int (nI n))]) rfl (Nat.le_of_ble_eq_true rfl) rfl ?_
  intro p e s m args below meth c ls E h hr hk hl hz
  have hx := E.1
  have hb := E.2.1
  refine lv_iload_n hx hb dJ0_checkIndex_df160_0 rfl (lv_at hl 0 rfl) ?_
  refine lv_iload_n hx hb dJ0_checkIndex_df160_1 rfl (lv_at hl 1 rfl) ?_
  have go : ∀ o : Option Nat, W p l e (rmOf 1 22) s m args below meth c s.heap [] 0 0 (MQ below (va_Qv (fun τ => τ = σ) (fun u t => va_P D vwCl (wf u) t.heap) A) args s 0 0 A) (F0 m 5 ls [va_rf o, .int (nI n), .int (nI k)]) := by
    intro o
    refine k_i h (z_runS (As := [.int (nI k), .int (nI n), va_rf o]) (rest := []) E h hz (sz_ok adK adV A) (c_J3_checkIndex l D cy adK adV σ k n o hk9 hn9) co_J3_checkIndex_8e157 ml_J0_1059 st_J3_checkIndex_8e157 in_J3 ok_J3_checkIndex_8e157 rfl ⟨by decide, by decide⟩ hl.1 rfl (Nat.le_of_ble_eq_true rfl) dJ0_checkIndex_df160_5 ⟨Nat.zero_le _, Nat.zero_le _⟩) hwf (fun r5 τ5 H locs p5 h => ?_)
    rw [p5.1] at h
    refine lv_pop hx hb dJ0_checkIndex_df160_8 rfl ?_
    exact t_v E h hr hk rfl dJ0_checkIndex_df160_9
  rcases hz.2.2.2 with hq | ⟨t, hq⟩
  · refine va_gets hx hb hq h.2.2 E.2.2.2.1 (E.2.2.2.2.1 _ fl_J0_1053) (fun _ h => h) dJ0_checkIndex_df160_2 ?_
    exact go none
  · refine va_gets hx hb hq h.2.2 E.2.2.2.1 (E.2.2.2.2.1 _ fl_J0_1053) (fun _ h => h) dJ0_checkIndex_df160_2 ?_
    exact go (some t)
set_option maxHeartbeats 4000000 in
set_option maxRecDepth 100000 in
theorem c_J1_charAt (l : Launch) (D : va_G) (cy : Nat → ClassId) {wf : St → va_W} {A : Nat → Prop} (hwf : ∀ σ σ' : St, (wf σ').map (fun q => q.1) = (wf σ).map (fun q => q.1)) (adK adV : Nat → Nat) (σ : St) (i k : Nat) (hi : i < 11) (hk9 : k < sLen.getD i 0) (hn9 : sLen.getD i 0 < 1000) : ZI l yJ1_charAt_3b067 cJ1_charAt_3b067 2 (some .char) (rmOf 2 43) D cy wf A (SZ adK adV A) [.ref (adV i), .int (nI k)] σ (fun r τ => τ = σ ∧ narrow .char (.int r) = .int r) := by
  refine z_of (lv := [(0, .ref (adV i)), (1, .int (nI k))]) rfl (Nat.le_of_ble_eq_true rfl) rfl ?_
  intro p e s m args below meth c ls E h hr hk hl hz
  have hx := E.1
  have hb := E.2.1
  refine lv_iload_n hx hb dJ1_charAt_3b067_0 rfl (lv_at hl 1 rfl) ?_
  refine lv_aload_n hx hb dJ1_charAt_3b067_1 rfl (lv_at hl 0 rfl) ?_
  refine va_tlen hx hb (hz.1.1 i hi).2.2.2 h.2.2 (v := nI (sLen.getD i 0)) rfl dJ1_charAt_3b067_2 ?_
  refine k_v h (z_runS (As := [.int (nI k), .int (nI (sLen.getD i 0))]) (rest := []) E h hz (sz_ok adK adV A) (c_J0_checkIndex l D cy hwf adK adV σ k (sLen.getD i 0) hk9 hn9) co_J0_checkIndex_df160 ml_J1_9 st_J0_checkIndex_df160 in_J0 ok_J0_checkIndex_df160 rfl ⟨by decide, by decide⟩ hl.1 rfl (Nat.le_of_ble_eq_true rfl) dJ1_charAt_3b067_3 ⟨Nat.zero_le _, Nat.zero_le _⟩) hwf (fun τ3 H locs p3 h => ?_)
  rw [p3] at h
  refine lv_aload_n hx hb dJ1_charAt_3b067_6 rfl (lv_at hl 0 rfl) ?_
  refine lv_iload_n hx hb dJ1_charAt_3b067_7 rfl (lv_at hl 1 rfl) ?_
  refine va_tb hx hb (hz.1.1 i hi).2.2.2 h.2.2 (vp_in_nI hk9 (by omega)) rfl dJ1_charAt_3b067_8 ?_
  refine lv_sipush (v := 255) hx hb dJ1_charAt_3b067_9 (by decide) ?_
  refine lv_iand hx hb dJ1_charAt_3b067_12 ?_
  refine lv_i2c hx hb dJ1_charAt_3b067_13 rfl ?_
  exact t_n E h hr hk (pk_nc _) ⟨rfl, pk_nc _⟩ dJ1_charAt_3b067_14
set_option maxHeartbeats 4000000 in
set_option maxRecDepth 100000 in
theorem c_J0_charAt (l : Launch) (D : va_G) (cy : Nat → ClassId) {wf : St → va_W} {A : Nat → Prop} (hwf : ∀ σ σ' : St, (wf σ').map (fun q => q.1) = (wf σ).map (fun q => q.1)) (adK adV : Nat → Nat) (σ : St) (i k : Nat) (hi : i < 11) (hk9 : k < sLen.getD i 0) (hn9 : sLen.getD i 0 < 1000) : ZI l yJ0_charAt_5068e cJ0_charAt_5068e 2 (some .char) (rmOf 3 64) D cy wf A (SZ adK adV A) [.ref (adK i), .int (nI k)] σ (fun _ τ => τ = σ ∧ True) := by
  refine z_of (lv := [(0, .ref (adK i)), (1, .int (nI k))]) rfl (Nat.le_of_ble_eq_true rfl) rfl ?_
  intro p e s m args below meth c ls E h hr hk hl hz
  have hx := E.1
  have hb := E.2.1
  refine lv_aload_n hx hb dJ0_charAt_5068e_0 rfl (lv_at hl 0 rfl) ?_
  refine k_i h (z_runV (As := []) (rest := []) E h hz (sz_ok adK adV A) (c_J0_isLatin1 l D cy adK adV σ i hi) co_J0_isLatin1_aae02 ml_J0_492 im_J0_isLatin1_aae02 se_J0_isLatin1_aae02 in_J0 (vk_recv hz.1 hi h.2.2) ok_J0_isLatin1_aae02 rfl ⟨by decide, by decide⟩ hl.1 rfl (Nat.le_of_ble_eq_true rfl) dJ0_charAt_5068e_1 ⟨Nat.zero_le _, Nat.zero_le _⟩) hwf (fun r1 τ1 H locs p1 h => ?_)
  rw [p1.1] at h
  refine lv_if_eq (tgt := 16) hx hb dJ0_charAt_5068e_4 (by decide) (fun c4 => absurd (c4.symm.trans p1.2) (by decide)) (fun c4 => ?_)
  refine lv_aload_n hx hb dJ0_charAt_5068e_7 rfl (lv_at hl 0 rfl) ?_
  refine vk_getf hx hb (hz.1.1 i hi).2.2.1 h.2.2 E.2.2.2.1 (E.2.2.2.2.1 _ fl_J0_9) (fun _ h => h) dJ0_charAt_5068e_8 ?_
  refine lv_iload_n hx hb dJ0_charAt_5068e_11 rfl (lv_at hl 1 rfl) ?_
  refine k_i h (z_runS (As := [.ref (adV i), .int (nI k)]) (rest := []) E h hz (sz_ok adK adV A) (c_J1_charAt l D cy hwf adK adV σ i k hi hk9 hn9) co_J1_charAt_3b067 ml_J0_495 st_J1_charAt_3b067 in_J1 ok_J1_charAt_3b067 rfl ⟨by decide, by decide⟩ hl.1 rfl (Nat.le_of_ble_eq_true rfl) dJ0_charAt_5068e_12 ⟨Nat.zero_le _, Nat.zero_le _⟩) hwf (fun r12 τ12 H locs p12 h => ?_)
  rw [p12.1] at h
  exact t_n E h hr hk p12.2 ⟨rfl, trivial⟩ dJ0_charAt_5068e_15
