
theorem in_5 {x : Int32} (h : vp_in x 3) : vp_in (5 + x) 8 := by
  obtain ⟨j, hj, rfl⟩ := vp_in_of h (by decide)
  rw [show (5 : Int32) + nI j = nI (5 + j) from nI_add 5 j]
  exact vp_in_nI (by omega) (by decide)
theorem cl_5 {x : Int32} (h : vp_in x 3) : (5 + x).toNatClampNeg ≠ 0 := by
  obtain ⟨j, hj, rfl⟩ := vp_in_of h (by decide)
  rw [show (5 : Int32) + nI j = nI (5 + j) from nI_add 5 j, nI_clamp (by omega)]
  omega
theorem upd_0 {f : Nat → Int32} {i : Nat} (h : 0 < i → f 0 = 0) : upd f i 0 0 = 0 := by
  by_cases e : i = 0
  · subst e; exact upd_s
  · rw [upd_n (fun q => e q.symm)]; exact h (Nat.pos_of_ne_zero e)
theorem cf_0 {f : Nat → Int32} (h : f 0 = 0) : vp_in (upd f 4 (-1) 0) 3 := by
  rw [upd_n (by decide), h]
  exact vp_in_nI (n := 0) (by decide) (by decide)
theorem cf_5 {f : Nat → Int32} {v x : Int32} (hv : vp_in v 3) (h : vp_in (f 0) 3) : vp_in (upd f (5 + v).toNatClampNeg x 0) 3 := by
  rw [upd_n (fun q => cl_5 hv q.symm)]
  exact h
theorem cf_k {f : Nat → Int32} {k v : Int32} (hL : LAWOK k v) (h : vp_in (f 0) 3) : vp_in (upd f k.toNatClampNeg v 0) 3 := by
  by_cases e : k.toNatClampNeg = 0
  · rw [e, upd_s]
    obtain ⟨j, hj, rfl⟩ := vp_in_of hL.1 (by decide)
    rw [nI_clamp (by omega)] at e
    subst e
    exact hL.2.2 rfl
  · rw [upd_n (fun q => e q.symm)]
    exact h
theorem laws_add {f f2 : Nat → Int32} {k v : Int32} {i : Nat} (h : ∀ j, j < i → LAWOK (f j) (f2 j)) (hk : LAWOK k v) : ∀ j, j < i + 1 → LAWOK (upd f i k j) (upd f2 i v j) := by
  intro j hj
  by_cases e : j = i
  · subst e; rw [upd_s, upd_s]; exact hk
  · rw [upd_n e, upd_n e]; exact h j (by omega)
theorem shi_l {f : Nat → Int32} {z B i : Nat} {x : Int32} (h : ∀ i, i < z → vp_in (f i) B) (hx : vp_in x B) (hi : i < z + 1) : vp_in (upd f z x i) B := by
  by_cases e : i = z
  · subst e; rw [upd_s]; exact hx
  · rw [upd_n e]; exact h i (by omega)
theorem ne64 {x : Int32} (h : 0 < x) : ¬ x.toInt64 = 0 := by
  intro q
  have e : x.toInt64.toInt = (0 : Int64).toInt := by rw [q]
  rw [Int32.toInt_toInt64] at e
  rw [z_lt] at h
  have e0 : (0 : Int64).toInt = 0 := rfl
  have e1 : (0 : Int32).toInt = 0 := rfl
  omega
def KS (σ τ : St) : Prop := K (16 :: 17 :: cF) (60 :: 61 :: cA2) σ τ
theorem KS.sh {σ τ : St} {B : Nat} (h : KS σ τ) (hs : SHI B σ) : SHI B τ := by
  unfold SHI at *
  rw [h.1 17 (by decide), h.2 60 (by decide)]
  exact hs
theorem KS.k {σ τ : St} (h : KS σ τ) : K cF cA2 σ τ := K.sub h (by decide) (by decide)

set_option maxHeartbeats 4000000 in
set_option maxRecDepth 100000 in
theorem c_X4_isAboveMost_book (l : Launch) (D : va_G) (cy : Nat → ClassId) (a : Nat → Nat) (σ : St) (x : Int32)  : CI l yX4_isAboveMost cX4_isAboveMost 2 (some .boolean) (rmOf 0 0) D cy (wX cy a) (AX a) [.ref (a 3), .int x] σ (fun r τ => τ = σ ∧ (r = 0 ∨ r = 1)) := by
  refine c_of (lv := [(0, .ref (a 3)), (1, .int x)]) rfl (Nat.le_of_ble_eq_true rfl) rfl ?_
  intro p e s m args below meth c ls E h hr hk hl
  have hx := E.1
  have hb := E.2.1
  refine lv_aload_n hx hb dX4_isAboveMost_0 rfl (lv_at hl 0 rfl) ?_
  refine r_get E h 4 (v := .ref (a 23)) (eX_3 cy a σ) rfl fw_X4 (by decide) fl_X4_24 rfl dX4_isAboveMost_1 ?_
  refine lv_iconst (v := 4) hx hb dX4_isAboveMost_4 (by decide) ?_
  refine r_ialdN E h (f := σ.2.1 23) (eX_23 cy a σ) (j := 4) (by decide) (by decide) (v := σ.2.1 23 4) rfl dX4_isAboveMost_5 ?_
  refine lv_iconst (v := -1) hx hb dX4_isAboveMost_6 (by decide) ?_
  refine lv_icmp_eq (tgt := 24) hx hb dX4_isAboveMost_7 (by decide) (fun c7 => ?_) (fun c7 => ?_)
  · refine lv_iconst (v := 0) hx hb dX4_isAboveMost_24 (by decide) ?_
    exact t_z E h hr hk (Or.inl rfl) ⟨rfl, Or.inl rfl⟩ dX4_isAboveMost_25
  · refine lv_iload_n hx hb dX4_isAboveMost_10 rfl (lv_at hl 1 rfl) ?_
    refine lv_aload_n hx hb dX4_isAboveMost_11 rfl (lv_at hl 0 rfl) ?_
    refine r_get E h 4 (v := .ref (a 23)) (eX_3 cy a σ) rfl fw_X4 (by decide) fl_X4_24 rfl dX4_isAboveMost_12 ?_
    refine lv_iconst (v := 4) hx hb dX4_isAboveMost_15 (by decide) ?_
    refine r_ialdN E h (f := σ.2.1 23) (eX_23 cy a σ) (j := 4) (by decide) (by decide) (v := σ.2.1 23 4) rfl dX4_isAboveMost_16 ?_
    refine lv_icmp_le (tgt := 24) hx hb dX4_isAboveMost_17 (by decide) (fun c17 => ?_) (fun c17 => ?_)
    · refine lv_iconst (v := 0) hx hb dX4_isAboveMost_24 (by decide) ?_
      exact t_z E h hr hk (Or.inl rfl) ⟨rfl, Or.inl rfl⟩ dX4_isAboveMost_25
    · refine lv_iconst (v := 1) hx hb dX4_isAboveMost_20 (by decide) ?_
      refine lv_goto (tgt := 25) hx hb dX4_isAboveMost_21 (by decide) ?_
      exact t_z E h hr hk (Or.inr rfl) ⟨rfl, Or.inr rfl⟩ dX4_isAboveMost_25

set_option maxHeartbeats 4000000 in
set_option maxRecDepth 100000 in
theorem c_X4_isClosed_book (l : Launch) (D : va_G) (cy : Nat → ClassId) (a : Nat → Nat) (σ : St) (x : Int32) (hx3 : vp_in x 3) : CI l yX4_isClosed cX4_isClosed 2 (some .boolean) (rmOf 0 0) D cy (wX cy a) (AX a) [.ref (a 3), .int x] σ (fun r τ => τ = σ ∧ (r = 0 ∨ r = 1)) := by
  refine c_of (lv := [(0, .ref (a 3)), (1, .int x)]) rfl (Nat.le_of_ble_eq_true rfl) rfl ?_
  intro p e s m args below meth c ls E h hr hk hl
  have hx := E.1
  have hb := E.2.1
  refine lv_aload_n hx hb dX4_isClosed_0 rfl (lv_at hl 0 rfl) ?_
  refine r_get E h 4 (v := .ref (a 23)) (eX_3 cy a σ) rfl fw_X4 (by decide) fl_X4_24 rfl dX4_isClosed_1 ?_
  refine lv_iconst (v := 5) hx hb dX4_isClosed_4 (by decide) ?_
  refine lv_iload_n hx hb dX4_isClosed_5 rfl (lv_at hl 1 rfl) ?_
  refine lv_iadd hx hb dX4_isClosed_6 ?_
  refine r_iald E h (f := σ.2.1 23) (eX_23 cy a σ) (in_5 hx3) dX4_isClosed_7 ?_
  refine lv_if_eq (tgt := 15) hx hb dX4_isClosed_8 (by decide) (fun c8 => ?_) (fun c8 => ?_)
  · refine lv_iconst (v := 0) hx hb dX4_isClosed_15 (by decide) ?_
    exact t_z E h hr hk (Or.inl rfl) ⟨rfl, Or.inl rfl⟩ dX4_isClosed_16
  · refine lv_iconst (v := 1) hx hb dX4_isClosed_11 (by decide) ?_
    refine lv_goto (tgt := 16) hx hb dX4_isClosed_12 (by decide) ?_
    exact t_z E h hr hk (Or.inr rfl) ⟨rfl, Or.inr rfl⟩ dX4_isClosed_16

set_option maxHeartbeats 4000000 in
set_option maxRecDepth 100000 in
theorem c_X4_settle_book (l : Launch) (D : va_G) (cy : Nat → ClassId) (a : Nat → Nat) (σ : St) (y : Int32) (g : GX σ) : CV l yX4_settle cX4_settle 3 none (rmOf 1 22) D cy (wX cy a) (AX a) [.ref (a 3), .int y] σ (fun τ => K cF cA σ τ ∧ CF τ) := by
  refine c_of (lv := [(0, .ref (a 3)), (1, .int y)]) rfl (Nat.le_of_ble_eq_true rfl) rfl ?_
  intro p e s m args below meth c ls E h hr hk hl
  have hx := E.1
  have hb := E.2.1
  obtain ⟨n, hn3, hn, hL⟩ := g.2.1
  refine lv_iconst (v := 0) hx hb dX4_settle_0 (by decide) ?_
  refine lv_istore_n (lv' := [(2, .int 0), (0, .ref (a 3)), (1, .int y)]) hx hb dX4_settle_1 rfl hl (by decide) rfl (fun ls hl => ?_)
  have lp2 : ∀ (f : Nat) (i : Nat) (τ : St) (H : Heap) (locs : List Loc) (ls : Array Slot), (i ≤ 8 ∧ K cF cA σ τ ∧ (0 < i → τ.2.1 23 0 = 0)) → (8 - i) < f → HW D (AX a) s (wX cy a τ) H locs → lv_has ls 3 [(2, .int (nI i)), (0, .ref (a 3)), (1, .int y)] → W p l e (rmOf 1 22) s m args below meth c H locs 0 0 (MQ below (va_Qv (fun τ => K cF cA σ τ ∧ CF τ) (fun u t => va_P D vwCl (wX cy a u) t.heap) (AX a)) args s 0 0 (AX a)) (F0 m 2 ls []) := by
    intro f
    induction f with
    | zero => intro i τ H locs ls _ hf; exact absurd hf (Nat.not_lt_zero _)
    | succ f ih2 =>
      intro i τ H locs ls hi2 hf2 h hl
      refine lv_iload_n hx hb dX4_settle_2 rfl (lv_at hl 0 rfl) ?_
      refine lv_bipush (v := 8) hx hb dX4_settle_3 (by decide) ?_
      refine lv_icmp_ge (tgt := 21) hx hb dX4_settle_5 (by decide) (fun c5 => ?_) (fun c5 => ?_)
      · have c5 : 8 ≤ i := (nI_leI (a := 8) (b := i) (by omega) (by omega)).mp c5
        refine lv_aload_n hx hb dX4_settle_21 rfl (lv_at hl 1 rfl) ?_
        refine r_get E h 4 (v := .ref (a 23)) (eX_3 cy a τ) rfl fw_X4 (by decide) fl_X4_24 rfl dX4_settle_22 ?_
        refine lv_iconst (v := 4) hx hb dX4_settle_25 (by decide) ?_
        refine lv_iconst (v := -1) hx hb dX4_settle_26 (by decide) ?_
        refine r_iastN E h (f := τ.2.1 23) (eX_23 cy a τ) (j := 4) (by decide) (by decide) (qX_23 cy a τ (upd (τ.2.1 23) 4 (-1))) dX4_settle_27 (fun H locs h => ?_)
        refine lv_iconst (v := 0) hx hb dX4_settle_28 (by decide) ?_
        refine lv_istore_n (lv' := [(2, .int 0), (0, .ref (a 3)), (1, .int y)]) hx hb dX4_settle_29 rfl hl (by decide) rfl (fun ls hl => ?_)
        have lp30 : ∀ (f : Nat) (k : Nat) (υ : St) (H : Heap) (locs : List Loc) (ls : Array Slot), (k ≤ n ∧ K cF cA σ υ ∧ CF υ) → (n - k) < f → HW D (AX a) s (wX cy a υ) H locs → lv_has ls 3 [(2, .int (nI k)), (0, .ref (a 3)), (1, .int y)] → W p l e (rmOf 1 22) s m args below meth c H locs 0 0 (MQ below (va_Qv (fun τ => K cF cA σ τ ∧ CF τ) (fun u t => va_P D vwCl (wX cy a u) t.heap) (AX a)) args s 0 0 (AX a)) (F0 m 30 ls []) := by
          intro f
          induction f with
          | zero => intro k υ H locs ls _ hf; exact absurd hf (Nat.not_lt_zero _)
          | succ f ih30 =>
            intro k υ H locs ls hi30 hf30 h hl
            have hLk : ∀ i, i < n → LAWOK (υ.2.1 21 i) (υ.2.1 22 i) := by
              rw [hi30.2.1.2 21 (by decide), hi30.2.1.2 22 (by decide)]
              exact hL
            refine lv_iload_n hx hb dX4_settle_30 rfl (lv_at hl 0 rfl) ?_
            refine lv_aload_n hx hb dX4_settle_31 rfl (lv_at hl 1 rfl) ?_
            refine r_get E h 5 (v := .int (nI n)) (eX_3 cy a υ) rfl fw_X4 (by decide) fl_X4_27 (congrArg (fun z => some (Value.int z)) ((hi30.2.1.1 7 (by decide)).trans hn)) dX4_settle_32 ?_
            refine lv_icmp_ge (tgt := 110) hx hb dX4_settle_35 (by decide) (fun c35 => ?_) (fun c35 => ?_)
            · exact t_v E h hr hk ⟨hi30.2.1, hi30.2.2⟩ dX4_settle_110
            · have c35 : k < n := Nat.lt_of_not_le fun q9 => c35 ((nI_leI (a := n) (b := k) (by omega) (by omega)).mpr q9)
              refine lv_iload_n hx hb dX4_settle_38 rfl (lv_at hl 2 rfl) ?_
              refine lv_aload_n hx hb dX4_settle_39 rfl (lv_at hl 1 rfl) ?_
              refine r_get E h 0 (v := .ref (a 19)) (eX_3 cy a υ) rfl fw_X4 (by decide) fl_X4_9 rfl dX4_settle_40 ?_
              refine lv_iload_n hx hb dX4_settle_43 rfl (lv_at hl 0 rfl) ?_
              refine r_ialdN E h (f := υ.2.1 19) (eX_19 cy a υ) (j := k) (by omega) (by decide) (v := υ.2.1 19 k) rfl dX4_settle_44 ?_
              refine lv_aload_n hx hb dX4_settle_45 rfl (lv_at hl 1 rfl) ?_
              refine r_get E h 1 (v := .ref (a 20)) (eX_3 cy a υ) rfl fw_X4 (by decide) fl_X4_15 rfl dX4_settle_46 ?_
              refine lv_iload_n hx hb dX4_settle_49 rfl (lv_at hl 0 rfl) ?_
              refine r_ialdN E h (f := υ.2.1 20) (eX_20 cy a υ) (j := k) (by omega) (by decide) (v := υ.2.1 20 k) rfl dX4_settle_50 ?_
              refine k_i h (q_runSN (As := [.int y, .int (υ.2.1 19 k), .int (υ.2.1 20 k)]) (rest := []) E h (c_X11_isWithin l D cy a υ y (υ.2.1 19 k) (υ.2.1 20 k)) co_X11_isWithin nl_X4_38 st_X11_isWithin in_X11 ok_X11_isWithin rfl ⟨by decide, by decide⟩ hl.1 rfl (Nat.le_of_ble_eq_true rfl) dX4_settle_51 ⟨Nat.zero_le _, Nat.zero_le _⟩) (wX_fst cy a) (fun r51 τ51 H locs p51 h => ?_)
              rw [p51.1] at h
              refine lv_if_ne (tgt := 60) hx hb dX4_settle_54 (by decide) (fun c54 => ?_) (fun c54 => ?_)
              · refine lv_aload_n hx hb dX4_settle_60 rfl (lv_at hl 1 rfl) ?_
                refine r_get E h 2 (v := .ref (a 21)) (eX_3 cy a υ) rfl fw_X4 (by decide) fl_X4_18 rfl dX4_settle_61 ?_
                refine lv_iload_n hx hb dX4_settle_64 rfl (lv_at hl 0 rfl) ?_
                refine r_ialdN E h (f := υ.2.1 21) (eX_21 cy a υ) (j := k) (by omega) (by decide) (v := υ.2.1 21 k) rfl dX4_settle_65 ?_
                refine lv_iconst (v := 5) hx hb dX4_settle_66 (by decide) ?_
                refine lv_icmp_ne (tgt := 87) hx hb dX4_settle_67 (by decide) (fun c67 => ?_) (fun c67 => ?_)
                · refine lv_aload_n hx hb dX4_settle_87 rfl (lv_at hl 1 rfl) ?_
                  refine r_get E h 4 (v := .ref (a 23)) (eX_3 cy a υ) rfl fw_X4 (by decide) fl_X4_24 rfl dX4_settle_88 ?_
                  refine lv_aload_n hx hb dX4_settle_91 rfl (lv_at hl 1 rfl) ?_
                  refine r_get E h 2 (v := .ref (a 21)) (eX_3 cy a υ) rfl fw_X4 (by decide) fl_X4_18 rfl dX4_settle_92 ?_
                  refine lv_iload_n hx hb dX4_settle_95 rfl (lv_at hl 0 rfl) ?_
                  refine r_ialdN E h (f := υ.2.1 21) (eX_21 cy a υ) (j := k) (by omega) (by decide) (v := υ.2.1 21 k) rfl dX4_settle_96 ?_
                  refine lv_aload_n hx hb dX4_settle_97 rfl (lv_at hl 1 rfl) ?_
                  refine r_get E h 3 (v := .ref (a 22)) (eX_3 cy a υ) rfl fw_X4 (by decide) fl_X4_21 rfl dX4_settle_98 ?_
                  refine lv_iload_n hx hb dX4_settle_101 rfl (lv_at hl 0 rfl) ?_
                  refine r_ialdN E h (f := υ.2.1 22) (eX_22 cy a υ) (j := k) (by omega) (by decide) (v := υ.2.1 22 k) rfl dX4_settle_102 ?_
                  refine r_iast E h (f := υ.2.1 23) (eX_23 cy a υ) (in_le (hLk k c35).1 (by decide)) (qX_23 cy a υ (upd (υ.2.1 23) ((υ.2.1 21 k).toNatClampNeg) (υ.2.1 22 k))) dX4_settle_103 (fun H locs h => ?_)
                  refine lv_iinc (v := nI (k + 1)) (lv' := [(2, .int (nI (k + 1))), (0, .ref (a 3)), (1, .int y)]) hx hb dX4_settle_104 hl (k := 0) rfl (nI_succ k).symm (by decide) rfl (fun ls hl => ?_)
                  refine lv_goto (tgt := 30) hx hb dX4_settle_107 (by decide) ?_
                  exact ih30 (k + 1) (fR υ 23 (upd (υ.2.1 23) ((υ.2.1 21 k).toNatClampNeg) (υ.2.1 22 k))) _ _ _ ⟨by omega, hi30.2.1.R 23 _ (by decide), cf_k (hLk k c35) hi30.2.2⟩ (by omega) h (lv_sub hl [0, 1, 2] rfl)
                · refine lv_aload_n hx hb dX4_settle_70 rfl (lv_at hl 1 rfl) ?_
                  refine r_get E h 4 (v := .ref (a 23)) (eX_3 cy a υ) rfl fw_X4 (by decide) fl_X4_24 rfl dX4_settle_71 ?_
                  refine lv_iconst (v := 5) hx hb dX4_settle_74 (by decide) ?_
                  refine lv_aload_n hx hb dX4_settle_75 rfl (lv_at hl 1 rfl) ?_
                  refine r_get E h 3 (v := .ref (a 22)) (eX_3 cy a υ) rfl fw_X4 (by decide) fl_X4_21 rfl dX4_settle_76 ?_
                  refine lv_iload_n hx hb dX4_settle_79 rfl (lv_at hl 0 rfl) ?_
                  refine r_ialdN E h (f := υ.2.1 22) (eX_22 cy a υ) (j := k) (by omega) (by decide) (v := υ.2.1 22 k) rfl dX4_settle_80 ?_
                  refine lv_iadd hx hb dX4_settle_81 ?_
                  refine lv_iconst (v := 1) hx hb dX4_settle_82 (by decide) ?_
                  refine r_iast E h (f := υ.2.1 23) (eX_23 cy a υ) (in_5 ((hLk k c35).2.1 c67)) (qX_23 cy a υ (upd (υ.2.1 23) ((5 + (υ.2.1 22 k)).toNatClampNeg) 1)) dX4_settle_83 (fun H locs h => ?_)
                  refine lv_goto (tgt := 104) hx hb dX4_settle_84 (by decide) ?_
                  refine lv_iinc (v := nI (k + 1)) (lv' := [(2, .int (nI (k + 1))), (0, .ref (a 3)), (1, .int y)]) hx hb dX4_settle_104 hl (k := 0) rfl (nI_succ k).symm (by decide) rfl (fun ls hl => ?_)
                  refine lv_goto (tgt := 30) hx hb dX4_settle_107 (by decide) ?_
                  exact ih30 (k + 1) (fR υ 23 (upd (υ.2.1 23) ((5 + (υ.2.1 22 k)).toNatClampNeg) 1)) _ _ _ ⟨by omega, hi30.2.1.R 23 _ (by decide), cf_5 ((hLk k c35).2.1 c67) hi30.2.2⟩ (by omega) h (lv_sub hl [0, 1, 2] rfl)
              · refine lv_goto (tgt := 104) hx hb dX4_settle_57 (by decide) ?_
                refine lv_iinc (v := nI (k + 1)) (lv' := [(2, .int (nI (k + 1))), (0, .ref (a 3)), (1, .int y)]) hx hb dX4_settle_104 hl (k := 0) rfl (nI_succ k).symm (by decide) rfl (fun ls hl => ?_)
                refine lv_goto (tgt := 30) hx hb dX4_settle_107 (by decide) ?_
                exact ih30 (k + 1) υ _ _ _ ⟨by omega, hi30.2.1, hi30.2.2⟩ (by omega) h (lv_sub hl [0, 1, 2] rfl)
        exact lp30 _ 0 (fR τ 23 (upd (τ.2.1 23) 4 (-1))) _ _ _ ⟨Nat.zero_le _, hi2.2.1.R 23 _ (by decide), cf_0 (hi2.2.2 (by omega))⟩ (Nat.lt_succ_self _) h (lv_sub hl [0, 1, 2] rfl)
      · have c5 : i < 8 := Nat.lt_of_not_le fun q9 => c5 ((nI_leI (a := 8) (b := i) (by omega) (by omega)).mpr q9)
        refine lv_aload_n hx hb dX4_settle_8 rfl (lv_at hl 1 rfl) ?_
        refine r_get E h 4 (v := .ref (a 23)) (eX_3 cy a τ) rfl fw_X4 (by decide) fl_X4_24 rfl dX4_settle_9 ?_
        refine lv_iload_n hx hb dX4_settle_12 rfl (lv_at hl 0 rfl) ?_
        refine lv_iconst (v := 0) hx hb dX4_settle_13 (by decide) ?_
        refine r_iastN E h (f := τ.2.1 23) (eX_23 cy a τ) (j := i) c5 (by decide) (qX_23 cy a τ (upd (τ.2.1 23) i 0)) dX4_settle_14 (fun H locs h => ?_)
        refine lv_iinc (v := nI (i + 1)) (lv' := [(2, .int (nI (i + 1))), (0, .ref (a 3)), (1, .int y)]) hx hb dX4_settle_15 hl (k := 0) rfl (nI_succ i).symm (by decide) rfl (fun ls hl => ?_)
        refine lv_goto (tgt := 2) hx hb dX4_settle_18 (by decide) ?_
        exact ih2 (i + 1) (fR τ 23 (upd (τ.2.1 23) i 0)) _ _ _ ⟨by omega, hi2.2.1.R 23 _ (by decide), fun _ => upd_0 hi2.2.2⟩ (by omega) h (lv_sub hl [0, 1, 2] rfl)
  exact lp2 _ 0 σ _ _ _ ⟨by omega, K.rf, fun q => absurd q (by omega)⟩ (Nat.lt_succ_self _) h (lv_sub hl [0, 1, 2] rfl)

set_option maxHeartbeats 4000000 in
set_option maxRecDepth 100000 in
theorem c_X4_copyFrom_book (l : Launch) (D : va_G) (cy : Nat → ClassId) (a : Nat → Nat) (σ : St) (n : Nat) (hn : σ.1 8 = nI n) (hn3 : n ≤ 30) (hL : ∀ i, i < n → LAWOK (σ.2.1 26 i) (σ.2.1 27 i)) : CV l yX4_copyFrom cX4_copyFrom 3 none (rmOf 1 24) D cy (wX cy a) (AX a) [.ref (a 3), .ref (a 4)] σ (fun τ => K [0, 1, 3, 9, 10, 11, 12, 13, 14, 15] [18, 29, 30, 31, 33, 34, 35, 36, 38, 39, 40, 41, 42, 43, 44, 45, 46, 47, 48, 49, 50, 51, 52, 53, 54, 55, 56, 57, 58, 59] σ τ ∧ gBook τ ∧ τ.1 7 = nI n) := by
  refine c_of (lv := [(0, .ref (a 3)), (1, .ref (a 4))]) rfl (Nat.le_of_ble_eq_true rfl) rfl ?_
  intro p e s m args below meth c ls E h hr hk hl
  have hx := E.1
  have hb := E.2.1
  refine lv_aload_n hx hb dX4_copyFrom_0 rfl (lv_at hl 0 rfl) ?_
  refine k_v h (q_runV (As := []) (rest := []) E h (c_X4_clear_book l D cy a σ ) co_X4_clear ml_X4_31 im_X4_clear se_X4_clear in_X4 (eX_3 cy a σ) rfl ok_X4_clear rfl ⟨by decide, by decide⟩ hl.1 rfl (Nat.le_of_ble_eq_true rfl) dX4_copyFrom_1 ⟨Nat.zero_le _, Nat.zero_le _⟩) (wX_fst cy a) (fun τ1 H locs p1 h => ?_)
  subst p1
  refine lv_iconst (v := 0) hx hb dX4_copyFrom_4 (by decide) ?_
  refine lv_istore_n (lv' := [(2, .int 0), (0, .ref (a 3)), (1, .ref (a 4))]) hx hb dX4_copyFrom_5 rfl hl (by decide) rfl (fun ls hl => ?_)
  have lp6 : ∀ (f : Nat) (i : Nat) (τ : St) (H : Heap) (locs : List Loc) (ls : Array Slot), (i ≤ n ∧ K [0, 1, 3, 8, 9, 10, 11, 12, 13, 14, 15] [18, 24, 25, 26, 27, 29, 30, 31, 33, 34, 35, 36, 38, 39, 40, 41, 42, 43, 44, 45, 46, 47, 48, 49, 50, 51, 52, 53, 54, 55, 56, 57, 58, 59] σ τ ∧ τ.1 7 = nI i ∧ ∀ j, j < i → LAWOK (τ.2.1 21 j) (τ.2.1 22 j)) → (n - i) < f → HW D (AX a) s (wX cy a τ) H locs → lv_has ls 3 [(2, .int (nI i)), (0, .ref (a 3)), (1, .ref (a 4))] → W p l e (rmOf 1 24) s m args below meth c H locs 0 0 (MQ below (va_Qv (fun τ => K [0, 1, 3, 9, 10, 11, 12, 13, 14, 15] [18, 29, 30, 31, 33, 34, 35, 36, 38, 39, 40, 41, 42, 43, 44, 45, 46, 47, 48, 49, 50, 51, 52, 53, 54, 55, 56, 57, 58, 59] σ τ ∧ gBook τ ∧ τ.1 7 = nI n) (fun u t => va_P D vwCl (wX cy a u) t.heap) (AX a)) args s 0 0 (AX a)) (F0 m 6 ls []) := by
    intro f
    induction f with
    | zero => intro i τ H locs ls _ hf; exact absurd hf (Nat.not_lt_zero _)
    | succ f ih6 =>
      intro i τ H locs ls hi6 hf6 h hl
      refine lv_iload_n hx hb dX4_copyFrom_6 rfl (lv_at hl 0 rfl) ?_
      refine lv_aload_n hx hb dX4_copyFrom_7 rfl (lv_at hl 2 rfl) ?_
      refine r_get E h 5 (v := .int (nI n)) (eX_4 cy a τ) rfl fw_X4 (by decide) fl_X4_27 (congrArg (fun z => some (Value.int z)) ((hi6.2.1.1 8 (by decide)).trans hn)) dX4_copyFrom_8 ?_
      refine lv_icmp_ge (tgt := 48) hx hb dX4_copyFrom_11 (by decide) (fun c11 => ?_) (fun c11 => ?_)
      · have c11 : n ≤ i := (nI_leI (a := n) (b := i) (by omega) (by omega)).mp c11
        exact t_v E h hr hk ⟨K.sub hi6.2.1 (by decide) (by decide), ⟨i, by omega, hi6.2.2.1, hi6.2.2.2⟩, by rw [hi6.2.2.1, show i = n by omega]⟩ dX4_copyFrom_48
      · have c11 : i < n := Nat.lt_of_not_le fun q9 => c11 ((nI_leI (a := n) (b := i) (by omega) (by omega)).mpr q9)
        refine lv_aload_n hx hb dX4_copyFrom_14 rfl (lv_at hl 1 rfl) ?_
        refine lv_aload_n hx hb dX4_copyFrom_15 rfl (lv_at hl 2 rfl) ?_
        refine r_get E h 0 (v := .ref (a 24)) (eX_4 cy a τ) rfl fw_X4 (by decide) fl_X4_9 rfl dX4_copyFrom_16 ?_
        refine lv_iload_n hx hb dX4_copyFrom_19 rfl (lv_at hl 0 rfl) ?_
        refine r_ialdN E h (f := τ.2.1 24) (eX_24 cy a τ) (j := i) (by omega) (by decide) (v := τ.2.1 24 i) rfl dX4_copyFrom_20 ?_
        refine lv_aload_n hx hb dX4_copyFrom_21 rfl (lv_at hl 2 rfl) ?_
        refine r_get E h 1 (v := .ref (a 25)) (eX_4 cy a τ) rfl fw_X4 (by decide) fl_X4_15 rfl dX4_copyFrom_22 ?_
        refine lv_iload_n hx hb dX4_copyFrom_25 rfl (lv_at hl 0 rfl) ?_
        refine r_ialdN E h (f := τ.2.1 25) (eX_25 cy a τ) (j := i) (by omega) (by decide) (v := τ.2.1 25 i) rfl dX4_copyFrom_26 ?_
        refine lv_aload_n hx hb dX4_copyFrom_27 rfl (lv_at hl 2 rfl) ?_
        refine r_get E h 2 (v := .ref (a 26)) (eX_4 cy a τ) rfl fw_X4 (by decide) fl_X4_18 rfl dX4_copyFrom_28 ?_
        refine lv_iload_n hx hb dX4_copyFrom_31 rfl (lv_at hl 0 rfl) ?_
        refine r_ialdN E h (f := τ.2.1 26) (eX_26 cy a τ) (j := i) (by omega) (by decide) (v := τ.2.1 26 i) rfl dX4_copyFrom_32 ?_
        refine lv_aload_n hx hb dX4_copyFrom_33 rfl (lv_at hl 2 rfl) ?_
        refine r_get E h 3 (v := .ref (a 27)) (eX_4 cy a τ) rfl fw_X4 (by decide) fl_X4_21 rfl dX4_copyFrom_34 ?_
        refine lv_iload_n hx hb dX4_copyFrom_37 rfl (lv_at hl 0 rfl) ?_
        refine r_ialdN E h (f := τ.2.1 27) (eX_27 cy a τ) (j := i) (by omega) (by decide) (v := τ.2.1 27 i) rfl dX4_copyFrom_38 ?_
        refine k_v h (q_runV (As := [.int (τ.2.1 24 i), .int (τ.2.1 25 i), .int (τ.2.1 26 i), .int (τ.2.1 27 i)]) (rest := []) E h (c_X4_add_book l D cy a τ (τ.2.1 24 i) (τ.2.1 25 i) (τ.2.1 26 i) (τ.2.1 27 i) i hi6.2.2.1 (by omega)) co_X4_add ml_X4_34 im_X4_add se_X4_add in_X4 (eX_3 cy a τ) rfl ok_X4_add rfl ⟨by decide, by decide⟩ hl.1 rfl (Nat.le_of_ble_eq_true rfl) dX4_copyFrom_39 ⟨Nat.zero_le _, Nat.zero_le _⟩) (wX_fst cy a) (fun τ39 H locs p39 h => ?_)
        refine lv_iinc (v := nI (i + 1)) (lv' := [(2, .int (nI (i + 1))), (0, .ref (a 3)), (1, .ref (a 4))]) hx hb dX4_copyFrom_42 hl (k := 0) rfl (nI_succ i).symm (by decide) rfl (fun ls hl => ?_)
        refine lv_goto (tgt := 6) hx hb dX4_copyFrom_45 (by decide) ?_
        have hL9 : LAWOK (τ.2.1 26 i) (τ.2.1 27 i) := by
          rw [hi6.2.1.2 26 (by decide), hi6.2.1.2 27 (by decide)]
          exact hL i c11
        obtain ⟨q, _⟩ | ⟨_, e39⟩ := p39
        · exact absurd q (by omega)
        exact ih6 (i + 1) τ39 _ _ _ ⟨by omega, by rw [e39]; exact ((((hi6.2.1.R 19 _ (by decide)).R 20 _ (by decide)).R 21 _ (by decide)).R 22 _ (by decide)).F 7 _ (by decide), by rw [e39]; rfl, by rw [e39]; exact laws_add hi6.2.2.2 hL9⟩ (by omega) h (lv_sub hl [0, 1, 2] rfl)
  exact lp6 _ 0 (fF σ 7 0) _ _ _ ⟨Nat.zero_le _, K.rf.F 7 _ (by decide), rfl, fun j q => absurd q (Nat.not_lt_zero j)⟩ (Nat.lt_succ_self _) h (lv_sub hl [0, 1, 2] rfl)

set_option maxHeartbeats 4000000 in
set_option maxRecDepth 100000 in
theorem c_X1_settle (l : Launch) (D : va_G) (cy : Nat → ClassId) (a : Nat → Nat) (σ : St) (y : Int32) (g : GX σ) : CV l yX1_settle cX1_settle 3 none (rmOf 0 0) D cy (wX cy a) (AX a) [.ref (a 5), .int y] σ (fun τ => K cF cA2 σ τ) := by
  refine c_of (lv := [(0, .ref (a 5)), (1, .int y)]) rfl (Nat.le_of_ble_eq_true rfl) rfl ?_
  intro p e s m args below meth c ls E h hr hk hl
  have hx := E.1
  have hb := E.2.1
  obtain ⟨n, hn6, hn, hp⟩ := g.2.2.1
  refine lv_iconst (v := 0) hx hb dX1_settle_0 (by decide) ?_
  refine lv_istore_n (lv' := [(2, .int 0), (0, .ref (a 5)), (1, .int y)]) hx hb dX1_settle_1 rfl hl (by decide) rfl (fun ls hl => ?_)
  have lp2 : ∀ (f : Nat) (i : Nat) (τ : St) (H : Heap) (locs : List Loc) (ls : Array Slot), (i ≤ 40 ∧ K cF cA2 σ τ) → (40 - i) < f → HW D (AX a) s (wX cy a τ) H locs → lv_has ls 3 [(2, .int (nI i)), (0, .ref (a 5)), (1, .int y)] → W p l e (rmOf 0 0) s m args below meth c H locs 0 0 (MQ below (va_Qv (fun τ => K cF cA2 σ τ) (fun u t => va_P D vwCl (wX cy a u) t.heap) (AX a)) args s 0 0 (AX a)) (F0 m 2 ls []) := by
    intro f
    induction f with
    | zero => intro i τ H locs ls _ hf; exact absurd hf (Nat.not_lt_zero _)
    | succ f ih2 =>
      intro i τ H locs ls hi2 hf2 h hl
      refine lv_iload_n hx hb dX1_settle_2 rfl (lv_at hl 0 rfl) ?_
      refine lv_bipush (v := 40) hx hb dX1_settle_3 (by decide) ?_
      refine lv_icmp_ge (tgt := 21) hx hb dX1_settle_5 (by decide) (fun c5 => ?_) (fun c5 => ?_)
      · refine lv_iconst (v := 0) hx hb dX1_settle_21 (by decide) ?_
        refine lv_istore_n (lv' := [(2, .int 0), (0, .ref (a 5)), (1, .int y)]) hx hb dX1_settle_22 rfl hl (by decide) rfl (fun ls hl => ?_)
        have lp23 : ∀ (f : Nat) (k : Nat) (υ : St) (H : Heap) (locs : List Loc) (ls : Array Slot), (k ≤ n ∧ K cF cA2 σ υ) → (n - k) < f → HW D (AX a) s (wX cy a υ) H locs → lv_has ls 3 [(2, .int (nI k)), (0, .ref (a 5)), (1, .int y)] → W p l e (rmOf 0 0) s m args below meth c H locs 0 0 (MQ below (va_Qv (fun τ => K cF cA2 σ τ) (fun u t => va_P D vwCl (wX cy a u) t.heap) (AX a)) args s 0 0 (AX a)) (F0 m 23 ls []) := by
          intro f
          induction f with
          | zero => intro k υ H locs ls _ hf; exact absurd hf (Nat.not_lt_zero _)
          | succ f ih23 =>
            intro k υ H locs ls hi23 hf23 h hl
            refine lv_iload_n hx hb dX1_settle_23 rfl (lv_at hl 0 rfl) ?_
            refine lv_aload_n hx hb dX1_settle_24 rfl (lv_at hl 1 rfl) ?_
            refine r_get E h 4 (v := .int (nI n)) (eX_5 cy a υ) rfl fw_X1 (by decide) fl_X1_24 (congrArg (fun z => some (Value.int z)) ((hi23.2.1 9 (by decide)).trans hn)) dX1_settle_25 ?_
            refine lv_icmp_ge (tgt := 64) hx hb dX1_settle_28 (by decide) (fun c28 => ?_) (fun c28 => ?_)
            · exact t_v E h hr hk hi23.2 dX1_settle_64
            · have c28 : k < n := Nat.lt_of_not_le fun q9 => c28 ((nI_leI (a := n) (b := k) (by omega) (by omega)).mpr q9)
              refine lv_aload_n hx hb dX1_settle_31 rfl (lv_at hl 1 rfl) ?_
              refine r_get E h 2 (v := .ref (a 31)) (eX_5 cy a υ) rfl fw_X1 (by decide) fl_X1_18 rfl dX1_settle_32 ?_
              refine lv_iload_n hx hb dX1_settle_35 rfl (lv_at hl 0 rfl) ?_
              refine r_ialdN E h (f := υ.2.1 31) (eX_31 cy a υ) (j := k) (by omega) (by decide) (v := υ.2.1 31 k) rfl dX1_settle_36 ?_
              refine lv_iload_n hx hb dX1_settle_37 rfl (lv_at hl 2 rfl) ?_
              refine lv_icmp_gt (tgt := 58) hx hb dX1_settle_38 (by decide) (fun c38 => ?_) (fun c38 => ?_)
              · refine lv_iinc (v := nI (k + 1)) (lv' := [(2, .int (nI (k + 1))), (0, .ref (a 5)), (1, .int y)]) hx hb dX1_settle_58 hl (k := 0) rfl (nI_succ k).symm (by decide) rfl (fun ls hl => ?_)
                refine lv_goto (tgt := 23) hx hb dX1_settle_61 (by decide) ?_
                exact ih23 (k + 1) υ _ _ _ ⟨by omega, hi23.2⟩ (by omega) h (lv_sub hl [0, 1, 2] rfl)
              · refine lv_aload_n hx hb dX1_settle_41 rfl (lv_at hl 1 rfl) ?_
                refine r_get E h 3 (v := .ref (a 32)) (eX_5 cy a υ) rfl fw_X1 (by decide) fl_X1_21 rfl dX1_settle_42 ?_
                refine lv_aload_n hx hb dX1_settle_45 rfl (lv_at hl 1 rfl) ?_
                refine r_get E h 0 (v := .ref (a 29)) (eX_5 cy a υ) rfl fw_X1 (by decide) fl_X1_9 rfl dX1_settle_46 ?_
                refine lv_iload_n hx hb dX1_settle_49 rfl (lv_at hl 0 rfl) ?_
                refine r_ialdN E h (f := υ.2.1 29) (eX_29 cy a υ) (j := k) (by omega) (by decide) (v := υ.2.1 29 k) rfl dX1_settle_50 ?_
                refine lv_aload_n hx hb dX1_settle_51 rfl (lv_at hl 1 rfl) ?_
                refine r_get E h 1 (v := .ref (a 30)) (eX_5 cy a υ) rfl fw_X1 (by decide) fl_X1_15 rfl dX1_settle_52 ?_
                refine lv_iload_n hx hb dX1_settle_55 rfl (lv_at hl 0 rfl) ?_
                refine r_ialdN E h (f := υ.2.1 30) (eX_30 cy a υ) (j := k) (by omega) (by decide) (v := υ.2.1 30 k) rfl dX1_settle_56 ?_
                refine r_iast E h (f := υ.2.1 32) (eX_32 cy a υ) (by rw [hi23.2.2 29 (by decide)]; exact hp k c28) (qX_32 cy a υ (upd (υ.2.1 32) ((υ.2.1 29 k).toNatClampNeg) (υ.2.1 30 k))) dX1_settle_57 (fun H locs h => ?_)
                refine lv_iinc (v := nI (k + 1)) (lv' := [(2, .int (nI (k + 1))), (0, .ref (a 5)), (1, .int y)]) hx hb dX1_settle_58 hl (k := 0) rfl (nI_succ k).symm (by decide) rfl (fun ls hl => ?_)
                refine lv_goto (tgt := 23) hx hb dX1_settle_61 (by decide) ?_
                exact ih23 (k + 1) (fR υ 32 (upd (υ.2.1 32) ((υ.2.1 29 k).toNatClampNeg) (υ.2.1 30 k))) _ _ _ ⟨by omega, hi23.2.R 32 _ (by decide)⟩ (by omega) h (lv_sub hl [0, 1, 2] rfl)
        exact lp23 _ 0 τ _ _ _ ⟨Nat.zero_le _, hi2.2⟩ (Nat.lt_succ_self _) h (lv_sub hl [0, 1, 2] rfl)
      · have c5 : i < 40 := Nat.lt_of_not_le fun q9 => c5 ((nI_leI (a := 40) (b := i) (by omega) (by omega)).mpr q9)
        refine lv_aload_n hx hb dX1_settle_8 rfl (lv_at hl 1 rfl) ?_
        refine r_get E h 3 (v := .ref (a 32)) (eX_5 cy a τ) rfl fw_X1 (by decide) fl_X1_21 rfl dX1_settle_9 ?_
        refine lv_iload_n hx hb dX1_settle_12 rfl (lv_at hl 0 rfl) ?_
        refine lv_iconst (v := -1) hx hb dX1_settle_13 (by decide) ?_
        refine r_iastN E h (f := τ.2.1 32) (eX_32 cy a τ) (j := i) c5 (by decide) (qX_32 cy a τ (upd (τ.2.1 32) i (-1))) dX1_settle_14 (fun H locs h => ?_)
        refine lv_iinc (v := nI (i + 1)) (lv' := [(2, .int (nI (i + 1))), (0, .ref (a 5)), (1, .int y)]) hx hb dX1_settle_15 hl (k := 0) rfl (nI_succ i).symm (by decide) rfl (fun ls hl => ?_)
        refine lv_goto (tgt := 2) hx hb dX1_settle_18 (by decide) ?_
        exact ih2 (i + 1) (fR τ 32 (upd (τ.2.1 32) i (-1))) _ _ _ ⟨by omega, hi2.2.R 32 _ (by decide)⟩ (by omega) h (lv_sub hl [0, 1, 2] rfl)
  exact lp2 _ 0 σ _ _ _ ⟨by omega, K.rf⟩ (Nat.lt_succ_self _) h (lv_sub hl [0, 1, 2] rfl)

set_option maxHeartbeats 4000000 in
set_option maxRecDepth 100000 in
theorem c_X1_isWithinLife (l : Launch) (D : va_G) (cy : Nat → ClassId) (a : Nat → Nat) (σ : St) (x y w : Int32) (hx4 : vp_in x 40) : CI l yX1_isWithinLife cX1_isWithinLife 4 (some .boolean) (rmOf 0 0) D cy (wX cy a) (AX a) [.ref (a 5), .int x, .int y, .int w] σ (fun r τ => τ = σ ∧ (r = 0 ∨ r = 1)) := by
  refine c_of (lv := [(0, .ref (a 5)), (1, .int x), (2, .int y), (3, .int w)]) rfl (Nat.le_of_ble_eq_true rfl) rfl ?_
  intro p e s m args below meth c ls E h hr hk hl
  have hx := E.1
  have hb := E.2.1
  refine lv_aload_n hx hb dX1_isWithinLife_0 rfl (lv_at hl 0 rfl) ?_
  refine r_get E h 3 (v := .ref (a 32)) (eX_5 cy a σ) rfl fw_X1 (by decide) fl_X1_21 rfl dX1_isWithinLife_1 ?_
  refine lv_iload_n hx hb dX1_isWithinLife_4 rfl (lv_at hl 1 rfl) ?_
  refine r_iald E h (f := σ.2.1 32) (eX_32 cy a σ) hx4 dX1_isWithinLife_5 ?_
  refine lv_iconst (v := -1) hx hb dX1_isWithinLife_6 (by decide) ?_
  refine lv_icmp_eq (tgt := 22) hx hb dX1_isWithinLife_7 (by decide) (fun c7 => ?_) (fun c7 => ?_)
  · refine lv_iconst (v := 1) hx hb dX1_isWithinLife_22 (by decide) ?_
    refine lv_goto (tgt := 27) hx hb dX1_isWithinLife_23 (by decide) ?_
    exact t_z E h hr hk (Or.inr rfl) ⟨rfl, Or.inr rfl⟩ dX1_isWithinLife_27
  · refine lv_iload_n hx hb dX1_isWithinLife_10 rfl (lv_at hl 2 rfl) ?_
    refine lv_aload_n hx hb dX1_isWithinLife_11 rfl (lv_at hl 0 rfl) ?_
    refine r_get E h 3 (v := .ref (a 32)) (eX_5 cy a σ) rfl fw_X1 (by decide) fl_X1_21 rfl dX1_isWithinLife_12 ?_
    refine lv_iload_n hx hb dX1_isWithinLife_15 rfl (lv_at hl 1 rfl) ?_
    refine r_iald E h (f := σ.2.1 32) (eX_32 cy a σ) hx4 dX1_isWithinLife_16 ?_
    refine lv_iload_n hx hb dX1_isWithinLife_17 rfl (lv_at hl 3 rfl) ?_
    refine lv_iadd hx hb dX1_isWithinLife_18 ?_
    refine lv_icmp_gt (tgt := 26) hx hb dX1_isWithinLife_19 (by decide) (fun c19 => ?_) (fun c19 => ?_)
    · refine lv_iconst (v := 0) hx hb dX1_isWithinLife_26 (by decide) ?_
      exact t_z E h hr hk (Or.inl rfl) ⟨rfl, Or.inl rfl⟩ dX1_isWithinLife_27
    · refine lv_iconst (v := 1) hx hb dX1_isWithinLife_22 (by decide) ?_
      refine lv_goto (tgt := 27) hx hb dX1_isWithinLife_23 (by decide) ?_
      exact t_z E h hr hk (Or.inr rfl) ⟨rfl, Or.inr rfl⟩ dX1_isWithinLife_27

set_option maxHeartbeats 4000000 in
set_option maxRecDepth 100000 in
theorem c_X9_settle (l : Launch) (D : va_G) (cy : Nat → ClassId) (a : Nat → Nat) (σ : St) (y : Int32) (g : GX σ) : CV l yX9_settle cX9_settle 3 none (rmOf 0 0) D cy (wX cy a) (AX a) [.ref (a 6), .int y] σ (fun τ => K cF cA2 σ τ) := by
  refine c_of (lv := [(0, .ref (a 6)), (1, .int y)]) rfl (Nat.le_of_ble_eq_true rfl) rfl ?_
  intro p e s m args below meth c ls E h hr hk hl
  have hx := E.1
  have hb := E.2.1
  obtain ⟨q, n, hq4, hq, hn6, hn, ha⟩ := g.2.2.2.1
  refine lv_iconst (v := 0) hx hb dX9_settle_0 (by decide) ?_
  refine lv_istore_n (lv' := [(2, .int 0), (0, .ref (a 6)), (1, .int y)]) hx hb dX9_settle_1 rfl hl (by decide) rfl (fun ls hl => ?_)
  have lp2 : ∀ (f : Nat) (i : Nat) (τ : St) (H : Heap) (locs : List Loc) (ls : Array Slot), (i ≤ q ∧ K cF cA2 σ τ) → (q - i) < f → HW D (AX a) s (wX cy a τ) H locs → lv_has ls 3 [(2, .int (nI i)), (0, .ref (a 6)), (1, .int y)] → W p l e (rmOf 0 0) s m args below meth c H locs 0 0 (MQ below (va_Qv (fun τ => K cF cA2 σ τ) (fun u t => va_P D vwCl (wX cy a u) t.heap) (AX a)) args s 0 0 (AX a)) (F0 m 2 ls []) := by
    intro f
    induction f with
    | zero => intro i τ H locs ls _ hf; exact absurd hf (Nat.not_lt_zero _)
    | succ f ih2 =>
      intro i τ H locs ls hi2 hf2 h hl
      refine lv_iload_n hx hb dX9_settle_2 rfl (lv_at hl 0 rfl) ?_
      refine lv_aload_n hx hb dX9_settle_3 rfl (lv_at hl 1 rfl) ?_
      refine r_get E h 5 (v := .int (nI q)) (eX_6 cy a τ) rfl fw_X9 (by decide) fl_X9_27 (congrArg (fun z => some (Value.int z)) ((hi2.2.1 10 (by decide)).trans hq)) dX9_settle_4 ?_
      refine lv_icmp_ge (tgt := 28) hx hb dX9_settle_7 (by decide) (fun c7 => ?_) (fun c7 => ?_)
      · refine lv_iconst (v := 0) hx hb dX9_settle_28 (by decide) ?_
        refine lv_istore_n (lv' := [(2, .int 0), (0, .ref (a 6)), (1, .int y)]) hx hb dX9_settle_29 rfl hl (by decide) rfl (fun ls hl => ?_)
        have lp30 : ∀ (f : Nat) (k : Nat) (υ : St) (H : Heap) (locs : List Loc) (ls : Array Slot), (k ≤ n ∧ K cF cA2 σ υ) → (n - k) < f → HW D (AX a) s (wX cy a υ) H locs → lv_has ls 3 [(2, .int (nI k)), (0, .ref (a 6)), (1, .int y)] → W p l e (rmOf 0 0) s m args below meth c H locs 0 0 (MQ below (va_Qv (fun τ => K cF cA2 σ τ) (fun u t => va_P D vwCl (wX cy a u) t.heap) (AX a)) args s 0 0 (AX a)) (F0 m 30 ls []) := by
          intro f
          induction f with
          | zero => intro k υ H locs ls _ hf; exact absurd hf (Nat.not_lt_zero _)
          | succ f ih30 =>
            intro k υ H locs ls hi30 hf30 h hl
            refine lv_iload_n hx hb dX9_settle_30 rfl (lv_at hl 0 rfl) ?_
            refine lv_aload_n hx hb dX9_settle_31 rfl (lv_at hl 1 rfl) ?_
            refine r_get E h 6 (v := .int (nI n)) (eX_6 cy a υ) rfl fw_X9 (by decide) fl_X9_39 (congrArg (fun z => some (Value.int z)) ((hi30.2.1 11 (by decide)).trans hn)) dX9_settle_32 ?_
            refine lv_icmp_ge (tgt := 71) hx hb dX9_settle_35 (by decide) (fun c35 => ?_) (fun c35 => ?_)
            · exact t_v E h hr hk hi30.2 dX9_settle_71
            · have c35 : k < n := Nat.lt_of_not_le fun q9 => c35 ((nI_leI (a := n) (b := k) (by omega) (by omega)).mpr q9)
              refine lv_aload_n hx hb dX9_settle_38 rfl (lv_at hl 1 rfl) ?_
              refine r_get E h 2 (v := .ref (a 35)) (eX_6 cy a υ) rfl fw_X9 (by decide) fl_X9_18 rfl dX9_settle_39 ?_
              refine lv_iload_n hx hb dX9_settle_42 rfl (lv_at hl 0 rfl) ?_
              refine r_ialdN E h (f := υ.2.1 35) (eX_35 cy a υ) (j := k) (by omega) (by decide) (v := υ.2.1 35 k) rfl dX9_settle_43 ?_
              refine lv_iload_n hx hb dX9_settle_44 rfl (lv_at hl 2 rfl) ?_
              refine lv_icmp_ne (tgt := 65) hx hb dX9_settle_45 (by decide) (fun c45 => ?_) (fun c45 => ?_)
              · refine lv_iinc (v := nI (k + 1)) (lv' := [(2, .int (nI (k + 1))), (0, .ref (a 6)), (1, .int y)]) hx hb dX9_settle_65 hl (k := 0) rfl (nI_succ k).symm (by decide) rfl (fun ls hl => ?_)
                refine lv_goto (tgt := 30) hx hb dX9_settle_68 (by decide) ?_
                exact ih30 (k + 1) υ _ _ _ ⟨by omega, hi30.2⟩ (by omega) h (lv_sub hl [0, 1, 2] rfl)
              · refine lv_aload_n hx hb dX9_settle_48 rfl (lv_at hl 1 rfl) ?_
                refine r_get E h 4 (v := .ref (a 37)) (eX_6 cy a υ) rfl fw_X9 (by decide) fl_X9_24 rfl dX9_settle_49 ?_
                refine lv_aload_n hx hb dX9_settle_52 rfl (lv_at hl 1 rfl) ?_
                refine r_get E h 1 (v := .ref (a 34)) (eX_6 cy a υ) rfl fw_X9 (by decide) fl_X9_15 rfl dX9_settle_53 ?_
                refine lv_iload_n hx hb dX9_settle_56 rfl (lv_at hl 0 rfl) ?_
                refine r_ialdN E h (f := υ.2.1 34) (eX_34 cy a υ) (j := k) (by omega) (by decide) (v := υ.2.1 34 k) rfl dX9_settle_57 ?_
                refine lv_aload_n hx hb dX9_settle_58 rfl (lv_at hl 1 rfl) ?_
                refine r_get E h 3 (v := .ref (a 36)) (eX_6 cy a υ) rfl fw_X9 (by decide) fl_X9_21 rfl dX9_settle_59 ?_
                refine lv_iload_n hx hb dX9_settle_62 rfl (lv_at hl 0 rfl) ?_
                refine r_ialdN E h (f := υ.2.1 36) (eX_36 cy a υ) (j := k) (by omega) (by decide) (v := υ.2.1 36 k) rfl dX9_settle_63 ?_
                refine r_iast E h (f := υ.2.1 37) (eX_37 cy a υ) (by rw [hi30.2.2 34 (by decide)]; exact ha k c35) (qX_37 cy a υ (upd (υ.2.1 37) ((υ.2.1 34 k).toNatClampNeg) (υ.2.1 36 k))) dX9_settle_64 (fun H locs h => ?_)
                refine lv_iinc (v := nI (k + 1)) (lv' := [(2, .int (nI (k + 1))), (0, .ref (a 6)), (1, .int y)]) hx hb dX9_settle_65 hl (k := 0) rfl (nI_succ k).symm (by decide) rfl (fun ls hl => ?_)
                refine lv_goto (tgt := 30) hx hb dX9_settle_68 (by decide) ?_
                exact ih30 (k + 1) (fR υ 37 (upd (υ.2.1 37) ((υ.2.1 34 k).toNatClampNeg) (υ.2.1 36 k))) _ _ _ ⟨by omega, hi30.2.R 37 _ (by decide)⟩ (by omega) h (lv_sub hl [0, 1, 2] rfl)
        exact lp30 _ 0 τ _ _ _ ⟨Nat.zero_le _, hi2.2⟩ (Nat.lt_succ_self _) h (lv_sub hl [0, 1, 2] rfl)
      · have c7 : i < q := Nat.lt_of_not_le fun q9 => c7 ((nI_leI (a := q) (b := i) (by omega) (by omega)).mpr q9)
        refine lv_aload_n hx hb dX9_settle_10 rfl (lv_at hl 1 rfl) ?_
        refine r_get E h 4 (v := .ref (a 37)) (eX_6 cy a τ) rfl fw_X9 (by decide) fl_X9_24 rfl dX9_settle_11 ?_
        refine lv_iload_n hx hb dX9_settle_14 rfl (lv_at hl 0 rfl) ?_
        refine lv_aload_n hx hb dX9_settle_15 rfl (lv_at hl 1 rfl) ?_
        refine r_get E h 0 (v := .ref (a 33)) (eX_6 cy a τ) rfl fw_X9 (by decide) fl_X9_9 rfl dX9_settle_16 ?_
        refine lv_iload_n hx hb dX9_settle_19 rfl (lv_at hl 0 rfl) ?_
        refine r_ialdN E h (f := τ.2.1 33) (eX_33 cy a τ) (j := i) (by omega) (by decide) (v := τ.2.1 33 i) rfl dX9_settle_20 ?_
        refine r_iastN E h (f := τ.2.1 37) (eX_37 cy a τ) (j := i) (by omega) (by decide) (qX_37 cy a τ (upd (τ.2.1 37) i (τ.2.1 33 i))) dX9_settle_21 (fun H locs h => ?_)
        refine lv_iinc (v := nI (i + 1)) (lv' := [(2, .int (nI (i + 1))), (0, .ref (a 6)), (1, .int y)]) hx hb dX9_settle_22 hl (k := 0) rfl (nI_succ i).symm (by decide) rfl (fun ls hl => ?_)
        refine lv_goto (tgt := 2) hx hb dX9_settle_25 (by decide) ?_
        exact ih2 (i + 1) (fR τ 37 (upd (τ.2.1 37) i (τ.2.1 33 i))) _ _ _ ⟨by omega, hi2.2.R 37 _ (by decide)⟩ (by omega) h (lv_sub hl [0, 1, 2] rfl)
  exact lp2 _ 0 σ _ _ _ ⟨by omega, K.rf⟩ (Nat.lt_succ_self _) h (lv_sub hl [0, 1, 2] rfl)

set_option maxHeartbeats 4000000 in
set_option maxRecDepth 100000 in
theorem c_X9_draw (l : Launch) (D : va_G) (cy : Nat → ClassId) (a : Nat → Nat) (σ : St) (x y : Int32) (hx4 : vp_in x 4) : CI l yX9_draw cX9_draw 4 (some .int) (rmOf 1 13) D cy (wX cy a) (AX a) [.ref (a 6), .int x, .int y] σ (fun _ τ => K cF cA2 σ τ) := by
  refine c_of (lv := [(0, .ref (a 6)), (1, .int x), (2, .int y)]) rfl (Nat.le_of_ble_eq_true rfl) rfl ?_
  intro p e s m args below meth c ls E h hr hk hl
  have hx := E.1
  have hb := E.2.1
  refine lv_aload_n hx hb dX9_draw_0 rfl (lv_at hl 0 rfl) ?_
  refine r_get E h 4 (v := .ref (a 37)) (eX_6 cy a σ) rfl fw_X9 (by decide) fl_X9_24 rfl dX9_draw_1 ?_
  refine lv_iload_n hx hb dX9_draw_4 rfl (lv_at hl 1 rfl) ?_
  refine r_iald E h (f := σ.2.1 37) (eX_37 cy a σ) hx4 dX9_draw_5 ?_
  refine lv_iload_n hx hb dX9_draw_6 rfl (lv_at hl 2 rfl) ?_
  refine r_mmin E hl.1 ml_X9_47 st_J9_min_7cf53 in_J9 co_J9_min_7cf53 ⟨Nat.le_of_ble_eq_true rfl, Nat.le_of_ble_eq_true rfl⟩ ⟨Nat.zero_le _, Nat.zero_le _⟩ dX9_draw_7 ?_
  refine lv_istore_n (lv' := [(3, .int (if y < (σ.2.1 37 x.toNatClampNeg) then y else (σ.2.1 37 x.toNatClampNeg))), (0, .ref (a 6)), (1, .int x), (2, .int y)]) hx hb dX9_draw_10 rfl hl (by decide) rfl (fun ls hl => ?_)
  refine lv_aload_n hx hb dX9_draw_11 rfl (lv_at hl 1 rfl) ?_
  refine r_get E h 4 (v := .ref (a 37)) (eX_6 cy a σ) rfl fw_X9 (by decide) fl_X9_24 rfl dX9_draw_12 ?_
  refine lv_iload_n hx hb dX9_draw_15 rfl (lv_at hl 2 rfl) ?_
  refine lv_dup2_11 hx hb dX9_draw_16 rfl rfl ?_
  refine r_iald E h (f := σ.2.1 37) (eX_37 cy a σ) hx4 dX9_draw_17 ?_
  refine lv_iload_n hx hb dX9_draw_18 rfl (lv_at hl 0 rfl) ?_
  refine lv_isub hx hb dX9_draw_19 ?_
  refine r_iast E h (f := σ.2.1 37) (eX_37 cy a σ) hx4 (qX_37 cy a σ (upd (σ.2.1 37) x.toNatClampNeg ((σ.2.1 37 x.toNatClampNeg) - (if y < (σ.2.1 37 x.toNatClampNeg) then y else (σ.2.1 37 x.toNatClampNeg))))) dX9_draw_20 (fun H locs h => ?_)
  refine lv_iload_n hx hb dX9_draw_21 rfl (lv_at hl 0 rfl) ?_
  exact t_i E h hr hk (K.rf.R 37 _ (by decide)) dX9_draw_22

set_option maxHeartbeats 4000000 in
set_option maxRecDepth 100000 in
theorem c_X9_placeOf (l : Launch) (D : va_G) (cy : Nat → ClassId) (a : Nat → Nat) (σ : St) (x y : Int32) (n : Nat) (hn : σ.1 11 = nI n) (hn6 : n ≤ 60) : CI l yX9_placeOf cX9_placeOf 4 (some .int) (rmOf 0 0) D cy (wX cy a) (AX a) [.ref (a 6), .int x, .int y] σ (fun r τ => τ = σ ∧ ∃ t, t ≤ n ∧ r = nI t ∧ (∀ i, i < t → ¬ (σ.2.1 34 i = x ∧ σ.2.1 35 i = y)) ∧ (t < n → (σ.2.1 34 t = x ∧ σ.2.1 35 t = y))) := by
  refine c_of (lv := [(0, .ref (a 6)), (1, .int x), (2, .int y)]) rfl (Nat.le_of_ble_eq_true rfl) rfl ?_
  intro p e s m args below meth c ls E h hr hk hl
  have hx := E.1
  have hb := E.2.1
  refine lv_iconst (v := 0) hx hb dX9_placeOf_0 (by decide) ?_
  refine lv_istore_n (lv' := [(3, .int 0), (0, .ref (a 6)), (1, .int x), (2, .int y)]) hx hb dX9_placeOf_1 rfl hl (by decide) rfl (fun ls hl => ?_)
  have lp2 : ∀ (f : Nat) (i : Nat) (H : Heap) (locs : List Loc) (ls : Array Slot), (i ≤ n ∧ ∀ t, t < i → ¬ (σ.2.1 34 t = x ∧ σ.2.1 35 t = y)) → (n - i) < f → HW D (AX a) s (wX cy a σ) H locs → lv_has ls 4 [(3, .int (nI i)), (0, .ref (a 6)), (1, .int x), (2, .int y)] → W p l e (rmOf 0 0) s m args below meth c H locs 0 0 (MQ below (va_Qi (fun r τ => τ = σ ∧ ∃ t, t ≤ n ∧ r = nI t ∧ (∀ i, i < t → ¬ (σ.2.1 34 i = x ∧ σ.2.1 35 i = y)) ∧ (t < n → (σ.2.1 34 t = x ∧ σ.2.1 35 t = y))) (fun u t => va_P D vwCl (wX cy a u) t.heap) (AX a)) args s 0 0 (AX a)) (F0 m 2 ls []) := by
    intro f
    induction f with
    | zero => intro i H locs ls _ hf; exact absurd hf (Nat.not_lt_zero _)
    | succ f ih2 =>
      intro i H locs ls hi2 hf2 h hl
      refine lv_iload_n hx hb dX9_placeOf_2 rfl (lv_at hl 0 rfl) ?_
      refine lv_aload_n hx hb dX9_placeOf_3 rfl (lv_at hl 1 rfl) ?_
      refine r_get E h 6 (v := .int (nI n)) (eX_6 cy a σ) rfl fw_X9 (by decide) fl_X9_39 (congrArg (fun z => some (Value.int z)) hn) dX9_placeOf_4 ?_
      refine lv_icmp_ge (tgt := 38) hx hb dX9_placeOf_7 (by decide) (fun c7 => ?_) (fun c7 => ?_)
      · have c7 : n ≤ i := (nI_leI (a := n) (b := i) (by omega) (by omega)).mp c7
        refine lv_aload_n hx hb dX9_placeOf_38 rfl (lv_at hl 1 rfl) ?_
        refine r_get E h 6 (v := .int (nI n)) (eX_6 cy a σ) rfl fw_X9 (by decide) fl_X9_39 (congrArg (fun z => some (Value.int z)) hn) dX9_placeOf_39 ?_
        exact t_i E h hr hk ⟨rfl, n, Nat.le_refl _, rfl, by rw [show n = i by omega]; exact hi2.2, fun q => absurd q (Nat.lt_irrefl _)⟩ dX9_placeOf_42
      · have c7 : i < n := Nat.lt_of_not_le fun q9 => c7 ((nI_leI (a := n) (b := i) (by omega) (by omega)).mpr q9)
        refine lv_aload_n hx hb dX9_placeOf_10 rfl (lv_at hl 1 rfl) ?_
        refine r_get E h 1 (v := .ref (a 34)) (eX_6 cy a σ) rfl fw_X9 (by decide) fl_X9_15 rfl dX9_placeOf_11 ?_
        refine lv_iload_n hx hb dX9_placeOf_14 rfl (lv_at hl 0 rfl) ?_
        refine r_ialdN E h (f := σ.2.1 34) (eX_34 cy a σ) (j := i) (by omega) (by decide) (v := σ.2.1 34 i) rfl dX9_placeOf_15 ?_
        refine lv_iload_n hx hb dX9_placeOf_16 rfl (lv_at hl 2 rfl) ?_
        refine lv_icmp_ne (tgt := 32) hx hb dX9_placeOf_17 (by decide) (fun c17 => ?_) (fun c17 => ?_)
        · refine lv_iinc (v := nI (i + 1)) (lv' := [(3, .int (nI (i + 1))), (0, .ref (a 6)), (1, .int x), (2, .int y)]) hx hb dX9_placeOf_32 hl (k := 0) rfl (nI_succ i).symm (by decide) rfl (fun ls hl => ?_)
          refine lv_goto (tgt := 2) hx hb dX9_placeOf_35 (by decide) ?_
          exact ih2 (i + 1) _ _ _ ⟨by omega, lt_s hi2.2 (fun q => c17 q.1)⟩ (by omega) h (lv_sub hl [0, 1, 2, 3] rfl)
        · refine lv_aload_n hx hb dX9_placeOf_20 rfl (lv_at hl 1 rfl) ?_
          refine r_get E h 2 (v := .ref (a 35)) (eX_6 cy a σ) rfl fw_X9 (by decide) fl_X9_18 rfl dX9_placeOf_21 ?_
          refine lv_iload_n hx hb dX9_placeOf_24 rfl (lv_at hl 0 rfl) ?_
          refine r_ialdN E h (f := σ.2.1 35) (eX_35 cy a σ) (j := i) (by omega) (by decide) (v := σ.2.1 35 i) rfl dX9_placeOf_25 ?_
          refine lv_iload_n hx hb dX9_placeOf_26 rfl (lv_at hl 3 rfl) ?_
          refine lv_icmp_ne (tgt := 32) hx hb dX9_placeOf_27 (by decide) (fun c27 => ?_) (fun c27 => ?_)
          · refine lv_iinc (v := nI (i + 1)) (lv' := [(3, .int (nI (i + 1))), (0, .ref (a 6)), (1, .int x), (2, .int y)]) hx hb dX9_placeOf_32 hl (k := 0) rfl (nI_succ i).symm (by decide) rfl (fun ls hl => ?_)
            refine lv_goto (tgt := 2) hx hb dX9_placeOf_35 (by decide) ?_
            exact ih2 (i + 1) _ _ _ ⟨by omega, lt_s hi2.2 (fun q => c27 q.2)⟩ (by omega) h (lv_sub hl [0, 1, 2, 3] rfl)
          · refine lv_iload_n hx hb dX9_placeOf_30 rfl (lv_at hl 0 rfl) ?_
            exact t_i E h hr hk ⟨rfl, i, by omega, rfl, hi2.2, fun _ => ⟨c17, c27⟩⟩ dX9_placeOf_31
  exact lp2 _ 0 _ _ _ ⟨Nat.zero_le _, lt_0⟩ (Nat.lt_succ_self _) h (lv_sub hl [0, 1, 2, 3] rfl)

set_option maxHeartbeats 4000000 in
set_option maxRecDepth 100000 in
theorem c_X9_change (l : Launch) (D : va_G) (cy : Nat → ClassId) (a : Nat → Nat) (σ : St) (x y v : Int32) (n : Nat) (hn : σ.1 11 = nI n) (hn6 : n ≤ 60) : CI l yX9_change cX9_change 5 (some .int) (rmOf 1 23) D cy (wX cy a) (AX a) [.ref (a 6), .int x, .int y, .int v] σ (fun r τ => ∃ t, t ≤ n ∧ (∀ i, i < t → ¬ (σ.2.1 34 i = x ∧ σ.2.1 35 i = y)) ∧ (t < n → (σ.2.1 34 t = x ∧ σ.2.1 35 t = y)) ∧ ((t = 60 ∧ r = -5 ∧ τ = σ) ∨ (t < 60 ∧ r = 0 ∧ τ = fF (fR (fR (fR σ 34 (upd (σ.2.1 34) t x)) 35 (upd (σ.2.1 35) t y)) 36 (upd (σ.2.1 36) t v)) 11 (if nI n < nI (t + 1) then nI (t + 1) else nI n)))) := by
  refine c_of (lv := [(0, .ref (a 6)), (1, .int x), (2, .int y), (3, .int v)]) rfl (Nat.le_of_ble_eq_true rfl) rfl ?_
  intro p e s m args below meth c ls E h hr hk hl
  have hx := E.1
  have hb := E.2.1
  refine lv_aload_n hx hb dX9_change_0 rfl (lv_at hl 0 rfl) ?_
  refine lv_iload_n hx hb dX9_change_1 rfl (lv_at hl 1 rfl) ?_
  refine lv_iload_n hx hb dX9_change_2 rfl (lv_at hl 2 rfl) ?_
  refine k_i h (q_runV (As := [.int x, .int y]) (rest := []) E h (c_X9_placeOf l D cy a σ x y n hn hn6) co_X9_placeOf ml_X9_35 im_X9_placeOf se_X9_placeOf in_X9 (eX_6 cy a σ) rfl ok_X9_placeOf rfl ⟨by decide, by decide⟩ hl.1 rfl (Nat.le_of_ble_eq_true rfl) dX9_change_3 ⟨Nat.zero_le _, Nat.zero_le _⟩) (wX_fst cy a) (fun r3 τ3 H locs p3 h => ?_)
  rw [p3.1] at h
  obtain ⟨t, ht, rfl, ht1, ht2⟩ := p3.2
  refine lv_istore (lv' := [(4, .int (nI t)), (0, .ref (a 6)), (1, .int x), (2, .int y), (3, .int v)]) hx hb dX9_change_6 hl (by decide) rfl (fun ls hl => ?_)
  refine lv_iload hx hb dX9_change_8 (lv_at hl 0 rfl) ?_
  refine lv_bipush (v := 60) hx hb dX9_change_10 (by decide) ?_
  refine lv_icmp_lt (tgt := 18) hx hb dX9_change_12 (by decide) (fun c12 => ?_) (fun c12 => ?_)
  · have c12 : t < 60 := n_lt (by omega) (by decide) c12
    refine lv_aload_n hx hb dX9_change_18 rfl (lv_at hl 1 rfl) ?_
    refine r_get E h 1 (v := .ref (a 34)) (eX_6 cy a σ) rfl fw_X9 (by decide) fl_X9_15 rfl dX9_change_19 ?_
    refine lv_iload hx hb dX9_change_22 (lv_at hl 0 rfl) ?_
    refine lv_iload_n hx hb dX9_change_24 rfl (lv_at hl 2 rfl) ?_
    refine r_iastN E h (f := σ.2.1 34) (eX_34 cy a σ) (j := t) c12 (by decide) (qX_34 cy a σ (upd (σ.2.1 34) t x)) dX9_change_25 (fun H locs h => ?_)
    refine lv_aload_n hx hb dX9_change_26 rfl (lv_at hl 1 rfl) ?_
    refine r_get E h 2 (v := .ref (a 35)) (eX_6 cy a (fR σ 34 (upd (σ.2.1 34) t x))) rfl fw_X9 (by decide) fl_X9_18 rfl dX9_change_27 ?_
    refine lv_iload hx hb dX9_change_30 (lv_at hl 0 rfl) ?_
    refine lv_iload_n hx hb dX9_change_32 rfl (lv_at hl 3 rfl) ?_
    refine r_iastN E h (f := σ.2.1 35) (eX_35 cy a (fR σ 34 (upd (σ.2.1 34) t x))) (j := t) c12 (by decide) (qX_35 cy a (fR σ 34 (upd (σ.2.1 34) t x)) (upd (σ.2.1 35) t y)) dX9_change_33 (fun H locs h => ?_)
    refine lv_aload_n hx hb dX9_change_34 rfl (lv_at hl 1 rfl) ?_
    refine r_get E h 3 (v := .ref (a 36)) (eX_6 cy a (fR (fR σ 34 (upd (σ.2.1 34) t x)) 35 (upd (σ.2.1 35) t y))) rfl fw_X9 (by decide) fl_X9_21 rfl dX9_change_35 ?_
    refine lv_iload hx hb dX9_change_38 (lv_at hl 0 rfl) ?_
    refine lv_iload_n hx hb dX9_change_40 rfl (lv_at hl 4 rfl) ?_
    refine r_iastN E h (f := σ.2.1 36) (eX_36 cy a (fR (fR σ 34 (upd (σ.2.1 34) t x)) 35 (upd (σ.2.1 35) t y))) (j := t) c12 (by decide) (qX_36 cy a (fR (fR σ 34 (upd (σ.2.1 34) t x)) 35 (upd (σ.2.1 35) t y)) (upd (σ.2.1 36) t v)) dX9_change_41 (fun H locs h => ?_)
    refine lv_aload_n hx hb dX9_change_42 rfl (lv_at hl 1 rfl) ?_
    refine lv_aload_n hx hb dX9_change_43 rfl (lv_at hl 1 rfl) ?_
    refine r_get E h 6 (v := .int (nI n)) (eX_6 cy a (fR (fR (fR σ 34 (upd (σ.2.1 34) t x)) 35 (upd (σ.2.1 35) t y)) 36 (upd (σ.2.1 36) t v))) rfl fw_X9 (by decide) fl_X9_39 (congrArg (fun z => some (Value.int z)) hn) dX9_change_44 ?_
    refine lv_iload hx hb dX9_change_47 (lv_at hl 0 rfl) ?_
    refine lv_iconst (v := 1) hx hb dX9_change_49 (by decide) ?_
    refine n_add (j := t) (k := 1) hx hb dX9_change_50 ?_
    refine r_mmax E hl.1 ml_X9_42 st_J9_max_7cf53 in_J9 co_J9_max_7cf53 ⟨Nat.le_of_ble_eq_true rfl, Nat.le_of_ble_eq_true rfl⟩ ⟨Nat.zero_le _, Nat.zero_le _⟩ dX9_change_51 ?_
    refine r_put E h 6 (ty := .int) (eX_6 cy a (fR (fR (fR σ 34 (upd (σ.2.1 34) t x)) 35 (upd (σ.2.1 35) t y)) 36 (upd (σ.2.1 36) t v))) rfl fw_X9 tyX9_ok nmX9 (by decide) fl_X9_39 rfl (by decide +kernel) rfl rfl (Nat.le_of_ble_eq_true rfl) (sX_11 cy a (fR (fR (fR σ 34 (upd (σ.2.1 34) t x)) 35 (upd (σ.2.1 35) t y)) 36 (upd (σ.2.1 36) t v)) (if (nI n) < (nI (t + 1)) then (nI (t + 1)) else (nI n))) dX9_change_54 (fun H locs h => ?_)
    refine lv_iconst (v := 0) hx hb dX9_change_57 (by decide) ?_
    exact t_i E h hr hk ⟨t, ht, ht1, ht2, Or.inr ⟨c12, rfl, rfl⟩⟩ dX9_change_58
  · have c12 : 60 ≤ t := n_nlt (by omega) (by decide) c12
    refine lv_bipush (v := -5) hx hb dX9_change_15 (by decide) ?_
    exact t_i E h hr hk ⟨t, ht, ht1, ht2, Or.inl ⟨by omega, rfl, rfl⟩⟩ dX9_change_17

set_option maxHeartbeats 4000000 in
set_option maxRecDepth 100000 in
theorem c_X7_clear (l : Launch) (D : va_G) (cy : Nat → ClassId) (a : Nat → Nat) (σ : St)   : CV l yX7_clear cX7_clear 1 none (rmOf 0 0) D cy (wX cy a) (AX a) [.ref (a 15)] σ (fun τ => τ = fF (fF σ 16 0) 17 0) := by
  refine c_of (lv := [(0, .ref (a 15))]) rfl (Nat.le_of_ble_eq_true rfl) rfl ?_
  intro p e s m args below meth c ls E h hr hk hl
  have hx := E.1
  have hb := E.2.1
  refine lv_aload_n hx hb dX7_clear_0 rfl (lv_at hl 0 rfl) ?_
  refine lv_iconst (v := 0) hx hb dX7_clear_1 (by decide) ?_
  refine r_put E h 3 (ty := .int) (eX_15 cy a σ) rfl fw_X7 tyX7_ok nmX7 (by decide) fl_X7_21 rfl (by decide +kernel) rfl rfl (Nat.le_of_ble_eq_true rfl) (sX_16 cy a σ 0) dX7_clear_2 (fun H locs h => ?_)
  refine lv_aload_n hx hb dX7_clear_5 rfl (lv_at hl 0 rfl) ?_
  refine lv_iconst (v := 0) hx hb dX7_clear_6 (by decide) ?_
  refine r_put E h 4 (ty := .int) (eX_15 cy a (fF σ 16 0)) rfl fw_X7 tyX7_ok nmX7 (by decide) fl_X7_25 rfl (by decide +kernel) rfl rfl (Nat.le_of_ble_eq_true rfl) (sX_17 cy a (fF σ 16 0) 0) dX7_clear_7 (fun H locs h => ?_)
  exact t_v E h hr hk rfl dX7_clear_10

set_option maxHeartbeats 4000000 in
set_option maxRecDepth 100000 in
theorem c_X7_add (l : Launch) (D : va_G) (cy : Nat → ClassId) (a : Nat → Nat) (σ : St) (x w : Int32) (B : Nat) (hs : SHI B σ) (hxB : vp_in x B) : CV l yX7_add cX7_add 3 none (rmOf 0 0) D cy (wX cy a) (AX a) [.ref (a 15), .int x, .int w] σ (fun τ => K cF cA2 σ τ ∧ SHI B τ) := by
  refine c_of (lv := [(0, .ref (a 15)), (1, .int x), (2, .int w)]) rfl (Nat.le_of_ble_eq_true rfl) rfl ?_
  intro p e s m args below meth c ls E h hr hk hl
  have hx := E.1
  have hb := E.2.1
  obtain ⟨z, hz8, hz, hzc⟩ := id hs
  refine lv_iload_n hx hb dX7_add_0 rfl (lv_at hl 2 rfl) ?_
  refine lv_if_le (tgt := 13) hx hb dX7_add_1 (by decide) (fun c1 => ?_) (fun c1 => ?_)
  · exact t_v E h hr hk ⟨K.rf, hs⟩ dX7_add_13
  · refine lv_aload_n hx hb dX7_add_4 rfl (lv_at hl 0 rfl) ?_
    refine r_get E h 4 (v := .int (nI z)) (eX_15 cy a σ) rfl fw_X7 (by decide) fl_X7_25 (congrArg (fun z => some (Value.int z)) hz) dX7_add_5 ?_
    refine lv_bipush (v := 80) hx hb dX7_add_8 (by decide) ?_
    refine lv_icmp_lt (tgt := 14) hx hb dX7_add_10 (by decide) (fun c10 => ?_) (fun c10 => ?_)
    · have c10 : z < 80 := n_lt (by omega) (by decide) c10
      refine lv_aload_n hx hb dX7_add_14 rfl (lv_at hl 0 rfl) ?_
      refine r_get E h 0 (v := .ref (a 60)) (eX_15 cy a σ) rfl fw_X7 (by decide) fl_X7_9 rfl dX7_add_15 ?_
      refine lv_aload_n hx hb dX7_add_18 rfl (lv_at hl 0 rfl) ?_
      refine r_get E h 4 (v := .int (nI z)) (eX_15 cy a σ) rfl fw_X7 (by decide) fl_X7_25 (congrArg (fun z => some (Value.int z)) hz) dX7_add_19 ?_
      refine lv_iload_n hx hb dX7_add_22 rfl (lv_at hl 1 rfl) ?_
      refine r_iastN E h (f := σ.2.1 60) (eX_60 cy a σ) (j := z) c10 (by decide) (qX_60 cy a σ (upd (σ.2.1 60) z x)) dX7_add_23 (fun H locs h => ?_)
      refine lv_aload_n hx hb dX7_add_24 rfl (lv_at hl 0 rfl) ?_
      refine r_get E h 1 (v := .ref (a 61)) (eX_15 cy a (fR σ 60 (upd (σ.2.1 60) z x))) rfl fw_X7 (by decide) fl_X7_15 rfl dX7_add_25 ?_
      refine lv_aload_n hx hb dX7_add_28 rfl (lv_at hl 0 rfl) ?_
      refine r_get E h 4 (v := .int (nI z)) (eX_15 cy a (fR σ 60 (upd (σ.2.1 60) z x))) rfl fw_X7 (by decide) fl_X7_25 (congrArg (fun z => some (Value.int z)) hz) dX7_add_29 ?_
      refine lv_iload_n hx hb dX7_add_32 rfl (lv_at hl 2 rfl) ?_
      refine r_iastN E h (f := σ.2.1 61) (eX_61 cy a (fR σ 60 (upd (σ.2.1 60) z x))) (j := z) c10 (by decide) (qX_61 cy a (fR σ 60 (upd (σ.2.1 60) z x)) (upd (σ.2.1 61) z w)) dX7_add_33 (fun H locs h => ?_)
      refine lv_aload_n hx hb dX7_add_34 rfl (lv_at hl 0 rfl) ?_
      refine lv_dup hx hb dX7_add_35 rfl ?_
      refine r_get E h 3 (v := .int (σ.1 16)) (eX_15 cy a (fR (fR σ 60 (upd (σ.2.1 60) z x)) 61 (upd (σ.2.1 61) z w))) rfl fw_X7 (by decide) fl_X7_21 rfl dX7_add_36 ?_
      refine lv_iload_n hx hb dX7_add_39 rfl (lv_at hl 2 rfl) ?_
      refine lv_iadd hx hb dX7_add_40 ?_
      refine r_put E h 3 (ty := .int) (eX_15 cy a (fR (fR σ 60 (upd (σ.2.1 60) z x)) 61 (upd (σ.2.1 61) z w))) rfl fw_X7 tyX7_ok nmX7 (by decide) fl_X7_21 rfl (by decide +kernel) rfl rfl (Nat.le_of_ble_eq_true rfl) (sX_16 cy a (fR (fR σ 60 (upd (σ.2.1 60) z x)) 61 (upd (σ.2.1 61) z w)) ((σ.1 16) + w)) dX7_add_41 (fun H locs h => ?_)
      refine lv_aload_n hx hb dX7_add_44 rfl (lv_at hl 0 rfl) ?_
      refine lv_dup hx hb dX7_add_45 rfl ?_
      refine r_get E h 4 (v := .int (nI z)) (eX_15 cy a (fF (fR (fR σ 60 (upd (σ.2.1 60) z x)) 61 (upd (σ.2.1 61) z w)) 16 ((σ.1 16) + w))) rfl fw_X7 (by decide) fl_X7_25 (congrArg (fun z => some (Value.int z)) hz) dX7_add_46 ?_
      refine lv_iconst (v := 1) hx hb dX7_add_49 (by decide) ?_
      refine n_add (j := z) (k := 1) hx hb dX7_add_50 ?_
      refine r_put E h 4 (ty := .int) (eX_15 cy a (fF (fR (fR σ 60 (upd (σ.2.1 60) z x)) 61 (upd (σ.2.1 61) z w)) 16 ((σ.1 16) + w))) rfl fw_X7 tyX7_ok nmX7 (by decide) fl_X7_25 rfl (by decide +kernel) rfl rfl (Nat.le_of_ble_eq_true rfl) (sX_17 cy a (fF (fR (fR σ 60 (upd (σ.2.1 60) z x)) 61 (upd (σ.2.1 61) z w)) 16 ((σ.1 16) + w)) (nI (z + 1))) dX7_add_51 (fun H locs h => ?_)
      exact t_v E h hr hk ⟨(((K.rf.R 60 _ (by decide)).R 61 _ (by decide)).F 16 _ (by decide)).F 17 _ (by decide), ⟨z + 1, by omega, rfl, fun i hi => shi_l hzc hxB hi⟩⟩ dX7_add_54
    · exact t_v E h hr hk ⟨K.rf, hs⟩ dX7_add_13

set_option maxHeartbeats 4000000 in
set_option maxRecDepth 100000 in
theorem c_X7_part (l : Launch) (D : va_G) (cy : Nat → ClassId) (a : Nat → Nat) (σ : St) (x : Int32) (B : Nat) (hs : SHI B σ) : CI l yX7_part cX7_part 4 (some .int) (rmOf 0 0) D cy (wX cy a) (AX a) [.ref (a 15), .int x] σ (fun _ τ => K cF cA2 σ τ ∧ SHI B τ) := by
  refine c_of (lv := [(0, .ref (a 15)), (1, .int x)]) rfl (Nat.le_of_ble_eq_true rfl) rfl ?_
  intro p e s m args below meth c ls E h hr hk hl
  have hx := E.1
  have hb := E.2.1
  obtain ⟨z, hz8, hz, hzc⟩ := id hs
  refine lv_aload_n hx hb dX7_part_0 rfl (lv_at hl 0 rfl) ?_
  refine r_get E h 3 (v := .int (σ.1 16)) (eX_15 cy a σ) rfl fw_X7 (by decide) fl_X7_21 rfl dX7_part_1 ?_
  refine lv_iload_n hx hb dX7_part_4 rfl (lv_at hl 1 rfl) ?_
  refine lv_icmp_le (tgt := 15) hx hb dX7_part_5 (by decide) (fun c5 => ?_) (fun c5 => ?_)
  · refine lv_iconst (v := 0) hx hb dX7_part_15 (by decide) ?_
    refine lv_istore_n (lv' := [(2, .int 0), (0, .ref (a 15)), (1, .int x)]) hx hb dX7_part_16 rfl hl (by decide) rfl (fun ls hl => ?_)
    have lp17 : ∀ (f : Nat) (i : Nat) (τ : St) (H : Heap) (locs : List Loc) (ls : Array Slot), (i ≤ z ∧ KS σ τ) → (z - i) < f → HW D (AX a) s (wX cy a τ) H locs → lv_has ls 4 [(2, .int (nI i)), (0, .ref (a 15)), (1, .int x)] → W p l e (rmOf 0 0) s m args below meth c H locs 0 0 (MQ below (va_Qi (fun _ τ => K cF cA2 σ τ ∧ SHI B τ) (fun u t => va_P D vwCl (wX cy a u) t.heap) (AX a)) args s 0 0 (AX a)) (F0 m 17 ls []) := by
      intro f
      induction f with
      | zero => intro i τ H locs ls _ hf; exact absurd hf (Nat.not_lt_zero _)
      | succ f ih17 =>
        intro i τ H locs ls hi17 hf17 h hl
        have hiX := hi17
        refine lv_iload_n hx hb dX7_part_17 rfl (lv_at hl 0 rfl) ?_
        refine lv_aload_n hx hb dX7_part_18 rfl (lv_at hl 1 rfl) ?_
        refine r_get E h 4 (v := .int (nI z)) (eX_15 cy a τ) rfl fw_X7 (by decide) fl_X7_25 (congrArg (fun z => some (Value.int z)) ((hiX.2.1 17 (by decide)).trans hz)) dX7_part_19 ?_
        refine lv_icmp_ge (tgt := 43) hx hb dX7_part_22 (by decide) (fun c22 => ?_) (fun c22 => ?_)
        · refine lv_aload_n hx hb dX7_part_43 rfl (lv_at hl 1 rfl) ?_
          refine r_get E h 3 (v := .int (τ.1 16)) (eX_15 cy a τ) rfl fw_X7 (by decide) fl_X7_21 rfl dX7_part_44 ?_
          exact t_i E h hr hk ⟨hiX.2.k, hiX.2.sh hs⟩ dX7_part_47
        · have c22 : i < z := Nat.lt_of_not_le fun q9 => c22 ((nI_leI (a := z) (b := i) (by omega) (by omega)).mpr q9)
          refine lv_aload_n hx hb dX7_part_25 rfl (lv_at hl 1 rfl) ?_
          refine r_get E h 2 (v := .ref (a 62)) (eX_15 cy a τ) rfl fw_X7 (by decide) fl_X7_18 rfl dX7_part_26 ?_
          refine lv_iload_n hx hb dX7_part_29 rfl (lv_at hl 0 rfl) ?_
          refine lv_aload_n hx hb dX7_part_30 rfl (lv_at hl 1 rfl) ?_
          refine r_get E h 1 (v := .ref (a 61)) (eX_15 cy a τ) rfl fw_X7 (by decide) fl_X7_15 rfl dX7_part_31 ?_
          refine lv_iload_n hx hb dX7_part_34 rfl (lv_at hl 0 rfl) ?_
          refine r_ialdN E h (f := τ.2.1 61) (eX_61 cy a τ) (j := i) (by omega) (by decide) (v := τ.2.1 61 i) rfl dX7_part_35 ?_
          refine r_iastN E h (f := τ.2.1 62) (eX_62 cy a τ) (j := i) (by omega) (by decide) (qX_62 cy a τ (upd (τ.2.1 62) i (τ.2.1 61 i))) dX7_part_36 (fun H locs h => ?_)
          refine lv_iinc (v := nI (i + 1)) (lv' := [(2, .int (nI (i + 1))), (0, .ref (a 15)), (1, .int x)]) hx hb dX7_part_37 hl (k := 0) rfl (nI_succ i).symm (by decide) rfl (fun ls hl => ?_)
          refine lv_goto (tgt := 17) hx hb dX7_part_40 (by decide) ?_
          exact ih17 (i + 1) (fR τ 62 (upd (τ.2.1 62) i (τ.2.1 61 i))) _ _ _ ⟨by omega, hiX.2.R 62 _ (by decide)⟩ (by omega) h (lv_sub hl [0, 1, 2] rfl)
    exact lp17 _ 0 σ _ _ _ ⟨Nat.zero_le _, K.rf⟩ (Nat.lt_succ_self _) h (lv_sub hl [0, 1, 2] rfl)
  · refine lv_aload_n hx hb dX7_part_8 rfl (lv_at hl 0 rfl) ?_
    refine r_get E h 3 (v := .int (σ.1 16)) (eX_15 cy a σ) rfl fw_X7 (by decide) fl_X7_21 rfl dX7_part_9 ?_
    refine lv_if_gt (tgt := 48) hx hb dX7_part_12 (by decide) (fun c12 => ?_) (fun c12 => ?_)
    · refine lv_iload_n hx hb dX7_part_48 rfl (lv_at hl 1 rfl) ?_
      refine lv_istore_n (lv' := [(2, .int x), (0, .ref (a 15)), (1, .int x)]) hx hb dX7_part_49 rfl hl (by decide) rfl (fun ls hl => ?_)
      refine lv_iconst (v := 0) hx hb dX7_part_50 (by decide) ?_
      refine lv_istore_n (lv' := [(3, .int 0), (2, .int x), (0, .ref (a 15)), (1, .int x)]) hx hb dX7_part_51 rfl hl (by decide) rfl (fun ls hl => ?_)
      have lp52 : ∀ (f : Nat) (i : Nat) (u : Int32) (τ : St) (H : Heap) (locs : List Loc) (ls : Array Slot), (i ≤ z ∧ KS σ τ) → (z - i) < f → HW D (AX a) s (wX cy a τ) H locs → lv_has ls 4 [(3, .int (nI i)), (2, .int u), (0, .ref (a 15)), (1, .int x)] → W p l e (rmOf 0 0) s m args below meth c H locs 0 0 (MQ below (va_Qi (fun _ τ => K cF cA2 σ τ ∧ SHI B τ) (fun u t => va_P D vwCl (wX cy a u) t.heap) (AX a)) args s 0 0 (AX a)) (F0 m 52 ls []) := by
        intro f
        induction f with
        | zero => intro i u τ H locs ls _ hf; exact absurd hf (Nat.not_lt_zero _)
        | succ f ih52 =>
          intro i u τ H locs ls hi52 hf52 h hl
          have hiX := hi52
          refine lv_iload_n hx hb dX7_part_52 rfl (lv_at hl 0 rfl) ?_
          refine lv_aload_n hx hb dX7_part_53 rfl (lv_at hl 2 rfl) ?_
          refine r_get E h 4 (v := .int (nI z)) (eX_15 cy a τ) rfl fw_X7 (by decide) fl_X7_25 (congrArg (fun z => some (Value.int z)) ((hiX.2.1 17 (by decide)).trans hz)) dX7_part_54 ?_
          refine lv_icmp_ge (tgt := 98) hx hb dX7_part_57 (by decide) (fun c57 => ?_) (fun c57 => ?_)
          · refine lv_iconst (v := 0) hx hb dX7_part_98 (by decide) ?_
            refine lv_istore_n (lv' := [(3, .int 0), (2, .int u), (0, .ref (a 15)), (1, .int x)]) hx hb dX7_part_99 rfl hl (by decide) rfl (fun ls hl => ?_)
            have lp100 : ∀ (f : Nat) (i : Nat) (u : Int32) (τ : St) (H : Heap) (locs : List Loc) (ls : Array Slot), (i ≤ z ∧ KS σ τ) → (z - i) < f → HW D (AX a) s (wX cy a τ) H locs → lv_has ls 4 [(3, .int (nI i)), (2, .int u), (0, .ref (a 15)), (1, .int x)] → W p l e (rmOf 0 0) s m args below meth c H locs 0 0 (MQ below (va_Qi (fun _ τ => K cF cA2 σ τ ∧ SHI B τ) (fun u t => va_P D vwCl (wX cy a u) t.heap) (AX a)) args s 0 0 (AX a)) (F0 m 100 ls []) := by
              intro f
              induction f with
              | zero => intro i u τ H locs ls _ hf; exact absurd hf (Nat.not_lt_zero _)
              | succ f ih100 =>
                intro i u τ H locs ls hi100 hf100 h hl
                have hiX := hi100
                refine lv_iload_n hx hb dX7_part_100 rfl (lv_at hl 0 rfl) ?_
                refine lv_aload_n hx hb dX7_part_101 rfl (lv_at hl 2 rfl) ?_
                refine r_get E h 4 (v := .int (nI z)) (eX_15 cy a τ) rfl fw_X7 (by decide) fl_X7_25 (congrArg (fun z => some (Value.int z)) ((hiX.2.1 17 (by decide)).trans hz)) dX7_part_102 ?_
                refine lv_icmp_ge (tgt := 131) hx hb dX7_part_105 (by decide) (fun c105 => ?_) (fun c105 => ?_)
                · refine lv_iload_n hx hb dX7_part_131 rfl (lv_at hl 3 rfl) ?_
                  refine lv_iload_n hx hb dX7_part_132 rfl (lv_at hl 1 rfl) ?_
                  refine lv_isub hx hb dX7_part_133 ?_
                  exact t_i E h hr hk ⟨hiX.2.k, hiX.2.sh hs⟩ dX7_part_134
                · have c105 : i < z := Nat.lt_of_not_le fun q9 => c105 ((nI_leI (a := z) (b := i) (by omega) (by omega)).mpr q9)
                  refine lv_iload_n hx hb dX7_part_108 rfl (lv_at hl 1 rfl) ?_
                  refine lv_if_le (tgt := 131) hx hb dX7_part_109 (by decide) (fun c109 => ?_) (fun c109 => ?_)
                  · refine lv_iload_n hx hb dX7_part_131 rfl (lv_at hl 3 rfl) ?_
                    refine lv_iload_n hx hb dX7_part_132 rfl (lv_at hl 1 rfl) ?_
                    refine lv_isub hx hb dX7_part_133 ?_
                    exact t_i E h hr hk ⟨hiX.2.k, hiX.2.sh hs⟩ dX7_part_134
                  · refine lv_aload_n hx hb dX7_part_112 rfl (lv_at hl 2 rfl) ?_
                    refine r_get E h 2 (v := .ref (a 62)) (eX_15 cy a τ) rfl fw_X7 (by decide) fl_X7_18 rfl dX7_part_113 ?_
                    refine lv_iload_n hx hb dX7_part_116 rfl (lv_at hl 0 rfl) ?_
                    refine lv_dup2_11 hx hb dX7_part_117 rfl rfl ?_
                    refine r_ialdN E h (f := τ.2.1 62) (eX_62 cy a τ) (j := i) (by omega) (by decide) (v := τ.2.1 62 i) rfl dX7_part_118 ?_
                    refine lv_iconst (v := 1) hx hb dX7_part_119 (by decide) ?_
                    refine lv_iadd hx hb dX7_part_120 ?_
                    refine r_iastN E h (f := τ.2.1 62) (eX_62 cy a τ) (j := i) (by omega) (by decide) (qX_62 cy a τ (upd (τ.2.1 62) i ((τ.2.1 62 i) + 1))) dX7_part_121 (fun H locs h => ?_)
                    refine lv_iinc (v := u + (-1)) (lv' := [(2, .int (u + (-1))), (3, .int (nI i)), (0, .ref (a 15)), (1, .int x)]) hx hb dX7_part_122 hl (k := 1) rfl rfl (by decide) rfl (fun ls hl => ?_)
                    refine lv_iinc (v := nI (i + 1)) (lv' := [(3, .int (nI (i + 1))), (2, .int (u + (-1))), (0, .ref (a 15)), (1, .int x)]) hx hb dX7_part_125 hl (k := 1) rfl (nI_succ i).symm (by decide) rfl (fun ls hl => ?_)
                    refine lv_goto (tgt := 100) hx hb dX7_part_128 (by decide) ?_
                    exact ih100 (i + 1) (u + (-1)) (fR τ 62 (upd (τ.2.1 62) i ((τ.2.1 62 i) + 1))) _ _ _ ⟨by omega, hiX.2.R 62 _ (by decide)⟩ (by omega) h (lv_sub hl [0, 1, 2, 3] rfl)
            exact lp100 _ 0 u τ _ _ _ ⟨Nat.zero_le _, hiX.2⟩ (Nat.lt_succ_self _) h (lv_sub hl [0, 1, 2, 3] rfl)
          · have c57 : i < z := Nat.lt_of_not_le fun q9 => c57 ((nI_leI (a := z) (b := i) (by omega) (by omega)).mpr q9)
            refine lv_aload_n hx hb dX7_part_60 rfl (lv_at hl 2 rfl) ?_
            refine r_get E h 2 (v := .ref (a 62)) (eX_15 cy a τ) rfl fw_X7 (by decide) fl_X7_18 rfl dX7_part_61 ?_
            refine lv_iload_n hx hb dX7_part_64 rfl (lv_at hl 0 rfl) ?_
            refine lv_iload_n hx hb dX7_part_65 rfl (lv_at hl 3 rfl) ?_
            refine lv_i2l hx hb dX7_part_66 rfl ?_
            refine lv_aload_n hx hb dX7_part_67 rfl (lv_at hl 2 rfl) ?_
            refine r_get E h 1 (v := .ref (a 61)) (eX_15 cy a τ) rfl fw_X7 (by decide) fl_X7_15 rfl dX7_part_68 ?_
            refine lv_iload_n hx hb dX7_part_71 rfl (lv_at hl 0 rfl) ?_
            refine r_ialdN E h (f := τ.2.1 61) (eX_61 cy a τ) (j := i) (by omega) (by decide) (v := τ.2.1 61 i) rfl dX7_part_72 ?_
            refine lv_i2l hx hb dX7_part_73 rfl ?_
            refine lv_lmul hx hb dX7_part_74 ?_
            refine lv_aload_n hx hb dX7_part_75 rfl (lv_at hl 2 rfl) ?_
            refine r_get E h 3 (v := .int (τ.1 16)) (eX_15 cy a τ) rfl fw_X7 (by decide) fl_X7_21 rfl dX7_part_76 ?_
            refine lv_i2l hx hb dX7_part_79 rfl ?_
            refine lv_ldiv hx hb dX7_part_80 (by rw [hiX.2.1 16 (by decide)]; exact ne64 c12) ?_
            refine lv_l2i hx hb dX7_part_81 rfl ?_
            refine r_iastN E h (f := τ.2.1 62) (eX_62 cy a τ) (j := i) (by omega) (by decide) (qX_62 cy a τ (upd (τ.2.1 62) i (((x.toInt64 * ((τ.2.1 61 i).toInt64)) / ((τ.1 16).toInt64)).toInt32))) dX7_part_82 (fun H locs h => ?_)
            refine lv_iload_n hx hb dX7_part_83 rfl (lv_at hl 1 rfl) ?_
            refine lv_aload_n hx hb dX7_part_84 rfl (lv_at hl 2 rfl) ?_
            refine r_get E h 2 (v := .ref (a 62)) (eX_15 cy a (fR τ 62 (upd (τ.2.1 62) i (((x.toInt64 * ((τ.2.1 61 i).toInt64)) / ((τ.1 16).toInt64)).toInt32)))) rfl fw_X7 (by decide) fl_X7_18 rfl dX7_part_85 ?_
            refine lv_iload_n hx hb dX7_part_88 rfl (lv_at hl 0 rfl) ?_
            refine r_ialdN E h (f := upd (τ.2.1 62) i (((x.toInt64 * ((τ.2.1 61 i).toInt64)) / ((τ.1 16).toInt64)).toInt32)) (eX_62 cy a (fR τ 62 (upd (τ.2.1 62) i (((x.toInt64 * ((τ.2.1 61 i).toInt64)) / ((τ.1 16).toInt64)).toInt32)))) (j := i) (by omega) (by decide) (v := (upd (τ.2.1 62) i (((x.toInt64 * ((τ.2.1 61 i).toInt64)) / ((τ.1 16).toInt64)).toInt32)) i) rfl dX7_part_89 ?_
            refine lv_isub hx hb dX7_part_90 ?_
            refine lv_istore_n (lv' := [(2, .int (u - ((upd (τ.2.1 62) i (((x.toInt64 * ((τ.2.1 61 i).toInt64)) / ((τ.1 16).toInt64)).toInt32)) i))), (3, .int (nI i)), (0, .ref (a 15)), (1, .int x)]) hx hb dX7_part_91 rfl hl (by decide) rfl (fun ls hl => ?_)
            refine lv_iinc (v := nI (i + 1)) (lv' := [(3, .int (nI (i + 1))), (2, .int (u - ((upd (τ.2.1 62) i (((x.toInt64 * ((τ.2.1 61 i).toInt64)) / ((τ.1 16).toInt64)).toInt32)) i))), (0, .ref (a 15)), (1, .int x)]) hx hb dX7_part_92 hl (k := 1) rfl (nI_succ i).symm (by decide) rfl (fun ls hl => ?_)
            refine lv_goto (tgt := 52) hx hb dX7_part_95 (by decide) ?_
            exact ih52 (i + 1) (u - ((upd (τ.2.1 62) i (((x.toInt64 * ((τ.2.1 61 i).toInt64)) / ((τ.1 16).toInt64)).toInt32)) i)) (fR τ 62 (upd (τ.2.1 62) i (((x.toInt64 * ((τ.2.1 61 i).toInt64)) / ((τ.1 16).toInt64)).toInt32))) _ _ _ ⟨by omega, hiX.2.R 62 _ (by decide)⟩ (by omega) h (lv_sub hl [0, 1, 2, 3] rfl)
      exact lp52 _ 0 x σ _ _ _ ⟨Nat.zero_le _, K.rf⟩ (Nat.lt_succ_self _) h (lv_sub hl [0, 1, 2, 3] rfl)
    · refine lv_iconst (v := 0) hx hb dX7_part_15 (by decide) ?_
      refine lv_istore_n (lv' := [(2, .int 0), (0, .ref (a 15)), (1, .int x)]) hx hb dX7_part_16 rfl hl (by decide) rfl (fun ls hl => ?_)
      have lp17 : ∀ (f : Nat) (i : Nat) (τ : St) (H : Heap) (locs : List Loc) (ls : Array Slot), (i ≤ z ∧ KS σ τ) → (z - i) < f → HW D (AX a) s (wX cy a τ) H locs → lv_has ls 4 [(2, .int (nI i)), (0, .ref (a 15)), (1, .int x)] → W p l e (rmOf 0 0) s m args below meth c H locs 0 0 (MQ below (va_Qi (fun _ τ => K cF cA2 σ τ ∧ SHI B τ) (fun u t => va_P D vwCl (wX cy a u) t.heap) (AX a)) args s 0 0 (AX a)) (F0 m 17 ls []) := by
        intro f
        induction f with
        | zero => intro i τ H locs ls _ hf; exact absurd hf (Nat.not_lt_zero _)
        | succ f ih17 =>
          intro i τ H locs ls hi17 hf17 h hl
          have hiX := hi17
          refine lv_iload_n hx hb dX7_part_17 rfl (lv_at hl 0 rfl) ?_
          refine lv_aload_n hx hb dX7_part_18 rfl (lv_at hl 1 rfl) ?_
          refine r_get E h 4 (v := .int (nI z)) (eX_15 cy a τ) rfl fw_X7 (by decide) fl_X7_25 (congrArg (fun z => some (Value.int z)) ((hiX.2.1 17 (by decide)).trans hz)) dX7_part_19 ?_
          refine lv_icmp_ge (tgt := 43) hx hb dX7_part_22 (by decide) (fun c22 => ?_) (fun c22 => ?_)
          · refine lv_aload_n hx hb dX7_part_43 rfl (lv_at hl 1 rfl) ?_
            refine r_get E h 3 (v := .int (τ.1 16)) (eX_15 cy a τ) rfl fw_X7 (by decide) fl_X7_21 rfl dX7_part_44 ?_
            exact t_i E h hr hk ⟨hiX.2.k, hiX.2.sh hs⟩ dX7_part_47
          · have c22 : i < z := Nat.lt_of_not_le fun q9 => c22 ((nI_leI (a := z) (b := i) (by omega) (by omega)).mpr q9)
            refine lv_aload_n hx hb dX7_part_25 rfl (lv_at hl 1 rfl) ?_
            refine r_get E h 2 (v := .ref (a 62)) (eX_15 cy a τ) rfl fw_X7 (by decide) fl_X7_18 rfl dX7_part_26 ?_
            refine lv_iload_n hx hb dX7_part_29 rfl (lv_at hl 0 rfl) ?_
            refine lv_aload_n hx hb dX7_part_30 rfl (lv_at hl 1 rfl) ?_
            refine r_get E h 1 (v := .ref (a 61)) (eX_15 cy a τ) rfl fw_X7 (by decide) fl_X7_15 rfl dX7_part_31 ?_
            refine lv_iload_n hx hb dX7_part_34 rfl (lv_at hl 0 rfl) ?_
            refine r_ialdN E h (f := τ.2.1 61) (eX_61 cy a τ) (j := i) (by omega) (by decide) (v := τ.2.1 61 i) rfl dX7_part_35 ?_
            refine r_iastN E h (f := τ.2.1 62) (eX_62 cy a τ) (j := i) (by omega) (by decide) (qX_62 cy a τ (upd (τ.2.1 62) i (τ.2.1 61 i))) dX7_part_36 (fun H locs h => ?_)
            refine lv_iinc (v := nI (i + 1)) (lv' := [(2, .int (nI (i + 1))), (0, .ref (a 15)), (1, .int x)]) hx hb dX7_part_37 hl (k := 0) rfl (nI_succ i).symm (by decide) rfl (fun ls hl => ?_)
            refine lv_goto (tgt := 17) hx hb dX7_part_40 (by decide) ?_
            exact ih17 (i + 1) (fR τ 62 (upd (τ.2.1 62) i (τ.2.1 61 i))) _ _ _ ⟨by omega, hiX.2.R 62 _ (by decide)⟩ (by omega) h (lv_sub hl [0, 1, 2] rfl)
      exact lp17 _ 0 σ _ _ _ ⟨Nat.zero_le _, K.rf⟩ (Nat.lt_succ_self _) h (lv_sub hl [0, 1, 2] rfl)
