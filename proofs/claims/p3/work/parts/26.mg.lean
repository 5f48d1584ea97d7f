
theorem K.L {fs rs : List Nat} {σ τ : St} (h : K fs rs σ τ) (k : Nat) (v : Int64) : K fs rs σ (fL τ k v) := ⟨h.1, h.2⟩
def kn : List Nat := 12 :: 17 :: 18 :: mF
def kb : List Nat := 12 :: mF
def kA : List Nat := 28 :: mA
theorem kn_b {σ τ : St} (h : K kn kA σ τ) : K kb kA σ τ := K.sub h (by decide) (by decide)
theorem kb_m {σ τ : St} (h : K kb kA σ τ) : K mF mA σ τ := K.sub h (by decide) (by decide)
/-- the reader's place is on the tape -/
def TO (n : Nat) (σ : St) : Prop := ∃ t, t ≤ n ∧ σ.1 15 = nI t
theorem last64 {d : Nat} (hd : d + 1 ≤ 10) : (201 : Int64) - (nI (d + 1)).toInt64 = (nI (200 - d)).toInt64 := by
  rw [nI_l (by omega), nI_l (by omega)]
  have e := lN_sub (a := 201) (b := d + 1) (by omega)
  rw [show 201 - (d + 1) = 200 - d by omega] at e
  exact e
theorem r64 {x : Int32} {b t : Nat} (hb : b ≤ 200) (ht : t ≤ 200) (h : (nI b).toInt64 ≤ x.toInt64 ∧ x.toInt64 ≤ (nI t).toInt64) : ∃ k : Nat, b ≤ k ∧ k ≤ t ∧ x = nI k := by
  rw [wide_le, wide_le] at h
  have h0 : ¬ x < 0 := Int32.not_lt.mpr (Int32.le_trans (nI_pos' (by omega)) h.1)
  obtain ⟨j, hj, rfl⟩ := nI_of h0
  exact ⟨j, (nI_leI (by omega) hj).mp h.1, (nI_leI hj (by omega)).mp h.2, rfl⟩

set_option maxHeartbeats 4000000 in
set_option maxRecDepth 100000 in
theorem c_X12_isSmall (l : Launch) (D : va_G) (cy : Nat → ClassId) (a : Nat → Nat) (σ : St) (x : Int32)  : CI l yX12_isSmall cX12_isSmall 1 (some .boolean) (rmOf 0 0) D cy (wM cy a) (AM a) [.int x] σ (fun r τ => τ = σ ∧ (r = 0 ∨ r = 1)) := by
  refine c_of (lv := [(0, .int x)]) rfl (Nat.le_of_ble_eq_true rfl) rfl ?_
  intro p e s m args below meth c ls E h hr hk hl
  have hx := E.1
  have hb := E.2.1
  refine lv_iload_n hx hb dX12_isSmall_0 rfl (lv_at hl 0 rfl) ?_
  refine lv_bipush (v := 97) hx hb dX12_isSmall_1 (by decide) ?_
  refine lv_icmp_lt (tgt := 16) hx hb dX12_isSmall_3 (by decide) (fun c3 => ?_) (fun c3 => ?_)
  · refine lv_iconst (v := 0) hx hb dX12_isSmall_16 (by decide) ?_
    exact t_z E h hr hk (Or.inl rfl) ⟨rfl, Or.inl rfl⟩ dX12_isSmall_17
  · refine lv_iload_n hx hb dX12_isSmall_6 rfl (lv_at hl 0 rfl) ?_
    refine lv_bipush (v := 122) hx hb dX12_isSmall_7 (by decide) ?_
    refine lv_icmp_gt (tgt := 16) hx hb dX12_isSmall_9 (by decide) (fun c9 => ?_) (fun c9 => ?_)
    · refine lv_iconst (v := 0) hx hb dX12_isSmall_16 (by decide) ?_
      exact t_z E h hr hk (Or.inl rfl) ⟨rfl, Or.inl rfl⟩ dX12_isSmall_17
    · refine lv_iconst (v := 1) hx hb dX12_isSmall_12 (by decide) ?_
      refine lv_goto (tgt := 17) hx hb dX12_isSmall_13 (by decide) ?_
      exact t_z E h hr hk (Or.inr rfl) ⟨rfl, Or.inr rfl⟩ dX12_isSmall_17

set_option maxHeartbeats 4000000 in
set_option maxRecDepth 100000 in
theorem c_X12_isDigit (l : Launch) (D : va_G) (cy : Nat → ClassId) (a : Nat → Nat) (σ : St) (x : Int32)  : CI l yX12_isDigit cX12_isDigit 1 (some .boolean) (rmOf 0 0) D cy (wM cy a) (AM a) [.int x] σ (fun r τ => τ = σ ∧ (r = 0 ∨ r = 1)) := by
  refine c_of (lv := [(0, .int x)]) rfl (Nat.le_of_ble_eq_true rfl) rfl ?_
  intro p e s m args below meth c ls E h hr hk hl
  have hx := E.1
  have hb := E.2.1
  refine lv_iload_n hx hb dX12_isDigit_0 rfl (lv_at hl 0 rfl) ?_
  refine lv_bipush (v := 48) hx hb dX12_isDigit_1 (by decide) ?_
  refine lv_icmp_lt (tgt := 16) hx hb dX12_isDigit_3 (by decide) (fun c3 => ?_) (fun c3 => ?_)
  · refine lv_iconst (v := 0) hx hb dX12_isDigit_16 (by decide) ?_
    exact t_z E h hr hk (Or.inl rfl) ⟨rfl, Or.inl rfl⟩ dX12_isDigit_17
  · refine lv_iload_n hx hb dX12_isDigit_6 rfl (lv_at hl 0 rfl) ?_
    refine lv_bipush (v := 57) hx hb dX12_isDigit_7 (by decide) ?_
    refine lv_icmp_gt (tgt := 16) hx hb dX12_isDigit_9 (by decide) (fun c9 => ?_) (fun c9 => ?_)
    · refine lv_iconst (v := 0) hx hb dX12_isDigit_16 (by decide) ?_
      exact t_z E h hr hk (Or.inl rfl) ⟨rfl, Or.inl rfl⟩ dX12_isDigit_17
    · refine lv_iconst (v := 1) hx hb dX12_isDigit_12 (by decide) ?_
      refine lv_goto (tgt := 17) hx hb dX12_isDigit_13 (by decide) ?_
      exact t_z E h hr hk (Or.inr rfl) ⟨rfl, Or.inr rfl⟩ dX12_isDigit_17

set_option maxHeartbeats 4000000 in
set_option maxRecDepth 100000 in
theorem c_X12_isWord (l : Launch) (D : va_G) (cy : Nat → ClassId) (a : Nat → Nat) (σ : St) (x0 x1 x2 x3 x4 : Int32)  : CI l yX12_isWord cX12_isWord 8 (some .boolean) (rmOf 0 0) D cy (wM cy a) (AM a) [.ref (a 0), .int x0, .int x1, .int x2, .int x3, .int x4] σ (fun r τ => τ = σ ∧ (r = 0 ∨ r = 1)) := by
  refine c_of (lv := [(0, .ref (a 0)), (1, .int x0), (2, .int x1), (3, .int x2), (4, .int x3), (5, .int x4)]) rfl (Nat.le_of_ble_eq_true rfl) rfl ?_
  intro p e s m args below meth c ls E h hr hk hl
  have hx := E.1
  have hb := E.2.1
  refine lv_iload_n hx hb dX12_isWord_0 rfl (lv_at hl 1 rfl) ?_
  refine lv_i2l hx hb dX12_isWord_1 rfl ?_
  refine lv_ldc2 (v := 96) hx hb E.2.2.2.1 (E.2.2.2.2.1 _ kl_X12_245) dX12_isWord_2 ?_
  refine lv_lsub hx hb dX12_isWord_5 ?_
  refine lv_ldc2 (v := 32) hx hb E.2.2.2.1 (E.2.2.2.2.1 _ kl_X12_243) dX12_isWord_6 ?_
  refine lv_lmul hx hb dX12_isWord_9 ?_
  refine lv_iload_n hx hb dX12_isWord_10 rfl (lv_at hl 2 rfl) ?_
  refine lv_i2l hx hb dX12_isWord_11 rfl ?_
  refine lv_ladd hx hb dX12_isWord_12 ?_
  refine lv_ldc2 (v := 96) hx hb E.2.2.2.1 (E.2.2.2.2.1 _ kl_X12_245) dX12_isWord_13 ?_
  refine lv_lsub hx hb dX12_isWord_16 ?_
  refine lv_lstore (lv' := [(6, .long ((((x0.toInt64 - 96) * 32) + x1.toInt64) - 96)), (0, .ref (a 0)), (1, .int x0), (2, .int x1), (3, .int x2), (4, .int x3), (5, .int x4)]) hx hb dX12_isWord_17 hl (by decide) rfl (fun ls hl => ?_)
  refine lv_iload_n hx hb dX12_isWord_19 rfl (lv_at hl 4 rfl) ?_
  refine lv_if_ne (tgt := 28) hx hb dX12_isWord_20 (by decide) (fun c20 => ?_) (fun c20 => ?_)
  · refine lv_lload hx hb dX12_isWord_28 (lv_at hl 0 rfl) ?_
    refine lv_ldc2 (v := 32) hx hb E.2.2.2.1 (E.2.2.2.2.1 _ kl_X12_243) dX12_isWord_30 ?_
    refine lv_lmul hx hb dX12_isWord_33 ?_
    refine lv_iload_n hx hb dX12_isWord_34 rfl (lv_at hl 4 rfl) ?_
    refine lv_i2l hx hb dX12_isWord_35 rfl ?_
    refine lv_ladd hx hb dX12_isWord_36 ?_
    refine lv_ldc2 (v := 96) hx hb E.2.2.2.1 (E.2.2.2.2.1 _ kl_X12_245) dX12_isWord_37 ?_
    refine lv_lsub hx hb dX12_isWord_40 ?_
    refine lv_lstore (lv' := [(6, .long (((((((x0.toInt64 - 96) * 32) + x1.toInt64) - 96) * 32) + x2.toInt64) - 96)), (0, .ref (a 0)), (1, .int x0), (2, .int x1), (3, .int x2), (4, .int x3), (5, .int x4)]) hx hb dX12_isWord_41 hl (by decide) rfl (fun ls hl => ?_)
    refine lv_iload hx hb dX12_isWord_43 (lv_at hl 5 rfl) ?_
    refine lv_if_ne (tgt := 53) hx hb dX12_isWord_45 (by decide) (fun c45 => ?_) (fun c45 => ?_)
    · refine lv_lload hx hb dX12_isWord_53 (lv_at hl 0 rfl) ?_
      refine lv_ldc2 (v := 32) hx hb E.2.2.2.1 (E.2.2.2.2.1 _ kl_X12_243) dX12_isWord_55 ?_
      refine lv_lmul hx hb dX12_isWord_58 ?_
      refine lv_iload hx hb dX12_isWord_59 (lv_at hl 5 rfl) ?_
      refine lv_i2l hx hb dX12_isWord_61 rfl ?_
      refine lv_ladd hx hb dX12_isWord_62 ?_
      refine lv_ldc2 (v := 96) hx hb E.2.2.2.1 (E.2.2.2.2.1 _ kl_X12_245) dX12_isWord_63 ?_
      refine lv_lsub hx hb dX12_isWord_66 ?_
      refine lv_lstore (lv' := [(6, .long ((((((((((x0.toInt64 - 96) * 32) + x1.toInt64) - 96) * 32) + x2.toInt64) - 96) * 32) + x3.toInt64) - 96)), (0, .ref (a 0)), (1, .int x0), (2, .int x1), (3, .int x2), (4, .int x3), (5, .int x4)]) hx hb dX12_isWord_67 hl (by decide) rfl (fun ls hl => ?_)
      refine lv_iload hx hb dX12_isWord_69 (lv_at hl 6 rfl) ?_
      refine lv_if_ne (tgt := 79) hx hb dX12_isWord_71 (by decide) (fun c71 => ?_) (fun c71 => ?_)
      · refine lv_lload hx hb dX12_isWord_79 (lv_at hl 0 rfl) ?_
        refine lv_ldc2 (v := 32) hx hb E.2.2.2.1 (E.2.2.2.2.1 _ kl_X12_243) dX12_isWord_81 ?_
        refine lv_lmul hx hb dX12_isWord_84 ?_
        refine lv_iload hx hb dX12_isWord_85 (lv_at hl 6 rfl) ?_
        refine lv_i2l hx hb dX12_isWord_87 rfl ?_
        refine lv_ladd hx hb dX12_isWord_88 ?_
        refine lv_ldc2 (v := 96) hx hb E.2.2.2.1 (E.2.2.2.2.1 _ kl_X12_245) dX12_isWord_89 ?_
        refine lv_lsub hx hb dX12_isWord_92 ?_
        refine lv_lstore (lv' := [(6, .long (((((((((((((x0.toInt64 - 96) * 32) + x1.toInt64) - 96) * 32) + x2.toInt64) - 96) * 32) + x3.toInt64) - 96) * 32) + x4.toInt64) - 96)), (0, .ref (a 0)), (1, .int x0), (2, .int x1), (3, .int x2), (4, .int x3), (5, .int x4)]) hx hb dX12_isWord_93 hl (by decide) rfl (fun ls hl => ?_)
        refine lv_aload_n hx hb dX12_isWord_95 rfl (lv_at hl 1 rfl) ?_
        refine r_get E h 45 (v := .int (σ.1 16)) (eM_0 cy a σ) rfl fw_X12 (by decide) fl_X12_240 rfl dX12_isWord_96 ?_
        refine lv_iconst (v := 1) hx hb dX12_isWord_99 (by decide) ?_
        refine lv_icmp_ne (tgt := 117) hx hb dX12_isWord_100 (by decide) (fun c100 => ?_) (fun c100 => ?_)
        · refine lv_iconst (v := 0) hx hb dX12_isWord_117 (by decide) ?_
          exact t_z E h hr hk (Or.inl rfl) ⟨rfl, Or.inl rfl⟩ dX12_isWord_118
        · refine lv_aload_n hx hb dX12_isWord_103 rfl (lv_at hl 1 rfl) ?_
          refine r_get E h 46 (v := .long (σ.2.2 0)) (eM_0 cy a σ) rfl fw_X12 (by decide) fl_X12_230 rfl dX12_isWord_104 ?_
          refine lv_lload hx hb dX12_isWord_107 (lv_at hl 0 rfl) ?_
          refine W.lcmp hx hb dX12_isWord_109 ?_
          refine lv_if_ne (tgt := 117) hx hb dX12_isWord_110 (by decide) (fun c110 => ?_) (fun c110 => ?_)
          · refine lv_iconst (v := 0) hx hb dX12_isWord_117 (by decide) ?_
            exact t_z E h hr hk (Or.inl rfl) ⟨rfl, Or.inl rfl⟩ dX12_isWord_118
          · refine lv_iconst (v := 1) hx hb dX12_isWord_113 (by decide) ?_
            refine lv_goto (tgt := 118) hx hb dX12_isWord_114 (by decide) ?_
            exact t_z E h hr hk (Or.inr rfl) ⟨rfl, Or.inr rfl⟩ dX12_isWord_118
      · refine lv_lload hx hb dX12_isWord_74 (lv_at hl 0 rfl) ?_
        refine lv_goto (tgt := 93) hx hb dX12_isWord_76 (by decide) ?_
        refine lv_lstore (lv' := [(6, .long ((((((((((x0.toInt64 - 96) * 32) + x1.toInt64) - 96) * 32) + x2.toInt64) - 96) * 32) + x3.toInt64) - 96)), (0, .ref (a 0)), (1, .int x0), (2, .int x1), (3, .int x2), (4, .int x3), (5, .int x4)]) hx hb dX12_isWord_93 hl (by decide) rfl (fun ls hl => ?_)
        refine lv_aload_n hx hb dX12_isWord_95 rfl (lv_at hl 1 rfl) ?_
        refine r_get E h 45 (v := .int (σ.1 16)) (eM_0 cy a σ) rfl fw_X12 (by decide) fl_X12_240 rfl dX12_isWord_96 ?_
        refine lv_iconst (v := 1) hx hb dX12_isWord_99 (by decide) ?_
        refine lv_icmp_ne (tgt := 117) hx hb dX12_isWord_100 (by decide) (fun c100 => ?_) (fun c100 => ?_)
        · refine lv_iconst (v := 0) hx hb dX12_isWord_117 (by decide) ?_
          exact t_z E h hr hk (Or.inl rfl) ⟨rfl, Or.inl rfl⟩ dX12_isWord_118
        · refine lv_aload_n hx hb dX12_isWord_103 rfl (lv_at hl 1 rfl) ?_
          refine r_get E h 46 (v := .long (σ.2.2 0)) (eM_0 cy a σ) rfl fw_X12 (by decide) fl_X12_230 rfl dX12_isWord_104 ?_
          refine lv_lload hx hb dX12_isWord_107 (lv_at hl 0 rfl) ?_
          refine W.lcmp hx hb dX12_isWord_109 ?_
          refine lv_if_ne (tgt := 117) hx hb dX12_isWord_110 (by decide) (fun c110 => ?_) (fun c110 => ?_)
          · refine lv_iconst (v := 0) hx hb dX12_isWord_117 (by decide) ?_
            exact t_z E h hr hk (Or.inl rfl) ⟨rfl, Or.inl rfl⟩ dX12_isWord_118
          · refine lv_iconst (v := 1) hx hb dX12_isWord_113 (by decide) ?_
            refine lv_goto (tgt := 118) hx hb dX12_isWord_114 (by decide) ?_
            exact t_z E h hr hk (Or.inr rfl) ⟨rfl, Or.inr rfl⟩ dX12_isWord_118
    · refine lv_lload hx hb dX12_isWord_48 (lv_at hl 0 rfl) ?_
      refine lv_goto (tgt := 67) hx hb dX12_isWord_50 (by decide) ?_
      refine lv_lstore (lv' := [(6, .long (((((((x0.toInt64 - 96) * 32) + x1.toInt64) - 96) * 32) + x2.toInt64) - 96)), (0, .ref (a 0)), (1, .int x0), (2, .int x1), (3, .int x2), (4, .int x3), (5, .int x4)]) hx hb dX12_isWord_67 hl (by decide) rfl (fun ls hl => ?_)
      refine lv_iload hx hb dX12_isWord_69 (lv_at hl 6 rfl) ?_
      refine lv_if_ne (tgt := 79) hx hb dX12_isWord_71 (by decide) (fun c71 => ?_) (fun c71 => ?_)
      · refine lv_lload hx hb dX12_isWord_79 (lv_at hl 0 rfl) ?_
        refine lv_ldc2 (v := 32) hx hb E.2.2.2.1 (E.2.2.2.2.1 _ kl_X12_243) dX12_isWord_81 ?_
        refine lv_lmul hx hb dX12_isWord_84 ?_
        refine lv_iload hx hb dX12_isWord_85 (lv_at hl 6 rfl) ?_
        refine lv_i2l hx hb dX12_isWord_87 rfl ?_
        refine lv_ladd hx hb dX12_isWord_88 ?_
        refine lv_ldc2 (v := 96) hx hb E.2.2.2.1 (E.2.2.2.2.1 _ kl_X12_245) dX12_isWord_89 ?_
        refine lv_lsub hx hb dX12_isWord_92 ?_
        refine lv_lstore (lv' := [(6, .long ((((((((((x0.toInt64 - 96) * 32) + x1.toInt64) - 96) * 32) + x2.toInt64) - 96) * 32) + x4.toInt64) - 96)), (0, .ref (a 0)), (1, .int x0), (2, .int x1), (3, .int x2), (4, .int x3), (5, .int x4)]) hx hb dX12_isWord_93 hl (by decide) rfl (fun ls hl => ?_)
        refine lv_aload_n hx hb dX12_isWord_95 rfl (lv_at hl 1 rfl) ?_
        refine r_get E h 45 (v := .int (σ.1 16)) (eM_0 cy a σ) rfl fw_X12 (by decide) fl_X12_240 rfl dX12_isWord_96 ?_
        refine lv_iconst (v := 1) hx hb dX12_isWord_99 (by decide) ?_
        refine lv_icmp_ne (tgt := 117) hx hb dX12_isWord_100 (by decide) (fun c100 => ?_) (fun c100 => ?_)
        · refine lv_iconst (v := 0) hx hb dX12_isWord_117 (by decide) ?_
          exact t_z E h hr hk (Or.inl rfl) ⟨rfl, Or.inl rfl⟩ dX12_isWord_118
        · refine lv_aload_n hx hb dX12_isWord_103 rfl (lv_at hl 1 rfl) ?_
          refine r_get E h 46 (v := .long (σ.2.2 0)) (eM_0 cy a σ) rfl fw_X12 (by decide) fl_X12_230 rfl dX12_isWord_104 ?_
          refine lv_lload hx hb dX12_isWord_107 (lv_at hl 0 rfl) ?_
          refine W.lcmp hx hb dX12_isWord_109 ?_
          refine lv_if_ne (tgt := 117) hx hb dX12_isWord_110 (by decide) (fun c110 => ?_) (fun c110 => ?_)
          · refine lv_iconst (v := 0) hx hb dX12_isWord_117 (by decide) ?_
            exact t_z E h hr hk (Or.inl rfl) ⟨rfl, Or.inl rfl⟩ dX12_isWord_118
          · refine lv_iconst (v := 1) hx hb dX12_isWord_113 (by decide) ?_
            refine lv_goto (tgt := 118) hx hb dX12_isWord_114 (by decide) ?_
            exact t_z E h hr hk (Or.inr rfl) ⟨rfl, Or.inr rfl⟩ dX12_isWord_118
      · refine lv_lload hx hb dX12_isWord_74 (lv_at hl 0 rfl) ?_
        refine lv_goto (tgt := 93) hx hb dX12_isWord_76 (by decide) ?_
        refine lv_lstore (lv' := [(6, .long (((((((x0.toInt64 - 96) * 32) + x1.toInt64) - 96) * 32) + x2.toInt64) - 96)), (0, .ref (a 0)), (1, .int x0), (2, .int x1), (3, .int x2), (4, .int x3), (5, .int x4)]) hx hb dX12_isWord_93 hl (by decide) rfl (fun ls hl => ?_)
        refine lv_aload_n hx hb dX12_isWord_95 rfl (lv_at hl 1 rfl) ?_
        refine r_get E h 45 (v := .int (σ.1 16)) (eM_0 cy a σ) rfl fw_X12 (by decide) fl_X12_240 rfl dX12_isWord_96 ?_
        refine lv_iconst (v := 1) hx hb dX12_isWord_99 (by decide) ?_
        refine lv_icmp_ne (tgt := 117) hx hb dX12_isWord_100 (by decide) (fun c100 => ?_) (fun c100 => ?_)
        · refine lv_iconst (v := 0) hx hb dX12_isWord_117 (by decide) ?_
          exact t_z E h hr hk (Or.inl rfl) ⟨rfl, Or.inl rfl⟩ dX12_isWord_118
        · refine lv_aload_n hx hb dX12_isWord_103 rfl (lv_at hl 1 rfl) ?_
          refine r_get E h 46 (v := .long (σ.2.2 0)) (eM_0 cy a σ) rfl fw_X12 (by decide) fl_X12_230 rfl dX12_isWord_104 ?_
          refine lv_lload hx hb dX12_isWord_107 (lv_at hl 0 rfl) ?_
          refine W.lcmp hx hb dX12_isWord_109 ?_
          refine lv_if_ne (tgt := 117) hx hb dX12_isWord_110 (by decide) (fun c110 => ?_) (fun c110 => ?_)
          · refine lv_iconst (v := 0) hx hb dX12_isWord_117 (by decide) ?_
            exact t_z E h hr hk (Or.inl rfl) ⟨rfl, Or.inl rfl⟩ dX12_isWord_118
          · refine lv_iconst (v := 1) hx hb dX12_isWord_113 (by decide) ?_
            refine lv_goto (tgt := 118) hx hb dX12_isWord_114 (by decide) ?_
            exact t_z E h hr hk (Or.inr rfl) ⟨rfl, Or.inr rfl⟩ dX12_isWord_118
  · refine lv_lload hx hb dX12_isWord_23 (lv_at hl 0 rfl) ?_
    refine lv_goto (tgt := 41) hx hb dX12_isWord_25 (by decide) ?_
    refine lv_lstore (lv' := [(6, .long ((((x0.toInt64 - 96) * 32) + x1.toInt64) - 96)), (0, .ref (a 0)), (1, .int x0), (2, .int x1), (3, .int x2), (4, .int x3), (5, .int x4)]) hx hb dX12_isWord_41 hl (by decide) rfl (fun ls hl => ?_)
    refine lv_iload hx hb dX12_isWord_43 (lv_at hl 5 rfl) ?_
    refine lv_if_ne (tgt := 53) hx hb dX12_isWord_45 (by decide) (fun c45 => ?_) (fun c45 => ?_)
    · refine lv_lload hx hb dX12_isWord_53 (lv_at hl 0 rfl) ?_
      refine lv_ldc2 (v := 32) hx hb E.2.2.2.1 (E.2.2.2.2.1 _ kl_X12_243) dX12_isWord_55 ?_
      refine lv_lmul hx hb dX12_isWord_58 ?_
      refine lv_iload hx hb dX12_isWord_59 (lv_at hl 5 rfl) ?_
      refine lv_i2l hx hb dX12_isWord_61 rfl ?_
      refine lv_ladd hx hb dX12_isWord_62 ?_
      refine lv_ldc2 (v := 96) hx hb E.2.2.2.1 (E.2.2.2.2.1 _ kl_X12_245) dX12_isWord_63 ?_
      refine lv_lsub hx hb dX12_isWord_66 ?_
      refine lv_lstore (lv' := [(6, .long (((((((x0.toInt64 - 96) * 32) + x1.toInt64) - 96) * 32) + x3.toInt64) - 96)), (0, .ref (a 0)), (1, .int x0), (2, .int x1), (3, .int x2), (4, .int x3), (5, .int x4)]) hx hb dX12_isWord_67 hl (by decide) rfl (fun ls hl => ?_)
      refine lv_iload hx hb dX12_isWord_69 (lv_at hl 6 rfl) ?_
      refine lv_if_ne (tgt := 79) hx hb dX12_isWord_71 (by decide) (fun c71 => ?_) (fun c71 => ?_)
      · refine lv_lload hx hb dX12_isWord_79 (lv_at hl 0 rfl) ?_
        refine lv_ldc2 (v := 32) hx hb E.2.2.2.1 (E.2.2.2.2.1 _ kl_X12_243) dX12_isWord_81 ?_
        refine lv_lmul hx hb dX12_isWord_84 ?_
        refine lv_iload hx hb dX12_isWord_85 (lv_at hl 6 rfl) ?_
        refine lv_i2l hx hb dX12_isWord_87 rfl ?_
        refine lv_ladd hx hb dX12_isWord_88 ?_
        refine lv_ldc2 (v := 96) hx hb E.2.2.2.1 (E.2.2.2.2.1 _ kl_X12_245) dX12_isWord_89 ?_
        refine lv_lsub hx hb dX12_isWord_92 ?_
        refine lv_lstore (lv' := [(6, .long ((((((((((x0.toInt64 - 96) * 32) + x1.toInt64) - 96) * 32) + x3.toInt64) - 96) * 32) + x4.toInt64) - 96)), (0, .ref (a 0)), (1, .int x0), (2, .int x1), (3, .int x2), (4, .int x3), (5, .int x4)]) hx hb dX12_isWord_93 hl (by decide) rfl (fun ls hl => ?_)
        refine lv_aload_n hx hb dX12_isWord_95 rfl (lv_at hl 1 rfl) ?_
        refine r_get E h 45 (v := .int (σ.1 16)) (eM_0 cy a σ) rfl fw_X12 (by decide) fl_X12_240 rfl dX12_isWord_96 ?_
        refine lv_iconst (v := 1) hx hb dX12_isWord_99 (by decide) ?_
        refine lv_icmp_ne (tgt := 117) hx hb dX12_isWord_100 (by decide) (fun c100 => ?_) (fun c100 => ?_)
        · refine lv_iconst (v := 0) hx hb dX12_isWord_117 (by decide) ?_
          exact t_z E h hr hk (Or.inl rfl) ⟨rfl, Or.inl rfl⟩ dX12_isWord_118
        · refine lv_aload_n hx hb dX12_isWord_103 rfl (lv_at hl 1 rfl) ?_
          refine r_get E h 46 (v := .long (σ.2.2 0)) (eM_0 cy a σ) rfl fw_X12 (by decide) fl_X12_230 rfl dX12_isWord_104 ?_
          refine lv_lload hx hb dX12_isWord_107 (lv_at hl 0 rfl) ?_
          refine W.lcmp hx hb dX12_isWord_109 ?_
          refine lv_if_ne (tgt := 117) hx hb dX12_isWord_110 (by decide) (fun c110 => ?_) (fun c110 => ?_)
          · refine lv_iconst (v := 0) hx hb dX12_isWord_117 (by decide) ?_
            exact t_z E h hr hk (Or.inl rfl) ⟨rfl, Or.inl rfl⟩ dX12_isWord_118
          · refine lv_iconst (v := 1) hx hb dX12_isWord_113 (by decide) ?_
            refine lv_goto (tgt := 118) hx hb dX12_isWord_114 (by decide) ?_
            exact t_z E h hr hk (Or.inr rfl) ⟨rfl, Or.inr rfl⟩ dX12_isWord_118
      · refine lv_lload hx hb dX12_isWord_74 (lv_at hl 0 rfl) ?_
        refine lv_goto (tgt := 93) hx hb dX12_isWord_76 (by decide) ?_
        refine lv_lstore (lv' := [(6, .long (((((((x0.toInt64 - 96) * 32) + x1.toInt64) - 96) * 32) + x3.toInt64) - 96)), (0, .ref (a 0)), (1, .int x0), (2, .int x1), (3, .int x2), (4, .int x3), (5, .int x4)]) hx hb dX12_isWord_93 hl (by decide) rfl (fun ls hl => ?_)
        refine lv_aload_n hx hb dX12_isWord_95 rfl (lv_at hl 1 rfl) ?_
        refine r_get E h 45 (v := .int (σ.1 16)) (eM_0 cy a σ) rfl fw_X12 (by decide) fl_X12_240 rfl dX12_isWord_96 ?_
        refine lv_iconst (v := 1) hx hb dX12_isWord_99 (by decide) ?_
        refine lv_icmp_ne (tgt := 117) hx hb dX12_isWord_100 (by decide) (fun c100 => ?_) (fun c100 => ?_)
        · refine lv_iconst (v := 0) hx hb dX12_isWord_117 (by decide) ?_
          exact t_z E h hr hk (Or.inl rfl) ⟨rfl, Or.inl rfl⟩ dX12_isWord_118
        · refine lv_aload_n hx hb dX12_isWord_103 rfl (lv_at hl 1 rfl) ?_
          refine r_get E h 46 (v := .long (σ.2.2 0)) (eM_0 cy a σ) rfl fw_X12 (by decide) fl_X12_230 rfl dX12_isWord_104 ?_
          refine lv_lload hx hb dX12_isWord_107 (lv_at hl 0 rfl) ?_
          refine W.lcmp hx hb dX12_isWord_109 ?_
          refine lv_if_ne (tgt := 117) hx hb dX12_isWord_110 (by decide) (fun c110 => ?_) (fun c110 => ?_)
          · refine lv_iconst (v := 0) hx hb dX12_isWord_117 (by decide) ?_
            exact t_z E h hr hk (Or.inl rfl) ⟨rfl, Or.inl rfl⟩ dX12_isWord_118
          · refine lv_iconst (v := 1) hx hb dX12_isWord_113 (by decide) ?_
            refine lv_goto (tgt := 118) hx hb dX12_isWord_114 (by decide) ?_
            exact t_z E h hr hk (Or.inr rfl) ⟨rfl, Or.inr rfl⟩ dX12_isWord_118
    · refine lv_lload hx hb dX12_isWord_48 (lv_at hl 0 rfl) ?_
      refine lv_goto (tgt := 67) hx hb dX12_isWord_50 (by decide) ?_
      refine lv_lstore (lv' := [(6, .long ((((x0.toInt64 - 96) * 32) + x1.toInt64) - 96)), (0, .ref (a 0)), (1, .int x0), (2, .int x1), (3, .int x2), (4, .int x3), (5, .int x4)]) hx hb dX12_isWord_67 hl (by decide) rfl (fun ls hl => ?_)
      refine lv_iload hx hb dX12_isWord_69 (lv_at hl 6 rfl) ?_
      refine lv_if_ne (tgt := 79) hx hb dX12_isWord_71 (by decide) (fun c71 => ?_) (fun c71 => ?_)
      · refine lv_lload hx hb dX12_isWord_79 (lv_at hl 0 rfl) ?_
        refine lv_ldc2 (v := 32) hx hb E.2.2.2.1 (E.2.2.2.2.1 _ kl_X12_243) dX12_isWord_81 ?_
        refine lv_lmul hx hb dX12_isWord_84 ?_
        refine lv_iload hx hb dX12_isWord_85 (lv_at hl 6 rfl) ?_
        refine lv_i2l hx hb dX12_isWord_87 rfl ?_
        refine lv_ladd hx hb dX12_isWord_88 ?_
        refine lv_ldc2 (v := 96) hx hb E.2.2.2.1 (E.2.2.2.2.1 _ kl_X12_245) dX12_isWord_89 ?_
        refine lv_lsub hx hb dX12_isWord_92 ?_
        refine lv_lstore (lv' := [(6, .long (((((((x0.toInt64 - 96) * 32) + x1.toInt64) - 96) * 32) + x4.toInt64) - 96)), (0, .ref (a 0)), (1, .int x0), (2, .int x1), (3, .int x2), (4, .int x3), (5, .int x4)]) hx hb dX12_isWord_93 hl (by decide) rfl (fun ls hl => ?_)
        refine lv_aload_n hx hb dX12_isWord_95 rfl (lv_at hl 1 rfl) ?_
        refine r_get E h 45 (v := .int (σ.1 16)) (eM_0 cy a σ) rfl fw_X12 (by decide) fl_X12_240 rfl dX12_isWord_96 ?_
        refine lv_iconst (v := 1) hx hb dX12_isWord_99 (by decide) ?_
        refine lv_icmp_ne (tgt := 117) hx hb dX12_isWord_100 (by decide) (fun c100 => ?_) (fun c100 => ?_)
        · refine lv_iconst (v := 0) hx hb dX12_isWord_117 (by decide) ?_
          exact t_z E h hr hk (Or.inl rfl) ⟨rfl, Or.inl rfl⟩ dX12_isWord_118
        · refine lv_aload_n hx hb dX12_isWord_103 rfl (lv_at hl 1 rfl) ?_
          refine r_get E h 46 (v := .long (σ.2.2 0)) (eM_0 cy a σ) rfl fw_X12 (by decide) fl_X12_230 rfl dX12_isWord_104 ?_
          refine lv_lload hx hb dX12_isWord_107 (lv_at hl 0 rfl) ?_
          refine W.lcmp hx hb dX12_isWord_109 ?_
          refine lv_if_ne (tgt := 117) hx hb dX12_isWord_110 (by decide) (fun c110 => ?_) (fun c110 => ?_)
          · refine lv_iconst (v := 0) hx hb dX12_isWord_117 (by decide) ?_
            exact t_z E h hr hk (Or.inl rfl) ⟨rfl, Or.inl rfl⟩ dX12_isWord_118
          · refine lv_iconst (v := 1) hx hb dX12_isWord_113 (by decide) ?_
            refine lv_goto (tgt := 118) hx hb dX12_isWord_114 (by decide) ?_
            exact t_z E h hr hk (Or.inr rfl) ⟨rfl, Or.inr rfl⟩ dX12_isWord_118
      · refine lv_lload hx hb dX12_isWord_74 (lv_at hl 0 rfl) ?_
        refine lv_goto (tgt := 93) hx hb dX12_isWord_76 (by decide) ?_
        refine lv_lstore (lv' := [(6, .long ((((x0.toInt64 - 96) * 32) + x1.toInt64) - 96)), (0, .ref (a 0)), (1, .int x0), (2, .int x1), (3, .int x2), (4, .int x3), (5, .int x4)]) hx hb dX12_isWord_93 hl (by decide) rfl (fun ls hl => ?_)
        refine lv_aload_n hx hb dX12_isWord_95 rfl (lv_at hl 1 rfl) ?_
        refine r_get E h 45 (v := .int (σ.1 16)) (eM_0 cy a σ) rfl fw_X12 (by decide) fl_X12_240 rfl dX12_isWord_96 ?_
        refine lv_iconst (v := 1) hx hb dX12_isWord_99 (by decide) ?_
        refine lv_icmp_ne (tgt := 117) hx hb dX12_isWord_100 (by decide) (fun c100 => ?_) (fun c100 => ?_)
        · refine lv_iconst (v := 0) hx hb dX12_isWord_117 (by decide) ?_
          exact t_z E h hr hk (Or.inl rfl) ⟨rfl, Or.inl rfl⟩ dX12_isWord_118
        · refine lv_aload_n hx hb dX12_isWord_103 rfl (lv_at hl 1 rfl) ?_
          refine r_get E h 46 (v := .long (σ.2.2 0)) (eM_0 cy a σ) rfl fw_X12 (by decide) fl_X12_230 rfl dX12_isWord_104 ?_
          refine lv_lload hx hb dX12_isWord_107 (lv_at hl 0 rfl) ?_
          refine W.lcmp hx hb dX12_isWord_109 ?_
          refine lv_if_ne (tgt := 117) hx hb dX12_isWord_110 (by decide) (fun c110 => ?_) (fun c110 => ?_)
          · refine lv_iconst (v := 0) hx hb dX12_isWord_117 (by decide) ?_
            exact t_z E h hr hk (Or.inl rfl) ⟨rfl, Or.inl rfl⟩ dX12_isWord_118
          · refine lv_iconst (v := 1) hx hb dX12_isWord_113 (by decide) ?_
            refine lv_goto (tgt := 118) hx hb dX12_isWord_114 (by decide) ?_
            exact t_z E h hr hk (Or.inr rfl) ⟨rfl, Or.inr rfl⟩ dX12_isWord_118

set_option maxHeartbeats 4000000 in
set_option maxRecDepth 100000 in
theorem c_X12_isLong (l : Launch) (D : va_G) (cy : Nat → ClassId) (a : Nat → Nat) (σ : St) (x0 x1 x2 x3 x4 x5 x6 x7 x8 : Int32)  : CI l yX12_isLong cX12_isLong 12 (some .boolean) (rmOf 0 0) D cy (wM cy a) (AM a) [.ref (a 0), .int x0, .int x1, .int x2, .int x3, .int x4, .int x5, .int x6, .int x7, .int x8] σ (fun r τ => τ = σ ∧ (r = 0 ∨ r = 1)) := by
  refine c_of (lv := [(0, .ref (a 0)), (1, .int x0), (2, .int x1), (3, .int x2), (4, .int x3), (5, .int x4), (6, .int x5), (7, .int x6), (8, .int x7), (9, .int x8)]) rfl (Nat.le_of_ble_eq_true rfl) rfl ?_
  intro p e s m args below meth c ls E h hr hk hl
  have hx := E.1
  have hb := E.2.1
  refine lv_iload_n hx hb dX12_isLong_0 rfl (lv_at hl 1 rfl) ?_
  refine lv_i2l hx hb dX12_isLong_1 rfl ?_
  refine lv_ldc2 (v := 96) hx hb E.2.2.2.1 (E.2.2.2.2.1 _ kl_X12_245) dX12_isLong_2 ?_
  refine lv_lsub hx hb dX12_isLong_5 ?_
  refine lv_ldc2 (v := 32) hx hb E.2.2.2.1 (E.2.2.2.2.1 _ kl_X12_243) dX12_isLong_6 ?_
  refine lv_lmul hx hb dX12_isLong_9 ?_
  refine lv_iload_n hx hb dX12_isLong_10 rfl (lv_at hl 2 rfl) ?_
  refine lv_i2l hx hb dX12_isLong_11 rfl ?_
  refine lv_ladd hx hb dX12_isLong_12 ?_
  refine lv_ldc2 (v := 96) hx hb E.2.2.2.1 (E.2.2.2.2.1 _ kl_X12_245) dX12_isLong_13 ?_
  refine lv_lsub hx hb dX12_isLong_16 ?_
  refine lv_ldc2 (v := 32) hx hb E.2.2.2.1 (E.2.2.2.2.1 _ kl_X12_243) dX12_isLong_17 ?_
  refine lv_lmul hx hb dX12_isLong_20 ?_
  refine lv_iload_n hx hb dX12_isLong_21 rfl (lv_at hl 3 rfl) ?_
  refine lv_i2l hx hb dX12_isLong_22 rfl ?_
  refine lv_ladd hx hb dX12_isLong_23 ?_
  refine lv_ldc2 (v := 96) hx hb E.2.2.2.1 (E.2.2.2.2.1 _ kl_X12_245) dX12_isLong_24 ?_
  refine lv_lsub hx hb dX12_isLong_27 ?_
  refine lv_ldc2 (v := 32) hx hb E.2.2.2.1 (E.2.2.2.2.1 _ kl_X12_243) dX12_isLong_28 ?_
  refine lv_lmul hx hb dX12_isLong_31 ?_
  refine lv_iload hx hb dX12_isLong_32 (lv_at hl 4 rfl) ?_
  refine lv_i2l hx hb dX12_isLong_34 rfl ?_
  refine lv_ladd hx hb dX12_isLong_35 ?_
  refine lv_ldc2 (v := 96) hx hb E.2.2.2.1 (E.2.2.2.2.1 _ kl_X12_245) dX12_isLong_36 ?_
  refine lv_lsub hx hb dX12_isLong_39 ?_
  refine lv_ldc2 (v := 32) hx hb E.2.2.2.1 (E.2.2.2.2.1 _ kl_X12_243) dX12_isLong_40 ?_
  refine lv_lmul hx hb dX12_isLong_43 ?_
  refine lv_iload hx hb dX12_isLong_44 (lv_at hl 5 rfl) ?_
  refine lv_i2l hx hb dX12_isLong_46 rfl ?_
  refine lv_ladd hx hb dX12_isLong_47 ?_
  refine lv_ldc2 (v := 96) hx hb E.2.2.2.1 (E.2.2.2.2.1 _ kl_X12_245) dX12_isLong_48 ?_
  refine lv_lsub hx hb dX12_isLong_51 ?_
  refine lv_lstore (lv' := [(10, .long (((((((((((((x0.toInt64 - 96) * 32) + x1.toInt64) - 96) * 32) + x2.toInt64) - 96) * 32) + x3.toInt64) - 96) * 32) + x4.toInt64) - 96)), (0, .ref (a 0)), (1, .int x0), (2, .int x1), (3, .int x2), (4, .int x3), (5, .int x4), (6, .int x5), (7, .int x6), (8, .int x7), (9, .int x8)]) hx hb dX12_isLong_52 hl (by decide) rfl (fun ls hl => ?_)
  refine lv_lload hx hb dX12_isLong_54 (lv_at hl 0 rfl) ?_
  refine lv_ldc2 (v := 32) hx hb E.2.2.2.1 (E.2.2.2.2.1 _ kl_X12_243) dX12_isLong_56 ?_
  refine lv_lmul hx hb dX12_isLong_59 ?_
  refine lv_iload hx hb dX12_isLong_60 (lv_at hl 7 rfl) ?_
  refine lv_i2l hx hb dX12_isLong_62 rfl ?_
  refine lv_ladd hx hb dX12_isLong_63 ?_
  refine lv_ldc2 (v := 96) hx hb E.2.2.2.1 (E.2.2.2.2.1 _ kl_X12_245) dX12_isLong_64 ?_
  refine lv_lsub hx hb dX12_isLong_67 ?_
  refine lv_lstore (lv' := [(10, .long ((((((((((((((((x0.toInt64 - 96) * 32) + x1.toInt64) - 96) * 32) + x2.toInt64) - 96) * 32) + x3.toInt64) - 96) * 32) + x4.toInt64) - 96) * 32) + x5.toInt64) - 96)), (0, .ref (a 0)), (1, .int x0), (2, .int x1), (3, .int x2), (4, .int x3), (5, .int x4), (6, .int x5), (7, .int x6), (8, .int x7), (9, .int x8)]) hx hb dX12_isLong_68 hl (by decide) rfl (fun ls hl => ?_)
  refine lv_iload hx hb dX12_isLong_70 (lv_at hl 8 rfl) ?_
  refine lv_if_ne (tgt := 80) hx hb dX12_isLong_72 (by decide) (fun c72 => ?_) (fun c72 => ?_)
  · refine lv_lload hx hb dX12_isLong_80 (lv_at hl 0 rfl) ?_
    refine lv_ldc2 (v := 32) hx hb E.2.2.2.1 (E.2.2.2.2.1 _ kl_X12_243) dX12_isLong_82 ?_
    refine lv_lmul hx hb dX12_isLong_85 ?_
    refine lv_iload hx hb dX12_isLong_86 (lv_at hl 8 rfl) ?_
    refine lv_i2l hx hb dX12_isLong_88 rfl ?_
    refine lv_ladd hx hb dX12_isLong_89 ?_
    refine lv_ldc2 (v := 96) hx hb E.2.2.2.1 (E.2.2.2.2.1 _ kl_X12_245) dX12_isLong_90 ?_
    refine lv_lsub hx hb dX12_isLong_93 ?_
    refine lv_ldc2 (v := 32) hx hb E.2.2.2.1 (E.2.2.2.2.1 _ kl_X12_243) dX12_isLong_94 ?_
    refine lv_lmul hx hb dX12_isLong_97 ?_
    refine lv_iload hx hb dX12_isLong_98 (lv_at hl 9 rfl) ?_
    refine lv_i2l hx hb dX12_isLong_100 rfl ?_
    refine lv_ladd hx hb dX12_isLong_101 ?_
    refine lv_ldc2 (v := 96) hx hb E.2.2.2.1 (E.2.2.2.2.1 _ kl_X12_245) dX12_isLong_102 ?_
    refine lv_lsub hx hb dX12_isLong_105 ?_
    refine lv_ldc2 (v := 32) hx hb E.2.2.2.1 (E.2.2.2.2.1 _ kl_X12_243) dX12_isLong_106 ?_
    refine lv_lmul hx hb dX12_isLong_109 ?_
    refine lv_iload hx hb dX12_isLong_110 (lv_at hl 10 rfl) ?_
    refine lv_i2l hx hb dX12_isLong_112 rfl ?_
    refine lv_ladd hx hb dX12_isLong_113 ?_
    refine lv_ldc2 (v := 96) hx hb E.2.2.2.1 (E.2.2.2.2.1 _ kl_X12_245) dX12_isLong_114 ?_
    refine lv_lsub hx hb dX12_isLong_117 ?_
    refine lv_lstore (lv' := [(10, .long (((((((((((((((((((((((((x0.toInt64 - 96) * 32) + x1.toInt64) - 96) * 32) + x2.toInt64) - 96) * 32) + x3.toInt64) - 96) * 32) + x4.toInt64) - 96) * 32) + x5.toInt64) - 96) * 32) + x6.toInt64) - 96) * 32) + x7.toInt64) - 96) * 32) + x8.toInt64) - 96)), (0, .ref (a 0)), (1, .int x0), (2, .int x1), (3, .int x2), (4, .int x3), (5, .int x4), (6, .int x5), (7, .int x6), (8, .int x7), (9, .int x8)]) hx hb dX12_isLong_118 hl (by decide) rfl (fun ls hl => ?_)
    refine lv_aload_n hx hb dX12_isLong_120 rfl (lv_at hl 1 rfl) ?_
    refine r_get E h 45 (v := .int (σ.1 16)) (eM_0 cy a σ) rfl fw_X12 (by decide) fl_X12_240 rfl dX12_isLong_121 ?_
    refine lv_iconst (v := 1) hx hb dX12_isLong_124 (by decide) ?_
    refine lv_icmp_ne (tgt := 142) hx hb dX12_isLong_125 (by decide) (fun c125 => ?_) (fun c125 => ?_)
    · refine lv_iconst (v := 0) hx hb dX12_isLong_142 (by decide) ?_
      exact t_z E h hr hk (Or.inl rfl) ⟨rfl, Or.inl rfl⟩ dX12_isLong_143
    · refine lv_aload_n hx hb dX12_isLong_128 rfl (lv_at hl 1 rfl) ?_
      refine r_get E h 46 (v := .long (σ.2.2 0)) (eM_0 cy a σ) rfl fw_X12 (by decide) fl_X12_230 rfl dX12_isLong_129 ?_
      refine lv_lload hx hb dX12_isLong_132 (lv_at hl 0 rfl) ?_
      refine W.lcmp hx hb dX12_isLong_134 ?_
      refine lv_if_ne (tgt := 142) hx hb dX12_isLong_135 (by decide) (fun c135 => ?_) (fun c135 => ?_)
      · refine lv_iconst (v := 0) hx hb dX12_isLong_142 (by decide) ?_
        exact t_z E h hr hk (Or.inl rfl) ⟨rfl, Or.inl rfl⟩ dX12_isLong_143
      · refine lv_iconst (v := 1) hx hb dX12_isLong_138 (by decide) ?_
        refine lv_goto (tgt := 143) hx hb dX12_isLong_139 (by decide) ?_
        exact t_z E h hr hk (Or.inr rfl) ⟨rfl, Or.inr rfl⟩ dX12_isLong_143
  · refine lv_lload hx hb dX12_isLong_75 (lv_at hl 0 rfl) ?_
    refine lv_goto (tgt := 118) hx hb dX12_isLong_77 (by decide) ?_
    refine lv_lstore (lv' := [(10, .long ((((((((((((((((x0.toInt64 - 96) * 32) + x1.toInt64) - 96) * 32) + x2.toInt64) - 96) * 32) + x3.toInt64) - 96) * 32) + x4.toInt64) - 96) * 32) + x5.toInt64) - 96)), (0, .ref (a 0)), (1, .int x0), (2, .int x1), (3, .int x2), (4, .int x3), (5, .int x4), (6, .int x5), (7, .int x6), (8, .int x7), (9, .int x8)]) hx hb dX12_isLong_118 hl (by decide) rfl (fun ls hl => ?_)
    refine lv_aload_n hx hb dX12_isLong_120 rfl (lv_at hl 1 rfl) ?_
    refine r_get E h 45 (v := .int (σ.1 16)) (eM_0 cy a σ) rfl fw_X12 (by decide) fl_X12_240 rfl dX12_isLong_121 ?_
    refine lv_iconst (v := 1) hx hb dX12_isLong_124 (by decide) ?_
    refine lv_icmp_ne (tgt := 142) hx hb dX12_isLong_125 (by decide) (fun c125 => ?_) (fun c125 => ?_)
    · refine lv_iconst (v := 0) hx hb dX12_isLong_142 (by decide) ?_
      exact t_z E h hr hk (Or.inl rfl) ⟨rfl, Or.inl rfl⟩ dX12_isLong_143
    · refine lv_aload_n hx hb dX12_isLong_128 rfl (lv_at hl 1 rfl) ?_
      refine r_get E h 46 (v := .long (σ.2.2 0)) (eM_0 cy a σ) rfl fw_X12 (by decide) fl_X12_230 rfl dX12_isLong_129 ?_
      refine lv_lload hx hb dX12_isLong_132 (lv_at hl 0 rfl) ?_
      refine W.lcmp hx hb dX12_isLong_134 ?_
      refine lv_if_ne (tgt := 142) hx hb dX12_isLong_135 (by decide) (fun c135 => ?_) (fun c135 => ?_)
      · refine lv_iconst (v := 0) hx hb dX12_isLong_142 (by decide) ?_
        exact t_z E h hr hk (Or.inl rfl) ⟨rfl, Or.inl rfl⟩ dX12_isLong_143
      · refine lv_iconst (v := 1) hx hb dX12_isLong_138 (by decide) ?_
        refine lv_goto (tgt := 143) hx hb dX12_isLong_139 (by decide) ?_
        exact t_z E h hr hk (Or.inr rfl) ⟨rfl, Or.inr rfl⟩ dX12_isLong_143

set_option maxHeartbeats 4000000 in
set_option maxRecDepth 100000 in
theorem c_X12_next (l : Launch) (D : va_G) (cy : Nat → ClassId) (a : Nat → Nat) (σ : St) (n : Nat) (hn : σ.1 13 = nI n) (hn4 : n ≤ 400) (ht : TO n σ) : CV l yX12_next cX12_next 1 none (rmOf 1 20) D cy (wM cy a) (AM a) [.ref (a 0)] σ (fun τ => K kn kA σ τ ∧ TO n τ) := by
  refine c_of (lv := [(0, .ref (a 0))]) rfl (Nat.le_of_ble_eq_true rfl) rfl ?_
  intro p e s m args below meth c ls E h hr hk hl
  have hx := E.1
  have hb := E.2.1
  obtain ⟨t0, ht0, hto⟩ := ht
  refine lv_aload_n hx hb dX12_next_0 rfl (lv_at hl 0 rfl) ?_
  refine lv_aload_n hx hb dX12_next_1 rfl (lv_at hl 0 rfl) ?_
  refine r_get E h 44 (v := .int (nI t0)) (eM_0 cy a σ) rfl fw_X12 (by decide) fl_X12_224 (congrArg (fun z => some (Value.int z)) hto) dX12_next_2 ?_
  refine r_put E h 43 (ty := .int) (eM_0 cy a σ) rfl fw_X12 tyX12_ok nmX12 (by decide) fl_X12_227 rfl (by decide +kernel) rfl rfl (Nat.le_of_ble_eq_true rfl) (sM_14 cy a σ (nI t0)) dX12_next_5 (fun H locs h => ?_)
  have lp8 : ∀ (f : Nat) (k : Nat) (τ : St) (H : Heap) (locs : List Loc) (ls : Array Slot), (k ≤ n ∧ K kn kA σ τ ∧ τ.1 14 = nI k) → (n - k) < f → HW D (AM a) s (wM cy a τ) H locs → lv_has ls 1 [(0, .ref (a 0))] → W p l e (rmOf 1 20) s m args below meth c H locs 0 0 (MQ below (va_Qv (fun τ => K kn kA σ τ ∧ TO n τ) (fun u t => va_P D vwCl (wM cy a u) t.heap) (AM a)) args s 0 0 (AM a)) (F0 m 8 ls []) := by
    intro f
    induction f with
    | zero => intro k τ H locs ls _ hf; exact absurd hf (Nat.not_lt_zero _)
    | succ f ih8 =>
      intro k τ H locs ls hi8 hf8 h hl
      refine lv_aload_n hx hb dX12_next_8 rfl (lv_at hl 0 rfl) ?_
      refine r_get E h 43 (v := .int (nI k)) (eM_0 cy a τ) rfl fw_X12 (by decide) fl_X12_227 (congrArg (fun z => some (Value.int z)) hi8.2.2) dX12_next_9 ?_
      refine lv_aload_n hx hb dX12_next_12 rfl (lv_at hl 0 rfl) ?_
      refine r_get E h 42 (v := .int (nI n)) (eM_0 cy a τ) rfl fw_X12 (by decide) fl_X12_217 (congrArg (fun z => some (Value.int z)) ((hi8.2.1.1 13 (by decide)).trans hn)) dX12_next_13 ?_
      refine lv_icmp_ge (tgt := 46) hx hb dX12_next_16 (by decide) (fun c16 => ?_) (fun c16 => ?_)
      · refine lv_aload_n hx hb dX12_next_46 rfl (lv_at hl 0 rfl) ?_
        refine lv_aload_n hx hb dX12_next_47 rfl (lv_at hl 0 rfl) ?_
        refine r_get E h 43 (v := .int (nI k)) (eM_0 cy a τ) rfl fw_X12 (by decide) fl_X12_227 (congrArg (fun z => some (Value.int z)) hi8.2.2) dX12_next_48 ?_
        refine r_put E h 44 (ty := .int) (eM_0 cy a τ) rfl fw_X12 tyX12_ok nmX12 (by decide) fl_X12_224 rfl (by decide +kernel) rfl rfl (Nat.le_of_ble_eq_true rfl) (sM_15 cy a τ (nI k)) dX12_next_51 (fun H locs h => ?_)
        refine lv_aload_n hx hb dX12_next_54 rfl (lv_at hl 0 rfl) ?_
        refine lv_lconst (v := 0) hx hb dX12_next_55 (by decide) ?_
        refine r_put E h 46 (ty := .long) (eM_0 cy a (fF τ 15 (nI k))) rfl fw_X12 tyX12_ok nmX12 (by decide) fl_X12_230 rfl (by decide +kernel) rfl rfl (Nat.le_of_ble_eq_true rfl) (sML_0 cy a (fF τ 15 (nI k)) 0) dX12_next_56 (fun H locs h => ?_)
        have jn114 : ∀ (v0 : Int32) (H : Heap) (locs : List Loc) (ls : Array Slot), (v0 = 3 → k < n) → HW D (AM a) s (wM cy a (fL (fF τ 15 (nI k)) 0 0)) H locs → lv_has ls 1 [(0, .ref (a 0))] → W p l e (rmOf 1 20) s m args below meth c H locs 0 0 (MQ below (va_Qv (fun τ => K kn kA σ τ ∧ TO n τ) (fun u t => va_P D vwCl (wM cy a u) t.heap) (AM a)) args s 0 0 (AM a)) (F0 m 114 ls [.int v0, .ref (a 0)]) := by
          intro v0 H locs ls hj114 h hl
          refine r_put E h 45 (ty := .int) (eM_0 cy a (fL (fF τ 15 (nI k)) 0 0)) rfl fw_X12 tyX12_ok nmX12 (by decide) fl_X12_240 rfl (by decide +kernel) rfl rfl (Nat.le_of_ble_eq_true rfl) (sM_16 cy a (fL (fF τ 15 (nI k)) 0 0) v0) dX12_next_114 (fun H locs h => ?_)
          refine lv_aload_n hx hb dX12_next_117 rfl (lv_at hl 0 rfl) ?_
          refine r_get E h 45 (v := .int v0) (eM_0 cy a (fF (fL (fF τ 15 (nI k)) 0 0) 16 v0)) rfl fw_X12 (by decide) fl_X12_240 rfl dX12_next_118 ?_
          refine lv_iconst (v := 3) hx hb dX12_next_121 (by decide) ?_
          refine lv_icmp_ne (tgt := 149) hx hb dX12_next_122 (by decide) (fun c122 => ?_) (fun c122 => ?_)
          · have lp149 : ∀ (f : Nat) (t : Nat) (υ : St) (H : Heap) (locs : List Loc) (ls : Array Slot), (t ≤ n ∧ K kn kA σ υ ∧ υ.1 15 = nI t) → (n - t) < f → HW D (AM a) s (wM cy a υ) H locs → lv_has ls 1 [(0, .ref (a 0))] → W p l e (rmOf 1 20) s m args below meth c H locs 0 0 (MQ below (va_Qv (fun τ => K kn kA σ τ ∧ TO n τ) (fun u t => va_P D vwCl (wM cy a u) t.heap) (AM a)) args s 0 0 (AM a)) (F0 m 149 ls []) := by
              intro f
              induction f with
              | zero => intro t υ H locs ls _ hf; exact absurd hf (Nat.not_lt_zero _)
              | succ f ih149 =>
                intro t υ H locs ls hi149 hf149 h hl
                refine lv_aload_n hx hb dX12_next_149 rfl (lv_at hl 0 rfl) ?_
                refine r_get E h 45 (v := .int (υ.1 16)) (eM_0 cy a υ) rfl fw_X12 (by decide) fl_X12_240 rfl dX12_next_150 ?_
                refine lv_iconst (v := 1) hx hb dX12_next_153 (by decide) ?_
                refine lv_icmp_ne (tgt := 243) hx hb dX12_next_154 (by decide) (fun c154 => ?_) (fun c154 => ?_)
                · have lp243 : ∀ (f : Nat) (t : Nat) (ω : St) (H : Heap) (locs : List Loc) (ls : Array Slot), (t ≤ n ∧ K kn kA σ ω ∧ ω.1 15 = nI t) → (n - t) < f → HW D (AM a) s (wM cy a ω) H locs → lv_has ls 1 [(0, .ref (a 0))] → W p l e (rmOf 1 20) s m args below meth c H locs 0 0 (MQ below (va_Qv (fun τ => K kn kA σ τ ∧ TO n τ) (fun u t => va_P D vwCl (wM cy a u) t.heap) (AM a)) args s 0 0 (AM a)) (F0 m 243 ls []) := by
                    intro f
                    induction f with
                    | zero => intro t ω H locs ls _ hf; exact absurd hf (Nat.not_lt_zero _)
                    | succ f ih243 =>
                      intro t ω H locs ls hi243 hf243 h hl
                      refine lv_aload_n hx hb dX12_next_243 rfl (lv_at hl 0 rfl) ?_
                      refine r_get E h 45 (v := .int (ω.1 16)) (eM_0 cy a ω) rfl fw_X12 (by decide) fl_X12_240 rfl dX12_next_244 ?_
                      refine lv_iconst (v := 2) hx hb dX12_next_247 (by decide) ?_
                      refine lv_icmp_ne (tgt := 335) hx hb dX12_next_248 (by decide) (fun c248 => ?_) (fun c248 => ?_)
                      · exact t_v E h hr hk ⟨hi243.2.1, t, hi243.1, hi243.2.2⟩ dX12_next_335
                      · refine lv_aload_n hx hb dX12_next_251 rfl (lv_at hl 0 rfl) ?_
                        refine r_get E h 44 (v := .int (nI t)) (eM_0 cy a ω) rfl fw_X12 (by decide) fl_X12_224 (congrArg (fun z => some (Value.int z)) hi243.2.2) dX12_next_252 ?_
                        refine lv_aload_n hx hb dX12_next_255 rfl (lv_at hl 0 rfl) ?_
                        refine r_get E h 42 (v := .int (nI n)) (eM_0 cy a ω) rfl fw_X12 (by decide) fl_X12_217 (congrArg (fun z => some (Value.int z)) ((hi243.2.1.1 13 (by decide)).trans hn)) dX12_next_256 ?_
                        refine lv_icmp_ge (tgt := 335) hx hb dX12_next_259 (by decide) (fun c259 => ?_) (fun c259 => ?_)
                        · exact t_v E h hr hk ⟨hi243.2.1, t, hi243.1, hi243.2.2⟩ dX12_next_335
                        · have c259 : t < n := Nat.lt_of_not_le fun q9 => c259 ((nI_leI (a := n) (b := t) (by omega) (by omega)).mpr q9)
                          refine lv_aload_n hx hb dX12_next_262 rfl (lv_at hl 0 rfl) ?_
                          refine r_get E h 41 (v := .ref (a 29)) (eM_0 cy a ω) rfl fw_X12 (by decide) fl_X12_94 rfl dX12_next_263 ?_
                          refine lv_aload_n hx hb dX12_next_266 rfl (lv_at hl 0 rfl) ?_
                          refine r_get E h 44 (v := .int (nI t)) (eM_0 cy a ω) rfl fw_X12 (by decide) fl_X12_224 (congrArg (fun z => some (Value.int z)) hi243.2.2) dX12_next_267 ?_
                          refine r_ialdN E h (f := ω.2.1 29) (eM_29 cy a ω) (j := t) (by omega) (by decide) (v := ω.2.1 29 t) rfl dX12_next_270 ?_
                          refine k_i h (q_runS (As := [.int (ω.2.1 29 t)]) (rest := []) E h (c_X12_isDigit l D cy a ω (ω.2.1 29 t)) co_X12_isDigit ml_X12_237 st_X12_isDigit in_X12 rfl ok_X12_isDigit rfl ⟨by decide, by decide⟩ hl.1 rfl (Nat.le_of_ble_eq_true rfl) dX12_next_271 ⟨Nat.zero_le _, Nat.zero_le _⟩) (wM_fst cy a) (fun r271 τ271 H locs p271 h => ?_)
                          rw [p271.1] at h
                          refine lv_if_eq (tgt := 335) hx hb dX12_next_274 (by decide) (fun c274 => ?_) (fun c274 => ?_)
                          · exact t_v E h hr hk ⟨hi243.2.1, t, hi243.1, hi243.2.2⟩ dX12_next_335
                          · refine lv_aload_n hx hb dX12_next_277 rfl (lv_at hl 0 rfl) ?_
                            refine lv_aload_n hx hb dX12_next_278 rfl (lv_at hl 0 rfl) ?_
                            refine r_get E h 46 (v := .long (ω.2.2 0)) (eM_0 cy a ω) rfl fw_X12 (by decide) fl_X12_230 rfl dX12_next_279 ?_
                            refine lv_ldc2 (v := 1000000) hx hb E.2.2.2.1 (E.2.2.2.2.1 _ kl_X12_249) dX12_next_282 ?_
                            refine W.lcmp hx hb dX12_next_285 ?_
                            refine lv_if_le (tgt := 296) hx hb dX12_next_286 (by decide) (fun c286 => ?_) (fun c286 => ?_)
                            · refine lv_aload_n hx hb dX12_next_296 rfl (lv_at hl 0 rfl) ?_
                              refine r_get E h 46 (v := .long (ω.2.2 0)) (eM_0 cy a ω) rfl fw_X12 (by decide) fl_X12_230 rfl dX12_next_297 ?_
                              refine lv_ldc2 (v := 10) hx hb E.2.2.2.1 (E.2.2.2.2.1 _ kl_X12_251) dX12_next_300 ?_
                              refine lv_lmul hx hb dX12_next_303 ?_
                              refine lv_aload_n hx hb dX12_next_304 rfl (lv_at hl 0 rfl) ?_
                              refine r_get E h 41 (v := .ref (a 29)) (eM_0 cy a ω) rfl fw_X12 (by decide) fl_X12_94 rfl dX12_next_305 ?_
                              refine lv_aload_n hx hb dX12_next_308 rfl (lv_at hl 0 rfl) ?_
                              refine r_get E h 44 (v := .int (nI t)) (eM_0 cy a ω) rfl fw_X12 (by decide) fl_X12_224 (congrArg (fun z => some (Value.int z)) hi243.2.2) dX12_next_309 ?_
                              refine r_ialdN E h (f := ω.2.1 29) (eM_29 cy a ω) (j := t) (by omega) (by decide) (v := ω.2.1 29 t) rfl dX12_next_312 ?_
                              refine lv_i2l hx hb dX12_next_313 rfl ?_
                              refine lv_ladd hx hb dX12_next_314 ?_
                              refine lv_ldc2 (v := 48) hx hb E.2.2.2.1 (E.2.2.2.2.1 _ kl_X12_253) dX12_next_315 ?_
                              refine lv_lsub hx hb dX12_next_318 ?_
                              refine r_put E h 46 (ty := .long) (eM_0 cy a ω) rfl fw_X12 tyX12_ok nmX12 (by decide) fl_X12_230 rfl (by decide +kernel) rfl rfl (Nat.le_of_ble_eq_true rfl) (sML_0 cy a ω ((((ω.2.2 0) * 10) + ((ω.2.1 29 t).toInt64)) - 48)) dX12_next_319 (fun H locs h => ?_)
                              refine lv_aload_n hx hb dX12_next_322 rfl (lv_at hl 0 rfl) ?_
                              refine lv_dup hx hb dX12_next_323 rfl ?_
                              refine r_get E h 44 (v := .int (nI t)) (eM_0 cy a (fL ω 0 ((((ω.2.2 0) * 10) + ((ω.2.1 29 t).toInt64)) - 48))) rfl fw_X12 (by decide) fl_X12_224 (congrArg (fun z => some (Value.int z)) hi243.2.2) dX12_next_324 ?_
                              refine lv_iconst (v := 1) hx hb dX12_next_327 (by decide) ?_
                              refine n_add (j := t) (k := 1) hx hb dX12_next_328 ?_
                              refine r_put E h 44 (ty := .int) (eM_0 cy a (fL ω 0 ((((ω.2.2 0) * 10) + ((ω.2.1 29 t).toInt64)) - 48))) rfl fw_X12 tyX12_ok nmX12 (by decide) fl_X12_224 rfl (by decide +kernel) rfl rfl (Nat.le_of_ble_eq_true rfl) (sM_15 cy a (fL ω 0 ((((ω.2.2 0) * 10) + ((ω.2.1 29 t).toInt64)) - 48)) (nI (t + 1))) dX12_next_329 (fun H locs h => ?_)
                              refine lv_goto (tgt := 243) hx hb dX12_next_332 (by decide) ?_
                              exact ih243 (t + 1) (fF (fL ω 0 ((((ω.2.2 0) * 10) + ((ω.2.1 29 t).toInt64)) - 48)) 15 (nI (t + 1))) _ _ _ ⟨by omega, ((hi243.2.1.L 0 _).F 15 _ (by decide)), rfl⟩ (by omega) h (lv_sub hl [0] rfl)
                            · refine lv_aload_n hx hb dX12_next_289 rfl (lv_at hl 0 rfl) ?_
                              refine r_get E h 46 (v := .long (ω.2.2 0)) (eM_0 cy a ω) rfl fw_X12 (by decide) fl_X12_230 rfl dX12_next_290 ?_
                              refine lv_goto (tgt := 319) hx hb dX12_next_293 (by decide) ?_
                              refine r_put E h 46 (ty := .long) (eM_0 cy a ω) rfl fw_X12 tyX12_ok nmX12 (by decide) fl_X12_230 rfl (by decide +kernel) rfl rfl (Nat.le_of_ble_eq_true rfl) (sML_0 cy a ω (ω.2.2 0)) dX12_next_319 (fun H locs h => ?_)
                              refine lv_aload_n hx hb dX12_next_322 rfl (lv_at hl 0 rfl) ?_
                              refine lv_dup hx hb dX12_next_323 rfl ?_
                              refine r_get E h 44 (v := .int (nI t)) (eM_0 cy a (fL ω 0 (ω.2.2 0))) rfl fw_X12 (by decide) fl_X12_224 (congrArg (fun z => some (Value.int z)) hi243.2.2) dX12_next_324 ?_
                              refine lv_iconst (v := 1) hx hb dX12_next_327 (by decide) ?_
                              refine n_add (j := t) (k := 1) hx hb dX12_next_328 ?_
                              refine r_put E h 44 (ty := .int) (eM_0 cy a (fL ω 0 (ω.2.2 0))) rfl fw_X12 tyX12_ok nmX12 (by decide) fl_X12_224 rfl (by decide +kernel) rfl rfl (Nat.le_of_ble_eq_true rfl) (sM_15 cy a (fL ω 0 (ω.2.2 0)) (nI (t + 1))) dX12_next_329 (fun H locs h => ?_)
                              refine lv_goto (tgt := 243) hx hb dX12_next_332 (by decide) ?_
                              exact ih243 (t + 1) (fF (fL ω 0 (ω.2.2 0)) 15 (nI (t + 1))) _ _ _ ⟨by omega, ((hi243.2.1.L 0 _).F 15 _ (by decide)), rfl⟩ (by omega) h (lv_sub hl [0] rfl)
                  exact lp243 _ t υ _ _ _ hi149 (Nat.lt_succ_self _) h (lv_sub hl [0] rfl)
                · refine lv_aload_n hx hb dX12_next_157 rfl (lv_at hl 0 rfl) ?_
                  refine r_get E h 44 (v := .int (nI t)) (eM_0 cy a υ) rfl fw_X12 (by decide) fl_X12_224 (congrArg (fun z => some (Value.int z)) hi149.2.2) dX12_next_158 ?_
                  refine lv_aload_n hx hb dX12_next_161 rfl (lv_at hl 0 rfl) ?_
                  refine r_get E h 42 (v := .int (nI n)) (eM_0 cy a υ) rfl fw_X12 (by decide) fl_X12_217 (congrArg (fun z => some (Value.int z)) ((hi149.2.1.1 13 (by decide)).trans hn)) dX12_next_162 ?_
                  refine lv_icmp_ge (tgt := 243) hx hb dX12_next_165 (by decide) (fun c165 => ?_) (fun c165 => ?_)
                  · have lp243 : ∀ (f : Nat) (t : Nat) (ω : St) (H : Heap) (locs : List Loc) (ls : Array Slot), (t ≤ n ∧ K kn kA σ ω ∧ ω.1 15 = nI t) → (n - t) < f → HW D (AM a) s (wM cy a ω) H locs → lv_has ls 1 [(0, .ref (a 0))] → W p l e (rmOf 1 20) s m args below meth c H locs 0 0 (MQ below (va_Qv (fun τ => K kn kA σ τ ∧ TO n τ) (fun u t => va_P D vwCl (wM cy a u) t.heap) (AM a)) args s 0 0 (AM a)) (F0 m 243 ls []) := by
                      intro f
                      induction f with
                      | zero => intro t ω H locs ls _ hf; exact absurd hf (Nat.not_lt_zero _)
                      | succ f ih243 =>
                        intro t ω H locs ls hi243 hf243 h hl
                        refine lv_aload_n hx hb dX12_next_243 rfl (lv_at hl 0 rfl) ?_
                        refine r_get E h 45 (v := .int (ω.1 16)) (eM_0 cy a ω) rfl fw_X12 (by decide) fl_X12_240 rfl dX12_next_244 ?_
                        refine lv_iconst (v := 2) hx hb dX12_next_247 (by decide) ?_
                        refine lv_icmp_ne (tgt := 335) hx hb dX12_next_248 (by decide) (fun c248 => ?_) (fun c248 => ?_)
                        · exact t_v E h hr hk ⟨hi243.2.1, t, hi243.1, hi243.2.2⟩ dX12_next_335
                        · refine lv_aload_n hx hb dX12_next_251 rfl (lv_at hl 0 rfl) ?_
                          refine r_get E h 44 (v := .int (nI t)) (eM_0 cy a ω) rfl fw_X12 (by decide) fl_X12_224 (congrArg (fun z => some (Value.int z)) hi243.2.2) dX12_next_252 ?_
                          refine lv_aload_n hx hb dX12_next_255 rfl (lv_at hl 0 rfl) ?_
                          refine r_get E h 42 (v := .int (nI n)) (eM_0 cy a ω) rfl fw_X12 (by decide) fl_X12_217 (congrArg (fun z => some (Value.int z)) ((hi243.2.1.1 13 (by decide)).trans hn)) dX12_next_256 ?_
                          refine lv_icmp_ge (tgt := 335) hx hb dX12_next_259 (by decide) (fun c259 => ?_) (fun c259 => ?_)
                          · exact t_v E h hr hk ⟨hi243.2.1, t, hi243.1, hi243.2.2⟩ dX12_next_335
                          · have c259 : t < n := Nat.lt_of_not_le fun q9 => c259 ((nI_leI (a := n) (b := t) (by omega) (by omega)).mpr q9)
                            refine lv_aload_n hx hb dX12_next_262 rfl (lv_at hl 0 rfl) ?_
                            refine r_get E h 41 (v := .ref (a 29)) (eM_0 cy a ω) rfl fw_X12 (by decide) fl_X12_94 rfl dX12_next_263 ?_
                            refine lv_aload_n hx hb dX12_next_266 rfl (lv_at hl 0 rfl) ?_
                            refine r_get E h 44 (v := .int (nI t)) (eM_0 cy a ω) rfl fw_X12 (by decide) fl_X12_224 (congrArg (fun z => some (Value.int z)) hi243.2.2) dX12_next_267 ?_
                            refine r_ialdN E h (f := ω.2.1 29) (eM_29 cy a ω) (j := t) (by omega) (by decide) (v := ω.2.1 29 t) rfl dX12_next_270 ?_
                            refine k_i h (q_runS (As := [.int (ω.2.1 29 t)]) (rest := []) E h (c_X12_isDigit l D cy a ω (ω.2.1 29 t)) co_X12_isDigit ml_X12_237 st_X12_isDigit in_X12 rfl ok_X12_isDigit rfl ⟨by decide, by decide⟩ hl.1 rfl (Nat.le_of_ble_eq_true rfl) dX12_next_271 ⟨Nat.zero_le _, Nat.zero_le _⟩) (wM_fst cy a) (fun r271 τ271 H locs p271 h => ?_)
                            rw [p271.1] at h
                            refine lv_if_eq (tgt := 335) hx hb dX12_next_274 (by decide) (fun c274 => ?_) (fun c274 => ?_)
                            · exact t_v E h hr hk ⟨hi243.2.1, t, hi243.1, hi243.2.2⟩ dX12_next_335
                            · refine lv_aload_n hx hb dX12_next_277 rfl (lv_at hl 0 rfl) ?_
                              refine lv_aload_n hx hb dX12_next_278 rfl (lv_at hl 0 rfl) ?_
                              refine r_get E h 46 (v := .long (ω.2.2 0)) (eM_0 cy a ω) rfl fw_X12 (by decide) fl_X12_230 rfl dX12_next_279 ?_
                              refine lv_ldc2 (v := 1000000) hx hb E.2.2.2.1 (E.2.2.2.2.1 _ kl_X12_249) dX12_next_282 ?_
                              refine W.lcmp hx hb dX12_next_285 ?_
                              refine lv_if_le (tgt := 296) hx hb dX12_next_286 (by decide) (fun c286 => ?_) (fun c286 => ?_)
                              · refine lv_aload_n hx hb dX12_next_296 rfl (lv_at hl 0 rfl) ?_
                                refine r_get E h 46 (v := .long (ω.2.2 0)) (eM_0 cy a ω) rfl fw_X12 (by decide) fl_X12_230 rfl dX12_next_297 ?_
                                refine lv_ldc2 (v := 10) hx hb E.2.2.2.1 (E.2.2.2.2.1 _ kl_X12_251) dX12_next_300 ?_
                                refine lv_lmul hx hb dX12_next_303 ?_
                                refine lv_aload_n hx hb dX12_next_304 rfl (lv_at hl 0 rfl) ?_
                                refine r_get E h 41 (v := .ref (a 29)) (eM_0 cy a ω) rfl fw_X12 (by decide) fl_X12_94 rfl dX12_next_305 ?_
                                refine lv_aload_n hx hb dX12_next_308 rfl (lv_at hl 0 rfl) ?_
                                refine r_get E h 44 (v := .int (nI t)) (eM_0 cy a ω) rfl fw_X12 (by decide) fl_X12_224 (congrArg (fun z => some (Value.int z)) hi243.2.2) dX12_next_309 ?_
                                refine r_ialdN E h (f := ω.2.1 29) (eM_29 cy a ω) (j := t) (by omega) (by decide) (v := ω.2.1 29 t) rfl dX12_next_312 ?_
                                refine lv_i2l hx hb dX12_next_313 rfl ?_
                                refine lv_ladd hx hb dX12_next_314 ?_
                                refine lv_ldc2 (v := 48) hx hb E.2.2.2.1 (E.2.2.2.2.1 _ kl_X12_253) dX12_next_315 ?_
                                refine lv_lsub hx hb dX12_next_318 ?_
                                refine r_put E h 46 (ty := .long) (eM_0 cy a ω) rfl fw_X12 tyX12_ok nmX12 (by decide) fl_X12_230 rfl (by decide +kernel) rfl rfl (Nat.le_of_ble_eq_true rfl) (sML_0 cy a ω ((((ω.2.2 0) * 10) + ((ω.2.1 29 t).toInt64)) - 48)) dX12_next_319 (fun H locs h => ?_)
                                refine lv_aload_n hx hb dX12_next_322 rfl (lv_at hl 0 rfl) ?_
                                refine lv_dup hx hb dX12_next_323 rfl ?_
                                refine r_get E h 44 (v := .int (nI t)) (eM_0 cy a (fL ω 0 ((((ω.2.2 0) * 10) + ((ω.2.1 29 t).toInt64)) - 48))) rfl fw_X12 (by decide) fl_X12_224 (congrArg (fun z => some (Value.int z)) hi243.2.2) dX12_next_324 ?_
                                refine lv_iconst (v := 1) hx hb dX12_next_327 (by decide) ?_
                                refine n_add (j := t) (k := 1) hx hb dX12_next_328 ?_
                                refine r_put E h 44 (ty := .int) (eM_0 cy a (fL ω 0 ((((ω.2.2 0) * 10) + ((ω.2.1 29 t).toInt64)) - 48))) rfl fw_X12 tyX12_ok nmX12 (by decide) fl_X12_224 rfl (by decide +kernel) rfl rfl (Nat.le_of_ble_eq_true rfl) (sM_15 cy a (fL ω 0 ((((ω.2.2 0) * 10) + ((ω.2.1 29 t).toInt64)) - 48)) (nI (t + 1))) dX12_next_329 (fun H locs h => ?_)
                                refine lv_goto (tgt := 243) hx hb dX12_next_332 (by decide) ?_
                                exact ih243 (t + 1) (fF (fL ω 0 ((((ω.2.2 0) * 10) + ((ω.2.1 29 t).toInt64)) - 48)) 15 (nI (t + 1))) _ _ _ ⟨by omega, ((hi243.2.1.L 0 _).F 15 _ (by decide)), rfl⟩ (by omega) h (lv_sub hl [0] rfl)
                              · refine lv_aload_n hx hb dX12_next_289 rfl (lv_at hl 0 rfl) ?_
                                refine r_get E h 46 (v := .long (ω.2.2 0)) (eM_0 cy a ω) rfl fw_X12 (by decide) fl_X12_230 rfl dX12_next_290 ?_
                                refine lv_goto (tgt := 319) hx hb dX12_next_293 (by decide) ?_
                                refine r_put E h 46 (ty := .long) (eM_0 cy a ω) rfl fw_X12 tyX12_ok nmX12 (by decide) fl_X12_230 rfl (by decide +kernel) rfl rfl (Nat.le_of_ble_eq_true rfl) (sML_0 cy a ω (ω.2.2 0)) dX12_next_319 (fun H locs h => ?_)
                                refine lv_aload_n hx hb dX12_next_322 rfl (lv_at hl 0 rfl) ?_
                                refine lv_dup hx hb dX12_next_323 rfl ?_
                                refine r_get E h 44 (v := .int (nI t)) (eM_0 cy a (fL ω 0 (ω.2.2 0))) rfl fw_X12 (by decide) fl_X12_224 (congrArg (fun z => some (Value.int z)) hi243.2.2) dX12_next_324 ?_
                                refine lv_iconst (v := 1) hx hb dX12_next_327 (by decide) ?_
                                refine n_add (j := t) (k := 1) hx hb dX12_next_328 ?_
                                refine r_put E h 44 (ty := .int) (eM_0 cy a (fL ω 0 (ω.2.2 0))) rfl fw_X12 tyX12_ok nmX12 (by decide) fl_X12_224 rfl (by decide +kernel) rfl rfl (Nat.le_of_ble_eq_true rfl) (sM_15 cy a (fL ω 0 (ω.2.2 0)) (nI (t + 1))) dX12_next_329 (fun H locs h => ?_)
                                refine lv_goto (tgt := 243) hx hb dX12_next_332 (by decide) ?_
                                exact ih243 (t + 1) (fF (fL ω 0 (ω.2.2 0)) 15 (nI (t + 1))) _ _ _ ⟨by omega, ((hi243.2.1.L 0 _).F 15 _ (by decide)), rfl⟩ (by omega) h (lv_sub hl [0] rfl)
                    exact lp243 _ t υ _ _ _ hi149 (Nat.lt_succ_self _) h (lv_sub hl [0] rfl)
                  · have c165 : t < n := Nat.lt_of_not_le fun q9 => c165 ((nI_leI (a := n) (b := t) (by omega) (by omega)).mpr q9)
                    refine lv_aload_n hx hb dX12_next_168 rfl (lv_at hl 0 rfl) ?_
                    refine r_get E h 41 (v := .ref (a 29)) (eM_0 cy a υ) rfl fw_X12 (by decide) fl_X12_94 rfl dX12_next_169 ?_
                    refine lv_aload_n hx hb dX12_next_172 rfl (lv_at hl 0 rfl) ?_
                    refine r_get E h 44 (v := .int (nI t)) (eM_0 cy a υ) rfl fw_X12 (by decide) fl_X12_224 (congrArg (fun z => some (Value.int z)) hi149.2.2) dX12_next_173 ?_
                    refine r_ialdN E h (f := υ.2.1 29) (eM_29 cy a υ) (j := t) (by omega) (by decide) (v := υ.2.1 29 t) rfl dX12_next_176 ?_
                    refine k_i h (q_runS (As := [.int (υ.2.1 29 t)]) (rest := []) E h (c_X12_isSmall l D cy a υ (υ.2.1 29 t)) co_X12_isSmall ml_X12_234 st_X12_isSmall in_X12 rfl ok_X12_isSmall rfl ⟨by decide, by decide⟩ hl.1 rfl (Nat.le_of_ble_eq_true rfl) dX12_next_177 ⟨Nat.zero_le _, Nat.zero_le _⟩) (wM_fst cy a) (fun r177 τ177 H locs p177 h => ?_)
                    rw [p177.1] at h
                    refine lv_if_eq (tgt := 243) hx hb dX12_next_180 (by decide) (fun c180 => ?_) (fun c180 => ?_)
                    · have lp243 : ∀ (f : Nat) (t : Nat) (ω : St) (H : Heap) (locs : List Loc) (ls : Array Slot), (t ≤ n ∧ K kn kA σ ω ∧ ω.1 15 = nI t) → (n - t) < f → HW D (AM a) s (wM cy a ω) H locs → lv_has ls 1 [(0, .ref (a 0))] → W p l e (rmOf 1 20) s m args below meth c H locs 0 0 (MQ below (va_Qv (fun τ => K kn kA σ τ ∧ TO n τ) (fun u t => va_P D vwCl (wM cy a u) t.heap) (AM a)) args s 0 0 (AM a)) (F0 m 243 ls []) := by
                        intro f
                        induction f with
                        | zero => intro t ω H locs ls _ hf; exact absurd hf (Nat.not_lt_zero _)
                        | succ f ih243 =>
                          intro t ω H locs ls hi243 hf243 h hl
                          refine lv_aload_n hx hb dX12_next_243 rfl (lv_at hl 0 rfl) ?_
                          refine r_get E h 45 (v := .int (ω.1 16)) (eM_0 cy a ω) rfl fw_X12 (by decide) fl_X12_240 rfl dX12_next_244 ?_
                          refine lv_iconst (v := 2) hx hb dX12_next_247 (by decide) ?_
                          refine lv_icmp_ne (tgt := 335) hx hb dX12_next_248 (by decide) (fun c248 => ?_) (fun c248 => ?_)
                          · exact t_v E h hr hk ⟨hi243.2.1, t, hi243.1, hi243.2.2⟩ dX12_next_335
                          · refine lv_aload_n hx hb dX12_next_251 rfl (lv_at hl 0 rfl) ?_
                            refine r_get E h 44 (v := .int (nI t)) (eM_0 cy a ω) rfl fw_X12 (by decide) fl_X12_224 (congrArg (fun z => some (Value.int z)) hi243.2.2) dX12_next_252 ?_
                            refine lv_aload_n hx hb dX12_next_255 rfl (lv_at hl 0 rfl) ?_
                            refine r_get E h 42 (v := .int (nI n)) (eM_0 cy a ω) rfl fw_X12 (by decide) fl_X12_217 (congrArg (fun z => some (Value.int z)) ((hi243.2.1.1 13 (by decide)).trans hn)) dX12_next_256 ?_
                            refine lv_icmp_ge (tgt := 335) hx hb dX12_next_259 (by decide) (fun c259 => ?_) (fun c259 => ?_)
                            · exact t_v E h hr hk ⟨hi243.2.1, t, hi243.1, hi243.2.2⟩ dX12_next_335
                            · have c259 : t < n := Nat.lt_of_not_le fun q9 => c259 ((nI_leI (a := n) (b := t) (by omega) (by omega)).mpr q9)
                              refine lv_aload_n hx hb dX12_next_262 rfl (lv_at hl 0 rfl) ?_
                              refine r_get E h 41 (v := .ref (a 29)) (eM_0 cy a ω) rfl fw_X12 (by decide) fl_X12_94 rfl dX12_next_263 ?_
                              refine lv_aload_n hx hb dX12_next_266 rfl (lv_at hl 0 rfl) ?_
                              refine r_get E h 44 (v := .int (nI t)) (eM_0 cy a ω) rfl fw_X12 (by decide) fl_X12_224 (congrArg (fun z => some (Value.int z)) hi243.2.2) dX12_next_267 ?_
                              refine r_ialdN E h (f := ω.2.1 29) (eM_29 cy a ω) (j := t) (by omega) (by decide) (v := ω.2.1 29 t) rfl dX12_next_270 ?_
                              refine k_i h (q_runS (As := [.int (ω.2.1 29 t)]) (rest := []) E h (c_X12_isDigit l D cy a ω (ω.2.1 29 t)) co_X12_isDigit ml_X12_237 st_X12_isDigit in_X12 rfl ok_X12_isDigit rfl ⟨by decide, by decide⟩ hl.1 rfl (Nat.le_of_ble_eq_true rfl) dX12_next_271 ⟨Nat.zero_le _, Nat.zero_le _⟩) (wM_fst cy a) (fun r271 τ271 H locs p271 h => ?_)
                              rw [p271.1] at h
                              refine lv_if_eq (tgt := 335) hx hb dX12_next_274 (by decide) (fun c274 => ?_) (fun c274 => ?_)
                              · exact t_v E h hr hk ⟨hi243.2.1, t, hi243.1, hi243.2.2⟩ dX12_next_335
                              · refine lv_aload_n hx hb dX12_next_277 rfl (lv_at hl 0 rfl) ?_
                                refine lv_aload_n hx hb dX12_next_278 rfl (lv_at hl 0 rfl) ?_
                                refine r_get E h 46 (v := .long (ω.2.2 0)) (eM_0 cy a ω) rfl fw_X12 (by decide) fl_X12_230 rfl dX12_next_279 ?_
                                refine lv_ldc2 (v := 1000000) hx hb E.2.2.2.1 (E.2.2.2.2.1 _ kl_X12_249) dX12_next_282 ?_
                                refine W.lcmp hx hb dX12_next_285 ?_
                                refine lv_if_le (tgt := 296) hx hb dX12_next_286 (by decide) (fun c286 => ?_) (fun c286 => ?_)
                                · refine lv_aload_n hx hb dX12_next_296 rfl (lv_at hl 0 rfl) ?_
                                  refine r_get E h 46 (v := .long (ω.2.2 0)) (eM_0 cy a ω) rfl fw_X12 (by decide) fl_X12_230 rfl dX12_next_297 ?_
                                  refine lv_ldc2 (v := 10) hx hb E.2.2.2.1 (E.2.2.2.2.1 _ kl_X12_251) dX12_next_300 ?_
                                  refine lv_lmul hx hb dX12_next_303 ?_
                                  refine lv_aload_n hx hb dX12_next_304 rfl (lv_at hl 0 rfl) ?_
                                  refine r_get E h 41 (v := .ref (a 29)) (eM_0 cy a ω) rfl fw_X12 (by decide) fl_X12_94 rfl dX12_next_305 ?_
                                  refine lv_aload_n hx hb dX12_next_308 rfl (lv_at hl 0 rfl) ?_
                                  refine r_get E h 44 (v := .int (nI t)) (eM_0 cy a ω) rfl fw_X12 (by decide) fl_X12_224 (congrArg (fun z => some (Value.int z)) hi243.2.2) dX12_next_309 ?_
                                  refine r_ialdN E h (f := ω.2.1 29) (eM_29 cy a ω) (j := t) (by omega) (by decide) (v := ω.2.1 29 t) rfl dX12_next_312 ?_
                                  refine lv_i2l hx hb dX12_next_313 rfl ?_
                                  refine lv_ladd hx hb dX12_next_314 ?_
                                  refine lv_ldc2 (v := 48) hx hb E.2.2.2.1 (E.2.2.2.2.1 _ kl_X12_253) dX12_next_315 ?_
                                  refine lv_lsub hx hb dX12_next_318 ?_
                                  refine r_put E h 46 (ty := .long) (eM_0 cy a ω) rfl fw_X12 tyX12_ok nmX12 (by decide) fl_X12_230 rfl (by decide +kernel) rfl rfl (Nat.le_of_ble_eq_true rfl) (sML_0 cy a ω ((((ω.2.2 0) * 10) + ((ω.2.1 29 t).toInt64)) - 48)) dX12_next_319 (fun H locs h => ?_)
                                  refine lv_aload_n hx hb dX12_next_322 rfl (lv_at hl 0 rfl) ?_
                                  refine lv_dup hx hb dX12_next_323 rfl ?_
                                  refine r_get E h 44 (v := .int (nI t)) (eM_0 cy a (fL ω 0 ((((ω.2.2 0) * 10) + ((ω.2.1 29 t).toInt64)) - 48))) rfl fw_X12 (by decide) fl_X12_224 (congrArg (fun z => some (Value.int z)) hi243.2.2) dX12_next_324 ?_
                                  refine lv_iconst (v := 1) hx hb dX12_next_327 (by decide) ?_
                                  refine n_add (j := t) (k := 1) hx hb dX12_next_328 ?_
                                  refine r_put E h 44 (ty := .int) (eM_0 cy a (fL ω 0 ((((ω.2.2 0) * 10) + ((ω.2.1 29 t).toInt64)) - 48))) rfl fw_X12 tyX12_ok nmX12 (by decide) fl_X12_224 rfl (by decide +kernel) rfl rfl (Nat.le_of_ble_eq_true rfl) (sM_15 cy a (fL ω 0 ((((ω.2.2 0) * 10) + ((ω.2.1 29 t).toInt64)) - 48)) (nI (t + 1))) dX12_next_329 (fun H locs h => ?_)
                                  refine lv_goto (tgt := 243) hx hb dX12_next_332 (by decide) ?_
                                  exact ih243 (t + 1) (fF (fL ω 0 ((((ω.2.2 0) * 10) + ((ω.2.1 29 t).toInt64)) - 48)) 15 (nI (t + 1))) _ _ _ ⟨by omega, ((hi243.2.1.L 0 _).F 15 _ (by decide)), rfl⟩ (by omega) h (lv_sub hl [0] rfl)
                                · refine lv_aload_n hx hb dX12_next_289 rfl (lv_at hl 0 rfl) ?_
                                  refine r_get E h 46 (v := .long (ω.2.2 0)) (eM_0 cy a ω) rfl fw_X12 (by decide) fl_X12_230 rfl dX12_next_290 ?_
                                  refine lv_goto (tgt := 319) hx hb dX12_next_293 (by decide) ?_
                                  refine r_put E h 46 (ty := .long) (eM_0 cy a ω) rfl fw_X12 tyX12_ok nmX12 (by decide) fl_X12_230 rfl (by decide +kernel) rfl rfl (Nat.le_of_ble_eq_true rfl) (sML_0 cy a ω (ω.2.2 0)) dX12_next_319 (fun H locs h => ?_)
                                  refine lv_aload_n hx hb dX12_next_322 rfl (lv_at hl 0 rfl) ?_
                                  refine lv_dup hx hb dX12_next_323 rfl ?_
                                  refine r_get E h 44 (v := .int (nI t)) (eM_0 cy a (fL ω 0 (ω.2.2 0))) rfl fw_X12 (by decide) fl_X12_224 (congrArg (fun z => some (Value.int z)) hi243.2.2) dX12_next_324 ?_
                                  refine lv_iconst (v := 1) hx hb dX12_next_327 (by decide) ?_
                                  refine n_add (j := t) (k := 1) hx hb dX12_next_328 ?_
                                  refine r_put E h 44 (ty := .int) (eM_0 cy a (fL ω 0 (ω.2.2 0))) rfl fw_X12 tyX12_ok nmX12 (by decide) fl_X12_224 rfl (by decide +kernel) rfl rfl (Nat.le_of_ble_eq_true rfl) (sM_15 cy a (fL ω 0 (ω.2.2 0)) (nI (t + 1))) dX12_next_329 (fun H locs h => ?_)
                                  refine lv_goto (tgt := 243) hx hb dX12_next_332 (by decide) ?_
                                  exact ih243 (t + 1) (fF (fL ω 0 (ω.2.2 0)) 15 (nI (t + 1))) _ _ _ ⟨by omega, ((hi243.2.1.L 0 _).F 15 _ (by decide)), rfl⟩ (by omega) h (lv_sub hl [0] rfl)
                      exact lp243 _ t υ _ _ _ hi149 (Nat.lt_succ_self _) h (lv_sub hl [0] rfl)
                    · refine lv_aload_n hx hb dX12_next_183 rfl (lv_at hl 0 rfl) ?_
                      refine lv_aload_n hx hb dX12_next_184 rfl (lv_at hl 0 rfl) ?_
                      refine r_get E h 44 (v := .int (nI t)) (eM_0 cy a υ) rfl fw_X12 (by decide) fl_X12_224 (congrArg (fun z => some (Value.int z)) hi149.2.2) dX12_next_185 ?_
                      refine lv_aload_n hx hb dX12_next_188 rfl (lv_at hl 0 rfl) ?_
                      refine r_get E h 43 (v := .int (υ.1 14)) (eM_0 cy a υ) rfl fw_X12 (by decide) fl_X12_227 rfl dX12_next_189 ?_
                      refine lv_isub hx hb dX12_next_192 ?_
                      refine lv_bipush (v := 9) hx hb dX12_next_193 (by decide) ?_
                      refine lv_icmp_ge (tgt := 224) hx hb dX12_next_195 (by decide) (fun c195 => ?_) (fun c195 => ?_)
                      · refine lv_ldc2 (v := -1) hx hb E.2.2.2.1 (E.2.2.2.2.1 _ kl_X12_247) dX12_next_224 ?_
                        refine r_put E h 46 (ty := .long) (eM_0 cy a υ) rfl fw_X12 tyX12_ok nmX12 (by decide) fl_X12_230 rfl (by decide +kernel) rfl rfl (Nat.le_of_ble_eq_true rfl) (sML_0 cy a υ (-1)) dX12_next_227 (fun H locs h => ?_)
                        refine lv_aload_n hx hb dX12_next_230 rfl (lv_at hl 0 rfl) ?_
                        refine lv_dup hx hb dX12_next_231 rfl ?_
                        refine r_get E h 44 (v := .int (nI t)) (eM_0 cy a (fL υ 0 (-1))) rfl fw_X12 (by decide) fl_X12_224 (congrArg (fun z => some (Value.int z)) hi149.2.2) dX12_next_232 ?_
                        refine lv_iconst (v := 1) hx hb dX12_next_235 (by decide) ?_
                        refine n_add (j := t) (k := 1) hx hb dX12_next_236 ?_
                        refine r_put E h 44 (ty := .int) (eM_0 cy a (fL υ 0 (-1))) rfl fw_X12 tyX12_ok nmX12 (by decide) fl_X12_224 rfl (by decide +kernel) rfl rfl (Nat.le_of_ble_eq_true rfl) (sM_15 cy a (fL υ 0 (-1)) (nI (t + 1))) dX12_next_237 (fun H locs h => ?_)
                        refine lv_goto (tgt := 149) hx hb dX12_next_240 (by decide) ?_
                        exact ih149 (t + 1) (fF (fL υ 0 (-1)) 15 (nI (t + 1))) _ _ _ ⟨by omega, ((hi149.2.1.L 0 _).F 15 _ (by decide)), rfl⟩ (by omega) h (lv_sub hl [0] rfl)
                      · refine lv_aload_n hx hb dX12_next_198 rfl (lv_at hl 0 rfl) ?_
                        refine r_get E h 46 (v := .long (υ.2.2 0)) (eM_0 cy a υ) rfl fw_X12 (by decide) fl_X12_230 rfl dX12_next_199 ?_
                        refine lv_ldc2 (v := 32) hx hb E.2.2.2.1 (E.2.2.2.2.1 _ kl_X12_243) dX12_next_202 ?_
                        refine lv_lmul hx hb dX12_next_205 ?_
                        refine lv_aload_n hx hb dX12_next_206 rfl (lv_at hl 0 rfl) ?_
                        refine r_get E h 41 (v := .ref (a 29)) (eM_0 cy a υ) rfl fw_X12 (by decide) fl_X12_94 rfl dX12_next_207 ?_
                        refine lv_aload_n hx hb dX12_next_210 rfl (lv_at hl 0 rfl) ?_
                        refine r_get E h 44 (v := .int (nI t)) (eM_0 cy a υ) rfl fw_X12 (by decide) fl_X12_224 (congrArg (fun z => some (Value.int z)) hi149.2.2) dX12_next_211 ?_
                        refine r_ialdN E h (f := υ.2.1 29) (eM_29 cy a υ) (j := t) (by omega) (by decide) (v := υ.2.1 29 t) rfl dX12_next_214 ?_
                        refine lv_i2l hx hb dX12_next_215 rfl ?_
                        refine lv_ladd hx hb dX12_next_216 ?_
                        refine lv_ldc2 (v := 96) hx hb E.2.2.2.1 (E.2.2.2.2.1 _ kl_X12_245) dX12_next_217 ?_
                        refine lv_lsub hx hb dX12_next_220 ?_
                        refine lv_goto (tgt := 227) hx hb dX12_next_221 (by decide) ?_
                        refine r_put E h 46 (ty := .long) (eM_0 cy a υ) rfl fw_X12 tyX12_ok nmX12 (by decide) fl_X12_230 rfl (by decide +kernel) rfl rfl (Nat.le_of_ble_eq_true rfl) (sML_0 cy a υ ((((υ.2.2 0) * 32) + ((υ.2.1 29 t).toInt64)) - 96)) dX12_next_227 (fun H locs h => ?_)
                        refine lv_aload_n hx hb dX12_next_230 rfl (lv_at hl 0 rfl) ?_
                        refine lv_dup hx hb dX12_next_231 rfl ?_
                        refine r_get E h 44 (v := .int (nI t)) (eM_0 cy a (fL υ 0 ((((υ.2.2 0) * 32) + ((υ.2.1 29 t).toInt64)) - 96))) rfl fw_X12 (by decide) fl_X12_224 (congrArg (fun z => some (Value.int z)) hi149.2.2) dX12_next_232 ?_
                        refine lv_iconst (v := 1) hx hb dX12_next_235 (by decide) ?_
                        refine n_add (j := t) (k := 1) hx hb dX12_next_236 ?_
                        refine r_put E h 44 (ty := .int) (eM_0 cy a (fL υ 0 ((((υ.2.2 0) * 32) + ((υ.2.1 29 t).toInt64)) - 96))) rfl fw_X12 tyX12_ok nmX12 (by decide) fl_X12_224 rfl (by decide +kernel) rfl rfl (Nat.le_of_ble_eq_true rfl) (sM_15 cy a (fL υ 0 ((((υ.2.2 0) * 32) + ((υ.2.1 29 t).toInt64)) - 96)) (nI (t + 1))) dX12_next_237 (fun H locs h => ?_)
                        refine lv_goto (tgt := 149) hx hb dX12_next_240 (by decide) ?_
                        exact ih149 (t + 1) (fF (fL υ 0 ((((υ.2.2 0) * 32) + ((υ.2.1 29 t).toInt64)) - 96)) 15 (nI (t + 1))) _ _ _ ⟨by omega, ((hi149.2.1.L 0 _).F 15 _ (by decide)), rfl⟩ (by omega) h (lv_sub hl [0] rfl)
            exact lp149 _ k (fF (fL (fF τ 15 (nI k)) 0 0) 16 v0) _ _ _ ⟨hi8.1, (((hi8.2.1.F 15 _ (by decide)).L 0 _).F 16 _ (by decide)), rfl⟩ (Nat.lt_succ_self _) h (lv_sub hl [0] rfl)
          · refine lv_aload_n hx hb dX12_next_125 rfl (lv_at hl 0 rfl) ?_
            refine lv_aload_n hx hb dX12_next_126 rfl (lv_at hl 0 rfl) ?_
            refine r_get E h 41 (v := .ref (a 29)) (eM_0 cy a (fF (fL (fF τ 15 (nI k)) 0 0) 16 v0)) rfl fw_X12 (by decide) fl_X12_94 rfl dX12_next_127 ?_
            refine lv_aload_n hx hb dX12_next_130 rfl (lv_at hl 0 rfl) ?_
            refine r_get E h 43 (v := .int (nI k)) (eM_0 cy a (fF (fL (fF τ 15 (nI k)) 0 0) 16 v0)) rfl fw_X12 (by decide) fl_X12_227 (congrArg (fun z => some (Value.int z)) hi8.2.2) dX12_next_131 ?_
            refine r_ialdN E h (f := τ.2.1 29) (eM_29 cy a (fF (fL (fF τ 15 (nI k)) 0 0) 16 v0)) (j := k) (by have := hj114 c122; omega) (by decide) (v := τ.2.1 29 k) rfl dX12_next_134 ?_
            refine lv_i2l hx hb dX12_next_135 rfl ?_
            refine r_put E h 46 (ty := .long) (eM_0 cy a (fF (fL (fF τ 15 (nI k)) 0 0) 16 v0)) rfl fw_X12 tyX12_ok nmX12 (by decide) fl_X12_230 rfl (by decide +kernel) rfl rfl (Nat.le_of_ble_eq_true rfl) (sML_0 cy a (fF (fL (fF τ 15 (nI k)) 0 0) 16 v0) ((τ.2.1 29 k).toInt64)) dX12_next_136 (fun H locs h => ?_)
            refine lv_aload_n hx hb dX12_next_139 rfl (lv_at hl 0 rfl) ?_
            refine lv_dup hx hb dX12_next_140 rfl ?_
            refine r_get E h 44 (v := .int (nI k)) (eM_0 cy a (fL (fF (fL (fF τ 15 (nI k)) 0 0) 16 v0) 0 ((τ.2.1 29 k).toInt64))) rfl fw_X12 (by decide) fl_X12_224 rfl dX12_next_141 ?_
            refine lv_iconst (v := 1) hx hb dX12_next_144 (by decide) ?_
            refine n_add (j := k) (k := 1) hx hb dX12_next_145 ?_
            refine r_put E h 44 (ty := .int) (eM_0 cy a (fL (fF (fL (fF τ 15 (nI k)) 0 0) 16 v0) 0 ((τ.2.1 29 k).toInt64))) rfl fw_X12 tyX12_ok nmX12 (by decide) fl_X12_224 rfl (by decide +kernel) rfl rfl (Nat.le_of_ble_eq_true rfl) (sM_15 cy a (fL (fF (fL (fF τ 15 (nI k)) 0 0) 16 v0) 0 ((τ.2.1 29 k).toInt64)) (nI (k + 1))) dX12_next_146 (fun H locs h => ?_)
            have lp149 : ∀ (f : Nat) (t : Nat) (υ : St) (H : Heap) (locs : List Loc) (ls : Array Slot), (t ≤ n ∧ K kn kA σ υ ∧ υ.1 15 = nI t) → (n - t) < f → HW D (AM a) s (wM cy a υ) H locs → lv_has ls 1 [(0, .ref (a 0))] → W p l e (rmOf 1 20) s m args below meth c H locs 0 0 (MQ below (va_Qv (fun τ => K kn kA σ τ ∧ TO n τ) (fun u t => va_P D vwCl (wM cy a u) t.heap) (AM a)) args s 0 0 (AM a)) (F0 m 149 ls []) := by
              intro f
              induction f with
              | zero => intro t υ H locs ls _ hf; exact absurd hf (Nat.not_lt_zero _)
              | succ f ih149 =>
                intro t υ H locs ls hi149 hf149 h hl
                refine lv_aload_n hx hb dX12_next_149 rfl (lv_at hl 0 rfl) ?_
                refine r_get E h 45 (v := .int (υ.1 16)) (eM_0 cy a υ) rfl fw_X12 (by decide) fl_X12_240 rfl dX12_next_150 ?_
                refine lv_iconst (v := 1) hx hb dX12_next_153 (by decide) ?_
                refine lv_icmp_ne (tgt := 243) hx hb dX12_next_154 (by decide) (fun c154 => ?_) (fun c154 => ?_)
                · have lp243 : ∀ (f : Nat) (t : Nat) (ω : St) (H : Heap) (locs : List Loc) (ls : Array Slot), (t ≤ n ∧ K kn kA σ ω ∧ ω.1 15 = nI t) → (n - t) < f → HW D (AM a) s (wM cy a ω) H locs → lv_has ls 1 [(0, .ref (a 0))] → W p l e (rmOf 1 20) s m args below meth c H locs 0 0 (MQ below (va_Qv (fun τ => K kn kA σ τ ∧ TO n τ) (fun u t => va_P D vwCl (wM cy a u) t.heap) (AM a)) args s 0 0 (AM a)) (F0 m 243 ls []) := by
                    intro f
                    induction f with
                    | zero => intro t ω H locs ls _ hf; exact absurd hf (Nat.not_lt_zero _)
                    | succ f ih243 =>
                      intro t ω H locs ls hi243 hf243 h hl
                      refine lv_aload_n hx hb dX12_next_243 rfl (lv_at hl 0 rfl) ?_
                      refine r_get E h 45 (v := .int (ω.1 16)) (eM_0 cy a ω) rfl fw_X12 (by decide) fl_X12_240 rfl dX12_next_244 ?_
                      refine lv_iconst (v := 2) hx hb dX12_next_247 (by decide) ?_
                      refine lv_icmp_ne (tgt := 335) hx hb dX12_next_248 (by decide) (fun c248 => ?_) (fun c248 => ?_)
                      · exact t_v E h hr hk ⟨hi243.2.1, t, hi243.1, hi243.2.2⟩ dX12_next_335
                      · refine lv_aload_n hx hb dX12_next_251 rfl (lv_at hl 0 rfl) ?_
                        refine r_get E h 44 (v := .int (nI t)) (eM_0 cy a ω) rfl fw_X12 (by decide) fl_X12_224 (congrArg (fun z => some (Value.int z)) hi243.2.2) dX12_next_252 ?_
                        refine lv_aload_n hx hb dX12_next_255 rfl (lv_at hl 0 rfl) ?_
                        refine r_get E h 42 (v := .int (nI n)) (eM_0 cy a ω) rfl fw_X12 (by decide) fl_X12_217 (congrArg (fun z => some (Value.int z)) ((hi243.2.1.1 13 (by decide)).trans hn)) dX12_next_256 ?_
                        refine lv_icmp_ge (tgt := 335) hx hb dX12_next_259 (by decide) (fun c259 => ?_) (fun c259 => ?_)
                        · exact t_v E h hr hk ⟨hi243.2.1, t, hi243.1, hi243.2.2⟩ dX12_next_335
                        · have c259 : t < n := Nat.lt_of_not_le fun q9 => c259 ((nI_leI (a := n) (b := t) (by omega) (by omega)).mpr q9)
                          refine lv_aload_n hx hb dX12_next_262 rfl (lv_at hl 0 rfl) ?_
                          refine r_get E h 41 (v := .ref (a 29)) (eM_0 cy a ω) rfl fw_X12 (by decide) fl_X12_94 rfl dX12_next_263 ?_
                          refine lv_aload_n hx hb dX12_next_266 rfl (lv_at hl 0 rfl) ?_
                          refine r_get E h 44 (v := .int (nI t)) (eM_0 cy a ω) rfl fw_X12 (by decide) fl_X12_224 (congrArg (fun z => some (Value.int z)) hi243.2.2) dX12_next_267 ?_
                          refine r_ialdN E h (f := ω.2.1 29) (eM_29 cy a ω) (j := t) (by omega) (by decide) (v := ω.2.1 29 t) rfl dX12_next_270 ?_
                          refine k_i h (q_runS (As := [.int (ω.2.1 29 t)]) (rest := []) E h (c_X12_isDigit l D cy a ω (ω.2.1 29 t)) co_X12_isDigit ml_X12_237 st_X12_isDigit in_X12 rfl ok_X12_isDigit rfl ⟨by decide, by decide⟩ hl.1 rfl (Nat.le_of_ble_eq_true rfl) dX12_next_271 ⟨Nat.zero_le _, Nat.zero_le _⟩) (wM_fst cy a) (fun r271 τ271 H locs p271 h => ?_)
                          rw [p271.1] at h
                          refine lv_if_eq (tgt := 335) hx hb dX12_next_274 (by decide) (fun c274 => ?_) (fun c274 => ?_)
                          · exact t_v E h hr hk ⟨hi243.2.1, t, hi243.1, hi243.2.2⟩ dX12_next_335
                          · refine lv_aload_n hx hb dX12_next_277 rfl (lv_at hl 0 rfl) ?_
                            refine lv_aload_n hx hb dX12_next_278 rfl (lv_at hl 0 rfl) ?_
                            refine r_get E h 46 (v := .long (ω.2.2 0)) (eM_0 cy a ω) rfl fw_X12 (by decide) fl_X12_230 rfl dX12_next_279 ?_
                            refine lv_ldc2 (v := 1000000) hx hb E.2.2.2.1 (E.2.2.2.2.1 _ kl_X12_249) dX12_next_282 ?_
                            refine W.lcmp hx hb dX12_next_285 ?_
                            refine lv_if_le (tgt := 296) hx hb dX12_next_286 (by decide) (fun c286 => ?_) (fun c286 => ?_)
                            · refine lv_aload_n hx hb dX12_next_296 rfl (lv_at hl 0 rfl) ?_
                              refine r_get E h 46 (v := .long (ω.2.2 0)) (eM_0 cy a ω) rfl fw_X12 (by decide) fl_X12_230 rfl dX12_next_297 ?_
                              refine lv_ldc2 (v := 10) hx hb E.2.2.2.1 (E.2.2.2.2.1 _ kl_X12_251) dX12_next_300 ?_
                              refine lv_lmul hx hb dX12_next_303 ?_
                              refine lv_aload_n hx hb dX12_next_304 rfl (lv_at hl 0 rfl) ?_
                              refine r_get E h 41 (v := .ref (a 29)) (eM_0 cy a ω) rfl fw_X12 (by decide) fl_X12_94 rfl dX12_next_305 ?_
                              refine lv_aload_n hx hb dX12_next_308 rfl (lv_at hl 0 rfl) ?_
                              refine r_get E h 44 (v := .int (nI t)) (eM_0 cy a ω) rfl fw_X12 (by decide) fl_X12_224 (congrArg (fun z => some (Value.int z)) hi243.2.2) dX12_next_309 ?_
                              refine r_ialdN E h (f := ω.2.1 29) (eM_29 cy a ω) (j := t) (by omega) (by decide) (v := ω.2.1 29 t) rfl dX12_next_312 ?_
                              refine lv_i2l hx hb dX12_next_313 rfl ?_
                              refine lv_ladd hx hb dX12_next_314 ?_
                              refine lv_ldc2 (v := 48) hx hb E.2.2.2.1 (E.2.2.2.2.1 _ kl_X12_253) dX12_next_315 ?_
                              refine lv_lsub hx hb dX12_next_318 ?_
                              refine r_put E h 46 (ty := .long) (eM_0 cy a ω) rfl fw_X12 tyX12_ok nmX12 (by decide) fl_X12_230 rfl (by decide +kernel) rfl rfl (Nat.le_of_ble_eq_true rfl) (sML_0 cy a ω ((((ω.2.2 0) * 10) + ((ω.2.1 29 t).toInt64)) - 48)) dX12_next_319 (fun H locs h => ?_)
                              refine lv_aload_n hx hb dX12_next_322 rfl (lv_at hl 0 rfl) ?_
                              refine lv_dup hx hb dX12_next_323 rfl ?_
                              refine r_get E h 44 (v := .int (nI t)) (eM_0 cy a (fL ω 0 ((((ω.2.2 0) * 10) + ((ω.2.1 29 t).toInt64)) - 48))) rfl fw_X12 (by decide) fl_X12_224 (congrArg (fun z => some (Value.int z)) hi243.2.2) dX12_next_324 ?_
                              refine lv_iconst (v := 1) hx hb dX12_next_327 (by decide) ?_
                              refine n_add (j := t) (k := 1) hx hb dX12_next_328 ?_
                              refine r_put E h 44 (ty := .int) (eM_0 cy a (fL ω 0 ((((ω.2.2 0) * 10) + ((ω.2.1 29 t).toInt64)) - 48))) rfl fw_X12 tyX12_ok nmX12 (by decide) fl_X12_224 rfl (by decide +kernel) rfl rfl (Nat.le_of_ble_eq_true rfl) (sM_15 cy a (fL ω 0 ((((ω.2.2 0) * 10) + ((ω.2.1 29 t).toInt64)) - 48)) (nI (t + 1))) dX12_next_329 (fun H locs h => ?_)
                              refine lv_goto (tgt := 243) hx hb dX12_next_332 (by decide) ?_
                              exact ih243 (t + 1) (fF (fL ω 0 ((((ω.2.2 0) * 10) + ((ω.2.1 29 t).toInt64)) - 48)) 15 (nI (t + 1))) _ _ _ ⟨by omega, ((hi243.2.1.L 0 _).F 15 _ (by decide)), rfl⟩ (by omega) h (lv_sub hl [0] rfl)
                            · refine lv_aload_n hx hb dX12_next_289 rfl (lv_at hl 0 rfl) ?_
                              refine r_get E h 46 (v := .long (ω.2.2 0)) (eM_0 cy a ω) rfl fw_X12 (by decide) fl_X12_230 rfl dX12_next_290 ?_
                              refine lv_goto (tgt := 319) hx hb dX12_next_293 (by decide) ?_
                              refine r_put E h 46 (ty := .long) (eM_0 cy a ω) rfl fw_X12 tyX12_ok nmX12 (by decide) fl_X12_230 rfl (by decide +kernel) rfl rfl (Nat.le_of_ble_eq_true rfl) (sML_0 cy a ω (ω.2.2 0)) dX12_next_319 (fun H locs h => ?_)
                              refine lv_aload_n hx hb dX12_next_322 rfl (lv_at hl 0 rfl) ?_
                              refine lv_dup hx hb dX12_next_323 rfl ?_
                              refine r_get E h 44 (v := .int (nI t)) (eM_0 cy a (fL ω 0 (ω.2.2 0))) rfl fw_X12 (by decide) fl_X12_224 (congrArg (fun z => some (Value.int z)) hi243.2.2) dX12_next_324 ?_
                              refine lv_iconst (v := 1) hx hb dX12_next_327 (by decide) ?_
                              refine n_add (j := t) (k := 1) hx hb dX12_next_328 ?_
                              refine r_put E h 44 (ty := .int) (eM_0 cy a (fL ω 0 (ω.2.2 0))) rfl fw_X12 tyX12_ok nmX12 (by decide) fl_X12_224 rfl (by decide +kernel) rfl rfl (Nat.le_of_ble_eq_true rfl) (sM_15 cy a (fL ω 0 (ω.2.2 0)) (nI (t + 1))) dX12_next_329 (fun H locs h => ?_)
                              refine lv_goto (tgt := 243) hx hb dX12_next_332 (by decide) ?_
                              exact ih243 (t + 1) (fF (fL ω 0 (ω.2.2 0)) 15 (nI (t + 1))) _ _ _ ⟨by omega, ((hi243.2.1.L 0 _).F 15 _ (by decide)), rfl⟩ (by omega) h (lv_sub hl [0] rfl)
                  exact lp243 _ t υ _ _ _ hi149 (Nat.lt_succ_self _) h (lv_sub hl [0] rfl)
                · refine lv_aload_n hx hb dX12_next_157 rfl (lv_at hl 0 rfl) ?_
                  refine r_get E h 44 (v := .int (nI t)) (eM_0 cy a υ) rfl fw_X12 (by decide) fl_X12_224 (congrArg (fun z => some (Value.int z)) hi149.2.2) dX12_next_158 ?_
                  refine lv_aload_n hx hb dX12_next_161 rfl (lv_at hl 0 rfl) ?_
                  refine r_get E h 42 (v := .int (nI n)) (eM_0 cy a υ) rfl fw_X12 (by decide) fl_X12_217 (congrArg (fun z => some (Value.int z)) ((hi149.2.1.1 13 (by decide)).trans hn)) dX12_next_162 ?_
                  refine lv_icmp_ge (tgt := 243) hx hb dX12_next_165 (by decide) (fun c165 => ?_) (fun c165 => ?_)
                  · have lp243 : ∀ (f : Nat) (t : Nat) (ω : St) (H : Heap) (locs : List Loc) (ls : Array Slot), (t ≤ n ∧ K kn kA σ ω ∧ ω.1 15 = nI t) → (n - t) < f → HW D (AM a) s (wM cy a ω) H locs → lv_has ls 1 [(0, .ref (a 0))] → W p l e (rmOf 1 20) s m args below meth c H locs 0 0 (MQ below (va_Qv (fun τ => K kn kA σ τ ∧ TO n τ) (fun u t => va_P D vwCl (wM cy a u) t.heap) (AM a)) args s 0 0 (AM a)) (F0 m 243 ls []) := by
                      intro f
                      induction f with
                      | zero => intro t ω H locs ls _ hf; exact absurd hf (Nat.not_lt_zero _)
                      | succ f ih243 =>
                        intro t ω H locs ls hi243 hf243 h hl
                        refine lv_aload_n hx hb dX12_next_243 rfl (lv_at hl 0 rfl) ?_
                        refine r_get E h 45 (v := .int (ω.1 16)) (eM_0 cy a ω) rfl fw_X12 (by decide) fl_X12_240 rfl dX12_next_244 ?_
                        refine lv_iconst (v := 2) hx hb dX12_next_247 (by decide) ?_
                        refine lv_icmp_ne (tgt := 335) hx hb dX12_next_248 (by decide) (fun c248 => ?_) (fun c248 => ?_)
                        · exact t_v E h hr hk ⟨hi243.2.1, t, hi243.1, hi243.2.2⟩ dX12_next_335
                        · refine lv_aload_n hx hb dX12_next_251 rfl (lv_at hl 0 rfl) ?_
                          refine r_get E h 44 (v := .int (nI t)) (eM_0 cy a ω) rfl fw_X12 (by decide) fl_X12_224 (congrArg (fun z => some (Value.int z)) hi243.2.2) dX12_next_252 ?_
                          refine lv_aload_n hx hb dX12_next_255 rfl (lv_at hl 0 rfl) ?_
                          refine r_get E h 42 (v := .int (nI n)) (eM_0 cy a ω) rfl fw_X12 (by decide) fl_X12_217 (congrArg (fun z => some (Value.int z)) ((hi243.2.1.1 13 (by decide)).trans hn)) dX12_next_256 ?_
                          refine lv_icmp_ge (tgt := 335) hx hb dX12_next_259 (by decide) (fun c259 => ?_) (fun c259 => ?_)
                          · exact t_v E h hr hk ⟨hi243.2.1, t, hi243.1, hi243.2.2⟩ dX12_next_335
                          · have c259 : t < n := Nat.lt_of_not_le fun q9 => c259 ((nI_leI (a := n) (b := t) (by omega) (by omega)).mpr q9)
                            refine lv_aload_n hx hb dX12_next_262 rfl (lv_at hl 0 rfl) ?_
                            refine r_get E h 41 (v := .ref (a 29)) (eM_0 cy a ω) rfl fw_X12 (by decide) fl_X12_94 rfl dX12_next_263 ?_
                            refine lv_aload_n hx hb dX12_next_266 rfl (lv_at hl 0 rfl) ?_
                            refine r_get E h 44 (v := .int (nI t)) (eM_0 cy a ω) rfl fw_X12 (by decide) fl_X12_224 (congrArg (fun z => some (Value.int z)) hi243.2.2) dX12_next_267 ?_
                            refine r_ialdN E h (f := ω.2.1 29) (eM_29 cy a ω) (j := t) (by omega) (by decide) (v := ω.2.1 29 t) rfl dX12_next_270 ?_
                            refine k_i h (q_runS (As := [.int (ω.2.1 29 t)]) (rest := []) E h (c_X12_isDigit l D cy a ω (ω.2.1 29 t)) co_X12_isDigit ml_X12_237 st_X12_isDigit in_X12 rfl ok_X12_isDigit rfl ⟨by decide, by decide⟩ hl.1 rfl (Nat.le_of_ble_eq_true rfl) dX12_next_271 ⟨Nat.zero_le _, Nat.zero_le _⟩) (wM_fst cy a) (fun r271 τ271 H locs p271 h => ?_)
                            rw [p271.1] at h
                            refine lv_if_eq (tgt := 335) hx hb dX12_next_274 (by decide) (fun c274 => ?_) (fun c274 => ?_)
                            · exact t_v E h hr hk ⟨hi243.2.1, t, hi243.1, hi243.2.2⟩ dX12_next_335
                            · refine lv_aload_n hx hb dX12_next_277 rfl (lv_at hl 0 rfl) ?_
                              refine lv_aload_n hx hb dX12_next_278 rfl (lv_at hl 0 rfl) ?_
                              refine r_get E h 46 (v := .long (ω.2.2 0)) (eM_0 cy a ω) rfl fw_X12 (by decide) fl_X12_230 rfl dX12_next_279 ?_
                              refine lv_ldc2 (v := 1000000) hx hb E.2.2.2.1 (E.2.2.2.2.1 _ kl_X12_249) dX12_next_282 ?_
                              refine W.lcmp hx hb dX12_next_285 ?_
                              refine lv_if_le (tgt := 296) hx hb dX12_next_286 (by decide) (fun c286 => ?_) (fun c286 => ?_)
                              · refine lv_aload_n hx hb dX12_next_296 rfl (lv_at hl 0 rfl) ?_
                                refine r_get E h 46 (v := .long (ω.2.2 0)) (eM_0 cy a ω) rfl fw_X12 (by decide) fl_X12_230 rfl dX12_next_297 ?_
                                refine lv_ldc2 (v := 10) hx hb E.2.2.2.1 (E.2.2.2.2.1 _ kl_X12_251) dX12_next_300 ?_
                                refine lv_lmul hx hb dX12_next_303 ?_
                                refine lv_aload_n hx hb dX12_next_304 rfl (lv_at hl 0 rfl) ?_
                                refine r_get E h 41 (v := .ref (a 29)) (eM_0 cy a ω) rfl fw_X12 (by decide) fl_X12_94 rfl dX12_next_305 ?_
                                refine lv_aload_n hx hb dX12_next_308 rfl (lv_at hl 0 rfl) ?_
                                refine r_get E h 44 (v := .int (nI t)) (eM_0 cy a ω) rfl fw_X12 (by decide) fl_X12_224 (congrArg (fun z => some (Value.int z)) hi243.2.2) dX12_next_309 ?_
                                refine r_ialdN E h (f := ω.2.1 29) (eM_29 cy a ω) (j := t) (by omega) (by decide) (v := ω.2.1 29 t) rfl dX12_next_312 ?_
                                refine lv_i2l hx hb dX12_next_313 rfl ?_
                                refine lv_ladd hx hb dX12_next_314 ?_
                                refine lv_ldc2 (v := 48) hx hb E.2.2.2.1 (E.2.2.2.2.1 _ kl_X12_253) dX12_next_315 ?_
                                refine lv_lsub hx hb dX12_next_318 ?_
                                refine r_put E h 46 (ty := .long) (eM_0 cy a ω) rfl fw_X12 tyX12_ok nmX12 (by decide) fl_X12_230 rfl (by decide +kernel) rfl rfl (Nat.le_of_ble_eq_true rfl) (sML_0 cy a ω ((((ω.2.2 0) * 10) + ((ω.2.1 29 t).toInt64)) - 48)) dX12_next_319 (fun H locs h => ?_)
                                refine lv_aload_n hx hb dX12_next_322 rfl (lv_at hl 0 rfl) ?_
                                refine lv_dup hx hb dX12_next_323 rfl ?_
                                refine r_get E h 44 (v := .int (nI t)) (eM_0 cy a (fL ω 0 ((((ω.2.2 0) * 10) + ((ω.2.1 29 t).toInt64)) - 48))) rfl fw_X12 (by decide) fl_X12_224 (congrArg (fun z => some (Value.int z)) hi243.2.2) dX12_next_324 ?_
                                refine lv_iconst (v := 1) hx hb dX12_next_327 (by decide) ?_
                                refine n_add (j := t) (k := 1) hx hb dX12_next_328 ?_
                                refine r_put E h 44 (ty := .int) (eM_0 cy a (fL ω 0 ((((ω.2.2 0) * 10) + ((ω.2.1 29 t).toInt64)) - 48))) rfl fw_X12 tyX12_ok nmX12 (by decide) fl_X12_224 rfl (by decide +kernel) rfl rfl (Nat.le_of_ble_eq_true rfl) (sM_15 cy a (fL ω 0 ((((ω.2.2 0) * 10) + ((ω.2.1 29 t).toInt64)) - 48)) (nI (t + 1))) dX12_next_329 (fun H locs h => ?_)
                                refine lv_goto (tgt := 243) hx hb dX12_next_332 (by decide) ?_
                                exact ih243 (t + 1) (fF (fL ω 0 ((((ω.2.2 0) * 10) + ((ω.2.1 29 t).toInt64)) - 48)) 15 (nI (t + 1))) _ _ _ ⟨by omega, ((hi243.2.1.L 0 _).F 15 _ (by decide)), rfl⟩ (by omega) h (lv_sub hl [0] rfl)
                              · refine lv_aload_n hx hb dX12_next_289 rfl (lv_at hl 0 rfl) ?_
                                refine r_get E h 46 (v := .long (ω.2.2 0)) (eM_0 cy a ω) rfl fw_X12 (by decide) fl_X12_230 rfl dX12_next_290 ?_
                                refine lv_goto (tgt := 319) hx hb dX12_next_293 (by decide) ?_
                                refine r_put E h 46 (ty := .long) (eM_0 cy a ω) rfl fw_X12 tyX12_ok nmX12 (by decide) fl_X12_230 rfl (by decide +kernel) rfl rfl (Nat.le_of_ble_eq_true rfl) (sML_0 cy a ω (ω.2.2 0)) dX12_next_319 (fun H locs h => ?_)
                                refine lv_aload_n hx hb dX12_next_322 rfl (lv_at hl 0 rfl) ?_
                                refine lv_dup hx hb dX12_next_323 rfl ?_
                                refine r_get E h 44 (v := .int (nI t)) (eM_0 cy a (fL ω 0 (ω.2.2 0))) rfl fw_X12 (by decide) fl_X12_224 (congrArg (fun z => some (Value.int z)) hi243.2.2) dX12_next_324 ?_
                                refine lv_iconst (v := 1) hx hb dX12_next_327 (by decide) ?_
                                refine n_add (j := t) (k := 1) hx hb dX12_next_328 ?_
                                refine r_put E h 44 (ty := .int) (eM_0 cy a (fL ω 0 (ω.2.2 0))) rfl fw_X12 tyX12_ok nmX12 (by decide) fl_X12_224 rfl (by decide +kernel) rfl rfl (Nat.le_of_ble_eq_true rfl) (sM_15 cy a (fL ω 0 (ω.2.2 0)) (nI (t + 1))) dX12_next_329 (fun H locs h => ?_)
                                refine lv_goto (tgt := 243) hx hb dX12_next_332 (by decide) ?_
                                exact ih243 (t + 1) (fF (fL ω 0 (ω.2.2 0)) 15 (nI (t + 1))) _ _ _ ⟨by omega, ((hi243.2.1.L 0 _).F 15 _ (by decide)), rfl⟩ (by omega) h (lv_sub hl [0] rfl)
                    exact lp243 _ t υ _ _ _ hi149 (Nat.lt_succ_self _) h (lv_sub hl [0] rfl)
                  · have c165 : t < n := Nat.lt_of_not_le fun q9 => c165 ((nI_leI (a := n) (b := t) (by omega) (by omega)).mpr q9)
                    refine lv_aload_n hx hb dX12_next_168 rfl (lv_at hl 0 rfl) ?_
                    refine r_get E h 41 (v := .ref (a 29)) (eM_0 cy a υ) rfl fw_X12 (by decide) fl_X12_94 rfl dX12_next_169 ?_
                    refine lv_aload_n hx hb dX12_next_172 rfl (lv_at hl 0 rfl) ?_
                    refine r_get E h 44 (v := .int (nI t)) (eM_0 cy a υ) rfl fw_X12 (by decide) fl_X12_224 (congrArg (fun z => some (Value.int z)) hi149.2.2) dX12_next_173 ?_
                    refine r_ialdN E h (f := υ.2.1 29) (eM_29 cy a υ) (j := t) (by omega) (by decide) (v := υ.2.1 29 t) rfl dX12_next_176 ?_
                    refine k_i h (q_runS (As := [.int (υ.2.1 29 t)]) (rest := []) E h (c_X12_isSmall l D cy a υ (υ.2.1 29 t)) co_X12_isSmall ml_X12_234 st_X12_isSmall in_X12 rfl ok_X12_isSmall rfl ⟨by decide, by decide⟩ hl.1 rfl (Nat.le_of_ble_eq_true rfl) dX12_next_177 ⟨Nat.zero_le _, Nat.zero_le _⟩) (wM_fst cy a) (fun r177 τ177 H locs p177 h => ?_)
                    rw [p177.1] at h
                    refine lv_if_eq (tgt := 243) hx hb dX12_next_180 (by decide) (fun c180 => ?_) (fun c180 => ?_)
                    · have lp243 : ∀ (f : Nat) (t : Nat) (ω : St) (H : Heap) (locs : List Loc) (ls : Array Slot), (t ≤ n ∧ K kn kA σ ω ∧ ω.1 15 = nI t) → (n - t) < f → HW D (AM a) s (wM cy a ω) H locs → lv_has ls 1 [(0, .ref (a 0))] → W p l e (rmOf 1 20) s m args below meth c H locs 0 0 (MQ below (va_Qv (fun τ => K kn kA σ τ ∧ TO n τ) (fun u t => va_P D vwCl (wM cy a u) t.heap) (AM a)) args s 0 0 (AM a)) (F0 m 243 ls []) := by
                        intro f
                        induction f with
                        | zero => intro t ω H locs ls _ hf; exact absurd hf (Nat.not_lt_zero _)
                        | succ f ih243 =>
                          intro t ω H locs ls hi243 hf243 h hl
                          refine lv_aload_n hx hb dX12_next_243 rfl (lv_at hl 0 rfl) ?_
                          refine r_get E h 45 (v := .int (ω.1 16)) (eM_0 cy a ω) rfl fw_X12 (by decide) fl_X12_240 rfl dX12_next_244 ?_
                          refine lv_iconst (v := 2) hx hb dX12_next_247 (by decide) ?_
                          refine lv_icmp_ne (tgt := 335) hx hb dX12_next_248 (by decide) (fun c248 => ?_) (fun c248 => ?_)
                          · exact t_v E h hr hk ⟨hi243.2.1, t, hi243.1, hi243.2.2⟩ dX12_next_335
                          · refine lv_aload_n hx hb dX12_next_251 rfl (lv_at hl 0 rfl) ?_
                            refine r_get E h 44 (v := .int (nI t)) (eM_0 cy a ω) rfl fw_X12 (by decide) fl_X12_224 (congrArg (fun z => some (Value.int z)) hi243.2.2) dX12_next_252 ?_
                            refine lv_aload_n hx hb dX12_next_255 rfl (lv_at hl 0 rfl) ?_
                            refine r_get E h 42 (v := .int (nI n)) (eM_0 cy a ω) rfl fw_X12 (by decide) fl_X12_217 (congrArg (fun z => some (Value.int z)) ((hi243.2.1.1 13 (by decide)).trans hn)) dX12_next_256 ?_
                            refine lv_icmp_ge (tgt := 335) hx hb dX12_next_259 (by decide) (fun c259 => ?_) (fun c259 => ?_)
                            · exact t_v E h hr hk ⟨hi243.2.1, t, hi243.1, hi243.2.2⟩ dX12_next_335
                            · have c259 : t < n := Nat.lt_of_not_le fun q9 => c259 ((nI_leI (a := n) (b := t) (by omega) (by omega)).mpr q9)
                              refine lv_aload_n hx hb dX12_next_262 rfl (lv_at hl 0 rfl) ?_
                              refine r_get E h 41 (v := .ref (a 29)) (eM_0 cy a ω) rfl fw_X12 (by decide) fl_X12_94 rfl dX12_next_263 ?_
                              refine lv_aload_n hx hb dX12_next_266 rfl (lv_at hl 0 rfl) ?_
                              refine r_get E h 44 (v := .int (nI t)) (eM_0 cy a ω) rfl fw_X12 (by decide) fl_X12_224 (congrArg (fun z => some (Value.int z)) hi243.2.2) dX12_next_267 ?_
                              refine r_ialdN E h (f := ω.2.1 29) (eM_29 cy a ω) (j := t) (by omega) (by decide) (v := ω.2.1 29 t) rfl dX12_next_270 ?_
                              refine k_i h (q_runS (As := [.int (ω.2.1 29 t)]) (rest := []) E h (c_X12_isDigit l D cy a ω (ω.2.1 29 t)) co_X12_isDigit ml_X12_237 st_X12_isDigit in_X12 rfl ok_X12_isDigit rfl ⟨by decide, by decide⟩ hl.1 rfl (Nat.le_of_ble_eq_true rfl) dX12_next_271 ⟨Nat.zero_le _, Nat.zero_le _⟩) (wM_fst cy a) (fun r271 τ271 H locs p271 h => ?_)
                              rw [p271.1] at h
                              refine lv_if_eq (tgt := 335) hx hb dX12_next_274 (by decide) (fun c274 => ?_) (fun c274 => ?_)
                              · exact t_v E h hr hk ⟨hi243.2.1, t, hi243.1, hi243.2.2⟩ dX12_next_335
                              · refine lv_aload_n hx hb dX12_next_277 rfl (lv_at hl 0 rfl) ?_
                                refine lv_aload_n hx hb dX12_next_278 rfl (lv_at hl 0 rfl) ?_
                                refine r_get E h 46 (v := .long (ω.2.2 0)) (eM_0 cy a ω) rfl fw_X12 (by decide) fl_X12_230 rfl dX12_next_279 ?_
                                refine lv_ldc2 (v := 1000000) hx hb E.2.2.2.1 (E.2.2.2.2.1 _ kl_X12_249) dX12_next_282 ?_
                                refine W.lcmp hx hb dX12_next_285 ?_
                                refine lv_if_le (tgt := 296) hx hb dX12_next_286 (by decide) (fun c286 => ?_) (fun c286 => ?_)
                                · refine lv_aload_n hx hb dX12_next_296 rfl (lv_at hl 0 rfl) ?_
                                  refine r_get E h 46 (v := .long (ω.2.2 0)) (eM_0 cy a ω) rfl fw_X12 (by decide) fl_X12_230 rfl dX12_next_297 ?_
                                  refine lv_ldc2 (v := 10) hx hb E.2.2.2.1 (E.2.2.2.2.1 _ kl_X12_251) dX12_next_300 ?_
                                  refine lv_lmul hx hb dX12_next_303 ?_
                                  refine lv_aload_n hx hb dX12_next_304 rfl (lv_at hl 0 rfl) ?_
                                  refine r_get E h 41 (v := .ref (a 29)) (eM_0 cy a ω) rfl fw_X12 (by decide) fl_X12_94 rfl dX12_next_305 ?_
                                  refine lv_aload_n hx hb dX12_next_308 rfl (lv_at hl 0 rfl) ?_
                                  refine r_get E h 44 (v := .int (nI t)) (eM_0 cy a ω) rfl fw_X12 (by decide) fl_X12_224 (congrArg (fun z => some (Value.int z)) hi243.2.2) dX12_next_309 ?_
                                  refine r_ialdN E h (f := ω.2.1 29) (eM_29 cy a ω) (j := t) (by omega) (by decide) (v := ω.2.1 29 t) rfl dX12_next_312 ?_
                                  refine lv_i2l hx hb dX12_next_313 rfl ?_
                                  refine lv_ladd hx hb dX12_next_314 ?_
                                  refine lv_ldc2 (v := 48) hx hb E.2.2.2.1 (E.2.2.2.2.1 _ kl_X12_253) dX12_next_315 ?_
                                  refine lv_lsub hx hb dX12_next_318 ?_
                                  refine r_put E h 46 (ty := .long) (eM_0 cy a ω) rfl fw_X12 tyX12_ok nmX12 (by decide) fl_X12_230 rfl (by decide +kernel) rfl rfl (Nat.le_of_ble_eq_true rfl) (sML_0 cy a ω ((((ω.2.2 0) * 10) + ((ω.2.1 29 t).toInt64)) - 48)) dX12_next_319 (fun H locs h => ?_)
                                  refine lv_aload_n hx hb dX12_next_322 rfl (lv_at hl 0 rfl) ?_
                                  refine lv_dup hx hb dX12_next_323 rfl ?_
                                  refine r_get E h 44 (v := .int (nI t)) (eM_0 cy a (fL ω 0 ((((ω.2.2 0) * 10) + ((ω.2.1 29 t).toInt64)) - 48))) rfl fw_X12 (by decide) fl_X12_224 (congrArg (fun z => some (Value.int z)) hi243.2.2) dX12_next_324 ?_
                                  refine lv_iconst (v := 1) hx hb dX12_next_327 (by decide) ?_
                                  refine n_add (j := t) (k := 1) hx hb dX12_next_328 ?_
                                  refine r_put E h 44 (ty := .int) (eM_0 cy a (fL ω 0 ((((ω.2.2 0) * 10) + ((ω.2.1 29 t).toInt64)) - 48))) rfl fw_X12 tyX12_ok nmX12 (by decide) fl_X12_224 rfl (by decide +kernel) rfl rfl (Nat.le_of_ble_eq_true rfl) (sM_15 cy a (fL ω 0 ((((ω.2.2 0) * 10) + ((ω.2.1 29 t).toInt64)) - 48)) (nI (t + 1))) dX12_next_329 (fun H locs h => ?_)
                                  refine lv_goto (tgt := 243) hx hb dX12_next_332 (by decide) ?_
                                  exact ih243 (t + 1) (fF (fL ω 0 ((((ω.2.2 0) * 10) + ((ω.2.1 29 t).toInt64)) - 48)) 15 (nI (t + 1))) _ _ _ ⟨by omega, ((hi243.2.1.L 0 _).F 15 _ (by decide)), rfl⟩ (by omega) h (lv_sub hl [0] rfl)
                                · refine lv_aload_n hx hb dX12_next_289 rfl (lv_at hl 0 rfl) ?_
                                  refine r_get E h 46 (v := .long (ω.2.2 0)) (eM_0 cy a ω) rfl fw_X12 (by decide) fl_X12_230 rfl dX12_next_290 ?_
                                  refine lv_goto (tgt := 319) hx hb dX12_next_293 (by decide) ?_
                                  refine r_put E h 46 (ty := .long) (eM_0 cy a ω) rfl fw_X12 tyX12_ok nmX12 (by decide) fl_X12_230 rfl (by decide +kernel) rfl rfl (Nat.le_of_ble_eq_true rfl) (sML_0 cy a ω (ω.2.2 0)) dX12_next_319 (fun H locs h => ?_)
                                  refine lv_aload_n hx hb dX12_next_322 rfl (lv_at hl 0 rfl) ?_
                                  refine lv_dup hx hb dX12_next_323 rfl ?_
                                  refine r_get E h 44 (v := .int (nI t)) (eM_0 cy a (fL ω 0 (ω.2.2 0))) rfl fw_X12 (by decide) fl_X12_224 (congrArg (fun z => some (Value.int z)) hi243.2.2) dX12_next_324 ?_
                                  refine lv_iconst (v := 1) hx hb dX12_next_327 (by decide) ?_
                                  refine n_add (j := t) (k := 1) hx hb dX12_next_328 ?_
                                  refine r_put E h 44 (ty := .int) (eM_0 cy a (fL ω 0 (ω.2.2 0))) rfl fw_X12 tyX12_ok nmX12 (by decide) fl_X12_224 rfl (by decide +kernel) rfl rfl (Nat.le_of_ble_eq_true rfl) (sM_15 cy a (fL ω 0 (ω.2.2 0)) (nI (t + 1))) dX12_next_329 (fun H locs h => ?_)
                                  refine lv_goto (tgt := 243) hx hb dX12_next_332 (by decide) ?_
                                  exact ih243 (t + 1) (fF (fL ω 0 (ω.2.2 0)) 15 (nI (t + 1))) _ _ _ ⟨by omega, ((hi243.2.1.L 0 _).F 15 _ (by decide)), rfl⟩ (by omega) h (lv_sub hl [0] rfl)
                      exact lp243 _ t υ _ _ _ hi149 (Nat.lt_succ_self _) h (lv_sub hl [0] rfl)
                    · refine lv_aload_n hx hb dX12_next_183 rfl (lv_at hl 0 rfl) ?_
                      refine lv_aload_n hx hb dX12_next_184 rfl (lv_at hl 0 rfl) ?_
                      refine r_get E h 44 (v := .int (nI t)) (eM_0 cy a υ) rfl fw_X12 (by decide) fl_X12_224 (congrArg (fun z => some (Value.int z)) hi149.2.2) dX12_next_185 ?_
                      refine lv_aload_n hx hb dX12_next_188 rfl (lv_at hl 0 rfl) ?_
                      refine r_get E h 43 (v := .int (υ.1 14)) (eM_0 cy a υ) rfl fw_X12 (by decide) fl_X12_227 rfl dX12_next_189 ?_
                      refine lv_isub hx hb dX12_next_192 ?_
                      refine lv_bipush (v := 9) hx hb dX12_next_193 (by decide) ?_
                      refine lv_icmp_ge (tgt := 224) hx hb dX12_next_195 (by decide) (fun c195 => ?_) (fun c195 => ?_)
                      · refine lv_ldc2 (v := -1) hx hb E.2.2.2.1 (E.2.2.2.2.1 _ kl_X12_247) dX12_next_224 ?_
                        refine r_put E h 46 (ty := .long) (eM_0 cy a υ) rfl fw_X12 tyX12_ok nmX12 (by decide) fl_X12_230 rfl (by decide +kernel) rfl rfl (Nat.le_of_ble_eq_true rfl) (sML_0 cy a υ (-1)) dX12_next_227 (fun H locs h => ?_)
                        refine lv_aload_n hx hb dX12_next_230 rfl (lv_at hl 0 rfl) ?_
                        refine lv_dup hx hb dX12_next_231 rfl ?_
                        refine r_get E h 44 (v := .int (nI t)) (eM_0 cy a (fL υ 0 (-1))) rfl fw_X12 (by decide) fl_X12_224 (congrArg (fun z => some (Value.int z)) hi149.2.2) dX12_next_232 ?_
                        refine lv_iconst (v := 1) hx hb dX12_next_235 (by decide) ?_
                        refine n_add (j := t) (k := 1) hx hb dX12_next_236 ?_
                        refine r_put E h 44 (ty := .int) (eM_0 cy a (fL υ 0 (-1))) rfl fw_X12 tyX12_ok nmX12 (by decide) fl_X12_224 rfl (by decide +kernel) rfl rfl (Nat.le_of_ble_eq_true rfl) (sM_15 cy a (fL υ 0 (-1)) (nI (t + 1))) dX12_next_237 (fun H locs h => ?_)
                        refine lv_goto (tgt := 149) hx hb dX12_next_240 (by decide) ?_
                        exact ih149 (t + 1) (fF (fL υ 0 (-1)) 15 (nI (t + 1))) _ _ _ ⟨by omega, ((hi149.2.1.L 0 _).F 15 _ (by decide)), rfl⟩ (by omega) h (lv_sub hl [0] rfl)
                      · refine lv_aload_n hx hb dX12_next_198 rfl (lv_at hl 0 rfl) ?_
                        refine r_get E h 46 (v := .long (υ.2.2 0)) (eM_0 cy a υ) rfl fw_X12 (by decide) fl_X12_230 rfl dX12_next_199 ?_
                        refine lv_ldc2 (v := 32) hx hb E.2.2.2.1 (E.2.2.2.2.1 _ kl_X12_243) dX12_next_202 ?_
                        refine lv_lmul hx hb dX12_next_205 ?_
                        refine lv_aload_n hx hb dX12_next_206 rfl (lv_at hl 0 rfl) ?_
                        refine r_get E h 41 (v := .ref (a 29)) (eM_0 cy a υ) rfl fw_X12 (by decide) fl_X12_94 rfl dX12_next_207 ?_
                        refine lv_aload_n hx hb dX12_next_210 rfl (lv_at hl 0 rfl) ?_
                        refine r_get E h 44 (v := .int (nI t)) (eM_0 cy a υ) rfl fw_X12 (by decide) fl_X12_224 (congrArg (fun z => some (Value.int z)) hi149.2.2) dX12_next_211 ?_
                        refine r_ialdN E h (f := υ.2.1 29) (eM_29 cy a υ) (j := t) (by omega) (by decide) (v := υ.2.1 29 t) rfl dX12_next_214 ?_
                        refine lv_i2l hx hb dX12_next_215 rfl ?_
                        refine lv_ladd hx hb dX12_next_216 ?_
                        refine lv_ldc2 (v := 96) hx hb E.2.2.2.1 (E.2.2.2.2.1 _ kl_X12_245) dX12_next_217 ?_
                        refine lv_lsub hx hb dX12_next_220 ?_
                        refine lv_goto (tgt := 227) hx hb dX12_next_221 (by decide) ?_
                        refine r_put E h 46 (ty := .long) (eM_0 cy a υ) rfl fw_X12 tyX12_ok nmX12 (by decide) fl_X12_230 rfl (by decide +kernel) rfl rfl (Nat.le_of_ble_eq_true rfl) (sML_0 cy a υ ((((υ.2.2 0) * 32) + ((υ.2.1 29 t).toInt64)) - 96)) dX12_next_227 (fun H locs h => ?_)
                        refine lv_aload_n hx hb dX12_next_230 rfl (lv_at hl 0 rfl) ?_
                        refine lv_dup hx hb dX12_next_231 rfl ?_
                        refine r_get E h 44 (v := .int (nI t)) (eM_0 cy a (fL υ 0 ((((υ.2.2 0) * 32) + ((υ.2.1 29 t).toInt64)) - 96))) rfl fw_X12 (by decide) fl_X12_224 (congrArg (fun z => some (Value.int z)) hi149.2.2) dX12_next_232 ?_
                        refine lv_iconst (v := 1) hx hb dX12_next_235 (by decide) ?_
                        refine n_add (j := t) (k := 1) hx hb dX12_next_236 ?_
                        refine r_put E h 44 (ty := .int) (eM_0 cy a (fL υ 0 ((((υ.2.2 0) * 32) + ((υ.2.1 29 t).toInt64)) - 96))) rfl fw_X12 tyX12_ok nmX12 (by decide) fl_X12_224 rfl (by decide +kernel) rfl rfl (Nat.le_of_ble_eq_true rfl) (sM_15 cy a (fL υ 0 ((((υ.2.2 0) * 32) + ((υ.2.1 29 t).toInt64)) - 96)) (nI (t + 1))) dX12_next_237 (fun H locs h => ?_)
                        refine lv_goto (tgt := 149) hx hb dX12_next_240 (by decide) ?_
                        exact ih149 (t + 1) (fF (fL υ 0 ((((υ.2.2 0) * 32) + ((υ.2.1 29 t).toInt64)) - 96)) 15 (nI (t + 1))) _ _ _ ⟨by omega, ((hi149.2.1.L 0 _).F 15 _ (by decide)), rfl⟩ (by omega) h (lv_sub hl [0] rfl)
            exact lp149 _ (k + 1) (fF (fL (fF (fL (fF τ 15 (nI k)) 0 0) 16 v0) 0 ((τ.2.1 29 k).toInt64)) 15 (nI (k + 1))) _ _ _ ⟨by have := hj114 c122; omega, ((((((hi8.2.1.F 15 _ (by decide)).L 0 _).F 16 _ (by decide)).L 0 _).F 15 _ (by decide))), rfl⟩ (Nat.lt_succ_self _) h (lv_sub hl [0] rfl)
        refine lv_aload_n hx hb dX12_next_59 rfl (lv_at hl 0 rfl) ?_
        refine lv_aload_n hx hb dX12_next_60 rfl (lv_at hl 0 rfl) ?_
        refine r_get E h 43 (v := .int (nI k)) (eM_0 cy a (fL (fF τ 15 (nI k)) 0 0)) rfl fw_X12 (by decide) fl_X12_227 (congrArg (fun z => some (Value.int z)) hi8.2.2) dX12_next_61 ?_
        refine lv_aload_n hx hb dX12_next_64 rfl (lv_at hl 0 rfl) ?_
        refine r_get E h 42 (v := .int (nI n)) (eM_0 cy a (fL (fF τ 15 (nI k)) 0 0)) rfl fw_X12 (by decide) fl_X12_217 (congrArg (fun z => some (Value.int z)) ((hi8.2.1.1 13 (by decide)).trans hn)) dX12_next_65 ?_
        refine lv_icmp_ne (tgt := 75) hx hb dX12_next_68 (by decide) (fun c68 => ?_) (fun c68 => ?_)
        · have c68 : k < n := by have := n_ne c68; have := hi8.1; omega
          refine lv_aload_n hx hb dX12_next_75 rfl (lv_at hl 0 rfl) ?_
          refine r_get E h 41 (v := .ref (a 29)) (eM_0 cy a (fL (fF τ 15 (nI k)) 0 0)) rfl fw_X12 (by decide) fl_X12_94 rfl dX12_next_76 ?_
          refine lv_aload_n hx hb dX12_next_79 rfl (lv_at hl 0 rfl) ?_
          refine r_get E h 43 (v := .int (nI k)) (eM_0 cy a (fL (fF τ 15 (nI k)) 0 0)) rfl fw_X12 (by decide) fl_X12_227 (congrArg (fun z => some (Value.int z)) hi8.2.2) dX12_next_80 ?_
          refine r_ialdN E h (f := τ.2.1 29) (eM_29 cy a (fL (fF τ 15 (nI k)) 0 0)) (j := k) (by omega) (by decide) (v := τ.2.1 29 k) rfl dX12_next_83 ?_
          refine k_i h (q_runS (As := [.int (τ.2.1 29 k)]) (rest := [.ref (a 0)]) E h (c_X12_isSmall l D cy a (fL (fF τ 15 (nI k)) 0 0) (τ.2.1 29 k)) co_X12_isSmall ml_X12_234 st_X12_isSmall in_X12 rfl ok_X12_isSmall rfl ⟨by decide, by decide⟩ hl.1 rfl (Nat.le_of_ble_eq_true rfl) dX12_next_84 ⟨Nat.zero_le _, Nat.zero_le _⟩) (wM_fst cy a) (fun r84 τ84 H locs p84 h => ?_)
          rw [p84.1] at h
          refine lv_if_eq (tgt := 94) hx hb dX12_next_87 (by decide) (fun c87 => ?_) (fun c87 => ?_)
          · refine lv_aload_n hx hb dX12_next_94 rfl (lv_at hl 0 rfl) ?_
            refine r_get E h 41 (v := .ref (a 29)) (eM_0 cy a (fL (fF τ 15 (nI k)) 0 0)) rfl fw_X12 (by decide) fl_X12_94 rfl dX12_next_95 ?_
            refine lv_aload_n hx hb dX12_next_98 rfl (lv_at hl 0 rfl) ?_
            refine r_get E h 43 (v := .int (nI k)) (eM_0 cy a (fL (fF τ 15 (nI k)) 0 0)) rfl fw_X12 (by decide) fl_X12_227 (congrArg (fun z => some (Value.int z)) hi8.2.2) dX12_next_99 ?_
            refine r_ialdN E h (f := τ.2.1 29) (eM_29 cy a (fL (fF τ 15 (nI k)) 0 0)) (j := k) (by omega) (by decide) (v := τ.2.1 29 k) rfl dX12_next_102 ?_
            refine k_i h (q_runS (As := [.int (τ.2.1 29 k)]) (rest := [.ref (a 0)]) E h (c_X12_isDigit l D cy a (fL (fF τ 15 (nI k)) 0 0) (τ.2.1 29 k)) co_X12_isDigit ml_X12_237 st_X12_isDigit in_X12 rfl ok_X12_isDigit rfl ⟨by decide, by decide⟩ hl.1 rfl (Nat.le_of_ble_eq_true rfl) dX12_next_103 ⟨Nat.zero_le _, Nat.zero_le _⟩) (wM_fst cy a) (fun r103 τ103 H locs p103 h => ?_)
            rw [p103.1] at h
            refine lv_if_eq (tgt := 113) hx hb dX12_next_106 (by decide) (fun c106 => ?_) (fun c106 => ?_)
            · refine lv_iconst (v := 3) hx hb dX12_next_113 (by decide) ?_
              exact jn114 3 _ _ _ (fun _ => c68) h (lv_sub hl [0] rfl)
            · refine lv_iconst (v := 2) hx hb dX12_next_109 (by decide) ?_
              refine lv_goto (tgt := 114) hx hb dX12_next_110 (by decide) ?_
              exact jn114 2 _ _ _ (fun _ => c68) h (lv_sub hl [0] rfl)
          · refine lv_iconst (v := 1) hx hb dX12_next_90 (by decide) ?_
            refine lv_goto (tgt := 114) hx hb dX12_next_91 (by decide) ?_
            exact jn114 1 _ _ _ (fun _ => c68) h (lv_sub hl [0] rfl)
        · refine lv_iconst (v := 0) hx hb dX12_next_71 (by decide) ?_
          refine lv_goto (tgt := 114) hx hb dX12_next_72 (by decide) ?_
          exact jn114 0 _ _ _ (fun q9 => absurd q9 (by decide)) h (lv_sub hl [0] rfl)
      · have c16 : k < n := Nat.lt_of_not_le fun q9 => c16 ((nI_leI (a := n) (b := k) (by omega) (by omega)).mpr q9)
        refine lv_aload_n hx hb dX12_next_19 rfl (lv_at hl 0 rfl) ?_
        refine r_get E h 41 (v := .ref (a 29)) (eM_0 cy a τ) rfl fw_X12 (by decide) fl_X12_94 rfl dX12_next_20 ?_
        refine lv_aload_n hx hb dX12_next_23 rfl (lv_at hl 0 rfl) ?_
        refine r_get E h 43 (v := .int (nI k)) (eM_0 cy a τ) rfl fw_X12 (by decide) fl_X12_227 (congrArg (fun z => some (Value.int z)) hi8.2.2) dX12_next_24 ?_
        refine r_ialdN E h (f := τ.2.1 29) (eM_29 cy a τ) (j := k) (by omega) (by decide) (v := τ.2.1 29 k) rfl dX12_next_27 ?_
        refine lv_bipush (v := 32) hx hb dX12_next_28 (by decide) ?_
        refine lv_icmp_ne (tgt := 46) hx hb dX12_next_30 (by decide) (fun c30 => ?_) (fun c30 => ?_)
        · refine lv_aload_n hx hb dX12_next_46 rfl (lv_at hl 0 rfl) ?_
          refine lv_aload_n hx hb dX12_next_47 rfl (lv_at hl 0 rfl) ?_
          refine r_get E h 43 (v := .int (nI k)) (eM_0 cy a τ) rfl fw_X12 (by decide) fl_X12_227 (congrArg (fun z => some (Value.int z)) hi8.2.2) dX12_next_48 ?_
          refine r_put E h 44 (ty := .int) (eM_0 cy a τ) rfl fw_X12 tyX12_ok nmX12 (by decide) fl_X12_224 rfl (by decide +kernel) rfl rfl (Nat.le_of_ble_eq_true rfl) (sM_15 cy a τ (nI k)) dX12_next_51 (fun H locs h => ?_)
          refine lv_aload_n hx hb dX12_next_54 rfl (lv_at hl 0 rfl) ?_
          refine lv_lconst (v := 0) hx hb dX12_next_55 (by decide) ?_
          refine r_put E h 46 (ty := .long) (eM_0 cy a (fF τ 15 (nI k))) rfl fw_X12 tyX12_ok nmX12 (by decide) fl_X12_230 rfl (by decide +kernel) rfl rfl (Nat.le_of_ble_eq_true rfl) (sML_0 cy a (fF τ 15 (nI k)) 0) dX12_next_56 (fun H locs h => ?_)
          have jn114 : ∀ (v0 : Int32) (H : Heap) (locs : List Loc) (ls : Array Slot), (v0 = 3 → k < n) → HW D (AM a) s (wM cy a (fL (fF τ 15 (nI k)) 0 0)) H locs → lv_has ls 1 [(0, .ref (a 0))] → W p l e (rmOf 1 20) s m args below meth c H locs 0 0 (MQ below (va_Qv (fun τ => K kn kA σ τ ∧ TO n τ) (fun u t => va_P D vwCl (wM cy a u) t.heap) (AM a)) args s 0 0 (AM a)) (F0 m 114 ls [.int v0, .ref (a 0)]) := by
            intro v0 H locs ls hj114 h hl
            refine r_put E h 45 (ty := .int) (eM_0 cy a (fL (fF τ 15 (nI k)) 0 0)) rfl fw_X12 tyX12_ok nmX12 (by decide) fl_X12_240 rfl (by decide +kernel) rfl rfl (Nat.le_of_ble_eq_true rfl) (sM_16 cy a (fL (fF τ 15 (nI k)) 0 0) v0) dX12_next_114 (fun H locs h => ?_)
            refine lv_aload_n hx hb dX12_next_117 rfl (lv_at hl 0 rfl) ?_
            refine r_get E h 45 (v := .int v0) (eM_0 cy a (fF (fL (fF τ 15 (nI k)) 0 0) 16 v0)) rfl fw_X12 (by decide) fl_X12_240 rfl dX12_next_118 ?_
            refine lv_iconst (v := 3) hx hb dX12_next_121 (by decide) ?_
            refine lv_icmp_ne (tgt := 149) hx hb dX12_next_122 (by decide) (fun c122 => ?_) (fun c122 => ?_)
            · have lp149 : ∀ (f : Nat) (t : Nat) (υ : St) (H : Heap) (locs : List Loc) (ls : Array Slot), (t ≤ n ∧ K kn kA σ υ ∧ υ.1 15 = nI t) → (n - t) < f → HW D (AM a) s (wM cy a υ) H locs → lv_has ls 1 [(0, .ref (a 0))] → W p l e (rmOf 1 20) s m args below meth c H locs 0 0 (MQ below (va_Qv (fun τ => K kn kA σ τ ∧ TO n τ) (fun u t => va_P D vwCl (wM cy a u) t.heap) (AM a)) args s 0 0 (AM a)) (F0 m 149 ls []) := by
                intro f
                induction f with
                | zero => intro t υ H locs ls _ hf; exact absurd hf (Nat.not_lt_zero _)
                | succ f ih149 =>
                  intro t υ H locs ls hi149 hf149 h hl
                  refine lv_aload_n hx hb dX12_next_149 rfl (lv_at hl 0 rfl) ?_
                  refine r_get E h 45 (v := .int (υ.1 16)) (eM_0 cy a υ) rfl fw_X12 (by decide) fl_X12_240 rfl dX12_next_150 ?_
                  refine lv_iconst (v := 1) hx hb dX12_next_153 (by decide) ?_
                  refine lv_icmp_ne (tgt := 243) hx hb dX12_next_154 (by decide) (fun c154 => ?_) (fun c154 => ?_)
                  · have lp243 : ∀ (f : Nat) (t : Nat) (ω : St) (H : Heap) (locs : List Loc) (ls : Array Slot), (t ≤ n ∧ K kn kA σ ω ∧ ω.1 15 = nI t) → (n - t) < f → HW D (AM a) s (wM cy a ω) H locs → lv_has ls 1 [(0, .ref (a 0))] → W p l e (rmOf 1 20) s m args below meth c H locs 0 0 (MQ below (va_Qv (fun τ => K kn kA σ τ ∧ TO n τ) (fun u t => va_P D vwCl (wM cy a u) t.heap) (AM a)) args s 0 0 (AM a)) (F0 m 243 ls []) := by
                      intro f
                      induction f with
                      | zero => intro t ω H locs ls _ hf; exact absurd hf (Nat.not_lt_zero _)
                      | succ f ih243 =>
                        intro t ω H locs ls hi243 hf243 h hl
                        refine lv_aload_n hx hb dX12_next_243 rfl (lv_at hl 0 rfl) ?_
                        refine r_get E h 45 (v := .int (ω.1 16)) (eM_0 cy a ω) rfl fw_X12 (by decide) fl_X12_240 rfl dX12_next_244 ?_
                        refine lv_iconst (v := 2) hx hb dX12_next_247 (by decide) ?_
                        refine lv_icmp_ne (tgt := 335) hx hb dX12_next_248 (by decide) (fun c248 => ?_) (fun c248 => ?_)
                        · exact t_v E h hr hk ⟨hi243.2.1, t, hi243.1, hi243.2.2⟩ dX12_next_335
                        · refine lv_aload_n hx hb dX12_next_251 rfl (lv_at hl 0 rfl) ?_
                          refine r_get E h 44 (v := .int (nI t)) (eM_0 cy a ω) rfl fw_X12 (by decide) fl_X12_224 (congrArg (fun z => some (Value.int z)) hi243.2.2) dX12_next_252 ?_
                          refine lv_aload_n hx hb dX12_next_255 rfl (lv_at hl 0 rfl) ?_
                          refine r_get E h 42 (v := .int (nI n)) (eM_0 cy a ω) rfl fw_X12 (by decide) fl_X12_217 (congrArg (fun z => some (Value.int z)) ((hi243.2.1.1 13 (by decide)).trans hn)) dX12_next_256 ?_
                          refine lv_icmp_ge (tgt := 335) hx hb dX12_next_259 (by decide) (fun c259 => ?_) (fun c259 => ?_)
                          · exact t_v E h hr hk ⟨hi243.2.1, t, hi243.1, hi243.2.2⟩ dX12_next_335
                          · have c259 : t < n := Nat.lt_of_not_le fun q9 => c259 ((nI_leI (a := n) (b := t) (by omega) (by omega)).mpr q9)
                            refine lv_aload_n hx hb dX12_next_262 rfl (lv_at hl 0 rfl) ?_
                            refine r_get E h 41 (v := .ref (a 29)) (eM_0 cy a ω) rfl fw_X12 (by decide) fl_X12_94 rfl dX12_next_263 ?_
                            refine lv_aload_n hx hb dX12_next_266 rfl (lv_at hl 0 rfl) ?_
                            refine r_get E h 44 (v := .int (nI t)) (eM_0 cy a ω) rfl fw_X12 (by decide) fl_X12_224 (congrArg (fun z => some (Value.int z)) hi243.2.2) dX12_next_267 ?_
                            refine r_ialdN E h (f := ω.2.1 29) (eM_29 cy a ω) (j := t) (by omega) (by decide) (v := ω.2.1 29 t) rfl dX12_next_270 ?_
                            refine k_i h (q_runS (As := [.int (ω.2.1 29 t)]) (rest := []) E h (c_X12_isDigit l D cy a ω (ω.2.1 29 t)) co_X12_isDigit ml_X12_237 st_X12_isDigit in_X12 rfl ok_X12_isDigit rfl ⟨by decide, by decide⟩ hl.1 rfl (Nat.le_of_ble_eq_true rfl) dX12_next_271 ⟨Nat.zero_le _, Nat.zero_le _⟩) (wM_fst cy a) (fun r271 τ271 H locs p271 h => ?_)
                            rw [p271.1] at h
                            refine lv_if_eq (tgt := 335) hx hb dX12_next_274 (by decide) (fun c274 => ?_) (fun c274 => ?_)
                            · exact t_v E h hr hk ⟨hi243.2.1, t, hi243.1, hi243.2.2⟩ dX12_next_335
                            · refine lv_aload_n hx hb dX12_next_277 rfl (lv_at hl 0 rfl) ?_
                              refine lv_aload_n hx hb dX12_next_278 rfl (lv_at hl 0 rfl) ?_
                              refine r_get E h 46 (v := .long (ω.2.2 0)) (eM_0 cy a ω) rfl fw_X12 (by decide) fl_X12_230 rfl dX12_next_279 ?_
                              refine lv_ldc2 (v := 1000000) hx hb E.2.2.2.1 (E.2.2.2.2.1 _ kl_X12_249) dX12_next_282 ?_
                              refine W.lcmp hx hb dX12_next_285 ?_
                              refine lv_if_le (tgt := 296) hx hb dX12_next_286 (by decide) (fun c286 => ?_) (fun c286 => ?_)
                              · refine lv_aload_n hx hb dX12_next_296 rfl (lv_at hl 0 rfl) ?_
                                refine r_get E h 46 (v := .long (ω.2.2 0)) (eM_0 cy a ω) rfl fw_X12 (by decide) fl_X12_230 rfl dX12_next_297 ?_
                                refine lv_ldc2 (v := 10) hx hb E.2.2.2.1 (E.2.2.2.2.1 _ kl_X12_251) dX12_next_300 ?_
                                refine lv_lmul hx hb dX12_next_303 ?_
                                refine lv_aload_n hx hb dX12_next_304 rfl (lv_at hl 0 rfl) ?_
                                refine r_get E h 41 (v := .ref (a 29)) (eM_0 cy a ω) rfl fw_X12 (by decide) fl_X12_94 rfl dX12_next_305 ?_
                                refine lv_aload_n hx hb dX12_next_308 rfl (lv_at hl 0 rfl) ?_
                                refine r_get E h 44 (v := .int (nI t)) (eM_0 cy a ω) rfl fw_X12 (by decide) fl_X12_224 (congrArg (fun z => some (Value.int z)) hi243.2.2) dX12_next_309 ?_
                                refine r_ialdN E h (f := ω.2.1 29) (eM_29 cy a ω) (j := t) (by omega) (by decide) (v := ω.2.1 29 t) rfl dX12_next_312 ?_
                                refine lv_i2l hx hb dX12_next_313 rfl ?_
                                refine lv_ladd hx hb dX12_next_314 ?_
                                refine lv_ldc2 (v := 48) hx hb E.2.2.2.1 (E.2.2.2.2.1 _ kl_X12_253) dX12_next_315 ?_
                                refine lv_lsub hx hb dX12_next_318 ?_
                                refine r_put E h 46 (ty := .long) (eM_0 cy a ω) rfl fw_X12 tyX12_ok nmX12 (by decide) fl_X12_230 rfl (by decide +kernel) rfl rfl (Nat.le_of_ble_eq_true rfl) (sML_0 cy a ω ((((ω.2.2 0) * 10) + ((ω.2.1 29 t).toInt64)) - 48)) dX12_next_319 (fun H locs h => ?_)
                                refine lv_aload_n hx hb dX12_next_322 rfl (lv_at hl 0 rfl) ?_
                                refine lv_dup hx hb dX12_next_323 rfl ?_
                                refine r_get E h 44 (v := .int (nI t)) (eM_0 cy a (fL ω 0 ((((ω.2.2 0) * 10) + ((ω.2.1 29 t).toInt64)) - 48))) rfl fw_X12 (by decide) fl_X12_224 (congrArg (fun z => some (Value.int z)) hi243.2.2) dX12_next_324 ?_
                                refine lv_iconst (v := 1) hx hb dX12_next_327 (by decide) ?_
                                refine n_add (j := t) (k := 1) hx hb dX12_next_328 ?_
                                refine r_put E h 44 (ty := .int) (eM_0 cy a (fL ω 0 ((((ω.2.2 0) * 10) + ((ω.2.1 29 t).toInt64)) - 48))) rfl fw_X12 tyX12_ok nmX12 (by decide) fl_X12_224 rfl (by decide +kernel) rfl rfl (Nat.le_of_ble_eq_true rfl) (sM_15 cy a (fL ω 0 ((((ω.2.2 0) * 10) + ((ω.2.1 29 t).toInt64)) - 48)) (nI (t + 1))) dX12_next_329 (fun H locs h => ?_)
                                refine lv_goto (tgt := 243) hx hb dX12_next_332 (by decide) ?_
                                exact ih243 (t + 1) (fF (fL ω 0 ((((ω.2.2 0) * 10) + ((ω.2.1 29 t).toInt64)) - 48)) 15 (nI (t + 1))) _ _ _ ⟨by omega, ((hi243.2.1.L 0 _).F 15 _ (by decide)), rfl⟩ (by omega) h (lv_sub hl [0] rfl)
                              · refine lv_aload_n hx hb dX12_next_289 rfl (lv_at hl 0 rfl) ?_
                                refine r_get E h 46 (v := .long (ω.2.2 0)) (eM_0 cy a ω) rfl fw_X12 (by decide) fl_X12_230 rfl dX12_next_290 ?_
                                refine lv_goto (tgt := 319) hx hb dX12_next_293 (by decide) ?_
                                refine r_put E h 46 (ty := .long) (eM_0 cy a ω) rfl fw_X12 tyX12_ok nmX12 (by decide) fl_X12_230 rfl (by decide +kernel) rfl rfl (Nat.le_of_ble_eq_true rfl) (sML_0 cy a ω (ω.2.2 0)) dX12_next_319 (fun H locs h => ?_)
                                refine lv_aload_n hx hb dX12_next_322 rfl (lv_at hl 0 rfl) ?_
                                refine lv_dup hx hb dX12_next_323 rfl ?_
                                refine r_get E h 44 (v := .int (nI t)) (eM_0 cy a (fL ω 0 (ω.2.2 0))) rfl fw_X12 (by decide) fl_X12_224 (congrArg (fun z => some (Value.int z)) hi243.2.2) dX12_next_324 ?_
                                refine lv_iconst (v := 1) hx hb dX12_next_327 (by decide) ?_
                                refine n_add (j := t) (k := 1) hx hb dX12_next_328 ?_
                                refine r_put E h 44 (ty := .int) (eM_0 cy a (fL ω 0 (ω.2.2 0))) rfl fw_X12 tyX12_ok nmX12 (by decide) fl_X12_224 rfl (by decide +kernel) rfl rfl (Nat.le_of_ble_eq_true rfl) (sM_15 cy a (fL ω 0 (ω.2.2 0)) (nI (t + 1))) dX12_next_329 (fun H locs h => ?_)
                                refine lv_goto (tgt := 243) hx hb dX12_next_332 (by decide) ?_
                                exact ih243 (t + 1) (fF (fL ω 0 (ω.2.2 0)) 15 (nI (t + 1))) _ _ _ ⟨by omega, ((hi243.2.1.L 0 _).F 15 _ (by decide)), rfl⟩ (by omega) h (lv_sub hl [0] rfl)
                    exact lp243 _ t υ _ _ _ hi149 (Nat.lt_succ_self _) h (lv_sub hl [0] rfl)
                  · refine lv_aload_n hx hb dX12_next_157 rfl (lv_at hl 0 rfl) ?_
                    refine r_get E h 44 (v := .int (nI t)) (eM_0 cy a υ) rfl fw_X12 (by decide) fl_X12_224 (congrArg (fun z => some (Value.int z)) hi149.2.2) dX12_next_158 ?_
                    refine lv_aload_n hx hb dX12_next_161 rfl (lv_at hl 0 rfl) ?_
                    refine r_get E h 42 (v := .int (nI n)) (eM_0 cy a υ) rfl fw_X12 (by decide) fl_X12_217 (congrArg (fun z => some (Value.int z)) ((hi149.2.1.1 13 (by decide)).trans hn)) dX12_next_162 ?_
                    refine lv_icmp_ge (tgt := 243) hx hb dX12_next_165 (by decide) (fun c165 => ?_) (fun c165 => ?_)
                    · have lp243 : ∀ (f : Nat) (t : Nat) (ω : St) (H : Heap) (locs : List Loc) (ls : Array Slot), (t ≤ n ∧ K kn kA σ ω ∧ ω.1 15 = nI t) → (n - t) < f → HW D (AM a) s (wM cy a ω) H locs → lv_has ls 1 [(0, .ref (a 0))] → W p l e (rmOf 1 20) s m args below meth c H locs 0 0 (MQ below (va_Qv (fun τ => K kn kA σ τ ∧ TO n τ) (fun u t => va_P D vwCl (wM cy a u) t.heap) (AM a)) args s 0 0 (AM a)) (F0 m 243 ls []) := by
                        intro f
                        induction f with
                        | zero => intro t ω H locs ls _ hf; exact absurd hf (Nat.not_lt_zero _)
                        | succ f ih243 =>
                          intro t ω H locs ls hi243 hf243 h hl
                          refine lv_aload_n hx hb dX12_next_243 rfl (lv_at hl 0 rfl) ?_
                          refine r_get E h 45 (v := .int (ω.1 16)) (eM_0 cy a ω) rfl fw_X12 (by decide) fl_X12_240 rfl dX12_next_244 ?_
                          refine lv_iconst (v := 2) hx hb dX12_next_247 (by decide) ?_
                          refine lv_icmp_ne (tgt := 335) hx hb dX12_next_248 (by decide) (fun c248 => ?_) (fun c248 => ?_)
                          · exact t_v E h hr hk ⟨hi243.2.1, t, hi243.1, hi243.2.2⟩ dX12_next_335
                          · refine lv_aload_n hx hb dX12_next_251 rfl (lv_at hl 0 rfl) ?_
                            refine r_get E h 44 (v := .int (nI t)) (eM_0 cy a ω) rfl fw_X12 (by decide) fl_X12_224 (congrArg (fun z => some (Value.int z)) hi243.2.2) dX12_next_252 ?_
                            refine lv_aload_n hx hb dX12_next_255 rfl (lv_at hl 0 rfl) ?_
                            refine r_get E h 42 (v := .int (nI n)) (eM_0 cy a ω) rfl fw_X12 (by decide) fl_X12_217 (congrArg (fun z => some (Value.int z)) ((hi243.2.1.1 13 (by decide)).trans hn)) dX12_next_256 ?_
                            refine lv_icmp_ge (tgt := 335) hx hb dX12_next_259 (by decide) (fun c259 => ?_) (fun c259 => ?_)
                            · exact t_v E h hr hk ⟨hi243.2.1, t, hi243.1, hi243.2.2⟩ dX12_next_335
                            · have c259 : t < n := Nat.lt_of_not_le fun q9 => c259 ((nI_leI (a := n) (b := t) (by omega) (by omega)).mpr q9)
                              refine lv_aload_n hx hb dX12_next_262 rfl (lv_at hl 0 rfl) ?_
                              refine r_get E h 41 (v := .ref (a 29)) (eM_0 cy a ω) rfl fw_X12 (by decide) fl_X12_94 rfl dX12_next_263 ?_
                              refine lv_aload_n hx hb dX12_next_266 rfl (lv_at hl 0 rfl) ?_
                              refine r_get E h 44 (v := .int (nI t)) (eM_0 cy a ω) rfl fw_X12 (by decide) fl_X12_224 (congrArg (fun z => some (Value.int z)) hi243.2.2) dX12_next_267 ?_
                              refine r_ialdN E h (f := ω.2.1 29) (eM_29 cy a ω) (j := t) (by omega) (by decide) (v := ω.2.1 29 t) rfl dX12_next_270 ?_
                              refine k_i h (q_runS (As := [.int (ω.2.1 29 t)]) (rest := []) E h (c_X12_isDigit l D cy a ω (ω.2.1 29 t)) co_X12_isDigit ml_X12_237 st_X12_isDigit in_X12 rfl ok_X12_isDigit rfl ⟨by decide, by decide⟩ hl.1 rfl (Nat.le_of_ble_eq_true rfl) dX12_next_271 ⟨Nat.zero_le _, Nat.zero_le _⟩) (wM_fst cy a) (fun r271 τ271 H locs p271 h => ?_)
                              rw [p271.1] at h
                              refine lv_if_eq (tgt := 335) hx hb dX12_next_274 (by decide) (fun c274 => ?_) (fun c274 => ?_)
                              · exact t_v E h hr hk ⟨hi243.2.1, t, hi243.1, hi243.2.2⟩ dX12_next_335
                              · refine lv_aload_n hx hb dX12_next_277 rfl (lv_at hl 0 rfl) ?_
                                refine lv_aload_n hx hb dX12_next_278 rfl (lv_at hl 0 rfl) ?_
                                refine r_get E h 46 (v := .long (ω.2.2 0)) (eM_0 cy a ω) rfl fw_X12 (by decide) fl_X12_230 rfl dX12_next_279 ?_
                                refine lv_ldc2 (v := 1000000) hx hb E.2.2.2.1 (E.2.2.2.2.1 _ kl_X12_249) dX12_next_282 ?_
                                refine W.lcmp hx hb dX12_next_285 ?_
                                refine lv_if_le (tgt := 296) hx hb dX12_next_286 (by decide) (fun c286 => ?_) (fun c286 => ?_)
                                · refine lv_aload_n hx hb dX12_next_296 rfl (lv_at hl 0 rfl) ?_
                                  refine r_get E h 46 (v := .long (ω.2.2 0)) (eM_0 cy a ω) rfl fw_X12 (by decide) fl_X12_230 rfl dX12_next_297 ?_
                                  refine lv_ldc2 (v := 10) hx hb E.2.2.2.1 (E.2.2.2.2.1 _ kl_X12_251) dX12_next_300 ?_
                                  refine lv_lmul hx hb dX12_next_303 ?_
                                  refine lv_aload_n hx hb dX12_next_304 rfl (lv_at hl 0 rfl) ?_
                                  refine r_get E h 41 (v := .ref (a 29)) (eM_0 cy a ω) rfl fw_X12 (by decide) fl_X12_94 rfl dX12_next_305 ?_
                                  refine lv_aload_n hx hb dX12_next_308 rfl (lv_at hl 0 rfl) ?_
                                  refine r_get E h 44 (v := .int (nI t)) (eM_0 cy a ω) rfl fw_X12 (by decide) fl_X12_224 (congrArg (fun z => some (Value.int z)) hi243.2.2) dX12_next_309 ?_
                                  refine r_ialdN E h (f := ω.2.1 29) (eM_29 cy a ω) (j := t) (by omega) (by decide) (v := ω.2.1 29 t) rfl dX12_next_312 ?_
                                  refine lv_i2l hx hb dX12_next_313 rfl ?_
                                  refine lv_ladd hx hb dX12_next_314 ?_
                                  refine lv_ldc2 (v := 48) hx hb E.2.2.2.1 (E.2.2.2.2.1 _ kl_X12_253) dX12_next_315 ?_
                                  refine lv_lsub hx hb dX12_next_318 ?_
                                  refine r_put E h 46 (ty := .long) (eM_0 cy a ω) rfl fw_X12 tyX12_ok nmX12 (by decide) fl_X12_230 rfl (by decide +kernel) rfl rfl (Nat.le_of_ble_eq_true rfl) (sML_0 cy a ω ((((ω.2.2 0) * 10) + ((ω.2.1 29 t).toInt64)) - 48)) dX12_next_319 (fun H locs h => ?_)
                                  refine lv_aload_n hx hb dX12_next_322 rfl (lv_at hl 0 rfl) ?_
                                  refine lv_dup hx hb dX12_next_323 rfl ?_
                                  refine r_get E h 44 (v := .int (nI t)) (eM_0 cy a (fL ω 0 ((((ω.2.2 0) * 10) + ((ω.2.1 29 t).toInt64)) - 48))) rfl fw_X12 (by decide) fl_X12_224 (congrArg (fun z => some (Value.int z)) hi243.2.2) dX12_next_324 ?_
                                  refine lv_iconst (v := 1) hx hb dX12_next_327 (by decide) ?_
                                  refine n_add (j := t) (k := 1) hx hb dX12_next_328 ?_
                                  refine r_put E h 44 (ty := .int) (eM_0 cy a (fL ω 0 ((((ω.2.2 0) * 10) + ((ω.2.1 29 t).toInt64)) - 48))) rfl fw_X12 tyX12_ok nmX12 (by decide) fl_X12_224 rfl (by decide +kernel) rfl rfl (Nat.le_of_ble_eq_true rfl) (sM_15 cy a (fL ω 0 ((((ω.2.2 0) * 10) + ((ω.2.1 29 t).toInt64)) - 48)) (nI (t + 1))) dX12_next_329 (fun H locs h => ?_)
                                  refine lv_goto (tgt := 243) hx hb dX12_next_332 (by decide) ?_
                                  exact ih243 (t + 1) (fF (fL ω 0 ((((ω.2.2 0) * 10) + ((ω.2.1 29 t).toInt64)) - 48)) 15 (nI (t + 1))) _ _ _ ⟨by omega, ((hi243.2.1.L 0 _).F 15 _ (by decide)), rfl⟩ (by omega) h (lv_sub hl [0] rfl)
                                · refine lv_aload_n hx hb dX12_next_289 rfl (lv_at hl 0 rfl) ?_
                                  refine r_get E h 46 (v := .long (ω.2.2 0)) (eM_0 cy a ω) rfl fw_X12 (by decide) fl_X12_230 rfl dX12_next_290 ?_
                                  refine lv_goto (tgt := 319) hx hb dX12_next_293 (by decide) ?_
                                  refine r_put E h 46 (ty := .long) (eM_0 cy a ω) rfl fw_X12 tyX12_ok nmX12 (by decide) fl_X12_230 rfl (by decide +kernel) rfl rfl (Nat.le_of_ble_eq_true rfl) (sML_0 cy a ω (ω.2.2 0)) dX12_next_319 (fun H locs h => ?_)
                                  refine lv_aload_n hx hb dX12_next_322 rfl (lv_at hl 0 rfl) ?_
                                  refine lv_dup hx hb dX12_next_323 rfl ?_
                                  refine r_get E h 44 (v := .int (nI t)) (eM_0 cy a (fL ω 0 (ω.2.2 0))) rfl fw_X12 (by decide) fl_X12_224 (congrArg (fun z => some (Value.int z)) hi243.2.2) dX12_next_324 ?_
                                  refine lv_iconst (v := 1) hx hb dX12_next_327 (by decide) ?_
                                  refine n_add (j := t) (k := 1) hx hb dX12_next_328 ?_
                                  refine r_put E h 44 (ty := .int) (eM_0 cy a (fL ω 0 (ω.2.2 0))) rfl fw_X12 tyX12_ok nmX12 (by decide) fl_X12_224 rfl (by decide +kernel) rfl rfl (Nat.le_of_ble_eq_true rfl) (sM_15 cy a (fL ω 0 (ω.2.2 0)) (nI (t + 1))) dX12_next_329 (fun H locs h => ?_)
                                  refine lv_goto (tgt := 243) hx hb dX12_next_332 (by decide) ?_
                                  exact ih243 (t + 1) (fF (fL ω 0 (ω.2.2 0)) 15 (nI (t + 1))) _ _ _ ⟨by omega, ((hi243.2.1.L 0 _).F 15 _ (by decide)), rfl⟩ (by omega) h (lv_sub hl [0] rfl)
                      exact lp243 _ t υ _ _ _ hi149 (Nat.lt_succ_self _) h (lv_sub hl [0] rfl)
                    · have c165 : t < n := Nat.lt_of_not_le fun q9 => c165 ((nI_leI (a := n) (b := t) (by omega) (by omega)).mpr q9)
                      refine lv_aload_n hx hb dX12_next_168 rfl (lv_at hl 0 rfl) ?_
                      refine r_get E h 41 (v := .ref (a 29)) (eM_0 cy a υ) rfl fw_X12 (by decide) fl_X12_94 rfl dX12_next_169 ?_
                      refine lv_aload_n hx hb dX12_next_172 rfl (lv_at hl 0 rfl) ?_
                      refine r_get E h 44 (v := .int (nI t)) (eM_0 cy a υ) rfl fw_X12 (by decide) fl_X12_224 (congrArg (fun z => some (Value.int z)) hi149.2.2) dX12_next_173 ?_
                      refine r_ialdN E h (f := υ.2.1 29) (eM_29 cy a υ) (j := t) (by omega) (by decide) (v := υ.2.1 29 t) rfl dX12_next_176 ?_
                      refine k_i h (q_runS (As := [.int (υ.2.1 29 t)]) (rest := []) E h (c_X12_isSmall l D cy a υ (υ.2.1 29 t)) co_X12_isSmall ml_X12_234 st_X12_isSmall in_X12 rfl ok_X12_isSmall rfl ⟨by decide, by decide⟩ hl.1 rfl (Nat.le_of_ble_eq_true rfl) dX12_next_177 ⟨Nat.zero_le _, Nat.zero_le _⟩) (wM_fst cy a) (fun r177 τ177 H locs p177 h => ?_)
                      rw [p177.1] at h
                      refine lv_if_eq (tgt := 243) hx hb dX12_next_180 (by decide) (fun c180 => ?_) (fun c180 => ?_)
                      · have lp243 : ∀ (f : Nat) (t : Nat) (ω : St) (H : Heap) (locs : List Loc) (ls : Array Slot), (t ≤ n ∧ K kn kA σ ω ∧ ω.1 15 = nI t) → (n - t) < f → HW D (AM a) s (wM cy a ω) H locs → lv_has ls 1 [(0, .ref (a 0))] → W p l e (rmOf 1 20) s m args below meth c H locs 0 0 (MQ below (va_Qv (fun τ => K kn kA σ τ ∧ TO n τ) (fun u t => va_P D vwCl (wM cy a u) t.heap) (AM a)) args s 0 0 (AM a)) (F0 m 243 ls []) := by
                          intro f
                          induction f with
                          | zero => intro t ω H locs ls _ hf; exact absurd hf (Nat.not_lt_zero _)
                          | succ f ih243 =>
                            intro t ω H locs ls hi243 hf243 h hl
                            refine lv_aload_n hx hb dX12_next_243 rfl (lv_at hl 0 rfl) ?_
                            refine r_get E h 45 (v := .int (ω.1 16)) (eM_0 cy a ω) rfl fw_X12 (by decide) fl_X12_240 rfl dX12_next_244 ?_
                            refine lv_iconst (v := 2) hx hb dX12_next_247 (by decide) ?_
                            refine lv_icmp_ne (tgt := 335) hx hb dX12_next_248 (by decide) (fun c248 => ?_) (fun c248 => ?_)
                            · exact t_v E h hr hk ⟨hi243.2.1, t, hi243.1, hi243.2.2⟩ dX12_next_335
                            · refine lv_aload_n hx hb dX12_next_251 rfl (lv_at hl 0 rfl) ?_
                              refine r_get E h 44 (v := .int (nI t)) (eM_0 cy a ω) rfl fw_X12 (by decide) fl_X12_224 (congrArg (fun z => some (Value.int z)) hi243.2.2) dX12_next_252 ?_
                              refine lv_aload_n hx hb dX12_next_255 rfl (lv_at hl 0 rfl) ?_
                              refine r_get E h 42 (v := .int (nI n)) (eM_0 cy a ω) rfl fw_X12 (by decide) fl_X12_217 (congrArg (fun z => some (Value.int z)) ((hi243.2.1.1 13 (by decide)).trans hn)) dX12_next_256 ?_
                              refine lv_icmp_ge (tgt := 335) hx hb dX12_next_259 (by decide) (fun c259 => ?_) (fun c259 => ?_)
                              · exact t_v E h hr hk ⟨hi243.2.1, t, hi243.1, hi243.2.2⟩ dX12_next_335
                              · have c259 : t < n := Nat.lt_of_not_le fun q9 => c259 ((nI_leI (a := n) (b := t) (by omega) (by omega)).mpr q9)
                                refine lv_aload_n hx hb dX12_next_262 rfl (lv_at hl 0 rfl) ?_
                                refine r_get E h 41 (v := .ref (a 29)) (eM_0 cy a ω) rfl fw_X12 (by decide) fl_X12_94 rfl dX12_next_263 ?_
                                refine lv_aload_n hx hb dX12_next_266 rfl (lv_at hl 0 rfl) ?_
                                refine r_get E h 44 (v := .int (nI t)) (eM_0 cy a ω) rfl fw_X12 (by decide) fl_X12_224 (congrArg (fun z => some (Value.int z)) hi243.2.2) dX12_next_267 ?_
                                refine r_ialdN E h (f := ω.2.1 29) (eM_29 cy a ω) (j := t) (by omega) (by decide) (v := ω.2.1 29 t) rfl dX12_next_270 ?_
                                refine k_i h (q_runS (As := [.int (ω.2.1 29 t)]) (rest := []) E h (c_X12_isDigit l D cy a ω (ω.2.1 29 t)) co_X12_isDigit ml_X12_237 st_X12_isDigit in_X12 rfl ok_X12_isDigit rfl ⟨by decide, by decide⟩ hl.1 rfl (Nat.le_of_ble_eq_true rfl) dX12_next_271 ⟨Nat.zero_le _, Nat.zero_le _⟩) (wM_fst cy a) (fun r271 τ271 H locs p271 h => ?_)
                                rw [p271.1] at h
                                refine lv_if_eq (tgt := 335) hx hb dX12_next_274 (by decide) (fun c274 => ?_) (fun c274 => ?_)
                                · exact t_v E h hr hk ⟨hi243.2.1, t, hi243.1, hi243.2.2⟩ dX12_next_335
                                · refine lv_aload_n hx hb dX12_next_277 rfl (lv_at hl 0 rfl) ?_
                                  refine lv_aload_n hx hb dX12_next_278 rfl (lv_at hl 0 rfl) ?_
                                  refine r_get E h 46 (v := .long (ω.2.2 0)) (eM_0 cy a ω) rfl fw_X12 (by decide) fl_X12_230 rfl dX12_next_279 ?_
                                  refine lv_ldc2 (v := 1000000) hx hb E.2.2.2.1 (E.2.2.2.2.1 _ kl_X12_249) dX12_next_282 ?_
                                  refine W.lcmp hx hb dX12_next_285 ?_
                                  refine lv_if_le (tgt := 296) hx hb dX12_next_286 (by decide) (fun c286 => ?_) (fun c286 => ?_)
                                  · refine lv_aload_n hx hb dX12_next_296 rfl (lv_at hl 0 rfl) ?_
                                    refine r_get E h 46 (v := .long (ω.2.2 0)) (eM_0 cy a ω) rfl fw_X12 (by decide) fl_X12_230 rfl dX12_next_297 ?_
                                    refine lv_ldc2 (v := 10) hx hb E.2.2.2.1 (E.2.2.2.2.1 _ kl_X12_251) dX12_next_300 ?_
                                    refine lv_lmul hx hb dX12_next_303 ?_
                                    refine lv_aload_n hx hb dX12_next_304 rfl (lv_at hl 0 rfl) ?_
                                    refine r_get E h 41 (v := .ref (a 29)) (eM_0 cy a ω) rfl fw_X12 (by decide) fl_X12_94 rfl dX12_next_305 ?_
                                    refine lv_aload_n hx hb dX12_next_308 rfl (lv_at hl 0 rfl) ?_
                                    refine r_get E h 44 (v := .int (nI t)) (eM_0 cy a ω) rfl fw_X12 (by decide) fl_X12_224 (congrArg (fun z => some (Value.int z)) hi243.2.2) dX12_next_309 ?_
                                    refine r_ialdN E h (f := ω.2.1 29) (eM_29 cy a ω) (j := t) (by omega) (by decide) (v := ω.2.1 29 t) rfl dX12_next_312 ?_
                                    refine lv_i2l hx hb dX12_next_313 rfl ?_
                                    refine lv_ladd hx hb dX12_next_314 ?_
                                    refine lv_ldc2 (v := 48) hx hb E.2.2.2.1 (E.2.2.2.2.1 _ kl_X12_253) dX12_next_315 ?_
                                    refine lv_lsub hx hb dX12_next_318 ?_
                                    refine r_put E h 46 (ty := .long) (eM_0 cy a ω) rfl fw_X12 tyX12_ok nmX12 (by decide) fl_X12_230 rfl (by decide +kernel) rfl rfl (Nat.le_of_ble_eq_true rfl) (sML_0 cy a ω ((((ω.2.2 0) * 10) + ((ω.2.1 29 t).toInt64)) - 48)) dX12_next_319 (fun H locs h => ?_)
                                    refine lv_aload_n hx hb dX12_next_322 rfl (lv_at hl 0 rfl) ?_
                                    refine lv_dup hx hb dX12_next_323 rfl ?_
                                    refine r_get E h 44 (v := .int (nI t)) (eM_0 cy a (fL ω 0 ((((ω.2.2 0) * 10) + ((ω.2.1 29 t).toInt64)) - 48))) rfl fw_X12 (by decide) fl_X12_224 (congrArg (fun z => some (Value.int z)) hi243.2.2) dX12_next_324 ?_
                                    refine lv_iconst (v := 1) hx hb dX12_next_327 (by decide) ?_
                                    refine n_add (j := t) (k := 1) hx hb dX12_next_328 ?_
                                    refine r_put E h 44 (ty := .int) (eM_0 cy a (fL ω 0 ((((ω.2.2 0) * 10) + ((ω.2.1 29 t).toInt64)) - 48))) rfl fw_X12 tyX12_ok nmX12 (by decide) fl_X12_224 rfl (by decide +kernel) rfl rfl (Nat.le_of_ble_eq_true rfl) (sM_15 cy a (fL ω 0 ((((ω.2.2 0) * 10) + ((ω.2.1 29 t).toInt64)) - 48)) (nI (t + 1))) dX12_next_329 (fun H locs h => ?_)
                                    refine lv_goto (tgt := 243) hx hb dX12_next_332 (by decide) ?_
                                    exact ih243 (t + 1) (fF (fL ω 0 ((((ω.2.2 0) * 10) + ((ω.2.1 29 t).toInt64)) - 48)) 15 (nI (t + 1))) _ _ _ ⟨by omega, ((hi243.2.1.L 0 _).F 15 _ (by decide)), rfl⟩ (by omega) h (lv_sub hl [0] rfl)
                                  · refine lv_aload_n hx hb dX12_next_289 rfl (lv_at hl 0 rfl) ?_
                                    refine r_get E h 46 (v := .long (ω.2.2 0)) (eM_0 cy a ω) rfl fw_X12 (by decide) fl_X12_230 rfl dX12_next_290 ?_
                                    refine lv_goto (tgt := 319) hx hb dX12_next_293 (by decide) ?_
                                    refine r_put E h 46 (ty := .long) (eM_0 cy a ω) rfl fw_X12 tyX12_ok nmX12 (by decide) fl_X12_230 rfl (by decide +kernel) rfl rfl (Nat.le_of_ble_eq_true rfl) (sML_0 cy a ω (ω.2.2 0)) dX12_next_319 (fun H locs h => ?_)
                                    refine lv_aload_n hx hb dX12_next_322 rfl (lv_at hl 0 rfl) ?_
                                    refine lv_dup hx hb dX12_next_323 rfl ?_
                                    refine r_get E h 44 (v := .int (nI t)) (eM_0 cy a (fL ω 0 (ω.2.2 0))) rfl fw_X12 (by decide) fl_X12_224 (congrArg (fun z => some (Value.int z)) hi243.2.2) dX12_next_324 ?_
                                    refine lv_iconst (v := 1) hx hb dX12_next_327 (by decide) ?_
                                    refine n_add (j := t) (k := 1) hx hb dX12_next_328 ?_
                                    refine r_put E h 44 (ty := .int) (eM_0 cy a (fL ω 0 (ω.2.2 0))) rfl fw_X12 tyX12_ok nmX12 (by decide) fl_X12_224 rfl (by decide +kernel) rfl rfl (Nat.le_of_ble_eq_true rfl) (sM_15 cy a (fL ω 0 (ω.2.2 0)) (nI (t + 1))) dX12_next_329 (fun H locs h => ?_)
                                    refine lv_goto (tgt := 243) hx hb dX12_next_332 (by decide) ?_
                                    exact ih243 (t + 1) (fF (fL ω 0 (ω.2.2 0)) 15 (nI (t + 1))) _ _ _ ⟨by omega, ((hi243.2.1.L 0 _).F 15 _ (by decide)), rfl⟩ (by omega) h (lv_sub hl [0] rfl)
                        exact lp243 _ t υ _ _ _ hi149 (Nat.lt_succ_self _) h (lv_sub hl [0] rfl)
                      · refine lv_aload_n hx hb dX12_next_183 rfl (lv_at hl 0 rfl) ?_
                        refine lv_aload_n hx hb dX12_next_184 rfl (lv_at hl 0 rfl) ?_
                        refine r_get E h 44 (v := .int (nI t)) (eM_0 cy a υ) rfl fw_X12 (by decide) fl_X12_224 (congrArg (fun z => some (Value.int z)) hi149.2.2) dX12_next_185 ?_
                        refine lv_aload_n hx hb dX12_next_188 rfl (lv_at hl 0 rfl) ?_
                        refine r_get E h 43 (v := .int (υ.1 14)) (eM_0 cy a υ) rfl fw_X12 (by decide) fl_X12_227 rfl dX12_next_189 ?_
                        refine lv_isub hx hb dX12_next_192 ?_
                        refine lv_bipush (v := 9) hx hb dX12_next_193 (by decide) ?_
                        refine lv_icmp_ge (tgt := 224) hx hb dX12_next_195 (by decide) (fun c195 => ?_) (fun c195 => ?_)
                        · refine lv_ldc2 (v := -1) hx hb E.2.2.2.1 (E.2.2.2.2.1 _ kl_X12_247) dX12_next_224 ?_
                          refine r_put E h 46 (ty := .long) (eM_0 cy a υ) rfl fw_X12 tyX12_ok nmX12 (by decide) fl_X12_230 rfl (by decide +kernel) rfl rfl (Nat.le_of_ble_eq_true rfl) (sML_0 cy a υ (-1)) dX12_next_227 (fun H locs h => ?_)
                          refine lv_aload_n hx hb dX12_next_230 rfl (lv_at hl 0 rfl) ?_
                          refine lv_dup hx hb dX12_next_231 rfl ?_
                          refine r_get E h 44 (v := .int (nI t)) (eM_0 cy a (fL υ 0 (-1))) rfl fw_X12 (by decide) fl_X12_224 (congrArg (fun z => some (Value.int z)) hi149.2.2) dX12_next_232 ?_
                          refine lv_iconst (v := 1) hx hb dX12_next_235 (by decide) ?_
                          refine n_add (j := t) (k := 1) hx hb dX12_next_236 ?_
                          refine r_put E h 44 (ty := .int) (eM_0 cy a (fL υ 0 (-1))) rfl fw_X12 tyX12_ok nmX12 (by decide) fl_X12_224 rfl (by decide +kernel) rfl rfl (Nat.le_of_ble_eq_true rfl) (sM_15 cy a (fL υ 0 (-1)) (nI (t + 1))) dX12_next_237 (fun H locs h => ?_)
                          refine lv_goto (tgt := 149) hx hb dX12_next_240 (by decide) ?_
                          exact ih149 (t + 1) (fF (fL υ 0 (-1)) 15 (nI (t + 1))) _ _ _ ⟨by omega, ((hi149.2.1.L 0 _).F 15 _ (by decide)), rfl⟩ (by omega) h (lv_sub hl [0] rfl)
                        · refine lv_aload_n hx hb dX12_next_198 rfl (lv_at hl 0 rfl) ?_
                          refine r_get E h 46 (v := .long (υ.2.2 0)) (eM_0 cy a υ) rfl fw_X12 (by decide) fl_X12_230 rfl dX12_next_199 ?_
                          refine lv_ldc2 (v := 32) hx hb E.2.2.2.1 (E.2.2.2.2.1 _ kl_X12_243) dX12_next_202 ?_
                          refine lv_lmul hx hb dX12_next_205 ?_
                          refine lv_aload_n hx hb dX12_next_206 rfl (lv_at hl 0 rfl) ?_
                          refine r_get E h 41 (v := .ref (a 29)) (eM_0 cy a υ) rfl fw_X12 (by decide) fl_X12_94 rfl dX12_next_207 ?_
                          refine lv_aload_n hx hb dX12_next_210 rfl (lv_at hl 0 rfl) ?_
                          refine r_get E h 44 (v := .int (nI t)) (eM_0 cy a υ) rfl fw_X12 (by decide) fl_X12_224 (congrArg (fun z => some (Value.int z)) hi149.2.2) dX12_next_211 ?_
                          refine r_ialdN E h (f := υ.2.1 29) (eM_29 cy a υ) (j := t) (by omega) (by decide) (v := υ.2.1 29 t) rfl dX12_next_214 ?_
                          refine lv_i2l hx hb dX12_next_215 rfl ?_
                          refine lv_ladd hx hb dX12_next_216 ?_
                          refine lv_ldc2 (v := 96) hx hb E.2.2.2.1 (E.2.2.2.2.1 _ kl_X12_245) dX12_next_217 ?_
                          refine lv_lsub hx hb dX12_next_220 ?_
                          refine lv_goto (tgt := 227) hx hb dX12_next_221 (by decide) ?_
                          refine r_put E h 46 (ty := .long) (eM_0 cy a υ) rfl fw_X12 tyX12_ok nmX12 (by decide) fl_X12_230 rfl (by decide +kernel) rfl rfl (Nat.le_of_ble_eq_true rfl) (sML_0 cy a υ ((((υ.2.2 0) * 32) + ((υ.2.1 29 t).toInt64)) - 96)) dX12_next_227 (fun H locs h => ?_)
                          refine lv_aload_n hx hb dX12_next_230 rfl (lv_at hl 0 rfl) ?_
                          refine lv_dup hx hb dX12_next_231 rfl ?_
                          refine r_get E h 44 (v := .int (nI t)) (eM_0 cy a (fL υ 0 ((((υ.2.2 0) * 32) + ((υ.2.1 29 t).toInt64)) - 96))) rfl fw_X12 (by decide) fl_X12_224 (congrArg (fun z => some (Value.int z)) hi149.2.2) dX12_next_232 ?_
                          refine lv_iconst (v := 1) hx hb dX12_next_235 (by decide) ?_
                          refine n_add (j := t) (k := 1) hx hb dX12_next_236 ?_
                          refine r_put E h 44 (ty := .int) (eM_0 cy a (fL υ 0 ((((υ.2.2 0) * 32) + ((υ.2.1 29 t).toInt64)) - 96))) rfl fw_X12 tyX12_ok nmX12 (by decide) fl_X12_224 rfl (by decide +kernel) rfl rfl (Nat.le_of_ble_eq_true rfl) (sM_15 cy a (fL υ 0 ((((υ.2.2 0) * 32) + ((υ.2.1 29 t).toInt64)) - 96)) (nI (t + 1))) dX12_next_237 (fun H locs h => ?_)
                          refine lv_goto (tgt := 149) hx hb dX12_next_240 (by decide) ?_
                          exact ih149 (t + 1) (fF (fL υ 0 ((((υ.2.2 0) * 32) + ((υ.2.1 29 t).toInt64)) - 96)) 15 (nI (t + 1))) _ _ _ ⟨by omega, ((hi149.2.1.L 0 _).F 15 _ (by decide)), rfl⟩ (by omega) h (lv_sub hl [0] rfl)
              exact lp149 _ k (fF (fL (fF τ 15 (nI k)) 0 0) 16 v0) _ _ _ ⟨hi8.1, (((hi8.2.1.F 15 _ (by decide)).L 0 _).F 16 _ (by decide)), rfl⟩ (Nat.lt_succ_self _) h (lv_sub hl [0] rfl)
            · refine lv_aload_n hx hb dX12_next_125 rfl (lv_at hl 0 rfl) ?_
              refine lv_aload_n hx hb dX12_next_126 rfl (lv_at hl 0 rfl) ?_
              refine r_get E h 41 (v := .ref (a 29)) (eM_0 cy a (fF (fL (fF τ 15 (nI k)) 0 0) 16 v0)) rfl fw_X12 (by decide) fl_X12_94 rfl dX12_next_127 ?_
              refine lv_aload_n hx hb dX12_next_130 rfl (lv_at hl 0 rfl) ?_
              refine r_get E h 43 (v := .int (nI k)) (eM_0 cy a (fF (fL (fF τ 15 (nI k)) 0 0) 16 v0)) rfl fw_X12 (by decide) fl_X12_227 (congrArg (fun z => some (Value.int z)) hi8.2.2) dX12_next_131 ?_
              refine r_ialdN E h (f := τ.2.1 29) (eM_29 cy a (fF (fL (fF τ 15 (nI k)) 0 0) 16 v0)) (j := k) (by have := hj114 c122; omega) (by decide) (v := τ.2.1 29 k) rfl dX12_next_134 ?_
              refine lv_i2l hx hb dX12_next_135 rfl ?_
              refine r_put E h 46 (ty := .long) (eM_0 cy a (fF (fL (fF τ 15 (nI k)) 0 0) 16 v0)) rfl fw_X12 tyX12_ok nmX12 (by decide) fl_X12_230 rfl (by decide +kernel) rfl rfl (Nat.le_of_ble_eq_true rfl) (sML_0 cy a (fF (fL (fF τ 15 (nI k)) 0 0) 16 v0) ((τ.2.1 29 k).toInt64)) dX12_next_136 (fun H locs h => ?_)
              refine lv_aload_n hx hb dX12_next_139 rfl (lv_at hl 0 rfl) ?_
              refine lv_dup hx hb dX12_next_140 rfl ?_
              refine r_get E h 44 (v := .int (nI k)) (eM_0 cy a (fL (fF (fL (fF τ 15 (nI k)) 0 0) 16 v0) 0 ((τ.2.1 29 k).toInt64))) rfl fw_X12 (by decide) fl_X12_224 rfl dX12_next_141 ?_
              refine lv_iconst (v := 1) hx hb dX12_next_144 (by decide) ?_
              refine n_add (j := k) (k := 1) hx hb dX12_next_145 ?_
              refine r_put E h 44 (ty := .int) (eM_0 cy a (fL (fF (fL (fF τ 15 (nI k)) 0 0) 16 v0) 0 ((τ.2.1 29 k).toInt64))) rfl fw_X12 tyX12_ok nmX12 (by decide) fl_X12_224 rfl (by decide +kernel) rfl rfl (Nat.le_of_ble_eq_true rfl) (sM_15 cy a (fL (fF (fL (fF τ 15 (nI k)) 0 0) 16 v0) 0 ((τ.2.1 29 k).toInt64)) (nI (k + 1))) dX12_next_146 (fun H locs h => ?_)
              have lp149 : ∀ (f : Nat) (t : Nat) (υ : St) (H : Heap) (locs : List Loc) (ls : Array Slot), (t ≤ n ∧ K kn kA σ υ ∧ υ.1 15 = nI t) → (n - t) < f → HW D (AM a) s (wM cy a υ) H locs → lv_has ls 1 [(0, .ref (a 0))] → W p l e (rmOf 1 20) s m args below meth c H locs 0 0 (MQ below (va_Qv (fun τ => K kn kA σ τ ∧ TO n τ) (fun u t => va_P D vwCl (wM cy a u) t.heap) (AM a)) args s 0 0 (AM a)) (F0 m 149 ls []) := by
                intro f
                induction f with
                | zero => intro t υ H locs ls _ hf; exact absurd hf (Nat.not_lt_zero _)
                | succ f ih149 =>
                  intro t υ H locs ls hi149 hf149 h hl
                  refine lv_aload_n hx hb dX12_next_149 rfl (lv_at hl 0 rfl) ?_
                  refine r_get E h 45 (v := .int (υ.1 16)) (eM_0 cy a υ) rfl fw_X12 (by decide) fl_X12_240 rfl dX12_next_150 ?_
                  refine lv_iconst (v := 1) hx hb dX12_next_153 (by decide) ?_
                  refine lv_icmp_ne (tgt := 243) hx hb dX12_next_154 (by decide) (fun c154 => ?_) (fun c154 => ?_)
                  · have lp243 : ∀ (f : Nat) (t : Nat) (ω : St) (H : Heap) (locs : List Loc) (ls : Array Slot), (t ≤ n ∧ K kn kA σ ω ∧ ω.1 15 = nI t) → (n - t) < f → HW D (AM a) s (wM cy a ω) H locs → lv_has ls 1 [(0, .ref (a 0))] → W p l e (rmOf 1 20) s m args below meth c H locs 0 0 (MQ below (va_Qv (fun τ => K kn kA σ τ ∧ TO n τ) (fun u t => va_P D vwCl (wM cy a u) t.heap) (AM a)) args s 0 0 (AM a)) (F0 m 243 ls []) := by
                      intro f
                      induction f with
                      | zero => intro t ω H locs ls _ hf; exact absurd hf (Nat.not_lt_zero _)
                      | succ f ih243 =>
                        intro t ω H locs ls hi243 hf243 h hl
                        refine lv_aload_n hx hb dX12_next_243 rfl (lv_at hl 0 rfl) ?_
                        refine r_get E h 45 (v := .int (ω.1 16)) (eM_0 cy a ω) rfl fw_X12 (by decide) fl_X12_240 rfl dX12_next_244 ?_
                        refine lv_iconst (v := 2) hx hb dX12_next_247 (by decide) ?_
                        refine lv_icmp_ne (tgt := 335) hx hb dX12_next_248 (by decide) (fun c248 => ?_) (fun c248 => ?_)
                        · exact t_v E h hr hk ⟨hi243.2.1, t, hi243.1, hi243.2.2⟩ dX12_next_335
                        · refine lv_aload_n hx hb dX12_next_251 rfl (lv_at hl 0 rfl) ?_
                          refine r_get E h 44 (v := .int (nI t)) (eM_0 cy a ω) rfl fw_X12 (by decide) fl_X12_224 (congrArg (fun z => some (Value.int z)) hi243.2.2) dX12_next_252 ?_
                          refine lv_aload_n hx hb dX12_next_255 rfl (lv_at hl 0 rfl) ?_
                          refine r_get E h 42 (v := .int (nI n)) (eM_0 cy a ω) rfl fw_X12 (by decide) fl_X12_217 (congrArg (fun z => some (Value.int z)) ((hi243.2.1.1 13 (by decide)).trans hn)) dX12_next_256 ?_
                          refine lv_icmp_ge (tgt := 335) hx hb dX12_next_259 (by decide) (fun c259 => ?_) (fun c259 => ?_)
                          · exact t_v E h hr hk ⟨hi243.2.1, t, hi243.1, hi243.2.2⟩ dX12_next_335
                          · have c259 : t < n := Nat.lt_of_not_le fun q9 => c259 ((nI_leI (a := n) (b := t) (by omega) (by omega)).mpr q9)
                            refine lv_aload_n hx hb dX12_next_262 rfl (lv_at hl 0 rfl) ?_
                            refine r_get E h 41 (v := .ref (a 29)) (eM_0 cy a ω) rfl fw_X12 (by decide) fl_X12_94 rfl dX12_next_263 ?_
                            refine lv_aload_n hx hb dX12_next_266 rfl (lv_at hl 0 rfl) ?_
                            refine r_get E h 44 (v := .int (nI t)) (eM_0 cy a ω) rfl fw_X12 (by decide) fl_X12_224 (congrArg (fun z => some (Value.int z)) hi243.2.2) dX12_next_267 ?_
                            refine r_ialdN E h (f := ω.2.1 29) (eM_29 cy a ω) (j := t) (by omega) (by decide) (v := ω.2.1 29 t) rfl dX12_next_270 ?_
                            refine k_i h (q_runS (As := [.int (ω.2.1 29 t)]) (rest := []) E h (c_X12_isDigit l D cy a ω (ω.2.1 29 t)) co_X12_isDigit ml_X12_237 st_X12_isDigit in_X12 rfl ok_X12_isDigit rfl ⟨by decide, by decide⟩ hl.1 rfl (Nat.le_of_ble_eq_true rfl) dX12_next_271 ⟨Nat.zero_le _, Nat.zero_le _⟩) (wM_fst cy a) (fun r271 τ271 H locs p271 h => ?_)
                            rw [p271.1] at h
                            refine lv_if_eq (tgt := 335) hx hb dX12_next_274 (by decide) (fun c274 => ?_) (fun c274 => ?_)
                            · exact t_v E h hr hk ⟨hi243.2.1, t, hi243.1, hi243.2.2⟩ dX12_next_335
                            · refine lv_aload_n hx hb dX12_next_277 rfl (lv_at hl 0 rfl) ?_
                              refine lv_aload_n hx hb dX12_next_278 rfl (lv_at hl 0 rfl) ?_
                              refine r_get E h 46 (v := .long (ω.2.2 0)) (eM_0 cy a ω) rfl fw_X12 (by decide) fl_X12_230 rfl dX12_next_279 ?_
                              refine lv_ldc2 (v := 1000000) hx hb E.2.2.2.1 (E.2.2.2.2.1 _ kl_X12_249) dX12_next_282 ?_
                              refine W.lcmp hx hb dX12_next_285 ?_
                              refine lv_if_le (tgt := 296) hx hb dX12_next_286 (by decide) (fun c286 => ?_) (fun c286 => ?_)
                              · refine lv_aload_n hx hb dX12_next_296 rfl (lv_at hl 0 rfl) ?_
                                refine r_get E h 46 (v := .long (ω.2.2 0)) (eM_0 cy a ω) rfl fw_X12 (by decide) fl_X12_230 rfl dX12_next_297 ?_
                                refine lv_ldc2 (v := 10) hx hb E.2.2.2.1 (E.2.2.2.2.1 _ kl_X12_251) dX12_next_300 ?_
                                refine lv_lmul hx hb dX12_next_303 ?_
                                refine lv_aload_n hx hb dX12_next_304 rfl (lv_at hl 0 rfl) ?_
                                refine r_get E h 41 (v := .ref (a 29)) (eM_0 cy a ω) rfl fw_X12 (by decide) fl_X12_94 rfl dX12_next_305 ?_
                                refine lv_aload_n hx hb dX12_next_308 rfl (lv_at hl 0 rfl) ?_
                                refine r_get E h 44 (v := .int (nI t)) (eM_0 cy a ω) rfl fw_X12 (by decide) fl_X12_224 (congrArg (fun z => some (Value.int z)) hi243.2.2) dX12_next_309 ?_
                                refine r_ialdN E h (f := ω.2.1 29) (eM_29 cy a ω) (j := t) (by omega) (by decide) (v := ω.2.1 29 t) rfl dX12_next_312 ?_
                                refine lv_i2l hx hb dX12_next_313 rfl ?_
                                refine lv_ladd hx hb dX12_next_314 ?_
                                refine lv_ldc2 (v := 48) hx hb E.2.2.2.1 (E.2.2.2.2.1 _ kl_X12_253) dX12_next_315 ?_
                                refine lv_lsub hx hb dX12_next_318 ?_
                                refine r_put E h 46 (ty := .long) (eM_0 cy a ω) rfl fw_X12 tyX12_ok nmX12 (by decide) fl_X12_230 rfl (by decide +kernel) rfl rfl (Nat.le_of_ble_eq_true rfl) (sML_0 cy a ω ((((ω.2.2 0) * 10) + ((ω.2.1 29 t).toInt64)) - 48)) dX12_next_319 (fun H locs h => ?_)
                                refine lv_aload_n hx hb dX12_next_322 rfl (lv_at hl 0 rfl) ?_
                                refine lv_dup hx hb dX12_next_323 rfl ?_
                                refine r_get E h 44 (v := .int (nI t)) (eM_0 cy a (fL ω 0 ((((ω.2.2 0) * 10) + ((ω.2.1 29 t).toInt64)) - 48))) rfl fw_X12 (by decide) fl_X12_224 (congrArg (fun z => some (Value.int z)) hi243.2.2) dX12_next_324 ?_
                                refine lv_iconst (v := 1) hx hb dX12_next_327 (by decide) ?_
                                refine n_add (j := t) (k := 1) hx hb dX12_next_328 ?_
                                refine r_put E h 44 (ty := .int) (eM_0 cy a (fL ω 0 ((((ω.2.2 0) * 10) + ((ω.2.1 29 t).toInt64)) - 48))) rfl fw_X12 tyX12_ok nmX12 (by decide) fl_X12_224 rfl (by decide +kernel) rfl rfl (Nat.le_of_ble_eq_true rfl) (sM_15 cy a (fL ω 0 ((((ω.2.2 0) * 10) + ((ω.2.1 29 t).toInt64)) - 48)) (nI (t + 1))) dX12_next_329 (fun H locs h => ?_)
                                refine lv_goto (tgt := 243) hx hb dX12_next_332 (by decide) ?_
                                exact ih243 (t + 1) (fF (fL ω 0 ((((ω.2.2 0) * 10) + ((ω.2.1 29 t).toInt64)) - 48)) 15 (nI (t + 1))) _ _ _ ⟨by omega, ((hi243.2.1.L 0 _).F 15 _ (by decide)), rfl⟩ (by omega) h (lv_sub hl [0] rfl)
                              · refine lv_aload_n hx hb dX12_next_289 rfl (lv_at hl 0 rfl) ?_
                                refine r_get E h 46 (v := .long (ω.2.2 0)) (eM_0 cy a ω) rfl fw_X12 (by decide) fl_X12_230 rfl dX12_next_290 ?_
                                refine lv_goto (tgt := 319) hx hb dX12_next_293 (by decide) ?_
                                refine r_put E h 46 (ty := .long) (eM_0 cy a ω) rfl fw_X12 tyX12_ok nmX12 (by decide) fl_X12_230 rfl (by decide +kernel) rfl rfl (Nat.le_of_ble_eq_true rfl) (sML_0 cy a ω (ω.2.2 0)) dX12_next_319 (fun H locs h => ?_)
                                refine lv_aload_n hx hb dX12_next_322 rfl (lv_at hl 0 rfl) ?_
                                refine lv_dup hx hb dX12_next_323 rfl ?_
                                refine r_get E h 44 (v := .int (nI t)) (eM_0 cy a (fL ω 0 (ω.2.2 0))) rfl fw_X12 (by decide) fl_X12_224 (congrArg (fun z => some (Value.int z)) hi243.2.2) dX12_next_324 ?_
                                refine lv_iconst (v := 1) hx hb dX12_next_327 (by decide) ?_
                                refine n_add (j := t) (k := 1) hx hb dX12_next_328 ?_
                                refine r_put E h 44 (ty := .int) (eM_0 cy a (fL ω 0 (ω.2.2 0))) rfl fw_X12 tyX12_ok nmX12 (by decide) fl_X12_224 rfl (by decide +kernel) rfl rfl (Nat.le_of_ble_eq_true rfl) (sM_15 cy a (fL ω 0 (ω.2.2 0)) (nI (t + 1))) dX12_next_329 (fun H locs h => ?_)
                                refine lv_goto (tgt := 243) hx hb dX12_next_332 (by decide) ?_
                                exact ih243 (t + 1) (fF (fL ω 0 (ω.2.2 0)) 15 (nI (t + 1))) _ _ _ ⟨by omega, ((hi243.2.1.L 0 _).F 15 _ (by decide)), rfl⟩ (by omega) h (lv_sub hl [0] rfl)
                    exact lp243 _ t υ _ _ _ hi149 (Nat.lt_succ_self _) h (lv_sub hl [0] rfl)
                  · refine lv_aload_n hx hb dX12_next_157 rfl (lv_at hl 0 rfl) ?_
                    refine r_get E h 44 (v := .int (nI t)) (eM_0 cy a υ) rfl fw_X12 (by decide) fl_X12_224 (congrArg (fun z => some (Value.int z)) hi149.2.2) dX12_next_158 ?_
                    refine lv_aload_n hx hb dX12_next_161 rfl (lv_at hl 0 rfl) ?_
                    refine r_get E h 42 (v := .int (nI n)) (eM_0 cy a υ) rfl fw_X12 (by decide) fl_X12_217 (congrArg (fun z => some (Value.int z)) ((hi149.2.1.1 13 (by decide)).trans hn)) dX12_next_162 ?_
                    refine lv_icmp_ge (tgt := 243) hx hb dX12_next_165 (by decide) (fun c165 => ?_) (fun c165 => ?_)
                    · have lp243 : ∀ (f : Nat) (t : Nat) (ω : St) (H : Heap) (locs : List Loc) (ls : Array Slot), (t ≤ n ∧ K kn kA σ ω ∧ ω.1 15 = nI t) → (n - t) < f → HW D (AM a) s (wM cy a ω) H locs → lv_has ls 1 [(0, .ref (a 0))] → W p l e (rmOf 1 20) s m args below meth c H locs 0 0 (MQ below (va_Qv (fun τ => K kn kA σ τ ∧ TO n τ) (fun u t => va_P D vwCl (wM cy a u) t.heap) (AM a)) args s 0 0 (AM a)) (F0 m 243 ls []) := by
                        intro f
                        induction f with
                        | zero => intro t ω H locs ls _ hf; exact absurd hf (Nat.not_lt_zero _)
                        | succ f ih243 =>
                          intro t ω H locs ls hi243 hf243 h hl
                          refine lv_aload_n hx hb dX12_next_243 rfl (lv_at hl 0 rfl) ?_
                          refine r_get E h 45 (v := .int (ω.1 16)) (eM_0 cy a ω) rfl fw_X12 (by decide) fl_X12_240 rfl dX12_next_244 ?_
                          refine lv_iconst (v := 2) hx hb dX12_next_247 (by decide) ?_
                          refine lv_icmp_ne (tgt := 335) hx hb dX12_next_248 (by decide) (fun c248 => ?_) (fun c248 => ?_)
                          · exact t_v E h hr hk ⟨hi243.2.1, t, hi243.1, hi243.2.2⟩ dX12_next_335
                          · refine lv_aload_n hx hb dX12_next_251 rfl (lv_at hl 0 rfl) ?_
                            refine r_get E h 44 (v := .int (nI t)) (eM_0 cy a ω) rfl fw_X12 (by decide) fl_X12_224 (congrArg (fun z => some (Value.int z)) hi243.2.2) dX12_next_252 ?_
                            refine lv_aload_n hx hb dX12_next_255 rfl (lv_at hl 0 rfl) ?_
                            refine r_get E h 42 (v := .int (nI n)) (eM_0 cy a ω) rfl fw_X12 (by decide) fl_X12_217 (congrArg (fun z => some (Value.int z)) ((hi243.2.1.1 13 (by decide)).trans hn)) dX12_next_256 ?_
                            refine lv_icmp_ge (tgt := 335) hx hb dX12_next_259 (by decide) (fun c259 => ?_) (fun c259 => ?_)
                            · exact t_v E h hr hk ⟨hi243.2.1, t, hi243.1, hi243.2.2⟩ dX12_next_335
                            · have c259 : t < n := Nat.lt_of_not_le fun q9 => c259 ((nI_leI (a := n) (b := t) (by omega) (by omega)).mpr q9)
                              refine lv_aload_n hx hb dX12_next_262 rfl (lv_at hl 0 rfl) ?_
                              refine r_get E h 41 (v := .ref (a 29)) (eM_0 cy a ω) rfl fw_X12 (by decide) fl_X12_94 rfl dX12_next_263 ?_
                              refine lv_aload_n hx hb dX12_next_266 rfl (lv_at hl 0 rfl) ?_
                              refine r_get E h 44 (v := .int (nI t)) (eM_0 cy a ω) rfl fw_X12 (by decide) fl_X12_224 (congrArg (fun z => some (Value.int z)) hi243.2.2) dX12_next_267 ?_
                              refine r_ialdN E h (f := ω.2.1 29) (eM_29 cy a ω) (j := t) (by omega) (by decide) (v := ω.2.1 29 t) rfl dX12_next_270 ?_
                              refine k_i h (q_runS (As := [.int (ω.2.1 29 t)]) (rest := []) E h (c_X12_isDigit l D cy a ω (ω.2.1 29 t)) co_X12_isDigit ml_X12_237 st_X12_isDigit in_X12 rfl ok_X12_isDigit rfl ⟨by decide, by decide⟩ hl.1 rfl (Nat.le_of_ble_eq_true rfl) dX12_next_271 ⟨Nat.zero_le _, Nat.zero_le _⟩) (wM_fst cy a) (fun r271 τ271 H locs p271 h => ?_)
                              rw [p271.1] at h
                              refine lv_if_eq (tgt := 335) hx hb dX12_next_274 (by decide) (fun c274 => ?_) (fun c274 => ?_)
                              · exact t_v E h hr hk ⟨hi243.2.1, t, hi243.1, hi243.2.2⟩ dX12_next_335
                              · refine lv_aload_n hx hb dX12_next_277 rfl (lv_at hl 0 rfl) ?_
                                refine lv_aload_n hx hb dX12_next_278 rfl (lv_at hl 0 rfl) ?_
                                refine r_get E h 46 (v := .long (ω.2.2 0)) (eM_0 cy a ω) rfl fw_X12 (by decide) fl_X12_230 rfl dX12_next_279 ?_
                                refine lv_ldc2 (v := 1000000) hx hb E.2.2.2.1 (E.2.2.2.2.1 _ kl_X12_249) dX12_next_282 ?_
                                refine W.lcmp hx hb dX12_next_285 ?_
                                refine lv_if_le (tgt := 296) hx hb dX12_next_286 (by decide) (fun c286 => ?_) (fun c286 => ?_)
                                · refine lv_aload_n hx hb dX12_next_296 rfl (lv_at hl 0 rfl) ?_
                                  refine r_get E h 46 (v := .long (ω.2.2 0)) (eM_0 cy a ω) rfl fw_X12 (by decide) fl_X12_230 rfl dX12_next_297 ?_
                                  refine lv_ldc2 (v := 10) hx hb E.2.2.2.1 (E.2.2.2.2.1 _ kl_X12_251) dX12_next_300 ?_
                                  refine lv_lmul hx hb dX12_next_303 ?_
                                  refine lv_aload_n hx hb dX12_next_304 rfl (lv_at hl 0 rfl) ?_
                                  refine r_get E h 41 (v := .ref (a 29)) (eM_0 cy a ω) rfl fw_X12 (by decide) fl_X12_94 rfl dX12_next_305 ?_
                                  refine lv_aload_n hx hb dX12_next_308 rfl (lv_at hl 0 rfl) ?_
                                  refine r_get E h 44 (v := .int (nI t)) (eM_0 cy a ω) rfl fw_X12 (by decide) fl_X12_224 (congrArg (fun z => some (Value.int z)) hi243.2.2) dX12_next_309 ?_
                                  refine r_ialdN E h (f := ω.2.1 29) (eM_29 cy a ω) (j := t) (by omega) (by decide) (v := ω.2.1 29 t) rfl dX12_next_312 ?_
                                  refine lv_i2l hx hb dX12_next_313 rfl ?_
                                  refine lv_ladd hx hb dX12_next_314 ?_
                                  refine lv_ldc2 (v := 48) hx hb E.2.2.2.1 (E.2.2.2.2.1 _ kl_X12_253) dX12_next_315 ?_
                                  refine lv_lsub hx hb dX12_next_318 ?_
                                  refine r_put E h 46 (ty := .long) (eM_0 cy a ω) rfl fw_X12 tyX12_ok nmX12 (by decide) fl_X12_230 rfl (by decide +kernel) rfl rfl (Nat.le_of_ble_eq_true rfl) (sML_0 cy a ω ((((ω.2.2 0) * 10) + ((ω.2.1 29 t).toInt64)) - 48)) dX12_next_319 (fun H locs h => ?_)
                                  refine lv_aload_n hx hb dX12_next_322 rfl (lv_at hl 0 rfl) ?_
                                  refine lv_dup hx hb dX12_next_323 rfl ?_
                                  refine r_get E h 44 (v := .int (nI t)) (eM_0 cy a (fL ω 0 ((((ω.2.2 0) * 10) + ((ω.2.1 29 t).toInt64)) - 48))) rfl fw_X12 (by decide) fl_X12_224 (congrArg (fun z => some (Value.int z)) hi243.2.2) dX12_next_324 ?_
                                  refine lv_iconst (v := 1) hx hb dX12_next_327 (by decide) ?_
                                  refine n_add (j := t) (k := 1) hx hb dX12_next_328 ?_
                                  refine r_put E h 44 (ty := .int) (eM_0 cy a (fL ω 0 ((((ω.2.2 0) * 10) + ((ω.2.1 29 t).toInt64)) - 48))) rfl fw_X12 tyX12_ok nmX12 (by decide) fl_X12_224 rfl (by decide +kernel) rfl rfl (Nat.le_of_ble_eq_true rfl) (sM_15 cy a (fL ω 0 ((((ω.2.2 0) * 10) + ((ω.2.1 29 t).toInt64)) - 48)) (nI (t + 1))) dX12_next_329 (fun H locs h => ?_)
                                  refine lv_goto (tgt := 243) hx hb dX12_next_332 (by decide) ?_
                                  exact ih243 (t + 1) (fF (fL ω 0 ((((ω.2.2 0) * 10) + ((ω.2.1 29 t).toInt64)) - 48)) 15 (nI (t + 1))) _ _ _ ⟨by omega, ((hi243.2.1.L 0 _).F 15 _ (by decide)), rfl⟩ (by omega) h (lv_sub hl [0] rfl)
                                · refine lv_aload_n hx hb dX12_next_289 rfl (lv_at hl 0 rfl) ?_
                                  refine r_get E h 46 (v := .long (ω.2.2 0)) (eM_0 cy a ω) rfl fw_X12 (by decide) fl_X12_230 rfl dX12_next_290 ?_
                                  refine lv_goto (tgt := 319) hx hb dX12_next_293 (by decide) ?_
                                  refine r_put E h 46 (ty := .long) (eM_0 cy a ω) rfl fw_X12 tyX12_ok nmX12 (by decide) fl_X12_230 rfl (by decide +kernel) rfl rfl (Nat.le_of_ble_eq_true rfl) (sML_0 cy a ω (ω.2.2 0)) dX12_next_319 (fun H locs h => ?_)
                                  refine lv_aload_n hx hb dX12_next_322 rfl (lv_at hl 0 rfl) ?_
                                  refine lv_dup hx hb dX12_next_323 rfl ?_
                                  refine r_get E h 44 (v := .int (nI t)) (eM_0 cy a (fL ω 0 (ω.2.2 0))) rfl fw_X12 (by decide) fl_X12_224 (congrArg (fun z => some (Value.int z)) hi243.2.2) dX12_next_324 ?_
                                  refine lv_iconst (v := 1) hx hb dX12_next_327 (by decide) ?_
                                  refine n_add (j := t) (k := 1) hx hb dX12_next_328 ?_
                                  refine r_put E h 44 (ty := .int) (eM_0 cy a (fL ω 0 (ω.2.2 0))) rfl fw_X12 tyX12_ok nmX12 (by decide) fl_X12_224 rfl (by decide +kernel) rfl rfl (Nat.le_of_ble_eq_true rfl) (sM_15 cy a (fL ω 0 (ω.2.2 0)) (nI (t + 1))) dX12_next_329 (fun H locs h => ?_)
                                  refine lv_goto (tgt := 243) hx hb dX12_next_332 (by decide) ?_
                                  exact ih243 (t + 1) (fF (fL ω 0 (ω.2.2 0)) 15 (nI (t + 1))) _ _ _ ⟨by omega, ((hi243.2.1.L 0 _).F 15 _ (by decide)), rfl⟩ (by omega) h (lv_sub hl [0] rfl)
                      exact lp243 _ t υ _ _ _ hi149 (Nat.lt_succ_self _) h (lv_sub hl [0] rfl)
                    · have c165 : t < n := Nat.lt_of_not_le fun q9 => c165 ((nI_leI (a := n) (b := t) (by omega) (by omega)).mpr q9)
                      refine lv_aload_n hx hb dX12_next_168 rfl (lv_at hl 0 rfl) ?_
                      refine r_get E h 41 (v := .ref (a 29)) (eM_0 cy a υ) rfl fw_X12 (by decide) fl_X12_94 rfl dX12_next_169 ?_
                      refine lv_aload_n hx hb dX12_next_172 rfl (lv_at hl 0 rfl) ?_
                      refine r_get E h 44 (v := .int (nI t)) (eM_0 cy a υ) rfl fw_X12 (by decide) fl_X12_224 (congrArg (fun z => some (Value.int z)) hi149.2.2) dX12_next_173 ?_
                      refine r_ialdN E h (f := υ.2.1 29) (eM_29 cy a υ) (j := t) (by omega) (by decide) (v := υ.2.1 29 t) rfl dX12_next_176 ?_
                      refine k_i h (q_runS (As := [.int (υ.2.1 29 t)]) (rest := []) E h (c_X12_isSmall l D cy a υ (υ.2.1 29 t)) co_X12_isSmall ml_X12_234 st_X12_isSmall in_X12 rfl ok_X12_isSmall rfl ⟨by decide, by decide⟩ hl.1 rfl (Nat.le_of_ble_eq_true rfl) dX12_next_177 ⟨Nat.zero_le _, Nat.zero_le _⟩) (wM_fst cy a) (fun r177 τ177 H locs p177 h => ?_)
                      rw [p177.1] at h
                      refine lv_if_eq (tgt := 243) hx hb dX12_next_180 (by decide) (fun c180 => ?_) (fun c180 => ?_)
                      · have lp243 : ∀ (f : Nat) (t : Nat) (ω : St) (H : Heap) (locs : List Loc) (ls : Array Slot), (t ≤ n ∧ K kn kA σ ω ∧ ω.1 15 = nI t) → (n - t) < f → HW D (AM a) s (wM cy a ω) H locs → lv_has ls 1 [(0, .ref (a 0))] → W p l e (rmOf 1 20) s m args below meth c H locs 0 0 (MQ below (va_Qv (fun τ => K kn kA σ τ ∧ TO n τ) (fun u t => va_P D vwCl (wM cy a u) t.heap) (AM a)) args s 0 0 (AM a)) (F0 m 243 ls []) := by
                          intro f
                          induction f with
                          | zero => intro t ω H locs ls _ hf; exact absurd hf (Nat.not_lt_zero _)
                          | succ f ih243 =>
                            intro t ω H locs ls hi243 hf243 h hl
                            refine lv_aload_n hx hb dX12_next_243 rfl (lv_at hl 0 rfl) ?_
                            refine r_get E h 45 (v := .int (ω.1 16)) (eM_0 cy a ω) rfl fw_X12 (by decide) fl_X12_240 rfl dX12_next_244 ?_
                            refine lv_iconst (v := 2) hx hb dX12_next_247 (by decide) ?_
                            refine lv_icmp_ne (tgt := 335) hx hb dX12_next_248 (by decide) (fun c248 => ?_) (fun c248 => ?_)
                            · exact t_v E h hr hk ⟨hi243.2.1, t, hi243.1, hi243.2.2⟩ dX12_next_335
                            · refine lv_aload_n hx hb dX12_next_251 rfl (lv_at hl 0 rfl) ?_
                              refine r_get E h 44 (v := .int (nI t)) (eM_0 cy a ω) rfl fw_X12 (by decide) fl_X12_224 (congrArg (fun z => some (Value.int z)) hi243.2.2) dX12_next_252 ?_
                              refine lv_aload_n hx hb dX12_next_255 rfl (lv_at hl 0 rfl) ?_
                              refine r_get E h 42 (v := .int (nI n)) (eM_0 cy a ω) rfl fw_X12 (by decide) fl_X12_217 (congrArg (fun z => some (Value.int z)) ((hi243.2.1.1 13 (by decide)).trans hn)) dX12_next_256 ?_
                              refine lv_icmp_ge (tgt := 335) hx hb dX12_next_259 (by decide) (fun c259 => ?_) (fun c259 => ?_)
                              · exact t_v E h hr hk ⟨hi243.2.1, t, hi243.1, hi243.2.2⟩ dX12_next_335
                              · have c259 : t < n := Nat.lt_of_not_le fun q9 => c259 ((nI_leI (a := n) (b := t) (by omega) (by omega)).mpr q9)
                                refine lv_aload_n hx hb dX12_next_262 rfl (lv_at hl 0 rfl) ?_
                                refine r_get E h 41 (v := .ref (a 29)) (eM_0 cy a ω) rfl fw_X12 (by decide) fl_X12_94 rfl dX12_next_263 ?_
                                refine lv_aload_n hx hb dX12_next_266 rfl (lv_at hl 0 rfl) ?_
                                refine r_get E h 44 (v := .int (nI t)) (eM_0 cy a ω) rfl fw_X12 (by decide) fl_X12_224 (congrArg (fun z => some (Value.int z)) hi243.2.2) dX12_next_267 ?_
                                refine r_ialdN E h (f := ω.2.1 29) (eM_29 cy a ω) (j := t) (by omega) (by decide) (v := ω.2.1 29 t) rfl dX12_next_270 ?_
                                refine k_i h (q_runS (As := [.int (ω.2.1 29 t)]) (rest := []) E h (c_X12_isDigit l D cy a ω (ω.2.1 29 t)) co_X12_isDigit ml_X12_237 st_X12_isDigit in_X12 rfl ok_X12_isDigit rfl ⟨by decide, by decide⟩ hl.1 rfl (Nat.le_of_ble_eq_true rfl) dX12_next_271 ⟨Nat.zero_le _, Nat.zero_le _⟩) (wM_fst cy a) (fun r271 τ271 H locs p271 h => ?_)
                                rw [p271.1] at h
                                refine lv_if_eq (tgt := 335) hx hb dX12_next_274 (by decide) (fun c274 => ?_) (fun c274 => ?_)
                                · exact t_v E h hr hk ⟨hi243.2.1, t, hi243.1, hi243.2.2⟩ dX12_next_335
                                · refine lv_aload_n hx hb dX12_next_277 rfl (lv_at hl 0 rfl) ?_
                                  refine lv_aload_n hx hb dX12_next_278 rfl (lv_at hl 0 rfl) ?_
                                  refine r_get E h 46 (v := .long (ω.2.2 0)) (eM_0 cy a ω) rfl fw_X12 (by decide) fl_X12_230 rfl dX12_next_279 ?_
                                  refine lv_ldc2 (v := 1000000) hx hb E.2.2.2.1 (E.2.2.2.2.1 _ kl_X12_249) dX12_next_282 ?_
                                  refine W.lcmp hx hb dX12_next_285 ?_
                                  refine lv_if_le (tgt := 296) hx hb dX12_next_286 (by decide) (fun c286 => ?_) (fun c286 => ?_)
                                  · refine lv_aload_n hx hb dX12_next_296 rfl (lv_at hl 0 rfl) ?_
                                    refine r_get E h 46 (v := .long (ω.2.2 0)) (eM_0 cy a ω) rfl fw_X12 (by decide) fl_X12_230 rfl dX12_next_297 ?_
                                    refine lv_ldc2 (v := 10) hx hb E.2.2.2.1 (E.2.2.2.2.1 _ kl_X12_251) dX12_next_300 ?_
                                    refine lv_lmul hx hb dX12_next_303 ?_
                                    refine lv_aload_n hx hb dX12_next_304 rfl (lv_at hl 0 rfl) ?_
                                    refine r_get E h 41 (v := .ref (a 29)) (eM_0 cy a ω) rfl fw_X12 (by decide) fl_X12_94 rfl dX12_next_305 ?_
                                    refine lv_aload_n hx hb dX12_next_308 rfl (lv_at hl 0 rfl) ?_
                                    refine r_get E h 44 (v := .int (nI t)) (eM_0 cy a ω) rfl fw_X12 (by decide) fl_X12_224 (congrArg (fun z => some (Value.int z)) hi243.2.2) dX12_next_309 ?_
                                    refine r_ialdN E h (f := ω.2.1 29) (eM_29 cy a ω) (j := t) (by omega) (by decide) (v := ω.2.1 29 t) rfl dX12_next_312 ?_
                                    refine lv_i2l hx hb dX12_next_313 rfl ?_
                                    refine lv_ladd hx hb dX12_next_314 ?_
                                    refine lv_ldc2 (v := 48) hx hb E.2.2.2.1 (E.2.2.2.2.1 _ kl_X12_253) dX12_next_315 ?_
                                    refine lv_lsub hx hb dX12_next_318 ?_
                                    refine r_put E h 46 (ty := .long) (eM_0 cy a ω) rfl fw_X12 tyX12_ok nmX12 (by decide) fl_X12_230 rfl (by decide +kernel) rfl rfl (Nat.le_of_ble_eq_true rfl) (sML_0 cy a ω ((((ω.2.2 0) * 10) + ((ω.2.1 29 t).toInt64)) - 48)) dX12_next_319 (fun H locs h => ?_)
                                    refine lv_aload_n hx hb dX12_next_322 rfl (lv_at hl 0 rfl) ?_
                                    refine lv_dup hx hb dX12_next_323 rfl ?_
                                    refine r_get E h 44 (v := .int (nI t)) (eM_0 cy a (fL ω 0 ((((ω.2.2 0) * 10) + ((ω.2.1 29 t).toInt64)) - 48))) rfl fw_X12 (by decide) fl_X12_224 (congrArg (fun z => some (Value.int z)) hi243.2.2) dX12_next_324 ?_
                                    refine lv_iconst (v := 1) hx hb dX12_next_327 (by decide) ?_
                                    refine n_add (j := t) (k := 1) hx hb dX12_next_328 ?_
                                    refine r_put E h 44 (ty := .int) (eM_0 cy a (fL ω 0 ((((ω.2.2 0) * 10) + ((ω.2.1 29 t).toInt64)) - 48))) rfl fw_X12 tyX12_ok nmX12 (by decide) fl_X12_224 rfl (by decide +kernel) rfl rfl (Nat.le_of_ble_eq_true rfl) (sM_15 cy a (fL ω 0 ((((ω.2.2 0) * 10) + ((ω.2.1 29 t).toInt64)) - 48)) (nI (t + 1))) dX12_next_329 (fun H locs h => ?_)
                                    refine lv_goto (tgt := 243) hx hb dX12_next_332 (by decide) ?_
                                    exact ih243 (t + 1) (fF (fL ω 0 ((((ω.2.2 0) * 10) + ((ω.2.1 29 t).toInt64)) - 48)) 15 (nI (t + 1))) _ _ _ ⟨by omega, ((hi243.2.1.L 0 _).F 15 _ (by decide)), rfl⟩ (by omega) h (lv_sub hl [0] rfl)
                                  · refine lv_aload_n hx hb dX12_next_289 rfl (lv_at hl 0 rfl) ?_
                                    refine r_get E h 46 (v := .long (ω.2.2 0)) (eM_0 cy a ω) rfl fw_X12 (by decide) fl_X12_230 rfl dX12_next_290 ?_
                                    refine lv_goto (tgt := 319) hx hb dX12_next_293 (by decide) ?_
                                    refine r_put E h 46 (ty := .long) (eM_0 cy a ω) rfl fw_X12 tyX12_ok nmX12 (by decide) fl_X12_230 rfl (by decide +kernel) rfl rfl (Nat.le_of_ble_eq_true rfl) (sML_0 cy a ω (ω.2.2 0)) dX12_next_319 (fun H locs h => ?_)
                                    refine lv_aload_n hx hb dX12_next_322 rfl (lv_at hl 0 rfl) ?_
                                    refine lv_dup hx hb dX12_next_323 rfl ?_
                                    refine r_get E h 44 (v := .int (nI t)) (eM_0 cy a (fL ω 0 (ω.2.2 0))) rfl fw_X12 (by decide) fl_X12_224 (congrArg (fun z => some (Value.int z)) hi243.2.2) dX12_next_324 ?_
                                    refine lv_iconst (v := 1) hx hb dX12_next_327 (by decide) ?_
                                    refine n_add (j := t) (k := 1) hx hb dX12_next_328 ?_
                                    refine r_put E h 44 (ty := .int) (eM_0 cy a (fL ω 0 (ω.2.2 0))) rfl fw_X12 tyX12_ok nmX12 (by decide) fl_X12_224 rfl (by decide +kernel) rfl rfl (Nat.le_of_ble_eq_true rfl) (sM_15 cy a (fL ω 0 (ω.2.2 0)) (nI (t + 1))) dX12_next_329 (fun H locs h => ?_)
                                    refine lv_goto (tgt := 243) hx hb dX12_next_332 (by decide) ?_
                                    exact ih243 (t + 1) (fF (fL ω 0 (ω.2.2 0)) 15 (nI (t + 1))) _ _ _ ⟨by omega, ((hi243.2.1.L 0 _).F 15 _ (by decide)), rfl⟩ (by omega) h (lv_sub hl [0] rfl)
                        exact lp243 _ t υ _ _ _ hi149 (Nat.lt_succ_self _) h (lv_sub hl [0] rfl)
                      · refine lv_aload_n hx hb dX12_next_183 rfl (lv_at hl 0 rfl) ?_
                        refine lv_aload_n hx hb dX12_next_184 rfl (lv_at hl 0 rfl) ?_
                        refine r_get E h 44 (v := .int (nI t)) (eM_0 cy a υ) rfl fw_X12 (by decide) fl_X12_224 (congrArg (fun z => some (Value.int z)) hi149.2.2) dX12_next_185 ?_
                        refine lv_aload_n hx hb dX12_next_188 rfl (lv_at hl 0 rfl) ?_
                        refine r_get E h 43 (v := .int (υ.1 14)) (eM_0 cy a υ) rfl fw_X12 (by decide) fl_X12_227 rfl dX12_next_189 ?_
                        refine lv_isub hx hb dX12_next_192 ?_
                        refine lv_bipush (v := 9) hx hb dX12_next_193 (by decide) ?_
                        refine lv_icmp_ge (tgt := 224) hx hb dX12_next_195 (by decide) (fun c195 => ?_) (fun c195 => ?_)
                        · refine lv_ldc2 (v := -1) hx hb E.2.2.2.1 (E.2.2.2.2.1 _ kl_X12_247) dX12_next_224 ?_
                          refine r_put E h 46 (ty := .long) (eM_0 cy a υ) rfl fw_X12 tyX12_ok nmX12 (by decide) fl_X12_230 rfl (by decide +kernel) rfl rfl (Nat.le_of_ble_eq_true rfl) (sML_0 cy a υ (-1)) dX12_next_227 (fun H locs h => ?_)
                          refine lv_aload_n hx hb dX12_next_230 rfl (lv_at hl 0 rfl) ?_
                          refine lv_dup hx hb dX12_next_231 rfl ?_
                          refine r_get E h 44 (v := .int (nI t)) (eM_0 cy a (fL υ 0 (-1))) rfl fw_X12 (by decide) fl_X12_224 (congrArg (fun z => some (Value.int z)) hi149.2.2) dX12_next_232 ?_
                          refine lv_iconst (v := 1) hx hb dX12_next_235 (by decide) ?_
                          refine n_add (j := t) (k := 1) hx hb dX12_next_236 ?_
                          refine r_put E h 44 (ty := .int) (eM_0 cy a (fL υ 0 (-1))) rfl fw_X12 tyX12_ok nmX12 (by decide) fl_X12_224 rfl (by decide +kernel) rfl rfl (Nat.le_of_ble_eq_true rfl) (sM_15 cy a (fL υ 0 (-1)) (nI (t + 1))) dX12_next_237 (fun H locs h => ?_)
                          refine lv_goto (tgt := 149) hx hb dX12_next_240 (by decide) ?_
                          exact ih149 (t + 1) (fF (fL υ 0 (-1)) 15 (nI (t + 1))) _ _ _ ⟨by omega, ((hi149.2.1.L 0 _).F 15 _ (by decide)), rfl⟩ (by omega) h (lv_sub hl [0] rfl)
                        · refine lv_aload_n hx hb dX12_next_198 rfl (lv_at hl 0 rfl) ?_
                          refine r_get E h 46 (v := .long (υ.2.2 0)) (eM_0 cy a υ) rfl fw_X12 (by decide) fl_X12_230 rfl dX12_next_199 ?_
                          refine lv_ldc2 (v := 32) hx hb E.2.2.2.1 (E.2.2.2.2.1 _ kl_X12_243) dX12_next_202 ?_
                          refine lv_lmul hx hb dX12_next_205 ?_
                          refine lv_aload_n hx hb dX12_next_206 rfl (lv_at hl 0 rfl) ?_
                          refine r_get E h 41 (v := .ref (a 29)) (eM_0 cy a υ) rfl fw_X12 (by decide) fl_X12_94 rfl dX12_next_207 ?_
                          refine lv_aload_n hx hb dX12_next_210 rfl (lv_at hl 0 rfl) ?_
                          refine r_get E h 44 (v := .int (nI t)) (eM_0 cy a υ) rfl fw_X12 (by decide) fl_X12_224 (congrArg (fun z => some (Value.int z)) hi149.2.2) dX12_next_211 ?_
                          refine r_ialdN E h (f := υ.2.1 29) (eM_29 cy a υ) (j := t) (by omega) (by decide) (v := υ.2.1 29 t) rfl dX12_next_214 ?_
                          refine lv_i2l hx hb dX12_next_215 rfl ?_
                          refine lv_ladd hx hb dX12_next_216 ?_
                          refine lv_ldc2 (v := 96) hx hb E.2.2.2.1 (E.2.2.2.2.1 _ kl_X12_245) dX12_next_217 ?_
                          refine lv_lsub hx hb dX12_next_220 ?_
                          refine lv_goto (tgt := 227) hx hb dX12_next_221 (by decide) ?_
                          refine r_put E h 46 (ty := .long) (eM_0 cy a υ) rfl fw_X12 tyX12_ok nmX12 (by decide) fl_X12_230 rfl (by decide +kernel) rfl rfl (Nat.le_of_ble_eq_true rfl) (sML_0 cy a υ ((((υ.2.2 0) * 32) + ((υ.2.1 29 t).toInt64)) - 96)) dX12_next_227 (fun H locs h => ?_)
                          refine lv_aload_n hx hb dX12_next_230 rfl (lv_at hl 0 rfl) ?_
                          refine lv_dup hx hb dX12_next_231 rfl ?_
                          refine r_get E h 44 (v := .int (nI t)) (eM_0 cy a (fL υ 0 ((((υ.2.2 0) * 32) + ((υ.2.1 29 t).toInt64)) - 96))) rfl fw_X12 (by decide) fl_X12_224 (congrArg (fun z => some (Value.int z)) hi149.2.2) dX12_next_232 ?_
                          refine lv_iconst (v := 1) hx hb dX12_next_235 (by decide) ?_
                          refine n_add (j := t) (k := 1) hx hb dX12_next_236 ?_
                          refine r_put E h 44 (ty := .int) (eM_0 cy a (fL υ 0 ((((υ.2.2 0) * 32) + ((υ.2.1 29 t).toInt64)) - 96))) rfl fw_X12 tyX12_ok nmX12 (by decide) fl_X12_224 rfl (by decide +kernel) rfl rfl (Nat.le_of_ble_eq_true rfl) (sM_15 cy a (fL υ 0 ((((υ.2.2 0) * 32) + ((υ.2.1 29 t).toInt64)) - 96)) (nI (t + 1))) dX12_next_237 (fun H locs h => ?_)
                          refine lv_goto (tgt := 149) hx hb dX12_next_240 (by decide) ?_
                          exact ih149 (t + 1) (fF (fL υ 0 ((((υ.2.2 0) * 32) + ((υ.2.1 29 t).toInt64)) - 96)) 15 (nI (t + 1))) _ _ _ ⟨by omega, ((hi149.2.1.L 0 _).F 15 _ (by decide)), rfl⟩ (by omega) h (lv_sub hl [0] rfl)
              exact lp149 _ (k + 1) (fF (fL (fF (fL (fF τ 15 (nI k)) 0 0) 16 v0) 0 ((τ.2.1 29 k).toInt64)) 15 (nI (k + 1))) _ _ _ ⟨by have := hj114 c122; omega, ((((((hi8.2.1.F 15 _ (by decide)).L 0 _).F 16 _ (by decide)).L 0 _).F 15 _ (by decide))), rfl⟩ (Nat.lt_succ_self _) h (lv_sub hl [0] rfl)
          refine lv_aload_n hx hb dX12_next_59 rfl (lv_at hl 0 rfl) ?_
          refine lv_aload_n hx hb dX12_next_60 rfl (lv_at hl 0 rfl) ?_
          refine r_get E h 43 (v := .int (nI k)) (eM_0 cy a (fL (fF τ 15 (nI k)) 0 0)) rfl fw_X12 (by decide) fl_X12_227 (congrArg (fun z => some (Value.int z)) hi8.2.2) dX12_next_61 ?_
          refine lv_aload_n hx hb dX12_next_64 rfl (lv_at hl 0 rfl) ?_
          refine r_get E h 42 (v := .int (nI n)) (eM_0 cy a (fL (fF τ 15 (nI k)) 0 0)) rfl fw_X12 (by decide) fl_X12_217 (congrArg (fun z => some (Value.int z)) ((hi8.2.1.1 13 (by decide)).trans hn)) dX12_next_65 ?_
          refine lv_icmp_ne (tgt := 75) hx hb dX12_next_68 (by decide) (fun c68 => ?_) (fun c68 => ?_)
          · have c68 : k < n := by have := n_ne c68; have := hi8.1; omega
            refine lv_aload_n hx hb dX12_next_75 rfl (lv_at hl 0 rfl) ?_
            refine r_get E h 41 (v := .ref (a 29)) (eM_0 cy a (fL (fF τ 15 (nI k)) 0 0)) rfl fw_X12 (by decide) fl_X12_94 rfl dX12_next_76 ?_
            refine lv_aload_n hx hb dX12_next_79 rfl (lv_at hl 0 rfl) ?_
            refine r_get E h 43 (v := .int (nI k)) (eM_0 cy a (fL (fF τ 15 (nI k)) 0 0)) rfl fw_X12 (by decide) fl_X12_227 (congrArg (fun z => some (Value.int z)) hi8.2.2) dX12_next_80 ?_
            refine r_ialdN E h (f := τ.2.1 29) (eM_29 cy a (fL (fF τ 15 (nI k)) 0 0)) (j := k) (by omega) (by decide) (v := τ.2.1 29 k) rfl dX12_next_83 ?_
            refine k_i h (q_runS (As := [.int (τ.2.1 29 k)]) (rest := [.ref (a 0)]) E h (c_X12_isSmall l D cy a (fL (fF τ 15 (nI k)) 0 0) (τ.2.1 29 k)) co_X12_isSmall ml_X12_234 st_X12_isSmall in_X12 rfl ok_X12_isSmall rfl ⟨by decide, by decide⟩ hl.1 rfl (Nat.le_of_ble_eq_true rfl) dX12_next_84 ⟨Nat.zero_le _, Nat.zero_le _⟩) (wM_fst cy a) (fun r84 τ84 H locs p84 h => ?_)
            rw [p84.1] at h
            refine lv_if_eq (tgt := 94) hx hb dX12_next_87 (by decide) (fun c87 => ?_) (fun c87 => ?_)
            · refine lv_aload_n hx hb dX12_next_94 rfl (lv_at hl 0 rfl) ?_
              refine r_get E h 41 (v := .ref (a 29)) (eM_0 cy a (fL (fF τ 15 (nI k)) 0 0)) rfl fw_X12 (by decide) fl_X12_94 rfl dX12_next_95 ?_
              refine lv_aload_n hx hb dX12_next_98 rfl (lv_at hl 0 rfl) ?_
              refine r_get E h 43 (v := .int (nI k)) (eM_0 cy a (fL (fF τ 15 (nI k)) 0 0)) rfl fw_X12 (by decide) fl_X12_227 (congrArg (fun z => some (Value.int z)) hi8.2.2) dX12_next_99 ?_
              refine r_ialdN E h (f := τ.2.1 29) (eM_29 cy a (fL (fF τ 15 (nI k)) 0 0)) (j := k) (by omega) (by decide) (v := τ.2.1 29 k) rfl dX12_next_102 ?_
              refine k_i h (q_runS (As := [.int (τ.2.1 29 k)]) (rest := [.ref (a 0)]) E h (c_X12_isDigit l D cy a (fL (fF τ 15 (nI k)) 0 0) (τ.2.1 29 k)) co_X12_isDigit ml_X12_237 st_X12_isDigit in_X12 rfl ok_X12_isDigit rfl ⟨by decide, by decide⟩ hl.1 rfl (Nat.le_of_ble_eq_true rfl) dX12_next_103 ⟨Nat.zero_le _, Nat.zero_le _⟩) (wM_fst cy a) (fun r103 τ103 H locs p103 h => ?_)
              rw [p103.1] at h
              refine lv_if_eq (tgt := 113) hx hb dX12_next_106 (by decide) (fun c106 => ?_) (fun c106 => ?_)
              · refine lv_iconst (v := 3) hx hb dX12_next_113 (by decide) ?_
                exact jn114 3 _ _ _ (fun _ => c68) h (lv_sub hl [0] rfl)
              · refine lv_iconst (v := 2) hx hb dX12_next_109 (by decide) ?_
                refine lv_goto (tgt := 114) hx hb dX12_next_110 (by decide) ?_
                exact jn114 2 _ _ _ (fun _ => c68) h (lv_sub hl [0] rfl)
            · refine lv_iconst (v := 1) hx hb dX12_next_90 (by decide) ?_
              refine lv_goto (tgt := 114) hx hb dX12_next_91 (by decide) ?_
              exact jn114 1 _ _ _ (fun _ => c68) h (lv_sub hl [0] rfl)
          · refine lv_iconst (v := 0) hx hb dX12_next_71 (by decide) ?_
            refine lv_goto (tgt := 114) hx hb dX12_next_72 (by decide) ?_
            exact jn114 0 _ _ _ (fun q9 => absurd q9 (by decide)) h (lv_sub hl [0] rfl)
        · refine lv_aload_n hx hb dX12_next_33 rfl (lv_at hl 0 rfl) ?_
          refine lv_dup hx hb dX12_next_34 rfl ?_
          refine r_get E h 43 (v := .int (nI k)) (eM_0 cy a τ) rfl fw_X12 (by decide) fl_X12_227 (congrArg (fun z => some (Value.int z)) hi8.2.2) dX12_next_35 ?_
          refine lv_iconst (v := 1) hx hb dX12_next_38 (by decide) ?_
          refine n_add (j := k) (k := 1) hx hb dX12_next_39 ?_
          refine r_put E h 43 (ty := .int) (eM_0 cy a τ) rfl fw_X12 tyX12_ok nmX12 (by decide) fl_X12_227 rfl (by decide +kernel) rfl rfl (Nat.le_of_ble_eq_true rfl) (sM_14 cy a τ (nI (k + 1))) dX12_next_40 (fun H locs h => ?_)
          refine lv_goto (tgt := 8) hx hb dX12_next_43 (by decide) ?_
          exact ih8 (k + 1) (fF τ 14 (nI (k + 1))) _ _ _ ⟨by omega, hi8.2.1.F 14 _ (by decide), rfl⟩ (by omega) h (lv_sub hl [0] rfl)
  exact lp8 _ t0 (fF σ 14 (nI t0)) _ _ _ ⟨ht0, K.rf.F 14 _ (by decide), rfl⟩ (Nat.lt_succ_self _) h (lv_sub hl [0] rfl)

set_option maxHeartbeats 4000000 in
set_option maxRecDepth 100000 in
theorem c_X12_must (l : Launch) (D : va_G) (cy : Nat → ClassId) (a : Nat → Nat) (σ : St) (x : Int32) (n : Nat) (hn : σ.1 13 = nI n) (hn4 : n ≤ 400) (ht : TO n σ) : CV l yX12_must cX12_must 2 none (rmOf 2 40) D cy (wM cy a) (AM a) [.ref (a 0), .int x] σ (fun τ => K kb kA σ τ ∧ TO n τ ∧ (τ.1 18 = 0 → σ.1 18 = 0 ∧ ¬ x = 0)) := by
  refine c_of (lv := [(0, .ref (a 0)), (1, .int x)]) rfl (Nat.le_of_ble_eq_true rfl) rfl ?_
  intro p e s m args below meth c ls E h hr hk hl
  have hx := E.1
  have hb := E.2.1
  refine lv_aload_n hx hb dX12_must_0 rfl (lv_at hl 0 rfl) ?_
  refine r_get E h 48 (v := .int (σ.1 18)) (eM_0 cy a σ) rfl fw_X12 (by decide) fl_X12_255 rfl dX12_must_1 ?_
  refine lv_if_ne (tgt := 24) hx hb dX12_must_4 (by decide) (fun c4 => ?_) (fun c4 => ?_)
  · refine lv_aload_n hx hb dX12_must_24 rfl (lv_at hl 0 rfl) ?_
    refine r_get E h 48 (v := .int (σ.1 18)) (eM_0 cy a σ) rfl fw_X12 (by decide) fl_X12_255 rfl dX12_must_25 ?_
    refine lv_if_ne (tgt := 35) hx hb dX12_must_28 (by decide) (fun c28 => ?_) (fun c28 => ?_)
    · refine t_v E h hr hk ?_ dX12_must_35
      exact ⟨K.rf, ht, fun q9 => absurd q9 c4⟩
    · refine lv_aload_n hx hb dX12_must_31 rfl (lv_at hl 0 rfl) ?_
      refine k_v h (q_runV (As := []) (rest := []) E h (c_X12_next l D cy a σ n hn hn4 ht) co_X12_next ml_X12_259 im_X12_next se_X12_next in_X12 (eM_0 cy a σ) rfl ok_X12_next rfl ⟨by decide, by decide⟩ hl.1 rfl (Nat.le_of_ble_eq_true rfl) dX12_must_32 ⟨Nat.zero_le _, Nat.zero_le _⟩) (wM_fst cy a) (fun τ32 H locs p32 h => ?_)
      refine t_v E h hr hk ?_ dX12_must_35
      exact absurd c28 c4
  · refine lv_iload_n hx hb dX12_must_7 rfl (lv_at hl 1 rfl) ?_
    refine lv_if_ne (tgt := 24) hx hb dX12_must_8 (by decide) (fun c8 => ?_) (fun c8 => ?_)
    · refine lv_aload_n hx hb dX12_must_24 rfl (lv_at hl 0 rfl) ?_
      refine r_get E h 48 (v := .int (σ.1 18)) (eM_0 cy a σ) rfl fw_X12 (by decide) fl_X12_255 rfl dX12_must_25 ?_
      refine lv_if_ne (tgt := 35) hx hb dX12_must_28 (by decide) (fun c28 => ?_) (fun c28 => ?_)
      · refine t_v E h hr hk ?_ dX12_must_35
        exact absurd c4 c28
      · refine lv_aload_n hx hb dX12_must_31 rfl (lv_at hl 0 rfl) ?_
        refine k_v h (q_runV (As := []) (rest := []) E h (c_X12_next l D cy a σ n hn hn4 ht) co_X12_next ml_X12_259 im_X12_next se_X12_next in_X12 (eM_0 cy a σ) rfl ok_X12_next rfl ⟨by decide, by decide⟩ hl.1 rfl (Nat.le_of_ble_eq_true rfl) dX12_must_32 ⟨Nat.zero_le _, Nat.zero_le _⟩) (wM_fst cy a) (fun τ32 H locs p32 h => ?_)
        refine t_v E h hr hk ?_ dX12_must_35
        exact ⟨kn_b p32.1, p32.2, fun _ => ⟨c4, c8⟩⟩
    · refine lv_aload_n hx hb dX12_must_11 rfl (lv_at hl 0 rfl) ?_
      refine lv_iconst (v := 1) hx hb dX12_must_12 (by decide) ?_
      refine r_put E h 48 (ty := .boolean) (eM_0 cy a σ) rfl fw_X12 tyX12_ok nmX12 (by decide) fl_X12_255 rfl (by decide +kernel) rfl rfl (Nat.le_of_ble_eq_true rfl) (sM_18 cy a σ 1) dX12_must_13 (fun H locs h => ?_)
      refine lv_aload_n hx hb dX12_must_16 rfl (lv_at hl 0 rfl) ?_
      refine lv_aload_n hx hb dX12_must_17 rfl (lv_at hl 0 rfl) ?_
      refine r_get E h 43 (v := .int (σ.1 14)) (eM_0 cy a (fF σ 18 1)) rfl fw_X12 (by decide) fl_X12_227 rfl dX12_must_18 ?_
      refine r_put E h 47 (ty := .int) (eM_0 cy a (fF σ 18 1)) rfl fw_X12 tyX12_ok nmX12 (by decide) fl_X12_97 rfl (by decide +kernel) rfl rfl (Nat.le_of_ble_eq_true rfl) (sM_17 cy a (fF σ 18 1) (σ.1 14)) dX12_must_21 (fun H locs h => ?_)
      refine lv_aload_n hx hb dX12_must_24 rfl (lv_at hl 0 rfl) ?_
      refine r_get E h 48 (v := .int 1) (eM_0 cy a (fF (fF σ 18 1) 17 (σ.1 14))) rfl fw_X12 (by decide) fl_X12_255 rfl dX12_must_25 ?_
      refine lv_if_ne (tgt := 35) hx hb dX12_must_28 (by decide) (fun c28 => ?_) (fun c28 => ?_)
      · refine t_v E h hr hk ?_ dX12_must_35
        exact ⟨(K.rf.F 18 _ (by decide)).F 17 _ (by decide), ht, fun q9 => absurd (show (1 : Int32) = 0 from q9) (by decide)⟩
      · exact absurd c28 (by decide)

set_option maxHeartbeats 4000000 in
set_option maxRecDepth 100000 in
theorem c_X12_number (l : Launch) (D : va_G) (cy : Nat → ClassId) (a : Nat → Nat) (σ : St) (x : Int64) (n : Nat) (hn : σ.1 13 = nI n) (hn4 : n ≤ 400) (ht : TO n σ) : CI l yX12_number cX12_number 4 (some .int) (rmOf 3 61) D cy (wM cy a) (AM a) [.ref (a 0), .long x] σ (fun _ τ => K kb kA σ τ ∧ TO n τ ∧ (τ.1 18 = 0 → σ.1 18 = 0)) := by
  refine c_of (lv := [(0, .ref (a 0)), (1, .long x)]) rfl (Nat.le_of_ble_eq_true rfl) rfl ?_
  intro p e s m args below meth c ls E h hr hk hl
  have hx := E.1
  have hb := E.2.1
  refine lv_aload_n hx hb dX12_number_0 rfl (lv_at hl 0 rfl) ?_
  refine r_get E h 46 (v := .long (σ.2.2 0)) (eM_0 cy a σ) rfl fw_X12 (by decide) fl_X12_230 rfl dX12_number_1 ?_
  refine lv_l2i hx hb dX12_number_4 rfl ?_
  refine lv_istore_n (lv' := [(3, .int ((σ.2.2 0).toInt32)), (0, .ref (a 0)), (1, .long x)]) hx hb dX12_number_5 rfl hl (by decide) rfl (fun ls hl => ?_)
  refine lv_aload_n hx hb dX12_number_6 rfl (lv_at hl 1 rfl) ?_
  refine lv_aload_n hx hb dX12_number_7 rfl (lv_at hl 1 rfl) ?_
  refine r_get E h 45 (v := .int (σ.1 16)) (eM_0 cy a σ) rfl fw_X12 (by decide) fl_X12_240 rfl dX12_number_8 ?_
  refine lv_iconst (v := 2) hx hb dX12_number_11 (by decide) ?_
  refine lv_icmp_ne (tgt := 28) hx hb dX12_number_12 (by decide) (fun c12 => ?_) (fun c12 => ?_)
  · refine lv_iconst (v := 0) hx hb dX12_number_28 (by decide) ?_
    refine k_v h (q_runV (As := [.int 0]) (rest := []) E h (c_X12_must l D cy a σ 0 n hn hn4 ht) co_X12_must ml_X12_262 im_X12_must se_X12_must in_X12 (eM_0 cy a σ) rfl ok_X12_must rfl ⟨by decide, by decide⟩ hl.1 rfl (Nat.le_of_ble_eq_true rfl) dX12_number_29 ⟨Nat.zero_le _, Nat.zero_le _⟩) (wM_fst cy a) (fun τ29 H locs p29 h => ?_)
    refine lv_iload_n hx hb dX12_number_32 rfl (lv_at hl 0 rfl) ?_
    exact t_i E h hr hk ⟨p29.1, p29.2.1, fun q9 => (p29.2.2 q9).1⟩ dX12_number_33
  · refine lv_aload_n hx hb dX12_number_15 rfl (lv_at hl 1 rfl) ?_
    refine r_get E h 46 (v := .long (σ.2.2 0)) (eM_0 cy a σ) rfl fw_X12 (by decide) fl_X12_230 rfl dX12_number_16 ?_
    refine lv_lload_n hx hb dX12_number_19 rfl (lv_at hl 2 rfl) ?_
    refine W.lcmp hx hb dX12_number_20 ?_
    refine lv_if_gt (tgt := 28) hx hb dX12_number_21 (by decide) (fun c21 => ?_) (fun c21 => ?_)
    · refine lv_iconst (v := 0) hx hb dX12_number_28 (by decide) ?_
      refine k_v h (q_runV (As := [.int 0]) (rest := []) E h (c_X12_must l D cy a σ 0 n hn hn4 ht) co_X12_must ml_X12_262 im_X12_must se_X12_must in_X12 (eM_0 cy a σ) rfl ok_X12_must rfl ⟨by decide, by decide⟩ hl.1 rfl (Nat.le_of_ble_eq_true rfl) dX12_number_29 ⟨Nat.zero_le _, Nat.zero_le _⟩) (wM_fst cy a) (fun τ29 H locs p29 h => ?_)
      refine lv_iload_n hx hb dX12_number_32 rfl (lv_at hl 0 rfl) ?_
      exact t_i E h hr hk ⟨p29.1, p29.2.1, fun q9 => (p29.2.2 q9).1⟩ dX12_number_33
    · refine lv_iconst (v := 1) hx hb dX12_number_24 (by decide) ?_
      refine lv_goto (tgt := 29) hx hb dX12_number_25 (by decide) ?_
      refine k_v h (q_runV (As := [.int 1]) (rest := []) E h (c_X12_must l D cy a σ 1 n hn hn4 ht) co_X12_must ml_X12_262 im_X12_must se_X12_must in_X12 (eM_0 cy a σ) rfl ok_X12_must rfl ⟨by decide, by decide⟩ hl.1 rfl (Nat.le_of_ble_eq_true rfl) dX12_number_29 ⟨Nat.zero_le _, Nat.zero_le _⟩) (wM_fst cy a) (fun τ29 H locs p29 h => ?_)
      refine lv_iload_n hx hb dX12_number_32 rfl (lv_at hl 0 rfl) ?_
      exact t_i E h hr hk ⟨p29.1, p29.2.1, fun q9 => (p29.2.2 q9).1⟩ dX12_number_33

set_option maxHeartbeats 4000000 in
set_option maxRecDepth 100000 in
theorem c_X12_readLaw (l : Launch) (D : va_G) (cy : Nat → ClassId) (a : Nat → Nat) (σ : St) (n mm : Nat) (hn : σ.1 13 = nI n) (hn4 : n ≤ 400) (ht : TO n σ) (hm : σ.1 12 = nI mm) (hm3 : mm ≤ 30) : CV l yX12_readLaw cX12_readLaw 5 none (rmOf 4 84) D cy (wM cy a) (AM a) [.ref (a 0)] σ (fun τ => K mF mA σ τ ∧ TO n τ ∧ ((τ.1 18 = 0 ∧ mm < 30 ∧ τ.1 12 = nI (mm + 1)) ∨ (¬ τ.1 18 = 0 ∧ τ.1 12 = nI mm))) := by
  refine c_of (lv := [(0, .ref (a 0))]) rfl (Nat.le_of_ble_eq_true rfl) rfl ?_
  intro p e s m args below meth c ls E h hr hk hl
  have hx := E.1
  have hb := E.2.1
  have jn31 : ∀ (v0 : Int32) (H : Heap) (locs : List Loc) (ls : Array Slot), (¬ v0 = 0 → mm < 30) → HW D (AM a) s (wM cy a σ) H locs → lv_has ls 5 [(0, .ref (a 0))] → W p l e (rmOf 4 84) s m args below meth c H locs 0 0 (MQ below (va_Qv (fun τ => K mF mA σ τ ∧ TO n τ ∧ ((τ.1 18 = 0 ∧ mm < 30 ∧ τ.1 12 = nI (mm + 1)) ∨ (¬ τ.1 18 = 0 ∧ τ.1 12 = nI mm))) (fun u t => va_P D vwCl (wM cy a u) t.heap) (AM a)) args s 0 0 (AM a)) (F0 m 31 ls [.int v0, .ref (a 0)]) := by
    intro v0 H locs ls hj31 h hl
    refine k_v h (q_runV (As := [.int v0]) (rest := []) E h (c_X12_must l D cy a σ v0 n hn hn4 ht) co_X12_must ml_X12_262 im_X12_must se_X12_must in_X12 (eM_0 cy a σ) rfl ok_X12_must rfl ⟨by decide, by decide⟩ hl.1 rfl (Nat.le_of_ble_eq_true rfl) dX12_readLaw_31 ⟨Nat.zero_le _, Nat.zero_le _⟩) (wM_fst cy a) (fun τ31 H locs p31 h => ?_)
    have s31 : K kb kA σ τ31 ∧ TO n τ31 ∧ (τ31.1 18 = 0 → mm < 30) := ⟨p31.1, p31.2.1, fun q9 => hj31 (p31.2.2 q9).2⟩
    refine lv_aload_n hx hb dX12_readLaw_34 rfl (lv_at hl 0 rfl) ?_
    refine lv_ldc2 (v := 200) hx hb E.2.2.2.1 (E.2.2.2.2.1 _ kl_X12_137) dX12_readLaw_35 ?_
    refine k_i h (q_runV (As := [.long 200]) (rest := []) E h (c_X12_number l D cy a τ31 200 n ((s31.1.1 13 (by decide)).trans hn) hn4 s31.2.1) co_X12_number ml_X12_273 im_X12_number se_X12_number in_X12 (eM_0 cy a τ31) rfl ok_X12_number rfl ⟨by decide, by decide⟩ hl.1 rfl (Nat.le_of_ble_eq_true rfl) dX12_readLaw_38 ⟨Nat.zero_le _, Nat.zero_le _⟩) (wM_fst cy a) (fun r38 τ38 H locs p38 h => ?_)
    have s38 : K kb kA σ τ38 ∧ TO n τ38 ∧ (τ38.1 18 = 0 → mm < 30) := ⟨s31.1.tr p38.1, p38.2.1, fun q9 => s31.2.2 (p38.2.2 q9)⟩
    refine lv_istore_n (lv' := [(1, .int r38), (0, .ref (a 0))]) hx hb dX12_readLaw_41 rfl hl (by decide) rfl (fun ls hl => ?_)
    refine lv_sipush (v := 200) hx hb dX12_readLaw_42 (by decide) ?_
    refine lv_istore_n (lv' := [(2, .int 200), (1, .int r38), (0, .ref (a 0))]) hx hb dX12_readLaw_45 rfl hl (by decide) rfl (fun ls hl => ?_)
    have jn115 : ∀ (l2 : Int32) (ω : St) (H : Heap) (locs : List Loc) (ls : Array Slot), (K kb kA σ ω ∧ TO n ω ∧ (ω.1 18 = 0 → mm < 30)) → HW D (AM a) s (wM cy a ω) H locs → lv_has ls 5 [(2, .int l2), (1, .int r38), (0, .ref (a 0))] → W p l e (rmOf 4 84) s m args below meth c H locs 0 0 (MQ below (va_Qv (fun τ => K mF mA σ τ ∧ TO n τ ∧ ((τ.1 18 = 0 ∧ mm < 30 ∧ τ.1 12 = nI (mm + 1)) ∨ (¬ τ.1 18 = 0 ∧ τ.1 12 = nI mm))) (fun u t => va_P D vwCl (wM cy a u) t.heap) (AM a)) args s 0 0 (AM a)) (F0 m 115 ls []) := by
      intro l2 ω H locs ls hj115 h hl
      have jn239 : ∀ (v0 : Int32) (H : Heap) (locs : List Loc) (ls : Array Slot), (True) → HW D (AM a) s (wM cy a ω) H locs → lv_has ls 5 [(2, .int l2), (1, .int r38), (0, .ref (a 0))] → W p l e (rmOf 4 84) s m args below meth c H locs 0 0 (MQ below (va_Qv (fun τ => K mF mA σ τ ∧ TO n τ ∧ ((τ.1 18 = 0 ∧ mm < 30 ∧ τ.1 12 = nI (mm + 1)) ∨ (¬ τ.1 18 = 0 ∧ τ.1 12 = nI mm))) (fun u t => va_P D vwCl (wM cy a u) t.heap) (AM a)) args s 0 0 (AM a)) (F0 m 239 ls [.int v0]) := by
        intro v0 H locs ls hj239 h hl
        refine lv_istore_n (lv' := [(3, .int v0), (2, .int l2), (1, .int r38), (0, .ref (a 0))]) hx hb dX12_readLaw_239 rfl hl (by decide) rfl (fun ls hl => ?_)
        have jn250 : ∀ (v1 : Int32) (H : Heap) (locs : List Loc) (ls : Array Slot), (True) → HW D (AM a) s (wM cy a ω) H locs → lv_has ls 5 [(3, .int v0), (2, .int l2), (1, .int r38), (0, .ref (a 0))] → W p l e (rmOf 4 84) s m args below meth c H locs 0 0 (MQ below (va_Qv (fun τ => K mF mA σ τ ∧ TO n τ ∧ ((τ.1 18 = 0 ∧ mm < 30 ∧ τ.1 12 = nI (mm + 1)) ∨ (¬ τ.1 18 = 0 ∧ τ.1 12 = nI mm))) (fun u t => va_P D vwCl (wM cy a u) t.heap) (AM a)) args s 0 0 (AM a)) (F0 m 250 ls [.int v1, .ref (a 0)]) := by
          intro v1 H locs ls hj250 h hl
          refine k_v h (q_runV (As := [.int v1]) (rest := []) E h (c_X12_must l D cy a ω v1 n ((hj115.1.1 13 (by decide)).trans hn) hn4 hj115.2.1) co_X12_must ml_X12_262 im_X12_must se_X12_must in_X12 (eM_0 cy a ω) rfl ok_X12_must rfl ⟨by decide, by decide⟩ hl.1 rfl (Nat.le_of_ble_eq_true rfl) dX12_readLaw_250 ⟨Nat.zero_le _, Nat.zero_le _⟩) (wM_fst cy a) (fun τ250 H locs p250 h => ?_)
          have s250 : K kb kA σ τ250 ∧ TO n τ250 ∧ (τ250.1 18 = 0 → mm < 30) := ⟨hj115.1.tr p250.1, p250.2.1, fun q9 => hj115.2.2 (p250.2.2 q9).1⟩
          have jn373 : ∀ (l4 : Int32) (ψ : St) (H : Heap) (locs : List Loc) (ls : Array Slot), (K kb kA σ ψ ∧ TO n ψ ∧ (ψ.1 18 = 0 → mm < 30)) → HW D (AM a) s (wM cy a ψ) H locs → lv_has ls 5 [(4, .int l4), (3, .int v0), (2, .int l2), (1, .int r38), (0, .ref (a 0))] → W p l e (rmOf 4 84) s m args below meth c H locs 0 0 (MQ below (va_Qv (fun τ => K mF mA σ τ ∧ TO n τ ∧ ((τ.1 18 = 0 ∧ mm < 30 ∧ τ.1 12 = nI (mm + 1)) ∨ (¬ τ.1 18 = 0 ∧ τ.1 12 = nI mm))) (fun u t => va_P D vwCl (wM cy a u) t.heap) (AM a)) args s 0 0 (AM a)) (F0 m 373 ls []) := by
            intro l4 ψ H locs ls hj373 h hl
            refine lv_aload_n hx hb dX12_readLaw_373 rfl (lv_at hl 4 rfl) ?_
            refine r_get E h 48 (v := .int (ψ.1 18)) (eM_0 cy a ψ) rfl fw_X12 (by decide) fl_X12_255 rfl dX12_readLaw_374 ?_
            refine lv_if_eq (tgt := 381) hx hb dX12_readLaw_377 (by decide) (fun c377 => ?_) (fun c377 => ?_)
            · have hm9 : mm < 30 := hj373.2.2 c377
              refine lv_aload_n hx hb dX12_readLaw_381 rfl (lv_at hl 4 rfl) ?_
              refine r_get E h 39 (v := .ref (a 28)) (eM_0 cy a ψ) rfl fw_X12 (by decide) fl_X12_91 rfl dX12_readLaw_382 ?_
              refine lv_iconst (v := 4) hx hb dX12_readLaw_385 (by decide) ?_
              refine lv_aload_n hx hb dX12_readLaw_386 rfl (lv_at hl 4 rfl) ?_
              refine r_get E h 40 (v := .int (nI mm)) (eM_0 cy a ψ) rfl fw_X12 (by decide) fl_X12_266 (congrArg (fun z => some (Value.int z)) ((hj373.1.1 12 (by decide)).trans hm)) dX12_readLaw_387 ?_
              refine n_mul (j := 4) (k := mm) hx hb dX12_readLaw_390 ?_
              refine lv_iload_n hx hb dX12_readLaw_391 rfl (lv_at hl 1 rfl) ?_
              refine r_iastN E h (f := ψ.2.1 28) (eM_28 cy a ψ) (j := 4 * mm) (by omega) (by decide) (qM_28 cy a ψ (upd (ψ.2.1 28) (4 * mm) v0)) dX12_readLaw_392 (fun H locs h => ?_)
              refine lv_aload_n hx hb dX12_readLaw_393 rfl (lv_at hl 4 rfl) ?_
              refine r_get E h 39 (v := .ref (a 28)) (eM_0 cy a (fR ψ 28 (upd (ψ.2.1 28) (4 * mm) v0))) rfl fw_X12 (by decide) fl_X12_91 rfl dX12_readLaw_394 ?_
              refine lv_iconst (v := 4) hx hb dX12_readLaw_397 (by decide) ?_
              refine lv_aload_n hx hb dX12_readLaw_398 rfl (lv_at hl 4 rfl) ?_
              refine r_get E h 40 (v := .int (nI mm)) (eM_0 cy a (fR ψ 28 (upd (ψ.2.1 28) (4 * mm) v0))) rfl fw_X12 (by decide) fl_X12_266 (congrArg (fun z => some (Value.int z)) ((hj373.1.1 12 (by decide)).trans hm)) dX12_readLaw_399 ?_
              refine n_mul (j := 4) (k := mm) hx hb dX12_readLaw_402 ?_
              refine lv_iconst (v := 1) hx hb dX12_readLaw_403 (by decide) ?_
              refine n_add (j := 4 * mm) (k := 1) hx hb dX12_readLaw_404 ?_
              refine lv_iload_n hx hb dX12_readLaw_405 rfl (lv_at hl 3 rfl) ?_
              refine r_iastN E h (f := upd (ψ.2.1 28) (4 * mm) v0) (eM_28 cy a (fR ψ 28 (upd (ψ.2.1 28) (4 * mm) v0))) (j := (4 * mm) + 1) (by omega) (by decide) (qM_28 cy a (fR ψ 28 (upd (ψ.2.1 28) (4 * mm) v0)) (upd (upd (ψ.2.1 28) (4 * mm) v0) ((4 * mm) + 1) r38)) dX12_readLaw_406 (fun H locs h => ?_)
              refine lv_aload_n hx hb dX12_readLaw_407 rfl (lv_at hl 4 rfl) ?_
              refine r_get E h 39 (v := .ref (a 28)) (eM_0 cy a (fR (fR ψ 28 (upd (ψ.2.1 28) (4 * mm) v0)) 28 (upd (upd (ψ.2.1 28) (4 * mm) v0) ((4 * mm) + 1) r38))) rfl fw_X12 (by decide) fl_X12_91 rfl dX12_readLaw_408 ?_
              refine lv_iconst (v := 4) hx hb dX12_readLaw_411 (by decide) ?_
              refine lv_aload_n hx hb dX12_readLaw_412 rfl (lv_at hl 4 rfl) ?_
              refine r_get E h 40 (v := .int (nI mm)) (eM_0 cy a (fR (fR ψ 28 (upd (ψ.2.1 28) (4 * mm) v0)) 28 (upd (upd (ψ.2.1 28) (4 * mm) v0) ((4 * mm) + 1) r38))) rfl fw_X12 (by decide) fl_X12_266 (congrArg (fun z => some (Value.int z)) ((hj373.1.1 12 (by decide)).trans hm)) dX12_readLaw_413 ?_
              refine n_mul (j := 4) (k := mm) hx hb dX12_readLaw_416 ?_
              refine lv_iconst (v := 2) hx hb dX12_readLaw_417 (by decide) ?_
              refine n_add (j := 4 * mm) (k := 2) hx hb dX12_readLaw_418 ?_
              refine lv_iload_n hx hb dX12_readLaw_419 rfl (lv_at hl 2 rfl) ?_
              refine r_iastN E h (f := upd (upd (ψ.2.1 28) (4 * mm) v0) ((4 * mm) + 1) r38) (eM_28 cy a (fR (fR ψ 28 (upd (ψ.2.1 28) (4 * mm) v0)) 28 (upd (upd (ψ.2.1 28) (4 * mm) v0) ((4 * mm) + 1) r38))) (j := (4 * mm) + 2) (by omega) (by decide) (qM_28 cy a (fR (fR ψ 28 (upd (ψ.2.1 28) (4 * mm) v0)) 28 (upd (upd (ψ.2.1 28) (4 * mm) v0) ((4 * mm) + 1) r38)) (upd (upd (upd (ψ.2.1 28) (4 * mm) v0) ((4 * mm) + 1) r38) ((4 * mm) + 2) l2)) dX12_readLaw_420 (fun H locs h => ?_)
              refine lv_aload_n hx hb dX12_readLaw_421 rfl (lv_at hl 4 rfl) ?_
              refine r_get E h 39 (v := .ref (a 28)) (eM_0 cy a (fR (fR (fR ψ 28 (upd (ψ.2.1 28) (4 * mm) v0)) 28 (upd (upd (ψ.2.1 28) (4 * mm) v0) ((4 * mm) + 1) r38)) 28 (upd (upd (upd (ψ.2.1 28) (4 * mm) v0) ((4 * mm) + 1) r38) ((4 * mm) + 2) l2))) rfl fw_X12 (by decide) fl_X12_91 rfl dX12_readLaw_422 ?_
              refine lv_iconst (v := 4) hx hb dX12_readLaw_425 (by decide) ?_
              refine lv_aload_n hx hb dX12_readLaw_426 rfl (lv_at hl 4 rfl) ?_
              refine r_get E h 40 (v := .int (nI mm)) (eM_0 cy a (fR (fR (fR ψ 28 (upd (ψ.2.1 28) (4 * mm) v0)) 28 (upd (upd (ψ.2.1 28) (4 * mm) v0) ((4 * mm) + 1) r38)) 28 (upd (upd (upd (ψ.2.1 28) (4 * mm) v0) ((4 * mm) + 1) r38) ((4 * mm) + 2) l2))) rfl fw_X12 (by decide) fl_X12_266 (congrArg (fun z => some (Value.int z)) ((hj373.1.1 12 (by decide)).trans hm)) dX12_readLaw_427 ?_
              refine n_mul (j := 4) (k := mm) hx hb dX12_readLaw_430 ?_
              refine lv_iconst (v := 3) hx hb dX12_readLaw_431 (by decide) ?_
              refine n_add (j := 4 * mm) (k := 3) hx hb dX12_readLaw_432 ?_
              refine lv_iload hx hb dX12_readLaw_433 (lv_at hl 0 rfl) ?_
              refine r_iastN E h (f := upd (upd (upd (ψ.2.1 28) (4 * mm) v0) ((4 * mm) + 1) r38) ((4 * mm) + 2) l2) (eM_28 cy a (fR (fR (fR ψ 28 (upd (ψ.2.1 28) (4 * mm) v0)) 28 (upd (upd (ψ.2.1 28) (4 * mm) v0) ((4 * mm) + 1) r38)) 28 (upd (upd (upd (ψ.2.1 28) (4 * mm) v0) ((4 * mm) + 1) r38) ((4 * mm) + 2) l2))) (j := (4 * mm) + 3) (by omega) (by decide) (qM_28 cy a (fR (fR (fR ψ 28 (upd (ψ.2.1 28) (4 * mm) v0)) 28 (upd (upd (ψ.2.1 28) (4 * mm) v0) ((4 * mm) + 1) r38)) 28 (upd (upd (upd (ψ.2.1 28) (4 * mm) v0) ((4 * mm) + 1) r38) ((4 * mm) + 2) l2)) (upd (upd (upd (upd (ψ.2.1 28) (4 * mm) v0) ((4 * mm) + 1) r38) ((4 * mm) + 2) l2) ((4 * mm) + 3) l4)) dX12_readLaw_435 (fun H locs h => ?_)
              refine lv_aload_n hx hb dX12_readLaw_436 rfl (lv_at hl 4 rfl) ?_
              refine lv_dup hx hb dX12_readLaw_437 rfl ?_
              refine r_get E h 40 (v := .int (nI mm)) (eM_0 cy a (fR (fR (fR (fR ψ 28 (upd (ψ.2.1 28) (4 * mm) v0)) 28 (upd (upd (ψ.2.1 28) (4 * mm) v0) ((4 * mm) + 1) r38)) 28 (upd (upd (upd (ψ.2.1 28) (4 * mm) v0) ((4 * mm) + 1) r38) ((4 * mm) + 2) l2)) 28 (upd (upd (upd (upd (ψ.2.1 28) (4 * mm) v0) ((4 * mm) + 1) r38) ((4 * mm) + 2) l2) ((4 * mm) + 3) l4))) rfl fw_X12 (by decide) fl_X12_266 (congrArg (fun z => some (Value.int z)) ((hj373.1.1 12 (by decide)).trans hm)) dX12_readLaw_438 ?_
              refine lv_iconst (v := 1) hx hb dX12_readLaw_441 (by decide) ?_
              refine n_add (j := mm) (k := 1) hx hb dX12_readLaw_442 ?_
              refine r_put E h 40 (ty := .int) (eM_0 cy a (fR (fR (fR (fR ψ 28 (upd (ψ.2.1 28) (4 * mm) v0)) 28 (upd (upd (ψ.2.1 28) (4 * mm) v0) ((4 * mm) + 1) r38)) 28 (upd (upd (upd (ψ.2.1 28) (4 * mm) v0) ((4 * mm) + 1) r38) ((4 * mm) + 2) l2)) 28 (upd (upd (upd (upd (ψ.2.1 28) (4 * mm) v0) ((4 * mm) + 1) r38) ((4 * mm) + 2) l2) ((4 * mm) + 3) l4))) rfl fw_X12 tyX12_ok nmX12 (by decide) fl_X12_266 rfl (by decide +kernel) rfl rfl (Nat.le_of_ble_eq_true rfl) (sM_12 cy a (fR (fR (fR (fR ψ 28 (upd (ψ.2.1 28) (4 * mm) v0)) 28 (upd (upd (ψ.2.1 28) (4 * mm) v0) ((4 * mm) + 1) r38)) 28 (upd (upd (upd (ψ.2.1 28) (4 * mm) v0) ((4 * mm) + 1) r38) ((4 * mm) + 2) l2)) 28 (upd (upd (upd (upd (ψ.2.1 28) (4 * mm) v0) ((4 * mm) + 1) r38) ((4 * mm) + 2) l2) ((4 * mm) + 3) l4)) (nI (mm + 1))) dX12_readLaw_443 (fun H locs h => ?_)
              exact t_v E h hr hk ⟨(((((kb_m hj373.1).R 28 _ (by decide)).R 28 _ (by decide)).R 28 _ (by decide)).R 28 _ (by decide)).F 12 _ (by decide), hj373.2.1, Or.inl ⟨c377, hm9, rfl⟩⟩ dX12_readLaw_446
            · exact t_v E h hr hk ⟨kb_m hj373.1, hj373.2.1, Or.inr ⟨c377, (hj373.1.1 12 (by decide)).trans hm⟩⟩ dX12_readLaw_380
          have s250 : K kb kA σ τ250 ∧ TO n τ250 ∧ (τ250.1 18 = 0 → mm < 30) := ⟨hj115.1.tr p250.1, p250.2.1, fun q9 => hj115.2.2 (p250.2.2 q9).1⟩
          refine lv_iconst (v := 0) hx hb dX12_readLaw_253 (by decide) ?_
          refine lv_istore (lv' := [(4, .int 0), (3, .int v0), (2, .int l2), (1, .int r38), (0, .ref (a 0))]) hx hb dX12_readLaw_254 hl (by decide) rfl (fun ls hl => ?_)
          refine lv_iload_n hx hb dX12_readLaw_256 rfl (lv_at hl 1 rfl) ?_
          refine lv_if_ne (tgt := 353) hx hb dX12_readLaw_257 (by decide) (fun c257 => ?_) (fun c257 => ?_)
          · refine lv_aload_n hx hb dX12_readLaw_353 rfl (lv_at hl 4 rfl) ?_
            refine lv_iload_n hx hb dX12_readLaw_354 rfl (lv_at hl 1 rfl) ?_
            refine lv_iconst (v := 5) hx hb dX12_readLaw_355 (by decide) ?_
            refine lv_icmp_ne (tgt := 365) hx hb dX12_readLaw_356 (by decide) (fun c356 => ?_) (fun c356 => ?_)
            · refine lv_ldc2 (v := 100000) hx hb E.2.2.2.1 (E.2.2.2.2.1 _ kl_X12_152) dX12_readLaw_365 ?_
              refine k_i h (q_runV (As := [.long 100000]) (rest := []) E h (c_X12_number l D cy a τ250 100000 n ((s250.1.1 13 (by decide)).trans hn) hn4 s250.2.1) co_X12_number ml_X12_273 im_X12_number se_X12_number in_X12 (eM_0 cy a τ250) rfl ok_X12_number rfl ⟨by decide, by decide⟩ hl.1 rfl (Nat.le_of_ble_eq_true rfl) dX12_readLaw_368 ⟨Nat.zero_le _, Nat.zero_le _⟩) (wM_fst cy a) (fun r368 τ368 H locs p368 h => ?_)
              refine lv_istore (lv' := [(4, .int r368), (3, .int v0), (2, .int l2), (1, .int r38), (0, .ref (a 0))]) hx hb dX12_readLaw_371 hl (by decide) rfl (fun ls hl => ?_)
              exact jn373 r368 τ368 _ _ _ ⟨s250.1.tr p368.1, p368.2.1, fun q9 => s250.2.2 (p368.2.2 q9)⟩ h (lv_sub hl [0, 1, 2, 3, 4] rfl)
            · refine lv_ldc2 (v := 2) hx hb E.2.2.2.1 (E.2.2.2.2.1 _ kl_X12_184) dX12_readLaw_359 ?_
              refine lv_goto (tgt := 368) hx hb dX12_readLaw_362 (by decide) ?_
              refine k_i h (q_runV (As := [.long 2]) (rest := []) E h (c_X12_number l D cy a τ250 2 n ((s250.1.1 13 (by decide)).trans hn) hn4 s250.2.1) co_X12_number ml_X12_273 im_X12_number se_X12_number in_X12 (eM_0 cy a τ250) rfl ok_X12_number rfl ⟨by decide, by decide⟩ hl.1 rfl (Nat.le_of_ble_eq_true rfl) dX12_readLaw_368 ⟨Nat.zero_le _, Nat.zero_le _⟩) (wM_fst cy a) (fun r368 τ368 H locs p368 h => ?_)
              refine lv_istore (lv' := [(4, .int r368), (3, .int v0), (2, .int l2), (1, .int r38), (0, .ref (a 0))]) hx hb dX12_readLaw_371 hl (by decide) rfl (fun ls hl => ?_)
              exact jn373 r368 τ368 _ _ _ ⟨s250.1.tr p368.1, p368.2.1, fun q9 => s250.2.2 (p368.2.2 q9)⟩ h (lv_sub hl [0, 1, 2, 3, 4] rfl)
          · have jn311 : ∀ (v3 : Int32) (H : Heap) (locs : List Loc) (ls : Array Slot), (True) → HW D (AM a) s (wM cy a τ250) H locs → lv_has ls 5 [(4, .int 0), (3, .int v0), (2, .int l2), (1, .int r38), (0, .ref (a 0))] → W p l e (rmOf 4 84) s m args below meth c H locs 0 0 (MQ below (va_Qv (fun τ => K mF mA σ τ ∧ TO n τ ∧ ((τ.1 18 = 0 ∧ mm < 30 ∧ τ.1 12 = nI (mm + 1)) ∨ (¬ τ.1 18 = 0 ∧ τ.1 12 = nI mm))) (fun u t => va_P D vwCl (wM cy a u) t.heap) (AM a)) args s 0 0 (AM a)) (F0 m 311 ls [.int v3]) := by
              intro v3 H locs ls hj311 h hl
              refine lv_istore (lv' := [(4, .int v3), (3, .int v0), (2, .int l2), (1, .int r38), (0, .ref (a 0))]) hx hb dX12_readLaw_311 hl (by decide) rfl (fun ls hl => ?_)
              have jn347 : ∀ (v4 : Int32) (H : Heap) (locs : List Loc) (ls : Array Slot), (True) → HW D (AM a) s (wM cy a τ250) H locs → lv_has ls 5 [(4, .int v3), (3, .int v0), (2, .int l2), (1, .int r38), (0, .ref (a 0))] → W p l e (rmOf 4 84) s m args below meth c H locs 0 0 (MQ below (va_Qv (fun τ => K mF mA σ τ ∧ TO n τ ∧ ((τ.1 18 = 0 ∧ mm < 30 ∧ τ.1 12 = nI (mm + 1)) ∨ (¬ τ.1 18 = 0 ∧ τ.1 12 = nI mm))) (fun u t => va_P D vwCl (wM cy a u) t.heap) (AM a)) args s 0 0 (AM a)) (F0 m 347 ls [.int v4, .ref (a 0)]) := by
                intro v4 H locs ls hj347 h hl
                refine k_v h (q_runV (As := [.int v4]) (rest := []) E h (c_X12_must l D cy a τ250 v4 n ((s250.1.1 13 (by decide)).trans hn) hn4 s250.2.1) co_X12_must ml_X12_262 im_X12_must se_X12_must in_X12 (eM_0 cy a τ250) rfl ok_X12_must rfl ⟨by decide, by decide⟩ hl.1 rfl (Nat.le_of_ble_eq_true rfl) dX12_readLaw_347 ⟨Nat.zero_le _, Nat.zero_le _⟩) (wM_fst cy a) (fun τ347 H locs p347 h => ?_)
                refine lv_goto (tgt := 373) hx hb dX12_readLaw_350 (by decide) ?_
                exact jn373 v3 τ347 _ _ _ ⟨s250.1.tr p347.1, p347.2.1, fun q9 => s250.2.2 (p347.2.2 q9).1⟩ h (lv_sub hl [0, 1, 2, 3, 4] rfl)
              refine lv_aload_n hx hb dX12_readLaw_313 rfl (lv_at hl 4 rfl) ?_
              refine lv_iload hx hb dX12_readLaw_314 (lv_at hl 0 rfl) ?_
              refine lv_iconst (v := 2) hx hb dX12_readLaw_316 (by decide) ?_
              refine lv_icmp_lt (tgt := 342) hx hb dX12_readLaw_317 (by decide) (fun c317 => ?_) (fun c317 => ?_)
              · refine lv_iconst (v := 1) hx hb dX12_readLaw_342 (by decide) ?_
                refine lv_goto (tgt := 347) hx hb dX12_readLaw_343 (by decide) ?_
                exact jn347 1 _ _ _ trivial h (lv_sub hl [0, 1, 2, 3, 4] rfl)
              · refine lv_aload_n hx hb dX12_readLaw_320 rfl (lv_at hl 4 rfl) ?_
                refine lv_bipush (v := 103) hx hb dX12_readLaw_321 (by decide) ?_
                refine lv_bipush (v := 114) hx hb dX12_readLaw_323 (by decide) ?_
                refine lv_bipush (v := 97) hx hb dX12_readLaw_325 (by decide) ?_
                refine lv_bipush (v := 110) hx hb dX12_readLaw_327 (by decide) ?_
                refine lv_bipush (v := 116) hx hb dX12_readLaw_329 (by decide) ?_
                refine lv_bipush (v := 115) hx hb dX12_readLaw_331 (by decide) ?_
                refine lv_iconst (v := 0) hx hb dX12_readLaw_333 (by decide) ?_
                refine lv_iconst (v := 0) hx hb dX12_readLaw_334 (by decide) ?_
                refine lv_iconst (v := 0) hx hb dX12_readLaw_335 (by decide) ?_
                refine k_i h (q_runV (As := [.int 103, .int 114, .int 97, .int 110, .int 116, .int 115, .int 0, .int 0, .int 0]) (rest := [.ref (a 0)]) E h (c_X12_isLong l D cy a τ250 103 114 97 110 116 115 0 0 0) co_X12_isLong ml_X12_277 im_X12_isLong se_X12_isLong in_X12 (eM_0 cy a τ250) rfl ok_X12_isLong rfl ⟨by decide, by decide⟩ hl.1 rfl (Nat.le_of_ble_eq_true rfl) dX12_readLaw_336 ⟨Nat.zero_le _, Nat.zero_le _⟩) (wM_fst cy a) (fun r336 τ336 H locs p336 h => ?_)
                rw [p336.1] at h
                refine lv_if_eq (tgt := 346) hx hb dX12_readLaw_339 (by decide) (fun c339 => ?_) (fun c339 => ?_)
                · refine lv_iconst (v := 0) hx hb dX12_readLaw_346 (by decide) ?_
                  exact jn347 0 _ _ _ trivial h (lv_sub hl [0, 1, 2, 3, 4] rfl)
                · refine lv_iconst (v := 1) hx hb dX12_readLaw_342 (by decide) ?_
                  refine lv_goto (tgt := 347) hx hb dX12_readLaw_343 (by decide) ?_
                  exact jn347 1 _ _ _ trivial h (lv_sub hl [0, 1, 2, 3, 4] rfl)
            refine lv_aload_n hx hb dX12_readLaw_260 rfl (lv_at hl 4 rfl) ?_
            refine lv_bipush (v := 102) hx hb dX12_readLaw_261 (by decide) ?_
            refine lv_bipush (v := 111) hx hb dX12_readLaw_263 (by decide) ?_
            refine lv_bipush (v := 117) hx hb dX12_readLaw_265 (by decide) ?_
            refine lv_bipush (v := 110) hx hb dX12_readLaw_267 (by decide) ?_
            refine lv_bipush (v := 116) hx hb dX12_readLaw_269 (by decide) ?_
            refine lv_bipush (v := 97) hx hb dX12_readLaw_271 (by decide) ?_
            refine lv_bipush (v := 105) hx hb dX12_readLaw_273 (by decide) ?_
            refine lv_bipush (v := 110) hx hb dX12_readLaw_275 (by decide) ?_
            refine lv_bipush (v := 115) hx hb dX12_readLaw_277 (by decide) ?_
            refine k_i h (q_runV (As := [.int 102, .int 111, .int 117, .int 110, .int 116, .int 97, .int 105, .int 110, .int 115]) (rest := []) E h (c_X12_isLong l D cy a τ250 102 111 117 110 116 97 105 110 115) co_X12_isLong ml_X12_277 im_X12_isLong se_X12_isLong in_X12 (eM_0 cy a τ250) rfl ok_X12_isLong rfl ⟨by decide, by decide⟩ hl.1 rfl (Nat.le_of_ble_eq_true rfl) dX12_readLaw_279 ⟨Nat.zero_le _, Nat.zero_le _⟩) (wM_fst cy a) (fun r279 τ279 H locs p279 h => ?_)
            rw [p279.1] at h
            refine lv_if_eq (tgt := 289) hx hb dX12_readLaw_282 (by decide) (fun c282 => ?_) (fun c282 => ?_)
            · refine lv_aload_n hx hb dX12_readLaw_289 rfl (lv_at hl 4 rfl) ?_
              refine lv_bipush (v := 98) hx hb dX12_readLaw_290 (by decide) ?_
              refine lv_bipush (v := 97) hx hb dX12_readLaw_292 (by decide) ?_
              refine lv_bipush (v := 116) hx hb dX12_readLaw_294 (by decide) ?_
              refine lv_bipush (v := 104) hx hb dX12_readLaw_296 (by decide) ?_
              refine lv_bipush (v := 115) hx hb dX12_readLaw_298 (by decide) ?_
              refine k_i h (q_runV (As := [.int 98, .int 97, .int 116, .int 104, .int 115]) (rest := []) E h (c_X12_isWord l D cy a τ250 98 97 116 104 115) co_X12_isWord ml_X12_269 im_X12_isWord se_X12_isWord in_X12 (eM_0 cy a τ250) rfl ok_X12_isWord rfl ⟨by decide, by decide⟩ hl.1 rfl (Nat.le_of_ble_eq_true rfl) dX12_readLaw_300 ⟨Nat.zero_le _, Nat.zero_le _⟩) (wM_fst cy a) (fun r300 τ300 H locs p300 h => ?_)
              rw [p300.1] at h
              refine lv_if_eq (tgt := 310) hx hb dX12_readLaw_303 (by decide) (fun c303 => ?_) (fun c303 => ?_)
              · refine lv_iconst (v := 2) hx hb dX12_readLaw_310 (by decide) ?_
                exact jn311 2 _ _ _ trivial h (lv_sub hl [0, 1, 2, 3, 4] rfl)
              · refine lv_iconst (v := 1) hx hb dX12_readLaw_306 (by decide) ?_
                refine lv_goto (tgt := 311) hx hb dX12_readLaw_307 (by decide) ?_
                exact jn311 1 _ _ _ trivial h (lv_sub hl [0, 1, 2, 3, 4] rfl)
            · refine lv_iconst (v := 0) hx hb dX12_readLaw_285 (by decide) ?_
              refine lv_goto (tgt := 311) hx hb dX12_readLaw_286 (by decide) ?_
              exact jn311 0 _ _ _ trivial h (lv_sub hl [0, 1, 2, 3, 4] rfl)
        refine lv_aload_n hx hb dX12_readLaw_240 rfl (lv_at hl 3 rfl) ?_
        refine lv_iload_n hx hb dX12_readLaw_241 rfl (lv_at hl 0 rfl) ?_
        refine lv_if_lt (tgt := 249) hx hb dX12_readLaw_242 (by decide) (fun c242 => ?_) (fun c242 => ?_)
        · refine lv_iconst (v := 0) hx hb dX12_readLaw_249 (by decide) ?_
          exact jn250 0 _ _ _ trivial h (lv_sub hl [0, 1, 2, 3] rfl)
        · refine lv_iconst (v := 1) hx hb dX12_readLaw_245 (by decide) ?_
          refine lv_goto (tgt := 250) hx hb dX12_readLaw_246 (by decide) ?_
          exact jn250 1 _ _ _ trivial h (lv_sub hl [0, 1, 2, 3] rfl)
      refine lv_aload_n hx hb dX12_readLaw_115 rfl (lv_at hl 2 rfl) ?_
      refine lv_bipush (v := 102) hx hb dX12_readLaw_116 (by decide) ?_
      refine lv_bipush (v := 105) hx hb dX12_readLaw_118 (by decide) ?_
      refine lv_bipush (v := 114) hx hb dX12_readLaw_120 (by decide) ?_
      refine lv_bipush (v := 115) hx hb dX12_readLaw_122 (by decide) ?_
      refine lv_bipush (v := 116) hx hb dX12_readLaw_124 (by decide) ?_
      refine k_i h (q_runV (As := [.int 102, .int 105, .int 114, .int 115, .int 116]) (rest := []) E h (c_X12_isWord l D cy a ω 102 105 114 115 116) co_X12_isWord ml_X12_269 im_X12_isWord se_X12_isWord in_X12 (eM_0 cy a ω) rfl ok_X12_isWord rfl ⟨by decide, by decide⟩ hl.1 rfl (Nat.le_of_ble_eq_true rfl) dX12_readLaw_126 ⟨Nat.zero_le _, Nat.zero_le _⟩) (wM_fst cy a) (fun r126 τ126 H locs p126 h => ?_)
      rw [p126.1] at h
      refine lv_if_eq (tgt := 136) hx hb dX12_readLaw_129 (by decide) (fun c129 => ?_) (fun c129 => ?_)
      · refine lv_aload_n hx hb dX12_readLaw_136 rfl (lv_at hl 2 rfl) ?_
        refine lv_bipush (v := 104) hx hb dX12_readLaw_137 (by decide) ?_
        refine lv_bipush (v := 101) hx hb dX12_readLaw_139 (by decide) ?_
        refine lv_bipush (v := 105) hx hb dX12_readLaw_141 (by decide) ?_
        refine lv_bipush (v := 114) hx hb dX12_readLaw_143 (by decide) ?_
        refine lv_bipush (v := 115) hx hb dX12_readLaw_145 (by decide) ?_
        refine k_i h (q_runV (As := [.int 104, .int 101, .int 105, .int 114, .int 115]) (rest := []) E h (c_X12_isWord l D cy a ω 104 101 105 114 115) co_X12_isWord ml_X12_269 im_X12_isWord se_X12_isWord in_X12 (eM_0 cy a ω) rfl ok_X12_isWord rfl ⟨by decide, by decide⟩ hl.1 rfl (Nat.le_of_ble_eq_true rfl) dX12_readLaw_147 ⟨Nat.zero_le _, Nat.zero_le _⟩) (wM_fst cy a) (fun r147 τ147 H locs p147 h => ?_)
        rw [p147.1] at h
        refine lv_if_eq (tgt := 157) hx hb dX12_readLaw_150 (by decide) (fun c150 => ?_) (fun c150 => ?_)
        · refine lv_aload_n hx hb dX12_readLaw_157 rfl (lv_at hl 2 rfl) ?_
          refine lv_bipush (v := 114) hx hb dX12_readLaw_158 (by decide) ?_
          refine lv_bipush (v := 101) hx hb dX12_readLaw_160 (by decide) ?_
          refine lv_bipush (v := 110) hx hb dX12_readLaw_162 (by decide) ?_
          refine lv_bipush (v := 116) hx hb dX12_readLaw_164 (by decide) ?_
          refine lv_iconst (v := 0) hx hb dX12_readLaw_166 (by decide) ?_
          refine k_i h (q_runV (As := [.int 114, .int 101, .int 110, .int 116, .int 0]) (rest := []) E h (c_X12_isWord l D cy a ω 114 101 110 116 0) co_X12_isWord ml_X12_269 im_X12_isWord se_X12_isWord in_X12 (eM_0 cy a ω) rfl ok_X12_isWord rfl ⟨by decide, by decide⟩ hl.1 rfl (Nat.le_of_ble_eq_true rfl) dX12_readLaw_167 ⟨Nat.zero_le _, Nat.zero_le _⟩) (wM_fst cy a) (fun r167 τ167 H locs p167 h => ?_)
          rw [p167.1] at h
          refine lv_if_eq (tgt := 177) hx hb dX12_readLaw_170 (by decide) (fun c170 => ?_) (fun c170 => ?_)
          · refine lv_aload_n hx hb dX12_readLaw_177 rfl (lv_at hl 2 rfl) ?_
            refine lv_bipush (v := 102) hx hb dX12_readLaw_178 (by decide) ?_
            refine lv_bipush (v := 105) hx hb dX12_readLaw_180 (by decide) ?_
            refine lv_bipush (v := 110) hx hb dX12_readLaw_182 (by decide) ?_
            refine lv_bipush (v := 101) hx hb dX12_readLaw_184 (by decide) ?_
            refine lv_iconst (v := 0) hx hb dX12_readLaw_186 (by decide) ?_
            refine k_i h (q_runV (As := [.int 102, .int 105, .int 110, .int 101, .int 0]) (rest := []) E h (c_X12_isWord l D cy a ω 102 105 110 101 0) co_X12_isWord ml_X12_269 im_X12_isWord se_X12_isWord in_X12 (eM_0 cy a ω) rfl ok_X12_isWord rfl ⟨by decide, by decide⟩ hl.1 rfl (Nat.le_of_ble_eq_true rfl) dX12_readLaw_187 ⟨Nat.zero_le _, Nat.zero_le _⟩) (wM_fst cy a) (fun r187 τ187 H locs p187 h => ?_)
            rw [p187.1] at h
            refine lv_if_eq (tgt := 197) hx hb dX12_readLaw_190 (by decide) (fun c190 => ?_) (fun c190 => ?_)
            · refine lv_aload_n hx hb dX12_readLaw_197 rfl (lv_at hl 2 rfl) ?_
              refine lv_bipush (v := 109) hx hb dX12_readLaw_198 (by decide) ?_
              refine lv_bipush (v := 111) hx hb dX12_readLaw_200 (by decide) ?_
              refine lv_bipush (v := 115) hx hb dX12_readLaw_202 (by decide) ?_
              refine lv_bipush (v := 116) hx hb dX12_readLaw_204 (by decide) ?_
              refine lv_iconst (v := 0) hx hb dX12_readLaw_206 (by decide) ?_
              refine k_i h (q_runV (As := [.int 109, .int 111, .int 115, .int 116, .int 0]) (rest := []) E h (c_X12_isWord l D cy a ω 109 111 115 116 0) co_X12_isWord ml_X12_269 im_X12_isWord se_X12_isWord in_X12 (eM_0 cy a ω) rfl ok_X12_isWord rfl ⟨by decide, by decide⟩ hl.1 rfl (Nat.le_of_ble_eq_true rfl) dX12_readLaw_207 ⟨Nat.zero_le _, Nat.zero_le _⟩) (wM_fst cy a) (fun r207 τ207 H locs p207 h => ?_)
              rw [p207.1] at h
              refine lv_if_eq (tgt := 217) hx hb dX12_readLaw_210 (by decide) (fun c210 => ?_) (fun c210 => ?_)
              · refine lv_aload_n hx hb dX12_readLaw_217 rfl (lv_at hl 2 rfl) ?_
                refine lv_bipush (v := 99) hx hb dX12_readLaw_218 (by decide) ?_
                refine lv_bipush (v := 108) hx hb dX12_readLaw_220 (by decide) ?_
                refine lv_bipush (v := 111) hx hb dX12_readLaw_222 (by decide) ?_
                refine lv_bipush (v := 115) hx hb dX12_readLaw_224 (by decide) ?_
                refine lv_bipush (v := 101) hx hb dX12_readLaw_226 (by decide) ?_
                refine k_i h (q_runV (As := [.int 99, .int 108, .int 111, .int 115, .int 101]) (rest := []) E h (c_X12_isWord l D cy a ω 99 108 111 115 101) co_X12_isWord ml_X12_269 im_X12_isWord se_X12_isWord in_X12 (eM_0 cy a ω) rfl ok_X12_isWord rfl ⟨by decide, by decide⟩ hl.1 rfl (Nat.le_of_ble_eq_true rfl) dX12_readLaw_228 ⟨Nat.zero_le _, Nat.zero_le _⟩) (wM_fst cy a) (fun r228 τ228 H locs p228 h => ?_)
                rw [p228.1] at h
                refine lv_if_eq (tgt := 238) hx hb dX12_readLaw_231 (by decide) (fun c231 => ?_) (fun c231 => ?_)
                · refine lv_iconst (v := -1) hx hb dX12_readLaw_238 (by decide) ?_
                  exact jn239 (-1) _ _ _ trivial h (lv_sub hl [0, 1, 2] rfl)
                · refine lv_iconst (v := 5) hx hb dX12_readLaw_234 (by decide) ?_
                  refine lv_goto (tgt := 239) hx hb dX12_readLaw_235 (by decide) ?_
                  exact jn239 5 _ _ _ trivial h (lv_sub hl [0, 1, 2] rfl)
              · refine lv_iconst (v := 4) hx hb dX12_readLaw_213 (by decide) ?_
                refine lv_goto (tgt := 239) hx hb dX12_readLaw_214 (by decide) ?_
                exact jn239 4 _ _ _ trivial h (lv_sub hl [0, 1, 2] rfl)
            · refine lv_iconst (v := 3) hx hb dX12_readLaw_193 (by decide) ?_
              refine lv_goto (tgt := 239) hx hb dX12_readLaw_194 (by decide) ?_
              exact jn239 3 _ _ _ trivial h (lv_sub hl [0, 1, 2] rfl)
          · refine lv_iconst (v := 2) hx hb dX12_readLaw_173 (by decide) ?_
            refine lv_goto (tgt := 239) hx hb dX12_readLaw_174 (by decide) ?_
            exact jn239 2 _ _ _ trivial h (lv_sub hl [0, 1, 2] rfl)
        · refine lv_iconst (v := 1) hx hb dX12_readLaw_153 (by decide) ?_
          refine lv_goto (tgt := 239) hx hb dX12_readLaw_154 (by decide) ?_
          exact jn239 1 _ _ _ trivial h (lv_sub hl [0, 1, 2] rfl)
      · refine lv_iconst (v := 0) hx hb dX12_readLaw_132 (by decide) ?_
        refine lv_goto (tgt := 239) hx hb dX12_readLaw_133 (by decide) ?_
        exact jn239 0 _ _ _ trivial h (lv_sub hl [0, 1, 2] rfl)
    refine lv_aload_n hx hb dX12_readLaw_46 rfl (lv_at hl 2 rfl) ?_
    refine r_get E h 48 (v := .int (τ38.1 18)) (eM_0 cy a τ38) rfl fw_X12 (by decide) fl_X12_255 rfl dX12_readLaw_47 ?_
    refine lv_if_ne (tgt := 115) hx hb dX12_readLaw_50 (by decide) (fun c50 => ?_) (fun c50 => ?_)
    · exact jn115 200 τ38 _ _ _ s38 h (lv_sub hl [0, 1, 2] rfl)
    · refine lv_aload_n hx hb dX12_readLaw_53 rfl (lv_at hl 2 rfl) ?_
      refine lv_bipush (v := 116) hx hb dX12_readLaw_54 (by decide) ?_
      refine lv_bipush (v := 111) hx hb dX12_readLaw_56 (by decide) ?_
      refine lv_iconst (v := 0) hx hb dX12_readLaw_58 (by decide) ?_
      refine lv_iconst (v := 0) hx hb dX12_readLaw_59 (by decide) ?_
      refine lv_iconst (v := 0) hx hb dX12_readLaw_60 (by decide) ?_
      refine k_i h (q_runV (As := [.int 116, .int 111, .int 0, .int 0, .int 0]) (rest := []) E h (c_X12_isWord l D cy a τ38 116 111 0 0 0) co_X12_isWord ml_X12_269 im_X12_isWord se_X12_isWord in_X12 (eM_0 cy a τ38) rfl ok_X12_isWord rfl ⟨by decide, by decide⟩ hl.1 rfl (Nat.le_of_ble_eq_true rfl) dX12_readLaw_61 ⟨Nat.zero_le _, Nat.zero_le _⟩) (wM_fst cy a) (fun r61 τ61 H locs p61 h => ?_)
      rw [p61.1] at h
      refine lv_if_eq (tgt := 115) hx hb dX12_readLaw_64 (by decide) (fun c64 => ?_) (fun c64 => ?_)
      · exact jn115 200 τ38 _ _ _ s38 h (lv_sub hl [0, 1, 2] rfl)
      · refine lv_aload_n hx hb dX12_readLaw_67 rfl (lv_at hl 2 rfl) ?_
        refine k_v h (q_runV (As := []) (rest := []) E h (c_X12_next l D cy a τ38 n ((s38.1.1 13 (by decide)).trans hn) hn4 s38.2.1) co_X12_next ml_X12_259 im_X12_next se_X12_next in_X12 (eM_0 cy a τ38) rfl ok_X12_next rfl ⟨by decide, by decide⟩ hl.1 rfl (Nat.le_of_ble_eq_true rfl) dX12_readLaw_68 ⟨Nat.zero_le _, Nat.zero_le _⟩) (wM_fst cy a) (fun τ68 H locs p68 h => ?_)
        have s68 : K kb kA σ τ68 ∧ TO n τ68 ∧ (τ68.1 18 = 0 → mm < 30) := ⟨s38.1.tr (kn_b p68.1), p68.2, fun q9 => s38.2.2 ((p68.1.1 18 (by decide)).symm.trans q9)⟩
        refine lv_aload_n hx hb dX12_readLaw_71 rfl (lv_at hl 2 rfl) ?_
        refine r_get E h 46 (v := .long (τ68.2.2 0)) (eM_0 cy a τ68) rfl fw_X12 (by decide) fl_X12_230 rfl dX12_readLaw_72 ?_
        refine lv_l2i hx hb dX12_readLaw_75 rfl ?_
        refine lv_istore_n (lv' := [(2, .int ((τ68.2.2 0).toInt32)), (1, .int r38), (0, .ref (a 0))]) hx hb dX12_readLaw_76 rfl hl (by decide) rfl (fun ls hl => ?_)
        have jn112 : ∀ (v2 : Int32) (H : Heap) (locs : List Loc) (ls : Array Slot), (True) → HW D (AM a) s (wM cy a τ68) H locs → lv_has ls 5 [(2, .int ((τ68.2.2 0).toInt32)), (1, .int r38), (0, .ref (a 0))] → W p l e (rmOf 4 84) s m args below meth c H locs 0 0 (MQ below (va_Qv (fun τ => K mF mA σ τ ∧ TO n τ ∧ ((τ.1 18 = 0 ∧ mm < 30 ∧ τ.1 12 = nI (mm + 1)) ∨ (¬ τ.1 18 = 0 ∧ τ.1 12 = nI mm))) (fun u t => va_P D vwCl (wM cy a u) t.heap) (AM a)) args s 0 0 (AM a)) (F0 m 112 ls [.int v2, .ref (a 0)]) := by
          intro v2 H locs ls hj112 h hl
          refine k_v h (q_runV (As := [.int v2]) (rest := []) E h (c_X12_must l D cy a τ68 v2 n ((s68.1.1 13 (by decide)).trans hn) hn4 s68.2.1) co_X12_must ml_X12_262 im_X12_must se_X12_must in_X12 (eM_0 cy a τ68) rfl ok_X12_must rfl ⟨by decide, by decide⟩ hl.1 rfl (Nat.le_of_ble_eq_true rfl) dX12_readLaw_112 ⟨Nat.zero_le _, Nat.zero_le _⟩) (wM_fst cy a) (fun τ112 H locs p112 h => ?_)
          exact jn115 ((τ68.2.2 0).toInt32) τ112 _ _ _ ⟨s68.1.tr p112.1, p112.2.1, fun q9 => s68.2.2 (p112.2.2 q9).1⟩ h (lv_sub hl [0, 1, 2] rfl)
        refine lv_aload_n hx hb dX12_readLaw_77 rfl (lv_at hl 2 rfl) ?_
        refine lv_aload_n hx hb dX12_readLaw_78 rfl (lv_at hl 2 rfl) ?_
        refine r_get E h 45 (v := .int (τ68.1 16)) (eM_0 cy a τ68) rfl fw_X12 (by decide) fl_X12_240 rfl dX12_readLaw_79 ?_
        refine lv_iconst (v := 2) hx hb dX12_readLaw_82 (by decide) ?_
        refine lv_icmp_ne (tgt := 111) hx hb dX12_readLaw_83 (by decide) (fun c83 => ?_) (fun c83 => ?_)
        · refine lv_iconst (v := 0) hx hb dX12_readLaw_111 (by decide) ?_
          exact jn112 0 _ _ _ trivial h (lv_sub hl [0, 1, 2] rfl)
        · refine lv_aload_n hx hb dX12_readLaw_86 rfl (lv_at hl 2 rfl) ?_
          refine r_get E h 46 (v := .long (τ68.2.2 0)) (eM_0 cy a τ68) rfl fw_X12 (by decide) fl_X12_230 rfl dX12_readLaw_87 ?_
          refine lv_ldc2 (v := 200) hx hb E.2.2.2.1 (E.2.2.2.2.1 _ kl_X12_137) dX12_readLaw_90 ?_
          refine W.lcmp hx hb dX12_readLaw_93 ?_
          refine lv_if_gt (tgt := 111) hx hb dX12_readLaw_94 (by decide) (fun c94 => ?_) (fun c94 => ?_)
          · refine lv_iconst (v := 0) hx hb dX12_readLaw_111 (by decide) ?_
            exact jn112 0 _ _ _ trivial h (lv_sub hl [0, 1, 2] rfl)
          · refine lv_aload_n hx hb dX12_readLaw_97 rfl (lv_at hl 2 rfl) ?_
            refine r_get E h 46 (v := .long (τ68.2.2 0)) (eM_0 cy a τ68) rfl fw_X12 (by decide) fl_X12_230 rfl dX12_readLaw_98 ?_
            refine lv_iload_n hx hb dX12_readLaw_101 rfl (lv_at hl 1 rfl) ?_
            refine lv_i2l hx hb dX12_readLaw_102 rfl ?_
            refine W.lcmp hx hb dX12_readLaw_103 ?_
            refine lv_if_lt (tgt := 111) hx hb dX12_readLaw_104 (by decide) (fun c104 => ?_) (fun c104 => ?_)
            · refine lv_iconst (v := 0) hx hb dX12_readLaw_111 (by decide) ?_
              exact jn112 0 _ _ _ trivial h (lv_sub hl [0, 1, 2] rfl)
            · refine lv_iconst (v := 1) hx hb dX12_readLaw_107 (by decide) ?_
              refine lv_goto (tgt := 112) hx hb dX12_readLaw_108 (by decide) ?_
              exact jn112 1 _ _ _ trivial h (lv_sub hl [0, 1, 2] rfl)
  refine lv_aload_n hx hb dX12_readLaw_0 rfl (lv_at hl 0 rfl) ?_
  refine lv_aload_n hx hb dX12_readLaw_1 rfl (lv_at hl 0 rfl) ?_
  refine r_get E h 40 (v := .int (nI mm)) (eM_0 cy a σ) rfl fw_X12 (by decide) fl_X12_266 (congrArg (fun z => some (Value.int z)) hm) dX12_readLaw_2 ?_
  refine lv_bipush (v := 30) hx hb dX12_readLaw_5 (by decide) ?_
  refine lv_icmp_ge (tgt := 30) hx hb dX12_readLaw_7 (by decide) (fun c7 => ?_) (fun c7 => ?_)
  · refine lv_iconst (v := 0) hx hb dX12_readLaw_30 (by decide) ?_
    exact jn31 0 _ _ _ (fun q9 => absurd rfl q9) h (lv_sub hl [0] rfl)
  · have c7 : mm < 30 := Nat.lt_of_not_le fun q9 => c7 ((nI_leI (a := 30) (by decide) (by omega)).mpr q9)
    refine lv_aload_n hx hb dX12_readLaw_10 rfl (lv_at hl 0 rfl) ?_
    refine lv_bipush (v := 102) hx hb dX12_readLaw_11 (by decide) ?_
    refine lv_bipush (v := 114) hx hb dX12_readLaw_13 (by decide) ?_
    refine lv_bipush (v := 111) hx hb dX12_readLaw_15 (by decide) ?_
    refine lv_bipush (v := 109) hx hb dX12_readLaw_17 (by decide) ?_
    refine lv_iconst (v := 0) hx hb dX12_readLaw_19 (by decide) ?_
    refine k_i h (q_runV (As := [.int 102, .int 114, .int 111, .int 109, .int 0]) (rest := [.ref (a 0)]) E h (c_X12_isWord l D cy a σ 102 114 111 109 0) co_X12_isWord ml_X12_269 im_X12_isWord se_X12_isWord in_X12 (eM_0 cy a σ) rfl ok_X12_isWord rfl ⟨by decide, by decide⟩ hl.1 rfl (Nat.le_of_ble_eq_true rfl) dX12_readLaw_20 ⟨Nat.zero_le _, Nat.zero_le _⟩) (wM_fst cy a) (fun r20 τ20 H locs p20 h => ?_)
    rw [p20.1] at h
    refine lv_if_eq (tgt := 30) hx hb dX12_readLaw_23 (by decide) (fun c23 => ?_) (fun c23 => ?_)
    · refine lv_iconst (v := 0) hx hb dX12_readLaw_30 (by decide) ?_
      exact jn31 0 _ _ _ (fun q9 => absurd rfl q9) h (lv_sub hl [0] rfl)
    · refine lv_iconst (v := 1) hx hb dX12_readLaw_26 (by decide) ?_
      refine lv_goto (tgt := 31) hx hb dX12_readLaw_27 (by decide) ?_
      exact jn31 1 _ _ _ (fun _ => c7) h (lv_sub hl [0] rfl)
