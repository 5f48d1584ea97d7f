
theorem add64 {x y : Int64} (h1 : -4611686018427387904 ≤ x.toInt + y.toInt) (h2 : x.toInt + y.toInt < 4611686018427387904) : (x + y).toInt = x.toInt + y.toInt := by
  rw [Int64.toInt_add]
  exact Int.bmod_eq_of_le (by omega) (by omega)
theorem sum_ok {u : Int64} {w : Int32} {k : Nat} (hk : k ≤ 100) (h1 : (k : Int) ≤ u.toInt) (h2 : u.toInt ≤ 100000 * (k : Int)) (hw : WT w) : ((k + 1 : Nat) : Int) ≤ (u + w.toInt64).toInt ∧ (u + w.toInt64).toInt ≤ 100000 * ((k + 1 : Nat) : Int) := by
  obtain ⟨w1, w2⟩ := hw
  have e : w.toInt64.toInt = w.toInt := Int32.toInt_toInt64 w
  rw [add64 (by rw [e]; omega) (by rw [e]; omega), e]
  omega
theorem nz64 {u : Int64} {k z : Nat} (h : (z : Int) ≤ u.toInt) (hk : k < z) : ¬ u = 0 := by
  intro e
  subst e
  have e0 : (0 : Int64).toInt = 0 := rfl
  omega
theorem sub_sub32 (x y v : Int32) : x - y - v = x - (y + v) := by
  apply Int32.toBitVec_inj.mp
  simp only [Int32.toBitVec_sub, Int32.toBitVec_add]
  rw [BitVec.sub_sub]
theorem dec32 {T u : Int32} (h : ¬ u = T) : (T - (u + 1)).toBitVec.toNat < (T - u).toBitVec.toNat := by
  have h1 : T - u ≠ 0 := by
    intro q
    apply h
    have q2 : (T - u) + u = 0 + u := by rw [q]
    rw [Int32.sub_add_cancel, Int32.zero_add] at q2
    exact q2.symm
  have h2 : T - (u + 1) = (T - u) - 1 := (sub_sub32 T u 1).symm
  rw [h2, Int32.toBitVec_sub]
  have h3 : (T - u).toBitVec.toNat ≠ 0 := by
    intro q
    apply h1
    apply Int32.toBitVec_inj.mp
    apply BitVec.eq_of_toNat_eq
    rw [q]; rfl
  have h4 : (1 : Int32).toBitVec.toNat = 1 := rfl
  have h5 := (T - u).toBitVec.isLt
  rw [BitVec.toNat_sub, h4]
  omega
/-- what is left behind loss, and what is known of a castle where it flowed -/
def FND (σ : St) (i : Nat) : Prop := σ.2.1 30 i = (σ.2.1 31 i - σ.2.1 32 i) - (((σ.2.1 31 i - σ.2.1 32 i).toInt64 * (σ.2.1 7 i).toInt64) / 1000).toInt32
def mA2 : List Nat := 30 :: 31 :: 32 :: mA
theorem m2 {σ τ : St} (h : K mF mA2 σ τ) : K mF mA σ τ := K.sub h (fun _ h => h) (fun _ h => List.mem_cons_of_mem _ (List.mem_cons_of_mem _ (List.mem_cons_of_mem _ h)))
def PK (Pr : Int32 → Prop) (b : Nat) (τ : St) : Prop := ∃ y, y ≤ b ∧ τ.1 19 = nI y ∧ ∀ i, i < y → Pr (τ.2.1 37 i) ∧ WT (τ.2.1 38 i)
theorem fr_self {σ : St} {k : Nat} : σ = fR σ k (σ.2.1 k) := by
  obtain ⟨a, b, c⟩ := σ
  unfold fR
  dsimp only
  congr 2
  funext j
  unfold va_up
  by_cases e : j = k
  · subst e; rw [if_pos rfl]
  · rw [if_neg e]
theorem sh_put {σ τ : St} {f : Nat → Int32} (h : ∃ f, τ = fR σ 39 f) : ∃ f2, fR τ 39 f = fR σ 39 f2 := ⟨f, by
  obtain ⟨g, rfl⟩ := h
  unfold fR
  dsimp only
  rw [bx_uu]⟩

set_option maxHeartbeats 4000000 in
set_option maxRecDepth 100000 in
theorem c_X12_deal (l : Launch) (D : va_G) (cy : Nat → ClassId) (a : Nat → Nat) (σ : St) (x : Int32) (z : Nat) (hz : σ.1 19 = nI z) (hz8 : z ≤ 80) (hw : ∀ i, i < z → WT (σ.2.1 38 i)) : CI l yX12_deal cX12_deal 6 (some .int) (rmOf 0 0) D cy (wM cy a) (AM a) [.ref (a 0), .int x] σ (fun _ τ => ∃ f, τ = fR σ 39 f) := by
  refine c_of (lv := [(0, .ref (a 0)), (1, .int x)]) rfl (Nat.le_of_ble_eq_true rfl) rfl ?_
  intro p e s m args below meth c ls E h hr hk hl
  have hx := E.1
  have hb := E.2.1
  refine lv_lconst (v := 0) hx hb dX12_deal_0 (by decide) ?_
  refine lv_lstore_n (lv' := [(2, .long 0), (0, .ref (a 0)), (1, .int x)]) hx hb dX12_deal_1 rfl hl (by decide) rfl (fun ls hl => ?_)
  refine lv_iconst (v := 0) hx hb dX12_deal_2 (by decide) ?_
  refine lv_istore (lv' := [(4, .int 0), (2, .long 0), (0, .ref (a 0)), (1, .int x)]) hx hb dX12_deal_3 hl (by decide) rfl (fun ls hl => ?_)
  have lp5 : ∀ (f : Nat) (k : Nat) (u : Int64) (H : Heap) (locs : List Loc) (ls : Array Slot), (k ≤ z ∧ (k : Int) ≤ u.toInt ∧ u.toInt ≤ 100000 * (k : Int)) → (z - k) < f → HW D (AM a) s (wM cy a σ) H locs → lv_has ls 6 [(4, .int (nI k)), (2, .long u), (0, .ref (a 0)), (1, .int x)] → W p l e (rmOf 0 0) s m args below meth c H locs 0 0 (MQ below (va_Qi (fun _ τ => ∃ f, τ = fR σ 39 f) (fun u t => va_P D vwCl (wM cy a u) t.heap) (AM a)) args s 0 0 (AM a)) (F0 m 5 ls []) := by
    intro f
    induction f with
    | zero => intro k u H locs ls _ hf; exact absurd hf (Nat.not_lt_zero _)
    | succ f ih5 =>
      intro k u H locs ls hi5 hf5 h hl
      refine lv_iload hx hb dX12_deal_5 (lv_at hl 0 rfl) ?_
      refine lv_aload_n hx hb dX12_deal_7 rfl (lv_at hl 2 rfl) ?_
      refine r_get E h 59 (v := .int (nI z)) (eM_0 cy a σ) rfl fw_X12 (by decide) fl_X12_289 (congrArg (fun z => some (Value.int z)) hz) dX12_deal_8 ?_
      refine lv_icmp_ge (tgt := 31) hx hb dX12_deal_11 (by decide) (fun c11 => ?_) (fun c11 => ?_)
      · have c11 : z ≤ k := (nI_leI (a := z) (b := k) (by omega) (by omega)).mp c11
        refine lv_iconst (v := 0) hx hb dX12_deal_31 (by decide) ?_
        refine lv_istore (lv' := [(4, .int 0), (2, .long u), (0, .ref (a 0)), (1, .int x)]) hx hb dX12_deal_32 hl (by decide) rfl (fun ls hl => ?_)
        refine lv_iconst (v := 0) hx hb dX12_deal_34 (by decide) ?_
        refine lv_istore (lv' := [(5, .int 0), (4, .int 0), (2, .long u), (0, .ref (a 0)), (1, .int x)]) hx hb dX12_deal_35 hl (by decide) rfl (fun ls hl => ?_)
        have lp37 : ∀ (f : Nat) (i : Nat) (v : Int32) (τ : St) (H : Heap) (locs : List Loc) (ls : Array Slot), (i ≤ z ∧ ∃ f, τ = fR σ 39 f) → (z - i) < f → HW D (AM a) s (wM cy a τ) H locs → lv_has ls 6 [(5, .int (nI i)), (4, .int v), (2, .long u), (0, .ref (a 0)), (1, .int x)] → W p l e (rmOf 0 0) s m args below meth c H locs 0 0 (MQ below (va_Qi (fun _ τ => ∃ f, τ = fR σ 39 f) (fun u t => va_P D vwCl (wM cy a u) t.heap) (AM a)) args s 0 0 (AM a)) (F0 m 37 ls []) := by
          intro f
          induction f with
          | zero => intro i v τ H locs ls _ hf; exact absurd hf (Nat.not_lt_zero _)
          | succ f ih37 =>
            intro i v τ H locs ls hi37 hf37 h hl
            have hzt : τ.1 19 = nI z := by obtain ⟨f, e⟩ := hi37.2; rw [e]; exact hz
            refine lv_iload hx hb dX12_deal_37 (lv_at hl 0 rfl) ?_
            refine lv_aload_n hx hb dX12_deal_39 rfl (lv_at hl 3 rfl) ?_
            refine r_get E h 59 (v := .int (nI z)) (eM_0 cy a τ) rfl fw_X12 (by decide) fl_X12_289 (congrArg (fun z => some (Value.int z)) hzt) dX12_deal_40 ?_
            refine lv_icmp_ge (tgt := 102) hx hb dX12_deal_43 (by decide) (fun c43 => ?_) (fun c43 => ?_)
            · refine lv_iconst (v := 0) hx hb dX12_deal_102 (by decide) ?_
              refine lv_istore (lv' := [(5, .int 0), (4, .int v), (2, .long u), (0, .ref (a 0)), (1, .int x)]) hx hb dX12_deal_103 hl (by decide) rfl (fun ls hl => ?_)
              have lp105 : ∀ (f : Nat) (i : Nat) (v : Int32) (τ : St) (H : Heap) (locs : List Loc) (ls : Array Slot), (i ≤ z ∧ ∃ f, τ = fR σ 39 f) → (z - i) < f → HW D (AM a) s (wM cy a τ) H locs → lv_has ls 6 [(5, .int (nI i)), (4, .int v), (2, .long u), (0, .ref (a 0)), (1, .int x)] → W p l e (rmOf 0 0) s m args below meth c H locs 0 0 (MQ below (va_Qi (fun _ τ => ∃ f, τ = fR σ 39 f) (fun u t => va_P D vwCl (wM cy a u) t.heap) (AM a)) args s 0 0 (AM a)) (F0 m 105 ls []) := by
                intro f
                induction f with
                | zero => intro i v τ H locs ls _ hf; exact absurd hf (Nat.not_lt_zero _)
                | succ f ih105 =>
                  intro i v τ H locs ls hi105 hf105 h hl
                  have hzt : τ.1 19 = nI z := by obtain ⟨f, e⟩ := hi105.2; rw [e]; exact hz
                  refine lv_iload hx hb dX12_deal_105 (lv_at hl 0 rfl) ?_
                  refine lv_aload_n hx hb dX12_deal_107 rfl (lv_at hl 3 rfl) ?_
                  refine r_get E h 59 (v := .int (nI z)) (eM_0 cy a τ) rfl fw_X12 (by decide) fl_X12_289 (congrArg (fun z => some (Value.int z)) hzt) dX12_deal_108 ?_
                  refine lv_icmp_ge (tgt := 147) hx hb dX12_deal_111 (by decide) (fun c111 => ?_) (fun c111 => ?_)
                  · refine lv_iload hx hb dX12_deal_147 (lv_at hl 1 rfl) ?_
                    exact t_i E h hr hk hi105.2 dX12_deal_149
                  · have c111 : i < z := Nat.lt_of_not_le fun q9 => c111 ((nI_leI (a := z) (b := i) (by omega) (by omega)).mpr q9)
                    refine lv_lload_n hx hb dX12_deal_114 rfl (lv_at hl 2 rfl) ?_
                    refine lv_iload_n hx hb dX12_deal_115 rfl (lv_at hl 4 rfl) ?_
                    refine lv_i2l hx hb dX12_deal_116 rfl ?_
                    refine W.lcmp hx hb dX12_deal_117 ?_
                    refine lv_if_le (tgt := 147) hx hb dX12_deal_118 (by decide) (fun c118 => ?_) (fun c118 => ?_)
                    · refine lv_iload hx hb dX12_deal_147 (lv_at hl 1 rfl) ?_
                      exact t_i E h hr hk hi105.2 dX12_deal_149
                    · refine lv_iload hx hb dX12_deal_121 (lv_at hl 1 rfl) ?_
                      refine lv_iload_n hx hb dX12_deal_123 rfl (lv_at hl 4 rfl) ?_
                      refine lv_icmp_ge (tgt := 147) hx hb dX12_deal_124 (by decide) (fun c124 => ?_) (fun c124 => ?_)
                      · refine lv_iload hx hb dX12_deal_147 (lv_at hl 1 rfl) ?_
                        exact t_i E h hr hk hi105.2 dX12_deal_149
                      · refine lv_aload_n hx hb dX12_deal_127 rfl (lv_at hl 3 rfl) ?_
                        refine r_get E h 58 (v := .ref (a 39)) (eM_0 cy a τ) rfl fw_X12 (by decide) fl_X12_128 rfl dX12_deal_128 ?_
                        refine lv_iload hx hb dX12_deal_131 (lv_at hl 0 rfl) ?_
                        refine lv_dup2_11 hx hb dX12_deal_133 rfl rfl ?_
                        refine r_ialdN E h (f := τ.2.1 39) (eM_39 cy a τ) (j := i) (by omega) (by decide) (v := τ.2.1 39 i) rfl dX12_deal_134 ?_
                        refine lv_iconst (v := 1) hx hb dX12_deal_135 (by decide) ?_
                        refine lv_iadd hx hb dX12_deal_136 ?_
                        refine r_iastN E h (f := τ.2.1 39) (eM_39 cy a τ) (j := i) (by omega) (by decide) (qM_39 cy a τ (upd (τ.2.1 39) i ((τ.2.1 39 i) + 1))) dX12_deal_137 (fun H locs h => ?_)
                        refine lv_iinc (v := v + 1) (lv' := [(4, .int (v + 1)), (5, .int (nI i)), (2, .long u), (0, .ref (a 0)), (1, .int x)]) hx hb dX12_deal_138 hl (k := 1) rfl rfl (by decide) rfl (fun ls hl => ?_)
                        refine lv_iinc (v := nI (i + 1)) (lv' := [(5, .int (nI (i + 1))), (4, .int (v + 1)), (2, .long u), (0, .ref (a 0)), (1, .int x)]) hx hb dX12_deal_141 hl (k := 1) rfl (nI_succ i).symm (by decide) rfl (fun ls hl => ?_)
                        refine lv_goto (tgt := 105) hx hb dX12_deal_144 (by decide) ?_
                        exact ih105 (i + 1) (v + 1) (fR τ 39 (upd (τ.2.1 39) i ((τ.2.1 39 i) + 1))) _ _ _ ⟨by omega, sh_put hi105.2⟩ (by omega) h (lv_sub hl [0, 1, 2, 3, 4] rfl)
              exact lp105 _ 0 v τ _ _ _ ⟨Nat.zero_le _, hi37.2⟩ (Nat.lt_succ_self _) h (lv_sub hl [0, 1, 2, 3, 4] rfl)
            · have c43 : i < z := Nat.lt_of_not_le fun q9 => c43 ((nI_leI (a := z) (b := i) (by omega) (by omega)).mpr q9)
              refine lv_aload_n hx hb dX12_deal_46 rfl (lv_at hl 3 rfl) ?_
              refine r_get E h 58 (v := .ref (a 39)) (eM_0 cy a τ) rfl fw_X12 (by decide) fl_X12_128 rfl dX12_deal_47 ?_
              refine lv_iload hx hb dX12_deal_50 (lv_at hl 0 rfl) ?_
              refine lv_lload_n hx hb dX12_deal_52 rfl (lv_at hl 2 rfl) ?_
              refine lv_iload_n hx hb dX12_deal_53 rfl (lv_at hl 4 rfl) ?_
              refine lv_i2l hx hb dX12_deal_54 rfl ?_
              refine W.lcmp hx hb dX12_deal_55 ?_
              refine lv_if_gt (tgt := 69) hx hb dX12_deal_56 (by decide) (fun c56 => ?_) (fun c56 => ?_)
              · refine lv_iload_n hx hb dX12_deal_69 rfl (lv_at hl 4 rfl) ?_
                refine lv_i2l hx hb dX12_deal_70 rfl ?_
                refine lv_aload_n hx hb dX12_deal_71 rfl (lv_at hl 3 rfl) ?_
                refine r_get E h 57 (v := .ref (a 38)) (eM_0 cy a τ) rfl fw_X12 (by decide) fl_X12_125 rfl dX12_deal_72 ?_
                refine lv_iload hx hb dX12_deal_75 (lv_at hl 0 rfl) ?_
                refine r_ialdN E h (f := τ.2.1 38) (eM_38 cy a τ) (j := i) (by omega) (by decide) (v := τ.2.1 38 i) rfl dX12_deal_77 ?_
                refine lv_i2l hx hb dX12_deal_78 rfl ?_
                refine lv_lmul hx hb dX12_deal_79 ?_
                refine lv_lload_n hx hb dX12_deal_80 rfl (lv_at hl 2 rfl) ?_
                refine lv_ldiv hx hb dX12_deal_81 (nz64 (show (z : Int) ≤ u.toInt by have := hi5.2.1; omega) c43) ?_
                refine lv_l2i hx hb dX12_deal_82 rfl ?_
                refine r_iastN E h (f := τ.2.1 39) (eM_39 cy a τ) (j := i) (by omega) (by decide) (qM_39 cy a τ (upd (τ.2.1 39) i (((x.toInt64 * ((τ.2.1 38 i).toInt64)) / u).toInt32))) dX12_deal_83 (fun H locs h => ?_)
                refine lv_iload hx hb dX12_deal_84 (lv_at hl 1 rfl) ?_
                refine lv_aload_n hx hb dX12_deal_86 rfl (lv_at hl 3 rfl) ?_
                refine r_get E h 58 (v := .ref (a 39)) (eM_0 cy a (fR τ 39 (upd (τ.2.1 39) i (((x.toInt64 * ((τ.2.1 38 i).toInt64)) / u).toInt32)))) rfl fw_X12 (by decide) fl_X12_128 rfl dX12_deal_87 ?_
                refine lv_iload hx hb dX12_deal_90 (lv_at hl 0 rfl) ?_
                refine r_ialdN E h (f := upd (τ.2.1 39) i (((x.toInt64 * ((τ.2.1 38 i).toInt64)) / u).toInt32)) (eM_39 cy a (fR τ 39 (upd (τ.2.1 39) i (((x.toInt64 * ((τ.2.1 38 i).toInt64)) / u).toInt32)))) (j := i) (by omega) (by decide) (v := (upd (τ.2.1 39) i (((x.toInt64 * ((τ.2.1 38 i).toInt64)) / u).toInt32)) i) rfl dX12_deal_92 ?_
                refine lv_iadd hx hb dX12_deal_93 ?_
                refine lv_istore (lv' := [(4, .int (v + ((upd (τ.2.1 39) i (((x.toInt64 * ((τ.2.1 38 i).toInt64)) / u).toInt32)) i))), (5, .int (nI i)), (2, .long u), (0, .ref (a 0)), (1, .int x)]) hx hb dX12_deal_94 hl (by decide) rfl (fun ls hl => ?_)
                refine lv_iinc (v := nI (i + 1)) (lv' := [(5, .int (nI (i + 1))), (4, .int (v + ((upd (τ.2.1 39) i (((x.toInt64 * ((τ.2.1 38 i).toInt64)) / u).toInt32)) i))), (2, .long u), (0, .ref (a 0)), (1, .int x)]) hx hb dX12_deal_96 hl (k := 1) rfl (nI_succ i).symm (by decide) rfl (fun ls hl => ?_)
                refine lv_goto (tgt := 37) hx hb dX12_deal_99 (by decide) ?_
                exact ih37 (i + 1) (v + ((upd (τ.2.1 39) i (((x.toInt64 * ((τ.2.1 38 i).toInt64)) / u).toInt32)) i)) (fR τ 39 (upd (τ.2.1 39) i (((x.toInt64 * ((τ.2.1 38 i).toInt64)) / u).toInt32))) _ _ _ ⟨by omega, sh_put hi37.2⟩ (by omega) h (lv_sub hl [0, 1, 2, 3, 4] rfl)
              · refine lv_aload_n hx hb dX12_deal_59 rfl (lv_at hl 3 rfl) ?_
                refine r_get E h 57 (v := .ref (a 38)) (eM_0 cy a τ) rfl fw_X12 (by decide) fl_X12_125 rfl dX12_deal_60 ?_
                refine lv_iload hx hb dX12_deal_63 (lv_at hl 0 rfl) ?_
                refine r_ialdN E h (f := τ.2.1 38) (eM_38 cy a τ) (j := i) (by omega) (by decide) (v := τ.2.1 38 i) rfl dX12_deal_65 ?_
                refine lv_goto (tgt := 83) hx hb dX12_deal_66 (by decide) ?_
                refine r_iastN E h (f := τ.2.1 39) (eM_39 cy a τ) (j := i) (by omega) (by decide) (qM_39 cy a τ (upd (τ.2.1 39) i (τ.2.1 38 i))) dX12_deal_83 (fun H locs h => ?_)
                refine lv_iload hx hb dX12_deal_84 (lv_at hl 1 rfl) ?_
                refine lv_aload_n hx hb dX12_deal_86 rfl (lv_at hl 3 rfl) ?_
                refine r_get E h 58 (v := .ref (a 39)) (eM_0 cy a (fR τ 39 (upd (τ.2.1 39) i (τ.2.1 38 i)))) rfl fw_X12 (by decide) fl_X12_128 rfl dX12_deal_87 ?_
                refine lv_iload hx hb dX12_deal_90 (lv_at hl 0 rfl) ?_
                refine r_ialdN E h (f := upd (τ.2.1 39) i (τ.2.1 38 i)) (eM_39 cy a (fR τ 39 (upd (τ.2.1 39) i (τ.2.1 38 i)))) (j := i) (by omega) (by decide) (v := (upd (τ.2.1 39) i (τ.2.1 38 i)) i) rfl dX12_deal_92 ?_
                refine lv_iadd hx hb dX12_deal_93 ?_
                refine lv_istore (lv' := [(4, .int (v + ((upd (τ.2.1 39) i (τ.2.1 38 i)) i))), (5, .int (nI i)), (2, .long u), (0, .ref (a 0)), (1, .int x)]) hx hb dX12_deal_94 hl (by decide) rfl (fun ls hl => ?_)
                refine lv_iinc (v := nI (i + 1)) (lv' := [(5, .int (nI (i + 1))), (4, .int (v + ((upd (τ.2.1 39) i (τ.2.1 38 i)) i))), (2, .long u), (0, .ref (a 0)), (1, .int x)]) hx hb dX12_deal_96 hl (k := 1) rfl (nI_succ i).symm (by decide) rfl (fun ls hl => ?_)
                refine lv_goto (tgt := 37) hx hb dX12_deal_99 (by decide) ?_
                exact ih37 (i + 1) (v + ((upd (τ.2.1 39) i (τ.2.1 38 i)) i)) (fR τ 39 (upd (τ.2.1 39) i (τ.2.1 38 i))) _ _ _ ⟨by omega, sh_put hi37.2⟩ (by omega) h (lv_sub hl [0, 1, 2, 3, 4] rfl)
        exact lp37 _ 0 0 σ _ _ _ ⟨Nat.zero_le _, σ.2.1 39, fr_self⟩ (Nat.lt_succ_self _) h (lv_sub hl [0, 1, 2, 3, 4] rfl)
      · have c11 : k < z := Nat.lt_of_not_le fun q9 => c11 ((nI_leI (a := z) (b := k) (by omega) (by omega)).mpr q9)
        refine lv_lload_n hx hb dX12_deal_14 rfl (lv_at hl 1 rfl) ?_
        refine lv_aload_n hx hb dX12_deal_15 rfl (lv_at hl 2 rfl) ?_
        refine r_get E h 57 (v := .ref (a 38)) (eM_0 cy a σ) rfl fw_X12 (by decide) fl_X12_125 rfl dX12_deal_16 ?_
        refine lv_iload hx hb dX12_deal_19 (lv_at hl 0 rfl) ?_
        refine r_ialdN E h (f := σ.2.1 38) (eM_38 cy a σ) (j := k) (by omega) (by decide) (v := σ.2.1 38 k) rfl dX12_deal_21 ?_
        refine lv_i2l hx hb dX12_deal_22 rfl ?_
        refine lv_ladd hx hb dX12_deal_23 ?_
        refine lv_lstore_n (lv' := [(2, .long (u + ((σ.2.1 38 k).toInt64))), (4, .int (nI k)), (0, .ref (a 0)), (1, .int x)]) hx hb dX12_deal_24 rfl hl (by decide) rfl (fun ls hl => ?_)
        refine lv_iinc (v := nI (k + 1)) (lv' := [(4, .int (nI (k + 1))), (2, .long (u + ((σ.2.1 38 k).toInt64))), (0, .ref (a 0)), (1, .int x)]) hx hb dX12_deal_25 hl (k := 1) rfl (nI_succ k).symm (by decide) rfl (fun ls hl => ?_)
        refine lv_goto (tgt := 5) hx hb dX12_deal_28 (by decide) ?_
        exact ih5 (k + 1) (u + ((σ.2.1 38 k).toInt64)) _ _ _ ⟨by omega, sum_ok (by omega) hi5.2.1 hi5.2.2 (hw k c11)⟩ (by omega) h (lv_sub hl [0, 1, 2, 3] rfl)
  exact lp5 _ 0 0 _ _ _ ⟨Nat.zero_le _, by decide, by decide⟩ (Nat.lt_succ_self _) h (lv_sub hl [0, 1, 2, 3] rfl)
