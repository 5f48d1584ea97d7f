theorem gm_be {R : Nat} {σ τ : St}  (g : GM R σ) (h : K [2, 3, 4, 5, 6, 7, 8, 9, 10, 11, 13] [1, 2, 3, 4, 5, 6, 7, 8, 9, 10, 11, 12, 13, 14, 15, 16, 17, 18, 19, 20, 24, 25, 26, 27, 29] σ τ) : GM R τ := by
  obtain ⟨g1, g2, g3, g4, g5, g6, g7, g8, g9, g10, g11⟩ := g
  refine ⟨?_, ?_, ?_, ?_, ?_, ?_, ?_, ?_, ?_, ?_, ?_⟩
  · rw [h.1 3 (by decide)]; exact g1
  · rw [h.1 4 (by decide)]; exact g2
  · rw [h.1 5 (by decide), h.2 6 (by decide)]; exact g3
  · rw [h.1 6 (by decide)]; exact g4
  · rw [h.1 7 (by decide)]; exact g5
  · rw [h.1 8 (by decide), h.2 12 (by decide)]; exact g6
  · rw [h.1 9 (by decide)]; exact g7
  · rw [h.1 10 (by decide)]; exact g8
  · rw [h.1 11 (by decide)]; exact g9
  · rw [h.1 13 (by decide)]; exact g10
  · rw [h.1 2 (by decide)]; exact g11

set_option maxHeartbeats 4000000 in
set_option maxRecDepth 100000 in
theorem c_X12_laws (l : Launch) (D : va_G) (cy : Nat → ClassId) (a : Nat → Nat) (σ : St)  (g : GM 40 σ) : CI l yX12_laws cX12_laws 2 (some .int) (rmOf 5 108) D cy (wM cy a) (AM a) [.ref (a 0)] σ (fun _ τ => K [2, 3, 4, 5, 6, 7, 8, 9, 10] [1, 2, 3, 4, 5, 6, 7, 8, 9, 10, 11, 12, 13, 14, 15, 16, 17, 18, 19, 20, 21, 22, 23, 29] σ τ ∧ GM 40 τ ∧ τ.1 13 = 0) := by
  refine c_of (lv := [(0, .ref (a 0))]) rfl (Nat.le_of_ble_eq_true rfl) rfl ?_
  intro p e s m args below meth c ls E h hr hk hl
  have hx := E.1
  have hb := E.2.1
  obtain ⟨⟨nq, hq4, hq⟩, ⟨ns, hs6, hs⟩, ⟨nc, hc12, hc, hcw⟩, ⟨np, hp4, hp⟩, ⟨nd, hd6, hd⟩, ⟨nz, hz8, hz, hzw⟩, ⟨nt, ht6, ht⟩, ⟨nr, hr4, hrp⟩, ⟨nl, hl3, hla⟩, ⟨nx, hx4, hxt⟩, ⟨nn, hn2, hnow⟩⟩ := id g
  refine lv_aload_n hx hb dX12_laws_0 rfl (lv_at hl 0 rfl) ?_
  refine lv_iconst (v := 0) hx hb dX12_laws_1 (by decide) ?_
  refine r_put E h 0 (ty := .int) (eM_0 cy a σ) rfl fw_X12 tyX12_ok nmX12 (by decide) fl_X12_131 rfl (by decide +kernel) rfl rfl (Nat.le_of_ble_eq_true rfl) (sM_0 cy a σ 0) dX12_laws_2 (fun H locs h => ?_)
  refine lv_aload_n hx hb dX12_laws_5 rfl (lv_at hl 0 rfl) ?_
  refine lv_iconst (v := 0) hx hb dX12_laws_6 (by decide) ?_
  refine r_put E h 44 (ty := .int) (eM_0 cy a (fF σ 0 0)) rfl fw_X12 tyX12_ok nmX12 (by decide) fl_X12_224 rfl (by decide +kernel) rfl rfl (Nat.le_of_ble_eq_true rfl) (sM_15 cy a (fF σ 0 0) 0) dX12_laws_7 (fun H locs h => ?_)
  refine lv_aload_n hx hb dX12_laws_10 rfl (lv_at hl 0 rfl) ?_
  refine lv_iconst (v := 0) hx hb dX12_laws_11 (by decide) ?_
  refine r_put E h 48 (ty := .boolean) (eM_0 cy a (fF (fF σ 0 0) 15 0)) rfl fw_X12 tyX12_ok nmX12 (by decide) fl_X12_255 rfl (by decide +kernel) rfl rfl (Nat.le_of_ble_eq_true rfl) (sM_18 cy a (fF (fF σ 0 0) 15 0) 0) dX12_laws_12 (fun H locs h => ?_)
  refine lv_aload_n hx hb dX12_laws_15 rfl (lv_at hl 0 rfl) ?_
  refine lv_iconst (v := -1) hx hb dX12_laws_16 (by decide) ?_
  refine r_put E h 47 (ty := .int) (eM_0 cy a (fF (fF (fF σ 0 0) 15 0) 18 0)) rfl fw_X12 tyX12_ok nmX12 (by decide) fl_X12_97 rfl (by decide +kernel) rfl rfl (Nat.le_of_ble_eq_true rfl) (sM_17 cy a (fF (fF (fF σ 0 0) 15 0) 18 0) (-1)) dX12_laws_17 (fun H locs h => ?_)
  refine lv_aload_n hx hb dX12_laws_20 rfl (lv_at hl 0 rfl) ?_
  refine lv_iconst (v := 0) hx hb dX12_laws_21 (by decide) ?_
  refine r_put E h 40 (ty := .int) (eM_0 cy a (fF (fF (fF (fF σ 0 0) 15 0) 18 0) 17 (-1))) rfl fw_X12 tyX12_ok nmX12 (by decide) fl_X12_266 rfl (by decide +kernel) rfl rfl (Nat.le_of_ble_eq_true rfl) (sM_12 cy a (fF (fF (fF (fF σ 0 0) 15 0) 18 0) 17 (-1)) 0) dX12_laws_22 (fun H locs h => ?_)
  refine lv_aload_n hx hb dX12_laws_25 rfl (lv_at hl 0 rfl) ?_
  refine k_v h (q_runV (As := []) (rest := []) E h (c_X12_next l D cy a (fF (fF (fF (fF (fF σ 0 0) 15 0) 18 0) 17 (-1)) 12 0) nx hxt hx4 ⟨0, Nat.zero_le _, rfl⟩) co_X12_next ml_X12_259 im_X12_next se_X12_next in_X12 (eM_0 cy a (fF (fF (fF (fF (fF σ 0 0) 15 0) 18 0) 17 (-1)) 12 0)) rfl ok_X12_next rfl ⟨by decide, by decide⟩ hl.1 rfl (Nat.le_of_ble_eq_true rfl) dX12_laws_26 ⟨Nat.zero_le _, Nat.zero_le _⟩) (wM_fst cy a) (fun τ26 H locs p26 h => ?_)
  have k26 : K mF mA σ τ26 := (((((K.rf.F 0 _ (by decide)).F 15 _ (by decide)).F 18 _ (by decide)).F 17 _ (by decide)).F 12 _ (by decide)).tr (kb_m (kn_b p26.1))
  have m26 : τ26.1 12 = nI 0 := p26.1.1 12 (by decide)
  have jn96 : ∀ (m2 : Nat) (ψ : St) (H : Heap) (locs : List Loc) (ls : Array Slot), (K mF mA σ ψ ∧ m2 ≤ 30 ∧ ψ.1 12 = nI m2) → HW D (AM a) s (wM cy a ψ) H locs → lv_has ls 2 [(0, .ref (a 0))] → W p l e (rmOf 5 108) s m args below meth c H locs 0 0 (MQ below (va_Qi (fun _ τ => K [2, 3, 4, 5, 6, 7, 8, 9, 10] [1, 2, 3, 4, 5, 6, 7, 8, 9, 10, 11, 12, 13, 14, 15, 16, 17, 18, 19, 20, 21, 22, 23, 29] σ τ ∧ GM 40 τ ∧ τ.1 13 = 0) (fun u t => va_P D vwCl (wM cy a u) t.heap) (AM a)) args s 0 0 (AM a)) (F0 m 96 ls []) := by
    intro m2 ψ H locs ls hj96 h hl
    refine lv_aload_n hx hb dX12_laws_96 rfl (lv_at hl 0 rfl) ?_
    refine lv_iconst (v := 0) hx hb dX12_laws_97 (by decide) ?_
    refine r_put E h 42 (ty := .int) (eM_0 cy a ψ) rfl fw_X12 tyX12_ok nmX12 (by decide) fl_X12_217 rfl (by decide +kernel) rfl rfl (Nat.le_of_ble_eq_true rfl) (sM_13 cy a ψ 0) dX12_laws_98 (fun H locs h => ?_)
    refine lv_aload_n hx hb dX12_laws_101 rfl (lv_at hl 0 rfl) ?_
    refine r_get E h 48 (v := .int (ψ.1 18)) (eM_0 cy a (fF ψ 13 0)) rfl fw_X12 (by decide) fl_X12_255 rfl dX12_laws_102 ?_
    refine lv_if_eq (tgt := 115) hx hb dX12_laws_105 (by decide) (fun c105 => ?_) (fun c105 => ?_)
    · refine lv_aload_n hx hb dX12_laws_115 rfl (lv_at hl 0 rfl) ?_
      refine lv_aload_n hx hb dX12_laws_116 rfl (lv_at hl 0 rfl) ?_
      refine r_get E h 40 (v := .int (nI m2)) (eM_0 cy a (fF ψ 13 0)) rfl fw_X12 (by decide) fl_X12_266 (congrArg (fun z => some (Value.int z)) hj96.2.2) dX12_laws_117 ?_
      refine r_put E h 34 (ty := .int) (eM_0 cy a (fF ψ 13 0)) rfl fw_X12 tyX12_ok nmX12 (by decide) fl_X12_210 rfl (by decide +kernel) rfl rfl (Nat.le_of_ble_eq_true rfl) (sM_11 cy a (fF ψ 13 0) (nI m2)) dX12_laws_120 (fun H locs h => ?_)
      refine lv_iconst (v := 0) hx hb dX12_laws_123 (by decide) ?_
      refine lv_istore_n (lv' := [(1, .int 0), (0, .ref (a 0))]) hx hb dX12_laws_124 rfl hl (by decide) rfl (fun ls hl => ?_)
      have lp125 : ∀ (f : Nat) (k : Nat) (ξ : St) (H : Heap) (locs : List Loc) (ls : Array Slot), (k ≤ m2 ∧ K [2, 3, 4, 5, 6, 7, 8, 9, 10] [1, 2, 3, 4, 5, 6, 7, 8, 9, 10, 11, 12, 13, 14, 15, 16, 17, 18, 19, 20, 21, 22, 23, 29] σ ξ ∧ ξ.1 11 = nI m2 ∧ ξ.1 13 = 0) → (m2 - k) < f → HW D (AM a) s (wM cy a ξ) H locs → lv_has ls 2 [(1, .int (nI k)), (0, .ref (a 0))] → W p l e (rmOf 5 108) s m args below meth c H locs 0 0 (MQ below (va_Qi (fun _ τ => K [2, 3, 4, 5, 6, 7, 8, 9, 10] [1, 2, 3, 4, 5, 6, 7, 8, 9, 10, 11, 12, 13, 14, 15, 16, 17, 18, 19, 20, 21, 22, 23, 29] σ τ ∧ GM 40 τ ∧ τ.1 13 = 0) (fun u t => va_P D vwCl (wM cy a u) t.heap) (AM a)) args s 0 0 (AM a)) (F0 m 125 ls []) := by
        intro f
        induction f with
        | zero => intro k ξ H locs ls _ hf; exact absurd hf (Nat.not_lt_zero _)
        | succ f ih125 =>
          intro k ξ H locs ls hi125 hf125 h hl
          refine lv_iload_n hx hb dX12_laws_125 rfl (lv_at hl 0 rfl) ?_
          refine lv_aload_n hx hb dX12_laws_126 rfl (lv_at hl 1 rfl) ?_
          refine r_get E h 34 (v := .int (nI m2)) (eM_0 cy a ξ) rfl fw_X12 (by decide) fl_X12_210 (congrArg (fun z => some (Value.int z)) hi125.2.2.1) dX12_laws_127 ?_
          refine lv_icmp_ge (tgt := 201) hx hb dX12_laws_130 (by decide) (fun c130 => ?_) (fun c130 => ?_)
          · refine lv_aload_n hx hb dX12_laws_201 rfl (lv_at hl 1 rfl) ?_
            refine lv_aload_n hx hb dX12_laws_202 rfl (lv_at hl 1 rfl) ?_
            refine r_get E h 34 (v := .int (nI m2)) (eM_0 cy a ξ) rfl fw_X12 (by decide) fl_X12_210 (congrArg (fun z => some (Value.int z)) hi125.2.2.1) dX12_laws_203 ?_
            refine k_i h (q_runV (As := [.int (nI m2)]) (rest := []) E h (c_X12_told l D cy a ξ (nI m2)) co_X12_told ml_X12_154 im_X12_told se_X12_told in_X12 (eM_0 cy a ξ) rfl ok_X12_told rfl ⟨by decide, by decide⟩ hl.1 rfl (Nat.le_of_ble_eq_true rfl) dX12_laws_206 ⟨Nat.zero_le _, Nat.zero_le _⟩) (wM_fst cy a) (fun r206 τ206 H locs p206 h => ?_)
            refine t_i E h hr hk ?_ dX12_laws_209
            obtain ⟨v9, e9⟩ := p206.2
            have k9 : K [2, 3, 4, 5, 6, 7, 8, 9, 10] [1, 2, 3, 4, 5, 6, 7, 8, 9, 10, 11, 12, 13, 14, 15, 16, 17, 18, 19, 20, 21, 22, 23, 29] σ τ206 := by rw [e9]; exact hi125.2.1.F 1 _ (by decide)
            exact ⟨k9, gm_la (k := m2) (t := 0) hj96.2.1 (by rw [e9]; exact hi125.2.2.1) (by decide) (by rw [e9]; exact hi125.2.2.2) g k9, by rw [e9]; exact hi125.2.2.2⟩
          · have c130 : k < m2 := Nat.lt_of_not_le fun q9 => c130 ((nI_leI (a := m2) (b := k) (by omega) (by omega)).mpr q9)
            refine lv_aload_n hx hb dX12_laws_133 rfl (lv_at hl 1 rfl) ?_
            refine r_get E h 35 (v := .ref (a 24)) (eM_0 cy a ξ) rfl fw_X12 (by decide) fl_X12_79 rfl dX12_laws_134 ?_
            refine lv_iload_n hx hb dX12_laws_137 rfl (lv_at hl 0 rfl) ?_
            refine lv_aload_n hx hb dX12_laws_138 rfl (lv_at hl 1 rfl) ?_
            refine r_get E h 39 (v := .ref (a 28)) (eM_0 cy a ξ) rfl fw_X12 (by decide) fl_X12_91 rfl dX12_laws_139 ?_
            refine lv_iconst (v := 4) hx hb dX12_laws_142 (by decide) ?_
            refine lv_iload_n hx hb dX12_laws_143 rfl (lv_at hl 0 rfl) ?_
            refine n_mul (j := 4) (k := k) hx hb dX12_laws_144 ?_
            refine r_ialdN E h (f := ξ.2.1 28) (eM_28 cy a ξ) (j := 4 * k) (by omega) (by decide) (v := ξ.2.1 28 (4 * k)) rfl dX12_laws_145 ?_
            refine r_iastN E h (f := ξ.2.1 24) (eM_24 cy a ξ) (j := k) (by omega) (by decide) (qM_24 cy a ξ (upd (ξ.2.1 24) k (ξ.2.1 28 (4 * k)))) dX12_laws_146 (fun H locs h => ?_)
            refine lv_aload_n hx hb dX12_laws_147 rfl (lv_at hl 1 rfl) ?_
            refine r_get E h 36 (v := .ref (a 25)) (eM_0 cy a (fR ξ 24 (upd (ξ.2.1 24) k (ξ.2.1 28 (4 * k))))) rfl fw_X12 (by decide) fl_X12_82 rfl dX12_laws_148 ?_
            refine lv_iload_n hx hb dX12_laws_151 rfl (lv_at hl 0 rfl) ?_
            refine lv_aload_n hx hb dX12_laws_152 rfl (lv_at hl 1 rfl) ?_
            refine r_get E h 39 (v := .ref (a 28)) (eM_0 cy a (fR ξ 24 (upd (ξ.2.1 24) k (ξ.2.1 28 (4 * k))))) rfl fw_X12 (by decide) fl_X12_91 rfl dX12_laws_153 ?_
            refine lv_iconst (v := 4) hx hb dX12_laws_156 (by decide) ?_
            refine lv_iload_n hx hb dX12_laws_157 rfl (lv_at hl 0 rfl) ?_
            refine n_mul (j := 4) (k := k) hx hb dX12_laws_158 ?_
            refine lv_iconst (v := 1) hx hb dX12_laws_159 (by decide) ?_
            refine n_add (j := 4 * k) (k := 1) hx hb dX12_laws_160 ?_
            refine r_ialdN E h (f := ξ.2.1 28) (eM_28 cy a (fR ξ 24 (upd (ξ.2.1 24) k (ξ.2.1 28 (4 * k))))) (j := (4 * k) + 1) (by omega) (by decide) (v := ξ.2.1 28 ((4 * k) + 1)) rfl dX12_laws_161 ?_
            refine r_iastN E h (f := ξ.2.1 25) (eM_25 cy a (fR ξ 24 (upd (ξ.2.1 24) k (ξ.2.1 28 (4 * k))))) (j := k) (by omega) (by decide) (qM_25 cy a (fR ξ 24 (upd (ξ.2.1 24) k (ξ.2.1 28 (4 * k)))) (upd (ξ.2.1 25) k (ξ.2.1 28 ((4 * k) + 1)))) dX12_laws_162 (fun H locs h => ?_)
            refine lv_aload_n hx hb dX12_laws_163 rfl (lv_at hl 1 rfl) ?_
            refine r_get E h 37 (v := .ref (a 26)) (eM_0 cy a (fR (fR ξ 24 (upd (ξ.2.1 24) k (ξ.2.1 28 (4 * k)))) 25 (upd (ξ.2.1 25) k (ξ.2.1 28 ((4 * k) + 1))))) rfl fw_X12 (by decide) fl_X12_85 rfl dX12_laws_164 ?_
            refine lv_iload_n hx hb dX12_laws_167 rfl (lv_at hl 0 rfl) ?_
            refine lv_aload_n hx hb dX12_laws_168 rfl (lv_at hl 1 rfl) ?_
            refine r_get E h 39 (v := .ref (a 28)) (eM_0 cy a (fR (fR ξ 24 (upd (ξ.2.1 24) k (ξ.2.1 28 (4 * k)))) 25 (upd (ξ.2.1 25) k (ξ.2.1 28 ((4 * k) + 1))))) rfl fw_X12 (by decide) fl_X12_91 rfl dX12_laws_169 ?_
            refine lv_iconst (v := 4) hx hb dX12_laws_172 (by decide) ?_
            refine lv_iload_n hx hb dX12_laws_173 rfl (lv_at hl 0 rfl) ?_
            refine n_mul (j := 4) (k := k) hx hb dX12_laws_174 ?_
            refine lv_iconst (v := 2) hx hb dX12_laws_175 (by decide) ?_
            refine n_add (j := 4 * k) (k := 2) hx hb dX12_laws_176 ?_
            refine r_ialdN E h (f := ξ.2.1 28) (eM_28 cy a (fR (fR ξ 24 (upd (ξ.2.1 24) k (ξ.2.1 28 (4 * k)))) 25 (upd (ξ.2.1 25) k (ξ.2.1 28 ((4 * k) + 1))))) (j := (4 * k) + 2) (by omega) (by decide) (v := ξ.2.1 28 ((4 * k) + 2)) rfl dX12_laws_177 ?_
            refine r_iastN E h (f := ξ.2.1 26) (eM_26 cy a (fR (fR ξ 24 (upd (ξ.2.1 24) k (ξ.2.1 28 (4 * k)))) 25 (upd (ξ.2.1 25) k (ξ.2.1 28 ((4 * k) + 1))))) (j := k) (by omega) (by decide) (qM_26 cy a (fR (fR ξ 24 (upd (ξ.2.1 24) k (ξ.2.1 28 (4 * k)))) 25 (upd (ξ.2.1 25) k (ξ.2.1 28 ((4 * k) + 1)))) (upd (ξ.2.1 26) k (ξ.2.1 28 ((4 * k) + 2)))) dX12_laws_178 (fun H locs h => ?_)
            refine lv_aload_n hx hb dX12_laws_179 rfl (lv_at hl 1 rfl) ?_
            refine r_get E h 38 (v := .ref (a 27)) (eM_0 cy a (fR (fR (fR ξ 24 (upd (ξ.2.1 24) k (ξ.2.1 28 (4 * k)))) 25 (upd (ξ.2.1 25) k (ξ.2.1 28 ((4 * k) + 1)))) 26 (upd (ξ.2.1 26) k (ξ.2.1 28 ((4 * k) + 2))))) rfl fw_X12 (by decide) fl_X12_88 rfl dX12_laws_180 ?_
            refine lv_iload_n hx hb dX12_laws_183 rfl (lv_at hl 0 rfl) ?_
            refine lv_aload_n hx hb dX12_laws_184 rfl (lv_at hl 1 rfl) ?_
            refine r_get E h 39 (v := .ref (a 28)) (eM_0 cy a (fR (fR (fR ξ 24 (upd (ξ.2.1 24) k (ξ.2.1 28 (4 * k)))) 25 (upd (ξ.2.1 25) k (ξ.2.1 28 ((4 * k) + 1)))) 26 (upd (ξ.2.1 26) k (ξ.2.1 28 ((4 * k) + 2))))) rfl fw_X12 (by decide) fl_X12_91 rfl dX12_laws_185 ?_
            refine lv_iconst (v := 4) hx hb dX12_laws_188 (by decide) ?_
            refine lv_iload_n hx hb dX12_laws_189 rfl (lv_at hl 0 rfl) ?_
            refine n_mul (j := 4) (k := k) hx hb dX12_laws_190 ?_
            refine lv_iconst (v := 3) hx hb dX12_laws_191 (by decide) ?_
            refine n_add (j := 4 * k) (k := 3) hx hb dX12_laws_192 ?_
            refine r_ialdN E h (f := ξ.2.1 28) (eM_28 cy a (fR (fR (fR ξ 24 (upd (ξ.2.1 24) k (ξ.2.1 28 (4 * k)))) 25 (upd (ξ.2.1 25) k (ξ.2.1 28 ((4 * k) + 1)))) 26 (upd (ξ.2.1 26) k (ξ.2.1 28 ((4 * k) + 2))))) (j := (4 * k) + 3) (by omega) (by decide) (v := ξ.2.1 28 ((4 * k) + 3)) rfl dX12_laws_193 ?_
            refine r_iastN E h (f := ξ.2.1 27) (eM_27 cy a (fR (fR (fR ξ 24 (upd (ξ.2.1 24) k (ξ.2.1 28 (4 * k)))) 25 (upd (ξ.2.1 25) k (ξ.2.1 28 ((4 * k) + 1)))) 26 (upd (ξ.2.1 26) k (ξ.2.1 28 ((4 * k) + 2))))) (j := k) (by omega) (by decide) (qM_27 cy a (fR (fR (fR ξ 24 (upd (ξ.2.1 24) k (ξ.2.1 28 (4 * k)))) 25 (upd (ξ.2.1 25) k (ξ.2.1 28 ((4 * k) + 1)))) 26 (upd (ξ.2.1 26) k (ξ.2.1 28 ((4 * k) + 2)))) (upd (ξ.2.1 27) k (ξ.2.1 28 ((4 * k) + 3)))) dX12_laws_194 (fun H locs h => ?_)
            refine lv_iinc (v := nI (k + 1)) (lv' := [(1, .int (nI (k + 1))), (0, .ref (a 0))]) hx hb dX12_laws_195 hl (k := 0) rfl (nI_succ k).symm (by decide) rfl (fun ls hl => ?_)
            refine lv_goto (tgt := 125) hx hb dX12_laws_198 (by decide) ?_
            exact ih125 (k + 1) (fR (fR (fR (fR ξ 24 (upd (ξ.2.1 24) k (ξ.2.1 28 (4 * k)))) 25 (upd (ξ.2.1 25) k (ξ.2.1 28 ((4 * k) + 1)))) 26 (upd (ξ.2.1 26) k (ξ.2.1 28 ((4 * k) + 2)))) 27 (upd (ξ.2.1 27) k (ξ.2.1 28 ((4 * k) + 3)))) _ _ _ ⟨by omega, (((hi125.2.1.R 24 _ (by decide)).R 25 _ (by decide)).R 26 _ (by decide)).R 27 _ (by decide), hi125.2.2.1, hi125.2.2.2⟩ (by omega) h (lv_sub hl [0, 1] rfl)
      exact lp125 _ 0 (fF (fF ψ 13 0) 11 (nI m2)) _ _ _ ⟨Nat.zero_le _, ((K.sub hj96.1 (by decide) (by decide)).F 13 _ (by decide)).F 11 _ (by decide), rfl, rfl⟩ (Nat.lt_succ_self _) h (lv_sub hl [0, 1] rfl)
    · refine lv_aload_n hx hb dX12_laws_108 rfl (lv_at hl 0 rfl) ?_
      refine lv_bipush (v := -6) hx hb dX12_laws_109 (by decide) ?_
      refine k_i h (q_runV (As := [.int (-6)]) (rest := []) E h (c_X12_told l D cy a (fF ψ 13 0) (-6)) co_X12_told ml_X12_154 im_X12_told se_X12_told in_X12 (eM_0 cy a (fF ψ 13 0)) rfl ok_X12_told rfl ⟨by decide, by decide⟩ hl.1 rfl (Nat.le_of_ble_eq_true rfl) dX12_laws_111 ⟨Nat.zero_le _, Nat.zero_le _⟩) (wM_fst cy a) (fun r111 τ111 H locs p111 h => ?_)
      refine t_i E h hr hk ?_ dX12_laws_114
      obtain ⟨v9, e9⟩ := p111.2
      have k9 : K [2, 3, 4, 5, 6, 7, 8, 9, 10] [1, 2, 3, 4, 5, 6, 7, 8, 9, 10, 11, 12, 13, 14, 15, 16, 17, 18, 19, 20, 21, 22, 23, 29] σ τ111 := by rw [e9]; exact ((K.sub hj96.1 (by decide) (by decide)).F 13 _ (by decide)).F 1 _ (by decide)
      exact ⟨k9, gm_la (k := nl) (t := 0) hl3 (by rw [e9]; exact (hj96.1.1 11 (by decide)).trans hla) (by decide) (by rw [e9]; rfl) g k9, by rw [e9]; rfl⟩
  have k26 : K mF mA σ τ26 := (((((K.rf.F 0 _ (by decide)).F 15 _ (by decide)).F 18 _ (by decide)).F 17 _ (by decide)).F 12 _ (by decide)).tr (kb_m (kn_b p26.1))
  have m26 : τ26.1 12 = nI 0 := p26.1.1 12 (by decide)
  refine lv_aload_n hx hb dX12_laws_29 rfl (lv_at hl 0 rfl) ?_
  refine r_get E h 45 (v := .int (τ26.1 16)) (eM_0 cy a τ26) rfl fw_X12 (by decide) fl_X12_240 rfl dX12_laws_30 ?_
  refine lv_if_eq (tgt := 96) hx hb dX12_laws_33 (by decide) (fun c33 => ?_) (fun c33 => ?_)
  · exact jn96 _ τ26 _ _ _ ⟨k26, Nat.zero_le _, m26⟩ h (lv_sub hl [0] rfl)
  · refine lv_aload_n hx hb dX12_laws_36 rfl (lv_at hl 0 rfl) ?_
    refine k_v h (q_runV (As := []) (rest := []) E h (c_X12_readLaw l D cy a τ26 nx 0 ((k26.1 13 (by decide)).trans hxt) hx4 p26.2 m26 (by decide)) co_X12_readLaw ml_X12_281 im_X12_readLaw se_X12_readLaw in_X12 (eM_0 cy a τ26) rfl ok_X12_readLaw rfl ⟨by decide, by decide⟩ hl.1 rfl (Nat.le_of_ble_eq_true rfl) dX12_laws_37 ⟨Nat.zero_le _, Nat.zero_le _⟩) (wM_fst cy a) (fun τ37 H locs p37 h => ?_)
    obtain ⟨m1, hm1, em1⟩ : ∃ m1, m1 ≤ 30 ∧ τ37.1 12 = nI m1 := p37.2.2.elim (fun q => ⟨1, by decide, q.2.2⟩) (fun q => ⟨0, by decide, q.2⟩)
    have lp40 : ∀ (f : Nat) (mm : Nat) (ω : St) (H : Heap) (locs : List Loc) (ls : Array Slot), (K mF mA σ ω ∧ TO nx ω ∧ mm ≤ 30 ∧ ω.1 12 = nI mm) → (2 * (30 - mm) + (if ω.1 18 = 0 then 1 else 0)) < f → HW D (AM a) s (wM cy a ω) H locs → lv_has ls 2 [(0, .ref (a 0))] → W p l e (rmOf 5 108) s m args below meth c H locs 0 0 (MQ below (va_Qi (fun _ τ => K [2, 3, 4, 5, 6, 7, 8, 9, 10] [1, 2, 3, 4, 5, 6, 7, 8, 9, 10, 11, 12, 13, 14, 15, 16, 17, 18, 19, 20, 21, 22, 23, 29] σ τ ∧ GM 40 τ ∧ τ.1 13 = 0) (fun u t => va_P D vwCl (wM cy a u) t.heap) (AM a)) args s 0 0 (AM a)) (F0 m 40 ls []) := by
      intro f
      induction f with
      | zero => intro mm ω H locs ls _ hf; exact absurd hf (Nat.not_lt_zero _)
      | succ f ih40 =>
        intro mm ω H locs ls hi40 hf40 h hl
        refine lv_aload_n hx hb dX12_laws_40 rfl (lv_at hl 0 rfl) ?_
        refine r_get E h 48 (v := .int (ω.1 18)) (eM_0 cy a ω) rfl fw_X12 (by decide) fl_X12_255 rfl dX12_laws_41 ?_
        refine lv_if_ne (tgt := 77) hx hb dX12_laws_44 (by decide) (fun c44 => ?_) (fun c44 => ?_)
        · refine lv_aload_n hx hb dX12_laws_77 rfl (lv_at hl 0 rfl) ?_
          refine r_get E h 48 (v := .int (ω.1 18)) (eM_0 cy a ω) rfl fw_X12 (by decide) fl_X12_255 rfl dX12_laws_78 ?_
          refine lv_if_ne (tgt := 96) hx hb dX12_laws_81 (by decide) (fun c81 => ?_) (fun c81 => ?_)
          · exact jn96 _ ω _ _ _ ⟨hi40.1, hi40.2.2.1, hi40.2.2.2⟩ h (lv_sub hl [0] rfl)
          · refine lv_aload_n hx hb dX12_laws_84 rfl (lv_at hl 0 rfl) ?_
            refine r_get E h 45 (v := .int (ω.1 16)) (eM_0 cy a ω) rfl fw_X12 (by decide) fl_X12_240 rfl dX12_laws_85 ?_
            refine lv_if_eq (tgt := 96) hx hb dX12_laws_88 (by decide) (fun c88 => ?_) (fun c88 => ?_)
            · exact jn96 _ ω _ _ _ ⟨hi40.1, hi40.2.2.1, hi40.2.2.2⟩ h (lv_sub hl [0] rfl)
            · refine lv_aload_n hx hb dX12_laws_91 rfl (lv_at hl 0 rfl) ?_
              refine lv_iconst (v := 0) hx hb dX12_laws_92 (by decide) ?_
              refine k_v h (q_runV (As := [.int 0]) (rest := []) E h (c_X12_must l D cy a ω 0 nx ((hi40.1.1 13 (by decide)).trans hxt) hx4 hi40.2.1) co_X12_must ml_X12_262 im_X12_must se_X12_must in_X12 (eM_0 cy a ω) rfl ok_X12_must rfl ⟨by decide, by decide⟩ hl.1 rfl (Nat.le_of_ble_eq_true rfl) dX12_laws_93 ⟨Nat.zero_le _, Nat.zero_le _⟩) (wM_fst cy a) (fun τ93 H locs p93 h => ?_)
              exact jn96 _ τ93 _ _ _ ⟨hi40.1.tr (kb_m p93.1), hi40.2.2.1, (p93.1.1 12 (by decide)).trans hi40.2.2.2⟩ h (lv_sub hl [0] rfl)
        · refine lv_aload_n hx hb dX12_laws_47 rfl (lv_at hl 0 rfl) ?_
          refine r_get E h 45 (v := .int (ω.1 16)) (eM_0 cy a ω) rfl fw_X12 (by decide) fl_X12_240 rfl dX12_laws_48 ?_
          refine lv_iconst (v := 3) hx hb dX12_laws_51 (by decide) ?_
          refine lv_icmp_ne (tgt := 77) hx hb dX12_laws_52 (by decide) (fun c52 => ?_) (fun c52 => ?_)
          · refine lv_aload_n hx hb dX12_laws_77 rfl (lv_at hl 0 rfl) ?_
            refine r_get E h 48 (v := .int (ω.1 18)) (eM_0 cy a ω) rfl fw_X12 (by decide) fl_X12_255 rfl dX12_laws_78 ?_
            refine lv_if_ne (tgt := 96) hx hb dX12_laws_81 (by decide) (fun c81 => ?_) (fun c81 => ?_)
            · exact jn96 _ ω _ _ _ ⟨hi40.1, hi40.2.2.1, hi40.2.2.2⟩ h (lv_sub hl [0] rfl)
            · refine lv_aload_n hx hb dX12_laws_84 rfl (lv_at hl 0 rfl) ?_
              refine r_get E h 45 (v := .int (ω.1 16)) (eM_0 cy a ω) rfl fw_X12 (by decide) fl_X12_240 rfl dX12_laws_85 ?_
              refine lv_if_eq (tgt := 96) hx hb dX12_laws_88 (by decide) (fun c88 => ?_) (fun c88 => ?_)
              · exact jn96 _ ω _ _ _ ⟨hi40.1, hi40.2.2.1, hi40.2.2.2⟩ h (lv_sub hl [0] rfl)
              · refine lv_aload_n hx hb dX12_laws_91 rfl (lv_at hl 0 rfl) ?_
                refine lv_iconst (v := 0) hx hb dX12_laws_92 (by decide) ?_
                refine k_v h (q_runV (As := [.int 0]) (rest := []) E h (c_X12_must l D cy a ω 0 nx ((hi40.1.1 13 (by decide)).trans hxt) hx4 hi40.2.1) co_X12_must ml_X12_262 im_X12_must se_X12_must in_X12 (eM_0 cy a ω) rfl ok_X12_must rfl ⟨by decide, by decide⟩ hl.1 rfl (Nat.le_of_ble_eq_true rfl) dX12_laws_93 ⟨Nat.zero_le _, Nat.zero_le _⟩) (wM_fst cy a) (fun τ93 H locs p93 h => ?_)
                exact jn96 _ τ93 _ _ _ ⟨hi40.1.tr (kb_m p93.1), hi40.2.2.1, (p93.1.1 12 (by decide)).trans hi40.2.2.2⟩ h (lv_sub hl [0] rfl)
          · refine lv_aload_n hx hb dX12_laws_55 rfl (lv_at hl 0 rfl) ?_
            refine r_get E h 46 (v := .long (ω.2.2 0)) (eM_0 cy a ω) rfl fw_X12 (by decide) fl_X12_230 rfl dX12_laws_56 ?_
            refine lv_ldc2 (v := 59) hx hb E.2.2.2.1 (E.2.2.2.2.1 _ kl_X12_284) dX12_laws_59 ?_
            refine W.lcmp hx hb dX12_laws_62 ?_
            refine lv_if_ne (tgt := 77) hx hb dX12_laws_63 (by decide) (fun c63 => ?_) (fun c63 => ?_)
            · refine lv_aload_n hx hb dX12_laws_77 rfl (lv_at hl 0 rfl) ?_
              refine r_get E h 48 (v := .int (ω.1 18)) (eM_0 cy a ω) rfl fw_X12 (by decide) fl_X12_255 rfl dX12_laws_78 ?_
              refine lv_if_ne (tgt := 96) hx hb dX12_laws_81 (by decide) (fun c81 => ?_) (fun c81 => ?_)
              · exact jn96 _ ω _ _ _ ⟨hi40.1, hi40.2.2.1, hi40.2.2.2⟩ h (lv_sub hl [0] rfl)
              · refine lv_aload_n hx hb dX12_laws_84 rfl (lv_at hl 0 rfl) ?_
                refine r_get E h 45 (v := .int (ω.1 16)) (eM_0 cy a ω) rfl fw_X12 (by decide) fl_X12_240 rfl dX12_laws_85 ?_
                refine lv_if_eq (tgt := 96) hx hb dX12_laws_88 (by decide) (fun c88 => ?_) (fun c88 => ?_)
                · exact jn96 _ ω _ _ _ ⟨hi40.1, hi40.2.2.1, hi40.2.2.2⟩ h (lv_sub hl [0] rfl)
                · refine lv_aload_n hx hb dX12_laws_91 rfl (lv_at hl 0 rfl) ?_
                  refine lv_iconst (v := 0) hx hb dX12_laws_92 (by decide) ?_
                  refine k_v h (q_runV (As := [.int 0]) (rest := []) E h (c_X12_must l D cy a ω 0 nx ((hi40.1.1 13 (by decide)).trans hxt) hx4 hi40.2.1) co_X12_must ml_X12_262 im_X12_must se_X12_must in_X12 (eM_0 cy a ω) rfl ok_X12_must rfl ⟨by decide, by decide⟩ hl.1 rfl (Nat.le_of_ble_eq_true rfl) dX12_laws_93 ⟨Nat.zero_le _, Nat.zero_le _⟩) (wM_fst cy a) (fun τ93 H locs p93 h => ?_)
                  exact jn96 _ τ93 _ _ _ ⟨hi40.1.tr (kb_m p93.1), hi40.2.2.1, (p93.1.1 12 (by decide)).trans hi40.2.2.2⟩ h (lv_sub hl [0] rfl)
            · refine lv_aload_n hx hb dX12_laws_66 rfl (lv_at hl 0 rfl) ?_
              refine k_v h (q_runV (As := []) (rest := []) E h (c_X12_next l D cy a ω nx ((hi40.1.1 13 (by decide)).trans hxt) hx4 hi40.2.1) co_X12_next ml_X12_259 im_X12_next se_X12_next in_X12 (eM_0 cy a ω) rfl ok_X12_next rfl ⟨by decide, by decide⟩ hl.1 rfl (Nat.le_of_ble_eq_true rfl) dX12_laws_67 ⟨Nat.zero_le _, Nat.zero_le _⟩) (wM_fst cy a) (fun τ67 H locs p67 h => ?_)
              refine lv_aload_n hx hb dX12_laws_70 rfl (lv_at hl 0 rfl) ?_
              refine k_v h (q_runV (As := []) (rest := []) E h (c_X12_readLaw l D cy a τ67 nx mm (((hi40.1.tr (kb_m (kn_b p67.1))).1 13 (by decide)).trans hxt) hx4 p67.2 ((p67.1.1 12 (by decide)).trans hi40.2.2.2) hi40.2.2.1) co_X12_readLaw ml_X12_281 im_X12_readLaw se_X12_readLaw in_X12 (eM_0 cy a τ67) rfl ok_X12_readLaw rfl ⟨by decide, by decide⟩ hl.1 rfl (Nat.le_of_ble_eq_true rfl) dX12_laws_71 ⟨Nat.zero_le _, Nat.zero_le _⟩) (wM_fst cy a) (fun τ71 H locs p71 h => ?_)
              refine lv_goto (tgt := 40) hx hb dX12_laws_74 (by decide) ?_
              obtain ⟨m2, hm2, hmd⟩ : ∃ m2, (m2 ≤ 30 ∧ τ71.1 12 = nI m2) ∧ 2 * (30 - m2) + (if τ71.1 18 = 0 then 1 else 0) < 2 * (30 - mm) + 1 := by
                rcases p71.2.2 with ⟨q1, q2, q3⟩ | ⟨q1, q3⟩
                · exact ⟨mm + 1, ⟨by omega, q3⟩, by rw [if_pos q1]; omega⟩
                · exact ⟨mm, ⟨hi40.2.2.1, q3⟩, by rw [if_neg q1]; omega⟩
              exact ih40 m2 τ71 _ _ _ ⟨(hi40.1.tr (kb_m (kn_b p67.1))).tr p71.1, p71.2.1, hm2.1, hm2.2⟩ (by rw [if_pos c44] at hf40; omega) h (lv_sub hl [0] rfl)
    exact lp40 _ m1 τ37 _ _ _ ⟨k26.tr p37.1, p37.2.1, hm1, em1⟩ (Nat.lt_succ_self _) h (lv_sub hl [0] rfl)

theorem kb_10 {σ τ : St} {n : Nat} (h : K [2, 3, 4, 5, 6, 7, 8, 9, 11, 13] [1, 2, 3, 4, 5, 6, 7, 8, 9, 10, 11, 12, 13, 14, 15, 16, 17, 18, 19, 20, 24, 25, 26, 27, 29] σ τ) (hn : σ.1 10 = nI n) : K [2, 3, 4, 5, 6, 7, 8, 9, 10, 11, 13] [1, 2, 3, 4, 5, 6, 7, 8, 9, 10, 11, 12, 13, 14, 15, 16, 17, 18, 19, 20, 24, 25, 26, 27, 29] σ (fF τ 10 (nI n)) := by
  refine ⟨fun k hk => ?_, fun k hk => h.2 k (by revert k; decide)⟩
  show va_up τ.1 10 (nI n) k = _
  unfold va_up
  by_cases e : k = 10
  · subst e; rw [if_pos rfl, hn]
  · rw [if_neg e]
    refine h.1 k ?_
    revert e; revert hk; revert k
    decide
set_option maxHeartbeats 4000000 in
set_option maxRecDepth 100000 in
theorem c_X12_best (l : Launch) (D : va_G) (cy : Nat → ClassId) (a : Nat → Nat) (σ : St) (x y w v : Int32) (g : GM 40 σ) : CI l yX12_best cX12_best 11 (some .int) (rmOf 5 128) D cy (wM cy a) (AM a) [.ref (a 0), .int x, .int y, .int w, .int v] σ (fun _ τ => K [2, 3, 4, 5, 6, 7, 8, 9, 10, 11, 13] [1, 2, 3, 4, 5, 6, 7, 8, 9, 10, 11, 12, 13, 14, 15, 16, 17, 18, 19, 20, 24, 25, 26, 27, 29] σ τ) := by
  refine c_of (lv := [(0, .ref (a 0)), (1, .int x), (2, .int y), (3, .int w), (4, .int v)]) rfl (Nat.le_of_ble_eq_true rfl) rfl ?_
  intro p e s m args below meth c ls E h hr hk hl
  have hx := E.1
  have hb := E.2.1
  obtain ⟨⟨nq, hq4, hq⟩, ⟨ns, hs6, hs⟩, ⟨nc, hc12, hc, hcw⟩, ⟨np, hp4, hp⟩, ⟨nd, hd6, hd⟩, ⟨nz, hz8, hz, hzw⟩, ⟨nt, ht6, ht⟩, ⟨nr, hr4, hrp⟩, ⟨nl, hl3, hla⟩, ⟨nx, hx4, hxt⟩, ⟨nn, hn2, hnow⟩⟩ := id g
  refine lv_aload_n hx hb dX12_best_0 rfl (lv_at hl 0 rfl) ?_
  refine lv_iconst (v := 0) hx hb dX12_best_1 (by decide) ?_
  refine r_put E h 0 (ty := .int) (eM_0 cy a σ) rfl fw_X12 tyX12_ok nmX12 (by decide) fl_X12_131 rfl (by decide +kernel) rfl rfl (Nat.le_of_ble_eq_true rfl) (sM_0 cy a σ 0) dX12_best_2 (fun H locs h => ?_)
  refine lv_iload_n hx hb dX12_best_5 rfl (lv_at hl 2 rfl) ?_
  refine lv_i2l hx hb dX12_best_6 rfl ?_
  refine lv_lconst (v := 1) hx hb dX12_best_7 (by decide) ?_
  refine lv_ldc2 (v := 10) hx hb E.2.2.2.1 (E.2.2.2.2.1 _ kl_X12_251) dX12_best_8 ?_
  refine k_i h (q_runS (As := [.long y.toInt64, .long 1, .long 10]) (rest := []) E h (c_X12_in l D cy a (fF σ 0 0) y.toInt64 1 10) co_X12_in ml_X12_139 st_X12_in in_X12 rfl ok_X12_in rfl ⟨by decide, by decide⟩ hl.1 rfl (Nat.le_of_ble_eq_true rfl) dX12_best_11 ⟨Nat.zero_le _, Nat.zero_le _⟩) (wM_fst cy a) (fun r11 τ11 H locs p11 h => ?_)
  rw [p11.1] at h
  have w11 : WI y 1 10 r11 := p11.2.i rfl rfl
  refine lv_if_eq (tgt := 41) hx hb dX12_best_14 (by decide) (fun c14 => ?_) (fun c14 => ?_)
  · refine lv_iconst (v := -1) hx hb dX12_best_41 (by decide) ?_
    exact t_i E h hr hk (K.rf.F 0 _ (by decide)) dX12_best_42
  · obtain ⟨d, hd9, rfl⟩ := wi_n1 (n := 10) (by decide) (w11.t c14)
    refine lv_iload_n hx hb dX12_best_17 rfl (lv_at hl 3 rfl) ?_
    refine k_i h (q_runS (As := [.int w]) (rest := []) E h (c_X12_isYear l D cy a (fF σ 0 0) w) co_X12_isYear ml_X12_161 st_X12_isYear in_X12 rfl ok_X12_isYear rfl ⟨by decide, by decide⟩ hl.1 rfl (Nat.le_of_ble_eq_true rfl) dX12_best_18 ⟨Nat.zero_le _, Nat.zero_le _⟩) (wM_fst cy a) (fun r18 τ18 H locs p18 h => ?_)
    rw [p18.1] at h
    refine lv_if_eq (tgt := 41) hx hb dX12_best_21 (by decide) (fun c21 => ?_) (fun c21 => ?_)
    · refine lv_iconst (v := -1) hx hb dX12_best_41 (by decide) ?_
      exact t_i E h hr hk (K.rf.F 0 _ (by decide)) dX12_best_42
    · obtain ⟨b, hb2, rfl⟩ := wi_n (n := 200) (by decide) (p18.2.t c21)
      refine lv_iload hx hb dX12_best_24 (lv_at hl 4 rfl) ?_
      refine lv_i2l hx hb dX12_best_26 rfl ?_
      refine lv_iload_n hx hb dX12_best_27 rfl (lv_at hl 3 rfl) ?_
      refine lv_i2l hx hb dX12_best_28 rfl ?_
      refine lv_ldc2 (v := 201) hx hb E.2.2.2.1 (E.2.2.2.2.1 _ kl_X12_316) dX12_best_29 ?_
      refine lv_iload_n hx hb dX12_best_32 rfl (lv_at hl 2 rfl) ?_
      refine lv_i2l hx hb dX12_best_33 rfl ?_
      refine lv_lsub hx hb dX12_best_34 ?_
      refine k_i h (q_runS (As := [.long v.toInt64, .long ((nI b).toInt64), .long (201 - ((nI (d + 1)).toInt64))]) (rest := []) E h (c_X12_in l D cy a (fF σ 0 0) v.toInt64 ((nI b).toInt64) (201 - ((nI (d + 1)).toInt64))) co_X12_in ml_X12_139 st_X12_in in_X12 rfl ok_X12_in rfl ⟨by decide, by decide⟩ hl.1 rfl (Nat.le_of_ble_eq_true rfl) dX12_best_35 ⟨Nat.zero_le _, Nat.zero_le _⟩) (wM_fst cy a) (fun r35 τ35 H locs p35 h => ?_)
      rw [p35.1] at h
      refine lv_if_ne (tgt := 43) hx hb dX12_best_38 (by decide) (fun c38 => ?_) (fun c38 => ?_)
      · obtain ⟨t, hbt, ht2, rfl⟩ := r64 (x := v) (t := 200 - d) hb2 (by omega) (by rw [← last64 hd9]; exact p35.2.elim (fun q => q.2) (fun q => absurd q.1 c38))
        refine lv_aload_n hx hb dX12_best_43 rfl (lv_at hl 0 rfl) ?_
        refine lv_iload_n hx hb dX12_best_44 rfl (lv_at hl 1 rfl) ?_
        refine k_i h (q_runV (As := [.int x]) (rest := []) E h (c_X12_isCastle l D cy a (fF σ 0 0) x nc hc (by omega)) co_X12_isCastle ml_X12_188 im_X12_isCastle se_X12_isCastle in_X12 (eM_0 cy a (fF σ 0 0)) rfl ok_X12_isCastle rfl ⟨by decide, by decide⟩ hl.1 rfl (Nat.le_of_ble_eq_true rfl) dX12_best_45 ⟨Nat.zero_le _, Nat.zero_le _⟩) (wM_fst cy a) (fun r45 τ45 H locs p45 h => ?_)
        rw [p45.1] at h
        refine lv_if_ne (tgt := 54) hx hb dX12_best_48 (by decide) (fun c48 => ?_) (fun c48 => ?_)
        · refine lv_iconst (v := -1) hx hb dX12_best_54 (by decide) ?_
          refine lv_istore (lv' := [(5, .int (-1)), (0, .ref (a 0)), (1, .int x), (2, .int (nI (d + 1))), (3, .int (nI b)), (4, .int (nI t))]) hx hb dX12_best_55 hl (by decide) rfl (fun ls hl => ?_)
          refine lv_iconst (v := 0) hx hb dX12_best_57 (by decide) ?_
          refine lv_istore (lv' := [(6, .int 0), (5, .int (-1)), (0, .ref (a 0)), (1, .int x), (2, .int (nI (d + 1))), (3, .int (nI b)), (4, .int (nI t))]) hx hb dX12_best_58 hl (by decide) rfl (fun ls hl => ?_)
          refine lv_aload_n hx hb dX12_best_60 rfl (lv_at hl 2 rfl) ?_
          refine lv_dup hx hb dX12_best_61 rfl ?_
          refine r_get E h 30 (v := .int (nI nr)) (eM_0 cy a (fF σ 0 0)) rfl fw_X12 (by decide) fl_X12_205 (congrArg (fun z => some (Value.int z)) hrp) dX12_best_62 ?_
          refine lv_iconst (v := 1) hx hb dX12_best_65 (by decide) ?_
          refine n_add (j := nr) (k := 1) hx hb dX12_best_66 ?_
          refine r_put E h 30 (ty := .int) (eM_0 cy a (fF σ 0 0)) rfl fw_X12 tyX12_ok nmX12 (by decide) fl_X12_205 rfl (by decide +kernel) rfl rfl (Nat.le_of_ble_eq_true rfl) (sM_10 cy a (fF σ 0 0) (nI (nr + 1))) dX12_best_67 (fun H locs h => ?_)
          refine lv_aload_n hx hb dX12_best_70 rfl (lv_at hl 2 rfl) ?_
          refine r_get E h 31 (v := .ref (a 21)) (eM_0 cy a (fF (fF σ 0 0) 10 (nI (nr + 1)))) rfl fw_X12 (by decide) fl_X12_70 rfl dX12_best_71 ?_
          refine lv_aload_n hx hb dX12_best_74 rfl (lv_at hl 2 rfl) ?_
          refine r_get E h 30 (v := .int (nI (nr + 1))) (eM_0 cy a (fF (fF σ 0 0) 10 (nI (nr + 1)))) rfl fw_X12 (by decide) fl_X12_205 rfl dX12_best_75 ?_
          refine lv_iconst (v := 1) hx hb dX12_best_78 (by decide) ?_
          refine n_sub1 hx hb dX12_best_79 ?_
          refine lv_iload_n hx hb dX12_best_80 rfl (lv_at hl 3 rfl) ?_
          refine r_iastN E h (f := σ.2.1 21) (eM_21 cy a (fF (fF σ 0 0) 10 (nI (nr + 1)))) (j := nr) (by omega) (by decide) (qM_21 cy a (fF (fF σ 0 0) 10 (nI (nr + 1))) (upd (σ.2.1 21) nr x)) dX12_best_81 (fun H locs h => ?_)
          refine lv_iload_n hx hb dX12_best_82 rfl (lv_at hl 5 rfl) ?_
          refine lv_istore (lv' := [(7, .int (nI b)), (6, .int 0), (5, .int (-1)), (0, .ref (a 0)), (1, .int x), (2, .int (nI (d + 1))), (3, .int (nI b)), (4, .int (nI t))]) hx hb dX12_best_83 hl (by decide) rfl (fun ls hl => ?_)
          have lp85 : ∀ (f : Nat) (k : Nat) (u1 u2 : Int32) (τ : St) (H : Heap) (locs : List Loc) (ls : Array Slot), (k ≤ t + 1 ∧ K [2, 3, 4, 5, 6, 7, 8, 9, 11, 13] [1, 2, 3, 4, 5, 6, 7, 8, 9, 10, 11, 12, 13, 14, 15, 16, 17, 18, 19, 20, 24, 25, 26, 27, 29] σ τ ∧ τ.1 10 = nI (nr + 1)) → (t + 1 - k) < f → HW D (AM a) s (wM cy a τ) H locs → lv_has ls 11 [(7, .int (nI k)), (6, .int u2), (5, .int u1), (0, .ref (a 0)), (1, .int x), (2, .int (nI (d + 1))), (3, .int (nI b)), (4, .int (nI t))] → W p l e (rmOf 5 128) s m args below meth c H locs 0 0 (MQ below (va_Qi (fun _ τ => K [2, 3, 4, 5, 6, 7, 8, 9, 10, 11, 13] [1, 2, 3, 4, 5, 6, 7, 8, 9, 10, 11, 12, 13, 14, 15, 16, 17, 18, 19, 20, 24, 25, 26, 27, 29] σ τ) (fun u t => va_P D vwCl (wM cy a u) t.heap) (AM a)) args s 0 0 (AM a)) (F0 m 85 ls []) := by
            intro f
            induction f with
            | zero => intro k u1 u2 τ H locs ls _ hf; exact absurd hf (Nat.not_lt_zero _)
            | succ f ih85 =>
              intro k u1 u2 τ H locs ls hi85 hf85 h hl
              have hkt := hi85.2.1
              have hrt := hi85.2.2
              refine lv_iload hx hb dX12_best_85 (lv_at hl 0 rfl) ?_
              refine lv_iload hx hb dX12_best_87 (lv_at hl 7 rfl) ?_
              refine lv_icmp_gt (tgt := 217) hx hb dX12_best_89 (by decide) (fun c89 => ?_) (fun c89 => ?_)
              · refine lv_aload_n hx hb dX12_best_217 rfl (lv_at hl 3 rfl) ?_
                refine lv_dup hx hb dX12_best_218 rfl ?_
                refine r_get E h 30 (v := .int (nI (nr + 1))) (eM_0 cy a τ) rfl fw_X12 (by decide) fl_X12_205 (congrArg (fun z => some (Value.int z)) hrt) dX12_best_219 ?_
                refine lv_iconst (v := 1) hx hb dX12_best_222 (by decide) ?_
                refine n_sub1 hx hb dX12_best_223 ?_
                refine r_put E h 30 (ty := .int) (eM_0 cy a τ) rfl fw_X12 tyX12_ok nmX12 (by decide) fl_X12_205 rfl (by decide +kernel) rfl rfl (Nat.le_of_ble_eq_true rfl) (sM_10 cy a τ (nI nr)) dX12_best_224 (fun H locs h => ?_)
                refine lv_iload hx hb dX12_best_227 (lv_at hl 2 rfl) ?_
                exact t_i E h hr hk (kb_10 hkt hrp) dX12_best_229
              · have c89 : k ≤ t := Nat.le_of_not_lt fun q9 => c89 ((nI_ltI (by omega) (by omega)).mpr q9)
                refine lv_aload_n hx hb dX12_best_92 rfl (lv_at hl 3 rfl) ?_
                refine r_get E h 32 (v := .ref (a 22)) (eM_0 cy a τ) rfl fw_X12 (by decide) fl_X12_73 rfl dX12_best_93 ?_
                refine lv_aload_n hx hb dX12_best_96 rfl (lv_at hl 3 rfl) ?_
                refine r_get E h 30 (v := .int (nI (nr + 1))) (eM_0 cy a τ) rfl fw_X12 (by decide) fl_X12_205 (congrArg (fun z => some (Value.int z)) hrt) dX12_best_97 ?_
                refine lv_iconst (v := 1) hx hb dX12_best_100 (by decide) ?_
                refine n_sub1 hx hb dX12_best_101 ?_
                refine lv_iload hx hb dX12_best_102 (lv_at hl 0 rfl) ?_
                refine r_iastN E h (f := τ.2.1 22) (eM_22 cy a τ) (j := nr) (by omega) (by decide) (qM_22 cy a τ (upd (τ.2.1 22) nr (nI k))) dX12_best_104 (fun H locs h => ?_)
                refine lv_aload_n hx hb dX12_best_105 rfl (lv_at hl 3 rfl) ?_
                refine r_get E h 33 (v := .ref (a 23)) (eM_0 cy a (fR τ 22 (upd (τ.2.1 22) nr (nI k)))) rfl fw_X12 (by decide) fl_X12_76 rfl dX12_best_106 ?_
                refine lv_aload_n hx hb dX12_best_109 rfl (lv_at hl 3 rfl) ?_
                refine r_get E h 30 (v := .int (nI (nr + 1))) (eM_0 cy a (fR τ 22 (upd (τ.2.1 22) nr (nI k)))) rfl fw_X12 (by decide) fl_X12_205 (congrArg (fun z => some (Value.int z)) hrt) dX12_best_110 ?_
                refine lv_iconst (v := 1) hx hb dX12_best_113 (by decide) ?_
                refine n_sub1 hx hb dX12_best_114 ?_
                refine lv_iload hx hb dX12_best_115 (lv_at hl 0 rfl) ?_
                refine lv_iload_n hx hb dX12_best_117 rfl (lv_at hl 5 rfl) ?_
                refine n_add (j := k) (k := d + 1) hx hb dX12_best_118 ?_
                refine lv_iconst (v := 1) hx hb dX12_best_119 (by decide) ?_
                refine n_subk (j := k + (d + 1)) (k := 1) (by omega) hx hb dX12_best_120 ?_
                refine r_iastN E h (f := τ.2.1 23) (eM_23 cy a (fR τ 22 (upd (τ.2.1 22) nr (nI k)))) (j := nr) (by omega) (by decide) (qM_23 cy a (fR τ 22 (upd (τ.2.1 22) nr (nI k))) (upd (τ.2.1 23) nr (nI ((k + (d + 1)) - 1)))) dX12_best_121 (fun H locs h => ?_)
                refine lv_iconst (v := 0) hx hb dX12_best_122 (by decide) ?_
                refine lv_istore (lv' := [(8, .int 0), (7, .int (nI k)), (6, .int u2), (5, .int u1), (0, .ref (a 0)), (1, .int x), (2, .int (nI (d + 1))), (3, .int (nI b)), (4, .int (nI t))]) hx hb dX12_best_123 hl (by decide) rfl (fun ls hl => ?_)
                refine lv_iload hx hb dX12_best_125 (lv_at hl 1 rfl) ?_
                refine lv_istore (lv' := [(9, .int (nI k)), (8, .int 0), (7, .int (nI k)), (6, .int u2), (5, .int u1), (0, .ref (a 0)), (1, .int x), (2, .int (nI (d + 1))), (3, .int (nI b)), (4, .int (nI t))]) hx hb dX12_best_127 hl (by decide) rfl (fun ls hl => ?_)
                have lp129 : ∀ (f : Nat) (q : Nat) (u3 : Int32) (τ : St) (H : Heap) (locs : List Loc) (ls : Array Slot), (k ≤ q ∧ K [2, 3, 4, 5, 6, 7, 8, 9, 11, 13] [1, 2, 3, 4, 5, 6, 7, 8, 9, 10, 11, 12, 13, 14, 15, 16, 17, 18, 19, 20, 24, 25, 26, 27, 29] σ τ ∧ τ.1 10 = nI (nr + 1) ∧ q ≤ k + (d + 1)) → (k + (d + 1) - q) < f → HW D (AM a) s (wM cy a τ) H locs → lv_has ls 11 [(9, .int (nI q)), (8, .int u3), (7, .int (nI k)), (6, .int u2), (5, .int u1), (0, .ref (a 0)), (1, .int x), (2, .int (nI (d + 1))), (3, .int (nI b)), (4, .int (nI t))] → W p l e (rmOf 5 128) s m args below meth c H locs 0 0 (MQ below (va_Qi (fun _ τ => K [2, 3, 4, 5, 6, 7, 8, 9, 10, 11, 13] [1, 2, 3, 4, 5, 6, 7, 8, 9, 10, 11, 12, 13, 14, 15, 16, 17, 18, 19, 20, 24, 25, 26, 27, 29] σ τ) (fun u t => va_P D vwCl (wM cy a u) t.heap) (AM a)) args s 0 0 (AM a)) (F0 m 129 ls []) := by
                  intro f
                  induction f with
                  | zero => intro q u3 τ H locs ls _ hf; exact absurd hf (Nat.not_lt_zero _)
                  | succ f ih129 =>
                    intro q u3 τ H locs ls hi129 hf129 h hl
                    have hkt := hi129.2.1
                    have hrt := hi129.2.2.1
                    have gkt : GM 41 τ := gm_re (k := nr + 1) (by omega) hrt (gm_41 g) hkt
                    refine lv_iload hx hb dX12_best_129 (lv_at hl 0 rfl) ?_
                    refine lv_iload hx hb dX12_best_131 (lv_at hl 2 rfl) ?_
                    refine lv_iload_n hx hb dX12_best_133 rfl (lv_at hl 7 rfl) ?_
                    refine n_add (j := k) (k := d + 1) hx hb dX12_best_134 ?_
                    refine lv_icmp_ge (tgt := 191) hx hb dX12_best_135 (by decide) (fun c135 => ?_) (fun c135 => ?_)
                    · refine lv_iload hx hb dX12_best_191 (lv_at hl 4 rfl) ?_
                      refine lv_if_lt (tgt := 203) hx hb dX12_best_193 (by decide) (fun c193 => ?_) (fun c193 => ?_)
                      · refine lv_iload hx hb dX12_best_203 (lv_at hl 2 rfl) ?_
                        refine lv_istore (lv' := [(5, .int (nI k)), (9, .int (nI q)), (8, .int u3), (7, .int (nI k)), (6, .int u2), (0, .ref (a 0)), (1, .int x), (2, .int (nI (d + 1))), (3, .int (nI b)), (4, .int (nI t))]) hx hb dX12_best_205 hl (by decide) rfl (fun ls hl => ?_)
                        refine lv_iload hx hb dX12_best_207 (lv_at hl 2 rfl) ?_
                        refine lv_istore (lv' := [(6, .int u3), (5, .int (nI k)), (9, .int (nI q)), (8, .int u3), (7, .int (nI k)), (0, .ref (a 0)), (1, .int x), (2, .int (nI (d + 1))), (3, .int (nI b)), (4, .int (nI t))]) hx hb dX12_best_209 hl (by decide) rfl (fun ls hl => ?_)
                        refine lv_iinc (v := nI (k + 1)) (lv' := [(7, .int (nI (k + 1))), (6, .int u3), (5, .int (nI k)), (9, .int (nI q)), (8, .int u3), (0, .ref (a 0)), (1, .int x), (2, .int (nI (d + 1))), (3, .int (nI b)), (4, .int (nI t))]) hx hb dX12_best_211 hl (k := 4) rfl (nI_succ k).symm (by decide) rfl (fun ls hl => ?_)
                        refine lv_goto (tgt := 85) hx hb dX12_best_214 (by decide) ?_
                        exact ih85 (k + 1) (nI k) u3 τ _ _ _ ⟨by omega, hkt, hrt⟩ (by omega) h (lv_sub hl [0, 1, 2, 5, 6, 7, 8, 9] rfl)
                      · refine lv_iload hx hb dX12_best_196 (lv_at hl 1 rfl) ?_
                        refine lv_iload hx hb dX12_best_198 (lv_at hl 3 rfl) ?_
                        refine lv_icmp_ge (tgt := 211) hx hb dX12_best_200 (by decide) (fun c200 => ?_) (fun c200 => ?_)
                        · refine lv_iinc (v := nI (k + 1)) (lv' := [(7, .int (nI (k + 1))), (9, .int (nI q)), (8, .int u3), (6, .int u2), (5, .int u1), (0, .ref (a 0)), (1, .int x), (2, .int (nI (d + 1))), (3, .int (nI b)), (4, .int (nI t))]) hx hb dX12_best_211 hl (k := 2) rfl (nI_succ k).symm (by decide) rfl (fun ls hl => ?_)
                          refine lv_goto (tgt := 85) hx hb dX12_best_214 (by decide) ?_
                          exact ih85 (k + 1) u1 u2 τ _ _ _ ⟨by omega, hkt, hrt⟩ (by omega) h (lv_sub hl [0, 3, 4, 5, 6, 7, 8, 9] rfl)
                        · refine lv_iload hx hb dX12_best_203 (lv_at hl 2 rfl) ?_
                          refine lv_istore (lv' := [(5, .int (nI k)), (9, .int (nI q)), (8, .int u3), (7, .int (nI k)), (6, .int u2), (0, .ref (a 0)), (1, .int x), (2, .int (nI (d + 1))), (3, .int (nI b)), (4, .int (nI t))]) hx hb dX12_best_205 hl (by decide) rfl (fun ls hl => ?_)
                          refine lv_iload hx hb dX12_best_207 (lv_at hl 2 rfl) ?_
                          refine lv_istore (lv' := [(6, .int u3), (5, .int (nI k)), (9, .int (nI q)), (8, .int u3), (7, .int (nI k)), (0, .ref (a 0)), (1, .int x), (2, .int (nI (d + 1))), (3, .int (nI b)), (4, .int (nI t))]) hx hb dX12_best_209 hl (by decide) rfl (fun ls hl => ?_)
                          refine lv_iinc (v := nI (k + 1)) (lv' := [(7, .int (nI (k + 1))), (6, .int u3), (5, .int (nI k)), (9, .int (nI q)), (8, .int u3), (0, .ref (a 0)), (1, .int x), (2, .int (nI (d + 1))), (3, .int (nI b)), (4, .int (nI t))]) hx hb dX12_best_211 hl (k := 4) rfl (nI_succ k).symm (by decide) rfl (fun ls hl => ?_)
                          refine lv_goto (tgt := 85) hx hb dX12_best_214 (by decide) ?_
                          exact ih85 (k + 1) (nI k) u3 τ _ _ _ ⟨by omega, hkt, hrt⟩ (by omega) h (lv_sub hl [0, 1, 2, 5, 6, 7, 8, 9] rfl)
                    · have c135 : q < (k + (d + 1)) := Nat.lt_of_not_le fun q9 => c135 ((nI_leI (a := (k + (d + 1))) (b := q) (by omega) (by omega)).mpr q9)
                      refine lv_aload_n hx hb dX12_best_138 rfl (lv_at hl 5 rfl) ?_
                      refine lv_iload hx hb dX12_best_139 (lv_at hl 0 rfl) ?_
                      refine lv_aload_n hx hb dX12_best_141 rfl (lv_at hl 5 rfl) ?_
                      refine r_get E h 2 (v := .int (nI nn)) (eM_0 cy a τ) rfl fw_X12 (by decide) fl_X12_191 (congrArg (fun z => some (Value.int z)) ((hkt.1 2 (by decide)).trans hnow)) dX12_best_142 ?_
                      refine k_v h (q_runV (As := [.int (nI q), .int (nI nn)]) (rest := []) E h (c_X12_flow l D cy a τ (nI q) (nI nn) gkt) co_X12_flow ml_X12_309 im_X12_flow se_X12_flow in_X12 (eM_0 cy a τ) rfl ok_X12_flow rfl ⟨by decide, by decide⟩ hl.1 rfl (Nat.le_of_ble_eq_true rfl) dX12_best_145 ⟨Nat.zero_le _, Nat.zero_le _⟩) (wM_fst cy a) (fun τ145 H locs p145 h => ?_)
                      have k145 : K [2, 3, 4, 5, 6, 7, 8, 9, 11, 13] [1, 2, 3, 4, 5, 6, 7, 8, 9, 10, 11, 12, 13, 14, 15, 16, 17, 18, 19, 20, 24, 25, 26, 27, 29] τ τ145 := K.sub p145.1 (by decide) (by decide)
                      refine lv_iconst (v := 0) hx hb dX12_best_148 (by decide) ?_
                      refine lv_istore (lv' := [(10, .int 0), (9, .int (nI q)), (8, .int u3), (7, .int (nI k)), (6, .int u2), (5, .int u1), (0, .ref (a 0)), (1, .int x), (2, .int (nI (d + 1))), (3, .int (nI b)), (4, .int (nI t))]) hx hb dX12_best_149 hl (by decide) rfl (fun ls hl => ?_)
                      have lp151 : ∀ (f : Nat) (z : Nat) (u4 : Int32) (H : Heap) (locs : List Loc) (ls : Array Slot), (z ≤ 8) → (8 - z) < f → HW D (AM a) s (wM cy a τ145) H locs → lv_has ls 11 [(10, .int (nI z)), (9, .int (nI q)), (8, .int u4), (7, .int (nI k)), (6, .int u2), (5, .int u1), (0, .ref (a 0)), (1, .int x), (2, .int (nI (d + 1))), (3, .int (nI b)), (4, .int (nI t))] → W p l e (rmOf 5 128) s m args below meth c H locs 0 0 (MQ below (va_Qi (fun _ τ => K [2, 3, 4, 5, 6, 7, 8, 9, 10, 11, 13] [1, 2, 3, 4, 5, 6, 7, 8, 9, 10, 11, 12, 13, 14, 15, 16, 17, 18, 19, 20, 24, 25, 26, 27, 29] σ τ) (fun u t => va_P D vwCl (wM cy a u) t.heap) (AM a)) args s 0 0 (AM a)) (F0 m 151 ls []) := by
                        intro f
                        induction f with
                        | zero => intro z u4 H locs ls _ hf; exact absurd hf (Nat.not_lt_zero _)
                        | succ f ih151 =>
                          intro z u4 H locs ls hi151 hf151 h hl
                          refine lv_iload hx hb dX12_best_151 (lv_at hl 0 rfl) ?_
                          refine lv_bipush (v := 8) hx hb dX12_best_153 (by decide) ?_
                          refine lv_icmp_ge (tgt := 185) hx hb dX12_best_155 (by decide) (fun c155 => ?_) (fun c155 => ?_)
                          · refine lv_iinc (v := nI (q + 1)) (lv' := [(9, .int (nI (q + 1))), (10, .int (nI z)), (8, .int u4), (7, .int (nI k)), (6, .int u2), (5, .int u1), (0, .ref (a 0)), (1, .int x), (2, .int (nI (d + 1))), (3, .int (nI b)), (4, .int (nI t))]) hx hb dX12_best_185 hl (k := 1) rfl (nI_succ q).symm (by decide) rfl (fun ls hl => ?_)
                            refine lv_goto (tgt := 129) hx hb dX12_best_188 (by decide) ?_
                            exact ih129 (q + 1) u4 τ145 _ _ _ ⟨by omega, hkt.tr k145, (p145.1.1 10 (by decide)).trans hrt, by omega⟩ (by omega) h (lv_sub hl [0, 2, 3, 4, 5, 6, 7, 8, 9, 10] rfl)
                          · have c155 : z < 8 := Nat.lt_of_not_le fun q9 => c155 ((nI_leI (a := 8) (b := z) (by omega) (by omega)).mpr q9)
                            refine lv_iload hx hb dX12_best_158 (lv_at hl 2 rfl) ?_
                            refine lv_aload_n hx hb dX12_best_160 rfl (lv_at hl 6 rfl) ?_
                            refine lv_iload hx hb dX12_best_161 (lv_at hl 0 rfl) ?_
                            refine lv_iload hx hb dX12_best_163 (lv_at hl 1 rfl) ?_
                            refine k_i h (q_runV (As := [.int (nI z), .int (nI q)]) (rest := [.int u4]) E h (c_X12_isDry l D cy a τ145 (nI z) (nI q) nz (((hkt.tr k145).1 8 (by decide)).trans hz) hz8) co_X12_isDry ml_X12_313 im_X12_isDry se_X12_isDry in_X12 (eM_0 cy a τ145) rfl ok_X12_isDry rfl ⟨by decide, by decide⟩ hl.1 rfl (Nat.le_of_ble_eq_true rfl) dX12_best_165 ⟨Nat.zero_le _, Nat.zero_le _⟩) (wM_fst cy a) (fun r165 τ165 H locs p165 h => ?_)
                            rw [p165.1] at h
                            refine lv_if_eq (tgt := 175) hx hb dX12_best_168 (by decide) (fun c168 => ?_) (fun c168 => ?_)
                            · refine lv_iconst (v := 0) hx hb dX12_best_175 (by decide) ?_
                              refine lv_iadd hx hb dX12_best_176 ?_
                              refine lv_istore (lv' := [(8, .int (u4 + 0)), (10, .int (nI z)), (9, .int (nI q)), (7, .int (nI k)), (6, .int u2), (5, .int u1), (0, .ref (a 0)), (1, .int x), (2, .int (nI (d + 1))), (3, .int (nI b)), (4, .int (nI t))]) hx hb dX12_best_177 hl (by decide) rfl (fun ls hl => ?_)
                              refine lv_iinc (v := nI (z + 1)) (lv' := [(10, .int (nI (z + 1))), (8, .int (u4 + 0)), (9, .int (nI q)), (7, .int (nI k)), (6, .int u2), (5, .int u1), (0, .ref (a 0)), (1, .int x), (2, .int (nI (d + 1))), (3, .int (nI b)), (4, .int (nI t))]) hx hb dX12_best_179 hl (k := 1) rfl (nI_succ z).symm (by decide) rfl (fun ls hl => ?_)
                              refine lv_goto (tgt := 151) hx hb dX12_best_182 (by decide) ?_
                              exact ih151 (z + 1) (u4 + 0) _ _ _ (by omega) (by omega) h (lv_sub hl [0, 2, 1, 3, 4, 5, 6, 7, 8, 9, 10] rfl)
                            · refine lv_iconst (v := 1) hx hb dX12_best_171 (by decide) ?_
                              refine lv_goto (tgt := 176) hx hb dX12_best_172 (by decide) ?_
                              refine lv_iadd hx hb dX12_best_176 ?_
                              refine lv_istore (lv' := [(8, .int (u4 + 1)), (10, .int (nI z)), (9, .int (nI q)), (7, .int (nI k)), (6, .int u2), (5, .int u1), (0, .ref (a 0)), (1, .int x), (2, .int (nI (d + 1))), (3, .int (nI b)), (4, .int (nI t))]) hx hb dX12_best_177 hl (by decide) rfl (fun ls hl => ?_)
                              refine lv_iinc (v := nI (z + 1)) (lv' := [(10, .int (nI (z + 1))), (8, .int (u4 + 1)), (9, .int (nI q)), (7, .int (nI k)), (6, .int u2), (5, .int u1), (0, .ref (a 0)), (1, .int x), (2, .int (nI (d + 1))), (3, .int (nI b)), (4, .int (nI t))]) hx hb dX12_best_179 hl (k := 1) rfl (nI_succ z).symm (by decide) rfl (fun ls hl => ?_)
                              refine lv_goto (tgt := 151) hx hb dX12_best_182 (by decide) ?_
                              exact ih151 (z + 1) (u4 + 1) _ _ _ (by omega) (by omega) h (lv_sub hl [0, 2, 1, 3, 4, 5, 6, 7, 8, 9, 10] rfl)
                      exact lp151 _ 0 u3 _ _ _ (Nat.zero_le _) (Nat.lt_succ_self _) h (lv_sub hl [0, 1, 2, 3, 4, 5, 6, 7, 8, 9, 10] rfl)
                exact lp129 _ k 0 (fR (fR τ 22 (upd (τ.2.1 22) nr (nI k))) 23 (upd (τ.2.1 23) nr (nI ((k + (d + 1)) - 1)))) _ _ _ ⟨Nat.le_refl _, (hkt.R 22 _ (by decide)).R 23 _ (by decide), hrt, by omega⟩ (Nat.lt_succ_self _) h (lv_sub hl [0, 1, 2, 3, 4, 5, 6, 7, 8, 9] rfl)
          exact lp85 _ b _ _ (fR (fF (fF σ 0 0) 10 (nI (nr + 1))) 21 (upd (σ.2.1 21) nr x)) _ _ _ ⟨by omega, ((K.rf.F 0 _ (by decide)).F 10 _ (by decide)).R 21 _ (by decide), rfl⟩ (Nat.lt_succ_self _) h (lv_sub hl [0, 1, 2, 3, 4, 5, 6, 7] rfl)
        · refine lv_bipush (v := -2) hx hb dX12_best_51 (by decide) ?_
          exact t_i E h hr hk (K.rf.F 0 _ (by decide)) dX12_best_53
      · refine lv_iconst (v := -1) hx hb dX12_best_41 (by decide) ?_
        exact t_i E h hr hk (K.rf.F 0 _ (by decide)) dX12_best_42
