
theorem gm_41 {σ : St} (g : GM 40 σ) : GM 41 σ := by
  obtain ⟨g1, g2, g3, g4, g5, g6, g7, ⟨n, h1, h2⟩, g9⟩ := g
  exact ⟨g1, g2, g3, g4, g5, g6, g7, ⟨n, by omega, h2⟩, g9⟩
theorem gm_0 {R : Nat} {σ : St} (g : GM R σ) (v : Int32) : GM R (fF σ 0 v) := g.kept (K.rf.F 0 _ (by decide))
theorem n_lt_of {j n N : Nat} {x : Int32} (h : (0 : Int32) ≤ x ∧ x ≤ nI n - 1) (hn : n ≤ N) (hN : N < 2 ^ 31) : ∃ j : Nat, j < n ∧ j < N ∧ x = nI j := z_in h.1 h.2 hn hN

set_option maxHeartbeats 4000000 in
set_option maxRecDepth 100000 in
theorem c_X12_flow (l : Launch) (D : va_G) (cy : Nat → ClassId) (a : Nat → Nat) (σ : St) (x w : Int32) (g : GM 41 σ) : CV l yX12_flow cX12_flow 6 none (rmOf 4 103) D cy (wM cy a) (AM a) [.ref (a 0), .int x, .int w] σ (fun τ => K mF mA σ τ ∧ ∀ (n i : Nat), σ.1 5 = nI n → n ≤ 12 → i < n → FND τ i) := by
  refine c_of (lv := [(0, .ref (a 0)), (1, .int x), (2, .int w)]) rfl (Nat.le_of_ble_eq_true rfl) rfl ?_
  intro p e s m args below meth c ls E h hr hk hl
  have hx := E.1
  have hb := E.2.1
  obtain ⟨⟨nq, hq4, hq⟩, ⟨ns, hs6, hs⟩, ⟨nc, hc12, hc, hcw⟩, ⟨np, hp4, hp⟩, ⟨nd, hd6, hd⟩, ⟨nz, hz8, hz, hzw⟩, ⟨nt, ht6, ht⟩, ⟨nr, hr4, hrp⟩, ⟨nl, hl3, hla⟩, ⟨nx, hx4, hxt⟩, ⟨nn, hn2, hnow⟩⟩ := id g
  refine lv_iconst (v := 0) hx hb dX12_flow_0 (by decide) ?_
  refine lv_istore_n (lv' := [(3, .int 0), (0, .ref (a 0)), (1, .int x), (2, .int w)]) hx hb dX12_flow_1 rfl hl (by decide) rfl (fun ls hl => ?_)
  have lp2 : ∀ (f : Nat) (k : Nat) (τ : St) (H : Heap) (locs : List Loc) (ls : Array Slot), (k ≤ nc ∧ K mF mA σ τ) → (nc - k) < f → HW D (AM a) s (wM cy a τ) H locs → lv_has ls 6 [(3, .int (nI k)), (0, .ref (a 0)), (1, .int x), (2, .int w)] → W p l e (rmOf 4 103) s m args below meth c H locs 0 0 (MQ below (va_Qv (fun τ => K mF mA σ τ ∧ ∀ (n i : Nat), σ.1 5 = nI n → n ≤ 12 → i < n → FND τ i) (fun u t => va_P D vwCl (wM cy a u) t.heap) (AM a)) args s 0 0 (AM a)) (F0 m 2 ls []) := by
    intro f
    induction f with
    | zero => intro k τ H locs ls _ hf; exact absurd hf (Nat.not_lt_zero _)
    | succ f ih2 =>
      intro k τ H locs ls hi2 hf2 h hl
      have hkt := hi2.2
      refine lv_iload_n hx hb dX12_flow_2 rfl (lv_at hl 0 rfl) ?_
      refine lv_aload_n hx hb dX12_flow_3 rfl (lv_at hl 1 rfl) ?_
      refine r_get E h 9 (v := .int (nI nc)) (eM_0 cy a τ) rfl fw_X12 (by decide) fl_X12_143 (congrArg (fun z => some (Value.int z)) ((hkt.1 5 (by decide)).trans hc)) dX12_flow_4 ?_
      refine lv_icmp_ge (tgt := 23) hx hb dX12_flow_7 (by decide) (fun c7 => ?_) (fun c7 => ?_)
      · refine lv_iconst (v := 0) hx hb dX12_flow_23 (by decide) ?_
        refine lv_istore_n (lv' := [(3, .int 0), (0, .ref (a 0)), (1, .int x), (2, .int w)]) hx hb dX12_flow_24 rfl hl (by decide) rfl (fun ls hl => ?_)
        have lp25 : ∀ (f : Nat) (k : Nat) (τ : St) (H : Heap) (locs : List Loc) (ls : Array Slot), (k ≤ nq ∧ K mF mA σ τ) → (nq - k) < f → HW D (AM a) s (wM cy a τ) H locs → lv_has ls 6 [(3, .int (nI k)), (0, .ref (a 0)), (1, .int x), (2, .int w)] → W p l e (rmOf 4 103) s m args below meth c H locs 0 0 (MQ below (va_Qv (fun τ => K mF mA σ τ ∧ ∀ (n i : Nat), σ.1 5 = nI n → n ≤ 12 → i < n → FND τ i) (fun u t => va_P D vwCl (wM cy a u) t.heap) (AM a)) args s 0 0 (AM a)) (F0 m 25 ls []) := by
          intro f
          induction f with
          | zero => intro k τ H locs ls _ hf; exact absurd hf (Nat.not_lt_zero _)
          | succ f ih25 =>
            intro k τ H locs ls hi25 hf25 h hl
            have hkt := hi25.2
            refine lv_iload_n hx hb dX12_flow_25 rfl (lv_at hl 0 rfl) ?_
            refine lv_aload_n hx hb dX12_flow_26 rfl (lv_at hl 1 rfl) ?_
            refine r_get E h 3 (v := .int (nI nq)) (eM_0 cy a τ) rfl fw_X12 (by decide) fl_X12_158 (congrArg (fun z => some (Value.int z)) ((hkt.1 3 (by decide)).trans hq)) dX12_flow_27 ?_
            refine lv_icmp_ge (tgt := 129) hx hb dX12_flow_30 (by decide) (fun c30 => ?_) (fun c30 => ?_)
            · refine lv_iconst (v := 0) hx hb dX12_flow_129 (by decide) ?_
              refine lv_istore_n (lv' := [(3, .int 0), (0, .ref (a 0)), (1, .int x), (2, .int w)]) hx hb dX12_flow_130 rfl hl (by decide) rfl (fun ls hl => ?_)
              have lp131 : ∀ (f : Nat) (k : Nat) (τ : St) (H : Heap) (locs : List Loc) (ls : Array Slot), (k ≤ nz ∧ K mF mA σ τ) → (nz - k) < f → HW D (AM a) s (wM cy a τ) H locs → lv_has ls 6 [(3, .int (nI k)), (0, .ref (a 0)), (1, .int x), (2, .int w)] → W p l e (rmOf 4 103) s m args below meth c H locs 0 0 (MQ below (va_Qv (fun τ => K mF mA σ τ ∧ ∀ (n i : Nat), σ.1 5 = nI n → n ≤ 12 → i < n → FND τ i) (fun u t => va_P D vwCl (wM cy a u) t.heap) (AM a)) args s 0 0 (AM a)) (F0 m 131 ls []) := by
                intro f
                induction f with
                | zero => intro k τ H locs ls _ hf; exact absurd hf (Nat.not_lt_zero _)
                | succ f ih131 =>
                  intro k τ H locs ls hi131 hf131 h hl
                  have hkt := hi131.2
                  refine lv_iload_n hx hb dX12_flow_131 rfl (lv_at hl 0 rfl) ?_
                  refine lv_aload_n hx hb dX12_flow_132 rfl (lv_at hl 1 rfl) ?_
                  refine r_get E h 18 (v := .int (nI nz)) (eM_0 cy a τ) rfl fw_X12 (by decide) fl_X12_149 (congrArg (fun z => some (Value.int z)) ((hkt.1 8 (by decide)).trans hz)) dX12_flow_133 ?_
                  refine lv_icmp_ge (tgt := 152) hx hb dX12_flow_136 (by decide) (fun c136 => ?_) (fun c136 => ?_)
                  · refine lv_iconst (v := 0) hx hb dX12_flow_152 (by decide) ?_
                    refine lv_istore_n (lv' := [(3, .int 0), (0, .ref (a 0)), (1, .int x), (2, .int w)]) hx hb dX12_flow_153 rfl hl (by decide) rfl (fun ls hl => ?_)
                    have lp154 : ∀ (f : Nat) (k : Nat) (τ : St) (H : Heap) (locs : List Loc) (ls : Array Slot), (k ≤ nc ∧ K mF mA σ τ ∧ ∀ i, i < k → FND τ i) → (nc - k) < f → HW D (AM a) s (wM cy a τ) H locs → lv_has ls 6 [(3, .int (nI k)), (0, .ref (a 0)), (1, .int x), (2, .int w)] → W p l e (rmOf 4 103) s m args below meth c H locs 0 0 (MQ below (va_Qv (fun τ => K mF mA σ τ ∧ ∀ (n i : Nat), σ.1 5 = nI n → n ≤ 12 → i < n → FND τ i) (fun u t => va_P D vwCl (wM cy a u) t.heap) (AM a)) args s 0 0 (AM a)) (F0 m 154 ls []) := by
                      intro f
                      induction f with
                      | zero => intro k τ H locs ls _ hf; exact absurd hf (Nat.not_lt_zero _)
                      | succ f ih154 =>
                        intro k τ H locs ls hi154 hf154 h hl
                        have hkt := hi154.2.1
                        refine lv_iload_n hx hb dX12_flow_154 rfl (lv_at hl 0 rfl) ?_
                        refine lv_aload_n hx hb dX12_flow_155 rfl (lv_at hl 1 rfl) ?_
                        refine r_get E h 9 (v := .int (nI nc)) (eM_0 cy a τ) rfl fw_X12 (by decide) fl_X12_143 (congrArg (fun z => some (Value.int z)) ((hkt.1 5 (by decide)).trans hc)) dX12_flow_156 ?_
                        refine lv_icmp_ge (tgt := 175) hx hb dX12_flow_159 (by decide) (fun c159 => ?_) (fun c159 => ?_)
                        · have c159 : nc ≤ k := (nI_leI (a := nc) (b := k) (by omega) (by omega)).mp c159
                          exact t_v E h hr hk ⟨hi154.2.1, fun n i e1 e2 e3 => hi154.2.2 i (by have := n_eq (by omega) (by omega) (e1.symm.trans hc); omega)⟩ dX12_flow_175
                        · have c159 : k < nc := Nat.lt_of_not_le fun q9 => c159 ((nI_leI (a := nc) (b := k) (by omega) (by omega)).mpr q9)
                          refine lv_aload_n hx hb dX12_flow_162 rfl (lv_at hl 1 rfl) ?_
                          refine lv_iload_n hx hb dX12_flow_163 rfl (lv_at hl 0 rfl) ?_
                          refine lv_iload_n hx hb dX12_flow_164 rfl (lv_at hl 2 rfl) ?_
                          refine lv_iload_n hx hb dX12_flow_165 rfl (lv_at hl 3 rfl) ?_
                          refine k_v h (q_runV (As := [.int (nI k), .int x, .int w]) (rest := []) E h (c_X12_flowAt l D cy a τ k x w (g.kept hkt) (by omega)) co_X12_flowAt ml_X12_298 im_X12_flowAt se_X12_flowAt in_X12 (eM_0 cy a τ) rfl ok_X12_flowAt rfl ⟨by decide, by decide⟩ hl.1 rfl (Nat.le_of_ble_eq_true rfl) dX12_flow_166 ⟨Nat.zero_le _, Nat.zero_le _⟩) (wM_fst cy a) (fun τ166 H locs p166 h => ?_)
                          refine lv_iinc (v := nI (k + 1)) (lv' := [(3, .int (nI (k + 1))), (0, .ref (a 0)), (1, .int x), (2, .int w)]) hx hb dX12_flow_169 hl (k := 0) rfl (nI_succ k).symm (by decide) rfl (fun ls hl => ?_)
                          refine lv_goto (tgt := 154) hx hb dX12_flow_172 (by decide) ?_
                          have hfn : ∀ i, i < k + 1 → FND τ166 i := by
                            intro i hik
                            by_cases e9 : i = k
                            · rw [e9]; exact p166.2.2
                            · obtain ⟨a1, a2, a3⟩ := p166.2.1 i (by omega)
                              have h9 := hi154.2.2 i (by omega)
                              unfold FND at *
                              rw [a1, a2, a3, p166.1.2 7 (by decide)]
                              exact h9
                          exact ih154 (k + 1) τ166 _ _ _ ⟨by omega, hi154.2.1.tr p166.1, hfn⟩ (by omega) h (lv_sub hl [0, 1, 2, 3] rfl)
                    exact lp154 _ 0 τ _ _ _ ⟨Nat.zero_le _, hi131.2, fun i q => absurd q (Nat.not_lt_zero i)⟩ (Nat.lt_succ_self _) h (lv_sub hl [0, 1, 2, 3] rfl)
                  · have c136 : k < nz := Nat.lt_of_not_le fun q9 => c136 ((nI_leI (a := nz) (b := k) (by omega) (by omega)).mpr q9)
                    refine lv_aload_n hx hb dX12_flow_139 rfl (lv_at hl 1 rfl) ?_
                    refine r_get E h 55 (v := .ref (a 36)) (eM_0 cy a τ) rfl fw_X12 (by decide) fl_X12_119 rfl dX12_flow_140 ?_
                    refine lv_iload_n hx hb dX12_flow_143 rfl (lv_at hl 0 rfl) ?_
                    refine lv_iconst (v := 0) hx hb dX12_flow_144 (by decide) ?_
                    refine r_iastN E h (f := τ.2.1 36) (eM_36 cy a τ) (j := k) (by omega) (by decide) (qM_36 cy a τ (upd (τ.2.1 36) k 0)) dX12_flow_145 (fun H locs h => ?_)
                    refine lv_iinc (v := nI (k + 1)) (lv' := [(3, .int (nI (k + 1))), (0, .ref (a 0)), (1, .int x), (2, .int w)]) hx hb dX12_flow_146 hl (k := 0) rfl (nI_succ k).symm (by decide) rfl (fun ls hl => ?_)
                    refine lv_goto (tgt := 131) hx hb dX12_flow_149 (by decide) ?_
                    exact ih131 (k + 1) (fR τ 36 (upd (τ.2.1 36) k 0)) _ _ _ ⟨by omega, hi131.2.R 36 _ (by decide)⟩ (by omega) h (lv_sub hl [0, 1, 2, 3] rfl)
              exact lp131 _ 0 τ _ _ _ ⟨Nat.zero_le _, hi25.2⟩ (Nat.lt_succ_self _) h (lv_sub hl [0, 1, 2, 3] rfl)
            · have c30 : k < nq := Nat.lt_of_not_le fun q9 => c30 ((nI_leI (a := nq) (b := k) (by omega) (by omega)).mpr q9)
              refine lv_aload_n hx hb dX12_flow_33 rfl (lv_at hl 1 rfl) ?_
              refine lv_iload_n hx hb dX12_flow_34 rfl (lv_at hl 0 rfl) ?_
              refine lv_iload_n hx hb dX12_flow_35 rfl (lv_at hl 2 rfl) ?_
              refine k_i h (q_runV (As := [.int (nI k), .int x]) (rest := []) E h (c_X12_yieldOf l D cy a τ k x ns (by omega) ((hkt.1 4 (by decide)).trans hs) hs6) co_X12_yieldOf ml_X12_292 im_X12_yieldOf se_X12_yieldOf in_X12 (eM_0 cy a τ) rfl ok_X12_yieldOf rfl ⟨by decide, by decide⟩ hl.1 rfl (Nat.le_of_ble_eq_true rfl) dX12_flow_36 ⟨Nat.zero_le _, Nat.zero_le _⟩) (wM_fst cy a) (fun r36 τ36 H locs p36 h => ?_)
              rw [p36.1] at h
              refine lv_istore (lv' := [(4, .int r36), (3, .int (nI k)), (0, .ref (a 0)), (1, .int x), (2, .int w)]) hx hb dX12_flow_39 hl (by decide) rfl (fun ls hl => ?_)
              refine lv_iconst (v := 0) hx hb dX12_flow_41 (by decide) ?_
              refine lv_istore (lv' := [(5, .int 0), (4, .int r36), (3, .int (nI k)), (0, .ref (a 0)), (1, .int x), (2, .int w)]) hx hb dX12_flow_42 hl (by decide) rfl (fun ls hl => ?_)
              have lp44 : ∀ (f : Nat) (i : Nat) (u : Int32) (τ : St) (H : Heap) (locs : List Loc) (ls : Array Slot), (i ≤ nc ∧ K mF mA σ τ) → (nc - i) < f → HW D (AM a) s (wM cy a τ) H locs → lv_has ls 6 [(5, .int (nI i)), (4, .int u), (3, .int (nI k)), (0, .ref (a 0)), (1, .int x), (2, .int w)] → W p l e (rmOf 4 103) s m args below meth c H locs 0 0 (MQ below (va_Qv (fun τ => K mF mA σ τ ∧ ∀ (n i : Nat), σ.1 5 = nI n → n ≤ 12 → i < n → FND τ i) (fun u t => va_P D vwCl (wM cy a u) t.heap) (AM a)) args s 0 0 (AM a)) (F0 m 44 ls []) := by
                intro f
                induction f with
                | zero => intro i u τ H locs ls _ hf; exact absurd hf (Nat.not_lt_zero _)
                | succ f ih44 =>
                  intro i u τ H locs ls hi44 hf44 h hl
                  have hkt := hi44.2
                  refine lv_iload hx hb dX12_flow_44 (lv_at hl 0 rfl) ?_
                  refine lv_aload_n hx hb dX12_flow_46 rfl (lv_at hl 3 rfl) ?_
                  refine r_get E h 9 (v := .int (nI nc)) (eM_0 cy a τ) rfl fw_X12 (by decide) fl_X12_143 (congrArg (fun z => some (Value.int z)) ((hkt.1 5 (by decide)).trans hc)) dX12_flow_47 ?_
                  refine lv_icmp_ge (tgt := 123) hx hb dX12_flow_50 (by decide) (fun c50 => ?_) (fun c50 => ?_)
                  · refine lv_iinc (v := nI (k + 1)) (lv' := [(3, .int (nI (k + 1))), (5, .int (nI i)), (4, .int u), (0, .ref (a 0)), (1, .int x), (2, .int w)]) hx hb dX12_flow_123 hl (k := 2) rfl (nI_succ k).symm (by decide) rfl (fun ls hl => ?_)
                    refine lv_goto (tgt := 25) hx hb dX12_flow_126 (by decide) ?_
                    exact ih25 (k + 1) τ _ _ _ ⟨by omega, hi44.2⟩ (by omega) h (lv_sub hl [0, 3, 4, 5] rfl)
                  · have c50 : i < nc := Nat.lt_of_not_le fun q9 => c50 ((nI_leI (a := nc) (b := i) (by omega) (by omega)).mpr q9)
                    refine lv_aload_n hx hb dX12_flow_53 rfl (lv_at hl 3 rfl) ?_
                    refine r_get E h 10 (v := .ref (a 5)) (eM_0 cy a τ) rfl fw_X12 (by decide) fl_X12_22 rfl dX12_flow_54 ?_
                    refine lv_iload hx hb dX12_flow_57 (lv_at hl 0 rfl) ?_
                    refine r_ialdN E h (f := τ.2.1 5) (eM_5 cy a τ) (j := i) (by omega) (by decide) (v := τ.2.1 5 i) rfl dX12_flow_59 ?_
                    refine lv_iload_n hx hb dX12_flow_60 rfl (lv_at hl 2 rfl) ?_
                    refine lv_icmp_ne (tgt := 117) hx hb dX12_flow_61 (by decide) (fun c61 => ?_) (fun c61 => ?_)
                    · refine lv_iinc (v := nI (i + 1)) (lv' := [(5, .int (nI (i + 1))), (4, .int u), (3, .int (nI k)), (0, .ref (a 0)), (1, .int x), (2, .int w)]) hx hb dX12_flow_117 hl (k := 0) rfl (nI_succ i).symm (by decide) rfl (fun ls hl => ?_)
                      refine lv_goto (tgt := 44) hx hb dX12_flow_120 (by decide) ?_
                      exact ih44 (i + 1) u τ _ _ _ ⟨by omega, hi44.2⟩ (by omega) h (lv_sub hl [0, 1, 2, 3, 4, 5] rfl)
                    · refine lv_aload_n hx hb dX12_flow_64 rfl (lv_at hl 3 rfl) ?_
                      refine lv_iload hx hb dX12_flow_65 (lv_at hl 0 rfl) ?_
                      refine lv_iload_n hx hb dX12_flow_67 rfl (lv_at hl 4 rfl) ?_
                      refine k_i h (q_runV (As := [.int (nI i), .int x]) (rest := []) E h (c_X12_isDown l D cy a τ (nI i) x nr ((hkt.1 10 (by decide)).trans hrp) hr4) co_X12_isDown ml_X12_295 im_X12_isDown se_X12_isDown in_X12 (eM_0 cy a τ) rfl ok_X12_isDown rfl ⟨by decide, by decide⟩ hl.1 rfl (Nat.le_of_ble_eq_true rfl) dX12_flow_68 ⟨Nat.zero_le _, Nat.zero_le _⟩) (wM_fst cy a) (fun r68 τ68 H locs p68 h => ?_)
                      rw [p68.1] at h
                      refine lv_if_ne (tgt := 117) hx hb dX12_flow_71 (by decide) (fun c71 => ?_) (fun c71 => ?_)
                      · refine lv_iinc (v := nI (i + 1)) (lv' := [(5, .int (nI (i + 1))), (4, .int u), (3, .int (nI k)), (0, .ref (a 0)), (1, .int x), (2, .int w)]) hx hb dX12_flow_117 hl (k := 0) rfl (nI_succ i).symm (by decide) rfl (fun ls hl => ?_)
                        refine lv_goto (tgt := 44) hx hb dX12_flow_120 (by decide) ?_
                        exact ih44 (i + 1) u τ _ _ _ ⟨by omega, hi44.2⟩ (by omega) h (lv_sub hl [0, 1, 2, 3, 4, 5] rfl)
                      · refine lv_aload_n hx hb dX12_flow_74 rfl (lv_at hl 3 rfl) ?_
                        refine r_get E h 50 (v := .ref (a 31)) (eM_0 cy a τ) rfl fw_X12 (by decide) fl_X12_104 rfl dX12_flow_75 ?_
                        refine lv_iload hx hb dX12_flow_78 (lv_at hl 0 rfl) ?_
                        refine lv_aload_n hx hb dX12_flow_80 rfl (lv_at hl 3 rfl) ?_
                        refine r_get E h 11 (v := .ref (a 6)) (eM_0 cy a τ) rfl fw_X12 (by decide) fl_X12_25 rfl dX12_flow_81 ?_
                        refine lv_iload hx hb dX12_flow_84 (lv_at hl 0 rfl) ?_
                        refine r_ialdN E h (f := τ.2.1 6) (eM_6 cy a τ) (j := i) (by omega) (by decide) (v := τ.2.1 6 i) rfl dX12_flow_86 ?_
                        refine lv_iload hx hb dX12_flow_87 (lv_at hl 1 rfl) ?_
                        refine lv_icmp_ge (tgt := 102) hx hb dX12_flow_89 (by decide) (fun c89 => ?_) (fun c89 => ?_)
                        · refine lv_iload hx hb dX12_flow_102 (lv_at hl 1 rfl) ?_
                          refine r_iastN E h (f := τ.2.1 31) (eM_31 cy a τ) (j := i) (by omega) (by decide) (qM_31 cy a τ (upd (τ.2.1 31) i u)) dX12_flow_104 (fun H locs h => ?_)
                          refine lv_iload hx hb dX12_flow_105 (lv_at hl 1 rfl) ?_
                          refine lv_aload_n hx hb dX12_flow_107 rfl (lv_at hl 3 rfl) ?_
                          refine r_get E h 50 (v := .ref (a 31)) (eM_0 cy a (fR τ 31 (upd (τ.2.1 31) i u))) rfl fw_X12 (by decide) fl_X12_104 rfl dX12_flow_108 ?_
                          refine lv_iload hx hb dX12_flow_111 (lv_at hl 0 rfl) ?_
                          refine r_ialdN E h (f := upd (τ.2.1 31) i u) (eM_31 cy a (fR τ 31 (upd (τ.2.1 31) i u))) (j := i) (by omega) (by decide) (v := (upd (τ.2.1 31) i u) i) rfl dX12_flow_113 ?_
                          refine lv_isub hx hb dX12_flow_114 ?_
                          refine lv_istore (lv' := [(4, .int (u - ((upd (τ.2.1 31) i u) i))), (5, .int (nI i)), (3, .int (nI k)), (0, .ref (a 0)), (1, .int x), (2, .int w)]) hx hb dX12_flow_115 hl (by decide) rfl (fun ls hl => ?_)
                          refine lv_iinc (v := nI (i + 1)) (lv' := [(5, .int (nI (i + 1))), (4, .int (u - ((upd (τ.2.1 31) i u) i))), (3, .int (nI k)), (0, .ref (a 0)), (1, .int x), (2, .int w)]) hx hb dX12_flow_117 hl (k := 1) rfl (nI_succ i).symm (by decide) rfl (fun ls hl => ?_)
                          refine lv_goto (tgt := 44) hx hb dX12_flow_120 (by decide) ?_
                          exact ih44 (i + 1) (u - ((upd (τ.2.1 31) i u) i)) (fR τ 31 (upd (τ.2.1 31) i u)) _ _ _ ⟨by omega, hi44.2.R 31 _ (by decide)⟩ (by omega) h (lv_sub hl [0, 1, 2, 3, 4, 5] rfl)
                        · refine lv_aload_n hx hb dX12_flow_92 rfl (lv_at hl 3 rfl) ?_
                          refine r_get E h 11 (v := .ref (a 6)) (eM_0 cy a τ) rfl fw_X12 (by decide) fl_X12_25 rfl dX12_flow_93 ?_
                          refine lv_iload hx hb dX12_flow_96 (lv_at hl 0 rfl) ?_
                          refine r_ialdN E h (f := τ.2.1 6) (eM_6 cy a τ) (j := i) (by omega) (by decide) (v := τ.2.1 6 i) rfl dX12_flow_98 ?_
                          refine lv_goto (tgt := 104) hx hb dX12_flow_99 (by decide) ?_
                          refine r_iastN E h (f := τ.2.1 31) (eM_31 cy a τ) (j := i) (by omega) (by decide) (qM_31 cy a τ (upd (τ.2.1 31) i (τ.2.1 6 i))) dX12_flow_104 (fun H locs h => ?_)
                          refine lv_iload hx hb dX12_flow_105 (lv_at hl 1 rfl) ?_
                          refine lv_aload_n hx hb dX12_flow_107 rfl (lv_at hl 3 rfl) ?_
                          refine r_get E h 50 (v := .ref (a 31)) (eM_0 cy a (fR τ 31 (upd (τ.2.1 31) i (τ.2.1 6 i)))) rfl fw_X12 (by decide) fl_X12_104 rfl dX12_flow_108 ?_
                          refine lv_iload hx hb dX12_flow_111 (lv_at hl 0 rfl) ?_
                          refine r_ialdN E h (f := upd (τ.2.1 31) i (τ.2.1 6 i)) (eM_31 cy a (fR τ 31 (upd (τ.2.1 31) i (τ.2.1 6 i)))) (j := i) (by omega) (by decide) (v := (upd (τ.2.1 31) i (τ.2.1 6 i)) i) rfl dX12_flow_113 ?_
                          refine lv_isub hx hb dX12_flow_114 ?_
                          refine lv_istore (lv' := [(4, .int (u - ((upd (τ.2.1 31) i (τ.2.1 6 i)) i))), (5, .int (nI i)), (3, .int (nI k)), (0, .ref (a 0)), (1, .int x), (2, .int w)]) hx hb dX12_flow_115 hl (by decide) rfl (fun ls hl => ?_)
                          refine lv_iinc (v := nI (i + 1)) (lv' := [(5, .int (nI (i + 1))), (4, .int (u - ((upd (τ.2.1 31) i (τ.2.1 6 i)) i))), (3, .int (nI k)), (0, .ref (a 0)), (1, .int x), (2, .int w)]) hx hb dX12_flow_117 hl (k := 1) rfl (nI_succ i).symm (by decide) rfl (fun ls hl => ?_)
                          refine lv_goto (tgt := 44) hx hb dX12_flow_120 (by decide) ?_
                          exact ih44 (i + 1) (u - ((upd (τ.2.1 31) i (τ.2.1 6 i)) i)) (fR τ 31 (upd (τ.2.1 31) i (τ.2.1 6 i))) _ _ _ ⟨by omega, hi44.2.R 31 _ (by decide)⟩ (by omega) h (lv_sub hl [0, 1, 2, 3, 4, 5] rfl)
              exact lp44 _ 0 r36 τ _ _ _ ⟨Nat.zero_le _, hi25.2⟩ (Nat.lt_succ_self _) h (lv_sub hl [0, 1, 2, 3, 4, 5] rfl)
        exact lp25 _ 0 τ _ _ _ ⟨Nat.zero_le _, hi2.2⟩ (Nat.lt_succ_self _) h (lv_sub hl [0, 1, 2, 3] rfl)
      · have c7 : k < nc := Nat.lt_of_not_le fun q9 => c7 ((nI_leI (a := nc) (b := k) (by omega) (by omega)).mpr q9)
        refine lv_aload_n hx hb dX12_flow_10 rfl (lv_at hl 1 rfl) ?_
        refine r_get E h 50 (v := .ref (a 31)) (eM_0 cy a τ) rfl fw_X12 (by decide) fl_X12_104 rfl dX12_flow_11 ?_
        refine lv_iload_n hx hb dX12_flow_14 rfl (lv_at hl 0 rfl) ?_
        refine lv_iconst (v := 0) hx hb dX12_flow_15 (by decide) ?_
        refine r_iastN E h (f := τ.2.1 31) (eM_31 cy a τ) (j := k) (by omega) (by decide) (qM_31 cy a τ (upd (τ.2.1 31) k 0)) dX12_flow_16 (fun H locs h => ?_)
        refine lv_iinc (v := nI (k + 1)) (lv' := [(3, .int (nI (k + 1))), (0, .ref (a 0)), (1, .int x), (2, .int w)]) hx hb dX12_flow_17 hl (k := 0) rfl (nI_succ k).symm (by decide) rfl (fun ls hl => ?_)
        refine lv_goto (tgt := 2) hx hb dX12_flow_20 (by decide) ?_
        exact ih2 (k + 1) (fR τ 31 (upd (τ.2.1 31) k 0)) _ _ _ ⟨by omega, hi2.2.R 31 _ (by decide)⟩ (by omega) h (lv_sub hl [0, 1, 2, 3] rfl)
  exact lp2 _ 0 σ _ _ _ ⟨Nat.zero_le _, K.rf⟩ (Nat.lt_succ_self _) h (lv_sub hl [0, 1, 2, 3] rfl)

set_option maxHeartbeats 4000000 in
set_option maxRecDepth 100000 in
theorem c_X12_status (l : Launch) (D : va_G) (cy : Nat → ClassId) (a : Nat → Nat) (σ : St)   : CI l yX12_status cX12_status 1 (some .int) (rmOf 0 0) D cy (wM cy a) (AM a) [.ref (a 0)] σ (fun _ τ => K mF mA σ τ) := by
  refine c_of (lv := [(0, .ref (a 0))]) rfl (Nat.le_of_ble_eq_true rfl) rfl ?_
  intro p e s m args below meth c ls E h hr hk hl
  have hx := E.1
  have hb := E.2.1
  refine lv_aload_n hx hb dX12_status_0 rfl (lv_at hl 0 rfl) ?_
  refine lv_iconst (v := 0) hx hb dX12_status_1 (by decide) ?_
  refine r_put E h 0 (ty := .int) (eM_0 cy a σ) rfl fw_X12 tyX12_ok nmX12 (by decide) fl_X12_131 rfl (by decide +kernel) rfl rfl (Nat.le_of_ble_eq_true rfl) (sM_0 cy a σ 0) dX12_status_2 (fun H locs h => ?_)
  refine lv_aload_n hx hb dX12_status_5 rfl (lv_at hl 0 rfl) ?_
  refine r_get E h 1 (v := .int (σ.1 1)) (eM_0 cy a (fF σ 0 0)) rfl fw_X12 (by decide) fl_X12_134 rfl dX12_status_6 ?_
  exact t_i E h hr hk (K.rf.F 0 _ (by decide)) dX12_status_9

set_option maxHeartbeats 4000000 in
set_option maxRecDepth 100000 in
theorem c_X12_fault (l : Launch) (D : va_G) (cy : Nat → ClassId) (a : Nat → Nat) (σ : St)   : CI l yX12_fault cX12_fault 1 (some .int) (rmOf 0 0) D cy (wM cy a) (AM a) [.ref (a 0)] σ (fun _ τ => K mF mA σ τ) := by
  refine c_of (lv := [(0, .ref (a 0))]) rfl (Nat.le_of_ble_eq_true rfl) rfl ?_
  intro p e s m args below meth c ls E h hr hk hl
  have hx := E.1
  have hb := E.2.1
  refine lv_aload_n hx hb dX12_fault_0 rfl (lv_at hl 0 rfl) ?_
  refine lv_iconst (v := 0) hx hb dX12_fault_1 (by decide) ?_
  refine r_put E h 0 (ty := .int) (eM_0 cy a σ) rfl fw_X12 tyX12_ok nmX12 (by decide) fl_X12_131 rfl (by decide +kernel) rfl rfl (Nat.le_of_ble_eq_true rfl) (sM_0 cy a σ 0) dX12_fault_2 (fun H locs h => ?_)
  refine lv_aload_n hx hb dX12_fault_5 rfl (lv_at hl 0 rfl) ?_
  refine r_get E h 47 (v := .int (σ.1 17)) (eM_0 cy a (fF σ 0 0)) rfl fw_X12 (by decide) fl_X12_97 rfl dX12_fault_6 ?_
  exact t_i E h hr hk (K.rf.F 0 _ (by decide)) dX12_fault_9

set_option maxHeartbeats 4000000 in
set_option maxRecDepth 100000 in
theorem c_X12_lives (l : Launch) (D : va_G) (cy : Nat → ClassId) (a : Nat → Nat) (σ : St) (x y w : Int32) (g : GM 40 σ) : CI l yX12_lives cX12_lives 4 (some .int) (rmOf 3 74) D cy (wM cy a) (AM a) [.ref (a 0), .int x, .int y, .int w] σ (fun _ τ => K mF mA σ τ) := by
  refine c_of (lv := [(0, .ref (a 0)), (1, .int x), (2, .int y), (3, .int w)]) rfl (Nat.le_of_ble_eq_true rfl) rfl ?_
  intro p e s m args below meth c ls E h hr hk hl
  have hx := E.1
  have hb := E.2.1
  obtain ⟨⟨nq, hq4, hq⟩, ⟨ns, hs6, hs⟩, ⟨nc, hc12, hc, hcw⟩, ⟨np, hp4, hp⟩, ⟨nd, hd6, hd⟩, ⟨nz, hz8, hz, hzw⟩, ⟨nt, ht6, ht⟩, ⟨nr, hr4, hrp⟩, ⟨nl, hl3, hla⟩, ⟨nx, hx4, hxt⟩, ⟨nn, hn2, hnow⟩⟩ := id g
  refine lv_aload_n hx hb dX12_lives_0 rfl (lv_at hl 0 rfl) ?_
  refine lv_iconst (v := 0) hx hb dX12_lives_1 (by decide) ?_
  refine r_put E h 0 (ty := .int) (eM_0 cy a σ) rfl fw_X12 tyX12_ok nmX12 (by decide) fl_X12_131 rfl (by decide +kernel) rfl rfl (Nat.le_of_ble_eq_true rfl) (sM_0 cy a σ 0) dX12_lives_2 (fun H locs h => ?_)
  refine lv_aload_n hx hb dX12_lives_5 rfl (lv_at hl 0 rfl) ?_
  refine lv_iload_n hx hb dX12_lives_6 rfl (lv_at hl 1 rfl) ?_
  refine k_i h (q_runV (As := [.int x]) (rest := []) E h (c_X12_isNozzle l D cy a (fF σ 0 0) x nz hz (by omega)) co_X12_isNozzle ml_X12_197 im_X12_isNozzle se_X12_isNozzle in_X12 (eM_0 cy a (fF σ 0 0)) rfl ok_X12_isNozzle rfl ⟨by decide, by decide⟩ hl.1 rfl (Nat.le_of_ble_eq_true rfl) dX12_lives_7 ⟨Nat.zero_le _, Nat.zero_le _⟩) (wM_fst cy a) (fun r7 τ7 H locs p7 h => ?_)
  rw [p7.1] at h
  refine lv_if_eq (tgt := 37) hx hb dX12_lives_10 (by decide) (fun c10 => ?_) (fun c10 => ?_)
  · refine lv_iconst (v := -1) hx hb dX12_lives_37 (by decide) ?_
    exact t_i E h hr hk (K.rf.F 0 _ (by decide)) dX12_lives_38
  · obtain ⟨i, hi, hi8, rfl⟩ := z_in (p7.2.t c10).1 (p7.2.t c10).2 hz8 (by decide)
    refine lv_aload_n hx hb dX12_lives_13 rfl (lv_at hl 0 rfl) ?_
    refine r_get E h 21 (v := .ref (a 13)) (eM_0 cy a (fF σ 0 0)) rfl fw_X12 (by decide) fl_X12_46 rfl dX12_lives_14 ?_
    refine lv_iload_n hx hb dX12_lives_17 rfl (lv_at hl 1 rfl) ?_
    refine r_ialdN E h (f := σ.2.1 13) (eM_13 cy a (fF σ 0 0)) (j := i) hi8 (by decide) (v := σ.2.1 13 i) rfl dX12_lives_18 ?_
    refine lv_iconst (v := 2) hx hb dX12_lives_19 (by decide) ?_
    refine lv_icmp_ne (tgt := 37) hx hb dX12_lives_20 (by decide) (fun c20 => ?_) (fun c20 => ?_)
    · refine lv_iconst (v := -1) hx hb dX12_lives_37 (by decide) ?_
      exact t_i E h hr hk (K.rf.F 0 _ (by decide)) dX12_lives_38
    · refine lv_iload_n hx hb dX12_lives_23 rfl (lv_at hl 2 rfl) ?_
      refine k_i h (q_runS (As := [.int y]) (rest := []) E h (c_X12_isYear l D cy a (fF σ 0 0) y) co_X12_isYear ml_X12_161 st_X12_isYear in_X12 rfl ok_X12_isYear rfl ⟨by decide, by decide⟩ hl.1 rfl (Nat.le_of_ble_eq_true rfl) dX12_lives_24 ⟨Nat.zero_le _, Nat.zero_le _⟩) (wM_fst cy a) (fun r24 τ24 H locs p24 h => ?_)
      rw [p24.1] at h
      refine lv_if_eq (tgt := 37) hx hb dX12_lives_27 (by decide) (fun c27 => ?_) (fun c27 => ?_)
      · refine lv_iconst (v := -1) hx hb dX12_lives_37 (by decide) ?_
        exact t_i E h hr hk (K.rf.F 0 _ (by decide)) dX12_lives_38
      · refine lv_iload_n hx hb dX12_lives_30 rfl (lv_at hl 3 rfl) ?_
        refine k_i h (q_runS (As := [.int w]) (rest := []) E h (c_X12_isYear l D cy a (fF σ 0 0) w) co_X12_isYear ml_X12_161 st_X12_isYear in_X12 rfl ok_X12_isYear rfl ⟨by decide, by decide⟩ hl.1 rfl (Nat.le_of_ble_eq_true rfl) dX12_lives_31 ⟨Nat.zero_le _, Nat.zero_le _⟩) (wM_fst cy a) (fun r31 τ31 H locs p31 h => ?_)
        rw [p31.1] at h
        refine lv_if_ne (tgt := 39) hx hb dX12_lives_34 (by decide) (fun c34 => ?_) (fun c34 => ?_)
        · refine lv_aload_n hx hb dX12_lives_39 rfl (lv_at hl 0 rfl) ?_
          refine lv_iload_n hx hb dX12_lives_40 rfl (lv_at hl 1 rfl) ?_
          refine lv_iload_n hx hb dX12_lives_41 rfl (lv_at hl 2 rfl) ?_
          refine lv_iload_n hx hb dX12_lives_42 rfl (lv_at hl 3 rfl) ?_
          refine k_i h (q_runV (As := [.int (nI i), .int y, .int w]) (rest := []) E h (c_X12_livesIn l D cy a (fF σ 0 0) i y w nl nd hi8 hla hl3 hd hd6) co_X12_livesIn ml_X12_302 im_X12_livesIn se_X12_livesIn in_X12 (eM_0 cy a (fF σ 0 0)) rfl ok_X12_livesIn rfl ⟨by decide, by decide⟩ hl.1 rfl (Nat.le_of_ble_eq_true rfl) dX12_lives_43 ⟨Nat.zero_le _, Nat.zero_le _⟩) (wM_fst cy a) (fun r43 τ43 H locs p43 h => ?_)
          rw [p43.1] at h
          refine lv_if_eq (tgt := 53) hx hb dX12_lives_46 (by decide) (fun c46 => ?_) (fun c46 => ?_)
          · refine lv_iconst (v := 0) hx hb dX12_lives_53 (by decide) ?_
            exact t_i E h hr hk (K.rf.F 0 _ (by decide)) dX12_lives_54
          · refine lv_iconst (v := 1) hx hb dX12_lives_49 (by decide) ?_
            refine lv_goto (tgt := 54) hx hb dX12_lives_50 (by decide) ?_
            exact t_i E h hr hk (K.rf.F 0 _ (by decide)) dX12_lives_54
        · refine lv_iconst (v := -1) hx hb dX12_lives_37 (by decide) ?_
          exact t_i E h hr hk (K.rf.F 0 _ (by decide)) dX12_lives_38

set_option maxHeartbeats 4000000 in
set_option maxRecDepth 100000 in
theorem c_X12_gets (l : Launch) (D : va_G) (cy : Nat → ClassId) (a : Nat → Nat) (σ : St) (x y w : Int32) (g : GM 40 σ) : CI l yX12_gets cX12_gets 4 (some .int) (rmOf 5 128) D cy (wM cy a) (AM a) [.ref (a 0), .int x, .int y, .int w] σ (fun _ τ => K mF mA σ τ) := by
  refine c_of (lv := [(0, .ref (a 0)), (1, .int x), (2, .int y), (3, .int w)]) rfl (Nat.le_of_ble_eq_true rfl) rfl ?_
  intro p e s m args below meth c ls E h hr hk hl
  have hx := E.1
  have hb := E.2.1
  obtain ⟨⟨nq, hq4, hq⟩, ⟨ns, hs6, hs⟩, ⟨nc, hc12, hc, hcw⟩, ⟨np, hp4, hp⟩, ⟨nd, hd6, hd⟩, ⟨nz, hz8, hz, hzw⟩, ⟨nt, ht6, ht⟩, ⟨nr, hr4, hrp⟩, ⟨nl, hl3, hla⟩, ⟨nx, hx4, hxt⟩, ⟨nn, hn2, hnow⟩⟩ := id g
  refine lv_aload_n hx hb dX12_gets_0 rfl (lv_at hl 0 rfl) ?_
  refine lv_iconst (v := 0) hx hb dX12_gets_1 (by decide) ?_
  refine r_put E h 0 (ty := .int) (eM_0 cy a σ) rfl fw_X12 tyX12_ok nmX12 (by decide) fl_X12_131 rfl (by decide +kernel) rfl rfl (Nat.le_of_ble_eq_true rfl) (sM_0 cy a σ 0) dX12_gets_2 (fun H locs h => ?_)
  refine lv_aload_n hx hb dX12_gets_5 rfl (lv_at hl 0 rfl) ?_
  refine lv_iload_n hx hb dX12_gets_6 rfl (lv_at hl 1 rfl) ?_
  refine k_i h (q_runV (As := [.int x]) (rest := []) E h (c_X12_isNozzle l D cy a (fF σ 0 0) x nz hz (by omega)) co_X12_isNozzle ml_X12_197 im_X12_isNozzle se_X12_isNozzle in_X12 (eM_0 cy a (fF σ 0 0)) rfl ok_X12_isNozzle rfl ⟨by decide, by decide⟩ hl.1 rfl (Nat.le_of_ble_eq_true rfl) dX12_gets_7 ⟨Nat.zero_le _, Nat.zero_le _⟩) (wM_fst cy a) (fun r7 τ7 H locs p7 h => ?_)
  rw [p7.1] at h
  refine lv_if_eq (tgt := 27) hx hb dX12_gets_10 (by decide) (fun c10 => ?_) (fun c10 => ?_)
  · refine lv_iconst (v := -1) hx hb dX12_gets_27 (by decide) ?_
    exact t_i E h hr hk (K.rf.F 0 _ (by decide)) dX12_gets_28
  · obtain ⟨i, hi, hi8, rfl⟩ := z_in (p7.2.t c10).1 (p7.2.t c10).2 hz8 (by decide)
    refine lv_iload_n hx hb dX12_gets_13 rfl (lv_at hl 2 rfl) ?_
    refine k_i h (q_runS (As := [.int y]) (rest := []) E h (c_X12_isYear l D cy a (fF σ 0 0) y) co_X12_isYear ml_X12_161 st_X12_isYear in_X12 rfl ok_X12_isYear rfl ⟨by decide, by decide⟩ hl.1 rfl (Nat.le_of_ble_eq_true rfl) dX12_gets_14 ⟨Nat.zero_le _, Nat.zero_le _⟩) (wM_fst cy a) (fun r14 τ14 H locs p14 h => ?_)
    rw [p14.1] at h
    refine lv_if_eq (tgt := 27) hx hb dX12_gets_17 (by decide) (fun c17 => ?_) (fun c17 => ?_)
    · refine lv_iconst (v := -1) hx hb dX12_gets_27 (by decide) ?_
      exact t_i E h hr hk (K.rf.F 0 _ (by decide)) dX12_gets_28
    · refine lv_iload_n hx hb dX12_gets_20 rfl (lv_at hl 3 rfl) ?_
      refine k_i h (q_runS (As := [.int w]) (rest := []) E h (c_X12_isYear l D cy a (fF σ 0 0) w) co_X12_isYear ml_X12_161 st_X12_isYear in_X12 rfl ok_X12_isYear rfl ⟨by decide, by decide⟩ hl.1 rfl (Nat.le_of_ble_eq_true rfl) dX12_gets_21 ⟨Nat.zero_le _, Nat.zero_le _⟩) (wM_fst cy a) (fun r21 τ21 H locs p21 h => ?_)
      rw [p21.1] at h
      refine lv_if_ne (tgt := 29) hx hb dX12_gets_24 (by decide) (fun c24 => ?_) (fun c24 => ?_)
      · refine lv_aload_n hx hb dX12_gets_29 rfl (lv_at hl 0 rfl) ?_
        refine lv_iload_n hx hb dX12_gets_30 rfl (lv_at hl 2 rfl) ?_
        refine lv_iload_n hx hb dX12_gets_31 rfl (lv_at hl 3 rfl) ?_
        refine k_v h (q_runV (As := [.int y, .int w]) (rest := []) E h (c_X12_flow l D cy a (fF σ 0 0) y w (gm_41 (gm_0 g 0))) co_X12_flow ml_X12_309 im_X12_flow se_X12_flow in_X12 (eM_0 cy a (fF σ 0 0)) rfl ok_X12_flow rfl ⟨by decide, by decide⟩ hl.1 rfl (Nat.le_of_ble_eq_true rfl) dX12_gets_32 ⟨Nat.zero_le _, Nat.zero_le _⟩) (wM_fst cy a) (fun τ32 H locs p32 h => ?_)
        refine lv_aload_n hx hb dX12_gets_35 rfl (lv_at hl 0 rfl) ?_
        refine r_get E h 55 (v := .ref (a 36)) (eM_0 cy a τ32) rfl fw_X12 (by decide) fl_X12_119 rfl dX12_gets_36 ?_
        refine lv_iload_n hx hb dX12_gets_39 rfl (lv_at hl 1 rfl) ?_
        refine r_ialdN E h (f := τ32.2.1 36) (eM_36 cy a τ32) (j := i) hi8 (by decide) (v := τ32.2.1 36 i) rfl dX12_gets_40 ?_
        exact t_i E h hr hk ((K.rf.F 0 _ (by decide)).tr p32.1) dX12_gets_41
      · refine lv_iconst (v := -1) hx hb dX12_gets_27 (by decide) ?_
        exact t_i E h hr hk (K.rf.F 0 _ (by decide)) dX12_gets_28

set_option maxHeartbeats 4000000 in
set_option maxRecDepth 100000 in
theorem c_X12_at (l : Launch) (D : va_G) (cy : Nat → ClassId) (a : Nat → Nat) (σ : St) (x y w v : Int32) (g : GM 40 σ) : CI l yX12_at cX12_at 5 (some .int) (rmOf 5 128) D cy (wM cy a) (AM a) [.ref (a 0), .int x, .int y, .int w, .int v] σ (fun _ τ => K mF mA σ τ) := by
  refine c_of (lv := [(0, .ref (a 0)), (1, .int x), (2, .int y), (3, .int w), (4, .int v)]) rfl (Nat.le_of_ble_eq_true rfl) rfl ?_
  intro p e s m args below meth c ls E h hr hk hl
  have hx := E.1
  have hb := E.2.1
  obtain ⟨⟨nq, hq4, hq⟩, ⟨ns, hs6, hs⟩, ⟨nc, hc12, hc, hcw⟩, ⟨np, hp4, hp⟩, ⟨nd, hd6, hd⟩, ⟨nz, hz8, hz, hzw⟩, ⟨nt, ht6, ht⟩, ⟨nr, hr4, hrp⟩, ⟨nl, hl3, hla⟩, ⟨nx, hx4, hxt⟩, ⟨nn, hn2, hnow⟩⟩ := id g
  refine lv_aload_n hx hb dX12_at_0 rfl (lv_at hl 0 rfl) ?_
  refine lv_iconst (v := 0) hx hb dX12_at_1 (by decide) ?_
  refine r_put E h 0 (ty := .int) (eM_0 cy a σ) rfl fw_X12 tyX12_ok nmX12 (by decide) fl_X12_131 rfl (by decide +kernel) rfl rfl (Nat.le_of_ble_eq_true rfl) (sM_0 cy a σ 0) dX12_at_2 (fun H locs h => ?_)
  refine lv_aload_n hx hb dX12_at_5 rfl (lv_at hl 0 rfl) ?_
  refine lv_iload_n hx hb dX12_at_6 rfl (lv_at hl 1 rfl) ?_
  refine k_i h (q_runV (As := [.int x]) (rest := []) E h (c_X12_isCastle l D cy a (fF σ 0 0) x nc hc (by omega)) co_X12_isCastle ml_X12_188 im_X12_isCastle se_X12_isCastle in_X12 (eM_0 cy a (fF σ 0 0)) rfl ok_X12_isCastle rfl ⟨by decide, by decide⟩ hl.1 rfl (Nat.le_of_ble_eq_true rfl) dX12_at_7 ⟨Nat.zero_le _, Nat.zero_le _⟩) (wM_fst cy a) (fun r7 τ7 H locs p7 h => ?_)
  rw [p7.1] at h
  refine lv_if_eq (tgt := 27) hx hb dX12_at_10 (by decide) (fun c10 => ?_) (fun c10 => ?_)
  · refine lv_iconst (v := -1) hx hb dX12_at_27 (by decide) ?_
    exact t_i E h hr hk (K.rf.F 0 _ (by decide)) dX12_at_28
  · obtain ⟨i, hi, hi2, rfl⟩ := z_in (p7.2.t c10).1 (p7.2.t c10).2 hc12 (by decide)
    refine lv_iload_n hx hb dX12_at_13 rfl (lv_at hl 2 rfl) ?_
    refine k_i h (q_runS (As := [.int y]) (rest := []) E h (c_X12_isYear l D cy a (fF σ 0 0) y) co_X12_isYear ml_X12_161 st_X12_isYear in_X12 rfl ok_X12_isYear rfl ⟨by decide, by decide⟩ hl.1 rfl (Nat.le_of_ble_eq_true rfl) dX12_at_14 ⟨Nat.zero_le _, Nat.zero_le _⟩) (wM_fst cy a) (fun r14 τ14 H locs p14 h => ?_)
    rw [p14.1] at h
    refine lv_if_eq (tgt := 27) hx hb dX12_at_17 (by decide) (fun c17 => ?_) (fun c17 => ?_)
    · refine lv_iconst (v := -1) hx hb dX12_at_27 (by decide) ?_
      exact t_i E h hr hk (K.rf.F 0 _ (by decide)) dX12_at_28
    · refine lv_iload_n hx hb dX12_at_20 rfl (lv_at hl 3 rfl) ?_
      refine k_i h (q_runS (As := [.int w]) (rest := []) E h (c_X12_isYear l D cy a (fF σ 0 0) w) co_X12_isYear ml_X12_161 st_X12_isYear in_X12 rfl ok_X12_isYear rfl ⟨by decide, by decide⟩ hl.1 rfl (Nat.le_of_ble_eq_true rfl) dX12_at_21 ⟨Nat.zero_le _, Nat.zero_le _⟩) (wM_fst cy a) (fun r21 τ21 H locs p21 h => ?_)
      rw [p21.1] at h
      refine lv_if_ne (tgt := 29) hx hb dX12_at_24 (by decide) (fun c24 => ?_) (fun c24 => ?_)
      · refine lv_aload_n hx hb dX12_at_29 rfl (lv_at hl 0 rfl) ?_
        refine lv_iload_n hx hb dX12_at_30 rfl (lv_at hl 2 rfl) ?_
        refine lv_iload_n hx hb dX12_at_31 rfl (lv_at hl 3 rfl) ?_
        refine k_v h (q_runV (As := [.int y, .int w]) (rest := []) E h (c_X12_flow l D cy a (fF σ 0 0) y w (gm_41 (gm_0 g 0))) co_X12_flow ml_X12_309 im_X12_flow se_X12_flow in_X12 (eM_0 cy a (fF σ 0 0)) rfl ok_X12_flow rfl ⟨by decide, by decide⟩ hl.1 rfl (Nat.le_of_ble_eq_true rfl) dX12_at_32 ⟨Nat.zero_le _, Nat.zero_le _⟩) (wM_fst cy a) (fun τ32 H locs p32 h => ?_)
        refine lv_iload hx hb dX12_at_35 (lv_at hl 4 rfl) ?_
        by_cases sw37 : v.toInt < 0 ∨ 6 < v.toInt
        · refine lv_tableOut (tgt := 143) hx hb dX12_at_37 sw37 (by decide) ?_
          refine lv_iconst (v := -1) hx hb dX12_at_143 (by decide) ?_
          exact t_i E h hr hk ((K.rf.F 0 _ (by decide)).tr p32.1) dX12_at_144
        · rcases (show v.toInt = 0 ∨ v.toInt = 1 ∨ v.toInt = 2 ∨ v.toInt = 3 ∨ v.toInt = 4 ∨ v.toInt = 5 ∨ v.toInt = 6 by omega) with e37 | e37 | e37 | e37 | e37 | e37 | e37
          · refine lv_tableIn (tgt := 80) hx hb dX12_at_37 (by omega) (by omega) (by rw [e37]; rfl) (by decide) ?_
            refine lv_aload_n hx hb dX12_at_80 rfl (lv_at hl 0 rfl) ?_
            refine r_get E h 49 (v := .ref (a 30)) (eM_0 cy a τ32) rfl fw_X12 (by decide) fl_X12_101 rfl dX12_at_81 ?_
            refine lv_iload_n hx hb dX12_at_84 rfl (lv_at hl 1 rfl) ?_
            refine r_ialdN E h (f := τ32.2.1 30) (eM_30 cy a τ32) (j := i) hi2 (by decide) (v := τ32.2.1 30 i) rfl dX12_at_85 ?_
            exact t_i E h hr hk ((K.rf.F 0 _ (by decide)).tr p32.1) dX12_at_86
          · refine lv_tableIn (tgt := 87) hx hb dX12_at_37 (by omega) (by omega) (by rw [e37]; rfl) (by decide) ?_
            refine lv_aload_n hx hb dX12_at_87 rfl (lv_at hl 0 rfl) ?_
            refine r_get E h 50 (v := .ref (a 31)) (eM_0 cy a τ32) rfl fw_X12 (by decide) fl_X12_104 rfl dX12_at_88 ?_
            refine lv_iload_n hx hb dX12_at_91 rfl (lv_at hl 1 rfl) ?_
            refine r_ialdN E h (f := τ32.2.1 31) (eM_31 cy a τ32) (j := i) hi2 (by decide) (v := τ32.2.1 31 i) rfl dX12_at_92 ?_
            exact t_i E h hr hk ((K.rf.F 0 _ (by decide)).tr p32.1) dX12_at_93
          · refine lv_tableIn (tgt := 94) hx hb dX12_at_37 (by omega) (by omega) (by rw [e37]; rfl) (by decide) ?_
            refine lv_aload_n hx hb dX12_at_94 rfl (lv_at hl 0 rfl) ?_
            refine r_get E h 51 (v := .ref (a 32)) (eM_0 cy a τ32) rfl fw_X12 (by decide) fl_X12_107 rfl dX12_at_95 ?_
            refine lv_iload_n hx hb dX12_at_98 rfl (lv_at hl 1 rfl) ?_
            refine r_ialdN E h (f := τ32.2.1 32) (eM_32 cy a τ32) (j := i) hi2 (by decide) (v := τ32.2.1 32 i) rfl dX12_at_99 ?_
            exact t_i E h hr hk ((K.rf.F 0 _ (by decide)).tr p32.1) dX12_at_100
          · refine lv_tableIn (tgt := 101) hx hb dX12_at_37 (by omega) (by omega) (by rw [e37]; rfl) (by decide) ?_
            refine lv_aload_n hx hb dX12_at_101 rfl (lv_at hl 0 rfl) ?_
            refine r_get E h 52 (v := .ref (a 33)) (eM_0 cy a τ32) rfl fw_X12 (by decide) fl_X12_110 rfl dX12_at_102 ?_
            refine lv_iload_n hx hb dX12_at_105 rfl (lv_at hl 1 rfl) ?_
            refine r_ialdN E h (f := τ32.2.1 33) (eM_33 cy a τ32) (j := i) hi2 (by decide) (v := τ32.2.1 33 i) rfl dX12_at_106 ?_
            exact t_i E h hr hk ((K.rf.F 0 _ (by decide)).tr p32.1) dX12_at_107
          · refine lv_tableIn (tgt := 108) hx hb dX12_at_37 (by omega) (by omega) (by rw [e37]; rfl) (by decide) ?_
            refine lv_aload_n hx hb dX12_at_108 rfl (lv_at hl 0 rfl) ?_
            refine r_get E h 53 (v := .ref (a 34)) (eM_0 cy a τ32) rfl fw_X12 (by decide) fl_X12_113 rfl dX12_at_109 ?_
            refine lv_iload_n hx hb dX12_at_112 rfl (lv_at hl 1 rfl) ?_
            refine r_ialdN E h (f := τ32.2.1 34) (eM_34 cy a τ32) (j := i) hi2 (by decide) (v := τ32.2.1 34 i) rfl dX12_at_113 ?_
            exact t_i E h hr hk ((K.rf.F 0 _ (by decide)).tr p32.1) dX12_at_114
          · refine lv_tableIn (tgt := 115) hx hb dX12_at_37 (by omega) (by omega) (by rw [e37]; rfl) (by decide) ?_
            refine lv_aload_n hx hb dX12_at_115 rfl (lv_at hl 0 rfl) ?_
            refine r_get E h 54 (v := .ref (a 35)) (eM_0 cy a τ32) rfl fw_X12 (by decide) fl_X12_116 rfl dX12_at_116 ?_
            refine lv_iload_n hx hb dX12_at_119 rfl (lv_at hl 1 rfl) ?_
            refine r_ialdN E h (f := τ32.2.1 35) (eM_35 cy a τ32) (j := i) hi2 (by decide) (v := τ32.2.1 35 i) rfl dX12_at_120 ?_
            exact t_i E h hr hk ((K.rf.F 0 _ (by decide)).tr p32.1) dX12_at_121
          · refine lv_tableIn (tgt := 122) hx hb dX12_at_37 (by omega) (by omega) (by rw [e37]; rfl) (by decide) ?_
            refine lv_aload_n hx hb dX12_at_122 rfl (lv_at hl 0 rfl) ?_
            refine r_get E h 49 (v := .ref (a 30)) (eM_0 cy a τ32) rfl fw_X12 (by decide) fl_X12_101 rfl dX12_at_123 ?_
            refine lv_iload_n hx hb dX12_at_126 rfl (lv_at hl 1 rfl) ?_
            refine r_ialdN E h (f := τ32.2.1 30) (eM_30 cy a τ32) (j := i) hi2 (by decide) (v := τ32.2.1 30 i) rfl dX12_at_127 ?_
            refine lv_aload_n hx hb dX12_at_128 rfl (lv_at hl 0 rfl) ?_
            refine r_get E h 53 (v := .ref (a 34)) (eM_0 cy a τ32) rfl fw_X12 (by decide) fl_X12_113 rfl dX12_at_129 ?_
            refine lv_iload_n hx hb dX12_at_132 rfl (lv_at hl 1 rfl) ?_
            refine r_ialdN E h (f := τ32.2.1 34) (eM_34 cy a τ32) (j := i) hi2 (by decide) (v := τ32.2.1 34 i) rfl dX12_at_133 ?_
            refine lv_isub hx hb dX12_at_134 ?_
            refine lv_aload_n hx hb dX12_at_135 rfl (lv_at hl 0 rfl) ?_
            refine r_get E h 54 (v := .ref (a 35)) (eM_0 cy a τ32) rfl fw_X12 (by decide) fl_X12_116 rfl dX12_at_136 ?_
            refine lv_iload_n hx hb dX12_at_139 rfl (lv_at hl 1 rfl) ?_
            refine r_ialdN E h (f := τ32.2.1 35) (eM_35 cy a τ32) (j := i) hi2 (by decide) (v := τ32.2.1 35 i) rfl dX12_at_140 ?_
            refine lv_isub hx hb dX12_at_141 ?_
            exact t_i E h hr hk ((K.rf.F 0 _ (by decide)).tr p32.1) dX12_at_142
      · refine lv_iconst (v := -1) hx hb dX12_at_27 (by decide) ?_
        exact t_i E h hr hk (K.rf.F 0 _ (by decide)) dX12_at_28

set_option maxHeartbeats 4000000 in
set_option maxRecDepth 100000 in
theorem c_X12_isDry (l : Launch) (D : va_G) (cy : Nat → ClassId) (a : Nat → Nat) (σ : St) (x y : Int32) (nz : Nat) (hz : σ.1 8 = nI nz) (hz8 : nz ≤ 80) : CI l yX12_isDry cX12_isDry 6 (some .boolean) (rmOf 1 22) D cy (wM cy a) (AM a) [.ref (a 0), .int x, .int y] σ (fun r τ => τ = σ ∧ (r = 0 ∨ r = 1)) := by
  refine c_of (lv := [(0, .ref (a 0)), (1, .int x), (2, .int y)]) rfl (Nat.le_of_ble_eq_true rfl) rfl ?_
  intro p e s m args below meth c ls E h hr hk hl
  have hx := E.1
  have hb := E.2.1
  refine lv_iconst (v := 0) hx hb dX12_isDry_0 (by decide) ?_
  refine lv_istore_n (lv' := [(3, .int 0), (0, .ref (a 0)), (1, .int x), (2, .int y)]) hx hb dX12_isDry_1 rfl hl (by decide) rfl (fun ls hl => ?_)
  refine lv_iconst (v := 0) hx hb dX12_isDry_2 (by decide) ?_
  refine lv_istore (lv' := [(4, .int 0), (3, .int 0), (0, .ref (a 0)), (1, .int x), (2, .int y)]) hx hb dX12_isDry_3 hl (by decide) rfl (fun ls hl => ?_)
  refine lv_iconst (v := 0) hx hb dX12_isDry_5 (by decide) ?_
  refine lv_istore (lv' := [(5, .int 0), (4, .int 0), (3, .int 0), (0, .ref (a 0)), (1, .int x), (2, .int y)]) hx hb dX12_isDry_6 hl (by decide) rfl (fun ls hl => ?_)
  have lp8 : ∀ (f : Nat) (k : Nat) (u v : Int32) (H : Heap) (locs : List Loc) (ls : Array Slot), (k ≤ nz) → (nz - k) < f → HW D (AM a) s (wM cy a σ) H locs → lv_has ls 6 [(5, .int (nI k)), (4, .int v), (3, .int u), (0, .ref (a 0)), (1, .int x), (2, .int y)] → W p l e (rmOf 1 22) s m args below meth c H locs 0 0 (MQ below (va_Qi (fun r τ => τ = σ ∧ (r = 0 ∨ r = 1)) (fun u t => va_P D vwCl (wM cy a u) t.heap) (AM a)) args s 0 0 (AM a)) (F0 m 8 ls []) := by
    intro f
    induction f with
    | zero => intro k u v H locs ls _ hf; exact absurd hf (Nat.not_lt_zero _)
    | succ f ih8 =>
      intro k u v H locs ls hi8 hf8 h hl
      refine lv_iload hx hb dX12_isDry_8 (lv_at hl 0 rfl) ?_
      refine lv_aload_n hx hb dX12_isDry_10 rfl (lv_at hl 3 rfl) ?_
      refine r_get E h 18 (v := .int (nI nz)) (eM_0 cy a σ) rfl fw_X12 (by decide) fl_X12_149 (congrArg (fun z => some (Value.int z)) hz) dX12_isDry_11 ?_
      refine lv_icmp_ge (tgt := 77) hx hb dX12_isDry_14 (by decide) (fun c14 => ?_) (fun c14 => ?_)
      · refine lv_iconst (v := 2) hx hb dX12_isDry_77 (by decide) ?_
        refine lv_iload hx hb dX12_isDry_78 (lv_at hl 1 rfl) ?_
        refine lv_imul hx hb dX12_isDry_80 ?_
        refine lv_iload_n hx hb dX12_isDry_81 rfl (lv_at hl 2 rfl) ?_
        refine lv_icmp_ge (tgt := 89) hx hb dX12_isDry_82 (by decide) (fun c82 => ?_) (fun c82 => ?_)
        · refine lv_iconst (v := 0) hx hb dX12_isDry_89 (by decide) ?_
          exact t_z E h hr hk (Or.inl rfl) ⟨rfl, Or.inl rfl⟩ dX12_isDry_90
        · refine lv_iconst (v := 1) hx hb dX12_isDry_85 (by decide) ?_
          refine lv_goto (tgt := 90) hx hb dX12_isDry_86 (by decide) ?_
          exact t_z E h hr hk (Or.inr rfl) ⟨rfl, Or.inr rfl⟩ dX12_isDry_90
      · have c14 : k < nz := Nat.lt_of_not_le fun q9 => c14 ((nI_leI (a := nz) (b := k) (by omega) (by omega)).mpr q9)
        refine lv_aload_n hx hb dX12_isDry_17 rfl (lv_at hl 3 rfl) ?_
        refine r_get E h 21 (v := .ref (a 13)) (eM_0 cy a σ) rfl fw_X12 (by decide) fl_X12_46 rfl dX12_isDry_18 ?_
        refine lv_iload hx hb dX12_isDry_21 (lv_at hl 0 rfl) ?_
        refine r_ialdN E h (f := σ.2.1 13) (eM_13 cy a σ) (j := k) (by omega) (by decide) (v := σ.2.1 13 k) rfl dX12_isDry_23 ?_
        refine lv_iconst (v := 2) hx hb dX12_isDry_24 (by decide) ?_
        refine lv_icmp_ge (tgt := 71) hx hb dX12_isDry_25 (by decide) (fun c25 => ?_) (fun c25 => ?_)
        · refine lv_iinc (v := nI (k + 1)) (lv' := [(5, .int (nI (k + 1))), (4, .int v), (3, .int u), (0, .ref (a 0)), (1, .int x), (2, .int y)]) hx hb dX12_isDry_71 hl (k := 0) rfl (nI_succ k).symm (by decide) rfl (fun ls hl => ?_)
          refine lv_goto (tgt := 8) hx hb dX12_isDry_74 (by decide) ?_
          exact ih8 (k + 1) u v _ _ _ (by omega) (by omega) h (lv_sub hl [0, 1, 2, 3, 4, 5] rfl)
        · refine lv_aload_n hx hb dX12_isDry_28 rfl (lv_at hl 3 rfl) ?_
          refine r_get E h 22 (v := .ref (a 14)) (eM_0 cy a σ) rfl fw_X12 (by decide) fl_X12_49 rfl dX12_isDry_29 ?_
          refine lv_iload hx hb dX12_isDry_32 (lv_at hl 0 rfl) ?_
          refine r_ialdN E h (f := σ.2.1 14) (eM_14 cy a σ) (j := k) (by omega) (by decide) (v := σ.2.1 14 k) rfl dX12_isDry_34 ?_
          refine lv_iload_n hx hb dX12_isDry_35 rfl (lv_at hl 4 rfl) ?_
          refine lv_icmp_ne (tgt := 71) hx hb dX12_isDry_36 (by decide) (fun c36 => ?_) (fun c36 => ?_)
          · refine lv_iinc (v := nI (k + 1)) (lv' := [(5, .int (nI (k + 1))), (4, .int v), (3, .int u), (0, .ref (a 0)), (1, .int x), (2, .int y)]) hx hb dX12_isDry_71 hl (k := 0) rfl (nI_succ k).symm (by decide) rfl (fun ls hl => ?_)
            refine lv_goto (tgt := 8) hx hb dX12_isDry_74 (by decide) ?_
            exact ih8 (k + 1) u v _ _ _ (by omega) (by omega) h (lv_sub hl [0, 1, 2, 3, 4, 5] rfl)
          · refine lv_aload_n hx hb dX12_isDry_39 rfl (lv_at hl 3 rfl) ?_
            refine lv_iload hx hb dX12_isDry_40 (lv_at hl 0 rfl) ?_
            refine lv_iload_n hx hb dX12_isDry_42 rfl (lv_at hl 5 rfl) ?_
            refine k_i h (q_runV (As := [.int (nI k), .int y]) (rest := []) E h (c_X12_isOpen l D cy a σ k y (by omega)) co_X12_isOpen ml_X12_286 im_X12_isOpen se_X12_isOpen in_X12 (eM_0 cy a σ) rfl ok_X12_isOpen rfl ⟨by decide, by decide⟩ hl.1 rfl (Nat.le_of_ble_eq_true rfl) dX12_isDry_43 ⟨Nat.zero_le _, Nat.zero_le _⟩) (wM_fst cy a) (fun r43 τ43 H locs p43 h => ?_)
            rw [p43.1] at h
            refine lv_if_eq (tgt := 71) hx hb dX12_isDry_46 (by decide) (fun c46 => ?_) (fun c46 => ?_)
            · refine lv_iinc (v := nI (k + 1)) (lv' := [(5, .int (nI (k + 1))), (4, .int v), (3, .int u), (0, .ref (a 0)), (1, .int x), (2, .int y)]) hx hb dX12_isDry_71 hl (k := 0) rfl (nI_succ k).symm (by decide) rfl (fun ls hl => ?_)
              refine lv_goto (tgt := 8) hx hb dX12_isDry_74 (by decide) ?_
              exact ih8 (k + 1) u v _ _ _ (by omega) (by omega) h (lv_sub hl [0, 1, 2, 3, 4, 5] rfl)
            · refine lv_iload_n hx hb dX12_isDry_49 rfl (lv_at hl 2 rfl) ?_
              refine lv_aload_n hx hb dX12_isDry_50 rfl (lv_at hl 3 rfl) ?_
              refine r_get E h 20 (v := .ref (a 12)) (eM_0 cy a σ) rfl fw_X12 (by decide) fl_X12_43 rfl dX12_isDry_51 ?_
              refine lv_iload hx hb dX12_isDry_54 (lv_at hl 0 rfl) ?_
              refine r_ialdN E h (f := σ.2.1 12) (eM_12 cy a σ) (j := k) (by omega) (by decide) (v := σ.2.1 12 k) rfl dX12_isDry_56 ?_
              refine lv_iadd hx hb dX12_isDry_57 ?_
              refine lv_istore_n (lv' := [(3, .int (u + (σ.2.1 12 k))), (5, .int (nI k)), (4, .int v), (0, .ref (a 0)), (1, .int x), (2, .int y)]) hx hb dX12_isDry_58 rfl hl (by decide) rfl (fun ls hl => ?_)
              refine lv_iload hx hb dX12_isDry_59 (lv_at hl 2 rfl) ?_
              refine lv_aload_n hx hb dX12_isDry_61 rfl (lv_at hl 3 rfl) ?_
              refine r_get E h 55 (v := .ref (a 36)) (eM_0 cy a σ) rfl fw_X12 (by decide) fl_X12_119 rfl dX12_isDry_62 ?_
              refine lv_iload hx hb dX12_isDry_65 (lv_at hl 1 rfl) ?_
              refine r_ialdN E h (f := σ.2.1 36) (eM_36 cy a σ) (j := k) (by omega) (by decide) (v := σ.2.1 36 k) rfl dX12_isDry_67 ?_
              refine lv_iadd hx hb dX12_isDry_68 ?_
              refine lv_istore (lv' := [(4, .int (v + (σ.2.1 36 k))), (3, .int (u + (σ.2.1 12 k))), (5, .int (nI k)), (0, .ref (a 0)), (1, .int x), (2, .int y)]) hx hb dX12_isDry_69 hl (by decide) rfl (fun ls hl => ?_)
              refine lv_iinc (v := nI (k + 1)) (lv' := [(5, .int (nI (k + 1))), (4, .int (v + (σ.2.1 36 k))), (3, .int (u + (σ.2.1 12 k))), (0, .ref (a 0)), (1, .int x), (2, .int y)]) hx hb dX12_isDry_71 hl (k := 2) rfl (nI_succ k).symm (by decide) rfl (fun ls hl => ?_)
              refine lv_goto (tgt := 8) hx hb dX12_isDry_74 (by decide) ?_
              exact ih8 (k + 1) (u + (σ.2.1 12 k)) (v + (σ.2.1 36 k)) _ _ _ (by omega) (by omega) h (lv_sub hl [0, 1, 2, 3, 4, 5] rfl)
  exact lp8 _ 0 0 0 _ _ _ (Nat.zero_le _) (Nat.lt_succ_self _) h (lv_sub hl [0, 1, 2, 3, 4, 5] rfl)

set_option maxHeartbeats 4000000 in
set_option maxRecDepth 100000 in
theorem c_X12_dry (l : Launch) (D : va_G) (cy : Nat → ClassId) (a : Nat → Nat) (σ : St) (x y w : Int32) (g : GM 40 σ) : CI l yX12_dry cX12_dry 4 (some .int) (rmOf 5 128) D cy (wM cy a) (AM a) [.ref (a 0), .int x, .int y, .int w] σ (fun _ τ => K mF mA σ τ) := by
  refine c_of (lv := [(0, .ref (a 0)), (1, .int x), (2, .int y), (3, .int w)]) rfl (Nat.le_of_ble_eq_true rfl) rfl ?_
  intro p e s m args below meth c ls E h hr hk hl
  have hx := E.1
  have hb := E.2.1
  obtain ⟨⟨nq, hq4, hq⟩, ⟨ns, hs6, hs⟩, ⟨nc, hc12, hc, hcw⟩, ⟨np, hp4, hp⟩, ⟨nd, hd6, hd⟩, ⟨nz, hz8, hz, hzw⟩, ⟨nt, ht6, ht⟩, ⟨nr, hr4, hrp⟩, ⟨nl, hl3, hla⟩, ⟨nx, hx4, hxt⟩, ⟨nn, hn2, hnow⟩⟩ := id g
  refine lv_aload_n hx hb dX12_dry_0 rfl (lv_at hl 0 rfl) ?_
  refine lv_iconst (v := 0) hx hb dX12_dry_1 (by decide) ?_
  refine r_put E h 0 (ty := .int) (eM_0 cy a σ) rfl fw_X12 tyX12_ok nmX12 (by decide) fl_X12_131 rfl (by decide +kernel) rfl rfl (Nat.le_of_ble_eq_true rfl) (sM_0 cy a σ 0) dX12_dry_2 (fun H locs h => ?_)
  refine lv_iload_n hx hb dX12_dry_5 rfl (lv_at hl 1 rfl) ?_
  refine lv_i2l hx hb dX12_dry_6 rfl ?_
  refine lv_lconst (v := 0) hx hb dX12_dry_7 (by decide) ?_
  refine lv_ldc2 (v := 7) hx hb E.2.2.2.1 (E.2.2.2.2.1 _ kl_X12_186) dX12_dry_8 ?_
  refine k_i h (q_runS (As := [.long x.toInt64, .long 0, .long 7]) (rest := []) E h (c_X12_in l D cy a (fF σ 0 0) x.toInt64 0 7) co_X12_in ml_X12_139 st_X12_in in_X12 rfl ok_X12_in rfl ⟨by decide, by decide⟩ hl.1 rfl (Nat.le_of_ble_eq_true rfl) dX12_dry_11 ⟨Nat.zero_le _, Nat.zero_le _⟩) (wM_fst cy a) (fun r11 τ11 H locs p11 h => ?_)
  rw [p11.1] at h
  refine lv_if_eq (tgt := 31) hx hb dX12_dry_14 (by decide) (fun c14 => ?_) (fun c14 => ?_)
  · refine lv_iconst (v := -1) hx hb dX12_dry_31 (by decide) ?_
    exact t_i E h hr hk (K.rf.F 0 _ (by decide)) dX12_dry_32
  · refine lv_iload_n hx hb dX12_dry_17 rfl (lv_at hl 2 rfl) ?_
    refine k_i h (q_runS (As := [.int y]) (rest := []) E h (c_X12_isYear l D cy a (fF σ 0 0) y) co_X12_isYear ml_X12_161 st_X12_isYear in_X12 rfl ok_X12_isYear rfl ⟨by decide, by decide⟩ hl.1 rfl (Nat.le_of_ble_eq_true rfl) dX12_dry_18 ⟨Nat.zero_le _, Nat.zero_le _⟩) (wM_fst cy a) (fun r18 τ18 H locs p18 h => ?_)
    rw [p18.1] at h
    refine lv_if_eq (tgt := 31) hx hb dX12_dry_21 (by decide) (fun c21 => ?_) (fun c21 => ?_)
    · refine lv_iconst (v := -1) hx hb dX12_dry_31 (by decide) ?_
      exact t_i E h hr hk (K.rf.F 0 _ (by decide)) dX12_dry_32
    · refine lv_iload_n hx hb dX12_dry_24 rfl (lv_at hl 3 rfl) ?_
      refine k_i h (q_runS (As := [.int w]) (rest := []) E h (c_X12_isYear l D cy a (fF σ 0 0) w) co_X12_isYear ml_X12_161 st_X12_isYear in_X12 rfl ok_X12_isYear rfl ⟨by decide, by decide⟩ hl.1 rfl (Nat.le_of_ble_eq_true rfl) dX12_dry_25 ⟨Nat.zero_le _, Nat.zero_le _⟩) (wM_fst cy a) (fun r25 τ25 H locs p25 h => ?_)
      rw [p25.1] at h
      refine lv_if_ne (tgt := 33) hx hb dX12_dry_28 (by decide) (fun c28 => ?_) (fun c28 => ?_)
      · refine lv_aload_n hx hb dX12_dry_33 rfl (lv_at hl 0 rfl) ?_
        refine lv_iload_n hx hb dX12_dry_34 rfl (lv_at hl 2 rfl) ?_
        refine lv_iload_n hx hb dX12_dry_35 rfl (lv_at hl 3 rfl) ?_
        refine k_v h (q_runV (As := [.int y, .int w]) (rest := []) E h (c_X12_flow l D cy a (fF σ 0 0) y w (gm_41 (gm_0 g 0))) co_X12_flow ml_X12_309 im_X12_flow se_X12_flow in_X12 (eM_0 cy a (fF σ 0 0)) rfl ok_X12_flow rfl ⟨by decide, by decide⟩ hl.1 rfl (Nat.le_of_ble_eq_true rfl) dX12_dry_36 ⟨Nat.zero_le _, Nat.zero_le _⟩) (wM_fst cy a) (fun τ36 H locs p36 h => ?_)
        refine lv_aload_n hx hb dX12_dry_39 rfl (lv_at hl 0 rfl) ?_
        refine lv_iload_n hx hb dX12_dry_40 rfl (lv_at hl 1 rfl) ?_
        refine lv_iload_n hx hb dX12_dry_41 rfl (lv_at hl 2 rfl) ?_
        refine k_i h (q_runV (As := [.int x, .int y]) (rest := []) E h (c_X12_isDry l D cy a τ36 x y nz ((p36.1.1 8 (by decide)).trans hz) hz8) co_X12_isDry ml_X12_313 im_X12_isDry se_X12_isDry in_X12 (eM_0 cy a τ36) rfl ok_X12_isDry rfl ⟨by decide, by decide⟩ hl.1 rfl (Nat.le_of_ble_eq_true rfl) dX12_dry_42 ⟨Nat.zero_le _, Nat.zero_le _⟩) (wM_fst cy a) (fun r42 τ42 H locs p42 h => ?_)
        rw [p42.1] at h
        refine lv_if_eq (tgt := 52) hx hb dX12_dry_45 (by decide) (fun c45 => ?_) (fun c45 => ?_)
        · refine lv_iconst (v := 0) hx hb dX12_dry_52 (by decide) ?_
          exact t_i E h hr hk ((K.rf.F 0 _ (by decide)).tr p36.1) dX12_dry_53
        · refine lv_iconst (v := 1) hx hb dX12_dry_48 (by decide) ?_
          refine lv_goto (tgt := 53) hx hb dX12_dry_49 (by decide) ?_
          exact t_i E h hr hk ((K.rf.F 0 _ (by decide)).tr p36.1) dX12_dry_53
      · refine lv_iconst (v := -1) hx hb dX12_dry_31 (by decide) ?_
        exact t_i E h hr hk (K.rf.F 0 _ (by decide)) dX12_dry_32

set_option maxHeartbeats 4000000 in
set_option maxRecDepth 100000 in
theorem c_X12_found (l : Launch) (D : va_G) (cy : Nat → ClassId) (a : Nat → Nat) (σ : St) (x y : Int32) (g : GM 40 σ) : CI l yX12_found cX12_found 5 (some .int) (rmOf 5 128) D cy (wM cy a) (AM a) [.ref (a 0), .int x, .int y] σ (fun _ τ => K mF mA σ τ) := by
  refine c_of (lv := [(0, .ref (a 0)), (1, .int x), (2, .int y)]) rfl (Nat.le_of_ble_eq_true rfl) rfl ?_
  intro p e s m args below meth c ls E h hr hk hl
  have hx := E.1
  have hb := E.2.1
  obtain ⟨⟨nq, hq4, hq⟩, ⟨ns, hs6, hs⟩, ⟨nc, hc12, hc, hcw⟩, ⟨np, hp4, hp⟩, ⟨nd, hd6, hd⟩, ⟨nz, hz8, hz, hzw⟩, ⟨nt, ht6, ht⟩, ⟨nr, hr4, hrp⟩, ⟨nl, hl3, hla⟩, ⟨nx, hx4, hxt⟩, ⟨nn, hn2, hnow⟩⟩ := id g
  refine lv_aload_n hx hb dX12_found_0 rfl (lv_at hl 0 rfl) ?_
  refine lv_iconst (v := 0) hx hb dX12_found_1 (by decide) ?_
  refine r_put E h 0 (ty := .int) (eM_0 cy a σ) rfl fw_X12 tyX12_ok nmX12 (by decide) fl_X12_131 rfl (by decide +kernel) rfl rfl (Nat.le_of_ble_eq_true rfl) (sM_0 cy a σ 0) dX12_found_2 (fun H locs h => ?_)
  refine lv_aload_n hx hb dX12_found_5 rfl (lv_at hl 0 rfl) ?_
  refine lv_iload_n hx hb dX12_found_6 rfl (lv_at hl 1 rfl) ?_
  refine k_i h (q_runV (As := [.int x]) (rest := []) E h (c_X12_isCastle l D cy a (fF σ 0 0) x nc hc (by omega)) co_X12_isCastle ml_X12_188 im_X12_isCastle se_X12_isCastle in_X12 (eM_0 cy a (fF σ 0 0)) rfl ok_X12_isCastle rfl ⟨by decide, by decide⟩ hl.1 rfl (Nat.le_of_ble_eq_true rfl) dX12_found_7 ⟨Nat.zero_le _, Nat.zero_le _⟩) (wM_fst cy a) (fun r7 τ7 H locs p7 h => ?_)
  rw [p7.1] at h
  refine lv_if_eq (tgt := 20) hx hb dX12_found_10 (by decide) (fun c10 => ?_) (fun c10 => ?_)
  · refine lv_iconst (v := -1) hx hb dX12_found_20 (by decide) ?_
    exact t_i E h hr hk (K.rf.F 0 _ (by decide)) dX12_found_21
  · obtain ⟨i, hi, hi2, rfl⟩ := z_in (p7.2.t c10).1 (p7.2.t c10).2 hc12 (by decide)
    refine lv_iload_n hx hb dX12_found_13 rfl (lv_at hl 2 rfl) ?_
    refine k_i h (q_runS (As := [.int y]) (rest := []) E h (c_X12_isYear l D cy a (fF σ 0 0) y) co_X12_isYear ml_X12_161 st_X12_isYear in_X12 rfl ok_X12_isYear rfl ⟨by decide, by decide⟩ hl.1 rfl (Nat.le_of_ble_eq_true rfl) dX12_found_14 ⟨Nat.zero_le _, Nat.zero_le _⟩) (wM_fst cy a) (fun r14 τ14 H locs p14 h => ?_)
    rw [p14.1] at h
    refine lv_if_ne (tgt := 22) hx hb dX12_found_17 (by decide) (fun c17 => ?_) (fun c17 => ?_)
    · refine lv_aload_n hx hb dX12_found_22 rfl (lv_at hl 0 rfl) ?_
      refine lv_iload_n hx hb dX12_found_23 rfl (lv_at hl 2 rfl) ?_
      refine lv_aload_n hx hb dX12_found_24 rfl (lv_at hl 0 rfl) ?_
      refine r_get E h 2 (v := .int (nI nn)) (eM_0 cy a (fF σ 0 0)) rfl fw_X12 (by decide) fl_X12_191 (congrArg (fun z => some (Value.int z)) hnow) dX12_found_25 ?_
      refine k_v h (q_runV (As := [.int y, .int (nI nn)]) (rest := []) E h (c_X12_flow l D cy a (fF σ 0 0) y (nI nn) (gm_41 (gm_0 g 0))) co_X12_flow ml_X12_309 im_X12_flow se_X12_flow in_X12 (eM_0 cy a (fF σ 0 0)) rfl ok_X12_flow rfl ⟨by decide, by decide⟩ hl.1 rfl (Nat.le_of_ble_eq_true rfl) dX12_found_28 ⟨Nat.zero_le _, Nat.zero_le _⟩) (wM_fst cy a) (fun τ28 H locs p28 h => ?_)
      refine lv_iconst (v := 0) hx hb dX12_found_31 (by decide) ?_
      refine lv_istore_n (lv' := [(3, .int 0), (0, .ref (a 0)), (1, .int (nI i)), (2, .int y)]) hx hb dX12_found_32 rfl hl (by decide) rfl (fun ls hl => ?_)
      refine lv_aload_n hx hb dX12_found_33 rfl (lv_at hl 1 rfl) ?_
      refine r_get E h 50 (v := .ref (a 31)) (eM_0 cy a τ28) rfl fw_X12 (by decide) fl_X12_104 rfl dX12_found_34 ?_
      refine lv_iload_n hx hb dX12_found_37 rfl (lv_at hl 2 rfl) ?_
      refine r_ialdN E h (f := τ28.2.1 31) (eM_31 cy a τ28) (j := i) hi2 (by decide) (v := τ28.2.1 31 i) rfl dX12_found_38 ?_
      refine lv_istore (lv' := [(4, .int (τ28.2.1 31 i)), (3, .int 0), (0, .ref (a 0)), (1, .int (nI i)), (2, .int y)]) hx hb dX12_found_39 hl (by decide) rfl (fun ls hl => ?_)
      have lp41 : ∀ (f : Nat) (u : Int32) (H : Heap) (locs : List Loc) (ls : Array Slot), (True) → ((τ28.2.1 32 i - u).toBitVec.toNat) < f → HW D (AM a) s (wM cy a τ28) H locs → lv_has ls 5 [(4, .int (τ28.2.1 31 i)), (3, .int u), (0, .ref (a 0)), (1, .int (nI i)), (2, .int y)] → W p l e (rmOf 5 128) s m args below meth c H locs 0 0 (MQ below (va_Qi (fun _ τ => K mF mA σ τ) (fun u t => va_P D vwCl (wM cy a u) t.heap) (AM a)) args s 0 0 (AM a)) (F0 m 41 ls []) := by
        intro f
        induction f with
        | zero => intro u H locs ls _ hf; exact absurd hf (Nat.not_lt_zero _)
        | succ f ih41 =>
          intro u H locs ls hi41 hf41 h hl
          refine lv_iload hx hb dX12_found_41 (lv_at hl 0 rfl) ?_
          refine lv_iload_n hx hb dX12_found_43 rfl (lv_at hl 1 rfl) ?_
          refine lv_isub hx hb dX12_found_44 ?_
          refine lv_iload hx hb dX12_found_45 (lv_at hl 0 rfl) ?_
          refine lv_iload_n hx hb dX12_found_47 rfl (lv_at hl 1 rfl) ?_
          refine lv_isub hx hb dX12_found_48 ?_
          refine lv_i2l hx hb dX12_found_49 rfl ?_
          refine lv_aload_n hx hb dX12_found_50 rfl (lv_at hl 2 rfl) ?_
          refine r_get E h 12 (v := .ref (a 7)) (eM_0 cy a τ28) rfl fw_X12 (by decide) fl_X12_28 rfl dX12_found_51 ?_
          refine lv_iload_n hx hb dX12_found_54 rfl (lv_at hl 3 rfl) ?_
          refine r_ialdN E h (f := τ28.2.1 7) (eM_7 cy a τ28) (j := i) hi2 (by decide) (v := τ28.2.1 7 i) rfl dX12_found_55 ?_
          refine lv_i2l hx hb dX12_found_56 rfl ?_
          refine lv_lmul hx hb dX12_found_57 ?_
          refine lv_ldc2 (v := 1000) hx hb E.2.2.2.1 (E.2.2.2.2.1 _ kl_X12_168) dX12_found_58 ?_
          refine lv_ldiv hx hb dX12_found_61 (by decide) ?_
          refine lv_l2i hx hb dX12_found_62 rfl ?_
          refine lv_isub hx hb dX12_found_63 ?_
          refine lv_aload_n hx hb dX12_found_64 rfl (lv_at hl 2 rfl) ?_
          refine r_get E h 49 (v := .ref (a 30)) (eM_0 cy a τ28) rfl fw_X12 (by decide) fl_X12_101 rfl dX12_found_65 ?_
          refine lv_iload_n hx hb dX12_found_68 rfl (lv_at hl 3 rfl) ?_
          refine r_ialdN E h (f := τ28.2.1 30) (eM_30 cy a τ28) (j := i) hi2 (by decide) (v := τ28.2.1 30 i) rfl dX12_found_69 ?_
          refine lv_icmp_eq (tgt := 79) hx hb dX12_found_70 (by decide) (fun c70 => ?_) (fun c70 => ?_)
          · refine lv_iload_n hx hb dX12_found_79 rfl (lv_at hl 1 rfl) ?_
            exact t_i E h hr hk ((K.rf.F 0 _ (by decide)).tr p28.1) dX12_found_80
          · have hne : ¬ u = τ28.2.1 32 i := by
              intro e9
              apply c70
              rw [e9]
              exact (p28.2 nc i hc hc12 hi).symm
            refine lv_iinc (v := u + 1) (lv' := [(3, .int (u + 1)), (4, .int (τ28.2.1 31 i)), (0, .ref (a 0)), (1, .int (nI i)), (2, .int y)]) hx hb dX12_found_73 hl (k := 1) rfl rfl (by decide) rfl (fun ls hl => ?_)
            refine lv_goto (tgt := 41) hx hb dX12_found_76 (by decide) ?_
            exact ih41 (u + 1) _ _ _ trivial (Nat.lt_of_lt_of_le (dec32 hne) (Nat.le_of_lt_succ hf41)) h (lv_sub hl [1, 0, 2, 3, 4] rfl)
      exact lp41 _ 0 _ _ _ trivial (Nat.lt_succ_self _) h (lv_sub hl [0, 1, 2, 3, 4] rfl)
    · refine lv_iconst (v := -1) hx hb dX12_found_20 (by decide) ?_
      exact t_i E h hr hk (K.rf.F 0 _ (by decide)) dX12_found_21
