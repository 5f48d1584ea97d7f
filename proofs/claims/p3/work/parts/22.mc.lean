
theorem pk_0 {Pr : Int32 → Prop} {b : Nat} {τ : St} : PK Pr b (fF τ 19 0) := ⟨0, Nat.zero_le _, rfl, fun i q => absurd q (Nat.not_lt_zero i)⟩
theorem pk_add {Pr : Int32 → Prop} {b y : Nat} {τ : St} {x w : Int32} (hy : y ≤ b) (h : ∀ i, i < y → Pr (τ.2.1 37 i) ∧ WT (τ.2.1 38 i)) (hx : Pr x) (hw : WT w) : PK Pr (b + 1) (fF (fR (fR τ 37 (upd (τ.2.1 37) y x)) 38 (upd (τ.2.1 38) y w)) 19 (nI (y + 1))) := by
  refine ⟨y + 1, by omega, rfl, fun i hi => ?_⟩
  show Pr (upd (τ.2.1 37) y x i) ∧ WT (upd (τ.2.1 38) y w i)
  by_cases e : i = y
  · subst e; rw [upd_s, upd_s]; exact ⟨hx, hw⟩
  · rw [upd_n e, upd_n e]; exact h i (by omega)
theorem pk_mono {Pr : Int32 → Prop} {b b2 : Nat} {τ : St} (h : PK Pr b τ) (hb : b ≤ b2) : PK Pr b2 τ := by
  obtain ⟨y, h1, h2⟩ := h
  exact ⟨y, by omega, h2⟩
theorem n_100 {j : Nat} : (100 : Int32) + nI j = nI (100 + j) := nI_add 100 j

set_option maxHeartbeats 4000000 in
set_option maxRecDepth 100000 in
theorem c_X12_flowAt (l : Launch) (D : va_G) (cy : Nat → ClassId) (a : Nat → Nat) (σ : St) (j : Nat) (x w : Int32) (g : GM 41 σ) (hj : j < 12) : CV l yX12_flowAt cX12_flowAt 10 none (rmOf 3 74) D cy (wM cy a) (AM a) [.ref (a 0), .int (nI j), .int x, .int w] σ (fun τ => K mF mA σ τ ∧ (∀ i, i < j → τ.2.1 30 i = σ.2.1 30 i ∧ τ.2.1 31 i = σ.2.1 31 i ∧ τ.2.1 32 i = σ.2.1 32 i) ∧ FND τ j) := by
  refine c_of (lv := [(0, .ref (a 0)), (1, .int (nI j)), (2, .int x), (3, .int w)]) rfl (Nat.le_of_ble_eq_true rfl) rfl ?_
  intro p e s m args below meth c ls E h hr hk hl
  have hx := E.1
  have hb := E.2.1
  obtain ⟨⟨nq, hq4, hq⟩, ⟨ns, hs6, hs⟩, ⟨nc, hc12, hc, hcw⟩, _, ⟨nd, hd6, hd⟩, ⟨nz, hz8, hz, hzw⟩, ⟨nt, ht6, ht⟩, ⟨nr, hr4, hrp⟩, ⟨nl, hl3, hla⟩, _, ⟨nn, hn2, hnow⟩⟩ := id g
  refine lv_aload_n hx hb dX12_flowAt_0 rfl (lv_at hl 0 rfl) ?_
  refine r_get E h 50 (v := .ref (a 31)) (eM_0 cy a σ) rfl fw_X12 (by decide) fl_X12_104 rfl dX12_flowAt_1 ?_
  refine lv_iload_n hx hb dX12_flowAt_4 rfl (lv_at hl 1 rfl) ?_
  refine r_ialdN E h (f := σ.2.1 31) (eM_31 cy a σ) (j := j) hj (by decide) (v := σ.2.1 31 j) rfl dX12_flowAt_5 ?_
  refine lv_istore (lv' := [(4, .int (σ.2.1 31 j)), (0, .ref (a 0)), (1, .int (nI j)), (2, .int x), (3, .int w)]) hx hb dX12_flowAt_6 hl (by decide) rfl (fun ls hl => ?_)
  refine lv_aload_n hx hb dX12_flowAt_8 rfl (lv_at hl 1 rfl) ?_
  refine r_get E h 51 (v := .ref (a 32)) (eM_0 cy a σ) rfl fw_X12 (by decide) fl_X12_107 rfl dX12_flowAt_9 ?_
  refine lv_iload_n hx hb dX12_flowAt_12 rfl (lv_at hl 2 rfl) ?_
  refine lv_iconst (v := 0) hx hb dX12_flowAt_13 (by decide) ?_
  refine r_iastN E h (f := σ.2.1 32) (eM_32 cy a σ) (j := j) hj (by decide) (qM_32 cy a σ (upd (σ.2.1 32) j 0)) dX12_flowAt_14 (fun H locs h => ?_)
  refine lv_iconst (v := 0) hx hb dX12_flowAt_15 (by decide) ?_
  refine lv_istore (lv' := [(5, .int 0), (4, .int (σ.2.1 31 j)), (0, .ref (a 0)), (1, .int (nI j)), (2, .int x), (3, .int w)]) hx hb dX12_flowAt_16 hl (by decide) rfl (fun ls hl => ?_)
  have lp18 : ∀ (f : Nat) (k : Nat) (u : Int32) (τ : St) (H : Heap) (locs : List Loc) (ls : Array Slot), (k ≤ nt ∧ K mF (30 :: 31 :: 33 :: 34 :: 35 :: mA) σ τ ∧ (∀ i, i ≠ j → τ.2.1 32 i = σ.2.1 32 i) ∧ u = τ.2.1 31 j - τ.2.1 32 j) → (nt - k) < f → HW D (AM a) s (wM cy a τ) H locs → lv_has ls 10 [(5, .int (nI k)), (4, .int u), (0, .ref (a 0)), (1, .int (nI j)), (2, .int x), (3, .int w)] → W p l e (rmOf 3 74) s m args below meth c H locs 0 0 (MQ below (va_Qv (fun τ => K mF mA σ τ ∧ (∀ i, i < j → τ.2.1 30 i = σ.2.1 30 i ∧ τ.2.1 31 i = σ.2.1 31 i ∧ τ.2.1 32 i = σ.2.1 32 i) ∧ FND τ j) (fun u t => va_P D vwCl (wM cy a u) t.heap) (AM a)) args s 0 0 (AM a)) (F0 m 18 ls []) := by
    intro f
    induction f with
    | zero => intro k u τ H locs ls _ hf; exact absurd hf (Nat.not_lt_zero _)
    | succ f ih18 =>
      intro k u τ H locs ls hi18 hf18 h hl
      have hkt : K mF mA σ τ := K.sub hi18.2.1 (by decide) (by decide)
      refine lv_iload hx hb dX12_flowAt_18 (lv_at hl 0 rfl) ?_
      refine lv_aload_n hx hb dX12_flowAt_20 rfl (lv_at hl 2 rfl) ?_
      refine r_get E h 25 (v := .int (nI nt)) (eM_0 cy a τ) rfl fw_X12 (by decide) fl_X12_202 (congrArg (fun z => some (Value.int z)) ((hkt.1 9 (by decide)).trans ht)) dX12_flowAt_21 ?_
      refine lv_icmp_ge (tgt := 112) hx hb dX12_flowAt_24 (by decide) (fun c24 => ?_) (fun c24 => ?_)
      · refine lv_aload_n hx hb dX12_flowAt_112 rfl (lv_at hl 2 rfl) ?_
        refine r_get E h 52 (v := .ref (a 33)) (eM_0 cy a τ) rfl fw_X12 (by decide) fl_X12_110 rfl dX12_flowAt_113 ?_
        refine lv_iload_n hx hb dX12_flowAt_116 rfl (lv_at hl 3 rfl) ?_
        refine lv_iload hx hb dX12_flowAt_117 (lv_at hl 1 rfl) ?_
        refine lv_i2l hx hb dX12_flowAt_119 rfl ?_
        refine lv_aload_n hx hb dX12_flowAt_120 rfl (lv_at hl 2 rfl) ?_
        refine r_get E h 12 (v := .ref (a 7)) (eM_0 cy a τ) rfl fw_X12 (by decide) fl_X12_28 rfl dX12_flowAt_121 ?_
        refine lv_iload_n hx hb dX12_flowAt_124 rfl (lv_at hl 3 rfl) ?_
        refine r_ialdN E h (f := τ.2.1 7) (eM_7 cy a τ) (j := j) hj (by decide) (v := τ.2.1 7 j) rfl dX12_flowAt_125 ?_
        refine lv_i2l hx hb dX12_flowAt_126 rfl ?_
        refine lv_lmul hx hb dX12_flowAt_127 ?_
        refine lv_ldc2 (v := 1000) hx hb E.2.2.2.1 (E.2.2.2.2.1 _ kl_X12_168) dX12_flowAt_128 ?_
        refine lv_ldiv hx hb dX12_flowAt_131 (by decide) ?_
        refine lv_l2i hx hb dX12_flowAt_132 rfl ?_
        refine r_iastN E h (f := τ.2.1 33) (eM_33 cy a τ) (j := j) hj (by decide) (qM_33 cy a τ (upd (τ.2.1 33) j (((u.toInt64 * ((τ.2.1 7 j).toInt64)) / 1000).toInt32))) dX12_flowAt_133 (fun H locs h => ?_)
        refine lv_iload hx hb dX12_flowAt_134 (lv_at hl 1 rfl) ?_
        refine lv_aload_n hx hb dX12_flowAt_136 rfl (lv_at hl 2 rfl) ?_
        refine r_get E h 52 (v := .ref (a 33)) (eM_0 cy a (fR τ 33 (upd (τ.2.1 33) j (((u.toInt64 * ((τ.2.1 7 j).toInt64)) / 1000).toInt32)))) rfl fw_X12 (by decide) fl_X12_110 rfl dX12_flowAt_137 ?_
        refine lv_iload_n hx hb dX12_flowAt_140 rfl (lv_at hl 3 rfl) ?_
        refine r_ialdN E h (f := upd (τ.2.1 33) j (((u.toInt64 * ((τ.2.1 7 j).toInt64)) / 1000).toInt32)) (eM_33 cy a (fR τ 33 (upd (τ.2.1 33) j (((u.toInt64 * ((τ.2.1 7 j).toInt64)) / 1000).toInt32)))) (j := j) hj (by decide) (v := (upd (τ.2.1 33) j (((u.toInt64 * ((τ.2.1 7 j).toInt64)) / 1000).toInt32)) j) rfl dX12_flowAt_141 ?_
        refine lv_isub hx hb dX12_flowAt_142 ?_
        refine lv_istore (lv' := [(4, .int (u - ((upd (τ.2.1 33) j (((u.toInt64 * ((τ.2.1 7 j).toInt64)) / 1000).toInt32)) j))), (5, .int (nI k)), (0, .ref (a 0)), (1, .int (nI j)), (2, .int x), (3, .int w)]) hx hb dX12_flowAt_143 hl (by decide) rfl (fun ls hl => ?_)
        refine lv_aload_n hx hb dX12_flowAt_145 rfl (lv_at hl 2 rfl) ?_
        refine r_get E h 49 (v := .ref (a 30)) (eM_0 cy a (fR τ 33 (upd (τ.2.1 33) j (((u.toInt64 * ((τ.2.1 7 j).toInt64)) / 1000).toInt32)))) rfl fw_X12 (by decide) fl_X12_101 rfl dX12_flowAt_146 ?_
        refine lv_iload_n hx hb dX12_flowAt_149 rfl (lv_at hl 3 rfl) ?_
        refine lv_iload hx hb dX12_flowAt_150 (lv_at hl 0 rfl) ?_
        refine r_iastN E h (f := τ.2.1 30) (eM_30 cy a (fR τ 33 (upd (τ.2.1 33) j (((u.toInt64 * ((τ.2.1 7 j).toInt64)) / 1000).toInt32)))) (j := j) hj (by decide) (qM_30 cy a (fR τ 33 (upd (τ.2.1 33) j (((u.toInt64 * ((τ.2.1 7 j).toInt64)) / 1000).toInt32))) (upd (τ.2.1 30) j (u - ((upd (τ.2.1 33) j (((u.toInt64 * ((τ.2.1 7 j).toInt64)) / 1000).toInt32)) j)))) dX12_flowAt_152 (fun H locs h => ?_)
        refine lv_aload_n hx hb dX12_flowAt_153 rfl (lv_at hl 2 rfl) ?_
        refine r_get E h 53 (v := .ref (a 34)) (eM_0 cy a (fR (fR τ 33 (upd (τ.2.1 33) j (((u.toInt64 * ((τ.2.1 7 j).toInt64)) / 1000).toInt32))) 30 (upd (τ.2.1 30) j (u - ((upd (τ.2.1 33) j (((u.toInt64 * ((τ.2.1 7 j).toInt64)) / 1000).toInt32)) j))))) rfl fw_X12 (by decide) fl_X12_113 rfl dX12_flowAt_154 ?_
        refine lv_iload_n hx hb dX12_flowAt_157 rfl (lv_at hl 3 rfl) ?_
        refine lv_iconst (v := 0) hx hb dX12_flowAt_158 (by decide) ?_
        refine r_iastN E h (f := τ.2.1 34) (eM_34 cy a (fR (fR τ 33 (upd (τ.2.1 33) j (((u.toInt64 * ((τ.2.1 7 j).toInt64)) / 1000).toInt32))) 30 (upd (τ.2.1 30) j (u - ((upd (τ.2.1 33) j (((u.toInt64 * ((τ.2.1 7 j).toInt64)) / 1000).toInt32)) j))))) (j := j) hj (by decide) (qM_34 cy a (fR (fR τ 33 (upd (τ.2.1 33) j (((u.toInt64 * ((τ.2.1 7 j).toInt64)) / 1000).toInt32))) 30 (upd (τ.2.1 30) j (u - ((upd (τ.2.1 33) j (((u.toInt64 * ((τ.2.1 7 j).toInt64)) / 1000).toInt32)) j)))) (upd (τ.2.1 34) j 0)) dX12_flowAt_159 (fun H locs h => ?_)
        obtain ⟨ρ, eρ⟩ : ∃ z : St, z = fR (fR (fR τ 33 (upd (τ.2.1 33) j (((u.toInt64 * ((τ.2.1 7 j).toInt64)) / 1000).toInt32))) 30 (upd (τ.2.1 30) j (u - ((upd (τ.2.1 33) j (((u.toInt64 * ((τ.2.1 7 j).toInt64)) / 1000).toInt32)) j)))) 34 (upd (τ.2.1 34) j 0) := ⟨_, rfl⟩
        rw [← eρ] at h
        have kρ : K mF mA σ ρ := by
          rw [eρ]
          exact (((K.sub hi18.2.1 (by decide) (by decide)).R 33 _ (by decide)).R 30 _ (by decide)).R 34 _ (by decide)
        have oρ : ∀ i, i < j → ρ.2.1 30 i = σ.2.1 30 i ∧ ρ.2.1 31 i = σ.2.1 31 i ∧ ρ.2.1 32 i = σ.2.1 32 i := by
          intro i hij
          rw [eρ]
          refine ⟨?_, ?_, ?_⟩
          · show upd (τ.2.1 30) j _ i = _
            rw [upd_n (by omega), hi18.2.1.2 30 (by decide)]
          · show τ.2.1 31 i = _
            rw [hi18.2.1.2 31 (by decide)]
          · show τ.2.1 32 i = _
            exact hi18.2.2.1 i (by omega)
        have fρ : FND ρ j := by
          rw [eρ]
          show upd (τ.2.1 30) j _ j = (τ.2.1 31 j - τ.2.1 32 j) - (((τ.2.1 31 j - τ.2.1 32 j).toInt64 * (τ.2.1 7 j).toInt64) / 1000).toInt32
          rw [upd_s, upd_s, hi18.2.2.2]
        refine lv_aload_n hx hb dX12_flowAt_160 rfl (lv_at hl 2 rfl) ?_
        refine lv_iload_n hx hb dX12_flowAt_161 rfl (lv_at hl 4 rfl) ?_
        refine lv_iconst (v := 0) hx hb dX12_flowAt_162 (by decide) ?_
        refine k_i h (q_runV (As := [.int x, .int 0]) (rest := []) E h (c_X12_lawOf l D cy a ρ x 0 nl ((kρ.1 11 (by decide)).trans hla) hl3) co_X12_lawOf ml_X12_194 im_X12_lawOf se_X12_lawOf in_X12 (eM_0 cy a ρ) rfl ok_X12_lawOf rfl ⟨by decide, by decide⟩ hl.1 rfl (Nat.le_of_ble_eq_true rfl) dX12_flowAt_163 ⟨Nat.zero_le _, Nat.zero_le _⟩) (wM_fst cy a) (fun r163 τ163 H locs p163 h => ?_)
        rw [p163.1] at h
        refine lv_istore (lv' := [(5, .int r163), (4, .int (u - ((upd (τ.2.1 33) j (((u.toInt64 * ((τ.2.1 7 j).toInt64)) / 1000).toInt32)) j))), (0, .ref (a 0)), (1, .int (nI j)), (2, .int x), (3, .int w)]) hx hb dX12_flowAt_166 hl (by decide) rfl (fun ls hl => ?_)
        refine lv_iconst (v := 0) hx hb dX12_flowAt_168 (by decide) ?_
        refine lv_istore (lv' := [(6, .int 0), (5, .int r163), (4, .int (u - ((upd (τ.2.1 33) j (((u.toInt64 * ((τ.2.1 7 j).toInt64)) / 1000).toInt32)) j))), (0, .ref (a 0)), (1, .int (nI j)), (2, .int x), (3, .int w)]) hx hb dX12_flowAt_169 hl (by decide) rfl (fun ls hl => ?_)
        have lp171 : ∀ (f : Nat) (k : Nat) (u : Int32) (τ : St) (H : Heap) (locs : List Loc) (ls : Array Slot), (k ≤ 3 ∧ K mF mA2 ρ τ) → (3 - k) < f → HW D (AM a) s (wM cy a τ) H locs → lv_has ls 10 [(6, .int (nI k)), (5, .int r163), (4, .int u), (0, .ref (a 0)), (1, .int (nI j)), (2, .int x), (3, .int w)] → W p l e (rmOf 3 74) s m args below meth c H locs 0 0 (MQ below (va_Qv (fun τ => K mF mA σ τ ∧ (∀ i, i < j → τ.2.1 30 i = σ.2.1 30 i ∧ τ.2.1 31 i = σ.2.1 31 i ∧ τ.2.1 32 i = σ.2.1 32 i) ∧ FND τ j) (fun u t => va_P D vwCl (wM cy a u) t.heap) (AM a)) args s 0 0 (AM a)) (F0 m 171 ls []) := by
          intro f
          induction f with
          | zero => intro k u τ H locs ls _ hf; exact absurd hf (Nat.not_lt_zero _)
          | succ f ih171 =>
            intro k u τ H locs ls hi171 hf171 h hl
            have hkt : K mF mA σ τ := kρ.tr (m2 hi171.2)
            refine lv_iload hx hb dX12_flowAt_171 (lv_at hl 0 rfl) ?_
            refine lv_iconst (v := 3) hx hb dX12_flowAt_173 (by decide) ?_
            refine lv_icmp_ge (tgt := 414) hx hb dX12_flowAt_174 (by decide) (fun c174 => ?_) (fun c174 => ?_)
            · refine lv_aload_n hx hb dX12_flowAt_414 rfl (lv_at hl 3 rfl) ?_
              refine lv_iconst (v := 0) hx hb dX12_flowAt_415 (by decide) ?_
              refine r_put E h 59 (ty := .int) (eM_0 cy a τ) rfl fw_X12 tyX12_ok nmX12 (by decide) fl_X12_289 rfl (by decide +kernel) rfl rfl (Nat.le_of_ble_eq_true rfl) (sM_19 cy a τ 0) dX12_flowAt_416 (fun H locs h => ?_)
              refine lv_iload_n hx hb dX12_flowAt_419 rfl (lv_at hl 4 rfl) ?_
              refine lv_iconst (v := 1) hx hb dX12_flowAt_420 (by decide) ?_
              refine n_add (j := j) (k := 1) hx hb dX12_flowAt_421 ?_
              refine lv_istore (lv' := [(6, .int (nI (j + 1))), (5, .int r163), (4, .int u), (0, .ref (a 0)), (1, .int (nI j)), (2, .int x), (3, .int w)]) hx hb dX12_flowAt_422 hl (by decide) rfl (fun ls hl => ?_)
              have lp424 : ∀ (f : Nat) (z : Nat) (τ : St) (H : Heap) (locs : List Loc) (ls : Array Slot), (j < z ∧ K mF mA2 ρ τ ∧ PK (fun x => ∃ p : Nat, x = nI p ∧ j < p ∧ p < 12) (z - (j + 1)) τ ∧ z ≤ 12) → (nc - z) < f → HW D (AM a) s (wM cy a τ) H locs → lv_has ls 10 [(6, .int (nI z)), (5, .int r163), (4, .int u), (0, .ref (a 0)), (1, .int (nI j)), (2, .int x), (3, .int w)] → W p l e (rmOf 3 74) s m args below meth c H locs 0 0 (MQ below (va_Qv (fun τ => K mF mA σ τ ∧ (∀ i, i < j → τ.2.1 30 i = σ.2.1 30 i ∧ τ.2.1 31 i = σ.2.1 31 i ∧ τ.2.1 32 i = σ.2.1 32 i) ∧ FND τ j) (fun u t => va_P D vwCl (wM cy a u) t.heap) (AM a)) args s 0 0 (AM a)) (F0 m 424 ls []) := by
                intro f
                induction f with
                | zero => intro z τ H locs ls _ hf; exact absurd hf (Nat.not_lt_zero _)
                | succ f ih424 =>
                  intro z τ H locs ls hi424 hf424 h hl
                  have hkt : K mF mA σ τ := kρ.tr (m2 hi424.2.1)
                  obtain ⟨y, hyb, hye, hyp⟩ := id hi424.2.2.1
                  have hwz : ∀ i, i < nc → WT (τ.2.1 6 i) := by rw [hkt.2 6 (by decide)]; exact hcw
                  refine lv_iload hx hb dX12_flowAt_424 (lv_at hl 0 rfl) ?_
                  refine lv_aload_n hx hb dX12_flowAt_426 rfl (lv_at hl 3 rfl) ?_
                  refine r_get E h 9 (v := .int (nI nc)) (eM_0 cy a τ) rfl fw_X12 (by decide) fl_X12_143 (congrArg (fun z => some (Value.int z)) ((hkt.1 5 (by decide)).trans hc)) dX12_flowAt_427 ?_
                  refine lv_icmp_ge (tgt := 500) hx hb dX12_flowAt_430 (by decide) (fun c430 => ?_) (fun c430 => ?_)
                  · refine lv_aload_n hx hb dX12_flowAt_500 rfl (lv_at hl 3 rfl) ?_
                    refine r_get E h 54 (v := .ref (a 35)) (eM_0 cy a τ) rfl fw_X12 (by decide) fl_X12_116 rfl dX12_flowAt_501 ?_
                    refine lv_iload_n hx hb dX12_flowAt_504 rfl (lv_at hl 4 rfl) ?_
                    refine lv_aload_n hx hb dX12_flowAt_505 rfl (lv_at hl 3 rfl) ?_
                    refine lv_iload hx hb dX12_flowAt_506 (lv_at hl 2 rfl) ?_
                    refine k_i h (q_runV (As := [.int u]) (rest := [.int (nI j), .ref (a 35)]) E h (c_X12_deal l D cy a τ u y hye (by omega) (fun i hi => (hyp i hi).2)) co_X12_deal ml_X12_306 im_X12_deal se_X12_deal in_X12 (eM_0 cy a τ) rfl ok_X12_deal rfl ⟨by decide, by decide⟩ hl.1 rfl (Nat.le_of_ble_eq_true rfl) dX12_flowAt_508 ⟨Nat.zero_le _, Nat.zero_le _⟩) (wM_fst cy a) (fun r508 τ508 H locs p508 h => ?_)
                    refine r_iastN E h (f := τ508.2.1 35) (eM_35 cy a τ508) (j := j) hj (by decide) (qM_35 cy a τ508 (upd (τ508.2.1 35) j r508)) dX12_flowAt_511 (fun H locs h => ?_)
                    refine lv_iconst (v := 0) hx hb dX12_flowAt_512 (by decide) ?_
                    refine lv_istore (lv' := [(6, .int 0), (5, .int r163), (4, .int u), (0, .ref (a 0)), (1, .int (nI j)), (2, .int x), (3, .int w)]) hx hb dX12_flowAt_513 hl (by decide) rfl (fun ls hl => ?_)
                    obtain ⟨f8, e8⟩ := p508
                    have lp515 : ∀ (f : Nat) (i : Nat) (υ : St) (H : Heap) (locs : List Loc) (ls : Array Slot), (i ≤ y ∧ K mF (30 :: 32 :: mA) ρ υ ∧ υ.1 19 = nI y ∧ υ.2.1 37 = τ.2.1 37 ∧ ∀ q, q ≤ j → υ.2.1 31 q = ρ.2.1 31 q) → (y - i) < f → HW D (AM a) s (wM cy a υ) H locs → lv_has ls 10 [(6, .int (nI i)), (5, .int r163), (4, .int u), (0, .ref (a 0)), (1, .int (nI j)), (2, .int x), (3, .int w)] → W p l e (rmOf 3 74) s m args below meth c H locs 0 0 (MQ below (va_Qv (fun τ => K mF mA σ τ ∧ (∀ i, i < j → τ.2.1 30 i = σ.2.1 30 i ∧ τ.2.1 31 i = σ.2.1 31 i ∧ τ.2.1 32 i = σ.2.1 32 i) ∧ FND τ j) (fun u t => va_P D vwCl (wM cy a u) t.heap) (AM a)) args s 0 0 (AM a)) (F0 m 515 ls []) := by
                      intro f
                      induction f with
                      | zero => intro i υ H locs ls _ hf; exact absurd hf (Nat.not_lt_zero _)
                      | succ f ih515 =>
                        intro i υ H locs ls hi515 hf515 h hl
                        have hyu := hi515.2.2.1
                        obtain ⟨p5, ep5, hpj, hp12⟩ : ∃ p : Nat, (i < y → υ.2.1 37 i = nI p) ∧ j < p ∧ (i < y → p < 12) := by
                          by_cases hiy : i < y
                          · obtain ⟨p, e1, e2, e3⟩ := (hyp i hiy).1
                            exact ⟨p, fun _ => by rw [hi515.2.2.2.1]; exact e1, e2, fun _ => e3⟩
                          · exact ⟨j + 1, fun q => absurd q hiy, by omega, fun q => absurd q hiy⟩
                        refine lv_iload hx hb dX12_flowAt_515 (lv_at hl 0 rfl) ?_
                        refine lv_aload_n hx hb dX12_flowAt_517 rfl (lv_at hl 3 rfl) ?_
                        refine r_get E h 59 (v := .int (nI y)) (eM_0 cy a υ) rfl fw_X12 (by decide) fl_X12_289 (congrArg (fun z => some (Value.int z)) hyu) dX12_flowAt_518 ?_
                        refine lv_icmp_ge (tgt := 549) hx hb dX12_flowAt_521 (by decide) (fun c521 => ?_) (fun c521 => ?_)
                        · exact t_v E h hr hk ⟨kρ.tr (K.sub hi515.2.1 (by decide) (by decide)), fun i hij => by obtain ⟨a1, a2, a3⟩ := oρ i hij; exact ⟨(congrFun (hi515.2.1.2 30 (by decide)) i).trans a1, (hi515.2.2.2.2 i (by omega)).trans a2, (congrFun (hi515.2.1.2 32 (by decide)) i).trans a3⟩, by unfold FND at *; rw [hi515.2.1.2 30 (by decide), hi515.2.1.2 32 (by decide), hi515.2.2.2.2 j (Nat.le_refl _), hi515.2.1.2 7 (by decide)]; exact fρ⟩ dX12_flowAt_549
                        · have c521 : i < y := Nat.lt_of_not_le fun q9 => c521 ((nI_leI (a := y) (b := i) (by omega) (by omega)).mpr q9)
                          refine lv_aload_n hx hb dX12_flowAt_524 rfl (lv_at hl 3 rfl) ?_
                          refine r_get E h 50 (v := .ref (a 31)) (eM_0 cy a υ) rfl fw_X12 (by decide) fl_X12_104 rfl dX12_flowAt_525 ?_
                          refine lv_aload_n hx hb dX12_flowAt_528 rfl (lv_at hl 3 rfl) ?_
                          refine r_get E h 56 (v := .ref (a 37)) (eM_0 cy a υ) rfl fw_X12 (by decide) fl_X12_122 rfl dX12_flowAt_529 ?_
                          refine lv_iload hx hb dX12_flowAt_532 (lv_at hl 0 rfl) ?_
                          refine r_ialdN E h (f := υ.2.1 37) (eM_37 cy a υ) (j := i) (by omega) (by decide) (v := nI p5) (ep5 c521) dX12_flowAt_534 ?_
                          refine lv_aload_n hx hb dX12_flowAt_535 rfl (lv_at hl 3 rfl) ?_
                          refine r_get E h 58 (v := .ref (a 39)) (eM_0 cy a υ) rfl fw_X12 (by decide) fl_X12_128 rfl dX12_flowAt_536 ?_
                          refine lv_iload hx hb dX12_flowAt_539 (lv_at hl 0 rfl) ?_
                          refine r_ialdN E h (f := υ.2.1 39) (eM_39 cy a υ) (j := i) (by omega) (by decide) (v := υ.2.1 39 i) rfl dX12_flowAt_541 ?_
                          refine r_iastN E h (f := υ.2.1 31) (eM_31 cy a υ) (j := p5) (hp12 c521) (by decide) (qM_31 cy a υ (upd (υ.2.1 31) p5 (υ.2.1 39 i))) dX12_flowAt_542 (fun H locs h => ?_)
                          refine lv_iinc (v := nI (i + 1)) (lv' := [(6, .int (nI (i + 1))), (5, .int r163), (4, .int u), (0, .ref (a 0)), (1, .int (nI j)), (2, .int x), (3, .int w)]) hx hb dX12_flowAt_543 hl (k := 0) rfl (nI_succ i).symm (by decide) rfl (fun ls hl => ?_)
                          refine lv_goto (tgt := 515) hx hb dX12_flowAt_546 (by decide) ?_
                          exact ih515 (i + 1) (fR υ 31 (upd (υ.2.1 31) p5 (υ.2.1 39 i))) _ _ _ ⟨by omega, hi515.2.1.R 31 _ (by decide), hi515.2.2.1, hi515.2.2.2.1, fun q hq9 => (upd_n (by omega)).trans (hi515.2.2.2.2 q hq9)⟩ (by omega) h (lv_sub hl [0, 1, 2, 3, 4, 5, 6] rfl)
                    exact lp515 _ 0 (fR τ508 35 (upd (τ508.2.1 35) j r508)) _ _ _ ⟨Nat.zero_le _, by rw [e8]; exact (K.sub hi424.2.1 (by decide) (by decide)).R 39 _ (by decide) |>.R 35 _ (by decide), by rw [e8]; exact hye, by rw [e8]; rfl, fun q hq9 => by rw [e8]; exact congrFun (hi424.2.1.2 31 (by decide)) q⟩ (Nat.lt_succ_self _) h (lv_sub hl [0, 1, 2, 3, 4, 5, 6] rfl)
                  · have c430 : z < nc := Nat.lt_of_not_le fun q9 => c430 ((nI_leI (a := nc) (b := z) (by omega) (by omega)).mpr q9)
                    refine lv_aload_n hx hb dX12_flowAt_433 rfl (lv_at hl 3 rfl) ?_
                    refine r_get E h 10 (v := .ref (a 5)) (eM_0 cy a τ) rfl fw_X12 (by decide) fl_X12_22 rfl dX12_flowAt_434 ?_
                    refine lv_iload hx hb dX12_flowAt_437 (lv_at hl 0 rfl) ?_
                    refine r_ialdN E h (f := τ.2.1 5) (eM_5 cy a τ) (j := z) (by omega) (by decide) (v := τ.2.1 5 z) rfl dX12_flowAt_439 ?_
                    refine lv_bipush (v := 100) hx hb dX12_flowAt_440 (by decide) ?_
                    refine lv_iload_n hx hb dX12_flowAt_442 rfl (lv_at hl 4 rfl) ?_
                    refine n_add (j := 100) (k := j) hx hb dX12_flowAt_443 ?_
                    refine lv_icmp_ne (tgt := 494) hx hb dX12_flowAt_444 (by decide) (fun c444 => ?_) (fun c444 => ?_)
                    · refine lv_iinc (v := nI (z + 1)) (lv' := [(6, .int (nI (z + 1))), (5, .int r163), (4, .int u), (0, .ref (a 0)), (1, .int (nI j)), (2, .int x), (3, .int w)]) hx hb dX12_flowAt_494 hl (k := 0) rfl (nI_succ z).symm (by decide) rfl (fun ls hl => ?_)
                      refine lv_goto (tgt := 424) hx hb dX12_flowAt_497 (by decide) ?_
                      exact ih424 (z + 1) τ _ _ _ ⟨by omega, hi424.2.1, pk_mono hi424.2.2.1 (by omega), by omega⟩ (by omega) h (lv_sub hl [0, 1, 2, 3, 4, 5, 6] rfl)
                    · refine lv_aload_n hx hb dX12_flowAt_447 rfl (lv_at hl 3 rfl) ?_
                      refine lv_iload hx hb dX12_flowAt_448 (lv_at hl 0 rfl) ?_
                      refine lv_iload_n hx hb dX12_flowAt_450 rfl (lv_at hl 5 rfl) ?_
                      refine k_i h (q_runV (As := [.int (nI z), .int x]) (rest := []) E h (c_X12_isDown l D cy a τ (nI z) x nr ((hkt.1 10 (by decide)).trans hrp) hr4) co_X12_isDown ml_X12_295 im_X12_isDown se_X12_isDown in_X12 (eM_0 cy a τ) rfl ok_X12_isDown rfl ⟨by decide, by decide⟩ hl.1 rfl (Nat.le_of_ble_eq_true rfl) dX12_flowAt_451 ⟨Nat.zero_le _, Nat.zero_le _⟩) (wM_fst cy a) (fun r451 τ451 H locs p451 h => ?_)
                      rw [p451.1] at h
                      refine lv_if_ne (tgt := 494) hx hb dX12_flowAt_454 (by decide) (fun c454 => ?_) (fun c454 => ?_)
                      · refine lv_iinc (v := nI (z + 1)) (lv' := [(6, .int (nI (z + 1))), (5, .int r163), (4, .int u), (0, .ref (a 0)), (1, .int (nI j)), (2, .int x), (3, .int w)]) hx hb dX12_flowAt_494 hl (k := 0) rfl (nI_succ z).symm (by decide) rfl (fun ls hl => ?_)
                        refine lv_goto (tgt := 424) hx hb dX12_flowAt_497 (by decide) ?_
                        exact ih424 (z + 1) τ _ _ _ ⟨by omega, hi424.2.1, pk_mono hi424.2.2.1 (by omega), by omega⟩ (by omega) h (lv_sub hl [0, 1, 2, 3, 4, 5, 6] rfl)
                      · refine lv_aload_n hx hb dX12_flowAt_457 rfl (lv_at hl 3 rfl) ?_
                        refine r_get E h 56 (v := .ref (a 37)) (eM_0 cy a τ) rfl fw_X12 (by decide) fl_X12_122 rfl dX12_flowAt_458 ?_
                        refine lv_aload_n hx hb dX12_flowAt_461 rfl (lv_at hl 3 rfl) ?_
                        refine r_get E h 59 (v := .int (nI y)) (eM_0 cy a τ) rfl fw_X12 (by decide) fl_X12_289 (congrArg (fun z => some (Value.int z)) hye) dX12_flowAt_462 ?_
                        refine lv_iload hx hb dX12_flowAt_465 (lv_at hl 0 rfl) ?_
                        refine r_iastN E h (f := τ.2.1 37) (eM_37 cy a τ) (j := y) (by omega) (by decide) (qM_37 cy a τ (upd (τ.2.1 37) y (nI z))) dX12_flowAt_467 (fun H locs h => ?_)
                        refine lv_aload_n hx hb dX12_flowAt_468 rfl (lv_at hl 3 rfl) ?_
                        refine r_get E h 57 (v := .ref (a 38)) (eM_0 cy a (fR τ 37 (upd (τ.2.1 37) y (nI z)))) rfl fw_X12 (by decide) fl_X12_125 rfl dX12_flowAt_469 ?_
                        refine lv_aload_n hx hb dX12_flowAt_472 rfl (lv_at hl 3 rfl) ?_
                        refine r_get E h 59 (v := .int (nI y)) (eM_0 cy a (fR τ 37 (upd (τ.2.1 37) y (nI z)))) rfl fw_X12 (by decide) fl_X12_289 (congrArg (fun z => some (Value.int z)) hye) dX12_flowAt_473 ?_
                        refine lv_aload_n hx hb dX12_flowAt_476 rfl (lv_at hl 3 rfl) ?_
                        refine r_get E h 11 (v := .ref (a 6)) (eM_0 cy a (fR τ 37 (upd (τ.2.1 37) y (nI z)))) rfl fw_X12 (by decide) fl_X12_25 rfl dX12_flowAt_477 ?_
                        refine lv_iload hx hb dX12_flowAt_480 (lv_at hl 0 rfl) ?_
                        refine r_ialdN E h (f := τ.2.1 6) (eM_6 cy a (fR τ 37 (upd (τ.2.1 37) y (nI z)))) (j := z) (by omega) (by decide) (v := τ.2.1 6 z) rfl dX12_flowAt_482 ?_
                        refine r_iastN E h (f := τ.2.1 38) (eM_38 cy a (fR τ 37 (upd (τ.2.1 37) y (nI z)))) (j := y) (by omega) (by decide) (qM_38 cy a (fR τ 37 (upd (τ.2.1 37) y (nI z))) (upd (τ.2.1 38) y (τ.2.1 6 z))) dX12_flowAt_483 (fun H locs h => ?_)
                        refine lv_aload_n hx hb dX12_flowAt_484 rfl (lv_at hl 3 rfl) ?_
                        refine lv_dup hx hb dX12_flowAt_485 rfl ?_
                        refine r_get E h 59 (v := .int (nI y)) (eM_0 cy a (fR (fR τ 37 (upd (τ.2.1 37) y (nI z))) 38 (upd (τ.2.1 38) y (τ.2.1 6 z)))) rfl fw_X12 (by decide) fl_X12_289 (congrArg (fun z => some (Value.int z)) hye) dX12_flowAt_486 ?_
                        refine lv_iconst (v := 1) hx hb dX12_flowAt_489 (by decide) ?_
                        refine n_add (j := y) (k := 1) hx hb dX12_flowAt_490 ?_
                        refine r_put E h 59 (ty := .int) (eM_0 cy a (fR (fR τ 37 (upd (τ.2.1 37) y (nI z))) 38 (upd (τ.2.1 38) y (τ.2.1 6 z)))) rfl fw_X12 tyX12_ok nmX12 (by decide) fl_X12_289 rfl (by decide +kernel) rfl rfl (Nat.le_of_ble_eq_true rfl) (sM_19 cy a (fR (fR τ 37 (upd (τ.2.1 37) y (nI z))) 38 (upd (τ.2.1 38) y (τ.2.1 6 z))) (nI (y + 1))) dX12_flowAt_491 (fun H locs h => ?_)
                        refine lv_iinc (v := nI (z + 1)) (lv' := [(6, .int (nI (z + 1))), (5, .int r163), (4, .int u), (0, .ref (a 0)), (1, .int (nI j)), (2, .int x), (3, .int w)]) hx hb dX12_flowAt_494 hl (k := 0) rfl (nI_succ z).symm (by decide) rfl (fun ls hl => ?_)
                        refine lv_goto (tgt := 424) hx hb dX12_flowAt_497 (by decide) ?_
                        exact ih424 (z + 1) (fF (fR (fR τ 37 (upd (τ.2.1 37) y (nI z))) 38 (upd (τ.2.1 38) y (τ.2.1 6 z))) 19 (nI (y + 1))) _ _ _ ⟨by omega, ((hi424.2.1.R 37 _ (by decide)).R 38 _ (by decide)).F 19 _ (by decide), pk_mono (pk_add hyb hyp ⟨z, rfl, by omega, by omega⟩ (hwz z c430)) (by omega), by omega⟩ (by omega) h (lv_sub hl [0, 1, 2, 3, 4, 5, 6] rfl)
              exact lp424 _ (j + 1) (fF τ 19 0) _ _ _ ⟨Nat.lt_succ_self _, hi171.2.F 19 _ (by decide), pk_0, by omega⟩ (Nat.lt_succ_self _) h (lv_sub hl [0, 1, 2, 3, 4, 5, 6] rfl)
            · have c174 : k < 3 := Nat.lt_of_not_le fun q9 => c174 ((nI_leI (a := 3) (b := k) (by omega) (by omega)).mpr q9)
              have jn205 : ∀ (v0 : Int32) (H : Heap) (locs : List Loc) (ls : Array Slot), (True) → HW D (AM a) s (wM cy a τ) H locs → lv_has ls 10 [(6, .int (nI k)), (5, .int r163), (4, .int u), (0, .ref (a 0)), (1, .int (nI j)), (2, .int x), (3, .int w)] → W p l e (rmOf 3 74) s m args below meth c H locs 0 0 (MQ below (va_Qv (fun τ => K mF mA σ τ ∧ (∀ i, i < j → τ.2.1 30 i = σ.2.1 30 i ∧ τ.2.1 31 i = σ.2.1 31 i ∧ τ.2.1 32 i = σ.2.1 32 i) ∧ FND τ j) (fun u t => va_P D vwCl (wM cy a u) t.heap) (AM a)) args s 0 0 (AM a)) (F0 m 205 ls [.int v0]) := by
                intro v0 H locs ls hj205 h hl
                refine lv_istore (lv' := [(7, .int v0), (6, .int (nI k)), (5, .int r163), (4, .int u), (0, .ref (a 0)), (1, .int (nI j)), (2, .int x), (3, .int w)]) hx hb dX12_flowAt_205 hl (by decide) rfl (fun ls hl => ?_)
                refine lv_aload_n hx hb dX12_flowAt_207 rfl (lv_at hl 4 rfl) ?_
                refine lv_iload_n hx hb dX12_flowAt_208 rfl (lv_at hl 6 rfl) ?_
                refine lv_iload hx hb dX12_flowAt_209 (lv_at hl 0 rfl) ?_
                refine k_i h (q_runV (As := [.int x, .int v0]) (rest := []) E h (c_X12_isClosed l D cy a τ x v0 nl ((hkt.1 11 (by decide)).trans hla) hl3) co_X12_isClosed ml_X12_213 im_X12_isClosed se_X12_isClosed in_X12 (eM_0 cy a τ) rfl ok_X12_isClosed rfl ⟨by decide, by decide⟩ hl.1 rfl (Nat.le_of_ble_eq_true rfl) dX12_flowAt_211 ⟨Nat.zero_le _, Nat.zero_le _⟩) (wM_fst cy a) (fun r211 τ211 H locs p211 h => ?_)
                rw [p211.1] at h
                refine lv_if_eq (tgt := 220) hx hb dX12_flowAt_214 (by decide) (fun c214 => ?_) (fun c214 => ?_)
                · refine lv_aload_n hx hb dX12_flowAt_220 rfl (lv_at hl 4 rfl) ?_
                  refine lv_iconst (v := 0) hx hb dX12_flowAt_221 (by decide) ?_
                  refine r_put E h 59 (ty := .int) (eM_0 cy a τ) rfl fw_X12 tyX12_ok nmX12 (by decide) fl_X12_289 rfl (by decide +kernel) rfl rfl (Nat.le_of_ble_eq_true rfl) (sM_19 cy a τ 0) dX12_flowAt_222 (fun H locs h => ?_)
                  refine lv_iconst (v := 0) hx hb dX12_flowAt_225 (by decide) ?_
                  refine lv_istore (lv' := [(8, .int 0), (7, .int v0), (6, .int (nI k)), (5, .int r163), (4, .int u), (0, .ref (a 0)), (1, .int (nI j)), (2, .int x), (3, .int w)]) hx hb dX12_flowAt_226 hl (by decide) rfl (fun ls hl => ?_)
                  have lp228 : ∀ (f : Nat) (z : Nat) (τ : St) (H : Heap) (locs : List Loc) (ls : Array Slot), (z ≤ nz ∧ K mF mA2 ρ τ ∧ PK (fun x => vp_in x 80) z τ) → (nz - z) < f → HW D (AM a) s (wM cy a τ) H locs → lv_has ls 10 [(8, .int (nI z)), (7, .int v0), (6, .int (nI k)), (5, .int r163), (4, .int u), (0, .ref (a 0)), (1, .int (nI j)), (2, .int x), (3, .int w)] → W p l e (rmOf 3 74) s m args below meth c H locs 0 0 (MQ below (va_Qv (fun τ => K mF mA σ τ ∧ (∀ i, i < j → τ.2.1 30 i = σ.2.1 30 i ∧ τ.2.1 31 i = σ.2.1 31 i ∧ τ.2.1 32 i = σ.2.1 32 i) ∧ FND τ j) (fun u t => va_P D vwCl (wM cy a u) t.heap) (AM a)) args s 0 0 (AM a)) (F0 m 228 ls []) := by
                    intro f
                    induction f with
                    | zero => intro z τ H locs ls _ hf; exact absurd hf (Nat.not_lt_zero _)
                    | succ f ih228 =>
                      intro z τ H locs ls hi228 hf228 h hl
                      have hkt : K mF mA σ τ := kρ.tr (m2 hi228.2.1)
                      obtain ⟨y, hyb, hye, hyp⟩ := id hi228.2.2
                      have hwz : ∀ i, i < nz → WT (τ.2.1 12 i) := by rw [hkt.2 12 (by decide)]; exact hzw
                      refine lv_iload hx hb dX12_flowAt_228 (lv_at hl 0 rfl) ?_
                      refine lv_aload_n hx hb dX12_flowAt_230 rfl (lv_at hl 5 rfl) ?_
                      refine r_get E h 18 (v := .int (nI nz)) (eM_0 cy a τ) rfl fw_X12 (by decide) fl_X12_149 (congrArg (fun z => some (Value.int z)) ((hkt.1 8 (by decide)).trans hz)) dX12_flowAt_231 ?_
                      refine lv_icmp_ge (tgt := 345) hx hb dX12_flowAt_234 (by decide) (fun c234 => ?_) (fun c234 => ?_)
                      · refine lv_aload_n hx hb dX12_flowAt_345 rfl (lv_at hl 5 rfl) ?_
                        refine lv_iload hx hb dX12_flowAt_346 (lv_at hl 4 rfl) ?_
                        refine k_i h (q_runV (As := [.int u]) (rest := []) E h (c_X12_deal l D cy a τ u y hye (by omega) (fun i hi => (hyp i hi).2)) co_X12_deal ml_X12_306 im_X12_deal se_X12_deal in_X12 (eM_0 cy a τ) rfl ok_X12_deal rfl ⟨by decide, by decide⟩ hl.1 rfl (Nat.le_of_ble_eq_true rfl) dX12_flowAt_348 ⟨Nat.zero_le _, Nat.zero_le _⟩) (wM_fst cy a) (fun r348 τ348 H locs p348 h => ?_)
                        refine lv_istore (lv' := [(8, .int r348), (7, .int v0), (6, .int (nI k)), (5, .int r163), (4, .int u), (0, .ref (a 0)), (1, .int (nI j)), (2, .int x), (3, .int w)]) hx hb dX12_flowAt_351 hl (by decide) rfl (fun ls hl => ?_)
                        refine lv_iconst (v := 0) hx hb dX12_flowAt_353 (by decide) ?_
                        refine lv_istore (lv' := [(9, .int 0), (8, .int r348), (7, .int v0), (6, .int (nI k)), (5, .int r163), (4, .int u), (0, .ref (a 0)), (1, .int (nI j)), (2, .int x), (3, .int w)]) hx hb dX12_flowAt_354 hl (by decide) rfl (fun ls hl => ?_)
                        obtain ⟨f8, e8⟩ := p348
                        have lp356 : ∀ (f : Nat) (i : Nat) (υ : St) (H : Heap) (locs : List Loc) (ls : Array Slot), (i ≤ y ∧ K mF mA2 ρ υ ∧ υ.1 19 = nI y ∧ υ.2.1 37 = τ.2.1 37) → (y - i) < f → HW D (AM a) s (wM cy a υ) H locs → lv_has ls 10 [(9, .int (nI i)), (8, .int r348), (7, .int v0), (6, .int (nI k)), (5, .int r163), (4, .int u), (0, .ref (a 0)), (1, .int (nI j)), (2, .int x), (3, .int w)] → W p l e (rmOf 3 74) s m args below meth c H locs 0 0 (MQ below (va_Qv (fun τ => K mF mA σ τ ∧ (∀ i, i < j → τ.2.1 30 i = σ.2.1 30 i ∧ τ.2.1 31 i = σ.2.1 31 i ∧ τ.2.1 32 i = σ.2.1 32 i) ∧ FND τ j) (fun u t => va_P D vwCl (wM cy a u) t.heap) (AM a)) args s 0 0 (AM a)) (F0 m 356 ls []) := by
                          intro f
                          induction f with
                          | zero => intro i υ H locs ls _ hf; exact absurd hf (Nat.not_lt_zero _)
                          | succ f ih356 =>
                            intro i υ H locs ls hi356 hf356 h hl
                            have hyu := hi356.2.2.1
                            refine lv_iload hx hb dX12_flowAt_356 (lv_at hl 0 rfl) ?_
                            refine lv_aload_n hx hb dX12_flowAt_358 rfl (lv_at hl 6 rfl) ?_
                            refine r_get E h 59 (v := .int (nI y)) (eM_0 cy a υ) rfl fw_X12 (by decide) fl_X12_289 (congrArg (fun z => some (Value.int z)) hyu) dX12_flowAt_359 ?_
                            refine lv_icmp_ge (tgt := 390) hx hb dX12_flowAt_362 (by decide) (fun c362 => ?_) (fun c362 => ?_)
                            · refine lv_aload_n hx hb dX12_flowAt_390 rfl (lv_at hl 6 rfl) ?_
                              refine r_get E h 53 (v := .ref (a 34)) (eM_0 cy a υ) rfl fw_X12 (by decide) fl_X12_113 rfl dX12_flowAt_391 ?_
                              refine lv_iload_n hx hb dX12_flowAt_394 rfl (lv_at hl 7 rfl) ?_
                              refine lv_dup2_11 hx hb dX12_flowAt_395 rfl rfl ?_
                              refine r_ialdN E h (f := υ.2.1 34) (eM_34 cy a υ) (j := j) hj (by decide) (v := υ.2.1 34 j) rfl dX12_flowAt_396 ?_
                              refine lv_iload hx hb dX12_flowAt_397 (lv_at hl 1 rfl) ?_
                              refine lv_iadd hx hb dX12_flowAt_399 ?_
                              refine r_iastN E h (f := υ.2.1 34) (eM_34 cy a υ) (j := j) hj (by decide) (qM_34 cy a υ (upd (υ.2.1 34) j ((υ.2.1 34 j) + r348))) dX12_flowAt_400 (fun H locs h => ?_)
                              refine lv_iload hx hb dX12_flowAt_401 (lv_at hl 5 rfl) ?_
                              refine lv_iload hx hb dX12_flowAt_403 (lv_at hl 1 rfl) ?_
                              refine lv_isub hx hb dX12_flowAt_405 ?_
                              refine lv_istore (lv' := [(4, .int (u - r348)), (9, .int (nI i)), (8, .int r348), (7, .int v0), (6, .int (nI k)), (5, .int r163), (0, .ref (a 0)), (1, .int (nI j)), (2, .int x), (3, .int w)]) hx hb dX12_flowAt_406 hl (by decide) rfl (fun ls hl => ?_)
                              refine lv_iinc (v := nI (k + 1)) (lv' := [(6, .int (nI (k + 1))), (4, .int (u - r348)), (9, .int (nI i)), (8, .int r348), (7, .int v0), (5, .int r163), (0, .ref (a 0)), (1, .int (nI j)), (2, .int x), (3, .int w)]) hx hb dX12_flowAt_408 hl (k := 4) rfl (nI_succ k).symm (by decide) rfl (fun ls hl => ?_)
                              refine lv_goto (tgt := 171) hx hb dX12_flowAt_411 (by decide) ?_
                              exact ih171 (k + 1) (u - r348) (fR υ 34 (upd (υ.2.1 34) j ((υ.2.1 34 j) + r348))) _ _ _ ⟨by omega, hi356.2.1.R 34 _ (by decide)⟩ (by omega) h (lv_sub hl [0, 5, 1, 6, 7, 8, 9] rfl)
                            · have c362 : i < y := Nat.lt_of_not_le fun q9 => c362 ((nI_leI (a := y) (b := i) (by omega) (by omega)).mpr q9)
                              refine lv_aload_n hx hb dX12_flowAt_365 rfl (lv_at hl 6 rfl) ?_
                              refine r_get E h 55 (v := .ref (a 36)) (eM_0 cy a υ) rfl fw_X12 (by decide) fl_X12_119 rfl dX12_flowAt_366 ?_
                              refine lv_aload_n hx hb dX12_flowAt_369 rfl (lv_at hl 6 rfl) ?_
                              refine r_get E h 56 (v := .ref (a 37)) (eM_0 cy a υ) rfl fw_X12 (by decide) fl_X12_122 rfl dX12_flowAt_370 ?_
                              refine lv_iload hx hb dX12_flowAt_373 (lv_at hl 0 rfl) ?_
                              refine r_ialdN E h (f := υ.2.1 37) (eM_37 cy a υ) (j := i) (by omega) (by decide) (v := υ.2.1 37 i) rfl dX12_flowAt_375 ?_
                              refine lv_aload_n hx hb dX12_flowAt_376 rfl (lv_at hl 6 rfl) ?_
                              refine r_get E h 58 (v := .ref (a 39)) (eM_0 cy a υ) rfl fw_X12 (by decide) fl_X12_128 rfl dX12_flowAt_377 ?_
                              refine lv_iload hx hb dX12_flowAt_380 (lv_at hl 0 rfl) ?_
                              refine r_ialdN E h (f := υ.2.1 39) (eM_39 cy a υ) (j := i) (by omega) (by decide) (v := υ.2.1 39 i) rfl dX12_flowAt_382 ?_
                              refine r_iast E h (f := υ.2.1 36) (eM_36 cy a υ) (by rw [hi356.2.2.2]; exact (hyp i c362).1) (qM_36 cy a υ (upd (υ.2.1 36) ((υ.2.1 37 i).toNatClampNeg) (υ.2.1 39 i))) dX12_flowAt_383 (fun H locs h => ?_)
                              refine lv_iinc (v := nI (i + 1)) (lv' := [(9, .int (nI (i + 1))), (8, .int r348), (7, .int v0), (6, .int (nI k)), (5, .int r163), (4, .int u), (0, .ref (a 0)), (1, .int (nI j)), (2, .int x), (3, .int w)]) hx hb dX12_flowAt_384 hl (k := 0) rfl (nI_succ i).symm (by decide) rfl (fun ls hl => ?_)
                              refine lv_goto (tgt := 356) hx hb dX12_flowAt_387 (by decide) ?_
                              exact ih356 (i + 1) (fR υ 36 (upd (υ.2.1 36) ((υ.2.1 37 i).toNatClampNeg) (υ.2.1 39 i))) _ _ _ ⟨by omega, hi356.2.1.R 36 _ (by decide), hi356.2.2.1, hi356.2.2.2⟩ (by omega) h (lv_sub hl [0, 1, 2, 3, 4, 5, 6, 7, 8, 9] rfl)
                        exact lp356 _ 0 τ348 _ _ _ ⟨Nat.zero_le _, by rw [e8]; exact hi228.2.1.R 39 _ (by decide), by rw [e8]; exact hye, by rw [e8]; rfl⟩ (Nat.lt_succ_self _) h (lv_sub hl [0, 1, 2, 3, 4, 5, 6, 7, 8, 9] rfl)
                      · have c234 : z < nz := Nat.lt_of_not_le fun q9 => c234 ((nI_leI (a := nz) (b := z) (by omega) (by omega)).mpr q9)
                        refine lv_aload_n hx hb dX12_flowAt_237 rfl (lv_at hl 5 rfl) ?_
                        refine r_get E h 19 (v := .ref (a 11)) (eM_0 cy a τ) rfl fw_X12 (by decide) fl_X12_40 rfl dX12_flowAt_238 ?_
                        refine lv_iload hx hb dX12_flowAt_241 (lv_at hl 0 rfl) ?_
                        refine r_ialdN E h (f := τ.2.1 11) (eM_11 cy a τ) (j := z) (by omega) (by decide) (v := τ.2.1 11 z) rfl dX12_flowAt_243 ?_
                        refine lv_iload_n hx hb dX12_flowAt_244 rfl (lv_at hl 6 rfl) ?_
                        refine lv_icmp_ne (tgt := 294) hx hb dX12_flowAt_245 (by decide) (fun c245 => ?_) (fun c245 => ?_)
                        · refine lv_iconst (v := 0) hx hb dX12_flowAt_294 (by decide) ?_
                          refine lv_istore (lv' := [(9, .int 0), (8, .int (nI z)), (7, .int v0), (6, .int (nI k)), (5, .int r163), (4, .int u), (0, .ref (a 0)), (1, .int (nI j)), (2, .int x), (3, .int w)]) hx hb dX12_flowAt_295 hl (by decide) rfl (fun ls hl => ?_)
                          refine lv_iload hx hb dX12_flowAt_297 (lv_at hl 0 rfl) ?_
                          refine lv_if_eq (tgt := 339) hx hb dX12_flowAt_299 (by decide) (fun c299 => ?_) (fun c299 => ?_)
                          · refine lv_iinc (v := nI (z + 1)) (lv' := [(8, .int (nI (z + 1))), (9, .int 0), (7, .int v0), (6, .int (nI k)), (5, .int r163), (4, .int u), (0, .ref (a 0)), (1, .int (nI j)), (2, .int x), (3, .int w)]) hx hb dX12_flowAt_339 hl (k := 1) rfl (nI_succ z).symm (by decide) rfl (fun ls hl => ?_)
                            refine lv_goto (tgt := 228) hx hb dX12_flowAt_342 (by decide) ?_
                            exact ih228 (z + 1) τ _ _ _ ⟨by omega, hi228.2.1, pk_mono hi228.2.2 (by omega)⟩ (by omega) h (lv_sub hl [0, 2, 3, 4, 5, 6, 7, 8, 9] rfl)
                          · exact absurd c299 (by decide)
                        · refine lv_aload_n hx hb dX12_flowAt_248 rfl (lv_at hl 5 rfl) ?_
                          refine r_get E h 21 (v := .ref (a 13)) (eM_0 cy a τ) rfl fw_X12 (by decide) fl_X12_46 rfl dX12_flowAt_249 ?_
                          refine lv_iload hx hb dX12_flowAt_252 (lv_at hl 0 rfl) ?_
                          refine r_ialdN E h (f := τ.2.1 13) (eM_13 cy a τ) (j := z) (by omega) (by decide) (v := τ.2.1 13 z) rfl dX12_flowAt_254 ?_
                          refine lv_iload hx hb dX12_flowAt_255 (lv_at hl 1 rfl) ?_
                          refine lv_icmp_ne (tgt := 294) hx hb dX12_flowAt_257 (by decide) (fun c257 => ?_) (fun c257 => ?_)
                          · refine lv_iconst (v := 0) hx hb dX12_flowAt_294 (by decide) ?_
                            refine lv_istore (lv' := [(9, .int 0), (8, .int (nI z)), (7, .int v0), (6, .int (nI k)), (5, .int r163), (4, .int u), (0, .ref (a 0)), (1, .int (nI j)), (2, .int x), (3, .int w)]) hx hb dX12_flowAt_295 hl (by decide) rfl (fun ls hl => ?_)
                            refine lv_iload hx hb dX12_flowAt_297 (lv_at hl 0 rfl) ?_
                            refine lv_if_eq (tgt := 339) hx hb dX12_flowAt_299 (by decide) (fun c299 => ?_) (fun c299 => ?_)
                            · refine lv_iinc (v := nI (z + 1)) (lv' := [(8, .int (nI (z + 1))), (9, .int 0), (7, .int v0), (6, .int (nI k)), (5, .int r163), (4, .int u), (0, .ref (a 0)), (1, .int (nI j)), (2, .int x), (3, .int w)]) hx hb dX12_flowAt_339 hl (k := 1) rfl (nI_succ z).symm (by decide) rfl (fun ls hl => ?_)
                              refine lv_goto (tgt := 228) hx hb dX12_flowAt_342 (by decide) ?_
                              exact ih228 (z + 1) τ _ _ _ ⟨by omega, hi228.2.1, pk_mono hi228.2.2 (by omega)⟩ (by omega) h (lv_sub hl [0, 2, 3, 4, 5, 6, 7, 8, 9] rfl)
                            · exact absurd c299 (by decide)
                          · refine lv_iload hx hb dX12_flowAt_260 (lv_at hl 1 rfl) ?_
                            refine lv_iconst (v := 2) hx hb dX12_flowAt_262 (by decide) ?_
                            refine lv_icmp_ne (tgt := 280) hx hb dX12_flowAt_263 (by decide) (fun c263 => ?_) (fun c263 => ?_)
                            · refine lv_aload_n hx hb dX12_flowAt_280 rfl (lv_at hl 5 rfl) ?_
                              refine lv_iload hx hb dX12_flowAt_281 (lv_at hl 0 rfl) ?_
                              refine lv_iload_n hx hb dX12_flowAt_283 rfl (lv_at hl 7 rfl) ?_
                              refine k_i h (q_runV (As := [.int (nI z), .int x]) (rest := []) E h (c_X12_isOpen l D cy a τ z x (by omega)) co_X12_isOpen ml_X12_286 im_X12_isOpen se_X12_isOpen in_X12 (eM_0 cy a τ) rfl ok_X12_isOpen rfl ⟨by decide, by decide⟩ hl.1 rfl (Nat.le_of_ble_eq_true rfl) dX12_flowAt_284 ⟨Nat.zero_le _, Nat.zero_le _⟩) (wM_fst cy a) (fun r284 τ284 H locs p284 h => ?_)
                              rw [p284.1] at h
                              refine lv_if_eq (tgt := 294) hx hb dX12_flowAt_287 (by decide) (fun c287 => ?_) (fun c287 => ?_)
                              · refine lv_iconst (v := 0) hx hb dX12_flowAt_294 (by decide) ?_
                                refine lv_istore (lv' := [(9, .int 0), (8, .int (nI z)), (7, .int v0), (6, .int (nI k)), (5, .int r163), (4, .int u), (0, .ref (a 0)), (1, .int (nI j)), (2, .int x), (3, .int w)]) hx hb dX12_flowAt_295 hl (by decide) rfl (fun ls hl => ?_)
                                refine lv_iload hx hb dX12_flowAt_297 (lv_at hl 0 rfl) ?_
                                refine lv_if_eq (tgt := 339) hx hb dX12_flowAt_299 (by decide) (fun c299 => ?_) (fun c299 => ?_)
                                · refine lv_iinc (v := nI (z + 1)) (lv' := [(8, .int (nI (z + 1))), (9, .int 0), (7, .int v0), (6, .int (nI k)), (5, .int r163), (4, .int u), (0, .ref (a 0)), (1, .int (nI j)), (2, .int x), (3, .int w)]) hx hb dX12_flowAt_339 hl (k := 1) rfl (nI_succ z).symm (by decide) rfl (fun ls hl => ?_)
                                  refine lv_goto (tgt := 228) hx hb dX12_flowAt_342 (by decide) ?_
                                  exact ih228 (z + 1) τ _ _ _ ⟨by omega, hi228.2.1, pk_mono hi228.2.2 (by omega)⟩ (by omega) h (lv_sub hl [0, 2, 3, 4, 5, 6, 7, 8, 9] rfl)
                                · exact absurd c299 (by decide)
                              · refine lv_iconst (v := 1) hx hb dX12_flowAt_290 (by decide) ?_
                                refine lv_goto (tgt := 295) hx hb dX12_flowAt_291 (by decide) ?_
                                refine lv_istore (lv' := [(9, .int 1), (8, .int (nI z)), (7, .int v0), (6, .int (nI k)), (5, .int r163), (4, .int u), (0, .ref (a 0)), (1, .int (nI j)), (2, .int x), (3, .int w)]) hx hb dX12_flowAt_295 hl (by decide) rfl (fun ls hl => ?_)
                                refine lv_iload hx hb dX12_flowAt_297 (lv_at hl 0 rfl) ?_
                                refine lv_if_eq (tgt := 339) hx hb dX12_flowAt_299 (by decide) (fun c299 => ?_) (fun c299 => ?_)
                                · exact absurd c299 (by decide)
                                · refine lv_aload_n hx hb dX12_flowAt_302 rfl (lv_at hl 6 rfl) ?_
                                  refine r_get E h 56 (v := .ref (a 37)) (eM_0 cy a τ) rfl fw_X12 (by decide) fl_X12_122 rfl dX12_flowAt_303 ?_
                                  refine lv_aload_n hx hb dX12_flowAt_306 rfl (lv_at hl 6 rfl) ?_
                                  refine r_get E h 59 (v := .int (nI y)) (eM_0 cy a τ) rfl fw_X12 (by decide) fl_X12_289 (congrArg (fun z => some (Value.int z)) hye) dX12_flowAt_307 ?_
                                  refine lv_iload hx hb dX12_flowAt_310 (lv_at hl 1 rfl) ?_
                                  refine r_iastN E h (f := τ.2.1 37) (eM_37 cy a τ) (j := y) (by omega) (by decide) (qM_37 cy a τ (upd (τ.2.1 37) y (nI z))) dX12_flowAt_312 (fun H locs h => ?_)
                                  refine lv_aload_n hx hb dX12_flowAt_313 rfl (lv_at hl 6 rfl) ?_
                                  refine r_get E h 57 (v := .ref (a 38)) (eM_0 cy a (fR τ 37 (upd (τ.2.1 37) y (nI z)))) rfl fw_X12 (by decide) fl_X12_125 rfl dX12_flowAt_314 ?_
                                  refine lv_aload_n hx hb dX12_flowAt_317 rfl (lv_at hl 6 rfl) ?_
                                  refine r_get E h 59 (v := .int (nI y)) (eM_0 cy a (fR τ 37 (upd (τ.2.1 37) y (nI z)))) rfl fw_X12 (by decide) fl_X12_289 (congrArg (fun z => some (Value.int z)) hye) dX12_flowAt_318 ?_
                                  refine lv_aload_n hx hb dX12_flowAt_321 rfl (lv_at hl 6 rfl) ?_
                                  refine r_get E h 20 (v := .ref (a 12)) (eM_0 cy a (fR τ 37 (upd (τ.2.1 37) y (nI z)))) rfl fw_X12 (by decide) fl_X12_43 rfl dX12_flowAt_322 ?_
                                  refine lv_iload hx hb dX12_flowAt_325 (lv_at hl 1 rfl) ?_
                                  refine r_ialdN E h (f := τ.2.1 12) (eM_12 cy a (fR τ 37 (upd (τ.2.1 37) y (nI z)))) (j := z) (by omega) (by decide) (v := τ.2.1 12 z) rfl dX12_flowAt_327 ?_
                                  refine r_iastN E h (f := τ.2.1 38) (eM_38 cy a (fR τ 37 (upd (τ.2.1 37) y (nI z)))) (j := y) (by omega) (by decide) (qM_38 cy a (fR τ 37 (upd (τ.2.1 37) y (nI z))) (upd (τ.2.1 38) y (τ.2.1 12 z))) dX12_flowAt_328 (fun H locs h => ?_)
                                  refine lv_aload_n hx hb dX12_flowAt_329 rfl (lv_at hl 6 rfl) ?_
                                  refine lv_dup hx hb dX12_flowAt_330 rfl ?_
                                  refine r_get E h 59 (v := .int (nI y)) (eM_0 cy a (fR (fR τ 37 (upd (τ.2.1 37) y (nI z))) 38 (upd (τ.2.1 38) y (τ.2.1 12 z)))) rfl fw_X12 (by decide) fl_X12_289 (congrArg (fun z => some (Value.int z)) hye) dX12_flowAt_331 ?_
                                  refine lv_iconst (v := 1) hx hb dX12_flowAt_334 (by decide) ?_
                                  refine n_add (j := y) (k := 1) hx hb dX12_flowAt_335 ?_
                                  refine r_put E h 59 (ty := .int) (eM_0 cy a (fR (fR τ 37 (upd (τ.2.1 37) y (nI z))) 38 (upd (τ.2.1 38) y (τ.2.1 12 z)))) rfl fw_X12 tyX12_ok nmX12 (by decide) fl_X12_289 rfl (by decide +kernel) rfl rfl (Nat.le_of_ble_eq_true rfl) (sM_19 cy a (fR (fR τ 37 (upd (τ.2.1 37) y (nI z))) 38 (upd (τ.2.1 38) y (τ.2.1 12 z))) (nI (y + 1))) dX12_flowAt_336 (fun H locs h => ?_)
                                  refine lv_iinc (v := nI (z + 1)) (lv' := [(8, .int (nI (z + 1))), (9, .int 1), (7, .int v0), (6, .int (nI k)), (5, .int r163), (4, .int u), (0, .ref (a 0)), (1, .int (nI j)), (2, .int x), (3, .int w)]) hx hb dX12_flowAt_339 hl (k := 1) rfl (nI_succ z).symm (by decide) rfl (fun ls hl => ?_)
                                  refine lv_goto (tgt := 228) hx hb dX12_flowAt_342 (by decide) ?_
                                  exact ih228 (z + 1) (fF (fR (fR τ 37 (upd (τ.2.1 37) y (nI z))) 38 (upd (τ.2.1 38) y (τ.2.1 12 z))) 19 (nI (y + 1))) _ _ _ ⟨by omega, ((hi228.2.1.R 37 _ (by decide)).R 38 _ (by decide)).F 19 _ (by decide), pk_add hyb hyp (vp_in_nI (by omega) (by decide)) (hwz z c234)⟩ (by omega) h (lv_sub hl [0, 2, 3, 4, 5, 6, 7, 8, 9] rfl)
                            · refine lv_aload_n hx hb dX12_flowAt_266 rfl (lv_at hl 5 rfl) ?_
                              refine lv_iload hx hb dX12_flowAt_267 (lv_at hl 0 rfl) ?_
                              refine lv_iload_n hx hb dX12_flowAt_269 rfl (lv_at hl 7 rfl) ?_
                              refine lv_iload_n hx hb dX12_flowAt_270 rfl (lv_at hl 8 rfl) ?_
                              refine k_i h (q_runV (As := [.int (nI z), .int x, .int w]) (rest := []) E h (c_X12_livesIn l D cy a τ z x w nl nd (by omega) ((hkt.1 11 (by decide)).trans hla) hl3 ((hkt.1 7 (by decide)).trans hd) hd6) co_X12_livesIn ml_X12_302 im_X12_livesIn se_X12_livesIn in_X12 (eM_0 cy a τ) rfl ok_X12_livesIn rfl ⟨by decide, by decide⟩ hl.1 rfl (Nat.le_of_ble_eq_true rfl) dX12_flowAt_271 ⟨Nat.zero_le _, Nat.zero_le _⟩) (wM_fst cy a) (fun r271 τ271 H locs p271 h => ?_)
                              rw [p271.1] at h
                              refine lv_if_eq (tgt := 294) hx hb dX12_flowAt_274 (by decide) (fun c274 => ?_) (fun c274 => ?_)
                              · refine lv_iconst (v := 0) hx hb dX12_flowAt_294 (by decide) ?_
                                refine lv_istore (lv' := [(9, .int 0), (8, .int (nI z)), (7, .int v0), (6, .int (nI k)), (5, .int r163), (4, .int u), (0, .ref (a 0)), (1, .int (nI j)), (2, .int x), (3, .int w)]) hx hb dX12_flowAt_295 hl (by decide) rfl (fun ls hl => ?_)
                                refine lv_iload hx hb dX12_flowAt_297 (lv_at hl 0 rfl) ?_
                                refine lv_if_eq (tgt := 339) hx hb dX12_flowAt_299 (by decide) (fun c299 => ?_) (fun c299 => ?_)
                                · refine lv_iinc (v := nI (z + 1)) (lv' := [(8, .int (nI (z + 1))), (9, .int 0), (7, .int v0), (6, .int (nI k)), (5, .int r163), (4, .int u), (0, .ref (a 0)), (1, .int (nI j)), (2, .int x), (3, .int w)]) hx hb dX12_flowAt_339 hl (k := 1) rfl (nI_succ z).symm (by decide) rfl (fun ls hl => ?_)
                                  refine lv_goto (tgt := 228) hx hb dX12_flowAt_342 (by decide) ?_
                                  exact ih228 (z + 1) τ _ _ _ ⟨by omega, hi228.2.1, pk_mono hi228.2.2 (by omega)⟩ (by omega) h (lv_sub hl [0, 2, 3, 4, 5, 6, 7, 8, 9] rfl)
                                · exact absurd c299 (by decide)
                              · refine lv_goto (tgt := 290) hx hb dX12_flowAt_277 (by decide) ?_
                                refine lv_iconst (v := 1) hx hb dX12_flowAt_290 (by decide) ?_
                                refine lv_goto (tgt := 295) hx hb dX12_flowAt_291 (by decide) ?_
                                refine lv_istore (lv' := [(9, .int 1), (8, .int (nI z)), (7, .int v0), (6, .int (nI k)), (5, .int r163), (4, .int u), (0, .ref (a 0)), (1, .int (nI j)), (2, .int x), (3, .int w)]) hx hb dX12_flowAt_295 hl (by decide) rfl (fun ls hl => ?_)
                                refine lv_iload hx hb dX12_flowAt_297 (lv_at hl 0 rfl) ?_
                                refine lv_if_eq (tgt := 339) hx hb dX12_flowAt_299 (by decide) (fun c299 => ?_) (fun c299 => ?_)
                                · exact absurd c299 (by decide)
                                · refine lv_aload_n hx hb dX12_flowAt_302 rfl (lv_at hl 6 rfl) ?_
                                  refine r_get E h 56 (v := .ref (a 37)) (eM_0 cy a τ) rfl fw_X12 (by decide) fl_X12_122 rfl dX12_flowAt_303 ?_
                                  refine lv_aload_n hx hb dX12_flowAt_306 rfl (lv_at hl 6 rfl) ?_
                                  refine r_get E h 59 (v := .int (nI y)) (eM_0 cy a τ) rfl fw_X12 (by decide) fl_X12_289 (congrArg (fun z => some (Value.int z)) hye) dX12_flowAt_307 ?_
                                  refine lv_iload hx hb dX12_flowAt_310 (lv_at hl 1 rfl) ?_
                                  refine r_iastN E h (f := τ.2.1 37) (eM_37 cy a τ) (j := y) (by omega) (by decide) (qM_37 cy a τ (upd (τ.2.1 37) y (nI z))) dX12_flowAt_312 (fun H locs h => ?_)
                                  refine lv_aload_n hx hb dX12_flowAt_313 rfl (lv_at hl 6 rfl) ?_
                                  refine r_get E h 57 (v := .ref (a 38)) (eM_0 cy a (fR τ 37 (upd (τ.2.1 37) y (nI z)))) rfl fw_X12 (by decide) fl_X12_125 rfl dX12_flowAt_314 ?_
                                  refine lv_aload_n hx hb dX12_flowAt_317 rfl (lv_at hl 6 rfl) ?_
                                  refine r_get E h 59 (v := .int (nI y)) (eM_0 cy a (fR τ 37 (upd (τ.2.1 37) y (nI z)))) rfl fw_X12 (by decide) fl_X12_289 (congrArg (fun z => some (Value.int z)) hye) dX12_flowAt_318 ?_
                                  refine lv_aload_n hx hb dX12_flowAt_321 rfl (lv_at hl 6 rfl) ?_
                                  refine r_get E h 20 (v := .ref (a 12)) (eM_0 cy a (fR τ 37 (upd (τ.2.1 37) y (nI z)))) rfl fw_X12 (by decide) fl_X12_43 rfl dX12_flowAt_322 ?_
                                  refine lv_iload hx hb dX12_flowAt_325 (lv_at hl 1 rfl) ?_
                                  refine r_ialdN E h (f := τ.2.1 12) (eM_12 cy a (fR τ 37 (upd (τ.2.1 37) y (nI z)))) (j := z) (by omega) (by decide) (v := τ.2.1 12 z) rfl dX12_flowAt_327 ?_
                                  refine r_iastN E h (f := τ.2.1 38) (eM_38 cy a (fR τ 37 (upd (τ.2.1 37) y (nI z)))) (j := y) (by omega) (by decide) (qM_38 cy a (fR τ 37 (upd (τ.2.1 37) y (nI z))) (upd (τ.2.1 38) y (τ.2.1 12 z))) dX12_flowAt_328 (fun H locs h => ?_)
                                  refine lv_aload_n hx hb dX12_flowAt_329 rfl (lv_at hl 6 rfl) ?_
                                  refine lv_dup hx hb dX12_flowAt_330 rfl ?_
                                  refine r_get E h 59 (v := .int (nI y)) (eM_0 cy a (fR (fR τ 37 (upd (τ.2.1 37) y (nI z))) 38 (upd (τ.2.1 38) y (τ.2.1 12 z)))) rfl fw_X12 (by decide) fl_X12_289 (congrArg (fun z => some (Value.int z)) hye) dX12_flowAt_331 ?_
                                  refine lv_iconst (v := 1) hx hb dX12_flowAt_334 (by decide) ?_
                                  refine n_add (j := y) (k := 1) hx hb dX12_flowAt_335 ?_
                                  refine r_put E h 59 (ty := .int) (eM_0 cy a (fR (fR τ 37 (upd (τ.2.1 37) y (nI z))) 38 (upd (τ.2.1 38) y (τ.2.1 12 z)))) rfl fw_X12 tyX12_ok nmX12 (by decide) fl_X12_289 rfl (by decide +kernel) rfl rfl (Nat.le_of_ble_eq_true rfl) (sM_19 cy a (fR (fR τ 37 (upd (τ.2.1 37) y (nI z))) 38 (upd (τ.2.1 38) y (τ.2.1 12 z))) (nI (y + 1))) dX12_flowAt_336 (fun H locs h => ?_)
                                  refine lv_iinc (v := nI (z + 1)) (lv' := [(8, .int (nI (z + 1))), (9, .int 1), (7, .int v0), (6, .int (nI k)), (5, .int r163), (4, .int u), (0, .ref (a 0)), (1, .int (nI j)), (2, .int x), (3, .int w)]) hx hb dX12_flowAt_339 hl (k := 1) rfl (nI_succ z).symm (by decide) rfl (fun ls hl => ?_)
                                  refine lv_goto (tgt := 228) hx hb dX12_flowAt_342 (by decide) ?_
                                  exact ih228 (z + 1) (fF (fR (fR τ 37 (upd (τ.2.1 37) y (nI z))) 38 (upd (τ.2.1 38) y (τ.2.1 12 z))) 19 (nI (y + 1))) _ _ _ ⟨by omega, ((hi228.2.1.R 37 _ (by decide)).R 38 _ (by decide)).F 19 _ (by decide), pk_add hyb hyp (vp_in_nI (by omega) (by decide)) (hwz z c234)⟩ (by omega) h (lv_sub hl [0, 2, 3, 4, 5, 6, 7, 8, 9] rfl)
                  exact lp228 _ 0 (fF τ 19 0) _ _ _ ⟨Nat.zero_le _, hi171.2.F 19 _ (by decide), pk_0⟩ (Nat.lt_succ_self _) h (lv_sub hl [0, 1, 2, 3, 4, 5, 6, 7, 8] rfl)
                · refine lv_goto (tgt := 408) hx hb dX12_flowAt_217 (by decide) ?_
                  refine lv_iinc (v := nI (k + 1)) (lv' := [(6, .int (nI (k + 1))), (7, .int v0), (5, .int r163), (4, .int u), (0, .ref (a 0)), (1, .int (nI j)), (2, .int x), (3, .int w)]) hx hb dX12_flowAt_408 hl (k := 1) rfl (nI_succ k).symm (by decide) rfl (fun ls hl => ?_)
                  refine lv_goto (tgt := 171) hx hb dX12_flowAt_411 (by decide) ?_
                  exact ih171 (k + 1) u τ _ _ _ ⟨by omega, hi171.2⟩ (by omega) h (lv_sub hl [0, 2, 3, 4, 5, 6, 7] rfl)
              refine lv_iload hx hb dX12_flowAt_177 (lv_at hl 0 rfl) ?_
              refine lv_if_ne (tgt := 187) hx hb dX12_flowAt_179 (by decide) (fun c179 => ?_) (fun c179 => ?_)
              · refine lv_iload hx hb dX12_flowAt_187 (lv_at hl 0 rfl) ?_
                refine lv_iconst (v := 1) hx hb dX12_flowAt_189 (by decide) ?_
                refine lv_isub hx hb dX12_flowAt_190 ?_
                refine lv_iload hx hb dX12_flowAt_191 (lv_at hl 1 rfl) ?_
                refine lv_icmp_ge (tgt := 203) hx hb dX12_flowAt_193 (by decide) (fun c193 => ?_) (fun c193 => ?_)
                · refine lv_iload hx hb dX12_flowAt_203 (lv_at hl 0 rfl) ?_
                  exact jn205 (nI k) _ _ _ trivial h (lv_sub hl [0, 1, 2, 3, 4, 5, 6] rfl)
                · refine lv_iload hx hb dX12_flowAt_196 (lv_at hl 0 rfl) ?_
                  refine lv_iconst (v := 1) hx hb dX12_flowAt_198 (by decide) ?_
                  refine lv_isub hx hb dX12_flowAt_199 ?_
                  refine lv_goto (tgt := 205) hx hb dX12_flowAt_200 (by decide) ?_
                  exact jn205 ((nI k) - 1) _ _ _ trivial h (lv_sub hl [0, 1, 2, 3, 4, 5, 6] rfl)
              · refine lv_iload hx hb dX12_flowAt_182 (lv_at hl 1 rfl) ?_
                refine lv_goto (tgt := 205) hx hb dX12_flowAt_184 (by decide) ?_
                exact jn205 r163 _ _ _ trivial h (lv_sub hl [0, 1, 2, 3, 4, 5, 6] rfl)
        exact lp171 _ 0 _ ρ _ _ _ ⟨Nat.zero_le _, K.rf⟩ (Nat.lt_succ_self _) h (lv_sub hl [0, 1, 2, 3, 4, 5, 6] rfl)
      · have c24 : k < nt := Nat.lt_of_not_le fun q9 => c24 ((nI_leI (a := nt) (b := k) (by omega) (by omega)).mpr q9)
        refine lv_aload_n hx hb dX12_flowAt_27 rfl (lv_at hl 2 rfl) ?_
        refine r_get E h 26 (v := .ref (a 17)) (eM_0 cy a τ) rfl fw_X12 (by decide) fl_X12_58 rfl dX12_flowAt_28 ?_
        refine lv_iload hx hb dX12_flowAt_31 (lv_at hl 0 rfl) ?_
        refine r_ialdN E h (f := τ.2.1 17) (eM_17 cy a τ) (j := k) (by omega) (by decide) (v := τ.2.1 17 k) rfl dX12_flowAt_33 ?_
        refine lv_iload_n hx hb dX12_flowAt_34 rfl (lv_at hl 3 rfl) ?_
        refine lv_icmp_ne (tgt := 106) hx hb dX12_flowAt_35 (by decide) (fun c35 => ?_) (fun c35 => ?_)
        · refine lv_iinc (v := nI (k + 1)) (lv' := [(5, .int (nI (k + 1))), (4, .int u), (0, .ref (a 0)), (1, .int (nI j)), (2, .int x), (3, .int w)]) hx hb dX12_flowAt_106 hl (k := 0) rfl (nI_succ k).symm (by decide) rfl (fun ls hl => ?_)
          refine lv_goto (tgt := 18) hx hb dX12_flowAt_109 (by decide) ?_
          exact ih18 (k + 1) u τ _ _ _ ⟨by omega, hi18.2⟩ (by omega) h (lv_sub hl [0, 1, 2, 3, 4, 5] rfl)
        · refine lv_iload_n hx hb dX12_flowAt_38 rfl (lv_at hl 4 rfl) ?_
          refine lv_i2l hx hb dX12_flowAt_39 rfl ?_
          refine lv_aload_n hx hb dX12_flowAt_40 rfl (lv_at hl 2 rfl) ?_
          refine r_get E h 28 (v := .ref (a 19)) (eM_0 cy a τ) rfl fw_X12 (by decide) fl_X12_64 rfl dX12_flowAt_41 ?_
          refine lv_iload hx hb dX12_flowAt_44 (lv_at hl 0 rfl) ?_
          refine r_ialdN E h (f := τ.2.1 19) (eM_19 cy a τ) (j := k) (by omega) (by decide) (v := τ.2.1 19 k) rfl dX12_flowAt_46 ?_
          refine lv_i2l hx hb dX12_flowAt_47 rfl ?_
          refine lv_aload_n hx hb dX12_flowAt_48 rfl (lv_at hl 2 rfl) ?_
          refine r_get E h 29 (v := .ref (a 20)) (eM_0 cy a τ) rfl fw_X12 (by decide) fl_X12_67 rfl dX12_flowAt_49 ?_
          refine lv_iload hx hb dX12_flowAt_52 (lv_at hl 0 rfl) ?_
          refine r_ialdN E h (f := τ.2.1 20) (eM_20 cy a τ) (j := k) (by omega) (by decide) (v := τ.2.1 20 k) rfl dX12_flowAt_54 ?_
          refine lv_i2l hx hb dX12_flowAt_55 rfl ?_
          refine k_i h (q_runS (As := [.long x.toInt64, .long ((τ.2.1 19 k).toInt64), .long ((τ.2.1 20 k).toInt64)]) (rest := []) E h (c_X12_in l D cy a τ x.toInt64 ((τ.2.1 19 k).toInt64) ((τ.2.1 20 k).toInt64)) co_X12_in ml_X12_139 st_X12_in in_X12 rfl ok_X12_in rfl ⟨by decide, by decide⟩ hl.1 rfl (Nat.le_of_ble_eq_true rfl) dX12_flowAt_56 ⟨Nat.zero_le _, Nat.zero_le _⟩) (wM_fst cy a) (fun r56 τ56 H locs p56 h => ?_)
          rw [p56.1] at h
          refine lv_if_eq (tgt := 106) hx hb dX12_flowAt_59 (by decide) (fun c59 => ?_) (fun c59 => ?_)
          · refine lv_iinc (v := nI (k + 1)) (lv' := [(5, .int (nI (k + 1))), (4, .int u), (0, .ref (a 0)), (1, .int (nI j)), (2, .int x), (3, .int w)]) hx hb dX12_flowAt_106 hl (k := 0) rfl (nI_succ k).symm (by decide) rfl (fun ls hl => ?_)
            refine lv_goto (tgt := 18) hx hb dX12_flowAt_109 (by decide) ?_
            exact ih18 (k + 1) u τ _ _ _ ⟨by omega, hi18.2⟩ (by omega) h (lv_sub hl [0, 1, 2, 3, 4, 5] rfl)
          · refine lv_aload_n hx hb dX12_flowAt_62 rfl (lv_at hl 2 rfl) ?_
            refine r_get E h 27 (v := .ref (a 18)) (eM_0 cy a τ) rfl fw_X12 (by decide) fl_X12_61 rfl dX12_flowAt_63 ?_
            refine lv_iload hx hb dX12_flowAt_66 (lv_at hl 0 rfl) ?_
            refine r_ialdN E h (f := τ.2.1 18) (eM_18 cy a τ) (j := k) (by omega) (by decide) (v := τ.2.1 18 k) rfl dX12_flowAt_68 ?_
            refine lv_iload hx hb dX12_flowAt_69 (lv_at hl 1 rfl) ?_
            refine lv_icmp_ge (tgt := 84) hx hb dX12_flowAt_71 (by decide) (fun c71 => ?_) (fun c71 => ?_)
            · refine lv_iload hx hb dX12_flowAt_84 (lv_at hl 1 rfl) ?_
              refine lv_istore (lv' := [(6, .int u), (5, .int (nI k)), (4, .int u), (0, .ref (a 0)), (1, .int (nI j)), (2, .int x), (3, .int w)]) hx hb dX12_flowAt_86 hl (by decide) rfl (fun ls hl => ?_)
              refine lv_aload_n hx hb dX12_flowAt_88 rfl (lv_at hl 3 rfl) ?_
              refine r_get E h 51 (v := .ref (a 32)) (eM_0 cy a τ) rfl fw_X12 (by decide) fl_X12_107 rfl dX12_flowAt_89 ?_
              refine lv_iload_n hx hb dX12_flowAt_92 rfl (lv_at hl 4 rfl) ?_
              refine lv_dup2_11 hx hb dX12_flowAt_93 rfl rfl ?_
              refine r_ialdN E h (f := τ.2.1 32) (eM_32 cy a τ) (j := j) hj (by decide) (v := τ.2.1 32 j) rfl dX12_flowAt_94 ?_
              refine lv_iload hx hb dX12_flowAt_95 (lv_at hl 0 rfl) ?_
              refine lv_iadd hx hb dX12_flowAt_97 ?_
              refine r_iastN E h (f := τ.2.1 32) (eM_32 cy a τ) (j := j) hj (by decide) (qM_32 cy a τ (upd (τ.2.1 32) j ((τ.2.1 32 j) + u))) dX12_flowAt_98 (fun H locs h => ?_)
              refine lv_iload hx hb dX12_flowAt_99 (lv_at hl 2 rfl) ?_
              refine lv_iload hx hb dX12_flowAt_101 (lv_at hl 0 rfl) ?_
              refine lv_isub hx hb dX12_flowAt_103 ?_
              refine lv_istore (lv' := [(4, .int (u - u)), (6, .int u), (5, .int (nI k)), (0, .ref (a 0)), (1, .int (nI j)), (2, .int x), (3, .int w)]) hx hb dX12_flowAt_104 hl (by decide) rfl (fun ls hl => ?_)
              refine lv_iinc (v := nI (k + 1)) (lv' := [(5, .int (nI (k + 1))), (4, .int (u - u)), (6, .int u), (0, .ref (a 0)), (1, .int (nI j)), (2, .int x), (3, .int w)]) hx hb dX12_flowAt_106 hl (k := 2) rfl (nI_succ k).symm (by decide) rfl (fun ls hl => ?_)
              refine lv_goto (tgt := 18) hx hb dX12_flowAt_109 (by decide) ?_
              exact ih18 (k + 1) (u - u) (fR τ 32 (upd (τ.2.1 32) j ((τ.2.1 32 j) + u))) _ _ _ ⟨by omega, hi18.2.1.R 32 _ (by decide), fun i hij => (upd_n hij).trans (hi18.2.2.1 i hij), by show _ = τ.2.1 31 j - upd (τ.2.1 32) j _ j; rw [upd_s, hi18.2.2.2, sub_sub32]⟩ (by omega) h (lv_sub hl [0, 1, 3, 4, 5, 6] rfl)
            · refine lv_aload_n hx hb dX12_flowAt_74 rfl (lv_at hl 2 rfl) ?_
              refine r_get E h 27 (v := .ref (a 18)) (eM_0 cy a τ) rfl fw_X12 (by decide) fl_X12_61 rfl dX12_flowAt_75 ?_
              refine lv_iload hx hb dX12_flowAt_78 (lv_at hl 0 rfl) ?_
              refine r_ialdN E h (f := τ.2.1 18) (eM_18 cy a τ) (j := k) (by omega) (by decide) (v := τ.2.1 18 k) rfl dX12_flowAt_80 ?_
              refine lv_goto (tgt := 86) hx hb dX12_flowAt_81 (by decide) ?_
              refine lv_istore (lv' := [(6, .int (τ.2.1 18 k)), (5, .int (nI k)), (4, .int u), (0, .ref (a 0)), (1, .int (nI j)), (2, .int x), (3, .int w)]) hx hb dX12_flowAt_86 hl (by decide) rfl (fun ls hl => ?_)
              refine lv_aload_n hx hb dX12_flowAt_88 rfl (lv_at hl 3 rfl) ?_
              refine r_get E h 51 (v := .ref (a 32)) (eM_0 cy a τ) rfl fw_X12 (by decide) fl_X12_107 rfl dX12_flowAt_89 ?_
              refine lv_iload_n hx hb dX12_flowAt_92 rfl (lv_at hl 4 rfl) ?_
              refine lv_dup2_11 hx hb dX12_flowAt_93 rfl rfl ?_
              refine r_ialdN E h (f := τ.2.1 32) (eM_32 cy a τ) (j := j) hj (by decide) (v := τ.2.1 32 j) rfl dX12_flowAt_94 ?_
              refine lv_iload hx hb dX12_flowAt_95 (lv_at hl 0 rfl) ?_
              refine lv_iadd hx hb dX12_flowAt_97 ?_
              refine r_iastN E h (f := τ.2.1 32) (eM_32 cy a τ) (j := j) hj (by decide) (qM_32 cy a τ (upd (τ.2.1 32) j ((τ.2.1 32 j) + (τ.2.1 18 k)))) dX12_flowAt_98 (fun H locs h => ?_)
              refine lv_iload hx hb dX12_flowAt_99 (lv_at hl 2 rfl) ?_
              refine lv_iload hx hb dX12_flowAt_101 (lv_at hl 0 rfl) ?_
              refine lv_isub hx hb dX12_flowAt_103 ?_
              refine lv_istore (lv' := [(4, .int (u - (τ.2.1 18 k))), (6, .int (τ.2.1 18 k)), (5, .int (nI k)), (0, .ref (a 0)), (1, .int (nI j)), (2, .int x), (3, .int w)]) hx hb dX12_flowAt_104 hl (by decide) rfl (fun ls hl => ?_)
              refine lv_iinc (v := nI (k + 1)) (lv' := [(5, .int (nI (k + 1))), (4, .int (u - (τ.2.1 18 k))), (6, .int (τ.2.1 18 k)), (0, .ref (a 0)), (1, .int (nI j)), (2, .int x), (3, .int w)]) hx hb dX12_flowAt_106 hl (k := 2) rfl (nI_succ k).symm (by decide) rfl (fun ls hl => ?_)
              refine lv_goto (tgt := 18) hx hb dX12_flowAt_109 (by decide) ?_
              exact ih18 (k + 1) (u - (τ.2.1 18 k)) (fR τ 32 (upd (τ.2.1 32) j ((τ.2.1 32 j) + (τ.2.1 18 k)))) _ _ _ ⟨by omega, hi18.2.1.R 32 _ (by decide), fun i hij => (upd_n hij).trans (hi18.2.2.1 i hij), by show _ = τ.2.1 31 j - upd (τ.2.1 32) j _ j; rw [upd_s, hi18.2.2.2, sub_sub32]⟩ (by omega) h (lv_sub hl [0, 1, 3, 4, 5, 6] rfl)
  exact lp18 _ 0 _ (fR σ 32 (upd (σ.2.1 32) j 0)) _ _ _ ⟨Nat.zero_le _, K.rf.R 32 _ (by decide), fun i hij => upd_n hij, by show _ = σ.2.1 31 j - upd (σ.2.1 32) j 0 j; rw [upd_s, Int32.sub_zero]⟩ (Nat.lt_succ_self _) h (lv_sub hl [0, 1, 2, 3, 4, 5] rfl)
