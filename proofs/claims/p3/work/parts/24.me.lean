
theorem wt_of {x : Int32} {lo hi : Int32} (h : lo ≤ x ∧ x ≤ hi) (hl : 1 ≤ lo.toInt) (hh : hi.toInt ≤ 100000) : WT x := by
  rw [z_le, z_le] at h
  unfold WT
  omega
theorem src64 {x : Int32} {n q : Nat} (hn : n ≤ 12) (hq : q ≤ 4) : ((100 : Int64) ≤ x.toInt64 ∧ x.toInt64 ≤ 99 + (nI n).toInt64) ↔ ((100 : Int32) ≤ x ∧ ((0 : Int32) ≤ x - 100 ∧ x - 100 ≤ nI n - 1)) := by
  have e1 : (100 : Int64) = (100 : Int32).toInt64 := by decide
  have e2 : (99 : Int64) + (nI n).toInt64 = (nI (99 + n)).toInt64 := by
    rw [nI_l (by omega), nI_l (by omega)]
    exact lN_add 99 n
  rw [e1, e2, wide_le, wide_le]
  constructor
  · rintro ⟨h1, h2⟩
    have h0 : ¬ x < 0 := Int32.not_lt.mpr (Int32.le_trans (by decide) h1)
    obtain ⟨j, hj, rfl⟩ := nI_of h0
    have h3 : 100 ≤ j := (nI_leI (a := 100) (b := j) (by decide) hj).mp h1
    have h4 : j ≤ 99 + n := (nI_leI hj (by omega)).mp h2
    have e3 : nI j - 100 = nI (j - 100) := pk_sub (a := j) (b := 100) h3
    rw [e3]
    refine ⟨h1, nI_pos' (by omega), ?_⟩
    obtain ⟨k, rfl⟩ : ∃ k, n = k + 1 := ⟨n - 1, by omega⟩
    rw [nI_pred]
    exact (nI_leI (by omega) (by omega)).mpr (by omega)
  · rintro ⟨h1, h2, h3⟩
    refine ⟨h1, ?_⟩
    have h0 : ¬ x < 0 := Int32.not_lt.mpr (Int32.le_trans (by decide) h1)
    obtain ⟨j, hj, rfl⟩ := nI_of h0
    have h4 : 100 ≤ j := (nI_leI (a := 100) (b := j) (by decide) hj).mp h1
    have e3 : nI j - 100 = nI (j - 100) := pk_sub (a := j) (b := 100) h4
    rw [e3] at h2 h3
    obtain ⟨i, hi, _, e⟩ := z_in (N := 12) h2 h3 hn (by decide)
    have e5 : j - 100 = i := n_eq (by omega) (by omega) e
    exact (nI_leI hj (by omega)).mpr (by omega)

theorem gm_aq {R : Nat} {σ τ : St} {k : Nat} (hk : k ≤ 4) (e : τ.1 3 = nI k) (g : GM R σ) (h : K [2, 4, 5, 6, 7, 8, 9, 10, 11, 13] [2, 3, 4, 5, 6, 7, 8, 9, 10, 11, 12, 13, 14, 15, 16, 17, 18, 19, 20, 21, 22, 23, 24, 25, 26, 27, 29] σ τ) : GM R τ := by
  obtain ⟨g1, g2, g3, g4, g5, g6, g7, g8, g9, g10, g11⟩ := g
  refine ⟨?_, ?_, ?_, ?_, ?_, ?_, ?_, ?_, ?_, ?_, ?_⟩
  · exact ⟨k, hk, e⟩
  · rw [h.1 4 (by decide)]; exact g2
  · rw [h.1 5 (by decide), h.2 6 (by decide)]; exact g3
  · rw [h.1 6 (by decide)]; exact g4
  · rw [h.1 7 (by decide)]; exact g5
  · rw [h.1 8 (by decide), h.2 12 (by decide)]; exact g6
  · rw [h.1 9 (by decide)]; exact g7
  · rw [h.1 10 (by decide)]; exact g8
  · rw [h.1 11 (by decide)]; exact g9
  · rw [h.1 13 (by decide)]; exact g10
  · rw [h.1 2 (by decide)]; exact g11

theorem gm_sp {R : Nat} {σ τ : St} {k : Nat} (hk : k ≤ 60) (e : τ.1 4 = nI k) (g : GM R σ) (h : K [2, 3, 5, 6, 7, 8, 9, 10, 11, 13] [1, 5, 6, 7, 8, 9, 10, 11, 12, 13, 14, 15, 16, 17, 18, 19, 20, 21, 22, 23, 24, 25, 26, 27, 29] σ τ) : GM R τ := by
  obtain ⟨g1, g2, g3, g4, g5, g6, g7, g8, g9, g10, g11⟩ := g
  refine ⟨?_, ?_, ?_, ?_, ?_, ?_, ?_, ?_, ?_, ?_, ?_⟩
  · rw [h.1 3 (by decide)]; exact g1
  · exact ⟨k, hk, e⟩
  · rw [h.1 5 (by decide), h.2 6 (by decide)]; exact g3
  · rw [h.1 6 (by decide)]; exact g4
  · rw [h.1 7 (by decide)]; exact g5
  · rw [h.1 8 (by decide), h.2 12 (by decide)]; exact g6
  · rw [h.1 9 (by decide)]; exact g7
  · rw [h.1 10 (by decide)]; exact g8
  · rw [h.1 11 (by decide)]; exact g9
  · rw [h.1 13 (by decide)]; exact g10
  · rw [h.1 2 (by decide)]; exact g11

theorem gm_ca {R : Nat} {σ τ : St} {n : Nat} {x : Int32} (hn : σ.1 5 = nI n) (hlt : n < 12) (e : τ.1 5 = nI (n + 1)) (e6 : τ.2.1 6 = upd (σ.2.1 6) n x) (hx : WT x) (g : GM R σ) (h : K [2, 3, 4, 6, 7, 8, 9, 10, 11, 13] [1, 2, 3, 4, 8, 9, 10, 11, 12, 13, 14, 15, 16, 17, 18, 19, 20, 21, 22, 23, 24, 25, 26, 27, 29] σ τ) : GM R τ := by
  obtain ⟨g1, g2, g3, g4, g5, g6, g7, g8, g9, g10, g11⟩ := g
  refine ⟨?_, ?_, ?_, ?_, ?_, ?_, ?_, ?_, ?_, ?_, ?_⟩
  · rw [h.1 3 (by decide)]; exact g1
  · rw [h.1 4 (by decide)]; exact g2
  · obtain ⟨n9, h1, h2, h3⟩ := g3; have e9 : n9 = n := n_eq (by omega) (by omega) (h2.symm.trans hn); subst e9; refine ⟨n9 + 1, by omega, e, fun i hi => ?_⟩; rw [e6]; exact up_in (P := fun _ z => WT z) h3 hx hi
  · rw [h.1 6 (by decide)]; exact g4
  · rw [h.1 7 (by decide)]; exact g5
  · rw [h.1 8 (by decide), h.2 12 (by decide)]; exact g6
  · rw [h.1 9 (by decide)]; exact g7
  · rw [h.1 10 (by decide)]; exact g8
  · rw [h.1 11 (by decide)]; exact g9
  · rw [h.1 13 (by decide)]; exact g10
  · rw [h.1 2 (by decide)]; exact g11

theorem gm_pe {R : Nat} {σ τ : St} {k : Nat} (hk : k ≤ 40) (e : τ.1 6 = nI k) (g : GM R σ) (h : K [2, 3, 4, 5, 7, 8, 9, 10, 11, 13] [1, 2, 3, 4, 5, 6, 7, 8, 9, 10, 11, 12, 13, 14, 15, 16, 17, 18, 19, 20, 21, 22, 23, 24, 25, 26, 27, 29] σ τ) : GM R τ := by
  obtain ⟨g1, g2, g3, g4, g5, g6, g7, g8, g9, g10, g11⟩ := g
  refine ⟨?_, ?_, ?_, ?_, ?_, ?_, ?_, ?_, ?_, ?_, ?_⟩
  · rw [h.1 3 (by decide)]; exact g1
  · rw [h.1 4 (by decide)]; exact g2
  · rw [h.1 5 (by decide), h.2 6 (by decide)]; exact g3
  · exact ⟨k, hk, e⟩
  · rw [h.1 7 (by decide)]; exact g5
  · rw [h.1 8 (by decide), h.2 12 (by decide)]; exact g6
  · rw [h.1 9 (by decide)]; exact g7
  · rw [h.1 10 (by decide)]; exact g8
  · rw [h.1 11 (by decide)]; exact g9
  · rw [h.1 13 (by decide)]; exact g10
  · rw [h.1 2 (by decide)]; exact g11

theorem gm_de {R : Nat} {σ τ : St} {k : Nat} (hk : k ≤ 60) (e : τ.1 7 = nI k) (g : GM R σ) (h : K [2, 3, 4, 5, 6, 8, 9, 10, 11, 13] [1, 2, 3, 4, 5, 6, 7, 11, 12, 13, 14, 15, 16, 17, 18, 19, 20, 21, 22, 23, 24, 25, 26, 27, 29] σ τ) : GM R τ := by
  obtain ⟨g1, g2, g3, g4, g5, g6, g7, g8, g9, g10, g11⟩ := g
  refine ⟨?_, ?_, ?_, ?_, ?_, ?_, ?_, ?_, ?_, ?_, ?_⟩
  · rw [h.1 3 (by decide)]; exact g1
  · rw [h.1 4 (by decide)]; exact g2
  · rw [h.1 5 (by decide), h.2 6 (by decide)]; exact g3
  · rw [h.1 6 (by decide)]; exact g4
  · exact ⟨k, hk, e⟩
  · rw [h.1 8 (by decide), h.2 12 (by decide)]; exact g6
  · rw [h.1 9 (by decide)]; exact g7
  · rw [h.1 10 (by decide)]; exact g8
  · rw [h.1 11 (by decide)]; exact g9
  · rw [h.1 13 (by decide)]; exact g10
  · rw [h.1 2 (by decide)]; exact g11

theorem gm_no {R : Nat} {σ τ : St} {n : Nat} {x : Int32} (hn : σ.1 8 = nI n) (hlt : n < 80) (e : τ.1 8 = nI (n + 1)) (e6 : τ.2.1 12 = upd (σ.2.1 12) n x) (hx : WT x) (g : GM R σ) (h : K [2, 3, 4, 5, 6, 7, 9, 10, 11, 13] [1, 2, 3, 4, 5, 6, 7, 8, 9, 10, 17, 18, 19, 20, 21, 22, 23, 24, 25, 26, 27, 29] σ τ) : GM R τ := by
  obtain ⟨g1, g2, g3, g4, g5, g6, g7, g8, g9, g10, g11⟩ := g
  refine ⟨?_, ?_, ?_, ?_, ?_, ?_, ?_, ?_, ?_, ?_, ?_⟩
  · rw [h.1 3 (by decide)]; exact g1
  · rw [h.1 4 (by decide)]; exact g2
  · rw [h.1 5 (by decide), h.2 6 (by decide)]; exact g3
  · rw [h.1 6 (by decide)]; exact g4
  · rw [h.1 7 (by decide)]; exact g5
  · obtain ⟨n9, h1, h2, h3⟩ := g6; have e9 : n9 = n := n_eq (by omega) (by omega) (h2.symm.trans hn); subst e9; refine ⟨n9 + 1, by omega, e, fun i hi => ?_⟩; rw [e6]; exact up_in (P := fun _ z => WT z) h3 hx hi
  · rw [h.1 9 (by decide)]; exact g7
  · rw [h.1 10 (by decide)]; exact g8
  · rw [h.1 11 (by decide)]; exact g9
  · rw [h.1 13 (by decide)]; exact g10
  · rw [h.1 2 (by decide)]; exact g11

theorem gm_ta {R : Nat} {σ τ : St} {k : Nat} (hk : k ≤ 60) (e : τ.1 9 = nI k) (g : GM R σ) (h : K [2, 3, 4, 5, 6, 7, 8, 10, 11, 13] [1, 2, 3, 4, 5, 6, 7, 8, 9, 10, 11, 12, 13, 14, 15, 16, 21, 22, 23, 24, 25, 26, 27, 29] σ τ) : GM R τ := by
  obtain ⟨g1, g2, g3, g4, g5, g6, g7, g8, g9, g10, g11⟩ := g
  refine ⟨?_, ?_, ?_, ?_, ?_, ?_, ?_, ?_, ?_, ?_, ?_⟩
  · rw [h.1 3 (by decide)]; exact g1
  · rw [h.1 4 (by decide)]; exact g2
  · rw [h.1 5 (by decide), h.2 6 (by decide)]; exact g3
  · rw [h.1 6 (by decide)]; exact g4
  · rw [h.1 7 (by decide)]; exact g5
  · rw [h.1 8 (by decide), h.2 12 (by decide)]; exact g6
  · exact ⟨k, hk, e⟩
  · rw [h.1 10 (by decide)]; exact g8
  · rw [h.1 11 (by decide)]; exact g9
  · rw [h.1 13 (by decide)]; exact g10
  · rw [h.1 2 (by decide)]; exact g11

theorem gm_re {R : Nat} {σ τ : St} {k : Nat} (hk : k ≤ R) (e : τ.1 10 = nI k) (g : GM R σ) (h : K [2, 3, 4, 5, 6, 7, 8, 9, 11, 13] [1, 2, 3, 4, 5, 6, 7, 8, 9, 10, 11, 12, 13, 14, 15, 16, 17, 18, 19, 20, 24, 25, 26, 27, 29] σ τ) : GM R τ := by
  obtain ⟨g1, g2, g3, g4, g5, g6, g7, g8, g9, g10, g11⟩ := g
  refine ⟨?_, ?_, ?_, ?_, ?_, ?_, ?_, ?_, ?_, ?_, ?_⟩
  · rw [h.1 3 (by decide)]; exact g1
  · rw [h.1 4 (by decide)]; exact g2
  · rw [h.1 5 (by decide), h.2 6 (by decide)]; exact g3
  · rw [h.1 6 (by decide)]; exact g4
  · rw [h.1 7 (by decide)]; exact g5
  · rw [h.1 8 (by decide), h.2 12 (by decide)]; exact g6
  · rw [h.1 9 (by decide)]; exact g7
  · exact ⟨k, hk, e⟩
  · rw [h.1 11 (by decide)]; exact g9
  · rw [h.1 13 (by decide)]; exact g10
  · rw [h.1 2 (by decide)]; exact g11

theorem gm_la {R : Nat} {σ τ : St} {k t : Nat} (hk : k ≤ 30) (e : τ.1 11 = nI k) (ht : t ≤ 400) (e2 : τ.1 13 = nI t) (g : GM R σ) (h : K [2, 3, 4, 5, 6, 7, 8, 9, 10] [1, 2, 3, 4, 5, 6, 7, 8, 9, 10, 11, 12, 13, 14, 15, 16, 17, 18, 19, 20, 21, 22, 23, 29] σ τ) : GM R τ := by
  obtain ⟨g1, g2, g3, g4, g5, g6, g7, g8, g9, g10, g11⟩ := g
  refine ⟨?_, ?_, ?_, ?_, ?_, ?_, ?_, ?_, ?_, ?_, ?_⟩
  · rw [h.1 3 (by decide)]; exact g1
  · rw [h.1 4 (by decide)]; exact g2
  · rw [h.1 5 (by decide), h.2 6 (by decide)]; exact g3
  · rw [h.1 6 (by decide)]; exact g4
  · rw [h.1 7 (by decide)]; exact g5
  · rw [h.1 8 (by decide), h.2 12 (by decide)]; exact g6
  · rw [h.1 9 (by decide)]; exact g7
  · rw [h.1 10 (by decide)]; exact g8
  · exact ⟨k, hk, e⟩
  · exact ⟨t, ht, e2⟩
  · rw [h.1 2 (by decide)]; exact g11

theorem gm_tp {R : Nat} {σ τ : St} {k : Nat} (hk : k ≤ 400) (e : τ.1 13 = nI k) (g : GM R σ) (h : K [2, 3, 4, 5, 6, 7, 8, 9, 10, 11] [1, 2, 3, 4, 5, 6, 7, 8, 9, 10, 11, 12, 13, 14, 15, 16, 17, 18, 19, 20, 21, 22, 23, 24, 25, 26, 27] σ τ) : GM R τ := by
  obtain ⟨g1, g2, g3, g4, g5, g6, g7, g8, g9, g10, g11⟩ := g
  refine ⟨?_, ?_, ?_, ?_, ?_, ?_, ?_, ?_, ?_, ?_, ?_⟩
  · rw [h.1 3 (by decide)]; exact g1
  · rw [h.1 4 (by decide)]; exact g2
  · rw [h.1 5 (by decide), h.2 6 (by decide)]; exact g3
  · rw [h.1 6 (by decide)]; exact g4
  · rw [h.1 7 (by decide)]; exact g5
  · rw [h.1 8 (by decide), h.2 12 (by decide)]; exact g6
  · rw [h.1 9 (by decide)]; exact g7
  · rw [h.1 10 (by decide)]; exact g8
  · rw [h.1 11 (by decide)]; exact g9
  · exact ⟨k, hk, e⟩
  · rw [h.1 2 (by decide)]; exact g11

theorem gm_nw {R : Nat} {σ τ : St} {k : Nat} (hk : k ≤ 200) (e : τ.1 2 = nI k) (g : GM R σ) (h : K [3, 4, 5, 6, 7, 8, 9, 10, 11, 13] [1, 2, 3, 4, 5, 6, 7, 8, 9, 10, 11, 12, 13, 14, 15, 16, 17, 18, 19, 20, 21, 22, 23, 24, 25, 26, 27, 29] σ τ) : GM R τ := by
  obtain ⟨g1, g2, g3, g4, g5, g6, g7, g8, g9, g10, g11⟩ := g
  refine ⟨?_, ?_, ?_, ?_, ?_, ?_, ?_, ?_, ?_, ?_, ?_⟩
  · rw [h.1 3 (by decide)]; exact g1
  · rw [h.1 4 (by decide)]; exact g2
  · rw [h.1 5 (by decide), h.2 6 (by decide)]; exact g3
  · rw [h.1 6 (by decide)]; exact g4
  · rw [h.1 7 (by decide)]; exact g5
  · rw [h.1 8 (by decide), h.2 12 (by decide)]; exact g6
  · rw [h.1 9 (by decide)]; exact g7
  · rw [h.1 10 (by decide)]; exact g8
  · rw [h.1 11 (by decide)]; exact g9
  · rw [h.1 13 (by decide)]; exact g10
  · exact ⟨k, hk, e⟩

theorem gm_sh {R : Nat} {σ τ : St}  (g : GM R σ) (h : K [2, 3, 4, 5, 6, 7, 8, 9, 10, 11, 13] [1, 2, 3, 4, 5, 6, 7, 8, 9, 10, 11, 12, 13, 14, 15, 17, 18, 19, 20, 21, 22, 23, 24, 25, 26, 27, 29] σ τ) : GM R τ := by
  obtain ⟨g1, g2, g3, g4, g5, g6, g7, g8, g9, g10, g11⟩ := g
  refine ⟨?_, ?_, ?_, ?_, ?_, ?_, ?_, ?_, ?_, ?_, ?_⟩
  · rw [h.1 3 (by decide)]; exact g1
  · rw [h.1 4 (by decide)]; exact g2
  · rw [h.1 5 (by decide), h.2 6 (by decide)]; exact g3
  · rw [h.1 6 (by decide)]; exact g4
  · rw [h.1 7 (by decide)]; exact g5
  · rw [h.1 8 (by decide), h.2 12 (by decide)]; exact g6
  · rw [h.1 9 (by decide)]; exact g7
  · rw [h.1 10 (by decide)]; exact g8
  · rw [h.1 11 (by decide)]; exact g9
  · rw [h.1 13 (by decide)]; exact g10
  · rw [h.1 2 (by decide)]; exact g11

set_option maxHeartbeats 4000000 in
set_option maxRecDepth 100000 in
theorem c_X12_go (l : Launch) (D : va_G) (cy : Nat → ClassId) (a : Nat → Nat) (σ : St) (x : Int32)  : CI l yX12_go cX12_go 2 (some .int) (rmOf 1 25) D cy (wM cy a) (AM a) [.ref (a 0), .int x] σ (fun r τ => (¬ (((1 : Int32) ≤ x ∧ x ≤ 50) ∧ σ.1 2 + x ≤ 200) ∧ r = -1 ∧ K mF mA σ τ) ∨ ((((1 : Int32) ≤ x ∧ x ≤ 50) ∧ σ.1 2 + x ≤ 200) ∧ r = σ.1 2 + x ∧ τ.1 2 = σ.1 2 + x ∧ K [3, 4, 5, 6, 7, 8, 9, 10, 11, 13] [1, 2, 3, 4, 5, 6, 7, 8, 9, 10, 11, 12, 13, 14, 15, 16, 17, 18, 19, 20, 21, 22, 23, 24, 25, 26, 27, 29] σ τ)) := by
  refine c_of (lv := [(0, .ref (a 0)), (1, .int x)]) rfl (Nat.le_of_ble_eq_true rfl) rfl ?_
  intro p e s m args below meth c ls E h hr hk hl
  have hx := E.1
  have hb := E.2.1
  refine lv_aload_n hx hb dX12_go_0 rfl (lv_at hl 0 rfl) ?_
  refine lv_iconst (v := 0) hx hb dX12_go_1 (by decide) ?_
  refine r_put E h 0 (ty := .int) (eM_0 cy a σ) rfl fw_X12 tyX12_ok nmX12 (by decide) fl_X12_131 rfl (by decide +kernel) rfl rfl (Nat.le_of_ble_eq_true rfl) (sM_0 cy a σ 0) dX12_go_2 (fun H locs h => ?_)
  refine lv_iload_n hx hb dX12_go_5 rfl (lv_at hl 1 rfl) ?_
  refine lv_i2l hx hb dX12_go_6 rfl ?_
  refine lv_lconst (v := 1) hx hb dX12_go_7 (by decide) ?_
  refine lv_ldc2 (v := 50) hx hb E.2.2.2.1 (E.2.2.2.2.1 _ kl_X12_208) dX12_go_8 ?_
  refine k_i h (q_runS (As := [.long x.toInt64, .long 1, .long 50]) (rest := []) E h (c_X12_in l D cy a (fF σ 0 0) x.toInt64 1 50) co_X12_in ml_X12_139 st_X12_in in_X12 rfl ok_X12_in rfl ⟨by decide, by decide⟩ hl.1 rfl (Nat.le_of_ble_eq_true rfl) dX12_go_11 ⟨Nat.zero_le _, Nat.zero_le _⟩) (wM_fst cy a) (fun r11 τ11 H locs p11 h => ?_)
  rw [p11.1] at h
  have w11 : WI x 1 50 r11 := p11.2.i rfl rfl
  refine lv_if_eq (tgt := 29) hx hb dX12_go_14 (by decide) (fun c14 => ?_) (fun c14 => ?_)
  · refine lv_aload_n hx hb dX12_go_29 rfl (lv_at hl 0 rfl) ?_
    refine lv_iconst (v := -1) hx hb dX12_go_30 (by decide) ?_
    refine k_i h (q_runV (As := [.int (-1)]) (rest := []) E h (c_X12_told l D cy a (fF σ 0 0) (-1)) co_X12_told ml_X12_154 im_X12_told se_X12_told in_X12 (eM_0 cy a (fF σ 0 0)) rfl ok_X12_told rfl ⟨by decide, by decide⟩ hl.1 rfl (Nat.le_of_ble_eq_true rfl) dX12_go_31 ⟨Nat.zero_le _, Nat.zero_le _⟩) (wM_fst cy a) (fun r31 τ31 H locs p31 h => ?_)
    exact t_i E h hr hk (Or.inl ⟨fun q => w11.f c14 q.1, p31.1, (by obtain ⟨v9, e⟩ := p31.2; rw [e]; exact (K.rf.F 0 _ (by decide)).F 1 _ (by decide))⟩) dX12_go_34
  · refine lv_aload_n hx hb dX12_go_17 rfl (lv_at hl 0 rfl) ?_
    refine r_get E h 2 (v := .int (σ.1 2)) (eM_0 cy a (fF σ 0 0)) rfl fw_X12 (by decide) fl_X12_191 rfl dX12_go_18 ?_
    refine lv_iload_n hx hb dX12_go_21 rfl (lv_at hl 1 rfl) ?_
    refine lv_iadd hx hb dX12_go_22 ?_
    refine lv_sipush (v := 200) hx hb dX12_go_23 (by decide) ?_
    refine lv_icmp_le (tgt := 35) hx hb dX12_go_26 (by decide) (fun c26 => ?_) (fun c26 => ?_)
    · refine lv_aload_n hx hb dX12_go_35 rfl (lv_at hl 0 rfl) ?_
      refine lv_dup hx hb dX12_go_36 rfl ?_
      refine r_get E h 2 (v := .int (σ.1 2)) (eM_0 cy a (fF σ 0 0)) rfl fw_X12 (by decide) fl_X12_191 rfl dX12_go_37 ?_
      refine lv_iload_n hx hb dX12_go_40 rfl (lv_at hl 1 rfl) ?_
      refine lv_iadd hx hb dX12_go_41 ?_
      refine r_put E h 2 (ty := .int) (eM_0 cy a (fF σ 0 0)) rfl fw_X12 tyX12_ok nmX12 (by decide) fl_X12_191 rfl (by decide +kernel) rfl rfl (Nat.le_of_ble_eq_true rfl) (sM_2 cy a (fF σ 0 0) ((σ.1 2) + x)) dX12_go_42 (fun H locs h => ?_)
      refine lv_aload_n hx hb dX12_go_45 rfl (lv_at hl 0 rfl) ?_
      refine lv_aload_n hx hb dX12_go_46 rfl (lv_at hl 0 rfl) ?_
      refine r_get E h 2 (v := .int ((σ.1 2) + x)) (eM_0 cy a (fF (fF σ 0 0) 2 ((σ.1 2) + x))) rfl fw_X12 (by decide) fl_X12_191 rfl dX12_go_47 ?_
      refine k_i h (q_runV (As := [.int ((σ.1 2) + x)]) (rest := []) E h (c_X12_told l D cy a (fF (fF σ 0 0) 2 ((σ.1 2) + x)) ((σ.1 2) + x)) co_X12_told ml_X12_154 im_X12_told se_X12_told in_X12 (eM_0 cy a (fF (fF σ 0 0) 2 ((σ.1 2) + x))) rfl ok_X12_told rfl ⟨by decide, by decide⟩ hl.1 rfl (Nat.le_of_ble_eq_true rfl) dX12_go_50 ⟨Nat.zero_le _, Nat.zero_le _⟩) (wM_fst cy a) (fun r50 τ50 H locs p50 h => ?_)
      exact t_i E h hr hk (Or.inr ⟨⟨w11.t c14, c26⟩, p50.1, (by obtain ⟨v9, e⟩ := p50.2; rw [e]; rfl), (by obtain ⟨v9, e⟩ := p50.2; rw [e]; exact ((K.rf.F 0 _ (by decide)).F 2 _ (by decide)).F 1 _ (by decide))⟩) dX12_go_53
    · refine lv_aload_n hx hb dX12_go_29 rfl (lv_at hl 0 rfl) ?_
      refine lv_iconst (v := -1) hx hb dX12_go_30 (by decide) ?_
      refine k_i h (q_runV (As := [.int (-1)]) (rest := []) E h (c_X12_told l D cy a (fF σ 0 0) (-1)) co_X12_told ml_X12_154 im_X12_told se_X12_told in_X12 (eM_0 cy a (fF σ 0 0)) rfl ok_X12_told rfl ⟨by decide, by decide⟩ hl.1 rfl (Nat.le_of_ble_eq_true rfl) dX12_go_31 ⟨Nat.zero_le _, Nat.zero_le _⟩) (wM_fst cy a) (fun r31 τ31 H locs p31 h => ?_)
      exact t_i E h hr hk (Or.inl ⟨fun q => c26 q.2, p31.1, (by obtain ⟨v9, e⟩ := p31.2; rw [e]; exact (K.rf.F 0 _ (by decide)).F 1 _ (by decide))⟩) dX12_go_34

set_option maxHeartbeats 4000000 in
set_option maxRecDepth 100000 in
theorem c_X12_spring (l : Launch) (D : va_G) (cy : Nat → ClassId) (a : Nat → Nat) (σ : St) (x y w : Int32) (q n : Nat) (hq : σ.1 3 = nI q) (hq4 : q ≤ 4) (hn : σ.1 4 = nI n) (hn6 : n ≤ 60) : CI l yX12_spring cX12_spring 5 (some .int) (rmOf 2 45) D cy (wM cy a) (AM a) [.ref (a 0), .int x, .int y, .int w] σ (fun r τ => (¬ (((0 : Int32) ≤ y ∧ y ≤ 200) ∧ ((0 : Int32) ≤ w ∧ w ≤ 100000)) ∧ r = -1 ∧ K mF mA σ τ) ∨ ((((0 : Int32) ≤ y ∧ y ≤ 200) ∧ ((0 : Int32) ≤ w ∧ w ≤ 100000)) ∧ ¬ ((0 : Int32) ≤ x ∧ x ≤ nI q - 1) ∧ r = -2 ∧ K mF mA σ τ) ∨ ((((0 : Int32) ≤ y ∧ y ≤ 200) ∧ ((0 : Int32) ≤ w ∧ w ≤ 100000)) ∧ ((0 : Int32) ≤ x ∧ x ≤ nI q - 1) ∧ (∃ t, t ≤ n ∧ (∀ i, i < t → ¬ (σ.2.1 2 i = x ∧ σ.2.1 3 i = y)) ∧ (t < n → (σ.2.1 2 t = x ∧ σ.2.1 3 t = y)) ∧ ((t = 60 ∧ r = -5 ∧ K mF mA σ τ) ∨ (t < 60 ∧ r = 0 ∧ τ.1 4 = nI (if t = n then n + 1 else n) ∧ τ.2.1 2 = upd (σ.2.1 2) t x ∧ τ.2.1 3 = upd (σ.2.1 3) t y ∧ K [2, 3, 5, 6, 7, 8, 9, 10, 11, 13] [1, 5, 6, 7, 8, 9, 10, 11, 12, 13, 14, 15, 16, 17, 18, 19, 20, 21, 22, 23, 24, 25, 26, 27, 29] σ τ))))) := by
  refine c_of (lv := [(0, .ref (a 0)), (1, .int x), (2, .int y), (3, .int w)]) rfl (Nat.le_of_ble_eq_true rfl) rfl ?_
  intro p e s m args below meth c ls E h hr hk hl
  have hx := E.1
  have hb := E.2.1
  refine lv_aload_n hx hb dX12_spring_0 rfl (lv_at hl 0 rfl) ?_
  refine lv_iconst (v := 0) hx hb dX12_spring_1 (by decide) ?_
  refine r_put E h 0 (ty := .int) (eM_0 cy a σ) rfl fw_X12 tyX12_ok nmX12 (by decide) fl_X12_131 rfl (by decide +kernel) rfl rfl (Nat.le_of_ble_eq_true rfl) (sM_0 cy a σ 0) dX12_spring_2 (fun H locs h => ?_)
  refine lv_iload_n hx hb dX12_spring_5 rfl (lv_at hl 2 rfl) ?_
  refine k_i h (q_runS (As := [.int y]) (rest := []) E h (c_X12_isYear l D cy a (fF σ 0 0) y) co_X12_isYear ml_X12_161 st_X12_isYear in_X12 rfl ok_X12_isYear rfl ⟨by decide, by decide⟩ hl.1 rfl (Nat.le_of_ble_eq_true rfl) dX12_spring_6 ⟨Nat.zero_le _, Nat.zero_le _⟩) (wM_fst cy a) (fun r6 τ6 H locs p6 h => ?_)
  rw [p6.1] at h
  refine lv_if_eq (tgt := 24) hx hb dX12_spring_9 (by decide) (fun c9 => ?_) (fun c9 => ?_)
  · refine lv_aload_n hx hb dX12_spring_24 rfl (lv_at hl 0 rfl) ?_
    refine lv_iconst (v := -1) hx hb dX12_spring_25 (by decide) ?_
    refine k_i h (q_runV (As := [.int (-1)]) (rest := []) E h (c_X12_told l D cy a (fF σ 0 0) (-1)) co_X12_told ml_X12_154 im_X12_told se_X12_told in_X12 (eM_0 cy a (fF σ 0 0)) rfl ok_X12_told rfl ⟨by decide, by decide⟩ hl.1 rfl (Nat.le_of_ble_eq_true rfl) dX12_spring_26 ⟨Nat.zero_le _, Nat.zero_le _⟩) (wM_fst cy a) (fun r26 τ26 H locs p26 h => ?_)
    exact t_i E h hr hk (Or.inl ⟨fun q => p6.2.f c9 q.1, p26.1, (by obtain ⟨v9, e⟩ := p26.2; rw [e]; exact (K.rf.F 0 _ (by decide)).F 1 _ (by decide))⟩) dX12_spring_29
  · refine lv_iload_n hx hb dX12_spring_12 rfl (lv_at hl 3 rfl) ?_
    refine lv_i2l hx hb dX12_spring_13 rfl ?_
    refine lv_lconst (v := 0) hx hb dX12_spring_14 (by decide) ?_
    refine lv_ldc2 (v := 100000) hx hb E.2.2.2.1 (E.2.2.2.2.1 _ kl_X12_152) dX12_spring_15 ?_
    refine k_i h (q_runS (As := [.long w.toInt64, .long 0, .long 100000]) (rest := []) E h (c_X12_in l D cy a (fF σ 0 0) w.toInt64 0 100000) co_X12_in ml_X12_139 st_X12_in in_X12 rfl ok_X12_in rfl ⟨by decide, by decide⟩ hl.1 rfl (Nat.le_of_ble_eq_true rfl) dX12_spring_18 ⟨Nat.zero_le _, Nat.zero_le _⟩) (wM_fst cy a) (fun r18 τ18 H locs p18 h => ?_)
    rw [p18.1] at h
    have w18 : WI w 0 100000 r18 := p18.2.i rfl rfl
    refine lv_if_ne (tgt := 30) hx hb dX12_spring_21 (by decide) (fun c21 => ?_) (fun c21 => ?_)
    · refine lv_iload_n hx hb dX12_spring_30 rfl (lv_at hl 1 rfl) ?_
      refine lv_i2l hx hb dX12_spring_31 rfl ?_
      refine lv_lconst (v := 0) hx hb dX12_spring_32 (by decide) ?_
      refine lv_aload_n hx hb dX12_spring_33 rfl (lv_at hl 0 rfl) ?_
      refine r_get E h 3 (v := .int (nI q)) (eM_0 cy a (fF σ 0 0)) rfl fw_X12 (by decide) fl_X12_158 (congrArg (fun z => some (Value.int z)) hq) dX12_spring_34 ?_
      refine lv_i2l hx hb dX12_spring_37 rfl ?_
      refine lv_lconst (v := 1) hx hb dX12_spring_38 (by decide) ?_
      refine lv_lsub hx hb dX12_spring_39 ?_
      refine k_i h (q_runS (As := [.long x.toInt64, .long 0, .long (((nI q).toInt64) - 1)]) (rest := []) E h (c_X12_in l D cy a (fF σ 0 0) x.toInt64 0 (((nI q).toInt64) - 1)) co_X12_in ml_X12_139 st_X12_in in_X12 rfl ok_X12_in rfl ⟨by decide, by decide⟩ hl.1 rfl (Nat.le_of_ble_eq_true rfl) dX12_spring_40 ⟨Nat.zero_le _, Nat.zero_le _⟩) (wM_fst cy a) (fun r40 τ40 H locs p40 h => ?_)
      rw [p40.1] at h
      have w40 : WI x 0 (nI q - 1) r40 := p40.2.i rfl (pred64 (by omega))
      refine lv_if_ne (tgt := 53) hx hb dX12_spring_43 (by decide) (fun c43 => ?_) (fun c43 => ?_)
      · refine lv_iconst (v := 0) hx hb dX12_spring_53 (by decide) ?_
        refine lv_istore (lv' := [(4, .int 0), (0, .ref (a 0)), (1, .int x), (2, .int y), (3, .int w)]) hx hb dX12_spring_54 hl (by decide) rfl (fun ls hl => ?_)
        have lp56 : ∀ (f : Nat) (k : Nat) (H : Heap) (locs : List Loc) (ls : Array Slot), (k ≤ n ∧ ∀ t, t < k → ¬ (σ.2.1 2 t = x ∧ σ.2.1 3 t = y)) → (n - k) < f → HW D (AM a) s (wM cy a (fF σ 0 0)) H locs → lv_has ls 5 [(4, .int (nI k)), (0, .ref (a 0)), (1, .int x), (2, .int y), (3, .int w)] → W p l e (rmOf 2 45) s m args below meth c H locs 0 0 (MQ below (va_Qi (fun r τ => (¬ (((0 : Int32) ≤ y ∧ y ≤ 200) ∧ ((0 : Int32) ≤ w ∧ w ≤ 100000)) ∧ r = -1 ∧ K mF mA σ τ) ∨ ((((0 : Int32) ≤ y ∧ y ≤ 200) ∧ ((0 : Int32) ≤ w ∧ w ≤ 100000)) ∧ ¬ ((0 : Int32) ≤ x ∧ x ≤ nI q - 1) ∧ r = -2 ∧ K mF mA σ τ) ∨ ((((0 : Int32) ≤ y ∧ y ≤ 200) ∧ ((0 : Int32) ≤ w ∧ w ≤ 100000)) ∧ ((0 : Int32) ≤ x ∧ x ≤ nI q - 1) ∧ (∃ t, t ≤ n ∧ (∀ i, i < t → ¬ (σ.2.1 2 i = x ∧ σ.2.1 3 i = y)) ∧ (t < n → (σ.2.1 2 t = x ∧ σ.2.1 3 t = y)) ∧ ((t = 60 ∧ r = -5 ∧ K mF mA σ τ) ∨ (t < 60 ∧ r = 0 ∧ τ.1 4 = nI (if t = n then n + 1 else n) ∧ τ.2.1 2 = upd (σ.2.1 2) t x ∧ τ.2.1 3 = upd (σ.2.1 3) t y ∧ K [2, 3, 5, 6, 7, 8, 9, 10, 11, 13] [1, 5, 6, 7, 8, 9, 10, 11, 12, 13, 14, 15, 16, 17, 18, 19, 20, 21, 22, 23, 24, 25, 26, 27, 29] σ τ))))) (fun u t => va_P D vwCl (wM cy a u) t.heap) (AM a)) args s 0 0 (AM a)) (F0 m 56 ls []) := by
          intro f
          induction f with
          | zero => intro k H locs ls _ hf; exact absurd hf (Nat.not_lt_zero _)
          | succ f ih56 =>
            intro k H locs ls hi56 hf56 h hl
            refine lv_iload hx hb dX12_spring_56 (lv_at hl 0 rfl) ?_
            refine lv_aload_n hx hb dX12_spring_58 rfl (lv_at hl 1 rfl) ?_
            refine r_get E h 5 (v := .int (nI n)) (eM_0 cy a (fF σ 0 0)) rfl fw_X12 (by decide) fl_X12_165 (congrArg (fun z => some (Value.int z)) hn) dX12_spring_59 ?_
            refine lv_icmp_ge (tgt := 93) hx hb dX12_spring_62 (by decide) (fun c62 => ?_) (fun c62 => ?_)
            · have c62 : n ≤ k := (nI_leI (a := n) (b := k) (by omega) (by omega)).mp c62
              refine lv_iload hx hb dX12_spring_93 (lv_at hl 0 rfl) ?_
              refine lv_bipush (v := 60) hx hb dX12_spring_95 (by decide) ?_
              refine lv_icmp_ne (tgt := 107) hx hb dX12_spring_97 (by decide) (fun c97 => ?_) (fun c97 => ?_)
              · have c97 : k ≠ 60 := n_ne (k := 60) c97
                refine lv_aload_n hx hb dX12_spring_107 rfl (lv_at hl 1 rfl) ?_
                refine r_get E h 6 (v := .ref (a 2)) (eM_0 cy a (fF σ 0 0)) rfl fw_X12 (by decide) fl_X12_13 rfl dX12_spring_108 ?_
                refine lv_iload hx hb dX12_spring_111 (lv_at hl 0 rfl) ?_
                refine lv_iload_n hx hb dX12_spring_113 rfl (lv_at hl 2 rfl) ?_
                refine r_iastN E h (f := σ.2.1 2) (eM_2 cy a (fF σ 0 0)) (j := k) (by omega) (by decide) (qM_2 cy a (fF σ 0 0) (upd (σ.2.1 2) k x)) dX12_spring_114 (fun H locs h => ?_)
                refine lv_aload_n hx hb dX12_spring_115 rfl (lv_at hl 1 rfl) ?_
                refine r_get E h 7 (v := .ref (a 3)) (eM_0 cy a (fR (fF σ 0 0) 2 (upd (σ.2.1 2) k x))) rfl fw_X12 (by decide) fl_X12_16 rfl dX12_spring_116 ?_
                refine lv_iload hx hb dX12_spring_119 (lv_at hl 0 rfl) ?_
                refine lv_iload_n hx hb dX12_spring_121 rfl (lv_at hl 3 rfl) ?_
                refine r_iastN E h (f := σ.2.1 3) (eM_3 cy a (fR (fF σ 0 0) 2 (upd (σ.2.1 2) k x))) (j := k) (by omega) (by decide) (qM_3 cy a (fR (fF σ 0 0) 2 (upd (σ.2.1 2) k x)) (upd (σ.2.1 3) k y)) dX12_spring_122 (fun H locs h => ?_)
                refine lv_aload_n hx hb dX12_spring_123 rfl (lv_at hl 1 rfl) ?_
                refine r_get E h 8 (v := .ref (a 4)) (eM_0 cy a (fR (fR (fF σ 0 0) 2 (upd (σ.2.1 2) k x)) 3 (upd (σ.2.1 3) k y))) rfl fw_X12 (by decide) fl_X12_19 rfl dX12_spring_124 ?_
                refine lv_iload hx hb dX12_spring_127 (lv_at hl 0 rfl) ?_
                refine lv_iload_n hx hb dX12_spring_129 rfl (lv_at hl 4 rfl) ?_
                refine r_iastN E h (f := σ.2.1 4) (eM_4 cy a (fR (fR (fF σ 0 0) 2 (upd (σ.2.1 2) k x)) 3 (upd (σ.2.1 3) k y))) (j := k) (by omega) (by decide) (qM_4 cy a (fR (fR (fF σ 0 0) 2 (upd (σ.2.1 2) k x)) 3 (upd (σ.2.1 3) k y)) (upd (σ.2.1 4) k w)) dX12_spring_130 (fun H locs h => ?_)
                refine lv_aload_n hx hb dX12_spring_131 rfl (lv_at hl 1 rfl) ?_
                refine lv_dup hx hb dX12_spring_132 rfl ?_
                refine r_get E h 5 (v := .int (nI n)) (eM_0 cy a (fR (fR (fR (fF σ 0 0) 2 (upd (σ.2.1 2) k x)) 3 (upd (σ.2.1 3) k y)) 4 (upd (σ.2.1 4) k w))) rfl fw_X12 (by decide) fl_X12_165 (congrArg (fun z => some (Value.int z)) hn) dX12_spring_133 ?_
                refine lv_iload hx hb dX12_spring_136 (lv_at hl 0 rfl) ?_
                refine lv_aload_n hx hb dX12_spring_138 rfl (lv_at hl 1 rfl) ?_
                refine r_get E h 5 (v := .int (nI n)) (eM_0 cy a (fR (fR (fR (fF σ 0 0) 2 (upd (σ.2.1 2) k x)) 3 (upd (σ.2.1 3) k y)) 4 (upd (σ.2.1 4) k w))) rfl fw_X12 (by decide) fl_X12_165 (congrArg (fun z => some (Value.int z)) hn) dX12_spring_139 ?_
                refine lv_icmp_ne (tgt := 149) hx hb dX12_spring_142 (by decide) (fun c142 => ?_) (fun c142 => ?_)
                · have c142 : ¬ k = n := n_ne c142
                  refine lv_iconst (v := 0) hx hb dX12_spring_149 (by decide) ?_
                  refine n_add (j := n) (k := 0) hx hb dX12_spring_150 ?_
                  refine r_put E h 5 (ty := .int) (eM_0 cy a (fR (fR (fR (fF σ 0 0) 2 (upd (σ.2.1 2) k x)) 3 (upd (σ.2.1 3) k y)) 4 (upd (σ.2.1 4) k w))) rfl fw_X12 tyX12_ok nmX12 (by decide) fl_X12_165 rfl (by decide +kernel) rfl rfl (Nat.le_of_ble_eq_true rfl) (sM_4 cy a (fR (fR (fR (fF σ 0 0) 2 (upd (σ.2.1 2) k x)) 3 (upd (σ.2.1 3) k y)) 4 (upd (σ.2.1 4) k w)) (nI (n + 0))) dX12_spring_151 (fun H locs h => ?_)
                  refine lv_aload_n hx hb dX12_spring_154 rfl (lv_at hl 1 rfl) ?_
                  refine lv_iconst (v := 0) hx hb dX12_spring_155 (by decide) ?_
                  refine k_i h (q_runV (As := [.int 0]) (rest := []) E h (c_X12_told l D cy a (fF (fR (fR (fR (fF σ 0 0) 2 (upd (σ.2.1 2) k x)) 3 (upd (σ.2.1 3) k y)) 4 (upd (σ.2.1 4) k w)) 4 (nI (n + 0))) 0) co_X12_told ml_X12_154 im_X12_told se_X12_told in_X12 (eM_0 cy a (fF (fR (fR (fR (fF σ 0 0) 2 (upd (σ.2.1 2) k x)) 3 (upd (σ.2.1 3) k y)) 4 (upd (σ.2.1 4) k w)) 4 (nI (n + 0)))) rfl ok_X12_told rfl ⟨by decide, by decide⟩ hl.1 rfl (Nat.le_of_ble_eq_true rfl) dX12_spring_156 ⟨Nat.zero_le _, Nat.zero_le _⟩) (wM_fst cy a) (fun r156 τ156 H locs p156 h => ?_)
                  exact t_i E h hr hk (Or.inr (Or.inr ⟨⟨p6.2.t c9, w18.t c21⟩, w40.t c43, k, by omega, hi56.2, fun q9 => absurd q9 (by omega), Or.inr ⟨by omega, p156.1, (by obtain ⟨v9, e⟩ := p156.2; rw [e, if_neg c142]; rfl), (by obtain ⟨v9, e⟩ := p156.2; rw [e]; rfl), (by obtain ⟨v9, e⟩ := p156.2; rw [e]; rfl), (by obtain ⟨v9, e⟩ := p156.2; rw [e]; exact ((((((K.rf.F 0 _ (by decide))).R 2 _ (by decide)).R 3 _ (by decide)).R 4 _ (by decide)).F 4 _ (by decide)).F 1 _ (by decide))⟩⟩)) dX12_spring_159
                · have c142 : k = n := n_eq (by omega) (by omega) c142
                  refine lv_iconst (v := 1) hx hb dX12_spring_145 (by decide) ?_
                  refine lv_goto (tgt := 150) hx hb dX12_spring_146 (by decide) ?_
                  refine n_add (j := n) (k := 1) hx hb dX12_spring_150 ?_
                  refine r_put E h 5 (ty := .int) (eM_0 cy a (fR (fR (fR (fF σ 0 0) 2 (upd (σ.2.1 2) k x)) 3 (upd (σ.2.1 3) k y)) 4 (upd (σ.2.1 4) k w))) rfl fw_X12 tyX12_ok nmX12 (by decide) fl_X12_165 rfl (by decide +kernel) rfl rfl (Nat.le_of_ble_eq_true rfl) (sM_4 cy a (fR (fR (fR (fF σ 0 0) 2 (upd (σ.2.1 2) k x)) 3 (upd (σ.2.1 3) k y)) 4 (upd (σ.2.1 4) k w)) (nI (n + 1))) dX12_spring_151 (fun H locs h => ?_)
                  refine lv_aload_n hx hb dX12_spring_154 rfl (lv_at hl 1 rfl) ?_
                  refine lv_iconst (v := 0) hx hb dX12_spring_155 (by decide) ?_
                  refine k_i h (q_runV (As := [.int 0]) (rest := []) E h (c_X12_told l D cy a (fF (fR (fR (fR (fF σ 0 0) 2 (upd (σ.2.1 2) k x)) 3 (upd (σ.2.1 3) k y)) 4 (upd (σ.2.1 4) k w)) 4 (nI (n + 1))) 0) co_X12_told ml_X12_154 im_X12_told se_X12_told in_X12 (eM_0 cy a (fF (fR (fR (fR (fF σ 0 0) 2 (upd (σ.2.1 2) k x)) 3 (upd (σ.2.1 3) k y)) 4 (upd (σ.2.1 4) k w)) 4 (nI (n + 1)))) rfl ok_X12_told rfl ⟨by decide, by decide⟩ hl.1 rfl (Nat.le_of_ble_eq_true rfl) dX12_spring_156 ⟨Nat.zero_le _, Nat.zero_le _⟩) (wM_fst cy a) (fun r156 τ156 H locs p156 h => ?_)
                  exact t_i E h hr hk (Or.inr (Or.inr ⟨⟨p6.2.t c9, w18.t c21⟩, w40.t c43, k, by omega, hi56.2, fun q9 => absurd q9 (by omega), Or.inr ⟨by omega, p156.1, (by obtain ⟨v9, e⟩ := p156.2; rw [e, if_pos c142]; rfl), (by obtain ⟨v9, e⟩ := p156.2; rw [e]; rfl), (by obtain ⟨v9, e⟩ := p156.2; rw [e]; rfl), (by obtain ⟨v9, e⟩ := p156.2; rw [e]; exact ((((((K.rf.F 0 _ (by decide))).R 2 _ (by decide)).R 3 _ (by decide)).R 4 _ (by decide)).F 4 _ (by decide)).F 1 _ (by decide))⟩⟩)) dX12_spring_159
              · have c97 : k = 60 := n_eq (k := 60) (by omega) (by decide) c97
                refine lv_aload_n hx hb dX12_spring_100 rfl (lv_at hl 1 rfl) ?_
                refine lv_bipush (v := -5) hx hb dX12_spring_101 (by decide) ?_
                refine k_i h (q_runV (As := [.int (-5)]) (rest := []) E h (c_X12_told l D cy a (fF σ 0 0) (-5)) co_X12_told ml_X12_154 im_X12_told se_X12_told in_X12 (eM_0 cy a (fF σ 0 0)) rfl ok_X12_told rfl ⟨by decide, by decide⟩ hl.1 rfl (Nat.le_of_ble_eq_true rfl) dX12_spring_103 ⟨Nat.zero_le _, Nat.zero_le _⟩) (wM_fst cy a) (fun r103 τ103 H locs p103 h => ?_)
                exact t_i E h hr hk (Or.inr (Or.inr ⟨⟨p6.2.t c9, w18.t c21⟩, w40.t c43, k, by omega, hi56.2, fun q9 => absurd q9 (by omega), Or.inl ⟨c97, p103.1, (by obtain ⟨v9, e⟩ := p103.2; rw [e]; exact (K.rf.F 0 _ (by decide)).F 1 _ (by decide))⟩⟩)) dX12_spring_106
            · have c62 : k < n := Nat.lt_of_not_le fun q9 => c62 ((nI_leI (a := n) (b := k) (by omega) (by omega)).mpr q9)
              refine lv_aload_n hx hb dX12_spring_65 rfl (lv_at hl 1 rfl) ?_
              refine r_get E h 6 (v := .ref (a 2)) (eM_0 cy a (fF σ 0 0)) rfl fw_X12 (by decide) fl_X12_13 rfl dX12_spring_66 ?_
              refine lv_iload hx hb dX12_spring_69 (lv_at hl 0 rfl) ?_
              refine r_ialdN E h (f := σ.2.1 2) (eM_2 cy a (fF σ 0 0)) (j := k) (by omega) (by decide) (v := σ.2.1 2 k) rfl dX12_spring_71 ?_
              refine lv_iload_n hx hb dX12_spring_72 rfl (lv_at hl 2 rfl) ?_
              refine lv_icmp_ne (tgt := 87) hx hb dX12_spring_73 (by decide) (fun c73 => ?_) (fun c73 => ?_)
              · refine lv_iinc (v := nI (k + 1)) (lv' := [(4, .int (nI (k + 1))), (0, .ref (a 0)), (1, .int x), (2, .int y), (3, .int w)]) hx hb dX12_spring_87 hl (k := 0) rfl (nI_succ k).symm (by decide) rfl (fun ls hl => ?_)
                refine lv_goto (tgt := 56) hx hb dX12_spring_90 (by decide) ?_
                exact ih56 (k + 1) _ _ _ ⟨by omega, lt_s hi56.2 (fun q9 => c73 q9.1)⟩ (by omega) h (lv_sub hl [0, 1, 2, 3, 4] rfl)
              · refine lv_aload_n hx hb dX12_spring_76 rfl (lv_at hl 1 rfl) ?_
                refine r_get E h 7 (v := .ref (a 3)) (eM_0 cy a (fF σ 0 0)) rfl fw_X12 (by decide) fl_X12_16 rfl dX12_spring_77 ?_
                refine lv_iload hx hb dX12_spring_80 (lv_at hl 0 rfl) ?_
                refine r_ialdN E h (f := σ.2.1 3) (eM_3 cy a (fF σ 0 0)) (j := k) (by omega) (by decide) (v := σ.2.1 3 k) rfl dX12_spring_82 ?_
                refine lv_iload_n hx hb dX12_spring_83 rfl (lv_at hl 3 rfl) ?_
                refine lv_icmp_eq (tgt := 93) hx hb dX12_spring_84 (by decide) (fun c84 => ?_) (fun c84 => ?_)
                · refine lv_iload hx hb dX12_spring_93 (lv_at hl 0 rfl) ?_
                  refine lv_bipush (v := 60) hx hb dX12_spring_95 (by decide) ?_
                  refine lv_icmp_ne (tgt := 107) hx hb dX12_spring_97 (by decide) (fun c97 => ?_) (fun c97 => ?_)
                  · have c97 : k ≠ 60 := n_ne (k := 60) c97
                    refine lv_aload_n hx hb dX12_spring_107 rfl (lv_at hl 1 rfl) ?_
                    refine r_get E h 6 (v := .ref (a 2)) (eM_0 cy a (fF σ 0 0)) rfl fw_X12 (by decide) fl_X12_13 rfl dX12_spring_108 ?_
                    refine lv_iload hx hb dX12_spring_111 (lv_at hl 0 rfl) ?_
                    refine lv_iload_n hx hb dX12_spring_113 rfl (lv_at hl 2 rfl) ?_
                    refine r_iastN E h (f := σ.2.1 2) (eM_2 cy a (fF σ 0 0)) (j := k) (by omega) (by decide) (qM_2 cy a (fF σ 0 0) (upd (σ.2.1 2) k x)) dX12_spring_114 (fun H locs h => ?_)
                    refine lv_aload_n hx hb dX12_spring_115 rfl (lv_at hl 1 rfl) ?_
                    refine r_get E h 7 (v := .ref (a 3)) (eM_0 cy a (fR (fF σ 0 0) 2 (upd (σ.2.1 2) k x))) rfl fw_X12 (by decide) fl_X12_16 rfl dX12_spring_116 ?_
                    refine lv_iload hx hb dX12_spring_119 (lv_at hl 0 rfl) ?_
                    refine lv_iload_n hx hb dX12_spring_121 rfl (lv_at hl 3 rfl) ?_
                    refine r_iastN E h (f := σ.2.1 3) (eM_3 cy a (fR (fF σ 0 0) 2 (upd (σ.2.1 2) k x))) (j := k) (by omega) (by decide) (qM_3 cy a (fR (fF σ 0 0) 2 (upd (σ.2.1 2) k x)) (upd (σ.2.1 3) k y)) dX12_spring_122 (fun H locs h => ?_)
                    refine lv_aload_n hx hb dX12_spring_123 rfl (lv_at hl 1 rfl) ?_
                    refine r_get E h 8 (v := .ref (a 4)) (eM_0 cy a (fR (fR (fF σ 0 0) 2 (upd (σ.2.1 2) k x)) 3 (upd (σ.2.1 3) k y))) rfl fw_X12 (by decide) fl_X12_19 rfl dX12_spring_124 ?_
                    refine lv_iload hx hb dX12_spring_127 (lv_at hl 0 rfl) ?_
                    refine lv_iload_n hx hb dX12_spring_129 rfl (lv_at hl 4 rfl) ?_
                    refine r_iastN E h (f := σ.2.1 4) (eM_4 cy a (fR (fR (fF σ 0 0) 2 (upd (σ.2.1 2) k x)) 3 (upd (σ.2.1 3) k y))) (j := k) (by omega) (by decide) (qM_4 cy a (fR (fR (fF σ 0 0) 2 (upd (σ.2.1 2) k x)) 3 (upd (σ.2.1 3) k y)) (upd (σ.2.1 4) k w)) dX12_spring_130 (fun H locs h => ?_)
                    refine lv_aload_n hx hb dX12_spring_131 rfl (lv_at hl 1 rfl) ?_
                    refine lv_dup hx hb dX12_spring_132 rfl ?_
                    refine r_get E h 5 (v := .int (nI n)) (eM_0 cy a (fR (fR (fR (fF σ 0 0) 2 (upd (σ.2.1 2) k x)) 3 (upd (σ.2.1 3) k y)) 4 (upd (σ.2.1 4) k w))) rfl fw_X12 (by decide) fl_X12_165 (congrArg (fun z => some (Value.int z)) hn) dX12_spring_133 ?_
                    refine lv_iload hx hb dX12_spring_136 (lv_at hl 0 rfl) ?_
                    refine lv_aload_n hx hb dX12_spring_138 rfl (lv_at hl 1 rfl) ?_
                    refine r_get E h 5 (v := .int (nI n)) (eM_0 cy a (fR (fR (fR (fF σ 0 0) 2 (upd (σ.2.1 2) k x)) 3 (upd (σ.2.1 3) k y)) 4 (upd (σ.2.1 4) k w))) rfl fw_X12 (by decide) fl_X12_165 (congrArg (fun z => some (Value.int z)) hn) dX12_spring_139 ?_
                    refine lv_icmp_ne (tgt := 149) hx hb dX12_spring_142 (by decide) (fun c142 => ?_) (fun c142 => ?_)
                    · have c142 : ¬ k = n := n_ne c142
                      refine lv_iconst (v := 0) hx hb dX12_spring_149 (by decide) ?_
                      refine n_add (j := n) (k := 0) hx hb dX12_spring_150 ?_
                      refine r_put E h 5 (ty := .int) (eM_0 cy a (fR (fR (fR (fF σ 0 0) 2 (upd (σ.2.1 2) k x)) 3 (upd (σ.2.1 3) k y)) 4 (upd (σ.2.1 4) k w))) rfl fw_X12 tyX12_ok nmX12 (by decide) fl_X12_165 rfl (by decide +kernel) rfl rfl (Nat.le_of_ble_eq_true rfl) (sM_4 cy a (fR (fR (fR (fF σ 0 0) 2 (upd (σ.2.1 2) k x)) 3 (upd (σ.2.1 3) k y)) 4 (upd (σ.2.1 4) k w)) (nI (n + 0))) dX12_spring_151 (fun H locs h => ?_)
                      refine lv_aload_n hx hb dX12_spring_154 rfl (lv_at hl 1 rfl) ?_
                      refine lv_iconst (v := 0) hx hb dX12_spring_155 (by decide) ?_
                      refine k_i h (q_runV (As := [.int 0]) (rest := []) E h (c_X12_told l D cy a (fF (fR (fR (fR (fF σ 0 0) 2 (upd (σ.2.1 2) k x)) 3 (upd (σ.2.1 3) k y)) 4 (upd (σ.2.1 4) k w)) 4 (nI (n + 0))) 0) co_X12_told ml_X12_154 im_X12_told se_X12_told in_X12 (eM_0 cy a (fF (fR (fR (fR (fF σ 0 0) 2 (upd (σ.2.1 2) k x)) 3 (upd (σ.2.1 3) k y)) 4 (upd (σ.2.1 4) k w)) 4 (nI (n + 0)))) rfl ok_X12_told rfl ⟨by decide, by decide⟩ hl.1 rfl (Nat.le_of_ble_eq_true rfl) dX12_spring_156 ⟨Nat.zero_le _, Nat.zero_le _⟩) (wM_fst cy a) (fun r156 τ156 H locs p156 h => ?_)
                      exact t_i E h hr hk (Or.inr (Or.inr ⟨⟨p6.2.t c9, w18.t c21⟩, w40.t c43, k, by omega, hi56.2, fun _ => ⟨c73, c84⟩, Or.inr ⟨by omega, p156.1, (by obtain ⟨v9, e⟩ := p156.2; rw [e, if_neg c142]; rfl), (by obtain ⟨v9, e⟩ := p156.2; rw [e]; rfl), (by obtain ⟨v9, e⟩ := p156.2; rw [e]; rfl), (by obtain ⟨v9, e⟩ := p156.2; rw [e]; exact ((((((K.rf.F 0 _ (by decide))).R 2 _ (by decide)).R 3 _ (by decide)).R 4 _ (by decide)).F 4 _ (by decide)).F 1 _ (by decide))⟩⟩)) dX12_spring_159
                    · have c142 : k = n := n_eq (by omega) (by omega) c142
                      refine lv_iconst (v := 1) hx hb dX12_spring_145 (by decide) ?_
                      refine lv_goto (tgt := 150) hx hb dX12_spring_146 (by decide) ?_
                      refine n_add (j := n) (k := 1) hx hb dX12_spring_150 ?_
                      refine r_put E h 5 (ty := .int) (eM_0 cy a (fR (fR (fR (fF σ 0 0) 2 (upd (σ.2.1 2) k x)) 3 (upd (σ.2.1 3) k y)) 4 (upd (σ.2.1 4) k w))) rfl fw_X12 tyX12_ok nmX12 (by decide) fl_X12_165 rfl (by decide +kernel) rfl rfl (Nat.le_of_ble_eq_true rfl) (sM_4 cy a (fR (fR (fR (fF σ 0 0) 2 (upd (σ.2.1 2) k x)) 3 (upd (σ.2.1 3) k y)) 4 (upd (σ.2.1 4) k w)) (nI (n + 1))) dX12_spring_151 (fun H locs h => ?_)
                      refine lv_aload_n hx hb dX12_spring_154 rfl (lv_at hl 1 rfl) ?_
                      refine lv_iconst (v := 0) hx hb dX12_spring_155 (by decide) ?_
                      refine k_i h (q_runV (As := [.int 0]) (rest := []) E h (c_X12_told l D cy a (fF (fR (fR (fR (fF σ 0 0) 2 (upd (σ.2.1 2) k x)) 3 (upd (σ.2.1 3) k y)) 4 (upd (σ.2.1 4) k w)) 4 (nI (n + 1))) 0) co_X12_told ml_X12_154 im_X12_told se_X12_told in_X12 (eM_0 cy a (fF (fR (fR (fR (fF σ 0 0) 2 (upd (σ.2.1 2) k x)) 3 (upd (σ.2.1 3) k y)) 4 (upd (σ.2.1 4) k w)) 4 (nI (n + 1)))) rfl ok_X12_told rfl ⟨by decide, by decide⟩ hl.1 rfl (Nat.le_of_ble_eq_true rfl) dX12_spring_156 ⟨Nat.zero_le _, Nat.zero_le _⟩) (wM_fst cy a) (fun r156 τ156 H locs p156 h => ?_)
                      exact t_i E h hr hk (Or.inr (Or.inr ⟨⟨p6.2.t c9, w18.t c21⟩, w40.t c43, k, by omega, hi56.2, fun _ => ⟨c73, c84⟩, Or.inr ⟨by omega, p156.1, (by obtain ⟨v9, e⟩ := p156.2; rw [e, if_pos c142]; rfl), (by obtain ⟨v9, e⟩ := p156.2; rw [e]; rfl), (by obtain ⟨v9, e⟩ := p156.2; rw [e]; rfl), (by obtain ⟨v9, e⟩ := p156.2; rw [e]; exact ((((((K.rf.F 0 _ (by decide))).R 2 _ (by decide)).R 3 _ (by decide)).R 4 _ (by decide)).F 4 _ (by decide)).F 1 _ (by decide))⟩⟩)) dX12_spring_159
                  · have c97 : k = 60 := n_eq (k := 60) (by omega) (by decide) c97
                    refine lv_aload_n hx hb dX12_spring_100 rfl (lv_at hl 1 rfl) ?_
                    refine lv_bipush (v := -5) hx hb dX12_spring_101 (by decide) ?_
                    refine k_i h (q_runV (As := [.int (-5)]) (rest := []) E h (c_X12_told l D cy a (fF σ 0 0) (-5)) co_X12_told ml_X12_154 im_X12_told se_X12_told in_X12 (eM_0 cy a (fF σ 0 0)) rfl ok_X12_told rfl ⟨by decide, by decide⟩ hl.1 rfl (Nat.le_of_ble_eq_true rfl) dX12_spring_103 ⟨Nat.zero_le _, Nat.zero_le _⟩) (wM_fst cy a) (fun r103 τ103 H locs p103 h => ?_)
                    exact t_i E h hr hk (Or.inr (Or.inr ⟨⟨p6.2.t c9, w18.t c21⟩, w40.t c43, k, by omega, hi56.2, fun _ => ⟨c73, c84⟩, Or.inl ⟨c97, p103.1, (by obtain ⟨v9, e⟩ := p103.2; rw [e]; exact (K.rf.F 0 _ (by decide)).F 1 _ (by decide))⟩⟩)) dX12_spring_106
                · refine lv_iinc (v := nI (k + 1)) (lv' := [(4, .int (nI (k + 1))), (0, .ref (a 0)), (1, .int x), (2, .int y), (3, .int w)]) hx hb dX12_spring_87 hl (k := 0) rfl (nI_succ k).symm (by decide) rfl (fun ls hl => ?_)
                  refine lv_goto (tgt := 56) hx hb dX12_spring_90 (by decide) ?_
                  exact ih56 (k + 1) _ _ _ ⟨by omega, lt_s hi56.2 (fun q9 => c84 q9.2)⟩ (by omega) h (lv_sub hl [0, 1, 2, 3, 4] rfl)
        exact lp56 _ 0 _ _ _ ⟨Nat.zero_le _, lt_0⟩ (Nat.lt_succ_self _) h (lv_sub hl [0, 1, 2, 3, 4] rfl)
      · refine lv_aload_n hx hb dX12_spring_46 rfl (lv_at hl 0 rfl) ?_
        refine lv_bipush (v := -2) hx hb dX12_spring_47 (by decide) ?_
        refine k_i h (q_runV (As := [.int (-2)]) (rest := []) E h (c_X12_told l D cy a (fF σ 0 0) (-2)) co_X12_told ml_X12_154 im_X12_told se_X12_told in_X12 (eM_0 cy a (fF σ 0 0)) rfl ok_X12_told rfl ⟨by decide, by decide⟩ hl.1 rfl (Nat.le_of_ble_eq_true rfl) dX12_spring_49 ⟨Nat.zero_le _, Nat.zero_le _⟩) (wM_fst cy a) (fun r49 τ49 H locs p49 h => ?_)
        exact t_i E h hr hk (Or.inr (Or.inl ⟨⟨p6.2.t c9, w18.t c21⟩, w40.f c43, p49.1, (by obtain ⟨v9, e⟩ := p49.2; rw [e]; exact (K.rf.F 0 _ (by decide)).F 1 _ (by decide))⟩)) dX12_spring_52
    · refine lv_aload_n hx hb dX12_spring_24 rfl (lv_at hl 0 rfl) ?_
      refine lv_iconst (v := -1) hx hb dX12_spring_25 (by decide) ?_
      refine k_i h (q_runV (As := [.int (-1)]) (rest := []) E h (c_X12_told l D cy a (fF σ 0 0) (-1)) co_X12_told ml_X12_154 im_X12_told se_X12_told in_X12 (eM_0 cy a (fF σ 0 0)) rfl ok_X12_told rfl ⟨by decide, by decide⟩ hl.1 rfl (Nat.le_of_ble_eq_true rfl) dX12_spring_26 ⟨Nat.zero_le _, Nat.zero_le _⟩) (wM_fst cy a) (fun r26 τ26 H locs p26 h => ?_)
      exact t_i E h hr hk (Or.inl ⟨fun q => w18.f c21 q.2, p26.1, (by obtain ⟨v9, e⟩ := p26.2; rw [e]; exact (K.rf.F 0 _ (by decide)).F 1 _ (by decide))⟩) dX12_spring_29

set_option maxHeartbeats 4000000 in
set_option maxRecDepth 100000 in
theorem c_X12_castle (l : Launch) (D : va_G) (cy : Nat → ClassId) (a : Nat → Nat) (σ : St) (x y w : Int32) (q n : Nat) (hq : σ.1 3 = nI q) (hq4 : q ≤ 4) (hn : σ.1 5 = nI n) (hn2 : n ≤ 12) : CI l yX12_castle cX12_castle 4 (some .int) (rmOf 1 25) D cy (wM cy a) (AM a) [.ref (a 0), .int x, .int y, .int w] σ (fun r τ => (¬ (((1 : Int32) ≤ y ∧ y ≤ 100000) ∧ ((0 : Int32) ≤ w ∧ w ≤ 1000)) ∧ r = -1 ∧ K mF mA σ τ) ∨ ((((1 : Int32) ≤ y ∧ y ≤ 100000) ∧ ((0 : Int32) ≤ w ∧ w ≤ 1000)) ∧ ¬ (((0 : Int32) ≤ x ∧ x ≤ nI q - 1) ∨ ((100 : Int32) ≤ x ∧ ((0 : Int32) ≤ x - 100 ∧ x - 100 ≤ nI n - 1))) ∧ r = -2 ∧ K mF mA σ τ) ∨ ((((1 : Int32) ≤ y ∧ y ≤ 100000) ∧ ((0 : Int32) ≤ w ∧ w ≤ 1000)) ∧ (((0 : Int32) ≤ x ∧ x ≤ nI q - 1) ∨ ((100 : Int32) ≤ x ∧ ((0 : Int32) ≤ x - 100 ∧ x - 100 ≤ nI n - 1))) ∧ ((n = 12 ∧ r = -5 ∧ K mF mA σ τ) ∨ (n < 12 ∧ r = nI n ∧ τ.1 5 = nI (n + 1) ∧ τ.2.1 6 = upd (σ.2.1 6) n y ∧ WT y ∧ K [2, 3, 4, 6, 7, 8, 9, 10, 11, 13] [1, 2, 3, 4, 8, 9, 10, 11, 12, 13, 14, 15, 16, 17, 18, 19, 20, 21, 22, 23, 24, 25, 26, 27, 29] σ τ)))) := by
  refine c_of (lv := [(0, .ref (a 0)), (1, .int x), (2, .int y), (3, .int w)]) rfl (Nat.le_of_ble_eq_true rfl) rfl ?_
  intro p e s m args below meth c ls E h hr hk hl
  have hx := E.1
  have hb := E.2.1
  refine lv_aload_n hx hb dX12_castle_0 rfl (lv_at hl 0 rfl) ?_
  refine lv_iconst (v := 0) hx hb dX12_castle_1 (by decide) ?_
  refine r_put E h 0 (ty := .int) (eM_0 cy a σ) rfl fw_X12 tyX12_ok nmX12 (by decide) fl_X12_131 rfl (by decide +kernel) rfl rfl (Nat.le_of_ble_eq_true rfl) (sM_0 cy a σ 0) dX12_castle_2 (fun H locs h => ?_)
  refine lv_iload_n hx hb dX12_castle_5 rfl (lv_at hl 2 rfl) ?_
  refine lv_i2l hx hb dX12_castle_6 rfl ?_
  refine lv_lconst (v := 1) hx hb dX12_castle_7 (by decide) ?_
  refine lv_ldc2 (v := 100000) hx hb E.2.2.2.1 (E.2.2.2.2.1 _ kl_X12_152) dX12_castle_8 ?_
  refine k_i h (q_runS (As := [.long y.toInt64, .long 1, .long 100000]) (rest := []) E h (c_X12_in l D cy a (fF σ 0 0) y.toInt64 1 100000) co_X12_in ml_X12_139 st_X12_in in_X12 rfl ok_X12_in rfl ⟨by decide, by decide⟩ hl.1 rfl (Nat.le_of_ble_eq_true rfl) dX12_castle_11 ⟨Nat.zero_le _, Nat.zero_le _⟩) (wM_fst cy a) (fun r11 τ11 H locs p11 h => ?_)
  rw [p11.1] at h
  have w11 : WI y 1 100000 r11 := p11.2.i rfl rfl
  refine lv_if_eq (tgt := 29) hx hb dX12_castle_14 (by decide) (fun c14 => ?_) (fun c14 => ?_)
  · refine lv_aload_n hx hb dX12_castle_29 rfl (lv_at hl 0 rfl) ?_
    refine lv_iconst (v := -1) hx hb dX12_castle_30 (by decide) ?_
    refine k_i h (q_runV (As := [.int (-1)]) (rest := []) E h (c_X12_told l D cy a (fF σ 0 0) (-1)) co_X12_told ml_X12_154 im_X12_told se_X12_told in_X12 (eM_0 cy a (fF σ 0 0)) rfl ok_X12_told rfl ⟨by decide, by decide⟩ hl.1 rfl (Nat.le_of_ble_eq_true rfl) dX12_castle_31 ⟨Nat.zero_le _, Nat.zero_le _⟩) (wM_fst cy a) (fun r31 τ31 H locs p31 h => ?_)
    exact t_i E h hr hk (Or.inl ⟨fun q => w11.f c14 q.1, p31.1, (by obtain ⟨v9, e⟩ := p31.2; rw [e]; exact (K.rf.F 0 _ (by decide)).F 1 _ (by decide))⟩) dX12_castle_34
  · refine lv_iload_n hx hb dX12_castle_17 rfl (lv_at hl 3 rfl) ?_
    refine lv_i2l hx hb dX12_castle_18 rfl ?_
    refine lv_lconst (v := 0) hx hb dX12_castle_19 (by decide) ?_
    refine lv_ldc2 (v := 1000) hx hb E.2.2.2.1 (E.2.2.2.2.1 _ kl_X12_168) dX12_castle_20 ?_
    refine k_i h (q_runS (As := [.long w.toInt64, .long 0, .long 1000]) (rest := []) E h (c_X12_in l D cy a (fF σ 0 0) w.toInt64 0 1000) co_X12_in ml_X12_139 st_X12_in in_X12 rfl ok_X12_in rfl ⟨by decide, by decide⟩ hl.1 rfl (Nat.le_of_ble_eq_true rfl) dX12_castle_23 ⟨Nat.zero_le _, Nat.zero_le _⟩) (wM_fst cy a) (fun r23 τ23 H locs p23 h => ?_)
    rw [p23.1] at h
    have w23 : WI w 0 1000 r23 := p23.2.i rfl rfl
    refine lv_if_ne (tgt := 35) hx hb dX12_castle_26 (by decide) (fun c26 => ?_) (fun c26 => ?_)
    · refine lv_iload_n hx hb dX12_castle_35 rfl (lv_at hl 1 rfl) ?_
      refine lv_i2l hx hb dX12_castle_36 rfl ?_
      refine lv_lconst (v := 0) hx hb dX12_castle_37 (by decide) ?_
      refine lv_aload_n hx hb dX12_castle_38 rfl (lv_at hl 0 rfl) ?_
      refine r_get E h 3 (v := .int (nI q)) (eM_0 cy a (fF σ 0 0)) rfl fw_X12 (by decide) fl_X12_158 (congrArg (fun z => some (Value.int z)) hq) dX12_castle_39 ?_
      refine lv_i2l hx hb dX12_castle_42 rfl ?_
      refine lv_lconst (v := 1) hx hb dX12_castle_43 (by decide) ?_
      refine lv_lsub hx hb dX12_castle_44 ?_
      refine k_i h (q_runS (As := [.long x.toInt64, .long 0, .long (((nI q).toInt64) - 1)]) (rest := []) E h (c_X12_in l D cy a (fF σ 0 0) x.toInt64 0 (((nI q).toInt64) - 1)) co_X12_in ml_X12_139 st_X12_in in_X12 rfl ok_X12_in rfl ⟨by decide, by decide⟩ hl.1 rfl (Nat.le_of_ble_eq_true rfl) dX12_castle_45 ⟨Nat.zero_le _, Nat.zero_le _⟩) (wM_fst cy a) (fun r45 τ45 H locs p45 h => ?_)
      rw [p45.1] at h
      have w45 : WI x 0 (nI q - 1) r45 := p45.2.i rfl (pred64 (by omega))
      refine lv_if_ne (tgt := 78) hx hb dX12_castle_48 (by decide) (fun c48 => ?_) (fun c48 => ?_)
      · refine lv_aload_n hx hb dX12_castle_78 rfl (lv_at hl 0 rfl) ?_
        refine r_get E h 9 (v := .int (nI n)) (eM_0 cy a (fF σ 0 0)) rfl fw_X12 (by decide) fl_X12_143 (congrArg (fun z => some (Value.int z)) hn) dX12_castle_79 ?_
        refine lv_bipush (v := 12) hx hb dX12_castle_82 (by decide) ?_
        refine lv_icmp_ne (tgt := 94) hx hb dX12_castle_84 (by decide) (fun c84 => ?_) (fun c84 => ?_)
        · have c84 : n ≠ 12 := n_ne (k := 12) c84
          refine lv_aload_n hx hb dX12_castle_94 rfl (lv_at hl 0 rfl) ?_
          refine r_get E h 10 (v := .ref (a 5)) (eM_0 cy a (fF σ 0 0)) rfl fw_X12 (by decide) fl_X12_22 rfl dX12_castle_95 ?_
          refine lv_aload_n hx hb dX12_castle_98 rfl (lv_at hl 0 rfl) ?_
          refine r_get E h 9 (v := .int (nI n)) (eM_0 cy a (fF σ 0 0)) rfl fw_X12 (by decide) fl_X12_143 (congrArg (fun z => some (Value.int z)) hn) dX12_castle_99 ?_
          refine lv_iload_n hx hb dX12_castle_102 rfl (lv_at hl 1 rfl) ?_
          refine r_iastN E h (f := σ.2.1 5) (eM_5 cy a (fF σ 0 0)) (j := n) (by omega) (by decide) (qM_5 cy a (fF σ 0 0) (upd (σ.2.1 5) n x)) dX12_castle_103 (fun H locs h => ?_)
          refine lv_aload_n hx hb dX12_castle_104 rfl (lv_at hl 0 rfl) ?_
          refine r_get E h 11 (v := .ref (a 6)) (eM_0 cy a (fR (fF σ 0 0) 5 (upd (σ.2.1 5) n x))) rfl fw_X12 (by decide) fl_X12_25 rfl dX12_castle_105 ?_
          refine lv_aload_n hx hb dX12_castle_108 rfl (lv_at hl 0 rfl) ?_
          refine r_get E h 9 (v := .int (nI n)) (eM_0 cy a (fR (fF σ 0 0) 5 (upd (σ.2.1 5) n x))) rfl fw_X12 (by decide) fl_X12_143 (congrArg (fun z => some (Value.int z)) hn) dX12_castle_109 ?_
          refine lv_iload_n hx hb dX12_castle_112 rfl (lv_at hl 2 rfl) ?_
          refine r_iastN E h (f := σ.2.1 6) (eM_6 cy a (fR (fF σ 0 0) 5 (upd (σ.2.1 5) n x))) (j := n) (by omega) (by decide) (qM_6 cy a (fR (fF σ 0 0) 5 (upd (σ.2.1 5) n x)) (upd (σ.2.1 6) n y)) dX12_castle_113 (fun H locs h => ?_)
          refine lv_aload_n hx hb dX12_castle_114 rfl (lv_at hl 0 rfl) ?_
          refine r_get E h 12 (v := .ref (a 7)) (eM_0 cy a (fR (fR (fF σ 0 0) 5 (upd (σ.2.1 5) n x)) 6 (upd (σ.2.1 6) n y))) rfl fw_X12 (by decide) fl_X12_28 rfl dX12_castle_115 ?_
          refine lv_aload_n hx hb dX12_castle_118 rfl (lv_at hl 0 rfl) ?_
          refine r_get E h 9 (v := .int (nI n)) (eM_0 cy a (fR (fR (fF σ 0 0) 5 (upd (σ.2.1 5) n x)) 6 (upd (σ.2.1 6) n y))) rfl fw_X12 (by decide) fl_X12_143 (congrArg (fun z => some (Value.int z)) hn) dX12_castle_119 ?_
          refine lv_iload_n hx hb dX12_castle_122 rfl (lv_at hl 3 rfl) ?_
          refine r_iastN E h (f := σ.2.1 7) (eM_7 cy a (fR (fR (fF σ 0 0) 5 (upd (σ.2.1 5) n x)) 6 (upd (σ.2.1 6) n y))) (j := n) (by omega) (by decide) (qM_7 cy a (fR (fR (fF σ 0 0) 5 (upd (σ.2.1 5) n x)) 6 (upd (σ.2.1 6) n y)) (upd (σ.2.1 7) n w)) dX12_castle_123 (fun H locs h => ?_)
          refine lv_aload_n hx hb dX12_castle_124 rfl (lv_at hl 0 rfl) ?_
          refine lv_dup hx hb dX12_castle_125 rfl ?_
          refine r_get E h 9 (v := .int (nI n)) (eM_0 cy a (fR (fR (fR (fF σ 0 0) 5 (upd (σ.2.1 5) n x)) 6 (upd (σ.2.1 6) n y)) 7 (upd (σ.2.1 7) n w))) rfl fw_X12 (by decide) fl_X12_143 (congrArg (fun z => some (Value.int z)) hn) dX12_castle_126 ?_
          refine lv_iconst (v := 1) hx hb dX12_castle_129 (by decide) ?_
          refine n_add (j := n) (k := 1) hx hb dX12_castle_130 ?_
          refine r_put E h 9 (ty := .int) (eM_0 cy a (fR (fR (fR (fF σ 0 0) 5 (upd (σ.2.1 5) n x)) 6 (upd (σ.2.1 6) n y)) 7 (upd (σ.2.1 7) n w))) rfl fw_X12 tyX12_ok nmX12 (by decide) fl_X12_143 rfl (by decide +kernel) rfl rfl (Nat.le_of_ble_eq_true rfl) (sM_5 cy a (fR (fR (fR (fF σ 0 0) 5 (upd (σ.2.1 5) n x)) 6 (upd (σ.2.1 6) n y)) 7 (upd (σ.2.1 7) n w)) (nI (n + 1))) dX12_castle_131 (fun H locs h => ?_)
          refine lv_aload_n hx hb dX12_castle_134 rfl (lv_at hl 0 rfl) ?_
          refine lv_aload_n hx hb dX12_castle_135 rfl (lv_at hl 0 rfl) ?_
          refine r_get E h 9 (v := .int (nI (n + 1))) (eM_0 cy a (fF (fR (fR (fR (fF σ 0 0) 5 (upd (σ.2.1 5) n x)) 6 (upd (σ.2.1 6) n y)) 7 (upd (σ.2.1 7) n w)) 5 (nI (n + 1)))) rfl fw_X12 (by decide) fl_X12_143 rfl dX12_castle_136 ?_
          refine lv_iconst (v := 1) hx hb dX12_castle_139 (by decide) ?_
          refine n_sub1 hx hb dX12_castle_140 ?_
          refine k_i h (q_runV (As := [.int (nI n)]) (rest := []) E h (c_X12_told l D cy a (fF (fR (fR (fR (fF σ 0 0) 5 (upd (σ.2.1 5) n x)) 6 (upd (σ.2.1 6) n y)) 7 (upd (σ.2.1 7) n w)) 5 (nI (n + 1))) (nI n)) co_X12_told ml_X12_154 im_X12_told se_X12_told in_X12 (eM_0 cy a (fF (fR (fR (fR (fF σ 0 0) 5 (upd (σ.2.1 5) n x)) 6 (upd (σ.2.1 6) n y)) 7 (upd (σ.2.1 7) n w)) 5 (nI (n + 1)))) rfl ok_X12_told rfl ⟨by decide, by decide⟩ hl.1 rfl (Nat.le_of_ble_eq_true rfl) dX12_castle_141 ⟨Nat.zero_le _, Nat.zero_le _⟩) (wM_fst cy a) (fun r141 τ141 H locs p141 h => ?_)
          exact t_i E h hr hk (Or.inr (Or.inr ⟨⟨w11.t c14, w23.t c26⟩, Or.inl (w45.t c48), Or.inr ⟨by omega, p141.1, (by obtain ⟨v9, e⟩ := p141.2; rw [e]; rfl), (by obtain ⟨v9, e⟩ := p141.2; rw [e]; rfl), wt_of (w11.t c14) (by decide) (by decide), (by obtain ⟨v9, e⟩ := p141.2; rw [e]; exact ((((((K.rf.F 0 _ (by decide))).R 5 _ (by decide)).R 6 _ (by decide)).R 7 _ (by decide)).F 5 _ (by decide)).F 1 _ (by decide))⟩⟩)) dX12_castle_144
        · have c84 : n = 12 := n_eq (k := 12) (by omega) (by decide) c84
          refine lv_aload_n hx hb dX12_castle_87 rfl (lv_at hl 0 rfl) ?_
          refine lv_bipush (v := -5) hx hb dX12_castle_88 (by decide) ?_
          refine k_i h (q_runV (As := [.int (-5)]) (rest := []) E h (c_X12_told l D cy a (fF σ 0 0) (-5)) co_X12_told ml_X12_154 im_X12_told se_X12_told in_X12 (eM_0 cy a (fF σ 0 0)) rfl ok_X12_told rfl ⟨by decide, by decide⟩ hl.1 rfl (Nat.le_of_ble_eq_true rfl) dX12_castle_90 ⟨Nat.zero_le _, Nat.zero_le _⟩) (wM_fst cy a) (fun r90 τ90 H locs p90 h => ?_)
          exact t_i E h hr hk (Or.inr (Or.inr ⟨⟨w11.t c14, w23.t c26⟩, Or.inl (w45.t c48), Or.inl ⟨c84, p90.1, (by obtain ⟨v9, e⟩ := p90.2; rw [e]; exact (K.rf.F 0 _ (by decide)).F 1 _ (by decide))⟩⟩)) dX12_castle_93
      · refine lv_iload_n hx hb dX12_castle_51 rfl (lv_at hl 1 rfl) ?_
        refine lv_i2l hx hb dX12_castle_52 rfl ?_
        refine lv_ldc2 (v := 100) hx hb E.2.2.2.1 (E.2.2.2.2.1 _ kl_X12_170) dX12_castle_53 ?_
        refine lv_ldc2 (v := 99) hx hb E.2.2.2.1 (E.2.2.2.2.1 _ kl_X12_172) dX12_castle_56 ?_
        refine lv_aload_n hx hb dX12_castle_59 rfl (lv_at hl 0 rfl) ?_
        refine r_get E h 9 (v := .int (nI n)) (eM_0 cy a (fF σ 0 0)) rfl fw_X12 (by decide) fl_X12_143 (congrArg (fun z => some (Value.int z)) hn) dX12_castle_60 ?_
        refine lv_i2l hx hb dX12_castle_63 rfl ?_
        refine lv_ladd hx hb dX12_castle_64 ?_
        refine k_i h (q_runS (As := [.long x.toInt64, .long 100, .long (99 + ((nI n).toInt64))]) (rest := []) E h (c_X12_in l D cy a (fF σ 0 0) x.toInt64 100 (99 + ((nI n).toInt64))) co_X12_in ml_X12_139 st_X12_in in_X12 rfl ok_X12_in rfl ⟨by decide, by decide⟩ hl.1 rfl (Nat.le_of_ble_eq_true rfl) dX12_castle_65 ⟨Nat.zero_le _, Nat.zero_le _⟩) (wM_fst cy a) (fun r65 τ65 H locs p65 h => ?_)
        rw [p65.1] at h
        refine lv_if_ne (tgt := 78) hx hb dX12_castle_68 (by decide) (fun c68 => ?_) (fun c68 => ?_)
        · refine lv_aload_n hx hb dX12_castle_78 rfl (lv_at hl 0 rfl) ?_
          refine r_get E h 9 (v := .int (nI n)) (eM_0 cy a (fF σ 0 0)) rfl fw_X12 (by decide) fl_X12_143 (congrArg (fun z => some (Value.int z)) hn) dX12_castle_79 ?_
          refine lv_bipush (v := 12) hx hb dX12_castle_82 (by decide) ?_
          refine lv_icmp_ne (tgt := 94) hx hb dX12_castle_84 (by decide) (fun c84 => ?_) (fun c84 => ?_)
          · have c84 : n ≠ 12 := n_ne (k := 12) c84
            refine lv_aload_n hx hb dX12_castle_94 rfl (lv_at hl 0 rfl) ?_
            refine r_get E h 10 (v := .ref (a 5)) (eM_0 cy a (fF σ 0 0)) rfl fw_X12 (by decide) fl_X12_22 rfl dX12_castle_95 ?_
            refine lv_aload_n hx hb dX12_castle_98 rfl (lv_at hl 0 rfl) ?_
            refine r_get E h 9 (v := .int (nI n)) (eM_0 cy a (fF σ 0 0)) rfl fw_X12 (by decide) fl_X12_143 (congrArg (fun z => some (Value.int z)) hn) dX12_castle_99 ?_
            refine lv_iload_n hx hb dX12_castle_102 rfl (lv_at hl 1 rfl) ?_
            refine r_iastN E h (f := σ.2.1 5) (eM_5 cy a (fF σ 0 0)) (j := n) (by omega) (by decide) (qM_5 cy a (fF σ 0 0) (upd (σ.2.1 5) n x)) dX12_castle_103 (fun H locs h => ?_)
            refine lv_aload_n hx hb dX12_castle_104 rfl (lv_at hl 0 rfl) ?_
            refine r_get E h 11 (v := .ref (a 6)) (eM_0 cy a (fR (fF σ 0 0) 5 (upd (σ.2.1 5) n x))) rfl fw_X12 (by decide) fl_X12_25 rfl dX12_castle_105 ?_
            refine lv_aload_n hx hb dX12_castle_108 rfl (lv_at hl 0 rfl) ?_
            refine r_get E h 9 (v := .int (nI n)) (eM_0 cy a (fR (fF σ 0 0) 5 (upd (σ.2.1 5) n x))) rfl fw_X12 (by decide) fl_X12_143 (congrArg (fun z => some (Value.int z)) hn) dX12_castle_109 ?_
            refine lv_iload_n hx hb dX12_castle_112 rfl (lv_at hl 2 rfl) ?_
            refine r_iastN E h (f := σ.2.1 6) (eM_6 cy a (fR (fF σ 0 0) 5 (upd (σ.2.1 5) n x))) (j := n) (by omega) (by decide) (qM_6 cy a (fR (fF σ 0 0) 5 (upd (σ.2.1 5) n x)) (upd (σ.2.1 6) n y)) dX12_castle_113 (fun H locs h => ?_)
            refine lv_aload_n hx hb dX12_castle_114 rfl (lv_at hl 0 rfl) ?_
            refine r_get E h 12 (v := .ref (a 7)) (eM_0 cy a (fR (fR (fF σ 0 0) 5 (upd (σ.2.1 5) n x)) 6 (upd (σ.2.1 6) n y))) rfl fw_X12 (by decide) fl_X12_28 rfl dX12_castle_115 ?_
            refine lv_aload_n hx hb dX12_castle_118 rfl (lv_at hl 0 rfl) ?_
            refine r_get E h 9 (v := .int (nI n)) (eM_0 cy a (fR (fR (fF σ 0 0) 5 (upd (σ.2.1 5) n x)) 6 (upd (σ.2.1 6) n y))) rfl fw_X12 (by decide) fl_X12_143 (congrArg (fun z => some (Value.int z)) hn) dX12_castle_119 ?_
            refine lv_iload_n hx hb dX12_castle_122 rfl (lv_at hl 3 rfl) ?_
            refine r_iastN E h (f := σ.2.1 7) (eM_7 cy a (fR (fR (fF σ 0 0) 5 (upd (σ.2.1 5) n x)) 6 (upd (σ.2.1 6) n y))) (j := n) (by omega) (by decide) (qM_7 cy a (fR (fR (fF σ 0 0) 5 (upd (σ.2.1 5) n x)) 6 (upd (σ.2.1 6) n y)) (upd (σ.2.1 7) n w)) dX12_castle_123 (fun H locs h => ?_)
            refine lv_aload_n hx hb dX12_castle_124 rfl (lv_at hl 0 rfl) ?_
            refine lv_dup hx hb dX12_castle_125 rfl ?_
            refine r_get E h 9 (v := .int (nI n)) (eM_0 cy a (fR (fR (fR (fF σ 0 0) 5 (upd (σ.2.1 5) n x)) 6 (upd (σ.2.1 6) n y)) 7 (upd (σ.2.1 7) n w))) rfl fw_X12 (by decide) fl_X12_143 (congrArg (fun z => some (Value.int z)) hn) dX12_castle_126 ?_
            refine lv_iconst (v := 1) hx hb dX12_castle_129 (by decide) ?_
            refine n_add (j := n) (k := 1) hx hb dX12_castle_130 ?_
            refine r_put E h 9 (ty := .int) (eM_0 cy a (fR (fR (fR (fF σ 0 0) 5 (upd (σ.2.1 5) n x)) 6 (upd (σ.2.1 6) n y)) 7 (upd (σ.2.1 7) n w))) rfl fw_X12 tyX12_ok nmX12 (by decide) fl_X12_143 rfl (by decide +kernel) rfl rfl (Nat.le_of_ble_eq_true rfl) (sM_5 cy a (fR (fR (fR (fF σ 0 0) 5 (upd (σ.2.1 5) n x)) 6 (upd (σ.2.1 6) n y)) 7 (upd (σ.2.1 7) n w)) (nI (n + 1))) dX12_castle_131 (fun H locs h => ?_)
            refine lv_aload_n hx hb dX12_castle_134 rfl (lv_at hl 0 rfl) ?_
            refine lv_aload_n hx hb dX12_castle_135 rfl (lv_at hl 0 rfl) ?_
            refine r_get E h 9 (v := .int (nI (n + 1))) (eM_0 cy a (fF (fR (fR (fR (fF σ 0 0) 5 (upd (σ.2.1 5) n x)) 6 (upd (σ.2.1 6) n y)) 7 (upd (σ.2.1 7) n w)) 5 (nI (n + 1)))) rfl fw_X12 (by decide) fl_X12_143 rfl dX12_castle_136 ?_
            refine lv_iconst (v := 1) hx hb dX12_castle_139 (by decide) ?_
            refine n_sub1 hx hb dX12_castle_140 ?_
            refine k_i h (q_runV (As := [.int (nI n)]) (rest := []) E h (c_X12_told l D cy a (fF (fR (fR (fR (fF σ 0 0) 5 (upd (σ.2.1 5) n x)) 6 (upd (σ.2.1 6) n y)) 7 (upd (σ.2.1 7) n w)) 5 (nI (n + 1))) (nI n)) co_X12_told ml_X12_154 im_X12_told se_X12_told in_X12 (eM_0 cy a (fF (fR (fR (fR (fF σ 0 0) 5 (upd (σ.2.1 5) n x)) 6 (upd (σ.2.1 6) n y)) 7 (upd (σ.2.1 7) n w)) 5 (nI (n + 1)))) rfl ok_X12_told rfl ⟨by decide, by decide⟩ hl.1 rfl (Nat.le_of_ble_eq_true rfl) dX12_castle_141 ⟨Nat.zero_le _, Nat.zero_le _⟩) (wM_fst cy a) (fun r141 τ141 H locs p141 h => ?_)
            exact t_i E h hr hk (Or.inr (Or.inr ⟨⟨w11.t c14, w23.t c26⟩, Or.inr ((src64 hn2 hq4).mp (p65.2.elim (fun q9 => q9.2) (fun q9 => absurd q9.1 c68))), Or.inr ⟨by omega, p141.1, (by obtain ⟨v9, e⟩ := p141.2; rw [e]; rfl), (by obtain ⟨v9, e⟩ := p141.2; rw [e]; rfl), wt_of (w11.t c14) (by decide) (by decide), (by obtain ⟨v9, e⟩ := p141.2; rw [e]; exact ((((((K.rf.F 0 _ (by decide))).R 5 _ (by decide)).R 6 _ (by decide)).R 7 _ (by decide)).F 5 _ (by decide)).F 1 _ (by decide))⟩⟩)) dX12_castle_144
          · have c84 : n = 12 := n_eq (k := 12) (by omega) (by decide) c84
            refine lv_aload_n hx hb dX12_castle_87 rfl (lv_at hl 0 rfl) ?_
            refine lv_bipush (v := -5) hx hb dX12_castle_88 (by decide) ?_
            refine k_i h (q_runV (As := [.int (-5)]) (rest := []) E h (c_X12_told l D cy a (fF σ 0 0) (-5)) co_X12_told ml_X12_154 im_X12_told se_X12_told in_X12 (eM_0 cy a (fF σ 0 0)) rfl ok_X12_told rfl ⟨by decide, by decide⟩ hl.1 rfl (Nat.le_of_ble_eq_true rfl) dX12_castle_90 ⟨Nat.zero_le _, Nat.zero_le _⟩) (wM_fst cy a) (fun r90 τ90 H locs p90 h => ?_)
            exact t_i E h hr hk (Or.inr (Or.inr ⟨⟨w11.t c14, w23.t c26⟩, Or.inr ((src64 hn2 hq4).mp (p65.2.elim (fun q9 => q9.2) (fun q9 => absurd q9.1 c68))), Or.inl ⟨c84, p90.1, (by obtain ⟨v9, e⟩ := p90.2; rw [e]; exact (K.rf.F 0 _ (by decide)).F 1 _ (by decide))⟩⟩)) dX12_castle_93
        · refine lv_aload_n hx hb dX12_castle_71 rfl (lv_at hl 0 rfl) ?_
          refine lv_bipush (v := -2) hx hb dX12_castle_72 (by decide) ?_
          refine k_i h (q_runV (As := [.int (-2)]) (rest := []) E h (c_X12_told l D cy a (fF σ 0 0) (-2)) co_X12_told ml_X12_154 im_X12_told se_X12_told in_X12 (eM_0 cy a (fF σ 0 0)) rfl ok_X12_told rfl ⟨by decide, by decide⟩ hl.1 rfl (Nat.le_of_ble_eq_true rfl) dX12_castle_74 ⟨Nat.zero_le _, Nat.zero_le _⟩) (wM_fst cy a) (fun r74 τ74 H locs p74 h => ?_)
          exact t_i E h hr hk (Or.inr (Or.inl ⟨⟨w11.t c14, w23.t c26⟩, fun s9 => s9.elim (w45.f c48) (fun u9 => p65.2.elim (fun q9 => absurd (c68.symm.trans q9.1) (by decide)) (fun q9 => q9.2 ((src64 hn2 hq4).mpr u9))), p74.1, (by obtain ⟨v9, e⟩ := p74.2; rw [e]; exact (K.rf.F 0 _ (by decide)).F 1 _ (by decide))⟩)) dX12_castle_77
    · refine lv_aload_n hx hb dX12_castle_29 rfl (lv_at hl 0 rfl) ?_
      refine lv_iconst (v := -1) hx hb dX12_castle_30 (by decide) ?_
      refine k_i h (q_runV (As := [.int (-1)]) (rest := []) E h (c_X12_told l D cy a (fF σ 0 0) (-1)) co_X12_told ml_X12_154 im_X12_told se_X12_told in_X12 (eM_0 cy a (fF σ 0 0)) rfl ok_X12_told rfl ⟨by decide, by decide⟩ hl.1 rfl (Nat.le_of_ble_eq_true rfl) dX12_castle_31 ⟨Nat.zero_le _, Nat.zero_le _⟩) (wM_fst cy a) (fun r31 τ31 H locs p31 h => ?_)
      exact t_i E h hr hk (Or.inl ⟨fun q => w23.f c26 q.2, p31.1, (by obtain ⟨v9, e⟩ := p31.2; rw [e]; exact (K.rf.F 0 _ (by decide)).F 1 _ (by decide))⟩) dX12_castle_34

set_option maxHeartbeats 4000000 in
set_option maxRecDepth 100000 in
theorem c_X12_tap (l : Launch) (D : va_G) (cy : Nat → ClassId) (a : Nat → Nat) (σ : St) (x y w v : Int32) (q n : Nat) (hq : σ.1 5 = nI q) (hq4 : q ≤ 12) (hn : σ.1 9 = nI n) (hn6 : n ≤ 60) : CI l yX12_tap cX12_tap 5 (some .int) (rmOf 2 46) D cy (wM cy a) (AM a) [.ref (a 0), .int x, .int y, .int w, .int v] σ (fun r τ => (¬ (((1 : Int32) ≤ y ∧ y ≤ 10000) ∧ (((0 : Int32) ≤ w ∧ w ≤ 200) ∧ ((0 : Int32) ≤ v ∧ v ≤ 200) ∧ w ≤ v)) ∧ r = -1 ∧ K mF mA σ τ) ∨ ((((1 : Int32) ≤ y ∧ y ≤ 10000) ∧ (((0 : Int32) ≤ w ∧ w ≤ 200) ∧ ((0 : Int32) ≤ v ∧ v ≤ 200) ∧ w ≤ v)) ∧ ¬ ((0 : Int32) ≤ x ∧ x ≤ nI q - 1) ∧ r = -2 ∧ K mF mA σ τ) ∨ ((((1 : Int32) ≤ y ∧ y ≤ 10000) ∧ (((0 : Int32) ≤ w ∧ w ≤ 200) ∧ ((0 : Int32) ≤ v ∧ v ≤ 200) ∧ w ≤ v)) ∧ ((0 : Int32) ≤ x ∧ x ≤ nI q - 1) ∧ ((n = 60 ∧ r = -5 ∧ K mF mA σ τ) ∨ (n < 60 ∧ r = nI (n + 1) ∧ τ.1 9 = nI (n + 1) ∧ K [2, 3, 4, 5, 6, 7, 8, 10, 11, 13] [1, 2, 3, 4, 5, 6, 7, 8, 9, 10, 11, 12, 13, 14, 15, 16, 21, 22, 23, 24, 25, 26, 27, 29] σ τ)))) := by
  refine c_of (lv := [(0, .ref (a 0)), (1, .int x), (2, .int y), (3, .int w), (4, .int v)]) rfl (Nat.le_of_ble_eq_true rfl) rfl ?_
  intro p e s m args below meth c ls E h hr hk hl
  have hx := E.1
  have hb := E.2.1
  refine lv_aload_n hx hb dX12_tap_0 rfl (lv_at hl 0 rfl) ?_
  refine lv_iconst (v := 0) hx hb dX12_tap_1 (by decide) ?_
  refine r_put E h 0 (ty := .int) (eM_0 cy a σ) rfl fw_X12 tyX12_ok nmX12 (by decide) fl_X12_131 rfl (by decide +kernel) rfl rfl (Nat.le_of_ble_eq_true rfl) (sM_0 cy a σ 0) dX12_tap_2 (fun H locs h => ?_)
  refine lv_iload_n hx hb dX12_tap_5 rfl (lv_at hl 2 rfl) ?_
  refine lv_i2l hx hb dX12_tap_6 rfl ?_
  refine lv_lconst (v := 1) hx hb dX12_tap_7 (by decide) ?_
  refine lv_ldc2 (v := 10000) hx hb E.2.2.2.1 (E.2.2.2.2.1 _ kl_X12_200) dX12_tap_8 ?_
  refine k_i h (q_runS (As := [.long y.toInt64, .long 1, .long 10000]) (rest := []) E h (c_X12_in l D cy a (fF σ 0 0) y.toInt64 1 10000) co_X12_in ml_X12_139 st_X12_in in_X12 rfl ok_X12_in rfl ⟨by decide, by decide⟩ hl.1 rfl (Nat.le_of_ble_eq_true rfl) dX12_tap_11 ⟨Nat.zero_le _, Nat.zero_le _⟩) (wM_fst cy a) (fun r11 τ11 H locs p11 h => ?_)
  rw [p11.1] at h
  have w11 : WI y 1 10000 r11 := p11.2.i rfl rfl
  refine lv_if_eq (tgt := 38) hx hb dX12_tap_14 (by decide) (fun c14 => ?_) (fun c14 => ?_)
  · refine lv_aload_n hx hb dX12_tap_38 rfl (lv_at hl 0 rfl) ?_
    refine lv_iconst (v := -1) hx hb dX12_tap_39 (by decide) ?_
    refine k_i h (q_runV (As := [.int (-1)]) (rest := []) E h (c_X12_told l D cy a (fF σ 0 0) (-1)) co_X12_told ml_X12_154 im_X12_told se_X12_told in_X12 (eM_0 cy a (fF σ 0 0)) rfl ok_X12_told rfl ⟨by decide, by decide⟩ hl.1 rfl (Nat.le_of_ble_eq_true rfl) dX12_tap_40 ⟨Nat.zero_le _, Nat.zero_le _⟩) (wM_fst cy a) (fun r40 τ40 H locs p40 h => ?_)
    exact t_i E h hr hk (Or.inl ⟨fun q9 => w11.f c14 q9.1, p40.1, (by obtain ⟨v9, e⟩ := p40.2; rw [e]; exact (K.rf.F 0 _ (by decide)).F 1 _ (by decide))⟩) dX12_tap_43
  · refine lv_iload_n hx hb dX12_tap_17 rfl (lv_at hl 3 rfl) ?_
    refine k_i h (q_runS (As := [.int w]) (rest := []) E h (c_X12_isYear l D cy a (fF σ 0 0) w) co_X12_isYear ml_X12_161 st_X12_isYear in_X12 rfl ok_X12_isYear rfl ⟨by decide, by decide⟩ hl.1 rfl (Nat.le_of_ble_eq_true rfl) dX12_tap_18 ⟨Nat.zero_le _, Nat.zero_le _⟩) (wM_fst cy a) (fun r18 τ18 H locs p18 h => ?_)
    rw [p18.1] at h
    refine lv_if_eq (tgt := 38) hx hb dX12_tap_21 (by decide) (fun c21 => ?_) (fun c21 => ?_)
    · refine lv_aload_n hx hb dX12_tap_38 rfl (lv_at hl 0 rfl) ?_
      refine lv_iconst (v := -1) hx hb dX12_tap_39 (by decide) ?_
      refine k_i h (q_runV (As := [.int (-1)]) (rest := []) E h (c_X12_told l D cy a (fF σ 0 0) (-1)) co_X12_told ml_X12_154 im_X12_told se_X12_told in_X12 (eM_0 cy a (fF σ 0 0)) rfl ok_X12_told rfl ⟨by decide, by decide⟩ hl.1 rfl (Nat.le_of_ble_eq_true rfl) dX12_tap_40 ⟨Nat.zero_le _, Nat.zero_le _⟩) (wM_fst cy a) (fun r40 τ40 H locs p40 h => ?_)
      exact t_i E h hr hk (Or.inl ⟨fun q9 => p18.2.f c21 q9.2.1, p40.1, (by obtain ⟨v9, e⟩ := p40.2; rw [e]; exact (K.rf.F 0 _ (by decide)).F 1 _ (by decide))⟩) dX12_tap_43
    · refine lv_iload hx hb dX12_tap_24 (lv_at hl 4 rfl) ?_
      refine k_i h (q_runS (As := [.int v]) (rest := []) E h (c_X12_isYear l D cy a (fF σ 0 0) v) co_X12_isYear ml_X12_161 st_X12_isYear in_X12 rfl ok_X12_isYear rfl ⟨by decide, by decide⟩ hl.1 rfl (Nat.le_of_ble_eq_true rfl) dX12_tap_26 ⟨Nat.zero_le _, Nat.zero_le _⟩) (wM_fst cy a) (fun r26 τ26 H locs p26 h => ?_)
      rw [p26.1] at h
      refine lv_if_eq (tgt := 38) hx hb dX12_tap_29 (by decide) (fun c29 => ?_) (fun c29 => ?_)
      · refine lv_aload_n hx hb dX12_tap_38 rfl (lv_at hl 0 rfl) ?_
        refine lv_iconst (v := -1) hx hb dX12_tap_39 (by decide) ?_
        refine k_i h (q_runV (As := [.int (-1)]) (rest := []) E h (c_X12_told l D cy a (fF σ 0 0) (-1)) co_X12_told ml_X12_154 im_X12_told se_X12_told in_X12 (eM_0 cy a (fF σ 0 0)) rfl ok_X12_told rfl ⟨by decide, by decide⟩ hl.1 rfl (Nat.le_of_ble_eq_true rfl) dX12_tap_40 ⟨Nat.zero_le _, Nat.zero_le _⟩) (wM_fst cy a) (fun r40 τ40 H locs p40 h => ?_)
        exact t_i E h hr hk (Or.inl ⟨fun q9 => p26.2.f c29 q9.2.2.1, p40.1, (by obtain ⟨v9, e⟩ := p40.2; rw [e]; exact (K.rf.F 0 _ (by decide)).F 1 _ (by decide))⟩) dX12_tap_43
      · refine lv_iload_n hx hb dX12_tap_32 rfl (lv_at hl 3 rfl) ?_
        refine lv_iload hx hb dX12_tap_33 (lv_at hl 4 rfl) ?_
        refine lv_icmp_le (tgt := 44) hx hb dX12_tap_35 (by decide) (fun c35 => ?_) (fun c35 => ?_)
        · refine lv_aload_n hx hb dX12_tap_44 rfl (lv_at hl 0 rfl) ?_
          refine lv_iload_n hx hb dX12_tap_45 rfl (lv_at hl 1 rfl) ?_
          refine k_i h (q_runV (As := [.int x]) (rest := []) E h (c_X12_isCastle l D cy a (fF σ 0 0) x q hq (by omega)) co_X12_isCastle ml_X12_188 im_X12_isCastle se_X12_isCastle in_X12 (eM_0 cy a (fF σ 0 0)) rfl ok_X12_isCastle rfl ⟨by decide, by decide⟩ hl.1 rfl (Nat.le_of_ble_eq_true rfl) dX12_tap_46 ⟨Nat.zero_le _, Nat.zero_le _⟩) (wM_fst cy a) (fun r46 τ46 H locs p46 h => ?_)
          rw [p46.1] at h
          refine lv_if_ne (tgt := 59) hx hb dX12_tap_49 (by decide) (fun c49 => ?_) (fun c49 => ?_)
          · refine lv_aload_n hx hb dX12_tap_59 rfl (lv_at hl 0 rfl) ?_
            refine r_get E h 25 (v := .int (nI n)) (eM_0 cy a (fF σ 0 0)) rfl fw_X12 (by decide) fl_X12_202 (congrArg (fun z => some (Value.int z)) hn) dX12_tap_60 ?_
            refine lv_bipush (v := 60) hx hb dX12_tap_63 (by decide) ?_
            refine lv_icmp_ne (tgt := 75) hx hb dX12_tap_65 (by decide) (fun c65 => ?_) (fun c65 => ?_)
            · have c65 : n ≠ 60 := n_ne (k := 60) c65
              refine lv_aload_n hx hb dX12_tap_75 rfl (lv_at hl 0 rfl) ?_
              refine r_get E h 26 (v := .ref (a 17)) (eM_0 cy a (fF σ 0 0)) rfl fw_X12 (by decide) fl_X12_58 rfl dX12_tap_76 ?_
              refine lv_aload_n hx hb dX12_tap_79 rfl (lv_at hl 0 rfl) ?_
              refine r_get E h 25 (v := .int (nI n)) (eM_0 cy a (fF σ 0 0)) rfl fw_X12 (by decide) fl_X12_202 (congrArg (fun z => some (Value.int z)) hn) dX12_tap_80 ?_
              refine lv_iload_n hx hb dX12_tap_83 rfl (lv_at hl 1 rfl) ?_
              refine r_iastN E h (f := σ.2.1 17) (eM_17 cy a (fF σ 0 0)) (j := n) (by omega) (by decide) (qM_17 cy a (fF σ 0 0) (upd (σ.2.1 17) n x)) dX12_tap_84 (fun H locs h => ?_)
              refine lv_aload_n hx hb dX12_tap_85 rfl (lv_at hl 0 rfl) ?_
              refine r_get E h 27 (v := .ref (a 18)) (eM_0 cy a (fR (fF σ 0 0) 17 (upd (σ.2.1 17) n x))) rfl fw_X12 (by decide) fl_X12_61 rfl dX12_tap_86 ?_
              refine lv_aload_n hx hb dX12_tap_89 rfl (lv_at hl 0 rfl) ?_
              refine r_get E h 25 (v := .int (nI n)) (eM_0 cy a (fR (fF σ 0 0) 17 (upd (σ.2.1 17) n x))) rfl fw_X12 (by decide) fl_X12_202 (congrArg (fun z => some (Value.int z)) hn) dX12_tap_90 ?_
              refine lv_iload_n hx hb dX12_tap_93 rfl (lv_at hl 2 rfl) ?_
              refine r_iastN E h (f := σ.2.1 18) (eM_18 cy a (fR (fF σ 0 0) 17 (upd (σ.2.1 17) n x))) (j := n) (by omega) (by decide) (qM_18 cy a (fR (fF σ 0 0) 17 (upd (σ.2.1 17) n x)) (upd (σ.2.1 18) n y)) dX12_tap_94 (fun H locs h => ?_)
              refine lv_aload_n hx hb dX12_tap_95 rfl (lv_at hl 0 rfl) ?_
              refine r_get E h 28 (v := .ref (a 19)) (eM_0 cy a (fR (fR (fF σ 0 0) 17 (upd (σ.2.1 17) n x)) 18 (upd (σ.2.1 18) n y))) rfl fw_X12 (by decide) fl_X12_64 rfl dX12_tap_96 ?_
              refine lv_aload_n hx hb dX12_tap_99 rfl (lv_at hl 0 rfl) ?_
              refine r_get E h 25 (v := .int (nI n)) (eM_0 cy a (fR (fR (fF σ 0 0) 17 (upd (σ.2.1 17) n x)) 18 (upd (σ.2.1 18) n y))) rfl fw_X12 (by decide) fl_X12_202 (congrArg (fun z => some (Value.int z)) hn) dX12_tap_100 ?_
              refine lv_iload_n hx hb dX12_tap_103 rfl (lv_at hl 3 rfl) ?_
              refine r_iastN E h (f := σ.2.1 19) (eM_19 cy a (fR (fR (fF σ 0 0) 17 (upd (σ.2.1 17) n x)) 18 (upd (σ.2.1 18) n y))) (j := n) (by omega) (by decide) (qM_19 cy a (fR (fR (fF σ 0 0) 17 (upd (σ.2.1 17) n x)) 18 (upd (σ.2.1 18) n y)) (upd (σ.2.1 19) n w)) dX12_tap_104 (fun H locs h => ?_)
              refine lv_aload_n hx hb dX12_tap_105 rfl (lv_at hl 0 rfl) ?_
              refine r_get E h 29 (v := .ref (a 20)) (eM_0 cy a (fR (fR (fR (fF σ 0 0) 17 (upd (σ.2.1 17) n x)) 18 (upd (σ.2.1 18) n y)) 19 (upd (σ.2.1 19) n w))) rfl fw_X12 (by decide) fl_X12_67 rfl dX12_tap_106 ?_
              refine lv_aload_n hx hb dX12_tap_109 rfl (lv_at hl 0 rfl) ?_
              refine r_get E h 25 (v := .int (nI n)) (eM_0 cy a (fR (fR (fR (fF σ 0 0) 17 (upd (σ.2.1 17) n x)) 18 (upd (σ.2.1 18) n y)) 19 (upd (σ.2.1 19) n w))) rfl fw_X12 (by decide) fl_X12_202 (congrArg (fun z => some (Value.int z)) hn) dX12_tap_110 ?_
              refine lv_iload hx hb dX12_tap_113 (lv_at hl 4 rfl) ?_
              refine r_iastN E h (f := σ.2.1 20) (eM_20 cy a (fR (fR (fR (fF σ 0 0) 17 (upd (σ.2.1 17) n x)) 18 (upd (σ.2.1 18) n y)) 19 (upd (σ.2.1 19) n w))) (j := n) (by omega) (by decide) (qM_20 cy a (fR (fR (fR (fF σ 0 0) 17 (upd (σ.2.1 17) n x)) 18 (upd (σ.2.1 18) n y)) 19 (upd (σ.2.1 19) n w)) (upd (σ.2.1 20) n v)) dX12_tap_115 (fun H locs h => ?_)
              refine lv_aload_n hx hb dX12_tap_116 rfl (lv_at hl 0 rfl) ?_
              refine lv_dup hx hb dX12_tap_117 rfl ?_
              refine r_get E h 25 (v := .int (nI n)) (eM_0 cy a (fR (fR (fR (fR (fF σ 0 0) 17 (upd (σ.2.1 17) n x)) 18 (upd (σ.2.1 18) n y)) 19 (upd (σ.2.1 19) n w)) 20 (upd (σ.2.1 20) n v))) rfl fw_X12 (by decide) fl_X12_202 (congrArg (fun z => some (Value.int z)) hn) dX12_tap_118 ?_
              refine lv_iconst (v := 1) hx hb dX12_tap_121 (by decide) ?_
              refine n_add (j := n) (k := 1) hx hb dX12_tap_122 ?_
              refine r_put E h 25 (ty := .int) (eM_0 cy a (fR (fR (fR (fR (fF σ 0 0) 17 (upd (σ.2.1 17) n x)) 18 (upd (σ.2.1 18) n y)) 19 (upd (σ.2.1 19) n w)) 20 (upd (σ.2.1 20) n v))) rfl fw_X12 tyX12_ok nmX12 (by decide) fl_X12_202 rfl (by decide +kernel) rfl rfl (Nat.le_of_ble_eq_true rfl) (sM_9 cy a (fR (fR (fR (fR (fF σ 0 0) 17 (upd (σ.2.1 17) n x)) 18 (upd (σ.2.1 18) n y)) 19 (upd (σ.2.1 19) n w)) 20 (upd (σ.2.1 20) n v)) (nI (n + 1))) dX12_tap_123 (fun H locs h => ?_)
              refine lv_aload_n hx hb dX12_tap_126 rfl (lv_at hl 0 rfl) ?_
              refine lv_aload_n hx hb dX12_tap_127 rfl (lv_at hl 0 rfl) ?_
              refine r_get E h 25 (v := .int (nI (n + 1))) (eM_0 cy a (fF (fR (fR (fR (fR (fF σ 0 0) 17 (upd (σ.2.1 17) n x)) 18 (upd (σ.2.1 18) n y)) 19 (upd (σ.2.1 19) n w)) 20 (upd (σ.2.1 20) n v)) 9 (nI (n + 1)))) rfl fw_X12 (by decide) fl_X12_202 rfl dX12_tap_128 ?_
              refine k_i h (q_runV (As := [.int (nI (n + 1))]) (rest := []) E h (c_X12_told l D cy a (fF (fR (fR (fR (fR (fF σ 0 0) 17 (upd (σ.2.1 17) n x)) 18 (upd (σ.2.1 18) n y)) 19 (upd (σ.2.1 19) n w)) 20 (upd (σ.2.1 20) n v)) 9 (nI (n + 1))) (nI (n + 1))) co_X12_told ml_X12_154 im_X12_told se_X12_told in_X12 (eM_0 cy a (fF (fR (fR (fR (fR (fF σ 0 0) 17 (upd (σ.2.1 17) n x)) 18 (upd (σ.2.1 18) n y)) 19 (upd (σ.2.1 19) n w)) 20 (upd (σ.2.1 20) n v)) 9 (nI (n + 1)))) rfl ok_X12_told rfl ⟨by decide, by decide⟩ hl.1 rfl (Nat.le_of_ble_eq_true rfl) dX12_tap_131 ⟨Nat.zero_le _, Nat.zero_le _⟩) (wM_fst cy a) (fun r131 τ131 H locs p131 h => ?_)
              exact t_i E h hr hk (Or.inr (Or.inr ⟨⟨w11.t c14, p18.2.t c21, p26.2.t c29, c35⟩, p46.2.t c49, Or.inr ⟨by omega, p131.1, (by obtain ⟨v9, e⟩ := p131.2; rw [e]; rfl), (by obtain ⟨v9, e⟩ := p131.2; rw [e]; exact (((((((K.rf.F 0 _ (by decide))).R 17 _ (by decide)).R 18 _ (by decide)).R 19 _ (by decide)).R 20 _ (by decide)).F 9 _ (by decide)).F 1 _ (by decide))⟩⟩)) dX12_tap_134
            · have c65 : n = 60 := n_eq (k := 60) (by omega) (by decide) c65
              refine lv_aload_n hx hb dX12_tap_68 rfl (lv_at hl 0 rfl) ?_
              refine lv_bipush (v := -5) hx hb dX12_tap_69 (by decide) ?_
              refine k_i h (q_runV (As := [.int (-5)]) (rest := []) E h (c_X12_told l D cy a (fF σ 0 0) (-5)) co_X12_told ml_X12_154 im_X12_told se_X12_told in_X12 (eM_0 cy a (fF σ 0 0)) rfl ok_X12_told rfl ⟨by decide, by decide⟩ hl.1 rfl (Nat.le_of_ble_eq_true rfl) dX12_tap_71 ⟨Nat.zero_le _, Nat.zero_le _⟩) (wM_fst cy a) (fun r71 τ71 H locs p71 h => ?_)
              exact t_i E h hr hk (Or.inr (Or.inr ⟨⟨w11.t c14, p18.2.t c21, p26.2.t c29, c35⟩, p46.2.t c49, Or.inl ⟨c65, p71.1, (by obtain ⟨v9, e⟩ := p71.2; rw [e]; exact (K.rf.F 0 _ (by decide)).F 1 _ (by decide))⟩⟩)) dX12_tap_74
          · refine lv_aload_n hx hb dX12_tap_52 rfl (lv_at hl 0 rfl) ?_
            refine lv_bipush (v := -2) hx hb dX12_tap_53 (by decide) ?_
            refine k_i h (q_runV (As := [.int (-2)]) (rest := []) E h (c_X12_told l D cy a (fF σ 0 0) (-2)) co_X12_told ml_X12_154 im_X12_told se_X12_told in_X12 (eM_0 cy a (fF σ 0 0)) rfl ok_X12_told rfl ⟨by decide, by decide⟩ hl.1 rfl (Nat.le_of_ble_eq_true rfl) dX12_tap_55 ⟨Nat.zero_le _, Nat.zero_le _⟩) (wM_fst cy a) (fun r55 τ55 H locs p55 h => ?_)
            exact t_i E h hr hk (Or.inr (Or.inl ⟨⟨w11.t c14, p18.2.t c21, p26.2.t c29, c35⟩, p46.2.f c49, p55.1, (by obtain ⟨v9, e⟩ := p55.2; rw [e]; exact (K.rf.F 0 _ (by decide)).F 1 _ (by decide))⟩)) dX12_tap_58
        · refine lv_aload_n hx hb dX12_tap_38 rfl (lv_at hl 0 rfl) ?_
          refine lv_iconst (v := -1) hx hb dX12_tap_39 (by decide) ?_
          refine k_i h (q_runV (As := [.int (-1)]) (rest := []) E h (c_X12_told l D cy a (fF σ 0 0) (-1)) co_X12_told ml_X12_154 im_X12_told se_X12_told in_X12 (eM_0 cy a (fF σ 0 0)) rfl ok_X12_told rfl ⟨by decide, by decide⟩ hl.1 rfl (Nat.le_of_ble_eq_true rfl) dX12_tap_40 ⟨Nat.zero_le _, Nat.zero_le _⟩) (wM_fst cy a) (fun r40 τ40 H locs p40 h => ?_)
          exact t_i E h hr hk (Or.inl ⟨fun q9 => c35 q9.2.2.2, p40.1, (by obtain ⟨v9, e⟩ := p40.2; rw [e]; exact (K.rf.F 0 _ (by decide)).F 1 _ (by decide))⟩) dX12_tap_43

set_option maxHeartbeats 4000000 in
set_option maxRecDepth 100000 in
theorem c_X12_repair (l : Launch) (D : va_G) (cy : Nat → ClassId) (a : Nat → Nat) (σ : St) (x y w : Int32) (q n : Nat) (hq : σ.1 5 = nI q) (hq4 : q ≤ 12) (hn : σ.1 10 = nI n) (hn6 : n ≤ 40) : CI l yX12_repair cX12_repair 4 (some .int) (rmOf 2 46) D cy (wM cy a) (AM a) [.ref (a 0), .int x, .int y, .int w] σ (fun r τ => (¬ (((0 : Int32) ≤ y ∧ y ≤ 200) ∧ ((0 : Int32) ≤ w ∧ w ≤ 200) ∧ y ≤ w) ∧ r = -1 ∧ K mF mA σ τ) ∨ ((((0 : Int32) ≤ y ∧ y ≤ 200) ∧ ((0 : Int32) ≤ w ∧ w ≤ 200) ∧ y ≤ w) ∧ ¬ ((0 : Int32) ≤ x ∧ x ≤ nI q - 1) ∧ r = -2 ∧ K mF mA σ τ) ∨ ((((0 : Int32) ≤ y ∧ y ≤ 200) ∧ ((0 : Int32) ≤ w ∧ w ≤ 200) ∧ y ≤ w) ∧ ((0 : Int32) ≤ x ∧ x ≤ nI q - 1) ∧ ((n = 40 ∧ r = -5 ∧ K mF mA σ τ) ∨ (n < 40 ∧ r = nI (n + 1) ∧ τ.1 10 = nI (n + 1) ∧ K [2, 3, 4, 5, 6, 7, 8, 9, 11, 13] [1, 2, 3, 4, 5, 6, 7, 8, 9, 10, 11, 12, 13, 14, 15, 16, 17, 18, 19, 20, 24, 25, 26, 27, 29] σ τ)))) := by
  refine c_of (lv := [(0, .ref (a 0)), (1, .int x), (2, .int y), (3, .int w)]) rfl (Nat.le_of_ble_eq_true rfl) rfl ?_
  intro p e s m args below meth c ls E h hr hk hl
  have hx := E.1
  have hb := E.2.1
  refine lv_aload_n hx hb dX12_repair_0 rfl (lv_at hl 0 rfl) ?_
  refine lv_iconst (v := 0) hx hb dX12_repair_1 (by decide) ?_
  refine r_put E h 0 (ty := .int) (eM_0 cy a σ) rfl fw_X12 tyX12_ok nmX12 (by decide) fl_X12_131 rfl (by decide +kernel) rfl rfl (Nat.le_of_ble_eq_true rfl) (sM_0 cy a σ 0) dX12_repair_2 (fun H locs h => ?_)
  refine lv_iload_n hx hb dX12_repair_5 rfl (lv_at hl 2 rfl) ?_
  refine k_i h (q_runS (As := [.int y]) (rest := []) E h (c_X12_isYear l D cy a (fF σ 0 0) y) co_X12_isYear ml_X12_161 st_X12_isYear in_X12 rfl ok_X12_isYear rfl ⟨by decide, by decide⟩ hl.1 rfl (Nat.le_of_ble_eq_true rfl) dX12_repair_6 ⟨Nat.zero_le _, Nat.zero_le _⟩) (wM_fst cy a) (fun r6 τ6 H locs p6 h => ?_)
  rw [p6.1] at h
  refine lv_if_eq (tgt := 24) hx hb dX12_repair_9 (by decide) (fun c9 => ?_) (fun c9 => ?_)
  · refine lv_aload_n hx hb dX12_repair_24 rfl (lv_at hl 0 rfl) ?_
    refine lv_iconst (v := -1) hx hb dX12_repair_25 (by decide) ?_
    refine k_i h (q_runV (As := [.int (-1)]) (rest := []) E h (c_X12_told l D cy a (fF σ 0 0) (-1)) co_X12_told ml_X12_154 im_X12_told se_X12_told in_X12 (eM_0 cy a (fF σ 0 0)) rfl ok_X12_told rfl ⟨by decide, by decide⟩ hl.1 rfl (Nat.le_of_ble_eq_true rfl) dX12_repair_26 ⟨Nat.zero_le _, Nat.zero_le _⟩) (wM_fst cy a) (fun r26 τ26 H locs p26 h => ?_)
    exact t_i E h hr hk (Or.inl ⟨fun q9 => p6.2.f c9 q9.1, p26.1, (by obtain ⟨v9, e⟩ := p26.2; rw [e]; exact (K.rf.F 0 _ (by decide)).F 1 _ (by decide))⟩) dX12_repair_29
  · refine lv_iload_n hx hb dX12_repair_12 rfl (lv_at hl 3 rfl) ?_
    refine k_i h (q_runS (As := [.int w]) (rest := []) E h (c_X12_isYear l D cy a (fF σ 0 0) w) co_X12_isYear ml_X12_161 st_X12_isYear in_X12 rfl ok_X12_isYear rfl ⟨by decide, by decide⟩ hl.1 rfl (Nat.le_of_ble_eq_true rfl) dX12_repair_13 ⟨Nat.zero_le _, Nat.zero_le _⟩) (wM_fst cy a) (fun r13 τ13 H locs p13 h => ?_)
    rw [p13.1] at h
    refine lv_if_eq (tgt := 24) hx hb dX12_repair_16 (by decide) (fun c16 => ?_) (fun c16 => ?_)
    · refine lv_aload_n hx hb dX12_repair_24 rfl (lv_at hl 0 rfl) ?_
      refine lv_iconst (v := -1) hx hb dX12_repair_25 (by decide) ?_
      refine k_i h (q_runV (As := [.int (-1)]) (rest := []) E h (c_X12_told l D cy a (fF σ 0 0) (-1)) co_X12_told ml_X12_154 im_X12_told se_X12_told in_X12 (eM_0 cy a (fF σ 0 0)) rfl ok_X12_told rfl ⟨by decide, by decide⟩ hl.1 rfl (Nat.le_of_ble_eq_true rfl) dX12_repair_26 ⟨Nat.zero_le _, Nat.zero_le _⟩) (wM_fst cy a) (fun r26 τ26 H locs p26 h => ?_)
      exact t_i E h hr hk (Or.inl ⟨fun q9 => p13.2.f c16 q9.2.1, p26.1, (by obtain ⟨v9, e⟩ := p26.2; rw [e]; exact (K.rf.F 0 _ (by decide)).F 1 _ (by decide))⟩) dX12_repair_29
    · refine lv_iload_n hx hb dX12_repair_19 rfl (lv_at hl 2 rfl) ?_
      refine lv_iload_n hx hb dX12_repair_20 rfl (lv_at hl 3 rfl) ?_
      refine lv_icmp_le (tgt := 30) hx hb dX12_repair_21 (by decide) (fun c21 => ?_) (fun c21 => ?_)
      · refine lv_aload_n hx hb dX12_repair_30 rfl (lv_at hl 0 rfl) ?_
        refine lv_iload_n hx hb dX12_repair_31 rfl (lv_at hl 1 rfl) ?_
        refine k_i h (q_runV (As := [.int x]) (rest := []) E h (c_X12_isCastle l D cy a (fF σ 0 0) x q hq (by omega)) co_X12_isCastle ml_X12_188 im_X12_isCastle se_X12_isCastle in_X12 (eM_0 cy a (fF σ 0 0)) rfl ok_X12_isCastle rfl ⟨by decide, by decide⟩ hl.1 rfl (Nat.le_of_ble_eq_true rfl) dX12_repair_32 ⟨Nat.zero_le _, Nat.zero_le _⟩) (wM_fst cy a) (fun r32 τ32 H locs p32 h => ?_)
        rw [p32.1] at h
        refine lv_if_ne (tgt := 45) hx hb dX12_repair_35 (by decide) (fun c35 => ?_) (fun c35 => ?_)
        · refine lv_aload_n hx hb dX12_repair_45 rfl (lv_at hl 0 rfl) ?_
          refine r_get E h 30 (v := .int (nI n)) (eM_0 cy a (fF σ 0 0)) rfl fw_X12 (by decide) fl_X12_205 (congrArg (fun z => some (Value.int z)) hn) dX12_repair_46 ?_
          refine lv_bipush (v := 40) hx hb dX12_repair_49 (by decide) ?_
          refine lv_icmp_ne (tgt := 61) hx hb dX12_repair_51 (by decide) (fun c51 => ?_) (fun c51 => ?_)
          · have c51 : n ≠ 40 := n_ne (k := 40) c51
            refine lv_aload_n hx hb dX12_repair_61 rfl (lv_at hl 0 rfl) ?_
            refine r_get E h 31 (v := .ref (a 21)) (eM_0 cy a (fF σ 0 0)) rfl fw_X12 (by decide) fl_X12_70 rfl dX12_repair_62 ?_
            refine lv_aload_n hx hb dX12_repair_65 rfl (lv_at hl 0 rfl) ?_
            refine r_get E h 30 (v := .int (nI n)) (eM_0 cy a (fF σ 0 0)) rfl fw_X12 (by decide) fl_X12_205 (congrArg (fun z => some (Value.int z)) hn) dX12_repair_66 ?_
            refine lv_iload_n hx hb dX12_repair_69 rfl (lv_at hl 1 rfl) ?_
            refine r_iastN E h (f := σ.2.1 21) (eM_21 cy a (fF σ 0 0)) (j := n) (by omega) (by decide) (qM_21 cy a (fF σ 0 0) (upd (σ.2.1 21) n x)) dX12_repair_70 (fun H locs h => ?_)
            refine lv_aload_n hx hb dX12_repair_71 rfl (lv_at hl 0 rfl) ?_
            refine r_get E h 32 (v := .ref (a 22)) (eM_0 cy a (fR (fF σ 0 0) 21 (upd (σ.2.1 21) n x))) rfl fw_X12 (by decide) fl_X12_73 rfl dX12_repair_72 ?_
            refine lv_aload_n hx hb dX12_repair_75 rfl (lv_at hl 0 rfl) ?_
            refine r_get E h 30 (v := .int (nI n)) (eM_0 cy a (fR (fF σ 0 0) 21 (upd (σ.2.1 21) n x))) rfl fw_X12 (by decide) fl_X12_205 (congrArg (fun z => some (Value.int z)) hn) dX12_repair_76 ?_
            refine lv_iload_n hx hb dX12_repair_79 rfl (lv_at hl 2 rfl) ?_
            refine r_iastN E h (f := σ.2.1 22) (eM_22 cy a (fR (fF σ 0 0) 21 (upd (σ.2.1 21) n x))) (j := n) (by omega) (by decide) (qM_22 cy a (fR (fF σ 0 0) 21 (upd (σ.2.1 21) n x)) (upd (σ.2.1 22) n y)) dX12_repair_80 (fun H locs h => ?_)
            refine lv_aload_n hx hb dX12_repair_81 rfl (lv_at hl 0 rfl) ?_
            refine r_get E h 33 (v := .ref (a 23)) (eM_0 cy a (fR (fR (fF σ 0 0) 21 (upd (σ.2.1 21) n x)) 22 (upd (σ.2.1 22) n y))) rfl fw_X12 (by decide) fl_X12_76 rfl dX12_repair_82 ?_
            refine lv_aload_n hx hb dX12_repair_85 rfl (lv_at hl 0 rfl) ?_
            refine r_get E h 30 (v := .int (nI n)) (eM_0 cy a (fR (fR (fF σ 0 0) 21 (upd (σ.2.1 21) n x)) 22 (upd (σ.2.1 22) n y))) rfl fw_X12 (by decide) fl_X12_205 (congrArg (fun z => some (Value.int z)) hn) dX12_repair_86 ?_
            refine lv_iload_n hx hb dX12_repair_89 rfl (lv_at hl 3 rfl) ?_
            refine r_iastN E h (f := σ.2.1 23) (eM_23 cy a (fR (fR (fF σ 0 0) 21 (upd (σ.2.1 21) n x)) 22 (upd (σ.2.1 22) n y))) (j := n) (by omega) (by decide) (qM_23 cy a (fR (fR (fF σ 0 0) 21 (upd (σ.2.1 21) n x)) 22 (upd (σ.2.1 22) n y)) (upd (σ.2.1 23) n w)) dX12_repair_90 (fun H locs h => ?_)
            refine lv_aload_n hx hb dX12_repair_91 rfl (lv_at hl 0 rfl) ?_
            refine lv_dup hx hb dX12_repair_92 rfl ?_
            refine r_get E h 30 (v := .int (nI n)) (eM_0 cy a (fR (fR (fR (fF σ 0 0) 21 (upd (σ.2.1 21) n x)) 22 (upd (σ.2.1 22) n y)) 23 (upd (σ.2.1 23) n w))) rfl fw_X12 (by decide) fl_X12_205 (congrArg (fun z => some (Value.int z)) hn) dX12_repair_93 ?_
            refine lv_iconst (v := 1) hx hb dX12_repair_96 (by decide) ?_
            refine n_add (j := n) (k := 1) hx hb dX12_repair_97 ?_
            refine r_put E h 30 (ty := .int) (eM_0 cy a (fR (fR (fR (fF σ 0 0) 21 (upd (σ.2.1 21) n x)) 22 (upd (σ.2.1 22) n y)) 23 (upd (σ.2.1 23) n w))) rfl fw_X12 tyX12_ok nmX12 (by decide) fl_X12_205 rfl (by decide +kernel) rfl rfl (Nat.le_of_ble_eq_true rfl) (sM_10 cy a (fR (fR (fR (fF σ 0 0) 21 (upd (σ.2.1 21) n x)) 22 (upd (σ.2.1 22) n y)) 23 (upd (σ.2.1 23) n w)) (nI (n + 1))) dX12_repair_98 (fun H locs h => ?_)
            refine lv_aload_n hx hb dX12_repair_101 rfl (lv_at hl 0 rfl) ?_
            refine lv_aload_n hx hb dX12_repair_102 rfl (lv_at hl 0 rfl) ?_
            refine r_get E h 30 (v := .int (nI (n + 1))) (eM_0 cy a (fF (fR (fR (fR (fF σ 0 0) 21 (upd (σ.2.1 21) n x)) 22 (upd (σ.2.1 22) n y)) 23 (upd (σ.2.1 23) n w)) 10 (nI (n + 1)))) rfl fw_X12 (by decide) fl_X12_205 rfl dX12_repair_103 ?_
            refine k_i h (q_runV (As := [.int (nI (n + 1))]) (rest := []) E h (c_X12_told l D cy a (fF (fR (fR (fR (fF σ 0 0) 21 (upd (σ.2.1 21) n x)) 22 (upd (σ.2.1 22) n y)) 23 (upd (σ.2.1 23) n w)) 10 (nI (n + 1))) (nI (n + 1))) co_X12_told ml_X12_154 im_X12_told se_X12_told in_X12 (eM_0 cy a (fF (fR (fR (fR (fF σ 0 0) 21 (upd (σ.2.1 21) n x)) 22 (upd (σ.2.1 22) n y)) 23 (upd (σ.2.1 23) n w)) 10 (nI (n + 1)))) rfl ok_X12_told rfl ⟨by decide, by decide⟩ hl.1 rfl (Nat.le_of_ble_eq_true rfl) dX12_repair_106 ⟨Nat.zero_le _, Nat.zero_le _⟩) (wM_fst cy a) (fun r106 τ106 H locs p106 h => ?_)
            exact t_i E h hr hk (Or.inr (Or.inr ⟨⟨p6.2.t c9, p13.2.t c16, c21⟩, p32.2.t c35, Or.inr ⟨by omega, p106.1, (by obtain ⟨v9, e⟩ := p106.2; rw [e]; rfl), (by obtain ⟨v9, e⟩ := p106.2; rw [e]; exact ((((((K.rf.F 0 _ (by decide))).R 21 _ (by decide)).R 22 _ (by decide)).R 23 _ (by decide)).F 10 _ (by decide)).F 1 _ (by decide))⟩⟩)) dX12_repair_109
          · have c51 : n = 40 := n_eq (k := 40) (by omega) (by decide) c51
            refine lv_aload_n hx hb dX12_repair_54 rfl (lv_at hl 0 rfl) ?_
            refine lv_bipush (v := -5) hx hb dX12_repair_55 (by decide) ?_
            refine k_i h (q_runV (As := [.int (-5)]) (rest := []) E h (c_X12_told l D cy a (fF σ 0 0) (-5)) co_X12_told ml_X12_154 im_X12_told se_X12_told in_X12 (eM_0 cy a (fF σ 0 0)) rfl ok_X12_told rfl ⟨by decide, by decide⟩ hl.1 rfl (Nat.le_of_ble_eq_true rfl) dX12_repair_57 ⟨Nat.zero_le _, Nat.zero_le _⟩) (wM_fst cy a) (fun r57 τ57 H locs p57 h => ?_)
            exact t_i E h hr hk (Or.inr (Or.inr ⟨⟨p6.2.t c9, p13.2.t c16, c21⟩, p32.2.t c35, Or.inl ⟨c51, p57.1, (by obtain ⟨v9, e⟩ := p57.2; rw [e]; exact (K.rf.F 0 _ (by decide)).F 1 _ (by decide))⟩⟩)) dX12_repair_60
        · refine lv_aload_n hx hb dX12_repair_38 rfl (lv_at hl 0 rfl) ?_
          refine lv_bipush (v := -2) hx hb dX12_repair_39 (by decide) ?_
          refine k_i h (q_runV (As := [.int (-2)]) (rest := []) E h (c_X12_told l D cy a (fF σ 0 0) (-2)) co_X12_told ml_X12_154 im_X12_told se_X12_told in_X12 (eM_0 cy a (fF σ 0 0)) rfl ok_X12_told rfl ⟨by decide, by decide⟩ hl.1 rfl (Nat.le_of_ble_eq_true rfl) dX12_repair_41 ⟨Nat.zero_le _, Nat.zero_le _⟩) (wM_fst cy a) (fun r41 τ41 H locs p41 h => ?_)
          exact t_i E h hr hk (Or.inr (Or.inl ⟨⟨p6.2.t c9, p13.2.t c16, c21⟩, p32.2.f c35, p41.1, (by obtain ⟨v9, e⟩ := p41.2; rw [e]; exact (K.rf.F 0 _ (by decide)).F 1 _ (by decide))⟩)) dX12_repair_44
      · refine lv_aload_n hx hb dX12_repair_24 rfl (lv_at hl 0 rfl) ?_
        refine lv_iconst (v := -1) hx hb dX12_repair_25 (by decide) ?_
        refine k_i h (q_runV (As := [.int (-1)]) (rest := []) E h (c_X12_told l D cy a (fF σ 0 0) (-1)) co_X12_told ml_X12_154 im_X12_told se_X12_told in_X12 (eM_0 cy a (fF σ 0 0)) rfl ok_X12_told rfl ⟨by decide, by decide⟩ hl.1 rfl (Nat.le_of_ble_eq_true rfl) dX12_repair_26 ⟨Nat.zero_le _, Nat.zero_le _⟩) (wM_fst cy a) (fun r26 τ26 H locs p26 h => ?_)
        exact t_i E h hr hk (Or.inl ⟨fun q9 => c21 q9.2.2, p26.1, (by obtain ⟨v9, e⟩ := p26.2; rw [e]; exact (K.rf.F 0 _ (by decide)).F 1 _ (by decide))⟩) dX12_repair_29
