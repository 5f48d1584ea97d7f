
section N2
variable {p : Program} {l : Launch} {e : Env} {R : Room} {s : State} {m : MethodId} {args : Array Value} {below : List Frame} {meth : Method} {c : Code} {H : Heap} {locs : List Loc} {cells slots : Nat} {Q : State → Prop}
variable {cc : ByteArray} {pc : Nat} {ls : Array Slot} {rest : List Value} {j k : Nat}
theorem n_subk (hk : k ≤ j) (hx : p.tables.exec = Jvm.exec) (hb : c.code = cc) (hdg : decode cc pc = .ok (.isub, 1)) (kk : W p l e R s m args below meth c H locs cells slots Q (F0 m (pc + 1) ls (.int (nI (j - k)) :: rest))) : W p l e R s m args below meth c H locs cells slots Q (F0 m pc ls (.int (nI k) :: .int (nI j) :: rest)) := by
  refine lv_isub hx hb hdg ?_
  rw [pk_sub hk]
  exact kk
end N2
theorem up_in {f : Nat → Int32} {n i : Nat} {x : Int32} {P : Nat → Int32 → Prop} (h : ∀ i, i < n → P i (f i)) (hx : P n x) (hi : i < n + 1) : P i (upd f n x i) := by
  by_cases e : i = n
  · subst e; rw [upd_s]; exact hx
  · rw [upd_n e]; exact h i (by omega)
theorem up_in2 {f f2 : Nat → Int32} {n i : Nat} {x x2 : Int32} {P : Int32 → Int32 → Prop} (h : ∀ i, i < n → P (f i) (f2 i)) (hx : P x x2) (hi : i < n + 1) : P (upd f n x i) (upd f2 n x2 i) := by
  by_cases e : i = n
  · subst e; rw [upd_s, upd_s]; exact hx
  · rw [upd_n e, upd_n e]; exact h i (by omega)
theorem src_j {x q : Int32} {n : Nat} (hn : n ≤ 12) (h : (x < 100 ∧ ((0 : Int32) ≤ x ∧ x ≤ q)) ∨ ((100 : Int32) ≤ x ∧ ((0 : Int32) ≤ x - 100 ∧ x - 100 ≤ nI n - 1))) : ∃ j, j < 12 ∧ ((100 : Int32) ≤ x → x - 100 = nI j) := by
  rcases h with h | h
  · exact ⟨0, by decide, fun q => absurd h.1 (Int32.not_lt.mpr q)⟩
  · obtain ⟨j, h1, h2, h3⟩ := z_in (N := 12) h.2.1 h.2.2 hn (by decide)
    exact ⟨j, h2, fun _ => h3⟩

theorem gx_build {σ τ : St} {n : Nat} {x : Int32} (hn : σ.1 12 = nI n) (h12 : τ.1 12 = nI (n + 1)) (hlt : n < 12) (e38 : τ.2.1 38 = upd (σ.2.1 38) n x) (hx : x < 100 → vp_in x 4) (gg : GRP (τ.2.1 53) (τ.2.1 52) 12 12) (g : GX σ) (h : K [0, 1, 3, 7, 9, 10, 11, 13, 14, 15] [18, 19, 20, 21, 22, 29, 30, 31, 33, 34, 35, 36, 41, 42, 43, 44, 45, 46, 47, 48, 49, 50, 51, 54, 55, 56, 57, 58, 59] σ τ) : GX τ := by
  obtain ⟨g1, g2, g3, g4, g5, g6, g7, g8⟩ := g
  refine ⟨?_, ?_, ?_, ?_, ?_, ?_, ?_, ?_⟩
  · unfold gTape at *; rw [h.1 3 (by decide)]; exact g1
  · unfold gBook at *; rw [h.1 7 (by decide), h.2 21 (by decide), h.2 22 (by decide)]; exact g2
  · unfold gDeaths at *; rw [h.1 9 (by decide), h.2 29 (by decide)]; exact g3
  · unfold gSprings at *; rw [h.1 10 (by decide), h.1 11 (by decide), h.2 34 (by decide)]; exact g4
  · obtain ⟨n9, h1, h2, h3⟩ := g5; have e9 : n9 = n := (nI_eq (by omega) (by omega)).mp (h2.symm.trans hn); subst e9; refine ⟨n9 + 1, by omega, h12, fun i hi => ?_⟩; rw [e38]; exact up_in (P := fun _ z => z < 100 → vp_in z 4) h3 hx hi
  · unfold gNozzles at *; rw [h.1 13 (by decide), h.2 42 (by decide), h.2 43 (by decide)]; exact g6
  · unfold gRest at *; rw [h.1 14 (by decide), h.1 15 (by decide), h.1 1 (by decide), h.1 0 (by decide)]; exact g7
  · exact ⟨gg, by rw [h.2 54 (by decide), h.2 55 (by decide)]; exact g8.2.1, by rw [h.2 56 (by decide), h.2 57 (by decide)]; exact g8.2.2.1, by rw [h.2 58 (by decide), h.2 59 (by decide)]; exact g8.2.2.2⟩

theorem gx_stamp {σ τ : St} {n : Nat} {x y : Int32} (hn : σ.1 13 = nI n) (h13 : τ.1 13 = nI (n + 1)) (hlt : n < 80) (e42 : τ.2.1 42 = upd (σ.2.1 42) n x) (e43 : τ.2.1 43 = upd (σ.2.1 43) n y) (hx : (x = 2 → vp_in y 40) ∧ (¬ x = 2 → vp_in y 8)) (gg : GRP (τ.2.1 55) (τ.2.1 54) 80 80) (g : GX σ) (h : K [0, 1, 3, 7, 9, 10, 11, 12, 14, 15] [18, 19, 20, 21, 22, 29, 30, 31, 33, 34, 35, 36, 38, 39, 40, 46, 47, 48, 49, 50, 51, 52, 53, 56, 57, 58, 59] σ τ) : GX τ := by
  obtain ⟨g1, g2, g3, g4, g5, g6, g7, g8⟩ := g
  refine ⟨?_, ?_, ?_, ?_, ?_, ?_, ?_, ?_⟩
  · unfold gTape at *; rw [h.1 3 (by decide)]; exact g1
  · unfold gBook at *; rw [h.1 7 (by decide), h.2 21 (by decide), h.2 22 (by decide)]; exact g2
  · unfold gDeaths at *; rw [h.1 9 (by decide), h.2 29 (by decide)]; exact g3
  · unfold gSprings at *; rw [h.1 10 (by decide), h.1 11 (by decide), h.2 34 (by decide)]; exact g4
  · unfold gCastles at *; rw [h.1 12 (by decide), h.2 38 (by decide)]; exact g5
  · obtain ⟨n9, h1, h2, h3⟩ := g6; have e9 : n9 = n := (nI_eq (by omega) (by omega)).mp (h2.symm.trans hn); subst e9; refine ⟨n9 + 1, by omega, h13, fun i hi => ?_⟩; rw [e42, e43]; exact up_in2 (P := fun z w => (z = 2 → vp_in w 40) ∧ (¬ z = 2 → vp_in w 8)) h3 hx hi
  · unfold gRest at *; rw [h.1 14 (by decide), h.1 15 (by decide), h.1 1 (by decide), h.1 0 (by decide)]; exact g7
  · exact ⟨by rw [h.2 52 (by decide), h.2 53 (by decide)]; exact g8.1, gg, by rw [h.2 56 (by decide), h.2 57 (by decide)]; exact g8.2.2.1, by rw [h.2 58 (by decide), h.2 59 (by decide)]; exact g8.2.2.2⟩

theorem gx_tap {σ τ : St} {k : Nat} (h14 : τ.1 14 = nI k) (hk : k ≤ 60) (gg : GRP (τ.2.1 57) (τ.2.1 56) 60 60) (g : GX σ) (h : K [0, 1, 3, 7, 9, 10, 11, 12, 13, 15] [18, 19, 20, 21, 22, 29, 30, 31, 33, 34, 35, 36, 38, 39, 40, 41, 42, 43, 44, 45, 49, 50, 51, 52, 53, 54, 55, 58, 59] σ τ) : GX τ := by
  obtain ⟨g1, g2, g3, g4, g5, g6, g7, g8⟩ := g
  refine ⟨?_, ?_, ?_, ?_, ?_, ?_, ?_, ?_⟩
  · unfold gTape at *; rw [h.1 3 (by decide)]; exact g1
  · unfold gBook at *; rw [h.1 7 (by decide), h.2 21 (by decide), h.2 22 (by decide)]; exact g2
  · unfold gDeaths at *; rw [h.1 9 (by decide), h.2 29 (by decide)]; exact g3
  · unfold gSprings at *; rw [h.1 10 (by decide), h.1 11 (by decide), h.2 34 (by decide)]; exact g4
  · unfold gCastles at *; rw [h.1 12 (by decide), h.2 38 (by decide)]; exact g5
  · unfold gNozzles at *; rw [h.1 13 (by decide), h.2 42 (by decide), h.2 43 (by decide)]; exact g6
  · exact ⟨⟨k, hk, h14⟩, by rw [h.1 15 (by decide)]; exact g7.2.1, by rw [h.1 1 (by decide)]; exact g7.2.2.1, by rw [h.1 0 (by decide)]; exact g7.2.2.2⟩
  · exact ⟨by rw [h.2 52 (by decide), h.2 53 (by decide)]; exact g8.1, by rw [h.2 54 (by decide), h.2 55 (by decide)]; exact g8.2.1, gg, by rw [h.2 58 (by decide), h.2 59 (by decide)]; exact g8.2.2.2⟩

theorem gx_repair {σ τ : St} {k : Nat} (h15 : τ.1 15 = nI k) (hk : k ≤ 40) (gg : GRP (τ.2.1 59) (τ.2.1 58) 40 40) (g : GX σ) (h : K [0, 1, 3, 7, 9, 10, 11, 12, 13, 14] [18, 19, 20, 21, 22, 29, 30, 31, 33, 34, 35, 36, 38, 39, 40, 41, 42, 43, 44, 45, 46, 47, 48, 52, 53, 54, 55, 56, 57] σ τ) : GX τ := by
  obtain ⟨g1, g2, g3, g4, g5, g6, g7, g8⟩ := g
  refine ⟨?_, ?_, ?_, ?_, ?_, ?_, ?_, ?_⟩
  · unfold gTape at *; rw [h.1 3 (by decide)]; exact g1
  · unfold gBook at *; rw [h.1 7 (by decide), h.2 21 (by decide), h.2 22 (by decide)]; exact g2
  · unfold gDeaths at *; rw [h.1 9 (by decide), h.2 29 (by decide)]; exact g3
  · unfold gSprings at *; rw [h.1 10 (by decide), h.1 11 (by decide), h.2 34 (by decide)]; exact g4
  · unfold gCastles at *; rw [h.1 12 (by decide), h.2 38 (by decide)]; exact g5
  · unfold gNozzles at *; rw [h.1 13 (by decide), h.2 42 (by decide), h.2 43 (by decide)]; exact g6
  · exact ⟨by rw [h.1 14 (by decide)]; exact g7.1, ⟨k, hk, h15⟩, by rw [h.1 1 (by decide)]; exact g7.2.2.1, by rw [h.1 0 (by decide)]; exact g7.2.2.2⟩
  · exact ⟨by rw [h.2 52 (by decide), h.2 53 (by decide)]; exact g8.1, by rw [h.2 54 (by decide), h.2 55 (by decide)]; exact g8.2.1, by rw [h.2 56 (by decide), h.2 57 (by decide)]; exact g8.2.2.1, gg⟩

set_option maxHeartbeats 4000000 in
set_option maxRecDepth 100000 in
theorem c_X0_build (l : Launch) (D : va_G) (cy : Nat → ClassId) (a : Nat → Nat) (σ : St) (x y w : Int32) (j n z : Nat) (hn : σ.1 12 = nI n) (hn2 : n ≤ 12) (hj : (100 : Int32) ≤ x → x - 100 = nI j) (hj2 : j < 12) (hz : σ.2.1 53 j = nI z) (hz2 : z ≤ 12) : CI l yX0_build cX0_build 4 (some .int) (rmOf 2 44) D cy (wX cy a) (AX a) [.ref (a 7), .int x, .int y, .int w] σ (fun r τ => (n = 12 ∧ r = -5 ∧ τ = σ) ∨ (n < 12 ∧ r = nI n ∧ τ.1 12 = nI (n + 1) ∧ K [0, 1, 3, 7, 9, 10, 11, 13, 14, 15] [18, 19, 20, 21, 22, 29, 30, 31, 33, 34, 35, 36, 41, 42, 43, 44, 45, 46, 47, 48, 49, 50, 51, 54, 55, 56, 57, 58, 59] σ τ ∧ τ.2.1 38 = upd (σ.2.1 38) n x ∧ (GRP (σ.2.1 53) (σ.2.1 52) 12 12 → GRP (τ.2.1 53) (τ.2.1 52) 12 12))) := by
  refine c_of (lv := [(0, .ref (a 7)), (1, .int x), (2, .int y), (3, .int w)]) rfl (Nat.le_of_ble_eq_true rfl) rfl ?_
  intro p e s m args below meth c ls E h hr hk hl
  have hx := E.1
  have hb := E.2.1
  refine lv_aload_n hx hb dX0_build_0 rfl (lv_at hl 0 rfl) ?_
  refine r_get E h 4 (v := .int (nI n)) (eX_7 cy a σ) rfl fw_X0 (by decide) fl_X0_30 (congrArg (fun z => some (Value.int z)) hn) dX0_build_1 ?_
  refine lv_bipush (v := 12) hx hb dX0_build_4 (by decide) ?_
  refine lv_icmp_lt (tgt := 12) hx hb dX0_build_6 (by decide) (fun c6 => ?_) (fun c6 => ?_)
  · have c6 : n < 12 := n_lt (by omega) (by decide) c6
    refine lv_aload_n hx hb dX0_build_12 rfl (lv_at hl 0 rfl) ?_
    refine r_get E h 0 (v := .ref (a 38)) (eX_7 cy a σ) rfl fw_X0 (by decide) fl_X0_9 rfl dX0_build_13 ?_
    refine lv_aload_n hx hb dX0_build_16 rfl (lv_at hl 0 rfl) ?_
    refine r_get E h 4 (v := .int (nI n)) (eX_7 cy a σ) rfl fw_X0 (by decide) fl_X0_30 (congrArg (fun z => some (Value.int z)) hn) dX0_build_17 ?_
    refine lv_iload_n hx hb dX0_build_20 rfl (lv_at hl 1 rfl) ?_
    refine r_iastN E h (f := σ.2.1 38) (eX_38 cy a σ) (j := n) c6 (by decide) (qX_38 cy a σ (upd (σ.2.1 38) n x)) dX0_build_21 (fun H locs h => ?_)
    refine lv_aload_n hx hb dX0_build_22 rfl (lv_at hl 0 rfl) ?_
    refine r_get E h 1 (v := .ref (a 39)) (eX_7 cy a (fR σ 38 (upd (σ.2.1 38) n x))) rfl fw_X0 (by decide) fl_X0_15 rfl dX0_build_23 ?_
    refine lv_aload_n hx hb dX0_build_26 rfl (lv_at hl 0 rfl) ?_
    refine r_get E h 4 (v := .int (nI n)) (eX_7 cy a (fR σ 38 (upd (σ.2.1 38) n x))) rfl fw_X0 (by decide) fl_X0_30 (congrArg (fun z => some (Value.int z)) hn) dX0_build_27 ?_
    refine lv_iload_n hx hb dX0_build_30 rfl (lv_at hl 2 rfl) ?_
    refine r_iastN E h (f := σ.2.1 39) (eX_39 cy a (fR σ 38 (upd (σ.2.1 38) n x))) (j := n) c6 (by decide) (qX_39 cy a (fR σ 38 (upd (σ.2.1 38) n x)) (upd (σ.2.1 39) n y)) dX0_build_31 (fun H locs h => ?_)
    refine lv_aload_n hx hb dX0_build_32 rfl (lv_at hl 0 rfl) ?_
    refine r_get E h 2 (v := .ref (a 40)) (eX_7 cy a (fR (fR σ 38 (upd (σ.2.1 38) n x)) 39 (upd (σ.2.1 39) n y))) rfl fw_X0 (by decide) fl_X0_18 rfl dX0_build_33 ?_
    refine lv_aload_n hx hb dX0_build_36 rfl (lv_at hl 0 rfl) ?_
    refine r_get E h 4 (v := .int (nI n)) (eX_7 cy a (fR (fR σ 38 (upd (σ.2.1 38) n x)) 39 (upd (σ.2.1 39) n y))) rfl fw_X0 (by decide) fl_X0_30 (congrArg (fun z => some (Value.int z)) hn) dX0_build_37 ?_
    refine lv_iload_n hx hb dX0_build_40 rfl (lv_at hl 3 rfl) ?_
    refine r_iastN E h (f := σ.2.1 40) (eX_40 cy a (fR (fR σ 38 (upd (σ.2.1 38) n x)) 39 (upd (σ.2.1 39) n y))) (j := n) c6 (by decide) (qX_40 cy a (fR (fR σ 38 (upd (σ.2.1 38) n x)) 39 (upd (σ.2.1 39) n y)) (upd (σ.2.1 40) n w)) dX0_build_41 (fun H locs h => ?_)
    refine lv_iload_n hx hb dX0_build_42 rfl (lv_at hl 1 rfl) ?_
    refine lv_bipush (v := 100) hx hb dX0_build_43 (by decide) ?_
    refine lv_icmp_lt (tgt := 63) hx hb dX0_build_45 (by decide) (fun c45 => ?_) (fun c45 => ?_)
    · skip
      refine lv_aload_n hx hb dX0_build_63 rfl (lv_at hl 0 rfl) ?_
      refine lv_dup hx hb dX0_build_64 rfl ?_
      refine r_get E h 4 (v := .int (nI n)) (eX_7 cy a (fR (fR (fR σ 38 (upd (σ.2.1 38) n x)) 39 (upd (σ.2.1 39) n y)) 40 (upd (σ.2.1 40) n w))) rfl fw_X0 (by decide) fl_X0_30 (congrArg (fun z => some (Value.int z)) hn) dX0_build_65 ?_
      refine lv_iconst (v := 1) hx hb dX0_build_68 (by decide) ?_
      refine n_add (j := n) (k := 1) hx hb dX0_build_69 ?_
      refine r_put E h 4 (ty := .int) (eX_7 cy a (fR (fR (fR σ 38 (upd (σ.2.1 38) n x)) 39 (upd (σ.2.1 39) n y)) 40 (upd (σ.2.1 40) n w))) rfl fw_X0 tyX0_ok nmX0 (by decide) fl_X0_30 rfl (by decide +kernel) rfl rfl (Nat.le_of_ble_eq_true rfl) (sX_12 cy a (fR (fR (fR σ 38 (upd (σ.2.1 38) n x)) 39 (upd (σ.2.1 39) n y)) 40 (upd (σ.2.1 40) n w)) (nI (n + 1))) dX0_build_70 (fun H locs h => ?_)
      refine lv_aload_n hx hb dX0_build_73 rfl (lv_at hl 0 rfl) ?_
      refine r_get E h 4 (v := .int (nI (n + 1))) (eX_7 cy a (fF (fR (fR (fR σ 38 (upd (σ.2.1 38) n x)) 39 (upd (σ.2.1 39) n y)) 40 (upd (σ.2.1 40) n w)) 12 (nI (n + 1)))) rfl fw_X0 (by decide) fl_X0_30 rfl dX0_build_74 ?_
      refine lv_iconst (v := 1) hx hb dX0_build_77 (by decide) ?_
      refine n_sub1 hx hb dX0_build_78 ?_
      exact t_i E h hr hk (Or.inr ⟨c6, rfl, rfl, ((((K.rf.R 38 _ (by decide)).R 39 _ (by decide)).R 40 _ (by decide)).F 12 _ (by decide)), rfl, fun g => g⟩) dX0_build_79
    · refine lv_aload_n hx hb dX0_build_48 rfl (lv_at hl 0 rfl) ?_
      refine r_get E h 3 (v := .ref (a 11)) (eX_7 cy a (fR (fR (fR σ 38 (upd (σ.2.1 38) n x)) 39 (upd (σ.2.1 39) n y)) 40 (upd (σ.2.1 40) n w))) rfl fw_X0 (by decide) fl_X0_26 rfl dX0_build_49 ?_
      refine lv_iload_n hx hb dX0_build_52 rfl (lv_at hl 1 rfl) ?_
      refine lv_bipush (v := 100) hx hb dX0_build_53 (by decide) ?_
      refine lv_isub hx hb dX0_build_55 ?_
      rw [hj (Int32.not_lt.mp c45)]
      refine lv_aload_n hx hb dX0_build_56 rfl (lv_at hl 0 rfl) ?_
      refine r_get E h 4 (v := .int (nI n)) (eX_7 cy a (fR (fR (fR σ 38 (upd (σ.2.1 38) n x)) 39 (upd (σ.2.1 39) n y)) 40 (upd (σ.2.1 40) n w))) rfl fw_X0 (by decide) fl_X0_30 (congrArg (fun z => some (Value.int z)) hn) dX0_build_57 ?_
      refine k_v h (q_runV (As := [.int (nI j), .int (nI n)]) (rest := []) E h (c_X3_put_gC l D cy a (fR (fR (fR σ 38 (upd (σ.2.1 38) n x)) 39 (upd (σ.2.1 39) n y)) 40 (upd (σ.2.1 40) n w)) j (nI n) z hj2 hz hz2) co_X3_put ml_X0_38 im_X3_put se_X3_put in_X3 (eX_11 cy a (fR (fR (fR σ 38 (upd (σ.2.1 38) n x)) 39 (upd (σ.2.1 39) n y)) 40 (upd (σ.2.1 40) n w))) rfl ok_X3_put rfl ⟨by decide, by decide⟩ hl.1 rfl (Nat.le_of_ble_eq_true rfl) dX0_build_60 ⟨Nat.zero_le _, Nat.zero_le _⟩) (wX_fst cy a) (fun τ60 H locs p60 h => ?_)
      have hF : τ60.1 12 = nI n := by rcases p60 with ⟨_, e⟩ | ⟨_, e⟩ <;> rw [e] <;> exact hn
      refine lv_aload_n hx hb dX0_build_63 rfl (lv_at hl 0 rfl) ?_
      refine lv_dup hx hb dX0_build_64 rfl ?_
      refine r_get E h 4 (v := .int (nI n)) (eX_7 cy a τ60) rfl fw_X0 (by decide) fl_X0_30 (congrArg (fun z => some (Value.int z)) hF) dX0_build_65 ?_
      refine lv_iconst (v := 1) hx hb dX0_build_68 (by decide) ?_
      refine n_add (j := n) (k := 1) hx hb dX0_build_69 ?_
      refine r_put E h 4 (ty := .int) (eX_7 cy a τ60) rfl fw_X0 tyX0_ok nmX0 (by decide) fl_X0_30 rfl (by decide +kernel) rfl rfl (Nat.le_of_ble_eq_true rfl) (sX_12 cy a τ60 (nI (n + 1))) dX0_build_70 (fun H locs h => ?_)
      refine lv_aload_n hx hb dX0_build_73 rfl (lv_at hl 0 rfl) ?_
      refine r_get E h 4 (v := .int (nI (n + 1))) (eX_7 cy a (fF τ60 12 (nI (n + 1)))) rfl fw_X0 (by decide) fl_X0_30 rfl dX0_build_74 ?_
      refine lv_iconst (v := 1) hx hb dX0_build_77 (by decide) ?_
      refine n_sub1 hx hb dX0_build_78 ?_
      refine t_i E h hr hk ?_ dX0_build_79
      rcases p60 with ⟨_, rfl⟩ | ⟨hlt, rfl⟩
      · exact Or.inr ⟨c6, rfl, rfl, ((((K.rf.R 38 _ (by decide)).R 39 _ (by decide)).R 40 _ (by decide)).F 12 _ (by decide)), rfl, fun g => g⟩
      · exact Or.inr ⟨c6, rfl, rfl, (((((((K.rf.R 38 _ (by decide)).R 39 _ (by decide)).R 40 _ (by decide)).R 52 _ (by decide)).R 53 _ (by decide)).F 12 _ (by decide))), rfl, fun g => grp_put g hz hlt (by decide) (vp_in_nI c6 (by decide))⟩
  · have c6 : 12 ≤ n := n_nlt (by omega) (by decide) c6
    refine lv_bipush (v := -5) hx hb dX0_build_9 (by decide) ?_
    exact t_i E h hr hk (Or.inl ⟨by omega, rfl, rfl⟩) dX0_build_11

set_option maxHeartbeats 4000000 in
set_option maxRecDepth 100000 in
theorem c_X6_stamp (l : Launch) (D : va_G) (cy : Nat → ClassId) (a : Nat → Nat) (σ : St) (j : Nat) (x y w v : Int32) (n z : Nat) (hn : σ.1 13 = nI n) (hn2 : n ≤ 80) (hj2 : j < 12) (hz : σ.2.1 55 j = nI z) (hz2 : z ≤ 80) : CI l yX6_stamp cX6_stamp 6 (some .int) (rmOf 2 44) D cy (wX cy a) (AX a) [.ref (a 8), .int (nI j), .int x, .int y, .int w, .int v] σ (fun r τ => (n = 80 ∧ r = -5 ∧ τ = σ) ∨ (n < 80 ∧ τ.1 13 = nI (n + 1) ∧ K [0, 1, 3, 7, 9, 10, 11, 12, 14, 15] [18, 19, 20, 21, 22, 29, 30, 31, 33, 34, 35, 36, 38, 39, 40, 46, 47, 48, 49, 50, 51, 52, 53, 56, 57, 58, 59] σ τ ∧ τ.2.1 42 = upd (σ.2.1 42) n y ∧ τ.2.1 43 = upd (σ.2.1 43) n w ∧ (GRP (σ.2.1 55) (σ.2.1 54) 80 80 → GRP (τ.2.1 55) (τ.2.1 54) 80 80))) := by
  refine c_of (lv := [(0, .ref (a 8)), (1, .int (nI j)), (2, .int x), (3, .int y), (4, .int w), (5, .int v)]) rfl (Nat.le_of_ble_eq_true rfl) rfl ?_
  intro p e s m args below meth c ls E h hr hk hl
  have hx := E.1
  have hb := E.2.1
  refine lv_aload_n hx hb dX6_stamp_0 rfl (lv_at hl 0 rfl) ?_
  refine r_get E h 6 (v := .int (nI n)) (eX_8 cy a σ) rfl fw_X6 (by decide) fl_X6_36 (congrArg (fun z => some (Value.int z)) hn) dX6_stamp_1 ?_
  refine lv_bipush (v := 80) hx hb dX6_stamp_4 (by decide) ?_
  refine lv_icmp_lt (tgt := 12) hx hb dX6_stamp_6 (by decide) (fun c6 => ?_) (fun c6 => ?_)
  · have c6 : n < 80 := n_lt (by omega) (by decide) c6
    refine lv_aload_n hx hb dX6_stamp_12 rfl (lv_at hl 0 rfl) ?_
    refine r_get E h 0 (v := .ref (a 41)) (eX_8 cy a σ) rfl fw_X6 (by decide) fl_X6_9 rfl dX6_stamp_13 ?_
    refine lv_aload_n hx hb dX6_stamp_16 rfl (lv_at hl 0 rfl) ?_
    refine r_get E h 6 (v := .int (nI n)) (eX_8 cy a σ) rfl fw_X6 (by decide) fl_X6_36 (congrArg (fun z => some (Value.int z)) hn) dX6_stamp_17 ?_
    refine lv_iload_n hx hb dX6_stamp_20 rfl (lv_at hl 2 rfl) ?_
    refine r_iastN E h (f := σ.2.1 41) (eX_41 cy a σ) (j := n) c6 (by decide) (qX_41 cy a σ (upd (σ.2.1 41) n x)) dX6_stamp_21 (fun H locs h => ?_)
    refine lv_aload_n hx hb dX6_stamp_22 rfl (lv_at hl 0 rfl) ?_
    refine r_get E h 1 (v := .ref (a 42)) (eX_8 cy a (fR σ 41 (upd (σ.2.1 41) n x))) rfl fw_X6 (by decide) fl_X6_15 rfl dX6_stamp_23 ?_
    refine lv_aload_n hx hb dX6_stamp_26 rfl (lv_at hl 0 rfl) ?_
    refine r_get E h 6 (v := .int (nI n)) (eX_8 cy a (fR σ 41 (upd (σ.2.1 41) n x))) rfl fw_X6 (by decide) fl_X6_36 (congrArg (fun z => some (Value.int z)) hn) dX6_stamp_27 ?_
    refine lv_iload_n hx hb dX6_stamp_30 rfl (lv_at hl 3 rfl) ?_
    refine r_iastN E h (f := σ.2.1 42) (eX_42 cy a (fR σ 41 (upd (σ.2.1 41) n x))) (j := n) c6 (by decide) (qX_42 cy a (fR σ 41 (upd (σ.2.1 41) n x)) (upd (σ.2.1 42) n y)) dX6_stamp_31 (fun H locs h => ?_)
    refine lv_aload_n hx hb dX6_stamp_32 rfl (lv_at hl 0 rfl) ?_
    refine r_get E h 2 (v := .ref (a 43)) (eX_8 cy a (fR (fR σ 41 (upd (σ.2.1 41) n x)) 42 (upd (σ.2.1 42) n y))) rfl fw_X6 (by decide) fl_X6_18 rfl dX6_stamp_33 ?_
    refine lv_aload_n hx hb dX6_stamp_36 rfl (lv_at hl 0 rfl) ?_
    refine r_get E h 6 (v := .int (nI n)) (eX_8 cy a (fR (fR σ 41 (upd (σ.2.1 41) n x)) 42 (upd (σ.2.1 42) n y))) rfl fw_X6 (by decide) fl_X6_36 (congrArg (fun z => some (Value.int z)) hn) dX6_stamp_37 ?_
    refine lv_iload hx hb dX6_stamp_40 (lv_at hl 4 rfl) ?_
    refine r_iastN E h (f := σ.2.1 43) (eX_43 cy a (fR (fR σ 41 (upd (σ.2.1 41) n x)) 42 (upd (σ.2.1 42) n y))) (j := n) c6 (by decide) (qX_43 cy a (fR (fR σ 41 (upd (σ.2.1 41) n x)) 42 (upd (σ.2.1 42) n y)) (upd (σ.2.1 43) n w)) dX6_stamp_42 (fun H locs h => ?_)
    refine lv_aload_n hx hb dX6_stamp_43 rfl (lv_at hl 0 rfl) ?_
    refine r_get E h 3 (v := .ref (a 44)) (eX_8 cy a (fR (fR (fR σ 41 (upd (σ.2.1 41) n x)) 42 (upd (σ.2.1 42) n y)) 43 (upd (σ.2.1 43) n w))) rfl fw_X6 (by decide) fl_X6_21 rfl dX6_stamp_44 ?_
    refine lv_aload_n hx hb dX6_stamp_47 rfl (lv_at hl 0 rfl) ?_
    refine r_get E h 6 (v := .int (nI n)) (eX_8 cy a (fR (fR (fR σ 41 (upd (σ.2.1 41) n x)) 42 (upd (σ.2.1 42) n y)) 43 (upd (σ.2.1 43) n w))) rfl fw_X6 (by decide) fl_X6_36 (congrArg (fun z => some (Value.int z)) hn) dX6_stamp_48 ?_
    refine lv_iload hx hb dX6_stamp_51 (lv_at hl 5 rfl) ?_
    refine r_iastN E h (f := σ.2.1 44) (eX_44 cy a (fR (fR (fR σ 41 (upd (σ.2.1 41) n x)) 42 (upd (σ.2.1 42) n y)) 43 (upd (σ.2.1 43) n w))) (j := n) c6 (by decide) (qX_44 cy a (fR (fR (fR σ 41 (upd (σ.2.1 41) n x)) 42 (upd (σ.2.1 42) n y)) 43 (upd (σ.2.1 43) n w)) (upd (σ.2.1 44) n v)) dX6_stamp_53 (fun H locs h => ?_)
    refine lv_aload_n hx hb dX6_stamp_54 rfl (lv_at hl 0 rfl) ?_
    refine r_get E h 4 (v := .ref (a 45)) (eX_8 cy a (fR (fR (fR (fR σ 41 (upd (σ.2.1 41) n x)) 42 (upd (σ.2.1 42) n y)) 43 (upd (σ.2.1 43) n w)) 44 (upd (σ.2.1 44) n v))) rfl fw_X6 (by decide) fl_X6_24 rfl dX6_stamp_55 ?_
    refine lv_aload_n hx hb dX6_stamp_58 rfl (lv_at hl 0 rfl) ?_
    refine r_get E h 6 (v := .int (nI n)) (eX_8 cy a (fR (fR (fR (fR σ 41 (upd (σ.2.1 41) n x)) 42 (upd (σ.2.1 42) n y)) 43 (upd (σ.2.1 43) n w)) 44 (upd (σ.2.1 44) n v))) rfl fw_X6 (by decide) fl_X6_36 (congrArg (fun z => some (Value.int z)) hn) dX6_stamp_59 ?_
    refine lv_sipush (v := 200) hx hb dX6_stamp_62 (by decide) ?_
    refine r_iastN E h (f := σ.2.1 45) (eX_45 cy a (fR (fR (fR (fR σ 41 (upd (σ.2.1 41) n x)) 42 (upd (σ.2.1 42) n y)) 43 (upd (σ.2.1 43) n w)) 44 (upd (σ.2.1 44) n v))) (j := n) c6 (by decide) (qX_45 cy a (fR (fR (fR (fR σ 41 (upd (σ.2.1 41) n x)) 42 (upd (σ.2.1 42) n y)) 43 (upd (σ.2.1 43) n w)) 44 (upd (σ.2.1 44) n v)) (upd (σ.2.1 45) n 200)) dX6_stamp_65 (fun H locs h => ?_)
    refine lv_aload_n hx hb dX6_stamp_66 rfl (lv_at hl 0 rfl) ?_
    refine r_get E h 5 (v := .ref (a 12)) (eX_8 cy a (fR (fR (fR (fR (fR σ 41 (upd (σ.2.1 41) n x)) 42 (upd (σ.2.1 42) n y)) 43 (upd (σ.2.1 43) n w)) 44 (upd (σ.2.1 44) n v)) 45 (upd (σ.2.1 45) n 200))) rfl fw_X6 (by decide) fl_X6_32 rfl dX6_stamp_67 ?_
    refine lv_iload_n hx hb dX6_stamp_70 rfl (lv_at hl 1 rfl) ?_
    refine lv_aload_n hx hb dX6_stamp_71 rfl (lv_at hl 0 rfl) ?_
    refine r_get E h 6 (v := .int (nI n)) (eX_8 cy a (fR (fR (fR (fR (fR σ 41 (upd (σ.2.1 41) n x)) 42 (upd (σ.2.1 42) n y)) 43 (upd (σ.2.1 43) n w)) 44 (upd (σ.2.1 44) n v)) 45 (upd (σ.2.1 45) n 200))) rfl fw_X6 (by decide) fl_X6_36 (congrArg (fun z => some (Value.int z)) hn) dX6_stamp_72 ?_
    refine k_v h (q_runV (As := [.int (nI j), .int (nI n)]) (rest := []) E h (c_X3_put_gN l D cy a (fR (fR (fR (fR (fR σ 41 (upd (σ.2.1 41) n x)) 42 (upd (σ.2.1 42) n y)) 43 (upd (σ.2.1 43) n w)) 44 (upd (σ.2.1 44) n v)) 45 (upd (σ.2.1 45) n 200)) j (nI n) z hj2 hz hz2) co_X3_put ml_X6_44 im_X3_put se_X3_put in_X3 (eX_12 cy a (fR (fR (fR (fR (fR σ 41 (upd (σ.2.1 41) n x)) 42 (upd (σ.2.1 42) n y)) 43 (upd (σ.2.1 43) n w)) 44 (upd (σ.2.1 44) n v)) 45 (upd (σ.2.1 45) n 200))) rfl ok_X3_put rfl ⟨by decide, by decide⟩ hl.1 rfl (Nat.le_of_ble_eq_true rfl) dX6_stamp_75 ⟨Nat.zero_le _, Nat.zero_le _⟩) (wX_fst cy a) (fun τ75 H locs p75 h => ?_)
    have hF : τ75.1 13 = nI n := by rcases p75 with ⟨_, e⟩ | ⟨_, e⟩ <;> rw [e] <;> exact hn
    refine lv_aload_n hx hb dX6_stamp_78 rfl (lv_at hl 0 rfl) ?_
    refine lv_dup hx hb dX6_stamp_79 rfl ?_
    refine r_get E h 6 (v := .int (nI n)) (eX_8 cy a τ75) rfl fw_X6 (by decide) fl_X6_36 (congrArg (fun z => some (Value.int z)) hF) dX6_stamp_80 ?_
    refine lv_iconst (v := 1) hx hb dX6_stamp_83 (by decide) ?_
    refine n_add (j := n) (k := 1) hx hb dX6_stamp_84 ?_
    refine r_put E h 6 (ty := .int) (eX_8 cy a τ75) rfl fw_X6 tyX6_ok nmX6 (by decide) fl_X6_36 rfl (by decide +kernel) rfl rfl (Nat.le_of_ble_eq_true rfl) (sX_13 cy a τ75 (nI (n + 1))) dX6_stamp_85 (fun H locs h => ?_)
    refine lv_aload_n hx hb dX6_stamp_88 rfl (lv_at hl 0 rfl) ?_
    refine r_get E h 6 (v := .int (nI (n + 1))) (eX_8 cy a (fF τ75 13 (nI (n + 1)))) rfl fw_X6 (by decide) fl_X6_36 rfl dX6_stamp_89 ?_
    refine lv_iconst (v := 1) hx hb dX6_stamp_92 (by decide) ?_
    refine n_sub1 hx hb dX6_stamp_93 ?_
    refine t_i E h hr hk ?_ dX6_stamp_94
    rcases p75 with ⟨_, rfl⟩ | ⟨hlt, rfl⟩
    · exact Or.inr ⟨c6, rfl, ((((((K.rf.R 41 _ (by decide)).R 42 _ (by decide)).R 43 _ (by decide)).R 44 _ (by decide)).R 45 _ (by decide)).F 13 _ (by decide)), rfl, rfl, fun g => g⟩
    · exact Or.inr ⟨c6, rfl, (((((((((K.rf.R 41 _ (by decide)).R 42 _ (by decide)).R 43 _ (by decide)).R 44 _ (by decide)).R 45 _ (by decide)).R 54 _ (by decide)).R 55 _ (by decide)).F 13 _ (by decide))), rfl, rfl, fun g => grp_put g hz hlt (by decide) (vp_in_nI c6 (by decide))⟩
  · have c6 : 80 ≤ n := n_nlt (by omega) (by decide) c6
    refine lv_bipush (v := -5) hx hb dX6_stamp_9 (by decide) ?_
    exact t_i E h hr hk (Or.inl ⟨by omega, rfl, rfl⟩) dX6_stamp_11

set_option maxHeartbeats 4000000 in
set_option maxRecDepth 100000 in
theorem c_X11_castle (l : Launch) (D : va_G) (cy : Nat → ClassId) (a : Nat → Nat) (σ : St) (x y w : Int32) (n : Nat) (g : GX σ) (hn : σ.1 12 = nI n) (hn2 : n ≤ 12) : CI l yX11_castle cX11_castle 4 (some .int) (rmOf 3 67) D cy (wX cy a) (AX a) [.ref (a 0), .int x, .int y, .int w] σ (fun r τ => (¬ (((1 : Int32) ≤ y ∧ y ≤ 100000) ∧ ((0 : Int32) ≤ w ∧ w ≤ 1000)) ∧ r = -1 ∧ K cF cA σ τ) ∨ ((((1 : Int32) ≤ y ∧ y ≤ 100000) ∧ ((0 : Int32) ≤ w ∧ w ≤ 1000)) ∧ ¬ ((x < 100 ∧ ((0 : Int32) ≤ x ∧ x ≤ σ.1 10 - 1)) ∨ ((100 : Int32) ≤ x ∧ ((0 : Int32) ≤ x - 100 ∧ x - 100 ≤ σ.1 12 - 1))) ∧ r = -2 ∧ K cF cA σ τ) ∨ ((((1 : Int32) ≤ y ∧ y ≤ 100000) ∧ ((0 : Int32) ≤ w ∧ w ≤ 1000)) ∧ ((x < 100 ∧ ((0 : Int32) ≤ x ∧ x ≤ σ.1 10 - 1)) ∨ ((100 : Int32) ≤ x ∧ ((0 : Int32) ≤ x - 100 ∧ x - 100 ≤ σ.1 12 - 1))) ∧ ((n = 12 ∧ r = -5 ∧ K cF cA σ τ) ∨ (n < 12 ∧ r = nI n ∧ τ.1 12 = nI (n + 1) ∧ K [0, 1, 3, 7, 9, 10, 11, 13, 14, 15] [18, 19, 20, 21, 22, 29, 30, 31, 33, 34, 35, 36, 41, 42, 43, 44, 45, 46, 47, 48, 49, 50, 51, 54, 55, 56, 57, 58, 59] σ τ ∧ GX τ)))) := by
  refine c_of (lv := [(0, .ref (a 0)), (1, .int x), (2, .int y), (3, .int w)]) rfl (Nat.le_of_ble_eq_true rfl) rfl ?_
  intro p e s m args below meth c ls E h hr hk hl
  have hx := E.1
  have hb := E.2.1
  obtain ⟨q, _, hq4, hq, _⟩ := g.2.2.2.1
  refine lv_iload_n hx hb dX11_castle_0 rfl (lv_at hl 2 rfl) ?_
  refine lv_iconst (v := 1) hx hb dX11_castle_1 (by decide) ?_
  refine lv_ldc (v := 100000) hx hb E.2.2.2.1 (E.2.2.2.2.1 _ kc_X11_85) dX11_castle_2 ?_
  refine k_i h (q_runS (As := [.int y, .int 1, .int 100000]) (rest := []) E h (c_X11_isWithin l D cy a σ y 1 100000) co_X11_isWithin ml_X11_86 st_X11_isWithin in_X11 rfl ok_X11_isWithin rfl ⟨by decide, by decide⟩ hl.1 rfl (Nat.le_of_ble_eq_true rfl) dX11_castle_4 ⟨Nat.zero_le _, Nat.zero_le _⟩) (wX_fst cy a) (fun r4 τ4 H locs p4 h => ?_)
  rw [p4.1] at h
  refine lv_if_eq (tgt := 21) hx hb dX11_castle_7 (by decide) (fun c7 => ?_) (fun c7 => ?_)
  · refine lv_aload_n hx hb dX11_castle_21 rfl (lv_at hl 0 rfl) ?_
    refine lv_iconst (v := -1) hx hb dX11_castle_22 (by decide) ?_
    refine k_i h (q_runV (As := [.int (-1)]) (rest := []) E h (c_X11_told l D cy a σ (-1)) co_X11_told ml_X11_90 im_X11_told se_X11_told in_X11 (eX_0 cy a σ) rfl ok_X11_told rfl ⟨by decide, by decide⟩ hl.1 rfl (Nat.le_of_ble_eq_true rfl) dX11_castle_23 ⟨Nat.zero_le _, Nat.zero_le _⟩) (wX_fst cy a) (fun r23 τ23 H locs p23 h => ?_)
    exact t_i E h hr hk (Or.inl ⟨fun q => p4.2.f c7 q.1, p23.1, by rw [p23.2]; exact K.rf.F 2 _ (by decide)⟩) dX11_castle_26
  · refine lv_iload_n hx hb dX11_castle_10 rfl (lv_at hl 3 rfl) ?_
    refine lv_iconst (v := 0) hx hb dX11_castle_11 (by decide) ?_
    refine lv_sipush (v := 1000) hx hb dX11_castle_12 (by decide) ?_
    refine k_i h (q_runS (As := [.int w, .int 0, .int 1000]) (rest := []) E h (c_X11_isWithin l D cy a σ w 0 1000) co_X11_isWithin ml_X11_86 st_X11_isWithin in_X11 rfl ok_X11_isWithin rfl ⟨by decide, by decide⟩ hl.1 rfl (Nat.le_of_ble_eq_true rfl) dX11_castle_15 ⟨Nat.zero_le _, Nat.zero_le _⟩) (wX_fst cy a) (fun r15 τ15 H locs p15 h => ?_)
    rw [p15.1] at h
    refine lv_if_ne (tgt := 27) hx hb dX11_castle_18 (by decide) (fun c18 => ?_) (fun c18 => ?_)
    · refine lv_aload_n hx hb dX11_castle_27 rfl (lv_at hl 0 rfl) ?_
      refine lv_iload_n hx hb dX11_castle_28 rfl (lv_at hl 1 rfl) ?_
      refine k_i h (q_runV (As := [.int x]) (rest := []) E h (c_X11_isSource l D cy a σ x) co_X11_isSource ml_X11_108 im_X11_isSource se_X11_isSource in_X11 (eX_0 cy a σ) rfl ok_X11_isSource rfl ⟨by decide, by decide⟩ hl.1 rfl (Nat.le_of_ble_eq_true rfl) dX11_castle_29 ⟨Nat.zero_le _, Nat.zero_le _⟩) (wX_fst cy a) (fun r29 τ29 H locs p29 h => ?_)
      rw [p29.1] at h
      refine lv_if_ne (tgt := 42) hx hb dX11_castle_32 (by decide) (fun c32 => ?_) (fun c32 => ?_)
      · have hs : ((x < 100 ∧ ((0 : Int32) ≤ x ∧ x ≤ σ.1 10 - 1)) ∨ ((100 : Int32) ≤ x ∧ ((0 : Int32) ≤ x - 100 ∧ x - 100 ≤ σ.1 12 - 1))) := p29.2.elim (fun q => Or.inl ⟨q.1, q.2.t c32⟩) (fun q => Or.inr ⟨q.1, q.2.t c32⟩)
        obtain ⟨j, hj2, hj⟩ := src_j hn2 (hn ▸ hs)
        obtain ⟨z, hz2, hz, _⟩ := gx_C g j hj2
        refine lv_aload_n hx hb dX11_castle_42 rfl (lv_at hl 0 rfl) ?_
        refine lv_aload_n hx hb dX11_castle_43 rfl (lv_at hl 0 rfl) ?_
        refine r_get E h 5 (v := .ref (a 7)) (eX_0 cy a σ) rfl fw_X11 (by decide) fl_X11_49 rfl dX11_castle_44 ?_
        refine lv_iload_n hx hb dX11_castle_47 rfl (lv_at hl 1 rfl) ?_
        refine lv_iload_n hx hb dX11_castle_48 rfl (lv_at hl 2 rfl) ?_
        refine lv_iload_n hx hb dX11_castle_49 rfl (lv_at hl 3 rfl) ?_
        refine k_i h (q_runV (As := [.int x, .int y, .int w]) (rest := [.ref (a 0)]) E h (c_X0_build l D cy a σ x y w j n z hn hn2 hj hj2 hz hz2) co_X0_build ml_X11_111 im_X0_build se_X0_build in_X0 (eX_7 cy a σ) rfl ok_X0_build rfl ⟨by decide, by decide⟩ hl.1 rfl (Nat.le_of_ble_eq_true rfl) dX11_castle_50 ⟨Nat.zero_le _, Nat.zero_le _⟩) (wX_fst cy a) (fun r50 τ50 H locs p50 h => ?_)
        refine k_i h (q_runV (As := [.int r50]) (rest := []) E h (c_X11_told l D cy a τ50 r50) co_X11_told ml_X11_90 im_X11_told se_X11_told in_X11 (eX_0 cy a τ50) rfl ok_X11_told rfl ⟨by decide, by decide⟩ hl.1 rfl (Nat.le_of_ble_eq_true rfl) dX11_castle_53 ⟨Nat.zero_le _, Nat.zero_le _⟩) (wX_fst cy a) (fun r53 τ53 H locs p53 h => ?_)
        refine t_i E h hr hk ?_ dX11_castle_56
        obtain ⟨rfl, rfl⟩ := p53
        refine Or.inr (Or.inr ⟨⟨p4.2.t c7, p15.2.t c18⟩, hs, ?_⟩)
        rcases p50 with ⟨e1, e2, rfl⟩ | ⟨e1, e2, e3, e4, e5, e6⟩
        · exact Or.inl ⟨e1, e2, K.rf.F 2 _ (by decide)⟩
        · refine Or.inr ⟨e1, e2, e3, e4.F 2 _ (by decide), gx_build (τ := fF τ50 2 _) hn e3 e1 e5 (fun q9 => hs.elim (fun u => ?_) (fun u => absurd q9 (Int32.not_lt.mpr u.1))) (e6 (gx_C g)) g (e4.F 2 _ (by decide))⟩
          obtain ⟨i, _, h4, rfl⟩ := z_in (N := 4) u.2.1 (hq ▸ u.2.2) hq4 (by decide)
          exact vp_in_nI h4 (by decide)
      · refine lv_aload_n hx hb dX11_castle_35 rfl (lv_at hl 0 rfl) ?_
        refine lv_bipush (v := -2) hx hb dX11_castle_36 (by decide) ?_
        refine k_i h (q_runV (As := [.int (-2)]) (rest := []) E h (c_X11_told l D cy a σ (-2)) co_X11_told ml_X11_90 im_X11_told se_X11_told in_X11 (eX_0 cy a σ) rfl ok_X11_told rfl ⟨by decide, by decide⟩ hl.1 rfl (Nat.le_of_ble_eq_true rfl) dX11_castle_38 ⟨Nat.zero_le _, Nat.zero_le _⟩) (wX_fst cy a) (fun r38 τ38 H locs p38 h => ?_)
        exact t_i E h hr hk (Or.inr (Or.inl ⟨⟨p4.2.t c7, p15.2.t c18⟩, fun s9 => s9.elim (fun u => p29.2.elim (fun q => q.2.f c32 u.2) (fun q => absurd u.1 (Int32.not_lt.mpr q.1))) (fun u => p29.2.elim (fun q => absurd q.1 (Int32.not_lt.mpr u.1)) (fun q => q.2.f c32 u.2)), p38.1, by rw [p38.2]; exact K.rf.F 2 _ (by decide)⟩)) dX11_castle_41
    · refine lv_aload_n hx hb dX11_castle_21 rfl (lv_at hl 0 rfl) ?_
      refine lv_iconst (v := -1) hx hb dX11_castle_22 (by decide) ?_
      refine k_i h (q_runV (As := [.int (-1)]) (rest := []) E h (c_X11_told l D cy a σ (-1)) co_X11_told ml_X11_90 im_X11_told se_X11_told in_X11 (eX_0 cy a σ) rfl ok_X11_told rfl ⟨by decide, by decide⟩ hl.1 rfl (Nat.le_of_ble_eq_true rfl) dX11_castle_23 ⟨Nat.zero_le _, Nat.zero_le _⟩) (wX_fst cy a) (fun r23 τ23 H locs p23 h => ?_)
      exact t_i E h hr hk (Or.inl ⟨fun q => p15.2.f c18 q.2, p23.1, by rw [p23.2]; exact K.rf.F 2 _ (by decide)⟩) dX11_castle_26

theorem KN_of {σ τ : St} (h : K cF cA σ τ) : K [0, 1, 3, 7, 9, 10, 11, 12, 14, 15] [18, 19, 20, 21, 22, 29, 30, 31, 33, 34, 35, 36, 38, 39, 40, 46, 47, 48, 49, 50, 51, 52, 53, 56, 57, 58, 59] σ τ := K.sub h (by decide) (by decide)
set_option maxHeartbeats 4000000 in
set_option maxRecDepth 100000 in
theorem c_X11_nozzle (l : Launch) (D : va_G) (cy : Nat → ClassId) (a : Nat → Nat) (σ : St) (x y w v : Int32) (g : GX σ) : CI l yX11_nozzle cX11_nozzle 5 (some .int) (rmOf 3 69) D cy (wX cy a) (AX a) [.ref (a 0), .int x, .int y, .int w, .int v] σ (fun _ τ => K [0, 1, 3, 7, 9, 10, 11, 12, 14, 15] [18, 19, 20, 21, 22, 29, 30, 31, 33, 34, 35, 36, 38, 39, 40, 46, 47, 48, 49, 50, 51, 52, 53, 56, 57, 58, 59] σ τ ∧ GX τ) := by
  refine c_of (lv := [(0, .ref (a 0)), (1, .int x), (2, .int y), (3, .int w), (4, .int v)]) rfl (Nat.le_of_ble_eq_true rfl) rfl ?_
  intro p e s m args below meth c ls E h hr hk hl
  have hx := E.1
  have hb := E.2.1
  obtain ⟨n0, hn02, hn0, hN0⟩ := gx_ca g
  obtain ⟨n, hn8, hn, hN⟩ := gx_no g
  obtain ⟨m9, hm4, hm⟩ := g.2.2.2.2.2.2.1.2.2.2
  refine lv_iload_n hx hb dX11_nozzle_0 rfl (lv_at hl 2 rfl) ?_
  refine lv_iconst (v := 1) hx hb dX11_nozzle_1 (by decide) ?_
  refine lv_sipush (v := 1000) hx hb dX11_nozzle_2 (by decide) ?_
  refine k_i h (q_runS (As := [.int y, .int 1, .int 1000]) (rest := []) E h (c_X11_isWithin l D cy a σ y 1 1000) co_X11_isWithin ml_X11_86 st_X11_isWithin in_X11 rfl ok_X11_isWithin rfl ⟨by decide, by decide⟩ hl.1 rfl (Nat.le_of_ble_eq_true rfl) dX11_nozzle_5 ⟨Nat.zero_le _, Nat.zero_le _⟩) (wX_fst cy a) (fun r5 τ5 H locs p5 h => ?_)
  rw [p5.1] at h
  refine lv_if_eq (tgt := 33) hx hb dX11_nozzle_8 (by decide) (fun c8 => ?_) (fun c8 => ?_)
  · refine lv_aload_n hx hb dX11_nozzle_33 rfl (lv_at hl 0 rfl) ?_
    refine lv_iconst (v := -1) hx hb dX11_nozzle_34 (by decide) ?_
    refine k_i h (q_runV (As := [.int (-1)]) (rest := []) E h (c_X11_told l D cy a σ (-1)) co_X11_told ml_X11_90 im_X11_told se_X11_told in_X11 (eX_0 cy a σ) rfl ok_X11_told rfl ⟨by decide, by decide⟩ hl.1 rfl (Nat.le_of_ble_eq_true rfl) dX11_nozzle_35 ⟨Nat.zero_le _, Nat.zero_le _⟩) (wX_fst cy a) (fun r35 τ35 H locs p35 h => ?_)
    refine t_i E h hr hk ?_ dX11_nozzle_38
    exact ⟨KN_of (by rw [p35.2]; exact K.rf.F 2 _ (by decide)), g.kept (by rw [p35.2]; exact K.rf.F 2 _ (by decide))⟩
  · refine lv_iload_n hx hb dX11_nozzle_11 rfl (lv_at hl 3 rfl) ?_
    refine lv_iconst (v := 0) hx hb dX11_nozzle_12 (by decide) ?_
    refine lv_iconst (v := 2) hx hb dX11_nozzle_13 (by decide) ?_
    refine k_i h (q_runS (As := [.int w, .int 0, .int 2]) (rest := []) E h (c_X11_isWithin l D cy a σ w 0 2) co_X11_isWithin ml_X11_86 st_X11_isWithin in_X11 rfl ok_X11_isWithin rfl ⟨by decide, by decide⟩ hl.1 rfl (Nat.le_of_ble_eq_true rfl) dX11_nozzle_14 ⟨Nat.zero_le _, Nat.zero_le _⟩) (wX_fst cy a) (fun r14 τ14 H locs p14 h => ?_)
    rw [p14.1] at h
    refine lv_if_eq (tgt := 33) hx hb dX11_nozzle_17 (by decide) (fun c17 => ?_) (fun c17 => ?_)
    · refine lv_aload_n hx hb dX11_nozzle_33 rfl (lv_at hl 0 rfl) ?_
      refine lv_iconst (v := -1) hx hb dX11_nozzle_34 (by decide) ?_
      refine k_i h (q_runV (As := [.int (-1)]) (rest := []) E h (c_X11_told l D cy a σ (-1)) co_X11_told ml_X11_90 im_X11_told se_X11_told in_X11 (eX_0 cy a σ) rfl ok_X11_told rfl ⟨by decide, by decide⟩ hl.1 rfl (Nat.le_of_ble_eq_true rfl) dX11_nozzle_35 ⟨Nat.zero_le _, Nat.zero_le _⟩) (wX_fst cy a) (fun r35 τ35 H locs p35 h => ?_)
      refine t_i E h hr hk ?_ dX11_nozzle_38
      exact ⟨KN_of (by rw [p35.2]; exact K.rf.F 2 _ (by decide)), g.kept (by rw [p35.2]; exact K.rf.F 2 _ (by decide))⟩
    · refine lv_iload_n hx hb dX11_nozzle_20 rfl (lv_at hl 3 rfl) ?_
      refine lv_iconst (v := 2) hx hb dX11_nozzle_21 (by decide) ?_
      refine lv_icmp_eq (tgt := 39) hx hb dX11_nozzle_22 (by decide) (fun c22 => ?_) (fun c22 => ?_)
      · refine lv_aload_n hx hb dX11_nozzle_39 rfl (lv_at hl 0 rfl) ?_
        refine r_get E h 5 (v := .ref (a 7)) (eX_0 cy a σ) rfl fw_X11 (by decide) fl_X11_49 rfl dX11_nozzle_40 ?_
        refine lv_iload_n hx hb dX11_nozzle_43 rfl (lv_at hl 1 rfl) ?_
        refine k_i h (q_runV (As := [.int x]) (rest := []) E h (c_X0_has l D cy a σ x) co_X0_has ml_X11_127 im_X0_has se_X0_has in_X0 (eX_7 cy a σ) rfl ok_X0_has rfl ⟨by decide, by decide⟩ hl.1 rfl (Nat.le_of_ble_eq_true rfl) dX11_nozzle_44 ⟨Nat.zero_le _, Nat.zero_le _⟩) (wX_fst cy a) (fun r44 τ44 H locs p44 h => ?_)
        rw [p44.1] at h
        refine lv_if_eq (tgt := 64) hx hb dX11_nozzle_47 (by decide) (fun c47 => ?_) (fun c47 => ?_)
        · refine lv_aload_n hx hb dX11_nozzle_64 rfl (lv_at hl 0 rfl) ?_
          refine lv_bipush (v := -2) hx hb dX11_nozzle_65 (by decide) ?_
          refine k_i h (q_runV (As := [.int (-2)]) (rest := []) E h (c_X11_told l D cy a σ (-2)) co_X11_told ml_X11_90 im_X11_told se_X11_told in_X11 (eX_0 cy a σ) rfl ok_X11_told rfl ⟨by decide, by decide⟩ hl.1 rfl (Nat.le_of_ble_eq_true rfl) dX11_nozzle_67 ⟨Nat.zero_le _, Nat.zero_le _⟩) (wX_fst cy a) (fun r67 τ67 H locs p67 h => ?_)
          refine t_i E h hr hk ?_ dX11_nozzle_70
          exact ⟨KN_of (by rw [p67.2]; exact K.rf.F 2 _ (by decide)), g.kept (by rw [p67.2]; exact K.rf.F 2 _ (by decide))⟩
        · obtain ⟨j, hj, hj2, rfl⟩ := z_in (p44.2.t c47).1 (hn0 ▸ (p44.2.t c47).2) hn02 (by decide)
          refine lv_iload_n hx hb dX11_nozzle_50 rfl (lv_at hl 3 rfl) ?_
          refine lv_iconst (v := 2) hx hb dX11_nozzle_51 (by decide) ?_
          refine lv_icmp_ne (tgt := 71) hx hb dX11_nozzle_52 (by decide) (fun c52 => ?_) (fun c52 => ?_)
          · refine lv_aload_n hx hb dX11_nozzle_71 rfl (lv_at hl 0 rfl) ?_
            refine r_get E h 2 (v := .ref (a 3)) (eX_0 cy a σ) rfl fw_X11 (by decide) fl_X11_28 rfl dX11_nozzle_72 ?_
            refine lv_aload_n hx hb dX11_nozzle_75 rfl (lv_at hl 0 rfl) ?_
            refine r_get E h 12 (v := .int (σ.1 1)) (eX_0 cy a σ) rfl fw_X11 (by decide) fl_X11_130 rfl dX11_nozzle_76 ?_
            refine k_v h (q_runV (As := [.int (σ.1 1)]) (rest := []) E h (c_X4_settle_book l D cy a σ (σ.1 1) g) co_X4_settle ml_X11_133 im_X4_settle se_X4_settle in_X4 (eX_3 cy a σ) rfl ok_X4_settle rfl ⟨by decide, by decide⟩ hl.1 rfl (Nat.le_of_ble_eq_true rfl) dX11_nozzle_79 ⟨Nat.zero_le _, Nat.zero_le _⟩) (wX_fst cy a) (fun τ79 H locs p79 h => ?_)
            have hF : τ79.1 13 = nI n := (p79.1.1 13 (by decide)).trans hn
            obtain ⟨z, hz2, hz, _⟩ := gx_N (g.kept p79.1) j hj2
            refine lv_iload_n hx hb dX11_nozzle_82 rfl (lv_at hl 3 rfl) ?_
            refine lv_iconst (v := 2) hx hb dX11_nozzle_83 (by decide) ?_
            refine lv_icmp_ne (tgt := 105) hx hb dX11_nozzle_84 (by decide) (fun c84 => ?_) (fun c84 => ?_)
            · refine lv_aload_n hx hb dX11_nozzle_105 rfl (lv_at hl 0 rfl) ?_
              refine lv_aload_n hx hb dX11_nozzle_106 rfl (lv_at hl 0 rfl) ?_
              refine r_get E h 6 (v := .ref (a 8)) (eX_0 cy a τ79) rfl fw_X11 (by decide) fl_X11_56 rfl dX11_nozzle_107 ?_
              refine lv_iload_n hx hb dX11_nozzle_110 rfl (lv_at hl 1 rfl) ?_
              refine lv_iload_n hx hb dX11_nozzle_111 rfl (lv_at hl 2 rfl) ?_
              refine lv_iload_n hx hb dX11_nozzle_112 rfl (lv_at hl 3 rfl) ?_
              refine lv_iload hx hb dX11_nozzle_113 (lv_at hl 4 rfl) ?_
              refine lv_aload_n hx hb dX11_nozzle_115 rfl (lv_at hl 0 rfl) ?_
              refine r_get E h 12 (v := .int (τ79.1 1)) (eX_0 cy a τ79) rfl fw_X11 (by decide) fl_X11_130 rfl dX11_nozzle_116 ?_
              refine k_i h (q_runV (As := [.int (nI j), .int y, .int w, .int v, .int (τ79.1 1)]) (rest := [.ref (a 0)]) E h (c_X6_stamp l D cy a τ79 j y w v (τ79.1 1) n z hF hn8 hj2 hz hz2) co_X6_stamp ml_X11_139 im_X6_stamp se_X6_stamp in_X6 (eX_8 cy a τ79) rfl ok_X6_stamp rfl ⟨by decide, by decide⟩ hl.1 rfl (Nat.le_of_ble_eq_true rfl) dX11_nozzle_119 ⟨Nat.zero_le _, Nat.zero_le _⟩) (wX_fst cy a) (fun r119 τ119 H locs p119 h => ?_)
              refine k_i h (q_runV (As := [.int r119]) (rest := []) E h (c_X11_told l D cy a τ119 r119) co_X11_told ml_X11_90 im_X11_told se_X11_told in_X11 (eX_0 cy a τ119) rfl ok_X11_told rfl ⟨by decide, by decide⟩ hl.1 rfl (Nat.le_of_ble_eq_true rfl) dX11_nozzle_122 ⟨Nat.zero_le _, Nat.zero_le _⟩) (wX_fst cy a) (fun r122 τ122 H locs p122 h => ?_)
              refine t_i E h hr hk ?_ dX11_nozzle_125
              exact absurd c22 c52
            · refine lv_aload_n hx hb dX11_nozzle_87 rfl (lv_at hl 0 rfl) ?_
              refine r_get E h 2 (v := .ref (a 3)) (eX_0 cy a τ79) rfl fw_X11 (by decide) fl_X11_28 rfl dX11_nozzle_88 ?_
              refine lv_iload_n hx hb dX11_nozzle_91 rfl (lv_at hl 2 rfl) ?_
              refine k_i h (q_runV (As := [.int y]) (rest := []) E h (c_X4_isAboveMost_book l D cy a τ79 y) co_X4_isAboveMost ml_X11_136 im_X4_isAboveMost se_X4_isAboveMost in_X4 (eX_3 cy a τ79) rfl ok_X4_isAboveMost rfl ⟨by decide, by decide⟩ hl.1 rfl (Nat.le_of_ble_eq_true rfl) dX11_nozzle_92 ⟨Nat.zero_le _, Nat.zero_le _⟩) (wX_fst cy a) (fun r92 τ92 H locs p92 h => ?_)
              rw [p92.1] at h
              refine lv_if_eq (tgt := 105) hx hb dX11_nozzle_95 (by decide) (fun c95 => ?_) (fun c95 => ?_)
              · refine lv_aload_n hx hb dX11_nozzle_105 rfl (lv_at hl 0 rfl) ?_
                refine lv_aload_n hx hb dX11_nozzle_106 rfl (lv_at hl 0 rfl) ?_
                refine r_get E h 6 (v := .ref (a 8)) (eX_0 cy a τ79) rfl fw_X11 (by decide) fl_X11_56 rfl dX11_nozzle_107 ?_
                refine lv_iload_n hx hb dX11_nozzle_110 rfl (lv_at hl 1 rfl) ?_
                refine lv_iload_n hx hb dX11_nozzle_111 rfl (lv_at hl 2 rfl) ?_
                refine lv_iload_n hx hb dX11_nozzle_112 rfl (lv_at hl 3 rfl) ?_
                refine lv_iload hx hb dX11_nozzle_113 (lv_at hl 4 rfl) ?_
                refine lv_aload_n hx hb dX11_nozzle_115 rfl (lv_at hl 0 rfl) ?_
                refine r_get E h 12 (v := .int (τ79.1 1)) (eX_0 cy a τ79) rfl fw_X11 (by decide) fl_X11_130 rfl dX11_nozzle_116 ?_
                refine k_i h (q_runV (As := [.int (nI j), .int y, .int w, .int v, .int (τ79.1 1)]) (rest := [.ref (a 0)]) E h (c_X6_stamp l D cy a τ79 j y w v (τ79.1 1) n z hF hn8 hj2 hz hz2) co_X6_stamp ml_X11_139 im_X6_stamp se_X6_stamp in_X6 (eX_8 cy a τ79) rfl ok_X6_stamp rfl ⟨by decide, by decide⟩ hl.1 rfl (Nat.le_of_ble_eq_true rfl) dX11_nozzle_119 ⟨Nat.zero_le _, Nat.zero_le _⟩) (wX_fst cy a) (fun r119 τ119 H locs p119 h => ?_)
                refine k_i h (q_runV (As := [.int r119]) (rest := []) E h (c_X11_told l D cy a τ119 r119) co_X11_told ml_X11_90 im_X11_told se_X11_told in_X11 (eX_0 cy a τ119) rfl ok_X11_told rfl ⟨by decide, by decide⟩ hl.1 rfl (Nat.le_of_ble_eq_true rfl) dX11_nozzle_122 ⟨Nat.zero_le _, Nat.zero_le _⟩) (wX_fst cy a) (fun r122 τ122 H locs p122 h => ?_)
                refine t_i E h hr hk ?_ dX11_nozzle_125
                exact absurd c22 c52
              · refine lv_aload_n hx hb dX11_nozzle_98 rfl (lv_at hl 0 rfl) ?_
                refine lv_bipush (v := -3) hx hb dX11_nozzle_99 (by decide) ?_
                refine k_i h (q_runV (As := [.int (-3)]) (rest := []) E h (c_X11_told l D cy a τ79 (-3)) co_X11_told ml_X11_90 im_X11_told se_X11_told in_X11 (eX_0 cy a τ79) rfl ok_X11_told rfl ⟨by decide, by decide⟩ hl.1 rfl (Nat.le_of_ble_eq_true rfl) dX11_nozzle_101 ⟨Nat.zero_le _, Nat.zero_le _⟩) (wX_fst cy a) (fun r101 τ101 H locs p101 h => ?_)
                refine t_i E h hr hk ?_ dX11_nozzle_104
                obtain ⟨rfl, rfl⟩ := p101
                exact ⟨KN_of (p79.1.F 2 _ (by decide)), g.kept (p79.1.F 2 _ (by decide))⟩
          · refine lv_aload_n hx hb dX11_nozzle_55 rfl (lv_at hl 0 rfl) ?_
            refine lv_iload hx hb dX11_nozzle_56 (lv_at hl 4 rfl) ?_
            refine k_i h (q_runV (As := [.int v]) (rest := []) E h (c_X11_isPerson l D cy a σ v) co_X11_isPerson ml_X11_118 im_X11_isPerson se_X11_isPerson in_X11 (eX_0 cy a σ) rfl ok_X11_isPerson rfl ⟨by decide, by decide⟩ hl.1 rfl (Nat.le_of_ble_eq_true rfl) dX11_nozzle_58 ⟨Nat.zero_le _, Nat.zero_le _⟩) (wX_fst cy a) (fun r58 τ58 H locs p58 h => ?_)
            rw [p58.1] at h
            refine lv_if_ne (tgt := 71) hx hb dX11_nozzle_61 (by decide) (fun c61 => ?_) (fun c61 => ?_)
            · refine lv_aload_n hx hb dX11_nozzle_71 rfl (lv_at hl 0 rfl) ?_
              refine r_get E h 2 (v := .ref (a 3)) (eX_0 cy a σ) rfl fw_X11 (by decide) fl_X11_28 rfl dX11_nozzle_72 ?_
              refine lv_aload_n hx hb dX11_nozzle_75 rfl (lv_at hl 0 rfl) ?_
              refine r_get E h 12 (v := .int (σ.1 1)) (eX_0 cy a σ) rfl fw_X11 (by decide) fl_X11_130 rfl dX11_nozzle_76 ?_
              refine k_v h (q_runV (As := [.int (σ.1 1)]) (rest := []) E h (c_X4_settle_book l D cy a σ (σ.1 1) g) co_X4_settle ml_X11_133 im_X4_settle se_X4_settle in_X4 (eX_3 cy a σ) rfl ok_X4_settle rfl ⟨by decide, by decide⟩ hl.1 rfl (Nat.le_of_ble_eq_true rfl) dX11_nozzle_79 ⟨Nat.zero_le _, Nat.zero_le _⟩) (wX_fst cy a) (fun τ79 H locs p79 h => ?_)
              have hF : τ79.1 13 = nI n := (p79.1.1 13 (by decide)).trans hn
              obtain ⟨z, hz2, hz, _⟩ := gx_N (g.kept p79.1) j hj2
              refine lv_iload_n hx hb dX11_nozzle_82 rfl (lv_at hl 3 rfl) ?_
              refine lv_iconst (v := 2) hx hb dX11_nozzle_83 (by decide) ?_
              refine lv_icmp_ne (tgt := 105) hx hb dX11_nozzle_84 (by decide) (fun c84 => ?_) (fun c84 => ?_)
              · refine lv_aload_n hx hb dX11_nozzle_105 rfl (lv_at hl 0 rfl) ?_
                refine lv_aload_n hx hb dX11_nozzle_106 rfl (lv_at hl 0 rfl) ?_
                refine r_get E h 6 (v := .ref (a 8)) (eX_0 cy a τ79) rfl fw_X11 (by decide) fl_X11_56 rfl dX11_nozzle_107 ?_
                refine lv_iload_n hx hb dX11_nozzle_110 rfl (lv_at hl 1 rfl) ?_
                refine lv_iload_n hx hb dX11_nozzle_111 rfl (lv_at hl 2 rfl) ?_
                refine lv_iload_n hx hb dX11_nozzle_112 rfl (lv_at hl 3 rfl) ?_
                refine lv_iload hx hb dX11_nozzle_113 (lv_at hl 4 rfl) ?_
                refine lv_aload_n hx hb dX11_nozzle_115 rfl (lv_at hl 0 rfl) ?_
                refine r_get E h 12 (v := .int (τ79.1 1)) (eX_0 cy a τ79) rfl fw_X11 (by decide) fl_X11_130 rfl dX11_nozzle_116 ?_
                refine k_i h (q_runV (As := [.int (nI j), .int y, .int w, .int v, .int (τ79.1 1)]) (rest := [.ref (a 0)]) E h (c_X6_stamp l D cy a τ79 j y w v (τ79.1 1) n z hF hn8 hj2 hz hz2) co_X6_stamp ml_X11_139 im_X6_stamp se_X6_stamp in_X6 (eX_8 cy a τ79) rfl ok_X6_stamp rfl ⟨by decide, by decide⟩ hl.1 rfl (Nat.le_of_ble_eq_true rfl) dX11_nozzle_119 ⟨Nat.zero_le _, Nat.zero_le _⟩) (wX_fst cy a) (fun r119 τ119 H locs p119 h => ?_)
                refine k_i h (q_runV (As := [.int r119]) (rest := []) E h (c_X11_told l D cy a τ119 r119) co_X11_told ml_X11_90 im_X11_told se_X11_told in_X11 (eX_0 cy a τ119) rfl ok_X11_told rfl ⟨by decide, by decide⟩ hl.1 rfl (Nat.le_of_ble_eq_true rfl) dX11_nozzle_122 ⟨Nat.zero_le _, Nat.zero_le _⟩) (wX_fst cy a) (fun r122 τ122 H locs p122 h => ?_)
                refine t_i E h hr hk ?_ dX11_nozzle_125
                obtain ⟨rfl, rfl⟩ := p122
                rcases p119 with ⟨e1, e2, rfl⟩ | ⟨e1, e2, e3, e4, e5, e6⟩
                · exact ⟨(KN_of (p79.1.F 2 _ (by decide))), GX.kept g (p79.1.F 2 _ (by decide))⟩
                · refine ⟨K.tr (KN_of p79.1) (e3.F 2 _ (by decide)), gx_stamp (τ := fF τ119 2 _) hF e2 e1 e4 e5 ⟨fun _ => by obtain ⟨i, _, h4, rfl⟩ := z_in (N := 40) (p58.2.t c61).1 (hm ▸ (p58.2.t c61).2) hm4 (by decide); exact vp_in_nI h4 (by decide), fun q9 => absurd c52 q9⟩ (e6 (gx_N (g.kept p79.1))) (g.kept p79.1) (e3.F 2 _ (by decide))⟩
              · refine lv_aload_n hx hb dX11_nozzle_87 rfl (lv_at hl 0 rfl) ?_
                refine r_get E h 2 (v := .ref (a 3)) (eX_0 cy a τ79) rfl fw_X11 (by decide) fl_X11_28 rfl dX11_nozzle_88 ?_
                refine lv_iload_n hx hb dX11_nozzle_91 rfl (lv_at hl 2 rfl) ?_
                refine k_i h (q_runV (As := [.int y]) (rest := []) E h (c_X4_isAboveMost_book l D cy a τ79 y) co_X4_isAboveMost ml_X11_136 im_X4_isAboveMost se_X4_isAboveMost in_X4 (eX_3 cy a τ79) rfl ok_X4_isAboveMost rfl ⟨by decide, by decide⟩ hl.1 rfl (Nat.le_of_ble_eq_true rfl) dX11_nozzle_92 ⟨Nat.zero_le _, Nat.zero_le _⟩) (wX_fst cy a) (fun r92 τ92 H locs p92 h => ?_)
                rw [p92.1] at h
                refine lv_if_eq (tgt := 105) hx hb dX11_nozzle_95 (by decide) (fun c95 => ?_) (fun c95 => ?_)
                · refine lv_aload_n hx hb dX11_nozzle_105 rfl (lv_at hl 0 rfl) ?_
                  refine lv_aload_n hx hb dX11_nozzle_106 rfl (lv_at hl 0 rfl) ?_
                  refine r_get E h 6 (v := .ref (a 8)) (eX_0 cy a τ79) rfl fw_X11 (by decide) fl_X11_56 rfl dX11_nozzle_107 ?_
                  refine lv_iload_n hx hb dX11_nozzle_110 rfl (lv_at hl 1 rfl) ?_
                  refine lv_iload_n hx hb dX11_nozzle_111 rfl (lv_at hl 2 rfl) ?_
                  refine lv_iload_n hx hb dX11_nozzle_112 rfl (lv_at hl 3 rfl) ?_
                  refine lv_iload hx hb dX11_nozzle_113 (lv_at hl 4 rfl) ?_
                  refine lv_aload_n hx hb dX11_nozzle_115 rfl (lv_at hl 0 rfl) ?_
                  refine r_get E h 12 (v := .int (τ79.1 1)) (eX_0 cy a τ79) rfl fw_X11 (by decide) fl_X11_130 rfl dX11_nozzle_116 ?_
                  refine k_i h (q_runV (As := [.int (nI j), .int y, .int w, .int v, .int (τ79.1 1)]) (rest := [.ref (a 0)]) E h (c_X6_stamp l D cy a τ79 j y w v (τ79.1 1) n z hF hn8 hj2 hz hz2) co_X6_stamp ml_X11_139 im_X6_stamp se_X6_stamp in_X6 (eX_8 cy a τ79) rfl ok_X6_stamp rfl ⟨by decide, by decide⟩ hl.1 rfl (Nat.le_of_ble_eq_true rfl) dX11_nozzle_119 ⟨Nat.zero_le _, Nat.zero_le _⟩) (wX_fst cy a) (fun r119 τ119 H locs p119 h => ?_)
                  refine k_i h (q_runV (As := [.int r119]) (rest := []) E h (c_X11_told l D cy a τ119 r119) co_X11_told ml_X11_90 im_X11_told se_X11_told in_X11 (eX_0 cy a τ119) rfl ok_X11_told rfl ⟨by decide, by decide⟩ hl.1 rfl (Nat.le_of_ble_eq_true rfl) dX11_nozzle_122 ⟨Nat.zero_le _, Nat.zero_le _⟩) (wX_fst cy a) (fun r122 τ122 H locs p122 h => ?_)
                  refine t_i E h hr hk ?_ dX11_nozzle_125
                  obtain ⟨rfl, rfl⟩ := p122
                  rcases p119 with ⟨e1, e2, rfl⟩ | ⟨e1, e2, e3, e4, e5, e6⟩
                  · exact ⟨(KN_of (p79.1.F 2 _ (by decide))), GX.kept g (p79.1.F 2 _ (by decide))⟩
                  · refine ⟨K.tr (KN_of p79.1) (e3.F 2 _ (by decide)), gx_stamp (τ := fF τ119 2 _) hF e2 e1 e4 e5 ⟨fun _ => by obtain ⟨i, _, h4, rfl⟩ := z_in (N := 40) (p58.2.t c61).1 (hm ▸ (p58.2.t c61).2) hm4 (by decide); exact vp_in_nI h4 (by decide), fun q9 => absurd c52 q9⟩ (e6 (gx_N (g.kept p79.1))) (g.kept p79.1) (e3.F 2 _ (by decide))⟩
                · refine lv_aload_n hx hb dX11_nozzle_98 rfl (lv_at hl 0 rfl) ?_
                  refine lv_bipush (v := -3) hx hb dX11_nozzle_99 (by decide) ?_
                  refine k_i h (q_runV (As := [.int (-3)]) (rest := []) E h (c_X11_told l D cy a τ79 (-3)) co_X11_told ml_X11_90 im_X11_told se_X11_told in_X11 (eX_0 cy a τ79) rfl ok_X11_told rfl ⟨by decide, by decide⟩ hl.1 rfl (Nat.le_of_ble_eq_true rfl) dX11_nozzle_101 ⟨Nat.zero_le _, Nat.zero_le _⟩) (wX_fst cy a) (fun r101 τ101 H locs p101 h => ?_)
                  refine t_i E h hr hk ?_ dX11_nozzle_104
                  obtain ⟨rfl, rfl⟩ := p101
                  exact ⟨KN_of (p79.1.F 2 _ (by decide)), g.kept (p79.1.F 2 _ (by decide))⟩
            · refine lv_aload_n hx hb dX11_nozzle_64 rfl (lv_at hl 0 rfl) ?_
              refine lv_bipush (v := -2) hx hb dX11_nozzle_65 (by decide) ?_
              refine k_i h (q_runV (As := [.int (-2)]) (rest := []) E h (c_X11_told l D cy a σ (-2)) co_X11_told ml_X11_90 im_X11_told se_X11_told in_X11 (eX_0 cy a σ) rfl ok_X11_told rfl ⟨by decide, by decide⟩ hl.1 rfl (Nat.le_of_ble_eq_true rfl) dX11_nozzle_67 ⟨Nat.zero_le _, Nat.zero_le _⟩) (wX_fst cy a) (fun r67 τ67 H locs p67 h => ?_)
              refine t_i E h hr hk ?_ dX11_nozzle_70
              exact ⟨KN_of (by rw [p67.2]; exact K.rf.F 2 _ (by decide)), g.kept (by rw [p67.2]; exact K.rf.F 2 _ (by decide))⟩
      · refine lv_iload hx hb dX11_nozzle_25 (lv_at hl 4 rfl) ?_
        refine k_i h (q_runS (As := [.int v]) (rest := []) E h (c_X11_isQuarter l D cy a σ v) co_X11_isQuarter ml_X11_124 st_X11_isQuarter in_X11 rfl ok_X11_isQuarter rfl ⟨by decide, by decide⟩ hl.1 rfl (Nat.le_of_ble_eq_true rfl) dX11_nozzle_27 ⟨Nat.zero_le _, Nat.zero_le _⟩) (wX_fst cy a) (fun r27 τ27 H locs p27 h => ?_)
        rw [p27.1] at h
        refine lv_if_ne (tgt := 39) hx hb dX11_nozzle_30 (by decide) (fun c30 => ?_) (fun c30 => ?_)
        · refine lv_aload_n hx hb dX11_nozzle_39 rfl (lv_at hl 0 rfl) ?_
          refine r_get E h 5 (v := .ref (a 7)) (eX_0 cy a σ) rfl fw_X11 (by decide) fl_X11_49 rfl dX11_nozzle_40 ?_
          refine lv_iload_n hx hb dX11_nozzle_43 rfl (lv_at hl 1 rfl) ?_
          refine k_i h (q_runV (As := [.int x]) (rest := []) E h (c_X0_has l D cy a σ x) co_X0_has ml_X11_127 im_X0_has se_X0_has in_X0 (eX_7 cy a σ) rfl ok_X0_has rfl ⟨by decide, by decide⟩ hl.1 rfl (Nat.le_of_ble_eq_true rfl) dX11_nozzle_44 ⟨Nat.zero_le _, Nat.zero_le _⟩) (wX_fst cy a) (fun r44 τ44 H locs p44 h => ?_)
          rw [p44.1] at h
          refine lv_if_eq (tgt := 64) hx hb dX11_nozzle_47 (by decide) (fun c47 => ?_) (fun c47 => ?_)
          · refine lv_aload_n hx hb dX11_nozzle_64 rfl (lv_at hl 0 rfl) ?_
            refine lv_bipush (v := -2) hx hb dX11_nozzle_65 (by decide) ?_
            refine k_i h (q_runV (As := [.int (-2)]) (rest := []) E h (c_X11_told l D cy a σ (-2)) co_X11_told ml_X11_90 im_X11_told se_X11_told in_X11 (eX_0 cy a σ) rfl ok_X11_told rfl ⟨by decide, by decide⟩ hl.1 rfl (Nat.le_of_ble_eq_true rfl) dX11_nozzle_67 ⟨Nat.zero_le _, Nat.zero_le _⟩) (wX_fst cy a) (fun r67 τ67 H locs p67 h => ?_)
            refine t_i E h hr hk ?_ dX11_nozzle_70
            exact ⟨KN_of (by rw [p67.2]; exact K.rf.F 2 _ (by decide)), g.kept (by rw [p67.2]; exact K.rf.F 2 _ (by decide))⟩
          · obtain ⟨j, hj, hj2, rfl⟩ := z_in (p44.2.t c47).1 (hn0 ▸ (p44.2.t c47).2) hn02 (by decide)
            refine lv_iload_n hx hb dX11_nozzle_50 rfl (lv_at hl 3 rfl) ?_
            refine lv_iconst (v := 2) hx hb dX11_nozzle_51 (by decide) ?_
            refine lv_icmp_ne (tgt := 71) hx hb dX11_nozzle_52 (by decide) (fun c52 => ?_) (fun c52 => ?_)
            · refine lv_aload_n hx hb dX11_nozzle_71 rfl (lv_at hl 0 rfl) ?_
              refine r_get E h 2 (v := .ref (a 3)) (eX_0 cy a σ) rfl fw_X11 (by decide) fl_X11_28 rfl dX11_nozzle_72 ?_
              refine lv_aload_n hx hb dX11_nozzle_75 rfl (lv_at hl 0 rfl) ?_
              refine r_get E h 12 (v := .int (σ.1 1)) (eX_0 cy a σ) rfl fw_X11 (by decide) fl_X11_130 rfl dX11_nozzle_76 ?_
              refine k_v h (q_runV (As := [.int (σ.1 1)]) (rest := []) E h (c_X4_settle_book l D cy a σ (σ.1 1) g) co_X4_settle ml_X11_133 im_X4_settle se_X4_settle in_X4 (eX_3 cy a σ) rfl ok_X4_settle rfl ⟨by decide, by decide⟩ hl.1 rfl (Nat.le_of_ble_eq_true rfl) dX11_nozzle_79 ⟨Nat.zero_le _, Nat.zero_le _⟩) (wX_fst cy a) (fun τ79 H locs p79 h => ?_)
              have hF : τ79.1 13 = nI n := (p79.1.1 13 (by decide)).trans hn
              obtain ⟨z, hz2, hz, _⟩ := gx_N (g.kept p79.1) j hj2
              refine lv_iload_n hx hb dX11_nozzle_82 rfl (lv_at hl 3 rfl) ?_
              refine lv_iconst (v := 2) hx hb dX11_nozzle_83 (by decide) ?_
              refine lv_icmp_ne (tgt := 105) hx hb dX11_nozzle_84 (by decide) (fun c84 => ?_) (fun c84 => ?_)
              · refine lv_aload_n hx hb dX11_nozzle_105 rfl (lv_at hl 0 rfl) ?_
                refine lv_aload_n hx hb dX11_nozzle_106 rfl (lv_at hl 0 rfl) ?_
                refine r_get E h 6 (v := .ref (a 8)) (eX_0 cy a τ79) rfl fw_X11 (by decide) fl_X11_56 rfl dX11_nozzle_107 ?_
                refine lv_iload_n hx hb dX11_nozzle_110 rfl (lv_at hl 1 rfl) ?_
                refine lv_iload_n hx hb dX11_nozzle_111 rfl (lv_at hl 2 rfl) ?_
                refine lv_iload_n hx hb dX11_nozzle_112 rfl (lv_at hl 3 rfl) ?_
                refine lv_iload hx hb dX11_nozzle_113 (lv_at hl 4 rfl) ?_
                refine lv_aload_n hx hb dX11_nozzle_115 rfl (lv_at hl 0 rfl) ?_
                refine r_get E h 12 (v := .int (τ79.1 1)) (eX_0 cy a τ79) rfl fw_X11 (by decide) fl_X11_130 rfl dX11_nozzle_116 ?_
                refine k_i h (q_runV (As := [.int (nI j), .int y, .int w, .int v, .int (τ79.1 1)]) (rest := [.ref (a 0)]) E h (c_X6_stamp l D cy a τ79 j y w v (τ79.1 1) n z hF hn8 hj2 hz hz2) co_X6_stamp ml_X11_139 im_X6_stamp se_X6_stamp in_X6 (eX_8 cy a τ79) rfl ok_X6_stamp rfl ⟨by decide, by decide⟩ hl.1 rfl (Nat.le_of_ble_eq_true rfl) dX11_nozzle_119 ⟨Nat.zero_le _, Nat.zero_le _⟩) (wX_fst cy a) (fun r119 τ119 H locs p119 h => ?_)
                refine k_i h (q_runV (As := [.int r119]) (rest := []) E h (c_X11_told l D cy a τ119 r119) co_X11_told ml_X11_90 im_X11_told se_X11_told in_X11 (eX_0 cy a τ119) rfl ok_X11_told rfl ⟨by decide, by decide⟩ hl.1 rfl (Nat.le_of_ble_eq_true rfl) dX11_nozzle_122 ⟨Nat.zero_le _, Nat.zero_le _⟩) (wX_fst cy a) (fun r122 τ122 H locs p122 h => ?_)
                refine t_i E h hr hk ?_ dX11_nozzle_125
                obtain ⟨rfl, rfl⟩ := p122
                rcases p119 with ⟨e1, e2, rfl⟩ | ⟨e1, e2, e3, e4, e5, e6⟩
                · exact ⟨(KN_of (p79.1.F 2 _ (by decide))), GX.kept g (p79.1.F 2 _ (by decide))⟩
                · refine ⟨K.tr (KN_of p79.1) (e3.F 2 _ (by decide)), gx_stamp (τ := fF τ119 2 _) hF e2 e1 e4 e5 ⟨fun q9 => absurd q9 c52, fun _ => in_W (n := 7) (p27.2.t c30)⟩ (e6 (gx_N (g.kept p79.1))) (g.kept p79.1) (e3.F 2 _ (by decide))⟩
              · refine lv_aload_n hx hb dX11_nozzle_87 rfl (lv_at hl 0 rfl) ?_
                refine r_get E h 2 (v := .ref (a 3)) (eX_0 cy a τ79) rfl fw_X11 (by decide) fl_X11_28 rfl dX11_nozzle_88 ?_
                refine lv_iload_n hx hb dX11_nozzle_91 rfl (lv_at hl 2 rfl) ?_
                refine k_i h (q_runV (As := [.int y]) (rest := []) E h (c_X4_isAboveMost_book l D cy a τ79 y) co_X4_isAboveMost ml_X11_136 im_X4_isAboveMost se_X4_isAboveMost in_X4 (eX_3 cy a τ79) rfl ok_X4_isAboveMost rfl ⟨by decide, by decide⟩ hl.1 rfl (Nat.le_of_ble_eq_true rfl) dX11_nozzle_92 ⟨Nat.zero_le _, Nat.zero_le _⟩) (wX_fst cy a) (fun r92 τ92 H locs p92 h => ?_)
                rw [p92.1] at h
                refine lv_if_eq (tgt := 105) hx hb dX11_nozzle_95 (by decide) (fun c95 => ?_) (fun c95 => ?_)
                · refine lv_aload_n hx hb dX11_nozzle_105 rfl (lv_at hl 0 rfl) ?_
                  refine lv_aload_n hx hb dX11_nozzle_106 rfl (lv_at hl 0 rfl) ?_
                  refine r_get E h 6 (v := .ref (a 8)) (eX_0 cy a τ79) rfl fw_X11 (by decide) fl_X11_56 rfl dX11_nozzle_107 ?_
                  refine lv_iload_n hx hb dX11_nozzle_110 rfl (lv_at hl 1 rfl) ?_
                  refine lv_iload_n hx hb dX11_nozzle_111 rfl (lv_at hl 2 rfl) ?_
                  refine lv_iload_n hx hb dX11_nozzle_112 rfl (lv_at hl 3 rfl) ?_
                  refine lv_iload hx hb dX11_nozzle_113 (lv_at hl 4 rfl) ?_
                  refine lv_aload_n hx hb dX11_nozzle_115 rfl (lv_at hl 0 rfl) ?_
                  refine r_get E h 12 (v := .int (τ79.1 1)) (eX_0 cy a τ79) rfl fw_X11 (by decide) fl_X11_130 rfl dX11_nozzle_116 ?_
                  refine k_i h (q_runV (As := [.int (nI j), .int y, .int w, .int v, .int (τ79.1 1)]) (rest := [.ref (a 0)]) E h (c_X6_stamp l D cy a τ79 j y w v (τ79.1 1) n z hF hn8 hj2 hz hz2) co_X6_stamp ml_X11_139 im_X6_stamp se_X6_stamp in_X6 (eX_8 cy a τ79) rfl ok_X6_stamp rfl ⟨by decide, by decide⟩ hl.1 rfl (Nat.le_of_ble_eq_true rfl) dX11_nozzle_119 ⟨Nat.zero_le _, Nat.zero_le _⟩) (wX_fst cy a) (fun r119 τ119 H locs p119 h => ?_)
                  refine k_i h (q_runV (As := [.int r119]) (rest := []) E h (c_X11_told l D cy a τ119 r119) co_X11_told ml_X11_90 im_X11_told se_X11_told in_X11 (eX_0 cy a τ119) rfl ok_X11_told rfl ⟨by decide, by decide⟩ hl.1 rfl (Nat.le_of_ble_eq_true rfl) dX11_nozzle_122 ⟨Nat.zero_le _, Nat.zero_le _⟩) (wX_fst cy a) (fun r122 τ122 H locs p122 h => ?_)
                  refine t_i E h hr hk ?_ dX11_nozzle_125
                  obtain ⟨rfl, rfl⟩ := p122
                  rcases p119 with ⟨e1, e2, rfl⟩ | ⟨e1, e2, e3, e4, e5, e6⟩
                  · exact ⟨(KN_of (p79.1.F 2 _ (by decide))), GX.kept g (p79.1.F 2 _ (by decide))⟩
                  · refine ⟨K.tr (KN_of p79.1) (e3.F 2 _ (by decide)), gx_stamp (τ := fF τ119 2 _) hF e2 e1 e4 e5 ⟨fun q9 => absurd q9 c52, fun _ => in_W (n := 7) (p27.2.t c30)⟩ (e6 (gx_N (g.kept p79.1))) (g.kept p79.1) (e3.F 2 _ (by decide))⟩
                · refine lv_aload_n hx hb dX11_nozzle_98 rfl (lv_at hl 0 rfl) ?_
                  refine lv_bipush (v := -3) hx hb dX11_nozzle_99 (by decide) ?_
                  refine k_i h (q_runV (As := [.int (-3)]) (rest := []) E h (c_X11_told l D cy a τ79 (-3)) co_X11_told ml_X11_90 im_X11_told se_X11_told in_X11 (eX_0 cy a τ79) rfl ok_X11_told rfl ⟨by decide, by decide⟩ hl.1 rfl (Nat.le_of_ble_eq_true rfl) dX11_nozzle_101 ⟨Nat.zero_le _, Nat.zero_le _⟩) (wX_fst cy a) (fun r101 τ101 H locs p101 h => ?_)
                  refine t_i E h hr hk ?_ dX11_nozzle_104
                  obtain ⟨rfl, rfl⟩ := p101
                  exact ⟨KN_of (p79.1.F 2 _ (by decide)), g.kept (p79.1.F 2 _ (by decide))⟩
            · refine lv_aload_n hx hb dX11_nozzle_55 rfl (lv_at hl 0 rfl) ?_
              refine lv_iload hx hb dX11_nozzle_56 (lv_at hl 4 rfl) ?_
              refine k_i h (q_runV (As := [.int v]) (rest := []) E h (c_X11_isPerson l D cy a σ v) co_X11_isPerson ml_X11_118 im_X11_isPerson se_X11_isPerson in_X11 (eX_0 cy a σ) rfl ok_X11_isPerson rfl ⟨by decide, by decide⟩ hl.1 rfl (Nat.le_of_ble_eq_true rfl) dX11_nozzle_58 ⟨Nat.zero_le _, Nat.zero_le _⟩) (wX_fst cy a) (fun r58 τ58 H locs p58 h => ?_)
              rw [p58.1] at h
              refine lv_if_ne (tgt := 71) hx hb dX11_nozzle_61 (by decide) (fun c61 => ?_) (fun c61 => ?_)
              · refine lv_aload_n hx hb dX11_nozzle_71 rfl (lv_at hl 0 rfl) ?_
                refine r_get E h 2 (v := .ref (a 3)) (eX_0 cy a σ) rfl fw_X11 (by decide) fl_X11_28 rfl dX11_nozzle_72 ?_
                refine lv_aload_n hx hb dX11_nozzle_75 rfl (lv_at hl 0 rfl) ?_
                refine r_get E h 12 (v := .int (σ.1 1)) (eX_0 cy a σ) rfl fw_X11 (by decide) fl_X11_130 rfl dX11_nozzle_76 ?_
                refine k_v h (q_runV (As := [.int (σ.1 1)]) (rest := []) E h (c_X4_settle_book l D cy a σ (σ.1 1) g) co_X4_settle ml_X11_133 im_X4_settle se_X4_settle in_X4 (eX_3 cy a σ) rfl ok_X4_settle rfl ⟨by decide, by decide⟩ hl.1 rfl (Nat.le_of_ble_eq_true rfl) dX11_nozzle_79 ⟨Nat.zero_le _, Nat.zero_le _⟩) (wX_fst cy a) (fun τ79 H locs p79 h => ?_)
                have hF : τ79.1 13 = nI n := (p79.1.1 13 (by decide)).trans hn
                obtain ⟨z, hz2, hz, _⟩ := gx_N (g.kept p79.1) j hj2
                refine lv_iload_n hx hb dX11_nozzle_82 rfl (lv_at hl 3 rfl) ?_
                refine lv_iconst (v := 2) hx hb dX11_nozzle_83 (by decide) ?_
                refine lv_icmp_ne (tgt := 105) hx hb dX11_nozzle_84 (by decide) (fun c84 => ?_) (fun c84 => ?_)
                · refine lv_aload_n hx hb dX11_nozzle_105 rfl (lv_at hl 0 rfl) ?_
                  refine lv_aload_n hx hb dX11_nozzle_106 rfl (lv_at hl 0 rfl) ?_
                  refine r_get E h 6 (v := .ref (a 8)) (eX_0 cy a τ79) rfl fw_X11 (by decide) fl_X11_56 rfl dX11_nozzle_107 ?_
                  refine lv_iload_n hx hb dX11_nozzle_110 rfl (lv_at hl 1 rfl) ?_
                  refine lv_iload_n hx hb dX11_nozzle_111 rfl (lv_at hl 2 rfl) ?_
                  refine lv_iload_n hx hb dX11_nozzle_112 rfl (lv_at hl 3 rfl) ?_
                  refine lv_iload hx hb dX11_nozzle_113 (lv_at hl 4 rfl) ?_
                  refine lv_aload_n hx hb dX11_nozzle_115 rfl (lv_at hl 0 rfl) ?_
                  refine r_get E h 12 (v := .int (τ79.1 1)) (eX_0 cy a τ79) rfl fw_X11 (by decide) fl_X11_130 rfl dX11_nozzle_116 ?_
                  refine k_i h (q_runV (As := [.int (nI j), .int y, .int w, .int v, .int (τ79.1 1)]) (rest := [.ref (a 0)]) E h (c_X6_stamp l D cy a τ79 j y w v (τ79.1 1) n z hF hn8 hj2 hz hz2) co_X6_stamp ml_X11_139 im_X6_stamp se_X6_stamp in_X6 (eX_8 cy a τ79) rfl ok_X6_stamp rfl ⟨by decide, by decide⟩ hl.1 rfl (Nat.le_of_ble_eq_true rfl) dX11_nozzle_119 ⟨Nat.zero_le _, Nat.zero_le _⟩) (wX_fst cy a) (fun r119 τ119 H locs p119 h => ?_)
                  refine k_i h (q_runV (As := [.int r119]) (rest := []) E h (c_X11_told l D cy a τ119 r119) co_X11_told ml_X11_90 im_X11_told se_X11_told in_X11 (eX_0 cy a τ119) rfl ok_X11_told rfl ⟨by decide, by decide⟩ hl.1 rfl (Nat.le_of_ble_eq_true rfl) dX11_nozzle_122 ⟨Nat.zero_le _, Nat.zero_le _⟩) (wX_fst cy a) (fun r122 τ122 H locs p122 h => ?_)
                  refine t_i E h hr hk ?_ dX11_nozzle_125
                  obtain ⟨rfl, rfl⟩ := p122
                  rcases p119 with ⟨e1, e2, rfl⟩ | ⟨e1, e2, e3, e4, e5, e6⟩
                  · exact ⟨(KN_of (p79.1.F 2 _ (by decide))), GX.kept g (p79.1.F 2 _ (by decide))⟩
                  · refine ⟨K.tr (KN_of p79.1) (e3.F 2 _ (by decide)), gx_stamp (τ := fF τ119 2 _) hF e2 e1 e4 e5 ⟨fun _ => by obtain ⟨i, _, h4, rfl⟩ := z_in (N := 40) (p58.2.t c61).1 (hm ▸ (p58.2.t c61).2) hm4 (by decide); exact vp_in_nI h4 (by decide), fun q9 => absurd c52 q9⟩ (e6 (gx_N (g.kept p79.1))) (g.kept p79.1) (e3.F 2 _ (by decide))⟩
                · refine lv_aload_n hx hb dX11_nozzle_87 rfl (lv_at hl 0 rfl) ?_
                  refine r_get E h 2 (v := .ref (a 3)) (eX_0 cy a τ79) rfl fw_X11 (by decide) fl_X11_28 rfl dX11_nozzle_88 ?_
                  refine lv_iload_n hx hb dX11_nozzle_91 rfl (lv_at hl 2 rfl) ?_
                  refine k_i h (q_runV (As := [.int y]) (rest := []) E h (c_X4_isAboveMost_book l D cy a τ79 y) co_X4_isAboveMost ml_X11_136 im_X4_isAboveMost se_X4_isAboveMost in_X4 (eX_3 cy a τ79) rfl ok_X4_isAboveMost rfl ⟨by decide, by decide⟩ hl.1 rfl (Nat.le_of_ble_eq_true rfl) dX11_nozzle_92 ⟨Nat.zero_le _, Nat.zero_le _⟩) (wX_fst cy a) (fun r92 τ92 H locs p92 h => ?_)
                  rw [p92.1] at h
                  refine lv_if_eq (tgt := 105) hx hb dX11_nozzle_95 (by decide) (fun c95 => ?_) (fun c95 => ?_)
                  · refine lv_aload_n hx hb dX11_nozzle_105 rfl (lv_at hl 0 rfl) ?_
                    refine lv_aload_n hx hb dX11_nozzle_106 rfl (lv_at hl 0 rfl) ?_
                    refine r_get E h 6 (v := .ref (a 8)) (eX_0 cy a τ79) rfl fw_X11 (by decide) fl_X11_56 rfl dX11_nozzle_107 ?_
                    refine lv_iload_n hx hb dX11_nozzle_110 rfl (lv_at hl 1 rfl) ?_
                    refine lv_iload_n hx hb dX11_nozzle_111 rfl (lv_at hl 2 rfl) ?_
                    refine lv_iload_n hx hb dX11_nozzle_112 rfl (lv_at hl 3 rfl) ?_
                    refine lv_iload hx hb dX11_nozzle_113 (lv_at hl 4 rfl) ?_
                    refine lv_aload_n hx hb dX11_nozzle_115 rfl (lv_at hl 0 rfl) ?_
                    refine r_get E h 12 (v := .int (τ79.1 1)) (eX_0 cy a τ79) rfl fw_X11 (by decide) fl_X11_130 rfl dX11_nozzle_116 ?_
                    refine k_i h (q_runV (As := [.int (nI j), .int y, .int w, .int v, .int (τ79.1 1)]) (rest := [.ref (a 0)]) E h (c_X6_stamp l D cy a τ79 j y w v (τ79.1 1) n z hF hn8 hj2 hz hz2) co_X6_stamp ml_X11_139 im_X6_stamp se_X6_stamp in_X6 (eX_8 cy a τ79) rfl ok_X6_stamp rfl ⟨by decide, by decide⟩ hl.1 rfl (Nat.le_of_ble_eq_true rfl) dX11_nozzle_119 ⟨Nat.zero_le _, Nat.zero_le _⟩) (wX_fst cy a) (fun r119 τ119 H locs p119 h => ?_)
                    refine k_i h (q_runV (As := [.int r119]) (rest := []) E h (c_X11_told l D cy a τ119 r119) co_X11_told ml_X11_90 im_X11_told se_X11_told in_X11 (eX_0 cy a τ119) rfl ok_X11_told rfl ⟨by decide, by decide⟩ hl.1 rfl (Nat.le_of_ble_eq_true rfl) dX11_nozzle_122 ⟨Nat.zero_le _, Nat.zero_le _⟩) (wX_fst cy a) (fun r122 τ122 H locs p122 h => ?_)
                    refine t_i E h hr hk ?_ dX11_nozzle_125
                    obtain ⟨rfl, rfl⟩ := p122
                    rcases p119 with ⟨e1, e2, rfl⟩ | ⟨e1, e2, e3, e4, e5, e6⟩
                    · exact ⟨(KN_of (p79.1.F 2 _ (by decide))), GX.kept g (p79.1.F 2 _ (by decide))⟩
                    · refine ⟨K.tr (KN_of p79.1) (e3.F 2 _ (by decide)), gx_stamp (τ := fF τ119 2 _) hF e2 e1 e4 e5 ⟨fun _ => by obtain ⟨i, _, h4, rfl⟩ := z_in (N := 40) (p58.2.t c61).1 (hm ▸ (p58.2.t c61).2) hm4 (by decide); exact vp_in_nI h4 (by decide), fun q9 => absurd c52 q9⟩ (e6 (gx_N (g.kept p79.1))) (g.kept p79.1) (e3.F 2 _ (by decide))⟩
                  · refine lv_aload_n hx hb dX11_nozzle_98 rfl (lv_at hl 0 rfl) ?_
                    refine lv_bipush (v := -3) hx hb dX11_nozzle_99 (by decide) ?_
                    refine k_i h (q_runV (As := [.int (-3)]) (rest := []) E h (c_X11_told l D cy a τ79 (-3)) co_X11_told ml_X11_90 im_X11_told se_X11_told in_X11 (eX_0 cy a τ79) rfl ok_X11_told rfl ⟨by decide, by decide⟩ hl.1 rfl (Nat.le_of_ble_eq_true rfl) dX11_nozzle_101 ⟨Nat.zero_le _, Nat.zero_le _⟩) (wX_fst cy a) (fun r101 τ101 H locs p101 h => ?_)
                    refine t_i E h hr hk ?_ dX11_nozzle_104
                    obtain ⟨rfl, rfl⟩ := p101
                    exact ⟨KN_of (p79.1.F 2 _ (by decide)), g.kept (p79.1.F 2 _ (by decide))⟩
              · refine lv_aload_n hx hb dX11_nozzle_64 rfl (lv_at hl 0 rfl) ?_
                refine lv_bipush (v := -2) hx hb dX11_nozzle_65 (by decide) ?_
                refine k_i h (q_runV (As := [.int (-2)]) (rest := []) E h (c_X11_told l D cy a σ (-2)) co_X11_told ml_X11_90 im_X11_told se_X11_told in_X11 (eX_0 cy a σ) rfl ok_X11_told rfl ⟨by decide, by decide⟩ hl.1 rfl (Nat.le_of_ble_eq_true rfl) dX11_nozzle_67 ⟨Nat.zero_le _, Nat.zero_le _⟩) (wX_fst cy a) (fun r67 τ67 H locs p67 h => ?_)
                refine t_i E h hr hk ?_ dX11_nozzle_70
                exact ⟨KN_of (by rw [p67.2]; exact K.rf.F 2 _ (by decide)), g.kept (by rw [p67.2]; exact K.rf.F 2 _ (by decide))⟩
        · refine lv_aload_n hx hb dX11_nozzle_33 rfl (lv_at hl 0 rfl) ?_
          refine lv_iconst (v := -1) hx hb dX11_nozzle_34 (by decide) ?_
          refine k_i h (q_runV (As := [.int (-1)]) (rest := []) E h (c_X11_told l D cy a σ (-1)) co_X11_told ml_X11_90 im_X11_told se_X11_told in_X11 (eX_0 cy a σ) rfl ok_X11_told rfl ⟨by decide, by decide⟩ hl.1 rfl (Nat.le_of_ble_eq_true rfl) dX11_nozzle_35 ⟨Nat.zero_le _, Nat.zero_le _⟩) (wX_fst cy a) (fun r35 τ35 H locs p35 h => ?_)
          refine t_i E h hr hk ?_ dX11_nozzle_38
          exact ⟨KN_of (by rw [p35.2]; exact K.rf.F 2 _ (by decide)), g.kept (by rw [p35.2]; exact K.rf.F 2 _ (by decide))⟩

theorem KT_of {σ τ : St} (h : K cF cA σ τ) : K [0, 1, 3, 7, 9, 10, 11, 12, 13, 15] [18, 19, 20, 21, 22, 29, 30, 31, 33, 34, 35, 36, 38, 39, 40, 41, 42, 43, 44, 45, 49, 50, 51, 52, 53, 54, 55, 58, 59] σ τ := K.sub h (by decide) (by decide)
set_option maxHeartbeats 4000000 in
set_option maxRecDepth 100000 in
theorem c_X11_tap (l : Launch) (D : va_G) (cy : Nat → ClassId) (a : Nat → Nat) (σ : St) (x y w v : Int32) (n : Nat) (g : GX σ) (hn : σ.1 14 = nI n) (hn6 : n ≤ 60) : CI l yX11_tap cX11_tap 5 (some .int) (rmOf 3 68) D cy (wX cy a) (AX a) [.ref (a 0), .int x, .int y, .int w, .int v] σ (fun r τ => (¬ (((1 : Int32) ≤ y ∧ y ≤ 10000) ∧ (((0 : Int32) ≤ w ∧ w ≤ 200) ∧ ((0 : Int32) ≤ v ∧ v ≤ 200) ∧ w ≤ v)) ∧ r = -1 ∧ K cF cA σ τ) ∨ ((((1 : Int32) ≤ y ∧ y ≤ 10000) ∧ (((0 : Int32) ≤ w ∧ w ≤ 200) ∧ ((0 : Int32) ≤ v ∧ v ≤ 200) ∧ w ≤ v)) ∧ ¬ ((0 : Int32) ≤ x ∧ x ≤ σ.1 12 - 1) ∧ r = -2 ∧ K cF cA σ τ) ∨ ((((1 : Int32) ≤ y ∧ y ≤ 10000) ∧ (((0 : Int32) ≤ w ∧ w ≤ 200) ∧ ((0 : Int32) ≤ v ∧ v ≤ 200) ∧ w ≤ v)) ∧ ((0 : Int32) ≤ x ∧ x ≤ σ.1 12 - 1) ∧ ((n = 60 ∧ r = -5 ∧ K cF cA σ τ) ∨ (n < 60 ∧ r = nI (n + 1) ∧ τ.1 14 = nI (n + 1) ∧ K [0, 1, 3, 7, 9, 10, 11, 12, 13, 15] [18, 19, 20, 21, 22, 29, 30, 31, 33, 34, 35, 36, 38, 39, 40, 41, 42, 43, 44, 45, 49, 50, 51, 52, 53, 54, 55, 58, 59] σ τ ∧ GX τ)))) := by
  refine c_of (lv := [(0, .ref (a 0)), (1, .int x), (2, .int y), (3, .int w), (4, .int v)]) rfl (Nat.le_of_ble_eq_true rfl) rfl ?_
  intro p e s m args below meth c ls E h hr hk hl
  have hx := E.1
  have hb := E.2.1
  obtain ⟨n0, hn02, hn0, hN0⟩ := gx_ca g
  refine lv_iload_n hx hb dX11_tap_0 rfl (lv_at hl 2 rfl) ?_
  refine lv_iconst (v := 1) hx hb dX11_tap_1 (by decide) ?_
  refine lv_sipush (v := 10000) hx hb dX11_tap_2 (by decide) ?_
  refine k_i h (q_runS (As := [.int y, .int 1, .int 10000]) (rest := []) E h (c_X11_isWithin l D cy a σ y 1 10000) co_X11_isWithin ml_X11_86 st_X11_isWithin in_X11 rfl ok_X11_isWithin rfl ⟨by decide, by decide⟩ hl.1 rfl (Nat.le_of_ble_eq_true rfl) dX11_tap_5 ⟨Nat.zero_le _, Nat.zero_le _⟩) (wX_fst cy a) (fun r5 τ5 H locs p5 h => ?_)
  rw [p5.1] at h
  refine lv_if_eq (tgt := 20) hx hb dX11_tap_8 (by decide) (fun c8 => ?_) (fun c8 => ?_)
  · refine lv_aload_n hx hb dX11_tap_20 rfl (lv_at hl 0 rfl) ?_
    refine lv_iconst (v := -1) hx hb dX11_tap_21 (by decide) ?_
    refine k_i h (q_runV (As := [.int (-1)]) (rest := []) E h (c_X11_told l D cy a σ (-1)) co_X11_told ml_X11_90 im_X11_told se_X11_told in_X11 (eX_0 cy a σ) rfl ok_X11_told rfl ⟨by decide, by decide⟩ hl.1 rfl (Nat.le_of_ble_eq_true rfl) dX11_tap_22 ⟨Nat.zero_le _, Nat.zero_le _⟩) (wX_fst cy a) (fun r22 τ22 H locs p22 h => ?_)
    exact t_i E h hr hk (Or.inl ⟨fun q => p5.2.f c8 q.1, p22.1, (by rw [p22.2]; exact K.rf.F 2 _ (by decide))⟩) dX11_tap_25
  · refine lv_iload_n hx hb dX11_tap_11 rfl (lv_at hl 3 rfl) ?_
    refine lv_iload hx hb dX11_tap_12 (lv_at hl 4 rfl) ?_
    refine k_i h (q_runS (As := [.int w, .int v]) (rest := []) E h (c_X11_areYears l D cy a σ w v) co_X11_areYears ml_X11_148 st_X11_areYears in_X11 rfl ok_X11_areYears rfl ⟨by decide, by decide⟩ hl.1 rfl (Nat.le_of_ble_eq_true rfl) dX11_tap_14 ⟨Nat.zero_le _, Nat.zero_le _⟩) (wX_fst cy a) (fun r14 τ14 H locs p14 h => ?_)
    rw [p14.1] at h
    refine lv_if_ne (tgt := 26) hx hb dX11_tap_17 (by decide) (fun c17 => ?_) (fun c17 => ?_)
    · refine lv_aload_n hx hb dX11_tap_26 rfl (lv_at hl 0 rfl) ?_
      refine r_get E h 5 (v := .ref (a 7)) (eX_0 cy a σ) rfl fw_X11 (by decide) fl_X11_49 rfl dX11_tap_27 ?_
      refine lv_iload_n hx hb dX11_tap_30 rfl (lv_at hl 1 rfl) ?_
      refine k_i h (q_runV (As := [.int x]) (rest := []) E h (c_X0_has l D cy a σ x) co_X0_has ml_X11_127 im_X0_has se_X0_has in_X0 (eX_7 cy a σ) rfl ok_X0_has rfl ⟨by decide, by decide⟩ hl.1 rfl (Nat.le_of_ble_eq_true rfl) dX11_tap_31 ⟨Nat.zero_le _, Nat.zero_le _⟩) (wX_fst cy a) (fun r31 τ31 H locs p31 h => ?_)
      rw [p31.1] at h
      refine lv_if_ne (tgt := 44) hx hb dX11_tap_34 (by decide) (fun c34 => ?_) (fun c34 => ?_)
      · have hP := p31.2.t c34
        obtain ⟨j, hj, hj2, rfl⟩ := z_in (p31.2.t c34).1 (hn0 ▸ (p31.2.t c34).2) hn02 (by decide)
        obtain ⟨z, hz2, hz, _⟩ := gx_T g j hj2
        refine lv_aload_n hx hb dX11_tap_44 rfl (lv_at hl 0 rfl) ?_
        refine lv_aload_n hx hb dX11_tap_45 rfl (lv_at hl 0 rfl) ?_
        refine r_get E h 7 (v := .ref (a 9)) (eX_0 cy a σ) rfl fw_X11 (by decide) fl_X11_65 rfl dX11_tap_46 ?_
        refine lv_iload_n hx hb dX11_tap_49 rfl (lv_at hl 1 rfl) ?_
        refine lv_iload_n hx hb dX11_tap_50 rfl (lv_at hl 2 rfl) ?_
        refine lv_iload_n hx hb dX11_tap_51 rfl (lv_at hl 3 rfl) ?_
        refine lv_iload hx hb dX11_tap_52 (lv_at hl 4 rfl) ?_
        refine k_i h (q_runV (As := [.int (nI j), .int y, .int w, .int v]) (rest := [.ref (a 0)]) E h (c_X8_add_taps l D cy a σ j y w v n z hj2 hn hn6 hz hz2) co_X8_add ml_X11_152 im_X8_add se_X8_add in_X8 (eX_9 cy a σ) rfl ok_X8_add rfl ⟨by decide, by decide⟩ hl.1 rfl (Nat.le_of_ble_eq_true rfl) dX11_tap_54 ⟨Nat.zero_le _, Nat.zero_le _⟩) (wX_fst cy a) (fun r54 τ54 H locs p54 h => ?_)
        refine k_i h (q_runV (As := [.int r54]) (rest := []) E h (c_X11_told l D cy a τ54 r54) co_X11_told ml_X11_90 im_X11_told se_X11_told in_X11 (eX_0 cy a τ54) rfl ok_X11_told rfl ⟨by decide, by decide⟩ hl.1 rfl (Nat.le_of_ble_eq_true rfl) dX11_tap_57 ⟨Nat.zero_le _, Nat.zero_le _⟩) (wX_fst cy a) (fun r57 τ57 H locs p57 h => ?_)
        refine t_i E h hr hk ?_ dX11_tap_60
        obtain ⟨rfl, rfl⟩ := p57
        refine Or.inr (Or.inr ⟨⟨p5.2.t c8, (p14.2.elim (fun q => q.2) (fun q => absurd q.1 c17))⟩, hP, ?_⟩)
        rcases p54 with ⟨e1, e2, rfl⟩ | ⟨e1, e2, ⟨e3, rfl⟩ | ⟨e3, rfl⟩⟩
        · exact Or.inl ⟨e1, e2, K.rf.F 2 _ (by decide)⟩
        · have k9 := ((((K.rf (fs := [0, 1, 3, 7, 9, 10, 11, 12, 13, 15]) (rs := [18, 19, 20, 21, 22, 29, 30, 31, 33, 34, 35, 36, 38, 39, 40, 41, 42, 43, 44, 45, 49, 50, 51, 52, 53, 54, 55, 58, 59]) (σ := σ)).R 46 (upd (σ.2.1 46) n y) (by decide)).R 47 (upd (σ.2.1 47) n w) (by decide)).R 48 (upd (σ.2.1 48) n v) (by decide)).F 14 (nI (n + 1)) (by decide)
          exact Or.inr ⟨e1, e2, rfl, k9.F 2 _ (by decide), gx_tap (k := n + 1) rfl (by omega) (gx_T (σ := σ) g) g (k9.F 2 _ (by decide))⟩
        · have k9 := ((((((K.rf (fs := [0, 1, 3, 7, 9, 10, 11, 12, 13, 15]) (rs := [18, 19, 20, 21, 22, 29, 30, 31, 33, 34, 35, 36, 38, 39, 40, 41, 42, 43, 44, 45, 49, 50, 51, 52, 53, 54, 55, 58, 59]) (σ := σ)).R 46 (upd (σ.2.1 46) n y) (by decide)).R 47 (upd (σ.2.1 47) n w) (by decide)).R 48 (upd (σ.2.1 48) n v) (by decide)).R 56 (upd (σ.2.1 56) ((j * 60) + z) (nI n)) (by decide)).R 57 (upd (σ.2.1 57) j (nI (z + 1))) (by decide)).F 14 (nI (n + 1)) (by decide)
          exact Or.inr ⟨e1, e2, rfl, k9.F 2 _ (by decide), gx_tap (k := n + 1) rfl (by omega) (grp_put (gx_T g) hz e3 (by decide) (vp_in_nI e1 (by decide))) g (k9.F 2 _ (by decide))⟩
      · refine lv_aload_n hx hb dX11_tap_37 rfl (lv_at hl 0 rfl) ?_
        refine lv_bipush (v := -2) hx hb dX11_tap_38 (by decide) ?_
        refine k_i h (q_runV (As := [.int (-2)]) (rest := []) E h (c_X11_told l D cy a σ (-2)) co_X11_told ml_X11_90 im_X11_told se_X11_told in_X11 (eX_0 cy a σ) rfl ok_X11_told rfl ⟨by decide, by decide⟩ hl.1 rfl (Nat.le_of_ble_eq_true rfl) dX11_tap_40 ⟨Nat.zero_le _, Nat.zero_le _⟩) (wX_fst cy a) (fun r40 τ40 H locs p40 h => ?_)
        exact t_i E h hr hk (Or.inr (Or.inl ⟨⟨p5.2.t c8, (p14.2.elim (fun q => q.2) (fun q => absurd q.1 c17))⟩, p31.2.f c34, p40.1, (by rw [p40.2]; exact K.rf.F 2 _ (by decide))⟩)) dX11_tap_43
    · refine lv_aload_n hx hb dX11_tap_20 rfl (lv_at hl 0 rfl) ?_
      refine lv_iconst (v := -1) hx hb dX11_tap_21 (by decide) ?_
      refine k_i h (q_runV (As := [.int (-1)]) (rest := []) E h (c_X11_told l D cy a σ (-1)) co_X11_told ml_X11_90 im_X11_told se_X11_told in_X11 (eX_0 cy a σ) rfl ok_X11_told rfl ⟨by decide, by decide⟩ hl.1 rfl (Nat.le_of_ble_eq_true rfl) dX11_tap_22 ⟨Nat.zero_le _, Nat.zero_le _⟩) (wX_fst cy a) (fun r22 τ22 H locs p22 h => ?_)
      exact t_i E h hr hk (Or.inl ⟨fun q => (p14.2.elim (fun q => absurd (c17.symm.trans q.1) (by decide)) (fun q => q.2)) q.2, p22.1, (by rw [p22.2]; exact K.rf.F 2 _ (by decide))⟩) dX11_tap_25

set_option maxHeartbeats 4000000 in
set_option maxRecDepth 100000 in
theorem c_X11_repair (l : Launch) (D : va_G) (cy : Nat → ClassId) (a : Nat → Nat) (σ : St) (x y w : Int32) (n : Nat) (g : GX σ) (hn : σ.1 15 = nI n) (hn6 : n ≤ 40) : CI l yX11_repair cX11_repair 4 (some .int) (rmOf 3 68) D cy (wX cy a) (AX a) [.ref (a 0), .int x, .int y, .int w] σ (fun r τ => (¬ (((0 : Int32) ≤ y ∧ y ≤ 200) ∧ ((0 : Int32) ≤ w ∧ w ≤ 200) ∧ y ≤ w) ∧ r = -1 ∧ K cF cA σ τ) ∨ ((((0 : Int32) ≤ y ∧ y ≤ 200) ∧ ((0 : Int32) ≤ w ∧ w ≤ 200) ∧ y ≤ w) ∧ ¬ ((0 : Int32) ≤ x ∧ x ≤ σ.1 12 - 1) ∧ r = -2 ∧ K cF cA σ τ) ∨ ((((0 : Int32) ≤ y ∧ y ≤ 200) ∧ ((0 : Int32) ≤ w ∧ w ≤ 200) ∧ y ≤ w) ∧ ((0 : Int32) ≤ x ∧ x ≤ σ.1 12 - 1) ∧ ((n = 40 ∧ r = -5 ∧ K cF cA σ τ) ∨ (n < 40 ∧ r = nI (n + 1) ∧ τ.1 15 = nI (n + 1) ∧ K [0, 1, 3, 7, 9, 10, 11, 12, 13, 14] [18, 19, 20, 21, 22, 29, 30, 31, 33, 34, 35, 36, 38, 39, 40, 41, 42, 43, 44, 45, 46, 47, 48, 52, 53, 54, 55, 56, 57] σ τ ∧ GX τ)))) := by
  refine c_of (lv := [(0, .ref (a 0)), (1, .int x), (2, .int y), (3, .int w)]) rfl (Nat.le_of_ble_eq_true rfl) rfl ?_
  intro p e s m args below meth c ls E h hr hk hl
  have hx := E.1
  have hb := E.2.1
  obtain ⟨n0, hn02, hn0, hN0⟩ := gx_ca g
  refine lv_iload_n hx hb dX11_repair_0 rfl (lv_at hl 2 rfl) ?_
  refine lv_iload_n hx hb dX11_repair_1 rfl (lv_at hl 3 rfl) ?_
  refine k_i h (q_runS (As := [.int y, .int w]) (rest := []) E h (c_X11_areYears l D cy a σ y w) co_X11_areYears ml_X11_148 st_X11_areYears in_X11 rfl ok_X11_areYears rfl ⟨by decide, by decide⟩ hl.1 rfl (Nat.le_of_ble_eq_true rfl) dX11_repair_2 ⟨Nat.zero_le _, Nat.zero_le _⟩) (wX_fst cy a) (fun r2 τ2 H locs p2 h => ?_)
  rw [p2.1] at h
  refine lv_if_ne (tgt := 14) hx hb dX11_repair_5 (by decide) (fun c5 => ?_) (fun c5 => ?_)
  · refine lv_aload_n hx hb dX11_repair_14 rfl (lv_at hl 0 rfl) ?_
    refine r_get E h 5 (v := .ref (a 7)) (eX_0 cy a σ) rfl fw_X11 (by decide) fl_X11_49 rfl dX11_repair_15 ?_
    refine lv_iload_n hx hb dX11_repair_18 rfl (lv_at hl 1 rfl) ?_
    refine k_i h (q_runV (As := [.int x]) (rest := []) E h (c_X0_has l D cy a σ x) co_X0_has ml_X11_127 im_X0_has se_X0_has in_X0 (eX_7 cy a σ) rfl ok_X0_has rfl ⟨by decide, by decide⟩ hl.1 rfl (Nat.le_of_ble_eq_true rfl) dX11_repair_19 ⟨Nat.zero_le _, Nat.zero_le _⟩) (wX_fst cy a) (fun r19 τ19 H locs p19 h => ?_)
    rw [p19.1] at h
    refine lv_if_ne (tgt := 32) hx hb dX11_repair_22 (by decide) (fun c22 => ?_) (fun c22 => ?_)
    · have hP := p19.2.t c22
      obtain ⟨j, hj, hj2, rfl⟩ := z_in (p19.2.t c22).1 (hn0 ▸ (p19.2.t c22).2) hn02 (by decide)
      obtain ⟨z, hz2, hz, _⟩ := gx_R g j hj2
      refine lv_aload_n hx hb dX11_repair_32 rfl (lv_at hl 0 rfl) ?_
      refine lv_aload_n hx hb dX11_repair_33 rfl (lv_at hl 0 rfl) ?_
      refine r_get E h 8 (v := .ref (a 10)) (eX_0 cy a σ) rfl fw_X11 (by decide) fl_X11_69 rfl dX11_repair_34 ?_
      refine lv_iload_n hx hb dX11_repair_37 rfl (lv_at hl 1 rfl) ?_
      refine lv_iconst (v := 0) hx hb dX11_repair_38 (by decide) ?_
      refine lv_iload_n hx hb dX11_repair_39 rfl (lv_at hl 2 rfl) ?_
      refine lv_iload_n hx hb dX11_repair_40 rfl (lv_at hl 3 rfl) ?_
      refine k_i h (q_runV (As := [.int (nI j), .int 0, .int y, .int w]) (rest := [.ref (a 0)]) E h (c_X8_add_repairs l D cy a σ j 0 y w n z hj2 hn hn6 hz hz2) co_X8_add ml_X11_152 im_X8_add se_X8_add in_X8 (eX_10 cy a σ) rfl ok_X8_add rfl ⟨by decide, by decide⟩ hl.1 rfl (Nat.le_of_ble_eq_true rfl) dX11_repair_41 ⟨Nat.zero_le _, Nat.zero_le _⟩) (wX_fst cy a) (fun r41 τ41 H locs p41 h => ?_)
      refine k_i h (q_runV (As := [.int r41]) (rest := []) E h (c_X11_told l D cy a τ41 r41) co_X11_told ml_X11_90 im_X11_told se_X11_told in_X11 (eX_0 cy a τ41) rfl ok_X11_told rfl ⟨by decide, by decide⟩ hl.1 rfl (Nat.le_of_ble_eq_true rfl) dX11_repair_44 ⟨Nat.zero_le _, Nat.zero_le _⟩) (wX_fst cy a) (fun r44 τ44 H locs p44 h => ?_)
      refine t_i E h hr hk ?_ dX11_repair_47
      obtain ⟨rfl, rfl⟩ := p44
      refine Or.inr (Or.inr ⟨(p2.2.elim (fun q => q.2) (fun q => absurd q.1 c5)), hP, ?_⟩)
      rcases p41 with ⟨e1, e2, rfl⟩ | ⟨e1, e2, ⟨e3, rfl⟩ | ⟨e3, rfl⟩⟩
      · exact Or.inl ⟨e1, e2, K.rf.F 2 _ (by decide)⟩
      · have k9 := ((((K.rf (fs := [0, 1, 3, 7, 9, 10, 11, 12, 13, 14]) (rs := [18, 19, 20, 21, 22, 29, 30, 31, 33, 34, 35, 36, 38, 39, 40, 41, 42, 43, 44, 45, 46, 47, 48, 52, 53, 54, 55, 56, 57]) (σ := σ)).R 49 (upd (σ.2.1 49) n 0) (by decide)).R 50 (upd (σ.2.1 50) n y) (by decide)).R 51 (upd (σ.2.1 51) n w) (by decide)).F 15 (nI (n + 1)) (by decide)
        exact Or.inr ⟨e1, e2, rfl, k9.F 2 _ (by decide), gx_repair (k := n + 1) rfl (by omega) (gx_R (σ := σ) g) g (k9.F 2 _ (by decide))⟩
      · have k9 := ((((((K.rf (fs := [0, 1, 3, 7, 9, 10, 11, 12, 13, 14]) (rs := [18, 19, 20, 21, 22, 29, 30, 31, 33, 34, 35, 36, 38, 39, 40, 41, 42, 43, 44, 45, 46, 47, 48, 52, 53, 54, 55, 56, 57]) (σ := σ)).R 49 (upd (σ.2.1 49) n 0) (by decide)).R 50 (upd (σ.2.1 50) n y) (by decide)).R 51 (upd (σ.2.1 51) n w) (by decide)).R 58 (upd (σ.2.1 58) ((j * 40) + z) (nI n)) (by decide)).R 59 (upd (σ.2.1 59) j (nI (z + 1))) (by decide)).F 15 (nI (n + 1)) (by decide)
        exact Or.inr ⟨e1, e2, rfl, k9.F 2 _ (by decide), gx_repair (k := n + 1) rfl (by omega) (grp_put (gx_R g) hz e3 (by decide) (vp_in_nI e1 (by decide))) g (k9.F 2 _ (by decide))⟩
    · refine lv_aload_n hx hb dX11_repair_25 rfl (lv_at hl 0 rfl) ?_
      refine lv_bipush (v := -2) hx hb dX11_repair_26 (by decide) ?_
      refine k_i h (q_runV (As := [.int (-2)]) (rest := []) E h (c_X11_told l D cy a σ (-2)) co_X11_told ml_X11_90 im_X11_told se_X11_told in_X11 (eX_0 cy a σ) rfl ok_X11_told rfl ⟨by decide, by decide⟩ hl.1 rfl (Nat.le_of_ble_eq_true rfl) dX11_repair_28 ⟨Nat.zero_le _, Nat.zero_le _⟩) (wX_fst cy a) (fun r28 τ28 H locs p28 h => ?_)
      exact t_i E h hr hk (Or.inr (Or.inl ⟨(p2.2.elim (fun q => q.2) (fun q => absurd q.1 c5)), p19.2.f c22, p28.1, (by rw [p28.2]; exact K.rf.F 2 _ (by decide))⟩)) dX11_repair_31
  · refine lv_aload_n hx hb dX11_repair_8 rfl (lv_at hl 0 rfl) ?_
    refine lv_iconst (v := -1) hx hb dX11_repair_9 (by decide) ?_
    refine k_i h (q_runV (As := [.int (-1)]) (rest := []) E h (c_X11_told l D cy a σ (-1)) co_X11_told ml_X11_90 im_X11_told se_X11_told in_X11 (eX_0 cy a σ) rfl ok_X11_told rfl ⟨by decide, by decide⟩ hl.1 rfl (Nat.le_of_ble_eq_true rfl) dX11_repair_10 ⟨Nat.zero_le _, Nat.zero_le _⟩) (wX_fst cy a) (fun r10 τ10 H locs p10 h => ?_)
    exact t_i E h hr hk (Or.inl ⟨(p2.2.elim (fun q => absurd (c5.symm.trans q.1) (by decide)) (fun q => q.2)), p10.1, (by rw [p10.2]; exact K.rf.F 2 _ (by decide))⟩) dX11_repair_13
