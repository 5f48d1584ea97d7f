
section RA
variable {p : Program} {l : Launch} {e : Env} {R : Room} {s : State} {m : MethodId} {args : Array Value} {below : List Frame} {meth : Method} {c : Code} {H : Heap} {locs : List Loc} {cells slots : Nat} {Q : State → Prop}
variable {cc : ByteArray} {pc : Nat} {ls : Array Slot} {rest : List Value} {D : va_G} {A : Nat → Prop} {a : Nat} {ws ws' : va_W} {own : String} {nL : Nat} {cy : Nat → ClassId}
theorem r_aald (E : EV p s m c args cc own nL D cy) (h : HW D A s ws H locs) {q0 n j : Nat} {f : Nat → Option Nat} (he : ws[q0]? = some (a, .inl (cy 3, n, .inr (.inr (.inr (.inr f)))))) (hj : j < n) (hn : n < 2 ^ 31) {v : Value} (hv : va_rf (f j) = v) (hdg : decode cc pc = .ok (.aaload, 1))
    (kk : W p l e R s m args below meth c H locs cells slots Q (F0 m (pc + 1) ls (v :: rest))) : W p l e R s m args below meth c H locs cells slots Q (F0 m pc ls (.int (nI j) :: .ref a :: rest)) := by
  refine W.aald (v := v) (ty := .array .int) E.1 E.2.1 (h.1 q0 _ he) ((E.2.2.2.2.2.1.2 3 (cy 3, .array .int) rfl).1 n (fun j => va_rf (f j))) rfl (fun q => by cases q) (by show ¬ (nI j < 0 ∨ (arrV _ _ _).slots.size ≤ _); rw [arrV_size]; exact vp_in_nI hj hn) (by show (arrV _ _ _).slots[_]? = _; rw [nI_clamp (Nat.lt_trans hj hn), arrV_read _ _ hj, hv]) rfl rfl hdg kk
end RA
theorem k2 {σ τ : St} (h : K cF cA2 σ τ) : K cF cA σ τ := K.sub h (fun _ h => h) (fun _ h => List.mem_cons_of_mem _ h)
theorem CF.kept {σ τ : St} (h : K cF cA2 σ τ) (hc : CF σ) : CF τ := by
  unfold CF at *
  rw [h.2 23 (by decide)]
  exact hc
theorem gx_C {σ : St} (g : GX σ) : GRP (σ.2.1 53) (σ.2.1 52) 12 12 := g.2.2.2.2.2.2.2.1
theorem gx_N {σ : St} (g : GX σ) : GRP (σ.2.1 55) (σ.2.1 54) 80 80 := g.2.2.2.2.2.2.2.2.1
theorem gx_T {σ : St} (g : GX σ) : GRP (σ.2.1 57) (σ.2.1 56) 60 60 := g.2.2.2.2.2.2.2.2.2.1
theorem gx_R {σ : St} (g : GX σ) : GRP (σ.2.1 59) (σ.2.1 58) 40 40 := g.2.2.2.2.2.2.2.2.2.2
theorem gx_no {σ : St} (g : GX σ) : gNozzles σ := g.2.2.2.2.2.1
theorem gx_ca {σ : St} (g : GX σ) : gCastles σ := g.2.2.2.2.1

set_option maxHeartbeats 4000000 in
set_option maxRecDepth 100000 in
theorem c_X6_isOpen (l : Launch) (D : va_G) (cy : Nat → ClassId) (a : Nat → Nat) (σ : St) (i : Nat) (y : Int32) (hi8 : i < 80) : CI l yX6_isOpen cX6_isOpen 3 (some .boolean) (rmOf 1 22) D cy (wX cy a) (AX a) [.ref (a 8), .int (nI i), .int y] σ (fun r τ => τ = σ ∧ (r = 0 ∨ r = 1)) := by
  refine c_of (lv := [(0, .ref (a 8)), (1, .int (nI i)), (2, .int y)]) rfl (Nat.le_of_ble_eq_true rfl) rfl ?_
  intro p e s m args below meth c ls E h hr hk hl
  have hx := E.1
  have hb := E.2.1
  refine lv_iload_n hx hb dX6_isOpen_0 rfl (lv_at hl 2 rfl) ?_
  refine lv_aload_n hx hb dX6_isOpen_1 rfl (lv_at hl 0 rfl) ?_
  refine r_get E h 3 (v := .ref (a 44)) (eX_8 cy a σ) rfl fw_X6 (by decide) fl_X6_21 rfl dX6_isOpen_2 ?_
  refine lv_iload_n hx hb dX6_isOpen_5 rfl (lv_at hl 1 rfl) ?_
  refine r_ialdN E h (f := σ.2.1 44) (eX_44 cy a σ) (j := i) hi8 (by decide) (v := σ.2.1 44 i) rfl dX6_isOpen_6 ?_
  refine lv_aload_n hx hb dX6_isOpen_7 rfl (lv_at hl 0 rfl) ?_
  refine r_get E h 4 (v := .ref (a 45)) (eX_8 cy a σ) rfl fw_X6 (by decide) fl_X6_24 rfl dX6_isOpen_8 ?_
  refine lv_iload_n hx hb dX6_isOpen_11 rfl (lv_at hl 1 rfl) ?_
  refine r_ialdN E h (f := σ.2.1 45) (eX_45 cy a σ) (j := i) hi8 (by decide) (v := σ.2.1 45 i) rfl dX6_isOpen_12 ?_
  refine k_i h (q_runSN (As := [.int y, .int (σ.2.1 44 i), .int (σ.2.1 45 i)]) (rest := []) E h (c_X11_isWithin l D cy a σ y (σ.2.1 44 i) (σ.2.1 45 i)) co_X11_isWithin nl_X6_40 st_X11_isWithin in_X11 ok_X11_isWithin rfl ⟨by decide, by decide⟩ hl.1 rfl (Nat.le_of_ble_eq_true rfl) dX6_isOpen_13 ⟨Nat.zero_le _, Nat.zero_le _⟩) (wX_fst cy a) (fun r13 τ13 H locs p13 h => ?_)
  rw [p13.1] at h
  exact t_z E h hr hk p13.2.z ⟨rfl, p13.2.z⟩ dX6_isOpen_16

set_option maxHeartbeats 4000000 in
set_option maxRecDepth 100000 in
theorem c_X6_isGrantOf (l : Launch) (D : va_G) (cy : Nat → ClassId) (a : Nat → Nat) (σ : St) (i : Nat) (y : Int32) (hi8 : i < 80) : CI l yX6_isGrantOf cX6_isGrantOf 3 (some .boolean) (rmOf 0 0) D cy (wX cy a) (AX a) [.ref (a 8), .int (nI i), .int y] σ (fun r τ => τ = σ ∧ (r = 0 ∨ r = 1)) := by
  refine c_of (lv := [(0, .ref (a 8)), (1, .int (nI i)), (2, .int y)]) rfl (Nat.le_of_ble_eq_true rfl) rfl ?_
  intro p e s m args below meth c ls E h hr hk hl
  have hx := E.1
  have hb := E.2.1
  refine lv_aload_n hx hb dX6_isGrantOf_0 rfl (lv_at hl 0 rfl) ?_
  refine r_get E h 1 (v := .ref (a 42)) (eX_8 cy a σ) rfl fw_X6 (by decide) fl_X6_15 rfl dX6_isGrantOf_1 ?_
  refine lv_iload_n hx hb dX6_isGrantOf_4 rfl (lv_at hl 1 rfl) ?_
  refine r_ialdN E h (f := σ.2.1 42) (eX_42 cy a σ) (j := i) hi8 (by decide) (v := σ.2.1 42 i) rfl dX6_isGrantOf_5 ?_
  refine lv_iconst (v := 2) hx hb dX6_isGrantOf_6 (by decide) ?_
  refine lv_icmp_ne (tgt := 24) hx hb dX6_isGrantOf_7 (by decide) (fun c7 => ?_) (fun c7 => ?_)
  · refine lv_iconst (v := 0) hx hb dX6_isGrantOf_24 (by decide) ?_
    exact t_z E h hr hk (Or.inl rfl) ⟨rfl, Or.inl rfl⟩ dX6_isGrantOf_25
  · refine lv_aload_n hx hb dX6_isGrantOf_10 rfl (lv_at hl 0 rfl) ?_
    refine r_get E h 2 (v := .ref (a 43)) (eX_8 cy a σ) rfl fw_X6 (by decide) fl_X6_18 rfl dX6_isGrantOf_11 ?_
    refine lv_iload_n hx hb dX6_isGrantOf_14 rfl (lv_at hl 1 rfl) ?_
    refine r_ialdN E h (f := σ.2.1 43) (eX_43 cy a σ) (j := i) hi8 (by decide) (v := σ.2.1 43 i) rfl dX6_isGrantOf_15 ?_
    refine lv_iload_n hx hb dX6_isGrantOf_16 rfl (lv_at hl 2 rfl) ?_
    refine lv_icmp_ne (tgt := 24) hx hb dX6_isGrantOf_17 (by decide) (fun c17 => ?_) (fun c17 => ?_)
    · refine lv_iconst (v := 0) hx hb dX6_isGrantOf_24 (by decide) ?_
      exact t_z E h hr hk (Or.inl rfl) ⟨rfl, Or.inl rfl⟩ dX6_isGrantOf_25
    · refine lv_iconst (v := 1) hx hb dX6_isGrantOf_20 (by decide) ?_
      refine lv_goto (tgt := 25) hx hb dX6_isGrantOf_21 (by decide) ?_
      exact t_z E h hr hk (Or.inr rfl) ⟨rfl, Or.inr rfl⟩ dX6_isGrantOf_25

set_option maxHeartbeats 4000000 in
set_option maxRecDepth 100000 in
theorem c_X6_close (l : Launch) (D : va_G) (cy : Nat → ClassId) (a : Nat → Nat) (σ : St) (i : Nat) (y : Int32) (hi8 : i < 80) : CV l yX6_close cX6_close 3 none (rmOf 1 15) D cy (wX cy a) (AX a) [.ref (a 8), .int (nI i), .int y] σ (fun τ => ∃ v, τ = fR σ 45 (upd (σ.2.1 45) i v)) := by
  refine c_of (lv := [(0, .ref (a 8)), (1, .int (nI i)), (2, .int y)]) rfl (Nat.le_of_ble_eq_true rfl) rfl ?_
  intro p e s m args below meth c ls E h hr hk hl
  have hx := E.1
  have hb := E.2.1
  refine lv_aload_n hx hb dX6_close_0 rfl (lv_at hl 0 rfl) ?_
  refine r_get E h 4 (v := .ref (a 45)) (eX_8 cy a σ) rfl fw_X6 (by decide) fl_X6_24 rfl dX6_close_1 ?_
  refine lv_iload_n hx hb dX6_close_4 rfl (lv_at hl 1 rfl) ?_
  refine lv_aload_n hx hb dX6_close_5 rfl (lv_at hl 0 rfl) ?_
  refine r_get E h 4 (v := .ref (a 45)) (eX_8 cy a σ) rfl fw_X6 (by decide) fl_X6_24 rfl dX6_close_6 ?_
  refine lv_iload_n hx hb dX6_close_9 rfl (lv_at hl 1 rfl) ?_
  refine r_ialdN E h (f := σ.2.1 45) (eX_45 cy a σ) (j := i) hi8 (by decide) (v := σ.2.1 45 i) rfl dX6_close_10 ?_
  refine lv_iload_n hx hb dX6_close_11 rfl (lv_at hl 2 rfl) ?_
  refine lv_iconst (v := 1) hx hb dX6_close_12 (by decide) ?_
  refine lv_isub hx hb dX6_close_13 ?_
  refine r_mmin E hl.1 ml_X6_48 st_J9_min_7cf53 in_J9 co_J9_min_7cf53 ⟨Nat.le_of_ble_eq_true rfl, Nat.le_of_ble_eq_true rfl⟩ ⟨Nat.zero_le _, Nat.zero_le _⟩ dX6_close_14 ?_
  refine r_iastN E h (f := σ.2.1 45) (eX_45 cy a σ) (j := i) hi8 (by decide) (qX_45 cy a σ (upd (σ.2.1 45) i (if (y - 1) < (σ.2.1 45 i) then (y - 1) else (σ.2.1 45 i)))) dX6_close_17 (fun H locs h => ?_)
  exact t_v E h hr hk ⟨_, rfl⟩ dX6_close_18

set_option maxHeartbeats 4000000 in
set_option maxRecDepth 100000 in
theorem c_X2_prepare (l : Launch) (D : va_G) (cy : Nat → ClassId) (a : Nat → Nat) (σ : St) (y w : Int32) (g : GX σ) : CV l yX2_prepare cX2_prepare 3 none (rmOf 2 44) D cy (wX cy a) (AX a) [.ref (a 16), .int y, .int w] σ (fun τ => K cF cA σ τ ∧ CF τ) := by
  refine c_of (lv := [(0, .ref (a 16)), (1, .int y), (2, .int w)]) rfl (Nat.le_of_ble_eq_true rfl) rfl ?_
  intro p e s m args below meth c ls E h hr hk hl
  have hx := E.1
  have hb := E.2.1
  refine lv_aload_n hx hb dX2_prepare_0 rfl (lv_at hl 0 rfl) ?_
  refine lv_iload_n hx hb dX2_prepare_1 rfl (lv_at hl 1 rfl) ?_
  refine r_put E h 14 (ty := .int) (eX_16 cy a σ) rfl fw_X2 tyX2_ok nmX2 (by decide) fl_X2_75 rfl (by decide +kernel) rfl rfl (Nat.le_of_ble_eq_true rfl) (sX_18 cy a σ y) dX2_prepare_2 (fun H locs h => ?_)
  refine lv_aload_n hx hb dX2_prepare_5 rfl (lv_at hl 0 rfl) ?_
  refine r_get E h 0 (v := .ref (a 3)) (eX_16 cy a (fF σ 18 y)) rfl fw_X2 (by decide) fl_X2_40 rfl dX2_prepare_6 ?_
  refine lv_iload_n hx hb dX2_prepare_9 rfl (lv_at hl 1 rfl) ?_
  refine k_v h (q_runV (As := [.int y]) (rest := []) E h (c_X4_settle_book l D cy a (fF σ 18 y) y (g.kept (K.rf.F 18 _ (by decide)))) co_X4_settle ml_X2_79 im_X4_settle se_X4_settle in_X4 (eX_3 cy a (fF σ 18 y)) rfl ok_X4_settle rfl ⟨by decide, by decide⟩ hl.1 rfl (Nat.le_of_ble_eq_true rfl) dX2_prepare_10 ⟨Nat.zero_le _, Nat.zero_le _⟩) (wX_fst cy a) (fun τ10 H locs p10 h => ?_)
  refine lv_aload_n hx hb dX2_prepare_13 rfl (lv_at hl 0 rfl) ?_
  refine r_get E h 1 (v := .ref (a 5)) (eX_16 cy a τ10) rfl fw_X2 (by decide) fl_X2_44 rfl dX2_prepare_14 ?_
  refine lv_iload_n hx hb dX2_prepare_17 rfl (lv_at hl 2 rfl) ?_
  refine k_v h (q_runV (As := [.int w]) (rest := []) E h (c_X1_settle l D cy a τ10 w (g.kept ((K.rf.F 18 y (by decide)).tr p10.1))) co_X1_settle ml_X2_84 im_X1_settle se_X1_settle in_X1 (eX_5 cy a τ10) rfl ok_X1_settle rfl ⟨by decide, by decide⟩ hl.1 rfl (Nat.le_of_ble_eq_true rfl) dX2_prepare_18 ⟨Nat.zero_le _, Nat.zero_le _⟩) (wX_fst cy a) (fun τ18 H locs p18 h => ?_)
  exact t_v E h hr hk ⟨((K.rf.F 18 _ (by decide)).tr p10.1).tr (k2 p18), CF.kept p18 p10.2⟩ dX2_prepare_21

set_option maxHeartbeats 4000000 in
set_option maxRecDepth 100000 in
theorem c_X2_isLiving (l : Launch) (D : va_G) (cy : Nat → ClassId) (a : Nat → Nat) (σ : St) (i : Nat) (hi8 : i < 80) (ho : vp_in (σ.2.1 43 i) 40) : CI l yX2_isLiving cX2_isLiving 2 (some .boolean) (rmOf 2 44) D cy (wX cy a) (AX a) [.ref (a 16), .int (nI i)] σ (fun r τ => τ = σ ∧ (r = 0 ∨ r = 1)) := by
  refine c_of (lv := [(0, .ref (a 16)), (1, .int (nI i))]) rfl (Nat.le_of_ble_eq_true rfl) rfl ?_
  intro p e s m args below meth c ls E h hr hk hl
  have hx := E.1
  have hb := E.2.1
  refine lv_aload_n hx hb dX2_isLiving_0 rfl (lv_at hl 0 rfl) ?_
  refine r_get E h 4 (v := .ref (a 8)) (eX_16 cy a σ) rfl fw_X2 (by decide) fl_X2_56 rfl dX2_isLiving_1 ?_
  refine lv_iload_n hx hb dX2_isLiving_4 rfl (lv_at hl 1 rfl) ?_
  refine lv_aload_n hx hb dX2_isLiving_5 rfl (lv_at hl 0 rfl) ?_
  refine r_get E h 14 (v := .int (σ.1 18)) (eX_16 cy a σ) rfl fw_X2 (by decide) fl_X2_75 rfl dX2_isLiving_6 ?_
  refine k_i h (q_runV (As := [.int (nI i), .int (σ.1 18)]) (rest := []) E h (c_X6_isOpen l D cy a σ i (σ.1 18) hi8) co_X6_isOpen ml_X2_120 im_X6_isOpen se_X6_isOpen in_X6 (eX_8 cy a σ) rfl ok_X6_isOpen rfl ⟨by decide, by decide⟩ hl.1 rfl (Nat.le_of_ble_eq_true rfl) dX2_isLiving_9 ⟨Nat.zero_le _, Nat.zero_le _⟩) (wX_fst cy a) (fun r9 τ9 H locs p9 h => ?_)
  rw [p9.1] at h
  refine lv_if_eq (tgt := 70) hx hb dX2_isLiving_12 (by decide) (fun c12 => ?_) (fun c12 => ?_)
  · refine lv_iconst (v := 0) hx hb dX2_isLiving_70 (by decide) ?_
    exact t_z E h hr hk (Or.inl rfl) ⟨rfl, Or.inl rfl⟩ dX2_isLiving_71
  · refine lv_aload_n hx hb dX2_isLiving_15 rfl (lv_at hl 0 rfl) ?_
    refine r_get E h 0 (v := .ref (a 3)) (eX_16 cy a σ) rfl fw_X2 (by decide) fl_X2_40 rfl dX2_isLiving_16 ?_
    refine lv_aload_n hx hb dX2_isLiving_19 rfl (lv_at hl 0 rfl) ?_
    refine r_get E h 4 (v := .ref (a 8)) (eX_16 cy a σ) rfl fw_X2 (by decide) fl_X2_56 rfl dX2_isLiving_20 ?_
    refine r_get E h 0 (v := .ref (a 41)) (eX_8 cy a σ) rfl fw_X6 (by decide) fl_X2_124 rfl dX2_isLiving_23 ?_
    refine lv_iload_n hx hb dX2_isLiving_26 rfl (lv_at hl 1 rfl) ?_
    refine r_ialdN E h (f := σ.2.1 41) (eX_41 cy a σ) (j := i) hi8 (by decide) (v := σ.2.1 41 i) rfl dX2_isLiving_27 ?_
    refine k_i h (q_runV (As := [.int (σ.2.1 41 i)]) (rest := []) E h (c_X4_isAboveMost_book l D cy a σ (σ.2.1 41 i)) co_X4_isAboveMost ml_X2_127 im_X4_isAboveMost se_X4_isAboveMost in_X4 (eX_3 cy a σ) rfl ok_X4_isAboveMost rfl ⟨by decide, by decide⟩ hl.1 rfl (Nat.le_of_ble_eq_true rfl) dX2_isLiving_28 ⟨Nat.zero_le _, Nat.zero_le _⟩) (wX_fst cy a) (fun r28 τ28 H locs p28 h => ?_)
    rw [p28.1] at h
    refine lv_if_ne (tgt := 70) hx hb dX2_isLiving_31 (by decide) (fun c31 => ?_) (fun c31 => ?_)
    · refine lv_iconst (v := 0) hx hb dX2_isLiving_70 (by decide) ?_
      exact t_z E h hr hk (Or.inl rfl) ⟨rfl, Or.inl rfl⟩ dX2_isLiving_71
    · refine lv_aload_n hx hb dX2_isLiving_34 rfl (lv_at hl 0 rfl) ?_
      refine r_get E h 1 (v := .ref (a 5)) (eX_16 cy a σ) rfl fw_X2 (by decide) fl_X2_44 rfl dX2_isLiving_35 ?_
      refine lv_aload_n hx hb dX2_isLiving_38 rfl (lv_at hl 0 rfl) ?_
      refine r_get E h 4 (v := .ref (a 8)) (eX_16 cy a σ) rfl fw_X2 (by decide) fl_X2_56 rfl dX2_isLiving_39 ?_
      refine r_get E h 2 (v := .ref (a 43)) (eX_8 cy a σ) rfl fw_X6 (by decide) fl_X2_130 rfl dX2_isLiving_42 ?_
      refine lv_iload_n hx hb dX2_isLiving_45 rfl (lv_at hl 1 rfl) ?_
      refine r_ialdN E h (f := σ.2.1 43) (eX_43 cy a σ) (j := i) hi8 (by decide) (v := σ.2.1 43 i) rfl dX2_isLiving_46 ?_
      refine lv_aload_n hx hb dX2_isLiving_47 rfl (lv_at hl 0 rfl) ?_
      refine r_get E h 14 (v := .int (σ.1 18)) (eX_16 cy a σ) rfl fw_X2 (by decide) fl_X2_75 rfl dX2_isLiving_48 ?_
      refine lv_aload_n hx hb dX2_isLiving_51 rfl (lv_at hl 0 rfl) ?_
      refine r_get E h 0 (v := .ref (a 3)) (eX_16 cy a σ) rfl fw_X2 (by decide) fl_X2_40 rfl dX2_isLiving_52 ?_
      refine r_get E h 4 (v := .ref (a 23)) (eX_3 cy a σ) rfl fw_X4 (by decide) fl_X2_133 rfl dX2_isLiving_55 ?_
      refine lv_iconst (v := 1) hx hb dX2_isLiving_58 (by decide) ?_
      refine r_ialdN E h (f := σ.2.1 23) (eX_23 cy a σ) (j := 1) (by decide) (by decide) (v := σ.2.1 23 1) rfl dX2_isLiving_59 ?_
      refine k_i h (q_runV (As := [.int (σ.2.1 43 i), .int (σ.1 18), .int (σ.2.1 23 1)]) (rest := []) E h (c_X1_isWithinLife l D cy a σ (σ.2.1 43 i) (σ.1 18) (σ.2.1 23 1) ho) co_X1_isWithinLife ml_X2_136 im_X1_isWithinLife se_X1_isWithinLife in_X1 (eX_5 cy a σ) rfl ok_X1_isWithinLife rfl ⟨by decide, by decide⟩ hl.1 rfl (Nat.le_of_ble_eq_true rfl) dX2_isLiving_60 ⟨Nat.zero_le _, Nat.zero_le _⟩) (wX_fst cy a) (fun r60 τ60 H locs p60 h => ?_)
      rw [p60.1] at h
      refine lv_if_eq (tgt := 70) hx hb dX2_isLiving_63 (by decide) (fun c63 => ?_) (fun c63 => ?_)
      · refine lv_iconst (v := 0) hx hb dX2_isLiving_70 (by decide) ?_
        exact t_z E h hr hk (Or.inl rfl) ⟨rfl, Or.inl rfl⟩ dX2_isLiving_71
      · refine lv_iconst (v := 1) hx hb dX2_isLiving_66 (by decide) ?_
        refine lv_goto (tgt := 71) hx hb dX2_isLiving_67 (by decide) ?_
        exact t_z E h hr hk (Or.inr rfl) ⟨rfl, Or.inr rfl⟩ dX2_isLiving_71

set_option maxHeartbeats 4000000 in
set_option maxRecDepth 100000 in
theorem c_X2_chooseServed (l : Launch) (D : va_G) (cy : Nat → ClassId) (a : Nat → Nat) (σ : St)  (g : GX σ) : CV l yX2_chooseServed cX2_chooseServed 2 none (rmOf 3 65) D cy (wX cy a) (AX a) [.ref (a 16)] σ (fun τ => K cF cA2 σ τ) := by
  refine c_of (lv := [(0, .ref (a 16))]) rfl (Nat.le_of_ble_eq_true rfl) rfl ?_
  intro p e s m args below meth c ls E h hr hk hl
  have hx := E.1
  have hb := E.2.1
  obtain ⟨n, hn8, hn, hN⟩ := gx_no g
  refine lv_iconst (v := 0) hx hb dX2_chooseServed_0 (by decide) ?_
  refine lv_istore_n (lv' := [(1, .int 0), (0, .ref (a 16))]) hx hb dX2_chooseServed_1 rfl hl (by decide) rfl (fun ls hl => ?_)
  have lp2 : ∀ (f : Nat) (i : Nat) (τ : St) (H : Heap) (locs : List Loc) (ls : Array Slot), (i ≤ n ∧ K cF cA2 σ τ) → (n - i) < f → HW D (AX a) s (wX cy a τ) H locs → lv_has ls 2 [(1, .int (nI i)), (0, .ref (a 16))] → W p l e (rmOf 3 65) s m args below meth c H locs 0 0 (MQ below (va_Qv (fun τ => K cF cA2 σ τ) (fun u t => va_P D vwCl (wX cy a u) t.heap) (AX a)) args s 0 0 (AX a)) (F0 m 2 ls []) := by
    intro f
    induction f with
    | zero => intro i τ H locs ls _ hf; exact absurd hf (Nat.not_lt_zero _)
    | succ f ih2 =>
      intro i τ H locs ls hi2 hf2 h hl
      have hNk : ∀ i, i < n → (τ.2.1 42 i = 2 → vp_in (τ.2.1 43 i) 40) := by
        rw [hi2.2.2 42 (by decide), hi2.2.2 43 (by decide)]
        exact fun i hi => (hN i hi).1
      refine lv_iload_n hx hb dX2_chooseServed_2 rfl (lv_at hl 0 rfl) ?_
      refine lv_aload_n hx hb dX2_chooseServed_3 rfl (lv_at hl 1 rfl) ?_
      refine r_get E h 4 (v := .ref (a 8)) (eX_16 cy a τ) rfl fw_X2 (by decide) fl_X2_56 rfl dX2_chooseServed_4 ?_
      refine r_get E h 6 (v := .int (nI n)) (eX_8 cy a τ) rfl fw_X6 (by decide) fl_X2_110 (congrArg (fun z => some (Value.int z)) ((hi2.2.1 13 (by decide)).trans hn)) dX2_chooseServed_7 ?_
      refine lv_icmp_ge (tgt := 65) hx hb dX2_chooseServed_10 (by decide) (fun c10 => ?_) (fun c10 => ?_)
      · exact t_v E h hr hk hi2.2 dX2_chooseServed_65
      · have c10 : i < n := Nat.lt_of_not_le fun q9 => c10 ((nI_leI (a := n) (b := i) (by omega) (by omega)).mpr q9)
        refine lv_aload_n hx hb dX2_chooseServed_13 rfl (lv_at hl 1 rfl) ?_
        refine r_get E h 10 (v := .ref (a 72)) (eX_16 cy a τ) rfl fw_X2 (by decide) fl_X2_27 rfl dX2_chooseServed_14 ?_
        refine lv_iload_n hx hb dX2_chooseServed_17 rfl (lv_at hl 0 rfl) ?_
        refine lv_aload_n hx hb dX2_chooseServed_18 rfl (lv_at hl 1 rfl) ?_
        refine r_get E h 4 (v := .ref (a 8)) (eX_16 cy a τ) rfl fw_X2 (by decide) fl_X2_56 rfl dX2_chooseServed_19 ?_
        refine r_get E h 1 (v := .ref (a 42)) (eX_8 cy a τ) rfl fw_X6 (by decide) fl_X2_113 rfl dX2_chooseServed_22 ?_
        refine lv_iload_n hx hb dX2_chooseServed_25 rfl (lv_at hl 0 rfl) ?_
        refine r_ialdN E h (f := τ.2.1 42) (eX_42 cy a τ) (j := i) (by omega) (by decide) (v := τ.2.1 42 i) rfl dX2_chooseServed_26 ?_
        refine lv_iconst (v := 2) hx hb dX2_chooseServed_27 (by decide) ?_
        refine lv_icmp_ne (tgt := 39) hx hb dX2_chooseServed_28 (by decide) (fun c28 => ?_) (fun c28 => ?_)
        · refine lv_aload_n hx hb dX2_chooseServed_39 rfl (lv_at hl 1 rfl) ?_
          refine r_get E h 4 (v := .ref (a 8)) (eX_16 cy a τ) rfl fw_X2 (by decide) fl_X2_56 rfl dX2_chooseServed_40 ?_
          refine lv_iload_n hx hb dX2_chooseServed_43 rfl (lv_at hl 0 rfl) ?_
          refine lv_aload_n hx hb dX2_chooseServed_44 rfl (lv_at hl 1 rfl) ?_
          refine r_get E h 14 (v := .int (τ.1 18)) (eX_16 cy a τ) rfl fw_X2 (by decide) fl_X2_75 rfl dX2_chooseServed_45 ?_
          refine k_i h (q_runV (As := [.int (nI i), .int (τ.1 18)]) (rest := [.int (nI i), .ref (a 72)]) E h (c_X6_isOpen l D cy a τ i (τ.1 18) (by omega)) co_X6_isOpen ml_X2_120 im_X6_isOpen se_X6_isOpen in_X6 (eX_8 cy a τ) rfl ok_X6_isOpen rfl ⟨by decide, by decide⟩ hl.1 rfl (Nat.le_of_ble_eq_true rfl) dX2_chooseServed_48 ⟨Nat.zero_le _, Nat.zero_le _⟩) (wX_fst cy a) (fun r48 τ48 H locs p48 h => ?_)
          rw [p48.1] at h
          refine r_zastN E h (f := τ.2.1 72) (eX_72 cy a τ) (j := i) (by omega) (by decide) (qX_72 cy a τ (upd (τ.2.1 72) i (vp_nar .boolean r48))) dX2_chooseServed_51 (fun H locs h => ?_)
          refine lv_aload_n hx hb dX2_chooseServed_52 rfl (lv_at hl 1 rfl) ?_
          refine r_get E h 11 (v := .ref (a 73)) (eX_16 cy a (fR τ 72 (upd (τ.2.1 72) i (vp_nar .boolean r48)))) rfl fw_X2 (by decide) fl_X2_31 rfl dX2_chooseServed_53 ?_
          refine lv_iload_n hx hb dX2_chooseServed_56 rfl (lv_at hl 0 rfl) ?_
          refine lv_iconst (v := 0) hx hb dX2_chooseServed_57 (by decide) ?_
          refine r_iastN E h (f := τ.2.1 73) (eX_73 cy a (fR τ 72 (upd (τ.2.1 72) i (vp_nar .boolean r48)))) (j := i) (by omega) (by decide) (qX_73 cy a (fR τ 72 (upd (τ.2.1 72) i (vp_nar .boolean r48))) (upd (τ.2.1 73) i 0)) dX2_chooseServed_58 (fun H locs h => ?_)
          refine lv_iinc (v := nI (i + 1)) (lv' := [(1, .int (nI (i + 1))), (0, .ref (a 16))]) hx hb dX2_chooseServed_59 hl (k := 0) rfl (nI_succ i).symm (by decide) rfl (fun ls hl => ?_)
          refine lv_goto (tgt := 2) hx hb dX2_chooseServed_62 (by decide) ?_
          exact ih2 (i + 1) (fR (fR τ 72 (upd (τ.2.1 72) i (vp_nar .boolean r48))) 73 (upd (τ.2.1 73) i 0)) _ _ _ ⟨by omega, (hi2.2.R 72 _ (by decide)).R 73 _ (by decide)⟩ (by omega) h (lv_sub hl [0, 1] rfl)
        · refine lv_aload_n hx hb dX2_chooseServed_31 rfl (lv_at hl 1 rfl) ?_
          refine lv_iload_n hx hb dX2_chooseServed_32 rfl (lv_at hl 0 rfl) ?_
          refine k_i h (q_runV (As := [.int (nI i)]) (rest := [.int (nI i), .ref (a 72)]) E h (c_X2_isLiving l D cy a τ i (by omega) (hNk i c10 c28)) co_X2_isLiving ml_X2_116 im_X2_isLiving se_X2_isLiving in_X2 (eX_16 cy a τ) rfl ok_X2_isLiving rfl ⟨by decide, by decide⟩ hl.1 rfl (Nat.le_of_ble_eq_true rfl) dX2_chooseServed_33 ⟨Nat.zero_le _, Nat.zero_le _⟩) (wX_fst cy a) (fun r33 τ33 H locs p33 h => ?_)
          rw [p33.1] at h
          refine lv_goto (tgt := 51) hx hb dX2_chooseServed_36 (by decide) ?_
          refine r_zastN E h (f := τ.2.1 72) (eX_72 cy a τ) (j := i) (by omega) (by decide) (qX_72 cy a τ (upd (τ.2.1 72) i (vp_nar .boolean r33))) dX2_chooseServed_51 (fun H locs h => ?_)
          refine lv_aload_n hx hb dX2_chooseServed_52 rfl (lv_at hl 1 rfl) ?_
          refine r_get E h 11 (v := .ref (a 73)) (eX_16 cy a (fR τ 72 (upd (τ.2.1 72) i (vp_nar .boolean r33)))) rfl fw_X2 (by decide) fl_X2_31 rfl dX2_chooseServed_53 ?_
          refine lv_iload_n hx hb dX2_chooseServed_56 rfl (lv_at hl 0 rfl) ?_
          refine lv_iconst (v := 0) hx hb dX2_chooseServed_57 (by decide) ?_
          refine r_iastN E h (f := τ.2.1 73) (eX_73 cy a (fR τ 72 (upd (τ.2.1 72) i (vp_nar .boolean r33)))) (j := i) (by omega) (by decide) (qX_73 cy a (fR τ 72 (upd (τ.2.1 72) i (vp_nar .boolean r33))) (upd (τ.2.1 73) i 0)) dX2_chooseServed_58 (fun H locs h => ?_)
          refine lv_iinc (v := nI (i + 1)) (lv' := [(1, .int (nI (i + 1))), (0, .ref (a 16))]) hx hb dX2_chooseServed_59 hl (k := 0) rfl (nI_succ i).symm (by decide) rfl (fun ls hl => ?_)
          refine lv_goto (tgt := 2) hx hb dX2_chooseServed_62 (by decide) ?_
          exact ih2 (i + 1) (fR (fR τ 72 (upd (τ.2.1 72) i (vp_nar .boolean r33))) 73 (upd (τ.2.1 73) i 0)) _ _ _ ⟨by omega, (hi2.2.R 72 _ (by decide)).R 73 _ (by decide)⟩ (by omega) h (lv_sub hl [0, 1] rfl)
  exact lp2 _ 0 σ _ _ _ ⟨Nat.zero_le _, K.rf⟩ (Nat.lt_succ_self _) h (lv_sub hl [0, 1] rfl)

set_option maxHeartbeats 4000000 in
set_option maxRecDepth 100000 in
theorem c_X2_openPipes (l : Launch) (D : va_G) (cy : Nat → ClassId) (a : Nat → Nat) (σ : St) (x : Int32) (g : GX σ) : CV l yX2_openPipes cX2_openPipes 4 none (rmOf 3 67) D cy (wX cy a) (AX a) [.ref (a 16), .int x] σ (fun τ => K cF cA2 σ τ) := by
  refine c_of (lv := [(0, .ref (a 16)), (1, .int x)]) rfl (Nat.le_of_ble_eq_true rfl) rfl ?_
  intro p e s m args below meth c ls E h hr hk hl
  have hx := E.1
  have hb := E.2.1
  obtain ⟨n, hn8, hn, hN⟩ := gx_ca g
  refine lv_iconst (v := 0) hx hb dX2_openPipes_0 (by decide) ?_
  refine lv_istore_n (lv' := [(2, .int 0), (0, .ref (a 16)), (1, .int x)]) hx hb dX2_openPipes_1 rfl hl (by decide) rfl (fun ls hl => ?_)
  have lp2 : ∀ (f : Nat) (i : Nat) (τ : St) (H : Heap) (locs : List Loc) (ls : Array Slot), (i ≤ n ∧ K cF cA2 σ τ) → (n - i) < f → HW D (AX a) s (wX cy a τ) H locs → lv_has ls 4 [(2, .int (nI i)), (0, .ref (a 16)), (1, .int x)] → W p l e (rmOf 3 67) s m args below meth c H locs 0 0 (MQ below (va_Qv (fun τ => K cF cA2 σ τ) (fun u t => va_P D vwCl (wX cy a u) t.heap) (AX a)) args s 0 0 (AX a)) (F0 m 2 ls []) := by
    intro f
    induction f with
    | zero => intro i τ H locs ls _ hf; exact absurd hf (Nat.not_lt_zero _)
    | succ f ih2 =>
      intro i τ H locs ls hi2 hf2 h hl
      refine lv_iload_n hx hb dX2_openPipes_2 rfl (lv_at hl 0 rfl) ?_
      refine lv_aload_n hx hb dX2_openPipes_3 rfl (lv_at hl 1 rfl) ?_
      refine r_get E h 3 (v := .ref (a 7)) (eX_16 cy a τ) rfl fw_X2 (by decide) fl_X2_52 rfl dX2_openPipes_4 ?_
      refine r_get E h 4 (v := .int (nI n)) (eX_7 cy a τ) rfl fw_X0 (by decide) fl_X2_96 (congrArg (fun z => some (Value.int z)) ((hi2.2.1 12 (by decide)).trans hn)) dX2_openPipes_7 ?_
      refine lv_icmp_ge (tgt := 77) hx hb dX2_openPipes_10 (by decide) (fun c10 => ?_) (fun c10 => ?_)
      · exact t_v E h hr hk hi2.2 dX2_openPipes_77
      · have c10 : i < n := Nat.lt_of_not_le fun q9 => c10 ((nI_leI (a := n) (b := i) (by omega) (by omega)).mpr q9)
        refine lv_iload_n hx hb dX2_openPipes_13 rfl (lv_at hl 0 rfl) ?_
        refine lv_iload_n hx hb dX2_openPipes_14 rfl (lv_at hl 2 rfl) ?_
        refine lv_icmp_eq (tgt := 33) hx hb dX2_openPipes_15 (by decide) (fun c15 => ?_) (fun c15 => ?_)
        · refine lv_iconst (v := 1) hx hb dX2_openPipes_33 (by decide) ?_
          refine lv_goto (tgt := 38) hx hb dX2_openPipes_34 (by decide) ?_
          refine lv_istore_n (lv' := [(3, .int 1), (2, .int (nI i)), (0, .ref (a 16)), (1, .int x)]) hx hb dX2_openPipes_38 rfl hl (by decide) rfl (fun ls hl => ?_)
          refine lv_aload_n hx hb dX2_openPipes_39 rfl (lv_at hl 2 rfl) ?_
          refine r_get E h 8 (v := .ref (a 63)) (eX_16 cy a τ) rfl fw_X2 (by decide) fl_X2_18 rfl dX2_openPipes_40 ?_
          refine lv_iload_n hx hb dX2_openPipes_43 rfl (lv_at hl 1 rfl) ?_
          refine lv_iload_n hx hb dX2_openPipes_44 rfl (lv_at hl 0 rfl) ?_
          refine lv_if_eq (tgt := 52) hx hb dX2_openPipes_45 (by decide) (fun c45 => ?_) (fun c45 => ?_)
          · exact absurd c45 (by decide)
          · refine lv_iconst (v := 0) hx hb dX2_openPipes_48 (by decide) ?_
            refine lv_goto (tgt := 61) hx hb dX2_openPipes_49 (by decide) ?_
            refine r_iastN E h (f := τ.2.1 63) (eX_63 cy a τ) (j := i) (by omega) (by decide) (qX_63 cy a τ (upd (τ.2.1 63) i 0)) dX2_openPipes_61 (fun H locs h => ?_)
            refine lv_aload_n hx hb dX2_openPipes_62 rfl (lv_at hl 2 rfl) ?_
            refine r_get E h 9 (v := .ref (a 64)) (eX_16 cy a (fR τ 63 (upd (τ.2.1 63) i 0))) rfl fw_X2 (by decide) fl_X2_24 rfl dX2_openPipes_63 ?_
            refine lv_iconst (v := 1) hx hb dX2_openPipes_66 (by decide) ?_
            refine r_aald E h (eX_64 cy a (fR τ 63 (upd (τ.2.1 63) i 0))) (j := 1) (by decide) (by decide) (v := .ref (a 66)) rfl dX2_openPipes_67 ?_
            refine lv_iload_n hx hb dX2_openPipes_68 rfl (lv_at hl 1 rfl) ?_
            refine lv_iconst (v := 0) hx hb dX2_openPipes_69 (by decide) ?_
            refine r_iastN E h (f := τ.2.1 66) (eX_66 cy a (fR τ 63 (upd (τ.2.1 63) i 0))) (j := i) (by omega) (by decide) (qX_66 cy a (fR τ 63 (upd (τ.2.1 63) i 0)) (upd (τ.2.1 66) i 0)) dX2_openPipes_70 (fun H locs h => ?_)
            refine lv_iinc (v := nI (i + 1)) (lv' := [(2, .int (nI (i + 1))), (3, .int 1), (0, .ref (a 16)), (1, .int x)]) hx hb dX2_openPipes_71 hl (k := 1) rfl (nI_succ i).symm (by decide) rfl (fun ls hl => ?_)
            refine lv_goto (tgt := 2) hx hb dX2_openPipes_74 (by decide) ?_
            exact ih2 (i + 1) (fR (fR τ 63 (upd (τ.2.1 63) i 0)) 66 (upd (τ.2.1 66) i 0)) _ _ _ ⟨by omega, (hi2.2.R 63 _ (by decide)).R 66 _ (by decide)⟩ (by omega) h (lv_sub hl [0, 2, 3] rfl)
        · refine lv_aload_n hx hb dX2_openPipes_18 rfl (lv_at hl 1 rfl) ?_
          refine r_get E h 6 (v := .ref (a 10)) (eX_16 cy a τ) rfl fw_X2 (by decide) fl_X2_64 rfl dX2_openPipes_19 ?_
          refine lv_iload_n hx hb dX2_openPipes_22 rfl (lv_at hl 0 rfl) ?_
          refine lv_aload_n hx hb dX2_openPipes_23 rfl (lv_at hl 1 rfl) ?_
          refine r_get E h 14 (v := .int (τ.1 18)) (eX_16 cy a τ) rfl fw_X2 (by decide) fl_X2_75 rfl dX2_openPipes_24 ?_
          refine k_i h (q_runV (As := [.int (nI i), .int (τ.1 18)]) (rest := []) E h (c_X8_hasAny_repairs l D cy a τ i (τ.1 18) (by omega) (gx_R (g.kept (k2 hi2.2)))) co_X8_hasAny ml_X2_140 im_X8_hasAny se_X8_hasAny in_X8 (eX_10 cy a τ) rfl ok_X8_hasAny rfl ⟨by decide, by decide⟩ hl.1 rfl (Nat.le_of_ble_eq_true rfl) dX2_openPipes_27 ⟨Nat.zero_le _, Nat.zero_le _⟩) (wX_fst cy a) (fun r27 τ27 H locs p27 h => ?_)
          rw [p27.1] at h
          refine lv_if_eq (tgt := 37) hx hb dX2_openPipes_30 (by decide) (fun c30 => ?_) (fun c30 => ?_)
          · refine lv_iconst (v := 0) hx hb dX2_openPipes_37 (by decide) ?_
            refine lv_istore_n (lv' := [(3, .int 0), (2, .int (nI i)), (0, .ref (a 16)), (1, .int x)]) hx hb dX2_openPipes_38 rfl hl (by decide) rfl (fun ls hl => ?_)
            refine lv_aload_n hx hb dX2_openPipes_39 rfl (lv_at hl 2 rfl) ?_
            refine r_get E h 8 (v := .ref (a 63)) (eX_16 cy a τ) rfl fw_X2 (by decide) fl_X2_18 rfl dX2_openPipes_40 ?_
            refine lv_iload_n hx hb dX2_openPipes_43 rfl (lv_at hl 1 rfl) ?_
            refine lv_iload_n hx hb dX2_openPipes_44 rfl (lv_at hl 0 rfl) ?_
            refine lv_if_eq (tgt := 52) hx hb dX2_openPipes_45 (by decide) (fun c45 => ?_) (fun c45 => ?_)
            · refine lv_aload_n hx hb dX2_openPipes_52 rfl (lv_at hl 2 rfl) ?_
              refine r_get E h 3 (v := .ref (a 7)) (eX_16 cy a τ) rfl fw_X2 (by decide) fl_X2_52 rfl dX2_openPipes_53 ?_
              refine r_get E h 1 (v := .ref (a 39)) (eX_7 cy a τ) rfl fw_X0 (by decide) fl_X2_145 rfl dX2_openPipes_56 ?_
              refine lv_iload_n hx hb dX2_openPipes_59 rfl (lv_at hl 1 rfl) ?_
              refine r_ialdN E h (f := τ.2.1 39) (eX_39 cy a τ) (j := i) (by omega) (by decide) (v := τ.2.1 39 i) rfl dX2_openPipes_60 ?_
              refine r_iastN E h (f := τ.2.1 63) (eX_63 cy a τ) (j := i) (by omega) (by decide) (qX_63 cy a τ (upd (τ.2.1 63) i (τ.2.1 39 i))) dX2_openPipes_61 (fun H locs h => ?_)
              refine lv_aload_n hx hb dX2_openPipes_62 rfl (lv_at hl 2 rfl) ?_
              refine r_get E h 9 (v := .ref (a 64)) (eX_16 cy a (fR τ 63 (upd (τ.2.1 63) i (τ.2.1 39 i)))) rfl fw_X2 (by decide) fl_X2_24 rfl dX2_openPipes_63 ?_
              refine lv_iconst (v := 1) hx hb dX2_openPipes_66 (by decide) ?_
              refine r_aald E h (eX_64 cy a (fR τ 63 (upd (τ.2.1 63) i (τ.2.1 39 i)))) (j := 1) (by decide) (by decide) (v := .ref (a 66)) rfl dX2_openPipes_67 ?_
              refine lv_iload_n hx hb dX2_openPipes_68 rfl (lv_at hl 1 rfl) ?_
              refine lv_iconst (v := 0) hx hb dX2_openPipes_69 (by decide) ?_
              refine r_iastN E h (f := τ.2.1 66) (eX_66 cy a (fR τ 63 (upd (τ.2.1 63) i (τ.2.1 39 i)))) (j := i) (by omega) (by decide) (qX_66 cy a (fR τ 63 (upd (τ.2.1 63) i (τ.2.1 39 i))) (upd (τ.2.1 66) i 0)) dX2_openPipes_70 (fun H locs h => ?_)
              refine lv_iinc (v := nI (i + 1)) (lv' := [(2, .int (nI (i + 1))), (3, .int 0), (0, .ref (a 16)), (1, .int x)]) hx hb dX2_openPipes_71 hl (k := 1) rfl (nI_succ i).symm (by decide) rfl (fun ls hl => ?_)
              refine lv_goto (tgt := 2) hx hb dX2_openPipes_74 (by decide) ?_
              exact ih2 (i + 1) (fR (fR τ 63 (upd (τ.2.1 63) i (τ.2.1 39 i))) 66 (upd (τ.2.1 66) i 0)) _ _ _ ⟨by omega, (hi2.2.R 63 _ (by decide)).R 66 _ (by decide)⟩ (by omega) h (lv_sub hl [0, 2, 3] rfl)
            · exact absurd c45 (by decide)
          · refine lv_iconst (v := 1) hx hb dX2_openPipes_33 (by decide) ?_
            refine lv_goto (tgt := 38) hx hb dX2_openPipes_34 (by decide) ?_
            refine lv_istore_n (lv' := [(3, .int 1), (2, .int (nI i)), (0, .ref (a 16)), (1, .int x)]) hx hb dX2_openPipes_38 rfl hl (by decide) rfl (fun ls hl => ?_)
            refine lv_aload_n hx hb dX2_openPipes_39 rfl (lv_at hl 2 rfl) ?_
            refine r_get E h 8 (v := .ref (a 63)) (eX_16 cy a τ) rfl fw_X2 (by decide) fl_X2_18 rfl dX2_openPipes_40 ?_
            refine lv_iload_n hx hb dX2_openPipes_43 rfl (lv_at hl 1 rfl) ?_
            refine lv_iload_n hx hb dX2_openPipes_44 rfl (lv_at hl 0 rfl) ?_
            refine lv_if_eq (tgt := 52) hx hb dX2_openPipes_45 (by decide) (fun c45 => ?_) (fun c45 => ?_)
            · exact absurd c45 (by decide)
            · refine lv_iconst (v := 0) hx hb dX2_openPipes_48 (by decide) ?_
              refine lv_goto (tgt := 61) hx hb dX2_openPipes_49 (by decide) ?_
              refine r_iastN E h (f := τ.2.1 63) (eX_63 cy a τ) (j := i) (by omega) (by decide) (qX_63 cy a τ (upd (τ.2.1 63) i 0)) dX2_openPipes_61 (fun H locs h => ?_)
              refine lv_aload_n hx hb dX2_openPipes_62 rfl (lv_at hl 2 rfl) ?_
              refine r_get E h 9 (v := .ref (a 64)) (eX_16 cy a (fR τ 63 (upd (τ.2.1 63) i 0))) rfl fw_X2 (by decide) fl_X2_24 rfl dX2_openPipes_63 ?_
              refine lv_iconst (v := 1) hx hb dX2_openPipes_66 (by decide) ?_
              refine r_aald E h (eX_64 cy a (fR τ 63 (upd (τ.2.1 63) i 0))) (j := 1) (by decide) (by decide) (v := .ref (a 66)) rfl dX2_openPipes_67 ?_
              refine lv_iload_n hx hb dX2_openPipes_68 rfl (lv_at hl 1 rfl) ?_
              refine lv_iconst (v := 0) hx hb dX2_openPipes_69 (by decide) ?_
              refine r_iastN E h (f := τ.2.1 66) (eX_66 cy a (fR τ 63 (upd (τ.2.1 63) i 0))) (j := i) (by omega) (by decide) (qX_66 cy a (fR τ 63 (upd (τ.2.1 63) i 0)) (upd (τ.2.1 66) i 0)) dX2_openPipes_70 (fun H locs h => ?_)
              refine lv_iinc (v := nI (i + 1)) (lv' := [(2, .int (nI (i + 1))), (3, .int 1), (0, .ref (a 16)), (1, .int x)]) hx hb dX2_openPipes_71 hl (k := 1) rfl (nI_succ i).symm (by decide) rfl (fun ls hl => ?_)
              refine lv_goto (tgt := 2) hx hb dX2_openPipes_74 (by decide) ?_
              exact ih2 (i + 1) (fR (fR τ 63 (upd (τ.2.1 63) i 0)) 66 (upd (τ.2.1 66) i 0)) _ _ _ ⟨by omega, (hi2.2.R 63 _ (by decide)).R 66 _ (by decide)⟩ (by omega) h (lv_sub hl [0, 2, 3] rfl)
  exact lp2 _ 0 σ _ _ _ ⟨Nat.zero_le _, K.rf⟩ (Nat.lt_succ_self _) h (lv_sub hl [0, 1, 2] rfl)

set_option maxHeartbeats 4000000 in
set_option maxRecDepth 100000 in
theorem c_X2_lossOf (l : Launch) (D : va_G) (cy : Nat → ClassId) (a : Nat → Nat) (σ : St) (i : Nat) (x : Int32) (hi2 : i < 12) : CI l yX2_lossOf cX2_lossOf 3 (some .int) (rmOf 0 0) D cy (wX cy a) (AX a) [.ref (a 16), .int (nI i), .int x] σ (fun r τ => τ = σ ∧ r = x * (σ.2.1 40 i) / 1000) := by
  refine c_of (lv := [(0, .ref (a 16)), (1, .int (nI i)), (2, .int x)]) rfl (Nat.le_of_ble_eq_true rfl) rfl ?_
  intro p e s m args below meth c ls E h hr hk hl
  have hx := E.1
  have hb := E.2.1
  refine lv_iload_n hx hb dX2_lossOf_0 rfl (lv_at hl 2 rfl) ?_
  refine lv_aload_n hx hb dX2_lossOf_1 rfl (lv_at hl 0 rfl) ?_
  refine r_get E h 3 (v := .ref (a 7)) (eX_16 cy a σ) rfl fw_X2 (by decide) fl_X2_52 rfl dX2_lossOf_2 ?_
  refine r_get E h 2 (v := .ref (a 40)) (eX_7 cy a σ) rfl fw_X0 (by decide) fl_X2_162 rfl dX2_lossOf_5 ?_
  refine lv_iload_n hx hb dX2_lossOf_8 rfl (lv_at hl 1 rfl) ?_
  refine r_ialdN E h (f := σ.2.1 40) (eX_40 cy a σ) (j := i) hi2 (by decide) (v := σ.2.1 40 i) rfl dX2_lossOf_9 ?_
  refine lv_imul hx hb dX2_lossOf_10 ?_
  refine lv_sipush (v := 1000) hx hb dX2_lossOf_11 (by decide) ?_
  refine lv_idiv hx hb dX2_lossOf_14 (by decide) ?_
  exact t_i E h hr hk ⟨rfl, rfl⟩ dX2_lossOf_15

set_option maxHeartbeats 4000000 in
set_option maxRecDepth 100000 in
theorem c_X2_bringIn (l : Launch) (D : va_G) (cy : Nat → ClassId) (a : Nat → Nat) (σ : St) (i : Nat) (g : GX σ) (hi2 : i < 12) (hf : σ.2.1 38 i < 100 → vp_in (σ.2.1 38 i) 4) : CV l yX2_bringIn cX2_bringIn 5 none (rmOf 3 70) D cy (wX cy a) (AX a) [.ref (a 16), .int (nI i)] σ (fun τ => K cF cA2 σ τ) := by
  refine c_of (lv := [(0, .ref (a 16)), (1, .int (nI i))]) rfl (Nat.le_of_ble_eq_true rfl) rfl ?_
  intro p e s m args below meth c ls E h hr hk hl
  have hx := E.1
  have hb := E.2.1
  refine lv_aload_n hx hb dX2_bringIn_0 rfl (lv_at hl 0 rfl) ?_
  refine r_get E h 3 (v := .ref (a 7)) (eX_16 cy a σ) rfl fw_X2 (by decide) fl_X2_52 rfl dX2_bringIn_1 ?_
  refine r_get E h 0 (v := .ref (a 38)) (eX_7 cy a σ) rfl fw_X0 (by decide) fl_X2_148 rfl dX2_bringIn_4 ?_
  refine lv_iload_n hx hb dX2_bringIn_7 rfl (lv_at hl 1 rfl) ?_
  refine r_ialdN E h (f := σ.2.1 38) (eX_38 cy a σ) (j := i) hi2 (by decide) (v := σ.2.1 38 i) rfl dX2_bringIn_8 ?_
  refine lv_bipush (v := 100) hx hb dX2_bringIn_9 (by decide) ?_
  refine lv_icmp_ge (tgt := 44) hx hb dX2_bringIn_11 (by decide) (fun c11 => ?_) (fun c11 => ?_)
  · refine lv_aload_n hx hb dX2_bringIn_44 rfl (lv_at hl 0 rfl) ?_
    refine r_get E h 9 (v := .ref (a 64)) (eX_16 cy a σ) rfl fw_X2 (by decide) fl_X2_24 rfl dX2_bringIn_45 ?_
    refine lv_iconst (v := 1) hx hb dX2_bringIn_48 (by decide) ?_
    refine r_aald E h (eX_64 cy a σ) (j := 1) (by decide) (by decide) (v := .ref (a 66)) rfl dX2_bringIn_49 ?_
    refine lv_iload_n hx hb dX2_bringIn_50 rfl (lv_at hl 1 rfl) ?_
    refine r_ialdN E h (f := σ.2.1 66) (eX_66 cy a σ) (j := i) hi2 (by decide) (v := σ.2.1 66 i) rfl dX2_bringIn_51 ?_
    refine lv_istore_n (lv' := [(2, .int (σ.2.1 66 i)), (0, .ref (a 16)), (1, .int (nI i))]) hx hb dX2_bringIn_52 rfl hl (by decide) rfl (fun ls hl => ?_)
    refine lv_aload_n hx hb dX2_bringIn_53 rfl (lv_at hl 1 rfl) ?_
    refine r_get E h 5 (v := .ref (a 9)) (eX_16 cy a σ) rfl fw_X2 (by decide) fl_X2_60 rfl dX2_bringIn_54 ?_
    refine lv_iload_n hx hb dX2_bringIn_57 rfl (lv_at hl 2 rfl) ?_
    refine lv_aload_n hx hb dX2_bringIn_58 rfl (lv_at hl 1 rfl) ?_
    refine r_get E h 14 (v := .int (σ.1 18)) (eX_16 cy a σ) rfl fw_X2 (by decide) fl_X2_75 rfl dX2_bringIn_59 ?_
    refine lv_iload_n hx hb dX2_bringIn_62 rfl (lv_at hl 0 rfl) ?_
    refine k_i h (q_runV (As := [.int (nI i), .int (σ.1 18), .int (σ.2.1 66 i)]) (rest := []) E h (c_X8_take_taps l D cy a σ i (σ.1 18) (σ.2.1 66 i) hi2 (gx_T (g.kept (k2 (K.rf))))) co_X8_take ml_X2_155 im_X8_take se_X8_take in_X8 (eX_9 cy a σ) rfl ok_X8_take rfl ⟨by decide, by decide⟩ hl.1 rfl (Nat.le_of_ble_eq_true rfl) dX2_bringIn_63 ⟨Nat.zero_le _, Nat.zero_le _⟩) (wX_fst cy a) (fun r63 τ63 H locs p63 h => ?_)
    rw [p63.1] at h
    refine lv_istore_n (lv' := [(3, .int r63), (2, .int (σ.2.1 66 i)), (0, .ref (a 16)), (1, .int (nI i))]) hx hb dX2_bringIn_66 rfl hl (by decide) rfl (fun ls hl => ?_)
    refine lv_aload_n hx hb dX2_bringIn_67 rfl (lv_at hl 2 rfl) ?_
    refine lv_iload_n hx hb dX2_bringIn_68 rfl (lv_at hl 3 rfl) ?_
    refine lv_iload_n hx hb dX2_bringIn_69 rfl (lv_at hl 1 rfl) ?_
    refine lv_iload_n hx hb dX2_bringIn_70 rfl (lv_at hl 0 rfl) ?_
    refine lv_isub hx hb dX2_bringIn_71 ?_
    refine k_i h (q_runV (As := [.int (nI i), .int ((σ.2.1 66 i) - r63)]) (rest := []) E h (c_X2_lossOf l D cy a σ i ((σ.2.1 66 i) - r63) hi2) co_X2_lossOf ml_X2_159 im_X2_lossOf se_X2_lossOf in_X2 (eX_16 cy a σ) rfl ok_X2_lossOf rfl ⟨by decide, by decide⟩ hl.1 rfl (Nat.le_of_ble_eq_true rfl) dX2_bringIn_72 ⟨Nat.zero_le _, Nat.zero_le _⟩) (wX_fst cy a) (fun r72 τ72 H locs p72 h => ?_)
    rw [p72.1] at h
    refine lv_istore (lv' := [(4, .int r72), (3, .int r63), (2, .int (σ.2.1 66 i)), (0, .ref (a 16)), (1, .int (nI i))]) hx hb dX2_bringIn_75 hl (by decide) rfl (fun ls hl => ?_)
    refine lv_aload_n hx hb dX2_bringIn_77 rfl (lv_at hl 3 rfl) ?_
    refine r_get E h 9 (v := .ref (a 64)) (eX_16 cy a σ) rfl fw_X2 (by decide) fl_X2_24 rfl dX2_bringIn_78 ?_
    refine lv_iconst (v := 2) hx hb dX2_bringIn_81 (by decide) ?_
    refine r_aald E h (eX_64 cy a σ) (j := 2) (by decide) (by decide) (v := .ref (a 67)) rfl dX2_bringIn_82 ?_
    refine lv_iload_n hx hb dX2_bringIn_83 rfl (lv_at hl 4 rfl) ?_
    refine lv_iload_n hx hb dX2_bringIn_84 rfl (lv_at hl 1 rfl) ?_
    refine r_iastN E h (f := σ.2.1 67) (eX_67 cy a σ) (j := i) hi2 (by decide) (qX_67 cy a σ (upd (σ.2.1 67) i r63)) dX2_bringIn_85 (fun H locs h => ?_)
    refine lv_aload_n hx hb dX2_bringIn_86 rfl (lv_at hl 3 rfl) ?_
    refine r_get E h 9 (v := .ref (a 64)) (eX_16 cy a (fR σ 67 (upd (σ.2.1 67) i r63))) rfl fw_X2 (by decide) fl_X2_24 rfl dX2_bringIn_87 ?_
    refine lv_iconst (v := 3) hx hb dX2_bringIn_90 (by decide) ?_
    refine r_aald E h (eX_64 cy a (fR σ 67 (upd (σ.2.1 67) i r63))) (j := 3) (by decide) (by decide) (v := .ref (a 68)) rfl dX2_bringIn_91 ?_
    refine lv_iload_n hx hb dX2_bringIn_92 rfl (lv_at hl 4 rfl) ?_
    refine lv_iload hx hb dX2_bringIn_93 (lv_at hl 0 rfl) ?_
    refine r_iastN E h (f := σ.2.1 68) (eX_68 cy a (fR σ 67 (upd (σ.2.1 67) i r63))) (j := i) hi2 (by decide) (qX_68 cy a (fR σ 67 (upd (σ.2.1 67) i r63)) (upd (σ.2.1 68) i r72)) dX2_bringIn_95 (fun H locs h => ?_)
    refine lv_aload_n hx hb dX2_bringIn_96 rfl (lv_at hl 3 rfl) ?_
    refine r_get E h 9 (v := .ref (a 64)) (eX_16 cy a (fR (fR σ 67 (upd (σ.2.1 67) i r63)) 68 (upd (σ.2.1 68) i r72))) rfl fw_X2 (by decide) fl_X2_24 rfl dX2_bringIn_97 ?_
    refine lv_iconst (v := 0) hx hb dX2_bringIn_100 (by decide) ?_
    refine r_aald E h (eX_64 cy a (fR (fR σ 67 (upd (σ.2.1 67) i r63)) 68 (upd (σ.2.1 68) i r72))) (j := 0) (by decide) (by decide) (v := .ref (a 65)) rfl dX2_bringIn_101 ?_
    refine lv_iload_n hx hb dX2_bringIn_102 rfl (lv_at hl 4 rfl) ?_
    refine lv_iload_n hx hb dX2_bringIn_103 rfl (lv_at hl 2 rfl) ?_
    refine lv_iload_n hx hb dX2_bringIn_104 rfl (lv_at hl 1 rfl) ?_
    refine lv_isub hx hb dX2_bringIn_105 ?_
    refine lv_iload hx hb dX2_bringIn_106 (lv_at hl 0 rfl) ?_
    refine lv_isub hx hb dX2_bringIn_108 ?_
    refine r_iastN E h (f := σ.2.1 65) (eX_65 cy a (fR (fR σ 67 (upd (σ.2.1 67) i r63)) 68 (upd (σ.2.1 68) i r72))) (j := i) hi2 (by decide) (qX_65 cy a (fR (fR σ 67 (upd (σ.2.1 67) i r63)) 68 (upd (σ.2.1 68) i r72)) (upd (σ.2.1 65) i (((σ.2.1 66 i) - r63) - r72))) dX2_bringIn_109 (fun H locs h => ?_)
    exact t_v E h hr hk (((((K.rf).R 67 _ (by decide)).R 68 _ (by decide)).R 65 _ (by decide))) dX2_bringIn_110
  · refine lv_aload_n hx hb dX2_bringIn_14 rfl (lv_at hl 0 rfl) ?_
    refine r_get E h 9 (v := .ref (a 64)) (eX_16 cy a σ) rfl fw_X2 (by decide) fl_X2_24 rfl dX2_bringIn_15 ?_
    refine lv_iconst (v := 1) hx hb dX2_bringIn_18 (by decide) ?_
    refine r_aald E h (eX_64 cy a σ) (j := 1) (by decide) (by decide) (v := .ref (a 66)) rfl dX2_bringIn_19 ?_
    refine lv_iload_n hx hb dX2_bringIn_20 rfl (lv_at hl 1 rfl) ?_
    refine lv_aload_n hx hb dX2_bringIn_21 rfl (lv_at hl 0 rfl) ?_
    refine r_get E h 2 (v := .ref (a 6)) (eX_16 cy a σ) rfl fw_X2 (by decide) fl_X2_48 rfl dX2_bringIn_22 ?_
    refine lv_aload_n hx hb dX2_bringIn_25 rfl (lv_at hl 0 rfl) ?_
    refine r_get E h 3 (v := .ref (a 7)) (eX_16 cy a σ) rfl fw_X2 (by decide) fl_X2_52 rfl dX2_bringIn_26 ?_
    refine r_get E h 0 (v := .ref (a 38)) (eX_7 cy a σ) rfl fw_X0 (by decide) fl_X2_148 rfl dX2_bringIn_29 ?_
    refine lv_iload_n hx hb dX2_bringIn_32 rfl (lv_at hl 1 rfl) ?_
    refine r_ialdN E h (f := σ.2.1 38) (eX_38 cy a σ) (j := i) hi2 (by decide) (v := σ.2.1 38 i) rfl dX2_bringIn_33 ?_
    refine lv_aload_n hx hb dX2_bringIn_34 rfl (lv_at hl 0 rfl) ?_
    refine r_get E h 8 (v := .ref (a 63)) (eX_16 cy a σ) rfl fw_X2 (by decide) fl_X2_18 rfl dX2_bringIn_35 ?_
    refine lv_iload_n hx hb dX2_bringIn_38 rfl (lv_at hl 1 rfl) ?_
    refine r_ialdN E h (f := σ.2.1 63) (eX_63 cy a σ) (j := i) hi2 (by decide) (v := σ.2.1 63 i) rfl dX2_bringIn_39 ?_
    refine k_i h (q_runV (As := [.int (σ.2.1 38 i), .int (σ.2.1 63 i)]) (rest := [.int (nI i), .ref (a 66)]) E h (c_X9_draw l D cy a σ (σ.2.1 38 i) (σ.2.1 63 i) (hf (Int32.not_le.mp c11))) co_X9_draw ml_X2_151 im_X9_draw se_X9_draw in_X9 (eX_6 cy a σ) rfl ok_X9_draw rfl ⟨by decide, by decide⟩ hl.1 rfl (Nat.le_of_ble_eq_true rfl) dX2_bringIn_40 ⟨Nat.zero_le _, Nat.zero_le _⟩) (wX_fst cy a) (fun r40 τ40 H locs p40 h => ?_)
    refine r_iastN E h (f := τ40.2.1 66) (eX_66 cy a τ40) (j := i) hi2 (by decide) (qX_66 cy a τ40 (upd (τ40.2.1 66) i r40)) dX2_bringIn_43 (fun H locs h => ?_)
    refine lv_aload_n hx hb dX2_bringIn_44 rfl (lv_at hl 0 rfl) ?_
    refine r_get E h 9 (v := .ref (a 64)) (eX_16 cy a (fR τ40 66 (upd (τ40.2.1 66) i r40))) rfl fw_X2 (by decide) fl_X2_24 rfl dX2_bringIn_45 ?_
    refine lv_iconst (v := 1) hx hb dX2_bringIn_48 (by decide) ?_
    refine r_aald E h (eX_64 cy a (fR τ40 66 (upd (τ40.2.1 66) i r40))) (j := 1) (by decide) (by decide) (v := .ref (a 66)) rfl dX2_bringIn_49 ?_
    refine lv_iload_n hx hb dX2_bringIn_50 rfl (lv_at hl 1 rfl) ?_
    refine r_ialdN E h (f := upd (τ40.2.1 66) i r40) (eX_66 cy a (fR τ40 66 (upd (τ40.2.1 66) i r40))) (j := i) hi2 (by decide) (v := (upd (τ40.2.1 66) i r40) i) rfl dX2_bringIn_51 ?_
    refine lv_istore_n (lv' := [(2, .int ((upd (τ40.2.1 66) i r40) i)), (0, .ref (a 16)), (1, .int (nI i))]) hx hb dX2_bringIn_52 rfl hl (by decide) rfl (fun ls hl => ?_)
    refine lv_aload_n hx hb dX2_bringIn_53 rfl (lv_at hl 1 rfl) ?_
    refine r_get E h 5 (v := .ref (a 9)) (eX_16 cy a (fR τ40 66 (upd (τ40.2.1 66) i r40))) rfl fw_X2 (by decide) fl_X2_60 rfl dX2_bringIn_54 ?_
    refine lv_iload_n hx hb dX2_bringIn_57 rfl (lv_at hl 2 rfl) ?_
    refine lv_aload_n hx hb dX2_bringIn_58 rfl (lv_at hl 1 rfl) ?_
    refine r_get E h 14 (v := .int (τ40.1 18)) (eX_16 cy a (fR τ40 66 (upd (τ40.2.1 66) i r40))) rfl fw_X2 (by decide) fl_X2_75 rfl dX2_bringIn_59 ?_
    refine lv_iload_n hx hb dX2_bringIn_62 rfl (lv_at hl 0 rfl) ?_
    refine k_i h (q_runV (As := [.int (nI i), .int (τ40.1 18), .int ((upd (τ40.2.1 66) i r40) i)]) (rest := []) E h (c_X8_take_taps l D cy a (fR τ40 66 (upd (τ40.2.1 66) i r40)) i (τ40.1 18) ((upd (τ40.2.1 66) i r40) i) hi2 (gx_T (g.kept (k2 (p40.R 66 _ (by decide)))))) co_X8_take ml_X2_155 im_X8_take se_X8_take in_X8 (eX_9 cy a (fR τ40 66 (upd (τ40.2.1 66) i r40))) rfl ok_X8_take rfl ⟨by decide, by decide⟩ hl.1 rfl (Nat.le_of_ble_eq_true rfl) dX2_bringIn_63 ⟨Nat.zero_le _, Nat.zero_le _⟩) (wX_fst cy a) (fun r63 τ63 H locs p63 h => ?_)
    rw [p63.1] at h
    refine lv_istore_n (lv' := [(3, .int r63), (2, .int ((upd (τ40.2.1 66) i r40) i)), (0, .ref (a 16)), (1, .int (nI i))]) hx hb dX2_bringIn_66 rfl hl (by decide) rfl (fun ls hl => ?_)
    refine lv_aload_n hx hb dX2_bringIn_67 rfl (lv_at hl 2 rfl) ?_
    refine lv_iload_n hx hb dX2_bringIn_68 rfl (lv_at hl 3 rfl) ?_
    refine lv_iload_n hx hb dX2_bringIn_69 rfl (lv_at hl 1 rfl) ?_
    refine lv_iload_n hx hb dX2_bringIn_70 rfl (lv_at hl 0 rfl) ?_
    refine lv_isub hx hb dX2_bringIn_71 ?_
    refine k_i h (q_runV (As := [.int (nI i), .int (((upd (τ40.2.1 66) i r40) i) - r63)]) (rest := []) E h (c_X2_lossOf l D cy a (fR τ40 66 (upd (τ40.2.1 66) i r40)) i (((upd (τ40.2.1 66) i r40) i) - r63) hi2) co_X2_lossOf ml_X2_159 im_X2_lossOf se_X2_lossOf in_X2 (eX_16 cy a (fR τ40 66 (upd (τ40.2.1 66) i r40))) rfl ok_X2_lossOf rfl ⟨by decide, by decide⟩ hl.1 rfl (Nat.le_of_ble_eq_true rfl) dX2_bringIn_72 ⟨Nat.zero_le _, Nat.zero_le _⟩) (wX_fst cy a) (fun r72 τ72 H locs p72 h => ?_)
    rw [p72.1] at h
    refine lv_istore (lv' := [(4, .int r72), (3, .int r63), (2, .int ((upd (τ40.2.1 66) i r40) i)), (0, .ref (a 16)), (1, .int (nI i))]) hx hb dX2_bringIn_75 hl (by decide) rfl (fun ls hl => ?_)
    refine lv_aload_n hx hb dX2_bringIn_77 rfl (lv_at hl 3 rfl) ?_
    refine r_get E h 9 (v := .ref (a 64)) (eX_16 cy a (fR τ40 66 (upd (τ40.2.1 66) i r40))) rfl fw_X2 (by decide) fl_X2_24 rfl dX2_bringIn_78 ?_
    refine lv_iconst (v := 2) hx hb dX2_bringIn_81 (by decide) ?_
    refine r_aald E h (eX_64 cy a (fR τ40 66 (upd (τ40.2.1 66) i r40))) (j := 2) (by decide) (by decide) (v := .ref (a 67)) rfl dX2_bringIn_82 ?_
    refine lv_iload_n hx hb dX2_bringIn_83 rfl (lv_at hl 4 rfl) ?_
    refine lv_iload_n hx hb dX2_bringIn_84 rfl (lv_at hl 1 rfl) ?_
    refine r_iastN E h (f := τ40.2.1 67) (eX_67 cy a (fR τ40 66 (upd (τ40.2.1 66) i r40))) (j := i) hi2 (by decide) (qX_67 cy a (fR τ40 66 (upd (τ40.2.1 66) i r40)) (upd (τ40.2.1 67) i r63)) dX2_bringIn_85 (fun H locs h => ?_)
    refine lv_aload_n hx hb dX2_bringIn_86 rfl (lv_at hl 3 rfl) ?_
    refine r_get E h 9 (v := .ref (a 64)) (eX_16 cy a (fR (fR τ40 66 (upd (τ40.2.1 66) i r40)) 67 (upd (τ40.2.1 67) i r63))) rfl fw_X2 (by decide) fl_X2_24 rfl dX2_bringIn_87 ?_
    refine lv_iconst (v := 3) hx hb dX2_bringIn_90 (by decide) ?_
    refine r_aald E h (eX_64 cy a (fR (fR τ40 66 (upd (τ40.2.1 66) i r40)) 67 (upd (τ40.2.1 67) i r63))) (j := 3) (by decide) (by decide) (v := .ref (a 68)) rfl dX2_bringIn_91 ?_
    refine lv_iload_n hx hb dX2_bringIn_92 rfl (lv_at hl 4 rfl) ?_
    refine lv_iload hx hb dX2_bringIn_93 (lv_at hl 0 rfl) ?_
    refine r_iastN E h (f := τ40.2.1 68) (eX_68 cy a (fR (fR τ40 66 (upd (τ40.2.1 66) i r40)) 67 (upd (τ40.2.1 67) i r63))) (j := i) hi2 (by decide) (qX_68 cy a (fR (fR τ40 66 (upd (τ40.2.1 66) i r40)) 67 (upd (τ40.2.1 67) i r63)) (upd (τ40.2.1 68) i r72)) dX2_bringIn_95 (fun H locs h => ?_)
    refine lv_aload_n hx hb dX2_bringIn_96 rfl (lv_at hl 3 rfl) ?_
    refine r_get E h 9 (v := .ref (a 64)) (eX_16 cy a (fR (fR (fR τ40 66 (upd (τ40.2.1 66) i r40)) 67 (upd (τ40.2.1 67) i r63)) 68 (upd (τ40.2.1 68) i r72))) rfl fw_X2 (by decide) fl_X2_24 rfl dX2_bringIn_97 ?_
    refine lv_iconst (v := 0) hx hb dX2_bringIn_100 (by decide) ?_
    refine r_aald E h (eX_64 cy a (fR (fR (fR τ40 66 (upd (τ40.2.1 66) i r40)) 67 (upd (τ40.2.1 67) i r63)) 68 (upd (τ40.2.1 68) i r72))) (j := 0) (by decide) (by decide) (v := .ref (a 65)) rfl dX2_bringIn_101 ?_
    refine lv_iload_n hx hb dX2_bringIn_102 rfl (lv_at hl 4 rfl) ?_
    refine lv_iload_n hx hb dX2_bringIn_103 rfl (lv_at hl 2 rfl) ?_
    refine lv_iload_n hx hb dX2_bringIn_104 rfl (lv_at hl 1 rfl) ?_
    refine lv_isub hx hb dX2_bringIn_105 ?_
    refine lv_iload hx hb dX2_bringIn_106 (lv_at hl 0 rfl) ?_
    refine lv_isub hx hb dX2_bringIn_108 ?_
    refine r_iastN E h (f := τ40.2.1 65) (eX_65 cy a (fR (fR (fR τ40 66 (upd (τ40.2.1 66) i r40)) 67 (upd (τ40.2.1 67) i r63)) 68 (upd (τ40.2.1 68) i r72))) (j := i) hi2 (by decide) (qX_65 cy a (fR (fR (fR τ40 66 (upd (τ40.2.1 66) i r40)) 67 (upd (τ40.2.1 67) i r63)) 68 (upd (τ40.2.1 68) i r72)) (upd (τ40.2.1 65) i ((((upd (τ40.2.1 66) i r40) i) - r63) - r72))) dX2_bringIn_109 (fun H locs h => ?_)
    exact t_v E h hr hk (((((p40.R 66 _ (by decide)).R 67 _ (by decide)).R 68 _ (by decide)).R 65 _ (by decide))) dX2_bringIn_110

set_option maxHeartbeats 4000000 in
set_option maxRecDepth 100000 in
theorem c_X2_partToRank (l : Launch) (D : va_G) (cy : Nat → ClassId) (a : Nat → Nat) (σ : St) (j : Nat) (x w : Int32) (g : GX σ) (hj : j < 12) (hx3 : vp_in x 3) : CI l yX2_partToRank cX2_partToRank 6 (some .int) (rmOf 1 23) D cy (wX cy a) (AX a) [.ref (a 16), .int (nI j), .int x, .int w] σ (fun _ τ => K cF cA2 σ τ) := by
  refine c_of (lv := [(0, .ref (a 16)), (1, .int (nI j)), (2, .int x), (3, .int w)]) rfl (Nat.le_of_ble_eq_true rfl) rfl ?_
  intro p e s m args below meth c ls E h hr hk hl
  have hx := E.1
  have hb := E.2.1
  obtain ⟨z, hz8, hz, hm⟩ := gx_N g j hj
  refine lv_aload_n hx hb dX2_partToRank_0 rfl (lv_at hl 0 rfl) ?_
  refine r_get E h 0 (v := .ref (a 3)) (eX_16 cy a σ) rfl fw_X2 (by decide) fl_X2_40 rfl dX2_partToRank_1 ?_
  refine lv_iload_n hx hb dX2_partToRank_4 rfl (lv_at hl 2 rfl) ?_
  refine k_i h (q_runV (As := [.int x]) (rest := []) E h (c_X4_isClosed_book l D cy a σ x hx3) co_X4_isClosed ml_X2_168 im_X4_isClosed se_X4_isClosed in_X4 (eX_3 cy a σ) rfl ok_X4_isClosed rfl ⟨by decide, by decide⟩ hl.1 rfl (Nat.le_of_ble_eq_true rfl) dX2_partToRank_5 ⟨Nat.zero_le _, Nat.zero_le _⟩) (wX_fst cy a) (fun r5 τ5 H locs p5 h => ?_)
  rw [p5.1] at h
  refine lv_if_eq (tgt := 13) hx hb dX2_partToRank_8 (by decide) (fun c8 => ?_) (fun c8 => ?_)
  · refine lv_aload_n hx hb dX2_partToRank_13 rfl (lv_at hl 0 rfl) ?_
    refine r_get E h 7 (v := .ref (a 15)) (eX_16 cy a σ) rfl fw_X2 (by decide) fl_X2_12 rfl dX2_partToRank_14 ?_
    refine k_v h (q_runV (As := []) (rest := []) E h (c_X7_clear l D cy a σ ) co_X7_clear ml_X2_171 im_X7_clear se_X7_clear in_X7 (eX_15 cy a σ) rfl ok_X7_clear rfl ⟨by decide, by decide⟩ hl.1 rfl (Nat.le_of_ble_eq_true rfl) dX2_partToRank_17 ⟨Nat.zero_le _, Nat.zero_le _⟩) (wX_fst cy a) (fun τ17 H locs p17 h => ?_)
    subst p17
    refine lv_iconst (v := 0) hx hb dX2_partToRank_20 (by decide) ?_
    refine lv_istore (lv' := [(4, .int 0), (0, .ref (a 16)), (1, .int (nI j)), (2, .int x), (3, .int w)]) hx hb dX2_partToRank_21 hl (by decide) rfl (fun ls hl => ?_)
    have lp23 : ∀ (f : Nat) (i : Nat) (τ : St) (H : Heap) (locs : List Loc) (ls : Array Slot), (i ≤ z ∧ K cF cA2 σ τ ∧ SHI 80 τ) → (z - i) < f → HW D (AX a) s (wX cy a τ) H locs → lv_has ls 6 [(4, .int (nI i)), (0, .ref (a 16)), (1, .int (nI j)), (2, .int x), (3, .int w)] → W p l e (rmOf 1 23) s m args below meth c H locs 0 0 (MQ below (va_Qi (fun _ τ => K cF cA2 σ τ) (fun u t => va_P D vwCl (wX cy a u) t.heap) (AX a)) args s 0 0 (AX a)) (F0 m 23 ls []) := by
      intro f
      induction f with
      | zero => intro i τ H locs ls _ hf; exact absurd hf (Nat.not_lt_zero _)
      | succ f ih23 =>
        intro i τ H locs ls hi23 hf23 h hl
        refine lv_iload hx hb dX2_partToRank_23 (lv_at hl 0 rfl) ?_
        refine lv_aload_n hx hb dX2_partToRank_25 rfl (lv_at hl 1 rfl) ?_
        refine r_get E h 4 (v := .ref (a 8)) (eX_16 cy a τ) rfl fw_X2 (by decide) fl_X2_56 rfl dX2_partToRank_26 ?_
        refine r_get E h 5 (v := .ref (a 12)) (eX_8 cy a τ) rfl fw_X6 (by decide) fl_X2_174 rfl dX2_partToRank_29 ?_
        refine r_get E h 2 (v := .ref (a 55)) (eX_12 cy a τ) rfl fw_X3 (by decide) fl_X2_178 rfl dX2_partToRank_32 ?_
        refine lv_iload_n hx hb dX2_partToRank_35 rfl (lv_at hl 2 rfl) ?_
        refine r_ialdN E h (f := τ.2.1 55) (eX_55 cy a τ) (j := j) hj (by decide) (v := nI z) ((congrFun (hi23.2.1.2 55 (by decide)) j).trans hz) dX2_partToRank_36 ?_
        refine lv_icmp_ge (tgt := 104) hx hb dX2_partToRank_37 (by decide) (fun c37 => ?_) (fun c37 => ?_)
        · refine lv_aload_n hx hb dX2_partToRank_104 rfl (lv_at hl 1 rfl) ?_
          refine r_get E h 7 (v := .ref (a 15)) (eX_16 cy a τ) rfl fw_X2 (by decide) fl_X2_12 rfl dX2_partToRank_105 ?_
          refine lv_iload_n hx hb dX2_partToRank_108 rfl (lv_at hl 4 rfl) ?_
          refine k_i h (q_runV (As := [.int w]) (rest := []) E h (c_X7_part l D cy a τ w 80 hi23.2.2) co_X7_part ml_X2_189 im_X7_part se_X7_part in_X7 (eX_15 cy a τ) rfl ok_X7_part rfl ⟨by decide, by decide⟩ hl.1 rfl (Nat.le_of_ble_eq_true rfl) dX2_partToRank_109 ⟨Nat.zero_le _, Nat.zero_le _⟩) (wX_fst cy a) (fun r109 τ109 H locs p109 h => ?_)
          refine lv_istore (lv' := [(4, .int r109), (0, .ref (a 16)), (1, .int (nI j)), (2, .int x), (3, .int w)]) hx hb dX2_partToRank_112 hl (by decide) rfl (fun ls hl => ?_)
          refine lv_iconst (v := 0) hx hb dX2_partToRank_114 (by decide) ?_
          refine lv_istore (lv' := [(5, .int 0), (4, .int r109), (0, .ref (a 16)), (1, .int (nI j)), (2, .int x), (3, .int w)]) hx hb dX2_partToRank_115 hl (by decide) rfl (fun ls hl => ?_)
          obtain ⟨y, hy8, hy, hyc⟩ := p109.2
          have lp117 : ∀ (f : Nat) (k : Nat) (υ : St) (H : Heap) (locs : List Loc) (ls : Array Slot), (k ≤ y ∧ K cF cA2 σ υ ∧ υ.1 17 = nI y ∧ υ.2.1 60 = τ109.2.1 60) → (y - k) < f → HW D (AX a) s (wX cy a υ) H locs → lv_has ls 6 [(5, .int (nI k)), (4, .int r109), (0, .ref (a 16)), (1, .int (nI j)), (2, .int x), (3, .int w)] → W p l e (rmOf 1 23) s m args below meth c H locs 0 0 (MQ below (va_Qi (fun _ τ => K cF cA2 σ τ) (fun u t => va_P D vwCl (wX cy a u) t.heap) (AX a)) args s 0 0 (AX a)) (F0 m 117 ls []) := by
            intro f
            induction f with
            | zero => intro k υ H locs ls _ hf; exact absurd hf (Nat.not_lt_zero _)
            | succ f ih117 =>
              intro k υ H locs ls hi117 hf117 h hl
              refine lv_iload hx hb dX2_partToRank_117 (lv_at hl 0 rfl) ?_
              refine lv_aload_n hx hb dX2_partToRank_119 rfl (lv_at hl 2 rfl) ?_
              refine r_get E h 7 (v := .ref (a 15)) (eX_16 cy a υ) rfl fw_X2 (by decide) fl_X2_12 rfl dX2_partToRank_120 ?_
              refine r_get E h 4 (v := .int (nI y)) (eX_15 cy a υ) rfl fw_X7 (by decide) fl_X2_193 (congrArg (fun z => some (Value.int z)) hi117.2.2.1) dX2_partToRank_123 ?_
              refine lv_icmp_ge (tgt := 160) hx hb dX2_partToRank_126 (by decide) (fun c126 => ?_) (fun c126 => ?_)
              · refine lv_iload hx hb dX2_partToRank_160 (lv_at hl 1 rfl) ?_
                exact t_i E h hr hk hi117.2.1 dX2_partToRank_162
              · have c126 : k < y := Nat.lt_of_not_le fun q9 => c126 ((nI_leI (a := y) (b := k) (by omega) (by omega)).mpr q9)
                refine lv_aload_n hx hb dX2_partToRank_129 rfl (lv_at hl 2 rfl) ?_
                refine r_get E h 11 (v := .ref (a 73)) (eX_16 cy a υ) rfl fw_X2 (by decide) fl_X2_31 rfl dX2_partToRank_130 ?_
                refine lv_aload_n hx hb dX2_partToRank_133 rfl (lv_at hl 2 rfl) ?_
                refine r_get E h 7 (v := .ref (a 15)) (eX_16 cy a υ) rfl fw_X2 (by decide) fl_X2_12 rfl dX2_partToRank_134 ?_
                refine r_get E h 0 (v := .ref (a 60)) (eX_15 cy a υ) rfl fw_X7 (by decide) fl_X2_194 rfl dX2_partToRank_137 ?_
                refine lv_iload hx hb dX2_partToRank_140 (lv_at hl 0 rfl) ?_
                refine r_ialdN E h (f := υ.2.1 60) (eX_60 cy a υ) (j := k) (by omega) (by decide) (v := υ.2.1 60 k) rfl dX2_partToRank_142 ?_
                refine lv_aload_n hx hb dX2_partToRank_143 rfl (lv_at hl 2 rfl) ?_
                refine r_get E h 7 (v := .ref (a 15)) (eX_16 cy a υ) rfl fw_X2 (by decide) fl_X2_12 rfl dX2_partToRank_144 ?_
                refine r_get E h 2 (v := .ref (a 62)) (eX_15 cy a υ) rfl fw_X7 (by decide) fl_X2_197 rfl dX2_partToRank_147 ?_
                refine lv_iload hx hb dX2_partToRank_150 (lv_at hl 0 rfl) ?_
                refine r_ialdN E h (f := υ.2.1 62) (eX_62 cy a υ) (j := k) (by omega) (by decide) (v := υ.2.1 62 k) rfl dX2_partToRank_152 ?_
                refine r_iast E h (f := υ.2.1 73) (eX_73 cy a υ) (by rw [hi117.2.2.2]; exact hyc k c126) (qX_73 cy a υ (upd (υ.2.1 73) ((υ.2.1 60 k).toNatClampNeg) (υ.2.1 62 k))) dX2_partToRank_153 (fun H locs h => ?_)
                refine lv_iinc (v := nI (k + 1)) (lv' := [(5, .int (nI (k + 1))), (4, .int r109), (0, .ref (a 16)), (1, .int (nI j)), (2, .int x), (3, .int w)]) hx hb dX2_partToRank_154 hl (k := 0) rfl (nI_succ k).symm (by decide) rfl (fun ls hl => ?_)
                refine lv_goto (tgt := 117) hx hb dX2_partToRank_157 (by decide) ?_
                exact ih117 (k + 1) (fR υ 73 (upd (υ.2.1 73) ((υ.2.1 60 k).toNatClampNeg) (υ.2.1 62 k))) _ _ _ ⟨by omega, hi117.2.1.R 73 _ (by decide), hi117.2.2.1, hi117.2.2.2⟩ (by omega) h (lv_sub hl [0, 1, 2, 3, 4, 5] rfl)
          exact lp117 _ 0 τ109 _ _ _ ⟨Nat.zero_le _, hi23.2.1.tr p109.1, hy, rfl⟩ (Nat.lt_succ_self _) h (lv_sub hl [0, 1, 2, 3, 4, 5] rfl)
        · have c37 : i < z := Nat.lt_of_not_le fun q9 => c37 ((nI_leI (a := z) (b := i) (by omega) (by omega)).mpr q9)
          refine lv_aload_n hx hb dX2_partToRank_40 rfl (lv_at hl 1 rfl) ?_
          refine r_get E h 4 (v := .ref (a 8)) (eX_16 cy a τ) rfl fw_X2 (by decide) fl_X2_56 rfl dX2_partToRank_41 ?_
          refine r_get E h 5 (v := .ref (a 12)) (eX_8 cy a τ) rfl fw_X6 (by decide) fl_X2_174 rfl dX2_partToRank_44 ?_
          refine lv_iload_n hx hb dX2_partToRank_47 rfl (lv_at hl 2 rfl) ?_
          refine lv_iload hx hb dX2_partToRank_48 (lv_at hl 0 rfl) ?_
          refine k_i h (q_runV (As := [.int (nI j), .int (nI i)]) (rest := []) E h (c_X3_member_gN l D cy a τ j i hj (by omega)) co_X3_member ml_X2_183 im_X3_member se_X3_member in_X3 (eX_12 cy a τ) rfl ok_X3_member rfl ⟨by decide, by decide⟩ hl.1 rfl (Nat.le_of_ble_eq_true rfl) dX2_partToRank_50 ⟨Nat.zero_le _, Nat.zero_le _⟩) (wX_fst cy a) (fun r50 τ50 H locs p50 h => ?_)
          rw [p50.1] at h
          have hv : vp_in r50 80 := by
            rw [p50.2, hi23.2.1.2 54 (by decide)]
            exact hm i c37
          refine lv_istore (lv' := [(5, .int r50), (4, .int (nI i)), (0, .ref (a 16)), (1, .int (nI j)), (2, .int x), (3, .int w)]) hx hb dX2_partToRank_53 hl (by decide) rfl (fun ls hl => ?_)
          refine lv_aload_n hx hb dX2_partToRank_55 rfl (lv_at hl 2 rfl) ?_
          refine r_get E h 4 (v := .ref (a 8)) (eX_16 cy a τ) rfl fw_X2 (by decide) fl_X2_56 rfl dX2_partToRank_56 ?_
          refine r_get E h 1 (v := .ref (a 42)) (eX_8 cy a τ) rfl fw_X6 (by decide) fl_X2_113 rfl dX2_partToRank_59 ?_
          refine lv_iload hx hb dX2_partToRank_62 (lv_at hl 0 rfl) ?_
          refine r_iald E h (f := τ.2.1 42) (eX_42 cy a τ) hv dX2_partToRank_64 ?_
          refine lv_iload_n hx hb dX2_partToRank_65 rfl (lv_at hl 4 rfl) ?_
          refine lv_icmp_ne (tgt := 98) hx hb dX2_partToRank_66 (by decide) (fun c66 => ?_) (fun c66 => ?_)
          · refine lv_iinc (v := nI (i + 1)) (lv' := [(4, .int (nI (i + 1))), (5, .int r50), (0, .ref (a 16)), (1, .int (nI j)), (2, .int x), (3, .int w)]) hx hb dX2_partToRank_98 hl (k := 1) rfl (nI_succ i).symm (by decide) rfl (fun ls hl => ?_)
            refine lv_goto (tgt := 23) hx hb dX2_partToRank_101 (by decide) ?_
            exact ih23 (i + 1) τ _ _ _ ⟨by omega, hi23.2.1, hi23.2.2⟩ (by omega) h (lv_sub hl [0, 2, 3, 4, 5] rfl)
          · refine lv_aload_n hx hb dX2_partToRank_69 rfl (lv_at hl 2 rfl) ?_
            refine r_get E h 10 (v := .ref (a 72)) (eX_16 cy a τ) rfl fw_X2 (by decide) fl_X2_27 rfl dX2_partToRank_70 ?_
            refine lv_iload hx hb dX2_partToRank_73 (lv_at hl 0 rfl) ?_
            refine r_zald E h (f := τ.2.1 72) (eX_72 cy a τ) hv dX2_partToRank_75 ?_
            refine lv_if_eq (tgt := 98) hx hb dX2_partToRank_76 (by decide) (fun c76 => ?_) (fun c76 => ?_)
            · refine lv_iinc (v := nI (i + 1)) (lv' := [(4, .int (nI (i + 1))), (5, .int r50), (0, .ref (a 16)), (1, .int (nI j)), (2, .int x), (3, .int w)]) hx hb dX2_partToRank_98 hl (k := 1) rfl (nI_succ i).symm (by decide) rfl (fun ls hl => ?_)
              refine lv_goto (tgt := 23) hx hb dX2_partToRank_101 (by decide) ?_
              exact ih23 (i + 1) τ _ _ _ ⟨by omega, hi23.2.1, hi23.2.2⟩ (by omega) h (lv_sub hl [0, 2, 3, 4, 5] rfl)
            · refine lv_aload_n hx hb dX2_partToRank_79 rfl (lv_at hl 2 rfl) ?_
              refine r_get E h 7 (v := .ref (a 15)) (eX_16 cy a τ) rfl fw_X2 (by decide) fl_X2_12 rfl dX2_partToRank_80 ?_
              refine lv_iload hx hb dX2_partToRank_83 (lv_at hl 0 rfl) ?_
              refine lv_aload_n hx hb dX2_partToRank_85 rfl (lv_at hl 2 rfl) ?_
              refine r_get E h 4 (v := .ref (a 8)) (eX_16 cy a τ) rfl fw_X2 (by decide) fl_X2_56 rfl dX2_partToRank_86 ?_
              refine r_get E h 0 (v := .ref (a 41)) (eX_8 cy a τ) rfl fw_X6 (by decide) fl_X2_124 rfl dX2_partToRank_89 ?_
              refine lv_iload hx hb dX2_partToRank_92 (lv_at hl 0 rfl) ?_
              refine r_iald E h (f := τ.2.1 41) (eX_41 cy a τ) hv dX2_partToRank_94 ?_
              refine k_v h (q_runV (As := [.int r50, .int (τ.2.1 41 r50.toNatClampNeg)]) (rest := []) E h (c_X7_add l D cy a τ r50 (τ.2.1 41 r50.toNatClampNeg) 80 hi23.2.2 hv) co_X7_add ml_X2_186 im_X7_add se_X7_add in_X7 (eX_15 cy a τ) rfl ok_X7_add rfl ⟨by decide, by decide⟩ hl.1 rfl (Nat.le_of_ble_eq_true rfl) dX2_partToRank_95 ⟨Nat.zero_le _, Nat.zero_le _⟩) (wX_fst cy a) (fun τ95 H locs p95 h => ?_)
              refine lv_iinc (v := nI (i + 1)) (lv' := [(4, .int (nI (i + 1))), (5, .int r50), (0, .ref (a 16)), (1, .int (nI j)), (2, .int x), (3, .int w)]) hx hb dX2_partToRank_98 hl (k := 1) rfl (nI_succ i).symm (by decide) rfl (fun ls hl => ?_)
              refine lv_goto (tgt := 23) hx hb dX2_partToRank_101 (by decide) ?_
              exact ih23 (i + 1) τ95 _ _ _ ⟨by omega, hi23.2.1.tr p95.1, p95.2⟩ (by omega) h (lv_sub hl [0, 2, 3, 4, 5] rfl)
    exact lp23 _ 0 (fF (fF σ 16 0) 17 0) _ _ _ ⟨Nat.zero_le _, (K.rf.F 16 _ (by decide)).F 17 _ (by decide), ⟨0, by omega, rfl, fun i q => absurd q (Nat.not_lt_zero i)⟩⟩ (Nat.lt_succ_self _) h (lv_sub hl [0, 1, 2, 3, 4] rfl)
  · refine lv_iconst (v := 0) hx hb dX2_partToRank_11 (by decide) ?_
    exact t_i E h hr hk K.rf dX2_partToRank_12

set_option maxHeartbeats 4000000 in
set_option maxRecDepth 100000 in
theorem c_X2_leadOn (l : Launch) (D : va_G) (cy : Nat → ClassId) (a : Nat → Nat) (σ : St) (j : Nat) (g : GX σ) (hj : j < 12) : CV l yX2_leadOn cX2_leadOn 5 none (rmOf 1 23) D cy (wX cy a) (AX a) [.ref (a 16), .int (nI j)] σ (fun τ => K cF cA2 σ τ) := by
  refine c_of (lv := [(0, .ref (a 16)), (1, .int (nI j))]) rfl (Nat.le_of_ble_eq_true rfl) rfl ?_
  intro p e s m args below meth c ls E h hr hk hl
  have hx := E.1
  have hb := E.2.1
  obtain ⟨z, hz8, hz, hm⟩ := gx_C g j hj
  refine lv_aload_n hx hb dX2_leadOn_0 rfl (lv_at hl 0 rfl) ?_
  refine r_get E h 7 (v := .ref (a 15)) (eX_16 cy a σ) rfl fw_X2 (by decide) fl_X2_12 rfl dX2_leadOn_1 ?_
  refine k_v h (q_runV (As := []) (rest := []) E h (c_X7_clear l D cy a σ ) co_X7_clear ml_X2_171 im_X7_clear se_X7_clear in_X7 (eX_15 cy a σ) rfl ok_X7_clear rfl ⟨by decide, by decide⟩ hl.1 rfl (Nat.le_of_ble_eq_true rfl) dX2_leadOn_4 ⟨Nat.zero_le _, Nat.zero_le _⟩) (wX_fst cy a) (fun τ4 H locs p4 h => ?_)
  subst p4
  refine lv_iconst (v := 0) hx hb dX2_leadOn_7 (by decide) ?_
  refine lv_istore_n (lv' := [(2, .int 0), (0, .ref (a 16)), (1, .int (nI j))]) hx hb dX2_leadOn_8 rfl hl (by decide) rfl (fun ls hl => ?_)
  have lp9 : ∀ (f : Nat) (i : Nat) (τ : St) (H : Heap) (locs : List Loc) (ls : Array Slot), (i ≤ z ∧ K cF cA2 σ τ ∧ SHI 12 τ) → (z - i) < f → HW D (AX a) s (wX cy a τ) H locs → lv_has ls 5 [(2, .int (nI i)), (0, .ref (a 16)), (1, .int (nI j))] → W p l e (rmOf 1 23) s m args below meth c H locs 0 0 (MQ below (va_Qv (fun τ => K cF cA2 σ τ) (fun u t => va_P D vwCl (wX cy a u) t.heap) (AX a)) args s 0 0 (AX a)) (F0 m 9 ls []) := by
    intro f
    induction f with
    | zero => intro i τ H locs ls _ hf; exact absurd hf (Nat.not_lt_zero _)
    | succ f ih9 =>
      intro i τ H locs ls hi9 hf9 h hl
      refine lv_iload_n hx hb dX2_leadOn_9 rfl (lv_at hl 0 rfl) ?_
      refine lv_aload_n hx hb dX2_leadOn_10 rfl (lv_at hl 1 rfl) ?_
      refine r_get E h 3 (v := .ref (a 7)) (eX_16 cy a τ) rfl fw_X2 (by decide) fl_X2_52 rfl dX2_leadOn_11 ?_
      refine r_get E h 3 (v := .ref (a 11)) (eX_7 cy a τ) rfl fw_X0 (by decide) fl_X2_200 rfl dX2_leadOn_14 ?_
      refine r_get E h 2 (v := .ref (a 53)) (eX_11 cy a τ) rfl fw_X3 (by decide) fl_X2_178 rfl dX2_leadOn_17 ?_
      refine lv_iload_n hx hb dX2_leadOn_20 rfl (lv_at hl 2 rfl) ?_
      refine r_ialdN E h (f := τ.2.1 53) (eX_53 cy a τ) (j := j) hj (by decide) (v := nI z) ((congrFun (hi9.2.1.2 53 (by decide)) j).trans hz) dX2_leadOn_21 ?_
      refine lv_icmp_ge (tgt := 58) hx hb dX2_leadOn_22 (by decide) (fun c22 => ?_) (fun c22 => ?_)
      · refine lv_aload_n hx hb dX2_leadOn_58 rfl (lv_at hl 1 rfl) ?_
        refine r_get E h 9 (v := .ref (a 64)) (eX_16 cy a τ) rfl fw_X2 (by decide) fl_X2_24 rfl dX2_leadOn_59 ?_
        refine lv_iconst (v := 0) hx hb dX2_leadOn_62 (by decide) ?_
        refine r_aald E h (eX_64 cy a τ) (j := 0) (by decide) (by decide) (v := .ref (a 65)) rfl dX2_leadOn_63 ?_
        refine lv_iload_n hx hb dX2_leadOn_64 rfl (lv_at hl 2 rfl) ?_
        refine r_ialdN E h (f := τ.2.1 65) (eX_65 cy a τ) (j := j) hj (by decide) (v := τ.2.1 65 j) rfl dX2_leadOn_65 ?_
        refine lv_aload_n hx hb dX2_leadOn_66 rfl (lv_at hl 1 rfl) ?_
        refine r_get E h 9 (v := .ref (a 64)) (eX_16 cy a τ) rfl fw_X2 (by decide) fl_X2_24 rfl dX2_leadOn_67 ?_
        refine lv_iconst (v := 4) hx hb dX2_leadOn_70 (by decide) ?_
        refine r_aald E h (eX_64 cy a τ) (j := 4) (by decide) (by decide) (v := .ref (a 69)) rfl dX2_leadOn_71 ?_
        refine lv_iload_n hx hb dX2_leadOn_72 rfl (lv_at hl 2 rfl) ?_
        refine r_ialdN E h (f := τ.2.1 69) (eX_69 cy a τ) (j := j) hj (by decide) (v := τ.2.1 69 j) rfl dX2_leadOn_73 ?_
        refine lv_isub hx hb dX2_leadOn_74 ?_
        refine lv_istore_n (lv' := [(2, .int ((τ.2.1 65 j) - (τ.2.1 69 j))), (0, .ref (a 16)), (1, .int (nI j))]) hx hb dX2_leadOn_75 rfl hl (by decide) rfl (fun ls hl => ?_)
        refine lv_aload_n hx hb dX2_leadOn_76 rfl (lv_at hl 1 rfl) ?_
        refine r_get E h 7 (v := .ref (a 15)) (eX_16 cy a τ) rfl fw_X2 (by decide) fl_X2_12 rfl dX2_leadOn_77 ?_
        refine lv_iload_n hx hb dX2_leadOn_80 rfl (lv_at hl 0 rfl) ?_
        refine k_i h (q_runV (As := [.int ((τ.2.1 65 j) - (τ.2.1 69 j))]) (rest := []) E h (c_X7_part l D cy a τ ((τ.2.1 65 j) - (τ.2.1 69 j)) 12 hi9.2.2) co_X7_part ml_X2_189 im_X7_part se_X7_part in_X7 (eX_15 cy a τ) rfl ok_X7_part rfl ⟨by decide, by decide⟩ hl.1 rfl (Nat.le_of_ble_eq_true rfl) dX2_leadOn_81 ⟨Nat.zero_le _, Nat.zero_le _⟩) (wX_fst cy a) (fun r81 τ81 H locs p81 h => ?_)
        refine lv_istore_n (lv' := [(3, .int r81), (2, .int ((τ.2.1 65 j) - (τ.2.1 69 j))), (0, .ref (a 16)), (1, .int (nI j))]) hx hb dX2_leadOn_84 rfl hl (by decide) rfl (fun ls hl => ?_)
        refine lv_iconst (v := 0) hx hb dX2_leadOn_85 (by decide) ?_
        refine lv_istore (lv' := [(4, .int 0), (3, .int r81), (2, .int ((τ.2.1 65 j) - (τ.2.1 69 j))), (0, .ref (a 16)), (1, .int (nI j))]) hx hb dX2_leadOn_86 hl (by decide) rfl (fun ls hl => ?_)
        obtain ⟨y, hy8, hy, hyc⟩ := p81.2
        have lp88 : ∀ (f : Nat) (k : Nat) (υ : St) (H : Heap) (locs : List Loc) (ls : Array Slot), (k ≤ y ∧ K cF cA2 σ υ ∧ υ.1 17 = nI y ∧ υ.2.1 60 = τ81.2.1 60) → (y - k) < f → HW D (AX a) s (wX cy a υ) H locs → lv_has ls 5 [(4, .int (nI k)), (3, .int r81), (2, .int ((τ.2.1 65 j) - (τ.2.1 69 j))), (0, .ref (a 16)), (1, .int (nI j))] → W p l e (rmOf 1 23) s m args below meth c H locs 0 0 (MQ below (va_Qv (fun τ => K cF cA2 σ τ) (fun u t => va_P D vwCl (wX cy a u) t.heap) (AX a)) args s 0 0 (AX a)) (F0 m 88 ls []) := by
          intro f
          induction f with
          | zero => intro k υ H locs ls _ hf; exact absurd hf (Nat.not_lt_zero _)
          | succ f ih88 =>
            intro k υ H locs ls hi88 hf88 h hl
            refine lv_iload hx hb dX2_leadOn_88 (lv_at hl 0 rfl) ?_
            refine lv_aload_n hx hb dX2_leadOn_90 rfl (lv_at hl 3 rfl) ?_
            refine r_get E h 7 (v := .ref (a 15)) (eX_16 cy a υ) rfl fw_X2 (by decide) fl_X2_12 rfl dX2_leadOn_91 ?_
            refine r_get E h 4 (v := .int (nI y)) (eX_15 cy a υ) rfl fw_X7 (by decide) fl_X2_193 (congrArg (fun z => some (Value.int z)) hi88.2.2.1) dX2_leadOn_94 ?_
            refine lv_icmp_ge (tgt := 133) hx hb dX2_leadOn_97 (by decide) (fun c97 => ?_) (fun c97 => ?_)
            · refine lv_aload_n hx hb dX2_leadOn_133 rfl (lv_at hl 3 rfl) ?_
              refine r_get E h 9 (v := .ref (a 64)) (eX_16 cy a υ) rfl fw_X2 (by decide) fl_X2_24 rfl dX2_leadOn_134 ?_
              refine lv_iconst (v := 5) hx hb dX2_leadOn_137 (by decide) ?_
              refine r_aald E h (eX_64 cy a υ) (j := 5) (by decide) (by decide) (v := .ref (a 70)) rfl dX2_leadOn_138 ?_
              refine lv_iload_n hx hb dX2_leadOn_139 rfl (lv_at hl 4 rfl) ?_
              refine lv_iload_n hx hb dX2_leadOn_140 rfl (lv_at hl 1 rfl) ?_
              refine r_iastN E h (f := υ.2.1 70) (eX_70 cy a υ) (j := j) hj (by decide) (qX_70 cy a υ (upd (υ.2.1 70) j r81)) dX2_leadOn_141 (fun H locs h => ?_)
              refine lv_aload_n hx hb dX2_leadOn_142 rfl (lv_at hl 3 rfl) ?_
              refine r_get E h 9 (v := .ref (a 64)) (eX_16 cy a (fR υ 70 (upd (υ.2.1 70) j r81))) rfl fw_X2 (by decide) fl_X2_24 rfl dX2_leadOn_143 ?_
              refine lv_bipush (v := 6) hx hb dX2_leadOn_146 (by decide) ?_
              refine r_aald E h (eX_64 cy a (fR υ 70 (upd (υ.2.1 70) j r81))) (j := 6) (by decide) (by decide) (v := .ref (a 71)) rfl dX2_leadOn_148 ?_
              refine lv_iload_n hx hb dX2_leadOn_149 rfl (lv_at hl 4 rfl) ?_
              refine lv_iload_n hx hb dX2_leadOn_150 rfl (lv_at hl 2 rfl) ?_
              refine lv_iload_n hx hb dX2_leadOn_151 rfl (lv_at hl 1 rfl) ?_
              refine lv_isub hx hb dX2_leadOn_152 ?_
              refine r_iastN E h (f := υ.2.1 71) (eX_71 cy a (fR υ 70 (upd (υ.2.1 70) j r81))) (j := j) hj (by decide) (qX_71 cy a (fR υ 70 (upd (υ.2.1 70) j r81)) (upd (υ.2.1 71) j (((τ.2.1 65 j) - (τ.2.1 69 j)) - r81))) dX2_leadOn_153 (fun H locs h => ?_)
              exact t_v E h hr hk ((hi88.2.1.R 70 _ (by decide)).R 71 _ (by decide)) dX2_leadOn_154
            · have c97 : k < y := Nat.lt_of_not_le fun q9 => c97 ((nI_leI (a := y) (b := k) (by omega) (by omega)).mpr q9)
              refine lv_aload_n hx hb dX2_leadOn_100 rfl (lv_at hl 3 rfl) ?_
              refine r_get E h 9 (v := .ref (a 64)) (eX_16 cy a υ) rfl fw_X2 (by decide) fl_X2_24 rfl dX2_leadOn_101 ?_
              refine lv_iconst (v := 1) hx hb dX2_leadOn_104 (by decide) ?_
              refine r_aald E h (eX_64 cy a υ) (j := 1) (by decide) (by decide) (v := .ref (a 66)) rfl dX2_leadOn_105 ?_
              refine lv_aload_n hx hb dX2_leadOn_106 rfl (lv_at hl 3 rfl) ?_
              refine r_get E h 7 (v := .ref (a 15)) (eX_16 cy a υ) rfl fw_X2 (by decide) fl_X2_12 rfl dX2_leadOn_107 ?_
              refine r_get E h 0 (v := .ref (a 60)) (eX_15 cy a υ) rfl fw_X7 (by decide) fl_X2_194 rfl dX2_leadOn_110 ?_
              refine lv_iload hx hb dX2_leadOn_113 (lv_at hl 0 rfl) ?_
              refine r_ialdN E h (f := υ.2.1 60) (eX_60 cy a υ) (j := k) (by omega) (by decide) (v := υ.2.1 60 k) rfl dX2_leadOn_115 ?_
              refine lv_aload_n hx hb dX2_leadOn_116 rfl (lv_at hl 3 rfl) ?_
              refine r_get E h 7 (v := .ref (a 15)) (eX_16 cy a υ) rfl fw_X2 (by decide) fl_X2_12 rfl dX2_leadOn_117 ?_
              refine r_get E h 2 (v := .ref (a 62)) (eX_15 cy a υ) rfl fw_X7 (by decide) fl_X2_197 rfl dX2_leadOn_120 ?_
              refine lv_iload hx hb dX2_leadOn_123 (lv_at hl 0 rfl) ?_
              refine r_ialdN E h (f := υ.2.1 62) (eX_62 cy a υ) (j := k) (by omega) (by decide) (v := υ.2.1 62 k) rfl dX2_leadOn_125 ?_
              refine r_iast E h (f := υ.2.1 66) (eX_66 cy a υ) (by rw [hi88.2.2.2]; exact hyc k c97) (qX_66 cy a υ (upd (υ.2.1 66) ((υ.2.1 60 k).toNatClampNeg) (υ.2.1 62 k))) dX2_leadOn_126 (fun H locs h => ?_)
              refine lv_iinc (v := nI (k + 1)) (lv' := [(4, .int (nI (k + 1))), (3, .int r81), (2, .int ((τ.2.1 65 j) - (τ.2.1 69 j))), (0, .ref (a 16)), (1, .int (nI j))]) hx hb dX2_leadOn_127 hl (k := 0) rfl (nI_succ k).symm (by decide) rfl (fun ls hl => ?_)
              refine lv_goto (tgt := 88) hx hb dX2_leadOn_130 (by decide) ?_
              exact ih88 (k + 1) (fR υ 66 (upd (υ.2.1 66) ((υ.2.1 60 k).toNatClampNeg) (υ.2.1 62 k))) _ _ _ ⟨by omega, hi88.2.1.R 66 _ (by decide), hi88.2.2.1, hi88.2.2.2⟩ (by omega) h (lv_sub hl [0, 1, 2, 3, 4] rfl)
        exact lp88 _ 0 τ81 _ _ _ ⟨Nat.zero_le _, hi9.2.1.tr p81.1, hy, rfl⟩ (Nat.lt_succ_self _) h (lv_sub hl [0, 1, 2, 3, 4] rfl)
      · have c22 : i < z := Nat.lt_of_not_le fun q9 => c22 ((nI_leI (a := z) (b := i) (by omega) (by omega)).mpr q9)
        refine lv_aload_n hx hb dX2_leadOn_25 rfl (lv_at hl 1 rfl) ?_
        refine r_get E h 3 (v := .ref (a 7)) (eX_16 cy a τ) rfl fw_X2 (by decide) fl_X2_52 rfl dX2_leadOn_26 ?_
        refine r_get E h 3 (v := .ref (a 11)) (eX_7 cy a τ) rfl fw_X0 (by decide) fl_X2_200 rfl dX2_leadOn_29 ?_
        refine lv_iload_n hx hb dX2_leadOn_32 rfl (lv_at hl 2 rfl) ?_
        refine lv_iload_n hx hb dX2_leadOn_33 rfl (lv_at hl 0 rfl) ?_
        refine k_i h (q_runV (As := [.int (nI j), .int (nI i)]) (rest := []) E h (c_X3_member_gC l D cy a τ j i hj (by omega)) co_X3_member ml_X2_183 im_X3_member se_X3_member in_X3 (eX_11 cy a τ) rfl ok_X3_member rfl ⟨by decide, by decide⟩ hl.1 rfl (Nat.le_of_ble_eq_true rfl) dX2_leadOn_34 ⟨Nat.zero_le _, Nat.zero_le _⟩) (wX_fst cy a) (fun r34 τ34 H locs p34 h => ?_)
        rw [p34.1] at h
        have hv : vp_in r34 12 := by
          rw [p34.2, hi9.2.1.2 52 (by decide)]
          exact hm i c22
        refine lv_istore_n (lv' := [(3, .int r34), (2, .int (nI i)), (0, .ref (a 16)), (1, .int (nI j))]) hx hb dX2_leadOn_37 rfl hl (by decide) rfl (fun ls hl => ?_)
        refine lv_aload_n hx hb dX2_leadOn_38 rfl (lv_at hl 2 rfl) ?_
        refine r_get E h 7 (v := .ref (a 15)) (eX_16 cy a τ) rfl fw_X2 (by decide) fl_X2_12 rfl dX2_leadOn_39 ?_
        refine lv_iload_n hx hb dX2_leadOn_42 rfl (lv_at hl 0 rfl) ?_
        refine lv_aload_n hx hb dX2_leadOn_43 rfl (lv_at hl 2 rfl) ?_
        refine r_get E h 8 (v := .ref (a 63)) (eX_16 cy a τ) rfl fw_X2 (by decide) fl_X2_18 rfl dX2_leadOn_44 ?_
        refine lv_iload_n hx hb dX2_leadOn_47 rfl (lv_at hl 0 rfl) ?_
        refine r_iald E h (f := τ.2.1 63) (eX_63 cy a τ) hv dX2_leadOn_48 ?_
        refine k_v h (q_runV (As := [.int r34, .int (τ.2.1 63 r34.toNatClampNeg)]) (rest := []) E h (c_X7_add l D cy a τ r34 (τ.2.1 63 r34.toNatClampNeg) 12 hi9.2.2 hv) co_X7_add ml_X2_186 im_X7_add se_X7_add in_X7 (eX_15 cy a τ) rfl ok_X7_add rfl ⟨by decide, by decide⟩ hl.1 rfl (Nat.le_of_ble_eq_true rfl) dX2_leadOn_49 ⟨Nat.zero_le _, Nat.zero_le _⟩) (wX_fst cy a) (fun τ49 H locs p49 h => ?_)
        refine lv_iinc (v := nI (i + 1)) (lv' := [(2, .int (nI (i + 1))), (3, .int r34), (0, .ref (a 16)), (1, .int (nI j))]) hx hb dX2_leadOn_52 hl (k := 1) rfl (nI_succ i).symm (by decide) rfl (fun ls hl => ?_)
        refine lv_goto (tgt := 9) hx hb dX2_leadOn_55 (by decide) ?_
        exact ih9 (i + 1) τ49 _ _ _ ⟨by omega, hi9.2.1.tr p49.1, p49.2⟩ (by omega) h (lv_sub hl [0, 2, 3] rfl)
  exact lp9 _ 0 (fF (fF σ 16 0) 17 0) _ _ _ ⟨Nat.zero_le _, (K.rf.F 16 _ (by decide)).F 17 _ (by decide), ⟨0, by omega, rfl, fun i q => absurd q (Nat.not_lt_zero i)⟩⟩ (Nat.lt_succ_self _) h (lv_sub hl [0, 1, 2] rfl)

set_option maxHeartbeats 4000000 in
set_option maxRecDepth 100000 in
theorem c_X2_partToNozzles (l : Launch) (D : va_G) (cy : Nat → ClassId) (a : Nat → Nat) (σ : St) (j : Nat) (g : GX σ) (hcf : CF σ) (hj : j < 12) : CV l yX2_partToNozzles cX2_partToNozzles 5 none (rmOf 2 48) D cy (wX cy a) (AX a) [.ref (a 16), .int (nI j)] σ (fun τ => K cF cA2 σ τ) := by
  refine c_of (lv := [(0, .ref (a 16)), (1, .int (nI j))]) rfl (Nat.le_of_ble_eq_true rfl) rfl ?_
  intro p e s m args below meth c ls E h hr hk hl
  have hx := E.1
  have hb := E.2.1
  refine lv_aload_n hx hb dX2_partToNozzles_0 rfl (lv_at hl 0 rfl) ?_
  refine r_get E h 0 (v := .ref (a 3)) (eX_16 cy a σ) rfl fw_X2 (by decide) fl_X2_40 rfl dX2_partToNozzles_1 ?_
  refine r_get E h 4 (v := .ref (a 23)) (eX_3 cy a σ) rfl fw_X4 (by decide) fl_X2_133 rfl dX2_partToNozzles_4 ?_
  refine lv_iconst (v := 0) hx hb dX2_partToNozzles_7 (by decide) ?_
  refine r_ialdN E h (f := σ.2.1 23) (eX_23 cy a σ) (j := 0) (by decide) (by decide) (v := σ.2.1 23 0) rfl dX2_partToNozzles_8 ?_
  refine lv_istore_n (lv' := [(2, .int (σ.2.1 23 0)), (0, .ref (a 16)), (1, .int (nI j))]) hx hb dX2_partToNozzles_9 rfl hl (by decide) rfl (fun ls hl => ?_)
  refine lv_aload_n hx hb dX2_partToNozzles_10 rfl (lv_at hl 1 rfl) ?_
  refine r_get E h 9 (v := .ref (a 64)) (eX_16 cy a σ) rfl fw_X2 (by decide) fl_X2_24 rfl dX2_partToNozzles_11 ?_
  refine lv_iconst (v := 0) hx hb dX2_partToNozzles_14 (by decide) ?_
  refine r_aald E h (eX_64 cy a σ) (j := 0) (by decide) (by decide) (v := .ref (a 65)) rfl dX2_partToNozzles_15 ?_
  refine lv_iload_n hx hb dX2_partToNozzles_16 rfl (lv_at hl 2 rfl) ?_
  refine r_ialdN E h (f := σ.2.1 65) (eX_65 cy a σ) (j := j) hj (by decide) (v := σ.2.1 65 j) rfl dX2_partToNozzles_17 ?_
  refine lv_istore_n (lv' := [(3, .int (σ.2.1 65 j)), (2, .int (σ.2.1 23 0)), (0, .ref (a 16)), (1, .int (nI j))]) hx hb dX2_partToNozzles_18 rfl hl (by decide) rfl (fun ls hl => ?_)
  refine lv_iload_n hx hb dX2_partToNozzles_19 rfl (lv_at hl 0 rfl) ?_
  refine lv_aload_n hx hb dX2_partToNozzles_20 rfl (lv_at hl 2 rfl) ?_
  refine lv_iload_n hx hb dX2_partToNozzles_21 rfl (lv_at hl 3 rfl) ?_
  refine lv_iload_n hx hb dX2_partToNozzles_22 rfl (lv_at hl 1 rfl) ?_
  refine lv_iload_n hx hb dX2_partToNozzles_23 rfl (lv_at hl 0 rfl) ?_
  refine k_i h (q_runV (As := [.int (nI j), .int (σ.2.1 23 0), .int (σ.2.1 65 j)]) (rest := [.int (σ.2.1 65 j)]) E h (c_X2_partToRank l D cy a σ j (σ.2.1 23 0) (σ.2.1 65 j) g hj hcf) co_X2_partToRank ml_X2_165 im_X2_partToRank se_X2_partToRank in_X2 (eX_16 cy a σ) rfl ok_X2_partToRank rfl ⟨by decide, by decide⟩ hl.1 rfl (Nat.le_of_ble_eq_true rfl) dX2_partToNozzles_24 ⟨Nat.zero_le _, Nat.zero_le _⟩) (wX_fst cy a) (fun r24 τ24 H locs p24 h => ?_)
  refine lv_isub hx hb dX2_partToNozzles_27 ?_
  refine lv_istore_n (lv' := [(3, .int ((σ.2.1 65 j) - r24)), (2, .int (σ.2.1 23 0)), (0, .ref (a 16)), (1, .int (nI j))]) hx hb dX2_partToNozzles_28 rfl hl (by decide) rfl (fun ls hl => ?_)
  refine lv_iconst (v := 0) hx hb dX2_partToNozzles_29 (by decide) ?_
  refine lv_istore (lv' := [(4, .int 0), (3, .int ((σ.2.1 65 j) - r24)), (2, .int (σ.2.1 23 0)), (0, .ref (a 16)), (1, .int (nI j))]) hx hb dX2_partToNozzles_30 hl (by decide) rfl (fun ls hl => ?_)
  have lp32 : ∀ (f : Nat) (k : Nat) (u : Int32) (υ : St) (H : Heap) (locs : List Loc) (ls : Array Slot), (k ≤ 3 ∧ K cF cA2 σ υ) → (3 - k) < f → HW D (AX a) s (wX cy a υ) H locs → lv_has ls 5 [(4, .int (nI k)), (3, .int u), (2, .int (σ.2.1 23 0)), (0, .ref (a 16)), (1, .int (nI j))] → W p l e (rmOf 2 48) s m args below meth c H locs 0 0 (MQ below (va_Qv (fun τ => K cF cA2 σ τ) (fun u t => va_P D vwCl (wX cy a u) t.heap) (AX a)) args s 0 0 (AX a)) (F0 m 32 ls []) := by
    intro f
    induction f with
    | zero => intro k u υ H locs ls _ hf; exact absurd hf (Nat.not_lt_zero _)
    | succ f ih32 =>
      intro k u υ H locs ls hi32 hf32 h hl
      refine lv_iload hx hb dX2_partToNozzles_32 (lv_at hl 0 rfl) ?_
      refine lv_iconst (v := 3) hx hb dX2_partToNozzles_34 (by decide) ?_
      refine lv_icmp_ge (tgt := 61) hx hb dX2_partToNozzles_35 (by decide) (fun c35 => ?_) (fun c35 => ?_)
      · refine lv_aload_n hx hb dX2_partToNozzles_61 rfl (lv_at hl 3 rfl) ?_
        refine r_get E h 9 (v := .ref (a 64)) (eX_16 cy a υ) rfl fw_X2 (by decide) fl_X2_24 rfl dX2_partToNozzles_62 ?_
        refine lv_iconst (v := 4) hx hb dX2_partToNozzles_65 (by decide) ?_
        refine r_aald E h (eX_64 cy a υ) (j := 4) (by decide) (by decide) (v := .ref (a 69)) rfl dX2_partToNozzles_66 ?_
        refine lv_iload_n hx hb dX2_partToNozzles_67 rfl (lv_at hl 4 rfl) ?_
        refine lv_aload_n hx hb dX2_partToNozzles_68 rfl (lv_at hl 3 rfl) ?_
        refine r_get E h 9 (v := .ref (a 64)) (eX_16 cy a υ) rfl fw_X2 (by decide) fl_X2_24 rfl dX2_partToNozzles_69 ?_
        refine lv_iconst (v := 0) hx hb dX2_partToNozzles_72 (by decide) ?_
        refine r_aald E h (eX_64 cy a υ) (j := 0) (by decide) (by decide) (v := .ref (a 65)) rfl dX2_partToNozzles_73 ?_
        refine lv_iload_n hx hb dX2_partToNozzles_74 rfl (lv_at hl 4 rfl) ?_
        refine r_ialdN E h (f := υ.2.1 65) (eX_65 cy a υ) (j := j) hj (by decide) (v := υ.2.1 65 j) rfl dX2_partToNozzles_75 ?_
        refine lv_iload_n hx hb dX2_partToNozzles_76 rfl (lv_at hl 1 rfl) ?_
        refine lv_isub hx hb dX2_partToNozzles_77 ?_
        refine r_iastN E h (f := υ.2.1 69) (eX_69 cy a υ) (j := j) hj (by decide) (qX_69 cy a υ (upd (υ.2.1 69) j ((υ.2.1 65 j) - u))) dX2_partToNozzles_78 (fun H locs h => ?_)
        exact t_v E h hr hk (hi32.2.R 69 _ (by decide)) dX2_partToNozzles_79
      · have c35 : k < 3 := Nat.lt_of_not_le fun q9 => c35 ((nI_leI (a := 3) (b := k) (by omega) (by omega)).mpr q9)
        refine lv_iload hx hb dX2_partToNozzles_38 (lv_at hl 0 rfl) ?_
        refine lv_iload_n hx hb dX2_partToNozzles_40 rfl (lv_at hl 2 rfl) ?_
        refine lv_icmp_eq (tgt := 55) hx hb dX2_partToNozzles_41 (by decide) (fun c41 => ?_) (fun c41 => ?_)
        · refine lv_iinc (v := nI (k + 1)) (lv' := [(4, .int (nI (k + 1))), (3, .int u), (2, .int (σ.2.1 23 0)), (0, .ref (a 16)), (1, .int (nI j))]) hx hb dX2_partToNozzles_55 hl (k := 0) rfl (nI_succ k).symm (by decide) rfl (fun ls hl => ?_)
          refine lv_goto (tgt := 32) hx hb dX2_partToNozzles_58 (by decide) ?_
          exact ih32 (k + 1) u υ _ _ _ ⟨by omega, hi32.2⟩ (by omega) h (lv_sub hl [0, 1, 2, 3, 4] rfl)
        · refine lv_iload_n hx hb dX2_partToNozzles_44 rfl (lv_at hl 1 rfl) ?_
          refine lv_aload_n hx hb dX2_partToNozzles_45 rfl (lv_at hl 3 rfl) ?_
          refine lv_iload_n hx hb dX2_partToNozzles_46 rfl (lv_at hl 4 rfl) ?_
          refine lv_iload hx hb dX2_partToNozzles_47 (lv_at hl 0 rfl) ?_
          refine lv_iload_n hx hb dX2_partToNozzles_49 rfl (lv_at hl 1 rfl) ?_
          refine k_i h (q_runV (As := [.int (nI j), .int (nI k), .int u]) (rest := [.int u]) E h (c_X2_partToRank l D cy a υ j (nI k) u (g.kept (k2 hi32.2)) hj (vp_in_nI c35 (by decide))) co_X2_partToRank ml_X2_165 im_X2_partToRank se_X2_partToRank in_X2 (eX_16 cy a υ) rfl ok_X2_partToRank rfl ⟨by decide, by decide⟩ hl.1 rfl (Nat.le_of_ble_eq_true rfl) dX2_partToNozzles_50 ⟨Nat.zero_le _, Nat.zero_le _⟩) (wX_fst cy a) (fun r50 τ50 H locs p50 h => ?_)
          refine lv_isub hx hb dX2_partToNozzles_53 ?_
          refine lv_istore_n (lv' := [(3, .int (u - r50)), (4, .int (nI k)), (2, .int (σ.2.1 23 0)), (0, .ref (a 16)), (1, .int (nI j))]) hx hb dX2_partToNozzles_54 rfl hl (by decide) rfl (fun ls hl => ?_)
          refine lv_iinc (v := nI (k + 1)) (lv' := [(4, .int (nI (k + 1))), (3, .int (u - r50)), (2, .int (σ.2.1 23 0)), (0, .ref (a 16)), (1, .int (nI j))]) hx hb dX2_partToNozzles_55 hl (k := 1) rfl (nI_succ k).symm (by decide) rfl (fun ls hl => ?_)
          refine lv_goto (tgt := 32) hx hb dX2_partToNozzles_58 (by decide) ?_
          exact ih32 (k + 1) (u - r50) τ50 _ _ _ ⟨by omega, hi32.2.tr p50⟩ (by omega) h (lv_sub hl [0, 1, 2, 3, 4] rfl)
  exact lp32 _ 0 _ τ24 _ _ _ ⟨Nat.zero_le _, p24⟩ (Nat.lt_succ_self _) h (lv_sub hl [0, 1, 2, 3, 4] rfl)

set_option maxHeartbeats 4000000 in
set_option maxRecDepth 100000 in
theorem c_X2_flow (l : Launch) (D : va_G) (cy : Nat → ClassId) (a : Nat → Nat) (σ : St) (x : Int32) (g : GX σ) (hcf : CF σ) : CV l yX2_flow cX2_flow 3 none (rmOf 4 94) D cy (wX cy a) (AX a) [.ref (a 16), .int x] σ (fun τ => K cF cA2 σ τ) := by
  refine c_of (lv := [(0, .ref (a 16)), (1, .int x)]) rfl (Nat.le_of_ble_eq_true rfl) rfl ?_
  intro p e s m args below meth c ls E h hr hk hl
  have hx := E.1
  have hb := E.2.1
  obtain ⟨n, hn8, hn, hN⟩ := gx_ca g
  refine lv_aload_n hx hb dX2_flow_0 rfl (lv_at hl 0 rfl) ?_
  refine r_get E h 2 (v := .ref (a 6)) (eX_16 cy a σ) rfl fw_X2 (by decide) fl_X2_48 rfl dX2_flow_1 ?_
  refine lv_aload_n hx hb dX2_flow_4 rfl (lv_at hl 0 rfl) ?_
  refine r_get E h 14 (v := .int (σ.1 18)) (eX_16 cy a σ) rfl fw_X2 (by decide) fl_X2_75 rfl dX2_flow_5 ?_
  refine k_v h (q_runV (As := [.int (σ.1 18)]) (rest := []) E h (c_X9_settle l D cy a σ (σ.1 18) g) co_X9_settle ml_X2_87 im_X9_settle se_X9_settle in_X9 (eX_6 cy a σ) rfl ok_X9_settle rfl ⟨by decide, by decide⟩ hl.1 rfl (Nat.le_of_ble_eq_true rfl) dX2_flow_8 ⟨Nat.zero_le _, Nat.zero_le _⟩) (wX_fst cy a) (fun τ8 H locs p8 h => ?_)
  refine lv_aload_n hx hb dX2_flow_11 rfl (lv_at hl 0 rfl) ?_
  refine k_v h (q_runV (As := []) (rest := []) E h (c_X2_chooseServed l D cy a τ8 (g.kept (k2 p8))) co_X2_chooseServed ml_X2_90 im_X2_chooseServed se_X2_chooseServed in_X2 (eX_16 cy a τ8) rfl ok_X2_chooseServed rfl ⟨by decide, by decide⟩ hl.1 rfl (Nat.le_of_ble_eq_true rfl) dX2_flow_12 ⟨Nat.zero_le _, Nat.zero_le _⟩) (wX_fst cy a) (fun τ12 H locs p12 h => ?_)
  refine lv_aload_n hx hb dX2_flow_15 rfl (lv_at hl 0 rfl) ?_
  refine lv_iload_n hx hb dX2_flow_16 rfl (lv_at hl 1 rfl) ?_
  refine k_v h (q_runV (As := [.int x]) (rest := []) E h (c_X2_openPipes l D cy a τ12 x (g.kept (k2 (p8.tr p12)))) co_X2_openPipes ml_X2_93 im_X2_openPipes se_X2_openPipes in_X2 (eX_16 cy a τ12) rfl ok_X2_openPipes rfl ⟨by decide, by decide⟩ hl.1 rfl (Nat.le_of_ble_eq_true rfl) dX2_flow_17 ⟨Nat.zero_le _, Nat.zero_le _⟩) (wX_fst cy a) (fun τ17 H locs p17 h => ?_)
  refine lv_iconst (v := 0) hx hb dX2_flow_20 (by decide) ?_
  refine lv_istore_n (lv' := [(2, .int 0), (0, .ref (a 16)), (1, .int x)]) hx hb dX2_flow_21 rfl hl (by decide) rfl (fun ls hl => ?_)
  have lp22 : ∀ (f : Nat) (k : Nat) (υ : St) (H : Heap) (locs : List Loc) (ls : Array Slot), (k ≤ n ∧ K cF cA2 σ υ) → (n - k) < f → HW D (AX a) s (wX cy a υ) H locs → lv_has ls 3 [(2, .int (nI k)), (0, .ref (a 16)), (1, .int x)] → W p l e (rmOf 4 94) s m args below meth c H locs 0 0 (MQ below (va_Qv (fun τ => K cF cA2 σ τ) (fun u t => va_P D vwCl (wX cy a u) t.heap) (AX a)) args s 0 0 (AX a)) (F0 m 22 ls []) := by
    intro f
    induction f with
    | zero => intro k υ H locs ls _ hf; exact absurd hf (Nat.not_lt_zero _)
    | succ f ih22 =>
      intro k υ H locs ls hi22 hf22 h hl
      refine lv_iload_n hx hb dX2_flow_22 rfl (lv_at hl 0 rfl) ?_
      refine lv_aload_n hx hb dX2_flow_23 rfl (lv_at hl 1 rfl) ?_
      refine r_get E h 3 (v := .ref (a 7)) (eX_16 cy a υ) rfl fw_X2 (by decide) fl_X2_52 rfl dX2_flow_24 ?_
      refine r_get E h 4 (v := .int (nI n)) (eX_7 cy a υ) rfl fw_X0 (by decide) fl_X2_96 (congrArg (fun z => some (Value.int z)) ((hi22.2.1 12 (by decide)).trans hn)) dX2_flow_27 ?_
      refine lv_icmp_ge (tgt := 54) hx hb dX2_flow_30 (by decide) (fun c30 => ?_) (fun c30 => ?_)
      · exact t_v E h hr hk hi22.2 dX2_flow_54
      · have c30 : k < n := Nat.lt_of_not_le fun q9 => c30 ((nI_leI (a := n) (b := k) (by omega) (by omega)).mpr q9)
        refine lv_aload_n hx hb dX2_flow_33 rfl (lv_at hl 1 rfl) ?_
        refine lv_iload_n hx hb dX2_flow_34 rfl (lv_at hl 0 rfl) ?_
        refine k_v h (q_runV (As := [.int (nI k)]) (rest := []) E h (c_X2_bringIn l D cy a υ k (g.kept (k2 hi22.2)) (by omega) (by rw [hi22.2.2 38 (by decide)]; exact hN k c30)) co_X2_bringIn ml_X2_101 im_X2_bringIn se_X2_bringIn in_X2 (eX_16 cy a υ) rfl ok_X2_bringIn rfl ⟨by decide, by decide⟩ hl.1 rfl (Nat.le_of_ble_eq_true rfl) dX2_flow_35 ⟨Nat.zero_le _, Nat.zero_le _⟩) (wX_fst cy a) (fun τ35 H locs p35 h => ?_)
        refine lv_aload_n hx hb dX2_flow_38 rfl (lv_at hl 1 rfl) ?_
        refine lv_iload_n hx hb dX2_flow_39 rfl (lv_at hl 0 rfl) ?_
        refine k_v h (q_runV (As := [.int (nI k)]) (rest := []) E h (c_X2_partToNozzles l D cy a τ35 k (g.kept (k2 (hi22.2.tr p35))) (CF.kept (hi22.2.tr p35) hcf) (by omega)) co_X2_partToNozzles ml_X2_104 im_X2_partToNozzles se_X2_partToNozzles in_X2 (eX_16 cy a τ35) rfl ok_X2_partToNozzles rfl ⟨by decide, by decide⟩ hl.1 rfl (Nat.le_of_ble_eq_true rfl) dX2_flow_40 ⟨Nat.zero_le _, Nat.zero_le _⟩) (wX_fst cy a) (fun τ40 H locs p40 h => ?_)
        refine lv_aload_n hx hb dX2_flow_43 rfl (lv_at hl 1 rfl) ?_
        refine lv_iload_n hx hb dX2_flow_44 rfl (lv_at hl 0 rfl) ?_
        refine k_v h (q_runV (As := [.int (nI k)]) (rest := []) E h (c_X2_leadOn l D cy a τ40 k (g.kept (k2 ((hi22.2.tr p35).tr p40))) (by omega)) co_X2_leadOn ml_X2_107 im_X2_leadOn se_X2_leadOn in_X2 (eX_16 cy a τ40) rfl ok_X2_leadOn rfl ⟨by decide, by decide⟩ hl.1 rfl (Nat.le_of_ble_eq_true rfl) dX2_flow_45 ⟨Nat.zero_le _, Nat.zero_le _⟩) (wX_fst cy a) (fun τ45 H locs p45 h => ?_)
        refine lv_iinc (v := nI (k + 1)) (lv' := [(2, .int (nI (k + 1))), (0, .ref (a 16)), (1, .int x)]) hx hb dX2_flow_48 hl (k := 0) rfl (nI_succ k).symm (by decide) rfl (fun ls hl => ?_)
        refine lv_goto (tgt := 22) hx hb dX2_flow_51 (by decide) ?_
        exact ih22 (k + 1) τ45 _ _ _ ⟨by omega, ((hi22.2.tr p35).tr p40).tr p45⟩ (by omega) h (lv_sub hl [0, 1, 2] rfl)
  exact lp22 _ 0 τ17 _ _ _ ⟨Nat.zero_le _, (p8.tr p12).tr p17⟩ (Nat.lt_succ_self _) h (lv_sub hl [0, 1, 2] rfl)

set_option maxHeartbeats 4000000 in
set_option maxRecDepth 100000 in
theorem c_X2_run (l : Launch) (D : va_G) (cy : Nat → ClassId) (a : Nat → Nat) (σ : St) (y w : Int32) (g : GX σ) : CV l yX2_run cX2_run 3 none (rmOf 5 116) D cy (wX cy a) (AX a) [.ref (a 16), .int y, .int w] σ (fun τ => K cF cA σ τ ∧ CF τ) := by
  refine c_of (lv := [(0, .ref (a 16)), (1, .int y), (2, .int w)]) rfl (Nat.le_of_ble_eq_true rfl) rfl ?_
  intro p e s m args below meth c ls E h hr hk hl
  have hx := E.1
  have hb := E.2.1
  refine lv_aload_n hx hb dX2_run_0 rfl (lv_at hl 0 rfl) ?_
  refine lv_iload_n hx hb dX2_run_1 rfl (lv_at hl 1 rfl) ?_
  refine lv_iload_n hx hb dX2_run_2 rfl (lv_at hl 2 rfl) ?_
  refine k_v h (q_runV (As := [.int y, .int w]) (rest := []) E h (c_X2_prepare l D cy a σ y w g) co_X2_prepare ml_X2_67 im_X2_prepare se_X2_prepare in_X2 (eX_16 cy a σ) rfl ok_X2_prepare rfl ⟨by decide, by decide⟩ hl.1 rfl (Nat.le_of_ble_eq_true rfl) dX2_run_3 ⟨Nat.zero_le _, Nat.zero_le _⟩) (wX_fst cy a) (fun τ3 H locs p3 h => ?_)
  refine lv_aload_n hx hb dX2_run_6 rfl (lv_at hl 0 rfl) ?_
  refine lv_iconst (v := -1) hx hb dX2_run_7 (by decide) ?_
  refine k_v h (q_runV (As := [.int (-1)]) (rest := []) E h (c_X2_flow l D cy a τ3 (-1) (g.kept p3.1) p3.2) co_X2_flow ml_X2_71 im_X2_flow se_X2_flow in_X2 (eX_16 cy a τ3) rfl ok_X2_flow rfl ⟨by decide, by decide⟩ hl.1 rfl (Nat.le_of_ble_eq_true rfl) dX2_run_8 ⟨Nat.zero_le _, Nat.zero_le _⟩) (wX_fst cy a) (fun τ8 H locs p8 h => ?_)
  exact t_v E h hr hk ⟨p3.1.tr (k2 p8), CF.kept p8 p3.2⟩ dX2_run_11

set_option maxHeartbeats 4000000 in
set_option maxRecDepth 100000 in
theorem c_X2_weighQuarters (l : Launch) (D : va_G) (cy : Nat → ClassId) (a : Nat → Nat) (σ : St)  (g : GX σ) : CV l yX2_weighQuarters cX2_weighQuarters 2 none (rmOf 2 44) D cy (wX cy a) (AX a) [.ref (a 16)] σ (fun τ => K cF cA2 σ τ) := by
  refine c_of (lv := [(0, .ref (a 16))]) rfl (Nat.le_of_ble_eq_true rfl) rfl ?_
  intro p e s m args below meth c ls E h hr hk hl
  have hx := E.1
  have hb := E.2.1
  obtain ⟨n, hn8, hn, hN⟩ := gx_no g
  refine lv_iconst (v := 0) hx hb dX2_weighQuarters_0 (by decide) ?_
  refine lv_istore_n (lv' := [(1, .int 0), (0, .ref (a 16))]) hx hb dX2_weighQuarters_1 rfl hl (by decide) rfl (fun ls hl => ?_)
  have lp2 : ∀ (f : Nat) (i : Nat) (τ : St) (H : Heap) (locs : List Loc) (ls : Array Slot), (i ≤ 8 ∧ K cF cA2 σ τ) → (8 - i) < f → HW D (AX a) s (wX cy a τ) H locs → lv_has ls 2 [(1, .int (nI i)), (0, .ref (a 16))] → W p l e (rmOf 2 44) s m args below meth c H locs 0 0 (MQ below (va_Qv (fun τ => K cF cA2 σ τ) (fun u t => va_P D vwCl (wX cy a u) t.heap) (AX a)) args s 0 0 (AX a)) (F0 m 2 ls []) := by
    intro f
    induction f with
    | zero => intro i τ H locs ls _ hf; exact absurd hf (Nat.not_lt_zero _)
    | succ f ih2 =>
      intro i τ H locs ls hi2 hf2 h hl
      refine lv_iload_n hx hb dX2_weighQuarters_2 rfl (lv_at hl 0 rfl) ?_
      refine lv_bipush (v := 8) hx hb dX2_weighQuarters_3 (by decide) ?_
      refine lv_icmp_ge (tgt := 28) hx hb dX2_weighQuarters_5 (by decide) (fun c5 => ?_) (fun c5 => ?_)
      · refine lv_iconst (v := 0) hx hb dX2_weighQuarters_28 (by decide) ?_
        refine lv_istore_n (lv' := [(1, .int 0), (0, .ref (a 16))]) hx hb dX2_weighQuarters_29 rfl hl (by decide) rfl (fun ls hl => ?_)
        have lp30 : ∀ (f : Nat) (k : Nat) (υ : St) (H : Heap) (locs : List Loc) (ls : Array Slot), (k ≤ n ∧ K cF cA2 σ υ) → (n - k) < f → HW D (AX a) s (wX cy a υ) H locs → lv_has ls 2 [(1, .int (nI k)), (0, .ref (a 16))] → W p l e (rmOf 2 44) s m args below meth c H locs 0 0 (MQ below (va_Qv (fun τ => K cF cA2 σ τ) (fun u t => va_P D vwCl (wX cy a u) t.heap) (AX a)) args s 0 0 (AX a)) (F0 m 30 ls []) := by
          intro f
          induction f with
          | zero => intro k υ H locs ls _ hf; exact absurd hf (Nat.not_lt_zero _)
          | succ f ih30 =>
            intro k υ H locs ls hi30 hf30 h hl
            have hNk : ∀ i, i < n → (¬ υ.2.1 42 i = 2 → vp_in (υ.2.1 43 i) 8) := by
              rw [hi30.2.2 42 (by decide), hi30.2.2 43 (by decide)]
              exact fun i hi => (hN i hi).2
            refine lv_iload_n hx hb dX2_weighQuarters_30 rfl (lv_at hl 0 rfl) ?_
            refine lv_aload_n hx hb dX2_weighQuarters_31 rfl (lv_at hl 1 rfl) ?_
            refine r_get E h 4 (v := .ref (a 8)) (eX_16 cy a υ) rfl fw_X2 (by decide) fl_X2_56 rfl dX2_weighQuarters_32 ?_
            refine r_get E h 6 (v := .int (nI n)) (eX_8 cy a υ) rfl fw_X6 (by decide) fl_X2_110 (congrArg (fun z => some (Value.int z)) ((hi30.2.1 13 (by decide)).trans hn)) dX2_weighQuarters_35 ?_
            refine lv_icmp_ge (tgt := 124) hx hb dX2_weighQuarters_38 (by decide) (fun c38 => ?_) (fun c38 => ?_)
            · exact t_v E h hr hk hi30.2 dX2_weighQuarters_124
            · have c38 : k < n := Nat.lt_of_not_le fun q9 => c38 ((nI_leI (a := n) (b := k) (by omega) (by omega)).mpr q9)
              refine lv_aload_n hx hb dX2_weighQuarters_41 rfl (lv_at hl 1 rfl) ?_
              refine r_get E h 4 (v := .ref (a 8)) (eX_16 cy a υ) rfl fw_X2 (by decide) fl_X2_56 rfl dX2_weighQuarters_42 ?_
              refine r_get E h 1 (v := .ref (a 42)) (eX_8 cy a υ) rfl fw_X6 (by decide) fl_X2_113 rfl dX2_weighQuarters_45 ?_
              refine lv_iload_n hx hb dX2_weighQuarters_48 rfl (lv_at hl 0 rfl) ?_
              refine r_ialdN E h (f := υ.2.1 42) (eX_42 cy a υ) (j := k) (by omega) (by decide) (v := υ.2.1 42 k) rfl dX2_weighQuarters_49 ?_
              refine lv_iconst (v := 2) hx hb dX2_weighQuarters_50 (by decide) ?_
              refine lv_icmp_eq (tgt := 118) hx hb dX2_weighQuarters_51 (by decide) (fun c51 => ?_) (fun c51 => ?_)
              · refine lv_iinc (v := nI (k + 1)) (lv' := [(1, .int (nI (k + 1))), (0, .ref (a 16))]) hx hb dX2_weighQuarters_118 hl (k := 0) rfl (nI_succ k).symm (by decide) rfl (fun ls hl => ?_)
                refine lv_goto (tgt := 30) hx hb dX2_weighQuarters_121 (by decide) ?_
                exact ih30 (k + 1) υ _ _ _ ⟨by omega, hi30.2⟩ (by omega) h (lv_sub hl [0, 1] rfl)
              · refine lv_aload_n hx hb dX2_weighQuarters_54 rfl (lv_at hl 1 rfl) ?_
                refine r_get E h 4 (v := .ref (a 8)) (eX_16 cy a υ) rfl fw_X2 (by decide) fl_X2_56 rfl dX2_weighQuarters_55 ?_
                refine lv_iload_n hx hb dX2_weighQuarters_58 rfl (lv_at hl 0 rfl) ?_
                refine lv_aload_n hx hb dX2_weighQuarters_59 rfl (lv_at hl 1 rfl) ?_
                refine r_get E h 14 (v := .int (υ.1 18)) (eX_16 cy a υ) rfl fw_X2 (by decide) fl_X2_75 rfl dX2_weighQuarters_60 ?_
                refine k_i h (q_runV (As := [.int (nI k), .int (υ.1 18)]) (rest := []) E h (c_X6_isOpen l D cy a υ k (υ.1 18) (by omega)) co_X6_isOpen ml_X2_120 im_X6_isOpen se_X6_isOpen in_X6 (eX_8 cy a υ) rfl ok_X6_isOpen rfl ⟨by decide, by decide⟩ hl.1 rfl (Nat.le_of_ble_eq_true rfl) dX2_weighQuarters_63 ⟨Nat.zero_le _, Nat.zero_le _⟩) (wX_fst cy a) (fun r63 τ63 H locs p63 h => ?_)
                rw [p63.1] at h
                refine lv_if_eq (tgt := 118) hx hb dX2_weighQuarters_66 (by decide) (fun c66 => ?_) (fun c66 => ?_)
                · refine lv_iinc (v := nI (k + 1)) (lv' := [(1, .int (nI (k + 1))), (0, .ref (a 16))]) hx hb dX2_weighQuarters_118 hl (k := 0) rfl (nI_succ k).symm (by decide) rfl (fun ls hl => ?_)
                  refine lv_goto (tgt := 30) hx hb dX2_weighQuarters_121 (by decide) ?_
                  exact ih30 (k + 1) υ _ _ _ ⟨by omega, hi30.2⟩ (by omega) h (lv_sub hl [0, 1] rfl)
                · refine lv_aload_n hx hb dX2_weighQuarters_69 rfl (lv_at hl 1 rfl) ?_
                  refine r_get E h 12 (v := .ref (a 74)) (eX_16 cy a υ) rfl fw_X2 (by decide) fl_X2_34 rfl dX2_weighQuarters_70 ?_
                  refine lv_aload_n hx hb dX2_weighQuarters_73 rfl (lv_at hl 1 rfl) ?_
                  refine r_get E h 4 (v := .ref (a 8)) (eX_16 cy a υ) rfl fw_X2 (by decide) fl_X2_56 rfl dX2_weighQuarters_74 ?_
                  refine r_get E h 2 (v := .ref (a 43)) (eX_8 cy a υ) rfl fw_X6 (by decide) fl_X2_130 rfl dX2_weighQuarters_77 ?_
                  refine lv_iload_n hx hb dX2_weighQuarters_80 rfl (lv_at hl 0 rfl) ?_
                  refine r_ialdN E h (f := υ.2.1 43) (eX_43 cy a υ) (j := k) (by omega) (by decide) (v := υ.2.1 43 k) rfl dX2_weighQuarters_81 ?_
                  refine lv_dup2_11 hx hb dX2_weighQuarters_82 rfl rfl ?_
                  refine r_iald E h (f := υ.2.1 74) (eX_74 cy a υ) (hNk k c38 c51) dX2_weighQuarters_83 ?_
                  refine lv_aload_n hx hb dX2_weighQuarters_84 rfl (lv_at hl 1 rfl) ?_
                  refine r_get E h 4 (v := .ref (a 8)) (eX_16 cy a υ) rfl fw_X2 (by decide) fl_X2_56 rfl dX2_weighQuarters_85 ?_
                  refine r_get E h 0 (v := .ref (a 41)) (eX_8 cy a υ) rfl fw_X6 (by decide) fl_X2_124 rfl dX2_weighQuarters_88 ?_
                  refine lv_iload_n hx hb dX2_weighQuarters_91 rfl (lv_at hl 0 rfl) ?_
                  refine r_ialdN E h (f := υ.2.1 41) (eX_41 cy a υ) (j := k) (by omega) (by decide) (v := υ.2.1 41 k) rfl dX2_weighQuarters_92 ?_
                  refine lv_iadd hx hb dX2_weighQuarters_93 ?_
                  refine r_iast E h (f := υ.2.1 74) (eX_74 cy a υ) (hNk k c38 c51) (qX_74 cy a υ (upd (υ.2.1 74) ((υ.2.1 43 k).toNatClampNeg) ((υ.2.1 74 (υ.2.1 43 k).toNatClampNeg) + (υ.2.1 41 k)))) dX2_weighQuarters_94 (fun H locs h => ?_)
                  refine lv_aload_n hx hb dX2_weighQuarters_95 rfl (lv_at hl 1 rfl) ?_
                  refine r_get E h 13 (v := .ref (a 75)) (eX_16 cy a (fR υ 74 (upd (υ.2.1 74) ((υ.2.1 43 k).toNatClampNeg) ((υ.2.1 74 (υ.2.1 43 k).toNatClampNeg) + (υ.2.1 41 k))))) rfl fw_X2 (by decide) fl_X2_37 rfl dX2_weighQuarters_96 ?_
                  refine lv_aload_n hx hb dX2_weighQuarters_99 rfl (lv_at hl 1 rfl) ?_
                  refine r_get E h 4 (v := .ref (a 8)) (eX_16 cy a (fR υ 74 (upd (υ.2.1 74) ((υ.2.1 43 k).toNatClampNeg) ((υ.2.1 74 (υ.2.1 43 k).toNatClampNeg) + (υ.2.1 41 k))))) rfl fw_X2 (by decide) fl_X2_56 rfl dX2_weighQuarters_100 ?_
                  refine r_get E h 2 (v := .ref (a 43)) (eX_8 cy a (fR υ 74 (upd (υ.2.1 74) ((υ.2.1 43 k).toNatClampNeg) ((υ.2.1 74 (υ.2.1 43 k).toNatClampNeg) + (υ.2.1 41 k))))) rfl fw_X6 (by decide) fl_X2_130 rfl dX2_weighQuarters_103 ?_
                  refine lv_iload_n hx hb dX2_weighQuarters_106 rfl (lv_at hl 0 rfl) ?_
                  refine r_ialdN E h (f := υ.2.1 43) (eX_43 cy a (fR υ 74 (upd (υ.2.1 74) ((υ.2.1 43 k).toNatClampNeg) ((υ.2.1 74 (υ.2.1 43 k).toNatClampNeg) + (υ.2.1 41 k))))) (j := k) (by omega) (by decide) (v := υ.2.1 43 k) rfl dX2_weighQuarters_107 ?_
                  refine lv_dup2_11 hx hb dX2_weighQuarters_108 rfl rfl ?_
                  refine r_iald E h (f := υ.2.1 75) (eX_75 cy a (fR υ 74 (upd (υ.2.1 74) ((υ.2.1 43 k).toNatClampNeg) ((υ.2.1 74 (υ.2.1 43 k).toNatClampNeg) + (υ.2.1 41 k))))) (hNk k c38 c51) dX2_weighQuarters_109 ?_
                  refine lv_aload_n hx hb dX2_weighQuarters_110 rfl (lv_at hl 1 rfl) ?_
                  refine r_get E h 11 (v := .ref (a 73)) (eX_16 cy a (fR υ 74 (upd (υ.2.1 74) ((υ.2.1 43 k).toNatClampNeg) ((υ.2.1 74 (υ.2.1 43 k).toNatClampNeg) + (υ.2.1 41 k))))) rfl fw_X2 (by decide) fl_X2_31 rfl dX2_weighQuarters_111 ?_
                  refine lv_iload_n hx hb dX2_weighQuarters_114 rfl (lv_at hl 0 rfl) ?_
                  refine r_ialdN E h (f := υ.2.1 73) (eX_73 cy a (fR υ 74 (upd (υ.2.1 74) ((υ.2.1 43 k).toNatClampNeg) ((υ.2.1 74 (υ.2.1 43 k).toNatClampNeg) + (υ.2.1 41 k))))) (j := k) (by omega) (by decide) (v := υ.2.1 73 k) rfl dX2_weighQuarters_115 ?_
                  refine lv_iadd hx hb dX2_weighQuarters_116 ?_
                  refine r_iast E h (f := υ.2.1 75) (eX_75 cy a (fR υ 74 (upd (υ.2.1 74) ((υ.2.1 43 k).toNatClampNeg) ((υ.2.1 74 (υ.2.1 43 k).toNatClampNeg) + (υ.2.1 41 k))))) (hNk k c38 c51) (qX_75 cy a (fR υ 74 (upd (υ.2.1 74) ((υ.2.1 43 k).toNatClampNeg) ((υ.2.1 74 (υ.2.1 43 k).toNatClampNeg) + (υ.2.1 41 k)))) (upd (υ.2.1 75) ((υ.2.1 43 k).toNatClampNeg) ((υ.2.1 75 (υ.2.1 43 k).toNatClampNeg) + (υ.2.1 73 k)))) dX2_weighQuarters_117 (fun H locs h => ?_)
                  refine lv_iinc (v := nI (k + 1)) (lv' := [(1, .int (nI (k + 1))), (0, .ref (a 16))]) hx hb dX2_weighQuarters_118 hl (k := 0) rfl (nI_succ k).symm (by decide) rfl (fun ls hl => ?_)
                  refine lv_goto (tgt := 30) hx hb dX2_weighQuarters_121 (by decide) ?_
                  exact ih30 (k + 1) (fR (fR υ 74 (upd (υ.2.1 74) ((υ.2.1 43 k).toNatClampNeg) ((υ.2.1 74 (υ.2.1 43 k).toNatClampNeg) + (υ.2.1 41 k)))) 75 (upd (υ.2.1 75) ((υ.2.1 43 k).toNatClampNeg) ((υ.2.1 75 (υ.2.1 43 k).toNatClampNeg) + (υ.2.1 73 k)))) _ _ _ ⟨by omega, (hi30.2.R 74 _ (by decide)).R 75 _ (by decide)⟩ (by omega) h (lv_sub hl [0, 1] rfl)
        exact lp30 _ 0 τ _ _ _ ⟨Nat.zero_le _, hi2.2⟩ (Nat.lt_succ_self _) h (lv_sub hl [0, 1] rfl)
      · have c5 : i < 8 := Nat.lt_of_not_le fun q9 => c5 ((nI_leI (a := 8) (b := i) (by omega) (by omega)).mpr q9)
        refine lv_aload_n hx hb dX2_weighQuarters_8 rfl (lv_at hl 1 rfl) ?_
        refine r_get E h 12 (v := .ref (a 74)) (eX_16 cy a τ) rfl fw_X2 (by decide) fl_X2_34 rfl dX2_weighQuarters_9 ?_
        refine lv_iload_n hx hb dX2_weighQuarters_12 rfl (lv_at hl 0 rfl) ?_
        refine lv_iconst (v := 0) hx hb dX2_weighQuarters_13 (by decide) ?_
        refine r_iastN E h (f := τ.2.1 74) (eX_74 cy a τ) (j := i) c5 (by decide) (qX_74 cy a τ (upd (τ.2.1 74) i 0)) dX2_weighQuarters_14 (fun H locs h => ?_)
        refine lv_aload_n hx hb dX2_weighQuarters_15 rfl (lv_at hl 1 rfl) ?_
        refine r_get E h 13 (v := .ref (a 75)) (eX_16 cy a (fR τ 74 (upd (τ.2.1 74) i 0))) rfl fw_X2 (by decide) fl_X2_37 rfl dX2_weighQuarters_16 ?_
        refine lv_iload_n hx hb dX2_weighQuarters_19 rfl (lv_at hl 0 rfl) ?_
        refine lv_iconst (v := 0) hx hb dX2_weighQuarters_20 (by decide) ?_
        refine r_iastN E h (f := τ.2.1 75) (eX_75 cy a (fR τ 74 (upd (τ.2.1 74) i 0))) (j := i) c5 (by decide) (qX_75 cy a (fR τ 74 (upd (τ.2.1 74) i 0)) (upd (τ.2.1 75) i 0)) dX2_weighQuarters_21 (fun H locs h => ?_)
        refine lv_iinc (v := nI (i + 1)) (lv' := [(1, .int (nI (i + 1))), (0, .ref (a 16))]) hx hb dX2_weighQuarters_22 hl (k := 0) rfl (nI_succ i).symm (by decide) rfl (fun ls hl => ?_)
        refine lv_goto (tgt := 2) hx hb dX2_weighQuarters_25 (by decide) ?_
        exact ih2 (i + 1) (fR (fR τ 74 (upd (τ.2.1 74) i 0)) 75 (upd (τ.2.1 75) i 0)) _ _ _ ⟨by omega, (hi2.2.R 74 _ (by decide)).R 75 _ (by decide)⟩ (by omega) h (lv_sub hl [0, 1] rfl)
  exact lp2 _ 0 σ _ _ _ ⟨by omega, K.rf⟩ (Nat.lt_succ_self _) h (lv_sub hl [0, 1] rfl)

set_option maxHeartbeats 4000000 in
set_option maxRecDepth 100000 in
theorem c_X2_isDry (l : Launch) (D : va_G) (cy : Nat → ClassId) (a : Nat → Nat) (σ : St) (i : Nat) (hi8 : i < 8) : CI l yX2_isDry cX2_isDry 2 (some .boolean) (rmOf 0 0) D cy (wX cy a) (AX a) [.ref (a 16), .int (nI i)] σ (fun r τ => τ = σ ∧ (r = 0 ∨ r = 1)) := by
  refine c_of (lv := [(0, .ref (a 16)), (1, .int (nI i))]) rfl (Nat.le_of_ble_eq_true rfl) rfl ?_
  intro p e s m args below meth c ls E h hr hk hl
  have hx := E.1
  have hb := E.2.1
  refine lv_iconst (v := 2) hx hb dX2_isDry_0 (by decide) ?_
  refine lv_aload_n hx hb dX2_isDry_1 rfl (lv_at hl 0 rfl) ?_
  refine r_get E h 13 (v := .ref (a 75)) (eX_16 cy a σ) rfl fw_X2 (by decide) fl_X2_37 rfl dX2_isDry_2 ?_
  refine lv_iload_n hx hb dX2_isDry_5 rfl (lv_at hl 1 rfl) ?_
  refine r_ialdN E h (f := σ.2.1 75) (eX_75 cy a σ) (j := i) hi8 (by decide) (v := σ.2.1 75 i) rfl dX2_isDry_6 ?_
  refine lv_imul hx hb dX2_isDry_7 ?_
  refine lv_aload_n hx hb dX2_isDry_8 rfl (lv_at hl 0 rfl) ?_
  refine r_get E h 12 (v := .ref (a 74)) (eX_16 cy a σ) rfl fw_X2 (by decide) fl_X2_34 rfl dX2_isDry_9 ?_
  refine lv_iload_n hx hb dX2_isDry_12 rfl (lv_at hl 1 rfl) ?_
  refine r_ialdN E h (f := σ.2.1 74) (eX_74 cy a σ) (j := i) hi8 (by decide) (v := σ.2.1 74 i) rfl dX2_isDry_13 ?_
  refine lv_icmp_ge (tgt := 21) hx hb dX2_isDry_14 (by decide) (fun c14 => ?_) (fun c14 => ?_)
  · refine lv_iconst (v := 0) hx hb dX2_isDry_21 (by decide) ?_
    exact t_z E h hr hk (Or.inl rfl) ⟨rfl, Or.inl rfl⟩ dX2_isDry_22
  · refine lv_iconst (v := 1) hx hb dX2_isDry_17 (by decide) ?_
    refine lv_goto (tgt := 22) hx hb dX2_isDry_18 (by decide) ?_
    exact t_z E h hr hk (Or.inr rfl) ⟨rfl, Or.inr rfl⟩ dX2_isDry_22

set_option maxHeartbeats 4000000 in
set_option maxRecDepth 100000 in
theorem c_X2_countDry (l : Launch) (D : va_G) (cy : Nat → ClassId) (a : Nat → Nat) (σ : St)   : CI l yX2_countDry cX2_countDry 3 (some .int) (rmOf 1 21) D cy (wX cy a) (AX a) [.ref (a 16)] σ (fun _ τ => τ = σ ∧ True) := by
  refine c_of (lv := [(0, .ref (a 16))]) rfl (Nat.le_of_ble_eq_true rfl) rfl ?_
  intro p e s m args below meth c ls E h hr hk hl
  have hx := E.1
  have hb := E.2.1
  refine lv_iconst (v := 0) hx hb dX2_countDry_0 (by decide) ?_
  refine lv_istore_n (lv' := [(1, .int 0), (0, .ref (a 16))]) hx hb dX2_countDry_1 rfl hl (by decide) rfl (fun ls hl => ?_)
  refine lv_iconst (v := 0) hx hb dX2_countDry_2 (by decide) ?_
  refine lv_istore_n (lv' := [(2, .int 0), (1, .int 0), (0, .ref (a 16))]) hx hb dX2_countDry_3 rfl hl (by decide) rfl (fun ls hl => ?_)
  have lp4 : ∀ (f : Nat) (k : Nat) (u : Int32) (H : Heap) (locs : List Loc) (ls : Array Slot), (k ≤ 8) → (8 - k) < f → HW D (AX a) s (wX cy a σ) H locs → lv_has ls 3 [(2, .int (nI k)), (1, .int u), (0, .ref (a 16))] → W p l e (rmOf 1 21) s m args below meth c H locs 0 0 (MQ below (va_Qi (fun _ τ => τ = σ ∧ True) (fun u t => va_P D vwCl (wX cy a u) t.heap) (AX a)) args s 0 0 (AX a)) (F0 m 4 ls []) := by
    intro f
    induction f with
    | zero => intro k u H locs ls _ hf; exact absurd hf (Nat.not_lt_zero _)
    | succ f ih4 =>
      intro k u H locs ls hi4 hf4 h hl
      refine lv_iload_n hx hb dX2_countDry_4 rfl (lv_at hl 0 rfl) ?_
      refine lv_bipush (v := 8) hx hb dX2_countDry_5 (by decide) ?_
      refine lv_icmp_ge (tgt := 27) hx hb dX2_countDry_7 (by decide) (fun c7 => ?_) (fun c7 => ?_)
      · refine lv_iload_n hx hb dX2_countDry_27 rfl (lv_at hl 1 rfl) ?_
        exact t_i E h hr hk ⟨rfl, trivial⟩ dX2_countDry_28
      · have c7 : k < 8 := Nat.lt_of_not_le fun q9 => c7 ((nI_leI (a := 8) (b := k) (by omega) (by omega)).mpr q9)
        refine lv_aload_n hx hb dX2_countDry_10 rfl (lv_at hl 2 rfl) ?_
        refine lv_iload_n hx hb dX2_countDry_11 rfl (lv_at hl 0 rfl) ?_
        refine k_i h (q_runV (As := [.int (nI k)]) (rest := []) E h (c_X2_isDry l D cy a σ k c7) co_X2_isDry ml_X2_203 im_X2_isDry se_X2_isDry in_X2 (eX_16 cy a σ) rfl ok_X2_isDry rfl ⟨by decide, by decide⟩ hl.1 rfl (Nat.le_of_ble_eq_true rfl) dX2_countDry_12 ⟨Nat.zero_le _, Nat.zero_le _⟩) (wX_fst cy a) (fun r12 τ12 H locs p12 h => ?_)
        rw [p12.1] at h
        refine lv_if_eq (tgt := 21) hx hb dX2_countDry_15 (by decide) (fun c15 => ?_) (fun c15 => ?_)
        · refine lv_iinc (v := nI (k + 1)) (lv' := [(2, .int (nI (k + 1))), (1, .int u), (0, .ref (a 16))]) hx hb dX2_countDry_21 hl (k := 0) rfl (nI_succ k).symm (by decide) rfl (fun ls hl => ?_)
          refine lv_goto (tgt := 4) hx hb dX2_countDry_24 (by decide) ?_
          exact ih4 (k + 1) u _ _ _ (by omega) (by omega) h (lv_sub hl [0, 1, 2] rfl)
        · refine lv_iinc (v := u + 1) (lv' := [(1, .int (u + 1)), (2, .int (nI k)), (0, .ref (a 16))]) hx hb dX2_countDry_18 hl (k := 1) rfl rfl (by decide) rfl (fun ls hl => ?_)
          refine lv_iinc (v := nI (k + 1)) (lv' := [(2, .int (nI (k + 1))), (1, .int (u + 1)), (0, .ref (a 16))]) hx hb dX2_countDry_21 hl (k := 1) rfl (nI_succ k).symm (by decide) rfl (fun ls hl => ?_)
          refine lv_goto (tgt := 4) hx hb dX2_countDry_24 (by decide) ?_
          exact ih4 (k + 1) (u + 1) _ _ _ (by omega) (by omega) h (lv_sub hl [0, 1, 2] rfl)
  exact lp4 _ 0 0 _ _ _ (Nat.zero_le _) (Nat.lt_succ_self _) h (lv_sub hl [0, 1, 2] rfl)

set_option maxHeartbeats 4000000 in
set_option maxRecDepth 100000 in
theorem c_X2_leastMissing (l : Launch) (D : va_G) (cy : Nat → ClassId) (a : Nat → Nat) (σ : St) (j : Nat) (hj : j < 12) : CI l yX2_leastMissing cX2_leastMissing 7 (some .int) (rmOf 1 22) D cy (wX cy a) (AX a) [.ref (a 16), .int (nI j)] σ (fun _ τ => τ = σ ∧ True) := by
  refine c_of (lv := [(0, .ref (a 16)), (1, .int (nI j))]) rfl (Nat.le_of_ble_eq_true rfl) rfl ?_
  intro p e s m args below meth c ls E h hr hk hl
  have hx := E.1
  have hb := E.2.1
  refine lv_aload_n hx hb dX2_leastMissing_0 rfl (lv_at hl 0 rfl) ?_
  refine r_get E h 9 (v := .ref (a 64)) (eX_16 cy a σ) rfl fw_X2 (by decide) fl_X2_24 rfl dX2_leastMissing_1 ?_
  refine lv_iconst (v := 1) hx hb dX2_leastMissing_4 (by decide) ?_
  refine r_aald E h (eX_64 cy a σ) (j := 1) (by decide) (by decide) (v := .ref (a 66)) rfl dX2_leastMissing_5 ?_
  refine lv_iload_n hx hb dX2_leastMissing_6 rfl (lv_at hl 1 rfl) ?_
  refine r_ialdN E h (f := σ.2.1 66) (eX_66 cy a σ) (j := j) hj (by decide) (v := σ.2.1 66 j) rfl dX2_leastMissing_7 ?_
  refine lv_istore_n (lv' := [(2, .int (σ.2.1 66 j)), (0, .ref (a 16)), (1, .int (nI j))]) hx hb dX2_leastMissing_8 rfl hl (by decide) rfl (fun ls hl => ?_)
  refine lv_iload_n hx hb dX2_leastMissing_9 rfl (lv_at hl 0 rfl) ?_
  refine lv_aload_n hx hb dX2_leastMissing_10 rfl (lv_at hl 1 rfl) ?_
  refine r_get E h 9 (v := .ref (a 64)) (eX_16 cy a σ) rfl fw_X2 (by decide) fl_X2_24 rfl dX2_leastMissing_11 ?_
  refine lv_iconst (v := 2) hx hb dX2_leastMissing_14 (by decide) ?_
  refine r_aald E h (eX_64 cy a σ) (j := 2) (by decide) (by decide) (v := .ref (a 67)) rfl dX2_leastMissing_15 ?_
  refine lv_iload_n hx hb dX2_leastMissing_16 rfl (lv_at hl 2 rfl) ?_
  refine r_ialdN E h (f := σ.2.1 67) (eX_67 cy a σ) (j := j) hj (by decide) (v := σ.2.1 67 j) rfl dX2_leastMissing_17 ?_
  refine lv_isub hx hb dX2_leastMissing_18 ?_
  refine lv_istore_n (lv' := [(3, .int ((σ.2.1 66 j) - (σ.2.1 67 j))), (2, .int (σ.2.1 66 j)), (0, .ref (a 16)), (1, .int (nI j))]) hx hb dX2_leastMissing_19 rfl hl (by decide) rfl (fun ls hl => ?_)
  refine lv_iload_n hx hb dX2_leastMissing_20 rfl (lv_at hl 1 rfl) ?_
  refine lv_istore (lv' := [(4, .int (σ.2.1 66 j)), (3, .int ((σ.2.1 66 j) - (σ.2.1 67 j))), (2, .int (σ.2.1 66 j)), (0, .ref (a 16)), (1, .int (nI j))]) hx hb dX2_leastMissing_21 hl (by decide) rfl (fun ls hl => ?_)
  refine lv_iconst (v := 0) hx hb dX2_leastMissing_23 (by decide) ?_
  refine lv_istore (lv' := [(5, .int 0), (4, .int (σ.2.1 66 j)), (3, .int ((σ.2.1 66 j) - (σ.2.1 67 j))), (2, .int (σ.2.1 66 j)), (0, .ref (a 16)), (1, .int (nI j))]) hx hb dX2_leastMissing_24 hl (by decide) rfl (fun ls hl => ?_)
  have lp26 : ∀ (f : Nat) (k : Nat) (u v : Int32) (H : Heap) (locs : List Loc) (ls : Array Slot), (k ≤ 32) → (32 - k) < f → HW D (AX a) s (wX cy a σ) H locs → lv_has ls 7 [(5, .int (nI k)), (4, .int v), (3, .int u), (2, .int (σ.2.1 66 j)), (0, .ref (a 16)), (1, .int (nI j))] → W p l e (rmOf 1 22) s m args below meth c H locs 0 0 (MQ below (va_Qi (fun _ τ => τ = σ ∧ True) (fun u t => va_P D vwCl (wX cy a u) t.heap) (AX a)) args s 0 0 (AX a)) (F0 m 26 ls []) := by
    intro f
    induction f with
    | zero => intro k u v H locs ls _ hf; exact absurd hf (Nat.not_lt_zero _)
    | succ f ih26 =>
      intro k u v H locs ls hi26 hf26 h hl
      refine lv_iload hx hb dX2_leastMissing_26 (lv_at hl 0 rfl) ?_
      refine lv_bipush (v := 32) hx hb dX2_leastMissing_28 (by decide) ?_
      refine lv_icmp_ge (tgt := 89) hx hb dX2_leastMissing_30 (by decide) (fun c30 => ?_) (fun c30 => ?_)
      · refine lv_iload_n hx hb dX2_leastMissing_89 rfl (lv_at hl 3 rfl) ?_
        refine lv_iload_n hx hb dX2_leastMissing_90 rfl (lv_at hl 2 rfl) ?_
        refine lv_isub hx hb dX2_leastMissing_91 ?_
        exact t_i E h hr hk ⟨rfl, trivial⟩ dX2_leastMissing_92
      · have c30 : k < 32 := Nat.lt_of_not_le fun q9 => c30 ((nI_leI (a := 32) (b := k) (by omega) (by omega)).mpr q9)
        refine lv_iload_n hx hb dX2_leastMissing_33 rfl (lv_at hl 2 rfl) ?_
        refine lv_iload hx hb dX2_leastMissing_34 (lv_at hl 1 rfl) ?_
        refine lv_icmp_ge (tgt := 89) hx hb dX2_leastMissing_36 (by decide) (fun c36 => ?_) (fun c36 => ?_)
        · refine lv_iload_n hx hb dX2_leastMissing_89 rfl (lv_at hl 3 rfl) ?_
          refine lv_iload_n hx hb dX2_leastMissing_90 rfl (lv_at hl 2 rfl) ?_
          refine lv_isub hx hb dX2_leastMissing_91 ?_
          exact t_i E h hr hk ⟨rfl, trivial⟩ dX2_leastMissing_92
        · refine lv_iload hx hb dX2_leastMissing_39 (lv_at hl 1 rfl) ?_
          refine lv_iload hx hb dX2_leastMissing_41 (lv_at hl 1 rfl) ?_
          refine lv_iload_n hx hb dX2_leastMissing_43 rfl (lv_at hl 2 rfl) ?_
          refine lv_isub hx hb dX2_leastMissing_44 ?_
          refine lv_iconst (v := 2) hx hb dX2_leastMissing_45 (by decide) ?_
          refine lv_idiv hx hb dX2_leastMissing_46 (by decide) ?_
          refine lv_isub hx hb dX2_leastMissing_47 ?_
          refine lv_istore (lv' := [(6, .int (v - ((v - u) / 2))), (5, .int (nI k)), (4, .int v), (3, .int u), (2, .int (σ.2.1 66 j)), (0, .ref (a 16)), (1, .int (nI j))]) hx hb dX2_leastMissing_48 hl (by decide) rfl (fun ls hl => ?_)
          refine lv_iload hx hb dX2_leastMissing_50 (lv_at hl 0 rfl) ?_
          refine lv_aload_n hx hb dX2_leastMissing_52 rfl (lv_at hl 5 rfl) ?_
          refine lv_iload_n hx hb dX2_leastMissing_53 rfl (lv_at hl 6 rfl) ?_
          refine lv_iload hx hb dX2_leastMissing_54 (lv_at hl 0 rfl) ?_
          refine k_i h (q_runV (As := [.int (nI j), .int (v - ((v - u) / 2))]) (rest := [.int (v - ((v - u) / 2))]) E h (c_X2_lossOf l D cy a σ j (v - ((v - u) / 2)) hj) co_X2_lossOf ml_X2_159 im_X2_lossOf se_X2_lossOf in_X2 (eX_16 cy a σ) rfl ok_X2_lossOf rfl ⟨by decide, by decide⟩ hl.1 rfl (Nat.le_of_ble_eq_true rfl) dX2_leastMissing_56 ⟨Nat.zero_le _, Nat.zero_le _⟩) (wX_fst cy a) (fun r56 τ56 H locs p56 h => ?_)
          rw [p56.1] at h
          refine lv_isub hx hb dX2_leastMissing_59 ?_
          refine lv_aload_n hx hb dX2_leastMissing_60 rfl (lv_at hl 5 rfl) ?_
          refine r_get E h 9 (v := .ref (a 64)) (eX_16 cy a σ) rfl fw_X2 (by decide) fl_X2_24 rfl dX2_leastMissing_61 ?_
          refine lv_iconst (v := 0) hx hb dX2_leastMissing_64 (by decide) ?_
          refine r_aald E h (eX_64 cy a σ) (j := 0) (by decide) (by decide) (v := .ref (a 65)) rfl dX2_leastMissing_65 ?_
          refine lv_iload_n hx hb dX2_leastMissing_66 rfl (lv_at hl 6 rfl) ?_
          refine r_ialdN E h (f := σ.2.1 65) (eX_65 cy a σ) (j := j) hj (by decide) (v := σ.2.1 65 j) rfl dX2_leastMissing_67 ?_
          refine lv_icmp_gt (tgt := 77) hx hb dX2_leastMissing_68 (by decide) (fun c68 => ?_) (fun c68 => ?_)
          · refine lv_iload hx hb dX2_leastMissing_77 (lv_at hl 0 rfl) ?_
            refine lv_iconst (v := 1) hx hb dX2_leastMissing_79 (by decide) ?_
            refine lv_isub hx hb dX2_leastMissing_80 ?_
            refine lv_istore (lv' := [(4, .int ((v - ((v - u) / 2)) - 1)), (6, .int (v - ((v - u) / 2))), (5, .int (nI k)), (3, .int u), (2, .int (σ.2.1 66 j)), (0, .ref (a 16)), (1, .int (nI j))]) hx hb dX2_leastMissing_81 hl (by decide) rfl (fun ls hl => ?_)
            refine lv_iinc (v := nI (k + 1)) (lv' := [(5, .int (nI (k + 1))), (4, .int ((v - ((v - u) / 2)) - 1)), (6, .int (v - ((v - u) / 2))), (3, .int u), (2, .int (σ.2.1 66 j)), (0, .ref (a 16)), (1, .int (nI j))]) hx hb dX2_leastMissing_83 hl (k := 2) rfl (nI_succ k).symm (by decide) rfl (fun ls hl => ?_)
            refine lv_goto (tgt := 26) hx hb dX2_leastMissing_86 (by decide) ?_
            exact ih26 (k + 1) u ((v - ((v - u) / 2)) - 1) _ _ _ (by omega) (by omega) h (lv_sub hl [0, 1, 3, 4, 5, 6] rfl)
          · refine lv_iload hx hb dX2_leastMissing_71 (lv_at hl 0 rfl) ?_
            refine lv_istore_n (lv' := [(3, .int (v - ((v - u) / 2))), (6, .int (v - ((v - u) / 2))), (5, .int (nI k)), (4, .int v), (2, .int (σ.2.1 66 j)), (0, .ref (a 16)), (1, .int (nI j))]) hx hb dX2_leastMissing_73 rfl hl (by decide) rfl (fun ls hl => ?_)
            refine lv_goto (tgt := 83) hx hb dX2_leastMissing_74 (by decide) ?_
            refine lv_iinc (v := nI (k + 1)) (lv' := [(5, .int (nI (k + 1))), (3, .int (v - ((v - u) / 2))), (6, .int (v - ((v - u) / 2))), (4, .int v), (2, .int (σ.2.1 66 j)), (0, .ref (a 16)), (1, .int (nI j))]) hx hb dX2_leastMissing_83 hl (k := 2) rfl (nI_succ k).symm (by decide) rfl (fun ls hl => ?_)
            refine lv_goto (tgt := 26) hx hb dX2_leastMissing_86 (by decide) ?_
            exact ih26 (k + 1) (v - ((v - u) / 2)) v _ _ _ (by omega) (by omega) h (lv_sub hl [0, 3, 1, 4, 5, 6] rfl)
  exact lp26 _ 0 _ _ _ _ _ (Nat.zero_le _) (Nat.lt_succ_self _) h (lv_sub hl [0, 1, 2, 3, 4, 5] rfl)

set_option maxHeartbeats 4000000 in
set_option maxRecDepth 100000 in
theorem c_X2_rentOf (l : Launch) (D : va_G) (cy : Nat → ClassId) (a : Nat → Nat) (σ : St) (x y w : Int32) (g : GX σ) (hx4 : vp_in x 40) : CL l yX2_rentOf cX2_rentOf 7 (some .long) (rmOf 5 116) D cy (wX cy a) (AX a) [.ref (a 16), .int x, .int y, .int w] σ (fun _ τ => K cF cA σ τ ∧ CF τ) := by
  refine c_of (lv := [(0, .ref (a 16)), (1, .int x), (2, .int y), (3, .int w)]) rfl (Nat.le_of_ble_eq_true rfl) rfl ?_
  intro p e s m args below meth c ls E h hr hk hl
  have hx := E.1
  have hb := E.2.1
  obtain ⟨n, hn8, hn, hN⟩ := gx_no g
  refine lv_aload_n hx hb dX2_rentOf_0 rfl (lv_at hl 0 rfl) ?_
  refine lv_iload_n hx hb dX2_rentOf_1 rfl (lv_at hl 2 rfl) ?_
  refine lv_iload_n hx hb dX2_rentOf_2 rfl (lv_at hl 3 rfl) ?_
  refine k_v h (q_runV (As := [.int y, .int w]) (rest := []) E h (c_X2_prepare l D cy a σ y w g) co_X2_prepare ml_X2_67 im_X2_prepare se_X2_prepare in_X2 (eX_16 cy a σ) rfl ok_X2_prepare rfl ⟨by decide, by decide⟩ hl.1 rfl (Nat.le_of_ble_eq_true rfl) dX2_rentOf_3 ⟨Nat.zero_le _, Nat.zero_le _⟩) (wX_fst cy a) (fun τ3 H locs p3 h => ?_)
  refine lv_aload_n hx hb dX2_rentOf_6 rfl (lv_at hl 0 rfl) ?_
  refine r_get E h 0 (v := .ref (a 3)) (eX_16 cy a τ3) rfl fw_X2 (by decide) fl_X2_40 rfl dX2_rentOf_7 ?_
  refine r_get E h 4 (v := .ref (a 23)) (eX_3 cy a τ3) rfl fw_X4 (by decide) fl_X2_133 rfl dX2_rentOf_10 ?_
  refine lv_iconst (v := 2) hx hb dX2_rentOf_13 (by decide) ?_
  refine r_ialdN E h (f := τ3.2.1 23) (eX_23 cy a τ3) (j := 2) (by decide) (by decide) (v := τ3.2.1 23 2) rfl dX2_rentOf_14 ?_
  refine lv_if_eq (tgt := 31) hx hb dX2_rentOf_15 (by decide) (fun c15 => ?_) (fun c15 => ?_)
  · refine lv_lconst (v := 0) hx hb dX2_rentOf_31 (by decide) ?_
    exact t_l E h hr hk p3 dX2_rentOf_32
  · refine lv_aload_n hx hb dX2_rentOf_18 rfl (lv_at hl 0 rfl) ?_
    refine r_get E h 1 (v := .ref (a 5)) (eX_16 cy a τ3) rfl fw_X2 (by decide) fl_X2_44 rfl dX2_rentOf_19 ?_
    refine lv_iload_n hx hb dX2_rentOf_22 rfl (lv_at hl 1 rfl) ?_
    refine lv_iload_n hx hb dX2_rentOf_23 rfl (lv_at hl 2 rfl) ?_
    refine lv_iconst (v := 0) hx hb dX2_rentOf_24 (by decide) ?_
    refine k_i h (q_runV (As := [.int x, .int y, .int 0]) (rest := []) E h (c_X1_isWithinLife l D cy a τ3 x y 0 hx4) co_X1_isWithinLife ml_X2_136 im_X1_isWithinLife se_X1_isWithinLife in_X1 (eX_5 cy a τ3) rfl ok_X1_isWithinLife rfl ⟨by decide, by decide⟩ hl.1 rfl (Nat.le_of_ble_eq_true rfl) dX2_rentOf_25 ⟨Nat.zero_le _, Nat.zero_le _⟩) (wX_fst cy a) (fun r25 τ25 H locs p25 h => ?_)
    rw [p25.1] at h
    refine lv_if_ne (tgt := 33) hx hb dX2_rentOf_28 (by decide) (fun c28 => ?_) (fun c28 => ?_)
    · refine lv_aload_n hx hb dX2_rentOf_33 rfl (lv_at hl 0 rfl) ?_
      refine lv_iconst (v := -1) hx hb dX2_rentOf_34 (by decide) ?_
      refine k_v h (q_runV (As := [.int (-1)]) (rest := []) E h (c_X2_flow l D cy a τ3 (-1) (g.kept p3.1) p3.2) co_X2_flow ml_X2_71 im_X2_flow se_X2_flow in_X2 (eX_16 cy a τ3) rfl ok_X2_flow rfl ⟨by decide, by decide⟩ hl.1 rfl (Nat.le_of_ble_eq_true rfl) dX2_rentOf_35 ⟨Nat.zero_le _, Nat.zero_le _⟩) (wX_fst cy a) (fun τ35 H locs p35 h => ?_)
      refine lv_lconst (v := 0) hx hb dX2_rentOf_38 (by decide) ?_
      refine lv_lstore (lv' := [(4, .long 0), (0, .ref (a 16)), (1, .int x), (2, .int y), (3, .int w)]) hx hb dX2_rentOf_39 hl (by decide) rfl (fun ls hl => ?_)
      refine lv_iconst (v := 0) hx hb dX2_rentOf_41 (by decide) ?_
      refine lv_istore (lv' := [(6, .int 0), (4, .long 0), (0, .ref (a 16)), (1, .int x), (2, .int y), (3, .int w)]) hx hb dX2_rentOf_42 hl (by decide) rfl (fun ls hl => ?_)
      have lp44 : ∀ (f : Nat) (k : Nat) (u : Int64) (H : Heap) (locs : List Loc) (ls : Array Slot), (k ≤ n) → (n - k) < f → HW D (AX a) s (wX cy a τ35) H locs → lv_has ls 7 [(6, .int (nI k)), (4, .long u), (0, .ref (a 16)), (1, .int x), (2, .int y), (3, .int w)] → W p l e (rmOf 5 116) s m args below meth c H locs 0 0 (MQ below (va_Ql (fun _ τ => K cF cA σ τ ∧ CF τ) (fun u t => va_P D vwCl (wX cy a u) t.heap) (AX a)) args s 0 0 (AX a)) (F0 m 44 ls []) := by
        intro f
        induction f with
        | zero => intro k u H locs ls _ hf; exact absurd hf (Nat.not_lt_zero _)
        | succ f ih44 =>
          intro k u H locs ls hi44 hf44 h hl
          refine lv_iload hx hb dX2_rentOf_44 (lv_at hl 0 rfl) ?_
          refine lv_aload_n hx hb dX2_rentOf_46 rfl (lv_at hl 2 rfl) ?_
          refine r_get E h 4 (v := .ref (a 8)) (eX_16 cy a τ35) rfl fw_X2 (by decide) fl_X2_56 rfl dX2_rentOf_47 ?_
          refine r_get E h 6 (v := .int (nI n)) (eX_8 cy a τ35) rfl fw_X6 (by decide) fl_X2_110 (congrArg (fun z => some (Value.int z)) (((p3.1.tr (k2 p35)).1 13 (by decide)).trans hn)) dX2_rentOf_50 ?_
          refine lv_icmp_ge (tgt := 88) hx hb dX2_rentOf_53 (by decide) (fun c53 => ?_) (fun c53 => ?_)
          · refine lv_aload_n hx hb dX2_rentOf_88 rfl (lv_at hl 2 rfl) ?_
            refine r_get E h 0 (v := .ref (a 3)) (eX_16 cy a τ35) rfl fw_X2 (by decide) fl_X2_40 rfl dX2_rentOf_89 ?_
            refine r_get E h 4 (v := .ref (a 23)) (eX_3 cy a τ35) rfl fw_X4 (by decide) fl_X2_133 rfl dX2_rentOf_92 ?_
            refine lv_iconst (v := 2) hx hb dX2_rentOf_95 (by decide) ?_
            refine r_ialdN E h (f := τ35.2.1 23) (eX_23 cy a τ35) (j := 2) (by decide) (by decide) (v := τ35.2.1 23 2) rfl dX2_rentOf_96 ?_
            refine lv_i2l hx hb dX2_rentOf_97 rfl ?_
            refine lv_lload hx hb dX2_rentOf_98 (lv_at hl 1 rfl) ?_
            refine lv_lmul hx hb dX2_rentOf_100 ?_
            exact t_l E h hr hk ⟨p3.1.tr (k2 p35), CF.kept p35 p3.2⟩ dX2_rentOf_101
          · have c53 : k < n := Nat.lt_of_not_le fun q9 => c53 ((nI_leI (a := n) (b := k) (by omega) (by omega)).mpr q9)
            refine lv_aload_n hx hb dX2_rentOf_56 rfl (lv_at hl 2 rfl) ?_
            refine r_get E h 4 (v := .ref (a 8)) (eX_16 cy a τ35) rfl fw_X2 (by decide) fl_X2_56 rfl dX2_rentOf_57 ?_
            refine lv_iload hx hb dX2_rentOf_60 (lv_at hl 0 rfl) ?_
            refine lv_iload_n hx hb dX2_rentOf_62 rfl (lv_at hl 3 rfl) ?_
            refine k_i h (q_runV (As := [.int (nI k), .int x]) (rest := []) E h (c_X6_isGrantOf l D cy a τ35 k x (by omega)) co_X6_isGrantOf ml_X2_206 im_X6_isGrantOf se_X6_isGrantOf in_X6 (eX_8 cy a τ35) rfl ok_X6_isGrantOf rfl ⟨by decide, by decide⟩ hl.1 rfl (Nat.le_of_ble_eq_true rfl) dX2_rentOf_63 ⟨Nat.zero_le _, Nat.zero_le _⟩) (wX_fst cy a) (fun r63 τ63 H locs p63 h => ?_)
            rw [p63.1] at h
            refine lv_if_eq (tgt := 82) hx hb dX2_rentOf_66 (by decide) (fun c66 => ?_) (fun c66 => ?_)
            · refine lv_iinc (v := nI (k + 1)) (lv' := [(6, .int (nI (k + 1))), (4, .long u), (0, .ref (a 16)), (1, .int x), (2, .int y), (3, .int w)]) hx hb dX2_rentOf_82 hl (k := 0) rfl (nI_succ k).symm (by decide) rfl (fun ls hl => ?_)
              refine lv_goto (tgt := 44) hx hb dX2_rentOf_85 (by decide) ?_
              exact ih44 (k + 1) u _ _ _ (by omega) (by omega) h (lv_sub hl [0, 1, 2, 3, 4, 5] rfl)
            · refine lv_lload hx hb dX2_rentOf_69 (lv_at hl 1 rfl) ?_
              refine lv_aload_n hx hb dX2_rentOf_71 rfl (lv_at hl 2 rfl) ?_
              refine r_get E h 11 (v := .ref (a 73)) (eX_16 cy a τ35) rfl fw_X2 (by decide) fl_X2_31 rfl dX2_rentOf_72 ?_
              refine lv_iload hx hb dX2_rentOf_75 (lv_at hl 0 rfl) ?_
              refine r_ialdN E h (f := τ35.2.1 73) (eX_73 cy a τ35) (j := k) (by omega) (by decide) (v := τ35.2.1 73 k) rfl dX2_rentOf_77 ?_
              refine lv_i2l hx hb dX2_rentOf_78 rfl ?_
              refine lv_ladd hx hb dX2_rentOf_79 ?_
              refine lv_lstore (lv' := [(4, .long (u + ((τ35.2.1 73 k).toInt64))), (6, .int (nI k)), (0, .ref (a 16)), (1, .int x), (2, .int y), (3, .int w)]) hx hb dX2_rentOf_80 hl (by decide) rfl (fun ls hl => ?_)
              refine lv_iinc (v := nI (k + 1)) (lv' := [(6, .int (nI (k + 1))), (4, .long (u + ((τ35.2.1 73 k).toInt64))), (0, .ref (a 16)), (1, .int x), (2, .int y), (3, .int w)]) hx hb dX2_rentOf_82 hl (k := 1) rfl (nI_succ k).symm (by decide) rfl (fun ls hl => ?_)
              refine lv_goto (tgt := 44) hx hb dX2_rentOf_85 (by decide) ?_
              exact ih44 (k + 1) (u + ((τ35.2.1 73 k).toInt64)) _ _ _ (by omega) (by omega) h (lv_sub hl [0, 1, 2, 3, 4, 5] rfl)
      exact lp44 _ 0 0 _ _ _ (Nat.zero_le _) (Nat.lt_succ_self _) h (lv_sub hl [0, 1, 2, 3, 4, 5] rfl)
    · refine lv_lconst (v := 0) hx hb dX2_rentOf_31 (by decide) ?_
      exact t_l E h hr hk p3 dX2_rentOf_32

set_option maxHeartbeats 4000000 in
set_option maxRecDepth 100000 in
theorem c_X2_fineOf (l : Launch) (D : va_G) (cy : Nat → ClassId) (a : Nat → Nat) (σ : St) (j : Nat) (y w : Int32) (g : GX σ) (hj : j < 12) : CL l yX2_fineOf cX2_fineOf 4 (some .long) (rmOf 5 116) D cy (wX cy a) (AX a) [.ref (a 16), .int (nI j), .int y, .int w] σ (fun _ τ => K cF cA σ τ ∧ CF τ) := by
  refine c_of (lv := [(0, .ref (a 16)), (1, .int (nI j)), (2, .int y), (3, .int w)]) rfl (Nat.le_of_ble_eq_true rfl) rfl ?_
  intro p e s m args below meth c ls E h hr hk hl
  have hx := E.1
  have hb := E.2.1
  refine lv_aload_n hx hb dX2_fineOf_0 rfl (lv_at hl 0 rfl) ?_
  refine lv_iload_n hx hb dX2_fineOf_1 rfl (lv_at hl 2 rfl) ?_
  refine lv_iload_n hx hb dX2_fineOf_2 rfl (lv_at hl 3 rfl) ?_
  refine k_v h (q_runV (As := [.int y, .int w]) (rest := []) E h (c_X2_prepare l D cy a σ y w g) co_X2_prepare ml_X2_67 im_X2_prepare se_X2_prepare in_X2 (eX_16 cy a σ) rfl ok_X2_prepare rfl ⟨by decide, by decide⟩ hl.1 rfl (Nat.le_of_ble_eq_true rfl) dX2_fineOf_3 ⟨Nat.zero_le _, Nat.zero_le _⟩) (wX_fst cy a) (fun τ3 H locs p3 h => ?_)
  refine lv_aload_n hx hb dX2_fineOf_6 rfl (lv_at hl 0 rfl) ?_
  refine r_get E h 0 (v := .ref (a 3)) (eX_16 cy a τ3) rfl fw_X2 (by decide) fl_X2_40 rfl dX2_fineOf_7 ?_
  refine r_get E h 4 (v := .ref (a 23)) (eX_3 cy a τ3) rfl fw_X4 (by decide) fl_X2_133 rfl dX2_fineOf_10 ?_
  refine lv_iconst (v := 3) hx hb dX2_fineOf_13 (by decide) ?_
  refine r_ialdN E h (f := τ3.2.1 23) (eX_23 cy a τ3) (j := 3) (by decide) (by decide) (v := τ3.2.1 23 3) rfl dX2_fineOf_14 ?_
  refine lv_if_ne (tgt := 20) hx hb dX2_fineOf_15 (by decide) (fun c15 => ?_) (fun c15 => ?_)
  · refine lv_aload_n hx hb dX2_fineOf_20 rfl (lv_at hl 0 rfl) ?_
    refine lv_iconst (v := -1) hx hb dX2_fineOf_21 (by decide) ?_
    refine k_v h (q_runV (As := [.int (-1)]) (rest := []) E h (c_X2_flow l D cy a τ3 (-1) (g.kept p3.1) p3.2) co_X2_flow ml_X2_71 im_X2_flow se_X2_flow in_X2 (eX_16 cy a τ3) rfl ok_X2_flow rfl ⟨by decide, by decide⟩ hl.1 rfl (Nat.le_of_ble_eq_true rfl) dX2_fineOf_22 ⟨Nat.zero_le _, Nat.zero_le _⟩) (wX_fst cy a) (fun τ22 H locs p22 h => ?_)
    refine lv_aload_n hx hb dX2_fineOf_25 rfl (lv_at hl 0 rfl) ?_
    refine r_get E h 0 (v := .ref (a 3)) (eX_16 cy a τ22) rfl fw_X2 (by decide) fl_X2_40 rfl dX2_fineOf_26 ?_
    refine r_get E h 4 (v := .ref (a 23)) (eX_3 cy a τ22) rfl fw_X4 (by decide) fl_X2_133 rfl dX2_fineOf_29 ?_
    refine lv_iconst (v := 3) hx hb dX2_fineOf_32 (by decide) ?_
    refine r_ialdN E h (f := τ22.2.1 23) (eX_23 cy a τ22) (j := 3) (by decide) (by decide) (v := τ22.2.1 23 3) rfl dX2_fineOf_33 ?_
    refine lv_i2l hx hb dX2_fineOf_34 rfl ?_
    refine lv_aload_n hx hb dX2_fineOf_35 rfl (lv_at hl 0 rfl) ?_
    refine r_get E h 9 (v := .ref (a 64)) (eX_16 cy a τ22) rfl fw_X2 (by decide) fl_X2_24 rfl dX2_fineOf_36 ?_
    refine lv_iconst (v := 2) hx hb dX2_fineOf_39 (by decide) ?_
    refine r_aald E h (eX_64 cy a τ22) (j := 2) (by decide) (by decide) (v := .ref (a 67)) rfl dX2_fineOf_40 ?_
    refine lv_iload_n hx hb dX2_fineOf_41 rfl (lv_at hl 1 rfl) ?_
    refine r_ialdN E h (f := τ22.2.1 67) (eX_67 cy a τ22) (j := j) hj (by decide) (v := τ22.2.1 67 j) rfl dX2_fineOf_42 ?_
    refine lv_i2l hx hb dX2_fineOf_43 rfl ?_
    refine lv_lmul hx hb dX2_fineOf_44 ?_
    exact t_l E h hr hk ⟨p3.1.tr (k2 p22), CF.kept p22 p3.2⟩ dX2_fineOf_45
  · refine lv_lconst (v := 0) hx hb dX2_fineOf_18 (by decide) ?_
    exact t_l E h hr hk p3 dX2_fineOf_19
