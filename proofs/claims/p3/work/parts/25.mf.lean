theorem KZ_of {σ τ : St} (h : K mF mA σ τ) : K [2, 3, 4, 5, 6, 7, 9, 10, 11, 13] [1, 2, 3, 4, 5, 6, 7, 8, 9, 10, 17, 18, 19, 20, 21, 22, 23, 24, 25, 26, 27, 29] σ τ := K.sub h (by decide) (by decide)
set_option maxHeartbeats 4000000 in
set_option maxRecDepth 100000 in
theorem c_X12_nozzle (l : Launch) (D : va_G) (cy : Nat → ClassId) (a : Nat → Nat) (σ : St) (x y w v : Int32) (g : GM 40 σ) : CI l yX12_nozzle cX12_nozzle 6 (some .int) (rmOf 2 49) D cy (wM cy a) (AM a) [.ref (a 0), .int x, .int y, .int w, .int v] σ (fun _ τ => K [2, 3, 4, 5, 6, 7, 9, 10, 11, 13] [1, 2, 3, 4, 5, 6, 7, 8, 9, 10, 17, 18, 19, 20, 21, 22, 23, 24, 25, 26, 27, 29] σ τ ∧ GM 40 τ) := by
  refine c_of (lv := [(0, .ref (a 0)), (1, .int x), (2, .int y), (3, .int w), (4, .int v)]) rfl (Nat.le_of_ble_eq_true rfl) rfl ?_
  intro p e s m args below meth c ls E h hr hk hl
  have hx := E.1
  have hb := E.2.1
  obtain ⟨⟨nq, hq4, hq⟩, ⟨ns, hs6, hs⟩, ⟨nc, hc12, hc, hcw⟩, ⟨np, hp4, hp⟩, ⟨nd, hd6, hd⟩, ⟨nz, hz8, hz, hzw⟩, ⟨nt, ht6, ht⟩, ⟨nr, hr4, hrp⟩, ⟨nl, hl3, hla⟩, ⟨nx, hx4, hxt⟩, ⟨nn, hn2, hnow⟩⟩ := id g
  refine lv_aload_n hx hb dX12_nozzle_0 rfl (lv_at hl 0 rfl) ?_
  refine lv_iconst (v := 0) hx hb dX12_nozzle_1 (by decide) ?_
  refine r_put E h 0 (ty := .int) (eM_0 cy a σ) rfl fw_X12 tyX12_ok nmX12 (by decide) fl_X12_131 rfl (by decide +kernel) rfl rfl (Nat.le_of_ble_eq_true rfl) (sM_0 cy a σ 0) dX12_nozzle_2 (fun H locs h => ?_)
  refine lv_iload_n hx hb dX12_nozzle_5 rfl (lv_at hl 2 rfl) ?_
  refine lv_i2l hx hb dX12_nozzle_6 rfl ?_
  refine lv_lconst (v := 1) hx hb dX12_nozzle_7 (by decide) ?_
  refine lv_ldc2 (v := 1000) hx hb E.2.2.2.1 (E.2.2.2.2.1 _ kl_X12_168) dX12_nozzle_8 ?_
  refine k_i h (q_runS (As := [.long y.toInt64, .long 1, .long 1000]) (rest := []) E h (c_X12_in l D cy a (fF σ 0 0) y.toInt64 1 1000) co_X12_in ml_X12_139 st_X12_in in_X12 rfl ok_X12_in rfl ⟨by decide, by decide⟩ hl.1 rfl (Nat.le_of_ble_eq_true rfl) dX12_nozzle_11 ⟨Nat.zero_le _, Nat.zero_le _⟩) (wM_fst cy a) (fun r11 τ11 H locs p11 h => ?_)
  rw [p11.1] at h
  have w11 : WI y 1 1000 r11 := p11.2.i rfl rfl
  refine lv_if_eq (tgt := 47) hx hb dX12_nozzle_14 (by decide) (fun c14 => ?_) (fun c14 => ?_)
  · refine lv_aload_n hx hb dX12_nozzle_47 rfl (lv_at hl 0 rfl) ?_
    refine lv_iconst (v := -1) hx hb dX12_nozzle_48 (by decide) ?_
    refine k_i h (q_runV (As := [.int (-1)]) (rest := []) E h (c_X12_told l D cy a (fF σ 0 0) (-1)) co_X12_told ml_X12_154 im_X12_told se_X12_told in_X12 (eM_0 cy a (fF σ 0 0)) rfl ok_X12_told rfl ⟨by decide, by decide⟩ hl.1 rfl (Nat.le_of_ble_eq_true rfl) dX12_nozzle_49 ⟨Nat.zero_le _, Nat.zero_le _⟩) (wM_fst cy a) (fun r49 τ49 H locs p49 h => ?_)
    refine t_i E h hr hk ?_ dX12_nozzle_52
    obtain ⟨v9, e9⟩ := p49.2
    have k9 : K mF mA σ τ49 := by rw [e9]; exact (K.rf.F 0 _ (by decide)).F 1 _ (by decide)
    exact ⟨KZ_of k9, g.kept k9⟩
  · refine lv_iload_n hx hb dX12_nozzle_17 rfl (lv_at hl 3 rfl) ?_
    refine lv_i2l hx hb dX12_nozzle_18 rfl ?_
    refine lv_lconst (v := 0) hx hb dX12_nozzle_19 (by decide) ?_
    refine lv_ldc2 (v := 2) hx hb E.2.2.2.1 (E.2.2.2.2.1 _ kl_X12_184) dX12_nozzle_20 ?_
    refine k_i h (q_runS (As := [.long w.toInt64, .long 0, .long 2]) (rest := []) E h (c_X12_in l D cy a (fF σ 0 0) w.toInt64 0 2) co_X12_in ml_X12_139 st_X12_in in_X12 rfl ok_X12_in rfl ⟨by decide, by decide⟩ hl.1 rfl (Nat.le_of_ble_eq_true rfl) dX12_nozzle_23 ⟨Nat.zero_le _, Nat.zero_le _⟩) (wM_fst cy a) (fun r23 τ23 H locs p23 h => ?_)
    rw [p23.1] at h
    refine lv_if_eq (tgt := 47) hx hb dX12_nozzle_26 (by decide) (fun c26 => ?_) (fun c26 => ?_)
    · refine lv_aload_n hx hb dX12_nozzle_47 rfl (lv_at hl 0 rfl) ?_
      refine lv_iconst (v := -1) hx hb dX12_nozzle_48 (by decide) ?_
      refine k_i h (q_runV (As := [.int (-1)]) (rest := []) E h (c_X12_told l D cy a (fF σ 0 0) (-1)) co_X12_told ml_X12_154 im_X12_told se_X12_told in_X12 (eM_0 cy a (fF σ 0 0)) rfl ok_X12_told rfl ⟨by decide, by decide⟩ hl.1 rfl (Nat.le_of_ble_eq_true rfl) dX12_nozzle_49 ⟨Nat.zero_le _, Nat.zero_le _⟩) (wM_fst cy a) (fun r49 τ49 H locs p49 h => ?_)
      refine t_i E h hr hk ?_ dX12_nozzle_52
      obtain ⟨v9, e9⟩ := p49.2
      have k9 : K mF mA σ τ49 := by rw [e9]; exact (K.rf.F 0 _ (by decide)).F 1 _ (by decide)
      exact ⟨KZ_of k9, g.kept k9⟩
    · refine lv_iload_n hx hb dX12_nozzle_29 rfl (lv_at hl 3 rfl) ?_
      refine lv_iconst (v := 2) hx hb dX12_nozzle_30 (by decide) ?_
      refine lv_icmp_ge (tgt := 53) hx hb dX12_nozzle_31 (by decide) (fun c31 => ?_) (fun c31 => ?_)
      · refine lv_aload_n hx hb dX12_nozzle_53 rfl (lv_at hl 0 rfl) ?_
        refine lv_iload_n hx hb dX12_nozzle_54 rfl (lv_at hl 1 rfl) ?_
        refine k_i h (q_runV (As := [.int x]) (rest := []) E h (c_X12_isCastle l D cy a (fF σ 0 0) x nc hc (by omega)) co_X12_isCastle ml_X12_188 im_X12_isCastle se_X12_isCastle in_X12 (eM_0 cy a (fF σ 0 0)) rfl ok_X12_isCastle rfl ⟨by decide, by decide⟩ hl.1 rfl (Nat.le_of_ble_eq_true rfl) dX12_nozzle_55 ⟨Nat.zero_le _, Nat.zero_le _⟩) (wM_fst cy a) (fun r55 τ55 H locs p55 h => ?_)
        rw [p55.1] at h
        refine lv_if_eq (tgt := 75) hx hb dX12_nozzle_58 (by decide) (fun c58 => ?_) (fun c58 => ?_)
        · refine lv_aload_n hx hb dX12_nozzle_75 rfl (lv_at hl 0 rfl) ?_
          refine lv_bipush (v := -2) hx hb dX12_nozzle_76 (by decide) ?_
          refine k_i h (q_runV (As := [.int (-2)]) (rest := []) E h (c_X12_told l D cy a (fF σ 0 0) (-2)) co_X12_told ml_X12_154 im_X12_told se_X12_told in_X12 (eM_0 cy a (fF σ 0 0)) rfl ok_X12_told rfl ⟨by decide, by decide⟩ hl.1 rfl (Nat.le_of_ble_eq_true rfl) dX12_nozzle_78 ⟨Nat.zero_le _, Nat.zero_le _⟩) (wM_fst cy a) (fun r78 τ78 H locs p78 h => ?_)
          refine t_i E h hr hk ?_ dX12_nozzle_81
          obtain ⟨v9, e9⟩ := p78.2
          have k9 : K mF mA σ τ78 := by rw [e9]; exact (K.rf.F 0 _ (by decide)).F 1 _ (by decide)
          exact ⟨KZ_of k9, g.kept k9⟩
        · refine lv_iload_n hx hb dX12_nozzle_61 rfl (lv_at hl 3 rfl) ?_
          refine lv_iconst (v := 2) hx hb dX12_nozzle_62 (by decide) ?_
          refine lv_icmp_ne (tgt := 82) hx hb dX12_nozzle_63 (by decide) (fun c63 => ?_) (fun c63 => ?_)
          · refine lv_aload_n hx hb dX12_nozzle_82 rfl (lv_at hl 0 rfl) ?_
            refine lv_aload_n hx hb dX12_nozzle_83 rfl (lv_at hl 0 rfl) ?_
            refine r_get E h 2 (v := .int (nI nn)) (eM_0 cy a (fF σ 0 0)) rfl fw_X12 (by decide) fl_X12_191 (congrArg (fun z => some (Value.int z)) hnow) dX12_nozzle_84 ?_
            refine lv_iconst (v := 4) hx hb dX12_nozzle_87 (by decide) ?_
            refine k_i h (q_runV (As := [.int (nI nn), .int 4]) (rest := []) E h (c_X12_lawOf l D cy a (fF σ 0 0) (nI nn) 4 nl hla hl3) co_X12_lawOf ml_X12_194 im_X12_lawOf se_X12_lawOf in_X12 (eM_0 cy a (fF σ 0 0)) rfl ok_X12_lawOf rfl ⟨by decide, by decide⟩ hl.1 rfl (Nat.le_of_ble_eq_true rfl) dX12_nozzle_88 ⟨Nat.zero_le _, Nat.zero_le _⟩) (wM_fst cy a) (fun r88 τ88 H locs p88 h => ?_)
            rw [p88.1] at h
            refine lv_istore (lv' := [(5, .int r88), (0, .ref (a 0)), (1, .int x), (2, .int y), (3, .int w), (4, .int v)]) hx hb dX12_nozzle_91 hl (by decide) rfl (fun ls hl => ?_)
            refine lv_iload_n hx hb dX12_nozzle_93 rfl (lv_at hl 4 rfl) ?_
            refine lv_iconst (v := 2) hx hb dX12_nozzle_94 (by decide) ?_
            refine lv_icmp_ne (tgt := 117) hx hb dX12_nozzle_95 (by decide) (fun c95 => ?_) (fun c95 => ?_)
            · refine lv_aload_n hx hb dX12_nozzle_117 rfl (lv_at hl 1 rfl) ?_
              refine r_get E h 18 (v := .int (nI nz)) (eM_0 cy a (fF σ 0 0)) rfl fw_X12 (by decide) fl_X12_149 (congrArg (fun z => some (Value.int z)) hz) dX12_nozzle_118 ?_
              refine lv_bipush (v := 80) hx hb dX12_nozzle_121 (by decide) ?_
              refine lv_icmp_ne (tgt := 133) hx hb dX12_nozzle_123 (by decide) (fun c123 => ?_) (fun c123 => ?_)
              · have c123 : nz ≠ 80 := n_ne (k := 80) c123
                refine lv_aload_n hx hb dX12_nozzle_133 rfl (lv_at hl 1 rfl) ?_
                refine r_get E h 19 (v := .ref (a 11)) (eM_0 cy a (fF σ 0 0)) rfl fw_X12 (by decide) fl_X12_40 rfl dX12_nozzle_134 ?_
                refine lv_aload_n hx hb dX12_nozzle_137 rfl (lv_at hl 1 rfl) ?_
                refine r_get E h 18 (v := .int (nI nz)) (eM_0 cy a (fF σ 0 0)) rfl fw_X12 (by decide) fl_X12_149 (congrArg (fun z => some (Value.int z)) hz) dX12_nozzle_138 ?_
                refine lv_iload_n hx hb dX12_nozzle_141 rfl (lv_at hl 2 rfl) ?_
                refine r_iastN E h (f := σ.2.1 11) (eM_11 cy a (fF σ 0 0)) (j := nz) (by omega) (by decide) (qM_11 cy a (fF σ 0 0) (upd (σ.2.1 11) nz x)) dX12_nozzle_142 (fun H locs h => ?_)
                refine lv_aload_n hx hb dX12_nozzle_143 rfl (lv_at hl 1 rfl) ?_
                refine r_get E h 20 (v := .ref (a 12)) (eM_0 cy a (fR (fF σ 0 0) 11 (upd (σ.2.1 11) nz x))) rfl fw_X12 (by decide) fl_X12_43 rfl dX12_nozzle_144 ?_
                refine lv_aload_n hx hb dX12_nozzle_147 rfl (lv_at hl 1 rfl) ?_
                refine r_get E h 18 (v := .int (nI nz)) (eM_0 cy a (fR (fF σ 0 0) 11 (upd (σ.2.1 11) nz x))) rfl fw_X12 (by decide) fl_X12_149 (congrArg (fun z => some (Value.int z)) hz) dX12_nozzle_148 ?_
                refine lv_iload_n hx hb dX12_nozzle_151 rfl (lv_at hl 3 rfl) ?_
                refine r_iastN E h (f := σ.2.1 12) (eM_12 cy a (fR (fF σ 0 0) 11 (upd (σ.2.1 11) nz x))) (j := nz) (by omega) (by decide) (qM_12 cy a (fR (fF σ 0 0) 11 (upd (σ.2.1 11) nz x)) (upd (σ.2.1 12) nz y)) dX12_nozzle_152 (fun H locs h => ?_)
                refine lv_aload_n hx hb dX12_nozzle_153 rfl (lv_at hl 1 rfl) ?_
                refine r_get E h 21 (v := .ref (a 13)) (eM_0 cy a (fR (fR (fF σ 0 0) 11 (upd (σ.2.1 11) nz x)) 12 (upd (σ.2.1 12) nz y))) rfl fw_X12 (by decide) fl_X12_46 rfl dX12_nozzle_154 ?_
                refine lv_aload_n hx hb dX12_nozzle_157 rfl (lv_at hl 1 rfl) ?_
                refine r_get E h 18 (v := .int (nI nz)) (eM_0 cy a (fR (fR (fF σ 0 0) 11 (upd (σ.2.1 11) nz x)) 12 (upd (σ.2.1 12) nz y))) rfl fw_X12 (by decide) fl_X12_149 (congrArg (fun z => some (Value.int z)) hz) dX12_nozzle_158 ?_
                refine lv_iload_n hx hb dX12_nozzle_161 rfl (lv_at hl 4 rfl) ?_
                refine r_iastN E h (f := σ.2.1 13) (eM_13 cy a (fR (fR (fF σ 0 0) 11 (upd (σ.2.1 11) nz x)) 12 (upd (σ.2.1 12) nz y))) (j := nz) (by omega) (by decide) (qM_13 cy a (fR (fR (fF σ 0 0) 11 (upd (σ.2.1 11) nz x)) 12 (upd (σ.2.1 12) nz y)) (upd (σ.2.1 13) nz w)) dX12_nozzle_162 (fun H locs h => ?_)
                refine lv_aload_n hx hb dX12_nozzle_163 rfl (lv_at hl 1 rfl) ?_
                refine r_get E h 22 (v := .ref (a 14)) (eM_0 cy a (fR (fR (fR (fF σ 0 0) 11 (upd (σ.2.1 11) nz x)) 12 (upd (σ.2.1 12) nz y)) 13 (upd (σ.2.1 13) nz w))) rfl fw_X12 (by decide) fl_X12_49 rfl dX12_nozzle_164 ?_
                refine lv_aload_n hx hb dX12_nozzle_167 rfl (lv_at hl 1 rfl) ?_
                refine r_get E h 18 (v := .int (nI nz)) (eM_0 cy a (fR (fR (fR (fF σ 0 0) 11 (upd (σ.2.1 11) nz x)) 12 (upd (σ.2.1 12) nz y)) 13 (upd (σ.2.1 13) nz w))) rfl fw_X12 (by decide) fl_X12_149 (congrArg (fun z => some (Value.int z)) hz) dX12_nozzle_168 ?_
                refine lv_iload hx hb dX12_nozzle_171 (lv_at hl 5 rfl) ?_
                refine r_iastN E h (f := σ.2.1 14) (eM_14 cy a (fR (fR (fR (fF σ 0 0) 11 (upd (σ.2.1 11) nz x)) 12 (upd (σ.2.1 12) nz y)) 13 (upd (σ.2.1 13) nz w))) (j := nz) (by omega) (by decide) (qM_14 cy a (fR (fR (fR (fF σ 0 0) 11 (upd (σ.2.1 11) nz x)) 12 (upd (σ.2.1 12) nz y)) 13 (upd (σ.2.1 13) nz w)) (upd (σ.2.1 14) nz v)) dX12_nozzle_173 (fun H locs h => ?_)
                refine lv_aload_n hx hb dX12_nozzle_174 rfl (lv_at hl 1 rfl) ?_
                refine r_get E h 23 (v := .ref (a 15)) (eM_0 cy a (fR (fR (fR (fR (fF σ 0 0) 11 (upd (σ.2.1 11) nz x)) 12 (upd (σ.2.1 12) nz y)) 13 (upd (σ.2.1 13) nz w)) 14 (upd (σ.2.1 14) nz v))) rfl fw_X12 (by decide) fl_X12_52 rfl dX12_nozzle_175 ?_
                refine lv_aload_n hx hb dX12_nozzle_178 rfl (lv_at hl 1 rfl) ?_
                refine r_get E h 18 (v := .int (nI nz)) (eM_0 cy a (fR (fR (fR (fR (fF σ 0 0) 11 (upd (σ.2.1 11) nz x)) 12 (upd (σ.2.1 12) nz y)) 13 (upd (σ.2.1 13) nz w)) 14 (upd (σ.2.1 14) nz v))) rfl fw_X12 (by decide) fl_X12_149 (congrArg (fun z => some (Value.int z)) hz) dX12_nozzle_179 ?_
                refine lv_aload_n hx hb dX12_nozzle_182 rfl (lv_at hl 1 rfl) ?_
                refine r_get E h 2 (v := .int (nI nn)) (eM_0 cy a (fR (fR (fR (fR (fF σ 0 0) 11 (upd (σ.2.1 11) nz x)) 12 (upd (σ.2.1 12) nz y)) 13 (upd (σ.2.1 13) nz w)) 14 (upd (σ.2.1 14) nz v))) rfl fw_X12 (by decide) fl_X12_191 (congrArg (fun z => some (Value.int z)) hnow) dX12_nozzle_183 ?_
                refine r_iastN E h (f := σ.2.1 15) (eM_15 cy a (fR (fR (fR (fR (fF σ 0 0) 11 (upd (σ.2.1 11) nz x)) 12 (upd (σ.2.1 12) nz y)) 13 (upd (σ.2.1 13) nz w)) 14 (upd (σ.2.1 14) nz v))) (j := nz) (by omega) (by decide) (qM_15 cy a (fR (fR (fR (fR (fF σ 0 0) 11 (upd (σ.2.1 11) nz x)) 12 (upd (σ.2.1 12) nz y)) 13 (upd (σ.2.1 13) nz w)) 14 (upd (σ.2.1 14) nz v)) (upd (σ.2.1 15) nz (nI nn))) dX12_nozzle_186 (fun H locs h => ?_)
                refine lv_aload_n hx hb dX12_nozzle_187 rfl (lv_at hl 1 rfl) ?_
                refine r_get E h 24 (v := .ref (a 16)) (eM_0 cy a (fR (fR (fR (fR (fR (fF σ 0 0) 11 (upd (σ.2.1 11) nz x)) 12 (upd (σ.2.1 12) nz y)) 13 (upd (σ.2.1 13) nz w)) 14 (upd (σ.2.1 14) nz v)) 15 (upd (σ.2.1 15) nz (nI nn)))) rfl fw_X12 (by decide) fl_X12_55 rfl dX12_nozzle_188 ?_
                refine lv_aload_n hx hb dX12_nozzle_191 rfl (lv_at hl 1 rfl) ?_
                refine r_get E h 18 (v := .int (nI nz)) (eM_0 cy a (fR (fR (fR (fR (fR (fF σ 0 0) 11 (upd (σ.2.1 11) nz x)) 12 (upd (σ.2.1 12) nz y)) 13 (upd (σ.2.1 13) nz w)) 14 (upd (σ.2.1 14) nz v)) 15 (upd (σ.2.1 15) nz (nI nn)))) rfl fw_X12 (by decide) fl_X12_149 (congrArg (fun z => some (Value.int z)) hz) dX12_nozzle_192 ?_
                refine lv_sipush (v := 1000) hx hb dX12_nozzle_195 (by decide) ?_
                refine r_iastN E h (f := σ.2.1 16) (eM_16 cy a (fR (fR (fR (fR (fR (fF σ 0 0) 11 (upd (σ.2.1 11) nz x)) 12 (upd (σ.2.1 12) nz y)) 13 (upd (σ.2.1 13) nz w)) 14 (upd (σ.2.1 14) nz v)) 15 (upd (σ.2.1 15) nz (nI nn)))) (j := nz) (by omega) (by decide) (qM_16 cy a (fR (fR (fR (fR (fR (fF σ 0 0) 11 (upd (σ.2.1 11) nz x)) 12 (upd (σ.2.1 12) nz y)) 13 (upd (σ.2.1 13) nz w)) 14 (upd (σ.2.1 14) nz v)) 15 (upd (σ.2.1 15) nz (nI nn))) (upd (σ.2.1 16) nz 1000)) dX12_nozzle_198 (fun H locs h => ?_)
                refine lv_aload_n hx hb dX12_nozzle_199 rfl (lv_at hl 1 rfl) ?_
                refine lv_dup hx hb dX12_nozzle_200 rfl ?_
                refine r_get E h 18 (v := .int (nI nz)) (eM_0 cy a (fR (fR (fR (fR (fR (fR (fF σ 0 0) 11 (upd (σ.2.1 11) nz x)) 12 (upd (σ.2.1 12) nz y)) 13 (upd (σ.2.1 13) nz w)) 14 (upd (σ.2.1 14) nz v)) 15 (upd (σ.2.1 15) nz (nI nn))) 16 (upd (σ.2.1 16) nz 1000))) rfl fw_X12 (by decide) fl_X12_149 (congrArg (fun z => some (Value.int z)) hz) dX12_nozzle_201 ?_
                refine lv_iconst (v := 1) hx hb dX12_nozzle_204 (by decide) ?_
                refine n_add (j := nz) (k := 1) hx hb dX12_nozzle_205 ?_
                refine r_put E h 18 (ty := .int) (eM_0 cy a (fR (fR (fR (fR (fR (fR (fF σ 0 0) 11 (upd (σ.2.1 11) nz x)) 12 (upd (σ.2.1 12) nz y)) 13 (upd (σ.2.1 13) nz w)) 14 (upd (σ.2.1 14) nz v)) 15 (upd (σ.2.1 15) nz (nI nn))) 16 (upd (σ.2.1 16) nz 1000))) rfl fw_X12 tyX12_ok nmX12 (by decide) fl_X12_149 rfl (by decide +kernel) rfl rfl (Nat.le_of_ble_eq_true rfl) (sM_8 cy a (fR (fR (fR (fR (fR (fR (fF σ 0 0) 11 (upd (σ.2.1 11) nz x)) 12 (upd (σ.2.1 12) nz y)) 13 (upd (σ.2.1 13) nz w)) 14 (upd (σ.2.1 14) nz v)) 15 (upd (σ.2.1 15) nz (nI nn))) 16 (upd (σ.2.1 16) nz 1000)) (nI (nz + 1))) dX12_nozzle_206 (fun H locs h => ?_)
                refine lv_aload_n hx hb dX12_nozzle_209 rfl (lv_at hl 1 rfl) ?_
                refine lv_aload_n hx hb dX12_nozzle_210 rfl (lv_at hl 1 rfl) ?_
                refine r_get E h 18 (v := .int (nI (nz + 1))) (eM_0 cy a (fF (fR (fR (fR (fR (fR (fR (fF σ 0 0) 11 (upd (σ.2.1 11) nz x)) 12 (upd (σ.2.1 12) nz y)) 13 (upd (σ.2.1 13) nz w)) 14 (upd (σ.2.1 14) nz v)) 15 (upd (σ.2.1 15) nz (nI nn))) 16 (upd (σ.2.1 16) nz 1000)) 8 (nI (nz + 1)))) rfl fw_X12 (by decide) fl_X12_149 rfl dX12_nozzle_211 ?_
                refine lv_iconst (v := 1) hx hb dX12_nozzle_214 (by decide) ?_
                refine n_sub1 hx hb dX12_nozzle_215 ?_
                refine k_i h (q_runV (As := [.int (nI nz)]) (rest := []) E h (c_X12_told l D cy a (fF (fR (fR (fR (fR (fR (fR (fF σ 0 0) 11 (upd (σ.2.1 11) nz x)) 12 (upd (σ.2.1 12) nz y)) 13 (upd (σ.2.1 13) nz w)) 14 (upd (σ.2.1 14) nz v)) 15 (upd (σ.2.1 15) nz (nI nn))) 16 (upd (σ.2.1 16) nz 1000)) 8 (nI (nz + 1))) (nI nz)) co_X12_told ml_X12_154 im_X12_told se_X12_told in_X12 (eM_0 cy a (fF (fR (fR (fR (fR (fR (fR (fF σ 0 0) 11 (upd (σ.2.1 11) nz x)) 12 (upd (σ.2.1 12) nz y)) 13 (upd (σ.2.1 13) nz w)) 14 (upd (σ.2.1 14) nz v)) 15 (upd (σ.2.1 15) nz (nI nn))) 16 (upd (σ.2.1 16) nz 1000)) 8 (nI (nz + 1)))) rfl ok_X12_told rfl ⟨by decide, by decide⟩ hl.1 rfl (Nat.le_of_ble_eq_true rfl) dX12_nozzle_216 ⟨Nat.zero_le _, Nat.zero_le _⟩) (wM_fst cy a) (fun r216 τ216 H locs p216 h => ?_)
                refine t_i E h hr hk ?_ dX12_nozzle_219
                obtain ⟨v9, e9⟩ := p216.2
                have k9 : K [2, 3, 4, 5, 6, 7, 9, 10, 11, 13] [1, 2, 3, 4, 5, 6, 7, 8, 9, 10, 17, 18, 19, 20, 21, 22, 23, 24, 25, 26, 27, 29] σ τ216 := by rw [e9]; exact (((((((((K.rf.F 0 _ (by decide)).R 11 _ (by decide)).R 12 _ (by decide)).R 13 _ (by decide)).R 14 _ (by decide)).R 15 _ (by decide)).R 16 _ (by decide)).F 8 _ (by decide)).F 1 _ (by decide))
                exact ⟨k9, gm_no hz (by omega) (by rw [e9]; rfl) (by rw [e9]; rfl) (wt_of (w11.t c14) (by decide) (by decide)) g k9⟩
              · refine lv_aload_n hx hb dX12_nozzle_126 rfl (lv_at hl 1 rfl) ?_
                refine lv_bipush (v := -5) hx hb dX12_nozzle_127 (by decide) ?_
                refine k_i h (q_runV (As := [.int (-5)]) (rest := []) E h (c_X12_told l D cy a (fF σ 0 0) (-5)) co_X12_told ml_X12_154 im_X12_told se_X12_told in_X12 (eM_0 cy a (fF σ 0 0)) rfl ok_X12_told rfl ⟨by decide, by decide⟩ hl.1 rfl (Nat.le_of_ble_eq_true rfl) dX12_nozzle_129 ⟨Nat.zero_le _, Nat.zero_le _⟩) (wM_fst cy a) (fun r129 τ129 H locs p129 h => ?_)
                refine t_i E h hr hk ?_ dX12_nozzle_132
                obtain ⟨v9, e9⟩ := p129.2
                have k9 : K mF mA σ τ129 := by rw [e9]; exact (K.rf.F 0 _ (by decide)).F 1 _ (by decide)
                exact ⟨KZ_of k9, g.kept k9⟩
            · refine lv_iload hx hb dX12_nozzle_98 (lv_at hl 0 rfl) ?_
              refine lv_iconst (v := -1) hx hb dX12_nozzle_100 (by decide) ?_
              refine lv_icmp_eq (tgt := 117) hx hb dX12_nozzle_101 (by decide) (fun c101 => ?_) (fun c101 => ?_)
              · refine lv_aload_n hx hb dX12_nozzle_117 rfl (lv_at hl 1 rfl) ?_
                refine r_get E h 18 (v := .int (nI nz)) (eM_0 cy a (fF σ 0 0)) rfl fw_X12 (by decide) fl_X12_149 (congrArg (fun z => some (Value.int z)) hz) dX12_nozzle_118 ?_
                refine lv_bipush (v := 80) hx hb dX12_nozzle_121 (by decide) ?_
                refine lv_icmp_ne (tgt := 133) hx hb dX12_nozzle_123 (by decide) (fun c123 => ?_) (fun c123 => ?_)
                · have c123 : nz ≠ 80 := n_ne (k := 80) c123
                  refine lv_aload_n hx hb dX12_nozzle_133 rfl (lv_at hl 1 rfl) ?_
                  refine r_get E h 19 (v := .ref (a 11)) (eM_0 cy a (fF σ 0 0)) rfl fw_X12 (by decide) fl_X12_40 rfl dX12_nozzle_134 ?_
                  refine lv_aload_n hx hb dX12_nozzle_137 rfl (lv_at hl 1 rfl) ?_
                  refine r_get E h 18 (v := .int (nI nz)) (eM_0 cy a (fF σ 0 0)) rfl fw_X12 (by decide) fl_X12_149 (congrArg (fun z => some (Value.int z)) hz) dX12_nozzle_138 ?_
                  refine lv_iload_n hx hb dX12_nozzle_141 rfl (lv_at hl 2 rfl) ?_
                  refine r_iastN E h (f := σ.2.1 11) (eM_11 cy a (fF σ 0 0)) (j := nz) (by omega) (by decide) (qM_11 cy a (fF σ 0 0) (upd (σ.2.1 11) nz x)) dX12_nozzle_142 (fun H locs h => ?_)
                  refine lv_aload_n hx hb dX12_nozzle_143 rfl (lv_at hl 1 rfl) ?_
                  refine r_get E h 20 (v := .ref (a 12)) (eM_0 cy a (fR (fF σ 0 0) 11 (upd (σ.2.1 11) nz x))) rfl fw_X12 (by decide) fl_X12_43 rfl dX12_nozzle_144 ?_
                  refine lv_aload_n hx hb dX12_nozzle_147 rfl (lv_at hl 1 rfl) ?_
                  refine r_get E h 18 (v := .int (nI nz)) (eM_0 cy a (fR (fF σ 0 0) 11 (upd (σ.2.1 11) nz x))) rfl fw_X12 (by decide) fl_X12_149 (congrArg (fun z => some (Value.int z)) hz) dX12_nozzle_148 ?_
                  refine lv_iload_n hx hb dX12_nozzle_151 rfl (lv_at hl 3 rfl) ?_
                  refine r_iastN E h (f := σ.2.1 12) (eM_12 cy a (fR (fF σ 0 0) 11 (upd (σ.2.1 11) nz x))) (j := nz) (by omega) (by decide) (qM_12 cy a (fR (fF σ 0 0) 11 (upd (σ.2.1 11) nz x)) (upd (σ.2.1 12) nz y)) dX12_nozzle_152 (fun H locs h => ?_)
                  refine lv_aload_n hx hb dX12_nozzle_153 rfl (lv_at hl 1 rfl) ?_
                  refine r_get E h 21 (v := .ref (a 13)) (eM_0 cy a (fR (fR (fF σ 0 0) 11 (upd (σ.2.1 11) nz x)) 12 (upd (σ.2.1 12) nz y))) rfl fw_X12 (by decide) fl_X12_46 rfl dX12_nozzle_154 ?_
                  refine lv_aload_n hx hb dX12_nozzle_157 rfl (lv_at hl 1 rfl) ?_
                  refine r_get E h 18 (v := .int (nI nz)) (eM_0 cy a (fR (fR (fF σ 0 0) 11 (upd (σ.2.1 11) nz x)) 12 (upd (σ.2.1 12) nz y))) rfl fw_X12 (by decide) fl_X12_149 (congrArg (fun z => some (Value.int z)) hz) dX12_nozzle_158 ?_
                  refine lv_iload_n hx hb dX12_nozzle_161 rfl (lv_at hl 4 rfl) ?_
                  refine r_iastN E h (f := σ.2.1 13) (eM_13 cy a (fR (fR (fF σ 0 0) 11 (upd (σ.2.1 11) nz x)) 12 (upd (σ.2.1 12) nz y))) (j := nz) (by omega) (by decide) (qM_13 cy a (fR (fR (fF σ 0 0) 11 (upd (σ.2.1 11) nz x)) 12 (upd (σ.2.1 12) nz y)) (upd (σ.2.1 13) nz w)) dX12_nozzle_162 (fun H locs h => ?_)
                  refine lv_aload_n hx hb dX12_nozzle_163 rfl (lv_at hl 1 rfl) ?_
                  refine r_get E h 22 (v := .ref (a 14)) (eM_0 cy a (fR (fR (fR (fF σ 0 0) 11 (upd (σ.2.1 11) nz x)) 12 (upd (σ.2.1 12) nz y)) 13 (upd (σ.2.1 13) nz w))) rfl fw_X12 (by decide) fl_X12_49 rfl dX12_nozzle_164 ?_
                  refine lv_aload_n hx hb dX12_nozzle_167 rfl (lv_at hl 1 rfl) ?_
                  refine r_get E h 18 (v := .int (nI nz)) (eM_0 cy a (fR (fR (fR (fF σ 0 0) 11 (upd (σ.2.1 11) nz x)) 12 (upd (σ.2.1 12) nz y)) 13 (upd (σ.2.1 13) nz w))) rfl fw_X12 (by decide) fl_X12_149 (congrArg (fun z => some (Value.int z)) hz) dX12_nozzle_168 ?_
                  refine lv_iload hx hb dX12_nozzle_171 (lv_at hl 5 rfl) ?_
                  refine r_iastN E h (f := σ.2.1 14) (eM_14 cy a (fR (fR (fR (fF σ 0 0) 11 (upd (σ.2.1 11) nz x)) 12 (upd (σ.2.1 12) nz y)) 13 (upd (σ.2.1 13) nz w))) (j := nz) (by omega) (by decide) (qM_14 cy a (fR (fR (fR (fF σ 0 0) 11 (upd (σ.2.1 11) nz x)) 12 (upd (σ.2.1 12) nz y)) 13 (upd (σ.2.1 13) nz w)) (upd (σ.2.1 14) nz v)) dX12_nozzle_173 (fun H locs h => ?_)
                  refine lv_aload_n hx hb dX12_nozzle_174 rfl (lv_at hl 1 rfl) ?_
                  refine r_get E h 23 (v := .ref (a 15)) (eM_0 cy a (fR (fR (fR (fR (fF σ 0 0) 11 (upd (σ.2.1 11) nz x)) 12 (upd (σ.2.1 12) nz y)) 13 (upd (σ.2.1 13) nz w)) 14 (upd (σ.2.1 14) nz v))) rfl fw_X12 (by decide) fl_X12_52 rfl dX12_nozzle_175 ?_
                  refine lv_aload_n hx hb dX12_nozzle_178 rfl (lv_at hl 1 rfl) ?_
                  refine r_get E h 18 (v := .int (nI nz)) (eM_0 cy a (fR (fR (fR (fR (fF σ 0 0) 11 (upd (σ.2.1 11) nz x)) 12 (upd (σ.2.1 12) nz y)) 13 (upd (σ.2.1 13) nz w)) 14 (upd (σ.2.1 14) nz v))) rfl fw_X12 (by decide) fl_X12_149 (congrArg (fun z => some (Value.int z)) hz) dX12_nozzle_179 ?_
                  refine lv_aload_n hx hb dX12_nozzle_182 rfl (lv_at hl 1 rfl) ?_
                  refine r_get E h 2 (v := .int (nI nn)) (eM_0 cy a (fR (fR (fR (fR (fF σ 0 0) 11 (upd (σ.2.1 11) nz x)) 12 (upd (σ.2.1 12) nz y)) 13 (upd (σ.2.1 13) nz w)) 14 (upd (σ.2.1 14) nz v))) rfl fw_X12 (by decide) fl_X12_191 (congrArg (fun z => some (Value.int z)) hnow) dX12_nozzle_183 ?_
                  refine r_iastN E h (f := σ.2.1 15) (eM_15 cy a (fR (fR (fR (fR (fF σ 0 0) 11 (upd (σ.2.1 11) nz x)) 12 (upd (σ.2.1 12) nz y)) 13 (upd (σ.2.1 13) nz w)) 14 (upd (σ.2.1 14) nz v))) (j := nz) (by omega) (by decide) (qM_15 cy a (fR (fR (fR (fR (fF σ 0 0) 11 (upd (σ.2.1 11) nz x)) 12 (upd (σ.2.1 12) nz y)) 13 (upd (σ.2.1 13) nz w)) 14 (upd (σ.2.1 14) nz v)) (upd (σ.2.1 15) nz (nI nn))) dX12_nozzle_186 (fun H locs h => ?_)
                  refine lv_aload_n hx hb dX12_nozzle_187 rfl (lv_at hl 1 rfl) ?_
                  refine r_get E h 24 (v := .ref (a 16)) (eM_0 cy a (fR (fR (fR (fR (fR (fF σ 0 0) 11 (upd (σ.2.1 11) nz x)) 12 (upd (σ.2.1 12) nz y)) 13 (upd (σ.2.1 13) nz w)) 14 (upd (σ.2.1 14) nz v)) 15 (upd (σ.2.1 15) nz (nI nn)))) rfl fw_X12 (by decide) fl_X12_55 rfl dX12_nozzle_188 ?_
                  refine lv_aload_n hx hb dX12_nozzle_191 rfl (lv_at hl 1 rfl) ?_
                  refine r_get E h 18 (v := .int (nI nz)) (eM_0 cy a (fR (fR (fR (fR (fR (fF σ 0 0) 11 (upd (σ.2.1 11) nz x)) 12 (upd (σ.2.1 12) nz y)) 13 (upd (σ.2.1 13) nz w)) 14 (upd (σ.2.1 14) nz v)) 15 (upd (σ.2.1 15) nz (nI nn)))) rfl fw_X12 (by decide) fl_X12_149 (congrArg (fun z => some (Value.int z)) hz) dX12_nozzle_192 ?_
                  refine lv_sipush (v := 1000) hx hb dX12_nozzle_195 (by decide) ?_
                  refine r_iastN E h (f := σ.2.1 16) (eM_16 cy a (fR (fR (fR (fR (fR (fF σ 0 0) 11 (upd (σ.2.1 11) nz x)) 12 (upd (σ.2.1 12) nz y)) 13 (upd (σ.2.1 13) nz w)) 14 (upd (σ.2.1 14) nz v)) 15 (upd (σ.2.1 15) nz (nI nn)))) (j := nz) (by omega) (by decide) (qM_16 cy a (fR (fR (fR (fR (fR (fF σ 0 0) 11 (upd (σ.2.1 11) nz x)) 12 (upd (σ.2.1 12) nz y)) 13 (upd (σ.2.1 13) nz w)) 14 (upd (σ.2.1 14) nz v)) 15 (upd (σ.2.1 15) nz (nI nn))) (upd (σ.2.1 16) nz 1000)) dX12_nozzle_198 (fun H locs h => ?_)
                  refine lv_aload_n hx hb dX12_nozzle_199 rfl (lv_at hl 1 rfl) ?_
                  refine lv_dup hx hb dX12_nozzle_200 rfl ?_
                  refine r_get E h 18 (v := .int (nI nz)) (eM_0 cy a (fR (fR (fR (fR (fR (fR (fF σ 0 0) 11 (upd (σ.2.1 11) nz x)) 12 (upd (σ.2.1 12) nz y)) 13 (upd (σ.2.1 13) nz w)) 14 (upd (σ.2.1 14) nz v)) 15 (upd (σ.2.1 15) nz (nI nn))) 16 (upd (σ.2.1 16) nz 1000))) rfl fw_X12 (by decide) fl_X12_149 (congrArg (fun z => some (Value.int z)) hz) dX12_nozzle_201 ?_
                  refine lv_iconst (v := 1) hx hb dX12_nozzle_204 (by decide) ?_
                  refine n_add (j := nz) (k := 1) hx hb dX12_nozzle_205 ?_
                  refine r_put E h 18 (ty := .int) (eM_0 cy a (fR (fR (fR (fR (fR (fR (fF σ 0 0) 11 (upd (σ.2.1 11) nz x)) 12 (upd (σ.2.1 12) nz y)) 13 (upd (σ.2.1 13) nz w)) 14 (upd (σ.2.1 14) nz v)) 15 (upd (σ.2.1 15) nz (nI nn))) 16 (upd (σ.2.1 16) nz 1000))) rfl fw_X12 tyX12_ok nmX12 (by decide) fl_X12_149 rfl (by decide +kernel) rfl rfl (Nat.le_of_ble_eq_true rfl) (sM_8 cy a (fR (fR (fR (fR (fR (fR (fF σ 0 0) 11 (upd (σ.2.1 11) nz x)) 12 (upd (σ.2.1 12) nz y)) 13 (upd (σ.2.1 13) nz w)) 14 (upd (σ.2.1 14) nz v)) 15 (upd (σ.2.1 15) nz (nI nn))) 16 (upd (σ.2.1 16) nz 1000)) (nI (nz + 1))) dX12_nozzle_206 (fun H locs h => ?_)
                  refine lv_aload_n hx hb dX12_nozzle_209 rfl (lv_at hl 1 rfl) ?_
                  refine lv_aload_n hx hb dX12_nozzle_210 rfl (lv_at hl 1 rfl) ?_
                  refine r_get E h 18 (v := .int (nI (nz + 1))) (eM_0 cy a (fF (fR (fR (fR (fR (fR (fR (fF σ 0 0) 11 (upd (σ.2.1 11) nz x)) 12 (upd (σ.2.1 12) nz y)) 13 (upd (σ.2.1 13) nz w)) 14 (upd (σ.2.1 14) nz v)) 15 (upd (σ.2.1 15) nz (nI nn))) 16 (upd (σ.2.1 16) nz 1000)) 8 (nI (nz + 1)))) rfl fw_X12 (by decide) fl_X12_149 rfl dX12_nozzle_211 ?_
                  refine lv_iconst (v := 1) hx hb dX12_nozzle_214 (by decide) ?_
                  refine n_sub1 hx hb dX12_nozzle_215 ?_
                  refine k_i h (q_runV (As := [.int (nI nz)]) (rest := []) E h (c_X12_told l D cy a (fF (fR (fR (fR (fR (fR (fR (fF σ 0 0) 11 (upd (σ.2.1 11) nz x)) 12 (upd (σ.2.1 12) nz y)) 13 (upd (σ.2.1 13) nz w)) 14 (upd (σ.2.1 14) nz v)) 15 (upd (σ.2.1 15) nz (nI nn))) 16 (upd (σ.2.1 16) nz 1000)) 8 (nI (nz + 1))) (nI nz)) co_X12_told ml_X12_154 im_X12_told se_X12_told in_X12 (eM_0 cy a (fF (fR (fR (fR (fR (fR (fR (fF σ 0 0) 11 (upd (σ.2.1 11) nz x)) 12 (upd (σ.2.1 12) nz y)) 13 (upd (σ.2.1 13) nz w)) 14 (upd (σ.2.1 14) nz v)) 15 (upd (σ.2.1 15) nz (nI nn))) 16 (upd (σ.2.1 16) nz 1000)) 8 (nI (nz + 1)))) rfl ok_X12_told rfl ⟨by decide, by decide⟩ hl.1 rfl (Nat.le_of_ble_eq_true rfl) dX12_nozzle_216 ⟨Nat.zero_le _, Nat.zero_le _⟩) (wM_fst cy a) (fun r216 τ216 H locs p216 h => ?_)
                  refine t_i E h hr hk ?_ dX12_nozzle_219
                  obtain ⟨v9, e9⟩ := p216.2
                  have k9 : K [2, 3, 4, 5, 6, 7, 9, 10, 11, 13] [1, 2, 3, 4, 5, 6, 7, 8, 9, 10, 17, 18, 19, 20, 21, 22, 23, 24, 25, 26, 27, 29] σ τ216 := by rw [e9]; exact (((((((((K.rf.F 0 _ (by decide)).R 11 _ (by decide)).R 12 _ (by decide)).R 13 _ (by decide)).R 14 _ (by decide)).R 15 _ (by decide)).R 16 _ (by decide)).F 8 _ (by decide)).F 1 _ (by decide))
                  exact ⟨k9, gm_no hz (by omega) (by rw [e9]; rfl) (by rw [e9]; rfl) (wt_of (w11.t c14) (by decide) (by decide)) g k9⟩
                · refine lv_aload_n hx hb dX12_nozzle_126 rfl (lv_at hl 1 rfl) ?_
                  refine lv_bipush (v := -5) hx hb dX12_nozzle_127 (by decide) ?_
                  refine k_i h (q_runV (As := [.int (-5)]) (rest := []) E h (c_X12_told l D cy a (fF σ 0 0) (-5)) co_X12_told ml_X12_154 im_X12_told se_X12_told in_X12 (eM_0 cy a (fF σ 0 0)) rfl ok_X12_told rfl ⟨by decide, by decide⟩ hl.1 rfl (Nat.le_of_ble_eq_true rfl) dX12_nozzle_129 ⟨Nat.zero_le _, Nat.zero_le _⟩) (wM_fst cy a) (fun r129 τ129 H locs p129 h => ?_)
                  refine t_i E h hr hk ?_ dX12_nozzle_132
                  obtain ⟨v9, e9⟩ := p129.2
                  have k9 : K mF mA σ τ129 := by rw [e9]; exact (K.rf.F 0 _ (by decide)).F 1 _ (by decide)
                  exact ⟨KZ_of k9, g.kept k9⟩
              · refine lv_iload_n hx hb dX12_nozzle_104 rfl (lv_at hl 3 rfl) ?_
                refine lv_iload hx hb dX12_nozzle_105 (lv_at hl 0 rfl) ?_
                refine lv_icmp_le (tgt := 117) hx hb dX12_nozzle_107 (by decide) (fun c107 => ?_) (fun c107 => ?_)
                · refine lv_aload_n hx hb dX12_nozzle_117 rfl (lv_at hl 1 rfl) ?_
                  refine r_get E h 18 (v := .int (nI nz)) (eM_0 cy a (fF σ 0 0)) rfl fw_X12 (by decide) fl_X12_149 (congrArg (fun z => some (Value.int z)) hz) dX12_nozzle_118 ?_
                  refine lv_bipush (v := 80) hx hb dX12_nozzle_121 (by decide) ?_
                  refine lv_icmp_ne (tgt := 133) hx hb dX12_nozzle_123 (by decide) (fun c123 => ?_) (fun c123 => ?_)
                  · have c123 : nz ≠ 80 := n_ne (k := 80) c123
                    refine lv_aload_n hx hb dX12_nozzle_133 rfl (lv_at hl 1 rfl) ?_
                    refine r_get E h 19 (v := .ref (a 11)) (eM_0 cy a (fF σ 0 0)) rfl fw_X12 (by decide) fl_X12_40 rfl dX12_nozzle_134 ?_
                    refine lv_aload_n hx hb dX12_nozzle_137 rfl (lv_at hl 1 rfl) ?_
                    refine r_get E h 18 (v := .int (nI nz)) (eM_0 cy a (fF σ 0 0)) rfl fw_X12 (by decide) fl_X12_149 (congrArg (fun z => some (Value.int z)) hz) dX12_nozzle_138 ?_
                    refine lv_iload_n hx hb dX12_nozzle_141 rfl (lv_at hl 2 rfl) ?_
                    refine r_iastN E h (f := σ.2.1 11) (eM_11 cy a (fF σ 0 0)) (j := nz) (by omega) (by decide) (qM_11 cy a (fF σ 0 0) (upd (σ.2.1 11) nz x)) dX12_nozzle_142 (fun H locs h => ?_)
                    refine lv_aload_n hx hb dX12_nozzle_143 rfl (lv_at hl 1 rfl) ?_
                    refine r_get E h 20 (v := .ref (a 12)) (eM_0 cy a (fR (fF σ 0 0) 11 (upd (σ.2.1 11) nz x))) rfl fw_X12 (by decide) fl_X12_43 rfl dX12_nozzle_144 ?_
                    refine lv_aload_n hx hb dX12_nozzle_147 rfl (lv_at hl 1 rfl) ?_
                    refine r_get E h 18 (v := .int (nI nz)) (eM_0 cy a (fR (fF σ 0 0) 11 (upd (σ.2.1 11) nz x))) rfl fw_X12 (by decide) fl_X12_149 (congrArg (fun z => some (Value.int z)) hz) dX12_nozzle_148 ?_
                    refine lv_iload_n hx hb dX12_nozzle_151 rfl (lv_at hl 3 rfl) ?_
                    refine r_iastN E h (f := σ.2.1 12) (eM_12 cy a (fR (fF σ 0 0) 11 (upd (σ.2.1 11) nz x))) (j := nz) (by omega) (by decide) (qM_12 cy a (fR (fF σ 0 0) 11 (upd (σ.2.1 11) nz x)) (upd (σ.2.1 12) nz y)) dX12_nozzle_152 (fun H locs h => ?_)
                    refine lv_aload_n hx hb dX12_nozzle_153 rfl (lv_at hl 1 rfl) ?_
                    refine r_get E h 21 (v := .ref (a 13)) (eM_0 cy a (fR (fR (fF σ 0 0) 11 (upd (σ.2.1 11) nz x)) 12 (upd (σ.2.1 12) nz y))) rfl fw_X12 (by decide) fl_X12_46 rfl dX12_nozzle_154 ?_
                    refine lv_aload_n hx hb dX12_nozzle_157 rfl (lv_at hl 1 rfl) ?_
                    refine r_get E h 18 (v := .int (nI nz)) (eM_0 cy a (fR (fR (fF σ 0 0) 11 (upd (σ.2.1 11) nz x)) 12 (upd (σ.2.1 12) nz y))) rfl fw_X12 (by decide) fl_X12_149 (congrArg (fun z => some (Value.int z)) hz) dX12_nozzle_158 ?_
                    refine lv_iload_n hx hb dX12_nozzle_161 rfl (lv_at hl 4 rfl) ?_
                    refine r_iastN E h (f := σ.2.1 13) (eM_13 cy a (fR (fR (fF σ 0 0) 11 (upd (σ.2.1 11) nz x)) 12 (upd (σ.2.1 12) nz y))) (j := nz) (by omega) (by decide) (qM_13 cy a (fR (fR (fF σ 0 0) 11 (upd (σ.2.1 11) nz x)) 12 (upd (σ.2.1 12) nz y)) (upd (σ.2.1 13) nz w)) dX12_nozzle_162 (fun H locs h => ?_)
                    refine lv_aload_n hx hb dX12_nozzle_163 rfl (lv_at hl 1 rfl) ?_
                    refine r_get E h 22 (v := .ref (a 14)) (eM_0 cy a (fR (fR (fR (fF σ 0 0) 11 (upd (σ.2.1 11) nz x)) 12 (upd (σ.2.1 12) nz y)) 13 (upd (σ.2.1 13) nz w))) rfl fw_X12 (by decide) fl_X12_49 rfl dX12_nozzle_164 ?_
                    refine lv_aload_n hx hb dX12_nozzle_167 rfl (lv_at hl 1 rfl) ?_
                    refine r_get E h 18 (v := .int (nI nz)) (eM_0 cy a (fR (fR (fR (fF σ 0 0) 11 (upd (σ.2.1 11) nz x)) 12 (upd (σ.2.1 12) nz y)) 13 (upd (σ.2.1 13) nz w))) rfl fw_X12 (by decide) fl_X12_149 (congrArg (fun z => some (Value.int z)) hz) dX12_nozzle_168 ?_
                    refine lv_iload hx hb dX12_nozzle_171 (lv_at hl 5 rfl) ?_
                    refine r_iastN E h (f := σ.2.1 14) (eM_14 cy a (fR (fR (fR (fF σ 0 0) 11 (upd (σ.2.1 11) nz x)) 12 (upd (σ.2.1 12) nz y)) 13 (upd (σ.2.1 13) nz w))) (j := nz) (by omega) (by decide) (qM_14 cy a (fR (fR (fR (fF σ 0 0) 11 (upd (σ.2.1 11) nz x)) 12 (upd (σ.2.1 12) nz y)) 13 (upd (σ.2.1 13) nz w)) (upd (σ.2.1 14) nz v)) dX12_nozzle_173 (fun H locs h => ?_)
                    refine lv_aload_n hx hb dX12_nozzle_174 rfl (lv_at hl 1 rfl) ?_
                    refine r_get E h 23 (v := .ref (a 15)) (eM_0 cy a (fR (fR (fR (fR (fF σ 0 0) 11 (upd (σ.2.1 11) nz x)) 12 (upd (σ.2.1 12) nz y)) 13 (upd (σ.2.1 13) nz w)) 14 (upd (σ.2.1 14) nz v))) rfl fw_X12 (by decide) fl_X12_52 rfl dX12_nozzle_175 ?_
                    refine lv_aload_n hx hb dX12_nozzle_178 rfl (lv_at hl 1 rfl) ?_
                    refine r_get E h 18 (v := .int (nI nz)) (eM_0 cy a (fR (fR (fR (fR (fF σ 0 0) 11 (upd (σ.2.1 11) nz x)) 12 (upd (σ.2.1 12) nz y)) 13 (upd (σ.2.1 13) nz w)) 14 (upd (σ.2.1 14) nz v))) rfl fw_X12 (by decide) fl_X12_149 (congrArg (fun z => some (Value.int z)) hz) dX12_nozzle_179 ?_
                    refine lv_aload_n hx hb dX12_nozzle_182 rfl (lv_at hl 1 rfl) ?_
                    refine r_get E h 2 (v := .int (nI nn)) (eM_0 cy a (fR (fR (fR (fR (fF σ 0 0) 11 (upd (σ.2.1 11) nz x)) 12 (upd (σ.2.1 12) nz y)) 13 (upd (σ.2.1 13) nz w)) 14 (upd (σ.2.1 14) nz v))) rfl fw_X12 (by decide) fl_X12_191 (congrArg (fun z => some (Value.int z)) hnow) dX12_nozzle_183 ?_
                    refine r_iastN E h (f := σ.2.1 15) (eM_15 cy a (fR (fR (fR (fR (fF σ 0 0) 11 (upd (σ.2.1 11) nz x)) 12 (upd (σ.2.1 12) nz y)) 13 (upd (σ.2.1 13) nz w)) 14 (upd (σ.2.1 14) nz v))) (j := nz) (by omega) (by decide) (qM_15 cy a (fR (fR (fR (fR (fF σ 0 0) 11 (upd (σ.2.1 11) nz x)) 12 (upd (σ.2.1 12) nz y)) 13 (upd (σ.2.1 13) nz w)) 14 (upd (σ.2.1 14) nz v)) (upd (σ.2.1 15) nz (nI nn))) dX12_nozzle_186 (fun H locs h => ?_)
                    refine lv_aload_n hx hb dX12_nozzle_187 rfl (lv_at hl 1 rfl) ?_
                    refine r_get E h 24 (v := .ref (a 16)) (eM_0 cy a (fR (fR (fR (fR (fR (fF σ 0 0) 11 (upd (σ.2.1 11) nz x)) 12 (upd (σ.2.1 12) nz y)) 13 (upd (σ.2.1 13) nz w)) 14 (upd (σ.2.1 14) nz v)) 15 (upd (σ.2.1 15) nz (nI nn)))) rfl fw_X12 (by decide) fl_X12_55 rfl dX12_nozzle_188 ?_
                    refine lv_aload_n hx hb dX12_nozzle_191 rfl (lv_at hl 1 rfl) ?_
                    refine r_get E h 18 (v := .int (nI nz)) (eM_0 cy a (fR (fR (fR (fR (fR (fF σ 0 0) 11 (upd (σ.2.1 11) nz x)) 12 (upd (σ.2.1 12) nz y)) 13 (upd (σ.2.1 13) nz w)) 14 (upd (σ.2.1 14) nz v)) 15 (upd (σ.2.1 15) nz (nI nn)))) rfl fw_X12 (by decide) fl_X12_149 (congrArg (fun z => some (Value.int z)) hz) dX12_nozzle_192 ?_
                    refine lv_sipush (v := 1000) hx hb dX12_nozzle_195 (by decide) ?_
                    refine r_iastN E h (f := σ.2.1 16) (eM_16 cy a (fR (fR (fR (fR (fR (fF σ 0 0) 11 (upd (σ.2.1 11) nz x)) 12 (upd (σ.2.1 12) nz y)) 13 (upd (σ.2.1 13) nz w)) 14 (upd (σ.2.1 14) nz v)) 15 (upd (σ.2.1 15) nz (nI nn)))) (j := nz) (by omega) (by decide) (qM_16 cy a (fR (fR (fR (fR (fR (fF σ 0 0) 11 (upd (σ.2.1 11) nz x)) 12 (upd (σ.2.1 12) nz y)) 13 (upd (σ.2.1 13) nz w)) 14 (upd (σ.2.1 14) nz v)) 15 (upd (σ.2.1 15) nz (nI nn))) (upd (σ.2.1 16) nz 1000)) dX12_nozzle_198 (fun H locs h => ?_)
                    refine lv_aload_n hx hb dX12_nozzle_199 rfl (lv_at hl 1 rfl) ?_
                    refine lv_dup hx hb dX12_nozzle_200 rfl ?_
                    refine r_get E h 18 (v := .int (nI nz)) (eM_0 cy a (fR (fR (fR (fR (fR (fR (fF σ 0 0) 11 (upd (σ.2.1 11) nz x)) 12 (upd (σ.2.1 12) nz y)) 13 (upd (σ.2.1 13) nz w)) 14 (upd (σ.2.1 14) nz v)) 15 (upd (σ.2.1 15) nz (nI nn))) 16 (upd (σ.2.1 16) nz 1000))) rfl fw_X12 (by decide) fl_X12_149 (congrArg (fun z => some (Value.int z)) hz) dX12_nozzle_201 ?_
                    refine lv_iconst (v := 1) hx hb dX12_nozzle_204 (by decide) ?_
                    refine n_add (j := nz) (k := 1) hx hb dX12_nozzle_205 ?_
                    refine r_put E h 18 (ty := .int) (eM_0 cy a (fR (fR (fR (fR (fR (fR (fF σ 0 0) 11 (upd (σ.2.1 11) nz x)) 12 (upd (σ.2.1 12) nz y)) 13 (upd (σ.2.1 13) nz w)) 14 (upd (σ.2.1 14) nz v)) 15 (upd (σ.2.1 15) nz (nI nn))) 16 (upd (σ.2.1 16) nz 1000))) rfl fw_X12 tyX12_ok nmX12 (by decide) fl_X12_149 rfl (by decide +kernel) rfl rfl (Nat.le_of_ble_eq_true rfl) (sM_8 cy a (fR (fR (fR (fR (fR (fR (fF σ 0 0) 11 (upd (σ.2.1 11) nz x)) 12 (upd (σ.2.1 12) nz y)) 13 (upd (σ.2.1 13) nz w)) 14 (upd (σ.2.1 14) nz v)) 15 (upd (σ.2.1 15) nz (nI nn))) 16 (upd (σ.2.1 16) nz 1000)) (nI (nz + 1))) dX12_nozzle_206 (fun H locs h => ?_)
                    refine lv_aload_n hx hb dX12_nozzle_209 rfl (lv_at hl 1 rfl) ?_
                    refine lv_aload_n hx hb dX12_nozzle_210 rfl (lv_at hl 1 rfl) ?_
                    refine r_get E h 18 (v := .int (nI (nz + 1))) (eM_0 cy a (fF (fR (fR (fR (fR (fR (fR (fF σ 0 0) 11 (upd (σ.2.1 11) nz x)) 12 (upd (σ.2.1 12) nz y)) 13 (upd (σ.2.1 13) nz w)) 14 (upd (σ.2.1 14) nz v)) 15 (upd (σ.2.1 15) nz (nI nn))) 16 (upd (σ.2.1 16) nz 1000)) 8 (nI (nz + 1)))) rfl fw_X12 (by decide) fl_X12_149 rfl dX12_nozzle_211 ?_
                    refine lv_iconst (v := 1) hx hb dX12_nozzle_214 (by decide) ?_
                    refine n_sub1 hx hb dX12_nozzle_215 ?_
                    refine k_i h (q_runV (As := [.int (nI nz)]) (rest := []) E h (c_X12_told l D cy a (fF (fR (fR (fR (fR (fR (fR (fF σ 0 0) 11 (upd (σ.2.1 11) nz x)) 12 (upd (σ.2.1 12) nz y)) 13 (upd (σ.2.1 13) nz w)) 14 (upd (σ.2.1 14) nz v)) 15 (upd (σ.2.1 15) nz (nI nn))) 16 (upd (σ.2.1 16) nz 1000)) 8 (nI (nz + 1))) (nI nz)) co_X12_told ml_X12_154 im_X12_told se_X12_told in_X12 (eM_0 cy a (fF (fR (fR (fR (fR (fR (fR (fF σ 0 0) 11 (upd (σ.2.1 11) nz x)) 12 (upd (σ.2.1 12) nz y)) 13 (upd (σ.2.1 13) nz w)) 14 (upd (σ.2.1 14) nz v)) 15 (upd (σ.2.1 15) nz (nI nn))) 16 (upd (σ.2.1 16) nz 1000)) 8 (nI (nz + 1)))) rfl ok_X12_told rfl ⟨by decide, by decide⟩ hl.1 rfl (Nat.le_of_ble_eq_true rfl) dX12_nozzle_216 ⟨Nat.zero_le _, Nat.zero_le _⟩) (wM_fst cy a) (fun r216 τ216 H locs p216 h => ?_)
                    refine t_i E h hr hk ?_ dX12_nozzle_219
                    obtain ⟨v9, e9⟩ := p216.2
                    have k9 : K [2, 3, 4, 5, 6, 7, 9, 10, 11, 13] [1, 2, 3, 4, 5, 6, 7, 8, 9, 10, 17, 18, 19, 20, 21, 22, 23, 24, 25, 26, 27, 29] σ τ216 := by rw [e9]; exact (((((((((K.rf.F 0 _ (by decide)).R 11 _ (by decide)).R 12 _ (by decide)).R 13 _ (by decide)).R 14 _ (by decide)).R 15 _ (by decide)).R 16 _ (by decide)).F 8 _ (by decide)).F 1 _ (by decide))
                    exact ⟨k9, gm_no hz (by omega) (by rw [e9]; rfl) (by rw [e9]; rfl) (wt_of (w11.t c14) (by decide) (by decide)) g k9⟩
                  · refine lv_aload_n hx hb dX12_nozzle_126 rfl (lv_at hl 1 rfl) ?_
                    refine lv_bipush (v := -5) hx hb dX12_nozzle_127 (by decide) ?_
                    refine k_i h (q_runV (As := [.int (-5)]) (rest := []) E h (c_X12_told l D cy a (fF σ 0 0) (-5)) co_X12_told ml_X12_154 im_X12_told se_X12_told in_X12 (eM_0 cy a (fF σ 0 0)) rfl ok_X12_told rfl ⟨by decide, by decide⟩ hl.1 rfl (Nat.le_of_ble_eq_true rfl) dX12_nozzle_129 ⟨Nat.zero_le _, Nat.zero_le _⟩) (wM_fst cy a) (fun r129 τ129 H locs p129 h => ?_)
                    refine t_i E h hr hk ?_ dX12_nozzle_132
                    obtain ⟨v9, e9⟩ := p129.2
                    have k9 : K mF mA σ τ129 := by rw [e9]; exact (K.rf.F 0 _ (by decide)).F 1 _ (by decide)
                    exact ⟨KZ_of k9, g.kept k9⟩
                · refine lv_aload_n hx hb dX12_nozzle_110 rfl (lv_at hl 1 rfl) ?_
                  refine lv_bipush (v := -3) hx hb dX12_nozzle_111 (by decide) ?_
                  refine k_i h (q_runV (As := [.int (-3)]) (rest := []) E h (c_X12_told l D cy a (fF σ 0 0) (-3)) co_X12_told ml_X12_154 im_X12_told se_X12_told in_X12 (eM_0 cy a (fF σ 0 0)) rfl ok_X12_told rfl ⟨by decide, by decide⟩ hl.1 rfl (Nat.le_of_ble_eq_true rfl) dX12_nozzle_113 ⟨Nat.zero_le _, Nat.zero_le _⟩) (wM_fst cy a) (fun r113 τ113 H locs p113 h => ?_)
                  refine t_i E h hr hk ?_ dX12_nozzle_116
                  obtain ⟨v9, e9⟩ := p113.2
                  have k9 : K mF mA σ τ113 := by rw [e9]; exact (K.rf.F 0 _ (by decide)).F 1 _ (by decide)
                  exact ⟨KZ_of k9, g.kept k9⟩
          · refine lv_aload_n hx hb dX12_nozzle_66 rfl (lv_at hl 0 rfl) ?_
            refine lv_iload hx hb dX12_nozzle_67 (lv_at hl 4 rfl) ?_
            refine k_i h (q_runV (As := [.int v]) (rest := []) E h (c_X12_isPerson l D cy a (fF σ 0 0) v np hp (by omega)) co_X12_isPerson ml_X12_174 im_X12_isPerson se_X12_isPerson in_X12 (eM_0 cy a (fF σ 0 0)) rfl ok_X12_isPerson rfl ⟨by decide, by decide⟩ hl.1 rfl (Nat.le_of_ble_eq_true rfl) dX12_nozzle_69 ⟨Nat.zero_le _, Nat.zero_le _⟩) (wM_fst cy a) (fun r69 τ69 H locs p69 h => ?_)
            rw [p69.1] at h
            refine lv_if_ne (tgt := 82) hx hb dX12_nozzle_72 (by decide) (fun c72 => ?_) (fun c72 => ?_)
            · refine lv_aload_n hx hb dX12_nozzle_82 rfl (lv_at hl 0 rfl) ?_
              refine lv_aload_n hx hb dX12_nozzle_83 rfl (lv_at hl 0 rfl) ?_
              refine r_get E h 2 (v := .int (nI nn)) (eM_0 cy a (fF σ 0 0)) rfl fw_X12 (by decide) fl_X12_191 (congrArg (fun z => some (Value.int z)) hnow) dX12_nozzle_84 ?_
              refine lv_iconst (v := 4) hx hb dX12_nozzle_87 (by decide) ?_
              refine k_i h (q_runV (As := [.int (nI nn), .int 4]) (rest := []) E h (c_X12_lawOf l D cy a (fF σ 0 0) (nI nn) 4 nl hla hl3) co_X12_lawOf ml_X12_194 im_X12_lawOf se_X12_lawOf in_X12 (eM_0 cy a (fF σ 0 0)) rfl ok_X12_lawOf rfl ⟨by decide, by decide⟩ hl.1 rfl (Nat.le_of_ble_eq_true rfl) dX12_nozzle_88 ⟨Nat.zero_le _, Nat.zero_le _⟩) (wM_fst cy a) (fun r88 τ88 H locs p88 h => ?_)
              rw [p88.1] at h
              refine lv_istore (lv' := [(5, .int r88), (0, .ref (a 0)), (1, .int x), (2, .int y), (3, .int w), (4, .int v)]) hx hb dX12_nozzle_91 hl (by decide) rfl (fun ls hl => ?_)
              refine lv_iload_n hx hb dX12_nozzle_93 rfl (lv_at hl 4 rfl) ?_
              refine lv_iconst (v := 2) hx hb dX12_nozzle_94 (by decide) ?_
              refine lv_icmp_ne (tgt := 117) hx hb dX12_nozzle_95 (by decide) (fun c95 => ?_) (fun c95 => ?_)
              · refine lv_aload_n hx hb dX12_nozzle_117 rfl (lv_at hl 1 rfl) ?_
                refine r_get E h 18 (v := .int (nI nz)) (eM_0 cy a (fF σ 0 0)) rfl fw_X12 (by decide) fl_X12_149 (congrArg (fun z => some (Value.int z)) hz) dX12_nozzle_118 ?_
                refine lv_bipush (v := 80) hx hb dX12_nozzle_121 (by decide) ?_
                refine lv_icmp_ne (tgt := 133) hx hb dX12_nozzle_123 (by decide) (fun c123 => ?_) (fun c123 => ?_)
                · have c123 : nz ≠ 80 := n_ne (k := 80) c123
                  refine lv_aload_n hx hb dX12_nozzle_133 rfl (lv_at hl 1 rfl) ?_
                  refine r_get E h 19 (v := .ref (a 11)) (eM_0 cy a (fF σ 0 0)) rfl fw_X12 (by decide) fl_X12_40 rfl dX12_nozzle_134 ?_
                  refine lv_aload_n hx hb dX12_nozzle_137 rfl (lv_at hl 1 rfl) ?_
                  refine r_get E h 18 (v := .int (nI nz)) (eM_0 cy a (fF σ 0 0)) rfl fw_X12 (by decide) fl_X12_149 (congrArg (fun z => some (Value.int z)) hz) dX12_nozzle_138 ?_
                  refine lv_iload_n hx hb dX12_nozzle_141 rfl (lv_at hl 2 rfl) ?_
                  refine r_iastN E h (f := σ.2.1 11) (eM_11 cy a (fF σ 0 0)) (j := nz) (by omega) (by decide) (qM_11 cy a (fF σ 0 0) (upd (σ.2.1 11) nz x)) dX12_nozzle_142 (fun H locs h => ?_)
                  refine lv_aload_n hx hb dX12_nozzle_143 rfl (lv_at hl 1 rfl) ?_
                  refine r_get E h 20 (v := .ref (a 12)) (eM_0 cy a (fR (fF σ 0 0) 11 (upd (σ.2.1 11) nz x))) rfl fw_X12 (by decide) fl_X12_43 rfl dX12_nozzle_144 ?_
                  refine lv_aload_n hx hb dX12_nozzle_147 rfl (lv_at hl 1 rfl) ?_
                  refine r_get E h 18 (v := .int (nI nz)) (eM_0 cy a (fR (fF σ 0 0) 11 (upd (σ.2.1 11) nz x))) rfl fw_X12 (by decide) fl_X12_149 (congrArg (fun z => some (Value.int z)) hz) dX12_nozzle_148 ?_
                  refine lv_iload_n hx hb dX12_nozzle_151 rfl (lv_at hl 3 rfl) ?_
                  refine r_iastN E h (f := σ.2.1 12) (eM_12 cy a (fR (fF σ 0 0) 11 (upd (σ.2.1 11) nz x))) (j := nz) (by omega) (by decide) (qM_12 cy a (fR (fF σ 0 0) 11 (upd (σ.2.1 11) nz x)) (upd (σ.2.1 12) nz y)) dX12_nozzle_152 (fun H locs h => ?_)
                  refine lv_aload_n hx hb dX12_nozzle_153 rfl (lv_at hl 1 rfl) ?_
                  refine r_get E h 21 (v := .ref (a 13)) (eM_0 cy a (fR (fR (fF σ 0 0) 11 (upd (σ.2.1 11) nz x)) 12 (upd (σ.2.1 12) nz y))) rfl fw_X12 (by decide) fl_X12_46 rfl dX12_nozzle_154 ?_
                  refine lv_aload_n hx hb dX12_nozzle_157 rfl (lv_at hl 1 rfl) ?_
                  refine r_get E h 18 (v := .int (nI nz)) (eM_0 cy a (fR (fR (fF σ 0 0) 11 (upd (σ.2.1 11) nz x)) 12 (upd (σ.2.1 12) nz y))) rfl fw_X12 (by decide) fl_X12_149 (congrArg (fun z => some (Value.int z)) hz) dX12_nozzle_158 ?_
                  refine lv_iload_n hx hb dX12_nozzle_161 rfl (lv_at hl 4 rfl) ?_
                  refine r_iastN E h (f := σ.2.1 13) (eM_13 cy a (fR (fR (fF σ 0 0) 11 (upd (σ.2.1 11) nz x)) 12 (upd (σ.2.1 12) nz y))) (j := nz) (by omega) (by decide) (qM_13 cy a (fR (fR (fF σ 0 0) 11 (upd (σ.2.1 11) nz x)) 12 (upd (σ.2.1 12) nz y)) (upd (σ.2.1 13) nz w)) dX12_nozzle_162 (fun H locs h => ?_)
                  refine lv_aload_n hx hb dX12_nozzle_163 rfl (lv_at hl 1 rfl) ?_
                  refine r_get E h 22 (v := .ref (a 14)) (eM_0 cy a (fR (fR (fR (fF σ 0 0) 11 (upd (σ.2.1 11) nz x)) 12 (upd (σ.2.1 12) nz y)) 13 (upd (σ.2.1 13) nz w))) rfl fw_X12 (by decide) fl_X12_49 rfl dX12_nozzle_164 ?_
                  refine lv_aload_n hx hb dX12_nozzle_167 rfl (lv_at hl 1 rfl) ?_
                  refine r_get E h 18 (v := .int (nI nz)) (eM_0 cy a (fR (fR (fR (fF σ 0 0) 11 (upd (σ.2.1 11) nz x)) 12 (upd (σ.2.1 12) nz y)) 13 (upd (σ.2.1 13) nz w))) rfl fw_X12 (by decide) fl_X12_149 (congrArg (fun z => some (Value.int z)) hz) dX12_nozzle_168 ?_
                  refine lv_iload hx hb dX12_nozzle_171 (lv_at hl 5 rfl) ?_
                  refine r_iastN E h (f := σ.2.1 14) (eM_14 cy a (fR (fR (fR (fF σ 0 0) 11 (upd (σ.2.1 11) nz x)) 12 (upd (σ.2.1 12) nz y)) 13 (upd (σ.2.1 13) nz w))) (j := nz) (by omega) (by decide) (qM_14 cy a (fR (fR (fR (fF σ 0 0) 11 (upd (σ.2.1 11) nz x)) 12 (upd (σ.2.1 12) nz y)) 13 (upd (σ.2.1 13) nz w)) (upd (σ.2.1 14) nz v)) dX12_nozzle_173 (fun H locs h => ?_)
                  refine lv_aload_n hx hb dX12_nozzle_174 rfl (lv_at hl 1 rfl) ?_
                  refine r_get E h 23 (v := .ref (a 15)) (eM_0 cy a (fR (fR (fR (fR (fF σ 0 0) 11 (upd (σ.2.1 11) nz x)) 12 (upd (σ.2.1 12) nz y)) 13 (upd (σ.2.1 13) nz w)) 14 (upd (σ.2.1 14) nz v))) rfl fw_X12 (by decide) fl_X12_52 rfl dX12_nozzle_175 ?_
                  refine lv_aload_n hx hb dX12_nozzle_178 rfl (lv_at hl 1 rfl) ?_
                  refine r_get E h 18 (v := .int (nI nz)) (eM_0 cy a (fR (fR (fR (fR (fF σ 0 0) 11 (upd (σ.2.1 11) nz x)) 12 (upd (σ.2.1 12) nz y)) 13 (upd (σ.2.1 13) nz w)) 14 (upd (σ.2.1 14) nz v))) rfl fw_X12 (by decide) fl_X12_149 (congrArg (fun z => some (Value.int z)) hz) dX12_nozzle_179 ?_
                  refine lv_aload_n hx hb dX12_nozzle_182 rfl (lv_at hl 1 rfl) ?_
                  refine r_get E h 2 (v := .int (nI nn)) (eM_0 cy a (fR (fR (fR (fR (fF σ 0 0) 11 (upd (σ.2.1 11) nz x)) 12 (upd (σ.2.1 12) nz y)) 13 (upd (σ.2.1 13) nz w)) 14 (upd (σ.2.1 14) nz v))) rfl fw_X12 (by decide) fl_X12_191 (congrArg (fun z => some (Value.int z)) hnow) dX12_nozzle_183 ?_
                  refine r_iastN E h (f := σ.2.1 15) (eM_15 cy a (fR (fR (fR (fR (fF σ 0 0) 11 (upd (σ.2.1 11) nz x)) 12 (upd (σ.2.1 12) nz y)) 13 (upd (σ.2.1 13) nz w)) 14 (upd (σ.2.1 14) nz v))) (j := nz) (by omega) (by decide) (qM_15 cy a (fR (fR (fR (fR (fF σ 0 0) 11 (upd (σ.2.1 11) nz x)) 12 (upd (σ.2.1 12) nz y)) 13 (upd (σ.2.1 13) nz w)) 14 (upd (σ.2.1 14) nz v)) (upd (σ.2.1 15) nz (nI nn))) dX12_nozzle_186 (fun H locs h => ?_)
                  refine lv_aload_n hx hb dX12_nozzle_187 rfl (lv_at hl 1 rfl) ?_
                  refine r_get E h 24 (v := .ref (a 16)) (eM_0 cy a (fR (fR (fR (fR (fR (fF σ 0 0) 11 (upd (σ.2.1 11) nz x)) 12 (upd (σ.2.1 12) nz y)) 13 (upd (σ.2.1 13) nz w)) 14 (upd (σ.2.1 14) nz v)) 15 (upd (σ.2.1 15) nz (nI nn)))) rfl fw_X12 (by decide) fl_X12_55 rfl dX12_nozzle_188 ?_
                  refine lv_aload_n hx hb dX12_nozzle_191 rfl (lv_at hl 1 rfl) ?_
                  refine r_get E h 18 (v := .int (nI nz)) (eM_0 cy a (fR (fR (fR (fR (fR (fF σ 0 0) 11 (upd (σ.2.1 11) nz x)) 12 (upd (σ.2.1 12) nz y)) 13 (upd (σ.2.1 13) nz w)) 14 (upd (σ.2.1 14) nz v)) 15 (upd (σ.2.1 15) nz (nI nn)))) rfl fw_X12 (by decide) fl_X12_149 (congrArg (fun z => some (Value.int z)) hz) dX12_nozzle_192 ?_
                  refine lv_sipush (v := 1000) hx hb dX12_nozzle_195 (by decide) ?_
                  refine r_iastN E h (f := σ.2.1 16) (eM_16 cy a (fR (fR (fR (fR (fR (fF σ 0 0) 11 (upd (σ.2.1 11) nz x)) 12 (upd (σ.2.1 12) nz y)) 13 (upd (σ.2.1 13) nz w)) 14 (upd (σ.2.1 14) nz v)) 15 (upd (σ.2.1 15) nz (nI nn)))) (j := nz) (by omega) (by decide) (qM_16 cy a (fR (fR (fR (fR (fR (fF σ 0 0) 11 (upd (σ.2.1 11) nz x)) 12 (upd (σ.2.1 12) nz y)) 13 (upd (σ.2.1 13) nz w)) 14 (upd (σ.2.1 14) nz v)) 15 (upd (σ.2.1 15) nz (nI nn))) (upd (σ.2.1 16) nz 1000)) dX12_nozzle_198 (fun H locs h => ?_)
                  refine lv_aload_n hx hb dX12_nozzle_199 rfl (lv_at hl 1 rfl) ?_
                  refine lv_dup hx hb dX12_nozzle_200 rfl ?_
                  refine r_get E h 18 (v := .int (nI nz)) (eM_0 cy a (fR (fR (fR (fR (fR (fR (fF σ 0 0) 11 (upd (σ.2.1 11) nz x)) 12 (upd (σ.2.1 12) nz y)) 13 (upd (σ.2.1 13) nz w)) 14 (upd (σ.2.1 14) nz v)) 15 (upd (σ.2.1 15) nz (nI nn))) 16 (upd (σ.2.1 16) nz 1000))) rfl fw_X12 (by decide) fl_X12_149 (congrArg (fun z => some (Value.int z)) hz) dX12_nozzle_201 ?_
                  refine lv_iconst (v := 1) hx hb dX12_nozzle_204 (by decide) ?_
                  refine n_add (j := nz) (k := 1) hx hb dX12_nozzle_205 ?_
                  refine r_put E h 18 (ty := .int) (eM_0 cy a (fR (fR (fR (fR (fR (fR (fF σ 0 0) 11 (upd (σ.2.1 11) nz x)) 12 (upd (σ.2.1 12) nz y)) 13 (upd (σ.2.1 13) nz w)) 14 (upd (σ.2.1 14) nz v)) 15 (upd (σ.2.1 15) nz (nI nn))) 16 (upd (σ.2.1 16) nz 1000))) rfl fw_X12 tyX12_ok nmX12 (by decide) fl_X12_149 rfl (by decide +kernel) rfl rfl (Nat.le_of_ble_eq_true rfl) (sM_8 cy a (fR (fR (fR (fR (fR (fR (fF σ 0 0) 11 (upd (σ.2.1 11) nz x)) 12 (upd (σ.2.1 12) nz y)) 13 (upd (σ.2.1 13) nz w)) 14 (upd (σ.2.1 14) nz v)) 15 (upd (σ.2.1 15) nz (nI nn))) 16 (upd (σ.2.1 16) nz 1000)) (nI (nz + 1))) dX12_nozzle_206 (fun H locs h => ?_)
                  refine lv_aload_n hx hb dX12_nozzle_209 rfl (lv_at hl 1 rfl) ?_
                  refine lv_aload_n hx hb dX12_nozzle_210 rfl (lv_at hl 1 rfl) ?_
                  refine r_get E h 18 (v := .int (nI (nz + 1))) (eM_0 cy a (fF (fR (fR (fR (fR (fR (fR (fF σ 0 0) 11 (upd (σ.2.1 11) nz x)) 12 (upd (σ.2.1 12) nz y)) 13 (upd (σ.2.1 13) nz w)) 14 (upd (σ.2.1 14) nz v)) 15 (upd (σ.2.1 15) nz (nI nn))) 16 (upd (σ.2.1 16) nz 1000)) 8 (nI (nz + 1)))) rfl fw_X12 (by decide) fl_X12_149 rfl dX12_nozzle_211 ?_
                  refine lv_iconst (v := 1) hx hb dX12_nozzle_214 (by decide) ?_
                  refine n_sub1 hx hb dX12_nozzle_215 ?_
                  refine k_i h (q_runV (As := [.int (nI nz)]) (rest := []) E h (c_X12_told l D cy a (fF (fR (fR (fR (fR (fR (fR (fF σ 0 0) 11 (upd (σ.2.1 11) nz x)) 12 (upd (σ.2.1 12) nz y)) 13 (upd (σ.2.1 13) nz w)) 14 (upd (σ.2.1 14) nz v)) 15 (upd (σ.2.1 15) nz (nI nn))) 16 (upd (σ.2.1 16) nz 1000)) 8 (nI (nz + 1))) (nI nz)) co_X12_told ml_X12_154 im_X12_told se_X12_told in_X12 (eM_0 cy a (fF (fR (fR (fR (fR (fR (fR (fF σ 0 0) 11 (upd (σ.2.1 11) nz x)) 12 (upd (σ.2.1 12) nz y)) 13 (upd (σ.2.1 13) nz w)) 14 (upd (σ.2.1 14) nz v)) 15 (upd (σ.2.1 15) nz (nI nn))) 16 (upd (σ.2.1 16) nz 1000)) 8 (nI (nz + 1)))) rfl ok_X12_told rfl ⟨by decide, by decide⟩ hl.1 rfl (Nat.le_of_ble_eq_true rfl) dX12_nozzle_216 ⟨Nat.zero_le _, Nat.zero_le _⟩) (wM_fst cy a) (fun r216 τ216 H locs p216 h => ?_)
                  refine t_i E h hr hk ?_ dX12_nozzle_219
                  obtain ⟨v9, e9⟩ := p216.2
                  have k9 : K [2, 3, 4, 5, 6, 7, 9, 10, 11, 13] [1, 2, 3, 4, 5, 6, 7, 8, 9, 10, 17, 18, 19, 20, 21, 22, 23, 24, 25, 26, 27, 29] σ τ216 := by rw [e9]; exact (((((((((K.rf.F 0 _ (by decide)).R 11 _ (by decide)).R 12 _ (by decide)).R 13 _ (by decide)).R 14 _ (by decide)).R 15 _ (by decide)).R 16 _ (by decide)).F 8 _ (by decide)).F 1 _ (by decide))
                  exact ⟨k9, gm_no hz (by omega) (by rw [e9]; rfl) (by rw [e9]; rfl) (wt_of (w11.t c14) (by decide) (by decide)) g k9⟩
                · refine lv_aload_n hx hb dX12_nozzle_126 rfl (lv_at hl 1 rfl) ?_
                  refine lv_bipush (v := -5) hx hb dX12_nozzle_127 (by decide) ?_
                  refine k_i h (q_runV (As := [.int (-5)]) (rest := []) E h (c_X12_told l D cy a (fF σ 0 0) (-5)) co_X12_told ml_X12_154 im_X12_told se_X12_told in_X12 (eM_0 cy a (fF σ 0 0)) rfl ok_X12_told rfl ⟨by decide, by decide⟩ hl.1 rfl (Nat.le_of_ble_eq_true rfl) dX12_nozzle_129 ⟨Nat.zero_le _, Nat.zero_le _⟩) (wM_fst cy a) (fun r129 τ129 H locs p129 h => ?_)
                  refine t_i E h hr hk ?_ dX12_nozzle_132
                  obtain ⟨v9, e9⟩ := p129.2
                  have k9 : K mF mA σ τ129 := by rw [e9]; exact (K.rf.F 0 _ (by decide)).F 1 _ (by decide)
                  exact ⟨KZ_of k9, g.kept k9⟩
              · refine lv_iload hx hb dX12_nozzle_98 (lv_at hl 0 rfl) ?_
                refine lv_iconst (v := -1) hx hb dX12_nozzle_100 (by decide) ?_
                refine lv_icmp_eq (tgt := 117) hx hb dX12_nozzle_101 (by decide) (fun c101 => ?_) (fun c101 => ?_)
                · refine lv_aload_n hx hb dX12_nozzle_117 rfl (lv_at hl 1 rfl) ?_
                  refine r_get E h 18 (v := .int (nI nz)) (eM_0 cy a (fF σ 0 0)) rfl fw_X12 (by decide) fl_X12_149 (congrArg (fun z => some (Value.int z)) hz) dX12_nozzle_118 ?_
                  refine lv_bipush (v := 80) hx hb dX12_nozzle_121 (by decide) ?_
                  refine lv_icmp_ne (tgt := 133) hx hb dX12_nozzle_123 (by decide) (fun c123 => ?_) (fun c123 => ?_)
                  · have c123 : nz ≠ 80 := n_ne (k := 80) c123
                    refine lv_aload_n hx hb dX12_nozzle_133 rfl (lv_at hl 1 rfl) ?_
                    refine r_get E h 19 (v := .ref (a 11)) (eM_0 cy a (fF σ 0 0)) rfl fw_X12 (by decide) fl_X12_40 rfl dX12_nozzle_134 ?_
                    refine lv_aload_n hx hb dX12_nozzle_137 rfl (lv_at hl 1 rfl) ?_
                    refine r_get E h 18 (v := .int (nI nz)) (eM_0 cy a (fF σ 0 0)) rfl fw_X12 (by decide) fl_X12_149 (congrArg (fun z => some (Value.int z)) hz) dX12_nozzle_138 ?_
                    refine lv_iload_n hx hb dX12_nozzle_141 rfl (lv_at hl 2 rfl) ?_
                    refine r_iastN E h (f := σ.2.1 11) (eM_11 cy a (fF σ 0 0)) (j := nz) (by omega) (by decide) (qM_11 cy a (fF σ 0 0) (upd (σ.2.1 11) nz x)) dX12_nozzle_142 (fun H locs h => ?_)
                    refine lv_aload_n hx hb dX12_nozzle_143 rfl (lv_at hl 1 rfl) ?_
                    refine r_get E h 20 (v := .ref (a 12)) (eM_0 cy a (fR (fF σ 0 0) 11 (upd (σ.2.1 11) nz x))) rfl fw_X12 (by decide) fl_X12_43 rfl dX12_nozzle_144 ?_
                    refine lv_aload_n hx hb dX12_nozzle_147 rfl (lv_at hl 1 rfl) ?_
                    refine r_get E h 18 (v := .int (nI nz)) (eM_0 cy a (fR (fF σ 0 0) 11 (upd (σ.2.1 11) nz x))) rfl fw_X12 (by decide) fl_X12_149 (congrArg (fun z => some (Value.int z)) hz) dX12_nozzle_148 ?_
                    refine lv_iload_n hx hb dX12_nozzle_151 rfl (lv_at hl 3 rfl) ?_
                    refine r_iastN E h (f := σ.2.1 12) (eM_12 cy a (fR (fF σ 0 0) 11 (upd (σ.2.1 11) nz x))) (j := nz) (by omega) (by decide) (qM_12 cy a (fR (fF σ 0 0) 11 (upd (σ.2.1 11) nz x)) (upd (σ.2.1 12) nz y)) dX12_nozzle_152 (fun H locs h => ?_)
                    refine lv_aload_n hx hb dX12_nozzle_153 rfl (lv_at hl 1 rfl) ?_
                    refine r_get E h 21 (v := .ref (a 13)) (eM_0 cy a (fR (fR (fF σ 0 0) 11 (upd (σ.2.1 11) nz x)) 12 (upd (σ.2.1 12) nz y))) rfl fw_X12 (by decide) fl_X12_46 rfl dX12_nozzle_154 ?_
                    refine lv_aload_n hx hb dX12_nozzle_157 rfl (lv_at hl 1 rfl) ?_
                    refine r_get E h 18 (v := .int (nI nz)) (eM_0 cy a (fR (fR (fF σ 0 0) 11 (upd (σ.2.1 11) nz x)) 12 (upd (σ.2.1 12) nz y))) rfl fw_X12 (by decide) fl_X12_149 (congrArg (fun z => some (Value.int z)) hz) dX12_nozzle_158 ?_
                    refine lv_iload_n hx hb dX12_nozzle_161 rfl (lv_at hl 4 rfl) ?_
                    refine r_iastN E h (f := σ.2.1 13) (eM_13 cy a (fR (fR (fF σ 0 0) 11 (upd (σ.2.1 11) nz x)) 12 (upd (σ.2.1 12) nz y))) (j := nz) (by omega) (by decide) (qM_13 cy a (fR (fR (fF σ 0 0) 11 (upd (σ.2.1 11) nz x)) 12 (upd (σ.2.1 12) nz y)) (upd (σ.2.1 13) nz w)) dX12_nozzle_162 (fun H locs h => ?_)
                    refine lv_aload_n hx hb dX12_nozzle_163 rfl (lv_at hl 1 rfl) ?_
                    refine r_get E h 22 (v := .ref (a 14)) (eM_0 cy a (fR (fR (fR (fF σ 0 0) 11 (upd (σ.2.1 11) nz x)) 12 (upd (σ.2.1 12) nz y)) 13 (upd (σ.2.1 13) nz w))) rfl fw_X12 (by decide) fl_X12_49 rfl dX12_nozzle_164 ?_
                    refine lv_aload_n hx hb dX12_nozzle_167 rfl (lv_at hl 1 rfl) ?_
                    refine r_get E h 18 (v := .int (nI nz)) (eM_0 cy a (fR (fR (fR (fF σ 0 0) 11 (upd (σ.2.1 11) nz x)) 12 (upd (σ.2.1 12) nz y)) 13 (upd (σ.2.1 13) nz w))) rfl fw_X12 (by decide) fl_X12_149 (congrArg (fun z => some (Value.int z)) hz) dX12_nozzle_168 ?_
                    refine lv_iload hx hb dX12_nozzle_171 (lv_at hl 5 rfl) ?_
                    refine r_iastN E h (f := σ.2.1 14) (eM_14 cy a (fR (fR (fR (fF σ 0 0) 11 (upd (σ.2.1 11) nz x)) 12 (upd (σ.2.1 12) nz y)) 13 (upd (σ.2.1 13) nz w))) (j := nz) (by omega) (by decide) (qM_14 cy a (fR (fR (fR (fF σ 0 0) 11 (upd (σ.2.1 11) nz x)) 12 (upd (σ.2.1 12) nz y)) 13 (upd (σ.2.1 13) nz w)) (upd (σ.2.1 14) nz v)) dX12_nozzle_173 (fun H locs h => ?_)
                    refine lv_aload_n hx hb dX12_nozzle_174 rfl (lv_at hl 1 rfl) ?_
                    refine r_get E h 23 (v := .ref (a 15)) (eM_0 cy a (fR (fR (fR (fR (fF σ 0 0) 11 (upd (σ.2.1 11) nz x)) 12 (upd (σ.2.1 12) nz y)) 13 (upd (σ.2.1 13) nz w)) 14 (upd (σ.2.1 14) nz v))) rfl fw_X12 (by decide) fl_X12_52 rfl dX12_nozzle_175 ?_
                    refine lv_aload_n hx hb dX12_nozzle_178 rfl (lv_at hl 1 rfl) ?_
                    refine r_get E h 18 (v := .int (nI nz)) (eM_0 cy a (fR (fR (fR (fR (fF σ 0 0) 11 (upd (σ.2.1 11) nz x)) 12 (upd (σ.2.1 12) nz y)) 13 (upd (σ.2.1 13) nz w)) 14 (upd (σ.2.1 14) nz v))) rfl fw_X12 (by decide) fl_X12_149 (congrArg (fun z => some (Value.int z)) hz) dX12_nozzle_179 ?_
                    refine lv_aload_n hx hb dX12_nozzle_182 rfl (lv_at hl 1 rfl) ?_
                    refine r_get E h 2 (v := .int (nI nn)) (eM_0 cy a (fR (fR (fR (fR (fF σ 0 0) 11 (upd (σ.2.1 11) nz x)) 12 (upd (σ.2.1 12) nz y)) 13 (upd (σ.2.1 13) nz w)) 14 (upd (σ.2.1 14) nz v))) rfl fw_X12 (by decide) fl_X12_191 (congrArg (fun z => some (Value.int z)) hnow) dX12_nozzle_183 ?_
                    refine r_iastN E h (f := σ.2.1 15) (eM_15 cy a (fR (fR (fR (fR (fF σ 0 0) 11 (upd (σ.2.1 11) nz x)) 12 (upd (σ.2.1 12) nz y)) 13 (upd (σ.2.1 13) nz w)) 14 (upd (σ.2.1 14) nz v))) (j := nz) (by omega) (by decide) (qM_15 cy a (fR (fR (fR (fR (fF σ 0 0) 11 (upd (σ.2.1 11) nz x)) 12 (upd (σ.2.1 12) nz y)) 13 (upd (σ.2.1 13) nz w)) 14 (upd (σ.2.1 14) nz v)) (upd (σ.2.1 15) nz (nI nn))) dX12_nozzle_186 (fun H locs h => ?_)
                    refine lv_aload_n hx hb dX12_nozzle_187 rfl (lv_at hl 1 rfl) ?_
                    refine r_get E h 24 (v := .ref (a 16)) (eM_0 cy a (fR (fR (fR (fR (fR (fF σ 0 0) 11 (upd (σ.2.1 11) nz x)) 12 (upd (σ.2.1 12) nz y)) 13 (upd (σ.2.1 13) nz w)) 14 (upd (σ.2.1 14) nz v)) 15 (upd (σ.2.1 15) nz (nI nn)))) rfl fw_X12 (by decide) fl_X12_55 rfl dX12_nozzle_188 ?_
                    refine lv_aload_n hx hb dX12_nozzle_191 rfl (lv_at hl 1 rfl) ?_
                    refine r_get E h 18 (v := .int (nI nz)) (eM_0 cy a (fR (fR (fR (fR (fR (fF σ 0 0) 11 (upd (σ.2.1 11) nz x)) 12 (upd (σ.2.1 12) nz y)) 13 (upd (σ.2.1 13) nz w)) 14 (upd (σ.2.1 14) nz v)) 15 (upd (σ.2.1 15) nz (nI nn)))) rfl fw_X12 (by decide) fl_X12_149 (congrArg (fun z => some (Value.int z)) hz) dX12_nozzle_192 ?_
                    refine lv_sipush (v := 1000) hx hb dX12_nozzle_195 (by decide) ?_
                    refine r_iastN E h (f := σ.2.1 16) (eM_16 cy a (fR (fR (fR (fR (fR (fF σ 0 0) 11 (upd (σ.2.1 11) nz x)) 12 (upd (σ.2.1 12) nz y)) 13 (upd (σ.2.1 13) nz w)) 14 (upd (σ.2.1 14) nz v)) 15 (upd (σ.2.1 15) nz (nI nn)))) (j := nz) (by omega) (by decide) (qM_16 cy a (fR (fR (fR (fR (fR (fF σ 0 0) 11 (upd (σ.2.1 11) nz x)) 12 (upd (σ.2.1 12) nz y)) 13 (upd (σ.2.1 13) nz w)) 14 (upd (σ.2.1 14) nz v)) 15 (upd (σ.2.1 15) nz (nI nn))) (upd (σ.2.1 16) nz 1000)) dX12_nozzle_198 (fun H locs h => ?_)
                    refine lv_aload_n hx hb dX12_nozzle_199 rfl (lv_at hl 1 rfl) ?_
                    refine lv_dup hx hb dX12_nozzle_200 rfl ?_
                    refine r_get E h 18 (v := .int (nI nz)) (eM_0 cy a (fR (fR (fR (fR (fR (fR (fF σ 0 0) 11 (upd (σ.2.1 11) nz x)) 12 (upd (σ.2.1 12) nz y)) 13 (upd (σ.2.1 13) nz w)) 14 (upd (σ.2.1 14) nz v)) 15 (upd (σ.2.1 15) nz (nI nn))) 16 (upd (σ.2.1 16) nz 1000))) rfl fw_X12 (by decide) fl_X12_149 (congrArg (fun z => some (Value.int z)) hz) dX12_nozzle_201 ?_
                    refine lv_iconst (v := 1) hx hb dX12_nozzle_204 (by decide) ?_
                    refine n_add (j := nz) (k := 1) hx hb dX12_nozzle_205 ?_
                    refine r_put E h 18 (ty := .int) (eM_0 cy a (fR (fR (fR (fR (fR (fR (fF σ 0 0) 11 (upd (σ.2.1 11) nz x)) 12 (upd (σ.2.1 12) nz y)) 13 (upd (σ.2.1 13) nz w)) 14 (upd (σ.2.1 14) nz v)) 15 (upd (σ.2.1 15) nz (nI nn))) 16 (upd (σ.2.1 16) nz 1000))) rfl fw_X12 tyX12_ok nmX12 (by decide) fl_X12_149 rfl (by decide +kernel) rfl rfl (Nat.le_of_ble_eq_true rfl) (sM_8 cy a (fR (fR (fR (fR (fR (fR (fF σ 0 0) 11 (upd (σ.2.1 11) nz x)) 12 (upd (σ.2.1 12) nz y)) 13 (upd (σ.2.1 13) nz w)) 14 (upd (σ.2.1 14) nz v)) 15 (upd (σ.2.1 15) nz (nI nn))) 16 (upd (σ.2.1 16) nz 1000)) (nI (nz + 1))) dX12_nozzle_206 (fun H locs h => ?_)
                    refine lv_aload_n hx hb dX12_nozzle_209 rfl (lv_at hl 1 rfl) ?_
                    refine lv_aload_n hx hb dX12_nozzle_210 rfl (lv_at hl 1 rfl) ?_
                    refine r_get E h 18 (v := .int (nI (nz + 1))) (eM_0 cy a (fF (fR (fR (fR (fR (fR (fR (fF σ 0 0) 11 (upd (σ.2.1 11) nz x)) 12 (upd (σ.2.1 12) nz y)) 13 (upd (σ.2.1 13) nz w)) 14 (upd (σ.2.1 14) nz v)) 15 (upd (σ.2.1 15) nz (nI nn))) 16 (upd (σ.2.1 16) nz 1000)) 8 (nI (nz + 1)))) rfl fw_X12 (by decide) fl_X12_149 rfl dX12_nozzle_211 ?_
                    refine lv_iconst (v := 1) hx hb dX12_nozzle_214 (by decide) ?_
                    refine n_sub1 hx hb dX12_nozzle_215 ?_
                    refine k_i h (q_runV (As := [.int (nI nz)]) (rest := []) E h (c_X12_told l D cy a (fF (fR (fR (fR (fR (fR (fR (fF σ 0 0) 11 (upd (σ.2.1 11) nz x)) 12 (upd (σ.2.1 12) nz y)) 13 (upd (σ.2.1 13) nz w)) 14 (upd (σ.2.1 14) nz v)) 15 (upd (σ.2.1 15) nz (nI nn))) 16 (upd (σ.2.1 16) nz 1000)) 8 (nI (nz + 1))) (nI nz)) co_X12_told ml_X12_154 im_X12_told se_X12_told in_X12 (eM_0 cy a (fF (fR (fR (fR (fR (fR (fR (fF σ 0 0) 11 (upd (σ.2.1 11) nz x)) 12 (upd (σ.2.1 12) nz y)) 13 (upd (σ.2.1 13) nz w)) 14 (upd (σ.2.1 14) nz v)) 15 (upd (σ.2.1 15) nz (nI nn))) 16 (upd (σ.2.1 16) nz 1000)) 8 (nI (nz + 1)))) rfl ok_X12_told rfl ⟨by decide, by decide⟩ hl.1 rfl (Nat.le_of_ble_eq_true rfl) dX12_nozzle_216 ⟨Nat.zero_le _, Nat.zero_le _⟩) (wM_fst cy a) (fun r216 τ216 H locs p216 h => ?_)
                    refine t_i E h hr hk ?_ dX12_nozzle_219
                    obtain ⟨v9, e9⟩ := p216.2
                    have k9 : K [2, 3, 4, 5, 6, 7, 9, 10, 11, 13] [1, 2, 3, 4, 5, 6, 7, 8, 9, 10, 17, 18, 19, 20, 21, 22, 23, 24, 25, 26, 27, 29] σ τ216 := by rw [e9]; exact (((((((((K.rf.F 0 _ (by decide)).R 11 _ (by decide)).R 12 _ (by decide)).R 13 _ (by decide)).R 14 _ (by decide)).R 15 _ (by decide)).R 16 _ (by decide)).F 8 _ (by decide)).F 1 _ (by decide))
                    exact ⟨k9, gm_no hz (by omega) (by rw [e9]; rfl) (by rw [e9]; rfl) (wt_of (w11.t c14) (by decide) (by decide)) g k9⟩
                  · refine lv_aload_n hx hb dX12_nozzle_126 rfl (lv_at hl 1 rfl) ?_
                    refine lv_bipush (v := -5) hx hb dX12_nozzle_127 (by decide) ?_
                    refine k_i h (q_runV (As := [.int (-5)]) (rest := []) E h (c_X12_told l D cy a (fF σ 0 0) (-5)) co_X12_told ml_X12_154 im_X12_told se_X12_told in_X12 (eM_0 cy a (fF σ 0 0)) rfl ok_X12_told rfl ⟨by decide, by decide⟩ hl.1 rfl (Nat.le_of_ble_eq_true rfl) dX12_nozzle_129 ⟨Nat.zero_le _, Nat.zero_le _⟩) (wM_fst cy a) (fun r129 τ129 H locs p129 h => ?_)
                    refine t_i E h hr hk ?_ dX12_nozzle_132
                    obtain ⟨v9, e9⟩ := p129.2
                    have k9 : K mF mA σ τ129 := by rw [e9]; exact (K.rf.F 0 _ (by decide)).F 1 _ (by decide)
                    exact ⟨KZ_of k9, g.kept k9⟩
                · refine lv_iload_n hx hb dX12_nozzle_104 rfl (lv_at hl 3 rfl) ?_
                  refine lv_iload hx hb dX12_nozzle_105 (lv_at hl 0 rfl) ?_
                  refine lv_icmp_le (tgt := 117) hx hb dX12_nozzle_107 (by decide) (fun c107 => ?_) (fun c107 => ?_)
                  · refine lv_aload_n hx hb dX12_nozzle_117 rfl (lv_at hl 1 rfl) ?_
                    refine r_get E h 18 (v := .int (nI nz)) (eM_0 cy a (fF σ 0 0)) rfl fw_X12 (by decide) fl_X12_149 (congrArg (fun z => some (Value.int z)) hz) dX12_nozzle_118 ?_
                    refine lv_bipush (v := 80) hx hb dX12_nozzle_121 (by decide) ?_
                    refine lv_icmp_ne (tgt := 133) hx hb dX12_nozzle_123 (by decide) (fun c123 => ?_) (fun c123 => ?_)
                    · have c123 : nz ≠ 80 := n_ne (k := 80) c123
                      refine lv_aload_n hx hb dX12_nozzle_133 rfl (lv_at hl 1 rfl) ?_
                      refine r_get E h 19 (v := .ref (a 11)) (eM_0 cy a (fF σ 0 0)) rfl fw_X12 (by decide) fl_X12_40 rfl dX12_nozzle_134 ?_
                      refine lv_aload_n hx hb dX12_nozzle_137 rfl (lv_at hl 1 rfl) ?_
                      refine r_get E h 18 (v := .int (nI nz)) (eM_0 cy a (fF σ 0 0)) rfl fw_X12 (by decide) fl_X12_149 (congrArg (fun z => some (Value.int z)) hz) dX12_nozzle_138 ?_
                      refine lv_iload_n hx hb dX12_nozzle_141 rfl (lv_at hl 2 rfl) ?_
                      refine r_iastN E h (f := σ.2.1 11) (eM_11 cy a (fF σ 0 0)) (j := nz) (by omega) (by decide) (qM_11 cy a (fF σ 0 0) (upd (σ.2.1 11) nz x)) dX12_nozzle_142 (fun H locs h => ?_)
                      refine lv_aload_n hx hb dX12_nozzle_143 rfl (lv_at hl 1 rfl) ?_
                      refine r_get E h 20 (v := .ref (a 12)) (eM_0 cy a (fR (fF σ 0 0) 11 (upd (σ.2.1 11) nz x))) rfl fw_X12 (by decide) fl_X12_43 rfl dX12_nozzle_144 ?_
                      refine lv_aload_n hx hb dX12_nozzle_147 rfl (lv_at hl 1 rfl) ?_
                      refine r_get E h 18 (v := .int (nI nz)) (eM_0 cy a (fR (fF σ 0 0) 11 (upd (σ.2.1 11) nz x))) rfl fw_X12 (by decide) fl_X12_149 (congrArg (fun z => some (Value.int z)) hz) dX12_nozzle_148 ?_
                      refine lv_iload_n hx hb dX12_nozzle_151 rfl (lv_at hl 3 rfl) ?_
                      refine r_iastN E h (f := σ.2.1 12) (eM_12 cy a (fR (fF σ 0 0) 11 (upd (σ.2.1 11) nz x))) (j := nz) (by omega) (by decide) (qM_12 cy a (fR (fF σ 0 0) 11 (upd (σ.2.1 11) nz x)) (upd (σ.2.1 12) nz y)) dX12_nozzle_152 (fun H locs h => ?_)
                      refine lv_aload_n hx hb dX12_nozzle_153 rfl (lv_at hl 1 rfl) ?_
                      refine r_get E h 21 (v := .ref (a 13)) (eM_0 cy a (fR (fR (fF σ 0 0) 11 (upd (σ.2.1 11) nz x)) 12 (upd (σ.2.1 12) nz y))) rfl fw_X12 (by decide) fl_X12_46 rfl dX12_nozzle_154 ?_
                      refine lv_aload_n hx hb dX12_nozzle_157 rfl (lv_at hl 1 rfl) ?_
                      refine r_get E h 18 (v := .int (nI nz)) (eM_0 cy a (fR (fR (fF σ 0 0) 11 (upd (σ.2.1 11) nz x)) 12 (upd (σ.2.1 12) nz y))) rfl fw_X12 (by decide) fl_X12_149 (congrArg (fun z => some (Value.int z)) hz) dX12_nozzle_158 ?_
                      refine lv_iload_n hx hb dX12_nozzle_161 rfl (lv_at hl 4 rfl) ?_
                      refine r_iastN E h (f := σ.2.1 13) (eM_13 cy a (fR (fR (fF σ 0 0) 11 (upd (σ.2.1 11) nz x)) 12 (upd (σ.2.1 12) nz y))) (j := nz) (by omega) (by decide) (qM_13 cy a (fR (fR (fF σ 0 0) 11 (upd (σ.2.1 11) nz x)) 12 (upd (σ.2.1 12) nz y)) (upd (σ.2.1 13) nz w)) dX12_nozzle_162 (fun H locs h => ?_)
                      refine lv_aload_n hx hb dX12_nozzle_163 rfl (lv_at hl 1 rfl) ?_
                      refine r_get E h 22 (v := .ref (a 14)) (eM_0 cy a (fR (fR (fR (fF σ 0 0) 11 (upd (σ.2.1 11) nz x)) 12 (upd (σ.2.1 12) nz y)) 13 (upd (σ.2.1 13) nz w))) rfl fw_X12 (by decide) fl_X12_49 rfl dX12_nozzle_164 ?_
                      refine lv_aload_n hx hb dX12_nozzle_167 rfl (lv_at hl 1 rfl) ?_
                      refine r_get E h 18 (v := .int (nI nz)) (eM_0 cy a (fR (fR (fR (fF σ 0 0) 11 (upd (σ.2.1 11) nz x)) 12 (upd (σ.2.1 12) nz y)) 13 (upd (σ.2.1 13) nz w))) rfl fw_X12 (by decide) fl_X12_149 (congrArg (fun z => some (Value.int z)) hz) dX12_nozzle_168 ?_
                      refine lv_iload hx hb dX12_nozzle_171 (lv_at hl 5 rfl) ?_
                      refine r_iastN E h (f := σ.2.1 14) (eM_14 cy a (fR (fR (fR (fF σ 0 0) 11 (upd (σ.2.1 11) nz x)) 12 (upd (σ.2.1 12) nz y)) 13 (upd (σ.2.1 13) nz w))) (j := nz) (by omega) (by decide) (qM_14 cy a (fR (fR (fR (fF σ 0 0) 11 (upd (σ.2.1 11) nz x)) 12 (upd (σ.2.1 12) nz y)) 13 (upd (σ.2.1 13) nz w)) (upd (σ.2.1 14) nz v)) dX12_nozzle_173 (fun H locs h => ?_)
                      refine lv_aload_n hx hb dX12_nozzle_174 rfl (lv_at hl 1 rfl) ?_
                      refine r_get E h 23 (v := .ref (a 15)) (eM_0 cy a (fR (fR (fR (fR (fF σ 0 0) 11 (upd (σ.2.1 11) nz x)) 12 (upd (σ.2.1 12) nz y)) 13 (upd (σ.2.1 13) nz w)) 14 (upd (σ.2.1 14) nz v))) rfl fw_X12 (by decide) fl_X12_52 rfl dX12_nozzle_175 ?_
                      refine lv_aload_n hx hb dX12_nozzle_178 rfl (lv_at hl 1 rfl) ?_
                      refine r_get E h 18 (v := .int (nI nz)) (eM_0 cy a (fR (fR (fR (fR (fF σ 0 0) 11 (upd (σ.2.1 11) nz x)) 12 (upd (σ.2.1 12) nz y)) 13 (upd (σ.2.1 13) nz w)) 14 (upd (σ.2.1 14) nz v))) rfl fw_X12 (by decide) fl_X12_149 (congrArg (fun z => some (Value.int z)) hz) dX12_nozzle_179 ?_
                      refine lv_aload_n hx hb dX12_nozzle_182 rfl (lv_at hl 1 rfl) ?_
                      refine r_get E h 2 (v := .int (nI nn)) (eM_0 cy a (fR (fR (fR (fR (fF σ 0 0) 11 (upd (σ.2.1 11) nz x)) 12 (upd (σ.2.1 12) nz y)) 13 (upd (σ.2.1 13) nz w)) 14 (upd (σ.2.1 14) nz v))) rfl fw_X12 (by decide) fl_X12_191 (congrArg (fun z => some (Value.int z)) hnow) dX12_nozzle_183 ?_
                      refine r_iastN E h (f := σ.2.1 15) (eM_15 cy a (fR (fR (fR (fR (fF σ 0 0) 11 (upd (σ.2.1 11) nz x)) 12 (upd (σ.2.1 12) nz y)) 13 (upd (σ.2.1 13) nz w)) 14 (upd (σ.2.1 14) nz v))) (j := nz) (by omega) (by decide) (qM_15 cy a (fR (fR (fR (fR (fF σ 0 0) 11 (upd (σ.2.1 11) nz x)) 12 (upd (σ.2.1 12) nz y)) 13 (upd (σ.2.1 13) nz w)) 14 (upd (σ.2.1 14) nz v)) (upd (σ.2.1 15) nz (nI nn))) dX12_nozzle_186 (fun H locs h => ?_)
                      refine lv_aload_n hx hb dX12_nozzle_187 rfl (lv_at hl 1 rfl) ?_
                      refine r_get E h 24 (v := .ref (a 16)) (eM_0 cy a (fR (fR (fR (fR (fR (fF σ 0 0) 11 (upd (σ.2.1 11) nz x)) 12 (upd (σ.2.1 12) nz y)) 13 (upd (σ.2.1 13) nz w)) 14 (upd (σ.2.1 14) nz v)) 15 (upd (σ.2.1 15) nz (nI nn)))) rfl fw_X12 (by decide) fl_X12_55 rfl dX12_nozzle_188 ?_
                      refine lv_aload_n hx hb dX12_nozzle_191 rfl (lv_at hl 1 rfl) ?_
                      refine r_get E h 18 (v := .int (nI nz)) (eM_0 cy a (fR (fR (fR (fR (fR (fF σ 0 0) 11 (upd (σ.2.1 11) nz x)) 12 (upd (σ.2.1 12) nz y)) 13 (upd (σ.2.1 13) nz w)) 14 (upd (σ.2.1 14) nz v)) 15 (upd (σ.2.1 15) nz (nI nn)))) rfl fw_X12 (by decide) fl_X12_149 (congrArg (fun z => some (Value.int z)) hz) dX12_nozzle_192 ?_
                      refine lv_sipush (v := 1000) hx hb dX12_nozzle_195 (by decide) ?_
                      refine r_iastN E h (f := σ.2.1 16) (eM_16 cy a (fR (fR (fR (fR (fR (fF σ 0 0) 11 (upd (σ.2.1 11) nz x)) 12 (upd (σ.2.1 12) nz y)) 13 (upd (σ.2.1 13) nz w)) 14 (upd (σ.2.1 14) nz v)) 15 (upd (σ.2.1 15) nz (nI nn)))) (j := nz) (by omega) (by decide) (qM_16 cy a (fR (fR (fR (fR (fR (fF σ 0 0) 11 (upd (σ.2.1 11) nz x)) 12 (upd (σ.2.1 12) nz y)) 13 (upd (σ.2.1 13) nz w)) 14 (upd (σ.2.1 14) nz v)) 15 (upd (σ.2.1 15) nz (nI nn))) (upd (σ.2.1 16) nz 1000)) dX12_nozzle_198 (fun H locs h => ?_)
                      refine lv_aload_n hx hb dX12_nozzle_199 rfl (lv_at hl 1 rfl) ?_
                      refine lv_dup hx hb dX12_nozzle_200 rfl ?_
                      refine r_get E h 18 (v := .int (nI nz)) (eM_0 cy a (fR (fR (fR (fR (fR (fR (fF σ 0 0) 11 (upd (σ.2.1 11) nz x)) 12 (upd (σ.2.1 12) nz y)) 13 (upd (σ.2.1 13) nz w)) 14 (upd (σ.2.1 14) nz v)) 15 (upd (σ.2.1 15) nz (nI nn))) 16 (upd (σ.2.1 16) nz 1000))) rfl fw_X12 (by decide) fl_X12_149 (congrArg (fun z => some (Value.int z)) hz) dX12_nozzle_201 ?_
                      refine lv_iconst (v := 1) hx hb dX12_nozzle_204 (by decide) ?_
                      refine n_add (j := nz) (k := 1) hx hb dX12_nozzle_205 ?_
                      refine r_put E h 18 (ty := .int) (eM_0 cy a (fR (fR (fR (fR (fR (fR (fF σ 0 0) 11 (upd (σ.2.1 11) nz x)) 12 (upd (σ.2.1 12) nz y)) 13 (upd (σ.2.1 13) nz w)) 14 (upd (σ.2.1 14) nz v)) 15 (upd (σ.2.1 15) nz (nI nn))) 16 (upd (σ.2.1 16) nz 1000))) rfl fw_X12 tyX12_ok nmX12 (by decide) fl_X12_149 rfl (by decide +kernel) rfl rfl (Nat.le_of_ble_eq_true rfl) (sM_8 cy a (fR (fR (fR (fR (fR (fR (fF σ 0 0) 11 (upd (σ.2.1 11) nz x)) 12 (upd (σ.2.1 12) nz y)) 13 (upd (σ.2.1 13) nz w)) 14 (upd (σ.2.1 14) nz v)) 15 (upd (σ.2.1 15) nz (nI nn))) 16 (upd (σ.2.1 16) nz 1000)) (nI (nz + 1))) dX12_nozzle_206 (fun H locs h => ?_)
                      refine lv_aload_n hx hb dX12_nozzle_209 rfl (lv_at hl 1 rfl) ?_
                      refine lv_aload_n hx hb dX12_nozzle_210 rfl (lv_at hl 1 rfl) ?_
                      refine r_get E h 18 (v := .int (nI (nz + 1))) (eM_0 cy a (fF (fR (fR (fR (fR (fR (fR (fF σ 0 0) 11 (upd (σ.2.1 11) nz x)) 12 (upd (σ.2.1 12) nz y)) 13 (upd (σ.2.1 13) nz w)) 14 (upd (σ.2.1 14) nz v)) 15 (upd (σ.2.1 15) nz (nI nn))) 16 (upd (σ.2.1 16) nz 1000)) 8 (nI (nz + 1)))) rfl fw_X12 (by decide) fl_X12_149 rfl dX12_nozzle_211 ?_
                      refine lv_iconst (v := 1) hx hb dX12_nozzle_214 (by decide) ?_
                      refine n_sub1 hx hb dX12_nozzle_215 ?_
                      refine k_i h (q_runV (As := [.int (nI nz)]) (rest := []) E h (c_X12_told l D cy a (fF (fR (fR (fR (fR (fR (fR (fF σ 0 0) 11 (upd (σ.2.1 11) nz x)) 12 (upd (σ.2.1 12) nz y)) 13 (upd (σ.2.1 13) nz w)) 14 (upd (σ.2.1 14) nz v)) 15 (upd (σ.2.1 15) nz (nI nn))) 16 (upd (σ.2.1 16) nz 1000)) 8 (nI (nz + 1))) (nI nz)) co_X12_told ml_X12_154 im_X12_told se_X12_told in_X12 (eM_0 cy a (fF (fR (fR (fR (fR (fR (fR (fF σ 0 0) 11 (upd (σ.2.1 11) nz x)) 12 (upd (σ.2.1 12) nz y)) 13 (upd (σ.2.1 13) nz w)) 14 (upd (σ.2.1 14) nz v)) 15 (upd (σ.2.1 15) nz (nI nn))) 16 (upd (σ.2.1 16) nz 1000)) 8 (nI (nz + 1)))) rfl ok_X12_told rfl ⟨by decide, by decide⟩ hl.1 rfl (Nat.le_of_ble_eq_true rfl) dX12_nozzle_216 ⟨Nat.zero_le _, Nat.zero_le _⟩) (wM_fst cy a) (fun r216 τ216 H locs p216 h => ?_)
                      refine t_i E h hr hk ?_ dX12_nozzle_219
                      obtain ⟨v9, e9⟩ := p216.2
                      have k9 : K [2, 3, 4, 5, 6, 7, 9, 10, 11, 13] [1, 2, 3, 4, 5, 6, 7, 8, 9, 10, 17, 18, 19, 20, 21, 22, 23, 24, 25, 26, 27, 29] σ τ216 := by rw [e9]; exact (((((((((K.rf.F 0 _ (by decide)).R 11 _ (by decide)).R 12 _ (by decide)).R 13 _ (by decide)).R 14 _ (by decide)).R 15 _ (by decide)).R 16 _ (by decide)).F 8 _ (by decide)).F 1 _ (by decide))
                      exact ⟨k9, gm_no hz (by omega) (by rw [e9]; rfl) (by rw [e9]; rfl) (wt_of (w11.t c14) (by decide) (by decide)) g k9⟩
                    · refine lv_aload_n hx hb dX12_nozzle_126 rfl (lv_at hl 1 rfl) ?_
                      refine lv_bipush (v := -5) hx hb dX12_nozzle_127 (by decide) ?_
                      refine k_i h (q_runV (As := [.int (-5)]) (rest := []) E h (c_X12_told l D cy a (fF σ 0 0) (-5)) co_X12_told ml_X12_154 im_X12_told se_X12_told in_X12 (eM_0 cy a (fF σ 0 0)) rfl ok_X12_told rfl ⟨by decide, by decide⟩ hl.1 rfl (Nat.le_of_ble_eq_true rfl) dX12_nozzle_129 ⟨Nat.zero_le _, Nat.zero_le _⟩) (wM_fst cy a) (fun r129 τ129 H locs p129 h => ?_)
                      refine t_i E h hr hk ?_ dX12_nozzle_132
                      obtain ⟨v9, e9⟩ := p129.2
                      have k9 : K mF mA σ τ129 := by rw [e9]; exact (K.rf.F 0 _ (by decide)).F 1 _ (by decide)
                      exact ⟨KZ_of k9, g.kept k9⟩
                  · refine lv_aload_n hx hb dX12_nozzle_110 rfl (lv_at hl 1 rfl) ?_
                    refine lv_bipush (v := -3) hx hb dX12_nozzle_111 (by decide) ?_
                    refine k_i h (q_runV (As := [.int (-3)]) (rest := []) E h (c_X12_told l D cy a (fF σ 0 0) (-3)) co_X12_told ml_X12_154 im_X12_told se_X12_told in_X12 (eM_0 cy a (fF σ 0 0)) rfl ok_X12_told rfl ⟨by decide, by decide⟩ hl.1 rfl (Nat.le_of_ble_eq_true rfl) dX12_nozzle_113 ⟨Nat.zero_le _, Nat.zero_le _⟩) (wM_fst cy a) (fun r113 τ113 H locs p113 h => ?_)
                    refine t_i E h hr hk ?_ dX12_nozzle_116
                    obtain ⟨v9, e9⟩ := p113.2
                    have k9 : K mF mA σ τ113 := by rw [e9]; exact (K.rf.F 0 _ (by decide)).F 1 _ (by decide)
                    exact ⟨KZ_of k9, g.kept k9⟩
            · refine lv_aload_n hx hb dX12_nozzle_75 rfl (lv_at hl 0 rfl) ?_
              refine lv_bipush (v := -2) hx hb dX12_nozzle_76 (by decide) ?_
              refine k_i h (q_runV (As := [.int (-2)]) (rest := []) E h (c_X12_told l D cy a (fF σ 0 0) (-2)) co_X12_told ml_X12_154 im_X12_told se_X12_told in_X12 (eM_0 cy a (fF σ 0 0)) rfl ok_X12_told rfl ⟨by decide, by decide⟩ hl.1 rfl (Nat.le_of_ble_eq_true rfl) dX12_nozzle_78 ⟨Nat.zero_le _, Nat.zero_le _⟩) (wM_fst cy a) (fun r78 τ78 H locs p78 h => ?_)
              refine t_i E h hr hk ?_ dX12_nozzle_81
              obtain ⟨v9, e9⟩ := p78.2
              have k9 : K mF mA σ τ78 := by rw [e9]; exact (K.rf.F 0 _ (by decide)).F 1 _ (by decide)
              exact ⟨KZ_of k9, g.kept k9⟩
      · refine lv_iload hx hb dX12_nozzle_34 (lv_at hl 4 rfl) ?_
        refine lv_i2l hx hb dX12_nozzle_36 rfl ?_
        refine lv_lconst (v := 0) hx hb dX12_nozzle_37 (by decide) ?_
        refine lv_ldc2 (v := 7) hx hb E.2.2.2.1 (E.2.2.2.2.1 _ kl_X12_186) dX12_nozzle_38 ?_
        refine k_i h (q_runS (As := [.long v.toInt64, .long 0, .long 7]) (rest := []) E h (c_X12_in l D cy a (fF σ 0 0) v.toInt64 0 7) co_X12_in ml_X12_139 st_X12_in in_X12 rfl ok_X12_in rfl ⟨by decide, by decide⟩ hl.1 rfl (Nat.le_of_ble_eq_true rfl) dX12_nozzle_41 ⟨Nat.zero_le _, Nat.zero_le _⟩) (wM_fst cy a) (fun r41 τ41 H locs p41 h => ?_)
        rw [p41.1] at h
        refine lv_if_ne (tgt := 53) hx hb dX12_nozzle_44 (by decide) (fun c44 => ?_) (fun c44 => ?_)
        · refine lv_aload_n hx hb dX12_nozzle_53 rfl (lv_at hl 0 rfl) ?_
          refine lv_iload_n hx hb dX12_nozzle_54 rfl (lv_at hl 1 rfl) ?_
          refine k_i h (q_runV (As := [.int x]) (rest := []) E h (c_X12_isCastle l D cy a (fF σ 0 0) x nc hc (by omega)) co_X12_isCastle ml_X12_188 im_X12_isCastle se_X12_isCastle in_X12 (eM_0 cy a (fF σ 0 0)) rfl ok_X12_isCastle rfl ⟨by decide, by decide⟩ hl.1 rfl (Nat.le_of_ble_eq_true rfl) dX12_nozzle_55 ⟨Nat.zero_le _, Nat.zero_le _⟩) (wM_fst cy a) (fun r55 τ55 H locs p55 h => ?_)
          rw [p55.1] at h
          refine lv_if_eq (tgt := 75) hx hb dX12_nozzle_58 (by decide) (fun c58 => ?_) (fun c58 => ?_)
          · refine lv_aload_n hx hb dX12_nozzle_75 rfl (lv_at hl 0 rfl) ?_
            refine lv_bipush (v := -2) hx hb dX12_nozzle_76 (by decide) ?_
            refine k_i h (q_runV (As := [.int (-2)]) (rest := []) E h (c_X12_told l D cy a (fF σ 0 0) (-2)) co_X12_told ml_X12_154 im_X12_told se_X12_told in_X12 (eM_0 cy a (fF σ 0 0)) rfl ok_X12_told rfl ⟨by decide, by decide⟩ hl.1 rfl (Nat.le_of_ble_eq_true rfl) dX12_nozzle_78 ⟨Nat.zero_le _, Nat.zero_le _⟩) (wM_fst cy a) (fun r78 τ78 H locs p78 h => ?_)
            refine t_i E h hr hk ?_ dX12_nozzle_81
            obtain ⟨v9, e9⟩ := p78.2
            have k9 : K mF mA σ τ78 := by rw [e9]; exact (K.rf.F 0 _ (by decide)).F 1 _ (by decide)
            exact ⟨KZ_of k9, g.kept k9⟩
          · refine lv_iload_n hx hb dX12_nozzle_61 rfl (lv_at hl 3 rfl) ?_
            refine lv_iconst (v := 2) hx hb dX12_nozzle_62 (by decide) ?_
            refine lv_icmp_ne (tgt := 82) hx hb dX12_nozzle_63 (by decide) (fun c63 => ?_) (fun c63 => ?_)
            · refine lv_aload_n hx hb dX12_nozzle_82 rfl (lv_at hl 0 rfl) ?_
              refine lv_aload_n hx hb dX12_nozzle_83 rfl (lv_at hl 0 rfl) ?_
              refine r_get E h 2 (v := .int (nI nn)) (eM_0 cy a (fF σ 0 0)) rfl fw_X12 (by decide) fl_X12_191 (congrArg (fun z => some (Value.int z)) hnow) dX12_nozzle_84 ?_
              refine lv_iconst (v := 4) hx hb dX12_nozzle_87 (by decide) ?_
              refine k_i h (q_runV (As := [.int (nI nn), .int 4]) (rest := []) E h (c_X12_lawOf l D cy a (fF σ 0 0) (nI nn) 4 nl hla hl3) co_X12_lawOf ml_X12_194 im_X12_lawOf se_X12_lawOf in_X12 (eM_0 cy a (fF σ 0 0)) rfl ok_X12_lawOf rfl ⟨by decide, by decide⟩ hl.1 rfl (Nat.le_of_ble_eq_true rfl) dX12_nozzle_88 ⟨Nat.zero_le _, Nat.zero_le _⟩) (wM_fst cy a) (fun r88 τ88 H locs p88 h => ?_)
              rw [p88.1] at h
              refine lv_istore (lv' := [(5, .int r88), (0, .ref (a 0)), (1, .int x), (2, .int y), (3, .int w), (4, .int v)]) hx hb dX12_nozzle_91 hl (by decide) rfl (fun ls hl => ?_)
              refine lv_iload_n hx hb dX12_nozzle_93 rfl (lv_at hl 4 rfl) ?_
              refine lv_iconst (v := 2) hx hb dX12_nozzle_94 (by decide) ?_
              refine lv_icmp_ne (tgt := 117) hx hb dX12_nozzle_95 (by decide) (fun c95 => ?_) (fun c95 => ?_)
              · refine lv_aload_n hx hb dX12_nozzle_117 rfl (lv_at hl 1 rfl) ?_
                refine r_get E h 18 (v := .int (nI nz)) (eM_0 cy a (fF σ 0 0)) rfl fw_X12 (by decide) fl_X12_149 (congrArg (fun z => some (Value.int z)) hz) dX12_nozzle_118 ?_
                refine lv_bipush (v := 80) hx hb dX12_nozzle_121 (by decide) ?_
                refine lv_icmp_ne (tgt := 133) hx hb dX12_nozzle_123 (by decide) (fun c123 => ?_) (fun c123 => ?_)
                · have c123 : nz ≠ 80 := n_ne (k := 80) c123
                  refine lv_aload_n hx hb dX12_nozzle_133 rfl (lv_at hl 1 rfl) ?_
                  refine r_get E h 19 (v := .ref (a 11)) (eM_0 cy a (fF σ 0 0)) rfl fw_X12 (by decide) fl_X12_40 rfl dX12_nozzle_134 ?_
                  refine lv_aload_n hx hb dX12_nozzle_137 rfl (lv_at hl 1 rfl) ?_
                  refine r_get E h 18 (v := .int (nI nz)) (eM_0 cy a (fF σ 0 0)) rfl fw_X12 (by decide) fl_X12_149 (congrArg (fun z => some (Value.int z)) hz) dX12_nozzle_138 ?_
                  refine lv_iload_n hx hb dX12_nozzle_141 rfl (lv_at hl 2 rfl) ?_
                  refine r_iastN E h (f := σ.2.1 11) (eM_11 cy a (fF σ 0 0)) (j := nz) (by omega) (by decide) (qM_11 cy a (fF σ 0 0) (upd (σ.2.1 11) nz x)) dX12_nozzle_142 (fun H locs h => ?_)
                  refine lv_aload_n hx hb dX12_nozzle_143 rfl (lv_at hl 1 rfl) ?_
                  refine r_get E h 20 (v := .ref (a 12)) (eM_0 cy a (fR (fF σ 0 0) 11 (upd (σ.2.1 11) nz x))) rfl fw_X12 (by decide) fl_X12_43 rfl dX12_nozzle_144 ?_
                  refine lv_aload_n hx hb dX12_nozzle_147 rfl (lv_at hl 1 rfl) ?_
                  refine r_get E h 18 (v := .int (nI nz)) (eM_0 cy a (fR (fF σ 0 0) 11 (upd (σ.2.1 11) nz x))) rfl fw_X12 (by decide) fl_X12_149 (congrArg (fun z => some (Value.int z)) hz) dX12_nozzle_148 ?_
                  refine lv_iload_n hx hb dX12_nozzle_151 rfl (lv_at hl 3 rfl) ?_
                  refine r_iastN E h (f := σ.2.1 12) (eM_12 cy a (fR (fF σ 0 0) 11 (upd (σ.2.1 11) nz x))) (j := nz) (by omega) (by decide) (qM_12 cy a (fR (fF σ 0 0) 11 (upd (σ.2.1 11) nz x)) (upd (σ.2.1 12) nz y)) dX12_nozzle_152 (fun H locs h => ?_)
                  refine lv_aload_n hx hb dX12_nozzle_153 rfl (lv_at hl 1 rfl) ?_
                  refine r_get E h 21 (v := .ref (a 13)) (eM_0 cy a (fR (fR (fF σ 0 0) 11 (upd (σ.2.1 11) nz x)) 12 (upd (σ.2.1 12) nz y))) rfl fw_X12 (by decide) fl_X12_46 rfl dX12_nozzle_154 ?_
                  refine lv_aload_n hx hb dX12_nozzle_157 rfl (lv_at hl 1 rfl) ?_
                  refine r_get E h 18 (v := .int (nI nz)) (eM_0 cy a (fR (fR (fF σ 0 0) 11 (upd (σ.2.1 11) nz x)) 12 (upd (σ.2.1 12) nz y))) rfl fw_X12 (by decide) fl_X12_149 (congrArg (fun z => some (Value.int z)) hz) dX12_nozzle_158 ?_
                  refine lv_iload_n hx hb dX12_nozzle_161 rfl (lv_at hl 4 rfl) ?_
                  refine r_iastN E h (f := σ.2.1 13) (eM_13 cy a (fR (fR (fF σ 0 0) 11 (upd (σ.2.1 11) nz x)) 12 (upd (σ.2.1 12) nz y))) (j := nz) (by omega) (by decide) (qM_13 cy a (fR (fR (fF σ 0 0) 11 (upd (σ.2.1 11) nz x)) 12 (upd (σ.2.1 12) nz y)) (upd (σ.2.1 13) nz w)) dX12_nozzle_162 (fun H locs h => ?_)
                  refine lv_aload_n hx hb dX12_nozzle_163 rfl (lv_at hl 1 rfl) ?_
                  refine r_get E h 22 (v := .ref (a 14)) (eM_0 cy a (fR (fR (fR (fF σ 0 0) 11 (upd (σ.2.1 11) nz x)) 12 (upd (σ.2.1 12) nz y)) 13 (upd (σ.2.1 13) nz w))) rfl fw_X12 (by decide) fl_X12_49 rfl dX12_nozzle_164 ?_
                  refine lv_aload_n hx hb dX12_nozzle_167 rfl (lv_at hl 1 rfl) ?_
                  refine r_get E h 18 (v := .int (nI nz)) (eM_0 cy a (fR (fR (fR (fF σ 0 0) 11 (upd (σ.2.1 11) nz x)) 12 (upd (σ.2.1 12) nz y)) 13 (upd (σ.2.1 13) nz w))) rfl fw_X12 (by decide) fl_X12_149 (congrArg (fun z => some (Value.int z)) hz) dX12_nozzle_168 ?_
                  refine lv_iload hx hb dX12_nozzle_171 (lv_at hl 5 rfl) ?_
                  refine r_iastN E h (f := σ.2.1 14) (eM_14 cy a (fR (fR (fR (fF σ 0 0) 11 (upd (σ.2.1 11) nz x)) 12 (upd (σ.2.1 12) nz y)) 13 (upd (σ.2.1 13) nz w))) (j := nz) (by omega) (by decide) (qM_14 cy a (fR (fR (fR (fF σ 0 0) 11 (upd (σ.2.1 11) nz x)) 12 (upd (σ.2.1 12) nz y)) 13 (upd (σ.2.1 13) nz w)) (upd (σ.2.1 14) nz v)) dX12_nozzle_173 (fun H locs h => ?_)
                  refine lv_aload_n hx hb dX12_nozzle_174 rfl (lv_at hl 1 rfl) ?_
                  refine r_get E h 23 (v := .ref (a 15)) (eM_0 cy a (fR (fR (fR (fR (fF σ 0 0) 11 (upd (σ.2.1 11) nz x)) 12 (upd (σ.2.1 12) nz y)) 13 (upd (σ.2.1 13) nz w)) 14 (upd (σ.2.1 14) nz v))) rfl fw_X12 (by decide) fl_X12_52 rfl dX12_nozzle_175 ?_
                  refine lv_aload_n hx hb dX12_nozzle_178 rfl (lv_at hl 1 rfl) ?_
                  refine r_get E h 18 (v := .int (nI nz)) (eM_0 cy a (fR (fR (fR (fR (fF σ 0 0) 11 (upd (σ.2.1 11) nz x)) 12 (upd (σ.2.1 12) nz y)) 13 (upd (σ.2.1 13) nz w)) 14 (upd (σ.2.1 14) nz v))) rfl fw_X12 (by decide) fl_X12_149 (congrArg (fun z => some (Value.int z)) hz) dX12_nozzle_179 ?_
                  refine lv_aload_n hx hb dX12_nozzle_182 rfl (lv_at hl 1 rfl) ?_
                  refine r_get E h 2 (v := .int (nI nn)) (eM_0 cy a (fR (fR (fR (fR (fF σ 0 0) 11 (upd (σ.2.1 11) nz x)) 12 (upd (σ.2.1 12) nz y)) 13 (upd (σ.2.1 13) nz w)) 14 (upd (σ.2.1 14) nz v))) rfl fw_X12 (by decide) fl_X12_191 (congrArg (fun z => some (Value.int z)) hnow) dX12_nozzle_183 ?_
                  refine r_iastN E h (f := σ.2.1 15) (eM_15 cy a (fR (fR (fR (fR (fF σ 0 0) 11 (upd (σ.2.1 11) nz x)) 12 (upd (σ.2.1 12) nz y)) 13 (upd (σ.2.1 13) nz w)) 14 (upd (σ.2.1 14) nz v))) (j := nz) (by omega) (by decide) (qM_15 cy a (fR (fR (fR (fR (fF σ 0 0) 11 (upd (σ.2.1 11) nz x)) 12 (upd (σ.2.1 12) nz y)) 13 (upd (σ.2.1 13) nz w)) 14 (upd (σ.2.1 14) nz v)) (upd (σ.2.1 15) nz (nI nn))) dX12_nozzle_186 (fun H locs h => ?_)
                  refine lv_aload_n hx hb dX12_nozzle_187 rfl (lv_at hl 1 rfl) ?_
                  refine r_get E h 24 (v := .ref (a 16)) (eM_0 cy a (fR (fR (fR (fR (fR (fF σ 0 0) 11 (upd (σ.2.1 11) nz x)) 12 (upd (σ.2.1 12) nz y)) 13 (upd (σ.2.1 13) nz w)) 14 (upd (σ.2.1 14) nz v)) 15 (upd (σ.2.1 15) nz (nI nn)))) rfl fw_X12 (by decide) fl_X12_55 rfl dX12_nozzle_188 ?_
                  refine lv_aload_n hx hb dX12_nozzle_191 rfl (lv_at hl 1 rfl) ?_
                  refine r_get E h 18 (v := .int (nI nz)) (eM_0 cy a (fR (fR (fR (fR (fR (fF σ 0 0) 11 (upd (σ.2.1 11) nz x)) 12 (upd (σ.2.1 12) nz y)) 13 (upd (σ.2.1 13) nz w)) 14 (upd (σ.2.1 14) nz v)) 15 (upd (σ.2.1 15) nz (nI nn)))) rfl fw_X12 (by decide) fl_X12_149 (congrArg (fun z => some (Value.int z)) hz) dX12_nozzle_192 ?_
                  refine lv_sipush (v := 1000) hx hb dX12_nozzle_195 (by decide) ?_
                  refine r_iastN E h (f := σ.2.1 16) (eM_16 cy a (fR (fR (fR (fR (fR (fF σ 0 0) 11 (upd (σ.2.1 11) nz x)) 12 (upd (σ.2.1 12) nz y)) 13 (upd (σ.2.1 13) nz w)) 14 (upd (σ.2.1 14) nz v)) 15 (upd (σ.2.1 15) nz (nI nn)))) (j := nz) (by omega) (by decide) (qM_16 cy a (fR (fR (fR (fR (fR (fF σ 0 0) 11 (upd (σ.2.1 11) nz x)) 12 (upd (σ.2.1 12) nz y)) 13 (upd (σ.2.1 13) nz w)) 14 (upd (σ.2.1 14) nz v)) 15 (upd (σ.2.1 15) nz (nI nn))) (upd (σ.2.1 16) nz 1000)) dX12_nozzle_198 (fun H locs h => ?_)
                  refine lv_aload_n hx hb dX12_nozzle_199 rfl (lv_at hl 1 rfl) ?_
                  refine lv_dup hx hb dX12_nozzle_200 rfl ?_
                  refine r_get E h 18 (v := .int (nI nz)) (eM_0 cy a (fR (fR (fR (fR (fR (fR (fF σ 0 0) 11 (upd (σ.2.1 11) nz x)) 12 (upd (σ.2.1 12) nz y)) 13 (upd (σ.2.1 13) nz w)) 14 (upd (σ.2.1 14) nz v)) 15 (upd (σ.2.1 15) nz (nI nn))) 16 (upd (σ.2.1 16) nz 1000))) rfl fw_X12 (by decide) fl_X12_149 (congrArg (fun z => some (Value.int z)) hz) dX12_nozzle_201 ?_
                  refine lv_iconst (v := 1) hx hb dX12_nozzle_204 (by decide) ?_
                  refine n_add (j := nz) (k := 1) hx hb dX12_nozzle_205 ?_
                  refine r_put E h 18 (ty := .int) (eM_0 cy a (fR (fR (fR (fR (fR (fR (fF σ 0 0) 11 (upd (σ.2.1 11) nz x)) 12 (upd (σ.2.1 12) nz y)) 13 (upd (σ.2.1 13) nz w)) 14 (upd (σ.2.1 14) nz v)) 15 (upd (σ.2.1 15) nz (nI nn))) 16 (upd (σ.2.1 16) nz 1000))) rfl fw_X12 tyX12_ok nmX12 (by decide) fl_X12_149 rfl (by decide +kernel) rfl rfl (Nat.le_of_ble_eq_true rfl) (sM_8 cy a (fR (fR (fR (fR (fR (fR (fF σ 0 0) 11 (upd (σ.2.1 11) nz x)) 12 (upd (σ.2.1 12) nz y)) 13 (upd (σ.2.1 13) nz w)) 14 (upd (σ.2.1 14) nz v)) 15 (upd (σ.2.1 15) nz (nI nn))) 16 (upd (σ.2.1 16) nz 1000)) (nI (nz + 1))) dX12_nozzle_206 (fun H locs h => ?_)
                  refine lv_aload_n hx hb dX12_nozzle_209 rfl (lv_at hl 1 rfl) ?_
                  refine lv_aload_n hx hb dX12_nozzle_210 rfl (lv_at hl 1 rfl) ?_
                  refine r_get E h 18 (v := .int (nI (nz + 1))) (eM_0 cy a (fF (fR (fR (fR (fR (fR (fR (fF σ 0 0) 11 (upd (σ.2.1 11) nz x)) 12 (upd (σ.2.1 12) nz y)) 13 (upd (σ.2.1 13) nz w)) 14 (upd (σ.2.1 14) nz v)) 15 (upd (σ.2.1 15) nz (nI nn))) 16 (upd (σ.2.1 16) nz 1000)) 8 (nI (nz + 1)))) rfl fw_X12 (by decide) fl_X12_149 rfl dX12_nozzle_211 ?_
                  refine lv_iconst (v := 1) hx hb dX12_nozzle_214 (by decide) ?_
                  refine n_sub1 hx hb dX12_nozzle_215 ?_
                  refine k_i h (q_runV (As := [.int (nI nz)]) (rest := []) E h (c_X12_told l D cy a (fF (fR (fR (fR (fR (fR (fR (fF σ 0 0) 11 (upd (σ.2.1 11) nz x)) 12 (upd (σ.2.1 12) nz y)) 13 (upd (σ.2.1 13) nz w)) 14 (upd (σ.2.1 14) nz v)) 15 (upd (σ.2.1 15) nz (nI nn))) 16 (upd (σ.2.1 16) nz 1000)) 8 (nI (nz + 1))) (nI nz)) co_X12_told ml_X12_154 im_X12_told se_X12_told in_X12 (eM_0 cy a (fF (fR (fR (fR (fR (fR (fR (fF σ 0 0) 11 (upd (σ.2.1 11) nz x)) 12 (upd (σ.2.1 12) nz y)) 13 (upd (σ.2.1 13) nz w)) 14 (upd (σ.2.1 14) nz v)) 15 (upd (σ.2.1 15) nz (nI nn))) 16 (upd (σ.2.1 16) nz 1000)) 8 (nI (nz + 1)))) rfl ok_X12_told rfl ⟨by decide, by decide⟩ hl.1 rfl (Nat.le_of_ble_eq_true rfl) dX12_nozzle_216 ⟨Nat.zero_le _, Nat.zero_le _⟩) (wM_fst cy a) (fun r216 τ216 H locs p216 h => ?_)
                  refine t_i E h hr hk ?_ dX12_nozzle_219
                  obtain ⟨v9, e9⟩ := p216.2
                  have k9 : K [2, 3, 4, 5, 6, 7, 9, 10, 11, 13] [1, 2, 3, 4, 5, 6, 7, 8, 9, 10, 17, 18, 19, 20, 21, 22, 23, 24, 25, 26, 27, 29] σ τ216 := by rw [e9]; exact (((((((((K.rf.F 0 _ (by decide)).R 11 _ (by decide)).R 12 _ (by decide)).R 13 _ (by decide)).R 14 _ (by decide)).R 15 _ (by decide)).R 16 _ (by decide)).F 8 _ (by decide)).F 1 _ (by decide))
                  exact ⟨k9, gm_no hz (by omega) (by rw [e9]; rfl) (by rw [e9]; rfl) (wt_of (w11.t c14) (by decide) (by decide)) g k9⟩
                · refine lv_aload_n hx hb dX12_nozzle_126 rfl (lv_at hl 1 rfl) ?_
                  refine lv_bipush (v := -5) hx hb dX12_nozzle_127 (by decide) ?_
                  refine k_i h (q_runV (As := [.int (-5)]) (rest := []) E h (c_X12_told l D cy a (fF σ 0 0) (-5)) co_X12_told ml_X12_154 im_X12_told se_X12_told in_X12 (eM_0 cy a (fF σ 0 0)) rfl ok_X12_told rfl ⟨by decide, by decide⟩ hl.1 rfl (Nat.le_of_ble_eq_true rfl) dX12_nozzle_129 ⟨Nat.zero_le _, Nat.zero_le _⟩) (wM_fst cy a) (fun r129 τ129 H locs p129 h => ?_)
                  refine t_i E h hr hk ?_ dX12_nozzle_132
                  obtain ⟨v9, e9⟩ := p129.2
                  have k9 : K mF mA σ τ129 := by rw [e9]; exact (K.rf.F 0 _ (by decide)).F 1 _ (by decide)
                  exact ⟨KZ_of k9, g.kept k9⟩
              · refine lv_iload hx hb dX12_nozzle_98 (lv_at hl 0 rfl) ?_
                refine lv_iconst (v := -1) hx hb dX12_nozzle_100 (by decide) ?_
                refine lv_icmp_eq (tgt := 117) hx hb dX12_nozzle_101 (by decide) (fun c101 => ?_) (fun c101 => ?_)
                · refine lv_aload_n hx hb dX12_nozzle_117 rfl (lv_at hl 1 rfl) ?_
                  refine r_get E h 18 (v := .int (nI nz)) (eM_0 cy a (fF σ 0 0)) rfl fw_X12 (by decide) fl_X12_149 (congrArg (fun z => some (Value.int z)) hz) dX12_nozzle_118 ?_
                  refine lv_bipush (v := 80) hx hb dX12_nozzle_121 (by decide) ?_
                  refine lv_icmp_ne (tgt := 133) hx hb dX12_nozzle_123 (by decide) (fun c123 => ?_) (fun c123 => ?_)
                  · have c123 : nz ≠ 80 := n_ne (k := 80) c123
                    refine lv_aload_n hx hb dX12_nozzle_133 rfl (lv_at hl 1 rfl) ?_
                    refine r_get E h 19 (v := .ref (a 11)) (eM_0 cy a (fF σ 0 0)) rfl fw_X12 (by decide) fl_X12_40 rfl dX12_nozzle_134 ?_
                    refine lv_aload_n hx hb dX12_nozzle_137 rfl (lv_at hl 1 rfl) ?_
                    refine r_get E h 18 (v := .int (nI nz)) (eM_0 cy a (fF σ 0 0)) rfl fw_X12 (by decide) fl_X12_149 (congrArg (fun z => some (Value.int z)) hz) dX12_nozzle_138 ?_
                    refine lv_iload_n hx hb dX12_nozzle_141 rfl (lv_at hl 2 rfl) ?_
                    refine r_iastN E h (f := σ.2.1 11) (eM_11 cy a (fF σ 0 0)) (j := nz) (by omega) (by decide) (qM_11 cy a (fF σ 0 0) (upd (σ.2.1 11) nz x)) dX12_nozzle_142 (fun H locs h => ?_)
                    refine lv_aload_n hx hb dX12_nozzle_143 rfl (lv_at hl 1 rfl) ?_
                    refine r_get E h 20 (v := .ref (a 12)) (eM_0 cy a (fR (fF σ 0 0) 11 (upd (σ.2.1 11) nz x))) rfl fw_X12 (by decide) fl_X12_43 rfl dX12_nozzle_144 ?_
                    refine lv_aload_n hx hb dX12_nozzle_147 rfl (lv_at hl 1 rfl) ?_
                    refine r_get E h 18 (v := .int (nI nz)) (eM_0 cy a (fR (fF σ 0 0) 11 (upd (σ.2.1 11) nz x))) rfl fw_X12 (by decide) fl_X12_149 (congrArg (fun z => some (Value.int z)) hz) dX12_nozzle_148 ?_
                    refine lv_iload_n hx hb dX12_nozzle_151 rfl (lv_at hl 3 rfl) ?_
                    refine r_iastN E h (f := σ.2.1 12) (eM_12 cy a (fR (fF σ 0 0) 11 (upd (σ.2.1 11) nz x))) (j := nz) (by omega) (by decide) (qM_12 cy a (fR (fF σ 0 0) 11 (upd (σ.2.1 11) nz x)) (upd (σ.2.1 12) nz y)) dX12_nozzle_152 (fun H locs h => ?_)
                    refine lv_aload_n hx hb dX12_nozzle_153 rfl (lv_at hl 1 rfl) ?_
                    refine r_get E h 21 (v := .ref (a 13)) (eM_0 cy a (fR (fR (fF σ 0 0) 11 (upd (σ.2.1 11) nz x)) 12 (upd (σ.2.1 12) nz y))) rfl fw_X12 (by decide) fl_X12_46 rfl dX12_nozzle_154 ?_
                    refine lv_aload_n hx hb dX12_nozzle_157 rfl (lv_at hl 1 rfl) ?_
                    refine r_get E h 18 (v := .int (nI nz)) (eM_0 cy a (fR (fR (fF σ 0 0) 11 (upd (σ.2.1 11) nz x)) 12 (upd (σ.2.1 12) nz y))) rfl fw_X12 (by decide) fl_X12_149 (congrArg (fun z => some (Value.int z)) hz) dX12_nozzle_158 ?_
                    refine lv_iload_n hx hb dX12_nozzle_161 rfl (lv_at hl 4 rfl) ?_
                    refine r_iastN E h (f := σ.2.1 13) (eM_13 cy a (fR (fR (fF σ 0 0) 11 (upd (σ.2.1 11) nz x)) 12 (upd (σ.2.1 12) nz y))) (j := nz) (by omega) (by decide) (qM_13 cy a (fR (fR (fF σ 0 0) 11 (upd (σ.2.1 11) nz x)) 12 (upd (σ.2.1 12) nz y)) (upd (σ.2.1 13) nz w)) dX12_nozzle_162 (fun H locs h => ?_)
                    refine lv_aload_n hx hb dX12_nozzle_163 rfl (lv_at hl 1 rfl) ?_
                    refine r_get E h 22 (v := .ref (a 14)) (eM_0 cy a (fR (fR (fR (fF σ 0 0) 11 (upd (σ.2.1 11) nz x)) 12 (upd (σ.2.1 12) nz y)) 13 (upd (σ.2.1 13) nz w))) rfl fw_X12 (by decide) fl_X12_49 rfl dX12_nozzle_164 ?_
                    refine lv_aload_n hx hb dX12_nozzle_167 rfl (lv_at hl 1 rfl) ?_
                    refine r_get E h 18 (v := .int (nI nz)) (eM_0 cy a (fR (fR (fR (fF σ 0 0) 11 (upd (σ.2.1 11) nz x)) 12 (upd (σ.2.1 12) nz y)) 13 (upd (σ.2.1 13) nz w))) rfl fw_X12 (by decide) fl_X12_149 (congrArg (fun z => some (Value.int z)) hz) dX12_nozzle_168 ?_
                    refine lv_iload hx hb dX12_nozzle_171 (lv_at hl 5 rfl) ?_
                    refine r_iastN E h (f := σ.2.1 14) (eM_14 cy a (fR (fR (fR (fF σ 0 0) 11 (upd (σ.2.1 11) nz x)) 12 (upd (σ.2.1 12) nz y)) 13 (upd (σ.2.1 13) nz w))) (j := nz) (by omega) (by decide) (qM_14 cy a (fR (fR (fR (fF σ 0 0) 11 (upd (σ.2.1 11) nz x)) 12 (upd (σ.2.1 12) nz y)) 13 (upd (σ.2.1 13) nz w)) (upd (σ.2.1 14) nz v)) dX12_nozzle_173 (fun H locs h => ?_)
                    refine lv_aload_n hx hb dX12_nozzle_174 rfl (lv_at hl 1 rfl) ?_
                    refine r_get E h 23 (v := .ref (a 15)) (eM_0 cy a (fR (fR (fR (fR (fF σ 0 0) 11 (upd (σ.2.1 11) nz x)) 12 (upd (σ.2.1 12) nz y)) 13 (upd (σ.2.1 13) nz w)) 14 (upd (σ.2.1 14) nz v))) rfl fw_X12 (by decide) fl_X12_52 rfl dX12_nozzle_175 ?_
                    refine lv_aload_n hx hb dX12_nozzle_178 rfl (lv_at hl 1 rfl) ?_
                    refine r_get E h 18 (v := .int (nI nz)) (eM_0 cy a (fR (fR (fR (fR (fF σ 0 0) 11 (upd (σ.2.1 11) nz x)) 12 (upd (σ.2.1 12) nz y)) 13 (upd (σ.2.1 13) nz w)) 14 (upd (σ.2.1 14) nz v))) rfl fw_X12 (by decide) fl_X12_149 (congrArg (fun z => some (Value.int z)) hz) dX12_nozzle_179 ?_
                    refine lv_aload_n hx hb dX12_nozzle_182 rfl (lv_at hl 1 rfl) ?_
                    refine r_get E h 2 (v := .int (nI nn)) (eM_0 cy a (fR (fR (fR (fR (fF σ 0 0) 11 (upd (σ.2.1 11) nz x)) 12 (upd (σ.2.1 12) nz y)) 13 (upd (σ.2.1 13) nz w)) 14 (upd (σ.2.1 14) nz v))) rfl fw_X12 (by decide) fl_X12_191 (congrArg (fun z => some (Value.int z)) hnow) dX12_nozzle_183 ?_
                    refine r_iastN E h (f := σ.2.1 15) (eM_15 cy a (fR (fR (fR (fR (fF σ 0 0) 11 (upd (σ.2.1 11) nz x)) 12 (upd (σ.2.1 12) nz y)) 13 (upd (σ.2.1 13) nz w)) 14 (upd (σ.2.1 14) nz v))) (j := nz) (by omega) (by decide) (qM_15 cy a (fR (fR (fR (fR (fF σ 0 0) 11 (upd (σ.2.1 11) nz x)) 12 (upd (σ.2.1 12) nz y)) 13 (upd (σ.2.1 13) nz w)) 14 (upd (σ.2.1 14) nz v)) (upd (σ.2.1 15) nz (nI nn))) dX12_nozzle_186 (fun H locs h => ?_)
                    refine lv_aload_n hx hb dX12_nozzle_187 rfl (lv_at hl 1 rfl) ?_
                    refine r_get E h 24 (v := .ref (a 16)) (eM_0 cy a (fR (fR (fR (fR (fR (fF σ 0 0) 11 (upd (σ.2.1 11) nz x)) 12 (upd (σ.2.1 12) nz y)) 13 (upd (σ.2.1 13) nz w)) 14 (upd (σ.2.1 14) nz v)) 15 (upd (σ.2.1 15) nz (nI nn)))) rfl fw_X12 (by decide) fl_X12_55 rfl dX12_nozzle_188 ?_
                    refine lv_aload_n hx hb dX12_nozzle_191 rfl (lv_at hl 1 rfl) ?_
                    refine r_get E h 18 (v := .int (nI nz)) (eM_0 cy a (fR (fR (fR (fR (fR (fF σ 0 0) 11 (upd (σ.2.1 11) nz x)) 12 (upd (σ.2.1 12) nz y)) 13 (upd (σ.2.1 13) nz w)) 14 (upd (σ.2.1 14) nz v)) 15 (upd (σ.2.1 15) nz (nI nn)))) rfl fw_X12 (by decide) fl_X12_149 (congrArg (fun z => some (Value.int z)) hz) dX12_nozzle_192 ?_
                    refine lv_sipush (v := 1000) hx hb dX12_nozzle_195 (by decide) ?_
                    refine r_iastN E h (f := σ.2.1 16) (eM_16 cy a (fR (fR (fR (fR (fR (fF σ 0 0) 11 (upd (σ.2.1 11) nz x)) 12 (upd (σ.2.1 12) nz y)) 13 (upd (σ.2.1 13) nz w)) 14 (upd (σ.2.1 14) nz v)) 15 (upd (σ.2.1 15) nz (nI nn)))) (j := nz) (by omega) (by decide) (qM_16 cy a (fR (fR (fR (fR (fR (fF σ 0 0) 11 (upd (σ.2.1 11) nz x)) 12 (upd (σ.2.1 12) nz y)) 13 (upd (σ.2.1 13) nz w)) 14 (upd (σ.2.1 14) nz v)) 15 (upd (σ.2.1 15) nz (nI nn))) (upd (σ.2.1 16) nz 1000)) dX12_nozzle_198 (fun H locs h => ?_)
                    refine lv_aload_n hx hb dX12_nozzle_199 rfl (lv_at hl 1 rfl) ?_
                    refine lv_dup hx hb dX12_nozzle_200 rfl ?_
                    refine r_get E h 18 (v := .int (nI nz)) (eM_0 cy a (fR (fR (fR (fR (fR (fR (fF σ 0 0) 11 (upd (σ.2.1 11) nz x)) 12 (upd (σ.2.1 12) nz y)) 13 (upd (σ.2.1 13) nz w)) 14 (upd (σ.2.1 14) nz v)) 15 (upd (σ.2.1 15) nz (nI nn))) 16 (upd (σ.2.1 16) nz 1000))) rfl fw_X12 (by decide) fl_X12_149 (congrArg (fun z => some (Value.int z)) hz) dX12_nozzle_201 ?_
                    refine lv_iconst (v := 1) hx hb dX12_nozzle_204 (by decide) ?_
                    refine n_add (j := nz) (k := 1) hx hb dX12_nozzle_205 ?_
                    refine r_put E h 18 (ty := .int) (eM_0 cy a (fR (fR (fR (fR (fR (fR (fF σ 0 0) 11 (upd (σ.2.1 11) nz x)) 12 (upd (σ.2.1 12) nz y)) 13 (upd (σ.2.1 13) nz w)) 14 (upd (σ.2.1 14) nz v)) 15 (upd (σ.2.1 15) nz (nI nn))) 16 (upd (σ.2.1 16) nz 1000))) rfl fw_X12 tyX12_ok nmX12 (by decide) fl_X12_149 rfl (by decide +kernel) rfl rfl (Nat.le_of_ble_eq_true rfl) (sM_8 cy a (fR (fR (fR (fR (fR (fR (fF σ 0 0) 11 (upd (σ.2.1 11) nz x)) 12 (upd (σ.2.1 12) nz y)) 13 (upd (σ.2.1 13) nz w)) 14 (upd (σ.2.1 14) nz v)) 15 (upd (σ.2.1 15) nz (nI nn))) 16 (upd (σ.2.1 16) nz 1000)) (nI (nz + 1))) dX12_nozzle_206 (fun H locs h => ?_)
                    refine lv_aload_n hx hb dX12_nozzle_209 rfl (lv_at hl 1 rfl) ?_
                    refine lv_aload_n hx hb dX12_nozzle_210 rfl (lv_at hl 1 rfl) ?_
                    refine r_get E h 18 (v := .int (nI (nz + 1))) (eM_0 cy a (fF (fR (fR (fR (fR (fR (fR (fF σ 0 0) 11 (upd (σ.2.1 11) nz x)) 12 (upd (σ.2.1 12) nz y)) 13 (upd (σ.2.1 13) nz w)) 14 (upd (σ.2.1 14) nz v)) 15 (upd (σ.2.1 15) nz (nI nn))) 16 (upd (σ.2.1 16) nz 1000)) 8 (nI (nz + 1)))) rfl fw_X12 (by decide) fl_X12_149 rfl dX12_nozzle_211 ?_
                    refine lv_iconst (v := 1) hx hb dX12_nozzle_214 (by decide) ?_
                    refine n_sub1 hx hb dX12_nozzle_215 ?_
                    refine k_i h (q_runV (As := [.int (nI nz)]) (rest := []) E h (c_X12_told l D cy a (fF (fR (fR (fR (fR (fR (fR (fF σ 0 0) 11 (upd (σ.2.1 11) nz x)) 12 (upd (σ.2.1 12) nz y)) 13 (upd (σ.2.1 13) nz w)) 14 (upd (σ.2.1 14) nz v)) 15 (upd (σ.2.1 15) nz (nI nn))) 16 (upd (σ.2.1 16) nz 1000)) 8 (nI (nz + 1))) (nI nz)) co_X12_told ml_X12_154 im_X12_told se_X12_told in_X12 (eM_0 cy a (fF (fR (fR (fR (fR (fR (fR (fF σ 0 0) 11 (upd (σ.2.1 11) nz x)) 12 (upd (σ.2.1 12) nz y)) 13 (upd (σ.2.1 13) nz w)) 14 (upd (σ.2.1 14) nz v)) 15 (upd (σ.2.1 15) nz (nI nn))) 16 (upd (σ.2.1 16) nz 1000)) 8 (nI (nz + 1)))) rfl ok_X12_told rfl ⟨by decide, by decide⟩ hl.1 rfl (Nat.le_of_ble_eq_true rfl) dX12_nozzle_216 ⟨Nat.zero_le _, Nat.zero_le _⟩) (wM_fst cy a) (fun r216 τ216 H locs p216 h => ?_)
                    refine t_i E h hr hk ?_ dX12_nozzle_219
                    obtain ⟨v9, e9⟩ := p216.2
                    have k9 : K [2, 3, 4, 5, 6, 7, 9, 10, 11, 13] [1, 2, 3, 4, 5, 6, 7, 8, 9, 10, 17, 18, 19, 20, 21, 22, 23, 24, 25, 26, 27, 29] σ τ216 := by rw [e9]; exact (((((((((K.rf.F 0 _ (by decide)).R 11 _ (by decide)).R 12 _ (by decide)).R 13 _ (by decide)).R 14 _ (by decide)).R 15 _ (by decide)).R 16 _ (by decide)).F 8 _ (by decide)).F 1 _ (by decide))
                    exact ⟨k9, gm_no hz (by omega) (by rw [e9]; rfl) (by rw [e9]; rfl) (wt_of (w11.t c14) (by decide) (by decide)) g k9⟩
                  · refine lv_aload_n hx hb dX12_nozzle_126 rfl (lv_at hl 1 rfl) ?_
                    refine lv_bipush (v := -5) hx hb dX12_nozzle_127 (by decide) ?_
                    refine k_i h (q_runV (As := [.int (-5)]) (rest := []) E h (c_X12_told l D cy a (fF σ 0 0) (-5)) co_X12_told ml_X12_154 im_X12_told se_X12_told in_X12 (eM_0 cy a (fF σ 0 0)) rfl ok_X12_told rfl ⟨by decide, by decide⟩ hl.1 rfl (Nat.le_of_ble_eq_true rfl) dX12_nozzle_129 ⟨Nat.zero_le _, Nat.zero_le _⟩) (wM_fst cy a) (fun r129 τ129 H locs p129 h => ?_)
                    refine t_i E h hr hk ?_ dX12_nozzle_132
                    obtain ⟨v9, e9⟩ := p129.2
                    have k9 : K mF mA σ τ129 := by rw [e9]; exact (K.rf.F 0 _ (by decide)).F 1 _ (by decide)
                    exact ⟨KZ_of k9, g.kept k9⟩
                · refine lv_iload_n hx hb dX12_nozzle_104 rfl (lv_at hl 3 rfl) ?_
                  refine lv_iload hx hb dX12_nozzle_105 (lv_at hl 0 rfl) ?_
                  refine lv_icmp_le (tgt := 117) hx hb dX12_nozzle_107 (by decide) (fun c107 => ?_) (fun c107 => ?_)
                  · refine lv_aload_n hx hb dX12_nozzle_117 rfl (lv_at hl 1 rfl) ?_
                    refine r_get E h 18 (v := .int (nI nz)) (eM_0 cy a (fF σ 0 0)) rfl fw_X12 (by decide) fl_X12_149 (congrArg (fun z => some (Value.int z)) hz) dX12_nozzle_118 ?_
                    refine lv_bipush (v := 80) hx hb dX12_nozzle_121 (by decide) ?_
                    refine lv_icmp_ne (tgt := 133) hx hb dX12_nozzle_123 (by decide) (fun c123 => ?_) (fun c123 => ?_)
                    · have c123 : nz ≠ 80 := n_ne (k := 80) c123
                      refine lv_aload_n hx hb dX12_nozzle_133 rfl (lv_at hl 1 rfl) ?_
                      refine r_get E h 19 (v := .ref (a 11)) (eM_0 cy a (fF σ 0 0)) rfl fw_X12 (by decide) fl_X12_40 rfl dX12_nozzle_134 ?_
                      refine lv_aload_n hx hb dX12_nozzle_137 rfl (lv_at hl 1 rfl) ?_
                      refine r_get E h 18 (v := .int (nI nz)) (eM_0 cy a (fF σ 0 0)) rfl fw_X12 (by decide) fl_X12_149 (congrArg (fun z => some (Value.int z)) hz) dX12_nozzle_138 ?_
                      refine lv_iload_n hx hb dX12_nozzle_141 rfl (lv_at hl 2 rfl) ?_
                      refine r_iastN E h (f := σ.2.1 11) (eM_11 cy a (fF σ 0 0)) (j := nz) (by omega) (by decide) (qM_11 cy a (fF σ 0 0) (upd (σ.2.1 11) nz x)) dX12_nozzle_142 (fun H locs h => ?_)
                      refine lv_aload_n hx hb dX12_nozzle_143 rfl (lv_at hl 1 rfl) ?_
                      refine r_get E h 20 (v := .ref (a 12)) (eM_0 cy a (fR (fF σ 0 0) 11 (upd (σ.2.1 11) nz x))) rfl fw_X12 (by decide) fl_X12_43 rfl dX12_nozzle_144 ?_
                      refine lv_aload_n hx hb dX12_nozzle_147 rfl (lv_at hl 1 rfl) ?_
                      refine r_get E h 18 (v := .int (nI nz)) (eM_0 cy a (fR (fF σ 0 0) 11 (upd (σ.2.1 11) nz x))) rfl fw_X12 (by decide) fl_X12_149 (congrArg (fun z => some (Value.int z)) hz) dX12_nozzle_148 ?_
                      refine lv_iload_n hx hb dX12_nozzle_151 rfl (lv_at hl 3 rfl) ?_
                      refine r_iastN E h (f := σ.2.1 12) (eM_12 cy a (fR (fF σ 0 0) 11 (upd (σ.2.1 11) nz x))) (j := nz) (by omega) (by decide) (qM_12 cy a (fR (fF σ 0 0) 11 (upd (σ.2.1 11) nz x)) (upd (σ.2.1 12) nz y)) dX12_nozzle_152 (fun H locs h => ?_)
                      refine lv_aload_n hx hb dX12_nozzle_153 rfl (lv_at hl 1 rfl) ?_
                      refine r_get E h 21 (v := .ref (a 13)) (eM_0 cy a (fR (fR (fF σ 0 0) 11 (upd (σ.2.1 11) nz x)) 12 (upd (σ.2.1 12) nz y))) rfl fw_X12 (by decide) fl_X12_46 rfl dX12_nozzle_154 ?_
                      refine lv_aload_n hx hb dX12_nozzle_157 rfl (lv_at hl 1 rfl) ?_
                      refine r_get E h 18 (v := .int (nI nz)) (eM_0 cy a (fR (fR (fF σ 0 0) 11 (upd (σ.2.1 11) nz x)) 12 (upd (σ.2.1 12) nz y))) rfl fw_X12 (by decide) fl_X12_149 (congrArg (fun z => some (Value.int z)) hz) dX12_nozzle_158 ?_
                      refine lv_iload_n hx hb dX12_nozzle_161 rfl (lv_at hl 4 rfl) ?_
                      refine r_iastN E h (f := σ.2.1 13) (eM_13 cy a (fR (fR (fF σ 0 0) 11 (upd (σ.2.1 11) nz x)) 12 (upd (σ.2.1 12) nz y))) (j := nz) (by omega) (by decide) (qM_13 cy a (fR (fR (fF σ 0 0) 11 (upd (σ.2.1 11) nz x)) 12 (upd (σ.2.1 12) nz y)) (upd (σ.2.1 13) nz w)) dX12_nozzle_162 (fun H locs h => ?_)
                      refine lv_aload_n hx hb dX12_nozzle_163 rfl (lv_at hl 1 rfl) ?_
                      refine r_get E h 22 (v := .ref (a 14)) (eM_0 cy a (fR (fR (fR (fF σ 0 0) 11 (upd (σ.2.1 11) nz x)) 12 (upd (σ.2.1 12) nz y)) 13 (upd (σ.2.1 13) nz w))) rfl fw_X12 (by decide) fl_X12_49 rfl dX12_nozzle_164 ?_
                      refine lv_aload_n hx hb dX12_nozzle_167 rfl (lv_at hl 1 rfl) ?_
                      refine r_get E h 18 (v := .int (nI nz)) (eM_0 cy a (fR (fR (fR (fF σ 0 0) 11 (upd (σ.2.1 11) nz x)) 12 (upd (σ.2.1 12) nz y)) 13 (upd (σ.2.1 13) nz w))) rfl fw_X12 (by decide) fl_X12_149 (congrArg (fun z => some (Value.int z)) hz) dX12_nozzle_168 ?_
                      refine lv_iload hx hb dX12_nozzle_171 (lv_at hl 5 rfl) ?_
                      refine r_iastN E h (f := σ.2.1 14) (eM_14 cy a (fR (fR (fR (fF σ 0 0) 11 (upd (σ.2.1 11) nz x)) 12 (upd (σ.2.1 12) nz y)) 13 (upd (σ.2.1 13) nz w))) (j := nz) (by omega) (by decide) (qM_14 cy a (fR (fR (fR (fF σ 0 0) 11 (upd (σ.2.1 11) nz x)) 12 (upd (σ.2.1 12) nz y)) 13 (upd (σ.2.1 13) nz w)) (upd (σ.2.1 14) nz v)) dX12_nozzle_173 (fun H locs h => ?_)
                      refine lv_aload_n hx hb dX12_nozzle_174 rfl (lv_at hl 1 rfl) ?_
                      refine r_get E h 23 (v := .ref (a 15)) (eM_0 cy a (fR (fR (fR (fR (fF σ 0 0) 11 (upd (σ.2.1 11) nz x)) 12 (upd (σ.2.1 12) nz y)) 13 (upd (σ.2.1 13) nz w)) 14 (upd (σ.2.1 14) nz v))) rfl fw_X12 (by decide) fl_X12_52 rfl dX12_nozzle_175 ?_
                      refine lv_aload_n hx hb dX12_nozzle_178 rfl (lv_at hl 1 rfl) ?_
                      refine r_get E h 18 (v := .int (nI nz)) (eM_0 cy a (fR (fR (fR (fR (fF σ 0 0) 11 (upd (σ.2.1 11) nz x)) 12 (upd (σ.2.1 12) nz y)) 13 (upd (σ.2.1 13) nz w)) 14 (upd (σ.2.1 14) nz v))) rfl fw_X12 (by decide) fl_X12_149 (congrArg (fun z => some (Value.int z)) hz) dX12_nozzle_179 ?_
                      refine lv_aload_n hx hb dX12_nozzle_182 rfl (lv_at hl 1 rfl) ?_
                      refine r_get E h 2 (v := .int (nI nn)) (eM_0 cy a (fR (fR (fR (fR (fF σ 0 0) 11 (upd (σ.2.1 11) nz x)) 12 (upd (σ.2.1 12) nz y)) 13 (upd (σ.2.1 13) nz w)) 14 (upd (σ.2.1 14) nz v))) rfl fw_X12 (by decide) fl_X12_191 (congrArg (fun z => some (Value.int z)) hnow) dX12_nozzle_183 ?_
                      refine r_iastN E h (f := σ.2.1 15) (eM_15 cy a (fR (fR (fR (fR (fF σ 0 0) 11 (upd (σ.2.1 11) nz x)) 12 (upd (σ.2.1 12) nz y)) 13 (upd (σ.2.1 13) nz w)) 14 (upd (σ.2.1 14) nz v))) (j := nz) (by omega) (by decide) (qM_15 cy a (fR (fR (fR (fR (fF σ 0 0) 11 (upd (σ.2.1 11) nz x)) 12 (upd (σ.2.1 12) nz y)) 13 (upd (σ.2.1 13) nz w)) 14 (upd (σ.2.1 14) nz v)) (upd (σ.2.1 15) nz (nI nn))) dX12_nozzle_186 (fun H locs h => ?_)
                      refine lv_aload_n hx hb dX12_nozzle_187 rfl (lv_at hl 1 rfl) ?_
                      refine r_get E h 24 (v := .ref (a 16)) (eM_0 cy a (fR (fR (fR (fR (fR (fF σ 0 0) 11 (upd (σ.2.1 11) nz x)) 12 (upd (σ.2.1 12) nz y)) 13 (upd (σ.2.1 13) nz w)) 14 (upd (σ.2.1 14) nz v)) 15 (upd (σ.2.1 15) nz (nI nn)))) rfl fw_X12 (by decide) fl_X12_55 rfl dX12_nozzle_188 ?_
                      refine lv_aload_n hx hb dX12_nozzle_191 rfl (lv_at hl 1 rfl) ?_
                      refine r_get E h 18 (v := .int (nI nz)) (eM_0 cy a (fR (fR (fR (fR (fR (fF σ 0 0) 11 (upd (σ.2.1 11) nz x)) 12 (upd (σ.2.1 12) nz y)) 13 (upd (σ.2.1 13) nz w)) 14 (upd (σ.2.1 14) nz v)) 15 (upd (σ.2.1 15) nz (nI nn)))) rfl fw_X12 (by decide) fl_X12_149 (congrArg (fun z => some (Value.int z)) hz) dX12_nozzle_192 ?_
                      refine lv_sipush (v := 1000) hx hb dX12_nozzle_195 (by decide) ?_
                      refine r_iastN E h (f := σ.2.1 16) (eM_16 cy a (fR (fR (fR (fR (fR (fF σ 0 0) 11 (upd (σ.2.1 11) nz x)) 12 (upd (σ.2.1 12) nz y)) 13 (upd (σ.2.1 13) nz w)) 14 (upd (σ.2.1 14) nz v)) 15 (upd (σ.2.1 15) nz (nI nn)))) (j := nz) (by omega) (by decide) (qM_16 cy a (fR (fR (fR (fR (fR (fF σ 0 0) 11 (upd (σ.2.1 11) nz x)) 12 (upd (σ.2.1 12) nz y)) 13 (upd (σ.2.1 13) nz w)) 14 (upd (σ.2.1 14) nz v)) 15 (upd (σ.2.1 15) nz (nI nn))) (upd (σ.2.1 16) nz 1000)) dX12_nozzle_198 (fun H locs h => ?_)
                      refine lv_aload_n hx hb dX12_nozzle_199 rfl (lv_at hl 1 rfl) ?_
                      refine lv_dup hx hb dX12_nozzle_200 rfl ?_
                      refine r_get E h 18 (v := .int (nI nz)) (eM_0 cy a (fR (fR (fR (fR (fR (fR (fF σ 0 0) 11 (upd (σ.2.1 11) nz x)) 12 (upd (σ.2.1 12) nz y)) 13 (upd (σ.2.1 13) nz w)) 14 (upd (σ.2.1 14) nz v)) 15 (upd (σ.2.1 15) nz (nI nn))) 16 (upd (σ.2.1 16) nz 1000))) rfl fw_X12 (by decide) fl_X12_149 (congrArg (fun z => some (Value.int z)) hz) dX12_nozzle_201 ?_
                      refine lv_iconst (v := 1) hx hb dX12_nozzle_204 (by decide) ?_
                      refine n_add (j := nz) (k := 1) hx hb dX12_nozzle_205 ?_
                      refine r_put E h 18 (ty := .int) (eM_0 cy a (fR (fR (fR (fR (fR (fR (fF σ 0 0) 11 (upd (σ.2.1 11) nz x)) 12 (upd (σ.2.1 12) nz y)) 13 (upd (σ.2.1 13) nz w)) 14 (upd (σ.2.1 14) nz v)) 15 (upd (σ.2.1 15) nz (nI nn))) 16 (upd (σ.2.1 16) nz 1000))) rfl fw_X12 tyX12_ok nmX12 (by decide) fl_X12_149 rfl (by decide +kernel) rfl rfl (Nat.le_of_ble_eq_true rfl) (sM_8 cy a (fR (fR (fR (fR (fR (fR (fF σ 0 0) 11 (upd (σ.2.1 11) nz x)) 12 (upd (σ.2.1 12) nz y)) 13 (upd (σ.2.1 13) nz w)) 14 (upd (σ.2.1 14) nz v)) 15 (upd (σ.2.1 15) nz (nI nn))) 16 (upd (σ.2.1 16) nz 1000)) (nI (nz + 1))) dX12_nozzle_206 (fun H locs h => ?_)
                      refine lv_aload_n hx hb dX12_nozzle_209 rfl (lv_at hl 1 rfl) ?_
                      refine lv_aload_n hx hb dX12_nozzle_210 rfl (lv_at hl 1 rfl) ?_
                      refine r_get E h 18 (v := .int (nI (nz + 1))) (eM_0 cy a (fF (fR (fR (fR (fR (fR (fR (fF σ 0 0) 11 (upd (σ.2.1 11) nz x)) 12 (upd (σ.2.1 12) nz y)) 13 (upd (σ.2.1 13) nz w)) 14 (upd (σ.2.1 14) nz v)) 15 (upd (σ.2.1 15) nz (nI nn))) 16 (upd (σ.2.1 16) nz 1000)) 8 (nI (nz + 1)))) rfl fw_X12 (by decide) fl_X12_149 rfl dX12_nozzle_211 ?_
                      refine lv_iconst (v := 1) hx hb dX12_nozzle_214 (by decide) ?_
                      refine n_sub1 hx hb dX12_nozzle_215 ?_
                      refine k_i h (q_runV (As := [.int (nI nz)]) (rest := []) E h (c_X12_told l D cy a (fF (fR (fR (fR (fR (fR (fR (fF σ 0 0) 11 (upd (σ.2.1 11) nz x)) 12 (upd (σ.2.1 12) nz y)) 13 (upd (σ.2.1 13) nz w)) 14 (upd (σ.2.1 14) nz v)) 15 (upd (σ.2.1 15) nz (nI nn))) 16 (upd (σ.2.1 16) nz 1000)) 8 (nI (nz + 1))) (nI nz)) co_X12_told ml_X12_154 im_X12_told se_X12_told in_X12 (eM_0 cy a (fF (fR (fR (fR (fR (fR (fR (fF σ 0 0) 11 (upd (σ.2.1 11) nz x)) 12 (upd (σ.2.1 12) nz y)) 13 (upd (σ.2.1 13) nz w)) 14 (upd (σ.2.1 14) nz v)) 15 (upd (σ.2.1 15) nz (nI nn))) 16 (upd (σ.2.1 16) nz 1000)) 8 (nI (nz + 1)))) rfl ok_X12_told rfl ⟨by decide, by decide⟩ hl.1 rfl (Nat.le_of_ble_eq_true rfl) dX12_nozzle_216 ⟨Nat.zero_le _, Nat.zero_le _⟩) (wM_fst cy a) (fun r216 τ216 H locs p216 h => ?_)
                      refine t_i E h hr hk ?_ dX12_nozzle_219
                      obtain ⟨v9, e9⟩ := p216.2
                      have k9 : K [2, 3, 4, 5, 6, 7, 9, 10, 11, 13] [1, 2, 3, 4, 5, 6, 7, 8, 9, 10, 17, 18, 19, 20, 21, 22, 23, 24, 25, 26, 27, 29] σ τ216 := by rw [e9]; exact (((((((((K.rf.F 0 _ (by decide)).R 11 _ (by decide)).R 12 _ (by decide)).R 13 _ (by decide)).R 14 _ (by decide)).R 15 _ (by decide)).R 16 _ (by decide)).F 8 _ (by decide)).F 1 _ (by decide))
                      exact ⟨k9, gm_no hz (by omega) (by rw [e9]; rfl) (by rw [e9]; rfl) (wt_of (w11.t c14) (by decide) (by decide)) g k9⟩
                    · refine lv_aload_n hx hb dX12_nozzle_126 rfl (lv_at hl 1 rfl) ?_
                      refine lv_bipush (v := -5) hx hb dX12_nozzle_127 (by decide) ?_
                      refine k_i h (q_runV (As := [.int (-5)]) (rest := []) E h (c_X12_told l D cy a (fF σ 0 0) (-5)) co_X12_told ml_X12_154 im_X12_told se_X12_told in_X12 (eM_0 cy a (fF σ 0 0)) rfl ok_X12_told rfl ⟨by decide, by decide⟩ hl.1 rfl (Nat.le_of_ble_eq_true rfl) dX12_nozzle_129 ⟨Nat.zero_le _, Nat.zero_le _⟩) (wM_fst cy a) (fun r129 τ129 H locs p129 h => ?_)
                      refine t_i E h hr hk ?_ dX12_nozzle_132
                      obtain ⟨v9, e9⟩ := p129.2
                      have k9 : K mF mA σ τ129 := by rw [e9]; exact (K.rf.F 0 _ (by decide)).F 1 _ (by decide)
                      exact ⟨KZ_of k9, g.kept k9⟩
                  · refine lv_aload_n hx hb dX12_nozzle_110 rfl (lv_at hl 1 rfl) ?_
                    refine lv_bipush (v := -3) hx hb dX12_nozzle_111 (by decide) ?_
                    refine k_i h (q_runV (As := [.int (-3)]) (rest := []) E h (c_X12_told l D cy a (fF σ 0 0) (-3)) co_X12_told ml_X12_154 im_X12_told se_X12_told in_X12 (eM_0 cy a (fF σ 0 0)) rfl ok_X12_told rfl ⟨by decide, by decide⟩ hl.1 rfl (Nat.le_of_ble_eq_true rfl) dX12_nozzle_113 ⟨Nat.zero_le _, Nat.zero_le _⟩) (wM_fst cy a) (fun r113 τ113 H locs p113 h => ?_)
                    refine t_i E h hr hk ?_ dX12_nozzle_116
                    obtain ⟨v9, e9⟩ := p113.2
                    have k9 : K mF mA σ τ113 := by rw [e9]; exact (K.rf.F 0 _ (by decide)).F 1 _ (by decide)
                    exact ⟨KZ_of k9, g.kept k9⟩
            · refine lv_aload_n hx hb dX12_nozzle_66 rfl (lv_at hl 0 rfl) ?_
              refine lv_iload hx hb dX12_nozzle_67 (lv_at hl 4 rfl) ?_
              refine k_i h (q_runV (As := [.int v]) (rest := []) E h (c_X12_isPerson l D cy a (fF σ 0 0) v np hp (by omega)) co_X12_isPerson ml_X12_174 im_X12_isPerson se_X12_isPerson in_X12 (eM_0 cy a (fF σ 0 0)) rfl ok_X12_isPerson rfl ⟨by decide, by decide⟩ hl.1 rfl (Nat.le_of_ble_eq_true rfl) dX12_nozzle_69 ⟨Nat.zero_le _, Nat.zero_le _⟩) (wM_fst cy a) (fun r69 τ69 H locs p69 h => ?_)
              rw [p69.1] at h
              refine lv_if_ne (tgt := 82) hx hb dX12_nozzle_72 (by decide) (fun c72 => ?_) (fun c72 => ?_)
              · refine lv_aload_n hx hb dX12_nozzle_82 rfl (lv_at hl 0 rfl) ?_
                refine lv_aload_n hx hb dX12_nozzle_83 rfl (lv_at hl 0 rfl) ?_
                refine r_get E h 2 (v := .int (nI nn)) (eM_0 cy a (fF σ 0 0)) rfl fw_X12 (by decide) fl_X12_191 (congrArg (fun z => some (Value.int z)) hnow) dX12_nozzle_84 ?_
                refine lv_iconst (v := 4) hx hb dX12_nozzle_87 (by decide) ?_
                refine k_i h (q_runV (As := [.int (nI nn), .int 4]) (rest := []) E h (c_X12_lawOf l D cy a (fF σ 0 0) (nI nn) 4 nl hla hl3) co_X12_lawOf ml_X12_194 im_X12_lawOf se_X12_lawOf in_X12 (eM_0 cy a (fF σ 0 0)) rfl ok_X12_lawOf rfl ⟨by decide, by decide⟩ hl.1 rfl (Nat.le_of_ble_eq_true rfl) dX12_nozzle_88 ⟨Nat.zero_le _, Nat.zero_le _⟩) (wM_fst cy a) (fun r88 τ88 H locs p88 h => ?_)
                rw [p88.1] at h
                refine lv_istore (lv' := [(5, .int r88), (0, .ref (a 0)), (1, .int x), (2, .int y), (3, .int w), (4, .int v)]) hx hb dX12_nozzle_91 hl (by decide) rfl (fun ls hl => ?_)
                refine lv_iload_n hx hb dX12_nozzle_93 rfl (lv_at hl 4 rfl) ?_
                refine lv_iconst (v := 2) hx hb dX12_nozzle_94 (by decide) ?_
                refine lv_icmp_ne (tgt := 117) hx hb dX12_nozzle_95 (by decide) (fun c95 => ?_) (fun c95 => ?_)
                · refine lv_aload_n hx hb dX12_nozzle_117 rfl (lv_at hl 1 rfl) ?_
                  refine r_get E h 18 (v := .int (nI nz)) (eM_0 cy a (fF σ 0 0)) rfl fw_X12 (by decide) fl_X12_149 (congrArg (fun z => some (Value.int z)) hz) dX12_nozzle_118 ?_
                  refine lv_bipush (v := 80) hx hb dX12_nozzle_121 (by decide) ?_
                  refine lv_icmp_ne (tgt := 133) hx hb dX12_nozzle_123 (by decide) (fun c123 => ?_) (fun c123 => ?_)
                  · have c123 : nz ≠ 80 := n_ne (k := 80) c123
                    refine lv_aload_n hx hb dX12_nozzle_133 rfl (lv_at hl 1 rfl) ?_
                    refine r_get E h 19 (v := .ref (a 11)) (eM_0 cy a (fF σ 0 0)) rfl fw_X12 (by decide) fl_X12_40 rfl dX12_nozzle_134 ?_
                    refine lv_aload_n hx hb dX12_nozzle_137 rfl (lv_at hl 1 rfl) ?_
                    refine r_get E h 18 (v := .int (nI nz)) (eM_0 cy a (fF σ 0 0)) rfl fw_X12 (by decide) fl_X12_149 (congrArg (fun z => some (Value.int z)) hz) dX12_nozzle_138 ?_
                    refine lv_iload_n hx hb dX12_nozzle_141 rfl (lv_at hl 2 rfl) ?_
                    refine r_iastN E h (f := σ.2.1 11) (eM_11 cy a (fF σ 0 0)) (j := nz) (by omega) (by decide) (qM_11 cy a (fF σ 0 0) (upd (σ.2.1 11) nz x)) dX12_nozzle_142 (fun H locs h => ?_)
                    refine lv_aload_n hx hb dX12_nozzle_143 rfl (lv_at hl 1 rfl) ?_
                    refine r_get E h 20 (v := .ref (a 12)) (eM_0 cy a (fR (fF σ 0 0) 11 (upd (σ.2.1 11) nz x))) rfl fw_X12 (by decide) fl_X12_43 rfl dX12_nozzle_144 ?_
                    refine lv_aload_n hx hb dX12_nozzle_147 rfl (lv_at hl 1 rfl) ?_
                    refine r_get E h 18 (v := .int (nI nz)) (eM_0 cy a (fR (fF σ 0 0) 11 (upd (σ.2.1 11) nz x))) rfl fw_X12 (by decide) fl_X12_149 (congrArg (fun z => some (Value.int z)) hz) dX12_nozzle_148 ?_
                    refine lv_iload_n hx hb dX12_nozzle_151 rfl (lv_at hl 3 rfl) ?_
                    refine r_iastN E h (f := σ.2.1 12) (eM_12 cy a (fR (fF σ 0 0) 11 (upd (σ.2.1 11) nz x))) (j := nz) (by omega) (by decide) (qM_12 cy a (fR (fF σ 0 0) 11 (upd (σ.2.1 11) nz x)) (upd (σ.2.1 12) nz y)) dX12_nozzle_152 (fun H locs h => ?_)
                    refine lv_aload_n hx hb dX12_nozzle_153 rfl (lv_at hl 1 rfl) ?_
                    refine r_get E h 21 (v := .ref (a 13)) (eM_0 cy a (fR (fR (fF σ 0 0) 11 (upd (σ.2.1 11) nz x)) 12 (upd (σ.2.1 12) nz y))) rfl fw_X12 (by decide) fl_X12_46 rfl dX12_nozzle_154 ?_
                    refine lv_aload_n hx hb dX12_nozzle_157 rfl (lv_at hl 1 rfl) ?_
                    refine r_get E h 18 (v := .int (nI nz)) (eM_0 cy a (fR (fR (fF σ 0 0) 11 (upd (σ.2.1 11) nz x)) 12 (upd (σ.2.1 12) nz y))) rfl fw_X12 (by decide) fl_X12_149 (congrArg (fun z => some (Value.int z)) hz) dX12_nozzle_158 ?_
                    refine lv_iload_n hx hb dX12_nozzle_161 rfl (lv_at hl 4 rfl) ?_
                    refine r_iastN E h (f := σ.2.1 13) (eM_13 cy a (fR (fR (fF σ 0 0) 11 (upd (σ.2.1 11) nz x)) 12 (upd (σ.2.1 12) nz y))) (j := nz) (by omega) (by decide) (qM_13 cy a (fR (fR (fF σ 0 0) 11 (upd (σ.2.1 11) nz x)) 12 (upd (σ.2.1 12) nz y)) (upd (σ.2.1 13) nz w)) dX12_nozzle_162 (fun H locs h => ?_)
                    refine lv_aload_n hx hb dX12_nozzle_163 rfl (lv_at hl 1 rfl) ?_
                    refine r_get E h 22 (v := .ref (a 14)) (eM_0 cy a (fR (fR (fR (fF σ 0 0) 11 (upd (σ.2.1 11) nz x)) 12 (upd (σ.2.1 12) nz y)) 13 (upd (σ.2.1 13) nz w))) rfl fw_X12 (by decide) fl_X12_49 rfl dX12_nozzle_164 ?_
                    refine lv_aload_n hx hb dX12_nozzle_167 rfl (lv_at hl 1 rfl) ?_
                    refine r_get E h 18 (v := .int (nI nz)) (eM_0 cy a (fR (fR (fR (fF σ 0 0) 11 (upd (σ.2.1 11) nz x)) 12 (upd (σ.2.1 12) nz y)) 13 (upd (σ.2.1 13) nz w))) rfl fw_X12 (by decide) fl_X12_149 (congrArg (fun z => some (Value.int z)) hz) dX12_nozzle_168 ?_
                    refine lv_iload hx hb dX12_nozzle_171 (lv_at hl 5 rfl) ?_
                    refine r_iastN E h (f := σ.2.1 14) (eM_14 cy a (fR (fR (fR (fF σ 0 0) 11 (upd (σ.2.1 11) nz x)) 12 (upd (σ.2.1 12) nz y)) 13 (upd (σ.2.1 13) nz w))) (j := nz) (by omega) (by decide) (qM_14 cy a (fR (fR (fR (fF σ 0 0) 11 (upd (σ.2.1 11) nz x)) 12 (upd (σ.2.1 12) nz y)) 13 (upd (σ.2.1 13) nz w)) (upd (σ.2.1 14) nz v)) dX12_nozzle_173 (fun H locs h => ?_)
                    refine lv_aload_n hx hb dX12_nozzle_174 rfl (lv_at hl 1 rfl) ?_
                    refine r_get E h 23 (v := .ref (a 15)) (eM_0 cy a (fR (fR (fR (fR (fF σ 0 0) 11 (upd (σ.2.1 11) nz x)) 12 (upd (σ.2.1 12) nz y)) 13 (upd (σ.2.1 13) nz w)) 14 (upd (σ.2.1 14) nz v))) rfl fw_X12 (by decide) fl_X12_52 rfl dX12_nozzle_175 ?_
                    refine lv_aload_n hx hb dX12_nozzle_178 rfl (lv_at hl 1 rfl) ?_
                    refine r_get E h 18 (v := .int (nI nz)) (eM_0 cy a (fR (fR (fR (fR (fF σ 0 0) 11 (upd (σ.2.1 11) nz x)) 12 (upd (σ.2.1 12) nz y)) 13 (upd (σ.2.1 13) nz w)) 14 (upd (σ.2.1 14) nz v))) rfl fw_X12 (by decide) fl_X12_149 (congrArg (fun z => some (Value.int z)) hz) dX12_nozzle_179 ?_
                    refine lv_aload_n hx hb dX12_nozzle_182 rfl (lv_at hl 1 rfl) ?_
                    refine r_get E h 2 (v := .int (nI nn)) (eM_0 cy a (fR (fR (fR (fR (fF σ 0 0) 11 (upd (σ.2.1 11) nz x)) 12 (upd (σ.2.1 12) nz y)) 13 (upd (σ.2.1 13) nz w)) 14 (upd (σ.2.1 14) nz v))) rfl fw_X12 (by decide) fl_X12_191 (congrArg (fun z => some (Value.int z)) hnow) dX12_nozzle_183 ?_
                    refine r_iastN E h (f := σ.2.1 15) (eM_15 cy a (fR (fR (fR (fR (fF σ 0 0) 11 (upd (σ.2.1 11) nz x)) 12 (upd (σ.2.1 12) nz y)) 13 (upd (σ.2.1 13) nz w)) 14 (upd (σ.2.1 14) nz v))) (j := nz) (by omega) (by decide) (qM_15 cy a (fR (fR (fR (fR (fF σ 0 0) 11 (upd (σ.2.1 11) nz x)) 12 (upd (σ.2.1 12) nz y)) 13 (upd (σ.2.1 13) nz w)) 14 (upd (σ.2.1 14) nz v)) (upd (σ.2.1 15) nz (nI nn))) dX12_nozzle_186 (fun H locs h => ?_)
                    refine lv_aload_n hx hb dX12_nozzle_187 rfl (lv_at hl 1 rfl) ?_
                    refine r_get E h 24 (v := .ref (a 16)) (eM_0 cy a (fR (fR (fR (fR (fR (fF σ 0 0) 11 (upd (σ.2.1 11) nz x)) 12 (upd (σ.2.1 12) nz y)) 13 (upd (σ.2.1 13) nz w)) 14 (upd (σ.2.1 14) nz v)) 15 (upd (σ.2.1 15) nz (nI nn)))) rfl fw_X12 (by decide) fl_X12_55 rfl dX12_nozzle_188 ?_
                    refine lv_aload_n hx hb dX12_nozzle_191 rfl (lv_at hl 1 rfl) ?_
                    refine r_get E h 18 (v := .int (nI nz)) (eM_0 cy a (fR (fR (fR (fR (fR (fF σ 0 0) 11 (upd (σ.2.1 11) nz x)) 12 (upd (σ.2.1 12) nz y)) 13 (upd (σ.2.1 13) nz w)) 14 (upd (σ.2.1 14) nz v)) 15 (upd (σ.2.1 15) nz (nI nn)))) rfl fw_X12 (by decide) fl_X12_149 (congrArg (fun z => some (Value.int z)) hz) dX12_nozzle_192 ?_
                    refine lv_sipush (v := 1000) hx hb dX12_nozzle_195 (by decide) ?_
                    refine r_iastN E h (f := σ.2.1 16) (eM_16 cy a (fR (fR (fR (fR (fR (fF σ 0 0) 11 (upd (σ.2.1 11) nz x)) 12 (upd (σ.2.1 12) nz y)) 13 (upd (σ.2.1 13) nz w)) 14 (upd (σ.2.1 14) nz v)) 15 (upd (σ.2.1 15) nz (nI nn)))) (j := nz) (by omega) (by decide) (qM_16 cy a (fR (fR (fR (fR (fR (fF σ 0 0) 11 (upd (σ.2.1 11) nz x)) 12 (upd (σ.2.1 12) nz y)) 13 (upd (σ.2.1 13) nz w)) 14 (upd (σ.2.1 14) nz v)) 15 (upd (σ.2.1 15) nz (nI nn))) (upd (σ.2.1 16) nz 1000)) dX12_nozzle_198 (fun H locs h => ?_)
                    refine lv_aload_n hx hb dX12_nozzle_199 rfl (lv_at hl 1 rfl) ?_
                    refine lv_dup hx hb dX12_nozzle_200 rfl ?_
                    refine r_get E h 18 (v := .int (nI nz)) (eM_0 cy a (fR (fR (fR (fR (fR (fR (fF σ 0 0) 11 (upd (σ.2.1 11) nz x)) 12 (upd (σ.2.1 12) nz y)) 13 (upd (σ.2.1 13) nz w)) 14 (upd (σ.2.1 14) nz v)) 15 (upd (σ.2.1 15) nz (nI nn))) 16 (upd (σ.2.1 16) nz 1000))) rfl fw_X12 (by decide) fl_X12_149 (congrArg (fun z => some (Value.int z)) hz) dX12_nozzle_201 ?_
                    refine lv_iconst (v := 1) hx hb dX12_nozzle_204 (by decide) ?_
                    refine n_add (j := nz) (k := 1) hx hb dX12_nozzle_205 ?_
                    refine r_put E h 18 (ty := .int) (eM_0 cy a (fR (fR (fR (fR (fR (fR (fF σ 0 0) 11 (upd (σ.2.1 11) nz x)) 12 (upd (σ.2.1 12) nz y)) 13 (upd (σ.2.1 13) nz w)) 14 (upd (σ.2.1 14) nz v)) 15 (upd (σ.2.1 15) nz (nI nn))) 16 (upd (σ.2.1 16) nz 1000))) rfl fw_X12 tyX12_ok nmX12 (by decide) fl_X12_149 rfl (by decide +kernel) rfl rfl (Nat.le_of_ble_eq_true rfl) (sM_8 cy a (fR (fR (fR (fR (fR (fR (fF σ 0 0) 11 (upd (σ.2.1 11) nz x)) 12 (upd (σ.2.1 12) nz y)) 13 (upd (σ.2.1 13) nz w)) 14 (upd (σ.2.1 14) nz v)) 15 (upd (σ.2.1 15) nz (nI nn))) 16 (upd (σ.2.1 16) nz 1000)) (nI (nz + 1))) dX12_nozzle_206 (fun H locs h => ?_)
                    refine lv_aload_n hx hb dX12_nozzle_209 rfl (lv_at hl 1 rfl) ?_
                    refine lv_aload_n hx hb dX12_nozzle_210 rfl (lv_at hl 1 rfl) ?_
                    refine r_get E h 18 (v := .int (nI (nz + 1))) (eM_0 cy a (fF (fR (fR (fR (fR (fR (fR (fF σ 0 0) 11 (upd (σ.2.1 11) nz x)) 12 (upd (σ.2.1 12) nz y)) 13 (upd (σ.2.1 13) nz w)) 14 (upd (σ.2.1 14) nz v)) 15 (upd (σ.2.1 15) nz (nI nn))) 16 (upd (σ.2.1 16) nz 1000)) 8 (nI (nz + 1)))) rfl fw_X12 (by decide) fl_X12_149 rfl dX12_nozzle_211 ?_
                    refine lv_iconst (v := 1) hx hb dX12_nozzle_214 (by decide) ?_
                    refine n_sub1 hx hb dX12_nozzle_215 ?_
                    refine k_i h (q_runV (As := [.int (nI nz)]) (rest := []) E h (c_X12_told l D cy a (fF (fR (fR (fR (fR (fR (fR (fF σ 0 0) 11 (upd (σ.2.1 11) nz x)) 12 (upd (σ.2.1 12) nz y)) 13 (upd (σ.2.1 13) nz w)) 14 (upd (σ.2.1 14) nz v)) 15 (upd (σ.2.1 15) nz (nI nn))) 16 (upd (σ.2.1 16) nz 1000)) 8 (nI (nz + 1))) (nI nz)) co_X12_told ml_X12_154 im_X12_told se_X12_told in_X12 (eM_0 cy a (fF (fR (fR (fR (fR (fR (fR (fF σ 0 0) 11 (upd (σ.2.1 11) nz x)) 12 (upd (σ.2.1 12) nz y)) 13 (upd (σ.2.1 13) nz w)) 14 (upd (σ.2.1 14) nz v)) 15 (upd (σ.2.1 15) nz (nI nn))) 16 (upd (σ.2.1 16) nz 1000)) 8 (nI (nz + 1)))) rfl ok_X12_told rfl ⟨by decide, by decide⟩ hl.1 rfl (Nat.le_of_ble_eq_true rfl) dX12_nozzle_216 ⟨Nat.zero_le _, Nat.zero_le _⟩) (wM_fst cy a) (fun r216 τ216 H locs p216 h => ?_)
                    refine t_i E h hr hk ?_ dX12_nozzle_219
                    obtain ⟨v9, e9⟩ := p216.2
                    have k9 : K [2, 3, 4, 5, 6, 7, 9, 10, 11, 13] [1, 2, 3, 4, 5, 6, 7, 8, 9, 10, 17, 18, 19, 20, 21, 22, 23, 24, 25, 26, 27, 29] σ τ216 := by rw [e9]; exact (((((((((K.rf.F 0 _ (by decide)).R 11 _ (by decide)).R 12 _ (by decide)).R 13 _ (by decide)).R 14 _ (by decide)).R 15 _ (by decide)).R 16 _ (by decide)).F 8 _ (by decide)).F 1 _ (by decide))
                    exact ⟨k9, gm_no hz (by omega) (by rw [e9]; rfl) (by rw [e9]; rfl) (wt_of (w11.t c14) (by decide) (by decide)) g k9⟩
                  · refine lv_aload_n hx hb dX12_nozzle_126 rfl (lv_at hl 1 rfl) ?_
                    refine lv_bipush (v := -5) hx hb dX12_nozzle_127 (by decide) ?_
                    refine k_i h (q_runV (As := [.int (-5)]) (rest := []) E h (c_X12_told l D cy a (fF σ 0 0) (-5)) co_X12_told ml_X12_154 im_X12_told se_X12_told in_X12 (eM_0 cy a (fF σ 0 0)) rfl ok_X12_told rfl ⟨by decide, by decide⟩ hl.1 rfl (Nat.le_of_ble_eq_true rfl) dX12_nozzle_129 ⟨Nat.zero_le _, Nat.zero_le _⟩) (wM_fst cy a) (fun r129 τ129 H locs p129 h => ?_)
                    refine t_i E h hr hk ?_ dX12_nozzle_132
                    obtain ⟨v9, e9⟩ := p129.2
                    have k9 : K mF mA σ τ129 := by rw [e9]; exact (K.rf.F 0 _ (by decide)).F 1 _ (by decide)
                    exact ⟨KZ_of k9, g.kept k9⟩
                · refine lv_iload hx hb dX12_nozzle_98 (lv_at hl 0 rfl) ?_
                  refine lv_iconst (v := -1) hx hb dX12_nozzle_100 (by decide) ?_
                  refine lv_icmp_eq (tgt := 117) hx hb dX12_nozzle_101 (by decide) (fun c101 => ?_) (fun c101 => ?_)
                  · refine lv_aload_n hx hb dX12_nozzle_117 rfl (lv_at hl 1 rfl) ?_
                    refine r_get E h 18 (v := .int (nI nz)) (eM_0 cy a (fF σ 0 0)) rfl fw_X12 (by decide) fl_X12_149 (congrArg (fun z => some (Value.int z)) hz) dX12_nozzle_118 ?_
                    refine lv_bipush (v := 80) hx hb dX12_nozzle_121 (by decide) ?_
                    refine lv_icmp_ne (tgt := 133) hx hb dX12_nozzle_123 (by decide) (fun c123 => ?_) (fun c123 => ?_)
                    · have c123 : nz ≠ 80 := n_ne (k := 80) c123
                      refine lv_aload_n hx hb dX12_nozzle_133 rfl (lv_at hl 1 rfl) ?_
                      refine r_get E h 19 (v := .ref (a 11)) (eM_0 cy a (fF σ 0 0)) rfl fw_X12 (by decide) fl_X12_40 rfl dX12_nozzle_134 ?_
                      refine lv_aload_n hx hb dX12_nozzle_137 rfl (lv_at hl 1 rfl) ?_
                      refine r_get E h 18 (v := .int (nI nz)) (eM_0 cy a (fF σ 0 0)) rfl fw_X12 (by decide) fl_X12_149 (congrArg (fun z => some (Value.int z)) hz) dX12_nozzle_138 ?_
                      refine lv_iload_n hx hb dX12_nozzle_141 rfl (lv_at hl 2 rfl) ?_
                      refine r_iastN E h (f := σ.2.1 11) (eM_11 cy a (fF σ 0 0)) (j := nz) (by omega) (by decide) (qM_11 cy a (fF σ 0 0) (upd (σ.2.1 11) nz x)) dX12_nozzle_142 (fun H locs h => ?_)
                      refine lv_aload_n hx hb dX12_nozzle_143 rfl (lv_at hl 1 rfl) ?_
                      refine r_get E h 20 (v := .ref (a 12)) (eM_0 cy a (fR (fF σ 0 0) 11 (upd (σ.2.1 11) nz x))) rfl fw_X12 (by decide) fl_X12_43 rfl dX12_nozzle_144 ?_
                      refine lv_aload_n hx hb dX12_nozzle_147 rfl (lv_at hl 1 rfl) ?_
                      refine r_get E h 18 (v := .int (nI nz)) (eM_0 cy a (fR (fF σ 0 0) 11 (upd (σ.2.1 11) nz x))) rfl fw_X12 (by decide) fl_X12_149 (congrArg (fun z => some (Value.int z)) hz) dX12_nozzle_148 ?_
                      refine lv_iload_n hx hb dX12_nozzle_151 rfl (lv_at hl 3 rfl) ?_
                      refine r_iastN E h (f := σ.2.1 12) (eM_12 cy a (fR (fF σ 0 0) 11 (upd (σ.2.1 11) nz x))) (j := nz) (by omega) (by decide) (qM_12 cy a (fR (fF σ 0 0) 11 (upd (σ.2.1 11) nz x)) (upd (σ.2.1 12) nz y)) dX12_nozzle_152 (fun H locs h => ?_)
                      refine lv_aload_n hx hb dX12_nozzle_153 rfl (lv_at hl 1 rfl) ?_
                      refine r_get E h 21 (v := .ref (a 13)) (eM_0 cy a (fR (fR (fF σ 0 0) 11 (upd (σ.2.1 11) nz x)) 12 (upd (σ.2.1 12) nz y))) rfl fw_X12 (by decide) fl_X12_46 rfl dX12_nozzle_154 ?_
                      refine lv_aload_n hx hb dX12_nozzle_157 rfl (lv_at hl 1 rfl) ?_
                      refine r_get E h 18 (v := .int (nI nz)) (eM_0 cy a (fR (fR (fF σ 0 0) 11 (upd (σ.2.1 11) nz x)) 12 (upd (σ.2.1 12) nz y))) rfl fw_X12 (by decide) fl_X12_149 (congrArg (fun z => some (Value.int z)) hz) dX12_nozzle_158 ?_
                      refine lv_iload_n hx hb dX12_nozzle_161 rfl (lv_at hl 4 rfl) ?_
                      refine r_iastN E h (f := σ.2.1 13) (eM_13 cy a (fR (fR (fF σ 0 0) 11 (upd (σ.2.1 11) nz x)) 12 (upd (σ.2.1 12) nz y))) (j := nz) (by omega) (by decide) (qM_13 cy a (fR (fR (fF σ 0 0) 11 (upd (σ.2.1 11) nz x)) 12 (upd (σ.2.1 12) nz y)) (upd (σ.2.1 13) nz w)) dX12_nozzle_162 (fun H locs h => ?_)
                      refine lv_aload_n hx hb dX12_nozzle_163 rfl (lv_at hl 1 rfl) ?_
                      refine r_get E h 22 (v := .ref (a 14)) (eM_0 cy a (fR (fR (fR (fF σ 0 0) 11 (upd (σ.2.1 11) nz x)) 12 (upd (σ.2.1 12) nz y)) 13 (upd (σ.2.1 13) nz w))) rfl fw_X12 (by decide) fl_X12_49 rfl dX12_nozzle_164 ?_
                      refine lv_aload_n hx hb dX12_nozzle_167 rfl (lv_at hl 1 rfl) ?_
                      refine r_get E h 18 (v := .int (nI nz)) (eM_0 cy a (fR (fR (fR (fF σ 0 0) 11 (upd (σ.2.1 11) nz x)) 12 (upd (σ.2.1 12) nz y)) 13 (upd (σ.2.1 13) nz w))) rfl fw_X12 (by decide) fl_X12_149 (congrArg (fun z => some (Value.int z)) hz) dX12_nozzle_168 ?_
                      refine lv_iload hx hb dX12_nozzle_171 (lv_at hl 5 rfl) ?_
                      refine r_iastN E h (f := σ.2.1 14) (eM_14 cy a (fR (fR (fR (fF σ 0 0) 11 (upd (σ.2.1 11) nz x)) 12 (upd (σ.2.1 12) nz y)) 13 (upd (σ.2.1 13) nz w))) (j := nz) (by omega) (by decide) (qM_14 cy a (fR (fR (fR (fF σ 0 0) 11 (upd (σ.2.1 11) nz x)) 12 (upd (σ.2.1 12) nz y)) 13 (upd (σ.2.1 13) nz w)) (upd (σ.2.1 14) nz v)) dX12_nozzle_173 (fun H locs h => ?_)
                      refine lv_aload_n hx hb dX12_nozzle_174 rfl (lv_at hl 1 rfl) ?_
                      refine r_get E h 23 (v := .ref (a 15)) (eM_0 cy a (fR (fR (fR (fR (fF σ 0 0) 11 (upd (σ.2.1 11) nz x)) 12 (upd (σ.2.1 12) nz y)) 13 (upd (σ.2.1 13) nz w)) 14 (upd (σ.2.1 14) nz v))) rfl fw_X12 (by decide) fl_X12_52 rfl dX12_nozzle_175 ?_
                      refine lv_aload_n hx hb dX12_nozzle_178 rfl (lv_at hl 1 rfl) ?_
                      refine r_get E h 18 (v := .int (nI nz)) (eM_0 cy a (fR (fR (fR (fR (fF σ 0 0) 11 (upd (σ.2.1 11) nz x)) 12 (upd (σ.2.1 12) nz y)) 13 (upd (σ.2.1 13) nz w)) 14 (upd (σ.2.1 14) nz v))) rfl fw_X12 (by decide) fl_X12_149 (congrArg (fun z => some (Value.int z)) hz) dX12_nozzle_179 ?_
                      refine lv_aload_n hx hb dX12_nozzle_182 rfl (lv_at hl 1 rfl) ?_
                      refine r_get E h 2 (v := .int (nI nn)) (eM_0 cy a (fR (fR (fR (fR (fF σ 0 0) 11 (upd (σ.2.1 11) nz x)) 12 (upd (σ.2.1 12) nz y)) 13 (upd (σ.2.1 13) nz w)) 14 (upd (σ.2.1 14) nz v))) rfl fw_X12 (by decide) fl_X12_191 (congrArg (fun z => some (Value.int z)) hnow) dX12_nozzle_183 ?_
                      refine r_iastN E h (f := σ.2.1 15) (eM_15 cy a (fR (fR (fR (fR (fF σ 0 0) 11 (upd (σ.2.1 11) nz x)) 12 (upd (σ.2.1 12) nz y)) 13 (upd (σ.2.1 13) nz w)) 14 (upd (σ.2.1 14) nz v))) (j := nz) (by omega) (by decide) (qM_15 cy a (fR (fR (fR (fR (fF σ 0 0) 11 (upd (σ.2.1 11) nz x)) 12 (upd (σ.2.1 12) nz y)) 13 (upd (σ.2.1 13) nz w)) 14 (upd (σ.2.1 14) nz v)) (upd (σ.2.1 15) nz (nI nn))) dX12_nozzle_186 (fun H locs h => ?_)
                      refine lv_aload_n hx hb dX12_nozzle_187 rfl (lv_at hl 1 rfl) ?_
                      refine r_get E h 24 (v := .ref (a 16)) (eM_0 cy a (fR (fR (fR (fR (fR (fF σ 0 0) 11 (upd (σ.2.1 11) nz x)) 12 (upd (σ.2.1 12) nz y)) 13 (upd (σ.2.1 13) nz w)) 14 (upd (σ.2.1 14) nz v)) 15 (upd (σ.2.1 15) nz (nI nn)))) rfl fw_X12 (by decide) fl_X12_55 rfl dX12_nozzle_188 ?_
                      refine lv_aload_n hx hb dX12_nozzle_191 rfl (lv_at hl 1 rfl) ?_
                      refine r_get E h 18 (v := .int (nI nz)) (eM_0 cy a (fR (fR (fR (fR (fR (fF σ 0 0) 11 (upd (σ.2.1 11) nz x)) 12 (upd (σ.2.1 12) nz y)) 13 (upd (σ.2.1 13) nz w)) 14 (upd (σ.2.1 14) nz v)) 15 (upd (σ.2.1 15) nz (nI nn)))) rfl fw_X12 (by decide) fl_X12_149 (congrArg (fun z => some (Value.int z)) hz) dX12_nozzle_192 ?_
                      refine lv_sipush (v := 1000) hx hb dX12_nozzle_195 (by decide) ?_
                      refine r_iastN E h (f := σ.2.1 16) (eM_16 cy a (fR (fR (fR (fR (fR (fF σ 0 0) 11 (upd (σ.2.1 11) nz x)) 12 (upd (σ.2.1 12) nz y)) 13 (upd (σ.2.1 13) nz w)) 14 (upd (σ.2.1 14) nz v)) 15 (upd (σ.2.1 15) nz (nI nn)))) (j := nz) (by omega) (by decide) (qM_16 cy a (fR (fR (fR (fR (fR (fF σ 0 0) 11 (upd (σ.2.1 11) nz x)) 12 (upd (σ.2.1 12) nz y)) 13 (upd (σ.2.1 13) nz w)) 14 (upd (σ.2.1 14) nz v)) 15 (upd (σ.2.1 15) nz (nI nn))) (upd (σ.2.1 16) nz 1000)) dX12_nozzle_198 (fun H locs h => ?_)
                      refine lv_aload_n hx hb dX12_nozzle_199 rfl (lv_at hl 1 rfl) ?_
                      refine lv_dup hx hb dX12_nozzle_200 rfl ?_
                      refine r_get E h 18 (v := .int (nI nz)) (eM_0 cy a (fR (fR (fR (fR (fR (fR (fF σ 0 0) 11 (upd (σ.2.1 11) nz x)) 12 (upd (σ.2.1 12) nz y)) 13 (upd (σ.2.1 13) nz w)) 14 (upd (σ.2.1 14) nz v)) 15 (upd (σ.2.1 15) nz (nI nn))) 16 (upd (σ.2.1 16) nz 1000))) rfl fw_X12 (by decide) fl_X12_149 (congrArg (fun z => some (Value.int z)) hz) dX12_nozzle_201 ?_
                      refine lv_iconst (v := 1) hx hb dX12_nozzle_204 (by decide) ?_
                      refine n_add (j := nz) (k := 1) hx hb dX12_nozzle_205 ?_
                      refine r_put E h 18 (ty := .int) (eM_0 cy a (fR (fR (fR (fR (fR (fR (fF σ 0 0) 11 (upd (σ.2.1 11) nz x)) 12 (upd (σ.2.1 12) nz y)) 13 (upd (σ.2.1 13) nz w)) 14 (upd (σ.2.1 14) nz v)) 15 (upd (σ.2.1 15) nz (nI nn))) 16 (upd (σ.2.1 16) nz 1000))) rfl fw_X12 tyX12_ok nmX12 (by decide) fl_X12_149 rfl (by decide +kernel) rfl rfl (Nat.le_of_ble_eq_true rfl) (sM_8 cy a (fR (fR (fR (fR (fR (fR (fF σ 0 0) 11 (upd (σ.2.1 11) nz x)) 12 (upd (σ.2.1 12) nz y)) 13 (upd (σ.2.1 13) nz w)) 14 (upd (σ.2.1 14) nz v)) 15 (upd (σ.2.1 15) nz (nI nn))) 16 (upd (σ.2.1 16) nz 1000)) (nI (nz + 1))) dX12_nozzle_206 (fun H locs h => ?_)
                      refine lv_aload_n hx hb dX12_nozzle_209 rfl (lv_at hl 1 rfl) ?_
                      refine lv_aload_n hx hb dX12_nozzle_210 rfl (lv_at hl 1 rfl) ?_
                      refine r_get E h 18 (v := .int (nI (nz + 1))) (eM_0 cy a (fF (fR (fR (fR (fR (fR (fR (fF σ 0 0) 11 (upd (σ.2.1 11) nz x)) 12 (upd (σ.2.1 12) nz y)) 13 (upd (σ.2.1 13) nz w)) 14 (upd (σ.2.1 14) nz v)) 15 (upd (σ.2.1 15) nz (nI nn))) 16 (upd (σ.2.1 16) nz 1000)) 8 (nI (nz + 1)))) rfl fw_X12 (by decide) fl_X12_149 rfl dX12_nozzle_211 ?_
                      refine lv_iconst (v := 1) hx hb dX12_nozzle_214 (by decide) ?_
                      refine n_sub1 hx hb dX12_nozzle_215 ?_
                      refine k_i h (q_runV (As := [.int (nI nz)]) (rest := []) E h (c_X12_told l D cy a (fF (fR (fR (fR (fR (fR (fR (fF σ 0 0) 11 (upd (σ.2.1 11) nz x)) 12 (upd (σ.2.1 12) nz y)) 13 (upd (σ.2.1 13) nz w)) 14 (upd (σ.2.1 14) nz v)) 15 (upd (σ.2.1 15) nz (nI nn))) 16 (upd (σ.2.1 16) nz 1000)) 8 (nI (nz + 1))) (nI nz)) co_X12_told ml_X12_154 im_X12_told se_X12_told in_X12 (eM_0 cy a (fF (fR (fR (fR (fR (fR (fR (fF σ 0 0) 11 (upd (σ.2.1 11) nz x)) 12 (upd (σ.2.1 12) nz y)) 13 (upd (σ.2.1 13) nz w)) 14 (upd (σ.2.1 14) nz v)) 15 (upd (σ.2.1 15) nz (nI nn))) 16 (upd (σ.2.1 16) nz 1000)) 8 (nI (nz + 1)))) rfl ok_X12_told rfl ⟨by decide, by decide⟩ hl.1 rfl (Nat.le_of_ble_eq_true rfl) dX12_nozzle_216 ⟨Nat.zero_le _, Nat.zero_le _⟩) (wM_fst cy a) (fun r216 τ216 H locs p216 h => ?_)
                      refine t_i E h hr hk ?_ dX12_nozzle_219
                      obtain ⟨v9, e9⟩ := p216.2
                      have k9 : K [2, 3, 4, 5, 6, 7, 9, 10, 11, 13] [1, 2, 3, 4, 5, 6, 7, 8, 9, 10, 17, 18, 19, 20, 21, 22, 23, 24, 25, 26, 27, 29] σ τ216 := by rw [e9]; exact (((((((((K.rf.F 0 _ (by decide)).R 11 _ (by decide)).R 12 _ (by decide)).R 13 _ (by decide)).R 14 _ (by decide)).R 15 _ (by decide)).R 16 _ (by decide)).F 8 _ (by decide)).F 1 _ (by decide))
                      exact ⟨k9, gm_no hz (by omega) (by rw [e9]; rfl) (by rw [e9]; rfl) (wt_of (w11.t c14) (by decide) (by decide)) g k9⟩
                    · refine lv_aload_n hx hb dX12_nozzle_126 rfl (lv_at hl 1 rfl) ?_
                      refine lv_bipush (v := -5) hx hb dX12_nozzle_127 (by decide) ?_
                      refine k_i h (q_runV (As := [.int (-5)]) (rest := []) E h (c_X12_told l D cy a (fF σ 0 0) (-5)) co_X12_told ml_X12_154 im_X12_told se_X12_told in_X12 (eM_0 cy a (fF σ 0 0)) rfl ok_X12_told rfl ⟨by decide, by decide⟩ hl.1 rfl (Nat.le_of_ble_eq_true rfl) dX12_nozzle_129 ⟨Nat.zero_le _, Nat.zero_le _⟩) (wM_fst cy a) (fun r129 τ129 H locs p129 h => ?_)
                      refine t_i E h hr hk ?_ dX12_nozzle_132
                      obtain ⟨v9, e9⟩ := p129.2
                      have k9 : K mF mA σ τ129 := by rw [e9]; exact (K.rf.F 0 _ (by decide)).F 1 _ (by decide)
                      exact ⟨KZ_of k9, g.kept k9⟩
                  · refine lv_iload_n hx hb dX12_nozzle_104 rfl (lv_at hl 3 rfl) ?_
                    refine lv_iload hx hb dX12_nozzle_105 (lv_at hl 0 rfl) ?_
                    refine lv_icmp_le (tgt := 117) hx hb dX12_nozzle_107 (by decide) (fun c107 => ?_) (fun c107 => ?_)
                    · refine lv_aload_n hx hb dX12_nozzle_117 rfl (lv_at hl 1 rfl) ?_
                      refine r_get E h 18 (v := .int (nI nz)) (eM_0 cy a (fF σ 0 0)) rfl fw_X12 (by decide) fl_X12_149 (congrArg (fun z => some (Value.int z)) hz) dX12_nozzle_118 ?_
                      refine lv_bipush (v := 80) hx hb dX12_nozzle_121 (by decide) ?_
                      refine lv_icmp_ne (tgt := 133) hx hb dX12_nozzle_123 (by decide) (fun c123 => ?_) (fun c123 => ?_)
                      · have c123 : nz ≠ 80 := n_ne (k := 80) c123
                        refine lv_aload_n hx hb dX12_nozzle_133 rfl (lv_at hl 1 rfl) ?_
                        refine r_get E h 19 (v := .ref (a 11)) (eM_0 cy a (fF σ 0 0)) rfl fw_X12 (by decide) fl_X12_40 rfl dX12_nozzle_134 ?_
                        refine lv_aload_n hx hb dX12_nozzle_137 rfl (lv_at hl 1 rfl) ?_
                        refine r_get E h 18 (v := .int (nI nz)) (eM_0 cy a (fF σ 0 0)) rfl fw_X12 (by decide) fl_X12_149 (congrArg (fun z => some (Value.int z)) hz) dX12_nozzle_138 ?_
                        refine lv_iload_n hx hb dX12_nozzle_141 rfl (lv_at hl 2 rfl) ?_
                        refine r_iastN E h (f := σ.2.1 11) (eM_11 cy a (fF σ 0 0)) (j := nz) (by omega) (by decide) (qM_11 cy a (fF σ 0 0) (upd (σ.2.1 11) nz x)) dX12_nozzle_142 (fun H locs h => ?_)
                        refine lv_aload_n hx hb dX12_nozzle_143 rfl (lv_at hl 1 rfl) ?_
                        refine r_get E h 20 (v := .ref (a 12)) (eM_0 cy a (fR (fF σ 0 0) 11 (upd (σ.2.1 11) nz x))) rfl fw_X12 (by decide) fl_X12_43 rfl dX12_nozzle_144 ?_
                        refine lv_aload_n hx hb dX12_nozzle_147 rfl (lv_at hl 1 rfl) ?_
                        refine r_get E h 18 (v := .int (nI nz)) (eM_0 cy a (fR (fF σ 0 0) 11 (upd (σ.2.1 11) nz x))) rfl fw_X12 (by decide) fl_X12_149 (congrArg (fun z => some (Value.int z)) hz) dX12_nozzle_148 ?_
                        refine lv_iload_n hx hb dX12_nozzle_151 rfl (lv_at hl 3 rfl) ?_
                        refine r_iastN E h (f := σ.2.1 12) (eM_12 cy a (fR (fF σ 0 0) 11 (upd (σ.2.1 11) nz x))) (j := nz) (by omega) (by decide) (qM_12 cy a (fR (fF σ 0 0) 11 (upd (σ.2.1 11) nz x)) (upd (σ.2.1 12) nz y)) dX12_nozzle_152 (fun H locs h => ?_)
                        refine lv_aload_n hx hb dX12_nozzle_153 rfl (lv_at hl 1 rfl) ?_
                        refine r_get E h 21 (v := .ref (a 13)) (eM_0 cy a (fR (fR (fF σ 0 0) 11 (upd (σ.2.1 11) nz x)) 12 (upd (σ.2.1 12) nz y))) rfl fw_X12 (by decide) fl_X12_46 rfl dX12_nozzle_154 ?_
                        refine lv_aload_n hx hb dX12_nozzle_157 rfl (lv_at hl 1 rfl) ?_
                        refine r_get E h 18 (v := .int (nI nz)) (eM_0 cy a (fR (fR (fF σ 0 0) 11 (upd (σ.2.1 11) nz x)) 12 (upd (σ.2.1 12) nz y))) rfl fw_X12 (by decide) fl_X12_149 (congrArg (fun z => some (Value.int z)) hz) dX12_nozzle_158 ?_
                        refine lv_iload_n hx hb dX12_nozzle_161 rfl (lv_at hl 4 rfl) ?_
                        refine r_iastN E h (f := σ.2.1 13) (eM_13 cy a (fR (fR (fF σ 0 0) 11 (upd (σ.2.1 11) nz x)) 12 (upd (σ.2.1 12) nz y))) (j := nz) (by omega) (by decide) (qM_13 cy a (fR (fR (fF σ 0 0) 11 (upd (σ.2.1 11) nz x)) 12 (upd (σ.2.1 12) nz y)) (upd (σ.2.1 13) nz w)) dX12_nozzle_162 (fun H locs h => ?_)
                        refine lv_aload_n hx hb dX12_nozzle_163 rfl (lv_at hl 1 rfl) ?_
                        refine r_get E h 22 (v := .ref (a 14)) (eM_0 cy a (fR (fR (fR (fF σ 0 0) 11 (upd (σ.2.1 11) nz x)) 12 (upd (σ.2.1 12) nz y)) 13 (upd (σ.2.1 13) nz w))) rfl fw_X12 (by decide) fl_X12_49 rfl dX12_nozzle_164 ?_
                        refine lv_aload_n hx hb dX12_nozzle_167 rfl (lv_at hl 1 rfl) ?_
                        refine r_get E h 18 (v := .int (nI nz)) (eM_0 cy a (fR (fR (fR (fF σ 0 0) 11 (upd (σ.2.1 11) nz x)) 12 (upd (σ.2.1 12) nz y)) 13 (upd (σ.2.1 13) nz w))) rfl fw_X12 (by decide) fl_X12_149 (congrArg (fun z => some (Value.int z)) hz) dX12_nozzle_168 ?_
                        refine lv_iload hx hb dX12_nozzle_171 (lv_at hl 5 rfl) ?_
                        refine r_iastN E h (f := σ.2.1 14) (eM_14 cy a (fR (fR (fR (fF σ 0 0) 11 (upd (σ.2.1 11) nz x)) 12 (upd (σ.2.1 12) nz y)) 13 (upd (σ.2.1 13) nz w))) (j := nz) (by omega) (by decide) (qM_14 cy a (fR (fR (fR (fF σ 0 0) 11 (upd (σ.2.1 11) nz x)) 12 (upd (σ.2.1 12) nz y)) 13 (upd (σ.2.1 13) nz w)) (upd (σ.2.1 14) nz v)) dX12_nozzle_173 (fun H locs h => ?_)
                        refine lv_aload_n hx hb dX12_nozzle_174 rfl (lv_at hl 1 rfl) ?_
                        refine r_get E h 23 (v := .ref (a 15)) (eM_0 cy a (fR (fR (fR (fR (fF σ 0 0) 11 (upd (σ.2.1 11) nz x)) 12 (upd (σ.2.1 12) nz y)) 13 (upd (σ.2.1 13) nz w)) 14 (upd (σ.2.1 14) nz v))) rfl fw_X12 (by decide) fl_X12_52 rfl dX12_nozzle_175 ?_
                        refine lv_aload_n hx hb dX12_nozzle_178 rfl (lv_at hl 1 rfl) ?_
                        refine r_get E h 18 (v := .int (nI nz)) (eM_0 cy a (fR (fR (fR (fR (fF σ 0 0) 11 (upd (σ.2.1 11) nz x)) 12 (upd (σ.2.1 12) nz y)) 13 (upd (σ.2.1 13) nz w)) 14 (upd (σ.2.1 14) nz v))) rfl fw_X12 (by decide) fl_X12_149 (congrArg (fun z => some (Value.int z)) hz) dX12_nozzle_179 ?_
                        refine lv_aload_n hx hb dX12_nozzle_182 rfl (lv_at hl 1 rfl) ?_
                        refine r_get E h 2 (v := .int (nI nn)) (eM_0 cy a (fR (fR (fR (fR (fF σ 0 0) 11 (upd (σ.2.1 11) nz x)) 12 (upd (σ.2.1 12) nz y)) 13 (upd (σ.2.1 13) nz w)) 14 (upd (σ.2.1 14) nz v))) rfl fw_X12 (by decide) fl_X12_191 (congrArg (fun z => some (Value.int z)) hnow) dX12_nozzle_183 ?_
                        refine r_iastN E h (f := σ.2.1 15) (eM_15 cy a (fR (fR (fR (fR (fF σ 0 0) 11 (upd (σ.2.1 11) nz x)) 12 (upd (σ.2.1 12) nz y)) 13 (upd (σ.2.1 13) nz w)) 14 (upd (σ.2.1 14) nz v))) (j := nz) (by omega) (by decide) (qM_15 cy a (fR (fR (fR (fR (fF σ 0 0) 11 (upd (σ.2.1 11) nz x)) 12 (upd (σ.2.1 12) nz y)) 13 (upd (σ.2.1 13) nz w)) 14 (upd (σ.2.1 14) nz v)) (upd (σ.2.1 15) nz (nI nn))) dX12_nozzle_186 (fun H locs h => ?_)
                        refine lv_aload_n hx hb dX12_nozzle_187 rfl (lv_at hl 1 rfl) ?_
                        refine r_get E h 24 (v := .ref (a 16)) (eM_0 cy a (fR (fR (fR (fR (fR (fF σ 0 0) 11 (upd (σ.2.1 11) nz x)) 12 (upd (σ.2.1 12) nz y)) 13 (upd (σ.2.1 13) nz w)) 14 (upd (σ.2.1 14) nz v)) 15 (upd (σ.2.1 15) nz (nI nn)))) rfl fw_X12 (by decide) fl_X12_55 rfl dX12_nozzle_188 ?_
                        refine lv_aload_n hx hb dX12_nozzle_191 rfl (lv_at hl 1 rfl) ?_
                        refine r_get E h 18 (v := .int (nI nz)) (eM_0 cy a (fR (fR (fR (fR (fR (fF σ 0 0) 11 (upd (σ.2.1 11) nz x)) 12 (upd (σ.2.1 12) nz y)) 13 (upd (σ.2.1 13) nz w)) 14 (upd (σ.2.1 14) nz v)) 15 (upd (σ.2.1 15) nz (nI nn)))) rfl fw_X12 (by decide) fl_X12_149 (congrArg (fun z => some (Value.int z)) hz) dX12_nozzle_192 ?_
                        refine lv_sipush (v := 1000) hx hb dX12_nozzle_195 (by decide) ?_
                        refine r_iastN E h (f := σ.2.1 16) (eM_16 cy a (fR (fR (fR (fR (fR (fF σ 0 0) 11 (upd (σ.2.1 11) nz x)) 12 (upd (σ.2.1 12) nz y)) 13 (upd (σ.2.1 13) nz w)) 14 (upd (σ.2.1 14) nz v)) 15 (upd (σ.2.1 15) nz (nI nn)))) (j := nz) (by omega) (by decide) (qM_16 cy a (fR (fR (fR (fR (fR (fF σ 0 0) 11 (upd (σ.2.1 11) nz x)) 12 (upd (σ.2.1 12) nz y)) 13 (upd (σ.2.1 13) nz w)) 14 (upd (σ.2.1 14) nz v)) 15 (upd (σ.2.1 15) nz (nI nn))) (upd (σ.2.1 16) nz 1000)) dX12_nozzle_198 (fun H locs h => ?_)
                        refine lv_aload_n hx hb dX12_nozzle_199 rfl (lv_at hl 1 rfl) ?_
                        refine lv_dup hx hb dX12_nozzle_200 rfl ?_
                        refine r_get E h 18 (v := .int (nI nz)) (eM_0 cy a (fR (fR (fR (fR (fR (fR (fF σ 0 0) 11 (upd (σ.2.1 11) nz x)) 12 (upd (σ.2.1 12) nz y)) 13 (upd (σ.2.1 13) nz w)) 14 (upd (σ.2.1 14) nz v)) 15 (upd (σ.2.1 15) nz (nI nn))) 16 (upd (σ.2.1 16) nz 1000))) rfl fw_X12 (by decide) fl_X12_149 (congrArg (fun z => some (Value.int z)) hz) dX12_nozzle_201 ?_
                        refine lv_iconst (v := 1) hx hb dX12_nozzle_204 (by decide) ?_
                        refine n_add (j := nz) (k := 1) hx hb dX12_nozzle_205 ?_
                        refine r_put E h 18 (ty := .int) (eM_0 cy a (fR (fR (fR (fR (fR (fR (fF σ 0 0) 11 (upd (σ.2.1 11) nz x)) 12 (upd (σ.2.1 12) nz y)) 13 (upd (σ.2.1 13) nz w)) 14 (upd (σ.2.1 14) nz v)) 15 (upd (σ.2.1 15) nz (nI nn))) 16 (upd (σ.2.1 16) nz 1000))) rfl fw_X12 tyX12_ok nmX12 (by decide) fl_X12_149 rfl (by decide +kernel) rfl rfl (Nat.le_of_ble_eq_true rfl) (sM_8 cy a (fR (fR (fR (fR (fR (fR (fF σ 0 0) 11 (upd (σ.2.1 11) nz x)) 12 (upd (σ.2.1 12) nz y)) 13 (upd (σ.2.1 13) nz w)) 14 (upd (σ.2.1 14) nz v)) 15 (upd (σ.2.1 15) nz (nI nn))) 16 (upd (σ.2.1 16) nz 1000)) (nI (nz + 1))) dX12_nozzle_206 (fun H locs h => ?_)
                        refine lv_aload_n hx hb dX12_nozzle_209 rfl (lv_at hl 1 rfl) ?_
                        refine lv_aload_n hx hb dX12_nozzle_210 rfl (lv_at hl 1 rfl) ?_
                        refine r_get E h 18 (v := .int (nI (nz + 1))) (eM_0 cy a (fF (fR (fR (fR (fR (fR (fR (fF σ 0 0) 11 (upd (σ.2.1 11) nz x)) 12 (upd (σ.2.1 12) nz y)) 13 (upd (σ.2.1 13) nz w)) 14 (upd (σ.2.1 14) nz v)) 15 (upd (σ.2.1 15) nz (nI nn))) 16 (upd (σ.2.1 16) nz 1000)) 8 (nI (nz + 1)))) rfl fw_X12 (by decide) fl_X12_149 rfl dX12_nozzle_211 ?_
                        refine lv_iconst (v := 1) hx hb dX12_nozzle_214 (by decide) ?_
                        refine n_sub1 hx hb dX12_nozzle_215 ?_
                        refine k_i h (q_runV (As := [.int (nI nz)]) (rest := []) E h (c_X12_told l D cy a (fF (fR (fR (fR (fR (fR (fR (fF σ 0 0) 11 (upd (σ.2.1 11) nz x)) 12 (upd (σ.2.1 12) nz y)) 13 (upd (σ.2.1 13) nz w)) 14 (upd (σ.2.1 14) nz v)) 15 (upd (σ.2.1 15) nz (nI nn))) 16 (upd (σ.2.1 16) nz 1000)) 8 (nI (nz + 1))) (nI nz)) co_X12_told ml_X12_154 im_X12_told se_X12_told in_X12 (eM_0 cy a (fF (fR (fR (fR (fR (fR (fR (fF σ 0 0) 11 (upd (σ.2.1 11) nz x)) 12 (upd (σ.2.1 12) nz y)) 13 (upd (σ.2.1 13) nz w)) 14 (upd (σ.2.1 14) nz v)) 15 (upd (σ.2.1 15) nz (nI nn))) 16 (upd (σ.2.1 16) nz 1000)) 8 (nI (nz + 1)))) rfl ok_X12_told rfl ⟨by decide, by decide⟩ hl.1 rfl (Nat.le_of_ble_eq_true rfl) dX12_nozzle_216 ⟨Nat.zero_le _, Nat.zero_le _⟩) (wM_fst cy a) (fun r216 τ216 H locs p216 h => ?_)
                        refine t_i E h hr hk ?_ dX12_nozzle_219
                        obtain ⟨v9, e9⟩ := p216.2
                        have k9 : K [2, 3, 4, 5, 6, 7, 9, 10, 11, 13] [1, 2, 3, 4, 5, 6, 7, 8, 9, 10, 17, 18, 19, 20, 21, 22, 23, 24, 25, 26, 27, 29] σ τ216 := by rw [e9]; exact (((((((((K.rf.F 0 _ (by decide)).R 11 _ (by decide)).R 12 _ (by decide)).R 13 _ (by decide)).R 14 _ (by decide)).R 15 _ (by decide)).R 16 _ (by decide)).F 8 _ (by decide)).F 1 _ (by decide))
                        exact ⟨k9, gm_no hz (by omega) (by rw [e9]; rfl) (by rw [e9]; rfl) (wt_of (w11.t c14) (by decide) (by decide)) g k9⟩
                      · refine lv_aload_n hx hb dX12_nozzle_126 rfl (lv_at hl 1 rfl) ?_
                        refine lv_bipush (v := -5) hx hb dX12_nozzle_127 (by decide) ?_
                        refine k_i h (q_runV (As := [.int (-5)]) (rest := []) E h (c_X12_told l D cy a (fF σ 0 0) (-5)) co_X12_told ml_X12_154 im_X12_told se_X12_told in_X12 (eM_0 cy a (fF σ 0 0)) rfl ok_X12_told rfl ⟨by decide, by decide⟩ hl.1 rfl (Nat.le_of_ble_eq_true rfl) dX12_nozzle_129 ⟨Nat.zero_le _, Nat.zero_le _⟩) (wM_fst cy a) (fun r129 τ129 H locs p129 h => ?_)
                        refine t_i E h hr hk ?_ dX12_nozzle_132
                        obtain ⟨v9, e9⟩ := p129.2
                        have k9 : K mF mA σ τ129 := by rw [e9]; exact (K.rf.F 0 _ (by decide)).F 1 _ (by decide)
                        exact ⟨KZ_of k9, g.kept k9⟩
                    · refine lv_aload_n hx hb dX12_nozzle_110 rfl (lv_at hl 1 rfl) ?_
                      refine lv_bipush (v := -3) hx hb dX12_nozzle_111 (by decide) ?_
                      refine k_i h (q_runV (As := [.int (-3)]) (rest := []) E h (c_X12_told l D cy a (fF σ 0 0) (-3)) co_X12_told ml_X12_154 im_X12_told se_X12_told in_X12 (eM_0 cy a (fF σ 0 0)) rfl ok_X12_told rfl ⟨by decide, by decide⟩ hl.1 rfl (Nat.le_of_ble_eq_true rfl) dX12_nozzle_113 ⟨Nat.zero_le _, Nat.zero_le _⟩) (wM_fst cy a) (fun r113 τ113 H locs p113 h => ?_)
                      refine t_i E h hr hk ?_ dX12_nozzle_116
                      obtain ⟨v9, e9⟩ := p113.2
                      have k9 : K mF mA σ τ113 := by rw [e9]; exact (K.rf.F 0 _ (by decide)).F 1 _ (by decide)
                      exact ⟨KZ_of k9, g.kept k9⟩
              · refine lv_aload_n hx hb dX12_nozzle_75 rfl (lv_at hl 0 rfl) ?_
                refine lv_bipush (v := -2) hx hb dX12_nozzle_76 (by decide) ?_
                refine k_i h (q_runV (As := [.int (-2)]) (rest := []) E h (c_X12_told l D cy a (fF σ 0 0) (-2)) co_X12_told ml_X12_154 im_X12_told se_X12_told in_X12 (eM_0 cy a (fF σ 0 0)) rfl ok_X12_told rfl ⟨by decide, by decide⟩ hl.1 rfl (Nat.le_of_ble_eq_true rfl) dX12_nozzle_78 ⟨Nat.zero_le _, Nat.zero_le _⟩) (wM_fst cy a) (fun r78 τ78 H locs p78 h => ?_)
                refine t_i E h hr hk ?_ dX12_nozzle_81
                obtain ⟨v9, e9⟩ := p78.2
                have k9 : K mF mA σ τ78 := by rw [e9]; exact (K.rf.F 0 _ (by decide)).F 1 _ (by decide)
                exact ⟨KZ_of k9, g.kept k9⟩
        · refine lv_aload_n hx hb dX12_nozzle_47 rfl (lv_at hl 0 rfl) ?_
          refine lv_iconst (v := -1) hx hb dX12_nozzle_48 (by decide) ?_
          refine k_i h (q_runV (As := [.int (-1)]) (rest := []) E h (c_X12_told l D cy a (fF σ 0 0) (-1)) co_X12_told ml_X12_154 im_X12_told se_X12_told in_X12 (eM_0 cy a (fF σ 0 0)) rfl ok_X12_told rfl ⟨by decide, by decide⟩ hl.1 rfl (Nat.le_of_ble_eq_true rfl) dX12_nozzle_49 ⟨Nat.zero_le _, Nat.zero_le _⟩) (wM_fst cy a) (fun r49 τ49 H locs p49 h => ?_)
          refine t_i E h hr hk ?_ dX12_nozzle_52
          obtain ⟨v9, e9⟩ := p49.2
          have k9 : K mF mA σ τ49 := by rw [e9]; exact (K.rf.F 0 _ (by decide)).F 1 _ (by decide)
          exact ⟨KZ_of k9, g.kept k9⟩

set_option maxHeartbeats 4000000 in
set_option maxRecDepth 100000 in
theorem c_X12_shut (l : Launch) (D : va_G) (cy : Nat → ClassId) (a : Nat → Nat) (σ : St) (x : Int32) (g : GM 40 σ) : CI l yX12_shut cX12_shut 2 (some .int) (rmOf 2 46) D cy (wM cy a) (AM a) [.ref (a 0), .int x] σ (fun _ τ => K [2, 3, 4, 5, 6, 7, 8, 9, 10, 11, 13] [1, 2, 3, 4, 5, 6, 7, 8, 9, 10, 11, 12, 13, 14, 15, 17, 18, 19, 20, 21, 22, 23, 24, 25, 26, 27, 29] σ τ) := by
  refine c_of (lv := [(0, .ref (a 0)), (1, .int x)]) rfl (Nat.le_of_ble_eq_true rfl) rfl ?_
  intro p e s m args below meth c ls E h hr hk hl
  have hx := E.1
  have hb := E.2.1
  obtain ⟨⟨nq, hq4, hq⟩, ⟨ns, hs6, hs⟩, ⟨nc, hc12, hc, hcw⟩, ⟨np, hp4, hp⟩, ⟨nd, hd6, hd⟩, ⟨nz, hz8, hz, hzw⟩, ⟨nt, ht6, ht⟩, ⟨nr, hr4, hrp⟩, ⟨nl, hl3, hla⟩, ⟨nx, hx4, hxt⟩, ⟨nn, hn2, hnow⟩⟩ := id g
  refine lv_aload_n hx hb dX12_shut_0 rfl (lv_at hl 0 rfl) ?_
  refine lv_iconst (v := 0) hx hb dX12_shut_1 (by decide) ?_
  refine r_put E h 0 (ty := .int) (eM_0 cy a σ) rfl fw_X12 tyX12_ok nmX12 (by decide) fl_X12_131 rfl (by decide +kernel) rfl rfl (Nat.le_of_ble_eq_true rfl) (sM_0 cy a σ 0) dX12_shut_2 (fun H locs h => ?_)
  refine lv_aload_n hx hb dX12_shut_5 rfl (lv_at hl 0 rfl) ?_
  refine lv_iload_n hx hb dX12_shut_6 rfl (lv_at hl 1 rfl) ?_
  refine k_i h (q_runV (As := [.int x]) (rest := []) E h (c_X12_isNozzle l D cy a (fF σ 0 0) x nz hz (by omega)) co_X12_isNozzle ml_X12_197 im_X12_isNozzle se_X12_isNozzle in_X12 (eM_0 cy a (fF σ 0 0)) rfl ok_X12_isNozzle rfl ⟨by decide, by decide⟩ hl.1 rfl (Nat.le_of_ble_eq_true rfl) dX12_shut_7 ⟨Nat.zero_le _, Nat.zero_le _⟩) (wM_fst cy a) (fun r7 τ7 H locs p7 h => ?_)
  rw [p7.1] at h
  refine lv_if_ne (tgt := 20) hx hb dX12_shut_10 (by decide) (fun c10 => ?_) (fun c10 => ?_)
  · obtain ⟨i, hi, hi8, rfl⟩ := z_in (p7.2.t c10).1 (p7.2.t c10).2 hz8 (by decide)
    refine lv_aload_n hx hb dX12_shut_20 rfl (lv_at hl 0 rfl) ?_
    refine r_get E h 24 (v := .ref (a 16)) (eM_0 cy a (fF σ 0 0)) rfl fw_X12 (by decide) fl_X12_55 rfl dX12_shut_21 ?_
    refine lv_iload_n hx hb dX12_shut_24 rfl (lv_at hl 1 rfl) ?_
    refine lv_aload_n hx hb dX12_shut_25 rfl (lv_at hl 0 rfl) ?_
    refine r_get E h 24 (v := .ref (a 16)) (eM_0 cy a (fF σ 0 0)) rfl fw_X12 (by decide) fl_X12_55 rfl dX12_shut_26 ?_
    refine lv_iload_n hx hb dX12_shut_29 rfl (lv_at hl 1 rfl) ?_
    refine r_ialdN E h (f := σ.2.1 16) (eM_16 cy a (fF σ 0 0)) (j := i) hi8 (by decide) (v := σ.2.1 16 i) rfl dX12_shut_30 ?_
    refine lv_sipush (v := 1000) hx hb dX12_shut_31 (by decide) ?_
    refine lv_icmp_ge (tgt := 46) hx hb dX12_shut_34 (by decide) (fun c34 => ?_) (fun c34 => ?_)
    · refine lv_aload_n hx hb dX12_shut_46 rfl (lv_at hl 0 rfl) ?_
      refine r_get E h 2 (v := .int (σ.1 2)) (eM_0 cy a (fF σ 0 0)) rfl fw_X12 (by decide) fl_X12_191 rfl dX12_shut_47 ?_
      refine r_iastN E h (f := σ.2.1 16) (eM_16 cy a (fF σ 0 0)) (j := i) hi8 (by decide) (qM_16 cy a (fF σ 0 0) (upd (σ.2.1 16) i (σ.1 2))) dX12_shut_50 (fun H locs h => ?_)
      refine lv_aload_n hx hb dX12_shut_51 rfl (lv_at hl 0 rfl) ?_
      refine lv_iconst (v := 0) hx hb dX12_shut_52 (by decide) ?_
      refine k_i h (q_runV (As := [.int 0]) (rest := []) E h (c_X12_told l D cy a (fR (fF σ 0 0) 16 (upd (σ.2.1 16) i (σ.1 2))) 0) co_X12_told ml_X12_154 im_X12_told se_X12_told in_X12 (eM_0 cy a (fR (fF σ 0 0) 16 (upd (σ.2.1 16) i (σ.1 2)))) rfl ok_X12_told rfl ⟨by decide, by decide⟩ hl.1 rfl (Nat.le_of_ble_eq_true rfl) dX12_shut_53 ⟨Nat.zero_le _, Nat.zero_le _⟩) (wM_fst cy a) (fun r53 τ53 H locs p53 h => ?_)
      exact t_i E h hr hk (by obtain ⟨v9, e⟩ := p53.2; rw [e]; exact ((K.rf.F 0 _ (by decide)).R 16 _ (by decide)).F 1 _ (by decide)) dX12_shut_56
    · refine lv_aload_n hx hb dX12_shut_37 rfl (lv_at hl 0 rfl) ?_
      refine r_get E h 24 (v := .ref (a 16)) (eM_0 cy a (fF σ 0 0)) rfl fw_X12 (by decide) fl_X12_55 rfl dX12_shut_38 ?_
      refine lv_iload_n hx hb dX12_shut_41 rfl (lv_at hl 1 rfl) ?_
      refine r_ialdN E h (f := σ.2.1 16) (eM_16 cy a (fF σ 0 0)) (j := i) hi8 (by decide) (v := σ.2.1 16 i) rfl dX12_shut_42 ?_
      refine lv_goto (tgt := 50) hx hb dX12_shut_43 (by decide) ?_
      refine r_iastN E h (f := σ.2.1 16) (eM_16 cy a (fF σ 0 0)) (j := i) hi8 (by decide) (qM_16 cy a (fF σ 0 0) (upd (σ.2.1 16) i (σ.2.1 16 i))) dX12_shut_50 (fun H locs h => ?_)
      refine lv_aload_n hx hb dX12_shut_51 rfl (lv_at hl 0 rfl) ?_
      refine lv_iconst (v := 0) hx hb dX12_shut_52 (by decide) ?_
      refine k_i h (q_runV (As := [.int 0]) (rest := []) E h (c_X12_told l D cy a (fR (fF σ 0 0) 16 (upd (σ.2.1 16) i (σ.2.1 16 i))) 0) co_X12_told ml_X12_154 im_X12_told se_X12_told in_X12 (eM_0 cy a (fR (fF σ 0 0) 16 (upd (σ.2.1 16) i (σ.2.1 16 i)))) rfl ok_X12_told rfl ⟨by decide, by decide⟩ hl.1 rfl (Nat.le_of_ble_eq_true rfl) dX12_shut_53 ⟨Nat.zero_le _, Nat.zero_le _⟩) (wM_fst cy a) (fun r53 τ53 H locs p53 h => ?_)
      exact t_i E h hr hk (by obtain ⟨v9, e⟩ := p53.2; rw [e]; exact ((K.rf.F 0 _ (by decide)).R 16 _ (by decide)).F 1 _ (by decide)) dX12_shut_56
  · refine lv_aload_n hx hb dX12_shut_13 rfl (lv_at hl 0 rfl) ?_
    refine lv_bipush (v := -2) hx hb dX12_shut_14 (by decide) ?_
    refine k_i h (q_runV (As := [.int (-2)]) (rest := []) E h (c_X12_told l D cy a (fF σ 0 0) (-2)) co_X12_told ml_X12_154 im_X12_told se_X12_told in_X12 (eM_0 cy a (fF σ 0 0)) rfl ok_X12_told rfl ⟨by decide, by decide⟩ hl.1 rfl (Nat.le_of_ble_eq_true rfl) dX12_shut_16 ⟨Nat.zero_le _, Nat.zero_le _⟩) (wM_fst cy a) (fun r16 τ16 H locs p16 h => ?_)
    exact t_i E h hr hk (by obtain ⟨v9, e⟩ := p16.2; rw [e]; exact (K.rf.F 0 _ (by decide)).F 1 _ (by decide)) dX12_shut_19

set_option maxHeartbeats 4000000 in
set_option maxRecDepth 100000 in
theorem c_X12_law (l : Launch) (D : va_G) (cy : Nat → ClassId) (a : Nat → Nat) (σ : St) (x y : Int32) (g : GM 40 σ) : CI l yX12_law cX12_law 3 (some .int) (rmOf 2 49) D cy (wM cy a) (AM a) [.ref (a 0), .int x, .int y] σ (fun _ τ => K mF mA σ τ) := by
  refine c_of (lv := [(0, .ref (a 0)), (1, .int x), (2, .int y)]) rfl (Nat.le_of_ble_eq_true rfl) rfl ?_
  intro p e s m args below meth c ls E h hr hk hl
  have hx := E.1
  have hb := E.2.1
  obtain ⟨⟨nq, hq4, hq⟩, ⟨ns, hs6, hs⟩, ⟨nc, hc12, hc, hcw⟩, ⟨np, hp4, hp⟩, ⟨nd, hd6, hd⟩, ⟨nz, hz8, hz, hzw⟩, ⟨nt, ht6, ht⟩, ⟨nr, hr4, hrp⟩, ⟨nl, hl3, hla⟩, ⟨nx, hx4, hxt⟩, ⟨nn, hn2, hnow⟩⟩ := id g
  refine lv_aload_n hx hb dX12_law_0 rfl (lv_at hl 0 rfl) ?_
  refine lv_iconst (v := 0) hx hb dX12_law_1 (by decide) ?_
  refine r_put E h 0 (ty := .int) (eM_0 cy a σ) rfl fw_X12 tyX12_ok nmX12 (by decide) fl_X12_131 rfl (by decide +kernel) rfl rfl (Nat.le_of_ble_eq_true rfl) (sM_0 cy a σ 0) dX12_law_2 (fun H locs h => ?_)
  refine lv_iload_n hx hb dX12_law_5 rfl (lv_at hl 1 rfl) ?_
  refine k_i h (q_runS (As := [.int x]) (rest := []) E h (c_X12_isYear l D cy a (fF σ 0 0) x) co_X12_isYear ml_X12_161 st_X12_isYear in_X12 rfl ok_X12_isYear rfl ⟨by decide, by decide⟩ hl.1 rfl (Nat.le_of_ble_eq_true rfl) dX12_law_6 ⟨Nat.zero_le _, Nat.zero_le _⟩) (wM_fst cy a) (fun r6 τ6 H locs p6 h => ?_)
  rw [p6.1] at h
  refine lv_if_eq (tgt := 24) hx hb dX12_law_9 (by decide) (fun c9 => ?_) (fun c9 => ?_)
  · refine lv_iconst (v := -1) hx hb dX12_law_24 (by decide) ?_
    exact t_i E h hr hk (K.rf.F 0 _ (by decide)) dX12_law_25
  · refine lv_iload_n hx hb dX12_law_12 rfl (lv_at hl 2 rfl) ?_
    refine lv_i2l hx hb dX12_law_13 rfl ?_
    refine lv_lconst (v := 0) hx hb dX12_law_14 (by decide) ?_
    refine lv_ldc2 (v := 7) hx hb E.2.2.2.1 (E.2.2.2.2.1 _ kl_X12_186) dX12_law_15 ?_
    refine k_i h (q_runS (As := [.long y.toInt64, .long 0, .long 7]) (rest := []) E h (c_X12_in l D cy a (fF σ 0 0) y.toInt64 0 7) co_X12_in ml_X12_139 st_X12_in in_X12 rfl ok_X12_in rfl ⟨by decide, by decide⟩ hl.1 rfl (Nat.le_of_ble_eq_true rfl) dX12_law_18 ⟨Nat.zero_le _, Nat.zero_le _⟩) (wM_fst cy a) (fun r18 τ18 H locs p18 h => ?_)
    rw [p18.1] at h
    refine lv_if_ne (tgt := 26) hx hb dX12_law_21 (by decide) (fun c21 => ?_) (fun c21 => ?_)
    · refine lv_iload_n hx hb dX12_law_26 rfl (lv_at hl 2 rfl) ?_
      refine lv_iconst (v := 5) hx hb dX12_law_27 (by decide) ?_
      refine lv_icmp_ge (tgt := 40) hx hb dX12_law_28 (by decide) (fun c28 => ?_) (fun c28 => ?_)
      · refine lv_aload_n hx hb dX12_law_40 rfl (lv_at hl 0 rfl) ?_
        refine lv_iload_n hx hb dX12_law_41 rfl (lv_at hl 1 rfl) ?_
        refine lv_iload_n hx hb dX12_law_42 rfl (lv_at hl 2 rfl) ?_
        refine lv_iconst (v := 5) hx hb dX12_law_43 (by decide) ?_
        refine lv_isub hx hb dX12_law_44 ?_
        refine k_i h (q_runV (As := [.int x, .int (y - 5)]) (rest := []) E h (c_X12_isClosed l D cy a (fF σ 0 0) x (y - 5) nl hla hl3) co_X12_isClosed ml_X12_213 im_X12_isClosed se_X12_isClosed in_X12 (eM_0 cy a (fF σ 0 0)) rfl ok_X12_isClosed rfl ⟨by decide, by decide⟩ hl.1 rfl (Nat.le_of_ble_eq_true rfl) dX12_law_45 ⟨Nat.zero_le _, Nat.zero_le _⟩) (wM_fst cy a) (fun r45 τ45 H locs p45 h => ?_)
        rw [p45.1] at h
        refine lv_if_eq (tgt := 55) hx hb dX12_law_48 (by decide) (fun c48 => ?_) (fun c48 => ?_)
        · refine lv_iconst (v := 0) hx hb dX12_law_55 (by decide) ?_
          exact t_i E h hr hk (K.rf.F 0 _ (by decide)) dX12_law_56
        · refine lv_iconst (v := 1) hx hb dX12_law_51 (by decide) ?_
          refine lv_goto (tgt := 56) hx hb dX12_law_52 (by decide) ?_
          exact t_i E h hr hk (K.rf.F 0 _ (by decide)) dX12_law_56
      · refine lv_aload_n hx hb dX12_law_31 rfl (lv_at hl 0 rfl) ?_
        refine lv_iload_n hx hb dX12_law_32 rfl (lv_at hl 1 rfl) ?_
        refine lv_iload_n hx hb dX12_law_33 rfl (lv_at hl 2 rfl) ?_
        refine k_i h (q_runV (As := [.int x, .int y]) (rest := []) E h (c_X12_lawOf l D cy a (fF σ 0 0) x y nl hla hl3) co_X12_lawOf ml_X12_194 im_X12_lawOf se_X12_lawOf in_X12 (eM_0 cy a (fF σ 0 0)) rfl ok_X12_lawOf rfl ⟨by decide, by decide⟩ hl.1 rfl (Nat.le_of_ble_eq_true rfl) dX12_law_34 ⟨Nat.zero_le _, Nat.zero_le _⟩) (wM_fst cy a) (fun r34 τ34 H locs p34 h => ?_)
        rw [p34.1] at h
        refine lv_goto (tgt := 56) hx hb dX12_law_37 (by decide) ?_
        exact t_i E h hr hk (K.rf.F 0 _ (by decide)) dX12_law_56
    · refine lv_iconst (v := -1) hx hb dX12_law_24 (by decide) ?_
      exact t_i E h hr hk (K.rf.F 0 _ (by decide)) dX12_law_25

set_option maxHeartbeats 4000000 in
set_option maxRecDepth 100000 in
theorem c_X12_count (l : Launch) (D : va_G) (cy : Nat → ClassId) (a : Nat → Nat) (σ : St) (x : Int32)  : CI l yX12_count cX12_count 2 (some .int) (rmOf 0 0) D cy (wM cy a) (AM a) [.ref (a 0), .int x] σ (fun _ τ => K mF mA σ τ) := by
  refine c_of (lv := [(0, .ref (a 0)), (1, .int x)]) rfl (Nat.le_of_ble_eq_true rfl) rfl ?_
  intro p e s m args below meth c ls E h hr hk hl
  have hx := E.1
  have hb := E.2.1
  refine lv_aload_n hx hb dX12_count_0 rfl (lv_at hl 0 rfl) ?_
  refine lv_iconst (v := 0) hx hb dX12_count_1 (by decide) ?_
  refine r_put E h 0 (ty := .int) (eM_0 cy a σ) rfl fw_X12 tyX12_ok nmX12 (by decide) fl_X12_131 rfl (by decide +kernel) rfl rfl (Nat.le_of_ble_eq_true rfl) (sM_0 cy a σ 0) dX12_count_2 (fun H locs h => ?_)
  refine lv_iload_n hx hb dX12_count_5 rfl (lv_at hl 1 rfl) ?_
  by_cases sw6 : x.toInt < 0 ∨ 10 < x.toInt
  · refine lv_tableOut (tgt := 119) hx hb dX12_count_6 sw6 (by decide) ?_
    refine lv_iconst (v := -1) hx hb dX12_count_119 (by decide) ?_
    exact t_i E h hr hk (K.rf.F 0 _ (by decide)) dX12_count_120
  · rcases (show x.toInt = 0 ∨ x.toInt = 1 ∨ x.toInt = 2 ∨ x.toInt = 3 ∨ x.toInt = 4 ∨ x.toInt = 5 ∨ x.toInt = 6 ∨ x.toInt = 7 ∨ x.toInt = 8 ∨ x.toInt = 9 ∨ x.toInt = 10 by omega) with e6 | e6 | e6 | e6 | e6 | e6 | e6 | e6 | e6 | e6 | e6
    · refine lv_tableIn (tgt := 64) hx hb dX12_count_6 (by omega) (by omega) (by rw [e6]; rfl) (by decide) ?_
      refine lv_aload_n hx hb dX12_count_64 rfl (lv_at hl 0 rfl) ?_
      refine r_get E h 2 (v := .int (σ.1 2)) (eM_0 cy a (fF σ 0 0)) rfl fw_X12 (by decide) fl_X12_191 rfl dX12_count_65 ?_
      exact t_i E h hr hk (K.rf.F 0 _ (by decide)) dX12_count_68
    · refine lv_tableIn (tgt := 69) hx hb dX12_count_6 (by omega) (by omega) (by rw [e6]; rfl) (by decide) ?_
      refine lv_aload_n hx hb dX12_count_69 rfl (lv_at hl 0 rfl) ?_
      refine r_get E h 3 (v := .int (σ.1 3)) (eM_0 cy a (fF σ 0 0)) rfl fw_X12 (by decide) fl_X12_158 rfl dX12_count_70 ?_
      exact t_i E h hr hk (K.rf.F 0 _ (by decide)) dX12_count_73
    · refine lv_tableIn (tgt := 74) hx hb dX12_count_6 (by omega) (by omega) (by rw [e6]; rfl) (by decide) ?_
      refine lv_aload_n hx hb dX12_count_74 rfl (lv_at hl 0 rfl) ?_
      refine r_get E h 9 (v := .int (σ.1 5)) (eM_0 cy a (fF σ 0 0)) rfl fw_X12 (by decide) fl_X12_143 rfl dX12_count_75 ?_
      exact t_i E h hr hk (K.rf.F 0 _ (by decide)) dX12_count_78
    · refine lv_tableIn (tgt := 79) hx hb dX12_count_6 (by omega) (by omega) (by rw [e6]; rfl) (by decide) ?_
      refine lv_aload_n hx hb dX12_count_79 rfl (lv_at hl 0 rfl) ?_
      refine r_get E h 18 (v := .int (σ.1 8)) (eM_0 cy a (fF σ 0 0)) rfl fw_X12 (by decide) fl_X12_149 rfl dX12_count_80 ?_
      exact t_i E h hr hk (K.rf.F 0 _ (by decide)) dX12_count_83
    · refine lv_tableIn (tgt := 84) hx hb dX12_count_6 (by omega) (by omega) (by rw [e6]; rfl) (by decide) ?_
      refine lv_aload_n hx hb dX12_count_84 rfl (lv_at hl 0 rfl) ?_
      refine r_get E h 13 (v := .int (σ.1 6)) (eM_0 cy a (fF σ 0 0)) rfl fw_X12 (by decide) fl_X12_146 rfl dX12_count_85 ?_
      exact t_i E h hr hk (K.rf.F 0 _ (by decide)) dX12_count_88
    · refine lv_tableIn (tgt := 89) hx hb dX12_count_6 (by omega) (by omega) (by rw [e6]; rfl) (by decide) ?_
      refine lv_aload_n hx hb dX12_count_89 rfl (lv_at hl 0 rfl) ?_
      refine r_get E h 14 (v := .int (σ.1 7)) (eM_0 cy a (fF σ 0 0)) rfl fw_X12 (by decide) fl_X12_177 rfl dX12_count_90 ?_
      exact t_i E h hr hk (K.rf.F 0 _ (by decide)) dX12_count_93
    · refine lv_tableIn (tgt := 94) hx hb dX12_count_6 (by omega) (by omega) (by rw [e6]; rfl) (by decide) ?_
      refine lv_aload_n hx hb dX12_count_94 rfl (lv_at hl 0 rfl) ?_
      refine r_get E h 25 (v := .int (σ.1 9)) (eM_0 cy a (fF σ 0 0)) rfl fw_X12 (by decide) fl_X12_202 rfl dX12_count_95 ?_
      exact t_i E h hr hk (K.rf.F 0 _ (by decide)) dX12_count_98
    · refine lv_tableIn (tgt := 99) hx hb dX12_count_6 (by omega) (by omega) (by rw [e6]; rfl) (by decide) ?_
      refine lv_aload_n hx hb dX12_count_99 rfl (lv_at hl 0 rfl) ?_
      refine r_get E h 30 (v := .int (σ.1 10)) (eM_0 cy a (fF σ 0 0)) rfl fw_X12 (by decide) fl_X12_205 rfl dX12_count_100 ?_
      exact t_i E h hr hk (K.rf.F 0 _ (by decide)) dX12_count_103
    · refine lv_tableIn (tgt := 104) hx hb dX12_count_6 (by omega) (by omega) (by rw [e6]; rfl) (by decide) ?_
      refine lv_aload_n hx hb dX12_count_104 rfl (lv_at hl 0 rfl) ?_
      refine r_get E h 34 (v := .int (σ.1 11)) (eM_0 cy a (fF σ 0 0)) rfl fw_X12 (by decide) fl_X12_210 rfl dX12_count_105 ?_
      exact t_i E h hr hk (K.rf.F 0 _ (by decide)) dX12_count_108
    · refine lv_tableIn (tgt := 109) hx hb dX12_count_6 (by omega) (by omega) (by rw [e6]; rfl) (by decide) ?_
      refine lv_aload_n hx hb dX12_count_109 rfl (lv_at hl 0 rfl) ?_
      refine r_get E h 42 (v := .int (σ.1 13)) (eM_0 cy a (fF σ 0 0)) rfl fw_X12 (by decide) fl_X12_217 rfl dX12_count_110 ?_
      exact t_i E h hr hk (K.rf.F 0 _ (by decide)) dX12_count_113
    · refine lv_tableIn (tgt := 114) hx hb dX12_count_6 (by omega) (by omega) (by rw [e6]; rfl) (by decide) ?_
      refine lv_aload_n hx hb dX12_count_114 rfl (lv_at hl 0 rfl) ?_
      refine r_get E h 5 (v := .int (σ.1 4)) (eM_0 cy a (fF σ 0 0)) rfl fw_X12 (by decide) fl_X12_165 rfl dX12_count_115 ?_
      exact t_i E h hr hk (K.rf.F 0 _ (by decide)) dX12_count_118

set_option maxHeartbeats 4000000 in
set_option maxRecDepth 100000 in
theorem c_X12_four (l : Launch) (D : va_G) (cy : Nat → ClassId) (a : Nat → Nat) (σ : St) (x : Int32) (n : Nat) (hn : σ.1 13 = nI n) (hn4 : n + 4 ≤ 400) : CV l yX12_four cX12_four 3 none (rmOf 0 0) D cy (wM cy a) (AM a) [.ref (a 0), .int x] σ (fun τ => K [2, 3, 4, 5, 6, 7, 8, 9, 10, 11] [1, 2, 3, 4, 5, 6, 7, 8, 9, 10, 11, 12, 13, 14, 15, 16, 17, 18, 19, 20, 21, 22, 23, 24, 25, 26, 27] σ τ ∧ τ.1 13 = nI (n + 4)) := by
  refine c_of (lv := [(0, .ref (a 0)), (1, .int x)]) rfl (Nat.le_of_ble_eq_true rfl) rfl ?_
  intro p e s m args below meth c ls E h hr hk hl
  have hx := E.1
  have hb := E.2.1
  refine lv_bipush (v := 24) hx hb dX12_four_0 (by decide) ?_
  refine lv_istore_n (lv' := [(2, .int 24), (0, .ref (a 0)), (1, .int x)]) hx hb dX12_four_2 rfl hl (by decide) rfl (fun ls hl => ?_)
  refine lv_iload_n hx hb dX12_four_3 rfl (lv_at hl 0 rfl) ?_
  refine lv_if_lt (tgt := 39) hx hb dX12_four_4 (by decide) (fun c4 => ?_) (fun c4 => ?_)
  · exact absurd c4 (by decide)
  · refine lv_aload_n hx hb dX12_four_7 rfl (lv_at hl 1 rfl) ?_
    refine r_get E h 41 (v := .ref (a 29)) (eM_0 cy a σ) rfl fw_X12 (by decide) fl_X12_94 rfl dX12_four_8 ?_
    refine lv_aload_n hx hb dX12_four_11 rfl (lv_at hl 1 rfl) ?_
    refine r_get E h 42 (v := .int (nI n)) (eM_0 cy a σ) rfl fw_X12 (by decide) fl_X12_217 (congrArg (fun z => some (Value.int z)) hn) dX12_four_12 ?_
    refine lv_iload_n hx hb dX12_four_15 rfl (lv_at hl 2 rfl) ?_
    refine lv_iload_n hx hb dX12_four_16 rfl (lv_at hl 0 rfl) ?_
    refine lv_ishr hx hb dX12_four_17 ?_
    refine lv_sipush (v := 255) hx hb dX12_four_18 (by decide) ?_
    refine lv_iand hx hb dX12_four_21 ?_
    refine r_iastN E h (f := σ.2.1 29) (eM_29 cy a σ) (j := n) (by omega) (by decide) (qM_29 cy a σ (upd (σ.2.1 29) n ((x >>> (24 &&& 31)) &&& 255))) dX12_four_22 (fun H locs h => ?_)
    refine lv_aload_n hx hb dX12_four_23 rfl (lv_at hl 1 rfl) ?_
    refine lv_dup hx hb dX12_four_24 rfl ?_
    refine r_get E h 42 (v := .int (nI n)) (eM_0 cy a (fR σ 29 (upd (σ.2.1 29) n ((x >>> (24 &&& 31)) &&& 255)))) rfl fw_X12 (by decide) fl_X12_217 (congrArg (fun z => some (Value.int z)) hn) dX12_four_25 ?_
    refine lv_iconst (v := 1) hx hb dX12_four_28 (by decide) ?_
    refine n_add (j := n) (k := 1) hx hb dX12_four_29 ?_
    refine r_put E h 42 (ty := .int) (eM_0 cy a (fR σ 29 (upd (σ.2.1 29) n ((x >>> (24 &&& 31)) &&& 255)))) rfl fw_X12 tyX12_ok nmX12 (by decide) fl_X12_217 rfl (by decide +kernel) rfl rfl (Nat.le_of_ble_eq_true rfl) (sM_13 cy a (fR σ 29 (upd (σ.2.1 29) n ((x >>> (24 &&& 31)) &&& 255))) (nI (n + 1))) dX12_four_30 (fun H locs h => ?_)
    refine lv_iinc (v := 16) (lv' := [(2, .int 16), (0, .ref (a 0)), (1, .int x)]) hx hb dX12_four_33 hl (k := 0) rfl (by decide) (by decide) rfl (fun ls hl => ?_)
    refine lv_goto (tgt := 3) hx hb dX12_four_36 (by decide) ?_
    refine lv_iload_n hx hb dX12_four_3 rfl (lv_at hl 0 rfl) ?_
    refine lv_if_lt (tgt := 39) hx hb dX12_four_4 (by decide) (fun c4 => ?_) (fun c4 => ?_)
    · exact absurd c4 (by decide)
    · refine lv_aload_n hx hb dX12_four_7 rfl (lv_at hl 1 rfl) ?_
      refine r_get E h 41 (v := .ref (a 29)) (eM_0 cy a (fF (fR σ 29 (upd (σ.2.1 29) n ((x >>> (24 &&& 31)) &&& 255))) 13 (nI (n + 1)))) rfl fw_X12 (by decide) fl_X12_94 rfl dX12_four_8 ?_
      refine lv_aload_n hx hb dX12_four_11 rfl (lv_at hl 1 rfl) ?_
      refine r_get E h 42 (v := .int (nI (n + 1))) (eM_0 cy a (fF (fR σ 29 (upd (σ.2.1 29) n ((x >>> (24 &&& 31)) &&& 255))) 13 (nI (n + 1)))) rfl fw_X12 (by decide) fl_X12_217 rfl dX12_four_12 ?_
      refine lv_iload_n hx hb dX12_four_15 rfl (lv_at hl 2 rfl) ?_
      refine lv_iload_n hx hb dX12_four_16 rfl (lv_at hl 0 rfl) ?_
      refine lv_ishr hx hb dX12_four_17 ?_
      refine lv_sipush (v := 255) hx hb dX12_four_18 (by decide) ?_
      refine lv_iand hx hb dX12_four_21 ?_
      refine r_iastN E h (f := upd (σ.2.1 29) n ((x >>> (24 &&& 31)) &&& 255)) (eM_29 cy a (fF (fR σ 29 (upd (σ.2.1 29) n ((x >>> (24 &&& 31)) &&& 255))) 13 (nI (n + 1)))) (j := n + 1) (by omega) (by decide) (qM_29 cy a (fF (fR σ 29 (upd (σ.2.1 29) n ((x >>> (24 &&& 31)) &&& 255))) 13 (nI (n + 1))) (upd (upd (σ.2.1 29) n ((x >>> (24 &&& 31)) &&& 255)) (n + 1) ((x >>> (16 &&& 31)) &&& 255))) dX12_four_22 (fun H locs h => ?_)
      refine lv_aload_n hx hb dX12_four_23 rfl (lv_at hl 1 rfl) ?_
      refine lv_dup hx hb dX12_four_24 rfl ?_
      refine r_get E h 42 (v := .int (nI (n + 1))) (eM_0 cy a (fR (fF (fR σ 29 (upd (σ.2.1 29) n ((x >>> (24 &&& 31)) &&& 255))) 13 (nI (n + 1))) 29 (upd (upd (σ.2.1 29) n ((x >>> (24 &&& 31)) &&& 255)) (n + 1) ((x >>> (16 &&& 31)) &&& 255)))) rfl fw_X12 (by decide) fl_X12_217 rfl dX12_four_25 ?_
      refine lv_iconst (v := 1) hx hb dX12_four_28 (by decide) ?_
      refine n_add (j := n + 1) (k := 1) hx hb dX12_four_29 ?_
      refine r_put E h 42 (ty := .int) (eM_0 cy a (fR (fF (fR σ 29 (upd (σ.2.1 29) n ((x >>> (24 &&& 31)) &&& 255))) 13 (nI (n + 1))) 29 (upd (upd (σ.2.1 29) n ((x >>> (24 &&& 31)) &&& 255)) (n + 1) ((x >>> (16 &&& 31)) &&& 255)))) rfl fw_X12 tyX12_ok nmX12 (by decide) fl_X12_217 rfl (by decide +kernel) rfl rfl (Nat.le_of_ble_eq_true rfl) (sM_13 cy a (fR (fF (fR σ 29 (upd (σ.2.1 29) n ((x >>> (24 &&& 31)) &&& 255))) 13 (nI (n + 1))) 29 (upd (upd (σ.2.1 29) n ((x >>> (24 &&& 31)) &&& 255)) (n + 1) ((x >>> (16 &&& 31)) &&& 255))) (nI ((n + 1) + 1))) dX12_four_30 (fun H locs h => ?_)
      refine lv_iinc (v := 8) (lv' := [(2, .int 8), (0, .ref (a 0)), (1, .int x)]) hx hb dX12_four_33 hl (k := 0) rfl (by decide) (by decide) rfl (fun ls hl => ?_)
      refine lv_goto (tgt := 3) hx hb dX12_four_36 (by decide) ?_
      refine lv_iload_n hx hb dX12_four_3 rfl (lv_at hl 0 rfl) ?_
      refine lv_if_lt (tgt := 39) hx hb dX12_four_4 (by decide) (fun c4 => ?_) (fun c4 => ?_)
      · exact absurd c4 (by decide)
      · refine lv_aload_n hx hb dX12_four_7 rfl (lv_at hl 1 rfl) ?_
        refine r_get E h 41 (v := .ref (a 29)) (eM_0 cy a (fF (fR (fF (fR σ 29 (upd (σ.2.1 29) n ((x >>> (24 &&& 31)) &&& 255))) 13 (nI (n + 1))) 29 (upd (upd (σ.2.1 29) n ((x >>> (24 &&& 31)) &&& 255)) (n + 1) ((x >>> (16 &&& 31)) &&& 255))) 13 (nI ((n + 1) + 1)))) rfl fw_X12 (by decide) fl_X12_94 rfl dX12_four_8 ?_
        refine lv_aload_n hx hb dX12_four_11 rfl (lv_at hl 1 rfl) ?_
        refine r_get E h 42 (v := .int (nI ((n + 1) + 1))) (eM_0 cy a (fF (fR (fF (fR σ 29 (upd (σ.2.1 29) n ((x >>> (24 &&& 31)) &&& 255))) 13 (nI (n + 1))) 29 (upd (upd (σ.2.1 29) n ((x >>> (24 &&& 31)) &&& 255)) (n + 1) ((x >>> (16 &&& 31)) &&& 255))) 13 (nI ((n + 1) + 1)))) rfl fw_X12 (by decide) fl_X12_217 rfl dX12_four_12 ?_
        refine lv_iload_n hx hb dX12_four_15 rfl (lv_at hl 2 rfl) ?_
        refine lv_iload_n hx hb dX12_four_16 rfl (lv_at hl 0 rfl) ?_
        refine lv_ishr hx hb dX12_four_17 ?_
        refine lv_sipush (v := 255) hx hb dX12_four_18 (by decide) ?_
        refine lv_iand hx hb dX12_four_21 ?_
        refine r_iastN E h (f := upd (upd (σ.2.1 29) n ((x >>> (24 &&& 31)) &&& 255)) (n + 1) ((x >>> (16 &&& 31)) &&& 255)) (eM_29 cy a (fF (fR (fF (fR σ 29 (upd (σ.2.1 29) n ((x >>> (24 &&& 31)) &&& 255))) 13 (nI (n + 1))) 29 (upd (upd (σ.2.1 29) n ((x >>> (24 &&& 31)) &&& 255)) (n + 1) ((x >>> (16 &&& 31)) &&& 255))) 13 (nI ((n + 1) + 1)))) (j := (n + 1) + 1) (by omega) (by decide) (qM_29 cy a (fF (fR (fF (fR σ 29 (upd (σ.2.1 29) n ((x >>> (24 &&& 31)) &&& 255))) 13 (nI (n + 1))) 29 (upd (upd (σ.2.1 29) n ((x >>> (24 &&& 31)) &&& 255)) (n + 1) ((x >>> (16 &&& 31)) &&& 255))) 13 (nI ((n + 1) + 1))) (upd (upd (upd (σ.2.1 29) n ((x >>> (24 &&& 31)) &&& 255)) (n + 1) ((x >>> (16 &&& 31)) &&& 255)) ((n + 1) + 1) ((x >>> (8 &&& 31)) &&& 255))) dX12_four_22 (fun H locs h => ?_)
        refine lv_aload_n hx hb dX12_four_23 rfl (lv_at hl 1 rfl) ?_
        refine lv_dup hx hb dX12_four_24 rfl ?_
        refine r_get E h 42 (v := .int (nI ((n + 1) + 1))) (eM_0 cy a (fR (fF (fR (fF (fR σ 29 (upd (σ.2.1 29) n ((x >>> (24 &&& 31)) &&& 255))) 13 (nI (n + 1))) 29 (upd (upd (σ.2.1 29) n ((x >>> (24 &&& 31)) &&& 255)) (n + 1) ((x >>> (16 &&& 31)) &&& 255))) 13 (nI ((n + 1) + 1))) 29 (upd (upd (upd (σ.2.1 29) n ((x >>> (24 &&& 31)) &&& 255)) (n + 1) ((x >>> (16 &&& 31)) &&& 255)) ((n + 1) + 1) ((x >>> (8 &&& 31)) &&& 255)))) rfl fw_X12 (by decide) fl_X12_217 rfl dX12_four_25 ?_
        refine lv_iconst (v := 1) hx hb dX12_four_28 (by decide) ?_
        refine n_add (j := (n + 1) + 1) (k := 1) hx hb dX12_four_29 ?_
        refine r_put E h 42 (ty := .int) (eM_0 cy a (fR (fF (fR (fF (fR σ 29 (upd (σ.2.1 29) n ((x >>> (24 &&& 31)) &&& 255))) 13 (nI (n + 1))) 29 (upd (upd (σ.2.1 29) n ((x >>> (24 &&& 31)) &&& 255)) (n + 1) ((x >>> (16 &&& 31)) &&& 255))) 13 (nI ((n + 1) + 1))) 29 (upd (upd (upd (σ.2.1 29) n ((x >>> (24 &&& 31)) &&& 255)) (n + 1) ((x >>> (16 &&& 31)) &&& 255)) ((n + 1) + 1) ((x >>> (8 &&& 31)) &&& 255)))) rfl fw_X12 tyX12_ok nmX12 (by decide) fl_X12_217 rfl (by decide +kernel) rfl rfl (Nat.le_of_ble_eq_true rfl) (sM_13 cy a (fR (fF (fR (fF (fR σ 29 (upd (σ.2.1 29) n ((x >>> (24 &&& 31)) &&& 255))) 13 (nI (n + 1))) 29 (upd (upd (σ.2.1 29) n ((x >>> (24 &&& 31)) &&& 255)) (n + 1) ((x >>> (16 &&& 31)) &&& 255))) 13 (nI ((n + 1) + 1))) 29 (upd (upd (upd (σ.2.1 29) n ((x >>> (24 &&& 31)) &&& 255)) (n + 1) ((x >>> (16 &&& 31)) &&& 255)) ((n + 1) + 1) ((x >>> (8 &&& 31)) &&& 255))) (nI (((n + 1) + 1) + 1))) dX12_four_30 (fun H locs h => ?_)
        refine lv_iinc (v := 0) (lv' := [(2, .int 0), (0, .ref (a 0)), (1, .int x)]) hx hb dX12_four_33 hl (k := 0) rfl (by decide) (by decide) rfl (fun ls hl => ?_)
        refine lv_goto (tgt := 3) hx hb dX12_four_36 (by decide) ?_
        refine lv_iload_n hx hb dX12_four_3 rfl (lv_at hl 0 rfl) ?_
        refine lv_if_lt (tgt := 39) hx hb dX12_four_4 (by decide) (fun c4 => ?_) (fun c4 => ?_)
        · exact absurd c4 (by decide)
        · refine lv_aload_n hx hb dX12_four_7 rfl (lv_at hl 1 rfl) ?_
          refine r_get E h 41 (v := .ref (a 29)) (eM_0 cy a (fF (fR (fF (fR (fF (fR σ 29 (upd (σ.2.1 29) n ((x >>> (24 &&& 31)) &&& 255))) 13 (nI (n + 1))) 29 (upd (upd (σ.2.1 29) n ((x >>> (24 &&& 31)) &&& 255)) (n + 1) ((x >>> (16 &&& 31)) &&& 255))) 13 (nI ((n + 1) + 1))) 29 (upd (upd (upd (σ.2.1 29) n ((x >>> (24 &&& 31)) &&& 255)) (n + 1) ((x >>> (16 &&& 31)) &&& 255)) ((n + 1) + 1) ((x >>> (8 &&& 31)) &&& 255))) 13 (nI (((n + 1) + 1) + 1)))) rfl fw_X12 (by decide) fl_X12_94 rfl dX12_four_8 ?_
          refine lv_aload_n hx hb dX12_four_11 rfl (lv_at hl 1 rfl) ?_
          refine r_get E h 42 (v := .int (nI (((n + 1) + 1) + 1))) (eM_0 cy a (fF (fR (fF (fR (fF (fR σ 29 (upd (σ.2.1 29) n ((x >>> (24 &&& 31)) &&& 255))) 13 (nI (n + 1))) 29 (upd (upd (σ.2.1 29) n ((x >>> (24 &&& 31)) &&& 255)) (n + 1) ((x >>> (16 &&& 31)) &&& 255))) 13 (nI ((n + 1) + 1))) 29 (upd (upd (upd (σ.2.1 29) n ((x >>> (24 &&& 31)) &&& 255)) (n + 1) ((x >>> (16 &&& 31)) &&& 255)) ((n + 1) + 1) ((x >>> (8 &&& 31)) &&& 255))) 13 (nI (((n + 1) + 1) + 1)))) rfl fw_X12 (by decide) fl_X12_217 rfl dX12_four_12 ?_
          refine lv_iload_n hx hb dX12_four_15 rfl (lv_at hl 2 rfl) ?_
          refine lv_iload_n hx hb dX12_four_16 rfl (lv_at hl 0 rfl) ?_
          refine lv_ishr hx hb dX12_four_17 ?_
          refine lv_sipush (v := 255) hx hb dX12_four_18 (by decide) ?_
          refine lv_iand hx hb dX12_four_21 ?_
          refine r_iastN E h (f := upd (upd (upd (σ.2.1 29) n ((x >>> (24 &&& 31)) &&& 255)) (n + 1) ((x >>> (16 &&& 31)) &&& 255)) ((n + 1) + 1) ((x >>> (8 &&& 31)) &&& 255)) (eM_29 cy a (fF (fR (fF (fR (fF (fR σ 29 (upd (σ.2.1 29) n ((x >>> (24 &&& 31)) &&& 255))) 13 (nI (n + 1))) 29 (upd (upd (σ.2.1 29) n ((x >>> (24 &&& 31)) &&& 255)) (n + 1) ((x >>> (16 &&& 31)) &&& 255))) 13 (nI ((n + 1) + 1))) 29 (upd (upd (upd (σ.2.1 29) n ((x >>> (24 &&& 31)) &&& 255)) (n + 1) ((x >>> (16 &&& 31)) &&& 255)) ((n + 1) + 1) ((x >>> (8 &&& 31)) &&& 255))) 13 (nI (((n + 1) + 1) + 1)))) (j := ((n + 1) + 1) + 1) (by omega) (by decide) (qM_29 cy a (fF (fR (fF (fR (fF (fR σ 29 (upd (σ.2.1 29) n ((x >>> (24 &&& 31)) &&& 255))) 13 (nI (n + 1))) 29 (upd (upd (σ.2.1 29) n ((x >>> (24 &&& 31)) &&& 255)) (n + 1) ((x >>> (16 &&& 31)) &&& 255))) 13 (nI ((n + 1) + 1))) 29 (upd (upd (upd (σ.2.1 29) n ((x >>> (24 &&& 31)) &&& 255)) (n + 1) ((x >>> (16 &&& 31)) &&& 255)) ((n + 1) + 1) ((x >>> (8 &&& 31)) &&& 255))) 13 (nI (((n + 1) + 1) + 1))) (upd (upd (upd (upd (σ.2.1 29) n ((x >>> (24 &&& 31)) &&& 255)) (n + 1) ((x >>> (16 &&& 31)) &&& 255)) ((n + 1) + 1) ((x >>> (8 &&& 31)) &&& 255)) (((n + 1) + 1) + 1) ((x >>> (0 &&& 31)) &&& 255))) dX12_four_22 (fun H locs h => ?_)
          refine lv_aload_n hx hb dX12_four_23 rfl (lv_at hl 1 rfl) ?_
          refine lv_dup hx hb dX12_four_24 rfl ?_
          refine r_get E h 42 (v := .int (nI (((n + 1) + 1) + 1))) (eM_0 cy a (fR (fF (fR (fF (fR (fF (fR σ 29 (upd (σ.2.1 29) n ((x >>> (24 &&& 31)) &&& 255))) 13 (nI (n + 1))) 29 (upd (upd (σ.2.1 29) n ((x >>> (24 &&& 31)) &&& 255)) (n + 1) ((x >>> (16 &&& 31)) &&& 255))) 13 (nI ((n + 1) + 1))) 29 (upd (upd (upd (σ.2.1 29) n ((x >>> (24 &&& 31)) &&& 255)) (n + 1) ((x >>> (16 &&& 31)) &&& 255)) ((n + 1) + 1) ((x >>> (8 &&& 31)) &&& 255))) 13 (nI (((n + 1) + 1) + 1))) 29 (upd (upd (upd (upd (σ.2.1 29) n ((x >>> (24 &&& 31)) &&& 255)) (n + 1) ((x >>> (16 &&& 31)) &&& 255)) ((n + 1) + 1) ((x >>> (8 &&& 31)) &&& 255)) (((n + 1) + 1) + 1) ((x >>> (0 &&& 31)) &&& 255)))) rfl fw_X12 (by decide) fl_X12_217 rfl dX12_four_25 ?_
          refine lv_iconst (v := 1) hx hb dX12_four_28 (by decide) ?_
          refine n_add (j := ((n + 1) + 1) + 1) (k := 1) hx hb dX12_four_29 ?_
          refine r_put E h 42 (ty := .int) (eM_0 cy a (fR (fF (fR (fF (fR (fF (fR σ 29 (upd (σ.2.1 29) n ((x >>> (24 &&& 31)) &&& 255))) 13 (nI (n + 1))) 29 (upd (upd (σ.2.1 29) n ((x >>> (24 &&& 31)) &&& 255)) (n + 1) ((x >>> (16 &&& 31)) &&& 255))) 13 (nI ((n + 1) + 1))) 29 (upd (upd (upd (σ.2.1 29) n ((x >>> (24 &&& 31)) &&& 255)) (n + 1) ((x >>> (16 &&& 31)) &&& 255)) ((n + 1) + 1) ((x >>> (8 &&& 31)) &&& 255))) 13 (nI (((n + 1) + 1) + 1))) 29 (upd (upd (upd (upd (σ.2.1 29) n ((x >>> (24 &&& 31)) &&& 255)) (n + 1) ((x >>> (16 &&& 31)) &&& 255)) ((n + 1) + 1) ((x >>> (8 &&& 31)) &&& 255)) (((n + 1) + 1) + 1) ((x >>> (0 &&& 31)) &&& 255)))) rfl fw_X12 tyX12_ok nmX12 (by decide) fl_X12_217 rfl (by decide +kernel) rfl rfl (Nat.le_of_ble_eq_true rfl) (sM_13 cy a (fR (fF (fR (fF (fR (fF (fR σ 29 (upd (σ.2.1 29) n ((x >>> (24 &&& 31)) &&& 255))) 13 (nI (n + 1))) 29 (upd (upd (σ.2.1 29) n ((x >>> (24 &&& 31)) &&& 255)) (n + 1) ((x >>> (16 &&& 31)) &&& 255))) 13 (nI ((n + 1) + 1))) 29 (upd (upd (upd (σ.2.1 29) n ((x >>> (24 &&& 31)) &&& 255)) (n + 1) ((x >>> (16 &&& 31)) &&& 255)) ((n + 1) + 1) ((x >>> (8 &&& 31)) &&& 255))) 13 (nI (((n + 1) + 1) + 1))) 29 (upd (upd (upd (upd (σ.2.1 29) n ((x >>> (24 &&& 31)) &&& 255)) (n + 1) ((x >>> (16 &&& 31)) &&& 255)) ((n + 1) + 1) ((x >>> (8 &&& 31)) &&& 255)) (((n + 1) + 1) + 1) ((x >>> (0 &&& 31)) &&& 255))) (nI ((((n + 1) + 1) + 1) + 1))) dX12_four_30 (fun H locs h => ?_)
          refine lv_iinc (v := (-8)) (lv' := [(2, .int (-8)), (0, .ref (a 0)), (1, .int x)]) hx hb dX12_four_33 hl (k := 0) rfl (by decide) (by decide) rfl (fun ls hl => ?_)
          refine lv_goto (tgt := 3) hx hb dX12_four_36 (by decide) ?_
          refine lv_iload_n hx hb dX12_four_3 rfl (lv_at hl 0 rfl) ?_
          refine lv_if_lt (tgt := 39) hx hb dX12_four_4 (by decide) (fun c4 => ?_) (fun c4 => ?_)
          · exact t_v E h hr hk ⟨((((((((K.rf.R 29 _ (by decide)).F 13 _ (by decide)).R 29 _ (by decide)).F 13 _ (by decide)).R 29 _ (by decide)).F 13 _ (by decide)).R 29 _ (by decide)).F 13 _ (by decide)), rfl⟩ dX12_four_39
          · exact absurd c4 (by decide)

set_option maxHeartbeats 4000000 in
set_option maxRecDepth 100000 in
theorem c_X12_feed (l : Launch) (D : va_G) (cy : Nat → ClassId) (a : Nat → Nat) (σ : St) (x y w v u : Int32) (n : Nat) (hn : σ.1 13 = nI n) (hn4 : n ≤ 400) : CI l yX12_feed cX12_feed 6 (some .int) (rmOf 1 22) D cy (wM cy a) (AM a) [.ref (a 0), .int x, .int y, .int w, .int v, .int u] σ (fun r τ => (400 < n + 20 ∧ r = -1 ∧ K mF mA σ τ) ∨ (n + 20 ≤ 400 ∧ r = nI (n + 20) ∧ τ.1 13 = nI (n + 20) ∧ K [2, 3, 4, 5, 6, 7, 8, 9, 10, 11] [1, 2, 3, 4, 5, 6, 7, 8, 9, 10, 11, 12, 13, 14, 15, 16, 17, 18, 19, 20, 21, 22, 23, 24, 25, 26, 27] σ τ)) := by
  refine c_of (lv := [(0, .ref (a 0)), (1, .int x), (2, .int y), (3, .int w), (4, .int v), (5, .int u)]) rfl (Nat.le_of_ble_eq_true rfl) rfl ?_
  intro p e s m args below meth c ls E h hr hk hl
  have hx := E.1
  have hb := E.2.1
  refine lv_aload_n hx hb dX12_feed_0 rfl (lv_at hl 0 rfl) ?_
  refine lv_iconst (v := 0) hx hb dX12_feed_1 (by decide) ?_
  refine r_put E h 0 (ty := .int) (eM_0 cy a σ) rfl fw_X12 tyX12_ok nmX12 (by decide) fl_X12_131 rfl (by decide +kernel) rfl rfl (Nat.le_of_ble_eq_true rfl) (sM_0 cy a σ 0) dX12_feed_2 (fun H locs h => ?_)
  refine lv_aload_n hx hb dX12_feed_5 rfl (lv_at hl 0 rfl) ?_
  refine r_get E h 42 (v := .int (nI n)) (eM_0 cy a (fF σ 0 0)) rfl fw_X12 (by decide) fl_X12_217 (congrArg (fun z => some (Value.int z)) hn) dX12_feed_6 ?_
  refine lv_bipush (v := 20) hx hb dX12_feed_9 (by decide) ?_
  refine n_add (j := n) (k := 20) hx hb dX12_feed_11 ?_
  refine lv_sipush (v := 400) hx hb dX12_feed_12 (by decide) ?_
  refine lv_icmp_le (tgt := 20) hx hb dX12_feed_15 (by decide) (fun c15 => ?_) (fun c15 => ?_)
  · have c15 : n + 20 ≤ 400 := (nI_leI (b := 400) (by omega) (by decide)).mp c15
    refine lv_aload_n hx hb dX12_feed_20 rfl (lv_at hl 0 rfl) ?_
    refine lv_iload_n hx hb dX12_feed_21 rfl (lv_at hl 1 rfl) ?_
    refine k_v h (q_runV (As := [.int x]) (rest := []) E h (c_X12_four l D cy a (fF σ 0 0) x (n + 0) hn (by omega)) co_X12_four ml_X12_220 im_X12_four se_X12_four in_X12 (eM_0 cy a (fF σ 0 0)) rfl ok_X12_four rfl ⟨by decide, by decide⟩ hl.1 rfl (Nat.le_of_ble_eq_true rfl) dX12_feed_22 ⟨Nat.zero_le _, Nat.zero_le _⟩) (wM_fst cy a) (fun τ22 H locs p22 h => ?_)
    refine lv_aload_n hx hb dX12_feed_25 rfl (lv_at hl 0 rfl) ?_
    refine lv_iload_n hx hb dX12_feed_26 rfl (lv_at hl 2 rfl) ?_
    refine k_v h (q_runV (As := [.int y]) (rest := []) E h (c_X12_four l D cy a τ22 y (n + 4) p22.2 (by omega)) co_X12_four ml_X12_220 im_X12_four se_X12_four in_X12 (eM_0 cy a τ22) rfl ok_X12_four rfl ⟨by decide, by decide⟩ hl.1 rfl (Nat.le_of_ble_eq_true rfl) dX12_feed_27 ⟨Nat.zero_le _, Nat.zero_le _⟩) (wM_fst cy a) (fun τ27 H locs p27 h => ?_)
    refine lv_aload_n hx hb dX12_feed_30 rfl (lv_at hl 0 rfl) ?_
    refine lv_iload_n hx hb dX12_feed_31 rfl (lv_at hl 3 rfl) ?_
    refine k_v h (q_runV (As := [.int w]) (rest := []) E h (c_X12_four l D cy a τ27 w (n + 8) p27.2 (by omega)) co_X12_four ml_X12_220 im_X12_four se_X12_four in_X12 (eM_0 cy a τ27) rfl ok_X12_four rfl ⟨by decide, by decide⟩ hl.1 rfl (Nat.le_of_ble_eq_true rfl) dX12_feed_32 ⟨Nat.zero_le _, Nat.zero_le _⟩) (wM_fst cy a) (fun τ32 H locs p32 h => ?_)
    refine lv_aload_n hx hb dX12_feed_35 rfl (lv_at hl 0 rfl) ?_
    refine lv_iload hx hb dX12_feed_36 (lv_at hl 4 rfl) ?_
    refine k_v h (q_runV (As := [.int v]) (rest := []) E h (c_X12_four l D cy a τ32 v (n + 12) p32.2 (by omega)) co_X12_four ml_X12_220 im_X12_four se_X12_four in_X12 (eM_0 cy a τ32) rfl ok_X12_four rfl ⟨by decide, by decide⟩ hl.1 rfl (Nat.le_of_ble_eq_true rfl) dX12_feed_38 ⟨Nat.zero_le _, Nat.zero_le _⟩) (wM_fst cy a) (fun τ38 H locs p38 h => ?_)
    refine lv_aload_n hx hb dX12_feed_41 rfl (lv_at hl 0 rfl) ?_
    refine lv_iload hx hb dX12_feed_42 (lv_at hl 5 rfl) ?_
    refine k_v h (q_runV (As := [.int u]) (rest := []) E h (c_X12_four l D cy a τ38 u (n + 16) p38.2 (by omega)) co_X12_four ml_X12_220 im_X12_four se_X12_four in_X12 (eM_0 cy a τ38) rfl ok_X12_four rfl ⟨by decide, by decide⟩ hl.1 rfl (Nat.le_of_ble_eq_true rfl) dX12_feed_44 ⟨Nat.zero_le _, Nat.zero_le _⟩) (wM_fst cy a) (fun τ44 H locs p44 h => ?_)
    refine lv_aload_n hx hb dX12_feed_47 rfl (lv_at hl 0 rfl) ?_
    refine r_get E h 42 (v := .int (nI (n + 20))) (eM_0 cy a τ44) rfl fw_X12 (by decide) fl_X12_217 (congrArg (fun z => some (Value.int z)) p44.2) dX12_feed_48 ?_
    exact t_i E h hr hk (Or.inr ⟨c15, rfl, p44.2, ((((K.rf.F 0 _ (by decide)).tr p22.1).tr p27.1).tr p32.1).tr p38.1 |>.tr p44.1⟩) dX12_feed_51
  · have c15 : 400 < n + 20 := Nat.lt_of_not_le fun q9 => c15 ((nI_leI (b := 400) (by omega) (by decide)).mpr q9)
    refine lv_iconst (v := -1) hx hb dX12_feed_18 (by decide) ?_
    exact t_i E h hr hk (Or.inl ⟨c15, rfl, (K.rf.F 0 _ (by decide))⟩) dX12_feed_19

set_option maxHeartbeats 4000000 in
set_option maxRecDepth 100000 in
theorem c_X12_end (l : Launch) (D : va_G) (cy : Nat → ClassId) (a : Nat → Nat) (σ : St) (x : Int32) (n : Nat) (hn : σ.1 13 = nI n) : CI l yX12_end cX12_end 2 (some .int) (rmOf 0 0) D cy (wM cy a) (AM a) [.ref (a 0), .int x] σ (fun r τ => (¬ ((0 : Int32) ≤ x ∧ x ≤ nI n) ∧ r = -1 ∧ K mF mA σ τ) ∨ (((0 : Int32) ≤ x ∧ x ≤ nI n) ∧ r = x ∧ τ.1 13 = x ∧ K [2, 3, 4, 5, 6, 7, 8, 9, 10, 11] [1, 2, 3, 4, 5, 6, 7, 8, 9, 10, 11, 12, 13, 14, 15, 16, 17, 18, 19, 20, 21, 22, 23, 24, 25, 26, 27] σ τ)) := by
  refine c_of (lv := [(0, .ref (a 0)), (1, .int x)]) rfl (Nat.le_of_ble_eq_true rfl) rfl ?_
  intro p e s m args below meth c ls E h hr hk hl
  have hx := E.1
  have hb := E.2.1
  refine lv_aload_n hx hb dX12_end_0 rfl (lv_at hl 0 rfl) ?_
  refine lv_iconst (v := 0) hx hb dX12_end_1 (by decide) ?_
  refine r_put E h 0 (ty := .int) (eM_0 cy a σ) rfl fw_X12 tyX12_ok nmX12 (by decide) fl_X12_131 rfl (by decide +kernel) rfl rfl (Nat.le_of_ble_eq_true rfl) (sM_0 cy a σ 0) dX12_end_2 (fun H locs h => ?_)
  refine lv_iload_n hx hb dX12_end_5 rfl (lv_at hl 1 rfl) ?_
  refine lv_if_lt (tgt := 17) hx hb dX12_end_6 (by decide) (fun c6 => ?_) (fun c6 => ?_)
  · refine lv_iconst (v := -1) hx hb dX12_end_17 (by decide) ?_
    exact t_i E h hr hk (Or.inl ⟨fun q9 => absurd q9.1 (Int32.not_le.mpr c6), rfl, (K.rf.F 0 _ (by decide))⟩) dX12_end_18
  · refine lv_iload_n hx hb dX12_end_9 rfl (lv_at hl 1 rfl) ?_
    refine lv_aload_n hx hb dX12_end_10 rfl (lv_at hl 0 rfl) ?_
    refine r_get E h 42 (v := .int (nI n)) (eM_0 cy a (fF σ 0 0)) rfl fw_X12 (by decide) fl_X12_217 (congrArg (fun z => some (Value.int z)) hn) dX12_end_11 ?_
    refine lv_icmp_le (tgt := 19) hx hb dX12_end_14 (by decide) (fun c14 => ?_) (fun c14 => ?_)
    · refine lv_aload_n hx hb dX12_end_19 rfl (lv_at hl 0 rfl) ?_
      refine lv_iload_n hx hb dX12_end_20 rfl (lv_at hl 1 rfl) ?_
      refine r_put E h 42 (ty := .int) (eM_0 cy a (fF σ 0 0)) rfl fw_X12 tyX12_ok nmX12 (by decide) fl_X12_217 rfl (by decide +kernel) rfl rfl (Nat.le_of_ble_eq_true rfl) (sM_13 cy a (fF σ 0 0) x) dX12_end_21 (fun H locs h => ?_)
      refine lv_iload_n hx hb dX12_end_24 rfl (lv_at hl 1 rfl) ?_
      exact t_i E h hr hk (Or.inr ⟨⟨Int32.not_lt.mp c6, c14⟩, rfl, rfl, (K.rf.F 0 _ (by decide)).F 13 _ (by decide)⟩) dX12_end_25
    · refine lv_iconst (v := -1) hx hb dX12_end_17 (by decide) ?_
      exact t_i E h hr hk (Or.inl ⟨fun q9 => c14 q9.2, rfl, (K.rf.F 0 _ (by decide))⟩) dX12_end_18

set_option maxHeartbeats 4000000 in
set_option maxRecDepth 100000 in
theorem c_X12_fines (l : Launch) (D : va_G) (cy : Nat → ClassId) (a : Nat → Nat) (σ : St) (x : Int32) (g : GM 40 σ) : CL l yX12_fines cX12_fines 6 (some .long) (rmOf 5 128) D cy (wM cy a) (AM a) [.ref (a 0), .int x] σ (fun _ τ => K mF mA σ τ) := by
  refine c_of (lv := [(0, .ref (a 0)), (1, .int x)]) rfl (Nat.le_of_ble_eq_true rfl) rfl ?_
  intro p e s m args below meth c ls E h hr hk hl
  have hx := E.1
  have hb := E.2.1
  obtain ⟨⟨nq, hq4, hq⟩, ⟨ns, hs6, hs⟩, ⟨nc, hc12, hc, hcw⟩, ⟨np, hp4, hp⟩, ⟨nd, hd6, hd⟩, ⟨nz, hz8, hz, hzw⟩, ⟨nt, ht6, ht⟩, ⟨nr, hr4, hrp⟩, ⟨nl, hl3, hla⟩, ⟨nx, hx4, hxt⟩, ⟨nn, hn2, hnow⟩⟩ := id g
  refine lv_aload_n hx hb dX12_fines_0 rfl (lv_at hl 0 rfl) ?_
  refine lv_iconst (v := 0) hx hb dX12_fines_1 (by decide) ?_
  refine r_put E h 0 (ty := .int) (eM_0 cy a σ) rfl fw_X12 tyX12_ok nmX12 (by decide) fl_X12_131 rfl (by decide +kernel) rfl rfl (Nat.le_of_ble_eq_true rfl) (sM_0 cy a σ 0) dX12_fines_2 (fun H locs h => ?_)
  refine lv_aload_n hx hb dX12_fines_5 rfl (lv_at hl 0 rfl) ?_
  refine lv_iload_n hx hb dX12_fines_6 rfl (lv_at hl 1 rfl) ?_
  refine k_i h (q_runV (As := [.int x]) (rest := []) E h (c_X12_isCastle l D cy a (fF σ 0 0) x nc hc (by omega)) co_X12_isCastle ml_X12_188 im_X12_isCastle se_X12_isCastle in_X12 (eM_0 cy a (fF σ 0 0)) rfl ok_X12_isCastle rfl ⟨by decide, by decide⟩ hl.1 rfl (Nat.le_of_ble_eq_true rfl) dX12_fines_7 ⟨Nat.zero_le _, Nat.zero_le _⟩) (wM_fst cy a) (fun r7 τ7 H locs p7 h => ?_)
  rw [p7.1] at h
  refine lv_if_ne (tgt := 17) hx hb dX12_fines_10 (by decide) (fun c10 => ?_) (fun c10 => ?_)
  · obtain ⟨i, hi, hi2, rfl⟩ := z_in (p7.2.t c10).1 (p7.2.t c10).2 hc12 (by decide)
    refine lv_lconst (v := 0) hx hb dX12_fines_17 (by decide) ?_
    refine lv_lstore_n (lv' := [(2, .long 0), (0, .ref (a 0)), (1, .int (nI i))]) hx hb dX12_fines_18 rfl hl (by decide) rfl (fun ls hl => ?_)
    refine lv_iconst (v := 0) hx hb dX12_fines_19 (by decide) ?_
    refine lv_istore (lv' := [(4, .int 0), (2, .long 0), (0, .ref (a 0)), (1, .int (nI i))]) hx hb dX12_fines_20 hl (by decide) rfl (fun ls hl => ?_)
    have lp22 : ∀ (f : Nat) (k : Nat) (u : Int64) (τ : St) (H : Heap) (locs : List Loc) (ls : Array Slot), (k ≤ nn ∧ K mF mA σ τ) → (nn - k) < f → HW D (AM a) s (wM cy a τ) H locs → lv_has ls 6 [(4, .int (nI k)), (2, .long u), (0, .ref (a 0)), (1, .int (nI i))] → W p l e (rmOf 5 128) s m args below meth c H locs 0 0 (MQ below (va_Ql (fun _ τ => K mF mA σ τ) (fun u t => va_P D vwCl (wM cy a u) t.heap) (AM a)) args s 0 0 (AM a)) (F0 m 22 ls []) := by
      intro f
      induction f with
      | zero => intro k u τ H locs ls _ hf; exact absurd hf (Nat.not_lt_zero _)
      | succ f ih22 =>
        intro k u τ H locs ls hi22 hf22 h hl
        have hkt := hi22.2
        refine lv_iload hx hb dX12_fines_22 (lv_at hl 0 rfl) ?_
        refine lv_aload_n hx hb dX12_fines_24 rfl (lv_at hl 2 rfl) ?_
        refine r_get E h 2 (v := .int (nI nn)) (eM_0 cy a τ) rfl fw_X12 (by decide) fl_X12_191 (congrArg (fun z => some (Value.int z)) ((hkt.1 2 (by decide)).trans hnow)) dX12_fines_25 ?_
        refine lv_icmp_ge (tgt := 75) hx hb dX12_fines_28 (by decide) (fun c28 => ?_) (fun c28 => ?_)
        · refine lv_lload_n hx hb dX12_fines_75 rfl (lv_at hl 1 rfl) ?_
          exact t_l E h hr hk hi22.2 dX12_fines_76
        · have c28 : k < nn := Nat.lt_of_not_le fun q9 => c28 ((nI_leI (a := nn) (b := k) (by omega) (by omega)).mpr q9)
          refine lv_aload_n hx hb dX12_fines_31 rfl (lv_at hl 2 rfl) ?_
          refine lv_iload hx hb dX12_fines_32 (lv_at hl 0 rfl) ?_
          refine lv_iconst (v := 3) hx hb dX12_fines_34 (by decide) ?_
          refine k_i h (q_runV (As := [.int (nI k), .int 3]) (rest := []) E h (c_X12_lawOf l D cy a τ (nI k) 3 nl ((hkt.1 11 (by decide)).trans hla) hl3) co_X12_lawOf ml_X12_194 im_X12_lawOf se_X12_lawOf in_X12 (eM_0 cy a τ) rfl ok_X12_lawOf rfl ⟨by decide, by decide⟩ hl.1 rfl (Nat.le_of_ble_eq_true rfl) dX12_fines_35 ⟨Nat.zero_le _, Nat.zero_le _⟩) (wM_fst cy a) (fun r35 τ35 H locs p35 h => ?_)
          rw [p35.1] at h
          refine lv_istore (lv' := [(5, .int r35), (4, .int (nI k)), (2, .long u), (0, .ref (a 0)), (1, .int (nI i))]) hx hb dX12_fines_38 hl (by decide) rfl (fun ls hl => ?_)
          refine lv_iload hx hb dX12_fines_40 (lv_at hl 0 rfl) ?_
          refine lv_if_le (tgt := 69) hx hb dX12_fines_42 (by decide) (fun c42 => ?_) (fun c42 => ?_)
          · refine lv_iinc (v := nI (k + 1)) (lv' := [(4, .int (nI (k + 1))), (5, .int r35), (2, .long u), (0, .ref (a 0)), (1, .int (nI i))]) hx hb dX12_fines_69 hl (k := 1) rfl (nI_succ k).symm (by decide) rfl (fun ls hl => ?_)
            refine lv_goto (tgt := 22) hx hb dX12_fines_72 (by decide) ?_
            exact ih22 (k + 1) u τ _ _ _ ⟨by omega, hi22.2⟩ (by omega) h (lv_sub hl [0, 2, 3, 4] rfl)
          · refine lv_aload_n hx hb dX12_fines_45 rfl (lv_at hl 3 rfl) ?_
            refine lv_iload hx hb dX12_fines_46 (lv_at hl 1 rfl) ?_
            refine lv_aload_n hx hb dX12_fines_48 rfl (lv_at hl 3 rfl) ?_
            refine r_get E h 2 (v := .int (nI nn)) (eM_0 cy a τ) rfl fw_X12 (by decide) fl_X12_191 (congrArg (fun z => some (Value.int z)) ((hkt.1 2 (by decide)).trans hnow)) dX12_fines_49 ?_
            refine k_v h (q_runV (As := [.int (nI k), .int (nI nn)]) (rest := []) E h (c_X12_flow l D cy a τ (nI k) (nI nn) (gm_41 (g.kept hkt))) co_X12_flow ml_X12_309 im_X12_flow se_X12_flow in_X12 (eM_0 cy a τ) rfl ok_X12_flow rfl ⟨by decide, by decide⟩ hl.1 rfl (Nat.le_of_ble_eq_true rfl) dX12_fines_52 ⟨Nat.zero_le _, Nat.zero_le _⟩) (wM_fst cy a) (fun τ52 H locs p52 h => ?_)
            refine lv_lload_n hx hb dX12_fines_55 rfl (lv_at hl 2 rfl) ?_
            refine lv_iload hx hb dX12_fines_56 (lv_at hl 0 rfl) ?_
            refine lv_i2l hx hb dX12_fines_58 rfl ?_
            refine lv_aload_n hx hb dX12_fines_59 rfl (lv_at hl 3 rfl) ?_
            refine r_get E h 51 (v := .ref (a 32)) (eM_0 cy a τ52) rfl fw_X12 (by decide) fl_X12_107 rfl dX12_fines_60 ?_
            refine lv_iload_n hx hb dX12_fines_63 rfl (lv_at hl 4 rfl) ?_
            refine r_ialdN E h (f := τ52.2.1 32) (eM_32 cy a τ52) (j := i) hi2 (by decide) (v := τ52.2.1 32 i) rfl dX12_fines_64 ?_
            refine lv_i2l hx hb dX12_fines_65 rfl ?_
            refine lv_lmul hx hb dX12_fines_66 ?_
            refine lv_ladd hx hb dX12_fines_67 ?_
            refine lv_lstore_n (lv' := [(2, .long (u + (r35.toInt64 * ((τ52.2.1 32 i).toInt64)))), (5, .int r35), (4, .int (nI k)), (0, .ref (a 0)), (1, .int (nI i))]) hx hb dX12_fines_68 rfl hl (by decide) rfl (fun ls hl => ?_)
            refine lv_iinc (v := nI (k + 1)) (lv' := [(4, .int (nI (k + 1))), (2, .long (u + (r35.toInt64 * ((τ52.2.1 32 i).toInt64)))), (5, .int r35), (0, .ref (a 0)), (1, .int (nI i))]) hx hb dX12_fines_69 hl (k := 2) rfl (nI_succ k).symm (by decide) rfl (fun ls hl => ?_)
            refine lv_goto (tgt := 22) hx hb dX12_fines_72 (by decide) ?_
            exact ih22 (k + 1) (u + (r35.toInt64 * ((τ52.2.1 32 i).toInt64))) τ52 _ _ _ ⟨by omega, hi22.2.tr p52.1⟩ (by omega) h (lv_sub hl [0, 1, 3, 4] rfl)
    exact lp22 _ 0 0 (fF σ 0 0) _ _ _ ⟨Nat.zero_le _, (K.rf.F 0 _ (by decide))⟩ (Nat.lt_succ_self _) h (lv_sub hl [0, 1, 2, 3] rfl)
  · refine lv_ldc2 (v := -2) hx hb E.2.2.2.1 (E.2.2.2.2.1 _ kl_X12_318) dX12_fines_13 ?_
    exact t_l E h hr hk (K.rf.F 0 _ (by decide)) dX12_fines_16

set_option maxHeartbeats 4000000 in
set_option maxRecDepth 100000 in
theorem c_X12_rent (l : Launch) (D : va_G) (cy : Nat → ClassId) (a : Nat → Nat) (σ : St) (x y : Int32) (g : GM 40 σ) : CL l yX12_rent cX12_rent 9 (some .long) (rmOf 5 128) D cy (wM cy a) (AM a) [.ref (a 0), .int x, .int y] σ (fun _ τ => K mF mA σ τ) := by
  refine c_of (lv := [(0, .ref (a 0)), (1, .int x), (2, .int y)]) rfl (Nat.le_of_ble_eq_true rfl) rfl ?_
  intro p e s m args below meth c ls E h hr hk hl
  have hx := E.1
  have hb := E.2.1
  obtain ⟨⟨nq, hq4, hq⟩, ⟨ns, hs6, hs⟩, ⟨nc, hc12, hc, hcw⟩, ⟨np, hp4, hp⟩, ⟨nd, hd6, hd⟩, ⟨nz, hz8, hz, hzw⟩, ⟨nt, ht6, ht⟩, ⟨nr, hr4, hrp⟩, ⟨nl, hl3, hla⟩, ⟨nx, hx4, hxt⟩, ⟨nn, hn2, hnow⟩⟩ := id g
  refine lv_aload_n hx hb dX12_rent_0 rfl (lv_at hl 0 rfl) ?_
  refine lv_iconst (v := 0) hx hb dX12_rent_1 (by decide) ?_
  refine r_put E h 0 (ty := .int) (eM_0 cy a σ) rfl fw_X12 tyX12_ok nmX12 (by decide) fl_X12_131 rfl (by decide +kernel) rfl rfl (Nat.le_of_ble_eq_true rfl) (sM_0 cy a σ 0) dX12_rent_2 (fun H locs h => ?_)
  refine lv_iload_n hx hb dX12_rent_5 rfl (lv_at hl 2 rfl) ?_
  refine k_i h (q_runS (As := [.int y]) (rest := []) E h (c_X12_isYear l D cy a (fF σ 0 0) y) co_X12_isYear ml_X12_161 st_X12_isYear in_X12 rfl ok_X12_isYear rfl ⟨by decide, by decide⟩ hl.1 rfl (Nat.le_of_ble_eq_true rfl) dX12_rent_6 ⟨Nat.zero_le _, Nat.zero_le _⟩) (wM_fst cy a) (fun r6 τ6 H locs p6 h => ?_)
  rw [p6.1] at h
  refine lv_if_ne (tgt := 16) hx hb dX12_rent_9 (by decide) (fun c9 => ?_) (fun c9 => ?_)
  · refine lv_aload_n hx hb dX12_rent_16 rfl (lv_at hl 0 rfl) ?_
    refine lv_iload_n hx hb dX12_rent_17 rfl (lv_at hl 1 rfl) ?_
    refine k_i h (q_runV (As := [.int x]) (rest := []) E h (c_X12_isPerson l D cy a (fF σ 0 0) x np hp (by omega)) co_X12_isPerson ml_X12_174 im_X12_isPerson se_X12_isPerson in_X12 (eM_0 cy a (fF σ 0 0)) rfl ok_X12_isPerson rfl ⟨by decide, by decide⟩ hl.1 rfl (Nat.le_of_ble_eq_true rfl) dX12_rent_18 ⟨Nat.zero_le _, Nat.zero_le _⟩) (wM_fst cy a) (fun r18 τ18 H locs p18 h => ?_)
    rw [p18.1] at h
    refine lv_if_ne (tgt := 28) hx hb dX12_rent_21 (by decide) (fun c21 => ?_) (fun c21 => ?_)
    · refine lv_aload_n hx hb dX12_rent_28 rfl (lv_at hl 0 rfl) ?_
      refine lv_iload_n hx hb dX12_rent_29 rfl (lv_at hl 1 rfl) ?_
      refine lv_iload_n hx hb dX12_rent_30 rfl (lv_at hl 2 rfl) ?_
      refine k_i h (q_runV (As := [.int x, .int y]) (rest := []) E h (c_X12_deadOf l D cy a (fF σ 0 0) x y nd hd hd6) co_X12_deadOf ml_X12_180 im_X12_deadOf se_X12_deadOf in_X12 (eM_0 cy a (fF σ 0 0)) rfl ok_X12_deadOf rfl ⟨by decide, by decide⟩ hl.1 rfl (Nat.le_of_ble_eq_true rfl) dX12_rent_31 ⟨Nat.zero_le _, Nat.zero_le _⟩) (wM_fst cy a) (fun r31 τ31 H locs p31 h => ?_)
      rw [p31.1] at h
      refine lv_istore_n (lv' := [(3, .int r31), (0, .ref (a 0)), (1, .int x), (2, .int y)]) hx hb dX12_rent_34 rfl hl (by decide) rfl (fun ls hl => ?_)
      refine lv_lconst (v := 0) hx hb dX12_rent_35 (by decide) ?_
      refine lv_lstore (lv' := [(4, .long 0), (3, .int r31), (0, .ref (a 0)), (1, .int x), (2, .int y)]) hx hb dX12_rent_36 hl (by decide) rfl (fun ls hl => ?_)
      refine lv_iconst (v := 0) hx hb dX12_rent_38 (by decide) ?_
      refine lv_istore (lv' := [(6, .int 0), (4, .long 0), (3, .int r31), (0, .ref (a 0)), (1, .int x), (2, .int y)]) hx hb dX12_rent_39 hl (by decide) rfl (fun ls hl => ?_)
      have lp41 : ∀ (f : Nat) (k : Nat) (u : Int64) (τ : St) (H : Heap) (locs : List Loc) (ls : Array Slot), (k ≤ nn ∧ K mF mA σ τ) → (nn - k) < f → HW D (AM a) s (wM cy a τ) H locs → lv_has ls 9 [(6, .int (nI k)), (4, .long u), (3, .int r31), (0, .ref (a 0)), (1, .int x), (2, .int y)] → W p l e (rmOf 5 128) s m args below meth c H locs 0 0 (MQ below (va_Ql (fun _ τ => K mF mA σ τ) (fun u t => va_P D vwCl (wM cy a u) t.heap) (AM a)) args s 0 0 (AM a)) (F0 m 41 ls []) := by
        intro f
        induction f with
        | zero => intro k u τ H locs ls _ hf; exact absurd hf (Nat.not_lt_zero _)
        | succ f ih41 =>
          intro k u τ H locs ls hi41 hf41 h hl
          have hkt := hi41.2
          refine lv_iload hx hb dX12_rent_41 (lv_at hl 0 rfl) ?_
          refine lv_aload_n hx hb dX12_rent_43 rfl (lv_at hl 3 rfl) ?_
          refine r_get E h 2 (v := .int (nI nn)) (eM_0 cy a τ) rfl fw_X12 (by decide) fl_X12_191 (congrArg (fun z => some (Value.int z)) ((hkt.1 2 (by decide)).trans hnow)) dX12_rent_44 ?_
          refine lv_icmp_ge (tgt := 164) hx hb dX12_rent_47 (by decide) (fun c47 => ?_) (fun c47 => ?_)
          · refine lv_lload hx hb dX12_rent_164 (lv_at hl 1 rfl) ?_
            exact t_l E h hr hk hkt dX12_rent_166
          · have c47 : k < nn := Nat.lt_of_not_le fun q9 => c47 ((nI_leI (a := nn) (b := k) (by omega) (by omega)).mpr q9)
            refine lv_aload_n hx hb dX12_rent_50 rfl (lv_at hl 3 rfl) ?_
            refine lv_iload hx hb dX12_rent_51 (lv_at hl 0 rfl) ?_
            refine lv_iconst (v := 2) hx hb dX12_rent_53 (by decide) ?_
            refine k_i h (q_runV (As := [.int (nI k), .int 2]) (rest := []) E h (c_X12_lawOf l D cy a τ (nI k) 2 nl ((hkt.1 11 (by decide)).trans hla) hl3) co_X12_lawOf ml_X12_194 im_X12_lawOf se_X12_lawOf in_X12 (eM_0 cy a τ) rfl ok_X12_lawOf rfl ⟨by decide, by decide⟩ hl.1 rfl (Nat.le_of_ble_eq_true rfl) dX12_rent_54 ⟨Nat.zero_le _, Nat.zero_le _⟩) (wM_fst cy a) (fun r54 τ54 H locs p54 h => ?_)
            rw [p54.1] at h
            refine lv_istore (lv' := [(7, .int r54), (6, .int (nI k)), (4, .long u), (3, .int r31), (0, .ref (a 0)), (1, .int x), (2, .int y)]) hx hb dX12_rent_57 hl (by decide) rfl (fun ls hl => ?_)
            refine lv_iload hx hb dX12_rent_59 (lv_at hl 0 rfl) ?_
            refine lv_if_eq (tgt := 158) hx hb dX12_rent_61 (by decide) (fun c61 => ?_) (fun c61 => ?_)
            · refine lv_iinc (v := nI (k + 1)) (lv' := [(6, .int (nI (k + 1))), (7, .int r54), (4, .long u), (3, .int r31), (0, .ref (a 0)), (1, .int x), (2, .int y)]) hx hb dX12_rent_158 hl (k := 1) rfl (nI_succ k).symm (by decide) rfl (fun ls hl => ?_)
              refine lv_goto (tgt := 41) hx hb dX12_rent_161 (by decide) ?_
              exact ih41 (k + 1) u τ _ _ _ ⟨by omega, hkt⟩ (by omega) h (lv_sub hl [0, 2, 3, 4, 5, 6] rfl)
            · refine lv_iload_n hx hb dX12_rent_64 rfl (lv_at hl 3 rfl) ?_
              refine lv_iconst (v := -1) hx hb dX12_rent_65 (by decide) ?_
              refine lv_icmp_eq (tgt := 78) hx hb dX12_rent_66 (by decide) (fun c66 => ?_) (fun c66 => ?_)
              · refine lv_aload_n hx hb dX12_rent_78 rfl (lv_at hl 4 rfl) ?_
                refine lv_iload hx hb dX12_rent_79 (lv_at hl 1 rfl) ?_
                refine lv_iload_n hx hb dX12_rent_81 rfl (lv_at hl 6 rfl) ?_
                refine k_v h (q_runV (As := [.int (nI k), .int y]) (rest := []) E h (c_X12_flow l D cy a τ (nI k) y (gm_41 (g.kept hkt))) co_X12_flow ml_X12_309 im_X12_flow se_X12_flow in_X12 (eM_0 cy a τ) rfl ok_X12_flow rfl ⟨by decide, by decide⟩ hl.1 rfl (Nat.le_of_ble_eq_true rfl) dX12_rent_82 ⟨Nat.zero_le _, Nat.zero_le _⟩) (wM_fst cy a) (fun τ82 H locs p82 h => ?_)
                have hk8 := hkt.tr p82.1
                refine lv_iconst (v := 0) hx hb dX12_rent_85 (by decide) ?_
                refine lv_istore (lv' := [(8, .int 0), (7, .int r54), (6, .int (nI k)), (4, .long u), (3, .int r31), (0, .ref (a 0)), (1, .int x), (2, .int y)]) hx hb dX12_rent_86 hl (by decide) rfl (fun ls hl => ?_)
                have lp88 : ∀ (f : Nat) (z : Nat) (v : Int64) (H : Heap) (locs : List Loc) (ls : Array Slot), (z ≤ nz) → (nz - z) < f → HW D (AM a) s (wM cy a τ82) H locs → lv_has ls 9 [(8, .int (nI z)), (7, .int r54), (6, .int (nI k)), (4, .long v), (3, .int r31), (0, .ref (a 0)), (1, .int x), (2, .int y)] → W p l e (rmOf 5 128) s m args below meth c H locs 0 0 (MQ below (va_Ql (fun _ τ => K mF mA σ τ) (fun u t => va_P D vwCl (wM cy a u) t.heap) (AM a)) args s 0 0 (AM a)) (F0 m 88 ls []) := by
                  intro f
                  induction f with
                  | zero => intro z v H locs ls _ hf; exact absurd hf (Nat.not_lt_zero _)
                  | succ f ih88 =>
                    intro z v H locs ls hi88 hf88 h hl
                    refine lv_iload hx hb dX12_rent_88 (lv_at hl 0 rfl) ?_
                    refine lv_aload_n hx hb dX12_rent_90 rfl (lv_at hl 5 rfl) ?_
                    refine r_get E h 18 (v := .int (nI nz)) (eM_0 cy a τ82) rfl fw_X12 (by decide) fl_X12_149 (congrArg (fun z => some (Value.int z)) ((hk8.1 8 (by decide)).trans hz)) dX12_rent_91 ?_
                    refine lv_icmp_ge (tgt := 158) hx hb dX12_rent_94 (by decide) (fun c94 => ?_) (fun c94 => ?_)
                    · refine lv_iinc (v := nI (k + 1)) (lv' := [(6, .int (nI (k + 1))), (8, .int (nI z)), (7, .int r54), (4, .long v), (3, .int r31), (0, .ref (a 0)), (1, .int x), (2, .int y)]) hx hb dX12_rent_158 hl (k := 2) rfl (nI_succ k).symm (by decide) rfl (fun ls hl => ?_)
                      refine lv_goto (tgt := 41) hx hb dX12_rent_161 (by decide) ?_
                      exact ih41 (k + 1) v τ82 _ _ _ ⟨by omega, hk8⟩ (by omega) h (lv_sub hl [0, 3, 4, 5, 6, 7] rfl)
                    · have c94 : z < nz := Nat.lt_of_not_le fun q9 => c94 ((nI_leI (a := nz) (b := z) (by omega) (by omega)).mpr q9)
                      refine lv_lload hx hb dX12_rent_97 (lv_at hl 3 rfl) ?_
                      refine lv_aload_n hx hb dX12_rent_99 rfl (lv_at hl 5 rfl) ?_
                      refine r_get E h 21 (v := .ref (a 13)) (eM_0 cy a τ82) rfl fw_X12 (by decide) fl_X12_46 rfl dX12_rent_100 ?_
                      refine lv_iload hx hb dX12_rent_103 (lv_at hl 0 rfl) ?_
                      refine r_ialdN E h (f := τ82.2.1 13) (eM_13 cy a τ82) (j := z) (by omega) (by decide) (v := τ82.2.1 13 z) rfl dX12_rent_105 ?_
                      refine lv_iconst (v := 2) hx hb dX12_rent_106 (by decide) ?_
                      refine lv_icmp_ne (tgt := 148) hx hb dX12_rent_107 (by decide) (fun c107 => ?_) (fun c107 => ?_)
                      · refine lv_lconst (v := 0) hx hb dX12_rent_148 (by decide) ?_
                        refine lv_ladd hx hb dX12_rent_149 ?_
                        refine lv_lstore (lv' := [(4, .long (v + 0)), (8, .int (nI z)), (7, .int r54), (6, .int (nI k)), (3, .int r31), (0, .ref (a 0)), (1, .int x), (2, .int y)]) hx hb dX12_rent_150 hl (by decide) rfl (fun ls hl => ?_)
                        refine lv_iinc (v := nI (z + 1)) (lv' := [(8, .int (nI (z + 1))), (4, .long (v + 0)), (7, .int r54), (6, .int (nI k)), (3, .int r31), (0, .ref (a 0)), (1, .int x), (2, .int y)]) hx hb dX12_rent_152 hl (k := 1) rfl (nI_succ z).symm (by decide) rfl (fun ls hl => ?_)
                        refine lv_goto (tgt := 88) hx hb dX12_rent_155 (by decide) ?_
                        exact ih88 (z + 1) (v + 0) _ _ _ (by omega) (by omega) h (lv_sub hl [0, 2, 3, 1, 4, 5, 6, 7] rfl)
                      · refine lv_aload_n hx hb dX12_rent_110 rfl (lv_at hl 5 rfl) ?_
                        refine r_get E h 22 (v := .ref (a 14)) (eM_0 cy a τ82) rfl fw_X12 (by decide) fl_X12_49 rfl dX12_rent_111 ?_
                        refine lv_iload hx hb dX12_rent_114 (lv_at hl 0 rfl) ?_
                        refine r_ialdN E h (f := τ82.2.1 14) (eM_14 cy a τ82) (j := z) (by omega) (by decide) (v := τ82.2.1 14 z) rfl dX12_rent_116 ?_
                        refine lv_iload_n hx hb dX12_rent_117 rfl (lv_at hl 6 rfl) ?_
                        refine lv_icmp_ne (tgt := 148) hx hb dX12_rent_118 (by decide) (fun c118 => ?_) (fun c118 => ?_)
                        · refine lv_lconst (v := 0) hx hb dX12_rent_148 (by decide) ?_
                          refine lv_ladd hx hb dX12_rent_149 ?_
                          refine lv_lstore (lv' := [(4, .long (v + 0)), (8, .int (nI z)), (7, .int r54), (6, .int (nI k)), (3, .int r31), (0, .ref (a 0)), (1, .int x), (2, .int y)]) hx hb dX12_rent_150 hl (by decide) rfl (fun ls hl => ?_)
                          refine lv_iinc (v := nI (z + 1)) (lv' := [(8, .int (nI (z + 1))), (4, .long (v + 0)), (7, .int r54), (6, .int (nI k)), (3, .int r31), (0, .ref (a 0)), (1, .int x), (2, .int y)]) hx hb dX12_rent_152 hl (k := 1) rfl (nI_succ z).symm (by decide) rfl (fun ls hl => ?_)
                          refine lv_goto (tgt := 88) hx hb dX12_rent_155 (by decide) ?_
                          exact ih88 (z + 1) (v + 0) _ _ _ (by omega) (by omega) h (lv_sub hl [0, 2, 3, 1, 4, 5, 6, 7] rfl)
                        · refine lv_aload_n hx hb dX12_rent_121 rfl (lv_at hl 5 rfl) ?_
                          refine lv_iload hx hb dX12_rent_122 (lv_at hl 0 rfl) ?_
                          refine lv_iload hx hb dX12_rent_124 (lv_at hl 2 rfl) ?_
                          refine lv_iload_n hx hb dX12_rent_126 rfl (lv_at hl 7 rfl) ?_
                          refine k_i h (q_runV (As := [.int (nI z), .int (nI k), .int y]) (rest := [.long v]) E h (c_X12_livesIn l D cy a τ82 z (nI k) y nl nd (by omega) ((hk8.1 11 (by decide)).trans hla) hl3 ((hk8.1 7 (by decide)).trans hd) hd6) co_X12_livesIn ml_X12_302 im_X12_livesIn se_X12_livesIn in_X12 (eM_0 cy a τ82) rfl ok_X12_livesIn rfl ⟨by decide, by decide⟩ hl.1 rfl (Nat.le_of_ble_eq_true rfl) dX12_rent_127 ⟨Nat.zero_le _, Nat.zero_le _⟩) (wM_fst cy a) (fun r127 τ127 H locs p127 h => ?_)
                          rw [p127.1] at h
                          refine lv_if_eq (tgt := 148) hx hb dX12_rent_130 (by decide) (fun c130 => ?_) (fun c130 => ?_)
                          · refine lv_lconst (v := 0) hx hb dX12_rent_148 (by decide) ?_
                            refine lv_ladd hx hb dX12_rent_149 ?_
                            refine lv_lstore (lv' := [(4, .long (v + 0)), (8, .int (nI z)), (7, .int r54), (6, .int (nI k)), (3, .int r31), (0, .ref (a 0)), (1, .int x), (2, .int y)]) hx hb dX12_rent_150 hl (by decide) rfl (fun ls hl => ?_)
                            refine lv_iinc (v := nI (z + 1)) (lv' := [(8, .int (nI (z + 1))), (4, .long (v + 0)), (7, .int r54), (6, .int (nI k)), (3, .int r31), (0, .ref (a 0)), (1, .int x), (2, .int y)]) hx hb dX12_rent_152 hl (k := 1) rfl (nI_succ z).symm (by decide) rfl (fun ls hl => ?_)
                            refine lv_goto (tgt := 88) hx hb dX12_rent_155 (by decide) ?_
                            exact ih88 (z + 1) (v + 0) _ _ _ (by omega) (by omega) h (lv_sub hl [0, 2, 3, 1, 4, 5, 6, 7] rfl)
                          · refine lv_iload hx hb dX12_rent_133 (lv_at hl 1 rfl) ?_
                            refine lv_i2l hx hb dX12_rent_135 rfl ?_
                            refine lv_aload_n hx hb dX12_rent_136 rfl (lv_at hl 5 rfl) ?_
                            refine r_get E h 55 (v := .ref (a 36)) (eM_0 cy a τ82) rfl fw_X12 (by decide) fl_X12_119 rfl dX12_rent_137 ?_
                            refine lv_iload hx hb dX12_rent_140 (lv_at hl 0 rfl) ?_
                            refine r_ialdN E h (f := τ82.2.1 36) (eM_36 cy a τ82) (j := z) (by omega) (by decide) (v := τ82.2.1 36 z) rfl dX12_rent_142 ?_
                            refine lv_i2l hx hb dX12_rent_143 rfl ?_
                            refine lv_lmul hx hb dX12_rent_144 ?_
                            refine lv_goto (tgt := 149) hx hb dX12_rent_145 (by decide) ?_
                            refine lv_ladd hx hb dX12_rent_149 ?_
                            refine lv_lstore (lv' := [(4, .long (v + (r54.toInt64 * ((τ82.2.1 36 z).toInt64)))), (8, .int (nI z)), (7, .int r54), (6, .int (nI k)), (3, .int r31), (0, .ref (a 0)), (1, .int x), (2, .int y)]) hx hb dX12_rent_150 hl (by decide) rfl (fun ls hl => ?_)
                            refine lv_iinc (v := nI (z + 1)) (lv' := [(8, .int (nI (z + 1))), (4, .long (v + (r54.toInt64 * ((τ82.2.1 36 z).toInt64)))), (7, .int r54), (6, .int (nI k)), (3, .int r31), (0, .ref (a 0)), (1, .int x), (2, .int y)]) hx hb dX12_rent_152 hl (k := 1) rfl (nI_succ z).symm (by decide) rfl (fun ls hl => ?_)
                            refine lv_goto (tgt := 88) hx hb dX12_rent_155 (by decide) ?_
                            exact ih88 (z + 1) (v + (r54.toInt64 * ((τ82.2.1 36 z).toInt64))) _ _ _ (by omega) (by omega) h (lv_sub hl [0, 2, 3, 1, 4, 5, 6, 7] rfl)
                exact lp88 _ 0 u _ _ _ (Nat.zero_le _) (Nat.lt_succ_self _) h (lv_sub hl [0, 1, 2, 3, 4, 5, 6, 7] rfl)
              · refine lv_iload_n hx hb dX12_rent_69 rfl (lv_at hl 3 rfl) ?_
                refine lv_iload hx hb dX12_rent_70 (lv_at hl 1 rfl) ?_
                refine lv_icmp_ge (tgt := 78) hx hb dX12_rent_72 (by decide) (fun c72 => ?_) (fun c72 => ?_)
                · refine lv_aload_n hx hb dX12_rent_78 rfl (lv_at hl 4 rfl) ?_
                  refine lv_iload hx hb dX12_rent_79 (lv_at hl 1 rfl) ?_
                  refine lv_iload_n hx hb dX12_rent_81 rfl (lv_at hl 6 rfl) ?_
                  refine k_v h (q_runV (As := [.int (nI k), .int y]) (rest := []) E h (c_X12_flow l D cy a τ (nI k) y (gm_41 (g.kept hkt))) co_X12_flow ml_X12_309 im_X12_flow se_X12_flow in_X12 (eM_0 cy a τ) rfl ok_X12_flow rfl ⟨by decide, by decide⟩ hl.1 rfl (Nat.le_of_ble_eq_true rfl) dX12_rent_82 ⟨Nat.zero_le _, Nat.zero_le _⟩) (wM_fst cy a) (fun τ82 H locs p82 h => ?_)
                  have hk8 := hkt.tr p82.1
                  refine lv_iconst (v := 0) hx hb dX12_rent_85 (by decide) ?_
                  refine lv_istore (lv' := [(8, .int 0), (7, .int r54), (6, .int (nI k)), (4, .long u), (3, .int r31), (0, .ref (a 0)), (1, .int x), (2, .int y)]) hx hb dX12_rent_86 hl (by decide) rfl (fun ls hl => ?_)
                  have lp88 : ∀ (f : Nat) (z : Nat) (v : Int64) (H : Heap) (locs : List Loc) (ls : Array Slot), (z ≤ nz) → (nz - z) < f → HW D (AM a) s (wM cy a τ82) H locs → lv_has ls 9 [(8, .int (nI z)), (7, .int r54), (6, .int (nI k)), (4, .long v), (3, .int r31), (0, .ref (a 0)), (1, .int x), (2, .int y)] → W p l e (rmOf 5 128) s m args below meth c H locs 0 0 (MQ below (va_Ql (fun _ τ => K mF mA σ τ) (fun u t => va_P D vwCl (wM cy a u) t.heap) (AM a)) args s 0 0 (AM a)) (F0 m 88 ls []) := by
                    intro f
                    induction f with
                    | zero => intro z v H locs ls _ hf; exact absurd hf (Nat.not_lt_zero _)
                    | succ f ih88 =>
                      intro z v H locs ls hi88 hf88 h hl
                      refine lv_iload hx hb dX12_rent_88 (lv_at hl 0 rfl) ?_
                      refine lv_aload_n hx hb dX12_rent_90 rfl (lv_at hl 5 rfl) ?_
                      refine r_get E h 18 (v := .int (nI nz)) (eM_0 cy a τ82) rfl fw_X12 (by decide) fl_X12_149 (congrArg (fun z => some (Value.int z)) ((hk8.1 8 (by decide)).trans hz)) dX12_rent_91 ?_
                      refine lv_icmp_ge (tgt := 158) hx hb dX12_rent_94 (by decide) (fun c94 => ?_) (fun c94 => ?_)
                      · refine lv_iinc (v := nI (k + 1)) (lv' := [(6, .int (nI (k + 1))), (8, .int (nI z)), (7, .int r54), (4, .long v), (3, .int r31), (0, .ref (a 0)), (1, .int x), (2, .int y)]) hx hb dX12_rent_158 hl (k := 2) rfl (nI_succ k).symm (by decide) rfl (fun ls hl => ?_)
                        refine lv_goto (tgt := 41) hx hb dX12_rent_161 (by decide) ?_
                        exact ih41 (k + 1) v τ82 _ _ _ ⟨by omega, hk8⟩ (by omega) h (lv_sub hl [0, 3, 4, 5, 6, 7] rfl)
                      · have c94 : z < nz := Nat.lt_of_not_le fun q9 => c94 ((nI_leI (a := nz) (b := z) (by omega) (by omega)).mpr q9)
                        refine lv_lload hx hb dX12_rent_97 (lv_at hl 3 rfl) ?_
                        refine lv_aload_n hx hb dX12_rent_99 rfl (lv_at hl 5 rfl) ?_
                        refine r_get E h 21 (v := .ref (a 13)) (eM_0 cy a τ82) rfl fw_X12 (by decide) fl_X12_46 rfl dX12_rent_100 ?_
                        refine lv_iload hx hb dX12_rent_103 (lv_at hl 0 rfl) ?_
                        refine r_ialdN E h (f := τ82.2.1 13) (eM_13 cy a τ82) (j := z) (by omega) (by decide) (v := τ82.2.1 13 z) rfl dX12_rent_105 ?_
                        refine lv_iconst (v := 2) hx hb dX12_rent_106 (by decide) ?_
                        refine lv_icmp_ne (tgt := 148) hx hb dX12_rent_107 (by decide) (fun c107 => ?_) (fun c107 => ?_)
                        · refine lv_lconst (v := 0) hx hb dX12_rent_148 (by decide) ?_
                          refine lv_ladd hx hb dX12_rent_149 ?_
                          refine lv_lstore (lv' := [(4, .long (v + 0)), (8, .int (nI z)), (7, .int r54), (6, .int (nI k)), (3, .int r31), (0, .ref (a 0)), (1, .int x), (2, .int y)]) hx hb dX12_rent_150 hl (by decide) rfl (fun ls hl => ?_)
                          refine lv_iinc (v := nI (z + 1)) (lv' := [(8, .int (nI (z + 1))), (4, .long (v + 0)), (7, .int r54), (6, .int (nI k)), (3, .int r31), (0, .ref (a 0)), (1, .int x), (2, .int y)]) hx hb dX12_rent_152 hl (k := 1) rfl (nI_succ z).symm (by decide) rfl (fun ls hl => ?_)
                          refine lv_goto (tgt := 88) hx hb dX12_rent_155 (by decide) ?_
                          exact ih88 (z + 1) (v + 0) _ _ _ (by omega) (by omega) h (lv_sub hl [0, 2, 3, 1, 4, 5, 6, 7] rfl)
                        · refine lv_aload_n hx hb dX12_rent_110 rfl (lv_at hl 5 rfl) ?_
                          refine r_get E h 22 (v := .ref (a 14)) (eM_0 cy a τ82) rfl fw_X12 (by decide) fl_X12_49 rfl dX12_rent_111 ?_
                          refine lv_iload hx hb dX12_rent_114 (lv_at hl 0 rfl) ?_
                          refine r_ialdN E h (f := τ82.2.1 14) (eM_14 cy a τ82) (j := z) (by omega) (by decide) (v := τ82.2.1 14 z) rfl dX12_rent_116 ?_
                          refine lv_iload_n hx hb dX12_rent_117 rfl (lv_at hl 6 rfl) ?_
                          refine lv_icmp_ne (tgt := 148) hx hb dX12_rent_118 (by decide) (fun c118 => ?_) (fun c118 => ?_)
                          · refine lv_lconst (v := 0) hx hb dX12_rent_148 (by decide) ?_
                            refine lv_ladd hx hb dX12_rent_149 ?_
                            refine lv_lstore (lv' := [(4, .long (v + 0)), (8, .int (nI z)), (7, .int r54), (6, .int (nI k)), (3, .int r31), (0, .ref (a 0)), (1, .int x), (2, .int y)]) hx hb dX12_rent_150 hl (by decide) rfl (fun ls hl => ?_)
                            refine lv_iinc (v := nI (z + 1)) (lv' := [(8, .int (nI (z + 1))), (4, .long (v + 0)), (7, .int r54), (6, .int (nI k)), (3, .int r31), (0, .ref (a 0)), (1, .int x), (2, .int y)]) hx hb dX12_rent_152 hl (k := 1) rfl (nI_succ z).symm (by decide) rfl (fun ls hl => ?_)
                            refine lv_goto (tgt := 88) hx hb dX12_rent_155 (by decide) ?_
                            exact ih88 (z + 1) (v + 0) _ _ _ (by omega) (by omega) h (lv_sub hl [0, 2, 3, 1, 4, 5, 6, 7] rfl)
                          · refine lv_aload_n hx hb dX12_rent_121 rfl (lv_at hl 5 rfl) ?_
                            refine lv_iload hx hb dX12_rent_122 (lv_at hl 0 rfl) ?_
                            refine lv_iload hx hb dX12_rent_124 (lv_at hl 2 rfl) ?_
                            refine lv_iload_n hx hb dX12_rent_126 rfl (lv_at hl 7 rfl) ?_
                            refine k_i h (q_runV (As := [.int (nI z), .int (nI k), .int y]) (rest := [.long v]) E h (c_X12_livesIn l D cy a τ82 z (nI k) y nl nd (by omega) ((hk8.1 11 (by decide)).trans hla) hl3 ((hk8.1 7 (by decide)).trans hd) hd6) co_X12_livesIn ml_X12_302 im_X12_livesIn se_X12_livesIn in_X12 (eM_0 cy a τ82) rfl ok_X12_livesIn rfl ⟨by decide, by decide⟩ hl.1 rfl (Nat.le_of_ble_eq_true rfl) dX12_rent_127 ⟨Nat.zero_le _, Nat.zero_le _⟩) (wM_fst cy a) (fun r127 τ127 H locs p127 h => ?_)
                            rw [p127.1] at h
                            refine lv_if_eq (tgt := 148) hx hb dX12_rent_130 (by decide) (fun c130 => ?_) (fun c130 => ?_)
                            · refine lv_lconst (v := 0) hx hb dX12_rent_148 (by decide) ?_
                              refine lv_ladd hx hb dX12_rent_149 ?_
                              refine lv_lstore (lv' := [(4, .long (v + 0)), (8, .int (nI z)), (7, .int r54), (6, .int (nI k)), (3, .int r31), (0, .ref (a 0)), (1, .int x), (2, .int y)]) hx hb dX12_rent_150 hl (by decide) rfl (fun ls hl => ?_)
                              refine lv_iinc (v := nI (z + 1)) (lv' := [(8, .int (nI (z + 1))), (4, .long (v + 0)), (7, .int r54), (6, .int (nI k)), (3, .int r31), (0, .ref (a 0)), (1, .int x), (2, .int y)]) hx hb dX12_rent_152 hl (k := 1) rfl (nI_succ z).symm (by decide) rfl (fun ls hl => ?_)
                              refine lv_goto (tgt := 88) hx hb dX12_rent_155 (by decide) ?_
                              exact ih88 (z + 1) (v + 0) _ _ _ (by omega) (by omega) h (lv_sub hl [0, 2, 3, 1, 4, 5, 6, 7] rfl)
                            · refine lv_iload hx hb dX12_rent_133 (lv_at hl 1 rfl) ?_
                              refine lv_i2l hx hb dX12_rent_135 rfl ?_
                              refine lv_aload_n hx hb dX12_rent_136 rfl (lv_at hl 5 rfl) ?_
                              refine r_get E h 55 (v := .ref (a 36)) (eM_0 cy a τ82) rfl fw_X12 (by decide) fl_X12_119 rfl dX12_rent_137 ?_
                              refine lv_iload hx hb dX12_rent_140 (lv_at hl 0 rfl) ?_
                              refine r_ialdN E h (f := τ82.2.1 36) (eM_36 cy a τ82) (j := z) (by omega) (by decide) (v := τ82.2.1 36 z) rfl dX12_rent_142 ?_
                              refine lv_i2l hx hb dX12_rent_143 rfl ?_
                              refine lv_lmul hx hb dX12_rent_144 ?_
                              refine lv_goto (tgt := 149) hx hb dX12_rent_145 (by decide) ?_
                              refine lv_ladd hx hb dX12_rent_149 ?_
                              refine lv_lstore (lv' := [(4, .long (v + (r54.toInt64 * ((τ82.2.1 36 z).toInt64)))), (8, .int (nI z)), (7, .int r54), (6, .int (nI k)), (3, .int r31), (0, .ref (a 0)), (1, .int x), (2, .int y)]) hx hb dX12_rent_150 hl (by decide) rfl (fun ls hl => ?_)
                              refine lv_iinc (v := nI (z + 1)) (lv' := [(8, .int (nI (z + 1))), (4, .long (v + (r54.toInt64 * ((τ82.2.1 36 z).toInt64)))), (7, .int r54), (6, .int (nI k)), (3, .int r31), (0, .ref (a 0)), (1, .int x), (2, .int y)]) hx hb dX12_rent_152 hl (k := 1) rfl (nI_succ z).symm (by decide) rfl (fun ls hl => ?_)
                              refine lv_goto (tgt := 88) hx hb dX12_rent_155 (by decide) ?_
                              exact ih88 (z + 1) (v + (r54.toInt64 * ((τ82.2.1 36 z).toInt64))) _ _ _ (by omega) (by omega) h (lv_sub hl [0, 2, 3, 1, 4, 5, 6, 7] rfl)
                  exact lp88 _ 0 u _ _ _ (Nat.zero_le _) (Nat.lt_succ_self _) h (lv_sub hl [0, 1, 2, 3, 4, 5, 6, 7] rfl)
                · refine lv_goto (tgt := 158) hx hb dX12_rent_75 (by decide) ?_
                  refine lv_iinc (v := nI (k + 1)) (lv' := [(6, .int (nI (k + 1))), (7, .int r54), (4, .long u), (3, .int r31), (0, .ref (a 0)), (1, .int x), (2, .int y)]) hx hb dX12_rent_158 hl (k := 1) rfl (nI_succ k).symm (by decide) rfl (fun ls hl => ?_)
                  refine lv_goto (tgt := 41) hx hb dX12_rent_161 (by decide) ?_
                  exact ih41 (k + 1) u τ _ _ _ ⟨by omega, hkt⟩ (by omega) h (lv_sub hl [0, 2, 3, 4, 5, 6] rfl)
      exact lp41 _ 0 0 (fF σ 0 0) _ _ _ ⟨Nat.zero_le _, (K.rf.F 0 _ (by decide))⟩ (Nat.lt_succ_self _) h (lv_sub hl [0, 1, 2, 3, 4, 5] rfl)
    · refine lv_ldc2 (v := -2) hx hb E.2.2.2.1 (E.2.2.2.2.1 _ kl_X12_318) dX12_rent_24 ?_
      exact t_l E h hr hk (K.rf.F 0 _ (by decide)) dX12_rent_27
  · refine lv_ldc2 (v := -1) hx hb E.2.2.2.1 (E.2.2.2.2.1 _ kl_X12_247) dX12_rent_12 ?_
    exact t_l E h hr hk (K.rf.F 0 _ (by decide)) dX12_rent_15
