section LS
variable {p : Program} {l : Launch} {e : Env} {R : Room} {s : State} {m : MethodId} {args : Array Value} {below : List Frame} {meth : Method} {c : Code} {H : Heap} {locs : List Loc} {cells slots : Nat} {Q : State → Prop}
variable {cc : ByteArray} {pc : Nat} {ls : Array Slot} {rest : List Value} {D : va_G} {ws : va_W} {b L : Nat} {xs : Nat → Int32}
theorem l_sld (hx : p.tables.exec = Jvm.exec) (hb : c.code = cc) (hX : va_X b L xs s s.heap) (hbl : b < s.heap.size) (h : HW D (LA s) s ws H locs) {j : Nat} (hj : j < L) (hL : L ≤ 3072) (hdg : decode cc pc = .ok (.iaload, 1))
    (kk : W p l e R s m args below meth c H locs cells slots Q (F0 m (pc + 1) ls (.int (xs j) :: rest))) : W p l e R s m args below meth c H locs cells slots Q (F0 m pc ls (.int (nI j) :: .ref b :: rest)) := by
  refine va_sld hx hb hX hbl (A := LA s) (Nat.not_le.mpr hbl) h.2.2 (vp_in_nI hj (by omega)) hdg ?_
  rw [nI_clamp (by omega)]
  exact kk
end LS

set_option maxHeartbeats 4000000 in
set_option maxRecDepth 100000 in
theorem lc_0 {p : Program} {e : Env} {s : State} {m : MethodId} {below : List Frame} {meth : Method} {c : Code} {Q : State → Prop} {D : va_G} {cy : Nat → ClassId} {ls : Array Slot} {H : Heap} {locs : List Loc} (l : Launch) {b L i : Nat} {xs : Nat → Int32} (ax am : Nat → Nat) (adK adV : Nat → Nat) (σ μ : St) (E : EV p s m c #[Value.ref b] cL_law RL 4 D cy) (hX : va_X b L xs s s.heap) (hbl : b < s.heap.size) (hz : SZ adK adV (LA s) s) (hL : L ≤ 3072) (hi : i + 6 ≤ L) (hl : lv_has ls 4 [(0, .ref b), (1, .ref (ax 0)), (2, .ref (am 0)), (3, .int (nI i))]) (h : HW D (LA s) s (wX cy ax σ ++ wM cy am μ) H locs) (g : INV σ μ)
    (kk : ∀ (τ ν : St) (H : Heap) (locs : List Loc), INV τ ν → HW D (LA s) s (wX cy ax τ ++ wM cy am ν) H locs → W p l e room_1 s m #[Value.ref b] below meth c H locs 600000 7302250 Q (F0 m 1050 ls [])) : W p l e room_1 s m #[Value.ref b] below meth c H locs 600000 7302250 Q (F0 m 152 ls []) := by
  have hx := E.1
  have hb := E.2.1
  refine lv_aload_n hx hb dL_law_152 rfl (lv_at hl 1 rfl) ?_
  refine lv_aload_n hx hb dL_law_153 rfl (lv_at hl 0 rfl) ?_
  refine lv_iload_n hx hb dL_law_154 rfl (lv_at hl 3 rfl) ?_
  refine lv_iconst (v := 1) hx hb dL_law_155 (by decide) ?_
  refine n_add (j := i) (k := 1) hx hb dL_law_156 ?_
  refine l_sld hx hb hX hbl h (show i + 1 < L by omega) hL dL_law_157 ?_
  obtain ⟨q9, _, hq4, hq, _⟩ := id g.1.2.2.2.1
  refine l_i (wf := wX cy ax) (σ := σ) (wo := wM cy am μ) h (cvX cy ax σ) (wX_fst cy ax) (l_runV (wf := wX cy ax) (σ := σ) (As := [.int (xs (i + 1))]) (rest := []) E h (cvX cy ax σ) (c_X11_aqueduct l D cy ax σ (xs (i + 1)) q9 hq hq4) co_X11_aqueduct ml_L_13 im_X11_aqueduct se_X11_aqueduct in_X11 (eX_0 cy ax σ) rfl ok_X11_aqueduct rfl ⟨by decide, by decide⟩ hl.1 rfl (Nat.le_of_ble_eq_true rfl) dL_law_158 ⟨Nat.le_refl _, Nat.le_refl _⟩) (fun r τ H locs pX h => ?_)
  refine lv_pop hx hb dL_law_161 rfl ?_
  refine lv_aload_n hx hb dL_law_162 rfl (lv_at hl 2 rfl) ?_
  refine lv_aload_n hx hb dL_law_163 rfl (lv_at hl 0 rfl) ?_
  refine lv_iload_n hx hb dL_law_164 rfl (lv_at hl 3 rfl) ?_
  refine lv_iconst (v := 1) hx hb dL_law_165 (by decide) ?_
  refine n_add (j := i) (k := 1) hx hb dL_law_166 ?_
  refine l_sld hx hb hX hbl h (show i + 1 < L by omega) hL dL_law_167 ?_
  refine l_i (wf := wM cy am) (σ := μ) (wo := wX cy ax τ) h.swap (cvM cy am μ) (wM_fst cy am) (l_runV (wf := wM cy am) (σ := μ) (As := [.int (xs (i + 1))]) (rest := []) E h.swap (cvM cy am μ) (c_X12_aqueduct l D cy am μ (xs (i + 1)) q9 ((g.2.2.1 (10, 3) (by decide)).symm.trans hq) hq4) co_X12_aqueduct ml_L_17 im_X12_aqueduct se_X12_aqueduct in_X12 (eM_0 cy am μ) rfl ok_X12_aqueduct rfl ⟨by decide, by decide⟩ hl.1 rfl (Nat.le_of_ble_eq_true rfl) dL_law_168 ⟨Nat.le_refl _, Nat.le_refl _⟩) (fun r2 ν H locs pM h => ?_)
  replace h := h.swap
  refine lv_pop hx hb dL_law_171 rfl ?_
  refine lv_goto (tgt := 1050) hx hb dL_law_172 (by decide) ?_
  exact kk τ ν H locs (st_aqueduct (xs (i + 1)) q9 hq4 g pX pM).1 h

set_option maxHeartbeats 4000000 in
set_option maxRecDepth 100000 in
theorem lc_1 {p : Program} {e : Env} {s : State} {m : MethodId} {below : List Frame} {meth : Method} {c : Code} {Q : State → Prop} {D : va_G} {cy : Nat → ClassId} {ls : Array Slot} {H : Heap} {locs : List Loc} (l : Launch) {b L i : Nat} {xs : Nat → Int32} (ax am : Nat → Nat) (adK adV : Nat → Nat) (σ μ : St) (E : EV p s m c #[Value.ref b] cL_law RL 4 D cy) (hX : va_X b L xs s s.heap) (hbl : b < s.heap.size) (hz : SZ adK adV (LA s) s) (hL : L ≤ 3072) (hi : i + 6 ≤ L) (hl : lv_has ls 4 [(0, .ref b), (1, .ref (ax 0)), (2, .ref (am 0)), (3, .int (nI i))]) (h : HW D (LA s) s (wX cy ax σ ++ wM cy am μ) H locs) (g : INV σ μ)
    (kk : ∀ (τ ν : St) (H : Heap) (locs : List Loc), INV τ ν → HW D (LA s) s (wX cy ax τ ++ wM cy am ν) H locs → W p l e room_1 s m #[Value.ref b] below meth c H locs 600000 7302250 Q (F0 m 1050 ls [])) : W p l e room_1 s m #[Value.ref b] below meth c H locs 600000 7302250 Q (F0 m 175 ls []) := by
  have hx := E.1
  have hb := E.2.1
  refine lv_aload_n hx hb dL_law_175 rfl (lv_at hl 1 rfl) ?_
  refine lv_aload_n hx hb dL_law_176 rfl (lv_at hl 0 rfl) ?_
  refine lv_iload_n hx hb dL_law_177 rfl (lv_at hl 3 rfl) ?_
  refine lv_iconst (v := 1) hx hb dL_law_178 (by decide) ?_
  refine n_add (j := i) (k := 1) hx hb dL_law_179 ?_
  refine l_sld hx hb hX hbl h (show i + 1 < L by omega) hL dL_law_180 ?_
  refine lv_aload_n hx hb dL_law_181 rfl (lv_at hl 0 rfl) ?_
  refine lv_iload_n hx hb dL_law_182 rfl (lv_at hl 3 rfl) ?_
  refine lv_iconst (v := 2) hx hb dL_law_183 (by decide) ?_
  refine n_add (j := i) (k := 2) hx hb dL_law_184 ?_
  refine l_sld hx hb hX hbl h (show i + 2 < L by omega) hL dL_law_185 ?_
  refine lv_aload_n hx hb dL_law_186 rfl (lv_at hl 0 rfl) ?_
  refine lv_iload_n hx hb dL_law_187 rfl (lv_at hl 3 rfl) ?_
  refine lv_iconst (v := 3) hx hb dL_law_188 (by decide) ?_
  refine n_add (j := i) (k := 3) hx hb dL_law_189 ?_
  refine l_sld hx hb hX hbl h (show i + 3 < L by omega) hL dL_law_190 ?_
  obtain ⟨q9, n9, hq4, hq, hn6, hn, _⟩ := id g.1.2.2.2.1
  refine l_i (wf := wX cy ax) (σ := σ) (wo := wM cy am μ) h (cvX cy ax σ) (wX_fst cy ax) (l_runV (wf := wX cy ax) (σ := σ) (As := [.int (xs (i + 1)), .int (xs (i + 2)), .int (xs (i + 3))]) (rest := []) E h (cvX cy ax σ) (c_X11_spring l D cy ax σ (xs (i + 1)) (xs (i + 2)) (xs (i + 3)) n9 hn hn6) co_X11_spring ml_L_18 im_X11_spring se_X11_spring in_X11 (eX_0 cy ax σ) rfl ok_X11_spring rfl ⟨by decide, by decide⟩ hl.1 rfl (Nat.le_of_ble_eq_true rfl) dL_law_191 ⟨Nat.le_refl _, Nat.le_refl _⟩) (fun r τ H locs pX h => ?_)
  refine lv_aload_n hx hb dL_law_194 rfl (lv_at hl 2 rfl) ?_
  refine lv_aload_n hx hb dL_law_195 rfl (lv_at hl 0 rfl) ?_
  refine lv_iload_n hx hb dL_law_196 rfl (lv_at hl 3 rfl) ?_
  refine lv_iconst (v := 1) hx hb dL_law_197 (by decide) ?_
  refine n_add (j := i) (k := 1) hx hb dL_law_198 ?_
  refine l_sld hx hb hX hbl h (show i + 1 < L by omega) hL dL_law_199 ?_
  refine lv_aload_n hx hb dL_law_200 rfl (lv_at hl 0 rfl) ?_
  refine lv_iload_n hx hb dL_law_201 rfl (lv_at hl 3 rfl) ?_
  refine lv_iconst (v := 2) hx hb dL_law_202 (by decide) ?_
  refine n_add (j := i) (k := 2) hx hb dL_law_203 ?_
  refine l_sld hx hb hX hbl h (show i + 2 < L by omega) hL dL_law_204 ?_
  refine lv_aload_n hx hb dL_law_205 rfl (lv_at hl 0 rfl) ?_
  refine lv_iload_n hx hb dL_law_206 rfl (lv_at hl 3 rfl) ?_
  refine lv_iconst (v := 3) hx hb dL_law_207 (by decide) ?_
  refine n_add (j := i) (k := 3) hx hb dL_law_208 ?_
  refine l_sld hx hb hX hbl h (show i + 3 < L by omega) hL dL_law_209 ?_
  refine l_i (wf := wM cy am) (σ := μ) (wo := wX cy ax τ) h.swap (cvM cy am μ) (wM_fst cy am) (l_runV (wf := wM cy am) (σ := μ) (As := [.int (xs (i + 1)), .int (xs (i + 2)), .int (xs (i + 3))]) (rest := [.int r]) E h.swap (cvM cy am μ) (c_X12_spring l D cy am μ (xs (i + 1)) (xs (i + 2)) (xs (i + 3)) q9 n9 ((g.2.2.1 (10, 3) (by decide)).symm.trans hq) hq4 ((g.2.2.1 (11, 4) (by decide)).symm.trans hn) hn6) co_X12_spring ml_L_22 im_X12_spring se_X12_spring in_X12 (eM_0 cy am μ) rfl ok_X12_spring rfl ⟨by decide, by decide⟩ hl.1 rfl (Nat.le_of_ble_eq_true rfl) dL_law_210 ⟨Nat.le_refl _, Nat.le_refl _⟩) (fun r2 ν H locs pM h => ?_)
  replace h := h.swap
  refine lv_icmp_eq (tgt := 1050) hx hb dL_law_213 (by decide) (fun c9 => ?_) (fun c9 => ?_)
  · exact kk τ ν H locs (st_spring (xs (i + 1)) (xs (i + 2)) (xs (i + 3)) q9 n9 hq hq4 hn hn6 g pX pM).1 h
  · exact absurd (st_spring (xs (i + 1)) (xs (i + 2)) (xs (i + 3)) q9 n9 hq hq4 hn hn6 g pX pM).2 c9

set_option maxHeartbeats 4000000 in
set_option maxRecDepth 100000 in
theorem lc_2 {p : Program} {e : Env} {s : State} {m : MethodId} {below : List Frame} {meth : Method} {c : Code} {Q : State → Prop} {D : va_G} {cy : Nat → ClassId} {ls : Array Slot} {H : Heap} {locs : List Loc} (l : Launch) {b L i : Nat} {xs : Nat → Int32} (ax am : Nat → Nat) (adK adV : Nat → Nat) (σ μ : St) (E : EV p s m c #[Value.ref b] cL_law RL 4 D cy) (hX : va_X b L xs s s.heap) (hbl : b < s.heap.size) (hz : SZ adK adV (LA s) s) (hL : L ≤ 3072) (hi : i + 6 ≤ L) (hl : lv_has ls 4 [(0, .ref b), (1, .ref (ax 0)), (2, .ref (am 0)), (3, .int (nI i))]) (h : HW D (LA s) s (wX cy ax σ ++ wM cy am μ) H locs) (g : INV σ μ)
    (kk : ∀ (τ ν : St) (H : Heap) (locs : List Loc), INV τ ν → HW D (LA s) s (wX cy ax τ ++ wM cy am ν) H locs → W p l e room_1 s m #[Value.ref b] below meth c H locs 600000 7302250 Q (F0 m 1050 ls [])) : W p l e room_1 s m #[Value.ref b] below meth c H locs 600000 7302250 Q (F0 m 218 ls []) := by
  have hx := E.1
  have hb := E.2.1
  refine lv_aload_n hx hb dL_law_218 rfl (lv_at hl 1 rfl) ?_
  refine lv_aload_n hx hb dL_law_219 rfl (lv_at hl 0 rfl) ?_
  refine lv_iload_n hx hb dL_law_220 rfl (lv_at hl 3 rfl) ?_
  refine lv_iconst (v := 1) hx hb dL_law_221 (by decide) ?_
  refine n_add (j := i) (k := 1) hx hb dL_law_222 ?_
  refine l_sld hx hb hX hbl h (show i + 1 < L by omega) hL dL_law_223 ?_
  refine lv_aload_n hx hb dL_law_224 rfl (lv_at hl 0 rfl) ?_
  refine lv_iload_n hx hb dL_law_225 rfl (lv_at hl 3 rfl) ?_
  refine lv_iconst (v := 2) hx hb dL_law_226 (by decide) ?_
  refine n_add (j := i) (k := 2) hx hb dL_law_227 ?_
  refine l_sld hx hb hX hbl h (show i + 2 < L by omega) hL dL_law_228 ?_
  refine lv_aload_n hx hb dL_law_229 rfl (lv_at hl 0 rfl) ?_
  refine lv_iload_n hx hb dL_law_230 rfl (lv_at hl 3 rfl) ?_
  refine lv_iconst (v := 3) hx hb dL_law_231 (by decide) ?_
  refine n_add (j := i) (k := 3) hx hb dL_law_232 ?_
  refine l_sld hx hb hX hbl h (show i + 3 < L by omega) hL dL_law_233 ?_
  obtain ⟨q9, _, hq4, hq, _⟩ := id g.1.2.2.2.1
  obtain ⟨n9, hn2, hn, _⟩ := id g.1.2.2.2.2.1
  refine l_i (wf := wX cy ax) (σ := σ) (wo := wM cy am μ) h (cvX cy ax σ) (wX_fst cy ax) (l_runV (wf := wX cy ax) (σ := σ) (As := [.int (xs (i + 1)), .int (xs (i + 2)), .int (xs (i + 3))]) (rest := []) E h (cvX cy ax σ) (c_X11_castle l D cy ax σ (xs (i + 1)) (xs (i + 2)) (xs (i + 3)) n9 g.1 hn hn2) co_X11_castle ml_L_23 im_X11_castle se_X11_castle in_X11 (eX_0 cy ax σ) rfl ok_X11_castle rfl ⟨by decide, by decide⟩ hl.1 rfl (Nat.le_of_ble_eq_true rfl) dL_law_234 ⟨Nat.le_refl _, Nat.le_refl _⟩) (fun r τ H locs pX h => ?_)
  refine lv_pop hx hb dL_law_237 rfl ?_
  refine lv_aload_n hx hb dL_law_238 rfl (lv_at hl 2 rfl) ?_
  refine lv_aload_n hx hb dL_law_239 rfl (lv_at hl 0 rfl) ?_
  refine lv_iload_n hx hb dL_law_240 rfl (lv_at hl 3 rfl) ?_
  refine lv_iconst (v := 1) hx hb dL_law_241 (by decide) ?_
  refine n_add (j := i) (k := 1) hx hb dL_law_242 ?_
  refine l_sld hx hb hX hbl h (show i + 1 < L by omega) hL dL_law_243 ?_
  refine lv_aload_n hx hb dL_law_244 rfl (lv_at hl 0 rfl) ?_
  refine lv_iload_n hx hb dL_law_245 rfl (lv_at hl 3 rfl) ?_
  refine lv_iconst (v := 2) hx hb dL_law_246 (by decide) ?_
  refine n_add (j := i) (k := 2) hx hb dL_law_247 ?_
  refine l_sld hx hb hX hbl h (show i + 2 < L by omega) hL dL_law_248 ?_
  refine lv_aload_n hx hb dL_law_249 rfl (lv_at hl 0 rfl) ?_
  refine lv_iload_n hx hb dL_law_250 rfl (lv_at hl 3 rfl) ?_
  refine lv_iconst (v := 3) hx hb dL_law_251 (by decide) ?_
  refine n_add (j := i) (k := 3) hx hb dL_law_252 ?_
  refine l_sld hx hb hX hbl h (show i + 3 < L by omega) hL dL_law_253 ?_
  refine l_i (wf := wM cy am) (σ := μ) (wo := wX cy ax τ) h.swap (cvM cy am μ) (wM_fst cy am) (l_runV (wf := wM cy am) (σ := μ) (As := [.int (xs (i + 1)), .int (xs (i + 2)), .int (xs (i + 3))]) (rest := []) E h.swap (cvM cy am μ) (c_X12_castle l D cy am μ (xs (i + 1)) (xs (i + 2)) (xs (i + 3)) q9 n9 ((g.2.2.1 (10, 3) (by decide)).symm.trans hq) hq4 ((g.2.2.1 (12, 5) (by decide)).symm.trans hn) hn2) co_X12_castle ml_L_26 im_X12_castle se_X12_castle in_X12 (eM_0 cy am μ) rfl ok_X12_castle rfl ⟨by decide, by decide⟩ hl.1 rfl (Nat.le_of_ble_eq_true rfl) dL_law_254 ⟨Nat.le_refl _, Nat.le_refl _⟩) (fun r2 ν H locs pM h => ?_)
  replace h := h.swap
  refine lv_pop hx hb dL_law_257 rfl ?_
  refine lv_goto (tgt := 1050) hx hb dL_law_258 (by decide) ?_
  exact kk τ ν H locs (st_castle (xs (i + 1)) (xs (i + 2)) (xs (i + 3)) q9 n9 hq hq4 hn hn2 g pX pM).1 h

set_option maxHeartbeats 4000000 in
set_option maxRecDepth 100000 in
theorem lc_3 {p : Program} {e : Env} {s : State} {m : MethodId} {below : List Frame} {meth : Method} {c : Code} {Q : State → Prop} {D : va_G} {cy : Nat → ClassId} {ls : Array Slot} {H : Heap} {locs : List Loc} (l : Launch) {b L i : Nat} {xs : Nat → Int32} (ax am : Nat → Nat) (adK adV : Nat → Nat) (σ μ : St) (E : EV p s m c #[Value.ref b] cL_law RL 4 D cy) (hX : va_X b L xs s s.heap) (hbl : b < s.heap.size) (hz : SZ adK adV (LA s) s) (hL : L ≤ 3072) (hi : i + 6 ≤ L) (hl : lv_has ls 4 [(0, .ref b), (1, .ref (ax 0)), (2, .ref (am 0)), (3, .int (nI i))]) (h : HW D (LA s) s (wX cy ax σ ++ wM cy am μ) H locs) (g : INV σ μ)
    (kk : ∀ (τ ν : St) (H : Heap) (locs : List Loc), INV τ ν → HW D (LA s) s (wX cy ax τ ++ wM cy am ν) H locs → W p l e room_1 s m #[Value.ref b] below meth c H locs 600000 7302250 Q (F0 m 1050 ls [])) : W p l e room_1 s m #[Value.ref b] below meth c H locs 600000 7302250 Q (F0 m 261 ls []) := by
  have hx := E.1
  have hb := E.2.1
  refine lv_aload_n hx hb dL_law_261 rfl (lv_at hl 1 rfl) ?_
  obtain ⟨n9, hn4, hn⟩ := id g.1.2.2.2.2.2.2.1.2.2.2
  refine l_i (wf := wX cy ax) (σ := σ) (wo := wM cy am μ) h (cvX cy ax σ) (wX_fst cy ax) (l_runV (wf := wX cy ax) (σ := σ) (As := []) (rest := []) E h (cvX cy ax σ) (c_X11_person l D cy ax σ  n9 hn hn4) co_X11_person ml_L_27 im_X11_person se_X11_person in_X11 (eX_0 cy ax σ) rfl ok_X11_person rfl ⟨by decide, by decide⟩ hl.1 rfl (Nat.le_of_ble_eq_true rfl) dL_law_262 ⟨Nat.le_refl _, Nat.le_refl _⟩) (fun r τ H locs pX h => ?_)
  refine lv_pop hx hb dL_law_265 rfl ?_
  refine lv_aload_n hx hb dL_law_266 rfl (lv_at hl 2 rfl) ?_
  refine l_i (wf := wM cy am) (σ := μ) (wo := wX cy ax τ) h.swap (cvM cy am μ) (wM_fst cy am) (l_runV (wf := wM cy am) (σ := μ) (As := []) (rest := []) E h.swap (cvM cy am μ) (c_X12_person l D cy am μ  n9 ((g.2.2.1 (0, 6) (by decide)).symm.trans hn) hn4) co_X12_person ml_L_31 im_X12_person se_X12_person in_X12 (eM_0 cy am μ) rfl ok_X12_person rfl ⟨by decide, by decide⟩ hl.1 rfl (Nat.le_of_ble_eq_true rfl) dL_law_267 ⟨Nat.le_refl _, Nat.le_refl _⟩) (fun r2 ν H locs pM h => ?_)
  replace h := h.swap
  refine lv_pop hx hb dL_law_270 rfl ?_
  refine lv_goto (tgt := 1050) hx hb dL_law_271 (by decide) ?_
  exact kk τ ν H locs (st_person n9 hn4 g pX pM).1 h

set_option maxHeartbeats 4000000 in
set_option maxRecDepth 100000 in
theorem lc_4 {p : Program} {e : Env} {s : State} {m : MethodId} {below : List Frame} {meth : Method} {c : Code} {Q : State → Prop} {D : va_G} {cy : Nat → ClassId} {ls : Array Slot} {H : Heap} {locs : List Loc} (l : Launch) {b L i : Nat} {xs : Nat → Int32} (ax am : Nat → Nat) (adK adV : Nat → Nat) (σ μ : St) (E : EV p s m c #[Value.ref b] cL_law RL 4 D cy) (hX : va_X b L xs s s.heap) (hbl : b < s.heap.size) (hz : SZ adK adV (LA s) s) (hL : L ≤ 3072) (hi : i + 6 ≤ L) (hl : lv_has ls 4 [(0, .ref b), (1, .ref (ax 0)), (2, .ref (am 0)), (3, .int (nI i))]) (h : HW D (LA s) s (wX cy ax σ ++ wM cy am μ) H locs) (g : INV σ μ)
    (kk : ∀ (τ ν : St) (H : Heap) (locs : List Loc), INV τ ν → HW D (LA s) s (wX cy ax τ ++ wM cy am ν) H locs → W p l e room_1 s m #[Value.ref b] below meth c H locs 600000 7302250 Q (F0 m 1050 ls [])) : W p l e room_1 s m #[Value.ref b] below meth c H locs 600000 7302250 Q (F0 m 274 ls []) := by
  have hx := E.1
  have hb := E.2.1
  refine lv_aload_n hx hb dL_law_274 rfl (lv_at hl 1 rfl) ?_
  refine lv_aload_n hx hb dL_law_275 rfl (lv_at hl 0 rfl) ?_
  refine lv_iload_n hx hb dL_law_276 rfl (lv_at hl 3 rfl) ?_
  refine lv_iconst (v := 1) hx hb dL_law_277 (by decide) ?_
  refine n_add (j := i) (k := 1) hx hb dL_law_278 ?_
  refine l_sld hx hb hX hbl h (show i + 1 < L by omega) hL dL_law_279 ?_
  refine lv_aload_n hx hb dL_law_280 rfl (lv_at hl 0 rfl) ?_
  refine lv_iload_n hx hb dL_law_281 rfl (lv_at hl 3 rfl) ?_
  refine lv_iconst (v := 2) hx hb dL_law_282 (by decide) ?_
  refine n_add (j := i) (k := 2) hx hb dL_law_283 ?_
  refine l_sld hx hb hX hbl h (show i + 2 < L by omega) hL dL_law_284 ?_
  refine lv_aload_n hx hb dL_law_285 rfl (lv_at hl 0 rfl) ?_
  refine lv_iload_n hx hb dL_law_286 rfl (lv_at hl 3 rfl) ?_
  refine lv_iconst (v := 3) hx hb dL_law_287 (by decide) ?_
  refine n_add (j := i) (k := 3) hx hb dL_law_288 ?_
  refine l_sld hx hb hX hbl h (show i + 3 < L by omega) hL dL_law_289 ?_
  obtain ⟨q9, hq4, hq⟩ := id g.1.2.2.2.2.2.2.1.2.2.2
  obtain ⟨n9, hn6, hn, _⟩ := id g.1.2.2.1
  refine l_i (wf := wX cy ax) (σ := σ) (wo := wM cy am μ) h (cvX cy ax σ) (wX_fst cy ax) (l_runV (wf := wX cy ax) (σ := σ) (As := [.int (xs (i + 1)), .int (xs (i + 2)), .int (xs (i + 3))]) (rest := []) E h (cvX cy ax σ) (c_X11_death l D cy ax σ (xs (i + 1)) (xs (i + 2)) (xs (i + 3)) n9 hn hn6) co_X11_death ml_L_32 im_X11_death se_X11_death in_X11 (eX_0 cy ax σ) rfl ok_X11_death rfl ⟨by decide, by decide⟩ hl.1 rfl (Nat.le_of_ble_eq_true rfl) dL_law_290 ⟨Nat.le_refl _, Nat.le_refl _⟩) (fun r τ H locs pX h => ?_)
  refine lv_pop hx hb dL_law_293 rfl ?_
  refine lv_aload_n hx hb dL_law_294 rfl (lv_at hl 2 rfl) ?_
  refine lv_aload_n hx hb dL_law_295 rfl (lv_at hl 0 rfl) ?_
  refine lv_iload_n hx hb dL_law_296 rfl (lv_at hl 3 rfl) ?_
  refine lv_iconst (v := 1) hx hb dL_law_297 (by decide) ?_
  refine n_add (j := i) (k := 1) hx hb dL_law_298 ?_
  refine l_sld hx hb hX hbl h (show i + 1 < L by omega) hL dL_law_299 ?_
  refine lv_aload_n hx hb dL_law_300 rfl (lv_at hl 0 rfl) ?_
  refine lv_iload_n hx hb dL_law_301 rfl (lv_at hl 3 rfl) ?_
  refine lv_iconst (v := 2) hx hb dL_law_302 (by decide) ?_
  refine n_add (j := i) (k := 2) hx hb dL_law_303 ?_
  refine l_sld hx hb hX hbl h (show i + 2 < L by omega) hL dL_law_304 ?_
  refine lv_aload_n hx hb dL_law_305 rfl (lv_at hl 0 rfl) ?_
  refine lv_iload_n hx hb dL_law_306 rfl (lv_at hl 3 rfl) ?_
  refine lv_iconst (v := 3) hx hb dL_law_307 (by decide) ?_
  refine n_add (j := i) (k := 3) hx hb dL_law_308 ?_
  refine l_sld hx hb hX hbl h (show i + 3 < L by omega) hL dL_law_309 ?_
  refine l_i (wf := wM cy am) (σ := μ) (wo := wX cy ax τ) h.swap (cvM cy am μ) (wM_fst cy am) (l_runV (wf := wM cy am) (σ := μ) (As := [.int (xs (i + 1)), .int (xs (i + 2)), .int (xs (i + 3))]) (rest := []) E h.swap (cvM cy am μ) (c_X12_death l D cy am μ (xs (i + 1)) (xs (i + 2)) (xs (i + 3)) q9 n9 ((g.2.2.1 (0, 6) (by decide)).symm.trans hq) hq4 ((g.2.2.1 (9, 7) (by decide)).symm.trans hn) hn6) co_X12_death ml_L_35 im_X12_death se_X12_death in_X12 (eM_0 cy am μ) rfl ok_X12_death rfl ⟨by decide, by decide⟩ hl.1 rfl (Nat.le_of_ble_eq_true rfl) dL_law_310 ⟨Nat.le_refl _, Nat.le_refl _⟩) (fun r2 ν H locs pM h => ?_)
  replace h := h.swap
  refine lv_pop hx hb dL_law_313 rfl ?_
  refine lv_goto (tgt := 1050) hx hb dL_law_314 (by decide) ?_
  exact kk τ ν H locs (st_death (xs (i + 1)) (xs (i + 2)) (xs (i + 3)) q9 n9 hq hq4 hn hn6 g pX pM).1 h

set_option maxHeartbeats 4000000 in
set_option maxRecDepth 100000 in
theorem lc_5 {p : Program} {e : Env} {s : State} {m : MethodId} {below : List Frame} {meth : Method} {c : Code} {Q : State → Prop} {D : va_G} {cy : Nat → ClassId} {ls : Array Slot} {H : Heap} {locs : List Loc} (l : Launch) {b L i : Nat} {xs : Nat → Int32} (ax am : Nat → Nat) (adK adV : Nat → Nat) (σ μ : St) (E : EV p s m c #[Value.ref b] cL_law RL 4 D cy) (hX : va_X b L xs s s.heap) (hbl : b < s.heap.size) (hz : SZ adK adV (LA s) s) (hL : L ≤ 3072) (hi : i + 6 ≤ L) (hl : lv_has ls 4 [(0, .ref b), (1, .ref (ax 0)), (2, .ref (am 0)), (3, .int (nI i))]) (h : HW D (LA s) s (wX cy ax σ ++ wM cy am μ) H locs) (g : INV σ μ)
    (kk : ∀ (τ ν : St) (H : Heap) (locs : List Loc), INV τ ν → HW D (LA s) s (wX cy ax τ ++ wM cy am ν) H locs → W p l e room_1 s m #[Value.ref b] below meth c H locs 600000 7302250 Q (F0 m 1050 ls [])) : W p l e room_1 s m #[Value.ref b] below meth c H locs 600000 7302250 Q (F0 m 317 ls []) := by
  have hx := E.1
  have hb := E.2.1
  refine lv_aload_n hx hb dL_law_317 rfl (lv_at hl 1 rfl) ?_
  refine lv_aload_n hx hb dL_law_318 rfl (lv_at hl 0 rfl) ?_
  refine lv_iload_n hx hb dL_law_319 rfl (lv_at hl 3 rfl) ?_
  refine lv_iconst (v := 1) hx hb dL_law_320 (by decide) ?_
  refine n_add (j := i) (k := 1) hx hb dL_law_321 ?_
  refine l_sld hx hb hX hbl h (show i + 1 < L by omega) hL dL_law_322 ?_
  refine lv_aload_n hx hb dL_law_323 rfl (lv_at hl 0 rfl) ?_
  refine lv_iload_n hx hb dL_law_324 rfl (lv_at hl 3 rfl) ?_
  refine lv_iconst (v := 2) hx hb dL_law_325 (by decide) ?_
  refine n_add (j := i) (k := 2) hx hb dL_law_326 ?_
  refine l_sld hx hb hX hbl h (show i + 2 < L by omega) hL dL_law_327 ?_
  refine lv_aload_n hx hb dL_law_328 rfl (lv_at hl 0 rfl) ?_
  refine lv_iload_n hx hb dL_law_329 rfl (lv_at hl 3 rfl) ?_
  refine lv_iconst (v := 3) hx hb dL_law_330 (by decide) ?_
  refine n_add (j := i) (k := 3) hx hb dL_law_331 ?_
  refine l_sld hx hb hX hbl h (show i + 3 < L by omega) hL dL_law_332 ?_
  refine lv_aload_n hx hb dL_law_333 rfl (lv_at hl 0 rfl) ?_
  refine lv_iload_n hx hb dL_law_334 rfl (lv_at hl 3 rfl) ?_
  refine lv_iconst (v := 4) hx hb dL_law_335 (by decide) ?_
  refine n_add (j := i) (k := 4) hx hb dL_law_336 ?_
  refine l_sld hx hb hX hbl h (show i + 4 < L by omega) hL dL_law_337 ?_
  refine l_i (wf := wX cy ax) (σ := σ) (wo := wM cy am μ) h (cvX cy ax σ) (wX_fst cy ax) (l_runV (wf := wX cy ax) (σ := σ) (As := [.int (xs (i + 1)), .int (xs (i + 2)), .int (xs (i + 3)), .int (xs (i + 4))]) (rest := []) E h (cvX cy ax σ) (c_X11_nozzle l D cy ax σ (xs (i + 1)) (xs (i + 2)) (xs (i + 3)) (xs (i + 4)) g.1) co_X11_nozzle ml_L_36 im_X11_nozzle se_X11_nozzle in_X11 (eX_0 cy ax σ) rfl ok_X11_nozzle rfl ⟨by decide, by decide⟩ hl.1 rfl (Nat.le_of_ble_eq_true rfl) dL_law_338 ⟨Nat.le_refl _, Nat.le_refl _⟩) (fun r τ H locs pX h => ?_)
  refine lv_pop hx hb dL_law_341 rfl ?_
  refine lv_aload_n hx hb dL_law_342 rfl (lv_at hl 2 rfl) ?_
  refine lv_aload_n hx hb dL_law_343 rfl (lv_at hl 0 rfl) ?_
  refine lv_iload_n hx hb dL_law_344 rfl (lv_at hl 3 rfl) ?_
  refine lv_iconst (v := 1) hx hb dL_law_345 (by decide) ?_
  refine n_add (j := i) (k := 1) hx hb dL_law_346 ?_
  refine l_sld hx hb hX hbl h (show i + 1 < L by omega) hL dL_law_347 ?_
  refine lv_aload_n hx hb dL_law_348 rfl (lv_at hl 0 rfl) ?_
  refine lv_iload_n hx hb dL_law_349 rfl (lv_at hl 3 rfl) ?_
  refine lv_iconst (v := 2) hx hb dL_law_350 (by decide) ?_
  refine n_add (j := i) (k := 2) hx hb dL_law_351 ?_
  refine l_sld hx hb hX hbl h (show i + 2 < L by omega) hL dL_law_352 ?_
  refine lv_aload_n hx hb dL_law_353 rfl (lv_at hl 0 rfl) ?_
  refine lv_iload_n hx hb dL_law_354 rfl (lv_at hl 3 rfl) ?_
  refine lv_iconst (v := 3) hx hb dL_law_355 (by decide) ?_
  refine n_add (j := i) (k := 3) hx hb dL_law_356 ?_
  refine l_sld hx hb hX hbl h (show i + 3 < L by omega) hL dL_law_357 ?_
  refine lv_aload_n hx hb dL_law_358 rfl (lv_at hl 0 rfl) ?_
  refine lv_iload_n hx hb dL_law_359 rfl (lv_at hl 3 rfl) ?_
  refine lv_iconst (v := 4) hx hb dL_law_360 (by decide) ?_
  refine n_add (j := i) (k := 4) hx hb dL_law_361 ?_
  refine l_sld hx hb hX hbl h (show i + 4 < L by omega) hL dL_law_362 ?_
  refine l_i (wf := wM cy am) (σ := μ) (wo := wX cy ax τ) h.swap (cvM cy am μ) (wM_fst cy am) (l_runV (wf := wM cy am) (σ := μ) (As := [.int (xs (i + 1)), .int (xs (i + 2)), .int (xs (i + 3)), .int (xs (i + 4))]) (rest := []) E h.swap (cvM cy am μ) (c_X12_nozzle l D cy am μ (xs (i + 1)) (xs (i + 2)) (xs (i + 3)) (xs (i + 4)) g.2.1) co_X12_nozzle ml_L_40 im_X12_nozzle se_X12_nozzle in_X12 (eM_0 cy am μ) rfl ok_X12_nozzle rfl ⟨by decide, by decide⟩ hl.1 rfl (Nat.le_of_ble_eq_true rfl) dL_law_363 ⟨Nat.le_refl _, Nat.le_refl _⟩) (fun r2 ν H locs pM h => ?_)
  replace h := h.swap
  refine lv_pop hx hb dL_law_366 rfl ?_
  refine lv_goto (tgt := 1050) hx hb dL_law_367 (by decide) ?_
  exact kk τ ν H locs (st_nozzle g pX pM) h

set_option maxHeartbeats 4000000 in
set_option maxRecDepth 100000 in
theorem lc_6 {p : Program} {e : Env} {s : State} {m : MethodId} {below : List Frame} {meth : Method} {c : Code} {Q : State → Prop} {D : va_G} {cy : Nat → ClassId} {ls : Array Slot} {H : Heap} {locs : List Loc} (l : Launch) {b L i : Nat} {xs : Nat → Int32} (ax am : Nat → Nat) (adK adV : Nat → Nat) (σ μ : St) (E : EV p s m c #[Value.ref b] cL_law RL 4 D cy) (hX : va_X b L xs s s.heap) (hbl : b < s.heap.size) (hz : SZ adK adV (LA s) s) (hL : L ≤ 3072) (hi : i + 6 ≤ L) (hl : lv_has ls 4 [(0, .ref b), (1, .ref (ax 0)), (2, .ref (am 0)), (3, .int (nI i))]) (h : HW D (LA s) s (wX cy ax σ ++ wM cy am μ) H locs) (g : INV σ μ)
    (kk : ∀ (τ ν : St) (H : Heap) (locs : List Loc), INV τ ν → HW D (LA s) s (wX cy ax τ ++ wM cy am ν) H locs → W p l e room_1 s m #[Value.ref b] below meth c H locs 600000 7302250 Q (F0 m 1050 ls [])) : W p l e room_1 s m #[Value.ref b] below meth c H locs 600000 7302250 Q (F0 m 370 ls []) := by
  have hx := E.1
  have hb := E.2.1
  refine lv_aload_n hx hb dL_law_370 rfl (lv_at hl 1 rfl) ?_
  refine lv_aload_n hx hb dL_law_371 rfl (lv_at hl 0 rfl) ?_
  refine lv_iload_n hx hb dL_law_372 rfl (lv_at hl 3 rfl) ?_
  refine lv_iconst (v := 1) hx hb dL_law_373 (by decide) ?_
  refine n_add (j := i) (k := 1) hx hb dL_law_374 ?_
  refine l_sld hx hb hX hbl h (show i + 1 < L by omega) hL dL_law_375 ?_
  refine l_i (wf := wX cy ax) (σ := σ) (wo := wM cy am μ) h (cvX cy ax σ) (wX_fst cy ax) (l_runV (wf := wX cy ax) (σ := σ) (As := [.int (xs (i + 1))]) (rest := []) E h (cvX cy ax σ) (c_X11_shut l D cy ax σ (xs (i + 1)) g.1) co_X11_shut ml_L_41 im_X11_shut se_X11_shut in_X11 (eX_0 cy ax σ) rfl ok_X11_shut rfl ⟨by decide, by decide⟩ hl.1 rfl (Nat.le_of_ble_eq_true rfl) dL_law_376 ⟨Nat.le_refl _, Nat.le_refl _⟩) (fun r τ H locs pX h => ?_)
  refine lv_pop hx hb dL_law_379 rfl ?_
  refine lv_aload_n hx hb dL_law_380 rfl (lv_at hl 2 rfl) ?_
  refine lv_aload_n hx hb dL_law_381 rfl (lv_at hl 0 rfl) ?_
  refine lv_iload_n hx hb dL_law_382 rfl (lv_at hl 3 rfl) ?_
  refine lv_iconst (v := 1) hx hb dL_law_383 (by decide) ?_
  refine n_add (j := i) (k := 1) hx hb dL_law_384 ?_
  refine l_sld hx hb hX hbl h (show i + 1 < L by omega) hL dL_law_385 ?_
  refine l_i (wf := wM cy am) (σ := μ) (wo := wX cy ax τ) h.swap (cvM cy am μ) (wM_fst cy am) (l_runV (wf := wM cy am) (σ := μ) (As := [.int (xs (i + 1))]) (rest := []) E h.swap (cvM cy am μ) (c_X12_shut l D cy am μ (xs (i + 1)) g.2.1) co_X12_shut ml_L_44 im_X12_shut se_X12_shut in_X12 (eM_0 cy am μ) rfl ok_X12_shut rfl ⟨by decide, by decide⟩ hl.1 rfl (Nat.le_of_ble_eq_true rfl) dL_law_386 ⟨Nat.le_refl _, Nat.le_refl _⟩) (fun r2 ν H locs pM h => ?_)
  replace h := h.swap
  refine lv_pop hx hb dL_law_389 rfl ?_
  refine lv_goto (tgt := 1050) hx hb dL_law_390 (by decide) ?_
  exact kk τ ν H locs (st_shut g pX pM) h

set_option maxHeartbeats 4000000 in
set_option maxRecDepth 100000 in
theorem lc_7 {p : Program} {e : Env} {s : State} {m : MethodId} {below : List Frame} {meth : Method} {c : Code} {Q : State → Prop} {D : va_G} {cy : Nat → ClassId} {ls : Array Slot} {H : Heap} {locs : List Loc} (l : Launch) {b L i : Nat} {xs : Nat → Int32} (ax am : Nat → Nat) (adK adV : Nat → Nat) (σ μ : St) (E : EV p s m c #[Value.ref b] cL_law RL 4 D cy) (hX : va_X b L xs s s.heap) (hbl : b < s.heap.size) (hz : SZ adK adV (LA s) s) (hL : L ≤ 3072) (hi : i + 6 ≤ L) (hl : lv_has ls 4 [(0, .ref b), (1, .ref (ax 0)), (2, .ref (am 0)), (3, .int (nI i))]) (h : HW D (LA s) s (wX cy ax σ ++ wM cy am μ) H locs) (g : INV σ μ)
    (kk : ∀ (τ ν : St) (H : Heap) (locs : List Loc), INV τ ν → HW D (LA s) s (wX cy ax τ ++ wM cy am ν) H locs → W p l e room_1 s m #[Value.ref b] below meth c H locs 600000 7302250 Q (F0 m 1050 ls [])) : W p l e room_1 s m #[Value.ref b] below meth c H locs 600000 7302250 Q (F0 m 393 ls []) := by
  have hx := E.1
  have hb := E.2.1
  refine lv_aload_n hx hb dL_law_393 rfl (lv_at hl 1 rfl) ?_
  refine lv_aload_n hx hb dL_law_394 rfl (lv_at hl 0 rfl) ?_
  refine lv_iload_n hx hb dL_law_395 rfl (lv_at hl 3 rfl) ?_
  refine lv_iconst (v := 1) hx hb dL_law_396 (by decide) ?_
  refine n_add (j := i) (k := 1) hx hb dL_law_397 ?_
  refine l_sld hx hb hX hbl h (show i + 1 < L by omega) hL dL_law_398 ?_
  refine lv_aload_n hx hb dL_law_399 rfl (lv_at hl 0 rfl) ?_
  refine lv_iload_n hx hb dL_law_400 rfl (lv_at hl 3 rfl) ?_
  refine lv_iconst (v := 2) hx hb dL_law_401 (by decide) ?_
  refine n_add (j := i) (k := 2) hx hb dL_law_402 ?_
  refine l_sld hx hb hX hbl h (show i + 2 < L by omega) hL dL_law_403 ?_
  refine lv_aload_n hx hb dL_law_404 rfl (lv_at hl 0 rfl) ?_
  refine lv_iload_n hx hb dL_law_405 rfl (lv_at hl 3 rfl) ?_
  refine lv_iconst (v := 3) hx hb dL_law_406 (by decide) ?_
  refine n_add (j := i) (k := 3) hx hb dL_law_407 ?_
  refine l_sld hx hb hX hbl h (show i + 3 < L by omega) hL dL_law_408 ?_
  refine lv_aload_n hx hb dL_law_409 rfl (lv_at hl 0 rfl) ?_
  refine lv_iload_n hx hb dL_law_410 rfl (lv_at hl 3 rfl) ?_
  refine lv_iconst (v := 4) hx hb dL_law_411 (by decide) ?_
  refine n_add (j := i) (k := 4) hx hb dL_law_412 ?_
  refine l_sld hx hb hX hbl h (show i + 4 < L by omega) hL dL_law_413 ?_
  obtain ⟨q9, hq4, hq, _⟩ := id g.1.2.2.2.2.1
  obtain ⟨n9, hn6, hn⟩ := id g.1.2.2.2.2.2.2.1.1
  refine l_i (wf := wX cy ax) (σ := σ) (wo := wM cy am μ) h (cvX cy ax σ) (wX_fst cy ax) (l_runV (wf := wX cy ax) (σ := σ) (As := [.int (xs (i + 1)), .int (xs (i + 2)), .int (xs (i + 3)), .int (xs (i + 4))]) (rest := []) E h (cvX cy ax σ) (c_X11_tap l D cy ax σ (xs (i + 1)) (xs (i + 2)) (xs (i + 3)) (xs (i + 4)) n9 g.1 hn hn6) co_X11_tap ml_L_45 im_X11_tap se_X11_tap in_X11 (eX_0 cy ax σ) rfl ok_X11_tap rfl ⟨by decide, by decide⟩ hl.1 rfl (Nat.le_of_ble_eq_true rfl) dL_law_414 ⟨Nat.le_refl _, Nat.le_refl _⟩) (fun r τ H locs pX h => ?_)
  refine lv_pop hx hb dL_law_417 rfl ?_
  refine lv_aload_n hx hb dL_law_418 rfl (lv_at hl 2 rfl) ?_
  refine lv_aload_n hx hb dL_law_419 rfl (lv_at hl 0 rfl) ?_
  refine lv_iload_n hx hb dL_law_420 rfl (lv_at hl 3 rfl) ?_
  refine lv_iconst (v := 1) hx hb dL_law_421 (by decide) ?_
  refine n_add (j := i) (k := 1) hx hb dL_law_422 ?_
  refine l_sld hx hb hX hbl h (show i + 1 < L by omega) hL dL_law_423 ?_
  refine lv_aload_n hx hb dL_law_424 rfl (lv_at hl 0 rfl) ?_
  refine lv_iload_n hx hb dL_law_425 rfl (lv_at hl 3 rfl) ?_
  refine lv_iconst (v := 2) hx hb dL_law_426 (by decide) ?_
  refine n_add (j := i) (k := 2) hx hb dL_law_427 ?_
  refine l_sld hx hb hX hbl h (show i + 2 < L by omega) hL dL_law_428 ?_
  refine lv_aload_n hx hb dL_law_429 rfl (lv_at hl 0 rfl) ?_
  refine lv_iload_n hx hb dL_law_430 rfl (lv_at hl 3 rfl) ?_
  refine lv_iconst (v := 3) hx hb dL_law_431 (by decide) ?_
  refine n_add (j := i) (k := 3) hx hb dL_law_432 ?_
  refine l_sld hx hb hX hbl h (show i + 3 < L by omega) hL dL_law_433 ?_
  refine lv_aload_n hx hb dL_law_434 rfl (lv_at hl 0 rfl) ?_
  refine lv_iload_n hx hb dL_law_435 rfl (lv_at hl 3 rfl) ?_
  refine lv_iconst (v := 4) hx hb dL_law_436 (by decide) ?_
  refine n_add (j := i) (k := 4) hx hb dL_law_437 ?_
  refine l_sld hx hb hX hbl h (show i + 4 < L by omega) hL dL_law_438 ?_
  refine l_i (wf := wM cy am) (σ := μ) (wo := wX cy ax τ) h.swap (cvM cy am μ) (wM_fst cy am) (l_runV (wf := wM cy am) (σ := μ) (As := [.int (xs (i + 1)), .int (xs (i + 2)), .int (xs (i + 3)), .int (xs (i + 4))]) (rest := []) E h.swap (cvM cy am μ) (c_X12_tap l D cy am μ (xs (i + 1)) (xs (i + 2)) (xs (i + 3)) (xs (i + 4)) q9 n9 ((g.2.2.1 (12, 5) (by decide)).symm.trans hq) hq4 ((g.2.2.1 (14, 9) (by decide)).symm.trans hn) hn6) co_X12_tap ml_L_48 im_X12_tap se_X12_tap in_X12 (eM_0 cy am μ) rfl ok_X12_tap rfl ⟨by decide, by decide⟩ hl.1 rfl (Nat.le_of_ble_eq_true rfl) dL_law_439 ⟨Nat.le_refl _, Nat.le_refl _⟩) (fun r2 ν H locs pM h => ?_)
  replace h := h.swap
  refine lv_pop hx hb dL_law_442 rfl ?_
  refine lv_goto (tgt := 1050) hx hb dL_law_443 (by decide) ?_
  exact kk τ ν H locs (st_tap (xs (i + 1)) (xs (i + 2)) (xs (i + 3)) (xs (i + 4)) q9 n9 hq g pX pM).1 h

set_option maxHeartbeats 4000000 in
set_option maxRecDepth 100000 in
theorem lc_8 {p : Program} {e : Env} {s : State} {m : MethodId} {below : List Frame} {meth : Method} {c : Code} {Q : State → Prop} {D : va_G} {cy : Nat → ClassId} {ls : Array Slot} {H : Heap} {locs : List Loc} (l : Launch) {b L i : Nat} {xs : Nat → Int32} (ax am : Nat → Nat) (adK adV : Nat → Nat) (σ μ : St) (E : EV p s m c #[Value.ref b] cL_law RL 4 D cy) (hX : va_X b L xs s s.heap) (hbl : b < s.heap.size) (hz : SZ adK adV (LA s) s) (hL : L ≤ 3072) (hi : i + 6 ≤ L) (hl : lv_has ls 4 [(0, .ref b), (1, .ref (ax 0)), (2, .ref (am 0)), (3, .int (nI i))]) (h : HW D (LA s) s (wX cy ax σ ++ wM cy am μ) H locs) (g : INV σ μ)
    (kk : ∀ (τ ν : St) (H : Heap) (locs : List Loc), INV τ ν → HW D (LA s) s (wX cy ax τ ++ wM cy am ν) H locs → W p l e room_1 s m #[Value.ref b] below meth c H locs 600000 7302250 Q (F0 m 1050 ls [])) : W p l e room_1 s m #[Value.ref b] below meth c H locs 600000 7302250 Q (F0 m 446 ls []) := by
  have hx := E.1
  have hb := E.2.1
  refine lv_aload_n hx hb dL_law_446 rfl (lv_at hl 1 rfl) ?_
  refine lv_aload_n hx hb dL_law_447 rfl (lv_at hl 0 rfl) ?_
  refine lv_iload_n hx hb dL_law_448 rfl (lv_at hl 3 rfl) ?_
  refine lv_iconst (v := 1) hx hb dL_law_449 (by decide) ?_
  refine n_add (j := i) (k := 1) hx hb dL_law_450 ?_
  refine l_sld hx hb hX hbl h (show i + 1 < L by omega) hL dL_law_451 ?_
  refine lv_aload_n hx hb dL_law_452 rfl (lv_at hl 0 rfl) ?_
  refine lv_iload_n hx hb dL_law_453 rfl (lv_at hl 3 rfl) ?_
  refine lv_iconst (v := 2) hx hb dL_law_454 (by decide) ?_
  refine n_add (j := i) (k := 2) hx hb dL_law_455 ?_
  refine l_sld hx hb hX hbl h (show i + 2 < L by omega) hL dL_law_456 ?_
  refine lv_aload_n hx hb dL_law_457 rfl (lv_at hl 0 rfl) ?_
  refine lv_iload_n hx hb dL_law_458 rfl (lv_at hl 3 rfl) ?_
  refine lv_iconst (v := 3) hx hb dL_law_459 (by decide) ?_
  refine n_add (j := i) (k := 3) hx hb dL_law_460 ?_
  refine l_sld hx hb hX hbl h (show i + 3 < L by omega) hL dL_law_461 ?_
  obtain ⟨q9, hq4, hq, _⟩ := id g.1.2.2.2.2.1
  obtain ⟨n9, hn6, hn⟩ := id g.1.2.2.2.2.2.2.1.2.1
  refine l_i (wf := wX cy ax) (σ := σ) (wo := wM cy am μ) h (cvX cy ax σ) (wX_fst cy ax) (l_runV (wf := wX cy ax) (σ := σ) (As := [.int (xs (i + 1)), .int (xs (i + 2)), .int (xs (i + 3))]) (rest := []) E h (cvX cy ax σ) (c_X11_repair l D cy ax σ (xs (i + 1)) (xs (i + 2)) (xs (i + 3)) n9 g.1 hn hn6) co_X11_repair ml_L_49 im_X11_repair se_X11_repair in_X11 (eX_0 cy ax σ) rfl ok_X11_repair rfl ⟨by decide, by decide⟩ hl.1 rfl (Nat.le_of_ble_eq_true rfl) dL_law_462 ⟨Nat.le_refl _, Nat.le_refl _⟩) (fun r τ H locs pX h => ?_)
  refine lv_pop hx hb dL_law_465 rfl ?_
  refine lv_aload_n hx hb dL_law_466 rfl (lv_at hl 2 rfl) ?_
  refine lv_aload_n hx hb dL_law_467 rfl (lv_at hl 0 rfl) ?_
  refine lv_iload_n hx hb dL_law_468 rfl (lv_at hl 3 rfl) ?_
  refine lv_iconst (v := 1) hx hb dL_law_469 (by decide) ?_
  refine n_add (j := i) (k := 1) hx hb dL_law_470 ?_
  refine l_sld hx hb hX hbl h (show i + 1 < L by omega) hL dL_law_471 ?_
  refine lv_aload_n hx hb dL_law_472 rfl (lv_at hl 0 rfl) ?_
  refine lv_iload_n hx hb dL_law_473 rfl (lv_at hl 3 rfl) ?_
  refine lv_iconst (v := 2) hx hb dL_law_474 (by decide) ?_
  refine n_add (j := i) (k := 2) hx hb dL_law_475 ?_
  refine l_sld hx hb hX hbl h (show i + 2 < L by omega) hL dL_law_476 ?_
  refine lv_aload_n hx hb dL_law_477 rfl (lv_at hl 0 rfl) ?_
  refine lv_iload_n hx hb dL_law_478 rfl (lv_at hl 3 rfl) ?_
  refine lv_iconst (v := 3) hx hb dL_law_479 (by decide) ?_
  refine n_add (j := i) (k := 3) hx hb dL_law_480 ?_
  refine l_sld hx hb hX hbl h (show i + 3 < L by omega) hL dL_law_481 ?_
  refine l_i (wf := wM cy am) (σ := μ) (wo := wX cy ax τ) h.swap (cvM cy am μ) (wM_fst cy am) (l_runV (wf := wM cy am) (σ := μ) (As := [.int (xs (i + 1)), .int (xs (i + 2)), .int (xs (i + 3))]) (rest := []) E h.swap (cvM cy am μ) (c_X12_repair l D cy am μ (xs (i + 1)) (xs (i + 2)) (xs (i + 3)) q9 n9 ((g.2.2.1 (12, 5) (by decide)).symm.trans hq) hq4 ((g.2.2.1 (15, 10) (by decide)).symm.trans hn) hn6) co_X12_repair ml_L_52 im_X12_repair se_X12_repair in_X12 (eM_0 cy am μ) rfl ok_X12_repair rfl ⟨by decide, by decide⟩ hl.1 rfl (Nat.le_of_ble_eq_true rfl) dL_law_482 ⟨Nat.le_refl _, Nat.le_refl _⟩) (fun r2 ν H locs pM h => ?_)
  replace h := h.swap
  refine lv_pop hx hb dL_law_485 rfl ?_
  refine lv_goto (tgt := 1050) hx hb dL_law_486 (by decide) ?_
  exact kk τ ν H locs (st_repair (xs (i + 1)) (xs (i + 2)) (xs (i + 3)) q9 n9 hq g pX pM).1 h

set_option maxHeartbeats 4000000 in
set_option maxRecDepth 100000 in
theorem lc_9 {p : Program} {e : Env} {s : State} {m : MethodId} {below : List Frame} {meth : Method} {c : Code} {Q : State → Prop} {D : va_G} {cy : Nat → ClassId} {ls : Array Slot} {H : Heap} {locs : List Loc} (l : Launch) {b L i : Nat} {xs : Nat → Int32} (ax am : Nat → Nat) (adK adV : Nat → Nat) (σ μ : St) (E : EV p s m c #[Value.ref b] cL_law RL 4 D cy) (hX : va_X b L xs s s.heap) (hbl : b < s.heap.size) (hz : SZ adK adV (LA s) s) (hL : L ≤ 3072) (hi : i + 6 ≤ L) (hl : lv_has ls 4 [(0, .ref b), (1, .ref (ax 0)), (2, .ref (am 0)), (3, .int (nI i))]) (h : HW D (LA s) s (wX cy ax σ ++ wM cy am μ) H locs) (g : INV σ μ)
    (kk : ∀ (τ ν : St) (H : Heap) (locs : List Loc), INV τ ν → HW D (LA s) s (wX cy ax τ ++ wM cy am ν) H locs → W p l e room_1 s m #[Value.ref b] below meth c H locs 600000 7302250 Q (F0 m 1050 ls [])) : W p l e room_1 s m #[Value.ref b] below meth c H locs 600000 7302250 Q (F0 m 489 ls []) := by
  have hx := E.1
  have hb := E.2.1
  refine lv_aload_n hx hb dL_law_489 rfl (lv_at hl 1 rfl) ?_
  refine lv_aload_n hx hb dL_law_490 rfl (lv_at hl 0 rfl) ?_
  refine lv_iload_n hx hb dL_law_491 rfl (lv_at hl 3 rfl) ?_
  refine lv_iconst (v := 1) hx hb dL_law_492 (by decide) ?_
  refine n_add (j := i) (k := 1) hx hb dL_law_493 ?_
  refine l_sld hx hb hX hbl h (show i + 1 < L by omega) hL dL_law_494 ?_
  refine l_i (wf := wX cy ax) (σ := σ) (wo := wM cy am μ) h (cvX cy ax σ) (wX_fst cy ax) (l_runV (wf := wX cy ax) (σ := σ) (As := [.int (xs (i + 1))]) (rest := []) E h (cvX cy ax σ) (c_X11_go l D cy ax σ (xs (i + 1)) ) co_X11_go ml_L_53 im_X11_go se_X11_go in_X11 (eX_0 cy ax σ) rfl ok_X11_go rfl ⟨by decide, by decide⟩ hl.1 rfl (Nat.le_of_ble_eq_true rfl) dL_law_495 ⟨Nat.le_refl _, Nat.le_refl _⟩) (fun r τ H locs pX h => ?_)
  refine lv_pop hx hb dL_law_498 rfl ?_
  refine lv_aload_n hx hb dL_law_499 rfl (lv_at hl 2 rfl) ?_
  refine lv_aload_n hx hb dL_law_500 rfl (lv_at hl 0 rfl) ?_
  refine lv_iload_n hx hb dL_law_501 rfl (lv_at hl 3 rfl) ?_
  refine lv_iconst (v := 1) hx hb dL_law_502 (by decide) ?_
  refine n_add (j := i) (k := 1) hx hb dL_law_503 ?_
  refine l_sld hx hb hX hbl h (show i + 1 < L by omega) hL dL_law_504 ?_
  refine l_i (wf := wM cy am) (σ := μ) (wo := wX cy ax τ) h.swap (cvM cy am μ) (wM_fst cy am) (l_runV (wf := wM cy am) (σ := μ) (As := [.int (xs (i + 1))]) (rest := []) E h.swap (cvM cy am μ) (c_X12_go l D cy am μ (xs (i + 1)) ) co_X12_go ml_L_56 im_X12_go se_X12_go in_X12 (eM_0 cy am μ) rfl ok_X12_go rfl ⟨by decide, by decide⟩ hl.1 rfl (Nat.le_of_ble_eq_true rfl) dL_law_505 ⟨Nat.le_refl _, Nat.le_refl _⟩) (fun r2 ν H locs pM h => ?_)
  replace h := h.swap
  refine lv_pop hx hb dL_law_508 rfl ?_
  refine lv_goto (tgt := 1050) hx hb dL_law_509 (by decide) ?_
  exact kk τ ν H locs (st_go (xs (i + 1)) g pX pM).1 h

set_option maxHeartbeats 4000000 in
set_option maxRecDepth 100000 in
theorem lc_10 {p : Program} {e : Env} {s : State} {m : MethodId} {below : List Frame} {meth : Method} {c : Code} {Q : State → Prop} {D : va_G} {cy : Nat → ClassId} {ls : Array Slot} {H : Heap} {locs : List Loc} (l : Launch) {b L i : Nat} {xs : Nat → Int32} (ax am : Nat → Nat) (adK adV : Nat → Nat) (σ μ : St) (E : EV p s m c #[Value.ref b] cL_law RL 4 D cy) (hX : va_X b L xs s s.heap) (hbl : b < s.heap.size) (hz : SZ adK adV (LA s) s) (hL : L ≤ 3072) (hi : i + 6 ≤ L) (hl : lv_has ls 4 [(0, .ref b), (1, .ref (ax 0)), (2, .ref (am 0)), (3, .int (nI i))]) (h : HW D (LA s) s (wX cy ax σ ++ wM cy am μ) H locs) (g : INV σ μ)
    (kk : ∀ (τ ν : St) (H : Heap) (locs : List Loc), INV τ ν → HW D (LA s) s (wX cy ax τ ++ wM cy am ν) H locs → W p l e room_1 s m #[Value.ref b] below meth c H locs 600000 7302250 Q (F0 m 1050 ls [])) : W p l e room_1 s m #[Value.ref b] below meth c H locs 600000 7302250 Q (F0 m 512 ls []) := by
  have hx := E.1
  have hb := E.2.1
  refine lv_aload_n hx hb dL_law_512 rfl (lv_at hl 1 rfl) ?_
  refine lv_aload_n hx hb dL_law_513 rfl (lv_at hl 0 rfl) ?_
  refine lv_iload_n hx hb dL_law_514 rfl (lv_at hl 3 rfl) ?_
  refine lv_iconst (v := 1) hx hb dL_law_515 (by decide) ?_
  refine n_add (j := i) (k := 1) hx hb dL_law_516 ?_
  refine l_sld hx hb hX hbl h (show i + 1 < L by omega) hL dL_law_517 ?_
  refine lv_aload_n hx hb dL_law_518 rfl (lv_at hl 0 rfl) ?_
  refine lv_iload_n hx hb dL_law_519 rfl (lv_at hl 3 rfl) ?_
  refine lv_iconst (v := 2) hx hb dL_law_520 (by decide) ?_
  refine n_add (j := i) (k := 2) hx hb dL_law_521 ?_
  refine l_sld hx hb hX hbl h (show i + 2 < L by omega) hL dL_law_522 ?_
  refine lv_aload_n hx hb dL_law_523 rfl (lv_at hl 0 rfl) ?_
  refine lv_iload_n hx hb dL_law_524 rfl (lv_at hl 3 rfl) ?_
  refine lv_iconst (v := 3) hx hb dL_law_525 (by decide) ?_
  refine n_add (j := i) (k := 3) hx hb dL_law_526 ?_
  refine l_sld hx hb hX hbl h (show i + 3 < L by omega) hL dL_law_527 ?_
  refine lv_aload_n hx hb dL_law_528 rfl (lv_at hl 0 rfl) ?_
  refine lv_iload_n hx hb dL_law_529 rfl (lv_at hl 3 rfl) ?_
  refine lv_iconst (v := 4) hx hb dL_law_530 (by decide) ?_
  refine n_add (j := i) (k := 4) hx hb dL_law_531 ?_
  refine l_sld hx hb hX hbl h (show i + 4 < L by omega) hL dL_law_532 ?_
  refine lv_aload_n hx hb dL_law_533 rfl (lv_at hl 0 rfl) ?_
  refine lv_iload_n hx hb dL_law_534 rfl (lv_at hl 3 rfl) ?_
  refine lv_iconst (v := 5) hx hb dL_law_535 (by decide) ?_
  refine n_add (j := i) (k := 5) hx hb dL_law_536 ?_
  refine l_sld hx hb hX hbl h (show i + 5 < L by omega) hL dL_law_537 ?_
  obtain ⟨n9, hn4, hn⟩ := id g.1.1
  refine l_i (wf := wX cy ax) (σ := σ) (wo := wM cy am μ) h (cvX cy ax σ) (wX_fst cy ax) (l_runV (wf := wX cy ax) (σ := σ) (As := [.int (xs (i + 1)), .int (xs (i + 2)), .int (xs (i + 3)), .int (xs (i + 4)), .int (xs (i + 5))]) (rest := []) E h (cvX cy ax σ) (c_X11_feed l D cy ax σ (xs (i + 1)) (xs (i + 2)) (xs (i + 3)) (xs (i + 4)) (xs (i + 5)) n9 hn hn4) co_X11_feed ml_L_57 im_X11_feed se_X11_feed in_X11 (eX_0 cy ax σ) rfl ok_X11_feed rfl ⟨by decide, by decide⟩ hl.1 rfl (Nat.le_of_ble_eq_true rfl) dL_law_538 ⟨Nat.le_refl _, Nat.le_refl _⟩) (fun r τ H locs pX h => ?_)
  refine lv_pop hx hb dL_law_541 rfl ?_
  refine lv_aload_n hx hb dL_law_542 rfl (lv_at hl 2 rfl) ?_
  refine lv_aload_n hx hb dL_law_543 rfl (lv_at hl 0 rfl) ?_
  refine lv_iload_n hx hb dL_law_544 rfl (lv_at hl 3 rfl) ?_
  refine lv_iconst (v := 1) hx hb dL_law_545 (by decide) ?_
  refine n_add (j := i) (k := 1) hx hb dL_law_546 ?_
  refine l_sld hx hb hX hbl h (show i + 1 < L by omega) hL dL_law_547 ?_
  refine lv_aload_n hx hb dL_law_548 rfl (lv_at hl 0 rfl) ?_
  refine lv_iload_n hx hb dL_law_549 rfl (lv_at hl 3 rfl) ?_
  refine lv_iconst (v := 2) hx hb dL_law_550 (by decide) ?_
  refine n_add (j := i) (k := 2) hx hb dL_law_551 ?_
  refine l_sld hx hb hX hbl h (show i + 2 < L by omega) hL dL_law_552 ?_
  refine lv_aload_n hx hb dL_law_553 rfl (lv_at hl 0 rfl) ?_
  refine lv_iload_n hx hb dL_law_554 rfl (lv_at hl 3 rfl) ?_
  refine lv_iconst (v := 3) hx hb dL_law_555 (by decide) ?_
  refine n_add (j := i) (k := 3) hx hb dL_law_556 ?_
  refine l_sld hx hb hX hbl h (show i + 3 < L by omega) hL dL_law_557 ?_
  refine lv_aload_n hx hb dL_law_558 rfl (lv_at hl 0 rfl) ?_
  refine lv_iload_n hx hb dL_law_559 rfl (lv_at hl 3 rfl) ?_
  refine lv_iconst (v := 4) hx hb dL_law_560 (by decide) ?_
  refine n_add (j := i) (k := 4) hx hb dL_law_561 ?_
  refine l_sld hx hb hX hbl h (show i + 4 < L by omega) hL dL_law_562 ?_
  refine lv_aload_n hx hb dL_law_563 rfl (lv_at hl 0 rfl) ?_
  refine lv_iload_n hx hb dL_law_564 rfl (lv_at hl 3 rfl) ?_
  refine lv_iconst (v := 5) hx hb dL_law_565 (by decide) ?_
  refine n_add (j := i) (k := 5) hx hb dL_law_566 ?_
  refine l_sld hx hb hX hbl h (show i + 5 < L by omega) hL dL_law_567 ?_
  refine l_i (wf := wM cy am) (σ := μ) (wo := wX cy ax τ) h.swap (cvM cy am μ) (wM_fst cy am) (l_runV (wf := wM cy am) (σ := μ) (As := [.int (xs (i + 1)), .int (xs (i + 2)), .int (xs (i + 3)), .int (xs (i + 4)), .int (xs (i + 5))]) (rest := []) E h.swap (cvM cy am μ) (c_X12_feed l D cy am μ (xs (i + 1)) (xs (i + 2)) (xs (i + 3)) (xs (i + 4)) (xs (i + 5)) n9 ((g.2.2.1 (3, 13) (by decide)).symm.trans hn) hn4) co_X12_feed ml_L_61 im_X12_feed se_X12_feed in_X12 (eM_0 cy am μ) rfl ok_X12_feed rfl ⟨by decide, by decide⟩ hl.1 rfl (Nat.le_of_ble_eq_true rfl) dL_law_568 ⟨Nat.le_refl _, Nat.le_refl _⟩) (fun r2 ν H locs pM h => ?_)
  replace h := h.swap
  refine lv_pop hx hb dL_law_571 rfl ?_
  refine lv_goto (tgt := 1050) hx hb dL_law_572 (by decide) ?_
  exact kk τ ν H locs (st_feed n9 g pX pM).1 h

set_option maxHeartbeats 4000000 in
set_option maxRecDepth 100000 in
theorem lc_11 {p : Program} {e : Env} {s : State} {m : MethodId} {below : List Frame} {meth : Method} {c : Code} {Q : State → Prop} {D : va_G} {cy : Nat → ClassId} {ls : Array Slot} {H : Heap} {locs : List Loc} (l : Launch) {b L i : Nat} {xs : Nat → Int32} (ax am : Nat → Nat) (adK adV : Nat → Nat) (σ μ : St) (E : EV p s m c #[Value.ref b] cL_law RL 4 D cy) (hX : va_X b L xs s s.heap) (hbl : b < s.heap.size) (hz : SZ adK adV (LA s) s) (hL : L ≤ 3072) (hi : i + 6 ≤ L) (hl : lv_has ls 4 [(0, .ref b), (1, .ref (ax 0)), (2, .ref (am 0)), (3, .int (nI i))]) (h : HW D (LA s) s (wX cy ax σ ++ wM cy am μ) H locs) (g : INV σ μ)
    (kk : ∀ (τ ν : St) (H : Heap) (locs : List Loc), INV τ ν → HW D (LA s) s (wX cy ax τ ++ wM cy am ν) H locs → W p l e room_1 s m #[Value.ref b] below meth c H locs 600000 7302250 Q (F0 m 1050 ls [])) : W p l e room_1 s m #[Value.ref b] below meth c H locs 600000 7302250 Q (F0 m 575 ls []) := by
  have hx := E.1
  have hb := E.2.1
  refine lv_aload_n hx hb dL_law_575 rfl (lv_at hl 1 rfl) ?_
  refine lv_aload_n hx hb dL_law_576 rfl (lv_at hl 0 rfl) ?_
  refine lv_iload_n hx hb dL_law_577 rfl (lv_at hl 3 rfl) ?_
  refine lv_iconst (v := 1) hx hb dL_law_578 (by decide) ?_
  refine n_add (j := i) (k := 1) hx hb dL_law_579 ?_
  refine l_sld hx hb hX hbl h (show i + 1 < L by omega) hL dL_law_580 ?_
  obtain ⟨n9, hn4, hn⟩ := id g.1.1
  refine l_i (wf := wX cy ax) (σ := σ) (wo := wM cy am μ) h (cvX cy ax σ) (wX_fst cy ax) (l_runV (wf := wX cy ax) (σ := σ) (As := [.int (xs (i + 1))]) (rest := []) E h (cvX cy ax σ) (c_X11_end l D cy ax σ (xs (i + 1)) n9 hn) co_X11_end ml_L_62 im_X11_end se_X11_end in_X11 (eX_0 cy ax σ) rfl ok_X11_end rfl ⟨by decide, by decide⟩ hl.1 rfl (Nat.le_of_ble_eq_true rfl) dL_law_581 ⟨Nat.le_refl _, Nat.le_refl _⟩) (fun r τ H locs pX h => ?_)
  refine lv_pop hx hb dL_law_584 rfl ?_
  refine lv_aload_n hx hb dL_law_585 rfl (lv_at hl 2 rfl) ?_
  refine lv_aload_n hx hb dL_law_586 rfl (lv_at hl 0 rfl) ?_
  refine lv_iload_n hx hb dL_law_587 rfl (lv_at hl 3 rfl) ?_
  refine lv_iconst (v := 1) hx hb dL_law_588 (by decide) ?_
  refine n_add (j := i) (k := 1) hx hb dL_law_589 ?_
  refine l_sld hx hb hX hbl h (show i + 1 < L by omega) hL dL_law_590 ?_
  refine l_i (wf := wM cy am) (σ := μ) (wo := wX cy ax τ) h.swap (cvM cy am μ) (wM_fst cy am) (l_runV (wf := wM cy am) (σ := μ) (As := [.int (xs (i + 1))]) (rest := []) E h.swap (cvM cy am μ) (c_X12_end l D cy am μ (xs (i + 1)) n9 ((g.2.2.1 (3, 13) (by decide)).symm.trans hn)) co_X12_end ml_L_65 im_X12_end se_X12_end in_X12 (eM_0 cy am μ) rfl ok_X12_end rfl ⟨by decide, by decide⟩ hl.1 rfl (Nat.le_of_ble_eq_true rfl) dL_law_591 ⟨Nat.le_refl _, Nat.le_refl _⟩) (fun r2 ν H locs pM h => ?_)
  replace h := h.swap
  refine lv_pop hx hb dL_law_594 rfl ?_
  refine lv_goto (tgt := 1050) hx hb dL_law_595 (by decide) ?_
  exact kk τ ν H locs (st_end (xs (i + 1)) n9 hn4 g pX pM).1 h

set_option maxHeartbeats 4000000 in
set_option maxRecDepth 100000 in
theorem lc_12 {p : Program} {e : Env} {s : State} {m : MethodId} {below : List Frame} {meth : Method} {c : Code} {Q : State → Prop} {D : va_G} {cy : Nat → ClassId} {ls : Array Slot} {H : Heap} {locs : List Loc} (l : Launch) {b L i : Nat} {xs : Nat → Int32} (ax am : Nat → Nat) (adK adV : Nat → Nat) (σ μ : St) (E : EV p s m c #[Value.ref b] cL_law RL 4 D cy) (hX : va_X b L xs s s.heap) (hbl : b < s.heap.size) (hz : SZ adK adV (LA s) s) (hL : L ≤ 3072) (hi : i + 6 ≤ L) (hl : lv_has ls 4 [(0, .ref b), (1, .ref (ax 0)), (2, .ref (am 0)), (3, .int (nI i))]) (h : HW D (LA s) s (wX cy ax σ ++ wM cy am μ) H locs) (g : INV σ μ)
    (kk : ∀ (τ ν : St) (H : Heap) (locs : List Loc), INV τ ν → HW D (LA s) s (wX cy ax τ ++ wM cy am ν) H locs → W p l e room_1 s m #[Value.ref b] below meth c H locs 600000 7302250 Q (F0 m 1050 ls [])) : W p l e room_1 s m #[Value.ref b] below meth c H locs 600000 7302250 Q (F0 m 598 ls []) := by
  have hx := E.1
  have hb := E.2.1
  refine lv_aload_n hx hb dL_law_598 rfl (lv_at hl 1 rfl) ?_
  refine l_i (wf := wX cy ax) (σ := σ) (wo := wM cy am μ) h (cvX cy ax σ) (wX_fst cy ax) (l_runZ (wf := wX cy ax) (σ := σ) (As := []) (rest := []) E h (cvX cy ax σ) (sz_ok adK adV (AX ax)) (l_sz hz h (cvX cy ax σ)) (c_X11_laws l D cy ax adK adV σ  g.1) co_X11_laws ml_L_66 im_X11_laws se_X11_laws in_X11 (eX_0 cy ax σ) rfl ok_X11_laws rfl ⟨by decide, by decide⟩ hl.1 rfl (Nat.le_of_ble_eq_true rfl) dL_law_599 ⟨Nat.le_refl _, Nat.le_refl _⟩) (fun r τ H locs pX h => ?_)
  refine lv_pop hx hb dL_law_602 rfl ?_
  refine lv_aload_n hx hb dL_law_603 rfl (lv_at hl 2 rfl) ?_
  refine l_i (wf := wM cy am) (σ := μ) (wo := wX cy ax τ) h.swap (cvM cy am μ) (wM_fst cy am) (l_runV (wf := wM cy am) (σ := μ) (As := []) (rest := []) E h.swap (cvM cy am μ) (c_X12_laws l D cy am μ  g.2.1) co_X12_laws ml_L_69 im_X12_laws se_X12_laws in_X12 (eM_0 cy am μ) rfl ok_X12_laws rfl ⟨by decide, by decide⟩ hl.1 rfl (Nat.le_of_ble_eq_true rfl) dL_law_604 ⟨Nat.le_refl _, Nat.le_refl _⟩) (fun r2 ν H locs pM h => ?_)
  replace h := h.swap
  refine lv_pop hx hb dL_law_607 rfl ?_
  refine lv_goto (tgt := 1050) hx hb dL_law_608 (by decide) ?_
  exact kk τ ν H locs (st_laws g pX pM) h

set_option maxHeartbeats 4000000 in
set_option maxRecDepth 100000 in
theorem lc_13 {p : Program} {e : Env} {s : State} {m : MethodId} {below : List Frame} {meth : Method} {c : Code} {Q : State → Prop} {D : va_G} {cy : Nat → ClassId} {ls : Array Slot} {H : Heap} {locs : List Loc} (l : Launch) {b L i : Nat} {xs : Nat → Int32} (ax am : Nat → Nat) (adK adV : Nat → Nat) (σ μ : St) (E : EV p s m c #[Value.ref b] cL_law RL 4 D cy) (hX : va_X b L xs s s.heap) (hbl : b < s.heap.size) (hz : SZ adK adV (LA s) s) (hL : L ≤ 3072) (hi : i + 6 ≤ L) (hl : lv_has ls 4 [(0, .ref b), (1, .ref (ax 0)), (2, .ref (am 0)), (3, .int (nI i))]) (h : HW D (LA s) s (wX cy ax σ ++ wM cy am μ) H locs) (g : INV σ μ)
    (kk : ∀ (τ ν : St) (H : Heap) (locs : List Loc), INV τ ν → HW D (LA s) s (wX cy ax τ ++ wM cy am ν) H locs → W p l e room_1 s m #[Value.ref b] below meth c H locs 600000 7302250 Q (F0 m 1050 ls [])) : W p l e room_1 s m #[Value.ref b] below meth c H locs 600000 7302250 Q (F0 m 611 ls []) := by
  have hx := E.1
  have hb := E.2.1
  refine lv_aload_n hx hb dL_law_611 rfl (lv_at hl 1 rfl) ?_
  refine l_i (wf := wX cy ax) (σ := σ) (wo := wM cy am μ) h (cvX cy ax σ) (wX_fst cy ax) (l_runV (wf := wX cy ax) (σ := σ) (As := []) (rest := []) E h (cvX cy ax σ) (c_X11_fault l D cy ax σ  ) co_X11_fault ml_L_70 im_X11_fault se_X11_fault in_X11 (eX_0 cy ax σ) rfl ok_X11_fault rfl ⟨by decide, by decide⟩ hl.1 rfl (Nat.le_of_ble_eq_true rfl) dL_law_612 ⟨Nat.le_refl _, Nat.le_refl _⟩) (fun r τ H locs pX h => ?_)
  refine lv_pop hx hb dL_law_615 rfl ?_
  refine lv_aload_n hx hb dL_law_616 rfl (lv_at hl 2 rfl) ?_
  refine l_i (wf := wM cy am) (σ := μ) (wo := wX cy ax τ) h.swap (cvM cy am μ) (wM_fst cy am) (l_runV (wf := wM cy am) (σ := μ) (As := []) (rest := []) E h.swap (cvM cy am μ) (c_X12_fault l D cy am μ  ) co_X12_fault ml_L_73 im_X12_fault se_X12_fault in_X12 (eM_0 cy am μ) rfl ok_X12_fault rfl ⟨by decide, by decide⟩ hl.1 rfl (Nat.le_of_ble_eq_true rfl) dL_law_617 ⟨Nat.le_refl _, Nat.le_refl _⟩) (fun r2 ν H locs pM h => ?_)
  replace h := h.swap
  refine lv_pop hx hb dL_law_620 rfl ?_
  refine lv_goto (tgt := 1050) hx hb dL_law_621 (by decide) ?_
  exact kk τ ν H locs (inv_K g.1 g.2.1 g.2.2 pX pM) h

set_option maxHeartbeats 4000000 in
set_option maxRecDepth 100000 in
theorem lc_14 {p : Program} {e : Env} {s : State} {m : MethodId} {below : List Frame} {meth : Method} {c : Code} {Q : State → Prop} {D : va_G} {cy : Nat → ClassId} {ls : Array Slot} {H : Heap} {locs : List Loc} (l : Launch) {b L i : Nat} {xs : Nat → Int32} (ax am : Nat → Nat) (adK adV : Nat → Nat) (σ μ : St) (E : EV p s m c #[Value.ref b] cL_law RL 4 D cy) (hX : va_X b L xs s s.heap) (hbl : b < s.heap.size) (hz : SZ adK adV (LA s) s) (hL : L ≤ 3072) (hi : i + 6 ≤ L) (hl : lv_has ls 4 [(0, .ref b), (1, .ref (ax 0)), (2, .ref (am 0)), (3, .int (nI i))]) (h : HW D (LA s) s (wX cy ax σ ++ wM cy am μ) H locs) (g : INV σ μ)
    (kk : ∀ (τ ν : St) (H : Heap) (locs : List Loc), INV τ ν → HW D (LA s) s (wX cy ax τ ++ wM cy am ν) H locs → W p l e room_1 s m #[Value.ref b] below meth c H locs 600000 7302250 Q (F0 m 1050 ls [])) : W p l e room_1 s m #[Value.ref b] below meth c H locs 600000 7302250 Q (F0 m 624 ls []) := by
  have hx := E.1
  have hb := E.2.1
  refine lv_aload_n hx hb dL_law_624 rfl (lv_at hl 1 rfl) ?_
  refine lv_aload_n hx hb dL_law_625 rfl (lv_at hl 0 rfl) ?_
  refine lv_iload_n hx hb dL_law_626 rfl (lv_at hl 3 rfl) ?_
  refine lv_iconst (v := 1) hx hb dL_law_627 (by decide) ?_
  refine n_add (j := i) (k := 1) hx hb dL_law_628 ?_
  refine l_sld hx hb hX hbl h (show i + 1 < L by omega) hL dL_law_629 ?_
  refine lv_aload_n hx hb dL_law_630 rfl (lv_at hl 0 rfl) ?_
  refine lv_iload_n hx hb dL_law_631 rfl (lv_at hl 3 rfl) ?_
  refine lv_iconst (v := 2) hx hb dL_law_632 (by decide) ?_
  refine n_add (j := i) (k := 2) hx hb dL_law_633 ?_
  refine l_sld hx hb hX hbl h (show i + 2 < L by omega) hL dL_law_634 ?_
  refine l_i (wf := wX cy ax) (σ := σ) (wo := wM cy am μ) h (cvX cy ax σ) (wX_fst cy ax) (l_runV (wf := wX cy ax) (σ := σ) (As := [.int (xs (i + 1)), .int (xs (i + 2))]) (rest := []) E h (cvX cy ax σ) (c_X11_law l D cy ax σ (xs (i + 1)) (xs (i + 2)) g.1) co_X11_law ml_L_74 im_X11_law se_X11_law in_X11 (eX_0 cy ax σ) rfl ok_X11_law rfl ⟨by decide, by decide⟩ hl.1 rfl (Nat.le_of_ble_eq_true rfl) dL_law_635 ⟨Nat.le_refl _, Nat.le_refl _⟩) (fun r τ H locs pX h => ?_)
  refine lv_pop hx hb dL_law_638 rfl ?_
  refine lv_aload_n hx hb dL_law_639 rfl (lv_at hl 2 rfl) ?_
  refine lv_aload_n hx hb dL_law_640 rfl (lv_at hl 0 rfl) ?_
  refine lv_iload_n hx hb dL_law_641 rfl (lv_at hl 3 rfl) ?_
  refine lv_iconst (v := 1) hx hb dL_law_642 (by decide) ?_
  refine n_add (j := i) (k := 1) hx hb dL_law_643 ?_
  refine l_sld hx hb hX hbl h (show i + 1 < L by omega) hL dL_law_644 ?_
  refine lv_aload_n hx hb dL_law_645 rfl (lv_at hl 0 rfl) ?_
  refine lv_iload_n hx hb dL_law_646 rfl (lv_at hl 3 rfl) ?_
  refine lv_iconst (v := 2) hx hb dL_law_647 (by decide) ?_
  refine n_add (j := i) (k := 2) hx hb dL_law_648 ?_
  refine l_sld hx hb hX hbl h (show i + 2 < L by omega) hL dL_law_649 ?_
  refine l_i (wf := wM cy am) (σ := μ) (wo := wX cy ax τ) h.swap (cvM cy am μ) (wM_fst cy am) (l_runV (wf := wM cy am) (σ := μ) (As := [.int (xs (i + 1)), .int (xs (i + 2))]) (rest := []) E h.swap (cvM cy am μ) (c_X12_law l D cy am μ (xs (i + 1)) (xs (i + 2)) g.2.1) co_X12_law ml_L_78 im_X12_law se_X12_law in_X12 (eM_0 cy am μ) rfl ok_X12_law rfl ⟨by decide, by decide⟩ hl.1 rfl (Nat.le_of_ble_eq_true rfl) dL_law_650 ⟨Nat.le_refl _, Nat.le_refl _⟩) (fun r2 ν H locs pM h => ?_)
  replace h := h.swap
  refine lv_pop hx hb dL_law_653 rfl ?_
  refine lv_goto (tgt := 1050) hx hb dL_law_654 (by decide) ?_
  exact kk τ ν H locs (inv_K g.1 g.2.1 g.2.2 pX pM) h

set_option maxHeartbeats 4000000 in
set_option maxRecDepth 100000 in
theorem lc_15 {p : Program} {e : Env} {s : State} {m : MethodId} {below : List Frame} {meth : Method} {c : Code} {Q : State → Prop} {D : va_G} {cy : Nat → ClassId} {ls : Array Slot} {H : Heap} {locs : List Loc} (l : Launch) {b L i : Nat} {xs : Nat → Int32} (ax am : Nat → Nat) (adK adV : Nat → Nat) (σ μ : St) (E : EV p s m c #[Value.ref b] cL_law RL 4 D cy) (hX : va_X b L xs s s.heap) (hbl : b < s.heap.size) (hz : SZ adK adV (LA s) s) (hL : L ≤ 3072) (hi : i + 6 ≤ L) (hl : lv_has ls 4 [(0, .ref b), (1, .ref (ax 0)), (2, .ref (am 0)), (3, .int (nI i))]) (h : HW D (LA s) s (wX cy ax σ ++ wM cy am μ) H locs) (g : INV σ μ)
    (kk : ∀ (τ ν : St) (H : Heap) (locs : List Loc), INV τ ν → HW D (LA s) s (wX cy ax τ ++ wM cy am ν) H locs → W p l e room_1 s m #[Value.ref b] below meth c H locs 600000 7302250 Q (F0 m 1050 ls [])) : W p l e room_1 s m #[Value.ref b] below meth c H locs 600000 7302250 Q (F0 m 657 ls []) := by
  have hx := E.1
  have hb := E.2.1
  refine lv_aload_n hx hb dL_law_657 rfl (lv_at hl 1 rfl) ?_
  refine lv_aload_n hx hb dL_law_658 rfl (lv_at hl 0 rfl) ?_
  refine lv_iload_n hx hb dL_law_659 rfl (lv_at hl 3 rfl) ?_
  refine lv_iconst (v := 1) hx hb dL_law_660 (by decide) ?_
  refine n_add (j := i) (k := 1) hx hb dL_law_661 ?_
  refine l_sld hx hb hX hbl h (show i + 1 < L by omega) hL dL_law_662 ?_
  refine lv_aload_n hx hb dL_law_663 rfl (lv_at hl 0 rfl) ?_
  refine lv_iload_n hx hb dL_law_664 rfl (lv_at hl 3 rfl) ?_
  refine lv_iconst (v := 2) hx hb dL_law_665 (by decide) ?_
  refine n_add (j := i) (k := 2) hx hb dL_law_666 ?_
  refine l_sld hx hb hX hbl h (show i + 2 < L by omega) hL dL_law_667 ?_
  refine lv_aload_n hx hb dL_law_668 rfl (lv_at hl 0 rfl) ?_
  refine lv_iload_n hx hb dL_law_669 rfl (lv_at hl 3 rfl) ?_
  refine lv_iconst (v := 3) hx hb dL_law_670 (by decide) ?_
  refine n_add (j := i) (k := 3) hx hb dL_law_671 ?_
  refine l_sld hx hb hX hbl h (show i + 3 < L by omega) hL dL_law_672 ?_
  refine l_i (wf := wX cy ax) (σ := σ) (wo := wM cy am μ) h (cvX cy ax σ) (wX_fst cy ax) (l_runV (wf := wX cy ax) (σ := σ) (As := [.int (xs (i + 1)), .int (xs (i + 2)), .int (xs (i + 3))]) (rest := []) E h (cvX cy ax σ) (c_X11_lives l D cy ax σ (xs (i + 1)) (xs (i + 2)) (xs (i + 3)) g.1) co_X11_lives ml_L_79 im_X11_lives se_X11_lives in_X11 (eX_0 cy ax σ) rfl ok_X11_lives rfl ⟨by decide, by decide⟩ hl.1 rfl (Nat.le_of_ble_eq_true rfl) dL_law_673 ⟨Nat.le_refl _, Nat.le_refl _⟩) (fun r τ H locs pX h => ?_)
  refine lv_pop hx hb dL_law_676 rfl ?_
  refine lv_aload_n hx hb dL_law_677 rfl (lv_at hl 2 rfl) ?_
  refine lv_aload_n hx hb dL_law_678 rfl (lv_at hl 0 rfl) ?_
  refine lv_iload_n hx hb dL_law_679 rfl (lv_at hl 3 rfl) ?_
  refine lv_iconst (v := 1) hx hb dL_law_680 (by decide) ?_
  refine n_add (j := i) (k := 1) hx hb dL_law_681 ?_
  refine l_sld hx hb hX hbl h (show i + 1 < L by omega) hL dL_law_682 ?_
  refine lv_aload_n hx hb dL_law_683 rfl (lv_at hl 0 rfl) ?_
  refine lv_iload_n hx hb dL_law_684 rfl (lv_at hl 3 rfl) ?_
  refine lv_iconst (v := 2) hx hb dL_law_685 (by decide) ?_
  refine n_add (j := i) (k := 2) hx hb dL_law_686 ?_
  refine l_sld hx hb hX hbl h (show i + 2 < L by omega) hL dL_law_687 ?_
  refine lv_aload_n hx hb dL_law_688 rfl (lv_at hl 0 rfl) ?_
  refine lv_iload_n hx hb dL_law_689 rfl (lv_at hl 3 rfl) ?_
  refine lv_iconst (v := 3) hx hb dL_law_690 (by decide) ?_
  refine n_add (j := i) (k := 3) hx hb dL_law_691 ?_
  refine l_sld hx hb hX hbl h (show i + 3 < L by omega) hL dL_law_692 ?_
  refine l_i (wf := wM cy am) (σ := μ) (wo := wX cy ax τ) h.swap (cvM cy am μ) (wM_fst cy am) (l_runV (wf := wM cy am) (σ := μ) (As := [.int (xs (i + 1)), .int (xs (i + 2)), .int (xs (i + 3))]) (rest := []) E h.swap (cvM cy am μ) (c_X12_lives l D cy am μ (xs (i + 1)) (xs (i + 2)) (xs (i + 3)) g.2.1) co_X12_lives ml_L_82 im_X12_lives se_X12_lives in_X12 (eM_0 cy am μ) rfl ok_X12_lives rfl ⟨by decide, by decide⟩ hl.1 rfl (Nat.le_of_ble_eq_true rfl) dL_law_693 ⟨Nat.le_refl _, Nat.le_refl _⟩) (fun r2 ν H locs pM h => ?_)
  replace h := h.swap
  refine lv_pop hx hb dL_law_696 rfl ?_
  refine lv_goto (tgt := 1050) hx hb dL_law_697 (by decide) ?_
  exact kk τ ν H locs (inv_K g.1 g.2.1 g.2.2 pX pM) h

set_option maxHeartbeats 4000000 in
set_option maxRecDepth 100000 in
theorem lc_16 {p : Program} {e : Env} {s : State} {m : MethodId} {below : List Frame} {meth : Method} {c : Code} {Q : State → Prop} {D : va_G} {cy : Nat → ClassId} {ls : Array Slot} {H : Heap} {locs : List Loc} (l : Launch) {b L i : Nat} {xs : Nat → Int32} (ax am : Nat → Nat) (adK adV : Nat → Nat) (σ μ : St) (E : EV p s m c #[Value.ref b] cL_law RL 4 D cy) (hX : va_X b L xs s s.heap) (hbl : b < s.heap.size) (hz : SZ adK adV (LA s) s) (hL : L ≤ 3072) (hi : i + 6 ≤ L) (hl : lv_has ls 4 [(0, .ref b), (1, .ref (ax 0)), (2, .ref (am 0)), (3, .int (nI i))]) (h : HW D (LA s) s (wX cy ax σ ++ wM cy am μ) H locs) (g : INV σ μ)
    (kk : ∀ (τ ν : St) (H : Heap) (locs : List Loc), INV τ ν → HW D (LA s) s (wX cy ax τ ++ wM cy am ν) H locs → W p l e room_1 s m #[Value.ref b] below meth c H locs 600000 7302250 Q (F0 m 1050 ls [])) : W p l e room_1 s m #[Value.ref b] below meth c H locs 600000 7302250 Q (F0 m 700 ls []) := by
  have hx := E.1
  have hb := E.2.1
  refine lv_aload_n hx hb dL_law_700 rfl (lv_at hl 1 rfl) ?_
  refine lv_aload_n hx hb dL_law_701 rfl (lv_at hl 0 rfl) ?_
  refine lv_iload_n hx hb dL_law_702 rfl (lv_at hl 3 rfl) ?_
  refine lv_iconst (v := 1) hx hb dL_law_703 (by decide) ?_
  refine n_add (j := i) (k := 1) hx hb dL_law_704 ?_
  refine l_sld hx hb hX hbl h (show i + 1 < L by omega) hL dL_law_705 ?_
  refine lv_aload_n hx hb dL_law_706 rfl (lv_at hl 0 rfl) ?_
  refine lv_iload_n hx hb dL_law_707 rfl (lv_at hl 3 rfl) ?_
  refine lv_iconst (v := 2) hx hb dL_law_708 (by decide) ?_
  refine n_add (j := i) (k := 2) hx hb dL_law_709 ?_
  refine l_sld hx hb hX hbl h (show i + 2 < L by omega) hL dL_law_710 ?_
  refine lv_aload_n hx hb dL_law_711 rfl (lv_at hl 0 rfl) ?_
  refine lv_iload_n hx hb dL_law_712 rfl (lv_at hl 3 rfl) ?_
  refine lv_iconst (v := 3) hx hb dL_law_713 (by decide) ?_
  refine n_add (j := i) (k := 3) hx hb dL_law_714 ?_
  refine l_sld hx hb hX hbl h (show i + 3 < L by omega) hL dL_law_715 ?_
  refine l_i (wf := wX cy ax) (σ := σ) (wo := wM cy am μ) h (cvX cy ax σ) (wX_fst cy ax) (l_runV (wf := wX cy ax) (σ := σ) (As := [.int (xs (i + 1)), .int (xs (i + 2)), .int (xs (i + 3))]) (rest := []) E h (cvX cy ax σ) (c_X11_gets l D cy ax σ (xs (i + 1)) (xs (i + 2)) (xs (i + 3)) g.1) co_X11_gets ml_L_83 im_X11_gets se_X11_gets in_X11 (eX_0 cy ax σ) rfl ok_X11_gets rfl ⟨by decide, by decide⟩ hl.1 rfl (Nat.le_of_ble_eq_true rfl) dL_law_716 ⟨Nat.le_refl _, Nat.le_refl _⟩) (fun r τ H locs pX h => ?_)
  refine lv_pop hx hb dL_law_719 rfl ?_
  refine lv_aload_n hx hb dL_law_720 rfl (lv_at hl 2 rfl) ?_
  refine lv_aload_n hx hb dL_law_721 rfl (lv_at hl 0 rfl) ?_
  refine lv_iload_n hx hb dL_law_722 rfl (lv_at hl 3 rfl) ?_
  refine lv_iconst (v := 1) hx hb dL_law_723 (by decide) ?_
  refine n_add (j := i) (k := 1) hx hb dL_law_724 ?_
  refine l_sld hx hb hX hbl h (show i + 1 < L by omega) hL dL_law_725 ?_
  refine lv_aload_n hx hb dL_law_726 rfl (lv_at hl 0 rfl) ?_
  refine lv_iload_n hx hb dL_law_727 rfl (lv_at hl 3 rfl) ?_
  refine lv_iconst (v := 2) hx hb dL_law_728 (by decide) ?_
  refine n_add (j := i) (k := 2) hx hb dL_law_729 ?_
  refine l_sld hx hb hX hbl h (show i + 2 < L by omega) hL dL_law_730 ?_
  refine lv_aload_n hx hb dL_law_731 rfl (lv_at hl 0 rfl) ?_
  refine lv_iload_n hx hb dL_law_732 rfl (lv_at hl 3 rfl) ?_
  refine lv_iconst (v := 3) hx hb dL_law_733 (by decide) ?_
  refine n_add (j := i) (k := 3) hx hb dL_law_734 ?_
  refine l_sld hx hb hX hbl h (show i + 3 < L by omega) hL dL_law_735 ?_
  refine l_i (wf := wM cy am) (σ := μ) (wo := wX cy ax τ) h.swap (cvM cy am μ) (wM_fst cy am) (l_runV (wf := wM cy am) (σ := μ) (As := [.int (xs (i + 1)), .int (xs (i + 2)), .int (xs (i + 3))]) (rest := []) E h.swap (cvM cy am μ) (c_X12_gets l D cy am μ (xs (i + 1)) (xs (i + 2)) (xs (i + 3)) g.2.1) co_X12_gets ml_L_86 im_X12_gets se_X12_gets in_X12 (eM_0 cy am μ) rfl ok_X12_gets rfl ⟨by decide, by decide⟩ hl.1 rfl (Nat.le_of_ble_eq_true rfl) dL_law_736 ⟨Nat.le_refl _, Nat.le_refl _⟩) (fun r2 ν H locs pM h => ?_)
  replace h := h.swap
  refine lv_pop hx hb dL_law_739 rfl ?_
  refine lv_goto (tgt := 1050) hx hb dL_law_740 (by decide) ?_
  exact kk τ ν H locs (inv_K g.1 g.2.1 g.2.2 pX pM) h

set_option maxHeartbeats 4000000 in
set_option maxRecDepth 100000 in
theorem lc_17 {p : Program} {e : Env} {s : State} {m : MethodId} {below : List Frame} {meth : Method} {c : Code} {Q : State → Prop} {D : va_G} {cy : Nat → ClassId} {ls : Array Slot} {H : Heap} {locs : List Loc} (l : Launch) {b L i : Nat} {xs : Nat → Int32} (ax am : Nat → Nat) (adK adV : Nat → Nat) (σ μ : St) (E : EV p s m c #[Value.ref b] cL_law RL 4 D cy) (hX : va_X b L xs s s.heap) (hbl : b < s.heap.size) (hz : SZ adK adV (LA s) s) (hL : L ≤ 3072) (hi : i + 6 ≤ L) (hl : lv_has ls 4 [(0, .ref b), (1, .ref (ax 0)), (2, .ref (am 0)), (3, .int (nI i))]) (h : HW D (LA s) s (wX cy ax σ ++ wM cy am μ) H locs) (g : INV σ μ)
    (kk : ∀ (τ ν : St) (H : Heap) (locs : List Loc), INV τ ν → HW D (LA s) s (wX cy ax τ ++ wM cy am ν) H locs → W p l e room_1 s m #[Value.ref b] below meth c H locs 600000 7302250 Q (F0 m 1050 ls [])) : W p l e room_1 s m #[Value.ref b] below meth c H locs 600000 7302250 Q (F0 m 743 ls []) := by
  have hx := E.1
  have hb := E.2.1
  refine lv_aload_n hx hb dL_law_743 rfl (lv_at hl 1 rfl) ?_
  refine lv_aload_n hx hb dL_law_744 rfl (lv_at hl 0 rfl) ?_
  refine lv_iload_n hx hb dL_law_745 rfl (lv_at hl 3 rfl) ?_
  refine lv_iconst (v := 1) hx hb dL_law_746 (by decide) ?_
  refine n_add (j := i) (k := 1) hx hb dL_law_747 ?_
  refine l_sld hx hb hX hbl h (show i + 1 < L by omega) hL dL_law_748 ?_
  refine lv_aload_n hx hb dL_law_749 rfl (lv_at hl 0 rfl) ?_
  refine lv_iload_n hx hb dL_law_750 rfl (lv_at hl 3 rfl) ?_
  refine lv_iconst (v := 2) hx hb dL_law_751 (by decide) ?_
  refine n_add (j := i) (k := 2) hx hb dL_law_752 ?_
  refine l_sld hx hb hX hbl h (show i + 2 < L by omega) hL dL_law_753 ?_
  refine lv_aload_n hx hb dL_law_754 rfl (lv_at hl 0 rfl) ?_
  refine lv_iload_n hx hb dL_law_755 rfl (lv_at hl 3 rfl) ?_
  refine lv_iconst (v := 3) hx hb dL_law_756 (by decide) ?_
  refine n_add (j := i) (k := 3) hx hb dL_law_757 ?_
  refine l_sld hx hb hX hbl h (show i + 3 < L by omega) hL dL_law_758 ?_
  refine lv_aload_n hx hb dL_law_759 rfl (lv_at hl 0 rfl) ?_
  refine lv_iload_n hx hb dL_law_760 rfl (lv_at hl 3 rfl) ?_
  refine lv_iconst (v := 4) hx hb dL_law_761 (by decide) ?_
  refine n_add (j := i) (k := 4) hx hb dL_law_762 ?_
  refine l_sld hx hb hX hbl h (show i + 4 < L by omega) hL dL_law_763 ?_
  refine l_i (wf := wX cy ax) (σ := σ) (wo := wM cy am μ) h (cvX cy ax σ) (wX_fst cy ax) (l_runV (wf := wX cy ax) (σ := σ) (As := [.int (xs (i + 1)), .int (xs (i + 2)), .int (xs (i + 3)), .int (xs (i + 4))]) (rest := []) E h (cvX cy ax σ) (c_X11_at l D cy ax σ (xs (i + 1)) (xs (i + 2)) (xs (i + 3)) (xs (i + 4)) g.1) co_X11_at ml_L_87 im_X11_at se_X11_at in_X11 (eX_0 cy ax σ) rfl ok_X11_at rfl ⟨by decide, by decide⟩ hl.1 rfl (Nat.le_of_ble_eq_true rfl) dL_law_764 ⟨Nat.le_refl _, Nat.le_refl _⟩) (fun r τ H locs pX h => ?_)
  refine lv_pop hx hb dL_law_767 rfl ?_
  refine lv_aload_n hx hb dL_law_768 rfl (lv_at hl 2 rfl) ?_
  refine lv_aload_n hx hb dL_law_769 rfl (lv_at hl 0 rfl) ?_
  refine lv_iload_n hx hb dL_law_770 rfl (lv_at hl 3 rfl) ?_
  refine lv_iconst (v := 1) hx hb dL_law_771 (by decide) ?_
  refine n_add (j := i) (k := 1) hx hb dL_law_772 ?_
  refine l_sld hx hb hX hbl h (show i + 1 < L by omega) hL dL_law_773 ?_
  refine lv_aload_n hx hb dL_law_774 rfl (lv_at hl 0 rfl) ?_
  refine lv_iload_n hx hb dL_law_775 rfl (lv_at hl 3 rfl) ?_
  refine lv_iconst (v := 2) hx hb dL_law_776 (by decide) ?_
  refine n_add (j := i) (k := 2) hx hb dL_law_777 ?_
  refine l_sld hx hb hX hbl h (show i + 2 < L by omega) hL dL_law_778 ?_
  refine lv_aload_n hx hb dL_law_779 rfl (lv_at hl 0 rfl) ?_
  refine lv_iload_n hx hb dL_law_780 rfl (lv_at hl 3 rfl) ?_
  refine lv_iconst (v := 3) hx hb dL_law_781 (by decide) ?_
  refine n_add (j := i) (k := 3) hx hb dL_law_782 ?_
  refine l_sld hx hb hX hbl h (show i + 3 < L by omega) hL dL_law_783 ?_
  refine lv_aload_n hx hb dL_law_784 rfl (lv_at hl 0 rfl) ?_
  refine lv_iload_n hx hb dL_law_785 rfl (lv_at hl 3 rfl) ?_
  refine lv_iconst (v := 4) hx hb dL_law_786 (by decide) ?_
  refine n_add (j := i) (k := 4) hx hb dL_law_787 ?_
  refine l_sld hx hb hX hbl h (show i + 4 < L by omega) hL dL_law_788 ?_
  refine l_i (wf := wM cy am) (σ := μ) (wo := wX cy ax τ) h.swap (cvM cy am μ) (wM_fst cy am) (l_runV (wf := wM cy am) (σ := μ) (As := [.int (xs (i + 1)), .int (xs (i + 2)), .int (xs (i + 3)), .int (xs (i + 4))]) (rest := []) E h.swap (cvM cy am μ) (c_X12_at l D cy am μ (xs (i + 1)) (xs (i + 2)) (xs (i + 3)) (xs (i + 4)) g.2.1) co_X12_at ml_L_90 im_X12_at se_X12_at in_X12 (eM_0 cy am μ) rfl ok_X12_at rfl ⟨by decide, by decide⟩ hl.1 rfl (Nat.le_of_ble_eq_true rfl) dL_law_789 ⟨Nat.le_refl _, Nat.le_refl _⟩) (fun r2 ν H locs pM h => ?_)
  replace h := h.swap
  refine lv_pop hx hb dL_law_792 rfl ?_
  refine lv_goto (tgt := 1050) hx hb dL_law_793 (by decide) ?_
  exact kk τ ν H locs (inv_K g.1 g.2.1 g.2.2 pX pM) h

set_option maxHeartbeats 4000000 in
set_option maxRecDepth 100000 in
theorem lc_18 {p : Program} {e : Env} {s : State} {m : MethodId} {below : List Frame} {meth : Method} {c : Code} {Q : State → Prop} {D : va_G} {cy : Nat → ClassId} {ls : Array Slot} {H : Heap} {locs : List Loc} (l : Launch) {b L i : Nat} {xs : Nat → Int32} (ax am : Nat → Nat) (adK adV : Nat → Nat) (σ μ : St) (E : EV p s m c #[Value.ref b] cL_law RL 4 D cy) (hX : va_X b L xs s s.heap) (hbl : b < s.heap.size) (hz : SZ adK adV (LA s) s) (hL : L ≤ 3072) (hi : i + 6 ≤ L) (hl : lv_has ls 4 [(0, .ref b), (1, .ref (ax 0)), (2, .ref (am 0)), (3, .int (nI i))]) (h : HW D (LA s) s (wX cy ax σ ++ wM cy am μ) H locs) (g : INV σ μ)
    (kk : ∀ (τ ν : St) (H : Heap) (locs : List Loc), INV τ ν → HW D (LA s) s (wX cy ax τ ++ wM cy am ν) H locs → W p l e room_1 s m #[Value.ref b] below meth c H locs 600000 7302250 Q (F0 m 1050 ls [])) : W p l e room_1 s m #[Value.ref b] below meth c H locs 600000 7302250 Q (F0 m 796 ls []) := by
  have hx := E.1
  have hb := E.2.1
  refine lv_aload_n hx hb dL_law_796 rfl (lv_at hl 1 rfl) ?_
  refine lv_aload_n hx hb dL_law_797 rfl (lv_at hl 0 rfl) ?_
  refine lv_iload_n hx hb dL_law_798 rfl (lv_at hl 3 rfl) ?_
  refine lv_iconst (v := 1) hx hb dL_law_799 (by decide) ?_
  refine n_add (j := i) (k := 1) hx hb dL_law_800 ?_
  refine l_sld hx hb hX hbl h (show i + 1 < L by omega) hL dL_law_801 ?_
  refine lv_aload_n hx hb dL_law_802 rfl (lv_at hl 0 rfl) ?_
  refine lv_iload_n hx hb dL_law_803 rfl (lv_at hl 3 rfl) ?_
  refine lv_iconst (v := 2) hx hb dL_law_804 (by decide) ?_
  refine n_add (j := i) (k := 2) hx hb dL_law_805 ?_
  refine l_sld hx hb hX hbl h (show i + 2 < L by omega) hL dL_law_806 ?_
  refine lv_aload_n hx hb dL_law_807 rfl (lv_at hl 0 rfl) ?_
  refine lv_iload_n hx hb dL_law_808 rfl (lv_at hl 3 rfl) ?_
  refine lv_iconst (v := 3) hx hb dL_law_809 (by decide) ?_
  refine n_add (j := i) (k := 3) hx hb dL_law_810 ?_
  refine l_sld hx hb hX hbl h (show i + 3 < L by omega) hL dL_law_811 ?_
  refine l_i (wf := wX cy ax) (σ := σ) (wo := wM cy am μ) h (cvX cy ax σ) (wX_fst cy ax) (l_runV (wf := wX cy ax) (σ := σ) (As := [.int (xs (i + 1)), .int (xs (i + 2)), .int (xs (i + 3))]) (rest := []) E h (cvX cy ax σ) (c_X11_dry l D cy ax σ (xs (i + 1)) (xs (i + 2)) (xs (i + 3)) g.1) co_X11_dry ml_L_91 im_X11_dry se_X11_dry in_X11 (eX_0 cy ax σ) rfl ok_X11_dry rfl ⟨by decide, by decide⟩ hl.1 rfl (Nat.le_of_ble_eq_true rfl) dL_law_812 ⟨Nat.le_refl _, Nat.le_refl _⟩) (fun r τ H locs pX h => ?_)
  refine lv_pop hx hb dL_law_815 rfl ?_
  refine lv_aload_n hx hb dL_law_816 rfl (lv_at hl 2 rfl) ?_
  refine lv_aload_n hx hb dL_law_817 rfl (lv_at hl 0 rfl) ?_
  refine lv_iload_n hx hb dL_law_818 rfl (lv_at hl 3 rfl) ?_
  refine lv_iconst (v := 1) hx hb dL_law_819 (by decide) ?_
  refine n_add (j := i) (k := 1) hx hb dL_law_820 ?_
  refine l_sld hx hb hX hbl h (show i + 1 < L by omega) hL dL_law_821 ?_
  refine lv_aload_n hx hb dL_law_822 rfl (lv_at hl 0 rfl) ?_
  refine lv_iload_n hx hb dL_law_823 rfl (lv_at hl 3 rfl) ?_
  refine lv_iconst (v := 2) hx hb dL_law_824 (by decide) ?_
  refine n_add (j := i) (k := 2) hx hb dL_law_825 ?_
  refine l_sld hx hb hX hbl h (show i + 2 < L by omega) hL dL_law_826 ?_
  refine lv_aload_n hx hb dL_law_827 rfl (lv_at hl 0 rfl) ?_
  refine lv_iload_n hx hb dL_law_828 rfl (lv_at hl 3 rfl) ?_
  refine lv_iconst (v := 3) hx hb dL_law_829 (by decide) ?_
  refine n_add (j := i) (k := 3) hx hb dL_law_830 ?_
  refine l_sld hx hb hX hbl h (show i + 3 < L by omega) hL dL_law_831 ?_
  refine l_i (wf := wM cy am) (σ := μ) (wo := wX cy ax τ) h.swap (cvM cy am μ) (wM_fst cy am) (l_runV (wf := wM cy am) (σ := μ) (As := [.int (xs (i + 1)), .int (xs (i + 2)), .int (xs (i + 3))]) (rest := []) E h.swap (cvM cy am μ) (c_X12_dry l D cy am μ (xs (i + 1)) (xs (i + 2)) (xs (i + 3)) g.2.1) co_X12_dry ml_L_94 im_X12_dry se_X12_dry in_X12 (eM_0 cy am μ) rfl ok_X12_dry rfl ⟨by decide, by decide⟩ hl.1 rfl (Nat.le_of_ble_eq_true rfl) dL_law_832 ⟨Nat.le_refl _, Nat.le_refl _⟩) (fun r2 ν H locs pM h => ?_)
  replace h := h.swap
  refine lv_pop hx hb dL_law_835 rfl ?_
  refine lv_goto (tgt := 1050) hx hb dL_law_836 (by decide) ?_
  exact kk τ ν H locs (inv_K g.1 g.2.1 g.2.2 pX pM) h

set_option maxHeartbeats 4000000 in
set_option maxRecDepth 100000 in
theorem lc_19 {p : Program} {e : Env} {s : State} {m : MethodId} {below : List Frame} {meth : Method} {c : Code} {Q : State → Prop} {D : va_G} {cy : Nat → ClassId} {ls : Array Slot} {H : Heap} {locs : List Loc} (l : Launch) {b L i : Nat} {xs : Nat → Int32} (ax am : Nat → Nat) (adK adV : Nat → Nat) (σ μ : St) (E : EV p s m c #[Value.ref b] cL_law RL 4 D cy) (hX : va_X b L xs s s.heap) (hbl : b < s.heap.size) (hz : SZ adK adV (LA s) s) (hL : L ≤ 3072) (hi : i + 6 ≤ L) (hl : lv_has ls 4 [(0, .ref b), (1, .ref (ax 0)), (2, .ref (am 0)), (3, .int (nI i))]) (h : HW D (LA s) s (wX cy ax σ ++ wM cy am μ) H locs) (g : INV σ μ)
    (kk : ∀ (τ ν : St) (H : Heap) (locs : List Loc), INV τ ν → HW D (LA s) s (wX cy ax τ ++ wM cy am ν) H locs → W p l e room_1 s m #[Value.ref b] below meth c H locs 600000 7302250 Q (F0 m 1050 ls [])) : W p l e room_1 s m #[Value.ref b] below meth c H locs 600000 7302250 Q (F0 m 839 ls []) := by
  have hx := E.1
  have hb := E.2.1
  refine lv_aload_n hx hb dL_law_839 rfl (lv_at hl 1 rfl) ?_
  refine lv_aload_n hx hb dL_law_840 rfl (lv_at hl 0 rfl) ?_
  refine lv_iload_n hx hb dL_law_841 rfl (lv_at hl 3 rfl) ?_
  refine lv_iconst (v := 1) hx hb dL_law_842 (by decide) ?_
  refine n_add (j := i) (k := 1) hx hb dL_law_843 ?_
  refine l_sld hx hb hX hbl h (show i + 1 < L by omega) hL dL_law_844 ?_
  refine lv_aload_n hx hb dL_law_845 rfl (lv_at hl 0 rfl) ?_
  refine lv_iload_n hx hb dL_law_846 rfl (lv_at hl 3 rfl) ?_
  refine lv_iconst (v := 2) hx hb dL_law_847 (by decide) ?_
  refine n_add (j := i) (k := 2) hx hb dL_law_848 ?_
  refine l_sld hx hb hX hbl h (show i + 2 < L by omega) hL dL_law_849 ?_
  refine l_i (wf := wX cy ax) (σ := σ) (wo := wM cy am μ) h (cvX cy ax σ) (wX_fst cy ax) (l_runV (wf := wX cy ax) (σ := σ) (As := [.int (xs (i + 1)), .int (xs (i + 2))]) (rest := []) E h (cvX cy ax σ) (c_X11_found l D cy ax σ (xs (i + 1)) (xs (i + 2)) g.1) co_X11_found ml_L_95 im_X11_found se_X11_found in_X11 (eX_0 cy ax σ) rfl ok_X11_found rfl ⟨by decide, by decide⟩ hl.1 rfl (Nat.le_of_ble_eq_true rfl) dL_law_850 ⟨Nat.le_refl _, Nat.le_refl _⟩) (fun r τ H locs pX h => ?_)
  refine lv_pop hx hb dL_law_853 rfl ?_
  refine lv_aload_n hx hb dL_law_854 rfl (lv_at hl 2 rfl) ?_
  refine lv_aload_n hx hb dL_law_855 rfl (lv_at hl 0 rfl) ?_
  refine lv_iload_n hx hb dL_law_856 rfl (lv_at hl 3 rfl) ?_
  refine lv_iconst (v := 1) hx hb dL_law_857 (by decide) ?_
  refine n_add (j := i) (k := 1) hx hb dL_law_858 ?_
  refine l_sld hx hb hX hbl h (show i + 1 < L by omega) hL dL_law_859 ?_
  refine lv_aload_n hx hb dL_law_860 rfl (lv_at hl 0 rfl) ?_
  refine lv_iload_n hx hb dL_law_861 rfl (lv_at hl 3 rfl) ?_
  refine lv_iconst (v := 2) hx hb dL_law_862 (by decide) ?_
  refine n_add (j := i) (k := 2) hx hb dL_law_863 ?_
  refine l_sld hx hb hX hbl h (show i + 2 < L by omega) hL dL_law_864 ?_
  refine l_i (wf := wM cy am) (σ := μ) (wo := wX cy ax τ) h.swap (cvM cy am μ) (wM_fst cy am) (l_runV (wf := wM cy am) (σ := μ) (As := [.int (xs (i + 1)), .int (xs (i + 2))]) (rest := []) E h.swap (cvM cy am μ) (c_X12_found l D cy am μ (xs (i + 1)) (xs (i + 2)) g.2.1) co_X12_found ml_L_98 im_X12_found se_X12_found in_X12 (eM_0 cy am μ) rfl ok_X12_found rfl ⟨by decide, by decide⟩ hl.1 rfl (Nat.le_of_ble_eq_true rfl) dL_law_865 ⟨Nat.le_refl _, Nat.le_refl _⟩) (fun r2 ν H locs pM h => ?_)
  replace h := h.swap
  refine lv_pop hx hb dL_law_868 rfl ?_
  refine lv_goto (tgt := 1050) hx hb dL_law_869 (by decide) ?_
  exact kk τ ν H locs (inv_K g.1 g.2.1 g.2.2 pX pM) h

set_option maxHeartbeats 4000000 in
set_option maxRecDepth 100000 in
theorem lc_20 {p : Program} {e : Env} {s : State} {m : MethodId} {below : List Frame} {meth : Method} {c : Code} {Q : State → Prop} {D : va_G} {cy : Nat → ClassId} {ls : Array Slot} {H : Heap} {locs : List Loc} (l : Launch) {b L i : Nat} {xs : Nat → Int32} (ax am : Nat → Nat) (adK adV : Nat → Nat) (σ μ : St) (E : EV p s m c #[Value.ref b] cL_law RL 4 D cy) (hX : va_X b L xs s s.heap) (hbl : b < s.heap.size) (hz : SZ adK adV (LA s) s) (hL : L ≤ 3072) (hi : i + 6 ≤ L) (hl : lv_has ls 4 [(0, .ref b), (1, .ref (ax 0)), (2, .ref (am 0)), (3, .int (nI i))]) (h : HW D (LA s) s (wX cy ax σ ++ wM cy am μ) H locs) (g : INV σ μ)
    (kk : ∀ (τ ν : St) (H : Heap) (locs : List Loc), INV τ ν → HW D (LA s) s (wX cy ax τ ++ wM cy am ν) H locs → W p l e room_1 s m #[Value.ref b] below meth c H locs 600000 7302250 Q (F0 m 1050 ls [])) : W p l e room_1 s m #[Value.ref b] below meth c H locs 600000 7302250 Q (F0 m 872 ls []) := by
  have hx := E.1
  have hb := E.2.1
  refine lv_aload_n hx hb dL_law_872 rfl (lv_at hl 1 rfl) ?_
  refine lv_aload_n hx hb dL_law_873 rfl (lv_at hl 0 rfl) ?_
  refine lv_iload_n hx hb dL_law_874 rfl (lv_at hl 3 rfl) ?_
  refine lv_iconst (v := 1) hx hb dL_law_875 (by decide) ?_
  refine n_add (j := i) (k := 1) hx hb dL_law_876 ?_
  refine l_sld hx hb hX hbl h (show i + 1 < L by omega) hL dL_law_877 ?_
  refine lv_aload_n hx hb dL_law_878 rfl (lv_at hl 0 rfl) ?_
  refine lv_iload_n hx hb dL_law_879 rfl (lv_at hl 3 rfl) ?_
  refine lv_iconst (v := 2) hx hb dL_law_880 (by decide) ?_
  refine n_add (j := i) (k := 2) hx hb dL_law_881 ?_
  refine l_sld hx hb hX hbl h (show i + 2 < L by omega) hL dL_law_882 ?_
  refine lv_aload_n hx hb dL_law_883 rfl (lv_at hl 0 rfl) ?_
  refine lv_iload_n hx hb dL_law_884 rfl (lv_at hl 3 rfl) ?_
  refine lv_iconst (v := 3) hx hb dL_law_885 (by decide) ?_
  refine n_add (j := i) (k := 3) hx hb dL_law_886 ?_
  refine l_sld hx hb hX hbl h (show i + 3 < L by omega) hL dL_law_887 ?_
  refine lv_aload_n hx hb dL_law_888 rfl (lv_at hl 0 rfl) ?_
  refine lv_iload_n hx hb dL_law_889 rfl (lv_at hl 3 rfl) ?_
  refine lv_iconst (v := 4) hx hb dL_law_890 (by decide) ?_
  refine n_add (j := i) (k := 4) hx hb dL_law_891 ?_
  refine l_sld hx hb hX hbl h (show i + 4 < L by omega) hL dL_law_892 ?_
  refine l_i (wf := wX cy ax) (σ := σ) (wo := wM cy am μ) h (cvX cy ax σ) (wX_fst cy ax) (l_runV (wf := wX cy ax) (σ := σ) (As := [.int (xs (i + 1)), .int (xs (i + 2)), .int (xs (i + 3)), .int (xs (i + 4))]) (rest := []) E h (cvX cy ax σ) (c_X11_best l D cy ax σ (xs (i + 1)) (xs (i + 2)) (xs (i + 3)) (xs (i + 4)) g.1) co_X11_best ml_L_99 im_X11_best se_X11_best in_X11 (eX_0 cy ax σ) rfl ok_X11_best rfl ⟨by decide, by decide⟩ hl.1 rfl (Nat.le_of_ble_eq_true rfl) dL_law_893 ⟨Nat.le_refl _, Nat.le_refl _⟩) (fun r τ H locs pX h => ?_)
  refine lv_pop hx hb dL_law_896 rfl ?_
  refine lv_aload_n hx hb dL_law_897 rfl (lv_at hl 2 rfl) ?_
  refine lv_aload_n hx hb dL_law_898 rfl (lv_at hl 0 rfl) ?_
  refine lv_iload_n hx hb dL_law_899 rfl (lv_at hl 3 rfl) ?_
  refine lv_iconst (v := 1) hx hb dL_law_900 (by decide) ?_
  refine n_add (j := i) (k := 1) hx hb dL_law_901 ?_
  refine l_sld hx hb hX hbl h (show i + 1 < L by omega) hL dL_law_902 ?_
  refine lv_aload_n hx hb dL_law_903 rfl (lv_at hl 0 rfl) ?_
  refine lv_iload_n hx hb dL_law_904 rfl (lv_at hl 3 rfl) ?_
  refine lv_iconst (v := 2) hx hb dL_law_905 (by decide) ?_
  refine n_add (j := i) (k := 2) hx hb dL_law_906 ?_
  refine l_sld hx hb hX hbl h (show i + 2 < L by omega) hL dL_law_907 ?_
  refine lv_aload_n hx hb dL_law_908 rfl (lv_at hl 0 rfl) ?_
  refine lv_iload_n hx hb dL_law_909 rfl (lv_at hl 3 rfl) ?_
  refine lv_iconst (v := 3) hx hb dL_law_910 (by decide) ?_
  refine n_add (j := i) (k := 3) hx hb dL_law_911 ?_
  refine l_sld hx hb hX hbl h (show i + 3 < L by omega) hL dL_law_912 ?_
  refine lv_aload_n hx hb dL_law_913 rfl (lv_at hl 0 rfl) ?_
  refine lv_iload_n hx hb dL_law_914 rfl (lv_at hl 3 rfl) ?_
  refine lv_iconst (v := 4) hx hb dL_law_915 (by decide) ?_
  refine n_add (j := i) (k := 4) hx hb dL_law_916 ?_
  refine l_sld hx hb hX hbl h (show i + 4 < L by omega) hL dL_law_917 ?_
  refine l_i (wf := wM cy am) (σ := μ) (wo := wX cy ax τ) h.swap (cvM cy am μ) (wM_fst cy am) (l_runV (wf := wM cy am) (σ := μ) (As := [.int (xs (i + 1)), .int (xs (i + 2)), .int (xs (i + 3)), .int (xs (i + 4))]) (rest := []) E h.swap (cvM cy am μ) (c_X12_best l D cy am μ (xs (i + 1)) (xs (i + 2)) (xs (i + 3)) (xs (i + 4)) g.2.1) co_X12_best ml_L_102 im_X12_best se_X12_best in_X12 (eM_0 cy am μ) rfl ok_X12_best rfl ⟨by decide, by decide⟩ hl.1 rfl (Nat.le_of_ble_eq_true rfl) dL_law_918 ⟨Nat.le_refl _, Nat.le_refl _⟩) (fun r2 ν H locs pM h => ?_)
  replace h := h.swap
  refine lv_pop hx hb dL_law_921 rfl ?_
  refine lv_goto (tgt := 1050) hx hb dL_law_922 (by decide) ?_
  exact kk τ ν H locs (st_best g pX pM) h

set_option maxHeartbeats 4000000 in
set_option maxRecDepth 100000 in
theorem lc_21 {p : Program} {e : Env} {s : State} {m : MethodId} {below : List Frame} {meth : Method} {c : Code} {Q : State → Prop} {D : va_G} {cy : Nat → ClassId} {ls : Array Slot} {H : Heap} {locs : List Loc} (l : Launch) {b L i : Nat} {xs : Nat → Int32} (ax am : Nat → Nat) (adK adV : Nat → Nat) (σ μ : St) (E : EV p s m c #[Value.ref b] cL_law RL 4 D cy) (hX : va_X b L xs s s.heap) (hbl : b < s.heap.size) (hz : SZ adK adV (LA s) s) (hL : L ≤ 3072) (hi : i + 6 ≤ L) (hl : lv_has ls 4 [(0, .ref b), (1, .ref (ax 0)), (2, .ref (am 0)), (3, .int (nI i))]) (h : HW D (LA s) s (wX cy ax σ ++ wM cy am μ) H locs) (g : INV σ μ)
    (kk : ∀ (τ ν : St) (H : Heap) (locs : List Loc), INV τ ν → HW D (LA s) s (wX cy ax τ ++ wM cy am ν) H locs → W p l e room_1 s m #[Value.ref b] below meth c H locs 600000 7302250 Q (F0 m 1050 ls [])) : W p l e room_1 s m #[Value.ref b] below meth c H locs 600000 7302250 Q (F0 m 925 ls []) := by
  have hx := E.1
  have hb := E.2.1
  refine lv_aload_n hx hb dL_law_925 rfl (lv_at hl 1 rfl) ?_
  refine lv_aload_n hx hb dL_law_926 rfl (lv_at hl 0 rfl) ?_
  refine lv_iload_n hx hb dL_law_927 rfl (lv_at hl 3 rfl) ?_
  refine lv_iconst (v := 1) hx hb dL_law_928 (by decide) ?_
  refine n_add (j := i) (k := 1) hx hb dL_law_929 ?_
  refine l_sld hx hb hX hbl h (show i + 1 < L by omega) hL dL_law_930 ?_
  refine lv_aload_n hx hb dL_law_931 rfl (lv_at hl 0 rfl) ?_
  refine lv_iload_n hx hb dL_law_932 rfl (lv_at hl 3 rfl) ?_
  refine lv_iconst (v := 2) hx hb dL_law_933 (by decide) ?_
  refine n_add (j := i) (k := 2) hx hb dL_law_934 ?_
  refine l_sld hx hb hX hbl h (show i + 2 < L by omega) hL dL_law_935 ?_
  refine l_l (wf := wX cy ax) (σ := σ) (wo := wM cy am μ) h (cvX cy ax σ) (wX_fst cy ax) (l_runV (wf := wX cy ax) (σ := σ) (As := [.int (xs (i + 1)), .int (xs (i + 2))]) (rest := []) E h (cvX cy ax σ) (c_X11_rent l D cy ax σ (xs (i + 1)) (xs (i + 2)) g.1) co_X11_rent ml_L_103 im_X11_rent se_X11_rent in_X11 (eX_0 cy ax σ) rfl ok_X11_rent rfl ⟨by decide, by decide⟩ hl.1 rfl (Nat.le_of_ble_eq_true rfl) dL_law_936 ⟨Nat.le_refl _, Nat.le_refl _⟩) (fun r τ H locs pX h => ?_)
  refine lv_pop2_2 hx hb dL_law_939 rfl ?_
  refine lv_aload_n hx hb dL_law_940 rfl (lv_at hl 2 rfl) ?_
  refine lv_aload_n hx hb dL_law_941 rfl (lv_at hl 0 rfl) ?_
  refine lv_iload_n hx hb dL_law_942 rfl (lv_at hl 3 rfl) ?_
  refine lv_iconst (v := 1) hx hb dL_law_943 (by decide) ?_
  refine n_add (j := i) (k := 1) hx hb dL_law_944 ?_
  refine l_sld hx hb hX hbl h (show i + 1 < L by omega) hL dL_law_945 ?_
  refine lv_aload_n hx hb dL_law_946 rfl (lv_at hl 0 rfl) ?_
  refine lv_iload_n hx hb dL_law_947 rfl (lv_at hl 3 rfl) ?_
  refine lv_iconst (v := 2) hx hb dL_law_948 (by decide) ?_
  refine n_add (j := i) (k := 2) hx hb dL_law_949 ?_
  refine l_sld hx hb hX hbl h (show i + 2 < L by omega) hL dL_law_950 ?_
  refine l_l (wf := wM cy am) (σ := μ) (wo := wX cy ax τ) h.swap (cvM cy am μ) (wM_fst cy am) (l_runV (wf := wM cy am) (σ := μ) (As := [.int (xs (i + 1)), .int (xs (i + 2))]) (rest := []) E h.swap (cvM cy am μ) (c_X12_rent l D cy am μ (xs (i + 1)) (xs (i + 2)) g.2.1) co_X12_rent ml_L_107 im_X12_rent se_X12_rent in_X12 (eM_0 cy am μ) rfl ok_X12_rent rfl ⟨by decide, by decide⟩ hl.1 rfl (Nat.le_of_ble_eq_true rfl) dL_law_951 ⟨Nat.le_refl _, Nat.le_refl _⟩) (fun r2 ν H locs pM h => ?_)
  replace h := h.swap
  refine lv_pop2_2 hx hb dL_law_954 rfl ?_
  refine lv_goto (tgt := 1050) hx hb dL_law_955 (by decide) ?_
  exact kk τ ν H locs (inv_K g.1 g.2.1 g.2.2 pX pM) h

set_option maxHeartbeats 4000000 in
set_option maxRecDepth 100000 in
theorem lc_22 {p : Program} {e : Env} {s : State} {m : MethodId} {below : List Frame} {meth : Method} {c : Code} {Q : State → Prop} {D : va_G} {cy : Nat → ClassId} {ls : Array Slot} {H : Heap} {locs : List Loc} (l : Launch) {b L i : Nat} {xs : Nat → Int32} (ax am : Nat → Nat) (adK adV : Nat → Nat) (σ μ : St) (E : EV p s m c #[Value.ref b] cL_law RL 4 D cy) (hX : va_X b L xs s s.heap) (hbl : b < s.heap.size) (hz : SZ adK adV (LA s) s) (hL : L ≤ 3072) (hi : i + 6 ≤ L) (hl : lv_has ls 4 [(0, .ref b), (1, .ref (ax 0)), (2, .ref (am 0)), (3, .int (nI i))]) (h : HW D (LA s) s (wX cy ax σ ++ wM cy am μ) H locs) (g : INV σ μ)
    (kk : ∀ (τ ν : St) (H : Heap) (locs : List Loc), INV τ ν → HW D (LA s) s (wX cy ax τ ++ wM cy am ν) H locs → W p l e room_1 s m #[Value.ref b] below meth c H locs 600000 7302250 Q (F0 m 1050 ls [])) : W p l e room_1 s m #[Value.ref b] below meth c H locs 600000 7302250 Q (F0 m 958 ls []) := by
  have hx := E.1
  have hb := E.2.1
  refine lv_aload_n hx hb dL_law_958 rfl (lv_at hl 1 rfl) ?_
  refine lv_aload_n hx hb dL_law_959 rfl (lv_at hl 0 rfl) ?_
  refine lv_iload_n hx hb dL_law_960 rfl (lv_at hl 3 rfl) ?_
  refine lv_iconst (v := 1) hx hb dL_law_961 (by decide) ?_
  refine n_add (j := i) (k := 1) hx hb dL_law_962 ?_
  refine l_sld hx hb hX hbl h (show i + 1 < L by omega) hL dL_law_963 ?_
  refine l_l (wf := wX cy ax) (σ := σ) (wo := wM cy am μ) h (cvX cy ax σ) (wX_fst cy ax) (l_runV (wf := wX cy ax) (σ := σ) (As := [.int (xs (i + 1))]) (rest := []) E h (cvX cy ax σ) (c_X11_fines l D cy ax σ (xs (i + 1)) g.1) co_X11_fines ml_L_108 im_X11_fines se_X11_fines in_X11 (eX_0 cy ax σ) rfl ok_X11_fines rfl ⟨by decide, by decide⟩ hl.1 rfl (Nat.le_of_ble_eq_true rfl) dL_law_964 ⟨Nat.le_refl _, Nat.le_refl _⟩) (fun r τ H locs pX h => ?_)
  refine lv_pop2_2 hx hb dL_law_967 rfl ?_
  refine lv_aload_n hx hb dL_law_968 rfl (lv_at hl 2 rfl) ?_
  refine lv_aload_n hx hb dL_law_969 rfl (lv_at hl 0 rfl) ?_
  refine lv_iload_n hx hb dL_law_970 rfl (lv_at hl 3 rfl) ?_
  refine lv_iconst (v := 1) hx hb dL_law_971 (by decide) ?_
  refine n_add (j := i) (k := 1) hx hb dL_law_972 ?_
  refine l_sld hx hb hX hbl h (show i + 1 < L by omega) hL dL_law_973 ?_
  refine l_l (wf := wM cy am) (σ := μ) (wo := wX cy ax τ) h.swap (cvM cy am μ) (wM_fst cy am) (l_runV (wf := wM cy am) (σ := μ) (As := [.int (xs (i + 1))]) (rest := []) E h.swap (cvM cy am μ) (c_X12_fines l D cy am μ (xs (i + 1)) g.2.1) co_X12_fines ml_L_112 im_X12_fines se_X12_fines in_X12 (eM_0 cy am μ) rfl ok_X12_fines rfl ⟨by decide, by decide⟩ hl.1 rfl (Nat.le_of_ble_eq_true rfl) dL_law_974 ⟨Nat.le_refl _, Nat.le_refl _⟩) (fun r2 ν H locs pM h => ?_)
  replace h := h.swap
  refine lv_pop2_2 hx hb dL_law_977 rfl ?_
  refine lv_goto (tgt := 1050) hx hb dL_law_978 (by decide) ?_
  exact kk τ ν H locs (inv_K g.1 g.2.1 g.2.2 pX pM) h

set_option maxHeartbeats 4000000 in
set_option maxRecDepth 100000 in
theorem lc_23 {p : Program} {e : Env} {s : State} {m : MethodId} {below : List Frame} {meth : Method} {c : Code} {Q : State → Prop} {D : va_G} {cy : Nat → ClassId} {ls : Array Slot} {H : Heap} {locs : List Loc} (l : Launch) {b L i : Nat} {xs : Nat → Int32} (ax am : Nat → Nat) (adK adV : Nat → Nat) (σ μ : St) (E : EV p s m c #[Value.ref b] cL_law RL 4 D cy) (hX : va_X b L xs s s.heap) (hbl : b < s.heap.size) (hz : SZ adK adV (LA s) s) (hL : L ≤ 3072) (hi : i + 6 ≤ L) (hl : lv_has ls 4 [(0, .ref b), (1, .ref (ax 0)), (2, .ref (am 0)), (3, .int (nI i))]) (h : HW D (LA s) s (wX cy ax σ ++ wM cy am μ) H locs) (g : INV σ μ)
    (kk : ∀ (τ ν : St) (H : Heap) (locs : List Loc), INV τ ν → HW D (LA s) s (wX cy ax τ ++ wM cy am ν) H locs → W p l e room_1 s m #[Value.ref b] below meth c H locs 600000 7302250 Q (F0 m 1050 ls [])) : W p l e room_1 s m #[Value.ref b] below meth c H locs 600000 7302250 Q (F0 m 981 ls []) := by
  have hx := E.1
  have hb := E.2.1
  refine lv_aload_n hx hb dL_law_981 rfl (lv_at hl 1 rfl) ?_
  refine lv_aload_n hx hb dL_law_982 rfl (lv_at hl 0 rfl) ?_
  refine lv_iload_n hx hb dL_law_983 rfl (lv_at hl 3 rfl) ?_
  refine lv_iconst (v := 1) hx hb dL_law_984 (by decide) ?_
  refine n_add (j := i) (k := 1) hx hb dL_law_985 ?_
  refine l_sld hx hb hX hbl h (show i + 1 < L by omega) hL dL_law_986 ?_
  refine lv_aload_n hx hb dL_law_987 rfl (lv_at hl 0 rfl) ?_
  refine lv_iload_n hx hb dL_law_988 rfl (lv_at hl 3 rfl) ?_
  refine lv_iconst (v := 2) hx hb dL_law_989 (by decide) ?_
  refine n_add (j := i) (k := 2) hx hb dL_law_990 ?_
  refine l_sld hx hb hX hbl h (show i + 2 < L by omega) hL dL_law_991 ?_
  obtain ⟨q9, hq4, hq⟩ := id g.1.2.2.2.2.2.2.1.2.2.2
  obtain ⟨n9, hn6, hn, _⟩ := id g.1.2.2.1
  refine l_i (wf := wX cy ax) (σ := σ) (wo := wM cy am μ) h (cvX cy ax σ) (wX_fst cy ax) (l_runV (wf := wX cy ax) (σ := σ) (As := [.int (xs (i + 1)), .int (xs (i + 2))]) (rest := []) E h (cvX cy ax σ) (c_X11_dead l D cy ax σ (xs (i + 1)) (xs (i + 2)) g.1) co_X11_dead ml_L_113 im_X11_dead se_X11_dead in_X11 (eX_0 cy ax σ) rfl ok_X11_dead rfl ⟨by decide, by decide⟩ hl.1 rfl (Nat.le_of_ble_eq_true rfl) dL_law_992 ⟨Nat.le_refl _, Nat.le_refl _⟩) (fun r τ H locs pX h => ?_)
  refine lv_pop hx hb dL_law_995 rfl ?_
  refine lv_aload_n hx hb dL_law_996 rfl (lv_at hl 2 rfl) ?_
  refine lv_aload_n hx hb dL_law_997 rfl (lv_at hl 0 rfl) ?_
  refine lv_iload_n hx hb dL_law_998 rfl (lv_at hl 3 rfl) ?_
  refine lv_iconst (v := 1) hx hb dL_law_999 (by decide) ?_
  refine n_add (j := i) (k := 1) hx hb dL_law_1000 ?_
  refine l_sld hx hb hX hbl h (show i + 1 < L by omega) hL dL_law_1001 ?_
  refine lv_aload_n hx hb dL_law_1002 rfl (lv_at hl 0 rfl) ?_
  refine lv_iload_n hx hb dL_law_1003 rfl (lv_at hl 3 rfl) ?_
  refine lv_iconst (v := 2) hx hb dL_law_1004 (by decide) ?_
  refine n_add (j := i) (k := 2) hx hb dL_law_1005 ?_
  refine l_sld hx hb hX hbl h (show i + 2 < L by omega) hL dL_law_1006 ?_
  refine l_i (wf := wM cy am) (σ := μ) (wo := wX cy ax τ) h.swap (cvM cy am μ) (wM_fst cy am) (l_runV (wf := wM cy am) (σ := μ) (As := [.int (xs (i + 1)), .int (xs (i + 2))]) (rest := []) E h.swap (cvM cy am μ) (c_X12_dead l D cy am μ (xs (i + 1)) (xs (i + 2)) q9 n9 ((g.2.2.1 (0, 6) (by decide)).symm.trans hq) hq4 ((g.2.2.1 (9, 7) (by decide)).symm.trans hn) hn6) co_X12_dead ml_L_116 im_X12_dead se_X12_dead in_X12 (eM_0 cy am μ) rfl ok_X12_dead rfl ⟨by decide, by decide⟩ hl.1 rfl (Nat.le_of_ble_eq_true rfl) dL_law_1007 ⟨Nat.le_refl _, Nat.le_refl _⟩) (fun r2 ν H locs pM h => ?_)
  replace h := h.swap
  refine lv_pop hx hb dL_law_1010 rfl ?_
  refine lv_goto (tgt := 1050) hx hb dL_law_1011 (by decide) ?_
  exact kk τ ν H locs (inv_K g.1 g.2.1 g.2.2 pX pM.1) h

set_option maxHeartbeats 4000000 in
set_option maxRecDepth 100000 in
theorem lc_24 {p : Program} {e : Env} {s : State} {m : MethodId} {below : List Frame} {meth : Method} {c : Code} {Q : State → Prop} {D : va_G} {cy : Nat → ClassId} {ls : Array Slot} {H : Heap} {locs : List Loc} (l : Launch) {b L i : Nat} {xs : Nat → Int32} (ax am : Nat → Nat) (adK adV : Nat → Nat) (σ μ : St) (E : EV p s m c #[Value.ref b] cL_law RL 4 D cy) (hX : va_X b L xs s s.heap) (hbl : b < s.heap.size) (hz : SZ adK adV (LA s) s) (hL : L ≤ 3072) (hi : i + 6 ≤ L) (hl : lv_has ls 4 [(0, .ref b), (1, .ref (ax 0)), (2, .ref (am 0)), (3, .int (nI i))]) (h : HW D (LA s) s (wX cy ax σ ++ wM cy am μ) H locs) (g : INV σ μ)
    (kk : ∀ (τ ν : St) (H : Heap) (locs : List Loc), INV τ ν → HW D (LA s) s (wX cy ax τ ++ wM cy am ν) H locs → W p l e room_1 s m #[Value.ref b] below meth c H locs 600000 7302250 Q (F0 m 1050 ls [])) : W p l e room_1 s m #[Value.ref b] below meth c H locs 600000 7302250 Q (F0 m 1014 ls []) := by
  have hx := E.1
  have hb := E.2.1
  refine lv_aload_n hx hb dL_law_1014 rfl (lv_at hl 1 rfl) ?_
  refine lv_aload_n hx hb dL_law_1015 rfl (lv_at hl 0 rfl) ?_
  refine lv_iload_n hx hb dL_law_1016 rfl (lv_at hl 3 rfl) ?_
  refine lv_iconst (v := 1) hx hb dL_law_1017 (by decide) ?_
  refine n_add (j := i) (k := 1) hx hb dL_law_1018 ?_
  refine l_sld hx hb hX hbl h (show i + 1 < L by omega) hL dL_law_1019 ?_
  refine l_i (wf := wX cy ax) (σ := σ) (wo := wM cy am μ) h (cvX cy ax σ) (wX_fst cy ax) (l_runV (wf := wX cy ax) (σ := σ) (As := [.int (xs (i + 1))]) (rest := []) E h (cvX cy ax σ) (c_X11_count l D cy ax σ (xs (i + 1)) ) co_X11_count ml_L_117 im_X11_count se_X11_count in_X11 (eX_0 cy ax σ) rfl ok_X11_count rfl ⟨by decide, by decide⟩ hl.1 rfl (Nat.le_of_ble_eq_true rfl) dL_law_1020 ⟨Nat.le_refl _, Nat.le_refl _⟩) (fun r τ H locs pX h => ?_)
  refine lv_pop hx hb dL_law_1023 rfl ?_
  refine lv_aload_n hx hb dL_law_1024 rfl (lv_at hl 2 rfl) ?_
  refine lv_aload_n hx hb dL_law_1025 rfl (lv_at hl 0 rfl) ?_
  refine lv_iload_n hx hb dL_law_1026 rfl (lv_at hl 3 rfl) ?_
  refine lv_iconst (v := 1) hx hb dL_law_1027 (by decide) ?_
  refine n_add (j := i) (k := 1) hx hb dL_law_1028 ?_
  refine l_sld hx hb hX hbl h (show i + 1 < L by omega) hL dL_law_1029 ?_
  refine l_i (wf := wM cy am) (σ := μ) (wo := wX cy ax τ) h.swap (cvM cy am μ) (wM_fst cy am) (l_runV (wf := wM cy am) (σ := μ) (As := [.int (xs (i + 1))]) (rest := []) E h.swap (cvM cy am μ) (c_X12_count l D cy am μ (xs (i + 1)) ) co_X12_count ml_L_120 im_X12_count se_X12_count in_X12 (eM_0 cy am μ) rfl ok_X12_count rfl ⟨by decide, by decide⟩ hl.1 rfl (Nat.le_of_ble_eq_true rfl) dL_law_1030 ⟨Nat.le_refl _, Nat.le_refl _⟩) (fun r2 ν H locs pM h => ?_)
  replace h := h.swap
  refine lv_pop hx hb dL_law_1033 rfl ?_
  refine lv_goto (tgt := 1050) hx hb dL_law_1034 (by decide) ?_
  exact kk τ ν H locs (inv_K g.1 g.2.1 g.2.2 pX pM) h

set_option maxHeartbeats 4000000 in
set_option maxRecDepth 100000 in
theorem lc_25 {p : Program} {e : Env} {s : State} {m : MethodId} {below : List Frame} {meth : Method} {c : Code} {Q : State → Prop} {D : va_G} {cy : Nat → ClassId} {ls : Array Slot} {H : Heap} {locs : List Loc} (l : Launch) {b L i : Nat} {xs : Nat → Int32} (ax am : Nat → Nat) (adK adV : Nat → Nat) (σ μ : St) (E : EV p s m c #[Value.ref b] cL_law RL 4 D cy) (hX : va_X b L xs s s.heap) (hbl : b < s.heap.size) (hz : SZ adK adV (LA s) s) (hL : L ≤ 3072) (hi : i + 6 ≤ L) (hl : lv_has ls 4 [(0, .ref b), (1, .ref (ax 0)), (2, .ref (am 0)), (3, .int (nI i))]) (h : HW D (LA s) s (wX cy ax σ ++ wM cy am μ) H locs) (g : INV σ μ)
    (kk : ∀ (τ ν : St) (H : Heap) (locs : List Loc), INV τ ν → HW D (LA s) s (wX cy ax τ ++ wM cy am ν) H locs → W p l e room_1 s m #[Value.ref b] below meth c H locs 600000 7302250 Q (F0 m 1050 ls [])) : W p l e room_1 s m #[Value.ref b] below meth c H locs 600000 7302250 Q (F0 m 1037 ls []) := by
  have hx := E.1
  have hb := E.2.1
  refine lv_aload_n hx hb dL_law_1037 rfl (lv_at hl 1 rfl) ?_
  refine l_i (wf := wX cy ax) (σ := σ) (wo := wM cy am μ) h (cvX cy ax σ) (wX_fst cy ax) (l_runV (wf := wX cy ax) (σ := σ) (As := []) (rest := []) E h (cvX cy ax σ) (c_X11_status l D cy ax σ  ) co_X11_status ml_L_121 im_X11_status se_X11_status in_X11 (eX_0 cy ax σ) rfl ok_X11_status rfl ⟨by decide, by decide⟩ hl.1 rfl (Nat.le_of_ble_eq_true rfl) dL_law_1038 ⟨Nat.le_refl _, Nat.le_refl _⟩) (fun r τ H locs pX h => ?_)
  refine lv_pop hx hb dL_law_1041 rfl ?_
  refine lv_aload_n hx hb dL_law_1042 rfl (lv_at hl 2 rfl) ?_
  refine l_i (wf := wM cy am) (σ := μ) (wo := wX cy ax τ) h.swap (cvM cy am μ) (wM_fst cy am) (l_runV (wf := wM cy am) (σ := μ) (As := []) (rest := []) E h.swap (cvM cy am μ) (c_X12_status l D cy am μ  ) co_X12_status ml_L_124 im_X12_status se_X12_status in_X12 (eM_0 cy am μ) rfl ok_X12_status rfl ⟨by decide, by decide⟩ hl.1 rfl (Nat.le_of_ble_eq_true rfl) dL_law_1043 ⟨Nat.le_refl _, Nat.le_refl _⟩) (fun r2 ν H locs pM h => ?_)
  replace h := h.swap
  refine lv_pop hx hb dL_law_1046 rfl ?_
  refine lv_goto (tgt := 1050) hx hb dL_law_1047 (by decide) ?_
  exact kk τ ν H locs (inv_K g.1 g.2.1 g.2.2 pX pM) h
