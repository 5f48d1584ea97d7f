/-! THE CLAIM OUT OF ONE WALK OF THE LAW'S BODY. Your part is whole_start (and what it stands on); all else here is the same for every law, but numbers. -/
def R_law : String := "WaterOfficeLaw"
def lw_P (b : Addr) (xs : List Int32) (args : Array Value) (s : State) : Prop := args = #[.ref b] ∧ s.IntsAt b xs ∧ xs.length ≤ 3072 ∧ (Jvm.Cond.and given_1 narrow_1).before args s = true
def lw_Q (_ : Array Value) (s : State) (o : Outcome) (t : State) : Prop := o = .returned (some (.int 1)) ∧ Framed s o t [] 600000 7302250
def lw_Z (below : List Frame) (a : Array Value) (s : State) : State → Prop := fun t => ∃ o, t.status = .running ∧ Ended t below o ∧ lw_Q a s o t
/-- the law's own end, with 1 on the stack, nothing written that was there before, its room as the claim has it -/
theorem lw_ret {p : Program} {l : Launch} {e : Env} {s : State} {m : MethodId} {below : List Frame} {meth : Method} {c : Code} {b : Nat} (hx : p.tables.exec = Jvm.exec) (hb : c.code = code) (hr : meth.sig.returnType = ret) (hlocks : meth.locks = false) {pc : Nat} {H : Heap} {ls : Array Slot} (hdg : decode code pc = .ok (.ireturn, 1)) : W p l e room_1 s m #[Value.ref b] below meth c H [] 600000 7302250 (lw_Z below #[Value.ref b] s) (F0 m pc ls [.int 1]) := by
  intro T hT X
  obtain ⟨fs, hret, hrun, hended, hW, hframe⟩ := X.leave (v := some (.int 1)) (hlocks := hlocks) (fun h => by rw [hr] at h; cases h)
  have hmeth' : T.vm.method? m = some meth := X.method'
  refine ⟨T.setFrames fs, ?_, .returned (some (.int 1)), hrun, hended, rfl, ⟨_, rfl⟩, hW, hframe⟩
  jvm_step X.here [X.here.top, hx, hb, hdg, hmeth', hr, ret, narrow_b1]
  (try refine ⟨rfl, ?_⟩); (try refine ⟨rfl, ?_⟩)
  first | (intro acts; rw [hret _ acts rfl rfl rfl]) | rw [hret _ _ rfl rfl rfl]
  exact Steps.refl _
/-- what holds at the law's entry: the machine, the code, the tables' words (any of lw_tbl by 'hts w (by decide +kernel)'), the script of L ints xs at the cell b, what the Statement gives of the start (any of its parts by flat_of_before) -/
def lw_At (p : Program) (s : State) (m : MethodId) (meth : Method) (c : Code) (b L : Nat) (xs : Nat → Int32) : Prop :=
  p.tables.exec = Jvm.exec ∧ c.code = code ∧ meth.sig.returnType = ret ∧ c.maxLocals = 4 ∧ s.vm.findClass R_law = some m.cls ∧ (∀ w ∈ lw_tbl, w.before #[Value.ref b] s = true) ∧ va_X b L xs s s.heap ∧ b < s.heap.size ∧ meth.locks = false ∧ (Jvm.Cond.and given_1 narrow_1).before #[Value.ref b] s = true

set_option maxHeartbeats 4000000 in
set_option maxRecDepth 100000 in
theorem law_loop {p : Program} {e : Env} {s : State} {m : MethodId} {below : List Frame} {meth : Method} {c : Code} {D : va_G} {cy : Nat → ClassId} (l : Launch) {b L : Nat} {xs : Nat → Int32} (ax am : Nat → Nat) (adK adV : Nat → Nat) (E : EV p s m c #[Value.ref b] cL_law RL 4 D cy) (hrt : meth.sig.returnType = ret) (hlocks : meth.locks = false) (hX : va_X b L xs s s.heap) (hbl : b < s.heap.size) (hz : SZ adK adV (LA s) s) (hL : L ≤ 3072) : ∀ (f i : Nat) (σ μ : St) (H : Heap) (locs : List Loc) (ls : Array Slot), i ≤ L → L - i < f → INV σ μ → HW D (LA s) s (wX cy ax σ ++ wM cy am μ) H locs → lv_has ls 4 [(0, .ref b), (1, .ref (ax 0)), (2, .ref (am 0)), (3, .int (nI i))] → W p l e room_1 s m #[Value.ref b] below meth c H locs 600000 7302250 (lw_Z below #[Value.ref b] s) (F0 m 18 ls []) := by
  have hx := E.1
  have hb := E.2.1
  intro f
  induction f with
  | zero => intro i σ μ H locs ls _ hf; exact absurd hf (Nat.not_lt_zero _)
  | succ f ih =>
    intro i σ μ H locs ls hiL hf g h hl
    have e6 : (nI L - 6).toInt = (L : Int) - 6 := pk_sub_toInt (a := L) (b := 6) (by omega) (by decide)
    refine lv_iload_n hx hb dL_law_18 rfl (lv_at hl 3 rfl) ?_
    refine lv_aload_n hx hb dL_law_19 rfl (lv_at hl 0 rfl) ?_
    refine va_slen hx hb hX hbl (A := LA s) (Nat.not_le.mpr hbl) h.2.2 dL_law_20 ?_
    refine lv_bipush (v := 6) hx hb dL_law_21 (by decide) ?_
    refine lv_isub hx hb dL_law_23 ?_
    refine lv_icmp_gt (tgt := 1056) hx hb dL_law_24 (by decide) (fun c9 => ?_) (fun c9 => ?_)
    · refine lv_iconst (v := 1) hx hb dL_law_1056 (by decide) ?_
      refine va_forget (fun q hq => h.2.2.2.2 q hq) ?_
      exact lw_ret hx hb hrt hlocks dL_law_1057
    · have hi : i + 6 ≤ L := by
        have c8 : ¬ (nI L - 6) < nI i := c9
        rw [z_lt, e6, nI_toInt (by omega)] at c8
        omega
      refine lv_aload_n hx hb dL_law_27 rfl (lv_at hl 0 rfl) ?_
      refine lv_iload_n hx hb dL_law_28 rfl (lv_at hl 3 rfl) ?_
      refine l_sld hx hb hX hbl h (show i < L by omega) hL dL_law_29 ?_
      refine lv_bipush (v := 31) hx hb dL_law_30 (by decide) ?_
      refine lv_iand hx hb dL_law_32 ?_
      have kk : ∀ (τ ν : St) (H : Heap) (locs : List Loc), INV τ ν → HW D (LA s) s (wX cy ax τ ++ wM cy am ν) H locs → W p l e room_1 s m #[Value.ref b] below meth c H locs 600000 7302250 (lw_Z below #[Value.ref b] s) (F0 m 1050 ls []) := by
        intro τ ν H locs g h
        have e7 : nI i + Int32.ofInt 6 = nI (i + 6) := nI_add i 6
        refine lv_iinc (v := nI (i + 6)) (lv' := [(3, .int (nI (i + 6))), (0, .ref b), (1, .ref (ax 0)), (2, .ref (am 0))]) hx hb dL_law_1050 hl (k := 3) rfl e7 (by decide) rfl (fun ls hl => ?_)
        refine lv_goto (tgt := 18) hx hb dL_law_1053 (by decide) ?_
        exact ih (i + 6) τ ν _ _ _ hi (by omega) g h (lv_sub hl [1, 2, 3, 0] rfl)
      by_cases sw : (xs i &&& 31).toInt < 0 ∨ 25 < (xs i &&& 31).toInt
      · refine lv_tableOut (tgt := 1050) hx hb dL_law_33 sw (by decide) ?_
        exact kk σ μ H locs g h
      · rcases (show (xs i &&& 31).toInt = 0 ∨ (xs i &&& 31).toInt = 1 ∨ (xs i &&& 31).toInt = 2 ∨ (xs i &&& 31).toInt = 3 ∨ (xs i &&& 31).toInt = 4 ∨ (xs i &&& 31).toInt = 5 ∨ (xs i &&& 31).toInt = 6 ∨ (xs i &&& 31).toInt = 7 ∨ (xs i &&& 31).toInt = 8 ∨ (xs i &&& 31).toInt = 9 ∨ (xs i &&& 31).toInt = 10 ∨ (xs i &&& 31).toInt = 11 ∨ (xs i &&& 31).toInt = 12 ∨ (xs i &&& 31).toInt = 13 ∨ (xs i &&& 31).toInt = 14 ∨ (xs i &&& 31).toInt = 15 ∨ (xs i &&& 31).toInt = 16 ∨ (xs i &&& 31).toInt = 17 ∨ (xs i &&& 31).toInt = 18 ∨ (xs i &&& 31).toInt = 19 ∨ (xs i &&& 31).toInt = 20 ∨ (xs i &&& 31).toInt = 21 ∨ (xs i &&& 31).toInt = 22 ∨ (xs i &&& 31).toInt = 23 ∨ (xs i &&& 31).toInt = 24 ∨ (xs i &&& 31).toInt = 25 by omega) with e9 | e9 | e9 | e9 | e9 | e9 | e9 | e9 | e9 | e9 | e9 | e9 | e9 | e9 | e9 | e9 | e9 | e9 | e9 | e9 | e9 | e9 | e9 | e9 | e9 | e9
        · refine lv_tableIn (tgt := 152) hx hb dL_law_33 (by omega) (by omega) (by rw [e9]; rfl) (by decide) ?_
          exact lc_0 l ax am adK adV σ μ E hX hbl hz hL hi hl h g kk
        · refine lv_tableIn (tgt := 175) hx hb dL_law_33 (by omega) (by omega) (by rw [e9]; rfl) (by decide) ?_
          exact lc_1 l ax am adK adV σ μ E hX hbl hz hL hi hl h g kk
        · refine lv_tableIn (tgt := 218) hx hb dL_law_33 (by omega) (by omega) (by rw [e9]; rfl) (by decide) ?_
          exact lc_2 l ax am adK adV σ μ E hX hbl hz hL hi hl h g kk
        · refine lv_tableIn (tgt := 261) hx hb dL_law_33 (by omega) (by omega) (by rw [e9]; rfl) (by decide) ?_
          exact lc_3 l ax am adK adV σ μ E hX hbl hz hL hi hl h g kk
        · refine lv_tableIn (tgt := 274) hx hb dL_law_33 (by omega) (by omega) (by rw [e9]; rfl) (by decide) ?_
          exact lc_4 l ax am adK adV σ μ E hX hbl hz hL hi hl h g kk
        · refine lv_tableIn (tgt := 317) hx hb dL_law_33 (by omega) (by omega) (by rw [e9]; rfl) (by decide) ?_
          exact lc_5 l ax am adK adV σ μ E hX hbl hz hL hi hl h g kk
        · refine lv_tableIn (tgt := 370) hx hb dL_law_33 (by omega) (by omega) (by rw [e9]; rfl) (by decide) ?_
          exact lc_6 l ax am adK adV σ μ E hX hbl hz hL hi hl h g kk
        · refine lv_tableIn (tgt := 393) hx hb dL_law_33 (by omega) (by omega) (by rw [e9]; rfl) (by decide) ?_
          exact lc_7 l ax am adK adV σ μ E hX hbl hz hL hi hl h g kk
        · refine lv_tableIn (tgt := 446) hx hb dL_law_33 (by omega) (by omega) (by rw [e9]; rfl) (by decide) ?_
          exact lc_8 l ax am adK adV σ μ E hX hbl hz hL hi hl h g kk
        · refine lv_tableIn (tgt := 489) hx hb dL_law_33 (by omega) (by omega) (by rw [e9]; rfl) (by decide) ?_
          exact lc_9 l ax am adK adV σ μ E hX hbl hz hL hi hl h g kk
        · refine lv_tableIn (tgt := 512) hx hb dL_law_33 (by omega) (by omega) (by rw [e9]; rfl) (by decide) ?_
          exact lc_10 l ax am adK adV σ μ E hX hbl hz hL hi hl h g kk
        · refine lv_tableIn (tgt := 575) hx hb dL_law_33 (by omega) (by omega) (by rw [e9]; rfl) (by decide) ?_
          exact lc_11 l ax am adK adV σ μ E hX hbl hz hL hi hl h g kk
        · refine lv_tableIn (tgt := 598) hx hb dL_law_33 (by omega) (by omega) (by rw [e9]; rfl) (by decide) ?_
          exact lc_12 l ax am adK adV σ μ E hX hbl hz hL hi hl h g kk
        · refine lv_tableIn (tgt := 611) hx hb dL_law_33 (by omega) (by omega) (by rw [e9]; rfl) (by decide) ?_
          exact lc_13 l ax am adK adV σ μ E hX hbl hz hL hi hl h g kk
        · refine lv_tableIn (tgt := 624) hx hb dL_law_33 (by omega) (by omega) (by rw [e9]; rfl) (by decide) ?_
          exact lc_14 l ax am adK adV σ μ E hX hbl hz hL hi hl h g kk
        · refine lv_tableIn (tgt := 657) hx hb dL_law_33 (by omega) (by omega) (by rw [e9]; rfl) (by decide) ?_
          exact lc_15 l ax am adK adV σ μ E hX hbl hz hL hi hl h g kk
        · refine lv_tableIn (tgt := 700) hx hb dL_law_33 (by omega) (by omega) (by rw [e9]; rfl) (by decide) ?_
          exact lc_16 l ax am adK adV σ μ E hX hbl hz hL hi hl h g kk
        · refine lv_tableIn (tgt := 743) hx hb dL_law_33 (by omega) (by omega) (by rw [e9]; rfl) (by decide) ?_
          exact lc_17 l ax am adK adV σ μ E hX hbl hz hL hi hl h g kk
        · refine lv_tableIn (tgt := 796) hx hb dL_law_33 (by omega) (by omega) (by rw [e9]; rfl) (by decide) ?_
          exact lc_18 l ax am adK adV σ μ E hX hbl hz hL hi hl h g kk
        · refine lv_tableIn (tgt := 839) hx hb dL_law_33 (by omega) (by omega) (by rw [e9]; rfl) (by decide) ?_
          exact lc_19 l ax am adK adV σ μ E hX hbl hz hL hi hl h g kk
        · refine lv_tableIn (tgt := 872) hx hb dL_law_33 (by omega) (by omega) (by rw [e9]; rfl) (by decide) ?_
          exact lc_20 l ax am adK adV σ μ E hX hbl hz hL hi hl h g kk
        · refine lv_tableIn (tgt := 925) hx hb dL_law_33 (by omega) (by omega) (by rw [e9]; rfl) (by decide) ?_
          exact lc_21 l ax am adK adV σ μ E hX hbl hz hL hi hl h g kk
        · refine lv_tableIn (tgt := 958) hx hb dL_law_33 (by omega) (by omega) (by rw [e9]; rfl) (by decide) ?_
          exact lc_22 l ax am adK adV σ μ E hX hbl hz hL hi hl h g kk
        · refine lv_tableIn (tgt := 981) hx hb dL_law_33 (by omega) (by omega) (by rw [e9]; rfl) (by decide) ?_
          exact lc_23 l ax am adK adV σ μ E hX hbl hz hL hi hl h g kk
        · refine lv_tableIn (tgt := 1014) hx hb dL_law_33 (by omega) (by omega) (by rw [e9]; rfl) (by decide) ?_
          exact lc_24 l ax am adK adV σ μ E hX hbl hz hL hi hl h g kk
        · refine lv_tableIn (tgt := 1037) hx hb dL_law_33 (by omega) (by omega) (by rw [e9]; rfl) (by decide) ?_
          exact lc_25 l ax am adK adV σ μ E hX hbl hz hL hi hl h g kk
set_option maxHeartbeats 4000000 in
set_option maxRecDepth 100000 in
theorem whole_start {p : Program} {e : Env} {s : State} {m : MethodId} {below : List Frame} {meth : Method} {c : Code} (l : Launch) {b L : Nat} {xs : Nat → Int32} (hL : L ≤ 3072) (C0 : lw_At p s m meth c b L xs) : W p l e room_1 s m #[Value.ref b] below meth c s.heap [] 0 0 (lw_Z below #[Value.ref b] s) (entryFrame m ([Value.ref b] : List Value).toArray 4) := by
  obtain ⟨hx, hb, hr, hml, hown, hts, hX, hbl, hlocks, hgv⟩ := id C0
  obtain ⟨D, cy, hKK, haoa⟩ := k_start hts aoa_tbl
  obtain ⟨adK, adV, hz⟩ := sz_start hts hgv
  have E : EV p s m c #[Value.ref b] cL_law RL 4 D cy := ⟨hx, hb, hml, hown, fun w hw => hts w (List.mem_filter.mp hw).1, hKK⟩
  have hA : ∀ q : Nat, s.heap.size ≤ q → LA s q := fun _ h => h
  have h : HW D (LA s) s [] s.heap [] := ⟨fun k q h => by simp at h, ⟨fun i j p q h => by simp at h, fun k q h => by simp at h⟩, va_S.rf⟩
  have hl := lv_entry ([.ref b]) (n := 4) (Nat.le_of_ble_eq_true rfl)
  rw [lg_entry_eq]
  generalize (lg_sl ([.ref b]) ++ List.replicate (4 - (lg_sl ([.ref b])).length) Slot.unset).toArray = ls at hl ⊢
  have hl : lv_has ls 4 [(0, .ref b)] := hl
  refine r_new E h hA (ci := 11) (fs := [.null, .null, .null, .null, .null, .null, .null, .null, .null, .null, .null, .int 0, .int 0, .int 0]) fw_X11 tyX11_ok cl_L_7 is_X11 in_X11 rfl (by decide +kernel) (Nat.le_of_ble_eq_true rfl) (Nat.le_of_ble_eq_true rfl) dL_law_0 (fun q0 H h => ?_)
  replace h : HW D (LA s) s [(q0, .inr (11, [.null, .null, .null, .null, .null, .null, .null, .null, .null, .null, .null, .int 0, .int 0, .int 0]))] H [] := h
  refine lv_dup hx hb dL_law_3 rfl ?_
  refine n_call h hA (wc := [(q0, .inr (11, [.null, .null, .null, .null, .null, .null, .null, .null, .null, .null, .null, .int 0, .int 0, .int 0]))]) (wr := []) [0] [] rfl rfl (by decide) (by decide) (nz_runI (As := []) (rest := [.ref q0]) E h [0] (by decide) rfl haoa (n_X11 l D cy q0 H.size) co_X11_init ml_L_9 im_X11_init in_X11 rfl ok_X11_init rfl ⟨by decide, by decide⟩ hl.1 rfl (Nat.le_of_ble_eq_true rfl) dL_law_4 ⟨Nat.le_of_ble_eq_true rfl, Nat.le_of_ble_eq_true rfl⟩) (fun u H locs h => ?_)
  replace h : HW D (LA s) s (wX cy (h0a q0 u) σX0) H locs := h
  refine lv_astore_n (lv' := [(1, .ref q0), (0, .ref b)]) hx hb dL_law_7 rfl hl (by decide) rfl (fun ls hl => ?_)
  refine r_new E h hA (ci := 12) (fs := [.int 0, .int 0, .int 0, .int 0, .null, .int 0, .null, .null, .null, .int 0, .null, .null, .null, .int 0, .int 0, .null, .null, .null, .int 0, .null, .null, .null, .null, .null, .null, .int 0, .null, .null, .null, .null, .int 0, .null, .null, .null, .int 0, .null, .null, .null, .null, .null, .int 0, .null, .int 0, .int 0, .int 0, .int 0, .long 0, .int 0, .int 0, .null, .null, .null, .null, .null, .null, .null, .null, .null, .null, .int 0]) fw_X12 tyX12_ok cl_L_10 is_X12 in_X12 rfl (by decide +kernel) (Nat.le_of_ble_eq_true rfl) (Nat.le_of_ble_eq_true rfl) dL_law_8 (fun q1 H h => ?_)
  refine lv_dup hx hb dL_law_11 rfl ?_
  refine n_call h hA (wc := [(q1, .inr (12, [.int 0, .int 0, .int 0, .int 0, .null, .int 0, .null, .null, .null, .int 0, .null, .null, .null, .int 0, .int 0, .null, .null, .null, .int 0, .null, .null, .null, .null, .null, .null, .int 0, .null, .null, .null, .null, .int 0, .null, .null, .null, .int 0, .null, .null, .null, .null, .null, .int 0, .null, .int 0, .int 0, .int 0, .int 0, .long 0, .int 0, .int 0, .null, .null, .null, .null, .null, .null, .null, .null, .null, .null, .int 0]))]) (wr := wX cy (h0a q0 u) σX0) [76] [0, 1, 2, 3, 4, 5, 6, 7, 8, 9, 10, 11, 12, 13, 14, 15, 16, 17, 18, 19, 20, 21, 22, 23, 24, 25, 26, 27, 28, 29, 30, 31, 32, 33, 34, 35, 36, 37, 38, 39, 40, 41, 42, 43, 44, 45, 46, 47, 48, 49, 50, 51, 52, 53, 54, 55, 56, 57, 58, 59, 60, 61, 62, 63, 64, 65, 66, 67, 68, 69, 70, 71, 72, 73, 74, 75] rfl rfl (by decide) (by decide) (n_runI (As := []) (rest := [.ref q1]) E h [76] (by decide) rfl (n_X12 l D cy q1 H.size) co_X12_init ml_L_12 im_X12_init in_X12 rfl ok_X12_init rfl ⟨by decide, by decide⟩ hl.1 rfl (Nat.le_of_ble_eq_true rfl) dL_law_12 ⟨Nat.le_of_ble_eq_true rfl, Nat.le_of_ble_eq_true rfl⟩) (fun u2 H locs h => ?_)
  refine lv_astore_n (lv' := [(2, .ref q1), (1, .ref q0), (0, .ref b)]) hx hb dL_law_15 rfl hl (by decide) rfl (fun ls hl => ?_)
  refine lv_iconst (v := 0) hx hb dL_law_16 (by decide) ?_
  refine lv_istore_n (lv' := [(3, .int 0), (2, .ref q1), (1, .ref q0), (0, .ref b)]) hx hb dL_law_17 rfl hl (by decide) rfl (fun ls hl => ?_)
  refine W.widen (k := 600000) (n := 7302250) (Nat.le_of_ble_eq_true rfl) (Nat.le_of_ble_eq_true rfl) ?_
  exact law_loop l (h0a q0 u) (h0a q1 u2) adK adV E hr hlocks hX hbl hz hL (L + 1) 0 σX0 σM0 _ _ _ (Nat.zero_le L) (by omega) inv0 h (lv_sub hl [3, 2, 1, 0] rfl)
