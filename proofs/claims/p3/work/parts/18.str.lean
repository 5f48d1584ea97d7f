/-! ===== what stays beside the world: the words' texts, two statics ===== -/
def ZOK (A : Nat → Prop) (Z : State → Prop) : Prop := (∀ (s U : State) (H : Heap) (locs : List Loc), Z s → va_S A s.heap H locs → U.heap = H → s.WarmedH U.vm → Z U) ∧ ∀ (U : State) (g : JFrame) (mk : MethodId) (a : Array Value), Z U → Z (U.calling g mk a)
def sLen : List Nat := [4, 2, 5, 5, 4, 4, 4, 5, 9, 5, 6]
def sByt : List (List Int32) := [[102, 114, 111, 109], [116, 111], [102, 105, 114, 115, 116], [104, 101, 105, 114, 115], [114, 101, 110, 116], [102, 105, 110, 101], [109, 111, 115, 116], [99, 108, 111, 115, 101], [102, 111, 117, 110, 116, 97, 105, 110, 115], [98, 97, 116, 104, 115], [103, 114, 97, 110, 116, 115]]
def sIx : List Nat := [57, 67, 83, 85, 87, 89, 91, 93, 95, 97, 99]
def sTx : List String := ["from", "to", "first", "heirs", "rent", "fine", "most", "close", "fountains", "baths", "grants"]
def SZ (adK adV : Nat → Nat) (A : Nat → Prop) (U : State) : Prop := vk_S 11 sLen sByt adK adV A U U.heap ∧ (∀ i, i < 11 → vk_R RX5 (sIx.getD i 0) (sTx.getD i "") (adK i) U) ∧ va_Z "java/lang/String" "COMPACT_STRINGS" "Z" (.int 1) A U U.heap ∧ va_Zq "jdk/internal/util/Preconditions" "SIOOBE_FORMATTER" "Ljava/util/function/BiFunction;" A U U.heap
theorem sz_ok (adK adV : Nat → Nat) (A : Nat → Prop) : ZOK A (SZ adK adV A) := by
  constructor
  · intro s U H locs hz hS hU hW
    subst hU
    exact ⟨(vk_S.kept hz.1 hS.2.1).moved hW.alike, fun i hi => (hz.2.1 i hi).warm hW, (va_Z.kept hz.2.2.1 hS.2.1).moved hW.alike, (va_Zq.kept hz.2.2.2 hS.2.1).moved hW.alike⟩
  · intro U g mk a hz
    exact ⟨vk_S.moved (u := U) (U := U.calling g mk a) (Vm.Alike.refl U.vm) hz.1, fun i hi => (hz.2.1 i hi).same rfl, va_Z.moved (u := U) (U := U.calling g mk a) (Vm.Alike.refl U.vm) hz.2.2.1, va_Zq.moved (u := U) (U := U.calling g mk a) (Vm.Alike.refl U.vm) hz.2.2.2⟩
def PZ (D : va_G) (cy : Nat → ClassId) (wf : St → va_W) (A : Nat → Prop) (Z : State → Prop) (σ : St) (U : State) : Prop := PP D cy wf A σ U ∧ Z U
def ZI (l : Launch) (y : MethodName) (cc : ByteArray) (n : Nat) (r : Option FieldType) (rm : Room) (D : va_G) (cy : Nat → ClassId) (wf : St → va_W) (A : Nat → Prop) (Z : State → Prop) (av : List Value) (σ : St) (post : Int32 → St → Prop) : Prop :=
  Met l y (WS y cc n r) rm (va_Pc av (PZ D cy wf A Z σ)) (va_Qi post (fun u t => va_P D vwCl (wf u) t.heap) A) 0 0 A
def ZV (l : Launch) (y : MethodName) (cc : ByteArray) (n : Nat) (r : Option FieldType) (rm : Room) (D : va_G) (cy : Nat → ClassId) (wf : St → va_W) (A : Nat → Prop) (Z : State → Prop) (av : List Value) (σ : St) (post : St → Prop) : Prop :=
  Met l y (WS y cc n r) rm (va_Pc av (PZ D cy wf A Z σ)) (va_Qv post (fun u t => va_P D vwCl (wf u) t.heap) A) 0 0 A
theorem pz_blind {D : va_G} {cy : Nat → ClassId} {wf : St → va_W} {A : Nat → Prop} {Z : State → Prop} (hZ : ZOK A Z) (av : List Value) (σ : St) : FrameBlind (va_Pc av (PZ D cy wf A Z σ)) := by
  intro a U g mk q
  exact ⟨q.1, ⟨q.2.1.1, q.2.1.2.1, q.2.1.2.2.call⟩, hZ.2 U g mk a q.2.2⟩
theorem wsx_good {y : MethodName} {cc : ByteArray} {n idx : Nat} {r : Option FieldType} {own : String} (co : Cond.code y cc n r ∈ TB) (ml : Cond.methodLink own idx y ∈ TB) (st : Cond.static y ∈ TB) (ini : Cond.initialized y.cls ∈ TB) : GoodIn TB (va_wsS own idx y (WS y cc n r)) := by
  intro w hw
  rcases List.mem_append.mp hw with h | h
  · have hm : w ∈ TB := by
      rcases List.mem_cons.mp h with e | h
      · rw [e]; exact ml
      rcases List.mem_cons.mp h with e | h
      · rw [e]; exact st
      rcases List.mem_cons.mp h with e | h
      · rw [e]; exact ini
      · cases h
    exact ⟨hm, good_of_word (List.mem_filter.mp hm).2⟩
  · exact tb_good co w h
section ZW
variable {p : Program} {l : Launch} {e : Env} {R : Room} {s : State} {m : MethodId} {args : Array Value} {below : List Frame} {meth : Method} {c : Code} {H : Heap} {locs : List Loc} {cells slots : Nat} {Q : State → Prop}
variable {cc bytes : ByteArray} {pc maxL index fr lo : Nat} {ls : Array Slot} {rest st0 As : List Value} {D : va_G} {A : Nat → Prop} {b : Nat} {own : String} {nL : Nat} {cy : Nat → ClassId} {wf : St → va_W} {σ : St} {y : MethodName} {ret : Option FieldType} {Z : State → Prop}
theorem z_runV {Qc : Array Value → State → Outcome → State → Prop} (E : EV p s m c args cc own nL D cy) (h : HW D A s (wf σ) H locs) (hz : Z s) (hZ : ZOK A Z) (hM : Met l y (WS y bytes maxL ret) (rmOf fr lo) (va_Pc (.ref b :: As) (PZ D cy wf A Z σ)) Qc 0 0 A) (co : Cond.code y bytes maxL ret ∈ TB) (ml : Cond.methodLink own index y ∈ TB) (im : Cond.instanceMethod y ∈ TB) (se : Cond.selects y.cls y y ∈ TB) (ini : Cond.initialized y.cls ∈ TB) (hrec : ∃ cell : Cell, H[b]? = some cell ∧ cell.vm.isStatics = false ∧ s.vm.findClass y.cls = some cell.cls) {k : Nat} (hn : okN y k) (hlen : As.length = k)
    (hR : fr + 1 ≤ R.frames ∧ 8 + (maxL + 11) + lo ≤ R.locals) (hsz : ls.size = nL) (hst : st0 = As.reverse ++ .ref b :: rest) (hroom : (rest.map fun v => v.category).sum ≤ 8) (hdg : decode cc pc = .ok (.invokevirtual index, 3)) (hcs : cells ≤ R.cells ∧ slots ≤ R.slots) :
    va_Run p l e R s m args below meth c H locs cells slots 0 0 (F0 m pc ls st0) rest (Qc (Value.ref b :: As).toArray) A :=
  va_runV (As := As) (rest := rest) ⟨E.1, E.2.1, E.2.2.1, E.2.2.2.1, E.2.2.2.2.1⟩ hM (cwV k E.2.2.2.2.1 (wsv_good co ml im se ini) rfl rfl rfl ⟨rfl, hn⟩ hR) ⟨pz_blind hZ _ σ, hrec, fun U hU hW => ⟨rfl, ⟨by rw [hU]; exact h.1, h.2.1, E.2.2.2.2.2.warm hW⟩, hZ.1 s U H locs hz h.2.2 hU hW⟩⟩ rfl hlen hsz hst (lv_room hroom) hdg hcs
theorem z_runS {Qc : Array Value → State → Outcome → State → Prop} (E : EV p s m c args cc own nL D cy) (h : HW D A s (wf σ) H locs) (hz : Z s) (hZ : ZOK A Z) (hM : Met l y (WS y bytes maxL ret) (rmOf fr lo) (va_Pc As (PZ D cy wf A Z σ)) Qc 0 0 A) (co : Cond.code y bytes maxL ret ∈ TB) (ml : Cond.methodLink own index y ∈ TB) (stt : Cond.static y ∈ TB) (ini : Cond.initialized y.cls ∈ TB) {k : Nat} (hn : okN y k) (hlen : As.length = k)
    (hR : fr + 1 ≤ R.frames ∧ 8 + (maxL + 11) + lo ≤ R.locals) (hsz : ls.size = nL) (hst : st0 = As.reverse ++ rest) (hroom : (rest.map fun v => v.category).sum ≤ 8) (hdg : decode cc pc = .ok (.invokestatic index, 3)) (hcs : cells ≤ R.cells ∧ slots ≤ R.slots) :
    va_Run p l e R s m args below meth c H locs cells slots 0 0 (F0 m pc ls st0) rest (Qc As.toArray) A :=
  va_runS (As := As) (rest := rest) ⟨E.1, E.2.1, E.2.2.1, E.2.2.2.1, E.2.2.2.2.1⟩ hM (va_cwS k E.2.2.2.2.1 (wsx_good co ml stt ini) rfl rfl rfl hn hR) ⟨pz_blind hZ _ σ, fun U hU hW => ⟨rfl, ⟨by rw [hU]; exact h.1, h.2.1, E.2.2.2.2.2.warm hW⟩, hZ.1 s U H locs hz h.2.2 hU hW⟩⟩ rfl hlen hsz hst (lv_room hroom) hdg hcs
theorem t_n {post : Int32 → St → Prop} {v : Int32} {ty : FieldType} (E : EV p s m c args cc own nL D cy) (h : HW D A s (wf σ) H locs) (hr : meth.sig.returnType = some ty) (hk : meth.locks = false) (hn : narrow ty (.int v) = .int v) (hp : post v σ) (hdg : decode cc pc = .ok (.ireturn, 1)) : W p l e R s m args below meth c H locs 0 0 (MQ below (va_Qi post (fun u t => va_P D vwCl (wf u) t.heap) A) args s 0 0 A) (F0 m pc ls [.int v]) :=
  W.zret (v := v) E.1 E.2.1 hr hn (fun t ht _ => ⟨⟨v, σ, rfl, hp, by show va_P D vwCl (wf σ) t.heap; rw [ht]; exact h.1⟩, h.2.2.F ht⟩) h.2.2.2.2 hdg hk
end ZW
theorem z_of {l : Launch} {y : MethodName} {cc : ByteArray} {n : Nat} {r : Option FieldType} {rm : Room} {D : va_G} {cy : Nat → ClassId} {wf : St → va_W} {A : Nat → Prop} {Z : State → Prop} {av : List Value} {σ : St} {Qc : Array Value → State → Outcome → State → Prop} {lv : List (Nat × Value)} (hy : plainName y.cls = true) (hlen : (lg_sl av).length ≤ n) (hlv : lv_args 0 av = lv)
    (body : ∀ (p : Program) (e : Env) (s : State) (m : MethodId) (args : Array Value) (below : List Frame) (meth : Method) (c : Code) (ls : Array Slot), EV p s m c args cc y.cls n D cy → HW D A s (wf σ) s.heap [] → meth.sig.returnType = r → meth.locks = false → lv_has ls n lv → Z s → W p l e rm s m args below meth c s.heap [] 0 0 (MQ below Qc args s 0 0 A) (F0 m 0 ls [])) :
    Met l y (WS y cc n r) rm (va_Pc av (PZ D cy wf A Z σ)) Qc 0 0 A := by
  refine Met.ofW (cc := cc) (maxL := n) (ret := r) hy rfl ?_
  intro p e s m args below meth c s₁ B hml hv
  obtain ⟨rfl, ⟨hP, hD, hK⟩, hz⟩ := hv
  have hts := atoms_spec (ws := WS y cc n r) B.pre
  have hl := lv_entry av (n := n) hlen
  rw [lg_entry_eq]
  generalize (lg_sl av ++ List.replicate (n - (lg_sl av).length) Slot.unset).toArray = ls at hl ⊢
  rw [hlv] at hl
  exact body p e s m av.toArray below meth c ls ⟨B.exec, B.bytes, hml, findClass_of_methodNamed B.named, fun w hw => hts w (List.mem_cons_of_mem _ hw), hK⟩ ⟨hP, hD, va_S.rf⟩ B.returns B.notSynchronized hl hz
/-! ===== String.length, String.charAt of the words ===== -/
set_option maxHeartbeats 4000000 in
set_option maxRecDepth 100000 in
theorem c_J0_coder (l : Launch) (D : va_G) (cy : Nat → ClassId) {wf : St → va_W} {A : Nat → Prop} (adK adV : Nat → Nat) (σ : St) (i : Nat) (hi : i < 11) : ZI l yJ0_coder_7d493 cJ0_coder_7d493 1 (some .byte) (rmOf 0 0) D cy wf A (SZ adK adV A) [.ref (adK i)] σ (fun r τ => τ = σ ∧ r = 0) := by
  refine z_of (lv := [(0, .ref (adK i))]) rfl (Nat.le_of_ble_eq_true rfl) rfl ?_
  intro p e s m args below meth c ls E h hr hk hl hz
  have hx := E.1
  have hb := E.2.1
  refine va_gets hx hb hz.2.2.1 h.2.2 E.2.2.2.1 (E.2.2.2.2.1 _ fl_J0_38) (fun _ h => h) dJ0_coder_7d493_0 ?_
  refine lv_if_eq (tgt := 13) hx hb dJ0_coder_7d493_3 (by decide) (fun c3 => ?_) (fun c3 => ?_)
  · exact absurd c3 (by decide)
  · refine lv_aload_n hx hb dJ0_coder_7d493_6 rfl (lv_at hl 0 rfl) ?_
    refine vk_getf hx hb (hz.1.1 i hi).2.1 h.2.2 E.2.2.2.1 (E.2.2.2.2.1 _ fl_J0_15) (fun _ h => h) dJ0_coder_7d493_7 ?_
    refine lv_goto (tgt := 14) hx hb dJ0_coder_7d493_10 (by decide) ?_
    exact t_n E h hr hk rfl ⟨rfl, rfl⟩ dJ0_coder_7d493_14
set_option maxHeartbeats 4000000 in
set_option maxRecDepth 100000 in
theorem c_J0_isLatin1 (l : Launch) (D : va_G) (cy : Nat → ClassId) {wf : St → va_W} {A : Nat → Prop} (adK adV : Nat → Nat) (σ : St) (i : Nat) (hi : i < 11) : ZI l yJ0_isLatin1_aae02 cJ0_isLatin1_aae02 1 (some .boolean) (rmOf 0 0) D cy wf A (SZ adK adV A) [.ref (adK i)] σ (fun r τ => τ = σ ∧ r = 1) := by
  refine z_of (lv := [(0, .ref (adK i))]) rfl (Nat.le_of_ble_eq_true rfl) rfl ?_
  intro p e s m args below meth c ls E h hr hk hl hz
  have hx := E.1
  have hb := E.2.1
  refine va_gets hx hb hz.2.2.1 h.2.2 E.2.2.2.1 (E.2.2.2.2.1 _ fl_J0_38) (fun _ h => h) dJ0_isLatin1_aae02_0 ?_
  refine lv_if_eq (tgt := 17) hx hb dJ0_isLatin1_aae02_3 (by decide) (fun c3 => ?_) (fun c3 => ?_)
  · exact absurd c3 (by decide)
  · refine lv_aload_n hx hb dJ0_isLatin1_aae02_6 rfl (lv_at hl 0 rfl) ?_
    refine vk_getf hx hb (hz.1.1 i hi).2.1 h.2.2 E.2.2.2.1 (E.2.2.2.2.1 _ fl_J0_15) (fun _ h => h) dJ0_isLatin1_aae02_7 ?_
    refine lv_if_ne (tgt := 17) hx hb dJ0_isLatin1_aae02_10 (by decide) (fun c9 => ?_) (fun c9 => ?_)
    · exact absurd rfl c9
    · refine lv_iconst (v := 1) hx hb dJ0_isLatin1_aae02_13 (by decide) ?_
      refine lv_goto (tgt := 18) hx hb dJ0_isLatin1_aae02_14 (by decide) ?_
      exact t_z E h hr hk (Or.inr rfl) ⟨rfl, rfl⟩ dJ0_isLatin1_aae02_18
set_option maxHeartbeats 4000000 in
set_option maxRecDepth 100000 in
theorem c_J0_length (l : Launch) (D : va_G) (cy : Nat → ClassId) {wf : St → va_W} {A : Nat → Prop} (hwf : ∀ σ σ' : St, (wf σ').map (fun q => q.1) = (wf σ).map (fun q => q.1)) (adK adV : Nat → Nat) (σ : St) (i : Nat) (hi : i < 11) : ZI l yJ0_length_8abf5 cJ0_length_8abf5 1 (some .int) (rmOf 1 20) D cy wf A (SZ adK adV A) [.ref (adK i)] σ (fun r τ => τ = σ ∧ r = nI (sLen.getD i 0)) := by
  refine z_of (lv := [(0, .ref (adK i))]) rfl (Nat.le_of_ble_eq_true rfl) rfl ?_
  intro p e s m args below meth c ls E h hr hk hl hz
  have hx := E.1
  have hb := E.2.1
  refine lv_aload_n hx hb dJ0_length_8abf5_0 rfl (lv_at hl 0 rfl) ?_
  refine vk_getf hx hb (hz.1.1 i hi).2.2.1 h.2.2 E.2.2.2.1 (E.2.2.2.2.1 _ fl_J0_9) (fun _ h => h) dJ0_length_8abf5_1 ?_
  refine va_tlen hx hb (hz.1.1 i hi).2.2.2 h.2.2 (v := nI (sLen.getD i 0)) rfl dJ0_length_8abf5_4 ?_
  refine lv_aload_n hx hb dJ0_length_8abf5_5 rfl (lv_at hl 0 rfl) ?_
  refine k_i h (z_runV (As := []) (rest := [.int (nI (sLen.getD i 0))]) E h hz (sz_ok adK adV A) (c_J0_coder l D cy adK adV σ i hi) co_J0_coder_7d493 ml_J0_335 im_J0_coder_7d493 se_J0_coder_7d493 in_J0 (vk_recv hz.1 hi h.2.2) ok_J0_coder_7d493 rfl ⟨by decide, by decide⟩ hl.1 rfl (Nat.le_of_ble_eq_true rfl) dJ0_length_8abf5_6 ⟨Nat.zero_le _, Nat.zero_le _⟩) hwf (fun r6 τ6 H locs p6 h => ?_)
  rw [p6.1] at h
  obtain ⟨_, rfl⟩ := p6
  refine lv_ishr hx hb dJ0_length_8abf5_9 ?_
  rw [sb_shr0]
  exact t_i E h hr hk ⟨rfl, rfl⟩ dJ0_length_8abf5_10
