section
-- ===== PART A: goes FIRST, ahead of the names: the tables' words, and 'selects' of the private methods out of them =====
/-- a private method of a class that the tables say can be made, by its rows of tables_1 -/
def lw_okq (q : MethodName × Nat) : Prop := (q.1.cls ≠ "java/lang/invoke/MethodHandle" ∧ q.1.cls ≠ "java/lang/invoke/VarHandle") ∧ Cond.instantiable q.1.cls q.2 ∈ tables_1 ∧ Cond.privateMethod q.1 ∈ tables_1 ∧ Cond.instanceMethod q.1 ∈ tables_1
theorem lw_p0 : lw_okq (⟨"WaterOffice", "told", "(I)I"⟩, 14) := ⟨⟨by decide +kernel, by decide +kernel⟩, List.mem_of_getElem? (i := 20) (by decide +kernel), List.mem_of_getElem? (i := 394) (by decide +kernel), List.mem_of_getElem? (i := 395) (by decide +kernel)⟩
theorem lw_p1 : lw_okq (⟨"WaterOffice", "isSource", "(I)Z"⟩, 14) := ⟨⟨by decide +kernel, by decide +kernel⟩, List.mem_of_getElem? (i := 20) (by decide +kernel), List.mem_of_getElem? (i := 432) (by decide +kernel), List.mem_of_getElem? (i := 433) (by decide +kernel)⟩
theorem lw_p2 : lw_okq (⟨"WaterOffice", "isPerson", "(I)Z"⟩, 14) := ⟨⟨by decide +kernel, by decide +kernel⟩, List.mem_of_getElem? (i := 20) (by decide +kernel), List.mem_of_getElem? (i := 458) (by decide +kernel), List.mem_of_getElem? (i := 459) (by decide +kernel)⟩
theorem lw_p3 : lw_okq (⟨"WaterOffice", "countDryQuarters", "(III)V"⟩, 14) := ⟨⟨by decide +kernel, by decide +kernel⟩, List.mem_of_getElem? (i := 20) (by decide +kernel), List.mem_of_getElem? (i := 813) (by decide +kernel), List.mem_of_getElem? (i := 814) (by decide +kernel)⟩
theorem lw_p4 : lw_okq (⟨"WaterOffice", "leastDryYear", "(III)I"⟩, 14) := ⟨⟨by decide +kernel, by decide +kernel⟩, List.mem_of_getElem? (i := 20) (by decide +kernel), List.mem_of_getElem? (i := 823) (by decide +kernel), List.mem_of_getElem? (i := 824) (by decide +kernel)⟩
theorem lw_p5 : lw_okq (⟨"WaterOffice", "sumDry", "(II)I"⟩, 14) := ⟨⟨by decide +kernel, by decide +kernel⟩, List.mem_of_getElem? (i := 20) (by decide +kernel), List.mem_of_getElem? (i := 827) (by decide +kernel), List.mem_of_getElem? (i := 828) (by decide +kernel)⟩
theorem lw_p6 : lw_okq (⟨"WaterOfficeModel", "told", "(I)I"⟩, 60) := ⟨⟨by decide +kernel, by decide +kernel⟩, List.mem_of_getElem? (i := 866) (by decide +kernel), List.mem_of_getElem? (i := 1061) (by decide +kernel), List.mem_of_getElem? (i := 1062) (by decide +kernel)⟩
theorem lw_p7 : lw_okq (⟨"WaterOfficeModel", "isPerson", "(I)Z"⟩, 60) := ⟨⟨by decide +kernel, by decide +kernel⟩, List.mem_of_getElem? (i := 866) (by decide +kernel), List.mem_of_getElem? (i := 1088) (by decide +kernel), List.mem_of_getElem? (i := 1089) (by decide +kernel)⟩
theorem lw_p8 : lw_okq (⟨"WaterOfficeModel", "deadOf", "(II)I"⟩, 60) := ⟨⟨by decide +kernel, by decide +kernel⟩, List.mem_of_getElem? (i := 866) (by decide +kernel), List.mem_of_getElem? (i := 1096) (by decide +kernel), List.mem_of_getElem? (i := 1097) (by decide +kernel)⟩
theorem lw_p9 : lw_okq (⟨"WaterOfficeModel", "isCastle", "(I)Z"⟩, 60) := ⟨⟨by decide +kernel, by decide +kernel⟩, List.mem_of_getElem? (i := 866) (by decide +kernel), List.mem_of_getElem? (i := 1106) (by decide +kernel), List.mem_of_getElem? (i := 1107) (by decide +kernel)⟩
theorem lw_p10 : lw_okq (⟨"WaterOfficeModel", "lawOf", "(II)I"⟩, 60) := ⟨⟨by decide +kernel, by decide +kernel⟩, List.mem_of_getElem? (i := 866) (by decide +kernel), List.mem_of_getElem? (i := 1110) (by decide +kernel), List.mem_of_getElem? (i := 1111) (by decide +kernel)⟩
theorem lw_p11 : lw_okq (⟨"WaterOfficeModel", "isNozzle", "(I)Z"⟩, 60) := ⟨⟨by decide +kernel, by decide +kernel⟩, List.mem_of_getElem? (i := 866) (by decide +kernel), List.mem_of_getElem? (i := 1118) (by decide +kernel), List.mem_of_getElem? (i := 1119) (by decide +kernel)⟩
theorem lw_p12 : lw_okq (⟨"WaterOfficeModel", "isClosed", "(II)Z"⟩, 60) := ⟨⟨by decide +kernel, by decide +kernel⟩, List.mem_of_getElem? (i := 866) (by decide +kernel), List.mem_of_getElem? (i := 1140) (by decide +kernel), List.mem_of_getElem? (i := 1141) (by decide +kernel)⟩
theorem lw_p13 : lw_okq (⟨"WaterOfficeModel", "four", "(I)V"⟩, 60) := ⟨⟨by decide +kernel, by decide +kernel⟩, List.mem_of_getElem? (i := 866) (by decide +kernel), List.mem_of_getElem? (i := 1148) (by decide +kernel), List.mem_of_getElem? (i := 1149) (by decide +kernel)⟩
theorem lw_p14 : lw_okq (⟨"WaterOfficeModel", "next", "()V"⟩, 60) := ⟨⟨by decide +kernel, by decide +kernel⟩, List.mem_of_getElem? (i := 866) (by decide +kernel), List.mem_of_getElem? (i := 1160) (by decide +kernel), List.mem_of_getElem? (i := 1161) (by decide +kernel)⟩
theorem lw_p15 : lw_okq (⟨"WaterOfficeModel", "readLaw", "()V"⟩, 60) := ⟨⟨by decide +kernel, by decide +kernel⟩, List.mem_of_getElem? (i := 866) (by decide +kernel), List.mem_of_getElem? (i := 1176) (by decide +kernel), List.mem_of_getElem? (i := 1177) (by decide +kernel)⟩
def lw_privs_1 : List (MethodName × Nat) := [(⟨"WaterOffice", "told", "(I)I"⟩, 14), (⟨"WaterOffice", "isSource", "(I)Z"⟩, 14), (⟨"WaterOffice", "isPerson", "(I)Z"⟩, 14), (⟨"WaterOffice", "countDryQuarters", "(III)V"⟩, 14), (⟨"WaterOffice", "leastDryYear", "(III)I"⟩, 14), (⟨"WaterOffice", "sumDry", "(II)I"⟩, 14), (⟨"WaterOfficeModel", "told", "(I)I"⟩, 60), (⟨"WaterOfficeModel", "isPerson", "(I)Z"⟩, 60), (⟨"WaterOfficeModel", "deadOf", "(II)I"⟩, 60), (⟨"WaterOfficeModel", "isCastle", "(I)Z"⟩, 60), (⟨"WaterOfficeModel", "lawOf", "(II)I"⟩, 60), (⟨"WaterOfficeModel", "isNozzle", "(I)Z"⟩, 60), (⟨"WaterOfficeModel", "isClosed", "(II)Z"⟩, 60), (⟨"WaterOfficeModel", "four", "(I)V"⟩, 60), (⟨"WaterOfficeModel", "next", "()V"⟩, 60), (⟨"WaterOfficeModel", "readLaw", "()V"⟩, 60)]
theorem lw_r1 : ∀ q ∈ lw_privs_1, lw_okq q := List.forall_mem_cons.mpr ⟨lw_p0, List.forall_mem_cons.mpr ⟨lw_p1, List.forall_mem_cons.mpr ⟨lw_p2, List.forall_mem_cons.mpr ⟨lw_p3, List.forall_mem_cons.mpr ⟨lw_p4, List.forall_mem_cons.mpr ⟨lw_p5, List.forall_mem_cons.mpr ⟨lw_p6, List.forall_mem_cons.mpr ⟨lw_p7, List.forall_mem_cons.mpr ⟨lw_p8, List.forall_mem_cons.mpr ⟨lw_p9, List.forall_mem_cons.mpr ⟨lw_p10, List.forall_mem_cons.mpr ⟨lw_p11, List.forall_mem_cons.mpr ⟨lw_p12, List.forall_mem_cons.mpr ⟨lw_p13, List.forall_mem_cons.mpr ⟨lw_p14, List.forall_mem_cons.mpr ⟨lw_p15, fun _ h => absurd h List.not_mem_nil⟩⟩⟩⟩⟩⟩⟩⟩⟩⟩⟩⟩⟩⟩⟩⟩
theorem lw_p16 : lw_okq (⟨"WaterOfficeModel", "isWord", "(IIIII)Z"⟩, 60) := ⟨⟨by decide +kernel, by decide +kernel⟩, List.mem_of_getElem? (i := 866) (by decide +kernel), List.mem_of_getElem? (i := 1180) (by decide +kernel), List.mem_of_getElem? (i := 1181) (by decide +kernel)⟩
theorem lw_p17 : lw_okq (⟨"WaterOfficeModel", "must", "(Z)V"⟩, 60) := ⟨⟨by decide +kernel, by decide +kernel⟩, List.mem_of_getElem? (i := 866) (by decide +kernel), List.mem_of_getElem? (i := 1184) (by decide +kernel), List.mem_of_getElem? (i := 1185) (by decide +kernel)⟩
theorem lw_p18 : lw_okq (⟨"WaterOfficeModel", "number", "(J)I"⟩, 60) := ⟨⟨by decide +kernel, by decide +kernel⟩, List.mem_of_getElem? (i := 866) (by decide +kernel), List.mem_of_getElem? (i := 1188) (by decide +kernel), List.mem_of_getElem? (i := 1189) (by decide +kernel)⟩
theorem lw_p19 : lw_okq (⟨"WaterOfficeModel", "isLong", "(IIIIIIIII)Z"⟩, 60) := ⟨⟨by decide +kernel, by decide +kernel⟩, List.mem_of_getElem? (i := 866) (by decide +kernel), List.mem_of_getElem? (i := 1192) (by decide +kernel), List.mem_of_getElem? (i := 1193) (by decide +kernel)⟩
theorem lw_p20 : lw_okq (⟨"WaterOfficeModel", "livesIn", "(III)Z"⟩, 60) := ⟨⟨by decide +kernel, by decide +kernel⟩, List.mem_of_getElem? (i := 866) (by decide +kernel), List.mem_of_getElem? (i := 1205) (by decide +kernel), List.mem_of_getElem? (i := 1206) (by decide +kernel)⟩
theorem lw_p21 : lw_okq (⟨"WaterOfficeModel", "isOpen", "(II)Z"⟩, 60) := ⟨⟨by decide +kernel, by decide +kernel⟩, List.mem_of_getElem? (i := 866) (by decide +kernel), List.mem_of_getElem? (i := 1209) (by decide +kernel), List.mem_of_getElem? (i := 1210) (by decide +kernel)⟩
theorem lw_p22 : lw_okq (⟨"WaterOfficeModel", "flow", "(II)V"⟩, 60) := ⟨⟨by decide +kernel, by decide +kernel⟩, List.mem_of_getElem? (i := 866) (by decide +kernel), List.mem_of_getElem? (i := 1217) (by decide +kernel), List.mem_of_getElem? (i := 1218) (by decide +kernel)⟩
theorem lw_p23 : lw_okq (⟨"WaterOfficeModel", "yieldOf", "(II)I"⟩, 60) := ⟨⟨by decide +kernel, by decide +kernel⟩, List.mem_of_getElem? (i := 866) (by decide +kernel), List.mem_of_getElem? (i := 1221) (by decide +kernel), List.mem_of_getElem? (i := 1222) (by decide +kernel)⟩
theorem lw_p24 : lw_okq (⟨"WaterOfficeModel", "isDown", "(II)Z"⟩, 60) := ⟨⟨by decide +kernel, by decide +kernel⟩, List.mem_of_getElem? (i := 866) (by decide +kernel), List.mem_of_getElem? (i := 1225) (by decide +kernel), List.mem_of_getElem? (i := 1226) (by decide +kernel)⟩
theorem lw_p25 : lw_okq (⟨"WaterOfficeModel", "flowAt", "(III)V"⟩, 60) := ⟨⟨by decide +kernel, by decide +kernel⟩, List.mem_of_getElem? (i := 866) (by decide +kernel), List.mem_of_getElem? (i := 1229) (by decide +kernel), List.mem_of_getElem? (i := 1230) (by decide +kernel)⟩
theorem lw_p26 : lw_okq (⟨"WaterOfficeModel", "deal", "(I)I"⟩, 60) := ⟨⟨by decide +kernel, by decide +kernel⟩, List.mem_of_getElem? (i := 866) (by decide +kernel), List.mem_of_getElem? (i := 1233) (by decide +kernel), List.mem_of_getElem? (i := 1234) (by decide +kernel)⟩
theorem lw_p27 : lw_okq (⟨"WaterOfficeModel", "isDry", "(II)Z"⟩, 60) := ⟨⟨by decide +kernel, by decide +kernel⟩, List.mem_of_getElem? (i := 866) (by decide +kernel), List.mem_of_getElem? (i := 1245) (by decide +kernel), List.mem_of_getElem? (i := 1246) (by decide +kernel)⟩
def lw_privs_2 : List (MethodName × Nat) := [(⟨"WaterOfficeModel", "isWord", "(IIIII)Z"⟩, 60), (⟨"WaterOfficeModel", "must", "(Z)V"⟩, 60), (⟨"WaterOfficeModel", "number", "(J)I"⟩, 60), (⟨"WaterOfficeModel", "isLong", "(IIIIIIIII)Z"⟩, 60), (⟨"WaterOfficeModel", "livesIn", "(III)Z"⟩, 60), (⟨"WaterOfficeModel", "isOpen", "(II)Z"⟩, 60), (⟨"WaterOfficeModel", "flow", "(II)V"⟩, 60), (⟨"WaterOfficeModel", "yieldOf", "(II)I"⟩, 60), (⟨"WaterOfficeModel", "isDown", "(II)Z"⟩, 60), (⟨"WaterOfficeModel", "flowAt", "(III)V"⟩, 60), (⟨"WaterOfficeModel", "deal", "(I)I"⟩, 60), (⟨"WaterOfficeModel", "isDry", "(II)Z"⟩, 60)]
theorem lw_r2 : ∀ q ∈ lw_privs_2, lw_okq q := List.forall_mem_cons.mpr ⟨lw_p16, List.forall_mem_cons.mpr ⟨lw_p17, List.forall_mem_cons.mpr ⟨lw_p18, List.forall_mem_cons.mpr ⟨lw_p19, List.forall_mem_cons.mpr ⟨lw_p20, List.forall_mem_cons.mpr ⟨lw_p21, List.forall_mem_cons.mpr ⟨lw_p22, List.forall_mem_cons.mpr ⟨lw_p23, List.forall_mem_cons.mpr ⟨lw_p24, List.forall_mem_cons.mpr ⟨lw_p25, List.forall_mem_cons.mpr ⟨lw_p26, List.forall_mem_cons.mpr ⟨lw_p27, fun _ h => absurd h List.not_mem_nil⟩⟩⟩⟩⟩⟩⟩⟩⟩⟩⟩⟩
def lw_privs : List (MethodName × Nat) := lw_privs_1 ++ (lw_privs_2)
def lw_tbl : List Cond := k2_sels lw_privs ++ tables_1
theorem lw_privs_ok : ∀ q ∈ lw_privs, lw_okq q := by
  show ∀ q ∈ lw_privs_1 ++ (lw_privs_2), lw_okq q
  exact List.forall_mem_append.mpr ⟨lw_r1, lw_r2⟩

def va_AOA (t : FieldType) (U : State) : Prop := (Cond.arrayOver (.array t)).before #[] U = true
theorem va_AOA.use {t : FieldType} {A : Array Value} {U : State} (h : va_AOA t U) : (Cond.arrayOver (.array t)).before A U = true := h
/-! ===== BEGIN new T[n][m]: the outer array a place, the inner ones among the pooled ===== -/
/-- f, but v at every address of l -/
def vr_up {α : Type} (f : Nat → α) (l : List Nat) (v : α) : Nat → α := fun a => if a ∈ l then v else f a
theorem vr_up_in {α : Type} {f : Nat → α} {l : List Nat} {v : α} {a : Nat} (h : a ∈ l) : vr_up f l v a = v := if_pos h
theorem vr_up_ne {α : Type} {f : Nat → α} {l : List Nat} {v : α} {a : Nat} (h : a ∉ l) : vr_up f l v a = f a := if_neg h
theorem vr_rows {L l : List Nat} {f : Nat → va_E} {e : va_E} (h : ∀ a, a ∈ l → a ∉ L) : va_pl L f ++ l.map (fun a => (a, e)) = va_pl (L ++ l) (vr_up f l e) := by
  unfold va_pl
  rw [List.map_append]
  congr 1
  · apply List.map_congr_left
    intro a ha
    rw [vr_up_ne (fun q => h a q ha)]
  · apply List.map_congr_left
    intro a ha
    rw [vr_up_in ha]
theorem vr_lay {X rows : va_W} {x : Nat × va_E} {pl : va_W} {D : va_G} {cl : List vw_C} {H : Heap} (hP : va_P D cl (((X ++ pl) ++ [x]) ++ rows) H) : va_P D cl ((X ++ [x]) ++ (pl ++ rows)) H := by
  rw [List.append_assoc (X ++ pl)] at hP
  have h := va_P.swap hP
  rw [← List.append_assoc X] at h
  have h2 := va_P.swap h
  rw [List.append_assoc (X ++ [x])] at h2
  exact h2
theorem vr_layD {X rows : va_W} {x : Nat × va_E} {pl : va_W} {A : Nat → Prop} (hD : va_D A (((X ++ pl) ++ [x]) ++ rows)) : va_D A ((X ++ [x]) ++ (pl ++ rows)) := by
  rw [List.append_assoc (X ++ pl)] at hD
  have h := va_D.swap hD
  rw [← List.append_assoc X] at h
  have h2 := va_D.swap h
  rw [List.append_assoc (X ++ [x])] at h2
  exact h2
theorem vr_outer (c : ClassId) (N h0 : Nat) : ∀ i : Nat, Jvm.Free.Multi.outerC c N h0 i = arrV c N (fun j => va_rf (if j < i then some (h0 + 1 + j) else none))
  | 0 => by
    show ({ cls := c, slots := Array.replicate N .null, vm := .none } : Cell) = _
    rw [arrV_new]
    refine congrArg (arrV c N) (funext fun j => ?_)
    simp [va_rf]
  | i + 1 => by
    show (Jvm.Free.Multi.outerC c N h0 i).setSlot i (.ref (h0 + 1 + i)) = _
    rw [vr_outer c N h0 i, arrV_store]
    refine congrArg (arrV c N) (funext fun j => ?_)
    by_cases e : j = i
    · subst e
      simp [updV, va_rf]
    · by_cases h : j < i
      · simp [updV, e, h, Nat.lt_succ_of_lt h]
      · simp [updV, e, h, show ¬ j < i + 1 by omega]
section VGM
variable {p : Program} {l : Launch} {e : Env} {R : Room} {s : State} {m : MethodId} {args : Array Value} {below : List Frame} {meth : Method} {c : Code} {H : Heap} {locs : List Loc} {cells slots : Nat} {Q : State → Prop}
variable {cc : ByteArray} {pc : Nat} {ls : Array Slot} {rest : List Value} {D : va_G} {cl : List vw_C} {A : Nat → Prop} {a : Nat} {tys : List (ClassId × FieldType)} {ws : va_W} {H0 : Heap}
theorem va_mna {X : va_W} {L : List Nat} {f : Nat → va_E} {cc : ByteArray} (hexec : p.tables.exec = Jvm.exec) (hb : c.code = cc) {own : String} {index : Nat} {ty : FieldType} {cy : ClassId} (hown : s.vm.findClass own = some m.cls) (hclink : (Cond.classLink own index ("[" ++ (FieldType.array ty).toString)).before args s = true) (hover : va_AOA ty s) (harr : (Cond.arrayClass ty).before args s = true) (hcy : s.vm.findClass (FieldType.array ty).toString = some cy)
    (hK : va_K D cl tys s) (hP : va_P D cl (X ++ va_pl L f) H) (hD : va_D A (X ++ va_pl L f)) (hS : va_S A H0 H locs) (hA : ∀ q, H0.size ≤ q → A q) {n k : Int32} {N' K' : Nat} {z : vp_A} (hn : ¬ n < 0) (hk : ¬ k < 0) (hN : n.toNatClampNeg = N') (hM : k.toNatClampNeg = K')
    (hb1 : N' * 4 ≤ 536870912) (hb2 : K' * componentBytes ty ≤ 536870912) (hb3 : K' ≤ 536870912) (hdf : fits ty (defaultValue ty) = true) (hdd : (defaultValue ty).isDefault = true) (hcells : cells + (1 + N') ≤ R.cells) (hslots : slots + (N' + N' * K') ≤ R.slots) (hz : ∀ c : ClassId, Jvm.Free.Multi.innerC c K' (defaultValue ty) = vp_cell c z) (hdg : decode cc pc = .ok (.multianewarray index 2, 4))
    (kk : ∀ (q : Nat) (r : Nat → Nat) (cA : ClassId) (H1 : Heap), (∀ i j : Nat, i < N' → j < N' → r i = r j → i = j) → (∀ i : Nat, i < N' → r i ∉ L) → va_K D cl (tys ++ [(cA, .array ty)]) s →
      va_P D cl ((X ++ [(q, .inl (cA, N', .inr (.inr (.inr (.inr (fun i => if i < N' then some (r i) else none))))))]) ++ va_pl (L ++ (List.range N').map r) (vr_up f ((List.range N').map r) (.inl (cy, z)))) H1 → va_D A ((X ++ [(q, .inl (cA, N', .inr (.inr (.inr (.inr (fun i => if i < N' then some (r i) else none))))))]) ++ va_pl (L ++ (List.range N').map r) (vr_up f ((List.range N').map r) (.inl (cy, z)))) → va_S A H0 H1 locs →
      W p l e R s m args below meth c H1 locs (cells + 1 + N') (slots + N' + N' * K') Q (F0 m (pc + 4) ls (.ref q :: rest))) : W p l e R s m args below meth c H locs cells slots Q (F0 m pc ls (.int k :: .int n :: rest)) := by
  subst hN
  subst hM
  intro T hT Xs
  obtain ⟨vm₁, cA, comp, -, fA, fC, hO, -, X', step⟩ := Xs.multianewarray2F hexec hown hclink (va_AOA.use hover) harr (g := F0 m pc ls (.int k :: .int n :: rest)) rfl (by rw [hb]; exact hdg) rfl hn hk hb1 hb2 hb3 hdf hdd hcells hslots
  have ec : some cy = some comp := hcy.symm.trans fC
  cases ec
  generalize hF : Jvm.Free.Multi.fill (T.setVm vm₁) cA cy n.toNatClampNeg k.toNatClampNeg (defaultValue ty) n.toNatClampNeg = F at X' step
  have hTh : (T.setVm vm₁).heap = H := hT
  obtain ⟨f1, f2, -, -⟩ := Jvm.Free.Multi.fill_facts (T.setVm vm₁) cA cy n.toNatClampNeg k.toNatClampNeg (defaultValue ty) n.toNatClampNeg
  rw [hF, hTh] at f1 f2
  have hold : ∀ x : Nat, x < H.size → F.heap[x]? = H[x]? := fun x hx => by
    have := Jvm.Free.Multi.fill_old (T.setVm vm₁) cA cy n.toNatClampNeg k.toNatClampNeg (defaultValue ty) (a := x) (by rw [hTh]; exact hx) n.toNatClampNeg
    rw [hF, hTh] at this
    exact this
  have hrow : ∀ j : Nat, j < n.toNatClampNeg → F.heap[H.size + 1 + j]? = some (vp_cell cy z) := fun j hj => by
    have := Jvm.Free.Multi.fill_inner (T.setVm vm₁) cA cy n.toNatClampNeg k.toNatClampNeg (defaultValue ty) n.toNatClampNeg j hj
    rw [hF, hTh, hz] at this
    exact this
  have hout : Jvm.Free.Multi.outerC cA n.toNatClampNeg H.size n.toNatClampNeg = vp_cell cA (n.toNatClampNeg, .inr (.inr (.inr (.inr (fun i => if i < n.toNatClampNeg then some (H.size + 1 + i) else none))))) := by
    rw [vp_cell_q]
    exact vr_outer cA n.toNatClampNeg H.size n.toNatClampNeg
  rw [hout] at f2
  have hlt : ∀ a, a ∈ L → a < H.size := fun a ha => by
    obtain ⟨k9, hk9⟩ := va_pl_get (X := X) (f := f) ha
    exact (hP k9 _ hk9).lt
  have hnl : ∀ i : Nat, i < n.toNatClampNeg → H.size + 1 + i ∉ L := fun i _ h => by
    have := hlt _ h
    omega
  have hnm : ∀ a, a ∈ (List.range n.toNatClampNeg).map (fun i => H.size + 1 + i) → a ∉ L := fun a ha h => by
    obtain ⟨i, -, rfl⟩ := List.mem_map.mp ha
    have := hlt _ h
    omega
  have hP0 : va_P D cl (X ++ va_pl L f) F.heap := hP.kept (fun k9 x hx => hold x.1 ((hP k9 x hx).lt))
  have hP1 : va_P D cl ((X ++ va_pl L f) ++ [(H.size, .inl (cA, n.toNatClampNeg, .inr (.inr (.inr (.inr (fun i => if i < n.toNatClampNeg then some (H.size + 1 + i) else none))))))]) F.heap := hP0.app (fun k9 x hx => by
    have h0 : k9 < 1 := (List.getElem?_eq_some_iff.mp hx).1
    rw [show k9 = 0 by omega] at hx
    cases hx
    exact f2)
  have hP2 : va_P D cl (((X ++ va_pl L f) ++ [(H.size, .inl (cA, n.toNatClampNeg, .inr (.inr (.inr (.inr (fun i => if i < n.toNatClampNeg then some (H.size + 1 + i) else none))))))]) ++ ((List.range n.toNatClampNeg).map (fun i => H.size + 1 + i)).map (fun a => (a, .inl (cy, z)))) F.heap := hP1.app (fun k9 x hx => by
    obtain ⟨a, ha, rfl⟩ := List.mem_map.mp (List.mem_of_getElem? hx)
    obtain ⟨i, hi, rfl⟩ := List.mem_map.mp ha
    exact hrow i (List.mem_range.mp hi))
  have hD2 : va_D A (((X ++ va_pl L f) ++ [(H.size, .inl (cA, n.toNatClampNeg, .inr (.inr (.inr (.inr (fun i => if i < n.toNatClampNeg then some (H.size + 1 + i) else none))))))]) ++ ((List.range n.toNatClampNeg).map (fun i => H.size + 1 + i)).map (fun a => (a, .inl (cy, z)))) := by
    have hD1 := hD.push (e := .inl (cA, n.toNatClampNeg, .inr (.inr (.inr (.inr (fun i => if i < n.toNatClampNeg then some (H.size + 1 + i) else none)))))) hP rfl (hA _ hS.1)
    generalize hW1 : (X ++ va_pl L f) ++ [(H.size, .inl (cA, n.toNatClampNeg, .inr (.inr (.inr (.inr (fun i => if i < n.toNatClampNeg then some (H.size + 1 + i) else none))))))] = W1 at hD1 hP1 ⊢
    have hle : ∀ (k9 : Nat) (x : Nat × va_E), W1[k9]? = some x → x.1 ≤ H.size := fun k9 x hx => by
      rw [← hW1] at hx
      by_cases hl : k9 < (X ++ va_pl L f).length
      · rw [List.getElem?_append_left hl] at hx
        exact Nat.le_of_lt ((hP k9 x hx).lt)
      · rw [List.getElem?_append_right (by omega)] at hx
        have h0 : k9 - (X ++ va_pl L f).length < 1 := (List.getElem?_eq_some_iff.mp hx).1
        rw [show k9 - (X ++ va_pl L f).length = 0 by omega] at hx
        cases hx
        exact Nat.le_refl _
    have hr : ∀ (k9 : Nat) (x : Nat × va_E), (((List.range n.toNatClampNeg).map (fun i => H.size + 1 + i)).map (fun a => ((a, .inl (cy, z)) : Nat × va_E)))[k9]? = some x → x.1 = H.size + 1 + k9 := fun k9 x hx => by
      rw [List.getElem?_map, List.getElem?_map] at hx
      by_cases h9 : k9 < n.toNatClampNeg
      · rw [List.getElem?_range h9] at hx
        cases hx
        rfl
      · have hn0 : (List.range n.toNatClampNeg)[k9]? = none := List.getElem?_eq_none (by rw [List.length_range]; omega)
        rw [hn0] at hx
        cases hx
    refine ⟨fun i j x y hi hj hxy => ?_, fun k9 x hx => ?_⟩
    · by_cases h1 : i < W1.length <;> by_cases h2 : j < W1.length
      · rw [List.getElem?_append_left h1] at hi
        rw [List.getElem?_append_left h2] at hj
        exact hD1.1 i j x y hi hj hxy
      · rw [List.getElem?_append_left h1] at hi
        rw [List.getElem?_append_right (by omega)] at hj
        have := hle _ _ hi
        have := hr _ _ hj
        omega
      · rw [List.getElem?_append_right (by omega)] at hi
        rw [List.getElem?_append_left h2] at hj
        have := hle _ _ hj
        have := hr _ _ hi
        omega
      · rw [List.getElem?_append_right (by omega)] at hi hj
        have := hr _ _ hi
        have := hr _ _ hj
        omega
    · by_cases h1 : k9 < W1.length
      · rw [List.getElem?_append_left h1] at hx
        exact hD1.2 k9 x hx
      · rw [List.getElem?_append_right (by omega)] at hx
        have := hr _ _ hx
        exact hA _ (by have := hS.1; omega)
  have hAr : ArrOfT s cA (.array ty) := fun N9 z9 => by
    obtain ⟨-, k9, hk9, cm9, hkk9⟩ := (hO 0 0 0).1
    exact ⟨(fun q hq => by cases hq), k9, hk9, cm9, hkk9⟩
  have hK2 : va_K D cl (tys ++ [(cA, .array ty)]) s := ⟨hK.1, fun k9 x hx => by
    by_cases hl : k9 < tys.length
    · rw [List.getElem?_append_left hl] at hx
      exact hK.2 k9 x hx
    · rw [List.getElem?_append_right (by omega)] at hx
      have h0 : k9 - tys.length < 1 := (List.getElem?_eq_some_iff.mp hx).1
      rw [show k9 - tys.length = 0 by omega] at hx
      cases hx
      exact ⟨hAr, fA⟩⟩
  obtain ⟨t, a1, b1⟩ := kk H.size (fun i => H.size + 1 + i) cA F.heap (fun i j _ _ h => by have h9 : H.size + 1 + i = H.size + 1 + j := h; omega) hnl hK2 (by rw [← vr_rows hnm]; exact vr_lay hP2) (by rw [← vr_rows hnm]; exact vr_layD hD2) ⟨by rw [f1]; have := hS.1; omega, fun x h1 h2 => (hold x (Nat.lt_of_lt_of_le h1 hS.1)).trans (hS.2.1 x h1 h2), hS.2.2⟩ F rfl X'
  refine ⟨t, step t ?_, b1⟩
  have e : T.heap.size = H.size := by rw [hT]
  rw [e]
  exact a1
end VGM
/-! ===== END ===== -/

/-! ===== BEGIN printed: names, fields, word lists, decode rows ===== -/
def RX0 : String := "WaterOffice$Castles"
def TX0 : u_T := fun k => match k with
  | 0 => ("WaterOffice$Castles", "from", "[I", true)
  | 1 => ("WaterOffice$Castles", "carries", "[I", true)
  | 2 => ("WaterOffice$Castles", "loss", "[I", true)
  | 3 => ("WaterOffice$Castles", "fedBy", "LWaterOffice$Groups;", true)
  | _ => ("WaterOffice$Castles", "count", "I", false)
def tyX0 : Nat → FieldType := fun k => match k with
  | 0 => .array .int
  | 1 => .array .int
  | 2 => .array .int
  | 3 => .object "WaterOffice$Groups"
  | _ => .int
abbrev wsX00 : List Cond := u_ws RX0 TX0 5
theorem nmX0 : ∀ a, a < 5 → ∀ b, b < 5 → a ≠ b → (TX0 a).2.1 ≠ (TX0 b).2.1 := by decide +kernel
theorem tyX0_ok : ∀ k, k < 5 → parseFieldDescriptor (TX0 k).2.2.1 = some (tyX0 k) := by decide +kernel
abbrev cX0_init : ByteArray := prog_2_method_1_code
def yX0_init : MethodName := ⟨RX0, "<init>", "()V"⟩
abbrev cX0_has : ByteArray := prog_2_method_2_code
def yX0_has : MethodName := ⟨RX0, "has", "(I)Z"⟩
abbrev cX0_build : ByteArray := prog_2_method_3_code
def yX0_build : MethodName := ⟨RX0, "build", "(III)I"⟩
def RX1 : String := "WaterOffice$Deaths"
def TX1 : u_T := fun k => match k with
  | 0 => ("WaterOffice$Deaths", "person", "[I", true)
  | 1 => ("WaterOffice$Deaths", "year", "[I", true)
  | 2 => ("WaterOffice$Deaths", "known", "[I", true)
  | 3 => ("WaterOffice$Deaths", "standing", "[I", true)
  | _ => ("WaterOffice$Deaths", "count", "I", false)
def tyX1 : Nat → FieldType := fun k => match k with
  | 0 => .array .int
  | 1 => .array .int
  | 2 => .array .int
  | 3 => .array .int
  | _ => .int
abbrev wsX10 : List Cond := u_ws RX1 TX1 5
theorem nmX1 : ∀ a, a < 5 → ∀ b, b < 5 → a ≠ b → (TX1 a).2.1 ≠ (TX1 b).2.1 := by decide +kernel
theorem tyX1_ok : ∀ k, k < 5 → parseFieldDescriptor (TX1 k).2.2.1 = some (tyX1 k) := by decide +kernel
abbrev cX1_init : ByteArray := prog_3_method_1_code
def yX1_init : MethodName := ⟨RX1, "<init>", "()V"⟩
abbrev cX1_add : ByteArray := prog_3_method_2_code
def yX1_add : MethodName := ⟨RX1, "add", "(III)I"⟩
abbrev cX1_settle : ByteArray := prog_3_method_3_code
def yX1_settle : MethodName := ⟨RX1, "settle", "(I)V"⟩
abbrev cX1_isWithinLife : ByteArray := prog_3_method_4_code
def yX1_isWithinLife : MethodName := ⟨RX1, "isWithinLife", "(III)Z"⟩
def RX2 : String := "WaterOffice$Flows"
def TX2 : u_T := fun k => match k with
  | 0 => ("WaterOffice$Flows", "book", "LWaterOffice$LawBook;", true)
  | 1 => ("WaterOffice$Flows", "deaths", "LWaterOffice$Deaths;", true)
  | 2 => ("WaterOffice$Flows", "springs", "LWaterOffice$Springs;", true)
  | 3 => ("WaterOffice$Flows", "castles", "LWaterOffice$Castles;", true)
  | 4 => ("WaterOffice$Flows", "nozzles", "LWaterOffice$Nozzles;", true)
  | 5 => ("WaterOffice$Flows", "taps", "LWaterOffice$Spans;", true)
  | 6 => ("WaterOffice$Flows", "repairs", "LWaterOffice$Spans;", true)
  | 7 => ("WaterOffice$Flows", "shares", "LWaterOffice$Shares;", true)
  | 8 => ("WaterOffice$Flows", "canCarry", "[I", true)
  | 9 => ("WaterOffice$Flows", "amount", "[[I", true)
  | 10 => ("WaterOffice$Flows", "served", "[Z", true)
  | 11 => ("WaterOffice$Flows", "got", "[I", true)
  | 12 => ("WaterOffice$Flows", "quarterSize", "[I", true)
  | 13 => ("WaterOffice$Flows", "quarterGot", "[I", true)
  | _ => ("WaterOffice$Flows", "year", "I", false)
def tyX2 : Nat → FieldType := fun k => match k with
  | 0 => .object "WaterOffice$LawBook"
  | 1 => .object "WaterOffice$Deaths"
  | 2 => .object "WaterOffice$Springs"
  | 3 => .object "WaterOffice$Castles"
  | 4 => .object "WaterOffice$Nozzles"
  | 5 => .object "WaterOffice$Spans"
  | 6 => .object "WaterOffice$Spans"
  | 7 => .object "WaterOffice$Shares"
  | 8 => .array .int
  | 9 => .array (.array .int)
  | 10 => .array .boolean
  | 11 => .array .int
  | 12 => .array .int
  | 13 => .array .int
  | _ => .int
abbrev wsX20 : List Cond := u_ws RX2 TX2 15
theorem nmX2 : ∀ a, a < 15 → ∀ b, b < 15 → a ≠ b → (TX2 a).2.1 ≠ (TX2 b).2.1 := by decide +kernel
theorem tyX2_ok : ∀ k, k < 15 → parseFieldDescriptor (TX2 k).2.2.1 = some (tyX2 k) := by decide +kernel
abbrev cX2_init : ByteArray := prog_4_method_1_code
def yX2_init : MethodName := ⟨RX2, "<init>", "(LWaterOffice$LawBook;LWaterOffice$Deaths;LWaterOffice$Springs;LWaterOffice$Castles;LWaterOffice$Nozzles;LWaterOffice$Spans;LWaterOffice$Spans;)V"⟩
abbrev cX2_run : ByteArray := prog_4_method_2_code
def yX2_run : MethodName := ⟨RX2, "run", "(II)V"⟩
abbrev cX2_prepare : ByteArray := prog_4_method_3_code
def yX2_prepare : MethodName := ⟨RX2, "prepare", "(II)V"⟩
abbrev cX2_flow : ByteArray := prog_4_method_4_code
def yX2_flow : MethodName := ⟨RX2, "flow", "(I)V"⟩
abbrev cX2_chooseServed : ByteArray := prog_4_method_5_code
def yX2_chooseServed : MethodName := ⟨RX2, "chooseServed", "()V"⟩
abbrev cX2_isLiving : ByteArray := prog_4_method_6_code
def yX2_isLiving : MethodName := ⟨RX2, "isLiving", "(I)Z"⟩
abbrev cX2_openPipes : ByteArray := prog_4_method_7_code
def yX2_openPipes : MethodName := ⟨RX2, "openPipes", "(I)V"⟩
abbrev cX2_bringIn : ByteArray := prog_4_method_8_code
def yX2_bringIn : MethodName := ⟨RX2, "bringIn", "(I)V"⟩
abbrev cX2_lossOf : ByteArray := prog_4_method_9_code
def yX2_lossOf : MethodName := ⟨RX2, "lossOf", "(II)I"⟩
abbrev cX2_partToNozzles : ByteArray := prog_4_method_10_code
def yX2_partToNozzles : MethodName := ⟨RX2, "partToNozzles", "(I)V"⟩
abbrev cX2_partToRank : ByteArray := prog_4_method_11_code
def yX2_partToRank : MethodName := ⟨RX2, "partToRank", "(III)I"⟩
abbrev cX2_leadOn : ByteArray := prog_4_method_12_code
def yX2_leadOn : MethodName := ⟨RX2, "leadOn", "(I)V"⟩
abbrev cX2_weighQuarters : ByteArray := prog_4_method_13_code
def yX2_weighQuarters : MethodName := ⟨RX2, "weighQuarters", "()V"⟩
abbrev cX2_isDry : ByteArray := prog_4_method_14_code
def yX2_isDry : MethodName := ⟨RX2, "isDry", "(I)Z"⟩
abbrev cX2_countDry : ByteArray := prog_4_method_15_code
def yX2_countDry : MethodName := ⟨RX2, "countDry", "()I"⟩
abbrev cX2_leastMissing : ByteArray := prog_4_method_16_code
def yX2_leastMissing : MethodName := ⟨RX2, "leastMissing", "(I)I"⟩
abbrev cX2_rentOf : ByteArray := prog_4_method_17_code
def yX2_rentOf : MethodName := ⟨RX2, "rentOf", "(III)J"⟩
abbrev cX2_fineOf : ByteArray := prog_4_method_18_code
def yX2_fineOf : MethodName := ⟨RX2, "fineOf", "(III)J"⟩
def RX3 : String := "WaterOffice$Groups"
def TX3 : u_T := fun k => match k with
  | 0 => ("WaterOffice$Groups", "width", "I", true)
  | 1 => ("WaterOffice$Groups", "members", "[I", true)
  | _ => ("WaterOffice$Groups", "sizes", "[I", true)
def tyX3 : Nat → FieldType := fun k => match k with
  | 0 => .int
  | 1 => .array .int
  | _ => .array .int
abbrev wsX30 : List Cond := u_ws RX3 TX3 3
theorem nmX3 : ∀ a, a < 3 → ∀ b, b < 3 → a ≠ b → (TX3 a).2.1 ≠ (TX3 b).2.1 := by decide +kernel
theorem tyX3_ok : ∀ k, k < 3 → parseFieldDescriptor (TX3 k).2.2.1 = some (tyX3 k) := by decide +kernel
abbrev cX3_init : ByteArray := prog_5_method_1_code
def yX3_init : MethodName := ⟨RX3, "<init>", "(I)V"⟩
abbrev cX3_put : ByteArray := prog_5_method_2_code
def yX3_put : MethodName := ⟨RX3, "put", "(II)V"⟩
abbrev cX3_member : ByteArray := prog_5_method_3_code
def yX3_member : MethodName := ⟨RX3, "member", "(II)I"⟩
def RX4 : String := "WaterOffice$LawBook"
def TX4 : u_T := fun k => match k with
  | 0 => ("WaterOffice$LawBook", "from", "[I", true)
  | 1 => ("WaterOffice$LawBook", "to", "[I", true)
  | 2 => ("WaterOffice$LawBook", "kind", "[I", true)
  | 3 => ("WaterOffice$LawBook", "value", "[I", true)
  | 4 => ("WaterOffice$LawBook", "counts", "[I", true)
  | _ => ("WaterOffice$LawBook", "count", "I", false)
def tyX4 : Nat → FieldType := fun k => match k with
  | 0 => .array .int
  | 1 => .array .int
  | 2 => .array .int
  | 3 => .array .int
  | 4 => .array .int
  | _ => .int
abbrev wsX40 : List Cond := u_ws RX4 TX4 6
theorem nmX4 : ∀ a, a < 6 → ∀ b, b < 6 → a ≠ b → (TX4 a).2.1 ≠ (TX4 b).2.1 := by decide +kernel
theorem tyX4_ok : ∀ k, k < 6 → parseFieldDescriptor (TX4 k).2.2.1 = some (tyX4 k) := by decide +kernel
abbrev cX4_init : ByteArray := prog_6_method_1_code
def yX4_init : MethodName := ⟨RX4, "<init>", "()V"⟩
abbrev cX4_clear : ByteArray := prog_6_method_2_code
def yX4_clear : MethodName := ⟨RX4, "clear", "()V"⟩
abbrev cX4_add : ByteArray := prog_6_method_3_code
def yX4_add : MethodName := ⟨RX4, "add", "(IIII)V"⟩
abbrev cX4_copyFrom : ByteArray := prog_6_method_4_code
def yX4_copyFrom : MethodName := ⟨RX4, "copyFrom", "(LWaterOffice$LawBook;)V"⟩
abbrev cX4_settle : ByteArray := prog_6_method_5_code
def yX4_settle : MethodName := ⟨RX4, "settle", "(I)V"⟩
abbrev cX4_isAboveMost : ByteArray := prog_6_method_6_code
def yX4_isAboveMost : MethodName := ⟨RX4, "isAboveMost", "(I)Z"⟩
abbrev cX4_isClosed : ByteArray := prog_6_method_7_code
def yX4_isClosed : MethodName := ⟨RX4, "isClosed", "(I)Z"⟩
def RX5 : String := "WaterOffice$LawReader"
def TX5 : u_T := fun k => match k with
  | 0 => ("WaterOffice$LawReader", "tape", "LWaterOffice$Tape;", true)
  | 1 => ("WaterOffice$LawReader", "draft", "LWaterOffice$LawBook;", true)
  | 2 => ("WaterOffice$LawReader", "start", "I", false)
  | 3 => ("WaterOffice$LawReader", "stop", "I", false)
  | _ => ("WaterOffice$LawReader", "faultPlace", "I", false)
def tyX5 : Nat → FieldType := fun k => match k with
  | 0 => .object "WaterOffice$Tape"
  | 1 => .object "WaterOffice$LawBook"
  | 2 => .int
  | 3 => .int
  | _ => .int
abbrev wsX50 : List Cond := u_ws RX5 TX5 5
theorem nmX5 : ∀ a, a < 5 → ∀ b, b < 5 → a ≠ b → (TX5 a).2.1 ≠ (TX5 b).2.1 := by decide +kernel
theorem tyX5_ok : ∀ k, k < 5 → parseFieldDescriptor (TX5 k).2.2.1 = some (tyX5 k) := by decide +kernel
abbrev cX5_init : ByteArray := prog_7_method_1_code
def yX5_init : MethodName := ⟨RX5, "<init>", "(LWaterOffice$Tape;)V"⟩
abbrev cX5_read : ByteArray := prog_7_method_2_code
def yX5_read : MethodName := ⟨RX5, "read", "()Z"⟩
abbrev cX5_cannotGoOn : ByteArray := prog_7_method_3_code
def yX5_cannotGoOn : MethodName := ⟨RX5, "cannotGoOn", "()Z"⟩
abbrev cX5_readLaw : ByteArray := prog_7_method_4_code
def yX5_readLaw : MethodName := ⟨RX5, "readLaw", "()Z"⟩
abbrev cX5_takeKind : ByteArray := prog_7_method_5_code
def yX5_takeKind : MethodName := ⟨RX5, "takeKind", "()I"⟩
abbrev cX5_takeRankName : ByteArray := prog_7_method_6_code
def yX5_takeRankName : MethodName := ⟨RX5, "takeRankName", "()I"⟩
abbrev cX5_takeWord : ByteArray := prog_7_method_7_code
def yX5_takeWord : MethodName := ⟨RX5, "takeWord", "(Ljava/lang/String;)Z"⟩
abbrev cX5_takeNumber : ByteArray := prog_7_method_8_code
def yX5_takeNumber : MethodName := ⟨RX5, "takeNumber", "(II)I"⟩
abbrev cX5_isAtEnd : ByteArray := prog_7_method_9_code
def yX5_isAtEnd : MethodName := ⟨RX5, "isAtEnd", "()Z"⟩
abbrev cX5_step : ByteArray := prog_7_method_10_code
def yX5_step : MethodName := ⟨RX5, "step", "()V"⟩
abbrev cX5_mostOf : ByteArray := prog_7_method_11_code
def yX5_mostOf : MethodName := ⟨RX5, "mostOf", "(I)I"⟩
abbrev cX5_byteKind : ByteArray := prog_7_method_12_code
def yX5_byteKind : MethodName := ⟨RX5, "byteKind", "(I)I"⟩
def RX6 : String := "WaterOffice$Nozzles"
def TX6 : u_T := fun k => match k with
  | 0 => ("WaterOffice$Nozzles", "size", "[I", true)
  | 1 => ("WaterOffice$Nozzles", "rank", "[I", true)
  | 2 => ("WaterOffice$Nozzles", "of", "[I", true)
  | 3 => ("WaterOffice$Nozzles", "openFrom", "[I", true)
  | 4 => ("WaterOffice$Nozzles", "openTo", "[I", true)
  | 5 => ("WaterOffice$Nozzles", "atCastle", "LWaterOffice$Groups;", true)
  | _ => ("WaterOffice$Nozzles", "count", "I", false)
def tyX6 : Nat → FieldType := fun k => match k with
  | 0 => .array .int
  | 1 => .array .int
  | 2 => .array .int
  | 3 => .array .int
  | 4 => .array .int
  | 5 => .object "WaterOffice$Groups"
  | _ => .int
abbrev wsX60 : List Cond := u_ws RX6 TX6 7
theorem nmX6 : ∀ a, a < 7 → ∀ b, b < 7 → a ≠ b → (TX6 a).2.1 ≠ (TX6 b).2.1 := by decide +kernel
theorem tyX6_ok : ∀ k, k < 7 → parseFieldDescriptor (TX6 k).2.2.1 = some (tyX6 k) := by decide +kernel
abbrev cX6_init : ByteArray := prog_8_method_1_code
def yX6_init : MethodName := ⟨RX6, "<init>", "()V"⟩
abbrev cX6_has : ByteArray := prog_8_method_2_code
def yX6_has : MethodName := ⟨RX6, "has", "(I)Z"⟩
abbrev cX6_stamp : ByteArray := prog_8_method_3_code
def yX6_stamp : MethodName := ⟨RX6, "stamp", "(IIIII)I"⟩
abbrev cX6_close : ByteArray := prog_8_method_4_code
def yX6_close : MethodName := ⟨RX6, "close", "(II)V"⟩
abbrev cX6_isOpen : ByteArray := prog_8_method_5_code
def yX6_isOpen : MethodName := ⟨RX6, "isOpen", "(II)Z"⟩
abbrev cX6_isGrantOf : ByteArray := prog_8_method_6_code
def yX6_isGrantOf : MethodName := ⟨RX6, "isGrantOf", "(II)Z"⟩
def RX7 : String := "WaterOffice$Shares"
def TX7 : u_T := fun k => match k with
  | 0 => ("WaterOffice$Shares", "claimant", "[I", true)
  | 1 => ("WaterOffice$Shares", "weight", "[I", true)
  | 2 => ("WaterOffice$Shares", "share", "[I", true)
  | 3 => ("WaterOffice$Shares", "allWeights", "I", false)
  | _ => ("WaterOffice$Shares", "count", "I", false)
def tyX7 : Nat → FieldType := fun k => match k with
  | 0 => .array .int
  | 1 => .array .int
  | 2 => .array .int
  | 3 => .int
  | _ => .int
abbrev wsX70 : List Cond := u_ws RX7 TX7 5
theorem nmX7 : ∀ a, a < 5 → ∀ b, b < 5 → a ≠ b → (TX7 a).2.1 ≠ (TX7 b).2.1 := by decide +kernel
theorem tyX7_ok : ∀ k, k < 5 → parseFieldDescriptor (TX7 k).2.2.1 = some (tyX7 k) := by decide +kernel
abbrev cX7_init : ByteArray := prog_9_method_1_code
def yX7_init : MethodName := ⟨RX7, "<init>", "()V"⟩
abbrev cX7_clear : ByteArray := prog_9_method_2_code
def yX7_clear : MethodName := ⟨RX7, "clear", "()V"⟩
abbrev cX7_add : ByteArray := prog_9_method_3_code
def yX7_add : MethodName := ⟨RX7, "add", "(II)V"⟩
abbrev cX7_part : ByteArray := prog_9_method_4_code
def yX7_part : MethodName := ⟨RX7, "part", "(I)I"⟩
def RX8 : String := "WaterOffice$Spans"
def TX8 : u_T := fun k => match k with
  | 0 => ("WaterOffice$Spans", "amount", "[I", true)
  | 1 => ("WaterOffice$Spans", "first", "[I", true)
  | 2 => ("WaterOffice$Spans", "last", "[I", true)
  | 3 => ("WaterOffice$Spans", "onPipe", "LWaterOffice$Groups;", true)
  | _ => ("WaterOffice$Spans", "count", "I", false)
def tyX8 : Nat → FieldType := fun k => match k with
  | 0 => .array .int
  | 1 => .array .int
  | 2 => .array .int
  | 3 => .object "WaterOffice$Groups"
  | _ => .int
abbrev wsX80 : List Cond := u_ws RX8 TX8 5
theorem nmX8 : ∀ a, a < 5 → ∀ b, b < 5 → a ≠ b → (TX8 a).2.1 ≠ (TX8 b).2.1 := by decide +kernel
theorem tyX8_ok : ∀ k, k < 5 → parseFieldDescriptor (TX8 k).2.2.1 = some (tyX8 k) := by decide +kernel
abbrev cX8_init : ByteArray := prog_10_method_1_code
def yX8_init : MethodName := ⟨RX8, "<init>", "(I)V"⟩
abbrev cX8_add : ByteArray := prog_10_method_2_code
def yX8_add : MethodName := ⟨RX8, "add", "(IIII)I"⟩
abbrev cX8_isIn : ByteArray := prog_10_method_3_code
def yX8_isIn : MethodName := ⟨RX8, "isIn", "(II)Z"⟩
abbrev cX8_hasAny : ByteArray := prog_10_method_4_code
def yX8_hasAny : MethodName := ⟨RX8, "hasAny", "(II)Z"⟩
abbrev cX8_take : ByteArray := prog_10_method_5_code
def yX8_take : MethodName := ⟨RX8, "take", "(III)I"⟩
def RX9 : String := "WaterOffice$Springs"
def TX9 : u_T := fun k => match k with
  | 0 => ("WaterOffice$Springs", "usual", "[I", true)
  | 1 => ("WaterOffice$Springs", "aqueduct", "[I", true)
  | 2 => ("WaterOffice$Springs", "year", "[I", true)
  | 3 => ("WaterOffice$Springs", "amount", "[I", true)
  | 4 => ("WaterOffice$Springs", "left", "[I", true)
  | 5 => ("WaterOffice$Springs", "aqueducts", "I", false)
  | _ => ("WaterOffice$Springs", "count", "I", false)
def tyX9 : Nat → FieldType := fun k => match k with
  | 0 => .array .int
  | 1 => .array .int
  | 2 => .array .int
  | 3 => .array .int
  | 4 => .array .int
  | 5 => .int
  | _ => .int
abbrev wsX90 : List Cond := u_ws RX9 TX9 7
theorem nmX9 : ∀ a, a < 7 → ∀ b, b < 7 → a ≠ b → (TX9 a).2.1 ≠ (TX9 b).2.1 := by decide +kernel
theorem tyX9_ok : ∀ k, k < 7 → parseFieldDescriptor (TX9 k).2.2.1 = some (tyX9 k) := by decide +kernel
abbrev cX9_init : ByteArray := prog_11_method_1_code
def yX9_init : MethodName := ⟨RX9, "<init>", "()V"⟩
abbrev cX9_hasAqueduct : ByteArray := prog_11_method_2_code
def yX9_hasAqueduct : MethodName := ⟨RX9, "hasAqueduct", "(I)Z"⟩
abbrev cX9_addAqueduct : ByteArray := prog_11_method_3_code
def yX9_addAqueduct : MethodName := ⟨RX9, "addAqueduct", "(I)I"⟩
abbrev cX9_change : ByteArray := prog_11_method_4_code
def yX9_change : MethodName := ⟨RX9, "change", "(III)I"⟩
abbrev cX9_placeOf : ByteArray := prog_11_method_5_code
def yX9_placeOf : MethodName := ⟨RX9, "placeOf", "(II)I"⟩
abbrev cX9_settle : ByteArray := prog_11_method_6_code
def yX9_settle : MethodName := ⟨RX9, "settle", "(I)V"⟩
abbrev cX9_draw : ByteArray := prog_11_method_7_code
def yX9_draw : MethodName := ⟨RX9, "draw", "(II)I"⟩
def RX10 : String := "WaterOffice$Tape"
def TX10 : u_T := fun k => match k with
  | 0 => ("WaterOffice$Tape", "bytes", "[B", true)
  | _ => ("WaterOffice$Tape", "count", "I", false)
def tyX10 : Nat → FieldType := fun k => match k with
  | 0 => .array .byte
  | _ => .int
abbrev wsX100 : List Cond := u_ws RX10 TX10 2
theorem nmX10 : ∀ a, a < 2 → ∀ b, b < 2 → a ≠ b → (TX10 a).2.1 ≠ (TX10 b).2.1 := by decide +kernel
theorem tyX10_ok : ∀ k, k < 2 → parseFieldDescriptor (TX10 k).2.2.1 = some (tyX10 k) := by decide +kernel
abbrev cX10_init : ByteArray := prog_12_method_1_code
def yX10_init : MethodName := ⟨RX10, "<init>", "()V"⟩
abbrev cX10_hasRoom : ByteArray := prog_12_method_2_code
def yX10_hasRoom : MethodName := ⟨RX10, "hasRoom", "(I)Z"⟩
abbrev cX10_write : ByteArray := prog_12_method_3_code
def yX10_write : MethodName := ⟨RX10, "write", "(I)V"⟩
abbrev cX10_byteAt : ByteArray := prog_12_method_4_code
def yX10_byteAt : MethodName := ⟨RX10, "byteAt", "(I)I"⟩
def RX11 : String := "WaterOffice"
def TX11 : u_T := fun k => match k with
  | 0 => ("WaterOffice", "tape", "LWaterOffice$Tape;", true)
  | 1 => ("WaterOffice", "reader", "LWaterOffice$LawReader;", true)
  | 2 => ("WaterOffice", "book", "LWaterOffice$LawBook;", true)
  | 3 => ("WaterOffice", "deaths", "LWaterOffice$Deaths;", true)
  | 4 => ("WaterOffice", "springs", "LWaterOffice$Springs;", true)
  | 5 => ("WaterOffice", "castles", "LWaterOffice$Castles;", true)
  | 6 => ("WaterOffice", "nozzles", "LWaterOffice$Nozzles;", true)
  | 7 => ("WaterOffice", "taps", "LWaterOffice$Spans;", true)
  | 8 => ("WaterOffice", "repairs", "LWaterOffice$Spans;", true)
  | 9 => ("WaterOffice", "flows", "LWaterOffice$Flows;", true)
  | 10 => ("WaterOffice", "dryQuarters", "[I", true)
  | 11 => ("WaterOffice", "persons", "I", false)
  | 12 => ("WaterOffice", "now", "I", false)
  | _ => ("WaterOffice", "refusal", "I", false)
def tyX11 : Nat → FieldType := fun k => match k with
  | 0 => .object "WaterOffice$Tape"
  | 1 => .object "WaterOffice$LawReader"
  | 2 => .object "WaterOffice$LawBook"
  | 3 => .object "WaterOffice$Deaths"
  | 4 => .object "WaterOffice$Springs"
  | 5 => .object "WaterOffice$Castles"
  | 6 => .object "WaterOffice$Nozzles"
  | 7 => .object "WaterOffice$Spans"
  | 8 => .object "WaterOffice$Spans"
  | 9 => .object "WaterOffice$Flows"
  | 10 => .array .int
  | 11 => .int
  | 12 => .int
  | _ => .int
abbrev wsX110 : List Cond := u_ws RX11 TX11 14
theorem nmX11 : ∀ a, a < 14 → ∀ b, b < 14 → a ≠ b → (TX11 a).2.1 ≠ (TX11 b).2.1 := by decide +kernel
theorem tyX11_ok : ∀ k, k < 14 → parseFieldDescriptor (TX11 k).2.2.1 = some (tyX11 k) := by decide +kernel
abbrev cX11_init : ByteArray := prog_1_method_1_code
def yX11_init : MethodName := ⟨RX11, "<init>", "()V"⟩
abbrev cX11_aqueduct : ByteArray := prog_1_method_2_code
def yX11_aqueduct : MethodName := ⟨RX11, "aqueduct", "(I)I"⟩
abbrev cX11_spring : ByteArray := prog_1_method_3_code
def yX11_spring : MethodName := ⟨RX11, "spring", "(III)I"⟩
abbrev cX11_castle : ByteArray := prog_1_method_4_code
def yX11_castle : MethodName := ⟨RX11, "castle", "(III)I"⟩
abbrev cX11_person : ByteArray := prog_1_method_5_code
def yX11_person : MethodName := ⟨RX11, "person", "()I"⟩
abbrev cX11_death : ByteArray := prog_1_method_6_code
def yX11_death : MethodName := ⟨RX11, "death", "(III)I"⟩
abbrev cX11_nozzle : ByteArray := prog_1_method_7_code
def yX11_nozzle : MethodName := ⟨RX11, "nozzle", "(IIII)I"⟩
abbrev cX11_shut : ByteArray := prog_1_method_8_code
def yX11_shut : MethodName := ⟨RX11, "shut", "(I)I"⟩
abbrev cX11_tap : ByteArray := prog_1_method_9_code
def yX11_tap : MethodName := ⟨RX11, "tap", "(IIII)I"⟩
abbrev cX11_repair : ByteArray := prog_1_method_10_code
def yX11_repair : MethodName := ⟨RX11, "repair", "(III)I"⟩
abbrev cX11_go : ByteArray := prog_1_method_11_code
def yX11_go : MethodName := ⟨RX11, "go", "(I)I"⟩
abbrev cX11_feed : ByteArray := prog_1_method_12_code
def yX11_feed : MethodName := ⟨RX11, "feed", "(IIIII)I"⟩
abbrev cX11_end : ByteArray := prog_1_method_13_code
def yX11_end : MethodName := ⟨RX11, "end", "(I)I"⟩
abbrev cX11_laws : ByteArray := prog_1_method_14_code
def yX11_laws : MethodName := ⟨RX11, "laws", "()I"⟩
abbrev cX11_fault : ByteArray := prog_1_method_15_code
def yX11_fault : MethodName := ⟨RX11, "fault", "()I"⟩
abbrev cX11_law : ByteArray := prog_1_method_16_code
def yX11_law : MethodName := ⟨RX11, "law", "(II)I"⟩
abbrev cX11_lives : ByteArray := prog_1_method_17_code
def yX11_lives : MethodName := ⟨RX11, "lives", "(III)I"⟩
abbrev cX11_gets : ByteArray := prog_1_method_18_code
def yX11_gets : MethodName := ⟨RX11, "gets", "(III)I"⟩
abbrev cX11_at : ByteArray := prog_1_method_19_code
def yX11_at : MethodName := ⟨RX11, "at", "(IIII)I"⟩
abbrev cX11_dry : ByteArray := prog_1_method_20_code
def yX11_dry : MethodName := ⟨RX11, "dry", "(III)I"⟩
abbrev cX11_found : ByteArray := prog_1_method_21_code
def yX11_found : MethodName := ⟨RX11, "found", "(II)I"⟩
abbrev cX11_best : ByteArray := prog_1_method_22_code
def yX11_best : MethodName := ⟨RX11, "best", "(IIII)I"⟩
abbrev cX11_rent : ByteArray := prog_1_method_23_code
def yX11_rent : MethodName := ⟨RX11, "rent", "(II)J"⟩
abbrev cX11_fines : ByteArray := prog_1_method_24_code
def yX11_fines : MethodName := ⟨RX11, "fines", "(I)J"⟩
abbrev cX11_dead : ByteArray := prog_1_method_25_code
def yX11_dead : MethodName := ⟨RX11, "dead", "(II)I"⟩
abbrev cX11_count : ByteArray := prog_1_method_26_code
def yX11_count : MethodName := ⟨RX11, "count", "(I)I"⟩
abbrev cX11_status : ByteArray := prog_1_method_27_code
def yX11_status : MethodName := ⟨RX11, "status", "()I"⟩
abbrev cX11_told : ByteArray := prog_1_method_28_code
def yX11_told : MethodName := ⟨RX11, "told", "(I)I"⟩
abbrev cX11_isPerson : ByteArray := prog_1_method_29_code
def yX11_isPerson : MethodName := ⟨RX11, "isPerson", "(I)Z"⟩
abbrev cX11_isSource : ByteArray := prog_1_method_30_code
def yX11_isSource : MethodName := ⟨RX11, "isSource", "(I)Z"⟩
abbrev cX11_countDryQuarters : ByteArray := prog_1_method_31_code
def yX11_countDryQuarters : MethodName := ⟨RX11, "countDryQuarters", "(III)V"⟩
abbrev cX11_leastDryYear : ByteArray := prog_1_method_32_code
def yX11_leastDryYear : MethodName := ⟨RX11, "leastDryYear", "(III)I"⟩
abbrev cX11_sumDry : ByteArray := prog_1_method_33_code
def yX11_sumDry : MethodName := ⟨RX11, "sumDry", "(II)I"⟩
abbrev cX11_isWithin : ByteArray := prog_1_method_34_code
def yX11_isWithin : MethodName := ⟨RX11, "isWithin", "(III)Z"⟩
abbrev cX11_isYear : ByteArray := prog_1_method_35_code
def yX11_isYear : MethodName := ⟨RX11, "isYear", "(I)Z"⟩
abbrev cX11_areYears : ByteArray := prog_1_method_36_code
def yX11_areYears : MethodName := ⟨RX11, "areYears", "(II)Z"⟩
abbrev cX11_isQuarter : ByteArray := prog_1_method_37_code
def yX11_isQuarter : MethodName := ⟨RX11, "isQuarter", "(I)Z"⟩
def RX12 : String := "WaterOfficeModel"
def TX12 : u_T := fun k => match k with
  | 0 => ("WaterOfficeModel", "thrown", "I", false)
  | 1 => ("WaterOfficeModel", "status", "I", false)
  | 2 => ("WaterOfficeModel", "now", "I", false)
  | 3 => ("WaterOfficeModel", "aqueducts", "I", false)
  | 4 => ("WaterOfficeModel", "yields", "[I", true)
  | 5 => ("WaterOfficeModel", "springs", "I", false)
  | 6 => ("WaterOfficeModel", "gAqueduct", "[I", true)
  | 7 => ("WaterOfficeModel", "gYear", "[I", true)
  | 8 => ("WaterOfficeModel", "gAmount", "[I", true)
  | 9 => ("WaterOfficeModel", "castles", "I", false)
  | 10 => ("WaterOfficeModel", "cFrom", "[I", true)
  | 11 => ("WaterOfficeModel", "cCarries", "[I", true)
  | 12 => ("WaterOfficeModel", "cLoss", "[I", true)
  | 13 => ("WaterOfficeModel", "persons", "I", false)
  | 14 => ("WaterOfficeModel", "deaths", "I", false)
  | 15 => ("WaterOfficeModel", "dPerson", "[I", true)
  | 16 => ("WaterOfficeModel", "dYear", "[I", true)
  | 17 => ("WaterOfficeModel", "dKnown", "[I", true)
  | 18 => ("WaterOfficeModel", "nozzles", "I", false)
  | 19 => ("WaterOfficeModel", "zCastle", "[I", true)
  | 20 => ("WaterOfficeModel", "zSize", "[I", true)
  | 21 => ("WaterOfficeModel", "zRank", "[I", true)
  | 22 => ("WaterOfficeModel", "zOf", "[I", true)
  | 23 => ("WaterOfficeModel", "zFrom", "[I", true)
  | 24 => ("WaterOfficeModel", "zShut", "[I", true)
  | 25 => ("WaterOfficeModel", "taps", "I", false)
  | 26 => ("WaterOfficeModel", "tCastle", "[I", true)
  | 27 => ("WaterOfficeModel", "tAmount", "[I", true)
  | 28 => ("WaterOfficeModel", "tFirst", "[I", true)
  | 29 => ("WaterOfficeModel", "tLast", "[I", true)
  | 30 => ("WaterOfficeModel", "repairs", "I", false)
  | 31 => ("WaterOfficeModel", "eCastle", "[I", true)
  | 32 => ("WaterOfficeModel", "eFirst", "[I", true)
  | 33 => ("WaterOfficeModel", "eLast", "[I", true)
  | 34 => ("WaterOfficeModel", "lawMany", "I", false)
  | 35 => ("WaterOfficeModel", "lSort", "[I", true)
  | 36 => ("WaterOfficeModel", "lFrom", "[I", true)
  | 37 => ("WaterOfficeModel", "lTo", "[I", true)
  | 38 => ("WaterOfficeModel", "lValue", "[I", true)
  | 39 => ("WaterOfficeModel", "nLaw", "[I", true)
  | 40 => ("WaterOfficeModel", "nMany", "I", false)
  | 41 => ("WaterOfficeModel", "tape", "[I", true)
  | 42 => ("WaterOfficeModel", "taped", "I", false)
  | 43 => ("WaterOfficeModel", "from", "I", false)
  | 44 => ("WaterOfficeModel", "to", "I", false)
  | 45 => ("WaterOfficeModel", "sort", "I", false)
  | 46 => ("WaterOfficeModel", "worth", "J", false)
  | 47 => ("WaterOfficeModel", "fault", "I", false)
  | 48 => ("WaterOfficeModel", "bad", "Z", false)
  | 49 => ("WaterOfficeModel", "inOf", "[I", true)
  | 50 => ("WaterOfficeModel", "into", "[I", true)
  | 51 => ("WaterOfficeModel", "tapped", "[I", true)
  | 52 => ("WaterOfficeModel", "lost", "[I", true)
  | 53 => ("WaterOfficeModel", "given", "[I", true)
  | 54 => ("WaterOfficeModel", "onward", "[I", true)
  | 55 => ("WaterOfficeModel", "get", "[I", true)
  | 56 => ("WaterOfficeModel", "pick", "[I", true)
  | 57 => ("WaterOfficeModel", "weigh", "[I", true)
  | 58 => ("WaterOfficeModel", "share", "[I", true)
  | _ => ("WaterOfficeModel", "picked", "I", false)
def tyX12 : Nat → FieldType := fun k => match k with
  | 0 => .int
  | 1 => .int
  | 2 => .int
  | 3 => .int
  | 4 => .array .int
  | 5 => .int
  | 6 => .array .int
  | 7 => .array .int
  | 8 => .array .int
  | 9 => .int
  | 10 => .array .int
  | 11 => .array .int
  | 12 => .array .int
  | 13 => .int
  | 14 => .int
  | 15 => .array .int
  | 16 => .array .int
  | 17 => .array .int
  | 18 => .int
  | 19 => .array .int
  | 20 => .array .int
  | 21 => .array .int
  | 22 => .array .int
  | 23 => .array .int
  | 24 => .array .int
  | 25 => .int
  | 26 => .array .int
  | 27 => .array .int
  | 28 => .array .int
  | 29 => .array .int
  | 30 => .int
  | 31 => .array .int
  | 32 => .array .int
  | 33 => .array .int
  | 34 => .int
  | 35 => .array .int
  | 36 => .array .int
  | 37 => .array .int
  | 38 => .array .int
  | 39 => .array .int
  | 40 => .int
  | 41 => .array .int
  | 42 => .int
  | 43 => .int
  | 44 => .int
  | 45 => .int
  | 46 => .long
  | 47 => .int
  | 48 => .boolean
  | 49 => .array .int
  | 50 => .array .int
  | 51 => .array .int
  | 52 => .array .int
  | 53 => .array .int
  | 54 => .array .int
  | 55 => .array .int
  | 56 => .array .int
  | 57 => .array .int
  | 58 => .array .int
  | _ => .int
abbrev wsX120 : List Cond := u_ws RX12 TX12 60
theorem nmX12 : ∀ a, a < 60 → ∀ b, b < 60 → a ≠ b → (TX12 a).2.1 ≠ (TX12 b).2.1 := by decide +kernel
theorem tyX12_ok : ∀ k, k < 60 → parseFieldDescriptor (TX12 k).2.2.1 = some (tyX12 k) := by decide +kernel
abbrev cX12_init : ByteArray := prog_14_method_1_code
def yX12_init : MethodName := ⟨RX12, "<init>", "()V"⟩
abbrev cX12_in : ByteArray := prog_14_method_3_code
def yX12_in : MethodName := ⟨RX12, "in", "(JJJ)Z"⟩
abbrev cX12_told : ByteArray := prog_14_method_4_code
def yX12_told : MethodName := ⟨RX12, "told", "(I)I"⟩
abbrev cX12_isYear : ByteArray := prog_14_method_5_code
def yX12_isYear : MethodName := ⟨RX12, "isYear", "(I)Z"⟩
abbrev cX12_isCastle : ByteArray := prog_14_method_6_code
def yX12_isCastle : MethodName := ⟨RX12, "isCastle", "(I)Z"⟩
abbrev cX12_isPerson : ByteArray := prog_14_method_7_code
def yX12_isPerson : MethodName := ⟨RX12, "isPerson", "(I)Z"⟩
abbrev cX12_isNozzle : ByteArray := prog_14_method_8_code
def yX12_isNozzle : MethodName := ⟨RX12, "isNozzle", "(I)Z"⟩
abbrev cX12_aqueduct : ByteArray := prog_14_method_9_code
def yX12_aqueduct : MethodName := ⟨RX12, "aqueduct", "(I)I"⟩
abbrev cX12_spring : ByteArray := prog_14_method_10_code
def yX12_spring : MethodName := ⟨RX12, "spring", "(III)I"⟩
abbrev cX12_castle : ByteArray := prog_14_method_11_code
def yX12_castle : MethodName := ⟨RX12, "castle", "(III)I"⟩
abbrev cX12_person : ByteArray := prog_14_method_12_code
def yX12_person : MethodName := ⟨RX12, "person", "()I"⟩
abbrev cX12_death : ByteArray := prog_14_method_13_code
def yX12_death : MethodName := ⟨RX12, "death", "(III)I"⟩
abbrev cX12_deadOf : ByteArray := prog_14_method_14_code
def yX12_deadOf : MethodName := ⟨RX12, "deadOf", "(II)I"⟩
abbrev cX12_dead : ByteArray := prog_14_method_15_code
def yX12_dead : MethodName := ⟨RX12, "dead", "(II)I"⟩
abbrev cX12_nozzle : ByteArray := prog_14_method_16_code
def yX12_nozzle : MethodName := ⟨RX12, "nozzle", "(IIII)I"⟩
abbrev cX12_shut : ByteArray := prog_14_method_17_code
def yX12_shut : MethodName := ⟨RX12, "shut", "(I)I"⟩
abbrev cX12_tap : ByteArray := prog_14_method_18_code
def yX12_tap : MethodName := ⟨RX12, "tap", "(IIII)I"⟩
abbrev cX12_repair : ByteArray := prog_14_method_19_code
def yX12_repair : MethodName := ⟨RX12, "repair", "(III)I"⟩
abbrev cX12_go : ByteArray := prog_14_method_20_code
def yX12_go : MethodName := ⟨RX12, "go", "(I)I"⟩
abbrev cX12_lawOf : ByteArray := prog_14_method_21_code
def yX12_lawOf : MethodName := ⟨RX12, "lawOf", "(II)I"⟩
abbrev cX12_isClosed : ByteArray := prog_14_method_22_code
def yX12_isClosed : MethodName := ⟨RX12, "isClosed", "(II)Z"⟩
abbrev cX12_law : ByteArray := prog_14_method_23_code
def yX12_law : MethodName := ⟨RX12, "law", "(II)I"⟩
abbrev cX12_four : ByteArray := prog_14_method_24_code
def yX12_four : MethodName := ⟨RX12, "four", "(I)V"⟩
abbrev cX12_feed : ByteArray := prog_14_method_25_code
def yX12_feed : MethodName := ⟨RX12, "feed", "(IIIII)I"⟩
abbrev cX12_end : ByteArray := prog_14_method_26_code
def yX12_end : MethodName := ⟨RX12, "end", "(I)I"⟩
abbrev cX12_isSmall : ByteArray := prog_14_method_27_code
def yX12_isSmall : MethodName := ⟨RX12, "isSmall", "(I)Z"⟩
abbrev cX12_isDigit : ByteArray := prog_14_method_28_code
def yX12_isDigit : MethodName := ⟨RX12, "isDigit", "(I)Z"⟩
abbrev cX12_next : ByteArray := prog_14_method_29_code
def yX12_next : MethodName := ⟨RX12, "next", "()V"⟩
abbrev cX12_isWord : ByteArray := prog_14_method_30_code
def yX12_isWord : MethodName := ⟨RX12, "isWord", "(IIIII)Z"⟩
abbrev cX12_isLong : ByteArray := prog_14_method_31_code
def yX12_isLong : MethodName := ⟨RX12, "isLong", "(IIIIIIIII)Z"⟩
abbrev cX12_must : ByteArray := prog_14_method_32_code
def yX12_must : MethodName := ⟨RX12, "must", "(Z)V"⟩
abbrev cX12_number : ByteArray := prog_14_method_33_code
def yX12_number : MethodName := ⟨RX12, "number", "(J)I"⟩
abbrev cX12_readLaw : ByteArray := prog_14_method_34_code
def yX12_readLaw : MethodName := ⟨RX12, "readLaw", "()V"⟩
abbrev cX12_laws : ByteArray := prog_14_method_35_code
def yX12_laws : MethodName := ⟨RX12, "laws", "()I"⟩
abbrev cX12_fault : ByteArray := prog_14_method_36_code
def yX12_fault : MethodName := ⟨RX12, "fault", "()I"⟩
abbrev cX12_isOpen : ByteArray := prog_14_method_37_code
def yX12_isOpen : MethodName := ⟨RX12, "isOpen", "(II)Z"⟩
abbrev cX12_livesIn : ByteArray := prog_14_method_38_code
def yX12_livesIn : MethodName := ⟨RX12, "livesIn", "(III)Z"⟩
abbrev cX12_isDown : ByteArray := prog_14_method_39_code
def yX12_isDown : MethodName := ⟨RX12, "isDown", "(II)Z"⟩
abbrev cX12_yieldOf : ByteArray := prog_14_method_40_code
def yX12_yieldOf : MethodName := ⟨RX12, "yieldOf", "(II)I"⟩
abbrev cX12_deal : ByteArray := prog_14_method_41_code
def yX12_deal : MethodName := ⟨RX12, "deal", "(I)I"⟩
abbrev cX12_flow : ByteArray := prog_14_method_42_code
def yX12_flow : MethodName := ⟨RX12, "flow", "(II)V"⟩
abbrev cX12_flowAt : ByteArray := prog_14_method_43_code
def yX12_flowAt : MethodName := ⟨RX12, "flowAt", "(III)V"⟩
abbrev cX12_lives : ByteArray := prog_14_method_44_code
def yX12_lives : MethodName := ⟨RX12, "lives", "(III)I"⟩
abbrev cX12_gets : ByteArray := prog_14_method_45_code
def yX12_gets : MethodName := ⟨RX12, "gets", "(III)I"⟩
abbrev cX12_at : ByteArray := prog_14_method_46_code
def yX12_at : MethodName := ⟨RX12, "at", "(IIII)I"⟩
abbrev cX12_isDry : ByteArray := prog_14_method_47_code
def yX12_isDry : MethodName := ⟨RX12, "isDry", "(II)Z"⟩
abbrev cX12_dry : ByteArray := prog_14_method_48_code
def yX12_dry : MethodName := ⟨RX12, "dry", "(III)I"⟩
abbrev cX12_found : ByteArray := prog_14_method_49_code
def yX12_found : MethodName := ⟨RX12, "found", "(II)I"⟩
abbrev cX12_best : ByteArray := prog_14_method_50_code
def yX12_best : MethodName := ⟨RX12, "best", "(IIII)I"⟩
abbrev cX12_rent : ByteArray := prog_14_method_51_code
def yX12_rent : MethodName := ⟨RX12, "rent", "(II)J"⟩
abbrev cX12_fines : ByteArray := prog_14_method_52_code
def yX12_fines : MethodName := ⟨RX12, "fines", "(I)J"⟩
abbrev cX12_count : ByteArray := prog_14_method_53_code
def yX12_count : MethodName := ⟨RX12, "count", "(I)I"⟩
abbrev cX12_status : ByteArray := prog_14_method_54_code
def yX12_status : MethodName := ⟨RX12, "status", "()I"⟩
def RJ9 : String := "java/lang/Math"
def TJ9 : u_T := fun k => match k with
  | _ => ("", "", "", false)
def tyJ9 : Nat → FieldType := fun k => match k with
  | _ => .int
abbrev wsJ90 : List Cond := u_ws RJ9 TJ9 0
theorem nmJ9 : ∀ a, a < 0 → ∀ b, b < 0 → a ≠ b → (TJ9 a).2.1 ≠ (TJ9 b).2.1 := by decide +kernel
theorem tyJ9_ok : ∀ k, k < 0 → parseFieldDescriptor (TJ9 k).2.2.1 = some (tyJ9 k) := by decide +kernel
abbrev cJ9_max_7cf53 : ByteArray := prog_15_method_65_code
def yJ9_max_7cf53 : MethodName := ⟨RJ9, "max", "(II)I"⟩
abbrev cJ9_min_7cf53 : ByteArray := prog_15_method_69_code
def yJ9_min_7cf53 : MethodName := ⟨RJ9, "min", "(II)I"⟩
def RJ0 : String := "java/lang/String"
def TJ0 : u_T := fun k => match k with
  | _ => ("", "", "", false)
def tyJ0 : Nat → FieldType := fun k => match k with
  | _ => .int
abbrev wsJ00 : List Cond := u_ws RJ0 TJ0 0
theorem nmJ0 : ∀ a, a < 0 → ∀ b, b < 0 → a ≠ b → (TJ0 a).2.1 ≠ (TJ0 b).2.1 := by decide +kernel
theorem tyJ0_ok : ∀ k, k < 0 → parseFieldDescriptor (TJ0 k).2.2.1 = some (tyJ0 k) := by decide +kernel
abbrev cJ0_length_8abf5 : ByteArray := prog_16_method_54_code
def yJ0_length_8abf5 : MethodName := ⟨RJ0, "length", "()I"⟩
abbrev cJ0_charAt_5068e : ByteArray := prog_16_method_56_code
def yJ0_charAt_5068e : MethodName := ⟨RJ0, "charAt", "(I)C"⟩
abbrev cJ0_coder_7d493 : ByteArray := prog_16_method_152_code
def yJ0_coder_7d493 : MethodName := ⟨RJ0, "coder", "()B"⟩
abbrev cJ0_isLatin1_aae02 : ByteArray := prog_16_method_154_code
def yJ0_isLatin1_aae02 : MethodName := ⟨RJ0, "isLatin1", "()Z"⟩
abbrev cJ0_checkIndex_df160 : ByteArray := prog_16_method_155_code
def yJ0_checkIndex_df160 : MethodName := ⟨RJ0, "checkIndex", "(II)V"⟩
def RJ1 : String := "java/lang/StringLatin1"
def TJ1 : u_T := fun k => match k with
  | _ => ("", "", "", false)
def tyJ1 : Nat → FieldType := fun k => match k with
  | _ => .int
abbrev wsJ10 : List Cond := u_ws RJ1 TJ1 0
theorem nmJ1 : ∀ a, a < 0 → ∀ b, b < 0 → a ≠ b → (TJ1 a).2.1 ≠ (TJ1 b).2.1 := by decide +kernel
theorem tyJ1_ok : ∀ k, k < 0 → parseFieldDescriptor (TJ1 k).2.2.1 = some (tyJ1 k) := by decide +kernel
abbrev cJ1_charAt_3b067 : ByteArray := prog_17_method_2_code
def yJ1_charAt_3b067 : MethodName := ⟨RJ1, "charAt", "([BI)C"⟩
def RJ2 : String := "java/lang/StringUTF16"
def TJ2 : u_T := fun k => match k with
  | _ => ("", "", "", false)
def tyJ2 : Nat → FieldType := fun k => match k with
  | _ => .int
abbrev wsJ20 : List Cond := u_ws RJ2 TJ2 0
theorem nmJ2 : ∀ a, a < 0 → ∀ b, b < 0 → a ≠ b → (TJ2 a).2.1 ≠ (TJ2 b).2.1 := by decide +kernel
theorem tyJ2_ok : ∀ k, k < 0 → parseFieldDescriptor (TJ2 k).2.2.1 = some (tyJ2 k) := by decide +kernel
abbrev cJ2_getChar_3b067 : ByteArray := prog_18_method_5_code
def yJ2_getChar_3b067 : MethodName := ⟨RJ2, "getChar", "([BI)C"⟩
abbrev cJ2_length_9d52b : ByteArray := prog_18_method_6_code
def yJ2_length_9d52b : MethodName := ⟨RJ2, "length", "([B)I"⟩
abbrev cJ2_charAt_3b067 : ByteArray := prog_18_method_83_code
def yJ2_charAt_3b067 : MethodName := ⟨RJ2, "charAt", "([BI)C"⟩
abbrev cJ2_checkIndex_2214a : ByteArray := prog_18_method_91_code
def yJ2_checkIndex_2214a : MethodName := ⟨RJ2, "checkIndex", "(I[B)V"⟩
def RJ3 : String := "jdk/internal/util/Preconditions"
def TJ3 : u_T := fun k => match k with
  | _ => ("", "", "", false)
def tyJ3 : Nat → FieldType := fun k => match k with
  | _ => .int
abbrev wsJ30 : List Cond := u_ws RJ3 TJ3 0
theorem nmJ3 : ∀ a, a < 0 → ∀ b, b < 0 → a ≠ b → (TJ3 a).2.1 ≠ (TJ3 b).2.1 := by decide +kernel
theorem tyJ3_ok : ∀ k, k < 0 → parseFieldDescriptor (TJ3 k).2.2.1 = some (tyJ3 k) := by decide +kernel
abbrev cJ3_checkIndex_8e157 : ByteArray := prog_19_method_11_code
def yJ3_checkIndex_8e157 : MethodName := ⟨RJ3, "checkIndex", "(IILjava/util/function/BiFunction;)I"⟩
def RL : String := "WaterOfficeLaw"
abbrev cL_law : ByteArray := code
def yL_law : MethodName := ⟨RL, "law", "([I)Z"⟩
abbrev vwCl : List vw_C := [(RX0, TX0, 5), (RX1, TX1, 5), (RX2, TX2, 15), (RX3, TX3, 3), (RX4, TX4, 6), (RX5, TX5, 5), (RX6, TX6, 7), (RX7, TX7, 5), (RX8, TX8, 5), (RX9, TX9, 7), (RX10, TX10, 2), (RX11, TX11, 14), (RX12, TX12, 60)]
end
section
theorem dX0_init_0 : decode cX0_init 0 = .ok (.aload_n 0, 1) := by decide +kernel
theorem dX0_init_1 : decode cX0_init 1 = .ok (.invokespecial 3, 3) := by decide +kernel
theorem dX0_init_4 : decode cX0_init 4 = .ok (.aload_n 0, 1) := by decide +kernel
theorem dX0_init_5 : decode cX0_init 5 = .ok (.bipush 12, 2) := by decide +kernel
theorem dX0_init_7 : decode cX0_init 7 = .ok (.newarray .int, 2) := by decide +kernel
theorem dX0_init_9 : decode cX0_init 9 = .ok (.putfield 9, 3) := by decide +kernel
theorem dX0_init_12 : decode cX0_init 12 = .ok (.aload_n 0, 1) := by decide +kernel
theorem dX0_init_13 : decode cX0_init 13 = .ok (.bipush 12, 2) := by decide +kernel
theorem dX0_init_15 : decode cX0_init 15 = .ok (.newarray .int, 2) := by decide +kernel
theorem dX0_init_17 : decode cX0_init 17 = .ok (.putfield 15, 3) := by decide +kernel
theorem dX0_init_20 : decode cX0_init 20 = .ok (.aload_n 0, 1) := by decide +kernel
theorem dX0_init_21 : decode cX0_init 21 = .ok (.bipush 12, 2) := by decide +kernel
theorem dX0_init_23 : decode cX0_init 23 = .ok (.newarray .int, 2) := by decide +kernel
theorem dX0_init_25 : decode cX0_init 25 = .ok (.putfield 18, 3) := by decide +kernel
theorem dX0_init_28 : decode cX0_init 28 = .ok (.aload_n 0, 1) := by decide +kernel
theorem dX0_init_29 : decode cX0_init 29 = .ok (.new 21, 3) := by decide +kernel
theorem dX0_init_32 : decode cX0_init 32 = .ok (.dup, 1) := by decide +kernel
theorem dX0_init_33 : decode cX0_init 33 = .ok (.bipush 12, 2) := by decide +kernel
theorem dX0_init_35 : decode cX0_init 35 = .ok (.invokespecial 23, 3) := by decide +kernel
theorem dX0_init_38 : decode cX0_init 38 = .ok (.putfield 26, 3) := by decide +kernel
theorem dX0_init_41 : decode cX0_init 41 = .ok (.return_, 1) := by decide +kernel
theorem dX0_has_0 : decode cX0_has 0 = .ok (.iload_n 1, 1) := by decide +kernel
theorem dX0_has_1 : decode cX0_has 1 = .ok (.iconst 0, 1) := by decide +kernel
theorem dX0_has_2 : decode cX0_has 2 = .ok (.aload_n 0, 1) := by decide +kernel
theorem dX0_has_3 : decode cX0_has 3 = .ok (.getfield 30, 3) := by decide +kernel
theorem dX0_has_6 : decode cX0_has 6 = .ok (.iconst 1, 1) := by decide +kernel
theorem dX0_has_7 : decode cX0_has 7 = .ok (.isub, 1) := by decide +kernel
theorem dX0_has_8 : decode cX0_has 8 = .ok (.invokestatic 34, 3) := by decide +kernel
theorem dX0_has_11 : decode cX0_has 11 = .ok (.ireturn, 1) := by decide +kernel
theorem dX0_build_0 : decode cX0_build 0 = .ok (.aload_n 0, 1) := by decide +kernel
theorem dX0_build_1 : decode cX0_build 1 = .ok (.getfield 30, 3) := by decide +kernel
theorem dX0_build_4 : decode cX0_build 4 = .ok (.bipush 12, 2) := by decide +kernel
theorem dX0_build_6 : decode cX0_build 6 = .ok (.if_icmp .lt 6, 3) := by decide +kernel
theorem dX0_build_9 : decode cX0_build 9 = .ok (.bipush (-5), 2) := by decide +kernel
theorem dX0_build_11 : decode cX0_build 11 = .ok (.ireturn, 1) := by decide +kernel
theorem dX0_build_12 : decode cX0_build 12 = .ok (.aload_n 0, 1) := by decide +kernel
theorem dX0_build_13 : decode cX0_build 13 = .ok (.getfield 9, 3) := by decide +kernel
theorem dX0_build_16 : decode cX0_build 16 = .ok (.aload_n 0, 1) := by decide +kernel
theorem dX0_build_17 : decode cX0_build 17 = .ok (.getfield 30, 3) := by decide +kernel
theorem dX0_build_20 : decode cX0_build 20 = .ok (.iload_n 1, 1) := by decide +kernel
theorem dX0_build_21 : decode cX0_build 21 = .ok (.iastore, 1) := by decide +kernel
theorem dX0_build_22 : decode cX0_build 22 = .ok (.aload_n 0, 1) := by decide +kernel
theorem dX0_build_23 : decode cX0_build 23 = .ok (.getfield 15, 3) := by decide +kernel
theorem dX0_build_26 : decode cX0_build 26 = .ok (.aload_n 0, 1) := by decide +kernel
theorem dX0_build_27 : decode cX0_build 27 = .ok (.getfield 30, 3) := by decide +kernel
theorem dX0_build_30 : decode cX0_build 30 = .ok (.iload_n 2, 1) := by decide +kernel
theorem dX0_build_31 : decode cX0_build 31 = .ok (.iastore, 1) := by decide +kernel
theorem dX0_build_32 : decode cX0_build 32 = .ok (.aload_n 0, 1) := by decide +kernel
theorem dX0_build_33 : decode cX0_build 33 = .ok (.getfield 18, 3) := by decide +kernel
theorem dX0_build_36 : decode cX0_build 36 = .ok (.aload_n 0, 1) := by decide +kernel
theorem dX0_build_37 : decode cX0_build 37 = .ok (.getfield 30, 3) := by decide +kernel
theorem dX0_build_40 : decode cX0_build 40 = .ok (.iload_n 3, 1) := by decide +kernel
theorem dX0_build_41 : decode cX0_build 41 = .ok (.iastore, 1) := by decide +kernel
theorem dX0_build_42 : decode cX0_build 42 = .ok (.iload_n 1, 1) := by decide +kernel
theorem dX0_build_43 : decode cX0_build 43 = .ok (.bipush 100, 2) := by decide +kernel
theorem dX0_build_45 : decode cX0_build 45 = .ok (.if_icmp .lt 18, 3) := by decide +kernel
theorem dX0_build_48 : decode cX0_build 48 = .ok (.aload_n 0, 1) := by decide +kernel
theorem dX0_build_49 : decode cX0_build 49 = .ok (.getfield 26, 3) := by decide +kernel
theorem dX0_build_52 : decode cX0_build 52 = .ok (.iload_n 1, 1) := by decide +kernel
theorem dX0_build_53 : decode cX0_build 53 = .ok (.bipush 100, 2) := by decide +kernel
theorem dX0_build_55 : decode cX0_build 55 = .ok (.isub, 1) := by decide +kernel
theorem dX0_build_56 : decode cX0_build 56 = .ok (.aload_n 0, 1) := by decide +kernel
theorem dX0_build_57 : decode cX0_build 57 = .ok (.getfield 30, 3) := by decide +kernel
theorem dX0_build_60 : decode cX0_build 60 = .ok (.invokevirtual 38, 3) := by decide +kernel
theorem dX0_build_63 : decode cX0_build 63 = .ok (.aload_n 0, 1) := by decide +kernel
theorem dX0_build_64 : decode cX0_build 64 = .ok (.dup, 1) := by decide +kernel
theorem dX0_build_65 : decode cX0_build 65 = .ok (.getfield 30, 3) := by decide +kernel
theorem dX0_build_68 : decode cX0_build 68 = .ok (.iconst 1, 1) := by decide +kernel
theorem dX0_build_69 : decode cX0_build 69 = .ok (.iadd, 1) := by decide +kernel
theorem dX0_build_70 : decode cX0_build 70 = .ok (.putfield 30, 3) := by decide +kernel
theorem dX0_build_73 : decode cX0_build 73 = .ok (.aload_n 0, 1) := by decide +kernel
theorem dX0_build_74 : decode cX0_build 74 = .ok (.getfield 30, 3) := by decide +kernel
theorem dX0_build_77 : decode cX0_build 77 = .ok (.iconst 1, 1) := by decide +kernel
theorem dX0_build_78 : decode cX0_build 78 = .ok (.isub, 1) := by decide +kernel
theorem dX0_build_79 : decode cX0_build 79 = .ok (.ireturn, 1) := by decide +kernel
theorem dX1_init_0 : decode cX1_init 0 = .ok (.aload_n 0, 1) := by decide +kernel
theorem dX1_init_1 : decode cX1_init 1 = .ok (.invokespecial 3, 3) := by decide +kernel
theorem dX1_init_4 : decode cX1_init 4 = .ok (.aload_n 0, 1) := by decide +kernel
theorem dX1_init_5 : decode cX1_init 5 = .ok (.bipush 60, 2) := by decide +kernel
theorem dX1_init_7 : decode cX1_init 7 = .ok (.newarray .int, 2) := by decide +kernel
theorem dX1_init_9 : decode cX1_init 9 = .ok (.putfield 9, 3) := by decide +kernel
theorem dX1_init_12 : decode cX1_init 12 = .ok (.aload_n 0, 1) := by decide +kernel
theorem dX1_init_13 : decode cX1_init 13 = .ok (.bipush 60, 2) := by decide +kernel
theorem dX1_init_15 : decode cX1_init 15 = .ok (.newarray .int, 2) := by decide +kernel
theorem dX1_init_17 : decode cX1_init 17 = .ok (.putfield 15, 3) := by decide +kernel
theorem dX1_init_20 : decode cX1_init 20 = .ok (.aload_n 0, 1) := by decide +kernel
theorem dX1_init_21 : decode cX1_init 21 = .ok (.bipush 60, 2) := by decide +kernel
theorem dX1_init_23 : decode cX1_init 23 = .ok (.newarray .int, 2) := by decide +kernel
theorem dX1_init_25 : decode cX1_init 25 = .ok (.putfield 18, 3) := by decide +kernel
theorem dX1_init_28 : decode cX1_init 28 = .ok (.aload_n 0, 1) := by decide +kernel
theorem dX1_init_29 : decode cX1_init 29 = .ok (.bipush 40, 2) := by decide +kernel
theorem dX1_init_31 : decode cX1_init 31 = .ok (.newarray .int, 2) := by decide +kernel
theorem dX1_init_33 : decode cX1_init 33 = .ok (.putfield 21, 3) := by decide +kernel
theorem dX1_init_36 : decode cX1_init 36 = .ok (.return_, 1) := by decide +kernel
theorem dX1_add_0 : decode cX1_add 0 = .ok (.aload_n 0, 1) := by decide +kernel
theorem dX1_add_1 : decode cX1_add 1 = .ok (.getfield 24, 3) := by decide +kernel
theorem dX1_add_4 : decode cX1_add 4 = .ok (.bipush 60, 2) := by decide +kernel
theorem dX1_add_6 : decode cX1_add 6 = .ok (.if_icmp .lt 6, 3) := by decide +kernel
theorem dX1_add_9 : decode cX1_add 9 = .ok (.bipush (-5), 2) := by decide +kernel
theorem dX1_add_11 : decode cX1_add 11 = .ok (.ireturn, 1) := by decide +kernel
theorem dX1_add_12 : decode cX1_add 12 = .ok (.aload_n 0, 1) := by decide +kernel
theorem dX1_add_13 : decode cX1_add 13 = .ok (.getfield 9, 3) := by decide +kernel
theorem dX1_add_16 : decode cX1_add 16 = .ok (.aload_n 0, 1) := by decide +kernel
theorem dX1_add_17 : decode cX1_add 17 = .ok (.getfield 24, 3) := by decide +kernel
theorem dX1_add_20 : decode cX1_add 20 = .ok (.iload_n 1, 1) := by decide +kernel
theorem dX1_add_21 : decode cX1_add 21 = .ok (.iastore, 1) := by decide +kernel
theorem dX1_add_22 : decode cX1_add 22 = .ok (.aload_n 0, 1) := by decide +kernel
theorem dX1_add_23 : decode cX1_add 23 = .ok (.getfield 15, 3) := by decide +kernel
theorem dX1_add_26 : decode cX1_add 26 = .ok (.aload_n 0, 1) := by decide +kernel
theorem dX1_add_27 : decode cX1_add 27 = .ok (.getfield 24, 3) := by decide +kernel
theorem dX1_add_30 : decode cX1_add 30 = .ok (.iload_n 2, 1) := by decide +kernel
theorem dX1_add_31 : decode cX1_add 31 = .ok (.iastore, 1) := by decide +kernel
theorem dX1_add_32 : decode cX1_add 32 = .ok (.aload_n 0, 1) := by decide +kernel
theorem dX1_add_33 : decode cX1_add 33 = .ok (.getfield 18, 3) := by decide +kernel
theorem dX1_add_36 : decode cX1_add 36 = .ok (.aload_n 0, 1) := by decide +kernel
theorem dX1_add_37 : decode cX1_add 37 = .ok (.getfield 24, 3) := by decide +kernel
theorem dX1_add_40 : decode cX1_add 40 = .ok (.iload_n 3, 1) := by decide +kernel
theorem dX1_add_41 : decode cX1_add 41 = .ok (.iastore, 1) := by decide +kernel
theorem dX1_add_42 : decode cX1_add 42 = .ok (.aload_n 0, 1) := by decide +kernel
theorem dX1_add_43 : decode cX1_add 43 = .ok (.dup, 1) := by decide +kernel
theorem dX1_add_44 : decode cX1_add 44 = .ok (.getfield 24, 3) := by decide +kernel
theorem dX1_add_47 : decode cX1_add 47 = .ok (.iconst 1, 1) := by decide +kernel
theorem dX1_add_48 : decode cX1_add 48 = .ok (.iadd, 1) := by decide +kernel
theorem dX1_add_49 : decode cX1_add 49 = .ok (.putfield 24, 3) := by decide +kernel
theorem dX1_add_52 : decode cX1_add 52 = .ok (.aload_n 0, 1) := by decide +kernel
theorem dX1_add_53 : decode cX1_add 53 = .ok (.getfield 24, 3) := by decide +kernel
theorem dX1_add_56 : decode cX1_add 56 = .ok (.ireturn, 1) := by decide +kernel
theorem dX1_settle_0 : decode cX1_settle 0 = .ok (.iconst 0, 1) := by decide +kernel
theorem dX1_settle_1 : decode cX1_settle 1 = .ok (.istore_n 2, 1) := by decide +kernel
theorem dX1_settle_2 : decode cX1_settle 2 = .ok (.iload_n 2, 1) := by decide +kernel
theorem dX1_settle_3 : decode cX1_settle 3 = .ok (.bipush 40, 2) := by decide +kernel
theorem dX1_settle_5 : decode cX1_settle 5 = .ok (.if_icmp .ge 16, 3) := by decide +kernel
theorem dX1_settle_8 : decode cX1_settle 8 = .ok (.aload_n 0, 1) := by decide +kernel
theorem dX1_settle_9 : decode cX1_settle 9 = .ok (.getfield 21, 3) := by decide +kernel
theorem dX1_settle_12 : decode cX1_settle 12 = .ok (.iload_n 2, 1) := by decide +kernel
theorem dX1_settle_13 : decode cX1_settle 13 = .ok (.iconst (-1), 1) := by decide +kernel
theorem dX1_settle_14 : decode cX1_settle 14 = .ok (.iastore, 1) := by decide +kernel
theorem dX1_settle_15 : decode cX1_settle 15 = .ok (.iinc 2 1, 3) := by decide +kernel
theorem dX1_settle_18 : decode cX1_settle 18 = .ok (.goto (-16), 3) := by decide +kernel
theorem dX1_settle_21 : decode cX1_settle 21 = .ok (.iconst 0, 1) := by decide +kernel
theorem dX1_settle_22 : decode cX1_settle 22 = .ok (.istore_n 2, 1) := by decide +kernel
theorem dX1_settle_23 : decode cX1_settle 23 = .ok (.iload_n 2, 1) := by decide +kernel
theorem dX1_settle_24 : decode cX1_settle 24 = .ok (.aload_n 0, 1) := by decide +kernel
theorem dX1_settle_25 : decode cX1_settle 25 = .ok (.getfield 24, 3) := by decide +kernel
theorem dX1_settle_28 : decode cX1_settle 28 = .ok (.if_icmp .ge 36, 3) := by decide +kernel
theorem dX1_settle_31 : decode cX1_settle 31 = .ok (.aload_n 0, 1) := by decide +kernel
theorem dX1_settle_32 : decode cX1_settle 32 = .ok (.getfield 18, 3) := by decide +kernel
theorem dX1_settle_35 : decode cX1_settle 35 = .ok (.iload_n 2, 1) := by decide +kernel
theorem dX1_settle_36 : decode cX1_settle 36 = .ok (.iaload, 1) := by decide +kernel
theorem dX1_settle_37 : decode cX1_settle 37 = .ok (.iload_n 1, 1) := by decide +kernel
theorem dX1_settle_38 : decode cX1_settle 38 = .ok (.if_icmp .gt 20, 3) := by decide +kernel
theorem dX1_settle_41 : decode cX1_settle 41 = .ok (.aload_n 0, 1) := by decide +kernel
theorem dX1_settle_42 : decode cX1_settle 42 = .ok (.getfield 21, 3) := by decide +kernel
theorem dX1_settle_45 : decode cX1_settle 45 = .ok (.aload_n 0, 1) := by decide +kernel
theorem dX1_settle_46 : decode cX1_settle 46 = .ok (.getfield 9, 3) := by decide +kernel
theorem dX1_settle_49 : decode cX1_settle 49 = .ok (.iload_n 2, 1) := by decide +kernel
theorem dX1_settle_50 : decode cX1_settle 50 = .ok (.iaload, 1) := by decide +kernel
theorem dX1_settle_51 : decode cX1_settle 51 = .ok (.aload_n 0, 1) := by decide +kernel
theorem dX1_settle_52 : decode cX1_settle 52 = .ok (.getfield 15, 3) := by decide +kernel
theorem dX1_settle_55 : decode cX1_settle 55 = .ok (.iload_n 2, 1) := by decide +kernel
theorem dX1_settle_56 : decode cX1_settle 56 = .ok (.iaload, 1) := by decide +kernel
theorem dX1_settle_57 : decode cX1_settle 57 = .ok (.iastore, 1) := by decide +kernel
theorem dX1_settle_58 : decode cX1_settle 58 = .ok (.iinc 2 1, 3) := by decide +kernel
theorem dX1_settle_61 : decode cX1_settle 61 = .ok (.goto (-38), 3) := by decide +kernel
theorem dX1_settle_64 : decode cX1_settle 64 = .ok (.return_, 1) := by decide +kernel
theorem dX1_isWithinLife_0 : decode cX1_isWithinLife 0 = .ok (.aload_n 0, 1) := by decide +kernel
theorem dX1_isWithinLife_1 : decode cX1_isWithinLife 1 = .ok (.getfield 21, 3) := by decide +kernel
theorem dX1_isWithinLife_4 : decode cX1_isWithinLife 4 = .ok (.iload_n 1, 1) := by decide +kernel
theorem dX1_isWithinLife_5 : decode cX1_isWithinLife 5 = .ok (.iaload, 1) := by decide +kernel
theorem dX1_isWithinLife_6 : decode cX1_isWithinLife 6 = .ok (.iconst (-1), 1) := by decide +kernel
theorem dX1_isWithinLife_7 : decode cX1_isWithinLife 7 = .ok (.if_icmp .eq 15, 3) := by decide +kernel
theorem dX1_isWithinLife_10 : decode cX1_isWithinLife 10 = .ok (.iload_n 2, 1) := by decide +kernel
theorem dX1_isWithinLife_11 : decode cX1_isWithinLife 11 = .ok (.aload_n 0, 1) := by decide +kernel
theorem dX1_isWithinLife_12 : decode cX1_isWithinLife 12 = .ok (.getfield 21, 3) := by decide +kernel
theorem dX1_isWithinLife_15 : decode cX1_isWithinLife 15 = .ok (.iload_n 1, 1) := by decide +kernel
theorem dX1_isWithinLife_16 : decode cX1_isWithinLife 16 = .ok (.iaload, 1) := by decide +kernel
theorem dX1_isWithinLife_17 : decode cX1_isWithinLife 17 = .ok (.iload_n 3, 1) := by decide +kernel
theorem dX1_isWithinLife_18 : decode cX1_isWithinLife 18 = .ok (.iadd, 1) := by decide +kernel
theorem dX1_isWithinLife_19 : decode cX1_isWithinLife 19 = .ok (.if_icmp .gt 7, 3) := by decide +kernel
theorem dX1_isWithinLife_22 : decode cX1_isWithinLife 22 = .ok (.iconst 1, 1) := by decide +kernel
theorem dX1_isWithinLife_23 : decode cX1_isWithinLife 23 = .ok (.goto 4, 3) := by decide +kernel
theorem dX1_isWithinLife_26 : decode cX1_isWithinLife 26 = .ok (.iconst 0, 1) := by decide +kernel
theorem dX1_isWithinLife_27 : decode cX1_isWithinLife 27 = .ok (.ireturn, 1) := by decide +kernel
theorem dX2_init_0 : decode cX2_init 0 = .ok (.aload_n 0, 1) := by decide +kernel
theorem dX2_init_1 : decode cX2_init 1 = .ok (.invokespecial 3, 3) := by decide +kernel
theorem dX2_init_4 : decode cX2_init 4 = .ok (.aload_n 0, 1) := by decide +kernel
theorem dX2_init_5 : decode cX2_init 5 = .ok (.new 9, 3) := by decide +kernel
theorem dX2_init_8 : decode cX2_init 8 = .ok (.dup, 1) := by decide +kernel
theorem dX2_init_9 : decode cX2_init 9 = .ok (.invokespecial 11, 3) := by decide +kernel
theorem dX2_init_12 : decode cX2_init 12 = .ok (.putfield 12, 3) := by decide +kernel
theorem dX2_init_15 : decode cX2_init 15 = .ok (.aload_n 0, 1) := by decide +kernel
theorem dX2_init_16 : decode cX2_init 16 = .ok (.bipush 12, 2) := by decide +kernel
theorem dX2_init_18 : decode cX2_init 18 = .ok (.newarray .int, 2) := by decide +kernel
theorem dX2_init_20 : decode cX2_init 20 = .ok (.putfield 18, 3) := by decide +kernel
theorem dX2_init_23 : decode cX2_init 23 = .ok (.aload_n 0, 1) := by decide +kernel
theorem dX2_init_24 : decode cX2_init 24 = .ok (.bipush 7, 2) := by decide +kernel
theorem dX2_init_26 : decode cX2_init 26 = .ok (.bipush 12, 2) := by decide +kernel
theorem dX2_init_28 : decode cX2_init 28 = .ok (.multianewarray 22 2, 4) := by decide +kernel
theorem dX2_init_32 : decode cX2_init 32 = .ok (.putfield 24, 3) := by decide +kernel
theorem dX2_init_35 : decode cX2_init 35 = .ok (.aload_n 0, 1) := by decide +kernel
theorem dX2_init_36 : decode cX2_init 36 = .ok (.bipush 80, 2) := by decide +kernel
theorem dX2_init_38 : decode cX2_init 38 = .ok (.newarray .boolean, 2) := by decide +kernel
theorem dX2_init_40 : decode cX2_init 40 = .ok (.putfield 27, 3) := by decide +kernel
theorem dX2_init_43 : decode cX2_init 43 = .ok (.aload_n 0, 1) := by decide +kernel
theorem dX2_init_44 : decode cX2_init 44 = .ok (.bipush 80, 2) := by decide +kernel
theorem dX2_init_46 : decode cX2_init 46 = .ok (.newarray .int, 2) := by decide +kernel
theorem dX2_init_48 : decode cX2_init 48 = .ok (.putfield 31, 3) := by decide +kernel
theorem dX2_init_51 : decode cX2_init 51 = .ok (.aload_n 0, 1) := by decide +kernel
theorem dX2_init_52 : decode cX2_init 52 = .ok (.bipush 8, 2) := by decide +kernel
theorem dX2_init_54 : decode cX2_init 54 = .ok (.newarray .int, 2) := by decide +kernel
theorem dX2_init_56 : decode cX2_init 56 = .ok (.putfield 34, 3) := by decide +kernel
theorem dX2_init_59 : decode cX2_init 59 = .ok (.aload_n 0, 1) := by decide +kernel
theorem dX2_init_60 : decode cX2_init 60 = .ok (.bipush 8, 2) := by decide +kernel
theorem dX2_init_62 : decode cX2_init 62 = .ok (.newarray .int, 2) := by decide +kernel
theorem dX2_init_64 : decode cX2_init 64 = .ok (.putfield 37, 3) := by decide +kernel
theorem dX2_init_67 : decode cX2_init 67 = .ok (.aload_n 0, 1) := by decide +kernel
theorem dX2_init_68 : decode cX2_init 68 = .ok (.aload_n 1, 1) := by decide +kernel
theorem dX2_init_69 : decode cX2_init 69 = .ok (.putfield 40, 3) := by decide +kernel
theorem dX2_init_72 : decode cX2_init 72 = .ok (.aload_n 0, 1) := by decide +kernel
theorem dX2_init_73 : decode cX2_init 73 = .ok (.aload_n 2, 1) := by decide +kernel
theorem dX2_init_74 : decode cX2_init 74 = .ok (.putfield 44, 3) := by decide +kernel
theorem dX2_init_77 : decode cX2_init 77 = .ok (.aload_n 0, 1) := by decide +kernel
theorem dX2_init_78 : decode cX2_init 78 = .ok (.aload_n 3, 1) := by decide +kernel
theorem dX2_init_79 : decode cX2_init 79 = .ok (.putfield 48, 3) := by decide +kernel
theorem dX2_init_82 : decode cX2_init 82 = .ok (.aload_n 0, 1) := by decide +kernel
theorem dX2_init_83 : decode cX2_init 83 = .ok (.aload 4, 2) := by decide +kernel
theorem dX2_init_85 : decode cX2_init 85 = .ok (.putfield 52, 3) := by decide +kernel
theorem dX2_init_88 : decode cX2_init 88 = .ok (.aload_n 0, 1) := by decide +kernel
theorem dX2_init_89 : decode cX2_init 89 = .ok (.aload 5, 2) := by decide +kernel
theorem dX2_init_91 : decode cX2_init 91 = .ok (.putfield 56, 3) := by decide +kernel
theorem dX2_init_94 : decode cX2_init 94 = .ok (.aload_n 0, 1) := by decide +kernel
theorem dX2_init_95 : decode cX2_init 95 = .ok (.aload 6, 2) := by decide +kernel
theorem dX2_init_97 : decode cX2_init 97 = .ok (.putfield 60, 3) := by decide +kernel
theorem dX2_init_100 : decode cX2_init 100 = .ok (.aload_n 0, 1) := by decide +kernel
theorem dX2_init_101 : decode cX2_init 101 = .ok (.aload 7, 2) := by decide +kernel
theorem dX2_init_103 : decode cX2_init 103 = .ok (.putfield 64, 3) := by decide +kernel
theorem dX2_init_106 : decode cX2_init 106 = .ok (.return_, 1) := by decide +kernel
theorem dX2_run_0 : decode cX2_run 0 = .ok (.aload_n 0, 1) := by decide +kernel
theorem dX2_run_1 : decode cX2_run 1 = .ok (.iload_n 1, 1) := by decide +kernel
theorem dX2_run_2 : decode cX2_run 2 = .ok (.iload_n 2, 1) := by decide +kernel
theorem dX2_run_3 : decode cX2_run 3 = .ok (.invokevirtual 67, 3) := by decide +kernel
theorem dX2_run_6 : decode cX2_run 6 = .ok (.aload_n 0, 1) := by decide +kernel
theorem dX2_run_7 : decode cX2_run 7 = .ok (.iconst (-1), 1) := by decide +kernel
theorem dX2_run_8 : decode cX2_run 8 = .ok (.invokevirtual 71, 3) := by decide +kernel
theorem dX2_run_11 : decode cX2_run 11 = .ok (.return_, 1) := by decide +kernel
theorem dX2_prepare_0 : decode cX2_prepare 0 = .ok (.aload_n 0, 1) := by decide +kernel
theorem dX2_prepare_1 : decode cX2_prepare 1 = .ok (.iload_n 1, 1) := by decide +kernel
theorem dX2_prepare_2 : decode cX2_prepare 2 = .ok (.putfield 75, 3) := by decide +kernel
theorem dX2_prepare_5 : decode cX2_prepare 5 = .ok (.aload_n 0, 1) := by decide +kernel
theorem dX2_prepare_6 : decode cX2_prepare 6 = .ok (.getfield 40, 3) := by decide +kernel
theorem dX2_prepare_9 : decode cX2_prepare 9 = .ok (.iload_n 1, 1) := by decide +kernel
theorem dX2_prepare_10 : decode cX2_prepare 10 = .ok (.invokevirtual 79, 3) := by decide +kernel
theorem dX2_prepare_13 : decode cX2_prepare 13 = .ok (.aload_n 0, 1) := by decide +kernel
theorem dX2_prepare_14 : decode cX2_prepare 14 = .ok (.getfield 44, 3) := by decide +kernel
theorem dX2_prepare_17 : decode cX2_prepare 17 = .ok (.iload_n 2, 1) := by decide +kernel
theorem dX2_prepare_18 : decode cX2_prepare 18 = .ok (.invokevirtual 84, 3) := by decide +kernel
theorem dX2_prepare_21 : decode cX2_prepare 21 = .ok (.return_, 1) := by decide +kernel
theorem dX2_flow_0 : decode cX2_flow 0 = .ok (.aload_n 0, 1) := by decide +kernel
theorem dX2_flow_1 : decode cX2_flow 1 = .ok (.getfield 48, 3) := by decide +kernel
theorem dX2_flow_4 : decode cX2_flow 4 = .ok (.aload_n 0, 1) := by decide +kernel
theorem dX2_flow_5 : decode cX2_flow 5 = .ok (.getfield 75, 3) := by decide +kernel
theorem dX2_flow_8 : decode cX2_flow 8 = .ok (.invokevirtual 87, 3) := by decide +kernel
theorem dX2_flow_11 : decode cX2_flow 11 = .ok (.aload_n 0, 1) := by decide +kernel
theorem dX2_flow_12 : decode cX2_flow 12 = .ok (.invokevirtual 90, 3) := by decide +kernel
theorem dX2_flow_15 : decode cX2_flow 15 = .ok (.aload_n 0, 1) := by decide +kernel
theorem dX2_flow_16 : decode cX2_flow 16 = .ok (.iload_n 1, 1) := by decide +kernel
theorem dX2_flow_17 : decode cX2_flow 17 = .ok (.invokevirtual 93, 3) := by decide +kernel
theorem dX2_flow_20 : decode cX2_flow 20 = .ok (.iconst 0, 1) := by decide +kernel
theorem dX2_flow_21 : decode cX2_flow 21 = .ok (.istore_n 2, 1) := by decide +kernel
theorem dX2_flow_22 : decode cX2_flow 22 = .ok (.iload_n 2, 1) := by decide +kernel
theorem dX2_flow_23 : decode cX2_flow 23 = .ok (.aload_n 0, 1) := by decide +kernel
theorem dX2_flow_24 : decode cX2_flow 24 = .ok (.getfield 52, 3) := by decide +kernel
theorem dX2_flow_27 : decode cX2_flow 27 = .ok (.getfield 96, 3) := by decide +kernel
theorem dX2_flow_30 : decode cX2_flow 30 = .ok (.if_icmp .ge 24, 3) := by decide +kernel
theorem dX2_flow_33 : decode cX2_flow 33 = .ok (.aload_n 0, 1) := by decide +kernel
theorem dX2_flow_34 : decode cX2_flow 34 = .ok (.iload_n 2, 1) := by decide +kernel
theorem dX2_flow_35 : decode cX2_flow 35 = .ok (.invokevirtual 101, 3) := by decide +kernel
theorem dX2_flow_38 : decode cX2_flow 38 = .ok (.aload_n 0, 1) := by decide +kernel
theorem dX2_flow_39 : decode cX2_flow 39 = .ok (.iload_n 2, 1) := by decide +kernel
theorem dX2_flow_40 : decode cX2_flow 40 = .ok (.invokevirtual 104, 3) := by decide +kernel
theorem dX2_flow_43 : decode cX2_flow 43 = .ok (.aload_n 0, 1) := by decide +kernel
theorem dX2_flow_44 : decode cX2_flow 44 = .ok (.iload_n 2, 1) := by decide +kernel
theorem dX2_flow_45 : decode cX2_flow 45 = .ok (.invokevirtual 107, 3) := by decide +kernel
theorem dX2_flow_48 : decode cX2_flow 48 = .ok (.iinc 2 1, 3) := by decide +kernel
theorem dX2_flow_51 : decode cX2_flow 51 = .ok (.goto (-29), 3) := by decide +kernel
theorem dX2_flow_54 : decode cX2_flow 54 = .ok (.return_, 1) := by decide +kernel
theorem dX2_chooseServed_0 : decode cX2_chooseServed 0 = .ok (.iconst 0, 1) := by decide +kernel
theorem dX2_chooseServed_1 : decode cX2_chooseServed 1 = .ok (.istore_n 1, 1) := by decide +kernel
theorem dX2_chooseServed_2 : decode cX2_chooseServed 2 = .ok (.iload_n 1, 1) := by decide +kernel
theorem dX2_chooseServed_3 : decode cX2_chooseServed 3 = .ok (.aload_n 0, 1) := by decide +kernel
theorem dX2_chooseServed_4 : decode cX2_chooseServed 4 = .ok (.getfield 56, 3) := by decide +kernel
theorem dX2_chooseServed_7 : decode cX2_chooseServed 7 = .ok (.getfield 110, 3) := by decide +kernel
theorem dX2_chooseServed_10 : decode cX2_chooseServed 10 = .ok (.if_icmp .ge 55, 3) := by decide +kernel
theorem dX2_chooseServed_13 : decode cX2_chooseServed 13 = .ok (.aload_n 0, 1) := by decide +kernel
theorem dX2_chooseServed_14 : decode cX2_chooseServed 14 = .ok (.getfield 27, 3) := by decide +kernel
theorem dX2_chooseServed_17 : decode cX2_chooseServed 17 = .ok (.iload_n 1, 1) := by decide +kernel
theorem dX2_chooseServed_18 : decode cX2_chooseServed 18 = .ok (.aload_n 0, 1) := by decide +kernel
theorem dX2_chooseServed_19 : decode cX2_chooseServed 19 = .ok (.getfield 56, 3) := by decide +kernel
theorem dX2_chooseServed_22 : decode cX2_chooseServed 22 = .ok (.getfield 113, 3) := by decide +kernel
theorem dX2_chooseServed_25 : decode cX2_chooseServed 25 = .ok (.iload_n 1, 1) := by decide +kernel
theorem dX2_chooseServed_26 : decode cX2_chooseServed 26 = .ok (.iaload, 1) := by decide +kernel
theorem dX2_chooseServed_27 : decode cX2_chooseServed 27 = .ok (.iconst 2, 1) := by decide +kernel
theorem dX2_chooseServed_28 : decode cX2_chooseServed 28 = .ok (.if_icmp .ne 11, 3) := by decide +kernel
theorem dX2_chooseServed_31 : decode cX2_chooseServed 31 = .ok (.aload_n 0, 1) := by decide +kernel
theorem dX2_chooseServed_32 : decode cX2_chooseServed 32 = .ok (.iload_n 1, 1) := by decide +kernel
theorem dX2_chooseServed_33 : decode cX2_chooseServed 33 = .ok (.invokevirtual 116, 3) := by decide +kernel
theorem dX2_chooseServed_36 : decode cX2_chooseServed 36 = .ok (.goto 15, 3) := by decide +kernel
theorem dX2_chooseServed_39 : decode cX2_chooseServed 39 = .ok (.aload_n 0, 1) := by decide +kernel
theorem dX2_chooseServed_40 : decode cX2_chooseServed 40 = .ok (.getfield 56, 3) := by decide +kernel
theorem dX2_chooseServed_43 : decode cX2_chooseServed 43 = .ok (.iload_n 1, 1) := by decide +kernel
theorem dX2_chooseServed_44 : decode cX2_chooseServed 44 = .ok (.aload_n 0, 1) := by decide +kernel
theorem dX2_chooseServed_45 : decode cX2_chooseServed 45 = .ok (.getfield 75, 3) := by decide +kernel
theorem dX2_chooseServed_48 : decode cX2_chooseServed 48 = .ok (.invokevirtual 120, 3) := by decide +kernel
theorem dX2_chooseServed_51 : decode cX2_chooseServed 51 = .ok (.bastore, 1) := by decide +kernel
theorem dX2_chooseServed_52 : decode cX2_chooseServed 52 = .ok (.aload_n 0, 1) := by decide +kernel
theorem dX2_chooseServed_53 : decode cX2_chooseServed 53 = .ok (.getfield 31, 3) := by decide +kernel
theorem dX2_chooseServed_56 : decode cX2_chooseServed 56 = .ok (.iload_n 1, 1) := by decide +kernel
theorem dX2_chooseServed_57 : decode cX2_chooseServed 57 = .ok (.iconst 0, 1) := by decide +kernel
theorem dX2_chooseServed_58 : decode cX2_chooseServed 58 = .ok (.iastore, 1) := by decide +kernel
theorem dX2_chooseServed_59 : decode cX2_chooseServed 59 = .ok (.iinc 1 1, 3) := by decide +kernel
theorem dX2_chooseServed_62 : decode cX2_chooseServed 62 = .ok (.goto (-60), 3) := by decide +kernel
theorem dX2_chooseServed_65 : decode cX2_chooseServed 65 = .ok (.return_, 1) := by decide +kernel
theorem dX2_isLiving_0 : decode cX2_isLiving 0 = .ok (.aload_n 0, 1) := by decide +kernel
theorem dX2_isLiving_1 : decode cX2_isLiving 1 = .ok (.getfield 56, 3) := by decide +kernel
theorem dX2_isLiving_4 : decode cX2_isLiving 4 = .ok (.iload_n 1, 1) := by decide +kernel
theorem dX2_isLiving_5 : decode cX2_isLiving 5 = .ok (.aload_n 0, 1) := by decide +kernel
theorem dX2_isLiving_6 : decode cX2_isLiving 6 = .ok (.getfield 75, 3) := by decide +kernel
theorem dX2_isLiving_9 : decode cX2_isLiving 9 = .ok (.invokevirtual 120, 3) := by decide +kernel
theorem dX2_isLiving_12 : decode cX2_isLiving 12 = .ok (.ifCond .eq 58, 3) := by decide +kernel
theorem dX2_isLiving_15 : decode cX2_isLiving 15 = .ok (.aload_n 0, 1) := by decide +kernel
theorem dX2_isLiving_16 : decode cX2_isLiving 16 = .ok (.getfield 40, 3) := by decide +kernel
theorem dX2_isLiving_19 : decode cX2_isLiving 19 = .ok (.aload_n 0, 1) := by decide +kernel
theorem dX2_isLiving_20 : decode cX2_isLiving 20 = .ok (.getfield 56, 3) := by decide +kernel
theorem dX2_isLiving_23 : decode cX2_isLiving 23 = .ok (.getfield 124, 3) := by decide +kernel
theorem dX2_isLiving_26 : decode cX2_isLiving 26 = .ok (.iload_n 1, 1) := by decide +kernel
theorem dX2_isLiving_27 : decode cX2_isLiving 27 = .ok (.iaload, 1) := by decide +kernel
theorem dX2_isLiving_28 : decode cX2_isLiving 28 = .ok (.invokevirtual 127, 3) := by decide +kernel
theorem dX2_isLiving_31 : decode cX2_isLiving 31 = .ok (.ifCond .ne 39, 3) := by decide +kernel
theorem dX2_isLiving_34 : decode cX2_isLiving 34 = .ok (.aload_n 0, 1) := by decide +kernel
theorem dX2_isLiving_35 : decode cX2_isLiving 35 = .ok (.getfield 44, 3) := by decide +kernel
theorem dX2_isLiving_38 : decode cX2_isLiving 38 = .ok (.aload_n 0, 1) := by decide +kernel
theorem dX2_isLiving_39 : decode cX2_isLiving 39 = .ok (.getfield 56, 3) := by decide +kernel
theorem dX2_isLiving_42 : decode cX2_isLiving 42 = .ok (.getfield 130, 3) := by decide +kernel
theorem dX2_isLiving_45 : decode cX2_isLiving 45 = .ok (.iload_n 1, 1) := by decide +kernel
theorem dX2_isLiving_46 : decode cX2_isLiving 46 = .ok (.iaload, 1) := by decide +kernel
theorem dX2_isLiving_47 : decode cX2_isLiving 47 = .ok (.aload_n 0, 1) := by decide +kernel
theorem dX2_isLiving_48 : decode cX2_isLiving 48 = .ok (.getfield 75, 3) := by decide +kernel
theorem dX2_isLiving_51 : decode cX2_isLiving 51 = .ok (.aload_n 0, 1) := by decide +kernel
theorem dX2_isLiving_52 : decode cX2_isLiving 52 = .ok (.getfield 40, 3) := by decide +kernel
theorem dX2_isLiving_55 : decode cX2_isLiving 55 = .ok (.getfield 133, 3) := by decide +kernel
theorem dX2_isLiving_58 : decode cX2_isLiving 58 = .ok (.iconst 1, 1) := by decide +kernel
theorem dX2_isLiving_59 : decode cX2_isLiving 59 = .ok (.iaload, 1) := by decide +kernel
theorem dX2_isLiving_60 : decode cX2_isLiving 60 = .ok (.invokevirtual 136, 3) := by decide +kernel
theorem dX2_isLiving_63 : decode cX2_isLiving 63 = .ok (.ifCond .eq 7, 3) := by decide +kernel
theorem dX2_isLiving_66 : decode cX2_isLiving 66 = .ok (.iconst 1, 1) := by decide +kernel
theorem dX2_isLiving_67 : decode cX2_isLiving 67 = .ok (.goto 4, 3) := by decide +kernel
theorem dX2_isLiving_70 : decode cX2_isLiving 70 = .ok (.iconst 0, 1) := by decide +kernel
theorem dX2_isLiving_71 : decode cX2_isLiving 71 = .ok (.ireturn, 1) := by decide +kernel
theorem dX2_openPipes_0 : decode cX2_openPipes 0 = .ok (.iconst 0, 1) := by decide +kernel
theorem dX2_openPipes_1 : decode cX2_openPipes 1 = .ok (.istore_n 2, 1) := by decide +kernel
theorem dX2_openPipes_2 : decode cX2_openPipes 2 = .ok (.iload_n 2, 1) := by decide +kernel
theorem dX2_openPipes_3 : decode cX2_openPipes 3 = .ok (.aload_n 0, 1) := by decide +kernel
theorem dX2_openPipes_4 : decode cX2_openPipes 4 = .ok (.getfield 52, 3) := by decide +kernel
theorem dX2_openPipes_7 : decode cX2_openPipes 7 = .ok (.getfield 96, 3) := by decide +kernel
theorem dX2_openPipes_10 : decode cX2_openPipes 10 = .ok (.if_icmp .ge 67, 3) := by decide +kernel
theorem dX2_openPipes_13 : decode cX2_openPipes 13 = .ok (.iload_n 2, 1) := by decide +kernel
theorem dX2_openPipes_14 : decode cX2_openPipes 14 = .ok (.iload_n 1, 1) := by decide +kernel
theorem dX2_openPipes_15 : decode cX2_openPipes 15 = .ok (.if_icmp .eq 18, 3) := by decide +kernel
theorem dX2_openPipes_18 : decode cX2_openPipes 18 = .ok (.aload_n 0, 1) := by decide +kernel
theorem dX2_openPipes_19 : decode cX2_openPipes 19 = .ok (.getfield 64, 3) := by decide +kernel
theorem dX2_openPipes_22 : decode cX2_openPipes 22 = .ok (.iload_n 2, 1) := by decide +kernel
theorem dX2_openPipes_23 : decode cX2_openPipes 23 = .ok (.aload_n 0, 1) := by decide +kernel
theorem dX2_openPipes_24 : decode cX2_openPipes 24 = .ok (.getfield 75, 3) := by decide +kernel
theorem dX2_openPipes_27 : decode cX2_openPipes 27 = .ok (.invokevirtual 140, 3) := by decide +kernel
theorem dX2_openPipes_30 : decode cX2_openPipes 30 = .ok (.ifCond .eq 7, 3) := by decide +kernel
theorem dX2_openPipes_33 : decode cX2_openPipes 33 = .ok (.iconst 1, 1) := by decide +kernel
theorem dX2_openPipes_34 : decode cX2_openPipes 34 = .ok (.goto 4, 3) := by decide +kernel
theorem dX2_openPipes_37 : decode cX2_openPipes 37 = .ok (.iconst 0, 1) := by decide +kernel
theorem dX2_openPipes_38 : decode cX2_openPipes 38 = .ok (.istore_n 3, 1) := by decide +kernel
theorem dX2_openPipes_39 : decode cX2_openPipes 39 = .ok (.aload_n 0, 1) := by decide +kernel
theorem dX2_openPipes_40 : decode cX2_openPipes 40 = .ok (.getfield 18, 3) := by decide +kernel
theorem dX2_openPipes_43 : decode cX2_openPipes 43 = .ok (.iload_n 2, 1) := by decide +kernel
theorem dX2_openPipes_44 : decode cX2_openPipes 44 = .ok (.iload_n 3, 1) := by decide +kernel
theorem dX2_openPipes_45 : decode cX2_openPipes 45 = .ok (.ifCond .eq 7, 3) := by decide +kernel
theorem dX2_openPipes_48 : decode cX2_openPipes 48 = .ok (.iconst 0, 1) := by decide +kernel
theorem dX2_openPipes_49 : decode cX2_openPipes 49 = .ok (.goto 12, 3) := by decide +kernel
theorem dX2_openPipes_52 : decode cX2_openPipes 52 = .ok (.aload_n 0, 1) := by decide +kernel
theorem dX2_openPipes_53 : decode cX2_openPipes 53 = .ok (.getfield 52, 3) := by decide +kernel
theorem dX2_openPipes_56 : decode cX2_openPipes 56 = .ok (.getfield 145, 3) := by decide +kernel
theorem dX2_openPipes_59 : decode cX2_openPipes 59 = .ok (.iload_n 2, 1) := by decide +kernel
theorem dX2_openPipes_60 : decode cX2_openPipes 60 = .ok (.iaload, 1) := by decide +kernel
theorem dX2_openPipes_61 : decode cX2_openPipes 61 = .ok (.iastore, 1) := by decide +kernel
theorem dX2_openPipes_62 : decode cX2_openPipes 62 = .ok (.aload_n 0, 1) := by decide +kernel
theorem dX2_openPipes_63 : decode cX2_openPipes 63 = .ok (.getfield 24, 3) := by decide +kernel
theorem dX2_openPipes_66 : decode cX2_openPipes 66 = .ok (.iconst 1, 1) := by decide +kernel
theorem dX2_openPipes_67 : decode cX2_openPipes 67 = .ok (.aaload, 1) := by decide +kernel
theorem dX2_openPipes_68 : decode cX2_openPipes 68 = .ok (.iload_n 2, 1) := by decide +kernel
theorem dX2_openPipes_69 : decode cX2_openPipes 69 = .ok (.iconst 0, 1) := by decide +kernel
theorem dX2_openPipes_70 : decode cX2_openPipes 70 = .ok (.iastore, 1) := by decide +kernel
theorem dX2_openPipes_71 : decode cX2_openPipes 71 = .ok (.iinc 2 1, 3) := by decide +kernel
theorem dX2_openPipes_74 : decode cX2_openPipes 74 = .ok (.goto (-72), 3) := by decide +kernel
theorem dX2_openPipes_77 : decode cX2_openPipes 77 = .ok (.return_, 1) := by decide +kernel
theorem dX2_bringIn_0 : decode cX2_bringIn 0 = .ok (.aload_n 0, 1) := by decide +kernel
theorem dX2_bringIn_1 : decode cX2_bringIn 1 = .ok (.getfield 52, 3) := by decide +kernel
theorem dX2_bringIn_4 : decode cX2_bringIn 4 = .ok (.getfield 148, 3) := by decide +kernel
theorem dX2_bringIn_7 : decode cX2_bringIn 7 = .ok (.iload_n 1, 1) := by decide +kernel
theorem dX2_bringIn_8 : decode cX2_bringIn 8 = .ok (.iaload, 1) := by decide +kernel
theorem dX2_bringIn_9 : decode cX2_bringIn 9 = .ok (.bipush 100, 2) := by decide +kernel
theorem dX2_bringIn_11 : decode cX2_bringIn 11 = .ok (.if_icmp .ge 33, 3) := by decide +kernel
theorem dX2_bringIn_14 : decode cX2_bringIn 14 = .ok (.aload_n 0, 1) := by decide +kernel
theorem dX2_bringIn_15 : decode cX2_bringIn 15 = .ok (.getfield 24, 3) := by decide +kernel
theorem dX2_bringIn_18 : decode cX2_bringIn 18 = .ok (.iconst 1, 1) := by decide +kernel
theorem dX2_bringIn_19 : decode cX2_bringIn 19 = .ok (.aaload, 1) := by decide +kernel
theorem dX2_bringIn_20 : decode cX2_bringIn 20 = .ok (.iload_n 1, 1) := by decide +kernel
theorem dX2_bringIn_21 : decode cX2_bringIn 21 = .ok (.aload_n 0, 1) := by decide +kernel
theorem dX2_bringIn_22 : decode cX2_bringIn 22 = .ok (.getfield 48, 3) := by decide +kernel
theorem dX2_bringIn_25 : decode cX2_bringIn 25 = .ok (.aload_n 0, 1) := by decide +kernel
theorem dX2_bringIn_26 : decode cX2_bringIn 26 = .ok (.getfield 52, 3) := by decide +kernel
theorem dX2_bringIn_29 : decode cX2_bringIn 29 = .ok (.getfield 148, 3) := by decide +kernel
theorem dX2_bringIn_32 : decode cX2_bringIn 32 = .ok (.iload_n 1, 1) := by decide +kernel
theorem dX2_bringIn_33 : decode cX2_bringIn 33 = .ok (.iaload, 1) := by decide +kernel
theorem dX2_bringIn_34 : decode cX2_bringIn 34 = .ok (.aload_n 0, 1) := by decide +kernel
theorem dX2_bringIn_35 : decode cX2_bringIn 35 = .ok (.getfield 18, 3) := by decide +kernel
theorem dX2_bringIn_38 : decode cX2_bringIn 38 = .ok (.iload_n 1, 1) := by decide +kernel
theorem dX2_bringIn_39 : decode cX2_bringIn 39 = .ok (.iaload, 1) := by decide +kernel
theorem dX2_bringIn_40 : decode cX2_bringIn 40 = .ok (.invokevirtual 151, 3) := by decide +kernel
theorem dX2_bringIn_43 : decode cX2_bringIn 43 = .ok (.iastore, 1) := by decide +kernel
theorem dX2_bringIn_44 : decode cX2_bringIn 44 = .ok (.aload_n 0, 1) := by decide +kernel
theorem dX2_bringIn_45 : decode cX2_bringIn 45 = .ok (.getfield 24, 3) := by decide +kernel
theorem dX2_bringIn_48 : decode cX2_bringIn 48 = .ok (.iconst 1, 1) := by decide +kernel
theorem dX2_bringIn_49 : decode cX2_bringIn 49 = .ok (.aaload, 1) := by decide +kernel
theorem dX2_bringIn_50 : decode cX2_bringIn 50 = .ok (.iload_n 1, 1) := by decide +kernel
theorem dX2_bringIn_51 : decode cX2_bringIn 51 = .ok (.iaload, 1) := by decide +kernel
theorem dX2_bringIn_52 : decode cX2_bringIn 52 = .ok (.istore_n 2, 1) := by decide +kernel
theorem dX2_bringIn_53 : decode cX2_bringIn 53 = .ok (.aload_n 0, 1) := by decide +kernel
theorem dX2_bringIn_54 : decode cX2_bringIn 54 = .ok (.getfield 60, 3) := by decide +kernel
theorem dX2_bringIn_57 : decode cX2_bringIn 57 = .ok (.iload_n 1, 1) := by decide +kernel
theorem dX2_bringIn_58 : decode cX2_bringIn 58 = .ok (.aload_n 0, 1) := by decide +kernel
theorem dX2_bringIn_59 : decode cX2_bringIn 59 = .ok (.getfield 75, 3) := by decide +kernel
theorem dX2_bringIn_62 : decode cX2_bringIn 62 = .ok (.iload_n 2, 1) := by decide +kernel
theorem dX2_bringIn_63 : decode cX2_bringIn 63 = .ok (.invokevirtual 155, 3) := by decide +kernel
theorem dX2_bringIn_66 : decode cX2_bringIn 66 = .ok (.istore_n 3, 1) := by decide +kernel
theorem dX2_bringIn_67 : decode cX2_bringIn 67 = .ok (.aload_n 0, 1) := by decide +kernel
theorem dX2_bringIn_68 : decode cX2_bringIn 68 = .ok (.iload_n 1, 1) := by decide +kernel
theorem dX2_bringIn_69 : decode cX2_bringIn 69 = .ok (.iload_n 2, 1) := by decide +kernel
theorem dX2_bringIn_70 : decode cX2_bringIn 70 = .ok (.iload_n 3, 1) := by decide +kernel
theorem dX2_bringIn_71 : decode cX2_bringIn 71 = .ok (.isub, 1) := by decide +kernel
theorem dX2_bringIn_72 : decode cX2_bringIn 72 = .ok (.invokevirtual 159, 3) := by decide +kernel
theorem dX2_bringIn_75 : decode cX2_bringIn 75 = .ok (.istore 4, 2) := by decide +kernel
theorem dX2_bringIn_77 : decode cX2_bringIn 77 = .ok (.aload_n 0, 1) := by decide +kernel
theorem dX2_bringIn_78 : decode cX2_bringIn 78 = .ok (.getfield 24, 3) := by decide +kernel
theorem dX2_bringIn_81 : decode cX2_bringIn 81 = .ok (.iconst 2, 1) := by decide +kernel
theorem dX2_bringIn_82 : decode cX2_bringIn 82 = .ok (.aaload, 1) := by decide +kernel
theorem dX2_bringIn_83 : decode cX2_bringIn 83 = .ok (.iload_n 1, 1) := by decide +kernel
theorem dX2_bringIn_84 : decode cX2_bringIn 84 = .ok (.iload_n 3, 1) := by decide +kernel
theorem dX2_bringIn_85 : decode cX2_bringIn 85 = .ok (.iastore, 1) := by decide +kernel
theorem dX2_bringIn_86 : decode cX2_bringIn 86 = .ok (.aload_n 0, 1) := by decide +kernel
theorem dX2_bringIn_87 : decode cX2_bringIn 87 = .ok (.getfield 24, 3) := by decide +kernel
theorem dX2_bringIn_90 : decode cX2_bringIn 90 = .ok (.iconst 3, 1) := by decide +kernel
theorem dX2_bringIn_91 : decode cX2_bringIn 91 = .ok (.aaload, 1) := by decide +kernel
theorem dX2_bringIn_92 : decode cX2_bringIn 92 = .ok (.iload_n 1, 1) := by decide +kernel
theorem dX2_bringIn_93 : decode cX2_bringIn 93 = .ok (.iload 4, 2) := by decide +kernel
theorem dX2_bringIn_95 : decode cX2_bringIn 95 = .ok (.iastore, 1) := by decide +kernel
theorem dX2_bringIn_96 : decode cX2_bringIn 96 = .ok (.aload_n 0, 1) := by decide +kernel
theorem dX2_bringIn_97 : decode cX2_bringIn 97 = .ok (.getfield 24, 3) := by decide +kernel
theorem dX2_bringIn_100 : decode cX2_bringIn 100 = .ok (.iconst 0, 1) := by decide +kernel
theorem dX2_bringIn_101 : decode cX2_bringIn 101 = .ok (.aaload, 1) := by decide +kernel
theorem dX2_bringIn_102 : decode cX2_bringIn 102 = .ok (.iload_n 1, 1) := by decide +kernel
theorem dX2_bringIn_103 : decode cX2_bringIn 103 = .ok (.iload_n 2, 1) := by decide +kernel
theorem dX2_bringIn_104 : decode cX2_bringIn 104 = .ok (.iload_n 3, 1) := by decide +kernel
theorem dX2_bringIn_105 : decode cX2_bringIn 105 = .ok (.isub, 1) := by decide +kernel
theorem dX2_bringIn_106 : decode cX2_bringIn 106 = .ok (.iload 4, 2) := by decide +kernel
theorem dX2_bringIn_108 : decode cX2_bringIn 108 = .ok (.isub, 1) := by decide +kernel
theorem dX2_bringIn_109 : decode cX2_bringIn 109 = .ok (.iastore, 1) := by decide +kernel
theorem dX2_bringIn_110 : decode cX2_bringIn 110 = .ok (.return_, 1) := by decide +kernel
theorem dX2_lossOf_0 : decode cX2_lossOf 0 = .ok (.iload_n 2, 1) := by decide +kernel
theorem dX2_lossOf_1 : decode cX2_lossOf 1 = .ok (.aload_n 0, 1) := by decide +kernel
theorem dX2_lossOf_2 : decode cX2_lossOf 2 = .ok (.getfield 52, 3) := by decide +kernel
theorem dX2_lossOf_5 : decode cX2_lossOf 5 = .ok (.getfield 162, 3) := by decide +kernel
theorem dX2_lossOf_8 : decode cX2_lossOf 8 = .ok (.iload_n 1, 1) := by decide +kernel
theorem dX2_lossOf_9 : decode cX2_lossOf 9 = .ok (.iaload, 1) := by decide +kernel
theorem dX2_lossOf_10 : decode cX2_lossOf 10 = .ok (.imul, 1) := by decide +kernel
theorem dX2_lossOf_11 : decode cX2_lossOf 11 = .ok (.sipush 1000, 3) := by decide +kernel
theorem dX2_lossOf_14 : decode cX2_lossOf 14 = .ok (.idiv, 1) := by decide +kernel
theorem dX2_lossOf_15 : decode cX2_lossOf 15 = .ok (.ireturn, 1) := by decide +kernel
theorem dX2_partToNozzles_0 : decode cX2_partToNozzles 0 = .ok (.aload_n 0, 1) := by decide +kernel
theorem dX2_partToNozzles_1 : decode cX2_partToNozzles 1 = .ok (.getfield 40, 3) := by decide +kernel
theorem dX2_partToNozzles_4 : decode cX2_partToNozzles 4 = .ok (.getfield 133, 3) := by decide +kernel
theorem dX2_partToNozzles_7 : decode cX2_partToNozzles 7 = .ok (.iconst 0, 1) := by decide +kernel
theorem dX2_partToNozzles_8 : decode cX2_partToNozzles 8 = .ok (.iaload, 1) := by decide +kernel
theorem dX2_partToNozzles_9 : decode cX2_partToNozzles 9 = .ok (.istore_n 2, 1) := by decide +kernel
theorem dX2_partToNozzles_10 : decode cX2_partToNozzles 10 = .ok (.aload_n 0, 1) := by decide +kernel
theorem dX2_partToNozzles_11 : decode cX2_partToNozzles 11 = .ok (.getfield 24, 3) := by decide +kernel
theorem dX2_partToNozzles_14 : decode cX2_partToNozzles 14 = .ok (.iconst 0, 1) := by decide +kernel
theorem dX2_partToNozzles_15 : decode cX2_partToNozzles 15 = .ok (.aaload, 1) := by decide +kernel
theorem dX2_partToNozzles_16 : decode cX2_partToNozzles 16 = .ok (.iload_n 1, 1) := by decide +kernel
theorem dX2_partToNozzles_17 : decode cX2_partToNozzles 17 = .ok (.iaload, 1) := by decide +kernel
theorem dX2_partToNozzles_18 : decode cX2_partToNozzles 18 = .ok (.istore_n 3, 1) := by decide +kernel
theorem dX2_partToNozzles_19 : decode cX2_partToNozzles 19 = .ok (.iload_n 3, 1) := by decide +kernel
theorem dX2_partToNozzles_20 : decode cX2_partToNozzles 20 = .ok (.aload_n 0, 1) := by decide +kernel
theorem dX2_partToNozzles_21 : decode cX2_partToNozzles 21 = .ok (.iload_n 1, 1) := by decide +kernel
theorem dX2_partToNozzles_22 : decode cX2_partToNozzles 22 = .ok (.iload_n 2, 1) := by decide +kernel
theorem dX2_partToNozzles_23 : decode cX2_partToNozzles 23 = .ok (.iload_n 3, 1) := by decide +kernel
theorem dX2_partToNozzles_24 : decode cX2_partToNozzles 24 = .ok (.invokevirtual 165, 3) := by decide +kernel
theorem dX2_partToNozzles_27 : decode cX2_partToNozzles 27 = .ok (.isub, 1) := by decide +kernel
theorem dX2_partToNozzles_28 : decode cX2_partToNozzles 28 = .ok (.istore_n 3, 1) := by decide +kernel
theorem dX2_partToNozzles_29 : decode cX2_partToNozzles 29 = .ok (.iconst 0, 1) := by decide +kernel
theorem dX2_partToNozzles_30 : decode cX2_partToNozzles 30 = .ok (.istore 4, 2) := by decide +kernel
theorem dX2_partToNozzles_32 : decode cX2_partToNozzles 32 = .ok (.iload 4, 2) := by decide +kernel
theorem dX2_partToNozzles_34 : decode cX2_partToNozzles 34 = .ok (.iconst 3, 1) := by decide +kernel
theorem dX2_partToNozzles_35 : decode cX2_partToNozzles 35 = .ok (.if_icmp .ge 26, 3) := by decide +kernel
theorem dX2_partToNozzles_38 : decode cX2_partToNozzles 38 = .ok (.iload 4, 2) := by decide +kernel
theorem dX2_partToNozzles_40 : decode cX2_partToNozzles 40 = .ok (.iload_n 2, 1) := by decide +kernel
theorem dX2_partToNozzles_41 : decode cX2_partToNozzles 41 = .ok (.if_icmp .eq 14, 3) := by decide +kernel
theorem dX2_partToNozzles_44 : decode cX2_partToNozzles 44 = .ok (.iload_n 3, 1) := by decide +kernel
theorem dX2_partToNozzles_45 : decode cX2_partToNozzles 45 = .ok (.aload_n 0, 1) := by decide +kernel
theorem dX2_partToNozzles_46 : decode cX2_partToNozzles 46 = .ok (.iload_n 1, 1) := by decide +kernel
theorem dX2_partToNozzles_47 : decode cX2_partToNozzles 47 = .ok (.iload 4, 2) := by decide +kernel
theorem dX2_partToNozzles_49 : decode cX2_partToNozzles 49 = .ok (.iload_n 3, 1) := by decide +kernel
theorem dX2_partToNozzles_50 : decode cX2_partToNozzles 50 = .ok (.invokevirtual 165, 3) := by decide +kernel
theorem dX2_partToNozzles_53 : decode cX2_partToNozzles 53 = .ok (.isub, 1) := by decide +kernel
theorem dX2_partToNozzles_54 : decode cX2_partToNozzles 54 = .ok (.istore_n 3, 1) := by decide +kernel
theorem dX2_partToNozzles_55 : decode cX2_partToNozzles 55 = .ok (.iinc 4 1, 3) := by decide +kernel
theorem dX2_partToNozzles_58 : decode cX2_partToNozzles 58 = .ok (.goto (-26), 3) := by decide +kernel
theorem dX2_partToNozzles_61 : decode cX2_partToNozzles 61 = .ok (.aload_n 0, 1) := by decide +kernel
theorem dX2_partToNozzles_62 : decode cX2_partToNozzles 62 = .ok (.getfield 24, 3) := by decide +kernel
theorem dX2_partToNozzles_65 : decode cX2_partToNozzles 65 = .ok (.iconst 4, 1) := by decide +kernel
theorem dX2_partToNozzles_66 : decode cX2_partToNozzles 66 = .ok (.aaload, 1) := by decide +kernel
theorem dX2_partToNozzles_67 : decode cX2_partToNozzles 67 = .ok (.iload_n 1, 1) := by decide +kernel
theorem dX2_partToNozzles_68 : decode cX2_partToNozzles 68 = .ok (.aload_n 0, 1) := by decide +kernel
theorem dX2_partToNozzles_69 : decode cX2_partToNozzles 69 = .ok (.getfield 24, 3) := by decide +kernel
theorem dX2_partToNozzles_72 : decode cX2_partToNozzles 72 = .ok (.iconst 0, 1) := by decide +kernel
theorem dX2_partToNozzles_73 : decode cX2_partToNozzles 73 = .ok (.aaload, 1) := by decide +kernel
theorem dX2_partToNozzles_74 : decode cX2_partToNozzles 74 = .ok (.iload_n 1, 1) := by decide +kernel
theorem dX2_partToNozzles_75 : decode cX2_partToNozzles 75 = .ok (.iaload, 1) := by decide +kernel
theorem dX2_partToNozzles_76 : decode cX2_partToNozzles 76 = .ok (.iload_n 3, 1) := by decide +kernel
theorem dX2_partToNozzles_77 : decode cX2_partToNozzles 77 = .ok (.isub, 1) := by decide +kernel
theorem dX2_partToNozzles_78 : decode cX2_partToNozzles 78 = .ok (.iastore, 1) := by decide +kernel
theorem dX2_partToNozzles_79 : decode cX2_partToNozzles 79 = .ok (.return_, 1) := by decide +kernel
theorem dX2_partToRank_0 : decode cX2_partToRank 0 = .ok (.aload_n 0, 1) := by decide +kernel
theorem dX2_partToRank_1 : decode cX2_partToRank 1 = .ok (.getfield 40, 3) := by decide +kernel
theorem dX2_partToRank_4 : decode cX2_partToRank 4 = .ok (.iload_n 2, 1) := by decide +kernel
theorem dX2_partToRank_5 : decode cX2_partToRank 5 = .ok (.invokevirtual 168, 3) := by decide +kernel
theorem dX2_partToRank_8 : decode cX2_partToRank 8 = .ok (.ifCond .eq 5, 3) := by decide +kernel
theorem dX2_partToRank_11 : decode cX2_partToRank 11 = .ok (.iconst 0, 1) := by decide +kernel
theorem dX2_partToRank_12 : decode cX2_partToRank 12 = .ok (.ireturn, 1) := by decide +kernel
theorem dX2_partToRank_13 : decode cX2_partToRank 13 = .ok (.aload_n 0, 1) := by decide +kernel
theorem dX2_partToRank_14 : decode cX2_partToRank 14 = .ok (.getfield 12, 3) := by decide +kernel
theorem dX2_partToRank_17 : decode cX2_partToRank 17 = .ok (.invokevirtual 171, 3) := by decide +kernel
theorem dX2_partToRank_20 : decode cX2_partToRank 20 = .ok (.iconst 0, 1) := by decide +kernel
theorem dX2_partToRank_21 : decode cX2_partToRank 21 = .ok (.istore 4, 2) := by decide +kernel
theorem dX2_partToRank_23 : decode cX2_partToRank 23 = .ok (.iload 4, 2) := by decide +kernel
theorem dX2_partToRank_25 : decode cX2_partToRank 25 = .ok (.aload_n 0, 1) := by decide +kernel
theorem dX2_partToRank_26 : decode cX2_partToRank 26 = .ok (.getfield 56, 3) := by decide +kernel
theorem dX2_partToRank_29 : decode cX2_partToRank 29 = .ok (.getfield 174, 3) := by decide +kernel
theorem dX2_partToRank_32 : decode cX2_partToRank 32 = .ok (.getfield 178, 3) := by decide +kernel
theorem dX2_partToRank_35 : decode cX2_partToRank 35 = .ok (.iload_n 1, 1) := by decide +kernel
theorem dX2_partToRank_36 : decode cX2_partToRank 36 = .ok (.iaload, 1) := by decide +kernel
theorem dX2_partToRank_37 : decode cX2_partToRank 37 = .ok (.if_icmp .ge 67, 3) := by decide +kernel
theorem dX2_partToRank_40 : decode cX2_partToRank 40 = .ok (.aload_n 0, 1) := by decide +kernel
theorem dX2_partToRank_41 : decode cX2_partToRank 41 = .ok (.getfield 56, 3) := by decide +kernel
theorem dX2_partToRank_44 : decode cX2_partToRank 44 = .ok (.getfield 174, 3) := by decide +kernel
theorem dX2_partToRank_47 : decode cX2_partToRank 47 = .ok (.iload_n 1, 1) := by decide +kernel
theorem dX2_partToRank_48 : decode cX2_partToRank 48 = .ok (.iload 4, 2) := by decide +kernel
theorem dX2_partToRank_50 : decode cX2_partToRank 50 = .ok (.invokevirtual 183, 3) := by decide +kernel
theorem dX2_partToRank_53 : decode cX2_partToRank 53 = .ok (.istore 5, 2) := by decide +kernel
theorem dX2_partToRank_55 : decode cX2_partToRank 55 = .ok (.aload_n 0, 1) := by decide +kernel
theorem dX2_partToRank_56 : decode cX2_partToRank 56 = .ok (.getfield 56, 3) := by decide +kernel
theorem dX2_partToRank_59 : decode cX2_partToRank 59 = .ok (.getfield 113, 3) := by decide +kernel
theorem dX2_partToRank_62 : decode cX2_partToRank 62 = .ok (.iload 5, 2) := by decide +kernel
theorem dX2_partToRank_64 : decode cX2_partToRank 64 = .ok (.iaload, 1) := by decide +kernel
theorem dX2_partToRank_65 : decode cX2_partToRank 65 = .ok (.iload_n 2, 1) := by decide +kernel
theorem dX2_partToRank_66 : decode cX2_partToRank 66 = .ok (.if_icmp .ne 32, 3) := by decide +kernel
theorem dX2_partToRank_69 : decode cX2_partToRank 69 = .ok (.aload_n 0, 1) := by decide +kernel
theorem dX2_partToRank_70 : decode cX2_partToRank 70 = .ok (.getfield 27, 3) := by decide +kernel
theorem dX2_partToRank_73 : decode cX2_partToRank 73 = .ok (.iload 5, 2) := by decide +kernel
theorem dX2_partToRank_75 : decode cX2_partToRank 75 = .ok (.baload, 1) := by decide +kernel
theorem dX2_partToRank_76 : decode cX2_partToRank 76 = .ok (.ifCond .eq 22, 3) := by decide +kernel
theorem dX2_partToRank_79 : decode cX2_partToRank 79 = .ok (.aload_n 0, 1) := by decide +kernel
theorem dX2_partToRank_80 : decode cX2_partToRank 80 = .ok (.getfield 12, 3) := by decide +kernel
theorem dX2_partToRank_83 : decode cX2_partToRank 83 = .ok (.iload 5, 2) := by decide +kernel
theorem dX2_partToRank_85 : decode cX2_partToRank 85 = .ok (.aload_n 0, 1) := by decide +kernel
theorem dX2_partToRank_86 : decode cX2_partToRank 86 = .ok (.getfield 56, 3) := by decide +kernel
theorem dX2_partToRank_89 : decode cX2_partToRank 89 = .ok (.getfield 124, 3) := by decide +kernel
theorem dX2_partToRank_92 : decode cX2_partToRank 92 = .ok (.iload 5, 2) := by decide +kernel
theorem dX2_partToRank_94 : decode cX2_partToRank 94 = .ok (.iaload, 1) := by decide +kernel
theorem dX2_partToRank_95 : decode cX2_partToRank 95 = .ok (.invokevirtual 186, 3) := by decide +kernel
theorem dX2_partToRank_98 : decode cX2_partToRank 98 = .ok (.iinc 4 1, 3) := by decide +kernel
theorem dX2_partToRank_101 : decode cX2_partToRank 101 = .ok (.goto (-78), 3) := by decide +kernel
theorem dX2_partToRank_104 : decode cX2_partToRank 104 = .ok (.aload_n 0, 1) := by decide +kernel
theorem dX2_partToRank_105 : decode cX2_partToRank 105 = .ok (.getfield 12, 3) := by decide +kernel
theorem dX2_partToRank_108 : decode cX2_partToRank 108 = .ok (.iload_n 3, 1) := by decide +kernel
theorem dX2_partToRank_109 : decode cX2_partToRank 109 = .ok (.invokevirtual 189, 3) := by decide +kernel
theorem dX2_partToRank_112 : decode cX2_partToRank 112 = .ok (.istore 4, 2) := by decide +kernel
theorem dX2_partToRank_114 : decode cX2_partToRank 114 = .ok (.iconst 0, 1) := by decide +kernel
theorem dX2_partToRank_115 : decode cX2_partToRank 115 = .ok (.istore 5, 2) := by decide +kernel
theorem dX2_partToRank_117 : decode cX2_partToRank 117 = .ok (.iload 5, 2) := by decide +kernel
theorem dX2_partToRank_119 : decode cX2_partToRank 119 = .ok (.aload_n 0, 1) := by decide +kernel
theorem dX2_partToRank_120 : decode cX2_partToRank 120 = .ok (.getfield 12, 3) := by decide +kernel
theorem dX2_partToRank_123 : decode cX2_partToRank 123 = .ok (.getfield 193, 3) := by decide +kernel
theorem dX2_partToRank_126 : decode cX2_partToRank 126 = .ok (.if_icmp .ge 34, 3) := by decide +kernel
theorem dX2_partToRank_129 : decode cX2_partToRank 129 = .ok (.aload_n 0, 1) := by decide +kernel
theorem dX2_partToRank_130 : decode cX2_partToRank 130 = .ok (.getfield 31, 3) := by decide +kernel
theorem dX2_partToRank_133 : decode cX2_partToRank 133 = .ok (.aload_n 0, 1) := by decide +kernel
theorem dX2_partToRank_134 : decode cX2_partToRank 134 = .ok (.getfield 12, 3) := by decide +kernel
theorem dX2_partToRank_137 : decode cX2_partToRank 137 = .ok (.getfield 194, 3) := by decide +kernel
theorem dX2_partToRank_140 : decode cX2_partToRank 140 = .ok (.iload 5, 2) := by decide +kernel
theorem dX2_partToRank_142 : decode cX2_partToRank 142 = .ok (.iaload, 1) := by decide +kernel
theorem dX2_partToRank_143 : decode cX2_partToRank 143 = .ok (.aload_n 0, 1) := by decide +kernel
theorem dX2_partToRank_144 : decode cX2_partToRank 144 = .ok (.getfield 12, 3) := by decide +kernel
theorem dX2_partToRank_147 : decode cX2_partToRank 147 = .ok (.getfield 197, 3) := by decide +kernel
theorem dX2_partToRank_150 : decode cX2_partToRank 150 = .ok (.iload 5, 2) := by decide +kernel
theorem dX2_partToRank_152 : decode cX2_partToRank 152 = .ok (.iaload, 1) := by decide +kernel
theorem dX2_partToRank_153 : decode cX2_partToRank 153 = .ok (.iastore, 1) := by decide +kernel
theorem dX2_partToRank_154 : decode cX2_partToRank 154 = .ok (.iinc 5 1, 3) := by decide +kernel
theorem dX2_partToRank_157 : decode cX2_partToRank 157 = .ok (.goto (-40), 3) := by decide +kernel
theorem dX2_partToRank_160 : decode cX2_partToRank 160 = .ok (.iload 4, 2) := by decide +kernel
theorem dX2_partToRank_162 : decode cX2_partToRank 162 = .ok (.ireturn, 1) := by decide +kernel
theorem dX2_leadOn_0 : decode cX2_leadOn 0 = .ok (.aload_n 0, 1) := by decide +kernel
theorem dX2_leadOn_1 : decode cX2_leadOn 1 = .ok (.getfield 12, 3) := by decide +kernel
theorem dX2_leadOn_4 : decode cX2_leadOn 4 = .ok (.invokevirtual 171, 3) := by decide +kernel
theorem dX2_leadOn_7 : decode cX2_leadOn 7 = .ok (.iconst 0, 1) := by decide +kernel
theorem dX2_leadOn_8 : decode cX2_leadOn 8 = .ok (.istore_n 2, 1) := by decide +kernel
theorem dX2_leadOn_9 : decode cX2_leadOn 9 = .ok (.iload_n 2, 1) := by decide +kernel
theorem dX2_leadOn_10 : decode cX2_leadOn 10 = .ok (.aload_n 0, 1) := by decide +kernel
theorem dX2_leadOn_11 : decode cX2_leadOn 11 = .ok (.getfield 52, 3) := by decide +kernel
theorem dX2_leadOn_14 : decode cX2_leadOn 14 = .ok (.getfield 200, 3) := by decide +kernel
theorem dX2_leadOn_17 : decode cX2_leadOn 17 = .ok (.getfield 178, 3) := by decide +kernel
theorem dX2_leadOn_20 : decode cX2_leadOn 20 = .ok (.iload_n 1, 1) := by decide +kernel
theorem dX2_leadOn_21 : decode cX2_leadOn 21 = .ok (.iaload, 1) := by decide +kernel
theorem dX2_leadOn_22 : decode cX2_leadOn 22 = .ok (.if_icmp .ge 36, 3) := by decide +kernel
theorem dX2_leadOn_25 : decode cX2_leadOn 25 = .ok (.aload_n 0, 1) := by decide +kernel
theorem dX2_leadOn_26 : decode cX2_leadOn 26 = .ok (.getfield 52, 3) := by decide +kernel
theorem dX2_leadOn_29 : decode cX2_leadOn 29 = .ok (.getfield 200, 3) := by decide +kernel
theorem dX2_leadOn_32 : decode cX2_leadOn 32 = .ok (.iload_n 1, 1) := by decide +kernel
theorem dX2_leadOn_33 : decode cX2_leadOn 33 = .ok (.iload_n 2, 1) := by decide +kernel
theorem dX2_leadOn_34 : decode cX2_leadOn 34 = .ok (.invokevirtual 183, 3) := by decide +kernel
theorem dX2_leadOn_37 : decode cX2_leadOn 37 = .ok (.istore_n 3, 1) := by decide +kernel
theorem dX2_leadOn_38 : decode cX2_leadOn 38 = .ok (.aload_n 0, 1) := by decide +kernel
theorem dX2_leadOn_39 : decode cX2_leadOn 39 = .ok (.getfield 12, 3) := by decide +kernel
theorem dX2_leadOn_42 : decode cX2_leadOn 42 = .ok (.iload_n 3, 1) := by decide +kernel
theorem dX2_leadOn_43 : decode cX2_leadOn 43 = .ok (.aload_n 0, 1) := by decide +kernel
theorem dX2_leadOn_44 : decode cX2_leadOn 44 = .ok (.getfield 18, 3) := by decide +kernel
theorem dX2_leadOn_47 : decode cX2_leadOn 47 = .ok (.iload_n 3, 1) := by decide +kernel
theorem dX2_leadOn_48 : decode cX2_leadOn 48 = .ok (.iaload, 1) := by decide +kernel
theorem dX2_leadOn_49 : decode cX2_leadOn 49 = .ok (.invokevirtual 186, 3) := by decide +kernel
theorem dX2_leadOn_52 : decode cX2_leadOn 52 = .ok (.iinc 2 1, 3) := by decide +kernel
theorem dX2_leadOn_55 : decode cX2_leadOn 55 = .ok (.goto (-46), 3) := by decide +kernel
theorem dX2_leadOn_58 : decode cX2_leadOn 58 = .ok (.aload_n 0, 1) := by decide +kernel
theorem dX2_leadOn_59 : decode cX2_leadOn 59 = .ok (.getfield 24, 3) := by decide +kernel
theorem dX2_leadOn_62 : decode cX2_leadOn 62 = .ok (.iconst 0, 1) := by decide +kernel
theorem dX2_leadOn_63 : decode cX2_leadOn 63 = .ok (.aaload, 1) := by decide +kernel
theorem dX2_leadOn_64 : decode cX2_leadOn 64 = .ok (.iload_n 1, 1) := by decide +kernel
theorem dX2_leadOn_65 : decode cX2_leadOn 65 = .ok (.iaload, 1) := by decide +kernel
theorem dX2_leadOn_66 : decode cX2_leadOn 66 = .ok (.aload_n 0, 1) := by decide +kernel
theorem dX2_leadOn_67 : decode cX2_leadOn 67 = .ok (.getfield 24, 3) := by decide +kernel
theorem dX2_leadOn_70 : decode cX2_leadOn 70 = .ok (.iconst 4, 1) := by decide +kernel
theorem dX2_leadOn_71 : decode cX2_leadOn 71 = .ok (.aaload, 1) := by decide +kernel
theorem dX2_leadOn_72 : decode cX2_leadOn 72 = .ok (.iload_n 1, 1) := by decide +kernel
theorem dX2_leadOn_73 : decode cX2_leadOn 73 = .ok (.iaload, 1) := by decide +kernel
theorem dX2_leadOn_74 : decode cX2_leadOn 74 = .ok (.isub, 1) := by decide +kernel
theorem dX2_leadOn_75 : decode cX2_leadOn 75 = .ok (.istore_n 2, 1) := by decide +kernel
theorem dX2_leadOn_76 : decode cX2_leadOn 76 = .ok (.aload_n 0, 1) := by decide +kernel
theorem dX2_leadOn_77 : decode cX2_leadOn 77 = .ok (.getfield 12, 3) := by decide +kernel
theorem dX2_leadOn_80 : decode cX2_leadOn 80 = .ok (.iload_n 2, 1) := by decide +kernel
theorem dX2_leadOn_81 : decode cX2_leadOn 81 = .ok (.invokevirtual 189, 3) := by decide +kernel
theorem dX2_leadOn_84 : decode cX2_leadOn 84 = .ok (.istore_n 3, 1) := by decide +kernel
theorem dX2_leadOn_85 : decode cX2_leadOn 85 = .ok (.iconst 0, 1) := by decide +kernel
theorem dX2_leadOn_86 : decode cX2_leadOn 86 = .ok (.istore 4, 2) := by decide +kernel
theorem dX2_leadOn_88 : decode cX2_leadOn 88 = .ok (.iload 4, 2) := by decide +kernel
theorem dX2_leadOn_90 : decode cX2_leadOn 90 = .ok (.aload_n 0, 1) := by decide +kernel
theorem dX2_leadOn_91 : decode cX2_leadOn 91 = .ok (.getfield 12, 3) := by decide +kernel
theorem dX2_leadOn_94 : decode cX2_leadOn 94 = .ok (.getfield 193, 3) := by decide +kernel
theorem dX2_leadOn_97 : decode cX2_leadOn 97 = .ok (.if_icmp .ge 36, 3) := by decide +kernel
theorem dX2_leadOn_100 : decode cX2_leadOn 100 = .ok (.aload_n 0, 1) := by decide +kernel
theorem dX2_leadOn_101 : decode cX2_leadOn 101 = .ok (.getfield 24, 3) := by decide +kernel
theorem dX2_leadOn_104 : decode cX2_leadOn 104 = .ok (.iconst 1, 1) := by decide +kernel
theorem dX2_leadOn_105 : decode cX2_leadOn 105 = .ok (.aaload, 1) := by decide +kernel
theorem dX2_leadOn_106 : decode cX2_leadOn 106 = .ok (.aload_n 0, 1) := by decide +kernel
theorem dX2_leadOn_107 : decode cX2_leadOn 107 = .ok (.getfield 12, 3) := by decide +kernel
theorem dX2_leadOn_110 : decode cX2_leadOn 110 = .ok (.getfield 194, 3) := by decide +kernel
theorem dX2_leadOn_113 : decode cX2_leadOn 113 = .ok (.iload 4, 2) := by decide +kernel
theorem dX2_leadOn_115 : decode cX2_leadOn 115 = .ok (.iaload, 1) := by decide +kernel
theorem dX2_leadOn_116 : decode cX2_leadOn 116 = .ok (.aload_n 0, 1) := by decide +kernel
theorem dX2_leadOn_117 : decode cX2_leadOn 117 = .ok (.getfield 12, 3) := by decide +kernel
theorem dX2_leadOn_120 : decode cX2_leadOn 120 = .ok (.getfield 197, 3) := by decide +kernel
theorem dX2_leadOn_123 : decode cX2_leadOn 123 = .ok (.iload 4, 2) := by decide +kernel
theorem dX2_leadOn_125 : decode cX2_leadOn 125 = .ok (.iaload, 1) := by decide +kernel
theorem dX2_leadOn_126 : decode cX2_leadOn 126 = .ok (.iastore, 1) := by decide +kernel
theorem dX2_leadOn_127 : decode cX2_leadOn 127 = .ok (.iinc 4 1, 3) := by decide +kernel
theorem dX2_leadOn_130 : decode cX2_leadOn 130 = .ok (.goto (-42), 3) := by decide +kernel
theorem dX2_leadOn_133 : decode cX2_leadOn 133 = .ok (.aload_n 0, 1) := by decide +kernel
theorem dX2_leadOn_134 : decode cX2_leadOn 134 = .ok (.getfield 24, 3) := by decide +kernel
theorem dX2_leadOn_137 : decode cX2_leadOn 137 = .ok (.iconst 5, 1) := by decide +kernel
theorem dX2_leadOn_138 : decode cX2_leadOn 138 = .ok (.aaload, 1) := by decide +kernel
theorem dX2_leadOn_139 : decode cX2_leadOn 139 = .ok (.iload_n 1, 1) := by decide +kernel
theorem dX2_leadOn_140 : decode cX2_leadOn 140 = .ok (.iload_n 3, 1) := by decide +kernel
theorem dX2_leadOn_141 : decode cX2_leadOn 141 = .ok (.iastore, 1) := by decide +kernel
theorem dX2_leadOn_142 : decode cX2_leadOn 142 = .ok (.aload_n 0, 1) := by decide +kernel
theorem dX2_leadOn_143 : decode cX2_leadOn 143 = .ok (.getfield 24, 3) := by decide +kernel
theorem dX2_leadOn_146 : decode cX2_leadOn 146 = .ok (.bipush 6, 2) := by decide +kernel
theorem dX2_leadOn_148 : decode cX2_leadOn 148 = .ok (.aaload, 1) := by decide +kernel
theorem dX2_leadOn_149 : decode cX2_leadOn 149 = .ok (.iload_n 1, 1) := by decide +kernel
theorem dX2_leadOn_150 : decode cX2_leadOn 150 = .ok (.iload_n 2, 1) := by decide +kernel
theorem dX2_leadOn_151 : decode cX2_leadOn 151 = .ok (.iload_n 3, 1) := by decide +kernel
theorem dX2_leadOn_152 : decode cX2_leadOn 152 = .ok (.isub, 1) := by decide +kernel
theorem dX2_leadOn_153 : decode cX2_leadOn 153 = .ok (.iastore, 1) := by decide +kernel
theorem dX2_leadOn_154 : decode cX2_leadOn 154 = .ok (.return_, 1) := by decide +kernel
theorem dX2_weighQuarters_0 : decode cX2_weighQuarters 0 = .ok (.iconst 0, 1) := by decide +kernel
theorem dX2_weighQuarters_1 : decode cX2_weighQuarters 1 = .ok (.istore_n 1, 1) := by decide +kernel
theorem dX2_weighQuarters_2 : decode cX2_weighQuarters 2 = .ok (.iload_n 1, 1) := by decide +kernel
theorem dX2_weighQuarters_3 : decode cX2_weighQuarters 3 = .ok (.bipush 8, 2) := by decide +kernel
theorem dX2_weighQuarters_5 : decode cX2_weighQuarters 5 = .ok (.if_icmp .ge 23, 3) := by decide +kernel
theorem dX2_weighQuarters_8 : decode cX2_weighQuarters 8 = .ok (.aload_n 0, 1) := by decide +kernel
theorem dX2_weighQuarters_9 : decode cX2_weighQuarters 9 = .ok (.getfield 34, 3) := by decide +kernel
theorem dX2_weighQuarters_12 : decode cX2_weighQuarters 12 = .ok (.iload_n 1, 1) := by decide +kernel
theorem dX2_weighQuarters_13 : decode cX2_weighQuarters 13 = .ok (.iconst 0, 1) := by decide +kernel
theorem dX2_weighQuarters_14 : decode cX2_weighQuarters 14 = .ok (.iastore, 1) := by decide +kernel
theorem dX2_weighQuarters_15 : decode cX2_weighQuarters 15 = .ok (.aload_n 0, 1) := by decide +kernel
theorem dX2_weighQuarters_16 : decode cX2_weighQuarters 16 = .ok (.getfield 37, 3) := by decide +kernel
theorem dX2_weighQuarters_19 : decode cX2_weighQuarters 19 = .ok (.iload_n 1, 1) := by decide +kernel
theorem dX2_weighQuarters_20 : decode cX2_weighQuarters 20 = .ok (.iconst 0, 1) := by decide +kernel
theorem dX2_weighQuarters_21 : decode cX2_weighQuarters 21 = .ok (.iastore, 1) := by decide +kernel
theorem dX2_weighQuarters_22 : decode cX2_weighQuarters 22 = .ok (.iinc 1 1, 3) := by decide +kernel
theorem dX2_weighQuarters_25 : decode cX2_weighQuarters 25 = .ok (.goto (-23), 3) := by decide +kernel
theorem dX2_weighQuarters_28 : decode cX2_weighQuarters 28 = .ok (.iconst 0, 1) := by decide +kernel
theorem dX2_weighQuarters_29 : decode cX2_weighQuarters 29 = .ok (.istore_n 1, 1) := by decide +kernel
theorem dX2_weighQuarters_30 : decode cX2_weighQuarters 30 = .ok (.iload_n 1, 1) := by decide +kernel
theorem dX2_weighQuarters_31 : decode cX2_weighQuarters 31 = .ok (.aload_n 0, 1) := by decide +kernel
theorem dX2_weighQuarters_32 : decode cX2_weighQuarters 32 = .ok (.getfield 56, 3) := by decide +kernel
theorem dX2_weighQuarters_35 : decode cX2_weighQuarters 35 = .ok (.getfield 110, 3) := by decide +kernel
theorem dX2_weighQuarters_38 : decode cX2_weighQuarters 38 = .ok (.if_icmp .ge 86, 3) := by decide +kernel
theorem dX2_weighQuarters_41 : decode cX2_weighQuarters 41 = .ok (.aload_n 0, 1) := by decide +kernel
theorem dX2_weighQuarters_42 : decode cX2_weighQuarters 42 = .ok (.getfield 56, 3) := by decide +kernel
theorem dX2_weighQuarters_45 : decode cX2_weighQuarters 45 = .ok (.getfield 113, 3) := by decide +kernel
theorem dX2_weighQuarters_48 : decode cX2_weighQuarters 48 = .ok (.iload_n 1, 1) := by decide +kernel
theorem dX2_weighQuarters_49 : decode cX2_weighQuarters 49 = .ok (.iaload, 1) := by decide +kernel
theorem dX2_weighQuarters_50 : decode cX2_weighQuarters 50 = .ok (.iconst 2, 1) := by decide +kernel
theorem dX2_weighQuarters_51 : decode cX2_weighQuarters 51 = .ok (.if_icmp .eq 67, 3) := by decide +kernel
theorem dX2_weighQuarters_54 : decode cX2_weighQuarters 54 = .ok (.aload_n 0, 1) := by decide +kernel
theorem dX2_weighQuarters_55 : decode cX2_weighQuarters 55 = .ok (.getfield 56, 3) := by decide +kernel
theorem dX2_weighQuarters_58 : decode cX2_weighQuarters 58 = .ok (.iload_n 1, 1) := by decide +kernel
theorem dX2_weighQuarters_59 : decode cX2_weighQuarters 59 = .ok (.aload_n 0, 1) := by decide +kernel
theorem dX2_weighQuarters_60 : decode cX2_weighQuarters 60 = .ok (.getfield 75, 3) := by decide +kernel
theorem dX2_weighQuarters_63 : decode cX2_weighQuarters 63 = .ok (.invokevirtual 120, 3) := by decide +kernel
theorem dX2_weighQuarters_66 : decode cX2_weighQuarters 66 = .ok (.ifCond .eq 52, 3) := by decide +kernel
theorem dX2_weighQuarters_69 : decode cX2_weighQuarters 69 = .ok (.aload_n 0, 1) := by decide +kernel
theorem dX2_weighQuarters_70 : decode cX2_weighQuarters 70 = .ok (.getfield 34, 3) := by decide +kernel
theorem dX2_weighQuarters_73 : decode cX2_weighQuarters 73 = .ok (.aload_n 0, 1) := by decide +kernel
theorem dX2_weighQuarters_74 : decode cX2_weighQuarters 74 = .ok (.getfield 56, 3) := by decide +kernel
theorem dX2_weighQuarters_77 : decode cX2_weighQuarters 77 = .ok (.getfield 130, 3) := by decide +kernel
theorem dX2_weighQuarters_80 : decode cX2_weighQuarters 80 = .ok (.iload_n 1, 1) := by decide +kernel
theorem dX2_weighQuarters_81 : decode cX2_weighQuarters 81 = .ok (.iaload, 1) := by decide +kernel
theorem dX2_weighQuarters_82 : decode cX2_weighQuarters 82 = .ok (.dup2, 1) := by decide +kernel
theorem dX2_weighQuarters_83 : decode cX2_weighQuarters 83 = .ok (.iaload, 1) := by decide +kernel
theorem dX2_weighQuarters_84 : decode cX2_weighQuarters 84 = .ok (.aload_n 0, 1) := by decide +kernel
theorem dX2_weighQuarters_85 : decode cX2_weighQuarters 85 = .ok (.getfield 56, 3) := by decide +kernel
theorem dX2_weighQuarters_88 : decode cX2_weighQuarters 88 = .ok (.getfield 124, 3) := by decide +kernel
theorem dX2_weighQuarters_91 : decode cX2_weighQuarters 91 = .ok (.iload_n 1, 1) := by decide +kernel
theorem dX2_weighQuarters_92 : decode cX2_weighQuarters 92 = .ok (.iaload, 1) := by decide +kernel
theorem dX2_weighQuarters_93 : decode cX2_weighQuarters 93 = .ok (.iadd, 1) := by decide +kernel
theorem dX2_weighQuarters_94 : decode cX2_weighQuarters 94 = .ok (.iastore, 1) := by decide +kernel
theorem dX2_weighQuarters_95 : decode cX2_weighQuarters 95 = .ok (.aload_n 0, 1) := by decide +kernel
theorem dX2_weighQuarters_96 : decode cX2_weighQuarters 96 = .ok (.getfield 37, 3) := by decide +kernel
theorem dX2_weighQuarters_99 : decode cX2_weighQuarters 99 = .ok (.aload_n 0, 1) := by decide +kernel
theorem dX2_weighQuarters_100 : decode cX2_weighQuarters 100 = .ok (.getfield 56, 3) := by decide +kernel
theorem dX2_weighQuarters_103 : decode cX2_weighQuarters 103 = .ok (.getfield 130, 3) := by decide +kernel
theorem dX2_weighQuarters_106 : decode cX2_weighQuarters 106 = .ok (.iload_n 1, 1) := by decide +kernel
theorem dX2_weighQuarters_107 : decode cX2_weighQuarters 107 = .ok (.iaload, 1) := by decide +kernel
theorem dX2_weighQuarters_108 : decode cX2_weighQuarters 108 = .ok (.dup2, 1) := by decide +kernel
theorem dX2_weighQuarters_109 : decode cX2_weighQuarters 109 = .ok (.iaload, 1) := by decide +kernel
theorem dX2_weighQuarters_110 : decode cX2_weighQuarters 110 = .ok (.aload_n 0, 1) := by decide +kernel
theorem dX2_weighQuarters_111 : decode cX2_weighQuarters 111 = .ok (.getfield 31, 3) := by decide +kernel
theorem dX2_weighQuarters_114 : decode cX2_weighQuarters 114 = .ok (.iload_n 1, 1) := by decide +kernel
theorem dX2_weighQuarters_115 : decode cX2_weighQuarters 115 = .ok (.iaload, 1) := by decide +kernel
theorem dX2_weighQuarters_116 : decode cX2_weighQuarters 116 = .ok (.iadd, 1) := by decide +kernel
theorem dX2_weighQuarters_117 : decode cX2_weighQuarters 117 = .ok (.iastore, 1) := by decide +kernel
theorem dX2_weighQuarters_118 : decode cX2_weighQuarters 118 = .ok (.iinc 1 1, 3) := by decide +kernel
theorem dX2_weighQuarters_121 : decode cX2_weighQuarters 121 = .ok (.goto (-91), 3) := by decide +kernel
theorem dX2_weighQuarters_124 : decode cX2_weighQuarters 124 = .ok (.return_, 1) := by decide +kernel
theorem dX2_isDry_0 : decode cX2_isDry 0 = .ok (.iconst 2, 1) := by decide +kernel
theorem dX2_isDry_1 : decode cX2_isDry 1 = .ok (.aload_n 0, 1) := by decide +kernel
theorem dX2_isDry_2 : decode cX2_isDry 2 = .ok (.getfield 37, 3) := by decide +kernel
theorem dX2_isDry_5 : decode cX2_isDry 5 = .ok (.iload_n 1, 1) := by decide +kernel
theorem dX2_isDry_6 : decode cX2_isDry 6 = .ok (.iaload, 1) := by decide +kernel
theorem dX2_isDry_7 : decode cX2_isDry 7 = .ok (.imul, 1) := by decide +kernel
theorem dX2_isDry_8 : decode cX2_isDry 8 = .ok (.aload_n 0, 1) := by decide +kernel
theorem dX2_isDry_9 : decode cX2_isDry 9 = .ok (.getfield 34, 3) := by decide +kernel
theorem dX2_isDry_12 : decode cX2_isDry 12 = .ok (.iload_n 1, 1) := by decide +kernel
theorem dX2_isDry_13 : decode cX2_isDry 13 = .ok (.iaload, 1) := by decide +kernel
theorem dX2_isDry_14 : decode cX2_isDry 14 = .ok (.if_icmp .ge 7, 3) := by decide +kernel
theorem dX2_isDry_17 : decode cX2_isDry 17 = .ok (.iconst 1, 1) := by decide +kernel
theorem dX2_isDry_18 : decode cX2_isDry 18 = .ok (.goto 4, 3) := by decide +kernel
theorem dX2_isDry_21 : decode cX2_isDry 21 = .ok (.iconst 0, 1) := by decide +kernel
theorem dX2_isDry_22 : decode cX2_isDry 22 = .ok (.ireturn, 1) := by decide +kernel
theorem dX2_countDry_0 : decode cX2_countDry 0 = .ok (.iconst 0, 1) := by decide +kernel
theorem dX2_countDry_1 : decode cX2_countDry 1 = .ok (.istore_n 1, 1) := by decide +kernel
theorem dX2_countDry_2 : decode cX2_countDry 2 = .ok (.iconst 0, 1) := by decide +kernel
theorem dX2_countDry_3 : decode cX2_countDry 3 = .ok (.istore_n 2, 1) := by decide +kernel
theorem dX2_countDry_4 : decode cX2_countDry 4 = .ok (.iload_n 2, 1) := by decide +kernel
theorem dX2_countDry_5 : decode cX2_countDry 5 = .ok (.bipush 8, 2) := by decide +kernel
theorem dX2_countDry_7 : decode cX2_countDry 7 = .ok (.if_icmp .ge 20, 3) := by decide +kernel
theorem dX2_countDry_10 : decode cX2_countDry 10 = .ok (.aload_n 0, 1) := by decide +kernel
theorem dX2_countDry_11 : decode cX2_countDry 11 = .ok (.iload_n 2, 1) := by decide +kernel
theorem dX2_countDry_12 : decode cX2_countDry 12 = .ok (.invokevirtual 203, 3) := by decide +kernel
theorem dX2_countDry_15 : decode cX2_countDry 15 = .ok (.ifCond .eq 6, 3) := by decide +kernel
theorem dX2_countDry_18 : decode cX2_countDry 18 = .ok (.iinc 1 1, 3) := by decide +kernel
theorem dX2_countDry_21 : decode cX2_countDry 21 = .ok (.iinc 2 1, 3) := by decide +kernel
theorem dX2_countDry_24 : decode cX2_countDry 24 = .ok (.goto (-20), 3) := by decide +kernel
theorem dX2_countDry_27 : decode cX2_countDry 27 = .ok (.iload_n 1, 1) := by decide +kernel
theorem dX2_countDry_28 : decode cX2_countDry 28 = .ok (.ireturn, 1) := by decide +kernel
theorem dX2_leastMissing_0 : decode cX2_leastMissing 0 = .ok (.aload_n 0, 1) := by decide +kernel
theorem dX2_leastMissing_1 : decode cX2_leastMissing 1 = .ok (.getfield 24, 3) := by decide +kernel
theorem dX2_leastMissing_4 : decode cX2_leastMissing 4 = .ok (.iconst 1, 1) := by decide +kernel
theorem dX2_leastMissing_5 : decode cX2_leastMissing 5 = .ok (.aaload, 1) := by decide +kernel
theorem dX2_leastMissing_6 : decode cX2_leastMissing 6 = .ok (.iload_n 1, 1) := by decide +kernel
theorem dX2_leastMissing_7 : decode cX2_leastMissing 7 = .ok (.iaload, 1) := by decide +kernel
theorem dX2_leastMissing_8 : decode cX2_leastMissing 8 = .ok (.istore_n 2, 1) := by decide +kernel
theorem dX2_leastMissing_9 : decode cX2_leastMissing 9 = .ok (.iload_n 2, 1) := by decide +kernel
theorem dX2_leastMissing_10 : decode cX2_leastMissing 10 = .ok (.aload_n 0, 1) := by decide +kernel
theorem dX2_leastMissing_11 : decode cX2_leastMissing 11 = .ok (.getfield 24, 3) := by decide +kernel
theorem dX2_leastMissing_14 : decode cX2_leastMissing 14 = .ok (.iconst 2, 1) := by decide +kernel
theorem dX2_leastMissing_15 : decode cX2_leastMissing 15 = .ok (.aaload, 1) := by decide +kernel
theorem dX2_leastMissing_16 : decode cX2_leastMissing 16 = .ok (.iload_n 1, 1) := by decide +kernel
theorem dX2_leastMissing_17 : decode cX2_leastMissing 17 = .ok (.iaload, 1) := by decide +kernel
theorem dX2_leastMissing_18 : decode cX2_leastMissing 18 = .ok (.isub, 1) := by decide +kernel
theorem dX2_leastMissing_19 : decode cX2_leastMissing 19 = .ok (.istore_n 3, 1) := by decide +kernel
theorem dX2_leastMissing_20 : decode cX2_leastMissing 20 = .ok (.iload_n 2, 1) := by decide +kernel
theorem dX2_leastMissing_21 : decode cX2_leastMissing 21 = .ok (.istore 4, 2) := by decide +kernel
theorem dX2_leastMissing_23 : decode cX2_leastMissing 23 = .ok (.iconst 0, 1) := by decide +kernel
theorem dX2_leastMissing_24 : decode cX2_leastMissing 24 = .ok (.istore 5, 2) := by decide +kernel
theorem dX2_leastMissing_26 : decode cX2_leastMissing 26 = .ok (.iload 5, 2) := by decide +kernel
theorem dX2_leastMissing_28 : decode cX2_leastMissing 28 = .ok (.bipush 32, 2) := by decide +kernel
theorem dX2_leastMissing_30 : decode cX2_leastMissing 30 = .ok (.if_icmp .ge 59, 3) := by decide +kernel
theorem dX2_leastMissing_33 : decode cX2_leastMissing 33 = .ok (.iload_n 3, 1) := by decide +kernel
theorem dX2_leastMissing_34 : decode cX2_leastMissing 34 = .ok (.iload 4, 2) := by decide +kernel
theorem dX2_leastMissing_36 : decode cX2_leastMissing 36 = .ok (.if_icmp .ge 53, 3) := by decide +kernel
theorem dX2_leastMissing_39 : decode cX2_leastMissing 39 = .ok (.iload 4, 2) := by decide +kernel
theorem dX2_leastMissing_41 : decode cX2_leastMissing 41 = .ok (.iload 4, 2) := by decide +kernel
theorem dX2_leastMissing_43 : decode cX2_leastMissing 43 = .ok (.iload_n 3, 1) := by decide +kernel
theorem dX2_leastMissing_44 : decode cX2_leastMissing 44 = .ok (.isub, 1) := by decide +kernel
theorem dX2_leastMissing_45 : decode cX2_leastMissing 45 = .ok (.iconst 2, 1) := by decide +kernel
theorem dX2_leastMissing_46 : decode cX2_leastMissing 46 = .ok (.idiv, 1) := by decide +kernel
theorem dX2_leastMissing_47 : decode cX2_leastMissing 47 = .ok (.isub, 1) := by decide +kernel
theorem dX2_leastMissing_48 : decode cX2_leastMissing 48 = .ok (.istore 6, 2) := by decide +kernel
theorem dX2_leastMissing_50 : decode cX2_leastMissing 50 = .ok (.iload 6, 2) := by decide +kernel
theorem dX2_leastMissing_52 : decode cX2_leastMissing 52 = .ok (.aload_n 0, 1) := by decide +kernel
theorem dX2_leastMissing_53 : decode cX2_leastMissing 53 = .ok (.iload_n 1, 1) := by decide +kernel
theorem dX2_leastMissing_54 : decode cX2_leastMissing 54 = .ok (.iload 6, 2) := by decide +kernel
theorem dX2_leastMissing_56 : decode cX2_leastMissing 56 = .ok (.invokevirtual 159, 3) := by decide +kernel
theorem dX2_leastMissing_59 : decode cX2_leastMissing 59 = .ok (.isub, 1) := by decide +kernel
theorem dX2_leastMissing_60 : decode cX2_leastMissing 60 = .ok (.aload_n 0, 1) := by decide +kernel
theorem dX2_leastMissing_61 : decode cX2_leastMissing 61 = .ok (.getfield 24, 3) := by decide +kernel
theorem dX2_leastMissing_64 : decode cX2_leastMissing 64 = .ok (.iconst 0, 1) := by decide +kernel
theorem dX2_leastMissing_65 : decode cX2_leastMissing 65 = .ok (.aaload, 1) := by decide +kernel
theorem dX2_leastMissing_66 : decode cX2_leastMissing 66 = .ok (.iload_n 1, 1) := by decide +kernel
theorem dX2_leastMissing_67 : decode cX2_leastMissing 67 = .ok (.iaload, 1) := by decide +kernel
theorem dX2_leastMissing_68 : decode cX2_leastMissing 68 = .ok (.if_icmp .gt 9, 3) := by decide +kernel
theorem dX2_leastMissing_71 : decode cX2_leastMissing 71 = .ok (.iload 6, 2) := by decide +kernel
theorem dX2_leastMissing_73 : decode cX2_leastMissing 73 = .ok (.istore_n 3, 1) := by decide +kernel
theorem dX2_leastMissing_74 : decode cX2_leastMissing 74 = .ok (.goto 9, 3) := by decide +kernel
theorem dX2_leastMissing_77 : decode cX2_leastMissing 77 = .ok (.iload 6, 2) := by decide +kernel
theorem dX2_leastMissing_79 : decode cX2_leastMissing 79 = .ok (.iconst 1, 1) := by decide +kernel
theorem dX2_leastMissing_80 : decode cX2_leastMissing 80 = .ok (.isub, 1) := by decide +kernel
theorem dX2_leastMissing_81 : decode cX2_leastMissing 81 = .ok (.istore 4, 2) := by decide +kernel
theorem dX2_leastMissing_83 : decode cX2_leastMissing 83 = .ok (.iinc 5 1, 3) := by decide +kernel
theorem dX2_leastMissing_86 : decode cX2_leastMissing 86 = .ok (.goto (-60), 3) := by decide +kernel
theorem dX2_leastMissing_89 : decode cX2_leastMissing 89 = .ok (.iload_n 2, 1) := by decide +kernel
theorem dX2_leastMissing_90 : decode cX2_leastMissing 90 = .ok (.iload_n 3, 1) := by decide +kernel
theorem dX2_leastMissing_91 : decode cX2_leastMissing 91 = .ok (.isub, 1) := by decide +kernel
theorem dX2_leastMissing_92 : decode cX2_leastMissing 92 = .ok (.ireturn, 1) := by decide +kernel
theorem dX2_rentOf_0 : decode cX2_rentOf 0 = .ok (.aload_n 0, 1) := by decide +kernel
theorem dX2_rentOf_1 : decode cX2_rentOf 1 = .ok (.iload_n 2, 1) := by decide +kernel
theorem dX2_rentOf_2 : decode cX2_rentOf 2 = .ok (.iload_n 3, 1) := by decide +kernel
theorem dX2_rentOf_3 : decode cX2_rentOf 3 = .ok (.invokevirtual 67, 3) := by decide +kernel
theorem dX2_rentOf_6 : decode cX2_rentOf 6 = .ok (.aload_n 0, 1) := by decide +kernel
theorem dX2_rentOf_7 : decode cX2_rentOf 7 = .ok (.getfield 40, 3) := by decide +kernel
theorem dX2_rentOf_10 : decode cX2_rentOf 10 = .ok (.getfield 133, 3) := by decide +kernel
theorem dX2_rentOf_13 : decode cX2_rentOf 13 = .ok (.iconst 2, 1) := by decide +kernel
theorem dX2_rentOf_14 : decode cX2_rentOf 14 = .ok (.iaload, 1) := by decide +kernel
theorem dX2_rentOf_15 : decode cX2_rentOf 15 = .ok (.ifCond .eq 16, 3) := by decide +kernel
theorem dX2_rentOf_18 : decode cX2_rentOf 18 = .ok (.aload_n 0, 1) := by decide +kernel
theorem dX2_rentOf_19 : decode cX2_rentOf 19 = .ok (.getfield 44, 3) := by decide +kernel
theorem dX2_rentOf_22 : decode cX2_rentOf 22 = .ok (.iload_n 1, 1) := by decide +kernel
theorem dX2_rentOf_23 : decode cX2_rentOf 23 = .ok (.iload_n 2, 1) := by decide +kernel
theorem dX2_rentOf_24 : decode cX2_rentOf 24 = .ok (.iconst 0, 1) := by decide +kernel
theorem dX2_rentOf_25 : decode cX2_rentOf 25 = .ok (.invokevirtual 136, 3) := by decide +kernel
theorem dX2_rentOf_28 : decode cX2_rentOf 28 = .ok (.ifCond .ne 5, 3) := by decide +kernel
theorem dX2_rentOf_31 : decode cX2_rentOf 31 = .ok (.lconst 0, 1) := by decide +kernel
theorem dX2_rentOf_32 : decode cX2_rentOf 32 = .ok (.lreturn, 1) := by decide +kernel
theorem dX2_rentOf_33 : decode cX2_rentOf 33 = .ok (.aload_n 0, 1) := by decide +kernel
theorem dX2_rentOf_34 : decode cX2_rentOf 34 = .ok (.iconst (-1), 1) := by decide +kernel
theorem dX2_rentOf_35 : decode cX2_rentOf 35 = .ok (.invokevirtual 71, 3) := by decide +kernel
theorem dX2_rentOf_38 : decode cX2_rentOf 38 = .ok (.lconst 0, 1) := by decide +kernel
theorem dX2_rentOf_39 : decode cX2_rentOf 39 = .ok (.lstore 4, 2) := by decide +kernel
theorem dX2_rentOf_41 : decode cX2_rentOf 41 = .ok (.iconst 0, 1) := by decide +kernel
theorem dX2_rentOf_42 : decode cX2_rentOf 42 = .ok (.istore 6, 2) := by decide +kernel
theorem dX2_rentOf_44 : decode cX2_rentOf 44 = .ok (.iload 6, 2) := by decide +kernel
theorem dX2_rentOf_46 : decode cX2_rentOf 46 = .ok (.aload_n 0, 1) := by decide +kernel
theorem dX2_rentOf_47 : decode cX2_rentOf 47 = .ok (.getfield 56, 3) := by decide +kernel
theorem dX2_rentOf_50 : decode cX2_rentOf 50 = .ok (.getfield 110, 3) := by decide +kernel
theorem dX2_rentOf_53 : decode cX2_rentOf 53 = .ok (.if_icmp .ge 35, 3) := by decide +kernel
theorem dX2_rentOf_56 : decode cX2_rentOf 56 = .ok (.aload_n 0, 1) := by decide +kernel
theorem dX2_rentOf_57 : decode cX2_rentOf 57 = .ok (.getfield 56, 3) := by decide +kernel
theorem dX2_rentOf_60 : decode cX2_rentOf 60 = .ok (.iload 6, 2) := by decide +kernel
theorem dX2_rentOf_62 : decode cX2_rentOf 62 = .ok (.iload_n 1, 1) := by decide +kernel
theorem dX2_rentOf_63 : decode cX2_rentOf 63 = .ok (.invokevirtual 206, 3) := by decide +kernel
theorem dX2_rentOf_66 : decode cX2_rentOf 66 = .ok (.ifCond .eq 16, 3) := by decide +kernel
theorem dX2_rentOf_69 : decode cX2_rentOf 69 = .ok (.lload 4, 2) := by decide +kernel
theorem dX2_rentOf_71 : decode cX2_rentOf 71 = .ok (.aload_n 0, 1) := by decide +kernel
theorem dX2_rentOf_72 : decode cX2_rentOf 72 = .ok (.getfield 31, 3) := by decide +kernel
theorem dX2_rentOf_75 : decode cX2_rentOf 75 = .ok (.iload 6, 2) := by decide +kernel
theorem dX2_rentOf_77 : decode cX2_rentOf 77 = .ok (.iaload, 1) := by decide +kernel
theorem dX2_rentOf_78 : decode cX2_rentOf 78 = .ok (.i2l, 1) := by decide +kernel
theorem dX2_rentOf_79 : decode cX2_rentOf 79 = .ok (.ladd, 1) := by decide +kernel
theorem dX2_rentOf_80 : decode cX2_rentOf 80 = .ok (.lstore 4, 2) := by decide +kernel
theorem dX2_rentOf_82 : decode cX2_rentOf 82 = .ok (.iinc 6 1, 3) := by decide +kernel
theorem dX2_rentOf_85 : decode cX2_rentOf 85 = .ok (.goto (-41), 3) := by decide +kernel
theorem dX2_rentOf_88 : decode cX2_rentOf 88 = .ok (.aload_n 0, 1) := by decide +kernel
theorem dX2_rentOf_89 : decode cX2_rentOf 89 = .ok (.getfield 40, 3) := by decide +kernel
theorem dX2_rentOf_92 : decode cX2_rentOf 92 = .ok (.getfield 133, 3) := by decide +kernel
theorem dX2_rentOf_95 : decode cX2_rentOf 95 = .ok (.iconst 2, 1) := by decide +kernel
theorem dX2_rentOf_96 : decode cX2_rentOf 96 = .ok (.iaload, 1) := by decide +kernel
theorem dX2_rentOf_97 : decode cX2_rentOf 97 = .ok (.i2l, 1) := by decide +kernel
theorem dX2_rentOf_98 : decode cX2_rentOf 98 = .ok (.lload 4, 2) := by decide +kernel
theorem dX2_rentOf_100 : decode cX2_rentOf 100 = .ok (.lmul, 1) := by decide +kernel
theorem dX2_rentOf_101 : decode cX2_rentOf 101 = .ok (.lreturn, 1) := by decide +kernel
theorem dX2_fineOf_0 : decode cX2_fineOf 0 = .ok (.aload_n 0, 1) := by decide +kernel
theorem dX2_fineOf_1 : decode cX2_fineOf 1 = .ok (.iload_n 2, 1) := by decide +kernel
theorem dX2_fineOf_2 : decode cX2_fineOf 2 = .ok (.iload_n 3, 1) := by decide +kernel
theorem dX2_fineOf_3 : decode cX2_fineOf 3 = .ok (.invokevirtual 67, 3) := by decide +kernel
theorem dX2_fineOf_6 : decode cX2_fineOf 6 = .ok (.aload_n 0, 1) := by decide +kernel
theorem dX2_fineOf_7 : decode cX2_fineOf 7 = .ok (.getfield 40, 3) := by decide +kernel
theorem dX2_fineOf_10 : decode cX2_fineOf 10 = .ok (.getfield 133, 3) := by decide +kernel
theorem dX2_fineOf_13 : decode cX2_fineOf 13 = .ok (.iconst 3, 1) := by decide +kernel
theorem dX2_fineOf_14 : decode cX2_fineOf 14 = .ok (.iaload, 1) := by decide +kernel
theorem dX2_fineOf_15 : decode cX2_fineOf 15 = .ok (.ifCond .ne 5, 3) := by decide +kernel
theorem dX2_fineOf_18 : decode cX2_fineOf 18 = .ok (.lconst 0, 1) := by decide +kernel
theorem dX2_fineOf_19 : decode cX2_fineOf 19 = .ok (.lreturn, 1) := by decide +kernel
theorem dX2_fineOf_20 : decode cX2_fineOf 20 = .ok (.aload_n 0, 1) := by decide +kernel
theorem dX2_fineOf_21 : decode cX2_fineOf 21 = .ok (.iconst (-1), 1) := by decide +kernel
theorem dX2_fineOf_22 : decode cX2_fineOf 22 = .ok (.invokevirtual 71, 3) := by decide +kernel
theorem dX2_fineOf_25 : decode cX2_fineOf 25 = .ok (.aload_n 0, 1) := by decide +kernel
theorem dX2_fineOf_26 : decode cX2_fineOf 26 = .ok (.getfield 40, 3) := by decide +kernel
theorem dX2_fineOf_29 : decode cX2_fineOf 29 = .ok (.getfield 133, 3) := by decide +kernel
theorem dX2_fineOf_32 : decode cX2_fineOf 32 = .ok (.iconst 3, 1) := by decide +kernel
theorem dX2_fineOf_33 : decode cX2_fineOf 33 = .ok (.iaload, 1) := by decide +kernel
theorem dX2_fineOf_34 : decode cX2_fineOf 34 = .ok (.i2l, 1) := by decide +kernel
theorem dX2_fineOf_35 : decode cX2_fineOf 35 = .ok (.aload_n 0, 1) := by decide +kernel
theorem dX2_fineOf_36 : decode cX2_fineOf 36 = .ok (.getfield 24, 3) := by decide +kernel
theorem dX2_fineOf_39 : decode cX2_fineOf 39 = .ok (.iconst 2, 1) := by decide +kernel
theorem dX2_fineOf_40 : decode cX2_fineOf 40 = .ok (.aaload, 1) := by decide +kernel
theorem dX2_fineOf_41 : decode cX2_fineOf 41 = .ok (.iload_n 1, 1) := by decide +kernel
theorem dX2_fineOf_42 : decode cX2_fineOf 42 = .ok (.iaload, 1) := by decide +kernel
theorem dX2_fineOf_43 : decode cX2_fineOf 43 = .ok (.i2l, 1) := by decide +kernel
theorem dX2_fineOf_44 : decode cX2_fineOf 44 = .ok (.lmul, 1) := by decide +kernel
theorem dX2_fineOf_45 : decode cX2_fineOf 45 = .ok (.lreturn, 1) := by decide +kernel
theorem dX3_init_0 : decode cX3_init 0 = .ok (.aload_n 0, 1) := by decide +kernel
theorem dX3_init_1 : decode cX3_init 1 = .ok (.invokespecial 3, 3) := by decide +kernel
theorem dX3_init_4 : decode cX3_init 4 = .ok (.aload_n 0, 1) := by decide +kernel
theorem dX3_init_5 : decode cX3_init 5 = .ok (.bipush 12, 2) := by decide +kernel
theorem dX3_init_7 : decode cX3_init 7 = .ok (.newarray .int, 2) := by decide +kernel
theorem dX3_init_9 : decode cX3_init 9 = .ok (.putfield 9, 3) := by decide +kernel
theorem dX3_init_12 : decode cX3_init 12 = .ok (.aload_n 0, 1) := by decide +kernel
theorem dX3_init_13 : decode cX3_init 13 = .ok (.iload_n 1, 1) := by decide +kernel
theorem dX3_init_14 : decode cX3_init 14 = .ok (.putfield 15, 3) := by decide +kernel
theorem dX3_init_17 : decode cX3_init 17 = .ok (.aload_n 0, 1) := by decide +kernel
theorem dX3_init_18 : decode cX3_init 18 = .ok (.bipush 12, 2) := by decide +kernel
theorem dX3_init_20 : decode cX3_init 20 = .ok (.iload_n 1, 1) := by decide +kernel
theorem dX3_init_21 : decode cX3_init 21 = .ok (.imul, 1) := by decide +kernel
theorem dX3_init_22 : decode cX3_init 22 = .ok (.newarray .int, 2) := by decide +kernel
theorem dX3_init_24 : decode cX3_init 24 = .ok (.putfield 19, 3) := by decide +kernel
theorem dX3_init_27 : decode cX3_init 27 = .ok (.return_, 1) := by decide +kernel
theorem dX3_put_0 : decode cX3_put 0 = .ok (.iload_n 1, 1) := by decide +kernel
theorem dX3_put_1 : decode cX3_put 1 = .ok (.iconst 0, 1) := by decide +kernel
theorem dX3_put_2 : decode cX3_put 2 = .ok (.bipush 11, 2) := by decide +kernel
theorem dX3_put_4 : decode cX3_put 4 = .ok (.invokestatic 22, 3) := by decide +kernel
theorem dX3_put_7 : decode cX3_put 7 = .ok (.ifCond .eq 16, 3) := by decide +kernel
theorem dX3_put_10 : decode cX3_put 10 = .ok (.aload_n 0, 1) := by decide +kernel
theorem dX3_put_11 : decode cX3_put 11 = .ok (.getfield 9, 3) := by decide +kernel
theorem dX3_put_14 : decode cX3_put 14 = .ok (.iload_n 1, 1) := by decide +kernel
theorem dX3_put_15 : decode cX3_put 15 = .ok (.iaload, 1) := by decide +kernel
theorem dX3_put_16 : decode cX3_put 16 = .ok (.aload_n 0, 1) := by decide +kernel
theorem dX3_put_17 : decode cX3_put 17 = .ok (.getfield 15, 3) := by decide +kernel
theorem dX3_put_20 : decode cX3_put 20 = .ok (.if_icmp .lt 4, 3) := by decide +kernel
theorem dX3_put_23 : decode cX3_put 23 = .ok (.return_, 1) := by decide +kernel
theorem dX3_put_24 : decode cX3_put 24 = .ok (.aload_n 0, 1) := by decide +kernel
theorem dX3_put_25 : decode cX3_put 25 = .ok (.getfield 19, 3) := by decide +kernel
theorem dX3_put_28 : decode cX3_put 28 = .ok (.iload_n 1, 1) := by decide +kernel
theorem dX3_put_29 : decode cX3_put 29 = .ok (.aload_n 0, 1) := by decide +kernel
theorem dX3_put_30 : decode cX3_put 30 = .ok (.getfield 15, 3) := by decide +kernel
theorem dX3_put_33 : decode cX3_put 33 = .ok (.imul, 1) := by decide +kernel
theorem dX3_put_34 : decode cX3_put 34 = .ok (.aload_n 0, 1) := by decide +kernel
theorem dX3_put_35 : decode cX3_put 35 = .ok (.getfield 9, 3) := by decide +kernel
theorem dX3_put_38 : decode cX3_put 38 = .ok (.iload_n 1, 1) := by decide +kernel
theorem dX3_put_39 : decode cX3_put 39 = .ok (.iaload, 1) := by decide +kernel
theorem dX3_put_40 : decode cX3_put 40 = .ok (.iadd, 1) := by decide +kernel
theorem dX3_put_41 : decode cX3_put 41 = .ok (.iload_n 2, 1) := by decide +kernel
theorem dX3_put_42 : decode cX3_put 42 = .ok (.iastore, 1) := by decide +kernel
theorem dX3_put_43 : decode cX3_put 43 = .ok (.aload_n 0, 1) := by decide +kernel
theorem dX3_put_44 : decode cX3_put 44 = .ok (.getfield 9, 3) := by decide +kernel
theorem dX3_put_47 : decode cX3_put 47 = .ok (.iload_n 1, 1) := by decide +kernel
theorem dX3_put_48 : decode cX3_put 48 = .ok (.dup2, 1) := by decide +kernel
theorem dX3_put_49 : decode cX3_put 49 = .ok (.iaload, 1) := by decide +kernel
theorem dX3_put_50 : decode cX3_put 50 = .ok (.iconst 1, 1) := by decide +kernel
theorem dX3_put_51 : decode cX3_put 51 = .ok (.iadd, 1) := by decide +kernel
theorem dX3_put_52 : decode cX3_put 52 = .ok (.iastore, 1) := by decide +kernel
theorem dX3_put_53 : decode cX3_put 53 = .ok (.return_, 1) := by decide +kernel
theorem dX3_member_0 : decode cX3_member 0 = .ok (.aload_n 0, 1) := by decide +kernel
theorem dX3_member_1 : decode cX3_member 1 = .ok (.getfield 19, 3) := by decide +kernel
theorem dX3_member_4 : decode cX3_member 4 = .ok (.iload_n 1, 1) := by decide +kernel
theorem dX3_member_5 : decode cX3_member 5 = .ok (.aload_n 0, 1) := by decide +kernel
theorem dX3_member_6 : decode cX3_member 6 = .ok (.getfield 15, 3) := by decide +kernel
theorem dX3_member_9 : decode cX3_member 9 = .ok (.imul, 1) := by decide +kernel
theorem dX3_member_10 : decode cX3_member 10 = .ok (.iload_n 2, 1) := by decide +kernel
theorem dX3_member_11 : decode cX3_member 11 = .ok (.iadd, 1) := by decide +kernel
theorem dX3_member_12 : decode cX3_member 12 = .ok (.iaload, 1) := by decide +kernel
theorem dX3_member_13 : decode cX3_member 13 = .ok (.ireturn, 1) := by decide +kernel
theorem dX4_init_0 : decode cX4_init 0 = .ok (.aload_n 0, 1) := by decide +kernel
theorem dX4_init_1 : decode cX4_init 1 = .ok (.invokespecial 3, 3) := by decide +kernel
theorem dX4_init_4 : decode cX4_init 4 = .ok (.aload_n 0, 1) := by decide +kernel
theorem dX4_init_5 : decode cX4_init 5 = .ok (.bipush 30, 2) := by decide +kernel
theorem dX4_init_7 : decode cX4_init 7 = .ok (.newarray .int, 2) := by decide +kernel
theorem dX4_init_9 : decode cX4_init 9 = .ok (.putfield 9, 3) := by decide +kernel
theorem dX4_init_12 : decode cX4_init 12 = .ok (.aload_n 0, 1) := by decide +kernel
theorem dX4_init_13 : decode cX4_init 13 = .ok (.bipush 30, 2) := by decide +kernel
theorem dX4_init_15 : decode cX4_init 15 = .ok (.newarray .int, 2) := by decide +kernel
theorem dX4_init_17 : decode cX4_init 17 = .ok (.putfield 15, 3) := by decide +kernel
theorem dX4_init_20 : decode cX4_init 20 = .ok (.aload_n 0, 1) := by decide +kernel
theorem dX4_init_21 : decode cX4_init 21 = .ok (.bipush 30, 2) := by decide +kernel
theorem dX4_init_23 : decode cX4_init 23 = .ok (.newarray .int, 2) := by decide +kernel
theorem dX4_init_25 : decode cX4_init 25 = .ok (.putfield 18, 3) := by decide +kernel
theorem dX4_init_28 : decode cX4_init 28 = .ok (.aload_n 0, 1) := by decide +kernel
theorem dX4_init_29 : decode cX4_init 29 = .ok (.bipush 30, 2) := by decide +kernel
theorem dX4_init_31 : decode cX4_init 31 = .ok (.newarray .int, 2) := by decide +kernel
theorem dX4_init_33 : decode cX4_init 33 = .ok (.putfield 21, 3) := by decide +kernel
theorem dX4_init_36 : decode cX4_init 36 = .ok (.aload_n 0, 1) := by decide +kernel
theorem dX4_init_37 : decode cX4_init 37 = .ok (.bipush 8, 2) := by decide +kernel
theorem dX4_init_39 : decode cX4_init 39 = .ok (.newarray .int, 2) := by decide +kernel
theorem dX4_init_41 : decode cX4_init 41 = .ok (.putfield 24, 3) := by decide +kernel
theorem dX4_init_44 : decode cX4_init 44 = .ok (.return_, 1) := by decide +kernel
theorem dX4_clear_0 : decode cX4_clear 0 = .ok (.aload_n 0, 1) := by decide +kernel
theorem dX4_clear_1 : decode cX4_clear 1 = .ok (.iconst 0, 1) := by decide +kernel
theorem dX4_clear_2 : decode cX4_clear 2 = .ok (.putfield 27, 3) := by decide +kernel
theorem dX4_clear_5 : decode cX4_clear 5 = .ok (.return_, 1) := by decide +kernel
theorem dX4_add_0 : decode cX4_add 0 = .ok (.aload_n 0, 1) := by decide +kernel
theorem dX4_add_1 : decode cX4_add 1 = .ok (.getfield 27, 3) := by decide +kernel
theorem dX4_add_4 : decode cX4_add 4 = .ok (.bipush 30, 2) := by decide +kernel
theorem dX4_add_6 : decode cX4_add 6 = .ok (.if_icmp .lt 4, 3) := by decide +kernel
theorem dX4_add_9 : decode cX4_add 9 = .ok (.return_, 1) := by decide +kernel
theorem dX4_add_10 : decode cX4_add 10 = .ok (.aload_n 0, 1) := by decide +kernel
theorem dX4_add_11 : decode cX4_add 11 = .ok (.getfield 9, 3) := by decide +kernel
theorem dX4_add_14 : decode cX4_add 14 = .ok (.aload_n 0, 1) := by decide +kernel
theorem dX4_add_15 : decode cX4_add 15 = .ok (.getfield 27, 3) := by decide +kernel
theorem dX4_add_18 : decode cX4_add 18 = .ok (.iload_n 1, 1) := by decide +kernel
theorem dX4_add_19 : decode cX4_add 19 = .ok (.iastore, 1) := by decide +kernel
theorem dX4_add_20 : decode cX4_add 20 = .ok (.aload_n 0, 1) := by decide +kernel
theorem dX4_add_21 : decode cX4_add 21 = .ok (.getfield 15, 3) := by decide +kernel
theorem dX4_add_24 : decode cX4_add 24 = .ok (.aload_n 0, 1) := by decide +kernel
theorem dX4_add_25 : decode cX4_add 25 = .ok (.getfield 27, 3) := by decide +kernel
theorem dX4_add_28 : decode cX4_add 28 = .ok (.iload_n 2, 1) := by decide +kernel
theorem dX4_add_29 : decode cX4_add 29 = .ok (.iastore, 1) := by decide +kernel
theorem dX4_add_30 : decode cX4_add 30 = .ok (.aload_n 0, 1) := by decide +kernel
theorem dX4_add_31 : decode cX4_add 31 = .ok (.getfield 18, 3) := by decide +kernel
theorem dX4_add_34 : decode cX4_add 34 = .ok (.aload_n 0, 1) := by decide +kernel
theorem dX4_add_35 : decode cX4_add 35 = .ok (.getfield 27, 3) := by decide +kernel
theorem dX4_add_38 : decode cX4_add 38 = .ok (.iload_n 3, 1) := by decide +kernel
theorem dX4_add_39 : decode cX4_add 39 = .ok (.iastore, 1) := by decide +kernel
theorem dX4_add_40 : decode cX4_add 40 = .ok (.aload_n 0, 1) := by decide +kernel
theorem dX4_add_41 : decode cX4_add 41 = .ok (.getfield 21, 3) := by decide +kernel
theorem dX4_add_44 : decode cX4_add 44 = .ok (.aload_n 0, 1) := by decide +kernel
theorem dX4_add_45 : decode cX4_add 45 = .ok (.getfield 27, 3) := by decide +kernel
theorem dX4_add_48 : decode cX4_add 48 = .ok (.iload 4, 2) := by decide +kernel
theorem dX4_add_50 : decode cX4_add 50 = .ok (.iastore, 1) := by decide +kernel
theorem dX4_add_51 : decode cX4_add 51 = .ok (.aload_n 0, 1) := by decide +kernel
theorem dX4_add_52 : decode cX4_add 52 = .ok (.dup, 1) := by decide +kernel
theorem dX4_add_53 : decode cX4_add 53 = .ok (.getfield 27, 3) := by decide +kernel
theorem dX4_add_56 : decode cX4_add 56 = .ok (.iconst 1, 1) := by decide +kernel
theorem dX4_add_57 : decode cX4_add 57 = .ok (.iadd, 1) := by decide +kernel
theorem dX4_add_58 : decode cX4_add 58 = .ok (.putfield 27, 3) := by decide +kernel
theorem dX4_add_61 : decode cX4_add 61 = .ok (.return_, 1) := by decide +kernel
theorem dX4_copyFrom_0 : decode cX4_copyFrom 0 = .ok (.aload_n 0, 1) := by decide +kernel
theorem dX4_copyFrom_1 : decode cX4_copyFrom 1 = .ok (.invokevirtual 31, 3) := by decide +kernel
theorem dX4_copyFrom_4 : decode cX4_copyFrom 4 = .ok (.iconst 0, 1) := by decide +kernel
theorem dX4_copyFrom_5 : decode cX4_copyFrom 5 = .ok (.istore_n 2, 1) := by decide +kernel
theorem dX4_copyFrom_6 : decode cX4_copyFrom 6 = .ok (.iload_n 2, 1) := by decide +kernel
theorem dX4_copyFrom_7 : decode cX4_copyFrom 7 = .ok (.aload_n 1, 1) := by decide +kernel
theorem dX4_copyFrom_8 : decode cX4_copyFrom 8 = .ok (.getfield 27, 3) := by decide +kernel
theorem dX4_copyFrom_11 : decode cX4_copyFrom 11 = .ok (.if_icmp .ge 37, 3) := by decide +kernel
theorem dX4_copyFrom_14 : decode cX4_copyFrom 14 = .ok (.aload_n 0, 1) := by decide +kernel
theorem dX4_copyFrom_15 : decode cX4_copyFrom 15 = .ok (.aload_n 1, 1) := by decide +kernel
theorem dX4_copyFrom_16 : decode cX4_copyFrom 16 = .ok (.getfield 9, 3) := by decide +kernel
theorem dX4_copyFrom_19 : decode cX4_copyFrom 19 = .ok (.iload_n 2, 1) := by decide +kernel
theorem dX4_copyFrom_20 : decode cX4_copyFrom 20 = .ok (.iaload, 1) := by decide +kernel
theorem dX4_copyFrom_21 : decode cX4_copyFrom 21 = .ok (.aload_n 1, 1) := by decide +kernel
theorem dX4_copyFrom_22 : decode cX4_copyFrom 22 = .ok (.getfield 15, 3) := by decide +kernel
theorem dX4_copyFrom_25 : decode cX4_copyFrom 25 = .ok (.iload_n 2, 1) := by decide +kernel
theorem dX4_copyFrom_26 : decode cX4_copyFrom 26 = .ok (.iaload, 1) := by decide +kernel
theorem dX4_copyFrom_27 : decode cX4_copyFrom 27 = .ok (.aload_n 1, 1) := by decide +kernel
theorem dX4_copyFrom_28 : decode cX4_copyFrom 28 = .ok (.getfield 18, 3) := by decide +kernel
end
section
theorem dX4_copyFrom_31 : decode cX4_copyFrom 31 = .ok (.iload_n 2, 1) := by decide +kernel
theorem dX4_copyFrom_32 : decode cX4_copyFrom 32 = .ok (.iaload, 1) := by decide +kernel
theorem dX4_copyFrom_33 : decode cX4_copyFrom 33 = .ok (.aload_n 1, 1) := by decide +kernel
theorem dX4_copyFrom_34 : decode cX4_copyFrom 34 = .ok (.getfield 21, 3) := by decide +kernel
theorem dX4_copyFrom_37 : decode cX4_copyFrom 37 = .ok (.iload_n 2, 1) := by decide +kernel
theorem dX4_copyFrom_38 : decode cX4_copyFrom 38 = .ok (.iaload, 1) := by decide +kernel
theorem dX4_copyFrom_39 : decode cX4_copyFrom 39 = .ok (.invokevirtual 34, 3) := by decide +kernel
theorem dX4_copyFrom_42 : decode cX4_copyFrom 42 = .ok (.iinc 2 1, 3) := by decide +kernel
theorem dX4_copyFrom_45 : decode cX4_copyFrom 45 = .ok (.goto (-39), 3) := by decide +kernel
theorem dX4_copyFrom_48 : decode cX4_copyFrom 48 = .ok (.return_, 1) := by decide +kernel
theorem dX4_settle_0 : decode cX4_settle 0 = .ok (.iconst 0, 1) := by decide +kernel
theorem dX4_settle_1 : decode cX4_settle 1 = .ok (.istore_n 2, 1) := by decide +kernel
theorem dX4_settle_2 : decode cX4_settle 2 = .ok (.iload_n 2, 1) := by decide +kernel
theorem dX4_settle_3 : decode cX4_settle 3 = .ok (.bipush 8, 2) := by decide +kernel
theorem dX4_settle_5 : decode cX4_settle 5 = .ok (.if_icmp .ge 16, 3) := by decide +kernel
theorem dX4_settle_8 : decode cX4_settle 8 = .ok (.aload_n 0, 1) := by decide +kernel
theorem dX4_settle_9 : decode cX4_settle 9 = .ok (.getfield 24, 3) := by decide +kernel
theorem dX4_settle_12 : decode cX4_settle 12 = .ok (.iload_n 2, 1) := by decide +kernel
theorem dX4_settle_13 : decode cX4_settle 13 = .ok (.iconst 0, 1) := by decide +kernel
theorem dX4_settle_14 : decode cX4_settle 14 = .ok (.iastore, 1) := by decide +kernel
theorem dX4_settle_15 : decode cX4_settle 15 = .ok (.iinc 2 1, 3) := by decide +kernel
theorem dX4_settle_18 : decode cX4_settle 18 = .ok (.goto (-16), 3) := by decide +kernel
theorem dX4_settle_21 : decode cX4_settle 21 = .ok (.aload_n 0, 1) := by decide +kernel
theorem dX4_settle_22 : decode cX4_settle 22 = .ok (.getfield 24, 3) := by decide +kernel
theorem dX4_settle_25 : decode cX4_settle 25 = .ok (.iconst 4, 1) := by decide +kernel
theorem dX4_settle_26 : decode cX4_settle 26 = .ok (.iconst (-1), 1) := by decide +kernel
theorem dX4_settle_27 : decode cX4_settle 27 = .ok (.iastore, 1) := by decide +kernel
theorem dX4_settle_28 : decode cX4_settle 28 = .ok (.iconst 0, 1) := by decide +kernel
theorem dX4_settle_29 : decode cX4_settle 29 = .ok (.istore_n 2, 1) := by decide +kernel
theorem dX4_settle_30 : decode cX4_settle 30 = .ok (.iload_n 2, 1) := by decide +kernel
theorem dX4_settle_31 : decode cX4_settle 31 = .ok (.aload_n 0, 1) := by decide +kernel
theorem dX4_settle_32 : decode cX4_settle 32 = .ok (.getfield 27, 3) := by decide +kernel
theorem dX4_settle_35 : decode cX4_settle 35 = .ok (.if_icmp .ge 75, 3) := by decide +kernel
theorem dX4_settle_38 : decode cX4_settle 38 = .ok (.iload_n 1, 1) := by decide +kernel
theorem dX4_settle_39 : decode cX4_settle 39 = .ok (.aload_n 0, 1) := by decide +kernel
theorem dX4_settle_40 : decode cX4_settle 40 = .ok (.getfield 9, 3) := by decide +kernel
theorem dX4_settle_43 : decode cX4_settle 43 = .ok (.iload_n 2, 1) := by decide +kernel
theorem dX4_settle_44 : decode cX4_settle 44 = .ok (.iaload, 1) := by decide +kernel
theorem dX4_settle_45 : decode cX4_settle 45 = .ok (.aload_n 0, 1) := by decide +kernel
theorem dX4_settle_46 : decode cX4_settle 46 = .ok (.getfield 15, 3) := by decide +kernel
theorem dX4_settle_49 : decode cX4_settle 49 = .ok (.iload_n 2, 1) := by decide +kernel
theorem dX4_settle_50 : decode cX4_settle 50 = .ok (.iaload, 1) := by decide +kernel
theorem dX4_settle_51 : decode cX4_settle 51 = .ok (.invokestatic 38, 3) := by decide +kernel
theorem dX4_settle_54 : decode cX4_settle 54 = .ok (.ifCond .ne 6, 3) := by decide +kernel
theorem dX4_settle_57 : decode cX4_settle 57 = .ok (.goto 47, 3) := by decide +kernel
theorem dX4_settle_60 : decode cX4_settle 60 = .ok (.aload_n 0, 1) := by decide +kernel
theorem dX4_settle_61 : decode cX4_settle 61 = .ok (.getfield 18, 3) := by decide +kernel
theorem dX4_settle_64 : decode cX4_settle 64 = .ok (.iload_n 2, 1) := by decide +kernel
theorem dX4_settle_65 : decode cX4_settle 65 = .ok (.iaload, 1) := by decide +kernel
theorem dX4_settle_66 : decode cX4_settle 66 = .ok (.iconst 5, 1) := by decide +kernel
theorem dX4_settle_67 : decode cX4_settle 67 = .ok (.if_icmp .ne 20, 3) := by decide +kernel
theorem dX4_settle_70 : decode cX4_settle 70 = .ok (.aload_n 0, 1) := by decide +kernel
theorem dX4_settle_71 : decode cX4_settle 71 = .ok (.getfield 24, 3) := by decide +kernel
theorem dX4_settle_74 : decode cX4_settle 74 = .ok (.iconst 5, 1) := by decide +kernel
theorem dX4_settle_75 : decode cX4_settle 75 = .ok (.aload_n 0, 1) := by decide +kernel
theorem dX4_settle_76 : decode cX4_settle 76 = .ok (.getfield 21, 3) := by decide +kernel
theorem dX4_settle_79 : decode cX4_settle 79 = .ok (.iload_n 2, 1) := by decide +kernel
theorem dX4_settle_80 : decode cX4_settle 80 = .ok (.iaload, 1) := by decide +kernel
theorem dX4_settle_81 : decode cX4_settle 81 = .ok (.iadd, 1) := by decide +kernel
theorem dX4_settle_82 : decode cX4_settle 82 = .ok (.iconst 1, 1) := by decide +kernel
theorem dX4_settle_83 : decode cX4_settle 83 = .ok (.iastore, 1) := by decide +kernel
theorem dX4_settle_84 : decode cX4_settle 84 = .ok (.goto 20, 3) := by decide +kernel
theorem dX4_settle_87 : decode cX4_settle 87 = .ok (.aload_n 0, 1) := by decide +kernel
theorem dX4_settle_88 : decode cX4_settle 88 = .ok (.getfield 24, 3) := by decide +kernel
theorem dX4_settle_91 : decode cX4_settle 91 = .ok (.aload_n 0, 1) := by decide +kernel
theorem dX4_settle_92 : decode cX4_settle 92 = .ok (.getfield 18, 3) := by decide +kernel
theorem dX4_settle_95 : decode cX4_settle 95 = .ok (.iload_n 2, 1) := by decide +kernel
theorem dX4_settle_96 : decode cX4_settle 96 = .ok (.iaload, 1) := by decide +kernel
theorem dX4_settle_97 : decode cX4_settle 97 = .ok (.aload_n 0, 1) := by decide +kernel
theorem dX4_settle_98 : decode cX4_settle 98 = .ok (.getfield 21, 3) := by decide +kernel
theorem dX4_settle_101 : decode cX4_settle 101 = .ok (.iload_n 2, 1) := by decide +kernel
theorem dX4_settle_102 : decode cX4_settle 102 = .ok (.iaload, 1) := by decide +kernel
theorem dX4_settle_103 : decode cX4_settle 103 = .ok (.iastore, 1) := by decide +kernel
theorem dX4_settle_104 : decode cX4_settle 104 = .ok (.iinc 2 1, 3) := by decide +kernel
theorem dX4_settle_107 : decode cX4_settle 107 = .ok (.goto (-77), 3) := by decide +kernel
theorem dX4_settle_110 : decode cX4_settle 110 = .ok (.return_, 1) := by decide +kernel
theorem dX4_isAboveMost_0 : decode cX4_isAboveMost 0 = .ok (.aload_n 0, 1) := by decide +kernel
theorem dX4_isAboveMost_1 : decode cX4_isAboveMost 1 = .ok (.getfield 24, 3) := by decide +kernel
theorem dX4_isAboveMost_4 : decode cX4_isAboveMost 4 = .ok (.iconst 4, 1) := by decide +kernel
theorem dX4_isAboveMost_5 : decode cX4_isAboveMost 5 = .ok (.iaload, 1) := by decide +kernel
theorem dX4_isAboveMost_6 : decode cX4_isAboveMost 6 = .ok (.iconst (-1), 1) := by decide +kernel
theorem dX4_isAboveMost_7 : decode cX4_isAboveMost 7 = .ok (.if_icmp .eq 17, 3) := by decide +kernel
theorem dX4_isAboveMost_10 : decode cX4_isAboveMost 10 = .ok (.iload_n 1, 1) := by decide +kernel
theorem dX4_isAboveMost_11 : decode cX4_isAboveMost 11 = .ok (.aload_n 0, 1) := by decide +kernel
theorem dX4_isAboveMost_12 : decode cX4_isAboveMost 12 = .ok (.getfield 24, 3) := by decide +kernel
theorem dX4_isAboveMost_15 : decode cX4_isAboveMost 15 = .ok (.iconst 4, 1) := by decide +kernel
theorem dX4_isAboveMost_16 : decode cX4_isAboveMost 16 = .ok (.iaload, 1) := by decide +kernel
theorem dX4_isAboveMost_17 : decode cX4_isAboveMost 17 = .ok (.if_icmp .le 7, 3) := by decide +kernel
theorem dX4_isAboveMost_20 : decode cX4_isAboveMost 20 = .ok (.iconst 1, 1) := by decide +kernel
theorem dX4_isAboveMost_21 : decode cX4_isAboveMost 21 = .ok (.goto 4, 3) := by decide +kernel
theorem dX4_isAboveMost_24 : decode cX4_isAboveMost 24 = .ok (.iconst 0, 1) := by decide +kernel
theorem dX4_isAboveMost_25 : decode cX4_isAboveMost 25 = .ok (.ireturn, 1) := by decide +kernel
theorem dX4_isClosed_0 : decode cX4_isClosed 0 = .ok (.aload_n 0, 1) := by decide +kernel
theorem dX4_isClosed_1 : decode cX4_isClosed 1 = .ok (.getfield 24, 3) := by decide +kernel
theorem dX4_isClosed_4 : decode cX4_isClosed 4 = .ok (.iconst 5, 1) := by decide +kernel
theorem dX4_isClosed_5 : decode cX4_isClosed 5 = .ok (.iload_n 1, 1) := by decide +kernel
theorem dX4_isClosed_6 : decode cX4_isClosed 6 = .ok (.iadd, 1) := by decide +kernel
theorem dX4_isClosed_7 : decode cX4_isClosed 7 = .ok (.iaload, 1) := by decide +kernel
theorem dX4_isClosed_8 : decode cX4_isClosed 8 = .ok (.ifCond .eq 7, 3) := by decide +kernel
theorem dX4_isClosed_11 : decode cX4_isClosed 11 = .ok (.iconst 1, 1) := by decide +kernel
theorem dX4_isClosed_12 : decode cX4_isClosed 12 = .ok (.goto 4, 3) := by decide +kernel
theorem dX4_isClosed_15 : decode cX4_isClosed 15 = .ok (.iconst 0, 1) := by decide +kernel
theorem dX4_isClosed_16 : decode cX4_isClosed 16 = .ok (.ireturn, 1) := by decide +kernel
theorem dX5_init_0 : decode cX5_init 0 = .ok (.aload_n 0, 1) := by decide +kernel
theorem dX5_init_1 : decode cX5_init 1 = .ok (.invokespecial 3, 3) := by decide +kernel
theorem dX5_init_4 : decode cX5_init 4 = .ok (.aload_n 0, 1) := by decide +kernel
theorem dX5_init_5 : decode cX5_init 5 = .ok (.new 9, 3) := by decide +kernel
theorem dX5_init_8 : decode cX5_init 8 = .ok (.dup, 1) := by decide +kernel
theorem dX5_init_9 : decode cX5_init 9 = .ok (.invokespecial 11, 3) := by decide +kernel
theorem dX5_init_12 : decode cX5_init 12 = .ok (.putfield 12, 3) := by decide +kernel
theorem dX5_init_15 : decode cX5_init 15 = .ok (.aload_n 0, 1) := by decide +kernel
theorem dX5_init_16 : decode cX5_init 16 = .ok (.iconst (-1), 1) := by decide +kernel
theorem dX5_init_17 : decode cX5_init 17 = .ok (.putfield 18, 3) := by decide +kernel
theorem dX5_init_20 : decode cX5_init 20 = .ok (.aload_n 0, 1) := by decide +kernel
theorem dX5_init_21 : decode cX5_init 21 = .ok (.aload_n 1, 1) := by decide +kernel
theorem dX5_init_22 : decode cX5_init 22 = .ok (.putfield 22, 3) := by decide +kernel
theorem dX5_init_25 : decode cX5_init 25 = .ok (.return_, 1) := by decide +kernel
theorem dX5_read_0 : decode cX5_read 0 = .ok (.aload_n 0, 1) := by decide +kernel
theorem dX5_read_1 : decode cX5_read 1 = .ok (.iconst (-1), 1) := by decide +kernel
theorem dX5_read_2 : decode cX5_read 2 = .ok (.putfield 18, 3) := by decide +kernel
theorem dX5_read_5 : decode cX5_read 5 = .ok (.aload_n 0, 1) := by decide +kernel
theorem dX5_read_6 : decode cX5_read 6 = .ok (.getfield 12, 3) := by decide +kernel
theorem dX5_read_9 : decode cX5_read 9 = .ok (.invokevirtual 26, 3) := by decide +kernel
theorem dX5_read_12 : decode cX5_read 12 = .ok (.aload_n 0, 1) := by decide +kernel
theorem dX5_read_13 : decode cX5_read 13 = .ok (.iconst 0, 1) := by decide +kernel
theorem dX5_read_14 : decode cX5_read 14 = .ok (.putfield 29, 3) := by decide +kernel
theorem dX5_read_17 : decode cX5_read 17 = .ok (.aload_n 0, 1) := by decide +kernel
theorem dX5_read_18 : decode cX5_read 18 = .ok (.invokevirtual 32, 3) := by decide +kernel
theorem dX5_read_21 : decode cX5_read 21 = .ok (.aload_n 0, 1) := by decide +kernel
theorem dX5_read_22 : decode cX5_read 22 = .ok (.invokevirtual 35, 3) := by decide +kernel
theorem dX5_read_25 : decode cX5_read 25 = .ok (.ifCond .eq 26, 3) := by decide +kernel
theorem dX5_read_28 : decode cX5_read 28 = .ok (.aload_n 0, 1) := by decide +kernel
theorem dX5_read_29 : decode cX5_read 29 = .ok (.getfield 22, 3) := by decide +kernel
theorem dX5_read_32 : decode cX5_read 32 = .ok (.getfield 39, 3) := by decide +kernel
theorem dX5_read_35 : decode cX5_read 35 = .ok (.ifCond .gt 10, 3) := by decide +kernel
theorem dX5_read_38 : decode cX5_read 38 = .ok (.aload_n 0, 1) := by decide +kernel
theorem dX5_read_39 : decode cX5_read 39 = .ok (.invokevirtual 44, 3) := by decide +kernel
theorem dX5_read_42 : decode cX5_read 42 = .ok (.ifCond .eq 7, 3) := by decide +kernel
theorem dX5_read_45 : decode cX5_read 45 = .ok (.iconst 1, 1) := by decide +kernel
theorem dX5_read_46 : decode cX5_read 46 = .ok (.goto 4, 3) := by decide +kernel
theorem dX5_read_49 : decode cX5_read 49 = .ok (.iconst 0, 1) := by decide +kernel
theorem dX5_read_50 : decode cX5_read 50 = .ok (.ireturn, 1) := by decide +kernel
theorem dX5_read_51 : decode cX5_read 51 = .ok (.iconst 0, 1) := by decide +kernel
theorem dX5_read_52 : decode cX5_read 52 = .ok (.istore_n 1, 1) := by decide +kernel
theorem dX5_read_53 : decode cX5_read 53 = .ok (.iload_n 1, 1) := by decide +kernel
theorem dX5_read_54 : decode cX5_read 54 = .ok (.bipush 30, 2) := by decide +kernel
theorem dX5_read_56 : decode cX5_read 56 = .ok (.if_icmp .ge 55, 3) := by decide +kernel
theorem dX5_read_59 : decode cX5_read 59 = .ok (.aload_n 0, 1) := by decide +kernel
theorem dX5_read_60 : decode cX5_read 60 = .ok (.invokevirtual 47, 3) := by decide +kernel
theorem dX5_read_63 : decode cX5_read 63 = .ok (.ifCond .ne 8, 3) := by decide +kernel
theorem dX5_read_66 : decode cX5_read 66 = .ok (.aload_n 0, 1) := by decide +kernel
theorem dX5_read_67 : decode cX5_read 67 = .ok (.invokevirtual 44, 3) := by decide +kernel
theorem dX5_read_70 : decode cX5_read 70 = .ok (.ireturn, 1) := by decide +kernel
theorem dX5_read_71 : decode cX5_read 71 = .ok (.aload_n 0, 1) := by decide +kernel
theorem dX5_read_72 : decode cX5_read 72 = .ok (.invokevirtual 35, 3) := by decide +kernel
theorem dX5_read_75 : decode cX5_read 75 = .ok (.ifCond .eq 5, 3) := by decide +kernel
theorem dX5_read_78 : decode cX5_read 78 = .ok (.iconst 1, 1) := by decide +kernel
theorem dX5_read_79 : decode cX5_read 79 = .ok (.ireturn, 1) := by decide +kernel
theorem dX5_read_80 : decode cX5_read 80 = .ok (.aload_n 0, 1) := by decide +kernel
theorem dX5_read_81 : decode cX5_read 81 = .ok (.getfield 22, 3) := by decide +kernel
theorem dX5_read_84 : decode cX5_read 84 = .ok (.aload_n 0, 1) := by decide +kernel
theorem dX5_read_85 : decode cX5_read 85 = .ok (.getfield 50, 3) := by decide +kernel
theorem dX5_read_88 : decode cX5_read 88 = .ok (.invokevirtual 53, 3) := by decide +kernel
theorem dX5_read_91 : decode cX5_read 91 = .ok (.bipush 59, 2) := by decide +kernel
theorem dX5_read_93 : decode cX5_read 93 = .ok (.if_icmp .eq 8, 3) := by decide +kernel
theorem dX5_read_96 : decode cX5_read 96 = .ok (.aload_n 0, 1) := by decide +kernel
theorem dX5_read_97 : decode cX5_read 97 = .ok (.invokevirtual 44, 3) := by decide +kernel
theorem dX5_read_100 : decode cX5_read 100 = .ok (.ireturn, 1) := by decide +kernel
theorem dX5_read_101 : decode cX5_read 101 = .ok (.aload_n 0, 1) := by decide +kernel
theorem dX5_read_102 : decode cX5_read 102 = .ok (.invokevirtual 32, 3) := by decide +kernel
theorem dX5_read_105 : decode cX5_read 105 = .ok (.iinc 1 1, 3) := by decide +kernel
theorem dX5_read_108 : decode cX5_read 108 = .ok (.goto (-55), 3) := by decide +kernel
theorem dX5_read_111 : decode cX5_read 111 = .ok (.aload_n 0, 1) := by decide +kernel
theorem dX5_read_112 : decode cX5_read 112 = .ok (.invokevirtual 44, 3) := by decide +kernel
theorem dX5_read_115 : decode cX5_read 115 = .ok (.ireturn, 1) := by decide +kernel
theorem dX5_cannotGoOn_0 : decode cX5_cannotGoOn 0 = .ok (.aload_n 0, 1) := by decide +kernel
theorem dX5_cannotGoOn_1 : decode cX5_cannotGoOn 1 = .ok (.aload_n 0, 1) := by decide +kernel
theorem dX5_cannotGoOn_2 : decode cX5_cannotGoOn 2 = .ok (.getfield 50, 3) := by decide +kernel
theorem dX5_cannotGoOn_5 : decode cX5_cannotGoOn 5 = .ok (.putfield 18, 3) := by decide +kernel
theorem dX5_cannotGoOn_8 : decode cX5_cannotGoOn 8 = .ok (.iconst 0, 1) := by decide +kernel
theorem dX5_cannotGoOn_9 : decode cX5_cannotGoOn 9 = .ok (.ireturn, 1) := by decide +kernel
theorem dX5_readLaw_0 : decode cX5_readLaw 0 = .ok (.aload_n 0, 1) := by decide +kernel
theorem dX5_readLaw_1 : decode cX5_readLaw 1 = .ok (.ldc 57, 2) := by decide +kernel
theorem dX5_readLaw_3 : decode cX5_readLaw 3 = .ok (.invokevirtual 59, 3) := by decide +kernel
theorem dX5_readLaw_6 : decode cX5_readLaw 6 = .ok (.ifCond .ne 5, 3) := by decide +kernel
theorem dX5_readLaw_9 : decode cX5_readLaw 9 = .ok (.iconst 0, 1) := by decide +kernel
theorem dX5_readLaw_10 : decode cX5_readLaw 10 = .ok (.ireturn, 1) := by decide +kernel
theorem dX5_readLaw_11 : decode cX5_readLaw 11 = .ok (.aload_n 0, 1) := by decide +kernel
theorem dX5_readLaw_12 : decode cX5_readLaw 12 = .ok (.iconst 0, 1) := by decide +kernel
theorem dX5_readLaw_13 : decode cX5_readLaw 13 = .ok (.sipush 200, 3) := by decide +kernel
theorem dX5_readLaw_16 : decode cX5_readLaw 16 = .ok (.invokevirtual 63, 3) := by decide +kernel
theorem dX5_readLaw_19 : decode cX5_readLaw 19 = .ok (.istore_n 1, 1) := by decide +kernel
theorem dX5_readLaw_20 : decode cX5_readLaw 20 = .ok (.iload_n 1, 1) := by decide +kernel
theorem dX5_readLaw_21 : decode cX5_readLaw 21 = .ok (.iconst (-1), 1) := by decide +kernel
theorem dX5_readLaw_22 : decode cX5_readLaw 22 = .ok (.if_icmp .ne 5, 3) := by decide +kernel
theorem dX5_readLaw_25 : decode cX5_readLaw 25 = .ok (.iconst 0, 1) := by decide +kernel
theorem dX5_readLaw_26 : decode cX5_readLaw 26 = .ok (.ireturn, 1) := by decide +kernel
theorem dX5_readLaw_27 : decode cX5_readLaw 27 = .ok (.aload_n 0, 1) := by decide +kernel
theorem dX5_readLaw_28 : decode cX5_readLaw 28 = .ok (.ldc 67, 2) := by decide +kernel
theorem dX5_readLaw_30 : decode cX5_readLaw 30 = .ok (.invokevirtual 59, 3) := by decide +kernel
theorem dX5_readLaw_33 : decode cX5_readLaw 33 = .ok (.ifCond .eq 14, 3) := by decide +kernel
theorem dX5_readLaw_36 : decode cX5_readLaw 36 = .ok (.aload_n 0, 1) := by decide +kernel
theorem dX5_readLaw_37 : decode cX5_readLaw 37 = .ok (.iload_n 1, 1) := by decide +kernel
theorem dX5_readLaw_38 : decode cX5_readLaw 38 = .ok (.sipush 200, 3) := by decide +kernel
theorem dX5_readLaw_41 : decode cX5_readLaw 41 = .ok (.invokevirtual 63, 3) := by decide +kernel
theorem dX5_readLaw_44 : decode cX5_readLaw 44 = .ok (.goto 6, 3) := by decide +kernel
theorem dX5_readLaw_47 : decode cX5_readLaw 47 = .ok (.sipush 200, 3) := by decide +kernel
theorem dX5_readLaw_50 : decode cX5_readLaw 50 = .ok (.istore_n 2, 1) := by decide +kernel
theorem dX5_readLaw_51 : decode cX5_readLaw 51 = .ok (.iload_n 2, 1) := by decide +kernel
theorem dX5_readLaw_52 : decode cX5_readLaw 52 = .ok (.iconst (-1), 1) := by decide +kernel
theorem dX5_readLaw_53 : decode cX5_readLaw 53 = .ok (.if_icmp .ne 5, 3) := by decide +kernel
theorem dX5_readLaw_56 : decode cX5_readLaw 56 = .ok (.iconst 0, 1) := by decide +kernel
theorem dX5_readLaw_57 : decode cX5_readLaw 57 = .ok (.ireturn, 1) := by decide +kernel
theorem dX5_readLaw_58 : decode cX5_readLaw 58 = .ok (.aload_n 0, 1) := by decide +kernel
theorem dX5_readLaw_59 : decode cX5_readLaw 59 = .ok (.invokevirtual 69, 3) := by decide +kernel
theorem dX5_readLaw_62 : decode cX5_readLaw 62 = .ok (.istore_n 3, 1) := by decide +kernel
theorem dX5_readLaw_63 : decode cX5_readLaw 63 = .ok (.iload_n 3, 1) := by decide +kernel
theorem dX5_readLaw_64 : decode cX5_readLaw 64 = .ok (.iconst (-1), 1) := by decide +kernel
theorem dX5_readLaw_65 : decode cX5_readLaw 65 = .ok (.if_icmp .ne 5, 3) := by decide +kernel
theorem dX5_readLaw_68 : decode cX5_readLaw 68 = .ok (.iconst 0, 1) := by decide +kernel
theorem dX5_readLaw_69 : decode cX5_readLaw 69 = .ok (.ireturn, 1) := by decide +kernel
theorem dX5_readLaw_70 : decode cX5_readLaw 70 = .ok (.iload_n 3, 1) := by decide +kernel
theorem dX5_readLaw_71 : decode cX5_readLaw 71 = .ok (.ifCond .ne 10, 3) := by decide +kernel
theorem dX5_readLaw_74 : decode cX5_readLaw 74 = .ok (.aload_n 0, 1) := by decide +kernel
theorem dX5_readLaw_75 : decode cX5_readLaw 75 = .ok (.invokevirtual 73, 3) := by decide +kernel
theorem dX5_readLaw_78 : decode cX5_readLaw 78 = .ok (.goto 12, 3) := by decide +kernel
theorem dX5_readLaw_81 : decode cX5_readLaw 81 = .ok (.aload_n 0, 1) := by decide +kernel
theorem dX5_readLaw_82 : decode cX5_readLaw 82 = .ok (.iconst 0, 1) := by decide +kernel
theorem dX5_readLaw_83 : decode cX5_readLaw 83 = .ok (.iload_n 3, 1) := by decide +kernel
theorem dX5_readLaw_84 : decode cX5_readLaw 84 = .ok (.invokestatic 76, 3) := by decide +kernel
theorem dX5_readLaw_87 : decode cX5_readLaw 87 = .ok (.invokevirtual 63, 3) := by decide +kernel
theorem dX5_readLaw_90 : decode cX5_readLaw 90 = .ok (.istore 4, 2) := by decide +kernel
theorem dX5_readLaw_92 : decode cX5_readLaw 92 = .ok (.iload 4, 2) := by decide +kernel
theorem dX5_readLaw_94 : decode cX5_readLaw 94 = .ok (.iconst (-1), 1) := by decide +kernel
theorem dX5_readLaw_95 : decode cX5_readLaw 95 = .ok (.if_icmp .ne 5, 3) := by decide +kernel
theorem dX5_readLaw_98 : decode cX5_readLaw 98 = .ok (.iconst 0, 1) := by decide +kernel
theorem dX5_readLaw_99 : decode cX5_readLaw 99 = .ok (.ireturn, 1) := by decide +kernel
theorem dX5_readLaw_100 : decode cX5_readLaw 100 = .ok (.aload_n 0, 1) := by decide +kernel
theorem dX5_readLaw_101 : decode cX5_readLaw 101 = .ok (.getfield 12, 3) := by decide +kernel
theorem dX5_readLaw_104 : decode cX5_readLaw 104 = .ok (.iload_n 1, 1) := by decide +kernel
theorem dX5_readLaw_105 : decode cX5_readLaw 105 = .ok (.iload_n 2, 1) := by decide +kernel
theorem dX5_readLaw_106 : decode cX5_readLaw 106 = .ok (.iload_n 3, 1) := by decide +kernel
theorem dX5_readLaw_107 : decode cX5_readLaw 107 = .ok (.iload 4, 2) := by decide +kernel
theorem dX5_readLaw_109 : decode cX5_readLaw 109 = .ok (.invokevirtual 79, 3) := by decide +kernel
theorem dX5_readLaw_112 : decode cX5_readLaw 112 = .ok (.iconst 1, 1) := by decide +kernel
theorem dX5_readLaw_113 : decode cX5_readLaw 113 = .ok (.ireturn, 1) := by decide +kernel
theorem dX5_takeKind_0 : decode cX5_takeKind 0 = .ok (.aload_n 0, 1) := by decide +kernel
theorem dX5_takeKind_1 : decode cX5_takeKind 1 = .ok (.ldc 83, 2) := by decide +kernel
theorem dX5_takeKind_3 : decode cX5_takeKind 3 = .ok (.invokevirtual 59, 3) := by decide +kernel
theorem dX5_takeKind_6 : decode cX5_takeKind 6 = .ok (.ifCond .eq 5, 3) := by decide +kernel
theorem dX5_takeKind_9 : decode cX5_takeKind 9 = .ok (.iconst 0, 1) := by decide +kernel
theorem dX5_takeKind_10 : decode cX5_takeKind 10 = .ok (.ireturn, 1) := by decide +kernel
theorem dX5_takeKind_11 : decode cX5_takeKind 11 = .ok (.aload_n 0, 1) := by decide +kernel
theorem dX5_takeKind_12 : decode cX5_takeKind 12 = .ok (.ldc 85, 2) := by decide +kernel
theorem dX5_takeKind_14 : decode cX5_takeKind 14 = .ok (.invokevirtual 59, 3) := by decide +kernel
theorem dX5_takeKind_17 : decode cX5_takeKind 17 = .ok (.ifCond .eq 5, 3) := by decide +kernel
theorem dX5_takeKind_20 : decode cX5_takeKind 20 = .ok (.iconst 1, 1) := by decide +kernel
theorem dX5_takeKind_21 : decode cX5_takeKind 21 = .ok (.ireturn, 1) := by decide +kernel
theorem dX5_takeKind_22 : decode cX5_takeKind 22 = .ok (.aload_n 0, 1) := by decide +kernel
theorem dX5_takeKind_23 : decode cX5_takeKind 23 = .ok (.ldc 87, 2) := by decide +kernel
theorem dX5_takeKind_25 : decode cX5_takeKind 25 = .ok (.invokevirtual 59, 3) := by decide +kernel
theorem dX5_takeKind_28 : decode cX5_takeKind 28 = .ok (.ifCond .eq 5, 3) := by decide +kernel
theorem dX5_takeKind_31 : decode cX5_takeKind 31 = .ok (.iconst 2, 1) := by decide +kernel
theorem dX5_takeKind_32 : decode cX5_takeKind 32 = .ok (.ireturn, 1) := by decide +kernel
theorem dX5_takeKind_33 : decode cX5_takeKind 33 = .ok (.aload_n 0, 1) := by decide +kernel
theorem dX5_takeKind_34 : decode cX5_takeKind 34 = .ok (.ldc 89, 2) := by decide +kernel
theorem dX5_takeKind_36 : decode cX5_takeKind 36 = .ok (.invokevirtual 59, 3) := by decide +kernel
theorem dX5_takeKind_39 : decode cX5_takeKind 39 = .ok (.ifCond .eq 5, 3) := by decide +kernel
theorem dX5_takeKind_42 : decode cX5_takeKind 42 = .ok (.iconst 3, 1) := by decide +kernel
theorem dX5_takeKind_43 : decode cX5_takeKind 43 = .ok (.ireturn, 1) := by decide +kernel
theorem dX5_takeKind_44 : decode cX5_takeKind 44 = .ok (.aload_n 0, 1) := by decide +kernel
theorem dX5_takeKind_45 : decode cX5_takeKind 45 = .ok (.ldc 91, 2) := by decide +kernel
theorem dX5_takeKind_47 : decode cX5_takeKind 47 = .ok (.invokevirtual 59, 3) := by decide +kernel
theorem dX5_takeKind_50 : decode cX5_takeKind 50 = .ok (.ifCond .eq 5, 3) := by decide +kernel
theorem dX5_takeKind_53 : decode cX5_takeKind 53 = .ok (.iconst 4, 1) := by decide +kernel
theorem dX5_takeKind_54 : decode cX5_takeKind 54 = .ok (.ireturn, 1) := by decide +kernel
theorem dX5_takeKind_55 : decode cX5_takeKind 55 = .ok (.aload_n 0, 1) := by decide +kernel
theorem dX5_takeKind_56 : decode cX5_takeKind 56 = .ok (.ldc 93, 2) := by decide +kernel
theorem dX5_takeKind_58 : decode cX5_takeKind 58 = .ok (.invokevirtual 59, 3) := by decide +kernel
theorem dX5_takeKind_61 : decode cX5_takeKind 61 = .ok (.ifCond .eq 7, 3) := by decide +kernel
theorem dX5_takeKind_64 : decode cX5_takeKind 64 = .ok (.iconst 5, 1) := by decide +kernel
theorem dX5_takeKind_65 : decode cX5_takeKind 65 = .ok (.goto 4, 3) := by decide +kernel
theorem dX5_takeKind_68 : decode cX5_takeKind 68 = .ok (.iconst (-1), 1) := by decide +kernel
theorem dX5_takeKind_69 : decode cX5_takeKind 69 = .ok (.ireturn, 1) := by decide +kernel
theorem dX5_takeRankName_0 : decode cX5_takeRankName 0 = .ok (.aload_n 0, 1) := by decide +kernel
theorem dX5_takeRankName_1 : decode cX5_takeRankName 1 = .ok (.ldc 95, 2) := by decide +kernel
theorem dX5_takeRankName_3 : decode cX5_takeRankName 3 = .ok (.invokevirtual 59, 3) := by decide +kernel
theorem dX5_takeRankName_6 : decode cX5_takeRankName 6 = .ok (.ifCond .eq 5, 3) := by decide +kernel
theorem dX5_takeRankName_9 : decode cX5_takeRankName 9 = .ok (.iconst 0, 1) := by decide +kernel
theorem dX5_takeRankName_10 : decode cX5_takeRankName 10 = .ok (.ireturn, 1) := by decide +kernel
theorem dX5_takeRankName_11 : decode cX5_takeRankName 11 = .ok (.aload_n 0, 1) := by decide +kernel
theorem dX5_takeRankName_12 : decode cX5_takeRankName 12 = .ok (.ldc 97, 2) := by decide +kernel
theorem dX5_takeRankName_14 : decode cX5_takeRankName 14 = .ok (.invokevirtual 59, 3) := by decide +kernel
theorem dX5_takeRankName_17 : decode cX5_takeRankName 17 = .ok (.ifCond .eq 5, 3) := by decide +kernel
theorem dX5_takeRankName_20 : decode cX5_takeRankName 20 = .ok (.iconst 1, 1) := by decide +kernel
theorem dX5_takeRankName_21 : decode cX5_takeRankName 21 = .ok (.ireturn, 1) := by decide +kernel
theorem dX5_takeRankName_22 : decode cX5_takeRankName 22 = .ok (.aload_n 0, 1) := by decide +kernel
theorem dX5_takeRankName_23 : decode cX5_takeRankName 23 = .ok (.ldc 99, 2) := by decide +kernel
theorem dX5_takeRankName_25 : decode cX5_takeRankName 25 = .ok (.invokevirtual 59, 3) := by decide +kernel
theorem dX5_takeRankName_28 : decode cX5_takeRankName 28 = .ok (.ifCond .eq 7, 3) := by decide +kernel
theorem dX5_takeRankName_31 : decode cX5_takeRankName 31 = .ok (.iconst 2, 1) := by decide +kernel
theorem dX5_takeRankName_32 : decode cX5_takeRankName 32 = .ok (.goto 4, 3) := by decide +kernel
theorem dX5_takeRankName_35 : decode cX5_takeRankName 35 = .ok (.iconst (-1), 1) := by decide +kernel
theorem dX5_takeRankName_36 : decode cX5_takeRankName 36 = .ok (.ireturn, 1) := by decide +kernel
theorem dX5_takeWord_0 : decode cX5_takeWord 0 = .ok (.aload_n 0, 1) := by decide +kernel
theorem dX5_takeWord_1 : decode cX5_takeWord 1 = .ok (.getfield 29, 3) := by decide +kernel
theorem dX5_takeWord_4 : decode cX5_takeWord 4 = .ok (.aload_n 0, 1) := by decide +kernel
theorem dX5_takeWord_5 : decode cX5_takeWord 5 = .ok (.getfield 50, 3) := by decide +kernel
theorem dX5_takeWord_8 : decode cX5_takeWord 8 = .ok (.isub, 1) := by decide +kernel
theorem dX5_takeWord_9 : decode cX5_takeWord 9 = .ok (.aload_n 1, 1) := by decide +kernel
theorem dX5_takeWord_10 : decode cX5_takeWord 10 = .ok (.invokevirtual 101, 3) := by decide +kernel
theorem dX5_takeWord_13 : decode cX5_takeWord 13 = .ok (.if_icmp .eq 5, 3) := by decide +kernel
theorem dX5_takeWord_16 : decode cX5_takeWord 16 = .ok (.iconst 0, 1) := by decide +kernel
theorem dX5_takeWord_17 : decode cX5_takeWord 17 = .ok (.ireturn, 1) := by decide +kernel
theorem dX5_takeWord_18 : decode cX5_takeWord 18 = .ok (.iconst 0, 1) := by decide +kernel
theorem dX5_takeWord_19 : decode cX5_takeWord 19 = .ok (.istore_n 2, 1) := by decide +kernel
theorem dX5_takeWord_20 : decode cX5_takeWord 20 = .ok (.iload_n 2, 1) := by decide +kernel
theorem dX5_takeWord_21 : decode cX5_takeWord 21 = .ok (.aload_n 1, 1) := by decide +kernel
theorem dX5_takeWord_22 : decode cX5_takeWord 22 = .ok (.invokevirtual 101, 3) := by decide +kernel
theorem dX5_takeWord_25 : decode cX5_takeWord 25 = .ok (.if_icmp .ge 32, 3) := by decide +kernel
theorem dX5_takeWord_28 : decode cX5_takeWord 28 = .ok (.aload_n 0, 1) := by decide +kernel
theorem dX5_takeWord_29 : decode cX5_takeWord 29 = .ok (.getfield 22, 3) := by decide +kernel
theorem dX5_takeWord_32 : decode cX5_takeWord 32 = .ok (.aload_n 0, 1) := by decide +kernel
theorem dX5_takeWord_33 : decode cX5_takeWord 33 = .ok (.getfield 50, 3) := by decide +kernel
theorem dX5_takeWord_36 : decode cX5_takeWord 36 = .ok (.iload_n 2, 1) := by decide +kernel
theorem dX5_takeWord_37 : decode cX5_takeWord 37 = .ok (.iadd, 1) := by decide +kernel
theorem dX5_takeWord_38 : decode cX5_takeWord 38 = .ok (.invokevirtual 53, 3) := by decide +kernel
theorem dX5_takeWord_41 : decode cX5_takeWord 41 = .ok (.aload_n 1, 1) := by decide +kernel
theorem dX5_takeWord_42 : decode cX5_takeWord 42 = .ok (.iload_n 2, 1) := by decide +kernel
theorem dX5_takeWord_43 : decode cX5_takeWord 43 = .ok (.invokevirtual 106, 3) := by decide +kernel
theorem dX5_takeWord_46 : decode cX5_takeWord 46 = .ok (.if_icmp .eq 5, 3) := by decide +kernel
theorem dX5_takeWord_49 : decode cX5_takeWord 49 = .ok (.iconst 0, 1) := by decide +kernel
theorem dX5_takeWord_50 : decode cX5_takeWord 50 = .ok (.ireturn, 1) := by decide +kernel
theorem dX5_takeWord_51 : decode cX5_takeWord 51 = .ok (.iinc 2 1, 3) := by decide +kernel
theorem dX5_takeWord_54 : decode cX5_takeWord 54 = .ok (.goto (-34), 3) := by decide +kernel
theorem dX5_takeWord_57 : decode cX5_takeWord 57 = .ok (.aload_n 0, 1) := by decide +kernel
theorem dX5_takeWord_58 : decode cX5_takeWord 58 = .ok (.invokevirtual 32, 3) := by decide +kernel
theorem dX5_takeWord_61 : decode cX5_takeWord 61 = .ok (.iconst 1, 1) := by decide +kernel
theorem dX5_takeWord_62 : decode cX5_takeWord 62 = .ok (.ireturn, 1) := by decide +kernel
theorem dX5_takeNumber_0 : decode cX5_takeNumber 0 = .ok (.aload_n 0, 1) := by decide +kernel
theorem dX5_takeNumber_1 : decode cX5_takeNumber 1 = .ok (.getfield 22, 3) := by decide +kernel
theorem dX5_takeNumber_4 : decode cX5_takeNumber 4 = .ok (.aload_n 0, 1) := by decide +kernel
theorem dX5_takeNumber_5 : decode cX5_takeNumber 5 = .ok (.getfield 50, 3) := by decide +kernel
theorem dX5_takeNumber_8 : decode cX5_takeNumber 8 = .ok (.invokevirtual 53, 3) := by decide +kernel
theorem dX5_takeNumber_11 : decode cX5_takeNumber 11 = .ok (.invokestatic 110, 3) := by decide +kernel
theorem dX5_takeNumber_14 : decode cX5_takeNumber 14 = .ok (.iconst 1, 1) := by decide +kernel
theorem dX5_takeNumber_15 : decode cX5_takeNumber 15 = .ok (.if_icmp .eq 5, 3) := by decide +kernel
theorem dX5_takeNumber_18 : decode cX5_takeNumber 18 = .ok (.iconst (-1), 1) := by decide +kernel
theorem dX5_takeNumber_19 : decode cX5_takeNumber 19 = .ok (.ireturn, 1) := by decide +kernel
theorem dX5_takeNumber_20 : decode cX5_takeNumber 20 = .ok (.iconst 0, 1) := by decide +kernel
theorem dX5_takeNumber_21 : decode cX5_takeNumber 21 = .ok (.istore_n 3, 1) := by decide +kernel
theorem dX5_takeNumber_22 : decode cX5_takeNumber 22 = .ok (.aload_n 0, 1) := by decide +kernel
theorem dX5_takeNumber_23 : decode cX5_takeNumber 23 = .ok (.getfield 50, 3) := by decide +kernel
theorem dX5_takeNumber_26 : decode cX5_takeNumber 26 = .ok (.istore 4, 2) := by decide +kernel
theorem dX5_takeNumber_28 : decode cX5_takeNumber 28 = .ok (.iload 4, 2) := by decide +kernel
theorem dX5_takeNumber_30 : decode cX5_takeNumber 30 = .ok (.aload_n 0, 1) := by decide +kernel
theorem dX5_takeNumber_31 : decode cX5_takeNumber 31 = .ok (.getfield 29, 3) := by decide +kernel
theorem dX5_takeNumber_34 : decode cX5_takeNumber 34 = .ok (.if_icmp .ge 32, 3) := by decide +kernel
theorem dX5_takeNumber_37 : decode cX5_takeNumber 37 = .ok (.iload_n 3, 1) := by decide +kernel
theorem dX5_takeNumber_38 : decode cX5_takeNumber 38 = .ok (.bipush 10, 2) := by decide +kernel
theorem dX5_takeNumber_40 : decode cX5_takeNumber 40 = .ok (.imul, 1) := by decide +kernel
theorem dX5_takeNumber_41 : decode cX5_takeNumber 41 = .ok (.aload_n 0, 1) := by decide +kernel
theorem dX5_takeNumber_42 : decode cX5_takeNumber 42 = .ok (.getfield 22, 3) := by decide +kernel
theorem dX5_takeNumber_45 : decode cX5_takeNumber 45 = .ok (.iload 4, 2) := by decide +kernel
theorem dX5_takeNumber_47 : decode cX5_takeNumber 47 = .ok (.invokevirtual 53, 3) := by decide +kernel
theorem dX5_takeNumber_50 : decode cX5_takeNumber 50 = .ok (.iadd, 1) := by decide +kernel
theorem dX5_takeNumber_51 : decode cX5_takeNumber 51 = .ok (.bipush 48, 2) := by decide +kernel
theorem dX5_takeNumber_53 : decode cX5_takeNumber 53 = .ok (.isub, 1) := by decide +kernel
theorem dX5_takeNumber_54 : decode cX5_takeNumber 54 = .ok (.ldc 113, 2) := by decide +kernel
theorem dX5_takeNumber_56 : decode cX5_takeNumber 56 = .ok (.invokestatic 114, 3) := by decide +kernel
theorem dX5_takeNumber_59 : decode cX5_takeNumber 59 = .ok (.istore_n 3, 1) := by decide +kernel
theorem dX5_takeNumber_60 : decode cX5_takeNumber 60 = .ok (.iinc 4 1, 3) := by decide +kernel
theorem dX5_takeNumber_63 : decode cX5_takeNumber 63 = .ok (.goto (-35), 3) := by decide +kernel
theorem dX5_takeNumber_66 : decode cX5_takeNumber 66 = .ok (.iload_n 3, 1) := by decide +kernel
theorem dX5_takeNumber_67 : decode cX5_takeNumber 67 = .ok (.iload_n 1, 1) := by decide +kernel
theorem dX5_takeNumber_68 : decode cX5_takeNumber 68 = .ok (.iload_n 2, 1) := by decide +kernel
theorem dX5_takeNumber_69 : decode cX5_takeNumber 69 = .ok (.invokestatic 119, 3) := by decide +kernel
theorem dX5_takeNumber_72 : decode cX5_takeNumber 72 = .ok (.ifCond .ne 5, 3) := by decide +kernel
theorem dX5_takeNumber_75 : decode cX5_takeNumber 75 = .ok (.iconst (-1), 1) := by decide +kernel
theorem dX5_takeNumber_76 : decode cX5_takeNumber 76 = .ok (.ireturn, 1) := by decide +kernel
theorem dX5_takeNumber_77 : decode cX5_takeNumber 77 = .ok (.aload_n 0, 1) := by decide +kernel
theorem dX5_takeNumber_78 : decode cX5_takeNumber 78 = .ok (.invokevirtual 32, 3) := by decide +kernel
theorem dX5_takeNumber_81 : decode cX5_takeNumber 81 = .ok (.iload_n 3, 1) := by decide +kernel
theorem dX5_takeNumber_82 : decode cX5_takeNumber 82 = .ok (.ireturn, 1) := by decide +kernel
theorem dX5_isAtEnd_0 : decode cX5_isAtEnd 0 = .ok (.aload_n 0, 1) := by decide +kernel
theorem dX5_isAtEnd_1 : decode cX5_isAtEnd 1 = .ok (.getfield 50, 3) := by decide +kernel
theorem dX5_isAtEnd_4 : decode cX5_isAtEnd 4 = .ok (.aload_n 0, 1) := by decide +kernel
theorem dX5_isAtEnd_5 : decode cX5_isAtEnd 5 = .ok (.getfield 22, 3) := by decide +kernel
theorem dX5_isAtEnd_8 : decode cX5_isAtEnd 8 = .ok (.getfield 39, 3) := by decide +kernel
theorem dX5_isAtEnd_11 : decode cX5_isAtEnd 11 = .ok (.if_icmp .lt 7, 3) := by decide +kernel
theorem dX5_isAtEnd_14 : decode cX5_isAtEnd 14 = .ok (.iconst 1, 1) := by decide +kernel
theorem dX5_isAtEnd_15 : decode cX5_isAtEnd 15 = .ok (.goto 4, 3) := by decide +kernel
theorem dX5_isAtEnd_18 : decode cX5_isAtEnd 18 = .ok (.iconst 0, 1) := by decide +kernel
theorem dX5_isAtEnd_19 : decode cX5_isAtEnd 19 = .ok (.ireturn, 1) := by decide +kernel
theorem dX5_step_0 : decode cX5_step 0 = .ok (.aload_n 0, 1) := by decide +kernel
theorem dX5_step_1 : decode cX5_step 1 = .ok (.getfield 29, 3) := by decide +kernel
theorem dX5_step_4 : decode cX5_step 4 = .ok (.istore_n 1, 1) := by decide +kernel
theorem dX5_step_5 : decode cX5_step 5 = .ok (.iload_n 1, 1) := by decide +kernel
theorem dX5_step_6 : decode cX5_step 6 = .ok (.aload_n 0, 1) := by decide +kernel
theorem dX5_step_7 : decode cX5_step 7 = .ok (.getfield 22, 3) := by decide +kernel
theorem dX5_step_10 : decode cX5_step 10 = .ok (.getfield 39, 3) := by decide +kernel
theorem dX5_step_13 : decode cX5_step 13 = .ok (.if_icmp .ge 22, 3) := by decide +kernel
theorem dX5_step_16 : decode cX5_step 16 = .ok (.aload_n 0, 1) := by decide +kernel
theorem dX5_step_17 : decode cX5_step 17 = .ok (.getfield 22, 3) := by decide +kernel
theorem dX5_step_20 : decode cX5_step 20 = .ok (.iload_n 1, 1) := by decide +kernel
theorem dX5_step_21 : decode cX5_step 21 = .ok (.invokevirtual 53, 3) := by decide +kernel
theorem dX5_step_24 : decode cX5_step 24 = .ok (.bipush 32, 2) := by decide +kernel
theorem dX5_step_26 : decode cX5_step 26 = .ok (.if_icmp .ne 9, 3) := by decide +kernel
theorem dX5_step_29 : decode cX5_step 29 = .ok (.iinc 1 1, 3) := by decide +kernel
theorem dX5_step_32 : decode cX5_step 32 = .ok (.goto (-27), 3) := by decide +kernel
theorem dX5_step_35 : decode cX5_step 35 = .ok (.aload_n 0, 1) := by decide +kernel
theorem dX5_step_36 : decode cX5_step 36 = .ok (.iload_n 1, 1) := by decide +kernel
theorem dX5_step_37 : decode cX5_step 37 = .ok (.putfield 50, 3) := by decide +kernel
theorem dX5_step_40 : decode cX5_step 40 = .ok (.aload_n 0, 1) := by decide +kernel
theorem dX5_step_41 : decode cX5_step 41 = .ok (.getfield 22, 3) := by decide +kernel
theorem dX5_step_44 : decode cX5_step 44 = .ok (.iload_n 1, 1) := by decide +kernel
theorem dX5_step_45 : decode cX5_step 45 = .ok (.invokevirtual 53, 3) := by decide +kernel
theorem dX5_step_48 : decode cX5_step 48 = .ok (.invokestatic 110, 3) := by decide +kernel
theorem dX5_step_51 : decode cX5_step 51 = .ok (.istore_n 2, 1) := by decide +kernel
theorem dX5_step_52 : decode cX5_step 52 = .ok (.iload_n 1, 1) := by decide +kernel
theorem dX5_step_53 : decode cX5_step 53 = .ok (.aload_n 0, 1) := by decide +kernel
theorem dX5_step_54 : decode cX5_step 54 = .ok (.getfield 22, 3) := by decide +kernel
theorem dX5_step_57 : decode cX5_step 57 = .ok (.getfield 39, 3) := by decide +kernel
theorem dX5_step_60 : decode cX5_step 60 = .ok (.if_icmp .ge 6, 3) := by decide +kernel
theorem dX5_step_63 : decode cX5_step 63 = .ok (.iinc 1 1, 3) := by decide +kernel
theorem dX5_step_66 : decode cX5_step 66 = .ok (.iload_n 2, 1) := by decide +kernel
theorem dX5_step_67 : decode cX5_step 67 = .ok (.iconst 2, 1) := by decide +kernel
theorem dX5_step_68 : decode cX5_step 68 = .ok (.if_icmp .eq 35, 3) := by decide +kernel
theorem dX5_step_71 : decode cX5_step 71 = .ok (.iload_n 1, 1) := by decide +kernel
theorem dX5_step_72 : decode cX5_step 72 = .ok (.aload_n 0, 1) := by decide +kernel
theorem dX5_step_73 : decode cX5_step 73 = .ok (.getfield 22, 3) := by decide +kernel
theorem dX5_step_76 : decode cX5_step 76 = .ok (.getfield 39, 3) := by decide +kernel
theorem dX5_step_79 : decode cX5_step 79 = .ok (.if_icmp .ge 24, 3) := by decide +kernel
theorem dX5_step_82 : decode cX5_step 82 = .ok (.aload_n 0, 1) := by decide +kernel
theorem dX5_step_83 : decode cX5_step 83 = .ok (.getfield 22, 3) := by decide +kernel
theorem dX5_step_86 : decode cX5_step 86 = .ok (.iload_n 1, 1) := by decide +kernel
theorem dX5_step_87 : decode cX5_step 87 = .ok (.invokevirtual 53, 3) := by decide +kernel
theorem dX5_step_90 : decode cX5_step 90 = .ok (.invokestatic 110, 3) := by decide +kernel
theorem dX5_step_93 : decode cX5_step 93 = .ok (.iload_n 2, 1) := by decide +kernel
theorem dX5_step_94 : decode cX5_step 94 = .ok (.if_icmp .ne 9, 3) := by decide +kernel
theorem dX5_step_97 : decode cX5_step 97 = .ok (.iinc 1 1, 3) := by decide +kernel
theorem dX5_step_100 : decode cX5_step 100 = .ok (.goto (-34), 3) := by decide +kernel
theorem dX5_step_103 : decode cX5_step 103 = .ok (.aload_n 0, 1) := by decide +kernel
theorem dX5_step_104 : decode cX5_step 104 = .ok (.iload_n 1, 1) := by decide +kernel
theorem dX5_step_105 : decode cX5_step 105 = .ok (.putfield 29, 3) := by decide +kernel
theorem dX5_step_108 : decode cX5_step 108 = .ok (.return_, 1) := by decide +kernel
theorem dX5_mostOf_0 : decode cX5_mostOf 0 = .ok (.iload_n 0, 1) := by decide +kernel
theorem dX5_mostOf_1 : decode cX5_mostOf 1 = .ok (.iconst 5, 1) := by decide +kernel
theorem dX5_mostOf_2 : decode cX5_mostOf 2 = .ok (.if_icmp .ne 7, 3) := by decide +kernel
theorem dX5_mostOf_5 : decode cX5_mostOf 5 = .ok (.iconst 2, 1) := by decide +kernel
theorem dX5_mostOf_6 : decode cX5_mostOf 6 = .ok (.goto 5, 3) := by decide +kernel
theorem dX5_mostOf_9 : decode cX5_mostOf 9 = .ok (.ldc 123, 2) := by decide +kernel
theorem dX5_mostOf_11 : decode cX5_mostOf 11 = .ok (.ireturn, 1) := by decide +kernel
theorem dX5_byteKind_0 : decode cX5_byteKind 0 = .ok (.iload_n 0, 1) := by decide +kernel
theorem dX5_byteKind_1 : decode cX5_byteKind 1 = .ok (.bipush 97, 2) := by decide +kernel
theorem dX5_byteKind_3 : decode cX5_byteKind 3 = .ok (.if_icmp .lt 11, 3) := by decide +kernel
theorem dX5_byteKind_6 : decode cX5_byteKind 6 = .ok (.iload_n 0, 1) := by decide +kernel
theorem dX5_byteKind_7 : decode cX5_byteKind 7 = .ok (.bipush 122, 2) := by decide +kernel
theorem dX5_byteKind_9 : decode cX5_byteKind 9 = .ok (.if_icmp .gt 5, 3) := by decide +kernel
theorem dX5_byteKind_12 : decode cX5_byteKind 12 = .ok (.iconst 0, 1) := by decide +kernel
theorem dX5_byteKind_13 : decode cX5_byteKind 13 = .ok (.ireturn, 1) := by decide +kernel
theorem dX5_byteKind_14 : decode cX5_byteKind 14 = .ok (.iload_n 0, 1) := by decide +kernel
theorem dX5_byteKind_15 : decode cX5_byteKind 15 = .ok (.bipush 48, 2) := by decide +kernel
theorem dX5_byteKind_17 : decode cX5_byteKind 17 = .ok (.if_icmp .lt 13, 3) := by decide +kernel
theorem dX5_byteKind_20 : decode cX5_byteKind 20 = .ok (.iload_n 0, 1) := by decide +kernel
theorem dX5_byteKind_21 : decode cX5_byteKind 21 = .ok (.bipush 57, 2) := by decide +kernel
theorem dX5_byteKind_23 : decode cX5_byteKind 23 = .ok (.if_icmp .gt 7, 3) := by decide +kernel
theorem dX5_byteKind_26 : decode cX5_byteKind 26 = .ok (.iconst 1, 1) := by decide +kernel
theorem dX5_byteKind_27 : decode cX5_byteKind 27 = .ok (.goto 4, 3) := by decide +kernel
theorem dX5_byteKind_30 : decode cX5_byteKind 30 = .ok (.iconst 2, 1) := by decide +kernel
theorem dX5_byteKind_31 : decode cX5_byteKind 31 = .ok (.ireturn, 1) := by decide +kernel
theorem dX6_init_0 : decode cX6_init 0 = .ok (.aload_n 0, 1) := by decide +kernel
theorem dX6_init_1 : decode cX6_init 1 = .ok (.invokespecial 3, 3) := by decide +kernel
theorem dX6_init_4 : decode cX6_init 4 = .ok (.aload_n 0, 1) := by decide +kernel
theorem dX6_init_5 : decode cX6_init 5 = .ok (.bipush 80, 2) := by decide +kernel
theorem dX6_init_7 : decode cX6_init 7 = .ok (.newarray .int, 2) := by decide +kernel
theorem dX6_init_9 : decode cX6_init 9 = .ok (.putfield 9, 3) := by decide +kernel
theorem dX6_init_12 : decode cX6_init 12 = .ok (.aload_n 0, 1) := by decide +kernel
theorem dX6_init_13 : decode cX6_init 13 = .ok (.bipush 80, 2) := by decide +kernel
theorem dX6_init_15 : decode cX6_init 15 = .ok (.newarray .int, 2) := by decide +kernel
theorem dX6_init_17 : decode cX6_init 17 = .ok (.putfield 15, 3) := by decide +kernel
theorem dX6_init_20 : decode cX6_init 20 = .ok (.aload_n 0, 1) := by decide +kernel
theorem dX6_init_21 : decode cX6_init 21 = .ok (.bipush 80, 2) := by decide +kernel
theorem dX6_init_23 : decode cX6_init 23 = .ok (.newarray .int, 2) := by decide +kernel
theorem dX6_init_25 : decode cX6_init 25 = .ok (.putfield 18, 3) := by decide +kernel
theorem dX6_init_28 : decode cX6_init 28 = .ok (.aload_n 0, 1) := by decide +kernel
theorem dX6_init_29 : decode cX6_init 29 = .ok (.bipush 80, 2) := by decide +kernel
theorem dX6_init_31 : decode cX6_init 31 = .ok (.newarray .int, 2) := by decide +kernel
theorem dX6_init_33 : decode cX6_init 33 = .ok (.putfield 21, 3) := by decide +kernel
theorem dX6_init_36 : decode cX6_init 36 = .ok (.aload_n 0, 1) := by decide +kernel
theorem dX6_init_37 : decode cX6_init 37 = .ok (.bipush 80, 2) := by decide +kernel
theorem dX6_init_39 : decode cX6_init 39 = .ok (.newarray .int, 2) := by decide +kernel
theorem dX6_init_41 : decode cX6_init 41 = .ok (.putfield 24, 3) := by decide +kernel
theorem dX6_init_44 : decode cX6_init 44 = .ok (.aload_n 0, 1) := by decide +kernel
theorem dX6_init_45 : decode cX6_init 45 = .ok (.new 27, 3) := by decide +kernel
theorem dX6_init_48 : decode cX6_init 48 = .ok (.dup, 1) := by decide +kernel
theorem dX6_init_49 : decode cX6_init 49 = .ok (.bipush 80, 2) := by decide +kernel
theorem dX6_init_51 : decode cX6_init 51 = .ok (.invokespecial 29, 3) := by decide +kernel
theorem dX6_init_54 : decode cX6_init 54 = .ok (.putfield 32, 3) := by decide +kernel
theorem dX6_init_57 : decode cX6_init 57 = .ok (.return_, 1) := by decide +kernel
theorem dX6_has_0 : decode cX6_has 0 = .ok (.iload_n 1, 1) := by decide +kernel
theorem dX6_has_1 : decode cX6_has 1 = .ok (.iconst 0, 1) := by decide +kernel
theorem dX6_has_2 : decode cX6_has 2 = .ok (.aload_n 0, 1) := by decide +kernel
theorem dX6_has_3 : decode cX6_has 3 = .ok (.getfield 36, 3) := by decide +kernel
theorem dX6_has_6 : decode cX6_has 6 = .ok (.iconst 1, 1) := by decide +kernel
theorem dX6_has_7 : decode cX6_has 7 = .ok (.isub, 1) := by decide +kernel
theorem dX6_has_8 : decode cX6_has 8 = .ok (.invokestatic 40, 3) := by decide +kernel
theorem dX6_has_11 : decode cX6_has 11 = .ok (.ireturn, 1) := by decide +kernel
theorem dX6_stamp_0 : decode cX6_stamp 0 = .ok (.aload_n 0, 1) := by decide +kernel
theorem dX6_stamp_1 : decode cX6_stamp 1 = .ok (.getfield 36, 3) := by decide +kernel
theorem dX6_stamp_4 : decode cX6_stamp 4 = .ok (.bipush 80, 2) := by decide +kernel
theorem dX6_stamp_6 : decode cX6_stamp 6 = .ok (.if_icmp .lt 6, 3) := by decide +kernel
theorem dX6_stamp_9 : decode cX6_stamp 9 = .ok (.bipush (-5), 2) := by decide +kernel
theorem dX6_stamp_11 : decode cX6_stamp 11 = .ok (.ireturn, 1) := by decide +kernel
theorem dX6_stamp_12 : decode cX6_stamp 12 = .ok (.aload_n 0, 1) := by decide +kernel
theorem dX6_stamp_13 : decode cX6_stamp 13 = .ok (.getfield 9, 3) := by decide +kernel
theorem dX6_stamp_16 : decode cX6_stamp 16 = .ok (.aload_n 0, 1) := by decide +kernel
theorem dX6_stamp_17 : decode cX6_stamp 17 = .ok (.getfield 36, 3) := by decide +kernel
theorem dX6_stamp_20 : decode cX6_stamp 20 = .ok (.iload_n 2, 1) := by decide +kernel
theorem dX6_stamp_21 : decode cX6_stamp 21 = .ok (.iastore, 1) := by decide +kernel
theorem dX6_stamp_22 : decode cX6_stamp 22 = .ok (.aload_n 0, 1) := by decide +kernel
theorem dX6_stamp_23 : decode cX6_stamp 23 = .ok (.getfield 15, 3) := by decide +kernel
theorem dX6_stamp_26 : decode cX6_stamp 26 = .ok (.aload_n 0, 1) := by decide +kernel
theorem dX6_stamp_27 : decode cX6_stamp 27 = .ok (.getfield 36, 3) := by decide +kernel
theorem dX6_stamp_30 : decode cX6_stamp 30 = .ok (.iload_n 3, 1) := by decide +kernel
theorem dX6_stamp_31 : decode cX6_stamp 31 = .ok (.iastore, 1) := by decide +kernel
theorem dX6_stamp_32 : decode cX6_stamp 32 = .ok (.aload_n 0, 1) := by decide +kernel
theorem dX6_stamp_33 : decode cX6_stamp 33 = .ok (.getfield 18, 3) := by decide +kernel
theorem dX6_stamp_36 : decode cX6_stamp 36 = .ok (.aload_n 0, 1) := by decide +kernel
theorem dX6_stamp_37 : decode cX6_stamp 37 = .ok (.getfield 36, 3) := by decide +kernel
theorem dX6_stamp_40 : decode cX6_stamp 40 = .ok (.iload 4, 2) := by decide +kernel
theorem dX6_stamp_42 : decode cX6_stamp 42 = .ok (.iastore, 1) := by decide +kernel
theorem dX6_stamp_43 : decode cX6_stamp 43 = .ok (.aload_n 0, 1) := by decide +kernel
theorem dX6_stamp_44 : decode cX6_stamp 44 = .ok (.getfield 21, 3) := by decide +kernel
theorem dX6_stamp_47 : decode cX6_stamp 47 = .ok (.aload_n 0, 1) := by decide +kernel
theorem dX6_stamp_48 : decode cX6_stamp 48 = .ok (.getfield 36, 3) := by decide +kernel
theorem dX6_stamp_51 : decode cX6_stamp 51 = .ok (.iload 5, 2) := by decide +kernel
theorem dX6_stamp_53 : decode cX6_stamp 53 = .ok (.iastore, 1) := by decide +kernel
theorem dX6_stamp_54 : decode cX6_stamp 54 = .ok (.aload_n 0, 1) := by decide +kernel
theorem dX6_stamp_55 : decode cX6_stamp 55 = .ok (.getfield 24, 3) := by decide +kernel
theorem dX6_stamp_58 : decode cX6_stamp 58 = .ok (.aload_n 0, 1) := by decide +kernel
theorem dX6_stamp_59 : decode cX6_stamp 59 = .ok (.getfield 36, 3) := by decide +kernel
theorem dX6_stamp_62 : decode cX6_stamp 62 = .ok (.sipush 200, 3) := by decide +kernel
theorem dX6_stamp_65 : decode cX6_stamp 65 = .ok (.iastore, 1) := by decide +kernel
theorem dX6_stamp_66 : decode cX6_stamp 66 = .ok (.aload_n 0, 1) := by decide +kernel
theorem dX6_stamp_67 : decode cX6_stamp 67 = .ok (.getfield 32, 3) := by decide +kernel
theorem dX6_stamp_70 : decode cX6_stamp 70 = .ok (.iload_n 1, 1) := by decide +kernel
theorem dX6_stamp_71 : decode cX6_stamp 71 = .ok (.aload_n 0, 1) := by decide +kernel
theorem dX6_stamp_72 : decode cX6_stamp 72 = .ok (.getfield 36, 3) := by decide +kernel
theorem dX6_stamp_75 : decode cX6_stamp 75 = .ok (.invokevirtual 44, 3) := by decide +kernel
theorem dX6_stamp_78 : decode cX6_stamp 78 = .ok (.aload_n 0, 1) := by decide +kernel
theorem dX6_stamp_79 : decode cX6_stamp 79 = .ok (.dup, 1) := by decide +kernel
theorem dX6_stamp_80 : decode cX6_stamp 80 = .ok (.getfield 36, 3) := by decide +kernel
theorem dX6_stamp_83 : decode cX6_stamp 83 = .ok (.iconst 1, 1) := by decide +kernel
theorem dX6_stamp_84 : decode cX6_stamp 84 = .ok (.iadd, 1) := by decide +kernel
theorem dX6_stamp_85 : decode cX6_stamp 85 = .ok (.putfield 36, 3) := by decide +kernel
theorem dX6_stamp_88 : decode cX6_stamp 88 = .ok (.aload_n 0, 1) := by decide +kernel
theorem dX6_stamp_89 : decode cX6_stamp 89 = .ok (.getfield 36, 3) := by decide +kernel
theorem dX6_stamp_92 : decode cX6_stamp 92 = .ok (.iconst 1, 1) := by decide +kernel
theorem dX6_stamp_93 : decode cX6_stamp 93 = .ok (.isub, 1) := by decide +kernel
theorem dX6_stamp_94 : decode cX6_stamp 94 = .ok (.ireturn, 1) := by decide +kernel
theorem dX6_close_0 : decode cX6_close 0 = .ok (.aload_n 0, 1) := by decide +kernel
theorem dX6_close_1 : decode cX6_close 1 = .ok (.getfield 24, 3) := by decide +kernel
theorem dX6_close_4 : decode cX6_close 4 = .ok (.iload_n 1, 1) := by decide +kernel
theorem dX6_close_5 : decode cX6_close 5 = .ok (.aload_n 0, 1) := by decide +kernel
theorem dX6_close_6 : decode cX6_close 6 = .ok (.getfield 24, 3) := by decide +kernel
theorem dX6_close_9 : decode cX6_close 9 = .ok (.iload_n 1, 1) := by decide +kernel
theorem dX6_close_10 : decode cX6_close 10 = .ok (.iaload, 1) := by decide +kernel
theorem dX6_close_11 : decode cX6_close 11 = .ok (.iload_n 2, 1) := by decide +kernel
theorem dX6_close_12 : decode cX6_close 12 = .ok (.iconst 1, 1) := by decide +kernel
theorem dX6_close_13 : decode cX6_close 13 = .ok (.isub, 1) := by decide +kernel
theorem dX6_close_14 : decode cX6_close 14 = .ok (.invokestatic 48, 3) := by decide +kernel
theorem dX6_close_17 : decode cX6_close 17 = .ok (.iastore, 1) := by decide +kernel
theorem dX6_close_18 : decode cX6_close 18 = .ok (.return_, 1) := by decide +kernel
theorem dX6_isOpen_0 : decode cX6_isOpen 0 = .ok (.iload_n 2, 1) := by decide +kernel
theorem dX6_isOpen_1 : decode cX6_isOpen 1 = .ok (.aload_n 0, 1) := by decide +kernel
theorem dX6_isOpen_2 : decode cX6_isOpen 2 = .ok (.getfield 21, 3) := by decide +kernel
theorem dX6_isOpen_5 : decode cX6_isOpen 5 = .ok (.iload_n 1, 1) := by decide +kernel
theorem dX6_isOpen_6 : decode cX6_isOpen 6 = .ok (.iaload, 1) := by decide +kernel
theorem dX6_isOpen_7 : decode cX6_isOpen 7 = .ok (.aload_n 0, 1) := by decide +kernel
theorem dX6_isOpen_8 : decode cX6_isOpen 8 = .ok (.getfield 24, 3) := by decide +kernel
theorem dX6_isOpen_11 : decode cX6_isOpen 11 = .ok (.iload_n 1, 1) := by decide +kernel
theorem dX6_isOpen_12 : decode cX6_isOpen 12 = .ok (.iaload, 1) := by decide +kernel
theorem dX6_isOpen_13 : decode cX6_isOpen 13 = .ok (.invokestatic 40, 3) := by decide +kernel
theorem dX6_isOpen_16 : decode cX6_isOpen 16 = .ok (.ireturn, 1) := by decide +kernel
theorem dX6_isGrantOf_0 : decode cX6_isGrantOf 0 = .ok (.aload_n 0, 1) := by decide +kernel
theorem dX6_isGrantOf_1 : decode cX6_isGrantOf 1 = .ok (.getfield 15, 3) := by decide +kernel
theorem dX6_isGrantOf_4 : decode cX6_isGrantOf 4 = .ok (.iload_n 1, 1) := by decide +kernel
theorem dX6_isGrantOf_5 : decode cX6_isGrantOf 5 = .ok (.iaload, 1) := by decide +kernel
theorem dX6_isGrantOf_6 : decode cX6_isGrantOf 6 = .ok (.iconst 2, 1) := by decide +kernel
theorem dX6_isGrantOf_7 : decode cX6_isGrantOf 7 = .ok (.if_icmp .ne 17, 3) := by decide +kernel
theorem dX6_isGrantOf_10 : decode cX6_isGrantOf 10 = .ok (.aload_n 0, 1) := by decide +kernel
theorem dX6_isGrantOf_11 : decode cX6_isGrantOf 11 = .ok (.getfield 18, 3) := by decide +kernel
theorem dX6_isGrantOf_14 : decode cX6_isGrantOf 14 = .ok (.iload_n 1, 1) := by decide +kernel
theorem dX6_isGrantOf_15 : decode cX6_isGrantOf 15 = .ok (.iaload, 1) := by decide +kernel
theorem dX6_isGrantOf_16 : decode cX6_isGrantOf 16 = .ok (.iload_n 2, 1) := by decide +kernel
theorem dX6_isGrantOf_17 : decode cX6_isGrantOf 17 = .ok (.if_icmp .ne 7, 3) := by decide +kernel
theorem dX6_isGrantOf_20 : decode cX6_isGrantOf 20 = .ok (.iconst 1, 1) := by decide +kernel
theorem dX6_isGrantOf_21 : decode cX6_isGrantOf 21 = .ok (.goto 4, 3) := by decide +kernel
theorem dX6_isGrantOf_24 : decode cX6_isGrantOf 24 = .ok (.iconst 0, 1) := by decide +kernel
theorem dX6_isGrantOf_25 : decode cX6_isGrantOf 25 = .ok (.ireturn, 1) := by decide +kernel
theorem dX7_init_0 : decode cX7_init 0 = .ok (.aload_n 0, 1) := by decide +kernel
theorem dX7_init_1 : decode cX7_init 1 = .ok (.invokespecial 3, 3) := by decide +kernel
theorem dX7_init_4 : decode cX7_init 4 = .ok (.aload_n 0, 1) := by decide +kernel
theorem dX7_init_5 : decode cX7_init 5 = .ok (.bipush 80, 2) := by decide +kernel
theorem dX7_init_7 : decode cX7_init 7 = .ok (.newarray .int, 2) := by decide +kernel
theorem dX7_init_9 : decode cX7_init 9 = .ok (.putfield 9, 3) := by decide +kernel
theorem dX7_init_12 : decode cX7_init 12 = .ok (.aload_n 0, 1) := by decide +kernel
theorem dX7_init_13 : decode cX7_init 13 = .ok (.bipush 80, 2) := by decide +kernel
theorem dX7_init_15 : decode cX7_init 15 = .ok (.newarray .int, 2) := by decide +kernel
theorem dX7_init_17 : decode cX7_init 17 = .ok (.putfield 15, 3) := by decide +kernel
theorem dX7_init_20 : decode cX7_init 20 = .ok (.aload_n 0, 1) := by decide +kernel
theorem dX7_init_21 : decode cX7_init 21 = .ok (.bipush 80, 2) := by decide +kernel
theorem dX7_init_23 : decode cX7_init 23 = .ok (.newarray .int, 2) := by decide +kernel
theorem dX7_init_25 : decode cX7_init 25 = .ok (.putfield 18, 3) := by decide +kernel
theorem dX7_init_28 : decode cX7_init 28 = .ok (.return_, 1) := by decide +kernel
theorem dX7_clear_0 : decode cX7_clear 0 = .ok (.aload_n 0, 1) := by decide +kernel
theorem dX7_clear_1 : decode cX7_clear 1 = .ok (.iconst 0, 1) := by decide +kernel
theorem dX7_clear_2 : decode cX7_clear 2 = .ok (.putfield 21, 3) := by decide +kernel
theorem dX7_clear_5 : decode cX7_clear 5 = .ok (.aload_n 0, 1) := by decide +kernel
theorem dX7_clear_6 : decode cX7_clear 6 = .ok (.iconst 0, 1) := by decide +kernel
theorem dX7_clear_7 : decode cX7_clear 7 = .ok (.putfield 25, 3) := by decide +kernel
theorem dX7_clear_10 : decode cX7_clear 10 = .ok (.return_, 1) := by decide +kernel
theorem dX7_add_0 : decode cX7_add 0 = .ok (.iload_n 2, 1) := by decide +kernel
theorem dX7_add_1 : decode cX7_add 1 = .ok (.ifCond .le 12, 3) := by decide +kernel
theorem dX7_add_4 : decode cX7_add 4 = .ok (.aload_n 0, 1) := by decide +kernel
theorem dX7_add_5 : decode cX7_add 5 = .ok (.getfield 25, 3) := by decide +kernel
theorem dX7_add_8 : decode cX7_add 8 = .ok (.bipush 80, 2) := by decide +kernel
theorem dX7_add_10 : decode cX7_add 10 = .ok (.if_icmp .lt 4, 3) := by decide +kernel
theorem dX7_add_13 : decode cX7_add 13 = .ok (.return_, 1) := by decide +kernel
theorem dX7_add_14 : decode cX7_add 14 = .ok (.aload_n 0, 1) := by decide +kernel
theorem dX7_add_15 : decode cX7_add 15 = .ok (.getfield 9, 3) := by decide +kernel
theorem dX7_add_18 : decode cX7_add 18 = .ok (.aload_n 0, 1) := by decide +kernel
theorem dX7_add_19 : decode cX7_add 19 = .ok (.getfield 25, 3) := by decide +kernel
theorem dX7_add_22 : decode cX7_add 22 = .ok (.iload_n 1, 1) := by decide +kernel
theorem dX7_add_23 : decode cX7_add 23 = .ok (.iastore, 1) := by decide +kernel
theorem dX7_add_24 : decode cX7_add 24 = .ok (.aload_n 0, 1) := by decide +kernel
theorem dX7_add_25 : decode cX7_add 25 = .ok (.getfield 15, 3) := by decide +kernel
theorem dX7_add_28 : decode cX7_add 28 = .ok (.aload_n 0, 1) := by decide +kernel
theorem dX7_add_29 : decode cX7_add 29 = .ok (.getfield 25, 3) := by decide +kernel
theorem dX7_add_32 : decode cX7_add 32 = .ok (.iload_n 2, 1) := by decide +kernel
theorem dX7_add_33 : decode cX7_add 33 = .ok (.iastore, 1) := by decide +kernel
theorem dX7_add_34 : decode cX7_add 34 = .ok (.aload_n 0, 1) := by decide +kernel
theorem dX7_add_35 : decode cX7_add 35 = .ok (.dup, 1) := by decide +kernel
theorem dX7_add_36 : decode cX7_add 36 = .ok (.getfield 21, 3) := by decide +kernel
theorem dX7_add_39 : decode cX7_add 39 = .ok (.iload_n 2, 1) := by decide +kernel
theorem dX7_add_40 : decode cX7_add 40 = .ok (.iadd, 1) := by decide +kernel
theorem dX7_add_41 : decode cX7_add 41 = .ok (.putfield 21, 3) := by decide +kernel
theorem dX7_add_44 : decode cX7_add 44 = .ok (.aload_n 0, 1) := by decide +kernel
theorem dX7_add_45 : decode cX7_add 45 = .ok (.dup, 1) := by decide +kernel
theorem dX7_add_46 : decode cX7_add 46 = .ok (.getfield 25, 3) := by decide +kernel
theorem dX7_add_49 : decode cX7_add 49 = .ok (.iconst 1, 1) := by decide +kernel
theorem dX7_add_50 : decode cX7_add 50 = .ok (.iadd, 1) := by decide +kernel
theorem dX7_add_51 : decode cX7_add 51 = .ok (.putfield 25, 3) := by decide +kernel
theorem dX7_add_54 : decode cX7_add 54 = .ok (.return_, 1) := by decide +kernel
theorem dX7_part_0 : decode cX7_part 0 = .ok (.aload_n 0, 1) := by decide +kernel
theorem dX7_part_1 : decode cX7_part 1 = .ok (.getfield 21, 3) := by decide +kernel
theorem dX7_part_4 : decode cX7_part 4 = .ok (.iload_n 1, 1) := by decide +kernel
theorem dX7_part_5 : decode cX7_part 5 = .ok (.if_icmp .le 10, 3) := by decide +kernel
theorem dX7_part_8 : decode cX7_part 8 = .ok (.aload_n 0, 1) := by decide +kernel
theorem dX7_part_9 : decode cX7_part 9 = .ok (.getfield 21, 3) := by decide +kernel
theorem dX7_part_12 : decode cX7_part 12 = .ok (.ifCond .gt 36, 3) := by decide +kernel
theorem dX7_part_15 : decode cX7_part 15 = .ok (.iconst 0, 1) := by decide +kernel
theorem dX7_part_16 : decode cX7_part 16 = .ok (.istore_n 2, 1) := by decide +kernel
theorem dX7_part_17 : decode cX7_part 17 = .ok (.iload_n 2, 1) := by decide +kernel
theorem dX7_part_18 : decode cX7_part 18 = .ok (.aload_n 0, 1) := by decide +kernel
theorem dX7_part_19 : decode cX7_part 19 = .ok (.getfield 25, 3) := by decide +kernel
theorem dX7_part_22 : decode cX7_part 22 = .ok (.if_icmp .ge 21, 3) := by decide +kernel
theorem dX7_part_25 : decode cX7_part 25 = .ok (.aload_n 0, 1) := by decide +kernel
theorem dX7_part_26 : decode cX7_part 26 = .ok (.getfield 18, 3) := by decide +kernel
theorem dX7_part_29 : decode cX7_part 29 = .ok (.iload_n 2, 1) := by decide +kernel
theorem dX7_part_30 : decode cX7_part 30 = .ok (.aload_n 0, 1) := by decide +kernel
theorem dX7_part_31 : decode cX7_part 31 = .ok (.getfield 15, 3) := by decide +kernel
theorem dX7_part_34 : decode cX7_part 34 = .ok (.iload_n 2, 1) := by decide +kernel
theorem dX7_part_35 : decode cX7_part 35 = .ok (.iaload, 1) := by decide +kernel
theorem dX7_part_36 : decode cX7_part 36 = .ok (.iastore, 1) := by decide +kernel
theorem dX7_part_37 : decode cX7_part 37 = .ok (.iinc 2 1, 3) := by decide +kernel
theorem dX7_part_40 : decode cX7_part 40 = .ok (.goto (-23), 3) := by decide +kernel
theorem dX7_part_43 : decode cX7_part 43 = .ok (.aload_n 0, 1) := by decide +kernel
theorem dX7_part_44 : decode cX7_part 44 = .ok (.getfield 21, 3) := by decide +kernel
theorem dX7_part_47 : decode cX7_part 47 = .ok (.ireturn, 1) := by decide +kernel
theorem dX7_part_48 : decode cX7_part 48 = .ok (.iload_n 1, 1) := by decide +kernel
theorem dX7_part_49 : decode cX7_part 49 = .ok (.istore_n 2, 1) := by decide +kernel
theorem dX7_part_50 : decode cX7_part 50 = .ok (.iconst 0, 1) := by decide +kernel
theorem dX7_part_51 : decode cX7_part 51 = .ok (.istore_n 3, 1) := by decide +kernel
theorem dX7_part_52 : decode cX7_part 52 = .ok (.iload_n 3, 1) := by decide +kernel
theorem dX7_part_53 : decode cX7_part 53 = .ok (.aload_n 0, 1) := by decide +kernel
theorem dX7_part_54 : decode cX7_part 54 = .ok (.getfield 25, 3) := by decide +kernel
theorem dX7_part_57 : decode cX7_part 57 = .ok (.if_icmp .ge 41, 3) := by decide +kernel
theorem dX7_part_60 : decode cX7_part 60 = .ok (.aload_n 0, 1) := by decide +kernel
theorem dX7_part_61 : decode cX7_part 61 = .ok (.getfield 18, 3) := by decide +kernel
theorem dX7_part_64 : decode cX7_part 64 = .ok (.iload_n 3, 1) := by decide +kernel
theorem dX7_part_65 : decode cX7_part 65 = .ok (.iload_n 1, 1) := by decide +kernel
theorem dX7_part_66 : decode cX7_part 66 = .ok (.i2l, 1) := by decide +kernel
theorem dX7_part_67 : decode cX7_part 67 = .ok (.aload_n 0, 1) := by decide +kernel
theorem dX7_part_68 : decode cX7_part 68 = .ok (.getfield 15, 3) := by decide +kernel
theorem dX7_part_71 : decode cX7_part 71 = .ok (.iload_n 3, 1) := by decide +kernel
theorem dX7_part_72 : decode cX7_part 72 = .ok (.iaload, 1) := by decide +kernel
theorem dX7_part_73 : decode cX7_part 73 = .ok (.i2l, 1) := by decide +kernel
theorem dX7_part_74 : decode cX7_part 74 = .ok (.lmul, 1) := by decide +kernel
theorem dX7_part_75 : decode cX7_part 75 = .ok (.aload_n 0, 1) := by decide +kernel
theorem dX7_part_76 : decode cX7_part 76 = .ok (.getfield 21, 3) := by decide +kernel
theorem dX7_part_79 : decode cX7_part 79 = .ok (.i2l, 1) := by decide +kernel
theorem dX7_part_80 : decode cX7_part 80 = .ok (.ldiv, 1) := by decide +kernel
theorem dX7_part_81 : decode cX7_part 81 = .ok (.l2i, 1) := by decide +kernel
theorem dX7_part_82 : decode cX7_part 82 = .ok (.iastore, 1) := by decide +kernel
theorem dX7_part_83 : decode cX7_part 83 = .ok (.iload_n 2, 1) := by decide +kernel
theorem dX7_part_84 : decode cX7_part 84 = .ok (.aload_n 0, 1) := by decide +kernel
theorem dX7_part_85 : decode cX7_part 85 = .ok (.getfield 18, 3) := by decide +kernel
theorem dX7_part_88 : decode cX7_part 88 = .ok (.iload_n 3, 1) := by decide +kernel
theorem dX7_part_89 : decode cX7_part 89 = .ok (.iaload, 1) := by decide +kernel
theorem dX7_part_90 : decode cX7_part 90 = .ok (.isub, 1) := by decide +kernel
theorem dX7_part_91 : decode cX7_part 91 = .ok (.istore_n 2, 1) := by decide +kernel
theorem dX7_part_92 : decode cX7_part 92 = .ok (.iinc 3 1, 3) := by decide +kernel
theorem dX7_part_95 : decode cX7_part 95 = .ok (.goto (-43), 3) := by decide +kernel
theorem dX7_part_98 : decode cX7_part 98 = .ok (.iconst 0, 1) := by decide +kernel
theorem dX7_part_99 : decode cX7_part 99 = .ok (.istore_n 3, 1) := by decide +kernel
theorem dX7_part_100 : decode cX7_part 100 = .ok (.iload_n 3, 1) := by decide +kernel
theorem dX7_part_101 : decode cX7_part 101 = .ok (.aload_n 0, 1) := by decide +kernel
theorem dX7_part_102 : decode cX7_part 102 = .ok (.getfield 25, 3) := by decide +kernel
theorem dX7_part_105 : decode cX7_part 105 = .ok (.if_icmp .ge 26, 3) := by decide +kernel
theorem dX7_part_108 : decode cX7_part 108 = .ok (.iload_n 2, 1) := by decide +kernel
theorem dX7_part_109 : decode cX7_part 109 = .ok (.ifCond .le 22, 3) := by decide +kernel
theorem dX7_part_112 : decode cX7_part 112 = .ok (.aload_n 0, 1) := by decide +kernel
theorem dX7_part_113 : decode cX7_part 113 = .ok (.getfield 18, 3) := by decide +kernel
theorem dX7_part_116 : decode cX7_part 116 = .ok (.iload_n 3, 1) := by decide +kernel
theorem dX7_part_117 : decode cX7_part 117 = .ok (.dup2, 1) := by decide +kernel
theorem dX7_part_118 : decode cX7_part 118 = .ok (.iaload, 1) := by decide +kernel
theorem dX7_part_119 : decode cX7_part 119 = .ok (.iconst 1, 1) := by decide +kernel
theorem dX7_part_120 : decode cX7_part 120 = .ok (.iadd, 1) := by decide +kernel
theorem dX7_part_121 : decode cX7_part 121 = .ok (.iastore, 1) := by decide +kernel
theorem dX7_part_122 : decode cX7_part 122 = .ok (.iinc 2 (-1), 3) := by decide +kernel
theorem dX7_part_125 : decode cX7_part 125 = .ok (.iinc 3 1, 3) := by decide +kernel
theorem dX7_part_128 : decode cX7_part 128 = .ok (.goto (-28), 3) := by decide +kernel
theorem dX7_part_131 : decode cX7_part 131 = .ok (.iload_n 1, 1) := by decide +kernel
theorem dX7_part_132 : decode cX7_part 132 = .ok (.iload_n 2, 1) := by decide +kernel
theorem dX7_part_133 : decode cX7_part 133 = .ok (.isub, 1) := by decide +kernel
theorem dX7_part_134 : decode cX7_part 134 = .ok (.ireturn, 1) := by decide +kernel
theorem dX8_init_0 : decode cX8_init 0 = .ok (.aload_n 0, 1) := by decide +kernel
theorem dX8_init_1 : decode cX8_init 1 = .ok (.invokespecial 3, 3) := by decide +kernel
theorem dX8_init_4 : decode cX8_init 4 = .ok (.aload_n 0, 1) := by decide +kernel
theorem dX8_init_5 : decode cX8_init 5 = .ok (.iload_n 1, 1) := by decide +kernel
theorem dX8_init_6 : decode cX8_init 6 = .ok (.newarray .int, 2) := by decide +kernel
theorem dX8_init_8 : decode cX8_init 8 = .ok (.putfield 9, 3) := by decide +kernel
theorem dX8_init_11 : decode cX8_init 11 = .ok (.aload_n 0, 1) := by decide +kernel
theorem dX8_init_12 : decode cX8_init 12 = .ok (.iload_n 1, 1) := by decide +kernel
theorem dX8_init_13 : decode cX8_init 13 = .ok (.newarray .int, 2) := by decide +kernel
theorem dX8_init_15 : decode cX8_init 15 = .ok (.putfield 15, 3) := by decide +kernel
theorem dX8_init_18 : decode cX8_init 18 = .ok (.aload_n 0, 1) := by decide +kernel
theorem dX8_init_19 : decode cX8_init 19 = .ok (.iload_n 1, 1) := by decide +kernel
theorem dX8_init_20 : decode cX8_init 20 = .ok (.newarray .int, 2) := by decide +kernel
theorem dX8_init_22 : decode cX8_init 22 = .ok (.putfield 18, 3) := by decide +kernel
theorem dX8_init_25 : decode cX8_init 25 = .ok (.aload_n 0, 1) := by decide +kernel
theorem dX8_init_26 : decode cX8_init 26 = .ok (.new 21, 3) := by decide +kernel
theorem dX8_init_29 : decode cX8_init 29 = .ok (.dup, 1) := by decide +kernel
theorem dX8_init_30 : decode cX8_init 30 = .ok (.iload_n 1, 1) := by decide +kernel
theorem dX8_init_31 : decode cX8_init 31 = .ok (.invokespecial 23, 3) := by decide +kernel
theorem dX8_init_34 : decode cX8_init 34 = .ok (.putfield 26, 3) := by decide +kernel
theorem dX8_init_37 : decode cX8_init 37 = .ok (.return_, 1) := by decide +kernel
theorem dX8_add_0 : decode cX8_add 0 = .ok (.aload_n 0, 1) := by decide +kernel
theorem dX8_add_1 : decode cX8_add 1 = .ok (.getfield 30, 3) := by decide +kernel
theorem dX8_add_4 : decode cX8_add 4 = .ok (.aload_n 0, 1) := by decide +kernel
theorem dX8_add_5 : decode cX8_add 5 = .ok (.getfield 9, 3) := by decide +kernel
theorem dX8_add_8 : decode cX8_add 8 = .ok (.arraylength, 1) := by decide +kernel
theorem dX8_add_9 : decode cX8_add 9 = .ok (.if_icmp .lt 6, 3) := by decide +kernel
theorem dX8_add_12 : decode cX8_add 12 = .ok (.bipush (-5), 2) := by decide +kernel
theorem dX8_add_14 : decode cX8_add 14 = .ok (.ireturn, 1) := by decide +kernel
theorem dX8_add_15 : decode cX8_add 15 = .ok (.aload_n 0, 1) := by decide +kernel
theorem dX8_add_16 : decode cX8_add 16 = .ok (.getfield 9, 3) := by decide +kernel
theorem dX8_add_19 : decode cX8_add 19 = .ok (.aload_n 0, 1) := by decide +kernel
theorem dX8_add_20 : decode cX8_add 20 = .ok (.getfield 30, 3) := by decide +kernel
theorem dX8_add_23 : decode cX8_add 23 = .ok (.iload_n 2, 1) := by decide +kernel
theorem dX8_add_24 : decode cX8_add 24 = .ok (.iastore, 1) := by decide +kernel
theorem dX8_add_25 : decode cX8_add 25 = .ok (.aload_n 0, 1) := by decide +kernel
theorem dX8_add_26 : decode cX8_add 26 = .ok (.getfield 15, 3) := by decide +kernel
theorem dX8_add_29 : decode cX8_add 29 = .ok (.aload_n 0, 1) := by decide +kernel
theorem dX8_add_30 : decode cX8_add 30 = .ok (.getfield 30, 3) := by decide +kernel
theorem dX8_add_33 : decode cX8_add 33 = .ok (.iload_n 3, 1) := by decide +kernel
theorem dX8_add_34 : decode cX8_add 34 = .ok (.iastore, 1) := by decide +kernel
theorem dX8_add_35 : decode cX8_add 35 = .ok (.aload_n 0, 1) := by decide +kernel
theorem dX8_add_36 : decode cX8_add 36 = .ok (.getfield 18, 3) := by decide +kernel
theorem dX8_add_39 : decode cX8_add 39 = .ok (.aload_n 0, 1) := by decide +kernel
theorem dX8_add_40 : decode cX8_add 40 = .ok (.getfield 30, 3) := by decide +kernel
theorem dX8_add_43 : decode cX8_add 43 = .ok (.iload 4, 2) := by decide +kernel
theorem dX8_add_45 : decode cX8_add 45 = .ok (.iastore, 1) := by decide +kernel
theorem dX8_add_46 : decode cX8_add 46 = .ok (.aload_n 0, 1) := by decide +kernel
theorem dX8_add_47 : decode cX8_add 47 = .ok (.getfield 26, 3) := by decide +kernel
theorem dX8_add_50 : decode cX8_add 50 = .ok (.iload_n 1, 1) := by decide +kernel
theorem dX8_add_51 : decode cX8_add 51 = .ok (.aload_n 0, 1) := by decide +kernel
theorem dX8_add_52 : decode cX8_add 52 = .ok (.getfield 30, 3) := by decide +kernel
theorem dX8_add_55 : decode cX8_add 55 = .ok (.invokevirtual 34, 3) := by decide +kernel
theorem dX8_add_58 : decode cX8_add 58 = .ok (.aload_n 0, 1) := by decide +kernel
theorem dX8_add_59 : decode cX8_add 59 = .ok (.dup, 1) := by decide +kernel
theorem dX8_add_60 : decode cX8_add 60 = .ok (.getfield 30, 3) := by decide +kernel
theorem dX8_add_63 : decode cX8_add 63 = .ok (.iconst 1, 1) := by decide +kernel
theorem dX8_add_64 : decode cX8_add 64 = .ok (.iadd, 1) := by decide +kernel
theorem dX8_add_65 : decode cX8_add 65 = .ok (.putfield 30, 3) := by decide +kernel
theorem dX8_add_68 : decode cX8_add 68 = .ok (.aload_n 0, 1) := by decide +kernel
theorem dX8_add_69 : decode cX8_add 69 = .ok (.getfield 30, 3) := by decide +kernel
theorem dX8_add_72 : decode cX8_add 72 = .ok (.ireturn, 1) := by decide +kernel
theorem dX8_isIn_0 : decode cX8_isIn 0 = .ok (.iload_n 2, 1) := by decide +kernel
theorem dX8_isIn_1 : decode cX8_isIn 1 = .ok (.aload_n 0, 1) := by decide +kernel
theorem dX8_isIn_2 : decode cX8_isIn 2 = .ok (.getfield 15, 3) := by decide +kernel
theorem dX8_isIn_5 : decode cX8_isIn 5 = .ok (.iload_n 1, 1) := by decide +kernel
theorem dX8_isIn_6 : decode cX8_isIn 6 = .ok (.iaload, 1) := by decide +kernel
theorem dX8_isIn_7 : decode cX8_isIn 7 = .ok (.aload_n 0, 1) := by decide +kernel
theorem dX8_isIn_8 : decode cX8_isIn 8 = .ok (.getfield 18, 3) := by decide +kernel
theorem dX8_isIn_11 : decode cX8_isIn 11 = .ok (.iload_n 1, 1) := by decide +kernel
theorem dX8_isIn_12 : decode cX8_isIn 12 = .ok (.iaload, 1) := by decide +kernel
theorem dX8_isIn_13 : decode cX8_isIn 13 = .ok (.invokestatic 38, 3) := by decide +kernel
theorem dX8_isIn_16 : decode cX8_isIn 16 = .ok (.ireturn, 1) := by decide +kernel
theorem dX8_hasAny_0 : decode cX8_hasAny 0 = .ok (.iconst 0, 1) := by decide +kernel
theorem dX8_hasAny_1 : decode cX8_hasAny 1 = .ok (.istore_n 3, 1) := by decide +kernel
theorem dX8_hasAny_2 : decode cX8_hasAny 2 = .ok (.iload_n 3, 1) := by decide +kernel
theorem dX8_hasAny_3 : decode cX8_hasAny 3 = .ok (.aload_n 0, 1) := by decide +kernel
theorem dX8_hasAny_4 : decode cX8_hasAny 4 = .ok (.getfield 26, 3) := by decide +kernel
theorem dX8_hasAny_7 : decode cX8_hasAny 7 = .ok (.getfield 42, 3) := by decide +kernel
theorem dX8_hasAny_10 : decode cX8_hasAny 10 = .ok (.iload_n 1, 1) := by decide +kernel
theorem dX8_hasAny_11 : decode cX8_hasAny 11 = .ok (.iaload, 1) := by decide +kernel
theorem dX8_hasAny_12 : decode cX8_hasAny 12 = .ok (.if_icmp .ge 28, 3) := by decide +kernel
theorem dX8_hasAny_15 : decode cX8_hasAny 15 = .ok (.aload_n 0, 1) := by decide +kernel
theorem dX8_hasAny_16 : decode cX8_hasAny 16 = .ok (.aload_n 0, 1) := by decide +kernel
theorem dX8_hasAny_17 : decode cX8_hasAny 17 = .ok (.getfield 26, 3) := by decide +kernel
theorem dX8_hasAny_20 : decode cX8_hasAny 20 = .ok (.iload_n 1, 1) := by decide +kernel
theorem dX8_hasAny_21 : decode cX8_hasAny 21 = .ok (.iload_n 3, 1) := by decide +kernel
theorem dX8_hasAny_22 : decode cX8_hasAny 22 = .ok (.invokevirtual 45, 3) := by decide +kernel
theorem dX8_hasAny_25 : decode cX8_hasAny 25 = .ok (.iload_n 2, 1) := by decide +kernel
theorem dX8_hasAny_26 : decode cX8_hasAny 26 = .ok (.invokevirtual 49, 3) := by decide +kernel
theorem dX8_hasAny_29 : decode cX8_hasAny 29 = .ok (.ifCond .eq 5, 3) := by decide +kernel
theorem dX8_hasAny_32 : decode cX8_hasAny 32 = .ok (.iconst 1, 1) := by decide +kernel
theorem dX8_hasAny_33 : decode cX8_hasAny 33 = .ok (.ireturn, 1) := by decide +kernel
theorem dX8_hasAny_34 : decode cX8_hasAny 34 = .ok (.iinc 3 1, 3) := by decide +kernel
theorem dX8_hasAny_37 : decode cX8_hasAny 37 = .ok (.goto (-35), 3) := by decide +kernel
theorem dX8_hasAny_40 : decode cX8_hasAny 40 = .ok (.iconst 0, 1) := by decide +kernel
theorem dX8_hasAny_41 : decode cX8_hasAny 41 = .ok (.ireturn, 1) := by decide +kernel
theorem dX8_take_0 : decode cX8_take 0 = .ok (.iload_n 3, 1) := by decide +kernel
theorem dX8_take_1 : decode cX8_take 1 = .ok (.istore 4, 2) := by decide +kernel
theorem dX8_take_3 : decode cX8_take 3 = .ok (.iconst 0, 1) := by decide +kernel
theorem dX8_take_4 : decode cX8_take 4 = .ok (.istore 5, 2) := by decide +kernel
theorem dX8_take_6 : decode cX8_take 6 = .ok (.iload 5, 2) := by decide +kernel
theorem dX8_take_8 : decode cX8_take 8 = .ok (.aload_n 0, 1) := by decide +kernel
theorem dX8_take_9 : decode cX8_take 9 = .ok (.getfield 26, 3) := by decide +kernel
theorem dX8_take_12 : decode cX8_take 12 = .ok (.getfield 42, 3) := by decide +kernel
theorem dX8_take_15 : decode cX8_take 15 = .ok (.iload_n 1, 1) := by decide +kernel
theorem dX8_take_16 : decode cX8_take 16 = .ok (.iaload, 1) := by decide +kernel
theorem dX8_take_17 : decode cX8_take 17 = .ok (.if_icmp .ge 48, 3) := by decide +kernel
theorem dX8_take_20 : decode cX8_take 20 = .ok (.aload_n 0, 1) := by decide +kernel
theorem dX8_take_21 : decode cX8_take 21 = .ok (.getfield 26, 3) := by decide +kernel
theorem dX8_take_24 : decode cX8_take 24 = .ok (.iload_n 1, 1) := by decide +kernel
theorem dX8_take_25 : decode cX8_take 25 = .ok (.iload 5, 2) := by decide +kernel
theorem dX8_take_27 : decode cX8_take 27 = .ok (.invokevirtual 45, 3) := by decide +kernel
theorem dX8_take_30 : decode cX8_take 30 = .ok (.istore 6, 2) := by decide +kernel
theorem dX8_take_32 : decode cX8_take 32 = .ok (.aload_n 0, 1) := by decide +kernel
theorem dX8_take_33 : decode cX8_take 33 = .ok (.iload 6, 2) := by decide +kernel
theorem dX8_take_35 : decode cX8_take 35 = .ok (.iload_n 2, 1) := by decide +kernel
theorem dX8_take_36 : decode cX8_take 36 = .ok (.invokevirtual 49, 3) := by decide +kernel
theorem dX8_take_39 : decode cX8_take 39 = .ok (.ifCond .eq 20, 3) := by decide +kernel
theorem dX8_take_42 : decode cX8_take 42 = .ok (.iload 4, 2) := by decide +kernel
theorem dX8_take_44 : decode cX8_take 44 = .ok (.iload 4, 2) := by decide +kernel
theorem dX8_take_46 : decode cX8_take 46 = .ok (.aload_n 0, 1) := by decide +kernel
theorem dX8_take_47 : decode cX8_take 47 = .ok (.getfield 9, 3) := by decide +kernel
theorem dX8_take_50 : decode cX8_take 50 = .ok (.iload 6, 2) := by decide +kernel
theorem dX8_take_52 : decode cX8_take 52 = .ok (.iaload, 1) := by decide +kernel
theorem dX8_take_53 : decode cX8_take 53 = .ok (.invokestatic 53, 3) := by decide +kernel
theorem dX8_take_56 : decode cX8_take 56 = .ok (.isub, 1) := by decide +kernel
theorem dX8_take_57 : decode cX8_take 57 = .ok (.istore 4, 2) := by decide +kernel
theorem dX8_take_59 : decode cX8_take 59 = .ok (.iinc 5 1, 3) := by decide +kernel
theorem dX8_take_62 : decode cX8_take 62 = .ok (.goto (-56), 3) := by decide +kernel
theorem dX8_take_65 : decode cX8_take 65 = .ok (.iload_n 3, 1) := by decide +kernel
theorem dX8_take_66 : decode cX8_take 66 = .ok (.iload 4, 2) := by decide +kernel
theorem dX8_take_68 : decode cX8_take 68 = .ok (.isub, 1) := by decide +kernel
theorem dX8_take_69 : decode cX8_take 69 = .ok (.ireturn, 1) := by decide +kernel
theorem dX9_init_0 : decode cX9_init 0 = .ok (.aload_n 0, 1) := by decide +kernel
theorem dX9_init_1 : decode cX9_init 1 = .ok (.invokespecial 3, 3) := by decide +kernel
theorem dX9_init_4 : decode cX9_init 4 = .ok (.aload_n 0, 1) := by decide +kernel
theorem dX9_init_5 : decode cX9_init 5 = .ok (.iconst 4, 1) := by decide +kernel
theorem dX9_init_6 : decode cX9_init 6 = .ok (.newarray .int, 2) := by decide +kernel
theorem dX9_init_8 : decode cX9_init 8 = .ok (.putfield 9, 3) := by decide +kernel
theorem dX9_init_11 : decode cX9_init 11 = .ok (.aload_n 0, 1) := by decide +kernel
theorem dX9_init_12 : decode cX9_init 12 = .ok (.bipush 60, 2) := by decide +kernel
theorem dX9_init_14 : decode cX9_init 14 = .ok (.newarray .int, 2) := by decide +kernel
theorem dX9_init_16 : decode cX9_init 16 = .ok (.putfield 15, 3) := by decide +kernel
theorem dX9_init_19 : decode cX9_init 19 = .ok (.aload_n 0, 1) := by decide +kernel
theorem dX9_init_20 : decode cX9_init 20 = .ok (.bipush 60, 2) := by decide +kernel
theorem dX9_init_22 : decode cX9_init 22 = .ok (.newarray .int, 2) := by decide +kernel
theorem dX9_init_24 : decode cX9_init 24 = .ok (.putfield 18, 3) := by decide +kernel
theorem dX9_init_27 : decode cX9_init 27 = .ok (.aload_n 0, 1) := by decide +kernel
theorem dX9_init_28 : decode cX9_init 28 = .ok (.bipush 60, 2) := by decide +kernel
theorem dX9_init_30 : decode cX9_init 30 = .ok (.newarray .int, 2) := by decide +kernel
theorem dX9_init_32 : decode cX9_init 32 = .ok (.putfield 21, 3) := by decide +kernel
theorem dX9_init_35 : decode cX9_init 35 = .ok (.aload_n 0, 1) := by decide +kernel
theorem dX9_init_36 : decode cX9_init 36 = .ok (.iconst 4, 1) := by decide +kernel
theorem dX9_init_37 : decode cX9_init 37 = .ok (.newarray .int, 2) := by decide +kernel
theorem dX9_init_39 : decode cX9_init 39 = .ok (.putfield 24, 3) := by decide +kernel
theorem dX9_init_42 : decode cX9_init 42 = .ok (.return_, 1) := by decide +kernel
theorem dX9_hasAqueduct_0 : decode cX9_hasAqueduct 0 = .ok (.iload_n 1, 1) := by decide +kernel
theorem dX9_hasAqueduct_1 : decode cX9_hasAqueduct 1 = .ok (.iconst 0, 1) := by decide +kernel
theorem dX9_hasAqueduct_2 : decode cX9_hasAqueduct 2 = .ok (.aload_n 0, 1) := by decide +kernel
theorem dX9_hasAqueduct_3 : decode cX9_hasAqueduct 3 = .ok (.getfield 27, 3) := by decide +kernel
theorem dX9_hasAqueduct_6 : decode cX9_hasAqueduct 6 = .ok (.iconst 1, 1) := by decide +kernel
theorem dX9_hasAqueduct_7 : decode cX9_hasAqueduct 7 = .ok (.isub, 1) := by decide +kernel
theorem dX9_hasAqueduct_8 : decode cX9_hasAqueduct 8 = .ok (.invokestatic 31, 3) := by decide +kernel
theorem dX9_hasAqueduct_11 : decode cX9_hasAqueduct 11 = .ok (.ireturn, 1) := by decide +kernel
theorem dX9_addAqueduct_0 : decode cX9_addAqueduct 0 = .ok (.aload_n 0, 1) := by decide +kernel
theorem dX9_addAqueduct_1 : decode cX9_addAqueduct 1 = .ok (.getfield 27, 3) := by decide +kernel
theorem dX9_addAqueduct_4 : decode cX9_addAqueduct 4 = .ok (.iconst 4, 1) := by decide +kernel
theorem dX9_addAqueduct_5 : decode cX9_addAqueduct 5 = .ok (.if_icmp .lt 6, 3) := by decide +kernel
theorem dX9_addAqueduct_8 : decode cX9_addAqueduct 8 = .ok (.bipush (-5), 2) := by decide +kernel
theorem dX9_addAqueduct_10 : decode cX9_addAqueduct 10 = .ok (.ireturn, 1) := by decide +kernel
theorem dX9_addAqueduct_11 : decode cX9_addAqueduct 11 = .ok (.aload_n 0, 1) := by decide +kernel
theorem dX9_addAqueduct_12 : decode cX9_addAqueduct 12 = .ok (.getfield 9, 3) := by decide +kernel
theorem dX9_addAqueduct_15 : decode cX9_addAqueduct 15 = .ok (.aload_n 0, 1) := by decide +kernel
theorem dX9_addAqueduct_16 : decode cX9_addAqueduct 16 = .ok (.getfield 27, 3) := by decide +kernel
theorem dX9_addAqueduct_19 : decode cX9_addAqueduct 19 = .ok (.iload_n 1, 1) := by decide +kernel
theorem dX9_addAqueduct_20 : decode cX9_addAqueduct 20 = .ok (.iastore, 1) := by decide +kernel
theorem dX9_addAqueduct_21 : decode cX9_addAqueduct 21 = .ok (.aload_n 0, 1) := by decide +kernel
theorem dX9_addAqueduct_22 : decode cX9_addAqueduct 22 = .ok (.dup, 1) := by decide +kernel
theorem dX9_addAqueduct_23 : decode cX9_addAqueduct 23 = .ok (.getfield 27, 3) := by decide +kernel
theorem dX9_addAqueduct_26 : decode cX9_addAqueduct 26 = .ok (.iconst 1, 1) := by decide +kernel
theorem dX9_addAqueduct_27 : decode cX9_addAqueduct 27 = .ok (.iadd, 1) := by decide +kernel
theorem dX9_addAqueduct_28 : decode cX9_addAqueduct 28 = .ok (.putfield 27, 3) := by decide +kernel
theorem dX9_addAqueduct_31 : decode cX9_addAqueduct 31 = .ok (.aload_n 0, 1) := by decide +kernel
theorem dX9_addAqueduct_32 : decode cX9_addAqueduct 32 = .ok (.getfield 27, 3) := by decide +kernel
theorem dX9_addAqueduct_35 : decode cX9_addAqueduct 35 = .ok (.iconst 1, 1) := by decide +kernel
theorem dX9_addAqueduct_36 : decode cX9_addAqueduct 36 = .ok (.isub, 1) := by decide +kernel
theorem dX9_addAqueduct_37 : decode cX9_addAqueduct 37 = .ok (.ireturn, 1) := by decide +kernel
theorem dX9_change_0 : decode cX9_change 0 = .ok (.aload_n 0, 1) := by decide +kernel
theorem dX9_change_1 : decode cX9_change 1 = .ok (.iload_n 1, 1) := by decide +kernel
theorem dX9_change_2 : decode cX9_change 2 = .ok (.iload_n 2, 1) := by decide +kernel
theorem dX9_change_3 : decode cX9_change 3 = .ok (.invokevirtual 35, 3) := by decide +kernel
theorem dX9_change_6 : decode cX9_change 6 = .ok (.istore 4, 2) := by decide +kernel
theorem dX9_change_8 : decode cX9_change 8 = .ok (.iload 4, 2) := by decide +kernel
theorem dX9_change_10 : decode cX9_change 10 = .ok (.bipush 60, 2) := by decide +kernel
theorem dX9_change_12 : decode cX9_change 12 = .ok (.if_icmp .lt 6, 3) := by decide +kernel
theorem dX9_change_15 : decode cX9_change 15 = .ok (.bipush (-5), 2) := by decide +kernel
theorem dX9_change_17 : decode cX9_change 17 = .ok (.ireturn, 1) := by decide +kernel
theorem dX9_change_18 : decode cX9_change 18 = .ok (.aload_n 0, 1) := by decide +kernel
theorem dX9_change_19 : decode cX9_change 19 = .ok (.getfield 15, 3) := by decide +kernel
theorem dX9_change_22 : decode cX9_change 22 = .ok (.iload 4, 2) := by decide +kernel
theorem dX9_change_24 : decode cX9_change 24 = .ok (.iload_n 1, 1) := by decide +kernel
theorem dX9_change_25 : decode cX9_change 25 = .ok (.iastore, 1) := by decide +kernel
theorem dX9_change_26 : decode cX9_change 26 = .ok (.aload_n 0, 1) := by decide +kernel
theorem dX9_change_27 : decode cX9_change 27 = .ok (.getfield 18, 3) := by decide +kernel
theorem dX9_change_30 : decode cX9_change 30 = .ok (.iload 4, 2) := by decide +kernel
theorem dX9_change_32 : decode cX9_change 32 = .ok (.iload_n 2, 1) := by decide +kernel
theorem dX9_change_33 : decode cX9_change 33 = .ok (.iastore, 1) := by decide +kernel
theorem dX9_change_34 : decode cX9_change 34 = .ok (.aload_n 0, 1) := by decide +kernel
theorem dX9_change_35 : decode cX9_change 35 = .ok (.getfield 21, 3) := by decide +kernel
theorem dX9_change_38 : decode cX9_change 38 = .ok (.iload 4, 2) := by decide +kernel
theorem dX9_change_40 : decode cX9_change 40 = .ok (.iload_n 3, 1) := by decide +kernel
theorem dX9_change_41 : decode cX9_change 41 = .ok (.iastore, 1) := by decide +kernel
theorem dX9_change_42 : decode cX9_change 42 = .ok (.aload_n 0, 1) := by decide +kernel
theorem dX9_change_43 : decode cX9_change 43 = .ok (.aload_n 0, 1) := by decide +kernel
theorem dX9_change_44 : decode cX9_change 44 = .ok (.getfield 39, 3) := by decide +kernel
theorem dX9_change_47 : decode cX9_change 47 = .ok (.iload 4, 2) := by decide +kernel
theorem dX9_change_49 : decode cX9_change 49 = .ok (.iconst 1, 1) := by decide +kernel
theorem dX9_change_50 : decode cX9_change 50 = .ok (.iadd, 1) := by decide +kernel
theorem dX9_change_51 : decode cX9_change 51 = .ok (.invokestatic 42, 3) := by decide +kernel
theorem dX9_change_54 : decode cX9_change 54 = .ok (.putfield 39, 3) := by decide +kernel
theorem dX9_change_57 : decode cX9_change 57 = .ok (.iconst 0, 1) := by decide +kernel
theorem dX9_change_58 : decode cX9_change 58 = .ok (.ireturn, 1) := by decide +kernel
theorem dX9_placeOf_0 : decode cX9_placeOf 0 = .ok (.iconst 0, 1) := by decide +kernel
theorem dX9_placeOf_1 : decode cX9_placeOf 1 = .ok (.istore_n 3, 1) := by decide +kernel
theorem dX9_placeOf_2 : decode cX9_placeOf 2 = .ok (.iload_n 3, 1) := by decide +kernel
theorem dX9_placeOf_3 : decode cX9_placeOf 3 = .ok (.aload_n 0, 1) := by decide +kernel
theorem dX9_placeOf_4 : decode cX9_placeOf 4 = .ok (.getfield 39, 3) := by decide +kernel
theorem dX9_placeOf_7 : decode cX9_placeOf 7 = .ok (.if_icmp .ge 31, 3) := by decide +kernel
theorem dX9_placeOf_10 : decode cX9_placeOf 10 = .ok (.aload_n 0, 1) := by decide +kernel
theorem dX9_placeOf_11 : decode cX9_placeOf 11 = .ok (.getfield 15, 3) := by decide +kernel
theorem dX9_placeOf_14 : decode cX9_placeOf 14 = .ok (.iload_n 3, 1) := by decide +kernel
theorem dX9_placeOf_15 : decode cX9_placeOf 15 = .ok (.iaload, 1) := by decide +kernel
theorem dX9_placeOf_16 : decode cX9_placeOf 16 = .ok (.iload_n 1, 1) := by decide +kernel
theorem dX9_placeOf_17 : decode cX9_placeOf 17 = .ok (.if_icmp .ne 15, 3) := by decide +kernel
theorem dX9_placeOf_20 : decode cX9_placeOf 20 = .ok (.aload_n 0, 1) := by decide +kernel
theorem dX9_placeOf_21 : decode cX9_placeOf 21 = .ok (.getfield 18, 3) := by decide +kernel
theorem dX9_placeOf_24 : decode cX9_placeOf 24 = .ok (.iload_n 3, 1) := by decide +kernel
theorem dX9_placeOf_25 : decode cX9_placeOf 25 = .ok (.iaload, 1) := by decide +kernel
theorem dX9_placeOf_26 : decode cX9_placeOf 26 = .ok (.iload_n 2, 1) := by decide +kernel
theorem dX9_placeOf_27 : decode cX9_placeOf 27 = .ok (.if_icmp .ne 5, 3) := by decide +kernel
theorem dX9_placeOf_30 : decode cX9_placeOf 30 = .ok (.iload_n 3, 1) := by decide +kernel
theorem dX9_placeOf_31 : decode cX9_placeOf 31 = .ok (.ireturn, 1) := by decide +kernel
theorem dX9_placeOf_32 : decode cX9_placeOf 32 = .ok (.iinc 3 1, 3) := by decide +kernel
theorem dX9_placeOf_35 : decode cX9_placeOf 35 = .ok (.goto (-33), 3) := by decide +kernel
theorem dX9_placeOf_38 : decode cX9_placeOf 38 = .ok (.aload_n 0, 1) := by decide +kernel
theorem dX9_placeOf_39 : decode cX9_placeOf 39 = .ok (.getfield 39, 3) := by decide +kernel
theorem dX9_placeOf_42 : decode cX9_placeOf 42 = .ok (.ireturn, 1) := by decide +kernel
theorem dX9_settle_0 : decode cX9_settle 0 = .ok (.iconst 0, 1) := by decide +kernel
theorem dX9_settle_1 : decode cX9_settle 1 = .ok (.istore_n 2, 1) := by decide +kernel
theorem dX9_settle_2 : decode cX9_settle 2 = .ok (.iload_n 2, 1) := by decide +kernel
theorem dX9_settle_3 : decode cX9_settle 3 = .ok (.aload_n 0, 1) := by decide +kernel
theorem dX9_settle_4 : decode cX9_settle 4 = .ok (.getfield 27, 3) := by decide +kernel
theorem dX9_settle_7 : decode cX9_settle 7 = .ok (.if_icmp .ge 21, 3) := by decide +kernel
theorem dX9_settle_10 : decode cX9_settle 10 = .ok (.aload_n 0, 1) := by decide +kernel
theorem dX9_settle_11 : decode cX9_settle 11 = .ok (.getfield 24, 3) := by decide +kernel
theorem dX9_settle_14 : decode cX9_settle 14 = .ok (.iload_n 2, 1) := by decide +kernel
theorem dX9_settle_15 : decode cX9_settle 15 = .ok (.aload_n 0, 1) := by decide +kernel
theorem dX9_settle_16 : decode cX9_settle 16 = .ok (.getfield 9, 3) := by decide +kernel
theorem dX9_settle_19 : decode cX9_settle 19 = .ok (.iload_n 2, 1) := by decide +kernel
theorem dX9_settle_20 : decode cX9_settle 20 = .ok (.iaload, 1) := by decide +kernel
theorem dX9_settle_21 : decode cX9_settle 21 = .ok (.iastore, 1) := by decide +kernel
theorem dX9_settle_22 : decode cX9_settle 22 = .ok (.iinc 2 1, 3) := by decide +kernel
theorem dX9_settle_25 : decode cX9_settle 25 = .ok (.goto (-23), 3) := by decide +kernel
theorem dX9_settle_28 : decode cX9_settle 28 = .ok (.iconst 0, 1) := by decide +kernel
theorem dX9_settle_29 : decode cX9_settle 29 = .ok (.istore_n 2, 1) := by decide +kernel
theorem dX9_settle_30 : decode cX9_settle 30 = .ok (.iload_n 2, 1) := by decide +kernel
theorem dX9_settle_31 : decode cX9_settle 31 = .ok (.aload_n 0, 1) := by decide +kernel
theorem dX9_settle_32 : decode cX9_settle 32 = .ok (.getfield 39, 3) := by decide +kernel
theorem dX9_settle_35 : decode cX9_settle 35 = .ok (.if_icmp .ge 36, 3) := by decide +kernel
theorem dX9_settle_38 : decode cX9_settle 38 = .ok (.aload_n 0, 1) := by decide +kernel
theorem dX9_settle_39 : decode cX9_settle 39 = .ok (.getfield 18, 3) := by decide +kernel
theorem dX9_settle_42 : decode cX9_settle 42 = .ok (.iload_n 2, 1) := by decide +kernel
theorem dX9_settle_43 : decode cX9_settle 43 = .ok (.iaload, 1) := by decide +kernel
theorem dX9_settle_44 : decode cX9_settle 44 = .ok (.iload_n 1, 1) := by decide +kernel
theorem dX9_settle_45 : decode cX9_settle 45 = .ok (.if_icmp .ne 20, 3) := by decide +kernel
theorem dX9_settle_48 : decode cX9_settle 48 = .ok (.aload_n 0, 1) := by decide +kernel
theorem dX9_settle_49 : decode cX9_settle 49 = .ok (.getfield 24, 3) := by decide +kernel
theorem dX9_settle_52 : decode cX9_settle 52 = .ok (.aload_n 0, 1) := by decide +kernel
theorem dX9_settle_53 : decode cX9_settle 53 = .ok (.getfield 15, 3) := by decide +kernel
theorem dX9_settle_56 : decode cX9_settle 56 = .ok (.iload_n 2, 1) := by decide +kernel
theorem dX9_settle_57 : decode cX9_settle 57 = .ok (.iaload, 1) := by decide +kernel
theorem dX9_settle_58 : decode cX9_settle 58 = .ok (.aload_n 0, 1) := by decide +kernel
theorem dX9_settle_59 : decode cX9_settle 59 = .ok (.getfield 21, 3) := by decide +kernel
theorem dX9_settle_62 : decode cX9_settle 62 = .ok (.iload_n 2, 1) := by decide +kernel
theorem dX9_settle_63 : decode cX9_settle 63 = .ok (.iaload, 1) := by decide +kernel
theorem dX9_settle_64 : decode cX9_settle 64 = .ok (.iastore, 1) := by decide +kernel
theorem dX9_settle_65 : decode cX9_settle 65 = .ok (.iinc 2 1, 3) := by decide +kernel
theorem dX9_settle_68 : decode cX9_settle 68 = .ok (.goto (-38), 3) := by decide +kernel
theorem dX9_settle_71 : decode cX9_settle 71 = .ok (.return_, 1) := by decide +kernel
theorem dX9_draw_0 : decode cX9_draw 0 = .ok (.aload_n 0, 1) := by decide +kernel
theorem dX9_draw_1 : decode cX9_draw 1 = .ok (.getfield 24, 3) := by decide +kernel
theorem dX9_draw_4 : decode cX9_draw 4 = .ok (.iload_n 1, 1) := by decide +kernel
theorem dX9_draw_5 : decode cX9_draw 5 = .ok (.iaload, 1) := by decide +kernel
theorem dX9_draw_6 : decode cX9_draw 6 = .ok (.iload_n 2, 1) := by decide +kernel
theorem dX9_draw_7 : decode cX9_draw 7 = .ok (.invokestatic 47, 3) := by decide +kernel
theorem dX9_draw_10 : decode cX9_draw 10 = .ok (.istore_n 3, 1) := by decide +kernel
theorem dX9_draw_11 : decode cX9_draw 11 = .ok (.aload_n 0, 1) := by decide +kernel
theorem dX9_draw_12 : decode cX9_draw 12 = .ok (.getfield 24, 3) := by decide +kernel
theorem dX9_draw_15 : decode cX9_draw 15 = .ok (.iload_n 1, 1) := by decide +kernel
theorem dX9_draw_16 : decode cX9_draw 16 = .ok (.dup2, 1) := by decide +kernel
theorem dX9_draw_17 : decode cX9_draw 17 = .ok (.iaload, 1) := by decide +kernel
theorem dX9_draw_18 : decode cX9_draw 18 = .ok (.iload_n 3, 1) := by decide +kernel
theorem dX9_draw_19 : decode cX9_draw 19 = .ok (.isub, 1) := by decide +kernel
theorem dX9_draw_20 : decode cX9_draw 20 = .ok (.iastore, 1) := by decide +kernel
theorem dX9_draw_21 : decode cX9_draw 21 = .ok (.iload_n 3, 1) := by decide +kernel
theorem dX9_draw_22 : decode cX9_draw 22 = .ok (.ireturn, 1) := by decide +kernel
theorem dX10_init_0 : decode cX10_init 0 = .ok (.aload_n 0, 1) := by decide +kernel
theorem dX10_init_1 : decode cX10_init 1 = .ok (.invokespecial 3, 3) := by decide +kernel
theorem dX10_init_4 : decode cX10_init 4 = .ok (.aload_n 0, 1) := by decide +kernel
theorem dX10_init_5 : decode cX10_init 5 = .ok (.sipush 400, 3) := by decide +kernel
theorem dX10_init_8 : decode cX10_init 8 = .ok (.newarray .byte, 2) := by decide +kernel
theorem dX10_init_10 : decode cX10_init 10 = .ok (.putfield 9, 3) := by decide +kernel
theorem dX10_init_13 : decode cX10_init 13 = .ok (.return_, 1) := by decide +kernel
theorem dX10_hasRoom_0 : decode cX10_hasRoom 0 = .ok (.aload_n 0, 1) := by decide +kernel
theorem dX10_hasRoom_1 : decode cX10_hasRoom 1 = .ok (.getfield 15, 3) := by decide +kernel
theorem dX10_hasRoom_4 : decode cX10_hasRoom 4 = .ok (.iload_n 1, 1) := by decide +kernel
theorem dX10_hasRoom_5 : decode cX10_hasRoom 5 = .ok (.iadd, 1) := by decide +kernel
theorem dX10_hasRoom_6 : decode cX10_hasRoom 6 = .ok (.sipush 400, 3) := by decide +kernel
theorem dX10_hasRoom_9 : decode cX10_hasRoom 9 = .ok (.if_icmp .gt 7, 3) := by decide +kernel
theorem dX10_hasRoom_12 : decode cX10_hasRoom 12 = .ok (.iconst 1, 1) := by decide +kernel
theorem dX10_hasRoom_13 : decode cX10_hasRoom 13 = .ok (.goto 4, 3) := by decide +kernel
theorem dX10_hasRoom_16 : decode cX10_hasRoom 16 = .ok (.iconst 0, 1) := by decide +kernel
theorem dX10_hasRoom_17 : decode cX10_hasRoom 17 = .ok (.ireturn, 1) := by decide +kernel
theorem dX10_write_0 : decode cX10_write 0 = .ok (.aload_n 0, 1) := by decide +kernel
theorem dX10_write_1 : decode cX10_write 1 = .ok (.iconst 4, 1) := by decide +kernel
theorem dX10_write_2 : decode cX10_write 2 = .ok (.invokevirtual 19, 3) := by decide +kernel
theorem dX10_write_5 : decode cX10_write 5 = .ok (.ifCond .ne 4, 3) := by decide +kernel
theorem dX10_write_8 : decode cX10_write 8 = .ok (.return_, 1) := by decide +kernel
theorem dX10_write_9 : decode cX10_write 9 = .ok (.bipush 24, 2) := by decide +kernel
theorem dX10_write_11 : decode cX10_write 11 = .ok (.istore_n 2, 1) := by decide +kernel
theorem dX10_write_12 : decode cX10_write 12 = .ok (.iload_n 2, 1) := by decide +kernel
theorem dX10_write_13 : decode cX10_write 13 = .ok (.ifCond .lt 32, 3) := by decide +kernel
theorem dX10_write_16 : decode cX10_write 16 = .ok (.aload_n 0, 1) := by decide +kernel
theorem dX10_write_17 : decode cX10_write 17 = .ok (.getfield 9, 3) := by decide +kernel
theorem dX10_write_20 : decode cX10_write 20 = .ok (.aload_n 0, 1) := by decide +kernel
theorem dX10_write_21 : decode cX10_write 21 = .ok (.getfield 15, 3) := by decide +kernel
theorem dX10_write_24 : decode cX10_write 24 = .ok (.iload_n 1, 1) := by decide +kernel
theorem dX10_write_25 : decode cX10_write 25 = .ok (.iload_n 2, 1) := by decide +kernel
theorem dX10_write_26 : decode cX10_write 26 = .ok (.ishr, 1) := by decide +kernel
theorem dX10_write_27 : decode cX10_write 27 = .ok (.i2b, 1) := by decide +kernel
theorem dX10_write_28 : decode cX10_write 28 = .ok (.bastore, 1) := by decide +kernel
theorem dX10_write_29 : decode cX10_write 29 = .ok (.aload_n 0, 1) := by decide +kernel
theorem dX10_write_30 : decode cX10_write 30 = .ok (.dup, 1) := by decide +kernel
theorem dX10_write_31 : decode cX10_write 31 = .ok (.getfield 15, 3) := by decide +kernel
theorem dX10_write_34 : decode cX10_write 34 = .ok (.iconst 1, 1) := by decide +kernel
theorem dX10_write_35 : decode cX10_write 35 = .ok (.iadd, 1) := by decide +kernel
theorem dX10_write_36 : decode cX10_write 36 = .ok (.putfield 15, 3) := by decide +kernel
theorem dX10_write_39 : decode cX10_write 39 = .ok (.iinc 2 (-8), 3) := by decide +kernel
theorem dX10_write_42 : decode cX10_write 42 = .ok (.goto (-30), 3) := by decide +kernel
theorem dX10_write_45 : decode cX10_write 45 = .ok (.return_, 1) := by decide +kernel
theorem dX10_byteAt_0 : decode cX10_byteAt 0 = .ok (.iload_n 1, 1) := by decide +kernel
theorem dX10_byteAt_1 : decode cX10_byteAt 1 = .ok (.ifCond .lt 24, 3) := by decide +kernel
theorem dX10_byteAt_4 : decode cX10_byteAt 4 = .ok (.iload_n 1, 1) := by decide +kernel
theorem dX10_byteAt_5 : decode cX10_byteAt 5 = .ok (.aload_n 0, 1) := by decide +kernel
theorem dX10_byteAt_6 : decode cX10_byteAt 6 = .ok (.getfield 15, 3) := by decide +kernel
theorem dX10_byteAt_9 : decode cX10_byteAt 9 = .ok (.if_icmp .ge 16, 3) := by decide +kernel
theorem dX10_byteAt_12 : decode cX10_byteAt 12 = .ok (.aload_n 0, 1) := by decide +kernel
theorem dX10_byteAt_13 : decode cX10_byteAt 13 = .ok (.getfield 9, 3) := by decide +kernel
theorem dX10_byteAt_16 : decode cX10_byteAt 16 = .ok (.iload_n 1, 1) := by decide +kernel
theorem dX10_byteAt_17 : decode cX10_byteAt 17 = .ok (.baload, 1) := by decide +kernel
theorem dX10_byteAt_18 : decode cX10_byteAt 18 = .ok (.sipush 255, 3) := by decide +kernel
end
section
theorem dX10_byteAt_21 : decode cX10_byteAt 21 = .ok (.iand, 1) := by decide +kernel
theorem dX10_byteAt_22 : decode cX10_byteAt 22 = .ok (.goto 4, 3) := by decide +kernel
theorem dX10_byteAt_25 : decode cX10_byteAt 25 = .ok (.iconst (-1), 1) := by decide +kernel
theorem dX10_byteAt_26 : decode cX10_byteAt 26 = .ok (.ireturn, 1) := by decide +kernel
theorem dX11_init_0 : decode cX11_init 0 = .ok (.aload_n 0, 1) := by decide +kernel
theorem dX11_init_1 : decode cX11_init 1 = .ok (.invokespecial 3, 3) := by decide +kernel
theorem dX11_init_4 : decode cX11_init 4 = .ok (.aload_n 0, 1) := by decide +kernel
theorem dX11_init_5 : decode cX11_init 5 = .ok (.new 9, 3) := by decide +kernel
theorem dX11_init_8 : decode cX11_init 8 = .ok (.dup, 1) := by decide +kernel
theorem dX11_init_9 : decode cX11_init 9 = .ok (.invokespecial 11, 3) := by decide +kernel
theorem dX11_init_12 : decode cX11_init 12 = .ok (.putfield 12, 3) := by decide +kernel
theorem dX11_init_15 : decode cX11_init 15 = .ok (.aload_n 0, 1) := by decide +kernel
theorem dX11_init_16 : decode cX11_init 16 = .ok (.new 16, 3) := by decide +kernel
theorem dX11_init_19 : decode cX11_init 19 = .ok (.dup, 1) := by decide +kernel
theorem dX11_init_20 : decode cX11_init 20 = .ok (.aload_n 0, 1) := by decide +kernel
theorem dX11_init_21 : decode cX11_init 21 = .ok (.getfield 12, 3) := by decide +kernel
theorem dX11_init_24 : decode cX11_init 24 = .ok (.invokespecial 18, 3) := by decide +kernel
theorem dX11_init_27 : decode cX11_init 27 = .ok (.putfield 21, 3) := by decide +kernel
theorem dX11_init_30 : decode cX11_init 30 = .ok (.aload_n 0, 1) := by decide +kernel
theorem dX11_init_31 : decode cX11_init 31 = .ok (.new 25, 3) := by decide +kernel
theorem dX11_init_34 : decode cX11_init 34 = .ok (.dup, 1) := by decide +kernel
theorem dX11_init_35 : decode cX11_init 35 = .ok (.invokespecial 27, 3) := by decide +kernel
theorem dX11_init_38 : decode cX11_init 38 = .ok (.putfield 28, 3) := by decide +kernel
theorem dX11_init_41 : decode cX11_init 41 = .ok (.aload_n 0, 1) := by decide +kernel
theorem dX11_init_42 : decode cX11_init 42 = .ok (.new 32, 3) := by decide +kernel
theorem dX11_init_45 : decode cX11_init 45 = .ok (.dup, 1) := by decide +kernel
theorem dX11_init_46 : decode cX11_init 46 = .ok (.invokespecial 34, 3) := by decide +kernel
theorem dX11_init_49 : decode cX11_init 49 = .ok (.putfield 35, 3) := by decide +kernel
theorem dX11_init_52 : decode cX11_init 52 = .ok (.aload_n 0, 1) := by decide +kernel
theorem dX11_init_53 : decode cX11_init 53 = .ok (.new 39, 3) := by decide +kernel
theorem dX11_init_56 : decode cX11_init 56 = .ok (.dup, 1) := by decide +kernel
theorem dX11_init_57 : decode cX11_init 57 = .ok (.invokespecial 41, 3) := by decide +kernel
theorem dX11_init_60 : decode cX11_init 60 = .ok (.putfield 42, 3) := by decide +kernel
theorem dX11_init_63 : decode cX11_init 63 = .ok (.aload_n 0, 1) := by decide +kernel
theorem dX11_init_64 : decode cX11_init 64 = .ok (.new 46, 3) := by decide +kernel
theorem dX11_init_67 : decode cX11_init 67 = .ok (.dup, 1) := by decide +kernel
theorem dX11_init_68 : decode cX11_init 68 = .ok (.invokespecial 48, 3) := by decide +kernel
theorem dX11_init_71 : decode cX11_init 71 = .ok (.putfield 49, 3) := by decide +kernel
theorem dX11_init_74 : decode cX11_init 74 = .ok (.aload_n 0, 1) := by decide +kernel
theorem dX11_init_75 : decode cX11_init 75 = .ok (.new 53, 3) := by decide +kernel
theorem dX11_init_78 : decode cX11_init 78 = .ok (.dup, 1) := by decide +kernel
theorem dX11_init_79 : decode cX11_init 79 = .ok (.invokespecial 55, 3) := by decide +kernel
theorem dX11_init_82 : decode cX11_init 82 = .ok (.putfield 56, 3) := by decide +kernel
theorem dX11_init_85 : decode cX11_init 85 = .ok (.aload_n 0, 1) := by decide +kernel
theorem dX11_init_86 : decode cX11_init 86 = .ok (.new 60, 3) := by decide +kernel
theorem dX11_init_89 : decode cX11_init 89 = .ok (.dup, 1) := by decide +kernel
theorem dX11_init_90 : decode cX11_init 90 = .ok (.bipush 60, 2) := by decide +kernel
theorem dX11_init_92 : decode cX11_init 92 = .ok (.invokespecial 62, 3) := by decide +kernel
theorem dX11_init_95 : decode cX11_init 95 = .ok (.putfield 65, 3) := by decide +kernel
theorem dX11_init_98 : decode cX11_init 98 = .ok (.aload_n 0, 1) := by decide +kernel
theorem dX11_init_99 : decode cX11_init 99 = .ok (.new 60, 3) := by decide +kernel
theorem dX11_init_102 : decode cX11_init 102 = .ok (.dup, 1) := by decide +kernel
theorem dX11_init_103 : decode cX11_init 103 = .ok (.bipush 40, 2) := by decide +kernel
theorem dX11_init_105 : decode cX11_init 105 = .ok (.invokespecial 62, 3) := by decide +kernel
theorem dX11_init_108 : decode cX11_init 108 = .ok (.putfield 69, 3) := by decide +kernel
theorem dX11_init_111 : decode cX11_init 111 = .ok (.aload_n 0, 1) := by decide +kernel
theorem dX11_init_112 : decode cX11_init 112 = .ok (.new 72, 3) := by decide +kernel
theorem dX11_init_115 : decode cX11_init 115 = .ok (.dup, 1) := by decide +kernel
theorem dX11_init_116 : decode cX11_init 116 = .ok (.aload_n 0, 1) := by decide +kernel
theorem dX11_init_117 : decode cX11_init 117 = .ok (.getfield 28, 3) := by decide +kernel
theorem dX11_init_120 : decode cX11_init 120 = .ok (.aload_n 0, 1) := by decide +kernel
theorem dX11_init_121 : decode cX11_init 121 = .ok (.getfield 35, 3) := by decide +kernel
theorem dX11_init_124 : decode cX11_init 124 = .ok (.aload_n 0, 1) := by decide +kernel
theorem dX11_init_125 : decode cX11_init 125 = .ok (.getfield 42, 3) := by decide +kernel
theorem dX11_init_128 : decode cX11_init 128 = .ok (.aload_n 0, 1) := by decide +kernel
theorem dX11_init_129 : decode cX11_init 129 = .ok (.getfield 49, 3) := by decide +kernel
theorem dX11_init_132 : decode cX11_init 132 = .ok (.aload_n 0, 1) := by decide +kernel
theorem dX11_init_133 : decode cX11_init 133 = .ok (.getfield 56, 3) := by decide +kernel
theorem dX11_init_136 : decode cX11_init 136 = .ok (.aload_n 0, 1) := by decide +kernel
theorem dX11_init_137 : decode cX11_init 137 = .ok (.getfield 65, 3) := by decide +kernel
theorem dX11_init_140 : decode cX11_init 140 = .ok (.aload_n 0, 1) := by decide +kernel
theorem dX11_init_141 : decode cX11_init 141 = .ok (.getfield 69, 3) := by decide +kernel
theorem dX11_init_144 : decode cX11_init 144 = .ok (.invokespecial 74, 3) := by decide +kernel
theorem dX11_init_147 : decode cX11_init 147 = .ok (.putfield 77, 3) := by decide +kernel
theorem dX11_init_150 : decode cX11_init 150 = .ok (.aload_n 0, 1) := by decide +kernel
theorem dX11_init_151 : decode cX11_init 151 = .ok (.sipush 201, 3) := by decide +kernel
theorem dX11_init_154 : decode cX11_init 154 = .ok (.newarray .int, 2) := by decide +kernel
theorem dX11_init_156 : decode cX11_init 156 = .ok (.putfield 81, 3) := by decide +kernel
theorem dX11_init_159 : decode cX11_init 159 = .ok (.return_, 1) := by decide +kernel
theorem dX11_aqueduct_0 : decode cX11_aqueduct 0 = .ok (.iload_n 1, 1) := by decide +kernel
theorem dX11_aqueduct_1 : decode cX11_aqueduct 1 = .ok (.iconst 0, 1) := by decide +kernel
theorem dX11_aqueduct_2 : decode cX11_aqueduct 2 = .ok (.ldc 85, 2) := by decide +kernel
theorem dX11_aqueduct_4 : decode cX11_aqueduct 4 = .ok (.invokestatic 86, 3) := by decide +kernel
theorem dX11_aqueduct_7 : decode cX11_aqueduct 7 = .ok (.ifCond .ne 9, 3) := by decide +kernel
theorem dX11_aqueduct_10 : decode cX11_aqueduct 10 = .ok (.aload_n 0, 1) := by decide +kernel
theorem dX11_aqueduct_11 : decode cX11_aqueduct 11 = .ok (.iconst (-1), 1) := by decide +kernel
theorem dX11_aqueduct_12 : decode cX11_aqueduct 12 = .ok (.invokevirtual 90, 3) := by decide +kernel
theorem dX11_aqueduct_15 : decode cX11_aqueduct 15 = .ok (.ireturn, 1) := by decide +kernel
theorem dX11_aqueduct_16 : decode cX11_aqueduct 16 = .ok (.aload_n 0, 1) := by decide +kernel
theorem dX11_aqueduct_17 : decode cX11_aqueduct 17 = .ok (.aload_n 0, 1) := by decide +kernel
theorem dX11_aqueduct_18 : decode cX11_aqueduct 18 = .ok (.getfield 42, 3) := by decide +kernel
theorem dX11_aqueduct_21 : decode cX11_aqueduct 21 = .ok (.iload_n 1, 1) := by decide +kernel
theorem dX11_aqueduct_22 : decode cX11_aqueduct 22 = .ok (.invokevirtual 94, 3) := by decide +kernel
theorem dX11_aqueduct_25 : decode cX11_aqueduct 25 = .ok (.invokevirtual 90, 3) := by decide +kernel
theorem dX11_aqueduct_28 : decode cX11_aqueduct 28 = .ok (.ireturn, 1) := by decide +kernel
theorem dX11_spring_0 : decode cX11_spring 0 = .ok (.iload_n 2, 1) := by decide +kernel
theorem dX11_spring_1 : decode cX11_spring 1 = .ok (.invokestatic 97, 3) := by decide +kernel
theorem dX11_spring_4 : decode cX11_spring 4 = .ok (.ifCond .eq 13, 3) := by decide +kernel
theorem dX11_spring_7 : decode cX11_spring 7 = .ok (.iload_n 3, 1) := by decide +kernel
theorem dX11_spring_8 : decode cX11_spring 8 = .ok (.iconst 0, 1) := by decide +kernel
theorem dX11_spring_9 : decode cX11_spring 9 = .ok (.ldc 85, 2) := by decide +kernel
theorem dX11_spring_11 : decode cX11_spring 11 = .ok (.invokestatic 86, 3) := by decide +kernel
theorem dX11_spring_14 : decode cX11_spring 14 = .ok (.ifCond .ne 9, 3) := by decide +kernel
theorem dX11_spring_17 : decode cX11_spring 17 = .ok (.aload_n 0, 1) := by decide +kernel
theorem dX11_spring_18 : decode cX11_spring 18 = .ok (.iconst (-1), 1) := by decide +kernel
theorem dX11_spring_19 : decode cX11_spring 19 = .ok (.invokevirtual 90, 3) := by decide +kernel
theorem dX11_spring_22 : decode cX11_spring 22 = .ok (.ireturn, 1) := by decide +kernel
theorem dX11_spring_23 : decode cX11_spring 23 = .ok (.aload_n 0, 1) := by decide +kernel
theorem dX11_spring_24 : decode cX11_spring 24 = .ok (.getfield 42, 3) := by decide +kernel
theorem dX11_spring_27 : decode cX11_spring 27 = .ok (.iload_n 1, 1) := by decide +kernel
theorem dX11_spring_28 : decode cX11_spring 28 = .ok (.invokevirtual 101, 3) := by decide +kernel
theorem dX11_spring_31 : decode cX11_spring 31 = .ok (.ifCond .ne 10, 3) := by decide +kernel
theorem dX11_spring_34 : decode cX11_spring 34 = .ok (.aload_n 0, 1) := by decide +kernel
theorem dX11_spring_35 : decode cX11_spring 35 = .ok (.bipush (-2), 2) := by decide +kernel
theorem dX11_spring_37 : decode cX11_spring 37 = .ok (.invokevirtual 90, 3) := by decide +kernel
theorem dX11_spring_40 : decode cX11_spring 40 = .ok (.ireturn, 1) := by decide +kernel
theorem dX11_spring_41 : decode cX11_spring 41 = .ok (.aload_n 0, 1) := by decide +kernel
theorem dX11_spring_42 : decode cX11_spring 42 = .ok (.aload_n 0, 1) := by decide +kernel
theorem dX11_spring_43 : decode cX11_spring 43 = .ok (.getfield 42, 3) := by decide +kernel
theorem dX11_spring_46 : decode cX11_spring 46 = .ok (.iload_n 1, 1) := by decide +kernel
theorem dX11_spring_47 : decode cX11_spring 47 = .ok (.iload_n 2, 1) := by decide +kernel
theorem dX11_spring_48 : decode cX11_spring 48 = .ok (.iload_n 3, 1) := by decide +kernel
theorem dX11_spring_49 : decode cX11_spring 49 = .ok (.invokevirtual 104, 3) := by decide +kernel
theorem dX11_spring_52 : decode cX11_spring 52 = .ok (.invokevirtual 90, 3) := by decide +kernel
theorem dX11_spring_55 : decode cX11_spring 55 = .ok (.ireturn, 1) := by decide +kernel
theorem dX11_castle_0 : decode cX11_castle 0 = .ok (.iload_n 2, 1) := by decide +kernel
theorem dX11_castle_1 : decode cX11_castle 1 = .ok (.iconst 1, 1) := by decide +kernel
theorem dX11_castle_2 : decode cX11_castle 2 = .ok (.ldc 85, 2) := by decide +kernel
theorem dX11_castle_4 : decode cX11_castle 4 = .ok (.invokestatic 86, 3) := by decide +kernel
theorem dX11_castle_7 : decode cX11_castle 7 = .ok (.ifCond .eq 14, 3) := by decide +kernel
theorem dX11_castle_10 : decode cX11_castle 10 = .ok (.iload_n 3, 1) := by decide +kernel
theorem dX11_castle_11 : decode cX11_castle 11 = .ok (.iconst 0, 1) := by decide +kernel
theorem dX11_castle_12 : decode cX11_castle 12 = .ok (.sipush 1000, 3) := by decide +kernel
theorem dX11_castle_15 : decode cX11_castle 15 = .ok (.invokestatic 86, 3) := by decide +kernel
theorem dX11_castle_18 : decode cX11_castle 18 = .ok (.ifCond .ne 9, 3) := by decide +kernel
theorem dX11_castle_21 : decode cX11_castle 21 = .ok (.aload_n 0, 1) := by decide +kernel
theorem dX11_castle_22 : decode cX11_castle 22 = .ok (.iconst (-1), 1) := by decide +kernel
theorem dX11_castle_23 : decode cX11_castle 23 = .ok (.invokevirtual 90, 3) := by decide +kernel
theorem dX11_castle_26 : decode cX11_castle 26 = .ok (.ireturn, 1) := by decide +kernel
theorem dX11_castle_27 : decode cX11_castle 27 = .ok (.aload_n 0, 1) := by decide +kernel
theorem dX11_castle_28 : decode cX11_castle 28 = .ok (.iload_n 1, 1) := by decide +kernel
theorem dX11_castle_29 : decode cX11_castle 29 = .ok (.invokevirtual 108, 3) := by decide +kernel
theorem dX11_castle_32 : decode cX11_castle 32 = .ok (.ifCond .ne 10, 3) := by decide +kernel
theorem dX11_castle_35 : decode cX11_castle 35 = .ok (.aload_n 0, 1) := by decide +kernel
theorem dX11_castle_36 : decode cX11_castle 36 = .ok (.bipush (-2), 2) := by decide +kernel
theorem dX11_castle_38 : decode cX11_castle 38 = .ok (.invokevirtual 90, 3) := by decide +kernel
theorem dX11_castle_41 : decode cX11_castle 41 = .ok (.ireturn, 1) := by decide +kernel
theorem dX11_castle_42 : decode cX11_castle 42 = .ok (.aload_n 0, 1) := by decide +kernel
theorem dX11_castle_43 : decode cX11_castle 43 = .ok (.aload_n 0, 1) := by decide +kernel
theorem dX11_castle_44 : decode cX11_castle 44 = .ok (.getfield 49, 3) := by decide +kernel
theorem dX11_castle_47 : decode cX11_castle 47 = .ok (.iload_n 1, 1) := by decide +kernel
theorem dX11_castle_48 : decode cX11_castle 48 = .ok (.iload_n 2, 1) := by decide +kernel
theorem dX11_castle_49 : decode cX11_castle 49 = .ok (.iload_n 3, 1) := by decide +kernel
theorem dX11_castle_50 : decode cX11_castle 50 = .ok (.invokevirtual 111, 3) := by decide +kernel
theorem dX11_castle_53 : decode cX11_castle 53 = .ok (.invokevirtual 90, 3) := by decide +kernel
theorem dX11_castle_56 : decode cX11_castle 56 = .ok (.ireturn, 1) := by decide +kernel
theorem dX11_person_0 : decode cX11_person 0 = .ok (.aload_n 0, 1) := by decide +kernel
theorem dX11_person_1 : decode cX11_person 1 = .ok (.getfield 114, 3) := by decide +kernel
theorem dX11_person_4 : decode cX11_person 4 = .ok (.bipush 40, 2) := by decide +kernel
theorem dX11_person_6 : decode cX11_person 6 = .ok (.if_icmp .lt 10, 3) := by decide +kernel
theorem dX11_person_9 : decode cX11_person 9 = .ok (.aload_n 0, 1) := by decide +kernel
theorem dX11_person_10 : decode cX11_person 10 = .ok (.bipush (-5), 2) := by decide +kernel
theorem dX11_person_12 : decode cX11_person 12 = .ok (.invokevirtual 90, 3) := by decide +kernel
theorem dX11_person_15 : decode cX11_person 15 = .ok (.ireturn, 1) := by decide +kernel
theorem dX11_person_16 : decode cX11_person 16 = .ok (.aload_n 0, 1) := by decide +kernel
theorem dX11_person_17 : decode cX11_person 17 = .ok (.dup, 1) := by decide +kernel
theorem dX11_person_18 : decode cX11_person 18 = .ok (.getfield 114, 3) := by decide +kernel
theorem dX11_person_21 : decode cX11_person 21 = .ok (.iconst 1, 1) := by decide +kernel
theorem dX11_person_22 : decode cX11_person 22 = .ok (.iadd, 1) := by decide +kernel
theorem dX11_person_23 : decode cX11_person 23 = .ok (.putfield 114, 3) := by decide +kernel
theorem dX11_person_26 : decode cX11_person 26 = .ok (.aload_n 0, 1) := by decide +kernel
theorem dX11_person_27 : decode cX11_person 27 = .ok (.aload_n 0, 1) := by decide +kernel
theorem dX11_person_28 : decode cX11_person 28 = .ok (.getfield 114, 3) := by decide +kernel
theorem dX11_person_31 : decode cX11_person 31 = .ok (.iconst 1, 1) := by decide +kernel
theorem dX11_person_32 : decode cX11_person 32 = .ok (.isub, 1) := by decide +kernel
theorem dX11_person_33 : decode cX11_person 33 = .ok (.invokevirtual 90, 3) := by decide +kernel
theorem dX11_person_36 : decode cX11_person 36 = .ok (.ireturn, 1) := by decide +kernel
theorem dX11_death_0 : decode cX11_death 0 = .ok (.iload_n 2, 1) := by decide +kernel
theorem dX11_death_1 : decode cX11_death 1 = .ok (.invokestatic 97, 3) := by decide +kernel
theorem dX11_death_4 : decode cX11_death 4 = .ok (.ifCond .eq 10, 3) := by decide +kernel
theorem dX11_death_7 : decode cX11_death 7 = .ok (.iload_n 3, 1) := by decide +kernel
theorem dX11_death_8 : decode cX11_death 8 = .ok (.invokestatic 97, 3) := by decide +kernel
theorem dX11_death_11 : decode cX11_death 11 = .ok (.ifCond .ne 9, 3) := by decide +kernel
theorem dX11_death_14 : decode cX11_death 14 = .ok (.aload_n 0, 1) := by decide +kernel
theorem dX11_death_15 : decode cX11_death 15 = .ok (.iconst (-1), 1) := by decide +kernel
theorem dX11_death_16 : decode cX11_death 16 = .ok (.invokevirtual 90, 3) := by decide +kernel
theorem dX11_death_19 : decode cX11_death 19 = .ok (.ireturn, 1) := by decide +kernel
theorem dX11_death_20 : decode cX11_death 20 = .ok (.aload_n 0, 1) := by decide +kernel
theorem dX11_death_21 : decode cX11_death 21 = .ok (.iload_n 1, 1) := by decide +kernel
theorem dX11_death_22 : decode cX11_death 22 = .ok (.invokevirtual 118, 3) := by decide +kernel
theorem dX11_death_25 : decode cX11_death 25 = .ok (.ifCond .ne 10, 3) := by decide +kernel
theorem dX11_death_28 : decode cX11_death 28 = .ok (.aload_n 0, 1) := by decide +kernel
theorem dX11_death_29 : decode cX11_death 29 = .ok (.bipush (-2), 2) := by decide +kernel
theorem dX11_death_31 : decode cX11_death 31 = .ok (.invokevirtual 90, 3) := by decide +kernel
theorem dX11_death_34 : decode cX11_death 34 = .ok (.ireturn, 1) := by decide +kernel
theorem dX11_death_35 : decode cX11_death 35 = .ok (.aload_n 0, 1) := by decide +kernel
theorem dX11_death_36 : decode cX11_death 36 = .ok (.aload_n 0, 1) := by decide +kernel
theorem dX11_death_37 : decode cX11_death 37 = .ok (.getfield 35, 3) := by decide +kernel
theorem dX11_death_40 : decode cX11_death 40 = .ok (.iload_n 1, 1) := by decide +kernel
theorem dX11_death_41 : decode cX11_death 41 = .ok (.iload_n 2, 1) := by decide +kernel
theorem dX11_death_42 : decode cX11_death 42 = .ok (.iload_n 3, 1) := by decide +kernel
theorem dX11_death_43 : decode cX11_death 43 = .ok (.invokevirtual 121, 3) := by decide +kernel
theorem dX11_death_46 : decode cX11_death 46 = .ok (.invokevirtual 90, 3) := by decide +kernel
theorem dX11_death_49 : decode cX11_death 49 = .ok (.ireturn, 1) := by decide +kernel
theorem dX11_nozzle_0 : decode cX11_nozzle 0 = .ok (.iload_n 2, 1) := by decide +kernel
theorem dX11_nozzle_1 : decode cX11_nozzle 1 = .ok (.iconst 1, 1) := by decide +kernel
theorem dX11_nozzle_2 : decode cX11_nozzle 2 = .ok (.sipush 1000, 3) := by decide +kernel
theorem dX11_nozzle_5 : decode cX11_nozzle 5 = .ok (.invokestatic 86, 3) := by decide +kernel
theorem dX11_nozzle_8 : decode cX11_nozzle 8 = .ok (.ifCond .eq 25, 3) := by decide +kernel
theorem dX11_nozzle_11 : decode cX11_nozzle 11 = .ok (.iload_n 3, 1) := by decide +kernel
theorem dX11_nozzle_12 : decode cX11_nozzle 12 = .ok (.iconst 0, 1) := by decide +kernel
theorem dX11_nozzle_13 : decode cX11_nozzle 13 = .ok (.iconst 2, 1) := by decide +kernel
theorem dX11_nozzle_14 : decode cX11_nozzle 14 = .ok (.invokestatic 86, 3) := by decide +kernel
theorem dX11_nozzle_17 : decode cX11_nozzle 17 = .ok (.ifCond .eq 16, 3) := by decide +kernel
theorem dX11_nozzle_20 : decode cX11_nozzle 20 = .ok (.iload_n 3, 1) := by decide +kernel
theorem dX11_nozzle_21 : decode cX11_nozzle 21 = .ok (.iconst 2, 1) := by decide +kernel
theorem dX11_nozzle_22 : decode cX11_nozzle 22 = .ok (.if_icmp .eq 17, 3) := by decide +kernel
theorem dX11_nozzle_25 : decode cX11_nozzle 25 = .ok (.iload 4, 2) := by decide +kernel
theorem dX11_nozzle_27 : decode cX11_nozzle 27 = .ok (.invokestatic 124, 3) := by decide +kernel
theorem dX11_nozzle_30 : decode cX11_nozzle 30 = .ok (.ifCond .ne 9, 3) := by decide +kernel
theorem dX11_nozzle_33 : decode cX11_nozzle 33 = .ok (.aload_n 0, 1) := by decide +kernel
theorem dX11_nozzle_34 : decode cX11_nozzle 34 = .ok (.iconst (-1), 1) := by decide +kernel
theorem dX11_nozzle_35 : decode cX11_nozzle 35 = .ok (.invokevirtual 90, 3) := by decide +kernel
theorem dX11_nozzle_38 : decode cX11_nozzle 38 = .ok (.ireturn, 1) := by decide +kernel
theorem dX11_nozzle_39 : decode cX11_nozzle 39 = .ok (.aload_n 0, 1) := by decide +kernel
theorem dX11_nozzle_40 : decode cX11_nozzle 40 = .ok (.getfield 49, 3) := by decide +kernel
theorem dX11_nozzle_43 : decode cX11_nozzle 43 = .ok (.iload_n 1, 1) := by decide +kernel
theorem dX11_nozzle_44 : decode cX11_nozzle 44 = .ok (.invokevirtual 127, 3) := by decide +kernel
theorem dX11_nozzle_47 : decode cX11_nozzle 47 = .ok (.ifCond .eq 17, 3) := by decide +kernel
theorem dX11_nozzle_50 : decode cX11_nozzle 50 = .ok (.iload_n 3, 1) := by decide +kernel
theorem dX11_nozzle_51 : decode cX11_nozzle 51 = .ok (.iconst 2, 1) := by decide +kernel
theorem dX11_nozzle_52 : decode cX11_nozzle 52 = .ok (.if_icmp .ne 19, 3) := by decide +kernel
theorem dX11_nozzle_55 : decode cX11_nozzle 55 = .ok (.aload_n 0, 1) := by decide +kernel
theorem dX11_nozzle_56 : decode cX11_nozzle 56 = .ok (.iload 4, 2) := by decide +kernel
theorem dX11_nozzle_58 : decode cX11_nozzle 58 = .ok (.invokevirtual 118, 3) := by decide +kernel
theorem dX11_nozzle_61 : decode cX11_nozzle 61 = .ok (.ifCond .ne 10, 3) := by decide +kernel
theorem dX11_nozzle_64 : decode cX11_nozzle 64 = .ok (.aload_n 0, 1) := by decide +kernel
theorem dX11_nozzle_65 : decode cX11_nozzle 65 = .ok (.bipush (-2), 2) := by decide +kernel
theorem dX11_nozzle_67 : decode cX11_nozzle 67 = .ok (.invokevirtual 90, 3) := by decide +kernel
theorem dX11_nozzle_70 : decode cX11_nozzle 70 = .ok (.ireturn, 1) := by decide +kernel
theorem dX11_nozzle_71 : decode cX11_nozzle 71 = .ok (.aload_n 0, 1) := by decide +kernel
theorem dX11_nozzle_72 : decode cX11_nozzle 72 = .ok (.getfield 28, 3) := by decide +kernel
theorem dX11_nozzle_75 : decode cX11_nozzle 75 = .ok (.aload_n 0, 1) := by decide +kernel
theorem dX11_nozzle_76 : decode cX11_nozzle 76 = .ok (.getfield 130, 3) := by decide +kernel
theorem dX11_nozzle_79 : decode cX11_nozzle 79 = .ok (.invokevirtual 133, 3) := by decide +kernel
theorem dX11_nozzle_82 : decode cX11_nozzle 82 = .ok (.iload_n 3, 1) := by decide +kernel
theorem dX11_nozzle_83 : decode cX11_nozzle 83 = .ok (.iconst 2, 1) := by decide +kernel
theorem dX11_nozzle_84 : decode cX11_nozzle 84 = .ok (.if_icmp .ne 21, 3) := by decide +kernel
theorem dX11_nozzle_87 : decode cX11_nozzle 87 = .ok (.aload_n 0, 1) := by decide +kernel
theorem dX11_nozzle_88 : decode cX11_nozzle 88 = .ok (.getfield 28, 3) := by decide +kernel
theorem dX11_nozzle_91 : decode cX11_nozzle 91 = .ok (.iload_n 2, 1) := by decide +kernel
theorem dX11_nozzle_92 : decode cX11_nozzle 92 = .ok (.invokevirtual 136, 3) := by decide +kernel
theorem dX11_nozzle_95 : decode cX11_nozzle 95 = .ok (.ifCond .eq 10, 3) := by decide +kernel
theorem dX11_nozzle_98 : decode cX11_nozzle 98 = .ok (.aload_n 0, 1) := by decide +kernel
theorem dX11_nozzle_99 : decode cX11_nozzle 99 = .ok (.bipush (-3), 2) := by decide +kernel
theorem dX11_nozzle_101 : decode cX11_nozzle 101 = .ok (.invokevirtual 90, 3) := by decide +kernel
theorem dX11_nozzle_104 : decode cX11_nozzle 104 = .ok (.ireturn, 1) := by decide +kernel
theorem dX11_nozzle_105 : decode cX11_nozzle 105 = .ok (.aload_n 0, 1) := by decide +kernel
theorem dX11_nozzle_106 : decode cX11_nozzle 106 = .ok (.aload_n 0, 1) := by decide +kernel
theorem dX11_nozzle_107 : decode cX11_nozzle 107 = .ok (.getfield 56, 3) := by decide +kernel
theorem dX11_nozzle_110 : decode cX11_nozzle 110 = .ok (.iload_n 1, 1) := by decide +kernel
theorem dX11_nozzle_111 : decode cX11_nozzle 111 = .ok (.iload_n 2, 1) := by decide +kernel
theorem dX11_nozzle_112 : decode cX11_nozzle 112 = .ok (.iload_n 3, 1) := by decide +kernel
theorem dX11_nozzle_113 : decode cX11_nozzle 113 = .ok (.iload 4, 2) := by decide +kernel
theorem dX11_nozzle_115 : decode cX11_nozzle 115 = .ok (.aload_n 0, 1) := by decide +kernel
theorem dX11_nozzle_116 : decode cX11_nozzle 116 = .ok (.getfield 130, 3) := by decide +kernel
theorem dX11_nozzle_119 : decode cX11_nozzle 119 = .ok (.invokevirtual 139, 3) := by decide +kernel
theorem dX11_nozzle_122 : decode cX11_nozzle 122 = .ok (.invokevirtual 90, 3) := by decide +kernel
theorem dX11_nozzle_125 : decode cX11_nozzle 125 = .ok (.ireturn, 1) := by decide +kernel
theorem dX11_shut_0 : decode cX11_shut 0 = .ok (.aload_n 0, 1) := by decide +kernel
theorem dX11_shut_1 : decode cX11_shut 1 = .ok (.getfield 56, 3) := by decide +kernel
theorem dX11_shut_4 : decode cX11_shut 4 = .ok (.iload_n 1, 1) := by decide +kernel
theorem dX11_shut_5 : decode cX11_shut 5 = .ok (.invokevirtual 143, 3) := by decide +kernel
theorem dX11_shut_8 : decode cX11_shut 8 = .ok (.ifCond .ne 10, 3) := by decide +kernel
theorem dX11_shut_11 : decode cX11_shut 11 = .ok (.aload_n 0, 1) := by decide +kernel
theorem dX11_shut_12 : decode cX11_shut 12 = .ok (.bipush (-2), 2) := by decide +kernel
theorem dX11_shut_14 : decode cX11_shut 14 = .ok (.invokevirtual 90, 3) := by decide +kernel
theorem dX11_shut_17 : decode cX11_shut 17 = .ok (.ireturn, 1) := by decide +kernel
theorem dX11_shut_18 : decode cX11_shut 18 = .ok (.aload_n 0, 1) := by decide +kernel
theorem dX11_shut_19 : decode cX11_shut 19 = .ok (.getfield 56, 3) := by decide +kernel
theorem dX11_shut_22 : decode cX11_shut 22 = .ok (.iload_n 1, 1) := by decide +kernel
theorem dX11_shut_23 : decode cX11_shut 23 = .ok (.aload_n 0, 1) := by decide +kernel
theorem dX11_shut_24 : decode cX11_shut 24 = .ok (.getfield 130, 3) := by decide +kernel
theorem dX11_shut_27 : decode cX11_shut 27 = .ok (.invokevirtual 144, 3) := by decide +kernel
theorem dX11_shut_30 : decode cX11_shut 30 = .ok (.aload_n 0, 1) := by decide +kernel
theorem dX11_shut_31 : decode cX11_shut 31 = .ok (.iconst 0, 1) := by decide +kernel
theorem dX11_shut_32 : decode cX11_shut 32 = .ok (.invokevirtual 90, 3) := by decide +kernel
theorem dX11_shut_35 : decode cX11_shut 35 = .ok (.ireturn, 1) := by decide +kernel
theorem dX11_tap_0 : decode cX11_tap 0 = .ok (.iload_n 2, 1) := by decide +kernel
theorem dX11_tap_1 : decode cX11_tap 1 = .ok (.iconst 1, 1) := by decide +kernel
theorem dX11_tap_2 : decode cX11_tap 2 = .ok (.sipush 10000, 3) := by decide +kernel
theorem dX11_tap_5 : decode cX11_tap 5 = .ok (.invokestatic 86, 3) := by decide +kernel
theorem dX11_tap_8 : decode cX11_tap 8 = .ok (.ifCond .eq 12, 3) := by decide +kernel
theorem dX11_tap_11 : decode cX11_tap 11 = .ok (.iload_n 3, 1) := by decide +kernel
theorem dX11_tap_12 : decode cX11_tap 12 = .ok (.iload 4, 2) := by decide +kernel
theorem dX11_tap_14 : decode cX11_tap 14 = .ok (.invokestatic 148, 3) := by decide +kernel
theorem dX11_tap_17 : decode cX11_tap 17 = .ok (.ifCond .ne 9, 3) := by decide +kernel
theorem dX11_tap_20 : decode cX11_tap 20 = .ok (.aload_n 0, 1) := by decide +kernel
theorem dX11_tap_21 : decode cX11_tap 21 = .ok (.iconst (-1), 1) := by decide +kernel
theorem dX11_tap_22 : decode cX11_tap 22 = .ok (.invokevirtual 90, 3) := by decide +kernel
theorem dX11_tap_25 : decode cX11_tap 25 = .ok (.ireturn, 1) := by decide +kernel
theorem dX11_tap_26 : decode cX11_tap 26 = .ok (.aload_n 0, 1) := by decide +kernel
theorem dX11_tap_27 : decode cX11_tap 27 = .ok (.getfield 49, 3) := by decide +kernel
theorem dX11_tap_30 : decode cX11_tap 30 = .ok (.iload_n 1, 1) := by decide +kernel
theorem dX11_tap_31 : decode cX11_tap 31 = .ok (.invokevirtual 127, 3) := by decide +kernel
theorem dX11_tap_34 : decode cX11_tap 34 = .ok (.ifCond .ne 10, 3) := by decide +kernel
theorem dX11_tap_37 : decode cX11_tap 37 = .ok (.aload_n 0, 1) := by decide +kernel
theorem dX11_tap_38 : decode cX11_tap 38 = .ok (.bipush (-2), 2) := by decide +kernel
theorem dX11_tap_40 : decode cX11_tap 40 = .ok (.invokevirtual 90, 3) := by decide +kernel
theorem dX11_tap_43 : decode cX11_tap 43 = .ok (.ireturn, 1) := by decide +kernel
theorem dX11_tap_44 : decode cX11_tap 44 = .ok (.aload_n 0, 1) := by decide +kernel
theorem dX11_tap_45 : decode cX11_tap 45 = .ok (.aload_n 0, 1) := by decide +kernel
theorem dX11_tap_46 : decode cX11_tap 46 = .ok (.getfield 65, 3) := by decide +kernel
theorem dX11_tap_49 : decode cX11_tap 49 = .ok (.iload_n 1, 1) := by decide +kernel
theorem dX11_tap_50 : decode cX11_tap 50 = .ok (.iload_n 2, 1) := by decide +kernel
theorem dX11_tap_51 : decode cX11_tap 51 = .ok (.iload_n 3, 1) := by decide +kernel
theorem dX11_tap_52 : decode cX11_tap 52 = .ok (.iload 4, 2) := by decide +kernel
theorem dX11_tap_54 : decode cX11_tap 54 = .ok (.invokevirtual 152, 3) := by decide +kernel
theorem dX11_tap_57 : decode cX11_tap 57 = .ok (.invokevirtual 90, 3) := by decide +kernel
theorem dX11_tap_60 : decode cX11_tap 60 = .ok (.ireturn, 1) := by decide +kernel
theorem dX11_repair_0 : decode cX11_repair 0 = .ok (.iload_n 2, 1) := by decide +kernel
theorem dX11_repair_1 : decode cX11_repair 1 = .ok (.iload_n 3, 1) := by decide +kernel
theorem dX11_repair_2 : decode cX11_repair 2 = .ok (.invokestatic 148, 3) := by decide +kernel
theorem dX11_repair_5 : decode cX11_repair 5 = .ok (.ifCond .ne 9, 3) := by decide +kernel
theorem dX11_repair_8 : decode cX11_repair 8 = .ok (.aload_n 0, 1) := by decide +kernel
theorem dX11_repair_9 : decode cX11_repair 9 = .ok (.iconst (-1), 1) := by decide +kernel
theorem dX11_repair_10 : decode cX11_repair 10 = .ok (.invokevirtual 90, 3) := by decide +kernel
theorem dX11_repair_13 : decode cX11_repair 13 = .ok (.ireturn, 1) := by decide +kernel
theorem dX11_repair_14 : decode cX11_repair 14 = .ok (.aload_n 0, 1) := by decide +kernel
theorem dX11_repair_15 : decode cX11_repair 15 = .ok (.getfield 49, 3) := by decide +kernel
theorem dX11_repair_18 : decode cX11_repair 18 = .ok (.iload_n 1, 1) := by decide +kernel
theorem dX11_repair_19 : decode cX11_repair 19 = .ok (.invokevirtual 127, 3) := by decide +kernel
theorem dX11_repair_22 : decode cX11_repair 22 = .ok (.ifCond .ne 10, 3) := by decide +kernel
theorem dX11_repair_25 : decode cX11_repair 25 = .ok (.aload_n 0, 1) := by decide +kernel
theorem dX11_repair_26 : decode cX11_repair 26 = .ok (.bipush (-2), 2) := by decide +kernel
theorem dX11_repair_28 : decode cX11_repair 28 = .ok (.invokevirtual 90, 3) := by decide +kernel
theorem dX11_repair_31 : decode cX11_repair 31 = .ok (.ireturn, 1) := by decide +kernel
theorem dX11_repair_32 : decode cX11_repair 32 = .ok (.aload_n 0, 1) := by decide +kernel
theorem dX11_repair_33 : decode cX11_repair 33 = .ok (.aload_n 0, 1) := by decide +kernel
theorem dX11_repair_34 : decode cX11_repair 34 = .ok (.getfield 69, 3) := by decide +kernel
theorem dX11_repair_37 : decode cX11_repair 37 = .ok (.iload_n 1, 1) := by decide +kernel
theorem dX11_repair_38 : decode cX11_repair 38 = .ok (.iconst 0, 1) := by decide +kernel
theorem dX11_repair_39 : decode cX11_repair 39 = .ok (.iload_n 2, 1) := by decide +kernel
theorem dX11_repair_40 : decode cX11_repair 40 = .ok (.iload_n 3, 1) := by decide +kernel
theorem dX11_repair_41 : decode cX11_repair 41 = .ok (.invokevirtual 152, 3) := by decide +kernel
theorem dX11_repair_44 : decode cX11_repair 44 = .ok (.invokevirtual 90, 3) := by decide +kernel
theorem dX11_repair_47 : decode cX11_repair 47 = .ok (.ireturn, 1) := by decide +kernel
theorem dX11_go_0 : decode cX11_go 0 = .ok (.iload_n 1, 1) := by decide +kernel
theorem dX11_go_1 : decode cX11_go 1 = .ok (.iconst 1, 1) := by decide +kernel
theorem dX11_go_2 : decode cX11_go 2 = .ok (.bipush 50, 2) := by decide +kernel
theorem dX11_go_4 : decode cX11_go 4 = .ok (.invokestatic 86, 3) := by decide +kernel
theorem dX11_go_7 : decode cX11_go 7 = .ok (.ifCond .eq 15, 3) := by decide +kernel
theorem dX11_go_10 : decode cX11_go 10 = .ok (.aload_n 0, 1) := by decide +kernel
theorem dX11_go_11 : decode cX11_go 11 = .ok (.getfield 130, 3) := by decide +kernel
theorem dX11_go_14 : decode cX11_go 14 = .ok (.iload_n 1, 1) := by decide +kernel
theorem dX11_go_15 : decode cX11_go 15 = .ok (.iadd, 1) := by decide +kernel
theorem dX11_go_16 : decode cX11_go 16 = .ok (.sipush 200, 3) := by decide +kernel
theorem dX11_go_19 : decode cX11_go 19 = .ok (.if_icmp .le 9, 3) := by decide +kernel
theorem dX11_go_22 : decode cX11_go 22 = .ok (.aload_n 0, 1) := by decide +kernel
theorem dX11_go_23 : decode cX11_go 23 = .ok (.iconst (-1), 1) := by decide +kernel
theorem dX11_go_24 : decode cX11_go 24 = .ok (.invokevirtual 90, 3) := by decide +kernel
theorem dX11_go_27 : decode cX11_go 27 = .ok (.ireturn, 1) := by decide +kernel
theorem dX11_go_28 : decode cX11_go 28 = .ok (.aload_n 0, 1) := by decide +kernel
theorem dX11_go_29 : decode cX11_go 29 = .ok (.dup, 1) := by decide +kernel
theorem dX11_go_30 : decode cX11_go 30 = .ok (.getfield 130, 3) := by decide +kernel
theorem dX11_go_33 : decode cX11_go 33 = .ok (.iload_n 1, 1) := by decide +kernel
theorem dX11_go_34 : decode cX11_go 34 = .ok (.iadd, 1) := by decide +kernel
theorem dX11_go_35 : decode cX11_go 35 = .ok (.putfield 130, 3) := by decide +kernel
theorem dX11_go_38 : decode cX11_go 38 = .ok (.aload_n 0, 1) := by decide +kernel
theorem dX11_go_39 : decode cX11_go 39 = .ok (.aload_n 0, 1) := by decide +kernel
theorem dX11_go_40 : decode cX11_go 40 = .ok (.getfield 130, 3) := by decide +kernel
theorem dX11_go_43 : decode cX11_go 43 = .ok (.invokevirtual 90, 3) := by decide +kernel
theorem dX11_go_46 : decode cX11_go 46 = .ok (.ireturn, 1) := by decide +kernel
theorem dX11_feed_0 : decode cX11_feed 0 = .ok (.aload_n 0, 1) := by decide +kernel
theorem dX11_feed_1 : decode cX11_feed 1 = .ok (.getfield 12, 3) := by decide +kernel
theorem dX11_feed_4 : decode cX11_feed 4 = .ok (.bipush 20, 2) := by decide +kernel
theorem dX11_feed_6 : decode cX11_feed 6 = .ok (.invokevirtual 155, 3) := by decide +kernel
theorem dX11_feed_9 : decode cX11_feed 9 = .ok (.ifCond .ne 5, 3) := by decide +kernel
theorem dX11_feed_12 : decode cX11_feed 12 = .ok (.iconst (-1), 1) := by decide +kernel
theorem dX11_feed_13 : decode cX11_feed 13 = .ok (.ireturn, 1) := by decide +kernel
theorem dX11_feed_14 : decode cX11_feed 14 = .ok (.aload_n 0, 1) := by decide +kernel
theorem dX11_feed_15 : decode cX11_feed 15 = .ok (.getfield 12, 3) := by decide +kernel
theorem dX11_feed_18 : decode cX11_feed 18 = .ok (.iload_n 1, 1) := by decide +kernel
theorem dX11_feed_19 : decode cX11_feed 19 = .ok (.invokevirtual 158, 3) := by decide +kernel
theorem dX11_feed_22 : decode cX11_feed 22 = .ok (.aload_n 0, 1) := by decide +kernel
theorem dX11_feed_23 : decode cX11_feed 23 = .ok (.getfield 12, 3) := by decide +kernel
theorem dX11_feed_26 : decode cX11_feed 26 = .ok (.iload_n 2, 1) := by decide +kernel
theorem dX11_feed_27 : decode cX11_feed 27 = .ok (.invokevirtual 158, 3) := by decide +kernel
theorem dX11_feed_30 : decode cX11_feed 30 = .ok (.aload_n 0, 1) := by decide +kernel
theorem dX11_feed_31 : decode cX11_feed 31 = .ok (.getfield 12, 3) := by decide +kernel
theorem dX11_feed_34 : decode cX11_feed 34 = .ok (.iload_n 3, 1) := by decide +kernel
theorem dX11_feed_35 : decode cX11_feed 35 = .ok (.invokevirtual 158, 3) := by decide +kernel
theorem dX11_feed_38 : decode cX11_feed 38 = .ok (.aload_n 0, 1) := by decide +kernel
theorem dX11_feed_39 : decode cX11_feed 39 = .ok (.getfield 12, 3) := by decide +kernel
theorem dX11_feed_42 : decode cX11_feed 42 = .ok (.iload 4, 2) := by decide +kernel
theorem dX11_feed_44 : decode cX11_feed 44 = .ok (.invokevirtual 158, 3) := by decide +kernel
theorem dX11_feed_47 : decode cX11_feed 47 = .ok (.aload_n 0, 1) := by decide +kernel
theorem dX11_feed_48 : decode cX11_feed 48 = .ok (.getfield 12, 3) := by decide +kernel
theorem dX11_feed_51 : decode cX11_feed 51 = .ok (.iload 5, 2) := by decide +kernel
theorem dX11_feed_53 : decode cX11_feed 53 = .ok (.invokevirtual 158, 3) := by decide +kernel
theorem dX11_feed_56 : decode cX11_feed 56 = .ok (.aload_n 0, 1) := by decide +kernel
theorem dX11_feed_57 : decode cX11_feed 57 = .ok (.getfield 12, 3) := by decide +kernel
theorem dX11_feed_60 : decode cX11_feed 60 = .ok (.getfield 161, 3) := by decide +kernel
theorem dX11_feed_63 : decode cX11_feed 63 = .ok (.ireturn, 1) := by decide +kernel
theorem dX11_end_0 : decode cX11_end 0 = .ok (.iload_n 1, 1) := by decide +kernel
theorem dX11_end_1 : decode cX11_end 1 = .ok (.iconst 0, 1) := by decide +kernel
theorem dX11_end_2 : decode cX11_end 2 = .ok (.aload_n 0, 1) := by decide +kernel
theorem dX11_end_3 : decode cX11_end 3 = .ok (.getfield 12, 3) := by decide +kernel
theorem dX11_end_6 : decode cX11_end 6 = .ok (.getfield 161, 3) := by decide +kernel
theorem dX11_end_9 : decode cX11_end 9 = .ok (.invokestatic 86, 3) := by decide +kernel
theorem dX11_end_12 : decode cX11_end 12 = .ok (.ifCond .ne 5, 3) := by decide +kernel
theorem dX11_end_15 : decode cX11_end 15 = .ok (.iconst (-1), 1) := by decide +kernel
theorem dX11_end_16 : decode cX11_end 16 = .ok (.ireturn, 1) := by decide +kernel
theorem dX11_end_17 : decode cX11_end 17 = .ok (.aload_n 0, 1) := by decide +kernel
theorem dX11_end_18 : decode cX11_end 18 = .ok (.getfield 12, 3) := by decide +kernel
theorem dX11_end_21 : decode cX11_end 21 = .ok (.iload_n 1, 1) := by decide +kernel
theorem dX11_end_22 : decode cX11_end 22 = .ok (.putfield 161, 3) := by decide +kernel
theorem dX11_end_25 : decode cX11_end 25 = .ok (.iload_n 1, 1) := by decide +kernel
theorem dX11_end_26 : decode cX11_end 26 = .ok (.ireturn, 1) := by decide +kernel
theorem dX11_laws_0 : decode cX11_laws 0 = .ok (.aload_n 0, 1) := by decide +kernel
theorem dX11_laws_1 : decode cX11_laws 1 = .ok (.getfield 21, 3) := by decide +kernel
theorem dX11_laws_4 : decode cX11_laws 4 = .ok (.invokevirtual 164, 3) := by decide +kernel
theorem dX11_laws_7 : decode cX11_laws 7 = .ok (.istore_n 1, 1) := by decide +kernel
theorem dX11_laws_8 : decode cX11_laws 8 = .ok (.aload_n 0, 1) := by decide +kernel
theorem dX11_laws_9 : decode cX11_laws 9 = .ok (.getfield 12, 3) := by decide +kernel
theorem dX11_laws_12 : decode cX11_laws 12 = .ok (.iconst 0, 1) := by decide +kernel
theorem dX11_laws_13 : decode cX11_laws 13 = .ok (.putfield 161, 3) := by decide +kernel
theorem dX11_laws_16 : decode cX11_laws 16 = .ok (.iload_n 1, 1) := by decide +kernel
theorem dX11_laws_17 : decode cX11_laws 17 = .ok (.ifCond .ne 10, 3) := by decide +kernel
theorem dX11_laws_20 : decode cX11_laws 20 = .ok (.aload_n 0, 1) := by decide +kernel
theorem dX11_laws_21 : decode cX11_laws 21 = .ok (.bipush (-6), 2) := by decide +kernel
theorem dX11_laws_23 : decode cX11_laws 23 = .ok (.invokevirtual 90, 3) := by decide +kernel
theorem dX11_laws_26 : decode cX11_laws 26 = .ok (.ireturn, 1) := by decide +kernel
theorem dX11_laws_27 : decode cX11_laws 27 = .ok (.aload_n 0, 1) := by decide +kernel
theorem dX11_laws_28 : decode cX11_laws 28 = .ok (.getfield 28, 3) := by decide +kernel
theorem dX11_laws_31 : decode cX11_laws 31 = .ok (.aload_n 0, 1) := by decide +kernel
theorem dX11_laws_32 : decode cX11_laws 32 = .ok (.getfield 21, 3) := by decide +kernel
theorem dX11_laws_35 : decode cX11_laws 35 = .ok (.getfield 168, 3) := by decide +kernel
theorem dX11_laws_38 : decode cX11_laws 38 = .ok (.invokevirtual 171, 3) := by decide +kernel
theorem dX11_laws_41 : decode cX11_laws 41 = .ok (.aload_n 0, 1) := by decide +kernel
theorem dX11_laws_42 : decode cX11_laws 42 = .ok (.aload_n 0, 1) := by decide +kernel
theorem dX11_laws_43 : decode cX11_laws 43 = .ok (.getfield 28, 3) := by decide +kernel
theorem dX11_laws_46 : decode cX11_laws 46 = .ok (.getfield 175, 3) := by decide +kernel
theorem dX11_laws_49 : decode cX11_laws 49 = .ok (.invokevirtual 90, 3) := by decide +kernel
theorem dX11_laws_52 : decode cX11_laws 52 = .ok (.ireturn, 1) := by decide +kernel
theorem dX11_fault_0 : decode cX11_fault 0 = .ok (.aload_n 0, 1) := by decide +kernel
theorem dX11_fault_1 : decode cX11_fault 1 = .ok (.getfield 21, 3) := by decide +kernel
theorem dX11_fault_4 : decode cX11_fault 4 = .ok (.getfield 176, 3) := by decide +kernel
theorem dX11_fault_7 : decode cX11_fault 7 = .ok (.ireturn, 1) := by decide +kernel
theorem dX11_law_0 : decode cX11_law 0 = .ok (.iload_n 1, 1) := by decide +kernel
theorem dX11_law_1 : decode cX11_law 1 = .ok (.invokestatic 97, 3) := by decide +kernel
theorem dX11_law_4 : decode cX11_law 4 = .ok (.ifCond .eq 13, 3) := by decide +kernel
theorem dX11_law_7 : decode cX11_law 7 = .ok (.iload_n 2, 1) := by decide +kernel
theorem dX11_law_8 : decode cX11_law 8 = .ok (.iconst 0, 1) := by decide +kernel
theorem dX11_law_9 : decode cX11_law 9 = .ok (.bipush 7, 2) := by decide +kernel
theorem dX11_law_11 : decode cX11_law 11 = .ok (.invokestatic 86, 3) := by decide +kernel
theorem dX11_law_14 : decode cX11_law 14 = .ok (.ifCond .ne 5, 3) := by decide +kernel
theorem dX11_law_17 : decode cX11_law 17 = .ok (.iconst (-1), 1) := by decide +kernel
theorem dX11_law_18 : decode cX11_law 18 = .ok (.ireturn, 1) := by decide +kernel
theorem dX11_law_19 : decode cX11_law 19 = .ok (.aload_n 0, 1) := by decide +kernel
theorem dX11_law_20 : decode cX11_law 20 = .ok (.getfield 28, 3) := by decide +kernel
theorem dX11_law_23 : decode cX11_law 23 = .ok (.iload_n 1, 1) := by decide +kernel
theorem dX11_law_24 : decode cX11_law 24 = .ok (.invokevirtual 133, 3) := by decide +kernel
theorem dX11_law_27 : decode cX11_law 27 = .ok (.aload_n 0, 1) := by decide +kernel
theorem dX11_law_28 : decode cX11_law 28 = .ok (.getfield 28, 3) := by decide +kernel
theorem dX11_law_31 : decode cX11_law 31 = .ok (.getfield 179, 3) := by decide +kernel
theorem dX11_law_34 : decode cX11_law 34 = .ok (.iload_n 2, 1) := by decide +kernel
theorem dX11_law_35 : decode cX11_law 35 = .ok (.iaload, 1) := by decide +kernel
theorem dX11_law_36 : decode cX11_law 36 = .ok (.ireturn, 1) := by decide +kernel
theorem dX11_lives_0 : decode cX11_lives 0 = .ok (.aload_n 0, 1) := by decide +kernel
theorem dX11_lives_1 : decode cX11_lives 1 = .ok (.getfield 56, 3) := by decide +kernel
theorem dX11_lives_4 : decode cX11_lives 4 = .ok (.iload_n 1, 1) := by decide +kernel
theorem dX11_lives_5 : decode cX11_lives 5 = .ok (.invokevirtual 143, 3) := by decide +kernel
theorem dX11_lives_8 : decode cX11_lives 8 = .ok (.ifCond .eq 30, 3) := by decide +kernel
theorem dX11_lives_11 : decode cX11_lives 11 = .ok (.iload_n 2, 1) := by decide +kernel
theorem dX11_lives_12 : decode cX11_lives 12 = .ok (.invokestatic 97, 3) := by decide +kernel
theorem dX11_lives_15 : decode cX11_lives 15 = .ok (.ifCond .eq 23, 3) := by decide +kernel
theorem dX11_lives_18 : decode cX11_lives 18 = .ok (.iload_n 3, 1) := by decide +kernel
theorem dX11_lives_19 : decode cX11_lives 19 = .ok (.invokestatic 97, 3) := by decide +kernel
theorem dX11_lives_22 : decode cX11_lives 22 = .ok (.ifCond .eq 16, 3) := by decide +kernel
theorem dX11_lives_25 : decode cX11_lives 25 = .ok (.aload_n 0, 1) := by decide +kernel
theorem dX11_lives_26 : decode cX11_lives 26 = .ok (.getfield 56, 3) := by decide +kernel
theorem dX11_lives_29 : decode cX11_lives 29 = .ok (.getfield 182, 3) := by decide +kernel
theorem dX11_lives_32 : decode cX11_lives 32 = .ok (.iload_n 1, 1) := by decide +kernel
theorem dX11_lives_33 : decode cX11_lives 33 = .ok (.iaload, 1) := by decide +kernel
theorem dX11_lives_34 : decode cX11_lives 34 = .ok (.iconst 2, 1) := by decide +kernel
theorem dX11_lives_35 : decode cX11_lives 35 = .ok (.if_icmp .eq 5, 3) := by decide +kernel
theorem dX11_lives_38 : decode cX11_lives 38 = .ok (.iconst (-1), 1) := by decide +kernel
theorem dX11_lives_39 : decode cX11_lives 39 = .ok (.ireturn, 1) := by decide +kernel
theorem dX11_lives_40 : decode cX11_lives 40 = .ok (.aload_n 0, 1) := by decide +kernel
theorem dX11_lives_41 : decode cX11_lives 41 = .ok (.getfield 77, 3) := by decide +kernel
theorem dX11_lives_44 : decode cX11_lives 44 = .ok (.iload_n 2, 1) := by decide +kernel
theorem dX11_lives_45 : decode cX11_lives 45 = .ok (.iload_n 3, 1) := by decide +kernel
theorem dX11_lives_46 : decode cX11_lives 46 = .ok (.invokevirtual 185, 3) := by decide +kernel
theorem dX11_lives_49 : decode cX11_lives 49 = .ok (.aload_n 0, 1) := by decide +kernel
theorem dX11_lives_50 : decode cX11_lives 50 = .ok (.getfield 77, 3) := by decide +kernel
theorem dX11_lives_53 : decode cX11_lives 53 = .ok (.iload_n 1, 1) := by decide +kernel
theorem dX11_lives_54 : decode cX11_lives 54 = .ok (.invokevirtual 188, 3) := by decide +kernel
theorem dX11_lives_57 : decode cX11_lives 57 = .ok (.ifCond .eq 7, 3) := by decide +kernel
theorem dX11_lives_60 : decode cX11_lives 60 = .ok (.iconst 1, 1) := by decide +kernel
theorem dX11_lives_61 : decode cX11_lives 61 = .ok (.goto 4, 3) := by decide +kernel
theorem dX11_lives_64 : decode cX11_lives 64 = .ok (.iconst 0, 1) := by decide +kernel
theorem dX11_lives_65 : decode cX11_lives 65 = .ok (.ireturn, 1) := by decide +kernel
theorem dX11_gets_0 : decode cX11_gets 0 = .ok (.aload_n 0, 1) := by decide +kernel
theorem dX11_gets_1 : decode cX11_gets 1 = .ok (.getfield 56, 3) := by decide +kernel
theorem dX11_gets_4 : decode cX11_gets 4 = .ok (.iload_n 1, 1) := by decide +kernel
theorem dX11_gets_5 : decode cX11_gets 5 = .ok (.invokevirtual 143, 3) := by decide +kernel
theorem dX11_gets_8 : decode cX11_gets 8 = .ok (.ifCond .eq 17, 3) := by decide +kernel
theorem dX11_gets_11 : decode cX11_gets 11 = .ok (.iload_n 2, 1) := by decide +kernel
theorem dX11_gets_12 : decode cX11_gets 12 = .ok (.invokestatic 97, 3) := by decide +kernel
theorem dX11_gets_15 : decode cX11_gets 15 = .ok (.ifCond .eq 10, 3) := by decide +kernel
theorem dX11_gets_18 : decode cX11_gets 18 = .ok (.iload_n 3, 1) := by decide +kernel
theorem dX11_gets_19 : decode cX11_gets 19 = .ok (.invokestatic 97, 3) := by decide +kernel
theorem dX11_gets_22 : decode cX11_gets 22 = .ok (.ifCond .ne 5, 3) := by decide +kernel
theorem dX11_gets_25 : decode cX11_gets 25 = .ok (.iconst (-1), 1) := by decide +kernel
theorem dX11_gets_26 : decode cX11_gets 26 = .ok (.ireturn, 1) := by decide +kernel
theorem dX11_gets_27 : decode cX11_gets 27 = .ok (.aload_n 0, 1) := by decide +kernel
theorem dX11_gets_28 : decode cX11_gets 28 = .ok (.getfield 77, 3) := by decide +kernel
theorem dX11_gets_31 : decode cX11_gets 31 = .ok (.iload_n 2, 1) := by decide +kernel
theorem dX11_gets_32 : decode cX11_gets 32 = .ok (.iload_n 3, 1) := by decide +kernel
theorem dX11_gets_33 : decode cX11_gets 33 = .ok (.invokevirtual 191, 3) := by decide +kernel
theorem dX11_gets_36 : decode cX11_gets 36 = .ok (.aload_n 0, 1) := by decide +kernel
theorem dX11_gets_37 : decode cX11_gets 37 = .ok (.getfield 77, 3) := by decide +kernel
theorem dX11_gets_40 : decode cX11_gets 40 = .ok (.getfield 194, 3) := by decide +kernel
theorem dX11_gets_43 : decode cX11_gets 43 = .ok (.iload_n 1, 1) := by decide +kernel
theorem dX11_gets_44 : decode cX11_gets 44 = .ok (.iaload, 1) := by decide +kernel
theorem dX11_gets_45 : decode cX11_gets 45 = .ok (.ireturn, 1) := by decide +kernel
theorem dX11_at_0 : decode cX11_at 0 = .ok (.aload_n 0, 1) := by decide +kernel
theorem dX11_at_1 : decode cX11_at 1 = .ok (.getfield 49, 3) := by decide +kernel
theorem dX11_at_4 : decode cX11_at 4 = .ok (.iload_n 1, 1) := by decide +kernel
theorem dX11_at_5 : decode cX11_at 5 = .ok (.invokevirtual 127, 3) := by decide +kernel
theorem dX11_at_8 : decode cX11_at 8 = .ok (.ifCond .eq 28, 3) := by decide +kernel
theorem dX11_at_11 : decode cX11_at 11 = .ok (.iload_n 2, 1) := by decide +kernel
theorem dX11_at_12 : decode cX11_at 12 = .ok (.invokestatic 97, 3) := by decide +kernel
theorem dX11_at_15 : decode cX11_at 15 = .ok (.ifCond .eq 21, 3) := by decide +kernel
theorem dX11_at_18 : decode cX11_at 18 = .ok (.iload_n 3, 1) := by decide +kernel
theorem dX11_at_19 : decode cX11_at 19 = .ok (.invokestatic 97, 3) := by decide +kernel
theorem dX11_at_22 : decode cX11_at 22 = .ok (.ifCond .eq 14, 3) := by decide +kernel
theorem dX11_at_25 : decode cX11_at 25 = .ok (.iload 4, 2) := by decide +kernel
theorem dX11_at_27 : decode cX11_at 27 = .ok (.iconst 0, 1) := by decide +kernel
theorem dX11_at_28 : decode cX11_at 28 = .ok (.bipush 6, 2) := by decide +kernel
theorem dX11_at_30 : decode cX11_at 30 = .ok (.invokestatic 86, 3) := by decide +kernel
theorem dX11_at_33 : decode cX11_at 33 = .ok (.ifCond .ne 5, 3) := by decide +kernel
theorem dX11_at_36 : decode cX11_at 36 = .ok (.iconst (-1), 1) := by decide +kernel
theorem dX11_at_37 : decode cX11_at 37 = .ok (.ireturn, 1) := by decide +kernel
theorem dX11_at_38 : decode cX11_at 38 = .ok (.aload_n 0, 1) := by decide +kernel
theorem dX11_at_39 : decode cX11_at 39 = .ok (.getfield 77, 3) := by decide +kernel
theorem dX11_at_42 : decode cX11_at 42 = .ok (.iload_n 2, 1) := by decide +kernel
theorem dX11_at_43 : decode cX11_at 43 = .ok (.iload_n 3, 1) := by decide +kernel
theorem dX11_at_44 : decode cX11_at 44 = .ok (.invokevirtual 191, 3) := by decide +kernel
theorem dX11_at_47 : decode cX11_at 47 = .ok (.aload_n 0, 1) := by decide +kernel
theorem dX11_at_48 : decode cX11_at 48 = .ok (.getfield 77, 3) := by decide +kernel
theorem dX11_at_51 : decode cX11_at 51 = .ok (.getfield 197, 3) := by decide +kernel
theorem dX11_at_54 : decode cX11_at 54 = .ok (.iload 4, 2) := by decide +kernel
theorem dX11_at_56 : decode cX11_at 56 = .ok (.aaload, 1) := by decide +kernel
theorem dX11_at_57 : decode cX11_at 57 = .ok (.iload_n 1, 1) := by decide +kernel
theorem dX11_at_58 : decode cX11_at 58 = .ok (.iaload, 1) := by decide +kernel
theorem dX11_at_59 : decode cX11_at 59 = .ok (.ireturn, 1) := by decide +kernel
theorem dX11_dry_0 : decode cX11_dry 0 = .ok (.iload_n 1, 1) := by decide +kernel
theorem dX11_dry_1 : decode cX11_dry 1 = .ok (.invokestatic 124, 3) := by decide +kernel
theorem dX11_dry_4 : decode cX11_dry 4 = .ok (.ifCond .eq 17, 3) := by decide +kernel
theorem dX11_dry_7 : decode cX11_dry 7 = .ok (.iload_n 2, 1) := by decide +kernel
theorem dX11_dry_8 : decode cX11_dry 8 = .ok (.invokestatic 97, 3) := by decide +kernel
theorem dX11_dry_11 : decode cX11_dry 11 = .ok (.ifCond .eq 10, 3) := by decide +kernel
theorem dX11_dry_14 : decode cX11_dry 14 = .ok (.iload_n 3, 1) := by decide +kernel
theorem dX11_dry_15 : decode cX11_dry 15 = .ok (.invokestatic 97, 3) := by decide +kernel
theorem dX11_dry_18 : decode cX11_dry 18 = .ok (.ifCond .ne 5, 3) := by decide +kernel
theorem dX11_dry_21 : decode cX11_dry 21 = .ok (.iconst (-1), 1) := by decide +kernel
theorem dX11_dry_22 : decode cX11_dry 22 = .ok (.ireturn, 1) := by decide +kernel
theorem dX11_dry_23 : decode cX11_dry 23 = .ok (.aload_n 0, 1) := by decide +kernel
theorem dX11_dry_24 : decode cX11_dry 24 = .ok (.getfield 77, 3) := by decide +kernel
theorem dX11_dry_27 : decode cX11_dry 27 = .ok (.iload_n 2, 1) := by decide +kernel
theorem dX11_dry_28 : decode cX11_dry 28 = .ok (.iload_n 3, 1) := by decide +kernel
theorem dX11_dry_29 : decode cX11_dry 29 = .ok (.invokevirtual 191, 3) := by decide +kernel
theorem dX11_dry_32 : decode cX11_dry 32 = .ok (.aload_n 0, 1) := by decide +kernel
theorem dX11_dry_33 : decode cX11_dry 33 = .ok (.getfield 77, 3) := by decide +kernel
theorem dX11_dry_36 : decode cX11_dry 36 = .ok (.invokevirtual 201, 3) := by decide +kernel
theorem dX11_dry_39 : decode cX11_dry 39 = .ok (.aload_n 0, 1) := by decide +kernel
theorem dX11_dry_40 : decode cX11_dry 40 = .ok (.getfield 77, 3) := by decide +kernel
theorem dX11_dry_43 : decode cX11_dry 43 = .ok (.iload_n 1, 1) := by decide +kernel
theorem dX11_dry_44 : decode cX11_dry 44 = .ok (.invokevirtual 204, 3) := by decide +kernel
theorem dX11_dry_47 : decode cX11_dry 47 = .ok (.ifCond .eq 7, 3) := by decide +kernel
theorem dX11_dry_50 : decode cX11_dry 50 = .ok (.iconst 1, 1) := by decide +kernel
theorem dX11_dry_51 : decode cX11_dry 51 = .ok (.goto 4, 3) := by decide +kernel
theorem dX11_dry_54 : decode cX11_dry 54 = .ok (.iconst 0, 1) := by decide +kernel
theorem dX11_dry_55 : decode cX11_dry 55 = .ok (.ireturn, 1) := by decide +kernel
theorem dX11_found_0 : decode cX11_found 0 = .ok (.aload_n 0, 1) := by decide +kernel
theorem dX11_found_1 : decode cX11_found 1 = .ok (.getfield 49, 3) := by decide +kernel
theorem dX11_found_4 : decode cX11_found 4 = .ok (.iload_n 1, 1) := by decide +kernel
theorem dX11_found_5 : decode cX11_found 5 = .ok (.invokevirtual 127, 3) := by decide +kernel
theorem dX11_found_8 : decode cX11_found 8 = .ok (.ifCond .eq 10, 3) := by decide +kernel
theorem dX11_found_11 : decode cX11_found 11 = .ok (.iload_n 2, 1) := by decide +kernel
theorem dX11_found_12 : decode cX11_found 12 = .ok (.invokestatic 97, 3) := by decide +kernel
theorem dX11_found_15 : decode cX11_found 15 = .ok (.ifCond .ne 5, 3) := by decide +kernel
theorem dX11_found_18 : decode cX11_found 18 = .ok (.iconst (-1), 1) := by decide +kernel
theorem dX11_found_19 : decode cX11_found 19 = .ok (.ireturn, 1) := by decide +kernel
theorem dX11_found_20 : decode cX11_found 20 = .ok (.aload_n 0, 1) := by decide +kernel
theorem dX11_found_21 : decode cX11_found 21 = .ok (.getfield 77, 3) := by decide +kernel
theorem dX11_found_24 : decode cX11_found 24 = .ok (.iload_n 2, 1) := by decide +kernel
theorem dX11_found_25 : decode cX11_found 25 = .ok (.aload_n 0, 1) := by decide +kernel
theorem dX11_found_26 : decode cX11_found 26 = .ok (.getfield 130, 3) := by decide +kernel
theorem dX11_found_29 : decode cX11_found 29 = .ok (.invokevirtual 191, 3) := by decide +kernel
theorem dX11_found_32 : decode cX11_found 32 = .ok (.aload_n 0, 1) := by decide +kernel
theorem dX11_found_33 : decode cX11_found 33 = .ok (.getfield 77, 3) := by decide +kernel
theorem dX11_found_36 : decode cX11_found 36 = .ok (.iload_n 1, 1) := by decide +kernel
theorem dX11_found_37 : decode cX11_found 37 = .ok (.invokevirtual 207, 3) := by decide +kernel
theorem dX11_found_40 : decode cX11_found 40 = .ok (.ireturn, 1) := by decide +kernel
theorem dX11_best_0 : decode cX11_best 0 = .ok (.iload_n 2, 1) := by decide +kernel
theorem dX11_best_1 : decode cX11_best 1 = .ok (.iconst 1, 1) := by decide +kernel
theorem dX11_best_2 : decode cX11_best 2 = .ok (.bipush 10, 2) := by decide +kernel
theorem dX11_best_4 : decode cX11_best 4 = .ok (.invokestatic 86, 3) := by decide +kernel
theorem dX11_best_7 : decode cX11_best 7 = .ok (.ifCond .eq 24, 3) := by decide +kernel
theorem dX11_best_10 : decode cX11_best 10 = .ok (.iload_n 3, 1) := by decide +kernel
theorem dX11_best_11 : decode cX11_best 11 = .ok (.iload 4, 2) := by decide +kernel
theorem dX11_best_13 : decode cX11_best 13 = .ok (.invokestatic 148, 3) := by decide +kernel
theorem dX11_best_16 : decode cX11_best 16 = .ok (.ifCond .eq 15, 3) := by decide +kernel
theorem dX11_best_19 : decode cX11_best 19 = .ok (.iload 4, 2) := by decide +kernel
theorem dX11_best_21 : decode cX11_best 21 = .ok (.iload_n 2, 1) := by decide +kernel
theorem dX11_best_22 : decode cX11_best 22 = .ok (.iadd, 1) := by decide +kernel
theorem dX11_best_23 : decode cX11_best 23 = .ok (.iconst 1, 1) := by decide +kernel
theorem dX11_best_24 : decode cX11_best 24 = .ok (.isub, 1) := by decide +kernel
theorem dX11_best_25 : decode cX11_best 25 = .ok (.sipush 200, 3) := by decide +kernel
theorem dX11_best_28 : decode cX11_best 28 = .ok (.if_icmp .le 5, 3) := by decide +kernel
theorem dX11_best_31 : decode cX11_best 31 = .ok (.iconst (-1), 1) := by decide +kernel
theorem dX11_best_32 : decode cX11_best 32 = .ok (.ireturn, 1) := by decide +kernel
theorem dX11_best_33 : decode cX11_best 33 = .ok (.aload_n 0, 1) := by decide +kernel
theorem dX11_best_34 : decode cX11_best 34 = .ok (.getfield 49, 3) := by decide +kernel
theorem dX11_best_37 : decode cX11_best 37 = .ok (.iload_n 1, 1) := by decide +kernel
theorem dX11_best_38 : decode cX11_best 38 = .ok (.invokevirtual 127, 3) := by decide +kernel
theorem dX11_best_41 : decode cX11_best 41 = .ok (.ifCond .ne 6, 3) := by decide +kernel
theorem dX11_best_44 : decode cX11_best 44 = .ok (.bipush (-2), 2) := by decide +kernel
theorem dX11_best_46 : decode cX11_best 46 = .ok (.ireturn, 1) := by decide +kernel
theorem dX11_best_47 : decode cX11_best 47 = .ok (.aload_n 0, 1) := by decide +kernel
theorem dX11_best_48 : decode cX11_best 48 = .ok (.iload_n 1, 1) := by decide +kernel
theorem dX11_best_49 : decode cX11_best 49 = .ok (.iload_n 3, 1) := by decide +kernel
theorem dX11_best_50 : decode cX11_best 50 = .ok (.iload 4, 2) := by decide +kernel
theorem dX11_best_52 : decode cX11_best 52 = .ok (.iload_n 2, 1) := by decide +kernel
theorem dX11_best_53 : decode cX11_best 53 = .ok (.iadd, 1) := by decide +kernel
theorem dX11_best_54 : decode cX11_best 54 = .ok (.iconst 1, 1) := by decide +kernel
theorem dX11_best_55 : decode cX11_best 55 = .ok (.isub, 1) := by decide +kernel
theorem dX11_best_56 : decode cX11_best 56 = .ok (.invokevirtual 210, 3) := by decide +kernel
theorem dX11_best_59 : decode cX11_best 59 = .ok (.aload_n 0, 1) := by decide +kernel
theorem dX11_best_60 : decode cX11_best 60 = .ok (.iload_n 2, 1) := by decide +kernel
theorem dX11_best_61 : decode cX11_best 61 = .ok (.iload_n 3, 1) := by decide +kernel
theorem dX11_best_62 : decode cX11_best 62 = .ok (.iload 4, 2) := by decide +kernel
theorem dX11_best_64 : decode cX11_best 64 = .ok (.invokevirtual 214, 3) := by decide +kernel
theorem dX11_best_67 : decode cX11_best 67 = .ok (.ireturn, 1) := by decide +kernel
theorem dX11_rent_0 : decode cX11_rent 0 = .ok (.iload_n 2, 1) := by decide +kernel
theorem dX11_rent_1 : decode cX11_rent 1 = .ok (.invokestatic 97, 3) := by decide +kernel
theorem dX11_rent_4 : decode cX11_rent 4 = .ok (.ifCond .ne 7, 3) := by decide +kernel
theorem dX11_rent_7 : decode cX11_rent 7 = .ok (.ldc2_w 217, 3) := by decide +kernel
theorem dX11_rent_10 : decode cX11_rent 10 = .ok (.lreturn, 1) := by decide +kernel
theorem dX11_rent_11 : decode cX11_rent 11 = .ok (.aload_n 0, 1) := by decide +kernel
theorem dX11_rent_12 : decode cX11_rent 12 = .ok (.iload_n 1, 1) := by decide +kernel
theorem dX11_rent_13 : decode cX11_rent 13 = .ok (.invokevirtual 118, 3) := by decide +kernel
theorem dX11_rent_16 : decode cX11_rent 16 = .ok (.ifCond .ne 7, 3) := by decide +kernel
theorem dX11_rent_19 : decode cX11_rent 19 = .ok (.ldc2_w 219, 3) := by decide +kernel
theorem dX11_rent_22 : decode cX11_rent 22 = .ok (.lreturn, 1) := by decide +kernel
theorem dX11_rent_23 : decode cX11_rent 23 = .ok (.lconst 0, 1) := by decide +kernel
theorem dX11_rent_24 : decode cX11_rent 24 = .ok (.lstore_n 3, 1) := by decide +kernel
theorem dX11_rent_25 : decode cX11_rent 25 = .ok (.iconst 0, 1) := by decide +kernel
theorem dX11_rent_26 : decode cX11_rent 26 = .ok (.istore 5, 2) := by decide +kernel
theorem dX11_rent_28 : decode cX11_rent 28 = .ok (.iload 5, 2) := by decide +kernel
theorem dX11_rent_30 : decode cX11_rent 30 = .ok (.aload_n 0, 1) := by decide +kernel
theorem dX11_rent_31 : decode cX11_rent 31 = .ok (.getfield 130, 3) := by decide +kernel
theorem dX11_rent_34 : decode cX11_rent 34 = .ok (.if_icmp .ge 23, 3) := by decide +kernel
theorem dX11_rent_37 : decode cX11_rent 37 = .ok (.lload_n 3, 1) := by decide +kernel
theorem dX11_rent_38 : decode cX11_rent 38 = .ok (.aload_n 0, 1) := by decide +kernel
theorem dX11_rent_39 : decode cX11_rent 39 = .ok (.getfield 77, 3) := by decide +kernel
theorem dX11_rent_42 : decode cX11_rent 42 = .ok (.iload_n 1, 1) := by decide +kernel
theorem dX11_rent_43 : decode cX11_rent 43 = .ok (.iload 5, 2) := by decide +kernel
theorem dX11_rent_45 : decode cX11_rent 45 = .ok (.iload_n 2, 1) := by decide +kernel
theorem dX11_rent_46 : decode cX11_rent 46 = .ok (.invokevirtual 221, 3) := by decide +kernel
theorem dX11_rent_49 : decode cX11_rent 49 = .ok (.ladd, 1) := by decide +kernel
theorem dX11_rent_50 : decode cX11_rent 50 = .ok (.lstore_n 3, 1) := by decide +kernel
theorem dX11_rent_51 : decode cX11_rent 51 = .ok (.iinc 5 1, 3) := by decide +kernel
theorem dX11_rent_54 : decode cX11_rent 54 = .ok (.goto (-26), 3) := by decide +kernel
theorem dX11_rent_57 : decode cX11_rent 57 = .ok (.lload_n 3, 1) := by decide +kernel
theorem dX11_rent_58 : decode cX11_rent 58 = .ok (.lreturn, 1) := by decide +kernel
theorem dX11_fines_0 : decode cX11_fines 0 = .ok (.aload_n 0, 1) := by decide +kernel
theorem dX11_fines_1 : decode cX11_fines 1 = .ok (.getfield 49, 3) := by decide +kernel
theorem dX11_fines_4 : decode cX11_fines 4 = .ok (.iload_n 1, 1) := by decide +kernel
theorem dX11_fines_5 : decode cX11_fines 5 = .ok (.invokevirtual 127, 3) := by decide +kernel
theorem dX11_fines_8 : decode cX11_fines 8 = .ok (.ifCond .ne 7, 3) := by decide +kernel
theorem dX11_fines_11 : decode cX11_fines 11 = .ok (.ldc2_w 219, 3) := by decide +kernel
theorem dX11_fines_14 : decode cX11_fines 14 = .ok (.lreturn, 1) := by decide +kernel
theorem dX11_fines_15 : decode cX11_fines 15 = .ok (.lconst 0, 1) := by decide +kernel
theorem dX11_fines_16 : decode cX11_fines 16 = .ok (.lstore_n 2, 1) := by decide +kernel
theorem dX11_fines_17 : decode cX11_fines 17 = .ok (.iconst 0, 1) := by decide +kernel
theorem dX11_fines_18 : decode cX11_fines 18 = .ok (.istore 4, 2) := by decide +kernel
theorem dX11_fines_20 : decode cX11_fines 20 = .ok (.iload 4, 2) := by decide +kernel
theorem dX11_fines_22 : decode cX11_fines 22 = .ok (.aload_n 0, 1) := by decide +kernel
theorem dX11_fines_23 : decode cX11_fines 23 = .ok (.getfield 130, 3) := by decide +kernel
theorem dX11_fines_26 : decode cX11_fines 26 = .ok (.if_icmp .ge 26, 3) := by decide +kernel
theorem dX11_fines_29 : decode cX11_fines 29 = .ok (.lload_n 2, 1) := by decide +kernel
theorem dX11_fines_30 : decode cX11_fines 30 = .ok (.aload_n 0, 1) := by decide +kernel
theorem dX11_fines_31 : decode cX11_fines 31 = .ok (.getfield 77, 3) := by decide +kernel
theorem dX11_fines_34 : decode cX11_fines 34 = .ok (.iload_n 1, 1) := by decide +kernel
theorem dX11_fines_35 : decode cX11_fines 35 = .ok (.iload 4, 2) := by decide +kernel
theorem dX11_fines_37 : decode cX11_fines 37 = .ok (.aload_n 0, 1) := by decide +kernel
theorem dX11_fines_38 : decode cX11_fines 38 = .ok (.getfield 130, 3) := by decide +kernel
theorem dX11_fines_41 : decode cX11_fines 41 = .ok (.invokevirtual 225, 3) := by decide +kernel
theorem dX11_fines_44 : decode cX11_fines 44 = .ok (.ladd, 1) := by decide +kernel
theorem dX11_fines_45 : decode cX11_fines 45 = .ok (.lstore_n 2, 1) := by decide +kernel
theorem dX11_fines_46 : decode cX11_fines 46 = .ok (.iinc 4 1, 3) := by decide +kernel
theorem dX11_fines_49 : decode cX11_fines 49 = .ok (.goto (-29), 3) := by decide +kernel
theorem dX11_fines_52 : decode cX11_fines 52 = .ok (.lload_n 2, 1) := by decide +kernel
theorem dX11_fines_53 : decode cX11_fines 53 = .ok (.lreturn, 1) := by decide +kernel
theorem dX11_dead_0 : decode cX11_dead 0 = .ok (.aload_n 0, 1) := by decide +kernel
theorem dX11_dead_1 : decode cX11_dead 1 = .ok (.iload_n 1, 1) := by decide +kernel
theorem dX11_dead_2 : decode cX11_dead 2 = .ok (.invokevirtual 118, 3) := by decide +kernel
theorem dX11_dead_5 : decode cX11_dead 5 = .ok (.ifCond .eq 10, 3) := by decide +kernel
theorem dX11_dead_8 : decode cX11_dead 8 = .ok (.iload_n 2, 1) := by decide +kernel
theorem dX11_dead_9 : decode cX11_dead 9 = .ok (.invokestatic 97, 3) := by decide +kernel
theorem dX11_dead_12 : decode cX11_dead 12 = .ok (.ifCond .ne 5, 3) := by decide +kernel
theorem dX11_dead_15 : decode cX11_dead 15 = .ok (.iconst (-1), 1) := by decide +kernel
theorem dX11_dead_16 : decode cX11_dead 16 = .ok (.ireturn, 1) := by decide +kernel
theorem dX11_dead_17 : decode cX11_dead 17 = .ok (.aload_n 0, 1) := by decide +kernel
theorem dX11_dead_18 : decode cX11_dead 18 = .ok (.getfield 35, 3) := by decide +kernel
theorem dX11_dead_21 : decode cX11_dead 21 = .ok (.iload_n 2, 1) := by decide +kernel
theorem dX11_dead_22 : decode cX11_dead 22 = .ok (.invokevirtual 228, 3) := by decide +kernel
theorem dX11_dead_25 : decode cX11_dead 25 = .ok (.aload_n 0, 1) := by decide +kernel
theorem dX11_dead_26 : decode cX11_dead 26 = .ok (.getfield 35, 3) := by decide +kernel
theorem dX11_dead_29 : decode cX11_dead 29 = .ok (.getfield 229, 3) := by decide +kernel
theorem dX11_dead_32 : decode cX11_dead 32 = .ok (.iload_n 1, 1) := by decide +kernel
theorem dX11_dead_33 : decode cX11_dead 33 = .ok (.iaload, 1) := by decide +kernel
theorem dX11_dead_34 : decode cX11_dead 34 = .ok (.ireturn, 1) := by decide +kernel
theorem dX11_count_0 : decode cX11_count 0 = .ok (.iload_n 1, 1) := by decide +kernel
theorem dX11_count_1 : decode cX11_count 1 = .ok (.tableswitch 141 0 10 #[59, 64, 72, 80, 88, 93, 101, 109, 117, 125, 133], 59) := by decide +kernel
theorem dX11_count_60 : decode cX11_count 60 = .ok (.aload_n 0, 1) := by decide +kernel
theorem dX11_count_61 : decode cX11_count 61 = .ok (.getfield 130, 3) := by decide +kernel
theorem dX11_count_64 : decode cX11_count 64 = .ok (.ireturn, 1) := by decide +kernel
theorem dX11_count_65 : decode cX11_count 65 = .ok (.aload_n 0, 1) := by decide +kernel
theorem dX11_count_66 : decode cX11_count 66 = .ok (.getfield 42, 3) := by decide +kernel
theorem dX11_count_69 : decode cX11_count 69 = .ok (.getfield 232, 3) := by decide +kernel
theorem dX11_count_72 : decode cX11_count 72 = .ok (.ireturn, 1) := by decide +kernel
theorem dX11_count_73 : decode cX11_count 73 = .ok (.aload_n 0, 1) := by decide +kernel
theorem dX11_count_74 : decode cX11_count 74 = .ok (.getfield 49, 3) := by decide +kernel
theorem dX11_count_77 : decode cX11_count 77 = .ok (.getfield 235, 3) := by decide +kernel
theorem dX11_count_80 : decode cX11_count 80 = .ok (.ireturn, 1) := by decide +kernel
theorem dX11_count_81 : decode cX11_count 81 = .ok (.aload_n 0, 1) := by decide +kernel
theorem dX11_count_82 : decode cX11_count 82 = .ok (.getfield 56, 3) := by decide +kernel
theorem dX11_count_85 : decode cX11_count 85 = .ok (.getfield 236, 3) := by decide +kernel
theorem dX11_count_88 : decode cX11_count 88 = .ok (.ireturn, 1) := by decide +kernel
theorem dX11_count_89 : decode cX11_count 89 = .ok (.aload_n 0, 1) := by decide +kernel
theorem dX11_count_90 : decode cX11_count 90 = .ok (.getfield 114, 3) := by decide +kernel
theorem dX11_count_93 : decode cX11_count 93 = .ok (.ireturn, 1) := by decide +kernel
theorem dX11_count_94 : decode cX11_count 94 = .ok (.aload_n 0, 1) := by decide +kernel
theorem dX11_count_95 : decode cX11_count 95 = .ok (.getfield 35, 3) := by decide +kernel
theorem dX11_count_98 : decode cX11_count 98 = .ok (.getfield 237, 3) := by decide +kernel
theorem dX11_count_101 : decode cX11_count 101 = .ok (.ireturn, 1) := by decide +kernel
theorem dX11_count_102 : decode cX11_count 102 = .ok (.aload_n 0, 1) := by decide +kernel
theorem dX11_count_103 : decode cX11_count 103 = .ok (.getfield 65, 3) := by decide +kernel
theorem dX11_count_106 : decode cX11_count 106 = .ok (.getfield 238, 3) := by decide +kernel
theorem dX11_count_109 : decode cX11_count 109 = .ok (.ireturn, 1) := by decide +kernel
theorem dX11_count_110 : decode cX11_count 110 = .ok (.aload_n 0, 1) := by decide +kernel
theorem dX11_count_111 : decode cX11_count 111 = .ok (.getfield 69, 3) := by decide +kernel
theorem dX11_count_114 : decode cX11_count 114 = .ok (.getfield 238, 3) := by decide +kernel
theorem dX11_count_117 : decode cX11_count 117 = .ok (.ireturn, 1) := by decide +kernel
theorem dX11_count_118 : decode cX11_count 118 = .ok (.aload_n 0, 1) := by decide +kernel
theorem dX11_count_119 : decode cX11_count 119 = .ok (.getfield 28, 3) := by decide +kernel
theorem dX11_count_122 : decode cX11_count 122 = .ok (.getfield 175, 3) := by decide +kernel
theorem dX11_count_125 : decode cX11_count 125 = .ok (.ireturn, 1) := by decide +kernel
theorem dX11_count_126 : decode cX11_count 126 = .ok (.aload_n 0, 1) := by decide +kernel
theorem dX11_count_127 : decode cX11_count 127 = .ok (.getfield 12, 3) := by decide +kernel
theorem dX11_count_130 : decode cX11_count 130 = .ok (.getfield 161, 3) := by decide +kernel
theorem dX11_count_133 : decode cX11_count 133 = .ok (.ireturn, 1) := by decide +kernel
theorem dX11_count_134 : decode cX11_count 134 = .ok (.aload_n 0, 1) := by decide +kernel
theorem dX11_count_135 : decode cX11_count 135 = .ok (.getfield 42, 3) := by decide +kernel
theorem dX11_count_138 : decode cX11_count 138 = .ok (.getfield 239, 3) := by decide +kernel
theorem dX11_count_141 : decode cX11_count 141 = .ok (.ireturn, 1) := by decide +kernel
theorem dX11_count_142 : decode cX11_count 142 = .ok (.iconst (-1), 1) := by decide +kernel
theorem dX11_count_143 : decode cX11_count 143 = .ok (.ireturn, 1) := by decide +kernel
theorem dX11_status_0 : decode cX11_status 0 = .ok (.aload_n 0, 1) := by decide +kernel
theorem dX11_status_1 : decode cX11_status 1 = .ok (.getfield 240, 3) := by decide +kernel
theorem dX11_status_4 : decode cX11_status 4 = .ok (.ireturn, 1) := by decide +kernel
theorem dX11_told_0 : decode cX11_told 0 = .ok (.aload_n 0, 1) := by decide +kernel
theorem dX11_told_1 : decode cX11_told 1 = .ok (.iload_n 1, 1) := by decide +kernel
theorem dX11_told_2 : decode cX11_told 2 = .ok (.iconst 0, 1) := by decide +kernel
theorem dX11_told_3 : decode cX11_told 3 = .ok (.invokestatic 243, 3) := by decide +kernel
theorem dX11_told_6 : decode cX11_told 6 = .ok (.putfield 240, 3) := by decide +kernel
theorem dX11_told_9 : decode cX11_told 9 = .ok (.iload_n 1, 1) := by decide +kernel
theorem dX11_told_10 : decode cX11_told 10 = .ok (.ireturn, 1) := by decide +kernel
theorem dX11_isPerson_0 : decode cX11_isPerson 0 = .ok (.iload_n 1, 1) := by decide +kernel
theorem dX11_isPerson_1 : decode cX11_isPerson 1 = .ok (.iconst 0, 1) := by decide +kernel
theorem dX11_isPerson_2 : decode cX11_isPerson 2 = .ok (.aload_n 0, 1) := by decide +kernel
theorem dX11_isPerson_3 : decode cX11_isPerson 3 = .ok (.getfield 114, 3) := by decide +kernel
theorem dX11_isPerson_6 : decode cX11_isPerson 6 = .ok (.iconst 1, 1) := by decide +kernel
theorem dX11_isPerson_7 : decode cX11_isPerson 7 = .ok (.isub, 1) := by decide +kernel
theorem dX11_isPerson_8 : decode cX11_isPerson 8 = .ok (.invokestatic 86, 3) := by decide +kernel
theorem dX11_isPerson_11 : decode cX11_isPerson 11 = .ok (.ireturn, 1) := by decide +kernel
theorem dX11_isSource_0 : decode cX11_isSource 0 = .ok (.iload_n 1, 1) := by decide +kernel
theorem dX11_isSource_1 : decode cX11_isSource 1 = .ok (.bipush 100, 2) := by decide +kernel
theorem dX11_isSource_3 : decode cX11_isSource 3 = .ok (.if_icmp .ge 12, 3) := by decide +kernel
theorem dX11_isSource_6 : decode cX11_isSource 6 = .ok (.aload_n 0, 1) := by decide +kernel
theorem dX11_isSource_7 : decode cX11_isSource 7 = .ok (.getfield 42, 3) := by decide +kernel
theorem dX11_isSource_10 : decode cX11_isSource 10 = .ok (.iload_n 1, 1) := by decide +kernel
theorem dX11_isSource_11 : decode cX11_isSource 11 = .ok (.invokevirtual 101, 3) := by decide +kernel
theorem dX11_isSource_14 : decode cX11_isSource 14 = .ok (.ireturn, 1) := by decide +kernel
theorem dX11_isSource_15 : decode cX11_isSource 15 = .ok (.aload_n 0, 1) := by decide +kernel
theorem dX11_isSource_16 : decode cX11_isSource 16 = .ok (.getfield 49, 3) := by decide +kernel
theorem dX11_isSource_19 : decode cX11_isSource 19 = .ok (.iload_n 1, 1) := by decide +kernel
theorem dX11_isSource_20 : decode cX11_isSource 20 = .ok (.bipush 100, 2) := by decide +kernel
theorem dX11_isSource_22 : decode cX11_isSource 22 = .ok (.isub, 1) := by decide +kernel
theorem dX11_isSource_23 : decode cX11_isSource 23 = .ok (.invokevirtual 127, 3) := by decide +kernel
theorem dX11_isSource_26 : decode cX11_isSource 26 = .ok (.ireturn, 1) := by decide +kernel
theorem dX11_countDryQuarters_0 : decode cX11_countDryQuarters 0 = .ok (.iload_n 2, 1) := by decide +kernel
theorem dX11_countDryQuarters_1 : decode cX11_countDryQuarters 1 = .ok (.istore 4, 2) := by decide +kernel
theorem dX11_countDryQuarters_3 : decode cX11_countDryQuarters 3 = .ok (.iload 4, 2) := by decide +kernel
theorem dX11_countDryQuarters_5 : decode cX11_countDryQuarters 5 = .ok (.iload_n 3, 1) := by decide +kernel
theorem dX11_countDryQuarters_6 : decode cX11_countDryQuarters 6 = .ok (.if_icmp .gt 51, 3) := by decide +kernel
theorem dX11_countDryQuarters_9 : decode cX11_countDryQuarters 9 = .ok (.aload_n 0, 1) := by decide +kernel
theorem dX11_countDryQuarters_10 : decode cX11_countDryQuarters 10 = .ok (.getfield 77, 3) := by decide +kernel
theorem dX11_countDryQuarters_13 : decode cX11_countDryQuarters 13 = .ok (.iload 4, 2) := by decide +kernel
theorem dX11_countDryQuarters_15 : decode cX11_countDryQuarters 15 = .ok (.aload_n 0, 1) := by decide +kernel
theorem dX11_countDryQuarters_16 : decode cX11_countDryQuarters 16 = .ok (.getfield 130, 3) := by decide +kernel
theorem dX11_countDryQuarters_19 : decode cX11_countDryQuarters 19 = .ok (.invokevirtual 185, 3) := by decide +kernel
theorem dX11_countDryQuarters_22 : decode cX11_countDryQuarters 22 = .ok (.aload_n 0, 1) := by decide +kernel
theorem dX11_countDryQuarters_23 : decode cX11_countDryQuarters 23 = .ok (.getfield 77, 3) := by decide +kernel
theorem dX11_countDryQuarters_26 : decode cX11_countDryQuarters 26 = .ok (.iload_n 1, 1) := by decide +kernel
theorem dX11_countDryQuarters_27 : decode cX11_countDryQuarters 27 = .ok (.invokevirtual 249, 3) := by decide +kernel
theorem dX11_countDryQuarters_30 : decode cX11_countDryQuarters 30 = .ok (.aload_n 0, 1) := by decide +kernel
theorem dX11_countDryQuarters_31 : decode cX11_countDryQuarters 31 = .ok (.getfield 77, 3) := by decide +kernel
theorem dX11_countDryQuarters_34 : decode cX11_countDryQuarters 34 = .ok (.invokevirtual 201, 3) := by decide +kernel
theorem dX11_countDryQuarters_37 : decode cX11_countDryQuarters 37 = .ok (.aload_n 0, 1) := by decide +kernel
theorem dX11_countDryQuarters_38 : decode cX11_countDryQuarters 38 = .ok (.getfield 81, 3) := by decide +kernel
theorem dX11_countDryQuarters_41 : decode cX11_countDryQuarters 41 = .ok (.iload 4, 2) := by decide +kernel
theorem dX11_countDryQuarters_43 : decode cX11_countDryQuarters 43 = .ok (.aload_n 0, 1) := by decide +kernel
theorem dX11_countDryQuarters_44 : decode cX11_countDryQuarters 44 = .ok (.getfield 77, 3) := by decide +kernel
theorem dX11_countDryQuarters_47 : decode cX11_countDryQuarters 47 = .ok (.invokevirtual 252, 3) := by decide +kernel
theorem dX11_countDryQuarters_50 : decode cX11_countDryQuarters 50 = .ok (.iastore, 1) := by decide +kernel
theorem dX11_countDryQuarters_51 : decode cX11_countDryQuarters 51 = .ok (.iinc 4 1, 3) := by decide +kernel
theorem dX11_countDryQuarters_54 : decode cX11_countDryQuarters 54 = .ok (.goto (-51), 3) := by decide +kernel
theorem dX11_countDryQuarters_57 : decode cX11_countDryQuarters 57 = .ok (.return_, 1) := by decide +kernel
theorem dX11_leastDryYear_0 : decode cX11_leastDryYear 0 = .ok (.iload_n 2, 1) := by decide +kernel
theorem dX11_leastDryYear_1 : decode cX11_leastDryYear 1 = .ok (.istore 4, 2) := by decide +kernel
theorem dX11_leastDryYear_3 : decode cX11_leastDryYear 3 = .ok (.aload_n 0, 1) := by decide +kernel
theorem dX11_leastDryYear_4 : decode cX11_leastDryYear 4 = .ok (.iload_n 2, 1) := by decide +kernel
theorem dX11_leastDryYear_5 : decode cX11_leastDryYear 5 = .ok (.iload_n 1, 1) := by decide +kernel
theorem dX11_leastDryYear_6 : decode cX11_leastDryYear 6 = .ok (.invokevirtual 256, 3) := by decide +kernel
theorem dX11_leastDryYear_9 : decode cX11_leastDryYear 9 = .ok (.istore 5, 2) := by decide +kernel
theorem dX11_leastDryYear_11 : decode cX11_leastDryYear 11 = .ok (.iload_n 2, 1) := by decide +kernel
theorem dX11_leastDryYear_12 : decode cX11_leastDryYear 12 = .ok (.iconst 1, 1) := by decide +kernel
theorem dX11_leastDryYear_13 : decode cX11_leastDryYear 13 = .ok (.iadd, 1) := by decide +kernel
theorem dX11_leastDryYear_14 : decode cX11_leastDryYear 14 = .ok (.istore 6, 2) := by decide +kernel
theorem dX11_leastDryYear_16 : decode cX11_leastDryYear 16 = .ok (.iload 6, 2) := by decide +kernel
theorem dX11_leastDryYear_18 : decode cX11_leastDryYear 18 = .ok (.iload_n 3, 1) := by decide +kernel
theorem dX11_leastDryYear_19 : decode cX11_leastDryYear 19 = .ok (.if_icmp .gt 33, 3) := by decide +kernel
theorem dX11_leastDryYear_22 : decode cX11_leastDryYear 22 = .ok (.aload_n 0, 1) := by decide +kernel
theorem dX11_leastDryYear_23 : decode cX11_leastDryYear 23 = .ok (.iload 6, 2) := by decide +kernel
theorem dX11_leastDryYear_25 : decode cX11_leastDryYear 25 = .ok (.iload_n 1, 1) := by decide +kernel
theorem dX11_leastDryYear_26 : decode cX11_leastDryYear 26 = .ok (.invokevirtual 256, 3) := by decide +kernel
theorem dX11_leastDryYear_29 : decode cX11_leastDryYear 29 = .ok (.istore 7, 2) := by decide +kernel
theorem dX11_leastDryYear_31 : decode cX11_leastDryYear 31 = .ok (.iload 7, 2) := by decide +kernel
theorem dX11_leastDryYear_33 : decode cX11_leastDryYear 33 = .ok (.iload 5, 2) := by decide +kernel
theorem dX11_leastDryYear_35 : decode cX11_leastDryYear 35 = .ok (.if_icmp .ge 11, 3) := by decide +kernel
theorem dX11_leastDryYear_38 : decode cX11_leastDryYear 38 = .ok (.iload 7, 2) := by decide +kernel
theorem dX11_leastDryYear_40 : decode cX11_leastDryYear 40 = .ok (.istore 5, 2) := by decide +kernel
theorem dX11_leastDryYear_42 : decode cX11_leastDryYear 42 = .ok (.iload 6, 2) := by decide +kernel
theorem dX11_leastDryYear_44 : decode cX11_leastDryYear 44 = .ok (.istore 4, 2) := by decide +kernel
theorem dX11_leastDryYear_46 : decode cX11_leastDryYear 46 = .ok (.iinc 6 1, 3) := by decide +kernel
theorem dX11_leastDryYear_49 : decode cX11_leastDryYear 49 = .ok (.goto (-33), 3) := by decide +kernel
theorem dX11_leastDryYear_52 : decode cX11_leastDryYear 52 = .ok (.iload 4, 2) := by decide +kernel
theorem dX11_leastDryYear_54 : decode cX11_leastDryYear 54 = .ok (.ireturn, 1) := by decide +kernel
theorem dX11_sumDry_0 : decode cX11_sumDry 0 = .ok (.iconst 0, 1) := by decide +kernel
theorem dX11_sumDry_1 : decode cX11_sumDry 1 = .ok (.istore_n 3, 1) := by decide +kernel
theorem dX11_sumDry_2 : decode cX11_sumDry 2 = .ok (.iconst 0, 1) := by decide +kernel
theorem dX11_sumDry_3 : decode cX11_sumDry 3 = .ok (.istore 4, 2) := by decide +kernel
theorem dX11_sumDry_5 : decode cX11_sumDry 5 = .ok (.iload 4, 2) := by decide +kernel
theorem dX11_sumDry_7 : decode cX11_sumDry 7 = .ok (.iload_n 2, 1) := by decide +kernel
theorem dX11_sumDry_8 : decode cX11_sumDry 8 = .ok (.if_icmp .ge 21, 3) := by decide +kernel
theorem dX11_sumDry_11 : decode cX11_sumDry 11 = .ok (.iload_n 3, 1) := by decide +kernel
theorem dX11_sumDry_12 : decode cX11_sumDry 12 = .ok (.aload_n 0, 1) := by decide +kernel
theorem dX11_sumDry_13 : decode cX11_sumDry 13 = .ok (.getfield 81, 3) := by decide +kernel
theorem dX11_sumDry_16 : decode cX11_sumDry 16 = .ok (.iload_n 1, 1) := by decide +kernel
theorem dX11_sumDry_17 : decode cX11_sumDry 17 = .ok (.iload 4, 2) := by decide +kernel
theorem dX11_sumDry_19 : decode cX11_sumDry 19 = .ok (.iadd, 1) := by decide +kernel
theorem dX11_sumDry_20 : decode cX11_sumDry 20 = .ok (.iaload, 1) := by decide +kernel
theorem dX11_sumDry_21 : decode cX11_sumDry 21 = .ok (.iadd, 1) := by decide +kernel
theorem dX11_sumDry_22 : decode cX11_sumDry 22 = .ok (.istore_n 3, 1) := by decide +kernel
theorem dX11_sumDry_23 : decode cX11_sumDry 23 = .ok (.iinc 4 1, 3) := by decide +kernel
theorem dX11_sumDry_26 : decode cX11_sumDry 26 = .ok (.goto (-21), 3) := by decide +kernel
theorem dX11_sumDry_29 : decode cX11_sumDry 29 = .ok (.iload_n 3, 1) := by decide +kernel
theorem dX11_sumDry_30 : decode cX11_sumDry 30 = .ok (.ireturn, 1) := by decide +kernel
theorem dX11_isWithin_0 : decode cX11_isWithin 0 = .ok (.iload_n 0, 1) := by decide +kernel
theorem dX11_isWithin_1 : decode cX11_isWithin 1 = .ok (.iload_n 1, 1) := by decide +kernel
theorem dX11_isWithin_2 : decode cX11_isWithin 2 = .ok (.if_icmp .lt 12, 3) := by decide +kernel
theorem dX11_isWithin_5 : decode cX11_isWithin 5 = .ok (.iload_n 0, 1) := by decide +kernel
theorem dX11_isWithin_6 : decode cX11_isWithin 6 = .ok (.iload_n 2, 1) := by decide +kernel
theorem dX11_isWithin_7 : decode cX11_isWithin 7 = .ok (.if_icmp .gt 7, 3) := by decide +kernel
theorem dX11_isWithin_10 : decode cX11_isWithin 10 = .ok (.iconst 1, 1) := by decide +kernel
theorem dX11_isWithin_11 : decode cX11_isWithin 11 = .ok (.goto 4, 3) := by decide +kernel
theorem dX11_isWithin_14 : decode cX11_isWithin 14 = .ok (.iconst 0, 1) := by decide +kernel
theorem dX11_isWithin_15 : decode cX11_isWithin 15 = .ok (.ireturn, 1) := by decide +kernel
theorem dX11_isYear_0 : decode cX11_isYear 0 = .ok (.iload_n 0, 1) := by decide +kernel
theorem dX11_isYear_1 : decode cX11_isYear 1 = .ok (.iconst 0, 1) := by decide +kernel
theorem dX11_isYear_2 : decode cX11_isYear 2 = .ok (.sipush 200, 3) := by decide +kernel
theorem dX11_isYear_5 : decode cX11_isYear 5 = .ok (.invokestatic 86, 3) := by decide +kernel
theorem dX11_isYear_8 : decode cX11_isYear 8 = .ok (.ireturn, 1) := by decide +kernel
theorem dX11_areYears_0 : decode cX11_areYears 0 = .ok (.iload_n 0, 1) := by decide +kernel
theorem dX11_areYears_1 : decode cX11_areYears 1 = .ok (.invokestatic 97, 3) := by decide +kernel
theorem dX11_areYears_4 : decode cX11_areYears 4 = .ok (.ifCond .eq 19, 3) := by decide +kernel
theorem dX11_areYears_7 : decode cX11_areYears 7 = .ok (.iload_n 1, 1) := by decide +kernel
theorem dX11_areYears_8 : decode cX11_areYears 8 = .ok (.invokestatic 97, 3) := by decide +kernel
theorem dX11_areYears_11 : decode cX11_areYears 11 = .ok (.ifCond .eq 12, 3) := by decide +kernel
theorem dX11_areYears_14 : decode cX11_areYears 14 = .ok (.iload_n 0, 1) := by decide +kernel
theorem dX11_areYears_15 : decode cX11_areYears 15 = .ok (.iload_n 1, 1) := by decide +kernel
theorem dX11_areYears_16 : decode cX11_areYears 16 = .ok (.if_icmp .gt 7, 3) := by decide +kernel
theorem dX11_areYears_19 : decode cX11_areYears 19 = .ok (.iconst 1, 1) := by decide +kernel
theorem dX11_areYears_20 : decode cX11_areYears 20 = .ok (.goto 4, 3) := by decide +kernel
theorem dX11_areYears_23 : decode cX11_areYears 23 = .ok (.iconst 0, 1) := by decide +kernel
theorem dX11_areYears_24 : decode cX11_areYears 24 = .ok (.ireturn, 1) := by decide +kernel
theorem dX11_isQuarter_0 : decode cX11_isQuarter 0 = .ok (.iload_n 0, 1) := by decide +kernel
theorem dX11_isQuarter_1 : decode cX11_isQuarter 1 = .ok (.iconst 0, 1) := by decide +kernel
theorem dX11_isQuarter_2 : decode cX11_isQuarter 2 = .ok (.bipush 7, 2) := by decide +kernel
theorem dX11_isQuarter_4 : decode cX11_isQuarter 4 = .ok (.invokestatic 86, 3) := by decide +kernel
theorem dX11_isQuarter_7 : decode cX11_isQuarter 7 = .ok (.ireturn, 1) := by decide +kernel
theorem dX12_init_0 : decode cX12_init 0 = .ok (.aload_n 0, 1) := by decide +kernel
theorem dX12_init_1 : decode cX12_init 1 = .ok (.invokespecial 1, 3) := by decide +kernel
theorem dX12_init_4 : decode cX12_init 4 = .ok (.aload_n 0, 1) := by decide +kernel
theorem dX12_init_5 : decode cX12_init 5 = .ok (.iconst 4, 1) := by decide +kernel
theorem dX12_init_6 : decode cX12_init 6 = .ok (.newarray .int, 2) := by decide +kernel
theorem dX12_init_8 : decode cX12_init 8 = .ok (.putfield 7, 3) := by decide +kernel
theorem dX12_init_11 : decode cX12_init 11 = .ok (.aload_n 0, 1) := by decide +kernel
theorem dX12_init_12 : decode cX12_init 12 = .ok (.bipush 60, 2) := by decide +kernel
theorem dX12_init_14 : decode cX12_init 14 = .ok (.newarray .int, 2) := by decide +kernel
theorem dX12_init_16 : decode cX12_init 16 = .ok (.putfield 13, 3) := by decide +kernel
theorem dX12_init_19 : decode cX12_init 19 = .ok (.aload_n 0, 1) := by decide +kernel
theorem dX12_init_20 : decode cX12_init 20 = .ok (.bipush 60, 2) := by decide +kernel
theorem dX12_init_22 : decode cX12_init 22 = .ok (.newarray .int, 2) := by decide +kernel
theorem dX12_init_24 : decode cX12_init 24 = .ok (.putfield 16, 3) := by decide +kernel
theorem dX12_init_27 : decode cX12_init 27 = .ok (.aload_n 0, 1) := by decide +kernel
theorem dX12_init_28 : decode cX12_init 28 = .ok (.bipush 60, 2) := by decide +kernel
theorem dX12_init_30 : decode cX12_init 30 = .ok (.newarray .int, 2) := by decide +kernel
theorem dX12_init_32 : decode cX12_init 32 = .ok (.putfield 19, 3) := by decide +kernel
theorem dX12_init_35 : decode cX12_init 35 = .ok (.aload_n 0, 1) := by decide +kernel
theorem dX12_init_36 : decode cX12_init 36 = .ok (.bipush 12, 2) := by decide +kernel
theorem dX12_init_38 : decode cX12_init 38 = .ok (.newarray .int, 2) := by decide +kernel
theorem dX12_init_40 : decode cX12_init 40 = .ok (.putfield 22, 3) := by decide +kernel
theorem dX12_init_43 : decode cX12_init 43 = .ok (.aload_n 0, 1) := by decide +kernel
theorem dX12_init_44 : decode cX12_init 44 = .ok (.bipush 12, 2) := by decide +kernel
theorem dX12_init_46 : decode cX12_init 46 = .ok (.newarray .int, 2) := by decide +kernel
theorem dX12_init_48 : decode cX12_init 48 = .ok (.putfield 25, 3) := by decide +kernel
theorem dX12_init_51 : decode cX12_init 51 = .ok (.aload_n 0, 1) := by decide +kernel
theorem dX12_init_52 : decode cX12_init 52 = .ok (.bipush 12, 2) := by decide +kernel
theorem dX12_init_54 : decode cX12_init 54 = .ok (.newarray .int, 2) := by decide +kernel
theorem dX12_init_56 : decode cX12_init 56 = .ok (.putfield 28, 3) := by decide +kernel
theorem dX12_init_59 : decode cX12_init 59 = .ok (.aload_n 0, 1) := by decide +kernel
theorem dX12_init_60 : decode cX12_init 60 = .ok (.bipush 60, 2) := by decide +kernel
theorem dX12_init_62 : decode cX12_init 62 = .ok (.newarray .int, 2) := by decide +kernel
theorem dX12_init_64 : decode cX12_init 64 = .ok (.putfield 31, 3) := by decide +kernel
theorem dX12_init_67 : decode cX12_init 67 = .ok (.aload_n 0, 1) := by decide +kernel
theorem dX12_init_68 : decode cX12_init 68 = .ok (.bipush 60, 2) := by decide +kernel
theorem dX12_init_70 : decode cX12_init 70 = .ok (.newarray .int, 2) := by decide +kernel
theorem dX12_init_72 : decode cX12_init 72 = .ok (.putfield 34, 3) := by decide +kernel
theorem dX12_init_75 : decode cX12_init 75 = .ok (.aload_n 0, 1) := by decide +kernel
theorem dX12_init_76 : decode cX12_init 76 = .ok (.bipush 60, 2) := by decide +kernel
theorem dX12_init_78 : decode cX12_init 78 = .ok (.newarray .int, 2) := by decide +kernel
theorem dX12_init_80 : decode cX12_init 80 = .ok (.putfield 37, 3) := by decide +kernel
theorem dX12_init_83 : decode cX12_init 83 = .ok (.aload_n 0, 1) := by decide +kernel
theorem dX12_init_84 : decode cX12_init 84 = .ok (.bipush 80, 2) := by decide +kernel
theorem dX12_init_86 : decode cX12_init 86 = .ok (.newarray .int, 2) := by decide +kernel
theorem dX12_init_88 : decode cX12_init 88 = .ok (.putfield 40, 3) := by decide +kernel
theorem dX12_init_91 : decode cX12_init 91 = .ok (.aload_n 0, 1) := by decide +kernel
theorem dX12_init_92 : decode cX12_init 92 = .ok (.bipush 80, 2) := by decide +kernel
theorem dX12_init_94 : decode cX12_init 94 = .ok (.newarray .int, 2) := by decide +kernel
theorem dX12_init_96 : decode cX12_init 96 = .ok (.putfield 43, 3) := by decide +kernel
theorem dX12_init_99 : decode cX12_init 99 = .ok (.aload_n 0, 1) := by decide +kernel
theorem dX12_init_100 : decode cX12_init 100 = .ok (.bipush 80, 2) := by decide +kernel
theorem dX12_init_102 : decode cX12_init 102 = .ok (.newarray .int, 2) := by decide +kernel
theorem dX12_init_104 : decode cX12_init 104 = .ok (.putfield 46, 3) := by decide +kernel
theorem dX12_init_107 : decode cX12_init 107 = .ok (.aload_n 0, 1) := by decide +kernel
theorem dX12_init_108 : decode cX12_init 108 = .ok (.bipush 80, 2) := by decide +kernel
theorem dX12_init_110 : decode cX12_init 110 = .ok (.newarray .int, 2) := by decide +kernel
theorem dX12_init_112 : decode cX12_init 112 = .ok (.putfield 49, 3) := by decide +kernel
theorem dX12_init_115 : decode cX12_init 115 = .ok (.aload_n 0, 1) := by decide +kernel
theorem dX12_init_116 : decode cX12_init 116 = .ok (.bipush 80, 2) := by decide +kernel
theorem dX12_init_118 : decode cX12_init 118 = .ok (.newarray .int, 2) := by decide +kernel
theorem dX12_init_120 : decode cX12_init 120 = .ok (.putfield 52, 3) := by decide +kernel
theorem dX12_init_123 : decode cX12_init 123 = .ok (.aload_n 0, 1) := by decide +kernel
theorem dX12_init_124 : decode cX12_init 124 = .ok (.bipush 80, 2) := by decide +kernel
theorem dX12_init_126 : decode cX12_init 126 = .ok (.newarray .int, 2) := by decide +kernel
theorem dX12_init_128 : decode cX12_init 128 = .ok (.putfield 55, 3) := by decide +kernel
theorem dX12_init_131 : decode cX12_init 131 = .ok (.aload_n 0, 1) := by decide +kernel
theorem dX12_init_132 : decode cX12_init 132 = .ok (.bipush 60, 2) := by decide +kernel
theorem dX12_init_134 : decode cX12_init 134 = .ok (.newarray .int, 2) := by decide +kernel
theorem dX12_init_136 : decode cX12_init 136 = .ok (.putfield 58, 3) := by decide +kernel
theorem dX12_init_139 : decode cX12_init 139 = .ok (.aload_n 0, 1) := by decide +kernel
theorem dX12_init_140 : decode cX12_init 140 = .ok (.bipush 60, 2) := by decide +kernel
theorem dX12_init_142 : decode cX12_init 142 = .ok (.newarray .int, 2) := by decide +kernel
theorem dX12_init_144 : decode cX12_init 144 = .ok (.putfield 61, 3) := by decide +kernel
theorem dX12_init_147 : decode cX12_init 147 = .ok (.aload_n 0, 1) := by decide +kernel
theorem dX12_init_148 : decode cX12_init 148 = .ok (.bipush 60, 2) := by decide +kernel
theorem dX12_init_150 : decode cX12_init 150 = .ok (.newarray .int, 2) := by decide +kernel
theorem dX12_init_152 : decode cX12_init 152 = .ok (.putfield 64, 3) := by decide +kernel
theorem dX12_init_155 : decode cX12_init 155 = .ok (.aload_n 0, 1) := by decide +kernel
theorem dX12_init_156 : decode cX12_init 156 = .ok (.bipush 60, 2) := by decide +kernel
theorem dX12_init_158 : decode cX12_init 158 = .ok (.newarray .int, 2) := by decide +kernel
theorem dX12_init_160 : decode cX12_init 160 = .ok (.putfield 67, 3) := by decide +kernel
theorem dX12_init_163 : decode cX12_init 163 = .ok (.aload_n 0, 1) := by decide +kernel
theorem dX12_init_164 : decode cX12_init 164 = .ok (.bipush 41, 2) := by decide +kernel
theorem dX12_init_166 : decode cX12_init 166 = .ok (.newarray .int, 2) := by decide +kernel
theorem dX12_init_168 : decode cX12_init 168 = .ok (.putfield 70, 3) := by decide +kernel
theorem dX12_init_171 : decode cX12_init 171 = .ok (.aload_n 0, 1) := by decide +kernel
theorem dX12_init_172 : decode cX12_init 172 = .ok (.bipush 41, 2) := by decide +kernel
theorem dX12_init_174 : decode cX12_init 174 = .ok (.newarray .int, 2) := by decide +kernel
theorem dX12_init_176 : decode cX12_init 176 = .ok (.putfield 73, 3) := by decide +kernel
theorem dX12_init_179 : decode cX12_init 179 = .ok (.aload_n 0, 1) := by decide +kernel
theorem dX12_init_180 : decode cX12_init 180 = .ok (.bipush 41, 2) := by decide +kernel
theorem dX12_init_182 : decode cX12_init 182 = .ok (.newarray .int, 2) := by decide +kernel
theorem dX12_init_184 : decode cX12_init 184 = .ok (.putfield 76, 3) := by decide +kernel
theorem dX12_init_187 : decode cX12_init 187 = .ok (.aload_n 0, 1) := by decide +kernel
theorem dX12_init_188 : decode cX12_init 188 = .ok (.bipush 30, 2) := by decide +kernel
theorem dX12_init_190 : decode cX12_init 190 = .ok (.newarray .int, 2) := by decide +kernel
theorem dX12_init_192 : decode cX12_init 192 = .ok (.putfield 79, 3) := by decide +kernel
theorem dX12_init_195 : decode cX12_init 195 = .ok (.aload_n 0, 1) := by decide +kernel
theorem dX12_init_196 : decode cX12_init 196 = .ok (.bipush 30, 2) := by decide +kernel
theorem dX12_init_198 : decode cX12_init 198 = .ok (.newarray .int, 2) := by decide +kernel
theorem dX12_init_200 : decode cX12_init 200 = .ok (.putfield 82, 3) := by decide +kernel
theorem dX12_init_203 : decode cX12_init 203 = .ok (.aload_n 0, 1) := by decide +kernel
theorem dX12_init_204 : decode cX12_init 204 = .ok (.bipush 30, 2) := by decide +kernel
theorem dX12_init_206 : decode cX12_init 206 = .ok (.newarray .int, 2) := by decide +kernel
theorem dX12_init_208 : decode cX12_init 208 = .ok (.putfield 85, 3) := by decide +kernel
theorem dX12_init_211 : decode cX12_init 211 = .ok (.aload_n 0, 1) := by decide +kernel
theorem dX12_init_212 : decode cX12_init 212 = .ok (.bipush 30, 2) := by decide +kernel
theorem dX12_init_214 : decode cX12_init 214 = .ok (.newarray .int, 2) := by decide +kernel
theorem dX12_init_216 : decode cX12_init 216 = .ok (.putfield 88, 3) := by decide +kernel
theorem dX12_init_219 : decode cX12_init 219 = .ok (.aload_n 0, 1) := by decide +kernel
theorem dX12_init_220 : decode cX12_init 220 = .ok (.bipush 120, 2) := by decide +kernel
theorem dX12_init_222 : decode cX12_init 222 = .ok (.newarray .int, 2) := by decide +kernel
theorem dX12_init_224 : decode cX12_init 224 = .ok (.putfield 91, 3) := by decide +kernel
theorem dX12_init_227 : decode cX12_init 227 = .ok (.aload_n 0, 1) := by decide +kernel
theorem dX12_init_228 : decode cX12_init 228 = .ok (.sipush 400, 3) := by decide +kernel
theorem dX12_init_231 : decode cX12_init 231 = .ok (.newarray .int, 2) := by decide +kernel
theorem dX12_init_233 : decode cX12_init 233 = .ok (.putfield 94, 3) := by decide +kernel
theorem dX12_init_236 : decode cX12_init 236 = .ok (.aload_n 0, 1) := by decide +kernel
theorem dX12_init_237 : decode cX12_init 237 = .ok (.iconst (-1), 1) := by decide +kernel
theorem dX12_init_238 : decode cX12_init 238 = .ok (.putfield 97, 3) := by decide +kernel
theorem dX12_init_241 : decode cX12_init 241 = .ok (.aload_n 0, 1) := by decide +kernel
theorem dX12_init_242 : decode cX12_init 242 = .ok (.bipush 12, 2) := by decide +kernel
theorem dX12_init_244 : decode cX12_init 244 = .ok (.newarray .int, 2) := by decide +kernel
theorem dX12_init_246 : decode cX12_init 246 = .ok (.putfield 101, 3) := by decide +kernel
theorem dX12_init_249 : decode cX12_init 249 = .ok (.aload_n 0, 1) := by decide +kernel
theorem dX12_init_250 : decode cX12_init 250 = .ok (.bipush 12, 2) := by decide +kernel
theorem dX12_init_252 : decode cX12_init 252 = .ok (.newarray .int, 2) := by decide +kernel
theorem dX12_init_254 : decode cX12_init 254 = .ok (.putfield 104, 3) := by decide +kernel
theorem dX12_init_257 : decode cX12_init 257 = .ok (.aload_n 0, 1) := by decide +kernel
theorem dX12_init_258 : decode cX12_init 258 = .ok (.bipush 12, 2) := by decide +kernel
theorem dX12_init_260 : decode cX12_init 260 = .ok (.newarray .int, 2) := by decide +kernel
theorem dX12_init_262 : decode cX12_init 262 = .ok (.putfield 107, 3) := by decide +kernel
theorem dX12_init_265 : decode cX12_init 265 = .ok (.aload_n 0, 1) := by decide +kernel
theorem dX12_init_266 : decode cX12_init 266 = .ok (.bipush 12, 2) := by decide +kernel
theorem dX12_init_268 : decode cX12_init 268 = .ok (.newarray .int, 2) := by decide +kernel
theorem dX12_init_270 : decode cX12_init 270 = .ok (.putfield 110, 3) := by decide +kernel
theorem dX12_init_273 : decode cX12_init 273 = .ok (.aload_n 0, 1) := by decide +kernel
theorem dX12_init_274 : decode cX12_init 274 = .ok (.bipush 12, 2) := by decide +kernel
theorem dX12_init_276 : decode cX12_init 276 = .ok (.newarray .int, 2) := by decide +kernel
theorem dX12_init_278 : decode cX12_init 278 = .ok (.putfield 113, 3) := by decide +kernel
theorem dX12_init_281 : decode cX12_init 281 = .ok (.aload_n 0, 1) := by decide +kernel
theorem dX12_init_282 : decode cX12_init 282 = .ok (.bipush 12, 2) := by decide +kernel
theorem dX12_init_284 : decode cX12_init 284 = .ok (.newarray .int, 2) := by decide +kernel
theorem dX12_init_286 : decode cX12_init 286 = .ok (.putfield 116, 3) := by decide +kernel
theorem dX12_init_289 : decode cX12_init 289 = .ok (.aload_n 0, 1) := by decide +kernel
theorem dX12_init_290 : decode cX12_init 290 = .ok (.bipush 80, 2) := by decide +kernel
theorem dX12_init_292 : decode cX12_init 292 = .ok (.newarray .int, 2) := by decide +kernel
theorem dX12_init_294 : decode cX12_init 294 = .ok (.putfield 119, 3) := by decide +kernel
theorem dX12_init_297 : decode cX12_init 297 = .ok (.aload_n 0, 1) := by decide +kernel
theorem dX12_init_298 : decode cX12_init 298 = .ok (.bipush 80, 2) := by decide +kernel
theorem dX12_init_300 : decode cX12_init 300 = .ok (.newarray .int, 2) := by decide +kernel
theorem dX12_init_302 : decode cX12_init 302 = .ok (.putfield 122, 3) := by decide +kernel
theorem dX12_init_305 : decode cX12_init 305 = .ok (.aload_n 0, 1) := by decide +kernel
theorem dX12_init_306 : decode cX12_init 306 = .ok (.bipush 80, 2) := by decide +kernel
theorem dX12_init_308 : decode cX12_init 308 = .ok (.newarray .int, 2) := by decide +kernel
theorem dX12_init_310 : decode cX12_init 310 = .ok (.putfield 125, 3) := by decide +kernel
theorem dX12_init_313 : decode cX12_init 313 = .ok (.aload_n 0, 1) := by decide +kernel
theorem dX12_init_314 : decode cX12_init 314 = .ok (.bipush 80, 2) := by decide +kernel
theorem dX12_init_316 : decode cX12_init 316 = .ok (.newarray .int, 2) := by decide +kernel
theorem dX12_init_318 : decode cX12_init 318 = .ok (.putfield 128, 3) := by decide +kernel
theorem dX12_init_321 : decode cX12_init 321 = .ok (.return_, 1) := by decide +kernel
theorem dX12_in_0 : decode cX12_in 0 = .ok (.lload_n 0, 1) := by decide +kernel
theorem dX12_in_1 : decode cX12_in 1 = .ok (.lload_n 2, 1) := by decide +kernel
theorem dX12_in_2 : decode cX12_in 2 = .ok (.lcmp, 1) := by decide +kernel
theorem dX12_in_3 : decode cX12_in 3 = .ok (.ifCond .lt 14, 3) := by decide +kernel
theorem dX12_in_6 : decode cX12_in 6 = .ok (.lload_n 0, 1) := by decide +kernel
theorem dX12_in_7 : decode cX12_in 7 = .ok (.lload 4, 2) := by decide +kernel
theorem dX12_in_9 : decode cX12_in 9 = .ok (.lcmp, 1) := by decide +kernel
theorem dX12_in_10 : decode cX12_in 10 = .ok (.ifCond .gt 7, 3) := by decide +kernel
theorem dX12_in_13 : decode cX12_in 13 = .ok (.iconst 1, 1) := by decide +kernel
theorem dX12_in_14 : decode cX12_in 14 = .ok (.goto 4, 3) := by decide +kernel
theorem dX12_in_17 : decode cX12_in 17 = .ok (.iconst 0, 1) := by decide +kernel
theorem dX12_in_18 : decode cX12_in 18 = .ok (.ireturn, 1) := by decide +kernel
theorem dX12_told_0 : decode cX12_told 0 = .ok (.aload_n 0, 1) := by decide +kernel
theorem dX12_told_1 : decode cX12_told 1 = .ok (.iload_n 1, 1) := by decide +kernel
theorem dX12_told_2 : decode cX12_told 2 = .ok (.ifCond .ge 7, 3) := by decide +kernel
theorem dX12_told_5 : decode cX12_told 5 = .ok (.iload_n 1, 1) := by decide +kernel
theorem dX12_told_6 : decode cX12_told 6 = .ok (.goto 4, 3) := by decide +kernel
theorem dX12_told_9 : decode cX12_told 9 = .ok (.iconst 0, 1) := by decide +kernel
theorem dX12_told_10 : decode cX12_told 10 = .ok (.putfield 134, 3) := by decide +kernel
theorem dX12_told_13 : decode cX12_told 13 = .ok (.iload_n 1, 1) := by decide +kernel
theorem dX12_told_14 : decode cX12_told 14 = .ok (.ireturn, 1) := by decide +kernel
end
section
theorem dX12_isYear_0 : decode cX12_isYear 0 = .ok (.iload_n 0, 1) := by decide +kernel
theorem dX12_isYear_1 : decode cX12_isYear 1 = .ok (.i2l, 1) := by decide +kernel
theorem dX12_isYear_2 : decode cX12_isYear 2 = .ok (.lconst 0, 1) := by decide +kernel
theorem dX12_isYear_3 : decode cX12_isYear 3 = .ok (.ldc2_w 137, 3) := by decide +kernel
theorem dX12_isYear_6 : decode cX12_isYear 6 = .ok (.invokestatic 139, 3) := by decide +kernel
theorem dX12_isYear_9 : decode cX12_isYear 9 = .ok (.ireturn, 1) := by decide +kernel
theorem dX12_isCastle_0 : decode cX12_isCastle 0 = .ok (.iload_n 1, 1) := by decide +kernel
theorem dX12_isCastle_1 : decode cX12_isCastle 1 = .ok (.i2l, 1) := by decide +kernel
theorem dX12_isCastle_2 : decode cX12_isCastle 2 = .ok (.lconst 0, 1) := by decide +kernel
theorem dX12_isCastle_3 : decode cX12_isCastle 3 = .ok (.aload_n 0, 1) := by decide +kernel
theorem dX12_isCastle_4 : decode cX12_isCastle 4 = .ok (.getfield 143, 3) := by decide +kernel
theorem dX12_isCastle_7 : decode cX12_isCastle 7 = .ok (.i2l, 1) := by decide +kernel
theorem dX12_isCastle_8 : decode cX12_isCastle 8 = .ok (.lconst 1, 1) := by decide +kernel
theorem dX12_isCastle_9 : decode cX12_isCastle 9 = .ok (.lsub, 1) := by decide +kernel
theorem dX12_isCastle_10 : decode cX12_isCastle 10 = .ok (.invokestatic 139, 3) := by decide +kernel
theorem dX12_isCastle_13 : decode cX12_isCastle 13 = .ok (.ireturn, 1) := by decide +kernel
theorem dX12_isPerson_0 : decode cX12_isPerson 0 = .ok (.iload_n 1, 1) := by decide +kernel
theorem dX12_isPerson_1 : decode cX12_isPerson 1 = .ok (.i2l, 1) := by decide +kernel
theorem dX12_isPerson_2 : decode cX12_isPerson 2 = .ok (.lconst 0, 1) := by decide +kernel
theorem dX12_isPerson_3 : decode cX12_isPerson 3 = .ok (.aload_n 0, 1) := by decide +kernel
theorem dX12_isPerson_4 : decode cX12_isPerson 4 = .ok (.getfield 146, 3) := by decide +kernel
theorem dX12_isPerson_7 : decode cX12_isPerson 7 = .ok (.i2l, 1) := by decide +kernel
theorem dX12_isPerson_8 : decode cX12_isPerson 8 = .ok (.lconst 1, 1) := by decide +kernel
theorem dX12_isPerson_9 : decode cX12_isPerson 9 = .ok (.lsub, 1) := by decide +kernel
theorem dX12_isPerson_10 : decode cX12_isPerson 10 = .ok (.invokestatic 139, 3) := by decide +kernel
theorem dX12_isPerson_13 : decode cX12_isPerson 13 = .ok (.ireturn, 1) := by decide +kernel
theorem dX12_isNozzle_0 : decode cX12_isNozzle 0 = .ok (.iload_n 1, 1) := by decide +kernel
theorem dX12_isNozzle_1 : decode cX12_isNozzle 1 = .ok (.i2l, 1) := by decide +kernel
theorem dX12_isNozzle_2 : decode cX12_isNozzle 2 = .ok (.lconst 0, 1) := by decide +kernel
theorem dX12_isNozzle_3 : decode cX12_isNozzle 3 = .ok (.aload_n 0, 1) := by decide +kernel
theorem dX12_isNozzle_4 : decode cX12_isNozzle 4 = .ok (.getfield 149, 3) := by decide +kernel
theorem dX12_isNozzle_7 : decode cX12_isNozzle 7 = .ok (.i2l, 1) := by decide +kernel
theorem dX12_isNozzle_8 : decode cX12_isNozzle 8 = .ok (.lconst 1, 1) := by decide +kernel
theorem dX12_isNozzle_9 : decode cX12_isNozzle 9 = .ok (.lsub, 1) := by decide +kernel
theorem dX12_isNozzle_10 : decode cX12_isNozzle 10 = .ok (.invokestatic 139, 3) := by decide +kernel
theorem dX12_isNozzle_13 : decode cX12_isNozzle 13 = .ok (.ireturn, 1) := by decide +kernel
theorem dX12_aqueduct_0 : decode cX12_aqueduct 0 = .ok (.aload_n 0, 1) := by decide +kernel
theorem dX12_aqueduct_1 : decode cX12_aqueduct 1 = .ok (.iconst 0, 1) := by decide +kernel
theorem dX12_aqueduct_2 : decode cX12_aqueduct 2 = .ok (.putfield 131, 3) := by decide +kernel
theorem dX12_aqueduct_5 : decode cX12_aqueduct 5 = .ok (.iload_n 1, 1) := by decide +kernel
theorem dX12_aqueduct_6 : decode cX12_aqueduct 6 = .ok (.i2l, 1) := by decide +kernel
theorem dX12_aqueduct_7 : decode cX12_aqueduct 7 = .ok (.lconst 0, 1) := by decide +kernel
theorem dX12_aqueduct_8 : decode cX12_aqueduct 8 = .ok (.ldc2_w 152, 3) := by decide +kernel
theorem dX12_aqueduct_11 : decode cX12_aqueduct 11 = .ok (.invokestatic 139, 3) := by decide +kernel
theorem dX12_aqueduct_14 : decode cX12_aqueduct 14 = .ok (.ifCond .ne 9, 3) := by decide +kernel
theorem dX12_aqueduct_17 : decode cX12_aqueduct 17 = .ok (.aload_n 0, 1) := by decide +kernel
theorem dX12_aqueduct_18 : decode cX12_aqueduct 18 = .ok (.iconst (-1), 1) := by decide +kernel
theorem dX12_aqueduct_19 : decode cX12_aqueduct 19 = .ok (.invokevirtual 154, 3) := by decide +kernel
theorem dX12_aqueduct_22 : decode cX12_aqueduct 22 = .ok (.ireturn, 1) := by decide +kernel
theorem dX12_aqueduct_23 : decode cX12_aqueduct 23 = .ok (.aload_n 0, 1) := by decide +kernel
theorem dX12_aqueduct_24 : decode cX12_aqueduct 24 = .ok (.getfield 158, 3) := by decide +kernel
theorem dX12_aqueduct_27 : decode cX12_aqueduct 27 = .ok (.iconst 4, 1) := by decide +kernel
theorem dX12_aqueduct_28 : decode cX12_aqueduct 28 = .ok (.if_icmp .ne 10, 3) := by decide +kernel
theorem dX12_aqueduct_31 : decode cX12_aqueduct 31 = .ok (.aload_n 0, 1) := by decide +kernel
theorem dX12_aqueduct_32 : decode cX12_aqueduct 32 = .ok (.bipush (-5), 2) := by decide +kernel
theorem dX12_aqueduct_34 : decode cX12_aqueduct 34 = .ok (.invokevirtual 154, 3) := by decide +kernel
theorem dX12_aqueduct_37 : decode cX12_aqueduct 37 = .ok (.ireturn, 1) := by decide +kernel
theorem dX12_aqueduct_38 : decode cX12_aqueduct 38 = .ok (.aload_n 0, 1) := by decide +kernel
theorem dX12_aqueduct_39 : decode cX12_aqueduct 39 = .ok (.getfield 7, 3) := by decide +kernel
theorem dX12_aqueduct_42 : decode cX12_aqueduct 42 = .ok (.aload_n 0, 1) := by decide +kernel
theorem dX12_aqueduct_43 : decode cX12_aqueduct 43 = .ok (.getfield 158, 3) := by decide +kernel
theorem dX12_aqueduct_46 : decode cX12_aqueduct 46 = .ok (.iload_n 1, 1) := by decide +kernel
theorem dX12_aqueduct_47 : decode cX12_aqueduct 47 = .ok (.iastore, 1) := by decide +kernel
theorem dX12_aqueduct_48 : decode cX12_aqueduct 48 = .ok (.aload_n 0, 1) := by decide +kernel
theorem dX12_aqueduct_49 : decode cX12_aqueduct 49 = .ok (.dup, 1) := by decide +kernel
theorem dX12_aqueduct_50 : decode cX12_aqueduct 50 = .ok (.getfield 158, 3) := by decide +kernel
theorem dX12_aqueduct_53 : decode cX12_aqueduct 53 = .ok (.iconst 1, 1) := by decide +kernel
theorem dX12_aqueduct_54 : decode cX12_aqueduct 54 = .ok (.iadd, 1) := by decide +kernel
theorem dX12_aqueduct_55 : decode cX12_aqueduct 55 = .ok (.putfield 158, 3) := by decide +kernel
theorem dX12_aqueduct_58 : decode cX12_aqueduct 58 = .ok (.aload_n 0, 1) := by decide +kernel
theorem dX12_aqueduct_59 : decode cX12_aqueduct 59 = .ok (.aload_n 0, 1) := by decide +kernel
theorem dX12_aqueduct_60 : decode cX12_aqueduct 60 = .ok (.getfield 158, 3) := by decide +kernel
theorem dX12_aqueduct_63 : decode cX12_aqueduct 63 = .ok (.iconst 1, 1) := by decide +kernel
theorem dX12_aqueduct_64 : decode cX12_aqueduct 64 = .ok (.isub, 1) := by decide +kernel
theorem dX12_aqueduct_65 : decode cX12_aqueduct 65 = .ok (.invokevirtual 154, 3) := by decide +kernel
theorem dX12_aqueduct_68 : decode cX12_aqueduct 68 = .ok (.ireturn, 1) := by decide +kernel
theorem dX12_spring_0 : decode cX12_spring 0 = .ok (.aload_n 0, 1) := by decide +kernel
theorem dX12_spring_1 : decode cX12_spring 1 = .ok (.iconst 0, 1) := by decide +kernel
theorem dX12_spring_2 : decode cX12_spring 2 = .ok (.putfield 131, 3) := by decide +kernel
theorem dX12_spring_5 : decode cX12_spring 5 = .ok (.iload_n 2, 1) := by decide +kernel
theorem dX12_spring_6 : decode cX12_spring 6 = .ok (.invokestatic 161, 3) := by decide +kernel
theorem dX12_spring_9 : decode cX12_spring 9 = .ok (.ifCond .eq 15, 3) := by decide +kernel
theorem dX12_spring_12 : decode cX12_spring 12 = .ok (.iload_n 3, 1) := by decide +kernel
theorem dX12_spring_13 : decode cX12_spring 13 = .ok (.i2l, 1) := by decide +kernel
theorem dX12_spring_14 : decode cX12_spring 14 = .ok (.lconst 0, 1) := by decide +kernel
theorem dX12_spring_15 : decode cX12_spring 15 = .ok (.ldc2_w 152, 3) := by decide +kernel
theorem dX12_spring_18 : decode cX12_spring 18 = .ok (.invokestatic 139, 3) := by decide +kernel
theorem dX12_spring_21 : decode cX12_spring 21 = .ok (.ifCond .ne 9, 3) := by decide +kernel
theorem dX12_spring_24 : decode cX12_spring 24 = .ok (.aload_n 0, 1) := by decide +kernel
theorem dX12_spring_25 : decode cX12_spring 25 = .ok (.iconst (-1), 1) := by decide +kernel
theorem dX12_spring_26 : decode cX12_spring 26 = .ok (.invokevirtual 154, 3) := by decide +kernel
theorem dX12_spring_29 : decode cX12_spring 29 = .ok (.ireturn, 1) := by decide +kernel
theorem dX12_spring_30 : decode cX12_spring 30 = .ok (.iload_n 1, 1) := by decide +kernel
theorem dX12_spring_31 : decode cX12_spring 31 = .ok (.i2l, 1) := by decide +kernel
theorem dX12_spring_32 : decode cX12_spring 32 = .ok (.lconst 0, 1) := by decide +kernel
theorem dX12_spring_33 : decode cX12_spring 33 = .ok (.aload_n 0, 1) := by decide +kernel
theorem dX12_spring_34 : decode cX12_spring 34 = .ok (.getfield 158, 3) := by decide +kernel
theorem dX12_spring_37 : decode cX12_spring 37 = .ok (.i2l, 1) := by decide +kernel
theorem dX12_spring_38 : decode cX12_spring 38 = .ok (.lconst 1, 1) := by decide +kernel
theorem dX12_spring_39 : decode cX12_spring 39 = .ok (.lsub, 1) := by decide +kernel
theorem dX12_spring_40 : decode cX12_spring 40 = .ok (.invokestatic 139, 3) := by decide +kernel
theorem dX12_spring_43 : decode cX12_spring 43 = .ok (.ifCond .ne 10, 3) := by decide +kernel
theorem dX12_spring_46 : decode cX12_spring 46 = .ok (.aload_n 0, 1) := by decide +kernel
theorem dX12_spring_47 : decode cX12_spring 47 = .ok (.bipush (-2), 2) := by decide +kernel
theorem dX12_spring_49 : decode cX12_spring 49 = .ok (.invokevirtual 154, 3) := by decide +kernel
theorem dX12_spring_52 : decode cX12_spring 52 = .ok (.ireturn, 1) := by decide +kernel
theorem dX12_spring_53 : decode cX12_spring 53 = .ok (.iconst 0, 1) := by decide +kernel
theorem dX12_spring_54 : decode cX12_spring 54 = .ok (.istore 4, 2) := by decide +kernel
theorem dX12_spring_56 : decode cX12_spring 56 = .ok (.iload 4, 2) := by decide +kernel
theorem dX12_spring_58 : decode cX12_spring 58 = .ok (.aload_n 0, 1) := by decide +kernel
theorem dX12_spring_59 : decode cX12_spring 59 = .ok (.getfield 165, 3) := by decide +kernel
theorem dX12_spring_62 : decode cX12_spring 62 = .ok (.if_icmp .ge 31, 3) := by decide +kernel
theorem dX12_spring_65 : decode cX12_spring 65 = .ok (.aload_n 0, 1) := by decide +kernel
theorem dX12_spring_66 : decode cX12_spring 66 = .ok (.getfield 13, 3) := by decide +kernel
theorem dX12_spring_69 : decode cX12_spring 69 = .ok (.iload 4, 2) := by decide +kernel
theorem dX12_spring_71 : decode cX12_spring 71 = .ok (.iaload, 1) := by decide +kernel
theorem dX12_spring_72 : decode cX12_spring 72 = .ok (.iload_n 1, 1) := by decide +kernel
theorem dX12_spring_73 : decode cX12_spring 73 = .ok (.if_icmp .ne 14, 3) := by decide +kernel
theorem dX12_spring_76 : decode cX12_spring 76 = .ok (.aload_n 0, 1) := by decide +kernel
theorem dX12_spring_77 : decode cX12_spring 77 = .ok (.getfield 16, 3) := by decide +kernel
theorem dX12_spring_80 : decode cX12_spring 80 = .ok (.iload 4, 2) := by decide +kernel
theorem dX12_spring_82 : decode cX12_spring 82 = .ok (.iaload, 1) := by decide +kernel
theorem dX12_spring_83 : decode cX12_spring 83 = .ok (.iload_n 2, 1) := by decide +kernel
theorem dX12_spring_84 : decode cX12_spring 84 = .ok (.if_icmp .eq 9, 3) := by decide +kernel
theorem dX12_spring_87 : decode cX12_spring 87 = .ok (.iinc 4 1, 3) := by decide +kernel
theorem dX12_spring_90 : decode cX12_spring 90 = .ok (.goto (-34), 3) := by decide +kernel
theorem dX12_spring_93 : decode cX12_spring 93 = .ok (.iload 4, 2) := by decide +kernel
theorem dX12_spring_95 : decode cX12_spring 95 = .ok (.bipush 60, 2) := by decide +kernel
theorem dX12_spring_97 : decode cX12_spring 97 = .ok (.if_icmp .ne 10, 3) := by decide +kernel
theorem dX12_spring_100 : decode cX12_spring 100 = .ok (.aload_n 0, 1) := by decide +kernel
theorem dX12_spring_101 : decode cX12_spring 101 = .ok (.bipush (-5), 2) := by decide +kernel
theorem dX12_spring_103 : decode cX12_spring 103 = .ok (.invokevirtual 154, 3) := by decide +kernel
theorem dX12_spring_106 : decode cX12_spring 106 = .ok (.ireturn, 1) := by decide +kernel
theorem dX12_spring_107 : decode cX12_spring 107 = .ok (.aload_n 0, 1) := by decide +kernel
theorem dX12_spring_108 : decode cX12_spring 108 = .ok (.getfield 13, 3) := by decide +kernel
theorem dX12_spring_111 : decode cX12_spring 111 = .ok (.iload 4, 2) := by decide +kernel
theorem dX12_spring_113 : decode cX12_spring 113 = .ok (.iload_n 1, 1) := by decide +kernel
theorem dX12_spring_114 : decode cX12_spring 114 = .ok (.iastore, 1) := by decide +kernel
theorem dX12_spring_115 : decode cX12_spring 115 = .ok (.aload_n 0, 1) := by decide +kernel
theorem dX12_spring_116 : decode cX12_spring 116 = .ok (.getfield 16, 3) := by decide +kernel
theorem dX12_spring_119 : decode cX12_spring 119 = .ok (.iload 4, 2) := by decide +kernel
theorem dX12_spring_121 : decode cX12_spring 121 = .ok (.iload_n 2, 1) := by decide +kernel
theorem dX12_spring_122 : decode cX12_spring 122 = .ok (.iastore, 1) := by decide +kernel
theorem dX12_spring_123 : decode cX12_spring 123 = .ok (.aload_n 0, 1) := by decide +kernel
theorem dX12_spring_124 : decode cX12_spring 124 = .ok (.getfield 19, 3) := by decide +kernel
theorem dX12_spring_127 : decode cX12_spring 127 = .ok (.iload 4, 2) := by decide +kernel
theorem dX12_spring_129 : decode cX12_spring 129 = .ok (.iload_n 3, 1) := by decide +kernel
theorem dX12_spring_130 : decode cX12_spring 130 = .ok (.iastore, 1) := by decide +kernel
theorem dX12_spring_131 : decode cX12_spring 131 = .ok (.aload_n 0, 1) := by decide +kernel
theorem dX12_spring_132 : decode cX12_spring 132 = .ok (.dup, 1) := by decide +kernel
theorem dX12_spring_133 : decode cX12_spring 133 = .ok (.getfield 165, 3) := by decide +kernel
theorem dX12_spring_136 : decode cX12_spring 136 = .ok (.iload 4, 2) := by decide +kernel
theorem dX12_spring_138 : decode cX12_spring 138 = .ok (.aload_n 0, 1) := by decide +kernel
theorem dX12_spring_139 : decode cX12_spring 139 = .ok (.getfield 165, 3) := by decide +kernel
theorem dX12_spring_142 : decode cX12_spring 142 = .ok (.if_icmp .ne 7, 3) := by decide +kernel
theorem dX12_spring_145 : decode cX12_spring 145 = .ok (.iconst 1, 1) := by decide +kernel
theorem dX12_spring_146 : decode cX12_spring 146 = .ok (.goto 4, 3) := by decide +kernel
theorem dX12_spring_149 : decode cX12_spring 149 = .ok (.iconst 0, 1) := by decide +kernel
theorem dX12_spring_150 : decode cX12_spring 150 = .ok (.iadd, 1) := by decide +kernel
theorem dX12_spring_151 : decode cX12_spring 151 = .ok (.putfield 165, 3) := by decide +kernel
theorem dX12_spring_154 : decode cX12_spring 154 = .ok (.aload_n 0, 1) := by decide +kernel
theorem dX12_spring_155 : decode cX12_spring 155 = .ok (.iconst 0, 1) := by decide +kernel
theorem dX12_spring_156 : decode cX12_spring 156 = .ok (.invokevirtual 154, 3) := by decide +kernel
theorem dX12_spring_159 : decode cX12_spring 159 = .ok (.ireturn, 1) := by decide +kernel
theorem dX12_castle_0 : decode cX12_castle 0 = .ok (.aload_n 0, 1) := by decide +kernel
theorem dX12_castle_1 : decode cX12_castle 1 = .ok (.iconst 0, 1) := by decide +kernel
theorem dX12_castle_2 : decode cX12_castle 2 = .ok (.putfield 131, 3) := by decide +kernel
theorem dX12_castle_5 : decode cX12_castle 5 = .ok (.iload_n 2, 1) := by decide +kernel
theorem dX12_castle_6 : decode cX12_castle 6 = .ok (.i2l, 1) := by decide +kernel
theorem dX12_castle_7 : decode cX12_castle 7 = .ok (.lconst 1, 1) := by decide +kernel
theorem dX12_castle_8 : decode cX12_castle 8 = .ok (.ldc2_w 152, 3) := by decide +kernel
theorem dX12_castle_11 : decode cX12_castle 11 = .ok (.invokestatic 139, 3) := by decide +kernel
theorem dX12_castle_14 : decode cX12_castle 14 = .ok (.ifCond .eq 15, 3) := by decide +kernel
theorem dX12_castle_17 : decode cX12_castle 17 = .ok (.iload_n 3, 1) := by decide +kernel
theorem dX12_castle_18 : decode cX12_castle 18 = .ok (.i2l, 1) := by decide +kernel
theorem dX12_castle_19 : decode cX12_castle 19 = .ok (.lconst 0, 1) := by decide +kernel
theorem dX12_castle_20 : decode cX12_castle 20 = .ok (.ldc2_w 168, 3) := by decide +kernel
theorem dX12_castle_23 : decode cX12_castle 23 = .ok (.invokestatic 139, 3) := by decide +kernel
theorem dX12_castle_26 : decode cX12_castle 26 = .ok (.ifCond .ne 9, 3) := by decide +kernel
theorem dX12_castle_29 : decode cX12_castle 29 = .ok (.aload_n 0, 1) := by decide +kernel
theorem dX12_castle_30 : decode cX12_castle 30 = .ok (.iconst (-1), 1) := by decide +kernel
theorem dX12_castle_31 : decode cX12_castle 31 = .ok (.invokevirtual 154, 3) := by decide +kernel
theorem dX12_castle_34 : decode cX12_castle 34 = .ok (.ireturn, 1) := by decide +kernel
theorem dX12_castle_35 : decode cX12_castle 35 = .ok (.iload_n 1, 1) := by decide +kernel
theorem dX12_castle_36 : decode cX12_castle 36 = .ok (.i2l, 1) := by decide +kernel
theorem dX12_castle_37 : decode cX12_castle 37 = .ok (.lconst 0, 1) := by decide +kernel
theorem dX12_castle_38 : decode cX12_castle 38 = .ok (.aload_n 0, 1) := by decide +kernel
theorem dX12_castle_39 : decode cX12_castle 39 = .ok (.getfield 158, 3) := by decide +kernel
theorem dX12_castle_42 : decode cX12_castle 42 = .ok (.i2l, 1) := by decide +kernel
theorem dX12_castle_43 : decode cX12_castle 43 = .ok (.lconst 1, 1) := by decide +kernel
theorem dX12_castle_44 : decode cX12_castle 44 = .ok (.lsub, 1) := by decide +kernel
theorem dX12_castle_45 : decode cX12_castle 45 = .ok (.invokestatic 139, 3) := by decide +kernel
theorem dX12_castle_48 : decode cX12_castle 48 = .ok (.ifCond .ne 30, 3) := by decide +kernel
theorem dX12_castle_51 : decode cX12_castle 51 = .ok (.iload_n 1, 1) := by decide +kernel
theorem dX12_castle_52 : decode cX12_castle 52 = .ok (.i2l, 1) := by decide +kernel
theorem dX12_castle_53 : decode cX12_castle 53 = .ok (.ldc2_w 170, 3) := by decide +kernel
theorem dX12_castle_56 : decode cX12_castle 56 = .ok (.ldc2_w 172, 3) := by decide +kernel
theorem dX12_castle_59 : decode cX12_castle 59 = .ok (.aload_n 0, 1) := by decide +kernel
theorem dX12_castle_60 : decode cX12_castle 60 = .ok (.getfield 143, 3) := by decide +kernel
theorem dX12_castle_63 : decode cX12_castle 63 = .ok (.i2l, 1) := by decide +kernel
theorem dX12_castle_64 : decode cX12_castle 64 = .ok (.ladd, 1) := by decide +kernel
theorem dX12_castle_65 : decode cX12_castle 65 = .ok (.invokestatic 139, 3) := by decide +kernel
theorem dX12_castle_68 : decode cX12_castle 68 = .ok (.ifCond .ne 10, 3) := by decide +kernel
theorem dX12_castle_71 : decode cX12_castle 71 = .ok (.aload_n 0, 1) := by decide +kernel
theorem dX12_castle_72 : decode cX12_castle 72 = .ok (.bipush (-2), 2) := by decide +kernel
theorem dX12_castle_74 : decode cX12_castle 74 = .ok (.invokevirtual 154, 3) := by decide +kernel
theorem dX12_castle_77 : decode cX12_castle 77 = .ok (.ireturn, 1) := by decide +kernel
theorem dX12_castle_78 : decode cX12_castle 78 = .ok (.aload_n 0, 1) := by decide +kernel
theorem dX12_castle_79 : decode cX12_castle 79 = .ok (.getfield 143, 3) := by decide +kernel
theorem dX12_castle_82 : decode cX12_castle 82 = .ok (.bipush 12, 2) := by decide +kernel
theorem dX12_castle_84 : decode cX12_castle 84 = .ok (.if_icmp .ne 10, 3) := by decide +kernel
theorem dX12_castle_87 : decode cX12_castle 87 = .ok (.aload_n 0, 1) := by decide +kernel
theorem dX12_castle_88 : decode cX12_castle 88 = .ok (.bipush (-5), 2) := by decide +kernel
theorem dX12_castle_90 : decode cX12_castle 90 = .ok (.invokevirtual 154, 3) := by decide +kernel
theorem dX12_castle_93 : decode cX12_castle 93 = .ok (.ireturn, 1) := by decide +kernel
theorem dX12_castle_94 : decode cX12_castle 94 = .ok (.aload_n 0, 1) := by decide +kernel
theorem dX12_castle_95 : decode cX12_castle 95 = .ok (.getfield 22, 3) := by decide +kernel
theorem dX12_castle_98 : decode cX12_castle 98 = .ok (.aload_n 0, 1) := by decide +kernel
theorem dX12_castle_99 : decode cX12_castle 99 = .ok (.getfield 143, 3) := by decide +kernel
theorem dX12_castle_102 : decode cX12_castle 102 = .ok (.iload_n 1, 1) := by decide +kernel
theorem dX12_castle_103 : decode cX12_castle 103 = .ok (.iastore, 1) := by decide +kernel
theorem dX12_castle_104 : decode cX12_castle 104 = .ok (.aload_n 0, 1) := by decide +kernel
theorem dX12_castle_105 : decode cX12_castle 105 = .ok (.getfield 25, 3) := by decide +kernel
theorem dX12_castle_108 : decode cX12_castle 108 = .ok (.aload_n 0, 1) := by decide +kernel
theorem dX12_castle_109 : decode cX12_castle 109 = .ok (.getfield 143, 3) := by decide +kernel
theorem dX12_castle_112 : decode cX12_castle 112 = .ok (.iload_n 2, 1) := by decide +kernel
theorem dX12_castle_113 : decode cX12_castle 113 = .ok (.iastore, 1) := by decide +kernel
theorem dX12_castle_114 : decode cX12_castle 114 = .ok (.aload_n 0, 1) := by decide +kernel
theorem dX12_castle_115 : decode cX12_castle 115 = .ok (.getfield 28, 3) := by decide +kernel
theorem dX12_castle_118 : decode cX12_castle 118 = .ok (.aload_n 0, 1) := by decide +kernel
theorem dX12_castle_119 : decode cX12_castle 119 = .ok (.getfield 143, 3) := by decide +kernel
theorem dX12_castle_122 : decode cX12_castle 122 = .ok (.iload_n 3, 1) := by decide +kernel
theorem dX12_castle_123 : decode cX12_castle 123 = .ok (.iastore, 1) := by decide +kernel
theorem dX12_castle_124 : decode cX12_castle 124 = .ok (.aload_n 0, 1) := by decide +kernel
theorem dX12_castle_125 : decode cX12_castle 125 = .ok (.dup, 1) := by decide +kernel
theorem dX12_castle_126 : decode cX12_castle 126 = .ok (.getfield 143, 3) := by decide +kernel
theorem dX12_castle_129 : decode cX12_castle 129 = .ok (.iconst 1, 1) := by decide +kernel
theorem dX12_castle_130 : decode cX12_castle 130 = .ok (.iadd, 1) := by decide +kernel
theorem dX12_castle_131 : decode cX12_castle 131 = .ok (.putfield 143, 3) := by decide +kernel
theorem dX12_castle_134 : decode cX12_castle 134 = .ok (.aload_n 0, 1) := by decide +kernel
theorem dX12_castle_135 : decode cX12_castle 135 = .ok (.aload_n 0, 1) := by decide +kernel
theorem dX12_castle_136 : decode cX12_castle 136 = .ok (.getfield 143, 3) := by decide +kernel
theorem dX12_castle_139 : decode cX12_castle 139 = .ok (.iconst 1, 1) := by decide +kernel
theorem dX12_castle_140 : decode cX12_castle 140 = .ok (.isub, 1) := by decide +kernel
theorem dX12_castle_141 : decode cX12_castle 141 = .ok (.invokevirtual 154, 3) := by decide +kernel
theorem dX12_castle_144 : decode cX12_castle 144 = .ok (.ireturn, 1) := by decide +kernel
theorem dX12_person_0 : decode cX12_person 0 = .ok (.aload_n 0, 1) := by decide +kernel
theorem dX12_person_1 : decode cX12_person 1 = .ok (.iconst 0, 1) := by decide +kernel
theorem dX12_person_2 : decode cX12_person 2 = .ok (.putfield 131, 3) := by decide +kernel
theorem dX12_person_5 : decode cX12_person 5 = .ok (.aload_n 0, 1) := by decide +kernel
theorem dX12_person_6 : decode cX12_person 6 = .ok (.getfield 146, 3) := by decide +kernel
theorem dX12_person_9 : decode cX12_person 9 = .ok (.bipush 40, 2) := by decide +kernel
theorem dX12_person_11 : decode cX12_person 11 = .ok (.if_icmp .ne 10, 3) := by decide +kernel
theorem dX12_person_14 : decode cX12_person 14 = .ok (.aload_n 0, 1) := by decide +kernel
theorem dX12_person_15 : decode cX12_person 15 = .ok (.bipush (-5), 2) := by decide +kernel
theorem dX12_person_17 : decode cX12_person 17 = .ok (.invokevirtual 154, 3) := by decide +kernel
theorem dX12_person_20 : decode cX12_person 20 = .ok (.ireturn, 1) := by decide +kernel
theorem dX12_person_21 : decode cX12_person 21 = .ok (.aload_n 0, 1) := by decide +kernel
theorem dX12_person_22 : decode cX12_person 22 = .ok (.dup, 1) := by decide +kernel
theorem dX12_person_23 : decode cX12_person 23 = .ok (.getfield 146, 3) := by decide +kernel
theorem dX12_person_26 : decode cX12_person 26 = .ok (.iconst 1, 1) := by decide +kernel
theorem dX12_person_27 : decode cX12_person 27 = .ok (.iadd, 1) := by decide +kernel
theorem dX12_person_28 : decode cX12_person 28 = .ok (.putfield 146, 3) := by decide +kernel
theorem dX12_person_31 : decode cX12_person 31 = .ok (.aload_n 0, 1) := by decide +kernel
theorem dX12_person_32 : decode cX12_person 32 = .ok (.aload_n 0, 1) := by decide +kernel
theorem dX12_person_33 : decode cX12_person 33 = .ok (.getfield 146, 3) := by decide +kernel
theorem dX12_person_36 : decode cX12_person 36 = .ok (.iconst 1, 1) := by decide +kernel
theorem dX12_person_37 : decode cX12_person 37 = .ok (.isub, 1) := by decide +kernel
theorem dX12_person_38 : decode cX12_person 38 = .ok (.invokevirtual 154, 3) := by decide +kernel
theorem dX12_person_41 : decode cX12_person 41 = .ok (.ireturn, 1) := by decide +kernel
theorem dX12_death_0 : decode cX12_death 0 = .ok (.aload_n 0, 1) := by decide +kernel
theorem dX12_death_1 : decode cX12_death 1 = .ok (.iconst 0, 1) := by decide +kernel
theorem dX12_death_2 : decode cX12_death 2 = .ok (.putfield 131, 3) := by decide +kernel
theorem dX12_death_5 : decode cX12_death 5 = .ok (.iload_n 2, 1) := by decide +kernel
theorem dX12_death_6 : decode cX12_death 6 = .ok (.invokestatic 161, 3) := by decide +kernel
theorem dX12_death_9 : decode cX12_death 9 = .ok (.ifCond .eq 10, 3) := by decide +kernel
theorem dX12_death_12 : decode cX12_death 12 = .ok (.iload_n 3, 1) := by decide +kernel
theorem dX12_death_13 : decode cX12_death 13 = .ok (.invokestatic 161, 3) := by decide +kernel
theorem dX12_death_16 : decode cX12_death 16 = .ok (.ifCond .ne 9, 3) := by decide +kernel
theorem dX12_death_19 : decode cX12_death 19 = .ok (.aload_n 0, 1) := by decide +kernel
theorem dX12_death_20 : decode cX12_death 20 = .ok (.iconst (-1), 1) := by decide +kernel
theorem dX12_death_21 : decode cX12_death 21 = .ok (.invokevirtual 154, 3) := by decide +kernel
theorem dX12_death_24 : decode cX12_death 24 = .ok (.ireturn, 1) := by decide +kernel
theorem dX12_death_25 : decode cX12_death 25 = .ok (.aload_n 0, 1) := by decide +kernel
theorem dX12_death_26 : decode cX12_death 26 = .ok (.iload_n 1, 1) := by decide +kernel
theorem dX12_death_27 : decode cX12_death 27 = .ok (.invokevirtual 174, 3) := by decide +kernel
theorem dX12_death_30 : decode cX12_death 30 = .ok (.ifCond .ne 10, 3) := by decide +kernel
theorem dX12_death_33 : decode cX12_death 33 = .ok (.aload_n 0, 1) := by decide +kernel
theorem dX12_death_34 : decode cX12_death 34 = .ok (.bipush (-2), 2) := by decide +kernel
theorem dX12_death_36 : decode cX12_death 36 = .ok (.invokevirtual 154, 3) := by decide +kernel
theorem dX12_death_39 : decode cX12_death 39 = .ok (.ireturn, 1) := by decide +kernel
theorem dX12_death_40 : decode cX12_death 40 = .ok (.aload_n 0, 1) := by decide +kernel
theorem dX12_death_41 : decode cX12_death 41 = .ok (.getfield 177, 3) := by decide +kernel
theorem dX12_death_44 : decode cX12_death 44 = .ok (.bipush 60, 2) := by decide +kernel
theorem dX12_death_46 : decode cX12_death 46 = .ok (.if_icmp .ne 10, 3) := by decide +kernel
theorem dX12_death_49 : decode cX12_death 49 = .ok (.aload_n 0, 1) := by decide +kernel
theorem dX12_death_50 : decode cX12_death 50 = .ok (.bipush (-5), 2) := by decide +kernel
theorem dX12_death_52 : decode cX12_death 52 = .ok (.invokevirtual 154, 3) := by decide +kernel
theorem dX12_death_55 : decode cX12_death 55 = .ok (.ireturn, 1) := by decide +kernel
theorem dX12_death_56 : decode cX12_death 56 = .ok (.aload_n 0, 1) := by decide +kernel
theorem dX12_death_57 : decode cX12_death 57 = .ok (.getfield 31, 3) := by decide +kernel
theorem dX12_death_60 : decode cX12_death 60 = .ok (.aload_n 0, 1) := by decide +kernel
theorem dX12_death_61 : decode cX12_death 61 = .ok (.getfield 177, 3) := by decide +kernel
theorem dX12_death_64 : decode cX12_death 64 = .ok (.iload_n 1, 1) := by decide +kernel
theorem dX12_death_65 : decode cX12_death 65 = .ok (.iastore, 1) := by decide +kernel
theorem dX12_death_66 : decode cX12_death 66 = .ok (.aload_n 0, 1) := by decide +kernel
theorem dX12_death_67 : decode cX12_death 67 = .ok (.getfield 34, 3) := by decide +kernel
theorem dX12_death_70 : decode cX12_death 70 = .ok (.aload_n 0, 1) := by decide +kernel
theorem dX12_death_71 : decode cX12_death 71 = .ok (.getfield 177, 3) := by decide +kernel
theorem dX12_death_74 : decode cX12_death 74 = .ok (.iload_n 2, 1) := by decide +kernel
theorem dX12_death_75 : decode cX12_death 75 = .ok (.iastore, 1) := by decide +kernel
theorem dX12_death_76 : decode cX12_death 76 = .ok (.aload_n 0, 1) := by decide +kernel
theorem dX12_death_77 : decode cX12_death 77 = .ok (.getfield 37, 3) := by decide +kernel
theorem dX12_death_80 : decode cX12_death 80 = .ok (.aload_n 0, 1) := by decide +kernel
theorem dX12_death_81 : decode cX12_death 81 = .ok (.getfield 177, 3) := by decide +kernel
theorem dX12_death_84 : decode cX12_death 84 = .ok (.iload_n 3, 1) := by decide +kernel
theorem dX12_death_85 : decode cX12_death 85 = .ok (.iastore, 1) := by decide +kernel
theorem dX12_death_86 : decode cX12_death 86 = .ok (.aload_n 0, 1) := by decide +kernel
theorem dX12_death_87 : decode cX12_death 87 = .ok (.dup, 1) := by decide +kernel
theorem dX12_death_88 : decode cX12_death 88 = .ok (.getfield 177, 3) := by decide +kernel
theorem dX12_death_91 : decode cX12_death 91 = .ok (.iconst 1, 1) := by decide +kernel
theorem dX12_death_92 : decode cX12_death 92 = .ok (.iadd, 1) := by decide +kernel
theorem dX12_death_93 : decode cX12_death 93 = .ok (.putfield 177, 3) := by decide +kernel
theorem dX12_death_96 : decode cX12_death 96 = .ok (.aload_n 0, 1) := by decide +kernel
theorem dX12_death_97 : decode cX12_death 97 = .ok (.aload_n 0, 1) := by decide +kernel
theorem dX12_death_98 : decode cX12_death 98 = .ok (.getfield 177, 3) := by decide +kernel
theorem dX12_death_101 : decode cX12_death 101 = .ok (.invokevirtual 154, 3) := by decide +kernel
theorem dX12_death_104 : decode cX12_death 104 = .ok (.ireturn, 1) := by decide +kernel
theorem dX12_deadOf_0 : decode cX12_deadOf 0 = .ok (.iconst (-1), 1) := by decide +kernel
theorem dX12_deadOf_1 : decode cX12_deadOf 1 = .ok (.istore_n 3, 1) := by decide +kernel
theorem dX12_deadOf_2 : decode cX12_deadOf 2 = .ok (.iconst 0, 1) := by decide +kernel
theorem dX12_deadOf_3 : decode cX12_deadOf 3 = .ok (.istore 4, 2) := by decide +kernel
theorem dX12_deadOf_5 : decode cX12_deadOf 5 = .ok (.iload 4, 2) := by decide +kernel
theorem dX12_deadOf_7 : decode cX12_deadOf 7 = .ok (.aload_n 0, 1) := by decide +kernel
theorem dX12_deadOf_8 : decode cX12_deadOf 8 = .ok (.getfield 177, 3) := by decide +kernel
theorem dX12_deadOf_11 : decode cX12_deadOf 11 = .ok (.if_icmp .ge 43, 3) := by decide +kernel
theorem dX12_deadOf_14 : decode cX12_deadOf 14 = .ok (.aload_n 0, 1) := by decide +kernel
theorem dX12_deadOf_15 : decode cX12_deadOf 15 = .ok (.getfield 31, 3) := by decide +kernel
theorem dX12_deadOf_18 : decode cX12_deadOf 18 = .ok (.iload 4, 2) := by decide +kernel
theorem dX12_deadOf_20 : decode cX12_deadOf 20 = .ok (.iaload, 1) := by decide +kernel
theorem dX12_deadOf_21 : decode cX12_deadOf 21 = .ok (.iload_n 1, 1) := by decide +kernel
theorem dX12_deadOf_22 : decode cX12_deadOf 22 = .ok (.if_icmp .ne 24, 3) := by decide +kernel
theorem dX12_deadOf_25 : decode cX12_deadOf 25 = .ok (.aload_n 0, 1) := by decide +kernel
theorem dX12_deadOf_26 : decode cX12_deadOf 26 = .ok (.getfield 37, 3) := by decide +kernel
theorem dX12_deadOf_29 : decode cX12_deadOf 29 = .ok (.iload 4, 2) := by decide +kernel
theorem dX12_deadOf_31 : decode cX12_deadOf 31 = .ok (.iaload, 1) := by decide +kernel
theorem dX12_deadOf_32 : decode cX12_deadOf 32 = .ok (.iload_n 2, 1) := by decide +kernel
theorem dX12_deadOf_33 : decode cX12_deadOf 33 = .ok (.if_icmp .gt 13, 3) := by decide +kernel
theorem dX12_deadOf_36 : decode cX12_deadOf 36 = .ok (.aload_n 0, 1) := by decide +kernel
theorem dX12_deadOf_37 : decode cX12_deadOf 37 = .ok (.getfield 34, 3) := by decide +kernel
theorem dX12_deadOf_40 : decode cX12_deadOf 40 = .ok (.iload 4, 2) := by decide +kernel
theorem dX12_deadOf_42 : decode cX12_deadOf 42 = .ok (.iaload, 1) := by decide +kernel
theorem dX12_deadOf_43 : decode cX12_deadOf 43 = .ok (.goto 4, 3) := by decide +kernel
theorem dX12_deadOf_46 : decode cX12_deadOf 46 = .ok (.iload_n 3, 1) := by decide +kernel
theorem dX12_deadOf_47 : decode cX12_deadOf 47 = .ok (.istore_n 3, 1) := by decide +kernel
theorem dX12_deadOf_48 : decode cX12_deadOf 48 = .ok (.iinc 4 1, 3) := by decide +kernel
theorem dX12_deadOf_51 : decode cX12_deadOf 51 = .ok (.goto (-46), 3) := by decide +kernel
theorem dX12_deadOf_54 : decode cX12_deadOf 54 = .ok (.iload_n 3, 1) := by decide +kernel
theorem dX12_deadOf_55 : decode cX12_deadOf 55 = .ok (.ireturn, 1) := by decide +kernel
theorem dX12_dead_0 : decode cX12_dead 0 = .ok (.aload_n 0, 1) := by decide +kernel
theorem dX12_dead_1 : decode cX12_dead 1 = .ok (.iconst 0, 1) := by decide +kernel
theorem dX12_dead_2 : decode cX12_dead 2 = .ok (.putfield 131, 3) := by decide +kernel
theorem dX12_dead_5 : decode cX12_dead 5 = .ok (.aload_n 0, 1) := by decide +kernel
theorem dX12_dead_6 : decode cX12_dead 6 = .ok (.iload_n 1, 1) := by decide +kernel
theorem dX12_dead_7 : decode cX12_dead 7 = .ok (.invokevirtual 174, 3) := by decide +kernel
theorem dX12_dead_10 : decode cX12_dead 10 = .ok (.ifCond .eq 19, 3) := by decide +kernel
theorem dX12_dead_13 : decode cX12_dead 13 = .ok (.iload_n 2, 1) := by decide +kernel
theorem dX12_dead_14 : decode cX12_dead 14 = .ok (.invokestatic 161, 3) := by decide +kernel
theorem dX12_dead_17 : decode cX12_dead 17 = .ok (.ifCond .eq 12, 3) := by decide +kernel
theorem dX12_dead_20 : decode cX12_dead 20 = .ok (.aload_n 0, 1) := by decide +kernel
theorem dX12_dead_21 : decode cX12_dead 21 = .ok (.iload_n 1, 1) := by decide +kernel
theorem dX12_dead_22 : decode cX12_dead 22 = .ok (.iload_n 2, 1) := by decide +kernel
theorem dX12_dead_23 : decode cX12_dead 23 = .ok (.invokevirtual 180, 3) := by decide +kernel
theorem dX12_dead_26 : decode cX12_dead 26 = .ok (.goto 4, 3) := by decide +kernel
theorem dX12_dead_29 : decode cX12_dead 29 = .ok (.iconst (-1), 1) := by decide +kernel
theorem dX12_dead_30 : decode cX12_dead 30 = .ok (.ireturn, 1) := by decide +kernel
theorem dX12_nozzle_0 : decode cX12_nozzle 0 = .ok (.aload_n 0, 1) := by decide +kernel
theorem dX12_nozzle_1 : decode cX12_nozzle 1 = .ok (.iconst 0, 1) := by decide +kernel
theorem dX12_nozzle_2 : decode cX12_nozzle 2 = .ok (.putfield 131, 3) := by decide +kernel
theorem dX12_nozzle_5 : decode cX12_nozzle 5 = .ok (.iload_n 2, 1) := by decide +kernel
theorem dX12_nozzle_6 : decode cX12_nozzle 6 = .ok (.i2l, 1) := by decide +kernel
theorem dX12_nozzle_7 : decode cX12_nozzle 7 = .ok (.lconst 1, 1) := by decide +kernel
theorem dX12_nozzle_8 : decode cX12_nozzle 8 = .ok (.ldc2_w 168, 3) := by decide +kernel
theorem dX12_nozzle_11 : decode cX12_nozzle 11 = .ok (.invokestatic 139, 3) := by decide +kernel
theorem dX12_nozzle_14 : decode cX12_nozzle 14 = .ok (.ifCond .eq 33, 3) := by decide +kernel
theorem dX12_nozzle_17 : decode cX12_nozzle 17 = .ok (.iload_n 3, 1) := by decide +kernel
theorem dX12_nozzle_18 : decode cX12_nozzle 18 = .ok (.i2l, 1) := by decide +kernel
theorem dX12_nozzle_19 : decode cX12_nozzle 19 = .ok (.lconst 0, 1) := by decide +kernel
theorem dX12_nozzle_20 : decode cX12_nozzle 20 = .ok (.ldc2_w 184, 3) := by decide +kernel
theorem dX12_nozzle_23 : decode cX12_nozzle 23 = .ok (.invokestatic 139, 3) := by decide +kernel
theorem dX12_nozzle_26 : decode cX12_nozzle 26 = .ok (.ifCond .eq 21, 3) := by decide +kernel
theorem dX12_nozzle_29 : decode cX12_nozzle 29 = .ok (.iload_n 3, 1) := by decide +kernel
theorem dX12_nozzle_30 : decode cX12_nozzle 30 = .ok (.iconst 2, 1) := by decide +kernel
theorem dX12_nozzle_31 : decode cX12_nozzle 31 = .ok (.if_icmp .ge 22, 3) := by decide +kernel
theorem dX12_nozzle_34 : decode cX12_nozzle 34 = .ok (.iload 4, 2) := by decide +kernel
theorem dX12_nozzle_36 : decode cX12_nozzle 36 = .ok (.i2l, 1) := by decide +kernel
theorem dX12_nozzle_37 : decode cX12_nozzle 37 = .ok (.lconst 0, 1) := by decide +kernel
theorem dX12_nozzle_38 : decode cX12_nozzle 38 = .ok (.ldc2_w 186, 3) := by decide +kernel
theorem dX12_nozzle_41 : decode cX12_nozzle 41 = .ok (.invokestatic 139, 3) := by decide +kernel
theorem dX12_nozzle_44 : decode cX12_nozzle 44 = .ok (.ifCond .ne 9, 3) := by decide +kernel
theorem dX12_nozzle_47 : decode cX12_nozzle 47 = .ok (.aload_n 0, 1) := by decide +kernel
theorem dX12_nozzle_48 : decode cX12_nozzle 48 = .ok (.iconst (-1), 1) := by decide +kernel
theorem dX12_nozzle_49 : decode cX12_nozzle 49 = .ok (.invokevirtual 154, 3) := by decide +kernel
theorem dX12_nozzle_52 : decode cX12_nozzle 52 = .ok (.ireturn, 1) := by decide +kernel
theorem dX12_nozzle_53 : decode cX12_nozzle 53 = .ok (.aload_n 0, 1) := by decide +kernel
theorem dX12_nozzle_54 : decode cX12_nozzle 54 = .ok (.iload_n 1, 1) := by decide +kernel
theorem dX12_nozzle_55 : decode cX12_nozzle 55 = .ok (.invokevirtual 188, 3) := by decide +kernel
theorem dX12_nozzle_58 : decode cX12_nozzle 58 = .ok (.ifCond .eq 17, 3) := by decide +kernel
theorem dX12_nozzle_61 : decode cX12_nozzle 61 = .ok (.iload_n 3, 1) := by decide +kernel
theorem dX12_nozzle_62 : decode cX12_nozzle 62 = .ok (.iconst 2, 1) := by decide +kernel
theorem dX12_nozzle_63 : decode cX12_nozzle 63 = .ok (.if_icmp .ne 19, 3) := by decide +kernel
theorem dX12_nozzle_66 : decode cX12_nozzle 66 = .ok (.aload_n 0, 1) := by decide +kernel
theorem dX12_nozzle_67 : decode cX12_nozzle 67 = .ok (.iload 4, 2) := by decide +kernel
theorem dX12_nozzle_69 : decode cX12_nozzle 69 = .ok (.invokevirtual 174, 3) := by decide +kernel
theorem dX12_nozzle_72 : decode cX12_nozzle 72 = .ok (.ifCond .ne 10, 3) := by decide +kernel
theorem dX12_nozzle_75 : decode cX12_nozzle 75 = .ok (.aload_n 0, 1) := by decide +kernel
theorem dX12_nozzle_76 : decode cX12_nozzle 76 = .ok (.bipush (-2), 2) := by decide +kernel
theorem dX12_nozzle_78 : decode cX12_nozzle 78 = .ok (.invokevirtual 154, 3) := by decide +kernel
theorem dX12_nozzle_81 : decode cX12_nozzle 81 = .ok (.ireturn, 1) := by decide +kernel
theorem dX12_nozzle_82 : decode cX12_nozzle 82 = .ok (.aload_n 0, 1) := by decide +kernel
theorem dX12_nozzle_83 : decode cX12_nozzle 83 = .ok (.aload_n 0, 1) := by decide +kernel
theorem dX12_nozzle_84 : decode cX12_nozzle 84 = .ok (.getfield 191, 3) := by decide +kernel
theorem dX12_nozzle_87 : decode cX12_nozzle 87 = .ok (.iconst 4, 1) := by decide +kernel
theorem dX12_nozzle_88 : decode cX12_nozzle 88 = .ok (.invokevirtual 194, 3) := by decide +kernel
theorem dX12_nozzle_91 : decode cX12_nozzle 91 = .ok (.istore 5, 2) := by decide +kernel
theorem dX12_nozzle_93 : decode cX12_nozzle 93 = .ok (.iload_n 3, 1) := by decide +kernel
theorem dX12_nozzle_94 : decode cX12_nozzle 94 = .ok (.iconst 2, 1) := by decide +kernel
theorem dX12_nozzle_95 : decode cX12_nozzle 95 = .ok (.if_icmp .ne 22, 3) := by decide +kernel
theorem dX12_nozzle_98 : decode cX12_nozzle 98 = .ok (.iload 5, 2) := by decide +kernel
theorem dX12_nozzle_100 : decode cX12_nozzle 100 = .ok (.iconst (-1), 1) := by decide +kernel
theorem dX12_nozzle_101 : decode cX12_nozzle 101 = .ok (.if_icmp .eq 16, 3) := by decide +kernel
theorem dX12_nozzle_104 : decode cX12_nozzle 104 = .ok (.iload_n 2, 1) := by decide +kernel
theorem dX12_nozzle_105 : decode cX12_nozzle 105 = .ok (.iload 5, 2) := by decide +kernel
theorem dX12_nozzle_107 : decode cX12_nozzle 107 = .ok (.if_icmp .le 10, 3) := by decide +kernel
theorem dX12_nozzle_110 : decode cX12_nozzle 110 = .ok (.aload_n 0, 1) := by decide +kernel
theorem dX12_nozzle_111 : decode cX12_nozzle 111 = .ok (.bipush (-3), 2) := by decide +kernel
theorem dX12_nozzle_113 : decode cX12_nozzle 113 = .ok (.invokevirtual 154, 3) := by decide +kernel
theorem dX12_nozzle_116 : decode cX12_nozzle 116 = .ok (.ireturn, 1) := by decide +kernel
theorem dX12_nozzle_117 : decode cX12_nozzle 117 = .ok (.aload_n 0, 1) := by decide +kernel
theorem dX12_nozzle_118 : decode cX12_nozzle 118 = .ok (.getfield 149, 3) := by decide +kernel
theorem dX12_nozzle_121 : decode cX12_nozzle 121 = .ok (.bipush 80, 2) := by decide +kernel
theorem dX12_nozzle_123 : decode cX12_nozzle 123 = .ok (.if_icmp .ne 10, 3) := by decide +kernel
theorem dX12_nozzle_126 : decode cX12_nozzle 126 = .ok (.aload_n 0, 1) := by decide +kernel
theorem dX12_nozzle_127 : decode cX12_nozzle 127 = .ok (.bipush (-5), 2) := by decide +kernel
theorem dX12_nozzle_129 : decode cX12_nozzle 129 = .ok (.invokevirtual 154, 3) := by decide +kernel
theorem dX12_nozzle_132 : decode cX12_nozzle 132 = .ok (.ireturn, 1) := by decide +kernel
theorem dX12_nozzle_133 : decode cX12_nozzle 133 = .ok (.aload_n 0, 1) := by decide +kernel
theorem dX12_nozzle_134 : decode cX12_nozzle 134 = .ok (.getfield 40, 3) := by decide +kernel
theorem dX12_nozzle_137 : decode cX12_nozzle 137 = .ok (.aload_n 0, 1) := by decide +kernel
theorem dX12_nozzle_138 : decode cX12_nozzle 138 = .ok (.getfield 149, 3) := by decide +kernel
theorem dX12_nozzle_141 : decode cX12_nozzle 141 = .ok (.iload_n 1, 1) := by decide +kernel
theorem dX12_nozzle_142 : decode cX12_nozzle 142 = .ok (.iastore, 1) := by decide +kernel
theorem dX12_nozzle_143 : decode cX12_nozzle 143 = .ok (.aload_n 0, 1) := by decide +kernel
theorem dX12_nozzle_144 : decode cX12_nozzle 144 = .ok (.getfield 43, 3) := by decide +kernel
theorem dX12_nozzle_147 : decode cX12_nozzle 147 = .ok (.aload_n 0, 1) := by decide +kernel
theorem dX12_nozzle_148 : decode cX12_nozzle 148 = .ok (.getfield 149, 3) := by decide +kernel
theorem dX12_nozzle_151 : decode cX12_nozzle 151 = .ok (.iload_n 2, 1) := by decide +kernel
theorem dX12_nozzle_152 : decode cX12_nozzle 152 = .ok (.iastore, 1) := by decide +kernel
theorem dX12_nozzle_153 : decode cX12_nozzle 153 = .ok (.aload_n 0, 1) := by decide +kernel
theorem dX12_nozzle_154 : decode cX12_nozzle 154 = .ok (.getfield 46, 3) := by decide +kernel
theorem dX12_nozzle_157 : decode cX12_nozzle 157 = .ok (.aload_n 0, 1) := by decide +kernel
theorem dX12_nozzle_158 : decode cX12_nozzle 158 = .ok (.getfield 149, 3) := by decide +kernel
theorem dX12_nozzle_161 : decode cX12_nozzle 161 = .ok (.iload_n 3, 1) := by decide +kernel
theorem dX12_nozzle_162 : decode cX12_nozzle 162 = .ok (.iastore, 1) := by decide +kernel
theorem dX12_nozzle_163 : decode cX12_nozzle 163 = .ok (.aload_n 0, 1) := by decide +kernel
theorem dX12_nozzle_164 : decode cX12_nozzle 164 = .ok (.getfield 49, 3) := by decide +kernel
theorem dX12_nozzle_167 : decode cX12_nozzle 167 = .ok (.aload_n 0, 1) := by decide +kernel
theorem dX12_nozzle_168 : decode cX12_nozzle 168 = .ok (.getfield 149, 3) := by decide +kernel
theorem dX12_nozzle_171 : decode cX12_nozzle 171 = .ok (.iload 4, 2) := by decide +kernel
theorem dX12_nozzle_173 : decode cX12_nozzle 173 = .ok (.iastore, 1) := by decide +kernel
theorem dX12_nozzle_174 : decode cX12_nozzle 174 = .ok (.aload_n 0, 1) := by decide +kernel
theorem dX12_nozzle_175 : decode cX12_nozzle 175 = .ok (.getfield 52, 3) := by decide +kernel
theorem dX12_nozzle_178 : decode cX12_nozzle 178 = .ok (.aload_n 0, 1) := by decide +kernel
theorem dX12_nozzle_179 : decode cX12_nozzle 179 = .ok (.getfield 149, 3) := by decide +kernel
theorem dX12_nozzle_182 : decode cX12_nozzle 182 = .ok (.aload_n 0, 1) := by decide +kernel
theorem dX12_nozzle_183 : decode cX12_nozzle 183 = .ok (.getfield 191, 3) := by decide +kernel
theorem dX12_nozzle_186 : decode cX12_nozzle 186 = .ok (.iastore, 1) := by decide +kernel
theorem dX12_nozzle_187 : decode cX12_nozzle 187 = .ok (.aload_n 0, 1) := by decide +kernel
theorem dX12_nozzle_188 : decode cX12_nozzle 188 = .ok (.getfield 55, 3) := by decide +kernel
theorem dX12_nozzle_191 : decode cX12_nozzle 191 = .ok (.aload_n 0, 1) := by decide +kernel
theorem dX12_nozzle_192 : decode cX12_nozzle 192 = .ok (.getfield 149, 3) := by decide +kernel
theorem dX12_nozzle_195 : decode cX12_nozzle 195 = .ok (.sipush 1000, 3) := by decide +kernel
theorem dX12_nozzle_198 : decode cX12_nozzle 198 = .ok (.iastore, 1) := by decide +kernel
theorem dX12_nozzle_199 : decode cX12_nozzle 199 = .ok (.aload_n 0, 1) := by decide +kernel
theorem dX12_nozzle_200 : decode cX12_nozzle 200 = .ok (.dup, 1) := by decide +kernel
theorem dX12_nozzle_201 : decode cX12_nozzle 201 = .ok (.getfield 149, 3) := by decide +kernel
theorem dX12_nozzle_204 : decode cX12_nozzle 204 = .ok (.iconst 1, 1) := by decide +kernel
theorem dX12_nozzle_205 : decode cX12_nozzle 205 = .ok (.iadd, 1) := by decide +kernel
theorem dX12_nozzle_206 : decode cX12_nozzle 206 = .ok (.putfield 149, 3) := by decide +kernel
theorem dX12_nozzle_209 : decode cX12_nozzle 209 = .ok (.aload_n 0, 1) := by decide +kernel
theorem dX12_nozzle_210 : decode cX12_nozzle 210 = .ok (.aload_n 0, 1) := by decide +kernel
theorem dX12_nozzle_211 : decode cX12_nozzle 211 = .ok (.getfield 149, 3) := by decide +kernel
theorem dX12_nozzle_214 : decode cX12_nozzle 214 = .ok (.iconst 1, 1) := by decide +kernel
theorem dX12_nozzle_215 : decode cX12_nozzle 215 = .ok (.isub, 1) := by decide +kernel
theorem dX12_nozzle_216 : decode cX12_nozzle 216 = .ok (.invokevirtual 154, 3) := by decide +kernel
theorem dX12_nozzle_219 : decode cX12_nozzle 219 = .ok (.ireturn, 1) := by decide +kernel
theorem dX12_shut_0 : decode cX12_shut 0 = .ok (.aload_n 0, 1) := by decide +kernel
theorem dX12_shut_1 : decode cX12_shut 1 = .ok (.iconst 0, 1) := by decide +kernel
theorem dX12_shut_2 : decode cX12_shut 2 = .ok (.putfield 131, 3) := by decide +kernel
theorem dX12_shut_5 : decode cX12_shut 5 = .ok (.aload_n 0, 1) := by decide +kernel
theorem dX12_shut_6 : decode cX12_shut 6 = .ok (.iload_n 1, 1) := by decide +kernel
theorem dX12_shut_7 : decode cX12_shut 7 = .ok (.invokevirtual 197, 3) := by decide +kernel
theorem dX12_shut_10 : decode cX12_shut 10 = .ok (.ifCond .ne 10, 3) := by decide +kernel
theorem dX12_shut_13 : decode cX12_shut 13 = .ok (.aload_n 0, 1) := by decide +kernel
theorem dX12_shut_14 : decode cX12_shut 14 = .ok (.bipush (-2), 2) := by decide +kernel
theorem dX12_shut_16 : decode cX12_shut 16 = .ok (.invokevirtual 154, 3) := by decide +kernel
theorem dX12_shut_19 : decode cX12_shut 19 = .ok (.ireturn, 1) := by decide +kernel
theorem dX12_shut_20 : decode cX12_shut 20 = .ok (.aload_n 0, 1) := by decide +kernel
theorem dX12_shut_21 : decode cX12_shut 21 = .ok (.getfield 55, 3) := by decide +kernel
theorem dX12_shut_24 : decode cX12_shut 24 = .ok (.iload_n 1, 1) := by decide +kernel
theorem dX12_shut_25 : decode cX12_shut 25 = .ok (.aload_n 0, 1) := by decide +kernel
theorem dX12_shut_26 : decode cX12_shut 26 = .ok (.getfield 55, 3) := by decide +kernel
theorem dX12_shut_29 : decode cX12_shut 29 = .ok (.iload_n 1, 1) := by decide +kernel
theorem dX12_shut_30 : decode cX12_shut 30 = .ok (.iaload, 1) := by decide +kernel
theorem dX12_shut_31 : decode cX12_shut 31 = .ok (.sipush 1000, 3) := by decide +kernel
theorem dX12_shut_34 : decode cX12_shut 34 = .ok (.if_icmp .ge 12, 3) := by decide +kernel
theorem dX12_shut_37 : decode cX12_shut 37 = .ok (.aload_n 0, 1) := by decide +kernel
theorem dX12_shut_38 : decode cX12_shut 38 = .ok (.getfield 55, 3) := by decide +kernel
theorem dX12_shut_41 : decode cX12_shut 41 = .ok (.iload_n 1, 1) := by decide +kernel
theorem dX12_shut_42 : decode cX12_shut 42 = .ok (.iaload, 1) := by decide +kernel
theorem dX12_shut_43 : decode cX12_shut 43 = .ok (.goto 7, 3) := by decide +kernel
theorem dX12_shut_46 : decode cX12_shut 46 = .ok (.aload_n 0, 1) := by decide +kernel
theorem dX12_shut_47 : decode cX12_shut 47 = .ok (.getfield 191, 3) := by decide +kernel
theorem dX12_shut_50 : decode cX12_shut 50 = .ok (.iastore, 1) := by decide +kernel
theorem dX12_shut_51 : decode cX12_shut 51 = .ok (.aload_n 0, 1) := by decide +kernel
theorem dX12_shut_52 : decode cX12_shut 52 = .ok (.iconst 0, 1) := by decide +kernel
theorem dX12_shut_53 : decode cX12_shut 53 = .ok (.invokevirtual 154, 3) := by decide +kernel
theorem dX12_shut_56 : decode cX12_shut 56 = .ok (.ireturn, 1) := by decide +kernel
theorem dX12_tap_0 : decode cX12_tap 0 = .ok (.aload_n 0, 1) := by decide +kernel
theorem dX12_tap_1 : decode cX12_tap 1 = .ok (.iconst 0, 1) := by decide +kernel
theorem dX12_tap_2 : decode cX12_tap 2 = .ok (.putfield 131, 3) := by decide +kernel
theorem dX12_tap_5 : decode cX12_tap 5 = .ok (.iload_n 2, 1) := by decide +kernel
theorem dX12_tap_6 : decode cX12_tap 6 = .ok (.i2l, 1) := by decide +kernel
theorem dX12_tap_7 : decode cX12_tap 7 = .ok (.lconst 1, 1) := by decide +kernel
theorem dX12_tap_8 : decode cX12_tap 8 = .ok (.ldc2_w 200, 3) := by decide +kernel
theorem dX12_tap_11 : decode cX12_tap 11 = .ok (.invokestatic 139, 3) := by decide +kernel
theorem dX12_tap_14 : decode cX12_tap 14 = .ok (.ifCond .eq 24, 3) := by decide +kernel
theorem dX12_tap_17 : decode cX12_tap 17 = .ok (.iload_n 3, 1) := by decide +kernel
theorem dX12_tap_18 : decode cX12_tap 18 = .ok (.invokestatic 161, 3) := by decide +kernel
theorem dX12_tap_21 : decode cX12_tap 21 = .ok (.ifCond .eq 17, 3) := by decide +kernel
theorem dX12_tap_24 : decode cX12_tap 24 = .ok (.iload 4, 2) := by decide +kernel
theorem dX12_tap_26 : decode cX12_tap 26 = .ok (.invokestatic 161, 3) := by decide +kernel
theorem dX12_tap_29 : decode cX12_tap 29 = .ok (.ifCond .eq 9, 3) := by decide +kernel
theorem dX12_tap_32 : decode cX12_tap 32 = .ok (.iload_n 3, 1) := by decide +kernel
theorem dX12_tap_33 : decode cX12_tap 33 = .ok (.iload 4, 2) := by decide +kernel
theorem dX12_tap_35 : decode cX12_tap 35 = .ok (.if_icmp .le 9, 3) := by decide +kernel
theorem dX12_tap_38 : decode cX12_tap 38 = .ok (.aload_n 0, 1) := by decide +kernel
theorem dX12_tap_39 : decode cX12_tap 39 = .ok (.iconst (-1), 1) := by decide +kernel
theorem dX12_tap_40 : decode cX12_tap 40 = .ok (.invokevirtual 154, 3) := by decide +kernel
theorem dX12_tap_43 : decode cX12_tap 43 = .ok (.ireturn, 1) := by decide +kernel
theorem dX12_tap_44 : decode cX12_tap 44 = .ok (.aload_n 0, 1) := by decide +kernel
theorem dX12_tap_45 : decode cX12_tap 45 = .ok (.iload_n 1, 1) := by decide +kernel
theorem dX12_tap_46 : decode cX12_tap 46 = .ok (.invokevirtual 188, 3) := by decide +kernel
theorem dX12_tap_49 : decode cX12_tap 49 = .ok (.ifCond .ne 10, 3) := by decide +kernel
theorem dX12_tap_52 : decode cX12_tap 52 = .ok (.aload_n 0, 1) := by decide +kernel
theorem dX12_tap_53 : decode cX12_tap 53 = .ok (.bipush (-2), 2) := by decide +kernel
theorem dX12_tap_55 : decode cX12_tap 55 = .ok (.invokevirtual 154, 3) := by decide +kernel
theorem dX12_tap_58 : decode cX12_tap 58 = .ok (.ireturn, 1) := by decide +kernel
theorem dX12_tap_59 : decode cX12_tap 59 = .ok (.aload_n 0, 1) := by decide +kernel
theorem dX12_tap_60 : decode cX12_tap 60 = .ok (.getfield 202, 3) := by decide +kernel
theorem dX12_tap_63 : decode cX12_tap 63 = .ok (.bipush 60, 2) := by decide +kernel
theorem dX12_tap_65 : decode cX12_tap 65 = .ok (.if_icmp .ne 10, 3) := by decide +kernel
theorem dX12_tap_68 : decode cX12_tap 68 = .ok (.aload_n 0, 1) := by decide +kernel
theorem dX12_tap_69 : decode cX12_tap 69 = .ok (.bipush (-5), 2) := by decide +kernel
theorem dX12_tap_71 : decode cX12_tap 71 = .ok (.invokevirtual 154, 3) := by decide +kernel
theorem dX12_tap_74 : decode cX12_tap 74 = .ok (.ireturn, 1) := by decide +kernel
theorem dX12_tap_75 : decode cX12_tap 75 = .ok (.aload_n 0, 1) := by decide +kernel
theorem dX12_tap_76 : decode cX12_tap 76 = .ok (.getfield 58, 3) := by decide +kernel
theorem dX12_tap_79 : decode cX12_tap 79 = .ok (.aload_n 0, 1) := by decide +kernel
theorem dX12_tap_80 : decode cX12_tap 80 = .ok (.getfield 202, 3) := by decide +kernel
theorem dX12_tap_83 : decode cX12_tap 83 = .ok (.iload_n 1, 1) := by decide +kernel
theorem dX12_tap_84 : decode cX12_tap 84 = .ok (.iastore, 1) := by decide +kernel
theorem dX12_tap_85 : decode cX12_tap 85 = .ok (.aload_n 0, 1) := by decide +kernel
theorem dX12_tap_86 : decode cX12_tap 86 = .ok (.getfield 61, 3) := by decide +kernel
theorem dX12_tap_89 : decode cX12_tap 89 = .ok (.aload_n 0, 1) := by decide +kernel
theorem dX12_tap_90 : decode cX12_tap 90 = .ok (.getfield 202, 3) := by decide +kernel
theorem dX12_tap_93 : decode cX12_tap 93 = .ok (.iload_n 2, 1) := by decide +kernel
theorem dX12_tap_94 : decode cX12_tap 94 = .ok (.iastore, 1) := by decide +kernel
theorem dX12_tap_95 : decode cX12_tap 95 = .ok (.aload_n 0, 1) := by decide +kernel
theorem dX12_tap_96 : decode cX12_tap 96 = .ok (.getfield 64, 3) := by decide +kernel
theorem dX12_tap_99 : decode cX12_tap 99 = .ok (.aload_n 0, 1) := by decide +kernel
theorem dX12_tap_100 : decode cX12_tap 100 = .ok (.getfield 202, 3) := by decide +kernel
theorem dX12_tap_103 : decode cX12_tap 103 = .ok (.iload_n 3, 1) := by decide +kernel
theorem dX12_tap_104 : decode cX12_tap 104 = .ok (.iastore, 1) := by decide +kernel
theorem dX12_tap_105 : decode cX12_tap 105 = .ok (.aload_n 0, 1) := by decide +kernel
theorem dX12_tap_106 : decode cX12_tap 106 = .ok (.getfield 67, 3) := by decide +kernel
theorem dX12_tap_109 : decode cX12_tap 109 = .ok (.aload_n 0, 1) := by decide +kernel
theorem dX12_tap_110 : decode cX12_tap 110 = .ok (.getfield 202, 3) := by decide +kernel
theorem dX12_tap_113 : decode cX12_tap 113 = .ok (.iload 4, 2) := by decide +kernel
theorem dX12_tap_115 : decode cX12_tap 115 = .ok (.iastore, 1) := by decide +kernel
theorem dX12_tap_116 : decode cX12_tap 116 = .ok (.aload_n 0, 1) := by decide +kernel
theorem dX12_tap_117 : decode cX12_tap 117 = .ok (.dup, 1) := by decide +kernel
theorem dX12_tap_118 : decode cX12_tap 118 = .ok (.getfield 202, 3) := by decide +kernel
theorem dX12_tap_121 : decode cX12_tap 121 = .ok (.iconst 1, 1) := by decide +kernel
theorem dX12_tap_122 : decode cX12_tap 122 = .ok (.iadd, 1) := by decide +kernel
theorem dX12_tap_123 : decode cX12_tap 123 = .ok (.putfield 202, 3) := by decide +kernel
theorem dX12_tap_126 : decode cX12_tap 126 = .ok (.aload_n 0, 1) := by decide +kernel
theorem dX12_tap_127 : decode cX12_tap 127 = .ok (.aload_n 0, 1) := by decide +kernel
theorem dX12_tap_128 : decode cX12_tap 128 = .ok (.getfield 202, 3) := by decide +kernel
theorem dX12_tap_131 : decode cX12_tap 131 = .ok (.invokevirtual 154, 3) := by decide +kernel
theorem dX12_tap_134 : decode cX12_tap 134 = .ok (.ireturn, 1) := by decide +kernel
theorem dX12_repair_0 : decode cX12_repair 0 = .ok (.aload_n 0, 1) := by decide +kernel
theorem dX12_repair_1 : decode cX12_repair 1 = .ok (.iconst 0, 1) := by decide +kernel
theorem dX12_repair_2 : decode cX12_repair 2 = .ok (.putfield 131, 3) := by decide +kernel
theorem dX12_repair_5 : decode cX12_repair 5 = .ok (.iload_n 2, 1) := by decide +kernel
theorem dX12_repair_6 : decode cX12_repair 6 = .ok (.invokestatic 161, 3) := by decide +kernel
theorem dX12_repair_9 : decode cX12_repair 9 = .ok (.ifCond .eq 15, 3) := by decide +kernel
theorem dX12_repair_12 : decode cX12_repair 12 = .ok (.iload_n 3, 1) := by decide +kernel
theorem dX12_repair_13 : decode cX12_repair 13 = .ok (.invokestatic 161, 3) := by decide +kernel
theorem dX12_repair_16 : decode cX12_repair 16 = .ok (.ifCond .eq 8, 3) := by decide +kernel
theorem dX12_repair_19 : decode cX12_repair 19 = .ok (.iload_n 2, 1) := by decide +kernel
theorem dX12_repair_20 : decode cX12_repair 20 = .ok (.iload_n 3, 1) := by decide +kernel
theorem dX12_repair_21 : decode cX12_repair 21 = .ok (.if_icmp .le 9, 3) := by decide +kernel
theorem dX12_repair_24 : decode cX12_repair 24 = .ok (.aload_n 0, 1) := by decide +kernel
theorem dX12_repair_25 : decode cX12_repair 25 = .ok (.iconst (-1), 1) := by decide +kernel
theorem dX12_repair_26 : decode cX12_repair 26 = .ok (.invokevirtual 154, 3) := by decide +kernel
theorem dX12_repair_29 : decode cX12_repair 29 = .ok (.ireturn, 1) := by decide +kernel
theorem dX12_repair_30 : decode cX12_repair 30 = .ok (.aload_n 0, 1) := by decide +kernel
theorem dX12_repair_31 : decode cX12_repair 31 = .ok (.iload_n 1, 1) := by decide +kernel
theorem dX12_repair_32 : decode cX12_repair 32 = .ok (.invokevirtual 188, 3) := by decide +kernel
theorem dX12_repair_35 : decode cX12_repair 35 = .ok (.ifCond .ne 10, 3) := by decide +kernel
theorem dX12_repair_38 : decode cX12_repair 38 = .ok (.aload_n 0, 1) := by decide +kernel
theorem dX12_repair_39 : decode cX12_repair 39 = .ok (.bipush (-2), 2) := by decide +kernel
theorem dX12_repair_41 : decode cX12_repair 41 = .ok (.invokevirtual 154, 3) := by decide +kernel
theorem dX12_repair_44 : decode cX12_repair 44 = .ok (.ireturn, 1) := by decide +kernel
theorem dX12_repair_45 : decode cX12_repair 45 = .ok (.aload_n 0, 1) := by decide +kernel
theorem dX12_repair_46 : decode cX12_repair 46 = .ok (.getfield 205, 3) := by decide +kernel
theorem dX12_repair_49 : decode cX12_repair 49 = .ok (.bipush 40, 2) := by decide +kernel
theorem dX12_repair_51 : decode cX12_repair 51 = .ok (.if_icmp .ne 10, 3) := by decide +kernel
theorem dX12_repair_54 : decode cX12_repair 54 = .ok (.aload_n 0, 1) := by decide +kernel
theorem dX12_repair_55 : decode cX12_repair 55 = .ok (.bipush (-5), 2) := by decide +kernel
theorem dX12_repair_57 : decode cX12_repair 57 = .ok (.invokevirtual 154, 3) := by decide +kernel
theorem dX12_repair_60 : decode cX12_repair 60 = .ok (.ireturn, 1) := by decide +kernel
theorem dX12_repair_61 : decode cX12_repair 61 = .ok (.aload_n 0, 1) := by decide +kernel
theorem dX12_repair_62 : decode cX12_repair 62 = .ok (.getfield 70, 3) := by decide +kernel
theorem dX12_repair_65 : decode cX12_repair 65 = .ok (.aload_n 0, 1) := by decide +kernel
theorem dX12_repair_66 : decode cX12_repair 66 = .ok (.getfield 205, 3) := by decide +kernel
theorem dX12_repair_69 : decode cX12_repair 69 = .ok (.iload_n 1, 1) := by decide +kernel
theorem dX12_repair_70 : decode cX12_repair 70 = .ok (.iastore, 1) := by decide +kernel
theorem dX12_repair_71 : decode cX12_repair 71 = .ok (.aload_n 0, 1) := by decide +kernel
theorem dX12_repair_72 : decode cX12_repair 72 = .ok (.getfield 73, 3) := by decide +kernel
theorem dX12_repair_75 : decode cX12_repair 75 = .ok (.aload_n 0, 1) := by decide +kernel
theorem dX12_repair_76 : decode cX12_repair 76 = .ok (.getfield 205, 3) := by decide +kernel
theorem dX12_repair_79 : decode cX12_repair 79 = .ok (.iload_n 2, 1) := by decide +kernel
theorem dX12_repair_80 : decode cX12_repair 80 = .ok (.iastore, 1) := by decide +kernel
theorem dX12_repair_81 : decode cX12_repair 81 = .ok (.aload_n 0, 1) := by decide +kernel
theorem dX12_repair_82 : decode cX12_repair 82 = .ok (.getfield 76, 3) := by decide +kernel
theorem dX12_repair_85 : decode cX12_repair 85 = .ok (.aload_n 0, 1) := by decide +kernel
theorem dX12_repair_86 : decode cX12_repair 86 = .ok (.getfield 205, 3) := by decide +kernel
theorem dX12_repair_89 : decode cX12_repair 89 = .ok (.iload_n 3, 1) := by decide +kernel
theorem dX12_repair_90 : decode cX12_repair 90 = .ok (.iastore, 1) := by decide +kernel
theorem dX12_repair_91 : decode cX12_repair 91 = .ok (.aload_n 0, 1) := by decide +kernel
theorem dX12_repair_92 : decode cX12_repair 92 = .ok (.dup, 1) := by decide +kernel
theorem dX12_repair_93 : decode cX12_repair 93 = .ok (.getfield 205, 3) := by decide +kernel
theorem dX12_repair_96 : decode cX12_repair 96 = .ok (.iconst 1, 1) := by decide +kernel
theorem dX12_repair_97 : decode cX12_repair 97 = .ok (.iadd, 1) := by decide +kernel
theorem dX12_repair_98 : decode cX12_repair 98 = .ok (.putfield 205, 3) := by decide +kernel
theorem dX12_repair_101 : decode cX12_repair 101 = .ok (.aload_n 0, 1) := by decide +kernel
theorem dX12_repair_102 : decode cX12_repair 102 = .ok (.aload_n 0, 1) := by decide +kernel
theorem dX12_repair_103 : decode cX12_repair 103 = .ok (.getfield 205, 3) := by decide +kernel
theorem dX12_repair_106 : decode cX12_repair 106 = .ok (.invokevirtual 154, 3) := by decide +kernel
theorem dX12_repair_109 : decode cX12_repair 109 = .ok (.ireturn, 1) := by decide +kernel
theorem dX12_go_0 : decode cX12_go 0 = .ok (.aload_n 0, 1) := by decide +kernel
theorem dX12_go_1 : decode cX12_go 1 = .ok (.iconst 0, 1) := by decide +kernel
theorem dX12_go_2 : decode cX12_go 2 = .ok (.putfield 131, 3) := by decide +kernel
theorem dX12_go_5 : decode cX12_go 5 = .ok (.iload_n 1, 1) := by decide +kernel
theorem dX12_go_6 : decode cX12_go 6 = .ok (.i2l, 1) := by decide +kernel
theorem dX12_go_7 : decode cX12_go 7 = .ok (.lconst 1, 1) := by decide +kernel
theorem dX12_go_8 : decode cX12_go 8 = .ok (.ldc2_w 208, 3) := by decide +kernel
theorem dX12_go_11 : decode cX12_go 11 = .ok (.invokestatic 139, 3) := by decide +kernel
theorem dX12_go_14 : decode cX12_go 14 = .ok (.ifCond .eq 15, 3) := by decide +kernel
theorem dX12_go_17 : decode cX12_go 17 = .ok (.aload_n 0, 1) := by decide +kernel
theorem dX12_go_18 : decode cX12_go 18 = .ok (.getfield 191, 3) := by decide +kernel
theorem dX12_go_21 : decode cX12_go 21 = .ok (.iload_n 1, 1) := by decide +kernel
theorem dX12_go_22 : decode cX12_go 22 = .ok (.iadd, 1) := by decide +kernel
theorem dX12_go_23 : decode cX12_go 23 = .ok (.sipush 200, 3) := by decide +kernel
theorem dX12_go_26 : decode cX12_go 26 = .ok (.if_icmp .le 9, 3) := by decide +kernel
theorem dX12_go_29 : decode cX12_go 29 = .ok (.aload_n 0, 1) := by decide +kernel
theorem dX12_go_30 : decode cX12_go 30 = .ok (.iconst (-1), 1) := by decide +kernel
theorem dX12_go_31 : decode cX12_go 31 = .ok (.invokevirtual 154, 3) := by decide +kernel
theorem dX12_go_34 : decode cX12_go 34 = .ok (.ireturn, 1) := by decide +kernel
theorem dX12_go_35 : decode cX12_go 35 = .ok (.aload_n 0, 1) := by decide +kernel
theorem dX12_go_36 : decode cX12_go 36 = .ok (.dup, 1) := by decide +kernel
theorem dX12_go_37 : decode cX12_go 37 = .ok (.getfield 191, 3) := by decide +kernel
theorem dX12_go_40 : decode cX12_go 40 = .ok (.iload_n 1, 1) := by decide +kernel
theorem dX12_go_41 : decode cX12_go 41 = .ok (.iadd, 1) := by decide +kernel
theorem dX12_go_42 : decode cX12_go 42 = .ok (.putfield 191, 3) := by decide +kernel
theorem dX12_go_45 : decode cX12_go 45 = .ok (.aload_n 0, 1) := by decide +kernel
theorem dX12_go_46 : decode cX12_go 46 = .ok (.aload_n 0, 1) := by decide +kernel
theorem dX12_go_47 : decode cX12_go 47 = .ok (.getfield 191, 3) := by decide +kernel
theorem dX12_go_50 : decode cX12_go 50 = .ok (.invokevirtual 154, 3) := by decide +kernel
theorem dX12_go_53 : decode cX12_go 53 = .ok (.ireturn, 1) := by decide +kernel
theorem dX12_lawOf_0 : decode cX12_lawOf 0 = .ok (.iload_n 2, 1) := by decide +kernel
theorem dX12_lawOf_1 : decode cX12_lawOf 1 = .ok (.iconst 4, 1) := by decide +kernel
theorem dX12_lawOf_2 : decode cX12_lawOf 2 = .ok (.if_icmp .ne 7, 3) := by decide +kernel
theorem dX12_lawOf_5 : decode cX12_lawOf 5 = .ok (.iconst (-1), 1) := by decide +kernel
theorem dX12_lawOf_6 : decode cX12_lawOf 6 = .ok (.goto 4, 3) := by decide +kernel
theorem dX12_lawOf_9 : decode cX12_lawOf 9 = .ok (.iconst 0, 1) := by decide +kernel
theorem dX12_lawOf_10 : decode cX12_lawOf 10 = .ok (.istore_n 3, 1) := by decide +kernel
theorem dX12_lawOf_11 : decode cX12_lawOf 11 = .ok (.iconst 0, 1) := by decide +kernel
theorem dX12_lawOf_12 : decode cX12_lawOf 12 = .ok (.istore 4, 2) := by decide +kernel
theorem dX12_lawOf_14 : decode cX12_lawOf 14 = .ok (.iload 4, 2) := by decide +kernel
theorem dX12_lawOf_16 : decode cX12_lawOf 16 = .ok (.aload_n 0, 1) := by decide +kernel
theorem dX12_lawOf_17 : decode cX12_lawOf 17 = .ok (.getfield 210, 3) := by decide +kernel
theorem dX12_lawOf_20 : decode cX12_lawOf 20 = .ok (.if_icmp .ge 56, 3) := by decide +kernel
theorem dX12_lawOf_23 : decode cX12_lawOf 23 = .ok (.aload_n 0, 1) := by decide +kernel
theorem dX12_lawOf_24 : decode cX12_lawOf 24 = .ok (.getfield 79, 3) := by decide +kernel
theorem dX12_lawOf_27 : decode cX12_lawOf 27 = .ok (.iload 4, 2) := by decide +kernel
theorem dX12_lawOf_29 : decode cX12_lawOf 29 = .ok (.iaload, 1) := by decide +kernel
theorem dX12_lawOf_30 : decode cX12_lawOf 30 = .ok (.iload_n 2, 1) := by decide +kernel
theorem dX12_lawOf_31 : decode cX12_lawOf 31 = .ok (.if_icmp .ne 37, 3) := by decide +kernel
theorem dX12_lawOf_34 : decode cX12_lawOf 34 = .ok (.iload_n 1, 1) := by decide +kernel
theorem dX12_lawOf_35 : decode cX12_lawOf 35 = .ok (.i2l, 1) := by decide +kernel
theorem dX12_lawOf_36 : decode cX12_lawOf 36 = .ok (.aload_n 0, 1) := by decide +kernel
theorem dX12_lawOf_37 : decode cX12_lawOf 37 = .ok (.getfield 82, 3) := by decide +kernel
theorem dX12_lawOf_40 : decode cX12_lawOf 40 = .ok (.iload 4, 2) := by decide +kernel
theorem dX12_lawOf_42 : decode cX12_lawOf 42 = .ok (.iaload, 1) := by decide +kernel
theorem dX12_lawOf_43 : decode cX12_lawOf 43 = .ok (.i2l, 1) := by decide +kernel
theorem dX12_lawOf_44 : decode cX12_lawOf 44 = .ok (.aload_n 0, 1) := by decide +kernel
theorem dX12_lawOf_45 : decode cX12_lawOf 45 = .ok (.getfield 85, 3) := by decide +kernel
theorem dX12_lawOf_48 : decode cX12_lawOf 48 = .ok (.iload 4, 2) := by decide +kernel
theorem dX12_lawOf_50 : decode cX12_lawOf 50 = .ok (.iaload, 1) := by decide +kernel
theorem dX12_lawOf_51 : decode cX12_lawOf 51 = .ok (.i2l, 1) := by decide +kernel
theorem dX12_lawOf_52 : decode cX12_lawOf 52 = .ok (.invokestatic 139, 3) := by decide +kernel
theorem dX12_lawOf_55 : decode cX12_lawOf 55 = .ok (.ifCond .eq 13, 3) := by decide +kernel
theorem dX12_lawOf_58 : decode cX12_lawOf 58 = .ok (.aload_n 0, 1) := by decide +kernel
theorem dX12_lawOf_59 : decode cX12_lawOf 59 = .ok (.getfield 88, 3) := by decide +kernel
theorem dX12_lawOf_62 : decode cX12_lawOf 62 = .ok (.iload 4, 2) := by decide +kernel
theorem dX12_lawOf_64 : decode cX12_lawOf 64 = .ok (.iaload, 1) := by decide +kernel
theorem dX12_lawOf_65 : decode cX12_lawOf 65 = .ok (.goto 4, 3) := by decide +kernel
theorem dX12_lawOf_68 : decode cX12_lawOf 68 = .ok (.iload_n 3, 1) := by decide +kernel
theorem dX12_lawOf_69 : decode cX12_lawOf 69 = .ok (.istore_n 3, 1) := by decide +kernel
theorem dX12_lawOf_70 : decode cX12_lawOf 70 = .ok (.iinc 4 1, 3) := by decide +kernel
theorem dX12_lawOf_73 : decode cX12_lawOf 73 = .ok (.goto (-59), 3) := by decide +kernel
theorem dX12_lawOf_76 : decode cX12_lawOf 76 = .ok (.iload_n 3, 1) := by decide +kernel
theorem dX12_lawOf_77 : decode cX12_lawOf 77 = .ok (.ireturn, 1) := by decide +kernel
theorem dX12_isClosed_0 : decode cX12_isClosed 0 = .ok (.iconst 0, 1) := by decide +kernel
theorem dX12_isClosed_1 : decode cX12_isClosed 1 = .ok (.istore_n 3, 1) := by decide +kernel
theorem dX12_isClosed_2 : decode cX12_isClosed 2 = .ok (.iconst 0, 1) := by decide +kernel
theorem dX12_isClosed_3 : decode cX12_isClosed 3 = .ok (.istore 4, 2) := by decide +kernel
theorem dX12_isClosed_5 : decode cX12_isClosed 5 = .ok (.iload 4, 2) := by decide +kernel
theorem dX12_isClosed_7 : decode cX12_isClosed 7 = .ok (.aload_n 0, 1) := by decide +kernel
theorem dX12_isClosed_8 : decode cX12_isClosed 8 = .ok (.getfield 210, 3) := by decide +kernel
theorem dX12_isClosed_11 : decode cX12_isClosed 11 = .ok (.if_icmp .ge 65, 3) := by decide +kernel
theorem dX12_isClosed_14 : decode cX12_isClosed 14 = .ok (.iload_n 3, 1) := by decide +kernel
theorem dX12_isClosed_15 : decode cX12_isClosed 15 = .ok (.ifCond .ne 49, 3) := by decide +kernel
theorem dX12_isClosed_18 : decode cX12_isClosed 18 = .ok (.aload_n 0, 1) := by decide +kernel
theorem dX12_isClosed_19 : decode cX12_isClosed 19 = .ok (.getfield 79, 3) := by decide +kernel
theorem dX12_isClosed_22 : decode cX12_isClosed 22 = .ok (.iload 4, 2) := by decide +kernel
theorem dX12_isClosed_24 : decode cX12_isClosed 24 = .ok (.iaload, 1) := by decide +kernel
theorem dX12_isClosed_25 : decode cX12_isClosed 25 = .ok (.iconst 5, 1) := by decide +kernel
theorem dX12_isClosed_26 : decode cX12_isClosed 26 = .ok (.if_icmp .ne 42, 3) := by decide +kernel
theorem dX12_isClosed_29 : decode cX12_isClosed 29 = .ok (.aload_n 0, 1) := by decide +kernel
theorem dX12_isClosed_30 : decode cX12_isClosed 30 = .ok (.getfield 88, 3) := by decide +kernel
theorem dX12_isClosed_33 : decode cX12_isClosed 33 = .ok (.iload 4, 2) := by decide +kernel
theorem dX12_isClosed_35 : decode cX12_isClosed 35 = .ok (.iaload, 1) := by decide +kernel
theorem dX12_isClosed_36 : decode cX12_isClosed 36 = .ok (.iload_n 2, 1) := by decide +kernel
theorem dX12_isClosed_37 : decode cX12_isClosed 37 = .ok (.if_icmp .ne 31, 3) := by decide +kernel
theorem dX12_isClosed_40 : decode cX12_isClosed 40 = .ok (.iload_n 1, 1) := by decide +kernel
theorem dX12_isClosed_41 : decode cX12_isClosed 41 = .ok (.i2l, 1) := by decide +kernel
theorem dX12_isClosed_42 : decode cX12_isClosed 42 = .ok (.aload_n 0, 1) := by decide +kernel
theorem dX12_isClosed_43 : decode cX12_isClosed 43 = .ok (.getfield 82, 3) := by decide +kernel
theorem dX12_isClosed_46 : decode cX12_isClosed 46 = .ok (.iload 4, 2) := by decide +kernel
theorem dX12_isClosed_48 : decode cX12_isClosed 48 = .ok (.iaload, 1) := by decide +kernel
theorem dX12_isClosed_49 : decode cX12_isClosed 49 = .ok (.i2l, 1) := by decide +kernel
theorem dX12_isClosed_50 : decode cX12_isClosed 50 = .ok (.aload_n 0, 1) := by decide +kernel
theorem dX12_isClosed_51 : decode cX12_isClosed 51 = .ok (.getfield 85, 3) := by decide +kernel
theorem dX12_isClosed_54 : decode cX12_isClosed 54 = .ok (.iload 4, 2) := by decide +kernel
theorem dX12_isClosed_56 : decode cX12_isClosed 56 = .ok (.iaload, 1) := by decide +kernel
theorem dX12_isClosed_57 : decode cX12_isClosed 57 = .ok (.i2l, 1) := by decide +kernel
theorem dX12_isClosed_58 : decode cX12_isClosed 58 = .ok (.invokestatic 139, 3) := by decide +kernel
theorem dX12_isClosed_61 : decode cX12_isClosed 61 = .ok (.ifCond .eq 7, 3) := by decide +kernel
theorem dX12_isClosed_64 : decode cX12_isClosed 64 = .ok (.iconst 1, 1) := by decide +kernel
theorem dX12_isClosed_65 : decode cX12_isClosed 65 = .ok (.goto 4, 3) := by decide +kernel
theorem dX12_isClosed_68 : decode cX12_isClosed 68 = .ok (.iconst 0, 1) := by decide +kernel
theorem dX12_isClosed_69 : decode cX12_isClosed 69 = .ok (.istore_n 3, 1) := by decide +kernel
theorem dX12_isClosed_70 : decode cX12_isClosed 70 = .ok (.iinc 4 1, 3) := by decide +kernel
theorem dX12_isClosed_73 : decode cX12_isClosed 73 = .ok (.goto (-68), 3) := by decide +kernel
theorem dX12_isClosed_76 : decode cX12_isClosed 76 = .ok (.iload_n 3, 1) := by decide +kernel
theorem dX12_isClosed_77 : decode cX12_isClosed 77 = .ok (.ireturn, 1) := by decide +kernel
theorem dX12_law_0 : decode cX12_law 0 = .ok (.aload_n 0, 1) := by decide +kernel
theorem dX12_law_1 : decode cX12_law 1 = .ok (.iconst 0, 1) := by decide +kernel
theorem dX12_law_2 : decode cX12_law 2 = .ok (.putfield 131, 3) := by decide +kernel
theorem dX12_law_5 : decode cX12_law 5 = .ok (.iload_n 1, 1) := by decide +kernel
theorem dX12_law_6 : decode cX12_law 6 = .ok (.invokestatic 161, 3) := by decide +kernel
theorem dX12_law_9 : decode cX12_law 9 = .ok (.ifCond .eq 15, 3) := by decide +kernel
theorem dX12_law_12 : decode cX12_law 12 = .ok (.iload_n 2, 1) := by decide +kernel
theorem dX12_law_13 : decode cX12_law 13 = .ok (.i2l, 1) := by decide +kernel
theorem dX12_law_14 : decode cX12_law 14 = .ok (.lconst 0, 1) := by decide +kernel
theorem dX12_law_15 : decode cX12_law 15 = .ok (.ldc2_w 186, 3) := by decide +kernel
theorem dX12_law_18 : decode cX12_law 18 = .ok (.invokestatic 139, 3) := by decide +kernel
theorem dX12_law_21 : decode cX12_law 21 = .ok (.ifCond .ne 5, 3) := by decide +kernel
theorem dX12_law_24 : decode cX12_law 24 = .ok (.iconst (-1), 1) := by decide +kernel
theorem dX12_law_25 : decode cX12_law 25 = .ok (.ireturn, 1) := by decide +kernel
theorem dX12_law_26 : decode cX12_law 26 = .ok (.iload_n 2, 1) := by decide +kernel
theorem dX12_law_27 : decode cX12_law 27 = .ok (.iconst 5, 1) := by decide +kernel
theorem dX12_law_28 : decode cX12_law 28 = .ok (.if_icmp .ge 12, 3) := by decide +kernel
theorem dX12_law_31 : decode cX12_law 31 = .ok (.aload_n 0, 1) := by decide +kernel
theorem dX12_law_32 : decode cX12_law 32 = .ok (.iload_n 1, 1) := by decide +kernel
theorem dX12_law_33 : decode cX12_law 33 = .ok (.iload_n 2, 1) := by decide +kernel
theorem dX12_law_34 : decode cX12_law 34 = .ok (.invokevirtual 194, 3) := by decide +kernel
theorem dX12_law_37 : decode cX12_law 37 = .ok (.goto 19, 3) := by decide +kernel
theorem dX12_law_40 : decode cX12_law 40 = .ok (.aload_n 0, 1) := by decide +kernel
theorem dX12_law_41 : decode cX12_law 41 = .ok (.iload_n 1, 1) := by decide +kernel
theorem dX12_law_42 : decode cX12_law 42 = .ok (.iload_n 2, 1) := by decide +kernel
theorem dX12_law_43 : decode cX12_law 43 = .ok (.iconst 5, 1) := by decide +kernel
theorem dX12_law_44 : decode cX12_law 44 = .ok (.isub, 1) := by decide +kernel
theorem dX12_law_45 : decode cX12_law 45 = .ok (.invokevirtual 213, 3) := by decide +kernel
theorem dX12_law_48 : decode cX12_law 48 = .ok (.ifCond .eq 7, 3) := by decide +kernel
theorem dX12_law_51 : decode cX12_law 51 = .ok (.iconst 1, 1) := by decide +kernel
theorem dX12_law_52 : decode cX12_law 52 = .ok (.goto 4, 3) := by decide +kernel
theorem dX12_law_55 : decode cX12_law 55 = .ok (.iconst 0, 1) := by decide +kernel
theorem dX12_law_56 : decode cX12_law 56 = .ok (.ireturn, 1) := by decide +kernel
theorem dX12_four_0 : decode cX12_four 0 = .ok (.bipush 24, 2) := by decide +kernel
theorem dX12_four_2 : decode cX12_four 2 = .ok (.istore_n 2, 1) := by decide +kernel
theorem dX12_four_3 : decode cX12_four 3 = .ok (.iload_n 2, 1) := by decide +kernel
theorem dX12_four_4 : decode cX12_four 4 = .ok (.ifCond .lt 35, 3) := by decide +kernel
theorem dX12_four_7 : decode cX12_four 7 = .ok (.aload_n 0, 1) := by decide +kernel
theorem dX12_four_8 : decode cX12_four 8 = .ok (.getfield 94, 3) := by decide +kernel
theorem dX12_four_11 : decode cX12_four 11 = .ok (.aload_n 0, 1) := by decide +kernel
theorem dX12_four_12 : decode cX12_four 12 = .ok (.getfield 217, 3) := by decide +kernel
theorem dX12_four_15 : decode cX12_four 15 = .ok (.iload_n 1, 1) := by decide +kernel
theorem dX12_four_16 : decode cX12_four 16 = .ok (.iload_n 2, 1) := by decide +kernel
theorem dX12_four_17 : decode cX12_four 17 = .ok (.ishr, 1) := by decide +kernel
theorem dX12_four_18 : decode cX12_four 18 = .ok (.sipush 255, 3) := by decide +kernel
theorem dX12_four_21 : decode cX12_four 21 = .ok (.iand, 1) := by decide +kernel
theorem dX12_four_22 : decode cX12_four 22 = .ok (.iastore, 1) := by decide +kernel
theorem dX12_four_23 : decode cX12_four 23 = .ok (.aload_n 0, 1) := by decide +kernel
theorem dX12_four_24 : decode cX12_four 24 = .ok (.dup, 1) := by decide +kernel
theorem dX12_four_25 : decode cX12_four 25 = .ok (.getfield 217, 3) := by decide +kernel
theorem dX12_four_28 : decode cX12_four 28 = .ok (.iconst 1, 1) := by decide +kernel
theorem dX12_four_29 : decode cX12_four 29 = .ok (.iadd, 1) := by decide +kernel
theorem dX12_four_30 : decode cX12_four 30 = .ok (.putfield 217, 3) := by decide +kernel
theorem dX12_four_33 : decode cX12_four 33 = .ok (.iinc 2 (-8), 3) := by decide +kernel
theorem dX12_four_36 : decode cX12_four 36 = .ok (.goto (-33), 3) := by decide +kernel
theorem dX12_four_39 : decode cX12_four 39 = .ok (.return_, 1) := by decide +kernel
theorem dX12_feed_0 : decode cX12_feed 0 = .ok (.aload_n 0, 1) := by decide +kernel
theorem dX12_feed_1 : decode cX12_feed 1 = .ok (.iconst 0, 1) := by decide +kernel
theorem dX12_feed_2 : decode cX12_feed 2 = .ok (.putfield 131, 3) := by decide +kernel
theorem dX12_feed_5 : decode cX12_feed 5 = .ok (.aload_n 0, 1) := by decide +kernel
theorem dX12_feed_6 : decode cX12_feed 6 = .ok (.getfield 217, 3) := by decide +kernel
theorem dX12_feed_9 : decode cX12_feed 9 = .ok (.bipush 20, 2) := by decide +kernel
theorem dX12_feed_11 : decode cX12_feed 11 = .ok (.iadd, 1) := by decide +kernel
theorem dX12_feed_12 : decode cX12_feed 12 = .ok (.sipush 400, 3) := by decide +kernel
theorem dX12_feed_15 : decode cX12_feed 15 = .ok (.if_icmp .le 5, 3) := by decide +kernel
theorem dX12_feed_18 : decode cX12_feed 18 = .ok (.iconst (-1), 1) := by decide +kernel
theorem dX12_feed_19 : decode cX12_feed 19 = .ok (.ireturn, 1) := by decide +kernel
theorem dX12_feed_20 : decode cX12_feed 20 = .ok (.aload_n 0, 1) := by decide +kernel
theorem dX12_feed_21 : decode cX12_feed 21 = .ok (.iload_n 1, 1) := by decide +kernel
theorem dX12_feed_22 : decode cX12_feed 22 = .ok (.invokevirtual 220, 3) := by decide +kernel
theorem dX12_feed_25 : decode cX12_feed 25 = .ok (.aload_n 0, 1) := by decide +kernel
theorem dX12_feed_26 : decode cX12_feed 26 = .ok (.iload_n 2, 1) := by decide +kernel
theorem dX12_feed_27 : decode cX12_feed 27 = .ok (.invokevirtual 220, 3) := by decide +kernel
theorem dX12_feed_30 : decode cX12_feed 30 = .ok (.aload_n 0, 1) := by decide +kernel
theorem dX12_feed_31 : decode cX12_feed 31 = .ok (.iload_n 3, 1) := by decide +kernel
theorem dX12_feed_32 : decode cX12_feed 32 = .ok (.invokevirtual 220, 3) := by decide +kernel
theorem dX12_feed_35 : decode cX12_feed 35 = .ok (.aload_n 0, 1) := by decide +kernel
theorem dX12_feed_36 : decode cX12_feed 36 = .ok (.iload 4, 2) := by decide +kernel
theorem dX12_feed_38 : decode cX12_feed 38 = .ok (.invokevirtual 220, 3) := by decide +kernel
theorem dX12_feed_41 : decode cX12_feed 41 = .ok (.aload_n 0, 1) := by decide +kernel
theorem dX12_feed_42 : decode cX12_feed 42 = .ok (.iload 5, 2) := by decide +kernel
theorem dX12_feed_44 : decode cX12_feed 44 = .ok (.invokevirtual 220, 3) := by decide +kernel
theorem dX12_feed_47 : decode cX12_feed 47 = .ok (.aload_n 0, 1) := by decide +kernel
theorem dX12_feed_48 : decode cX12_feed 48 = .ok (.getfield 217, 3) := by decide +kernel
theorem dX12_feed_51 : decode cX12_feed 51 = .ok (.ireturn, 1) := by decide +kernel
theorem dX12_end_0 : decode cX12_end 0 = .ok (.aload_n 0, 1) := by decide +kernel
theorem dX12_end_1 : decode cX12_end 1 = .ok (.iconst 0, 1) := by decide +kernel
theorem dX12_end_2 : decode cX12_end 2 = .ok (.putfield 131, 3) := by decide +kernel
theorem dX12_end_5 : decode cX12_end 5 = .ok (.iload_n 1, 1) := by decide +kernel
theorem dX12_end_6 : decode cX12_end 6 = .ok (.ifCond .lt 11, 3) := by decide +kernel
theorem dX12_end_9 : decode cX12_end 9 = .ok (.iload_n 1, 1) := by decide +kernel
theorem dX12_end_10 : decode cX12_end 10 = .ok (.aload_n 0, 1) := by decide +kernel
theorem dX12_end_11 : decode cX12_end 11 = .ok (.getfield 217, 3) := by decide +kernel
theorem dX12_end_14 : decode cX12_end 14 = .ok (.if_icmp .le 5, 3) := by decide +kernel
theorem dX12_end_17 : decode cX12_end 17 = .ok (.iconst (-1), 1) := by decide +kernel
theorem dX12_end_18 : decode cX12_end 18 = .ok (.ireturn, 1) := by decide +kernel
theorem dX12_end_19 : decode cX12_end 19 = .ok (.aload_n 0, 1) := by decide +kernel
theorem dX12_end_20 : decode cX12_end 20 = .ok (.iload_n 1, 1) := by decide +kernel
theorem dX12_end_21 : decode cX12_end 21 = .ok (.putfield 217, 3) := by decide +kernel
theorem dX12_end_24 : decode cX12_end 24 = .ok (.iload_n 1, 1) := by decide +kernel
theorem dX12_end_25 : decode cX12_end 25 = .ok (.ireturn, 1) := by decide +kernel
theorem dX12_isSmall_0 : decode cX12_isSmall 0 = .ok (.iload_n 0, 1) := by decide +kernel
theorem dX12_isSmall_1 : decode cX12_isSmall 1 = .ok (.bipush 97, 2) := by decide +kernel
theorem dX12_isSmall_3 : decode cX12_isSmall 3 = .ok (.if_icmp .lt 13, 3) := by decide +kernel
theorem dX12_isSmall_6 : decode cX12_isSmall 6 = .ok (.iload_n 0, 1) := by decide +kernel
theorem dX12_isSmall_7 : decode cX12_isSmall 7 = .ok (.bipush 122, 2) := by decide +kernel
theorem dX12_isSmall_9 : decode cX12_isSmall 9 = .ok (.if_icmp .gt 7, 3) := by decide +kernel
theorem dX12_isSmall_12 : decode cX12_isSmall 12 = .ok (.iconst 1, 1) := by decide +kernel
theorem dX12_isSmall_13 : decode cX12_isSmall 13 = .ok (.goto 4, 3) := by decide +kernel
theorem dX12_isSmall_16 : decode cX12_isSmall 16 = .ok (.iconst 0, 1) := by decide +kernel
theorem dX12_isSmall_17 : decode cX12_isSmall 17 = .ok (.ireturn, 1) := by decide +kernel
theorem dX12_isDigit_0 : decode cX12_isDigit 0 = .ok (.iload_n 0, 1) := by decide +kernel
theorem dX12_isDigit_1 : decode cX12_isDigit 1 = .ok (.bipush 48, 2) := by decide +kernel
theorem dX12_isDigit_3 : decode cX12_isDigit 3 = .ok (.if_icmp .lt 13, 3) := by decide +kernel
theorem dX12_isDigit_6 : decode cX12_isDigit 6 = .ok (.iload_n 0, 1) := by decide +kernel
theorem dX12_isDigit_7 : decode cX12_isDigit 7 = .ok (.bipush 57, 2) := by decide +kernel
theorem dX12_isDigit_9 : decode cX12_isDigit 9 = .ok (.if_icmp .gt 7, 3) := by decide +kernel
theorem dX12_isDigit_12 : decode cX12_isDigit 12 = .ok (.iconst 1, 1) := by decide +kernel
theorem dX12_isDigit_13 : decode cX12_isDigit 13 = .ok (.goto 4, 3) := by decide +kernel
theorem dX12_isDigit_16 : decode cX12_isDigit 16 = .ok (.iconst 0, 1) := by decide +kernel
theorem dX12_isDigit_17 : decode cX12_isDigit 17 = .ok (.ireturn, 1) := by decide +kernel
theorem dX12_next_0 : decode cX12_next 0 = .ok (.aload_n 0, 1) := by decide +kernel
theorem dX12_next_1 : decode cX12_next 1 = .ok (.aload_n 0, 1) := by decide +kernel
theorem dX12_next_2 : decode cX12_next 2 = .ok (.getfield 224, 3) := by decide +kernel
theorem dX12_next_5 : decode cX12_next 5 = .ok (.putfield 227, 3) := by decide +kernel
theorem dX12_next_8 : decode cX12_next 8 = .ok (.aload_n 0, 1) := by decide +kernel
theorem dX12_next_9 : decode cX12_next 9 = .ok (.getfield 227, 3) := by decide +kernel
theorem dX12_next_12 : decode cX12_next 12 = .ok (.aload_n 0, 1) := by decide +kernel
theorem dX12_next_13 : decode cX12_next 13 = .ok (.getfield 217, 3) := by decide +kernel
theorem dX12_next_16 : decode cX12_next 16 = .ok (.if_icmp .ge 30, 3) := by decide +kernel
theorem dX12_next_19 : decode cX12_next 19 = .ok (.aload_n 0, 1) := by decide +kernel
theorem dX12_next_20 : decode cX12_next 20 = .ok (.getfield 94, 3) := by decide +kernel
theorem dX12_next_23 : decode cX12_next 23 = .ok (.aload_n 0, 1) := by decide +kernel
theorem dX12_next_24 : decode cX12_next 24 = .ok (.getfield 227, 3) := by decide +kernel
theorem dX12_next_27 : decode cX12_next 27 = .ok (.iaload, 1) := by decide +kernel
theorem dX12_next_28 : decode cX12_next 28 = .ok (.bipush 32, 2) := by decide +kernel
theorem dX12_next_30 : decode cX12_next 30 = .ok (.if_icmp .ne 16, 3) := by decide +kernel
theorem dX12_next_33 : decode cX12_next 33 = .ok (.aload_n 0, 1) := by decide +kernel
theorem dX12_next_34 : decode cX12_next 34 = .ok (.dup, 1) := by decide +kernel
theorem dX12_next_35 : decode cX12_next 35 = .ok (.getfield 227, 3) := by decide +kernel
theorem dX12_next_38 : decode cX12_next 38 = .ok (.iconst 1, 1) := by decide +kernel
theorem dX12_next_39 : decode cX12_next 39 = .ok (.iadd, 1) := by decide +kernel
theorem dX12_next_40 : decode cX12_next 40 = .ok (.putfield 227, 3) := by decide +kernel
theorem dX12_next_43 : decode cX12_next 43 = .ok (.goto (-35), 3) := by decide +kernel
theorem dX12_next_46 : decode cX12_next 46 = .ok (.aload_n 0, 1) := by decide +kernel
theorem dX12_next_47 : decode cX12_next 47 = .ok (.aload_n 0, 1) := by decide +kernel
theorem dX12_next_48 : decode cX12_next 48 = .ok (.getfield 227, 3) := by decide +kernel
theorem dX12_next_51 : decode cX12_next 51 = .ok (.putfield 224, 3) := by decide +kernel
theorem dX12_next_54 : decode cX12_next 54 = .ok (.aload_n 0, 1) := by decide +kernel
theorem dX12_next_55 : decode cX12_next 55 = .ok (.lconst 0, 1) := by decide +kernel
theorem dX12_next_56 : decode cX12_next 56 = .ok (.putfield 230, 3) := by decide +kernel
theorem dX12_next_59 : decode cX12_next 59 = .ok (.aload_n 0, 1) := by decide +kernel
theorem dX12_next_60 : decode cX12_next 60 = .ok (.aload_n 0, 1) := by decide +kernel
theorem dX12_next_61 : decode cX12_next 61 = .ok (.getfield 227, 3) := by decide +kernel
theorem dX12_next_64 : decode cX12_next 64 = .ok (.aload_n 0, 1) := by decide +kernel
theorem dX12_next_65 : decode cX12_next 65 = .ok (.getfield 217, 3) := by decide +kernel
theorem dX12_next_68 : decode cX12_next 68 = .ok (.if_icmp .ne 7, 3) := by decide +kernel
theorem dX12_next_71 : decode cX12_next 71 = .ok (.iconst 0, 1) := by decide +kernel
theorem dX12_next_72 : decode cX12_next 72 = .ok (.goto 42, 3) := by decide +kernel
theorem dX12_next_75 : decode cX12_next 75 = .ok (.aload_n 0, 1) := by decide +kernel
theorem dX12_next_76 : decode cX12_next 76 = .ok (.getfield 94, 3) := by decide +kernel
theorem dX12_next_79 : decode cX12_next 79 = .ok (.aload_n 0, 1) := by decide +kernel
theorem dX12_next_80 : decode cX12_next 80 = .ok (.getfield 227, 3) := by decide +kernel
theorem dX12_next_83 : decode cX12_next 83 = .ok (.iaload, 1) := by decide +kernel
theorem dX12_next_84 : decode cX12_next 84 = .ok (.invokestatic 234, 3) := by decide +kernel
theorem dX12_next_87 : decode cX12_next 87 = .ok (.ifCond .eq 7, 3) := by decide +kernel
theorem dX12_next_90 : decode cX12_next 90 = .ok (.iconst 1, 1) := by decide +kernel
theorem dX12_next_91 : decode cX12_next 91 = .ok (.goto 23, 3) := by decide +kernel
theorem dX12_next_94 : decode cX12_next 94 = .ok (.aload_n 0, 1) := by decide +kernel
theorem dX12_next_95 : decode cX12_next 95 = .ok (.getfield 94, 3) := by decide +kernel
theorem dX12_next_98 : decode cX12_next 98 = .ok (.aload_n 0, 1) := by decide +kernel
theorem dX12_next_99 : decode cX12_next 99 = .ok (.getfield 227, 3) := by decide +kernel
theorem dX12_next_102 : decode cX12_next 102 = .ok (.iaload, 1) := by decide +kernel
theorem dX12_next_103 : decode cX12_next 103 = .ok (.invokestatic 237, 3) := by decide +kernel
theorem dX12_next_106 : decode cX12_next 106 = .ok (.ifCond .eq 7, 3) := by decide +kernel
theorem dX12_next_109 : decode cX12_next 109 = .ok (.iconst 2, 1) := by decide +kernel
theorem dX12_next_110 : decode cX12_next 110 = .ok (.goto 4, 3) := by decide +kernel
theorem dX12_next_113 : decode cX12_next 113 = .ok (.iconst 3, 1) := by decide +kernel
theorem dX12_next_114 : decode cX12_next 114 = .ok (.putfield 240, 3) := by decide +kernel
theorem dX12_next_117 : decode cX12_next 117 = .ok (.aload_n 0, 1) := by decide +kernel
theorem dX12_next_118 : decode cX12_next 118 = .ok (.getfield 240, 3) := by decide +kernel
theorem dX12_next_121 : decode cX12_next 121 = .ok (.iconst 3, 1) := by decide +kernel
theorem dX12_next_122 : decode cX12_next 122 = .ok (.if_icmp .ne 27, 3) := by decide +kernel
theorem dX12_next_125 : decode cX12_next 125 = .ok (.aload_n 0, 1) := by decide +kernel
theorem dX12_next_126 : decode cX12_next 126 = .ok (.aload_n 0, 1) := by decide +kernel
theorem dX12_next_127 : decode cX12_next 127 = .ok (.getfield 94, 3) := by decide +kernel
theorem dX12_next_130 : decode cX12_next 130 = .ok (.aload_n 0, 1) := by decide +kernel
theorem dX12_next_131 : decode cX12_next 131 = .ok (.getfield 227, 3) := by decide +kernel
theorem dX12_next_134 : decode cX12_next 134 = .ok (.iaload, 1) := by decide +kernel
theorem dX12_next_135 : decode cX12_next 135 = .ok (.i2l, 1) := by decide +kernel
theorem dX12_next_136 : decode cX12_next 136 = .ok (.putfield 230, 3) := by decide +kernel
theorem dX12_next_139 : decode cX12_next 139 = .ok (.aload_n 0, 1) := by decide +kernel
theorem dX12_next_140 : decode cX12_next 140 = .ok (.dup, 1) := by decide +kernel
theorem dX12_next_141 : decode cX12_next 141 = .ok (.getfield 224, 3) := by decide +kernel
theorem dX12_next_144 : decode cX12_next 144 = .ok (.iconst 1, 1) := by decide +kernel
theorem dX12_next_145 : decode cX12_next 145 = .ok (.iadd, 1) := by decide +kernel
theorem dX12_next_146 : decode cX12_next 146 = .ok (.putfield 224, 3) := by decide +kernel
theorem dX12_next_149 : decode cX12_next 149 = .ok (.aload_n 0, 1) := by decide +kernel
theorem dX12_next_150 : decode cX12_next 150 = .ok (.getfield 240, 3) := by decide +kernel
theorem dX12_next_153 : decode cX12_next 153 = .ok (.iconst 1, 1) := by decide +kernel
theorem dX12_next_154 : decode cX12_next 154 = .ok (.if_icmp .ne 89, 3) := by decide +kernel
theorem dX12_next_157 : decode cX12_next 157 = .ok (.aload_n 0, 1) := by decide +kernel
theorem dX12_next_158 : decode cX12_next 158 = .ok (.getfield 224, 3) := by decide +kernel
theorem dX12_next_161 : decode cX12_next 161 = .ok (.aload_n 0, 1) := by decide +kernel
theorem dX12_next_162 : decode cX12_next 162 = .ok (.getfield 217, 3) := by decide +kernel
theorem dX12_next_165 : decode cX12_next 165 = .ok (.if_icmp .ge 78, 3) := by decide +kernel
theorem dX12_next_168 : decode cX12_next 168 = .ok (.aload_n 0, 1) := by decide +kernel
theorem dX12_next_169 : decode cX12_next 169 = .ok (.getfield 94, 3) := by decide +kernel
theorem dX12_next_172 : decode cX12_next 172 = .ok (.aload_n 0, 1) := by decide +kernel
theorem dX12_next_173 : decode cX12_next 173 = .ok (.getfield 224, 3) := by decide +kernel
theorem dX12_next_176 : decode cX12_next 176 = .ok (.iaload, 1) := by decide +kernel
theorem dX12_next_177 : decode cX12_next 177 = .ok (.invokestatic 234, 3) := by decide +kernel
theorem dX12_next_180 : decode cX12_next 180 = .ok (.ifCond .eq 63, 3) := by decide +kernel
theorem dX12_next_183 : decode cX12_next 183 = .ok (.aload_n 0, 1) := by decide +kernel
theorem dX12_next_184 : decode cX12_next 184 = .ok (.aload_n 0, 1) := by decide +kernel
theorem dX12_next_185 : decode cX12_next 185 = .ok (.getfield 224, 3) := by decide +kernel
theorem dX12_next_188 : decode cX12_next 188 = .ok (.aload_n 0, 1) := by decide +kernel
theorem dX12_next_189 : decode cX12_next 189 = .ok (.getfield 227, 3) := by decide +kernel
theorem dX12_next_192 : decode cX12_next 192 = .ok (.isub, 1) := by decide +kernel
theorem dX12_next_193 : decode cX12_next 193 = .ok (.bipush 9, 2) := by decide +kernel
theorem dX12_next_195 : decode cX12_next 195 = .ok (.if_icmp .ge 29, 3) := by decide +kernel
theorem dX12_next_198 : decode cX12_next 198 = .ok (.aload_n 0, 1) := by decide +kernel
theorem dX12_next_199 : decode cX12_next 199 = .ok (.getfield 230, 3) := by decide +kernel
theorem dX12_next_202 : decode cX12_next 202 = .ok (.ldc2_w 243, 3) := by decide +kernel
theorem dX12_next_205 : decode cX12_next 205 = .ok (.lmul, 1) := by decide +kernel
theorem dX12_next_206 : decode cX12_next 206 = .ok (.aload_n 0, 1) := by decide +kernel
theorem dX12_next_207 : decode cX12_next 207 = .ok (.getfield 94, 3) := by decide +kernel
theorem dX12_next_210 : decode cX12_next 210 = .ok (.aload_n 0, 1) := by decide +kernel
theorem dX12_next_211 : decode cX12_next 211 = .ok (.getfield 224, 3) := by decide +kernel
theorem dX12_next_214 : decode cX12_next 214 = .ok (.iaload, 1) := by decide +kernel
theorem dX12_next_215 : decode cX12_next 215 = .ok (.i2l, 1) := by decide +kernel
theorem dX12_next_216 : decode cX12_next 216 = .ok (.ladd, 1) := by decide +kernel
theorem dX12_next_217 : decode cX12_next 217 = .ok (.ldc2_w 245, 3) := by decide +kernel
theorem dX12_next_220 : decode cX12_next 220 = .ok (.lsub, 1) := by decide +kernel
theorem dX12_next_221 : decode cX12_next 221 = .ok (.goto 6, 3) := by decide +kernel
theorem dX12_next_224 : decode cX12_next 224 = .ok (.ldc2_w 247, 3) := by decide +kernel
theorem dX12_next_227 : decode cX12_next 227 = .ok (.putfield 230, 3) := by decide +kernel
theorem dX12_next_230 : decode cX12_next 230 = .ok (.aload_n 0, 1) := by decide +kernel
theorem dX12_next_231 : decode cX12_next 231 = .ok (.dup, 1) := by decide +kernel
theorem dX12_next_232 : decode cX12_next 232 = .ok (.getfield 224, 3) := by decide +kernel
theorem dX12_next_235 : decode cX12_next 235 = .ok (.iconst 1, 1) := by decide +kernel
theorem dX12_next_236 : decode cX12_next 236 = .ok (.iadd, 1) := by decide +kernel
theorem dX12_next_237 : decode cX12_next 237 = .ok (.putfield 224, 3) := by decide +kernel
theorem dX12_next_240 : decode cX12_next 240 = .ok (.goto (-91), 3) := by decide +kernel
theorem dX12_next_243 : decode cX12_next 243 = .ok (.aload_n 0, 1) := by decide +kernel
theorem dX12_next_244 : decode cX12_next 244 = .ok (.getfield 240, 3) := by decide +kernel
theorem dX12_next_247 : decode cX12_next 247 = .ok (.iconst 2, 1) := by decide +kernel
theorem dX12_next_248 : decode cX12_next 248 = .ok (.if_icmp .ne 87, 3) := by decide +kernel
theorem dX12_next_251 : decode cX12_next 251 = .ok (.aload_n 0, 1) := by decide +kernel
theorem dX12_next_252 : decode cX12_next 252 = .ok (.getfield 224, 3) := by decide +kernel
theorem dX12_next_255 : decode cX12_next 255 = .ok (.aload_n 0, 1) := by decide +kernel
theorem dX12_next_256 : decode cX12_next 256 = .ok (.getfield 217, 3) := by decide +kernel
theorem dX12_next_259 : decode cX12_next 259 = .ok (.if_icmp .ge 76, 3) := by decide +kernel
theorem dX12_next_262 : decode cX12_next 262 = .ok (.aload_n 0, 1) := by decide +kernel
theorem dX12_next_263 : decode cX12_next 263 = .ok (.getfield 94, 3) := by decide +kernel
theorem dX12_next_266 : decode cX12_next 266 = .ok (.aload_n 0, 1) := by decide +kernel
theorem dX12_next_267 : decode cX12_next 267 = .ok (.getfield 224, 3) := by decide +kernel
theorem dX12_next_270 : decode cX12_next 270 = .ok (.iaload, 1) := by decide +kernel
theorem dX12_next_271 : decode cX12_next 271 = .ok (.invokestatic 237, 3) := by decide +kernel
theorem dX12_next_274 : decode cX12_next 274 = .ok (.ifCond .eq 61, 3) := by decide +kernel
theorem dX12_next_277 : decode cX12_next 277 = .ok (.aload_n 0, 1) := by decide +kernel
theorem dX12_next_278 : decode cX12_next 278 = .ok (.aload_n 0, 1) := by decide +kernel
theorem dX12_next_279 : decode cX12_next 279 = .ok (.getfield 230, 3) := by decide +kernel
theorem dX12_next_282 : decode cX12_next 282 = .ok (.ldc2_w 249, 3) := by decide +kernel
theorem dX12_next_285 : decode cX12_next 285 = .ok (.lcmp, 1) := by decide +kernel
theorem dX12_next_286 : decode cX12_next 286 = .ok (.ifCond .le 10, 3) := by decide +kernel
theorem dX12_next_289 : decode cX12_next 289 = .ok (.aload_n 0, 1) := by decide +kernel
theorem dX12_next_290 : decode cX12_next 290 = .ok (.getfield 230, 3) := by decide +kernel
theorem dX12_next_293 : decode cX12_next 293 = .ok (.goto 26, 3) := by decide +kernel
theorem dX12_next_296 : decode cX12_next 296 = .ok (.aload_n 0, 1) := by decide +kernel
theorem dX12_next_297 : decode cX12_next 297 = .ok (.getfield 230, 3) := by decide +kernel
theorem dX12_next_300 : decode cX12_next 300 = .ok (.ldc2_w 251, 3) := by decide +kernel
theorem dX12_next_303 : decode cX12_next 303 = .ok (.lmul, 1) := by decide +kernel
theorem dX12_next_304 : decode cX12_next 304 = .ok (.aload_n 0, 1) := by decide +kernel
theorem dX12_next_305 : decode cX12_next 305 = .ok (.getfield 94, 3) := by decide +kernel
theorem dX12_next_308 : decode cX12_next 308 = .ok (.aload_n 0, 1) := by decide +kernel
theorem dX12_next_309 : decode cX12_next 309 = .ok (.getfield 224, 3) := by decide +kernel
theorem dX12_next_312 : decode cX12_next 312 = .ok (.iaload, 1) := by decide +kernel
theorem dX12_next_313 : decode cX12_next 313 = .ok (.i2l, 1) := by decide +kernel
theorem dX12_next_314 : decode cX12_next 314 = .ok (.ladd, 1) := by decide +kernel
theorem dX12_next_315 : decode cX12_next 315 = .ok (.ldc2_w 253, 3) := by decide +kernel
theorem dX12_next_318 : decode cX12_next 318 = .ok (.lsub, 1) := by decide +kernel
theorem dX12_next_319 : decode cX12_next 319 = .ok (.putfield 230, 3) := by decide +kernel
theorem dX12_next_322 : decode cX12_next 322 = .ok (.aload_n 0, 1) := by decide +kernel
theorem dX12_next_323 : decode cX12_next 323 = .ok (.dup, 1) := by decide +kernel
theorem dX12_next_324 : decode cX12_next 324 = .ok (.getfield 224, 3) := by decide +kernel
theorem dX12_next_327 : decode cX12_next 327 = .ok (.iconst 1, 1) := by decide +kernel
theorem dX12_next_328 : decode cX12_next 328 = .ok (.iadd, 1) := by decide +kernel
theorem dX12_next_329 : decode cX12_next 329 = .ok (.putfield 224, 3) := by decide +kernel
theorem dX12_next_332 : decode cX12_next 332 = .ok (.goto (-89), 3) := by decide +kernel
theorem dX12_next_335 : decode cX12_next 335 = .ok (.return_, 1) := by decide +kernel
theorem dX12_isWord_0 : decode cX12_isWord 0 = .ok (.iload_n 1, 1) := by decide +kernel
theorem dX12_isWord_1 : decode cX12_isWord 1 = .ok (.i2l, 1) := by decide +kernel
theorem dX12_isWord_2 : decode cX12_isWord 2 = .ok (.ldc2_w 245, 3) := by decide +kernel
theorem dX12_isWord_5 : decode cX12_isWord 5 = .ok (.lsub, 1) := by decide +kernel
theorem dX12_isWord_6 : decode cX12_isWord 6 = .ok (.ldc2_w 243, 3) := by decide +kernel
theorem dX12_isWord_9 : decode cX12_isWord 9 = .ok (.lmul, 1) := by decide +kernel
theorem dX12_isWord_10 : decode cX12_isWord 10 = .ok (.iload_n 2, 1) := by decide +kernel
theorem dX12_isWord_11 : decode cX12_isWord 11 = .ok (.i2l, 1) := by decide +kernel
theorem dX12_isWord_12 : decode cX12_isWord 12 = .ok (.ladd, 1) := by decide +kernel
theorem dX12_isWord_13 : decode cX12_isWord 13 = .ok (.ldc2_w 245, 3) := by decide +kernel
theorem dX12_isWord_16 : decode cX12_isWord 16 = .ok (.lsub, 1) := by decide +kernel
theorem dX12_isWord_17 : decode cX12_isWord 17 = .ok (.lstore 6, 2) := by decide +kernel
theorem dX12_isWord_19 : decode cX12_isWord 19 = .ok (.iload_n 3, 1) := by decide +kernel
theorem dX12_isWord_20 : decode cX12_isWord 20 = .ok (.ifCond .ne 8, 3) := by decide +kernel
theorem dX12_isWord_23 : decode cX12_isWord 23 = .ok (.lload 6, 2) := by decide +kernel
theorem dX12_isWord_25 : decode cX12_isWord 25 = .ok (.goto 16, 3) := by decide +kernel
theorem dX12_isWord_28 : decode cX12_isWord 28 = .ok (.lload 6, 2) := by decide +kernel
theorem dX12_isWord_30 : decode cX12_isWord 30 = .ok (.ldc2_w 243, 3) := by decide +kernel
theorem dX12_isWord_33 : decode cX12_isWord 33 = .ok (.lmul, 1) := by decide +kernel
theorem dX12_isWord_34 : decode cX12_isWord 34 = .ok (.iload_n 3, 1) := by decide +kernel
theorem dX12_isWord_35 : decode cX12_isWord 35 = .ok (.i2l, 1) := by decide +kernel
theorem dX12_isWord_36 : decode cX12_isWord 36 = .ok (.ladd, 1) := by decide +kernel
theorem dX12_isWord_37 : decode cX12_isWord 37 = .ok (.ldc2_w 245, 3) := by decide +kernel
theorem dX12_isWord_40 : decode cX12_isWord 40 = .ok (.lsub, 1) := by decide +kernel
theorem dX12_isWord_41 : decode cX12_isWord 41 = .ok (.lstore 6, 2) := by decide +kernel
theorem dX12_isWord_43 : decode cX12_isWord 43 = .ok (.iload 4, 2) := by decide +kernel
theorem dX12_isWord_45 : decode cX12_isWord 45 = .ok (.ifCond .ne 8, 3) := by decide +kernel
theorem dX12_isWord_48 : decode cX12_isWord 48 = .ok (.lload 6, 2) := by decide +kernel
theorem dX12_isWord_50 : decode cX12_isWord 50 = .ok (.goto 17, 3) := by decide +kernel
end
section
theorem dX12_isWord_53 : decode cX12_isWord 53 = .ok (.lload 6, 2) := by decide +kernel
theorem dX12_isWord_55 : decode cX12_isWord 55 = .ok (.ldc2_w 243, 3) := by decide +kernel
theorem dX12_isWord_58 : decode cX12_isWord 58 = .ok (.lmul, 1) := by decide +kernel
theorem dX12_isWord_59 : decode cX12_isWord 59 = .ok (.iload 4, 2) := by decide +kernel
theorem dX12_isWord_61 : decode cX12_isWord 61 = .ok (.i2l, 1) := by decide +kernel
theorem dX12_isWord_62 : decode cX12_isWord 62 = .ok (.ladd, 1) := by decide +kernel
theorem dX12_isWord_63 : decode cX12_isWord 63 = .ok (.ldc2_w 245, 3) := by decide +kernel
theorem dX12_isWord_66 : decode cX12_isWord 66 = .ok (.lsub, 1) := by decide +kernel
theorem dX12_isWord_67 : decode cX12_isWord 67 = .ok (.lstore 6, 2) := by decide +kernel
theorem dX12_isWord_69 : decode cX12_isWord 69 = .ok (.iload 5, 2) := by decide +kernel
theorem dX12_isWord_71 : decode cX12_isWord 71 = .ok (.ifCond .ne 8, 3) := by decide +kernel
theorem dX12_isWord_74 : decode cX12_isWord 74 = .ok (.lload 6, 2) := by decide +kernel
theorem dX12_isWord_76 : decode cX12_isWord 76 = .ok (.goto 17, 3) := by decide +kernel
theorem dX12_isWord_79 : decode cX12_isWord 79 = .ok (.lload 6, 2) := by decide +kernel
theorem dX12_isWord_81 : decode cX12_isWord 81 = .ok (.ldc2_w 243, 3) := by decide +kernel
theorem dX12_isWord_84 : decode cX12_isWord 84 = .ok (.lmul, 1) := by decide +kernel
theorem dX12_isWord_85 : decode cX12_isWord 85 = .ok (.iload 5, 2) := by decide +kernel
theorem dX12_isWord_87 : decode cX12_isWord 87 = .ok (.i2l, 1) := by decide +kernel
theorem dX12_isWord_88 : decode cX12_isWord 88 = .ok (.ladd, 1) := by decide +kernel
theorem dX12_isWord_89 : decode cX12_isWord 89 = .ok (.ldc2_w 245, 3) := by decide +kernel
theorem dX12_isWord_92 : decode cX12_isWord 92 = .ok (.lsub, 1) := by decide +kernel
theorem dX12_isWord_93 : decode cX12_isWord 93 = .ok (.lstore 6, 2) := by decide +kernel
theorem dX12_isWord_95 : decode cX12_isWord 95 = .ok (.aload_n 0, 1) := by decide +kernel
theorem dX12_isWord_96 : decode cX12_isWord 96 = .ok (.getfield 240, 3) := by decide +kernel
theorem dX12_isWord_99 : decode cX12_isWord 99 = .ok (.iconst 1, 1) := by decide +kernel
theorem dX12_isWord_100 : decode cX12_isWord 100 = .ok (.if_icmp .ne 17, 3) := by decide +kernel
theorem dX12_isWord_103 : decode cX12_isWord 103 = .ok (.aload_n 0, 1) := by decide +kernel
theorem dX12_isWord_104 : decode cX12_isWord 104 = .ok (.getfield 230, 3) := by decide +kernel
theorem dX12_isWord_107 : decode cX12_isWord 107 = .ok (.lload 6, 2) := by decide +kernel
theorem dX12_isWord_109 : decode cX12_isWord 109 = .ok (.lcmp, 1) := by decide +kernel
theorem dX12_isWord_110 : decode cX12_isWord 110 = .ok (.ifCond .ne 7, 3) := by decide +kernel
theorem dX12_isWord_113 : decode cX12_isWord 113 = .ok (.iconst 1, 1) := by decide +kernel
theorem dX12_isWord_114 : decode cX12_isWord 114 = .ok (.goto 4, 3) := by decide +kernel
theorem dX12_isWord_117 : decode cX12_isWord 117 = .ok (.iconst 0, 1) := by decide +kernel
theorem dX12_isWord_118 : decode cX12_isWord 118 = .ok (.ireturn, 1) := by decide +kernel
theorem dX12_isLong_0 : decode cX12_isLong 0 = .ok (.iload_n 1, 1) := by decide +kernel
theorem dX12_isLong_1 : decode cX12_isLong 1 = .ok (.i2l, 1) := by decide +kernel
theorem dX12_isLong_2 : decode cX12_isLong 2 = .ok (.ldc2_w 245, 3) := by decide +kernel
theorem dX12_isLong_5 : decode cX12_isLong 5 = .ok (.lsub, 1) := by decide +kernel
theorem dX12_isLong_6 : decode cX12_isLong 6 = .ok (.ldc2_w 243, 3) := by decide +kernel
theorem dX12_isLong_9 : decode cX12_isLong 9 = .ok (.lmul, 1) := by decide +kernel
theorem dX12_isLong_10 : decode cX12_isLong 10 = .ok (.iload_n 2, 1) := by decide +kernel
theorem dX12_isLong_11 : decode cX12_isLong 11 = .ok (.i2l, 1) := by decide +kernel
theorem dX12_isLong_12 : decode cX12_isLong 12 = .ok (.ladd, 1) := by decide +kernel
theorem dX12_isLong_13 : decode cX12_isLong 13 = .ok (.ldc2_w 245, 3) := by decide +kernel
theorem dX12_isLong_16 : decode cX12_isLong 16 = .ok (.lsub, 1) := by decide +kernel
theorem dX12_isLong_17 : decode cX12_isLong 17 = .ok (.ldc2_w 243, 3) := by decide +kernel
theorem dX12_isLong_20 : decode cX12_isLong 20 = .ok (.lmul, 1) := by decide +kernel
theorem dX12_isLong_21 : decode cX12_isLong 21 = .ok (.iload_n 3, 1) := by decide +kernel
theorem dX12_isLong_22 : decode cX12_isLong 22 = .ok (.i2l, 1) := by decide +kernel
theorem dX12_isLong_23 : decode cX12_isLong 23 = .ok (.ladd, 1) := by decide +kernel
theorem dX12_isLong_24 : decode cX12_isLong 24 = .ok (.ldc2_w 245, 3) := by decide +kernel
theorem dX12_isLong_27 : decode cX12_isLong 27 = .ok (.lsub, 1) := by decide +kernel
theorem dX12_isLong_28 : decode cX12_isLong 28 = .ok (.ldc2_w 243, 3) := by decide +kernel
theorem dX12_isLong_31 : decode cX12_isLong 31 = .ok (.lmul, 1) := by decide +kernel
theorem dX12_isLong_32 : decode cX12_isLong 32 = .ok (.iload 4, 2) := by decide +kernel
theorem dX12_isLong_34 : decode cX12_isLong 34 = .ok (.i2l, 1) := by decide +kernel
theorem dX12_isLong_35 : decode cX12_isLong 35 = .ok (.ladd, 1) := by decide +kernel
theorem dX12_isLong_36 : decode cX12_isLong 36 = .ok (.ldc2_w 245, 3) := by decide +kernel
theorem dX12_isLong_39 : decode cX12_isLong 39 = .ok (.lsub, 1) := by decide +kernel
theorem dX12_isLong_40 : decode cX12_isLong 40 = .ok (.ldc2_w 243, 3) := by decide +kernel
theorem dX12_isLong_43 : decode cX12_isLong 43 = .ok (.lmul, 1) := by decide +kernel
theorem dX12_isLong_44 : decode cX12_isLong 44 = .ok (.iload 5, 2) := by decide +kernel
theorem dX12_isLong_46 : decode cX12_isLong 46 = .ok (.i2l, 1) := by decide +kernel
theorem dX12_isLong_47 : decode cX12_isLong 47 = .ok (.ladd, 1) := by decide +kernel
theorem dX12_isLong_48 : decode cX12_isLong 48 = .ok (.ldc2_w 245, 3) := by decide +kernel
theorem dX12_isLong_51 : decode cX12_isLong 51 = .ok (.lsub, 1) := by decide +kernel
theorem dX12_isLong_52 : decode cX12_isLong 52 = .ok (.lstore 10, 2) := by decide +kernel
theorem dX12_isLong_54 : decode cX12_isLong 54 = .ok (.lload 10, 2) := by decide +kernel
theorem dX12_isLong_56 : decode cX12_isLong 56 = .ok (.ldc2_w 243, 3) := by decide +kernel
theorem dX12_isLong_59 : decode cX12_isLong 59 = .ok (.lmul, 1) := by decide +kernel
theorem dX12_isLong_60 : decode cX12_isLong 60 = .ok (.iload 6, 2) := by decide +kernel
theorem dX12_isLong_62 : decode cX12_isLong 62 = .ok (.i2l, 1) := by decide +kernel
theorem dX12_isLong_63 : decode cX12_isLong 63 = .ok (.ladd, 1) := by decide +kernel
theorem dX12_isLong_64 : decode cX12_isLong 64 = .ok (.ldc2_w 245, 3) := by decide +kernel
theorem dX12_isLong_67 : decode cX12_isLong 67 = .ok (.lsub, 1) := by decide +kernel
theorem dX12_isLong_68 : decode cX12_isLong 68 = .ok (.lstore 10, 2) := by decide +kernel
theorem dX12_isLong_70 : decode cX12_isLong 70 = .ok (.iload 7, 2) := by decide +kernel
theorem dX12_isLong_72 : decode cX12_isLong 72 = .ok (.ifCond .ne 8, 3) := by decide +kernel
theorem dX12_isLong_75 : decode cX12_isLong 75 = .ok (.lload 10, 2) := by decide +kernel
theorem dX12_isLong_77 : decode cX12_isLong 77 = .ok (.goto 41, 3) := by decide +kernel
theorem dX12_isLong_80 : decode cX12_isLong 80 = .ok (.lload 10, 2) := by decide +kernel
theorem dX12_isLong_82 : decode cX12_isLong 82 = .ok (.ldc2_w 243, 3) := by decide +kernel
theorem dX12_isLong_85 : decode cX12_isLong 85 = .ok (.lmul, 1) := by decide +kernel
theorem dX12_isLong_86 : decode cX12_isLong 86 = .ok (.iload 7, 2) := by decide +kernel
theorem dX12_isLong_88 : decode cX12_isLong 88 = .ok (.i2l, 1) := by decide +kernel
theorem dX12_isLong_89 : decode cX12_isLong 89 = .ok (.ladd, 1) := by decide +kernel
theorem dX12_isLong_90 : decode cX12_isLong 90 = .ok (.ldc2_w 245, 3) := by decide +kernel
theorem dX12_isLong_93 : decode cX12_isLong 93 = .ok (.lsub, 1) := by decide +kernel
theorem dX12_isLong_94 : decode cX12_isLong 94 = .ok (.ldc2_w 243, 3) := by decide +kernel
theorem dX12_isLong_97 : decode cX12_isLong 97 = .ok (.lmul, 1) := by decide +kernel
theorem dX12_isLong_98 : decode cX12_isLong 98 = .ok (.iload 8, 2) := by decide +kernel
theorem dX12_isLong_100 : decode cX12_isLong 100 = .ok (.i2l, 1) := by decide +kernel
theorem dX12_isLong_101 : decode cX12_isLong 101 = .ok (.ladd, 1) := by decide +kernel
theorem dX12_isLong_102 : decode cX12_isLong 102 = .ok (.ldc2_w 245, 3) := by decide +kernel
theorem dX12_isLong_105 : decode cX12_isLong 105 = .ok (.lsub, 1) := by decide +kernel
theorem dX12_isLong_106 : decode cX12_isLong 106 = .ok (.ldc2_w 243, 3) := by decide +kernel
theorem dX12_isLong_109 : decode cX12_isLong 109 = .ok (.lmul, 1) := by decide +kernel
theorem dX12_isLong_110 : decode cX12_isLong 110 = .ok (.iload 9, 2) := by decide +kernel
theorem dX12_isLong_112 : decode cX12_isLong 112 = .ok (.i2l, 1) := by decide +kernel
theorem dX12_isLong_113 : decode cX12_isLong 113 = .ok (.ladd, 1) := by decide +kernel
theorem dX12_isLong_114 : decode cX12_isLong 114 = .ok (.ldc2_w 245, 3) := by decide +kernel
theorem dX12_isLong_117 : decode cX12_isLong 117 = .ok (.lsub, 1) := by decide +kernel
theorem dX12_isLong_118 : decode cX12_isLong 118 = .ok (.lstore 10, 2) := by decide +kernel
theorem dX12_isLong_120 : decode cX12_isLong 120 = .ok (.aload_n 0, 1) := by decide +kernel
theorem dX12_isLong_121 : decode cX12_isLong 121 = .ok (.getfield 240, 3) := by decide +kernel
theorem dX12_isLong_124 : decode cX12_isLong 124 = .ok (.iconst 1, 1) := by decide +kernel
theorem dX12_isLong_125 : decode cX12_isLong 125 = .ok (.if_icmp .ne 17, 3) := by decide +kernel
theorem dX12_isLong_128 : decode cX12_isLong 128 = .ok (.aload_n 0, 1) := by decide +kernel
theorem dX12_isLong_129 : decode cX12_isLong 129 = .ok (.getfield 230, 3) := by decide +kernel
theorem dX12_isLong_132 : decode cX12_isLong 132 = .ok (.lload 10, 2) := by decide +kernel
theorem dX12_isLong_134 : decode cX12_isLong 134 = .ok (.lcmp, 1) := by decide +kernel
theorem dX12_isLong_135 : decode cX12_isLong 135 = .ok (.ifCond .ne 7, 3) := by decide +kernel
theorem dX12_isLong_138 : decode cX12_isLong 138 = .ok (.iconst 1, 1) := by decide +kernel
theorem dX12_isLong_139 : decode cX12_isLong 139 = .ok (.goto 4, 3) := by decide +kernel
theorem dX12_isLong_142 : decode cX12_isLong 142 = .ok (.iconst 0, 1) := by decide +kernel
theorem dX12_isLong_143 : decode cX12_isLong 143 = .ok (.ireturn, 1) := by decide +kernel
theorem dX12_must_0 : decode cX12_must 0 = .ok (.aload_n 0, 1) := by decide +kernel
theorem dX12_must_1 : decode cX12_must 1 = .ok (.getfield 255, 3) := by decide +kernel
theorem dX12_must_4 : decode cX12_must 4 = .ok (.ifCond .ne 20, 3) := by decide +kernel
theorem dX12_must_7 : decode cX12_must 7 = .ok (.iload_n 1, 1) := by decide +kernel
theorem dX12_must_8 : decode cX12_must 8 = .ok (.ifCond .ne 16, 3) := by decide +kernel
theorem dX12_must_11 : decode cX12_must 11 = .ok (.aload_n 0, 1) := by decide +kernel
theorem dX12_must_12 : decode cX12_must 12 = .ok (.iconst 1, 1) := by decide +kernel
theorem dX12_must_13 : decode cX12_must 13 = .ok (.putfield 255, 3) := by decide +kernel
theorem dX12_must_16 : decode cX12_must 16 = .ok (.aload_n 0, 1) := by decide +kernel
theorem dX12_must_17 : decode cX12_must 17 = .ok (.aload_n 0, 1) := by decide +kernel
theorem dX12_must_18 : decode cX12_must 18 = .ok (.getfield 227, 3) := by decide +kernel
theorem dX12_must_21 : decode cX12_must 21 = .ok (.putfield 97, 3) := by decide +kernel
theorem dX12_must_24 : decode cX12_must 24 = .ok (.aload_n 0, 1) := by decide +kernel
theorem dX12_must_25 : decode cX12_must 25 = .ok (.getfield 255, 3) := by decide +kernel
theorem dX12_must_28 : decode cX12_must 28 = .ok (.ifCond .ne 7, 3) := by decide +kernel
theorem dX12_must_31 : decode cX12_must 31 = .ok (.aload_n 0, 1) := by decide +kernel
theorem dX12_must_32 : decode cX12_must 32 = .ok (.invokevirtual 259, 3) := by decide +kernel
theorem dX12_must_35 : decode cX12_must 35 = .ok (.return_, 1) := by decide +kernel
theorem dX12_number_0 : decode cX12_number 0 = .ok (.aload_n 0, 1) := by decide +kernel
theorem dX12_number_1 : decode cX12_number 1 = .ok (.getfield 230, 3) := by decide +kernel
theorem dX12_number_4 : decode cX12_number 4 = .ok (.l2i, 1) := by decide +kernel
theorem dX12_number_5 : decode cX12_number 5 = .ok (.istore_n 3, 1) := by decide +kernel
theorem dX12_number_6 : decode cX12_number 6 = .ok (.aload_n 0, 1) := by decide +kernel
theorem dX12_number_7 : decode cX12_number 7 = .ok (.aload_n 0, 1) := by decide +kernel
theorem dX12_number_8 : decode cX12_number 8 = .ok (.getfield 240, 3) := by decide +kernel
theorem dX12_number_11 : decode cX12_number 11 = .ok (.iconst 2, 1) := by decide +kernel
theorem dX12_number_12 : decode cX12_number 12 = .ok (.if_icmp .ne 16, 3) := by decide +kernel
theorem dX12_number_15 : decode cX12_number 15 = .ok (.aload_n 0, 1) := by decide +kernel
theorem dX12_number_16 : decode cX12_number 16 = .ok (.getfield 230, 3) := by decide +kernel
theorem dX12_number_19 : decode cX12_number 19 = .ok (.lload_n 1, 1) := by decide +kernel
theorem dX12_number_20 : decode cX12_number 20 = .ok (.lcmp, 1) := by decide +kernel
theorem dX12_number_21 : decode cX12_number 21 = .ok (.ifCond .gt 7, 3) := by decide +kernel
theorem dX12_number_24 : decode cX12_number 24 = .ok (.iconst 1, 1) := by decide +kernel
theorem dX12_number_25 : decode cX12_number 25 = .ok (.goto 4, 3) := by decide +kernel
theorem dX12_number_28 : decode cX12_number 28 = .ok (.iconst 0, 1) := by decide +kernel
theorem dX12_number_29 : decode cX12_number 29 = .ok (.invokevirtual 262, 3) := by decide +kernel
theorem dX12_number_32 : decode cX12_number 32 = .ok (.iload_n 3, 1) := by decide +kernel
theorem dX12_number_33 : decode cX12_number 33 = .ok (.ireturn, 1) := by decide +kernel
theorem dX12_readLaw_0 : decode cX12_readLaw 0 = .ok (.aload_n 0, 1) := by decide +kernel
theorem dX12_readLaw_1 : decode cX12_readLaw 1 = .ok (.aload_n 0, 1) := by decide +kernel
theorem dX12_readLaw_2 : decode cX12_readLaw 2 = .ok (.getfield 266, 3) := by decide +kernel
theorem dX12_readLaw_5 : decode cX12_readLaw 5 = .ok (.bipush 30, 2) := by decide +kernel
theorem dX12_readLaw_7 : decode cX12_readLaw 7 = .ok (.if_icmp .ge 23, 3) := by decide +kernel
theorem dX12_readLaw_10 : decode cX12_readLaw 10 = .ok (.aload_n 0, 1) := by decide +kernel
theorem dX12_readLaw_11 : decode cX12_readLaw 11 = .ok (.bipush 102, 2) := by decide +kernel
theorem dX12_readLaw_13 : decode cX12_readLaw 13 = .ok (.bipush 114, 2) := by decide +kernel
theorem dX12_readLaw_15 : decode cX12_readLaw 15 = .ok (.bipush 111, 2) := by decide +kernel
theorem dX12_readLaw_17 : decode cX12_readLaw 17 = .ok (.bipush 109, 2) := by decide +kernel
theorem dX12_readLaw_19 : decode cX12_readLaw 19 = .ok (.iconst 0, 1) := by decide +kernel
theorem dX12_readLaw_20 : decode cX12_readLaw 20 = .ok (.invokevirtual 269, 3) := by decide +kernel
theorem dX12_readLaw_23 : decode cX12_readLaw 23 = .ok (.ifCond .eq 7, 3) := by decide +kernel
theorem dX12_readLaw_26 : decode cX12_readLaw 26 = .ok (.iconst 1, 1) := by decide +kernel
theorem dX12_readLaw_27 : decode cX12_readLaw 27 = .ok (.goto 4, 3) := by decide +kernel
theorem dX12_readLaw_30 : decode cX12_readLaw 30 = .ok (.iconst 0, 1) := by decide +kernel
theorem dX12_readLaw_31 : decode cX12_readLaw 31 = .ok (.invokevirtual 262, 3) := by decide +kernel
theorem dX12_readLaw_34 : decode cX12_readLaw 34 = .ok (.aload_n 0, 1) := by decide +kernel
theorem dX12_readLaw_35 : decode cX12_readLaw 35 = .ok (.ldc2_w 137, 3) := by decide +kernel
theorem dX12_readLaw_38 : decode cX12_readLaw 38 = .ok (.invokevirtual 273, 3) := by decide +kernel
theorem dX12_readLaw_41 : decode cX12_readLaw 41 = .ok (.istore_n 1, 1) := by decide +kernel
theorem dX12_readLaw_42 : decode cX12_readLaw 42 = .ok (.sipush 200, 3) := by decide +kernel
theorem dX12_readLaw_45 : decode cX12_readLaw 45 = .ok (.istore_n 2, 1) := by decide +kernel
theorem dX12_readLaw_46 : decode cX12_readLaw 46 = .ok (.aload_n 0, 1) := by decide +kernel
theorem dX12_readLaw_47 : decode cX12_readLaw 47 = .ok (.getfield 255, 3) := by decide +kernel
theorem dX12_readLaw_50 : decode cX12_readLaw 50 = .ok (.ifCond .ne 65, 3) := by decide +kernel
theorem dX12_readLaw_53 : decode cX12_readLaw 53 = .ok (.aload_n 0, 1) := by decide +kernel
theorem dX12_readLaw_54 : decode cX12_readLaw 54 = .ok (.bipush 116, 2) := by decide +kernel
theorem dX12_readLaw_56 : decode cX12_readLaw 56 = .ok (.bipush 111, 2) := by decide +kernel
theorem dX12_readLaw_58 : decode cX12_readLaw 58 = .ok (.iconst 0, 1) := by decide +kernel
theorem dX12_readLaw_59 : decode cX12_readLaw 59 = .ok (.iconst 0, 1) := by decide +kernel
theorem dX12_readLaw_60 : decode cX12_readLaw 60 = .ok (.iconst 0, 1) := by decide +kernel
theorem dX12_readLaw_61 : decode cX12_readLaw 61 = .ok (.invokevirtual 269, 3) := by decide +kernel
theorem dX12_readLaw_64 : decode cX12_readLaw 64 = .ok (.ifCond .eq 51, 3) := by decide +kernel
theorem dX12_readLaw_67 : decode cX12_readLaw 67 = .ok (.aload_n 0, 1) := by decide +kernel
theorem dX12_readLaw_68 : decode cX12_readLaw 68 = .ok (.invokevirtual 259, 3) := by decide +kernel
theorem dX12_readLaw_71 : decode cX12_readLaw 71 = .ok (.aload_n 0, 1) := by decide +kernel
theorem dX12_readLaw_72 : decode cX12_readLaw 72 = .ok (.getfield 230, 3) := by decide +kernel
theorem dX12_readLaw_75 : decode cX12_readLaw 75 = .ok (.l2i, 1) := by decide +kernel
theorem dX12_readLaw_76 : decode cX12_readLaw 76 = .ok (.istore_n 2, 1) := by decide +kernel
theorem dX12_readLaw_77 : decode cX12_readLaw 77 = .ok (.aload_n 0, 1) := by decide +kernel
theorem dX12_readLaw_78 : decode cX12_readLaw 78 = .ok (.aload_n 0, 1) := by decide +kernel
theorem dX12_readLaw_79 : decode cX12_readLaw 79 = .ok (.getfield 240, 3) := by decide +kernel
theorem dX12_readLaw_82 : decode cX12_readLaw 82 = .ok (.iconst 2, 1) := by decide +kernel
theorem dX12_readLaw_83 : decode cX12_readLaw 83 = .ok (.if_icmp .ne 28, 3) := by decide +kernel
theorem dX12_readLaw_86 : decode cX12_readLaw 86 = .ok (.aload_n 0, 1) := by decide +kernel
theorem dX12_readLaw_87 : decode cX12_readLaw 87 = .ok (.getfield 230, 3) := by decide +kernel
theorem dX12_readLaw_90 : decode cX12_readLaw 90 = .ok (.ldc2_w 137, 3) := by decide +kernel
theorem dX12_readLaw_93 : decode cX12_readLaw 93 = .ok (.lcmp, 1) := by decide +kernel
theorem dX12_readLaw_94 : decode cX12_readLaw 94 = .ok (.ifCond .gt 17, 3) := by decide +kernel
theorem dX12_readLaw_97 : decode cX12_readLaw 97 = .ok (.aload_n 0, 1) := by decide +kernel
theorem dX12_readLaw_98 : decode cX12_readLaw 98 = .ok (.getfield 230, 3) := by decide +kernel
theorem dX12_readLaw_101 : decode cX12_readLaw 101 = .ok (.iload_n 1, 1) := by decide +kernel
theorem dX12_readLaw_102 : decode cX12_readLaw 102 = .ok (.i2l, 1) := by decide +kernel
theorem dX12_readLaw_103 : decode cX12_readLaw 103 = .ok (.lcmp, 1) := by decide +kernel
theorem dX12_readLaw_104 : decode cX12_readLaw 104 = .ok (.ifCond .lt 7, 3) := by decide +kernel
theorem dX12_readLaw_107 : decode cX12_readLaw 107 = .ok (.iconst 1, 1) := by decide +kernel
theorem dX12_readLaw_108 : decode cX12_readLaw 108 = .ok (.goto 4, 3) := by decide +kernel
theorem dX12_readLaw_111 : decode cX12_readLaw 111 = .ok (.iconst 0, 1) := by decide +kernel
theorem dX12_readLaw_112 : decode cX12_readLaw 112 = .ok (.invokevirtual 262, 3) := by decide +kernel
theorem dX12_readLaw_115 : decode cX12_readLaw 115 = .ok (.aload_n 0, 1) := by decide +kernel
theorem dX12_readLaw_116 : decode cX12_readLaw 116 = .ok (.bipush 102, 2) := by decide +kernel
theorem dX12_readLaw_118 : decode cX12_readLaw 118 = .ok (.bipush 105, 2) := by decide +kernel
theorem dX12_readLaw_120 : decode cX12_readLaw 120 = .ok (.bipush 114, 2) := by decide +kernel
theorem dX12_readLaw_122 : decode cX12_readLaw 122 = .ok (.bipush 115, 2) := by decide +kernel
theorem dX12_readLaw_124 : decode cX12_readLaw 124 = .ok (.bipush 116, 2) := by decide +kernel
theorem dX12_readLaw_126 : decode cX12_readLaw 126 = .ok (.invokevirtual 269, 3) := by decide +kernel
theorem dX12_readLaw_129 : decode cX12_readLaw 129 = .ok (.ifCond .eq 7, 3) := by decide +kernel
theorem dX12_readLaw_132 : decode cX12_readLaw 132 = .ok (.iconst 0, 1) := by decide +kernel
theorem dX12_readLaw_133 : decode cX12_readLaw 133 = .ok (.goto 106, 3) := by decide +kernel
theorem dX12_readLaw_136 : decode cX12_readLaw 136 = .ok (.aload_n 0, 1) := by decide +kernel
theorem dX12_readLaw_137 : decode cX12_readLaw 137 = .ok (.bipush 104, 2) := by decide +kernel
theorem dX12_readLaw_139 : decode cX12_readLaw 139 = .ok (.bipush 101, 2) := by decide +kernel
theorem dX12_readLaw_141 : decode cX12_readLaw 141 = .ok (.bipush 105, 2) := by decide +kernel
theorem dX12_readLaw_143 : decode cX12_readLaw 143 = .ok (.bipush 114, 2) := by decide +kernel
theorem dX12_readLaw_145 : decode cX12_readLaw 145 = .ok (.bipush 115, 2) := by decide +kernel
theorem dX12_readLaw_147 : decode cX12_readLaw 147 = .ok (.invokevirtual 269, 3) := by decide +kernel
theorem dX12_readLaw_150 : decode cX12_readLaw 150 = .ok (.ifCond .eq 7, 3) := by decide +kernel
theorem dX12_readLaw_153 : decode cX12_readLaw 153 = .ok (.iconst 1, 1) := by decide +kernel
theorem dX12_readLaw_154 : decode cX12_readLaw 154 = .ok (.goto 85, 3) := by decide +kernel
theorem dX12_readLaw_157 : decode cX12_readLaw 157 = .ok (.aload_n 0, 1) := by decide +kernel
theorem dX12_readLaw_158 : decode cX12_readLaw 158 = .ok (.bipush 114, 2) := by decide +kernel
theorem dX12_readLaw_160 : decode cX12_readLaw 160 = .ok (.bipush 101, 2) := by decide +kernel
theorem dX12_readLaw_162 : decode cX12_readLaw 162 = .ok (.bipush 110, 2) := by decide +kernel
theorem dX12_readLaw_164 : decode cX12_readLaw 164 = .ok (.bipush 116, 2) := by decide +kernel
theorem dX12_readLaw_166 : decode cX12_readLaw 166 = .ok (.iconst 0, 1) := by decide +kernel
theorem dX12_readLaw_167 : decode cX12_readLaw 167 = .ok (.invokevirtual 269, 3) := by decide +kernel
theorem dX12_readLaw_170 : decode cX12_readLaw 170 = .ok (.ifCond .eq 7, 3) := by decide +kernel
theorem dX12_readLaw_173 : decode cX12_readLaw 173 = .ok (.iconst 2, 1) := by decide +kernel
theorem dX12_readLaw_174 : decode cX12_readLaw 174 = .ok (.goto 65, 3) := by decide +kernel
theorem dX12_readLaw_177 : decode cX12_readLaw 177 = .ok (.aload_n 0, 1) := by decide +kernel
theorem dX12_readLaw_178 : decode cX12_readLaw 178 = .ok (.bipush 102, 2) := by decide +kernel
theorem dX12_readLaw_180 : decode cX12_readLaw 180 = .ok (.bipush 105, 2) := by decide +kernel
theorem dX12_readLaw_182 : decode cX12_readLaw 182 = .ok (.bipush 110, 2) := by decide +kernel
theorem dX12_readLaw_184 : decode cX12_readLaw 184 = .ok (.bipush 101, 2) := by decide +kernel
theorem dX12_readLaw_186 : decode cX12_readLaw 186 = .ok (.iconst 0, 1) := by decide +kernel
theorem dX12_readLaw_187 : decode cX12_readLaw 187 = .ok (.invokevirtual 269, 3) := by decide +kernel
theorem dX12_readLaw_190 : decode cX12_readLaw 190 = .ok (.ifCond .eq 7, 3) := by decide +kernel
theorem dX12_readLaw_193 : decode cX12_readLaw 193 = .ok (.iconst 3, 1) := by decide +kernel
theorem dX12_readLaw_194 : decode cX12_readLaw 194 = .ok (.goto 45, 3) := by decide +kernel
theorem dX12_readLaw_197 : decode cX12_readLaw 197 = .ok (.aload_n 0, 1) := by decide +kernel
theorem dX12_readLaw_198 : decode cX12_readLaw 198 = .ok (.bipush 109, 2) := by decide +kernel
theorem dX12_readLaw_200 : decode cX12_readLaw 200 = .ok (.bipush 111, 2) := by decide +kernel
theorem dX12_readLaw_202 : decode cX12_readLaw 202 = .ok (.bipush 115, 2) := by decide +kernel
theorem dX12_readLaw_204 : decode cX12_readLaw 204 = .ok (.bipush 116, 2) := by decide +kernel
theorem dX12_readLaw_206 : decode cX12_readLaw 206 = .ok (.iconst 0, 1) := by decide +kernel
theorem dX12_readLaw_207 : decode cX12_readLaw 207 = .ok (.invokevirtual 269, 3) := by decide +kernel
theorem dX12_readLaw_210 : decode cX12_readLaw 210 = .ok (.ifCond .eq 7, 3) := by decide +kernel
theorem dX12_readLaw_213 : decode cX12_readLaw 213 = .ok (.iconst 4, 1) := by decide +kernel
theorem dX12_readLaw_214 : decode cX12_readLaw 214 = .ok (.goto 25, 3) := by decide +kernel
theorem dX12_readLaw_217 : decode cX12_readLaw 217 = .ok (.aload_n 0, 1) := by decide +kernel
theorem dX12_readLaw_218 : decode cX12_readLaw 218 = .ok (.bipush 99, 2) := by decide +kernel
theorem dX12_readLaw_220 : decode cX12_readLaw 220 = .ok (.bipush 108, 2) := by decide +kernel
theorem dX12_readLaw_222 : decode cX12_readLaw 222 = .ok (.bipush 111, 2) := by decide +kernel
theorem dX12_readLaw_224 : decode cX12_readLaw 224 = .ok (.bipush 115, 2) := by decide +kernel
theorem dX12_readLaw_226 : decode cX12_readLaw 226 = .ok (.bipush 101, 2) := by decide +kernel
theorem dX12_readLaw_228 : decode cX12_readLaw 228 = .ok (.invokevirtual 269, 3) := by decide +kernel
theorem dX12_readLaw_231 : decode cX12_readLaw 231 = .ok (.ifCond .eq 7, 3) := by decide +kernel
theorem dX12_readLaw_234 : decode cX12_readLaw 234 = .ok (.iconst 5, 1) := by decide +kernel
theorem dX12_readLaw_235 : decode cX12_readLaw 235 = .ok (.goto 4, 3) := by decide +kernel
theorem dX12_readLaw_238 : decode cX12_readLaw 238 = .ok (.iconst (-1), 1) := by decide +kernel
theorem dX12_readLaw_239 : decode cX12_readLaw 239 = .ok (.istore_n 3, 1) := by decide +kernel
theorem dX12_readLaw_240 : decode cX12_readLaw 240 = .ok (.aload_n 0, 1) := by decide +kernel
theorem dX12_readLaw_241 : decode cX12_readLaw 241 = .ok (.iload_n 3, 1) := by decide +kernel
theorem dX12_readLaw_242 : decode cX12_readLaw 242 = .ok (.ifCond .lt 7, 3) := by decide +kernel
theorem dX12_readLaw_245 : decode cX12_readLaw 245 = .ok (.iconst 1, 1) := by decide +kernel
theorem dX12_readLaw_246 : decode cX12_readLaw 246 = .ok (.goto 4, 3) := by decide +kernel
theorem dX12_readLaw_249 : decode cX12_readLaw 249 = .ok (.iconst 0, 1) := by decide +kernel
theorem dX12_readLaw_250 : decode cX12_readLaw 250 = .ok (.invokevirtual 262, 3) := by decide +kernel
theorem dX12_readLaw_253 : decode cX12_readLaw 253 = .ok (.iconst 0, 1) := by decide +kernel
theorem dX12_readLaw_254 : decode cX12_readLaw 254 = .ok (.istore 4, 2) := by decide +kernel
theorem dX12_readLaw_256 : decode cX12_readLaw 256 = .ok (.iload_n 3, 1) := by decide +kernel
theorem dX12_readLaw_257 : decode cX12_readLaw 257 = .ok (.ifCond .ne 96, 3) := by decide +kernel
theorem dX12_readLaw_260 : decode cX12_readLaw 260 = .ok (.aload_n 0, 1) := by decide +kernel
theorem dX12_readLaw_261 : decode cX12_readLaw 261 = .ok (.bipush 102, 2) := by decide +kernel
theorem dX12_readLaw_263 : decode cX12_readLaw 263 = .ok (.bipush 111, 2) := by decide +kernel
theorem dX12_readLaw_265 : decode cX12_readLaw 265 = .ok (.bipush 117, 2) := by decide +kernel
theorem dX12_readLaw_267 : decode cX12_readLaw 267 = .ok (.bipush 110, 2) := by decide +kernel
theorem dX12_readLaw_269 : decode cX12_readLaw 269 = .ok (.bipush 116, 2) := by decide +kernel
theorem dX12_readLaw_271 : decode cX12_readLaw 271 = .ok (.bipush 97, 2) := by decide +kernel
theorem dX12_readLaw_273 : decode cX12_readLaw 273 = .ok (.bipush 105, 2) := by decide +kernel
theorem dX12_readLaw_275 : decode cX12_readLaw 275 = .ok (.bipush 110, 2) := by decide +kernel
theorem dX12_readLaw_277 : decode cX12_readLaw 277 = .ok (.bipush 115, 2) := by decide +kernel
theorem dX12_readLaw_279 : decode cX12_readLaw 279 = .ok (.invokevirtual 277, 3) := by decide +kernel
theorem dX12_readLaw_282 : decode cX12_readLaw 282 = .ok (.ifCond .eq 7, 3) := by decide +kernel
theorem dX12_readLaw_285 : decode cX12_readLaw 285 = .ok (.iconst 0, 1) := by decide +kernel
theorem dX12_readLaw_286 : decode cX12_readLaw 286 = .ok (.goto 25, 3) := by decide +kernel
theorem dX12_readLaw_289 : decode cX12_readLaw 289 = .ok (.aload_n 0, 1) := by decide +kernel
theorem dX12_readLaw_290 : decode cX12_readLaw 290 = .ok (.bipush 98, 2) := by decide +kernel
theorem dX12_readLaw_292 : decode cX12_readLaw 292 = .ok (.bipush 97, 2) := by decide +kernel
theorem dX12_readLaw_294 : decode cX12_readLaw 294 = .ok (.bipush 116, 2) := by decide +kernel
theorem dX12_readLaw_296 : decode cX12_readLaw 296 = .ok (.bipush 104, 2) := by decide +kernel
theorem dX12_readLaw_298 : decode cX12_readLaw 298 = .ok (.bipush 115, 2) := by decide +kernel
theorem dX12_readLaw_300 : decode cX12_readLaw 300 = .ok (.invokevirtual 269, 3) := by decide +kernel
theorem dX12_readLaw_303 : decode cX12_readLaw 303 = .ok (.ifCond .eq 7, 3) := by decide +kernel
theorem dX12_readLaw_306 : decode cX12_readLaw 306 = .ok (.iconst 1, 1) := by decide +kernel
theorem dX12_readLaw_307 : decode cX12_readLaw 307 = .ok (.goto 4, 3) := by decide +kernel
theorem dX12_readLaw_310 : decode cX12_readLaw 310 = .ok (.iconst 2, 1) := by decide +kernel
theorem dX12_readLaw_311 : decode cX12_readLaw 311 = .ok (.istore 4, 2) := by decide +kernel
theorem dX12_readLaw_313 : decode cX12_readLaw 313 = .ok (.aload_n 0, 1) := by decide +kernel
theorem dX12_readLaw_314 : decode cX12_readLaw 314 = .ok (.iload 4, 2) := by decide +kernel
theorem dX12_readLaw_316 : decode cX12_readLaw 316 = .ok (.iconst 2, 1) := by decide +kernel
theorem dX12_readLaw_317 : decode cX12_readLaw 317 = .ok (.if_icmp .lt 25, 3) := by decide +kernel
theorem dX12_readLaw_320 : decode cX12_readLaw 320 = .ok (.aload_n 0, 1) := by decide +kernel
theorem dX12_readLaw_321 : decode cX12_readLaw 321 = .ok (.bipush 103, 2) := by decide +kernel
theorem dX12_readLaw_323 : decode cX12_readLaw 323 = .ok (.bipush 114, 2) := by decide +kernel
theorem dX12_readLaw_325 : decode cX12_readLaw 325 = .ok (.bipush 97, 2) := by decide +kernel
theorem dX12_readLaw_327 : decode cX12_readLaw 327 = .ok (.bipush 110, 2) := by decide +kernel
theorem dX12_readLaw_329 : decode cX12_readLaw 329 = .ok (.bipush 116, 2) := by decide +kernel
theorem dX12_readLaw_331 : decode cX12_readLaw 331 = .ok (.bipush 115, 2) := by decide +kernel
theorem dX12_readLaw_333 : decode cX12_readLaw 333 = .ok (.iconst 0, 1) := by decide +kernel
theorem dX12_readLaw_334 : decode cX12_readLaw 334 = .ok (.iconst 0, 1) := by decide +kernel
theorem dX12_readLaw_335 : decode cX12_readLaw 335 = .ok (.iconst 0, 1) := by decide +kernel
theorem dX12_readLaw_336 : decode cX12_readLaw 336 = .ok (.invokevirtual 277, 3) := by decide +kernel
theorem dX12_readLaw_339 : decode cX12_readLaw 339 = .ok (.ifCond .eq 7, 3) := by decide +kernel
theorem dX12_readLaw_342 : decode cX12_readLaw 342 = .ok (.iconst 1, 1) := by decide +kernel
theorem dX12_readLaw_343 : decode cX12_readLaw 343 = .ok (.goto 4, 3) := by decide +kernel
theorem dX12_readLaw_346 : decode cX12_readLaw 346 = .ok (.iconst 0, 1) := by decide +kernel
theorem dX12_readLaw_347 : decode cX12_readLaw 347 = .ok (.invokevirtual 262, 3) := by decide +kernel
theorem dX12_readLaw_350 : decode cX12_readLaw 350 = .ok (.goto 23, 3) := by decide +kernel
theorem dX12_readLaw_353 : decode cX12_readLaw 353 = .ok (.aload_n 0, 1) := by decide +kernel
theorem dX12_readLaw_354 : decode cX12_readLaw 354 = .ok (.iload_n 3, 1) := by decide +kernel
theorem dX12_readLaw_355 : decode cX12_readLaw 355 = .ok (.iconst 5, 1) := by decide +kernel
theorem dX12_readLaw_356 : decode cX12_readLaw 356 = .ok (.if_icmp .ne 9, 3) := by decide +kernel
theorem dX12_readLaw_359 : decode cX12_readLaw 359 = .ok (.ldc2_w 184, 3) := by decide +kernel
theorem dX12_readLaw_362 : decode cX12_readLaw 362 = .ok (.goto 6, 3) := by decide +kernel
theorem dX12_readLaw_365 : decode cX12_readLaw 365 = .ok (.ldc2_w 152, 3) := by decide +kernel
theorem dX12_readLaw_368 : decode cX12_readLaw 368 = .ok (.invokevirtual 273, 3) := by decide +kernel
theorem dX12_readLaw_371 : decode cX12_readLaw 371 = .ok (.istore 4, 2) := by decide +kernel
theorem dX12_readLaw_373 : decode cX12_readLaw 373 = .ok (.aload_n 0, 1) := by decide +kernel
theorem dX12_readLaw_374 : decode cX12_readLaw 374 = .ok (.getfield 255, 3) := by decide +kernel
theorem dX12_readLaw_377 : decode cX12_readLaw 377 = .ok (.ifCond .eq 4, 3) := by decide +kernel
theorem dX12_readLaw_380 : decode cX12_readLaw 380 = .ok (.return_, 1) := by decide +kernel
theorem dX12_readLaw_381 : decode cX12_readLaw 381 = .ok (.aload_n 0, 1) := by decide +kernel
theorem dX12_readLaw_382 : decode cX12_readLaw 382 = .ok (.getfield 91, 3) := by decide +kernel
theorem dX12_readLaw_385 : decode cX12_readLaw 385 = .ok (.iconst 4, 1) := by decide +kernel
theorem dX12_readLaw_386 : decode cX12_readLaw 386 = .ok (.aload_n 0, 1) := by decide +kernel
theorem dX12_readLaw_387 : decode cX12_readLaw 387 = .ok (.getfield 266, 3) := by decide +kernel
theorem dX12_readLaw_390 : decode cX12_readLaw 390 = .ok (.imul, 1) := by decide +kernel
theorem dX12_readLaw_391 : decode cX12_readLaw 391 = .ok (.iload_n 3, 1) := by decide +kernel
theorem dX12_readLaw_392 : decode cX12_readLaw 392 = .ok (.iastore, 1) := by decide +kernel
theorem dX12_readLaw_393 : decode cX12_readLaw 393 = .ok (.aload_n 0, 1) := by decide +kernel
theorem dX12_readLaw_394 : decode cX12_readLaw 394 = .ok (.getfield 91, 3) := by decide +kernel
theorem dX12_readLaw_397 : decode cX12_readLaw 397 = .ok (.iconst 4, 1) := by decide +kernel
theorem dX12_readLaw_398 : decode cX12_readLaw 398 = .ok (.aload_n 0, 1) := by decide +kernel
theorem dX12_readLaw_399 : decode cX12_readLaw 399 = .ok (.getfield 266, 3) := by decide +kernel
theorem dX12_readLaw_402 : decode cX12_readLaw 402 = .ok (.imul, 1) := by decide +kernel
theorem dX12_readLaw_403 : decode cX12_readLaw 403 = .ok (.iconst 1, 1) := by decide +kernel
theorem dX12_readLaw_404 : decode cX12_readLaw 404 = .ok (.iadd, 1) := by decide +kernel
theorem dX12_readLaw_405 : decode cX12_readLaw 405 = .ok (.iload_n 1, 1) := by decide +kernel
theorem dX12_readLaw_406 : decode cX12_readLaw 406 = .ok (.iastore, 1) := by decide +kernel
theorem dX12_readLaw_407 : decode cX12_readLaw 407 = .ok (.aload_n 0, 1) := by decide +kernel
theorem dX12_readLaw_408 : decode cX12_readLaw 408 = .ok (.getfield 91, 3) := by decide +kernel
theorem dX12_readLaw_411 : decode cX12_readLaw 411 = .ok (.iconst 4, 1) := by decide +kernel
theorem dX12_readLaw_412 : decode cX12_readLaw 412 = .ok (.aload_n 0, 1) := by decide +kernel
theorem dX12_readLaw_413 : decode cX12_readLaw 413 = .ok (.getfield 266, 3) := by decide +kernel
theorem dX12_readLaw_416 : decode cX12_readLaw 416 = .ok (.imul, 1) := by decide +kernel
theorem dX12_readLaw_417 : decode cX12_readLaw 417 = .ok (.iconst 2, 1) := by decide +kernel
theorem dX12_readLaw_418 : decode cX12_readLaw 418 = .ok (.iadd, 1) := by decide +kernel
theorem dX12_readLaw_419 : decode cX12_readLaw 419 = .ok (.iload_n 2, 1) := by decide +kernel
theorem dX12_readLaw_420 : decode cX12_readLaw 420 = .ok (.iastore, 1) := by decide +kernel
theorem dX12_readLaw_421 : decode cX12_readLaw 421 = .ok (.aload_n 0, 1) := by decide +kernel
theorem dX12_readLaw_422 : decode cX12_readLaw 422 = .ok (.getfield 91, 3) := by decide +kernel
theorem dX12_readLaw_425 : decode cX12_readLaw 425 = .ok (.iconst 4, 1) := by decide +kernel
theorem dX12_readLaw_426 : decode cX12_readLaw 426 = .ok (.aload_n 0, 1) := by decide +kernel
theorem dX12_readLaw_427 : decode cX12_readLaw 427 = .ok (.getfield 266, 3) := by decide +kernel
theorem dX12_readLaw_430 : decode cX12_readLaw 430 = .ok (.imul, 1) := by decide +kernel
theorem dX12_readLaw_431 : decode cX12_readLaw 431 = .ok (.iconst 3, 1) := by decide +kernel
theorem dX12_readLaw_432 : decode cX12_readLaw 432 = .ok (.iadd, 1) := by decide +kernel
theorem dX12_readLaw_433 : decode cX12_readLaw 433 = .ok (.iload 4, 2) := by decide +kernel
theorem dX12_readLaw_435 : decode cX12_readLaw 435 = .ok (.iastore, 1) := by decide +kernel
theorem dX12_readLaw_436 : decode cX12_readLaw 436 = .ok (.aload_n 0, 1) := by decide +kernel
theorem dX12_readLaw_437 : decode cX12_readLaw 437 = .ok (.dup, 1) := by decide +kernel
theorem dX12_readLaw_438 : decode cX12_readLaw 438 = .ok (.getfield 266, 3) := by decide +kernel
theorem dX12_readLaw_441 : decode cX12_readLaw 441 = .ok (.iconst 1, 1) := by decide +kernel
theorem dX12_readLaw_442 : decode cX12_readLaw 442 = .ok (.iadd, 1) := by decide +kernel
theorem dX12_readLaw_443 : decode cX12_readLaw 443 = .ok (.putfield 266, 3) := by decide +kernel
theorem dX12_readLaw_446 : decode cX12_readLaw 446 = .ok (.return_, 1) := by decide +kernel
theorem dX12_laws_0 : decode cX12_laws 0 = .ok (.aload_n 0, 1) := by decide +kernel
theorem dX12_laws_1 : decode cX12_laws 1 = .ok (.iconst 0, 1) := by decide +kernel
theorem dX12_laws_2 : decode cX12_laws 2 = .ok (.putfield 131, 3) := by decide +kernel
theorem dX12_laws_5 : decode cX12_laws 5 = .ok (.aload_n 0, 1) := by decide +kernel
theorem dX12_laws_6 : decode cX12_laws 6 = .ok (.iconst 0, 1) := by decide +kernel
theorem dX12_laws_7 : decode cX12_laws 7 = .ok (.putfield 224, 3) := by decide +kernel
theorem dX12_laws_10 : decode cX12_laws 10 = .ok (.aload_n 0, 1) := by decide +kernel
theorem dX12_laws_11 : decode cX12_laws 11 = .ok (.iconst 0, 1) := by decide +kernel
theorem dX12_laws_12 : decode cX12_laws 12 = .ok (.putfield 255, 3) := by decide +kernel
theorem dX12_laws_15 : decode cX12_laws 15 = .ok (.aload_n 0, 1) := by decide +kernel
theorem dX12_laws_16 : decode cX12_laws 16 = .ok (.iconst (-1), 1) := by decide +kernel
theorem dX12_laws_17 : decode cX12_laws 17 = .ok (.putfield 97, 3) := by decide +kernel
theorem dX12_laws_20 : decode cX12_laws 20 = .ok (.aload_n 0, 1) := by decide +kernel
theorem dX12_laws_21 : decode cX12_laws 21 = .ok (.iconst 0, 1) := by decide +kernel
theorem dX12_laws_22 : decode cX12_laws 22 = .ok (.putfield 266, 3) := by decide +kernel
theorem dX12_laws_25 : decode cX12_laws 25 = .ok (.aload_n 0, 1) := by decide +kernel
theorem dX12_laws_26 : decode cX12_laws 26 = .ok (.invokevirtual 259, 3) := by decide +kernel
theorem dX12_laws_29 : decode cX12_laws 29 = .ok (.aload_n 0, 1) := by decide +kernel
theorem dX12_laws_30 : decode cX12_laws 30 = .ok (.getfield 240, 3) := by decide +kernel
theorem dX12_laws_33 : decode cX12_laws 33 = .ok (.ifCond .eq 63, 3) := by decide +kernel
theorem dX12_laws_36 : decode cX12_laws 36 = .ok (.aload_n 0, 1) := by decide +kernel
theorem dX12_laws_37 : decode cX12_laws 37 = .ok (.invokevirtual 281, 3) := by decide +kernel
theorem dX12_laws_40 : decode cX12_laws 40 = .ok (.aload_n 0, 1) := by decide +kernel
theorem dX12_laws_41 : decode cX12_laws 41 = .ok (.getfield 255, 3) := by decide +kernel
theorem dX12_laws_44 : decode cX12_laws 44 = .ok (.ifCond .ne 33, 3) := by decide +kernel
theorem dX12_laws_47 : decode cX12_laws 47 = .ok (.aload_n 0, 1) := by decide +kernel
theorem dX12_laws_48 : decode cX12_laws 48 = .ok (.getfield 240, 3) := by decide +kernel
theorem dX12_laws_51 : decode cX12_laws 51 = .ok (.iconst 3, 1) := by decide +kernel
theorem dX12_laws_52 : decode cX12_laws 52 = .ok (.if_icmp .ne 25, 3) := by decide +kernel
theorem dX12_laws_55 : decode cX12_laws 55 = .ok (.aload_n 0, 1) := by decide +kernel
theorem dX12_laws_56 : decode cX12_laws 56 = .ok (.getfield 230, 3) := by decide +kernel
theorem dX12_laws_59 : decode cX12_laws 59 = .ok (.ldc2_w 284, 3) := by decide +kernel
theorem dX12_laws_62 : decode cX12_laws 62 = .ok (.lcmp, 1) := by decide +kernel
theorem dX12_laws_63 : decode cX12_laws 63 = .ok (.ifCond .ne 14, 3) := by decide +kernel
theorem dX12_laws_66 : decode cX12_laws 66 = .ok (.aload_n 0, 1) := by decide +kernel
theorem dX12_laws_67 : decode cX12_laws 67 = .ok (.invokevirtual 259, 3) := by decide +kernel
theorem dX12_laws_70 : decode cX12_laws 70 = .ok (.aload_n 0, 1) := by decide +kernel
theorem dX12_laws_71 : decode cX12_laws 71 = .ok (.invokevirtual 281, 3) := by decide +kernel
theorem dX12_laws_74 : decode cX12_laws 74 = .ok (.goto (-34), 3) := by decide +kernel
theorem dX12_laws_77 : decode cX12_laws 77 = .ok (.aload_n 0, 1) := by decide +kernel
theorem dX12_laws_78 : decode cX12_laws 78 = .ok (.getfield 255, 3) := by decide +kernel
theorem dX12_laws_81 : decode cX12_laws 81 = .ok (.ifCond .ne 15, 3) := by decide +kernel
theorem dX12_laws_84 : decode cX12_laws 84 = .ok (.aload_n 0, 1) := by decide +kernel
theorem dX12_laws_85 : decode cX12_laws 85 = .ok (.getfield 240, 3) := by decide +kernel
theorem dX12_laws_88 : decode cX12_laws 88 = .ok (.ifCond .eq 8, 3) := by decide +kernel
theorem dX12_laws_91 : decode cX12_laws 91 = .ok (.aload_n 0, 1) := by decide +kernel
theorem dX12_laws_92 : decode cX12_laws 92 = .ok (.iconst 0, 1) := by decide +kernel
theorem dX12_laws_93 : decode cX12_laws 93 = .ok (.invokevirtual 262, 3) := by decide +kernel
theorem dX12_laws_96 : decode cX12_laws 96 = .ok (.aload_n 0, 1) := by decide +kernel
theorem dX12_laws_97 : decode cX12_laws 97 = .ok (.iconst 0, 1) := by decide +kernel
theorem dX12_laws_98 : decode cX12_laws 98 = .ok (.putfield 217, 3) := by decide +kernel
theorem dX12_laws_101 : decode cX12_laws 101 = .ok (.aload_n 0, 1) := by decide +kernel
theorem dX12_laws_102 : decode cX12_laws 102 = .ok (.getfield 255, 3) := by decide +kernel
theorem dX12_laws_105 : decode cX12_laws 105 = .ok (.ifCond .eq 10, 3) := by decide +kernel
theorem dX12_laws_108 : decode cX12_laws 108 = .ok (.aload_n 0, 1) := by decide +kernel
theorem dX12_laws_109 : decode cX12_laws 109 = .ok (.bipush (-6), 2) := by decide +kernel
theorem dX12_laws_111 : decode cX12_laws 111 = .ok (.invokevirtual 154, 3) := by decide +kernel
theorem dX12_laws_114 : decode cX12_laws 114 = .ok (.ireturn, 1) := by decide +kernel
theorem dX12_laws_115 : decode cX12_laws 115 = .ok (.aload_n 0, 1) := by decide +kernel
theorem dX12_laws_116 : decode cX12_laws 116 = .ok (.aload_n 0, 1) := by decide +kernel
theorem dX12_laws_117 : decode cX12_laws 117 = .ok (.getfield 266, 3) := by decide +kernel
theorem dX12_laws_120 : decode cX12_laws 120 = .ok (.putfield 210, 3) := by decide +kernel
theorem dX12_laws_123 : decode cX12_laws 123 = .ok (.iconst 0, 1) := by decide +kernel
theorem dX12_laws_124 : decode cX12_laws 124 = .ok (.istore_n 1, 1) := by decide +kernel
theorem dX12_laws_125 : decode cX12_laws 125 = .ok (.iload_n 1, 1) := by decide +kernel
theorem dX12_laws_126 : decode cX12_laws 126 = .ok (.aload_n 0, 1) := by decide +kernel
theorem dX12_laws_127 : decode cX12_laws 127 = .ok (.getfield 210, 3) := by decide +kernel
theorem dX12_laws_130 : decode cX12_laws 130 = .ok (.if_icmp .ge 71, 3) := by decide +kernel
theorem dX12_laws_133 : decode cX12_laws 133 = .ok (.aload_n 0, 1) := by decide +kernel
theorem dX12_laws_134 : decode cX12_laws 134 = .ok (.getfield 79, 3) := by decide +kernel
theorem dX12_laws_137 : decode cX12_laws 137 = .ok (.iload_n 1, 1) := by decide +kernel
theorem dX12_laws_138 : decode cX12_laws 138 = .ok (.aload_n 0, 1) := by decide +kernel
theorem dX12_laws_139 : decode cX12_laws 139 = .ok (.getfield 91, 3) := by decide +kernel
theorem dX12_laws_142 : decode cX12_laws 142 = .ok (.iconst 4, 1) := by decide +kernel
theorem dX12_laws_143 : decode cX12_laws 143 = .ok (.iload_n 1, 1) := by decide +kernel
theorem dX12_laws_144 : decode cX12_laws 144 = .ok (.imul, 1) := by decide +kernel
theorem dX12_laws_145 : decode cX12_laws 145 = .ok (.iaload, 1) := by decide +kernel
theorem dX12_laws_146 : decode cX12_laws 146 = .ok (.iastore, 1) := by decide +kernel
theorem dX12_laws_147 : decode cX12_laws 147 = .ok (.aload_n 0, 1) := by decide +kernel
theorem dX12_laws_148 : decode cX12_laws 148 = .ok (.getfield 82, 3) := by decide +kernel
theorem dX12_laws_151 : decode cX12_laws 151 = .ok (.iload_n 1, 1) := by decide +kernel
theorem dX12_laws_152 : decode cX12_laws 152 = .ok (.aload_n 0, 1) := by decide +kernel
theorem dX12_laws_153 : decode cX12_laws 153 = .ok (.getfield 91, 3) := by decide +kernel
theorem dX12_laws_156 : decode cX12_laws 156 = .ok (.iconst 4, 1) := by decide +kernel
theorem dX12_laws_157 : decode cX12_laws 157 = .ok (.iload_n 1, 1) := by decide +kernel
theorem dX12_laws_158 : decode cX12_laws 158 = .ok (.imul, 1) := by decide +kernel
theorem dX12_laws_159 : decode cX12_laws 159 = .ok (.iconst 1, 1) := by decide +kernel
theorem dX12_laws_160 : decode cX12_laws 160 = .ok (.iadd, 1) := by decide +kernel
theorem dX12_laws_161 : decode cX12_laws 161 = .ok (.iaload, 1) := by decide +kernel
theorem dX12_laws_162 : decode cX12_laws 162 = .ok (.iastore, 1) := by decide +kernel
theorem dX12_laws_163 : decode cX12_laws 163 = .ok (.aload_n 0, 1) := by decide +kernel
theorem dX12_laws_164 : decode cX12_laws 164 = .ok (.getfield 85, 3) := by decide +kernel
theorem dX12_laws_167 : decode cX12_laws 167 = .ok (.iload_n 1, 1) := by decide +kernel
theorem dX12_laws_168 : decode cX12_laws 168 = .ok (.aload_n 0, 1) := by decide +kernel
theorem dX12_laws_169 : decode cX12_laws 169 = .ok (.getfield 91, 3) := by decide +kernel
theorem dX12_laws_172 : decode cX12_laws 172 = .ok (.iconst 4, 1) := by decide +kernel
theorem dX12_laws_173 : decode cX12_laws 173 = .ok (.iload_n 1, 1) := by decide +kernel
theorem dX12_laws_174 : decode cX12_laws 174 = .ok (.imul, 1) := by decide +kernel
theorem dX12_laws_175 : decode cX12_laws 175 = .ok (.iconst 2, 1) := by decide +kernel
theorem dX12_laws_176 : decode cX12_laws 176 = .ok (.iadd, 1) := by decide +kernel
theorem dX12_laws_177 : decode cX12_laws 177 = .ok (.iaload, 1) := by decide +kernel
theorem dX12_laws_178 : decode cX12_laws 178 = .ok (.iastore, 1) := by decide +kernel
theorem dX12_laws_179 : decode cX12_laws 179 = .ok (.aload_n 0, 1) := by decide +kernel
theorem dX12_laws_180 : decode cX12_laws 180 = .ok (.getfield 88, 3) := by decide +kernel
theorem dX12_laws_183 : decode cX12_laws 183 = .ok (.iload_n 1, 1) := by decide +kernel
theorem dX12_laws_184 : decode cX12_laws 184 = .ok (.aload_n 0, 1) := by decide +kernel
theorem dX12_laws_185 : decode cX12_laws 185 = .ok (.getfield 91, 3) := by decide +kernel
theorem dX12_laws_188 : decode cX12_laws 188 = .ok (.iconst 4, 1) := by decide +kernel
theorem dX12_laws_189 : decode cX12_laws 189 = .ok (.iload_n 1, 1) := by decide +kernel
theorem dX12_laws_190 : decode cX12_laws 190 = .ok (.imul, 1) := by decide +kernel
theorem dX12_laws_191 : decode cX12_laws 191 = .ok (.iconst 3, 1) := by decide +kernel
theorem dX12_laws_192 : decode cX12_laws 192 = .ok (.iadd, 1) := by decide +kernel
theorem dX12_laws_193 : decode cX12_laws 193 = .ok (.iaload, 1) := by decide +kernel
theorem dX12_laws_194 : decode cX12_laws 194 = .ok (.iastore, 1) := by decide +kernel
theorem dX12_laws_195 : decode cX12_laws 195 = .ok (.iinc 1 1, 3) := by decide +kernel
theorem dX12_laws_198 : decode cX12_laws 198 = .ok (.goto (-73), 3) := by decide +kernel
theorem dX12_laws_201 : decode cX12_laws 201 = .ok (.aload_n 0, 1) := by decide +kernel
theorem dX12_laws_202 : decode cX12_laws 202 = .ok (.aload_n 0, 1) := by decide +kernel
theorem dX12_laws_203 : decode cX12_laws 203 = .ok (.getfield 210, 3) := by decide +kernel
theorem dX12_laws_206 : decode cX12_laws 206 = .ok (.invokevirtual 154, 3) := by decide +kernel
theorem dX12_laws_209 : decode cX12_laws 209 = .ok (.ireturn, 1) := by decide +kernel
theorem dX12_fault_0 : decode cX12_fault 0 = .ok (.aload_n 0, 1) := by decide +kernel
theorem dX12_fault_1 : decode cX12_fault 1 = .ok (.iconst 0, 1) := by decide +kernel
theorem dX12_fault_2 : decode cX12_fault 2 = .ok (.putfield 131, 3) := by decide +kernel
theorem dX12_fault_5 : decode cX12_fault 5 = .ok (.aload_n 0, 1) := by decide +kernel
theorem dX12_fault_6 : decode cX12_fault 6 = .ok (.getfield 97, 3) := by decide +kernel
theorem dX12_fault_9 : decode cX12_fault 9 = .ok (.ireturn, 1) := by decide +kernel
theorem dX12_isOpen_0 : decode cX12_isOpen 0 = .ok (.iload_n 2, 1) := by decide +kernel
theorem dX12_isOpen_1 : decode cX12_isOpen 1 = .ok (.aload_n 0, 1) := by decide +kernel
theorem dX12_isOpen_2 : decode cX12_isOpen 2 = .ok (.getfield 52, 3) := by decide +kernel
theorem dX12_isOpen_5 : decode cX12_isOpen 5 = .ok (.iload_n 1, 1) := by decide +kernel
theorem dX12_isOpen_6 : decode cX12_isOpen 6 = .ok (.iaload, 1) := by decide +kernel
theorem dX12_isOpen_7 : decode cX12_isOpen 7 = .ok (.if_icmp .lt 17, 3) := by decide +kernel
theorem dX12_isOpen_10 : decode cX12_isOpen 10 = .ok (.iload_n 2, 1) := by decide +kernel
theorem dX12_isOpen_11 : decode cX12_isOpen 11 = .ok (.aload_n 0, 1) := by decide +kernel
theorem dX12_isOpen_12 : decode cX12_isOpen 12 = .ok (.getfield 55, 3) := by decide +kernel
theorem dX12_isOpen_15 : decode cX12_isOpen 15 = .ok (.iload_n 1, 1) := by decide +kernel
theorem dX12_isOpen_16 : decode cX12_isOpen 16 = .ok (.iaload, 1) := by decide +kernel
theorem dX12_isOpen_17 : decode cX12_isOpen 17 = .ok (.if_icmp .ge 7, 3) := by decide +kernel
theorem dX12_isOpen_20 : decode cX12_isOpen 20 = .ok (.iconst 1, 1) := by decide +kernel
theorem dX12_isOpen_21 : decode cX12_isOpen 21 = .ok (.goto 4, 3) := by decide +kernel
theorem dX12_isOpen_24 : decode cX12_isOpen 24 = .ok (.iconst 0, 1) := by decide +kernel
theorem dX12_isOpen_25 : decode cX12_isOpen 25 = .ok (.ireturn, 1) := by decide +kernel
theorem dX12_livesIn_0 : decode cX12_livesIn 0 = .ok (.aload_n 0, 1) := by decide +kernel
theorem dX12_livesIn_1 : decode cX12_livesIn 1 = .ok (.iload_n 2, 1) := by decide +kernel
theorem dX12_livesIn_2 : decode cX12_livesIn 2 = .ok (.iconst 4, 1) := by decide +kernel
theorem dX12_livesIn_3 : decode cX12_livesIn 3 = .ok (.invokevirtual 194, 3) := by decide +kernel
theorem dX12_livesIn_6 : decode cX12_livesIn 6 = .ok (.istore 4, 2) := by decide +kernel
theorem dX12_livesIn_8 : decode cX12_livesIn 8 = .ok (.aload_n 0, 1) := by decide +kernel
theorem dX12_livesIn_9 : decode cX12_livesIn 9 = .ok (.aload_n 0, 1) := by decide +kernel
theorem dX12_livesIn_10 : decode cX12_livesIn 10 = .ok (.getfield 49, 3) := by decide +kernel
theorem dX12_livesIn_13 : decode cX12_livesIn 13 = .ok (.iload_n 1, 1) := by decide +kernel
theorem dX12_livesIn_14 : decode cX12_livesIn 14 = .ok (.iaload, 1) := by decide +kernel
theorem dX12_livesIn_15 : decode cX12_livesIn 15 = .ok (.iload_n 3, 1) := by decide +kernel
theorem dX12_livesIn_16 : decode cX12_livesIn 16 = .ok (.invokevirtual 180, 3) := by decide +kernel
theorem dX12_livesIn_19 : decode cX12_livesIn 19 = .ok (.istore 5, 2) := by decide +kernel
theorem dX12_livesIn_21 : decode cX12_livesIn 21 = .ok (.aload_n 0, 1) := by decide +kernel
theorem dX12_livesIn_22 : decode cX12_livesIn 22 = .ok (.iload_n 1, 1) := by decide +kernel
theorem dX12_livesIn_23 : decode cX12_livesIn 23 = .ok (.iload_n 2, 1) := by decide +kernel
theorem dX12_livesIn_24 : decode cX12_livesIn 24 = .ok (.invokevirtual 286, 3) := by decide +kernel
theorem dX12_livesIn_27 : decode cX12_livesIn 27 = .ok (.ifCond .eq 43, 3) := by decide +kernel
theorem dX12_livesIn_30 : decode cX12_livesIn 30 = .ok (.iload 4, 2) := by decide +kernel
theorem dX12_livesIn_32 : decode cX12_livesIn 32 = .ok (.iconst (-1), 1) := by decide +kernel
theorem dX12_livesIn_33 : decode cX12_livesIn 33 = .ok (.if_icmp .eq 14, 3) := by decide +kernel
theorem dX12_livesIn_36 : decode cX12_livesIn 36 = .ok (.aload_n 0, 1) := by decide +kernel
theorem dX12_livesIn_37 : decode cX12_livesIn 37 = .ok (.getfield 43, 3) := by decide +kernel
theorem dX12_livesIn_40 : decode cX12_livesIn 40 = .ok (.iload_n 1, 1) := by decide +kernel
theorem dX12_livesIn_41 : decode cX12_livesIn 41 = .ok (.iaload, 1) := by decide +kernel
theorem dX12_livesIn_42 : decode cX12_livesIn 42 = .ok (.iload 4, 2) := by decide +kernel
theorem dX12_livesIn_44 : decode cX12_livesIn 44 = .ok (.if_icmp .gt 26, 3) := by decide +kernel
theorem dX12_livesIn_47 : decode cX12_livesIn 47 = .ok (.iload 5, 2) := by decide +kernel
theorem dX12_livesIn_49 : decode cX12_livesIn 49 = .ok (.iconst (-1), 1) := by decide +kernel
theorem dX12_livesIn_50 : decode cX12_livesIn 50 = .ok (.if_icmp .eq 16, 3) := by decide +kernel
theorem dX12_livesIn_53 : decode cX12_livesIn 53 = .ok (.iload_n 2, 1) := by decide +kernel
theorem dX12_livesIn_54 : decode cX12_livesIn 54 = .ok (.iload 5, 2) := by decide +kernel
theorem dX12_livesIn_56 : decode cX12_livesIn 56 = .ok (.aload_n 0, 1) := by decide +kernel
theorem dX12_livesIn_57 : decode cX12_livesIn 57 = .ok (.iload_n 2, 1) := by decide +kernel
theorem dX12_livesIn_58 : decode cX12_livesIn 58 = .ok (.iconst 1, 1) := by decide +kernel
theorem dX12_livesIn_59 : decode cX12_livesIn 59 = .ok (.invokevirtual 194, 3) := by decide +kernel
theorem dX12_livesIn_62 : decode cX12_livesIn 62 = .ok (.iadd, 1) := by decide +kernel
theorem dX12_livesIn_63 : decode cX12_livesIn 63 = .ok (.if_icmp .gt 7, 3) := by decide +kernel
theorem dX12_livesIn_66 : decode cX12_livesIn 66 = .ok (.iconst 1, 1) := by decide +kernel
theorem dX12_livesIn_67 : decode cX12_livesIn 67 = .ok (.goto 4, 3) := by decide +kernel
theorem dX12_livesIn_70 : decode cX12_livesIn 70 = .ok (.iconst 0, 1) := by decide +kernel
theorem dX12_livesIn_71 : decode cX12_livesIn 71 = .ok (.ireturn, 1) := by decide +kernel
theorem dX12_isDown_0 : decode cX12_isDown 0 = .ok (.iconst 0, 1) := by decide +kernel
theorem dX12_isDown_1 : decode cX12_isDown 1 = .ok (.istore_n 3, 1) := by decide +kernel
theorem dX12_isDown_2 : decode cX12_isDown 2 = .ok (.iconst 0, 1) := by decide +kernel
theorem dX12_isDown_3 : decode cX12_isDown 3 = .ok (.istore 4, 2) := by decide +kernel
theorem dX12_isDown_5 : decode cX12_isDown 5 = .ok (.iload 4, 2) := by decide +kernel
theorem dX12_isDown_7 : decode cX12_isDown 7 = .ok (.aload_n 0, 1) := by decide +kernel
theorem dX12_isDown_8 : decode cX12_isDown 8 = .ok (.getfield 205, 3) := by decide +kernel
theorem dX12_isDown_11 : decode cX12_isDown 11 = .ok (.if_icmp .ge 54, 3) := by decide +kernel
theorem dX12_isDown_14 : decode cX12_isDown 14 = .ok (.iload_n 3, 1) := by decide +kernel
theorem dX12_isDown_15 : decode cX12_isDown 15 = .ok (.ifCond .ne 38, 3) := by decide +kernel
theorem dX12_isDown_18 : decode cX12_isDown 18 = .ok (.aload_n 0, 1) := by decide +kernel
theorem dX12_isDown_19 : decode cX12_isDown 19 = .ok (.getfield 70, 3) := by decide +kernel
theorem dX12_isDown_22 : decode cX12_isDown 22 = .ok (.iload 4, 2) := by decide +kernel
theorem dX12_isDown_24 : decode cX12_isDown 24 = .ok (.iaload, 1) := by decide +kernel
theorem dX12_isDown_25 : decode cX12_isDown 25 = .ok (.iload_n 1, 1) := by decide +kernel
theorem dX12_isDown_26 : decode cX12_isDown 26 = .ok (.if_icmp .ne 31, 3) := by decide +kernel
theorem dX12_isDown_29 : decode cX12_isDown 29 = .ok (.iload_n 2, 1) := by decide +kernel
theorem dX12_isDown_30 : decode cX12_isDown 30 = .ok (.i2l, 1) := by decide +kernel
theorem dX12_isDown_31 : decode cX12_isDown 31 = .ok (.aload_n 0, 1) := by decide +kernel
theorem dX12_isDown_32 : decode cX12_isDown 32 = .ok (.getfield 73, 3) := by decide +kernel
theorem dX12_isDown_35 : decode cX12_isDown 35 = .ok (.iload 4, 2) := by decide +kernel
theorem dX12_isDown_37 : decode cX12_isDown 37 = .ok (.iaload, 1) := by decide +kernel
theorem dX12_isDown_38 : decode cX12_isDown 38 = .ok (.i2l, 1) := by decide +kernel
theorem dX12_isDown_39 : decode cX12_isDown 39 = .ok (.aload_n 0, 1) := by decide +kernel
theorem dX12_isDown_40 : decode cX12_isDown 40 = .ok (.getfield 76, 3) := by decide +kernel
theorem dX12_isDown_43 : decode cX12_isDown 43 = .ok (.iload 4, 2) := by decide +kernel
theorem dX12_isDown_45 : decode cX12_isDown 45 = .ok (.iaload, 1) := by decide +kernel
theorem dX12_isDown_46 : decode cX12_isDown 46 = .ok (.i2l, 1) := by decide +kernel
theorem dX12_isDown_47 : decode cX12_isDown 47 = .ok (.invokestatic 139, 3) := by decide +kernel
theorem dX12_isDown_50 : decode cX12_isDown 50 = .ok (.ifCond .eq 7, 3) := by decide +kernel
theorem dX12_isDown_53 : decode cX12_isDown 53 = .ok (.iconst 1, 1) := by decide +kernel
theorem dX12_isDown_54 : decode cX12_isDown 54 = .ok (.goto 4, 3) := by decide +kernel
theorem dX12_isDown_57 : decode cX12_isDown 57 = .ok (.iconst 0, 1) := by decide +kernel
theorem dX12_isDown_58 : decode cX12_isDown 58 = .ok (.istore_n 3, 1) := by decide +kernel
theorem dX12_isDown_59 : decode cX12_isDown 59 = .ok (.iinc 4 1, 3) := by decide +kernel
theorem dX12_isDown_62 : decode cX12_isDown 62 = .ok (.goto (-57), 3) := by decide +kernel
theorem dX12_isDown_65 : decode cX12_isDown 65 = .ok (.iload_n 3, 1) := by decide +kernel
theorem dX12_isDown_66 : decode cX12_isDown 66 = .ok (.ireturn, 1) := by decide +kernel
theorem dX12_yieldOf_0 : decode cX12_yieldOf 0 = .ok (.aload_n 0, 1) := by decide +kernel
theorem dX12_yieldOf_1 : decode cX12_yieldOf 1 = .ok (.getfield 7, 3) := by decide +kernel
theorem dX12_yieldOf_4 : decode cX12_yieldOf 4 = .ok (.iload_n 1, 1) := by decide +kernel
theorem dX12_yieldOf_5 : decode cX12_yieldOf 5 = .ok (.iaload, 1) := by decide +kernel
theorem dX12_yieldOf_6 : decode cX12_yieldOf 6 = .ok (.istore_n 3, 1) := by decide +kernel
theorem dX12_yieldOf_7 : decode cX12_yieldOf 7 = .ok (.iconst 0, 1) := by decide +kernel
theorem dX12_yieldOf_8 : decode cX12_yieldOf 8 = .ok (.istore 4, 2) := by decide +kernel
theorem dX12_yieldOf_10 : decode cX12_yieldOf 10 = .ok (.iload 4, 2) := by decide +kernel
theorem dX12_yieldOf_12 : decode cX12_yieldOf 12 = .ok (.aload_n 0, 1) := by decide +kernel
theorem dX12_yieldOf_13 : decode cX12_yieldOf 13 = .ok (.getfield 165, 3) := by decide +kernel
theorem dX12_yieldOf_16 : decode cX12_yieldOf 16 = .ok (.if_icmp .ge 43, 3) := by decide +kernel
theorem dX12_yieldOf_19 : decode cX12_yieldOf 19 = .ok (.aload_n 0, 1) := by decide +kernel
theorem dX12_yieldOf_20 : decode cX12_yieldOf 20 = .ok (.getfield 13, 3) := by decide +kernel
theorem dX12_yieldOf_23 : decode cX12_yieldOf 23 = .ok (.iload 4, 2) := by decide +kernel
theorem dX12_yieldOf_25 : decode cX12_yieldOf 25 = .ok (.iaload, 1) := by decide +kernel
theorem dX12_yieldOf_26 : decode cX12_yieldOf 26 = .ok (.iload_n 1, 1) := by decide +kernel
theorem dX12_yieldOf_27 : decode cX12_yieldOf 27 = .ok (.if_icmp .ne 24, 3) := by decide +kernel
theorem dX12_yieldOf_30 : decode cX12_yieldOf 30 = .ok (.aload_n 0, 1) := by decide +kernel
theorem dX12_yieldOf_31 : decode cX12_yieldOf 31 = .ok (.getfield 16, 3) := by decide +kernel
theorem dX12_yieldOf_34 : decode cX12_yieldOf 34 = .ok (.iload 4, 2) := by decide +kernel
theorem dX12_yieldOf_36 : decode cX12_yieldOf 36 = .ok (.iaload, 1) := by decide +kernel
theorem dX12_yieldOf_37 : decode cX12_yieldOf 37 = .ok (.iload_n 2, 1) := by decide +kernel
theorem dX12_yieldOf_38 : decode cX12_yieldOf 38 = .ok (.if_icmp .ne 13, 3) := by decide +kernel
theorem dX12_yieldOf_41 : decode cX12_yieldOf 41 = .ok (.aload_n 0, 1) := by decide +kernel
theorem dX12_yieldOf_42 : decode cX12_yieldOf 42 = .ok (.getfield 19, 3) := by decide +kernel
theorem dX12_yieldOf_45 : decode cX12_yieldOf 45 = .ok (.iload 4, 2) := by decide +kernel
theorem dX12_yieldOf_47 : decode cX12_yieldOf 47 = .ok (.iaload, 1) := by decide +kernel
theorem dX12_yieldOf_48 : decode cX12_yieldOf 48 = .ok (.goto 4, 3) := by decide +kernel
theorem dX12_yieldOf_51 : decode cX12_yieldOf 51 = .ok (.iload_n 3, 1) := by decide +kernel
theorem dX12_yieldOf_52 : decode cX12_yieldOf 52 = .ok (.istore_n 3, 1) := by decide +kernel
theorem dX12_yieldOf_53 : decode cX12_yieldOf 53 = .ok (.iinc 4 1, 3) := by decide +kernel
theorem dX12_yieldOf_56 : decode cX12_yieldOf 56 = .ok (.goto (-46), 3) := by decide +kernel
theorem dX12_yieldOf_59 : decode cX12_yieldOf 59 = .ok (.iload_n 3, 1) := by decide +kernel
theorem dX12_yieldOf_60 : decode cX12_yieldOf 60 = .ok (.ireturn, 1) := by decide +kernel
theorem dX12_deal_0 : decode cX12_deal 0 = .ok (.lconst 0, 1) := by decide +kernel
theorem dX12_deal_1 : decode cX12_deal 1 = .ok (.lstore_n 2, 1) := by decide +kernel
theorem dX12_deal_2 : decode cX12_deal 2 = .ok (.iconst 0, 1) := by decide +kernel
theorem dX12_deal_3 : decode cX12_deal 3 = .ok (.istore 4, 2) := by decide +kernel
theorem dX12_deal_5 : decode cX12_deal 5 = .ok (.iload 4, 2) := by decide +kernel
theorem dX12_deal_7 : decode cX12_deal 7 = .ok (.aload_n 0, 1) := by decide +kernel
theorem dX12_deal_8 : decode cX12_deal 8 = .ok (.getfield 289, 3) := by decide +kernel
theorem dX12_deal_11 : decode cX12_deal 11 = .ok (.if_icmp .ge 20, 3) := by decide +kernel
theorem dX12_deal_14 : decode cX12_deal 14 = .ok (.lload_n 2, 1) := by decide +kernel
theorem dX12_deal_15 : decode cX12_deal 15 = .ok (.aload_n 0, 1) := by decide +kernel
theorem dX12_deal_16 : decode cX12_deal 16 = .ok (.getfield 125, 3) := by decide +kernel
theorem dX12_deal_19 : decode cX12_deal 19 = .ok (.iload 4, 2) := by decide +kernel
theorem dX12_deal_21 : decode cX12_deal 21 = .ok (.iaload, 1) := by decide +kernel
theorem dX12_deal_22 : decode cX12_deal 22 = .ok (.i2l, 1) := by decide +kernel
theorem dX12_deal_23 : decode cX12_deal 23 = .ok (.ladd, 1) := by decide +kernel
theorem dX12_deal_24 : decode cX12_deal 24 = .ok (.lstore_n 2, 1) := by decide +kernel
theorem dX12_deal_25 : decode cX12_deal 25 = .ok (.iinc 4 1, 3) := by decide +kernel
theorem dX12_deal_28 : decode cX12_deal 28 = .ok (.goto (-23), 3) := by decide +kernel
theorem dX12_deal_31 : decode cX12_deal 31 = .ok (.iconst 0, 1) := by decide +kernel
theorem dX12_deal_32 : decode cX12_deal 32 = .ok (.istore 4, 2) := by decide +kernel
theorem dX12_deal_34 : decode cX12_deal 34 = .ok (.iconst 0, 1) := by decide +kernel
theorem dX12_deal_35 : decode cX12_deal 35 = .ok (.istore 5, 2) := by decide +kernel
theorem dX12_deal_37 : decode cX12_deal 37 = .ok (.iload 5, 2) := by decide +kernel
theorem dX12_deal_39 : decode cX12_deal 39 = .ok (.aload_n 0, 1) := by decide +kernel
theorem dX12_deal_40 : decode cX12_deal 40 = .ok (.getfield 289, 3) := by decide +kernel
theorem dX12_deal_43 : decode cX12_deal 43 = .ok (.if_icmp .ge 59, 3) := by decide +kernel
theorem dX12_deal_46 : decode cX12_deal 46 = .ok (.aload_n 0, 1) := by decide +kernel
theorem dX12_deal_47 : decode cX12_deal 47 = .ok (.getfield 128, 3) := by decide +kernel
theorem dX12_deal_50 : decode cX12_deal 50 = .ok (.iload 5, 2) := by decide +kernel
theorem dX12_deal_52 : decode cX12_deal 52 = .ok (.lload_n 2, 1) := by decide +kernel
theorem dX12_deal_53 : decode cX12_deal 53 = .ok (.iload_n 1, 1) := by decide +kernel
theorem dX12_deal_54 : decode cX12_deal 54 = .ok (.i2l, 1) := by decide +kernel
theorem dX12_deal_55 : decode cX12_deal 55 = .ok (.lcmp, 1) := by decide +kernel
theorem dX12_deal_56 : decode cX12_deal 56 = .ok (.ifCond .gt 13, 3) := by decide +kernel
theorem dX12_deal_59 : decode cX12_deal 59 = .ok (.aload_n 0, 1) := by decide +kernel
theorem dX12_deal_60 : decode cX12_deal 60 = .ok (.getfield 125, 3) := by decide +kernel
theorem dX12_deal_63 : decode cX12_deal 63 = .ok (.iload 5, 2) := by decide +kernel
theorem dX12_deal_65 : decode cX12_deal 65 = .ok (.iaload, 1) := by decide +kernel
theorem dX12_deal_66 : decode cX12_deal 66 = .ok (.goto 17, 3) := by decide +kernel
theorem dX12_deal_69 : decode cX12_deal 69 = .ok (.iload_n 1, 1) := by decide +kernel
theorem dX12_deal_70 : decode cX12_deal 70 = .ok (.i2l, 1) := by decide +kernel
theorem dX12_deal_71 : decode cX12_deal 71 = .ok (.aload_n 0, 1) := by decide +kernel
theorem dX12_deal_72 : decode cX12_deal 72 = .ok (.getfield 125, 3) := by decide +kernel
theorem dX12_deal_75 : decode cX12_deal 75 = .ok (.iload 5, 2) := by decide +kernel
theorem dX12_deal_77 : decode cX12_deal 77 = .ok (.iaload, 1) := by decide +kernel
theorem dX12_deal_78 : decode cX12_deal 78 = .ok (.i2l, 1) := by decide +kernel
theorem dX12_deal_79 : decode cX12_deal 79 = .ok (.lmul, 1) := by decide +kernel
theorem dX12_deal_80 : decode cX12_deal 80 = .ok (.lload_n 2, 1) := by decide +kernel
theorem dX12_deal_81 : decode cX12_deal 81 = .ok (.ldiv, 1) := by decide +kernel
theorem dX12_deal_82 : decode cX12_deal 82 = .ok (.l2i, 1) := by decide +kernel
theorem dX12_deal_83 : decode cX12_deal 83 = .ok (.iastore, 1) := by decide +kernel
theorem dX12_deal_84 : decode cX12_deal 84 = .ok (.iload 4, 2) := by decide +kernel
theorem dX12_deal_86 : decode cX12_deal 86 = .ok (.aload_n 0, 1) := by decide +kernel
theorem dX12_deal_87 : decode cX12_deal 87 = .ok (.getfield 128, 3) := by decide +kernel
theorem dX12_deal_90 : decode cX12_deal 90 = .ok (.iload 5, 2) := by decide +kernel
theorem dX12_deal_92 : decode cX12_deal 92 = .ok (.iaload, 1) := by decide +kernel
theorem dX12_deal_93 : decode cX12_deal 93 = .ok (.iadd, 1) := by decide +kernel
theorem dX12_deal_94 : decode cX12_deal 94 = .ok (.istore 4, 2) := by decide +kernel
theorem dX12_deal_96 : decode cX12_deal 96 = .ok (.iinc 5 1, 3) := by decide +kernel
theorem dX12_deal_99 : decode cX12_deal 99 = .ok (.goto (-62), 3) := by decide +kernel
theorem dX12_deal_102 : decode cX12_deal 102 = .ok (.iconst 0, 1) := by decide +kernel
theorem dX12_deal_103 : decode cX12_deal 103 = .ok (.istore 5, 2) := by decide +kernel
theorem dX12_deal_105 : decode cX12_deal 105 = .ok (.iload 5, 2) := by decide +kernel
theorem dX12_deal_107 : decode cX12_deal 107 = .ok (.aload_n 0, 1) := by decide +kernel
theorem dX12_deal_108 : decode cX12_deal 108 = .ok (.getfield 289, 3) := by decide +kernel
theorem dX12_deal_111 : decode cX12_deal 111 = .ok (.if_icmp .ge 36, 3) := by decide +kernel
theorem dX12_deal_114 : decode cX12_deal 114 = .ok (.lload_n 2, 1) := by decide +kernel
theorem dX12_deal_115 : decode cX12_deal 115 = .ok (.iload_n 1, 1) := by decide +kernel
theorem dX12_deal_116 : decode cX12_deal 116 = .ok (.i2l, 1) := by decide +kernel
theorem dX12_deal_117 : decode cX12_deal 117 = .ok (.lcmp, 1) := by decide +kernel
theorem dX12_deal_118 : decode cX12_deal 118 = .ok (.ifCond .le 29, 3) := by decide +kernel
theorem dX12_deal_121 : decode cX12_deal 121 = .ok (.iload 4, 2) := by decide +kernel
theorem dX12_deal_123 : decode cX12_deal 123 = .ok (.iload_n 1, 1) := by decide +kernel
theorem dX12_deal_124 : decode cX12_deal 124 = .ok (.if_icmp .ge 23, 3) := by decide +kernel
theorem dX12_deal_127 : decode cX12_deal 127 = .ok (.aload_n 0, 1) := by decide +kernel
theorem dX12_deal_128 : decode cX12_deal 128 = .ok (.getfield 128, 3) := by decide +kernel
theorem dX12_deal_131 : decode cX12_deal 131 = .ok (.iload 5, 2) := by decide +kernel
theorem dX12_deal_133 : decode cX12_deal 133 = .ok (.dup2, 1) := by decide +kernel
theorem dX12_deal_134 : decode cX12_deal 134 = .ok (.iaload, 1) := by decide +kernel
theorem dX12_deal_135 : decode cX12_deal 135 = .ok (.iconst 1, 1) := by decide +kernel
theorem dX12_deal_136 : decode cX12_deal 136 = .ok (.iadd, 1) := by decide +kernel
theorem dX12_deal_137 : decode cX12_deal 137 = .ok (.iastore, 1) := by decide +kernel
theorem dX12_deal_138 : decode cX12_deal 138 = .ok (.iinc 4 1, 3) := by decide +kernel
theorem dX12_deal_141 : decode cX12_deal 141 = .ok (.iinc 5 1, 3) := by decide +kernel
theorem dX12_deal_144 : decode cX12_deal 144 = .ok (.goto (-39), 3) := by decide +kernel
theorem dX12_deal_147 : decode cX12_deal 147 = .ok (.iload 4, 2) := by decide +kernel
theorem dX12_deal_149 : decode cX12_deal 149 = .ok (.ireturn, 1) := by decide +kernel
theorem dX12_flow_0 : decode cX12_flow 0 = .ok (.iconst 0, 1) := by decide +kernel
theorem dX12_flow_1 : decode cX12_flow 1 = .ok (.istore_n 3, 1) := by decide +kernel
theorem dX12_flow_2 : decode cX12_flow 2 = .ok (.iload_n 3, 1) := by decide +kernel
theorem dX12_flow_3 : decode cX12_flow 3 = .ok (.aload_n 0, 1) := by decide +kernel
theorem dX12_flow_4 : decode cX12_flow 4 = .ok (.getfield 143, 3) := by decide +kernel
theorem dX12_flow_7 : decode cX12_flow 7 = .ok (.if_icmp .ge 16, 3) := by decide +kernel
theorem dX12_flow_10 : decode cX12_flow 10 = .ok (.aload_n 0, 1) := by decide +kernel
theorem dX12_flow_11 : decode cX12_flow 11 = .ok (.getfield 104, 3) := by decide +kernel
theorem dX12_flow_14 : decode cX12_flow 14 = .ok (.iload_n 3, 1) := by decide +kernel
theorem dX12_flow_15 : decode cX12_flow 15 = .ok (.iconst 0, 1) := by decide +kernel
theorem dX12_flow_16 : decode cX12_flow 16 = .ok (.iastore, 1) := by decide +kernel
theorem dX12_flow_17 : decode cX12_flow 17 = .ok (.iinc 3 1, 3) := by decide +kernel
theorem dX12_flow_20 : decode cX12_flow 20 = .ok (.goto (-18), 3) := by decide +kernel
theorem dX12_flow_23 : decode cX12_flow 23 = .ok (.iconst 0, 1) := by decide +kernel
theorem dX12_flow_24 : decode cX12_flow 24 = .ok (.istore_n 3, 1) := by decide +kernel
theorem dX12_flow_25 : decode cX12_flow 25 = .ok (.iload_n 3, 1) := by decide +kernel
theorem dX12_flow_26 : decode cX12_flow 26 = .ok (.aload_n 0, 1) := by decide +kernel
theorem dX12_flow_27 : decode cX12_flow 27 = .ok (.getfield 158, 3) := by decide +kernel
theorem dX12_flow_30 : decode cX12_flow 30 = .ok (.if_icmp .ge 99, 3) := by decide +kernel
theorem dX12_flow_33 : decode cX12_flow 33 = .ok (.aload_n 0, 1) := by decide +kernel
theorem dX12_flow_34 : decode cX12_flow 34 = .ok (.iload_n 3, 1) := by decide +kernel
theorem dX12_flow_35 : decode cX12_flow 35 = .ok (.iload_n 1, 1) := by decide +kernel
theorem dX12_flow_36 : decode cX12_flow 36 = .ok (.invokevirtual 292, 3) := by decide +kernel
theorem dX12_flow_39 : decode cX12_flow 39 = .ok (.istore 4, 2) := by decide +kernel
theorem dX12_flow_41 : decode cX12_flow 41 = .ok (.iconst 0, 1) := by decide +kernel
theorem dX12_flow_42 : decode cX12_flow 42 = .ok (.istore 5, 2) := by decide +kernel
theorem dX12_flow_44 : decode cX12_flow 44 = .ok (.iload 5, 2) := by decide +kernel
theorem dX12_flow_46 : decode cX12_flow 46 = .ok (.aload_n 0, 1) := by decide +kernel
theorem dX12_flow_47 : decode cX12_flow 47 = .ok (.getfield 143, 3) := by decide +kernel
theorem dX12_flow_50 : decode cX12_flow 50 = .ok (.if_icmp .ge 73, 3) := by decide +kernel
theorem dX12_flow_53 : decode cX12_flow 53 = .ok (.aload_n 0, 1) := by decide +kernel
theorem dX12_flow_54 : decode cX12_flow 54 = .ok (.getfield 22, 3) := by decide +kernel
theorem dX12_flow_57 : decode cX12_flow 57 = .ok (.iload 5, 2) := by decide +kernel
theorem dX12_flow_59 : decode cX12_flow 59 = .ok (.iaload, 1) := by decide +kernel
theorem dX12_flow_60 : decode cX12_flow 60 = .ok (.iload_n 3, 1) := by decide +kernel
theorem dX12_flow_61 : decode cX12_flow 61 = .ok (.if_icmp .ne 56, 3) := by decide +kernel
theorem dX12_flow_64 : decode cX12_flow 64 = .ok (.aload_n 0, 1) := by decide +kernel
theorem dX12_flow_65 : decode cX12_flow 65 = .ok (.iload 5, 2) := by decide +kernel
theorem dX12_flow_67 : decode cX12_flow 67 = .ok (.iload_n 1, 1) := by decide +kernel
theorem dX12_flow_68 : decode cX12_flow 68 = .ok (.invokevirtual 295, 3) := by decide +kernel
theorem dX12_flow_71 : decode cX12_flow 71 = .ok (.ifCond .ne 46, 3) := by decide +kernel
theorem dX12_flow_74 : decode cX12_flow 74 = .ok (.aload_n 0, 1) := by decide +kernel
theorem dX12_flow_75 : decode cX12_flow 75 = .ok (.getfield 104, 3) := by decide +kernel
theorem dX12_flow_78 : decode cX12_flow 78 = .ok (.iload 5, 2) := by decide +kernel
theorem dX12_flow_80 : decode cX12_flow 80 = .ok (.aload_n 0, 1) := by decide +kernel
theorem dX12_flow_81 : decode cX12_flow 81 = .ok (.getfield 25, 3) := by decide +kernel
theorem dX12_flow_84 : decode cX12_flow 84 = .ok (.iload 5, 2) := by decide +kernel
theorem dX12_flow_86 : decode cX12_flow 86 = .ok (.iaload, 1) := by decide +kernel
theorem dX12_flow_87 : decode cX12_flow 87 = .ok (.iload 4, 2) := by decide +kernel
theorem dX12_flow_89 : decode cX12_flow 89 = .ok (.if_icmp .ge 13, 3) := by decide +kernel
theorem dX12_flow_92 : decode cX12_flow 92 = .ok (.aload_n 0, 1) := by decide +kernel
theorem dX12_flow_93 : decode cX12_flow 93 = .ok (.getfield 25, 3) := by decide +kernel
theorem dX12_flow_96 : decode cX12_flow 96 = .ok (.iload 5, 2) := by decide +kernel
theorem dX12_flow_98 : decode cX12_flow 98 = .ok (.iaload, 1) := by decide +kernel
theorem dX12_flow_99 : decode cX12_flow 99 = .ok (.goto 5, 3) := by decide +kernel
theorem dX12_flow_102 : decode cX12_flow 102 = .ok (.iload 4, 2) := by decide +kernel
theorem dX12_flow_104 : decode cX12_flow 104 = .ok (.iastore, 1) := by decide +kernel
theorem dX12_flow_105 : decode cX12_flow 105 = .ok (.iload 4, 2) := by decide +kernel
theorem dX12_flow_107 : decode cX12_flow 107 = .ok (.aload_n 0, 1) := by decide +kernel
theorem dX12_flow_108 : decode cX12_flow 108 = .ok (.getfield 104, 3) := by decide +kernel
theorem dX12_flow_111 : decode cX12_flow 111 = .ok (.iload 5, 2) := by decide +kernel
theorem dX12_flow_113 : decode cX12_flow 113 = .ok (.iaload, 1) := by decide +kernel
theorem dX12_flow_114 : decode cX12_flow 114 = .ok (.isub, 1) := by decide +kernel
theorem dX12_flow_115 : decode cX12_flow 115 = .ok (.istore 4, 2) := by decide +kernel
theorem dX12_flow_117 : decode cX12_flow 117 = .ok (.iinc 5 1, 3) := by decide +kernel
theorem dX12_flow_120 : decode cX12_flow 120 = .ok (.goto (-76), 3) := by decide +kernel
theorem dX12_flow_123 : decode cX12_flow 123 = .ok (.iinc 3 1, 3) := by decide +kernel
theorem dX12_flow_126 : decode cX12_flow 126 = .ok (.goto (-101), 3) := by decide +kernel
theorem dX12_flow_129 : decode cX12_flow 129 = .ok (.iconst 0, 1) := by decide +kernel
theorem dX12_flow_130 : decode cX12_flow 130 = .ok (.istore_n 3, 1) := by decide +kernel
theorem dX12_flow_131 : decode cX12_flow 131 = .ok (.iload_n 3, 1) := by decide +kernel
theorem dX12_flow_132 : decode cX12_flow 132 = .ok (.aload_n 0, 1) := by decide +kernel
theorem dX12_flow_133 : decode cX12_flow 133 = .ok (.getfield 149, 3) := by decide +kernel
theorem dX12_flow_136 : decode cX12_flow 136 = .ok (.if_icmp .ge 16, 3) := by decide +kernel
theorem dX12_flow_139 : decode cX12_flow 139 = .ok (.aload_n 0, 1) := by decide +kernel
theorem dX12_flow_140 : decode cX12_flow 140 = .ok (.getfield 119, 3) := by decide +kernel
theorem dX12_flow_143 : decode cX12_flow 143 = .ok (.iload_n 3, 1) := by decide +kernel
theorem dX12_flow_144 : decode cX12_flow 144 = .ok (.iconst 0, 1) := by decide +kernel
theorem dX12_flow_145 : decode cX12_flow 145 = .ok (.iastore, 1) := by decide +kernel
theorem dX12_flow_146 : decode cX12_flow 146 = .ok (.iinc 3 1, 3) := by decide +kernel
theorem dX12_flow_149 : decode cX12_flow 149 = .ok (.goto (-18), 3) := by decide +kernel
theorem dX12_flow_152 : decode cX12_flow 152 = .ok (.iconst 0, 1) := by decide +kernel
theorem dX12_flow_153 : decode cX12_flow 153 = .ok (.istore_n 3, 1) := by decide +kernel
theorem dX12_flow_154 : decode cX12_flow 154 = .ok (.iload_n 3, 1) := by decide +kernel
theorem dX12_flow_155 : decode cX12_flow 155 = .ok (.aload_n 0, 1) := by decide +kernel
theorem dX12_flow_156 : decode cX12_flow 156 = .ok (.getfield 143, 3) := by decide +kernel
theorem dX12_flow_159 : decode cX12_flow 159 = .ok (.if_icmp .ge 16, 3) := by decide +kernel
theorem dX12_flow_162 : decode cX12_flow 162 = .ok (.aload_n 0, 1) := by decide +kernel
theorem dX12_flow_163 : decode cX12_flow 163 = .ok (.iload_n 3, 1) := by decide +kernel
theorem dX12_flow_164 : decode cX12_flow 164 = .ok (.iload_n 1, 1) := by decide +kernel
theorem dX12_flow_165 : decode cX12_flow 165 = .ok (.iload_n 2, 1) := by decide +kernel
theorem dX12_flow_166 : decode cX12_flow 166 = .ok (.invokevirtual 298, 3) := by decide +kernel
theorem dX12_flow_169 : decode cX12_flow 169 = .ok (.iinc 3 1, 3) := by decide +kernel
theorem dX12_flow_172 : decode cX12_flow 172 = .ok (.goto (-18), 3) := by decide +kernel
theorem dX12_flow_175 : decode cX12_flow 175 = .ok (.return_, 1) := by decide +kernel
theorem dX12_flowAt_0 : decode cX12_flowAt 0 = .ok (.aload_n 0, 1) := by decide +kernel
theorem dX12_flowAt_1 : decode cX12_flowAt 1 = .ok (.getfield 104, 3) := by decide +kernel
theorem dX12_flowAt_4 : decode cX12_flowAt 4 = .ok (.iload_n 1, 1) := by decide +kernel
theorem dX12_flowAt_5 : decode cX12_flowAt 5 = .ok (.iaload, 1) := by decide +kernel
theorem dX12_flowAt_6 : decode cX12_flowAt 6 = .ok (.istore 4, 2) := by decide +kernel
theorem dX12_flowAt_8 : decode cX12_flowAt 8 = .ok (.aload_n 0, 1) := by decide +kernel
theorem dX12_flowAt_9 : decode cX12_flowAt 9 = .ok (.getfield 107, 3) := by decide +kernel
theorem dX12_flowAt_12 : decode cX12_flowAt 12 = .ok (.iload_n 1, 1) := by decide +kernel
theorem dX12_flowAt_13 : decode cX12_flowAt 13 = .ok (.iconst 0, 1) := by decide +kernel
theorem dX12_flowAt_14 : decode cX12_flowAt 14 = .ok (.iastore, 1) := by decide +kernel
theorem dX12_flowAt_15 : decode cX12_flowAt 15 = .ok (.iconst 0, 1) := by decide +kernel
theorem dX12_flowAt_16 : decode cX12_flowAt 16 = .ok (.istore 5, 2) := by decide +kernel
theorem dX12_flowAt_18 : decode cX12_flowAt 18 = .ok (.iload 5, 2) := by decide +kernel
theorem dX12_flowAt_20 : decode cX12_flowAt 20 = .ok (.aload_n 0, 1) := by decide +kernel
theorem dX12_flowAt_21 : decode cX12_flowAt 21 = .ok (.getfield 202, 3) := by decide +kernel
theorem dX12_flowAt_24 : decode cX12_flowAt 24 = .ok (.if_icmp .ge 88, 3) := by decide +kernel
theorem dX12_flowAt_27 : decode cX12_flowAt 27 = .ok (.aload_n 0, 1) := by decide +kernel
theorem dX12_flowAt_28 : decode cX12_flowAt 28 = .ok (.getfield 58, 3) := by decide +kernel
theorem dX12_flowAt_31 : decode cX12_flowAt 31 = .ok (.iload 5, 2) := by decide +kernel
theorem dX12_flowAt_33 : decode cX12_flowAt 33 = .ok (.iaload, 1) := by decide +kernel
theorem dX12_flowAt_34 : decode cX12_flowAt 34 = .ok (.iload_n 1, 1) := by decide +kernel
theorem dX12_flowAt_35 : decode cX12_flowAt 35 = .ok (.if_icmp .ne 71, 3) := by decide +kernel
theorem dX12_flowAt_38 : decode cX12_flowAt 38 = .ok (.iload_n 2, 1) := by decide +kernel
theorem dX12_flowAt_39 : decode cX12_flowAt 39 = .ok (.i2l, 1) := by decide +kernel
theorem dX12_flowAt_40 : decode cX12_flowAt 40 = .ok (.aload_n 0, 1) := by decide +kernel
theorem dX12_flowAt_41 : decode cX12_flowAt 41 = .ok (.getfield 64, 3) := by decide +kernel
theorem dX12_flowAt_44 : decode cX12_flowAt 44 = .ok (.iload 5, 2) := by decide +kernel
theorem dX12_flowAt_46 : decode cX12_flowAt 46 = .ok (.iaload, 1) := by decide +kernel
theorem dX12_flowAt_47 : decode cX12_flowAt 47 = .ok (.i2l, 1) := by decide +kernel
theorem dX12_flowAt_48 : decode cX12_flowAt 48 = .ok (.aload_n 0, 1) := by decide +kernel
theorem dX12_flowAt_49 : decode cX12_flowAt 49 = .ok (.getfield 67, 3) := by decide +kernel
theorem dX12_flowAt_52 : decode cX12_flowAt 52 = .ok (.iload 5, 2) := by decide +kernel
theorem dX12_flowAt_54 : decode cX12_flowAt 54 = .ok (.iaload, 1) := by decide +kernel
theorem dX12_flowAt_55 : decode cX12_flowAt 55 = .ok (.i2l, 1) := by decide +kernel
theorem dX12_flowAt_56 : decode cX12_flowAt 56 = .ok (.invokestatic 139, 3) := by decide +kernel
theorem dX12_flowAt_59 : decode cX12_flowAt 59 = .ok (.ifCond .eq 47, 3) := by decide +kernel
theorem dX12_flowAt_62 : decode cX12_flowAt 62 = .ok (.aload_n 0, 1) := by decide +kernel
theorem dX12_flowAt_63 : decode cX12_flowAt 63 = .ok (.getfield 61, 3) := by decide +kernel
theorem dX12_flowAt_66 : decode cX12_flowAt 66 = .ok (.iload 5, 2) := by decide +kernel
theorem dX12_flowAt_68 : decode cX12_flowAt 68 = .ok (.iaload, 1) := by decide +kernel
theorem dX12_flowAt_69 : decode cX12_flowAt 69 = .ok (.iload 4, 2) := by decide +kernel
theorem dX12_flowAt_71 : decode cX12_flowAt 71 = .ok (.if_icmp .ge 13, 3) := by decide +kernel
theorem dX12_flowAt_74 : decode cX12_flowAt 74 = .ok (.aload_n 0, 1) := by decide +kernel
theorem dX12_flowAt_75 : decode cX12_flowAt 75 = .ok (.getfield 61, 3) := by decide +kernel
theorem dX12_flowAt_78 : decode cX12_flowAt 78 = .ok (.iload 5, 2) := by decide +kernel
theorem dX12_flowAt_80 : decode cX12_flowAt 80 = .ok (.iaload, 1) := by decide +kernel
theorem dX12_flowAt_81 : decode cX12_flowAt 81 = .ok (.goto 5, 3) := by decide +kernel
theorem dX12_flowAt_84 : decode cX12_flowAt 84 = .ok (.iload 4, 2) := by decide +kernel
theorem dX12_flowAt_86 : decode cX12_flowAt 86 = .ok (.istore 6, 2) := by decide +kernel
theorem dX12_flowAt_88 : decode cX12_flowAt 88 = .ok (.aload_n 0, 1) := by decide +kernel
theorem dX12_flowAt_89 : decode cX12_flowAt 89 = .ok (.getfield 107, 3) := by decide +kernel
theorem dX12_flowAt_92 : decode cX12_flowAt 92 = .ok (.iload_n 1, 1) := by decide +kernel
theorem dX12_flowAt_93 : decode cX12_flowAt 93 = .ok (.dup2, 1) := by decide +kernel
theorem dX12_flowAt_94 : decode cX12_flowAt 94 = .ok (.iaload, 1) := by decide +kernel
theorem dX12_flowAt_95 : decode cX12_flowAt 95 = .ok (.iload 6, 2) := by decide +kernel
theorem dX12_flowAt_97 : decode cX12_flowAt 97 = .ok (.iadd, 1) := by decide +kernel
theorem dX12_flowAt_98 : decode cX12_flowAt 98 = .ok (.iastore, 1) := by decide +kernel
theorem dX12_flowAt_99 : decode cX12_flowAt 99 = .ok (.iload 4, 2) := by decide +kernel
theorem dX12_flowAt_101 : decode cX12_flowAt 101 = .ok (.iload 6, 2) := by decide +kernel
theorem dX12_flowAt_103 : decode cX12_flowAt 103 = .ok (.isub, 1) := by decide +kernel
theorem dX12_flowAt_104 : decode cX12_flowAt 104 = .ok (.istore 4, 2) := by decide +kernel
theorem dX12_flowAt_106 : decode cX12_flowAt 106 = .ok (.iinc 5 1, 3) := by decide +kernel
theorem dX12_flowAt_109 : decode cX12_flowAt 109 = .ok (.goto (-91), 3) := by decide +kernel
theorem dX12_flowAt_112 : decode cX12_flowAt 112 = .ok (.aload_n 0, 1) := by decide +kernel
theorem dX12_flowAt_113 : decode cX12_flowAt 113 = .ok (.getfield 110, 3) := by decide +kernel
theorem dX12_flowAt_116 : decode cX12_flowAt 116 = .ok (.iload_n 1, 1) := by decide +kernel
theorem dX12_flowAt_117 : decode cX12_flowAt 117 = .ok (.iload 4, 2) := by decide +kernel
theorem dX12_flowAt_119 : decode cX12_flowAt 119 = .ok (.i2l, 1) := by decide +kernel
theorem dX12_flowAt_120 : decode cX12_flowAt 120 = .ok (.aload_n 0, 1) := by decide +kernel
theorem dX12_flowAt_121 : decode cX12_flowAt 121 = .ok (.getfield 28, 3) := by decide +kernel
theorem dX12_flowAt_124 : decode cX12_flowAt 124 = .ok (.iload_n 1, 1) := by decide +kernel
theorem dX12_flowAt_125 : decode cX12_flowAt 125 = .ok (.iaload, 1) := by decide +kernel
theorem dX12_flowAt_126 : decode cX12_flowAt 126 = .ok (.i2l, 1) := by decide +kernel
theorem dX12_flowAt_127 : decode cX12_flowAt 127 = .ok (.lmul, 1) := by decide +kernel
theorem dX12_flowAt_128 : decode cX12_flowAt 128 = .ok (.ldc2_w 168, 3) := by decide +kernel
theorem dX12_flowAt_131 : decode cX12_flowAt 131 = .ok (.ldiv, 1) := by decide +kernel
theorem dX12_flowAt_132 : decode cX12_flowAt 132 = .ok (.l2i, 1) := by decide +kernel
theorem dX12_flowAt_133 : decode cX12_flowAt 133 = .ok (.iastore, 1) := by decide +kernel
theorem dX12_flowAt_134 : decode cX12_flowAt 134 = .ok (.iload 4, 2) := by decide +kernel
theorem dX12_flowAt_136 : decode cX12_flowAt 136 = .ok (.aload_n 0, 1) := by decide +kernel
theorem dX12_flowAt_137 : decode cX12_flowAt 137 = .ok (.getfield 110, 3) := by decide +kernel
theorem dX12_flowAt_140 : decode cX12_flowAt 140 = .ok (.iload_n 1, 1) := by decide +kernel
theorem dX12_flowAt_141 : decode cX12_flowAt 141 = .ok (.iaload, 1) := by decide +kernel
theorem dX12_flowAt_142 : decode cX12_flowAt 142 = .ok (.isub, 1) := by decide +kernel
theorem dX12_flowAt_143 : decode cX12_flowAt 143 = .ok (.istore 4, 2) := by decide +kernel
theorem dX12_flowAt_145 : decode cX12_flowAt 145 = .ok (.aload_n 0, 1) := by decide +kernel
theorem dX12_flowAt_146 : decode cX12_flowAt 146 = .ok (.getfield 101, 3) := by decide +kernel
theorem dX12_flowAt_149 : decode cX12_flowAt 149 = .ok (.iload_n 1, 1) := by decide +kernel
theorem dX12_flowAt_150 : decode cX12_flowAt 150 = .ok (.iload 4, 2) := by decide +kernel
theorem dX12_flowAt_152 : decode cX12_flowAt 152 = .ok (.iastore, 1) := by decide +kernel
theorem dX12_flowAt_153 : decode cX12_flowAt 153 = .ok (.aload_n 0, 1) := by decide +kernel
theorem dX12_flowAt_154 : decode cX12_flowAt 154 = .ok (.getfield 113, 3) := by decide +kernel
theorem dX12_flowAt_157 : decode cX12_flowAt 157 = .ok (.iload_n 1, 1) := by decide +kernel
theorem dX12_flowAt_158 : decode cX12_flowAt 158 = .ok (.iconst 0, 1) := by decide +kernel
theorem dX12_flowAt_159 : decode cX12_flowAt 159 = .ok (.iastore, 1) := by decide +kernel
theorem dX12_flowAt_160 : decode cX12_flowAt 160 = .ok (.aload_n 0, 1) := by decide +kernel
theorem dX12_flowAt_161 : decode cX12_flowAt 161 = .ok (.iload_n 2, 1) := by decide +kernel
theorem dX12_flowAt_162 : decode cX12_flowAt 162 = .ok (.iconst 0, 1) := by decide +kernel
theorem dX12_flowAt_163 : decode cX12_flowAt 163 = .ok (.invokevirtual 194, 3) := by decide +kernel
theorem dX12_flowAt_166 : decode cX12_flowAt 166 = .ok (.istore 5, 2) := by decide +kernel
theorem dX12_flowAt_168 : decode cX12_flowAt 168 = .ok (.iconst 0, 1) := by decide +kernel
theorem dX12_flowAt_169 : decode cX12_flowAt 169 = .ok (.istore 6, 2) := by decide +kernel
theorem dX12_flowAt_171 : decode cX12_flowAt 171 = .ok (.iload 6, 2) := by decide +kernel
theorem dX12_flowAt_173 : decode cX12_flowAt 173 = .ok (.iconst 3, 1) := by decide +kernel
theorem dX12_flowAt_174 : decode cX12_flowAt 174 = .ok (.if_icmp .ge 240, 3) := by decide +kernel
theorem dX12_flowAt_177 : decode cX12_flowAt 177 = .ok (.iload 6, 2) := by decide +kernel
theorem dX12_flowAt_179 : decode cX12_flowAt 179 = .ok (.ifCond .ne 8, 3) := by decide +kernel
theorem dX12_flowAt_182 : decode cX12_flowAt 182 = .ok (.iload 5, 2) := by decide +kernel
theorem dX12_flowAt_184 : decode cX12_flowAt 184 = .ok (.goto 21, 3) := by decide +kernel
theorem dX12_flowAt_187 : decode cX12_flowAt 187 = .ok (.iload 6, 2) := by decide +kernel
theorem dX12_flowAt_189 : decode cX12_flowAt 189 = .ok (.iconst 1, 1) := by decide +kernel
theorem dX12_flowAt_190 : decode cX12_flowAt 190 = .ok (.isub, 1) := by decide +kernel
theorem dX12_flowAt_191 : decode cX12_flowAt 191 = .ok (.iload 5, 2) := by decide +kernel
theorem dX12_flowAt_193 : decode cX12_flowAt 193 = .ok (.if_icmp .ge 10, 3) := by decide +kernel
theorem dX12_flowAt_196 : decode cX12_flowAt 196 = .ok (.iload 6, 2) := by decide +kernel
theorem dX12_flowAt_198 : decode cX12_flowAt 198 = .ok (.iconst 1, 1) := by decide +kernel
theorem dX12_flowAt_199 : decode cX12_flowAt 199 = .ok (.isub, 1) := by decide +kernel
theorem dX12_flowAt_200 : decode cX12_flowAt 200 = .ok (.goto 5, 3) := by decide +kernel
theorem dX12_flowAt_203 : decode cX12_flowAt 203 = .ok (.iload 6, 2) := by decide +kernel
theorem dX12_flowAt_205 : decode cX12_flowAt 205 = .ok (.istore 7, 2) := by decide +kernel
theorem dX12_flowAt_207 : decode cX12_flowAt 207 = .ok (.aload_n 0, 1) := by decide +kernel
theorem dX12_flowAt_208 : decode cX12_flowAt 208 = .ok (.iload_n 2, 1) := by decide +kernel
theorem dX12_flowAt_209 : decode cX12_flowAt 209 = .ok (.iload 7, 2) := by decide +kernel
theorem dX12_flowAt_211 : decode cX12_flowAt 211 = .ok (.invokevirtual 213, 3) := by decide +kernel
theorem dX12_flowAt_214 : decode cX12_flowAt 214 = .ok (.ifCond .eq 6, 3) := by decide +kernel
theorem dX12_flowAt_217 : decode cX12_flowAt 217 = .ok (.goto 191, 3) := by decide +kernel
theorem dX12_flowAt_220 : decode cX12_flowAt 220 = .ok (.aload_n 0, 1) := by decide +kernel
theorem dX12_flowAt_221 : decode cX12_flowAt 221 = .ok (.iconst 0, 1) := by decide +kernel
theorem dX12_flowAt_222 : decode cX12_flowAt 222 = .ok (.putfield 289, 3) := by decide +kernel
theorem dX12_flowAt_225 : decode cX12_flowAt 225 = .ok (.iconst 0, 1) := by decide +kernel
theorem dX12_flowAt_226 : decode cX12_flowAt 226 = .ok (.istore 8, 2) := by decide +kernel
theorem dX12_flowAt_228 : decode cX12_flowAt 228 = .ok (.iload 8, 2) := by decide +kernel
theorem dX12_flowAt_230 : decode cX12_flowAt 230 = .ok (.aload_n 0, 1) := by decide +kernel
theorem dX12_flowAt_231 : decode cX12_flowAt 231 = .ok (.getfield 149, 3) := by decide +kernel
theorem dX12_flowAt_234 : decode cX12_flowAt 234 = .ok (.if_icmp .ge 111, 3) := by decide +kernel
theorem dX12_flowAt_237 : decode cX12_flowAt 237 = .ok (.aload_n 0, 1) := by decide +kernel
theorem dX12_flowAt_238 : decode cX12_flowAt 238 = .ok (.getfield 40, 3) := by decide +kernel
theorem dX12_flowAt_241 : decode cX12_flowAt 241 = .ok (.iload 8, 2) := by decide +kernel
theorem dX12_flowAt_243 : decode cX12_flowAt 243 = .ok (.iaload, 1) := by decide +kernel
theorem dX12_flowAt_244 : decode cX12_flowAt 244 = .ok (.iload_n 1, 1) := by decide +kernel
theorem dX12_flowAt_245 : decode cX12_flowAt 245 = .ok (.if_icmp .ne 49, 3) := by decide +kernel
theorem dX12_flowAt_248 : decode cX12_flowAt 248 = .ok (.aload_n 0, 1) := by decide +kernel
theorem dX12_flowAt_249 : decode cX12_flowAt 249 = .ok (.getfield 46, 3) := by decide +kernel
theorem dX12_flowAt_252 : decode cX12_flowAt 252 = .ok (.iload 8, 2) := by decide +kernel
theorem dX12_flowAt_254 : decode cX12_flowAt 254 = .ok (.iaload, 1) := by decide +kernel
theorem dX12_flowAt_255 : decode cX12_flowAt 255 = .ok (.iload 7, 2) := by decide +kernel
theorem dX12_flowAt_257 : decode cX12_flowAt 257 = .ok (.if_icmp .ne 37, 3) := by decide +kernel
theorem dX12_flowAt_260 : decode cX12_flowAt 260 = .ok (.iload 7, 2) := by decide +kernel
theorem dX12_flowAt_262 : decode cX12_flowAt 262 = .ok (.iconst 2, 1) := by decide +kernel
theorem dX12_flowAt_263 : decode cX12_flowAt 263 = .ok (.if_icmp .ne 17, 3) := by decide +kernel
theorem dX12_flowAt_266 : decode cX12_flowAt 266 = .ok (.aload_n 0, 1) := by decide +kernel
theorem dX12_flowAt_267 : decode cX12_flowAt 267 = .ok (.iload 8, 2) := by decide +kernel
theorem dX12_flowAt_269 : decode cX12_flowAt 269 = .ok (.iload_n 2, 1) := by decide +kernel
theorem dX12_flowAt_270 : decode cX12_flowAt 270 = .ok (.iload_n 3, 1) := by decide +kernel
theorem dX12_flowAt_271 : decode cX12_flowAt 271 = .ok (.invokevirtual 302, 3) := by decide +kernel
theorem dX12_flowAt_274 : decode cX12_flowAt 274 = .ok (.ifCond .eq 20, 3) := by decide +kernel
theorem dX12_flowAt_277 : decode cX12_flowAt 277 = .ok (.goto 13, 3) := by decide +kernel
theorem dX12_flowAt_280 : decode cX12_flowAt 280 = .ok (.aload_n 0, 1) := by decide +kernel
theorem dX12_flowAt_281 : decode cX12_flowAt 281 = .ok (.iload 8, 2) := by decide +kernel
theorem dX12_flowAt_283 : decode cX12_flowAt 283 = .ok (.iload_n 2, 1) := by decide +kernel
theorem dX12_flowAt_284 : decode cX12_flowAt 284 = .ok (.invokevirtual 286, 3) := by decide +kernel
theorem dX12_flowAt_287 : decode cX12_flowAt 287 = .ok (.ifCond .eq 7, 3) := by decide +kernel
theorem dX12_flowAt_290 : decode cX12_flowAt 290 = .ok (.iconst 1, 1) := by decide +kernel
theorem dX12_flowAt_291 : decode cX12_flowAt 291 = .ok (.goto 4, 3) := by decide +kernel
theorem dX12_flowAt_294 : decode cX12_flowAt 294 = .ok (.iconst 0, 1) := by decide +kernel
theorem dX12_flowAt_295 : decode cX12_flowAt 295 = .ok (.istore 9, 2) := by decide +kernel
theorem dX12_flowAt_297 : decode cX12_flowAt 297 = .ok (.iload 9, 2) := by decide +kernel
theorem dX12_flowAt_299 : decode cX12_flowAt 299 = .ok (.ifCond .eq 40, 3) := by decide +kernel
theorem dX12_flowAt_302 : decode cX12_flowAt 302 = .ok (.aload_n 0, 1) := by decide +kernel
theorem dX12_flowAt_303 : decode cX12_flowAt 303 = .ok (.getfield 122, 3) := by decide +kernel
theorem dX12_flowAt_306 : decode cX12_flowAt 306 = .ok (.aload_n 0, 1) := by decide +kernel
theorem dX12_flowAt_307 : decode cX12_flowAt 307 = .ok (.getfield 289, 3) := by decide +kernel
theorem dX12_flowAt_310 : decode cX12_flowAt 310 = .ok (.iload 8, 2) := by decide +kernel
theorem dX12_flowAt_312 : decode cX12_flowAt 312 = .ok (.iastore, 1) := by decide +kernel
theorem dX12_flowAt_313 : decode cX12_flowAt 313 = .ok (.aload_n 0, 1) := by decide +kernel
theorem dX12_flowAt_314 : decode cX12_flowAt 314 = .ok (.getfield 125, 3) := by decide +kernel
theorem dX12_flowAt_317 : decode cX12_flowAt 317 = .ok (.aload_n 0, 1) := by decide +kernel
theorem dX12_flowAt_318 : decode cX12_flowAt 318 = .ok (.getfield 289, 3) := by decide +kernel
theorem dX12_flowAt_321 : decode cX12_flowAt 321 = .ok (.aload_n 0, 1) := by decide +kernel
theorem dX12_flowAt_322 : decode cX12_flowAt 322 = .ok (.getfield 43, 3) := by decide +kernel
theorem dX12_flowAt_325 : decode cX12_flowAt 325 = .ok (.iload 8, 2) := by decide +kernel
theorem dX12_flowAt_327 : decode cX12_flowAt 327 = .ok (.iaload, 1) := by decide +kernel
theorem dX12_flowAt_328 : decode cX12_flowAt 328 = .ok (.iastore, 1) := by decide +kernel
theorem dX12_flowAt_329 : decode cX12_flowAt 329 = .ok (.aload_n 0, 1) := by decide +kernel
theorem dX12_flowAt_330 : decode cX12_flowAt 330 = .ok (.dup, 1) := by decide +kernel
theorem dX12_flowAt_331 : decode cX12_flowAt 331 = .ok (.getfield 289, 3) := by decide +kernel
theorem dX12_flowAt_334 : decode cX12_flowAt 334 = .ok (.iconst 1, 1) := by decide +kernel
theorem dX12_flowAt_335 : decode cX12_flowAt 335 = .ok (.iadd, 1) := by decide +kernel
theorem dX12_flowAt_336 : decode cX12_flowAt 336 = .ok (.putfield 289, 3) := by decide +kernel
theorem dX12_flowAt_339 : decode cX12_flowAt 339 = .ok (.iinc 8 1, 3) := by decide +kernel
theorem dX12_flowAt_342 : decode cX12_flowAt 342 = .ok (.goto (-114), 3) := by decide +kernel
theorem dX12_flowAt_345 : decode cX12_flowAt 345 = .ok (.aload_n 0, 1) := by decide +kernel
theorem dX12_flowAt_346 : decode cX12_flowAt 346 = .ok (.iload 4, 2) := by decide +kernel
theorem dX12_flowAt_348 : decode cX12_flowAt 348 = .ok (.invokevirtual 306, 3) := by decide +kernel
theorem dX12_flowAt_351 : decode cX12_flowAt 351 = .ok (.istore 8, 2) := by decide +kernel
theorem dX12_flowAt_353 : decode cX12_flowAt 353 = .ok (.iconst 0, 1) := by decide +kernel
theorem dX12_flowAt_354 : decode cX12_flowAt 354 = .ok (.istore 9, 2) := by decide +kernel
theorem dX12_flowAt_356 : decode cX12_flowAt 356 = .ok (.iload 9, 2) := by decide +kernel
theorem dX12_flowAt_358 : decode cX12_flowAt 358 = .ok (.aload_n 0, 1) := by decide +kernel
theorem dX12_flowAt_359 : decode cX12_flowAt 359 = .ok (.getfield 289, 3) := by decide +kernel
theorem dX12_flowAt_362 : decode cX12_flowAt 362 = .ok (.if_icmp .ge 28, 3) := by decide +kernel
theorem dX12_flowAt_365 : decode cX12_flowAt 365 = .ok (.aload_n 0, 1) := by decide +kernel
theorem dX12_flowAt_366 : decode cX12_flowAt 366 = .ok (.getfield 119, 3) := by decide +kernel
theorem dX12_flowAt_369 : decode cX12_flowAt 369 = .ok (.aload_n 0, 1) := by decide +kernel
theorem dX12_flowAt_370 : decode cX12_flowAt 370 = .ok (.getfield 122, 3) := by decide +kernel
theorem dX12_flowAt_373 : decode cX12_flowAt 373 = .ok (.iload 9, 2) := by decide +kernel
theorem dX12_flowAt_375 : decode cX12_flowAt 375 = .ok (.iaload, 1) := by decide +kernel
theorem dX12_flowAt_376 : decode cX12_flowAt 376 = .ok (.aload_n 0, 1) := by decide +kernel
theorem dX12_flowAt_377 : decode cX12_flowAt 377 = .ok (.getfield 128, 3) := by decide +kernel
theorem dX12_flowAt_380 : decode cX12_flowAt 380 = .ok (.iload 9, 2) := by decide +kernel
theorem dX12_flowAt_382 : decode cX12_flowAt 382 = .ok (.iaload, 1) := by decide +kernel
theorem dX12_flowAt_383 : decode cX12_flowAt 383 = .ok (.iastore, 1) := by decide +kernel
theorem dX12_flowAt_384 : decode cX12_flowAt 384 = .ok (.iinc 9 1, 3) := by decide +kernel
theorem dX12_flowAt_387 : decode cX12_flowAt 387 = .ok (.goto (-31), 3) := by decide +kernel
theorem dX12_flowAt_390 : decode cX12_flowAt 390 = .ok (.aload_n 0, 1) := by decide +kernel
theorem dX12_flowAt_391 : decode cX12_flowAt 391 = .ok (.getfield 113, 3) := by decide +kernel
theorem dX12_flowAt_394 : decode cX12_flowAt 394 = .ok (.iload_n 1, 1) := by decide +kernel
theorem dX12_flowAt_395 : decode cX12_flowAt 395 = .ok (.dup2, 1) := by decide +kernel
theorem dX12_flowAt_396 : decode cX12_flowAt 396 = .ok (.iaload, 1) := by decide +kernel
theorem dX12_flowAt_397 : decode cX12_flowAt 397 = .ok (.iload 8, 2) := by decide +kernel
theorem dX12_flowAt_399 : decode cX12_flowAt 399 = .ok (.iadd, 1) := by decide +kernel
theorem dX12_flowAt_400 : decode cX12_flowAt 400 = .ok (.iastore, 1) := by decide +kernel
theorem dX12_flowAt_401 : decode cX12_flowAt 401 = .ok (.iload 4, 2) := by decide +kernel
theorem dX12_flowAt_403 : decode cX12_flowAt 403 = .ok (.iload 8, 2) := by decide +kernel
theorem dX12_flowAt_405 : decode cX12_flowAt 405 = .ok (.isub, 1) := by decide +kernel
theorem dX12_flowAt_406 : decode cX12_flowAt 406 = .ok (.istore 4, 2) := by decide +kernel
theorem dX12_flowAt_408 : decode cX12_flowAt 408 = .ok (.iinc 6 1, 3) := by decide +kernel
theorem dX12_flowAt_411 : decode cX12_flowAt 411 = .ok (.goto (-240), 3) := by decide +kernel
theorem dX12_flowAt_414 : decode cX12_flowAt 414 = .ok (.aload_n 0, 1) := by decide +kernel
theorem dX12_flowAt_415 : decode cX12_flowAt 415 = .ok (.iconst 0, 1) := by decide +kernel
theorem dX12_flowAt_416 : decode cX12_flowAt 416 = .ok (.putfield 289, 3) := by decide +kernel
theorem dX12_flowAt_419 : decode cX12_flowAt 419 = .ok (.iload_n 1, 1) := by decide +kernel
theorem dX12_flowAt_420 : decode cX12_flowAt 420 = .ok (.iconst 1, 1) := by decide +kernel
theorem dX12_flowAt_421 : decode cX12_flowAt 421 = .ok (.iadd, 1) := by decide +kernel
theorem dX12_flowAt_422 : decode cX12_flowAt 422 = .ok (.istore 6, 2) := by decide +kernel
theorem dX12_flowAt_424 : decode cX12_flowAt 424 = .ok (.iload 6, 2) := by decide +kernel
theorem dX12_flowAt_426 : decode cX12_flowAt 426 = .ok (.aload_n 0, 1) := by decide +kernel
theorem dX12_flowAt_427 : decode cX12_flowAt 427 = .ok (.getfield 143, 3) := by decide +kernel
theorem dX12_flowAt_430 : decode cX12_flowAt 430 = .ok (.if_icmp .ge 70, 3) := by decide +kernel
theorem dX12_flowAt_433 : decode cX12_flowAt 433 = .ok (.aload_n 0, 1) := by decide +kernel
theorem dX12_flowAt_434 : decode cX12_flowAt 434 = .ok (.getfield 22, 3) := by decide +kernel
theorem dX12_flowAt_437 : decode cX12_flowAt 437 = .ok (.iload 6, 2) := by decide +kernel
theorem dX12_flowAt_439 : decode cX12_flowAt 439 = .ok (.iaload, 1) := by decide +kernel
theorem dX12_flowAt_440 : decode cX12_flowAt 440 = .ok (.bipush 100, 2) := by decide +kernel
theorem dX12_flowAt_442 : decode cX12_flowAt 442 = .ok (.iload_n 1, 1) := by decide +kernel
theorem dX12_flowAt_443 : decode cX12_flowAt 443 = .ok (.iadd, 1) := by decide +kernel
theorem dX12_flowAt_444 : decode cX12_flowAt 444 = .ok (.if_icmp .ne 50, 3) := by decide +kernel
theorem dX12_flowAt_447 : decode cX12_flowAt 447 = .ok (.aload_n 0, 1) := by decide +kernel
theorem dX12_flowAt_448 : decode cX12_flowAt 448 = .ok (.iload 6, 2) := by decide +kernel
theorem dX12_flowAt_450 : decode cX12_flowAt 450 = .ok (.iload_n 2, 1) := by decide +kernel
theorem dX12_flowAt_451 : decode cX12_flowAt 451 = .ok (.invokevirtual 295, 3) := by decide +kernel
theorem dX12_flowAt_454 : decode cX12_flowAt 454 = .ok (.ifCond .ne 40, 3) := by decide +kernel
theorem dX12_flowAt_457 : decode cX12_flowAt 457 = .ok (.aload_n 0, 1) := by decide +kernel
theorem dX12_flowAt_458 : decode cX12_flowAt 458 = .ok (.getfield 122, 3) := by decide +kernel
theorem dX12_flowAt_461 : decode cX12_flowAt 461 = .ok (.aload_n 0, 1) := by decide +kernel
theorem dX12_flowAt_462 : decode cX12_flowAt 462 = .ok (.getfield 289, 3) := by decide +kernel
theorem dX12_flowAt_465 : decode cX12_flowAt 465 = .ok (.iload 6, 2) := by decide +kernel
theorem dX12_flowAt_467 : decode cX12_flowAt 467 = .ok (.iastore, 1) := by decide +kernel
theorem dX12_flowAt_468 : decode cX12_flowAt 468 = .ok (.aload_n 0, 1) := by decide +kernel
theorem dX12_flowAt_469 : decode cX12_flowAt 469 = .ok (.getfield 125, 3) := by decide +kernel
theorem dX12_flowAt_472 : decode cX12_flowAt 472 = .ok (.aload_n 0, 1) := by decide +kernel
theorem dX12_flowAt_473 : decode cX12_flowAt 473 = .ok (.getfield 289, 3) := by decide +kernel
theorem dX12_flowAt_476 : decode cX12_flowAt 476 = .ok (.aload_n 0, 1) := by decide +kernel
theorem dX12_flowAt_477 : decode cX12_flowAt 477 = .ok (.getfield 25, 3) := by decide +kernel
theorem dX12_flowAt_480 : decode cX12_flowAt 480 = .ok (.iload 6, 2) := by decide +kernel
theorem dX12_flowAt_482 : decode cX12_flowAt 482 = .ok (.iaload, 1) := by decide +kernel
theorem dX12_flowAt_483 : decode cX12_flowAt 483 = .ok (.iastore, 1) := by decide +kernel
theorem dX12_flowAt_484 : decode cX12_flowAt 484 = .ok (.aload_n 0, 1) := by decide +kernel
end
section
theorem dX12_flowAt_485 : decode cX12_flowAt 485 = .ok (.dup, 1) := by decide +kernel
theorem dX12_flowAt_486 : decode cX12_flowAt 486 = .ok (.getfield 289, 3) := by decide +kernel
theorem dX12_flowAt_489 : decode cX12_flowAt 489 = .ok (.iconst 1, 1) := by decide +kernel
theorem dX12_flowAt_490 : decode cX12_flowAt 490 = .ok (.iadd, 1) := by decide +kernel
theorem dX12_flowAt_491 : decode cX12_flowAt 491 = .ok (.putfield 289, 3) := by decide +kernel
theorem dX12_flowAt_494 : decode cX12_flowAt 494 = .ok (.iinc 6 1, 3) := by decide +kernel
theorem dX12_flowAt_497 : decode cX12_flowAt 497 = .ok (.goto (-73), 3) := by decide +kernel
theorem dX12_flowAt_500 : decode cX12_flowAt 500 = .ok (.aload_n 0, 1) := by decide +kernel
theorem dX12_flowAt_501 : decode cX12_flowAt 501 = .ok (.getfield 116, 3) := by decide +kernel
theorem dX12_flowAt_504 : decode cX12_flowAt 504 = .ok (.iload_n 1, 1) := by decide +kernel
theorem dX12_flowAt_505 : decode cX12_flowAt 505 = .ok (.aload_n 0, 1) := by decide +kernel
theorem dX12_flowAt_506 : decode cX12_flowAt 506 = .ok (.iload 4, 2) := by decide +kernel
theorem dX12_flowAt_508 : decode cX12_flowAt 508 = .ok (.invokevirtual 306, 3) := by decide +kernel
theorem dX12_flowAt_511 : decode cX12_flowAt 511 = .ok (.iastore, 1) := by decide +kernel
theorem dX12_flowAt_512 : decode cX12_flowAt 512 = .ok (.iconst 0, 1) := by decide +kernel
theorem dX12_flowAt_513 : decode cX12_flowAt 513 = .ok (.istore 6, 2) := by decide +kernel
theorem dX12_flowAt_515 : decode cX12_flowAt 515 = .ok (.iload 6, 2) := by decide +kernel
theorem dX12_flowAt_517 : decode cX12_flowAt 517 = .ok (.aload_n 0, 1) := by decide +kernel
theorem dX12_flowAt_518 : decode cX12_flowAt 518 = .ok (.getfield 289, 3) := by decide +kernel
theorem dX12_flowAt_521 : decode cX12_flowAt 521 = .ok (.if_icmp .ge 28, 3) := by decide +kernel
theorem dX12_flowAt_524 : decode cX12_flowAt 524 = .ok (.aload_n 0, 1) := by decide +kernel
theorem dX12_flowAt_525 : decode cX12_flowAt 525 = .ok (.getfield 104, 3) := by decide +kernel
theorem dX12_flowAt_528 : decode cX12_flowAt 528 = .ok (.aload_n 0, 1) := by decide +kernel
theorem dX12_flowAt_529 : decode cX12_flowAt 529 = .ok (.getfield 122, 3) := by decide +kernel
theorem dX12_flowAt_532 : decode cX12_flowAt 532 = .ok (.iload 6, 2) := by decide +kernel
theorem dX12_flowAt_534 : decode cX12_flowAt 534 = .ok (.iaload, 1) := by decide +kernel
theorem dX12_flowAt_535 : decode cX12_flowAt 535 = .ok (.aload_n 0, 1) := by decide +kernel
theorem dX12_flowAt_536 : decode cX12_flowAt 536 = .ok (.getfield 128, 3) := by decide +kernel
theorem dX12_flowAt_539 : decode cX12_flowAt 539 = .ok (.iload 6, 2) := by decide +kernel
theorem dX12_flowAt_541 : decode cX12_flowAt 541 = .ok (.iaload, 1) := by decide +kernel
theorem dX12_flowAt_542 : decode cX12_flowAt 542 = .ok (.iastore, 1) := by decide +kernel
theorem dX12_flowAt_543 : decode cX12_flowAt 543 = .ok (.iinc 6 1, 3) := by decide +kernel
theorem dX12_flowAt_546 : decode cX12_flowAt 546 = .ok (.goto (-31), 3) := by decide +kernel
theorem dX12_flowAt_549 : decode cX12_flowAt 549 = .ok (.return_, 1) := by decide +kernel
theorem dX12_lives_0 : decode cX12_lives 0 = .ok (.aload_n 0, 1) := by decide +kernel
theorem dX12_lives_1 : decode cX12_lives 1 = .ok (.iconst 0, 1) := by decide +kernel
theorem dX12_lives_2 : decode cX12_lives 2 = .ok (.putfield 131, 3) := by decide +kernel
theorem dX12_lives_5 : decode cX12_lives 5 = .ok (.aload_n 0, 1) := by decide +kernel
theorem dX12_lives_6 : decode cX12_lives 6 = .ok (.iload_n 1, 1) := by decide +kernel
theorem dX12_lives_7 : decode cX12_lives 7 = .ok (.invokevirtual 197, 3) := by decide +kernel
theorem dX12_lives_10 : decode cX12_lives 10 = .ok (.ifCond .eq 27, 3) := by decide +kernel
theorem dX12_lives_13 : decode cX12_lives 13 = .ok (.aload_n 0, 1) := by decide +kernel
theorem dX12_lives_14 : decode cX12_lives 14 = .ok (.getfield 46, 3) := by decide +kernel
theorem dX12_lives_17 : decode cX12_lives 17 = .ok (.iload_n 1, 1) := by decide +kernel
theorem dX12_lives_18 : decode cX12_lives 18 = .ok (.iaload, 1) := by decide +kernel
theorem dX12_lives_19 : decode cX12_lives 19 = .ok (.iconst 2, 1) := by decide +kernel
theorem dX12_lives_20 : decode cX12_lives 20 = .ok (.if_icmp .ne 17, 3) := by decide +kernel
theorem dX12_lives_23 : decode cX12_lives 23 = .ok (.iload_n 2, 1) := by decide +kernel
theorem dX12_lives_24 : decode cX12_lives 24 = .ok (.invokestatic 161, 3) := by decide +kernel
theorem dX12_lives_27 : decode cX12_lives 27 = .ok (.ifCond .eq 10, 3) := by decide +kernel
theorem dX12_lives_30 : decode cX12_lives 30 = .ok (.iload_n 3, 1) := by decide +kernel
theorem dX12_lives_31 : decode cX12_lives 31 = .ok (.invokestatic 161, 3) := by decide +kernel
theorem dX12_lives_34 : decode cX12_lives 34 = .ok (.ifCond .ne 5, 3) := by decide +kernel
theorem dX12_lives_37 : decode cX12_lives 37 = .ok (.iconst (-1), 1) := by decide +kernel
theorem dX12_lives_38 : decode cX12_lives 38 = .ok (.ireturn, 1) := by decide +kernel
theorem dX12_lives_39 : decode cX12_lives 39 = .ok (.aload_n 0, 1) := by decide +kernel
theorem dX12_lives_40 : decode cX12_lives 40 = .ok (.iload_n 1, 1) := by decide +kernel
theorem dX12_lives_41 : decode cX12_lives 41 = .ok (.iload_n 2, 1) := by decide +kernel
theorem dX12_lives_42 : decode cX12_lives 42 = .ok (.iload_n 3, 1) := by decide +kernel
theorem dX12_lives_43 : decode cX12_lives 43 = .ok (.invokevirtual 302, 3) := by decide +kernel
theorem dX12_lives_46 : decode cX12_lives 46 = .ok (.ifCond .eq 7, 3) := by decide +kernel
theorem dX12_lives_49 : decode cX12_lives 49 = .ok (.iconst 1, 1) := by decide +kernel
theorem dX12_lives_50 : decode cX12_lives 50 = .ok (.goto 4, 3) := by decide +kernel
theorem dX12_lives_53 : decode cX12_lives 53 = .ok (.iconst 0, 1) := by decide +kernel
theorem dX12_lives_54 : decode cX12_lives 54 = .ok (.ireturn, 1) := by decide +kernel
theorem dX12_gets_0 : decode cX12_gets 0 = .ok (.aload_n 0, 1) := by decide +kernel
theorem dX12_gets_1 : decode cX12_gets 1 = .ok (.iconst 0, 1) := by decide +kernel
theorem dX12_gets_2 : decode cX12_gets 2 = .ok (.putfield 131, 3) := by decide +kernel
theorem dX12_gets_5 : decode cX12_gets 5 = .ok (.aload_n 0, 1) := by decide +kernel
theorem dX12_gets_6 : decode cX12_gets 6 = .ok (.iload_n 1, 1) := by decide +kernel
theorem dX12_gets_7 : decode cX12_gets 7 = .ok (.invokevirtual 197, 3) := by decide +kernel
theorem dX12_gets_10 : decode cX12_gets 10 = .ok (.ifCond .eq 17, 3) := by decide +kernel
theorem dX12_gets_13 : decode cX12_gets 13 = .ok (.iload_n 2, 1) := by decide +kernel
theorem dX12_gets_14 : decode cX12_gets 14 = .ok (.invokestatic 161, 3) := by decide +kernel
theorem dX12_gets_17 : decode cX12_gets 17 = .ok (.ifCond .eq 10, 3) := by decide +kernel
theorem dX12_gets_20 : decode cX12_gets 20 = .ok (.iload_n 3, 1) := by decide +kernel
theorem dX12_gets_21 : decode cX12_gets 21 = .ok (.invokestatic 161, 3) := by decide +kernel
theorem dX12_gets_24 : decode cX12_gets 24 = .ok (.ifCond .ne 5, 3) := by decide +kernel
theorem dX12_gets_27 : decode cX12_gets 27 = .ok (.iconst (-1), 1) := by decide +kernel
theorem dX12_gets_28 : decode cX12_gets 28 = .ok (.ireturn, 1) := by decide +kernel
theorem dX12_gets_29 : decode cX12_gets 29 = .ok (.aload_n 0, 1) := by decide +kernel
theorem dX12_gets_30 : decode cX12_gets 30 = .ok (.iload_n 2, 1) := by decide +kernel
theorem dX12_gets_31 : decode cX12_gets 31 = .ok (.iload_n 3, 1) := by decide +kernel
theorem dX12_gets_32 : decode cX12_gets 32 = .ok (.invokevirtual 309, 3) := by decide +kernel
theorem dX12_gets_35 : decode cX12_gets 35 = .ok (.aload_n 0, 1) := by decide +kernel
theorem dX12_gets_36 : decode cX12_gets 36 = .ok (.getfield 119, 3) := by decide +kernel
theorem dX12_gets_39 : decode cX12_gets 39 = .ok (.iload_n 1, 1) := by decide +kernel
theorem dX12_gets_40 : decode cX12_gets 40 = .ok (.iaload, 1) := by decide +kernel
theorem dX12_gets_41 : decode cX12_gets 41 = .ok (.ireturn, 1) := by decide +kernel
theorem dX12_at_0 : decode cX12_at 0 = .ok (.aload_n 0, 1) := by decide +kernel
theorem dX12_at_1 : decode cX12_at 1 = .ok (.iconst 0, 1) := by decide +kernel
theorem dX12_at_2 : decode cX12_at 2 = .ok (.putfield 131, 3) := by decide +kernel
theorem dX12_at_5 : decode cX12_at 5 = .ok (.aload_n 0, 1) := by decide +kernel
theorem dX12_at_6 : decode cX12_at 6 = .ok (.iload_n 1, 1) := by decide +kernel
theorem dX12_at_7 : decode cX12_at 7 = .ok (.invokevirtual 188, 3) := by decide +kernel
theorem dX12_at_10 : decode cX12_at 10 = .ok (.ifCond .eq 17, 3) := by decide +kernel
theorem dX12_at_13 : decode cX12_at 13 = .ok (.iload_n 2, 1) := by decide +kernel
theorem dX12_at_14 : decode cX12_at 14 = .ok (.invokestatic 161, 3) := by decide +kernel
theorem dX12_at_17 : decode cX12_at 17 = .ok (.ifCond .eq 10, 3) := by decide +kernel
theorem dX12_at_20 : decode cX12_at 20 = .ok (.iload_n 3, 1) := by decide +kernel
theorem dX12_at_21 : decode cX12_at 21 = .ok (.invokestatic 161, 3) := by decide +kernel
theorem dX12_at_24 : decode cX12_at 24 = .ok (.ifCond .ne 5, 3) := by decide +kernel
theorem dX12_at_27 : decode cX12_at 27 = .ok (.iconst (-1), 1) := by decide +kernel
theorem dX12_at_28 : decode cX12_at 28 = .ok (.ireturn, 1) := by decide +kernel
theorem dX12_at_29 : decode cX12_at 29 = .ok (.aload_n 0, 1) := by decide +kernel
theorem dX12_at_30 : decode cX12_at 30 = .ok (.iload_n 2, 1) := by decide +kernel
theorem dX12_at_31 : decode cX12_at 31 = .ok (.iload_n 3, 1) := by decide +kernel
theorem dX12_at_32 : decode cX12_at 32 = .ok (.invokevirtual 309, 3) := by decide +kernel
theorem dX12_at_35 : decode cX12_at 35 = .ok (.iload 4, 2) := by decide +kernel
theorem dX12_at_37 : decode cX12_at 37 = .ok (.tableswitch 106 0 6 #[43, 50, 57, 64, 71, 78, 85], 43) := by decide +kernel
theorem dX12_at_80 : decode cX12_at 80 = .ok (.aload_n 0, 1) := by decide +kernel
theorem dX12_at_81 : decode cX12_at 81 = .ok (.getfield 101, 3) := by decide +kernel
theorem dX12_at_84 : decode cX12_at 84 = .ok (.iload_n 1, 1) := by decide +kernel
theorem dX12_at_85 : decode cX12_at 85 = .ok (.iaload, 1) := by decide +kernel
theorem dX12_at_86 : decode cX12_at 86 = .ok (.ireturn, 1) := by decide +kernel
theorem dX12_at_87 : decode cX12_at 87 = .ok (.aload_n 0, 1) := by decide +kernel
theorem dX12_at_88 : decode cX12_at 88 = .ok (.getfield 104, 3) := by decide +kernel
theorem dX12_at_91 : decode cX12_at 91 = .ok (.iload_n 1, 1) := by decide +kernel
theorem dX12_at_92 : decode cX12_at 92 = .ok (.iaload, 1) := by decide +kernel
theorem dX12_at_93 : decode cX12_at 93 = .ok (.ireturn, 1) := by decide +kernel
theorem dX12_at_94 : decode cX12_at 94 = .ok (.aload_n 0, 1) := by decide +kernel
theorem dX12_at_95 : decode cX12_at 95 = .ok (.getfield 107, 3) := by decide +kernel
theorem dX12_at_98 : decode cX12_at 98 = .ok (.iload_n 1, 1) := by decide +kernel
theorem dX12_at_99 : decode cX12_at 99 = .ok (.iaload, 1) := by decide +kernel
theorem dX12_at_100 : decode cX12_at 100 = .ok (.ireturn, 1) := by decide +kernel
theorem dX12_at_101 : decode cX12_at 101 = .ok (.aload_n 0, 1) := by decide +kernel
theorem dX12_at_102 : decode cX12_at 102 = .ok (.getfield 110, 3) := by decide +kernel
theorem dX12_at_105 : decode cX12_at 105 = .ok (.iload_n 1, 1) := by decide +kernel
theorem dX12_at_106 : decode cX12_at 106 = .ok (.iaload, 1) := by decide +kernel
theorem dX12_at_107 : decode cX12_at 107 = .ok (.ireturn, 1) := by decide +kernel
theorem dX12_at_108 : decode cX12_at 108 = .ok (.aload_n 0, 1) := by decide +kernel
theorem dX12_at_109 : decode cX12_at 109 = .ok (.getfield 113, 3) := by decide +kernel
theorem dX12_at_112 : decode cX12_at 112 = .ok (.iload_n 1, 1) := by decide +kernel
theorem dX12_at_113 : decode cX12_at 113 = .ok (.iaload, 1) := by decide +kernel
theorem dX12_at_114 : decode cX12_at 114 = .ok (.ireturn, 1) := by decide +kernel
theorem dX12_at_115 : decode cX12_at 115 = .ok (.aload_n 0, 1) := by decide +kernel
theorem dX12_at_116 : decode cX12_at 116 = .ok (.getfield 116, 3) := by decide +kernel
theorem dX12_at_119 : decode cX12_at 119 = .ok (.iload_n 1, 1) := by decide +kernel
theorem dX12_at_120 : decode cX12_at 120 = .ok (.iaload, 1) := by decide +kernel
theorem dX12_at_121 : decode cX12_at 121 = .ok (.ireturn, 1) := by decide +kernel
theorem dX12_at_122 : decode cX12_at 122 = .ok (.aload_n 0, 1) := by decide +kernel
theorem dX12_at_123 : decode cX12_at 123 = .ok (.getfield 101, 3) := by decide +kernel
theorem dX12_at_126 : decode cX12_at 126 = .ok (.iload_n 1, 1) := by decide +kernel
theorem dX12_at_127 : decode cX12_at 127 = .ok (.iaload, 1) := by decide +kernel
theorem dX12_at_128 : decode cX12_at 128 = .ok (.aload_n 0, 1) := by decide +kernel
theorem dX12_at_129 : decode cX12_at 129 = .ok (.getfield 113, 3) := by decide +kernel
theorem dX12_at_132 : decode cX12_at 132 = .ok (.iload_n 1, 1) := by decide +kernel
theorem dX12_at_133 : decode cX12_at 133 = .ok (.iaload, 1) := by decide +kernel
theorem dX12_at_134 : decode cX12_at 134 = .ok (.isub, 1) := by decide +kernel
theorem dX12_at_135 : decode cX12_at 135 = .ok (.aload_n 0, 1) := by decide +kernel
theorem dX12_at_136 : decode cX12_at 136 = .ok (.getfield 116, 3) := by decide +kernel
theorem dX12_at_139 : decode cX12_at 139 = .ok (.iload_n 1, 1) := by decide +kernel
theorem dX12_at_140 : decode cX12_at 140 = .ok (.iaload, 1) := by decide +kernel
theorem dX12_at_141 : decode cX12_at 141 = .ok (.isub, 1) := by decide +kernel
theorem dX12_at_142 : decode cX12_at 142 = .ok (.ireturn, 1) := by decide +kernel
theorem dX12_at_143 : decode cX12_at 143 = .ok (.iconst (-1), 1) := by decide +kernel
theorem dX12_at_144 : decode cX12_at 144 = .ok (.ireturn, 1) := by decide +kernel
theorem dX12_isDry_0 : decode cX12_isDry 0 = .ok (.iconst 0, 1) := by decide +kernel
theorem dX12_isDry_1 : decode cX12_isDry 1 = .ok (.istore_n 3, 1) := by decide +kernel
theorem dX12_isDry_2 : decode cX12_isDry 2 = .ok (.iconst 0, 1) := by decide +kernel
theorem dX12_isDry_3 : decode cX12_isDry 3 = .ok (.istore 4, 2) := by decide +kernel
theorem dX12_isDry_5 : decode cX12_isDry 5 = .ok (.iconst 0, 1) := by decide +kernel
theorem dX12_isDry_6 : decode cX12_isDry 6 = .ok (.istore 5, 2) := by decide +kernel
theorem dX12_isDry_8 : decode cX12_isDry 8 = .ok (.iload 5, 2) := by decide +kernel
theorem dX12_isDry_10 : decode cX12_isDry 10 = .ok (.aload_n 0, 1) := by decide +kernel
theorem dX12_isDry_11 : decode cX12_isDry 11 = .ok (.getfield 149, 3) := by decide +kernel
theorem dX12_isDry_14 : decode cX12_isDry 14 = .ok (.if_icmp .ge 63, 3) := by decide +kernel
theorem dX12_isDry_17 : decode cX12_isDry 17 = .ok (.aload_n 0, 1) := by decide +kernel
theorem dX12_isDry_18 : decode cX12_isDry 18 = .ok (.getfield 46, 3) := by decide +kernel
theorem dX12_isDry_21 : decode cX12_isDry 21 = .ok (.iload 5, 2) := by decide +kernel
theorem dX12_isDry_23 : decode cX12_isDry 23 = .ok (.iaload, 1) := by decide +kernel
theorem dX12_isDry_24 : decode cX12_isDry 24 = .ok (.iconst 2, 1) := by decide +kernel
theorem dX12_isDry_25 : decode cX12_isDry 25 = .ok (.if_icmp .ge 46, 3) := by decide +kernel
theorem dX12_isDry_28 : decode cX12_isDry 28 = .ok (.aload_n 0, 1) := by decide +kernel
theorem dX12_isDry_29 : decode cX12_isDry 29 = .ok (.getfield 49, 3) := by decide +kernel
theorem dX12_isDry_32 : decode cX12_isDry 32 = .ok (.iload 5, 2) := by decide +kernel
theorem dX12_isDry_34 : decode cX12_isDry 34 = .ok (.iaload, 1) := by decide +kernel
theorem dX12_isDry_35 : decode cX12_isDry 35 = .ok (.iload_n 1, 1) := by decide +kernel
theorem dX12_isDry_36 : decode cX12_isDry 36 = .ok (.if_icmp .ne 35, 3) := by decide +kernel
theorem dX12_isDry_39 : decode cX12_isDry 39 = .ok (.aload_n 0, 1) := by decide +kernel
theorem dX12_isDry_40 : decode cX12_isDry 40 = .ok (.iload 5, 2) := by decide +kernel
theorem dX12_isDry_42 : decode cX12_isDry 42 = .ok (.iload_n 2, 1) := by decide +kernel
theorem dX12_isDry_43 : decode cX12_isDry 43 = .ok (.invokevirtual 286, 3) := by decide +kernel
theorem dX12_isDry_46 : decode cX12_isDry 46 = .ok (.ifCond .eq 25, 3) := by decide +kernel
theorem dX12_isDry_49 : decode cX12_isDry 49 = .ok (.iload_n 3, 1) := by decide +kernel
theorem dX12_isDry_50 : decode cX12_isDry 50 = .ok (.aload_n 0, 1) := by decide +kernel
theorem dX12_isDry_51 : decode cX12_isDry 51 = .ok (.getfield 43, 3) := by decide +kernel
theorem dX12_isDry_54 : decode cX12_isDry 54 = .ok (.iload 5, 2) := by decide +kernel
theorem dX12_isDry_56 : decode cX12_isDry 56 = .ok (.iaload, 1) := by decide +kernel
theorem dX12_isDry_57 : decode cX12_isDry 57 = .ok (.iadd, 1) := by decide +kernel
theorem dX12_isDry_58 : decode cX12_isDry 58 = .ok (.istore_n 3, 1) := by decide +kernel
theorem dX12_isDry_59 : decode cX12_isDry 59 = .ok (.iload 4, 2) := by decide +kernel
theorem dX12_isDry_61 : decode cX12_isDry 61 = .ok (.aload_n 0, 1) := by decide +kernel
theorem dX12_isDry_62 : decode cX12_isDry 62 = .ok (.getfield 119, 3) := by decide +kernel
theorem dX12_isDry_65 : decode cX12_isDry 65 = .ok (.iload 5, 2) := by decide +kernel
theorem dX12_isDry_67 : decode cX12_isDry 67 = .ok (.iaload, 1) := by decide +kernel
theorem dX12_isDry_68 : decode cX12_isDry 68 = .ok (.iadd, 1) := by decide +kernel
theorem dX12_isDry_69 : decode cX12_isDry 69 = .ok (.istore 4, 2) := by decide +kernel
theorem dX12_isDry_71 : decode cX12_isDry 71 = .ok (.iinc 5 1, 3) := by decide +kernel
theorem dX12_isDry_74 : decode cX12_isDry 74 = .ok (.goto (-66), 3) := by decide +kernel
theorem dX12_isDry_77 : decode cX12_isDry 77 = .ok (.iconst 2, 1) := by decide +kernel
theorem dX12_isDry_78 : decode cX12_isDry 78 = .ok (.iload 4, 2) := by decide +kernel
theorem dX12_isDry_80 : decode cX12_isDry 80 = .ok (.imul, 1) := by decide +kernel
theorem dX12_isDry_81 : decode cX12_isDry 81 = .ok (.iload_n 3, 1) := by decide +kernel
theorem dX12_isDry_82 : decode cX12_isDry 82 = .ok (.if_icmp .ge 7, 3) := by decide +kernel
theorem dX12_isDry_85 : decode cX12_isDry 85 = .ok (.iconst 1, 1) := by decide +kernel
theorem dX12_isDry_86 : decode cX12_isDry 86 = .ok (.goto 4, 3) := by decide +kernel
theorem dX12_isDry_89 : decode cX12_isDry 89 = .ok (.iconst 0, 1) := by decide +kernel
theorem dX12_isDry_90 : decode cX12_isDry 90 = .ok (.ireturn, 1) := by decide +kernel
theorem dX12_dry_0 : decode cX12_dry 0 = .ok (.aload_n 0, 1) := by decide +kernel
theorem dX12_dry_1 : decode cX12_dry 1 = .ok (.iconst 0, 1) := by decide +kernel
theorem dX12_dry_2 : decode cX12_dry 2 = .ok (.putfield 131, 3) := by decide +kernel
theorem dX12_dry_5 : decode cX12_dry 5 = .ok (.iload_n 1, 1) := by decide +kernel
theorem dX12_dry_6 : decode cX12_dry 6 = .ok (.i2l, 1) := by decide +kernel
theorem dX12_dry_7 : decode cX12_dry 7 = .ok (.lconst 0, 1) := by decide +kernel
theorem dX12_dry_8 : decode cX12_dry 8 = .ok (.ldc2_w 186, 3) := by decide +kernel
theorem dX12_dry_11 : decode cX12_dry 11 = .ok (.invokestatic 139, 3) := by decide +kernel
theorem dX12_dry_14 : decode cX12_dry 14 = .ok (.ifCond .eq 17, 3) := by decide +kernel
theorem dX12_dry_17 : decode cX12_dry 17 = .ok (.iload_n 2, 1) := by decide +kernel
theorem dX12_dry_18 : decode cX12_dry 18 = .ok (.invokestatic 161, 3) := by decide +kernel
theorem dX12_dry_21 : decode cX12_dry 21 = .ok (.ifCond .eq 10, 3) := by decide +kernel
theorem dX12_dry_24 : decode cX12_dry 24 = .ok (.iload_n 3, 1) := by decide +kernel
theorem dX12_dry_25 : decode cX12_dry 25 = .ok (.invokestatic 161, 3) := by decide +kernel
theorem dX12_dry_28 : decode cX12_dry 28 = .ok (.ifCond .ne 5, 3) := by decide +kernel
theorem dX12_dry_31 : decode cX12_dry 31 = .ok (.iconst (-1), 1) := by decide +kernel
theorem dX12_dry_32 : decode cX12_dry 32 = .ok (.ireturn, 1) := by decide +kernel
theorem dX12_dry_33 : decode cX12_dry 33 = .ok (.aload_n 0, 1) := by decide +kernel
theorem dX12_dry_34 : decode cX12_dry 34 = .ok (.iload_n 2, 1) := by decide +kernel
theorem dX12_dry_35 : decode cX12_dry 35 = .ok (.iload_n 3, 1) := by decide +kernel
theorem dX12_dry_36 : decode cX12_dry 36 = .ok (.invokevirtual 309, 3) := by decide +kernel
theorem dX12_dry_39 : decode cX12_dry 39 = .ok (.aload_n 0, 1) := by decide +kernel
theorem dX12_dry_40 : decode cX12_dry 40 = .ok (.iload_n 1, 1) := by decide +kernel
theorem dX12_dry_41 : decode cX12_dry 41 = .ok (.iload_n 2, 1) := by decide +kernel
theorem dX12_dry_42 : decode cX12_dry 42 = .ok (.invokevirtual 313, 3) := by decide +kernel
theorem dX12_dry_45 : decode cX12_dry 45 = .ok (.ifCond .eq 7, 3) := by decide +kernel
theorem dX12_dry_48 : decode cX12_dry 48 = .ok (.iconst 1, 1) := by decide +kernel
theorem dX12_dry_49 : decode cX12_dry 49 = .ok (.goto 4, 3) := by decide +kernel
theorem dX12_dry_52 : decode cX12_dry 52 = .ok (.iconst 0, 1) := by decide +kernel
theorem dX12_dry_53 : decode cX12_dry 53 = .ok (.ireturn, 1) := by decide +kernel
theorem dX12_found_0 : decode cX12_found 0 = .ok (.aload_n 0, 1) := by decide +kernel
theorem dX12_found_1 : decode cX12_found 1 = .ok (.iconst 0, 1) := by decide +kernel
theorem dX12_found_2 : decode cX12_found 2 = .ok (.putfield 131, 3) := by decide +kernel
theorem dX12_found_5 : decode cX12_found 5 = .ok (.aload_n 0, 1) := by decide +kernel
theorem dX12_found_6 : decode cX12_found 6 = .ok (.iload_n 1, 1) := by decide +kernel
theorem dX12_found_7 : decode cX12_found 7 = .ok (.invokevirtual 188, 3) := by decide +kernel
theorem dX12_found_10 : decode cX12_found 10 = .ok (.ifCond .eq 10, 3) := by decide +kernel
theorem dX12_found_13 : decode cX12_found 13 = .ok (.iload_n 2, 1) := by decide +kernel
theorem dX12_found_14 : decode cX12_found 14 = .ok (.invokestatic 161, 3) := by decide +kernel
theorem dX12_found_17 : decode cX12_found 17 = .ok (.ifCond .ne 5, 3) := by decide +kernel
theorem dX12_found_20 : decode cX12_found 20 = .ok (.iconst (-1), 1) := by decide +kernel
theorem dX12_found_21 : decode cX12_found 21 = .ok (.ireturn, 1) := by decide +kernel
theorem dX12_found_22 : decode cX12_found 22 = .ok (.aload_n 0, 1) := by decide +kernel
theorem dX12_found_23 : decode cX12_found 23 = .ok (.iload_n 2, 1) := by decide +kernel
theorem dX12_found_24 : decode cX12_found 24 = .ok (.aload_n 0, 1) := by decide +kernel
theorem dX12_found_25 : decode cX12_found 25 = .ok (.getfield 191, 3) := by decide +kernel
theorem dX12_found_28 : decode cX12_found 28 = .ok (.invokevirtual 309, 3) := by decide +kernel
theorem dX12_found_31 : decode cX12_found 31 = .ok (.iconst 0, 1) := by decide +kernel
theorem dX12_found_32 : decode cX12_found 32 = .ok (.istore_n 3, 1) := by decide +kernel
theorem dX12_found_33 : decode cX12_found 33 = .ok (.aload_n 0, 1) := by decide +kernel
theorem dX12_found_34 : decode cX12_found 34 = .ok (.getfield 104, 3) := by decide +kernel
theorem dX12_found_37 : decode cX12_found 37 = .ok (.iload_n 1, 1) := by decide +kernel
theorem dX12_found_38 : decode cX12_found 38 = .ok (.iaload, 1) := by decide +kernel
theorem dX12_found_39 : decode cX12_found 39 = .ok (.istore 4, 2) := by decide +kernel
theorem dX12_found_41 : decode cX12_found 41 = .ok (.iload 4, 2) := by decide +kernel
theorem dX12_found_43 : decode cX12_found 43 = .ok (.iload_n 3, 1) := by decide +kernel
theorem dX12_found_44 : decode cX12_found 44 = .ok (.isub, 1) := by decide +kernel
theorem dX12_found_45 : decode cX12_found 45 = .ok (.iload 4, 2) := by decide +kernel
theorem dX12_found_47 : decode cX12_found 47 = .ok (.iload_n 3, 1) := by decide +kernel
theorem dX12_found_48 : decode cX12_found 48 = .ok (.isub, 1) := by decide +kernel
theorem dX12_found_49 : decode cX12_found 49 = .ok (.i2l, 1) := by decide +kernel
theorem dX12_found_50 : decode cX12_found 50 = .ok (.aload_n 0, 1) := by decide +kernel
theorem dX12_found_51 : decode cX12_found 51 = .ok (.getfield 28, 3) := by decide +kernel
theorem dX12_found_54 : decode cX12_found 54 = .ok (.iload_n 1, 1) := by decide +kernel
theorem dX12_found_55 : decode cX12_found 55 = .ok (.iaload, 1) := by decide +kernel
theorem dX12_found_56 : decode cX12_found 56 = .ok (.i2l, 1) := by decide +kernel
theorem dX12_found_57 : decode cX12_found 57 = .ok (.lmul, 1) := by decide +kernel
theorem dX12_found_58 : decode cX12_found 58 = .ok (.ldc2_w 168, 3) := by decide +kernel
theorem dX12_found_61 : decode cX12_found 61 = .ok (.ldiv, 1) := by decide +kernel
theorem dX12_found_62 : decode cX12_found 62 = .ok (.l2i, 1) := by decide +kernel
theorem dX12_found_63 : decode cX12_found 63 = .ok (.isub, 1) := by decide +kernel
theorem dX12_found_64 : decode cX12_found 64 = .ok (.aload_n 0, 1) := by decide +kernel
theorem dX12_found_65 : decode cX12_found 65 = .ok (.getfield 101, 3) := by decide +kernel
theorem dX12_found_68 : decode cX12_found 68 = .ok (.iload_n 1, 1) := by decide +kernel
theorem dX12_found_69 : decode cX12_found 69 = .ok (.iaload, 1) := by decide +kernel
theorem dX12_found_70 : decode cX12_found 70 = .ok (.if_icmp .eq 9, 3) := by decide +kernel
theorem dX12_found_73 : decode cX12_found 73 = .ok (.iinc 3 1, 3) := by decide +kernel
theorem dX12_found_76 : decode cX12_found 76 = .ok (.goto (-35), 3) := by decide +kernel
theorem dX12_found_79 : decode cX12_found 79 = .ok (.iload_n 3, 1) := by decide +kernel
theorem dX12_found_80 : decode cX12_found 80 = .ok (.ireturn, 1) := by decide +kernel
theorem dX12_best_0 : decode cX12_best 0 = .ok (.aload_n 0, 1) := by decide +kernel
theorem dX12_best_1 : decode cX12_best 1 = .ok (.iconst 0, 1) := by decide +kernel
theorem dX12_best_2 : decode cX12_best 2 = .ok (.putfield 131, 3) := by decide +kernel
theorem dX12_best_5 : decode cX12_best 5 = .ok (.iload_n 2, 1) := by decide +kernel
theorem dX12_best_6 : decode cX12_best 6 = .ok (.i2l, 1) := by decide +kernel
theorem dX12_best_7 : decode cX12_best 7 = .ok (.lconst 1, 1) := by decide +kernel
theorem dX12_best_8 : decode cX12_best 8 = .ok (.ldc2_w 251, 3) := by decide +kernel
theorem dX12_best_11 : decode cX12_best 11 = .ok (.invokestatic 139, 3) := by decide +kernel
theorem dX12_best_14 : decode cX12_best 14 = .ok (.ifCond .eq 27, 3) := by decide +kernel
theorem dX12_best_17 : decode cX12_best 17 = .ok (.iload_n 3, 1) := by decide +kernel
theorem dX12_best_18 : decode cX12_best 18 = .ok (.invokestatic 161, 3) := by decide +kernel
theorem dX12_best_21 : decode cX12_best 21 = .ok (.ifCond .eq 20, 3) := by decide +kernel
theorem dX12_best_24 : decode cX12_best 24 = .ok (.iload 4, 2) := by decide +kernel
theorem dX12_best_26 : decode cX12_best 26 = .ok (.i2l, 1) := by decide +kernel
theorem dX12_best_27 : decode cX12_best 27 = .ok (.iload_n 3, 1) := by decide +kernel
theorem dX12_best_28 : decode cX12_best 28 = .ok (.i2l, 1) := by decide +kernel
theorem dX12_best_29 : decode cX12_best 29 = .ok (.ldc2_w 316, 3) := by decide +kernel
theorem dX12_best_32 : decode cX12_best 32 = .ok (.iload_n 2, 1) := by decide +kernel
theorem dX12_best_33 : decode cX12_best 33 = .ok (.i2l, 1) := by decide +kernel
theorem dX12_best_34 : decode cX12_best 34 = .ok (.lsub, 1) := by decide +kernel
theorem dX12_best_35 : decode cX12_best 35 = .ok (.invokestatic 139, 3) := by decide +kernel
theorem dX12_best_38 : decode cX12_best 38 = .ok (.ifCond .ne 5, 3) := by decide +kernel
theorem dX12_best_41 : decode cX12_best 41 = .ok (.iconst (-1), 1) := by decide +kernel
theorem dX12_best_42 : decode cX12_best 42 = .ok (.ireturn, 1) := by decide +kernel
theorem dX12_best_43 : decode cX12_best 43 = .ok (.aload_n 0, 1) := by decide +kernel
theorem dX12_best_44 : decode cX12_best 44 = .ok (.iload_n 1, 1) := by decide +kernel
theorem dX12_best_45 : decode cX12_best 45 = .ok (.invokevirtual 188, 3) := by decide +kernel
theorem dX12_best_48 : decode cX12_best 48 = .ok (.ifCond .ne 6, 3) := by decide +kernel
theorem dX12_best_51 : decode cX12_best 51 = .ok (.bipush (-2), 2) := by decide +kernel
theorem dX12_best_53 : decode cX12_best 53 = .ok (.ireturn, 1) := by decide +kernel
theorem dX12_best_54 : decode cX12_best 54 = .ok (.iconst (-1), 1) := by decide +kernel
theorem dX12_best_55 : decode cX12_best 55 = .ok (.istore 5, 2) := by decide +kernel
theorem dX12_best_57 : decode cX12_best 57 = .ok (.iconst 0, 1) := by decide +kernel
theorem dX12_best_58 : decode cX12_best 58 = .ok (.istore 6, 2) := by decide +kernel
theorem dX12_best_60 : decode cX12_best 60 = .ok (.aload_n 0, 1) := by decide +kernel
theorem dX12_best_61 : decode cX12_best 61 = .ok (.dup, 1) := by decide +kernel
theorem dX12_best_62 : decode cX12_best 62 = .ok (.getfield 205, 3) := by decide +kernel
theorem dX12_best_65 : decode cX12_best 65 = .ok (.iconst 1, 1) := by decide +kernel
theorem dX12_best_66 : decode cX12_best 66 = .ok (.iadd, 1) := by decide +kernel
theorem dX12_best_67 : decode cX12_best 67 = .ok (.putfield 205, 3) := by decide +kernel
theorem dX12_best_70 : decode cX12_best 70 = .ok (.aload_n 0, 1) := by decide +kernel
theorem dX12_best_71 : decode cX12_best 71 = .ok (.getfield 70, 3) := by decide +kernel
theorem dX12_best_74 : decode cX12_best 74 = .ok (.aload_n 0, 1) := by decide +kernel
theorem dX12_best_75 : decode cX12_best 75 = .ok (.getfield 205, 3) := by decide +kernel
theorem dX12_best_78 : decode cX12_best 78 = .ok (.iconst 1, 1) := by decide +kernel
theorem dX12_best_79 : decode cX12_best 79 = .ok (.isub, 1) := by decide +kernel
theorem dX12_best_80 : decode cX12_best 80 = .ok (.iload_n 1, 1) := by decide +kernel
theorem dX12_best_81 : decode cX12_best 81 = .ok (.iastore, 1) := by decide +kernel
theorem dX12_best_82 : decode cX12_best 82 = .ok (.iload_n 3, 1) := by decide +kernel
theorem dX12_best_83 : decode cX12_best 83 = .ok (.istore 7, 2) := by decide +kernel
theorem dX12_best_85 : decode cX12_best 85 = .ok (.iload 7, 2) := by decide +kernel
theorem dX12_best_87 : decode cX12_best 87 = .ok (.iload 4, 2) := by decide +kernel
theorem dX12_best_89 : decode cX12_best 89 = .ok (.if_icmp .gt 128, 3) := by decide +kernel
theorem dX12_best_92 : decode cX12_best 92 = .ok (.aload_n 0, 1) := by decide +kernel
theorem dX12_best_93 : decode cX12_best 93 = .ok (.getfield 73, 3) := by decide +kernel
theorem dX12_best_96 : decode cX12_best 96 = .ok (.aload_n 0, 1) := by decide +kernel
theorem dX12_best_97 : decode cX12_best 97 = .ok (.getfield 205, 3) := by decide +kernel
theorem dX12_best_100 : decode cX12_best 100 = .ok (.iconst 1, 1) := by decide +kernel
theorem dX12_best_101 : decode cX12_best 101 = .ok (.isub, 1) := by decide +kernel
theorem dX12_best_102 : decode cX12_best 102 = .ok (.iload 7, 2) := by decide +kernel
theorem dX12_best_104 : decode cX12_best 104 = .ok (.iastore, 1) := by decide +kernel
theorem dX12_best_105 : decode cX12_best 105 = .ok (.aload_n 0, 1) := by decide +kernel
theorem dX12_best_106 : decode cX12_best 106 = .ok (.getfield 76, 3) := by decide +kernel
theorem dX12_best_109 : decode cX12_best 109 = .ok (.aload_n 0, 1) := by decide +kernel
theorem dX12_best_110 : decode cX12_best 110 = .ok (.getfield 205, 3) := by decide +kernel
theorem dX12_best_113 : decode cX12_best 113 = .ok (.iconst 1, 1) := by decide +kernel
theorem dX12_best_114 : decode cX12_best 114 = .ok (.isub, 1) := by decide +kernel
theorem dX12_best_115 : decode cX12_best 115 = .ok (.iload 7, 2) := by decide +kernel
theorem dX12_best_117 : decode cX12_best 117 = .ok (.iload_n 2, 1) := by decide +kernel
theorem dX12_best_118 : decode cX12_best 118 = .ok (.iadd, 1) := by decide +kernel
theorem dX12_best_119 : decode cX12_best 119 = .ok (.iconst 1, 1) := by decide +kernel
theorem dX12_best_120 : decode cX12_best 120 = .ok (.isub, 1) := by decide +kernel
theorem dX12_best_121 : decode cX12_best 121 = .ok (.iastore, 1) := by decide +kernel
theorem dX12_best_122 : decode cX12_best 122 = .ok (.iconst 0, 1) := by decide +kernel
theorem dX12_best_123 : decode cX12_best 123 = .ok (.istore 8, 2) := by decide +kernel
theorem dX12_best_125 : decode cX12_best 125 = .ok (.iload 7, 2) := by decide +kernel
theorem dX12_best_127 : decode cX12_best 127 = .ok (.istore 9, 2) := by decide +kernel
theorem dX12_best_129 : decode cX12_best 129 = .ok (.iload 9, 2) := by decide +kernel
theorem dX12_best_131 : decode cX12_best 131 = .ok (.iload 7, 2) := by decide +kernel
theorem dX12_best_133 : decode cX12_best 133 = .ok (.iload_n 2, 1) := by decide +kernel
theorem dX12_best_134 : decode cX12_best 134 = .ok (.iadd, 1) := by decide +kernel
theorem dX12_best_135 : decode cX12_best 135 = .ok (.if_icmp .ge 56, 3) := by decide +kernel
theorem dX12_best_138 : decode cX12_best 138 = .ok (.aload_n 0, 1) := by decide +kernel
theorem dX12_best_139 : decode cX12_best 139 = .ok (.iload 9, 2) := by decide +kernel
theorem dX12_best_141 : decode cX12_best 141 = .ok (.aload_n 0, 1) := by decide +kernel
theorem dX12_best_142 : decode cX12_best 142 = .ok (.getfield 191, 3) := by decide +kernel
theorem dX12_best_145 : decode cX12_best 145 = .ok (.invokevirtual 309, 3) := by decide +kernel
theorem dX12_best_148 : decode cX12_best 148 = .ok (.iconst 0, 1) := by decide +kernel
theorem dX12_best_149 : decode cX12_best 149 = .ok (.istore 10, 2) := by decide +kernel
theorem dX12_best_151 : decode cX12_best 151 = .ok (.iload 10, 2) := by decide +kernel
theorem dX12_best_153 : decode cX12_best 153 = .ok (.bipush 8, 2) := by decide +kernel
theorem dX12_best_155 : decode cX12_best 155 = .ok (.if_icmp .ge 30, 3) := by decide +kernel
theorem dX12_best_158 : decode cX12_best 158 = .ok (.iload 8, 2) := by decide +kernel
theorem dX12_best_160 : decode cX12_best 160 = .ok (.aload_n 0, 1) := by decide +kernel
theorem dX12_best_161 : decode cX12_best 161 = .ok (.iload 10, 2) := by decide +kernel
theorem dX12_best_163 : decode cX12_best 163 = .ok (.iload 9, 2) := by decide +kernel
theorem dX12_best_165 : decode cX12_best 165 = .ok (.invokevirtual 313, 3) := by decide +kernel
theorem dX12_best_168 : decode cX12_best 168 = .ok (.ifCond .eq 7, 3) := by decide +kernel
theorem dX12_best_171 : decode cX12_best 171 = .ok (.iconst 1, 1) := by decide +kernel
theorem dX12_best_172 : decode cX12_best 172 = .ok (.goto 4, 3) := by decide +kernel
theorem dX12_best_175 : decode cX12_best 175 = .ok (.iconst 0, 1) := by decide +kernel
theorem dX12_best_176 : decode cX12_best 176 = .ok (.iadd, 1) := by decide +kernel
theorem dX12_best_177 : decode cX12_best 177 = .ok (.istore 8, 2) := by decide +kernel
theorem dX12_best_179 : decode cX12_best 179 = .ok (.iinc 10 1, 3) := by decide +kernel
theorem dX12_best_182 : decode cX12_best 182 = .ok (.goto (-31), 3) := by decide +kernel
theorem dX12_best_185 : decode cX12_best 185 = .ok (.iinc 9 1, 3) := by decide +kernel
theorem dX12_best_188 : decode cX12_best 188 = .ok (.goto (-59), 3) := by decide +kernel
theorem dX12_best_191 : decode cX12_best 191 = .ok (.iload 5, 2) := by decide +kernel
theorem dX12_best_193 : decode cX12_best 193 = .ok (.ifCond .lt 10, 3) := by decide +kernel
theorem dX12_best_196 : decode cX12_best 196 = .ok (.iload 8, 2) := by decide +kernel
theorem dX12_best_198 : decode cX12_best 198 = .ok (.iload 6, 2) := by decide +kernel
theorem dX12_best_200 : decode cX12_best 200 = .ok (.if_icmp .ge 11, 3) := by decide +kernel
theorem dX12_best_203 : decode cX12_best 203 = .ok (.iload 7, 2) := by decide +kernel
theorem dX12_best_205 : decode cX12_best 205 = .ok (.istore 5, 2) := by decide +kernel
theorem dX12_best_207 : decode cX12_best 207 = .ok (.iload 8, 2) := by decide +kernel
theorem dX12_best_209 : decode cX12_best 209 = .ok (.istore 6, 2) := by decide +kernel
theorem dX12_best_211 : decode cX12_best 211 = .ok (.iinc 7 1, 3) := by decide +kernel
theorem dX12_best_214 : decode cX12_best 214 = .ok (.goto (-129), 3) := by decide +kernel
theorem dX12_best_217 : decode cX12_best 217 = .ok (.aload_n 0, 1) := by decide +kernel
theorem dX12_best_218 : decode cX12_best 218 = .ok (.dup, 1) := by decide +kernel
theorem dX12_best_219 : decode cX12_best 219 = .ok (.getfield 205, 3) := by decide +kernel
theorem dX12_best_222 : decode cX12_best 222 = .ok (.iconst 1, 1) := by decide +kernel
theorem dX12_best_223 : decode cX12_best 223 = .ok (.isub, 1) := by decide +kernel
theorem dX12_best_224 : decode cX12_best 224 = .ok (.putfield 205, 3) := by decide +kernel
theorem dX12_best_227 : decode cX12_best 227 = .ok (.iload 5, 2) := by decide +kernel
theorem dX12_best_229 : decode cX12_best 229 = .ok (.ireturn, 1) := by decide +kernel
theorem dX12_rent_0 : decode cX12_rent 0 = .ok (.aload_n 0, 1) := by decide +kernel
theorem dX12_rent_1 : decode cX12_rent 1 = .ok (.iconst 0, 1) := by decide +kernel
theorem dX12_rent_2 : decode cX12_rent 2 = .ok (.putfield 131, 3) := by decide +kernel
theorem dX12_rent_5 : decode cX12_rent 5 = .ok (.iload_n 2, 1) := by decide +kernel
theorem dX12_rent_6 : decode cX12_rent 6 = .ok (.invokestatic 161, 3) := by decide +kernel
theorem dX12_rent_9 : decode cX12_rent 9 = .ok (.ifCond .ne 7, 3) := by decide +kernel
theorem dX12_rent_12 : decode cX12_rent 12 = .ok (.ldc2_w 247, 3) := by decide +kernel
theorem dX12_rent_15 : decode cX12_rent 15 = .ok (.lreturn, 1) := by decide +kernel
theorem dX12_rent_16 : decode cX12_rent 16 = .ok (.aload_n 0, 1) := by decide +kernel
theorem dX12_rent_17 : decode cX12_rent 17 = .ok (.iload_n 1, 1) := by decide +kernel
theorem dX12_rent_18 : decode cX12_rent 18 = .ok (.invokevirtual 174, 3) := by decide +kernel
theorem dX12_rent_21 : decode cX12_rent 21 = .ok (.ifCond .ne 7, 3) := by decide +kernel
theorem dX12_rent_24 : decode cX12_rent 24 = .ok (.ldc2_w 318, 3) := by decide +kernel
theorem dX12_rent_27 : decode cX12_rent 27 = .ok (.lreturn, 1) := by decide +kernel
theorem dX12_rent_28 : decode cX12_rent 28 = .ok (.aload_n 0, 1) := by decide +kernel
theorem dX12_rent_29 : decode cX12_rent 29 = .ok (.iload_n 1, 1) := by decide +kernel
theorem dX12_rent_30 : decode cX12_rent 30 = .ok (.iload_n 2, 1) := by decide +kernel
theorem dX12_rent_31 : decode cX12_rent 31 = .ok (.invokevirtual 180, 3) := by decide +kernel
theorem dX12_rent_34 : decode cX12_rent 34 = .ok (.istore_n 3, 1) := by decide +kernel
theorem dX12_rent_35 : decode cX12_rent 35 = .ok (.lconst 0, 1) := by decide +kernel
theorem dX12_rent_36 : decode cX12_rent 36 = .ok (.lstore 4, 2) := by decide +kernel
theorem dX12_rent_38 : decode cX12_rent 38 = .ok (.iconst 0, 1) := by decide +kernel
theorem dX12_rent_39 : decode cX12_rent 39 = .ok (.istore 6, 2) := by decide +kernel
theorem dX12_rent_41 : decode cX12_rent 41 = .ok (.iload 6, 2) := by decide +kernel
theorem dX12_rent_43 : decode cX12_rent 43 = .ok (.aload_n 0, 1) := by decide +kernel
theorem dX12_rent_44 : decode cX12_rent 44 = .ok (.getfield 191, 3) := by decide +kernel
theorem dX12_rent_47 : decode cX12_rent 47 = .ok (.if_icmp .ge 117, 3) := by decide +kernel
theorem dX12_rent_50 : decode cX12_rent 50 = .ok (.aload_n 0, 1) := by decide +kernel
theorem dX12_rent_51 : decode cX12_rent 51 = .ok (.iload 6, 2) := by decide +kernel
theorem dX12_rent_53 : decode cX12_rent 53 = .ok (.iconst 2, 1) := by decide +kernel
theorem dX12_rent_54 : decode cX12_rent 54 = .ok (.invokevirtual 194, 3) := by decide +kernel
theorem dX12_rent_57 : decode cX12_rent 57 = .ok (.istore 7, 2) := by decide +kernel
theorem dX12_rent_59 : decode cX12_rent 59 = .ok (.iload 7, 2) := by decide +kernel
theorem dX12_rent_61 : decode cX12_rent 61 = .ok (.ifCond .eq 97, 3) := by decide +kernel
theorem dX12_rent_64 : decode cX12_rent 64 = .ok (.iload_n 3, 1) := by decide +kernel
theorem dX12_rent_65 : decode cX12_rent 65 = .ok (.iconst (-1), 1) := by decide +kernel
theorem dX12_rent_66 : decode cX12_rent 66 = .ok (.if_icmp .eq 12, 3) := by decide +kernel
theorem dX12_rent_69 : decode cX12_rent 69 = .ok (.iload_n 3, 1) := by decide +kernel
theorem dX12_rent_70 : decode cX12_rent 70 = .ok (.iload 6, 2) := by decide +kernel
theorem dX12_rent_72 : decode cX12_rent 72 = .ok (.if_icmp .ge 6, 3) := by decide +kernel
theorem dX12_rent_75 : decode cX12_rent 75 = .ok (.goto 83, 3) := by decide +kernel
theorem dX12_rent_78 : decode cX12_rent 78 = .ok (.aload_n 0, 1) := by decide +kernel
theorem dX12_rent_79 : decode cX12_rent 79 = .ok (.iload 6, 2) := by decide +kernel
theorem dX12_rent_81 : decode cX12_rent 81 = .ok (.iload_n 2, 1) := by decide +kernel
theorem dX12_rent_82 : decode cX12_rent 82 = .ok (.invokevirtual 309, 3) := by decide +kernel
theorem dX12_rent_85 : decode cX12_rent 85 = .ok (.iconst 0, 1) := by decide +kernel
theorem dX12_rent_86 : decode cX12_rent 86 = .ok (.istore 8, 2) := by decide +kernel
theorem dX12_rent_88 : decode cX12_rent 88 = .ok (.iload 8, 2) := by decide +kernel
theorem dX12_rent_90 : decode cX12_rent 90 = .ok (.aload_n 0, 1) := by decide +kernel
theorem dX12_rent_91 : decode cX12_rent 91 = .ok (.getfield 149, 3) := by decide +kernel
theorem dX12_rent_94 : decode cX12_rent 94 = .ok (.if_icmp .ge 64, 3) := by decide +kernel
theorem dX12_rent_97 : decode cX12_rent 97 = .ok (.lload 4, 2) := by decide +kernel
theorem dX12_rent_99 : decode cX12_rent 99 = .ok (.aload_n 0, 1) := by decide +kernel
theorem dX12_rent_100 : decode cX12_rent 100 = .ok (.getfield 46, 3) := by decide +kernel
theorem dX12_rent_103 : decode cX12_rent 103 = .ok (.iload 8, 2) := by decide +kernel
theorem dX12_rent_105 : decode cX12_rent 105 = .ok (.iaload, 1) := by decide +kernel
theorem dX12_rent_106 : decode cX12_rent 106 = .ok (.iconst 2, 1) := by decide +kernel
theorem dX12_rent_107 : decode cX12_rent 107 = .ok (.if_icmp .ne 41, 3) := by decide +kernel
theorem dX12_rent_110 : decode cX12_rent 110 = .ok (.aload_n 0, 1) := by decide +kernel
theorem dX12_rent_111 : decode cX12_rent 111 = .ok (.getfield 49, 3) := by decide +kernel
theorem dX12_rent_114 : decode cX12_rent 114 = .ok (.iload 8, 2) := by decide +kernel
theorem dX12_rent_116 : decode cX12_rent 116 = .ok (.iaload, 1) := by decide +kernel
theorem dX12_rent_117 : decode cX12_rent 117 = .ok (.iload_n 1, 1) := by decide +kernel
theorem dX12_rent_118 : decode cX12_rent 118 = .ok (.if_icmp .ne 30, 3) := by decide +kernel
theorem dX12_rent_121 : decode cX12_rent 121 = .ok (.aload_n 0, 1) := by decide +kernel
theorem dX12_rent_122 : decode cX12_rent 122 = .ok (.iload 8, 2) := by decide +kernel
theorem dX12_rent_124 : decode cX12_rent 124 = .ok (.iload 6, 2) := by decide +kernel
theorem dX12_rent_126 : decode cX12_rent 126 = .ok (.iload_n 2, 1) := by decide +kernel
theorem dX12_rent_127 : decode cX12_rent 127 = .ok (.invokevirtual 302, 3) := by decide +kernel
theorem dX12_rent_130 : decode cX12_rent 130 = .ok (.ifCond .eq 18, 3) := by decide +kernel
theorem dX12_rent_133 : decode cX12_rent 133 = .ok (.iload 7, 2) := by decide +kernel
theorem dX12_rent_135 : decode cX12_rent 135 = .ok (.i2l, 1) := by decide +kernel
theorem dX12_rent_136 : decode cX12_rent 136 = .ok (.aload_n 0, 1) := by decide +kernel
theorem dX12_rent_137 : decode cX12_rent 137 = .ok (.getfield 119, 3) := by decide +kernel
theorem dX12_rent_140 : decode cX12_rent 140 = .ok (.iload 8, 2) := by decide +kernel
theorem dX12_rent_142 : decode cX12_rent 142 = .ok (.iaload, 1) := by decide +kernel
theorem dX12_rent_143 : decode cX12_rent 143 = .ok (.i2l, 1) := by decide +kernel
theorem dX12_rent_144 : decode cX12_rent 144 = .ok (.lmul, 1) := by decide +kernel
theorem dX12_rent_145 : decode cX12_rent 145 = .ok (.goto 4, 3) := by decide +kernel
theorem dX12_rent_148 : decode cX12_rent 148 = .ok (.lconst 0, 1) := by decide +kernel
theorem dX12_rent_149 : decode cX12_rent 149 = .ok (.ladd, 1) := by decide +kernel
theorem dX12_rent_150 : decode cX12_rent 150 = .ok (.lstore 4, 2) := by decide +kernel
theorem dX12_rent_152 : decode cX12_rent 152 = .ok (.iinc 8 1, 3) := by decide +kernel
theorem dX12_rent_155 : decode cX12_rent 155 = .ok (.goto (-67), 3) := by decide +kernel
theorem dX12_rent_158 : decode cX12_rent 158 = .ok (.iinc 6 1, 3) := by decide +kernel
theorem dX12_rent_161 : decode cX12_rent 161 = .ok (.goto (-120), 3) := by decide +kernel
theorem dX12_rent_164 : decode cX12_rent 164 = .ok (.lload 4, 2) := by decide +kernel
theorem dX12_rent_166 : decode cX12_rent 166 = .ok (.lreturn, 1) := by decide +kernel
theorem dX12_fines_0 : decode cX12_fines 0 = .ok (.aload_n 0, 1) := by decide +kernel
theorem dX12_fines_1 : decode cX12_fines 1 = .ok (.iconst 0, 1) := by decide +kernel
theorem dX12_fines_2 : decode cX12_fines 2 = .ok (.putfield 131, 3) := by decide +kernel
theorem dX12_fines_5 : decode cX12_fines 5 = .ok (.aload_n 0, 1) := by decide +kernel
theorem dX12_fines_6 : decode cX12_fines 6 = .ok (.iload_n 1, 1) := by decide +kernel
theorem dX12_fines_7 : decode cX12_fines 7 = .ok (.invokevirtual 188, 3) := by decide +kernel
theorem dX12_fines_10 : decode cX12_fines 10 = .ok (.ifCond .ne 7, 3) := by decide +kernel
theorem dX12_fines_13 : decode cX12_fines 13 = .ok (.ldc2_w 318, 3) := by decide +kernel
theorem dX12_fines_16 : decode cX12_fines 16 = .ok (.lreturn, 1) := by decide +kernel
theorem dX12_fines_17 : decode cX12_fines 17 = .ok (.lconst 0, 1) := by decide +kernel
theorem dX12_fines_18 : decode cX12_fines 18 = .ok (.lstore_n 2, 1) := by decide +kernel
theorem dX12_fines_19 : decode cX12_fines 19 = .ok (.iconst 0, 1) := by decide +kernel
theorem dX12_fines_20 : decode cX12_fines 20 = .ok (.istore 4, 2) := by decide +kernel
theorem dX12_fines_22 : decode cX12_fines 22 = .ok (.iload 4, 2) := by decide +kernel
theorem dX12_fines_24 : decode cX12_fines 24 = .ok (.aload_n 0, 1) := by decide +kernel
theorem dX12_fines_25 : decode cX12_fines 25 = .ok (.getfield 191, 3) := by decide +kernel
theorem dX12_fines_28 : decode cX12_fines 28 = .ok (.if_icmp .ge 47, 3) := by decide +kernel
theorem dX12_fines_31 : decode cX12_fines 31 = .ok (.aload_n 0, 1) := by decide +kernel
theorem dX12_fines_32 : decode cX12_fines 32 = .ok (.iload 4, 2) := by decide +kernel
theorem dX12_fines_34 : decode cX12_fines 34 = .ok (.iconst 3, 1) := by decide +kernel
theorem dX12_fines_35 : decode cX12_fines 35 = .ok (.invokevirtual 194, 3) := by decide +kernel
theorem dX12_fines_38 : decode cX12_fines 38 = .ok (.istore 5, 2) := by decide +kernel
theorem dX12_fines_40 : decode cX12_fines 40 = .ok (.iload 5, 2) := by decide +kernel
theorem dX12_fines_42 : decode cX12_fines 42 = .ok (.ifCond .le 27, 3) := by decide +kernel
theorem dX12_fines_45 : decode cX12_fines 45 = .ok (.aload_n 0, 1) := by decide +kernel
theorem dX12_fines_46 : decode cX12_fines 46 = .ok (.iload 4, 2) := by decide +kernel
theorem dX12_fines_48 : decode cX12_fines 48 = .ok (.aload_n 0, 1) := by decide +kernel
theorem dX12_fines_49 : decode cX12_fines 49 = .ok (.getfield 191, 3) := by decide +kernel
theorem dX12_fines_52 : decode cX12_fines 52 = .ok (.invokevirtual 309, 3) := by decide +kernel
theorem dX12_fines_55 : decode cX12_fines 55 = .ok (.lload_n 2, 1) := by decide +kernel
theorem dX12_fines_56 : decode cX12_fines 56 = .ok (.iload 5, 2) := by decide +kernel
theorem dX12_fines_58 : decode cX12_fines 58 = .ok (.i2l, 1) := by decide +kernel
theorem dX12_fines_59 : decode cX12_fines 59 = .ok (.aload_n 0, 1) := by decide +kernel
theorem dX12_fines_60 : decode cX12_fines 60 = .ok (.getfield 107, 3) := by decide +kernel
theorem dX12_fines_63 : decode cX12_fines 63 = .ok (.iload_n 1, 1) := by decide +kernel
theorem dX12_fines_64 : decode cX12_fines 64 = .ok (.iaload, 1) := by decide +kernel
theorem dX12_fines_65 : decode cX12_fines 65 = .ok (.i2l, 1) := by decide +kernel
theorem dX12_fines_66 : decode cX12_fines 66 = .ok (.lmul, 1) := by decide +kernel
theorem dX12_fines_67 : decode cX12_fines 67 = .ok (.ladd, 1) := by decide +kernel
theorem dX12_fines_68 : decode cX12_fines 68 = .ok (.lstore_n 2, 1) := by decide +kernel
theorem dX12_fines_69 : decode cX12_fines 69 = .ok (.iinc 4 1, 3) := by decide +kernel
theorem dX12_fines_72 : decode cX12_fines 72 = .ok (.goto (-50), 3) := by decide +kernel
theorem dX12_fines_75 : decode cX12_fines 75 = .ok (.lload_n 2, 1) := by decide +kernel
theorem dX12_fines_76 : decode cX12_fines 76 = .ok (.lreturn, 1) := by decide +kernel
theorem dX12_count_0 : decode cX12_count 0 = .ok (.aload_n 0, 1) := by decide +kernel
theorem dX12_count_1 : decode cX12_count 1 = .ok (.iconst 0, 1) := by decide +kernel
theorem dX12_count_2 : decode cX12_count 2 = .ok (.putfield 131, 3) := by decide +kernel
theorem dX12_count_5 : decode cX12_count 5 = .ok (.iload_n 1, 1) := by decide +kernel
theorem dX12_count_6 : decode cX12_count 6 = .ok (.tableswitch 113 0 10 #[58, 63, 68, 73, 78, 83, 88, 93, 98, 103, 108], 58) := by decide +kernel
theorem dX12_count_64 : decode cX12_count 64 = .ok (.aload_n 0, 1) := by decide +kernel
theorem dX12_count_65 : decode cX12_count 65 = .ok (.getfield 191, 3) := by decide +kernel
theorem dX12_count_68 : decode cX12_count 68 = .ok (.ireturn, 1) := by decide +kernel
theorem dX12_count_69 : decode cX12_count 69 = .ok (.aload_n 0, 1) := by decide +kernel
theorem dX12_count_70 : decode cX12_count 70 = .ok (.getfield 158, 3) := by decide +kernel
theorem dX12_count_73 : decode cX12_count 73 = .ok (.ireturn, 1) := by decide +kernel
theorem dX12_count_74 : decode cX12_count 74 = .ok (.aload_n 0, 1) := by decide +kernel
theorem dX12_count_75 : decode cX12_count 75 = .ok (.getfield 143, 3) := by decide +kernel
theorem dX12_count_78 : decode cX12_count 78 = .ok (.ireturn, 1) := by decide +kernel
theorem dX12_count_79 : decode cX12_count 79 = .ok (.aload_n 0, 1) := by decide +kernel
theorem dX12_count_80 : decode cX12_count 80 = .ok (.getfield 149, 3) := by decide +kernel
theorem dX12_count_83 : decode cX12_count 83 = .ok (.ireturn, 1) := by decide +kernel
theorem dX12_count_84 : decode cX12_count 84 = .ok (.aload_n 0, 1) := by decide +kernel
theorem dX12_count_85 : decode cX12_count 85 = .ok (.getfield 146, 3) := by decide +kernel
theorem dX12_count_88 : decode cX12_count 88 = .ok (.ireturn, 1) := by decide +kernel
theorem dX12_count_89 : decode cX12_count 89 = .ok (.aload_n 0, 1) := by decide +kernel
theorem dX12_count_90 : decode cX12_count 90 = .ok (.getfield 177, 3) := by decide +kernel
theorem dX12_count_93 : decode cX12_count 93 = .ok (.ireturn, 1) := by decide +kernel
theorem dX12_count_94 : decode cX12_count 94 = .ok (.aload_n 0, 1) := by decide +kernel
theorem dX12_count_95 : decode cX12_count 95 = .ok (.getfield 202, 3) := by decide +kernel
theorem dX12_count_98 : decode cX12_count 98 = .ok (.ireturn, 1) := by decide +kernel
theorem dX12_count_99 : decode cX12_count 99 = .ok (.aload_n 0, 1) := by decide +kernel
theorem dX12_count_100 : decode cX12_count 100 = .ok (.getfield 205, 3) := by decide +kernel
theorem dX12_count_103 : decode cX12_count 103 = .ok (.ireturn, 1) := by decide +kernel
theorem dX12_count_104 : decode cX12_count 104 = .ok (.aload_n 0, 1) := by decide +kernel
theorem dX12_count_105 : decode cX12_count 105 = .ok (.getfield 210, 3) := by decide +kernel
theorem dX12_count_108 : decode cX12_count 108 = .ok (.ireturn, 1) := by decide +kernel
theorem dX12_count_109 : decode cX12_count 109 = .ok (.aload_n 0, 1) := by decide +kernel
theorem dX12_count_110 : decode cX12_count 110 = .ok (.getfield 217, 3) := by decide +kernel
theorem dX12_count_113 : decode cX12_count 113 = .ok (.ireturn, 1) := by decide +kernel
theorem dX12_count_114 : decode cX12_count 114 = .ok (.aload_n 0, 1) := by decide +kernel
theorem dX12_count_115 : decode cX12_count 115 = .ok (.getfield 165, 3) := by decide +kernel
theorem dX12_count_118 : decode cX12_count 118 = .ok (.ireturn, 1) := by decide +kernel
theorem dX12_count_119 : decode cX12_count 119 = .ok (.iconst (-1), 1) := by decide +kernel
theorem dX12_count_120 : decode cX12_count 120 = .ok (.ireturn, 1) := by decide +kernel
theorem dX12_status_0 : decode cX12_status 0 = .ok (.aload_n 0, 1) := by decide +kernel
theorem dX12_status_1 : decode cX12_status 1 = .ok (.iconst 0, 1) := by decide +kernel
theorem dX12_status_2 : decode cX12_status 2 = .ok (.putfield 131, 3) := by decide +kernel
theorem dX12_status_5 : decode cX12_status 5 = .ok (.aload_n 0, 1) := by decide +kernel
theorem dX12_status_6 : decode cX12_status 6 = .ok (.getfield 134, 3) := by decide +kernel
theorem dX12_status_9 : decode cX12_status 9 = .ok (.ireturn, 1) := by decide +kernel
theorem dJ9_max_7cf53_0 : decode cJ9_max_7cf53 0 = .ok (.iload_n 0, 1) := by decide +kernel
theorem dJ9_max_7cf53_1 : decode cJ9_max_7cf53 1 = .ok (.iload_n 1, 1) := by decide +kernel
theorem dJ9_max_7cf53_2 : decode cJ9_max_7cf53 2 = .ok (.if_icmp .lt 7, 3) := by decide +kernel
theorem dJ9_max_7cf53_5 : decode cJ9_max_7cf53 5 = .ok (.iload_n 0, 1) := by decide +kernel
theorem dJ9_max_7cf53_6 : decode cJ9_max_7cf53 6 = .ok (.goto 4, 3) := by decide +kernel
theorem dJ9_max_7cf53_9 : decode cJ9_max_7cf53 9 = .ok (.iload_n 1, 1) := by decide +kernel
theorem dJ9_max_7cf53_10 : decode cJ9_max_7cf53 10 = .ok (.ireturn, 1) := by decide +kernel
theorem dJ9_min_7cf53_0 : decode cJ9_min_7cf53 0 = .ok (.iload_n 0, 1) := by decide +kernel
theorem dJ9_min_7cf53_1 : decode cJ9_min_7cf53 1 = .ok (.iload_n 1, 1) := by decide +kernel
theorem dJ9_min_7cf53_2 : decode cJ9_min_7cf53 2 = .ok (.if_icmp .gt 7, 3) := by decide +kernel
theorem dJ9_min_7cf53_5 : decode cJ9_min_7cf53 5 = .ok (.iload_n 0, 1) := by decide +kernel
theorem dJ9_min_7cf53_6 : decode cJ9_min_7cf53 6 = .ok (.goto 4, 3) := by decide +kernel
theorem dJ9_min_7cf53_9 : decode cJ9_min_7cf53 9 = .ok (.iload_n 1, 1) := by decide +kernel
theorem dJ9_min_7cf53_10 : decode cJ9_min_7cf53 10 = .ok (.ireturn, 1) := by decide +kernel
theorem dJ0_length_8abf5_0 : decode cJ0_length_8abf5 0 = .ok (.aload_n 0, 1) := by decide +kernel
theorem dJ0_length_8abf5_1 : decode cJ0_length_8abf5 1 = .ok (.getfield 9, 3) := by decide +kernel
theorem dJ0_length_8abf5_4 : decode cJ0_length_8abf5 4 = .ok (.arraylength, 1) := by decide +kernel
theorem dJ0_length_8abf5_5 : decode cJ0_length_8abf5 5 = .ok (.aload_n 0, 1) := by decide +kernel
theorem dJ0_length_8abf5_6 : decode cJ0_length_8abf5 6 = .ok (.invokevirtual 335, 3) := by decide +kernel
theorem dJ0_length_8abf5_9 : decode cJ0_length_8abf5 9 = .ok (.ishr, 1) := by decide +kernel
theorem dJ0_length_8abf5_10 : decode cJ0_length_8abf5 10 = .ok (.ireturn, 1) := by decide +kernel
theorem dJ0_charAt_5068e_0 : decode cJ0_charAt_5068e 0 = .ok (.aload_n 0, 1) := by decide +kernel
theorem dJ0_charAt_5068e_1 : decode cJ0_charAt_5068e 1 = .ok (.invokevirtual 492, 3) := by decide +kernel
theorem dJ0_charAt_5068e_4 : decode cJ0_charAt_5068e 4 = .ok (.ifCond .eq 12, 3) := by decide +kernel
theorem dJ0_charAt_5068e_7 : decode cJ0_charAt_5068e 7 = .ok (.aload_n 0, 1) := by decide +kernel
theorem dJ0_charAt_5068e_8 : decode cJ0_charAt_5068e 8 = .ok (.getfield 9, 3) := by decide +kernel
theorem dJ0_charAt_5068e_11 : decode cJ0_charAt_5068e 11 = .ok (.iload_n 1, 1) := by decide +kernel
theorem dJ0_charAt_5068e_12 : decode cJ0_charAt_5068e 12 = .ok (.invokestatic 495, 3) := by decide +kernel
theorem dJ0_charAt_5068e_15 : decode cJ0_charAt_5068e 15 = .ok (.ireturn, 1) := by decide +kernel
theorem dJ0_charAt_5068e_16 : decode cJ0_charAt_5068e 16 = .ok (.aload_n 0, 1) := by decide +kernel
theorem dJ0_charAt_5068e_17 : decode cJ0_charAt_5068e 17 = .ok (.getfield 9, 3) := by decide +kernel
theorem dJ0_charAt_5068e_20 : decode cJ0_charAt_5068e 20 = .ok (.iload_n 1, 1) := by decide +kernel
theorem dJ0_charAt_5068e_21 : decode cJ0_charAt_5068e 21 = .ok (.invokestatic 498, 3) := by decide +kernel
theorem dJ0_charAt_5068e_24 : decode cJ0_charAt_5068e 24 = .ok (.ireturn, 1) := by decide +kernel
theorem dJ0_coder_7d493_0 : decode cJ0_coder_7d493 0 = .ok (.getstatic 38, 3) := by decide +kernel
theorem dJ0_coder_7d493_3 : decode cJ0_coder_7d493 3 = .ok (.ifCond .eq 10, 3) := by decide +kernel
theorem dJ0_coder_7d493_6 : decode cJ0_coder_7d493 6 = .ok (.aload_n 0, 1) := by decide +kernel
theorem dJ0_coder_7d493_7 : decode cJ0_coder_7d493 7 = .ok (.getfield 15, 3) := by decide +kernel
theorem dJ0_coder_7d493_10 : decode cJ0_coder_7d493 10 = .ok (.goto 4, 3) := by decide +kernel
theorem dJ0_coder_7d493_13 : decode cJ0_coder_7d493 13 = .ok (.iconst 1, 1) := by decide +kernel
theorem dJ0_coder_7d493_14 : decode cJ0_coder_7d493 14 = .ok (.ireturn, 1) := by decide +kernel
theorem dJ0_isLatin1_aae02_0 : decode cJ0_isLatin1_aae02 0 = .ok (.getstatic 38, 3) := by decide +kernel
theorem dJ0_isLatin1_aae02_3 : decode cJ0_isLatin1_aae02 3 = .ok (.ifCond .eq 14, 3) := by decide +kernel
theorem dJ0_isLatin1_aae02_6 : decode cJ0_isLatin1_aae02 6 = .ok (.aload_n 0, 1) := by decide +kernel
theorem dJ0_isLatin1_aae02_7 : decode cJ0_isLatin1_aae02 7 = .ok (.getfield 15, 3) := by decide +kernel
theorem dJ0_isLatin1_aae02_10 : decode cJ0_isLatin1_aae02 10 = .ok (.ifCond .ne 7, 3) := by decide +kernel
theorem dJ0_isLatin1_aae02_13 : decode cJ0_isLatin1_aae02 13 = .ok (.iconst 1, 1) := by decide +kernel
theorem dJ0_isLatin1_aae02_14 : decode cJ0_isLatin1_aae02 14 = .ok (.goto 4, 3) := by decide +kernel
theorem dJ0_isLatin1_aae02_17 : decode cJ0_isLatin1_aae02 17 = .ok (.iconst 0, 1) := by decide +kernel
theorem dJ0_isLatin1_aae02_18 : decode cJ0_isLatin1_aae02 18 = .ok (.ireturn, 1) := by decide +kernel
theorem dJ0_checkIndex_df160_0 : decode cJ0_checkIndex_df160 0 = .ok (.iload_n 0, 1) := by decide +kernel
theorem dJ0_checkIndex_df160_1 : decode cJ0_checkIndex_df160 1 = .ok (.iload_n 1, 1) := by decide +kernel
theorem dJ0_checkIndex_df160_2 : decode cJ0_checkIndex_df160 2 = .ok (.getstatic 1053, 3) := by decide +kernel
theorem dJ0_checkIndex_df160_5 : decode cJ0_checkIndex_df160 5 = .ok (.invokestatic 1059, 3) := by decide +kernel
theorem dJ0_checkIndex_df160_8 : decode cJ0_checkIndex_df160 8 = .ok (.pop, 1) := by decide +kernel
theorem dJ0_checkIndex_df160_9 : decode cJ0_checkIndex_df160 9 = .ok (.return_, 1) := by decide +kernel
theorem dJ1_charAt_3b067_0 : decode cJ1_charAt_3b067 0 = .ok (.iload_n 1, 1) := by decide +kernel
theorem dJ1_charAt_3b067_1 : decode cJ1_charAt_3b067 1 = .ok (.aload_n 0, 1) := by decide +kernel
theorem dJ1_charAt_3b067_2 : decode cJ1_charAt_3b067 2 = .ok (.arraylength, 1) := by decide +kernel
theorem dJ1_charAt_3b067_3 : decode cJ1_charAt_3b067 3 = .ok (.invokestatic 9, 3) := by decide +kernel
theorem dJ1_charAt_3b067_6 : decode cJ1_charAt_3b067 6 = .ok (.aload_n 0, 1) := by decide +kernel
theorem dJ1_charAt_3b067_7 : decode cJ1_charAt_3b067 7 = .ok (.iload_n 1, 1) := by decide +kernel
theorem dJ1_charAt_3b067_8 : decode cJ1_charAt_3b067 8 = .ok (.baload, 1) := by decide +kernel
theorem dJ1_charAt_3b067_9 : decode cJ1_charAt_3b067 9 = .ok (.sipush 255, 3) := by decide +kernel
theorem dJ1_charAt_3b067_12 : decode cJ1_charAt_3b067 12 = .ok (.iand, 1) := by decide +kernel
theorem dJ1_charAt_3b067_13 : decode cJ1_charAt_3b067 13 = .ok (.i2c, 1) := by decide +kernel
theorem dJ1_charAt_3b067_14 : decode cJ1_charAt_3b067 14 = .ok (.ireturn, 1) := by decide +kernel
theorem dJ2_getChar_3b067_0 : decode cJ2_getChar_3b067 0 = .ok (.getstatic 44, 3) := by decide +kernel
theorem dJ2_getChar_3b067_3 : decode cJ2_getChar_3b067 3 = .ok (.ifCond .ne 25, 3) := by decide +kernel
theorem dJ2_getChar_3b067_6 : decode cJ2_getChar_3b067 6 = .ok (.iload_n 1, 1) := by decide +kernel
theorem dJ2_getChar_3b067_7 : decode cJ2_getChar_3b067 7 = .ok (.ifCond .lt 11, 3) := by decide +kernel
theorem dJ2_getChar_3b067_10 : decode cJ2_getChar_3b067 10 = .ok (.iload_n 1, 1) := by decide +kernel
theorem dJ2_getChar_3b067_11 : decode cJ2_getChar_3b067 11 = .ok (.aload_n 0, 1) := by decide +kernel
theorem dJ2_getChar_3b067_12 : decode cJ2_getChar_3b067 12 = .ok (.invokestatic 48, 3) := by decide +kernel
theorem dJ2_getChar_3b067_15 : decode cJ2_getChar_3b067 15 = .ok (.if_icmp .lt 13, 3) := by decide +kernel
theorem dJ2_getChar_3b067_18 : decode cJ2_getChar_3b067 18 = .ok (.new 52, 3) := by decide +kernel
theorem dJ2_getChar_3b067_21 : decode cJ2_getChar_3b067 21 = .ok (.dup, 1) := by decide +kernel
theorem dJ2_getChar_3b067_22 : decode cJ2_getChar_3b067 22 = .ok (.ldc 54, 2) := by decide +kernel
theorem dJ2_getChar_3b067_24 : decode cJ2_getChar_3b067 24 = .ok (.invokespecial 56, 3) := by decide +kernel
theorem dJ2_getChar_3b067_27 : decode cJ2_getChar_3b067 27 = .ok (.athrow, 1) := by decide +kernel
theorem dJ2_getChar_3b067_28 : decode cJ2_getChar_3b067 28 = .ok (.iload_n 1, 1) := by decide +kernel
theorem dJ2_getChar_3b067_29 : decode cJ2_getChar_3b067 29 = .ok (.iconst 1, 1) := by decide +kernel
theorem dJ2_getChar_3b067_30 : decode cJ2_getChar_3b067 30 = .ok (.ishl, 1) := by decide +kernel
theorem dJ2_getChar_3b067_31 : decode cJ2_getChar_3b067 31 = .ok (.istore_n 1, 1) := by decide +kernel
theorem dJ2_getChar_3b067_32 : decode cJ2_getChar_3b067 32 = .ok (.aload_n 0, 1) := by decide +kernel
theorem dJ2_getChar_3b067_33 : decode cJ2_getChar_3b067 33 = .ok (.iload_n 1, 1) := by decide +kernel
theorem dJ2_getChar_3b067_34 : decode cJ2_getChar_3b067 34 = .ok (.iinc 1 1, 3) := by decide +kernel
theorem dJ2_getChar_3b067_37 : decode cJ2_getChar_3b067 37 = .ok (.baload, 1) := by decide +kernel
theorem dJ2_getChar_3b067_38 : decode cJ2_getChar_3b067 38 = .ok (.sipush 255, 3) := by decide +kernel
theorem dJ2_getChar_3b067_41 : decode cJ2_getChar_3b067 41 = .ok (.iand, 1) := by decide +kernel
theorem dJ2_getChar_3b067_42 : decode cJ2_getChar_3b067 42 = .ok (.getstatic 59, 3) := by decide +kernel
theorem dJ2_getChar_3b067_45 : decode cJ2_getChar_3b067 45 = .ok (.ishl, 1) := by decide +kernel
theorem dJ2_getChar_3b067_46 : decode cJ2_getChar_3b067 46 = .ok (.aload_n 0, 1) := by decide +kernel
theorem dJ2_getChar_3b067_47 : decode cJ2_getChar_3b067 47 = .ok (.iload_n 1, 1) := by decide +kernel
theorem dJ2_getChar_3b067_48 : decode cJ2_getChar_3b067 48 = .ok (.baload, 1) := by decide +kernel
theorem dJ2_getChar_3b067_49 : decode cJ2_getChar_3b067 49 = .ok (.sipush 255, 3) := by decide +kernel
theorem dJ2_getChar_3b067_52 : decode cJ2_getChar_3b067 52 = .ok (.iand, 1) := by decide +kernel
theorem dJ2_getChar_3b067_53 : decode cJ2_getChar_3b067 53 = .ok (.getstatic 63, 3) := by decide +kernel
theorem dJ2_getChar_3b067_56 : decode cJ2_getChar_3b067 56 = .ok (.ishl, 1) := by decide +kernel
theorem dJ2_getChar_3b067_57 : decode cJ2_getChar_3b067 57 = .ok (.ior, 1) := by decide +kernel
theorem dJ2_getChar_3b067_58 : decode cJ2_getChar_3b067 58 = .ok (.i2c, 1) := by decide +kernel
theorem dJ2_getChar_3b067_59 : decode cJ2_getChar_3b067 59 = .ok (.ireturn, 1) := by decide +kernel
theorem dJ2_length_9d52b_0 : decode cJ2_length_9d52b 0 = .ok (.aload_n 0, 1) := by decide +kernel
theorem dJ2_length_9d52b_1 : decode cJ2_length_9d52b 1 = .ok (.arraylength, 1) := by decide +kernel
theorem dJ2_length_9d52b_2 : decode cJ2_length_9d52b 2 = .ok (.iconst 1, 1) := by decide +kernel
theorem dJ2_length_9d52b_3 : decode cJ2_length_9d52b 3 = .ok (.ishr, 1) := by decide +kernel
theorem dJ2_length_9d52b_4 : decode cJ2_length_9d52b 4 = .ok (.ireturn, 1) := by decide +kernel
theorem dJ2_charAt_3b067_0 : decode cJ2_charAt_3b067 0 = .ok (.iload_n 1, 1) := by decide +kernel
theorem dJ2_charAt_3b067_1 : decode cJ2_charAt_3b067 1 = .ok (.aload_n 0, 1) := by decide +kernel
theorem dJ2_charAt_3b067_2 : decode cJ2_charAt_3b067 2 = .ok (.invokestatic 67, 3) := by decide +kernel
theorem dJ2_charAt_3b067_5 : decode cJ2_charAt_3b067 5 = .ok (.aload_n 0, 1) := by decide +kernel
theorem dJ2_charAt_3b067_6 : decode cJ2_charAt_3b067 6 = .ok (.iload_n 1, 1) := by decide +kernel
theorem dJ2_charAt_3b067_7 : decode cJ2_charAt_3b067 7 = .ok (.invokestatic 71, 3) := by decide +kernel
theorem dJ2_charAt_3b067_10 : decode cJ2_charAt_3b067 10 = .ok (.ireturn, 1) := by decide +kernel
theorem dJ2_checkIndex_2214a_0 : decode cJ2_checkIndex_2214a 0 = .ok (.iload_n 0, 1) := by decide +kernel
theorem dJ2_checkIndex_2214a_1 : decode cJ2_checkIndex_2214a 1 = .ok (.aload_n 1, 1) := by decide +kernel
theorem dJ2_checkIndex_2214a_2 : decode cJ2_checkIndex_2214a 2 = .ok (.invokestatic 48, 3) := by decide +kernel
theorem dJ2_checkIndex_2214a_5 : decode cJ2_checkIndex_2214a 5 = .ok (.invokestatic 414, 3) := by decide +kernel
theorem dJ2_checkIndex_2214a_8 : decode cJ2_checkIndex_2214a 8 = .ok (.return_, 1) := by decide +kernel
theorem dJ3_checkIndex_8e157_0 : decode cJ3_checkIndex_8e157 0 = .ok (.iload_n 0, 1) := by decide +kernel
theorem dJ3_checkIndex_8e157_1 : decode cJ3_checkIndex_8e157 1 = .ok (.ifCond .lt 8, 3) := by decide +kernel
theorem dJ3_checkIndex_8e157_4 : decode cJ3_checkIndex_8e157 4 = .ok (.iload_n 0, 1) := by decide +kernel
theorem dJ3_checkIndex_8e157_5 : decode cJ3_checkIndex_8e157 5 = .ok (.iload_n 1, 1) := by decide +kernel
theorem dJ3_checkIndex_8e157_6 : decode cJ3_checkIndex_8e157 6 = .ok (.if_icmp .lt 10, 3) := by decide +kernel
theorem dJ3_checkIndex_8e157_9 : decode cJ3_checkIndex_8e157 9 = .ok (.aload_n 2, 1) := by decide +kernel
theorem dJ3_checkIndex_8e157_10 : decode cJ3_checkIndex_8e157 10 = .ok (.iload_n 0, 1) := by decide +kernel
theorem dJ3_checkIndex_8e157_11 : decode cJ3_checkIndex_8e157 11 = .ok (.iload_n 1, 1) := by decide +kernel
theorem dJ3_checkIndex_8e157_12 : decode cJ3_checkIndex_8e157 12 = .ok (.invokestatic 95, 3) := by decide +kernel
theorem dJ3_checkIndex_8e157_15 : decode cJ3_checkIndex_8e157 15 = .ok (.athrow, 1) := by decide +kernel
theorem dJ3_checkIndex_8e157_16 : decode cJ3_checkIndex_8e157 16 = .ok (.iload_n 0, 1) := by decide +kernel
theorem dJ3_checkIndex_8e157_17 : decode cJ3_checkIndex_8e157 17 = .ok (.ireturn, 1) := by decide +kernel
end
section
/-! ===== the words of the tables that every method takes along; what a frame knows of the machine ===== -/
def TB : List Cond := lw_tbl.filter goodWord
theorem tb_at {w : Cond} (i : Nat) (h : lw_tbl[i]? = some w) (hg : goodWord w = true) : w ∈ TB := List.mem_filter.mpr ⟨List.mem_of_getElem? h, hg⟩
def WS (y : MethodName) (cc : ByteArray) (n : Nat) (r : Option FieldType) : List Cond := .code y cc n r :: TB
theorem ws_good {y y' : MethodName} {cc cc' : ByteArray} {n n' : Nat} {r r' : Option FieldType} (h : Cond.code y cc n r ∈ TB) : GoodIn (WS y' cc' n' r') (WS y cc n r) := by
  intro w hw
  have hm : w ∈ TB := by
    rcases List.mem_cons.mp hw with e | e
    · rw [e]; exact h
    · exact e
  exact ⟨List.mem_cons_of_mem _ hm, good_of_word (List.mem_filter.mp hm).2⟩
theorem tb_good {y : MethodName} {cc : ByteArray} {n : Nat} {r : Option FieldType} (h : Cond.code y cc n r ∈ TB) : GoodIn TB (WS y cc n r) := by
  intro w hw
  have hm : w ∈ TB := by
    rcases List.mem_cons.mp hw with e | e
    · rw [e]; exact h
    · exact e
  exact ⟨hm, good_of_word (List.mem_filter.mp hm).2⟩

def NL : List Cond := [Cond.methodLinkNest RX11 11 yX10_init RX11, Cond.methodLinkNest RX5 11 yX4_init RX11, Cond.methodLinkNest RX11 27 yX4_init RX11, Cond.methodLinkNest RX11 34 yX1_init RX11, Cond.methodLinkNest RX11 41 yX9_init RX11, Cond.methodLinkNest RX11 48 yX0_init RX11, Cond.methodLinkNest RX11 55 yX6_init RX11, Cond.methodLinkNest RX2 11 yX7_init RX11, Cond.methodLinkNest RX9 31 yX11_isWithin RX11, Cond.methodLinkNest RX0 34 yX11_isWithin RX11, Cond.methodLinkNest RX3 22 yX11_isWithin RX11, Cond.methodLinkNest RX4 38 yX11_isWithin RX11, Cond.methodLinkNest RX6 40 yX11_isWithin RX11, Cond.methodLinkNest RX5 119 yX11_isWithin RX11, Cond.methodLinkNest RX8 38 yX11_isWithin RX11]
theorem nl_form : ∀ w ∈ NL, ∃ (a : String) (i : Nat) (x : MethodName) (b : String), w = .methodLinkNest a i x b := by
  intro w hw
  simp only [NL, List.mem_cons, List.not_mem_nil, or_false] at hw
  rcases hw with rfl | rfl | rfl | rfl | rfl | rfl | rfl | rfl | rfl | rfl | rfl | rfl | rfl | rfl | rfl <;> exact ⟨_, _, _, _, rfl⟩
theorem nl_X11_11 : Cond.methodLinkNest RX11 11 yX10_init RX11 ∈ NL := List.mem_of_getElem? (i := 0) rfl
theorem nl_X5_11 : Cond.methodLinkNest RX5 11 yX4_init RX11 ∈ NL := List.mem_of_getElem? (i := 1) rfl
theorem nl_X11_27 : Cond.methodLinkNest RX11 27 yX4_init RX11 ∈ NL := List.mem_of_getElem? (i := 2) rfl
theorem nl_X11_34 : Cond.methodLinkNest RX11 34 yX1_init RX11 ∈ NL := List.mem_of_getElem? (i := 3) rfl
theorem nl_X11_41 : Cond.methodLinkNest RX11 41 yX9_init RX11 ∈ NL := List.mem_of_getElem? (i := 4) rfl
theorem nl_X11_48 : Cond.methodLinkNest RX11 48 yX0_init RX11 ∈ NL := List.mem_of_getElem? (i := 5) rfl
theorem nl_X11_55 : Cond.methodLinkNest RX11 55 yX6_init RX11 ∈ NL := List.mem_of_getElem? (i := 6) rfl
theorem nl_X2_11 : Cond.methodLinkNest RX2 11 yX7_init RX11 ∈ NL := List.mem_of_getElem? (i := 7) rfl
theorem nl_X9_31 : Cond.methodLinkNest RX9 31 yX11_isWithin RX11 ∈ NL := List.mem_of_getElem? (i := 8) rfl
theorem nl_X0_34 : Cond.methodLinkNest RX0 34 yX11_isWithin RX11 ∈ NL := List.mem_of_getElem? (i := 9) rfl
theorem nl_X3_22 : Cond.methodLinkNest RX3 22 yX11_isWithin RX11 ∈ NL := List.mem_of_getElem? (i := 10) rfl
theorem nl_X4_38 : Cond.methodLinkNest RX4 38 yX11_isWithin RX11 ∈ NL := List.mem_of_getElem? (i := 11) rfl
theorem nl_X6_40 : Cond.methodLinkNest RX6 40 yX11_isWithin RX11 ∈ NL := List.mem_of_getElem? (i := 12) rfl
theorem nl_X5_119 : Cond.methodLinkNest RX5 119 yX11_isWithin RX11 ∈ NL := List.mem_of_getElem? (i := 13) rfl
theorem nl_X8_38 : Cond.methodLinkNest RX8 38 yX11_isWithin RX11 ∈ NL := List.mem_of_getElem? (i := 14) rfl
/-- the array classes: bytes, ints, booleans, rows of ints -/
def TY (cy : Nat → ClassId) : List (ClassId × FieldType) := [(cy 0, .byte), (cy 1, .int), (cy 2, .boolean), (cy 3, .array .int)]
/-- what stays of the tables through every call: classes, arrays, links among nest mates -/
def KK (D : va_G) (cy : Nat → ClassId) (U : State) : Prop := va_K D vwCl (TY cy) U ∧ ∀ w ∈ NL, va_Nw w U
theorem KK.warm {D : va_G} {cy : Nat → ClassId} {s U : State} (hW : s.WarmedH U.vm) (h : KK D cy s) : KK D cy U := by
  refine ⟨va_K.moved hW.alike h.1, fun w hw => ?_⟩
  obtain ⟨a, i, x, b, rfl⟩ := nl_form w hw
  exact va_Nw.warmM hW (h.2 _ hw)
theorem KK.call {D : va_G} {cy : Nat → ClassId} {U : State} {g : JFrame} {mk : MethodId} {a : Array Value} (h : KK D cy U) : KK D cy (U.calling g mk a) := by
  refine ⟨va_K.moved (u := U) (U := U.calling g mk a) (Vm.Alike.refl U.vm) h.1, fun w hw => ?_⟩
  obtain ⟨a, i, x, b, rfl⟩ := nl_form w hw
  exact va_Nw.same rfl rfl (h.2 _ hw)
/-- a frame's ground: machine, bytes, locals, class, words, tables -/
def EV (p : Program) (s : State) (m : MethodId) (c : Code) (args : Array Value) (cc : ByteArray) (own : String) (nL : Nat) (D : va_G) (cy : Nat → ClassId) : Prop :=
  p.tables.exec = Jvm.exec ∧ c.code = cc ∧ c.maxLocals = nL ∧ s.vm.findClass own = some m.cls ∧ (∀ w ∈ TB, w.before args s = true) ∧ KK D cy s
/-- the heap now: the cells ws, apart, and nothing outside A changed since the frame's start -/
def HW (D : va_G) (A : Nat → Prop) (s : State) (ws : va_W) (H : Heap) (locs : List Loc) : Prop := va_P D vwCl ws H ∧ va_D A ws ∧ va_S A s.heap H locs
theorem va_D_fst {A : Nat → Prop} {ws ws' : va_W} (h : ws'.map (fun q => q.1) = ws.map (fun q => q.1)) (hD : va_D A ws) : va_D A ws' := by
  have key : ∀ (k : Nat) (q : Nat × va_E), ws'[k]? = some q → ∃ q0, ws[k]? = some q0 ∧ q0.1 = q.1 := by
    intro k q hk
    have h1 : (ws'.map (fun q => q.1))[k]? = some q.1 := by rw [List.getElem?_map, hk]; rfl
    rw [h, List.getElem?_map] at h1
    cases h2 : ws[k]? with
    | none => rw [h2] at h1; cases h1
    | some q0 => rw [h2] at h1; exact ⟨q0, rfl, Option.some.inj h1⟩
  refine ⟨fun i j x y hi hj hxy => ?_, fun k q hk => ?_⟩
  · obtain ⟨x0, h1, h2⟩ := key i x hi
    obtain ⟨y0, h3, h4⟩ := key j y hj
    exact hD.1 i j x0 y0 h1 h3 (h2.trans (hxy.trans h4.symm))
  · obtain ⟨q0, h1, h2⟩ := key k q hk
    rw [← h2]
    exact hD.2 k q0 h1
section RW
variable {p : Program} {l : Launch} {e : Env} {R : Room} {s : State} {m : MethodId} {args : Array Value} {below : List Frame} {meth : Method} {c : Code} {H : Heap} {locs : List Loc} {cells slots : Nat} {Q : State → Prop}
variable {cc : ByteArray} {pc : Nat} {ls : Array Slot} {rest : List Value} {D : va_G} {A : Nat → Prop} {a : Nat} {ws ws' : va_W} {own : String} {nL : Nat} {cy : Nat → ClassId}
theorem r_get (E : EV p s m c args cc own nL D cy) (h : HW D A s ws H locs) {q0 ci index N : Nat} {fs : List Value} {C : String} {T : u_T} (k : Nat) {v : Value} (he : ws[q0]? = some (a, .inr (ci, fs))) (hc : vwCl[ci]? = some (C, T, N)) (hin : ∀ w ∈ u_ws C T N, w ∈ TB) (hk : k < N) (hl : Cond.fieldLink own index (T k).1 (T k).2.1 (T k).2.2.1 ∈ TB) (hv : fs[k]? = some v) (hdg : decode cc pc = .ok (.getfield index, 3))
    (kk : W p l e R s m args below meth c H locs cells slots Q (F0 m (pc + 3) ls (v :: rest))) : W p l e R s m args below meth c H locs cells slots Q (F0 m pc ls (.ref a :: rest)) :=
  va_get (ref := (T k).1) E.1 E.2.1 E.2.2.2.2.1 hin E.2.2.2.1 E.2.2.2.2.2.1 h.1 q0 he hc k hk (E.2.2.2.2.1 _ hl) (fun _ h9 => h9) hv hdg kk
theorem r_put (E : EV p s m c args cc own nL D cy) (h : HW D A s ws H locs) {q0 ci index N : Nat} {fs : List Value} {C : String} {T : u_T} {ty0 : Nat → FieldType} {ty : FieldType} (k : Nat) {v : Value} (he : ws[q0]? = some (a, .inr (ci, fs))) (hc : vwCl[ci]? = some (C, T, N)) (hin : ∀ w ∈ u_ws C T N, w ∈ TB) (hty : ∀ k, k < N → parseFieldDescriptor (T k).2.2.1 = some (ty0 k)) (hnm : ∀ a, a < N → ∀ b, b < N → a ≠ b → (T a).2.1 ≠ (T b).2.1) (hk : k < N) (hl : Cond.fieldLink own index (T k).1 (T k).2.1 (T k).2.2.1 ∈ TB) (hfin : (T k).2.2.2 = false) (hd : parseFieldDescriptor (T k).2.2.1 = some ty) (hn : narrow ty v = v) (hfit : fits ty v = true) (hlen : k < fs.length) (hw : ws.set q0 (a, .inr (ci, fs.set k v)) = ws') (hdg : decode cc pc = .ok (.putfield index, 3))
    (kk : ∀ (H1 : Heap) (locs1 : List Loc), HW D A s ws' H1 locs1 → W p l e R s m args below meth c H1 locs1 cells slots Q (F0 m (pc + 3) ls rest)) : W p l e R s m args below meth c H locs cells slots Q (F0 m pc ls (v :: .ref a :: rest)) := by
  subst hw
  exact va_put (ref := (T k).1) E.1 E.2.1 E.2.2.2.2.1 hin ty0 hty hnm E.2.2.2.1 E.2.2.2.2.2.1 h.1 h.2.1 h.2.2 q0 he hc k hk (E.2.2.2.2.1 _ hl) (fun _ h9 => h9) hfin hd hn hfit hlen hdg (fun H1 locs1 h1 h2 h3 => kk H1 locs1 ⟨h1, h2, h3⟩)
theorem r_iald (E : EV p s m c args cc own nL D cy) (h : HW D A s ws H locs) {q0 n : Nat} {f : Nat → Int32} (he : ws[q0]? = some (a, .inl (cy 1, n, .inl f))) {i : Int32} (hin : vp_in i n) (hdg : decode cc pc = .ok (.iaload, 1))
    (kk : W p l e R s m args below meth c H locs cells slots Q (F0 m (pc + 1) ls (.int (f i.toNatClampNeg) :: rest))) : W p l e R s m args below meth c H locs cells slots Q (F0 m pc ls (.int i :: .ref a :: rest)) :=
  va_iald E.1 E.2.1 E.2.2.2.2.2.1 h.1 q0 1 he rfl hin hdg kk
theorem r_bald (E : EV p s m c args cc own nL D cy) (h : HW D A s ws H locs) {q0 n : Nat} {f : Nat → Int32} (he : ws[q0]? = some (a, .inl (cy 0, n, .inl f))) {i : Int32} (hin : vp_in i n) (hdg : decode cc pc = .ok (.baload, 1))
    (kk : W p l e R s m args below meth c H locs cells slots Q (F0 m (pc + 1) ls (.int (f i.toNatClampNeg) :: rest))) : W p l e R s m args below meth c H locs cells slots Q (F0 m pc ls (.int i :: .ref a :: rest)) :=
  va_bald E.1 E.2.1 E.2.2.2.2.2.1 h.1 q0 0 he rfl hin hdg kk
theorem r_zald (E : EV p s m c args cc own nL D cy) (h : HW D A s ws H locs) {q0 n : Nat} {f : Nat → Int32} (he : ws[q0]? = some (a, .inl (cy 2, n, .inl f))) {i : Int32} (hin : vp_in i n) (hdg : decode cc pc = .ok (.baload, 1))
    (kk : W p l e R s m args below meth c H locs cells slots Q (F0 m (pc + 1) ls (.int (f i.toNatClampNeg) :: rest))) : W p l e R s m args below meth c H locs cells slots Q (F0 m pc ls (.int i :: .ref a :: rest)) :=
  va_zald E.1 E.2.1 E.2.2.2.2.2.1 h.1 q0 2 he rfl hin hdg kk
theorem r_iast (E : EV p s m c args cc own nL D cy) (h : HW D A s ws H locs) {q0 n : Nat} {f : Nat → Int32} (he : ws[q0]? = some (a, .inl (cy 1, n, .inl f))) {i x : Int32} (hin : vp_in i n) (hw : ws.set q0 (a, .inl (cy 1, n, .inl (upd f i.toNatClampNeg x))) = ws') (hdg : decode cc pc = .ok (.iastore, 1))
    (kk : ∀ (H1 : Heap) (locs1 : List Loc), HW D A s ws' H1 locs1 → W p l e R s m args below meth c H1 locs1 cells slots Q (F0 m (pc + 1) ls rest)) : W p l e R s m args below meth c H locs cells slots Q (F0 m pc ls (.int x :: .int i :: .ref a :: rest)) := by
  subst hw
  exact va_iast E.1 E.2.1 E.2.2.2.2.2.1 h.1 h.2.1 h.2.2 q0 1 he rfl hin hdg (fun H1 locs1 h1 h2 h3 => kk H1 locs1 ⟨h1, h2, h3⟩)
theorem r_bast (E : EV p s m c args cc own nL D cy) (h : HW D A s ws H locs) {q0 n : Nat} {f : Nat → Int32} (he : ws[q0]? = some (a, .inl (cy 0, n, .inl f))) {i x : Int32} (hin : vp_in i n) (hw : ws.set q0 (a, .inl (cy 0, n, .inl (upd f i.toNatClampNeg (vp_nar .byte x)))) = ws') (hdg : decode cc pc = .ok (.bastore, 1))
    (kk : ∀ (H1 : Heap) (locs1 : List Loc), HW D A s ws' H1 locs1 → W p l e R s m args below meth c H1 locs1 cells slots Q (F0 m (pc + 1) ls rest)) : W p l e R s m args below meth c H locs cells slots Q (F0 m pc ls (.int x :: .int i :: .ref a :: rest)) := by
  subst hw
  exact va_bast E.1 E.2.1 E.2.2.2.2.2.1 h.1 h.2.1 h.2.2 q0 0 he rfl hin hdg (fun H1 locs1 h1 h2 h3 => kk H1 locs1 ⟨h1, h2, h3⟩)
theorem r_zast (E : EV p s m c args cc own nL D cy) (h : HW D A s ws H locs) {q0 n : Nat} {f : Nat → Int32} (he : ws[q0]? = some (a, .inl (cy 2, n, .inl f))) {i x : Int32} (hin : vp_in i n) (hw : ws.set q0 (a, .inl (cy 2, n, .inl (upd f i.toNatClampNeg (vp_nar .boolean x)))) = ws') (hdg : decode cc pc = .ok (.bastore, 1))
    (kk : ∀ (H1 : Heap) (locs1 : List Loc), HW D A s ws' H1 locs1 → W p l e R s m args below meth c H1 locs1 cells slots Q (F0 m (pc + 1) ls rest)) : W p l e R s m args below meth c H locs cells slots Q (F0 m pc ls (.int x :: .int i :: .ref a :: rest)) := by
  subst hw
  exact va_zast E.1 E.2.1 E.2.2.2.2.2.1 h.1 h.2.1 h.2.2 q0 2 he rfl hin hdg (fun H1 locs1 h1 h2 h3 => kk H1 locs1 ⟨h1, h2, h3⟩)
theorem r_alen (E : EV p s m c args cc own nL D cy) (h : HW D A s ws H locs) {q0 n : Nat} {f : Nat → Int32} (he : ws[q0]? = some (a, .inl (cy 1, n, .inl f))) {v : Int32} (hn : Int32.ofNat n = v) (hdg : decode cc pc = .ok (.arraylength, 1))
    (kk : W p l e R s m args below meth c H locs cells slots Q (F0 m (pc + 1) ls (.int v :: rest))) : W p l e R s m args below meth c H locs cells slots Q (F0 m pc ls (.ref a :: rest)) := by
  exact va_alen E.1 E.2.1 E.2.2.2.2.2.1 h.1 q0 1 he rfl hn hdg kk
end RW
end
section
theorem se_X11_told : Cond.selects RX11 yX11_told yX11_told ∈ TB := tb_at 0 (by decide +kernel) (by decide +kernel)
theorem se_X11_isSource : Cond.selects RX11 yX11_isSource yX11_isSource ∈ TB := tb_at 1 (by decide +kernel) (by decide +kernel)
theorem se_X11_isPerson : Cond.selects RX11 yX11_isPerson yX11_isPerson ∈ TB := tb_at 2 (by decide +kernel) (by decide +kernel)
theorem se_X11_countDryQuarters : Cond.selects RX11 yX11_countDryQuarters yX11_countDryQuarters ∈ TB := tb_at 3 (by decide +kernel) (by decide +kernel)
theorem se_X11_leastDryYear : Cond.selects RX11 yX11_leastDryYear yX11_leastDryYear ∈ TB := tb_at 4 (by decide +kernel) (by decide +kernel)
theorem se_X11_sumDry : Cond.selects RX11 yX11_sumDry yX11_sumDry ∈ TB := tb_at 5 (by decide +kernel) (by decide +kernel)
theorem se_X12_told : Cond.selects RX12 yX12_told yX12_told ∈ TB := tb_at 6 (by decide +kernel) (by decide +kernel)
theorem se_X12_isPerson : Cond.selects RX12 yX12_isPerson yX12_isPerson ∈ TB := tb_at 7 (by decide +kernel) (by decide +kernel)
theorem se_X12_deadOf : Cond.selects RX12 yX12_deadOf yX12_deadOf ∈ TB := tb_at 8 (by decide +kernel) (by decide +kernel)
theorem se_X12_isCastle : Cond.selects RX12 yX12_isCastle yX12_isCastle ∈ TB := tb_at 9 (by decide +kernel) (by decide +kernel)
theorem se_X12_lawOf : Cond.selects RX12 yX12_lawOf yX12_lawOf ∈ TB := tb_at 10 (by decide +kernel) (by decide +kernel)
theorem se_X12_isNozzle : Cond.selects RX12 yX12_isNozzle yX12_isNozzle ∈ TB := tb_at 11 (by decide +kernel) (by decide +kernel)
theorem se_X12_isClosed : Cond.selects RX12 yX12_isClosed yX12_isClosed ∈ TB := tb_at 12 (by decide +kernel) (by decide +kernel)
theorem se_X12_four : Cond.selects RX12 yX12_four yX12_four ∈ TB := tb_at 13 (by decide +kernel) (by decide +kernel)
theorem se_X12_next : Cond.selects RX12 yX12_next yX12_next ∈ TB := tb_at 14 (by decide +kernel) (by decide +kernel)
theorem se_X12_readLaw : Cond.selects RX12 yX12_readLaw yX12_readLaw ∈ TB := tb_at 15 (by decide +kernel) (by decide +kernel)
theorem se_X12_isWord : Cond.selects RX12 yX12_isWord yX12_isWord ∈ TB := tb_at 16 (by decide +kernel) (by decide +kernel)
theorem se_X12_must : Cond.selects RX12 yX12_must yX12_must ∈ TB := tb_at 17 (by decide +kernel) (by decide +kernel)
theorem se_X12_number : Cond.selects RX12 yX12_number yX12_number ∈ TB := tb_at 18 (by decide +kernel) (by decide +kernel)
theorem se_X12_isLong : Cond.selects RX12 yX12_isLong yX12_isLong ∈ TB := tb_at 19 (by decide +kernel) (by decide +kernel)
theorem se_X12_livesIn : Cond.selects RX12 yX12_livesIn yX12_livesIn ∈ TB := tb_at 20 (by decide +kernel) (by decide +kernel)
theorem se_X12_isOpen : Cond.selects RX12 yX12_isOpen yX12_isOpen ∈ TB := tb_at 21 (by decide +kernel) (by decide +kernel)
theorem se_X12_flow : Cond.selects RX12 yX12_flow yX12_flow ∈ TB := tb_at 22 (by decide +kernel) (by decide +kernel)
theorem se_X12_yieldOf : Cond.selects RX12 yX12_yieldOf yX12_yieldOf ∈ TB := tb_at 23 (by decide +kernel) (by decide +kernel)
theorem se_X12_isDown : Cond.selects RX12 yX12_isDown yX12_isDown ∈ TB := tb_at 24 (by decide +kernel) (by decide +kernel)
theorem se_X12_flowAt : Cond.selects RX12 yX12_flowAt yX12_flowAt ∈ TB := tb_at 25 (by decide +kernel) (by decide +kernel)
theorem se_X12_deal : Cond.selects RX12 yX12_deal yX12_deal ∈ TB := tb_at 26 (by decide +kernel) (by decide +kernel)
theorem se_X12_isDry : Cond.selects RX12 yX12_isDry yX12_isDry ∈ TB := tb_at 27 (by decide +kernel) (by decide +kernel)
theorem in_L : Cond.initialized RL ∈ TB := tb_at 28 (by decide +kernel) (by decide +kernel)
theorem in_X11 : Cond.initialized RX11 ∈ TB := tb_at 29 (by decide +kernel) (by decide +kernel)
theorem in_X10 : Cond.initialized RX10 ∈ TB := tb_at 30 (by decide +kernel) (by decide +kernel)
theorem in_X5 : Cond.initialized RX5 ∈ TB := tb_at 31 (by decide +kernel) (by decide +kernel)
theorem in_X4 : Cond.initialized RX4 ∈ TB := tb_at 32 (by decide +kernel) (by decide +kernel)
theorem in_X1 : Cond.initialized RX1 ∈ TB := tb_at 33 (by decide +kernel) (by decide +kernel)
theorem in_X9 : Cond.initialized RX9 ∈ TB := tb_at 34 (by decide +kernel) (by decide +kernel)
theorem in_X0 : Cond.initialized RX0 ∈ TB := tb_at 35 (by decide +kernel) (by decide +kernel)
theorem in_X3 : Cond.initialized RX3 ∈ TB := tb_at 36 (by decide +kernel) (by decide +kernel)
theorem in_X6 : Cond.initialized RX6 ∈ TB := tb_at 37 (by decide +kernel) (by decide +kernel)
theorem in_X8 : Cond.initialized RX8 ∈ TB := tb_at 38 (by decide +kernel) (by decide +kernel)
theorem in_X2 : Cond.initialized RX2 ∈ TB := tb_at 39 (by decide +kernel) (by decide +kernel)
theorem in_X7 : Cond.initialized RX7 ∈ TB := tb_at 40 (by decide +kernel) (by decide +kernel)
theorem in_X12 : Cond.initialized RX12 ∈ TB := tb_at 41 (by decide +kernel) (by decide +kernel)
theorem in_J9 : Cond.initialized RJ9 ∈ TB := tb_at 42 (by decide +kernel) (by decide +kernel)
theorem in_J0 : Cond.initialized RJ0 ∈ TB := tb_at 43 (by decide +kernel) (by decide +kernel)
theorem in_J1 : Cond.initialized RJ1 ∈ TB := tb_at 44 (by decide +kernel) (by decide +kernel)
theorem in_J3 : Cond.initialized RJ3 ∈ TB := tb_at 45 (by decide +kernel) (by decide +kernel)
theorem in_J2 : Cond.initialized RJ2 ∈ TB := tb_at 46 (by decide +kernel) (by decide +kernel)
theorem cl_L_7 : Cond.classLink RL 7 RX11 ∈ TB := tb_at 47 (by decide +kernel) (by decide +kernel)
theorem is_X11 : Cond.instantiable RX11 14 ∈ TB := tb_at 48 (by decide +kernel) (by decide +kernel)
theorem ml_L_9 : Cond.methodLink RL 9 yX11_init ∈ TB := tb_at 49 (by decide +kernel) (by decide +kernel)
theorem im_X11_init : Cond.instanceMethod yX11_init ∈ TB := tb_at 50 (by decide +kernel) (by decide +kernel)
theorem co_X11_init : Cond.code yX11_init cX11_init 1 none ∈ TB := tb_at 51 (by decide +kernel) (by decide +kernel)
theorem ml_X11_3 : Cond.methodLink RX11 3 ⟨"java/lang/Object", "<init>", "()V"⟩ ∈ TB := tb_at 52 (by decide +kernel) (by decide +kernel)
theorem im_java_lang_Object__init____V : Cond.instanceMethod ⟨"java/lang/Object", "<init>", "()V"⟩ ∈ TB := tb_at 53 (by decide +kernel) (by decide +kernel)
theorem cl_X11_9 : Cond.classLink RX11 9 RX10 ∈ TB := tb_at 55 (by decide +kernel) (by decide +kernel)
theorem is_X10 : Cond.instantiable RX10 2 ∈ TB := tb_at 56 (by decide +kernel) (by decide +kernel)
theorem im_X10_init : Cond.instanceMethod yX10_init ∈ TB := tb_at 58 (by decide +kernel) (by decide +kernel)
theorem co_X10_init : Cond.code yX10_init cX10_init 1 none ∈ TB := tb_at 59 (by decide +kernel) (by decide +kernel)
theorem ml_X10_3 : Cond.methodLink RX10 3 ⟨"java/lang/Object", "<init>", "()V"⟩ ∈ TB := tb_at 60 (by decide +kernel) (by decide +kernel)
theorem fl_X10_9 : Cond.fieldLink RX10 9 (TX10 0).1 (TX10 0).2.1 (TX10 0).2.2.1 ∈ TB := tb_at 61 (by decide +kernel) (by decide +kernel)
theorem fl_X10_15 : Cond.fieldLink RX10 15 (TX10 1).1 (TX10 1).2.1 (TX10 1).2.2.1 ∈ TB := tb_at 62 (by decide +kernel) (by decide +kernel)
theorem fl_X5_39 : Cond.fieldLink RX5 39 (TX10 1).1 (TX10 1).2.1 (TX10 1).2.2.1 ∈ TB := tb_at 63 (by decide +kernel) (by decide +kernel)
theorem fl_X11_161 : Cond.fieldLink RX11 161 (TX10 1).1 (TX10 1).2.1 (TX10 1).2.2.1 ∈ TB := tb_at 64 (by decide +kernel) (by decide +kernel)
theorem ac_byte : Cond.arrayClass .byte ∈ TB := tb_at 70 (by decide +kernel) (by decide +kernel)
theorem cl_X11_16 : Cond.classLink RX11 16 RX5 ∈ TB := tb_at 71 (by decide +kernel) (by decide +kernel)
theorem is_X5 : Cond.instantiable RX5 5 ∈ TB := tb_at 72 (by decide +kernel) (by decide +kernel)
theorem ml_X11_18 : Cond.methodLink RX11 18 yX5_init ∈ TB := tb_at 73 (by decide +kernel) (by decide +kernel)
theorem im_X5_init : Cond.instanceMethod yX5_init ∈ TB := tb_at 74 (by decide +kernel) (by decide +kernel)
theorem co_X5_init : Cond.code yX5_init cX5_init 2 none ∈ TB := tb_at 75 (by decide +kernel) (by decide +kernel)
theorem ml_X5_3 : Cond.methodLink RX5 3 ⟨"java/lang/Object", "<init>", "()V"⟩ ∈ TB := tb_at 76 (by decide +kernel) (by decide +kernel)
theorem cl_X5_9 : Cond.classLink RX5 9 RX4 ∈ TB := tb_at 77 (by decide +kernel) (by decide +kernel)
theorem is_X4 : Cond.instantiable RX4 6 ∈ TB := tb_at 78 (by decide +kernel) (by decide +kernel)
theorem im_X4_init : Cond.instanceMethod yX4_init ∈ TB := tb_at 80 (by decide +kernel) (by decide +kernel)
theorem co_X4_init : Cond.code yX4_init cX4_init 1 none ∈ TB := tb_at 81 (by decide +kernel) (by decide +kernel)
theorem ml_X4_3 : Cond.methodLink RX4 3 ⟨"java/lang/Object", "<init>", "()V"⟩ ∈ TB := tb_at 82 (by decide +kernel) (by decide +kernel)
theorem fl_X4_9 : Cond.fieldLink RX4 9 (TX4 0).1 (TX4 0).2.1 (TX4 0).2.2.1 ∈ TB := tb_at 83 (by decide +kernel) (by decide +kernel)
theorem fl_X4_15 : Cond.fieldLink RX4 15 (TX4 1).1 (TX4 1).2.1 (TX4 1).2.2.1 ∈ TB := tb_at 84 (by decide +kernel) (by decide +kernel)
theorem fl_X4_18 : Cond.fieldLink RX4 18 (TX4 2).1 (TX4 2).2.1 (TX4 2).2.2.1 ∈ TB := tb_at 85 (by decide +kernel) (by decide +kernel)
theorem fl_X4_21 : Cond.fieldLink RX4 21 (TX4 3).1 (TX4 3).2.1 (TX4 3).2.2.1 ∈ TB := tb_at 86 (by decide +kernel) (by decide +kernel)
theorem fl_X4_24 : Cond.fieldLink RX4 24 (TX4 4).1 (TX4 4).2.1 (TX4 4).2.2.1 ∈ TB := tb_at 87 (by decide +kernel) (by decide +kernel)
theorem fl_X2_133 : Cond.fieldLink RX2 133 (TX4 4).1 (TX4 4).2.1 (TX4 4).2.2.1 ∈ TB := tb_at 88 (by decide +kernel) (by decide +kernel)
theorem fl_X11_179 : Cond.fieldLink RX11 179 (TX4 4).1 (TX4 4).2.1 (TX4 4).2.2.1 ∈ TB := tb_at 89 (by decide +kernel) (by decide +kernel)
theorem fl_X4_27 : Cond.fieldLink RX4 27 (TX4 5).1 (TX4 5).2.1 (TX4 5).2.2.1 ∈ TB := tb_at 90 (by decide +kernel) (by decide +kernel)
theorem fl_X11_175 : Cond.fieldLink RX11 175 (TX4 5).1 (TX4 5).2.1 (TX4 5).2.2.1 ∈ TB := tb_at 91 (by decide +kernel) (by decide +kernel)
theorem ac_int : Cond.arrayClass .int ∈ TB := tb_at 105 (by decide +kernel) (by decide +kernel)
theorem fl_X5_22 : Cond.fieldLink RX5 22 (TX5 0).1 (TX5 0).2.1 (TX5 0).2.2.1 ∈ TB := tb_at 106 (by decide +kernel) (by decide +kernel)
theorem fl_X5_12 : Cond.fieldLink RX5 12 (TX5 1).1 (TX5 1).2.1 (TX5 1).2.2.1 ∈ TB := tb_at 107 (by decide +kernel) (by decide +kernel)
theorem fl_X11_168 : Cond.fieldLink RX11 168 (TX5 1).1 (TX5 1).2.1 (TX5 1).2.2.1 ∈ TB := tb_at 108 (by decide +kernel) (by decide +kernel)
theorem fl_X5_50 : Cond.fieldLink RX5 50 (TX5 2).1 (TX5 2).2.1 (TX5 2).2.2.1 ∈ TB := tb_at 109 (by decide +kernel) (by decide +kernel)
theorem fl_X5_29 : Cond.fieldLink RX5 29 (TX5 3).1 (TX5 3).2.1 (TX5 3).2.2.1 ∈ TB := tb_at 110 (by decide +kernel) (by decide +kernel)
theorem fl_X5_18 : Cond.fieldLink RX5 18 (TX5 4).1 (TX5 4).2.1 (TX5 4).2.2.1 ∈ TB := tb_at 111 (by decide +kernel) (by decide +kernel)
theorem fl_X11_176 : Cond.fieldLink RX11 176 (TX5 4).1 (TX5 4).2.1 (TX5 4).2.2.1 ∈ TB := tb_at 112 (by decide +kernel) (by decide +kernel)
theorem cl_X11_25 : Cond.classLink RX11 25 RX4 ∈ TB := tb_at 124 (by decide +kernel) (by decide +kernel)
theorem cl_X11_32 : Cond.classLink RX11 32 RX1 ∈ TB := tb_at 126 (by decide +kernel) (by decide +kernel)
theorem is_X1 : Cond.instantiable RX1 5 ∈ TB := tb_at 127 (by decide +kernel) (by decide +kernel)
theorem im_X1_init : Cond.instanceMethod yX1_init ∈ TB := tb_at 129 (by decide +kernel) (by decide +kernel)
theorem co_X1_init : Cond.code yX1_init cX1_init 1 none ∈ TB := tb_at 130 (by decide +kernel) (by decide +kernel)
theorem ml_X1_3 : Cond.methodLink RX1 3 ⟨"java/lang/Object", "<init>", "()V"⟩ ∈ TB := tb_at 131 (by decide +kernel) (by decide +kernel)
theorem fl_X1_9 : Cond.fieldLink RX1 9 (TX1 0).1 (TX1 0).2.1 (TX1 0).2.2.1 ∈ TB := tb_at 132 (by decide +kernel) (by decide +kernel)
theorem fl_X1_15 : Cond.fieldLink RX1 15 (TX1 1).1 (TX1 1).2.1 (TX1 1).2.2.1 ∈ TB := tb_at 133 (by decide +kernel) (by decide +kernel)
theorem fl_X1_18 : Cond.fieldLink RX1 18 (TX1 2).1 (TX1 2).2.1 (TX1 2).2.2.1 ∈ TB := tb_at 134 (by decide +kernel) (by decide +kernel)
theorem fl_X1_21 : Cond.fieldLink RX1 21 (TX1 3).1 (TX1 3).2.1 (TX1 3).2.2.1 ∈ TB := tb_at 135 (by decide +kernel) (by decide +kernel)
theorem fl_X11_229 : Cond.fieldLink RX11 229 (TX1 3).1 (TX1 3).2.1 (TX1 3).2.2.1 ∈ TB := tb_at 136 (by decide +kernel) (by decide +kernel)
theorem fl_X1_24 : Cond.fieldLink RX1 24 (TX1 4).1 (TX1 4).2.1 (TX1 4).2.2.1 ∈ TB := tb_at 137 (by decide +kernel) (by decide +kernel)
theorem fl_X11_237 : Cond.fieldLink RX11 237 (TX1 4).1 (TX1 4).2.1 (TX1 4).2.2.1 ∈ TB := tb_at 138 (by decide +kernel) (by decide +kernel)
theorem cl_X11_39 : Cond.classLink RX11 39 RX9 ∈ TB := tb_at 150 (by decide +kernel) (by decide +kernel)
theorem is_X9 : Cond.instantiable RX9 7 ∈ TB := tb_at 151 (by decide +kernel) (by decide +kernel)
theorem im_X9_init : Cond.instanceMethod yX9_init ∈ TB := tb_at 153 (by decide +kernel) (by decide +kernel)
theorem co_X9_init : Cond.code yX9_init cX9_init 1 none ∈ TB := tb_at 154 (by decide +kernel) (by decide +kernel)
theorem ml_X9_3 : Cond.methodLink RX9 3 ⟨"java/lang/Object", "<init>", "()V"⟩ ∈ TB := tb_at 155 (by decide +kernel) (by decide +kernel)
theorem fl_X9_9 : Cond.fieldLink RX9 9 (TX9 0).1 (TX9 0).2.1 (TX9 0).2.2.1 ∈ TB := tb_at 156 (by decide +kernel) (by decide +kernel)
theorem fl_X9_15 : Cond.fieldLink RX9 15 (TX9 1).1 (TX9 1).2.1 (TX9 1).2.2.1 ∈ TB := tb_at 157 (by decide +kernel) (by decide +kernel)
theorem fl_X9_18 : Cond.fieldLink RX9 18 (TX9 2).1 (TX9 2).2.1 (TX9 2).2.2.1 ∈ TB := tb_at 158 (by decide +kernel) (by decide +kernel)
theorem fl_X9_21 : Cond.fieldLink RX9 21 (TX9 3).1 (TX9 3).2.1 (TX9 3).2.2.1 ∈ TB := tb_at 159 (by decide +kernel) (by decide +kernel)
theorem fl_X9_24 : Cond.fieldLink RX9 24 (TX9 4).1 (TX9 4).2.1 (TX9 4).2.2.1 ∈ TB := tb_at 160 (by decide +kernel) (by decide +kernel)
theorem fl_X9_27 : Cond.fieldLink RX9 27 (TX9 5).1 (TX9 5).2.1 (TX9 5).2.2.1 ∈ TB := tb_at 161 (by decide +kernel) (by decide +kernel)
theorem fl_X11_232 : Cond.fieldLink RX11 232 (TX9 5).1 (TX9 5).2.1 (TX9 5).2.2.1 ∈ TB := tb_at 162 (by decide +kernel) (by decide +kernel)
theorem fl_X9_39 : Cond.fieldLink RX9 39 (TX9 6).1 (TX9 6).2.1 (TX9 6).2.2.1 ∈ TB := tb_at 163 (by decide +kernel) (by decide +kernel)
theorem fl_X11_239 : Cond.fieldLink RX11 239 (TX9 6).1 (TX9 6).2.1 (TX9 6).2.2.1 ∈ TB := tb_at 164 (by decide +kernel) (by decide +kernel)
theorem cl_X11_46 : Cond.classLink RX11 46 RX0 ∈ TB := tb_at 180 (by decide +kernel) (by decide +kernel)
theorem is_X0 : Cond.instantiable RX0 5 ∈ TB := tb_at 181 (by decide +kernel) (by decide +kernel)
theorem im_X0_init : Cond.instanceMethod yX0_init ∈ TB := tb_at 183 (by decide +kernel) (by decide +kernel)
theorem co_X0_init : Cond.code yX0_init cX0_init 1 none ∈ TB := tb_at 184 (by decide +kernel) (by decide +kernel)
theorem ml_X0_3 : Cond.methodLink RX0 3 ⟨"java/lang/Object", "<init>", "()V"⟩ ∈ TB := tb_at 185 (by decide +kernel) (by decide +kernel)
theorem cl_X0_21 : Cond.classLink RX0 21 RX3 ∈ TB := tb_at 186 (by decide +kernel) (by decide +kernel)
theorem is_X3 : Cond.instantiable RX3 3 ∈ TB := tb_at 187 (by decide +kernel) (by decide +kernel)
theorem ml_X0_23 : Cond.methodLink RX0 23 yX3_init ∈ TB := tb_at 188 (by decide +kernel) (by decide +kernel)
theorem im_X3_init : Cond.instanceMethod yX3_init ∈ TB := tb_at 189 (by decide +kernel) (by decide +kernel)
theorem co_X3_init : Cond.code yX3_init cX3_init 2 none ∈ TB := tb_at 190 (by decide +kernel) (by decide +kernel)
theorem ml_X3_3 : Cond.methodLink RX3 3 ⟨"java/lang/Object", "<init>", "()V"⟩ ∈ TB := tb_at 191 (by decide +kernel) (by decide +kernel)
theorem fl_X3_15 : Cond.fieldLink RX3 15 (TX3 0).1 (TX3 0).2.1 (TX3 0).2.2.1 ∈ TB := tb_at 192 (by decide +kernel) (by decide +kernel)
theorem fl_X3_19 : Cond.fieldLink RX3 19 (TX3 1).1 (TX3 1).2.1 (TX3 1).2.2.1 ∈ TB := tb_at 193 (by decide +kernel) (by decide +kernel)
theorem fl_X3_9 : Cond.fieldLink RX3 9 (TX3 2).1 (TX3 2).2.1 (TX3 2).2.2.1 ∈ TB := tb_at 194 (by decide +kernel) (by decide +kernel)
theorem fl_X8_42 : Cond.fieldLink RX8 42 (TX3 2).1 (TX3 2).2.1 (TX3 2).2.2.1 ∈ TB := tb_at 195 (by decide +kernel) (by decide +kernel)
theorem fl_X2_178 : Cond.fieldLink RX2 178 (TX3 2).1 (TX3 2).2.1 (TX3 2).2.2.1 ∈ TB := tb_at 196 (by decide +kernel) (by decide +kernel)
theorem fl_X0_9 : Cond.fieldLink RX0 9 (TX0 0).1 (TX0 0).2.1 (TX0 0).2.2.1 ∈ TB := tb_at 204 (by decide +kernel) (by decide +kernel)
theorem fl_X2_148 : Cond.fieldLink RX2 148 (TX0 0).1 (TX0 0).2.1 (TX0 0).2.2.1 ∈ TB := tb_at 205 (by decide +kernel) (by decide +kernel)
theorem fl_X0_15 : Cond.fieldLink RX0 15 (TX0 1).1 (TX0 1).2.1 (TX0 1).2.2.1 ∈ TB := tb_at 206 (by decide +kernel) (by decide +kernel)
theorem fl_X2_145 : Cond.fieldLink RX2 145 (TX0 1).1 (TX0 1).2.1 (TX0 1).2.2.1 ∈ TB := tb_at 207 (by decide +kernel) (by decide +kernel)
theorem fl_X0_18 : Cond.fieldLink RX0 18 (TX0 2).1 (TX0 2).2.1 (TX0 2).2.2.1 ∈ TB := tb_at 208 (by decide +kernel) (by decide +kernel)
theorem fl_X2_162 : Cond.fieldLink RX2 162 (TX0 2).1 (TX0 2).2.1 (TX0 2).2.2.1 ∈ TB := tb_at 209 (by decide +kernel) (by decide +kernel)
theorem fl_X0_26 : Cond.fieldLink RX0 26 (TX0 3).1 (TX0 3).2.1 (TX0 3).2.2.1 ∈ TB := tb_at 210 (by decide +kernel) (by decide +kernel)
theorem fl_X2_200 : Cond.fieldLink RX2 200 (TX0 3).1 (TX0 3).2.1 (TX0 3).2.2.1 ∈ TB := tb_at 211 (by decide +kernel) (by decide +kernel)
theorem fl_X0_30 : Cond.fieldLink RX0 30 (TX0 4).1 (TX0 4).2.1 (TX0 4).2.2.1 ∈ TB := tb_at 212 (by decide +kernel) (by decide +kernel)
theorem fl_X2_96 : Cond.fieldLink RX2 96 (TX0 4).1 (TX0 4).2.1 (TX0 4).2.2.1 ∈ TB := tb_at 213 (by decide +kernel) (by decide +kernel)
theorem fl_X11_235 : Cond.fieldLink RX11 235 (TX0 4).1 (TX0 4).2.1 (TX0 4).2.2.1 ∈ TB := tb_at 214 (by decide +kernel) (by decide +kernel)
theorem cl_X11_53 : Cond.classLink RX11 53 RX6 ∈ TB := tb_at 226 (by decide +kernel) (by decide +kernel)
theorem is_X6 : Cond.instantiable RX6 7 ∈ TB := tb_at 227 (by decide +kernel) (by decide +kernel)
theorem im_X6_init : Cond.instanceMethod yX6_init ∈ TB := tb_at 229 (by decide +kernel) (by decide +kernel)
theorem co_X6_init : Cond.code yX6_init cX6_init 1 none ∈ TB := tb_at 230 (by decide +kernel) (by decide +kernel)
theorem ml_X6_3 : Cond.methodLink RX6 3 ⟨"java/lang/Object", "<init>", "()V"⟩ ∈ TB := tb_at 231 (by decide +kernel) (by decide +kernel)
theorem cl_X6_27 : Cond.classLink RX6 27 RX3 ∈ TB := tb_at 232 (by decide +kernel) (by decide +kernel)
theorem ml_X6_29 : Cond.methodLink RX6 29 yX3_init ∈ TB := tb_at 233 (by decide +kernel) (by decide +kernel)
theorem fl_X6_9 : Cond.fieldLink RX6 9 (TX6 0).1 (TX6 0).2.1 (TX6 0).2.2.1 ∈ TB := tb_at 234 (by decide +kernel) (by decide +kernel)
theorem fl_X2_124 : Cond.fieldLink RX2 124 (TX6 0).1 (TX6 0).2.1 (TX6 0).2.2.1 ∈ TB := tb_at 235 (by decide +kernel) (by decide +kernel)
theorem fl_X6_15 : Cond.fieldLink RX6 15 (TX6 1).1 (TX6 1).2.1 (TX6 1).2.2.1 ∈ TB := tb_at 236 (by decide +kernel) (by decide +kernel)
theorem fl_X2_113 : Cond.fieldLink RX2 113 (TX6 1).1 (TX6 1).2.1 (TX6 1).2.2.1 ∈ TB := tb_at 237 (by decide +kernel) (by decide +kernel)
theorem fl_X11_182 : Cond.fieldLink RX11 182 (TX6 1).1 (TX6 1).2.1 (TX6 1).2.2.1 ∈ TB := tb_at 238 (by decide +kernel) (by decide +kernel)
theorem fl_X6_18 : Cond.fieldLink RX6 18 (TX6 2).1 (TX6 2).2.1 (TX6 2).2.2.1 ∈ TB := tb_at 239 (by decide +kernel) (by decide +kernel)
theorem fl_X2_130 : Cond.fieldLink RX2 130 (TX6 2).1 (TX6 2).2.1 (TX6 2).2.2.1 ∈ TB := tb_at 240 (by decide +kernel) (by decide +kernel)
theorem fl_X6_21 : Cond.fieldLink RX6 21 (TX6 3).1 (TX6 3).2.1 (TX6 3).2.2.1 ∈ TB := tb_at 241 (by decide +kernel) (by decide +kernel)
theorem fl_X6_24 : Cond.fieldLink RX6 24 (TX6 4).1 (TX6 4).2.1 (TX6 4).2.2.1 ∈ TB := tb_at 242 (by decide +kernel) (by decide +kernel)
theorem fl_X6_32 : Cond.fieldLink RX6 32 (TX6 5).1 (TX6 5).2.1 (TX6 5).2.2.1 ∈ TB := tb_at 243 (by decide +kernel) (by decide +kernel)
theorem fl_X2_174 : Cond.fieldLink RX2 174 (TX6 5).1 (TX6 5).2.1 (TX6 5).2.2.1 ∈ TB := tb_at 244 (by decide +kernel) (by decide +kernel)
theorem fl_X6_36 : Cond.fieldLink RX6 36 (TX6 6).1 (TX6 6).2.1 (TX6 6).2.2.1 ∈ TB := tb_at 245 (by decide +kernel) (by decide +kernel)
theorem fl_X2_110 : Cond.fieldLink RX2 110 (TX6 6).1 (TX6 6).2.1 (TX6 6).2.2.1 ∈ TB := tb_at 246 (by decide +kernel) (by decide +kernel)
theorem fl_X11_236 : Cond.fieldLink RX11 236 (TX6 6).1 (TX6 6).2.1 (TX6 6).2.2.1 ∈ TB := tb_at 247 (by decide +kernel) (by decide +kernel)
theorem cl_X11_60 : Cond.classLink RX11 60 RX8 ∈ TB := tb_at 263 (by decide +kernel) (by decide +kernel)
theorem is_X8 : Cond.instantiable RX8 5 ∈ TB := tb_at 264 (by decide +kernel) (by decide +kernel)
theorem ml_X11_62 : Cond.methodLink RX11 62 yX8_init ∈ TB := tb_at 265 (by decide +kernel) (by decide +kernel)
theorem im_X8_init : Cond.instanceMethod yX8_init ∈ TB := tb_at 266 (by decide +kernel) (by decide +kernel)
theorem co_X8_init : Cond.code yX8_init cX8_init 2 none ∈ TB := tb_at 267 (by decide +kernel) (by decide +kernel)
theorem ml_X8_3 : Cond.methodLink RX8 3 ⟨"java/lang/Object", "<init>", "()V"⟩ ∈ TB := tb_at 268 (by decide +kernel) (by decide +kernel)
theorem cl_X8_21 : Cond.classLink RX8 21 RX3 ∈ TB := tb_at 269 (by decide +kernel) (by decide +kernel)
theorem ml_X8_23 : Cond.methodLink RX8 23 yX3_init ∈ TB := tb_at 270 (by decide +kernel) (by decide +kernel)
theorem fl_X8_9 : Cond.fieldLink RX8 9 (TX8 0).1 (TX8 0).2.1 (TX8 0).2.2.1 ∈ TB := tb_at 271 (by decide +kernel) (by decide +kernel)
theorem fl_X8_15 : Cond.fieldLink RX8 15 (TX8 1).1 (TX8 1).2.1 (TX8 1).2.2.1 ∈ TB := tb_at 272 (by decide +kernel) (by decide +kernel)
theorem fl_X8_18 : Cond.fieldLink RX8 18 (TX8 2).1 (TX8 2).2.1 (TX8 2).2.2.1 ∈ TB := tb_at 273 (by decide +kernel) (by decide +kernel)
theorem fl_X8_26 : Cond.fieldLink RX8 26 (TX8 3).1 (TX8 3).2.1 (TX8 3).2.2.1 ∈ TB := tb_at 274 (by decide +kernel) (by decide +kernel)
theorem fl_X8_30 : Cond.fieldLink RX8 30 (TX8 4).1 (TX8 4).2.1 (TX8 4).2.2.1 ∈ TB := tb_at 275 (by decide +kernel) (by decide +kernel)
theorem fl_X11_238 : Cond.fieldLink RX11 238 (TX8 4).1 (TX8 4).2.1 (TX8 4).2.2.1 ∈ TB := tb_at 276 (by decide +kernel) (by decide +kernel)
theorem cl_X11_72 : Cond.classLink RX11 72 RX2 ∈ TB := tb_at 288 (by decide +kernel) (by decide +kernel)
theorem is_X2 : Cond.instantiable RX2 15 ∈ TB := tb_at 289 (by decide +kernel) (by decide +kernel)
theorem ml_X11_74 : Cond.methodLink RX11 74 yX2_init ∈ TB := tb_at 290 (by decide +kernel) (by decide +kernel)
theorem im_X2_init : Cond.instanceMethod yX2_init ∈ TB := tb_at 291 (by decide +kernel) (by decide +kernel)
theorem co_X2_init : Cond.code yX2_init cX2_init 8 none ∈ TB := tb_at 292 (by decide +kernel) (by decide +kernel)
theorem ml_X2_3 : Cond.methodLink RX2 3 ⟨"java/lang/Object", "<init>", "()V"⟩ ∈ TB := tb_at 293 (by decide +kernel) (by decide +kernel)
theorem cl_X2_9 : Cond.classLink RX2 9 RX7 ∈ TB := tb_at 294 (by decide +kernel) (by decide +kernel)
theorem is_X7 : Cond.instantiable RX7 5 ∈ TB := tb_at 295 (by decide +kernel) (by decide +kernel)
theorem im_X7_init : Cond.instanceMethod yX7_init ∈ TB := tb_at 297 (by decide +kernel) (by decide +kernel)
theorem co_X7_init : Cond.code yX7_init cX7_init 1 none ∈ TB := tb_at 298 (by decide +kernel) (by decide +kernel)
theorem ml_X7_3 : Cond.methodLink RX7 3 ⟨"java/lang/Object", "<init>", "()V"⟩ ∈ TB := tb_at 299 (by decide +kernel) (by decide +kernel)
theorem fl_X7_9 : Cond.fieldLink RX7 9 (TX7 0).1 (TX7 0).2.1 (TX7 0).2.2.1 ∈ TB := tb_at 300 (by decide +kernel) (by decide +kernel)
theorem fl_X2_194 : Cond.fieldLink RX2 194 (TX7 0).1 (TX7 0).2.1 (TX7 0).2.2.1 ∈ TB := tb_at 301 (by decide +kernel) (by decide +kernel)
theorem fl_X7_15 : Cond.fieldLink RX7 15 (TX7 1).1 (TX7 1).2.1 (TX7 1).2.2.1 ∈ TB := tb_at 302 (by decide +kernel) (by decide +kernel)
theorem fl_X7_18 : Cond.fieldLink RX7 18 (TX7 2).1 (TX7 2).2.1 (TX7 2).2.2.1 ∈ TB := tb_at 303 (by decide +kernel) (by decide +kernel)
theorem fl_X2_197 : Cond.fieldLink RX2 197 (TX7 2).1 (TX7 2).2.1 (TX7 2).2.2.1 ∈ TB := tb_at 304 (by decide +kernel) (by decide +kernel)
theorem fl_X7_21 : Cond.fieldLink RX7 21 (TX7 3).1 (TX7 3).2.1 (TX7 3).2.2.1 ∈ TB := tb_at 305 (by decide +kernel) (by decide +kernel)
theorem fl_X7_25 : Cond.fieldLink RX7 25 (TX7 4).1 (TX7 4).2.1 (TX7 4).2.2.1 ∈ TB := tb_at 306 (by decide +kernel) (by decide +kernel)
theorem fl_X2_193 : Cond.fieldLink RX2 193 (TX7 4).1 (TX7 4).2.1 (TX7 4).2.2.1 ∈ TB := tb_at 307 (by decide +kernel) (by decide +kernel)
theorem cl_X2_22 : Cond.classLink RX2 22 "[[I" ∈ TB := tb_at 319 (by decide +kernel) (by decide +kernel)
theorem fl_X2_40 : Cond.fieldLink RX2 40 (TX2 0).1 (TX2 0).2.1 (TX2 0).2.2.1 ∈ TB := tb_at 321 (by decide +kernel) (by decide +kernel)
theorem fl_X2_44 : Cond.fieldLink RX2 44 (TX2 1).1 (TX2 1).2.1 (TX2 1).2.2.1 ∈ TB := tb_at 322 (by decide +kernel) (by decide +kernel)
theorem fl_X2_48 : Cond.fieldLink RX2 48 (TX2 2).1 (TX2 2).2.1 (TX2 2).2.2.1 ∈ TB := tb_at 323 (by decide +kernel) (by decide +kernel)
theorem fl_X2_52 : Cond.fieldLink RX2 52 (TX2 3).1 (TX2 3).2.1 (TX2 3).2.2.1 ∈ TB := tb_at 324 (by decide +kernel) (by decide +kernel)
theorem fl_X2_56 : Cond.fieldLink RX2 56 (TX2 4).1 (TX2 4).2.1 (TX2 4).2.2.1 ∈ TB := tb_at 325 (by decide +kernel) (by decide +kernel)
theorem fl_X2_60 : Cond.fieldLink RX2 60 (TX2 5).1 (TX2 5).2.1 (TX2 5).2.2.1 ∈ TB := tb_at 326 (by decide +kernel) (by decide +kernel)
theorem fl_X2_64 : Cond.fieldLink RX2 64 (TX2 6).1 (TX2 6).2.1 (TX2 6).2.2.1 ∈ TB := tb_at 327 (by decide +kernel) (by decide +kernel)
theorem fl_X2_12 : Cond.fieldLink RX2 12 (TX2 7).1 (TX2 7).2.1 (TX2 7).2.2.1 ∈ TB := tb_at 328 (by decide +kernel) (by decide +kernel)
theorem fl_X2_18 : Cond.fieldLink RX2 18 (TX2 8).1 (TX2 8).2.1 (TX2 8).2.2.1 ∈ TB := tb_at 329 (by decide +kernel) (by decide +kernel)
theorem fl_X2_24 : Cond.fieldLink RX2 24 (TX2 9).1 (TX2 9).2.1 (TX2 9).2.2.1 ∈ TB := tb_at 330 (by decide +kernel) (by decide +kernel)
theorem fl_X11_197 : Cond.fieldLink RX11 197 (TX2 9).1 (TX2 9).2.1 (TX2 9).2.2.1 ∈ TB := tb_at 331 (by decide +kernel) (by decide +kernel)
theorem fl_X2_27 : Cond.fieldLink RX2 27 (TX2 10).1 (TX2 10).2.1 (TX2 10).2.2.1 ∈ TB := tb_at 332 (by decide +kernel) (by decide +kernel)
theorem fl_X2_31 : Cond.fieldLink RX2 31 (TX2 11).1 (TX2 11).2.1 (TX2 11).2.2.1 ∈ TB := tb_at 333 (by decide +kernel) (by decide +kernel)
theorem fl_X11_194 : Cond.fieldLink RX11 194 (TX2 11).1 (TX2 11).2.1 (TX2 11).2.2.1 ∈ TB := tb_at 334 (by decide +kernel) (by decide +kernel)
theorem fl_X2_34 : Cond.fieldLink RX2 34 (TX2 12).1 (TX2 12).2.1 (TX2 12).2.2.1 ∈ TB := tb_at 335 (by decide +kernel) (by decide +kernel)
theorem fl_X2_37 : Cond.fieldLink RX2 37 (TX2 13).1 (TX2 13).2.1 (TX2 13).2.2.1 ∈ TB := tb_at 336 (by decide +kernel) (by decide +kernel)
theorem fl_X2_75 : Cond.fieldLink RX2 75 (TX2 14).1 (TX2 14).2.1 (TX2 14).2.2.1 ∈ TB := tb_at 337 (by decide +kernel) (by decide +kernel)
theorem ac_boolean : Cond.arrayClass .boolean ∈ TB := tb_at 369 (by decide +kernel) (by decide +kernel)
theorem fl_X11_12 : Cond.fieldLink RX11 12 (TX11 0).1 (TX11 0).2.1 (TX11 0).2.2.1 ∈ TB := tb_at 370 (by decide +kernel) (by decide +kernel)
theorem fl_X11_21 : Cond.fieldLink RX11 21 (TX11 1).1 (TX11 1).2.1 (TX11 1).2.2.1 ∈ TB := tb_at 371 (by decide +kernel) (by decide +kernel)
theorem fl_X11_28 : Cond.fieldLink RX11 28 (TX11 2).1 (TX11 2).2.1 (TX11 2).2.2.1 ∈ TB := tb_at 372 (by decide +kernel) (by decide +kernel)
theorem fl_X11_35 : Cond.fieldLink RX11 35 (TX11 3).1 (TX11 3).2.1 (TX11 3).2.2.1 ∈ TB := tb_at 373 (by decide +kernel) (by decide +kernel)
theorem fl_X11_42 : Cond.fieldLink RX11 42 (TX11 4).1 (TX11 4).2.1 (TX11 4).2.2.1 ∈ TB := tb_at 374 (by decide +kernel) (by decide +kernel)
theorem fl_X11_49 : Cond.fieldLink RX11 49 (TX11 5).1 (TX11 5).2.1 (TX11 5).2.2.1 ∈ TB := tb_at 375 (by decide +kernel) (by decide +kernel)
theorem fl_X11_56 : Cond.fieldLink RX11 56 (TX11 6).1 (TX11 6).2.1 (TX11 6).2.2.1 ∈ TB := tb_at 376 (by decide +kernel) (by decide +kernel)
theorem fl_X11_65 : Cond.fieldLink RX11 65 (TX11 7).1 (TX11 7).2.1 (TX11 7).2.2.1 ∈ TB := tb_at 377 (by decide +kernel) (by decide +kernel)
theorem fl_X11_69 : Cond.fieldLink RX11 69 (TX11 8).1 (TX11 8).2.1 (TX11 8).2.2.1 ∈ TB := tb_at 378 (by decide +kernel) (by decide +kernel)
theorem fl_X11_77 : Cond.fieldLink RX11 77 (TX11 9).1 (TX11 9).2.1 (TX11 9).2.2.1 ∈ TB := tb_at 379 (by decide +kernel) (by decide +kernel)
theorem fl_X11_81 : Cond.fieldLink RX11 81 (TX11 10).1 (TX11 10).2.1 (TX11 10).2.2.1 ∈ TB := tb_at 380 (by decide +kernel) (by decide +kernel)
theorem fl_X11_114 : Cond.fieldLink RX11 114 (TX11 11).1 (TX11 11).2.1 (TX11 11).2.2.1 ∈ TB := tb_at 381 (by decide +kernel) (by decide +kernel)
theorem fl_X11_130 : Cond.fieldLink RX11 130 (TX11 12).1 (TX11 12).2.1 (TX11 12).2.2.1 ∈ TB := tb_at 382 (by decide +kernel) (by decide +kernel)
theorem fl_X11_240 : Cond.fieldLink RX11 240 (TX11 13).1 (TX11 13).2.1 (TX11 13).2.2.1 ∈ TB := tb_at 383 (by decide +kernel) (by decide +kernel)
theorem ml_L_13 : Cond.methodLink RL 13 yX11_aqueduct ∈ TB := tb_at 413 (by decide +kernel) (by decide +kernel)
theorem im_X11_aqueduct : Cond.instanceMethod yX11_aqueduct ∈ TB := tb_at 414 (by decide +kernel) (by decide +kernel)
theorem se_X11_aqueduct : Cond.selects RX11 yX11_aqueduct yX11_aqueduct ∈ TB := tb_at 415 (by decide +kernel) (by decide +kernel)
theorem co_X11_aqueduct : Cond.code yX11_aqueduct cX11_aqueduct 2 (some .int) ∈ TB := tb_at 416 (by decide +kernel) (by decide +kernel)
theorem kc_X11_85 : Cond.constant RX11 85 (100000) ∈ TB := tb_at 417 (by decide +kernel) (by decide +kernel)
theorem ml_X11_86 : Cond.methodLink RX11 86 yX11_isWithin ∈ TB := tb_at 418 (by decide +kernel) (by decide +kernel)
theorem st_X11_isWithin : Cond.static yX11_isWithin ∈ TB := tb_at 419 (by decide +kernel) (by decide +kernel)
theorem co_X11_isWithin : Cond.code yX11_isWithin cX11_isWithin 3 (some .boolean) ∈ TB := tb_at 420 (by decide +kernel) (by decide +kernel)
theorem ml_X11_90 : Cond.methodLink RX11 90 yX11_told ∈ TB := tb_at 421 (by decide +kernel) (by decide +kernel)
theorem im_X11_told : Cond.instanceMethod yX11_told ∈ TB := tb_at 423 (by decide +kernel) (by decide +kernel)
theorem co_X11_told : Cond.code yX11_told cX11_told 2 (some .int) ∈ TB := tb_at 424 (by decide +kernel) (by decide +kernel)
theorem ml_X11_243 : Cond.methodLink RX11 243 yJ9_min_7cf53 ∈ TB := tb_at 425 (by decide +kernel) (by decide +kernel)
theorem st_J9_min_7cf53 : Cond.static yJ9_min_7cf53 ∈ TB := tb_at 426 (by decide +kernel) (by decide +kernel)
theorem co_J9_min_7cf53 : Cond.code yJ9_min_7cf53 cJ9_min_7cf53 2 (some .int) ∈ TB := tb_at 427 (by decide +kernel) (by decide +kernel)
theorem ml_X11_94 : Cond.methodLink RX11 94 yX9_addAqueduct ∈ TB := tb_at 428 (by decide +kernel) (by decide +kernel)
theorem im_X9_addAqueduct : Cond.instanceMethod yX9_addAqueduct ∈ TB := tb_at 429 (by decide +kernel) (by decide +kernel)
theorem se_X9_addAqueduct : Cond.selects RX9 yX9_addAqueduct yX9_addAqueduct ∈ TB := tb_at 430 (by decide +kernel) (by decide +kernel)
theorem co_X9_addAqueduct : Cond.code yX9_addAqueduct cX9_addAqueduct 2 (some .int) ∈ TB := tb_at 431 (by decide +kernel) (by decide +kernel)
theorem ml_L_18 : Cond.methodLink RL 18 yX11_spring ∈ TB := tb_at 432 (by decide +kernel) (by decide +kernel)
theorem im_X11_spring : Cond.instanceMethod yX11_spring ∈ TB := tb_at 433 (by decide +kernel) (by decide +kernel)
theorem se_X11_spring : Cond.selects RX11 yX11_spring yX11_spring ∈ TB := tb_at 434 (by decide +kernel) (by decide +kernel)
theorem co_X11_spring : Cond.code yX11_spring cX11_spring 4 (some .int) ∈ TB := tb_at 435 (by decide +kernel) (by decide +kernel)
theorem ml_X11_97 : Cond.methodLink RX11 97 yX11_isYear ∈ TB := tb_at 436 (by decide +kernel) (by decide +kernel)
theorem st_X11_isYear : Cond.static yX11_isYear ∈ TB := tb_at 437 (by decide +kernel) (by decide +kernel)
theorem co_X11_isYear : Cond.code yX11_isYear cX11_isYear 1 (some .boolean) ∈ TB := tb_at 438 (by decide +kernel) (by decide +kernel)
theorem ml_X11_101 : Cond.methodLink RX11 101 yX9_hasAqueduct ∈ TB := tb_at 439 (by decide +kernel) (by decide +kernel)
theorem im_X9_hasAqueduct : Cond.instanceMethod yX9_hasAqueduct ∈ TB := tb_at 440 (by decide +kernel) (by decide +kernel)
theorem se_X9_hasAqueduct : Cond.selects RX9 yX9_hasAqueduct yX9_hasAqueduct ∈ TB := tb_at 441 (by decide +kernel) (by decide +kernel)
theorem co_X9_hasAqueduct : Cond.code yX9_hasAqueduct cX9_hasAqueduct 2 (some .boolean) ∈ TB := tb_at 442 (by decide +kernel) (by decide +kernel)
theorem ml_X11_104 : Cond.methodLink RX11 104 yX9_change ∈ TB := tb_at 444 (by decide +kernel) (by decide +kernel)
theorem im_X9_change : Cond.instanceMethod yX9_change ∈ TB := tb_at 445 (by decide +kernel) (by decide +kernel)
theorem se_X9_change : Cond.selects RX9 yX9_change yX9_change ∈ TB := tb_at 446 (by decide +kernel) (by decide +kernel)
theorem co_X9_change : Cond.code yX9_change cX9_change 5 (some .int) ∈ TB := tb_at 447 (by decide +kernel) (by decide +kernel)
theorem ml_X9_35 : Cond.methodLink RX9 35 yX9_placeOf ∈ TB := tb_at 448 (by decide +kernel) (by decide +kernel)
theorem im_X9_placeOf : Cond.instanceMethod yX9_placeOf ∈ TB := tb_at 449 (by decide +kernel) (by decide +kernel)
theorem se_X9_placeOf : Cond.selects RX9 yX9_placeOf yX9_placeOf ∈ TB := tb_at 450 (by decide +kernel) (by decide +kernel)
theorem co_X9_placeOf : Cond.code yX9_placeOf cX9_placeOf 4 (some .int) ∈ TB := tb_at 451 (by decide +kernel) (by decide +kernel)
theorem ml_X9_42 : Cond.methodLink RX9 42 yJ9_max_7cf53 ∈ TB := tb_at 452 (by decide +kernel) (by decide +kernel)
theorem st_J9_max_7cf53 : Cond.static yJ9_max_7cf53 ∈ TB := tb_at 453 (by decide +kernel) (by decide +kernel)
theorem co_J9_max_7cf53 : Cond.code yJ9_max_7cf53 cJ9_max_7cf53 2 (some .int) ∈ TB := tb_at 454 (by decide +kernel) (by decide +kernel)
theorem ml_L_23 : Cond.methodLink RL 23 yX11_castle ∈ TB := tb_at 455 (by decide +kernel) (by decide +kernel)
theorem im_X11_castle : Cond.instanceMethod yX11_castle ∈ TB := tb_at 456 (by decide +kernel) (by decide +kernel)
theorem se_X11_castle : Cond.selects RX11 yX11_castle yX11_castle ∈ TB := tb_at 457 (by decide +kernel) (by decide +kernel)
theorem co_X11_castle : Cond.code yX11_castle cX11_castle 4 (some .int) ∈ TB := tb_at 458 (by decide +kernel) (by decide +kernel)
theorem ml_X11_108 : Cond.methodLink RX11 108 yX11_isSource ∈ TB := tb_at 459 (by decide +kernel) (by decide +kernel)
theorem im_X11_isSource : Cond.instanceMethod yX11_isSource ∈ TB := tb_at 461 (by decide +kernel) (by decide +kernel)
theorem co_X11_isSource : Cond.code yX11_isSource cX11_isSource 2 (some .boolean) ∈ TB := tb_at 462 (by decide +kernel) (by decide +kernel)
theorem ml_X11_127 : Cond.methodLink RX11 127 yX0_has ∈ TB := tb_at 463 (by decide +kernel) (by decide +kernel)
theorem im_X0_has : Cond.instanceMethod yX0_has ∈ TB := tb_at 464 (by decide +kernel) (by decide +kernel)
theorem se_X0_has : Cond.selects RX0 yX0_has yX0_has ∈ TB := tb_at 465 (by decide +kernel) (by decide +kernel)
theorem co_X0_has : Cond.code yX0_has cX0_has 2 (some .boolean) ∈ TB := tb_at 466 (by decide +kernel) (by decide +kernel)
theorem ml_X11_111 : Cond.methodLink RX11 111 yX0_build ∈ TB := tb_at 468 (by decide +kernel) (by decide +kernel)
theorem im_X0_build : Cond.instanceMethod yX0_build ∈ TB := tb_at 469 (by decide +kernel) (by decide +kernel)
theorem se_X0_build : Cond.selects RX0 yX0_build yX0_build ∈ TB := tb_at 470 (by decide +kernel) (by decide +kernel)
theorem co_X0_build : Cond.code yX0_build cX0_build 4 (some .int) ∈ TB := tb_at 471 (by decide +kernel) (by decide +kernel)
theorem ml_X0_38 : Cond.methodLink RX0 38 yX3_put ∈ TB := tb_at 472 (by decide +kernel) (by decide +kernel)
theorem im_X3_put : Cond.instanceMethod yX3_put ∈ TB := tb_at 473 (by decide +kernel) (by decide +kernel)
theorem se_X3_put : Cond.selects RX3 yX3_put yX3_put ∈ TB := tb_at 474 (by decide +kernel) (by decide +kernel)
theorem co_X3_put : Cond.code yX3_put cX3_put 3 none ∈ TB := tb_at 475 (by decide +kernel) (by decide +kernel)
theorem ml_L_27 : Cond.methodLink RL 27 yX11_person ∈ TB := tb_at 477 (by decide +kernel) (by decide +kernel)
theorem im_X11_person : Cond.instanceMethod yX11_person ∈ TB := tb_at 478 (by decide +kernel) (by decide +kernel)
theorem se_X11_person : Cond.selects RX11 yX11_person yX11_person ∈ TB := tb_at 479 (by decide +kernel) (by decide +kernel)
theorem co_X11_person : Cond.code yX11_person cX11_person 1 (some .int) ∈ TB := tb_at 480 (by decide +kernel) (by decide +kernel)
theorem ml_L_32 : Cond.methodLink RL 32 yX11_death ∈ TB := tb_at 481 (by decide +kernel) (by decide +kernel)
theorem im_X11_death : Cond.instanceMethod yX11_death ∈ TB := tb_at 482 (by decide +kernel) (by decide +kernel)
theorem se_X11_death : Cond.selects RX11 yX11_death yX11_death ∈ TB := tb_at 483 (by decide +kernel) (by decide +kernel)
theorem co_X11_death : Cond.code yX11_death cX11_death 4 (some .int) ∈ TB := tb_at 484 (by decide +kernel) (by decide +kernel)
theorem ml_X11_118 : Cond.methodLink RX11 118 yX11_isPerson ∈ TB := tb_at 485 (by decide +kernel) (by decide +kernel)
theorem im_X11_isPerson : Cond.instanceMethod yX11_isPerson ∈ TB := tb_at 487 (by decide +kernel) (by decide +kernel)
theorem co_X11_isPerson : Cond.code yX11_isPerson cX11_isPerson 2 (some .boolean) ∈ TB := tb_at 488 (by decide +kernel) (by decide +kernel)
theorem ml_X11_121 : Cond.methodLink RX11 121 yX1_add ∈ TB := tb_at 489 (by decide +kernel) (by decide +kernel)
theorem im_X1_add : Cond.instanceMethod yX1_add ∈ TB := tb_at 490 (by decide +kernel) (by decide +kernel)
theorem se_X1_add : Cond.selects RX1 yX1_add yX1_add ∈ TB := tb_at 491 (by decide +kernel) (by decide +kernel)
theorem co_X1_add : Cond.code yX1_add cX1_add 4 (some .int) ∈ TB := tb_at 492 (by decide +kernel) (by decide +kernel)
theorem ml_L_36 : Cond.methodLink RL 36 yX11_nozzle ∈ TB := tb_at 493 (by decide +kernel) (by decide +kernel)
theorem im_X11_nozzle : Cond.instanceMethod yX11_nozzle ∈ TB := tb_at 494 (by decide +kernel) (by decide +kernel)
theorem se_X11_nozzle : Cond.selects RX11 yX11_nozzle yX11_nozzle ∈ TB := tb_at 495 (by decide +kernel) (by decide +kernel)
theorem co_X11_nozzle : Cond.code yX11_nozzle cX11_nozzle 5 (some .int) ∈ TB := tb_at 496 (by decide +kernel) (by decide +kernel)
theorem ml_X11_124 : Cond.methodLink RX11 124 yX11_isQuarter ∈ TB := tb_at 497 (by decide +kernel) (by decide +kernel)
theorem st_X11_isQuarter : Cond.static yX11_isQuarter ∈ TB := tb_at 498 (by decide +kernel) (by decide +kernel)
theorem co_X11_isQuarter : Cond.code yX11_isQuarter cX11_isQuarter 1 (some .boolean) ∈ TB := tb_at 499 (by decide +kernel) (by decide +kernel)
theorem ml_X11_133 : Cond.methodLink RX11 133 yX4_settle ∈ TB := tb_at 500 (by decide +kernel) (by decide +kernel)
theorem im_X4_settle : Cond.instanceMethod yX4_settle ∈ TB := tb_at 501 (by decide +kernel) (by decide +kernel)
theorem se_X4_settle : Cond.selects RX4 yX4_settle yX4_settle ∈ TB := tb_at 502 (by decide +kernel) (by decide +kernel)
theorem co_X4_settle : Cond.code yX4_settle cX4_settle 3 none ∈ TB := tb_at 503 (by decide +kernel) (by decide +kernel)
theorem ml_X11_136 : Cond.methodLink RX11 136 yX4_isAboveMost ∈ TB := tb_at 505 (by decide +kernel) (by decide +kernel)
theorem im_X4_isAboveMost : Cond.instanceMethod yX4_isAboveMost ∈ TB := tb_at 506 (by decide +kernel) (by decide +kernel)
theorem se_X4_isAboveMost : Cond.selects RX4 yX4_isAboveMost yX4_isAboveMost ∈ TB := tb_at 507 (by decide +kernel) (by decide +kernel)
theorem co_X4_isAboveMost : Cond.code yX4_isAboveMost cX4_isAboveMost 2 (some .boolean) ∈ TB := tb_at 508 (by decide +kernel) (by decide +kernel)
theorem ml_X11_139 : Cond.methodLink RX11 139 yX6_stamp ∈ TB := tb_at 509 (by decide +kernel) (by decide +kernel)
theorem im_X6_stamp : Cond.instanceMethod yX6_stamp ∈ TB := tb_at 510 (by decide +kernel) (by decide +kernel)
theorem se_X6_stamp : Cond.selects RX6 yX6_stamp yX6_stamp ∈ TB := tb_at 511 (by decide +kernel) (by decide +kernel)
theorem co_X6_stamp : Cond.code yX6_stamp cX6_stamp 6 (some .int) ∈ TB := tb_at 512 (by decide +kernel) (by decide +kernel)
theorem ml_X6_44 : Cond.methodLink RX6 44 yX3_put ∈ TB := tb_at 513 (by decide +kernel) (by decide +kernel)
theorem ml_L_41 : Cond.methodLink RL 41 yX11_shut ∈ TB := tb_at 514 (by decide +kernel) (by decide +kernel)
theorem im_X11_shut : Cond.instanceMethod yX11_shut ∈ TB := tb_at 515 (by decide +kernel) (by decide +kernel)
theorem se_X11_shut : Cond.selects RX11 yX11_shut yX11_shut ∈ TB := tb_at 516 (by decide +kernel) (by decide +kernel)
theorem co_X11_shut : Cond.code yX11_shut cX11_shut 2 (some .int) ∈ TB := tb_at 517 (by decide +kernel) (by decide +kernel)
theorem ml_X11_143 : Cond.methodLink RX11 143 yX6_has ∈ TB := tb_at 518 (by decide +kernel) (by decide +kernel)
theorem im_X6_has : Cond.instanceMethod yX6_has ∈ TB := tb_at 519 (by decide +kernel) (by decide +kernel)
theorem se_X6_has : Cond.selects RX6 yX6_has yX6_has ∈ TB := tb_at 520 (by decide +kernel) (by decide +kernel)
theorem co_X6_has : Cond.code yX6_has cX6_has 2 (some .boolean) ∈ TB := tb_at 521 (by decide +kernel) (by decide +kernel)
theorem ml_X11_144 : Cond.methodLink RX11 144 yX6_close ∈ TB := tb_at 523 (by decide +kernel) (by decide +kernel)
theorem im_X6_close : Cond.instanceMethod yX6_close ∈ TB := tb_at 524 (by decide +kernel) (by decide +kernel)
theorem se_X6_close : Cond.selects RX6 yX6_close yX6_close ∈ TB := tb_at 525 (by decide +kernel) (by decide +kernel)
theorem co_X6_close : Cond.code yX6_close cX6_close 3 none ∈ TB := tb_at 526 (by decide +kernel) (by decide +kernel)
theorem ml_X6_48 : Cond.methodLink RX6 48 yJ9_min_7cf53 ∈ TB := tb_at 527 (by decide +kernel) (by decide +kernel)
theorem ml_L_45 : Cond.methodLink RL 45 yX11_tap ∈ TB := tb_at 528 (by decide +kernel) (by decide +kernel)
theorem im_X11_tap : Cond.instanceMethod yX11_tap ∈ TB := tb_at 529 (by decide +kernel) (by decide +kernel)
theorem se_X11_tap : Cond.selects RX11 yX11_tap yX11_tap ∈ TB := tb_at 530 (by decide +kernel) (by decide +kernel)
theorem co_X11_tap : Cond.code yX11_tap cX11_tap 5 (some .int) ∈ TB := tb_at 531 (by decide +kernel) (by decide +kernel)
theorem ml_X11_148 : Cond.methodLink RX11 148 yX11_areYears ∈ TB := tb_at 532 (by decide +kernel) (by decide +kernel)
theorem st_X11_areYears : Cond.static yX11_areYears ∈ TB := tb_at 533 (by decide +kernel) (by decide +kernel)
theorem co_X11_areYears : Cond.code yX11_areYears cX11_areYears 2 (some .boolean) ∈ TB := tb_at 534 (by decide +kernel) (by decide +kernel)
theorem ml_X11_152 : Cond.methodLink RX11 152 yX8_add ∈ TB := tb_at 535 (by decide +kernel) (by decide +kernel)
theorem im_X8_add : Cond.instanceMethod yX8_add ∈ TB := tb_at 536 (by decide +kernel) (by decide +kernel)
theorem se_X8_add : Cond.selects RX8 yX8_add yX8_add ∈ TB := tb_at 537 (by decide +kernel) (by decide +kernel)
theorem co_X8_add : Cond.code yX8_add cX8_add 5 (some .int) ∈ TB := tb_at 538 (by decide +kernel) (by decide +kernel)
theorem ml_X8_34 : Cond.methodLink RX8 34 yX3_put ∈ TB := tb_at 539 (by decide +kernel) (by decide +kernel)
theorem ml_L_49 : Cond.methodLink RL 49 yX11_repair ∈ TB := tb_at 540 (by decide +kernel) (by decide +kernel)
theorem im_X11_repair : Cond.instanceMethod yX11_repair ∈ TB := tb_at 541 (by decide +kernel) (by decide +kernel)
theorem se_X11_repair : Cond.selects RX11 yX11_repair yX11_repair ∈ TB := tb_at 542 (by decide +kernel) (by decide +kernel)
theorem co_X11_repair : Cond.code yX11_repair cX11_repair 4 (some .int) ∈ TB := tb_at 543 (by decide +kernel) (by decide +kernel)
theorem ml_L_53 : Cond.methodLink RL 53 yX11_go ∈ TB := tb_at 544 (by decide +kernel) (by decide +kernel)
theorem im_X11_go : Cond.instanceMethod yX11_go ∈ TB := tb_at 545 (by decide +kernel) (by decide +kernel)
theorem se_X11_go : Cond.selects RX11 yX11_go yX11_go ∈ TB := tb_at 546 (by decide +kernel) (by decide +kernel)
theorem co_X11_go : Cond.code yX11_go cX11_go 2 (some .int) ∈ TB := tb_at 547 (by decide +kernel) (by decide +kernel)
theorem ml_L_57 : Cond.methodLink RL 57 yX11_feed ∈ TB := tb_at 548 (by decide +kernel) (by decide +kernel)
theorem im_X11_feed : Cond.instanceMethod yX11_feed ∈ TB := tb_at 549 (by decide +kernel) (by decide +kernel)
theorem se_X11_feed : Cond.selects RX11 yX11_feed yX11_feed ∈ TB := tb_at 550 (by decide +kernel) (by decide +kernel)
theorem co_X11_feed : Cond.code yX11_feed cX11_feed 6 (some .int) ∈ TB := tb_at 551 (by decide +kernel) (by decide +kernel)
theorem ml_X11_155 : Cond.methodLink RX11 155 yX10_hasRoom ∈ TB := tb_at 552 (by decide +kernel) (by decide +kernel)
theorem im_X10_hasRoom : Cond.instanceMethod yX10_hasRoom ∈ TB := tb_at 553 (by decide +kernel) (by decide +kernel)
theorem se_X10_hasRoom : Cond.selects RX10 yX10_hasRoom yX10_hasRoom ∈ TB := tb_at 554 (by decide +kernel) (by decide +kernel)
theorem co_X10_hasRoom : Cond.code yX10_hasRoom cX10_hasRoom 2 (some .boolean) ∈ TB := tb_at 555 (by decide +kernel) (by decide +kernel)
theorem ml_X11_158 : Cond.methodLink RX11 158 yX10_write ∈ TB := tb_at 556 (by decide +kernel) (by decide +kernel)
theorem im_X10_write : Cond.instanceMethod yX10_write ∈ TB := tb_at 557 (by decide +kernel) (by decide +kernel)
theorem se_X10_write : Cond.selects RX10 yX10_write yX10_write ∈ TB := tb_at 558 (by decide +kernel) (by decide +kernel)
theorem co_X10_write : Cond.code yX10_write cX10_write 3 none ∈ TB := tb_at 559 (by decide +kernel) (by decide +kernel)
theorem ml_X10_19 : Cond.methodLink RX10 19 yX10_hasRoom ∈ TB := tb_at 560 (by decide +kernel) (by decide +kernel)
theorem ml_L_62 : Cond.methodLink RL 62 yX11_end ∈ TB := tb_at 561 (by decide +kernel) (by decide +kernel)
theorem im_X11_end : Cond.instanceMethod yX11_end ∈ TB := tb_at 562 (by decide +kernel) (by decide +kernel)
theorem se_X11_end : Cond.selects RX11 yX11_end yX11_end ∈ TB := tb_at 563 (by decide +kernel) (by decide +kernel)
theorem co_X11_end : Cond.code yX11_end cX11_end 2 (some .int) ∈ TB := tb_at 564 (by decide +kernel) (by decide +kernel)
theorem ml_L_66 : Cond.methodLink RL 66 yX11_laws ∈ TB := tb_at 565 (by decide +kernel) (by decide +kernel)
theorem im_X11_laws : Cond.instanceMethod yX11_laws ∈ TB := tb_at 566 (by decide +kernel) (by decide +kernel)
theorem se_X11_laws : Cond.selects RX11 yX11_laws yX11_laws ∈ TB := tb_at 567 (by decide +kernel) (by decide +kernel)
theorem co_X11_laws : Cond.code yX11_laws cX11_laws 2 (some .int) ∈ TB := tb_at 568 (by decide +kernel) (by decide +kernel)
theorem ml_X11_164 : Cond.methodLink RX11 164 yX5_read ∈ TB := tb_at 569 (by decide +kernel) (by decide +kernel)
theorem im_X5_read : Cond.instanceMethod yX5_read ∈ TB := tb_at 570 (by decide +kernel) (by decide +kernel)
theorem se_X5_read : Cond.selects RX5 yX5_read yX5_read ∈ TB := tb_at 571 (by decide +kernel) (by decide +kernel)
theorem co_X5_read : Cond.code yX5_read cX5_read 2 (some .boolean) ∈ TB := tb_at 572 (by decide +kernel) (by decide +kernel)
theorem ml_X5_26 : Cond.methodLink RX5 26 yX4_clear ∈ TB := tb_at 573 (by decide +kernel) (by decide +kernel)
theorem im_X4_clear : Cond.instanceMethod yX4_clear ∈ TB := tb_at 574 (by decide +kernel) (by decide +kernel)
theorem se_X4_clear : Cond.selects RX4 yX4_clear yX4_clear ∈ TB := tb_at 575 (by decide +kernel) (by decide +kernel)
theorem co_X4_clear : Cond.code yX4_clear cX4_clear 1 none ∈ TB := tb_at 576 (by decide +kernel) (by decide +kernel)
theorem ml_X5_32 : Cond.methodLink RX5 32 yX5_step ∈ TB := tb_at 577 (by decide +kernel) (by decide +kernel)
theorem im_X5_step : Cond.instanceMethod yX5_step ∈ TB := tb_at 578 (by decide +kernel) (by decide +kernel)
theorem se_X5_step : Cond.selects RX5 yX5_step yX5_step ∈ TB := tb_at 579 (by decide +kernel) (by decide +kernel)
theorem co_X5_step : Cond.code yX5_step cX5_step 3 none ∈ TB := tb_at 580 (by decide +kernel) (by decide +kernel)
theorem ml_X5_53 : Cond.methodLink RX5 53 yX10_byteAt ∈ TB := tb_at 581 (by decide +kernel) (by decide +kernel)
theorem im_X10_byteAt : Cond.instanceMethod yX10_byteAt ∈ TB := tb_at 582 (by decide +kernel) (by decide +kernel)
theorem se_X10_byteAt : Cond.selects RX10 yX10_byteAt yX10_byteAt ∈ TB := tb_at 583 (by decide +kernel) (by decide +kernel)
theorem co_X10_byteAt : Cond.code yX10_byteAt cX10_byteAt 2 (some .int) ∈ TB := tb_at 584 (by decide +kernel) (by decide +kernel)
theorem ml_X5_110 : Cond.methodLink RX5 110 yX5_byteKind ∈ TB := tb_at 585 (by decide +kernel) (by decide +kernel)
theorem st_X5_byteKind : Cond.static yX5_byteKind ∈ TB := tb_at 586 (by decide +kernel) (by decide +kernel)
theorem co_X5_byteKind : Cond.code yX5_byteKind cX5_byteKind 1 (some .int) ∈ TB := tb_at 587 (by decide +kernel) (by decide +kernel)
theorem ml_X5_35 : Cond.methodLink RX5 35 yX5_isAtEnd ∈ TB := tb_at 588 (by decide +kernel) (by decide +kernel)
theorem im_X5_isAtEnd : Cond.instanceMethod yX5_isAtEnd ∈ TB := tb_at 589 (by decide +kernel) (by decide +kernel)
theorem se_X5_isAtEnd : Cond.selects RX5 yX5_isAtEnd yX5_isAtEnd ∈ TB := tb_at 590 (by decide +kernel) (by decide +kernel)
theorem co_X5_isAtEnd : Cond.code yX5_isAtEnd cX5_isAtEnd 1 (some .boolean) ∈ TB := tb_at 591 (by decide +kernel) (by decide +kernel)
theorem ml_X5_44 : Cond.methodLink RX5 44 yX5_cannotGoOn ∈ TB := tb_at 592 (by decide +kernel) (by decide +kernel)
theorem im_X5_cannotGoOn : Cond.instanceMethod yX5_cannotGoOn ∈ TB := tb_at 593 (by decide +kernel) (by decide +kernel)
theorem se_X5_cannotGoOn : Cond.selects RX5 yX5_cannotGoOn yX5_cannotGoOn ∈ TB := tb_at 594 (by decide +kernel) (by decide +kernel)
theorem co_X5_cannotGoOn : Cond.code yX5_cannotGoOn cX5_cannotGoOn 1 (some .boolean) ∈ TB := tb_at 595 (by decide +kernel) (by decide +kernel)
theorem ml_X5_47 : Cond.methodLink RX5 47 yX5_readLaw ∈ TB := tb_at 596 (by decide +kernel) (by decide +kernel)
theorem im_X5_readLaw : Cond.instanceMethod yX5_readLaw ∈ TB := tb_at 597 (by decide +kernel) (by decide +kernel)
theorem se_X5_readLaw : Cond.selects RX5 yX5_readLaw yX5_readLaw ∈ TB := tb_at 598 (by decide +kernel) (by decide +kernel)
theorem co_X5_readLaw : Cond.code yX5_readLaw cX5_readLaw 5 (some .boolean) ∈ TB := tb_at 599 (by decide +kernel) (by decide +kernel)
theorem ml_X5_59 : Cond.methodLink RX5 59 yX5_takeWord ∈ TB := tb_at 601 (by decide +kernel) (by decide +kernel)
theorem im_X5_takeWord : Cond.instanceMethod yX5_takeWord ∈ TB := tb_at 602 (by decide +kernel) (by decide +kernel)
theorem se_X5_takeWord : Cond.selects RX5 yX5_takeWord yX5_takeWord ∈ TB := tb_at 603 (by decide +kernel) (by decide +kernel)
theorem co_X5_takeWord : Cond.code yX5_takeWord cX5_takeWord 3 (some .boolean) ∈ TB := tb_at 604 (by decide +kernel) (by decide +kernel)
theorem ml_X5_101 : Cond.methodLink RX5 101 yJ0_length_8abf5 ∈ TB := tb_at 605 (by decide +kernel) (by decide +kernel)
theorem im_J0_length_8abf5 : Cond.instanceMethod yJ0_length_8abf5 ∈ TB := tb_at 606 (by decide +kernel) (by decide +kernel)
theorem se_J0_length_8abf5 : Cond.selects RJ0 yJ0_length_8abf5 yJ0_length_8abf5 ∈ TB := tb_at 607 (by decide +kernel) (by decide +kernel)
theorem co_J0_length_8abf5 : Cond.code yJ0_length_8abf5 cJ0_length_8abf5 1 (some .int) ∈ TB := tb_at 608 (by decide +kernel) (by decide +kernel)
theorem ml_J0_335 : Cond.methodLink RJ0 335 yJ0_coder_7d493 ∈ TB := tb_at 609 (by decide +kernel) (by decide +kernel)
theorem im_J0_coder_7d493 : Cond.instanceMethod yJ0_coder_7d493 ∈ TB := tb_at 610 (by decide +kernel) (by decide +kernel)
theorem se_J0_coder_7d493 : Cond.selects RJ0 yJ0_coder_7d493 yJ0_coder_7d493 ∈ TB := tb_at 611 (by decide +kernel) (by decide +kernel)
theorem co_J0_coder_7d493 : Cond.code yJ0_coder_7d493 cJ0_coder_7d493 1 (some .byte) ∈ TB := tb_at 612 (by decide +kernel) (by decide +kernel)
theorem fl_J0_38 : Cond.fieldLink RJ0 38 "java/lang/String" "COMPACT_STRINGS" "Z" ∈ TB := tb_at 613 (by decide +kernel) (by decide +kernel)
theorem ml_X5_106 : Cond.methodLink RX5 106 yJ0_charAt_5068e ∈ TB := tb_at 615 (by decide +kernel) (by decide +kernel)
theorem im_J0_charAt_5068e : Cond.instanceMethod yJ0_charAt_5068e ∈ TB := tb_at 616 (by decide +kernel) (by decide +kernel)
theorem se_J0_charAt_5068e : Cond.selects RJ0 yJ0_charAt_5068e yJ0_charAt_5068e ∈ TB := tb_at 617 (by decide +kernel) (by decide +kernel)
theorem co_J0_charAt_5068e : Cond.code yJ0_charAt_5068e cJ0_charAt_5068e 2 (some .char) ∈ TB := tb_at 618 (by decide +kernel) (by decide +kernel)
theorem ml_J0_492 : Cond.methodLink RJ0 492 yJ0_isLatin1_aae02 ∈ TB := tb_at 619 (by decide +kernel) (by decide +kernel)
theorem im_J0_isLatin1_aae02 : Cond.instanceMethod yJ0_isLatin1_aae02 ∈ TB := tb_at 620 (by decide +kernel) (by decide +kernel)
theorem se_J0_isLatin1_aae02 : Cond.selects RJ0 yJ0_isLatin1_aae02 yJ0_isLatin1_aae02 ∈ TB := tb_at 621 (by decide +kernel) (by decide +kernel)
theorem co_J0_isLatin1_aae02 : Cond.code yJ0_isLatin1_aae02 cJ0_isLatin1_aae02 1 (some .boolean) ∈ TB := tb_at 622 (by decide +kernel) (by decide +kernel)
theorem ml_J0_495 : Cond.methodLink RJ0 495 yJ1_charAt_3b067 ∈ TB := tb_at 623 (by decide +kernel) (by decide +kernel)
theorem st_J1_charAt_3b067 : Cond.static yJ1_charAt_3b067 ∈ TB := tb_at 624 (by decide +kernel) (by decide +kernel)
theorem co_J1_charAt_3b067 : Cond.code yJ1_charAt_3b067 cJ1_charAt_3b067 2 (some .char) ∈ TB := tb_at 625 (by decide +kernel) (by decide +kernel)
theorem ml_J1_9 : Cond.methodLink RJ1 9 yJ0_checkIndex_df160 ∈ TB := tb_at 626 (by decide +kernel) (by decide +kernel)
theorem st_J0_checkIndex_df160 : Cond.static yJ0_checkIndex_df160 ∈ TB := tb_at 627 (by decide +kernel) (by decide +kernel)
theorem co_J0_checkIndex_df160 : Cond.code yJ0_checkIndex_df160 cJ0_checkIndex_df160 2 none ∈ TB := tb_at 628 (by decide +kernel) (by decide +kernel)
theorem fl_J0_1053 : Cond.fieldLink RJ0 1053 "jdk/internal/util/Preconditions" "SIOOBE_FORMATTER" "Ljava/util/function/BiFunction;" ∈ TB := tb_at 629 (by decide +kernel) (by decide +kernel)
theorem ml_J0_1059 : Cond.methodLink RJ0 1059 yJ3_checkIndex_8e157 ∈ TB := tb_at 631 (by decide +kernel) (by decide +kernel)
theorem st_J3_checkIndex_8e157 : Cond.static yJ3_checkIndex_8e157 ∈ TB := tb_at 632 (by decide +kernel) (by decide +kernel)
theorem co_J3_checkIndex_8e157 : Cond.code yJ3_checkIndex_8e157 cJ3_checkIndex_8e157 3 (some .int) ∈ TB := tb_at 633 (by decide +kernel) (by decide +kernel)
theorem ml_J0_498 : Cond.methodLink RJ0 498 yJ2_charAt_3b067 ∈ TB := tb_at 634 (by decide +kernel) (by decide +kernel)
theorem st_J2_charAt_3b067 : Cond.static yJ2_charAt_3b067 ∈ TB := tb_at 635 (by decide +kernel) (by decide +kernel)
theorem co_J2_charAt_3b067 : Cond.code yJ2_charAt_3b067 cJ2_charAt_3b067 2 (some .char) ∈ TB := tb_at 636 (by decide +kernel) (by decide +kernel)
theorem ml_J2_67 : Cond.methodLink RJ2 67 yJ2_checkIndex_2214a ∈ TB := tb_at 637 (by decide +kernel) (by decide +kernel)
theorem st_J2_checkIndex_2214a : Cond.static yJ2_checkIndex_2214a ∈ TB := tb_at 638 (by decide +kernel) (by decide +kernel)
theorem co_J2_checkIndex_2214a : Cond.code yJ2_checkIndex_2214a cJ2_checkIndex_2214a 2 none ∈ TB := tb_at 639 (by decide +kernel) (by decide +kernel)
theorem ml_J2_48 : Cond.methodLink RJ2 48 yJ2_length_9d52b ∈ TB := tb_at 640 (by decide +kernel) (by decide +kernel)
theorem st_J2_length_9d52b : Cond.static yJ2_length_9d52b ∈ TB := tb_at 641 (by decide +kernel) (by decide +kernel)
theorem co_J2_length_9d52b : Cond.code yJ2_length_9d52b cJ2_length_9d52b 1 (some .int) ∈ TB := tb_at 642 (by decide +kernel) (by decide +kernel)
theorem ml_J2_414 : Cond.methodLink RJ2 414 yJ0_checkIndex_df160 ∈ TB := tb_at 643 (by decide +kernel) (by decide +kernel)
theorem ml_J2_71 : Cond.methodLink RJ2 71 yJ2_getChar_3b067 ∈ TB := tb_at 644 (by decide +kernel) (by decide +kernel)
theorem st_J2_getChar_3b067 : Cond.static yJ2_getChar_3b067 ∈ TB := tb_at 645 (by decide +kernel) (by decide +kernel)
theorem co_J2_getChar_3b067 : Cond.code yJ2_getChar_3b067 cJ2_getChar_3b067 2 (some .char) ∈ TB := tb_at 646 (by decide +kernel) (by decide +kernel)
theorem fl_J2_44 : Cond.fieldLink RJ2 44 "java/lang/StringUTF16" "$assertionsDisabled" "Z" ∈ TB := tb_at 647 (by decide +kernel) (by decide +kernel)
theorem fl_J2_59 : Cond.fieldLink RJ2 59 "java/lang/StringUTF16" "HI_BYTE_SHIFT" "I" ∈ TB := tb_at 649 (by decide +kernel) (by decide +kernel)
theorem fl_J2_63 : Cond.fieldLink RJ2 63 "java/lang/StringUTF16" "LO_BYTE_SHIFT" "I" ∈ TB := tb_at 651 (by decide +kernel) (by decide +kernel)
theorem ml_X5_63 : Cond.methodLink RX5 63 yX5_takeNumber ∈ TB := tb_at 653 (by decide +kernel) (by decide +kernel)
theorem im_X5_takeNumber : Cond.instanceMethod yX5_takeNumber ∈ TB := tb_at 654 (by decide +kernel) (by decide +kernel)
theorem se_X5_takeNumber : Cond.selects RX5 yX5_takeNumber yX5_takeNumber ∈ TB := tb_at 655 (by decide +kernel) (by decide +kernel)
theorem co_X5_takeNumber : Cond.code yX5_takeNumber cX5_takeNumber 5 (some .int) ∈ TB := tb_at 656 (by decide +kernel) (by decide +kernel)
theorem kc_X5_113 : Cond.constant RX5 113 (100001) ∈ TB := tb_at 657 (by decide +kernel) (by decide +kernel)
theorem ml_X5_114 : Cond.methodLink RX5 114 yJ9_min_7cf53 ∈ TB := tb_at 658 (by decide +kernel) (by decide +kernel)
theorem ml_X5_69 : Cond.methodLink RX5 69 yX5_takeKind ∈ TB := tb_at 661 (by decide +kernel) (by decide +kernel)
theorem im_X5_takeKind : Cond.instanceMethod yX5_takeKind ∈ TB := tb_at 662 (by decide +kernel) (by decide +kernel)
theorem se_X5_takeKind : Cond.selects RX5 yX5_takeKind yX5_takeKind ∈ TB := tb_at 663 (by decide +kernel) (by decide +kernel)
theorem co_X5_takeKind : Cond.code yX5_takeKind cX5_takeKind 1 (some .int) ∈ TB := tb_at 664 (by decide +kernel) (by decide +kernel)
theorem ml_X5_73 : Cond.methodLink RX5 73 yX5_takeRankName ∈ TB := tb_at 671 (by decide +kernel) (by decide +kernel)
theorem im_X5_takeRankName : Cond.instanceMethod yX5_takeRankName ∈ TB := tb_at 672 (by decide +kernel) (by decide +kernel)
theorem se_X5_takeRankName : Cond.selects RX5 yX5_takeRankName yX5_takeRankName ∈ TB := tb_at 673 (by decide +kernel) (by decide +kernel)
theorem co_X5_takeRankName : Cond.code yX5_takeRankName cX5_takeRankName 1 (some .int) ∈ TB := tb_at 674 (by decide +kernel) (by decide +kernel)
theorem ml_X5_76 : Cond.methodLink RX5 76 yX5_mostOf ∈ TB := tb_at 678 (by decide +kernel) (by decide +kernel)
theorem st_X5_mostOf : Cond.static yX5_mostOf ∈ TB := tb_at 679 (by decide +kernel) (by decide +kernel)
theorem co_X5_mostOf : Cond.code yX5_mostOf cX5_mostOf 1 (some .int) ∈ TB := tb_at 680 (by decide +kernel) (by decide +kernel)
theorem kc_X5_123 : Cond.constant RX5 123 (100000) ∈ TB := tb_at 681 (by decide +kernel) (by decide +kernel)
theorem ml_X5_79 : Cond.methodLink RX5 79 yX4_add ∈ TB := tb_at 682 (by decide +kernel) (by decide +kernel)
theorem im_X4_add : Cond.instanceMethod yX4_add ∈ TB := tb_at 683 (by decide +kernel) (by decide +kernel)
theorem se_X4_add : Cond.selects RX4 yX4_add yX4_add ∈ TB := tb_at 684 (by decide +kernel) (by decide +kernel)
theorem co_X4_add : Cond.code yX4_add cX4_add 5 none ∈ TB := tb_at 685 (by decide +kernel) (by decide +kernel)
theorem ml_X11_171 : Cond.methodLink RX11 171 yX4_copyFrom ∈ TB := tb_at 686 (by decide +kernel) (by decide +kernel)
theorem im_X4_copyFrom : Cond.instanceMethod yX4_copyFrom ∈ TB := tb_at 687 (by decide +kernel) (by decide +kernel)
theorem se_X4_copyFrom : Cond.selects RX4 yX4_copyFrom yX4_copyFrom ∈ TB := tb_at 688 (by decide +kernel) (by decide +kernel)
theorem co_X4_copyFrom : Cond.code yX4_copyFrom cX4_copyFrom 3 none ∈ TB := tb_at 689 (by decide +kernel) (by decide +kernel)
theorem ml_X4_31 : Cond.methodLink RX4 31 yX4_clear ∈ TB := tb_at 690 (by decide +kernel) (by decide +kernel)
theorem ml_X4_34 : Cond.methodLink RX4 34 yX4_add ∈ TB := tb_at 691 (by decide +kernel) (by decide +kernel)
theorem ml_L_70 : Cond.methodLink RL 70 yX11_fault ∈ TB := tb_at 692 (by decide +kernel) (by decide +kernel)
theorem im_X11_fault : Cond.instanceMethod yX11_fault ∈ TB := tb_at 693 (by decide +kernel) (by decide +kernel)
theorem se_X11_fault : Cond.selects RX11 yX11_fault yX11_fault ∈ TB := tb_at 694 (by decide +kernel) (by decide +kernel)
theorem co_X11_fault : Cond.code yX11_fault cX11_fault 1 (some .int) ∈ TB := tb_at 695 (by decide +kernel) (by decide +kernel)
theorem ml_L_74 : Cond.methodLink RL 74 yX11_law ∈ TB := tb_at 696 (by decide +kernel) (by decide +kernel)
theorem im_X11_law : Cond.instanceMethod yX11_law ∈ TB := tb_at 697 (by decide +kernel) (by decide +kernel)
theorem se_X11_law : Cond.selects RX11 yX11_law yX11_law ∈ TB := tb_at 698 (by decide +kernel) (by decide +kernel)
theorem co_X11_law : Cond.code yX11_law cX11_law 3 (some .int) ∈ TB := tb_at 699 (by decide +kernel) (by decide +kernel)
theorem ml_L_79 : Cond.methodLink RL 79 yX11_lives ∈ TB := tb_at 700 (by decide +kernel) (by decide +kernel)
theorem im_X11_lives : Cond.instanceMethod yX11_lives ∈ TB := tb_at 701 (by decide +kernel) (by decide +kernel)
theorem se_X11_lives : Cond.selects RX11 yX11_lives yX11_lives ∈ TB := tb_at 702 (by decide +kernel) (by decide +kernel)
theorem co_X11_lives : Cond.code yX11_lives cX11_lives 4 (some .int) ∈ TB := tb_at 703 (by decide +kernel) (by decide +kernel)
theorem ml_X11_185 : Cond.methodLink RX11 185 yX2_prepare ∈ TB := tb_at 704 (by decide +kernel) (by decide +kernel)
theorem im_X2_prepare : Cond.instanceMethod yX2_prepare ∈ TB := tb_at 705 (by decide +kernel) (by decide +kernel)
theorem se_X2_prepare : Cond.selects RX2 yX2_prepare yX2_prepare ∈ TB := tb_at 706 (by decide +kernel) (by decide +kernel)
theorem co_X2_prepare : Cond.code yX2_prepare cX2_prepare 3 none ∈ TB := tb_at 707 (by decide +kernel) (by decide +kernel)
theorem ml_X2_79 : Cond.methodLink RX2 79 yX4_settle ∈ TB := tb_at 708 (by decide +kernel) (by decide +kernel)
theorem ml_X2_84 : Cond.methodLink RX2 84 yX1_settle ∈ TB := tb_at 709 (by decide +kernel) (by decide +kernel)
theorem im_X1_settle : Cond.instanceMethod yX1_settle ∈ TB := tb_at 710 (by decide +kernel) (by decide +kernel)
theorem se_X1_settle : Cond.selects RX1 yX1_settle yX1_settle ∈ TB := tb_at 711 (by decide +kernel) (by decide +kernel)
theorem co_X1_settle : Cond.code yX1_settle cX1_settle 3 none ∈ TB := tb_at 712 (by decide +kernel) (by decide +kernel)
theorem ml_X11_188 : Cond.methodLink RX11 188 yX2_isLiving ∈ TB := tb_at 713 (by decide +kernel) (by decide +kernel)
theorem im_X2_isLiving : Cond.instanceMethod yX2_isLiving ∈ TB := tb_at 714 (by decide +kernel) (by decide +kernel)
theorem se_X2_isLiving : Cond.selects RX2 yX2_isLiving yX2_isLiving ∈ TB := tb_at 715 (by decide +kernel) (by decide +kernel)
theorem co_X2_isLiving : Cond.code yX2_isLiving cX2_isLiving 2 (some .boolean) ∈ TB := tb_at 716 (by decide +kernel) (by decide +kernel)
theorem ml_X2_120 : Cond.methodLink RX2 120 yX6_isOpen ∈ TB := tb_at 717 (by decide +kernel) (by decide +kernel)
theorem im_X6_isOpen : Cond.instanceMethod yX6_isOpen ∈ TB := tb_at 718 (by decide +kernel) (by decide +kernel)
theorem se_X6_isOpen : Cond.selects RX6 yX6_isOpen yX6_isOpen ∈ TB := tb_at 719 (by decide +kernel) (by decide +kernel)
theorem co_X6_isOpen : Cond.code yX6_isOpen cX6_isOpen 3 (some .boolean) ∈ TB := tb_at 720 (by decide +kernel) (by decide +kernel)
theorem ml_X2_127 : Cond.methodLink RX2 127 yX4_isAboveMost ∈ TB := tb_at 721 (by decide +kernel) (by decide +kernel)
theorem ml_X2_136 : Cond.methodLink RX2 136 yX1_isWithinLife ∈ TB := tb_at 722 (by decide +kernel) (by decide +kernel)
theorem im_X1_isWithinLife : Cond.instanceMethod yX1_isWithinLife ∈ TB := tb_at 723 (by decide +kernel) (by decide +kernel)
theorem se_X1_isWithinLife : Cond.selects RX1 yX1_isWithinLife yX1_isWithinLife ∈ TB := tb_at 724 (by decide +kernel) (by decide +kernel)
theorem co_X1_isWithinLife : Cond.code yX1_isWithinLife cX1_isWithinLife 4 (some .boolean) ∈ TB := tb_at 725 (by decide +kernel) (by decide +kernel)
theorem ml_L_83 : Cond.methodLink RL 83 yX11_gets ∈ TB := tb_at 726 (by decide +kernel) (by decide +kernel)
theorem im_X11_gets : Cond.instanceMethod yX11_gets ∈ TB := tb_at 727 (by decide +kernel) (by decide +kernel)
theorem se_X11_gets : Cond.selects RX11 yX11_gets yX11_gets ∈ TB := tb_at 728 (by decide +kernel) (by decide +kernel)
theorem co_X11_gets : Cond.code yX11_gets cX11_gets 4 (some .int) ∈ TB := tb_at 729 (by decide +kernel) (by decide +kernel)
theorem ml_X11_191 : Cond.methodLink RX11 191 yX2_run ∈ TB := tb_at 730 (by decide +kernel) (by decide +kernel)
theorem im_X2_run : Cond.instanceMethod yX2_run ∈ TB := tb_at 731 (by decide +kernel) (by decide +kernel)
theorem se_X2_run : Cond.selects RX2 yX2_run yX2_run ∈ TB := tb_at 732 (by decide +kernel) (by decide +kernel)
theorem co_X2_run : Cond.code yX2_run cX2_run 3 none ∈ TB := tb_at 733 (by decide +kernel) (by decide +kernel)
theorem ml_X2_67 : Cond.methodLink RX2 67 yX2_prepare ∈ TB := tb_at 734 (by decide +kernel) (by decide +kernel)
theorem ml_X2_71 : Cond.methodLink RX2 71 yX2_flow ∈ TB := tb_at 735 (by decide +kernel) (by decide +kernel)
theorem im_X2_flow : Cond.instanceMethod yX2_flow ∈ TB := tb_at 736 (by decide +kernel) (by decide +kernel)
theorem se_X2_flow : Cond.selects RX2 yX2_flow yX2_flow ∈ TB := tb_at 737 (by decide +kernel) (by decide +kernel)
theorem co_X2_flow : Cond.code yX2_flow cX2_flow 3 none ∈ TB := tb_at 738 (by decide +kernel) (by decide +kernel)
theorem ml_X2_87 : Cond.methodLink RX2 87 yX9_settle ∈ TB := tb_at 739 (by decide +kernel) (by decide +kernel)
theorem im_X9_settle : Cond.instanceMethod yX9_settle ∈ TB := tb_at 740 (by decide +kernel) (by decide +kernel)
theorem se_X9_settle : Cond.selects RX9 yX9_settle yX9_settle ∈ TB := tb_at 741 (by decide +kernel) (by decide +kernel)
theorem co_X9_settle : Cond.code yX9_settle cX9_settle 3 none ∈ TB := tb_at 742 (by decide +kernel) (by decide +kernel)
theorem ml_X2_90 : Cond.methodLink RX2 90 yX2_chooseServed ∈ TB := tb_at 743 (by decide +kernel) (by decide +kernel)
theorem im_X2_chooseServed : Cond.instanceMethod yX2_chooseServed ∈ TB := tb_at 744 (by decide +kernel) (by decide +kernel)
theorem se_X2_chooseServed : Cond.selects RX2 yX2_chooseServed yX2_chooseServed ∈ TB := tb_at 745 (by decide +kernel) (by decide +kernel)
theorem co_X2_chooseServed : Cond.code yX2_chooseServed cX2_chooseServed 2 none ∈ TB := tb_at 746 (by decide +kernel) (by decide +kernel)
theorem ml_X2_116 : Cond.methodLink RX2 116 yX2_isLiving ∈ TB := tb_at 747 (by decide +kernel) (by decide +kernel)
theorem ml_X2_93 : Cond.methodLink RX2 93 yX2_openPipes ∈ TB := tb_at 748 (by decide +kernel) (by decide +kernel)
theorem im_X2_openPipes : Cond.instanceMethod yX2_openPipes ∈ TB := tb_at 749 (by decide +kernel) (by decide +kernel)
theorem se_X2_openPipes : Cond.selects RX2 yX2_openPipes yX2_openPipes ∈ TB := tb_at 750 (by decide +kernel) (by decide +kernel)
theorem co_X2_openPipes : Cond.code yX2_openPipes cX2_openPipes 4 none ∈ TB := tb_at 751 (by decide +kernel) (by decide +kernel)
theorem ml_X2_140 : Cond.methodLink RX2 140 yX8_hasAny ∈ TB := tb_at 752 (by decide +kernel) (by decide +kernel)
theorem im_X8_hasAny : Cond.instanceMethod yX8_hasAny ∈ TB := tb_at 753 (by decide +kernel) (by decide +kernel)
theorem se_X8_hasAny : Cond.selects RX8 yX8_hasAny yX8_hasAny ∈ TB := tb_at 754 (by decide +kernel) (by decide +kernel)
theorem co_X8_hasAny : Cond.code yX8_hasAny cX8_hasAny 4 (some .boolean) ∈ TB := tb_at 755 (by decide +kernel) (by decide +kernel)
theorem ml_X8_45 : Cond.methodLink RX8 45 yX3_member ∈ TB := tb_at 756 (by decide +kernel) (by decide +kernel)
theorem im_X3_member : Cond.instanceMethod yX3_member ∈ TB := tb_at 757 (by decide +kernel) (by decide +kernel)
theorem se_X3_member : Cond.selects RX3 yX3_member yX3_member ∈ TB := tb_at 758 (by decide +kernel) (by decide +kernel)
theorem co_X3_member : Cond.code yX3_member cX3_member 3 (some .int) ∈ TB := tb_at 759 (by decide +kernel) (by decide +kernel)
theorem ml_X8_49 : Cond.methodLink RX8 49 yX8_isIn ∈ TB := tb_at 760 (by decide +kernel) (by decide +kernel)
theorem im_X8_isIn : Cond.instanceMethod yX8_isIn ∈ TB := tb_at 761 (by decide +kernel) (by decide +kernel)
theorem se_X8_isIn : Cond.selects RX8 yX8_isIn yX8_isIn ∈ TB := tb_at 762 (by decide +kernel) (by decide +kernel)
theorem co_X8_isIn : Cond.code yX8_isIn cX8_isIn 3 (some .boolean) ∈ TB := tb_at 763 (by decide +kernel) (by decide +kernel)
theorem ml_X2_101 : Cond.methodLink RX2 101 yX2_bringIn ∈ TB := tb_at 765 (by decide +kernel) (by decide +kernel)
theorem im_X2_bringIn : Cond.instanceMethod yX2_bringIn ∈ TB := tb_at 766 (by decide +kernel) (by decide +kernel)
theorem se_X2_bringIn : Cond.selects RX2 yX2_bringIn yX2_bringIn ∈ TB := tb_at 767 (by decide +kernel) (by decide +kernel)
theorem co_X2_bringIn : Cond.code yX2_bringIn cX2_bringIn 5 none ∈ TB := tb_at 768 (by decide +kernel) (by decide +kernel)
theorem ml_X2_151 : Cond.methodLink RX2 151 yX9_draw ∈ TB := tb_at 769 (by decide +kernel) (by decide +kernel)
theorem im_X9_draw : Cond.instanceMethod yX9_draw ∈ TB := tb_at 770 (by decide +kernel) (by decide +kernel)
theorem se_X9_draw : Cond.selects RX9 yX9_draw yX9_draw ∈ TB := tb_at 771 (by decide +kernel) (by decide +kernel)
theorem co_X9_draw : Cond.code yX9_draw cX9_draw 4 (some .int) ∈ TB := tb_at 772 (by decide +kernel) (by decide +kernel)
theorem ml_X9_47 : Cond.methodLink RX9 47 yJ9_min_7cf53 ∈ TB := tb_at 773 (by decide +kernel) (by decide +kernel)
theorem ml_X2_155 : Cond.methodLink RX2 155 yX8_take ∈ TB := tb_at 774 (by decide +kernel) (by decide +kernel)
theorem im_X8_take : Cond.instanceMethod yX8_take ∈ TB := tb_at 775 (by decide +kernel) (by decide +kernel)
theorem se_X8_take : Cond.selects RX8 yX8_take yX8_take ∈ TB := tb_at 776 (by decide +kernel) (by decide +kernel)
theorem co_X8_take : Cond.code yX8_take cX8_take 7 (some .int) ∈ TB := tb_at 777 (by decide +kernel) (by decide +kernel)
theorem ml_X8_53 : Cond.methodLink RX8 53 yJ9_min_7cf53 ∈ TB := tb_at 778 (by decide +kernel) (by decide +kernel)
theorem ml_X2_159 : Cond.methodLink RX2 159 yX2_lossOf ∈ TB := tb_at 779 (by decide +kernel) (by decide +kernel)
theorem im_X2_lossOf : Cond.instanceMethod yX2_lossOf ∈ TB := tb_at 780 (by decide +kernel) (by decide +kernel)
theorem se_X2_lossOf : Cond.selects RX2 yX2_lossOf yX2_lossOf ∈ TB := tb_at 781 (by decide +kernel) (by decide +kernel)
theorem co_X2_lossOf : Cond.code yX2_lossOf cX2_lossOf 3 (some .int) ∈ TB := tb_at 782 (by decide +kernel) (by decide +kernel)
theorem ml_X2_104 : Cond.methodLink RX2 104 yX2_partToNozzles ∈ TB := tb_at 783 (by decide +kernel) (by decide +kernel)
theorem im_X2_partToNozzles : Cond.instanceMethod yX2_partToNozzles ∈ TB := tb_at 784 (by decide +kernel) (by decide +kernel)
theorem se_X2_partToNozzles : Cond.selects RX2 yX2_partToNozzles yX2_partToNozzles ∈ TB := tb_at 785 (by decide +kernel) (by decide +kernel)
theorem co_X2_partToNozzles : Cond.code yX2_partToNozzles cX2_partToNozzles 5 none ∈ TB := tb_at 786 (by decide +kernel) (by decide +kernel)
theorem ml_X2_165 : Cond.methodLink RX2 165 yX2_partToRank ∈ TB := tb_at 787 (by decide +kernel) (by decide +kernel)
theorem im_X2_partToRank : Cond.instanceMethod yX2_partToRank ∈ TB := tb_at 788 (by decide +kernel) (by decide +kernel)
theorem se_X2_partToRank : Cond.selects RX2 yX2_partToRank yX2_partToRank ∈ TB := tb_at 789 (by decide +kernel) (by decide +kernel)
theorem co_X2_partToRank : Cond.code yX2_partToRank cX2_partToRank 6 (some .int) ∈ TB := tb_at 790 (by decide +kernel) (by decide +kernel)
theorem ml_X2_168 : Cond.methodLink RX2 168 yX4_isClosed ∈ TB := tb_at 791 (by decide +kernel) (by decide +kernel)
theorem im_X4_isClosed : Cond.instanceMethod yX4_isClosed ∈ TB := tb_at 792 (by decide +kernel) (by decide +kernel)
theorem se_X4_isClosed : Cond.selects RX4 yX4_isClosed yX4_isClosed ∈ TB := tb_at 793 (by decide +kernel) (by decide +kernel)
theorem co_X4_isClosed : Cond.code yX4_isClosed cX4_isClosed 2 (some .boolean) ∈ TB := tb_at 794 (by decide +kernel) (by decide +kernel)
theorem ml_X2_171 : Cond.methodLink RX2 171 yX7_clear ∈ TB := tb_at 795 (by decide +kernel) (by decide +kernel)
theorem im_X7_clear : Cond.instanceMethod yX7_clear ∈ TB := tb_at 796 (by decide +kernel) (by decide +kernel)
theorem se_X7_clear : Cond.selects RX7 yX7_clear yX7_clear ∈ TB := tb_at 797 (by decide +kernel) (by decide +kernel)
theorem co_X7_clear : Cond.code yX7_clear cX7_clear 1 none ∈ TB := tb_at 798 (by decide +kernel) (by decide +kernel)
theorem ml_X2_183 : Cond.methodLink RX2 183 yX3_member ∈ TB := tb_at 799 (by decide +kernel) (by decide +kernel)
theorem ml_X2_186 : Cond.methodLink RX2 186 yX7_add ∈ TB := tb_at 800 (by decide +kernel) (by decide +kernel)
theorem im_X7_add : Cond.instanceMethod yX7_add ∈ TB := tb_at 801 (by decide +kernel) (by decide +kernel)
theorem se_X7_add : Cond.selects RX7 yX7_add yX7_add ∈ TB := tb_at 802 (by decide +kernel) (by decide +kernel)
theorem co_X7_add : Cond.code yX7_add cX7_add 3 none ∈ TB := tb_at 803 (by decide +kernel) (by decide +kernel)
theorem ml_X2_189 : Cond.methodLink RX2 189 yX7_part ∈ TB := tb_at 804 (by decide +kernel) (by decide +kernel)
theorem im_X7_part : Cond.instanceMethod yX7_part ∈ TB := tb_at 805 (by decide +kernel) (by decide +kernel)
theorem se_X7_part : Cond.selects RX7 yX7_part yX7_part ∈ TB := tb_at 806 (by decide +kernel) (by decide +kernel)
theorem co_X7_part : Cond.code yX7_part cX7_part 4 (some .int) ∈ TB := tb_at 807 (by decide +kernel) (by decide +kernel)
theorem ml_X2_107 : Cond.methodLink RX2 107 yX2_leadOn ∈ TB := tb_at 808 (by decide +kernel) (by decide +kernel)
theorem im_X2_leadOn : Cond.instanceMethod yX2_leadOn ∈ TB := tb_at 809 (by decide +kernel) (by decide +kernel)
theorem se_X2_leadOn : Cond.selects RX2 yX2_leadOn yX2_leadOn ∈ TB := tb_at 810 (by decide +kernel) (by decide +kernel)
theorem co_X2_leadOn : Cond.code yX2_leadOn cX2_leadOn 5 none ∈ TB := tb_at 811 (by decide +kernel) (by decide +kernel)
theorem ml_L_87 : Cond.methodLink RL 87 yX11_at ∈ TB := tb_at 812 (by decide +kernel) (by decide +kernel)
theorem im_X11_at : Cond.instanceMethod yX11_at ∈ TB := tb_at 813 (by decide +kernel) (by decide +kernel)
theorem se_X11_at : Cond.selects RX11 yX11_at yX11_at ∈ TB := tb_at 814 (by decide +kernel) (by decide +kernel)
theorem co_X11_at : Cond.code yX11_at cX11_at 5 (some .int) ∈ TB := tb_at 815 (by decide +kernel) (by decide +kernel)
theorem ml_L_91 : Cond.methodLink RL 91 yX11_dry ∈ TB := tb_at 816 (by decide +kernel) (by decide +kernel)
theorem im_X11_dry : Cond.instanceMethod yX11_dry ∈ TB := tb_at 817 (by decide +kernel) (by decide +kernel)
theorem se_X11_dry : Cond.selects RX11 yX11_dry yX11_dry ∈ TB := tb_at 818 (by decide +kernel) (by decide +kernel)
theorem co_X11_dry : Cond.code yX11_dry cX11_dry 4 (some .int) ∈ TB := tb_at 819 (by decide +kernel) (by decide +kernel)
theorem ml_X11_201 : Cond.methodLink RX11 201 yX2_weighQuarters ∈ TB := tb_at 820 (by decide +kernel) (by decide +kernel)
theorem im_X2_weighQuarters : Cond.instanceMethod yX2_weighQuarters ∈ TB := tb_at 821 (by decide +kernel) (by decide +kernel)
theorem se_X2_weighQuarters : Cond.selects RX2 yX2_weighQuarters yX2_weighQuarters ∈ TB := tb_at 822 (by decide +kernel) (by decide +kernel)
theorem co_X2_weighQuarters : Cond.code yX2_weighQuarters cX2_weighQuarters 2 none ∈ TB := tb_at 823 (by decide +kernel) (by decide +kernel)
theorem ml_X11_204 : Cond.methodLink RX11 204 yX2_isDry ∈ TB := tb_at 824 (by decide +kernel) (by decide +kernel)
theorem im_X2_isDry : Cond.instanceMethod yX2_isDry ∈ TB := tb_at 825 (by decide +kernel) (by decide +kernel)
theorem se_X2_isDry : Cond.selects RX2 yX2_isDry yX2_isDry ∈ TB := tb_at 826 (by decide +kernel) (by decide +kernel)
theorem co_X2_isDry : Cond.code yX2_isDry cX2_isDry 2 (some .boolean) ∈ TB := tb_at 827 (by decide +kernel) (by decide +kernel)
theorem ml_L_95 : Cond.methodLink RL 95 yX11_found ∈ TB := tb_at 828 (by decide +kernel) (by decide +kernel)
theorem im_X11_found : Cond.instanceMethod yX11_found ∈ TB := tb_at 829 (by decide +kernel) (by decide +kernel)
theorem se_X11_found : Cond.selects RX11 yX11_found yX11_found ∈ TB := tb_at 830 (by decide +kernel) (by decide +kernel)
theorem co_X11_found : Cond.code yX11_found cX11_found 3 (some .int) ∈ TB := tb_at 831 (by decide +kernel) (by decide +kernel)
theorem ml_X11_207 : Cond.methodLink RX11 207 yX2_leastMissing ∈ TB := tb_at 832 (by decide +kernel) (by decide +kernel)
theorem im_X2_leastMissing : Cond.instanceMethod yX2_leastMissing ∈ TB := tb_at 833 (by decide +kernel) (by decide +kernel)
theorem se_X2_leastMissing : Cond.selects RX2 yX2_leastMissing yX2_leastMissing ∈ TB := tb_at 834 (by decide +kernel) (by decide +kernel)
theorem co_X2_leastMissing : Cond.code yX2_leastMissing cX2_leastMissing 7 (some .int) ∈ TB := tb_at 835 (by decide +kernel) (by decide +kernel)
theorem ml_L_99 : Cond.methodLink RL 99 yX11_best ∈ TB := tb_at 836 (by decide +kernel) (by decide +kernel)
theorem im_X11_best : Cond.instanceMethod yX11_best ∈ TB := tb_at 837 (by decide +kernel) (by decide +kernel)
theorem se_X11_best : Cond.selects RX11 yX11_best yX11_best ∈ TB := tb_at 838 (by decide +kernel) (by decide +kernel)
theorem co_X11_best : Cond.code yX11_best cX11_best 5 (some .int) ∈ TB := tb_at 839 (by decide +kernel) (by decide +kernel)
theorem ml_X11_210 : Cond.methodLink RX11 210 yX11_countDryQuarters ∈ TB := tb_at 840 (by decide +kernel) (by decide +kernel)
theorem im_X11_countDryQuarters : Cond.instanceMethod yX11_countDryQuarters ∈ TB := tb_at 842 (by decide +kernel) (by decide +kernel)
theorem co_X11_countDryQuarters : Cond.code yX11_countDryQuarters cX11_countDryQuarters 5 none ∈ TB := tb_at 843 (by decide +kernel) (by decide +kernel)
theorem ml_X11_249 : Cond.methodLink RX11 249 yX2_flow ∈ TB := tb_at 844 (by decide +kernel) (by decide +kernel)
theorem ml_X11_252 : Cond.methodLink RX11 252 yX2_countDry ∈ TB := tb_at 845 (by decide +kernel) (by decide +kernel)
theorem im_X2_countDry : Cond.instanceMethod yX2_countDry ∈ TB := tb_at 846 (by decide +kernel) (by decide +kernel)
theorem se_X2_countDry : Cond.selects RX2 yX2_countDry yX2_countDry ∈ TB := tb_at 847 (by decide +kernel) (by decide +kernel)
theorem co_X2_countDry : Cond.code yX2_countDry cX2_countDry 3 (some .int) ∈ TB := tb_at 848 (by decide +kernel) (by decide +kernel)
theorem ml_X2_203 : Cond.methodLink RX2 203 yX2_isDry ∈ TB := tb_at 849 (by decide +kernel) (by decide +kernel)
theorem ml_X11_214 : Cond.methodLink RX11 214 yX11_leastDryYear ∈ TB := tb_at 850 (by decide +kernel) (by decide +kernel)
theorem im_X11_leastDryYear : Cond.instanceMethod yX11_leastDryYear ∈ TB := tb_at 852 (by decide +kernel) (by decide +kernel)
theorem co_X11_leastDryYear : Cond.code yX11_leastDryYear cX11_leastDryYear 8 (some .int) ∈ TB := tb_at 853 (by decide +kernel) (by decide +kernel)
theorem ml_X11_256 : Cond.methodLink RX11 256 yX11_sumDry ∈ TB := tb_at 854 (by decide +kernel) (by decide +kernel)
theorem im_X11_sumDry : Cond.instanceMethod yX11_sumDry ∈ TB := tb_at 856 (by decide +kernel) (by decide +kernel)
theorem co_X11_sumDry : Cond.code yX11_sumDry cX11_sumDry 5 (some .int) ∈ TB := tb_at 857 (by decide +kernel) (by decide +kernel)
theorem ml_L_103 : Cond.methodLink RL 103 yX11_rent ∈ TB := tb_at 858 (by decide +kernel) (by decide +kernel)
theorem im_X11_rent : Cond.instanceMethod yX11_rent ∈ TB := tb_at 859 (by decide +kernel) (by decide +kernel)
theorem se_X11_rent : Cond.selects RX11 yX11_rent yX11_rent ∈ TB := tb_at 860 (by decide +kernel) (by decide +kernel)
theorem co_X11_rent : Cond.code yX11_rent cX11_rent 6 (some .long) ∈ TB := tb_at 861 (by decide +kernel) (by decide +kernel)
theorem kl_X11_217 : Cond.constantLong RX11 217 (-1) ∈ TB := tb_at 862 (by decide +kernel) (by decide +kernel)
theorem kl_X11_219 : Cond.constantLong RX11 219 (-2) ∈ TB := tb_at 863 (by decide +kernel) (by decide +kernel)
theorem ml_X11_221 : Cond.methodLink RX11 221 yX2_rentOf ∈ TB := tb_at 864 (by decide +kernel) (by decide +kernel)
theorem im_X2_rentOf : Cond.instanceMethod yX2_rentOf ∈ TB := tb_at 865 (by decide +kernel) (by decide +kernel)
theorem se_X2_rentOf : Cond.selects RX2 yX2_rentOf yX2_rentOf ∈ TB := tb_at 866 (by decide +kernel) (by decide +kernel)
theorem co_X2_rentOf : Cond.code yX2_rentOf cX2_rentOf 7 (some .long) ∈ TB := tb_at 867 (by decide +kernel) (by decide +kernel)
theorem ml_X2_206 : Cond.methodLink RX2 206 yX6_isGrantOf ∈ TB := tb_at 868 (by decide +kernel) (by decide +kernel)
theorem im_X6_isGrantOf : Cond.instanceMethod yX6_isGrantOf ∈ TB := tb_at 869 (by decide +kernel) (by decide +kernel)
theorem se_X6_isGrantOf : Cond.selects RX6 yX6_isGrantOf yX6_isGrantOf ∈ TB := tb_at 870 (by decide +kernel) (by decide +kernel)
theorem co_X6_isGrantOf : Cond.code yX6_isGrantOf cX6_isGrantOf 3 (some .boolean) ∈ TB := tb_at 871 (by decide +kernel) (by decide +kernel)
theorem ml_L_108 : Cond.methodLink RL 108 yX11_fines ∈ TB := tb_at 872 (by decide +kernel) (by decide +kernel)
theorem im_X11_fines : Cond.instanceMethod yX11_fines ∈ TB := tb_at 873 (by decide +kernel) (by decide +kernel)
theorem se_X11_fines : Cond.selects RX11 yX11_fines yX11_fines ∈ TB := tb_at 874 (by decide +kernel) (by decide +kernel)
theorem co_X11_fines : Cond.code yX11_fines cX11_fines 5 (some .long) ∈ TB := tb_at 875 (by decide +kernel) (by decide +kernel)
theorem ml_X11_225 : Cond.methodLink RX11 225 yX2_fineOf ∈ TB := tb_at 876 (by decide +kernel) (by decide +kernel)
theorem im_X2_fineOf : Cond.instanceMethod yX2_fineOf ∈ TB := tb_at 877 (by decide +kernel) (by decide +kernel)
theorem se_X2_fineOf : Cond.selects RX2 yX2_fineOf yX2_fineOf ∈ TB := tb_at 878 (by decide +kernel) (by decide +kernel)
theorem co_X2_fineOf : Cond.code yX2_fineOf cX2_fineOf 4 (some .long) ∈ TB := tb_at 879 (by decide +kernel) (by decide +kernel)
theorem ml_L_113 : Cond.methodLink RL 113 yX11_dead ∈ TB := tb_at 880 (by decide +kernel) (by decide +kernel)
theorem im_X11_dead : Cond.instanceMethod yX11_dead ∈ TB := tb_at 881 (by decide +kernel) (by decide +kernel)
theorem se_X11_dead : Cond.selects RX11 yX11_dead yX11_dead ∈ TB := tb_at 882 (by decide +kernel) (by decide +kernel)
theorem co_X11_dead : Cond.code yX11_dead cX11_dead 3 (some .int) ∈ TB := tb_at 883 (by decide +kernel) (by decide +kernel)
theorem ml_X11_228 : Cond.methodLink RX11 228 yX1_settle ∈ TB := tb_at 884 (by decide +kernel) (by decide +kernel)
theorem ml_L_117 : Cond.methodLink RL 117 yX11_count ∈ TB := tb_at 885 (by decide +kernel) (by decide +kernel)
theorem im_X11_count : Cond.instanceMethod yX11_count ∈ TB := tb_at 886 (by decide +kernel) (by decide +kernel)
theorem se_X11_count : Cond.selects RX11 yX11_count yX11_count ∈ TB := tb_at 887 (by decide +kernel) (by decide +kernel)
theorem co_X11_count : Cond.code yX11_count cX11_count 2 (some .int) ∈ TB := tb_at 888 (by decide +kernel) (by decide +kernel)
theorem ml_L_121 : Cond.methodLink RL 121 yX11_status ∈ TB := tb_at 889 (by decide +kernel) (by decide +kernel)
theorem im_X11_status : Cond.instanceMethod yX11_status ∈ TB := tb_at 890 (by decide +kernel) (by decide +kernel)
theorem se_X11_status : Cond.selects RX11 yX11_status yX11_status ∈ TB := tb_at 891 (by decide +kernel) (by decide +kernel)
theorem co_X11_status : Cond.code yX11_status cX11_status 1 (some .int) ∈ TB := tb_at 892 (by decide +kernel) (by decide +kernel)
theorem cl_L_10 : Cond.classLink RL 10 RX12 ∈ TB := tb_at 893 (by decide +kernel) (by decide +kernel)
theorem is_X12 : Cond.instantiable RX12 60 ∈ TB := tb_at 894 (by decide +kernel) (by decide +kernel)
theorem ml_L_12 : Cond.methodLink RL 12 yX12_init ∈ TB := tb_at 895 (by decide +kernel) (by decide +kernel)
theorem im_X12_init : Cond.instanceMethod yX12_init ∈ TB := tb_at 896 (by decide +kernel) (by decide +kernel)
theorem co_X12_init : Cond.code yX12_init cX12_init 1 none ∈ TB := tb_at 897 (by decide +kernel) (by decide +kernel)
theorem ml_X12_1 : Cond.methodLink RX12 1 ⟨"java/lang/Object", "<init>", "()V"⟩ ∈ TB := tb_at 898 (by decide +kernel) (by decide +kernel)
theorem fl_X12_131 : Cond.fieldLink RX12 131 (TX12 0).1 (TX12 0).2.1 (TX12 0).2.2.1 ∈ TB := tb_at 899 (by decide +kernel) (by decide +kernel)
theorem fl_X12_134 : Cond.fieldLink RX12 134 (TX12 1).1 (TX12 1).2.1 (TX12 1).2.2.1 ∈ TB := tb_at 900 (by decide +kernel) (by decide +kernel)
theorem fl_X12_191 : Cond.fieldLink RX12 191 (TX12 2).1 (TX12 2).2.1 (TX12 2).2.2.1 ∈ TB := tb_at 901 (by decide +kernel) (by decide +kernel)
theorem fl_X12_158 : Cond.fieldLink RX12 158 (TX12 3).1 (TX12 3).2.1 (TX12 3).2.2.1 ∈ TB := tb_at 902 (by decide +kernel) (by decide +kernel)
theorem fl_X12_7 : Cond.fieldLink RX12 7 (TX12 4).1 (TX12 4).2.1 (TX12 4).2.2.1 ∈ TB := tb_at 903 (by decide +kernel) (by decide +kernel)
theorem fl_X12_165 : Cond.fieldLink RX12 165 (TX12 5).1 (TX12 5).2.1 (TX12 5).2.2.1 ∈ TB := tb_at 904 (by decide +kernel) (by decide +kernel)
theorem fl_X12_13 : Cond.fieldLink RX12 13 (TX12 6).1 (TX12 6).2.1 (TX12 6).2.2.1 ∈ TB := tb_at 905 (by decide +kernel) (by decide +kernel)
theorem fl_X12_16 : Cond.fieldLink RX12 16 (TX12 7).1 (TX12 7).2.1 (TX12 7).2.2.1 ∈ TB := tb_at 906 (by decide +kernel) (by decide +kernel)
theorem fl_X12_19 : Cond.fieldLink RX12 19 (TX12 8).1 (TX12 8).2.1 (TX12 8).2.2.1 ∈ TB := tb_at 907 (by decide +kernel) (by decide +kernel)
theorem fl_X12_143 : Cond.fieldLink RX12 143 (TX12 9).1 (TX12 9).2.1 (TX12 9).2.2.1 ∈ TB := tb_at 908 (by decide +kernel) (by decide +kernel)
theorem fl_X12_22 : Cond.fieldLink RX12 22 (TX12 10).1 (TX12 10).2.1 (TX12 10).2.2.1 ∈ TB := tb_at 909 (by decide +kernel) (by decide +kernel)
theorem fl_X12_25 : Cond.fieldLink RX12 25 (TX12 11).1 (TX12 11).2.1 (TX12 11).2.2.1 ∈ TB := tb_at 910 (by decide +kernel) (by decide +kernel)
theorem fl_X12_28 : Cond.fieldLink RX12 28 (TX12 12).1 (TX12 12).2.1 (TX12 12).2.2.1 ∈ TB := tb_at 911 (by decide +kernel) (by decide +kernel)
theorem fl_X12_146 : Cond.fieldLink RX12 146 (TX12 13).1 (TX12 13).2.1 (TX12 13).2.2.1 ∈ TB := tb_at 912 (by decide +kernel) (by decide +kernel)
theorem fl_X12_177 : Cond.fieldLink RX12 177 (TX12 14).1 (TX12 14).2.1 (TX12 14).2.2.1 ∈ TB := tb_at 913 (by decide +kernel) (by decide +kernel)
theorem fl_X12_31 : Cond.fieldLink RX12 31 (TX12 15).1 (TX12 15).2.1 (TX12 15).2.2.1 ∈ TB := tb_at 914 (by decide +kernel) (by decide +kernel)
theorem fl_X12_34 : Cond.fieldLink RX12 34 (TX12 16).1 (TX12 16).2.1 (TX12 16).2.2.1 ∈ TB := tb_at 915 (by decide +kernel) (by decide +kernel)
theorem fl_X12_37 : Cond.fieldLink RX12 37 (TX12 17).1 (TX12 17).2.1 (TX12 17).2.2.1 ∈ TB := tb_at 916 (by decide +kernel) (by decide +kernel)
theorem fl_X12_149 : Cond.fieldLink RX12 149 (TX12 18).1 (TX12 18).2.1 (TX12 18).2.2.1 ∈ TB := tb_at 917 (by decide +kernel) (by decide +kernel)
theorem fl_X12_40 : Cond.fieldLink RX12 40 (TX12 19).1 (TX12 19).2.1 (TX12 19).2.2.1 ∈ TB := tb_at 918 (by decide +kernel) (by decide +kernel)
theorem fl_X12_43 : Cond.fieldLink RX12 43 (TX12 20).1 (TX12 20).2.1 (TX12 20).2.2.1 ∈ TB := tb_at 919 (by decide +kernel) (by decide +kernel)
theorem fl_X12_46 : Cond.fieldLink RX12 46 (TX12 21).1 (TX12 21).2.1 (TX12 21).2.2.1 ∈ TB := tb_at 920 (by decide +kernel) (by decide +kernel)
theorem fl_X12_49 : Cond.fieldLink RX12 49 (TX12 22).1 (TX12 22).2.1 (TX12 22).2.2.1 ∈ TB := tb_at 921 (by decide +kernel) (by decide +kernel)
theorem fl_X12_52 : Cond.fieldLink RX12 52 (TX12 23).1 (TX12 23).2.1 (TX12 23).2.2.1 ∈ TB := tb_at 922 (by decide +kernel) (by decide +kernel)
theorem fl_X12_55 : Cond.fieldLink RX12 55 (TX12 24).1 (TX12 24).2.1 (TX12 24).2.2.1 ∈ TB := tb_at 923 (by decide +kernel) (by decide +kernel)
theorem fl_X12_202 : Cond.fieldLink RX12 202 (TX12 25).1 (TX12 25).2.1 (TX12 25).2.2.1 ∈ TB := tb_at 924 (by decide +kernel) (by decide +kernel)
theorem fl_X12_58 : Cond.fieldLink RX12 58 (TX12 26).1 (TX12 26).2.1 (TX12 26).2.2.1 ∈ TB := tb_at 925 (by decide +kernel) (by decide +kernel)
theorem fl_X12_61 : Cond.fieldLink RX12 61 (TX12 27).1 (TX12 27).2.1 (TX12 27).2.2.1 ∈ TB := tb_at 926 (by decide +kernel) (by decide +kernel)
theorem fl_X12_64 : Cond.fieldLink RX12 64 (TX12 28).1 (TX12 28).2.1 (TX12 28).2.2.1 ∈ TB := tb_at 927 (by decide +kernel) (by decide +kernel)
theorem fl_X12_67 : Cond.fieldLink RX12 67 (TX12 29).1 (TX12 29).2.1 (TX12 29).2.2.1 ∈ TB := tb_at 928 (by decide +kernel) (by decide +kernel)
theorem fl_X12_205 : Cond.fieldLink RX12 205 (TX12 30).1 (TX12 30).2.1 (TX12 30).2.2.1 ∈ TB := tb_at 929 (by decide +kernel) (by decide +kernel)
theorem fl_X12_70 : Cond.fieldLink RX12 70 (TX12 31).1 (TX12 31).2.1 (TX12 31).2.2.1 ∈ TB := tb_at 930 (by decide +kernel) (by decide +kernel)
theorem fl_X12_73 : Cond.fieldLink RX12 73 (TX12 32).1 (TX12 32).2.1 (TX12 32).2.2.1 ∈ TB := tb_at 931 (by decide +kernel) (by decide +kernel)
theorem fl_X12_76 : Cond.fieldLink RX12 76 (TX12 33).1 (TX12 33).2.1 (TX12 33).2.2.1 ∈ TB := tb_at 932 (by decide +kernel) (by decide +kernel)
theorem fl_X12_210 : Cond.fieldLink RX12 210 (TX12 34).1 (TX12 34).2.1 (TX12 34).2.2.1 ∈ TB := tb_at 933 (by decide +kernel) (by decide +kernel)
theorem fl_X12_79 : Cond.fieldLink RX12 79 (TX12 35).1 (TX12 35).2.1 (TX12 35).2.2.1 ∈ TB := tb_at 934 (by decide +kernel) (by decide +kernel)
theorem fl_X12_82 : Cond.fieldLink RX12 82 (TX12 36).1 (TX12 36).2.1 (TX12 36).2.2.1 ∈ TB := tb_at 935 (by decide +kernel) (by decide +kernel)
theorem fl_X12_85 : Cond.fieldLink RX12 85 (TX12 37).1 (TX12 37).2.1 (TX12 37).2.2.1 ∈ TB := tb_at 936 (by decide +kernel) (by decide +kernel)
theorem fl_X12_88 : Cond.fieldLink RX12 88 (TX12 38).1 (TX12 38).2.1 (TX12 38).2.2.1 ∈ TB := tb_at 937 (by decide +kernel) (by decide +kernel)
theorem fl_X12_91 : Cond.fieldLink RX12 91 (TX12 39).1 (TX12 39).2.1 (TX12 39).2.2.1 ∈ TB := tb_at 938 (by decide +kernel) (by decide +kernel)
theorem fl_X12_266 : Cond.fieldLink RX12 266 (TX12 40).1 (TX12 40).2.1 (TX12 40).2.2.1 ∈ TB := tb_at 939 (by decide +kernel) (by decide +kernel)
theorem fl_X12_94 : Cond.fieldLink RX12 94 (TX12 41).1 (TX12 41).2.1 (TX12 41).2.2.1 ∈ TB := tb_at 940 (by decide +kernel) (by decide +kernel)
theorem fl_X12_217 : Cond.fieldLink RX12 217 (TX12 42).1 (TX12 42).2.1 (TX12 42).2.2.1 ∈ TB := tb_at 941 (by decide +kernel) (by decide +kernel)
theorem fl_X12_227 : Cond.fieldLink RX12 227 (TX12 43).1 (TX12 43).2.1 (TX12 43).2.2.1 ∈ TB := tb_at 942 (by decide +kernel) (by decide +kernel)
theorem fl_X12_224 : Cond.fieldLink RX12 224 (TX12 44).1 (TX12 44).2.1 (TX12 44).2.2.1 ∈ TB := tb_at 943 (by decide +kernel) (by decide +kernel)
theorem fl_X12_240 : Cond.fieldLink RX12 240 (TX12 45).1 (TX12 45).2.1 (TX12 45).2.2.1 ∈ TB := tb_at 944 (by decide +kernel) (by decide +kernel)
theorem fl_X12_230 : Cond.fieldLink RX12 230 (TX12 46).1 (TX12 46).2.1 (TX12 46).2.2.1 ∈ TB := tb_at 945 (by decide +kernel) (by decide +kernel)
theorem fl_X12_97 : Cond.fieldLink RX12 97 (TX12 47).1 (TX12 47).2.1 (TX12 47).2.2.1 ∈ TB := tb_at 946 (by decide +kernel) (by decide +kernel)
theorem fl_X12_255 : Cond.fieldLink RX12 255 (TX12 48).1 (TX12 48).2.1 (TX12 48).2.2.1 ∈ TB := tb_at 947 (by decide +kernel) (by decide +kernel)
theorem fl_X12_101 : Cond.fieldLink RX12 101 (TX12 49).1 (TX12 49).2.1 (TX12 49).2.2.1 ∈ TB := tb_at 948 (by decide +kernel) (by decide +kernel)
theorem fl_X12_104 : Cond.fieldLink RX12 104 (TX12 50).1 (TX12 50).2.1 (TX12 50).2.2.1 ∈ TB := tb_at 949 (by decide +kernel) (by decide +kernel)
theorem fl_X12_107 : Cond.fieldLink RX12 107 (TX12 51).1 (TX12 51).2.1 (TX12 51).2.2.1 ∈ TB := tb_at 950 (by decide +kernel) (by decide +kernel)
theorem fl_X12_110 : Cond.fieldLink RX12 110 (TX12 52).1 (TX12 52).2.1 (TX12 52).2.2.1 ∈ TB := tb_at 951 (by decide +kernel) (by decide +kernel)
theorem fl_X12_113 : Cond.fieldLink RX12 113 (TX12 53).1 (TX12 53).2.1 (TX12 53).2.2.1 ∈ TB := tb_at 952 (by decide +kernel) (by decide +kernel)
theorem fl_X12_116 : Cond.fieldLink RX12 116 (TX12 54).1 (TX12 54).2.1 (TX12 54).2.2.1 ∈ TB := tb_at 953 (by decide +kernel) (by decide +kernel)
theorem fl_X12_119 : Cond.fieldLink RX12 119 (TX12 55).1 (TX12 55).2.1 (TX12 55).2.2.1 ∈ TB := tb_at 954 (by decide +kernel) (by decide +kernel)
theorem fl_X12_122 : Cond.fieldLink RX12 122 (TX12 56).1 (TX12 56).2.1 (TX12 56).2.2.1 ∈ TB := tb_at 955 (by decide +kernel) (by decide +kernel)
theorem fl_X12_125 : Cond.fieldLink RX12 125 (TX12 57).1 (TX12 57).2.1 (TX12 57).2.2.1 ∈ TB := tb_at 956 (by decide +kernel) (by decide +kernel)
theorem fl_X12_128 : Cond.fieldLink RX12 128 (TX12 58).1 (TX12 58).2.1 (TX12 58).2.2.1 ∈ TB := tb_at 957 (by decide +kernel) (by decide +kernel)
theorem fl_X12_289 : Cond.fieldLink RX12 289 (TX12 59).1 (TX12 59).2.1 (TX12 59).2.2.1 ∈ TB := tb_at 958 (by decide +kernel) (by decide +kernel)
theorem ml_L_17 : Cond.methodLink RL 17 yX12_aqueduct ∈ TB := tb_at 1080 (by decide +kernel) (by decide +kernel)
theorem im_X12_aqueduct : Cond.instanceMethod yX12_aqueduct ∈ TB := tb_at 1081 (by decide +kernel) (by decide +kernel)
theorem se_X12_aqueduct : Cond.selects RX12 yX12_aqueduct yX12_aqueduct ∈ TB := tb_at 1082 (by decide +kernel) (by decide +kernel)
theorem co_X12_aqueduct : Cond.code yX12_aqueduct cX12_aqueduct 2 (some .int) ∈ TB := tb_at 1083 (by decide +kernel) (by decide +kernel)
theorem kl_X12_152 : Cond.constantLong RX12 152 (100000) ∈ TB := tb_at 1084 (by decide +kernel) (by decide +kernel)
theorem ml_X12_139 : Cond.methodLink RX12 139 yX12_in ∈ TB := tb_at 1085 (by decide +kernel) (by decide +kernel)
theorem st_X12_in : Cond.static yX12_in ∈ TB := tb_at 1086 (by decide +kernel) (by decide +kernel)
theorem co_X12_in : Cond.code yX12_in cX12_in 6 (some .boolean) ∈ TB := tb_at 1087 (by decide +kernel) (by decide +kernel)
theorem ml_X12_154 : Cond.methodLink RX12 154 yX12_told ∈ TB := tb_at 1088 (by decide +kernel) (by decide +kernel)
theorem im_X12_told : Cond.instanceMethod yX12_told ∈ TB := tb_at 1090 (by decide +kernel) (by decide +kernel)
theorem co_X12_told : Cond.code yX12_told cX12_told 2 (some .int) ∈ TB := tb_at 1091 (by decide +kernel) (by decide +kernel)
theorem ml_L_22 : Cond.methodLink RL 22 yX12_spring ∈ TB := tb_at 1092 (by decide +kernel) (by decide +kernel)
theorem im_X12_spring : Cond.instanceMethod yX12_spring ∈ TB := tb_at 1093 (by decide +kernel) (by decide +kernel)
theorem se_X12_spring : Cond.selects RX12 yX12_spring yX12_spring ∈ TB := tb_at 1094 (by decide +kernel) (by decide +kernel)
theorem co_X12_spring : Cond.code yX12_spring cX12_spring 5 (some .int) ∈ TB := tb_at 1095 (by decide +kernel) (by decide +kernel)
theorem ml_X12_161 : Cond.methodLink RX12 161 yX12_isYear ∈ TB := tb_at 1096 (by decide +kernel) (by decide +kernel)
theorem st_X12_isYear : Cond.static yX12_isYear ∈ TB := tb_at 1097 (by decide +kernel) (by decide +kernel)
theorem co_X12_isYear : Cond.code yX12_isYear cX12_isYear 1 (some .boolean) ∈ TB := tb_at 1098 (by decide +kernel) (by decide +kernel)
theorem kl_X12_137 : Cond.constantLong RX12 137 (200) ∈ TB := tb_at 1099 (by decide +kernel) (by decide +kernel)
theorem ml_L_26 : Cond.methodLink RL 26 yX12_castle ∈ TB := tb_at 1100 (by decide +kernel) (by decide +kernel)
theorem im_X12_castle : Cond.instanceMethod yX12_castle ∈ TB := tb_at 1101 (by decide +kernel) (by decide +kernel)
theorem se_X12_castle : Cond.selects RX12 yX12_castle yX12_castle ∈ TB := tb_at 1102 (by decide +kernel) (by decide +kernel)
theorem co_X12_castle : Cond.code yX12_castle cX12_castle 4 (some .int) ∈ TB := tb_at 1103 (by decide +kernel) (by decide +kernel)
theorem kl_X12_168 : Cond.constantLong RX12 168 (1000) ∈ TB := tb_at 1104 (by decide +kernel) (by decide +kernel)
theorem kl_X12_170 : Cond.constantLong RX12 170 (100) ∈ TB := tb_at 1105 (by decide +kernel) (by decide +kernel)
theorem kl_X12_172 : Cond.constantLong RX12 172 (99) ∈ TB := tb_at 1106 (by decide +kernel) (by decide +kernel)
theorem ml_L_31 : Cond.methodLink RL 31 yX12_person ∈ TB := tb_at 1107 (by decide +kernel) (by decide +kernel)
theorem im_X12_person : Cond.instanceMethod yX12_person ∈ TB := tb_at 1108 (by decide +kernel) (by decide +kernel)
theorem se_X12_person : Cond.selects RX12 yX12_person yX12_person ∈ TB := tb_at 1109 (by decide +kernel) (by decide +kernel)
theorem co_X12_person : Cond.code yX12_person cX12_person 1 (some .int) ∈ TB := tb_at 1110 (by decide +kernel) (by decide +kernel)
theorem ml_L_35 : Cond.methodLink RL 35 yX12_death ∈ TB := tb_at 1111 (by decide +kernel) (by decide +kernel)
theorem im_X12_death : Cond.instanceMethod yX12_death ∈ TB := tb_at 1112 (by decide +kernel) (by decide +kernel)
theorem se_X12_death : Cond.selects RX12 yX12_death yX12_death ∈ TB := tb_at 1113 (by decide +kernel) (by decide +kernel)
theorem co_X12_death : Cond.code yX12_death cX12_death 4 (some .int) ∈ TB := tb_at 1114 (by decide +kernel) (by decide +kernel)
theorem ml_X12_174 : Cond.methodLink RX12 174 yX12_isPerson ∈ TB := tb_at 1115 (by decide +kernel) (by decide +kernel)
theorem im_X12_isPerson : Cond.instanceMethod yX12_isPerson ∈ TB := tb_at 1117 (by decide +kernel) (by decide +kernel)
theorem co_X12_isPerson : Cond.code yX12_isPerson cX12_isPerson 2 (some .boolean) ∈ TB := tb_at 1118 (by decide +kernel) (by decide +kernel)
theorem ml_L_116 : Cond.methodLink RL 116 yX12_dead ∈ TB := tb_at 1119 (by decide +kernel) (by decide +kernel)
theorem im_X12_dead : Cond.instanceMethod yX12_dead ∈ TB := tb_at 1120 (by decide +kernel) (by decide +kernel)
theorem se_X12_dead : Cond.selects RX12 yX12_dead yX12_dead ∈ TB := tb_at 1121 (by decide +kernel) (by decide +kernel)
theorem co_X12_dead : Cond.code yX12_dead cX12_dead 3 (some .int) ∈ TB := tb_at 1122 (by decide +kernel) (by decide +kernel)
theorem ml_X12_180 : Cond.methodLink RX12 180 yX12_deadOf ∈ TB := tb_at 1123 (by decide +kernel) (by decide +kernel)
theorem im_X12_deadOf : Cond.instanceMethod yX12_deadOf ∈ TB := tb_at 1125 (by decide +kernel) (by decide +kernel)
theorem co_X12_deadOf : Cond.code yX12_deadOf cX12_deadOf 5 (some .int) ∈ TB := tb_at 1126 (by decide +kernel) (by decide +kernel)
theorem ml_L_40 : Cond.methodLink RL 40 yX12_nozzle ∈ TB := tb_at 1127 (by decide +kernel) (by decide +kernel)
theorem im_X12_nozzle : Cond.instanceMethod yX12_nozzle ∈ TB := tb_at 1128 (by decide +kernel) (by decide +kernel)
theorem se_X12_nozzle : Cond.selects RX12 yX12_nozzle yX12_nozzle ∈ TB := tb_at 1129 (by decide +kernel) (by decide +kernel)
theorem co_X12_nozzle : Cond.code yX12_nozzle cX12_nozzle 6 (some .int) ∈ TB := tb_at 1130 (by decide +kernel) (by decide +kernel)
theorem kl_X12_184 : Cond.constantLong RX12 184 (2) ∈ TB := tb_at 1131 (by decide +kernel) (by decide +kernel)
theorem kl_X12_186 : Cond.constantLong RX12 186 (7) ∈ TB := tb_at 1132 (by decide +kernel) (by decide +kernel)
theorem ml_X12_188 : Cond.methodLink RX12 188 yX12_isCastle ∈ TB := tb_at 1133 (by decide +kernel) (by decide +kernel)
theorem im_X12_isCastle : Cond.instanceMethod yX12_isCastle ∈ TB := tb_at 1135 (by decide +kernel) (by decide +kernel)
theorem co_X12_isCastle : Cond.code yX12_isCastle cX12_isCastle 2 (some .boolean) ∈ TB := tb_at 1136 (by decide +kernel) (by decide +kernel)
theorem ml_X12_194 : Cond.methodLink RX12 194 yX12_lawOf ∈ TB := tb_at 1137 (by decide +kernel) (by decide +kernel)
theorem im_X12_lawOf : Cond.instanceMethod yX12_lawOf ∈ TB := tb_at 1139 (by decide +kernel) (by decide +kernel)
theorem co_X12_lawOf : Cond.code yX12_lawOf cX12_lawOf 5 (some .int) ∈ TB := tb_at 1140 (by decide +kernel) (by decide +kernel)
theorem ml_L_44 : Cond.methodLink RL 44 yX12_shut ∈ TB := tb_at 1141 (by decide +kernel) (by decide +kernel)
theorem im_X12_shut : Cond.instanceMethod yX12_shut ∈ TB := tb_at 1142 (by decide +kernel) (by decide +kernel)
theorem se_X12_shut : Cond.selects RX12 yX12_shut yX12_shut ∈ TB := tb_at 1143 (by decide +kernel) (by decide +kernel)
theorem co_X12_shut : Cond.code yX12_shut cX12_shut 2 (some .int) ∈ TB := tb_at 1144 (by decide +kernel) (by decide +kernel)
theorem ml_X12_197 : Cond.methodLink RX12 197 yX12_isNozzle ∈ TB := tb_at 1145 (by decide +kernel) (by decide +kernel)
theorem im_X12_isNozzle : Cond.instanceMethod yX12_isNozzle ∈ TB := tb_at 1147 (by decide +kernel) (by decide +kernel)
theorem co_X12_isNozzle : Cond.code yX12_isNozzle cX12_isNozzle 2 (some .boolean) ∈ TB := tb_at 1148 (by decide +kernel) (by decide +kernel)
theorem ml_L_48 : Cond.methodLink RL 48 yX12_tap ∈ TB := tb_at 1149 (by decide +kernel) (by decide +kernel)
theorem im_X12_tap : Cond.instanceMethod yX12_tap ∈ TB := tb_at 1150 (by decide +kernel) (by decide +kernel)
theorem se_X12_tap : Cond.selects RX12 yX12_tap yX12_tap ∈ TB := tb_at 1151 (by decide +kernel) (by decide +kernel)
theorem co_X12_tap : Cond.code yX12_tap cX12_tap 5 (some .int) ∈ TB := tb_at 1152 (by decide +kernel) (by decide +kernel)
theorem kl_X12_200 : Cond.constantLong RX12 200 (10000) ∈ TB := tb_at 1153 (by decide +kernel) (by decide +kernel)
theorem ml_L_52 : Cond.methodLink RL 52 yX12_repair ∈ TB := tb_at 1154 (by decide +kernel) (by decide +kernel)
theorem im_X12_repair : Cond.instanceMethod yX12_repair ∈ TB := tb_at 1155 (by decide +kernel) (by decide +kernel)
theorem se_X12_repair : Cond.selects RX12 yX12_repair yX12_repair ∈ TB := tb_at 1156 (by decide +kernel) (by decide +kernel)
theorem co_X12_repair : Cond.code yX12_repair cX12_repair 4 (some .int) ∈ TB := tb_at 1157 (by decide +kernel) (by decide +kernel)
theorem ml_L_56 : Cond.methodLink RL 56 yX12_go ∈ TB := tb_at 1158 (by decide +kernel) (by decide +kernel)
theorem im_X12_go : Cond.instanceMethod yX12_go ∈ TB := tb_at 1159 (by decide +kernel) (by decide +kernel)
theorem se_X12_go : Cond.selects RX12 yX12_go yX12_go ∈ TB := tb_at 1160 (by decide +kernel) (by decide +kernel)
theorem co_X12_go : Cond.code yX12_go cX12_go 2 (some .int) ∈ TB := tb_at 1161 (by decide +kernel) (by decide +kernel)
theorem kl_X12_208 : Cond.constantLong RX12 208 (50) ∈ TB := tb_at 1162 (by decide +kernel) (by decide +kernel)
theorem ml_L_78 : Cond.methodLink RL 78 yX12_law ∈ TB := tb_at 1163 (by decide +kernel) (by decide +kernel)
theorem im_X12_law : Cond.instanceMethod yX12_law ∈ TB := tb_at 1164 (by decide +kernel) (by decide +kernel)
theorem se_X12_law : Cond.selects RX12 yX12_law yX12_law ∈ TB := tb_at 1165 (by decide +kernel) (by decide +kernel)
theorem co_X12_law : Cond.code yX12_law cX12_law 3 (some .int) ∈ TB := tb_at 1166 (by decide +kernel) (by decide +kernel)
theorem ml_X12_213 : Cond.methodLink RX12 213 yX12_isClosed ∈ TB := tb_at 1167 (by decide +kernel) (by decide +kernel)
theorem im_X12_isClosed : Cond.instanceMethod yX12_isClosed ∈ TB := tb_at 1169 (by decide +kernel) (by decide +kernel)
theorem co_X12_isClosed : Cond.code yX12_isClosed cX12_isClosed 5 (some .boolean) ∈ TB := tb_at 1170 (by decide +kernel) (by decide +kernel)
theorem ml_L_61 : Cond.methodLink RL 61 yX12_feed ∈ TB := tb_at 1171 (by decide +kernel) (by decide +kernel)
theorem im_X12_feed : Cond.instanceMethod yX12_feed ∈ TB := tb_at 1172 (by decide +kernel) (by decide +kernel)
theorem se_X12_feed : Cond.selects RX12 yX12_feed yX12_feed ∈ TB := tb_at 1173 (by decide +kernel) (by decide +kernel)
theorem co_X12_feed : Cond.code yX12_feed cX12_feed 6 (some .int) ∈ TB := tb_at 1174 (by decide +kernel) (by decide +kernel)
theorem ml_X12_220 : Cond.methodLink RX12 220 yX12_four ∈ TB := tb_at 1175 (by decide +kernel) (by decide +kernel)
theorem im_X12_four : Cond.instanceMethod yX12_four ∈ TB := tb_at 1177 (by decide +kernel) (by decide +kernel)
theorem co_X12_four : Cond.code yX12_four cX12_four 3 none ∈ TB := tb_at 1178 (by decide +kernel) (by decide +kernel)
theorem ml_L_65 : Cond.methodLink RL 65 yX12_end ∈ TB := tb_at 1179 (by decide +kernel) (by decide +kernel)
theorem im_X12_end : Cond.instanceMethod yX12_end ∈ TB := tb_at 1180 (by decide +kernel) (by decide +kernel)
theorem se_X12_end : Cond.selects RX12 yX12_end yX12_end ∈ TB := tb_at 1181 (by decide +kernel) (by decide +kernel)
theorem co_X12_end : Cond.code yX12_end cX12_end 2 (some .int) ∈ TB := tb_at 1182 (by decide +kernel) (by decide +kernel)
theorem ml_L_69 : Cond.methodLink RL 69 yX12_laws ∈ TB := tb_at 1183 (by decide +kernel) (by decide +kernel)
theorem im_X12_laws : Cond.instanceMethod yX12_laws ∈ TB := tb_at 1184 (by decide +kernel) (by decide +kernel)
theorem se_X12_laws : Cond.selects RX12 yX12_laws yX12_laws ∈ TB := tb_at 1185 (by decide +kernel) (by decide +kernel)
theorem co_X12_laws : Cond.code yX12_laws cX12_laws 2 (some .int) ∈ TB := tb_at 1186 (by decide +kernel) (by decide +kernel)
theorem ml_X12_259 : Cond.methodLink RX12 259 yX12_next ∈ TB := tb_at 1187 (by decide +kernel) (by decide +kernel)
theorem im_X12_next : Cond.instanceMethod yX12_next ∈ TB := tb_at 1189 (by decide +kernel) (by decide +kernel)
theorem co_X12_next : Cond.code yX12_next cX12_next 1 none ∈ TB := tb_at 1190 (by decide +kernel) (by decide +kernel)
theorem ml_X12_234 : Cond.methodLink RX12 234 yX12_isSmall ∈ TB := tb_at 1191 (by decide +kernel) (by decide +kernel)
theorem st_X12_isSmall : Cond.static yX12_isSmall ∈ TB := tb_at 1192 (by decide +kernel) (by decide +kernel)
theorem co_X12_isSmall : Cond.code yX12_isSmall cX12_isSmall 1 (some .boolean) ∈ TB := tb_at 1193 (by decide +kernel) (by decide +kernel)
theorem ml_X12_237 : Cond.methodLink RX12 237 yX12_isDigit ∈ TB := tb_at 1194 (by decide +kernel) (by decide +kernel)
theorem st_X12_isDigit : Cond.static yX12_isDigit ∈ TB := tb_at 1195 (by decide +kernel) (by decide +kernel)
theorem co_X12_isDigit : Cond.code yX12_isDigit cX12_isDigit 1 (some .boolean) ∈ TB := tb_at 1196 (by decide +kernel) (by decide +kernel)
theorem kl_X12_243 : Cond.constantLong RX12 243 (32) ∈ TB := tb_at 1197 (by decide +kernel) (by decide +kernel)
theorem kl_X12_245 : Cond.constantLong RX12 245 (96) ∈ TB := tb_at 1198 (by decide +kernel) (by decide +kernel)
theorem kl_X12_247 : Cond.constantLong RX12 247 (-1) ∈ TB := tb_at 1199 (by decide +kernel) (by decide +kernel)
theorem kl_X12_249 : Cond.constantLong RX12 249 (1000000) ∈ TB := tb_at 1200 (by decide +kernel) (by decide +kernel)
theorem kl_X12_251 : Cond.constantLong RX12 251 (10) ∈ TB := tb_at 1201 (by decide +kernel) (by decide +kernel)
theorem kl_X12_253 : Cond.constantLong RX12 253 (48) ∈ TB := tb_at 1202 (by decide +kernel) (by decide +kernel)
theorem ml_X12_281 : Cond.methodLink RX12 281 yX12_readLaw ∈ TB := tb_at 1203 (by decide +kernel) (by decide +kernel)
theorem im_X12_readLaw : Cond.instanceMethod yX12_readLaw ∈ TB := tb_at 1205 (by decide +kernel) (by decide +kernel)
theorem co_X12_readLaw : Cond.code yX12_readLaw cX12_readLaw 5 none ∈ TB := tb_at 1206 (by decide +kernel) (by decide +kernel)
theorem ml_X12_269 : Cond.methodLink RX12 269 yX12_isWord ∈ TB := tb_at 1207 (by decide +kernel) (by decide +kernel)
theorem im_X12_isWord : Cond.instanceMethod yX12_isWord ∈ TB := tb_at 1209 (by decide +kernel) (by decide +kernel)
theorem co_X12_isWord : Cond.code yX12_isWord cX12_isWord 8 (some .boolean) ∈ TB := tb_at 1210 (by decide +kernel) (by decide +kernel)
theorem ml_X12_262 : Cond.methodLink RX12 262 yX12_must ∈ TB := tb_at 1211 (by decide +kernel) (by decide +kernel)
theorem im_X12_must : Cond.instanceMethod yX12_must ∈ TB := tb_at 1213 (by decide +kernel) (by decide +kernel)
theorem co_X12_must : Cond.code yX12_must cX12_must 2 none ∈ TB := tb_at 1214 (by decide +kernel) (by decide +kernel)
theorem ml_X12_273 : Cond.methodLink RX12 273 yX12_number ∈ TB := tb_at 1215 (by decide +kernel) (by decide +kernel)
theorem im_X12_number : Cond.instanceMethod yX12_number ∈ TB := tb_at 1217 (by decide +kernel) (by decide +kernel)
theorem co_X12_number : Cond.code yX12_number cX12_number 4 (some .int) ∈ TB := tb_at 1218 (by decide +kernel) (by decide +kernel)
theorem ml_X12_277 : Cond.methodLink RX12 277 yX12_isLong ∈ TB := tb_at 1219 (by decide +kernel) (by decide +kernel)
theorem im_X12_isLong : Cond.instanceMethod yX12_isLong ∈ TB := tb_at 1221 (by decide +kernel) (by decide +kernel)
theorem co_X12_isLong : Cond.code yX12_isLong cX12_isLong 12 (some .boolean) ∈ TB := tb_at 1222 (by decide +kernel) (by decide +kernel)
theorem kl_X12_284 : Cond.constantLong RX12 284 (59) ∈ TB := tb_at 1223 (by decide +kernel) (by decide +kernel)
theorem ml_L_73 : Cond.methodLink RL 73 yX12_fault ∈ TB := tb_at 1224 (by decide +kernel) (by decide +kernel)
theorem im_X12_fault : Cond.instanceMethod yX12_fault ∈ TB := tb_at 1225 (by decide +kernel) (by decide +kernel)
theorem se_X12_fault : Cond.selects RX12 yX12_fault yX12_fault ∈ TB := tb_at 1226 (by decide +kernel) (by decide +kernel)
theorem co_X12_fault : Cond.code yX12_fault cX12_fault 1 (some .int) ∈ TB := tb_at 1227 (by decide +kernel) (by decide +kernel)
theorem ml_L_82 : Cond.methodLink RL 82 yX12_lives ∈ TB := tb_at 1228 (by decide +kernel) (by decide +kernel)
theorem im_X12_lives : Cond.instanceMethod yX12_lives ∈ TB := tb_at 1229 (by decide +kernel) (by decide +kernel)
theorem se_X12_lives : Cond.selects RX12 yX12_lives yX12_lives ∈ TB := tb_at 1230 (by decide +kernel) (by decide +kernel)
theorem co_X12_lives : Cond.code yX12_lives cX12_lives 4 (some .int) ∈ TB := tb_at 1231 (by decide +kernel) (by decide +kernel)
theorem ml_X12_302 : Cond.methodLink RX12 302 yX12_livesIn ∈ TB := tb_at 1232 (by decide +kernel) (by decide +kernel)
theorem im_X12_livesIn : Cond.instanceMethod yX12_livesIn ∈ TB := tb_at 1234 (by decide +kernel) (by decide +kernel)
theorem co_X12_livesIn : Cond.code yX12_livesIn cX12_livesIn 6 (some .boolean) ∈ TB := tb_at 1235 (by decide +kernel) (by decide +kernel)
theorem ml_X12_286 : Cond.methodLink RX12 286 yX12_isOpen ∈ TB := tb_at 1236 (by decide +kernel) (by decide +kernel)
theorem im_X12_isOpen : Cond.instanceMethod yX12_isOpen ∈ TB := tb_at 1238 (by decide +kernel) (by decide +kernel)
theorem co_X12_isOpen : Cond.code yX12_isOpen cX12_isOpen 3 (some .boolean) ∈ TB := tb_at 1239 (by decide +kernel) (by decide +kernel)
theorem ml_L_86 : Cond.methodLink RL 86 yX12_gets ∈ TB := tb_at 1240 (by decide +kernel) (by decide +kernel)
theorem im_X12_gets : Cond.instanceMethod yX12_gets ∈ TB := tb_at 1241 (by decide +kernel) (by decide +kernel)
theorem se_X12_gets : Cond.selects RX12 yX12_gets yX12_gets ∈ TB := tb_at 1242 (by decide +kernel) (by decide +kernel)
theorem co_X12_gets : Cond.code yX12_gets cX12_gets 4 (some .int) ∈ TB := tb_at 1243 (by decide +kernel) (by decide +kernel)
theorem ml_X12_309 : Cond.methodLink RX12 309 yX12_flow ∈ TB := tb_at 1244 (by decide +kernel) (by decide +kernel)
theorem im_X12_flow : Cond.instanceMethod yX12_flow ∈ TB := tb_at 1246 (by decide +kernel) (by decide +kernel)
theorem co_X12_flow : Cond.code yX12_flow cX12_flow 6 none ∈ TB := tb_at 1247 (by decide +kernel) (by decide +kernel)
theorem ml_X12_292 : Cond.methodLink RX12 292 yX12_yieldOf ∈ TB := tb_at 1248 (by decide +kernel) (by decide +kernel)
theorem im_X12_yieldOf : Cond.instanceMethod yX12_yieldOf ∈ TB := tb_at 1250 (by decide +kernel) (by decide +kernel)
theorem co_X12_yieldOf : Cond.code yX12_yieldOf cX12_yieldOf 5 (some .int) ∈ TB := tb_at 1251 (by decide +kernel) (by decide +kernel)
theorem ml_X12_295 : Cond.methodLink RX12 295 yX12_isDown ∈ TB := tb_at 1252 (by decide +kernel) (by decide +kernel)
theorem im_X12_isDown : Cond.instanceMethod yX12_isDown ∈ TB := tb_at 1254 (by decide +kernel) (by decide +kernel)
theorem co_X12_isDown : Cond.code yX12_isDown cX12_isDown 5 (some .boolean) ∈ TB := tb_at 1255 (by decide +kernel) (by decide +kernel)
theorem ml_X12_298 : Cond.methodLink RX12 298 yX12_flowAt ∈ TB := tb_at 1256 (by decide +kernel) (by decide +kernel)
theorem im_X12_flowAt : Cond.instanceMethod yX12_flowAt ∈ TB := tb_at 1258 (by decide +kernel) (by decide +kernel)
theorem co_X12_flowAt : Cond.code yX12_flowAt cX12_flowAt 10 none ∈ TB := tb_at 1259 (by decide +kernel) (by decide +kernel)
theorem ml_X12_306 : Cond.methodLink RX12 306 yX12_deal ∈ TB := tb_at 1260 (by decide +kernel) (by decide +kernel)
theorem im_X12_deal : Cond.instanceMethod yX12_deal ∈ TB := tb_at 1262 (by decide +kernel) (by decide +kernel)
theorem co_X12_deal : Cond.code yX12_deal cX12_deal 6 (some .int) ∈ TB := tb_at 1263 (by decide +kernel) (by decide +kernel)
theorem ml_L_90 : Cond.methodLink RL 90 yX12_at ∈ TB := tb_at 1264 (by decide +kernel) (by decide +kernel)
theorem im_X12_at : Cond.instanceMethod yX12_at ∈ TB := tb_at 1265 (by decide +kernel) (by decide +kernel)
theorem se_X12_at : Cond.selects RX12 yX12_at yX12_at ∈ TB := tb_at 1266 (by decide +kernel) (by decide +kernel)
theorem co_X12_at : Cond.code yX12_at cX12_at 5 (some .int) ∈ TB := tb_at 1267 (by decide +kernel) (by decide +kernel)
theorem ml_L_94 : Cond.methodLink RL 94 yX12_dry ∈ TB := tb_at 1268 (by decide +kernel) (by decide +kernel)
theorem im_X12_dry : Cond.instanceMethod yX12_dry ∈ TB := tb_at 1269 (by decide +kernel) (by decide +kernel)
theorem se_X12_dry : Cond.selects RX12 yX12_dry yX12_dry ∈ TB := tb_at 1270 (by decide +kernel) (by decide +kernel)
theorem co_X12_dry : Cond.code yX12_dry cX12_dry 4 (some .int) ∈ TB := tb_at 1271 (by decide +kernel) (by decide +kernel)
theorem ml_X12_313 : Cond.methodLink RX12 313 yX12_isDry ∈ TB := tb_at 1272 (by decide +kernel) (by decide +kernel)
theorem im_X12_isDry : Cond.instanceMethod yX12_isDry ∈ TB := tb_at 1274 (by decide +kernel) (by decide +kernel)
theorem co_X12_isDry : Cond.code yX12_isDry cX12_isDry 6 (some .boolean) ∈ TB := tb_at 1275 (by decide +kernel) (by decide +kernel)
theorem ml_L_98 : Cond.methodLink RL 98 yX12_found ∈ TB := tb_at 1276 (by decide +kernel) (by decide +kernel)
theorem im_X12_found : Cond.instanceMethod yX12_found ∈ TB := tb_at 1277 (by decide +kernel) (by decide +kernel)
theorem se_X12_found : Cond.selects RX12 yX12_found yX12_found ∈ TB := tb_at 1278 (by decide +kernel) (by decide +kernel)
theorem co_X12_found : Cond.code yX12_found cX12_found 5 (some .int) ∈ TB := tb_at 1279 (by decide +kernel) (by decide +kernel)
theorem ml_L_102 : Cond.methodLink RL 102 yX12_best ∈ TB := tb_at 1280 (by decide +kernel) (by decide +kernel)
theorem im_X12_best : Cond.instanceMethod yX12_best ∈ TB := tb_at 1281 (by decide +kernel) (by decide +kernel)
theorem se_X12_best : Cond.selects RX12 yX12_best yX12_best ∈ TB := tb_at 1282 (by decide +kernel) (by decide +kernel)
theorem co_X12_best : Cond.code yX12_best cX12_best 11 (some .int) ∈ TB := tb_at 1283 (by decide +kernel) (by decide +kernel)
theorem kl_X12_316 : Cond.constantLong RX12 316 (201) ∈ TB := tb_at 1284 (by decide +kernel) (by decide +kernel)
theorem ml_L_107 : Cond.methodLink RL 107 yX12_rent ∈ TB := tb_at 1285 (by decide +kernel) (by decide +kernel)
theorem im_X12_rent : Cond.instanceMethod yX12_rent ∈ TB := tb_at 1286 (by decide +kernel) (by decide +kernel)
theorem se_X12_rent : Cond.selects RX12 yX12_rent yX12_rent ∈ TB := tb_at 1287 (by decide +kernel) (by decide +kernel)
theorem co_X12_rent : Cond.code yX12_rent cX12_rent 9 (some .long) ∈ TB := tb_at 1288 (by decide +kernel) (by decide +kernel)
theorem kl_X12_318 : Cond.constantLong RX12 318 (-2) ∈ TB := tb_at 1289 (by decide +kernel) (by decide +kernel)
theorem ml_L_112 : Cond.methodLink RL 112 yX12_fines ∈ TB := tb_at 1290 (by decide +kernel) (by decide +kernel)
theorem im_X12_fines : Cond.instanceMethod yX12_fines ∈ TB := tb_at 1291 (by decide +kernel) (by decide +kernel)
theorem se_X12_fines : Cond.selects RX12 yX12_fines yX12_fines ∈ TB := tb_at 1292 (by decide +kernel) (by decide +kernel)
theorem co_X12_fines : Cond.code yX12_fines cX12_fines 6 (some .long) ∈ TB := tb_at 1293 (by decide +kernel) (by decide +kernel)
theorem ml_L_120 : Cond.methodLink RL 120 yX12_count ∈ TB := tb_at 1294 (by decide +kernel) (by decide +kernel)
theorem im_X12_count : Cond.instanceMethod yX12_count ∈ TB := tb_at 1295 (by decide +kernel) (by decide +kernel)
theorem se_X12_count : Cond.selects RX12 yX12_count yX12_count ∈ TB := tb_at 1296 (by decide +kernel) (by decide +kernel)
theorem co_X12_count : Cond.code yX12_count cX12_count 2 (some .int) ∈ TB := tb_at 1297 (by decide +kernel) (by decide +kernel)
theorem ml_L_124 : Cond.methodLink RL 124 yX12_status ∈ TB := tb_at 1298 (by decide +kernel) (by decide +kernel)
theorem im_X12_status : Cond.instanceMethod yX12_status ∈ TB := tb_at 1299 (by decide +kernel) (by decide +kernel)
theorem se_X12_status : Cond.selects RX12 yX12_status yX12_status ∈ TB := tb_at 1300 (by decide +kernel) (by decide +kernel)
theorem co_X12_status : Cond.code yX12_status cX12_status 1 (some .int) ∈ TB := tb_at 1301 (by decide +kernel) (by decide +kernel)
theorem fl_J0_9 : Cond.fieldLink RJ0 9 "java/lang/String" "value" "[B" ∈ TB := tb_at 1302 (by decide +kernel) (by decide +kernel)
theorem fl_J0_15 : Cond.fieldLink RJ0 15 "java/lang/String" "coder" "B" ∈ TB := tb_at 1303 (by decide +kernel) (by decide +kernel)
-- the fields' words, by class
theorem fw_X0 : ∀ w ∈ u_ws RX0 TX0 5, w ∈ TB := by decide +kernel
theorem fw_X1 : ∀ w ∈ u_ws RX1 TX1 5, w ∈ TB := by decide +kernel
theorem fw_X2 : ∀ w ∈ u_ws RX2 TX2 15, w ∈ TB := by decide +kernel
theorem fw_X3 : ∀ w ∈ u_ws RX3 TX3 3, w ∈ TB := by decide +kernel
theorem fw_X4 : ∀ w ∈ u_ws RX4 TX4 6, w ∈ TB := by decide +kernel
theorem fw_X5 : ∀ w ∈ u_ws RX5 TX5 5, w ∈ TB := by decide +kernel
theorem fw_X6 : ∀ w ∈ u_ws RX6 TX6 7, w ∈ TB := by decide +kernel
theorem fw_X7 : ∀ w ∈ u_ws RX7 TX7 5, w ∈ TB := by decide +kernel
theorem fw_X8 : ∀ w ∈ u_ws RX8 TX8 5, w ∈ TB := by decide +kernel
theorem fw_X9 : ∀ w ∈ u_ws RX9 TX9 7, w ∈ TB := by decide +kernel
theorem fw_X10 : ∀ w ∈ u_ws RX10 TX10 2, w ∈ TB := by decide +kernel
theorem fw_X11 : ∀ w ∈ u_ws RX11 TX11 14, w ∈ TB := by decide +kernel
theorem fw_X12 : ∀ w ∈ u_ws RX12 TX12 60, w ∈ TB := by decide +kernel
end
section
/-! ===== contracts over one world: its ints, its rows, its longs; the calls of such contracts ===== -/
abbrev St : Type := (Nat → Int32) × (Nat → Nat → Int32) × (Nat → Int64)
def fF (σ : St) (k : Nat) (v : Int32) : St := (va_up σ.1 k v, σ.2.1, σ.2.2)
def fR (σ : St) (k : Nat) (f : Nat → Int32) : St := (σ.1, va_up σ.2.1 k f, σ.2.2)
def fL (σ : St) (k : Nat) (v : Int64) : St := (σ.1, σ.2.1, va_up σ.2.2 k v)
def PP (D : va_G) (cy : Nat → ClassId) (wf : St → va_W) (A : Nat → Prop) (σ : St) (U : State) : Prop := va_P D vwCl (wf σ) U.heap ∧ va_D A (wf σ) ∧ KK D cy U
def CI (l : Launch) (y : MethodName) (cc : ByteArray) (n : Nat) (r : Option FieldType) (rm : Room) (D : va_G) (cy : Nat → ClassId) (wf : St → va_W) (A : Nat → Prop) (av : List Value) (σ : St) (post : Int32 → St → Prop) : Prop :=
  Met l y (WS y cc n r) rm (va_Pc av (PP D cy wf A σ)) (va_Qi post (fun u t => va_P D vwCl (wf u) t.heap) A) 0 0 A
def CL (l : Launch) (y : MethodName) (cc : ByteArray) (n : Nat) (r : Option FieldType) (rm : Room) (D : va_G) (cy : Nat → ClassId) (wf : St → va_W) (A : Nat → Prop) (av : List Value) (σ : St) (post : Int64 → St → Prop) : Prop :=
  Met l y (WS y cc n r) rm (va_Pc av (PP D cy wf A σ)) (va_Ql post (fun u t => va_P D vwCl (wf u) t.heap) A) 0 0 A
def CV (l : Launch) (y : MethodName) (cc : ByteArray) (n : Nat) (r : Option FieldType) (rm : Room) (D : va_G) (cy : Nat → ClassId) (wf : St → va_W) (A : Nat → Prop) (av : List Value) (σ : St) (post : St → Prop) : Prop :=
  Met l y (WS y cc n r) rm (va_Pc av (PP D cy wf A σ)) (va_Qv post (fun u t => va_P D vwCl (wf u) t.heap) A) 0 0 A
/-- a room of depth d -/
def rmOf (f k : Nat) : Room := { frames := f, cells := 0, slots := 0, locals := k }
theorem pp_blind (D : va_G) (cy : Nat → ClassId) (wf : St → va_W) (A : Nat → Prop) (av : List Value) (σ : St) : FrameBlind (va_Pc av (PP D cy wf A σ)) := by
  intro a U g mk q
  exact ⟨q.1, q.2.1, q.2.2.1, q.2.2.2.call⟩
theorem wsv_good {y : MethodName} {cc : ByteArray} {n idx : Nat} {r : Option FieldType} {own : String} (co : Cond.code y cc n r ∈ TB) (ml : Cond.methodLink own idx y ∈ TB) (im : Cond.instanceMethod y ∈ TB) (se : Cond.selects y.cls y y ∈ TB) (ini : Cond.initialized y.cls ∈ TB) : GoodIn TB (wsV own idx y.cls y (WS y cc n r)) := by
  intro w hw
  rcases List.mem_append.mp hw with h | h
  · have hm : w ∈ TB := by
      rcases List.mem_cons.mp h with e | h
      · rw [e]; exact ml
      rcases List.mem_cons.mp h with e | h
      · rw [e]; exact im
      rcases List.mem_cons.mp h with e | h
      · rw [e]; exact se
      rcases List.mem_cons.mp h with e | h
      · rw [e]; exact ini
      · cases h
    exact ⟨hm, good_of_word (List.mem_filter.mp hm).2⟩
  · exact tb_good co w h
theorem wss_good {y : MethodName} {cc : ByteArray} {n idx : Nat} {r : Option FieldType} {own : String} (co : Cond.code y cc n r ∈ TB) (ml : Cond.methodLink own idx y ∈ TB) (st : Cond.static y ∈ TB) (ini : Cond.initialized own ∈ TB) : GoodIn TB (wsS own idx y (WS y cc n r)) := by
  intro w hw
  rcases List.mem_append.mp hw with h | h
  · have hm : w ∈ TB := by
      rcases List.mem_cons.mp h with e | h
      · rw [e]; exact ml
      rcases List.mem_cons.mp h with e | h
      · rw [e]; exact st
      rcases List.mem_cons.mp h with e | h
      · rw [e]; exact ini
      · cases h
    exact ⟨hm, good_of_word (List.mem_filter.mp hm).2⟩
  · exact tb_good co w h
/-- what a method's name must be to be called so, with k arguments -/
def okN (y : MethodName) (k : Nat) : Prop := y.cls ≠ "java/lang/invoke/MethodHandle" ∧ y.cls ≠ "java/lang/invoke/VarHandle" ∧ (parseMethodDescriptor y.desc).map (fun d => d.parameters.length) = some k
theorem ok_X0_init : okN yX0_init 0 := ⟨by decide +kernel, by decide +kernel, by decide +kernel⟩
theorem ok_X0_has : okN yX0_has 1 := ⟨by decide +kernel, by decide +kernel, by decide +kernel⟩
theorem ok_X0_build : okN yX0_build 3 := ⟨by decide +kernel, by decide +kernel, by decide +kernel⟩
theorem ok_X1_init : okN yX1_init 0 := ⟨by decide +kernel, by decide +kernel, by decide +kernel⟩
theorem ok_X1_add : okN yX1_add 3 := ⟨by decide +kernel, by decide +kernel, by decide +kernel⟩
theorem ok_X1_settle : okN yX1_settle 1 := ⟨by decide +kernel, by decide +kernel, by decide +kernel⟩
theorem ok_X1_isWithinLife : okN yX1_isWithinLife 3 := ⟨by decide +kernel, by decide +kernel, by decide +kernel⟩
theorem ok_X2_init : okN yX2_init 7 := ⟨by decide +kernel, by decide +kernel, by decide +kernel⟩
theorem ok_X2_run : okN yX2_run 2 := ⟨by decide +kernel, by decide +kernel, by decide +kernel⟩
theorem ok_X2_prepare : okN yX2_prepare 2 := ⟨by decide +kernel, by decide +kernel, by decide +kernel⟩
theorem ok_X2_flow : okN yX2_flow 1 := ⟨by decide +kernel, by decide +kernel, by decide +kernel⟩
theorem ok_X2_chooseServed : okN yX2_chooseServed 0 := ⟨by decide +kernel, by decide +kernel, by decide +kernel⟩
theorem ok_X2_isLiving : okN yX2_isLiving 1 := ⟨by decide +kernel, by decide +kernel, by decide +kernel⟩
theorem ok_X2_openPipes : okN yX2_openPipes 1 := ⟨by decide +kernel, by decide +kernel, by decide +kernel⟩
theorem ok_X2_bringIn : okN yX2_bringIn 1 := ⟨by decide +kernel, by decide +kernel, by decide +kernel⟩
theorem ok_X2_lossOf : okN yX2_lossOf 2 := ⟨by decide +kernel, by decide +kernel, by decide +kernel⟩
theorem ok_X2_partToNozzles : okN yX2_partToNozzles 1 := ⟨by decide +kernel, by decide +kernel, by decide +kernel⟩
theorem ok_X2_partToRank : okN yX2_partToRank 3 := ⟨by decide +kernel, by decide +kernel, by decide +kernel⟩
theorem ok_X2_leadOn : okN yX2_leadOn 1 := ⟨by decide +kernel, by decide +kernel, by decide +kernel⟩
theorem ok_X2_weighQuarters : okN yX2_weighQuarters 0 := ⟨by decide +kernel, by decide +kernel, by decide +kernel⟩
theorem ok_X2_isDry : okN yX2_isDry 1 := ⟨by decide +kernel, by decide +kernel, by decide +kernel⟩
theorem ok_X2_countDry : okN yX2_countDry 0 := ⟨by decide +kernel, by decide +kernel, by decide +kernel⟩
theorem ok_X2_leastMissing : okN yX2_leastMissing 1 := ⟨by decide +kernel, by decide +kernel, by decide +kernel⟩
theorem ok_X2_rentOf : okN yX2_rentOf 3 := ⟨by decide +kernel, by decide +kernel, by decide +kernel⟩
theorem ok_X2_fineOf : okN yX2_fineOf 3 := ⟨by decide +kernel, by decide +kernel, by decide +kernel⟩
theorem ok_X3_init : okN yX3_init 1 := ⟨by decide +kernel, by decide +kernel, by decide +kernel⟩
theorem ok_X3_put : okN yX3_put 2 := ⟨by decide +kernel, by decide +kernel, by decide +kernel⟩
theorem ok_X3_member : okN yX3_member 2 := ⟨by decide +kernel, by decide +kernel, by decide +kernel⟩
theorem ok_X4_init : okN yX4_init 0 := ⟨by decide +kernel, by decide +kernel, by decide +kernel⟩
theorem ok_X4_clear : okN yX4_clear 0 := ⟨by decide +kernel, by decide +kernel, by decide +kernel⟩
theorem ok_X4_add : okN yX4_add 4 := ⟨by decide +kernel, by decide +kernel, by decide +kernel⟩
theorem ok_X4_copyFrom : okN yX4_copyFrom 1 := ⟨by decide +kernel, by decide +kernel, by decide +kernel⟩
theorem ok_X4_settle : okN yX4_settle 1 := ⟨by decide +kernel, by decide +kernel, by decide +kernel⟩
theorem ok_X4_isAboveMost : okN yX4_isAboveMost 1 := ⟨by decide +kernel, by decide +kernel, by decide +kernel⟩
theorem ok_X4_isClosed : okN yX4_isClosed 1 := ⟨by decide +kernel, by decide +kernel, by decide +kernel⟩
theorem ok_X5_init : okN yX5_init 1 := ⟨by decide +kernel, by decide +kernel, by decide +kernel⟩
theorem ok_X5_read : okN yX5_read 0 := ⟨by decide +kernel, by decide +kernel, by decide +kernel⟩
theorem ok_X5_cannotGoOn : okN yX5_cannotGoOn 0 := ⟨by decide +kernel, by decide +kernel, by decide +kernel⟩
theorem ok_X5_readLaw : okN yX5_readLaw 0 := ⟨by decide +kernel, by decide +kernel, by decide +kernel⟩
theorem ok_X5_takeKind : okN yX5_takeKind 0 := ⟨by decide +kernel, by decide +kernel, by decide +kernel⟩
theorem ok_X5_takeRankName : okN yX5_takeRankName 0 := ⟨by decide +kernel, by decide +kernel, by decide +kernel⟩
theorem ok_X5_takeWord : okN yX5_takeWord 1 := ⟨by decide +kernel, by decide +kernel, by decide +kernel⟩
theorem ok_X5_takeNumber : okN yX5_takeNumber 2 := ⟨by decide +kernel, by decide +kernel, by decide +kernel⟩
theorem ok_X5_isAtEnd : okN yX5_isAtEnd 0 := ⟨by decide +kernel, by decide +kernel, by decide +kernel⟩
theorem ok_X5_step : okN yX5_step 0 := ⟨by decide +kernel, by decide +kernel, by decide +kernel⟩
theorem ok_X5_mostOf : okN yX5_mostOf 1 := ⟨by decide +kernel, by decide +kernel, by decide +kernel⟩
theorem ok_X5_byteKind : okN yX5_byteKind 1 := ⟨by decide +kernel, by decide +kernel, by decide +kernel⟩
theorem ok_X6_init : okN yX6_init 0 := ⟨by decide +kernel, by decide +kernel, by decide +kernel⟩
theorem ok_X6_has : okN yX6_has 1 := ⟨by decide +kernel, by decide +kernel, by decide +kernel⟩
theorem ok_X6_stamp : okN yX6_stamp 5 := ⟨by decide +kernel, by decide +kernel, by decide +kernel⟩
theorem ok_X6_close : okN yX6_close 2 := ⟨by decide +kernel, by decide +kernel, by decide +kernel⟩
theorem ok_X6_isOpen : okN yX6_isOpen 2 := ⟨by decide +kernel, by decide +kernel, by decide +kernel⟩
theorem ok_X6_isGrantOf : okN yX6_isGrantOf 2 := ⟨by decide +kernel, by decide +kernel, by decide +kernel⟩
theorem ok_X7_init : okN yX7_init 0 := ⟨by decide +kernel, by decide +kernel, by decide +kernel⟩
theorem ok_X7_clear : okN yX7_clear 0 := ⟨by decide +kernel, by decide +kernel, by decide +kernel⟩
theorem ok_X7_add : okN yX7_add 2 := ⟨by decide +kernel, by decide +kernel, by decide +kernel⟩
theorem ok_X7_part : okN yX7_part 1 := ⟨by decide +kernel, by decide +kernel, by decide +kernel⟩
theorem ok_X8_init : okN yX8_init 1 := ⟨by decide +kernel, by decide +kernel, by decide +kernel⟩
theorem ok_X8_add : okN yX8_add 4 := ⟨by decide +kernel, by decide +kernel, by decide +kernel⟩
theorem ok_X8_isIn : okN yX8_isIn 2 := ⟨by decide +kernel, by decide +kernel, by decide +kernel⟩
theorem ok_X8_hasAny : okN yX8_hasAny 2 := ⟨by decide +kernel, by decide +kernel, by decide +kernel⟩
theorem ok_X8_take : okN yX8_take 3 := ⟨by decide +kernel, by decide +kernel, by decide +kernel⟩
theorem ok_X9_init : okN yX9_init 0 := ⟨by decide +kernel, by decide +kernel, by decide +kernel⟩
theorem ok_X9_hasAqueduct : okN yX9_hasAqueduct 1 := ⟨by decide +kernel, by decide +kernel, by decide +kernel⟩
theorem ok_X9_addAqueduct : okN yX9_addAqueduct 1 := ⟨by decide +kernel, by decide +kernel, by decide +kernel⟩
theorem ok_X9_change : okN yX9_change 3 := ⟨by decide +kernel, by decide +kernel, by decide +kernel⟩
theorem ok_X9_placeOf : okN yX9_placeOf 2 := ⟨by decide +kernel, by decide +kernel, by decide +kernel⟩
theorem ok_X9_settle : okN yX9_settle 1 := ⟨by decide +kernel, by decide +kernel, by decide +kernel⟩
theorem ok_X9_draw : okN yX9_draw 2 := ⟨by decide +kernel, by decide +kernel, by decide +kernel⟩
theorem ok_X10_init : okN yX10_init 0 := ⟨by decide +kernel, by decide +kernel, by decide +kernel⟩
theorem ok_X10_hasRoom : okN yX10_hasRoom 1 := ⟨by decide +kernel, by decide +kernel, by decide +kernel⟩
theorem ok_X10_write : okN yX10_write 1 := ⟨by decide +kernel, by decide +kernel, by decide +kernel⟩
theorem ok_X10_byteAt : okN yX10_byteAt 1 := ⟨by decide +kernel, by decide +kernel, by decide +kernel⟩
theorem ok_X11_init : okN yX11_init 0 := ⟨by decide +kernel, by decide +kernel, by decide +kernel⟩
theorem ok_X11_aqueduct : okN yX11_aqueduct 1 := ⟨by decide +kernel, by decide +kernel, by decide +kernel⟩
theorem ok_X11_spring : okN yX11_spring 3 := ⟨by decide +kernel, by decide +kernel, by decide +kernel⟩
theorem ok_X11_castle : okN yX11_castle 3 := ⟨by decide +kernel, by decide +kernel, by decide +kernel⟩
theorem ok_X11_person : okN yX11_person 0 := ⟨by decide +kernel, by decide +kernel, by decide +kernel⟩
theorem ok_X11_death : okN yX11_death 3 := ⟨by decide +kernel, by decide +kernel, by decide +kernel⟩
theorem ok_X11_nozzle : okN yX11_nozzle 4 := ⟨by decide +kernel, by decide +kernel, by decide +kernel⟩
theorem ok_X11_shut : okN yX11_shut 1 := ⟨by decide +kernel, by decide +kernel, by decide +kernel⟩
theorem ok_X11_tap : okN yX11_tap 4 := ⟨by decide +kernel, by decide +kernel, by decide +kernel⟩
theorem ok_X11_repair : okN yX11_repair 3 := ⟨by decide +kernel, by decide +kernel, by decide +kernel⟩
theorem ok_X11_go : okN yX11_go 1 := ⟨by decide +kernel, by decide +kernel, by decide +kernel⟩
theorem ok_X11_feed : okN yX11_feed 5 := ⟨by decide +kernel, by decide +kernel, by decide +kernel⟩
theorem ok_X11_end : okN yX11_end 1 := ⟨by decide +kernel, by decide +kernel, by decide +kernel⟩
theorem ok_X11_laws : okN yX11_laws 0 := ⟨by decide +kernel, by decide +kernel, by decide +kernel⟩
theorem ok_X11_fault : okN yX11_fault 0 := ⟨by decide +kernel, by decide +kernel, by decide +kernel⟩
theorem ok_X11_law : okN yX11_law 2 := ⟨by decide +kernel, by decide +kernel, by decide +kernel⟩
theorem ok_X11_lives : okN yX11_lives 3 := ⟨by decide +kernel, by decide +kernel, by decide +kernel⟩
theorem ok_X11_gets : okN yX11_gets 3 := ⟨by decide +kernel, by decide +kernel, by decide +kernel⟩
theorem ok_X11_at : okN yX11_at 4 := ⟨by decide +kernel, by decide +kernel, by decide +kernel⟩
theorem ok_X11_dry : okN yX11_dry 3 := ⟨by decide +kernel, by decide +kernel, by decide +kernel⟩
theorem ok_X11_found : okN yX11_found 2 := ⟨by decide +kernel, by decide +kernel, by decide +kernel⟩
theorem ok_X11_best : okN yX11_best 4 := ⟨by decide +kernel, by decide +kernel, by decide +kernel⟩
theorem ok_X11_rent : okN yX11_rent 2 := ⟨by decide +kernel, by decide +kernel, by decide +kernel⟩
theorem ok_X11_fines : okN yX11_fines 1 := ⟨by decide +kernel, by decide +kernel, by decide +kernel⟩
theorem ok_X11_dead : okN yX11_dead 2 := ⟨by decide +kernel, by decide +kernel, by decide +kernel⟩
theorem ok_X11_count : okN yX11_count 1 := ⟨by decide +kernel, by decide +kernel, by decide +kernel⟩
theorem ok_X11_status : okN yX11_status 0 := ⟨by decide +kernel, by decide +kernel, by decide +kernel⟩
theorem ok_X11_told : okN yX11_told 1 := ⟨by decide +kernel, by decide +kernel, by decide +kernel⟩
theorem ok_X11_isPerson : okN yX11_isPerson 1 := ⟨by decide +kernel, by decide +kernel, by decide +kernel⟩
theorem ok_X11_isSource : okN yX11_isSource 1 := ⟨by decide +kernel, by decide +kernel, by decide +kernel⟩
theorem ok_X11_countDryQuarters : okN yX11_countDryQuarters 3 := ⟨by decide +kernel, by decide +kernel, by decide +kernel⟩
theorem ok_X11_leastDryYear : okN yX11_leastDryYear 3 := ⟨by decide +kernel, by decide +kernel, by decide +kernel⟩
theorem ok_X11_sumDry : okN yX11_sumDry 2 := ⟨by decide +kernel, by decide +kernel, by decide +kernel⟩
theorem ok_X11_isWithin : okN yX11_isWithin 3 := ⟨by decide +kernel, by decide +kernel, by decide +kernel⟩
theorem ok_X11_isYear : okN yX11_isYear 1 := ⟨by decide +kernel, by decide +kernel, by decide +kernel⟩
theorem ok_X11_areYears : okN yX11_areYears 2 := ⟨by decide +kernel, by decide +kernel, by decide +kernel⟩
theorem ok_X11_isQuarter : okN yX11_isQuarter 1 := ⟨by decide +kernel, by decide +kernel, by decide +kernel⟩
theorem ok_X12_init : okN yX12_init 0 := ⟨by decide +kernel, by decide +kernel, by decide +kernel⟩
theorem ok_X12_in : okN yX12_in 3 := ⟨by decide +kernel, by decide +kernel, by decide +kernel⟩
theorem ok_X12_told : okN yX12_told 1 := ⟨by decide +kernel, by decide +kernel, by decide +kernel⟩
theorem ok_X12_isYear : okN yX12_isYear 1 := ⟨by decide +kernel, by decide +kernel, by decide +kernel⟩
theorem ok_X12_isCastle : okN yX12_isCastle 1 := ⟨by decide +kernel, by decide +kernel, by decide +kernel⟩
theorem ok_X12_isPerson : okN yX12_isPerson 1 := ⟨by decide +kernel, by decide +kernel, by decide +kernel⟩
theorem ok_X12_isNozzle : okN yX12_isNozzle 1 := ⟨by decide +kernel, by decide +kernel, by decide +kernel⟩
theorem ok_X12_aqueduct : okN yX12_aqueduct 1 := ⟨by decide +kernel, by decide +kernel, by decide +kernel⟩
theorem ok_X12_spring : okN yX12_spring 3 := ⟨by decide +kernel, by decide +kernel, by decide +kernel⟩
theorem ok_X12_castle : okN yX12_castle 3 := ⟨by decide +kernel, by decide +kernel, by decide +kernel⟩
theorem ok_X12_person : okN yX12_person 0 := ⟨by decide +kernel, by decide +kernel, by decide +kernel⟩
theorem ok_X12_death : okN yX12_death 3 := ⟨by decide +kernel, by decide +kernel, by decide +kernel⟩
theorem ok_X12_deadOf : okN yX12_deadOf 2 := ⟨by decide +kernel, by decide +kernel, by decide +kernel⟩
theorem ok_X12_dead : okN yX12_dead 2 := ⟨by decide +kernel, by decide +kernel, by decide +kernel⟩
theorem ok_X12_nozzle : okN yX12_nozzle 4 := ⟨by decide +kernel, by decide +kernel, by decide +kernel⟩
theorem ok_X12_shut : okN yX12_shut 1 := ⟨by decide +kernel, by decide +kernel, by decide +kernel⟩
theorem ok_X12_tap : okN yX12_tap 4 := ⟨by decide +kernel, by decide +kernel, by decide +kernel⟩
theorem ok_X12_repair : okN yX12_repair 3 := ⟨by decide +kernel, by decide +kernel, by decide +kernel⟩
theorem ok_X12_go : okN yX12_go 1 := ⟨by decide +kernel, by decide +kernel, by decide +kernel⟩
theorem ok_X12_lawOf : okN yX12_lawOf 2 := ⟨by decide +kernel, by decide +kernel, by decide +kernel⟩
theorem ok_X12_isClosed : okN yX12_isClosed 2 := ⟨by decide +kernel, by decide +kernel, by decide +kernel⟩
theorem ok_X12_law : okN yX12_law 2 := ⟨by decide +kernel, by decide +kernel, by decide +kernel⟩
theorem ok_X12_four : okN yX12_four 1 := ⟨by decide +kernel, by decide +kernel, by decide +kernel⟩
theorem ok_X12_feed : okN yX12_feed 5 := ⟨by decide +kernel, by decide +kernel, by decide +kernel⟩
theorem ok_X12_end : okN yX12_end 1 := ⟨by decide +kernel, by decide +kernel, by decide +kernel⟩
theorem ok_X12_isSmall : okN yX12_isSmall 1 := ⟨by decide +kernel, by decide +kernel, by decide +kernel⟩
theorem ok_X12_isDigit : okN yX12_isDigit 1 := ⟨by decide +kernel, by decide +kernel, by decide +kernel⟩
theorem ok_X12_next : okN yX12_next 0 := ⟨by decide +kernel, by decide +kernel, by decide +kernel⟩
theorem ok_X12_isWord : okN yX12_isWord 5 := ⟨by decide +kernel, by decide +kernel, by decide +kernel⟩
theorem ok_X12_isLong : okN yX12_isLong 9 := ⟨by decide +kernel, by decide +kernel, by decide +kernel⟩
theorem ok_X12_must : okN yX12_must 1 := ⟨by decide +kernel, by decide +kernel, by decide +kernel⟩
theorem ok_X12_number : okN yX12_number 1 := ⟨by decide +kernel, by decide +kernel, by decide +kernel⟩
theorem ok_X12_readLaw : okN yX12_readLaw 0 := ⟨by decide +kernel, by decide +kernel, by decide +kernel⟩
theorem ok_X12_laws : okN yX12_laws 0 := ⟨by decide +kernel, by decide +kernel, by decide +kernel⟩
theorem ok_X12_fault : okN yX12_fault 0 := ⟨by decide +kernel, by decide +kernel, by decide +kernel⟩
theorem ok_X12_isOpen : okN yX12_isOpen 2 := ⟨by decide +kernel, by decide +kernel, by decide +kernel⟩
theorem ok_X12_livesIn : okN yX12_livesIn 3 := ⟨by decide +kernel, by decide +kernel, by decide +kernel⟩
theorem ok_X12_isDown : okN yX12_isDown 2 := ⟨by decide +kernel, by decide +kernel, by decide +kernel⟩
theorem ok_X12_yieldOf : okN yX12_yieldOf 2 := ⟨by decide +kernel, by decide +kernel, by decide +kernel⟩
theorem ok_X12_deal : okN yX12_deal 1 := ⟨by decide +kernel, by decide +kernel, by decide +kernel⟩
theorem ok_X12_flow : okN yX12_flow 2 := ⟨by decide +kernel, by decide +kernel, by decide +kernel⟩
theorem ok_X12_flowAt : okN yX12_flowAt 3 := ⟨by decide +kernel, by decide +kernel, by decide +kernel⟩
theorem ok_X12_lives : okN yX12_lives 3 := ⟨by decide +kernel, by decide +kernel, by decide +kernel⟩
theorem ok_X12_gets : okN yX12_gets 3 := ⟨by decide +kernel, by decide +kernel, by decide +kernel⟩
theorem ok_X12_at : okN yX12_at 4 := ⟨by decide +kernel, by decide +kernel, by decide +kernel⟩
theorem ok_X12_isDry : okN yX12_isDry 2 := ⟨by decide +kernel, by decide +kernel, by decide +kernel⟩
theorem ok_X12_dry : okN yX12_dry 3 := ⟨by decide +kernel, by decide +kernel, by decide +kernel⟩
theorem ok_X12_found : okN yX12_found 2 := ⟨by decide +kernel, by decide +kernel, by decide +kernel⟩
theorem ok_X12_best : okN yX12_best 4 := ⟨by decide +kernel, by decide +kernel, by decide +kernel⟩
theorem ok_X12_rent : okN yX12_rent 2 := ⟨by decide +kernel, by decide +kernel, by decide +kernel⟩
theorem ok_X12_fines : okN yX12_fines 1 := ⟨by decide +kernel, by decide +kernel, by decide +kernel⟩
theorem ok_X12_count : okN yX12_count 1 := ⟨by decide +kernel, by decide +kernel, by decide +kernel⟩
theorem ok_X12_status : okN yX12_status 0 := ⟨by decide +kernel, by decide +kernel, by decide +kernel⟩
theorem ok_J9_max_7cf53 : okN yJ9_max_7cf53 2 := ⟨by decide +kernel, by decide +kernel, by decide +kernel⟩
theorem ok_J9_min_7cf53 : okN yJ9_min_7cf53 2 := ⟨by decide +kernel, by decide +kernel, by decide +kernel⟩
theorem ok_J0_length_8abf5 : okN yJ0_length_8abf5 0 := ⟨by decide +kernel, by decide +kernel, by decide +kernel⟩
theorem ok_J0_charAt_5068e : okN yJ0_charAt_5068e 1 := ⟨by decide +kernel, by decide +kernel, by decide +kernel⟩
theorem ok_J0_coder_7d493 : okN yJ0_coder_7d493 0 := ⟨by decide +kernel, by decide +kernel, by decide +kernel⟩
theorem ok_J0_isLatin1_aae02 : okN yJ0_isLatin1_aae02 0 := ⟨by decide +kernel, by decide +kernel, by decide +kernel⟩
theorem ok_J0_checkIndex_df160 : okN yJ0_checkIndex_df160 2 := ⟨by decide +kernel, by decide +kernel, by decide +kernel⟩
theorem ok_J1_charAt_3b067 : okN yJ1_charAt_3b067 2 := ⟨by decide +kernel, by decide +kernel, by decide +kernel⟩
theorem ok_J2_getChar_3b067 : okN yJ2_getChar_3b067 2 := ⟨by decide +kernel, by decide +kernel, by decide +kernel⟩
theorem ok_J2_length_9d52b : okN yJ2_length_9d52b 1 := ⟨by decide +kernel, by decide +kernel, by decide +kernel⟩
theorem ok_J2_charAt_3b067 : okN yJ2_charAt_3b067 2 := ⟨by decide +kernel, by decide +kernel, by decide +kernel⟩
theorem ok_J2_checkIndex_2214a : okN yJ2_checkIndex_2214a 2 := ⟨by decide +kernel, by decide +kernel, by decide +kernel⟩
theorem ok_J3_checkIndex_8e157 : okN yJ3_checkIndex_8e157 3 := ⟨by decide +kernel, by decide +kernel, by decide +kernel⟩
theorem ok_L_law : okN yL_law 1 := ⟨by decide +kernel, by decide +kernel, by decide +kernel⟩
section CW
variable {p : Program} {l : Launch} {e : Env} {R : Room} {s : State} {m : MethodId} {args : Array Value} {below : List Frame} {meth : Method} {c : Code} {H : Heap} {locs : List Loc} {cells slots : Nat} {Q : State → Prop}
variable {cc bytes : ByteArray} {pc maxL index fr lo : Nat} {ls : Array Slot} {rest st0 As : List Value} {D : va_G} {A : Nat → Prop} {b : Nat} {own : String} {nL : Nat} {cy : Nat → ClassId} {wf : St → va_W} {σ : St} {y : MethodName} {ret : Option FieldType}
theorem q_runV {Qc : Array Value → State → Outcome → State → Prop} (E : EV p s m c args cc own nL D cy) (h : HW D A s (wf σ) H locs) (hM : Met l y (WS y bytes maxL ret) (rmOf fr lo) (va_Pc (.ref b :: As) (PP D cy wf A σ)) Qc 0 0 A) (co : Cond.code y bytes maxL ret ∈ TB) (ml : Cond.methodLink own index y ∈ TB) (im : Cond.instanceMethod y ∈ TB) (se : Cond.selects y.cls y y ∈ TB) (ini : Cond.initialized y.cls ∈ TB) {q0 ci N : Nat} {fs : List Value} {T : u_T} (he : (wf σ)[q0]? = some (b, .inr (ci, fs))) (hc : vwCl[ci]? = some (y.cls, T, N)) {k : Nat} (hn : okN y k) (hlen : As.length = k)
    (hR : fr + 1 ≤ R.frames ∧ 8 + (maxL + 11) + lo ≤ R.locals) (hsz : ls.size = nL) (hst : st0 = As.reverse ++ .ref b :: rest) (hroom : (rest.map fun v => v.category).sum ≤ 8) (hdg : decode cc pc = .ok (.invokevirtual index, 3)) (hcs : cells ≤ R.cells ∧ slots ≤ R.slots) :
    va_Run p l e R s m args below meth c H locs cells slots 0 0 (F0 m pc ls st0) rest (Qc (Value.ref b :: As).toArray) A :=
  va_runV (As := As) (rest := rest) ⟨E.1, E.2.1, E.2.2.1, E.2.2.2.1, E.2.2.2.2.1⟩ hM (cwV k E.2.2.2.2.1 (wsv_good co ml im se ini) rfl rfl rfl ⟨rfl, hn⟩ hR) ⟨pp_blind D cy wf A _ σ, va_recv E.2.2.2.2.2.1 h.1 hc he, fun U hU hW => ⟨rfl, by rw [hU]; exact h.1, h.2.1, E.2.2.2.2.2.warm hW⟩⟩ rfl hlen hsz hst (lv_room hroom) hdg hcs
theorem q_runS {Qc : Array Value → State → Outcome → State → Prop} (E : EV p s m c args cc own nL D cy) (h : HW D A s (wf σ) H locs) (hM : Met l y (WS y bytes maxL ret) (rmOf fr lo) (va_Pc As (PP D cy wf A σ)) Qc 0 0 A) (co : Cond.code y bytes maxL ret ∈ TB) (ml : Cond.methodLink own index y ∈ TB) (stt : Cond.static y ∈ TB) (ini : Cond.initialized own ∈ TB) (hy : y.cls = own) {k : Nat} (hn : okN y k) (hlen : As.length = k)
    (hR : fr + 1 ≤ R.frames ∧ 8 + (maxL + 11) + lo ≤ R.locals) (hsz : ls.size = nL) (hst : st0 = As.reverse ++ rest) (hroom : (rest.map fun v => v.category).sum ≤ 8) (hdg : decode cc pc = .ok (.invokestatic index, 3)) (hcs : cells ≤ R.cells ∧ slots ≤ R.slots) :
    va_Run p l e R s m args below meth c H locs cells slots 0 0 (F0 m pc ls st0) rest (Qc As.toArray) A :=
  va_runS (As := As) (rest := rest) ⟨E.1, E.2.1, E.2.2.1, E.2.2.2.1, E.2.2.2.2.1⟩ hM (cwS k E.2.2.2.2.1 (wss_good co ml stt ini) rfl rfl rfl ⟨hy, hn⟩ hR) ⟨pp_blind D cy wf A _ σ, fun U hU hW => ⟨rfl, by rw [hU]; exact h.1, h.2.1, E.2.2.2.2.2.warm hW⟩⟩ rfl hlen hsz hst (lv_room hroom) hdg hcs
theorem q_runSN {Qc : Array Value → State → Outcome → State → Prop} {host : String} (E : EV p s m c args cc own nL D cy) (h : HW D A s (wf σ) H locs) (hM : Met l y (WS y bytes maxL ret) (rmOf fr lo) (va_Pc As (PP D cy wf A σ)) Qc 0 0 A) (co : Cond.code y bytes maxL ret ∈ TB) (ml : Cond.methodLinkNest own index y host ∈ NL) (stt : Cond.static y ∈ TB) (ini : Cond.initialized y.cls ∈ TB) {k : Nat} (hn : okN y k) (hlen : As.length = k)
    (hR : fr + 1 ≤ R.frames ∧ 8 + (maxL + 11) + lo ≤ R.locals) (hsz : ls.size = nL) (hst : st0 = As.reverse ++ rest) (hroom : (rest.map fun v => v.category).sum ≤ 8) (hdg : decode cc pc = .ok (.invokestatic index, 3)) (hcs : cells ≤ R.cells ∧ slots ≤ R.slots) :
    va_Run p l e R s m args below meth c H locs cells slots 0 0 (F0 m pc ls st0) rest (Qc As.toArray) A :=
  va_runSN (As := As) (rest := rest) ⟨E.1, E.2.1, E.2.2.1, E.2.2.2.1, E.2.2.2.2.1⟩ hM ⟨va_cnB k E.2.2.2.2.1 (tb_good co) rfl rfl rfl (E.2.2.2.2.2.2 _ ml) (E.2.2.2.2.1 _ ini) hn hR, E.2.2.2.2.1 _ stt, trivial⟩ ⟨pp_blind D cy wf A _ σ, fun U hU hW => ⟨rfl, by rw [hU]; exact h.1, h.2.1, E.2.2.2.2.2.warm hW⟩⟩ rfl hlen hsz hst (lv_room hroom) hdg hcs
theorem k_i {post : Int32 → St → Prop} {a : Array Value} (h : HW D A s (wf σ) H locs) (hr : va_Run p l e R s m args below meth c H locs cells slots 0 0 (F0 m pc ls st0) rest (va_Qi post (fun u t => va_P D vwCl (wf u) t.heap) A a) A) (hw : ∀ σ σ' : St, (wf σ').map (fun q => q.1) = (wf σ).map (fun q => q.1))
    (kk : ∀ (r : Int32) (σ' : St) (H1 : Heap) (locs1 : List Loc), post r σ' → HW D A s (wf σ') H1 locs1 → W p l e R s m args below meth c H1 locs1 cells slots Q (F0 m (pc + 3) ls (.int r :: rest))) : W p l e R s m args below meth c H locs cells slots Q (F0 m pc ls st0) :=
  va_calli hr h.2.2 (fun _ _ h => h) (fun _ h => h) (fun r u t H1 locs1 ht _ hp hB _ _ hS => kk r u H1 locs1 hp ⟨ht ▸ hB, va_D_fst (hw σ u) h.2.1, hS⟩)
theorem k_l {post : Int64 → St → Prop} {a : Array Value} (h : HW D A s (wf σ) H locs) (hr : va_Run p l e R s m args below meth c H locs cells slots 0 0 (F0 m pc ls st0) rest (va_Ql post (fun u t => va_P D vwCl (wf u) t.heap) A a) A) (hw : ∀ σ σ' : St, (wf σ').map (fun q => q.1) = (wf σ).map (fun q => q.1))
    (kk : ∀ (r : Int64) (σ' : St) (H1 : Heap) (locs1 : List Loc), post r σ' → HW D A s (wf σ') H1 locs1 → W p l e R s m args below meth c H1 locs1 cells slots Q (F0 m (pc + 3) ls (.long r :: rest))) : W p l e R s m args below meth c H locs cells slots Q (F0 m pc ls st0) :=
  va_calll hr h.2.2 (fun _ _ h => h) (fun _ h => h) (fun r u t H1 locs1 ht _ hp hB _ _ hS => kk r u H1 locs1 hp ⟨ht ▸ hB, va_D_fst (hw σ u) h.2.1, hS⟩)
theorem k_v {post : St → Prop} {a : Array Value} (h : HW D A s (wf σ) H locs) (hr : va_Run p l e R s m args below meth c H locs cells slots 0 0 (F0 m pc ls st0) rest (va_Qv post (fun u t => va_P D vwCl (wf u) t.heap) A a) A) (hw : ∀ σ σ' : St, (wf σ').map (fun q => q.1) = (wf σ).map (fun q => q.1))
    (kk : ∀ (σ' : St) (H1 : Heap) (locs1 : List Loc), post σ' → HW D A s (wf σ') H1 locs1 → W p l e R s m args below meth c H1 locs1 cells slots Q (F0 m (pc + 3) ls rest)) : W p l e R s m args below meth c H locs cells slots Q (F0 m pc ls st0) :=
  va_callv hr h.2.2 (fun _ _ h => h) (fun _ h => h) (fun u t H1 locs1 ht _ hp hB _ _ hS => kk u H1 locs1 hp ⟨ht ▸ hB, va_D_fst (hw σ u) h.2.1, hS⟩)
/-- the ends -/
theorem t_i {post : Int32 → St → Prop} {v : Int32} (E : EV p s m c args cc own nL D cy) (h : HW D A s (wf σ) H locs) (hr : meth.sig.returnType = some .int) (hk : meth.locks = false) (hp : post v σ) (hdg : decode cc pc = .ok (.ireturn, 1)) : W p l e R s m args below meth c H locs 0 0 (MQ below (va_Qi post (fun u t => va_P D vwCl (wf u) t.heap) A) args s 0 0 A) (F0 m pc ls [.int v]) :=
  W.iret (v := v) E.1 E.2.1 hr (fun t ht _ => ⟨⟨v, σ, rfl, hp, by show va_P D vwCl (wf σ) t.heap; rw [ht]; exact h.1⟩, h.2.2.F ht⟩) h.2.2.2.2 hdg hk
theorem t_z {post : Int32 → St → Prop} {v : Int32} (E : EV p s m c args cc own nL D cy) (h : HW D A s (wf σ) H locs) (hr : meth.sig.returnType = some .boolean) (hk : meth.locks = false) (hv : v = 0 ∨ v = 1) (hp : post v σ) (hdg : decode cc pc = .ok (.ireturn, 1)) : W p l e R s m args below meth c H locs 0 0 (MQ below (va_Qi post (fun u t => va_P D vwCl (wf u) t.heap) A) args s 0 0 A) (F0 m pc ls [.int v]) :=
  W.zret (v := v) E.1 E.2.1 hr (by rcases hv with e | e <;> rw [e] <;> decide +kernel) (fun t ht _ => ⟨⟨v, σ, rfl, hp, by show va_P D vwCl (wf σ) t.heap; rw [ht]; exact h.1⟩, h.2.2.F ht⟩) h.2.2.2.2 hdg hk
theorem t_l {post : Int64 → St → Prop} {v : Int64} (E : EV p s m c args cc own nL D cy) (h : HW D A s (wf σ) H locs) (hr : meth.sig.returnType = some .long) (hk : meth.locks = false) (hp : post v σ) (hdg : decode cc pc = .ok (.lreturn, 1)) : W p l e R s m args below meth c H locs 0 0 (MQ below (va_Ql post (fun u t => va_P D vwCl (wf u) t.heap) A) args s 0 0 A) (F0 m pc ls [.long v]) :=
  W.lret (v := v) E.1 E.2.1 hr (fun t ht _ => ⟨⟨v, σ, rfl, hp, by show va_P D vwCl (wf σ) t.heap; rw [ht]; exact h.1⟩, h.2.2.F ht⟩) h.2.2.2.2 hdg hk
theorem t_v {post : St → Prop} (E : EV p s m c args cc own nL D cy) (h : HW D A s (wf σ) H locs) (hr : meth.sig.returnType = none) (hk : meth.locks = false) (hp : post σ) (hdg : decode cc pc = .ok (.return_, 1)) : W p l e R s m args below meth c H locs 0 0 (MQ below (va_Qv post (fun u t => va_P D vwCl (wf u) t.heap) A) args s 0 0 A) (F0 m pc ls []) :=
  W.vret E.1 E.2.1 hr (fun t ht _ => ⟨⟨σ, rfl, hp, by show va_P D vwCl (wf σ) t.heap; rw [ht]; exact h.1⟩, h.2.2.F ht⟩) h.2.2.2.2 hdg hk
end CW
/-- a contract out of a walk of its body -/
theorem c_of {l : Launch} {y : MethodName} {cc : ByteArray} {n : Nat} {r : Option FieldType} {rm : Room} {D : va_G} {cy : Nat → ClassId} {wf : St → va_W} {A : Nat → Prop} {av : List Value} {σ : St} {Qc : Array Value → State → Outcome → State → Prop} {lv : List (Nat × Value)} (hy : plainName y.cls = true) (hlen : (lg_sl av).length ≤ n) (hlv : lv_args 0 av = lv)
    (body : ∀ (p : Program) (e : Env) (s : State) (m : MethodId) (args : Array Value) (below : List Frame) (meth : Method) (c : Code) (ls : Array Slot), EV p s m c args cc y.cls n D cy → HW D A s (wf σ) s.heap [] → meth.sig.returnType = r → meth.locks = false → lv_has ls n lv → W p l e rm s m args below meth c s.heap [] 0 0 (MQ below Qc args s 0 0 A) (F0 m 0 ls [])) :
    Met l y (WS y cc n r) rm (va_Pc av (PP D cy wf A σ)) Qc 0 0 A := by
  refine Met.ofW (cc := cc) (maxL := n) (ret := r) hy rfl ?_
  intro p e s m args below meth c s₁ B hml hv
  obtain ⟨rfl, hP, hD, hK⟩ := hv
  have hts := atoms_spec (ws := WS y cc n r) B.pre
  have hl := lv_entry av (n := n) hlen
  rw [lg_entry_eq]
  generalize (lg_sl av ++ List.replicate (n - (lg_sl av).length) Slot.unset).toArray = ls at hl ⊢
  rw [hlv] at hl
  exact body p e s m av.toArray below meth c ls ⟨B.exec, B.bytes, hml, findClass_of_methodNamed B.named, fun w hw => hts w (List.mem_cons_of_mem _ hw), hK⟩ ⟨hP, hD, va_S.rf⟩ B.returns B.notSynchronized hl
end
section
def wX (cy : Nat → ClassId) (a : Nat → Nat) (σ : St) : va_W := [(a 0, .inr (11, [.ref (a 1), .ref (a 2), .ref (a 3), .ref (a 5), .ref (a 6), .ref (a 7), .ref (a 8), .ref (a 9), .ref (a 10), .ref (a 16), .ref (a 17), .int (σ.1 0), .int (σ.1 1), .int (σ.1 2)])),
  (a 1, .inr (10, [.ref (a 18), .int (σ.1 3)])),
  (a 2, .inr (5, [.ref (a 1), .ref (a 4), .int (σ.1 4), .int (σ.1 5), .int (σ.1 6)])),
  (a 3, .inr (4, [.ref (a 19), .ref (a 20), .ref (a 21), .ref (a 22), .ref (a 23), .int (σ.1 7)])),
  (a 4, .inr (4, [.ref (a 24), .ref (a 25), .ref (a 26), .ref (a 27), .ref (a 28), .int (σ.1 8)])),
  (a 5, .inr (1, [.ref (a 29), .ref (a 30), .ref (a 31), .ref (a 32), .int (σ.1 9)])),
  (a 6, .inr (9, [.ref (a 33), .ref (a 34), .ref (a 35), .ref (a 36), .ref (a 37), .int (σ.1 10), .int (σ.1 11)])),
  (a 7, .inr (0, [.ref (a 38), .ref (a 39), .ref (a 40), .ref (a 11), .int (σ.1 12)])),
  (a 8, .inr (6, [.ref (a 41), .ref (a 42), .ref (a 43), .ref (a 44), .ref (a 45), .ref (a 12), .int (σ.1 13)])),
  (a 9, .inr (8, [.ref (a 46), .ref (a 47), .ref (a 48), .ref (a 13), .int (σ.1 14)])),
  (a 10, .inr (8, [.ref (a 49), .ref (a 50), .ref (a 51), .ref (a 14), .int (σ.1 15)])),
  (a 11, .inr (3, [.int 12, .ref (a 52), .ref (a 53)])),
  (a 12, .inr (3, [.int 80, .ref (a 54), .ref (a 55)])),
  (a 13, .inr (3, [.int 60, .ref (a 56), .ref (a 57)])),
  (a 14, .inr (3, [.int 40, .ref (a 58), .ref (a 59)])),
  (a 15, .inr (7, [.ref (a 60), .ref (a 61), .ref (a 62), .int (σ.1 16), .int (σ.1 17)])),
  (a 16, .inr (2, [.ref (a 3), .ref (a 5), .ref (a 6), .ref (a 7), .ref (a 8), .ref (a 9), .ref (a 10), .ref (a 15), .ref (a 63), .ref (a 64), .ref (a 72), .ref (a 73), .ref (a 74), .ref (a 75), .int (σ.1 18)])),
  (a 17, .inl (cy 1, 201, .inl (σ.2.1 17))),
  (a 18, .inl (cy 0, 400, .inl (σ.2.1 18))),
  (a 19, .inl (cy 1, 30, .inl (σ.2.1 19))),
  (a 20, .inl (cy 1, 30, .inl (σ.2.1 20))),
  (a 21, .inl (cy 1, 30, .inl (σ.2.1 21))),
  (a 22, .inl (cy 1, 30, .inl (σ.2.1 22))),
  (a 23, .inl (cy 1, 8, .inl (σ.2.1 23))),
  (a 24, .inl (cy 1, 30, .inl (σ.2.1 24))),
  (a 25, .inl (cy 1, 30, .inl (σ.2.1 25))),
  (a 26, .inl (cy 1, 30, .inl (σ.2.1 26))),
  (a 27, .inl (cy 1, 30, .inl (σ.2.1 27))),
  (a 28, .inl (cy 1, 8, .inl (σ.2.1 28))),
  (a 29, .inl (cy 1, 60, .inl (σ.2.1 29))),
  (a 30, .inl (cy 1, 60, .inl (σ.2.1 30))),
  (a 31, .inl (cy 1, 60, .inl (σ.2.1 31))),
  (a 32, .inl (cy 1, 40, .inl (σ.2.1 32))),
  (a 33, .inl (cy 1, 4, .inl (σ.2.1 33))),
  (a 34, .inl (cy 1, 60, .inl (σ.2.1 34))),
  (a 35, .inl (cy 1, 60, .inl (σ.2.1 35))),
  (a 36, .inl (cy 1, 60, .inl (σ.2.1 36))),
  (a 37, .inl (cy 1, 4, .inl (σ.2.1 37))),
  (a 38, .inl (cy 1, 12, .inl (σ.2.1 38))),
  (a 39, .inl (cy 1, 12, .inl (σ.2.1 39))),
  (a 40, .inl (cy 1, 12, .inl (σ.2.1 40))),
  (a 41, .inl (cy 1, 80, .inl (σ.2.1 41))),
  (a 42, .inl (cy 1, 80, .inl (σ.2.1 42))),
  (a 43, .inl (cy 1, 80, .inl (σ.2.1 43))),
  (a 44, .inl (cy 1, 80, .inl (σ.2.1 44))),
  (a 45, .inl (cy 1, 80, .inl (σ.2.1 45))),
  (a 46, .inl (cy 1, 60, .inl (σ.2.1 46))),
  (a 47, .inl (cy 1, 60, .inl (σ.2.1 47))),
  (a 48, .inl (cy 1, 60, .inl (σ.2.1 48))),
  (a 49, .inl (cy 1, 40, .inl (σ.2.1 49))),
  (a 50, .inl (cy 1, 40, .inl (σ.2.1 50))),
  (a 51, .inl (cy 1, 40, .inl (σ.2.1 51))),
  (a 52, .inl (cy 1, 144, .inl (σ.2.1 52))),
  (a 53, .inl (cy 1, 12, .inl (σ.2.1 53))),
  (a 54, .inl (cy 1, 960, .inl (σ.2.1 54))),
  (a 55, .inl (cy 1, 12, .inl (σ.2.1 55))),
  (a 56, .inl (cy 1, 720, .inl (σ.2.1 56))),
  (a 57, .inl (cy 1, 12, .inl (σ.2.1 57))),
  (a 58, .inl (cy 1, 480, .inl (σ.2.1 58))),
  (a 59, .inl (cy 1, 12, .inl (σ.2.1 59))),
  (a 60, .inl (cy 1, 80, .inl (σ.2.1 60))),
  (a 61, .inl (cy 1, 80, .inl (σ.2.1 61))),
  (a 62, .inl (cy 1, 80, .inl (σ.2.1 62))),
  (a 63, .inl (cy 1, 12, .inl (σ.2.1 63))),
  (a 64, .inl (cy 3, 7, .inr (.inr (.inr (.inr (fun i => if i < 7 then some (a (65 + i)) else none)))))),
  (a 65, .inl (cy 1, 12, .inl (σ.2.1 65))),
  (a 66, .inl (cy 1, 12, .inl (σ.2.1 66))),
  (a 67, .inl (cy 1, 12, .inl (σ.2.1 67))),
  (a 68, .inl (cy 1, 12, .inl (σ.2.1 68))),
  (a 69, .inl (cy 1, 12, .inl (σ.2.1 69))),
  (a 70, .inl (cy 1, 12, .inl (σ.2.1 70))),
  (a 71, .inl (cy 1, 12, .inl (σ.2.1 71))),
  (a 72, .inl (cy 2, 80, .inl (σ.2.1 72))),
  (a 73, .inl (cy 1, 80, .inl (σ.2.1 73))),
  (a 74, .inl (cy 1, 8, .inl (σ.2.1 74))),
  (a 75, .inl (cy 1, 8, .inl (σ.2.1 75)))]
theorem wX_fst (cy : Nat → ClassId) (a : Nat → Nat) (σ σ2 : St) : (wX cy a σ2).map (fun q => q.1) = (wX cy a σ).map (fun q => q.1) := rfl
theorem eX_0 (cy : Nat → ClassId) (a : Nat → Nat) (σ : St) : (wX cy a σ)[0]? = some (a 0, .inr (11, [.ref (a 1), .ref (a 2), .ref (a 3), .ref (a 5), .ref (a 6), .ref (a 7), .ref (a 8), .ref (a 9), .ref (a 10), .ref (a 16), .ref (a 17), .int (σ.1 0), .int (σ.1 1), .int (σ.1 2)])) := rfl
theorem eX_1 (cy : Nat → ClassId) (a : Nat → Nat) (σ : St) : (wX cy a σ)[1]? = some (a 1, .inr (10, [.ref (a 18), .int (σ.1 3)])) := rfl
theorem eX_2 (cy : Nat → ClassId) (a : Nat → Nat) (σ : St) : (wX cy a σ)[2]? = some (a 2, .inr (5, [.ref (a 1), .ref (a 4), .int (σ.1 4), .int (σ.1 5), .int (σ.1 6)])) := rfl
theorem eX_3 (cy : Nat → ClassId) (a : Nat → Nat) (σ : St) : (wX cy a σ)[3]? = some (a 3, .inr (4, [.ref (a 19), .ref (a 20), .ref (a 21), .ref (a 22), .ref (a 23), .int (σ.1 7)])) := rfl
theorem eX_4 (cy : Nat → ClassId) (a : Nat → Nat) (σ : St) : (wX cy a σ)[4]? = some (a 4, .inr (4, [.ref (a 24), .ref (a 25), .ref (a 26), .ref (a 27), .ref (a 28), .int (σ.1 8)])) := rfl
theorem eX_5 (cy : Nat → ClassId) (a : Nat → Nat) (σ : St) : (wX cy a σ)[5]? = some (a 5, .inr (1, [.ref (a 29), .ref (a 30), .ref (a 31), .ref (a 32), .int (σ.1 9)])) := rfl
theorem eX_6 (cy : Nat → ClassId) (a : Nat → Nat) (σ : St) : (wX cy a σ)[6]? = some (a 6, .inr (9, [.ref (a 33), .ref (a 34), .ref (a 35), .ref (a 36), .ref (a 37), .int (σ.1 10), .int (σ.1 11)])) := rfl
theorem eX_7 (cy : Nat → ClassId) (a : Nat → Nat) (σ : St) : (wX cy a σ)[7]? = some (a 7, .inr (0, [.ref (a 38), .ref (a 39), .ref (a 40), .ref (a 11), .int (σ.1 12)])) := rfl
theorem eX_8 (cy : Nat → ClassId) (a : Nat → Nat) (σ : St) : (wX cy a σ)[8]? = some (a 8, .inr (6, [.ref (a 41), .ref (a 42), .ref (a 43), .ref (a 44), .ref (a 45), .ref (a 12), .int (σ.1 13)])) := rfl
theorem eX_9 (cy : Nat → ClassId) (a : Nat → Nat) (σ : St) : (wX cy a σ)[9]? = some (a 9, .inr (8, [.ref (a 46), .ref (a 47), .ref (a 48), .ref (a 13), .int (σ.1 14)])) := rfl
theorem eX_10 (cy : Nat → ClassId) (a : Nat → Nat) (σ : St) : (wX cy a σ)[10]? = some (a 10, .inr (8, [.ref (a 49), .ref (a 50), .ref (a 51), .ref (a 14), .int (σ.1 15)])) := rfl
theorem eX_11 (cy : Nat → ClassId) (a : Nat → Nat) (σ : St) : (wX cy a σ)[11]? = some (a 11, .inr (3, [.int 12, .ref (a 52), .ref (a 53)])) := rfl
theorem eX_12 (cy : Nat → ClassId) (a : Nat → Nat) (σ : St) : (wX cy a σ)[12]? = some (a 12, .inr (3, [.int 80, .ref (a 54), .ref (a 55)])) := rfl
theorem eX_13 (cy : Nat → ClassId) (a : Nat → Nat) (σ : St) : (wX cy a σ)[13]? = some (a 13, .inr (3, [.int 60, .ref (a 56), .ref (a 57)])) := rfl
theorem eX_14 (cy : Nat → ClassId) (a : Nat → Nat) (σ : St) : (wX cy a σ)[14]? = some (a 14, .inr (3, [.int 40, .ref (a 58), .ref (a 59)])) := rfl
theorem eX_15 (cy : Nat → ClassId) (a : Nat → Nat) (σ : St) : (wX cy a σ)[15]? = some (a 15, .inr (7, [.ref (a 60), .ref (a 61), .ref (a 62), .int (σ.1 16), .int (σ.1 17)])) := rfl
theorem eX_16 (cy : Nat → ClassId) (a : Nat → Nat) (σ : St) : (wX cy a σ)[16]? = some (a 16, .inr (2, [.ref (a 3), .ref (a 5), .ref (a 6), .ref (a 7), .ref (a 8), .ref (a 9), .ref (a 10), .ref (a 15), .ref (a 63), .ref (a 64), .ref (a 72), .ref (a 73), .ref (a 74), .ref (a 75), .int (σ.1 18)])) := rfl
theorem eX_17 (cy : Nat → ClassId) (a : Nat → Nat) (σ : St) : (wX cy a σ)[17]? = some (a 17, .inl (cy 1, 201, .inl (σ.2.1 17))) := rfl
theorem eX_18 (cy : Nat → ClassId) (a : Nat → Nat) (σ : St) : (wX cy a σ)[18]? = some (a 18, .inl (cy 0, 400, .inl (σ.2.1 18))) := rfl
theorem eX_19 (cy : Nat → ClassId) (a : Nat → Nat) (σ : St) : (wX cy a σ)[19]? = some (a 19, .inl (cy 1, 30, .inl (σ.2.1 19))) := rfl
theorem eX_20 (cy : Nat → ClassId) (a : Nat → Nat) (σ : St) : (wX cy a σ)[20]? = some (a 20, .inl (cy 1, 30, .inl (σ.2.1 20))) := rfl
theorem eX_21 (cy : Nat → ClassId) (a : Nat → Nat) (σ : St) : (wX cy a σ)[21]? = some (a 21, .inl (cy 1, 30, .inl (σ.2.1 21))) := rfl
theorem eX_22 (cy : Nat → ClassId) (a : Nat → Nat) (σ : St) : (wX cy a σ)[22]? = some (a 22, .inl (cy 1, 30, .inl (σ.2.1 22))) := rfl
theorem eX_23 (cy : Nat → ClassId) (a : Nat → Nat) (σ : St) : (wX cy a σ)[23]? = some (a 23, .inl (cy 1, 8, .inl (σ.2.1 23))) := rfl
theorem eX_24 (cy : Nat → ClassId) (a : Nat → Nat) (σ : St) : (wX cy a σ)[24]? = some (a 24, .inl (cy 1, 30, .inl (σ.2.1 24))) := rfl
theorem eX_25 (cy : Nat → ClassId) (a : Nat → Nat) (σ : St) : (wX cy a σ)[25]? = some (a 25, .inl (cy 1, 30, .inl (σ.2.1 25))) := rfl
theorem eX_26 (cy : Nat → ClassId) (a : Nat → Nat) (σ : St) : (wX cy a σ)[26]? = some (a 26, .inl (cy 1, 30, .inl (σ.2.1 26))) := rfl
theorem eX_27 (cy : Nat → ClassId) (a : Nat → Nat) (σ : St) : (wX cy a σ)[27]? = some (a 27, .inl (cy 1, 30, .inl (σ.2.1 27))) := rfl
theorem eX_28 (cy : Nat → ClassId) (a : Nat → Nat) (σ : St) : (wX cy a σ)[28]? = some (a 28, .inl (cy 1, 8, .inl (σ.2.1 28))) := rfl
theorem eX_29 (cy : Nat → ClassId) (a : Nat → Nat) (σ : St) : (wX cy a σ)[29]? = some (a 29, .inl (cy 1, 60, .inl (σ.2.1 29))) := rfl
theorem eX_30 (cy : Nat → ClassId) (a : Nat → Nat) (σ : St) : (wX cy a σ)[30]? = some (a 30, .inl (cy 1, 60, .inl (σ.2.1 30))) := rfl
theorem eX_31 (cy : Nat → ClassId) (a : Nat → Nat) (σ : St) : (wX cy a σ)[31]? = some (a 31, .inl (cy 1, 60, .inl (σ.2.1 31))) := rfl
theorem eX_32 (cy : Nat → ClassId) (a : Nat → Nat) (σ : St) : (wX cy a σ)[32]? = some (a 32, .inl (cy 1, 40, .inl (σ.2.1 32))) := rfl
theorem eX_33 (cy : Nat → ClassId) (a : Nat → Nat) (σ : St) : (wX cy a σ)[33]? = some (a 33, .inl (cy 1, 4, .inl (σ.2.1 33))) := rfl
theorem eX_34 (cy : Nat → ClassId) (a : Nat → Nat) (σ : St) : (wX cy a σ)[34]? = some (a 34, .inl (cy 1, 60, .inl (σ.2.1 34))) := rfl
theorem eX_35 (cy : Nat → ClassId) (a : Nat → Nat) (σ : St) : (wX cy a σ)[35]? = some (a 35, .inl (cy 1, 60, .inl (σ.2.1 35))) := rfl
theorem eX_36 (cy : Nat → ClassId) (a : Nat → Nat) (σ : St) : (wX cy a σ)[36]? = some (a 36, .inl (cy 1, 60, .inl (σ.2.1 36))) := rfl
theorem eX_37 (cy : Nat → ClassId) (a : Nat → Nat) (σ : St) : (wX cy a σ)[37]? = some (a 37, .inl (cy 1, 4, .inl (σ.2.1 37))) := rfl
theorem eX_38 (cy : Nat → ClassId) (a : Nat → Nat) (σ : St) : (wX cy a σ)[38]? = some (a 38, .inl (cy 1, 12, .inl (σ.2.1 38))) := rfl
theorem eX_39 (cy : Nat → ClassId) (a : Nat → Nat) (σ : St) : (wX cy a σ)[39]? = some (a 39, .inl (cy 1, 12, .inl (σ.2.1 39))) := rfl
theorem eX_40 (cy : Nat → ClassId) (a : Nat → Nat) (σ : St) : (wX cy a σ)[40]? = some (a 40, .inl (cy 1, 12, .inl (σ.2.1 40))) := rfl
theorem eX_41 (cy : Nat → ClassId) (a : Nat → Nat) (σ : St) : (wX cy a σ)[41]? = some (a 41, .inl (cy 1, 80, .inl (σ.2.1 41))) := rfl
theorem eX_42 (cy : Nat → ClassId) (a : Nat → Nat) (σ : St) : (wX cy a σ)[42]? = some (a 42, .inl (cy 1, 80, .inl (σ.2.1 42))) := rfl
theorem eX_43 (cy : Nat → ClassId) (a : Nat → Nat) (σ : St) : (wX cy a σ)[43]? = some (a 43, .inl (cy 1, 80, .inl (σ.2.1 43))) := rfl
theorem eX_44 (cy : Nat → ClassId) (a : Nat → Nat) (σ : St) : (wX cy a σ)[44]? = some (a 44, .inl (cy 1, 80, .inl (σ.2.1 44))) := rfl
theorem eX_45 (cy : Nat → ClassId) (a : Nat → Nat) (σ : St) : (wX cy a σ)[45]? = some (a 45, .inl (cy 1, 80, .inl (σ.2.1 45))) := rfl
theorem eX_46 (cy : Nat → ClassId) (a : Nat → Nat) (σ : St) : (wX cy a σ)[46]? = some (a 46, .inl (cy 1, 60, .inl (σ.2.1 46))) := rfl
theorem eX_47 (cy : Nat → ClassId) (a : Nat → Nat) (σ : St) : (wX cy a σ)[47]? = some (a 47, .inl (cy 1, 60, .inl (σ.2.1 47))) := rfl
theorem eX_48 (cy : Nat → ClassId) (a : Nat → Nat) (σ : St) : (wX cy a σ)[48]? = some (a 48, .inl (cy 1, 60, .inl (σ.2.1 48))) := rfl
theorem eX_49 (cy : Nat → ClassId) (a : Nat → Nat) (σ : St) : (wX cy a σ)[49]? = some (a 49, .inl (cy 1, 40, .inl (σ.2.1 49))) := rfl
theorem eX_50 (cy : Nat → ClassId) (a : Nat → Nat) (σ : St) : (wX cy a σ)[50]? = some (a 50, .inl (cy 1, 40, .inl (σ.2.1 50))) := rfl
theorem eX_51 (cy : Nat → ClassId) (a : Nat → Nat) (σ : St) : (wX cy a σ)[51]? = some (a 51, .inl (cy 1, 40, .inl (σ.2.1 51))) := rfl
theorem eX_52 (cy : Nat → ClassId) (a : Nat → Nat) (σ : St) : (wX cy a σ)[52]? = some (a 52, .inl (cy 1, 144, .inl (σ.2.1 52))) := rfl
theorem eX_53 (cy : Nat → ClassId) (a : Nat → Nat) (σ : St) : (wX cy a σ)[53]? = some (a 53, .inl (cy 1, 12, .inl (σ.2.1 53))) := rfl
theorem eX_54 (cy : Nat → ClassId) (a : Nat → Nat) (σ : St) : (wX cy a σ)[54]? = some (a 54, .inl (cy 1, 960, .inl (σ.2.1 54))) := rfl
theorem eX_55 (cy : Nat → ClassId) (a : Nat → Nat) (σ : St) : (wX cy a σ)[55]? = some (a 55, .inl (cy 1, 12, .inl (σ.2.1 55))) := rfl
theorem eX_56 (cy : Nat → ClassId) (a : Nat → Nat) (σ : St) : (wX cy a σ)[56]? = some (a 56, .inl (cy 1, 720, .inl (σ.2.1 56))) := rfl
theorem eX_57 (cy : Nat → ClassId) (a : Nat → Nat) (σ : St) : (wX cy a σ)[57]? = some (a 57, .inl (cy 1, 12, .inl (σ.2.1 57))) := rfl
theorem eX_58 (cy : Nat → ClassId) (a : Nat → Nat) (σ : St) : (wX cy a σ)[58]? = some (a 58, .inl (cy 1, 480, .inl (σ.2.1 58))) := rfl
theorem eX_59 (cy : Nat → ClassId) (a : Nat → Nat) (σ : St) : (wX cy a σ)[59]? = some (a 59, .inl (cy 1, 12, .inl (σ.2.1 59))) := rfl
theorem eX_60 (cy : Nat → ClassId) (a : Nat → Nat) (σ : St) : (wX cy a σ)[60]? = some (a 60, .inl (cy 1, 80, .inl (σ.2.1 60))) := rfl
theorem eX_61 (cy : Nat → ClassId) (a : Nat → Nat) (σ : St) : (wX cy a σ)[61]? = some (a 61, .inl (cy 1, 80, .inl (σ.2.1 61))) := rfl
theorem eX_62 (cy : Nat → ClassId) (a : Nat → Nat) (σ : St) : (wX cy a σ)[62]? = some (a 62, .inl (cy 1, 80, .inl (σ.2.1 62))) := rfl
theorem eX_63 (cy : Nat → ClassId) (a : Nat → Nat) (σ : St) : (wX cy a σ)[63]? = some (a 63, .inl (cy 1, 12, .inl (σ.2.1 63))) := rfl
theorem eX_64 (cy : Nat → ClassId) (a : Nat → Nat) (σ : St) : (wX cy a σ)[64]? = some (a 64, .inl (cy 3, 7, .inr (.inr (.inr (.inr (fun i => if i < 7 then some (a (65 + i)) else none)))))) := rfl
theorem eX_65 (cy : Nat → ClassId) (a : Nat → Nat) (σ : St) : (wX cy a σ)[65]? = some (a 65, .inl (cy 1, 12, .inl (σ.2.1 65))) := rfl
theorem eX_66 (cy : Nat → ClassId) (a : Nat → Nat) (σ : St) : (wX cy a σ)[66]? = some (a 66, .inl (cy 1, 12, .inl (σ.2.1 66))) := rfl
theorem eX_67 (cy : Nat → ClassId) (a : Nat → Nat) (σ : St) : (wX cy a σ)[67]? = some (a 67, .inl (cy 1, 12, .inl (σ.2.1 67))) := rfl
theorem eX_68 (cy : Nat → ClassId) (a : Nat → Nat) (σ : St) : (wX cy a σ)[68]? = some (a 68, .inl (cy 1, 12, .inl (σ.2.1 68))) := rfl
theorem eX_69 (cy : Nat → ClassId) (a : Nat → Nat) (σ : St) : (wX cy a σ)[69]? = some (a 69, .inl (cy 1, 12, .inl (σ.2.1 69))) := rfl
theorem eX_70 (cy : Nat → ClassId) (a : Nat → Nat) (σ : St) : (wX cy a σ)[70]? = some (a 70, .inl (cy 1, 12, .inl (σ.2.1 70))) := rfl
theorem eX_71 (cy : Nat → ClassId) (a : Nat → Nat) (σ : St) : (wX cy a σ)[71]? = some (a 71, .inl (cy 1, 12, .inl (σ.2.1 71))) := rfl
theorem eX_72 (cy : Nat → ClassId) (a : Nat → Nat) (σ : St) : (wX cy a σ)[72]? = some (a 72, .inl (cy 2, 80, .inl (σ.2.1 72))) := rfl
theorem eX_73 (cy : Nat → ClassId) (a : Nat → Nat) (σ : St) : (wX cy a σ)[73]? = some (a 73, .inl (cy 1, 80, .inl (σ.2.1 73))) := rfl
theorem eX_74 (cy : Nat → ClassId) (a : Nat → Nat) (σ : St) : (wX cy a σ)[74]? = some (a 74, .inl (cy 1, 8, .inl (σ.2.1 74))) := rfl
theorem eX_75 (cy : Nat → ClassId) (a : Nat → Nat) (σ : St) : (wX cy a σ)[75]? = some (a 75, .inl (cy 1, 8, .inl (σ.2.1 75))) := rfl
theorem sX_0 (cy : Nat → ClassId) (a : Nat → Nat) (σ : St) (v : Int32) : (wX cy a σ).set 0 (a 0, .inr (11, [.ref (a 1), .ref (a 2), .ref (a 3), .ref (a 5), .ref (a 6), .ref (a 7), .ref (a 8), .ref (a 9), .ref (a 10), .ref (a 16), .ref (a 17), .int (σ.1 0), .int (σ.1 1), .int (σ.1 2)].set 11 (.int v))) = wX cy a (fF σ 0 v) := rfl
theorem sX_1 (cy : Nat → ClassId) (a : Nat → Nat) (σ : St) (v : Int32) : (wX cy a σ).set 0 (a 0, .inr (11, [.ref (a 1), .ref (a 2), .ref (a 3), .ref (a 5), .ref (a 6), .ref (a 7), .ref (a 8), .ref (a 9), .ref (a 10), .ref (a 16), .ref (a 17), .int (σ.1 0), .int (σ.1 1), .int (σ.1 2)].set 12 (.int v))) = wX cy a (fF σ 1 v) := rfl
theorem sX_2 (cy : Nat → ClassId) (a : Nat → Nat) (σ : St) (v : Int32) : (wX cy a σ).set 0 (a 0, .inr (11, [.ref (a 1), .ref (a 2), .ref (a 3), .ref (a 5), .ref (a 6), .ref (a 7), .ref (a 8), .ref (a 9), .ref (a 10), .ref (a 16), .ref (a 17), .int (σ.1 0), .int (σ.1 1), .int (σ.1 2)].set 13 (.int v))) = wX cy a (fF σ 2 v) := rfl
theorem sX_3 (cy : Nat → ClassId) (a : Nat → Nat) (σ : St) (v : Int32) : (wX cy a σ).set 1 (a 1, .inr (10, [.ref (a 18), .int (σ.1 3)].set 1 (.int v))) = wX cy a (fF σ 3 v) := rfl
theorem sX_4 (cy : Nat → ClassId) (a : Nat → Nat) (σ : St) (v : Int32) : (wX cy a σ).set 2 (a 2, .inr (5, [.ref (a 1), .ref (a 4), .int (σ.1 4), .int (σ.1 5), .int (σ.1 6)].set 2 (.int v))) = wX cy a (fF σ 4 v) := rfl
theorem sX_5 (cy : Nat → ClassId) (a : Nat → Nat) (σ : St) (v : Int32) : (wX cy a σ).set 2 (a 2, .inr (5, [.ref (a 1), .ref (a 4), .int (σ.1 4), .int (σ.1 5), .int (σ.1 6)].set 3 (.int v))) = wX cy a (fF σ 5 v) := rfl
theorem sX_6 (cy : Nat → ClassId) (a : Nat → Nat) (σ : St) (v : Int32) : (wX cy a σ).set 2 (a 2, .inr (5, [.ref (a 1), .ref (a 4), .int (σ.1 4), .int (σ.1 5), .int (σ.1 6)].set 4 (.int v))) = wX cy a (fF σ 6 v) := rfl
theorem sX_7 (cy : Nat → ClassId) (a : Nat → Nat) (σ : St) (v : Int32) : (wX cy a σ).set 3 (a 3, .inr (4, [.ref (a 19), .ref (a 20), .ref (a 21), .ref (a 22), .ref (a 23), .int (σ.1 7)].set 5 (.int v))) = wX cy a (fF σ 7 v) := rfl
theorem sX_8 (cy : Nat → ClassId) (a : Nat → Nat) (σ : St) (v : Int32) : (wX cy a σ).set 4 (a 4, .inr (4, [.ref (a 24), .ref (a 25), .ref (a 26), .ref (a 27), .ref (a 28), .int (σ.1 8)].set 5 (.int v))) = wX cy a (fF σ 8 v) := rfl
theorem sX_9 (cy : Nat → ClassId) (a : Nat → Nat) (σ : St) (v : Int32) : (wX cy a σ).set 5 (a 5, .inr (1, [.ref (a 29), .ref (a 30), .ref (a 31), .ref (a 32), .int (σ.1 9)].set 4 (.int v))) = wX cy a (fF σ 9 v) := rfl
theorem sX_10 (cy : Nat → ClassId) (a : Nat → Nat) (σ : St) (v : Int32) : (wX cy a σ).set 6 (a 6, .inr (9, [.ref (a 33), .ref (a 34), .ref (a 35), .ref (a 36), .ref (a 37), .int (σ.1 10), .int (σ.1 11)].set 5 (.int v))) = wX cy a (fF σ 10 v) := rfl
theorem sX_11 (cy : Nat → ClassId) (a : Nat → Nat) (σ : St) (v : Int32) : (wX cy a σ).set 6 (a 6, .inr (9, [.ref (a 33), .ref (a 34), .ref (a 35), .ref (a 36), .ref (a 37), .int (σ.1 10), .int (σ.1 11)].set 6 (.int v))) = wX cy a (fF σ 11 v) := rfl
theorem sX_12 (cy : Nat → ClassId) (a : Nat → Nat) (σ : St) (v : Int32) : (wX cy a σ).set 7 (a 7, .inr (0, [.ref (a 38), .ref (a 39), .ref (a 40), .ref (a 11), .int (σ.1 12)].set 4 (.int v))) = wX cy a (fF σ 12 v) := rfl
theorem sX_13 (cy : Nat → ClassId) (a : Nat → Nat) (σ : St) (v : Int32) : (wX cy a σ).set 8 (a 8, .inr (6, [.ref (a 41), .ref (a 42), .ref (a 43), .ref (a 44), .ref (a 45), .ref (a 12), .int (σ.1 13)].set 6 (.int v))) = wX cy a (fF σ 13 v) := rfl
theorem sX_14 (cy : Nat → ClassId) (a : Nat → Nat) (σ : St) (v : Int32) : (wX cy a σ).set 9 (a 9, .inr (8, [.ref (a 46), .ref (a 47), .ref (a 48), .ref (a 13), .int (σ.1 14)].set 4 (.int v))) = wX cy a (fF σ 14 v) := rfl
theorem sX_15 (cy : Nat → ClassId) (a : Nat → Nat) (σ : St) (v : Int32) : (wX cy a σ).set 10 (a 10, .inr (8, [.ref (a 49), .ref (a 50), .ref (a 51), .ref (a 14), .int (σ.1 15)].set 4 (.int v))) = wX cy a (fF σ 15 v) := rfl
theorem sX_16 (cy : Nat → ClassId) (a : Nat → Nat) (σ : St) (v : Int32) : (wX cy a σ).set 15 (a 15, .inr (7, [.ref (a 60), .ref (a 61), .ref (a 62), .int (σ.1 16), .int (σ.1 17)].set 3 (.int v))) = wX cy a (fF σ 16 v) := rfl
theorem sX_17 (cy : Nat → ClassId) (a : Nat → Nat) (σ : St) (v : Int32) : (wX cy a σ).set 15 (a 15, .inr (7, [.ref (a 60), .ref (a 61), .ref (a 62), .int (σ.1 16), .int (σ.1 17)].set 4 (.int v))) = wX cy a (fF σ 17 v) := rfl
theorem sX_18 (cy : Nat → ClassId) (a : Nat → Nat) (σ : St) (v : Int32) : (wX cy a σ).set 16 (a 16, .inr (2, [.ref (a 3), .ref (a 5), .ref (a 6), .ref (a 7), .ref (a 8), .ref (a 9), .ref (a 10), .ref (a 15), .ref (a 63), .ref (a 64), .ref (a 72), .ref (a 73), .ref (a 74), .ref (a 75), .int (σ.1 18)].set 14 (.int v))) = wX cy a (fF σ 18 v) := rfl
theorem qX_17 (cy : Nat → ClassId) (a : Nat → Nat) (σ : St) (f : Nat → Int32) : (wX cy a σ).set 17 (a 17, .inl (cy 1, 201, .inl f)) = wX cy a (fR σ 17 f) := rfl
theorem qX_18 (cy : Nat → ClassId) (a : Nat → Nat) (σ : St) (f : Nat → Int32) : (wX cy a σ).set 18 (a 18, .inl (cy 0, 400, .inl f)) = wX cy a (fR σ 18 f) := rfl
theorem qX_19 (cy : Nat → ClassId) (a : Nat → Nat) (σ : St) (f : Nat → Int32) : (wX cy a σ).set 19 (a 19, .inl (cy 1, 30, .inl f)) = wX cy a (fR σ 19 f) := rfl
theorem qX_20 (cy : Nat → ClassId) (a : Nat → Nat) (σ : St) (f : Nat → Int32) : (wX cy a σ).set 20 (a 20, .inl (cy 1, 30, .inl f)) = wX cy a (fR σ 20 f) := rfl
theorem qX_21 (cy : Nat → ClassId) (a : Nat → Nat) (σ : St) (f : Nat → Int32) : (wX cy a σ).set 21 (a 21, .inl (cy 1, 30, .inl f)) = wX cy a (fR σ 21 f) := rfl
theorem qX_22 (cy : Nat → ClassId) (a : Nat → Nat) (σ : St) (f : Nat → Int32) : (wX cy a σ).set 22 (a 22, .inl (cy 1, 30, .inl f)) = wX cy a (fR σ 22 f) := rfl
theorem qX_23 (cy : Nat → ClassId) (a : Nat → Nat) (σ : St) (f : Nat → Int32) : (wX cy a σ).set 23 (a 23, .inl (cy 1, 8, .inl f)) = wX cy a (fR σ 23 f) := rfl
theorem qX_24 (cy : Nat → ClassId) (a : Nat → Nat) (σ : St) (f : Nat → Int32) : (wX cy a σ).set 24 (a 24, .inl (cy 1, 30, .inl f)) = wX cy a (fR σ 24 f) := rfl
theorem qX_25 (cy : Nat → ClassId) (a : Nat → Nat) (σ : St) (f : Nat → Int32) : (wX cy a σ).set 25 (a 25, .inl (cy 1, 30, .inl f)) = wX cy a (fR σ 25 f) := rfl
theorem qX_26 (cy : Nat → ClassId) (a : Nat → Nat) (σ : St) (f : Nat → Int32) : (wX cy a σ).set 26 (a 26, .inl (cy 1, 30, .inl f)) = wX cy a (fR σ 26 f) := rfl
theorem qX_27 (cy : Nat → ClassId) (a : Nat → Nat) (σ : St) (f : Nat → Int32) : (wX cy a σ).set 27 (a 27, .inl (cy 1, 30, .inl f)) = wX cy a (fR σ 27 f) := rfl
theorem qX_28 (cy : Nat → ClassId) (a : Nat → Nat) (σ : St) (f : Nat → Int32) : (wX cy a σ).set 28 (a 28, .inl (cy 1, 8, .inl f)) = wX cy a (fR σ 28 f) := rfl
theorem qX_29 (cy : Nat → ClassId) (a : Nat → Nat) (σ : St) (f : Nat → Int32) : (wX cy a σ).set 29 (a 29, .inl (cy 1, 60, .inl f)) = wX cy a (fR σ 29 f) := rfl
theorem qX_30 (cy : Nat → ClassId) (a : Nat → Nat) (σ : St) (f : Nat → Int32) : (wX cy a σ).set 30 (a 30, .inl (cy 1, 60, .inl f)) = wX cy a (fR σ 30 f) := rfl
theorem qX_31 (cy : Nat → ClassId) (a : Nat → Nat) (σ : St) (f : Nat → Int32) : (wX cy a σ).set 31 (a 31, .inl (cy 1, 60, .inl f)) = wX cy a (fR σ 31 f) := rfl
theorem qX_32 (cy : Nat → ClassId) (a : Nat → Nat) (σ : St) (f : Nat → Int32) : (wX cy a σ).set 32 (a 32, .inl (cy 1, 40, .inl f)) = wX cy a (fR σ 32 f) := rfl
theorem qX_33 (cy : Nat → ClassId) (a : Nat → Nat) (σ : St) (f : Nat → Int32) : (wX cy a σ).set 33 (a 33, .inl (cy 1, 4, .inl f)) = wX cy a (fR σ 33 f) := rfl
theorem qX_34 (cy : Nat → ClassId) (a : Nat → Nat) (σ : St) (f : Nat → Int32) : (wX cy a σ).set 34 (a 34, .inl (cy 1, 60, .inl f)) = wX cy a (fR σ 34 f) := rfl
theorem qX_35 (cy : Nat → ClassId) (a : Nat → Nat) (σ : St) (f : Nat → Int32) : (wX cy a σ).set 35 (a 35, .inl (cy 1, 60, .inl f)) = wX cy a (fR σ 35 f) := rfl
theorem qX_36 (cy : Nat → ClassId) (a : Nat → Nat) (σ : St) (f : Nat → Int32) : (wX cy a σ).set 36 (a 36, .inl (cy 1, 60, .inl f)) = wX cy a (fR σ 36 f) := rfl
theorem qX_37 (cy : Nat → ClassId) (a : Nat → Nat) (σ : St) (f : Nat → Int32) : (wX cy a σ).set 37 (a 37, .inl (cy 1, 4, .inl f)) = wX cy a (fR σ 37 f) := rfl
theorem qX_38 (cy : Nat → ClassId) (a : Nat → Nat) (σ : St) (f : Nat → Int32) : (wX cy a σ).set 38 (a 38, .inl (cy 1, 12, .inl f)) = wX cy a (fR σ 38 f) := rfl
theorem qX_39 (cy : Nat → ClassId) (a : Nat → Nat) (σ : St) (f : Nat → Int32) : (wX cy a σ).set 39 (a 39, .inl (cy 1, 12, .inl f)) = wX cy a (fR σ 39 f) := rfl
theorem qX_40 (cy : Nat → ClassId) (a : Nat → Nat) (σ : St) (f : Nat → Int32) : (wX cy a σ).set 40 (a 40, .inl (cy 1, 12, .inl f)) = wX cy a (fR σ 40 f) := rfl
theorem qX_41 (cy : Nat → ClassId) (a : Nat → Nat) (σ : St) (f : Nat → Int32) : (wX cy a σ).set 41 (a 41, .inl (cy 1, 80, .inl f)) = wX cy a (fR σ 41 f) := rfl
theorem qX_42 (cy : Nat → ClassId) (a : Nat → Nat) (σ : St) (f : Nat → Int32) : (wX cy a σ).set 42 (a 42, .inl (cy 1, 80, .inl f)) = wX cy a (fR σ 42 f) := rfl
theorem qX_43 (cy : Nat → ClassId) (a : Nat → Nat) (σ : St) (f : Nat → Int32) : (wX cy a σ).set 43 (a 43, .inl (cy 1, 80, .inl f)) = wX cy a (fR σ 43 f) := rfl
theorem qX_44 (cy : Nat → ClassId) (a : Nat → Nat) (σ : St) (f : Nat → Int32) : (wX cy a σ).set 44 (a 44, .inl (cy 1, 80, .inl f)) = wX cy a (fR σ 44 f) := rfl
theorem qX_45 (cy : Nat → ClassId) (a : Nat → Nat) (σ : St) (f : Nat → Int32) : (wX cy a σ).set 45 (a 45, .inl (cy 1, 80, .inl f)) = wX cy a (fR σ 45 f) := rfl
theorem qX_46 (cy : Nat → ClassId) (a : Nat → Nat) (σ : St) (f : Nat → Int32) : (wX cy a σ).set 46 (a 46, .inl (cy 1, 60, .inl f)) = wX cy a (fR σ 46 f) := rfl
theorem qX_47 (cy : Nat → ClassId) (a : Nat → Nat) (σ : St) (f : Nat → Int32) : (wX cy a σ).set 47 (a 47, .inl (cy 1, 60, .inl f)) = wX cy a (fR σ 47 f) := rfl
theorem qX_48 (cy : Nat → ClassId) (a : Nat → Nat) (σ : St) (f : Nat → Int32) : (wX cy a σ).set 48 (a 48, .inl (cy 1, 60, .inl f)) = wX cy a (fR σ 48 f) := rfl
theorem qX_49 (cy : Nat → ClassId) (a : Nat → Nat) (σ : St) (f : Nat → Int32) : (wX cy a σ).set 49 (a 49, .inl (cy 1, 40, .inl f)) = wX cy a (fR σ 49 f) := rfl
theorem qX_50 (cy : Nat → ClassId) (a : Nat → Nat) (σ : St) (f : Nat → Int32) : (wX cy a σ).set 50 (a 50, .inl (cy 1, 40, .inl f)) = wX cy a (fR σ 50 f) := rfl
theorem qX_51 (cy : Nat → ClassId) (a : Nat → Nat) (σ : St) (f : Nat → Int32) : (wX cy a σ).set 51 (a 51, .inl (cy 1, 40, .inl f)) = wX cy a (fR σ 51 f) := rfl
theorem qX_52 (cy : Nat → ClassId) (a : Nat → Nat) (σ : St) (f : Nat → Int32) : (wX cy a σ).set 52 (a 52, .inl (cy 1, 144, .inl f)) = wX cy a (fR σ 52 f) := rfl
theorem qX_53 (cy : Nat → ClassId) (a : Nat → Nat) (σ : St) (f : Nat → Int32) : (wX cy a σ).set 53 (a 53, .inl (cy 1, 12, .inl f)) = wX cy a (fR σ 53 f) := rfl
theorem qX_54 (cy : Nat → ClassId) (a : Nat → Nat) (σ : St) (f : Nat → Int32) : (wX cy a σ).set 54 (a 54, .inl (cy 1, 960, .inl f)) = wX cy a (fR σ 54 f) := rfl
theorem qX_55 (cy : Nat → ClassId) (a : Nat → Nat) (σ : St) (f : Nat → Int32) : (wX cy a σ).set 55 (a 55, .inl (cy 1, 12, .inl f)) = wX cy a (fR σ 55 f) := rfl
theorem qX_56 (cy : Nat → ClassId) (a : Nat → Nat) (σ : St) (f : Nat → Int32) : (wX cy a σ).set 56 (a 56, .inl (cy 1, 720, .inl f)) = wX cy a (fR σ 56 f) := rfl
theorem qX_57 (cy : Nat → ClassId) (a : Nat → Nat) (σ : St) (f : Nat → Int32) : (wX cy a σ).set 57 (a 57, .inl (cy 1, 12, .inl f)) = wX cy a (fR σ 57 f) := rfl
theorem qX_58 (cy : Nat → ClassId) (a : Nat → Nat) (σ : St) (f : Nat → Int32) : (wX cy a σ).set 58 (a 58, .inl (cy 1, 480, .inl f)) = wX cy a (fR σ 58 f) := rfl
theorem qX_59 (cy : Nat → ClassId) (a : Nat → Nat) (σ : St) (f : Nat → Int32) : (wX cy a σ).set 59 (a 59, .inl (cy 1, 12, .inl f)) = wX cy a (fR σ 59 f) := rfl
theorem qX_60 (cy : Nat → ClassId) (a : Nat → Nat) (σ : St) (f : Nat → Int32) : (wX cy a σ).set 60 (a 60, .inl (cy 1, 80, .inl f)) = wX cy a (fR σ 60 f) := rfl
theorem qX_61 (cy : Nat → ClassId) (a : Nat → Nat) (σ : St) (f : Nat → Int32) : (wX cy a σ).set 61 (a 61, .inl (cy 1, 80, .inl f)) = wX cy a (fR σ 61 f) := rfl
theorem qX_62 (cy : Nat → ClassId) (a : Nat → Nat) (σ : St) (f : Nat → Int32) : (wX cy a σ).set 62 (a 62, .inl (cy 1, 80, .inl f)) = wX cy a (fR σ 62 f) := rfl
theorem qX_63 (cy : Nat → ClassId) (a : Nat → Nat) (σ : St) (f : Nat → Int32) : (wX cy a σ).set 63 (a 63, .inl (cy 1, 12, .inl f)) = wX cy a (fR σ 63 f) := rfl
theorem qX_65 (cy : Nat → ClassId) (a : Nat → Nat) (σ : St) (f : Nat → Int32) : (wX cy a σ).set 65 (a 65, .inl (cy 1, 12, .inl f)) = wX cy a (fR σ 65 f) := rfl
theorem qX_66 (cy : Nat → ClassId) (a : Nat → Nat) (σ : St) (f : Nat → Int32) : (wX cy a σ).set 66 (a 66, .inl (cy 1, 12, .inl f)) = wX cy a (fR σ 66 f) := rfl
theorem qX_67 (cy : Nat → ClassId) (a : Nat → Nat) (σ : St) (f : Nat → Int32) : (wX cy a σ).set 67 (a 67, .inl (cy 1, 12, .inl f)) = wX cy a (fR σ 67 f) := rfl
theorem qX_68 (cy : Nat → ClassId) (a : Nat → Nat) (σ : St) (f : Nat → Int32) : (wX cy a σ).set 68 (a 68, .inl (cy 1, 12, .inl f)) = wX cy a (fR σ 68 f) := rfl
theorem qX_69 (cy : Nat → ClassId) (a : Nat → Nat) (σ : St) (f : Nat → Int32) : (wX cy a σ).set 69 (a 69, .inl (cy 1, 12, .inl f)) = wX cy a (fR σ 69 f) := rfl
theorem qX_70 (cy : Nat → ClassId) (a : Nat → Nat) (σ : St) (f : Nat → Int32) : (wX cy a σ).set 70 (a 70, .inl (cy 1, 12, .inl f)) = wX cy a (fR σ 70 f) := rfl
theorem qX_71 (cy : Nat → ClassId) (a : Nat → Nat) (σ : St) (f : Nat → Int32) : (wX cy a σ).set 71 (a 71, .inl (cy 1, 12, .inl f)) = wX cy a (fR σ 71 f) := rfl
theorem qX_72 (cy : Nat → ClassId) (a : Nat → Nat) (σ : St) (f : Nat → Int32) : (wX cy a σ).set 72 (a 72, .inl (cy 2, 80, .inl f)) = wX cy a (fR σ 72 f) := rfl
theorem qX_73 (cy : Nat → ClassId) (a : Nat → Nat) (σ : St) (f : Nat → Int32) : (wX cy a σ).set 73 (a 73, .inl (cy 1, 80, .inl f)) = wX cy a (fR σ 73 f) := rfl
theorem qX_74 (cy : Nat → ClassId) (a : Nat → Nat) (σ : St) (f : Nat → Int32) : (wX cy a σ).set 74 (a 74, .inl (cy 1, 8, .inl f)) = wX cy a (fR σ 74 f) := rfl
theorem qX_75 (cy : Nat → ClassId) (a : Nat → Nat) (σ : St) (f : Nat → Int32) : (wX cy a σ).set 75 (a 75, .inl (cy 1, 8, .inl f)) = wX cy a (fR σ 75 f) := rfl
def AX (a : Nat → Nat) : Nat → Prop := fun q => ∃ k, k < 76 ∧ q = a k
end
section
def wM (cy : Nat → ClassId) (a : Nat → Nat) (σ : St) : va_W := [(a 0, .inr (12, [.int (σ.1 0), .int (σ.1 1), .int (σ.1 2), .int (σ.1 3), .ref (a 1), .int (σ.1 4), .ref (a 2), .ref (a 3), .ref (a 4), .int (σ.1 5), .ref (a 5), .ref (a 6), .ref (a 7), .int (σ.1 6), .int (σ.1 7), .ref (a 8), .ref (a 9), .ref (a 10), .int (σ.1 8), .ref (a 11), .ref (a 12), .ref (a 13), .ref (a 14), .ref (a 15), .ref (a 16), .int (σ.1 9), .ref (a 17), .ref (a 18), .ref (a 19), .ref (a 20), .int (σ.1 10), .ref (a 21), .ref (a 22), .ref (a 23), .int (σ.1 11), .ref (a 24), .ref (a 25), .ref (a 26), .ref (a 27), .ref (a 28), .int (σ.1 12), .ref (a 29), .int (σ.1 13), .int (σ.1 14), .int (σ.1 15), .int (σ.1 16), .long (σ.2.2 0), .int (σ.1 17), .int (σ.1 18), .ref (a 30), .ref (a 31), .ref (a 32), .ref (a 33), .ref (a 34), .ref (a 35), .ref (a 36), .ref (a 37), .ref (a 38), .ref (a 39), .int (σ.1 19)])),
  (a 1, .inl (cy 1, 4, .inl (σ.2.1 1))),
  (a 2, .inl (cy 1, 60, .inl (σ.2.1 2))),
  (a 3, .inl (cy 1, 60, .inl (σ.2.1 3))),
  (a 4, .inl (cy 1, 60, .inl (σ.2.1 4))),
  (a 5, .inl (cy 1, 12, .inl (σ.2.1 5))),
  (a 6, .inl (cy 1, 12, .inl (σ.2.1 6))),
  (a 7, .inl (cy 1, 12, .inl (σ.2.1 7))),
  (a 8, .inl (cy 1, 60, .inl (σ.2.1 8))),
  (a 9, .inl (cy 1, 60, .inl (σ.2.1 9))),
  (a 10, .inl (cy 1, 60, .inl (σ.2.1 10))),
  (a 11, .inl (cy 1, 80, .inl (σ.2.1 11))),
  (a 12, .inl (cy 1, 80, .inl (σ.2.1 12))),
  (a 13, .inl (cy 1, 80, .inl (σ.2.1 13))),
  (a 14, .inl (cy 1, 80, .inl (σ.2.1 14))),
  (a 15, .inl (cy 1, 80, .inl (σ.2.1 15))),
  (a 16, .inl (cy 1, 80, .inl (σ.2.1 16))),
  (a 17, .inl (cy 1, 60, .inl (σ.2.1 17))),
  (a 18, .inl (cy 1, 60, .inl (σ.2.1 18))),
  (a 19, .inl (cy 1, 60, .inl (σ.2.1 19))),
  (a 20, .inl (cy 1, 60, .inl (σ.2.1 20))),
  (a 21, .inl (cy 1, 41, .inl (σ.2.1 21))),
  (a 22, .inl (cy 1, 41, .inl (σ.2.1 22))),
  (a 23, .inl (cy 1, 41, .inl (σ.2.1 23))),
  (a 24, .inl (cy 1, 30, .inl (σ.2.1 24))),
  (a 25, .inl (cy 1, 30, .inl (σ.2.1 25))),
  (a 26, .inl (cy 1, 30, .inl (σ.2.1 26))),
  (a 27, .inl (cy 1, 30, .inl (σ.2.1 27))),
  (a 28, .inl (cy 1, 120, .inl (σ.2.1 28))),
  (a 29, .inl (cy 1, 400, .inl (σ.2.1 29))),
  (a 30, .inl (cy 1, 12, .inl (σ.2.1 30))),
  (a 31, .inl (cy 1, 12, .inl (σ.2.1 31))),
  (a 32, .inl (cy 1, 12, .inl (σ.2.1 32))),
  (a 33, .inl (cy 1, 12, .inl (σ.2.1 33))),
  (a 34, .inl (cy 1, 12, .inl (σ.2.1 34))),
  (a 35, .inl (cy 1, 12, .inl (σ.2.1 35))),
  (a 36, .inl (cy 1, 80, .inl (σ.2.1 36))),
  (a 37, .inl (cy 1, 80, .inl (σ.2.1 37))),
  (a 38, .inl (cy 1, 80, .inl (σ.2.1 38))),
  (a 39, .inl (cy 1, 80, .inl (σ.2.1 39)))]
theorem wM_fst (cy : Nat → ClassId) (a : Nat → Nat) (σ σ2 : St) : (wM cy a σ2).map (fun q => q.1) = (wM cy a σ).map (fun q => q.1) := rfl
theorem eM_0 (cy : Nat → ClassId) (a : Nat → Nat) (σ : St) : (wM cy a σ)[0]? = some (a 0, .inr (12, [.int (σ.1 0), .int (σ.1 1), .int (σ.1 2), .int (σ.1 3), .ref (a 1), .int (σ.1 4), .ref (a 2), .ref (a 3), .ref (a 4), .int (σ.1 5), .ref (a 5), .ref (a 6), .ref (a 7), .int (σ.1 6), .int (σ.1 7), .ref (a 8), .ref (a 9), .ref (a 10), .int (σ.1 8), .ref (a 11), .ref (a 12), .ref (a 13), .ref (a 14), .ref (a 15), .ref (a 16), .int (σ.1 9), .ref (a 17), .ref (a 18), .ref (a 19), .ref (a 20), .int (σ.1 10), .ref (a 21), .ref (a 22), .ref (a 23), .int (σ.1 11), .ref (a 24), .ref (a 25), .ref (a 26), .ref (a 27), .ref (a 28), .int (σ.1 12), .ref (a 29), .int (σ.1 13), .int (σ.1 14), .int (σ.1 15), .int (σ.1 16), .long (σ.2.2 0), .int (σ.1 17), .int (σ.1 18), .ref (a 30), .ref (a 31), .ref (a 32), .ref (a 33), .ref (a 34), .ref (a 35), .ref (a 36), .ref (a 37), .ref (a 38), .ref (a 39), .int (σ.1 19)])) := rfl
theorem eM_1 (cy : Nat → ClassId) (a : Nat → Nat) (σ : St) : (wM cy a σ)[1]? = some (a 1, .inl (cy 1, 4, .inl (σ.2.1 1))) := rfl
theorem eM_2 (cy : Nat → ClassId) (a : Nat → Nat) (σ : St) : (wM cy a σ)[2]? = some (a 2, .inl (cy 1, 60, .inl (σ.2.1 2))) := rfl
theorem eM_3 (cy : Nat → ClassId) (a : Nat → Nat) (σ : St) : (wM cy a σ)[3]? = some (a 3, .inl (cy 1, 60, .inl (σ.2.1 3))) := rfl
theorem eM_4 (cy : Nat → ClassId) (a : Nat → Nat) (σ : St) : (wM cy a σ)[4]? = some (a 4, .inl (cy 1, 60, .inl (σ.2.1 4))) := rfl
theorem eM_5 (cy : Nat → ClassId) (a : Nat → Nat) (σ : St) : (wM cy a σ)[5]? = some (a 5, .inl (cy 1, 12, .inl (σ.2.1 5))) := rfl
theorem eM_6 (cy : Nat → ClassId) (a : Nat → Nat) (σ : St) : (wM cy a σ)[6]? = some (a 6, .inl (cy 1, 12, .inl (σ.2.1 6))) := rfl
theorem eM_7 (cy : Nat → ClassId) (a : Nat → Nat) (σ : St) : (wM cy a σ)[7]? = some (a 7, .inl (cy 1, 12, .inl (σ.2.1 7))) := rfl
theorem eM_8 (cy : Nat → ClassId) (a : Nat → Nat) (σ : St) : (wM cy a σ)[8]? = some (a 8, .inl (cy 1, 60, .inl (σ.2.1 8))) := rfl
theorem eM_9 (cy : Nat → ClassId) (a : Nat → Nat) (σ : St) : (wM cy a σ)[9]? = some (a 9, .inl (cy 1, 60, .inl (σ.2.1 9))) := rfl
theorem eM_10 (cy : Nat → ClassId) (a : Nat → Nat) (σ : St) : (wM cy a σ)[10]? = some (a 10, .inl (cy 1, 60, .inl (σ.2.1 10))) := rfl
theorem eM_11 (cy : Nat → ClassId) (a : Nat → Nat) (σ : St) : (wM cy a σ)[11]? = some (a 11, .inl (cy 1, 80, .inl (σ.2.1 11))) := rfl
theorem eM_12 (cy : Nat → ClassId) (a : Nat → Nat) (σ : St) : (wM cy a σ)[12]? = some (a 12, .inl (cy 1, 80, .inl (σ.2.1 12))) := rfl
theorem eM_13 (cy : Nat → ClassId) (a : Nat → Nat) (σ : St) : (wM cy a σ)[13]? = some (a 13, .inl (cy 1, 80, .inl (σ.2.1 13))) := rfl
theorem eM_14 (cy : Nat → ClassId) (a : Nat → Nat) (σ : St) : (wM cy a σ)[14]? = some (a 14, .inl (cy 1, 80, .inl (σ.2.1 14))) := rfl
theorem eM_15 (cy : Nat → ClassId) (a : Nat → Nat) (σ : St) : (wM cy a σ)[15]? = some (a 15, .inl (cy 1, 80, .inl (σ.2.1 15))) := rfl
theorem eM_16 (cy : Nat → ClassId) (a : Nat → Nat) (σ : St) : (wM cy a σ)[16]? = some (a 16, .inl (cy 1, 80, .inl (σ.2.1 16))) := rfl
theorem eM_17 (cy : Nat → ClassId) (a : Nat → Nat) (σ : St) : (wM cy a σ)[17]? = some (a 17, .inl (cy 1, 60, .inl (σ.2.1 17))) := rfl
theorem eM_18 (cy : Nat → ClassId) (a : Nat → Nat) (σ : St) : (wM cy a σ)[18]? = some (a 18, .inl (cy 1, 60, .inl (σ.2.1 18))) := rfl
theorem eM_19 (cy : Nat → ClassId) (a : Nat → Nat) (σ : St) : (wM cy a σ)[19]? = some (a 19, .inl (cy 1, 60, .inl (σ.2.1 19))) := rfl
theorem eM_20 (cy : Nat → ClassId) (a : Nat → Nat) (σ : St) : (wM cy a σ)[20]? = some (a 20, .inl (cy 1, 60, .inl (σ.2.1 20))) := rfl
theorem eM_21 (cy : Nat → ClassId) (a : Nat → Nat) (σ : St) : (wM cy a σ)[21]? = some (a 21, .inl (cy 1, 41, .inl (σ.2.1 21))) := rfl
theorem eM_22 (cy : Nat → ClassId) (a : Nat → Nat) (σ : St) : (wM cy a σ)[22]? = some (a 22, .inl (cy 1, 41, .inl (σ.2.1 22))) := rfl
theorem eM_23 (cy : Nat → ClassId) (a : Nat → Nat) (σ : St) : (wM cy a σ)[23]? = some (a 23, .inl (cy 1, 41, .inl (σ.2.1 23))) := rfl
theorem eM_24 (cy : Nat → ClassId) (a : Nat → Nat) (σ : St) : (wM cy a σ)[24]? = some (a 24, .inl (cy 1, 30, .inl (σ.2.1 24))) := rfl
theorem eM_25 (cy : Nat → ClassId) (a : Nat → Nat) (σ : St) : (wM cy a σ)[25]? = some (a 25, .inl (cy 1, 30, .inl (σ.2.1 25))) := rfl
theorem eM_26 (cy : Nat → ClassId) (a : Nat → Nat) (σ : St) : (wM cy a σ)[26]? = some (a 26, .inl (cy 1, 30, .inl (σ.2.1 26))) := rfl
theorem eM_27 (cy : Nat → ClassId) (a : Nat → Nat) (σ : St) : (wM cy a σ)[27]? = some (a 27, .inl (cy 1, 30, .inl (σ.2.1 27))) := rfl
theorem eM_28 (cy : Nat → ClassId) (a : Nat → Nat) (σ : St) : (wM cy a σ)[28]? = some (a 28, .inl (cy 1, 120, .inl (σ.2.1 28))) := rfl
theorem eM_29 (cy : Nat → ClassId) (a : Nat → Nat) (σ : St) : (wM cy a σ)[29]? = some (a 29, .inl (cy 1, 400, .inl (σ.2.1 29))) := rfl
theorem eM_30 (cy : Nat → ClassId) (a : Nat → Nat) (σ : St) : (wM cy a σ)[30]? = some (a 30, .inl (cy 1, 12, .inl (σ.2.1 30))) := rfl
theorem eM_31 (cy : Nat → ClassId) (a : Nat → Nat) (σ : St) : (wM cy a σ)[31]? = some (a 31, .inl (cy 1, 12, .inl (σ.2.1 31))) := rfl
theorem eM_32 (cy : Nat → ClassId) (a : Nat → Nat) (σ : St) : (wM cy a σ)[32]? = some (a 32, .inl (cy 1, 12, .inl (σ.2.1 32))) := rfl
theorem eM_33 (cy : Nat → ClassId) (a : Nat → Nat) (σ : St) : (wM cy a σ)[33]? = some (a 33, .inl (cy 1, 12, .inl (σ.2.1 33))) := rfl
theorem eM_34 (cy : Nat → ClassId) (a : Nat → Nat) (σ : St) : (wM cy a σ)[34]? = some (a 34, .inl (cy 1, 12, .inl (σ.2.1 34))) := rfl
theorem eM_35 (cy : Nat → ClassId) (a : Nat → Nat) (σ : St) : (wM cy a σ)[35]? = some (a 35, .inl (cy 1, 12, .inl (σ.2.1 35))) := rfl
theorem eM_36 (cy : Nat → ClassId) (a : Nat → Nat) (σ : St) : (wM cy a σ)[36]? = some (a 36, .inl (cy 1, 80, .inl (σ.2.1 36))) := rfl
theorem eM_37 (cy : Nat → ClassId) (a : Nat → Nat) (σ : St) : (wM cy a σ)[37]? = some (a 37, .inl (cy 1, 80, .inl (σ.2.1 37))) := rfl
theorem eM_38 (cy : Nat → ClassId) (a : Nat → Nat) (σ : St) : (wM cy a σ)[38]? = some (a 38, .inl (cy 1, 80, .inl (σ.2.1 38))) := rfl
theorem eM_39 (cy : Nat → ClassId) (a : Nat → Nat) (σ : St) : (wM cy a σ)[39]? = some (a 39, .inl (cy 1, 80, .inl (σ.2.1 39))) := rfl
theorem sM_0 (cy : Nat → ClassId) (a : Nat → Nat) (σ : St) (v : Int32) : (wM cy a σ).set 0 (a 0, .inr (12, [.int (σ.1 0), .int (σ.1 1), .int (σ.1 2), .int (σ.1 3), .ref (a 1), .int (σ.1 4), .ref (a 2), .ref (a 3), .ref (a 4), .int (σ.1 5), .ref (a 5), .ref (a 6), .ref (a 7), .int (σ.1 6), .int (σ.1 7), .ref (a 8), .ref (a 9), .ref (a 10), .int (σ.1 8), .ref (a 11), .ref (a 12), .ref (a 13), .ref (a 14), .ref (a 15), .ref (a 16), .int (σ.1 9), .ref (a 17), .ref (a 18), .ref (a 19), .ref (a 20), .int (σ.1 10), .ref (a 21), .ref (a 22), .ref (a 23), .int (σ.1 11), .ref (a 24), .ref (a 25), .ref (a 26), .ref (a 27), .ref (a 28), .int (σ.1 12), .ref (a 29), .int (σ.1 13), .int (σ.1 14), .int (σ.1 15), .int (σ.1 16), .long (σ.2.2 0), .int (σ.1 17), .int (σ.1 18), .ref (a 30), .ref (a 31), .ref (a 32), .ref (a 33), .ref (a 34), .ref (a 35), .ref (a 36), .ref (a 37), .ref (a 38), .ref (a 39), .int (σ.1 19)].set 0 (.int v))) = wM cy a (fF σ 0 v) := rfl
theorem sM_1 (cy : Nat → ClassId) (a : Nat → Nat) (σ : St) (v : Int32) : (wM cy a σ).set 0 (a 0, .inr (12, [.int (σ.1 0), .int (σ.1 1), .int (σ.1 2), .int (σ.1 3), .ref (a 1), .int (σ.1 4), .ref (a 2), .ref (a 3), .ref (a 4), .int (σ.1 5), .ref (a 5), .ref (a 6), .ref (a 7), .int (σ.1 6), .int (σ.1 7), .ref (a 8), .ref (a 9), .ref (a 10), .int (σ.1 8), .ref (a 11), .ref (a 12), .ref (a 13), .ref (a 14), .ref (a 15), .ref (a 16), .int (σ.1 9), .ref (a 17), .ref (a 18), .ref (a 19), .ref (a 20), .int (σ.1 10), .ref (a 21), .ref (a 22), .ref (a 23), .int (σ.1 11), .ref (a 24), .ref (a 25), .ref (a 26), .ref (a 27), .ref (a 28), .int (σ.1 12), .ref (a 29), .int (σ.1 13), .int (σ.1 14), .int (σ.1 15), .int (σ.1 16), .long (σ.2.2 0), .int (σ.1 17), .int (σ.1 18), .ref (a 30), .ref (a 31), .ref (a 32), .ref (a 33), .ref (a 34), .ref (a 35), .ref (a 36), .ref (a 37), .ref (a 38), .ref (a 39), .int (σ.1 19)].set 1 (.int v))) = wM cy a (fF σ 1 v) := rfl
theorem sM_2 (cy : Nat → ClassId) (a : Nat → Nat) (σ : St) (v : Int32) : (wM cy a σ).set 0 (a 0, .inr (12, [.int (σ.1 0), .int (σ.1 1), .int (σ.1 2), .int (σ.1 3), .ref (a 1), .int (σ.1 4), .ref (a 2), .ref (a 3), .ref (a 4), .int (σ.1 5), .ref (a 5), .ref (a 6), .ref (a 7), .int (σ.1 6), .int (σ.1 7), .ref (a 8), .ref (a 9), .ref (a 10), .int (σ.1 8), .ref (a 11), .ref (a 12), .ref (a 13), .ref (a 14), .ref (a 15), .ref (a 16), .int (σ.1 9), .ref (a 17), .ref (a 18), .ref (a 19), .ref (a 20), .int (σ.1 10), .ref (a 21), .ref (a 22), .ref (a 23), .int (σ.1 11), .ref (a 24), .ref (a 25), .ref (a 26), .ref (a 27), .ref (a 28), .int (σ.1 12), .ref (a 29), .int (σ.1 13), .int (σ.1 14), .int (σ.1 15), .int (σ.1 16), .long (σ.2.2 0), .int (σ.1 17), .int (σ.1 18), .ref (a 30), .ref (a 31), .ref (a 32), .ref (a 33), .ref (a 34), .ref (a 35), .ref (a 36), .ref (a 37), .ref (a 38), .ref (a 39), .int (σ.1 19)].set 2 (.int v))) = wM cy a (fF σ 2 v) := rfl
theorem sM_3 (cy : Nat → ClassId) (a : Nat → Nat) (σ : St) (v : Int32) : (wM cy a σ).set 0 (a 0, .inr (12, [.int (σ.1 0), .int (σ.1 1), .int (σ.1 2), .int (σ.1 3), .ref (a 1), .int (σ.1 4), .ref (a 2), .ref (a 3), .ref (a 4), .int (σ.1 5), .ref (a 5), .ref (a 6), .ref (a 7), .int (σ.1 6), .int (σ.1 7), .ref (a 8), .ref (a 9), .ref (a 10), .int (σ.1 8), .ref (a 11), .ref (a 12), .ref (a 13), .ref (a 14), .ref (a 15), .ref (a 16), .int (σ.1 9), .ref (a 17), .ref (a 18), .ref (a 19), .ref (a 20), .int (σ.1 10), .ref (a 21), .ref (a 22), .ref (a 23), .int (σ.1 11), .ref (a 24), .ref (a 25), .ref (a 26), .ref (a 27), .ref (a 28), .int (σ.1 12), .ref (a 29), .int (σ.1 13), .int (σ.1 14), .int (σ.1 15), .int (σ.1 16), .long (σ.2.2 0), .int (σ.1 17), .int (σ.1 18), .ref (a 30), .ref (a 31), .ref (a 32), .ref (a 33), .ref (a 34), .ref (a 35), .ref (a 36), .ref (a 37), .ref (a 38), .ref (a 39), .int (σ.1 19)].set 3 (.int v))) = wM cy a (fF σ 3 v) := rfl
theorem sM_4 (cy : Nat → ClassId) (a : Nat → Nat) (σ : St) (v : Int32) : (wM cy a σ).set 0 (a 0, .inr (12, [.int (σ.1 0), .int (σ.1 1), .int (σ.1 2), .int (σ.1 3), .ref (a 1), .int (σ.1 4), .ref (a 2), .ref (a 3), .ref (a 4), .int (σ.1 5), .ref (a 5), .ref (a 6), .ref (a 7), .int (σ.1 6), .int (σ.1 7), .ref (a 8), .ref (a 9), .ref (a 10), .int (σ.1 8), .ref (a 11), .ref (a 12), .ref (a 13), .ref (a 14), .ref (a 15), .ref (a 16), .int (σ.1 9), .ref (a 17), .ref (a 18), .ref (a 19), .ref (a 20), .int (σ.1 10), .ref (a 21), .ref (a 22), .ref (a 23), .int (σ.1 11), .ref (a 24), .ref (a 25), .ref (a 26), .ref (a 27), .ref (a 28), .int (σ.1 12), .ref (a 29), .int (σ.1 13), .int (σ.1 14), .int (σ.1 15), .int (σ.1 16), .long (σ.2.2 0), .int (σ.1 17), .int (σ.1 18), .ref (a 30), .ref (a 31), .ref (a 32), .ref (a 33), .ref (a 34), .ref (a 35), .ref (a 36), .ref (a 37), .ref (a 38), .ref (a 39), .int (σ.1 19)].set 5 (.int v))) = wM cy a (fF σ 4 v) := rfl
theorem sM_5 (cy : Nat → ClassId) (a : Nat → Nat) (σ : St) (v : Int32) : (wM cy a σ).set 0 (a 0, .inr (12, [.int (σ.1 0), .int (σ.1 1), .int (σ.1 2), .int (σ.1 3), .ref (a 1), .int (σ.1 4), .ref (a 2), .ref (a 3), .ref (a 4), .int (σ.1 5), .ref (a 5), .ref (a 6), .ref (a 7), .int (σ.1 6), .int (σ.1 7), .ref (a 8), .ref (a 9), .ref (a 10), .int (σ.1 8), .ref (a 11), .ref (a 12), .ref (a 13), .ref (a 14), .ref (a 15), .ref (a 16), .int (σ.1 9), .ref (a 17), .ref (a 18), .ref (a 19), .ref (a 20), .int (σ.1 10), .ref (a 21), .ref (a 22), .ref (a 23), .int (σ.1 11), .ref (a 24), .ref (a 25), .ref (a 26), .ref (a 27), .ref (a 28), .int (σ.1 12), .ref (a 29), .int (σ.1 13), .int (σ.1 14), .int (σ.1 15), .int (σ.1 16), .long (σ.2.2 0), .int (σ.1 17), .int (σ.1 18), .ref (a 30), .ref (a 31), .ref (a 32), .ref (a 33), .ref (a 34), .ref (a 35), .ref (a 36), .ref (a 37), .ref (a 38), .ref (a 39), .int (σ.1 19)].set 9 (.int v))) = wM cy a (fF σ 5 v) := rfl
theorem sM_6 (cy : Nat → ClassId) (a : Nat → Nat) (σ : St) (v : Int32) : (wM cy a σ).set 0 (a 0, .inr (12, [.int (σ.1 0), .int (σ.1 1), .int (σ.1 2), .int (σ.1 3), .ref (a 1), .int (σ.1 4), .ref (a 2), .ref (a 3), .ref (a 4), .int (σ.1 5), .ref (a 5), .ref (a 6), .ref (a 7), .int (σ.1 6), .int (σ.1 7), .ref (a 8), .ref (a 9), .ref (a 10), .int (σ.1 8), .ref (a 11), .ref (a 12), .ref (a 13), .ref (a 14), .ref (a 15), .ref (a 16), .int (σ.1 9), .ref (a 17), .ref (a 18), .ref (a 19), .ref (a 20), .int (σ.1 10), .ref (a 21), .ref (a 22), .ref (a 23), .int (σ.1 11), .ref (a 24), .ref (a 25), .ref (a 26), .ref (a 27), .ref (a 28), .int (σ.1 12), .ref (a 29), .int (σ.1 13), .int (σ.1 14), .int (σ.1 15), .int (σ.1 16), .long (σ.2.2 0), .int (σ.1 17), .int (σ.1 18), .ref (a 30), .ref (a 31), .ref (a 32), .ref (a 33), .ref (a 34), .ref (a 35), .ref (a 36), .ref (a 37), .ref (a 38), .ref (a 39), .int (σ.1 19)].set 13 (.int v))) = wM cy a (fF σ 6 v) := rfl
theorem sM_7 (cy : Nat → ClassId) (a : Nat → Nat) (σ : St) (v : Int32) : (wM cy a σ).set 0 (a 0, .inr (12, [.int (σ.1 0), .int (σ.1 1), .int (σ.1 2), .int (σ.1 3), .ref (a 1), .int (σ.1 4), .ref (a 2), .ref (a 3), .ref (a 4), .int (σ.1 5), .ref (a 5), .ref (a 6), .ref (a 7), .int (σ.1 6), .int (σ.1 7), .ref (a 8), .ref (a 9), .ref (a 10), .int (σ.1 8), .ref (a 11), .ref (a 12), .ref (a 13), .ref (a 14), .ref (a 15), .ref (a 16), .int (σ.1 9), .ref (a 17), .ref (a 18), .ref (a 19), .ref (a 20), .int (σ.1 10), .ref (a 21), .ref (a 22), .ref (a 23), .int (σ.1 11), .ref (a 24), .ref (a 25), .ref (a 26), .ref (a 27), .ref (a 28), .int (σ.1 12), .ref (a 29), .int (σ.1 13), .int (σ.1 14), .int (σ.1 15), .int (σ.1 16), .long (σ.2.2 0), .int (σ.1 17), .int (σ.1 18), .ref (a 30), .ref (a 31), .ref (a 32), .ref (a 33), .ref (a 34), .ref (a 35), .ref (a 36), .ref (a 37), .ref (a 38), .ref (a 39), .int (σ.1 19)].set 14 (.int v))) = wM cy a (fF σ 7 v) := rfl
theorem sM_8 (cy : Nat → ClassId) (a : Nat → Nat) (σ : St) (v : Int32) : (wM cy a σ).set 0 (a 0, .inr (12, [.int (σ.1 0), .int (σ.1 1), .int (σ.1 2), .int (σ.1 3), .ref (a 1), .int (σ.1 4), .ref (a 2), .ref (a 3), .ref (a 4), .int (σ.1 5), .ref (a 5), .ref (a 6), .ref (a 7), .int (σ.1 6), .int (σ.1 7), .ref (a 8), .ref (a 9), .ref (a 10), .int (σ.1 8), .ref (a 11), .ref (a 12), .ref (a 13), .ref (a 14), .ref (a 15), .ref (a 16), .int (σ.1 9), .ref (a 17), .ref (a 18), .ref (a 19), .ref (a 20), .int (σ.1 10), .ref (a 21), .ref (a 22), .ref (a 23), .int (σ.1 11), .ref (a 24), .ref (a 25), .ref (a 26), .ref (a 27), .ref (a 28), .int (σ.1 12), .ref (a 29), .int (σ.1 13), .int (σ.1 14), .int (σ.1 15), .int (σ.1 16), .long (σ.2.2 0), .int (σ.1 17), .int (σ.1 18), .ref (a 30), .ref (a 31), .ref (a 32), .ref (a 33), .ref (a 34), .ref (a 35), .ref (a 36), .ref (a 37), .ref (a 38), .ref (a 39), .int (σ.1 19)].set 18 (.int v))) = wM cy a (fF σ 8 v) := rfl
theorem sM_9 (cy : Nat → ClassId) (a : Nat → Nat) (σ : St) (v : Int32) : (wM cy a σ).set 0 (a 0, .inr (12, [.int (σ.1 0), .int (σ.1 1), .int (σ.1 2), .int (σ.1 3), .ref (a 1), .int (σ.1 4), .ref (a 2), .ref (a 3), .ref (a 4), .int (σ.1 5), .ref (a 5), .ref (a 6), .ref (a 7), .int (σ.1 6), .int (σ.1 7), .ref (a 8), .ref (a 9), .ref (a 10), .int (σ.1 8), .ref (a 11), .ref (a 12), .ref (a 13), .ref (a 14), .ref (a 15), .ref (a 16), .int (σ.1 9), .ref (a 17), .ref (a 18), .ref (a 19), .ref (a 20), .int (σ.1 10), .ref (a 21), .ref (a 22), .ref (a 23), .int (σ.1 11), .ref (a 24), .ref (a 25), .ref (a 26), .ref (a 27), .ref (a 28), .int (σ.1 12), .ref (a 29), .int (σ.1 13), .int (σ.1 14), .int (σ.1 15), .int (σ.1 16), .long (σ.2.2 0), .int (σ.1 17), .int (σ.1 18), .ref (a 30), .ref (a 31), .ref (a 32), .ref (a 33), .ref (a 34), .ref (a 35), .ref (a 36), .ref (a 37), .ref (a 38), .ref (a 39), .int (σ.1 19)].set 25 (.int v))) = wM cy a (fF σ 9 v) := rfl
theorem sM_10 (cy : Nat → ClassId) (a : Nat → Nat) (σ : St) (v : Int32) : (wM cy a σ).set 0 (a 0, .inr (12, [.int (σ.1 0), .int (σ.1 1), .int (σ.1 2), .int (σ.1 3), .ref (a 1), .int (σ.1 4), .ref (a 2), .ref (a 3), .ref (a 4), .int (σ.1 5), .ref (a 5), .ref (a 6), .ref (a 7), .int (σ.1 6), .int (σ.1 7), .ref (a 8), .ref (a 9), .ref (a 10), .int (σ.1 8), .ref (a 11), .ref (a 12), .ref (a 13), .ref (a 14), .ref (a 15), .ref (a 16), .int (σ.1 9), .ref (a 17), .ref (a 18), .ref (a 19), .ref (a 20), .int (σ.1 10), .ref (a 21), .ref (a 22), .ref (a 23), .int (σ.1 11), .ref (a 24), .ref (a 25), .ref (a 26), .ref (a 27), .ref (a 28), .int (σ.1 12), .ref (a 29), .int (σ.1 13), .int (σ.1 14), .int (σ.1 15), .int (σ.1 16), .long (σ.2.2 0), .int (σ.1 17), .int (σ.1 18), .ref (a 30), .ref (a 31), .ref (a 32), .ref (a 33), .ref (a 34), .ref (a 35), .ref (a 36), .ref (a 37), .ref (a 38), .ref (a 39), .int (σ.1 19)].set 30 (.int v))) = wM cy a (fF σ 10 v) := rfl
theorem sM_11 (cy : Nat → ClassId) (a : Nat → Nat) (σ : St) (v : Int32) : (wM cy a σ).set 0 (a 0, .inr (12, [.int (σ.1 0), .int (σ.1 1), .int (σ.1 2), .int (σ.1 3), .ref (a 1), .int (σ.1 4), .ref (a 2), .ref (a 3), .ref (a 4), .int (σ.1 5), .ref (a 5), .ref (a 6), .ref (a 7), .int (σ.1 6), .int (σ.1 7), .ref (a 8), .ref (a 9), .ref (a 10), .int (σ.1 8), .ref (a 11), .ref (a 12), .ref (a 13), .ref (a 14), .ref (a 15), .ref (a 16), .int (σ.1 9), .ref (a 17), .ref (a 18), .ref (a 19), .ref (a 20), .int (σ.1 10), .ref (a 21), .ref (a 22), .ref (a 23), .int (σ.1 11), .ref (a 24), .ref (a 25), .ref (a 26), .ref (a 27), .ref (a 28), .int (σ.1 12), .ref (a 29), .int (σ.1 13), .int (σ.1 14), .int (σ.1 15), .int (σ.1 16), .long (σ.2.2 0), .int (σ.1 17), .int (σ.1 18), .ref (a 30), .ref (a 31), .ref (a 32), .ref (a 33), .ref (a 34), .ref (a 35), .ref (a 36), .ref (a 37), .ref (a 38), .ref (a 39), .int (σ.1 19)].set 34 (.int v))) = wM cy a (fF σ 11 v) := rfl
theorem sM_12 (cy : Nat → ClassId) (a : Nat → Nat) (σ : St) (v : Int32) : (wM cy a σ).set 0 (a 0, .inr (12, [.int (σ.1 0), .int (σ.1 1), .int (σ.1 2), .int (σ.1 3), .ref (a 1), .int (σ.1 4), .ref (a 2), .ref (a 3), .ref (a 4), .int (σ.1 5), .ref (a 5), .ref (a 6), .ref (a 7), .int (σ.1 6), .int (σ.1 7), .ref (a 8), .ref (a 9), .ref (a 10), .int (σ.1 8), .ref (a 11), .ref (a 12), .ref (a 13), .ref (a 14), .ref (a 15), .ref (a 16), .int (σ.1 9), .ref (a 17), .ref (a 18), .ref (a 19), .ref (a 20), .int (σ.1 10), .ref (a 21), .ref (a 22), .ref (a 23), .int (σ.1 11), .ref (a 24), .ref (a 25), .ref (a 26), .ref (a 27), .ref (a 28), .int (σ.1 12), .ref (a 29), .int (σ.1 13), .int (σ.1 14), .int (σ.1 15), .int (σ.1 16), .long (σ.2.2 0), .int (σ.1 17), .int (σ.1 18), .ref (a 30), .ref (a 31), .ref (a 32), .ref (a 33), .ref (a 34), .ref (a 35), .ref (a 36), .ref (a 37), .ref (a 38), .ref (a 39), .int (σ.1 19)].set 40 (.int v))) = wM cy a (fF σ 12 v) := rfl
theorem sM_13 (cy : Nat → ClassId) (a : Nat → Nat) (σ : St) (v : Int32) : (wM cy a σ).set 0 (a 0, .inr (12, [.int (σ.1 0), .int (σ.1 1), .int (σ.1 2), .int (σ.1 3), .ref (a 1), .int (σ.1 4), .ref (a 2), .ref (a 3), .ref (a 4), .int (σ.1 5), .ref (a 5), .ref (a 6), .ref (a 7), .int (σ.1 6), .int (σ.1 7), .ref (a 8), .ref (a 9), .ref (a 10), .int (σ.1 8), .ref (a 11), .ref (a 12), .ref (a 13), .ref (a 14), .ref (a 15), .ref (a 16), .int (σ.1 9), .ref (a 17), .ref (a 18), .ref (a 19), .ref (a 20), .int (σ.1 10), .ref (a 21), .ref (a 22), .ref (a 23), .int (σ.1 11), .ref (a 24), .ref (a 25), .ref (a 26), .ref (a 27), .ref (a 28), .int (σ.1 12), .ref (a 29), .int (σ.1 13), .int (σ.1 14), .int (σ.1 15), .int (σ.1 16), .long (σ.2.2 0), .int (σ.1 17), .int (σ.1 18), .ref (a 30), .ref (a 31), .ref (a 32), .ref (a 33), .ref (a 34), .ref (a 35), .ref (a 36), .ref (a 37), .ref (a 38), .ref (a 39), .int (σ.1 19)].set 42 (.int v))) = wM cy a (fF σ 13 v) := rfl
theorem sM_14 (cy : Nat → ClassId) (a : Nat → Nat) (σ : St) (v : Int32) : (wM cy a σ).set 0 (a 0, .inr (12, [.int (σ.1 0), .int (σ.1 1), .int (σ.1 2), .int (σ.1 3), .ref (a 1), .int (σ.1 4), .ref (a 2), .ref (a 3), .ref (a 4), .int (σ.1 5), .ref (a 5), .ref (a 6), .ref (a 7), .int (σ.1 6), .int (σ.1 7), .ref (a 8), .ref (a 9), .ref (a 10), .int (σ.1 8), .ref (a 11), .ref (a 12), .ref (a 13), .ref (a 14), .ref (a 15), .ref (a 16), .int (σ.1 9), .ref (a 17), .ref (a 18), .ref (a 19), .ref (a 20), .int (σ.1 10), .ref (a 21), .ref (a 22), .ref (a 23), .int (σ.1 11), .ref (a 24), .ref (a 25), .ref (a 26), .ref (a 27), .ref (a 28), .int (σ.1 12), .ref (a 29), .int (σ.1 13), .int (σ.1 14), .int (σ.1 15), .int (σ.1 16), .long (σ.2.2 0), .int (σ.1 17), .int (σ.1 18), .ref (a 30), .ref (a 31), .ref (a 32), .ref (a 33), .ref (a 34), .ref (a 35), .ref (a 36), .ref (a 37), .ref (a 38), .ref (a 39), .int (σ.1 19)].set 43 (.int v))) = wM cy a (fF σ 14 v) := rfl
theorem sM_15 (cy : Nat → ClassId) (a : Nat → Nat) (σ : St) (v : Int32) : (wM cy a σ).set 0 (a 0, .inr (12, [.int (σ.1 0), .int (σ.1 1), .int (σ.1 2), .int (σ.1 3), .ref (a 1), .int (σ.1 4), .ref (a 2), .ref (a 3), .ref (a 4), .int (σ.1 5), .ref (a 5), .ref (a 6), .ref (a 7), .int (σ.1 6), .int (σ.1 7), .ref (a 8), .ref (a 9), .ref (a 10), .int (σ.1 8), .ref (a 11), .ref (a 12), .ref (a 13), .ref (a 14), .ref (a 15), .ref (a 16), .int (σ.1 9), .ref (a 17), .ref (a 18), .ref (a 19), .ref (a 20), .int (σ.1 10), .ref (a 21), .ref (a 22), .ref (a 23), .int (σ.1 11), .ref (a 24), .ref (a 25), .ref (a 26), .ref (a 27), .ref (a 28), .int (σ.1 12), .ref (a 29), .int (σ.1 13), .int (σ.1 14), .int (σ.1 15), .int (σ.1 16), .long (σ.2.2 0), .int (σ.1 17), .int (σ.1 18), .ref (a 30), .ref (a 31), .ref (a 32), .ref (a 33), .ref (a 34), .ref (a 35), .ref (a 36), .ref (a 37), .ref (a 38), .ref (a 39), .int (σ.1 19)].set 44 (.int v))) = wM cy a (fF σ 15 v) := rfl
theorem sM_16 (cy : Nat → ClassId) (a : Nat → Nat) (σ : St) (v : Int32) : (wM cy a σ).set 0 (a 0, .inr (12, [.int (σ.1 0), .int (σ.1 1), .int (σ.1 2), .int (σ.1 3), .ref (a 1), .int (σ.1 4), .ref (a 2), .ref (a 3), .ref (a 4), .int (σ.1 5), .ref (a 5), .ref (a 6), .ref (a 7), .int (σ.1 6), .int (σ.1 7), .ref (a 8), .ref (a 9), .ref (a 10), .int (σ.1 8), .ref (a 11), .ref (a 12), .ref (a 13), .ref (a 14), .ref (a 15), .ref (a 16), .int (σ.1 9), .ref (a 17), .ref (a 18), .ref (a 19), .ref (a 20), .int (σ.1 10), .ref (a 21), .ref (a 22), .ref (a 23), .int (σ.1 11), .ref (a 24), .ref (a 25), .ref (a 26), .ref (a 27), .ref (a 28), .int (σ.1 12), .ref (a 29), .int (σ.1 13), .int (σ.1 14), .int (σ.1 15), .int (σ.1 16), .long (σ.2.2 0), .int (σ.1 17), .int (σ.1 18), .ref (a 30), .ref (a 31), .ref (a 32), .ref (a 33), .ref (a 34), .ref (a 35), .ref (a 36), .ref (a 37), .ref (a 38), .ref (a 39), .int (σ.1 19)].set 45 (.int v))) = wM cy a (fF σ 16 v) := rfl
theorem sML_0 (cy : Nat → ClassId) (a : Nat → Nat) (σ : St) (v : Int64) : (wM cy a σ).set 0 (a 0, .inr (12, [.int (σ.1 0), .int (σ.1 1), .int (σ.1 2), .int (σ.1 3), .ref (a 1), .int (σ.1 4), .ref (a 2), .ref (a 3), .ref (a 4), .int (σ.1 5), .ref (a 5), .ref (a 6), .ref (a 7), .int (σ.1 6), .int (σ.1 7), .ref (a 8), .ref (a 9), .ref (a 10), .int (σ.1 8), .ref (a 11), .ref (a 12), .ref (a 13), .ref (a 14), .ref (a 15), .ref (a 16), .int (σ.1 9), .ref (a 17), .ref (a 18), .ref (a 19), .ref (a 20), .int (σ.1 10), .ref (a 21), .ref (a 22), .ref (a 23), .int (σ.1 11), .ref (a 24), .ref (a 25), .ref (a 26), .ref (a 27), .ref (a 28), .int (σ.1 12), .ref (a 29), .int (σ.1 13), .int (σ.1 14), .int (σ.1 15), .int (σ.1 16), .long (σ.2.2 0), .int (σ.1 17), .int (σ.1 18), .ref (a 30), .ref (a 31), .ref (a 32), .ref (a 33), .ref (a 34), .ref (a 35), .ref (a 36), .ref (a 37), .ref (a 38), .ref (a 39), .int (σ.1 19)].set 46 (.long v))) = wM cy a (fL σ 0 v) := rfl
theorem sM_17 (cy : Nat → ClassId) (a : Nat → Nat) (σ : St) (v : Int32) : (wM cy a σ).set 0 (a 0, .inr (12, [.int (σ.1 0), .int (σ.1 1), .int (σ.1 2), .int (σ.1 3), .ref (a 1), .int (σ.1 4), .ref (a 2), .ref (a 3), .ref (a 4), .int (σ.1 5), .ref (a 5), .ref (a 6), .ref (a 7), .int (σ.1 6), .int (σ.1 7), .ref (a 8), .ref (a 9), .ref (a 10), .int (σ.1 8), .ref (a 11), .ref (a 12), .ref (a 13), .ref (a 14), .ref (a 15), .ref (a 16), .int (σ.1 9), .ref (a 17), .ref (a 18), .ref (a 19), .ref (a 20), .int (σ.1 10), .ref (a 21), .ref (a 22), .ref (a 23), .int (σ.1 11), .ref (a 24), .ref (a 25), .ref (a 26), .ref (a 27), .ref (a 28), .int (σ.1 12), .ref (a 29), .int (σ.1 13), .int (σ.1 14), .int (σ.1 15), .int (σ.1 16), .long (σ.2.2 0), .int (σ.1 17), .int (σ.1 18), .ref (a 30), .ref (a 31), .ref (a 32), .ref (a 33), .ref (a 34), .ref (a 35), .ref (a 36), .ref (a 37), .ref (a 38), .ref (a 39), .int (σ.1 19)].set 47 (.int v))) = wM cy a (fF σ 17 v) := rfl
theorem sM_18 (cy : Nat → ClassId) (a : Nat → Nat) (σ : St) (v : Int32) : (wM cy a σ).set 0 (a 0, .inr (12, [.int (σ.1 0), .int (σ.1 1), .int (σ.1 2), .int (σ.1 3), .ref (a 1), .int (σ.1 4), .ref (a 2), .ref (a 3), .ref (a 4), .int (σ.1 5), .ref (a 5), .ref (a 6), .ref (a 7), .int (σ.1 6), .int (σ.1 7), .ref (a 8), .ref (a 9), .ref (a 10), .int (σ.1 8), .ref (a 11), .ref (a 12), .ref (a 13), .ref (a 14), .ref (a 15), .ref (a 16), .int (σ.1 9), .ref (a 17), .ref (a 18), .ref (a 19), .ref (a 20), .int (σ.1 10), .ref (a 21), .ref (a 22), .ref (a 23), .int (σ.1 11), .ref (a 24), .ref (a 25), .ref (a 26), .ref (a 27), .ref (a 28), .int (σ.1 12), .ref (a 29), .int (σ.1 13), .int (σ.1 14), .int (σ.1 15), .int (σ.1 16), .long (σ.2.2 0), .int (σ.1 17), .int (σ.1 18), .ref (a 30), .ref (a 31), .ref (a 32), .ref (a 33), .ref (a 34), .ref (a 35), .ref (a 36), .ref (a 37), .ref (a 38), .ref (a 39), .int (σ.1 19)].set 48 (.int v))) = wM cy a (fF σ 18 v) := rfl
theorem sM_19 (cy : Nat → ClassId) (a : Nat → Nat) (σ : St) (v : Int32) : (wM cy a σ).set 0 (a 0, .inr (12, [.int (σ.1 0), .int (σ.1 1), .int (σ.1 2), .int (σ.1 3), .ref (a 1), .int (σ.1 4), .ref (a 2), .ref (a 3), .ref (a 4), .int (σ.1 5), .ref (a 5), .ref (a 6), .ref (a 7), .int (σ.1 6), .int (σ.1 7), .ref (a 8), .ref (a 9), .ref (a 10), .int (σ.1 8), .ref (a 11), .ref (a 12), .ref (a 13), .ref (a 14), .ref (a 15), .ref (a 16), .int (σ.1 9), .ref (a 17), .ref (a 18), .ref (a 19), .ref (a 20), .int (σ.1 10), .ref (a 21), .ref (a 22), .ref (a 23), .int (σ.1 11), .ref (a 24), .ref (a 25), .ref (a 26), .ref (a 27), .ref (a 28), .int (σ.1 12), .ref (a 29), .int (σ.1 13), .int (σ.1 14), .int (σ.1 15), .int (σ.1 16), .long (σ.2.2 0), .int (σ.1 17), .int (σ.1 18), .ref (a 30), .ref (a 31), .ref (a 32), .ref (a 33), .ref (a 34), .ref (a 35), .ref (a 36), .ref (a 37), .ref (a 38), .ref (a 39), .int (σ.1 19)].set 59 (.int v))) = wM cy a (fF σ 19 v) := rfl
theorem qM_1 (cy : Nat → ClassId) (a : Nat → Nat) (σ : St) (f : Nat → Int32) : (wM cy a σ).set 1 (a 1, .inl (cy 1, 4, .inl f)) = wM cy a (fR σ 1 f) := rfl
theorem qM_2 (cy : Nat → ClassId) (a : Nat → Nat) (σ : St) (f : Nat → Int32) : (wM cy a σ).set 2 (a 2, .inl (cy 1, 60, .inl f)) = wM cy a (fR σ 2 f) := rfl
theorem qM_3 (cy : Nat → ClassId) (a : Nat → Nat) (σ : St) (f : Nat → Int32) : (wM cy a σ).set 3 (a 3, .inl (cy 1, 60, .inl f)) = wM cy a (fR σ 3 f) := rfl
theorem qM_4 (cy : Nat → ClassId) (a : Nat → Nat) (σ : St) (f : Nat → Int32) : (wM cy a σ).set 4 (a 4, .inl (cy 1, 60, .inl f)) = wM cy a (fR σ 4 f) := rfl
theorem qM_5 (cy : Nat → ClassId) (a : Nat → Nat) (σ : St) (f : Nat → Int32) : (wM cy a σ).set 5 (a 5, .inl (cy 1, 12, .inl f)) = wM cy a (fR σ 5 f) := rfl
theorem qM_6 (cy : Nat → ClassId) (a : Nat → Nat) (σ : St) (f : Nat → Int32) : (wM cy a σ).set 6 (a 6, .inl (cy 1, 12, .inl f)) = wM cy a (fR σ 6 f) := rfl
theorem qM_7 (cy : Nat → ClassId) (a : Nat → Nat) (σ : St) (f : Nat → Int32) : (wM cy a σ).set 7 (a 7, .inl (cy 1, 12, .inl f)) = wM cy a (fR σ 7 f) := rfl
theorem qM_8 (cy : Nat → ClassId) (a : Nat → Nat) (σ : St) (f : Nat → Int32) : (wM cy a σ).set 8 (a 8, .inl (cy 1, 60, .inl f)) = wM cy a (fR σ 8 f) := rfl
theorem qM_9 (cy : Nat → ClassId) (a : Nat → Nat) (σ : St) (f : Nat → Int32) : (wM cy a σ).set 9 (a 9, .inl (cy 1, 60, .inl f)) = wM cy a (fR σ 9 f) := rfl
theorem qM_10 (cy : Nat → ClassId) (a : Nat → Nat) (σ : St) (f : Nat → Int32) : (wM cy a σ).set 10 (a 10, .inl (cy 1, 60, .inl f)) = wM cy a (fR σ 10 f) := rfl
theorem qM_11 (cy : Nat → ClassId) (a : Nat → Nat) (σ : St) (f : Nat → Int32) : (wM cy a σ).set 11 (a 11, .inl (cy 1, 80, .inl f)) = wM cy a (fR σ 11 f) := rfl
theorem qM_12 (cy : Nat → ClassId) (a : Nat → Nat) (σ : St) (f : Nat → Int32) : (wM cy a σ).set 12 (a 12, .inl (cy 1, 80, .inl f)) = wM cy a (fR σ 12 f) := rfl
theorem qM_13 (cy : Nat → ClassId) (a : Nat → Nat) (σ : St) (f : Nat → Int32) : (wM cy a σ).set 13 (a 13, .inl (cy 1, 80, .inl f)) = wM cy a (fR σ 13 f) := rfl
theorem qM_14 (cy : Nat → ClassId) (a : Nat → Nat) (σ : St) (f : Nat → Int32) : (wM cy a σ).set 14 (a 14, .inl (cy 1, 80, .inl f)) = wM cy a (fR σ 14 f) := rfl
theorem qM_15 (cy : Nat → ClassId) (a : Nat → Nat) (σ : St) (f : Nat → Int32) : (wM cy a σ).set 15 (a 15, .inl (cy 1, 80, .inl f)) = wM cy a (fR σ 15 f) := rfl
theorem qM_16 (cy : Nat → ClassId) (a : Nat → Nat) (σ : St) (f : Nat → Int32) : (wM cy a σ).set 16 (a 16, .inl (cy 1, 80, .inl f)) = wM cy a (fR σ 16 f) := rfl
theorem qM_17 (cy : Nat → ClassId) (a : Nat → Nat) (σ : St) (f : Nat → Int32) : (wM cy a σ).set 17 (a 17, .inl (cy 1, 60, .inl f)) = wM cy a (fR σ 17 f) := rfl
theorem qM_18 (cy : Nat → ClassId) (a : Nat → Nat) (σ : St) (f : Nat → Int32) : (wM cy a σ).set 18 (a 18, .inl (cy 1, 60, .inl f)) = wM cy a (fR σ 18 f) := rfl
theorem qM_19 (cy : Nat → ClassId) (a : Nat → Nat) (σ : St) (f : Nat → Int32) : (wM cy a σ).set 19 (a 19, .inl (cy 1, 60, .inl f)) = wM cy a (fR σ 19 f) := rfl
theorem qM_20 (cy : Nat → ClassId) (a : Nat → Nat) (σ : St) (f : Nat → Int32) : (wM cy a σ).set 20 (a 20, .inl (cy 1, 60, .inl f)) = wM cy a (fR σ 20 f) := rfl
theorem qM_21 (cy : Nat → ClassId) (a : Nat → Nat) (σ : St) (f : Nat → Int32) : (wM cy a σ).set 21 (a 21, .inl (cy 1, 41, .inl f)) = wM cy a (fR σ 21 f) := rfl
theorem qM_22 (cy : Nat → ClassId) (a : Nat → Nat) (σ : St) (f : Nat → Int32) : (wM cy a σ).set 22 (a 22, .inl (cy 1, 41, .inl f)) = wM cy a (fR σ 22 f) := rfl
theorem qM_23 (cy : Nat → ClassId) (a : Nat → Nat) (σ : St) (f : Nat → Int32) : (wM cy a σ).set 23 (a 23, .inl (cy 1, 41, .inl f)) = wM cy a (fR σ 23 f) := rfl
theorem qM_24 (cy : Nat → ClassId) (a : Nat → Nat) (σ : St) (f : Nat → Int32) : (wM cy a σ).set 24 (a 24, .inl (cy 1, 30, .inl f)) = wM cy a (fR σ 24 f) := rfl
theorem qM_25 (cy : Nat → ClassId) (a : Nat → Nat) (σ : St) (f : Nat → Int32) : (wM cy a σ).set 25 (a 25, .inl (cy 1, 30, .inl f)) = wM cy a (fR σ 25 f) := rfl
theorem qM_26 (cy : Nat → ClassId) (a : Nat → Nat) (σ : St) (f : Nat → Int32) : (wM cy a σ).set 26 (a 26, .inl (cy 1, 30, .inl f)) = wM cy a (fR σ 26 f) := rfl
theorem qM_27 (cy : Nat → ClassId) (a : Nat → Nat) (σ : St) (f : Nat → Int32) : (wM cy a σ).set 27 (a 27, .inl (cy 1, 30, .inl f)) = wM cy a (fR σ 27 f) := rfl
theorem qM_28 (cy : Nat → ClassId) (a : Nat → Nat) (σ : St) (f : Nat → Int32) : (wM cy a σ).set 28 (a 28, .inl (cy 1, 120, .inl f)) = wM cy a (fR σ 28 f) := rfl
theorem qM_29 (cy : Nat → ClassId) (a : Nat → Nat) (σ : St) (f : Nat → Int32) : (wM cy a σ).set 29 (a 29, .inl (cy 1, 400, .inl f)) = wM cy a (fR σ 29 f) := rfl
theorem qM_30 (cy : Nat → ClassId) (a : Nat → Nat) (σ : St) (f : Nat → Int32) : (wM cy a σ).set 30 (a 30, .inl (cy 1, 12, .inl f)) = wM cy a (fR σ 30 f) := rfl
theorem qM_31 (cy : Nat → ClassId) (a : Nat → Nat) (σ : St) (f : Nat → Int32) : (wM cy a σ).set 31 (a 31, .inl (cy 1, 12, .inl f)) = wM cy a (fR σ 31 f) := rfl
theorem qM_32 (cy : Nat → ClassId) (a : Nat → Nat) (σ : St) (f : Nat → Int32) : (wM cy a σ).set 32 (a 32, .inl (cy 1, 12, .inl f)) = wM cy a (fR σ 32 f) := rfl
theorem qM_33 (cy : Nat → ClassId) (a : Nat → Nat) (σ : St) (f : Nat → Int32) : (wM cy a σ).set 33 (a 33, .inl (cy 1, 12, .inl f)) = wM cy a (fR σ 33 f) := rfl
theorem qM_34 (cy : Nat → ClassId) (a : Nat → Nat) (σ : St) (f : Nat → Int32) : (wM cy a σ).set 34 (a 34, .inl (cy 1, 12, .inl f)) = wM cy a (fR σ 34 f) := rfl
theorem qM_35 (cy : Nat → ClassId) (a : Nat → Nat) (σ : St) (f : Nat → Int32) : (wM cy a σ).set 35 (a 35, .inl (cy 1, 12, .inl f)) = wM cy a (fR σ 35 f) := rfl
theorem qM_36 (cy : Nat → ClassId) (a : Nat → Nat) (σ : St) (f : Nat → Int32) : (wM cy a σ).set 36 (a 36, .inl (cy 1, 80, .inl f)) = wM cy a (fR σ 36 f) := rfl
theorem qM_37 (cy : Nat → ClassId) (a : Nat → Nat) (σ : St) (f : Nat → Int32) : (wM cy a σ).set 37 (a 37, .inl (cy 1, 80, .inl f)) = wM cy a (fR σ 37 f) := rfl
theorem qM_38 (cy : Nat → ClassId) (a : Nat → Nat) (σ : St) (f : Nat → Int32) : (wM cy a σ).set 38 (a 38, .inl (cy 1, 80, .inl f)) = wM cy a (fR σ 38 f) := rfl
theorem qM_39 (cy : Nat → ClassId) (a : Nat → Nat) (σ : St) (f : Nat → Int32) : (wM cy a σ).set 39 (a 39, .inl (cy 1, 80, .inl f)) = wM cy a (fR σ 39 f) := rfl
def AM (a : Nat → Nat) : Nat → Prop := fun q => ∃ k, k < 40 ∧ q = a k
end
section
/-! ===== rows by a number that counts; Math.min, Math.max; a row of rows ===== -/
section RN
variable {p : Program} {l : Launch} {e : Env} {R : Room} {s : State} {m : MethodId} {args : Array Value} {below : List Frame} {meth : Method} {c : Code} {H : Heap} {locs : List Loc} {cells slots : Nat} {Q : State → Prop}
variable {cc : ByteArray} {pc : Nat} {ls : Array Slot} {rest : List Value} {D : va_G} {A : Nat → Prop} {a : Nat} {ws ws' : va_W} {own : String} {nL : Nat} {cy : Nat → ClassId}
theorem r_ialdN (E : EV p s m c args cc own nL D cy) (h : HW D A s ws H locs) {q0 n j : Nat} {f : Nat → Int32} (he : ws[q0]? = some (a, .inl (cy 1, n, .inl f))) (hj : j < n) (hn : n < 2 ^ 31) {v : Int32} (hv : f j = v) (hdg : decode cc pc = .ok (.iaload, 1))
    (kk : W p l e R s m args below meth c H locs cells slots Q (F0 m (pc + 1) ls (.int v :: rest))) : W p l e R s m args below meth c H locs cells slots Q (F0 m pc ls (.int (nI j) :: .ref a :: rest)) := by
  refine r_iald E h he (vp_in_nI hj hn) hdg ?_
  rw [nI_clamp (Nat.lt_trans hj hn)]
  rw [hv]
  exact kk
theorem r_baldN (E : EV p s m c args cc own nL D cy) (h : HW D A s ws H locs) {q0 n j : Nat} {f : Nat → Int32} (he : ws[q0]? = some (a, .inl (cy 0, n, .inl f))) (hj : j < n) (hn : n < 2 ^ 31) {v : Int32} (hv : f j = v) (hdg : decode cc pc = .ok (.baload, 1))
    (kk : W p l e R s m args below meth c H locs cells slots Q (F0 m (pc + 1) ls (.int v :: rest))) : W p l e R s m args below meth c H locs cells slots Q (F0 m pc ls (.int (nI j) :: .ref a :: rest)) := by
  refine r_bald E h he (vp_in_nI hj hn) hdg ?_
  rw [nI_clamp (Nat.lt_trans hj hn)]
  rw [hv]
  exact kk
theorem r_zaldN (E : EV p s m c args cc own nL D cy) (h : HW D A s ws H locs) {q0 n j : Nat} {f : Nat → Int32} (he : ws[q0]? = some (a, .inl (cy 2, n, .inl f))) (hj : j < n) (hn : n < 2 ^ 31) {v : Int32} (hv : f j = v) (hdg : decode cc pc = .ok (.baload, 1))
    (kk : W p l e R s m args below meth c H locs cells slots Q (F0 m (pc + 1) ls (.int v :: rest))) : W p l e R s m args below meth c H locs cells slots Q (F0 m pc ls (.int (nI j) :: .ref a :: rest)) := by
  refine r_zald E h he (vp_in_nI hj hn) hdg ?_
  rw [nI_clamp (Nat.lt_trans hj hn)]
  rw [hv]
  exact kk
theorem r_iastN (E : EV p s m c args cc own nL D cy) (h : HW D A s ws H locs) {q0 n j : Nat} {f : Nat → Int32} (he : ws[q0]? = some (a, .inl (cy 1, n, .inl f))) {x : Int32} (hj : j < n) (hn : n < 2 ^ 31) (hw : ws.set q0 (a, .inl (cy 1, n, .inl (upd f j x))) = ws') (hdg : decode cc pc = .ok (.iastore, 1))
    (kk : ∀ (H1 : Heap) (locs1 : List Loc), HW D A s ws' H1 locs1 → W p l e R s m args below meth c H1 locs1 cells slots Q (F0 m (pc + 1) ls rest)) : W p l e R s m args below meth c H locs cells slots Q (F0 m pc ls (.int x :: .int (nI j) :: .ref a :: rest)) :=
  r_iast E h he (vp_in_nI hj hn) (by rw [nI_clamp (Nat.lt_trans hj hn)]; exact hw) hdg kk
theorem r_bastN (E : EV p s m c args cc own nL D cy) (h : HW D A s ws H locs) {q0 n j : Nat} {f : Nat → Int32} (he : ws[q0]? = some (a, .inl (cy 0, n, .inl f))) {x : Int32} (hj : j < n) (hn : n < 2 ^ 31) (hw : ws.set q0 (a, .inl (cy 0, n, .inl (upd f j (vp_nar .byte x)))) = ws') (hdg : decode cc pc = .ok (.bastore, 1))
    (kk : ∀ (H1 : Heap) (locs1 : List Loc), HW D A s ws' H1 locs1 → W p l e R s m args below meth c H1 locs1 cells slots Q (F0 m (pc + 1) ls rest)) : W p l e R s m args below meth c H locs cells slots Q (F0 m pc ls (.int x :: .int (nI j) :: .ref a :: rest)) :=
  r_bast E h he (vp_in_nI hj hn) (by rw [nI_clamp (Nat.lt_trans hj hn)]; exact hw) hdg kk
theorem r_zastN (E : EV p s m c args cc own nL D cy) (h : HW D A s ws H locs) {q0 n j : Nat} {f : Nat → Int32} (he : ws[q0]? = some (a, .inl (cy 2, n, .inl f))) {x : Int32} (hj : j < n) (hn : n < 2 ^ 31) (hw : ws.set q0 (a, .inl (cy 2, n, .inl (upd f j (vp_nar .boolean x)))) = ws') (hdg : decode cc pc = .ok (.bastore, 1))
    (kk : ∀ (H1 : Heap) (locs1 : List Loc), HW D A s ws' H1 locs1 → W p l e R s m args below meth c H1 locs1 cells slots Q (F0 m (pc + 1) ls rest)) : W p l e R s m args below meth c H locs cells slots Q (F0 m pc ls (.int x :: .int (nI j) :: .ref a :: rest)) :=
  r_zast E h he (vp_in_nI hj hn) (by rw [nI_clamp (Nat.lt_trans hj hn)]; exact hw) hdg kk
theorem r_ialdV (E : EV p s m c args cc own nL D cy) (h : HW D A s ws H locs) {q0 n : Nat} {f : Nat → Int32} (he : ws[q0]? = some (a, .inl (cy 1, n, .inl f))) {i : Int32} (hin : vp_in i n) {v : Int32} (hv : f i.toNatClampNeg = v) (hdg : decode cc pc = .ok (.iaload, 1))
    (kk : W p l e R s m args below meth c H locs cells slots Q (F0 m (pc + 1) ls (.int v :: rest))) : W p l e R s m args below meth c H locs cells slots Q (F0 m pc ls (.int i :: .ref a :: rest)) := by
  refine r_iald E h he hin hdg ?_
  rw [hv]
  exact kk
theorem r_mmin (E : EV p s m c args cc own nL D cy) (hsz : ls.size = nL) {index : Nat} {x y : Int32} (ml : Cond.methodLink own index yJ9_min_7cf53 ∈ TB) (stt : Cond.static yJ9_min_7cf53 ∈ TB) (ini : Cond.initialized RJ9 ∈ TB) (co : Cond.code yJ9_min_7cf53 cJ9_min_7cf53 2 (some .int) ∈ TB) (hR : 1 ≤ R.frames ∧ (rest.map fun v => v.category).sum + 13 ≤ R.locals) (hcs : cells ≤ R.cells ∧ slots ≤ R.slots) (hdg : decode cc pc = .ok (.invokestatic index, 3))
    (kk : W p l e R s m args below meth c H locs cells slots Q (F0 m (pc + 3) ls (.int (if y < x then y else x) :: rest))) : W p l e R s m args below meth c H locs cells slots Q (F0 m pc ls (.int y :: .int x :: rest)) :=
  va_mmin E.1 E.2.1 (E.2.2.1.trans hsz.symm) E.2.2.2.1 (E.2.2.2.2.1 _ ml) (E.2.2.2.2.1 _ stt) (E.2.2.2.2.1 _ ini) (E.2.2.2.2.1 _ co) hR.1 hR.2 hcs.1 hcs.2 hdg kk
theorem r_mmax (E : EV p s m c args cc own nL D cy) (hsz : ls.size = nL) {index : Nat} {x y : Int32} (ml : Cond.methodLink own index yJ9_max_7cf53 ∈ TB) (stt : Cond.static yJ9_max_7cf53 ∈ TB) (ini : Cond.initialized RJ9 ∈ TB) (co : Cond.code yJ9_max_7cf53 cJ9_max_7cf53 2 (some .int) ∈ TB) (hR : 1 ≤ R.frames ∧ (rest.map fun v => v.category).sum + 13 ≤ R.locals) (hcs : cells ≤ R.cells ∧ slots ≤ R.slots) (hdg : decode cc pc = .ok (.invokestatic index, 3))
    (kk : W p l e R s m args below meth c H locs cells slots Q (F0 m (pc + 3) ls (.int (if x < y then y else x) :: rest))) : W p l e R s m args below meth c H locs cells slots Q (F0 m pc ls (.int y :: .int x :: rest)) :=
  va_mmax E.1 E.2.1 (E.2.2.1.trans hsz.symm) E.2.2.2.1 (E.2.2.2.2.1 _ ml) (E.2.2.2.2.1 _ stt) (E.2.2.2.2.1 _ ini) (E.2.2.2.2.1 _ co) hR.1 hR.2 hcs.1 hcs.2 hdg kk
end RN
/-! ===== numbers ===== -/
theorem z_lt (a b : Int32) : a < b ↔ a.toInt < b.toInt := Int32.lt_iff_toInt_lt
theorem z_le (a b : Int32) : a ≤ b ↔ a.toInt ≤ b.toInt := Int32.le_iff_toInt_le
theorem z_eq (a b : Int32) : a = b ↔ a.toInt = b.toInt := Int32.toInt_inj.symm
/-- x is one of 0 .. n: as the class's own test has it -/
theorem z_in {x : Int32} {n N : Nat} (h0 : (0 : Int32) ≤ x) (h1 : x ≤ nI n - 1) (hn : n ≤ N) (hN : N < 2 ^ 31) : ∃ j : Nat, j < n ∧ j < N ∧ x = nI j := by
  have h2 : ¬ x < 0 := Int32.not_lt.mpr h0
  obtain ⟨j, hj, rfl⟩ := nI_of h2
  rcases Nat.eq_zero_or_pos n with e | e
  · subst e
    exfalso
    rw [z_le] at h1
    have e1 : (nI 0 - 1 : Int32).toInt = -1 := by decide +kernel
    rw [e1, nI_toInt hj] at h1
    omega
  · obtain ⟨k, rfl⟩ : ∃ k, n = k + 1 := ⟨n - 1, by omega⟩
    rw [nI_pred] at h1
    have h3 := (nI_leI hj (by omega)).mp h1
    exact ⟨j, by omega, by omega, rfl⟩
section NN
variable {p : Program} {l : Launch} {e : Env} {R : Room} {s : State} {m : MethodId} {args : Array Value} {below : List Frame} {meth : Method} {c : Code} {H : Heap} {locs : List Loc} {cells slots : Nat} {Q : State → Prop}
variable {cc : ByteArray} {pc : Nat} {ls : Array Slot} {rest : List Value} {j k : Nat}
theorem n_add (hx : p.tables.exec = Jvm.exec) (hb : c.code = cc) (hdg : decode cc pc = .ok (.iadd, 1)) (kk : W p l e R s m args below meth c H locs cells slots Q (F0 m (pc + 1) ls (.int (nI (j + k)) :: rest))) : W p l e R s m args below meth c H locs cells slots Q (F0 m pc ls (.int (nI k) :: .int (nI j) :: rest)) := by
  refine lv_iadd hx hb hdg ?_
  rw [nI_add]
  exact kk
theorem n_mul (hx : p.tables.exec = Jvm.exec) (hb : c.code = cc) (hdg : decode cc pc = .ok (.imul, 1)) (kk : W p l e R s m args below meth c H locs cells slots Q (F0 m (pc + 1) ls (.int (nI (j * k)) :: rest))) : W p l e R s m args below meth c H locs cells slots Q (F0 m pc ls (.int (nI k) :: .int (nI j) :: rest)) := by
  refine lv_imul hx hb hdg ?_
  rw [pk_mul]
  exact kk
theorem n_sub1 (hx : p.tables.exec = Jvm.exec) (hb : c.code = cc) (hdg : decode cc pc = .ok (.isub, 1)) (kk : W p l e R s m args below meth c H locs cells slots Q (F0 m (pc + 1) ls (.int (nI j) :: rest))) : W p l e R s m args below meth c H locs cells slots Q (F0 m pc ls (.int 1 :: .int (nI (j + 1)) :: rest)) := by
  refine lv_isub hx hb hdg ?_
  rw [nI_pred]
  exact kk
end NN
/-- what isWithin answers -/
def WI (x lo hi r : Int32) : Prop := (r = 1 ∧ lo ≤ x ∧ x ≤ hi) ∨ (r = 0 ∧ ¬ (lo ≤ x ∧ x ≤ hi))
theorem WI.z {x lo hi r : Int32} (h : WI x lo hi r) : r = 0 ∨ r = 1 := h.elim (fun q => Or.inr q.1) (fun q => Or.inl q.1)
theorem WI.t {x lo hi r : Int32} (h : WI x lo hi r) (hr : ¬ r = 0) : lo ≤ x ∧ x ≤ hi := h.elim (fun q => q.2) (fun q => absurd q.1 hr)
theorem WI.f {x lo hi r : Int32} (h : WI x lo hi r) (hr : r = 0) : ¬ (lo ≤ x ∧ x ≤ hi) := h.elim (fun q => absurd (hr.symm.trans q.1) (by decide)) (fun q => q.2)
theorem n_lt {j k : Nat} (hj : j < 2 ^ 31) (hk : k < 2 ^ 31) (h : nI j < nI k) : j < k := (nI_ltI hj hk).mp h
theorem n_nlt {j k : Nat} (hj : j < 2 ^ 31) (hk : k < 2 ^ 31) (h : ¬ nI j < nI k) : k ≤ j := Nat.le_of_not_lt fun q => h ((nI_ltI hj hk).mpr q)
theorem in_le {x : Int32} {a b : Nat} (h : vp_in x a) (hab : a ≤ b) : vp_in x b := by
  rw [vp_in_iff] at h ⊢
  omega
theorem in_clamp {x : Int32} {a : Nat} (h : vp_in x a) : x.toNatClampNeg < a := Nat.not_le.mp fun q => h (Or.inr q)
/-- a law's kind and value, as the class may hold them -/
def LAWOK (k v : Int32) : Prop := vp_in k 6 ∧ (k = 5 → vp_in v 3) ∧ (k = 0 → vp_in v 3)
/-- the ints fs and the rows rs are the same -/
def K (fs rs : List Nat) (σ τ : St) : Prop := (∀ k, k ∈ fs → τ.1 k = σ.1 k) ∧ ∀ k, k ∈ rs → τ.2.1 k = σ.2.1 k
theorem K.rf {fs rs : List Nat} {σ : St} : K fs rs σ σ := ⟨fun _ _ => rfl, fun _ _ => rfl⟩
theorem K.tr {fs rs : List Nat} {σ τ υ : St} (h : K fs rs σ τ) (h2 : K fs rs τ υ) : K fs rs σ υ := ⟨fun k hk => (h2.1 k hk).trans (h.1 k hk), fun k hk => (h2.2 k hk).trans (h.2 k hk)⟩
theorem K.F {fs rs : List Nat} {σ τ : St} (h : K fs rs σ τ) (k : Nat) (v : Int32) (hk : k ∉ fs) : K fs rs σ (fF τ k v) := ⟨fun j hj => by
  show va_up τ.1 k v j = _
  rw [va_up, if_neg (fun (q : j = k) => hk (q ▸ hj))]
  exact h.1 j hj, h.2⟩
theorem K.R {fs rs : List Nat} {σ τ : St} (h : K fs rs σ τ) (k : Nat) (f : Nat → Int32) (hk : k ∉ rs) : K fs rs σ (fR τ k f) := ⟨h.1, fun j hj => by
  show va_up τ.2.1 k f j = _
  rw [va_up, if_neg (fun (q : j = k) => hk (q ▸ hj))]
  exact h.2 j hj⟩
theorem K.sub {fs rs fs' rs' : List Nat} {σ τ : St} (h : K fs rs σ τ) (h1 : ∀ k ∈ fs', k ∈ fs) (h2 : ∀ k ∈ rs', k ∈ rs) : K fs' rs' σ τ := ⟨fun k hk => h.1 k (h1 k hk), fun k hk => h.2 k (h2 k hk)⟩
theorem upd_s {f : Nat → Int32} {k : Nat} {x : Int32} : upd f k x k = x := pk_us
theorem upd_n {f : Nat → Int32} {k j : Nat} {x : Int32} (h : j ≠ k) : upd f k x j = f j := pk_un h
/-- the class's own: what it keeps between calls (ints and rows), and beside them what counts in a year -/
def cF : List Nat := [0, 1, 3, 7, 9, 10, 11, 12, 13, 14, 15]
def cA : List Nat := [18, 19, 20, 21, 22, 29, 30, 31, 33, 34, 35, 36, 38, 39, 40, 41, 42, 43, 44, 45, 46, 47, 48, 49, 50, 51, 52, 53, 54, 55, 56, 57, 58, 59]
def cA2 : List Nat := 23 :: cA
/-- a row of groups: sizes f, members m, width w, numbers below b -/
def GRP (f m : Nat → Int32) (w b : Nat) : Prop := ∀ c, c < 12 → ∃ z, z ≤ w ∧ f c = nI z ∧ ∀ i, i < z → vp_in (m (c * w + i)) b
def gTape (σ : St) : Prop := ∃ n, n ≤ 400 ∧ σ.1 3 = nI n
def gBook (σ : St) : Prop := ∃ n, n ≤ 30 ∧ σ.1 7 = nI n ∧ ∀ i, i < n → LAWOK (σ.2.1 21 i) (σ.2.1 22 i)
def gDeaths (σ : St) : Prop := ∃ n, n ≤ 60 ∧ σ.1 9 = nI n ∧ ∀ i, i < n → vp_in (σ.2.1 29 i) 40
def gSprings (σ : St) : Prop := ∃ q n, q ≤ 4 ∧ σ.1 10 = nI q ∧ n ≤ 60 ∧ σ.1 11 = nI n ∧ ∀ i, i < n → vp_in (σ.2.1 34 i) 4
def gCastles (σ : St) : Prop := ∃ n, n ≤ 12 ∧ σ.1 12 = nI n ∧ ∀ i, i < n → σ.2.1 38 i < 100 → vp_in (σ.2.1 38 i) 4
def gNozzles (σ : St) : Prop := ∃ n, n ≤ 80 ∧ σ.1 13 = nI n ∧ ∀ i, i < n → (σ.2.1 42 i = 2 → vp_in (σ.2.1 43 i) 40) ∧ (¬ σ.2.1 42 i = 2 → vp_in (σ.2.1 43 i) 8)
def gRest (σ : St) : Prop := (∃ n, n ≤ 60 ∧ σ.1 14 = nI n) ∧ (∃ n, n ≤ 40 ∧ σ.1 15 = nI n) ∧ (∃ n, n ≤ 200 ∧ σ.1 1 = nI n) ∧ (∃ n, n ≤ 40 ∧ σ.1 0 = nI n)
def gGroups (σ : St) : Prop := GRP (σ.2.1 53) (σ.2.1 52) 12 12 ∧ GRP (σ.2.1 55) (σ.2.1 54) 80 80 ∧ GRP (σ.2.1 57) (σ.2.1 56) 60 60 ∧ GRP (σ.2.1 59) (σ.2.1 58) 40 40
def GX (σ : St) : Prop := gTape σ ∧ gBook σ ∧ gDeaths σ ∧ gSprings σ ∧ gCastles σ ∧ gNozzles σ ∧ gRest σ ∧ gGroups σ
theorem GX.kept {σ τ : St} (g : GX σ) (h : K cF cA σ τ) : GX τ := by
  obtain ⟨g1, g2, g3, g4, g5, g6, g7, g8⟩ := g
  refine ⟨?_, ?_, ?_, ?_, ?_, ?_, ?_, ?_⟩
  · unfold gTape at *; rw [h.1 3 (by decide)]; exact g1
  · unfold gBook at *; rw [h.1 7 (by decide), h.2 21 (by decide), h.2 22 (by decide)]; exact g2
  · unfold gDeaths at *; rw [h.1 9 (by decide), h.2 29 (by decide)]; exact g3
  · unfold gSprings at *; rw [h.1 10 (by decide), h.1 11 (by decide), h.2 34 (by decide)]; exact g4
  · unfold gCastles at *; rw [h.1 12 (by decide), h.2 38 (by decide)]; exact g5
  · unfold gNozzles at *; rw [h.1 13 (by decide), h.2 42 (by decide), h.2 43 (by decide)]; exact g6
  · unfold gRest at *; rw [h.1 14 (by decide), h.1 15 (by decide), h.1 1 (by decide), h.1 0 (by decide)]; exact g7
  · unfold gGroups at *; rw [h.2 52 (by decide), h.2 53 (by decide), h.2 54 (by decide), h.2 55 (by decide), h.2 56 (by decide), h.2 57 (by decide), h.2 58 (by decide), h.2 59 (by decide)]; exact g8
/-- what the class's book of a year says of the rank that is first -/
def CF (σ : St) : Prop := vp_in (σ.2.1 23 0) 3
/-- the claims laid down: fewer than 80, each a number below B -/
def SHI (B : Nat) (σ : St) : Prop := ∃ z, z ≤ 80 ∧ σ.1 17 = nI z ∧ ∀ i, i < z → vp_in (σ.2.1 60 i) B
end
section
set_option maxHeartbeats 4000000 in
set_option maxRecDepth 100000 in
theorem c_X11_isWithin (l : Launch) (D : va_G) (cy : Nat → ClassId) (a : Nat → Nat) (σ : St) (x lo hi : Int32)  : CI l yX11_isWithin cX11_isWithin 3 (some .boolean) (rmOf 0 0) D cy (wX cy a) (AX a) [.int x, .int lo, .int hi] σ (fun r τ => τ = σ ∧ WI x lo hi r) := by
  refine c_of (lv := [(0, .int x), (1, .int lo), (2, .int hi)]) rfl (Nat.le_of_ble_eq_true rfl) rfl ?_
  intro p e s m args below meth c ls E h hr hk hl
  have hx := E.1
  have hb := E.2.1
  refine lv_iload_n hx hb dX11_isWithin_0 rfl (lv_at hl 0 rfl) ?_
  refine lv_iload_n hx hb dX11_isWithin_1 rfl (lv_at hl 1 rfl) ?_
  refine lv_icmp_lt (tgt := 14) hx hb dX11_isWithin_2 (by decide) (fun c2 => ?_) (fun c2 => ?_)
  · refine lv_iconst (v := 0) hx hb dX11_isWithin_14 (by decide) ?_
    exact t_z E h hr hk (Or.inl rfl) ⟨rfl, Or.inr ⟨rfl, fun q => absurd q.1 (Int32.not_le.mpr c2)⟩⟩ dX11_isWithin_15
  · refine lv_iload_n hx hb dX11_isWithin_5 rfl (lv_at hl 0 rfl) ?_
    refine lv_iload_n hx hb dX11_isWithin_6 rfl (lv_at hl 2 rfl) ?_
    refine lv_icmp_gt (tgt := 14) hx hb dX11_isWithin_7 (by decide) (fun c7 => ?_) (fun c7 => ?_)
    · refine lv_iconst (v := 0) hx hb dX11_isWithin_14 (by decide) ?_
      exact t_z E h hr hk (Or.inl rfl) ⟨rfl, Or.inr ⟨rfl, fun q => absurd q.2 (Int32.not_le.mpr c7)⟩⟩ dX11_isWithin_15
    · refine lv_iconst (v := 1) hx hb dX11_isWithin_10 (by decide) ?_
      refine lv_goto (tgt := 15) hx hb dX11_isWithin_11 (by decide) ?_
      exact t_z E h hr hk (Or.inr rfl) ⟨rfl, Or.inl ⟨rfl, Int32.not_lt.mp c2, Int32.not_lt.mp c7⟩⟩ dX11_isWithin_15

set_option maxHeartbeats 4000000 in
set_option maxRecDepth 100000 in
theorem c_X11_isYear (l : Launch) (D : va_G) (cy : Nat → ClassId) (a : Nat → Nat) (σ : St) (x : Int32)  : CI l yX11_isYear cX11_isYear 1 (some .boolean) (rmOf 1 22) D cy (wX cy a) (AX a) [.int x] σ (fun r τ => τ = σ ∧ WI x 0 200 r) := by
  refine c_of (lv := [(0, .int x)]) rfl (Nat.le_of_ble_eq_true rfl) rfl ?_
  intro p e s m args below meth c ls E h hr hk hl
  have hx := E.1
  have hb := E.2.1
  refine lv_iload_n hx hb dX11_isYear_0 rfl (lv_at hl 0 rfl) ?_
  refine lv_iconst (v := 0) hx hb dX11_isYear_1 (by decide) ?_
  refine lv_sipush (v := 200) hx hb dX11_isYear_2 (by decide) ?_
  refine k_i h (q_runS (As := [.int x, .int 0, .int 200]) (rest := []) E h (c_X11_isWithin l D cy a σ x 0 200) co_X11_isWithin ml_X11_86 st_X11_isWithin in_X11 rfl ok_X11_isWithin rfl ⟨by decide, by decide⟩ hl.1 rfl (Nat.le_of_ble_eq_true rfl) dX11_isYear_5 ⟨Nat.zero_le _, Nat.zero_le _⟩) (wX_fst cy a) (fun r5 τ5 H locs p5 h => ?_)
  rw [p5.1] at h
  exact t_z E h hr hk p5.2.z ⟨rfl, p5.2⟩ dX11_isYear_8

set_option maxHeartbeats 4000000 in
set_option maxRecDepth 100000 in
theorem c_X11_isQuarter (l : Launch) (D : va_G) (cy : Nat → ClassId) (a : Nat → Nat) (σ : St) (x : Int32)  : CI l yX11_isQuarter cX11_isQuarter 1 (some .boolean) (rmOf 1 22) D cy (wX cy a) (AX a) [.int x] σ (fun r τ => τ = σ ∧ WI x 0 7 r) := by
  refine c_of (lv := [(0, .int x)]) rfl (Nat.le_of_ble_eq_true rfl) rfl ?_
  intro p e s m args below meth c ls E h hr hk hl
  have hx := E.1
  have hb := E.2.1
  refine lv_iload_n hx hb dX11_isQuarter_0 rfl (lv_at hl 0 rfl) ?_
  refine lv_iconst (v := 0) hx hb dX11_isQuarter_1 (by decide) ?_
  refine lv_bipush (v := 7) hx hb dX11_isQuarter_2 (by decide) ?_
  refine k_i h (q_runS (As := [.int x, .int 0, .int 7]) (rest := []) E h (c_X11_isWithin l D cy a σ x 0 7) co_X11_isWithin ml_X11_86 st_X11_isWithin in_X11 rfl ok_X11_isWithin rfl ⟨by decide, by decide⟩ hl.1 rfl (Nat.le_of_ble_eq_true rfl) dX11_isQuarter_4 ⟨Nat.zero_le _, Nat.zero_le _⟩) (wX_fst cy a) (fun r4 τ4 H locs p4 h => ?_)
  rw [p4.1] at h
  exact t_z E h hr hk p4.2.z ⟨rfl, p4.2⟩ dX11_isQuarter_7

set_option maxHeartbeats 4000000 in
set_option maxRecDepth 100000 in
theorem c_X11_areYears (l : Launch) (D : va_G) (cy : Nat → ClassId) (a : Nat → Nat) (σ : St) (x y : Int32)  : CI l yX11_areYears cX11_areYears 2 (some .boolean) (rmOf 2 42) D cy (wX cy a) (AX a) [.int x, .int y] σ (fun r τ => τ = σ ∧ ((r = 1 ∧ ((0 : Int32) ≤ x ∧ x ≤ 200) ∧ ((0 : Int32) ≤ y ∧ y ≤ 200) ∧ x ≤ y) ∨ (r = 0 ∧ ¬ (((0 : Int32) ≤ x ∧ x ≤ 200) ∧ ((0 : Int32) ≤ y ∧ y ≤ 200) ∧ x ≤ y)))) := by
  refine c_of (lv := [(0, .int x), (1, .int y)]) rfl (Nat.le_of_ble_eq_true rfl) rfl ?_
  intro p e s m args below meth c ls E h hr hk hl
  have hx := E.1
  have hb := E.2.1
  refine lv_iload_n hx hb dX11_areYears_0 rfl (lv_at hl 0 rfl) ?_
  refine k_i h (q_runS (As := [.int x]) (rest := []) E h (c_X11_isYear l D cy a σ x) co_X11_isYear ml_X11_97 st_X11_isYear in_X11 rfl ok_X11_isYear rfl ⟨by decide, by decide⟩ hl.1 rfl (Nat.le_of_ble_eq_true rfl) dX11_areYears_1 ⟨Nat.zero_le _, Nat.zero_le _⟩) (wX_fst cy a) (fun r1 τ1 H locs p1 h => ?_)
  rw [p1.1] at h
  refine lv_if_eq (tgt := 23) hx hb dX11_areYears_4 (by decide) (fun c4 => ?_) (fun c4 => ?_)
  · refine lv_iconst (v := 0) hx hb dX11_areYears_23 (by decide) ?_
    exact t_z E h hr hk (Or.inl rfl) ⟨rfl, Or.inr ⟨rfl, fun q => p1.2.f c4 q.1⟩⟩ dX11_areYears_24
  · refine lv_iload_n hx hb dX11_areYears_7 rfl (lv_at hl 1 rfl) ?_
    refine k_i h (q_runS (As := [.int y]) (rest := []) E h (c_X11_isYear l D cy a σ y) co_X11_isYear ml_X11_97 st_X11_isYear in_X11 rfl ok_X11_isYear rfl ⟨by decide, by decide⟩ hl.1 rfl (Nat.le_of_ble_eq_true rfl) dX11_areYears_8 ⟨Nat.zero_le _, Nat.zero_le _⟩) (wX_fst cy a) (fun r8 τ8 H locs p8 h => ?_)
    rw [p8.1] at h
    refine lv_if_eq (tgt := 23) hx hb dX11_areYears_11 (by decide) (fun c11 => ?_) (fun c11 => ?_)
    · refine lv_iconst (v := 0) hx hb dX11_areYears_23 (by decide) ?_
      exact t_z E h hr hk (Or.inl rfl) ⟨rfl, Or.inr ⟨rfl, fun q => p8.2.f c11 q.2.1⟩⟩ dX11_areYears_24
    · refine lv_iload_n hx hb dX11_areYears_14 rfl (lv_at hl 0 rfl) ?_
      refine lv_iload_n hx hb dX11_areYears_15 rfl (lv_at hl 1 rfl) ?_
      refine lv_icmp_gt (tgt := 23) hx hb dX11_areYears_16 (by decide) (fun c16 => ?_) (fun c16 => ?_)
      · refine lv_iconst (v := 0) hx hb dX11_areYears_23 (by decide) ?_
        exact t_z E h hr hk (Or.inl rfl) ⟨rfl, Or.inr ⟨rfl, fun q => absurd q.2.2 (Int32.not_le.mpr c16)⟩⟩ dX11_areYears_24
      · refine lv_iconst (v := 1) hx hb dX11_areYears_19 (by decide) ?_
        refine lv_goto (tgt := 24) hx hb dX11_areYears_20 (by decide) ?_
        exact t_z E h hr hk (Or.inr rfl) ⟨rfl, Or.inl ⟨rfl, p1.2.t c4, p8.2.t c11, Int32.not_lt.mp c16⟩⟩ dX11_areYears_24

set_option maxHeartbeats 4000000 in
set_option maxRecDepth 100000 in
theorem c_X11_told (l : Launch) (D : va_G) (cy : Nat → ClassId) (a : Nat → Nat) (σ : St) (x : Int32)  : CI l yX11_told cX11_told 2 (some .int) (rmOf 1 14) D cy (wX cy a) (AX a) [.ref (a 0), .int x] σ (fun r τ => r = x ∧ τ = fF σ 2 (if (0 : Int32) < x then 0 else x)) := by
  refine c_of (lv := [(0, .ref (a 0)), (1, .int x)]) rfl (Nat.le_of_ble_eq_true rfl) rfl ?_
  intro p e s m args below meth c ls E h hr hk hl
  have hx := E.1
  have hb := E.2.1
  refine lv_aload_n hx hb dX11_told_0 rfl (lv_at hl 0 rfl) ?_
  refine lv_iload_n hx hb dX11_told_1 rfl (lv_at hl 1 rfl) ?_
  refine lv_iconst (v := 0) hx hb dX11_told_2 (by decide) ?_
  refine r_mmin E hl.1 ml_X11_243 st_J9_min_7cf53 in_J9 co_J9_min_7cf53 ⟨Nat.le_of_ble_eq_true rfl, Nat.le_of_ble_eq_true rfl⟩ ⟨Nat.zero_le _, Nat.zero_le _⟩ dX11_told_3 ?_
  refine r_put E h 13 (ty := .int) (eX_0 cy a σ) rfl fw_X11 tyX11_ok nmX11 (by decide) fl_X11_240 rfl (by decide +kernel) rfl rfl (Nat.le_of_ble_eq_true rfl) (sX_2 cy a σ (if 0 < x then 0 else x)) dX11_told_6 (fun H locs h => ?_)
  refine lv_iload_n hx hb dX11_told_9 rfl (lv_at hl 1 rfl) ?_
  exact t_i E h hr hk ⟨rfl, rfl⟩ dX11_told_10

set_option maxHeartbeats 4000000 in
set_option maxRecDepth 100000 in
theorem c_X11_isPerson (l : Launch) (D : va_G) (cy : Nat → ClassId) (a : Nat → Nat) (σ : St) (x : Int32)  : CI l yX11_isPerson cX11_isPerson 2 (some .boolean) (rmOf 1 22) D cy (wX cy a) (AX a) [.ref (a 0), .int x] σ (fun r τ => τ = σ ∧ WI x 0 (σ.1 0 - 1) r) := by
  refine c_of (lv := [(0, .ref (a 0)), (1, .int x)]) rfl (Nat.le_of_ble_eq_true rfl) rfl ?_
  intro p e s m args below meth c ls E h hr hk hl
  have hx := E.1
  have hb := E.2.1
  refine lv_iload_n hx hb dX11_isPerson_0 rfl (lv_at hl 1 rfl) ?_
  refine lv_iconst (v := 0) hx hb dX11_isPerson_1 (by decide) ?_
  refine lv_aload_n hx hb dX11_isPerson_2 rfl (lv_at hl 0 rfl) ?_
  refine r_get E h 11 (v := .int (σ.1 0)) (eX_0 cy a σ) rfl fw_X11 (by decide) fl_X11_114 rfl dX11_isPerson_3 ?_
  refine lv_iconst (v := 1) hx hb dX11_isPerson_6 (by decide) ?_
  refine lv_isub hx hb dX11_isPerson_7 ?_
  refine k_i h (q_runS (As := [.int x, .int 0, .int ((σ.1 0) - 1)]) (rest := []) E h (c_X11_isWithin l D cy a σ x 0 ((σ.1 0) - 1)) co_X11_isWithin ml_X11_86 st_X11_isWithin in_X11 rfl ok_X11_isWithin rfl ⟨by decide, by decide⟩ hl.1 rfl (Nat.le_of_ble_eq_true rfl) dX11_isPerson_8 ⟨Nat.zero_le _, Nat.zero_le _⟩) (wX_fst cy a) (fun r8 τ8 H locs p8 h => ?_)
  rw [p8.1] at h
  exact t_z E h hr hk p8.2.z ⟨rfl, p8.2⟩ dX11_isPerson_11

set_option maxHeartbeats 4000000 in
set_option maxRecDepth 100000 in
theorem c_X9_hasAqueduct (l : Launch) (D : va_G) (cy : Nat → ClassId) (a : Nat → Nat) (σ : St) (x : Int32)  : CI l yX9_hasAqueduct cX9_hasAqueduct 2 (some .boolean) (rmOf 1 22) D cy (wX cy a) (AX a) [.ref (a 6), .int x] σ (fun r τ => τ = σ ∧ WI x 0 (σ.1 10 - 1) r) := by
  refine c_of (lv := [(0, .ref (a 6)), (1, .int x)]) rfl (Nat.le_of_ble_eq_true rfl) rfl ?_
  intro p e s m args below meth c ls E h hr hk hl
  have hx := E.1
  have hb := E.2.1
  refine lv_iload_n hx hb dX9_hasAqueduct_0 rfl (lv_at hl 1 rfl) ?_
  refine lv_iconst (v := 0) hx hb dX9_hasAqueduct_1 (by decide) ?_
  refine lv_aload_n hx hb dX9_hasAqueduct_2 rfl (lv_at hl 0 rfl) ?_
  refine r_get E h 5 (v := .int (σ.1 10)) (eX_6 cy a σ) rfl fw_X9 (by decide) fl_X9_27 rfl dX9_hasAqueduct_3 ?_
  refine lv_iconst (v := 1) hx hb dX9_hasAqueduct_6 (by decide) ?_
  refine lv_isub hx hb dX9_hasAqueduct_7 ?_
  refine k_i h (q_runSN (As := [.int x, .int 0, .int ((σ.1 10) - 1)]) (rest := []) E h (c_X11_isWithin l D cy a σ x 0 ((σ.1 10) - 1)) co_X11_isWithin nl_X9_31 st_X11_isWithin in_X11 ok_X11_isWithin rfl ⟨by decide, by decide⟩ hl.1 rfl (Nat.le_of_ble_eq_true rfl) dX9_hasAqueduct_8 ⟨Nat.zero_le _, Nat.zero_le _⟩) (wX_fst cy a) (fun r8 τ8 H locs p8 h => ?_)
  rw [p8.1] at h
  exact t_z E h hr hk p8.2.z ⟨rfl, p8.2⟩ dX9_hasAqueduct_11

set_option maxHeartbeats 4000000 in
set_option maxRecDepth 100000 in
theorem c_X0_has (l : Launch) (D : va_G) (cy : Nat → ClassId) (a : Nat → Nat) (σ : St) (x : Int32)  : CI l yX0_has cX0_has 2 (some .boolean) (rmOf 1 22) D cy (wX cy a) (AX a) [.ref (a 7), .int x] σ (fun r τ => τ = σ ∧ WI x 0 (σ.1 12 - 1) r) := by
  refine c_of (lv := [(0, .ref (a 7)), (1, .int x)]) rfl (Nat.le_of_ble_eq_true rfl) rfl ?_
  intro p e s m args below meth c ls E h hr hk hl
  have hx := E.1
  have hb := E.2.1
  refine lv_iload_n hx hb dX0_has_0 rfl (lv_at hl 1 rfl) ?_
  refine lv_iconst (v := 0) hx hb dX0_has_1 (by decide) ?_
  refine lv_aload_n hx hb dX0_has_2 rfl (lv_at hl 0 rfl) ?_
  refine r_get E h 4 (v := .int (σ.1 12)) (eX_7 cy a σ) rfl fw_X0 (by decide) fl_X0_30 rfl dX0_has_3 ?_
  refine lv_iconst (v := 1) hx hb dX0_has_6 (by decide) ?_
  refine lv_isub hx hb dX0_has_7 ?_
  refine k_i h (q_runSN (As := [.int x, .int 0, .int ((σ.1 12) - 1)]) (rest := []) E h (c_X11_isWithin l D cy a σ x 0 ((σ.1 12) - 1)) co_X11_isWithin nl_X0_34 st_X11_isWithin in_X11 ok_X11_isWithin rfl ⟨by decide, by decide⟩ hl.1 rfl (Nat.le_of_ble_eq_true rfl) dX0_has_8 ⟨Nat.zero_le _, Nat.zero_le _⟩) (wX_fst cy a) (fun r8 τ8 H locs p8 h => ?_)
  rw [p8.1] at h
  exact t_z E h hr hk p8.2.z ⟨rfl, p8.2⟩ dX0_has_11

set_option maxHeartbeats 4000000 in
set_option maxRecDepth 100000 in
theorem c_X6_has (l : Launch) (D : va_G) (cy : Nat → ClassId) (a : Nat → Nat) (σ : St) (x : Int32)  : CI l yX6_has cX6_has 2 (some .boolean) (rmOf 1 22) D cy (wX cy a) (AX a) [.ref (a 8), .int x] σ (fun r τ => τ = σ ∧ WI x 0 (σ.1 13 - 1) r) := by
  refine c_of (lv := [(0, .ref (a 8)), (1, .int x)]) rfl (Nat.le_of_ble_eq_true rfl) rfl ?_
  intro p e s m args below meth c ls E h hr hk hl
  have hx := E.1
  have hb := E.2.1
  refine lv_iload_n hx hb dX6_has_0 rfl (lv_at hl 1 rfl) ?_
  refine lv_iconst (v := 0) hx hb dX6_has_1 (by decide) ?_
  refine lv_aload_n hx hb dX6_has_2 rfl (lv_at hl 0 rfl) ?_
  refine r_get E h 6 (v := .int (σ.1 13)) (eX_8 cy a σ) rfl fw_X6 (by decide) fl_X6_36 rfl dX6_has_3 ?_
  refine lv_iconst (v := 1) hx hb dX6_has_6 (by decide) ?_
  refine lv_isub hx hb dX6_has_7 ?_
  refine k_i h (q_runSN (As := [.int x, .int 0, .int ((σ.1 13) - 1)]) (rest := []) E h (c_X11_isWithin l D cy a σ x 0 ((σ.1 13) - 1)) co_X11_isWithin nl_X6_40 st_X11_isWithin in_X11 ok_X11_isWithin rfl ⟨by decide, by decide⟩ hl.1 rfl (Nat.le_of_ble_eq_true rfl) dX6_has_8 ⟨Nat.zero_le _, Nat.zero_le _⟩) (wX_fst cy a) (fun r8 τ8 H locs p8 h => ?_)
  rw [p8.1] at h
  exact t_z E h hr hk p8.2.z ⟨rfl, p8.2⟩ dX6_has_11

set_option maxHeartbeats 4000000 in
set_option maxRecDepth 100000 in
theorem c_X9_addAqueduct (l : Launch) (D : va_G) (cy : Nat → ClassId) (a : Nat → Nat) (σ : St) (x : Int32) (q : Nat) (hq : σ.1 10 = nI q) (h4 : q ≤ 4) : CI l yX9_addAqueduct cX9_addAqueduct 2 (some .int) (rmOf 0 0) D cy (wX cy a) (AX a) [.ref (a 6), .int x] σ (fun r τ => (q = 4 ∧ r = -5 ∧ τ = σ) ∨ (q < 4 ∧ r = nI q ∧ τ = fF (fR σ 33 (upd (σ.2.1 33) q x)) 10 (nI (q + 1)))) := by
  refine c_of (lv := [(0, .ref (a 6)), (1, .int x)]) rfl (Nat.le_of_ble_eq_true rfl) rfl ?_
  intro p e s m args below meth c ls E h hr hk hl
  have hx := E.1
  have hb := E.2.1
  refine lv_aload_n hx hb dX9_addAqueduct_0 rfl (lv_at hl 0 rfl) ?_
  refine r_get E h 5 (v := .int (nI q)) (eX_6 cy a σ) rfl fw_X9 (by decide) fl_X9_27 (congrArg (fun z => some (Value.int z)) hq) dX9_addAqueduct_1 ?_
  refine lv_iconst (v := 4) hx hb dX9_addAqueduct_4 (by decide) ?_
  refine lv_icmp_lt (tgt := 11) hx hb dX9_addAqueduct_5 (by decide) (fun c5 => ?_) (fun c5 => ?_)
  · have c5 : q < 4 := n_lt (by omega) (by decide) c5
    refine lv_aload_n hx hb dX9_addAqueduct_11 rfl (lv_at hl 0 rfl) ?_
    refine r_get E h 0 (v := .ref (a 33)) (eX_6 cy a σ) rfl fw_X9 (by decide) fl_X9_9 rfl dX9_addAqueduct_12 ?_
    refine lv_aload_n hx hb dX9_addAqueduct_15 rfl (lv_at hl 0 rfl) ?_
    refine r_get E h 5 (v := .int (nI q)) (eX_6 cy a σ) rfl fw_X9 (by decide) fl_X9_27 (congrArg (fun z => some (Value.int z)) hq) dX9_addAqueduct_16 ?_
    refine lv_iload_n hx hb dX9_addAqueduct_19 rfl (lv_at hl 1 rfl) ?_
    refine r_iastN E h (f := σ.2.1 33) (eX_33 cy a σ) (j := q) c5 (by decide) (qX_33 cy a σ (upd (σ.2.1 33) q x)) dX9_addAqueduct_20 (fun H locs h => ?_)
    refine lv_aload_n hx hb dX9_addAqueduct_21 rfl (lv_at hl 0 rfl) ?_
    refine lv_dup hx hb dX9_addAqueduct_22 rfl ?_
    refine r_get E h 5 (v := .int (nI q)) (eX_6 cy a (fR σ 33 (upd (σ.2.1 33) q x))) rfl fw_X9 (by decide) fl_X9_27 (congrArg (fun z => some (Value.int z)) hq) dX9_addAqueduct_23 ?_
    refine lv_iconst (v := 1) hx hb dX9_addAqueduct_26 (by decide) ?_
    refine n_add (j := q) (k := 1) hx hb dX9_addAqueduct_27 ?_
    refine r_put E h 5 (ty := .int) (eX_6 cy a (fR σ 33 (upd (σ.2.1 33) q x))) rfl fw_X9 tyX9_ok nmX9 (by decide) fl_X9_27 rfl (by decide +kernel) rfl rfl (Nat.le_of_ble_eq_true rfl) (sX_10 cy a (fR σ 33 (upd (σ.2.1 33) q x)) (nI (q + 1))) dX9_addAqueduct_28 (fun H locs h => ?_)
    refine lv_aload_n hx hb dX9_addAqueduct_31 rfl (lv_at hl 0 rfl) ?_
    refine r_get E h 5 (v := .int (nI (q + 1))) (eX_6 cy a (fF (fR σ 33 (upd (σ.2.1 33) q x)) 10 (nI (q + 1)))) rfl fw_X9 (by decide) fl_X9_27 rfl dX9_addAqueduct_32 ?_
    refine lv_iconst (v := 1) hx hb dX9_addAqueduct_35 (by decide) ?_
    refine n_sub1 hx hb dX9_addAqueduct_36 ?_
    exact t_i E h hr hk (Or.inr ⟨c5, rfl, rfl⟩) dX9_addAqueduct_37
  · have c5 : 4 ≤ q := n_nlt (by omega) (by decide) c5
    refine lv_bipush (v := -5) hx hb dX9_addAqueduct_8 (by decide) ?_
    exact t_i E h hr hk (Or.inl ⟨by omega, rfl, rfl⟩) dX9_addAqueduct_10

set_option maxHeartbeats 4000000 in
set_option maxRecDepth 100000 in
theorem c_X1_add (l : Launch) (D : va_G) (cy : Nat → ClassId) (a : Nat → Nat) (σ : St) (x y z : Int32) (n : Nat) (hn : σ.1 9 = nI n) (hn6 : n ≤ 60) : CI l yX1_add cX1_add 4 (some .int) (rmOf 0 0) D cy (wX cy a) (AX a) [.ref (a 5), .int x, .int y, .int z] σ (fun r τ => (n = 60 ∧ r = -5 ∧ τ = σ) ∨ (n < 60 ∧ r = nI (n + 1) ∧ τ = fF (fR (fR (fR σ 29 (upd (σ.2.1 29) n x)) 30 (upd (σ.2.1 30) n y)) 31 (upd (σ.2.1 31) n z)) 9 (nI (n + 1)))) := by
  refine c_of (lv := [(0, .ref (a 5)), (1, .int x), (2, .int y), (3, .int z)]) rfl (Nat.le_of_ble_eq_true rfl) rfl ?_
  intro p e s m args below meth c ls E h hr hk hl
  have hx := E.1
  have hb := E.2.1
  refine lv_aload_n hx hb dX1_add_0 rfl (lv_at hl 0 rfl) ?_
  refine r_get E h 4 (v := .int (nI n)) (eX_5 cy a σ) rfl fw_X1 (by decide) fl_X1_24 (congrArg (fun z => some (Value.int z)) hn) dX1_add_1 ?_
  refine lv_bipush (v := 60) hx hb dX1_add_4 (by decide) ?_
  refine lv_icmp_lt (tgt := 12) hx hb dX1_add_6 (by decide) (fun c6 => ?_) (fun c6 => ?_)
  · have c6 : n < 60 := n_lt (by omega) (by decide) c6
    refine lv_aload_n hx hb dX1_add_12 rfl (lv_at hl 0 rfl) ?_
    refine r_get E h 0 (v := .ref (a 29)) (eX_5 cy a σ) rfl fw_X1 (by decide) fl_X1_9 rfl dX1_add_13 ?_
    refine lv_aload_n hx hb dX1_add_16 rfl (lv_at hl 0 rfl) ?_
    refine r_get E h 4 (v := .int (nI n)) (eX_5 cy a σ) rfl fw_X1 (by decide) fl_X1_24 (congrArg (fun z => some (Value.int z)) hn) dX1_add_17 ?_
    refine lv_iload_n hx hb dX1_add_20 rfl (lv_at hl 1 rfl) ?_
    refine r_iastN E h (f := σ.2.1 29) (eX_29 cy a σ) (j := n) c6 (by decide) (qX_29 cy a σ (upd (σ.2.1 29) n x)) dX1_add_21 (fun H locs h => ?_)
    refine lv_aload_n hx hb dX1_add_22 rfl (lv_at hl 0 rfl) ?_
    refine r_get E h 1 (v := .ref (a 30)) (eX_5 cy a (fR σ 29 (upd (σ.2.1 29) n x))) rfl fw_X1 (by decide) fl_X1_15 rfl dX1_add_23 ?_
    refine lv_aload_n hx hb dX1_add_26 rfl (lv_at hl 0 rfl) ?_
    refine r_get E h 4 (v := .int (nI n)) (eX_5 cy a (fR σ 29 (upd (σ.2.1 29) n x))) rfl fw_X1 (by decide) fl_X1_24 (congrArg (fun z => some (Value.int z)) hn) dX1_add_27 ?_
    refine lv_iload_n hx hb dX1_add_30 rfl (lv_at hl 2 rfl) ?_
    refine r_iastN E h (f := σ.2.1 30) (eX_30 cy a (fR σ 29 (upd (σ.2.1 29) n x))) (j := n) c6 (by decide) (qX_30 cy a (fR σ 29 (upd (σ.2.1 29) n x)) (upd (σ.2.1 30) n y)) dX1_add_31 (fun H locs h => ?_)
    refine lv_aload_n hx hb dX1_add_32 rfl (lv_at hl 0 rfl) ?_
    refine r_get E h 2 (v := .ref (a 31)) (eX_5 cy a (fR (fR σ 29 (upd (σ.2.1 29) n x)) 30 (upd (σ.2.1 30) n y))) rfl fw_X1 (by decide) fl_X1_18 rfl dX1_add_33 ?_
    refine lv_aload_n hx hb dX1_add_36 rfl (lv_at hl 0 rfl) ?_
    refine r_get E h 4 (v := .int (nI n)) (eX_5 cy a (fR (fR σ 29 (upd (σ.2.1 29) n x)) 30 (upd (σ.2.1 30) n y))) rfl fw_X1 (by decide) fl_X1_24 (congrArg (fun z => some (Value.int z)) hn) dX1_add_37 ?_
    refine lv_iload_n hx hb dX1_add_40 rfl (lv_at hl 3 rfl) ?_
    refine r_iastN E h (f := σ.2.1 31) (eX_31 cy a (fR (fR σ 29 (upd (σ.2.1 29) n x)) 30 (upd (σ.2.1 30) n y))) (j := n) c6 (by decide) (qX_31 cy a (fR (fR σ 29 (upd (σ.2.1 29) n x)) 30 (upd (σ.2.1 30) n y)) (upd (σ.2.1 31) n z)) dX1_add_41 (fun H locs h => ?_)
    refine lv_aload_n hx hb dX1_add_42 rfl (lv_at hl 0 rfl) ?_
    refine lv_dup hx hb dX1_add_43 rfl ?_
    refine r_get E h 4 (v := .int (nI n)) (eX_5 cy a (fR (fR (fR σ 29 (upd (σ.2.1 29) n x)) 30 (upd (σ.2.1 30) n y)) 31 (upd (σ.2.1 31) n z))) rfl fw_X1 (by decide) fl_X1_24 (congrArg (fun z => some (Value.int z)) hn) dX1_add_44 ?_
    refine lv_iconst (v := 1) hx hb dX1_add_47 (by decide) ?_
    refine n_add (j := n) (k := 1) hx hb dX1_add_48 ?_
    refine r_put E h 4 (ty := .int) (eX_5 cy a (fR (fR (fR σ 29 (upd (σ.2.1 29) n x)) 30 (upd (σ.2.1 30) n y)) 31 (upd (σ.2.1 31) n z))) rfl fw_X1 tyX1_ok nmX1 (by decide) fl_X1_24 rfl (by decide +kernel) rfl rfl (Nat.le_of_ble_eq_true rfl) (sX_9 cy a (fR (fR (fR σ 29 (upd (σ.2.1 29) n x)) 30 (upd (σ.2.1 30) n y)) 31 (upd (σ.2.1 31) n z)) (nI (n + 1))) dX1_add_49 (fun H locs h => ?_)
    refine lv_aload_n hx hb dX1_add_52 rfl (lv_at hl 0 rfl) ?_
    refine r_get E h 4 (v := .int (nI (n + 1))) (eX_5 cy a (fF (fR (fR (fR σ 29 (upd (σ.2.1 29) n x)) 30 (upd (σ.2.1 30) n y)) 31 (upd (σ.2.1 31) n z)) 9 (nI (n + 1)))) rfl fw_X1 (by decide) fl_X1_24 rfl dX1_add_53 ?_
    exact t_i E h hr hk (Or.inr ⟨c6, rfl, rfl⟩) dX1_add_56
  · have c6 : 60 ≤ n := n_nlt (by omega) (by decide) c6
    refine lv_bipush (v := -5) hx hb dX1_add_9 (by decide) ?_
    exact t_i E h hr hk (Or.inl ⟨by omega, rfl, rfl⟩) dX1_add_11
end
section
set_option maxHeartbeats 4000000 in
set_option maxRecDepth 100000 in
theorem c_X3_put_gC (l : Launch) (D : va_G) (cy : Nat → ClassId) (a : Nat → Nat) (σ : St) (j : Nat) (x : Int32) (z : Nat) (hj : j < 12) (hz : σ.2.1 53 j = nI z) (hw : z ≤ 12) : CV l yX3_put cX3_put 3 none (rmOf 1 22) D cy (wX cy a) (AX a) [.ref (a 11), .int (nI j), .int x] σ (fun τ => (z = 12 ∧ τ = σ) ∨ (z < 12 ∧ τ = fR (fR σ 52 (upd (σ.2.1 52) ((j * 12) + z) x)) 53 (upd (σ.2.1 53) j (nI (z + 1))))) := by
  refine c_of (lv := [(0, .ref (a 11)), (1, .int (nI j)), (2, .int x)]) rfl (Nat.le_of_ble_eq_true rfl) rfl ?_
  intro p e s m args below meth c ls E h hr hk hl
  have hx := E.1
  have hb := E.2.1
  refine lv_iload_n hx hb dX3_put_0 rfl (lv_at hl 1 rfl) ?_
  refine lv_iconst (v := 0) hx hb dX3_put_1 (by decide) ?_
  refine lv_bipush (v := 11) hx hb dX3_put_2 (by decide) ?_
  refine k_i h (q_runSN (As := [.int (nI j), .int 0, .int 11]) (rest := []) E h (c_X11_isWithin l D cy a σ (nI j) 0 11) co_X11_isWithin nl_X3_22 st_X11_isWithin in_X11 ok_X11_isWithin rfl ⟨by decide, by decide⟩ hl.1 rfl (Nat.le_of_ble_eq_true rfl) dX3_put_4 ⟨Nat.zero_le _, Nat.zero_le _⟩) (wX_fst cy a) (fun r4 τ4 H locs p4 h => ?_)
  rw [p4.1] at h
  refine lv_if_eq (tgt := 23) hx hb dX3_put_7 (by decide) (fun c7 => ?_) (fun c7 => ?_)
  · exact absurd ⟨nI_pos' (by omega), (nI_leI (a := j) (b := 11) (by omega) (by decide)).mpr (by omega)⟩ (p4.2.f c7)
  · refine lv_aload_n hx hb dX3_put_10 rfl (lv_at hl 0 rfl) ?_
    refine r_get E h 2 (v := .ref (a 53)) (eX_11 cy a σ) rfl fw_X3 (by decide) fl_X3_9 rfl dX3_put_11 ?_
    refine lv_iload_n hx hb dX3_put_14 rfl (lv_at hl 1 rfl) ?_
    refine r_ialdN E h (f := σ.2.1 53) (eX_53 cy a σ) (j := j) hj (by decide) (v := nI z) hz dX3_put_15 ?_
    refine lv_aload_n hx hb dX3_put_16 rfl (lv_at hl 0 rfl) ?_
    refine r_get E h 0 (v := .int 12) (eX_11 cy a σ) rfl fw_X3 (by decide) fl_X3_15 rfl dX3_put_17 ?_
    refine lv_icmp_lt (tgt := 24) hx hb dX3_put_20 (by decide) (fun c20 => ?_) (fun c20 => ?_)
    · have c20 : z < 12 := n_lt (by omega) (by decide) c20
      refine lv_aload_n hx hb dX3_put_24 rfl (lv_at hl 0 rfl) ?_
      refine r_get E h 1 (v := .ref (a 52)) (eX_11 cy a σ) rfl fw_X3 (by decide) fl_X3_19 rfl dX3_put_25 ?_
      refine lv_iload_n hx hb dX3_put_28 rfl (lv_at hl 1 rfl) ?_
      refine lv_aload_n hx hb dX3_put_29 rfl (lv_at hl 0 rfl) ?_
      refine r_get E h 0 (v := .int 12) (eX_11 cy a σ) rfl fw_X3 (by decide) fl_X3_15 rfl dX3_put_30 ?_
      refine n_mul (j := j) (k := 12) hx hb dX3_put_33 ?_
      refine lv_aload_n hx hb dX3_put_34 rfl (lv_at hl 0 rfl) ?_
      refine r_get E h 2 (v := .ref (a 53)) (eX_11 cy a σ) rfl fw_X3 (by decide) fl_X3_9 rfl dX3_put_35 ?_
      refine lv_iload_n hx hb dX3_put_38 rfl (lv_at hl 1 rfl) ?_
      refine r_ialdN E h (f := σ.2.1 53) (eX_53 cy a σ) (j := j) hj (by decide) (v := nI z) hz dX3_put_39 ?_
      refine n_add (j := j * 12) (k := z) hx hb dX3_put_40 ?_
      refine lv_iload_n hx hb dX3_put_41 rfl (lv_at hl 2 rfl) ?_
      refine r_iastN E h (f := σ.2.1 52) (eX_52 cy a σ) (j := (j * 12) + z) (by omega) (by decide) (qX_52 cy a σ (upd (σ.2.1 52) ((j * 12) + z) x)) dX3_put_42 (fun H locs h => ?_)
      refine lv_aload_n hx hb dX3_put_43 rfl (lv_at hl 0 rfl) ?_
      refine r_get E h 2 (v := .ref (a 53)) (eX_11 cy a (fR σ 52 (upd (σ.2.1 52) ((j * 12) + z) x))) rfl fw_X3 (by decide) fl_X3_9 rfl dX3_put_44 ?_
      refine lv_iload_n hx hb dX3_put_47 rfl (lv_at hl 1 rfl) ?_
      refine lv_dup2_11 hx hb dX3_put_48 rfl rfl ?_
      refine r_ialdN E h (f := σ.2.1 53) (eX_53 cy a (fR σ 52 (upd (σ.2.1 52) ((j * 12) + z) x))) (j := j) hj (by decide) (v := nI z) hz dX3_put_49 ?_
      refine lv_iconst (v := 1) hx hb dX3_put_50 (by decide) ?_
      refine n_add (j := z) (k := 1) hx hb dX3_put_51 ?_
      refine r_iastN E h (f := σ.2.1 53) (eX_53 cy a (fR σ 52 (upd (σ.2.1 52) ((j * 12) + z) x))) (j := j) hj (by decide) (qX_53 cy a (fR σ 52 (upd (σ.2.1 52) ((j * 12) + z) x)) (upd (σ.2.1 53) j (nI (z + 1)))) dX3_put_52 (fun H locs h => ?_)
      exact t_v E h hr hk (Or.inr ⟨c20, rfl⟩) dX3_put_53
    · have c20 : 12 ≤ z := n_nlt (by omega) (by decide) c20
      exact t_v E h hr hk (Or.inl ⟨by omega, rfl⟩) dX3_put_23

set_option maxHeartbeats 4000000 in
set_option maxRecDepth 100000 in
theorem c_X3_member_gC (l : Launch) (D : va_G) (cy : Nat → ClassId) (a : Nat → Nat) (σ : St) (j i : Nat) (hj : j < 12) (hi : i < 12) : CI l yX3_member cX3_member 3 (some .int) (rmOf 0 0) D cy (wX cy a) (AX a) [.ref (a 11), .int (nI j), .int (nI i)] σ (fun r τ => τ = σ ∧ r = σ.2.1 52 ((j * 12) + i)) := by
  refine c_of (lv := [(0, .ref (a 11)), (1, .int (nI j)), (2, .int (nI i))]) rfl (Nat.le_of_ble_eq_true rfl) rfl ?_
  intro p e s m args below meth c ls E h hr hk hl
  have hx := E.1
  have hb := E.2.1
  refine lv_aload_n hx hb dX3_member_0 rfl (lv_at hl 0 rfl) ?_
  refine r_get E h 1 (v := .ref (a 52)) (eX_11 cy a σ) rfl fw_X3 (by decide) fl_X3_19 rfl dX3_member_1 ?_
  refine lv_iload_n hx hb dX3_member_4 rfl (lv_at hl 1 rfl) ?_
  refine lv_aload_n hx hb dX3_member_5 rfl (lv_at hl 0 rfl) ?_
  refine r_get E h 0 (v := .int 12) (eX_11 cy a σ) rfl fw_X3 (by decide) fl_X3_15 rfl dX3_member_6 ?_
  refine n_mul (j := j) (k := 12) hx hb dX3_member_9 ?_
  refine lv_iload_n hx hb dX3_member_10 rfl (lv_at hl 2 rfl) ?_
  refine n_add (j := j * 12) (k := i) hx hb dX3_member_11 ?_
  refine r_ialdN E h (f := σ.2.1 52) (eX_52 cy a σ) (j := (j * 12) + i) (by omega) (by decide) (v := σ.2.1 52 ((j * 12) + i)) rfl dX3_member_12 ?_
  exact t_i E h hr hk ⟨rfl, rfl⟩ dX3_member_13

set_option maxHeartbeats 4000000 in
set_option maxRecDepth 100000 in
theorem c_X3_put_gN (l : Launch) (D : va_G) (cy : Nat → ClassId) (a : Nat → Nat) (σ : St) (j : Nat) (x : Int32) (z : Nat) (hj : j < 12) (hz : σ.2.1 55 j = nI z) (hw : z ≤ 80) : CV l yX3_put cX3_put 3 none (rmOf 1 22) D cy (wX cy a) (AX a) [.ref (a 12), .int (nI j), .int x] σ (fun τ => (z = 80 ∧ τ = σ) ∨ (z < 80 ∧ τ = fR (fR σ 54 (upd (σ.2.1 54) ((j * 80) + z) x)) 55 (upd (σ.2.1 55) j (nI (z + 1))))) := by
  refine c_of (lv := [(0, .ref (a 12)), (1, .int (nI j)), (2, .int x)]) rfl (Nat.le_of_ble_eq_true rfl) rfl ?_
  intro p e s m args below meth c ls E h hr hk hl
  have hx := E.1
  have hb := E.2.1
  refine lv_iload_n hx hb dX3_put_0 rfl (lv_at hl 1 rfl) ?_
  refine lv_iconst (v := 0) hx hb dX3_put_1 (by decide) ?_
  refine lv_bipush (v := 11) hx hb dX3_put_2 (by decide) ?_
  refine k_i h (q_runSN (As := [.int (nI j), .int 0, .int 11]) (rest := []) E h (c_X11_isWithin l D cy a σ (nI j) 0 11) co_X11_isWithin nl_X3_22 st_X11_isWithin in_X11 ok_X11_isWithin rfl ⟨by decide, by decide⟩ hl.1 rfl (Nat.le_of_ble_eq_true rfl) dX3_put_4 ⟨Nat.zero_le _, Nat.zero_le _⟩) (wX_fst cy a) (fun r4 τ4 H locs p4 h => ?_)
  rw [p4.1] at h
  refine lv_if_eq (tgt := 23) hx hb dX3_put_7 (by decide) (fun c7 => ?_) (fun c7 => ?_)
  · exact absurd ⟨nI_pos' (by omega), (nI_leI (a := j) (b := 11) (by omega) (by decide)).mpr (by omega)⟩ (p4.2.f c7)
  · refine lv_aload_n hx hb dX3_put_10 rfl (lv_at hl 0 rfl) ?_
    refine r_get E h 2 (v := .ref (a 55)) (eX_12 cy a σ) rfl fw_X3 (by decide) fl_X3_9 rfl dX3_put_11 ?_
    refine lv_iload_n hx hb dX3_put_14 rfl (lv_at hl 1 rfl) ?_
    refine r_ialdN E h (f := σ.2.1 55) (eX_55 cy a σ) (j := j) hj (by decide) (v := nI z) hz dX3_put_15 ?_
    refine lv_aload_n hx hb dX3_put_16 rfl (lv_at hl 0 rfl) ?_
    refine r_get E h 0 (v := .int 80) (eX_12 cy a σ) rfl fw_X3 (by decide) fl_X3_15 rfl dX3_put_17 ?_
    refine lv_icmp_lt (tgt := 24) hx hb dX3_put_20 (by decide) (fun c20 => ?_) (fun c20 => ?_)
    · have c20 : z < 80 := n_lt (by omega) (by decide) c20
      refine lv_aload_n hx hb dX3_put_24 rfl (lv_at hl 0 rfl) ?_
      refine r_get E h 1 (v := .ref (a 54)) (eX_12 cy a σ) rfl fw_X3 (by decide) fl_X3_19 rfl dX3_put_25 ?_
      refine lv_iload_n hx hb dX3_put_28 rfl (lv_at hl 1 rfl) ?_
      refine lv_aload_n hx hb dX3_put_29 rfl (lv_at hl 0 rfl) ?_
      refine r_get E h 0 (v := .int 80) (eX_12 cy a σ) rfl fw_X3 (by decide) fl_X3_15 rfl dX3_put_30 ?_
      refine n_mul (j := j) (k := 80) hx hb dX3_put_33 ?_
      refine lv_aload_n hx hb dX3_put_34 rfl (lv_at hl 0 rfl) ?_
      refine r_get E h 2 (v := .ref (a 55)) (eX_12 cy a σ) rfl fw_X3 (by decide) fl_X3_9 rfl dX3_put_35 ?_
      refine lv_iload_n hx hb dX3_put_38 rfl (lv_at hl 1 rfl) ?_
      refine r_ialdN E h (f := σ.2.1 55) (eX_55 cy a σ) (j := j) hj (by decide) (v := nI z) hz dX3_put_39 ?_
      refine n_add (j := j * 80) (k := z) hx hb dX3_put_40 ?_
      refine lv_iload_n hx hb dX3_put_41 rfl (lv_at hl 2 rfl) ?_
      refine r_iastN E h (f := σ.2.1 54) (eX_54 cy a σ) (j := (j * 80) + z) (by omega) (by decide) (qX_54 cy a σ (upd (σ.2.1 54) ((j * 80) + z) x)) dX3_put_42 (fun H locs h => ?_)
      refine lv_aload_n hx hb dX3_put_43 rfl (lv_at hl 0 rfl) ?_
      refine r_get E h 2 (v := .ref (a 55)) (eX_12 cy a (fR σ 54 (upd (σ.2.1 54) ((j * 80) + z) x))) rfl fw_X3 (by decide) fl_X3_9 rfl dX3_put_44 ?_
      refine lv_iload_n hx hb dX3_put_47 rfl (lv_at hl 1 rfl) ?_
      refine lv_dup2_11 hx hb dX3_put_48 rfl rfl ?_
      refine r_ialdN E h (f := σ.2.1 55) (eX_55 cy a (fR σ 54 (upd (σ.2.1 54) ((j * 80) + z) x))) (j := j) hj (by decide) (v := nI z) hz dX3_put_49 ?_
      refine lv_iconst (v := 1) hx hb dX3_put_50 (by decide) ?_
      refine n_add (j := z) (k := 1) hx hb dX3_put_51 ?_
      refine r_iastN E h (f := σ.2.1 55) (eX_55 cy a (fR σ 54 (upd (σ.2.1 54) ((j * 80) + z) x))) (j := j) hj (by decide) (qX_55 cy a (fR σ 54 (upd (σ.2.1 54) ((j * 80) + z) x)) (upd (σ.2.1 55) j (nI (z + 1)))) dX3_put_52 (fun H locs h => ?_)
      exact t_v E h hr hk (Or.inr ⟨c20, rfl⟩) dX3_put_53
    · have c20 : 80 ≤ z := n_nlt (by omega) (by decide) c20
      exact t_v E h hr hk (Or.inl ⟨by omega, rfl⟩) dX3_put_23

set_option maxHeartbeats 4000000 in
set_option maxRecDepth 100000 in
theorem c_X3_member_gN (l : Launch) (D : va_G) (cy : Nat → ClassId) (a : Nat → Nat) (σ : St) (j i : Nat) (hj : j < 12) (hi : i < 80) : CI l yX3_member cX3_member 3 (some .int) (rmOf 0 0) D cy (wX cy a) (AX a) [.ref (a 12), .int (nI j), .int (nI i)] σ (fun r τ => τ = σ ∧ r = σ.2.1 54 ((j * 80) + i)) := by
  refine c_of (lv := [(0, .ref (a 12)), (1, .int (nI j)), (2, .int (nI i))]) rfl (Nat.le_of_ble_eq_true rfl) rfl ?_
  intro p e s m args below meth c ls E h hr hk hl
  have hx := E.1
  have hb := E.2.1
  refine lv_aload_n hx hb dX3_member_0 rfl (lv_at hl 0 rfl) ?_
  refine r_get E h 1 (v := .ref (a 54)) (eX_12 cy a σ) rfl fw_X3 (by decide) fl_X3_19 rfl dX3_member_1 ?_
  refine lv_iload_n hx hb dX3_member_4 rfl (lv_at hl 1 rfl) ?_
  refine lv_aload_n hx hb dX3_member_5 rfl (lv_at hl 0 rfl) ?_
  refine r_get E h 0 (v := .int 80) (eX_12 cy a σ) rfl fw_X3 (by decide) fl_X3_15 rfl dX3_member_6 ?_
  refine n_mul (j := j) (k := 80) hx hb dX3_member_9 ?_
  refine lv_iload_n hx hb dX3_member_10 rfl (lv_at hl 2 rfl) ?_
  refine n_add (j := j * 80) (k := i) hx hb dX3_member_11 ?_
  refine r_ialdN E h (f := σ.2.1 54) (eX_54 cy a σ) (j := (j * 80) + i) (by omega) (by decide) (v := σ.2.1 54 ((j * 80) + i)) rfl dX3_member_12 ?_
  exact t_i E h hr hk ⟨rfl, rfl⟩ dX3_member_13

set_option maxHeartbeats 4000000 in
set_option maxRecDepth 100000 in
theorem c_X3_put_gT (l : Launch) (D : va_G) (cy : Nat → ClassId) (a : Nat → Nat) (σ : St) (j : Nat) (x : Int32) (z : Nat) (hj : j < 12) (hz : σ.2.1 57 j = nI z) (hw : z ≤ 60) : CV l yX3_put cX3_put 3 none (rmOf 1 22) D cy (wX cy a) (AX a) [.ref (a 13), .int (nI j), .int x] σ (fun τ => (z = 60 ∧ τ = σ) ∨ (z < 60 ∧ τ = fR (fR σ 56 (upd (σ.2.1 56) ((j * 60) + z) x)) 57 (upd (σ.2.1 57) j (nI (z + 1))))) := by
  refine c_of (lv := [(0, .ref (a 13)), (1, .int (nI j)), (2, .int x)]) rfl (Nat.le_of_ble_eq_true rfl) rfl ?_
  intro p e s m args below meth c ls E h hr hk hl
  have hx := E.1
  have hb := E.2.1
  refine lv_iload_n hx hb dX3_put_0 rfl (lv_at hl 1 rfl) ?_
  refine lv_iconst (v := 0) hx hb dX3_put_1 (by decide) ?_
  refine lv_bipush (v := 11) hx hb dX3_put_2 (by decide) ?_
  refine k_i h (q_runSN (As := [.int (nI j), .int 0, .int 11]) (rest := []) E h (c_X11_isWithin l D cy a σ (nI j) 0 11) co_X11_isWithin nl_X3_22 st_X11_isWithin in_X11 ok_X11_isWithin rfl ⟨by decide, by decide⟩ hl.1 rfl (Nat.le_of_ble_eq_true rfl) dX3_put_4 ⟨Nat.zero_le _, Nat.zero_le _⟩) (wX_fst cy a) (fun r4 τ4 H locs p4 h => ?_)
  rw [p4.1] at h
  refine lv_if_eq (tgt := 23) hx hb dX3_put_7 (by decide) (fun c7 => ?_) (fun c7 => ?_)
  · exact absurd ⟨nI_pos' (by omega), (nI_leI (a := j) (b := 11) (by omega) (by decide)).mpr (by omega)⟩ (p4.2.f c7)
  · refine lv_aload_n hx hb dX3_put_10 rfl (lv_at hl 0 rfl) ?_
    refine r_get E h 2 (v := .ref (a 57)) (eX_13 cy a σ) rfl fw_X3 (by decide) fl_X3_9 rfl dX3_put_11 ?_
    refine lv_iload_n hx hb dX3_put_14 rfl (lv_at hl 1 rfl) ?_
    refine r_ialdN E h (f := σ.2.1 57) (eX_57 cy a σ) (j := j) hj (by decide) (v := nI z) hz dX3_put_15 ?_
    refine lv_aload_n hx hb dX3_put_16 rfl (lv_at hl 0 rfl) ?_
    refine r_get E h 0 (v := .int 60) (eX_13 cy a σ) rfl fw_X3 (by decide) fl_X3_15 rfl dX3_put_17 ?_
    refine lv_icmp_lt (tgt := 24) hx hb dX3_put_20 (by decide) (fun c20 => ?_) (fun c20 => ?_)
    · have c20 : z < 60 := n_lt (by omega) (by decide) c20
      refine lv_aload_n hx hb dX3_put_24 rfl (lv_at hl 0 rfl) ?_
      refine r_get E h 1 (v := .ref (a 56)) (eX_13 cy a σ) rfl fw_X3 (by decide) fl_X3_19 rfl dX3_put_25 ?_
      refine lv_iload_n hx hb dX3_put_28 rfl (lv_at hl 1 rfl) ?_
      refine lv_aload_n hx hb dX3_put_29 rfl (lv_at hl 0 rfl) ?_
      refine r_get E h 0 (v := .int 60) (eX_13 cy a σ) rfl fw_X3 (by decide) fl_X3_15 rfl dX3_put_30 ?_
      refine n_mul (j := j) (k := 60) hx hb dX3_put_33 ?_
      refine lv_aload_n hx hb dX3_put_34 rfl (lv_at hl 0 rfl) ?_
      refine r_get E h 2 (v := .ref (a 57)) (eX_13 cy a σ) rfl fw_X3 (by decide) fl_X3_9 rfl dX3_put_35 ?_
      refine lv_iload_n hx hb dX3_put_38 rfl (lv_at hl 1 rfl) ?_
      refine r_ialdN E h (f := σ.2.1 57) (eX_57 cy a σ) (j := j) hj (by decide) (v := nI z) hz dX3_put_39 ?_
      refine n_add (j := j * 60) (k := z) hx hb dX3_put_40 ?_
      refine lv_iload_n hx hb dX3_put_41 rfl (lv_at hl 2 rfl) ?_
      refine r_iastN E h (f := σ.2.1 56) (eX_56 cy a σ) (j := (j * 60) + z) (by omega) (by decide) (qX_56 cy a σ (upd (σ.2.1 56) ((j * 60) + z) x)) dX3_put_42 (fun H locs h => ?_)
      refine lv_aload_n hx hb dX3_put_43 rfl (lv_at hl 0 rfl) ?_
      refine r_get E h 2 (v := .ref (a 57)) (eX_13 cy a (fR σ 56 (upd (σ.2.1 56) ((j * 60) + z) x))) rfl fw_X3 (by decide) fl_X3_9 rfl dX3_put_44 ?_
      refine lv_iload_n hx hb dX3_put_47 rfl (lv_at hl 1 rfl) ?_
      refine lv_dup2_11 hx hb dX3_put_48 rfl rfl ?_
      refine r_ialdN E h (f := σ.2.1 57) (eX_57 cy a (fR σ 56 (upd (σ.2.1 56) ((j * 60) + z) x))) (j := j) hj (by decide) (v := nI z) hz dX3_put_49 ?_
      refine lv_iconst (v := 1) hx hb dX3_put_50 (by decide) ?_
      refine n_add (j := z) (k := 1) hx hb dX3_put_51 ?_
      refine r_iastN E h (f := σ.2.1 57) (eX_57 cy a (fR σ 56 (upd (σ.2.1 56) ((j * 60) + z) x))) (j := j) hj (by decide) (qX_57 cy a (fR σ 56 (upd (σ.2.1 56) ((j * 60) + z) x)) (upd (σ.2.1 57) j (nI (z + 1)))) dX3_put_52 (fun H locs h => ?_)
      exact t_v E h hr hk (Or.inr ⟨c20, rfl⟩) dX3_put_53
    · have c20 : 60 ≤ z := n_nlt (by omega) (by decide) c20
      exact t_v E h hr hk (Or.inl ⟨by omega, rfl⟩) dX3_put_23

set_option maxHeartbeats 4000000 in
set_option maxRecDepth 100000 in
theorem c_X3_member_gT (l : Launch) (D : va_G) (cy : Nat → ClassId) (a : Nat → Nat) (σ : St) (j i : Nat) (hj : j < 12) (hi : i < 60) : CI l yX3_member cX3_member 3 (some .int) (rmOf 0 0) D cy (wX cy a) (AX a) [.ref (a 13), .int (nI j), .int (nI i)] σ (fun r τ => τ = σ ∧ r = σ.2.1 56 ((j * 60) + i)) := by
  refine c_of (lv := [(0, .ref (a 13)), (1, .int (nI j)), (2, .int (nI i))]) rfl (Nat.le_of_ble_eq_true rfl) rfl ?_
  intro p e s m args below meth c ls E h hr hk hl
  have hx := E.1
  have hb := E.2.1
  refine lv_aload_n hx hb dX3_member_0 rfl (lv_at hl 0 rfl) ?_
  refine r_get E h 1 (v := .ref (a 56)) (eX_13 cy a σ) rfl fw_X3 (by decide) fl_X3_19 rfl dX3_member_1 ?_
  refine lv_iload_n hx hb dX3_member_4 rfl (lv_at hl 1 rfl) ?_
  refine lv_aload_n hx hb dX3_member_5 rfl (lv_at hl 0 rfl) ?_
  refine r_get E h 0 (v := .int 60) (eX_13 cy a σ) rfl fw_X3 (by decide) fl_X3_15 rfl dX3_member_6 ?_
  refine n_mul (j := j) (k := 60) hx hb dX3_member_9 ?_
  refine lv_iload_n hx hb dX3_member_10 rfl (lv_at hl 2 rfl) ?_
  refine n_add (j := j * 60) (k := i) hx hb dX3_member_11 ?_
  refine r_ialdN E h (f := σ.2.1 56) (eX_56 cy a σ) (j := (j * 60) + i) (by omega) (by decide) (v := σ.2.1 56 ((j * 60) + i)) rfl dX3_member_12 ?_
  exact t_i E h hr hk ⟨rfl, rfl⟩ dX3_member_13

set_option maxHeartbeats 4000000 in
set_option maxRecDepth 100000 in
theorem c_X3_put_gR (l : Launch) (D : va_G) (cy : Nat → ClassId) (a : Nat → Nat) (σ : St) (j : Nat) (x : Int32) (z : Nat) (hj : j < 12) (hz : σ.2.1 59 j = nI z) (hw : z ≤ 40) : CV l yX3_put cX3_put 3 none (rmOf 1 22) D cy (wX cy a) (AX a) [.ref (a 14), .int (nI j), .int x] σ (fun τ => (z = 40 ∧ τ = σ) ∨ (z < 40 ∧ τ = fR (fR σ 58 (upd (σ.2.1 58) ((j * 40) + z) x)) 59 (upd (σ.2.1 59) j (nI (z + 1))))) := by
  refine c_of (lv := [(0, .ref (a 14)), (1, .int (nI j)), (2, .int x)]) rfl (Nat.le_of_ble_eq_true rfl) rfl ?_
  intro p e s m args below meth c ls E h hr hk hl
  have hx := E.1
  have hb := E.2.1
  refine lv_iload_n hx hb dX3_put_0 rfl (lv_at hl 1 rfl) ?_
  refine lv_iconst (v := 0) hx hb dX3_put_1 (by decide) ?_
  refine lv_bipush (v := 11) hx hb dX3_put_2 (by decide) ?_
  refine k_i h (q_runSN (As := [.int (nI j), .int 0, .int 11]) (rest := []) E h (c_X11_isWithin l D cy a σ (nI j) 0 11) co_X11_isWithin nl_X3_22 st_X11_isWithin in_X11 ok_X11_isWithin rfl ⟨by decide, by decide⟩ hl.1 rfl (Nat.le_of_ble_eq_true rfl) dX3_put_4 ⟨Nat.zero_le _, Nat.zero_le _⟩) (wX_fst cy a) (fun r4 τ4 H locs p4 h => ?_)
  rw [p4.1] at h
  refine lv_if_eq (tgt := 23) hx hb dX3_put_7 (by decide) (fun c7 => ?_) (fun c7 => ?_)
  · exact absurd ⟨nI_pos' (by omega), (nI_leI (a := j) (b := 11) (by omega) (by decide)).mpr (by omega)⟩ (p4.2.f c7)
  · refine lv_aload_n hx hb dX3_put_10 rfl (lv_at hl 0 rfl) ?_
    refine r_get E h 2 (v := .ref (a 59)) (eX_14 cy a σ) rfl fw_X3 (by decide) fl_X3_9 rfl dX3_put_11 ?_
    refine lv_iload_n hx hb dX3_put_14 rfl (lv_at hl 1 rfl) ?_
    refine r_ialdN E h (f := σ.2.1 59) (eX_59 cy a σ) (j := j) hj (by decide) (v := nI z) hz dX3_put_15 ?_
    refine lv_aload_n hx hb dX3_put_16 rfl (lv_at hl 0 rfl) ?_
    refine r_get E h 0 (v := .int 40) (eX_14 cy a σ) rfl fw_X3 (by decide) fl_X3_15 rfl dX3_put_17 ?_
    refine lv_icmp_lt (tgt := 24) hx hb dX3_put_20 (by decide) (fun c20 => ?_) (fun c20 => ?_)
    · have c20 : z < 40 := n_lt (by omega) (by decide) c20
      refine lv_aload_n hx hb dX3_put_24 rfl (lv_at hl 0 rfl) ?_
      refine r_get E h 1 (v := .ref (a 58)) (eX_14 cy a σ) rfl fw_X3 (by decide) fl_X3_19 rfl dX3_put_25 ?_
      refine lv_iload_n hx hb dX3_put_28 rfl (lv_at hl 1 rfl) ?_
      refine lv_aload_n hx hb dX3_put_29 rfl (lv_at hl 0 rfl) ?_
      refine r_get E h 0 (v := .int 40) (eX_14 cy a σ) rfl fw_X3 (by decide) fl_X3_15 rfl dX3_put_30 ?_
      refine n_mul (j := j) (k := 40) hx hb dX3_put_33 ?_
      refine lv_aload_n hx hb dX3_put_34 rfl (lv_at hl 0 rfl) ?_
      refine r_get E h 2 (v := .ref (a 59)) (eX_14 cy a σ) rfl fw_X3 (by decide) fl_X3_9 rfl dX3_put_35 ?_
      refine lv_iload_n hx hb dX3_put_38 rfl (lv_at hl 1 rfl) ?_
      refine r_ialdN E h (f := σ.2.1 59) (eX_59 cy a σ) (j := j) hj (by decide) (v := nI z) hz dX3_put_39 ?_
      refine n_add (j := j * 40) (k := z) hx hb dX3_put_40 ?_
      refine lv_iload_n hx hb dX3_put_41 rfl (lv_at hl 2 rfl) ?_
      refine r_iastN E h (f := σ.2.1 58) (eX_58 cy a σ) (j := (j * 40) + z) (by omega) (by decide) (qX_58 cy a σ (upd (σ.2.1 58) ((j * 40) + z) x)) dX3_put_42 (fun H locs h => ?_)
      refine lv_aload_n hx hb dX3_put_43 rfl (lv_at hl 0 rfl) ?_
      refine r_get E h 2 (v := .ref (a 59)) (eX_14 cy a (fR σ 58 (upd (σ.2.1 58) ((j * 40) + z) x))) rfl fw_X3 (by decide) fl_X3_9 rfl dX3_put_44 ?_
      refine lv_iload_n hx hb dX3_put_47 rfl (lv_at hl 1 rfl) ?_
      refine lv_dup2_11 hx hb dX3_put_48 rfl rfl ?_
      refine r_ialdN E h (f := σ.2.1 59) (eX_59 cy a (fR σ 58 (upd (σ.2.1 58) ((j * 40) + z) x))) (j := j) hj (by decide) (v := nI z) hz dX3_put_49 ?_
      refine lv_iconst (v := 1) hx hb dX3_put_50 (by decide) ?_
      refine n_add (j := z) (k := 1) hx hb dX3_put_51 ?_
      refine r_iastN E h (f := σ.2.1 59) (eX_59 cy a (fR σ 58 (upd (σ.2.1 58) ((j * 40) + z) x))) (j := j) hj (by decide) (qX_59 cy a (fR σ 58 (upd (σ.2.1 58) ((j * 40) + z) x)) (upd (σ.2.1 59) j (nI (z + 1)))) dX3_put_52 (fun H locs h => ?_)
      exact t_v E h hr hk (Or.inr ⟨c20, rfl⟩) dX3_put_53
    · have c20 : 40 ≤ z := n_nlt (by omega) (by decide) c20
      exact t_v E h hr hk (Or.inl ⟨by omega, rfl⟩) dX3_put_23

set_option maxHeartbeats 4000000 in
set_option maxRecDepth 100000 in
theorem c_X3_member_gR (l : Launch) (D : va_G) (cy : Nat → ClassId) (a : Nat → Nat) (σ : St) (j i : Nat) (hj : j < 12) (hi : i < 40) : CI l yX3_member cX3_member 3 (some .int) (rmOf 0 0) D cy (wX cy a) (AX a) [.ref (a 14), .int (nI j), .int (nI i)] σ (fun r τ => τ = σ ∧ r = σ.2.1 58 ((j * 40) + i)) := by
  refine c_of (lv := [(0, .ref (a 14)), (1, .int (nI j)), (2, .int (nI i))]) rfl (Nat.le_of_ble_eq_true rfl) rfl ?_
  intro p e s m args below meth c ls E h hr hk hl
  have hx := E.1
  have hb := E.2.1
  refine lv_aload_n hx hb dX3_member_0 rfl (lv_at hl 0 rfl) ?_
  refine r_get E h 1 (v := .ref (a 58)) (eX_14 cy a σ) rfl fw_X3 (by decide) fl_X3_19 rfl dX3_member_1 ?_
  refine lv_iload_n hx hb dX3_member_4 rfl (lv_at hl 1 rfl) ?_
  refine lv_aload_n hx hb dX3_member_5 rfl (lv_at hl 0 rfl) ?_
  refine r_get E h 0 (v := .int 40) (eX_14 cy a σ) rfl fw_X3 (by decide) fl_X3_15 rfl dX3_member_6 ?_
  refine n_mul (j := j) (k := 40) hx hb dX3_member_9 ?_
  refine lv_iload_n hx hb dX3_member_10 rfl (lv_at hl 2 rfl) ?_
  refine n_add (j := j * 40) (k := i) hx hb dX3_member_11 ?_
  refine r_ialdN E h (f := σ.2.1 58) (eX_58 cy a σ) (j := (j * 40) + i) (by omega) (by decide) (v := σ.2.1 58 ((j * 40) + i)) rfl dX3_member_12 ?_
  exact t_i E h hr hk ⟨rfl, rfl⟩ dX3_member_13

set_option maxHeartbeats 4000000 in
set_option maxRecDepth 100000 in
theorem c_X8_add_taps (l : Launch) (D : va_G) (cy : Nat → ClassId) (a : Nat → Nat) (σ : St) (j : Nat) (x y w : Int32) (n z : Nat) (hj : j < 12) (hn : σ.1 14 = nI n) (hn6 : n ≤ 60) (hz : σ.2.1 57 j = nI z) (hw : z ≤ 60) : CI l yX8_add cX8_add 5 (some .int) (rmOf 2 44) D cy (wX cy a) (AX a) [.ref (a 9), .int (nI j), .int x, .int y, .int w] σ (fun r τ => (n = 60 ∧ r = -5 ∧ τ = σ) ∨ (n < 60 ∧ r = nI (n + 1) ∧ ((z = 60 ∧ τ = fF (fR (fR (fR σ 46 (upd (σ.2.1 46) n x)) 47 (upd (σ.2.1 47) n y)) 48 (upd (σ.2.1 48) n w)) 14 (nI (n + 1))) ∨ (z < 60 ∧ τ = fF (fR (fR (fR (fR (fR σ 46 (upd (σ.2.1 46) n x)) 47 (upd (σ.2.1 47) n y)) 48 (upd (σ.2.1 48) n w)) 56 (upd (σ.2.1 56) ((j * 60) + z) (nI n))) 57 (upd (σ.2.1 57) j (nI (z + 1)))) 14 (nI (n + 1)))))) := by
  refine c_of (lv := [(0, .ref (a 9)), (1, .int (nI j)), (2, .int x), (3, .int y), (4, .int w)]) rfl (Nat.le_of_ble_eq_true rfl) rfl ?_
  intro p e s m args below meth c ls E h hr hk hl
  have hx := E.1
  have hb := E.2.1
  refine lv_aload_n hx hb dX8_add_0 rfl (lv_at hl 0 rfl) ?_
  refine r_get E h 4 (v := .int (nI n)) (eX_9 cy a σ) rfl fw_X8 (by decide) fl_X8_30 (congrArg (fun z => some (Value.int z)) hn) dX8_add_1 ?_
  refine lv_aload_n hx hb dX8_add_4 rfl (lv_at hl 0 rfl) ?_
  refine r_get E h 0 (v := .ref (a 46)) (eX_9 cy a σ) rfl fw_X8 (by decide) fl_X8_9 rfl dX8_add_5 ?_
  refine r_alen E h (eX_46 cy a σ) (v := 60) rfl dX8_add_8 ?_
  refine lv_icmp_lt (tgt := 15) hx hb dX8_add_9 (by decide) (fun c9 => ?_) (fun c9 => ?_)
  · have c9 : n < 60 := n_lt (by omega) (by decide) c9
    refine lv_aload_n hx hb dX8_add_15 rfl (lv_at hl 0 rfl) ?_
    refine r_get E h 0 (v := .ref (a 46)) (eX_9 cy a σ) rfl fw_X8 (by decide) fl_X8_9 rfl dX8_add_16 ?_
    refine lv_aload_n hx hb dX8_add_19 rfl (lv_at hl 0 rfl) ?_
    refine r_get E h 4 (v := .int (nI n)) (eX_9 cy a σ) rfl fw_X8 (by decide) fl_X8_30 (congrArg (fun z => some (Value.int z)) hn) dX8_add_20 ?_
    refine lv_iload_n hx hb dX8_add_23 rfl (lv_at hl 2 rfl) ?_
    refine r_iastN E h (f := σ.2.1 46) (eX_46 cy a σ) (j := n) c9 (by decide) (qX_46 cy a σ (upd (σ.2.1 46) n x)) dX8_add_24 (fun H locs h => ?_)
    refine lv_aload_n hx hb dX8_add_25 rfl (lv_at hl 0 rfl) ?_
    refine r_get E h 1 (v := .ref (a 47)) (eX_9 cy a (fR σ 46 (upd (σ.2.1 46) n x))) rfl fw_X8 (by decide) fl_X8_15 rfl dX8_add_26 ?_
    refine lv_aload_n hx hb dX8_add_29 rfl (lv_at hl 0 rfl) ?_
    refine r_get E h 4 (v := .int (nI n)) (eX_9 cy a (fR σ 46 (upd (σ.2.1 46) n x))) rfl fw_X8 (by decide) fl_X8_30 (congrArg (fun z => some (Value.int z)) hn) dX8_add_30 ?_
    refine lv_iload_n hx hb dX8_add_33 rfl (lv_at hl 3 rfl) ?_
    refine r_iastN E h (f := σ.2.1 47) (eX_47 cy a (fR σ 46 (upd (σ.2.1 46) n x))) (j := n) c9 (by decide) (qX_47 cy a (fR σ 46 (upd (σ.2.1 46) n x)) (upd (σ.2.1 47) n y)) dX8_add_34 (fun H locs h => ?_)
    refine lv_aload_n hx hb dX8_add_35 rfl (lv_at hl 0 rfl) ?_
    refine r_get E h 2 (v := .ref (a 48)) (eX_9 cy a (fR (fR σ 46 (upd (σ.2.1 46) n x)) 47 (upd (σ.2.1 47) n y))) rfl fw_X8 (by decide) fl_X8_18 rfl dX8_add_36 ?_
    refine lv_aload_n hx hb dX8_add_39 rfl (lv_at hl 0 rfl) ?_
    refine r_get E h 4 (v := .int (nI n)) (eX_9 cy a (fR (fR σ 46 (upd (σ.2.1 46) n x)) 47 (upd (σ.2.1 47) n y))) rfl fw_X8 (by decide) fl_X8_30 (congrArg (fun z => some (Value.int z)) hn) dX8_add_40 ?_
    refine lv_iload hx hb dX8_add_43 (lv_at hl 4 rfl) ?_
    refine r_iastN E h (f := σ.2.1 48) (eX_48 cy a (fR (fR σ 46 (upd (σ.2.1 46) n x)) 47 (upd (σ.2.1 47) n y))) (j := n) c9 (by decide) (qX_48 cy a (fR (fR σ 46 (upd (σ.2.1 46) n x)) 47 (upd (σ.2.1 47) n y)) (upd (σ.2.1 48) n w)) dX8_add_45 (fun H locs h => ?_)
    refine lv_aload_n hx hb dX8_add_46 rfl (lv_at hl 0 rfl) ?_
    refine r_get E h 3 (v := .ref (a 13)) (eX_9 cy a (fR (fR (fR σ 46 (upd (σ.2.1 46) n x)) 47 (upd (σ.2.1 47) n y)) 48 (upd (σ.2.1 48) n w))) rfl fw_X8 (by decide) fl_X8_26 rfl dX8_add_47 ?_
    refine lv_iload_n hx hb dX8_add_50 rfl (lv_at hl 1 rfl) ?_
    refine lv_aload_n hx hb dX8_add_51 rfl (lv_at hl 0 rfl) ?_
    refine r_get E h 4 (v := .int (nI n)) (eX_9 cy a (fR (fR (fR σ 46 (upd (σ.2.1 46) n x)) 47 (upd (σ.2.1 47) n y)) 48 (upd (σ.2.1 48) n w))) rfl fw_X8 (by decide) fl_X8_30 (congrArg (fun z => some (Value.int z)) hn) dX8_add_52 ?_
    refine k_v h (q_runV (As := [.int (nI j), .int (nI n)]) (rest := []) E h (c_X3_put_gT l D cy a (fR (fR (fR σ 46 (upd (σ.2.1 46) n x)) 47 (upd (σ.2.1 47) n y)) 48 (upd (σ.2.1 48) n w)) j (nI n) z hj hz hw) co_X3_put ml_X8_34 im_X3_put se_X3_put in_X3 (eX_13 cy a (fR (fR (fR σ 46 (upd (σ.2.1 46) n x)) 47 (upd (σ.2.1 47) n y)) 48 (upd (σ.2.1 48) n w))) rfl ok_X3_put rfl ⟨by decide, by decide⟩ hl.1 rfl (Nat.le_of_ble_eq_true rfl) dX8_add_55 ⟨Nat.zero_le _, Nat.zero_le _⟩) (wX_fst cy a) (fun τ55 H locs p55 h => ?_)
    have hF : τ55.1 14 = nI n := by
        rcases p55 with ⟨_, e⟩ | ⟨_, e⟩ <;> rw [e] <;> exact hn
    refine lv_aload_n hx hb dX8_add_58 rfl (lv_at hl 0 rfl) ?_
    refine lv_dup hx hb dX8_add_59 rfl ?_
    refine r_get E h 4 (v := .int (nI n)) (eX_9 cy a τ55) rfl fw_X8 (by decide) fl_X8_30 (congrArg (fun z => some (Value.int z)) hF) dX8_add_60 ?_
    refine lv_iconst (v := 1) hx hb dX8_add_63 (by decide) ?_
    refine n_add (j := n) (k := 1) hx hb dX8_add_64 ?_
    refine r_put E h 4 (ty := .int) (eX_9 cy a τ55) rfl fw_X8 tyX8_ok nmX8 (by decide) fl_X8_30 rfl (by decide +kernel) rfl rfl (Nat.le_of_ble_eq_true rfl) (sX_14 cy a τ55 (nI (n + 1))) dX8_add_65 (fun H locs h => ?_)
    refine lv_aload_n hx hb dX8_add_68 rfl (lv_at hl 0 rfl) ?_
    refine r_get E h 4 (v := .int (nI (n + 1))) (eX_9 cy a (fF τ55 14 (nI (n + 1)))) rfl fw_X8 (by decide) fl_X8_30 rfl dX8_add_69 ?_
    exact t_i E h hr hk (Or.inr ⟨c9, rfl, p55.elim (fun q => Or.inl ⟨q.1, by rw [q.2]⟩) (fun q => Or.inr ⟨q.1, by rw [q.2]; rfl⟩)⟩) dX8_add_72
  · have c9 : 60 ≤ n := n_nlt (by omega) (by decide) c9
    refine lv_bipush (v := -5) hx hb dX8_add_12 (by decide) ?_
    exact t_i E h hr hk (Or.inl ⟨by omega, rfl, rfl⟩) dX8_add_14

set_option maxHeartbeats 4000000 in
set_option maxRecDepth 100000 in
theorem c_X8_isIn_taps (l : Launch) (D : va_G) (cy : Nat → ClassId) (a : Nat → Nat) (σ : St) (x y : Int32) (hx6 : vp_in x 60) : CI l yX8_isIn cX8_isIn 3 (some .boolean) (rmOf 1 22) D cy (wX cy a) (AX a) [.ref (a 9), .int x, .int y] σ (fun r τ => τ = σ ∧ (r = 0 ∨ r = 1)) := by
  refine c_of (lv := [(0, .ref (a 9)), (1, .int x), (2, .int y)]) rfl (Nat.le_of_ble_eq_true rfl) rfl ?_
  intro p e s m args below meth c ls E h hr hk hl
  have hx := E.1
  have hb := E.2.1
  refine lv_iload_n hx hb dX8_isIn_0 rfl (lv_at hl 2 rfl) ?_
  refine lv_aload_n hx hb dX8_isIn_1 rfl (lv_at hl 0 rfl) ?_
  refine r_get E h 1 (v := .ref (a 47)) (eX_9 cy a σ) rfl fw_X8 (by decide) fl_X8_15 rfl dX8_isIn_2 ?_
  refine lv_iload_n hx hb dX8_isIn_5 rfl (lv_at hl 1 rfl) ?_
  refine r_iald E h (f := σ.2.1 47) (eX_47 cy a σ) hx6 dX8_isIn_6 ?_
  refine lv_aload_n hx hb dX8_isIn_7 rfl (lv_at hl 0 rfl) ?_
  refine r_get E h 2 (v := .ref (a 48)) (eX_9 cy a σ) rfl fw_X8 (by decide) fl_X8_18 rfl dX8_isIn_8 ?_
  refine lv_iload_n hx hb dX8_isIn_11 rfl (lv_at hl 1 rfl) ?_
  refine r_iald E h (f := σ.2.1 48) (eX_48 cy a σ) hx6 dX8_isIn_12 ?_
  refine k_i h (q_runSN (As := [.int y, .int (σ.2.1 47 x.toNatClampNeg), .int (σ.2.1 48 x.toNatClampNeg)]) (rest := []) E h (c_X11_isWithin l D cy a σ y (σ.2.1 47 x.toNatClampNeg) (σ.2.1 48 x.toNatClampNeg)) co_X11_isWithin nl_X8_38 st_X11_isWithin in_X11 ok_X11_isWithin rfl ⟨by decide, by decide⟩ hl.1 rfl (Nat.le_of_ble_eq_true rfl) dX8_isIn_13 ⟨Nat.zero_le _, Nat.zero_le _⟩) (wX_fst cy a) (fun r13 τ13 H locs p13 h => ?_)
  rw [p13.1] at h
  exact t_z E h hr hk p13.2.z ⟨rfl, p13.2.z⟩ dX8_isIn_16

set_option maxHeartbeats 4000000 in
set_option maxRecDepth 100000 in
theorem c_X8_hasAny_taps (l : Launch) (D : va_G) (cy : Nat → ClassId) (a : Nat → Nat) (σ : St) (j : Nat) (y : Int32) (hj : j < 12) (gg : GRP (σ.2.1 57) (σ.2.1 56) 60 60) : CI l yX8_hasAny cX8_hasAny 4 (some .boolean) (rmOf 2 44) D cy (wX cy a) (AX a) [.ref (a 9), .int (nI j), .int y] σ (fun r τ => τ = σ ∧ (r = 0 ∨ r = 1)) := by
  refine c_of (lv := [(0, .ref (a 9)), (1, .int (nI j)), (2, .int y)]) rfl (Nat.le_of_ble_eq_true rfl) rfl ?_
  intro p e s m args below meth c ls E h hr hk hl
  have hx := E.1
  have hb := E.2.1
  obtain ⟨z, hzw, hz, hm⟩ := gg j hj
  refine lv_iconst (v := 0) hx hb dX8_hasAny_0 (by decide) ?_
  refine lv_istore_n (lv' := [(3, .int 0), (0, .ref (a 9)), (1, .int (nI j)), (2, .int y)]) hx hb dX8_hasAny_1 rfl hl (by decide) rfl (fun ls hl => ?_)
  have lp2 : ∀ (f : Nat) (i : Nat) (H : Heap) (locs : List Loc) (ls : Array Slot), (i ≤ z) → (z - i) < f → HW D (AX a) s (wX cy a σ) H locs → lv_has ls 4 [(3, .int (nI i)), (0, .ref (a 9)), (1, .int (nI j)), (2, .int y)] → W p l e (rmOf 2 44) s m args below meth c H locs 0 0 (MQ below (va_Qi (fun r τ => τ = σ ∧ (r = 0 ∨ r = 1)) (fun u t => va_P D vwCl (wX cy a u) t.heap) (AX a)) args s 0 0 (AX a)) (F0 m 2 ls []) := by
    intro f
    induction f with
    | zero => intro i H locs ls _ hf; exact absurd hf (Nat.not_lt_zero _)
    | succ f ih2 =>
      intro i H locs ls hi2 hf2 h hl
      refine lv_iload_n hx hb dX8_hasAny_2 rfl (lv_at hl 0 rfl) ?_
      refine lv_aload_n hx hb dX8_hasAny_3 rfl (lv_at hl 1 rfl) ?_
      refine r_get E h 3 (v := .ref (a 13)) (eX_9 cy a σ) rfl fw_X8 (by decide) fl_X8_26 rfl dX8_hasAny_4 ?_
      refine r_get E h 2 (v := .ref (a 57)) (eX_13 cy a σ) rfl fw_X3 (by decide) fl_X8_42 rfl dX8_hasAny_7 ?_
      refine lv_iload_n hx hb dX8_hasAny_10 rfl (lv_at hl 2 rfl) ?_
      refine r_ialdN E h (f := σ.2.1 57) (eX_57 cy a σ) (j := j) hj (by decide) (v := nI z) hz dX8_hasAny_11 ?_
      refine lv_icmp_ge (tgt := 40) hx hb dX8_hasAny_12 (by decide) (fun c12 => ?_) (fun c12 => ?_)
      · refine lv_iconst (v := 0) hx hb dX8_hasAny_40 (by decide) ?_
        exact t_z E h hr hk (Or.inl rfl) ⟨rfl, Or.inl rfl⟩ dX8_hasAny_41
      · have c12 : i < z := Nat.lt_of_not_le fun q => c12 ((nI_leI (by omega) (by omega)).mpr q)
        refine lv_aload_n hx hb dX8_hasAny_15 rfl (lv_at hl 1 rfl) ?_
        refine lv_aload_n hx hb dX8_hasAny_16 rfl (lv_at hl 1 rfl) ?_
        refine r_get E h 3 (v := .ref (a 13)) (eX_9 cy a σ) rfl fw_X8 (by decide) fl_X8_26 rfl dX8_hasAny_17 ?_
        refine lv_iload_n hx hb dX8_hasAny_20 rfl (lv_at hl 2 rfl) ?_
        refine lv_iload_n hx hb dX8_hasAny_21 rfl (lv_at hl 0 rfl) ?_
        refine k_i h (q_runV (As := [.int (nI j), .int (nI i)]) (rest := [.ref (a 9)]) E h (c_X3_member_gT l D cy a σ j i hj (by omega)) co_X3_member ml_X8_45 im_X3_member se_X3_member in_X3 (eX_13 cy a σ) rfl ok_X3_member rfl ⟨by decide, by decide⟩ hl.1 rfl (Nat.le_of_ble_eq_true rfl) dX8_hasAny_22 ⟨Nat.zero_le _, Nat.zero_le _⟩) (wX_fst cy a) (fun r22 τ22 H locs p22 h => ?_)
        rw [p22.1] at h
        refine lv_iload_n hx hb dX8_hasAny_25 rfl (lv_at hl 3 rfl) ?_
        refine k_i h (q_runV (As := [.int r22, .int y]) (rest := []) E h (c_X8_isIn_taps l D cy a σ r22 y (by rw [p22.2]; exact hm i c12)) co_X8_isIn ml_X8_49 im_X8_isIn se_X8_isIn in_X8 (eX_9 cy a σ) rfl ok_X8_isIn rfl ⟨by decide, by decide⟩ hl.1 rfl (Nat.le_of_ble_eq_true rfl) dX8_hasAny_26 ⟨Nat.zero_le _, Nat.zero_le _⟩) (wX_fst cy a) (fun r26 τ26 H locs p26 h => ?_)
        rw [p26.1] at h
        refine lv_if_eq (tgt := 34) hx hb dX8_hasAny_29 (by decide) (fun c29 => ?_) (fun c29 => ?_)
        · refine lv_iinc (v := nI (i + 1)) (lv' := [(3, .int (nI (i + 1))), (0, .ref (a 9)), (1, .int (nI j)), (2, .int y)]) hx hb dX8_hasAny_34 hl (k := 0) rfl (nI_succ i).symm (by decide) rfl (fun ls hl => ?_)
          refine lv_goto (tgt := 2) hx hb dX8_hasAny_37 (by decide) ?_
          exact ih2 (i + 1) _ _ _ (by omega) (by omega) h (lv_sub hl [0, 1, 2, 3] rfl)
        · refine lv_iconst (v := 1) hx hb dX8_hasAny_32 (by decide) ?_
          exact t_z E h hr hk (Or.inr rfl) ⟨rfl, Or.inr rfl⟩ dX8_hasAny_33
  exact lp2 _ 0 _ _ _ (Nat.zero_le _) (Nat.lt_succ_self _) h (lv_sub hl [0, 1, 2, 3] rfl)

set_option maxHeartbeats 4000000 in
set_option maxRecDepth 100000 in
theorem c_X8_take_taps (l : Launch) (D : va_G) (cy : Nat → ClassId) (a : Nat → Nat) (σ : St) (j : Nat) (y x : Int32) (hj : j < 12) (gg : GRP (σ.2.1 57) (σ.2.1 56) 60 60) : CI l yX8_take cX8_take 7 (some .int) (rmOf 2 44) D cy (wX cy a) (AX a) [.ref (a 9), .int (nI j), .int y, .int x] σ (fun r τ => τ = σ ∧ True) := by
  refine c_of (lv := [(0, .ref (a 9)), (1, .int (nI j)), (2, .int y), (3, .int x)]) rfl (Nat.le_of_ble_eq_true rfl) rfl ?_
  intro p e s m args below meth c ls E h hr hk hl
  have hx := E.1
  have hb := E.2.1
  obtain ⟨z, hzw, hz, hm⟩ := gg j hj
  refine lv_iload_n hx hb dX8_take_0 rfl (lv_at hl 3 rfl) ?_
  refine lv_istore (lv' := [(4, .int x), (0, .ref (a 9)), (1, .int (nI j)), (2, .int y), (3, .int x)]) hx hb dX8_take_1 hl (by decide) rfl (fun ls hl => ?_)
  refine lv_iconst (v := 0) hx hb dX8_take_3 (by decide) ?_
  refine lv_istore (lv' := [(5, .int 0), (4, .int x), (0, .ref (a 9)), (1, .int (nI j)), (2, .int y), (3, .int x)]) hx hb dX8_take_4 hl (by decide) rfl (fun ls hl => ?_)
  have lp6 : ∀ (f : Nat) (i : Nat) (u : Int32) (H : Heap) (locs : List Loc) (ls : Array Slot), (i ≤ z) → (z - i) < f → HW D (AX a) s (wX cy a σ) H locs → lv_has ls 7 [(5, .int (nI i)), (4, .int u), (0, .ref (a 9)), (1, .int (nI j)), (2, .int y), (3, .int x)] → W p l e (rmOf 2 44) s m args below meth c H locs 0 0 (MQ below (va_Qi (fun r τ => τ = σ ∧ True) (fun u t => va_P D vwCl (wX cy a u) t.heap) (AX a)) args s 0 0 (AX a)) (F0 m 6 ls []) := by
    intro f
    induction f with
    | zero => intro i u H locs ls _ hf; exact absurd hf (Nat.not_lt_zero _)
    | succ f ih6 =>
      intro i u H locs ls hi6 hf6 h hl
      refine lv_iload hx hb dX8_take_6 (lv_at hl 0 rfl) ?_
      refine lv_aload_n hx hb dX8_take_8 rfl (lv_at hl 2 rfl) ?_
      refine r_get E h 3 (v := .ref (a 13)) (eX_9 cy a σ) rfl fw_X8 (by decide) fl_X8_26 rfl dX8_take_9 ?_
      refine r_get E h 2 (v := .ref (a 57)) (eX_13 cy a σ) rfl fw_X3 (by decide) fl_X8_42 rfl dX8_take_12 ?_
      refine lv_iload_n hx hb dX8_take_15 rfl (lv_at hl 3 rfl) ?_
      refine r_ialdN E h (f := σ.2.1 57) (eX_57 cy a σ) (j := j) hj (by decide) (v := nI z) hz dX8_take_16 ?_
      refine lv_icmp_ge (tgt := 65) hx hb dX8_take_17 (by decide) (fun c17 => ?_) (fun c17 => ?_)
      · refine lv_iload_n hx hb dX8_take_65 rfl (lv_at hl 5 rfl) ?_
        refine lv_iload hx hb dX8_take_66 (lv_at hl 1 rfl) ?_
        refine lv_isub hx hb dX8_take_68 ?_
        exact t_i E h hr hk ⟨rfl, trivial⟩ dX8_take_69
      · have c17 : i < z := Nat.lt_of_not_le fun q => c17 ((nI_leI (by omega) (by omega)).mpr q)
        refine lv_aload_n hx hb dX8_take_20 rfl (lv_at hl 2 rfl) ?_
        refine r_get E h 3 (v := .ref (a 13)) (eX_9 cy a σ) rfl fw_X8 (by decide) fl_X8_26 rfl dX8_take_21 ?_
        refine lv_iload_n hx hb dX8_take_24 rfl (lv_at hl 3 rfl) ?_
        refine lv_iload hx hb dX8_take_25 (lv_at hl 0 rfl) ?_
        refine k_i h (q_runV (As := [.int (nI j), .int (nI i)]) (rest := []) E h (c_X3_member_gT l D cy a σ j i hj (by omega)) co_X3_member ml_X8_45 im_X3_member se_X3_member in_X3 (eX_13 cy a σ) rfl ok_X3_member rfl ⟨by decide, by decide⟩ hl.1 rfl (Nat.le_of_ble_eq_true rfl) dX8_take_27 ⟨Nat.zero_le _, Nat.zero_le _⟩) (wX_fst cy a) (fun r27 τ27 H locs p27 h => ?_)
        rw [p27.1] at h
        refine lv_istore (lv' := [(6, .int r27), (5, .int (nI i)), (4, .int u), (0, .ref (a 9)), (1, .int (nI j)), (2, .int y), (3, .int x)]) hx hb dX8_take_30 hl (by decide) rfl (fun ls hl => ?_)
        refine lv_aload_n hx hb dX8_take_32 rfl (lv_at hl 3 rfl) ?_
        refine lv_iload hx hb dX8_take_33 (lv_at hl 0 rfl) ?_
        refine lv_iload_n hx hb dX8_take_35 rfl (lv_at hl 5 rfl) ?_
        refine k_i h (q_runV (As := [.int r27, .int y]) (rest := []) E h (c_X8_isIn_taps l D cy a σ r27 y (by rw [p27.2]; exact hm i c17)) co_X8_isIn ml_X8_49 im_X8_isIn se_X8_isIn in_X8 (eX_9 cy a σ) rfl ok_X8_isIn rfl ⟨by decide, by decide⟩ hl.1 rfl (Nat.le_of_ble_eq_true rfl) dX8_take_36 ⟨Nat.zero_le _, Nat.zero_le _⟩) (wX_fst cy a) (fun r36 τ36 H locs p36 h => ?_)
        rw [p36.1] at h
        refine lv_if_eq (tgt := 59) hx hb dX8_take_39 (by decide) (fun c39 => ?_) (fun c39 => ?_)
        · refine lv_iinc (v := nI (i + 1)) (lv' := [(5, .int (nI (i + 1))), (6, .int r27), (4, .int u), (0, .ref (a 9)), (1, .int (nI j)), (2, .int y), (3, .int x)]) hx hb dX8_take_59 hl (k := 1) rfl (nI_succ i).symm (by decide) rfl (fun ls hl => ?_)
          refine lv_goto (tgt := 6) hx hb dX8_take_62 (by decide) ?_
          exact ih6 (i + 1) u _ _ _ (by omega) (by omega) h (lv_sub hl [0, 2, 3, 4, 5, 6] rfl)
        · refine lv_iload hx hb dX8_take_42 (lv_at hl 2 rfl) ?_
          refine lv_iload hx hb dX8_take_44 (lv_at hl 2 rfl) ?_
          refine lv_aload_n hx hb dX8_take_46 rfl (lv_at hl 3 rfl) ?_
          refine r_get E h 0 (v := .ref (a 46)) (eX_9 cy a σ) rfl fw_X8 (by decide) fl_X8_9 rfl dX8_take_47 ?_
          refine lv_iload hx hb dX8_take_50 (lv_at hl 0 rfl) ?_
          refine r_iald E h (f := σ.2.1 46) (eX_46 cy a σ) (by rw [p27.2]; exact hm i c17) dX8_take_52 ?_
          refine r_mmin E hl.1 ml_X8_53 st_J9_min_7cf53 in_J9 co_J9_min_7cf53 ⟨Nat.le_of_ble_eq_true rfl, Nat.le_of_ble_eq_true rfl⟩ ⟨Nat.zero_le _, Nat.zero_le _⟩ dX8_take_53 ?_
          refine lv_isub hx hb dX8_take_56 ?_
          refine lv_istore (lv' := [(4, .int (u - (if (σ.2.1 46 r27.toNatClampNeg) < u then (σ.2.1 46 r27.toNatClampNeg) else u))), (6, .int r27), (5, .int (nI i)), (0, .ref (a 9)), (1, .int (nI j)), (2, .int y), (3, .int x)]) hx hb dX8_take_57 hl (by decide) rfl (fun ls hl => ?_)
          refine lv_iinc (v := nI (i + 1)) (lv' := [(5, .int (nI (i + 1))), (4, .int (u - (if (σ.2.1 46 r27.toNatClampNeg) < u then (σ.2.1 46 r27.toNatClampNeg) else u))), (6, .int r27), (0, .ref (a 9)), (1, .int (nI j)), (2, .int y), (3, .int x)]) hx hb dX8_take_59 hl (k := 2) rfl (nI_succ i).symm (by decide) rfl (fun ls hl => ?_)
          refine lv_goto (tgt := 6) hx hb dX8_take_62 (by decide) ?_
          exact ih6 (i + 1) (u - (if (σ.2.1 46 r27.toNatClampNeg) < u then (σ.2.1 46 r27.toNatClampNeg) else u)) _ _ _ (by omega) (by omega) h (lv_sub hl [0, 1, 3, 4, 5, 6] rfl)
  exact lp6 _ 0 x _ _ _ (Nat.zero_le _) (Nat.lt_succ_self _) h (lv_sub hl [0, 1, 2, 3, 4, 5] rfl)

set_option maxHeartbeats 4000000 in
set_option maxRecDepth 100000 in
theorem c_X8_add_repairs (l : Launch) (D : va_G) (cy : Nat → ClassId) (a : Nat → Nat) (σ : St) (j : Nat) (x y w : Int32) (n z : Nat) (hj : j < 12) (hn : σ.1 15 = nI n) (hn6 : n ≤ 40) (hz : σ.2.1 59 j = nI z) (hw : z ≤ 40) : CI l yX8_add cX8_add 5 (some .int) (rmOf 2 44) D cy (wX cy a) (AX a) [.ref (a 10), .int (nI j), .int x, .int y, .int w] σ (fun r τ => (n = 40 ∧ r = -5 ∧ τ = σ) ∨ (n < 40 ∧ r = nI (n + 1) ∧ ((z = 40 ∧ τ = fF (fR (fR (fR σ 49 (upd (σ.2.1 49) n x)) 50 (upd (σ.2.1 50) n y)) 51 (upd (σ.2.1 51) n w)) 15 (nI (n + 1))) ∨ (z < 40 ∧ τ = fF (fR (fR (fR (fR (fR σ 49 (upd (σ.2.1 49) n x)) 50 (upd (σ.2.1 50) n y)) 51 (upd (σ.2.1 51) n w)) 58 (upd (σ.2.1 58) ((j * 40) + z) (nI n))) 59 (upd (σ.2.1 59) j (nI (z + 1)))) 15 (nI (n + 1)))))) := by
  refine c_of (lv := [(0, .ref (a 10)), (1, .int (nI j)), (2, .int x), (3, .int y), (4, .int w)]) rfl (Nat.le_of_ble_eq_true rfl) rfl ?_
  intro p e s m args below meth c ls E h hr hk hl
  have hx := E.1
  have hb := E.2.1
  refine lv_aload_n hx hb dX8_add_0 rfl (lv_at hl 0 rfl) ?_
  refine r_get E h 4 (v := .int (nI n)) (eX_10 cy a σ) rfl fw_X8 (by decide) fl_X8_30 (congrArg (fun z => some (Value.int z)) hn) dX8_add_1 ?_
  refine lv_aload_n hx hb dX8_add_4 rfl (lv_at hl 0 rfl) ?_
  refine r_get E h 0 (v := .ref (a 49)) (eX_10 cy a σ) rfl fw_X8 (by decide) fl_X8_9 rfl dX8_add_5 ?_
  refine r_alen E h (eX_49 cy a σ) (v := 40) rfl dX8_add_8 ?_
  refine lv_icmp_lt (tgt := 15) hx hb dX8_add_9 (by decide) (fun c9 => ?_) (fun c9 => ?_)
  · have c9 : n < 40 := n_lt (by omega) (by decide) c9
    refine lv_aload_n hx hb dX8_add_15 rfl (lv_at hl 0 rfl) ?_
    refine r_get E h 0 (v := .ref (a 49)) (eX_10 cy a σ) rfl fw_X8 (by decide) fl_X8_9 rfl dX8_add_16 ?_
    refine lv_aload_n hx hb dX8_add_19 rfl (lv_at hl 0 rfl) ?_
    refine r_get E h 4 (v := .int (nI n)) (eX_10 cy a σ) rfl fw_X8 (by decide) fl_X8_30 (congrArg (fun z => some (Value.int z)) hn) dX8_add_20 ?_
    refine lv_iload_n hx hb dX8_add_23 rfl (lv_at hl 2 rfl) ?_
    refine r_iastN E h (f := σ.2.1 49) (eX_49 cy a σ) (j := n) c9 (by decide) (qX_49 cy a σ (upd (σ.2.1 49) n x)) dX8_add_24 (fun H locs h => ?_)
    refine lv_aload_n hx hb dX8_add_25 rfl (lv_at hl 0 rfl) ?_
    refine r_get E h 1 (v := .ref (a 50)) (eX_10 cy a (fR σ 49 (upd (σ.2.1 49) n x))) rfl fw_X8 (by decide) fl_X8_15 rfl dX8_add_26 ?_
    refine lv_aload_n hx hb dX8_add_29 rfl (lv_at hl 0 rfl) ?_
    refine r_get E h 4 (v := .int (nI n)) (eX_10 cy a (fR σ 49 (upd (σ.2.1 49) n x))) rfl fw_X8 (by decide) fl_X8_30 (congrArg (fun z => some (Value.int z)) hn) dX8_add_30 ?_
    refine lv_iload_n hx hb dX8_add_33 rfl (lv_at hl 3 rfl) ?_
    refine r_iastN E h (f := σ.2.1 50) (eX_50 cy a (fR σ 49 (upd (σ.2.1 49) n x))) (j := n) c9 (by decide) (qX_50 cy a (fR σ 49 (upd (σ.2.1 49) n x)) (upd (σ.2.1 50) n y)) dX8_add_34 (fun H locs h => ?_)
    refine lv_aload_n hx hb dX8_add_35 rfl (lv_at hl 0 rfl) ?_
    refine r_get E h 2 (v := .ref (a 51)) (eX_10 cy a (fR (fR σ 49 (upd (σ.2.1 49) n x)) 50 (upd (σ.2.1 50) n y))) rfl fw_X8 (by decide) fl_X8_18 rfl dX8_add_36 ?_
    refine lv_aload_n hx hb dX8_add_39 rfl (lv_at hl 0 rfl) ?_
    refine r_get E h 4 (v := .int (nI n)) (eX_10 cy a (fR (fR σ 49 (upd (σ.2.1 49) n x)) 50 (upd (σ.2.1 50) n y))) rfl fw_X8 (by decide) fl_X8_30 (congrArg (fun z => some (Value.int z)) hn) dX8_add_40 ?_
    refine lv_iload hx hb dX8_add_43 (lv_at hl 4 rfl) ?_
    refine r_iastN E h (f := σ.2.1 51) (eX_51 cy a (fR (fR σ 49 (upd (σ.2.1 49) n x)) 50 (upd (σ.2.1 50) n y))) (j := n) c9 (by decide) (qX_51 cy a (fR (fR σ 49 (upd (σ.2.1 49) n x)) 50 (upd (σ.2.1 50) n y)) (upd (σ.2.1 51) n w)) dX8_add_45 (fun H locs h => ?_)
    refine lv_aload_n hx hb dX8_add_46 rfl (lv_at hl 0 rfl) ?_
    refine r_get E h 3 (v := .ref (a 14)) (eX_10 cy a (fR (fR (fR σ 49 (upd (σ.2.1 49) n x)) 50 (upd (σ.2.1 50) n y)) 51 (upd (σ.2.1 51) n w))) rfl fw_X8 (by decide) fl_X8_26 rfl dX8_add_47 ?_
    refine lv_iload_n hx hb dX8_add_50 rfl (lv_at hl 1 rfl) ?_
    refine lv_aload_n hx hb dX8_add_51 rfl (lv_at hl 0 rfl) ?_
    refine r_get E h 4 (v := .int (nI n)) (eX_10 cy a (fR (fR (fR σ 49 (upd (σ.2.1 49) n x)) 50 (upd (σ.2.1 50) n y)) 51 (upd (σ.2.1 51) n w))) rfl fw_X8 (by decide) fl_X8_30 (congrArg (fun z => some (Value.int z)) hn) dX8_add_52 ?_
    refine k_v h (q_runV (As := [.int (nI j), .int (nI n)]) (rest := []) E h (c_X3_put_gR l D cy a (fR (fR (fR σ 49 (upd (σ.2.1 49) n x)) 50 (upd (σ.2.1 50) n y)) 51 (upd (σ.2.1 51) n w)) j (nI n) z hj hz hw) co_X3_put ml_X8_34 im_X3_put se_X3_put in_X3 (eX_14 cy a (fR (fR (fR σ 49 (upd (σ.2.1 49) n x)) 50 (upd (σ.2.1 50) n y)) 51 (upd (σ.2.1 51) n w))) rfl ok_X3_put rfl ⟨by decide, by decide⟩ hl.1 rfl (Nat.le_of_ble_eq_true rfl) dX8_add_55 ⟨Nat.zero_le _, Nat.zero_le _⟩) (wX_fst cy a) (fun τ55 H locs p55 h => ?_)
    have hF : τ55.1 15 = nI n := by
        rcases p55 with ⟨_, e⟩ | ⟨_, e⟩ <;> rw [e] <;> exact hn
    refine lv_aload_n hx hb dX8_add_58 rfl (lv_at hl 0 rfl) ?_
    refine lv_dup hx hb dX8_add_59 rfl ?_
    refine r_get E h 4 (v := .int (nI n)) (eX_10 cy a τ55) rfl fw_X8 (by decide) fl_X8_30 (congrArg (fun z => some (Value.int z)) hF) dX8_add_60 ?_
    refine lv_iconst (v := 1) hx hb dX8_add_63 (by decide) ?_
    refine n_add (j := n) (k := 1) hx hb dX8_add_64 ?_
    refine r_put E h 4 (ty := .int) (eX_10 cy a τ55) rfl fw_X8 tyX8_ok nmX8 (by decide) fl_X8_30 rfl (by decide +kernel) rfl rfl (Nat.le_of_ble_eq_true rfl) (sX_15 cy a τ55 (nI (n + 1))) dX8_add_65 (fun H locs h => ?_)
    refine lv_aload_n hx hb dX8_add_68 rfl (lv_at hl 0 rfl) ?_
    refine r_get E h 4 (v := .int (nI (n + 1))) (eX_10 cy a (fF τ55 15 (nI (n + 1)))) rfl fw_X8 (by decide) fl_X8_30 rfl dX8_add_69 ?_
    exact t_i E h hr hk (Or.inr ⟨c9, rfl, p55.elim (fun q => Or.inl ⟨q.1, by rw [q.2]⟩) (fun q => Or.inr ⟨q.1, by rw [q.2]; rfl⟩)⟩) dX8_add_72
  · have c9 : 40 ≤ n := n_nlt (by omega) (by decide) c9
    refine lv_bipush (v := -5) hx hb dX8_add_12 (by decide) ?_
    exact t_i E h hr hk (Or.inl ⟨by omega, rfl, rfl⟩) dX8_add_14

set_option maxHeartbeats 4000000 in
set_option maxRecDepth 100000 in
theorem c_X8_isIn_repairs (l : Launch) (D : va_G) (cy : Nat → ClassId) (a : Nat → Nat) (σ : St) (x y : Int32) (hx6 : vp_in x 40) : CI l yX8_isIn cX8_isIn 3 (some .boolean) (rmOf 1 22) D cy (wX cy a) (AX a) [.ref (a 10), .int x, .int y] σ (fun r τ => τ = σ ∧ (r = 0 ∨ r = 1)) := by
  refine c_of (lv := [(0, .ref (a 10)), (1, .int x), (2, .int y)]) rfl (Nat.le_of_ble_eq_true rfl) rfl ?_
  intro p e s m args below meth c ls E h hr hk hl
  have hx := E.1
  have hb := E.2.1
  refine lv_iload_n hx hb dX8_isIn_0 rfl (lv_at hl 2 rfl) ?_
  refine lv_aload_n hx hb dX8_isIn_1 rfl (lv_at hl 0 rfl) ?_
  refine r_get E h 1 (v := .ref (a 50)) (eX_10 cy a σ) rfl fw_X8 (by decide) fl_X8_15 rfl dX8_isIn_2 ?_
  refine lv_iload_n hx hb dX8_isIn_5 rfl (lv_at hl 1 rfl) ?_
  refine r_iald E h (f := σ.2.1 50) (eX_50 cy a σ) hx6 dX8_isIn_6 ?_
  refine lv_aload_n hx hb dX8_isIn_7 rfl (lv_at hl 0 rfl) ?_
  refine r_get E h 2 (v := .ref (a 51)) (eX_10 cy a σ) rfl fw_X8 (by decide) fl_X8_18 rfl dX8_isIn_8 ?_
  refine lv_iload_n hx hb dX8_isIn_11 rfl (lv_at hl 1 rfl) ?_
  refine r_iald E h (f := σ.2.1 51) (eX_51 cy a σ) hx6 dX8_isIn_12 ?_
  refine k_i h (q_runSN (As := [.int y, .int (σ.2.1 50 x.toNatClampNeg), .int (σ.2.1 51 x.toNatClampNeg)]) (rest := []) E h (c_X11_isWithin l D cy a σ y (σ.2.1 50 x.toNatClampNeg) (σ.2.1 51 x.toNatClampNeg)) co_X11_isWithin nl_X8_38 st_X11_isWithin in_X11 ok_X11_isWithin rfl ⟨by decide, by decide⟩ hl.1 rfl (Nat.le_of_ble_eq_true rfl) dX8_isIn_13 ⟨Nat.zero_le _, Nat.zero_le _⟩) (wX_fst cy a) (fun r13 τ13 H locs p13 h => ?_)
  rw [p13.1] at h
  exact t_z E h hr hk p13.2.z ⟨rfl, p13.2.z⟩ dX8_isIn_16

set_option maxHeartbeats 4000000 in
set_option maxRecDepth 100000 in
theorem c_X8_hasAny_repairs (l : Launch) (D : va_G) (cy : Nat → ClassId) (a : Nat → Nat) (σ : St) (j : Nat) (y : Int32) (hj : j < 12) (gg : GRP (σ.2.1 59) (σ.2.1 58) 40 40) : CI l yX8_hasAny cX8_hasAny 4 (some .boolean) (rmOf 2 44) D cy (wX cy a) (AX a) [.ref (a 10), .int (nI j), .int y] σ (fun r τ => τ = σ ∧ (r = 0 ∨ r = 1)) := by
  refine c_of (lv := [(0, .ref (a 10)), (1, .int (nI j)), (2, .int y)]) rfl (Nat.le_of_ble_eq_true rfl) rfl ?_
  intro p e s m args below meth c ls E h hr hk hl
  have hx := E.1
  have hb := E.2.1
  obtain ⟨z, hzw, hz, hm⟩ := gg j hj
  refine lv_iconst (v := 0) hx hb dX8_hasAny_0 (by decide) ?_
  refine lv_istore_n (lv' := [(3, .int 0), (0, .ref (a 10)), (1, .int (nI j)), (2, .int y)]) hx hb dX8_hasAny_1 rfl hl (by decide) rfl (fun ls hl => ?_)
  have lp2 : ∀ (f : Nat) (i : Nat) (H : Heap) (locs : List Loc) (ls : Array Slot), (i ≤ z) → (z - i) < f → HW D (AX a) s (wX cy a σ) H locs → lv_has ls 4 [(3, .int (nI i)), (0, .ref (a 10)), (1, .int (nI j)), (2, .int y)] → W p l e (rmOf 2 44) s m args below meth c H locs 0 0 (MQ below (va_Qi (fun r τ => τ = σ ∧ (r = 0 ∨ r = 1)) (fun u t => va_P D vwCl (wX cy a u) t.heap) (AX a)) args s 0 0 (AX a)) (F0 m 2 ls []) := by
    intro f
    induction f with
    | zero => intro i H locs ls _ hf; exact absurd hf (Nat.not_lt_zero _)
    | succ f ih2 =>
      intro i H locs ls hi2 hf2 h hl
      refine lv_iload_n hx hb dX8_hasAny_2 rfl (lv_at hl 0 rfl) ?_
      refine lv_aload_n hx hb dX8_hasAny_3 rfl (lv_at hl 1 rfl) ?_
      refine r_get E h 3 (v := .ref (a 14)) (eX_10 cy a σ) rfl fw_X8 (by decide) fl_X8_26 rfl dX8_hasAny_4 ?_
      refine r_get E h 2 (v := .ref (a 59)) (eX_14 cy a σ) rfl fw_X3 (by decide) fl_X8_42 rfl dX8_hasAny_7 ?_
      refine lv_iload_n hx hb dX8_hasAny_10 rfl (lv_at hl 2 rfl) ?_
      refine r_ialdN E h (f := σ.2.1 59) (eX_59 cy a σ) (j := j) hj (by decide) (v := nI z) hz dX8_hasAny_11 ?_
      refine lv_icmp_ge (tgt := 40) hx hb dX8_hasAny_12 (by decide) (fun c12 => ?_) (fun c12 => ?_)
      · refine lv_iconst (v := 0) hx hb dX8_hasAny_40 (by decide) ?_
        exact t_z E h hr hk (Or.inl rfl) ⟨rfl, Or.inl rfl⟩ dX8_hasAny_41
      · have c12 : i < z := Nat.lt_of_not_le fun q => c12 ((nI_leI (by omega) (by omega)).mpr q)
        refine lv_aload_n hx hb dX8_hasAny_15 rfl (lv_at hl 1 rfl) ?_
        refine lv_aload_n hx hb dX8_hasAny_16 rfl (lv_at hl 1 rfl) ?_
        refine r_get E h 3 (v := .ref (a 14)) (eX_10 cy a σ) rfl fw_X8 (by decide) fl_X8_26 rfl dX8_hasAny_17 ?_
        refine lv_iload_n hx hb dX8_hasAny_20 rfl (lv_at hl 2 rfl) ?_
        refine lv_iload_n hx hb dX8_hasAny_21 rfl (lv_at hl 0 rfl) ?_
        refine k_i h (q_runV (As := [.int (nI j), .int (nI i)]) (rest := [.ref (a 10)]) E h (c_X3_member_gR l D cy a σ j i hj (by omega)) co_X3_member ml_X8_45 im_X3_member se_X3_member in_X3 (eX_14 cy a σ) rfl ok_X3_member rfl ⟨by decide, by decide⟩ hl.1 rfl (Nat.le_of_ble_eq_true rfl) dX8_hasAny_22 ⟨Nat.zero_le _, Nat.zero_le _⟩) (wX_fst cy a) (fun r22 τ22 H locs p22 h => ?_)
        rw [p22.1] at h
        refine lv_iload_n hx hb dX8_hasAny_25 rfl (lv_at hl 3 rfl) ?_
        refine k_i h (q_runV (As := [.int r22, .int y]) (rest := []) E h (c_X8_isIn_repairs l D cy a σ r22 y (by rw [p22.2]; exact hm i c12)) co_X8_isIn ml_X8_49 im_X8_isIn se_X8_isIn in_X8 (eX_10 cy a σ) rfl ok_X8_isIn rfl ⟨by decide, by decide⟩ hl.1 rfl (Nat.le_of_ble_eq_true rfl) dX8_hasAny_26 ⟨Nat.zero_le _, Nat.zero_le _⟩) (wX_fst cy a) (fun r26 τ26 H locs p26 h => ?_)
        rw [p26.1] at h
        refine lv_if_eq (tgt := 34) hx hb dX8_hasAny_29 (by decide) (fun c29 => ?_) (fun c29 => ?_)
        · refine lv_iinc (v := nI (i + 1)) (lv' := [(3, .int (nI (i + 1))), (0, .ref (a 10)), (1, .int (nI j)), (2, .int y)]) hx hb dX8_hasAny_34 hl (k := 0) rfl (nI_succ i).symm (by decide) rfl (fun ls hl => ?_)
          refine lv_goto (tgt := 2) hx hb dX8_hasAny_37 (by decide) ?_
          exact ih2 (i + 1) _ _ _ (by omega) (by omega) h (lv_sub hl [0, 1, 2, 3] rfl)
        · refine lv_iconst (v := 1) hx hb dX8_hasAny_32 (by decide) ?_
          exact t_z E h hr hk (Or.inr rfl) ⟨rfl, Or.inr rfl⟩ dX8_hasAny_33
  exact lp2 _ 0 _ _ _ (Nat.zero_le _) (Nat.lt_succ_self _) h (lv_sub hl [0, 1, 2, 3] rfl)

set_option maxHeartbeats 4000000 in
set_option maxRecDepth 100000 in
theorem c_X8_take_repairs (l : Launch) (D : va_G) (cy : Nat → ClassId) (a : Nat → Nat) (σ : St) (j : Nat) (y x : Int32) (hj : j < 12) (gg : GRP (σ.2.1 59) (σ.2.1 58) 40 40) : CI l yX8_take cX8_take 7 (some .int) (rmOf 2 44) D cy (wX cy a) (AX a) [.ref (a 10), .int (nI j), .int y, .int x] σ (fun r τ => τ = σ ∧ True) := by
  refine c_of (lv := [(0, .ref (a 10)), (1, .int (nI j)), (2, .int y), (3, .int x)]) rfl (Nat.le_of_ble_eq_true rfl) rfl ?_
  intro p e s m args below meth c ls E h hr hk hl
  have hx := E.1
  have hb := E.2.1
  obtain ⟨z, hzw, hz, hm⟩ := gg j hj
  refine lv_iload_n hx hb dX8_take_0 rfl (lv_at hl 3 rfl) ?_
  refine lv_istore (lv' := [(4, .int x), (0, .ref (a 10)), (1, .int (nI j)), (2, .int y), (3, .int x)]) hx hb dX8_take_1 hl (by decide) rfl (fun ls hl => ?_)
  refine lv_iconst (v := 0) hx hb dX8_take_3 (by decide) ?_
  refine lv_istore (lv' := [(5, .int 0), (4, .int x), (0, .ref (a 10)), (1, .int (nI j)), (2, .int y), (3, .int x)]) hx hb dX8_take_4 hl (by decide) rfl (fun ls hl => ?_)
  have lp6 : ∀ (f : Nat) (i : Nat) (u : Int32) (H : Heap) (locs : List Loc) (ls : Array Slot), (i ≤ z) → (z - i) < f → HW D (AX a) s (wX cy a σ) H locs → lv_has ls 7 [(5, .int (nI i)), (4, .int u), (0, .ref (a 10)), (1, .int (nI j)), (2, .int y), (3, .int x)] → W p l e (rmOf 2 44) s m args below meth c H locs 0 0 (MQ below (va_Qi (fun r τ => τ = σ ∧ True) (fun u t => va_P D vwCl (wX cy a u) t.heap) (AX a)) args s 0 0 (AX a)) (F0 m 6 ls []) := by
    intro f
    induction f with
    | zero => intro i u H locs ls _ hf; exact absurd hf (Nat.not_lt_zero _)
    | succ f ih6 =>
      intro i u H locs ls hi6 hf6 h hl
      refine lv_iload hx hb dX8_take_6 (lv_at hl 0 rfl) ?_
      refine lv_aload_n hx hb dX8_take_8 rfl (lv_at hl 2 rfl) ?_
      refine r_get E h 3 (v := .ref (a 14)) (eX_10 cy a σ) rfl fw_X8 (by decide) fl_X8_26 rfl dX8_take_9 ?_
      refine r_get E h 2 (v := .ref (a 59)) (eX_14 cy a σ) rfl fw_X3 (by decide) fl_X8_42 rfl dX8_take_12 ?_
      refine lv_iload_n hx hb dX8_take_15 rfl (lv_at hl 3 rfl) ?_
      refine r_ialdN E h (f := σ.2.1 59) (eX_59 cy a σ) (j := j) hj (by decide) (v := nI z) hz dX8_take_16 ?_
      refine lv_icmp_ge (tgt := 65) hx hb dX8_take_17 (by decide) (fun c17 => ?_) (fun c17 => ?_)
      · refine lv_iload_n hx hb dX8_take_65 rfl (lv_at hl 5 rfl) ?_
        refine lv_iload hx hb dX8_take_66 (lv_at hl 1 rfl) ?_
        refine lv_isub hx hb dX8_take_68 ?_
        exact t_i E h hr hk ⟨rfl, trivial⟩ dX8_take_69
      · have c17 : i < z := Nat.lt_of_not_le fun q => c17 ((nI_leI (by omega) (by omega)).mpr q)
        refine lv_aload_n hx hb dX8_take_20 rfl (lv_at hl 2 rfl) ?_
        refine r_get E h 3 (v := .ref (a 14)) (eX_10 cy a σ) rfl fw_X8 (by decide) fl_X8_26 rfl dX8_take_21 ?_
        refine lv_iload_n hx hb dX8_take_24 rfl (lv_at hl 3 rfl) ?_
        refine lv_iload hx hb dX8_take_25 (lv_at hl 0 rfl) ?_
        refine k_i h (q_runV (As := [.int (nI j), .int (nI i)]) (rest := []) E h (c_X3_member_gR l D cy a σ j i hj (by omega)) co_X3_member ml_X8_45 im_X3_member se_X3_member in_X3 (eX_14 cy a σ) rfl ok_X3_member rfl ⟨by decide, by decide⟩ hl.1 rfl (Nat.le_of_ble_eq_true rfl) dX8_take_27 ⟨Nat.zero_le _, Nat.zero_le _⟩) (wX_fst cy a) (fun r27 τ27 H locs p27 h => ?_)
        rw [p27.1] at h
        refine lv_istore (lv' := [(6, .int r27), (5, .int (nI i)), (4, .int u), (0, .ref (a 10)), (1, .int (nI j)), (2, .int y), (3, .int x)]) hx hb dX8_take_30 hl (by decide) rfl (fun ls hl => ?_)
        refine lv_aload_n hx hb dX8_take_32 rfl (lv_at hl 3 rfl) ?_
        refine lv_iload hx hb dX8_take_33 (lv_at hl 0 rfl) ?_
        refine lv_iload_n hx hb dX8_take_35 rfl (lv_at hl 5 rfl) ?_
        refine k_i h (q_runV (As := [.int r27, .int y]) (rest := []) E h (c_X8_isIn_repairs l D cy a σ r27 y (by rw [p27.2]; exact hm i c17)) co_X8_isIn ml_X8_49 im_X8_isIn se_X8_isIn in_X8 (eX_10 cy a σ) rfl ok_X8_isIn rfl ⟨by decide, by decide⟩ hl.1 rfl (Nat.le_of_ble_eq_true rfl) dX8_take_36 ⟨Nat.zero_le _, Nat.zero_le _⟩) (wX_fst cy a) (fun r36 τ36 H locs p36 h => ?_)
        rw [p36.1] at h
        refine lv_if_eq (tgt := 59) hx hb dX8_take_39 (by decide) (fun c39 => ?_) (fun c39 => ?_)
        · refine lv_iinc (v := nI (i + 1)) (lv' := [(5, .int (nI (i + 1))), (6, .int r27), (4, .int u), (0, .ref (a 10)), (1, .int (nI j)), (2, .int y), (3, .int x)]) hx hb dX8_take_59 hl (k := 1) rfl (nI_succ i).symm (by decide) rfl (fun ls hl => ?_)
          refine lv_goto (tgt := 6) hx hb dX8_take_62 (by decide) ?_
          exact ih6 (i + 1) u _ _ _ (by omega) (by omega) h (lv_sub hl [0, 2, 3, 4, 5, 6] rfl)
        · refine lv_iload hx hb dX8_take_42 (lv_at hl 2 rfl) ?_
          refine lv_iload hx hb dX8_take_44 (lv_at hl 2 rfl) ?_
          refine lv_aload_n hx hb dX8_take_46 rfl (lv_at hl 3 rfl) ?_
          refine r_get E h 0 (v := .ref (a 49)) (eX_10 cy a σ) rfl fw_X8 (by decide) fl_X8_9 rfl dX8_take_47 ?_
          refine lv_iload hx hb dX8_take_50 (lv_at hl 0 rfl) ?_
          refine r_iald E h (f := σ.2.1 49) (eX_49 cy a σ) (by rw [p27.2]; exact hm i c17) dX8_take_52 ?_
          refine r_mmin E hl.1 ml_X8_53 st_J9_min_7cf53 in_J9 co_J9_min_7cf53 ⟨Nat.le_of_ble_eq_true rfl, Nat.le_of_ble_eq_true rfl⟩ ⟨Nat.zero_le _, Nat.zero_le _⟩ dX8_take_53 ?_
          refine lv_isub hx hb dX8_take_56 ?_
          refine lv_istore (lv' := [(4, .int (u - (if (σ.2.1 49 r27.toNatClampNeg) < u then (σ.2.1 49 r27.toNatClampNeg) else u))), (6, .int r27), (5, .int (nI i)), (0, .ref (a 10)), (1, .int (nI j)), (2, .int y), (3, .int x)]) hx hb dX8_take_57 hl (by decide) rfl (fun ls hl => ?_)
          refine lv_iinc (v := nI (i + 1)) (lv' := [(5, .int (nI (i + 1))), (4, .int (u - (if (σ.2.1 49 r27.toNatClampNeg) < u then (σ.2.1 49 r27.toNatClampNeg) else u))), (6, .int r27), (0, .ref (a 10)), (1, .int (nI j)), (2, .int y), (3, .int x)]) hx hb dX8_take_59 hl (k := 2) rfl (nI_succ i).symm (by decide) rfl (fun ls hl => ?_)
          refine lv_goto (tgt := 6) hx hb dX8_take_62 (by decide) ?_
          exact ih6 (i + 1) (u - (if (σ.2.1 49 r27.toNatClampNeg) < u then (σ.2.1 49 r27.toNatClampNeg) else u)) _ _ _ (by omega) (by omega) h (lv_sub hl [0, 1, 3, 4, 5, 6] rfl)
  exact lp6 _ 0 x _ _ _ (Nat.zero_le _) (Nat.lt_succ_self _) h (lv_sub hl [0, 1, 2, 3, 4, 5] rfl)

set_option maxHeartbeats 4000000 in
set_option maxRecDepth 100000 in
theorem c_X4_clear_book (l : Launch) (D : va_G) (cy : Nat → ClassId) (a : Nat → Nat) (σ : St)   : CV l yX4_clear cX4_clear 1 none (rmOf 0 0) D cy (wX cy a) (AX a) [.ref (a 3)] σ (fun τ => τ = fF σ 7 0) := by
  refine c_of (lv := [(0, .ref (a 3))]) rfl (Nat.le_of_ble_eq_true rfl) rfl ?_
  intro p e s m args below meth c ls E h hr hk hl
  have hx := E.1
  have hb := E.2.1
  refine lv_aload_n hx hb dX4_clear_0 rfl (lv_at hl 0 rfl) ?_
  refine lv_iconst (v := 0) hx hb dX4_clear_1 (by decide) ?_
  refine r_put E h 5 (ty := .int) (eX_3 cy a σ) rfl fw_X4 tyX4_ok nmX4 (by decide) fl_X4_27 rfl (by decide +kernel) rfl rfl (Nat.le_of_ble_eq_true rfl) (sX_7 cy a σ 0) dX4_clear_2 (fun H locs h => ?_)
  exact t_v E h hr hk rfl dX4_clear_5

set_option maxHeartbeats 4000000 in
set_option maxRecDepth 100000 in
theorem c_X4_add_book (l : Launch) (D : va_G) (cy : Nat → ClassId) (a : Nat → Nat) (σ : St) (x y w v : Int32) (n : Nat) (hn : σ.1 7 = nI n) (hn6 : n ≤ 30) : CV l yX4_add cX4_add 5 none (rmOf 0 0) D cy (wX cy a) (AX a) [.ref (a 3), .int x, .int y, .int w, .int v] σ (fun τ => (n = 30 ∧ τ = σ) ∨ (n < 30 ∧ τ = fF (fR (fR (fR (fR σ 19 (upd (σ.2.1 19) n x)) 20 (upd (σ.2.1 20) n y)) 21 (upd (σ.2.1 21) n w)) 22 (upd (σ.2.1 22) n v)) 7 (nI (n + 1)))) := by
  refine c_of (lv := [(0, .ref (a 3)), (1, .int x), (2, .int y), (3, .int w), (4, .int v)]) rfl (Nat.le_of_ble_eq_true rfl) rfl ?_
  intro p e s m args below meth c ls E h hr hk hl
  have hx := E.1
  have hb := E.2.1
  refine lv_aload_n hx hb dX4_add_0 rfl (lv_at hl 0 rfl) ?_
  refine r_get E h 5 (v := .int (nI n)) (eX_3 cy a σ) rfl fw_X4 (by decide) fl_X4_27 (congrArg (fun z => some (Value.int z)) hn) dX4_add_1 ?_
  refine lv_bipush (v := 30) hx hb dX4_add_4 (by decide) ?_
  refine lv_icmp_lt (tgt := 10) hx hb dX4_add_6 (by decide) (fun c6 => ?_) (fun c6 => ?_)
  · have c6 : n < 30 := n_lt (by omega) (by decide) c6
    refine lv_aload_n hx hb dX4_add_10 rfl (lv_at hl 0 rfl) ?_
    refine r_get E h 0 (v := .ref (a 19)) (eX_3 cy a σ) rfl fw_X4 (by decide) fl_X4_9 rfl dX4_add_11 ?_
    refine lv_aload_n hx hb dX4_add_14 rfl (lv_at hl 0 rfl) ?_
    refine r_get E h 5 (v := .int (nI n)) (eX_3 cy a σ) rfl fw_X4 (by decide) fl_X4_27 (congrArg (fun z => some (Value.int z)) hn) dX4_add_15 ?_
    refine lv_iload_n hx hb dX4_add_18 rfl (lv_at hl 1 rfl) ?_
    refine r_iastN E h (f := σ.2.1 19) (eX_19 cy a σ) (j := n) c6 (by decide) (qX_19 cy a σ (upd (σ.2.1 19) n x)) dX4_add_19 (fun H locs h => ?_)
    refine lv_aload_n hx hb dX4_add_20 rfl (lv_at hl 0 rfl) ?_
    refine r_get E h 1 (v := .ref (a 20)) (eX_3 cy a (fR σ 19 (upd (σ.2.1 19) n x))) rfl fw_X4 (by decide) fl_X4_15 rfl dX4_add_21 ?_
    refine lv_aload_n hx hb dX4_add_24 rfl (lv_at hl 0 rfl) ?_
    refine r_get E h 5 (v := .int (nI n)) (eX_3 cy a (fR σ 19 (upd (σ.2.1 19) n x))) rfl fw_X4 (by decide) fl_X4_27 (congrArg (fun z => some (Value.int z)) hn) dX4_add_25 ?_
    refine lv_iload_n hx hb dX4_add_28 rfl (lv_at hl 2 rfl) ?_
    refine r_iastN E h (f := σ.2.1 20) (eX_20 cy a (fR σ 19 (upd (σ.2.1 19) n x))) (j := n) c6 (by decide) (qX_20 cy a (fR σ 19 (upd (σ.2.1 19) n x)) (upd (σ.2.1 20) n y)) dX4_add_29 (fun H locs h => ?_)
    refine lv_aload_n hx hb dX4_add_30 rfl (lv_at hl 0 rfl) ?_
    refine r_get E h 2 (v := .ref (a 21)) (eX_3 cy a (fR (fR σ 19 (upd (σ.2.1 19) n x)) 20 (upd (σ.2.1 20) n y))) rfl fw_X4 (by decide) fl_X4_18 rfl dX4_add_31 ?_
    refine lv_aload_n hx hb dX4_add_34 rfl (lv_at hl 0 rfl) ?_
    refine r_get E h 5 (v := .int (nI n)) (eX_3 cy a (fR (fR σ 19 (upd (σ.2.1 19) n x)) 20 (upd (σ.2.1 20) n y))) rfl fw_X4 (by decide) fl_X4_27 (congrArg (fun z => some (Value.int z)) hn) dX4_add_35 ?_
    refine lv_iload_n hx hb dX4_add_38 rfl (lv_at hl 3 rfl) ?_
    refine r_iastN E h (f := σ.2.1 21) (eX_21 cy a (fR (fR σ 19 (upd (σ.2.1 19) n x)) 20 (upd (σ.2.1 20) n y))) (j := n) c6 (by decide) (qX_21 cy a (fR (fR σ 19 (upd (σ.2.1 19) n x)) 20 (upd (σ.2.1 20) n y)) (upd (σ.2.1 21) n w)) dX4_add_39 (fun H locs h => ?_)
    refine lv_aload_n hx hb dX4_add_40 rfl (lv_at hl 0 rfl) ?_
    refine r_get E h 3 (v := .ref (a 22)) (eX_3 cy a (fR (fR (fR σ 19 (upd (σ.2.1 19) n x)) 20 (upd (σ.2.1 20) n y)) 21 (upd (σ.2.1 21) n w))) rfl fw_X4 (by decide) fl_X4_21 rfl dX4_add_41 ?_
    refine lv_aload_n hx hb dX4_add_44 rfl (lv_at hl 0 rfl) ?_
    refine r_get E h 5 (v := .int (nI n)) (eX_3 cy a (fR (fR (fR σ 19 (upd (σ.2.1 19) n x)) 20 (upd (σ.2.1 20) n y)) 21 (upd (σ.2.1 21) n w))) rfl fw_X4 (by decide) fl_X4_27 (congrArg (fun z => some (Value.int z)) hn) dX4_add_45 ?_
    refine lv_iload hx hb dX4_add_48 (lv_at hl 4 rfl) ?_
    refine r_iastN E h (f := σ.2.1 22) (eX_22 cy a (fR (fR (fR σ 19 (upd (σ.2.1 19) n x)) 20 (upd (σ.2.1 20) n y)) 21 (upd (σ.2.1 21) n w))) (j := n) c6 (by decide) (qX_22 cy a (fR (fR (fR σ 19 (upd (σ.2.1 19) n x)) 20 (upd (σ.2.1 20) n y)) 21 (upd (σ.2.1 21) n w)) (upd (σ.2.1 22) n v)) dX4_add_50 (fun H locs h => ?_)
    refine lv_aload_n hx hb dX4_add_51 rfl (lv_at hl 0 rfl) ?_
    refine lv_dup hx hb dX4_add_52 rfl ?_
    refine r_get E h 5 (v := .int (nI n)) (eX_3 cy a (fR (fR (fR (fR σ 19 (upd (σ.2.1 19) n x)) 20 (upd (σ.2.1 20) n y)) 21 (upd (σ.2.1 21) n w)) 22 (upd (σ.2.1 22) n v))) rfl fw_X4 (by decide) fl_X4_27 (congrArg (fun z => some (Value.int z)) hn) dX4_add_53 ?_
    refine lv_iconst (v := 1) hx hb dX4_add_56 (by decide) ?_
    refine n_add (j := n) (k := 1) hx hb dX4_add_57 ?_
    refine r_put E h 5 (ty := .int) (eX_3 cy a (fR (fR (fR (fR σ 19 (upd (σ.2.1 19) n x)) 20 (upd (σ.2.1 20) n y)) 21 (upd (σ.2.1 21) n w)) 22 (upd (σ.2.1 22) n v))) rfl fw_X4 tyX4_ok nmX4 (by decide) fl_X4_27 rfl (by decide +kernel) rfl rfl (Nat.le_of_ble_eq_true rfl) (sX_7 cy a (fR (fR (fR (fR σ 19 (upd (σ.2.1 19) n x)) 20 (upd (σ.2.1 20) n y)) 21 (upd (σ.2.1 21) n w)) 22 (upd (σ.2.1 22) n v)) (nI (n + 1))) dX4_add_58 (fun H locs h => ?_)
    exact t_v E h hr hk (Or.inr ⟨c6, rfl⟩) dX4_add_61
  · have c6 : 30 ≤ n := n_nlt (by omega) (by decide) c6
    exact t_v E h hr hk (Or.inl ⟨by omega, rfl⟩) dX4_add_9

set_option maxHeartbeats 4000000 in
set_option maxRecDepth 100000 in
theorem c_X4_clear_draft (l : Launch) (D : va_G) (cy : Nat → ClassId) (a : Nat → Nat) (σ : St)   : CV l yX4_clear cX4_clear 1 none (rmOf 0 0) D cy (wX cy a) (AX a) [.ref (a 4)] σ (fun τ => τ = fF σ 8 0) := by
  refine c_of (lv := [(0, .ref (a 4))]) rfl (Nat.le_of_ble_eq_true rfl) rfl ?_
  intro p e s m args below meth c ls E h hr hk hl
  have hx := E.1
  have hb := E.2.1
  refine lv_aload_n hx hb dX4_clear_0 rfl (lv_at hl 0 rfl) ?_
  refine lv_iconst (v := 0) hx hb dX4_clear_1 (by decide) ?_
  refine r_put E h 5 (ty := .int) (eX_4 cy a σ) rfl fw_X4 tyX4_ok nmX4 (by decide) fl_X4_27 rfl (by decide +kernel) rfl rfl (Nat.le_of_ble_eq_true rfl) (sX_8 cy a σ 0) dX4_clear_2 (fun H locs h => ?_)
  exact t_v E h hr hk rfl dX4_clear_5

set_option maxHeartbeats 4000000 in
set_option maxRecDepth 100000 in
theorem c_X4_add_draft (l : Launch) (D : va_G) (cy : Nat → ClassId) (a : Nat → Nat) (σ : St) (x y w v : Int32) (n : Nat) (hn : σ.1 8 = nI n) (hn6 : n ≤ 30) : CV l yX4_add cX4_add 5 none (rmOf 0 0) D cy (wX cy a) (AX a) [.ref (a 4), .int x, .int y, .int w, .int v] σ (fun τ => (n = 30 ∧ τ = σ) ∨ (n < 30 ∧ τ = fF (fR (fR (fR (fR σ 24 (upd (σ.2.1 24) n x)) 25 (upd (σ.2.1 25) n y)) 26 (upd (σ.2.1 26) n w)) 27 (upd (σ.2.1 27) n v)) 8 (nI (n + 1)))) := by
  refine c_of (lv := [(0, .ref (a 4)), (1, .int x), (2, .int y), (3, .int w), (4, .int v)]) rfl (Nat.le_of_ble_eq_true rfl) rfl ?_
  intro p e s m args below meth c ls E h hr hk hl
  have hx := E.1
  have hb := E.2.1
  refine lv_aload_n hx hb dX4_add_0 rfl (lv_at hl 0 rfl) ?_
  refine r_get E h 5 (v := .int (nI n)) (eX_4 cy a σ) rfl fw_X4 (by decide) fl_X4_27 (congrArg (fun z => some (Value.int z)) hn) dX4_add_1 ?_
  refine lv_bipush (v := 30) hx hb dX4_add_4 (by decide) ?_
  refine lv_icmp_lt (tgt := 10) hx hb dX4_add_6 (by decide) (fun c6 => ?_) (fun c6 => ?_)
  · have c6 : n < 30 := n_lt (by omega) (by decide) c6
    refine lv_aload_n hx hb dX4_add_10 rfl (lv_at hl 0 rfl) ?_
    refine r_get E h 0 (v := .ref (a 24)) (eX_4 cy a σ) rfl fw_X4 (by decide) fl_X4_9 rfl dX4_add_11 ?_
    refine lv_aload_n hx hb dX4_add_14 rfl (lv_at hl 0 rfl) ?_
    refine r_get E h 5 (v := .int (nI n)) (eX_4 cy a σ) rfl fw_X4 (by decide) fl_X4_27 (congrArg (fun z => some (Value.int z)) hn) dX4_add_15 ?_
    refine lv_iload_n hx hb dX4_add_18 rfl (lv_at hl 1 rfl) ?_
    refine r_iastN E h (f := σ.2.1 24) (eX_24 cy a σ) (j := n) c6 (by decide) (qX_24 cy a σ (upd (σ.2.1 24) n x)) dX4_add_19 (fun H locs h => ?_)
    refine lv_aload_n hx hb dX4_add_20 rfl (lv_at hl 0 rfl) ?_
    refine r_get E h 1 (v := .ref (a 25)) (eX_4 cy a (fR σ 24 (upd (σ.2.1 24) n x))) rfl fw_X4 (by decide) fl_X4_15 rfl dX4_add_21 ?_
    refine lv_aload_n hx hb dX4_add_24 rfl (lv_at hl 0 rfl) ?_
    refine r_get E h 5 (v := .int (nI n)) (eX_4 cy a (fR σ 24 (upd (σ.2.1 24) n x))) rfl fw_X4 (by decide) fl_X4_27 (congrArg (fun z => some (Value.int z)) hn) dX4_add_25 ?_
    refine lv_iload_n hx hb dX4_add_28 rfl (lv_at hl 2 rfl) ?_
    refine r_iastN E h (f := σ.2.1 25) (eX_25 cy a (fR σ 24 (upd (σ.2.1 24) n x))) (j := n) c6 (by decide) (qX_25 cy a (fR σ 24 (upd (σ.2.1 24) n x)) (upd (σ.2.1 25) n y)) dX4_add_29 (fun H locs h => ?_)
    refine lv_aload_n hx hb dX4_add_30 rfl (lv_at hl 0 rfl) ?_
    refine r_get E h 2 (v := .ref (a 26)) (eX_4 cy a (fR (fR σ 24 (upd (σ.2.1 24) n x)) 25 (upd (σ.2.1 25) n y))) rfl fw_X4 (by decide) fl_X4_18 rfl dX4_add_31 ?_
    refine lv_aload_n hx hb dX4_add_34 rfl (lv_at hl 0 rfl) ?_
    refine r_get E h 5 (v := .int (nI n)) (eX_4 cy a (fR (fR σ 24 (upd (σ.2.1 24) n x)) 25 (upd (σ.2.1 25) n y))) rfl fw_X4 (by decide) fl_X4_27 (congrArg (fun z => some (Value.int z)) hn) dX4_add_35 ?_
    refine lv_iload_n hx hb dX4_add_38 rfl (lv_at hl 3 rfl) ?_
    refine r_iastN E h (f := σ.2.1 26) (eX_26 cy a (fR (fR σ 24 (upd (σ.2.1 24) n x)) 25 (upd (σ.2.1 25) n y))) (j := n) c6 (by decide) (qX_26 cy a (fR (fR σ 24 (upd (σ.2.1 24) n x)) 25 (upd (σ.2.1 25) n y)) (upd (σ.2.1 26) n w)) dX4_add_39 (fun H locs h => ?_)
    refine lv_aload_n hx hb dX4_add_40 rfl (lv_at hl 0 rfl) ?_
    refine r_get E h 3 (v := .ref (a 27)) (eX_4 cy a (fR (fR (fR σ 24 (upd (σ.2.1 24) n x)) 25 (upd (σ.2.1 25) n y)) 26 (upd (σ.2.1 26) n w))) rfl fw_X4 (by decide) fl_X4_21 rfl dX4_add_41 ?_
    refine lv_aload_n hx hb dX4_add_44 rfl (lv_at hl 0 rfl) ?_
    refine r_get E h 5 (v := .int (nI n)) (eX_4 cy a (fR (fR (fR σ 24 (upd (σ.2.1 24) n x)) 25 (upd (σ.2.1 25) n y)) 26 (upd (σ.2.1 26) n w))) rfl fw_X4 (by decide) fl_X4_27 (congrArg (fun z => some (Value.int z)) hn) dX4_add_45 ?_
    refine lv_iload hx hb dX4_add_48 (lv_at hl 4 rfl) ?_
    refine r_iastN E h (f := σ.2.1 27) (eX_27 cy a (fR (fR (fR σ 24 (upd (σ.2.1 24) n x)) 25 (upd (σ.2.1 25) n y)) 26 (upd (σ.2.1 26) n w))) (j := n) c6 (by decide) (qX_27 cy a (fR (fR (fR σ 24 (upd (σ.2.1 24) n x)) 25 (upd (σ.2.1 25) n y)) 26 (upd (σ.2.1 26) n w)) (upd (σ.2.1 27) n v)) dX4_add_50 (fun H locs h => ?_)
    refine lv_aload_n hx hb dX4_add_51 rfl (lv_at hl 0 rfl) ?_
    refine lv_dup hx hb dX4_add_52 rfl ?_
    refine r_get E h 5 (v := .int (nI n)) (eX_4 cy a (fR (fR (fR (fR σ 24 (upd (σ.2.1 24) n x)) 25 (upd (σ.2.1 25) n y)) 26 (upd (σ.2.1 26) n w)) 27 (upd (σ.2.1 27) n v))) rfl fw_X4 (by decide) fl_X4_27 (congrArg (fun z => some (Value.int z)) hn) dX4_add_53 ?_
    refine lv_iconst (v := 1) hx hb dX4_add_56 (by decide) ?_
    refine n_add (j := n) (k := 1) hx hb dX4_add_57 ?_
    refine r_put E h 5 (ty := .int) (eX_4 cy a (fR (fR (fR (fR σ 24 (upd (σ.2.1 24) n x)) 25 (upd (σ.2.1 25) n y)) 26 (upd (σ.2.1 26) n w)) 27 (upd (σ.2.1 27) n v))) rfl fw_X4 tyX4_ok nmX4 (by decide) fl_X4_27 rfl (by decide +kernel) rfl rfl (Nat.le_of_ble_eq_true rfl) (sX_8 cy a (fR (fR (fR (fR σ 24 (upd (σ.2.1 24) n x)) 25 (upd (σ.2.1 25) n y)) 26 (upd (σ.2.1 26) n w)) 27 (upd (σ.2.1 27) n v)) (nI (n + 1))) dX4_add_58 (fun H locs h => ?_)
    exact t_v E h hr hk (Or.inr ⟨c6, rfl⟩) dX4_add_61
  · have c6 : 30 ≤ n := n_nlt (by omega) (by decide) c6
    exact t_v E h hr hk (Or.inl ⟨by omega, rfl⟩) dX4_add_9
end
