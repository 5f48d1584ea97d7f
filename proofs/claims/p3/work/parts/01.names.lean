-- ===== PART A: goes FIRST, ahead of the names: the tables' words, and 'selects' of the private methods out of them =====
/-- a private method of a class that the tables say can be made, by its rows of tables_1 -/
def lw_okq (q : MethodName × Nat) : Prop := (q.1.cls ≠ "java/lang/invoke/MethodHandle" ∧ q.1.cls ≠ "java/lang/invoke/VarHandle") ∧ Cond.instantiable q.1.cls q.2 ∈ tables_1 ∧ Cond.privateMethod q.1 ∈ tables_1 ∧ Cond.instanceMethod q.1 ∈ tables_1
theorem lw_p0 : lw_okq (⟨"WaterOffice", "told", "(I)I"⟩, 14) := ⟨⟨by decide +kernel, by decide +kernel⟩, List.mem_of_getElem? (i := 20) (by decide +kernel), List.mem_of_getElem? (i := 394) (by decide +kernel), List.mem_of_getElem? (i := 395) (by decide +kernel)⟩
theorem lw_p1 : lw_okq (⟨"WaterOffice", "isSource", "(I)Z"⟩, 14) := ⟨⟨by decide +kernel, by decide +kernel⟩, List.mem_of_getElem? (i := 20) (by decide +kernel), List.mem_of_getElem? (i := 432) (by decide +kernel), List.mem_of_getElem? (i := 433) (by decide +kernel)⟩
theorem lw_p2 : lw_okq (⟨"WaterOffice", "isPerson", "(I)Z"⟩, 14) := ⟨⟨by decide +kernel, by decide +kernel⟩, List.mem_of_getElem? (i := 20) (by decide +kernel), List.mem_of_getElem? (i := 458) (by decide +kernel), List.mem_of_getElem? (i := 459) (by decide +kernel)⟩
theorem lw_p3 : lw_okq (⟨"WaterOffice", "countDryQuarters", "(III)V"⟩, 14) := ⟨⟨by decide +kernel, by decide +kernel⟩, List.mem_of_getElem? (i := 20) (by decide +kernel), List.mem_of_getElem? (i := 813) (by decide +kernel), List.mem_of_getElem? (i := 814) (by decide +kernel)⟩
theorem lw_p4 : lw_okq (⟨"WaterOffice", "leastDryYear", "(III)I"⟩, 14) := ⟨⟨by decide +kernel, by decide +kernel⟩, List.mem_of_getElem? (i := 20) (by decide +kernel), List.mem_of_getElem? (i := 823) (by decide +kernel), List.mem_of_getElem? (i := 824) (by decide +kernel)⟩
theorem lw_p5 : lw_okq (⟨"WaterOffice", "sumDry", "(II)I"⟩, 14) := ⟨⟨by decide +kernel, by decide +kernel⟩, List.mem_of_getElem? (i := 20) (by decide +kernel), List.mem_of_getElem? (i := 827) (by decide +kernel), List.mem_of_getElem? (i := 828) (by decide +kernel)⟩
theorem lw_p6 : lw_okq (⟨"WaterOfficeModel", "told", "(I)I"⟩, 60) := ⟨⟨by decide +kernel, by decide +kernel⟩, List.mem_of_getElem? (i := 866) (by decide +kernel), List.mem_of_getElem? (i := 1061) (by decide +kernel), List.mem_of_getElem? (i := 1062) (by decide +kernel)⟩
theorem lw_p7 : lw_okq (⟨"WaterOfficeModel", "isPerson", "(I)Z"⟩, 60) := ⟨⟨by decide +kernel, by decide +kernel⟩, List.mem_of_getElem? (i := 866) (by decide +kernel), List.mem_of_getElem? (i := 1088) (by decide +kernel), List.mem_of_getElem? (i := 1089) (by decide +kernel)⟩
theorem lw_p8 : lw_okq (⟨"WaterOfficeModel", "deadOf", "(II)I"⟩, 60) := ⟨⟨by decide +kernel, by decide +kernel⟩, List.mem_of_getElem? (i := 866) (by decide +kernel), List.mem_of_getElem? (i := 1096) (by decide +kernel), List.mem_of_getElem? (i := 1097) (by decide +kernel)⟩
theorem lw_p9 : lw_okq (⟨"WaterOfficeModel", "isCastle", "(I)Z"⟩, 60) := ⟨⟨by decide +kernel, by decide +kernel⟩, List.mem_of_getElem? (i := 866) (by decide +kernel), List.mem_of_getElem? (i := 1106) (by decide +kernel), List.mem_of_getElem? (i := 1107) (by decide +kernel)⟩
theorem lw_p10 : lw_okq (⟨"WaterOfficeModel", "lawOf", "(II)I"⟩, 60) := ⟨⟨by decide +kernel, by decide +kernel⟩, List.mem_of_getElem? (i := 866) (by decide +kernel), List.mem_of_getElem? (i := 1110) (by decide +kernel), List.mem_of_getElem? (i := 1111) (by decide +kernel)⟩
theorem lw_p11 : lw_okq (⟨"WaterOfficeModel", "isNozzle", "(I)Z"⟩, 60) := ⟨⟨by decide +kernel, by decide +kernel⟩, List.mem_of_getElem? (i := 866) (by decide +kernel), List.mem_of_getElem? (i := 1118) (by decide +kernel), List.mem_of_getElem? (i := 1119) (by decide +kernel)⟩
theorem lw_p12 : lw_okq (⟨"WaterOfficeModel", "isClosed", "(II)Z"⟩, 60) := ⟨⟨by decide +kernel, by decide +kernel⟩, List.mem_of_getElem? (i := 866) (by decide +kernel), List.mem_of_getElem? (i := 1140) (by decide +kernel), List.mem_of_getElem? (i := 1141) (by decide +kernel)⟩
theorem lw_p13 : lw_okq (⟨"WaterOfficeModel", "four", "(I)V"⟩, 60) := ⟨⟨by decide +kernel, by decide +kernel⟩, List.mem_of_getElem? (i := 866) (by decide +kernel), List.mem_of_getElem? (i := 1148) (by decide +kernel), List.mem_of_getElem? (i := 1149) (by decide +kernel)⟩
theorem lw_p14 : lw_okq (⟨"WaterOfficeModel", "next", "()V"⟩, 60) := ⟨⟨by decide +kernel, by decide +kernel⟩, List.mem_of_getElem? (i := 866) (by decide +kernel), List.mem_of_getElem? (i := 1160) (by decide +kernel), List.mem_of_getElem? (i := 1161) (by decide +kernel)⟩
theorem lw_p15 : lw_okq (⟨"WaterOfficeModel", "readLaw", "()V"⟩, 60) := ⟨⟨by decide +kernel, by decide +kernel⟩, List.mem_of_getElem? (i := 866) (by decide +kernel), List.mem_of_getElem? (i := 1176) (by decide +kernel), List.mem_of_getElem? (i := 1177) (by decide +kernel)⟩
def lw_privs_1 : List (MethodName × Nat) := [(⟨"WaterOffice", "told", "(I)I"⟩, 14), (⟨"WaterOffice", "isSource", "(I)Z"⟩, 14), (⟨"WaterOffice", "isPerson", "(I)Z"⟩, 14), (⟨"WaterOffice", "countDryQuarters", "(III)V"⟩, 14), (⟨"WaterOffice", "leastDryYear", "(III)I"⟩, 14), (⟨"WaterOffice", "sumDry", "(II)I"⟩, 14), (⟨"WaterOfficeModel", "told", "(I)I"⟩, 60), (⟨"WaterOfficeModel", "isPerson", "(I)Z"⟩, 60), (⟨"WaterOfficeModel", "deadOf", "(II)I"⟩, 60), (⟨"WaterOfficeModel", "isCastle", "(I)Z"⟩, 60), (⟨"WaterOfficeModel", "lawOf", "(II)I"⟩, 60), (⟨"WaterOfficeModel", "isNozzle", "(I)Z"⟩, 60), (⟨"WaterOfficeModel", "isClosed", "(II)Z"⟩, 60), (⟨"WaterOfficeModel", "four", "(I)V"⟩, 60), (⟨"WaterOfficeModel", "next", "()V"⟩, 60), (⟨"WaterOfficeModel", "readLaw", "()V"⟩, 60)]
theorem lw_r1 : ∀ q ∈ lw_privs_1, lw_okq q := List.forall_mem_cons.mpr ⟨lw_p0, List.forall_mem_cons.mpr ⟨lw_p1, List.forall_mem_cons.mpr ⟨lw_p2, List.forall_mem_cons.mpr ⟨lw_p3, List.forall_mem_cons.mpr ⟨lw_p4, List.forall_mem_cons.mpr ⟨lw_p5, List.forall_mem_cons.mpr ⟨lw_p6, List.forall_mem_cons.mpr ⟨lw_p7, List.forall_mem_cons.mpr ⟨lw_p8, List.forall_mem_cons.mpr ⟨lw_p9, List.forall_mem_cons.mpr ⟨lw_p10, List.forall_mem_cons.mpr ⟨lw_p11, List.forall_mem_cons.mpr ⟨lw_p12, List.forall_mem_cons.mpr ⟨lw_p13, List.forall_mem_cons.mpr ⟨lw_p14, List.forall_mem_cons.mpr ⟨lw_p15, fun _ h => absurd h List.not_mem_nil⟩⟩⟩⟩⟩⟩⟩⟩⟩⟩⟩⟩⟩⟩⟩⟩
theorem lw_p16 : lw_okq (⟨"WaterOfficeModel", "isWord", "(IIIII)Z"⟩, 60) := ⟨⟨by decide +kernel, by decide +kernel⟩, List.mem_of_getElem? (i := 866) (by decide +kernel), List.mem_of_getElem? (i := 1180) (by decide +kernel), List.mem_of_getElem? (i := 1181) (by decide +kernel)⟩
theorem lw_p17 : lw_okq (⟨"WaterOfficeModel", "must", "(Z)V"⟩, 60) := ⟨⟨by decide +kernel, by decide +kernel⟩, List.mem_of_getElem? (i := 866) (by decide +kernel), List.mem_of_getElem? (i := 1184) (by decide +kernel), List.mem_of_getElem? (i := 1185) (by decide +kernel)⟩
theorem lw_p18 : lw_okq (⟨"WaterOfficeModel", "number", "(J)I"⟩, 60) := ⟨⟨by decide +kernel, by decide +kernel⟩, List.mem_of_getElem? (i := 866) (by decide +kernel), List.mem_of_getElem? (i := 1188) (by decide +kernel), List.mem_of_getElem? (i := 1189) (by decide +kernel)⟩
theorem lw_p19 : lw_okq (⟨"WaterOfficeModel", "isLong", "(IIIIIIIII)Z"⟩, 60) := ⟨⟨by decide +kernel, by decide +kernel⟩, List.mem_of_getElem? (i := 866) (by decide +kernel), List.mem_of_getElem? (i := 1192) (by decide +kernel), List.mem_of_getElem? (i := 1193) (by decide +kernel)⟩
theorem lw_p20 : lw_okq (⟨"WaterOfficeModel", "livesIn", "(III)Z"⟩, 60) := ⟨⟨by decide +kernel, by decide +kernel⟩, List.mem_of_getElem? (i := 866) (by decide +kernel), List.mem_of_getElem? (i := 1205) (by decide +kernel), List.mem_of_getElem? (i := 1206) (by decide +kernel)⟩
theorem lw_p21 : lw_okq (⟨"WaterOfficeModel", "isOpen", "(II)Z"⟩, 60) := ⟨⟨by decide +kernel, by decide +kernel⟩, List.mem_of_getElem? (i := 866) (by decide +kernel), List.mem_of_getElem? (i := 1209) (by decide +kernel), List.mem_of_getElem? (i := 1210) (by decide +kernel)⟩
theorem lw_p22 : lw_okq (⟨"WaterOfficeModel", "flow", "(II)V"⟩, 60) := ⟨⟨by decide +kernel, by decide +kernel⟩, List.mem_of_getElem? (i := 866) (by decide +kernel), List.mem_of_getElem? (i := 1217) (by decide +kernel), List.mem_of_getElem? (i := 1218) (by decide +kernel)⟩
theorem lw_p23 : lw_okq (⟨"WaterOfficeModel", "yieldOf", "(II)I"⟩, 60) := ⟨⟨by decide +kernel, by decide +kernel⟩, List.mem_of_getElem? (i := 866) (by decide +kernel), List.mem_of_getElem? (i := 1221) (by decide +kernel), List.mem_of_getElem? (i := 1222) (by decide +kernel)⟩
theorem lw_p24 : lw_okq (⟨"WaterOfficeModel", "isDown", "(II)Z"⟩, 60) := ⟨⟨by decide +kernel, by decide +kernel⟩, List.mem_of_getElem? (i := 866) (by decide +kernel), List.mem_of_getElem? (i := 1225) (by decide +kernel), List.mem_of_getElem? (i := 1226) (by decide +kernel)⟩
theorem lw_p25 : lw_okq (⟨"WaterOfficeModel", "flowAt", "(III)V"⟩, 60) := ⟨⟨by decide +kernel, by decide +kernel⟩, List.mem_of_getElem? (i := 866) (by decide +kernel), List.mem_of_getElem? (i := 1229) (by decide +kernel), List.mem_of_getElem? (i := 1230) (by decide +kernel)⟩
theorem lw_p26 : lw_okq (⟨"WaterOfficeModel", "deal", "(I)I"⟩, 60) := ⟨⟨by decide +kernel, by decide +kernel⟩, List.mem_of_getElem? (i := 866) (by decide +kernel), List.mem_of_getElem? (i := 1233) (by decide +kernel), List.mem_of_getElem? (i := 1234) (by decide +kernel)⟩
theorem lw_p27 : lw_okq (⟨"WaterOfficeModel", "isDry", "(II)Z"⟩, 60) := ⟨⟨by decide +kernel, by decide +kernel⟩, List.mem_of_getElem? (i := 866) (by decide +kernel), List.mem_of_getElem? (i := 1245) (by decide +kernel), List.mem_of_getElem? (i := 1246) (by decide +kernel)⟩
def lw_privs_2 : List (MethodName × Nat) := [(⟨"WaterOfficeModel", "isWord", "(IIIII)Z"⟩, 60), (⟨"WaterOfficeModel", "must", "(Z)V"⟩, 60), (⟨"WaterOfficeModel", "number", "(J)I"⟩, 60), (⟨"WaterOfficeModel", "isLong", "(IIIIIIIII)Z"⟩, 60), (⟨"WaterOfficeModel", "livesIn", "(III)Z"⟩, 60), (⟨"WaterOfficeModel", "isOpen", "(II)Z"⟩, 60), (⟨"WaterOfficeModel", "flow", "(II)V"⟩, 60), (⟨"WaterOfficeModel", "yieldOf", "(II)I"⟩, 60), (⟨"WaterOfficeModel", "isDown", "(II)Z"⟩, 60), (⟨"WaterOfficeModel", "flowAt", "(III)V"⟩, 60), (⟨"WaterOfficeModel", "deal", "(I)I"⟩, 60), (⟨"WaterOfficeModel", "isDry", "(II)Z"⟩, 60)]
theorem lw_r2 : ∀ q ∈ lw_privs_2, lw_okq q := List.forall_mem_cons.mpr ⟨lw_p16, List.forall_mem_cons.mpr ⟨lw_p17, List.forall_mem_cons.mpr ⟨lw_p18, List.forall_mem_cons.mpr ⟨lw_p19, List.forall_mem_cons.mpr ⟨lw_p20, List.forall_mem_cons.mpr ⟨lw_p21, List.forall_mem_cons.mpr ⟨lw_p22, List.forall_mem_cons.mpr ⟨lw_p23, List.forall_mem_cons.mpr ⟨lw_p24, List.forall_mem_cons.mpr ⟨lw_p25, List.forall_mem_cons.mpr ⟨lw_p26, List.forall_mem_cons.mpr ⟨lw_p27, fun _ h => absurd h List.not_mem_nil⟩⟩⟩⟩⟩⟩⟩⟩⟩⟩⟩⟩
def lw_privs : List (MethodName × Nat) := lw_privs_1 ++ (lw_privs_2)
def lw_tbl : List Cond := k2_sels lw_privs ++ tables_1
theorem lw_privs_ok : ∀ q ∈ lw_privs, lw_okq q := by
  show ∀ q ∈ lw_privs_1 ++ (lw_privs_2), lw_okq q
  exact List.forall_mem_append.mpr ⟨lw_r1, lw_r2⟩

def va_AOA (t : FieldType) (U : State) : Prop := (Cond.arrayOver (.array t)).before #[] U = true
theorem va_AOA.use {t : FieldType} {A : Array Value} {U : State} (h : va_AOA t U) : (Cond.arrayOver (.array t)).before A U = true := h
/-! ===== BEGIN new T[n][m]: the outer array a place, the inner ones among the pooled ===== -/
/-- f, but v at every address of l -/
def vr_up {α : Type} (f : Nat → α) (l : List Nat) (v : α) : Nat → α := fun a => if a ∈ l then v else f a
theorem vr_up_in {α : Type} {f : Nat → α} {l : List Nat} {v : α} {a : Nat} (h : a ∈ l) : vr_up f l v a = v := if_pos h
theorem vr_up_ne {α : Type} {f : Nat → α} {l : List Nat} {v : α} {a : Nat} (h : a ∉ l) : vr_up f l v a = f a := if_neg h
theorem vr_rows {L l : List Nat} {f : Nat → va_E} {e : va_E} (h : ∀ a, a ∈ l → a ∉ L) : va_pl L f ++ l.map (fun a => (a, e)) = va_pl (L ++ l) (vr_up f l e) := by
  unfold va_pl
  rw [List.map_append]
  congr 1
  · apply List.map_congr_left
    intro a ha
    rw [vr_up_ne (fun q => h a q ha)]
  · apply List.map_congr_left
    intro a ha
    rw [vr_up_in ha]
theorem vr_lay {X rows : va_W} {x : Nat × va_E} {pl : va_W} {D : va_G} {cl : List vw_C} {H : Heap} (hP : va_P D cl (((X ++ pl) ++ [x]) ++ rows) H) : va_P D cl ((X ++ [x]) ++ (pl ++ rows)) H := by
  rw [List.append_assoc (X ++ pl)] at hP
  have h := va_P.swap hP
  rw [← List.append_assoc X] at h
  have h2 := va_P.swap h
  rw [List.append_assoc (X ++ [x])] at h2
  exact h2
theorem vr_layD {X rows : va_W} {x : Nat × va_E} {pl : va_W} {A : Nat → Prop} (hD : va_D A (((X ++ pl) ++ [x]) ++ rows)) : va_D A ((X ++ [x]) ++ (pl ++ rows)) := by
  rw [List.append_assoc (X ++ pl)] at hD
  have h := va_D.swap hD
  rw [← List.append_assoc X] at h
  have h2 := va_D.swap h
  rw [List.append_assoc (X ++ [x])] at h2
  exact h2
theorem vr_outer (c : ClassId) (N h0 : Nat) : ∀ i : Nat, Jvm.Free.Multi.outerC c N h0 i = arrV c N (fun j => va_rf (if j < i then some (h0 + 1 + j) else none))
  | 0 => by
    show ({ cls := c, slots := Array.replicate N .null, vm := .none } : Cell) = _
    rw [arrV_new]
    refine congrArg (arrV c N) (funext fun j => ?_)
    simp [va_rf]
  | i + 1 => by
    show (Jvm.Free.Multi.outerC c N h0 i).setSlot i (.ref (h0 + 1 + i)) = _
    rw [vr_outer c N h0 i, arrV_store]
    refine congrArg (arrV c N) (funext fun j => ?_)
    by_cases e : j = i
    · subst e
      simp [updV, va_rf]
    · by_cases h : j < i
      · simp [updV, e, h, Nat.lt_succ_of_lt h]
      · simp [updV, e, h, show ¬ j < i + 1 by omega]
section VGM
variable {p : Program} {l : Launch} {e : Env} {R : Room} {s : State} {m : MethodId} {args : Array Value} {below : List Frame} {meth : Method} {c : Code} {H : Heap} {locs : List Loc} {cells slots : Nat} {Q : State → Prop}
variable {cc : ByteArray} {pc : Nat} {ls : Array Slot} {rest : List Value} {D : va_G} {cl : List vw_C} {A : Nat → Prop} {a : Nat} {tys : List (ClassId × FieldType)} {ws : va_W} {H0 : Heap}
theorem va_mna {X : va_W} {L : List Nat} {f : Nat → va_E} {cc : ByteArray} (hexec : p.tables.exec = Jvm.exec) (hb : c.code = cc) {own : String} {index : Nat} {ty : FieldType} {cy : ClassId} (hown : s.vm.findClass own = some m.cls) (hclink : (Cond.classLink own index ("[" ++ (FieldType.array ty).toString)).before args s = true) (hover : va_AOA ty s) (harr : (Cond.arrayClass ty).before args s = true) (hcy : s.vm.findClass (FieldType.array ty).toString = some cy)
    (hK : va_K D cl tys s) (hP : va_P D cl (X ++ va_pl L f) H) (hD : va_D A (X ++ va_pl L f)) (hS : va_S A H0 H locs) (hA : ∀ q, H0.size ≤ q → A q) {n k : Int32} {N' K' : Nat} {z : vp_A} (hn : ¬ n < 0) (hk : ¬ k < 0) (hN : n.toNatClampNeg = N') (hM : k.toNatClampNeg = K')
    (hb1 : N' * 4 ≤ 536870912) (hb2 : K' * componentBytes ty ≤ 536870912) (hb3 : K' ≤ 536870912) (hdf : fits ty (defaultValue ty) = true) (hdd : (defaultValue ty).isDefault = true) (hcells : cells + (1 + N') ≤ R.cells) (hslots : slots + (N' + N' * K') ≤ R.slots) (hz : ∀ c : ClassId, Jvm.Free.Multi.innerC c K' (defaultValue ty) = vp_cell c z) (hdg : decode cc pc = .ok (.multianewarray index 2, 4))
    (kk : ∀ (q : Nat) (r : Nat → Nat) (cA : ClassId) (H1 : Heap), (∀ i j : Nat, i < N' → j < N' → r i = r j → i = j) → (∀ i : Nat, i < N' → r i ∉ L) → va_K D cl (tys ++ [(cA, .array ty)]) s →
      va_P D cl ((X ++ [(q, .inl (cA, N', .inr (.inr (.inr (.inr (fun i => if i < N' then some (r i) else none))))))]) ++ va_pl (L ++ (List.range N').map r) (vr_up f ((List.range N').map r) (.inl (cy, z)))) H1 → va_D A ((X ++ [(q, .inl (cA, N', .inr (.inr (.inr (.inr (fun i => if i < N' then some (r i) else none))))))]) ++ va_pl (L ++ (List.range N').map r) (vr_up f ((List.range N').map r) (.inl (cy, z)))) → va_S A H0 H1 locs →
      W p l e R s m args below meth c H1 locs (cells + 1 + N') (slots + N' + N' * K') Q (F0 m (pc + 4) ls (.ref q :: rest))) : W p l e R s m args below meth c H locs cells slots Q (F0 m pc ls (.int k :: .int n :: rest)) := by
  subst hN
  subst hM
  intro T hT Xs
  obtain ⟨vm₁, cA, comp, -, fA, fC, hO, -, X', step⟩ := Xs.multianewarray2F hexec hown hclink (va_AOA.use hover) harr (g := F0 m pc ls (.int k :: .int n :: rest)) rfl (by rw [hb]; exact hdg) rfl hn hk hb1 hb2 hb3 hdf hdd hcells hslots
  have ec : some cy = some comp := hcy.symm.trans fC
  cases ec
  generalize hF : Jvm.Free.Multi.fill (T.setVm vm₁) cA cy n.toNatClampNeg k.toNatClampNeg (defaultValue ty) n.toNatClampNeg = F at X' step
  have hTh : (T.setVm vm₁).heap = H := hT
  obtain ⟨f1, f2, -, -⟩ := Jvm.Free.Multi.fill_facts (T.setVm vm₁) cA cy n.toNatClampNeg k.toNatClampNeg (defaultValue ty) n.toNatClampNeg
  rw [hF, hTh] at f1 f2
  have hold : ∀ x : Nat, x < H.size → F.heap[x]? = H[x]? := fun x hx => by
    have := Jvm.Free.Multi.fill_old (T.setVm vm₁) cA cy n.toNatClampNeg k.toNatClampNeg (defaultValue ty) (a := x) (by rw [hTh]; exact hx) n.toNatClampNeg
    rw [hF, hTh] at this
    exact this
  have hrow : ∀ j : Nat, j < n.toNatClampNeg → F.heap[H.size + 1 + j]? = some (vp_cell cy z) := fun j hj => by
    have := Jvm.Free.Multi.fill_inner (T.setVm vm₁) cA cy n.toNatClampNeg k.toNatClampNeg (defaultValue ty) n.toNatClampNeg j hj
    rw [hF, hTh, hz] at this
    exact this
  have hout : Jvm.Free.Multi.outerC cA n.toNatClampNeg H.size n.toNatClampNeg = vp_cell cA (n.toNatClampNeg, .inr (.inr (.inr (.inr (fun i => if i < n.toNatClampNeg then some (H.size + 1 + i) else none))))) := by
    rw [vp_cell_q]
    exact vr_outer cA n.toNatClampNeg H.size n.toNatClampNeg
  rw [hout] at f2
  have hlt : ∀ a, a ∈ L → a < H.size := fun a ha => by
    obtain ⟨k9, hk9⟩ := va_pl_get (X := X) (f := f) ha
    exact (hP k9 _ hk9).lt
  have hnl : ∀ i : Nat, i < n.toNatClampNeg → H.size + 1 + i ∉ L := fun i _ h => by
    have := hlt _ h
    omega
  have hnm : ∀ a, a ∈ (List.range n.toNatClampNeg).map (fun i => H.size + 1 + i) → a ∉ L := fun a ha h => by
    obtain ⟨i, -, rfl⟩ := List.mem_map.mp ha
    have := hlt _ h
    omega
  have hP0 : va_P D cl (X ++ va_pl L f) F.heap := hP.kept (fun k9 x hx => hold x.1 ((hP k9 x hx).lt))
  have hP1 : va_P D cl ((X ++ va_pl L f) ++ [(H.size, .inl (cA, n.toNatClampNeg, .inr (.inr (.inr (.inr (fun i => if i < n.toNatClampNeg then some (H.size + 1 + i) else none))))))]) F.heap := hP0.app (fun k9 x hx => by
    have h0 : k9 < 1 := (List.getElem?_eq_some_iff.mp hx).1
    rw [show k9 = 0 by omega] at hx
    cases hx
    exact f2)
  have hP2 : va_P D cl (((X ++ va_pl L f) ++ [(H.size, .inl (cA, n.toNatClampNeg, .inr (.inr (.inr (.inr (fun i => if i < n.toNatClampNeg then some (H.size + 1 + i) else none))))))]) ++ ((List.range n.toNatClampNeg).map (fun i => H.size + 1 + i)).map (fun a => (a, .inl (cy, z)))) F.heap := hP1.app (fun k9 x hx => by
    obtain ⟨a, ha, rfl⟩ := List.mem_map.mp (List.mem_of_getElem? hx)
    obtain ⟨i, hi, rfl⟩ := List.mem_map.mp ha
    exact hrow i (List.mem_range.mp hi))
  have hD2 : va_D A (((X ++ va_pl L f) ++ [(H.size, .inl (cA, n.toNatClampNeg, .inr (.inr (.inr (.inr (fun i => if i < n.toNatClampNeg then some (H.size + 1 + i) else none))))))]) ++ ((List.range n.toNatClampNeg).map (fun i => H.size + 1 + i)).map (fun a => (a, .inl (cy, z)))) := by
    have hD1 := hD.push (e := .inl (cA, n.toNatClampNeg, .inr (.inr (.inr (.inr (fun i => if i < n.toNatClampNeg then some (H.size + 1 + i) else none)))))) hP rfl (hA _ hS.1)
    generalize hW1 : (X ++ va_pl L f) ++ [(H.size, .inl (cA, n.toNatClampNeg, .inr (.inr (.inr (.inr (fun i => if i < n.toNatClampNeg then some (H.size + 1 + i) else none))))))] = W1 at hD1 hP1 ⊢
    have hle : ∀ (k9 : Nat) (x : Nat × va_E), W1[k9]? = some x → x.1 ≤ H.size := fun k9 x hx => by
      rw [← hW1] at hx
      by_cases hl : k9 < (X ++ va_pl L f).length
      · rw [List.getElem?_append_left hl] at hx
        exact Nat.le_of_lt ((hP k9 x hx).lt)
      · rw [List.getElem?_append_right (by omega)] at hx
        have h0 : k9 - (X ++ va_pl L f).length < 1 := (List.getElem?_eq_some_iff.mp hx).1
        rw [show k9 - (X ++ va_pl L f).length = 0 by omega] at hx
        cases hx
        exact Nat.le_refl _
    have hr : ∀ (k9 : Nat) (x : Nat × va_E), (((List.range n.toNatClampNeg).map (fun i => H.size + 1 + i)).map (fun a => ((a, .inl (cy, z)) : Nat × va_E)))[k9]? = some x → x.1 = H.size + 1 + k9 := fun k9 x hx => by
      rw [List.getElem?_map, List.getElem?_map] at hx
      by_cases h9 : k9 < n.toNatClampNeg
      · rw [List.getElem?_range h9] at hx
        cases hx
        rfl
      · have hn0 : (List.range n.toNatClampNeg)[k9]? = none := List.getElem?_eq_none (by rw [List.length_range]; omega)
        rw [hn0] at hx
        cases hx
    refine ⟨fun i j x y hi hj hxy => ?_, fun k9 x hx => ?_⟩
    · by_cases h1 : i < W1.length <;> by_cases h2 : j < W1.length
      · rw [List.getElem?_append_left h1] at hi
        rw [List.getElem?_append_left h2] at hj
        exact hD1.1 i j x y hi hj hxy
      · rw [List.getElem?_append_left h1] at hi
        rw [List.getElem?_append_right (by omega)] at hj
        have := hle _ _ hi
        have := hr _ _ hj
        omega
      · rw [List.getElem?_append_right (by omega)] at hi
        rw [List.getElem?_append_left h2] at hj
        have := hle _ _ hj
        have := hr _ _ hi
        omega
      · rw [List.getElem?_append_right (by omega)] at hi hj
        have := hr _ _ hi
        have := hr _ _ hj
        omega
    · by_cases h1 : k9 < W1.length
      · rw [List.getElem?_append_left h1] at hx
        exact hD1.2 k9 x hx
      · rw [List.getElem?_append_right (by omega)] at hx
        have := hr _ _ hx
        exact hA _ (by have := hS.1; omega)
  have hAr : ArrOfT s cA (.array ty) := fun N9 z9 => by
    obtain ⟨-, k9, hk9, cm9, hkk9⟩ := (hO 0 0 0).1
    exact ⟨(fun q hq => by cases hq), k9, hk9, cm9, hkk9⟩
  have hK2 : va_K D cl (tys ++ [(cA, .array ty)]) s := ⟨hK.1, fun k9 x hx => by
    by_cases hl : k9 < tys.length
    · rw [List.getElem?_append_left hl] at hx
      exact hK.2 k9 x hx
    · rw [List.getElem?_append_right (by omega)] at hx
      have h0 : k9 - tys.length < 1 := (List.getElem?_eq_some_iff.mp hx).1
      rw [show k9 - tys.length = 0 by omega] at hx
      cases hx
      exact ⟨hAr, fA⟩⟩
  obtain ⟨t, a1, b1⟩ := kk H.size (fun i => H.size + 1 + i) cA F.heap (fun i j _ _ h => by have h9 : H.size + 1 + i = H.size + 1 + j := h; omega) hnl hK2 (by rw [← vr_rows hnm]; exact vr_lay hP2) (by rw [← vr_rows hnm]; exact vr_layD hD2) ⟨by rw [f1]; have := hS.1; omega, fun x h1 h2 => (hold x (Nat.lt_of_lt_of_le h1 hS.1)).trans (hS.2.1 x h1 h2), hS.2.2⟩ F rfl X'
  refine ⟨t, step t ?_, b1⟩
  have e : T.heap.size = H.size := by rw [hT]
  rw [e]
  exact a1
end VGM
/-! ===== END ===== -/

/-! ===== BEGIN printed: names, fields, word lists, decode rows ===== -/
def RX0 : String := "WaterOffice$Castles"
def TX0 : u_T := fun k => match k with
  | 0 => ("WaterOffice$Castles", "from", "[I", true)
  | 1 => ("WaterOffice$Castles", "carries", "[I", true)
  | 2 => ("WaterOffice$Castles", "loss", "[I", true)
  | 3 => ("WaterOffice$Castles", "fedBy", "LWaterOffice$Groups;", true)
  | _ => ("WaterOffice$Castles", "count", "I", false)
def tyX0 : Nat → FieldType := fun k => match k with
  | 0 => .array .int
  | 1 => .array .int
  | 2 => .array .int
  | 3 => .object "WaterOffice$Groups"
  | _ => .int
abbrev wsX00 : List Cond := u_ws RX0 TX0 5
theorem nmX0 : ∀ a, a < 5 → ∀ b, b < 5 → a ≠ b → (TX0 a).2.1 ≠ (TX0 b).2.1 := by decide +kernel
theorem tyX0_ok : ∀ k, k < 5 → parseFieldDescriptor (TX0 k).2.2.1 = some (tyX0 k) := by decide +kernel
abbrev cX0_init : ByteArray := prog_2_method_1_code
def yX0_init : MethodName := ⟨RX0, "<init>", "()V"⟩
abbrev cX0_has : ByteArray := prog_2_method_2_code
def yX0_has : MethodName := ⟨RX0, "has", "(I)Z"⟩
abbrev cX0_build : ByteArray := prog_2_method_3_code
def yX0_build : MethodName := ⟨RX0, "build", "(III)I"⟩
def RX1 : String := "WaterOffice$Deaths"
def TX1 : u_T := fun k => match k with
  | 0 => ("WaterOffice$Deaths", "person", "[I", true)
  | 1 => ("WaterOffice$Deaths", "year", "[I", true)
  | 2 => ("WaterOffice$Deaths", "known", "[I", true)
  | 3 => ("WaterOffice$Deaths", "standing", "[I", true)
  | _ => ("WaterOffice$Deaths", "count", "I", false)
def tyX1 : Nat → FieldType := fun k => match k with
  | 0 => .array .int
  | 1 => .array .int
  | 2 => .array .int
  | 3 => .array .int
  | _ => .int
abbrev wsX10 : List Cond := u_ws RX1 TX1 5
theorem nmX1 : ∀ a, a < 5 → ∀ b, b < 5 → a ≠ b → (TX1 a).2.1 ≠ (TX1 b).2.1 := by decide +kernel
theorem tyX1_ok : ∀ k, k < 5 → parseFieldDescriptor (TX1 k).2.2.1 = some (tyX1 k) := by decide +kernel
abbrev cX1_init : ByteArray := prog_3_method_1_code
def yX1_init : MethodName := ⟨RX1, "<init>", "()V"⟩
abbrev cX1_add : ByteArray := prog_3_method_2_code
def yX1_add : MethodName := ⟨RX1, "add", "(III)I"⟩
abbrev cX1_settle : ByteArray := prog_3_method_3_code
def yX1_settle : MethodName := ⟨RX1, "settle", "(I)V"⟩
abbrev cX1_isWithinLife : ByteArray := prog_3_method_4_code
def yX1_isWithinLife : MethodName := ⟨RX1, "isWithinLife", "(III)Z"⟩
def RX2 : String := "WaterOffice$Flows"
def TX2 : u_T := fun k => match k with
  | 0 => ("WaterOffice$Flows", "book", "LWaterOffice$LawBook;", true)
  | 1 => ("WaterOffice$Flows", "deaths", "LWaterOffice$Deaths;", true)
  | 2 => ("WaterOffice$Flows", "springs", "LWaterOffice$Springs;", true)
  | 3 => ("WaterOffice$Flows", "castles", "LWaterOffice$Castles;", true)
  | 4 => ("WaterOffice$Flows", "nozzles", "LWaterOffice$Nozzles;", true)
  | 5 => ("WaterOffice$Flows", "taps", "LWaterOffice$Spans;", true)
  | 6 => ("WaterOffice$Flows", "repairs", "LWaterOffice$Spans;", true)
  | 7 => ("WaterOffice$Flows", "shares", "LWaterOffice$Shares;", true)
  | 8 => ("WaterOffice$Flows", "canCarry", "[I", true)
  | 9 => ("WaterOffice$Flows", "amount", "[[I", true)
  | 10 => ("WaterOffice$Flows", "served", "[Z", true)
  | 11 => ("WaterOffice$Flows", "got", "[I", true)
  | 12 => ("WaterOffice$Flows", "quarterSize", "[I", true)
  | 13 => ("WaterOffice$Flows", "quarterGot", "[I", true)
  | _ => ("WaterOffice$Flows", "year", "I", false)
def tyX2 : Nat → FieldType := fun k => match k with
  | 0 => .object "WaterOffice$LawBook"
  | 1 => .object "WaterOffice$Deaths"
  | 2 => .object "WaterOffice$Springs"
  | 3 => .object "WaterOffice$Castles"
  | 4 => .object "WaterOffice$Nozzles"
  | 5 => .object "WaterOffice$Spans"
  | 6 => .object "WaterOffice$Spans"
  | 7 => .object "WaterOffice$Shares"
  | 8 => .array .int
  | 9 => .array (.array .int)
  | 10 => .array .boolean
  | 11 => .array .int
  | 12 => .array .int
  | 13 => .array .int
  | _ => .int
abbrev wsX20 : List Cond := u_ws RX2 TX2 15
theorem nmX2 : ∀ a, a < 15 → ∀ b, b < 15 → a ≠ b → (TX2 a).2.1 ≠ (TX2 b).2.1 := by decide +kernel
theorem tyX2_ok : ∀ k, k < 15 → parseFieldDescriptor (TX2 k).2.2.1 = some (tyX2 k) := by decide +kernel
abbrev cX2_init : ByteArray := prog_4_method_1_code
def yX2_init : MethodName := ⟨RX2, "<init>", "(LWaterOffice$LawBook;LWaterOffice$Deaths;LWaterOffice$Springs;LWaterOffice$Castles;LWaterOffice$Nozzles;LWaterOffice$Spans;LWaterOffice$Spans;)V"⟩
abbrev cX2_run : ByteArray := prog_4_method_2_code
def yX2_run : MethodName := ⟨RX2, "run", "(II)V"⟩
abbrev cX2_prepare : ByteArray := prog_4_method_3_code
def yX2_prepare : MethodName := ⟨RX2, "prepare", "(II)V"⟩
abbrev cX2_flow : ByteArray := prog_4_method_4_code
def yX2_flow : MethodName := ⟨RX2, "flow", "(I)V"⟩
abbrev cX2_chooseServed : ByteArray := prog_4_method_5_code
def yX2_chooseServed : MethodName := ⟨RX2, "chooseServed", "()V"⟩
abbrev cX2_isLiving : ByteArray := prog_4_method_6_code
def yX2_isLiving : MethodName := ⟨RX2, "isLiving", "(I)Z"⟩
abbrev cX2_openPipes : ByteArray := prog_4_method_7_code
def yX2_openPipes : MethodName := ⟨RX2, "openPipes", "(I)V"⟩
abbrev cX2_bringIn : ByteArray := prog_4_method_8_code
def yX2_bringIn : MethodName := ⟨RX2, "bringIn", "(I)V"⟩
abbrev cX2_lossOf : ByteArray := prog_4_method_9_code
def yX2_lossOf : MethodName := ⟨RX2, "lossOf", "(II)I"⟩
abbrev cX2_partToNozzles : ByteArray := prog_4_method_10_code
def yX2_partToNozzles : MethodName := ⟨RX2, "partToNozzles", "(I)V"⟩
abbrev cX2_partToRank : ByteArray := prog_4_method_11_code
def yX2_partToRank : MethodName := ⟨RX2, "partToRank", "(III)I"⟩
abbrev cX2_leadOn : ByteArray := prog_4_method_12_code
def yX2_leadOn : MethodName := ⟨RX2, "leadOn", "(I)V"⟩
abbrev cX2_weighQuarters : ByteArray := prog_4_method_13_code
def yX2_weighQuarters : MethodName := ⟨RX2, "weighQuarters", "()V"⟩
abbrev cX2_isDry : ByteArray := prog_4_method_14_code
def yX2_isDry : MethodName := ⟨RX2, "isDry", "(I)Z"⟩
abbrev cX2_countDry : ByteArray := prog_4_method_15_code
def yX2_countDry : MethodName := ⟨RX2, "countDry", "()I"⟩
abbrev cX2_leastMissing : ByteArray := prog_4_method_16_code
def yX2_leastMissing : MethodName := ⟨RX2, "leastMissing", "(I)I"⟩
abbrev cX2_rentOf : ByteArray := prog_4_method_17_code
def yX2_rentOf : MethodName := ⟨RX2, "rentOf", "(III)J"⟩
abbrev cX2_fineOf : ByteArray := prog_4_method_18_code
def yX2_fineOf : MethodName := ⟨RX2, "fineOf", "(III)J"⟩
def RX3 : String := "WaterOffice$Groups"
def TX3 : u_T := fun k => match k with
  | 0 => ("WaterOffice$Groups", "width", "I", true)
  | 1 => ("WaterOffice$Groups", "members", "[I", true)
  | _ => ("WaterOffice$Groups", "sizes", "[I", true)
def tyX3 : Nat → FieldType := fun k => match k with
  | 0 => .int
  | 1 => .array .int
  | _ => .array .int
abbrev wsX30 : List Cond := u_ws RX3 TX3 3
theorem nmX3 : ∀ a, a < 3 → ∀ b, b < 3 → a ≠ b → (TX3 a).2.1 ≠ (TX3 b).2.1 := by decide +kernel
theorem tyX3_ok : ∀ k, k < 3 → parseFieldDescriptor (TX3 k).2.2.1 = some (tyX3 k) := by decide +kernel
abbrev cX3_init : ByteArray := prog_5_method_1_code
def yX3_init : MethodName := ⟨RX3, "<init>", "(I)V"⟩
abbrev cX3_put : ByteArray := prog_5_method_2_code
def yX3_put : MethodName := ⟨RX3, "put", "(II)V"⟩
abbrev cX3_member : ByteArray := prog_5_method_3_code
def yX3_member : MethodName := ⟨RX3, "member", "(II)I"⟩
def RX4 : String := "WaterOffice$LawBook"
def TX4 : u_T := fun k => match k with
  | 0 => ("WaterOffice$LawBook", "from", "[I", true)
  | 1 => ("WaterOffice$LawBook", "to", "[I", true)
  | 2 => ("WaterOffice$LawBook", "kind", "[I", true)
  | 3 => ("WaterOffice$LawBook", "value", "[I", true)
  | 4 => ("WaterOffice$LawBook", "counts", "[I", true)
  | _ => ("WaterOffice$LawBook", "count", "I", false)
def tyX4 : Nat → FieldType := fun k => match k with
  | 0 => .array .int
  | 1 => .array .int
  | 2 => .array .int
  | 3 => .array .int
  | 4 => .array .int
  | _ => .int
abbrev wsX40 : List Cond := u_ws RX4 TX4 6
theorem nmX4 : ∀ a, a < 6 → ∀ b, b < 6 → a ≠ b → (TX4 a).2.1 ≠ (TX4 b).2.1 := by decide +kernel
theorem tyX4_ok : ∀ k, k < 6 → parseFieldDescriptor (TX4 k).2.2.1 = some (tyX4 k) := by decide +kernel
abbrev cX4_init : ByteArray := prog_6_method_1_code
def yX4_init : MethodName := ⟨RX4, "<init>", "()V"⟩
abbrev cX4_clear : ByteArray := prog_6_method_2_code
def yX4_clear : MethodName := ⟨RX4, "clear", "()V"⟩
abbrev cX4_add : ByteArray := prog_6_method_3_code
def yX4_add : MethodName := ⟨RX4, "add", "(IIII)V"⟩
abbrev cX4_copyFrom : ByteArray := prog_6_method_4_code
def yX4_copyFrom : MethodName := ⟨RX4, "copyFrom", "(LWaterOffice$LawBook;)V"⟩
abbrev cX4_settle : ByteArray := prog_6_method_5_code
def yX4_settle : MethodName := ⟨RX4, "settle", "(I)V"⟩
abbrev cX4_isAboveMost : ByteArray := prog_6_method_6_code
def yX4_isAboveMost : MethodName := ⟨RX4, "isAboveMost", "(I)Z"⟩
abbrev cX4_isClosed : ByteArray := prog_6_method_7_code
def yX4_isClosed : MethodName := ⟨RX4, "isClosed", "(I)Z"⟩
def RX5 : String := "WaterOffice$LawReader"
def TX5 : u_T := fun k => match k with
  | 0 => ("WaterOffice$LawReader", "tape", "LWaterOffice$Tape;", true)
  | 1 => ("WaterOffice$LawReader", "draft", "LWaterOffice$LawBook;", true)
  | 2 => ("WaterOffice$LawReader", "start", "I", false)
  | 3 => ("WaterOffice$LawReader", "stop", "I", false)
  | _ => ("WaterOffice$LawReader", "faultPlace", "I", false)
def tyX5 : Nat → FieldType := fun k => match k with
  | 0 => .object "WaterOffice$Tape"
  | 1 => .object "WaterOffice$LawBook"
  | 2 => .int
  | 3 => .int
  | _ => .int
abbrev wsX50 : List Cond := u_ws RX5 TX5 5
theorem nmX5 : ∀ a, a < 5 → ∀ b, b < 5 → a ≠ b → (TX5 a).2.1 ≠ (TX5 b).2.1 := by decide +kernel
theorem tyX5_ok : ∀ k, k < 5 → parseFieldDescriptor (TX5 k).2.2.1 = some (tyX5 k) := by decide +kernel
abbrev cX5_init : ByteArray := prog_7_method_1_code
def yX5_init : MethodName := ⟨RX5, "<init>", "(LWaterOffice$Tape;)V"⟩
abbrev cX5_read : ByteArray := prog_7_method_2_code
def yX5_read : MethodName := ⟨RX5, "read", "()Z"⟩
abbrev cX5_cannotGoOn : ByteArray := prog_7_method_3_code
def yX5_cannotGoOn : MethodName := ⟨RX5, "cannotGoOn", "()Z"⟩
abbrev cX5_readLaw : ByteArray := prog_7_method_4_code
def yX5_readLaw : MethodName := ⟨RX5, "readLaw", "()Z"⟩
abbrev cX5_takeKind : ByteArray := prog_7_method_5_code
def yX5_takeKind : MethodName := ⟨RX5, "takeKind", "()I"⟩
abbrev cX5_takeRankName : ByteArray := prog_7_method_6_code
def yX5_takeRankName : MethodName := ⟨RX5, "takeRankName", "()I"⟩
abbrev cX5_takeWord : ByteArray := prog_7_method_7_code
def yX5_takeWord : MethodName := ⟨RX5, "takeWord", "(Ljava/lang/String;)Z"⟩
abbrev cX5_takeNumber : ByteArray := prog_7_method_8_code
def yX5_takeNumber : MethodName := ⟨RX5, "takeNumber", "(II)I"⟩
abbrev cX5_isAtEnd : ByteArray := prog_7_method_9_code
def yX5_isAtEnd : MethodName := ⟨RX5, "isAtEnd", "()Z"⟩
abbrev cX5_step : ByteArray := prog_7_method_10_code
def yX5_step : MethodName := ⟨RX5, "step", "()V"⟩
abbrev cX5_mostOf : ByteArray := prog_7_method_11_code
def yX5_mostOf : MethodName := ⟨RX5, "mostOf", "(I)I"⟩
abbrev cX5_byteKind : ByteArray := prog_7_method_12_code
def yX5_byteKind : MethodName := ⟨RX5, "byteKind", "(I)I"⟩
def RX6 : String := "WaterOffice$Nozzles"
def TX6 : u_T := fun k => match k with
  | 0 => ("WaterOffice$Nozzles", "size", "[I", true)
  | 1 => ("WaterOffice$Nozzles", "rank", "[I", true)
  | 2 => ("WaterOffice$Nozzles", "of", "[I", true)
  | 3 => ("WaterOffice$Nozzles", "openFrom", "[I", true)
  | 4 => ("WaterOffice$Nozzles", "openTo", "[I", true)
  | 5 => ("WaterOffice$Nozzles", "atCastle", "LWaterOffice$Groups;", true)
  | _ => ("WaterOffice$Nozzles", "count", "I", false)
def tyX6 : Nat → FieldType := fun k => match k with
  | 0 => .array .int
  | 1 => .array .int
  | 2 => .array .int
  | 3 => .array .int
  | 4 => .array .int
  | 5 => .object "WaterOffice$Groups"
  | _ => .int
abbrev wsX60 : List Cond := u_ws RX6 TX6 7
theorem nmX6 : ∀ a, a < 7 → ∀ b, b < 7 → a ≠ b → (TX6 a).2.1 ≠ (TX6 b).2.1 := by decide +kernel
theorem tyX6_ok : ∀ k, k < 7 → parseFieldDescriptor (TX6 k).2.2.1 = some (tyX6 k) := by decide +kernel
abbrev cX6_init : ByteArray := prog_8_method_1_code
def yX6_init : MethodName := ⟨RX6, "<init>", "()V"⟩
abbrev cX6_has : ByteArray := prog_8_method_2_code
def yX6_has : MethodName := ⟨RX6, "has", "(I)Z"⟩
abbrev cX6_stamp : ByteArray := prog_8_method_3_code
def yX6_stamp : MethodName := ⟨RX6, "stamp", "(IIIII)I"⟩
abbrev cX6_close : ByteArray := prog_8_method_4_code
def yX6_close : MethodName := ⟨RX6, "close", "(II)V"⟩
abbrev cX6_isOpen : ByteArray := prog_8_method_5_code
def yX6_isOpen : MethodName := ⟨RX6, "isOpen", "(II)Z"⟩
abbrev cX6_isGrantOf : ByteArray := prog_8_method_6_code
def yX6_isGrantOf : MethodName := ⟨RX6, "isGrantOf", "(II)Z"⟩
def RX7 : String := "WaterOffice$Shares"
def TX7 : u_T := fun k => match k with
  | 0 => ("WaterOffice$Shares", "claimant", "[I", true)
  | 1 => ("WaterOffice$Shares", "weight", "[I", true)
  | 2 => ("WaterOffice$Shares", "share", "[I", true)
  | 3 => ("WaterOffice$Shares", "allWeights", "I", false)
  | _ => ("WaterOffice$Shares", "count", "I", false)
def tyX7 : Nat → FieldType := fun k => match k with
  | 0 => .array .int
  | 1 => .array .int
  | 2 => .array .int
  | 3 => .int
  | _ => .int
abbrev wsX70 : List Cond := u_ws RX7 TX7 5
theorem nmX7 : ∀ a, a < 5 → ∀ b, b < 5 → a ≠ b → (TX7 a).2.1 ≠ (TX7 b).2.1 := by decide +kernel
theorem tyX7_ok : ∀ k, k < 5 → parseFieldDescriptor (TX7 k).2.2.1 = some (tyX7 k) := by decide +kernel
abbrev cX7_init : ByteArray := prog_9_method_1_code
def yX7_init : MethodName := ⟨RX7, "<init>", "()V"⟩
abbrev cX7_clear : ByteArray := prog_9_method_2_code
def yX7_clear : MethodName := ⟨RX7, "clear", "()V"⟩
abbrev cX7_add : ByteArray := prog_9_method_3_code
def yX7_add : MethodName := ⟨RX7, "add", "(II)V"⟩
abbrev cX7_part : ByteArray := prog_9_method_4_code
def yX7_part : MethodName := ⟨RX7, "part", "(I)I"⟩
def RX8 : String := "WaterOffice$Spans"
def TX8 : u_T := fun k => match k with
  | 0 => ("WaterOffice$Spans", "amount", "[I", true)
  | 1 => ("WaterOffice$Spans", "first", "[I", true)
  | 2 => ("WaterOffice$Spans", "last", "[I", true)
  | 3 => ("WaterOffice$Spans", "onPipe", "LWaterOffice$Groups;", true)
  | _ => ("WaterOffice$Spans", "count", "I", false)
def tyX8 : Nat → FieldType := fun k => match k with
  | 0 => .array .int
  | 1 => .array .int
  | 2 => .array .int
  | 3 => .object "WaterOffice$Groups"
  | _ => .int
abbrev wsX80 : List Cond := u_ws RX8 TX8 5
theorem nmX8 : ∀ a, a < 5 → ∀ b, b < 5 → a ≠ b → (TX8 a).2.1 ≠ (TX8 b).2.1 := by decide +kernel
theorem tyX8_ok : ∀ k, k < 5 → parseFieldDescriptor (TX8 k).2.2.1 = some (tyX8 k) := by decide +kernel
abbrev cX8_init : ByteArray := prog_10_method_1_code
def yX8_init : MethodName := ⟨RX8, "<init>", "(I)V"⟩
abbrev cX8_add : ByteArray := prog_10_method_2_code
def yX8_add : MethodName := ⟨RX8, "add", "(IIII)I"⟩
abbrev cX8_isIn : ByteArray := prog_10_method_3_code
def yX8_isIn : MethodName := ⟨RX8, "isIn", "(II)Z"⟩
abbrev cX8_hasAny : ByteArray := prog_10_method_4_code
def yX8_hasAny : MethodName := ⟨RX8, "hasAny", "(II)Z"⟩
abbrev cX8_take : ByteArray := prog_10_method_5_code
def yX8_take : MethodName := ⟨RX8, "take", "(III)I"⟩
def RX9 : String := "WaterOffice$Springs"
def TX9 : u_T := fun k => match k with
  | 0 => ("WaterOffice$Springs", "usual", "[I", true)
  | 1 => ("WaterOffice$Springs", "aqueduct", "[I", true)
  | 2 => ("WaterOffice$Springs", "year", "[I", true)
  | 3 => ("WaterOffice$Springs", "amount", "[I", true)
  | 4 => ("WaterOffice$Springs", "left", "[I", true)
  | 5 => ("WaterOffice$Springs", "aqueducts", "I", false)
  | _ => ("WaterOffice$Springs", "count", "I", false)
def tyX9 : Nat → FieldType := fun k => match k with
  | 0 => .array .int
  | 1 => .array .int
  | 2 => .array .int
  | 3 => .array .int
  | 4 => .array .int
  | 5 => .int
  | _ => .int
abbrev wsX90 : List Cond := u_ws RX9 TX9 7
theorem nmX9 : ∀ a, a < 7 → ∀ b, b < 7 → a ≠ b → (TX9 a).2.1 ≠ (TX9 b).2.1 := by decide +kernel
theorem tyX9_ok : ∀ k, k < 7 → parseFieldDescriptor (TX9 k).2.2.1 = some (tyX9 k) := by decide +kernel
abbrev cX9_init : ByteArray := prog_11_method_1_code
def yX9_init : MethodName := ⟨RX9, "<init>", "()V"⟩
abbrev cX9_hasAqueduct : ByteArray := prog_11_method_2_code
def yX9_hasAqueduct : MethodName := ⟨RX9, "hasAqueduct", "(I)Z"⟩
abbrev cX9_addAqueduct : ByteArray := prog_11_method_3_code
def yX9_addAqueduct : MethodName := ⟨RX9, "addAqueduct", "(I)I"⟩
abbrev cX9_change : ByteArray := prog_11_method_4_code
def yX9_change : MethodName := ⟨RX9, "change", "(III)I"⟩
abbrev cX9_placeOf : ByteArray := prog_11_method_5_code
def yX9_placeOf : MethodName := ⟨RX9, "placeOf", "(II)I"⟩
abbrev cX9_settle : ByteArray := prog_11_method_6_code
def yX9_settle : MethodName := ⟨RX9, "settle", "(I)V"⟩
abbrev cX9_draw : ByteArray := prog_11_method_7_code
def yX9_draw : MethodName := ⟨RX9, "draw", "(II)I"⟩
def RX10 : String := "WaterOffice$Tape"
def TX10 : u_T := fun k => match k with
  | 0 => ("WaterOffice$Tape", "bytes", "[B", true)
  | _ => ("WaterOffice$Tape", "count", "I", false)
def tyX10 : Nat → FieldType := fun k => match k with
  | 0 => .array .byte
  | _ => .int
abbrev wsX100 : List Cond := u_ws RX10 TX10 2
theorem nmX10 : ∀ a, a < 2 → ∀ b, b < 2 → a ≠ b → (TX10 a).2.1 ≠ (TX10 b).2.1 := by decide +kernel
theorem tyX10_ok : ∀ k, k < 2 → parseFieldDescriptor (TX10 k).2.2.1 = some (tyX10 k) := by decide +kernel
abbrev cX10_init : ByteArray := prog_12_method_1_code
def yX10_init : MethodName := ⟨RX10, "<init>", "()V"⟩
abbrev cX10_hasRoom : ByteArray := prog_12_method_2_code
def yX10_hasRoom : MethodName := ⟨RX10, "hasRoom", "(I)Z"⟩
abbrev cX10_write : ByteArray := prog_12_method_3_code
def yX10_write : MethodName := ⟨RX10, "write", "(I)V"⟩
abbrev cX10_byteAt : ByteArray := prog_12_method_4_code
def yX10_byteAt : MethodName := ⟨RX10, "byteAt", "(I)I"⟩
def RX11 : String := "WaterOffice"
def TX11 : u_T := fun k => match k with
  | 0 => ("WaterOffice", "tape", "LWaterOffice$Tape;", true)
  | 1 => ("WaterOffice", "reader", "LWaterOffice$LawReader;", true)
  | 2 => ("WaterOffice", "book", "LWaterOffice$LawBook;", true)
  | 3 => ("WaterOffice", "deaths", "LWaterOffice$Deaths;", true)
  | 4 => ("WaterOffice", "springs", "LWaterOffice$Springs;", true)
  | 5 => ("WaterOffice", "castles", "LWaterOffice$Castles;", true)
  | 6 => ("WaterOffice", "nozzles", "LWaterOffice$Nozzles;", true)
  | 7 => ("WaterOffice", "taps", "LWaterOffice$Spans;", true)
  | 8 => ("WaterOffice", "repairs", "LWaterOffice$Spans;", true)
  | 9 => ("WaterOffice", "flows", "LWaterOffice$Flows;", true)
  | 10 => ("WaterOffice", "dryQuarters", "[I", true)
  | 11 => ("WaterOffice", "persons", "I", false)
  | 12 => ("WaterOffice", "now", "I", false)
  | _ => ("WaterOffice", "refusal", "I", false)
def tyX11 : Nat → FieldType := fun k => match k with
  | 0 => .object "WaterOffice$Tape"
  | 1 => .object "WaterOffice$LawReader"
  | 2 => .object "WaterOffice$LawBook"
  | 3 => .object "WaterOffice$Deaths"
  | 4 => .object "WaterOffice$Springs"
  | 5 => .object "WaterOffice$Castles"
  | 6 => .object "WaterOffice$Nozzles"
  | 7 => .object "WaterOffice$Spans"
  | 8 => .object "WaterOffice$Spans"
  | 9 => .object "WaterOffice$Flows"
  | 10 => .array .int
  | 11 => .int
  | 12 => .int
  | _ => .int
abbrev wsX110 : List Cond := u_ws RX11 TX11 14
theorem nmX11 : ∀ a, a < 14 → ∀ b, b < 14 → a ≠ b → (TX11 a).2.1 ≠ (TX11 b).2.1 := by decide +kernel
theorem tyX11_ok : ∀ k, k < 14 → parseFieldDescriptor (TX11 k).2.2.1 = some (tyX11 k) := by decide +kernel
abbrev cX11_init : ByteArray := prog_1_method_1_code
def yX11_init : MethodName := ⟨RX11, "<init>", "()V"⟩
abbrev cX11_aqueduct : ByteArray := prog_1_method_2_code
def yX11_aqueduct : MethodName := ⟨RX11, "aqueduct", "(I)I"⟩
abbrev cX11_spring : ByteArray := prog_1_method_3_code
def yX11_spring : MethodName := ⟨RX11, "spring", "(III)I"⟩
abbrev cX11_castle : ByteArray := prog_1_method_4_code
def yX11_castle : MethodName := ⟨RX11, "castle", "(III)I"⟩
abbrev cX11_person : ByteArray := prog_1_method_5_code
def yX11_person : MethodName := ⟨RX11, "person", "()I"⟩
abbrev cX11_death : ByteArray := prog_1_method_6_code
def yX11_death : MethodName := ⟨RX11, "death", "(III)I"⟩
abbrev cX11_nozzle : ByteArray := prog_1_method_7_code
def yX11_nozzle : MethodName := ⟨RX11, "nozzle", "(IIII)I"⟩
abbrev cX11_shut : ByteArray := prog_1_method_8_code
def yX11_shut : MethodName := ⟨RX11, "shut", "(I)I"⟩
abbrev cX11_tap : ByteArray := prog_1_method_9_code
def yX11_tap : MethodName := ⟨RX11, "tap", "(IIII)I"⟩
abbrev cX11_repair : ByteArray := prog_1_method_10_code
def yX11_repair : MethodName := ⟨RX11, "repair", "(III)I"⟩
abbrev cX11_go : ByteArray := prog_1_method_11_code
def yX11_go : MethodName := ⟨RX11, "go", "(I)I"⟩
abbrev cX11_feed : ByteArray := prog_1_method_12_code
def yX11_feed : MethodName := ⟨RX11, "feed", "(IIIII)I"⟩
abbrev cX11_end : ByteArray := prog_1_method_13_code
def yX11_end : MethodName := ⟨RX11, "end", "(I)I"⟩
abbrev cX11_laws : ByteArray := prog_1_method_14_code
def yX11_laws : MethodName := ⟨RX11, "laws", "()I"⟩
abbrev cX11_fault : ByteArray := prog_1_method_15_code
def yX11_fault : MethodName := ⟨RX11, "fault", "()I"⟩
abbrev cX11_law : ByteArray := prog_1_method_16_code
def yX11_law : MethodName := ⟨RX11, "law", "(II)I"⟩
abbrev cX11_lives : ByteArray := prog_1_method_17_code
def yX11_lives : MethodName := ⟨RX11, "lives", "(III)I"⟩
abbrev cX11_gets : ByteArray := prog_1_method_18_code
def yX11_gets : MethodName := ⟨RX11, "gets", "(III)I"⟩
abbrev cX11_at : ByteArray := prog_1_method_19_code
def yX11_at : MethodName := ⟨RX11, "at", "(IIII)I"⟩
abbrev cX11_dry : ByteArray := prog_1_method_20_code
def yX11_dry : MethodName := ⟨RX11, "dry", "(III)I"⟩
abbrev cX11_found : ByteArray := prog_1_method_21_code
def yX11_found : MethodName := ⟨RX11, "found", "(II)I"⟩
abbrev cX11_best : ByteArray := prog_1_method_22_code
def yX11_best : MethodName := ⟨RX11, "best", "(IIII)I"⟩
abbrev cX11_rent : ByteArray := prog_1_method_23_code
def yX11_rent : MethodName := ⟨RX11, "rent", "(II)J"⟩
abbrev cX11_fines : ByteArray := prog_1_method_24_code
def yX11_fines : MethodName := ⟨RX11, "fines", "(I)J"⟩
abbrev cX11_dead : ByteArray := prog_1_method_25_code
def yX11_dead : MethodName := ⟨RX11, "dead", "(II)I"⟩
abbrev cX11_count : ByteArray := prog_1_method_26_code
def yX11_count : MethodName := ⟨RX11, "count", "(I)I"⟩
abbrev cX11_status : ByteArray := prog_1_method_27_code
def yX11_status : MethodName := ⟨RX11, "status", "()I"⟩
abbrev cX11_told : ByteArray := prog_1_method_28_code
def yX11_told : MethodName := ⟨RX11, "told", "(I)I"⟩
abbrev cX11_isPerson : ByteArray := prog_1_method_29_code
def yX11_isPerson : MethodName := ⟨RX11, "isPerson", "(I)Z"⟩
abbrev cX11_isSource : ByteArray := prog_1_method_30_code
def yX11_isSource : MethodName := ⟨RX11, "isSource", "(I)Z"⟩
abbrev cX11_countDryQuarters : ByteArray := prog_1_method_31_code
def yX11_countDryQuarters : MethodName := ⟨RX11, "countDryQuarters", "(III)V"⟩
abbrev cX11_leastDryYear : ByteArray := prog_1_method_32_code
def yX11_leastDryYear : MethodName := ⟨RX11, "leastDryYear", "(III)I"⟩
abbrev cX11_sumDry : ByteArray := prog_1_method_33_code
def yX11_sumDry : MethodName := ⟨RX11, "sumDry", "(II)I"⟩
abbrev cX11_isWithin : ByteArray := prog_1_method_34_code
def yX11_isWithin : MethodName := ⟨RX11, "isWithin", "(III)Z"⟩
abbrev cX11_isYear : ByteArray := prog_1_method_35_code
def yX11_isYear : MethodName := ⟨RX11, "isYear", "(I)Z"⟩
abbrev cX11_areYears : ByteArray := prog_1_method_36_code
def yX11_areYears : MethodName := ⟨RX11, "areYears", "(II)Z"⟩
abbrev cX11_isQuarter : ByteArray := prog_1_method_37_code
def yX11_isQuarter : MethodName := ⟨RX11, "isQuarter", "(I)Z"⟩
def RX12 : String := "WaterOfficeModel"
def TX12 : u_T := fun k => match k with
  | 0 => ("WaterOfficeModel", "thrown", "I", false)
  | 1 => ("WaterOfficeModel", "status", "I", false)
  | 2 => ("WaterOfficeModel", "now", "I", false)
  | 3 => ("WaterOfficeModel", "aqueducts", "I", false)
  | 4 => ("WaterOfficeModel", "yields", "[I", true)
  | 5 => ("WaterOfficeModel", "springs", "I", false)
  | 6 => ("WaterOfficeModel", "gAqueduct", "[I", true)
  | 7 => ("WaterOfficeModel", "gYear", "[I", true)
  | 8 => ("WaterOfficeModel", "gAmount", "[I", true)
  | 9 => ("WaterOfficeModel", "castles", "I", false)
  | 10 => ("WaterOfficeModel", "cFrom", "[I", true)
  | 11 => ("WaterOfficeModel", "cCarries", "[I", true)
  | 12 => ("WaterOfficeModel", "cLoss", "[I", true)
  | 13 => ("WaterOfficeModel", "persons", "I", false)
  | 14 => ("WaterOfficeModel", "deaths", "I", false)
  | 15 => ("WaterOfficeModel", "dPerson", "[I", true)
  | 16 => ("WaterOfficeModel", "dYear", "[I", true)
  | 17 => ("WaterOfficeModel", "dKnown", "[I", true)
  | 18 => ("WaterOfficeModel", "nozzles", "I", false)
  | 19 => ("WaterOfficeModel", "zCastle", "[I", true)
  | 20 => ("WaterOfficeModel", "zSize", "[I", true)
  | 21 => ("WaterOfficeModel", "zRank", "[I", true)
  | 22 => ("WaterOfficeModel", "zOf", "[I", true)
  | 23 => ("WaterOfficeModel", "zFrom", "[I", true)
  | 24 => ("WaterOfficeModel", "zShut", "[I", true)
  | 25 => ("WaterOfficeModel", "taps", "I", false)
  | 26 => ("WaterOfficeModel", "tCastle", "[I", true)
  | 27 => ("WaterOfficeModel", "tAmount", "[I", true)
  | 28 => ("WaterOfficeModel", "tFirst", "[I", true)
  | 29 => ("WaterOfficeModel", "tLast", "[I", true)
  | 30 => ("WaterOfficeModel", "repairs", "I", false)
  | 31 => ("WaterOfficeModel", "eCastle", "[I", true)
  | 32 => ("WaterOfficeModel", "eFirst", "[I", true)
  | 33 => ("WaterOfficeModel", "eLast", "[I", true)
  | 34 => ("WaterOfficeModel", "lawMany", "I", false)
  | 35 => ("WaterOfficeModel", "lSort", "[I", true)
  | 36 => ("WaterOfficeModel", "lFrom", "[I", true)
  | 37 => ("WaterOfficeModel", "lTo", "[I", true)
  | 38 => ("WaterOfficeModel", "lValue", "[I", true)
  | 39 => ("WaterOfficeModel", "nLaw", "[I", true)
  | 40 => ("WaterOfficeModel", "nMany", "I", false)
  | 41 => ("WaterOfficeModel", "tape", "[I", true)
  | 42 => ("WaterOfficeModel", "taped", "I", false)
  | 43 => ("WaterOfficeModel", "from", "I", false)
  | 44 => ("WaterOfficeModel", "to", "I", false)
  | 45 => ("WaterOfficeModel", "sort", "I", false)
  | 46 => ("WaterOfficeModel", "worth", "J", false)
  | 47 => ("WaterOfficeModel", "fault", "I", false)
  | 48 => ("WaterOfficeModel", "bad", "Z", false)
  | 49 => ("WaterOfficeModel", "inOf", "[I", true)
  | 50 => ("WaterOfficeModel", "into", "[I", true)
  | 51 => ("WaterOfficeModel", "tapped", "[I", true)
  | 52 => ("WaterOfficeModel", "lost", "[I", true)
  | 53 => ("WaterOfficeModel", "given", "[I", true)
  | 54 => ("WaterOfficeModel", "onward", "[I", true)
  | 55 => ("WaterOfficeModel", "get", "[I", true)
  | 56 => ("WaterOfficeModel", "pick", "[I", true)
  | 57 => ("WaterOfficeModel", "weigh", "[I", true)
  | 58 => ("WaterOfficeModel", "share", "[I", true)
  | _ => ("WaterOfficeModel", "picked", "I", false)
def tyX12 : Nat → FieldType := fun k => match k with
  | 0 => .int
  | 1 => .int
  | 2 => .int
  | 3 => .int
  | 4 => .array .int
  | 5 => .int
  | 6 => .array .int
  | 7 => .array .int
  | 8 => .array .int
  | 9 => .int
  | 10 => .array .int
  | 11 => .array .int
  | 12 => .array .int
  | 13 => .int
  | 14 => .int
  | 15 => .array .int
  | 16 => .array .int
  | 17 => .array .int
  | 18 => .int
  | 19 => .array .int
  | 20 => .array .int
  | 21 => .array .int
  | 22 => .array .int
  | 23 => .array .int
  | 24 => .array .int
  | 25 => .int
  | 26 => .array .int
  | 27 => .array .int
  | 28 => .array .int
  | 29 => .array .int
  | 30 => .int
  | 31 => .array .int
  | 32 => .array .int
  | 33 => .array .int
  | 34 => .int
  | 35 => .array .int
  | 36 => .array .int
  | 37 => .array .int
  | 38 => .array .int
  | 39 => .array .int
  | 40 => .int
  | 41 => .array .int
  | 42 => .int
  | 43 => .int
  | 44 => .int
  | 45 => .int
  | 46 => .long
  | 47 => .int
  | 48 => .boolean
  | 49 => .array .int
  | 50 => .array .int
  | 51 => .array .int
  | 52 => .array .int
  | 53 => .array .int
  | 54 => .array .int
  | 55 => .array .int
  | 56 => .array .int
  | 57 => .array .int
  | 58 => .array .int
  | _ => .int
abbrev wsX120 : List Cond := u_ws RX12 TX12 60
theorem nmX12 : ∀ a, a < 60 → ∀ b, b < 60 → a ≠ b → (TX12 a).2.1 ≠ (TX12 b).2.1 := by decide +kernel
theorem tyX12_ok : ∀ k, k < 60 → parseFieldDescriptor (TX12 k).2.2.1 = some (tyX12 k) := by decide +kernel
abbrev cX12_init : ByteArray := prog_14_method_1_code
def yX12_init : MethodName := ⟨RX12, "<init>", "()V"⟩
abbrev cX12_in : ByteArray := prog_14_method_3_code
def yX12_in : MethodName := ⟨RX12, "in", "(JJJ)Z"⟩
abbrev cX12_told : ByteArray := prog_14_method_4_code
def yX12_told : MethodName := ⟨RX12, "told", "(I)I"⟩
abbrev cX12_isYear : ByteArray := prog_14_method_5_code
def yX12_isYear : MethodName := ⟨RX12, "isYear", "(I)Z"⟩
abbrev cX12_isCastle : ByteArray := prog_14_method_6_code
def yX12_isCastle : MethodName := ⟨RX12, "isCastle", "(I)Z"⟩
abbrev cX12_isPerson : ByteArray := prog_14_method_7_code
def yX12_isPerson : MethodName := ⟨RX12, "isPerson", "(I)Z"⟩
abbrev cX12_isNozzle : ByteArray := prog_14_method_8_code
def yX12_isNozzle : MethodName := ⟨RX12, "isNozzle", "(I)Z"⟩
abbrev cX12_aqueduct : ByteArray := prog_14_method_9_code
def yX12_aqueduct : MethodName := ⟨RX12, "aqueduct", "(I)I"⟩
abbrev cX12_spring : ByteArray := prog_14_method_10_code
def yX12_spring : MethodName := ⟨RX12, "spring", "(III)I"⟩
abbrev cX12_castle : ByteArray := prog_14_method_11_code
def yX12_castle : MethodName := ⟨RX12, "castle", "(III)I"⟩
abbrev cX12_person : ByteArray := prog_14_method_12_code
def yX12_person : MethodName := ⟨RX12, "person", "()I"⟩
abbrev cX12_death : ByteArray := prog_14_method_13_code
def yX12_death : MethodName := ⟨RX12, "death", "(III)I"⟩
abbrev cX12_deadOf : ByteArray := prog_14_method_14_code
def yX12_deadOf : MethodName := ⟨RX12, "deadOf", "(II)I"⟩
abbrev cX12_dead : ByteArray := prog_14_method_15_code
def yX12_dead : MethodName := ⟨RX12, "dead", "(II)I"⟩
abbrev cX12_nozzle : ByteArray := prog_14_method_16_code
def yX12_nozzle : MethodName := ⟨RX12, "nozzle", "(IIII)I"⟩
abbrev cX12_shut : ByteArray := prog_14_method_17_code
def yX12_shut : MethodName := ⟨RX12, "shut", "(I)I"⟩
abbrev cX12_tap : ByteArray := prog_14_method_18_code
def yX12_tap : MethodName := ⟨RX12, "tap", "(IIII)I"⟩
abbrev cX12_repair : ByteArray := prog_14_method_19_code
def yX12_repair : MethodName := ⟨RX12, "repair", "(III)I"⟩
abbrev cX12_go : ByteArray := prog_14_method_20_code
def yX12_go : MethodName := ⟨RX12, "go", "(I)I"⟩
abbrev cX12_lawOf : ByteArray := prog_14_method_21_code
def yX12_lawOf : MethodName := ⟨RX12, "lawOf", "(II)I"⟩
abbrev cX12_isClosed : ByteArray := prog_14_method_22_code
def yX12_isClosed : MethodName := ⟨RX12, "isClosed", "(II)Z"⟩
abbrev cX12_law : ByteArray := prog_14_method_23_code
def yX12_law : MethodName := ⟨RX12, "law", "(II)I"⟩
abbrev cX12_four : ByteArray := prog_14_method_24_code
def yX12_four : MethodName := ⟨RX12, "four", "(I)V"⟩
abbrev cX12_feed : ByteArray := prog_14_method_25_code
def yX12_feed : MethodName := ⟨RX12, "feed", "(IIIII)I"⟩
abbrev cX12_end : ByteArray := prog_14_method_26_code
def yX12_end : MethodName := ⟨RX12, "end", "(I)I"⟩
abbrev cX12_isSmall : ByteArray := prog_14_method_27_code
def yX12_isSmall : MethodName := ⟨RX12, "isSmall", "(I)Z"⟩
abbrev cX12_isDigit : ByteArray := prog_14_method_28_code
def yX12_isDigit : MethodName := ⟨RX12, "isDigit", "(I)Z"⟩
abbrev cX12_next : ByteArray := prog_14_method_29_code
def yX12_next : MethodName := ⟨RX12, "next", "()V"⟩
abbrev cX12_isWord : ByteArray := prog_14_method_30_code
def yX12_isWord : MethodName := ⟨RX12, "isWord", "(IIIII)Z"⟩
abbrev cX12_isLong : ByteArray := prog_14_method_31_code
def yX12_isLong : MethodName := ⟨RX12, "isLong", "(IIIIIIIII)Z"⟩
abbrev cX12_must : ByteArray := prog_14_method_32_code
def yX12_must : MethodName := ⟨RX12, "must", "(Z)V"⟩
abbrev cX12_number : ByteArray := prog_14_method_33_code
def yX12_number : MethodName := ⟨RX12, "number", "(J)I"⟩
abbrev cX12_readLaw : ByteArray := prog_14_method_34_code
def yX12_readLaw : MethodName := ⟨RX12, "readLaw", "()V"⟩
abbrev cX12_laws : ByteArray := prog_14_method_35_code
def yX12_laws : MethodName := ⟨RX12, "laws", "()I"⟩
abbrev cX12_fault : ByteArray := prog_14_method_36_code
def yX12_fault : MethodName := ⟨RX12, "fault", "()I"⟩
abbrev cX12_isOpen : ByteArray := prog_14_method_37_code
def yX12_isOpen : MethodName := ⟨RX12, "isOpen", "(II)Z"⟩
abbrev cX12_livesIn : ByteArray := prog_14_method_38_code
def yX12_livesIn : MethodName := ⟨RX12, "livesIn", "(III)Z"⟩
abbrev cX12_isDown : ByteArray := prog_14_method_39_code
def yX12_isDown : MethodName := ⟨RX12, "isDown", "(II)Z"⟩
abbrev cX12_yieldOf : ByteArray := prog_14_method_40_code
def yX12_yieldOf : MethodName := ⟨RX12, "yieldOf", "(II)I"⟩
abbrev cX12_deal : ByteArray := prog_14_method_41_code
def yX12_deal : MethodName := ⟨RX12, "deal", "(I)I"⟩
abbrev cX12_flow : ByteArray := prog_14_method_42_code
def yX12_flow : MethodName := ⟨RX12, "flow", "(II)V"⟩
abbrev cX12_flowAt : ByteArray := prog_14_method_43_code
def yX12_flowAt : MethodName := ⟨RX12, "flowAt", "(III)V"⟩
abbrev cX12_lives : ByteArray := prog_14_method_44_code
def yX12_lives : MethodName := ⟨RX12, "lives", "(III)I"⟩
abbrev cX12_gets : ByteArray := prog_14_method_45_code
def yX12_gets : MethodName := ⟨RX12, "gets", "(III)I"⟩
abbrev cX12_at : ByteArray := prog_14_method_46_code
def yX12_at : MethodName := ⟨RX12, "at", "(IIII)I"⟩
abbrev cX12_isDry : ByteArray := prog_14_method_47_code
def yX12_isDry : MethodName := ⟨RX12, "isDry", "(II)Z"⟩
abbrev cX12_dry : ByteArray := prog_14_method_48_code
def yX12_dry : MethodName := ⟨RX12, "dry", "(III)I"⟩
abbrev cX12_found : ByteArray := prog_14_method_49_code
def yX12_found : MethodName := ⟨RX12, "found", "(II)I"⟩
abbrev cX12_best : ByteArray := prog_14_method_50_code
def yX12_best : MethodName := ⟨RX12, "best", "(IIII)I"⟩
abbrev cX12_rent : ByteArray := prog_14_method_51_code
def yX12_rent : MethodName := ⟨RX12, "rent", "(II)J"⟩
abbrev cX12_fines : ByteArray := prog_14_method_52_code
def yX12_fines : MethodName := ⟨RX12, "fines", "(I)J"⟩
abbrev cX12_count : ByteArray := prog_14_method_53_code
def yX12_count : MethodName := ⟨RX12, "count", "(I)I"⟩
abbrev cX12_status : ByteArray := prog_14_method_54_code
def yX12_status : MethodName := ⟨RX12, "status", "()I"⟩
def RJ9 : String := "java/lang/Math"
def TJ9 : u_T := fun k => match k with
  | _ => ("", "", "", false)
def tyJ9 : Nat → FieldType := fun k => match k with
  | _ => .int
abbrev wsJ90 : List Cond := u_ws RJ9 TJ9 0
theorem nmJ9 : ∀ a, a < 0 → ∀ b, b < 0 → a ≠ b → (TJ9 a).2.1 ≠ (TJ9 b).2.1 := by decide +kernel
theorem tyJ9_ok : ∀ k, k < 0 → parseFieldDescriptor (TJ9 k).2.2.1 = some (tyJ9 k) := by decide +kernel
abbrev cJ9_max_7cf53 : ByteArray := prog_15_method_65_code
def yJ9_max_7cf53 : MethodName := ⟨RJ9, "max", "(II)I"⟩
abbrev cJ9_min_7cf53 : ByteArray := prog_15_method_69_code
def yJ9_min_7cf53 : MethodName := ⟨RJ9, "min", "(II)I"⟩
def RJ0 : String := "java/lang/String"
def TJ0 : u_T := fun k => match k with
  | _ => ("", "", "", false)
def tyJ0 : Nat → FieldType := fun k => match k with
  | _ => .int
abbrev wsJ00 : List Cond := u_ws RJ0 TJ0 0
theorem nmJ0 : ∀ a, a < 0 → ∀ b, b < 0 → a ≠ b → (TJ0 a).2.1 ≠ (TJ0 b).2.1 := by decide +kernel
theorem tyJ0_ok : ∀ k, k < 0 → parseFieldDescriptor (TJ0 k).2.2.1 = some (tyJ0 k) := by decide +kernel
abbrev cJ0_length_8abf5 : ByteArray := prog_16_method_54_code
def yJ0_length_8abf5 : MethodName := ⟨RJ0, "length", "()I"⟩
abbrev cJ0_charAt_5068e : ByteArray := prog_16_method_56_code
def yJ0_charAt_5068e : MethodName := ⟨RJ0, "charAt", "(I)C"⟩
abbrev cJ0_coder_7d493 : ByteArray := prog_16_method_152_code
def yJ0_coder_7d493 : MethodName := ⟨RJ0, "coder", "()B"⟩
abbrev cJ0_isLatin1_aae02 : ByteArray := prog_16_method_154_code
def yJ0_isLatin1_aae02 : MethodName := ⟨RJ0, "isLatin1", "()Z"⟩
abbrev cJ0_checkIndex_df160 : ByteArray := prog_16_method_155_code
def yJ0_checkIndex_df160 : MethodName := ⟨RJ0, "checkIndex", "(II)V"⟩
def RJ1 : String := "java/lang/StringLatin1"
def TJ1 : u_T := fun k => match k with
  | _ => ("", "", "", false)
def tyJ1 : Nat → FieldType := fun k => match k with
  | _ => .int
abbrev wsJ10 : List Cond := u_ws RJ1 TJ1 0
theorem nmJ1 : ∀ a, a < 0 → ∀ b, b < 0 → a ≠ b → (TJ1 a).2.1 ≠ (TJ1 b).2.1 := by decide +kernel
theorem tyJ1_ok : ∀ k, k < 0 → parseFieldDescriptor (TJ1 k).2.2.1 = some (tyJ1 k) := by decide +kernel
abbrev cJ1_charAt_3b067 : ByteArray := prog_17_method_2_code
def yJ1_charAt_3b067 : MethodName := ⟨RJ1, "charAt", "([BI)C"⟩
def RJ2 : String := "java/lang/StringUTF16"
def TJ2 : u_T := fun k => match k with
  | _ => ("", "", "", false)
def tyJ2 : Nat → FieldType := fun k => match k with
  | _ => .int
abbrev wsJ20 : List Cond := u_ws RJ2 TJ2 0
theorem nmJ2 : ∀ a, a < 0 → ∀ b, b < 0 → a ≠ b → (TJ2 a).2.1 ≠ (TJ2 b).2.1 := by decide +kernel
theorem tyJ2_ok : ∀ k, k < 0 → parseFieldDescriptor (TJ2 k).2.2.1 = some (tyJ2 k) := by decide +kernel
abbrev cJ2_getChar_3b067 : ByteArray := prog_18_method_5_code
def yJ2_getChar_3b067 : MethodName := ⟨RJ2, "getChar", "([BI)C"⟩
abbrev cJ2_length_9d52b : ByteArray := prog_18_method_6_code
def yJ2_length_9d52b : MethodName := ⟨RJ2, "length", "([B)I"⟩
abbrev cJ2_charAt_3b067 : ByteArray := prog_18_method_83_code
def yJ2_charAt_3b067 : MethodName := ⟨RJ2, "charAt", "([BI)C"⟩
abbrev cJ2_checkIndex_2214a : ByteArray := prog_18_method_91_code
def yJ2_checkIndex_2214a : MethodName := ⟨RJ2, "checkIndex", "(I[B)V"⟩
def RJ3 : String := "jdk/internal/util/Preconditions"
def TJ3 : u_T := fun k => match k with
  | _ => ("", "", "", false)
def tyJ3 : Nat → FieldType := fun k => match k with
  | _ => .int
abbrev wsJ30 : List Cond := u_ws RJ3 TJ3 0
theorem nmJ3 : ∀ a, a < 0 → ∀ b, b < 0 → a ≠ b → (TJ3 a).2.1 ≠ (TJ3 b).2.1 := by decide +kernel
theorem tyJ3_ok : ∀ k, k < 0 → parseFieldDescriptor (TJ3 k).2.2.1 = some (tyJ3 k) := by decide +kernel
abbrev cJ3_checkIndex_8e157 : ByteArray := prog_19_method_11_code
def yJ3_checkIndex_8e157 : MethodName := ⟨RJ3, "checkIndex", "(IILjava/util/function/BiFunction;)I"⟩
def RL : String := "WaterOfficeLaw"
abbrev cL_law : ByteArray := code
def yL_law : MethodName := ⟨RL, "law", "([I)Z"⟩
abbrev vwCl : List vw_C := [(RX0, TX0, 5), (RX1, TX1, 5), (RX2, TX2, 15), (RX3, TX3, 3), (RX4, TX4, 6), (RX5, TX5, 5), (RX6, TX6, 7), (RX7, TX7, 5), (RX8, TX8, 5), (RX9, TX9, 7), (RX10, TX10, 2), (RX11, TX11, 14), (RX12, TX12, 60)]
