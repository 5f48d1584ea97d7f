/-! ===== contracts over one world: its ints, its rows, its longs; the calls of such contracts ===== -/
abbrev St : Type := (Nat → Int32) × (Nat → Nat → Int32) × (Nat → Int64)
def fF (σ : St) (k : Nat) (v : Int32) : St := (va_up σ.1 k v, σ.2.1, σ.2.2)
def fR (σ : St) (k : Nat) (f : Nat → Int32) : St := (σ.1, va_up σ.2.1 k f, σ.2.2)
def fL (σ : St) (k : Nat) (v : Int64) : St := (σ.1, σ.2.1, va_up σ.2.2 k v)
def PP (D : va_G) (cy : Nat → ClassId) (wf : St → va_W) (A : Nat → Prop) (σ : St) (U : State) : Prop := va_P D vwCl (wf σ) U.heap ∧ va_D A (wf σ) ∧ KK D cy U
def CI (l : Launch) (y : MethodName) (cc : ByteArray) (n : Nat) (r : Option FieldType) (rm : Room) (D : va_G) (cy : Nat → ClassId) (wf : St → va_W) (A : Nat → Prop) (av : List Value) (σ : St) (post : Int32 → St → Prop) : Prop :=
  Met l y (WS y cc n r) rm (va_Pc av (PP D cy wf A σ)) (va_Qi post (fun u t => va_P D vwCl (wf u) t.heap) A) 0 0 A
def CL (l : Launch) (y : MethodName) (cc : ByteArray) (n : Nat) (r : Option FieldType) (rm : Room) (D : va_G) (cy : Nat → ClassId) (wf : St → va_W) (A : Nat → Prop) (av : List Value) (σ : St) (post : Int64 → St → Prop) : Prop :=
  Met l y (WS y cc n r) rm (va_Pc av (PP D cy wf A σ)) (va_Ql post (fun u t => va_P D vwCl (wf u) t.heap) A) 0 0 A
def CV (l : Launch) (y : MethodName) (cc : ByteArray) (n : Nat) (r : Option FieldType) (rm : Room) (D : va_G) (cy : Nat → ClassId) (wf : St → va_W) (A : Nat → Prop) (av : List Value) (σ : St) (post : St → Prop) : Prop :=
  Met l y (WS y cc n r) rm (va_Pc av (PP D cy wf A σ)) (va_Qv post (fun u t => va_P D vwCl (wf u) t.heap) A) 0 0 A
/-- a room of depth d -/
def rmOf (f k : Nat) : Room := { frames := f, cells := 0, slots := 0, locals := k }
theorem pp_blind (D : va_G) (cy : Nat → ClassId) (wf : St → va_W) (A : Nat → Prop) (av : List Value) (σ : St) : FrameBlind (va_Pc av (PP D cy wf A σ)) := by
  intro a U g mk q
  exact ⟨q.1, q.2.1, q.2.2.1, q.2.2.2.call⟩
theorem wsv_good {y : MethodName} {cc : ByteArray} {n idx : Nat} {r : Option FieldType} {own : String} (co : Cond.code y cc n r ∈ TB) (ml : Cond.methodLink own idx y ∈ TB) (im : Cond.instanceMethod y ∈ TB) (se : Cond.selects y.cls y y ∈ TB) (ini : Cond.initialized y.cls ∈ TB) : GoodIn TB (wsV own idx y.cls y (WS y cc n r)) := by
  intro w hw
  rcases List.mem_append.mp hw with h | h
  · have hm : w ∈ TB := by
      rcases List.mem_cons.mp h with e | h
      · rw [e]; exact ml
      rcases List.mem_cons.mp h with e | h
      · rw [e]; exact im
      rcases List.mem_cons.mp h with e | h
      · rw [e]; exact se
      rcases List.mem_cons.mp h with e | h
      · rw [e]; exact ini
      · cases h
    exact ⟨hm, good_of_word (List.mem_filter.mp hm).2⟩
  · exact tb_good co w h
theorem wss_good {y : MethodName} {cc : ByteArray} {n idx : Nat} {r : Option FieldType} {own : String} (co : Cond.code y cc n r ∈ TB) (ml : Cond.methodLink own idx y ∈ TB) (st : Cond.static y ∈ TB) (ini : Cond.initialized own ∈ TB) : GoodIn TB (wsS own idx y (WS y cc n r)) := by
  intro w hw
  rcases List.mem_append.mp hw with h | h
  · have hm : w ∈ TB := by
      rcases List.mem_cons.mp h with e | h
      · rw [e]; exact ml
      rcases List.mem_cons.mp h with e | h
      · rw [e]; exact st
      rcases List.mem_cons.mp h with e | h
      · rw [e]; exact ini
      · cases h
    exact ⟨hm, good_of_word (List.mem_filter.mp hm).2⟩
  · exact tb_good co w h
/-- what a method's name must be to be called so, with k arguments -/
def okN (y : MethodName) (k : Nat) : Prop := y.cls ≠ "java/lang/invoke/MethodHandle" ∧ y.cls ≠ "java/lang/invoke/VarHandle" ∧ (parseMethodDescriptor y.desc).map (fun d => d.parameters.length) = some k
theorem ok_X0_init : okN yX0_init 0 := ⟨by decide +kernel, by decide +kernel, by decide +kernel⟩
theorem ok_X0_has : okN yX0_has 1 := ⟨by decide +kernel, by decide +kernel, by decide +kernel⟩
theorem ok_X0_build : okN yX0_build 3 := ⟨by decide +kernel, by decide +kernel, by decide +kernel⟩
theorem ok_X1_init : okN yX1_init 0 := ⟨by decide +kernel, by decide +kernel, by decide +kernel⟩
theorem ok_X1_add : okN yX1_add 3 := ⟨by decide +kernel, by decide +kernel, by decide +kernel⟩
theorem ok_X1_settle : okN yX1_settle 1 := ⟨by decide +kernel, by decide +kernel, by decide +kernel⟩
theorem ok_X1_isWithinLife : okN yX1_isWithinLife 3 := ⟨by decide +kernel, by decide +kernel, by decide +kernel⟩
theorem ok_X2_init : okN yX2_init 7 := ⟨by decide +kernel, by decide +kernel, by decide +kernel⟩
theorem ok_X2_run : okN yX2_run 2 := ⟨by decide +kernel, by decide +kernel, by decide +kernel⟩
theorem ok_X2_prepare : okN yX2_prepare 2 := ⟨by decide +kernel, by decide +kernel, by decide +kernel⟩
theorem ok_X2_flow : okN yX2_flow 1 := ⟨by decide +kernel, by decide +kernel, by decide +kernel⟩
theorem ok_X2_chooseServed : okN yX2_chooseServed 0 := ⟨by decide +kernel, by decide +kernel, by decide +kernel⟩
theorem ok_X2_isLiving : okN yX2_isLiving 1 := ⟨by decide +kernel, by decide +kernel, by decide +kernel⟩
theorem ok_X2_openPipes : okN yX2_openPipes 1 := ⟨by decide +kernel, by decide +kernel, by decide +kernel⟩
theorem ok_X2_bringIn : okN yX2_bringIn 1 := ⟨by decide +kernel, by decide +kernel, by decide +kernel⟩
theorem ok_X2_lossOf : okN yX2_lossOf 2 := ⟨by decide +kernel, by decide +kernel, by decide +kernel⟩
theorem ok_X2_partToNozzles : okN yX2_partToNozzles 1 := ⟨by decide +kernel, by decide +kernel, by decide +kernel⟩
theorem ok_X2_partToRank : okN yX2_partToRank 3 := ⟨by decide +kernel, by decide +kernel, by decide +kernel⟩
theorem ok_X2_leadOn : okN yX2_leadOn 1 := ⟨by decide +kernel, by decide +kernel, by decide +kernel⟩
theorem ok_X2_weighQuarters : okN yX2_weighQuarters 0 := ⟨by decide +kernel, by decide +kernel, by decide +kernel⟩
theorem ok_X2_isDry : okN yX2_isDry 1 := ⟨by decide +kernel, by decide +kernel, by decide +kernel⟩
theorem ok_X2_countDry : okN yX2_countDry 0 := ⟨by decide +kernel, by decide +kernel, by decide +kernel⟩
theorem ok_X2_leastMissing : okN yX2_leastMissing 1 := ⟨by decide +kernel, by decide +kernel, by decide +kernel⟩
theorem ok_X2_rentOf : okN yX2_rentOf 3 := ⟨by decide +kernel, by decide +kernel, by decide +kernel⟩
theorem ok_X2_fineOf : okN yX2_fineOf 3 := ⟨by decide +kernel, by decide +kernel, by decide +kernel⟩
theorem ok_X3_init : okN yX3_init 1 := ⟨by decide +kernel, by decide +kernel, by decide +kernel⟩
theorem ok_X3_put : okN yX3_put 2 := ⟨by decide +kernel, by decide +kernel, by decide +kernel⟩
theorem ok_X3_member : okN yX3_member 2 := ⟨by decide +kernel, by decide +kernel, by decide +kernel⟩
theorem ok_X4_init : okN yX4_init 0 := ⟨by decide +kernel, by decide +kernel, by decide +kernel⟩
theorem ok_X4_clear : okN yX4_clear 0 := ⟨by decide +kernel, by decide +kernel, by decide +kernel⟩
theorem ok_X4_add : okN yX4_add 4 := ⟨by decide +kernel, by decide +kernel, by decide +kernel⟩
theorem ok_X4_copyFrom : okN yX4_copyFrom 1 := ⟨by decide +kernel, by decide +kernel, by decide +kernel⟩
theorem ok_X4_settle : okN yX4_settle 1 := ⟨by decide +kernel, by decide +kernel, by decide +kernel⟩
theorem ok_X4_isAboveMost : okN yX4_isAboveMost 1 := ⟨by decide +kernel, by decide +kernel, by decide +kernel⟩
theorem ok_X4_isClosed : okN yX4_isClosed 1 := ⟨by decide +kernel, by decide +kernel, by decide +kernel⟩
theorem ok_X5_init : okN yX5_init 1 := ⟨by decide +kernel, by decide +kernel, by decide +kernel⟩
theorem ok_X5_read : okN yX5_read 0 := ⟨by decide +kernel, by decide +kernel, by decide +kernel⟩
theorem ok_X5_cannotGoOn : okN yX5_cannotGoOn 0 := ⟨by decide +kernel, by decide +kernel, by decide +kernel⟩
theorem ok_X5_readLaw : okN yX5_readLaw 0 := ⟨by decide +kernel, by decide +kernel, by decide +kernel⟩
theorem ok_X5_takeKind : okN yX5_takeKind 0 := ⟨by decide +kernel, by decide +kernel, by decide +kernel⟩
theorem ok_X5_takeRankName : okN yX5_takeRankName 0 := ⟨by decide +kernel, by decide +kernel, by decide +kernel⟩
theorem ok_X5_takeWord : okN yX5_takeWord 1 := ⟨by decide +kernel, by decide +kernel, by decide +kernel⟩
theorem ok_X5_takeNumber : okN yX5_takeNumber 2 := ⟨by decide +kernel, by decide +kernel, by decide +kernel⟩
theorem ok_X5_isAtEnd : okN yX5_isAtEnd 0 := ⟨by decide +kernel, by decide +kernel, by decide +kernel⟩
theorem ok_X5_step : okN yX5_step 0 := ⟨by decide +kernel, by decide +kernel, by decide +kernel⟩
theorem ok_X5_mostOf : okN yX5_mostOf 1 := ⟨by decide +kernel, by decide +kernel, by decide +kernel⟩
theorem ok_X5_byteKind : okN yX5_byteKind 1 := ⟨by decide +kernel, by decide +kernel, by decide +kernel⟩
theorem ok_X6_init : okN yX6_init 0 := ⟨by decide +kernel, by decide +kernel, by decide +kernel⟩
theorem ok_X6_has : okN yX6_has 1 := ⟨by decide +kernel, by decide +kernel, by decide +kernel⟩
theorem ok_X6_stamp : okN yX6_stamp 5 := ⟨by decide +kernel, by decide +kernel, by decide +kernel⟩
theorem ok_X6_close : okN yX6_close 2 := ⟨by decide +kernel, by decide +kernel, by decide +kernel⟩
theorem ok_X6_isOpen : okN yX6_isOpen 2 := ⟨by decide +kernel, by decide +kernel, by decide +kernel⟩
theorem ok_X6_isGrantOf : okN yX6_isGrantOf 2 := ⟨by decide +kernel, by decide +kernel, by decide +kernel⟩
theorem ok_X7_init : okN yX7_init 0 := ⟨by decide +kernel, by decide +kernel, by decide +kernel⟩
theorem ok_X7_clear : okN yX7_clear 0 := ⟨by decide +kernel, by decide +kernel, by decide +kernel⟩
theorem ok_X7_add : okN yX7_add 2 := ⟨by decide +kernel, by decide +kernel, by decide +kernel⟩
theorem ok_X7_part : okN yX7_part 1 := ⟨by decide +kernel, by decide +kernel, by decide +kernel⟩
theorem ok_X8_init : okN yX8_init 1 := ⟨by decide +kernel, by decide +kernel, by decide +kernel⟩
theorem ok_X8_add : okN yX8_add 4 := ⟨by decide +kernel, by decide +kernel, by decide +kernel⟩
theorem ok_X8_isIn : okN yX8_isIn 2 := ⟨by decide +kernel, by decide +kernel, by decide +kernel⟩
theorem ok_X8_hasAny : okN yX8_hasAny 2 := ⟨by decide +kernel, by decide +kernel, by decide +kernel⟩
theorem ok_X8_take : okN yX8_take 3 := ⟨by decide +kernel, by decide +kernel, by decide +kernel⟩
theorem ok_X9_init : okN yX9_init 0 := ⟨by decide +kernel, by decide +kernel, by decide +kernel⟩
theorem ok_X9_hasAqueduct : okN yX9_hasAqueduct 1 := ⟨by decide +kernel, by decide +kernel, by decide +kernel⟩
theorem ok_X9_addAqueduct : okN yX9_addAqueduct 1 := ⟨by decide +kernel, by decide +kernel, by decide +kernel⟩
theorem ok_X9_change : okN yX9_change 3 := ⟨by decide +kernel, by decide +kernel, by decide +kernel⟩
theorem ok_X9_placeOf : okN yX9_placeOf 2 := ⟨by decide +kernel, by decide +kernel, by decide +kernel⟩
theorem ok_X9_settle : okN yX9_settle 1 := ⟨by decide +kernel, by decide +kernel, by decide +kernel⟩
theorem ok_X9_draw : okN yX9_draw 2 := ⟨by decide +kernel, by decide +kernel, by decide +kernel⟩
theorem ok_X10_init : okN yX10_init 0 := ⟨by decide +kernel, by decide +kernel, by decide +kernel⟩
theorem ok_X10_hasRoom : okN yX10_hasRoom 1 := ⟨by decide +kernel, by decide +kernel, by decide +kernel⟩
theorem ok_X10_write : okN yX10_write 1 := ⟨by decide +kernel, by decide +kernel, by decide +kernel⟩
theorem ok_X10_byteAt : okN yX10_byteAt 1 := ⟨by decide +kernel, by decide +kernel, by decide +kernel⟩
theorem ok_X11_init : okN yX11_init 0 := ⟨by decide +kernel, by decide +kernel, by decide +kernel⟩
theorem ok_X11_aqueduct : okN yX11_aqueduct 1 := ⟨by decide +kernel, by decide +kernel, by decide +kernel⟩
theorem ok_X11_spring : okN yX11_spring 3 := ⟨by decide +kernel, by decide +kernel, by decide +kernel⟩
theorem ok_X11_castle : okN yX11_castle 3 := ⟨by decide +kernel, by decide +kernel, by decide +kernel⟩
theorem ok_X11_person : okN yX11_person 0 := ⟨by decide +kernel, by decide +kernel, by decide +kernel⟩
theorem ok_X11_death : okN yX11_death 3 := ⟨by decide +kernel, by decide +kernel, by decide +kernel⟩
theorem ok_X11_nozzle : okN yX11_nozzle 4 := ⟨by decide +kernel, by decide +kernel, by decide +kernel⟩
theorem ok_X11_shut : okN yX11_shut 1 := ⟨by decide +kernel, by decide +kernel, by decide +kernel⟩
theorem ok_X11_tap : okN yX11_tap 4 := ⟨by decide +kernel, by decide +kernel, by decide +kernel⟩
theorem ok_X11_repair : okN yX11_repair 3 := ⟨by decide +kernel, by decide +kernel, by decide +kernel⟩
theorem ok_X11_go : okN yX11_go 1 := ⟨by decide +kernel, by decide +kernel, by decide +kernel⟩
theorem ok_X11_feed : okN yX11_feed 5 := ⟨by decide +kernel, by decide +kernel, by decide +kernel⟩
theorem ok_X11_end : okN yX11_end 1 := ⟨by decide +kernel, by decide +kernel, by decide +kernel⟩
theorem ok_X11_laws : okN yX11_laws 0 := ⟨by decide +kernel, by decide +kernel, by decide +kernel⟩
theorem ok_X11_fault : okN yX11_fault 0 := ⟨by decide +kernel, by decide +kernel, by decide +kernel⟩
theorem ok_X11_law : okN yX11_law 2 := ⟨by decide +kernel, by decide +kernel, by decide +kernel⟩
theorem ok_X11_lives : okN yX11_lives 3 := ⟨by decide +kernel, by decide +kernel, by decide +kernel⟩
theorem ok_X11_gets : okN yX11_gets 3 := ⟨by decide +kernel, by decide +kernel, by decide +kernel⟩
theorem ok_X11_at : okN yX11_at 4 := ⟨by decide +kernel, by decide +kernel, by decide +kernel⟩
theorem ok_X11_dry : okN yX11_dry 3 := ⟨by decide +kernel, by decide +kernel, by decide +kernel⟩
theorem ok_X11_found : okN yX11_found 2 := ⟨by decide +kernel, by decide +kernel, by decide +kernel⟩
theorem ok_X11_best : okN yX11_best 4 := ⟨by decide +kernel, by decide +kernel, by decide +kernel⟩
theorem ok_X11_rent : okN yX11_rent 2 := ⟨by decide +kernel, by decide +kernel, by decide +kernel⟩
theorem ok_X11_fines : okN yX11_fines 1 := ⟨by decide +kernel, by decide +kernel, by decide +kernel⟩
theorem ok_X11_dead : okN yX11_dead 2 := ⟨by decide +kernel, by decide +kernel, by decide +kernel⟩
theorem ok_X11_count : okN yX11_count 1 := ⟨by decide +kernel, by decide +kernel, by decide +kernel⟩
theorem ok_X11_status : okN yX11_status 0 := ⟨by decide +kernel, by decide +kernel, by decide +kernel⟩
theorem ok_X11_told : okN yX11_told 1 := ⟨by decide +kernel, by decide +kernel, by decide +kernel⟩
theorem ok_X11_isPerson : okN yX11_isPerson 1 := ⟨by decide +kernel, by decide +kernel, by decide +kernel⟩
theorem ok_X11_isSource : okN yX11_isSource 1 := ⟨by decide +kernel, by decide +kernel, by decide +kernel⟩
theorem ok_X11_countDryQuarters : okN yX11_countDryQuarters 3 := ⟨by decide +kernel, by decide +kernel, by decide +kernel⟩
theorem ok_X11_leastDryYear : okN yX11_leastDryYear 3 := ⟨by decide +kernel, by decide +kernel, by decide +kernel⟩
theorem ok_X11_sumDry : okN yX11_sumDry 2 := ⟨by decide +kernel, by decide +kernel, by decide +kernel⟩
theorem ok_X11_isWithin : okN yX11_isWithin 3 := ⟨by decide +kernel, by decide +kernel, by decide +kernel⟩
theorem ok_X11_isYear : okN yX11_isYear 1 := ⟨by decide +kernel, by decide +kernel, by decide +kernel⟩
theorem ok_X11_areYears : okN yX11_areYears 2 := ⟨by decide +kernel, by decide +kernel, by decide +kernel⟩
theorem ok_X11_isQuarter : okN yX11_isQuarter 1 := ⟨by decide +kernel, by decide +kernel, by decide +kernel⟩
theorem ok_X12_init : okN yX12_init 0 := ⟨by decide +kernel, by decide +kernel, by decide +kernel⟩
theorem ok_X12_in : okN yX12_in 3 := ⟨by decide +kernel, by decide +kernel, by decide +kernel⟩
theorem ok_X12_told : okN yX12_told 1 := ⟨by decide +kernel, by decide +kernel, by decide +kernel⟩
theorem ok_X12_isYear : okN yX12_isYear 1 := ⟨by decide +kernel, by decide +kernel, by decide +kernel⟩
theorem ok_X12_isCastle : okN yX12_isCastle 1 := ⟨by decide +kernel, by decide +kernel, by decide +kernel⟩
theorem ok_X12_isPerson : okN yX12_isPerson 1 := ⟨by decide +kernel, by decide +kernel, by decide +kernel⟩
theorem ok_X12_isNozzle : okN yX12_isNozzle 1 := ⟨by decide +kernel, by decide +kernel, by decide +kernel⟩
theorem ok_X12_aqueduct : okN yX12_aqueduct 1 := ⟨by decide +kernel, by decide +kernel, by decide +kernel⟩
theorem ok_X12_spring : okN yX12_spring 3 := ⟨by decide +kernel, by decide +kernel, by decide +kernel⟩
theorem ok_X12_castle : okN yX12_castle 3 := ⟨by decide +kernel, by decide +kernel, by decide +kernel⟩
theorem ok_X12_person : okN yX12_person 0 := ⟨by decide +kernel, by decide +kernel, by decide +kernel⟩
theorem ok_X12_death : okN yX12_death 3 := ⟨by decide +kernel, by decide +kernel, by decide +kernel⟩
theorem ok_X12_deadOf : okN yX12_deadOf 2 := ⟨by decide +kernel, by decide +kernel, by decide +kernel⟩
theorem ok_X12_dead : okN yX12_dead 2 := ⟨by decide +kernel, by decide +kernel, by decide +kernel⟩
theorem ok_X12_nozzle : okN yX12_nozzle 4 := ⟨by decide +kernel, by decide +kernel, by decide +kernel⟩
theorem ok_X12_shut : okN yX12_shut 1 := ⟨by decide +kernel, by decide +kernel, by decide +kernel⟩
theorem ok_X12_tap : okN yX12_tap 4 := ⟨by decide +kernel, by decide +kernel, by decide +kernel⟩
theorem ok_X12_repair : okN yX12_repair 3 := ⟨by decide +kernel, by decide +kernel, by decide +kernel⟩
theorem ok_X12_go : okN yX12_go 1 := ⟨by decide +kernel, by decide +kernel, by decide +kernel⟩
theorem ok_X12_lawOf : okN yX12_lawOf 2 := ⟨by decide +kernel, by decide +kernel, by decide +kernel⟩
theorem ok_X12_isClosed : okN yX12_isClosed 2 := ⟨by decide +kernel, by decide +kernel, by decide +kernel⟩
theorem ok_X12_law : okN yX12_law 2 := ⟨by decide +kernel, by decide +kernel, by decide +kernel⟩
theorem ok_X12_four : okN yX12_four 1 := ⟨by decide +kernel, by decide +kernel, by decide +kernel⟩
theorem ok_X12_feed : okN yX12_feed 5 := ⟨by decide +kernel, by decide +kernel, by decide +kernel⟩
theorem ok_X12_end : okN yX12_end 1 := ⟨by decide +kernel, by decide +kernel, by decide +kernel⟩
theorem ok_X12_isSmall : okN yX12_isSmall 1 := ⟨by decide +kernel, by decide +kernel, by decide +kernel⟩
theorem ok_X12_isDigit : okN yX12_isDigit 1 := ⟨by decide +kernel, by decide +kernel, by decide +kernel⟩
theorem ok_X12_next : okN yX12_next 0 := ⟨by decide +kernel, by decide +kernel, by decide +kernel⟩
theorem ok_X12_isWord : okN yX12_isWord 5 := ⟨by decide +kernel, by decide +kernel, by decide +kernel⟩
theorem ok_X12_isLong : okN yX12_isLong 9 := ⟨by decide +kernel, by decide +kernel, by decide +kernel⟩
theorem ok_X12_must : okN yX12_must 1 := ⟨by decide +kernel, by decide +kernel, by decide +kernel⟩
theorem ok_X12_number : okN yX12_number 1 := ⟨by decide +kernel, by decide +kernel, by decide +kernel⟩
theorem ok_X12_readLaw : okN yX12_readLaw 0 := ⟨by decide +kernel, by decide +kernel, by decide +kernel⟩
theorem ok_X12_laws : okN yX12_laws 0 := ⟨by decide +kernel, by decide +kernel, by decide +kernel⟩
theorem ok_X12_fault : okN yX12_fault 0 := ⟨by decide +kernel, by decide +kernel, by decide +kernel⟩
theorem ok_X12_isOpen : okN yX12_isOpen 2 := ⟨by decide +kernel, by decide +kernel, by decide +kernel⟩
theorem ok_X12_livesIn : okN yX12_livesIn 3 := ⟨by decide +kernel, by decide +kernel, by decide +kernel⟩
theorem ok_X12_isDown : okN yX12_isDown 2 := ⟨by decide +kernel, by decide +kernel, by decide +kernel⟩
theorem ok_X12_yieldOf : okN yX12_yieldOf 2 := ⟨by decide +kernel, by decide +kernel, by decide +kernel⟩
theorem ok_X12_deal : okN yX12_deal 1 := ⟨by decide +kernel, by decide +kernel, by decide +kernel⟩
theorem ok_X12_flow : okN yX12_flow 2 := ⟨by decide +kernel, by decide +kernel, by decide +kernel⟩
theorem ok_X12_flowAt : okN yX12_flowAt 3 := ⟨by decide +kernel, by decide +kernel, by decide +kernel⟩
theorem ok_X12_lives : okN yX12_lives 3 := ⟨by decide +kernel, by decide +kernel, by decide +kernel⟩
theorem ok_X12_gets : okN yX12_gets 3 := ⟨by decide +kernel, by decide +kernel, by decide +kernel⟩
theorem ok_X12_at : okN yX12_at 4 := ⟨by decide +kernel, by decide +kernel, by decide +kernel⟩
theorem ok_X12_isDry : okN yX12_isDry 2 := ⟨by decide +kernel, by decide +kernel, by decide +kernel⟩
theorem ok_X12_dry : okN yX12_dry 3 := ⟨by decide +kernel, by decide +kernel, by decide +kernel⟩
theorem ok_X12_found : okN yX12_found 2 := ⟨by decide +kernel, by decide +kernel, by decide +kernel⟩
theorem ok_X12_best : okN yX12_best 4 := ⟨by decide +kernel, by decide +kernel, by decide +kernel⟩
theorem ok_X12_rent : okN yX12_rent 2 := ⟨by decide +kernel, by decide +kernel, by decide +kernel⟩
theorem ok_X12_fines : okN yX12_fines 1 := ⟨by decide +kernel, by decide +kernel, by decide +kernel⟩
theorem ok_X12_count : okN yX12_count 1 := ⟨by decide +kernel, by decide +kernel, by decide +kernel⟩
theorem ok_X12_status : okN yX12_status 0 := ⟨by decide +kernel, by decide +kernel, by decide +kernel⟩
theorem ok_J9_max_7cf53 : okN yJ9_max_7cf53 2 := ⟨by decide +kernel, by decide +kernel, by decide +kernel⟩
theorem ok_J9_min_7cf53 : okN yJ9_min_7cf53 2 := ⟨by decide +kernel, by decide +kernel, by decide +kernel⟩
theorem ok_J0_length_8abf5 : okN yJ0_length_8abf5 0 := ⟨by decide +kernel, by decide +kernel, by decide +kernel⟩
theorem ok_J0_charAt_5068e : okN yJ0_charAt_5068e 1 := ⟨by decide +kernel, by decide +kernel, by decide +kernel⟩
theorem ok_J0_coder_7d493 : okN yJ0_coder_7d493 0 := ⟨by decide +kernel, by decide +kernel, by decide +kernel⟩
theorem ok_J0_isLatin1_aae02 : okN yJ0_isLatin1_aae02 0 := ⟨by decide +kernel, by decide +kernel, by decide +kernel⟩
theorem ok_J0_checkIndex_df160 : okN yJ0_checkIndex_df160 2 := ⟨by decide +kernel, by decide +kernel, by decide +kernel⟩
theorem ok_J1_charAt_3b067 : okN yJ1_charAt_3b067 2 := ⟨by decide +kernel, by decide +kernel, by decide +kernel⟩
theorem ok_J2_getChar_3b067 : okN yJ2_getChar_3b067 2 := ⟨by decide +kernel, by decide +kernel, by decide +kernel⟩
theorem ok_J2_length_9d52b : okN yJ2_length_9d52b 1 := ⟨by decide +kernel, by decide +kernel, by decide +kernel⟩
theorem ok_J2_charAt_3b067 : okN yJ2_charAt_3b067 2 := ⟨by decide +kernel, by decide +kernel, by decide +kernel⟩
theorem ok_J2_checkIndex_2214a : okN yJ2_checkIndex_2214a 2 := ⟨by decide +kernel, by decide +kernel, by decide +kernel⟩
theorem ok_J3_checkIndex_8e157 : okN yJ3_checkIndex_8e157 3 := ⟨by decide +kernel, by decide +kernel, by decide +kernel⟩
theorem ok_L_law : okN yL_law 1 := ⟨by decide +kernel, by decide +kernel, by decide +kernel⟩
section CW
variable {p : Program} {l : Launch} {e : Env} {R : Room} {s : State} {m : MethodId} {args : Array Value} {below : List Frame} {meth : Method} {c : Code} {H : Heap} {locs : List Loc} {cells slots : Nat} {Q : State → Prop}
variable {cc bytes : ByteArray} {pc maxL index fr lo : Nat} {ls : Array Slot} {rest st0 As : List Value} {D : va_G} {A : Nat → Prop} {b : Nat} {own : String} {nL : Nat} {cy : Nat → ClassId} {wf : St → va_W} {σ : St} {y : MethodName} {ret : Option FieldType}
theorem q_runV {Qc : Array Value → State → Outcome → State → Prop} (E : EV p s m c args cc own nL D cy) (h : HW D A s (wf σ) H locs) (hM : Met l y (WS y bytes maxL ret) (rmOf fr lo) (va_Pc (.ref b :: As) (PP D cy wf A σ)) Qc 0 0 A) (co : Cond.code y bytes maxL ret ∈ TB) (ml : Cond.methodLink own index y ∈ TB) (im : Cond.instanceMethod y ∈ TB) (se : Cond.selects y.cls y y ∈ TB) (ini : Cond.initialized y.cls ∈ TB) {q0 ci N : Nat} {fs : List Value} {T : u_T} (he : (wf σ)[q0]? = some (b, .inr (ci, fs))) (hc : vwCl[ci]? = some (y.cls, T, N)) {k : Nat} (hn : okN y k) (hlen : As.length = k)
    (hR : fr + 1 ≤ R.frames ∧ 8 + (maxL + 11) + lo ≤ R.locals) (hsz : ls.size = nL) (hst : st0 = As.reverse ++ .ref b :: rest) (hroom : (rest.map fun v => v.category).sum ≤ 8) (hdg : decode cc pc = .ok (.invokevirtual index, 3)) (hcs : cells ≤ R.cells ∧ slots ≤ R.slots) :
    va_Run p l e R s m args below meth c H locs cells slots 0 0 (F0 m pc ls st0) rest (Qc (Value.ref b :: As).toArray) A :=
  va_runV (As := As) (rest := rest) ⟨E.1, E.2.1, E.2.2.1, E.2.2.2.1, E.2.2.2.2.1⟩ hM (cwV k E.2.2.2.2.1 (wsv_good co ml im se ini) rfl rfl rfl ⟨rfl, hn⟩ hR) ⟨pp_blind D cy wf A _ σ, va_recv E.2.2.2.2.2.1 h.1 hc he, fun U hU hW => ⟨rfl, by rw [hU]; exact h.1, h.2.1, E.2.2.2.2.2.warm hW⟩⟩ rfl hlen hsz hst (lv_room hroom) hdg hcs
theorem q_runS {Qc : Array Value → State → Outcome → State → Prop} (E : EV p s m c args cc own nL D cy) (h : HW D A s (wf σ) H locs) (hM : Met l y (WS y bytes maxL ret) (rmOf fr lo) (va_Pc As (PP D cy wf A σ)) Qc 0 0 A) (co : Cond.code y bytes maxL ret ∈ TB) (ml : Cond.methodLink own index y ∈ TB) (stt : Cond.static y ∈ TB) (ini : Cond.initialized own ∈ TB) (hy : y.cls = own) {k : Nat} (hn : okN y k) (hlen : As.length = k)
    (hR : fr + 1 ≤ R.frames ∧ 8 + (maxL + 11) + lo ≤ R.locals) (hsz : ls.size = nL) (hst : st0 = As.reverse ++ rest) (hroom : (rest.map fun v => v.category).sum ≤ 8) (hdg : decode cc pc = .ok (.invokestatic index, 3)) (hcs : cells ≤ R.cells ∧ slots ≤ R.slots) :
    va_Run p l e R s m args below meth c H locs cells slots 0 0 (F0 m pc ls st0) rest (Qc As.toArray) A :=
  va_runS (As := As) (rest := rest) ⟨E.1, E.2.1, E.2.2.1, E.2.2.2.1, E.2.2.2.2.1⟩ hM (cwS k E.2.2.2.2.1 (wss_good co ml stt ini) rfl rfl rfl ⟨hy, hn⟩ hR) ⟨pp_blind D cy wf A _ σ, fun U hU hW => ⟨rfl, by rw [hU]; exact h.1, h.2.1, E.2.2.2.2.2.warm hW⟩⟩ rfl hlen hsz hst (lv_room hroom) hdg hcs
theorem q_runSN {Qc : Array Value → State → Outcome → State → Prop} {host : String} (E : EV p s m c args cc own nL D cy) (h : HW D A s (wf σ) H locs) (hM : Met l y (WS y bytes maxL ret) (rmOf fr lo) (va_Pc As (PP D cy wf A σ)) Qc 0 0 A) (co : Cond.code y bytes maxL ret ∈ TB) (ml : Cond.methodLinkNest own index y host ∈ NL) (stt : Cond.static y ∈ TB) (ini : Cond.initialized y.cls ∈ TB) {k : Nat} (hn : okN y k) (hlen : As.length = k)
    (hR : fr + 1 ≤ R.frames ∧ 8 + (maxL + 11) + lo ≤ R.locals) (hsz : ls.size = nL) (hst : st0 = As.reverse ++ rest) (hroom : (rest.map fun v => v.category).sum ≤ 8) (hdg : decode cc pc = .ok (.invokestatic index, 3)) (hcs : cells ≤ R.cells ∧ slots ≤ R.slots) :
    va_Run p l e R s m args below meth c H locs cells slots 0 0 (F0 m pc ls st0) rest (Qc As.toArray) A :=
  va_runSN (As := As) (rest := rest) ⟨E.1, E.2.1, E.2.2.1, E.2.2.2.1, E.2.2.2.2.1⟩ hM ⟨va_cnB k E.2.2.2.2.1 (tb_good co) rfl rfl rfl (E.2.2.2.2.2.2 _ ml) (E.2.2.2.2.1 _ ini) hn hR, E.2.2.2.2.1 _ stt, trivial⟩ ⟨pp_blind D cy wf A _ σ, fun U hU hW => ⟨rfl, by rw [hU]; exact h.1, h.2.1, E.2.2.2.2.2.warm hW⟩⟩ rfl hlen hsz hst (lv_room hroom) hdg hcs
theorem k_i {post : Int32 → St → Prop} {a : Array Value} (h : HW D A s (wf σ) H locs) (hr : va_Run p l e R s m args below meth c H locs cells slots 0 0 (F0 m pc ls st0) rest (va_Qi post (fun u t => va_P D vwCl (wf u) t.heap) A a) A) (hw : ∀ σ σ' : St, (wf σ').map (fun q => q.1) = (wf σ).map (fun q => q.1))
    (kk : ∀ (r : Int32) (σ' : St) (H1 : Heap) (locs1 : List Loc), post r σ' → HW D A s (wf σ') H1 locs1 → W p l e R s m args below meth c H1 locs1 cells slots Q (F0 m (pc + 3) ls (.int r :: rest))) : W p l e R s m args below meth c H locs cells slots Q (F0 m pc ls st0) :=
  va_calli hr h.2.2 (fun _ _ h => h) (fun _ h => h) (fun r u t H1 locs1 ht _ hp hB _ _ hS => kk r u H1 locs1 hp ⟨ht ▸ hB, va_D_fst (hw σ u) h.2.1, hS⟩)
theorem k_l {post : Int64 → St → Prop} {a : Array Value} (h : HW D A s (wf σ) H locs) (hr : va_Run p l e R s m args below meth c H locs cells slots 0 0 (F0 m pc ls st0) rest (va_Ql post (fun u t => va_P D vwCl (wf u) t.heap) A a) A) (hw : ∀ σ σ' : St, (wf σ').map (fun q => q.1) = (wf σ).map (fun q => q.1))
    (kk : ∀ (r : Int64) (σ' : St) (H1 : Heap) (locs1 : List Loc), post r σ' → HW D A s (wf σ') H1 locs1 → W p l e R s m args below meth c H1 locs1 cells slots Q (F0 m (pc + 3) ls (.long r :: rest))) : W p l e R s m args below meth c H locs cells slots Q (F0 m pc ls st0) :=
  va_calll hr h.2.2 (fun _ _ h => h) (fun _ h => h) (fun r u t H1 locs1 ht _ hp hB _ _ hS => kk r u H1 locs1 hp ⟨ht ▸ hB, va_D_fst (hw σ u) h.2.1, hS⟩)
theorem k_v {post : St → Prop} {a : Array Value} (h : HW D A s (wf σ) H locs) (hr : va_Run p l e R s m args below meth c H locs cells slots 0 0 (F0 m pc ls st0) rest (va_Qv post (fun u t => va_P D vwCl (wf u) t.heap) A a) A) (hw : ∀ σ σ' : St, (wf σ').map (fun q => q.1) = (wf σ).map (fun q => q.1))
    (kk : ∀ (σ' : St) (H1 : Heap) (locs1 : List Loc), post σ' → HW D A s (wf σ') H1 locs1 → W p l e R s m args below meth c H1 locs1 cells slots Q (F0 m (pc + 3) ls rest)) : W p l e R s m args below meth c H locs cells slots Q (F0 m pc ls st0) :=
  va_callv hr h.2.2 (fun _ _ h => h) (fun _ h => h) (fun u t H1 locs1 ht _ hp hB _ _ hS => kk u H1 locs1 hp ⟨ht ▸ hB, va_D_fst (hw σ u) h.2.1, hS⟩)
/-- the ends -/
theorem t_i {post : Int32 → St → Prop} {v : Int32} (E : EV p s m c args cc own nL D cy) (h : HW D A s (wf σ) H locs) (hr : meth.sig.returnType = some .int) (hk : meth.locks = false) (hp : post v σ) (hdg : decode cc pc = .ok (.ireturn, 1)) : W p l e R s m args below meth c H locs 0 0 (MQ below (va_Qi post (fun u t => va_P D vwCl (wf u) t.heap) A) args s 0 0 A) (F0 m pc ls [.int v]) :=
  W.iret (v := v) E.1 E.2.1 hr (fun t ht _ => ⟨⟨v, σ, rfl, hp, by show va_P D vwCl (wf σ) t.heap; rw [ht]; exact h.1⟩, h.2.2.F ht⟩) h.2.2.2.2 hdg hk
theorem t_z {post : Int32 → St → Prop} {v : Int32} (E : EV p s m c args cc own nL D cy) (h : HW D A s (wf σ) H locs) (hr : meth.sig.returnType = some .boolean) (hk : meth.locks = false) (hv : v = 0 ∨ v = 1) (hp : post v σ) (hdg : decode cc pc = .ok (.ireturn, 1)) : W p l e R s m args below meth c H locs 0 0 (MQ below (va_Qi post (fun u t => va_P D vwCl (wf u) t.heap) A) args s 0 0 A) (F0 m pc ls [.int v]) :=
  W.zret (v := v) E.1 E.2.1 hr (by rcases hv with e | e <;> rw [e] <;> decide +kernel) (fun t ht _ => ⟨⟨v, σ, rfl, hp, by show va_P D vwCl (wf σ) t.heap; rw [ht]; exact h.1⟩, h.2.2.F ht⟩) h.2.2.2.2 hdg hk
theorem t_l {post : Int64 → St → Prop} {v : Int64} (E : EV p s m c args cc own nL D cy) (h : HW D A s (wf σ) H locs) (hr : meth.sig.returnType = some .long) (hk : meth.locks = false) (hp : post v σ) (hdg : decode cc pc = .ok (.lreturn, 1)) : W p l e R s m args below meth c H locs 0 0 (MQ below (va_Ql post (fun u t => va_P D vwCl (wf u) t.heap) A) args s 0 0 A) (F0 m pc ls [.long v]) :=
  W.lret (v := v) E.1 E.2.1 hr (fun t ht _ => ⟨⟨v, σ, rfl, hp, by show va_P D vwCl (wf σ) t.heap; rw [ht]; exact h.1⟩, h.2.2.F ht⟩) h.2.2.2.2 hdg hk
theorem t_v {post : St → Prop} (E : EV p s m c args cc own nL D cy) (h : HW D A s (wf σ) H locs) (hr : meth.sig.returnType = none) (hk : meth.locks = false) (hp : post σ) (hdg : decode cc pc = .ok (.return_, 1)) : W p l e R s m args below meth c H locs 0 0 (MQ below (va_Qv post (fun u t => va_P D vwCl (wf u) t.heap) A) args s 0 0 A) (F0 m pc ls []) :=
  W.vret E.1 E.2.1 hr (fun t ht _ => ⟨⟨σ, rfl, hp, by show va_P D vwCl (wf σ) t.heap; rw [ht]; exact h.1⟩, h.2.2.F ht⟩) h.2.2.2.2 hdg hk
end CW
/-- a contract out of a walk of its body -/
theorem c_of {l : Launch} {y : MethodName} {cc : ByteArray} {n : Nat} {r : Option FieldType} {rm : Room} {D : va_G} {cy : Nat → ClassId} {wf : St → va_W} {A : Nat → Prop} {av : List Value} {σ : St} {Qc : Array Value → State → Outcome → State → Prop} {lv : List (Nat × Value)} (hy : plainName y.cls = true) (hlen : (lg_sl av).length ≤ n) (hlv : lv_args 0 av = lv)
    (body : ∀ (p : Program) (e : Env) (s : State) (m : MethodId) (args : Array Value) (below : List Frame) (meth : Method) (c : Code) (ls : Array Slot), EV p s m c args cc y.cls n D cy → HW D A s (wf σ) s.heap [] → meth.sig.returnType = r → meth.locks = false → lv_has ls n lv → W p l e rm s m args below meth c s.heap [] 0 0 (MQ below Qc args s 0 0 A) (F0 m 0 ls [])) :
    Met l y (WS y cc n r) rm (va_Pc av (PP D cy wf A σ)) Qc 0 0 A := by
  refine Met.ofW (cc := cc) (maxL := n) (ret := r) hy rfl ?_
  intro p e s m args below meth c s₁ B hml hv
  obtain ⟨rfl, hP, hD, hK⟩ := hv
  have hts := atoms_spec (ws := WS y cc n r) B.pre
  have hl := lv_entry av (n := n) hlen
  rw [lg_entry_eq]
  generalize (lg_sl av ++ List.replicate (n - (lg_sl av).length) Slot.unset).toArray = ls at hl ⊢
  rw [hlv] at hl
  exact body p e s m av.toArray below meth c ls ⟨B.exec, B.bytes, hml, findClass_of_methodNamed B.named, fun w hw => hts w (List.mem_cons_of_mem _ hw), hK⟩ ⟨hP, hD, va_S.rf⟩ B.returns B.notSynchronized hl
