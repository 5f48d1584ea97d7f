section MN
variable {p : Program} {l : Launch} {e : Env} {R : Room} {s : State} {m : MethodId} {args : Array Value} {below : List Frame} {meth : Method} {c : Code} {H : Heap} {locs : List Loc} {cells slots : Nat} {Q : State → Prop}
variable {cc : ByteArray} {pc index : Nat} {ls : Array Slot} {rest : List Value} {D : va_G} {A : Nat → Prop} {own : String} {nL : Nat} {cy : Nat → ClassId} {ws : va_W}
theorem inner12 (c : ClassId) : Jvm.Free.Multi.innerC c 12 (defaultValue .int) = vp_cell c (12, .inl (fun _ => 0)) := by
  rw [vp_cell_i]
  exact arrV_new c 12 (.int 0)
theorem rows7 (r : Nat → Nat) (f : Nat → va_E) (v : va_E) : va_pl ([] ++ (List.range 7).map r) (vr_up f ((List.range 7).map r) v) = [(r 0, v), (r 1, v), (r 2, v), (r 3, v), (r 4, v), (r 5, v), (r 6, v)] := by
  simp [va_pl, vr_up, List.range, List.range.loop]
theorem r_mna (E : EV p s m c args cc own nL D cy) (h : HW D A s ws H locs) (hA : ∀ q, s.heap.size ≤ q → A q) (hz : va_AOA .int s) (cl : Cond.classLink own index "[[I" ∈ TB) (ac : Cond.arrayClass .int ∈ TB) (hcells : cells + (1 + 7) ≤ R.cells) (hslots : slots + (7 + 7 * 12) ≤ R.slots) (hdg : decode cc pc = .ok (.multianewarray index 2, 4))
    (kk : ∀ (q : Nat) (r : Nat → Nat) (H1 : Heap), HW D A s ((ws ++ [(q, .inl (cy 3, 7, .inr (.inr (.inr (.inr (fun i => if i < 7 then some (r i) else none))))))]) ++ [(r 0, .inl (cy 1, 12, .inl (fun _ => 0))), (r 1, .inl (cy 1, 12, .inl (fun _ => 0))), (r 2, .inl (cy 1, 12, .inl (fun _ => 0))), (r 3, .inl (cy 1, 12, .inl (fun _ => 0))), (r 4, .inl (cy 1, 12, .inl (fun _ => 0))), (r 5, .inl (cy 1, 12, .inl (fun _ => 0))), (r 6, .inl (cy 1, 12, .inl (fun _ => 0)))]) H1 locs →
      W p l e R s m args below meth c H1 locs (cells + 1 + 7) (slots + 7 + 7 * 12) Q (F0 m (pc + 4) ls (.ref q :: rest))) : W p l e R s m args below meth c H locs cells slots Q (F0 m pc ls (.int 12 :: .int 7 :: rest)) := by
  have hcy : s.vm.findClass (FieldType.array .int).toString = some (cy 1) := (E.2.2.2.2.2.1.2 1 (cy 1, .int) rfl).2
  refine va_mna (X := ws) (L := []) (f := fun _ => .inr (0, [])) (ty := .int) (cy := cy 1) (N' := 7) (K' := 12) (z := (12, .inl (fun _ => 0))) E.1 E.2.1 E.2.2.2.1 (E.2.2.2.2.1 _ cl) hz (E.2.2.2.2.1 _ ac) hcy E.2.2.2.2.2.1 (by rw [show ws ++ va_pl [] (fun _ => Sum.inr (0, [])) = ws from List.append_nil ws]; exact h.1) (by rw [show ws ++ va_pl [] (fun _ => Sum.inr (0, [])) = ws from List.append_nil ws]; exact h.2.1) h.2.2 hA (by decide) (by decide) (by decide) (by decide) (by decide) (by decide) (by decide) rfl rfl hcells hslots inner12 hdg (fun q r cA H1 _ _ hK2 hP hD hS => ?_)
  have hc : cA = cy 3 := by
    have h1 := (hK2.2 4 (cA, .array .int) rfl).2
    have h2 := (E.2.2.2.2.2.1.2 3 (cy 3, .array .int) rfl).2
    exact Option.some.inj (Eq.trans (Eq.symm h1) h2)
  subst hc
  rw [rows7] at hP hD
  exact kk q r H1 ⟨hP, hD, hS⟩
end MN
