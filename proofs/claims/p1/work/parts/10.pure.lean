/-- one byte taken into a SUM, as the class does -/
def pu_add (s : Int64) (b : Int32) : Int64 := ((s ^^^ (b &&& 255).toInt64) <<< ((21 : Int32).toInt64 &&& 63) ||| ((s ^^^ (b &&& 255).toInt64).toUInt64 >>> ((43 : Int32).toInt64.toUInt64 &&& Int64.toUInt64 63)).toInt64) * (-4417276706812531889)
/-- as the reference does -/
def pu_more (s : Int64) (b : Int32) : Int64 := ((s ^^^ b.toInt64) <<< ((21 : Int32).toInt64 &&& 63) ||| ((s ^^^ b.toInt64).toUInt64 >>> ((43 : Int32).toInt64.toUInt64 &&& Int64.toUInt64 63)).toInt64) * (-4417276706812531889)
def pu_start (b : Int32) : Int64 := 1000003 * b.toInt64
def pu_sumN (f : Nat → Int32) (fr : Nat) (s : Int64) : Nat → Int64 := fun k => Nat.rec s (fun k r => pu_add r (f (fr + k))) k
set_option maxHeartbeats 4000000 in
set_option maxRecDepth 100000 in
theorem k_X0_start (l : Launch) (b0 : Int32) : Met l yX0_start wsX0_start ({ frames := 0, cells := 0, slots := 0, locals := 0 }) (va_Pc [.int b0] (fun _ => True)) (vp_Sl (fun r => r = pu_start b0)) 0 0 (fun _ => False) := by
  refine Met.ofW (cc := cX0_start) (maxL := 1) (ret := (some .long)) (by decide) rfl ?_
  intro p e s m args below meth c s₁ B hml hv
  obtain ⟨rfl, -⟩ := hv
  have hx := B.exec
  have hb := B.bytes
  have hr := B.returns
  have hts := atoms_spec (ws := wsX0_start) B.pre
  have hown : s.vm.findClass RX0 = some m.cls := findClass_of_methodNamed B.named
  have hlocks := B.notSynchronized
  have hl := lv_entry ([.int b0]) (n := 1) (Nat.le_of_ble_eq_true rfl)
  rw [lg_entry_eq]
  generalize (lg_sl ([.int b0]) ++ List.replicate (1 - (lg_sl ([.int b0])).length) Slot.unset).toArray = ls at hl ⊢
  have hl : lv_has ls 1 [(0, .int b0)] := hl
  refine lv_ldc2 hx hb hown (hts (.constantLong RX0 9 (1000003)) (by decide +kernel)) dX0_start_0 ?_
  refine lv_iload_n hx hb dX0_start_3 rfl (lv_at hl 0 rfl) ?_
  refine lv_i2l hx hb dX0_start_4 rfl ?_
  refine lv_lmul hx hb dX0_start_5 ?_
  exact W.lret hx hb hr (fun t ht hW => ⟨_, rfl, rfl, ht⟩) (fun q h => by cases h) dX0_start_6
set_option maxHeartbeats 4000000 in
set_option maxRecDepth 100000 in
theorem k_X0_add (l : Launch) (s0 : Int64) (b0 : Int32) : Met l yX0_add wsX0_add ({ frames := 0, cells := 0, slots := 0, locals := 0 }) (va_Pc [.long s0, .int b0] (fun _ => True)) (vp_Sl (fun r => r = pu_add s0 b0)) 0 0 (fun _ => False) := by
  refine Met.ofW (cc := cX0_add) (maxL := 5) (ret := (some .long)) (by decide) rfl ?_
  intro p e s m args below meth c s₁ B hml hv
  obtain ⟨rfl, -⟩ := hv
  have hx := B.exec
  have hb := B.bytes
  have hr := B.returns
  have hts := atoms_spec (ws := wsX0_add) B.pre
  have hown : s.vm.findClass RX0 = some m.cls := findClass_of_methodNamed B.named
  have hlocks := B.notSynchronized
  have hl := lv_entry ([.long s0, .int b0]) (n := 5) (Nat.le_of_ble_eq_true rfl)
  rw [lg_entry_eq]
  generalize (lg_sl ([.long s0, .int b0]) ++ List.replicate (5 - (lg_sl ([.long s0, .int b0])).length) Slot.unset).toArray = ls at hl ⊢
  have hl : lv_has ls 5 [(0, .long s0), (2, .int b0)] := hl
  refine lv_lload_n hx hb dX0_add_0 rfl (lv_at hl 0 rfl) ?_
  refine lv_iload_n hx hb dX0_add_1 rfl (lv_at hl 1 rfl) ?_
  refine lv_sipush (v := 255) hx hb dX0_add_2 (by decide) ?_
  refine lv_iand hx hb dX0_add_5 ?_
  refine lv_i2l hx hb dX0_add_6 rfl ?_
  refine lv_lxor hx hb dX0_add_7 ?_
  refine lv_lstore_n (lv' := [(3, .long (s0 ^^^ ((b0 &&& (255 : Int32)).toInt64))), (0, .long s0), (2, .int b0)]) hx hb dX0_add_8 rfl hl (by decide) rfl (fun ls hl => ?_)
  refine lv_lload_n hx hb dX0_add_9 rfl (lv_at hl 0 rfl) ?_
  refine lv_bipush (v := 21) hx hb dX0_add_10 (by decide) ?_
  refine lv_lshl hx hb dX0_add_12 rfl ?_
  refine lv_lload_n hx hb dX0_add_13 rfl (lv_at hl 0 rfl) ?_
  refine lv_bipush (v := 43) hx hb dX0_add_14 (by decide) ?_
  refine lv_lushr hx hb dX0_add_16 rfl ?_
  refine lv_lor hx hb dX0_add_17 ?_
  refine lv_ldc2 hx hb hown (hts (.constantLong RX0 13 (-4417276706812531889)) (by decide +kernel)) dX0_add_18 ?_
  refine lv_lmul hx hb dX0_add_21 ?_
  exact W.lret hx hb hr (fun t ht hW => ⟨_, rfl, rfl, ht⟩) (fun q h => by cases h) dX0_add_22
set_option maxHeartbeats 4000000 in
set_option maxRecDepth 100000 in
theorem k_X9_more (l : Launch) (s0 : Int64) (b0 : Int32) : Met l yX9_more wsX9_more ({ frames := 0, cells := 0, slots := 0, locals := 0 }) (va_Pc [.long s0, .int b0] (fun _ => True)) (vp_Sl (fun r => r = pu_more s0 b0)) 0 0 (fun _ => False) := by
  refine Met.ofW (cc := cX9_more) (maxL := 5) (ret := (some .long)) (by decide) rfl ?_
  intro p e s m args below meth c s₁ B hml hv
  obtain ⟨rfl, -⟩ := hv
  have hx := B.exec
  have hb := B.bytes
  have hr := B.returns
  have hts := atoms_spec (ws := wsX9_more) B.pre
  have hown : s.vm.findClass RX9 = some m.cls := findClass_of_methodNamed B.named
  have hlocks := B.notSynchronized
  have hl := lv_entry ([.long s0, .int b0]) (n := 5) (Nat.le_of_ble_eq_true rfl)
  rw [lg_entry_eq]
  generalize (lg_sl ([.long s0, .int b0]) ++ List.replicate (5 - (lg_sl ([.long s0, .int b0])).length) Slot.unset).toArray = ls at hl ⊢
  have hl : lv_has ls 5 [(0, .long s0), (2, .int b0)] := hl
  refine lv_lload_n hx hb dX9_more_0 rfl (lv_at hl 0 rfl) ?_
  refine lv_iload_n hx hb dX9_more_1 rfl (lv_at hl 1 rfl) ?_
  refine lv_i2l hx hb dX9_more_2 rfl ?_
  refine lv_lxor hx hb dX9_more_3 ?_
  refine lv_lstore_n (lv' := [(3, .long (s0 ^^^ b0.toInt64)), (0, .long s0), (2, .int b0)]) hx hb dX9_more_4 rfl hl (by decide) rfl (fun ls hl => ?_)
  refine lv_lload_n hx hb dX9_more_5 rfl (lv_at hl 0 rfl) ?_
  refine lv_bipush (v := 21) hx hb dX9_more_6 (by decide) ?_
  refine lv_lshl hx hb dX9_more_8 rfl ?_
  refine lv_lload_n hx hb dX9_more_9 rfl (lv_at hl 0 rfl) ?_
  refine lv_bipush (v := 43) hx hb dX9_more_10 (by decide) ?_
  refine lv_lushr hx hb dX9_more_12 rfl ?_
  refine lv_lor hx hb dX9_more_13 ?_
  refine lv_ldc2 hx hb hown (hts (.constantLong RX9 100 (-4417276706812531889)) (by decide +kernel)) dX9_more_14 ?_
  refine lv_lmul hx hb dX9_more_17 ?_
  exact W.lret hx hb hr (fun t ht hW => ⟨_, rfl, rfl, ht⟩) (fun q h => by cases h) dX9_more_18
