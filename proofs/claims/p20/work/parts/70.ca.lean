set_option maxHeartbeats 4000000 in
set_option maxRecDepth 100000 in
theorem v_X0_start (l : Launch) (dC : Nat → ClassId) (dI : Nat → Nat → Nat) (p0 : Int32)  : Met l yX0_start wsX0_start ({ frames := 0, cells := 0, slots := 0, locals := 0 }) (va_Pc [.int p0] (fun U => True)) (vp_Sl (fun r => True)) 0 0 (fun _ => False) := by
  refine Met.ofW (cc := cX0_start) (maxL := 1) (ret := (some .long)) (by decide) rfl ?_
  intro p e s m args below meth cM s₁ B hml hv
  obtain ⟨rfl, -⟩ := hv
  have hx := B.exec
  have hb := B.bytes
  have hr := B.returns
  have hts := atoms_spec (ws := wsX0_start) B.pre
  have hown : s.vm.findClass RX0 = some m.cls := findClass_of_methodNamed B.named
  have hl := lv_entry ([.int p0]) (n := 1) (Nat.le_of_ble_eq_true rfl)
  rw [lg_entry_eq]
  generalize (lg_sl ([.int p0]) ++ List.replicate (1 - (lg_sl ([.int p0])).length) Slot.unset).toArray = ls at hl ⊢
  have hl : lv_has ls 1 [(0, .int p0)] := hl
  refine lv_ldc2 hx hb hown (hts (.constantLong RX0 9 (1000003)) (by decide +kernel)) dX0_start_0 ?_
  refine lv_iload_n hx hb dX0_start_3 rfl (lv_at hl 0 rfl) ?_
  refine lv_i2l hx hb dX0_start_4 rfl ?_
  refine lv_topl (fun w_1 ew_1 => ?_)
  clear ew_1
  refine lv_lmul hx hb dX0_start_5 ?_
  refine lv_topl (fun w_2 ew_2 => ?_)
  clear ew_2
  exact W.lret hx hb hr (fun t ht hW => ⟨_, rfl, trivial, ht⟩) (fun q h => by cases h) dX0_start_6

set_option maxHeartbeats 4000000 in
set_option maxRecDepth 100000 in
theorem v_X0_add (l : Launch) (dC : Nat → ClassId) (dI : Nat → Nat → Nat) (p0 : Int64) (p1 : Int32)  : Met l yX0_add wsX0_add ({ frames := 0, cells := 0, slots := 0, locals := 0 }) (va_Pc [.long p0, .int p1] (fun U => True)) (vp_Sl (fun r => True)) 0 0 (fun _ => False) := by
  refine Met.ofW (cc := cX0_add) (maxL := 5) (ret := (some .long)) (by decide) rfl ?_
  intro p e s m args below meth cM s₁ B hml hv
  obtain ⟨rfl, -⟩ := hv
  have hx := B.exec
  have hb := B.bytes
  have hr := B.returns
  have hts := atoms_spec (ws := wsX0_add) B.pre
  have hown : s.vm.findClass RX0 = some m.cls := findClass_of_methodNamed B.named
  have hl := lv_entry ([.long p0, .int p1]) (n := 5) (Nat.le_of_ble_eq_true rfl)
  rw [lg_entry_eq]
  generalize (lg_sl ([.long p0, .int p1]) ++ List.replicate (5 - (lg_sl ([.long p0, .int p1])).length) Slot.unset).toArray = ls at hl ⊢
  have hl : lv_has ls 5 [(0, .long p0), (2, .int p1)] := hl
  have z_21 : (21 : Int32).toInt = 21 := by decide
  have z_43 : (43 : Int32).toInt = 43 := by decide
  have z_255 : (255 : Int32).toInt = 255 := by decide
  refine lv_lload_n hx hb dX0_add_0 rfl (lv_at hl 0 rfl) ?_
  refine lv_iload_n hx hb dX0_add_1 rfl (lv_at hl 1 rfl) ?_
  refine lv_sipush (v := 255) hx hb dX0_add_2 (by decide) ?_
  refine lv_iand hx hb dX0_add_5 ?_
  refine lv_topi (fun v_1 ev_1 => ?_)
  have hv_1 : 0 ≤ v_1.toInt ∧ v_1.toInt ≤ 255 := by rw [ev_1]; exact iv_and255 _
  clear ev_1
  refine lv_i2l hx hb dX0_add_6 rfl ?_
  refine lv_topl (fun w_2 ew_2 => ?_)
  clear ew_2
  refine lv_lxor hx hb dX0_add_7 ?_
  refine lv_topl (fun w_3 ew_3 => ?_)
  clear ew_3
  refine lv_lstore_n (lv' := [(3, .long w_3), (0, .long p0), (2, .int p1)]) hx hb dX0_add_8 rfl hl (by decide) rfl (fun ls hl => ?_)
  refine lv_lload_n hx hb dX0_add_9 rfl (lv_at hl 0 rfl) ?_
  refine lv_bipush (v := 21) hx hb dX0_add_10 (by decide) ?_
  refine lv_lshl hx hb dX0_add_12 rfl ?_
  refine lv_topl (fun w_4 ew_4 => ?_)
  clear ew_4
  refine lv_lload_n hx hb dX0_add_13 rfl (lv_at hl 0 rfl) ?_
  refine lv_bipush (v := 43) hx hb dX0_add_14 (by decide) ?_
  refine lv_lushr hx hb dX0_add_16 rfl ?_
  refine lv_topl (fun w_5 ew_5 => ?_)
  clear ew_5
  refine lv_lor hx hb dX0_add_17 ?_
  refine lv_topl (fun w_6 ew_6 => ?_)
  clear ew_6
  refine lv_ldc2 hx hb hown (hts (.constantLong RX0 13 (-4417276706812531889)) (by decide +kernel)) dX0_add_18 ?_
  refine lv_lmul hx hb dX0_add_21 ?_
  refine lv_topl (fun w_7 ew_7 => ?_)
  clear ew_7
  exact W.lret hx hb hr (fun t ht hW => ⟨_, rfl, trivial, ht⟩) (fun q h => by cases h) dX0_add_22

set_option maxHeartbeats 4000000 in
set_option maxRecDepth 100000 in
theorem v_X0_addInt (l : Launch) (dC : Nat → ClassId) (dI : Nat → Nat → Nat) (p0 : Int64) (p1 : Int32)  : Met l yX0_addInt wsX0_addInt ({ frames := 1, cells := 0, slots := 0, locals := 24 }) (va_Pc [.long p0, .int p1] (fun U => True)) (vp_Sl (fun r => True)) 0 0 (fun _ => False) := by
  refine Met.ofW (cc := cX0_addInt) (maxL := 6) (ret := (some .long)) (by decide) rfl ?_
  intro p e s m args below meth cM s₁ B hml hv
  obtain ⟨rfl, -⟩ := hv
  have hx := B.exec
  have hb := B.bytes
  have hr := B.returns
  have hts := atoms_spec (ws := wsX0_addInt) B.pre
  have hown : s.vm.findClass RX0 = some m.cls := findClass_of_methodNamed B.named
  have hl := lv_entry ([.long p0, .int p1]) (n := 6) (Nat.le_of_ble_eq_true rfl)
  rw [lg_entry_eq]
  generalize (lg_sl ([.long p0, .int p1]) ++ List.replicate (6 - (lg_sl ([.long p0, .int p1])).length) Slot.unset).toArray = ls at hl ⊢
  have hl : lv_has ls 6 [(0, .long p0), (2, .int p1)] := hl
  have z_m8 : (-8 : Int32).toInt = -8 := by decide
  have z_0 : (0 : Int32).toInt = 0 := by decide
  have z_24 : (24 : Int32).toInt = 24 := by decide
  refine lv_lload_n hx hb dX0_addInt_0 rfl (lv_at hl 0 rfl) ?_
  refine lv_lstore_n (lv' := [(3, .long p0), (0, .long p0), (2, .int p1)]) hx hb dX0_addInt_1 rfl hl (by decide) rfl (fun ls hl => ?_)
  refine lv_bipush (v := 24) hx hb dX0_addInt_2 (by decide) ?_
  refine lv_istore (lv' := [(5, .int (24 : Int32)), (3, .long p0), (0, .long p0), (2, .int p1)]) hx hb dX0_addInt_4 hl (by decide) rfl (fun ls hl => ?_)
  have loop6 : ∀ (n : Nat) (l5_6 : Int32) (l3_6 : Int64) (ls : Array Slot), (-8 ≤ l5_6.toInt) → (l5_6.toInt ≤ 24) → (l5_6.toInt + 8 : Int).toNat < n → lv_has ls 6 [(5, .int l5_6), (3, .long l3_6), (0, .long p0), (2, .int p1)] → W p l e (headSpec wsX0_addInt ({ frames := 1, cells := 0, slots := 0, locals := 24 })).room s m ([.long p0, .int p1] : List Value).toArray below meth cM s.heap [] 0 0 (MQ below (vp_Sl (fun r => True)) ([.long p0, .int p1] : List Value).toArray s 0 0 (fun _ => False)) (F0 m 6 ls []) := by
    intro n
    induction n with
    | zero => intro l5_6 l3_6 ls if0_6 if1_6 hm; exact absurd hm (Nat.not_lt_zero _)
    | succ n ih6 =>
      intro l5_6 l3_6 ls if0_6 if1_6 hm6 hl
      refine lv_iload hx hb dX0_addInt_6 (lv_at hl 0 rfl) ?_
      refine lv_if_lt (tgt := 26) hx hb dX0_addInt_8 (by decide) (fun c_1 => ?_) (fun c_1 => ?_)
      · skip
        have ic_1 := iv_lt c_1
        refine lv_lload_n hx hb dX0_addInt_26 rfl (lv_at hl 1 rfl) ?_
        exact W.lret hx hb hr (fun t ht hW => ⟨_, rfl, trivial, ht⟩) (fun q h => by cases h) dX0_addInt_27
      · skip
        have ic_1 := iv_nlt c_1
        refine lv_lload_n hx hb dX0_addInt_11 rfl (lv_at hl 1 rfl) ?_
        refine lv_iload_n hx hb dX0_addInt_12 rfl (lv_at hl 3 rfl) ?_
        refine lv_iload hx hb dX0_addInt_13 (lv_at hl 0 rfl) ?_
        refine lv_iushr hx hb dX0_addInt_15 rfl ?_
        refine lv_topi (fun v_2 ev_2 => ?_)
        clear ev_2
        refine vp_callSl (va_Run.run (va_runS (As := [.long l3_6, .int v_2]) (rest := []) ⟨hx, hb, hml, hown, hts⟩ (v_X0_add l dC dI l3_6 v_2 ) (va_cwS 2 hts gX0_addInt_X0_add rfl rfl rfl (by decide +kernel) ⟨Nat.le_of_ble_eq_true rfl, Nat.le_of_ble_eq_true rfl⟩) ⟨fun a U g mk q => q, fun U hU hW => ⟨rfl, trivial⟩⟩ rfl rfl hl.1 rfl (lv_room (Nat.le_of_ble_eq_true rfl)) dX0_addInt_16 ⟨Nat.le_of_ble_eq_true rfl, Nat.le_of_ble_eq_true rfl⟩)) (fun r_3 er_3 => ?_)
        refine lv_lstore_n (lv' := [(3, .long r_3), (5, .int l5_6), (0, .long p0), (2, .int p1)]) hx hb dX0_addInt_19 rfl hl (by decide) rfl (fun ls hl => ?_)
        obtain ⟨x_4, ex_4⟩ : ∃ z : Int32, z = l5_6 + (-8) := ⟨_, rfl⟩
        refine lv_iinc (v := x_4) (lv' := [(5, .int x_4), (3, .long r_3), (0, .long p0), (2, .int p1)]) hx hb dX0_addInt_20 hl (k := 1) rfl (by rw [ex_4]; rfl) (by decide) rfl (fun ls hl => ?_)
        have rg1 := iv_rng l5_6
        have hx_4 : x_4.toInt = l5_6.toInt + (-8) := by rw [ex_4]; exact (iv_add (by omega) (by omega)).trans (by omega)
        clear ex_4
        refine lv_goto (tgt := 6) hx hb dX0_addInt_23 (by decide) ?_
        exact ih6 x_4 r_3 _ (by omega) (by omega) (by omega) (lv_sub hl [0, 1, 2, 3] rfl)
  exact loop6 ((24 + 8 : Int).toNat + 1) (24 : Int32) p0 _ (by omega) (by omega) (by omega) (lv_sub hl [0, 1, 2, 3] rfl)

set_option maxHeartbeats 4000000 in
set_option maxRecDepth 100000 in
theorem v_X0_addLong (l : Launch) (dC : Nat → ClassId) (dI : Nat → Nat → Nat) (p0 : Int64) (p1 : Int64)  : Met l yX0_addLong wsX0_addLong ({ frames := 1, cells := 0, slots := 0, locals := 24 }) (va_Pc [.long p0, .long p1] (fun U => True)) (vp_Sl (fun r => True)) 0 0 (fun _ => False) := by
  refine Met.ofW (cc := cX0_addLong) (maxL := 7) (ret := (some .long)) (by decide) rfl ?_
  intro p e s m args below meth cM s₁ B hml hv
  obtain ⟨rfl, -⟩ := hv
  have hx := B.exec
  have hb := B.bytes
  have hr := B.returns
  have hts := atoms_spec (ws := wsX0_addLong) B.pre
  have hown : s.vm.findClass RX0 = some m.cls := findClass_of_methodNamed B.named
  have hl := lv_entry ([.long p0, .long p1]) (n := 7) (Nat.le_of_ble_eq_true rfl)
  rw [lg_entry_eq]
  generalize (lg_sl ([.long p0, .long p1]) ++ List.replicate (7 - (lg_sl ([.long p0, .long p1])).length) Slot.unset).toArray = ls at hl ⊢
  have hl : lv_has ls 7 [(0, .long p0), (2, .long p1)] := hl
  have z_m8 : (-8 : Int32).toInt = -8 := by decide
  have z_0 : (0 : Int32).toInt = 0 := by decide
  have z_56 : (56 : Int32).toInt = 56 := by decide
  refine lv_lload_n hx hb dX0_addLong_0 rfl (lv_at hl 0 rfl) ?_
  refine lv_lstore (lv' := [(4, .long p0), (0, .long p0), (2, .long p1)]) hx hb dX0_addLong_1 hl (by decide) rfl (fun ls hl => ?_)
  refine lv_bipush (v := 56) hx hb dX0_addLong_3 (by decide) ?_
  refine lv_istore (lv' := [(6, .int (56 : Int32)), (4, .long p0), (0, .long p0), (2, .long p1)]) hx hb dX0_addLong_5 hl (by decide) rfl (fun ls hl => ?_)
  have loop7 : ∀ (n : Nat) (l6_7 : Int32) (l4_7 : Int64) (ls : Array Slot), (-8 ≤ l6_7.toInt) → (l6_7.toInt ≤ 56) → (l6_7.toInt + 8 : Int).toNat < n → lv_has ls 7 [(6, .int l6_7), (4, .long l4_7), (0, .long p0), (2, .long p1)] → W p l e (headSpec wsX0_addLong ({ frames := 1, cells := 0, slots := 0, locals := 24 })).room s m ([.long p0, .long p1] : List Value).toArray below meth cM s.heap [] 0 0 (MQ below (vp_Sl (fun r => True)) ([.long p0, .long p1] : List Value).toArray s 0 0 (fun _ => False)) (F0 m 7 ls []) := by
    intro n
    induction n with
    | zero => intro l6_7 l4_7 ls if0_7 if1_7 hm; exact absurd hm (Nat.not_lt_zero _)
    | succ n ih7 =>
      intro l6_7 l4_7 ls if0_7 if1_7 hm7 hl
      refine lv_iload hx hb dX0_addLong_7 (lv_at hl 0 rfl) ?_
      refine lv_if_lt (tgt := 30) hx hb dX0_addLong_9 (by decide) (fun c_1 => ?_) (fun c_1 => ?_)
      · skip
        have ic_1 := iv_lt c_1
        refine lv_lload hx hb dX0_addLong_30 (lv_at hl 1 rfl) ?_
        exact W.lret hx hb hr (fun t ht hW => ⟨_, rfl, trivial, ht⟩) (fun q h => by cases h) dX0_addLong_32
      · skip
        have ic_1 := iv_nlt c_1
        refine lv_lload hx hb dX0_addLong_12 (lv_at hl 1 rfl) ?_
        refine lv_lload_n hx hb dX0_addLong_14 rfl (lv_at hl 3 rfl) ?_
        refine lv_iload hx hb dX0_addLong_15 (lv_at hl 0 rfl) ?_
        refine lv_lushr hx hb dX0_addLong_17 rfl ?_
        refine lv_topl (fun w_2 ew_2 => ?_)
        clear ew_2
        refine lv_l2i hx hb dX0_addLong_18 rfl ?_
        refine lv_topi (fun v_3 ev_3 => ?_)
        clear ev_3
        refine vp_callSl (va_Run.run (va_runS (As := [.long l4_7, .int v_3]) (rest := []) ⟨hx, hb, hml, hown, hts⟩ (v_X0_add l dC dI l4_7 v_3 ) (va_cwS 2 hts gX0_addLong_X0_add rfl rfl rfl (by decide +kernel) ⟨Nat.le_of_ble_eq_true rfl, Nat.le_of_ble_eq_true rfl⟩) ⟨fun a U g mk q => q, fun U hU hW => ⟨rfl, trivial⟩⟩ rfl rfl hl.1 rfl (lv_room (Nat.le_of_ble_eq_true rfl)) dX0_addLong_19 ⟨Nat.le_of_ble_eq_true rfl, Nat.le_of_ble_eq_true rfl⟩)) (fun r_4 er_4 => ?_)
        refine lv_lstore (lv' := [(4, .long r_4), (6, .int l6_7), (0, .long p0), (2, .long p1)]) hx hb dX0_addLong_22 hl (by decide) rfl (fun ls hl => ?_)
        obtain ⟨x_5, ex_5⟩ : ∃ z : Int32, z = l6_7 + (-8) := ⟨_, rfl⟩
        refine lv_iinc (v := x_5) (lv' := [(6, .int x_5), (4, .long r_4), (0, .long p0), (2, .long p1)]) hx hb dX0_addLong_24 hl (k := 1) rfl (by rw [ex_5]; rfl) (by decide) rfl (fun ls hl => ?_)
        have rg1 := iv_rng l6_7
        have hx_5 : x_5.toInt = l6_7.toInt + (-8) := by rw [ex_5]; exact (iv_add (by omega) (by omega)).trans (by omega)
        clear ex_5
        refine lv_goto (tgt := 7) hx hb dX0_addLong_27 (by decide) ?_
        exact ih7 x_5 r_4 _ (by omega) (by omega) (by omega) (lv_sub hl [0, 1, 2, 3] rfl)
  exact loop7 ((56 + 8 : Int).toNat + 1) (56 : Int32) p0 _ (by omega) (by omega) (by omega) (lv_sub hl [0, 1, 2, 3] rfl)

set_option maxHeartbeats 4000000 in
set_option maxRecDepth 100000 in
theorem v_X0_sum (l : Launch) (dC : Nat → ClassId) (dI : Nat → Nat → Nat) (ws : va_W) (tys : List (ClassId × FieldType)) (b0 N0 : Nat) (k0 : ClassId) (f0 : Nat → Int32) (q0 t0 : Nat) (p1 : Int32) (p2 : Int32) (p3 : Int32) (e0 : ws[q0]? = some (b0, .inl (k0, N0, .inl f0))) (g0 : tys[t0]? = some (k0, .byte)) (hN0 : (N0 : Int) ≤ 2147483647) (hq0 : 0 ≤ p1.toInt) (hq1 : 0 ≤ p2.toInt) (hq2 : p1.toInt + p2.toInt ≤ (N0 : Int)) : Met l yX0_sum wsX0_sum ({ frames := 1, cells := 0, slots := 0, locals := 24 }) (va_Pc [.ref b0, .int p1, .int p2, .int p3] (fun U => va_P (dC, dI) vwCl ws U.heap ∧ va_K (dC, dI) vwCl tys U)) (vp_Sl (fun r => True)) 0 0 (fun _ => False) := by
  refine Met.ofW (cc := cX0_sum) (maxL := 7) (ret := (some .long)) (by decide) rfl ?_
  intro p e s m args below meth cM s₁ B hml hv
  obtain ⟨rfl, hP, hK⟩ := hv
  have hx := B.exec
  have hb := B.bytes
  have hr := B.returns
  have hts := atoms_spec (ws := wsX0_sum) B.pre
  have hown : s.vm.findClass RX0 = some m.cls := findClass_of_methodNamed B.named
  have hl := lv_entry ([.ref b0, .int p1, .int p2, .int p3]) (n := 7) (Nat.le_of_ble_eq_true rfl)
  rw [lg_entry_eq]
  generalize (lg_sl ([.ref b0, .int p1, .int p2, .int p3]) ++ List.replicate (7 - (lg_sl ([.ref b0, .int p1, .int p2, .int p3])).length) Slot.unset).toArray = ls at hl ⊢
  have hl : lv_has ls 7 [(0, .ref b0), (1, .int p1), (2, .int p2), (3, .int p3)] := hl
  have z_1 : (1 : Int32).toInt = 1 := by decide
  refine lv_iload_n hx hb dX0_sum_0 rfl (lv_at hl 3 rfl) ?_
  refine vp_callSl (va_Run.run (va_runS (As := [.int p3]) (rest := []) ⟨hx, hb, hml, hown, hts⟩ (v_X0_start l dC dI p3 ) (va_cwS 1 hts gX0_sum_X0_start rfl rfl rfl (by decide +kernel) ⟨Nat.le_of_ble_eq_true rfl, Nat.le_of_ble_eq_true rfl⟩) ⟨fun a U g mk q => q, fun U hU hW => ⟨rfl, trivial⟩⟩ rfl rfl hl.1 rfl (lv_room (Nat.le_of_ble_eq_true rfl)) dX0_sum_1 ⟨Nat.le_of_ble_eq_true rfl, Nat.le_of_ble_eq_true rfl⟩)) (fun r_1 er_1 => ?_)
  refine lv_lstore (lv' := [(4, .long r_1), (0, .ref b0), (1, .int p1), (2, .int p2), (3, .int p3)]) hx hb dX0_sum_4 hl (by decide) rfl (fun ls hl => ?_)
  refine lv_iload_n hx hb dX0_sum_6 rfl (lv_at hl 2 rfl) ?_
  refine lv_istore (lv' := [(6, .int p1), (4, .long r_1), (0, .ref b0), (1, .int p1), (2, .int p2), (3, .int p3)]) hx hb dX0_sum_7 hl (by decide) rfl (fun ls hl => ?_)
  have loop9 : ∀ (n : Nat) (l6_9 : Int32) (l4_9 : Int64) (ls : Array Slot), (p1.toInt ≤ l6_9.toInt) → (l6_9.toInt ≤ p1.toInt + p2.toInt) → (p1.toInt + p2.toInt - l6_9.toInt : Int).toNat < n → lv_has ls 7 [(6, .int l6_9), (4, .long l4_9), (0, .ref b0), (1, .int p1), (2, .int p2), (3, .int p3)] → W p l e (headSpec wsX0_sum ({ frames := 1, cells := 0, slots := 0, locals := 24 })).room s m ([.ref b0, .int p1, .int p2, .int p3] : List Value).toArray below meth cM s.heap [] 0 0 (MQ below (vp_Sl (fun r => True)) ([.ref b0, .int p1, .int p2, .int p3] : List Value).toArray s 0 0 (fun _ => False)) (F0 m 9 ls []) := by
    intro n
    induction n with
    | zero => intro l6_9 l4_9 ls if0_9 if1_9 hm; exact absurd hm (Nat.not_lt_zero _)
    | succ n ih9 =>
      intro l6_9 l4_9 ls if0_9 if1_9 hm9 hl
      refine lv_iload hx hb dX0_sum_9 (lv_at hl 0 rfl) ?_
      refine lv_iload_n hx hb dX0_sum_11 rfl (lv_at hl 3 rfl) ?_
      refine lv_iload_n hx hb dX0_sum_12 rfl (lv_at hl 4 rfl) ?_
      refine lv_iadd hx hb dX0_sum_13 ?_
      refine lv_topi (fun v_2 ev_2 => ?_)
      have rg1 := iv_rng p1
      have rg2 := iv_rng p2
      have hv_2 : v_2.toInt = p1.toInt + p2.toInt := by rw [ev_2]; exact (iv_add (by omega) (by omega)).trans (by omega)
      clear ev_2
      refine lv_icmp_ge (tgt := 34) hx hb dX0_sum_14 (by decide) (fun c_3 => ?_) (fun c_3 => ?_)
      · skip
        have ic_3 := iv_le c_3
        refine lv_lload hx hb dX0_sum_34 (lv_at hl 1 rfl) ?_
        exact W.lret hx hb hr (fun t ht hW => ⟨_, rfl, trivial, ht⟩) (fun q h => by cases h) dX0_sum_36
      · skip
        have ic_3 := iv_nle c_3
        refine lv_lload hx hb dX0_sum_17 (lv_at hl 1 rfl) ?_
        refine lv_aload_n hx hb dX0_sum_19 rfl (lv_at hl 2 rfl) ?_
        refine lv_iload hx hb dX0_sum_20 (lv_at hl 0 rfl) ?_
        refine va_bald (f := f0) hx hb hK hP q0 t0 e0 g0 (iv_in (i := l6_9) (by omega) (by omega)) dX0_sum_22 ?_
        refine lv_topi (fun v_4 ev_4 => ?_)
        clear ev_4
        refine vp_callSl (va_Run.run (va_runS (As := [.long l4_9, .int v_4]) (rest := []) ⟨hx, hb, hml, hown, hts⟩ (v_X0_add l dC dI l4_9 v_4 ) (va_cwS 2 hts gX0_sum_X0_add rfl rfl rfl (by decide +kernel) ⟨Nat.le_of_ble_eq_true rfl, Nat.le_of_ble_eq_true rfl⟩) ⟨fun a U g mk q => q, fun U hU hW => ⟨rfl, trivial⟩⟩ rfl rfl hl.1 rfl (lv_room (Nat.le_of_ble_eq_true rfl)) dX0_sum_23 ⟨Nat.le_of_ble_eq_true rfl, Nat.le_of_ble_eq_true rfl⟩)) (fun r_5 er_5 => ?_)
        refine lv_lstore (lv' := [(4, .long r_5), (6, .int l6_9), (0, .ref b0), (1, .int p1), (2, .int p2), (3, .int p3)]) hx hb dX0_sum_26 hl (by decide) rfl (fun ls hl => ?_)
        obtain ⟨x_6, ex_6⟩ : ∃ z : Int32, z = l6_9 + (1) := ⟨_, rfl⟩
        refine lv_iinc (v := x_6) (lv' := [(6, .int x_6), (4, .long r_5), (0, .ref b0), (1, .int p1), (2, .int p2), (3, .int p3)]) hx hb dX0_sum_28 hl (k := 1) rfl (by rw [ex_6]; rfl) (by decide) rfl (fun ls hl => ?_)
        have rg3 := iv_rng l6_9
        have hx_6 : x_6.toInt = l6_9.toInt + (1) := by rw [ex_6]; exact (iv_add (by omega) (by omega)).trans (by omega)
        clear ex_6
        refine lv_goto (tgt := 9) hx hb dX0_sum_31 (by decide) ?_
        exact ih9 x_6 r_5 _ (by omega) (by omega) (by omega) (lv_sub hl [0, 1, 2, 3, 4, 5] rfl)
  exact loop9 ((p1.toInt + p2.toInt - p1.toInt : Int).toNat + 1) p1 r_1 _ (by omega) (by omega) (by omega) (lv_sub hl [0, 1, 2, 3, 4, 5] rfl)

set_option maxHeartbeats 4000000 in
set_option maxRecDepth 100000 in
theorem v_X0_intAt (l : Launch) (dC : Nat → ClassId) (dI : Nat → Nat → Nat) (ws : va_W) (tys : List (ClassId × FieldType)) (b0 N0 : Nat) (k0 : ClassId) (f0 : Nat → Int32) (q0 t0 : Nat) (p1 : Int32) (e0 : ws[q0]? = some (b0, .inl (k0, N0, .inl f0))) (g0 : tys[t0]? = some (k0, .byte)) (hN0 : (N0 : Int) ≤ 2147483647) (hq0 : 0 ≤ p1.toInt) (hq1 : p1.toInt + 4 ≤ (N0 : Int)) : Met l yX0_intAt wsX0_intAt ({ frames := 0, cells := 0, slots := 0, locals := 0 }) (va_Pc [.ref b0, .int p1] (fun U => va_P (dC, dI) vwCl ws U.heap ∧ va_K (dC, dI) vwCl tys U)) (vp_Si (fun r => (r = iR f0 p1 4))) 0 0 (fun _ => False) := by
  refine Met.ofW (cc := cX0_intAt) (maxL := 4) (ret := (some .int)) (by decide) rfl ?_
  intro p e s m args below meth cM s₁ B hml hv
  obtain ⟨rfl, hP, hK⟩ := hv
  have hx := B.exec
  have hb := B.bytes
  have hr := B.returns
  have hts := atoms_spec (ws := wsX0_intAt) B.pre
  have hown : s.vm.findClass RX0 = some m.cls := findClass_of_methodNamed B.named
  have hl := lv_entry ([.ref b0, .int p1]) (n := 4) (Nat.le_of_ble_eq_true rfl)
  rw [lg_entry_eq]
  generalize (lg_sl ([.ref b0, .int p1]) ++ List.replicate (4 - (lg_sl ([.ref b0, .int p1])).length) Slot.unset).toArray = ls at hl ⊢
  have hl : lv_has ls 4 [(0, .ref b0), (1, .int p1)] := hl
  have z_0 : (0 : Int32).toInt = 0 := by decide
  have z_1 : (1 : Int32).toInt = 1 := by decide
  have z_4 : (4 : Int32).toInt = 4 := by decide
  have z_8 : (8 : Int32).toInt = 8 := by decide
  have z_255 : (255 : Int32).toInt = 255 := by decide
  refine lv_iconst (v := 0) hx hb dX0_intAt_0 (by decide) ?_
  refine lv_istore_n (lv' := [(2, .int (0 : Int32)), (0, .ref b0), (1, .int p1)]) hx hb dX0_intAt_1 rfl hl (by decide) rfl (fun ls hl => ?_)
  refine lv_iload_n hx hb dX0_intAt_2 rfl (lv_at hl 2 rfl) ?_
  refine lv_istore_n (lv' := [(3, .int p1), (2, .int (0 : Int32)), (0, .ref b0), (1, .int p1)]) hx hb dX0_intAt_3 rfl hl (by decide) rfl (fun ls hl => ?_)
  have loop4 : ∀ (n : Nat) (l3_4 : Int32) (l2_4 : Int32) (ls : Array Slot), (p1.toInt ≤ l3_4.toInt) → (l3_4.toInt ≤ p1.toInt + 4) → (l2_4 = iR f0 p1 (l3_4.toInt - p1.toInt).toNat) → (p1.toInt + 4 - l3_4.toInt : Int).toNat < n → lv_has ls 4 [(3, .int l3_4), (2, .int l2_4), (0, .ref b0), (1, .int p1)] → W p l e (headSpec wsX0_intAt ({ frames := 0, cells := 0, slots := 0, locals := 0 })).room s m ([.ref b0, .int p1] : List Value).toArray below meth cM s.heap [] 0 0 (MQ below (vp_Si (fun r => (r = iR f0 p1 4))) ([.ref b0, .int p1] : List Value).toArray s 0 0 (fun _ => False)) (F0 m 4 ls []) := by
    intro n
    induction n with
    | zero => intro l3_4 l2_4 ls if0_4 if1_4 hia hm; exact absurd hm (Nat.not_lt_zero _)
    | succ n ih4 =>
      intro l3_4 l2_4 ls if0_4 if1_4 hia hm4 hl
      refine lv_iload_n hx hb dX0_intAt_4 rfl (lv_at hl 0 rfl) ?_
      refine lv_iload_n hx hb dX0_intAt_5 rfl (lv_at hl 3 rfl) ?_
      refine lv_iconst (v := 4) hx hb dX0_intAt_6 (by decide) ?_
      refine lv_iadd hx hb dX0_intAt_7 ?_
      refine lv_topi (fun v_1 ev_1 => ?_)
      have rg1 := iv_rng p1
      have hv_1 : v_1.toInt = p1.toInt + 4 := by rw [ev_1]; exact (iv_add (by omega) (by omega)).trans (by omega)
      refine lv_icmp_ge (tgt := 30) hx hb dX0_intAt_8 (by decide) (fun c_2 => ?_) (fun c_2 => ?_)
      · skip
        have ic_2 := iv_le c_2
        refine lv_iload_n hx hb dX0_intAt_30 rfl (lv_at hl 1 rfl) ?_
        exact W.iret hx hb hr (fun t ht hW => ⟨_, rfl, (hia.trans (by rw [show (l3_4.toInt - p1.toInt).toNat = 4 by omega])), ht⟩) (fun q h => by cases h) dX0_intAt_31
      · skip
        have ic_2 := iv_nle c_2
        refine lv_iload_n hx hb dX0_intAt_11 rfl (lv_at hl 1 rfl) ?_
        refine lv_bipush (v := 8) hx hb dX0_intAt_12 (by decide) ?_
        refine lv_ishl hx hb dX0_intAt_14 ?_
        refine lv_topi (fun v_3 ev_3 => ?_)
        refine lv_aload_n hx hb dX0_intAt_15 rfl (lv_at hl 2 rfl) ?_
        refine lv_iload_n hx hb dX0_intAt_16 rfl (lv_at hl 0 rfl) ?_
        refine va_bald (f := f0) hx hb hK hP q0 t0 e0 g0 (iv_in (i := l3_4) (by omega) (by omega)) dX0_intAt_17 ?_
        refine lv_topi (fun v_4 ev_4 => ?_)
        have hX_0 := ev_4
        clear ev_4
        refine lv_sipush (v := 255) hx hb dX0_intAt_18 (by decide) ?_
        refine lv_iand hx hb dX0_intAt_21 ?_
        refine lv_topi (fun v_5 ev_5 => ?_)
        have hv_5 : 0 ≤ v_5.toInt ∧ v_5.toInt ≤ 255 := by rw [ev_5]; exact iv_and255 _
        refine lv_ior hx hb dX0_intAt_22 ?_
        refine lv_topi (fun v_6 ev_6 => ?_)
        refine lv_istore_n (lv' := [(2, .int v_6), (3, .int l3_4), (0, .ref b0), (1, .int p1)]) hx hb dX0_intAt_23 rfl hl (by decide) rfl (fun ls hl => ?_)
        obtain ⟨x_7, ex_7⟩ : ∃ z : Int32, z = l3_4 + (1) := ⟨_, rfl⟩
        refine lv_iinc (v := x_7) (lv' := [(3, .int x_7), (2, .int v_6), (0, .ref b0), (1, .int p1)]) hx hb dX0_intAt_24 hl (k := 1) rfl (by rw [ex_7]; rfl) (by decide) rfl (fun ls hl => ?_)
        have rg2 := iv_rng l3_4
        have hx_7 : x_7.toInt = l3_4.toInt + (1) := by rw [ex_7]; exact (iv_add (by omega) (by omega)).trans (by omega)
        clear ex_7
        refine lv_goto (tgt := 4) hx hb dX0_intAt_27 (by decide) ?_
        exact ih4 x_7 v_6 _ (by omega) (by omega) (iR_s hia (by subst_vars; rfl) hX_0 (by omega) (by omega) (by omega)) (by omega) (lv_sub hl [0, 1, 2, 3] rfl)
  exact loop4 ((p1.toInt + 4 - p1.toInt : Int).toNat + 1) p1 (0 : Int32) _ (by omega) (by omega) (iR_0 (by omega)) (by omega) (lv_sub hl [0, 1, 2, 3] rfl)

set_option maxHeartbeats 4000000 in
set_option maxRecDepth 100000 in
theorem v_X0_longAt (l : Launch) (dC : Nat → ClassId) (dI : Nat → Nat → Nat) (ws : va_W) (tys : List (ClassId × FieldType)) (b0 N0 : Nat) (k0 : ClassId) (f0 : Nat → Int32) (q0 t0 : Nat) (p1 : Int32) (e0 : ws[q0]? = some (b0, .inl (k0, N0, .inl f0))) (g0 : tys[t0]? = some (k0, .byte)) (hN0 : (N0 : Int) ≤ 2147483647) (hq0 : 0 ≤ p1.toInt) (hq1 : p1.toInt + 8 ≤ (N0 : Int)) : Met l yX0_longAt wsX0_longAt ({ frames := 0, cells := 0, slots := 0, locals := 0 }) (va_Pc [.ref b0, .int p1] (fun U => va_P (dC, dI) vwCl ws U.heap ∧ va_K (dC, dI) vwCl tys U)) (vp_Sl (fun r => True)) 0 0 (fun _ => False) := by
  refine Met.ofW (cc := cX0_longAt) (maxL := 5) (ret := (some .long)) (by decide) rfl ?_
  intro p e s m args below meth cM s₁ B hml hv
  obtain ⟨rfl, hP, hK⟩ := hv
  have hx := B.exec
  have hb := B.bytes
  have hr := B.returns
  have hts := atoms_spec (ws := wsX0_longAt) B.pre
  have hown : s.vm.findClass RX0 = some m.cls := findClass_of_methodNamed B.named
  have hl := lv_entry ([.ref b0, .int p1]) (n := 5) (Nat.le_of_ble_eq_true rfl)
  rw [lg_entry_eq]
  generalize (lg_sl ([.ref b0, .int p1]) ++ List.replicate (5 - (lg_sl ([.ref b0, .int p1])).length) Slot.unset).toArray = ls at hl ⊢
  have hl : lv_has ls 5 [(0, .ref b0), (1, .int p1)] := hl
  have z_1 : (1 : Int32).toInt = 1 := by decide
  have z_8 : (8 : Int32).toInt = 8 := by decide
  have z_255 : (255 : Int32).toInt = 255 := by decide
  refine lv_lconst (v := 0) hx hb dX0_longAt_0 (by decide) ?_
  refine lv_lstore_n (lv' := [(2, .long (0 : Int64)), (0, .ref b0), (1, .int p1)]) hx hb dX0_longAt_1 rfl hl (by decide) rfl (fun ls hl => ?_)
  refine lv_iload_n hx hb dX0_longAt_2 rfl (lv_at hl 2 rfl) ?_
  refine lv_istore (lv' := [(4, .int p1), (2, .long (0 : Int64)), (0, .ref b0), (1, .int p1)]) hx hb dX0_longAt_3 hl (by decide) rfl (fun ls hl => ?_)
  have loop5 : ∀ (n : Nat) (l4_5 : Int32) (l2_5 : Int64) (ls : Array Slot), (p1.toInt ≤ l4_5.toInt) → (l4_5.toInt ≤ p1.toInt + 8) → (p1.toInt + 8 - l4_5.toInt : Int).toNat < n → lv_has ls 5 [(4, .int l4_5), (2, .long l2_5), (0, .ref b0), (1, .int p1)] → W p l e (headSpec wsX0_longAt ({ frames := 0, cells := 0, slots := 0, locals := 0 })).room s m ([.ref b0, .int p1] : List Value).toArray below meth cM s.heap [] 0 0 (MQ below (vp_Sl (fun r => True)) ([.ref b0, .int p1] : List Value).toArray s 0 0 (fun _ => False)) (F0 m 5 ls []) := by
    intro n
    induction n with
    | zero => intro l4_5 l2_5 ls if0_5 if1_5 hm; exact absurd hm (Nat.not_lt_zero _)
    | succ n ih5 =>
      intro l4_5 l2_5 ls if0_5 if1_5 hm5 hl
      refine lv_iload hx hb dX0_longAt_5 (lv_at hl 0 rfl) ?_
      refine lv_iload_n hx hb dX0_longAt_7 rfl (lv_at hl 3 rfl) ?_
      refine lv_bipush (v := 8) hx hb dX0_longAt_8 (by decide) ?_
      refine lv_iadd hx hb dX0_longAt_10 ?_
      refine lv_topi (fun v_1 ev_1 => ?_)
      have rg1 := iv_rng p1
      have hv_1 : v_1.toInt = p1.toInt + 8 := by rw [ev_1]; exact (iv_add (by omega) (by omega)).trans (by omega)
      clear ev_1
      refine lv_icmp_ge (tgt := 35) hx hb dX0_longAt_11 (by decide) (fun c_2 => ?_) (fun c_2 => ?_)
      · skip
        have ic_2 := iv_le c_2
        refine lv_lload_n hx hb dX0_longAt_35 rfl (lv_at hl 1 rfl) ?_
        exact W.lret hx hb hr (fun t ht hW => ⟨_, rfl, trivial, ht⟩) (fun q h => by cases h) dX0_longAt_36
      · skip
        have ic_2 := iv_nle c_2
        refine lv_lload_n hx hb dX0_longAt_14 rfl (lv_at hl 1 rfl) ?_
        refine lv_bipush (v := 8) hx hb dX0_longAt_15 (by decide) ?_
        refine lv_lshl hx hb dX0_longAt_17 rfl ?_
        refine lv_topl (fun w_3 ew_3 => ?_)
        clear ew_3
        refine lv_aload_n hx hb dX0_longAt_18 rfl (lv_at hl 2 rfl) ?_
        refine lv_iload hx hb dX0_longAt_19 (lv_at hl 0 rfl) ?_
        refine va_bald (f := f0) hx hb hK hP q0 t0 e0 g0 (iv_in (i := l4_5) (by omega) (by omega)) dX0_longAt_21 ?_
        refine lv_topi (fun v_4 ev_4 => ?_)
        clear ev_4
        refine lv_sipush (v := 255) hx hb dX0_longAt_22 (by decide) ?_
        refine lv_iand hx hb dX0_longAt_25 ?_
        refine lv_topi (fun v_5 ev_5 => ?_)
        have hv_5 : 0 ≤ v_5.toInt ∧ v_5.toInt ≤ 255 := by rw [ev_5]; exact iv_and255 _
        clear ev_5
        refine lv_i2l hx hb dX0_longAt_26 rfl ?_
        refine lv_topl (fun w_6 ew_6 => ?_)
        clear ew_6
        refine lv_lor hx hb dX0_longAt_27 ?_
        refine lv_topl (fun w_7 ew_7 => ?_)
        clear ew_7
        refine lv_lstore_n (lv' := [(2, .long w_7), (4, .int l4_5), (0, .ref b0), (1, .int p1)]) hx hb dX0_longAt_28 rfl hl (by decide) rfl (fun ls hl => ?_)
        obtain ⟨x_8, ex_8⟩ : ∃ z : Int32, z = l4_5 + (1) := ⟨_, rfl⟩
        refine lv_iinc (v := x_8) (lv' := [(4, .int x_8), (2, .long w_7), (0, .ref b0), (1, .int p1)]) hx hb dX0_longAt_29 hl (k := 1) rfl (by rw [ex_8]; rfl) (by decide) rfl (fun ls hl => ?_)
        have rg2 := iv_rng l4_5
        have hx_8 : x_8.toInt = l4_5.toInt + (1) := by rw [ex_8]; exact (iv_add (by omega) (by omega)).trans (by omega)
        clear ex_8
        refine lv_goto (tgt := 5) hx hb dX0_longAt_32 (by decide) ?_
        exact ih5 x_8 w_7 _ (by omega) (by omega) (by omega) (lv_sub hl [0, 1, 2, 3] rfl)
  exact loop5 ((p1.toInt + 8 - p1.toInt : Int).toNat + 1) p1 (0 : Int64) _ (by omega) (by omega) (by omega) (lv_sub hl [0, 1, 2, 3] rfl)

set_option maxHeartbeats 4000000 in
set_option maxRecDepth 100000 in
theorem v_X0_putInt (l : Launch) (dC : Nat → ClassId) (dI : Nat → Nat → Nat) (ws : va_W) (tys : List (ClassId × FieldType)) (b0 N0 : Nat) (k0 : ClassId) (f0 : Nat → Int32) (q0 t0 : Nat) (p1 : Int32) (p2 : Int32) (sz : Nat) (e0 : ws[q0]? = some (b0, .inl (k0, N0, .inl f0))) (g0 : tys[t0]? = some (k0, .byte)) (hN0 : (N0 : Int) ≤ 2147483647) (hq0 : 0 ≤ p1.toInt) (hq1 : p1.toInt + 4 ≤ (N0 : Int)) : Met l yX0_putInt wsX0_putInt ({ frames := 0, cells := 0, slots := 0, locals := 0 }) (va_Pc [.ref b0, .int p1, .int p2] (fun U => U.heap.size = sz ∧ va_P (dC, dI) vwCl ws U.heap ∧ va_K (dC, dI) vwCl tys U ∧ va_D (fun _ => True) ws)) (va_Qv (fun (_ : Unit) => True) (fun _ t => ∃ (f9 : Nat → Int32), (aR f0 N0 (-128) 127 → aR f9 N0 (-128) 127) ∧ va_P (dC, dI) vwCl (wS ws q0 b0 k0 N0 f9) t.heap) (va_A ws sz)) 0 0 (va_A ws sz) := by
  refine Met.ofW (cc := cX0_putInt) (maxL := 4) (ret := none) (by decide) rfl ?_
  intro p e s m args below meth cM s₁ B hml hv
  obtain ⟨rfl, hsz, hP, hK, hD0⟩ := hv
  have hx := B.exec
  have hb := B.bytes
  have hr := B.returns
  have hts := atoms_spec (ws := wsX0_putInt) B.pre
  have hown : s.vm.findClass RX0 = some m.cls := findClass_of_methodNamed B.named
  subst hsz
  have hD := hD0.self (sz := s.heap.size)
  generalize hAe : va_A ws s.heap.size = A at hD ⊢
  have hA : ∀ q : Nat, s.heap.size ≤ q → A q := fun q h => by rw [← hAe]; exact Or.inr h
  have hS : va_S A s.heap s.heap [] := va_S.rf
  clear hAe hD0
  have hl := lv_entry ([.ref b0, .int p1, .int p2]) (n := 4) (Nat.le_of_ble_eq_true rfl)
  rw [lg_entry_eq]
  generalize (lg_sl ([.ref b0, .int p1, .int p2]) ++ List.replicate (4 - (lg_sl ([.ref b0, .int p1, .int p2])).length) Slot.unset).toArray = ls at hl ⊢
  have hl : lv_has ls 4 [(0, .ref b0), (1, .int p1), (2, .int p2)] := hl
  have z_0 : (0 : Int32).toInt = 0 := by decide
  have z_1 : (1 : Int32).toInt = 1 := by decide
  have z_4 : (4 : Int32).toInt = 4 := by decide
  have z_8 : (8 : Int32).toInt = 8 := by decide
  have z_24 : (24 : Int32).toInt = 24 := by decide
  have hP : va_P (dC, dI) vwCl (wS ws q0 b0 k0 N0 f0) s.heap := by rw [wS_self e0]; exact hP
  have hRn : aR f0 N0 (-128) 127 → aR f0 N0 (-128) 127 := fun h => h
  have main : ∀ (H : Heap) (locs : List Loc), va_P (dC, dI) vwCl (wS ws q0 b0 k0 N0 f0) H → va_S A s.heap H locs → W p l e (headSpec wsX0_putInt ({ frames := 0, cells := 0, slots := 0, locals := 0 })).room s m ([.ref b0, .int p1, .int p2] : List Value).toArray below meth cM H locs 0 0 (MQ below (va_Qv (fun (_ : Unit) => True) (fun _ t => ∃ (f9 : Nat → Int32), (aR f0 N0 (-128) 127 → aR f9 N0 (-128) 127) ∧ va_P (dC, dI) vwCl (wS ws q0 b0 k0 N0 f9) t.heap) A) ([.ref b0, .int p1, .int p2] : List Value).toArray s 0 0 A) (F0 m 0 ls []) := by
    intro H locs hP hS
    refine lv_iconst (v := 0) hx hb dX0_putInt_0 (by decide) ?_
    refine lv_istore_n (lv' := [(3, .int (0 : Int32)), (0, .ref b0), (1, .int p1), (2, .int p2)]) hx hb dX0_putInt_1 rfl hl (by decide) rfl (fun ls hl => ?_)
    have loop2 : ∀ (n : Nat) (l3_2 : Int32) (a0_2 : Nat → Int32) (H : Heap) (locs : List Loc) (ls : Array Slot), (0 ≤ l3_2.toInt) → (l3_2.toInt ≤ 4) → (aR f0 N0 (-128) 127 → aR a0_2 N0 (-128) 127) → (4 - l3_2.toInt : Int).toNat < n → va_P (dC, dI) vwCl (wS ws q0 b0 k0 N0 a0_2) H → va_S A s.heap H locs → lv_has ls 4 [(3, .int l3_2), (0, .ref b0), (1, .int p1), (2, .int p2)] → W p l e (headSpec wsX0_putInt ({ frames := 0, cells := 0, slots := 0, locals := 0 })).room s m ([.ref b0, .int p1, .int p2] : List Value).toArray below meth cM H locs 0 0 (MQ below (va_Qv (fun (_ : Unit) => True) (fun _ t => ∃ (f9 : Nat → Int32), (aR f0 N0 (-128) 127 → aR f9 N0 (-128) 127) ∧ va_P (dC, dI) vwCl (wS ws q0 b0 k0 N0 f9) t.heap) A) ([.ref b0, .int p1, .int p2] : List Value).toArray s 0 0 A) (F0 m 2 ls []) := by
      intro n
      induction n with
      | zero => intro l3_2 a0_2 H locs ls if0_2 if1_2 hRn hm; exact absurd hm (Nat.not_lt_zero _)
      | succ n ih2 =>
        intro l3_2 a0_2 H locs ls if0_2 if1_2 hRn hm2 hP hS hl
        refine lv_iload_n hx hb dX0_putInt_2 rfl (lv_at hl 0 rfl) ?_
        refine lv_iconst (v := 4) hx hb dX0_putInt_3 (by decide) ?_
        refine lv_icmp_ge (tgt := 28) hx hb dX0_putInt_4 (by decide) (fun c_1 => ?_) (fun c_1 => ?_)
        · skip
          have ic_1 := iv_le c_1
          exact W.vret hx hb hr (fun t ht hW => ⟨⟨(), rfl, trivial, a0_2, hRn, by rw [ht]; exact hP⟩, hS.F ht⟩) hS.2.2 dX0_putInt_28
        · skip
          have ic_1 := iv_nle c_1
          refine lv_aload_n hx hb dX0_putInt_7 rfl (lv_at hl 1 rfl) ?_
          refine lv_iload_n hx hb dX0_putInt_8 rfl (lv_at hl 2 rfl) ?_
          refine lv_iload_n hx hb dX0_putInt_9 rfl (lv_at hl 0 rfl) ?_
          refine lv_iadd hx hb dX0_putInt_10 ?_
          refine lv_topi (fun v_2 ev_2 => ?_)
          have rg1 := iv_rng p1
          have rg2 := iv_rng l3_2
          have hv_2 : v_2.toInt = p1.toInt + l3_2.toInt := by rw [ev_2]; exact (iv_add (by omega) (by omega)).trans (by omega)
          clear ev_2
          refine lv_iload_n hx hb dX0_putInt_11 rfl (lv_at hl 3 rfl) ?_
          refine lv_bipush (v := 24) hx hb dX0_putInt_12 (by decide) ?_
          refine lv_bipush (v := 8) hx hb dX0_putInt_14 (by decide) ?_
          refine lv_iload_n hx hb dX0_putInt_16 rfl (lv_at hl 0 rfl) ?_
          refine lv_imul hx hb dX0_putInt_17 ?_
          refine lv_topi (fun v_3 ev_3 => ?_)
          have hv_3 : v_3.toInt = 8 * l3_2.toInt := by rw [ev_3]; exact (iv_mulc z_8 (by omega) (by omega)).trans (by omega)
          clear ev_3
          refine lv_isub hx hb dX0_putInt_18 ?_
          refine lv_topi (fun v_4 ev_4 => ?_)
          have rg3 := iv_rng v_3
          have hv_4 : v_4.toInt = 24 - v_3.toInt := by rw [ev_4]; exact (iv_sub (by omega) (by omega)).trans (by omega)
          clear ev_4
          refine lv_iushr hx hb dX0_putInt_19 rfl ?_
          refine lv_topi (fun v_5 ev_5 => ?_)
          clear ev_5
          refine lv_i2b hx hb dX0_putInt_20 rfl ?_
          refine lv_topi (fun v_6 ev_6 => ?_)
          clear ev_6
          refine va_bast (f := a0_2) hx hb hK hP (wS_D e0 hD) hS q0 t0 (wS_get e0) g0 (iv_in (i := v_2) (by omega) (by omega)) dX0_putInt_21 (fun H locs hP _ hS => ?_)
          rw [wS_set] at hP
          generalize hU0 : upd a0_2 v_2.toNatClampNeg (vp_nar .byte v_6) = g_7 at hP
          have hRn : aR f0 N0 (-128) 127 → aR g_7 N0 (-128) 127 := fun h => aR_updB (hRn h) hU0
          clear hU0
          obtain ⟨x_8, ex_8⟩ : ∃ z : Int32, z = l3_2 + (1) := ⟨_, rfl⟩
          refine lv_iinc (v := x_8) (lv' := [(3, .int x_8), (0, .ref b0), (1, .int p1), (2, .int p2)]) hx hb dX0_putInt_22 hl (k := 0) rfl (by rw [ex_8]; rfl) (by decide) rfl (fun ls hl => ?_)
          have hx_8 : x_8.toInt = l3_2.toInt + (1) := by rw [ex_8]; exact (iv_add (by omega) (by omega)).trans (by omega)
          clear ex_8
          refine lv_goto (tgt := 2) hx hb dX0_putInt_25 (by decide) ?_
          exact ih2 x_8 g_7 _ _ _ (by omega) (by omega) (by assumption) (by omega) hP hS (lv_sub hl [0, 1, 2, 3] rfl)
    exact loop2 ((4 - 0 : Int).toNat + 1) (0 : Int32) f0 _ _ _ (by omega) (by omega) (by assumption) (by omega) hP hS (lv_sub hl [0, 1, 2, 3] rfl)
  exact main s.heap [] hP hS

set_option maxHeartbeats 4000000 in
set_option maxRecDepth 100000 in
theorem v_X0_putLong (l : Launch) (dC : Nat → ClassId) (dI : Nat → Nat → Nat) (ws : va_W) (tys : List (ClassId × FieldType)) (b0 N0 : Nat) (k0 : ClassId) (f0 : Nat → Int32) (q0 t0 : Nat) (p1 : Int32) (p2 : Int64) (sz : Nat) (e0 : ws[q0]? = some (b0, .inl (k0, N0, .inl f0))) (g0 : tys[t0]? = some (k0, .byte)) (hN0 : (N0 : Int) ≤ 2147483647) (hq0 : 0 ≤ p1.toInt) (hq1 : p1.toInt + 8 ≤ (N0 : Int)) : Met l yX0_putLong wsX0_putLong ({ frames := 0, cells := 0, slots := 0, locals := 0 }) (va_Pc [.ref b0, .int p1, .long p2] (fun U => U.heap.size = sz ∧ va_P (dC, dI) vwCl ws U.heap ∧ va_K (dC, dI) vwCl tys U ∧ va_D (fun _ => True) ws)) (va_Qv (fun (_ : Unit) => True) (fun _ t => ∃ (f9 : Nat → Int32), (aR f0 N0 (-128) 127 → aR f9 N0 (-128) 127) ∧ va_P (dC, dI) vwCl (wS ws q0 b0 k0 N0 f9) t.heap) (va_A ws sz)) 0 0 (va_A ws sz) := by
  refine Met.ofW (cc := cX0_putLong) (maxL := 5) (ret := none) (by decide) rfl ?_
  intro p e s m args below meth cM s₁ B hml hv
  obtain ⟨rfl, hsz, hP, hK, hD0⟩ := hv
  have hx := B.exec
  have hb := B.bytes
  have hr := B.returns
  have hts := atoms_spec (ws := wsX0_putLong) B.pre
  have hown : s.vm.findClass RX0 = some m.cls := findClass_of_methodNamed B.named
  subst hsz
  have hD := hD0.self (sz := s.heap.size)
  generalize hAe : va_A ws s.heap.size = A at hD ⊢
  have hA : ∀ q : Nat, s.heap.size ≤ q → A q := fun q h => by rw [← hAe]; exact Or.inr h
  have hS : va_S A s.heap s.heap [] := va_S.rf
  clear hAe hD0
  have hl := lv_entry ([.ref b0, .int p1, .long p2]) (n := 5) (Nat.le_of_ble_eq_true rfl)
  rw [lg_entry_eq]
  generalize (lg_sl ([.ref b0, .int p1, .long p2]) ++ List.replicate (5 - (lg_sl ([.ref b0, .int p1, .long p2])).length) Slot.unset).toArray = ls at hl ⊢
  have hl : lv_has ls 5 [(0, .ref b0), (1, .int p1), (2, .long p2)] := hl
  have z_0 : (0 : Int32).toInt = 0 := by decide
  have z_1 : (1 : Int32).toInt = 1 := by decide
  have z_8 : (8 : Int32).toInt = 8 := by decide
  have z_56 : (56 : Int32).toInt = 56 := by decide
  have hP : va_P (dC, dI) vwCl (wS ws q0 b0 k0 N0 f0) s.heap := by rw [wS_self e0]; exact hP
  have hRn : aR f0 N0 (-128) 127 → aR f0 N0 (-128) 127 := fun h => h
  have main : ∀ (H : Heap) (locs : List Loc), va_P (dC, dI) vwCl (wS ws q0 b0 k0 N0 f0) H → va_S A s.heap H locs → W p l e (headSpec wsX0_putLong ({ frames := 0, cells := 0, slots := 0, locals := 0 })).room s m ([.ref b0, .int p1, .long p2] : List Value).toArray below meth cM H locs 0 0 (MQ below (va_Qv (fun (_ : Unit) => True) (fun _ t => ∃ (f9 : Nat → Int32), (aR f0 N0 (-128) 127 → aR f9 N0 (-128) 127) ∧ va_P (dC, dI) vwCl (wS ws q0 b0 k0 N0 f9) t.heap) A) ([.ref b0, .int p1, .long p2] : List Value).toArray s 0 0 A) (F0 m 0 ls []) := by
    intro H locs hP hS
    refine lv_iconst (v := 0) hx hb dX0_putLong_0 (by decide) ?_
    refine lv_istore (lv' := [(4, .int (0 : Int32)), (0, .ref b0), (1, .int p1), (2, .long p2)]) hx hb dX0_putLong_1 hl (by decide) rfl (fun ls hl => ?_)
    have loop3 : ∀ (n : Nat) (l4_3 : Int32) (a0_3 : Nat → Int32) (H : Heap) (locs : List Loc) (ls : Array Slot), (0 ≤ l4_3.toInt) → (l4_3.toInt ≤ 8) → (aR f0 N0 (-128) 127 → aR a0_3 N0 (-128) 127) → (8 - l4_3.toInt : Int).toNat < n → va_P (dC, dI) vwCl (wS ws q0 b0 k0 N0 a0_3) H → va_S A s.heap H locs → lv_has ls 5 [(4, .int l4_3), (0, .ref b0), (1, .int p1), (2, .long p2)] → W p l e (headSpec wsX0_putLong ({ frames := 0, cells := 0, slots := 0, locals := 0 })).room s m ([.ref b0, .int p1, .long p2] : List Value).toArray below meth cM H locs 0 0 (MQ below (va_Qv (fun (_ : Unit) => True) (fun _ t => ∃ (f9 : Nat → Int32), (aR f0 N0 (-128) 127 → aR f9 N0 (-128) 127) ∧ va_P (dC, dI) vwCl (wS ws q0 b0 k0 N0 f9) t.heap) A) ([.ref b0, .int p1, .long p2] : List Value).toArray s 0 0 A) (F0 m 3 ls []) := by
      intro n
      induction n with
      | zero => intro l4_3 a0_3 H locs ls if0_3 if1_3 hRn hm; exact absurd hm (Nat.not_lt_zero _)
      | succ n ih3 =>
        intro l4_3 a0_3 H locs ls if0_3 if1_3 hRn hm3 hP hS hl
        refine lv_iload hx hb dX0_putLong_3 (lv_at hl 0 rfl) ?_
        refine lv_bipush (v := 8) hx hb dX0_putLong_5 (by decide) ?_
        refine lv_icmp_ge (tgt := 34) hx hb dX0_putLong_7 (by decide) (fun c_1 => ?_) (fun c_1 => ?_)
        · skip
          have ic_1 := iv_le c_1
          exact W.vret hx hb hr (fun t ht hW => ⟨⟨(), rfl, trivial, a0_3, hRn, by rw [ht]; exact hP⟩, hS.F ht⟩) hS.2.2 dX0_putLong_34
        · skip
          have ic_1 := iv_nle c_1
          refine lv_aload_n hx hb dX0_putLong_10 rfl (lv_at hl 1 rfl) ?_
          refine lv_iload_n hx hb dX0_putLong_11 rfl (lv_at hl 2 rfl) ?_
          refine lv_iload hx hb dX0_putLong_12 (lv_at hl 0 rfl) ?_
          refine lv_iadd hx hb dX0_putLong_14 ?_
          refine lv_topi (fun v_2 ev_2 => ?_)
          have rg1 := iv_rng p1
          have rg2 := iv_rng l4_3
          have hv_2 : v_2.toInt = p1.toInt + l4_3.toInt := by rw [ev_2]; exact (iv_add (by omega) (by omega)).trans (by omega)
          clear ev_2
          refine lv_lload_n hx hb dX0_putLong_15 rfl (lv_at hl 3 rfl) ?_
          refine lv_bipush (v := 56) hx hb dX0_putLong_16 (by decide) ?_
          refine lv_bipush (v := 8) hx hb dX0_putLong_18 (by decide) ?_
          refine lv_iload hx hb dX0_putLong_20 (lv_at hl 0 rfl) ?_
          refine lv_imul hx hb dX0_putLong_22 ?_
          refine lv_topi (fun v_3 ev_3 => ?_)
          have hv_3 : v_3.toInt = 8 * l4_3.toInt := by rw [ev_3]; exact (iv_mulc z_8 (by omega) (by omega)).trans (by omega)
          clear ev_3
          refine lv_isub hx hb dX0_putLong_23 ?_
          refine lv_topi (fun v_4 ev_4 => ?_)
          have rg3 := iv_rng v_3
          have hv_4 : v_4.toInt = 56 - v_3.toInt := by rw [ev_4]; exact (iv_sub (by omega) (by omega)).trans (by omega)
          clear ev_4
          refine lv_lushr hx hb dX0_putLong_24 rfl ?_
          refine lv_topl (fun w_5 ew_5 => ?_)
          clear ew_5
          refine lv_l2i hx hb dX0_putLong_25 rfl ?_
          refine lv_topi (fun v_6 ev_6 => ?_)
          clear ev_6
          refine lv_i2b hx hb dX0_putLong_26 rfl ?_
          refine lv_topi (fun v_7 ev_7 => ?_)
          clear ev_7
          refine va_bast (f := a0_3) hx hb hK hP (wS_D e0 hD) hS q0 t0 (wS_get e0) g0 (iv_in (i := v_2) (by omega) (by omega)) dX0_putLong_27 (fun H locs hP _ hS => ?_)
          rw [wS_set] at hP
          generalize hU0 : upd a0_3 v_2.toNatClampNeg (vp_nar .byte v_7) = g_8 at hP
          have hRn : aR f0 N0 (-128) 127 → aR g_8 N0 (-128) 127 := fun h => aR_updB (hRn h) hU0
          clear hU0
          obtain ⟨x_9, ex_9⟩ : ∃ z : Int32, z = l4_3 + (1) := ⟨_, rfl⟩
          refine lv_iinc (v := x_9) (lv' := [(4, .int x_9), (0, .ref b0), (1, .int p1), (2, .long p2)]) hx hb dX0_putLong_28 hl (k := 0) rfl (by rw [ex_9]; rfl) (by decide) rfl (fun ls hl => ?_)
          have hx_9 : x_9.toInt = l4_3.toInt + (1) := by rw [ex_9]; exact (iv_add (by omega) (by omega)).trans (by omega)
          clear ex_9
          refine lv_goto (tgt := 3) hx hb dX0_putLong_31 (by decide) ?_
          exact ih3 x_9 g_8 _ _ _ (by omega) (by omega) (by assumption) (by omega) hP hS (lv_sub hl [0, 1, 2, 3] rfl)
    exact loop3 ((8 - 0 : Int).toNat + 1) (0 : Int32) f0 _ _ _ (by omega) (by omega) (by assumption) (by omega) hP hS (lv_sub hl [0, 1, 2, 3] rfl)
  exact main s.heap [] hP hS

set_option maxHeartbeats 4000000 in
set_option maxRecDepth 100000 in
theorem v_X0_isZero (l : Launch) (dC : Nat → ClassId) (dI : Nat → Nat → Nat) (ws : va_W) (tys : List (ClassId × FieldType)) (b0 N0 : Nat) (k0 : ClassId) (f0 : Nat → Int32) (q0 t0 : Nat) (p1 : Int32) (p2 : Int32) (e0 : ws[q0]? = some (b0, .inl (k0, N0, .inl f0))) (g0 : tys[t0]? = some (k0, .byte)) (hN0 : (N0 : Int) ≤ 2147483647) (hq0 : 0 ≤ p1.toInt) (hq1 : 0 ≤ p2.toInt) (hq2 : p1.toInt + p2.toInt ≤ (N0 : Int)) : Met l yX0_isZero wsX0_isZero ({ frames := 0, cells := 0, slots := 0, locals := 0 }) (va_Pc [.ref b0, .int p1, .int p2] (fun U => va_P (dC, dI) vwCl ws U.heap ∧ va_K (dC, dI) vwCl tys U)) (vp_Si (fun r => (0 ≤ r.toInt) ∧ (r.toInt ≤ 1))) 0 0 (fun _ => False) := by
  refine Met.ofW (cc := cX0_isZero) (maxL := 4) (ret := (some .boolean)) (by decide) rfl ?_
  intro p e s m args below meth cM s₁ B hml hv
  obtain ⟨rfl, hP, hK⟩ := hv
  have hx := B.exec
  have hb := B.bytes
  have hr := B.returns
  have hts := atoms_spec (ws := wsX0_isZero) B.pre
  have hown : s.vm.findClass RX0 = some m.cls := findClass_of_methodNamed B.named
  have hl := lv_entry ([.ref b0, .int p1, .int p2]) (n := 4) (Nat.le_of_ble_eq_true rfl)
  rw [lg_entry_eq]
  generalize (lg_sl ([.ref b0, .int p1, .int p2]) ++ List.replicate (4 - (lg_sl ([.ref b0, .int p1, .int p2])).length) Slot.unset).toArray = ls at hl ⊢
  have hl : lv_has ls 4 [(0, .ref b0), (1, .int p1), (2, .int p2)] := hl
  have z_0 : (0 : Int32).toInt = 0 := by decide
  have z_1 : (1 : Int32).toInt = 1 := by decide
  refine lv_iload_n hx hb dX0_isZero_0 rfl (lv_at hl 1 rfl) ?_
  refine lv_istore_n (lv' := [(3, .int p1), (0, .ref b0), (1, .int p1), (2, .int p2)]) hx hb dX0_isZero_1 rfl hl (by decide) rfl (fun ls hl => ?_)
  have loop2 : ∀ (n : Nat) (l3_2 : Int32) (ls : Array Slot), (p1.toInt ≤ l3_2.toInt) → (l3_2.toInt ≤ p1.toInt + p2.toInt) → (p1.toInt + p2.toInt - l3_2.toInt : Int).toNat < n → lv_has ls 4 [(3, .int l3_2), (0, .ref b0), (1, .int p1), (2, .int p2)] → W p l e (headSpec wsX0_isZero ({ frames := 0, cells := 0, slots := 0, locals := 0 })).room s m ([.ref b0, .int p1, .int p2] : List Value).toArray below meth cM s.heap [] 0 0 (MQ below (vp_Si (fun r => (0 ≤ r.toInt) ∧ (r.toInt ≤ 1))) ([.ref b0, .int p1, .int p2] : List Value).toArray s 0 0 (fun _ => False)) (F0 m 2 ls []) := by
    intro n
    induction n with
    | zero => intro l3_2 ls if0_2 if1_2 hm; exact absurd hm (Nat.not_lt_zero _)
    | succ n ih2 =>
      intro l3_2 ls if0_2 if1_2 hm2 hl
      refine lv_iload_n hx hb dX0_isZero_2 rfl (lv_at hl 0 rfl) ?_
      refine lv_iload_n hx hb dX0_isZero_3 rfl (lv_at hl 2 rfl) ?_
      refine lv_iload_n hx hb dX0_isZero_4 rfl (lv_at hl 3 rfl) ?_
      refine lv_iadd hx hb dX0_isZero_5 ?_
      refine lv_topi (fun v_1 ev_1 => ?_)
      have rg1 := iv_rng p1
      have rg2 := iv_rng p2
      have hv_1 : v_1.toInt = p1.toInt + p2.toInt := by rw [ev_1]; exact (iv_add (by omega) (by omega)).trans (by omega)
      clear ev_1
      refine lv_icmp_ge (tgt := 23) hx hb dX0_isZero_6 (by decide) (fun c_2 => ?_) (fun c_2 => ?_)
      · skip
        have ic_2 := iv_le c_2
        refine lv_iconst (v := 1) hx hb dX0_isZero_23 (by decide) ?_
        exact W.zret hx hb hr rfl (fun t ht hW => ⟨_, rfl, ⟨(by omega), (by omega)⟩, ht⟩) (fun q h => by cases h) dX0_isZero_24
      · skip
        have ic_2 := iv_nle c_2
        refine lv_aload_n hx hb dX0_isZero_9 rfl (lv_at hl 1 rfl) ?_
        refine lv_iload_n hx hb dX0_isZero_10 rfl (lv_at hl 0 rfl) ?_
        refine va_bald (f := f0) hx hb hK hP q0 t0 e0 g0 (iv_in (i := l3_2) (by omega) (by omega)) dX0_isZero_11 ?_
        refine lv_topi (fun v_3 ev_3 => ?_)
        clear ev_3
        refine lv_if_eq (tgt := 17) hx hb dX0_isZero_12 (by decide) (fun c_4 => ?_) (fun c_4 => ?_)
        · skip
          have ic_4 := iv_eq c_4
          obtain ⟨x_5, ex_5⟩ : ∃ z : Int32, z = l3_2 + (1) := ⟨_, rfl⟩
          refine lv_iinc (v := x_5) (lv' := [(3, .int x_5), (0, .ref b0), (1, .int p1), (2, .int p2)]) hx hb dX0_isZero_17 hl (k := 0) rfl (by rw [ex_5]; rfl) (by decide) rfl (fun ls hl => ?_)
          have rg3 := iv_rng l3_2
          have hx_5 : x_5.toInt = l3_2.toInt + (1) := by rw [ex_5]; exact (iv_add (by omega) (by omega)).trans (by omega)
          clear ex_5
          refine lv_goto (tgt := 2) hx hb dX0_isZero_20 (by decide) ?_
          exact ih2 x_5 _ (by omega) (by omega) (by omega) (lv_sub hl [0, 1, 2, 3] rfl)
        · skip
          have ic_4 := iv_ne c_4
          refine lv_iconst (v := 0) hx hb dX0_isZero_15 (by decide) ?_
          exact W.zret hx hb hr rfl (fun t ht hW => ⟨_, rfl, ⟨(by omega), (by omega)⟩, ht⟩) (fun q h => by cases h) dX0_isZero_16
  exact loop2 ((p1.toInt + p2.toInt - p1.toInt : Int).toNat + 1) p1 _ (by omega) (by omega) (by omega) (lv_sub hl [0, 1, 2, 3] rfl)

set_option maxHeartbeats 4000000 in
set_option maxRecDepth 100000 in
theorem v_X0_isSame (l : Launch) (dC : Nat → ClassId) (dI : Nat → Nat → Nat) (ws : va_W) (tys : List (ClassId × FieldType)) (b0 N0 : Nat) (k0 : ClassId) (f0 : Nat → Int32) (q0 t0 : Nat) (b1 N1 : Nat) (k1 : ClassId) (f1 : Nat → Int32) (q1 t1 : Nat) (p2 : Int32) (p3 : Int32) (e0 : ws[q0]? = some (b0, .inl (k0, N0, .inl f0))) (g0 : tys[t0]? = some (k0, .byte)) (e1 : ws[q1]? = some (b1, .inl (k1, N1, .inl f1))) (g1 : tys[t1]? = some (k1, .byte)) (hN0 : (N0 : Int) ≤ 2147483647) (hN1 : (N1 : Int) ≤ 2147483647) (hq0 : 0 ≤ p2.toInt) (hq1 : 0 ≤ p3.toInt) (hq2 : p3.toInt ≤ (N0 : Int)) (hq3 : p2.toInt + p3.toInt ≤ (N1 : Int)) : Met l yX0_isSame wsX0_isSame ({ frames := 0, cells := 0, slots := 0, locals := 0 }) (va_Pc [.ref b0, .ref b1, .int p2, .int p3] (fun U => va_P (dC, dI) vwCl ws U.heap ∧ va_K (dC, dI) vwCl tys U)) (vp_Si (fun r => (0 ≤ r.toInt) ∧ (r.toInt ≤ 1))) 0 0 (fun _ => False) := by
  refine Met.ofW (cc := cX0_isSame) (maxL := 5) (ret := (some .boolean)) (by decide) rfl ?_
  intro p e s m args below meth cM s₁ B hml hv
  obtain ⟨rfl, hP, hK⟩ := hv
  have hx := B.exec
  have hb := B.bytes
  have hr := B.returns
  have hts := atoms_spec (ws := wsX0_isSame) B.pre
  have hown : s.vm.findClass RX0 = some m.cls := findClass_of_methodNamed B.named
  have hl := lv_entry ([.ref b0, .ref b1, .int p2, .int p3]) (n := 5) (Nat.le_of_ble_eq_true rfl)
  rw [lg_entry_eq]
  generalize (lg_sl ([.ref b0, .ref b1, .int p2, .int p3]) ++ List.replicate (5 - (lg_sl ([.ref b0, .ref b1, .int p2, .int p3])).length) Slot.unset).toArray = ls at hl ⊢
  have hl : lv_has ls 5 [(0, .ref b0), (1, .ref b1), (2, .int p2), (3, .int p3)] := hl
  have z_0 : (0 : Int32).toInt = 0 := by decide
  have z_1 : (1 : Int32).toInt = 1 := by decide
  refine lv_iconst (v := 0) hx hb dX0_isSame_0 (by decide) ?_
  refine lv_istore (lv' := [(4, .int (0 : Int32)), (0, .ref b0), (1, .ref b1), (2, .int p2), (3, .int p3)]) hx hb dX0_isSame_1 hl (by decide) rfl (fun ls hl => ?_)
  have loop3 : ∀ (n : Nat) (l4_3 : Int32) (ls : Array Slot), (0 ≤ l4_3.toInt) → (l4_3.toInt ≤ p3.toInt) → (p3.toInt - l4_3.toInt : Int).toNat < n → lv_has ls 5 [(4, .int l4_3), (0, .ref b0), (1, .ref b1), (2, .int p2), (3, .int p3)] → W p l e (headSpec wsX0_isSame ({ frames := 0, cells := 0, slots := 0, locals := 0 })).room s m ([.ref b0, .ref b1, .int p2, .int p3] : List Value).toArray below meth cM s.heap [] 0 0 (MQ below (vp_Si (fun r => (0 ≤ r.toInt) ∧ (r.toInt ≤ 1))) ([.ref b0, .ref b1, .int p2, .int p3] : List Value).toArray s 0 0 (fun _ => False)) (F0 m 3 ls []) := by
    intro n
    induction n with
    | zero => intro l4_3 ls if0_3 if1_3 hm; exact absurd hm (Nat.not_lt_zero _)
    | succ n ih3 =>
      intro l4_3 ls if0_3 if1_3 hm3 hl
      refine lv_iload hx hb dX0_isSame_3 (lv_at hl 0 rfl) ?_
      refine lv_iload_n hx hb dX0_isSame_5 rfl (lv_at hl 4 rfl) ?_
      refine lv_icmp_ge (tgt := 30) hx hb dX0_isSame_6 (by decide) (fun c_1 => ?_) (fun c_1 => ?_)
      · skip
        have ic_1 := iv_le c_1
        refine lv_iconst (v := 1) hx hb dX0_isSame_30 (by decide) ?_
        exact W.zret hx hb hr rfl (fun t ht hW => ⟨_, rfl, ⟨(by omega), (by omega)⟩, ht⟩) (fun q h => by cases h) dX0_isSame_31
      · skip
        have ic_1 := iv_nle c_1
        refine lv_aload_n hx hb dX0_isSame_9 rfl (lv_at hl 1 rfl) ?_
        refine lv_iload hx hb dX0_isSame_10 (lv_at hl 0 rfl) ?_
        refine va_bald (f := f0) hx hb hK hP q0 t0 e0 g0 (iv_in (i := l4_3) (by omega) (by omega)) dX0_isSame_12 ?_
        refine lv_topi (fun v_2 ev_2 => ?_)
        clear ev_2
        refine lv_aload_n hx hb dX0_isSame_13 rfl (lv_at hl 2 rfl) ?_
        refine lv_iload_n hx hb dX0_isSame_14 rfl (lv_at hl 3 rfl) ?_
        refine lv_iload hx hb dX0_isSame_15 (lv_at hl 0 rfl) ?_
        refine lv_iadd hx hb dX0_isSame_17 ?_
        refine lv_topi (fun v_3 ev_3 => ?_)
        have rg1 := iv_rng p2
        have rg2 := iv_rng l4_3
        have hv_3 : v_3.toInt = p2.toInt + l4_3.toInt := by rw [ev_3]; exact (iv_add (by omega) (by omega)).trans (by omega)
        clear ev_3
        refine va_bald (f := f1) hx hb hK hP q1 t1 e1 g1 (iv_in (i := v_3) (by omega) (by omega)) dX0_isSame_18 ?_
        refine lv_topi (fun v_4 ev_4 => ?_)
        clear ev_4
        refine lv_icmp_eq (tgt := 24) hx hb dX0_isSame_19 (by decide) (fun c_5 => ?_) (fun c_5 => ?_)
        · skip
          have ic_5 := iv_eq c_5
          obtain ⟨x_6, ex_6⟩ : ∃ z : Int32, z = l4_3 + (1) := ⟨_, rfl⟩
          refine lv_iinc (v := x_6) (lv' := [(4, .int x_6), (0, .ref b0), (1, .ref b1), (2, .int p2), (3, .int p3)]) hx hb dX0_isSame_24 hl (k := 0) rfl (by rw [ex_6]; rfl) (by decide) rfl (fun ls hl => ?_)
          have hx_6 : x_6.toInt = l4_3.toInt + (1) := by rw [ex_6]; exact (iv_add (by omega) (by omega)).trans (by omega)
          clear ex_6
          refine lv_goto (tgt := 3) hx hb dX0_isSame_27 (by decide) ?_
          exact ih3 x_6 _ (by omega) (by omega) (by omega) (lv_sub hl [0, 1, 2, 3, 4] rfl)
        · skip
          have ic_5 := iv_ne c_5
          refine lv_iconst (v := 0) hx hb dX0_isSame_22 (by decide) ?_
          exact W.zret hx hb hr rfl (fun t ht hW => ⟨_, rfl, ⟨(by omega), (by omega)⟩, ht⟩) (fun q h => by cases h) dX0_isSame_23
  exact loop3 ((p3.toInt - 0 : Int).toNat + 1) (0 : Int32) _ (by omega) (by omega) (by omega) (lv_sub hl [0, 1, 2, 3, 4] rfl)

set_option maxHeartbeats 4000000 in
set_option maxRecDepth 100000 in
theorem v_X0_close (l : Launch) (dC : Nat → ClassId) (dI : Nat → Nat → Nat) (ws : va_W) (tys : List (ClassId × FieldType)) (b0 N0 : Nat) (k0 : ClassId) (f0 : Nat → Int32) (q0 t0 : Nat) (p1 : Int32) (p2 : Int32) (sz : Nat) (e0 : ws[q0]? = some (b0, .inl (k0, N0, .inl f0))) (g0 : tys[t0]? = some (k0, .byte)) (hN0 : (N0 : Int) ≤ 2147483647) (hq0 : 0 ≤ p1.toInt) (hq1 : p1.toInt + 9 ≤ (N0 : Int)) : Met l yX0_close wsX0_close ({ frames := 2, cells := 0, slots := 0, locals := 50 }) (va_Pc [.ref b0, .int p1, .int p2] (fun U => U.heap.size = sz ∧ va_P (dC, dI) vwCl ws U.heap ∧ va_K (dC, dI) vwCl tys U ∧ va_D (fun _ => True) ws)) (va_Qv (fun (_ : Unit) => True) (fun _ t => ∃ (f9 : Nat → Int32), (aR f0 N0 (-128) 127 → aR f9 N0 (-128) 127) ∧ va_P (dC, dI) vwCl (wS ws q0 b0 k0 N0 f9) t.heap) (va_A ws sz)) 0 0 (va_A ws sz) := by
  refine Met.ofW (cc := cX0_close) (maxL := 3) (ret := none) (by decide) rfl ?_
  intro p e s m args below meth cM s₁ B hml hv
  obtain ⟨rfl, hsz, hP, hK, hD0⟩ := hv
  have hx := B.exec
  have hb := B.bytes
  have hr := B.returns
  have hts := atoms_spec (ws := wsX0_close) B.pre
  have hown : s.vm.findClass RX0 = some m.cls := findClass_of_methodNamed B.named
  subst hsz
  have hD := hD0.self (sz := s.heap.size)
  generalize hAe : va_A ws s.heap.size = A at hD ⊢
  have hA : ∀ q : Nat, s.heap.size ≤ q → A q := fun q h => by rw [← hAe]; exact Or.inr h
  have hS : va_S A s.heap s.heap [] := va_S.rf
  clear hAe hD0
  have hl := lv_entry ([.ref b0, .int p1, .int p2]) (n := 3) (Nat.le_of_ble_eq_true rfl)
  rw [lg_entry_eq]
  generalize (lg_sl ([.ref b0, .int p1, .int p2]) ++ List.replicate (3 - (lg_sl ([.ref b0, .int p1, .int p2])).length) Slot.unset).toArray = ls at hl ⊢
  have hl : lv_has ls 3 [(0, .ref b0), (1, .int p1), (2, .int p2)] := hl
  have z_m91 : (-91 : Int32).toInt = -91 := by decide
  have z_0 : (0 : Int32).toInt = 0 := by decide
  have z_8 : (8 : Int32).toInt = 8 := by decide
  have hP : va_P (dC, dI) vwCl (wS ws q0 b0 k0 N0 f0) s.heap := by rw [wS_self e0]; exact hP
  have hRn : aR f0 N0 (-128) 127 → aR f0 N0 (-128) 127 := fun h => h
  have main : ∀ (H : Heap) (locs : List Loc), va_P (dC, dI) vwCl (wS ws q0 b0 k0 N0 f0) H → va_S A s.heap H locs → W p l e (headSpec wsX0_close ({ frames := 2, cells := 0, slots := 0, locals := 50 })).room s m ([.ref b0, .int p1, .int p2] : List Value).toArray below meth cM H locs 0 0 (MQ below (va_Qv (fun (_ : Unit) => True) (fun _ t => ∃ (f9 : Nat → Int32), (aR f0 N0 (-128) 127 → aR f9 N0 (-128) 127) ∧ va_P (dC, dI) vwCl (wS ws q0 b0 k0 N0 f9) t.heap) A) ([.ref b0, .int p1, .int p2] : List Value).toArray s 0 0 A) (F0 m 0 ls []) := by
    intro H locs hP hS
    refine lv_aload_n hx hb dX0_close_0 rfl (lv_at hl 0 rfl) ?_
    refine lv_iload_n hx hb dX0_close_1 rfl (lv_at hl 1 rfl) ?_
    refine lv_aload_n hx hb dX0_close_2 rfl (lv_at hl 0 rfl) ?_
    refine lv_iconst (v := 0) hx hb dX0_close_3 (by decide) ?_
    refine lv_iload_n hx hb dX0_close_4 rfl (lv_at hl 1 rfl) ?_
    refine lv_iload_n hx hb dX0_close_5 rfl (lv_at hl 2 rfl) ?_
    refine vp_callSl (va_Run.run (va_runS (As := [.ref b0, .int (0 : Int32), .int p1, .int p2]) (rest := [.int p1, .ref b0]) ⟨hx, hb, hml, hown, hts⟩ (v_X0_sum l dC dI (wS ws q0 b0 k0 N0 f0) tys b0 N0 k0 f0 q0 t0 (0 : Int32) p1 p2 (wS_get e0) g0 (by omega) (by omega) (by omega) (by omega)) (va_cwS 4 hts gX0_close_X0_sum rfl rfl rfl (by decide +kernel) ⟨Nat.le_of_ble_eq_true rfl, Nat.le_of_ble_eq_true rfl⟩) ⟨fun a U g mk q => by obtain ⟨q0, qP, qK⟩ := q; exact ⟨q0, qP, va_K.moved (u := U) (U := U.calling g mk a) (Vm.Alike.refl U.vm) qK⟩, fun U hU hW => ⟨rfl, by rw [hU]; exact hP, va_K.moved hW.alike hK⟩⟩ rfl rfl hl.1 rfl (lv_room (Nat.le_of_ble_eq_true rfl)) dX0_close_6 ⟨Nat.le_of_ble_eq_true rfl, Nat.le_of_ble_eq_true rfl⟩)) (fun r_1 er_1 => ?_)
    have hFc := vfree ((wS_D e0 hD : va_D A (wS ws q0 b0 k0 N0 f0)) : va_D A (wS ws q0 b0 k0 N0 f0)) hS hA
    refine va_callv (va_runS (As := [.ref b0, .int p1, .long r_1]) (rest := []) ⟨hx, hb, hml, hown, hts⟩ (v_X0_putLong l dC dI (wS ws q0 b0 k0 N0 f0) tys b0 N0 k0 f0 q0 t0 p1 r_1 _ (wS_get e0) g0 (by omega) (by omega) (by omega)) (va_cwS 3 hts gX0_close_X0_putLong rfl rfl rfl (by decide +kernel) ⟨Nat.le_of_ble_eq_true rfl, Nat.le_of_ble_eq_true rfl⟩) ⟨fun a U g mk q => by obtain ⟨q0, q1, qP, qK, qD⟩ := q; exact ⟨q0, q1, qP, va_K.moved (u := U) (U := U.calling g mk a) (Vm.Alike.refl U.vm) qK, qD⟩, fun U hU hW => ⟨rfl, by rw [hU], by rw [hU]; exact hP, va_K.moved hW.alike hK, ((wS_D e0 hD : va_D A (wS ws q0 b0 k0 N0 f0))).weaken (fun _ _ _ _ => trivial)⟩⟩ rfl rfl hl.1 rfl (lv_room (Nat.le_of_ble_eq_true rfl)) dX0_close_9 ⟨Nat.le_of_ble_eq_true rfl, Nat.le_of_ble_eq_true rfl⟩) hS (fun q _ h => hFc q h) hFc (fun ur_2 t H1 locs ht hvm er_2 hB hz1 hk1 hS => ?_)
    obtain ⟨f_2, hRc, hP1⟩ := hB
    rw [ht] at hP1
    clear hFc hz1 hk1 hvm hP
    subst ht
    have hP := hP1
    clear hP1
    generalize t.heap = H at hP hS ⊢
    have hP : va_P (dC, dI) vwCl (wS ws q0 b0 k0 N0 f_2) H := by first | exact hP | (rw [wS_wS] at hP; exact hP)
    have hRn : aR f0 N0 (-128) 127 → aR f_2 N0 (-128) 127 := fun h => hRc (hRn h)
    refine lv_aload_n hx hb dX0_close_12 rfl (lv_at hl 0 rfl) ?_
    refine lv_iload_n hx hb dX0_close_13 rfl (lv_at hl 1 rfl) ?_
    refine lv_bipush (v := 8) hx hb dX0_close_14 (by decide) ?_
    refine lv_iadd hx hb dX0_close_16 ?_
    refine lv_topi (fun v_3 ev_3 => ?_)
    have rg1 := iv_rng p1
    have hv_3 : v_3.toInt = p1.toInt + 8 := by rw [ev_3]; exact (iv_add (by omega) (by omega)).trans (by omega)
    clear ev_3
    refine lv_bipush (v := (-91)) hx hb dX0_close_17 (by decide) ?_
    refine va_bast (f := f_2) hx hb hK hP (wS_D e0 hD) hS q0 t0 (wS_get e0) g0 (iv_in (i := v_3) (by omega) (by omega)) dX0_close_19 (fun H locs hP _ hS => ?_)
    rw [wS_set] at hP
    generalize hU0 : upd f_2 v_3.toNatClampNeg (vp_nar .byte (-91 : Int32)) = g_4 at hP
    have hRn : aR f0 N0 (-128) 127 → aR g_4 N0 (-128) 127 := fun h => aR_updB (hRn h) hU0
    clear hU0
    exact W.vret hx hb hr (fun t ht hW => ⟨⟨(), rfl, trivial, g_4, hRn, by rw [ht]; exact hP⟩, hS.F ht⟩) hS.2.2 dX0_close_20
  exact main s.heap [] hP hS

set_option maxHeartbeats 4000000 in
set_option maxRecDepth 100000 in
theorem v_X0_judge (l : Launch) (dC : Nat → ClassId) (dI : Nat → Nat → Nat) (ws : va_W) (tys : List (ClassId × FieldType)) (b0 N0 : Nat) (k0 : ClassId) (f0 : Nat → Int32) (q0 t0 : Nat) (p1 : Int32) (p2 : Int32) (p3 : Int32) (e0 : ws[q0]? = some (b0, .inl (k0, N0, .inl f0))) (g0 : tys[t0]? = some (k0, .byte)) (hN0 : (N0 : Int) ≤ 2147483647) (hq0 : 0 ≤ p1.toInt) (hq1 : 0 ≤ p2.toInt) (hq2 : p2.toInt ≤ 64) (hq3 : p1.toInt + p2.toInt + 9 ≤ (N0 : Int)) : Met l yX0_judge wsX0_judge ({ frames := 2, cells := 0, slots := 0, locals := 50 }) (va_Pc [.ref b0, .int p1, .int p2, .int p3] (fun U => va_P (dC, dI) vwCl ws U.heap ∧ va_K (dC, dI) vwCl tys U)) (vp_Si (fun r => (1 ≤ r.toInt) ∧ (r.toInt ≤ 4))) 0 0 (fun _ => False) := by
  refine Met.ofW (cc := cX0_judge) (maxL := 7) (ret := (some .int)) (by decide) rfl ?_
  intro p e s m args below meth cM s₁ B hml hv
  obtain ⟨rfl, hP, hK⟩ := hv
  have hx := B.exec
  have hb := B.bytes
  have hr := B.returns
  have hts := atoms_spec (ws := wsX0_judge) B.pre
  have hown : s.vm.findClass RX0 = some m.cls := findClass_of_methodNamed B.named
  have hl := lv_entry ([.ref b0, .int p1, .int p2, .int p3]) (n := 7) (Nat.le_of_ble_eq_true rfl)
  rw [lg_entry_eq]
  generalize (lg_sl ([.ref b0, .int p1, .int p2, .int p3]) ++ List.replicate (7 - (lg_sl ([.ref b0, .int p1, .int p2, .int p3])).length) Slot.unset).toArray = ls at hl ⊢
  have hl : lv_has ls 7 [(0, .ref b0), (1, .int p1), (2, .int p2), (3, .int p3)] := hl
  have z_0 : (0 : Int32).toInt = 0 := by decide
  have z_1 : (1 : Int32).toInt = 1 := by decide
  have z_2 : (2 : Int32).toInt = 2 := by decide
  have z_3 : (3 : Int32).toInt = 3 := by decide
  have z_4 : (4 : Int32).toInt = 4 := by decide
  have z_8 : (8 : Int32).toInt = 8 := by decide
  have z_165 : (165 : Int32).toInt = 165 := by decide
  have z_255 : (255 : Int32).toInt = 255 := by decide
  refine lv_aload_n hx hb dX0_judge_0 rfl (lv_at hl 0 rfl) ?_
  refine lv_iload_n hx hb dX0_judge_1 rfl (lv_at hl 1 rfl) ?_
  refine lv_iload_n hx hb dX0_judge_2 rfl (lv_at hl 2 rfl) ?_
  refine lv_iadd hx hb dX0_judge_3 ?_
  refine lv_topi (fun v_1 ev_1 => ?_)
  have rg1 := iv_rng p1
  have rg2 := iv_rng p2
  have hv_1 : v_1.toInt = p1.toInt + p2.toInt := by rw [ev_1]; exact (iv_add (by omega) (by omega)).trans (by omega)
  clear ev_1
  refine lv_bipush (v := 8) hx hb dX0_judge_4 (by decide) ?_
  refine lv_iadd hx hb dX0_judge_6 ?_
  refine lv_topi (fun v_2 ev_2 => ?_)
  have rg3 := iv_rng v_1
  have hv_2 : v_2.toInt = v_1.toInt + 8 := by rw [ev_2]; exact (iv_add (by omega) (by omega)).trans (by omega)
  clear ev_2
  refine va_bald (f := f0) hx hb hK hP q0 t0 e0 g0 (iv_in (i := v_2) (by omega) (by omega)) dX0_judge_7 ?_
  refine lv_topi (fun v_3 ev_3 => ?_)
  clear ev_3
  refine lv_sipush (v := 255) hx hb dX0_judge_8 (by decide) ?_
  refine lv_iand hx hb dX0_judge_11 ?_
  refine lv_topi (fun v_4 ev_4 => ?_)
  have hv_4 : 0 ≤ v_4.toInt ∧ v_4.toInt ≤ 255 := by rw [ev_4]; exact iv_and255 _
  clear ev_4
  refine lv_istore (lv' := [(4, .int v_4), (0, .ref b0), (1, .int p1), (2, .int p2), (3, .int p3)]) hx hb dX0_judge_12 hl (by decide) rfl (fun ls hl => ?_)
  refine lv_aload_n hx hb dX0_judge_14 rfl (lv_at hl 1 rfl) ?_
  refine lv_iload_n hx hb dX0_judge_15 rfl (lv_at hl 2 rfl) ?_
  refine lv_iload_n hx hb dX0_judge_16 rfl (lv_at hl 3 rfl) ?_
  refine lv_bipush (v := 8) hx hb dX0_judge_17 (by decide) ?_
  refine lv_iadd hx hb dX0_judge_19 ?_
  refine lv_topi (fun v_5 ev_5 => ?_)
  have hv_5 : v_5.toInt = p2.toInt + 8 := by rw [ev_5]; exact (iv_add (by omega) (by omega)).trans (by omega)
  clear ev_5
  refine vp_callSi (va_Run.run (va_runS (As := [.ref b0, .int p1, .int v_5]) (rest := []) ⟨hx, hb, hml, hown, hts⟩ (v_X0_isZero l dC dI (ws) tys b0 N0 k0 f0 q0 t0 p1 v_5 e0 g0 (by omega) (by omega) (by omega) (by omega)) (va_cwS 3 hts gX0_judge_X0_isZero rfl rfl rfl (by decide +kernel) ⟨Nat.le_of_ble_eq_true rfl, Nat.le_of_ble_eq_true rfl⟩) ⟨fun a U g mk q => by obtain ⟨q0, qP, qK⟩ := q; exact ⟨q0, qP, va_K.moved (u := U) (U := U.calling g mk a) (Vm.Alike.refl U.vm) qK⟩, fun U hU hW => ⟨rfl, by rw [hU]; exact hP, va_K.moved hW.alike hK⟩⟩ rfl rfl hl.1 rfl (lv_room (Nat.le_of_ble_eq_true rfl)) dX0_judge_20 ⟨Nat.le_of_ble_eq_true rfl, Nat.le_of_ble_eq_true rfl⟩)) (fun r_6 er_6 => ?_)
  obtain ⟨k_7, k_8⟩ := er_6
  rcases iv_01 (a := r_6) (by omega) (by omega) with b_9 | b_9
  · skip
    have ib_9 := iv_eq b_9
    rw [b_9]
    refine lv_if_eq (tgt := 37) hx hb dX0_judge_23 (by decide) (fun c_10 => ?_) (fun c_10 => ?_)
    · skip
      have ic_10 := iv_eq c_10
      refine lv_aload_n hx hb dX0_judge_37 rfl (lv_at hl 1 rfl) ?_
      refine lv_iload_n hx hb dX0_judge_38 rfl (lv_at hl 2 rfl) ?_
      refine lv_iload_n hx hb dX0_judge_39 rfl (lv_at hl 3 rfl) ?_
      refine lv_iadd hx hb dX0_judge_40 ?_
      refine lv_topi (fun v_11 ev_11 => ?_)
      have hv_11 : v_11.toInt = p1.toInt + p2.toInt := by rw [ev_11]; exact (iv_add (by omega) (by omega)).trans (by omega)
      clear ev_11
      refine vp_callSl (va_Run.run (va_runS (As := [.ref b0, .int v_11]) (rest := []) ⟨hx, hb, hml, hown, hts⟩ (v_X0_longAt l dC dI (ws) tys b0 N0 k0 f0 q0 t0 v_11 e0 g0 (by omega) (by omega) (by omega)) (va_cwS 2 hts gX0_judge_X0_longAt rfl rfl rfl (by decide +kernel) ⟨Nat.le_of_ble_eq_true rfl, Nat.le_of_ble_eq_true rfl⟩) ⟨fun a U g mk q => by obtain ⟨q0, qP, qK⟩ := q; exact ⟨q0, qP, va_K.moved (u := U) (U := U.calling g mk a) (Vm.Alike.refl U.vm) qK⟩, fun U hU hW => ⟨rfl, by rw [hU]; exact hP, va_K.moved hW.alike hK⟩⟩ rfl rfl hl.1 rfl (lv_room (Nat.le_of_ble_eq_true rfl)) dX0_judge_41 ⟨Nat.le_of_ble_eq_true rfl, Nat.le_of_ble_eq_true rfl⟩)) (fun r_12 er_12 => ?_)
      refine lv_lstore (lv' := [(5, .long r_12), (4, .int v_4), (0, .ref b0), (1, .int p1), (2, .int p2), (3, .int p3)]) hx hb dX0_judge_44 hl (by decide) rfl (fun ls hl => ?_)
      refine lv_lload hx hb dX0_judge_46 (lv_at hl 0 rfl) ?_
      refine lv_lconst (v := 0) hx hb dX0_judge_48 (by decide) ?_
      refine W.lcmp hx hb dX0_judge_49 ?_
      refine lv_topi (fun v_13 ev_13 => ?_)
      clear ev_13
      refine lv_if_ne (tgt := 61) hx hb dX0_judge_50 (by decide) (fun c_14 => ?_) (fun c_14 => ?_)
      · skip
        have ic_14 := iv_ne c_14
        refine lv_lload hx hb dX0_judge_61 (lv_at hl 0 rfl) ?_
        refine lv_aload_n hx hb dX0_judge_63 rfl (lv_at hl 2 rfl) ?_
        refine lv_iload_n hx hb dX0_judge_64 rfl (lv_at hl 3 rfl) ?_
        refine lv_iload_n hx hb dX0_judge_65 rfl (lv_at hl 4 rfl) ?_
        refine lv_iload_n hx hb dX0_judge_66 rfl (lv_at hl 5 rfl) ?_
        refine vp_callSl (va_Run.run (va_runS (As := [.ref b0, .int p1, .int p2, .int p3]) (rest := [.long r_12]) ⟨hx, hb, hml, hown, hts⟩ (v_X0_sum l dC dI (ws) tys b0 N0 k0 f0 q0 t0 p1 p2 p3 e0 g0 (by omega) (by omega) (by omega) (by omega)) (va_cwS 4 hts gX0_judge_X0_sum rfl rfl rfl (by decide +kernel) ⟨Nat.le_of_ble_eq_true rfl, Nat.le_of_ble_eq_true rfl⟩) ⟨fun a U g mk q => by obtain ⟨q0, qP, qK⟩ := q; exact ⟨q0, qP, va_K.moved (u := U) (U := U.calling g mk a) (Vm.Alike.refl U.vm) qK⟩, fun U hU hW => ⟨rfl, by rw [hU]; exact hP, va_K.moved hW.alike hK⟩⟩ rfl rfl hl.1 rfl (lv_room (Nat.le_of_ble_eq_true rfl)) dX0_judge_67 ⟨Nat.le_of_ble_eq_true rfl, Nat.le_of_ble_eq_true rfl⟩)) (fun r_15 er_15 => ?_)
        refine W.lcmp hx hb dX0_judge_70 ?_
        refine lv_topi (fun v_16 ev_16 => ?_)
        clear ev_16
        refine lv_if_ne (tgt := 76) hx hb dX0_judge_71 (by decide) (fun c_17 => ?_) (fun c_17 => ?_)
        · skip
          have ic_17 := iv_ne c_17
          refine lv_iload hx hb dX0_judge_76 (lv_at hl 1 rfl) ?_
          refine lv_if_ne (tgt := 85) hx hb dX0_judge_78 (by decide) (fun c_18 => ?_) (fun c_18 => ?_)
          · skip
            have ic_18 := iv_ne c_18
            refine lv_iconst (v := 4) hx hb dX0_judge_85 (by decide) ?_
            exact W.iret hx hb hr (fun t ht hW => ⟨_, rfl, ⟨(by omega), (by omega)⟩, ht⟩) (fun q h => by cases h) dX0_judge_86
          · skip
            have ic_18 := iv_eq c_18
            refine lv_iconst (v := 3) hx hb dX0_judge_81 (by decide) ?_
            refine lv_goto (tgt := 86) hx hb dX0_judge_82 (by decide) ?_
            exact W.iret hx hb hr (fun t ht hW => ⟨_, rfl, ⟨(by omega), (by omega)⟩, ht⟩) (fun q h => by cases h) dX0_judge_86
        · skip
          have ic_17 := iv_eq c_17
          refine lv_iconst (v := 2) hx hb dX0_judge_74 (by decide) ?_
          exact W.iret hx hb hr (fun t ht hW => ⟨_, rfl, ⟨(by omega), (by omega)⟩, ht⟩) (fun q h => by cases h) dX0_judge_75
      · skip
        have ic_14 := iv_eq c_14
        refine lv_iload hx hb dX0_judge_53 (lv_at hl 1 rfl) ?_
        refine lv_sipush (v := 165) hx hb dX0_judge_55 (by decide) ?_
        refine lv_icmp_ne (tgt := 76) hx hb dX0_judge_58 (by decide) (fun c_19 => ?_) (fun c_19 => ?_)
        · skip
          have ic_19 := iv_ne c_19
          refine lv_iload hx hb dX0_judge_76 (lv_at hl 1 rfl) ?_
          refine lv_if_ne (tgt := 85) hx hb dX0_judge_78 (by decide) (fun c_20 => ?_) (fun c_20 => ?_)
          · skip
            have ic_20 := iv_ne c_20
            refine lv_iconst (v := 4) hx hb dX0_judge_85 (by decide) ?_
            exact W.iret hx hb hr (fun t ht hW => ⟨_, rfl, ⟨(by omega), (by omega)⟩, ht⟩) (fun q h => by cases h) dX0_judge_86
          · skip
            have ic_20 := iv_eq c_20
            refine lv_iconst (v := 3) hx hb dX0_judge_81 (by decide) ?_
            refine lv_goto (tgt := 86) hx hb dX0_judge_82 (by decide) ?_
            exact W.iret hx hb hr (fun t ht hW => ⟨_, rfl, ⟨(by omega), (by omega)⟩, ht⟩) (fun q h => by cases h) dX0_judge_86
        · skip
          have ic_19 := iv_eq c_19
          refine lv_lload hx hb dX0_judge_61 (lv_at hl 0 rfl) ?_
          refine lv_aload_n hx hb dX0_judge_63 rfl (lv_at hl 2 rfl) ?_
          refine lv_iload_n hx hb dX0_judge_64 rfl (lv_at hl 3 rfl) ?_
          refine lv_iload_n hx hb dX0_judge_65 rfl (lv_at hl 4 rfl) ?_
          refine lv_iload_n hx hb dX0_judge_66 rfl (lv_at hl 5 rfl) ?_
          refine vp_callSl (va_Run.run (va_runS (As := [.ref b0, .int p1, .int p2, .int p3]) (rest := [.long r_12]) ⟨hx, hb, hml, hown, hts⟩ (v_X0_sum l dC dI (ws) tys b0 N0 k0 f0 q0 t0 p1 p2 p3 e0 g0 (by omega) (by omega) (by omega) (by omega)) (va_cwS 4 hts gX0_judge_X0_sum rfl rfl rfl (by decide +kernel) ⟨Nat.le_of_ble_eq_true rfl, Nat.le_of_ble_eq_true rfl⟩) ⟨fun a U g mk q => by obtain ⟨q0, qP, qK⟩ := q; exact ⟨q0, qP, va_K.moved (u := U) (U := U.calling g mk a) (Vm.Alike.refl U.vm) qK⟩, fun U hU hW => ⟨rfl, by rw [hU]; exact hP, va_K.moved hW.alike hK⟩⟩ rfl rfl hl.1 rfl (lv_room (Nat.le_of_ble_eq_true rfl)) dX0_judge_67 ⟨Nat.le_of_ble_eq_true rfl, Nat.le_of_ble_eq_true rfl⟩)) (fun r_21 er_21 => ?_)
          refine W.lcmp hx hb dX0_judge_70 ?_
          refine lv_topi (fun v_22 ev_22 => ?_)
          clear ev_22
          refine lv_if_ne (tgt := 76) hx hb dX0_judge_71 (by decide) (fun c_23 => ?_) (fun c_23 => ?_)
          · skip
            have ic_23 := iv_ne c_23
            refine lv_iload hx hb dX0_judge_76 (lv_at hl 1 rfl) ?_
            refine lv_if_ne (tgt := 85) hx hb dX0_judge_78 (by decide) (fun c_24 => ?_) (fun c_24 => ?_)
            · skip
              have ic_24 := iv_ne c_24
              refine lv_iconst (v := 4) hx hb dX0_judge_85 (by decide) ?_
              exact W.iret hx hb hr (fun t ht hW => ⟨_, rfl, ⟨(by omega), (by omega)⟩, ht⟩) (fun q h => by cases h) dX0_judge_86
            · skip
              have ic_24 := iv_eq c_24
              exfalso
              omega
          · skip
            have ic_23 := iv_eq c_23
            refine lv_iconst (v := 2) hx hb dX0_judge_74 (by decide) ?_
            exact W.iret hx hb hr (fun t ht hW => ⟨_, rfl, ⟨(by omega), (by omega)⟩, ht⟩) (fun q h => by cases h) dX0_judge_75
    · skip
      have ic_10 := iv_ne c_10
      exfalso
      omega
  · skip
    have ib_9 := iv_eq b_9
    rw [b_9]
    refine lv_if_eq (tgt := 37) hx hb dX0_judge_23 (by decide) (fun c_25 => ?_) (fun c_25 => ?_)
    · skip
      have ic_25 := iv_eq c_25
      exfalso
      omega
    · skip
      have ic_25 := iv_ne c_25
      refine lv_iload hx hb dX0_judge_26 (lv_at hl 0 rfl) ?_
      refine lv_if_ne (tgt := 35) hx hb dX0_judge_28 (by decide) (fun c_26 => ?_) (fun c_26 => ?_)
      · skip
        have ic_26 := iv_ne c_26
        refine lv_iconst (v := 3) hx hb dX0_judge_35 (by decide) ?_
        exact W.iret hx hb hr (fun t ht hW => ⟨_, rfl, ⟨(by omega), (by omega)⟩, ht⟩) (fun q h => by cases h) dX0_judge_36
      · skip
        have ic_26 := iv_eq c_26
        refine lv_iconst (v := 1) hx hb dX0_judge_31 (by decide) ?_
        refine lv_goto (tgt := 36) hx hb dX0_judge_32 (by decide) ?_
        exact W.iret hx hb hr (fun t ht hW => ⟨_, rfl, ⟨(by omega), (by omega)⟩, ht⟩) (fun q h => by cases h) dX0_judge_36

set_option maxHeartbeats 4000000 in
set_option maxRecDepth 100000 in
theorem v_X0_mends (l : Launch) (dC : Nat → ClassId) (dI : Nat → Nat → Nat) (ws : va_W) (tys : List (ClassId × FieldType)) (b0 N0 : Nat) (k0 : ClassId) (f0 : Nat → Int32) (q0 t0 : Nat) (b1 N1 : Nat) (k1 : ClassId) (f1 : Nat → Int32) (q1 t1 : Nat) (p2 : Int32) (p3 : Int32) (e0 : ws[q0]? = some (b0, .inl (k0, N0, .inl f0))) (g0 : tys[t0]? = some (k0, .byte)) (e1 : ws[q1]? = some (b1, .inl (k1, N1, .inl f1))) (g1 : tys[t1]? = some (k1, .byte)) (hN0 : (N0 : Int) ≤ 2147483647) (hN1 : (N1 : Int) ≤ 2147483647) (hq0 : 0 ≤ p3.toInt) (hq1 : p3.toInt ≤ 64) (hq2 : p3.toInt + 8 ≤ (N0 : Int)) (hq3 : 0 ≤ p2.toInt) (hq4 : p2.toInt + p3.toInt + 8 ≤ (N1 : Int)) : Met l yX0_mends wsX0_mends ({ frames := 1, cells := 0, slots := 0, locals := 24 }) (va_Pc [.ref b0, .ref b1, .int p2, .int p3] (fun U => va_P (dC, dI) vwCl ws U.heap ∧ va_K (dC, dI) vwCl tys U)) (vp_Si (fun r => (0 ≤ r.toInt) ∧ (r.toInt ≤ 1))) 0 0 (fun _ => False) := by
  refine Met.ofW (cc := cX0_mends) (maxL := 6) (ret := (some .boolean)) (by decide) rfl ?_
  intro p e s m args below meth cM s₁ B hml hv
  obtain ⟨rfl, hP, hK⟩ := hv
  have hx := B.exec
  have hb := B.bytes
  have hr := B.returns
  have hts := atoms_spec (ws := wsX0_mends) B.pre
  have hown : s.vm.findClass RX0 = some m.cls := findClass_of_methodNamed B.named
  have hl := lv_entry ([.ref b0, .ref b1, .int p2, .int p3]) (n := 6) (Nat.le_of_ble_eq_true rfl)
  rw [lg_entry_eq]
  generalize (lg_sl ([.ref b0, .ref b1, .int p2, .int p3]) ++ List.replicate (6 - (lg_sl ([.ref b0, .ref b1, .int p2, .int p3])).length) Slot.unset).toArray = ls at hl ⊢
  have hl : lv_has ls 6 [(0, .ref b0), (1, .ref b1), (2, .int p2), (3, .int p3)] := hl
  have z_0 : (0 : Int32).toInt = 0 := by decide
  have z_1 : (1 : Int32).toInt = 1 := by decide
  have z_8 : (8 : Int32).toInt = 8 := by decide
  refine lv_iconst (v := 0) hx hb dX0_mends_0 (by decide) ?_
  refine lv_istore (lv' := [(4, .int (0 : Int32)), (0, .ref b0), (1, .ref b1), (2, .int p2), (3, .int p3)]) hx hb dX0_mends_1 hl (by decide) rfl (fun ls hl => ?_)
  refine lv_iload_n hx hb dX0_mends_3 rfl (lv_at hl 4 rfl) ?_
  refine lv_istore (lv' := [(5, .int p3), (4, .int (0 : Int32)), (0, .ref b0), (1, .ref b1), (2, .int p2), (3, .int p3)]) hx hb dX0_mends_4 hl (by decide) rfl (fun ls hl => ?_)
  have loop6 : ∀ (n : Nat) (l5_6 : Int32) (l4_6 : Int32) (ls : Array Slot), (p3.toInt ≤ l5_6.toInt) → (l5_6.toInt ≤ p3.toInt + 8) → (0 ≤ l4_6.toInt) → (l4_6.toInt ≤ l5_6.toInt - p3.toInt) → (p3.toInt + 8 - l5_6.toInt : Int).toNat < n → lv_has ls 6 [(5, .int l5_6), (4, .int l4_6), (0, .ref b0), (1, .ref b1), (2, .int p2), (3, .int p3)] → W p l e (headSpec wsX0_mends ({ frames := 1, cells := 0, slots := 0, locals := 24 })).room s m ([.ref b0, .ref b1, .int p2, .int p3] : List Value).toArray below meth cM s.heap [] 0 0 (MQ below (vp_Si (fun r => (0 ≤ r.toInt) ∧ (r.toInt ≤ 1))) ([.ref b0, .ref b1, .int p2, .int p3] : List Value).toArray s 0 0 (fun _ => False)) (F0 m 6 ls []) := by
    intro n
    induction n with
    | zero => intro l5_6 l4_6 ls if0_6 if1_6 if2_6 if3_6 hm; exact absurd hm (Nat.not_lt_zero _)
    | succ n ih6 =>
      intro l5_6 l4_6 ls if0_6 if1_6 if2_6 if3_6 hm6 hl
      refine lv_iload hx hb dX0_mends_6 (lv_at hl 0 rfl) ?_
      refine lv_iload_n hx hb dX0_mends_8 rfl (lv_at hl 5 rfl) ?_
      refine lv_bipush (v := 8) hx hb dX0_mends_9 (by decide) ?_
      refine lv_iadd hx hb dX0_mends_11 ?_
      refine lv_topi (fun v_1 ev_1 => ?_)
      have rg1 := iv_rng p3
      have hv_1 : v_1.toInt = p3.toInt + 8 := by rw [ev_1]; exact (iv_add (by omega) (by omega)).trans (by omega)
      clear ev_1
      refine lv_icmp_ge (tgt := 37) hx hb dX0_mends_12 (by decide) (fun c_2 => ?_) (fun c_2 => ?_)
      · skip
        have ic_2 := iv_le c_2
        refine lv_iload hx hb dX0_mends_37 (lv_at hl 1 rfl) ?_
        refine lv_if_eq (tgt := 58) hx hb dX0_mends_39 (by decide) (fun c_3 => ?_) (fun c_3 => ?_)
        · skip
          have ic_3 := iv_eq c_3
          refine lv_iconst (v := 1) hx hb dX0_mends_58 (by decide) ?_
          refine lv_goto (tgt := 63) hx hb dX0_mends_59 (by decide) ?_
          exact W.zret hx hb hr rfl (fun t ht hW => ⟨_, rfl, ⟨(by omega), (by omega)⟩, ht⟩) (fun q h => by cases h) dX0_mends_63
        · skip
          have ic_3 := iv_ne c_3
          refine lv_iload hx hb dX0_mends_42 (lv_at hl 1 rfl) ?_
          refine lv_iconst (v := 1) hx hb dX0_mends_44 (by decide) ?_
          refine lv_icmp_ne (tgt := 62) hx hb dX0_mends_45 (by decide) (fun c_4 => ?_) (fun c_4 => ?_)
          · skip
            have ic_4 := iv_ne c_4
            refine lv_iconst (v := 0) hx hb dX0_mends_62 (by decide) ?_
            exact W.zret hx hb hr rfl (fun t ht hW => ⟨_, rfl, ⟨(by omega), (by omega)⟩, ht⟩) (fun q h => by cases h) dX0_mends_63
          · skip
            have ic_4 := iv_eq c_4
            refine lv_aload_n hx hb dX0_mends_48 rfl (lv_at hl 2 rfl) ?_
            refine lv_aload_n hx hb dX0_mends_49 rfl (lv_at hl 3 rfl) ?_
            refine lv_iload_n hx hb dX0_mends_50 rfl (lv_at hl 4 rfl) ?_
            refine lv_iload_n hx hb dX0_mends_51 rfl (lv_at hl 5 rfl) ?_
            refine vp_callSi (va_Run.run (va_runS (As := [.ref b0, .ref b1, .int p2, .int p3]) (rest := []) ⟨hx, hb, hml, hown, hts⟩ (v_X0_isSame l dC dI (ws) tys b0 N0 k0 f0 q0 t0 b1 N1 k1 f1 q1 t1 p2 p3 e0 g0 e1 g1 (by omega) (by omega) (by omega) (by omega) (by omega) (by omega)) (va_cwS 4 hts gX0_mends_X0_isSame rfl rfl rfl (by decide +kernel) ⟨Nat.le_of_ble_eq_true rfl, Nat.le_of_ble_eq_true rfl⟩) ⟨fun a U g mk q => by obtain ⟨q0, qP, qK⟩ := q; exact ⟨q0, qP, va_K.moved (u := U) (U := U.calling g mk a) (Vm.Alike.refl U.vm) qK⟩, fun U hU hW => ⟨rfl, by rw [hU]; exact hP, va_K.moved hW.alike hK⟩⟩ rfl rfl hl.1 rfl (lv_room (Nat.le_of_ble_eq_true rfl)) dX0_mends_52 ⟨Nat.le_of_ble_eq_true rfl, Nat.le_of_ble_eq_true rfl⟩)) (fun r_5 er_5 => ?_)
            obtain ⟨k_6, k_7⟩ := er_5
            rcases iv_01 (a := r_5) (by omega) (by omega) with b_8 | b_8
            · skip
              have ib_8 := iv_eq b_8
              rw [b_8]
              refine lv_if_eq (tgt := 62) hx hb dX0_mends_55 (by decide) (fun c_9 => ?_) (fun c_9 => ?_)
              · skip
                have ic_9 := iv_eq c_9
                refine lv_iconst (v := 0) hx hb dX0_mends_62 (by decide) ?_
                exact W.zret hx hb hr rfl (fun t ht hW => ⟨_, rfl, ⟨(by omega), (by omega)⟩, ht⟩) (fun q h => by cases h) dX0_mends_63
              · skip
                have ic_9 := iv_ne c_9
                exfalso
                omega
            · skip
              have ib_8 := iv_eq b_8
              rw [b_8]
              refine lv_if_eq (tgt := 62) hx hb dX0_mends_55 (by decide) (fun c_10 => ?_) (fun c_10 => ?_)
              · skip
                have ic_10 := iv_eq c_10
                exfalso
                omega
              · skip
                have ic_10 := iv_ne c_10
                refine lv_iconst (v := 1) hx hb dX0_mends_58 (by decide) ?_
                refine lv_goto (tgt := 63) hx hb dX0_mends_59 (by decide) ?_
                exact W.zret hx hb hr rfl (fun t ht hW => ⟨_, rfl, ⟨(by omega), (by omega)⟩, ht⟩) (fun q h => by cases h) dX0_mends_63
      · skip
        have ic_2 := iv_nle c_2
        refine lv_aload_n hx hb dX0_mends_15 rfl (lv_at hl 2 rfl) ?_
        refine lv_iload hx hb dX0_mends_16 (lv_at hl 0 rfl) ?_
        refine va_bald (f := f0) hx hb hK hP q0 t0 e0 g0 (iv_in (i := l5_6) (by omega) (by omega)) dX0_mends_18 ?_
        refine lv_topi (fun v_11 ev_11 => ?_)
        clear ev_11
        refine lv_aload_n hx hb dX0_mends_19 rfl (lv_at hl 3 rfl) ?_
        refine lv_iload_n hx hb dX0_mends_20 rfl (lv_at hl 4 rfl) ?_
        refine lv_iload hx hb dX0_mends_21 (lv_at hl 0 rfl) ?_
        refine lv_iadd hx hb dX0_mends_23 ?_
        refine lv_topi (fun v_12 ev_12 => ?_)
        have rg2 := iv_rng p2
        have rg3 := iv_rng l5_6
        have hv_12 : v_12.toInt = p2.toInt + l5_6.toInt := by rw [ev_12]; exact (iv_add (by omega) (by omega)).trans (by omega)
        clear ev_12
        refine va_bald (f := f1) hx hb hK hP q1 t1 e1 g1 (iv_in (i := v_12) (by omega) (by omega)) dX0_mends_24 ?_
        refine lv_topi (fun v_13 ev_13 => ?_)
        clear ev_13
        refine lv_icmp_eq (tgt := 31) hx hb dX0_mends_25 (by decide) (fun c_14 => ?_) (fun c_14 => ?_)
        · skip
          have ic_14 := iv_eq c_14
          obtain ⟨x_15, ex_15⟩ : ∃ z : Int32, z = l5_6 + (1) := ⟨_, rfl⟩
          refine lv_iinc (v := x_15) (lv' := [(5, .int x_15), (4, .int l4_6), (0, .ref b0), (1, .ref b1), (2, .int p2), (3, .int p3)]) hx hb dX0_mends_31 hl (k := 0) rfl (by rw [ex_15]; rfl) (by decide) rfl (fun ls hl => ?_)
          have hx_15 : x_15.toInt = l5_6.toInt + (1) := by rw [ex_15]; exact (iv_add (by omega) (by omega)).trans (by omega)
          clear ex_15
          refine lv_goto (tgt := 6) hx hb dX0_mends_34 (by decide) ?_
          exact ih6 x_15 l4_6 _ (by omega) (by omega) (by omega) (by omega) (by omega) (lv_sub hl [0, 1, 2, 3, 4, 5] rfl)
        · skip
          have ic_14 := iv_ne c_14
          obtain ⟨x_16, ex_16⟩ : ∃ z : Int32, z = l4_6 + (1) := ⟨_, rfl⟩
          refine lv_iinc (v := x_16) (lv' := [(4, .int x_16), (5, .int l5_6), (0, .ref b0), (1, .ref b1), (2, .int p2), (3, .int p3)]) hx hb dX0_mends_28 hl (k := 1) rfl (by rw [ex_16]; rfl) (by decide) rfl (fun ls hl => ?_)
          have rg4 := iv_rng l4_6
          have hx_16 : x_16.toInt = l4_6.toInt + (1) := by rw [ex_16]; exact (iv_add (by omega) (by omega)).trans (by omega)
          clear ex_16
          obtain ⟨x_17, ex_17⟩ : ∃ z : Int32, z = l5_6 + (1) := ⟨_, rfl⟩
          refine lv_iinc (v := x_17) (lv' := [(5, .int x_17), (4, .int x_16), (0, .ref b0), (1, .ref b1), (2, .int p2), (3, .int p3)]) hx hb dX0_mends_31 hl (k := 1) rfl (by rw [ex_17]; rfl) (by decide) rfl (fun ls hl => ?_)
          have hx_17 : x_17.toInt = l5_6.toInt + (1) := by rw [ex_17]; exact (iv_add (by omega) (by omega)).trans (by omega)
          clear ex_17
          refine lv_goto (tgt := 6) hx hb dX0_mends_34 (by decide) ?_
          exact ih6 x_17 x_16 _ (by omega) (by omega) (by omega) (by omega) (by omega) (lv_sub hl [0, 1, 2, 3, 4, 5] rfl)
  exact loop6 ((p3.toInt + 8 - p3.toInt : Int).toNat + 1) p3 (0 : Int32) _ (by omega) (by omega) (by omega) (by omega) (by omega) (lv_sub hl [0, 1, 2, 3, 4, 5] rfl)
