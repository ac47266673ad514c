set_option maxHeartbeats 4000000 in
set_option maxRecDepth 100000 in
theorem k_X7_init (l : Launch) (dC : Nat → ClassId) (dI : Nat → Nat → Nat) (h0 : Nat) (sz : Nat)  : Met l yX7_init wsX7_init ({ frames := 1, cells := 1, slots := 400, locals := 12 }) (va_Pc [.ref h0] (fun U => U.heap.size = sz ∧ va_P (dC, dI) vwCl [(h0, .inr (9, [.null, .int 0]))] U.heap ∧ va_K (dC, dI) vwCl [] U ∧ va_D (fun _ => True) [(h0, .inr (9, [.null, .int 0]))])) (va_Qv (fun (_ : Unit) => True) (fun (_ : Unit) t => ∃ (q8 : Nat) (c8 : ClassId), va_P (dC, dI) vwCl [(h0, .inr (9, [.ref q8, .int (0 : Int32)])), (q8, .inl (c8, 400, .inl (fun _ => 0)))] t.heap ∧ va_K (dC, dI) vwCl [(c8, .byte)] t ∧ va_D (va_A [(h0, .inr (9, [.null, .int 0]))] sz) [(h0, .inr (9, [.ref q8, .int (0 : Int32)])), (q8, .inl (c8, 400, .inl (fun _ => 0)))]) (va_A [(h0, .inr (9, [.null, .int 0]))] sz)) 1 400 (va_A [(h0, .inr (9, [.null, .int 0]))] sz) := by
  refine Met.ofW (cc := cX7_init) (maxL := 1) (ret := none) (by decide) rfl ?_
  intro p e s m args below meth c s₁ B hml hv
  obtain ⟨rfl, hsz, hP, hK, hD0⟩ := hv
  have hx := B.exec
  have hb := B.bytes
  have hr := B.returns
  have hts := atoms_spec (ws := wsX7_init) B.pre
  have hown : s.vm.findClass RX7 = some m.cls := findClass_of_methodNamed B.named
  have hlocks := B.notSynchronized
  have hin : meth.name = "<init>" := (name_of_methodNamed B.named B.method).1
  subst hsz
  have hD := hD0.self (sz := s.heap.size)
  generalize hAe : va_A [(h0, .inr (9, [.null, .int 0]))] s.heap.size = A at hD ⊢
  have hA : ∀ q : Nat, s.heap.size ≤ q → A q := fun q h => by rw [← hAe]; exact Or.inr h
  have hS : va_S A s.heap s.heap [] := va_S.rf
  have hl := lv_entry ([.ref h0]) (n := 1) (Nat.le_of_ble_eq_true rfl)
  rw [lg_entry_eq]
  generalize (lg_sl ([.ref h0]) ++ List.replicate (1 - (lg_sl ([.ref h0])).length) Slot.unset).toArray = ls at hl ⊢
  have hl : lv_has ls 1 [(0, .ref h0)] := hl
  refine lv_aload_n hx hb dX7_init_0 rfl (lv_at hl 0 rfl) ?_
  refine W.objInit hx hb hown (hts (.methodLink RX7 3 objectInit) (by decide +kernel)) (hts (.instanceMethod objectInit) (by decide +kernel)) (hts (.code objectInit ⟨#[0xb1]⟩ 1 none) (by decide +kernel)) rfl (by rw [hml]; exact hl.1) rfl dX7_init_1 (Nat.le_of_ble_eq_true rfl) (Nat.le_of_ble_eq_true rfl) ?_
  refine W.eq (g2 := F0 m 4 ls []) rfl ?_
  refine lv_aload_n hx hb dX7_init_4 rfl (lv_at hl 0 rfl) ?_
  refine lv_sipush (v := 400) hx hb dX7_init_5 (by decide) ?_
  refine va_newa (atype := .byte) (ty := .byte) (n := 400) (N' := 400) (a0 := (400, .inl (fun _ => 0))) hx hb (hts (.arrayClass .byte) (by decide +kernel)) rfl hK hP hD hS hA (fun _ => rfl) (by decide +kernel) (by decide +kernel) (by decide +kernel) (Nat.le_of_ble_eq_true rfl) (Nat.le_of_ble_eq_true rfl) dX7_init_8 (fun q8 c8 H hK hP hD hS => ?_)
  have hP : va_P (dC, dI) vwCl [(h0, .inr (9, [.null, .int 0])), (q8, .inl (c8, 400, .inl (fun _ => 0)))] H := hP
  have hD : va_D A [(h0, .inr (9, [.null, .int 0])), (q8, .inl (c8, 400, .inl (fun _ => 0)))] := hD
  have hK : va_K (dC, dI) vwCl [(c8, .byte)] s := hK
  refine va_putF (D := (dC, dI)) (ci := 9) (v := .ref q8) (ty := (.array .byte)) (C := RX7) (T := TX7) (N := 2) hx hb hts (by decide +kernel) tyX7 tyX7_ok nmX7 hown hK hP hD hS 0 rfl rfl 0 (by decide) (hts (.fieldLink RX7 9 "BlockLog$Tape" "bytes" "[B") (by decide +kernel)) (fun _ h9 => h9) rfl hin rfl (by decide +kernel) rfl rfl (Nat.le_of_ble_eq_true rfl) dX7_init_10 (fun H locs hP hD hS => ?_)
  have hP : va_P (dC, dI) vwCl [(h0, .inr (9, [.ref q8, .int 0])), (q8, .inl (c8, 400, .inl (fun _ => 0)))] H := hP
  have hD : va_D A [(h0, .inr (9, [.ref q8, .int 0])), (q8, .inl (c8, 400, .inl (fun _ => 0)))] := hD
  refine lv_aload_n hx hb dX7_init_13 rfl (lv_at hl 0 rfl) ?_
  refine lv_iconst (v := 0) hx hb dX7_init_14 (by decide) ?_
  refine va_put (D := (dC, dI)) (ci := 9) (v := .int (0 : Int32)) (ty := .int) (C := RX7) (T := TX7) (N := 2) hx hb hts (by decide +kernel) tyX7 tyX7_ok nmX7 hown hK hP hD hS 0 rfl rfl 1 (by decide) (hts (.fieldLink RX7 15 "BlockLog$Tape" "count" "I") (by decide +kernel)) (fun _ h9 => h9) rfl (by decide +kernel) rfl rfl (Nat.le_of_ble_eq_true rfl) dX7_init_15 (fun H locs hP hD hS => ?_)
  have hP : va_P (dC, dI) vwCl [(h0, .inr (9, [.ref q8, .int (0 : Int32)])), (q8, .inl (c8, 400, .inl (fun _ => 0)))] H := hP
  have hD : va_D A [(h0, .inr (9, [.ref q8, .int (0 : Int32)])), (q8, .inl (c8, 400, .inl (fun _ => 0)))] := hD
  have hP := hP.sub (ws' := [(h0, .inr (9, [.ref q8, .int (0 : Int32)])), (q8, .inl (c8, 400, .inl (fun _ => 0)))]) [0, 1] rfl
  have hD := hD.sub (ws' := [(h0, .inr (9, [.ref q8, .int (0 : Int32)])), (q8, .inl (c8, 400, .inl (fun _ => 0)))]) [0, 1] (by decide) rfl
  have hK := hK.sub (tys' := [(c8, .byte)]) [0] rfl
  exact W.vret hx hb hr (fun t ht hW => ⟨⟨(), rfl, trivial, q8, c8, by rw [ht]; exact hP, va_K.moved hW.alike hK, hD⟩, hS.F ht⟩) hS.2.2 dX7_init_18
set_option maxHeartbeats 4000000 in
set_option maxRecDepth 100000 in
theorem k_X6_init (l : Launch) (dC : Nat → ClassId) (dI : Nat → Nat → Nat) (h0 h1 : Nat) (sz : Nat)  : Met l yX6_init wsX6_init ({ frames := 1, cells := 6, slots := 656, locals := 12 }) (va_Pc [.ref h0, .ref h1] (fun U => U.heap.size = sz ∧ va_P (dC, dI) vwCl [(h0, .inr (8, [.null, .null, .null, .null, .null, .null, .null, .int 0, .int 0, .int 0, .int 0, .int 0]))] U.heap ∧ va_K (dC, dI) vwCl [] U ∧ va_D (fun _ => True) [(h0, .inr (8, [.null, .null, .null, .null, .null, .null, .null, .int 0, .int 0, .int 0, .int 0, .int 0]))])) (va_Qv (fun (_ : Unit) => True) (fun (_ : Unit) t => ∃ (q13 : Nat) (q22 : Nat) (q31 : Nat) (q40 : Nat) (q49 : Nat) (q57 : Nat) (c13 : ClassId) (c22 : ClassId) (c31 : ClassId) (c40 : ClassId) (c49 : ClassId) (c57 : ClassId), va_P (dC, dI) vwCl [(h0, .inr (8, [.ref h1, .ref q13, .ref q22, .ref q31, .ref q40, .ref q49, .ref q57, .int (0 : Int32), .int (0 : Int32), .int (-1 : Int32), .int (0 : Int32), .int (0 : Int32)])), (q13, .inl (c13, 128, .inr (.inl (fun _ => 0)))), (q22, .inl (c22, 128, .inl (fun _ => 0))), (q31, .inl (c31, 128, .inl (fun _ => 0))), (q40, .inl (c40, 128, .inl (fun _ => 0))), (q49, .inl (c49, 128, .inl (fun _ => 0))), (q57, .inl (c57, 16, .inr (.inl (fun _ => 0))))] t.heap ∧ va_K (dC, dI) vwCl [(c13, .long), (c22, .boolean), (c31, .boolean), (c40, .boolean), (c49, .int), (c57, .long)] t ∧ va_D (va_A [(h0, .inr (8, [.null, .null, .null, .null, .null, .null, .null, .int 0, .int 0, .int 0, .int 0, .int 0]))] sz) [(h0, .inr (8, [.ref h1, .ref q13, .ref q22, .ref q31, .ref q40, .ref q49, .ref q57, .int (0 : Int32), .int (0 : Int32), .int (-1 : Int32), .int (0 : Int32), .int (0 : Int32)])), (q13, .inl (c13, 128, .inr (.inl (fun _ => 0)))), (q22, .inl (c22, 128, .inl (fun _ => 0))), (q31, .inl (c31, 128, .inl (fun _ => 0))), (q40, .inl (c40, 128, .inl (fun _ => 0))), (q49, .inl (c49, 128, .inl (fun _ => 0))), (q57, .inl (c57, 16, .inr (.inl (fun _ => 0))))]) (va_A [(h0, .inr (8, [.null, .null, .null, .null, .null, .null, .null, .int 0, .int 0, .int 0, .int 0, .int 0]))] sz)) 6 656 (va_A [(h0, .inr (8, [.null, .null, .null, .null, .null, .null, .null, .int 0, .int 0, .int 0, .int 0, .int 0]))] sz) := by
  refine Met.ofW (cc := cX6_init) (maxL := 2) (ret := none) (by decide) rfl ?_
  intro p e s m args below meth c s₁ B hml hv
  obtain ⟨rfl, hsz, hP, hK, hD0⟩ := hv
  have hx := B.exec
  have hb := B.bytes
  have hr := B.returns
  have hts := atoms_spec (ws := wsX6_init) B.pre
  have hown : s.vm.findClass RX6 = some m.cls := findClass_of_methodNamed B.named
  have hlocks := B.notSynchronized
  have hin : meth.name = "<init>" := (name_of_methodNamed B.named B.method).1
  subst hsz
  have hD := hD0.self (sz := s.heap.size)
  generalize hAe : va_A [(h0, .inr (8, [.null, .null, .null, .null, .null, .null, .null, .int 0, .int 0, .int 0, .int 0, .int 0]))] s.heap.size = A at hD ⊢
  have hA : ∀ q : Nat, s.heap.size ≤ q → A q := fun q h => by rw [← hAe]; exact Or.inr h
  have hS : va_S A s.heap s.heap [] := va_S.rf
  have hl := lv_entry ([.ref h0, .ref h1]) (n := 2) (Nat.le_of_ble_eq_true rfl)
  rw [lg_entry_eq]
  generalize (lg_sl ([.ref h0, .ref h1]) ++ List.replicate (2 - (lg_sl ([.ref h0, .ref h1])).length) Slot.unset).toArray = ls at hl ⊢
  have hl : lv_has ls 2 [(0, .ref h0), (1, .ref h1)] := hl
  refine lv_aload_n hx hb dX6_init_0 rfl (lv_at hl 0 rfl) ?_
  refine W.objInit hx hb hown (hts (.methodLink RX6 3 objectInit) (by decide +kernel)) (hts (.instanceMethod objectInit) (by decide +kernel)) (hts (.code objectInit ⟨#[0xb1]⟩ 1 none) (by decide +kernel)) rfl (by rw [hml]; exact hl.1) rfl dX6_init_1 (Nat.le_of_ble_eq_true rfl) (Nat.le_of_ble_eq_true rfl) ?_
  refine W.eq (g2 := F0 m 4 ls []) rfl ?_
  refine lv_aload_n hx hb dX6_init_4 rfl (lv_at hl 0 rfl) ?_
  refine lv_aload_n hx hb dX6_init_5 rfl (lv_at hl 1 rfl) ?_
  refine va_putF (D := (dC, dI)) (ci := 8) (v := .ref h1) (ty := (.object "BlockLog$Rows")) (C := RX6) (T := TX6) (N := 12) hx hb hts (by decide +kernel) tyX6 tyX6_ok nmX6 hown hK hP hD hS 0 rfl rfl 0 (by decide) (hts (.fieldLink RX6 9 "BlockLog$Story" "rows" "LBlockLog$Rows;") (by decide +kernel)) (fun _ h9 => h9) rfl hin rfl (by decide +kernel) rfl rfl (Nat.le_of_ble_eq_true rfl) dX6_init_6 (fun H locs hP hD hS => ?_)
  have hP : va_P (dC, dI) vwCl [(h0, .inr (8, [.ref h1, .null, .null, .null, .null, .null, .null, .int 0, .int 0, .int 0, .int 0, .int 0]))] H := hP
  have hD : va_D A [(h0, .inr (8, [.ref h1, .null, .null, .null, .null, .null, .null, .int 0, .int 0, .int 0, .int 0, .int 0]))] := hD
  refine lv_aload_n hx hb dX6_init_9 rfl (lv_at hl 0 rfl) ?_
  refine lv_sipush (v := 128) hx hb dX6_init_10 (by decide) ?_
  refine va_newa (atype := .long) (ty := .long) (n := 128) (N' := 128) (a0 := (128, .inr (.inl (fun _ => 0)))) hx hb (hts (.arrayClass .long) (by decide +kernel)) rfl hK hP hD hS hA (fun _ => rfl) (by decide +kernel) (by decide +kernel) (by decide +kernel) (Nat.le_of_ble_eq_true rfl) (Nat.le_of_ble_eq_true rfl) dX6_init_13 (fun q13 c13 H hK hP hD hS => ?_)
  have hP : va_P (dC, dI) vwCl [(h0, .inr (8, [.ref h1, .null, .null, .null, .null, .null, .null, .int 0, .int 0, .int 0, .int 0, .int 0])), (q13, .inl (c13, 128, .inr (.inl (fun _ => 0))))] H := hP
  have hD : va_D A [(h0, .inr (8, [.ref h1, .null, .null, .null, .null, .null, .null, .int 0, .int 0, .int 0, .int 0, .int 0])), (q13, .inl (c13, 128, .inr (.inl (fun _ => 0))))] := hD
  have hK : va_K (dC, dI) vwCl [(c13, .long)] s := hK
  refine va_putF (D := (dC, dI)) (ci := 8) (v := .ref q13) (ty := (.array .long)) (C := RX6) (T := TX6) (N := 12) hx hb hts (by decide +kernel) tyX6 tyX6_ok nmX6 hown hK hP hD hS 0 rfl rfl 1 (by decide) (hts (.fieldLink RX6 15 "BlockLog$Story" "digests" "[J") (by decide +kernel)) (fun _ h9 => h9) rfl hin rfl (by decide +kernel) rfl rfl (Nat.le_of_ble_eq_true rfl) dX6_init_15 (fun H locs hP hD hS => ?_)
  have hP : va_P (dC, dI) vwCl [(h0, .inr (8, [.ref h1, .ref q13, .null, .null, .null, .null, .null, .int 0, .int 0, .int 0, .int 0, .int 0])), (q13, .inl (c13, 128, .inr (.inl (fun _ => 0))))] H := hP
  have hD : va_D A [(h0, .inr (8, [.ref h1, .ref q13, .null, .null, .null, .null, .null, .int 0, .int 0, .int 0, .int 0, .int 0])), (q13, .inl (c13, 128, .inr (.inl (fun _ => 0))))] := hD
  refine lv_aload_n hx hb dX6_init_18 rfl (lv_at hl 0 rfl) ?_
  refine lv_sipush (v := 128) hx hb dX6_init_19 (by decide) ?_
  refine va_newa (atype := .boolean) (ty := .boolean) (n := 128) (N' := 128) (a0 := (128, .inl (fun _ => 0))) hx hb (hts (.arrayClass .boolean) (by decide +kernel)) rfl hK hP hD hS hA (fun _ => rfl) (by decide +kernel) (by decide +kernel) (by decide +kernel) (Nat.le_of_ble_eq_true rfl) (Nat.le_of_ble_eq_true rfl) dX6_init_22 (fun q22 c22 H hK hP hD hS => ?_)
  have hP : va_P (dC, dI) vwCl [(h0, .inr (8, [.ref h1, .ref q13, .null, .null, .null, .null, .null, .int 0, .int 0, .int 0, .int 0, .int 0])), (q13, .inl (c13, 128, .inr (.inl (fun _ => 0)))), (q22, .inl (c22, 128, .inl (fun _ => 0)))] H := hP
  have hD : va_D A [(h0, .inr (8, [.ref h1, .ref q13, .null, .null, .null, .null, .null, .int 0, .int 0, .int 0, .int 0, .int 0])), (q13, .inl (c13, 128, .inr (.inl (fun _ => 0)))), (q22, .inl (c22, 128, .inl (fun _ => 0)))] := hD
  have hK : va_K (dC, dI) vwCl [(c13, .long), (c22, .boolean)] s := hK
  refine va_putF (D := (dC, dI)) (ci := 8) (v := .ref q22) (ty := (.array .boolean)) (C := RX6) (T := TX6) (N := 12) hx hb hts (by decide +kernel) tyX6 tyX6_ok nmX6 hown hK hP hD hS 0 rfl rfl 2 (by decide) (hts (.fieldLink RX6 19 "BlockLog$Story" "isBlock" "[Z") (by decide +kernel)) (fun _ h9 => h9) rfl hin rfl (by decide +kernel) rfl rfl (Nat.le_of_ble_eq_true rfl) dX6_init_24 (fun H locs hP hD hS => ?_)
  have hP : va_P (dC, dI) vwCl [(h0, .inr (8, [.ref h1, .ref q13, .ref q22, .null, .null, .null, .null, .int 0, .int 0, .int 0, .int 0, .int 0])), (q13, .inl (c13, 128, .inr (.inl (fun _ => 0)))), (q22, .inl (c22, 128, .inl (fun _ => 0)))] H := hP
  have hD : va_D A [(h0, .inr (8, [.ref h1, .ref q13, .ref q22, .null, .null, .null, .null, .int 0, .int 0, .int 0, .int 0, .int 0])), (q13, .inl (c13, 128, .inr (.inl (fun _ => 0)))), (q22, .inl (c22, 128, .inl (fun _ => 0)))] := hD
  refine lv_aload_n hx hb dX6_init_27 rfl (lv_at hl 0 rfl) ?_
  refine lv_sipush (v := 128) hx hb dX6_init_28 (by decide) ?_
  refine va_newa (atype := .boolean) (ty := .boolean) (n := 128) (N' := 128) (a0 := (128, .inl (fun _ => 0))) hx hb (hts (.arrayClass .boolean) (by decide +kernel)) rfl hK hP hD hS hA (fun _ => rfl) (by decide +kernel) (by decide +kernel) (by decide +kernel) (Nat.le_of_ble_eq_true rfl) (Nat.le_of_ble_eq_true rfl) dX6_init_31 (fun q31 c31 H hK hP hD hS => ?_)
  have hP : va_P (dC, dI) vwCl [(h0, .inr (8, [.ref h1, .ref q13, .ref q22, .null, .null, .null, .null, .int 0, .int 0, .int 0, .int 0, .int 0])), (q13, .inl (c13, 128, .inr (.inl (fun _ => 0)))), (q22, .inl (c22, 128, .inl (fun _ => 0))), (q31, .inl (c31, 128, .inl (fun _ => 0)))] H := hP
  have hD : va_D A [(h0, .inr (8, [.ref h1, .ref q13, .ref q22, .null, .null, .null, .null, .int 0, .int 0, .int 0, .int 0, .int 0])), (q13, .inl (c13, 128, .inr (.inl (fun _ => 0)))), (q22, .inl (c22, 128, .inl (fun _ => 0))), (q31, .inl (c31, 128, .inl (fun _ => 0)))] := hD
  have hK : va_K (dC, dI) vwCl [(c13, .long), (c22, .boolean), (c31, .boolean)] s := hK
  refine va_putF (D := (dC, dI)) (ci := 8) (v := .ref q31) (ty := (.array .boolean)) (C := RX6) (T := TX6) (N := 12) hx hb hts (by decide +kernel) tyX6 tyX6_ok nmX6 hown hK hP hD hS 0 rfl rfl 3 (by decide) (hts (.fieldLink RX6 23 "BlockLog$Story" "inBlock" "[Z") (by decide +kernel)) (fun _ h9 => h9) rfl hin rfl (by decide +kernel) rfl rfl (Nat.le_of_ble_eq_true rfl) dX6_init_33 (fun H locs hP hD hS => ?_)
  have hP : va_P (dC, dI) vwCl [(h0, .inr (8, [.ref h1, .ref q13, .ref q22, .ref q31, .null, .null, .null, .int 0, .int 0, .int 0, .int 0, .int 0])), (q13, .inl (c13, 128, .inr (.inl (fun _ => 0)))), (q22, .inl (c22, 128, .inl (fun _ => 0))), (q31, .inl (c31, 128, .inl (fun _ => 0)))] H := hP
  have hD : va_D A [(h0, .inr (8, [.ref h1, .ref q13, .ref q22, .ref q31, .null, .null, .null, .int 0, .int 0, .int 0, .int 0, .int 0])), (q13, .inl (c13, 128, .inr (.inl (fun _ => 0)))), (q22, .inl (c22, 128, .inl (fun _ => 0))), (q31, .inl (c31, 128, .inl (fun _ => 0)))] := hD
  refine lv_aload_n hx hb dX6_init_36 rfl (lv_at hl 0 rfl) ?_
  refine lv_sipush (v := 128) hx hb dX6_init_37 (by decide) ?_
  refine va_newa (atype := .boolean) (ty := .boolean) (n := 128) (N' := 128) (a0 := (128, .inl (fun _ => 0))) hx hb (hts (.arrayClass .boolean) (by decide +kernel)) rfl hK hP hD hS hA (fun _ => rfl) (by decide +kernel) (by decide +kernel) (by decide +kernel) (Nat.le_of_ble_eq_true rfl) (Nat.le_of_ble_eq_true rfl) dX6_init_40 (fun q40 c40 H hK hP hD hS => ?_)
  have hP : va_P (dC, dI) vwCl [(h0, .inr (8, [.ref h1, .ref q13, .ref q22, .ref q31, .null, .null, .null, .int 0, .int 0, .int 0, .int 0, .int 0])), (q13, .inl (c13, 128, .inr (.inl (fun _ => 0)))), (q22, .inl (c22, 128, .inl (fun _ => 0))), (q31, .inl (c31, 128, .inl (fun _ => 0))), (q40, .inl (c40, 128, .inl (fun _ => 0)))] H := hP
  have hD : va_D A [(h0, .inr (8, [.ref h1, .ref q13, .ref q22, .ref q31, .null, .null, .null, .int 0, .int 0, .int 0, .int 0, .int 0])), (q13, .inl (c13, 128, .inr (.inl (fun _ => 0)))), (q22, .inl (c22, 128, .inl (fun _ => 0))), (q31, .inl (c31, 128, .inl (fun _ => 0))), (q40, .inl (c40, 128, .inl (fun _ => 0)))] := hD
  have hK : va_K (dC, dI) vwCl [(c13, .long), (c22, .boolean), (c31, .boolean), (c40, .boolean)] s := hK
  refine va_putF (D := (dC, dI)) (ci := 8) (v := .ref q40) (ty := (.array .boolean)) (C := RX6) (T := TX6) (N := 12) hx hb hts (by decide +kernel) tyX6 tyX6_ok nmX6 hown hK hP hD hS 0 rfl rfl 4 (by decide) (hts (.fieldLink RX6 26 "BlockLog$Story" "fits" "[Z") (by decide +kernel)) (fun _ h9 => h9) rfl hin rfl (by decide +kernel) rfl rfl (Nat.le_of_ble_eq_true rfl) dX6_init_42 (fun H locs hP hD hS => ?_)
  have hP : va_P (dC, dI) vwCl [(h0, .inr (8, [.ref h1, .ref q13, .ref q22, .ref q31, .ref q40, .null, .null, .int 0, .int 0, .int 0, .int 0, .int 0])), (q13, .inl (c13, 128, .inr (.inl (fun _ => 0)))), (q22, .inl (c22, 128, .inl (fun _ => 0))), (q31, .inl (c31, 128, .inl (fun _ => 0))), (q40, .inl (c40, 128, .inl (fun _ => 0)))] H := hP
  have hD : va_D A [(h0, .inr (8, [.ref h1, .ref q13, .ref q22, .ref q31, .ref q40, .null, .null, .int 0, .int 0, .int 0, .int 0, .int 0])), (q13, .inl (c13, 128, .inr (.inl (fun _ => 0)))), (q22, .inl (c22, 128, .inl (fun _ => 0))), (q31, .inl (c31, 128, .inl (fun _ => 0))), (q40, .inl (c40, 128, .inl (fun _ => 0)))] := hD
  refine lv_aload_n hx hb dX6_init_45 rfl (lv_at hl 0 rfl) ?_
  refine lv_sipush (v := 128) hx hb dX6_init_46 (by decide) ?_
  refine va_newa (atype := .int) (ty := .int) (n := 128) (N' := 128) (a0 := (128, .inl (fun _ => 0))) hx hb (hts (.arrayClass .int) (by decide +kernel)) rfl hK hP hD hS hA (fun _ => rfl) (by decide +kernel) (by decide +kernel) (by decide +kernel) (Nat.le_of_ble_eq_true rfl) (Nat.le_of_ble_eq_true rfl) dX6_init_49 (fun q49 c49 H hK hP hD hS => ?_)
  have hP : va_P (dC, dI) vwCl [(h0, .inr (8, [.ref h1, .ref q13, .ref q22, .ref q31, .ref q40, .null, .null, .int 0, .int 0, .int 0, .int 0, .int 0])), (q13, .inl (c13, 128, .inr (.inl (fun _ => 0)))), (q22, .inl (c22, 128, .inl (fun _ => 0))), (q31, .inl (c31, 128, .inl (fun _ => 0))), (q40, .inl (c40, 128, .inl (fun _ => 0))), (q49, .inl (c49, 128, .inl (fun _ => 0)))] H := hP
  have hD : va_D A [(h0, .inr (8, [.ref h1, .ref q13, .ref q22, .ref q31, .ref q40, .null, .null, .int 0, .int 0, .int 0, .int 0, .int 0])), (q13, .inl (c13, 128, .inr (.inl (fun _ => 0)))), (q22, .inl (c22, 128, .inl (fun _ => 0))), (q31, .inl (c31, 128, .inl (fun _ => 0))), (q40, .inl (c40, 128, .inl (fun _ => 0))), (q49, .inl (c49, 128, .inl (fun _ => 0)))] := hD
  have hK : va_K (dC, dI) vwCl [(c13, .long), (c22, .boolean), (c31, .boolean), (c40, .boolean), (c49, .int)] s := hK
  refine va_putF (D := (dC, dI)) (ci := 8) (v := .ref q49) (ty := (.array .int)) (C := RX6) (T := TX6) (N := 12) hx hb hts (by decide +kernel) tyX6 tyX6_ok nmX6 hown hK hP hD hS 0 rfl rfl 5 (by decide) (hts (.fieldLink RX6 29 "BlockLog$Story" "chain" "[I") (by decide +kernel)) (fun _ h9 => h9) rfl hin rfl (by decide +kernel) rfl rfl (Nat.le_of_ble_eq_true rfl) dX6_init_51 (fun H locs hP hD hS => ?_)
  have hP : va_P (dC, dI) vwCl [(h0, .inr (8, [.ref h1, .ref q13, .ref q22, .ref q31, .ref q40, .ref q49, .null, .int 0, .int 0, .int 0, .int 0, .int 0])), (q13, .inl (c13, 128, .inr (.inl (fun _ => 0)))), (q22, .inl (c22, 128, .inl (fun _ => 0))), (q31, .inl (c31, 128, .inl (fun _ => 0))), (q40, .inl (c40, 128, .inl (fun _ => 0))), (q49, .inl (c49, 128, .inl (fun _ => 0)))] H := hP
  have hD : va_D A [(h0, .inr (8, [.ref h1, .ref q13, .ref q22, .ref q31, .ref q40, .ref q49, .null, .int 0, .int 0, .int 0, .int 0, .int 0])), (q13, .inl (c13, 128, .inr (.inl (fun _ => 0)))), (q22, .inl (c22, 128, .inl (fun _ => 0))), (q31, .inl (c31, 128, .inl (fun _ => 0))), (q40, .inl (c40, 128, .inl (fun _ => 0))), (q49, .inl (c49, 128, .inl (fun _ => 0)))] := hD
  refine lv_aload_n hx hb dX6_init_54 rfl (lv_at hl 0 rfl) ?_
  refine lv_bipush (v := 16) hx hb dX6_init_55 (by decide) ?_
  refine va_newa (atype := .long) (ty := .long) (n := 16) (N' := 16) (a0 := (16, .inr (.inl (fun _ => 0)))) hx hb (hts (.arrayClass .long) (by decide +kernel)) rfl hK hP hD hS hA (fun _ => rfl) (by decide +kernel) (by decide +kernel) (by decide +kernel) (Nat.le_of_ble_eq_true rfl) (Nat.le_of_ble_eq_true rfl) dX6_init_57 (fun q57 c57 H hK hP hD hS => ?_)
  have hP : va_P (dC, dI) vwCl [(h0, .inr (8, [.ref h1, .ref q13, .ref q22, .ref q31, .ref q40, .ref q49, .null, .int 0, .int 0, .int 0, .int 0, .int 0])), (q13, .inl (c13, 128, .inr (.inl (fun _ => 0)))), (q22, .inl (c22, 128, .inl (fun _ => 0))), (q31, .inl (c31, 128, .inl (fun _ => 0))), (q40, .inl (c40, 128, .inl (fun _ => 0))), (q49, .inl (c49, 128, .inl (fun _ => 0))), (q57, .inl (c57, 16, .inr (.inl (fun _ => 0))))] H := hP
  have hD : va_D A [(h0, .inr (8, [.ref h1, .ref q13, .ref q22, .ref q31, .ref q40, .ref q49, .null, .int 0, .int 0, .int 0, .int 0, .int 0])), (q13, .inl (c13, 128, .inr (.inl (fun _ => 0)))), (q22, .inl (c22, 128, .inl (fun _ => 0))), (q31, .inl (c31, 128, .inl (fun _ => 0))), (q40, .inl (c40, 128, .inl (fun _ => 0))), (q49, .inl (c49, 128, .inl (fun _ => 0))), (q57, .inl (c57, 16, .inr (.inl (fun _ => 0))))] := hD
  have hK : va_K (dC, dI) vwCl [(c13, .long), (c22, .boolean), (c31, .boolean), (c40, .boolean), (c49, .int), (c57, .long)] s := hK
  refine va_putF (D := (dC, dI)) (ci := 8) (v := .ref q57) (ty := (.array .long)) (C := RX6) (T := TX6) (N := 12) hx hb hts (by decide +kernel) tyX6 tyX6_ok nmX6 hown hK hP hD hS 0 rfl rfl 6 (by decide) (hts (.fieldLink RX6 33 "BlockLog$Story" "slots" "[J") (by decide +kernel)) (fun _ h9 => h9) rfl hin rfl (by decide +kernel) rfl rfl (Nat.le_of_ble_eq_true rfl) dX6_init_59 (fun H locs hP hD hS => ?_)
  have hP : va_P (dC, dI) vwCl [(h0, .inr (8, [.ref h1, .ref q13, .ref q22, .ref q31, .ref q40, .ref q49, .ref q57, .int 0, .int 0, .int 0, .int 0, .int 0])), (q13, .inl (c13, 128, .inr (.inl (fun _ => 0)))), (q22, .inl (c22, 128, .inl (fun _ => 0))), (q31, .inl (c31, 128, .inl (fun _ => 0))), (q40, .inl (c40, 128, .inl (fun _ => 0))), (q49, .inl (c49, 128, .inl (fun _ => 0))), (q57, .inl (c57, 16, .inr (.inl (fun _ => 0))))] H := hP
  have hD : va_D A [(h0, .inr (8, [.ref h1, .ref q13, .ref q22, .ref q31, .ref q40, .ref q49, .ref q57, .int 0, .int 0, .int 0, .int 0, .int 0])), (q13, .inl (c13, 128, .inr (.inl (fun _ => 0)))), (q22, .inl (c22, 128, .inl (fun _ => 0))), (q31, .inl (c31, 128, .inl (fun _ => 0))), (q40, .inl (c40, 128, .inl (fun _ => 0))), (q49, .inl (c49, 128, .inl (fun _ => 0))), (q57, .inl (c57, 16, .inr (.inl (fun _ => 0))))] := hD
  refine lv_aload_n hx hb dX6_init_62 rfl (lv_at hl 0 rfl) ?_
  refine lv_iconst (v := 0) hx hb dX6_init_63 (by decide) ?_
  refine va_put (D := (dC, dI)) (ci := 8) (v := .int (0 : Int32)) (ty := .int) (C := RX6) (T := TX6) (N := 12) hx hb hts (by decide +kernel) tyX6 tyX6_ok nmX6 hown hK hP hD hS 0 rfl rfl 7 (by decide) (hts (.fieldLink RX6 36 "BlockLog$Story" "heard" "I") (by decide +kernel)) (fun _ h9 => h9) rfl (by decide +kernel) rfl rfl (Nat.le_of_ble_eq_true rfl) dX6_init_64 (fun H locs hP hD hS => ?_)
  have hP : va_P (dC, dI) vwCl [(h0, .inr (8, [.ref h1, .ref q13, .ref q22, .ref q31, .ref q40, .ref q49, .ref q57, .int (0 : Int32), .int 0, .int 0, .int 0, .int 0])), (q13, .inl (c13, 128, .inr (.inl (fun _ => 0)))), (q22, .inl (c22, 128, .inl (fun _ => 0))), (q31, .inl (c31, 128, .inl (fun _ => 0))), (q40, .inl (c40, 128, .inl (fun _ => 0))), (q49, .inl (c49, 128, .inl (fun _ => 0))), (q57, .inl (c57, 16, .inr (.inl (fun _ => 0))))] H := hP
  have hD : va_D A [(h0, .inr (8, [.ref h1, .ref q13, .ref q22, .ref q31, .ref q40, .ref q49, .ref q57, .int (0 : Int32), .int 0, .int 0, .int 0, .int 0])), (q13, .inl (c13, 128, .inr (.inl (fun _ => 0)))), (q22, .inl (c22, 128, .inl (fun _ => 0))), (q31, .inl (c31, 128, .inl (fun _ => 0))), (q40, .inl (c40, 128, .inl (fun _ => 0))), (q49, .inl (c49, 128, .inl (fun _ => 0))), (q57, .inl (c57, 16, .inr (.inl (fun _ => 0))))] := hD
  refine lv_aload_n hx hb dX6_init_67 rfl (lv_at hl 0 rfl) ?_
  refine lv_iconst (v := 0) hx hb dX6_init_68 (by decide) ?_
  refine va_put (D := (dC, dI)) (ci := 8) (v := .int (0 : Int32)) (ty := .int) (C := RX6) (T := TX6) (N := 12) hx hb hts (by decide +kernel) tyX6 tyX6_ok nmX6 hown hK hP hD hS 0 rfl rfl 8 (by decide) (hts (.fieldLink RX6 40 "BlockLog$Story" "certified" "I") (by decide +kernel)) (fun _ h9 => h9) rfl (by decide +kernel) rfl rfl (Nat.le_of_ble_eq_true rfl) dX6_init_69 (fun H locs hP hD hS => ?_)
  have hP : va_P (dC, dI) vwCl [(h0, .inr (8, [.ref h1, .ref q13, .ref q22, .ref q31, .ref q40, .ref q49, .ref q57, .int (0 : Int32), .int (0 : Int32), .int 0, .int 0, .int 0])), (q13, .inl (c13, 128, .inr (.inl (fun _ => 0)))), (q22, .inl (c22, 128, .inl (fun _ => 0))), (q31, .inl (c31, 128, .inl (fun _ => 0))), (q40, .inl (c40, 128, .inl (fun _ => 0))), (q49, .inl (c49, 128, .inl (fun _ => 0))), (q57, .inl (c57, 16, .inr (.inl (fun _ => 0))))] H := hP
  have hD : va_D A [(h0, .inr (8, [.ref h1, .ref q13, .ref q22, .ref q31, .ref q40, .ref q49, .ref q57, .int (0 : Int32), .int (0 : Int32), .int 0, .int 0, .int 0])), (q13, .inl (c13, 128, .inr (.inl (fun _ => 0)))), (q22, .inl (c22, 128, .inl (fun _ => 0))), (q31, .inl (c31, 128, .inl (fun _ => 0))), (q40, .inl (c40, 128, .inl (fun _ => 0))), (q49, .inl (c49, 128, .inl (fun _ => 0))), (q57, .inl (c57, 16, .inr (.inl (fun _ => 0))))] := hD
  refine lv_aload_n hx hb dX6_init_72 rfl (lv_at hl 0 rfl) ?_
  refine lv_iconst (v := (-1)) hx hb dX6_init_73 (by decide) ?_
  refine va_put (D := (dC, dI)) (ci := 8) (v := .int (-1 : Int32)) (ty := .int) (C := RX6) (T := TX6) (N := 12) hx hb hts (by decide +kernel) tyX6 tyX6_ok nmX6 hown hK hP hD hS 0 rfl rfl 9 (by decide) (hts (.fieldLink RX6 43 "BlockLog$Story" "lastVote" "I") (by decide +kernel)) (fun _ h9 => h9) rfl (by decide +kernel) rfl rfl (Nat.le_of_ble_eq_true rfl) dX6_init_74 (fun H locs hP hD hS => ?_)
  have hP : va_P (dC, dI) vwCl [(h0, .inr (8, [.ref h1, .ref q13, .ref q22, .ref q31, .ref q40, .ref q49, .ref q57, .int (0 : Int32), .int (0 : Int32), .int (-1 : Int32), .int 0, .int 0])), (q13, .inl (c13, 128, .inr (.inl (fun _ => 0)))), (q22, .inl (c22, 128, .inl (fun _ => 0))), (q31, .inl (c31, 128, .inl (fun _ => 0))), (q40, .inl (c40, 128, .inl (fun _ => 0))), (q49, .inl (c49, 128, .inl (fun _ => 0))), (q57, .inl (c57, 16, .inr (.inl (fun _ => 0))))] H := hP
  have hD : va_D A [(h0, .inr (8, [.ref h1, .ref q13, .ref q22, .ref q31, .ref q40, .ref q49, .ref q57, .int (0 : Int32), .int (0 : Int32), .int (-1 : Int32), .int 0, .int 0])), (q13, .inl (c13, 128, .inr (.inl (fun _ => 0)))), (q22, .inl (c22, 128, .inl (fun _ => 0))), (q31, .inl (c31, 128, .inl (fun _ => 0))), (q40, .inl (c40, 128, .inl (fun _ => 0))), (q49, .inl (c49, 128, .inl (fun _ => 0))), (q57, .inl (c57, 16, .inr (.inl (fun _ => 0))))] := hD
  refine lv_aload_n hx hb dX6_init_77 rfl (lv_at hl 0 rfl) ?_
  refine lv_iconst (v := 0) hx hb dX6_init_78 (by decide) ?_
  refine va_put (D := (dC, dI)) (ci := 8) (v := .int (0 : Int32)) (ty := .boolean) (C := RX6) (T := TX6) (N := 12) hx hb hts (by decide +kernel) tyX6 tyX6_ok nmX6 hown hK hP hD hS 0 rfl rfl 10 (by decide) (hts (.fieldLink RX6 46 "BlockLog$Story" "based" "Z") (by decide +kernel)) (fun _ h9 => h9) rfl (by decide +kernel) rfl rfl (Nat.le_of_ble_eq_true rfl) dX6_init_79 (fun H locs hP hD hS => ?_)
  have hP : va_P (dC, dI) vwCl [(h0, .inr (8, [.ref h1, .ref q13, .ref q22, .ref q31, .ref q40, .ref q49, .ref q57, .int (0 : Int32), .int (0 : Int32), .int (-1 : Int32), .int (0 : Int32), .int 0])), (q13, .inl (c13, 128, .inr (.inl (fun _ => 0)))), (q22, .inl (c22, 128, .inl (fun _ => 0))), (q31, .inl (c31, 128, .inl (fun _ => 0))), (q40, .inl (c40, 128, .inl (fun _ => 0))), (q49, .inl (c49, 128, .inl (fun _ => 0))), (q57, .inl (c57, 16, .inr (.inl (fun _ => 0))))] H := hP
  have hD : va_D A [(h0, .inr (8, [.ref h1, .ref q13, .ref q22, .ref q31, .ref q40, .ref q49, .ref q57, .int (0 : Int32), .int (0 : Int32), .int (-1 : Int32), .int (0 : Int32), .int 0])), (q13, .inl (c13, 128, .inr (.inl (fun _ => 0)))), (q22, .inl (c22, 128, .inl (fun _ => 0))), (q31, .inl (c31, 128, .inl (fun _ => 0))), (q40, .inl (c40, 128, .inl (fun _ => 0))), (q49, .inl (c49, 128, .inl (fun _ => 0))), (q57, .inl (c57, 16, .inr (.inl (fun _ => 0))))] := hD
  refine lv_aload_n hx hb dX6_init_82 rfl (lv_at hl 0 rfl) ?_
  refine lv_iconst (v := 0) hx hb dX6_init_83 (by decide) ?_
  refine va_put (D := (dC, dI)) (ci := 8) (v := .int (0 : Int32)) (ty := .int) (C := RX6) (T := TX6) (N := 12) hx hb hts (by decide +kernel) tyX6 tyX6_ok nmX6 hown hK hP hD hS 0 rfl rfl 11 (by decide) (hts (.fieldLink RX6 50 "BlockLog$Story" "baseHeight" "I") (by decide +kernel)) (fun _ h9 => h9) rfl (by decide +kernel) rfl rfl (Nat.le_of_ble_eq_true rfl) dX6_init_84 (fun H locs hP hD hS => ?_)
  have hP : va_P (dC, dI) vwCl [(h0, .inr (8, [.ref h1, .ref q13, .ref q22, .ref q31, .ref q40, .ref q49, .ref q57, .int (0 : Int32), .int (0 : Int32), .int (-1 : Int32), .int (0 : Int32), .int (0 : Int32)])), (q13, .inl (c13, 128, .inr (.inl (fun _ => 0)))), (q22, .inl (c22, 128, .inl (fun _ => 0))), (q31, .inl (c31, 128, .inl (fun _ => 0))), (q40, .inl (c40, 128, .inl (fun _ => 0))), (q49, .inl (c49, 128, .inl (fun _ => 0))), (q57, .inl (c57, 16, .inr (.inl (fun _ => 0))))] H := hP
  have hD : va_D A [(h0, .inr (8, [.ref h1, .ref q13, .ref q22, .ref q31, .ref q40, .ref q49, .ref q57, .int (0 : Int32), .int (0 : Int32), .int (-1 : Int32), .int (0 : Int32), .int (0 : Int32)])), (q13, .inl (c13, 128, .inr (.inl (fun _ => 0)))), (q22, .inl (c22, 128, .inl (fun _ => 0))), (q31, .inl (c31, 128, .inl (fun _ => 0))), (q40, .inl (c40, 128, .inl (fun _ => 0))), (q49, .inl (c49, 128, .inl (fun _ => 0))), (q57, .inl (c57, 16, .inr (.inl (fun _ => 0))))] := hD
  have hP := hP.sub (ws' := [(h0, .inr (8, [.ref h1, .ref q13, .ref q22, .ref q31, .ref q40, .ref q49, .ref q57, .int (0 : Int32), .int (0 : Int32), .int (-1 : Int32), .int (0 : Int32), .int (0 : Int32)])), (q13, .inl (c13, 128, .inr (.inl (fun _ => 0)))), (q22, .inl (c22, 128, .inl (fun _ => 0))), (q31, .inl (c31, 128, .inl (fun _ => 0))), (q40, .inl (c40, 128, .inl (fun _ => 0))), (q49, .inl (c49, 128, .inl (fun _ => 0))), (q57, .inl (c57, 16, .inr (.inl (fun _ => 0))))]) [0, 1, 2, 3, 4, 5, 6] rfl
  have hD := hD.sub (ws' := [(h0, .inr (8, [.ref h1, .ref q13, .ref q22, .ref q31, .ref q40, .ref q49, .ref q57, .int (0 : Int32), .int (0 : Int32), .int (-1 : Int32), .int (0 : Int32), .int (0 : Int32)])), (q13, .inl (c13, 128, .inr (.inl (fun _ => 0)))), (q22, .inl (c22, 128, .inl (fun _ => 0))), (q31, .inl (c31, 128, .inl (fun _ => 0))), (q40, .inl (c40, 128, .inl (fun _ => 0))), (q49, .inl (c49, 128, .inl (fun _ => 0))), (q57, .inl (c57, 16, .inr (.inl (fun _ => 0))))]) [0, 1, 2, 3, 4, 5, 6] (by decide) rfl
  have hK := hK.sub (tys' := [(c13, .long), (c22, .boolean), (c31, .boolean), (c40, .boolean), (c49, .int), (c57, .long)]) [0, 1, 2, 3, 4, 5] rfl
  exact W.vret hx hb hr (fun t ht hW => ⟨⟨(), rfl, trivial, q13, q22, q31, q40, q49, q57, c13, c22, c31, c40, c49, c57, by rw [ht]; exact hP, va_K.moved hW.alike hK, hD⟩, hS.F ht⟩) hS.2.2 dX6_init_87
set_option maxHeartbeats 4000000 in
set_option maxRecDepth 100000 in
theorem k_X3_init (l : Launch) (dC : Nat → ClassId) (dI : Nat → Nat → Nat) (h0 h1 h2 h3 : Nat) (sz : Nat)  : Met l yX3_init wsX3_init ({ frames := 1, cells := 1, slots := 128, locals := 12 }) (va_Pc [.ref h0, .ref h1, .ref h2, .ref h3] (fun U => U.heap.size = sz ∧ va_P (dC, dI) vwCl [(h0, .inr (5, [.null, .null, .null, .null]))] U.heap ∧ va_K (dC, dI) vwCl [] U ∧ va_D (fun _ => True) [(h0, .inr (5, [.null, .null, .null, .null]))])) (va_Qv (fun (_ : Unit) => True) (fun (_ : Unit) t => ∃ (q23 : Nat) (c23 : ClassId), va_P (dC, dI) vwCl [(h0, .inr (5, [.ref h1, .ref h2, .ref h3, .ref q23])), (q23, .inl (c23, 128, .inl (fun _ => 0)))] t.heap ∧ va_K (dC, dI) vwCl [(c23, .boolean)] t ∧ va_D (va_A [(h0, .inr (5, [.null, .null, .null, .null]))] sz) [(h0, .inr (5, [.ref h1, .ref h2, .ref h3, .ref q23])), (q23, .inl (c23, 128, .inl (fun _ => 0)))]) (va_A [(h0, .inr (5, [.null, .null, .null, .null]))] sz)) 1 128 (va_A [(h0, .inr (5, [.null, .null, .null, .null]))] sz) := by
  refine Met.ofW (cc := cX3_init) (maxL := 4) (ret := none) (by decide) rfl ?_
  intro p e s m args below meth c s₁ B hml hv
  obtain ⟨rfl, hsz, hP, hK, hD0⟩ := hv
  have hx := B.exec
  have hb := B.bytes
  have hr := B.returns
  have hts := atoms_spec (ws := wsX3_init) B.pre
  have hown : s.vm.findClass RX3 = some m.cls := findClass_of_methodNamed B.named
  have hlocks := B.notSynchronized
  have hin : meth.name = "<init>" := (name_of_methodNamed B.named B.method).1
  subst hsz
  have hD := hD0.self (sz := s.heap.size)
  generalize hAe : va_A [(h0, .inr (5, [.null, .null, .null, .null]))] s.heap.size = A at hD ⊢
  have hA : ∀ q : Nat, s.heap.size ≤ q → A q := fun q h => by rw [← hAe]; exact Or.inr h
  have hS : va_S A s.heap s.heap [] := va_S.rf
  have hl := lv_entry ([.ref h0, .ref h1, .ref h2, .ref h3]) (n := 4) (Nat.le_of_ble_eq_true rfl)
  rw [lg_entry_eq]
  generalize (lg_sl ([.ref h0, .ref h1, .ref h2, .ref h3]) ++ List.replicate (4 - (lg_sl ([.ref h0, .ref h1, .ref h2, .ref h3])).length) Slot.unset).toArray = ls at hl ⊢
  have hl : lv_has ls 4 [(0, .ref h0), (1, .ref h1), (2, .ref h2), (3, .ref h3)] := hl
  refine lv_aload_n hx hb dX3_init_0 rfl (lv_at hl 0 rfl) ?_
  refine W.objInit hx hb hown (hts (.methodLink RX3 3 objectInit) (by decide +kernel)) (hts (.instanceMethod objectInit) (by decide +kernel)) (hts (.code objectInit ⟨#[0xb1]⟩ 1 none) (by decide +kernel)) rfl (by rw [hml]; exact hl.1) rfl dX3_init_1 (Nat.le_of_ble_eq_true rfl) (Nat.le_of_ble_eq_true rfl) ?_
  refine W.eq (g2 := F0 m 4 ls []) rfl ?_
  refine lv_aload_n hx hb dX3_init_4 rfl (lv_at hl 0 rfl) ?_
  refine lv_aload_n hx hb dX3_init_5 rfl (lv_at hl 1 rfl) ?_
  refine va_putF (D := (dC, dI)) (ci := 5) (v := .ref h1) (ty := (.object "BlockLog$Disk")) (C := RX3) (T := TX3) (N := 4) hx hb hts (by decide +kernel) tyX3 tyX3_ok nmX3 hown hK hP hD hS 0 rfl rfl 0 (by decide) (hts (.fieldLink RX3 9 "BlockLog$Pruning" "disk" "LBlockLog$Disk;") (by decide +kernel)) (fun _ h9 => h9) rfl hin rfl (by decide +kernel) rfl rfl (Nat.le_of_ble_eq_true rfl) dX3_init_6 (fun H locs hP hD hS => ?_)
  have hP : va_P (dC, dI) vwCl [(h0, .inr (5, [.ref h1, .null, .null, .null]))] H := hP
  have hD : va_D A [(h0, .inr (5, [.ref h1, .null, .null, .null]))] := hD
  refine lv_aload_n hx hb dX3_init_9 rfl (lv_at hl 0 rfl) ?_
  refine lv_aload_n hx hb dX3_init_10 rfl (lv_at hl 2 rfl) ?_
  refine va_putF (D := (dC, dI)) (ci := 5) (v := .ref h2) (ty := (.object "BlockLog$Rows")) (C := RX3) (T := TX3) (N := 4) hx hb hts (by decide +kernel) tyX3 tyX3_ok nmX3 hown hK hP hD hS 0 rfl rfl 1 (by decide) (hts (.fieldLink RX3 15 "BlockLog$Pruning" "rows" "LBlockLog$Rows;") (by decide +kernel)) (fun _ h9 => h9) rfl hin rfl (by decide +kernel) rfl rfl (Nat.le_of_ble_eq_true rfl) dX3_init_11 (fun H locs hP hD hS => ?_)
  have hP : va_P (dC, dI) vwCl [(h0, .inr (5, [.ref h1, .ref h2, .null, .null]))] H := hP
  have hD : va_D A [(h0, .inr (5, [.ref h1, .ref h2, .null, .null]))] := hD
  refine lv_aload_n hx hb dX3_init_14 rfl (lv_at hl 0 rfl) ?_
  refine lv_aload_n hx hb dX3_init_15 rfl (lv_at hl 3 rfl) ?_
  refine va_putF (D := (dC, dI)) (ci := 5) (v := .ref h3) (ty := (.object "BlockLog$Story")) (C := RX3) (T := TX3) (N := 4) hx hb hts (by decide +kernel) tyX3 tyX3_ok nmX3 hown hK hP hD hS 0 rfl rfl 2 (by decide) (hts (.fieldLink RX3 19 "BlockLog$Pruning" "story" "LBlockLog$Story;") (by decide +kernel)) (fun _ h9 => h9) rfl hin rfl (by decide +kernel) rfl rfl (Nat.le_of_ble_eq_true rfl) dX3_init_16 (fun H locs hP hD hS => ?_)
  have hP : va_P (dC, dI) vwCl [(h0, .inr (5, [.ref h1, .ref h2, .ref h3, .null]))] H := hP
  have hD : va_D A [(h0, .inr (5, [.ref h1, .ref h2, .ref h3, .null]))] := hD
  refine lv_aload_n hx hb dX3_init_19 rfl (lv_at hl 0 rfl) ?_
  refine lv_sipush (v := 128) hx hb dX3_init_20 (by decide) ?_
  refine va_newa (atype := .boolean) (ty := .boolean) (n := 128) (N' := 128) (a0 := (128, .inl (fun _ => 0))) hx hb (hts (.arrayClass .boolean) (by decide +kernel)) rfl hK hP hD hS hA (fun _ => rfl) (by decide +kernel) (by decide +kernel) (by decide +kernel) (Nat.le_of_ble_eq_true rfl) (Nat.le_of_ble_eq_true rfl) dX3_init_23 (fun q23 c23 H hK hP hD hS => ?_)
  have hP : va_P (dC, dI) vwCl [(h0, .inr (5, [.ref h1, .ref h2, .ref h3, .null])), (q23, .inl (c23, 128, .inl (fun _ => 0)))] H := hP
  have hD : va_D A [(h0, .inr (5, [.ref h1, .ref h2, .ref h3, .null])), (q23, .inl (c23, 128, .inl (fun _ => 0)))] := hD
  have hK : va_K (dC, dI) vwCl [(c23, .boolean)] s := hK
  refine va_putF (D := (dC, dI)) (ci := 5) (v := .ref q23) (ty := (.array .boolean)) (C := RX3) (T := TX3) (N := 4) hx hb hts (by decide +kernel) tyX3 tyX3_ok nmX3 hown hK hP hD hS 0 rfl rfl 3 (by decide) (hts (.fieldLink RX3 23 "BlockLog$Pruning" "keeps" "[Z") (by decide +kernel)) (fun _ h9 => h9) rfl hin rfl (by decide +kernel) rfl rfl (Nat.le_of_ble_eq_true rfl) dX3_init_25 (fun H locs hP hD hS => ?_)
  have hP : va_P (dC, dI) vwCl [(h0, .inr (5, [.ref h1, .ref h2, .ref h3, .ref q23])), (q23, .inl (c23, 128, .inl (fun _ => 0)))] H := hP
  have hD : va_D A [(h0, .inr (5, [.ref h1, .ref h2, .ref h3, .ref q23])), (q23, .inl (c23, 128, .inl (fun _ => 0)))] := hD
  have hP := hP.sub (ws' := [(h0, .inr (5, [.ref h1, .ref h2, .ref h3, .ref q23])), (q23, .inl (c23, 128, .inl (fun _ => 0)))]) [0, 1] rfl
  have hD := hD.sub (ws' := [(h0, .inr (5, [.ref h1, .ref h2, .ref h3, .ref q23])), (q23, .inl (c23, 128, .inl (fun _ => 0)))]) [0, 1] (by decide) rfl
  have hK := hK.sub (tys' := [(c23, .boolean)]) [0] rfl
  exact W.vret hx hb hr (fun t ht hW => ⟨⟨(), rfl, trivial, q23, c23, by rw [ht]; exact hP, va_K.moved hW.alike hK, hD⟩, hS.F ht⟩) hS.2.2 dX3_init_28
set_option maxHeartbeats 4000000 in
set_option maxRecDepth 100000 in
theorem k_X5_init (l : Launch) (dC : Nat → ClassId) (dI : Nat → Nat → Nat) (h0 : Nat) (sz : Nat)  : Met l yX5_init wsX5_init ({ frames := 1, cells := 4, slots := 64, locals := 12 }) (va_Pc [.ref h0] (fun U => U.heap.size = sz ∧ va_P (dC, dI) vwCl [(h0, .inr (7, [.null, .null, .null, .null, .int 0, .long 0, .int 0]))] U.heap ∧ va_K (dC, dI) vwCl [] U ∧ va_D (fun _ => True) [(h0, .inr (7, [.null, .null, .null, .null, .int 0, .long 0, .int 0]))])) (va_Qv (fun (_ : Unit) => True) (fun (_ : Unit) t => ∃ (q7 : Nat) (q15 : Nat) (q23 : Nat) (q31 : Nat) (c7 : ClassId) (c15 : ClassId) (c23 : ClassId) (c31 : ClassId), va_P (dC, dI) vwCl [(h0, .inr (7, [.ref q7, .ref q15, .ref q23, .ref q31, .int (0 : Int32), .long (0 : Int64), .int (0 : Int32)])), (q7, .inl (c7, 16, .inl (fun _ => 0))), (q15, .inl (c15, 16, .inl (fun _ => 0))), (q23, .inl (c23, 16, .inl (fun _ => 0))), (q31, .inl (c31, 16, .inr (.inl (fun _ => 0))))] t.heap ∧ va_K (dC, dI) vwCl [(c7, .int), (c15, .int), (c23, .int), (c31, .long)] t ∧ va_D (va_A [(h0, .inr (7, [.null, .null, .null, .null, .int 0, .long 0, .int 0]))] sz) [(h0, .inr (7, [.ref q7, .ref q15, .ref q23, .ref q31, .int (0 : Int32), .long (0 : Int64), .int (0 : Int32)])), (q7, .inl (c7, 16, .inl (fun _ => 0))), (q15, .inl (c15, 16, .inl (fun _ => 0))), (q23, .inl (c23, 16, .inl (fun _ => 0))), (q31, .inl (c31, 16, .inr (.inl (fun _ => 0))))]) (va_A [(h0, .inr (7, [.null, .null, .null, .null, .int 0, .long 0, .int 0]))] sz)) 4 64 (va_A [(h0, .inr (7, [.null, .null, .null, .null, .int 0, .long 0, .int 0]))] sz) := by
  refine Met.ofW (cc := cX5_init) (maxL := 1) (ret := none) (by decide) rfl ?_
  intro p e s m args below meth c s₁ B hml hv
  obtain ⟨rfl, hsz, hP, hK, hD0⟩ := hv
  have hx := B.exec
  have hb := B.bytes
  have hr := B.returns
  have hts := atoms_spec (ws := wsX5_init) B.pre
  have hown : s.vm.findClass RX5 = some m.cls := findClass_of_methodNamed B.named
  have hlocks := B.notSynchronized
  have hin : meth.name = "<init>" := (name_of_methodNamed B.named B.method).1
  subst hsz
  have hD := hD0.self (sz := s.heap.size)
  generalize hAe : va_A [(h0, .inr (7, [.null, .null, .null, .null, .int 0, .long 0, .int 0]))] s.heap.size = A at hD ⊢
  have hA : ∀ q : Nat, s.heap.size ≤ q → A q := fun q h => by rw [← hAe]; exact Or.inr h
  have hS : va_S A s.heap s.heap [] := va_S.rf
  have hl := lv_entry ([.ref h0]) (n := 1) (Nat.le_of_ble_eq_true rfl)
  rw [lg_entry_eq]
  generalize (lg_sl ([.ref h0]) ++ List.replicate (1 - (lg_sl ([.ref h0])).length) Slot.unset).toArray = ls at hl ⊢
  have hl : lv_has ls 1 [(0, .ref h0)] := hl
  refine lv_aload_n hx hb dX5_init_0 rfl (lv_at hl 0 rfl) ?_
  refine W.objInit hx hb hown (hts (.methodLink RX5 3 objectInit) (by decide +kernel)) (hts (.instanceMethod objectInit) (by decide +kernel)) (hts (.code objectInit ⟨#[0xb1]⟩ 1 none) (by decide +kernel)) rfl (by rw [hml]; exact hl.1) rfl dX5_init_1 (Nat.le_of_ble_eq_true rfl) (Nat.le_of_ble_eq_true rfl) ?_
  refine W.eq (g2 := F0 m 4 ls []) rfl ?_
  refine lv_aload_n hx hb dX5_init_4 rfl (lv_at hl 0 rfl) ?_
  refine lv_bipush (v := 16) hx hb dX5_init_5 (by decide) ?_
  refine va_newa (atype := .int) (ty := .int) (n := 16) (N' := 16) (a0 := (16, .inl (fun _ => 0))) hx hb (hts (.arrayClass .int) (by decide +kernel)) rfl hK hP hD hS hA (fun _ => rfl) (by decide +kernel) (by decide +kernel) (by decide +kernel) (Nat.le_of_ble_eq_true rfl) (Nat.le_of_ble_eq_true rfl) dX5_init_7 (fun q7 c7 H hK hP hD hS => ?_)
  have hP : va_P (dC, dI) vwCl [(h0, .inr (7, [.null, .null, .null, .null, .int 0, .long 0, .int 0])), (q7, .inl (c7, 16, .inl (fun _ => 0)))] H := hP
  have hD : va_D A [(h0, .inr (7, [.null, .null, .null, .null, .int 0, .long 0, .int 0])), (q7, .inl (c7, 16, .inl (fun _ => 0)))] := hD
  have hK : va_K (dC, dI) vwCl [(c7, .int)] s := hK
  refine va_putF (D := (dC, dI)) (ci := 7) (v := .ref q7) (ty := (.array .int)) (C := RX5) (T := TX5) (N := 7) hx hb hts (by decide +kernel) tyX5 tyX5_ok nmX5 hown hK hP hD hS 0 rfl rfl 0 (by decide) (hts (.fieldLink RX5 9 "BlockLog$Snapshot" "slots" "[I") (by decide +kernel)) (fun _ h9 => h9) rfl hin rfl (by decide +kernel) rfl rfl (Nat.le_of_ble_eq_true rfl) dX5_init_9 (fun H locs hP hD hS => ?_)
  have hP : va_P (dC, dI) vwCl [(h0, .inr (7, [.ref q7, .null, .null, .null, .int 0, .long 0, .int 0])), (q7, .inl (c7, 16, .inl (fun _ => 0)))] H := hP
  have hD : va_D A [(h0, .inr (7, [.ref q7, .null, .null, .null, .int 0, .long 0, .int 0])), (q7, .inl (c7, 16, .inl (fun _ => 0)))] := hD
  refine lv_aload_n hx hb dX5_init_12 rfl (lv_at hl 0 rfl) ?_
  refine lv_bipush (v := 16) hx hb dX5_init_13 (by decide) ?_
  refine va_newa (atype := .int) (ty := .int) (n := 16) (N' := 16) (a0 := (16, .inl (fun _ => 0))) hx hb (hts (.arrayClass .int) (by decide +kernel)) rfl hK hP hD hS hA (fun _ => rfl) (by decide +kernel) (by decide +kernel) (by decide +kernel) (Nat.le_of_ble_eq_true rfl) (Nat.le_of_ble_eq_true rfl) dX5_init_15 (fun q15 c15 H hK hP hD hS => ?_)
  have hP : va_P (dC, dI) vwCl [(h0, .inr (7, [.ref q7, .null, .null, .null, .int 0, .long 0, .int 0])), (q7, .inl (c7, 16, .inl (fun _ => 0))), (q15, .inl (c15, 16, .inl (fun _ => 0)))] H := hP
  have hD : va_D A [(h0, .inr (7, [.ref q7, .null, .null, .null, .int 0, .long 0, .int 0])), (q7, .inl (c7, 16, .inl (fun _ => 0))), (q15, .inl (c15, 16, .inl (fun _ => 0)))] := hD
  have hK : va_K (dC, dI) vwCl [(c7, .int), (c15, .int)] s := hK
  refine va_putF (D := (dC, dI)) (ci := 7) (v := .ref q15) (ty := (.array .int)) (C := RX5) (T := TX5) (N := 7) hx hb hts (by decide +kernel) tyX5 tyX5_ok nmX5 hown hK hP hD hS 0 rfl rfl 1 (by decide) (hts (.fieldLink RX5 15 "BlockLog$Snapshot" "starts" "[I") (by decide +kernel)) (fun _ h9 => h9) rfl hin rfl (by decide +kernel) rfl rfl (Nat.le_of_ble_eq_true rfl) dX5_init_17 (fun H locs hP hD hS => ?_)
  have hP : va_P (dC, dI) vwCl [(h0, .inr (7, [.ref q7, .ref q15, .null, .null, .int 0, .long 0, .int 0])), (q7, .inl (c7, 16, .inl (fun _ => 0))), (q15, .inl (c15, 16, .inl (fun _ => 0)))] H := hP
  have hD : va_D A [(h0, .inr (7, [.ref q7, .ref q15, .null, .null, .int 0, .long 0, .int 0])), (q7, .inl (c7, 16, .inl (fun _ => 0))), (q15, .inl (c15, 16, .inl (fun _ => 0)))] := hD
  refine lv_aload_n hx hb dX5_init_20 rfl (lv_at hl 0 rfl) ?_
  refine lv_bipush (v := 16) hx hb dX5_init_21 (by decide) ?_
  refine va_newa (atype := .int) (ty := .int) (n := 16) (N' := 16) (a0 := (16, .inl (fun _ => 0))) hx hb (hts (.arrayClass .int) (by decide +kernel)) rfl hK hP hD hS hA (fun _ => rfl) (by decide +kernel) (by decide +kernel) (by decide +kernel) (Nat.le_of_ble_eq_true rfl) (Nat.le_of_ble_eq_true rfl) dX5_init_23 (fun q23 c23 H hK hP hD hS => ?_)
  have hP : va_P (dC, dI) vwCl [(h0, .inr (7, [.ref q7, .ref q15, .null, .null, .int 0, .long 0, .int 0])), (q7, .inl (c7, 16, .inl (fun _ => 0))), (q15, .inl (c15, 16, .inl (fun _ => 0))), (q23, .inl (c23, 16, .inl (fun _ => 0)))] H := hP
  have hD : va_D A [(h0, .inr (7, [.ref q7, .ref q15, .null, .null, .int 0, .long 0, .int 0])), (q7, .inl (c7, 16, .inl (fun _ => 0))), (q15, .inl (c15, 16, .inl (fun _ => 0))), (q23, .inl (c23, 16, .inl (fun _ => 0)))] := hD
  have hK : va_K (dC, dI) vwCl [(c7, .int), (c15, .int), (c23, .int)] s := hK
  refine va_putF (D := (dC, dI)) (ci := 7) (v := .ref q23) (ty := (.array .int)) (C := RX5) (T := TX5) (N := 7) hx hb hts (by decide +kernel) tyX5 tyX5_ok nmX5 hown hK hP hD hS 0 rfl rfl 2 (by decide) (hts (.fieldLink RX5 18 "BlockLog$Snapshot" "sizes" "[I") (by decide +kernel)) (fun _ h9 => h9) rfl hin rfl (by decide +kernel) rfl rfl (Nat.le_of_ble_eq_true rfl) dX5_init_25 (fun H locs hP hD hS => ?_)
  have hP : va_P (dC, dI) vwCl [(h0, .inr (7, [.ref q7, .ref q15, .ref q23, .null, .int 0, .long 0, .int 0])), (q7, .inl (c7, 16, .inl (fun _ => 0))), (q15, .inl (c15, 16, .inl (fun _ => 0))), (q23, .inl (c23, 16, .inl (fun _ => 0)))] H := hP
  have hD : va_D A [(h0, .inr (7, [.ref q7, .ref q15, .ref q23, .null, .int 0, .long 0, .int 0])), (q7, .inl (c7, 16, .inl (fun _ => 0))), (q15, .inl (c15, 16, .inl (fun _ => 0))), (q23, .inl (c23, 16, .inl (fun _ => 0)))] := hD
  refine lv_aload_n hx hb dX5_init_28 rfl (lv_at hl 0 rfl) ?_
  refine lv_bipush (v := 16) hx hb dX5_init_29 (by decide) ?_
  refine va_newa (atype := .long) (ty := .long) (n := 16) (N' := 16) (a0 := (16, .inr (.inl (fun _ => 0)))) hx hb (hts (.arrayClass .long) (by decide +kernel)) rfl hK hP hD hS hA (fun _ => rfl) (by decide +kernel) (by decide +kernel) (by decide +kernel) (Nat.le_of_ble_eq_true rfl) (Nat.le_of_ble_eq_true rfl) dX5_init_31 (fun q31 c31 H hK hP hD hS => ?_)
  have hP : va_P (dC, dI) vwCl [(h0, .inr (7, [.ref q7, .ref q15, .ref q23, .null, .int 0, .long 0, .int 0])), (q7, .inl (c7, 16, .inl (fun _ => 0))), (q15, .inl (c15, 16, .inl (fun _ => 0))), (q23, .inl (c23, 16, .inl (fun _ => 0))), (q31, .inl (c31, 16, .inr (.inl (fun _ => 0))))] H := hP
  have hD : va_D A [(h0, .inr (7, [.ref q7, .ref q15, .ref q23, .null, .int 0, .long 0, .int 0])), (q7, .inl (c7, 16, .inl (fun _ => 0))), (q15, .inl (c15, 16, .inl (fun _ => 0))), (q23, .inl (c23, 16, .inl (fun _ => 0))), (q31, .inl (c31, 16, .inr (.inl (fun _ => 0))))] := hD
  have hK : va_K (dC, dI) vwCl [(c7, .int), (c15, .int), (c23, .int), (c31, .long)] s := hK
  refine va_putF (D := (dC, dI)) (ci := 7) (v := .ref q31) (ty := (.array .long)) (C := RX5) (T := TX5) (N := 7) hx hb hts (by decide +kernel) tyX5 tyX5_ok nmX5 hown hK hP hD hS 0 rfl rfl 3 (by decide) (hts (.fieldLink RX5 21 "BlockLog$Snapshot" "digests" "[J") (by decide +kernel)) (fun _ h9 => h9) rfl hin rfl (by decide +kernel) rfl rfl (Nat.le_of_ble_eq_true rfl) dX5_init_33 (fun H locs hP hD hS => ?_)
  have hP : va_P (dC, dI) vwCl [(h0, .inr (7, [.ref q7, .ref q15, .ref q23, .ref q31, .int 0, .long 0, .int 0])), (q7, .inl (c7, 16, .inl (fun _ => 0))), (q15, .inl (c15, 16, .inl (fun _ => 0))), (q23, .inl (c23, 16, .inl (fun _ => 0))), (q31, .inl (c31, 16, .inr (.inl (fun _ => 0))))] H := hP
  have hD : va_D A [(h0, .inr (7, [.ref q7, .ref q15, .ref q23, .ref q31, .int 0, .long 0, .int 0])), (q7, .inl (c7, 16, .inl (fun _ => 0))), (q15, .inl (c15, 16, .inl (fun _ => 0))), (q23, .inl (c23, 16, .inl (fun _ => 0))), (q31, .inl (c31, 16, .inr (.inl (fun _ => 0))))] := hD
  refine lv_aload_n hx hb dX5_init_36 rfl (lv_at hl 0 rfl) ?_
  refine lv_iconst (v := 0) hx hb dX5_init_37 (by decide) ?_
  refine va_put (D := (dC, dI)) (ci := 7) (v := .int (0 : Int32)) (ty := .int) (C := RX5) (T := TX5) (N := 7) hx hb hts (by decide +kernel) tyX5 tyX5_ok nmX5 hown hK hP hD hS 0 rfl rfl 4 (by decide) (hts (.fieldLink RX5 25 "BlockLog$Snapshot" "height" "I") (by decide +kernel)) (fun _ h9 => h9) rfl (by decide +kernel) rfl rfl (Nat.le_of_ble_eq_true rfl) dX5_init_38 (fun H locs hP hD hS => ?_)
  have hP : va_P (dC, dI) vwCl [(h0, .inr (7, [.ref q7, .ref q15, .ref q23, .ref q31, .int (0 : Int32), .long 0, .int 0])), (q7, .inl (c7, 16, .inl (fun _ => 0))), (q15, .inl (c15, 16, .inl (fun _ => 0))), (q23, .inl (c23, 16, .inl (fun _ => 0))), (q31, .inl (c31, 16, .inr (.inl (fun _ => 0))))] H := hP
  have hD : va_D A [(h0, .inr (7, [.ref q7, .ref q15, .ref q23, .ref q31, .int (0 : Int32), .long 0, .int 0])), (q7, .inl (c7, 16, .inl (fun _ => 0))), (q15, .inl (c15, 16, .inl (fun _ => 0))), (q23, .inl (c23, 16, .inl (fun _ => 0))), (q31, .inl (c31, 16, .inr (.inl (fun _ => 0))))] := hD
  refine lv_aload_n hx hb dX5_init_41 rfl (lv_at hl 0 rfl) ?_
  refine lv_lconst (v := 0) hx hb dX5_init_42 (by decide) ?_
  refine va_put (D := (dC, dI)) (ci := 7) (v := .long (0 : Int64)) (ty := .long) (C := RX5) (T := TX5) (N := 7) hx hb hts (by decide +kernel) tyX5 tyX5_ok nmX5 hown hK hP hD hS 0 rfl rfl 5 (by decide) (hts (.fieldLink RX5 29 "BlockLog$Snapshot" "block" "J") (by decide +kernel)) (fun _ h9 => h9) rfl (by decide +kernel) rfl rfl (Nat.le_of_ble_eq_true rfl) dX5_init_43 (fun H locs hP hD hS => ?_)
  have hP : va_P (dC, dI) vwCl [(h0, .inr (7, [.ref q7, .ref q15, .ref q23, .ref q31, .int (0 : Int32), .long (0 : Int64), .int 0])), (q7, .inl (c7, 16, .inl (fun _ => 0))), (q15, .inl (c15, 16, .inl (fun _ => 0))), (q23, .inl (c23, 16, .inl (fun _ => 0))), (q31, .inl (c31, 16, .inr (.inl (fun _ => 0))))] H := hP
  have hD : va_D A [(h0, .inr (7, [.ref q7, .ref q15, .ref q23, .ref q31, .int (0 : Int32), .long (0 : Int64), .int 0])), (q7, .inl (c7, 16, .inl (fun _ => 0))), (q15, .inl (c15, 16, .inl (fun _ => 0))), (q23, .inl (c23, 16, .inl (fun _ => 0))), (q31, .inl (c31, 16, .inr (.inl (fun _ => 0))))] := hD
  refine lv_aload_n hx hb dX5_init_46 rfl (lv_at hl 0 rfl) ?_
  refine lv_iconst (v := 0) hx hb dX5_init_47 (by decide) ?_
  refine va_put (D := (dC, dI)) (ci := 7) (v := .int (0 : Int32)) (ty := .int) (C := RX5) (T := TX5) (N := 7) hx hb hts (by decide +kernel) tyX5 tyX5_ok nmX5 hown hK hP hD hS 0 rfl rfl 6 (by decide) (hts (.fieldLink RX5 33 "BlockLog$Snapshot" "count" "I") (by decide +kernel)) (fun _ h9 => h9) rfl (by decide +kernel) rfl rfl (Nat.le_of_ble_eq_true rfl) dX5_init_48 (fun H locs hP hD hS => ?_)
  have hP : va_P (dC, dI) vwCl [(h0, .inr (7, [.ref q7, .ref q15, .ref q23, .ref q31, .int (0 : Int32), .long (0 : Int64), .int (0 : Int32)])), (q7, .inl (c7, 16, .inl (fun _ => 0))), (q15, .inl (c15, 16, .inl (fun _ => 0))), (q23, .inl (c23, 16, .inl (fun _ => 0))), (q31, .inl (c31, 16, .inr (.inl (fun _ => 0))))] H := hP
  have hD : va_D A [(h0, .inr (7, [.ref q7, .ref q15, .ref q23, .ref q31, .int (0 : Int32), .long (0 : Int64), .int (0 : Int32)])), (q7, .inl (c7, 16, .inl (fun _ => 0))), (q15, .inl (c15, 16, .inl (fun _ => 0))), (q23, .inl (c23, 16, .inl (fun _ => 0))), (q31, .inl (c31, 16, .inr (.inl (fun _ => 0))))] := hD
  have hP := hP.sub (ws' := [(h0, .inr (7, [.ref q7, .ref q15, .ref q23, .ref q31, .int (0 : Int32), .long (0 : Int64), .int (0 : Int32)])), (q7, .inl (c7, 16, .inl (fun _ => 0))), (q15, .inl (c15, 16, .inl (fun _ => 0))), (q23, .inl (c23, 16, .inl (fun _ => 0))), (q31, .inl (c31, 16, .inr (.inl (fun _ => 0))))]) [0, 1, 2, 3, 4] rfl
  have hD := hD.sub (ws' := [(h0, .inr (7, [.ref q7, .ref q15, .ref q23, .ref q31, .int (0 : Int32), .long (0 : Int64), .int (0 : Int32)])), (q7, .inl (c7, 16, .inl (fun _ => 0))), (q15, .inl (c15, 16, .inl (fun _ => 0))), (q23, .inl (c23, 16, .inl (fun _ => 0))), (q31, .inl (c31, 16, .inr (.inl (fun _ => 0))))]) [0, 1, 2, 3, 4] (by decide) rfl
  have hK := hK.sub (tys' := [(c7, .int), (c15, .int), (c23, .int), (c31, .long)]) [0, 1, 2, 3] rfl
  exact W.vret hx hb hr (fun t ht hW => ⟨⟨(), rfl, trivial, q7, q15, q23, q31, c7, c15, c23, c31, by rw [ht]; exact hP, va_K.moved hW.alike hK, hD⟩, hS.F ht⟩) hS.2.2 dX5_init_51
