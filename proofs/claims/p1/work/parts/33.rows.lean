theorem fit_head : ∀ i, i < (16 : Int32).toNatClampNeg → fits .byte (.int (pu_head (fun _ => 0) 1 ((0 : Int32).toNatClampNeg + i))) = true := by decide +kernel
set_option maxHeartbeats 4000000 in
set_option maxRecDepth 100000 in
theorem k_X4_init (l : Launch) (dC : Nat → ClassId) (dI : Nat → Nat → Nat) (h0 h1 hw : Nat) (cW : ClassId) (v0 : Value) (ds : List Value) (g : Nat → Int32) (sz : Nat)  : Met l yX4_init wsX4_init ({ frames := 4, cells := 1, slots := 32, locals := 100 }) (va_Pc [.ref h0, .ref h1] (fun U => U.heap.size = sz ∧ va_P (dC, dI) vwCl [(h0, .inr (6, [.null, .null, .int 0, .int 0, .int 0, .int 0])), (h1, .inr (3, v0 :: .ref hw :: ds)), (hw, .inl (cW, 8224, .inl g))] U.heap ∧ va_K (dC, dI) vwCl [(cW, .byte)] U ∧ va_D (fun _ => True) [(h0, .inr (6, [.null, .null, .int 0, .int 0, .int 0, .int 0])), (h1, .inr (3, v0 :: .ref hw :: ds)), (hw, .inl (cW, 8224, .inl g))] ∧ gx_E (va_A [(h0, .inr (6, [.null, .null, .int 0, .int 0, .int 0, .int 0])), (h1, .inr (3, v0 :: .ref hw :: ds)), (hw, .inl (cW, 8224, .inl g))] sz) U)) (va_Qv (fun (_ : Unit) => True) (fun (_ : Unit) t => ∃ (q12 : Nat) (c12 : ClassId), va_P (dC, dI) vwCl [(h0, .inr (6, [.ref h1, .ref q12, .int 0, .int 1, .int 0, .int 0])), (h1, .inr (3, v0 :: .ref hw :: ds)), (hw, .inl (cW, 8224, .inl (va_cpy (pu_head (fun _ => 0) 1) g 0 0 16))), (q12, .inl (c12, 32, .inl (pu_head (fun _ => 0) 1)))] t.heap ∧ va_K (dC, dI) vwCl [(cW, .byte), (c12, .byte)] t ∧ va_D (va_A [(h0, .inr (6, [.null, .null, .int 0, .int 0, .int 0, .int 0])), (h1, .inr (3, v0 :: .ref hw :: ds)), (hw, .inl (cW, 8224, .inl g))] sz) [(h0, .inr (6, [.ref h1, .ref q12, .int 0, .int 1, .int 0, .int 0])), (h1, .inr (3, v0 :: .ref hw :: ds)), (hw, .inl (cW, 8224, .inl (va_cpy (pu_head (fun _ => 0) 1) g 0 0 16))), (q12, .inl (c12, 32, .inl (pu_head (fun _ => 0) 1)))]) (va_A [(h0, .inr (6, [.null, .null, .int 0, .int 0, .int 0, .int 0])), (h1, .inr (3, v0 :: .ref hw :: ds)), (hw, .inl (cW, 8224, .inl g))] sz)) 1 32 (va_A [(h0, .inr (6, [.null, .null, .int 0, .int 0, .int 0, .int 0])), (h1, .inr (3, v0 :: .ref hw :: ds)), (hw, .inl (cW, 8224, .inl g))] sz) := by
  refine Met.ofW (cc := cX4_init) (maxL := 2) (ret := none) (by decide) rfl ?_
  intro p e s m args below meth c s₁ B hml hv
  obtain ⟨rfl, hsz, hP, hK, hD0, hG⟩ := hv
  have hx := B.exec
  have hb := B.bytes
  have hr := B.returns
  have hts := atoms_spec (ws := wsX4_init) B.pre
  have hown : s.vm.findClass RX4 = some m.cls := findClass_of_methodNamed B.named
  have hlocks := B.notSynchronized
  have hin : meth.name = "<init>" := (name_of_methodNamed B.named B.method).1
  subst hsz
  have hD := hD0.self (sz := s.heap.size)
  generalize hAe : va_A [(h0, .inr (6, [.null, .null, .int 0, .int 0, .int 0, .int 0])), (h1, .inr (3, v0 :: .ref hw :: ds)), (hw, .inl (cW, 8224, .inl g))] s.heap.size = A at hD hG ⊢
  have hA : ∀ q : Nat, s.heap.size ≤ q → A q := fun q h => by rw [← hAe]; exact Or.inr h
  have hS : va_S A s.heap s.heap [] := va_S.rf
  have hl := lv_entry ([.ref h0, .ref h1]) (n := 2) (Nat.le_of_ble_eq_true rfl)
  rw [lg_entry_eq]
  generalize (lg_sl ([.ref h0, .ref h1]) ++ List.replicate (2 - (lg_sl ([.ref h0, .ref h1])).length) Slot.unset).toArray = ls at hl ⊢
  have hl : lv_has ls 2 [(0, .ref h0), (1, .ref h1)] := hl
  refine lv_aload_n hx hb dX4_init_0 rfl (lv_at hl 0 rfl) ?_
  refine W.objInit hx hb hown (hts (.methodLink RX4 3 objectInit) (by decide +kernel)) (hts (.instanceMethod objectInit) (by decide +kernel)) (hts (.code objectInit ⟨#[0xb1]⟩ 1 none) (by decide +kernel)) rfl (by rw [hml]; exact hl.1) rfl dX4_init_1 (Nat.le_of_ble_eq_true rfl) (Nat.le_of_ble_eq_true rfl) ?_
  refine W.eq (g2 := F0 m 4 ls []) rfl ?_
  refine lv_aload_n hx hb dX4_init_4 rfl (lv_at hl 0 rfl) ?_
  refine lv_aload_n hx hb dX4_init_5 rfl (lv_at hl 1 rfl) ?_
  refine va_putF (D := (dC, dI)) (ci := 6) (v := .ref h1) (ty := (.object "BlockLog$Disk")) (C := RX4) (T := TX4) (N := 6) hx hb hts (by decide +kernel) tyX4 tyX4_ok nmX4 hown hK hP hD hS 0 rfl rfl 0 (by decide) (hts (.fieldLink RX4 9 "BlockLog$Rows" "disk" "LBlockLog$Disk;") (by decide +kernel)) (fun _ h9 => h9) rfl hin rfl (by decide +kernel) rfl rfl (Nat.le_of_ble_eq_true rfl) dX4_init_6 (fun H locs hP hD hS => ?_)
  have hP : va_P (dC, dI) vwCl [(h0, .inr (6, [.ref h1, .null, .int 0, .int 0, .int 0, .int 0])), (h1, .inr (3, v0 :: .ref hw :: ds)), (hw, .inl (cW, 8224, .inl g))] H := hP
  have hD : va_D A [(h0, .inr (6, [.ref h1, .null, .int 0, .int 0, .int 0, .int 0])), (h1, .inr (3, v0 :: .ref hw :: ds)), (hw, .inl (cW, 8224, .inl g))] := hD
  refine lv_aload_n hx hb dX4_init_9 rfl (lv_at hl 0 rfl) ?_
  refine lv_bipush (v := 32) hx hb dX4_init_10 (by decide) ?_
  refine va_newa (atype := .byte) (ty := .byte) (n := 32) (N' := 32) (a0 := (32, .inl (fun _ => 0))) hx hb (hts (.arrayClass .byte) (by decide +kernel)) rfl hK hP hD hS hA (fun _ => rfl) (by decide +kernel) (by decide +kernel) (by decide +kernel) (Nat.le_of_ble_eq_true rfl) (Nat.le_of_ble_eq_true rfl) dX4_init_12 (fun q12 c12 H hK hP hD hS => ?_)
  have hP : va_P (dC, dI) vwCl [(h0, .inr (6, [.ref h1, .null, .int 0, .int 0, .int 0, .int 0])), (h1, .inr (3, v0 :: .ref hw :: ds)), (hw, .inl (cW, 8224, .inl g)), (q12, .inl (c12, 32, .inl (fun _ => 0)))] H := hP
  have hD : va_D A [(h0, .inr (6, [.ref h1, .null, .int 0, .int 0, .int 0, .int 0])), (h1, .inr (3, v0 :: .ref hw :: ds)), (hw, .inl (cW, 8224, .inl g)), (q12, .inl (c12, 32, .inl (fun _ => 0)))] := hD
  have hK : va_K (dC, dI) vwCl [(cW, .byte), (c12, .byte)] s := hK
  refine va_putF (D := (dC, dI)) (ci := 6) (v := .ref q12) (ty := (.array .byte)) (C := RX4) (T := TX4) (N := 6) hx hb hts (by decide +kernel) tyX4 tyX4_ok nmX4 hown hK hP hD hS 0 rfl rfl 1 (by decide) (hts (.fieldLink RX4 15 "BlockLog$Rows" "image" "[B") (by decide +kernel)) (fun _ h9 => h9) rfl hin rfl (by decide +kernel) rfl rfl (Nat.le_of_ble_eq_true rfl) dX4_init_14 (fun H locs hP hD hS => ?_)
  have hP : va_P (dC, dI) vwCl [(h0, .inr (6, [.ref h1, .ref q12, .int 0, .int 0, .int 0, .int 0])), (h1, .inr (3, v0 :: .ref hw :: ds)), (hw, .inl (cW, 8224, .inl g)), (q12, .inl (c12, 32, .inl (fun _ => 0)))] H := hP
  have hD : va_D A [(h0, .inr (6, [.ref h1, .ref q12, .int 0, .int 0, .int 0, .int 0])), (h1, .inr (3, v0 :: .ref hw :: ds)), (hw, .inl (cW, 8224, .inl g)), (q12, .inl (c12, 32, .inl (fun _ => 0)))] := hD
  refine lv_aload_n hx hb dX4_init_17 rfl (lv_at hl 0 rfl) ?_
  refine lv_iconst (v := 0) hx hb dX4_init_18 (by decide) ?_
  refine va_put (D := (dC, dI)) (ci := 6) (v := .int (0 : Int32)) (ty := .int) (C := RX4) (T := TX4) (N := 6) hx hb hts (by decide +kernel) tyX4 tyX4_ok nmX4 hown hK hP hD hS 0 rfl rfl 2 (by decide) (hts (.fieldLink RX4 19 "BlockLog$Rows" "area" "I") (by decide +kernel)) (fun _ h9 => h9) rfl (by decide +kernel) rfl rfl (Nat.le_of_ble_eq_true rfl) dX4_init_19 (fun H locs hP hD hS => ?_)
  have hP : va_P (dC, dI) vwCl [(h0, .inr (6, [.ref h1, .ref q12, .int (0 : Int32), .int 0, .int 0, .int 0])), (h1, .inr (3, v0 :: .ref hw :: ds)), (hw, .inl (cW, 8224, .inl g)), (q12, .inl (c12, 32, .inl (fun _ => 0)))] H := hP
  have hD : va_D A [(h0, .inr (6, [.ref h1, .ref q12, .int (0 : Int32), .int 0, .int 0, .int 0])), (h1, .inr (3, v0 :: .ref hw :: ds)), (hw, .inl (cW, 8224, .inl g)), (q12, .inl (c12, 32, .inl (fun _ => 0)))] := hD
  refine lv_aload_n hx hb dX4_init_22 rfl (lv_at hl 0 rfl) ?_
  refine lv_iconst (v := 1) hx hb dX4_init_23 (by decide) ?_
  refine va_put (D := (dC, dI)) (ci := 6) (v := .int (1 : Int32)) (ty := .int) (C := RX4) (T := TX4) (N := 6) hx hb hts (by decide +kernel) tyX4 tyX4_ok nmX4 hown hK hP hD hS 0 rfl rfl 3 (by decide) (hts (.fieldLink RX4 23 "BlockLog$Rows" "generation" "I") (by decide +kernel)) (fun _ h9 => h9) rfl (by decide +kernel) rfl rfl (Nat.le_of_ble_eq_true rfl) dX4_init_24 (fun H locs hP hD hS => ?_)
  have hP : va_P (dC, dI) vwCl [(h0, .inr (6, [.ref h1, .ref q12, .int (0 : Int32), .int (1 : Int32), .int 0, .int 0])), (h1, .inr (3, v0 :: .ref hw :: ds)), (hw, .inl (cW, 8224, .inl g)), (q12, .inl (c12, 32, .inl (fun _ => 0)))] H := hP
  have hD : va_D A [(h0, .inr (6, [.ref h1, .ref q12, .int (0 : Int32), .int (1 : Int32), .int 0, .int 0])), (h1, .inr (3, v0 :: .ref hw :: ds)), (hw, .inl (cW, 8224, .inl g)), (q12, .inl (c12, 32, .inl (fun _ => 0)))] := hD
  refine lv_aload_n hx hb dX4_init_27 rfl (lv_at hl 0 rfl) ?_
  refine lv_iconst (v := 0) hx hb dX4_init_28 (by decide) ?_
  refine va_put (D := (dC, dI)) (ci := 6) (v := .int (0 : Int32)) (ty := .int) (C := RX4) (T := TX4) (N := 6) hx hb hts (by decide +kernel) tyX4 tyX4_ok nmX4 hown hK hP hD hS 0 rfl rfl 4 (by decide) (hts (.fieldLink RX4 26 "BlockLog$Rows" "count" "I") (by decide +kernel)) (fun _ h9 => h9) rfl (by decide +kernel) rfl rfl (Nat.le_of_ble_eq_true rfl) dX4_init_29 (fun H locs hP hD hS => ?_)
  have hP : va_P (dC, dI) vwCl [(h0, .inr (6, [.ref h1, .ref q12, .int (0 : Int32), .int (1 : Int32), .int (0 : Int32), .int 0])), (h1, .inr (3, v0 :: .ref hw :: ds)), (hw, .inl (cW, 8224, .inl g)), (q12, .inl (c12, 32, .inl (fun _ => 0)))] H := hP
  have hD : va_D A [(h0, .inr (6, [.ref h1, .ref q12, .int (0 : Int32), .int (1 : Int32), .int (0 : Int32), .int 0])), (h1, .inr (3, v0 :: .ref hw :: ds)), (hw, .inl (cW, 8224, .inl g)), (q12, .inl (c12, 32, .inl (fun _ => 0)))] := hD
  refine lv_aload_n hx hb dX4_init_32 rfl (lv_at hl 0 rfl) ?_
  refine lv_iconst (v := 0) hx hb dX4_init_33 (by decide) ?_
  refine va_put (D := (dC, dI)) (ci := 6) (v := .int (0 : Int32)) (ty := .int) (C := RX4) (T := TX4) (N := 6) hx hb hts (by decide +kernel) tyX4 tyX4_ok nmX4 hown hK hP hD hS 0 rfl rfl 5 (by decide) (hts (.fieldLink RX4 29 "BlockLog$Rows" "bad" "I") (by decide +kernel)) (fun _ h9 => h9) rfl (by decide +kernel) rfl rfl (Nat.le_of_ble_eq_true rfl) dX4_init_34 (fun H locs hP hD hS => ?_)
  have hP : va_P (dC, dI) vwCl [(h0, .inr (6, [.ref h1, .ref q12, .int (0 : Int32), .int (1 : Int32), .int (0 : Int32), .int (0 : Int32)])), (h1, .inr (3, v0 :: .ref hw :: ds)), (hw, .inl (cW, 8224, .inl g)), (q12, .inl (c12, 32, .inl (fun _ => 0)))] H := hP
  have hD : va_D A [(h0, .inr (6, [.ref h1, .ref q12, .int (0 : Int32), .int (1 : Int32), .int (0 : Int32), .int (0 : Int32)])), (h1, .inr (3, v0 :: .ref hw :: ds)), (hw, .inl (cW, 8224, .inl g)), (q12, .inl (c12, 32, .inl (fun _ => 0)))] := hD
  refine lv_aload_n hx hb dX4_init_37 rfl (lv_at hl 0 rfl) ?_
  refine lv_aload_n hx hb dX4_init_38 rfl (lv_at hl 0 rfl) ?_
  refine va_get (D := (dC, dI)) (ci := 6) (v := .int (1 : Int32)) (C := RX4) (T := TX4) (N := 6) hx hb hts (by decide +kernel) hown hK hP 0 rfl rfl 3 (by decide) (hts (.fieldLink RX4 23 "BlockLog$Rows" "generation" "I") (by decide +kernel)) (fun _ h9 => h9) rfl dX4_init_39 ?_
  have hPc := hP.sub (ws' := [(h0, .inr (6, [.ref h1, .ref q12, .int (0 : Int32), .int (1 : Int32), .int (0 : Int32), .int (0 : Int32)])), (q12, .inl (c12, 32, .inl (fun _ => 0)))]) [0, 3] rfl
  have hKc := hK.sub (tys' := [(c12, .byte)]) [1] rfl
  have hDc := hD.sub (ws' := [(h0, .inr (6, [.ref h1, .ref q12, .int (0 : Int32), .int (1 : Int32), .int (0 : Int32), .int (0 : Int32)])), (q12, .inl (c12, 32, .inl (fun _ => 0)))]) [0, 3] (by decide) rfl
  have hFc := va_free (wc := [(h0, .inr (6, [.ref h1, .ref q12, .int (0 : Int32), .int (1 : Int32), .int (0 : Int32), .int (0 : Int32)])), (q12, .inl (c12, 32, .inl (fun _ => 0)))]) hD hS hA [0, 3] rfl
  refine va_callv (va_runV (As := [.int (1 : Int32)]) (rest := []) ⟨hx, hb, hml, hown, hts⟩ (k_X4_drawHead l dC dI h0 q12 c12 (.ref h1) [.int (0 : Int32), .int (1 : Int32), .int (0 : Int32), .int (0 : Int32)] (fun _ => 0) 1 H.size) (cwV 1 hts gX4_init_X4_drawHead rfl rfl rfl (by decide +kernel) ⟨Nat.le_of_ble_eq_true rfl, Nat.le_of_ble_eq_true rfl⟩) ⟨fun a U g mk q => by obtain ⟨q0, q1, qP, qK, qD⟩ := q; exact ⟨q0, q1, qP, va_K.moved (u := U) (U := U.calling g mk a) (Vm.Alike.refl U.vm) qK, qD⟩, va_recv hK hP (ci := 6) (q := (RX4, TX4, 6)) rfl (q0 := 0) rfl, fun U hU hW => ⟨rfl, by rw [hU], by rw [hU]; exact hPc, va_K.moved hW.alike hKc, hDc.weaken (fun _ _ _ _ => trivial)⟩⟩ rfl rfl hl.1 rfl (lv_room (Nat.le_of_ble_eq_true rfl)) dX4_init_42 ⟨Nat.le_of_ble_eq_true rfl, Nat.le_of_ble_eq_true rfl⟩) hS (fun q _ h => hFc q h) hFc (fun u t H1 locs ht hvm er_1 hB hz1 hk1 hS => ?_)
  obtain ⟨hP1, hK1, hD1⟩ := hB
  rw [ht] at hP1
  obtain ⟨hP, hD⟩ := va_join (wr := [(h1, .inr (3, v0 :: .ref hw :: ds)), (hw, .inl (cW, 8224, .inl g))]) (w1 := [(h0, .inr (6, [.ref h1, .ref q12, .int (0 : Int32), .int (1 : Int32), .int (0 : Int32), .int (0 : Int32)])), (q12, .inl (c12, 32, .inl (pu_head (fun _ => 0) 1)))]) hP hD [0, 3] [1, 2] rfl rfl (by decide) (by decide) hk1 hFc hP1 hD1
  clear hPc hDc hFc hP1 hD1 hk1 hz1
  generalize H1 = H at hP hS ⊢
  have hP : va_P (dC, dI) vwCl [(h1, .inr (3, v0 :: .ref hw :: ds)), (hw, .inl (cW, 8224, .inl g)), (h0, .inr (6, [.ref h1, .ref q12, .int (0 : Int32), .int (1 : Int32), .int (0 : Int32), .int (0 : Int32)])), (q12, .inl (c12, 32, .inl (pu_head (fun _ => 0) 1)))] H := hP
  have hD : va_D A [(h1, .inr (3, v0 :: .ref hw :: ds)), (hw, .inl (cW, 8224, .inl g)), (h0, .inr (6, [.ref h1, .ref q12, .int (0 : Int32), .int (1 : Int32), .int (0 : Int32), .int (0 : Int32)])), (q12, .inl (c12, 32, .inl (pu_head (fun _ => 0) 1)))] := hD
  refine lv_aload_n hx hb dX4_init_45 rfl (lv_at hl 0 rfl) ?_
  refine va_get (D := (dC, dI)) (ci := 6) (v := .ref q12) (C := RX4) (T := TX4) (N := 6) hx hb hts (by decide +kernel) hown hK hP 2 rfl rfl 1 (by decide) (hts (.fieldLink RX4 15 "BlockLog$Rows" "image" "[B") (by decide +kernel)) (fun _ h9 => h9) rfl dX4_init_46 ?_
  refine lv_iconst (v := 0) hx hb dX4_init_49 (by decide) ?_
  refine lv_aload_n hx hb dX4_init_50 rfl (lv_at hl 1 rfl) ?_
  refine va_getN (D := (dC, dI)) (ci := 3) (v := .ref hw) (C := RX1) (T := TX1) (N := 7) hx hb hts (by decide +kernel) hown hK hP 0 rfl rfl 1 (by decide) (va_Nw.use rfl (hG.1.1 ("BlockLog$Rows", 36, "BlockLog$Disk", "low", "[B", "BlockLog") (by decide +kernel))) (fun _ h9 => h9) rfl dX4_init_51 ?_
  refine lv_iconst (v := 0) hx hb dX4_init_54 (by decide) ?_
  refine lv_bipush (v := 16) hx hb dX4_init_55 (by decide) ?_
  refine va_copyi hx hb (hml.trans hl.1.symm) hown (hts (.methodLink RX4 41 arraycopyName) (by decide +kernel)) (hts (.native arraycopyName) (by decide +kernel)) (hts (.static arraycopyName) (by decide +kernel)) (hts (.initialized "java/lang/System") (by decide +kernel)) hK hP hD hS 3 1 1 0 rfl rfl rfl rfl rfl (by decide) (by decide) (by decide) (by decide +kernel) (by decide +kernel) fit_head (Nat.le_of_ble_eq_true rfl) (by decide +kernel) dX4_init_57 (fun H locs hP hD hS => ?_)
  have hP : va_P (dC, dI) vwCl [(h1, .inr (3, v0 :: .ref hw :: ds)), (hw, .inl (cW, 8224, .inl (va_cpy (pu_head (fun _ => 0) 1) g 0 0 16))), (h0, .inr (6, [.ref h1, .ref q12, .int (0 : Int32), .int (1 : Int32), .int (0 : Int32), .int (0 : Int32)])), (q12, .inl (c12, 32, .inl (pu_head (fun _ => 0) 1)))] H := hP
  have hD : va_D A [(h1, .inr (3, v0 :: .ref hw :: ds)), (hw, .inl (cW, 8224, .inl (va_cpy (pu_head (fun _ => 0) 1) g 0 0 16))), (h0, .inr (6, [.ref h1, .ref q12, .int (0 : Int32), .int (1 : Int32), .int (0 : Int32), .int (0 : Int32)])), (q12, .inl (c12, 32, .inl (pu_head (fun _ => 0) 1)))] := hD
  have hP := hP.sub (ws' := [(h0, .inr (6, [.ref h1, .ref q12, .int 0, .int 1, .int 0, .int 0])), (h1, .inr (3, v0 :: .ref hw :: ds)), (hw, .inl (cW, 8224, .inl (va_cpy (pu_head (fun _ => 0) 1) g 0 0 16))), (q12, .inl (c12, 32, .inl (pu_head (fun _ => 0) 1)))]) [2, 0, 1, 3] rfl
  have hD := hD.sub (ws' := [(h0, .inr (6, [.ref h1, .ref q12, .int 0, .int 1, .int 0, .int 0])), (h1, .inr (3, v0 :: .ref hw :: ds)), (hw, .inl (cW, 8224, .inl (va_cpy (pu_head (fun _ => 0) 1) g 0 0 16))), (q12, .inl (c12, 32, .inl (pu_head (fun _ => 0) 1)))]) [2, 0, 1, 3] (by decide) rfl
  have hK := hK.sub (tys' := [(cW, .byte), (c12, .byte)]) [0, 1] rfl
  exact W.vret hx hb hr (fun t ht hW => ⟨⟨(), rfl, trivial, q12, c12, by rw [ht]; exact hP, va_K.moved hW.alike hK, hD⟩, hS.F ht⟩) hS.2.2 dX4_init_60
