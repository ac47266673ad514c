set_option maxHeartbeats 4000000 in
set_option maxRecDepth 100000 in
theorem k_X4_init (l : Launch) (dC : Nat → ClassId) (dI : Nat → Nat → Nat) (h0 h1 hw : Nat) (cW : ClassId) (v0 : Value) (ds : List Value) (g : Nat → Int32) (sz : Nat)  : Met l yX4_init wsX4_init ({ frames := 4, cells := 1, slots := 32, locals := 100 }) (va_Pc [.ref h0, .ref h1] (fun U => U.heap.size = sz ∧ va_P (dC, dI) vwCl [(h0, .inr (6, [.null, .null, .int 0, .int 0, .int 0, .int 0])), (h1, .inr (3, v0 :: .ref hw :: ds)), (hw, .inl (cW, 8224, .inl g))] U.heap ∧ va_K (dC, dI) vwCl [(cW, .byte)] U ∧ va_D (fun _ => True) [(h0, .inr (6, [.null, .null, .int 0, .int 0, .int 0, .int 0])), (h1, .inr (3, v0 :: .ref hw :: ds)), (hw, .inl (cW, 8224, .inl g))] ∧ gx_E (va_A [(h0, .inr (6, [.null, .null, .int 0, .int 0, .int 0, .int 0])), (h1, .inr (3, v0 :: .ref hw :: ds)), (hw, .inl (cW, 8224, .inl g))] sz) U)) (va_Qv (fun (_ : Unit) => True) (fun (_ : Unit) t => ∃ (q12 : Nat) (c12 : ClassId), va_P (dC, dI) vwCl [(h0, .inr (6, [.ref h1, .ref q12, .int 0, .int 1, .int 0, .int 0])), (h1, .inr (3, v0 :: .ref hw :: ds)), (hw, .inl (cW, 8224, .inl (va_cpy (pu_head (fun _ => 0) 1) g 0 0 16))), (q12, .inl (c12, 32, .inl (pu_head (fun _ => 0) 1)))] t.heap ∧ va_K (dC, dI) vwCl [(cW, .byte), (c12, .byte)] t ∧ va_D (va_A [(h0, .inr (6, [.null, .null, .int 0, .int 0, .int 0, .int 0])), (h1, .inr (3, v0 :: .ref hw :: ds)), (hw, .inl (cW, 8224, .inl g))] sz) [(h0, .inr (6, [.ref h1, .ref q12, .int 0, .int 1, .int 0, .int 0])), (h1, .inr (3, v0 :: .ref hw :: ds)), (hw, .inl (cW, 8224, .inl (va_cpy (pu_head (fun _ => 0) 1) g 0 0 16))), (q12, .inl (c12, 32, .inl (pu_head (fun _ => 0) 1)))]) (va_A [(h0, .inr (6, [.null, .null, .int 0, .int 0, .int 0, .int 0])), (h1, .inr (3, v0 :: .ref hw :: ds)), (hw, .inl (cW, 8224, .inl g))] sz)) 1 32 (va_A [(h0, .inr (6, [.null, .null, .int 0, .int 0, .int 0, .int 0])), (h1, .inr (3, v0 :: .ref hw :: ds)), (hw, .inl (cW, 8224, .inl g))] sz) := by
  refine Met.ofW (cc := cX4_init) (maxL := 2) (ret := none) (by decide) rfl ?_
  intro p e s m args below meth c s₁ B hml hv
  obtain ⟨rfl, hsz, hP, hK, hD0, hG⟩ := hv
  have hx := B.exec
  have hb := B.bytes
  have hr := B.returns
  have hts := atoms_spec (ws := wsX4_init) B.pre
  have hown : s.vm.findClass RX4 = some m.cls := findClass_of_methodNamed B.named
  have hlocks := B.notSynchronized
  have hin : meth.name = "<init>" := (name_of_methodNamed B.named B.method).1
  subst hsz
  have hD := hD0.self (sz := s.heap.size)
  generalize hAe : va_A [(h0, .inr (6, [.null, .null, .int 0, .int 0, .int 0, .int 0])), (h1, .inr (3, v0 :: .ref hw :: ds)), (hw, .inl (cW, 8224, .inl g))] s.heap.size = A at hD hG ⊢
  have hA : ∀ q : Nat, s.heap.size ≤ q → A q := fun q h => by rw [← hAe]; exact Or.inr h
  have hS : va_S A s.heap s.heap [] := va_S.rf
  have hl := lv_entry ([.ref h0, .ref h1]) (n := 2) (Nat.le_of_ble_eq_true rfl)
  rw [lg_entry_eq]
  generalize (lg_sl ([.ref h0, .ref h1]) ++ List.replicate (2 - (lg_sl ([.ref h0, .ref h1])).length) Slot.unset).toArray = ls at hl ⊢
  have hl : lv_has ls 2 [(0, .ref h0), (1, .ref h1)] := hl
  refine lv_aload_n hx hb dX4_init_0 rfl (lv_at hl 0 rfl) ?_
  refine W.objInit hx hb hown (hts (.methodLink RX4 3 objectInit) (by decide +kernel)) (hts (.instanceMethod objectInit) (by decide +kernel)) (hts (.code objectInit ⟨#[0xb1]⟩ 1 none) (by decide +kernel)) rfl (by rw [hml]; exact hl.1) rfl dX4_init_1 (Nat.le_of_ble_eq_true rfl) (Nat.le_of_ble_eq_true rfl) ?_
  refine W.eq (g2 := F0 m 4 ls []) rfl ?_
  refine lv_aload_n hx hb dX4_init_4 rfl (lv_at hl 0 rfl) ?_
  refine lv_aload_n hx hb dX4_init_5 rfl (lv_at hl 1 rfl) ?_
  refine va_putF (D := (dC, dI)) (ci := 6) (v := .ref h1) (ty := (.object "BlockLog$Disk")) (C := RX4) (T := TX4) (N := 6) hx hb hts (by decide +kernel) tyX4 tyX4_ok nmX4 hown hK hP hD hS 0 rfl rfl 0 (by decide) (hts (.fieldLink RX4 9 "BlockLog$Rows" "disk" "LBlockLog$Disk;") (by decide +kernel)) (fun _ h9 => h9) rfl hin rfl (by decide +kernel) rfl rfl (Nat.le_of_ble_eq_true rfl) dX4_init_6 (fun H locs hP hD hS => ?_)
  have hP : va_P (dC, dI) vwCl [(h0, .inr (6, [.ref h1, .null, .int 0, .int 0, .int 0, .int 0])), (h1, .inr (3, v0 :: .ref hw :: ds)), (hw, .inl (cW, 8224, .inl g))] H := hP
  have hD : va_D A [(h0, .inr (6, [.ref h1, .null, .int 0, .int 0, .int 0, .int 0])), (h1, .inr (3, v0 :: .ref hw :: ds)), (hw, .inl (cW, 8224, .inl g))] := hD
  refine lv_aload_n hx hb dX4_init_9 rfl (lv_at hl 0 rfl) ?_
  refine lv_bipush (v := 32) hx hb dX4_init_10 (by decide) ?_
  refine va_newa (atype := .byte) (ty := .byte) (n := 32) (N' := 32) (a0 := (32, .inl (fun _ => 0))) hx hb (hts (.arrayClass .byte) (by decide +kernel)) rfl hK hP hD hS hA (fun _ => rfl) (by decide +kernel) (by decide +kernel) (by decide +kernel) (Nat.le_of_ble_eq_true rfl) (Nat.le_of_ble_eq_true rfl) dX4_init_12 (fun q12 c12 H hK hP hD hS => ?_)
  have hP : va_P (dC, dI) vwCl [(h0, .inr (6, [.ref h1, .null, .int 0, .int 0, .int 0, .int 0])), (h1, .inr (3, v0 :: .ref hw :: ds)), (hw, .inl (cW, 8224, .inl g)), (q12, .inl (c12, 32, .inl (fun _ => 0)))] H := hP
  have hD : va_D A [(h0, .inr (6, [.ref h1, .null, .int 0, .int 0, .int 0, .int 0])), (h1, .inr (3, v0 :: .ref hw :: ds)), (hw, .inl (cW, 8224, .inl g)), (q12, .inl (c12, 32, .inl (fun _ => 0)))] := hD
  have hK : va_K (dC, dI) vwCl [(cW, .byte), (c12, .byte)] s := hK
  refine va_putF (D := (dC, dI)) (ci := 6) (v := .ref q12) (ty := (.array .byte)) (C := RX4) (T := TX4) (N := 6) hx hb hts (by decide +kernel) tyX4 tyX4_ok nmX4 hown hK hP hD hS 0 rfl rfl 1 (by decide) (hts (.fieldLink RX4 15 "BlockLog$Rows" "image" "[B") (by decide +kernel)) (fun _ h9 => h9) rfl hin rfl (by decide +kernel) rfl rfl (Nat.le_of_ble_eq_true rfl) dX4_init_14 (fun H locs hP hD hS => ?_)
  have hP : va_P (dC, dI) vwCl [(h0, .inr (6, [.ref h1, .ref q12, .int 0, .int 0, .int 0, .int 0])), (h1, .inr (3, v0 :: .ref hw :: ds)), (hw, .inl (cW, 8224, .inl g)), (q12, .inl (c12, 32, .inl (fun _ => 0)))] H := hP
  have hD : va_D A [(h0, .inr (6, [.ref h1, .ref q12, .int 0, .int 0, .int 0, .int 0])), (h1, .inr (3, v0 :: .ref hw :: ds)), (hw, .inl (cW, 8224, .inl g)), (q12, .inl (c12, 32, .inl (fun _ => 0)))] := hD
  refine lv_aload_n hx hb dX4_init_17 rfl (lv_at hl 0 rfl) ?_
  refine lv_iconst (v := 0) hx hb dX4_init_18 (by decide) ?_
  refine va_put (D := (dC, dI)) (ci := 6) (v := .int (0 : Int32)) (ty := .int) (C := RX4) (T := TX4) (N := 6) hx hb hts (by decide +kernel) tyX4 tyX4_ok nmX4 hown hK hP hD hS 0 rfl rfl 2 (by decide) (hts (.fieldLink RX4 19 "BlockLog$Rows" "area" "I") (by decide +kernel)) (fun _ h9 => h9) rfl (by decide +kernel) rfl rfl (Nat.le_of_ble_eq_true rfl) dX4_init_19 (fun H locs hP hD hS => ?_)
  have hP : va_P (dC, dI) vwCl [(h0, .inr (6, [.ref h1, .ref q12, .int (0 : Int32), .int 0, .int 0, .int 0])), (h1, .inr (3, v0 :: .ref hw :: ds)), (hw, .inl (cW, 8224, .inl g)), (q12, .inl (c12, 32, .inl (fun _ => 0)))] H := hP
  have hD : va_D A [(h0, .inr (6, [.ref h1, .ref q12, .int (0 : Int32), .int 0, .int 0, .int 0])), (h1, .inr (3, v0 :: .ref hw :: ds)), (hw, .inl (cW, 8224, .inl g)), (q12, .inl (c12, 32, .inl (fun _ => 0)))] := hD
  refine lv_aload_n hx hb dX4_init_22 rfl (lv_at hl 0 rfl) ?_
  refine lv_iconst (v := 1) hx hb dX4_init_23 (by decide) ?_
  refine va_put (D := (dC, dI)) (ci := 6) (v := .int (1 : Int32)) (ty := .int) (C := RX4) (T := TX4) (N := 6) hx hb hts (by decide +kernel) tyX4 tyX4_ok nmX4 hown hK hP hD hS 0 rfl rfl 3 (by decide) (hts (.fieldLink RX4 23 "BlockLog$Rows" "generation" "I") (by decide +kernel)) (fun _ h9 => h9) rfl (by decide +kernel) rfl rfl (Nat.le_of_ble_eq_true rfl) dX4_init_24 (fun H locs hP hD hS => ?_)
  have hP : va_P (dC, dI) vwCl [(h0, .inr (6, [.ref h1, .ref q12, .int (0 : Int32), .int (1 : Int32), .int 0, .int 0])), (h1, .inr (3, v0 :: .ref hw :: ds)), (hw, .inl (cW, 8224, .inl g)), (q12, .inl (c12, 32, .inl (fun _ => 0)))] H := hP
  have hD : va_D A [(h0, .inr (6, [.ref h1, .ref q12, .int (0 : Int32), .int (1 : Int32), .int 0, .int 0])), (h1, .inr (3, v0 :: .ref hw :: ds)), (hw, .inl (cW, 8224, .inl g)), (q12, .inl (c12, 32, .inl (fun _ => 0)))] := hD
  refine lv_aload_n hx hb dX4_init_27 rfl (lv_at hl 0 rfl) ?_
  refine lv_iconst (v := 0) hx hb dX4_init_28 (by decide) ?_
  refine va_put (D := (dC, dI)) (ci := 6) (v := .int (0 : Int32)) (ty := .int) (C := RX4) (T := TX4) (N := 6) hx hb hts (by decide +kernel) tyX4 tyX4_ok nmX4 hown hK hP hD hS 0 rfl rfl 4 (by decide) (hts (.fieldLink RX4 26 "BlockLog$Rows" "count" "I") (by decide +kernel)) (fun _ h9 => h9) rfl (by decide +kernel) rfl rfl (Nat.le_of_ble_eq_true rfl) dX4_init_29 (fun H locs hP hD hS => ?_)
  have hP : va_P (dC, dI) vwCl [(h0, .inr (6, [.ref h1, .ref q12, .int (0 : Int32), .int (1 : Int32), .int (0 : Int32), .int 0])), (h1, .inr (3, v0 :: .ref hw :: ds)), (hw, .inl (cW, 8224, .inl g)), (q12, .inl (c12, 32, .inl (fun _ => 0)))] H := hP
  have hD : va_D A [(h0, .inr (6, [.ref h1, .ref q12, .int (0 : Int32), .int (1 : Int32), .int (0 : Int32), .int 0])), (h1, .inr (3, v0 :: .ref hw :: ds)), (hw, .inl (cW, 8224, .inl g)), (q12, .inl (c12, 32, .inl (fun _ => 0)))] := hD
  refine lv_aload_n hx hb dX4_init_32 rfl (lv_at hl 0 rfl) ?_
  refine lv_iconst (v := 0) hx hb dX4_init_33 (by decide) ?_
  refine va_put (D := (dC, dI)) (ci := 6) (v := .int (0 : Int32)) (ty := .int) (C := RX4) (T := TX4) (N := 6) hx hb hts (by decide +kernel) tyX4 tyX4_ok nmX4 hown hK hP hD hS 0 rfl rfl 5 (by decide) (hts (.fieldLink RX4 29 "BlockLog$Rows" "bad" "I") (by decide +kernel)) (fun _ h9 => h9) rfl (by decide +kernel) rfl rfl (Nat.le_of_ble_eq_true rfl) dX4_init_34 (fun H locs hP hD hS => ?_)
  have hP : va_P (dC, dI) vwCl [(h0, .inr (6, [.ref h1, .ref q12, .int (0 : Int32), .int (1 : Int32), .int (0 : Int32), .int (0 : Int32)])), (h1, .inr (3, v0 :: .ref hw :: ds)), (hw, .inl (cW, 8224, .inl g)), (q12, .inl (c12, 32, .inl (fun _ => 0)))] H := hP
  have hD : va_D A [(h0, .inr (6, [.ref h1, .ref q12, .int (0 : Int32), .int (1 : Int32), .int (0 : Int32), .int (0 : Int32)])), (h1, .inr (3, v0 :: .ref hw :: ds)), (hw, .inl (cW, 8224, .inl g)), (q12, .inl (c12, 32, .inl (fun _ => 0)))] := hD
  refine lv_aload_n hx hb dX4_init_37 rfl (lv_at hl 0 rfl) ?_
  refine lv_aload_n hx hb dX4_init_38 rfl (lv_at hl 0 rfl) ?_
  refine va_get (D := (dC, dI)) (ci := 6) (v := .int (1 : Int32)) (C := RX4) (T := TX4) (N := 6) hx hb hts (by decide +kernel) hown hK hP 0 rfl rfl 3 (by decide) (hts (.fieldLink RX4 23 "BlockLog$Rows" "generation" "I") (by decide +kernel)) (fun _ h9 => h9) rfl dX4_init_39 ?_
  have hPc := hP.sub (ws' := [(h0, .inr (6, [.ref h1, .ref q12, .int (0 : Int32), .int (1 : Int32), .int (0 : Int32), .int (0 : Int32)])), (q12, .inl (c12, 32, .inl (fun _ => 0)))]) [0, 3] rfl
  have hKc := hK.sub (tys' := [(c12, .byte)]) [1] rfl
  have hDc := hD.sub (ws' := [(h0, .inr (6, [.ref h1, .ref q12, .int (0 : Int32), .int (1 : Int32), .int (0 : Int32), .int (0 : Int32)])), (q12, .inl (c12, 32, .inl (fun _ => 0)))]) [0, 3] (by decide) rfl
  have hFc := va_free (wc := [(h0, .inr (6, [.ref h1, .ref q12, .int (0 : Int32), .int (1 : Int32), .int (0 : Int32), .int (0 : Int32)])), (q12, .inl (c12, 32, .inl (fun _ => 0)))]) hD hS hA [0, 3] rfl
  refine va_callv (va_runV (As := [.int (1 : Int32)]) (rest := []) ⟨hx, hb, hml, hown, hts⟩ (k_X4_drawHead l dC dI h0 q12 c12 (.ref h1) [.int (0 : Int32), .int (1 : Int32), .int (0 : Int32), .int (0 : Int32)] (fun _ => 0) 1 H.size) (cwV 1 hts gX4_init_X4_drawHead rfl rfl rfl (by decide +kernel) ⟨Nat.le_of_ble_eq_true rfl, Nat.le_of_ble_eq_true rfl⟩) ⟨fun a U g mk q => by obtain ⟨q0, q1, qP, qK, qD⟩ := q; exact ⟨q0, q1, qP, va_K.moved (u := U) (U := U.calling g mk a) (Vm.Alike.refl U.vm) qK, qD⟩, va_recv hK hP (ci := 6) (q := (RX4, TX4, 6)) rfl (q0 := 0) rfl, fun U hU hW => ⟨rfl, by rw [hU], by rw [hU]; exact hPc, va_K.moved hW.alike hKc, hDc.weaken (fun _ _ _ _ => trivial)⟩⟩ rfl rfl hl.1 rfl (lv_room (Nat.le_of_ble_eq_true rfl)) dX4_init_42 ⟨Nat.le_of_ble_eq_true rfl, Nat.le_of_ble_eq_true rfl⟩) hS (fun q _ h => hFc q h) hFc (fun u t H1 locs ht hvm er_1 hB hz1 hk1 hS => ?_)
  obtain ⟨hP1, hK1, hD1⟩ := hB
  rw [ht] at hP1
  obtain ⟨hP, hD⟩ := va_join (wr := [(h1, .inr (3, v0 :: .ref hw :: ds)), (hw, .inl (cW, 8224, .inl g))]) (w1 := [(h0, .inr (6, [.ref h1, .ref q12, .int (0 : Int32), .int (1 : Int32), .int (0 : Int32), .int (0 : Int32)])), (q12, .inl (c12, 32, .inl (pu_head (fun _ => 0) 1)))]) hP hD [0, 3] [1, 2] rfl rfl (by decide) (by decide) hk1 hFc hP1 hD1
  clear hPc hDc hFc hP1 hD1 hk1 hz1
  generalize H1 = H at hP hS ⊢
  have hP : va_P (dC, dI) vwCl [(h1, .inr (3, v0 :: .ref hw :: ds)), (hw, .inl (cW, 8224, .inl g)), (h0, .inr (6, [.ref h1, .ref q12, .int (0 : Int32), .int (1 : Int32), .int (0 : Int32), .int (0 : Int32)])), (q12, .inl (c12, 32, .inl (pu_head (fun _ => 0) 1)))] H := hP
  have hD : va_D A [(h1, .inr (3, v0 :: .ref hw :: ds)), (hw, .inl (cW, 8224, .inl g)), (h0, .inr (6, [.ref h1, .ref q12, .int (0 : Int32), .int (1 : Int32), .int (0 : Int32), .int (0 : Int32)])), (q12, .inl (c12, 32, .inl (pu_head (fun _ => 0) 1)))] := hD
  refine lv_aload_n hx hb dX4_init_45 rfl (lv_at hl 0 rfl) ?_
  refine va_get (D := (dC, dI)) (ci := 6) (v := .ref q12) (C := RX4) (T := TX4) (N := 6) hx hb hts (by decide +kernel) hown hK hP 2 rfl rfl 1 (by decide) (hts (.fieldLink RX4 15 "BlockLog$Rows" "image" "[B") (by decide +kernel)) (fun _ h9 => h9) rfl dX4_init_46 ?_
  refine lv_iconst (v := 0) hx hb dX4_init_49 (by decide) ?_
  refine lv_aload_n hx hb dX4_init_50 rfl (lv_at hl 1 rfl) ?_
  refine va_getN (D := (dC, dI)) (ci := 3) (v := .ref hw) (C := RX1) (T := TX1) (N := 7) hx hb hts (by decide +kernel) hown hK hP 0 rfl rfl 1 (by decide) (va_Nw.use rfl (hG.1.1 ("BlockLog$Rows", 36, "BlockLog$Disk", "low", "[B", "BlockLog") (by decide +kernel))) (fun _ h9 => h9) rfl dX4_init_51 ?_
  refine lv_iconst (v := 0) hx hb dX4_init_54 (by decide) ?_
  refine lv_bipush (v := 16) hx hb dX4_init_55 (by decide) ?_
  refine va_copyi hx hb (hml.trans hl.1.symm) hown (hts (.methodLink RX4 41 arraycopyName) (by decide +kernel)) (hts (.native arraycopyName) (by decide +kernel)) (hts (.static arraycopyName) (by decide +kernel)) (hts (.initialized "java/lang/System") (by decide +kernel)) hK hP hD hS 3 1 1 0 rfl rfl rfl rfl rfl (by decide) (by decide) (by decide) (by decide +kernel) (by decide +kernel) fit_head (Nat.le_of_ble_eq_true rfl) (by decide +kernel) dX4_init_57 (fun H locs hP hD hS => ?_)
  have hP : va_P (dC, dI) vwCl [(h1, .inr (3, v0 :: .ref hw :: ds)), (hw, .inl (cW, 8224, .inl (va_cpy (pu_head (fun _ => 0) 1) g 0 0 16))), (h0, .inr (6, [.ref h1, .ref q12, .int (0 : Int32), .int (1 : Int32), .int (0 : Int32), .int (0 : Int32)])), (q12, .inl (c12, 32, .inl (pu_head (fun _ => 0) 1)))] H := hP
  have hD : va_D A [(h1, .inr (3, v0 :: .ref hw :: ds)), (hw, .inl (cW, 8224, .inl (va_cpy (pu_head (fun _ => 0) 1) g 0 0 16))), (h0, .inr (6, [.ref h1, .ref q12, .int (0 : Int32), .int (1 : Int32), .int (0 : Int32), .int (0 : Int32)])), (q12, .inl (c12, 32, .inl (pu_head (fun _ => 0) 1)))] := hD
  have hP := hP.sub (ws' := [(h0, .inr (6, [.ref h1, .ref q12, .int 0, .int 1, .int 0, .int 0])), (h1, .inr (3, v0 :: .ref hw :: ds)), (hw, .inl (cW, 8224, .inl (va_cpy (pu_head (fun _ => 0) 1) g 0 0 16))), (q12, .inl (c12, 32, .inl (pu_head (fun _ => 0) 1)))]) [2, 0, 1, 3] rfl
  have hD := hD.sub (ws' := [(h0, .inr (6, [.ref h1, .ref q12, .int 0, .int 1, .int 0, .int 0])), (h1, .inr (3, v0 :: .ref hw :: ds)), (hw, .inl (cW, 8224, .inl (va_cpy (pu_head (fun _ => 0) 1) g 0 0 16))), (q12, .inl (c12, 32, .inl (pu_head (fun _ => 0) 1)))]) [2, 0, 1, 3] (by decide) rfl
  have hK := hK.sub (tys' := [(cW, .byte), (c12, .byte)]) [0, 1] rfl
  exact W.vret hx hb hr (fun t ht hW => ⟨⟨(), rfl, trivial, q12, c12, by rw [ht]; exact hP, va_K.moved hW.alike hK, hD⟩, hS.F ht⟩) hS.2.2 dX4_init_60
set_option maxHeartbeats 4000000 in
set_option maxRecDepth 100000 in
theorem k_X7_init_1 (l : Launch) (dC : Nat → ClassId) (dI : Nat → Nat → Nat) (X8ini_q27 : Nat) (sz : Nat)  : Met l yX7_init wsX7_init ({ frames := 1, cells := 1, slots := 400, locals := 20 }) (va_Pc [.ref X8ini_q27] (fun U => U.heap.size = sz ∧ va_P (dC, dI) vwCl [(X8ini_q27, .inr (9, [.null, .int 0]))] U.heap ∧ va_K (dC, dI) vwCl [] U ∧ va_D (fun _ => True) [(X8ini_q27, .inr (9, [.null, .int 0]))])) (va_Qv (fun (_ : Unit) => True) (fun (_ : Unit) t => ∃ (X7ini_q8 : Nat) (X7ini_c8 : ClassId), va_P (dC, dI) vwCl [(X8ini_q27, .inr (9, [.ref X7ini_q8, .int (0 : Int32)])), (X7ini_q8, .inl (X7ini_c8, 400, .inl (fun _ => 0)))] t.heap ∧ va_K (dC, dI) vwCl [(X7ini_c8, .byte)] t ∧ va_D (va_A [(X8ini_q27, .inr (9, [.null, .int 0]))] sz) [(X8ini_q27, .inr (9, [.ref X7ini_q8, .int (0 : Int32)])), (X7ini_q8, .inl (X7ini_c8, 400, .inl (fun _ => 0)))]) (va_A [(X8ini_q27, .inr (9, [.null, .int 0]))] sz)) 1 400 (va_A [(X8ini_q27, .inr (9, [.null, .int 0]))] sz) := by
  refine Met.ofW (cc := cX7_init) (maxL := 1) (ret := none) (by decide) rfl ?_
  intro p e s m args below meth c s₁ B hml hv
  obtain ⟨rfl, hsz, hP, hK, hD0⟩ := hv
  have hx := B.exec
  have hb := B.bytes
  have hr := B.returns
  have hts := atoms_spec (ws := wsX7_init) B.pre
  have hown : s.vm.findClass RX7 = some m.cls := findClass_of_methodNamed B.named
  have hlocks := B.notSynchronized
  have hin : meth.name = "<init>" := (name_of_methodNamed B.named B.method).1
  subst hsz
  have hD := hD0.self (sz := s.heap.size)
  generalize hAe : va_A [(X8ini_q27, .inr (9, [.null, .int 0]))] s.heap.size = A at hD ⊢
  have hA : ∀ q : Nat, s.heap.size ≤ q → A q := fun q h => by rw [← hAe]; exact Or.inr h
  have hS : va_S A s.heap s.heap [] := va_S.rf
  have hl := lv_entry ([.ref X8ini_q27]) (n := 1) (Nat.le_of_ble_eq_true rfl)
  rw [lg_entry_eq]
  generalize (lg_sl ([.ref X8ini_q27]) ++ List.replicate (1 - (lg_sl ([.ref X8ini_q27])).length) Slot.unset).toArray = ls at hl ⊢
  have hl : lv_has ls 1 [(0, .ref X8ini_q27)] := hl
  refine lv_aload_n hx hb dX7_init_0 rfl (lv_at hl 0 rfl) ?_
  refine W.objInit hx hb hown (hts (.methodLink RX7 3 objectInit) (by decide +kernel)) (hts (.instanceMethod objectInit) (by decide +kernel)) (hts (.code objectInit ⟨#[0xb1]⟩ 1 none) (by decide +kernel)) rfl (by rw [hml]; exact hl.1) rfl dX7_init_1 (Nat.le_of_ble_eq_true rfl) (Nat.le_of_ble_eq_true rfl) ?_
  refine W.eq (g2 := F0 m 4 ls []) rfl ?_
  refine lv_aload_n hx hb dX7_init_4 rfl (lv_at hl 0 rfl) ?_
  refine lv_sipush (v := 400) hx hb dX7_init_5 (by decide) ?_
  refine va_newa (atype := .byte) (ty := .byte) (n := 400) (N' := 400) (a0 := (400, .inl (fun _ => 0))) hx hb (hts (.arrayClass .byte) (by decide +kernel)) rfl hK hP hD hS hA (fun _ => rfl) (by decide +kernel) (by decide +kernel) (by decide +kernel) (Nat.le_of_ble_eq_true rfl) (Nat.le_of_ble_eq_true rfl) dX7_init_8 (fun X7ini_q8 X7ini_c8 H hK hP hD hS => ?_)
  have hP : va_P (dC, dI) vwCl [(X8ini_q27, .inr (9, [.null, .int 0])), (X7ini_q8, .inl (X7ini_c8, 400, .inl (fun _ => 0)))] H := hP
  have hD : va_D A [(X8ini_q27, .inr (9, [.null, .int 0])), (X7ini_q8, .inl (X7ini_c8, 400, .inl (fun _ => 0)))] := hD
  have hK : va_K (dC, dI) vwCl [(X7ini_c8, .byte)] s := hK
  refine va_putF (D := (dC, dI)) (ci := 9) (v := .ref X7ini_q8) (ty := (.array .byte)) (C := RX7) (T := TX7) (N := 2) hx hb hts (by decide +kernel) tyX7 tyX7_ok nmX7 hown hK hP hD hS 0 rfl rfl 0 (by decide) (hts (.fieldLink RX7 9 "BlockLog$Tape" "bytes" "[B") (by decide +kernel)) (fun _ h9 => h9) rfl hin rfl (by decide +kernel) rfl rfl (Nat.le_of_ble_eq_true rfl) dX7_init_10 (fun H locs hP hD hS => ?_)
  have hP : va_P (dC, dI) vwCl [(X8ini_q27, .inr (9, [.ref X7ini_q8, .int 0])), (X7ini_q8, .inl (X7ini_c8, 400, .inl (fun _ => 0)))] H := hP
  have hD : va_D A [(X8ini_q27, .inr (9, [.ref X7ini_q8, .int 0])), (X7ini_q8, .inl (X7ini_c8, 400, .inl (fun _ => 0)))] := hD
  refine lv_aload_n hx hb dX7_init_13 rfl (lv_at hl 0 rfl) ?_
  refine lv_iconst (v := 0) hx hb dX7_init_14 (by decide) ?_
  refine va_put (D := (dC, dI)) (ci := 9) (v := .int (0 : Int32)) (ty := .int) (C := RX7) (T := TX7) (N := 2) hx hb hts (by decide +kernel) tyX7 tyX7_ok nmX7 hown hK hP hD hS 0 rfl rfl 1 (by decide) (hts (.fieldLink RX7 15 "BlockLog$Tape" "count" "I") (by decide +kernel)) (fun _ h9 => h9) rfl (by decide +kernel) rfl rfl (Nat.le_of_ble_eq_true rfl) dX7_init_15 (fun H locs hP hD hS => ?_)
  have hP : va_P (dC, dI) vwCl [(X8ini_q27, .inr (9, [.ref X7ini_q8, .int (0 : Int32)])), (X7ini_q8, .inl (X7ini_c8, 400, .inl (fun _ => 0)))] H := hP
  have hD : va_D A [(X8ini_q27, .inr (9, [.ref X7ini_q8, .int (0 : Int32)])), (X7ini_q8, .inl (X7ini_c8, 400, .inl (fun _ => 0)))] := hD
  have hP := hP.sub (ws' := [(X8ini_q27, .inr (9, [.ref X7ini_q8, .int (0 : Int32)])), (X7ini_q8, .inl (X7ini_c8, 400, .inl (fun _ => 0)))]) [0, 1] rfl
  have hD := hD.sub (ws' := [(X8ini_q27, .inr (9, [.ref X7ini_q8, .int (0 : Int32)])), (X7ini_q8, .inl (X7ini_c8, 400, .inl (fun _ => 0)))]) [0, 1] (by decide) rfl
  have hK := hK.sub (tys' := [(X7ini_c8, .byte)]) [0] rfl
  exact W.vret hx hb hr (fun t ht hW => ⟨⟨(), rfl, trivial, X7ini_q8, X7ini_c8, by rw [ht]; exact hP, va_K.moved hW.alike hK, hD⟩, hS.F ht⟩) hS.2.2 dX7_init_18
set_option maxHeartbeats 4000000 in
set_option maxRecDepth 100000 in
theorem k_Jxa1e45_init_da8c8_1 (l : Launch) (dC : Nat → ClassId) (dI : Nat → Nat → Nat) (X1ini_q28 : Nat)  : Met l yJxa1e45_init_da8c8 wsJxa1e45_init_da8c8 ({ frames := 1, cells := 0, slots := 0, locals := 20 }) (va_Pc [.ref X1ini_q28] (fun U => va_P (dC, dI) vwCl [] U.heap ∧ va_K (dC, dI) vwCl [] U)) (va_Sv (fun r => True)) 0 0 (fun _ => False) := by
  refine Met.ofW (cc := cJxa1e45_init_da8c8) (maxL := 1) (ret := none) (by decide) rfl ?_
  intro p e s m args below meth c s₁ B hml hv
  obtain ⟨rfl, hP, hK⟩ := hv
  have hx := B.exec
  have hb := B.bytes
  have hr := B.returns
  have hts := atoms_spec (ws := wsJxa1e45_init_da8c8) B.pre
  have hown : s.vm.findClass RJxa1e45 = some m.cls := findClass_of_methodNamed B.named
  have hlocks := B.notSynchronized
  have hin : meth.name = "<init>" := (name_of_methodNamed B.named B.method).1
  have hl := lv_entry ([.ref X1ini_q28]) (n := 1) (Nat.le_of_ble_eq_true rfl)
  rw [lg_entry_eq]
  generalize (lg_sl ([.ref X1ini_q28]) ++ List.replicate (1 - (lg_sl ([.ref X1ini_q28])).length) Slot.unset).toArray = ls at hl ⊢
  have hl : lv_has ls 1 [(0, .ref X1ini_q28)] := hl
  refine lv_aload_n hx hb dJxa1e45_init_da8c8_0 rfl (lv_at hl 0 rfl) ?_
  refine W.objInit hx hb hown (hts (.methodLink RJxa1e45 1 objectInit) (by decide +kernel)) (hts (.instanceMethod objectInit) (by decide +kernel)) (hts (.code objectInit ⟨#[0xb1]⟩ 1 none) (by decide +kernel)) rfl (by rw [hml]; exact hl.1) rfl dJxa1e45_init_da8c8_1 (Nat.le_of_ble_eq_true rfl) (Nat.le_of_ble_eq_true rfl) ?_
  refine W.eq (g2 := F0 m 4 ls []) rfl ?_
  exact W.vret hx hb hr (fun t ht hW => ⟨rfl, trivial, ht⟩) (fun q h => by cases h) dJxa1e45_init_da8c8_4
set_option maxHeartbeats 4000000 in
set_option maxRecDepth 100000 in
theorem k_Jxc12de_init_da8c8_1 (l : Launch) (dC : Nat → ClassId) (dI : Nat → Nat → Nat) (X1ini_q28 : Nat) (sz : Nat)  : Met l yJxc12de_init_da8c8 wsJxc12de_init_da8c8 ({ frames := 2, cells := 0, slots := 0, locals := 40 }) (va_Pc [.ref X1ini_q28] (fun U => U.heap.size = sz ∧ va_P (dC, dI) vwCl [(X1ini_q28, .inr (2, [.int 0, .null, .int 0]))] U.heap ∧ va_K (dC, dI) vwCl [] U ∧ va_D (fun _ => True) [(X1ini_q28, .inr (2, [.int 0, .null, .int 0]))])) (va_Qv (fun (_ : Unit) => True) (fun (_ : Unit) t => va_P (dC, dI) vwCl [(X1ini_q28, .inr (2, [.int (0 : Int32), .null, .int 0]))] t.heap ∧ va_K (dC, dI) vwCl [] t ∧ va_D (va_A [(X1ini_q28, .inr (2, [.int 0, .null, .int 0]))] sz) [(X1ini_q28, .inr (2, [.int (0 : Int32), .null, .int 0]))]) (va_A [(X1ini_q28, .inr (2, [.int 0, .null, .int 0]))] sz)) 0 0 (va_A [(X1ini_q28, .inr (2, [.int 0, .null, .int 0]))] sz) := by
  refine Met.ofW (cc := cJxc12de_init_da8c8) (maxL := 1) (ret := none) (by decide) rfl ?_
  intro p e s m args below meth c s₁ B hml hv
  obtain ⟨rfl, hsz, hP, hK, hD0⟩ := hv
  have hx := B.exec
  have hb := B.bytes
  have hr := B.returns
  have hts := atoms_spec (ws := wsJxc12de_init_da8c8) B.pre
  have hown : s.vm.findClass RJxc12de = some m.cls := findClass_of_methodNamed B.named
  have hlocks := B.notSynchronized
  have hin : meth.name = "<init>" := (name_of_methodNamed B.named B.method).1
  subst hsz
  have hD := hD0.self (sz := s.heap.size)
  generalize hAe : va_A [(X1ini_q28, .inr (2, [.int 0, .null, .int 0]))] s.heap.size = A at hD ⊢
  have hA : ∀ q : Nat, s.heap.size ≤ q → A q := fun q h => by rw [← hAe]; exact Or.inr h
  have hS : va_S A s.heap s.heap [] := va_S.rf
  have hl := lv_entry ([.ref X1ini_q28]) (n := 1) (Nat.le_of_ble_eq_true rfl)
  rw [lg_entry_eq]
  generalize (lg_sl ([.ref X1ini_q28]) ++ List.replicate (1 - (lg_sl ([.ref X1ini_q28])).length) Slot.unset).toArray = ls at hl ⊢
  have hl : lv_has ls 1 [(0, .ref X1ini_q28)] := hl
  refine lv_aload_n hx hb dJxc12de_init_da8c8_0 rfl (lv_at hl 0 rfl) ?_
  have hPc := hP.sub (ws' := []) [] rfl
  have hKc := hK.sub (tys' := []) [] rfl
  refine va_csv (va_Run.run (va_runI (As := []) (rest := []) ⟨hx, hb, hml, hown, hts⟩ (k_Jxa1e45_init_da8c8_1 l dC dI X1ini_q28) (cwI 0 hts gJxc12de_init_da8c8_Jxa1e45_init_da8c8 rfl rfl rfl (hts (.initialized RJxa1e45) (by decide +kernel)) (hts (.methodLink RJxc12de 1 yJxa1e45_init_da8c8) (by decide +kernel)) (hts (.instanceMethod yJxa1e45_init_da8c8) (by decide +kernel)) rfl (by decide +kernel) ⟨Nat.le_of_ble_eq_true rfl, Nat.le_of_ble_eq_true rfl⟩) ⟨fun a U g mk q => by obtain ⟨q0, qP, qK⟩ := q; exact ⟨q0, qP, va_K.moved (u := U) (U := U.calling g mk a) (Vm.Alike.refl U.vm) qK⟩, fun U hU hW => ⟨rfl, by rw [hU]; exact hPc, va_K.moved hW.alike hKc⟩⟩ rfl rfl hl.1 rfl (lv_room (Nat.le_of_ble_eq_true rfl)) dJxc12de_init_da8c8_1 ⟨Nat.le_of_ble_eq_true rfl, Nat.le_of_ble_eq_true rfl⟩)) (fun _ => ?_)
  refine lv_aload_n hx hb dJxc12de_init_da8c8_4 rfl (lv_at hl 0 rfl) ?_
  refine lv_iconst (v := 0) hx hb dJxc12de_init_da8c8_5 (by decide) ?_
  refine va_put (D := (dC, dI)) (ci := 2) (v := .int (0 : Int32)) (ty := .int) (C := RJx4a65c) (T := TJx4a65c) (N := 3) hx hb hts (by decide +kernel) tyJx4a65c tyJx4a65c_ok nmJx4a65c hown hK hP hD hS 0 rfl rfl 0 (by decide) (hts (.fieldLink RJxc12de 7 "java/util/AbstractList" "modCount" "I") (by decide +kernel)) (fun _ h9 => h9) rfl (by decide +kernel) rfl rfl (Nat.le_of_ble_eq_true rfl) dJxc12de_init_da8c8_6 (fun H locs hP hD hS => ?_)
  have hP : va_P (dC, dI) vwCl [(X1ini_q28, .inr (2, [.int (0 : Int32), .null, .int 0]))] H := hP
  have hD : va_D A [(X1ini_q28, .inr (2, [.int (0 : Int32), .null, .int 0]))] := hD
  have hP := hP.sub (ws' := [(X1ini_q28, .inr (2, [.int (0 : Int32), .null, .int 0]))]) [0] rfl
  have hD := hD.sub (ws' := [(X1ini_q28, .inr (2, [.int (0 : Int32), .null, .int 0]))]) [0] (by decide) rfl
  have hK := hK.sub (tys' := []) [] rfl
  exact W.vret hx hb hr (fun t ht hW => ⟨⟨(), rfl, trivial, by rw [ht]; exact hP, va_K.moved hW.alike hK, hD⟩, hS.F ht⟩) hS.2.2 dJxc12de_init_da8c8_9
set_option maxHeartbeats 4000000 in
set_option maxRecDepth 100000 in
theorem k_Jx4a65c_init_da8c8_1 (l : Launch) (dC : Nat → ClassId) (dI : Nat → Nat → Nat) (te : Nat) (X1ini_q28 : Nat) (sz : Nat)  : Met l yJx4a65c_init_da8c8 wsJx4a65c_init_da8c8 ({ frames := 3, cells := 0, slots := 0, locals := 60 }) (va_Pc [.ref X1ini_q28] (fun U => U.heap.size = sz ∧ va_P (dC, dI) vwCl [(X1ini_q28, .inr (2, [.int 0, .null, .int 0]))] U.heap ∧ va_K (dC, dI) vwCl [] U ∧ va_D (fun _ => True) [(X1ini_q28, .inr (2, [.int 0, .null, .int 0]))] ∧ gt_E te (va_A [(X1ini_q28, .inr (2, [.int 0, .null, .int 0]))] sz) U)) (va_Qv (fun (_ : Unit) => True) (fun (_ : Unit) t => va_P (dC, dI) vwCl [(X1ini_q28, .inr (2, [.int (0 : Int32), .ref te, .int 0]))] t.heap ∧ va_K (dC, dI) vwCl [] t ∧ va_D (va_A [(X1ini_q28, .inr (2, [.int 0, .null, .int 0]))] sz) [(X1ini_q28, .inr (2, [.int (0 : Int32), .ref te, .int 0]))]) (va_A [(X1ini_q28, .inr (2, [.int 0, .null, .int 0]))] sz)) 0 0 (va_A [(X1ini_q28, .inr (2, [.int 0, .null, .int 0]))] sz) := by
  refine Met.ofW (cc := cJx4a65c_init_da8c8) (maxL := 1) (ret := none) (by decide) rfl ?_
  intro p e s m args below meth c s₁ B hml hv
  obtain ⟨rfl, hsz, hP, hK, hD0, hG⟩ := hv
  have hx := B.exec
  have hb := B.bytes
  have hr := B.returns
  have hts := atoms_spec (ws := wsJx4a65c_init_da8c8) B.pre
  have hown : s.vm.findClass RJx4a65c = some m.cls := findClass_of_methodNamed B.named
  have hlocks := B.notSynchronized
  have hin : meth.name = "<init>" := (name_of_methodNamed B.named B.method).1
  subst hsz
  have hD := hD0.self (sz := s.heap.size)
  generalize hAe : va_A [(X1ini_q28, .inr (2, [.int 0, .null, .int 0]))] s.heap.size = A at hD hG ⊢
  have hA : ∀ q : Nat, s.heap.size ≤ q → A q := fun q h => by rw [← hAe]; exact Or.inr h
  have hS : va_S A s.heap s.heap [] := va_S.rf
  have hl := lv_entry ([.ref X1ini_q28]) (n := 1) (Nat.le_of_ble_eq_true rfl)
  rw [lg_entry_eq]
  generalize (lg_sl ([.ref X1ini_q28]) ++ List.replicate (1 - (lg_sl ([.ref X1ini_q28])).length) Slot.unset).toArray = ls at hl ⊢
  have hl : lv_has ls 1 [(0, .ref X1ini_q28)] := hl
  refine lv_aload_n hx hb dJx4a65c_init_da8c8_0 rfl (lv_at hl 0 rfl) ?_
  have hPc := hP.sub (ws' := [(X1ini_q28, .inr (2, [.int 0, .null, .int 0]))]) [0] rfl
  have hKc := hK.sub (tys' := []) [] rfl
  have hDc := hD.sub (ws' := [(X1ini_q28, .inr (2, [.int 0, .null, .int 0]))]) [0] (by decide) rfl
  have hFc := va_free (wc := [(X1ini_q28, .inr (2, [.int 0, .null, .int 0]))]) hD hS hA [0] rfl
  refine va_callv (va_runI (As := []) (rest := []) ⟨hx, hb, hml, hown, hts⟩ (k_Jxc12de_init_da8c8_1 l dC dI X1ini_q28 _) (cwI 0 hts gJx4a65c_init_da8c8_Jxc12de_init_da8c8 rfl rfl rfl (hts (.initialized RJxc12de) (by decide +kernel)) (hts (.methodLink RJx4a65c 1 yJxc12de_init_da8c8) (by decide +kernel)) (hts (.instanceMethod yJxc12de_init_da8c8) (by decide +kernel)) rfl (by decide +kernel) ⟨Nat.le_of_ble_eq_true rfl, Nat.le_of_ble_eq_true rfl⟩) ⟨fun a U g mk q => by obtain ⟨q0, q1, qP, qK, qD⟩ := q; exact ⟨q0, q1, qP, va_K.moved (u := U) (U := U.calling g mk a) (Vm.Alike.refl U.vm) qK, qD⟩, fun U hU hW => ⟨rfl, by rw [hU], by rw [hU]; exact hPc, va_K.moved hW.alike hKc, hDc.weaken (fun _ _ _ _ => trivial)⟩⟩ rfl rfl hl.1 rfl (lv_room (Nat.le_of_ble_eq_true rfl)) dJx4a65c_init_da8c8_1 ⟨Nat.le_of_ble_eq_true rfl, Nat.le_of_ble_eq_true rfl⟩) hS (fun q _ h => hFc q h) hFc (fun u t H1 locs ht hvm er_1 hB hz1 hk1 hS => ?_)
  obtain ⟨hP1, hK1, hD1⟩ := hB
  rw [ht] at hP1
  obtain ⟨hP, hD⟩ := va_join (wr := []) (w1 := [(X1ini_q28, .inr (2, [.int (0 : Int32), .null, .int 0]))]) hP hD [0] [] rfl rfl (by decide) (by decide) hk1 hFc hP1 hD1
  clear hPc hDc hFc hP1 hD1 hk1 hz1
  generalize H1 = H at hP hS ⊢
  have hP : va_P (dC, dI) vwCl [(X1ini_q28, .inr (2, [.int (0 : Int32), .null, .int 0]))] H := hP
  have hD : va_D A [(X1ini_q28, .inr (2, [.int (0 : Int32), .null, .int 0]))] := hD
  refine lv_aload_n hx hb dJx4a65c_init_da8c8_4 rfl (lv_at hl 0 rfl) ?_
  have hZ9 := hG.2
  refine va_gets hx hb hZ9 hS hown (hts (.fieldLink RJx4a65c 39 "java/util/ArrayList" "DEFAULTCAPACITY_EMPTY_ELEMENTDATA" "[Ljava/lang/Object;") (by decide +kernel)) (fun _ h => h) dJx4a65c_init_da8c8_5 ?_
  refine va_put (D := (dC, dI)) (ci := 2) (v := .ref te) (ty := (.array (.object "java/lang/Object"))) (C := RJx4a65c) (T := TJx4a65c) (N := 3) hx hb hts (by decide +kernel) tyJx4a65c tyJx4a65c_ok nmJx4a65c hown hK hP hD hS 0 rfl rfl 1 (by decide) (hts (.fieldLink RJx4a65c 9 "java/util/ArrayList" "elementData" "[Ljava/lang/Object;") (by decide +kernel)) (fun _ h9 => h9) rfl (by decide +kernel) rfl rfl (Nat.le_of_ble_eq_true rfl) dJx4a65c_init_da8c8_8 (fun H locs hP hD hS => ?_)
  have hP : va_P (dC, dI) vwCl [(X1ini_q28, .inr (2, [.int (0 : Int32), .ref te, .int 0]))] H := hP
  have hD : va_D A [(X1ini_q28, .inr (2, [.int (0 : Int32), .ref te, .int 0]))] := hD
  have hP := hP.sub (ws' := [(X1ini_q28, .inr (2, [.int (0 : Int32), .ref te, .int 0]))]) [0] rfl
  have hD := hD.sub (ws' := [(X1ini_q28, .inr (2, [.int (0 : Int32), .ref te, .int 0]))]) [0] (by decide) rfl
  have hK := hK.sub (tys' := []) [] rfl
  exact W.vret hx hb hr (fun t ht hW => ⟨⟨(), rfl, trivial, by rw [ht]; exact hP, va_K.moved hW.alike hK, hD⟩, hS.F ht⟩) hS.2.2 dJx4a65c_init_da8c8_11
set_option maxHeartbeats 4000000 in
set_option maxRecDepth 100000 in
theorem k_X1_init_1 (l : Launch) (dC : Nat → ClassId) (dI : Nat → Nat → Nat) (te : Nat) (X8ini_q38 : Nat) (n0 : Int32) (sz : Nat)  : Met l yX1_init wsX1_init ({ frames := 4, cells := 3, slots := 8483, locals := 80 }) (va_Pc [.ref X8ini_q38, .int (cl_pages n0)] (fun U => U.heap.size = sz ∧ va_P (dC, dI) vwCl [(X8ini_q38, .inr (3, [.int 0, .null, .null, .null, .int 0, .int 0, .int 0]))] U.heap ∧ va_K (dC, dI) vwCl [] U ∧ va_D (fun _ => True) [(X8ini_q38, .inr (3, [.int 0, .null, .null, .null, .int 0, .int 0, .int 0]))] ∧ gt_E te (va_A [(X8ini_q38, .inr (3, [.int 0, .null, .null, .null, .int 0, .int 0, .int 0]))] sz) U)) (va_Qv (fun (_ : Unit) => True) (fun (_ : Unit) t => ∃ (X1ini_q13 : Nat) (X1ini_q22 : Nat) (X1ini_q28 : Nat) (X1ini_c13 : ClassId) (X1ini_c22 : ClassId), va_P (dC, dI) vwCl [(X8ini_q38, .inr (3, [.int (cl_pages n0), .ref X1ini_q13, .ref X1ini_q22, .ref X1ini_q28, .int (1 : Int32), .int (-1 : Int32), .int (0 : Int32)])), (X1ini_q13, .inl (X1ini_c13, 8224, .inl (fun _ => 0))), (X1ini_q22, .inl (X1ini_c22, 256, .inl (fun _ => 0))), (X1ini_q28, .inr (2, [.int (0 : Int32), .ref te, .int 0]))] t.heap ∧ va_K (dC, dI) vwCl [(X1ini_c13, .byte), (X1ini_c22, .byte)] t ∧ va_D (va_A [(X8ini_q38, .inr (3, [.int 0, .null, .null, .null, .int 0, .int 0, .int 0]))] sz) [(X8ini_q38, .inr (3, [.int (cl_pages n0), .ref X1ini_q13, .ref X1ini_q22, .ref X1ini_q28, .int (1 : Int32), .int (-1 : Int32), .int (0 : Int32)])), (X1ini_q13, .inl (X1ini_c13, 8224, .inl (fun _ => 0))), (X1ini_q22, .inl (X1ini_c22, 256, .inl (fun _ => 0))), (X1ini_q28, .inr (2, [.int (0 : Int32), .ref te, .int 0]))]) (va_A [(X8ini_q38, .inr (3, [.int 0, .null, .null, .null, .int 0, .int 0, .int 0]))] sz)) 3 8483 (va_A [(X8ini_q38, .inr (3, [.int 0, .null, .null, .null, .int 0, .int 0, .int 0]))] sz) := by
  refine Met.ofW (cc := cX1_init) (maxL := 2) (ret := none) (by decide) rfl ?_
  intro p e s m args below meth c s₁ B hml hv
  obtain ⟨rfl, hsz, hP, hK, hD0, hG⟩ := hv
  have hx := B.exec
  have hb := B.bytes
  have hr := B.returns
  have hts := atoms_spec (ws := wsX1_init) B.pre
  have hown : s.vm.findClass RX1 = some m.cls := findClass_of_methodNamed B.named
  have hlocks := B.notSynchronized
  have hin : meth.name = "<init>" := (name_of_methodNamed B.named B.method).1
  subst hsz
  have hD := hD0.self (sz := s.heap.size)
  generalize hAe : va_A [(X8ini_q38, .inr (3, [.int 0, .null, .null, .null, .int 0, .int 0, .int 0]))] s.heap.size = A at hD hG ⊢
  have hA : ∀ q : Nat, s.heap.size ≤ q → A q := fun q h => by rw [← hAe]; exact Or.inr h
  have hS : va_S A s.heap s.heap [] := va_S.rf
  have hl := lv_entry ([.ref X8ini_q38, .int (cl_pages n0)]) (n := 2) (Nat.le_of_ble_eq_true rfl)
  rw [lg_entry_eq]
  generalize (lg_sl ([.ref X8ini_q38, .int (cl_pages n0)]) ++ List.replicate (2 - (lg_sl ([.ref X8ini_q38, .int (cl_pages n0)])).length) Slot.unset).toArray = ls at hl ⊢
  have hl : lv_has ls 2 [(0, .ref X8ini_q38), (1, .int (cl_pages n0))] := hl
  refine lv_aload_n hx hb dX1_init_0 rfl (lv_at hl 0 rfl) ?_
  refine W.objInit hx hb hown (hts (.methodLink RX1 3 objectInit) (by decide +kernel)) (hts (.instanceMethod objectInit) (by decide +kernel)) (hts (.code objectInit ⟨#[0xb1]⟩ 1 none) (by decide +kernel)) rfl (by rw [hml]; exact hl.1) rfl dX1_init_1 (Nat.le_of_ble_eq_true rfl) (Nat.le_of_ble_eq_true rfl) ?_
  refine W.eq (g2 := F0 m 4 ls []) rfl ?_
  refine lv_aload_n hx hb dX1_init_4 rfl (lv_at hl 0 rfl) ?_
  refine lv_iload_n hx hb dX1_init_5 rfl (lv_at hl 1 rfl) ?_
  refine va_putF (D := (dC, dI)) (ci := 3) (v := .int (cl_pages n0)) (ty := .int) (C := RX1) (T := TX1) (N := 7) hx hb hts (by decide +kernel) tyX1 tyX1_ok nmX1 hown hK hP hD hS 0 rfl rfl 0 (by decide) (hts (.fieldLink RX1 9 "BlockLog$Disk" "pageCount" "I") (by decide +kernel)) (fun _ h9 => h9) rfl hin rfl (by decide +kernel) rfl rfl (Nat.le_of_ble_eq_true rfl) dX1_init_6 (fun H locs hP hD hS => ?_)
  have hP : va_P (dC, dI) vwCl [(X8ini_q38, .inr (3, [.int (cl_pages n0), .null, .null, .null, .int 0, .int 0, .int 0]))] H := hP
  have hD : va_D A [(X8ini_q38, .inr (3, [.int (cl_pages n0), .null, .null, .null, .int 0, .int 0, .int 0]))] := hD
  refine lv_aload_n hx hb dX1_init_9 rfl (lv_at hl 0 rfl) ?_
  refine lv_sipush (v := 8224) hx hb dX1_init_10 (by decide) ?_
  refine va_newa (atype := .byte) (ty := .byte) (n := 8224) (N' := 8224) (a0 := (8224, .inl (fun _ => 0))) hx hb (hts (.arrayClass .byte) (by decide +kernel)) rfl hK hP hD hS hA (fun _ => rfl) (by decide +kernel) (by decide +kernel) (by decide +kernel) (Nat.le_of_ble_eq_true rfl) (Nat.le_of_ble_eq_true rfl) dX1_init_13 (fun X1ini_q13 X1ini_c13 H hK hP hD hS => ?_)
  have hP : va_P (dC, dI) vwCl [(X8ini_q38, .inr (3, [.int (cl_pages n0), .null, .null, .null, .int 0, .int 0, .int 0])), (X1ini_q13, .inl (X1ini_c13, 8224, .inl (fun _ => 0)))] H := hP
  have hD : va_D A [(X8ini_q38, .inr (3, [.int (cl_pages n0), .null, .null, .null, .int 0, .int 0, .int 0])), (X1ini_q13, .inl (X1ini_c13, 8224, .inl (fun _ => 0)))] := hD
  have hK : va_K (dC, dI) vwCl [(X1ini_c13, .byte)] s := hK
  refine va_putF (D := (dC, dI)) (ci := 3) (v := .ref X1ini_q13) (ty := (.array .byte)) (C := RX1) (T := TX1) (N := 7) hx hb hts (by decide +kernel) tyX1 tyX1_ok nmX1 hown hK hP hD hS 0 rfl rfl 1 (by decide) (hts (.fieldLink RX1 15 "BlockLog$Disk" "low" "[B") (by decide +kernel)) (fun _ h9 => h9) rfl hin rfl (by decide +kernel) rfl rfl (Nat.le_of_ble_eq_true rfl) dX1_init_15 (fun H locs hP hD hS => ?_)
  have hP : va_P (dC, dI) vwCl [(X8ini_q38, .inr (3, [.int (cl_pages n0), .ref X1ini_q13, .null, .null, .int 0, .int 0, .int 0])), (X1ini_q13, .inl (X1ini_c13, 8224, .inl (fun _ => 0)))] H := hP
  have hD : va_D A [(X8ini_q38, .inr (3, [.int (cl_pages n0), .ref X1ini_q13, .null, .null, .int 0, .int 0, .int 0])), (X1ini_q13, .inl (X1ini_c13, 8224, .inl (fun _ => 0)))] := hD
  refine lv_aload_n hx hb dX1_init_18 rfl (lv_at hl 0 rfl) ?_
  refine lv_sipush (v := 256) hx hb dX1_init_19 (by decide) ?_
  refine va_newa (atype := .byte) (ty := .byte) (n := 256) (N' := 256) (a0 := (256, .inl (fun _ => 0))) hx hb (hts (.arrayClass .byte) (by decide +kernel)) rfl hK hP hD hS hA (fun _ => rfl) (by decide +kernel) (by decide +kernel) (by decide +kernel) (Nat.le_of_ble_eq_true rfl) (Nat.le_of_ble_eq_true rfl) dX1_init_22 (fun X1ini_q22 X1ini_c22 H hK hP hD hS => ?_)
  have hP : va_P (dC, dI) vwCl [(X8ini_q38, .inr (3, [.int (cl_pages n0), .ref X1ini_q13, .null, .null, .int 0, .int 0, .int 0])), (X1ini_q13, .inl (X1ini_c13, 8224, .inl (fun _ => 0))), (X1ini_q22, .inl (X1ini_c22, 256, .inl (fun _ => 0)))] H := hP
  have hD : va_D A [(X8ini_q38, .inr (3, [.int (cl_pages n0), .ref X1ini_q13, .null, .null, .int 0, .int 0, .int 0])), (X1ini_q13, .inl (X1ini_c13, 8224, .inl (fun _ => 0))), (X1ini_q22, .inl (X1ini_c22, 256, .inl (fun _ => 0)))] := hD
  have hK : va_K (dC, dI) vwCl [(X1ini_c13, .byte), (X1ini_c22, .byte)] s := hK
  refine va_putF (D := (dC, dI)) (ci := 3) (v := .ref X1ini_q22) (ty := (.array .byte)) (C := RX1) (T := TX1) (N := 7) hx hb hts (by decide +kernel) tyX1 tyX1_ok nmX1 hown hK hP hD hS 0 rfl rfl 2 (by decide) (hts (.fieldLink RX1 19 "BlockLog$Disk" "rowStates" "[B") (by decide +kernel)) (fun _ h9 => h9) rfl hin rfl (by decide +kernel) rfl rfl (Nat.le_of_ble_eq_true rfl) dX1_init_24 (fun H locs hP hD hS => ?_)
  have hP : va_P (dC, dI) vwCl [(X8ini_q38, .inr (3, [.int (cl_pages n0), .ref X1ini_q13, .ref X1ini_q22, .null, .int 0, .int 0, .int 0])), (X1ini_q13, .inl (X1ini_c13, 8224, .inl (fun _ => 0))), (X1ini_q22, .inl (X1ini_c22, 256, .inl (fun _ => 0)))] H := hP
  have hD : va_D A [(X8ini_q38, .inr (3, [.int (cl_pages n0), .ref X1ini_q13, .ref X1ini_q22, .null, .int 0, .int 0, .int 0])), (X1ini_q13, .inl (X1ini_c13, 8224, .inl (fun _ => 0))), (X1ini_q22, .inl (X1ini_c22, 256, .inl (fun _ => 0)))] := hD
  refine lv_aload_n hx hb dX1_init_27 rfl (lv_at hl 0 rfl) ?_
  refine va_new (D := (dC, dI)) (cl := vwCl) (ci := 2) (C := RJx4a65c) (T := TJx4a65c) (N := 3) (fs := [.int 0, .null, .int 0]) hx hb hts (by decide +kernel) tyJx4a65c tyJx4a65c_ok hown (hts (.classLink RX1 22 RJx4a65c) (by decide +kernel)) (hts (.instantiable RJx4a65c 3) (by decide +kernel)) (hts (.initialized RJx4a65c) (by decide +kernel)) hK hP hD hS hA rfl (by decide +kernel) (Nat.le_of_ble_eq_true rfl) (Nat.le_of_ble_eq_true rfl) dX1_init_28 (fun X1ini_q28 H hP hD hS => ?_)
  have hP : va_P (dC, dI) vwCl [(X8ini_q38, .inr (3, [.int (cl_pages n0), .ref X1ini_q13, .ref X1ini_q22, .null, .int 0, .int 0, .int 0])), (X1ini_q13, .inl (X1ini_c13, 8224, .inl (fun _ => 0))), (X1ini_q22, .inl (X1ini_c22, 256, .inl (fun _ => 0))), (X1ini_q28, .inr (2, [.int 0, .null, .int 0]))] H := hP
  have hD : va_D A [(X8ini_q38, .inr (3, [.int (cl_pages n0), .ref X1ini_q13, .ref X1ini_q22, .null, .int 0, .int 0, .int 0])), (X1ini_q13, .inl (X1ini_c13, 8224, .inl (fun _ => 0))), (X1ini_q22, .inl (X1ini_c22, 256, .inl (fun _ => 0))), (X1ini_q28, .inr (2, [.int 0, .null, .int 0]))] := hD
  refine lv_dup hx hb dX1_init_31 rfl ?_
  have hPc := hP.sub (ws' := [(X1ini_q28, .inr (2, [.int 0, .null, .int 0]))]) [3] rfl
  have hKc := hK.sub (tys' := []) [] rfl
  have hDc := hD.sub (ws' := [(X1ini_q28, .inr (2, [.int 0, .null, .int 0]))]) [3] (by decide) rfl
  have hFc := va_free (wc := [(X1ini_q28, .inr (2, [.int 0, .null, .int 0]))]) hD hS hA [3] rfl
  refine va_callv (va_runI (As := []) (rest := [.ref X1ini_q28, .ref X8ini_q38]) ⟨hx, hb, hml, hown, hts⟩ (k_Jx4a65c_init_da8c8_1 l dC dI te X1ini_q28 _) (cwI 0 hts gX1_init_Jx4a65c_init_da8c8 rfl rfl rfl (hts (.initialized RJx4a65c) (by decide +kernel)) (hts (.methodLink RX1 24 yJx4a65c_init_da8c8) (by decide +kernel)) (hts (.instanceMethod yJx4a65c_init_da8c8) (by decide +kernel)) rfl (by decide +kernel) ⟨Nat.le_of_ble_eq_true rfl, Nat.le_of_ble_eq_true rfl⟩) ⟨fun a U g mk q => by obtain ⟨q0, q1, qP, qK, qD, qG⟩ := q; exact ⟨q0, q1, qP, va_K.moved (u := U) (U := U.calling g mk a) (Vm.Alike.refl U.vm) qK, qD, qG.same rfl rfl⟩, fun U hU hW => ⟨rfl, by rw [hU], by rw [hU]; exact hPc, va_K.moved hW.alike hKc, hDc.weaken (fun _ _ _ _ => trivial), hG.go hW hU hS hFc⟩⟩ rfl rfl hl.1 rfl (lv_room (Nat.le_of_ble_eq_true rfl)) dX1_init_32 ⟨Nat.le_of_ble_eq_true rfl, Nat.le_of_ble_eq_true rfl⟩) hS (fun q _ h => hFc q h) hFc (fun u t H1 locs ht hvm er_1 hB hz1 hk1 hS => ?_)
  obtain ⟨hP1, hK1, hD1⟩ := hB
  rw [ht] at hP1
  obtain ⟨hP, hD⟩ := va_join (wr := [(X8ini_q38, .inr (3, [.int (cl_pages n0), .ref X1ini_q13, .ref X1ini_q22, .null, .int 0, .int 0, .int 0])), (X1ini_q13, .inl (X1ini_c13, 8224, .inl (fun _ => 0))), (X1ini_q22, .inl (X1ini_c22, 256, .inl (fun _ => 0)))]) (w1 := [(X1ini_q28, .inr (2, [.int (0 : Int32), .ref te, .int 0]))]) hP hD [3] [0, 1, 2] rfl rfl (by decide) (by decide) hk1 hFc hP1 hD1
  clear hPc hDc hFc hP1 hD1 hk1 hz1
  generalize H1 = H at hP hS ⊢
  have hP : va_P (dC, dI) vwCl [(X8ini_q38, .inr (3, [.int (cl_pages n0), .ref X1ini_q13, .ref X1ini_q22, .null, .int 0, .int 0, .int 0])), (X1ini_q13, .inl (X1ini_c13, 8224, .inl (fun _ => 0))), (X1ini_q22, .inl (X1ini_c22, 256, .inl (fun _ => 0))), (X1ini_q28, .inr (2, [.int (0 : Int32), .ref te, .int 0]))] H := hP
  have hD : va_D A [(X8ini_q38, .inr (3, [.int (cl_pages n0), .ref X1ini_q13, .ref X1ini_q22, .null, .int 0, .int 0, .int 0])), (X1ini_q13, .inl (X1ini_c13, 8224, .inl (fun _ => 0))), (X1ini_q22, .inl (X1ini_c22, 256, .inl (fun _ => 0))), (X1ini_q28, .inr (2, [.int (0 : Int32), .ref te, .int 0]))] := hD
  refine va_putF (D := (dC, dI)) (ci := 3) (v := .ref X1ini_q28) (ty := (.object "java/util/ArrayList")) (C := RX1) (T := TX1) (N := 7) hx hb hts (by decide +kernel) tyX1 tyX1_ok nmX1 hown hK hP hD hS 0 rfl rfl 3 (by decide) (hts (.fieldLink RX1 25 "BlockLog$Disk" "touched" "Ljava/util/ArrayList;") (by decide +kernel)) (fun _ h9 => h9) rfl hin rfl (by decide +kernel) rfl rfl (Nat.le_of_ble_eq_true rfl) dX1_init_35 (fun H locs hP hD hS => ?_)
  have hP : va_P (dC, dI) vwCl [(X8ini_q38, .inr (3, [.int (cl_pages n0), .ref X1ini_q13, .ref X1ini_q22, .ref X1ini_q28, .int 0, .int 0, .int 0])), (X1ini_q13, .inl (X1ini_c13, 8224, .inl (fun _ => 0))), (X1ini_q22, .inl (X1ini_c22, 256, .inl (fun _ => 0))), (X1ini_q28, .inr (2, [.int (0 : Int32), .ref te, .int 0]))] H := hP
  have hD : va_D A [(X8ini_q38, .inr (3, [.int (cl_pages n0), .ref X1ini_q13, .ref X1ini_q22, .ref X1ini_q28, .int 0, .int 0, .int 0])), (X1ini_q13, .inl (X1ini_c13, 8224, .inl (fun _ => 0))), (X1ini_q22, .inl (X1ini_c22, 256, .inl (fun _ => 0))), (X1ini_q28, .inr (2, [.int (0 : Int32), .ref te, .int 0]))] := hD
  refine lv_aload_n hx hb dX1_init_38 rfl (lv_at hl 0 rfl) ?_
  refine lv_iconst (v := 1) hx hb dX1_init_39 (by decide) ?_
  refine va_put (D := (dC, dI)) (ci := 3) (v := .int (1 : Int32)) (ty := .boolean) (C := RX1) (T := TX1) (N := 7) hx hb hts (by decide +kernel) tyX1 tyX1_ok nmX1 hown hK hP hD hS 0 rfl rfl 4 (by decide) (hts (.fieldLink RX1 29 "BlockLog$Disk" "powered" "Z") (by decide +kernel)) (fun _ h9 => h9) rfl (by decide +kernel) rfl rfl (Nat.le_of_ble_eq_true rfl) dX1_init_40 (fun H locs hP hD hS => ?_)
  have hP : va_P (dC, dI) vwCl [(X8ini_q38, .inr (3, [.int (cl_pages n0), .ref X1ini_q13, .ref X1ini_q22, .ref X1ini_q28, .int (1 : Int32), .int 0, .int 0])), (X1ini_q13, .inl (X1ini_c13, 8224, .inl (fun _ => 0))), (X1ini_q22, .inl (X1ini_c22, 256, .inl (fun _ => 0))), (X1ini_q28, .inr (2, [.int (0 : Int32), .ref te, .int 0]))] H := hP
  have hD : va_D A [(X8ini_q38, .inr (3, [.int (cl_pages n0), .ref X1ini_q13, .ref X1ini_q22, .ref X1ini_q28, .int (1 : Int32), .int 0, .int 0])), (X1ini_q13, .inl (X1ini_c13, 8224, .inl (fun _ => 0))), (X1ini_q22, .inl (X1ini_c22, 256, .inl (fun _ => 0))), (X1ini_q28, .inr (2, [.int (0 : Int32), .ref te, .int 0]))] := hD
  refine lv_aload_n hx hb dX1_init_43 rfl (lv_at hl 0 rfl) ?_
  refine lv_iconst (v := (-1)) hx hb dX1_init_44 (by decide) ?_
  refine va_put (D := (dC, dI)) (ci := 3) (v := .int (-1 : Int32)) (ty := .int) (C := RX1) (T := TX1) (N := 7) hx hb hts (by decide +kernel) tyX1 tyX1_ok nmX1 hown hK hP hD hS 0 rfl rfl 5 (by decide) (hts (.fieldLink RX1 33 "BlockLog$Disk" "actsLeft" "I") (by decide +kernel)) (fun _ h9 => h9) rfl (by decide +kernel) rfl rfl (Nat.le_of_ble_eq_true rfl) dX1_init_45 (fun H locs hP hD hS => ?_)
  have hP : va_P (dC, dI) vwCl [(X8ini_q38, .inr (3, [.int (cl_pages n0), .ref X1ini_q13, .ref X1ini_q22, .ref X1ini_q28, .int (1 : Int32), .int (-1 : Int32), .int 0])), (X1ini_q13, .inl (X1ini_c13, 8224, .inl (fun _ => 0))), (X1ini_q22, .inl (X1ini_c22, 256, .inl (fun _ => 0))), (X1ini_q28, .inr (2, [.int (0 : Int32), .ref te, .int 0]))] H := hP
  have hD : va_D A [(X8ini_q38, .inr (3, [.int (cl_pages n0), .ref X1ini_q13, .ref X1ini_q22, .ref X1ini_q28, .int (1 : Int32), .int (-1 : Int32), .int 0])), (X1ini_q13, .inl (X1ini_c13, 8224, .inl (fun _ => 0))), (X1ini_q22, .inl (X1ini_c22, 256, .inl (fun _ => 0))), (X1ini_q28, .inr (2, [.int (0 : Int32), .ref te, .int 0]))] := hD
  refine lv_aload_n hx hb dX1_init_48 rfl (lv_at hl 0 rfl) ?_
  refine lv_iconst (v := 0) hx hb dX1_init_49 (by decide) ?_
  refine va_put (D := (dC, dI)) (ci := 3) (v := .int (0 : Int32)) (ty := .int) (C := RX1) (T := TX1) (N := 7) hx hb hts (by decide +kernel) tyX1 tyX1_ok nmX1 hown hK hP hD hS 0 rfl rfl 6 (by decide) (hts (.fieldLink RX1 36 "BlockLog$Disk" "actsDone" "I") (by decide +kernel)) (fun _ h9 => h9) rfl (by decide +kernel) rfl rfl (Nat.le_of_ble_eq_true rfl) dX1_init_50 (fun H locs hP hD hS => ?_)
  have hP : va_P (dC, dI) vwCl [(X8ini_q38, .inr (3, [.int (cl_pages n0), .ref X1ini_q13, .ref X1ini_q22, .ref X1ini_q28, .int (1 : Int32), .int (-1 : Int32), .int (0 : Int32)])), (X1ini_q13, .inl (X1ini_c13, 8224, .inl (fun _ => 0))), (X1ini_q22, .inl (X1ini_c22, 256, .inl (fun _ => 0))), (X1ini_q28, .inr (2, [.int (0 : Int32), .ref te, .int 0]))] H := hP
  have hD : va_D A [(X8ini_q38, .inr (3, [.int (cl_pages n0), .ref X1ini_q13, .ref X1ini_q22, .ref X1ini_q28, .int (1 : Int32), .int (-1 : Int32), .int (0 : Int32)])), (X1ini_q13, .inl (X1ini_c13, 8224, .inl (fun _ => 0))), (X1ini_q22, .inl (X1ini_c22, 256, .inl (fun _ => 0))), (X1ini_q28, .inr (2, [.int (0 : Int32), .ref te, .int 0]))] := hD
  have hP := hP.sub (ws' := [(X8ini_q38, .inr (3, [.int (cl_pages n0), .ref X1ini_q13, .ref X1ini_q22, .ref X1ini_q28, .int (1 : Int32), .int (-1 : Int32), .int (0 : Int32)])), (X1ini_q13, .inl (X1ini_c13, 8224, .inl (fun _ => 0))), (X1ini_q22, .inl (X1ini_c22, 256, .inl (fun _ => 0))), (X1ini_q28, .inr (2, [.int (0 : Int32), .ref te, .int 0]))]) [0, 1, 2, 3] rfl
  have hD := hD.sub (ws' := [(X8ini_q38, .inr (3, [.int (cl_pages n0), .ref X1ini_q13, .ref X1ini_q22, .ref X1ini_q28, .int (1 : Int32), .int (-1 : Int32), .int (0 : Int32)])), (X1ini_q13, .inl (X1ini_c13, 8224, .inl (fun _ => 0))), (X1ini_q22, .inl (X1ini_c22, 256, .inl (fun _ => 0))), (X1ini_q28, .inr (2, [.int (0 : Int32), .ref te, .int 0]))]) [0, 1, 2, 3] (by decide) rfl
  have hK := hK.sub (tys' := [(X1ini_c13, .byte), (X1ini_c22, .byte)]) [0, 1] rfl
  exact W.vret hx hb hr (fun t ht hW => ⟨⟨(), rfl, trivial, X1ini_q13, X1ini_q22, X1ini_q28, X1ini_c13, X1ini_c22, by rw [ht]; exact hP, va_K.moved hW.alike hK, hD⟩, hS.F ht⟩) hS.2.2 dX1_init_53
set_option maxHeartbeats 4000000 in
set_option maxRecDepth 100000 in
theorem k_X6_init_1 (l : Launch) (dC : Nat → ClassId) (dI : Nat → Nat → Nat) (X8ini_q65 : Nat) (X8ini_q50 : Nat) (sz : Nat)  : Met l yX6_init wsX6_init ({ frames := 1, cells := 6, slots := 656, locals := 20 }) (va_Pc [.ref X8ini_q65, .ref X8ini_q50] (fun U => U.heap.size = sz ∧ va_P (dC, dI) vwCl [(X8ini_q65, .inr (8, [.null, .null, .null, .null, .null, .null, .null, .int 0, .int 0, .int 0, .int 0, .int 0]))] U.heap ∧ va_K (dC, dI) vwCl [] U ∧ va_D (fun _ => True) [(X8ini_q65, .inr (8, [.null, .null, .null, .null, .null, .null, .null, .int 0, .int 0, .int 0, .int 0, .int 0]))])) (va_Qv (fun (_ : Unit) => True) (fun (_ : Unit) t => ∃ (X6ini_q13 : Nat) (X6ini_q22 : Nat) (X6ini_q31 : Nat) (X6ini_q40 : Nat) (X6ini_q49 : Nat) (X6ini_q57 : Nat) (X6ini_c13 : ClassId) (X6ini_c22 : ClassId) (X6ini_c31 : ClassId) (X6ini_c40 : ClassId) (X6ini_c49 : ClassId) (X6ini_c57 : ClassId), va_P (dC, dI) vwCl [(X8ini_q65, .inr (8, [.ref X8ini_q50, .ref X6ini_q13, .ref X6ini_q22, .ref X6ini_q31, .ref X6ini_q40, .ref X6ini_q49, .ref X6ini_q57, .int (0 : Int32), .int (0 : Int32), .int (-1 : Int32), .int (0 : Int32), .int (0 : Int32)])), (X6ini_q13, .inl (X6ini_c13, 128, .inr (.inl (fun _ => 0)))), (X6ini_q22, .inl (X6ini_c22, 128, .inl (fun _ => 0))), (X6ini_q31, .inl (X6ini_c31, 128, .inl (fun _ => 0))), (X6ini_q40, .inl (X6ini_c40, 128, .inl (fun _ => 0))), (X6ini_q49, .inl (X6ini_c49, 128, .inl (fun _ => 0))), (X6ini_q57, .inl (X6ini_c57, 16, .inr (.inl (fun _ => 0))))] t.heap ∧ va_K (dC, dI) vwCl [(X6ini_c13, .long), (X6ini_c22, .boolean), (X6ini_c31, .boolean), (X6ini_c40, .boolean), (X6ini_c49, .int), (X6ini_c57, .long)] t ∧ va_D (va_A [(X8ini_q65, .inr (8, [.null, .null, .null, .null, .null, .null, .null, .int 0, .int 0, .int 0, .int 0, .int 0]))] sz) [(X8ini_q65, .inr (8, [.ref X8ini_q50, .ref X6ini_q13, .ref X6ini_q22, .ref X6ini_q31, .ref X6ini_q40, .ref X6ini_q49, .ref X6ini_q57, .int (0 : Int32), .int (0 : Int32), .int (-1 : Int32), .int (0 : Int32), .int (0 : Int32)])), (X6ini_q13, .inl (X6ini_c13, 128, .inr (.inl (fun _ => 0)))), (X6ini_q22, .inl (X6ini_c22, 128, .inl (fun _ => 0))), (X6ini_q31, .inl (X6ini_c31, 128, .inl (fun _ => 0))), (X6ini_q40, .inl (X6ini_c40, 128, .inl (fun _ => 0))), (X6ini_q49, .inl (X6ini_c49, 128, .inl (fun _ => 0))), (X6ini_q57, .inl (X6ini_c57, 16, .inr (.inl (fun _ => 0))))]) (va_A [(X8ini_q65, .inr (8, [.null, .null, .null, .null, .null, .null, .null, .int 0, .int 0, .int 0, .int 0, .int 0]))] sz)) 6 656 (va_A [(X8ini_q65, .inr (8, [.null, .null, .null, .null, .null, .null, .null, .int 0, .int 0, .int 0, .int 0, .int 0]))] sz) := by
  refine Met.ofW (cc := cX6_init) (maxL := 2) (ret := none) (by decide) rfl ?_
  intro p e s m args below meth c s₁ B hml hv
  obtain ⟨rfl, hsz, hP, hK, hD0⟩ := hv
  have hx := B.exec
  have hb := B.bytes
  have hr := B.returns
  have hts := atoms_spec (ws := wsX6_init) B.pre
  have hown : s.vm.findClass RX6 = some m.cls := findClass_of_methodNamed B.named
  have hlocks := B.notSynchronized
  have hin : meth.name = "<init>" := (name_of_methodNamed B.named B.method).1
  subst hsz
  have hD := hD0.self (sz := s.heap.size)
  generalize hAe : va_A [(X8ini_q65, .inr (8, [.null, .null, .null, .null, .null, .null, .null, .int 0, .int 0, .int 0, .int 0, .int 0]))] s.heap.size = A at hD ⊢
  have hA : ∀ q : Nat, s.heap.size ≤ q → A q := fun q h => by rw [← hAe]; exact Or.inr h
  have hS : va_S A s.heap s.heap [] := va_S.rf
  have hl := lv_entry ([.ref X8ini_q65, .ref X8ini_q50]) (n := 2) (Nat.le_of_ble_eq_true rfl)
  rw [lg_entry_eq]
  generalize (lg_sl ([.ref X8ini_q65, .ref X8ini_q50]) ++ List.replicate (2 - (lg_sl ([.ref X8ini_q65, .ref X8ini_q50])).length) Slot.unset).toArray = ls at hl ⊢
  have hl : lv_has ls 2 [(0, .ref X8ini_q65), (1, .ref X8ini_q50)] := hl
  refine lv_aload_n hx hb dX6_init_0 rfl (lv_at hl 0 rfl) ?_
  refine W.objInit hx hb hown (hts (.methodLink RX6 3 objectInit) (by decide +kernel)) (hts (.instanceMethod objectInit) (by decide +kernel)) (hts (.code objectInit ⟨#[0xb1]⟩ 1 none) (by decide +kernel)) rfl (by rw [hml]; exact hl.1) rfl dX6_init_1 (Nat.le_of_ble_eq_true rfl) (Nat.le_of_ble_eq_true rfl) ?_
  refine W.eq (g2 := F0 m 4 ls []) rfl ?_
  refine lv_aload_n hx hb dX6_init_4 rfl (lv_at hl 0 rfl) ?_
  refine lv_aload_n hx hb dX6_init_5 rfl (lv_at hl 1 rfl) ?_
  refine va_putF (D := (dC, dI)) (ci := 8) (v := .ref X8ini_q50) (ty := (.object "BlockLog$Rows")) (C := RX6) (T := TX6) (N := 12) hx hb hts (by decide +kernel) tyX6 tyX6_ok nmX6 hown hK hP hD hS 0 rfl rfl 0 (by decide) (hts (.fieldLink RX6 9 "BlockLog$Story" "rows" "LBlockLog$Rows;") (by decide +kernel)) (fun _ h9 => h9) rfl hin rfl (by decide +kernel) rfl rfl (Nat.le_of_ble_eq_true rfl) dX6_init_6 (fun H locs hP hD hS => ?_)
  have hP : va_P (dC, dI) vwCl [(X8ini_q65, .inr (8, [.ref X8ini_q50, .null, .null, .null, .null, .null, .null, .int 0, .int 0, .int 0, .int 0, .int 0]))] H := hP
  have hD : va_D A [(X8ini_q65, .inr (8, [.ref X8ini_q50, .null, .null, .null, .null, .null, .null, .int 0, .int 0, .int 0, .int 0, .int 0]))] := hD
  refine lv_aload_n hx hb dX6_init_9 rfl (lv_at hl 0 rfl) ?_
  refine lv_sipush (v := 128) hx hb dX6_init_10 (by decide) ?_
  refine va_newa (atype := .long) (ty := .long) (n := 128) (N' := 128) (a0 := (128, .inr (.inl (fun _ => 0)))) hx hb (hts (.arrayClass .long) (by decide +kernel)) rfl hK hP hD hS hA (fun _ => rfl) (by decide +kernel) (by decide +kernel) (by decide +kernel) (Nat.le_of_ble_eq_true rfl) (Nat.le_of_ble_eq_true rfl) dX6_init_13 (fun X6ini_q13 X6ini_c13 H hK hP hD hS => ?_)
  have hP : va_P (dC, dI) vwCl [(X8ini_q65, .inr (8, [.ref X8ini_q50, .null, .null, .null, .null, .null, .null, .int 0, .int 0, .int 0, .int 0, .int 0])), (X6ini_q13, .inl (X6ini_c13, 128, .inr (.inl (fun _ => 0))))] H := hP
  have hD : va_D A [(X8ini_q65, .inr (8, [.ref X8ini_q50, .null, .null, .null, .null, .null, .null, .int 0, .int 0, .int 0, .int 0, .int 0])), (X6ini_q13, .inl (X6ini_c13, 128, .inr (.inl (fun _ => 0))))] := hD
  have hK : va_K (dC, dI) vwCl [(X6ini_c13, .long)] s := hK
  refine va_putF (D := (dC, dI)) (ci := 8) (v := .ref X6ini_q13) (ty := (.array .long)) (C := RX6) (T := TX6) (N := 12) hx hb hts (by decide +kernel) tyX6 tyX6_ok nmX6 hown hK hP hD hS 0 rfl rfl 1 (by decide) (hts (.fieldLink RX6 15 "BlockLog$Story" "digests" "[J") (by decide +kernel)) (fun _ h9 => h9) rfl hin rfl (by decide +kernel) rfl rfl (Nat.le_of_ble_eq_true rfl) dX6_init_15 (fun H locs hP hD hS => ?_)
  have hP : va_P (dC, dI) vwCl [(X8ini_q65, .inr (8, [.ref X8ini_q50, .ref X6ini_q13, .null, .null, .null, .null, .null, .int 0, .int 0, .int 0, .int 0, .int 0])), (X6ini_q13, .inl (X6ini_c13, 128, .inr (.inl (fun _ => 0))))] H := hP
  have hD : va_D A [(X8ini_q65, .inr (8, [.ref X8ini_q50, .ref X6ini_q13, .null, .null, .null, .null, .null, .int 0, .int 0, .int 0, .int 0, .int 0])), (X6ini_q13, .inl (X6ini_c13, 128, .inr (.inl (fun _ => 0))))] := hD
  refine lv_aload_n hx hb dX6_init_18 rfl (lv_at hl 0 rfl) ?_
  refine lv_sipush (v := 128) hx hb dX6_init_19 (by decide) ?_
  refine va_newa (atype := .boolean) (ty := .boolean) (n := 128) (N' := 128) (a0 := (128, .inl (fun _ => 0))) hx hb (hts (.arrayClass .boolean) (by decide +kernel)) rfl hK hP hD hS hA (fun _ => rfl) (by decide +kernel) (by decide +kernel) (by decide +kernel) (Nat.le_of_ble_eq_true rfl) (Nat.le_of_ble_eq_true rfl) dX6_init_22 (fun X6ini_q22 X6ini_c22 H hK hP hD hS => ?_)
  have hP : va_P (dC, dI) vwCl [(X8ini_q65, .inr (8, [.ref X8ini_q50, .ref X6ini_q13, .null, .null, .null, .null, .null, .int 0, .int 0, .int 0, .int 0, .int 0])), (X6ini_q13, .inl (X6ini_c13, 128, .inr (.inl (fun _ => 0)))), (X6ini_q22, .inl (X6ini_c22, 128, .inl (fun _ => 0)))] H := hP
  have hD : va_D A [(X8ini_q65, .inr (8, [.ref X8ini_q50, .ref X6ini_q13, .null, .null, .null, .null, .null, .int 0, .int 0, .int 0, .int 0, .int 0])), (X6ini_q13, .inl (X6ini_c13, 128, .inr (.inl (fun _ => 0)))), (X6ini_q22, .inl (X6ini_c22, 128, .inl (fun _ => 0)))] := hD
  have hK : va_K (dC, dI) vwCl [(X6ini_c13, .long), (X6ini_c22, .boolean)] s := hK
  refine va_putF (D := (dC, dI)) (ci := 8) (v := .ref X6ini_q22) (ty := (.array .boolean)) (C := RX6) (T := TX6) (N := 12) hx hb hts (by decide +kernel) tyX6 tyX6_ok nmX6 hown hK hP hD hS 0 rfl rfl 2 (by decide) (hts (.fieldLink RX6 19 "BlockLog$Story" "isBlock" "[Z") (by decide +kernel)) (fun _ h9 => h9) rfl hin rfl (by decide +kernel) rfl rfl (Nat.le_of_ble_eq_true rfl) dX6_init_24 (fun H locs hP hD hS => ?_)
  have hP : va_P (dC, dI) vwCl [(X8ini_q65, .inr (8, [.ref X8ini_q50, .ref X6ini_q13, .ref X6ini_q22, .null, .null, .null, .null, .int 0, .int 0, .int 0, .int 0, .int 0])), (X6ini_q13, .inl (X6ini_c13, 128, .inr (.inl (fun _ => 0)))), (X6ini_q22, .inl (X6ini_c22, 128, .inl (fun _ => 0)))] H := hP
  have hD : va_D A [(X8ini_q65, .inr (8, [.ref X8ini_q50, .ref X6ini_q13, .ref X6ini_q22, .null, .null, .null, .null, .int 0, .int 0, .int 0, .int 0, .int 0])), (X6ini_q13, .inl (X6ini_c13, 128, .inr (.inl (fun _ => 0)))), (X6ini_q22, .inl (X6ini_c22, 128, .inl (fun _ => 0)))] := hD
  refine lv_aload_n hx hb dX6_init_27 rfl (lv_at hl 0 rfl) ?_
  refine lv_sipush (v := 128) hx hb dX6_init_28 (by decide) ?_
  refine va_newa (atype := .boolean) (ty := .boolean) (n := 128) (N' := 128) (a0 := (128, .inl (fun _ => 0))) hx hb (hts (.arrayClass .boolean) (by decide +kernel)) rfl hK hP hD hS hA (fun _ => rfl) (by decide +kernel) (by decide +kernel) (by decide +kernel) (Nat.le_of_ble_eq_true rfl) (Nat.le_of_ble_eq_true rfl) dX6_init_31 (fun X6ini_q31 X6ini_c31 H hK hP hD hS => ?_)
  have hP : va_P (dC, dI) vwCl [(X8ini_q65, .inr (8, [.ref X8ini_q50, .ref X6ini_q13, .ref X6ini_q22, .null, .null, .null, .null, .int 0, .int 0, .int 0, .int 0, .int 0])), (X6ini_q13, .inl (X6ini_c13, 128, .inr (.inl (fun _ => 0)))), (X6ini_q22, .inl (X6ini_c22, 128, .inl (fun _ => 0))), (X6ini_q31, .inl (X6ini_c31, 128, .inl (fun _ => 0)))] H := hP
  have hD : va_D A [(X8ini_q65, .inr (8, [.ref X8ini_q50, .ref X6ini_q13, .ref X6ini_q22, .null, .null, .null, .null, .int 0, .int 0, .int 0, .int 0, .int 0])), (X6ini_q13, .inl (X6ini_c13, 128, .inr (.inl (fun _ => 0)))), (X6ini_q22, .inl (X6ini_c22, 128, .inl (fun _ => 0))), (X6ini_q31, .inl (X6ini_c31, 128, .inl (fun _ => 0)))] := hD
  have hK : va_K (dC, dI) vwCl [(X6ini_c13, .long), (X6ini_c22, .boolean), (X6ini_c31, .boolean)] s := hK
  refine va_putF (D := (dC, dI)) (ci := 8) (v := .ref X6ini_q31) (ty := (.array .boolean)) (C := RX6) (T := TX6) (N := 12) hx hb hts (by decide +kernel) tyX6 tyX6_ok nmX6 hown hK hP hD hS 0 rfl rfl 3 (by decide) (hts (.fieldLink RX6 23 "BlockLog$Story" "inBlock" "[Z") (by decide +kernel)) (fun _ h9 => h9) rfl hin rfl (by decide +kernel) rfl rfl (Nat.le_of_ble_eq_true rfl) dX6_init_33 (fun H locs hP hD hS => ?_)
  have hP : va_P (dC, dI) vwCl [(X8ini_q65, .inr (8, [.ref X8ini_q50, .ref X6ini_q13, .ref X6ini_q22, .ref X6ini_q31, .null, .null, .null, .int 0, .int 0, .int 0, .int 0, .int 0])), (X6ini_q13, .inl (X6ini_c13, 128, .inr (.inl (fun _ => 0)))), (X6ini_q22, .inl (X6ini_c22, 128, .inl (fun _ => 0))), (X6ini_q31, .inl (X6ini_c31, 128, .inl (fun _ => 0)))] H := hP
  have hD : va_D A [(X8ini_q65, .inr (8, [.ref X8ini_q50, .ref X6ini_q13, .ref X6ini_q22, .ref X6ini_q31, .null, .null, .null, .int 0, .int 0, .int 0, .int 0, .int 0])), (X6ini_q13, .inl (X6ini_c13, 128, .inr (.inl (fun _ => 0)))), (X6ini_q22, .inl (X6ini_c22, 128, .inl (fun _ => 0))), (X6ini_q31, .inl (X6ini_c31, 128, .inl (fun _ => 0)))] := hD
  refine lv_aload_n hx hb dX6_init_36 rfl (lv_at hl 0 rfl) ?_
  refine lv_sipush (v := 128) hx hb dX6_init_37 (by decide) ?_
  refine va_newa (atype := .boolean) (ty := .boolean) (n := 128) (N' := 128) (a0 := (128, .inl (fun _ => 0))) hx hb (hts (.arrayClass .boolean) (by decide +kernel)) rfl hK hP hD hS hA (fun _ => rfl) (by decide +kernel) (by decide +kernel) (by decide +kernel) (Nat.le_of_ble_eq_true rfl) (Nat.le_of_ble_eq_true rfl) dX6_init_40 (fun X6ini_q40 X6ini_c40 H hK hP hD hS => ?_)
  have hP : va_P (dC, dI) vwCl [(X8ini_q65, .inr (8, [.ref X8ini_q50, .ref X6ini_q13, .ref X6ini_q22, .ref X6ini_q31, .null, .null, .null, .int 0, .int 0, .int 0, .int 0, .int 0])), (X6ini_q13, .inl (X6ini_c13, 128, .inr (.inl (fun _ => 0)))), (X6ini_q22, .inl (X6ini_c22, 128, .inl (fun _ => 0))), (X6ini_q31, .inl (X6ini_c31, 128, .inl (fun _ => 0))), (X6ini_q40, .inl (X6ini_c40, 128, .inl (fun _ => 0)))] H := hP
  have hD : va_D A [(X8ini_q65, .inr (8, [.ref X8ini_q50, .ref X6ini_q13, .ref X6ini_q22, .ref X6ini_q31, .null, .null, .null, .int 0, .int 0, .int 0, .int 0, .int 0])), (X6ini_q13, .inl (X6ini_c13, 128, .inr (.inl (fun _ => 0)))), (X6ini_q22, .inl (X6ini_c22, 128, .inl (fun _ => 0))), (X6ini_q31, .inl (X6ini_c31, 128, .inl (fun _ => 0))), (X6ini_q40, .inl (X6ini_c40, 128, .inl (fun _ => 0)))] := hD
  have hK : va_K (dC, dI) vwCl [(X6ini_c13, .long), (X6ini_c22, .boolean), (X6ini_c31, .boolean), (X6ini_c40, .boolean)] s := hK
  refine va_putF (D := (dC, dI)) (ci := 8) (v := .ref X6ini_q40) (ty := (.array .boolean)) (C := RX6) (T := TX6) (N := 12) hx hb hts (by decide +kernel) tyX6 tyX6_ok nmX6 hown hK hP hD hS 0 rfl rfl 4 (by decide) (hts (.fieldLink RX6 26 "BlockLog$Story" "fits" "[Z") (by decide +kernel)) (fun _ h9 => h9) rfl hin rfl (by decide +kernel) rfl rfl (Nat.le_of_ble_eq_true rfl) dX6_init_42 (fun H locs hP hD hS => ?_)
  have hP : va_P (dC, dI) vwCl [(X8ini_q65, .inr (8, [.ref X8ini_q50, .ref X6ini_q13, .ref X6ini_q22, .ref X6ini_q31, .ref X6ini_q40, .null, .null, .int 0, .int 0, .int 0, .int 0, .int 0])), (X6ini_q13, .inl (X6ini_c13, 128, .inr (.inl (fun _ => 0)))), (X6ini_q22, .inl (X6ini_c22, 128, .inl (fun _ => 0))), (X6ini_q31, .inl (X6ini_c31, 128, .inl (fun _ => 0))), (X6ini_q40, .inl (X6ini_c40, 128, .inl (fun _ => 0)))] H := hP
  have hD : va_D A [(X8ini_q65, .inr (8, [.ref X8ini_q50, .ref X6ini_q13, .ref X6ini_q22, .ref X6ini_q31, .ref X6ini_q40, .null, .null, .int 0, .int 0, .int 0, .int 0, .int 0])), (X6ini_q13, .inl (X6ini_c13, 128, .inr (.inl (fun _ => 0)))), (X6ini_q22, .inl (X6ini_c22, 128, .inl (fun _ => 0))), (X6ini_q31, .inl (X6ini_c31, 128, .inl (fun _ => 0))), (X6ini_q40, .inl (X6ini_c40, 128, .inl (fun _ => 0)))] := hD
  refine lv_aload_n hx hb dX6_init_45 rfl (lv_at hl 0 rfl) ?_
  refine lv_sipush (v := 128) hx hb dX6_init_46 (by decide) ?_
  refine va_newa (atype := .int) (ty := .int) (n := 128) (N' := 128) (a0 := (128, .inl (fun _ => 0))) hx hb (hts (.arrayClass .int) (by decide +kernel)) rfl hK hP hD hS hA (fun _ => rfl) (by decide +kernel) (by decide +kernel) (by decide +kernel) (Nat.le_of_ble_eq_true rfl) (Nat.le_of_ble_eq_true rfl) dX6_init_49 (fun X6ini_q49 X6ini_c49 H hK hP hD hS => ?_)
  have hP : va_P (dC, dI) vwCl [(X8ini_q65, .inr (8, [.ref X8ini_q50, .ref X6ini_q13, .ref X6ini_q22, .ref X6ini_q31, .ref X6ini_q40, .null, .null, .int 0, .int 0, .int 0, .int 0, .int 0])), (X6ini_q13, .inl (X6ini_c13, 128, .inr (.inl (fun _ => 0)))), (X6ini_q22, .inl (X6ini_c22, 128, .inl (fun _ => 0))), (X6ini_q31, .inl (X6ini_c31, 128, .inl (fun _ => 0))), (X6ini_q40, .inl (X6ini_c40, 128, .inl (fun _ => 0))), (X6ini_q49, .inl (X6ini_c49, 128, .inl (fun _ => 0)))] H := hP
  have hD : va_D A [(X8ini_q65, .inr (8, [.ref X8ini_q50, .ref X6ini_q13, .ref X6ini_q22, .ref X6ini_q31, .ref X6ini_q40, .null, .null, .int 0, .int 0, .int 0, .int 0, .int 0])), (X6ini_q13, .inl (X6ini_c13, 128, .inr (.inl (fun _ => 0)))), (X6ini_q22, .inl (X6ini_c22, 128, .inl (fun _ => 0))), (X6ini_q31, .inl (X6ini_c31, 128, .inl (fun _ => 0))), (X6ini_q40, .inl (X6ini_c40, 128, .inl (fun _ => 0))), (X6ini_q49, .inl (X6ini_c49, 128, .inl (fun _ => 0)))] := hD
  have hK : va_K (dC, dI) vwCl [(X6ini_c13, .long), (X6ini_c22, .boolean), (X6ini_c31, .boolean), (X6ini_c40, .boolean), (X6ini_c49, .int)] s := hK
  refine va_putF (D := (dC, dI)) (ci := 8) (v := .ref X6ini_q49) (ty := (.array .int)) (C := RX6) (T := TX6) (N := 12) hx hb hts (by decide +kernel) tyX6 tyX6_ok nmX6 hown hK hP hD hS 0 rfl rfl 5 (by decide) (hts (.fieldLink RX6 29 "BlockLog$Story" "chain" "[I") (by decide +kernel)) (fun _ h9 => h9) rfl hin rfl (by decide +kernel) rfl rfl (Nat.le_of_ble_eq_true rfl) dX6_init_51 (fun H locs hP hD hS => ?_)
  have hP : va_P (dC, dI) vwCl [(X8ini_q65, .inr (8, [.ref X8ini_q50, .ref X6ini_q13, .ref X6ini_q22, .ref X6ini_q31, .ref X6ini_q40, .ref X6ini_q49, .null, .int 0, .int 0, .int 0, .int 0, .int 0])), (X6ini_q13, .inl (X6ini_c13, 128, .inr (.inl (fun _ => 0)))), (X6ini_q22, .inl (X6ini_c22, 128, .inl (fun _ => 0))), (X6ini_q31, .inl (X6ini_c31, 128, .inl (fun _ => 0))), (X6ini_q40, .inl (X6ini_c40, 128, .inl (fun _ => 0))), (X6ini_q49, .inl (X6ini_c49, 128, .inl (fun _ => 0)))] H := hP
  have hD : va_D A [(X8ini_q65, .inr (8, [.ref X8ini_q50, .ref X6ini_q13, .ref X6ini_q22, .ref X6ini_q31, .ref X6ini_q40, .ref X6ini_q49, .null, .int 0, .int 0, .int 0, .int 0, .int 0])), (X6ini_q13, .inl (X6ini_c13, 128, .inr (.inl (fun _ => 0)))), (X6ini_q22, .inl (X6ini_c22, 128, .inl (fun _ => 0))), (X6ini_q31, .inl (X6ini_c31, 128, .inl (fun _ => 0))), (X6ini_q40, .inl (X6ini_c40, 128, .inl (fun _ => 0))), (X6ini_q49, .inl (X6ini_c49, 128, .inl (fun _ => 0)))] := hD
  refine lv_aload_n hx hb dX6_init_54 rfl (lv_at hl 0 rfl) ?_
  refine lv_bipush (v := 16) hx hb dX6_init_55 (by decide) ?_
  refine va_newa (atype := .long) (ty := .long) (n := 16) (N' := 16) (a0 := (16, .inr (.inl (fun _ => 0)))) hx hb (hts (.arrayClass .long) (by decide +kernel)) rfl hK hP hD hS hA (fun _ => rfl) (by decide +kernel) (by decide +kernel) (by decide +kernel) (Nat.le_of_ble_eq_true rfl) (Nat.le_of_ble_eq_true rfl) dX6_init_57 (fun X6ini_q57 X6ini_c57 H hK hP hD hS => ?_)
  have hP : va_P (dC, dI) vwCl [(X8ini_q65, .inr (8, [.ref X8ini_q50, .ref X6ini_q13, .ref X6ini_q22, .ref X6ini_q31, .ref X6ini_q40, .ref X6ini_q49, .null, .int 0, .int 0, .int 0, .int 0, .int 0])), (X6ini_q13, .inl (X6ini_c13, 128, .inr (.inl (fun _ => 0)))), (X6ini_q22, .inl (X6ini_c22, 128, .inl (fun _ => 0))), (X6ini_q31, .inl (X6ini_c31, 128, .inl (fun _ => 0))), (X6ini_q40, .inl (X6ini_c40, 128, .inl (fun _ => 0))), (X6ini_q49, .inl (X6ini_c49, 128, .inl (fun _ => 0))), (X6ini_q57, .inl (X6ini_c57, 16, .inr (.inl (fun _ => 0))))] H := hP
  have hD : va_D A [(X8ini_q65, .inr (8, [.ref X8ini_q50, .ref X6ini_q13, .ref X6ini_q22, .ref X6ini_q31, .ref X6ini_q40, .ref X6ini_q49, .null, .int 0, .int 0, .int 0, .int 0, .int 0])), (X6ini_q13, .inl (X6ini_c13, 128, .inr (.inl (fun _ => 0)))), (X6ini_q22, .inl (X6ini_c22, 128, .inl (fun _ => 0))), (X6ini_q31, .inl (X6ini_c31, 128, .inl (fun _ => 0))), (X6ini_q40, .inl (X6ini_c40, 128, .inl (fun _ => 0))), (X6ini_q49, .inl (X6ini_c49, 128, .inl (fun _ => 0))), (X6ini_q57, .inl (X6ini_c57, 16, .inr (.inl (fun _ => 0))))] := hD
  have hK : va_K (dC, dI) vwCl [(X6ini_c13, .long), (X6ini_c22, .boolean), (X6ini_c31, .boolean), (X6ini_c40, .boolean), (X6ini_c49, .int), (X6ini_c57, .long)] s := hK
  refine va_putF (D := (dC, dI)) (ci := 8) (v := .ref X6ini_q57) (ty := (.array .long)) (C := RX6) (T := TX6) (N := 12) hx hb hts (by decide +kernel) tyX6 tyX6_ok nmX6 hown hK hP hD hS 0 rfl rfl 6 (by decide) (hts (.fieldLink RX6 33 "BlockLog$Story" "slots" "[J") (by decide +kernel)) (fun _ h9 => h9) rfl hin rfl (by decide +kernel) rfl rfl (Nat.le_of_ble_eq_true rfl) dX6_init_59 (fun H locs hP hD hS => ?_)
  have hP : va_P (dC, dI) vwCl [(X8ini_q65, .inr (8, [.ref X8ini_q50, .ref X6ini_q13, .ref X6ini_q22, .ref X6ini_q31, .ref X6ini_q40, .ref X6ini_q49, .ref X6ini_q57, .int 0, .int 0, .int 0, .int 0, .int 0])), (X6ini_q13, .inl (X6ini_c13, 128, .inr (.inl (fun _ => 0)))), (X6ini_q22, .inl (X6ini_c22, 128, .inl (fun _ => 0))), (X6ini_q31, .inl (X6ini_c31, 128, .inl (fun _ => 0))), (X6ini_q40, .inl (X6ini_c40, 128, .inl (fun _ => 0))), (X6ini_q49, .inl (X6ini_c49, 128, .inl (fun _ => 0))), (X6ini_q57, .inl (X6ini_c57, 16, .inr (.inl (fun _ => 0))))] H := hP
  have hD : va_D A [(X8ini_q65, .inr (8, [.ref X8ini_q50, .ref X6ini_q13, .ref X6ini_q22, .ref X6ini_q31, .ref X6ini_q40, .ref X6ini_q49, .ref X6ini_q57, .int 0, .int 0, .int 0, .int 0, .int 0])), (X6ini_q13, .inl (X6ini_c13, 128, .inr (.inl (fun _ => 0)))), (X6ini_q22, .inl (X6ini_c22, 128, .inl (fun _ => 0))), (X6ini_q31, .inl (X6ini_c31, 128, .inl (fun _ => 0))), (X6ini_q40, .inl (X6ini_c40, 128, .inl (fun _ => 0))), (X6ini_q49, .inl (X6ini_c49, 128, .inl (fun _ => 0))), (X6ini_q57, .inl (X6ini_c57, 16, .inr (.inl (fun _ => 0))))] := hD
  refine lv_aload_n hx hb dX6_init_62 rfl (lv_at hl 0 rfl) ?_
  refine lv_iconst (v := 0) hx hb dX6_init_63 (by decide) ?_
  refine va_put (D := (dC, dI)) (ci := 8) (v := .int (0 : Int32)) (ty := .int) (C := RX6) (T := TX6) (N := 12) hx hb hts (by decide +kernel) tyX6 tyX6_ok nmX6 hown hK hP hD hS 0 rfl rfl 7 (by decide) (hts (.fieldLink RX6 36 "BlockLog$Story" "heard" "I") (by decide +kernel)) (fun _ h9 => h9) rfl (by decide +kernel) rfl rfl (Nat.le_of_ble_eq_true rfl) dX6_init_64 (fun H locs hP hD hS => ?_)
  have hP : va_P (dC, dI) vwCl [(X8ini_q65, .inr (8, [.ref X8ini_q50, .ref X6ini_q13, .ref X6ini_q22, .ref X6ini_q31, .ref X6ini_q40, .ref X6ini_q49, .ref X6ini_q57, .int (0 : Int32), .int 0, .int 0, .int 0, .int 0])), (X6ini_q13, .inl (X6ini_c13, 128, .inr (.inl (fun _ => 0)))), (X6ini_q22, .inl (X6ini_c22, 128, .inl (fun _ => 0))), (X6ini_q31, .inl (X6ini_c31, 128, .inl (fun _ => 0))), (X6ini_q40, .inl (X6ini_c40, 128, .inl (fun _ => 0))), (X6ini_q49, .inl (X6ini_c49, 128, .inl (fun _ => 0))), (X6ini_q57, .inl (X6ini_c57, 16, .inr (.inl (fun _ => 0))))] H := hP
  have hD : va_D A [(X8ini_q65, .inr (8, [.ref X8ini_q50, .ref X6ini_q13, .ref X6ini_q22, .ref X6ini_q31, .ref X6ini_q40, .ref X6ini_q49, .ref X6ini_q57, .int (0 : Int32), .int 0, .int 0, .int 0, .int 0])), (X6ini_q13, .inl (X6ini_c13, 128, .inr (.inl (fun _ => 0)))), (X6ini_q22, .inl (X6ini_c22, 128, .inl (fun _ => 0))), (X6ini_q31, .inl (X6ini_c31, 128, .inl (fun _ => 0))), (X6ini_q40, .inl (X6ini_c40, 128, .inl (fun _ => 0))), (X6ini_q49, .inl (X6ini_c49, 128, .inl (fun _ => 0))), (X6ini_q57, .inl (X6ini_c57, 16, .inr (.inl (fun _ => 0))))] := hD
  refine lv_aload_n hx hb dX6_init_67 rfl (lv_at hl 0 rfl) ?_
  refine lv_iconst (v := 0) hx hb dX6_init_68 (by decide) ?_
  refine va_put (D := (dC, dI)) (ci := 8) (v := .int (0 : Int32)) (ty := .int) (C := RX6) (T := TX6) (N := 12) hx hb hts (by decide +kernel) tyX6 tyX6_ok nmX6 hown hK hP hD hS 0 rfl rfl 8 (by decide) (hts (.fieldLink RX6 40 "BlockLog$Story" "certified" "I") (by decide +kernel)) (fun _ h9 => h9) rfl (by decide +kernel) rfl rfl (Nat.le_of_ble_eq_true rfl) dX6_init_69 (fun H locs hP hD hS => ?_)
  have hP : va_P (dC, dI) vwCl [(X8ini_q65, .inr (8, [.ref X8ini_q50, .ref X6ini_q13, .ref X6ini_q22, .ref X6ini_q31, .ref X6ini_q40, .ref X6ini_q49, .ref X6ini_q57, .int (0 : Int32), .int (0 : Int32), .int 0, .int 0, .int 0])), (X6ini_q13, .inl (X6ini_c13, 128, .inr (.inl (fun _ => 0)))), (X6ini_q22, .inl (X6ini_c22, 128, .inl (fun _ => 0))), (X6ini_q31, .inl (X6ini_c31, 128, .inl (fun _ => 0))), (X6ini_q40, .inl (X6ini_c40, 128, .inl (fun _ => 0))), (X6ini_q49, .inl (X6ini_c49, 128, .inl (fun _ => 0))), (X6ini_q57, .inl (X6ini_c57, 16, .inr (.inl (fun _ => 0))))] H := hP
  have hD : va_D A [(X8ini_q65, .inr (8, [.ref X8ini_q50, .ref X6ini_q13, .ref X6ini_q22, .ref X6ini_q31, .ref X6ini_q40, .ref X6ini_q49, .ref X6ini_q57, .int (0 : Int32), .int (0 : Int32), .int 0, .int 0, .int 0])), (X6ini_q13, .inl (X6ini_c13, 128, .inr (.inl (fun _ => 0)))), (X6ini_q22, .inl (X6ini_c22, 128, .inl (fun _ => 0))), (X6ini_q31, .inl (X6ini_c31, 128, .inl (fun _ => 0))), (X6ini_q40, .inl (X6ini_c40, 128, .inl (fun _ => 0))), (X6ini_q49, .inl (X6ini_c49, 128, .inl (fun _ => 0))), (X6ini_q57, .inl (X6ini_c57, 16, .inr (.inl (fun _ => 0))))] := hD
  refine lv_aload_n hx hb dX6_init_72 rfl (lv_at hl 0 rfl) ?_
  refine lv_iconst (v := (-1)) hx hb dX6_init_73 (by decide) ?_
  refine va_put (D := (dC, dI)) (ci := 8) (v := .int (-1 : Int32)) (ty := .int) (C := RX6) (T := TX6) (N := 12) hx hb hts (by decide +kernel) tyX6 tyX6_ok nmX6 hown hK hP hD hS 0 rfl rfl 9 (by decide) (hts (.fieldLink RX6 43 "BlockLog$Story" "lastVote" "I") (by decide +kernel)) (fun _ h9 => h9) rfl (by decide +kernel) rfl rfl (Nat.le_of_ble_eq_true rfl) dX6_init_74 (fun H locs hP hD hS => ?_)
  have hP : va_P (dC, dI) vwCl [(X8ini_q65, .inr (8, [.ref X8ini_q50, .ref X6ini_q13, .ref X6ini_q22, .ref X6ini_q31, .ref X6ini_q40, .ref X6ini_q49, .ref X6ini_q57, .int (0 : Int32), .int (0 : Int32), .int (-1 : Int32), .int 0, .int 0])), (X6ini_q13, .inl (X6ini_c13, 128, .inr (.inl (fun _ => 0)))), (X6ini_q22, .inl (X6ini_c22, 128, .inl (fun _ => 0))), (X6ini_q31, .inl (X6ini_c31, 128, .inl (fun _ => 0))), (X6ini_q40, .inl (X6ini_c40, 128, .inl (fun _ => 0))), (X6ini_q49, .inl (X6ini_c49, 128, .inl (fun _ => 0))), (X6ini_q57, .inl (X6ini_c57, 16, .inr (.inl (fun _ => 0))))] H := hP
  have hD : va_D A [(X8ini_q65, .inr (8, [.ref X8ini_q50, .ref X6ini_q13, .ref X6ini_q22, .ref X6ini_q31, .ref X6ini_q40, .ref X6ini_q49, .ref X6ini_q57, .int (0 : Int32), .int (0 : Int32), .int (-1 : Int32), .int 0, .int 0])), (X6ini_q13, .inl (X6ini_c13, 128, .inr (.inl (fun _ => 0)))), (X6ini_q22, .inl (X6ini_c22, 128, .inl (fun _ => 0))), (X6ini_q31, .inl (X6ini_c31, 128, .inl (fun _ => 0))), (X6ini_q40, .inl (X6ini_c40, 128, .inl (fun _ => 0))), (X6ini_q49, .inl (X6ini_c49, 128, .inl (fun _ => 0))), (X6ini_q57, .inl (X6ini_c57, 16, .inr (.inl (fun _ => 0))))] := hD
  refine lv_aload_n hx hb dX6_init_77 rfl (lv_at hl 0 rfl) ?_
  refine lv_iconst (v := 0) hx hb dX6_init_78 (by decide) ?_
  refine va_put (D := (dC, dI)) (ci := 8) (v := .int (0 : Int32)) (ty := .boolean) (C := RX6) (T := TX6) (N := 12) hx hb hts (by decide +kernel) tyX6 tyX6_ok nmX6 hown hK hP hD hS 0 rfl rfl 10 (by decide) (hts (.fieldLink RX6 46 "BlockLog$Story" "based" "Z") (by decide +kernel)) (fun _ h9 => h9) rfl (by decide +kernel) rfl rfl (Nat.le_of_ble_eq_true rfl) dX6_init_79 (fun H locs hP hD hS => ?_)
  have hP : va_P (dC, dI) vwCl [(X8ini_q65, .inr (8, [.ref X8ini_q50, .ref X6ini_q13, .ref X6ini_q22, .ref X6ini_q31, .ref X6ini_q40, .ref X6ini_q49, .ref X6ini_q57, .int (0 : Int32), .int (0 : Int32), .int (-1 : Int32), .int (0 : Int32), .int 0])), (X6ini_q13, .inl (X6ini_c13, 128, .inr (.inl (fun _ => 0)))), (X6ini_q22, .inl (X6ini_c22, 128, .inl (fun _ => 0))), (X6ini_q31, .inl (X6ini_c31, 128, .inl (fun _ => 0))), (X6ini_q40, .inl (X6ini_c40, 128, .inl (fun _ => 0))), (X6ini_q49, .inl (X6ini_c49, 128, .inl (fun _ => 0))), (X6ini_q57, .inl (X6ini_c57, 16, .inr (.inl (fun _ => 0))))] H := hP
  have hD : va_D A [(X8ini_q65, .inr (8, [.ref X8ini_q50, .ref X6ini_q13, .ref X6ini_q22, .ref X6ini_q31, .ref X6ini_q40, .ref X6ini_q49, .ref X6ini_q57, .int (0 : Int32), .int (0 : Int32), .int (-1 : Int32), .int (0 : Int32), .int 0])), (X6ini_q13, .inl (X6ini_c13, 128, .inr (.inl (fun _ => 0)))), (X6ini_q22, .inl (X6ini_c22, 128, .inl (fun _ => 0))), (X6ini_q31, .inl (X6ini_c31, 128, .inl (fun _ => 0))), (X6ini_q40, .inl (X6ini_c40, 128, .inl (fun _ => 0))), (X6ini_q49, .inl (X6ini_c49, 128, .inl (fun _ => 0))), (X6ini_q57, .inl (X6ini_c57, 16, .inr (.inl (fun _ => 0))))] := hD
  refine lv_aload_n hx hb dX6_init_82 rfl (lv_at hl 0 rfl) ?_
  refine lv_iconst (v := 0) hx hb dX6_init_83 (by decide) ?_
  refine va_put (D := (dC, dI)) (ci := 8) (v := .int (0 : Int32)) (ty := .int) (C := RX6) (T := TX6) (N := 12) hx hb hts (by decide +kernel) tyX6 tyX6_ok nmX6 hown hK hP hD hS 0 rfl rfl 11 (by decide) (hts (.fieldLink RX6 50 "BlockLog$Story" "baseHeight" "I") (by decide +kernel)) (fun _ h9 => h9) rfl (by decide +kernel) rfl rfl (Nat.le_of_ble_eq_true rfl) dX6_init_84 (fun H locs hP hD hS => ?_)
  have hP : va_P (dC, dI) vwCl [(X8ini_q65, .inr (8, [.ref X8ini_q50, .ref X6ini_q13, .ref X6ini_q22, .ref X6ini_q31, .ref X6ini_q40, .ref X6ini_q49, .ref X6ini_q57, .int (0 : Int32), .int (0 : Int32), .int (-1 : Int32), .int (0 : Int32), .int (0 : Int32)])), (X6ini_q13, .inl (X6ini_c13, 128, .inr (.inl (fun _ => 0)))), (X6ini_q22, .inl (X6ini_c22, 128, .inl (fun _ => 0))), (X6ini_q31, .inl (X6ini_c31, 128, .inl (fun _ => 0))), (X6ini_q40, .inl (X6ini_c40, 128, .inl (fun _ => 0))), (X6ini_q49, .inl (X6ini_c49, 128, .inl (fun _ => 0))), (X6ini_q57, .inl (X6ini_c57, 16, .inr (.inl (fun _ => 0))))] H := hP
  have hD : va_D A [(X8ini_q65, .inr (8, [.ref X8ini_q50, .ref X6ini_q13, .ref X6ini_q22, .ref X6ini_q31, .ref X6ini_q40, .ref X6ini_q49, .ref X6ini_q57, .int (0 : Int32), .int (0 : Int32), .int (-1 : Int32), .int (0 : Int32), .int (0 : Int32)])), (X6ini_q13, .inl (X6ini_c13, 128, .inr (.inl (fun _ => 0)))), (X6ini_q22, .inl (X6ini_c22, 128, .inl (fun _ => 0))), (X6ini_q31, .inl (X6ini_c31, 128, .inl (fun _ => 0))), (X6ini_q40, .inl (X6ini_c40, 128, .inl (fun _ => 0))), (X6ini_q49, .inl (X6ini_c49, 128, .inl (fun _ => 0))), (X6ini_q57, .inl (X6ini_c57, 16, .inr (.inl (fun _ => 0))))] := hD
  have hP := hP.sub (ws' := [(X8ini_q65, .inr (8, [.ref X8ini_q50, .ref X6ini_q13, .ref X6ini_q22, .ref X6ini_q31, .ref X6ini_q40, .ref X6ini_q49, .ref X6ini_q57, .int (0 : Int32), .int (0 : Int32), .int (-1 : Int32), .int (0 : Int32), .int (0 : Int32)])), (X6ini_q13, .inl (X6ini_c13, 128, .inr (.inl (fun _ => 0)))), (X6ini_q22, .inl (X6ini_c22, 128, .inl (fun _ => 0))), (X6ini_q31, .inl (X6ini_c31, 128, .inl (fun _ => 0))), (X6ini_q40, .inl (X6ini_c40, 128, .inl (fun _ => 0))), (X6ini_q49, .inl (X6ini_c49, 128, .inl (fun _ => 0))), (X6ini_q57, .inl (X6ini_c57, 16, .inr (.inl (fun _ => 0))))]) [0, 1, 2, 3, 4, 5, 6] rfl
  have hD := hD.sub (ws' := [(X8ini_q65, .inr (8, [.ref X8ini_q50, .ref X6ini_q13, .ref X6ini_q22, .ref X6ini_q31, .ref X6ini_q40, .ref X6ini_q49, .ref X6ini_q57, .int (0 : Int32), .int (0 : Int32), .int (-1 : Int32), .int (0 : Int32), .int (0 : Int32)])), (X6ini_q13, .inl (X6ini_c13, 128, .inr (.inl (fun _ => 0)))), (X6ini_q22, .inl (X6ini_c22, 128, .inl (fun _ => 0))), (X6ini_q31, .inl (X6ini_c31, 128, .inl (fun _ => 0))), (X6ini_q40, .inl (X6ini_c40, 128, .inl (fun _ => 0))), (X6ini_q49, .inl (X6ini_c49, 128, .inl (fun _ => 0))), (X6ini_q57, .inl (X6ini_c57, 16, .inr (.inl (fun _ => 0))))]) [0, 1, 2, 3, 4, 5, 6] (by decide) rfl
  have hK := hK.sub (tys' := [(X6ini_c13, .long), (X6ini_c22, .boolean), (X6ini_c31, .boolean), (X6ini_c40, .boolean), (X6ini_c49, .int), (X6ini_c57, .long)]) [0, 1, 2, 3, 4, 5] rfl
  exact W.vret hx hb hr (fun t ht hW => ⟨⟨(), rfl, trivial, X6ini_q13, X6ini_q22, X6ini_q31, X6ini_q40, X6ini_q49, X6ini_q57, X6ini_c13, X6ini_c22, X6ini_c31, X6ini_c40, X6ini_c49, X6ini_c57, by rw [ht]; exact hP, va_K.moved hW.alike hK, hD⟩, hS.F ht⟩) hS.2.2 dX6_init_87
set_option maxHeartbeats 4000000 in
set_option maxRecDepth 100000 in
theorem k_X3_init_1 (l : Launch) (dC : Nat → ClassId) (dI : Nat → Nat → Nat) (X8ini_q80 : Nat) (X8ini_q38 : Nat) (X8ini_q50 : Nat) (X8ini_q65 : Nat) (sz : Nat)  : Met l yX3_init wsX3_init ({ frames := 1, cells := 1, slots := 128, locals := 20 }) (va_Pc [.ref X8ini_q80, .ref X8ini_q38, .ref X8ini_q50, .ref X8ini_q65] (fun U => U.heap.size = sz ∧ va_P (dC, dI) vwCl [(X8ini_q80, .inr (5, [.null, .null, .null, .null]))] U.heap ∧ va_K (dC, dI) vwCl [] U ∧ va_D (fun _ => True) [(X8ini_q80, .inr (5, [.null, .null, .null, .null]))])) (va_Qv (fun (_ : Unit) => True) (fun (_ : Unit) t => ∃ (X3ini_q23 : Nat) (X3ini_c23 : ClassId), va_P (dC, dI) vwCl [(X8ini_q80, .inr (5, [.ref X8ini_q38, .ref X8ini_q50, .ref X8ini_q65, .ref X3ini_q23])), (X3ini_q23, .inl (X3ini_c23, 128, .inl (fun _ => 0)))] t.heap ∧ va_K (dC, dI) vwCl [(X3ini_c23, .boolean)] t ∧ va_D (va_A [(X8ini_q80, .inr (5, [.null, .null, .null, .null]))] sz) [(X8ini_q80, .inr (5, [.ref X8ini_q38, .ref X8ini_q50, .ref X8ini_q65, .ref X3ini_q23])), (X3ini_q23, .inl (X3ini_c23, 128, .inl (fun _ => 0)))]) (va_A [(X8ini_q80, .inr (5, [.null, .null, .null, .null]))] sz)) 1 128 (va_A [(X8ini_q80, .inr (5, [.null, .null, .null, .null]))] sz) := by
  refine Met.ofW (cc := cX3_init) (maxL := 4) (ret := none) (by decide) rfl ?_
  intro p e s m args below meth c s₁ B hml hv
  obtain ⟨rfl, hsz, hP, hK, hD0⟩ := hv
  have hx := B.exec
  have hb := B.bytes
  have hr := B.returns
  have hts := atoms_spec (ws := wsX3_init) B.pre
  have hown : s.vm.findClass RX3 = some m.cls := findClass_of_methodNamed B.named
  have hlocks := B.notSynchronized
  have hin : meth.name = "<init>" := (name_of_methodNamed B.named B.method).1
  subst hsz
  have hD := hD0.self (sz := s.heap.size)
  generalize hAe : va_A [(X8ini_q80, .inr (5, [.null, .null, .null, .null]))] s.heap.size = A at hD ⊢
  have hA : ∀ q : Nat, s.heap.size ≤ q → A q := fun q h => by rw [← hAe]; exact Or.inr h
  have hS : va_S A s.heap s.heap [] := va_S.rf
  have hl := lv_entry ([.ref X8ini_q80, .ref X8ini_q38, .ref X8ini_q50, .ref X8ini_q65]) (n := 4) (Nat.le_of_ble_eq_true rfl)
  rw [lg_entry_eq]
  generalize (lg_sl ([.ref X8ini_q80, .ref X8ini_q38, .ref X8ini_q50, .ref X8ini_q65]) ++ List.replicate (4 - (lg_sl ([.ref X8ini_q80, .ref X8ini_q38, .ref X8ini_q50, .ref X8ini_q65])).length) Slot.unset).toArray = ls at hl ⊢
  have hl : lv_has ls 4 [(0, .ref X8ini_q80), (1, .ref X8ini_q38), (2, .ref X8ini_q50), (3, .ref X8ini_q65)] := hl
  refine lv_aload_n hx hb dX3_init_0 rfl (lv_at hl 0 rfl) ?_
  refine W.objInit hx hb hown (hts (.methodLink RX3 3 objectInit) (by decide +kernel)) (hts (.instanceMethod objectInit) (by decide +kernel)) (hts (.code objectInit ⟨#[0xb1]⟩ 1 none) (by decide +kernel)) rfl (by rw [hml]; exact hl.1) rfl dX3_init_1 (Nat.le_of_ble_eq_true rfl) (Nat.le_of_ble_eq_true rfl) ?_
  refine W.eq (g2 := F0 m 4 ls []) rfl ?_
  refine lv_aload_n hx hb dX3_init_4 rfl (lv_at hl 0 rfl) ?_
  refine lv_aload_n hx hb dX3_init_5 rfl (lv_at hl 1 rfl) ?_
  refine va_putF (D := (dC, dI)) (ci := 5) (v := .ref X8ini_q38) (ty := (.object "BlockLog$Disk")) (C := RX3) (T := TX3) (N := 4) hx hb hts (by decide +kernel) tyX3 tyX3_ok nmX3 hown hK hP hD hS 0 rfl rfl 0 (by decide) (hts (.fieldLink RX3 9 "BlockLog$Pruning" "disk" "LBlockLog$Disk;") (by decide +kernel)) (fun _ h9 => h9) rfl hin rfl (by decide +kernel) rfl rfl (Nat.le_of_ble_eq_true rfl) dX3_init_6 (fun H locs hP hD hS => ?_)
  have hP : va_P (dC, dI) vwCl [(X8ini_q80, .inr (5, [.ref X8ini_q38, .null, .null, .null]))] H := hP
  have hD : va_D A [(X8ini_q80, .inr (5, [.ref X8ini_q38, .null, .null, .null]))] := hD
  refine lv_aload_n hx hb dX3_init_9 rfl (lv_at hl 0 rfl) ?_
  refine lv_aload_n hx hb dX3_init_10 rfl (lv_at hl 2 rfl) ?_
  refine va_putF (D := (dC, dI)) (ci := 5) (v := .ref X8ini_q50) (ty := (.object "BlockLog$Rows")) (C := RX3) (T := TX3) (N := 4) hx hb hts (by decide +kernel) tyX3 tyX3_ok nmX3 hown hK hP hD hS 0 rfl rfl 1 (by decide) (hts (.fieldLink RX3 15 "BlockLog$Pruning" "rows" "LBlockLog$Rows;") (by decide +kernel)) (fun _ h9 => h9) rfl hin rfl (by decide +kernel) rfl rfl (Nat.le_of_ble_eq_true rfl) dX3_init_11 (fun H locs hP hD hS => ?_)
  have hP : va_P (dC, dI) vwCl [(X8ini_q80, .inr (5, [.ref X8ini_q38, .ref X8ini_q50, .null, .null]))] H := hP
  have hD : va_D A [(X8ini_q80, .inr (5, [.ref X8ini_q38, .ref X8ini_q50, .null, .null]))] := hD
  refine lv_aload_n hx hb dX3_init_14 rfl (lv_at hl 0 rfl) ?_
  refine lv_aload_n hx hb dX3_init_15 rfl (lv_at hl 3 rfl) ?_
  refine va_putF (D := (dC, dI)) (ci := 5) (v := .ref X8ini_q65) (ty := (.object "BlockLog$Story")) (C := RX3) (T := TX3) (N := 4) hx hb hts (by decide +kernel) tyX3 tyX3_ok nmX3 hown hK hP hD hS 0 rfl rfl 2 (by decide) (hts (.fieldLink RX3 19 "BlockLog$Pruning" "story" "LBlockLog$Story;") (by decide +kernel)) (fun _ h9 => h9) rfl hin rfl (by decide +kernel) rfl rfl (Nat.le_of_ble_eq_true rfl) dX3_init_16 (fun H locs hP hD hS => ?_)
  have hP : va_P (dC, dI) vwCl [(X8ini_q80, .inr (5, [.ref X8ini_q38, .ref X8ini_q50, .ref X8ini_q65, .null]))] H := hP
  have hD : va_D A [(X8ini_q80, .inr (5, [.ref X8ini_q38, .ref X8ini_q50, .ref X8ini_q65, .null]))] := hD
  refine lv_aload_n hx hb dX3_init_19 rfl (lv_at hl 0 rfl) ?_
  refine lv_sipush (v := 128) hx hb dX3_init_20 (by decide) ?_
  refine va_newa (atype := .boolean) (ty := .boolean) (n := 128) (N' := 128) (a0 := (128, .inl (fun _ => 0))) hx hb (hts (.arrayClass .boolean) (by decide +kernel)) rfl hK hP hD hS hA (fun _ => rfl) (by decide +kernel) (by decide +kernel) (by decide +kernel) (Nat.le_of_ble_eq_true rfl) (Nat.le_of_ble_eq_true rfl) dX3_init_23 (fun X3ini_q23 X3ini_c23 H hK hP hD hS => ?_)
  have hP : va_P (dC, dI) vwCl [(X8ini_q80, .inr (5, [.ref X8ini_q38, .ref X8ini_q50, .ref X8ini_q65, .null])), (X3ini_q23, .inl (X3ini_c23, 128, .inl (fun _ => 0)))] H := hP
  have hD : va_D A [(X8ini_q80, .inr (5, [.ref X8ini_q38, .ref X8ini_q50, .ref X8ini_q65, .null])), (X3ini_q23, .inl (X3ini_c23, 128, .inl (fun _ => 0)))] := hD
  have hK : va_K (dC, dI) vwCl [(X3ini_c23, .boolean)] s := hK
  refine va_putF (D := (dC, dI)) (ci := 5) (v := .ref X3ini_q23) (ty := (.array .boolean)) (C := RX3) (T := TX3) (N := 4) hx hb hts (by decide +kernel) tyX3 tyX3_ok nmX3 hown hK hP hD hS 0 rfl rfl 3 (by decide) (hts (.fieldLink RX3 23 "BlockLog$Pruning" "keeps" "[Z") (by decide +kernel)) (fun _ h9 => h9) rfl hin rfl (by decide +kernel) rfl rfl (Nat.le_of_ble_eq_true rfl) dX3_init_25 (fun H locs hP hD hS => ?_)
  have hP : va_P (dC, dI) vwCl [(X8ini_q80, .inr (5, [.ref X8ini_q38, .ref X8ini_q50, .ref X8ini_q65, .ref X3ini_q23])), (X3ini_q23, .inl (X3ini_c23, 128, .inl (fun _ => 0)))] H := hP
  have hD : va_D A [(X8ini_q80, .inr (5, [.ref X8ini_q38, .ref X8ini_q50, .ref X8ini_q65, .ref X3ini_q23])), (X3ini_q23, .inl (X3ini_c23, 128, .inl (fun _ => 0)))] := hD
  have hP := hP.sub (ws' := [(X8ini_q80, .inr (5, [.ref X8ini_q38, .ref X8ini_q50, .ref X8ini_q65, .ref X3ini_q23])), (X3ini_q23, .inl (X3ini_c23, 128, .inl (fun _ => 0)))]) [0, 1] rfl
  have hD := hD.sub (ws' := [(X8ini_q80, .inr (5, [.ref X8ini_q38, .ref X8ini_q50, .ref X8ini_q65, .ref X3ini_q23])), (X3ini_q23, .inl (X3ini_c23, 128, .inl (fun _ => 0)))]) [0, 1] (by decide) rfl
  have hK := hK.sub (tys' := [(X3ini_c23, .boolean)]) [0] rfl
  exact W.vret hx hb hr (fun t ht hW => ⟨⟨(), rfl, trivial, X3ini_q23, X3ini_c23, by rw [ht]; exact hP, va_K.moved hW.alike hK, hD⟩, hS.F ht⟩) hS.2.2 dX3_init_28
set_option maxHeartbeats 4000000 in
set_option maxRecDepth 100000 in
theorem k_X5_init_1 (l : Launch) (dC : Nat → ClassId) (dI : Nat → Nat → Nat) (X8ini_q103 : Nat) (sz : Nat)  : Met l yX5_init wsX5_init ({ frames := 1, cells := 4, slots := 64, locals := 20 }) (va_Pc [.ref X8ini_q103] (fun U => U.heap.size = sz ∧ va_P (dC, dI) vwCl [(X8ini_q103, .inr (7, [.null, .null, .null, .null, .int 0, .long 0, .int 0]))] U.heap ∧ va_K (dC, dI) vwCl [] U ∧ va_D (fun _ => True) [(X8ini_q103, .inr (7, [.null, .null, .null, .null, .int 0, .long 0, .int 0]))])) (va_Qv (fun (_ : Unit) => True) (fun (_ : Unit) t => ∃ (X5ini_q7 : Nat) (X5ini_q15 : Nat) (X5ini_q23 : Nat) (X5ini_q31 : Nat) (X5ini_c7 : ClassId) (X5ini_c15 : ClassId) (X5ini_c23 : ClassId) (X5ini_c31 : ClassId), va_P (dC, dI) vwCl [(X8ini_q103, .inr (7, [.ref X5ini_q7, .ref X5ini_q15, .ref X5ini_q23, .ref X5ini_q31, .int (0 : Int32), .long (0 : Int64), .int (0 : Int32)])), (X5ini_q7, .inl (X5ini_c7, 16, .inl (fun _ => 0))), (X5ini_q15, .inl (X5ini_c15, 16, .inl (fun _ => 0))), (X5ini_q23, .inl (X5ini_c23, 16, .inl (fun _ => 0))), (X5ini_q31, .inl (X5ini_c31, 16, .inr (.inl (fun _ => 0))))] t.heap ∧ va_K (dC, dI) vwCl [(X5ini_c7, .int), (X5ini_c15, .int), (X5ini_c23, .int), (X5ini_c31, .long)] t ∧ va_D (va_A [(X8ini_q103, .inr (7, [.null, .null, .null, .null, .int 0, .long 0, .int 0]))] sz) [(X8ini_q103, .inr (7, [.ref X5ini_q7, .ref X5ini_q15, .ref X5ini_q23, .ref X5ini_q31, .int (0 : Int32), .long (0 : Int64), .int (0 : Int32)])), (X5ini_q7, .inl (X5ini_c7, 16, .inl (fun _ => 0))), (X5ini_q15, .inl (X5ini_c15, 16, .inl (fun _ => 0))), (X5ini_q23, .inl (X5ini_c23, 16, .inl (fun _ => 0))), (X5ini_q31, .inl (X5ini_c31, 16, .inr (.inl (fun _ => 0))))]) (va_A [(X8ini_q103, .inr (7, [.null, .null, .null, .null, .int 0, .long 0, .int 0]))] sz)) 4 64 (va_A [(X8ini_q103, .inr (7, [.null, .null, .null, .null, .int 0, .long 0, .int 0]))] sz) := by
  refine Met.ofW (cc := cX5_init) (maxL := 1) (ret := none) (by decide) rfl ?_
  intro p e s m args below meth c s₁ B hml hv
  obtain ⟨rfl, hsz, hP, hK, hD0⟩ := hv
  have hx := B.exec
  have hb := B.bytes
  have hr := B.returns
  have hts := atoms_spec (ws := wsX5_init) B.pre
  have hown : s.vm.findClass RX5 = some m.cls := findClass_of_methodNamed B.named
  have hlocks := B.notSynchronized
  have hin : meth.name = "<init>" := (name_of_methodNamed B.named B.method).1
  subst hsz
  have hD := hD0.self (sz := s.heap.size)
  generalize hAe : va_A [(X8ini_q103, .inr (7, [.null, .null, .null, .null, .int 0, .long 0, .int 0]))] s.heap.size = A at hD ⊢
  have hA : ∀ q : Nat, s.heap.size ≤ q → A q := fun q h => by rw [← hAe]; exact Or.inr h
  have hS : va_S A s.heap s.heap [] := va_S.rf
  have hl := lv_entry ([.ref X8ini_q103]) (n := 1) (Nat.le_of_ble_eq_true rfl)
  rw [lg_entry_eq]
  generalize (lg_sl ([.ref X8ini_q103]) ++ List.replicate (1 - (lg_sl ([.ref X8ini_q103])).length) Slot.unset).toArray = ls at hl ⊢
  have hl : lv_has ls 1 [(0, .ref X8ini_q103)] := hl
  refine lv_aload_n hx hb dX5_init_0 rfl (lv_at hl 0 rfl) ?_
  refine W.objInit hx hb hown (hts (.methodLink RX5 3 objectInit) (by decide +kernel)) (hts (.instanceMethod objectInit) (by decide +kernel)) (hts (.code objectInit ⟨#[0xb1]⟩ 1 none) (by decide +kernel)) rfl (by rw [hml]; exact hl.1) rfl dX5_init_1 (Nat.le_of_ble_eq_true rfl) (Nat.le_of_ble_eq_true rfl) ?_
  refine W.eq (g2 := F0 m 4 ls []) rfl ?_
  refine lv_aload_n hx hb dX5_init_4 rfl (lv_at hl 0 rfl) ?_
  refine lv_bipush (v := 16) hx hb dX5_init_5 (by decide) ?_
  refine va_newa (atype := .int) (ty := .int) (n := 16) (N' := 16) (a0 := (16, .inl (fun _ => 0))) hx hb (hts (.arrayClass .int) (by decide +kernel)) rfl hK hP hD hS hA (fun _ => rfl) (by decide +kernel) (by decide +kernel) (by decide +kernel) (Nat.le_of_ble_eq_true rfl) (Nat.le_of_ble_eq_true rfl) dX5_init_7 (fun X5ini_q7 X5ini_c7 H hK hP hD hS => ?_)
  have hP : va_P (dC, dI) vwCl [(X8ini_q103, .inr (7, [.null, .null, .null, .null, .int 0, .long 0, .int 0])), (X5ini_q7, .inl (X5ini_c7, 16, .inl (fun _ => 0)))] H := hP
  have hD : va_D A [(X8ini_q103, .inr (7, [.null, .null, .null, .null, .int 0, .long 0, .int 0])), (X5ini_q7, .inl (X5ini_c7, 16, .inl (fun _ => 0)))] := hD
  have hK : va_K (dC, dI) vwCl [(X5ini_c7, .int)] s := hK
  refine va_putF (D := (dC, dI)) (ci := 7) (v := .ref X5ini_q7) (ty := (.array .int)) (C := RX5) (T := TX5) (N := 7) hx hb hts (by decide +kernel) tyX5 tyX5_ok nmX5 hown hK hP hD hS 0 rfl rfl 0 (by decide) (hts (.fieldLink RX5 9 "BlockLog$Snapshot" "slots" "[I") (by decide +kernel)) (fun _ h9 => h9) rfl hin rfl (by decide +kernel) rfl rfl (Nat.le_of_ble_eq_true rfl) dX5_init_9 (fun H locs hP hD hS => ?_)
  have hP : va_P (dC, dI) vwCl [(X8ini_q103, .inr (7, [.ref X5ini_q7, .null, .null, .null, .int 0, .long 0, .int 0])), (X5ini_q7, .inl (X5ini_c7, 16, .inl (fun _ => 0)))] H := hP
  have hD : va_D A [(X8ini_q103, .inr (7, [.ref X5ini_q7, .null, .null, .null, .int 0, .long 0, .int 0])), (X5ini_q7, .inl (X5ini_c7, 16, .inl (fun _ => 0)))] := hD
  refine lv_aload_n hx hb dX5_init_12 rfl (lv_at hl 0 rfl) ?_
  refine lv_bipush (v := 16) hx hb dX5_init_13 (by decide) ?_
  refine va_newa (atype := .int) (ty := .int) (n := 16) (N' := 16) (a0 := (16, .inl (fun _ => 0))) hx hb (hts (.arrayClass .int) (by decide +kernel)) rfl hK hP hD hS hA (fun _ => rfl) (by decide +kernel) (by decide +kernel) (by decide +kernel) (Nat.le_of_ble_eq_true rfl) (Nat.le_of_ble_eq_true rfl) dX5_init_15 (fun X5ini_q15 X5ini_c15 H hK hP hD hS => ?_)
  have hP : va_P (dC, dI) vwCl [(X8ini_q103, .inr (7, [.ref X5ini_q7, .null, .null, .null, .int 0, .long 0, .int 0])), (X5ini_q7, .inl (X5ini_c7, 16, .inl (fun _ => 0))), (X5ini_q15, .inl (X5ini_c15, 16, .inl (fun _ => 0)))] H := hP
  have hD : va_D A [(X8ini_q103, .inr (7, [.ref X5ini_q7, .null, .null, .null, .int 0, .long 0, .int 0])), (X5ini_q7, .inl (X5ini_c7, 16, .inl (fun _ => 0))), (X5ini_q15, .inl (X5ini_c15, 16, .inl (fun _ => 0)))] := hD
  have hK : va_K (dC, dI) vwCl [(X5ini_c7, .int), (X5ini_c15, .int)] s := hK
  refine va_putF (D := (dC, dI)) (ci := 7) (v := .ref X5ini_q15) (ty := (.array .int)) (C := RX5) (T := TX5) (N := 7) hx hb hts (by decide +kernel) tyX5 tyX5_ok nmX5 hown hK hP hD hS 0 rfl rfl 1 (by decide) (hts (.fieldLink RX5 15 "BlockLog$Snapshot" "starts" "[I") (by decide +kernel)) (fun _ h9 => h9) rfl hin rfl (by decide +kernel) rfl rfl (Nat.le_of_ble_eq_true rfl) dX5_init_17 (fun H locs hP hD hS => ?_)
  have hP : va_P (dC, dI) vwCl [(X8ini_q103, .inr (7, [.ref X5ini_q7, .ref X5ini_q15, .null, .null, .int 0, .long 0, .int 0])), (X5ini_q7, .inl (X5ini_c7, 16, .inl (fun _ => 0))), (X5ini_q15, .inl (X5ini_c15, 16, .inl (fun _ => 0)))] H := hP
  have hD : va_D A [(X8ini_q103, .inr (7, [.ref X5ini_q7, .ref X5ini_q15, .null, .null, .int 0, .long 0, .int 0])), (X5ini_q7, .inl (X5ini_c7, 16, .inl (fun _ => 0))), (X5ini_q15, .inl (X5ini_c15, 16, .inl (fun _ => 0)))] := hD
  refine lv_aload_n hx hb dX5_init_20 rfl (lv_at hl 0 rfl) ?_
  refine lv_bipush (v := 16) hx hb dX5_init_21 (by decide) ?_
  refine va_newa (atype := .int) (ty := .int) (n := 16) (N' := 16) (a0 := (16, .inl (fun _ => 0))) hx hb (hts (.arrayClass .int) (by decide +kernel)) rfl hK hP hD hS hA (fun _ => rfl) (by decide +kernel) (by decide +kernel) (by decide +kernel) (Nat.le_of_ble_eq_true rfl) (Nat.le_of_ble_eq_true rfl) dX5_init_23 (fun X5ini_q23 X5ini_c23 H hK hP hD hS => ?_)
  have hP : va_P (dC, dI) vwCl [(X8ini_q103, .inr (7, [.ref X5ini_q7, .ref X5ini_q15, .null, .null, .int 0, .long 0, .int 0])), (X5ini_q7, .inl (X5ini_c7, 16, .inl (fun _ => 0))), (X5ini_q15, .inl (X5ini_c15, 16, .inl (fun _ => 0))), (X5ini_q23, .inl (X5ini_c23, 16, .inl (fun _ => 0)))] H := hP
  have hD : va_D A [(X8ini_q103, .inr (7, [.ref X5ini_q7, .ref X5ini_q15, .null, .null, .int 0, .long 0, .int 0])), (X5ini_q7, .inl (X5ini_c7, 16, .inl (fun _ => 0))), (X5ini_q15, .inl (X5ini_c15, 16, .inl (fun _ => 0))), (X5ini_q23, .inl (X5ini_c23, 16, .inl (fun _ => 0)))] := hD
  have hK : va_K (dC, dI) vwCl [(X5ini_c7, .int), (X5ini_c15, .int), (X5ini_c23, .int)] s := hK
  refine va_putF (D := (dC, dI)) (ci := 7) (v := .ref X5ini_q23) (ty := (.array .int)) (C := RX5) (T := TX5) (N := 7) hx hb hts (by decide +kernel) tyX5 tyX5_ok nmX5 hown hK hP hD hS 0 rfl rfl 2 (by decide) (hts (.fieldLink RX5 18 "BlockLog$Snapshot" "sizes" "[I") (by decide +kernel)) (fun _ h9 => h9) rfl hin rfl (by decide +kernel) rfl rfl (Nat.le_of_ble_eq_true rfl) dX5_init_25 (fun H locs hP hD hS => ?_)
  have hP : va_P (dC, dI) vwCl [(X8ini_q103, .inr (7, [.ref X5ini_q7, .ref X5ini_q15, .ref X5ini_q23, .null, .int 0, .long 0, .int 0])), (X5ini_q7, .inl (X5ini_c7, 16, .inl (fun _ => 0))), (X5ini_q15, .inl (X5ini_c15, 16, .inl (fun _ => 0))), (X5ini_q23, .inl (X5ini_c23, 16, .inl (fun _ => 0)))] H := hP
  have hD : va_D A [(X8ini_q103, .inr (7, [.ref X5ini_q7, .ref X5ini_q15, .ref X5ini_q23, .null, .int 0, .long 0, .int 0])), (X5ini_q7, .inl (X5ini_c7, 16, .inl (fun _ => 0))), (X5ini_q15, .inl (X5ini_c15, 16, .inl (fun _ => 0))), (X5ini_q23, .inl (X5ini_c23, 16, .inl (fun _ => 0)))] := hD
  refine lv_aload_n hx hb dX5_init_28 rfl (lv_at hl 0 rfl) ?_
  refine lv_bipush (v := 16) hx hb dX5_init_29 (by decide) ?_
  refine va_newa (atype := .long) (ty := .long) (n := 16) (N' := 16) (a0 := (16, .inr (.inl (fun _ => 0)))) hx hb (hts (.arrayClass .long) (by decide +kernel)) rfl hK hP hD hS hA (fun _ => rfl) (by decide +kernel) (by decide +kernel) (by decide +kernel) (Nat.le_of_ble_eq_true rfl) (Nat.le_of_ble_eq_true rfl) dX5_init_31 (fun X5ini_q31 X5ini_c31 H hK hP hD hS => ?_)
  have hP : va_P (dC, dI) vwCl [(X8ini_q103, .inr (7, [.ref X5ini_q7, .ref X5ini_q15, .ref X5ini_q23, .null, .int 0, .long 0, .int 0])), (X5ini_q7, .inl (X5ini_c7, 16, .inl (fun _ => 0))), (X5ini_q15, .inl (X5ini_c15, 16, .inl (fun _ => 0))), (X5ini_q23, .inl (X5ini_c23, 16, .inl (fun _ => 0))), (X5ini_q31, .inl (X5ini_c31, 16, .inr (.inl (fun _ => 0))))] H := hP
  have hD : va_D A [(X8ini_q103, .inr (7, [.ref X5ini_q7, .ref X5ini_q15, .ref X5ini_q23, .null, .int 0, .long 0, .int 0])), (X5ini_q7, .inl (X5ini_c7, 16, .inl (fun _ => 0))), (X5ini_q15, .inl (X5ini_c15, 16, .inl (fun _ => 0))), (X5ini_q23, .inl (X5ini_c23, 16, .inl (fun _ => 0))), (X5ini_q31, .inl (X5ini_c31, 16, .inr (.inl (fun _ => 0))))] := hD
  have hK : va_K (dC, dI) vwCl [(X5ini_c7, .int), (X5ini_c15, .int), (X5ini_c23, .int), (X5ini_c31, .long)] s := hK
  refine va_putF (D := (dC, dI)) (ci := 7) (v := .ref X5ini_q31) (ty := (.array .long)) (C := RX5) (T := TX5) (N := 7) hx hb hts (by decide +kernel) tyX5 tyX5_ok nmX5 hown hK hP hD hS 0 rfl rfl 3 (by decide) (hts (.fieldLink RX5 21 "BlockLog$Snapshot" "digests" "[J") (by decide +kernel)) (fun _ h9 => h9) rfl hin rfl (by decide +kernel) rfl rfl (Nat.le_of_ble_eq_true rfl) dX5_init_33 (fun H locs hP hD hS => ?_)
  have hP : va_P (dC, dI) vwCl [(X8ini_q103, .inr (7, [.ref X5ini_q7, .ref X5ini_q15, .ref X5ini_q23, .ref X5ini_q31, .int 0, .long 0, .int 0])), (X5ini_q7, .inl (X5ini_c7, 16, .inl (fun _ => 0))), (X5ini_q15, .inl (X5ini_c15, 16, .inl (fun _ => 0))), (X5ini_q23, .inl (X5ini_c23, 16, .inl (fun _ => 0))), (X5ini_q31, .inl (X5ini_c31, 16, .inr (.inl (fun _ => 0))))] H := hP
  have hD : va_D A [(X8ini_q103, .inr (7, [.ref X5ini_q7, .ref X5ini_q15, .ref X5ini_q23, .ref X5ini_q31, .int 0, .long 0, .int 0])), (X5ini_q7, .inl (X5ini_c7, 16, .inl (fun _ => 0))), (X5ini_q15, .inl (X5ini_c15, 16, .inl (fun _ => 0))), (X5ini_q23, .inl (X5ini_c23, 16, .inl (fun _ => 0))), (X5ini_q31, .inl (X5ini_c31, 16, .inr (.inl (fun _ => 0))))] := hD
  refine lv_aload_n hx hb dX5_init_36 rfl (lv_at hl 0 rfl) ?_
  refine lv_iconst (v := 0) hx hb dX5_init_37 (by decide) ?_
  refine va_put (D := (dC, dI)) (ci := 7) (v := .int (0 : Int32)) (ty := .int) (C := RX5) (T := TX5) (N := 7) hx hb hts (by decide +kernel) tyX5 tyX5_ok nmX5 hown hK hP hD hS 0 rfl rfl 4 (by decide) (hts (.fieldLink RX5 25 "BlockLog$Snapshot" "height" "I") (by decide +kernel)) (fun _ h9 => h9) rfl (by decide +kernel) rfl rfl (Nat.le_of_ble_eq_true rfl) dX5_init_38 (fun H locs hP hD hS => ?_)
  have hP : va_P (dC, dI) vwCl [(X8ini_q103, .inr (7, [.ref X5ini_q7, .ref X5ini_q15, .ref X5ini_q23, .ref X5ini_q31, .int (0 : Int32), .long 0, .int 0])), (X5ini_q7, .inl (X5ini_c7, 16, .inl (fun _ => 0))), (X5ini_q15, .inl (X5ini_c15, 16, .inl (fun _ => 0))), (X5ini_q23, .inl (X5ini_c23, 16, .inl (fun _ => 0))), (X5ini_q31, .inl (X5ini_c31, 16, .inr (.inl (fun _ => 0))))] H := hP
  have hD : va_D A [(X8ini_q103, .inr (7, [.ref X5ini_q7, .ref X5ini_q15, .ref X5ini_q23, .ref X5ini_q31, .int (0 : Int32), .long 0, .int 0])), (X5ini_q7, .inl (X5ini_c7, 16, .inl (fun _ => 0))), (X5ini_q15, .inl (X5ini_c15, 16, .inl (fun _ => 0))), (X5ini_q23, .inl (X5ini_c23, 16, .inl (fun _ => 0))), (X5ini_q31, .inl (X5ini_c31, 16, .inr (.inl (fun _ => 0))))] := hD
  refine lv_aload_n hx hb dX5_init_41 rfl (lv_at hl 0 rfl) ?_
  refine lv_lconst (v := 0) hx hb dX5_init_42 (by decide) ?_
  refine va_put (D := (dC, dI)) (ci := 7) (v := .long (0 : Int64)) (ty := .long) (C := RX5) (T := TX5) (N := 7) hx hb hts (by decide +kernel) tyX5 tyX5_ok nmX5 hown hK hP hD hS 0 rfl rfl 5 (by decide) (hts (.fieldLink RX5 29 "BlockLog$Snapshot" "block" "J") (by decide +kernel)) (fun _ h9 => h9) rfl (by decide +kernel) rfl rfl (Nat.le_of_ble_eq_true rfl) dX5_init_43 (fun H locs hP hD hS => ?_)
  have hP : va_P (dC, dI) vwCl [(X8ini_q103, .inr (7, [.ref X5ini_q7, .ref X5ini_q15, .ref X5ini_q23, .ref X5ini_q31, .int (0 : Int32), .long (0 : Int64), .int 0])), (X5ini_q7, .inl (X5ini_c7, 16, .inl (fun _ => 0))), (X5ini_q15, .inl (X5ini_c15, 16, .inl (fun _ => 0))), (X5ini_q23, .inl (X5ini_c23, 16, .inl (fun _ => 0))), (X5ini_q31, .inl (X5ini_c31, 16, .inr (.inl (fun _ => 0))))] H := hP
  have hD : va_D A [(X8ini_q103, .inr (7, [.ref X5ini_q7, .ref X5ini_q15, .ref X5ini_q23, .ref X5ini_q31, .int (0 : Int32), .long (0 : Int64), .int 0])), (X5ini_q7, .inl (X5ini_c7, 16, .inl (fun _ => 0))), (X5ini_q15, .inl (X5ini_c15, 16, .inl (fun _ => 0))), (X5ini_q23, .inl (X5ini_c23, 16, .inl (fun _ => 0))), (X5ini_q31, .inl (X5ini_c31, 16, .inr (.inl (fun _ => 0))))] := hD
  refine lv_aload_n hx hb dX5_init_46 rfl (lv_at hl 0 rfl) ?_
  refine lv_iconst (v := 0) hx hb dX5_init_47 (by decide) ?_
  refine va_put (D := (dC, dI)) (ci := 7) (v := .int (0 : Int32)) (ty := .int) (C := RX5) (T := TX5) (N := 7) hx hb hts (by decide +kernel) tyX5 tyX5_ok nmX5 hown hK hP hD hS 0 rfl rfl 6 (by decide) (hts (.fieldLink RX5 33 "BlockLog$Snapshot" "count" "I") (by decide +kernel)) (fun _ h9 => h9) rfl (by decide +kernel) rfl rfl (Nat.le_of_ble_eq_true rfl) dX5_init_48 (fun H locs hP hD hS => ?_)
  have hP : va_P (dC, dI) vwCl [(X8ini_q103, .inr (7, [.ref X5ini_q7, .ref X5ini_q15, .ref X5ini_q23, .ref X5ini_q31, .int (0 : Int32), .long (0 : Int64), .int (0 : Int32)])), (X5ini_q7, .inl (X5ini_c7, 16, .inl (fun _ => 0))), (X5ini_q15, .inl (X5ini_c15, 16, .inl (fun _ => 0))), (X5ini_q23, .inl (X5ini_c23, 16, .inl (fun _ => 0))), (X5ini_q31, .inl (X5ini_c31, 16, .inr (.inl (fun _ => 0))))] H := hP
  have hD : va_D A [(X8ini_q103, .inr (7, [.ref X5ini_q7, .ref X5ini_q15, .ref X5ini_q23, .ref X5ini_q31, .int (0 : Int32), .long (0 : Int64), .int (0 : Int32)])), (X5ini_q7, .inl (X5ini_c7, 16, .inl (fun _ => 0))), (X5ini_q15, .inl (X5ini_c15, 16, .inl (fun _ => 0))), (X5ini_q23, .inl (X5ini_c23, 16, .inl (fun _ => 0))), (X5ini_q31, .inl (X5ini_c31, 16, .inr (.inl (fun _ => 0))))] := hD
  have hP := hP.sub (ws' := [(X8ini_q103, .inr (7, [.ref X5ini_q7, .ref X5ini_q15, .ref X5ini_q23, .ref X5ini_q31, .int (0 : Int32), .long (0 : Int64), .int (0 : Int32)])), (X5ini_q7, .inl (X5ini_c7, 16, .inl (fun _ => 0))), (X5ini_q15, .inl (X5ini_c15, 16, .inl (fun _ => 0))), (X5ini_q23, .inl (X5ini_c23, 16, .inl (fun _ => 0))), (X5ini_q31, .inl (X5ini_c31, 16, .inr (.inl (fun _ => 0))))]) [0, 1, 2, 3, 4] rfl
  have hD := hD.sub (ws' := [(X8ini_q103, .inr (7, [.ref X5ini_q7, .ref X5ini_q15, .ref X5ini_q23, .ref X5ini_q31, .int (0 : Int32), .long (0 : Int64), .int (0 : Int32)])), (X5ini_q7, .inl (X5ini_c7, 16, .inl (fun _ => 0))), (X5ini_q15, .inl (X5ini_c15, 16, .inl (fun _ => 0))), (X5ini_q23, .inl (X5ini_c23, 16, .inl (fun _ => 0))), (X5ini_q31, .inl (X5ini_c31, 16, .inr (.inl (fun _ => 0))))]) [0, 1, 2, 3, 4] (by decide) rfl
  have hK := hK.sub (tys' := [(X5ini_c7, .int), (X5ini_c15, .int), (X5ini_c23, .int), (X5ini_c31, .long)]) [0, 1, 2, 3] rfl
  exact W.vret hx hb hr (fun t ht hW => ⟨⟨(), rfl, trivial, X5ini_q7, X5ini_q15, X5ini_q23, X5ini_q31, X5ini_c7, X5ini_c15, X5ini_c23, X5ini_c31, by rw [ht]; exact hP, va_K.moved hW.alike hK, hD⟩, hS.F ht⟩) hS.2.2 dX5_init_51