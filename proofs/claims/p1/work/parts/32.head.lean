def pu_head1 (f : Nat → Int32) (g : Int32) : Nat → Int32 := pu_putI (pu_putI f 0 g 4) 4 165 4
def pu_head (f : Nat → Int32) (g : Int32) : Nat → Int32 := pu_putL (pu_head1 f g) 8 (pu_sumN (pu_head1 f g) 0 (pu_start 1) 8) 8
theorem in_0_4_32 : ∀ k, k < 4 → vp_in ((0 : Int32) + nI k) 32 := by unfold vp_in; decide +kernel
theorem in_4_4_32 : ∀ k, k < 4 → vp_in ((4 : Int32) + nI k) 32 := by unfold vp_in; decide +kernel
theorem in_8_8_32 : ∀ k, k < 8 → vp_in ((8 : Int32) + nI k) 32 := by unfold vp_in; decide +kernel
set_option maxHeartbeats 4000000 in
set_option maxRecDepth 100000 in
theorem k_X4_drawHead (l : Launch) (dC : Nat → ClassId) (dI : Nat → Nat → Nat) (h0 hi : Nat) (cB : ClassId) (v0 : Value) (fs : List Value) (f : Nat → Int32) (g : Int32) (sz : Nat)  : Met l yX4_drawHead wsX4_drawHead ({ frames := 2, cells := 0, slots := 0, locals := 60 }) (va_Pc [.ref h0, .int g] (fun U => U.heap.size = sz ∧ va_P (dC, dI) vwCl [(h0, .inr (6, v0 :: .ref hi :: fs)), (hi, .inl (cB, 32, .inl f))] U.heap ∧ va_K (dC, dI) vwCl [(cB, .byte)] U ∧ va_D (fun _ => True) [(h0, .inr (6, v0 :: .ref hi :: fs)), (hi, .inl (cB, 32, .inl f))])) (va_Qv (fun (_ : Unit) => True) (fun (_ : Unit) t => va_P (dC, dI) vwCl [(h0, .inr (6, v0 :: .ref hi :: fs)), (hi, .inl (cB, 32, .inl (pu_head f g)))] t.heap ∧ va_K (dC, dI) vwCl [(cB, .byte)] t ∧ va_D (va_A [(h0, .inr (6, v0 :: .ref hi :: fs)), (hi, .inl (cB, 32, .inl f))] sz) [(h0, .inr (6, v0 :: .ref hi :: fs)), (hi, .inl (cB, 32, .inl (pu_head f g)))]) (va_A [(h0, .inr (6, v0 :: .ref hi :: fs)), (hi, .inl (cB, 32, .inl f))] sz)) 0 0 (va_A [(h0, .inr (6, v0 :: .ref hi :: fs)), (hi, .inl (cB, 32, .inl f))] sz) := by
  refine Met.ofW (cc := cX4_drawHead) (maxL := 2) (ret := none) (by decide) rfl ?_
  intro p e s m args below meth c s₁ B hml hv
  obtain ⟨rfl, hsz, hP, hK, hD0⟩ := hv
  have hx := B.exec
  have hb := B.bytes
  have hr := B.returns
  have hts := atoms_spec (ws := wsX4_drawHead) B.pre
  have hown : s.vm.findClass RX4 = some m.cls := findClass_of_methodNamed B.named
  have hlocks := B.notSynchronized
  subst hsz
  have hD := hD0.self (sz := s.heap.size)
  generalize hAe : va_A [(h0, .inr (6, v0 :: .ref hi :: fs)), (hi, .inl (cB, 32, .inl f))] s.heap.size = A at hD ⊢
  have hA : ∀ q : Nat, s.heap.size ≤ q → A q := fun q h => by rw [← hAe]; exact Or.inr h
  have hS : va_S A s.heap s.heap [] := va_S.rf
  have hl := lv_entry ([.ref h0, .int g]) (n := 2) (Nat.le_of_ble_eq_true rfl)
  rw [lg_entry_eq]
  generalize (lg_sl ([.ref h0, .int g]) ++ List.replicate (2 - (lg_sl ([.ref h0, .int g])).length) Slot.unset).toArray = ls at hl ⊢
  have hl : lv_has ls 2 [(0, .ref h0), (1, .int g)] := hl
  refine lv_aload_n hx hb dX4_drawHead_0 rfl (lv_at hl 0 rfl) ?_
  refine va_get (D := (dC, dI)) (ci := 6) (v := .ref hi) (C := RX4) (T := TX4) (N := 6) hx hb hts (by decide +kernel) hown hK hP 0 rfl rfl 1 (by decide) (hts (.fieldLink RX4 15 "BlockLog$Rows" "image" "[B") (by decide +kernel)) (fun _ h9 => h9) rfl dX4_drawHead_1 ?_
  refine lv_iconst (v := 0) hx hb dX4_drawHead_4 (by decide) ?_
  refine lv_iload_n hx hb dX4_drawHead_5 rfl (lv_at hl 1 rfl) ?_
  have hPc := hP.sub (ws' := [(hi, .inl (cB, 32, .inl f))]) [1] rfl
  have hKc := hK.sub (tys' := [(cB, .byte)]) [0] rfl
  have hDc := hD.sub (ws' := [(hi, .inl (cB, 32, .inl f))]) [1] (by decide) rfl
  have hFc := va_free (wc := [(hi, .inl (cB, 32, .inl f))]) hD hS hA [1] rfl
  refine va_callv (va_runS (As := [.ref hi, .int (0 : Int32), .int g]) (rest := []) ⟨hx, hb, hml, hown, hts⟩ (k_X0_putInt l dC dI hi 32 cB _ 0 g _ in_0_4_32) (va_cwS 3 hts gX4_drawHead_X0_putInt rfl rfl rfl (by decide +kernel) ⟨Nat.le_of_ble_eq_true rfl, Nat.le_of_ble_eq_true rfl⟩) ⟨fun a U g mk q => by obtain ⟨q0, q1, qP, qK, qD⟩ := q; exact ⟨q0, q1, qP, va_K.moved (u := U) (U := U.calling g mk a) (Vm.Alike.refl U.vm) qK, qD⟩, fun U hU hW => ⟨rfl, by rw [hU], by rw [hU]; exact hPc, va_K.moved hW.alike hKc, hDc.weaken (fun _ _ _ _ => trivial)⟩⟩ rfl rfl hl.1 rfl (lv_room (Nat.le_of_ble_eq_true rfl)) dX4_drawHead_6 ⟨Nat.le_of_ble_eq_true rfl, Nat.le_of_ble_eq_true rfl⟩) hS (fun q _ h => hFc q h) hFc (fun u t H1 locs ht hvm er_1 hB hz1 hk1 hS => ?_)
  obtain ⟨hP1, hK1, hD1⟩ := hB
  rw [ht] at hP1
  obtain ⟨hP, hD⟩ := va_join (wr := [(h0, .inr (6, v0 :: .ref hi :: fs))]) (w1 := [(hi, .inl (cB, 32, .inl (pu_putI f 0 g 4)))]) hP hD [1] [0] rfl rfl (by decide) (by decide) hk1 hFc hP1 hD1
  clear hPc hDc hFc hP1 hD1 hk1 hz1
  generalize H1 = H at hP hS ⊢
  have hP : va_P (dC, dI) vwCl [(h0, .inr (6, v0 :: .ref hi :: fs)), (hi, .inl (cB, 32, .inl (pu_putI f 0 g 4)))] H := hP
  have hD : va_D A [(h0, .inr (6, v0 :: .ref hi :: fs)), (hi, .inl (cB, 32, .inl (pu_putI f 0 g 4)))] := hD
  refine lv_aload_n hx hb dX4_drawHead_9 rfl (lv_at hl 0 rfl) ?_
  refine va_get (D := (dC, dI)) (ci := 6) (v := .ref hi) (C := RX4) (T := TX4) (N := 6) hx hb hts (by decide +kernel) hown hK hP 0 rfl rfl 1 (by decide) (hts (.fieldLink RX4 15 "BlockLog$Rows" "image" "[B") (by decide +kernel)) (fun _ h9 => h9) rfl dX4_drawHead_10 ?_
  refine lv_iconst (v := 4) hx hb dX4_drawHead_13 (by decide) ?_
  refine lv_sipush (v := 165) hx hb dX4_drawHead_14 (by decide) ?_
  have hPc := hP.sub (ws' := [(hi, .inl (cB, 32, .inl (pu_putI f 0 g 4)))]) [1] rfl
  have hKc := hK.sub (tys' := [(cB, .byte)]) [0] rfl
  have hDc := hD.sub (ws' := [(hi, .inl (cB, 32, .inl (pu_putI f 0 g 4)))]) [1] (by decide) rfl
  have hFc := va_free (wc := [(hi, .inl (cB, 32, .inl (pu_putI f 0 g 4)))]) hD hS hA [1] rfl
  refine va_callv (va_runS (As := [.ref hi, .int (4 : Int32), .int (165 : Int32)]) (rest := []) ⟨hx, hb, hml, hown, hts⟩ (k_X0_putInt l dC dI hi 32 cB _ 4 165 _ in_4_4_32) (va_cwS 3 hts gX4_drawHead_X0_putInt rfl rfl rfl (by decide +kernel) ⟨Nat.le_of_ble_eq_true rfl, Nat.le_of_ble_eq_true rfl⟩) ⟨fun a U g mk q => by obtain ⟨q0, q1, qP, qK, qD⟩ := q; exact ⟨q0, q1, qP, va_K.moved (u := U) (U := U.calling g mk a) (Vm.Alike.refl U.vm) qK, qD⟩, fun U hU hW => ⟨rfl, by rw [hU], by rw [hU]; exact hPc, va_K.moved hW.alike hKc, hDc.weaken (fun _ _ _ _ => trivial)⟩⟩ rfl rfl hl.1 rfl (lv_room (Nat.le_of_ble_eq_true rfl)) dX4_drawHead_17 ⟨Nat.le_of_ble_eq_true rfl, Nat.le_of_ble_eq_true rfl⟩) hS (fun q _ h => hFc q h) hFc (fun u t H1 locs ht hvm er_2 hB hz1 hk1 hS => ?_)
  obtain ⟨hP1, hK1, hD1⟩ := hB
  rw [ht] at hP1
  obtain ⟨hP, hD⟩ := va_join (wr := [(h0, .inr (6, v0 :: .ref hi :: fs))]) (w1 := [(hi, .inl (cB, 32, .inl (pu_head1 f g)))]) hP hD [1] [0] rfl rfl (by decide) (by decide) hk1 hFc hP1 hD1
  clear hPc hDc hFc hP1 hD1 hk1 hz1
  generalize H1 = H at hP hS ⊢
  have hP : va_P (dC, dI) vwCl [(h0, .inr (6, v0 :: .ref hi :: fs)), (hi, .inl (cB, 32, .inl (pu_head1 f g)))] H := hP
  have hD : va_D A [(h0, .inr (6, v0 :: .ref hi :: fs)), (hi, .inl (cB, 32, .inl (pu_head1 f g)))] := hD
  refine lv_aload_n hx hb dX4_drawHead_20 rfl (lv_at hl 0 rfl) ?_
  refine va_get (D := (dC, dI)) (ci := 6) (v := .ref hi) (C := RX4) (T := TX4) (N := 6) hx hb hts (by decide +kernel) hown hK hP 0 rfl rfl 1 (by decide) (hts (.fieldLink RX4 15 "BlockLog$Rows" "image" "[B") (by decide +kernel)) (fun _ h9 => h9) rfl dX4_drawHead_21 ?_
  refine lv_bipush (v := 8) hx hb dX4_drawHead_24 (by decide) ?_
  refine lv_aload_n hx hb dX4_drawHead_26 rfl (lv_at hl 0 rfl) ?_
  refine va_get (D := (dC, dI)) (ci := 6) (v := .ref hi) (C := RX4) (T := TX4) (N := 6) hx hb hts (by decide +kernel) hown hK hP 0 rfl rfl 1 (by decide) (hts (.fieldLink RX4 15 "BlockLog$Rows" "image" "[B") (by decide +kernel)) (fun _ h9 => h9) rfl dX4_drawHead_27 ?_
  refine lv_iconst (v := 0) hx hb dX4_drawHead_30 (by decide) ?_
  refine lv_bipush (v := 8) hx hb dX4_drawHead_31 (by decide) ?_
  refine lv_iconst (v := 1) hx hb dX4_drawHead_33 (by decide) ?_
  have hPc := hP.sub (ws' := [(hi, .inl (cB, 32, .inl (pu_head1 f g)))]) [1] rfl
  have hKc := hK.sub (tys' := [(cB, .byte)]) [0] rfl
  refine vp_callSl (va_Run.run (va_runS (As := [.ref hi, .int (0 : Int32), .int (8 : Int32), .int (1 : Int32)]) (rest := [.int (8 : Int32), .ref hi]) ⟨hx, hb, hml, hown, hts⟩ (k_X0_sum l dC dI cB hi 32 0 8 1 (pu_head1 f g) (by decide) (by decide)) (va_cwS 4 hts gX4_drawHead_X0_sum rfl rfl rfl (by decide +kernel) ⟨Nat.le_of_ble_eq_true rfl, Nat.le_of_ble_eq_true rfl⟩) ⟨fun a U g mk q => by obtain ⟨q0, qP, qK⟩ := q; exact ⟨q0, qP, va_K.moved (u := U) (U := U.calling g mk a) (Vm.Alike.refl U.vm) qK⟩, fun U hU hW => ⟨rfl, by rw [hU]; exact hPc, va_K.moved hW.alike hKc⟩⟩ rfl rfl hl.1 rfl (lv_room (Nat.le_of_ble_eq_true rfl)) dX4_drawHead_34 ⟨Nat.le_of_ble_eq_true rfl, Nat.le_of_ble_eq_true rfl⟩)) (fun r_3 er_3 => ?_)
  subst er_3
  have hPc := hP.sub (ws' := [(hi, .inl (cB, 32, .inl (pu_head1 f g)))]) [1] rfl
  have hKc := hK.sub (tys' := [(cB, .byte)]) [0] rfl
  have hDc := hD.sub (ws' := [(hi, .inl (cB, 32, .inl (pu_head1 f g)))]) [1] (by decide) rfl
  have hFc := va_free (wc := [(hi, .inl (cB, 32, .inl (pu_head1 f g)))]) hD hS hA [1] rfl
  refine va_callv (va_runS (As := [.ref hi, .int (8 : Int32), .long (pu_sumN (pu_head1 f g) 0 (pu_start 1) 8)]) (rest := []) ⟨hx, hb, hml, hown, hts⟩ (k_X0_putLong l dC dI hi 32 cB _ 8 _ _ in_8_8_32) (va_cwS 3 hts gX4_drawHead_X0_putLong rfl rfl rfl (by decide +kernel) ⟨Nat.le_of_ble_eq_true rfl, Nat.le_of_ble_eq_true rfl⟩) ⟨fun a U g mk q => by obtain ⟨q0, q1, qP, qK, qD⟩ := q; exact ⟨q0, q1, qP, va_K.moved (u := U) (U := U.calling g mk a) (Vm.Alike.refl U.vm) qK, qD⟩, fun U hU hW => ⟨rfl, by rw [hU], by rw [hU]; exact hPc, va_K.moved hW.alike hKc, hDc.weaken (fun _ _ _ _ => trivial)⟩⟩ rfl rfl hl.1 rfl (lv_room (Nat.le_of_ble_eq_true rfl)) dX4_drawHead_37 ⟨Nat.le_of_ble_eq_true rfl, Nat.le_of_ble_eq_true rfl⟩) hS (fun q _ h => hFc q h) hFc (fun u t H1 locs ht hvm er_4 hB hz1 hk1 hS => ?_)
  obtain ⟨hP1, hK1, hD1⟩ := hB
  rw [ht] at hP1
  obtain ⟨hP, hD⟩ := va_join (wr := [(h0, .inr (6, v0 :: .ref hi :: fs))]) (w1 := [(hi, .inl (cB, 32, .inl (pu_head f g)))]) hP hD [1] [0] rfl rfl (by decide) (by decide) hk1 hFc hP1 hD1
  clear hPc hDc hFc hP1 hD1 hk1 hz1
  generalize H1 = H at hP hS ⊢
  have hP : va_P (dC, dI) vwCl [(h0, .inr (6, v0 :: .ref hi :: fs)), (hi, .inl (cB, 32, .inl (pu_head f g)))] H := hP
  have hD : va_D A [(h0, .inr (6, v0 :: .ref hi :: fs)), (hi, .inl (cB, 32, .inl (pu_head f g)))] := hD
  exact W.vret hx hb hr (fun t ht hW => ⟨⟨(), rfl, trivial, by rw [ht]; exact hP, va_K.moved hW.alike hK, hD⟩, hS.F ht⟩) hS.2.2 dX4_drawHead_40
