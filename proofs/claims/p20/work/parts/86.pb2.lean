set_option maxHeartbeats 4000000 in
set_option maxRecDepth 100000 in
theorem v_X8_writeSnapshot (l : Launch) (dC : Nat → ClassId) (dI : Nat → Nat → Nat) (c : Nat → Nat) (kc : Nat → ClassId) (st : Nat → Int32) (lg : Nat → Int64) (ai : Nat → Nat → Int32) (al : Nat → Nat → Int64) (R : va_W) (cap : Nat) (num : Nat → Int32) (p0 : Int32) (sz : Nat) (hPI : PI (kc 98) (kc 0) (c 99) (st 13) cap num none R) (hf5a : 0 ≤ (st 5).toInt) (hf5b : (st 5).toInt ≤ 400) (hf13a : 0 ≤ (st 13).toInt) (hf13b : (st 13).toInt ≤ 65536) (hf26a : 0 ≤ (st 26).toInt) (hf26b : (st 26).toInt ≤ 128) (hf28a : 0 ≤ (st 28).toInt) (hf28b : (st 28).toInt ≤ 1) (hR4 : aR (ai 4) 400 (-128) 127) (hR23 : aR (ai 23) 128 (0) 127) : Met l yX8_writeSnapshot wsX8_writeSnapshot ({ frames := 5, cells := 0, slots := 0, locals := 120 }) (va_Pc [.ref (c 100), .int p0] (fun U => U.heap.size = sz ∧ va_P (dC, dI) vwCl (cw_W c kc st lg ai al R) U.heap ∧ va_K (dC, dI) vwCl (cw_T kc) U ∧ va_D (fun _ => True) (cw_W c kc st lg ai al R) ∧ gx_E (va_A (cw_W c kc st lg ai al R) sz) U)) (va_Qv (fun (_ : Unit) => True) (fun _ t => ∃ (x5 : Int32) (f4 : Nat → Int32) (R9 : va_W), (0 ≤ x5.toInt) ∧ (x5.toInt ≤ 400) ∧ (aR f4 400 (-128) 127) ∧ (PI (kc 98) (kc 0) (c 99) (st 13) cap num none R9) ∧ (∀ y m, pgM (kc 0) R y m → pgM (kc 0) R9 y m) ∧ (va_D (va_A (cw_W c kc st lg ai al R) sz) (cw_W c kc (rU st 5 x5) lg (rU ai 4 f4) al R9)) ∧ va_P (dC, dI) vwCl (cw_W c kc (rU st 5 x5) lg (rU ai 4 f4) al R9) t.heap) (va_A (cw_W c kc st lg ai al R) sz)) 0 0 (va_A (cw_W c kc st lg ai al R) sz) := by
  refine Met.ofW (cc := cX8_writeSnapshot) (maxL := 5) (ret := none) (by decide) rfl ?_
  intro p e s m args below meth cM s₁ B hml hv
  obtain ⟨rfl, hsz, hP, hK, hD0, hG⟩ := hv
  have hx := B.exec
  have hb := B.bytes
  have hr := B.returns
  have hts := atoms_spec (ws := wsX8_writeSnapshot) B.pre
  have hown : s.vm.findClass RX8 = some m.cls := findClass_of_methodNamed B.named
  have hGW := hG.1
  subst hsz
  have hD := hD0.self (sz := s.heap.size)
  generalize hAe : va_A (cw_W c kc st lg ai al R) s.heap.size = A at hD hG ⊢
  have hA : ∀ q : Nat, s.heap.size ≤ q → A q := fun q h => by rw [← hAe]; exact Or.inr h
  have hS : va_S A s.heap s.heap [] := va_S.rf
  clear hAe hD0
  have hl := lv_entry ([.ref (c 100), .int p0]) (n := 5) (Nat.le_of_ble_eq_true rfl)
  rw [lg_entry_eq]
  generalize (lg_sl ([.ref (c 100), .int p0]) ++ List.replicate (5 - (lg_sl ([.ref (c 100), .int p0])).length) Slot.unset).toArray = ls at hl ⊢
  have hl : lv_has ls 5 [(0, .ref (c 100)), (1, .int p0)] := hl
  have z_0 : (0 : Int32).toInt = 0 := by decide
  have z_1 : (1 : Int32).toInt = 1 := by decide
  have z_5 : (5 : Int32).toInt = 5 := by decide
  have z_16 : (16 : Int32).toInt = 16 := by decide
  have hin_X2 : ∀ w ∈ u_ws RX2 TX2 3, w ∈ wsX8_writeSnapshot := by decide +kernel
  have hin_X6 : ∀ w ∈ u_ws RX6 TX6 12, w ∈ wsX8_writeSnapshot := by decide +kernel
  have hin_X7 : ∀ w ∈ u_ws RX7 TX7 2, w ∈ wsX8_writeSnapshot := by decide +kernel
  have hin_X8 : ∀ w ∈ u_ws RX8 TX8 10, w ∈ wsX8_writeSnapshot := by decide +kernel
  have hmono : ∀ y m, pgM (kc 0) R y m → pgM (kc 0) R y m := fun y m h => h
  have main : ∀ (H : Heap) (locs : List Loc), va_P (dC, dI) vwCl (cw_W c kc st lg ai al R) H → va_S A s.heap H locs → W p l e (headSpec wsX8_writeSnapshot ({ frames := 5, cells := 0, slots := 0, locals := 120 })).room s m ([.ref (c 100), .int p0] : List Value).toArray below meth cM H locs 0 0 (MQ below (va_Qv (fun (_ : Unit) => True) (fun _ t => ∃ (x5 : Int32) (f4 : Nat → Int32) (R9 : va_W), (0 ≤ x5.toInt) ∧ (x5.toInt ≤ 400) ∧ (aR f4 400 (-128) 127) ∧ (PI (kc 98) (kc 0) (c 99) (st 13) cap num none R9) ∧ (∀ y m, pgM (kc 0) R y m → pgM (kc 0) R9 y m) ∧ (va_D A (cw_W c kc (rU st 5 x5) lg (rU ai 4 f4) al R9)) ∧ va_P (dC, dI) vwCl (cw_W c kc (rU st 5 x5) lg (rU ai 4 f4) al R9) t.heap) A) ([.ref (c 100), .int p0] : List Value).toArray s 0 0 A) (F0 m 0 ls []) := by
    intro H locs hP hS
    refine lv_aload_n hx hb dX8_writeSnapshot_0 rfl (lv_at hl 0 rfl) ?_
    refine va_get (D := (dC, dI)) (ci := 10) (v := .ref (c 101)) (C := RX8) (T := TX8) (N := 10) hx hb hts hin_X8 hown hK hP 0 rfl rfl 0 (by decide) (hts (.fieldLink RX8 13 "BlockLog" "tape" "LBlockLog$Tape;") (by decide +kernel)) (fun _ h9 => h9) rfl dX8_writeSnapshot_1 ?_
    refine lv_iconst (v := 0) hx hb dX8_writeSnapshot_4 (by decide) ?_
    refine va_putN (D := (dC, dI)) (ci := 9) (v := .int (0 : Int32)) (ty := .int) (C := RX7) (T := TX7) (N := 2) hx hb hts hin_X7 tyX7 tyX7_ok nmX7 hown hK hP (cw_D hD) hS 1 rfl rfl 1 (by decide) (va_Nw.use rfl (hGW.1 ("BlockLog", 83, "BlockLog$Tape", "count", "I", "BlockLog") (by decide +kernel))) (fun _ h9 => h9) rfl (by decide +kernel) rfl rfl (Nat.le_of_ble_eq_true rfl) dX8_writeSnapshot_5 (fun H locs hP _ hS => ?_)
    have hP : va_P (dC, dI) vwCl (cw_W c kc (rU st 5 (0 : Int32)) lg ai al R) H := hP
    refine lv_aload_n hx hb dX8_writeSnapshot_8 rfl (lv_at hl 0 rfl) ?_
    refine va_get (D := (dC, dI)) (ci := 10) (v := .ref (c 101)) (C := RX8) (T := TX8) (N := 10) hx hb hts hin_X8 hown hK hP 0 rfl rfl 0 (by decide) (hts (.fieldLink RX8 13 "BlockLog" "tape" "LBlockLog$Tape;") (by decide +kernel)) (fun _ h9 => h9) rfl dX8_writeSnapshot_9 ?_
    refine lv_iload_n hx hb dX8_writeSnapshot_12 rfl (lv_at hl 1 rfl) ?_
    have hFc := vfree ((cw_D hD : va_D A (cw_W c kc (rU st 5 (0 : Int32)) lg ai al R)) : va_D A (cw_W c kc (rU st 5 (0 : Int32)) lg ai al R)) hS hA
    refine va_callv (va_runV (As := [.int p0]) (rest := []) ⟨hx, hb, hml, hown, hts⟩ (v_X7_appendInt l dC dI c kc (rU st 5 (0 : Int32)) lg ai al R p0 _ (show 0 ≤ (0 : Int32).toInt by decide) (show (0 : Int32).toInt ≤ 400 by decide) (show aR (ai 4) 400 (-128) 127 from hR4)) (cwV 1 hts gX8_writeSnapshot_X7_appendInt rfl rfl rfl (by decide +kernel) ⟨Nat.le_of_ble_eq_true rfl, Nat.le_of_ble_eq_true rfl⟩) ⟨fun a U g mk q => by obtain ⟨q0, q1, qP, qK, qD⟩ := q; exact ⟨q0, q1, qP, va_K.moved (u := U) (U := U.calling g mk a) (Vm.Alike.refl U.vm) qK, qD⟩, va_recv hK hP (ci := 9) (q := (RX7, TX7, 2)) rfl (q0 := 1) rfl, fun U hU hW => ⟨rfl, by rw [hU], by rw [hU]; exact hP, va_K.moved hW.alike hK, ((cw_D hD : va_D A (cw_W c kc (rU st 5 (0 : Int32)) lg ai al R))).weaken (fun _ _ _ _ => trivial)⟩⟩ rfl rfl hl.1 rfl (lv_room (Nat.le_of_ble_eq_true rfl)) dX8_writeSnapshot_13 ⟨Nat.le_of_ble_eq_true rfl, Nat.le_of_ble_eq_true rfl⟩) hS (fun q _ h => hFc q h) hFc (fun ur_1 t H1 locs ht hvm er_1 hB hz1 hk1 hS => ?_)
    obtain ⟨x5_1, f4_1, k_2, k_3, hR4, hP1⟩ := hB
    rw [ht] at hP1
    clear hFc hz1 hk1 hvm hP
    subst ht
    have hP := hP1
    clear hP1
    generalize t.heap = H at hP hS ⊢
    have hP : va_P (dC, dI) vwCl (cw_W c kc (rU st 5 x5_1) lg (rU ai 4 f4_1) al R) H := hP
    have k_2 : 0 ≤ x5_1.toInt := k_2
    have k_3 : x5_1.toInt ≤ 400 := k_3
    have hR4 : aR f4_1 400 (-128) 127 := hR4
    refine lv_aload_n hx hb dX8_writeSnapshot_16 rfl (lv_at hl 0 rfl) ?_
    refine va_get (D := (dC, dI)) (ci := 10) (v := .ref (c 101)) (C := RX8) (T := TX8) (N := 10) hx hb hts hin_X8 hown hK hP 0 rfl rfl 0 (by decide) (hts (.fieldLink RX8 13 "BlockLog" "tape" "LBlockLog$Tape;") (by decide +kernel)) (fun _ h9 => h9) rfl dX8_writeSnapshot_17 ?_
    refine lv_aload_n hx hb dX8_writeSnapshot_20 rfl (lv_at hl 0 rfl) ?_
    refine va_get (D := (dC, dI)) (ci := 10) (v := .ref (c 105)) (C := RX8) (T := TX8) (N := 10) hx hb hts hin_X8 hown hK hP 0 rfl rfl 3 (by decide) (hts (.fieldLink RX8 40 "BlockLog" "story" "LBlockLog$Story;") (by decide +kernel)) (fun _ h9 => h9) rfl dX8_writeSnapshot_21 ?_
    refine lv_iload_n hx hb dX8_writeSnapshot_24 rfl (lv_at hl 1 rfl) ?_
    refine vp_callSl (va_Run.run (va_runV (As := [.int p0]) (rest := [.ref (c 101)]) ⟨hx, hb, hml, hown, hts⟩ (v_X6_blockOf l dC dI c kc (rU st 5 x5_1) lg (rU ai 4 f4_1) al R p0 (show 0 ≤ (st 26).toInt by omega) (show (st 26).toInt ≤ 128 by omega) (show 0 ≤ (st 28).toInt by omega) (show (st 28).toInt ≤ 1 by omega) (show aR (ai 23) 128 (0) 127 from hR23)) (cwV 1 hts gX8_writeSnapshot_X6_blockOf rfl rfl rfl (by decide +kernel) ⟨Nat.le_of_ble_eq_true rfl, Nat.le_of_ble_eq_true rfl⟩) ⟨fun a U g mk q => by obtain ⟨q0, qP, qK⟩ := q; exact ⟨q0, qP, va_K.moved (u := U) (U := U.calling g mk a) (Vm.Alike.refl U.vm) qK⟩, va_recv hK hP (ci := 8) (q := (RX6, TX6, 12)) rfl (q0 := 5) rfl, fun U hU hW => ⟨rfl, by rw [hU]; exact hP, va_K.moved hW.alike hK⟩⟩ rfl rfl hl.1 rfl (lv_room (Nat.le_of_ble_eq_true rfl)) dX8_writeSnapshot_25 ⟨Nat.le_of_ble_eq_true rfl, Nat.le_of_ble_eq_true rfl⟩)) (fun r_4 er_4 => ?_)
    have hFc := vfree ((cw_D hD : va_D A (cw_W c kc (rU st 5 x5_1) lg (rU ai 4 f4_1) al R)) : va_D A (cw_W c kc (rU st 5 x5_1) lg (rU ai 4 f4_1) al R)) hS hA
    refine va_callv (va_runV (As := [.long r_4]) (rest := []) ⟨hx, hb, hml, hown, hts⟩ (v_X7_appendLong l dC dI c kc (rU st 5 x5_1) lg (rU ai 4 f4_1) al R r_4 _ (show 0 ≤ x5_1.toInt by omega) (show x5_1.toInt ≤ 400 by omega) (show aR f4_1 400 (-128) 127 from hR4)) (cwV 1 hts gX8_writeSnapshot_X7_appendLong rfl rfl rfl (by decide +kernel) ⟨Nat.le_of_ble_eq_true rfl, Nat.le_of_ble_eq_true rfl⟩) ⟨fun a U g mk q => by obtain ⟨q0, q1, qP, qK, qD⟩ := q; exact ⟨q0, q1, qP, va_K.moved (u := U) (U := U.calling g mk a) (Vm.Alike.refl U.vm) qK, qD⟩, va_recv hK hP (ci := 9) (q := (RX7, TX7, 2)) rfl (q0 := 1) rfl, fun U hU hW => ⟨rfl, by rw [hU], by rw [hU]; exact hP, va_K.moved hW.alike hK, ((cw_D hD : va_D A (cw_W c kc (rU st 5 x5_1) lg (rU ai 4 f4_1) al R))).weaken (fun _ _ _ _ => trivial)⟩⟩ rfl rfl hl.1 rfl (lv_room (Nat.le_of_ble_eq_true rfl)) dX8_writeSnapshot_28 ⟨Nat.le_of_ble_eq_true rfl, Nat.le_of_ble_eq_true rfl⟩) hS (fun q _ h => hFc q h) hFc (fun ur_5 t H1 locs ht hvm er_5 hB hz1 hk1 hS => ?_)
    obtain ⟨x5_5, f4_5, k_6, k_7, hR4, hP1⟩ := hB
    rw [ht] at hP1
    clear hFc hz1 hk1 hvm hP
    subst ht
    have hP := hP1
    clear hP1
    generalize t.heap = H at hP hS ⊢
    have hP : va_P (dC, dI) vwCl (cw_W c kc (rU st 5 x5_5) lg (rU ai 4 f4_5) al R) H := hP
    have k_6 : 0 ≤ x5_5.toInt := k_6
    have k_7 : x5_5.toInt ≤ 400 := k_7
    have hR4 : aR f4_5 400 (-128) 127 := hR4
    refine lv_aload_n hx hb dX8_writeSnapshot_31 rfl (lv_at hl 0 rfl) ?_
    refine va_get (D := (dC, dI)) (ci := 10) (v := .ref (c 101)) (C := RX8) (T := TX8) (N := 10) hx hb hts hin_X8 hown hK hP 0 rfl rfl 0 (by decide) (hts (.fieldLink RX8 13 "BlockLog" "tape" "LBlockLog$Tape;") (by decide +kernel)) (fun _ h9 => h9) rfl dX8_writeSnapshot_32 ?_
    refine lv_aload_n hx hb dX8_writeSnapshot_35 rfl (lv_at hl 0 rfl) ?_
    refine va_get (D := (dC, dI)) (ci := 10) (v := .ref (c 105)) (C := RX8) (T := TX8) (N := 10) hx hb hts hin_X8 hown hK hP 0 rfl rfl 3 (by decide) (hts (.fieldLink RX8 40 "BlockLog" "story" "LBlockLog$Story;") (by decide +kernel)) (fun _ h9 => h9) rfl dX8_writeSnapshot_36 ?_
    refine vp_callSi (va_Run.run (va_runV (As := []) (rest := [.ref (c 101)]) ⟨hx, hb, hml, hown, hts⟩ (v_X6_filledSlots l dC dI c kc (rU st 5 x5_5) lg (rU ai 4 f4_5) al R  ) (cwV 0 hts gX8_writeSnapshot_X6_filledSlots rfl rfl rfl (by decide +kernel) ⟨Nat.le_of_ble_eq_true rfl, Nat.le_of_ble_eq_true rfl⟩) ⟨fun a U g mk q => by obtain ⟨q0, qP, qK⟩ := q; exact ⟨q0, qP, va_K.moved (u := U) (U := U.calling g mk a) (Vm.Alike.refl U.vm) qK⟩, va_recv hK hP (ci := 8) (q := (RX6, TX6, 12)) rfl (q0 := 5) rfl, fun U hU hW => ⟨rfl, by rw [hU]; exact hP, va_K.moved hW.alike hK⟩⟩ rfl rfl hl.1 rfl (lv_room (Nat.le_of_ble_eq_true rfl)) dX8_writeSnapshot_39 ⟨Nat.le_of_ble_eq_true rfl, Nat.le_of_ble_eq_true rfl⟩)) (fun r_8 er_8 => ?_)
    obtain ⟨k_9, k_10, hcn⟩ := er_8
    have hcn : r_8.toInt = (cntL (al 24) 16 : Int) := hcn
    have hFc := vfree ((cw_D hD : va_D A (cw_W c kc (rU st 5 x5_5) lg (rU ai 4 f4_5) al R)) : va_D A (cw_W c kc (rU st 5 x5_5) lg (rU ai 4 f4_5) al R)) hS hA
    refine va_callv (va_runV (As := [.int r_8]) (rest := []) ⟨hx, hb, hml, hown, hts⟩ (v_X7_append l dC dI c kc (rU st 5 x5_5) lg (rU ai 4 f4_5) al R r_8 _ (show 0 ≤ x5_5.toInt by omega) (show x5_5.toInt ≤ 400 by omega) (show aR f4_5 400 (-128) 127 from hR4)) (cwV 1 hts gX8_writeSnapshot_X7_append rfl rfl rfl (by decide +kernel) ⟨Nat.le_of_ble_eq_true rfl, Nat.le_of_ble_eq_true rfl⟩) ⟨fun a U g mk q => by obtain ⟨q0, q1, qP, qK, qD⟩ := q; exact ⟨q0, q1, qP, va_K.moved (u := U) (U := U.calling g mk a) (Vm.Alike.refl U.vm) qK, qD⟩, va_recv hK hP (ci := 9) (q := (RX7, TX7, 2)) rfl (q0 := 1) rfl, fun U hU hW => ⟨rfl, by rw [hU], by rw [hU]; exact hP, va_K.moved hW.alike hK, ((cw_D hD : va_D A (cw_W c kc (rU st 5 x5_5) lg (rU ai 4 f4_5) al R))).weaken (fun _ _ _ _ => trivial)⟩⟩ rfl rfl hl.1 rfl (lv_room (Nat.le_of_ble_eq_true rfl)) dX8_writeSnapshot_42 ⟨Nat.le_of_ble_eq_true rfl, Nat.le_of_ble_eq_true rfl⟩) hS (fun q _ h => hFc q h) hFc (fun ur_11 t H1 locs ht hvm er_11 hB hz1 hk1 hS => ?_)
    obtain ⟨x5_11, f4_11, k_12, k_13, hR4, hP1⟩ := hB
    rw [ht] at hP1
    clear hFc hz1 hk1 hvm hP
    subst ht
    have hP := hP1
    clear hP1
    generalize t.heap = H at hP hS ⊢
    have hP : va_P (dC, dI) vwCl (cw_W c kc (rU st 5 x5_11) lg (rU ai 4 f4_11) al R) H := hP
    have k_12 : 0 ≤ x5_11.toInt := k_12
    have k_13 : x5_11.toInt ≤ 400 := k_13
    have hR4 : aR f4_11 400 (-128) 127 := hR4
    refine lv_iconst (v := 0) hx hb dX8_writeSnapshot_45 (by decide) ?_
    refine lv_istore_n (lv' := [(2, .int (0 : Int32)), (0, .ref (c 100)), (1, .int p0)]) hx hb dX8_writeSnapshot_46 rfl hl (by decide) rfl (fun ls hl => ?_)
    have loop47 : ∀ (n : Nat) (l2_47 : Int32) (s5_47 : Int32) (a4_47 : Nat → Int32) (R9_47 : va_W) (H : Heap) (locs : List Loc) (ls : Array Slot), (0 ≤ l2_47.toInt) → (l2_47.toInt ≤ 16) → (0 ≤ s5_47.toInt) → (s5_47.toInt ≤ 400) → (aR a4_47 400 (-128) 127) → (PI (kc 98) (kc 0) (c 99) (st 13) cap num none R9_47) → (va_D A (cw_W c kc st lg ai al R9_47)) → (∀ y m, pgM (kc 0) R y m → pgM (kc 0) R9_47 y m) → (16 - l2_47.toInt : Int).toNat < n → va_P (dC, dI) vwCl (cw_W c kc (rU st 5 s5_47) lg (rU ai 4 a4_47) al R9_47) H → va_S A s.heap H locs → lv_has ls 5 [(2, .int l2_47), (0, .ref (c 100)), (1, .int p0)] → W p l e (headSpec wsX8_writeSnapshot ({ frames := 5, cells := 0, slots := 0, locals := 120 })).room s m ([.ref (c 100), .int p0] : List Value).toArray below meth cM H locs 0 0 (MQ below (va_Qv (fun (_ : Unit) => True) (fun _ t => ∃ (x5 : Int32) (f4 : Nat → Int32) (R9 : va_W), (0 ≤ x5.toInt) ∧ (x5.toInt ≤ 400) ∧ (aR f4 400 (-128) 127) ∧ (PI (kc 98) (kc 0) (c 99) (st 13) cap num none R9) ∧ (∀ y m, pgM (kc 0) R y m → pgM (kc 0) R9 y m) ∧ (va_D A (cw_W c kc (rU st 5 x5) lg (rU ai 4 f4) al R9)) ∧ va_P (dC, dI) vwCl (cw_W c kc (rU st 5 x5) lg (rU ai 4 f4) al R9) t.heap) A) ([.ref (c 100), .int p0] : List Value).toArray s 0 0 A) (F0 m 47 ls []) := by
      intro n
      induction n with
      | zero => intro l2_47 s5_47 a4_47 R9_47 H locs ls if0_47 if1_47 if2_47 if3_47 hR4 hPI hD hmono hm; exact absurd hm (Nat.not_lt_zero _)
      | succ n ih47 =>
        intro l2_47 s5_47 a4_47 R9_47 H locs ls if0_47 if1_47 if2_47 if3_47 hR4 hPI hD hmono hm47 hP hS hl
        refine lv_iload_n hx hb dX8_writeSnapshot_47 rfl (lv_at hl 0 rfl) ?_
        refine lv_bipush (v := 16) hx hb dX8_writeSnapshot_48 (by decide) ?_
        refine lv_icmp_ge (tgt := 138) hx hb dX8_writeSnapshot_50 (by decide) (fun c_14 => ?_) (fun c_14 => ?_)
        · skip
          have ic_14 := iv_le c_14
          refine lv_aload_n hx hb dX8_writeSnapshot_138 rfl (lv_at hl 1 rfl) ?_
          refine va_get (D := (dC, dI)) (ci := 10) (v := .ref (c 101)) (C := RX8) (T := TX8) (N := 10) hx hb hts hin_X8 hown hK hP 0 rfl rfl 0 (by decide) (hts (.fieldLink RX8 13 "BlockLog" "tape" "LBlockLog$Tape;") (by decide +kernel)) (fun _ h9 => h9) rfl dX8_writeSnapshot_139 ?_
          refine lv_aload_n hx hb dX8_writeSnapshot_142 rfl (lv_at hl 1 rfl) ?_
          refine va_get (D := (dC, dI)) (ci := 10) (v := .ref (c 101)) (C := RX8) (T := TX8) (N := 10) hx hb hts hin_X8 hown hK hP 0 rfl rfl 0 (by decide) (hts (.fieldLink RX8 13 "BlockLog" "tape" "LBlockLog$Tape;") (by decide +kernel)) (fun _ h9 => h9) rfl dX8_writeSnapshot_143 ?_
          refine va_getN (D := (dC, dI)) (ci := 9) (v := .ref (c 4)) (C := RX7) (T := TX7) (N := 2) hx hb hts hin_X7 hown hK hP 1 rfl rfl 0 (by decide) (va_Nw.use rfl (hGW.1 ("BlockLog", 96, "BlockLog$Tape", "bytes", "[B", "BlockLog") (by decide +kernel))) (fun _ h9 => h9) rfl dX8_writeSnapshot_146 ?_
          refine lv_iconst (v := 0) hx hb dX8_writeSnapshot_149 (by decide) ?_
          refine lv_aload_n hx hb dX8_writeSnapshot_150 rfl (lv_at hl 1 rfl) ?_
          refine va_get (D := (dC, dI)) (ci := 10) (v := .ref (c 101)) (C := RX8) (T := TX8) (N := 10) hx hb hts hin_X8 hown hK hP 0 rfl rfl 0 (by decide) (hts (.fieldLink RX8 13 "BlockLog" "tape" "LBlockLog$Tape;") (by decide +kernel)) (fun _ h9 => h9) rfl dX8_writeSnapshot_151 ?_
          refine va_getN (D := (dC, dI)) (ci := 9) (v := .int s5_47) (C := RX7) (T := TX7) (N := 2) hx hb hts hin_X7 hown hK hP 1 rfl rfl 1 (by decide) (va_Nw.use rfl (hGW.1 ("BlockLog", 83, "BlockLog$Tape", "count", "I", "BlockLog") (by decide +kernel))) (fun _ h9 => h9) rfl dX8_writeSnapshot_154 ?_
          refine lv_iconst (v := 5) hx hb dX8_writeSnapshot_157 (by decide) ?_
          refine vp_callSl (va_Run.run (va_runS (As := [.ref (c 4), .int (0 : Int32), .int s5_47, .int (5 : Int32)]) (rest := [.ref (c 101)]) ⟨hx, hb, hml, hown, hts⟩ (v_X0_sum l dC dI (cw_W c kc (rU st 5 s5_47) lg (rU ai 4 a4_47) al R9_47) (cw_T kc) (c 4) 400 (kc 4) a4_47 11 3 (0 : Int32) s5_47 (5 : Int32) rfl rfl (by omega) (by omega) (by omega) (by omega)) (va_cwS 4 hts gX8_writeSnapshot_X0_sum rfl rfl rfl (by decide +kernel) ⟨Nat.le_of_ble_eq_true rfl, Nat.le_of_ble_eq_true rfl⟩) ⟨fun a U g mk q => by obtain ⟨q0, qP, qK⟩ := q; exact ⟨q0, qP, va_K.moved (u := U) (U := U.calling g mk a) (Vm.Alike.refl U.vm) qK⟩, fun U hU hW => ⟨rfl, by rw [hU]; exact hP, va_K.moved hW.alike hK⟩⟩ rfl rfl hl.1 rfl (lv_room (Nat.le_of_ble_eq_true rfl)) dX8_writeSnapshot_158 ⟨Nat.le_of_ble_eq_true rfl, Nat.le_of_ble_eq_true rfl⟩)) (fun r_15 er_15 => ?_)
          have hFc := vfree ((cw_D hD : va_D A (cw_W c kc (rU st 5 s5_47) lg (rU ai 4 a4_47) al R9_47)) : va_D A (cw_W c kc (rU st 5 s5_47) lg (rU ai 4 a4_47) al R9_47)) hS hA
          refine va_callv (va_runV (As := [.long r_15]) (rest := []) ⟨hx, hb, hml, hown, hts⟩ (v_X7_appendLong l dC dI c kc (rU st 5 s5_47) lg (rU ai 4 a4_47) al R9_47 r_15 _ (show 0 ≤ s5_47.toInt by omega) (show s5_47.toInt ≤ 400 by omega) (show aR a4_47 400 (-128) 127 from hR4)) (cwV 1 hts gX8_writeSnapshot_X7_appendLong rfl rfl rfl (by decide +kernel) ⟨Nat.le_of_ble_eq_true rfl, Nat.le_of_ble_eq_true rfl⟩) ⟨fun a U g mk q => by obtain ⟨q0, q1, qP, qK, qD⟩ := q; exact ⟨q0, q1, qP, va_K.moved (u := U) (U := U.calling g mk a) (Vm.Alike.refl U.vm) qK, qD⟩, va_recv hK hP (ci := 9) (q := (RX7, TX7, 2)) rfl (q0 := 1) rfl, fun U hU hW => ⟨rfl, by rw [hU], by rw [hU]; exact hP, va_K.moved hW.alike hK, ((cw_D hD : va_D A (cw_W c kc (rU st 5 s5_47) lg (rU ai 4 a4_47) al R9_47))).weaken (fun _ _ _ _ => trivial)⟩⟩ rfl rfl hl.1 rfl (lv_room (Nat.le_of_ble_eq_true rfl)) dX8_writeSnapshot_161 ⟨Nat.le_of_ble_eq_true rfl, Nat.le_of_ble_eq_true rfl⟩) hS (fun q _ h => hFc q h) hFc (fun ur_16 t H1 locs ht hvm er_16 hB hz1 hk1 hS => ?_)
          obtain ⟨x5_16, f4_16, k_17, k_18, hR4, hP1⟩ := hB
          rw [ht] at hP1
          clear hFc hz1 hk1 hvm hP
          subst ht
          have hP := hP1
          clear hP1
          generalize t.heap = H at hP hS ⊢
          have hP : va_P (dC, dI) vwCl (cw_W c kc (rU st 5 x5_16) lg (rU ai 4 f4_16) al R9_47) H := hP
          have k_17 : 0 ≤ x5_16.toInt := k_17
          have k_18 : x5_16.toInt ≤ 400 := k_18
          have hR4 : aR f4_16 400 (-128) 127 := hR4
          exact W.vret hx hb hr (fun t ht hW => ⟨⟨(), rfl, trivial, x5_16, f4_16, R9_47, (by omega), (by omega), hR4, hPI, hmono, (cw_D hD), by rw [ht]; exact hP⟩, hS.F ht⟩) hS.2.2 dX8_writeSnapshot_164
        · skip
          have ic_14 := iv_nle c_14
          refine lv_aload_n hx hb dX8_writeSnapshot_53 rfl (lv_at hl 1 rfl) ?_
          refine va_get (D := (dC, dI)) (ci := 10) (v := .ref (c 105)) (C := RX8) (T := TX8) (N := 10) hx hb hts hin_X8 hown hK hP 0 rfl rfl 3 (by decide) (hts (.fieldLink RX8 40 "BlockLog" "story" "LBlockLog$Story;") (by decide +kernel)) (fun _ h9 => h9) rfl dX8_writeSnapshot_54 ?_
          refine va_getN (D := (dC, dI)) (ci := 8) (v := .ref (c 24)) (C := RX6) (T := TX6) (N := 12) hx hb hts hin_X6 hown hK hP 5 rfl rfl 6 (by decide) (va_Nw.use rfl (hGW.1 ("BlockLog", 218, "BlockLog$Story", "slots", "[J", "BlockLog") (by decide +kernel))) (fun _ h9 => h9) rfl dX8_writeSnapshot_57 ?_
          refine lv_iload_n hx hb dX8_writeSnapshot_60 rfl (lv_at hl 0 rfl) ?_
          refine va_lald (f := al 24) hx hb hK hP 20 12 rfl rfl (iv_in (i := l2_47) (by omega) (by omega)) dX8_writeSnapshot_61 ?_
          refine lv_topl (fun w_19 ew_19 => ?_)
          have hX_story_slots := ew_19
          clear ew_19
          refine lv_lconst (v := 0) hx hb dX8_writeSnapshot_62 (by decide) ?_
          refine W.lcmp hx hb dX8_writeSnapshot_63 ?_
          refine lv_topi (fun v_20 ev_20 => ?_)
          clear ev_20
          refine lv_if_ne (tgt := 71) hx hb dX8_writeSnapshot_64 (by decide) (fun c_21 => ?_) (fun c_21 => ?_)
          · skip
            have ic_21 := iv_ne c_21
            refine lv_aload_n hx hb dX8_writeSnapshot_71 rfl (lv_at hl 1 rfl) ?_
            refine va_get (D := (dC, dI)) (ci := 10) (v := .ref (c 102)) (C := RX8) (T := TX8) (N := 10) hx hb hts hin_X8 hown hK hP 0 rfl rfl 1 (by decide) (hts (.fieldLink RX8 22 "BlockLog" "disk" "LBlockLog$Disk;") (by decide +kernel)) (fun _ h9 => h9) rfl dX8_writeSnapshot_72 ?_
            refine lv_aload_n hx hb dX8_writeSnapshot_75 rfl (lv_at hl 1 rfl) ?_
            refine va_get (D := (dC, dI)) (ci := 10) (v := .ref (c 105)) (C := RX8) (T := TX8) (N := 10) hx hb hts hin_X8 hown hK hP 0 rfl rfl 3 (by decide) (hts (.fieldLink RX8 40 "BlockLog" "story" "LBlockLog$Story;") (by decide +kernel)) (fun _ h9 => h9) rfl dX8_writeSnapshot_76 ?_
            refine va_getN (D := (dC, dI)) (ci := 8) (v := .ref (c 24)) (C := RX6) (T := TX6) (N := 12) hx hb hts hin_X6 hown hK hP 5 rfl rfl 6 (by decide) (va_Nw.use rfl (hGW.1 ("BlockLog", 218, "BlockLog$Story", "slots", "[J", "BlockLog") (by decide +kernel))) (fun _ h9 => h9) rfl dX8_writeSnapshot_79 ?_
            refine lv_iload_n hx hb dX8_writeSnapshot_82 rfl (lv_at hl 0 rfl) ?_
            refine va_lald (f := al 24) hx hb hK hP 20 12 rfl rfl (iv_in (i := l2_47) (by omega) (by omega)) dX8_writeSnapshot_83 ?_
            refine lv_topl (fun w_22 ew_22 => ?_)
            have hX_story_slots := ew_22
            clear ew_22
            have hFc := vfree ((cw_D hD : va_D A (cw_W c kc (rU st 5 s5_47) lg (rU ai 4 a4_47) al R9_47)) : va_D A (cw_W c kc (rU st 5 s5_47) lg (rU ai 4 a4_47) al R9_47)) hS hA
            refine va_callq (va_runV (As := [.long w_22]) (rest := []) ⟨hx, hb, hml, hown, hts⟩ (v_X1_pageOf l dC dI c kc (rU st 5 s5_47) lg (rU ai 4 a4_47) al R9_47 cap num w_22 _ hPI (show 0 ≤ (st 13).toInt by omega) (show (st 13).toInt ≤ 65536 by omega)) (cwV 1 hts gX8_writeSnapshot_X1_pageOf rfl rfl rfl (by decide +kernel) ⟨Nat.le_of_ble_eq_true rfl, Nat.le_of_ble_eq_true rfl⟩) ⟨fun a U g mk q => by obtain ⟨q0, q1, qP, qK, qD, qG⟩ := q; exact ⟨q0, q1, qP, va_K.moved (u := U) (U := U.calling g mk a) (Vm.Alike.refl U.vm) qK, qD, qG.same rfl rfl⟩, va_recv hK hP (ci := 3) (q := (RX1, TX1, 7)) rfl (q0 := 2) rfl, fun U hU hW => ⟨rfl, by rw [hU], by rw [hU]; exact hP, va_K.moved hW.alike hK, ((cw_D hD : va_D A (cw_W c kc (rU st 5 s5_47) lg (rU ai 4 a4_47) al R9_47))).weaken (fun _ _ _ _ => trivial), hG.go hW hU hS hFc⟩⟩ rfl rfl hl.1 rfl (lv_room (Nat.le_of_ble_eq_true rfl)) dX8_writeSnapshot_84 ⟨Nat.le_of_ble_eq_true rfl, Nat.le_of_ble_eq_true rfl⟩) hS (fun q _ h => hFc q h) hFc (fun r_23 ur_23 t H1 locs ht hvm er_23 hB hz1 hk1 hS => ?_)
            subst er_23
            obtain ⟨R_23, hq, hPI, hmo, hD1, hP1⟩ := hB
            rw [ht] at hP1
            clear hz1 hk1 hvm hP
            subst ht
            have hP := hP1
            clear hP1
            generalize t.heap = H at hP hS ⊢
            have hP : va_P (dC, dI) vwCl (cw_W c kc (rU st 5 s5_47) lg (rU ai 4 a4_47) al R_23) H := hP
            have hD : va_D A (cw_W c kc st lg ai al R_23) := cw_D (hD1.weaken (fun _ _ _ h => hFc _ h))
            have hPI : PI (kc 98) (kc 0) (c 99) (st 13) cap num none R_23 := hPI
            clear hFc hD1
            have hmono : ∀ y m, pgM (kc 0) R y m → pgM (kc 0) R_23 y m := fun y m h => hmo y m (hmono y m h)
            have hq : ∀ x, r_23 = some x → ∃ m, pgM (kc 0) R_23 x m ∧ pgRt (kc 0) R_23 x := hq
            rcases r_23 with _ | x_24
            · skip
              refine W.eq (g2 := F0 m 87 ls [.null]) rfl ?_
              refine lv_astore_nN (lv' := [(3, .null), (2, .int l2_47), (0, .ref (c 100)), (1, .int p0)]) hx hb dX8_writeSnapshot_87 rfl hl (by decide) rfl (fun ls hl => ?_)
              refine lv_aload_nN hx hb dX8_writeSnapshot_88 rfl (lv_at hl 0 rfl) ?_
              refine lv_ifnullN (tgt := 132) hx hb dX8_writeSnapshot_89 (by decide) ?_
              obtain ⟨x_26, ex_26⟩ : ∃ z : Int32, z = l2_47 + (1) := ⟨_, rfl⟩
              refine lv_iinc (v := x_26) (lv' := [(2, .int x_26), (3, .null), (0, .ref (c 100)), (1, .int p0)]) hx hb dX8_writeSnapshot_132 hl (k := 1) rfl (by rw [ex_26]; rfl) (by decide) rfl (fun ls hl => ?_)
              have rg1 := iv_rng l2_47
              have hx_26 : x_26.toInt = l2_47.toInt + (1) := by rw [ex_26]; exact (iv_add (by omega) (by omega)).trans (by omega)
              clear ex_26
              refine lv_goto (tgt := 47) hx hb dX8_writeSnapshot_135 (by decide) ?_
              exact ih47 x_26 s5_47 a4_47 R_23 _ _ _ (by omega) (by omega) (by omega) (by omega) (by assumption) hPI (cw_D hD) hmono (by omega) hP hS (lv_sub hl [0, 2, 3] rfl)
            · skip
              refine W.eq (g2 := F0 m 87 ls [.ref x_24]) rfl ?_
              obtain ⟨m_25, hM_x_24, hQ⟩ := hq x_24 rfl
              refine lv_astore_n (lv' := [(3, .ref x_24), (2, .int l2_47), (0, .ref (c 100)), (1, .int p0)]) hx hb dX8_writeSnapshot_87 rfl hl (by decide) rfl (fun ls hl => ?_)
              refine lv_aload_n hx hb dX8_writeSnapshot_88 rfl (lv_at hl 0 rfl) ?_
              refine lv_ifnull hx hb dX8_writeSnapshot_89 ?_
              refine lv_aload_n hx hb dX8_writeSnapshot_92 rfl (lv_at hl 2 rfl) ?_
              refine va_get (D := (dC, dI)) (ci := 10) (v := .ref (c 101)) (C := RX8) (T := TX8) (N := 10) hx hb hts hin_X8 hown hK hP 0 rfl rfl 0 (by decide) (hts (.fieldLink RX8 13 "BlockLog" "tape" "LBlockLog$Tape;") (by decide +kernel)) (fun _ h9 => h9) rfl dX8_writeSnapshot_93 ?_
              refine lv_iload_n hx hb dX8_writeSnapshot_96 rfl (lv_at hl 1 rfl) ?_
              have hFc := vfree ((cw_D hD : va_D A (cw_W c kc (rU st 5 s5_47) lg (rU ai 4 a4_47) al R_23)) : va_D A (cw_W c kc (rU st 5 s5_47) lg (rU ai 4 a4_47) al R_23)) hS hA
              refine va_callv (va_runV (As := [.int l2_47]) (rest := []) ⟨hx, hb, hml, hown, hts⟩ (v_X7_append l dC dI c kc (rU st 5 s5_47) lg (rU ai 4 a4_47) al R_23 l2_47 _ (show 0 ≤ s5_47.toInt by omega) (show s5_47.toInt ≤ 400 by omega) (show aR a4_47 400 (-128) 127 from hR4)) (cwV 1 hts gX8_writeSnapshot_X7_append rfl rfl rfl (by decide +kernel) ⟨Nat.le_of_ble_eq_true rfl, Nat.le_of_ble_eq_true rfl⟩) ⟨fun a U g mk q => by obtain ⟨q0, q1, qP, qK, qD⟩ := q; exact ⟨q0, q1, qP, va_K.moved (u := U) (U := U.calling g mk a) (Vm.Alike.refl U.vm) qK, qD⟩, va_recv hK hP (ci := 9) (q := (RX7, TX7, 2)) rfl (q0 := 1) rfl, fun U hU hW => ⟨rfl, by rw [hU], by rw [hU]; exact hP, va_K.moved hW.alike hK, ((cw_D hD : va_D A (cw_W c kc (rU st 5 s5_47) lg (rU ai 4 a4_47) al R_23))).weaken (fun _ _ _ _ => trivial)⟩⟩ rfl rfl hl.1 rfl (lv_room (Nat.le_of_ble_eq_true rfl)) dX8_writeSnapshot_97 ⟨Nat.le_of_ble_eq_true rfl, Nat.le_of_ble_eq_true rfl⟩) hS (fun q _ h => hFc q h) hFc (fun ur_27 t H1 locs ht hvm er_27 hB hz1 hk1 hS => ?_)
              obtain ⟨x5_27, f4_27, k_28, k_29, hR4, hP1⟩ := hB
              rw [ht] at hP1
              clear hFc hz1 hk1 hvm hP
              subst ht
              have hP := hP1
              clear hP1
              generalize t.heap = H at hP hS ⊢
              have hP : va_P (dC, dI) vwCl (cw_W c kc (rU st 5 x5_27) lg (rU ai 4 f4_27) al R_23) H := hP
              have k_28 : 0 ≤ x5_27.toInt := k_28
              have k_29 : x5_27.toInt ≤ 400 := k_29
              have hR4 : aR f4_27 400 (-128) 127 := hR4
              refine lv_iconst (v := 0) hx hb dX8_writeSnapshot_100 (by decide) ?_
              refine lv_istore (lv' := [(4, .int (0 : Int32)), (3, .ref x_24), (2, .int l2_47), (0, .ref (c 100)), (1, .int p0)]) hx hb dX8_writeSnapshot_101 hl (by decide) rfl (fun ls hl => ?_)
              have loop103 : ∀ (n : Nat) (l4_103 : Int32) (s5_103 : Int32) (a4_103 : Nat → Int32) (H : Heap) (locs : List Loc) (ls : Array Slot), (0 ≤ l4_103.toInt) → (l4_103.toInt ≤ 17) → (0 ≤ s5_103.toInt) → (s5_103.toInt ≤ 400) → (aR a4_103 400 (-128) 127) → (17 - l4_103.toInt : Int).toNat < n → va_P (dC, dI) vwCl (cw_W c kc (rU st 5 s5_103) lg (rU ai 4 a4_103) al R_23) H → va_S A s.heap H locs → lv_has ls 5 [(4, .int l4_103), (3, .ref x_24), (2, .int l2_47), (0, .ref (c 100)), (1, .int p0)] → W p l e (headSpec wsX8_writeSnapshot ({ frames := 5, cells := 0, slots := 0, locals := 120 })).room s m ([.ref (c 100), .int p0] : List Value).toArray below meth cM H locs 0 0 (MQ below (va_Qv (fun (_ : Unit) => True) (fun _ t => ∃ (x5 : Int32) (f4 : Nat → Int32) (R9 : va_W), (0 ≤ x5.toInt) ∧ (x5.toInt ≤ 400) ∧ (aR f4 400 (-128) 127) ∧ (PI (kc 98) (kc 0) (c 99) (st 13) cap num none R9) ∧ (∀ y m, pgM (kc 0) R y m → pgM (kc 0) R9 y m) ∧ (va_D A (cw_W c kc (rU st 5 x5) lg (rU ai 4 f4) al R9)) ∧ va_P (dC, dI) vwCl (cw_W c kc (rU st 5 x5) lg (rU ai 4 f4) al R9) t.heap) A) ([.ref (c 100), .int p0] : List Value).toArray s 0 0 A) (F0 m 103 ls []) := by
                intro n
                induction n with
                | zero => intro l4_103 s5_103 a4_103 H locs ls if0_103 if1_103 if2_103 if3_103 hR4 hm; exact absurd hm (Nat.not_lt_zero _)
                | succ n ih103 =>
                  intro l4_103 s5_103 a4_103 H locs ls if0_103 if1_103 if2_103 if3_103 hR4 hm103 hP hS hl
                  refine lv_iload hx hb dX8_writeSnapshot_103 (lv_at hl 0 rfl) ?_
                  refine lv_aload_n hx hb dX8_writeSnapshot_105 rfl (lv_at hl 1 rfl) ?_
                  have hMo := hM_x_24
                  obtain ⟨b_30, k9_30, f9_30, ⟨j_30, hj_30⟩, i_30, hi_30⟩ := hMo
                  refine vp_callSi (va_Run.run (va_runV (As := []) (rest := [.int l4_103]) ⟨hx, hb, hml, hown, hts⟩ (v_X2_size l dC dI c kc (rU st 5 s5_103) lg (rU ai 4 a4_103) al R_23 x_24 b_30 j_30 i_30 m_25 k9_30 f9_30  hj_30 hi_30 ) (cwV 0 hts gX8_writeSnapshot_X2_size rfl rfl rfl (by decide +kernel) ⟨Nat.le_of_ble_eq_true rfl, Nat.le_of_ble_eq_true rfl⟩) ⟨fun a U g mk q => by obtain ⟨q0, qP, qK⟩ := q; exact ⟨q0, qP, va_K.moved (u := U) (U := U.calling g mk a) (Vm.Alike.refl U.vm) qK⟩, va_recv hK hP (ci := 4) (q := (RX2, TX2, 3)) rfl (q0 := 26 + j_30) (cw_at hj_30), fun U hU hW => ⟨rfl, by rw [hU]; exact hP, va_K.moved hW.alike hK⟩⟩ rfl rfl hl.1 rfl (lv_room (Nat.le_of_ble_eq_true rfl)) dX8_writeSnapshot_106 ⟨Nat.le_of_ble_eq_true rfl, Nat.le_of_ble_eq_true rfl⟩)) (fun r_31 er_31 => ?_)
                  have hz := er_31
                  have hz : r_31 = f9_30 0 := hz
                  have k_32 : (1 ≤ r_31.toInt ∧ r_31.toInt ≤ 16) := (by rw [hz]; exact pgRt_f hPI.1 hQ hj_30 hi_30)
                  refine lv_icmp_gt (tgt := 132) hx hb dX8_writeSnapshot_109 (by decide) (fun c_33 => ?_) (fun c_33 => ?_)
                  · skip
                    have ic_33 := iv_lt c_33
                    obtain ⟨x_34, ex_34⟩ : ∃ z : Int32, z = l2_47 + (1) := ⟨_, rfl⟩
                    refine lv_iinc (v := x_34) (lv' := [(2, .int x_34), (4, .int l4_103), (3, .ref x_24), (0, .ref (c 100)), (1, .int p0)]) hx hb dX8_writeSnapshot_132 hl (k := 2) rfl (by rw [ex_34]; rfl) (by decide) rfl (fun ls hl => ?_)
                    have rg2 := iv_rng l2_47
                    have hx_34 : x_34.toInt = l2_47.toInt + (1) := by rw [ex_34]; exact (iv_add (by omega) (by omega)).trans (by omega)
                    clear ex_34
                    refine lv_goto (tgt := 47) hx hb dX8_writeSnapshot_135 (by decide) ?_
                    exact ih47 x_34 s5_103 a4_103 R_23 _ _ _ (by omega) (by omega) (by omega) (by omega) (by assumption) hPI (cw_D hD) hmono (by omega) hP hS (lv_sub hl [0, 3, 4] rfl)
                  · skip
                    have ic_33 := iv_nlt c_33
                    refine lv_aload_n hx hb dX8_writeSnapshot_112 rfl (lv_at hl 3 rfl) ?_
                    refine va_get (D := (dC, dI)) (ci := 10) (v := .ref (c 101)) (C := RX8) (T := TX8) (N := 10) hx hb hts hin_X8 hown hK hP 0 rfl rfl 0 (by decide) (hts (.fieldLink RX8 13 "BlockLog" "tape" "LBlockLog$Tape;") (by decide +kernel)) (fun _ h9 => h9) rfl dX8_writeSnapshot_113 ?_
                    refine lv_aload_n hx hb dX8_writeSnapshot_116 rfl (lv_at hl 1 rfl) ?_
                    refine va_getN (D := (dC, dI)) (ci := 4) (v := .ref b_30) (C := RX2) (T := TX2) (N := 3) hx hb hts hin_X2 hown hK hP (26 + j_30) (cw_at hj_30) rfl 1 (by decide) (va_Nw.use rfl (hGW.1 ("BlockLog", 236, "BlockLog$Page", "bytes", "[B", "BlockLog") (by decide +kernel))) (fun _ h9 => h9) rfl dX8_writeSnapshot_117 ?_
                    refine lv_iload hx hb dX8_writeSnapshot_120 (lv_at hl 0 rfl) ?_
                    refine va_bald (f := f9_30) hx hb hK hP (26 + i_30) 0 (cw_at hi_30) rfl (iv_in (i := l4_103) (by omega) (by omega)) dX8_writeSnapshot_122 ?_
                    refine lv_topi (fun v_35 ev_35 => ?_)
                    clear ev_35
                    have hFc := vfree ((cw_D hD : va_D A (cw_W c kc (rU st 5 s5_103) lg (rU ai 4 a4_103) al R_23)) : va_D A (cw_W c kc (rU st 5 s5_103) lg (rU ai 4 a4_103) al R_23)) hS hA
                    refine va_callv (va_runV (As := [.int v_35]) (rest := []) ⟨hx, hb, hml, hown, hts⟩ (v_X7_append l dC dI c kc (rU st 5 s5_103) lg (rU ai 4 a4_103) al R_23 v_35 _ (show 0 ≤ s5_103.toInt by omega) (show s5_103.toInt ≤ 400 by omega) (show aR a4_103 400 (-128) 127 from hR4)) (cwV 1 hts gX8_writeSnapshot_X7_append rfl rfl rfl (by decide +kernel) ⟨Nat.le_of_ble_eq_true rfl, Nat.le_of_ble_eq_true rfl⟩) ⟨fun a U g mk q => by obtain ⟨q0, q1, qP, qK, qD⟩ := q; exact ⟨q0, q1, qP, va_K.moved (u := U) (U := U.calling g mk a) (Vm.Alike.refl U.vm) qK, qD⟩, va_recv hK hP (ci := 9) (q := (RX7, TX7, 2)) rfl (q0 := 1) rfl, fun U hU hW => ⟨rfl, by rw [hU], by rw [hU]; exact hP, va_K.moved hW.alike hK, ((cw_D hD : va_D A (cw_W c kc (rU st 5 s5_103) lg (rU ai 4 a4_103) al R_23))).weaken (fun _ _ _ _ => trivial)⟩⟩ rfl rfl hl.1 rfl (lv_room (Nat.le_of_ble_eq_true rfl)) dX8_writeSnapshot_123 ⟨Nat.le_of_ble_eq_true rfl, Nat.le_of_ble_eq_true rfl⟩) hS (fun q _ h => hFc q h) hFc (fun ur_36 t H1 locs ht hvm er_36 hB hz1 hk1 hS => ?_)
                    obtain ⟨x5_36, f4_36, k_37, k_38, hR4, hP1⟩ := hB
                    rw [ht] at hP1
                    clear hFc hz1 hk1 hvm hP
                    subst ht
                    have hP := hP1
                    clear hP1
                    generalize t.heap = H at hP hS ⊢
                    have hP : va_P (dC, dI) vwCl (cw_W c kc (rU st 5 x5_36) lg (rU ai 4 f4_36) al R_23) H := hP
                    have k_37 : 0 ≤ x5_36.toInt := k_37
                    have k_38 : x5_36.toInt ≤ 400 := k_38
                    have hR4 : aR f4_36 400 (-128) 127 := hR4
                    obtain ⟨x_39, ex_39⟩ : ∃ z : Int32, z = l4_103 + (1) := ⟨_, rfl⟩
                    refine lv_iinc (v := x_39) (lv' := [(4, .int x_39), (3, .ref x_24), (2, .int l2_47), (0, .ref (c 100)), (1, .int p0)]) hx hb dX8_writeSnapshot_126 hl (k := 0) rfl (by rw [ex_39]; rfl) (by decide) rfl (fun ls hl => ?_)
                    have rg3 := iv_rng l4_103
                    have hx_39 : x_39.toInt = l4_103.toInt + (1) := by rw [ex_39]; exact (iv_add (by omega) (by omega)).trans (by omega)
                    clear ex_39
                    refine lv_goto (tgt := 103) hx hb dX8_writeSnapshot_129 (by decide) ?_
                    exact ih103 x_39 x5_36 f4_36 _ _ _ (by omega) (by omega) (by omega) (by omega) (by assumption) (by omega) hP hS (lv_sub hl [0, 1, 2, 3, 4] rfl)
              exact loop103 ((17 - 0 : Int).toNat + 1) (0 : Int32) x5_27 f4_27 _ _ _ (by omega) (by omega) (by omega) (by omega) (by assumption) (by omega) hP hS (lv_sub hl [0, 1, 2, 3, 4] rfl)
          · skip
            have ic_21 := iv_eq c_21
            refine lv_null hx hb dX8_writeSnapshot_67 ?_
            refine lv_goto (tgt := 87) hx hb dX8_writeSnapshot_68 (by decide) ?_
            refine lv_astore_nN (lv' := [(3, .null), (2, .int l2_47), (0, .ref (c 100)), (1, .int p0)]) hx hb dX8_writeSnapshot_87 rfl hl (by decide) rfl (fun ls hl => ?_)
            refine lv_aload_nN hx hb dX8_writeSnapshot_88 rfl (lv_at hl 0 rfl) ?_
            refine lv_ifnullN (tgt := 132) hx hb dX8_writeSnapshot_89 (by decide) ?_
            obtain ⟨x_40, ex_40⟩ : ∃ z : Int32, z = l2_47 + (1) := ⟨_, rfl⟩
            refine lv_iinc (v := x_40) (lv' := [(2, .int x_40), (3, .null), (0, .ref (c 100)), (1, .int p0)]) hx hb dX8_writeSnapshot_132 hl (k := 1) rfl (by rw [ex_40]; rfl) (by decide) rfl (fun ls hl => ?_)
            have rg4 := iv_rng l2_47
            have hx_40 : x_40.toInt = l2_47.toInt + (1) := by rw [ex_40]; exact (iv_add (by omega) (by omega)).trans (by omega)
            clear ex_40
            refine lv_goto (tgt := 47) hx hb dX8_writeSnapshot_135 (by decide) ?_
            exact ih47 x_40 s5_47 a4_47 R9_47 _ _ _ (by omega) (by omega) (by omega) (by omega) (by assumption) hPI (cw_D hD) hmono (by omega) hP hS (lv_sub hl [0, 2, 3] rfl)
    exact loop47 ((16 - 0 : Int).toNat + 1) (0 : Int32) x5_11 f4_11 R _ _ _ (by omega) (by omega) (by omega) (by omega) (by assumption) hPI (cw_D hD) hmono (by omega) hP hS (lv_sub hl [0, 1, 2] rfl)
  exact main s.heap [] hP hS

set_option maxHeartbeats 4000000 in
set_option maxRecDepth 100000 in
theorem v_X8_out (l : Launch) (hl0 : l.stackTraces = false) (dC : Nat → ClassId) (dI : Nat → Nat → Nat) (c : Nat → Nat) (kc : Nat → ClassId) (st : Nat → Int32) (lg : Nat → Int64) (ai : Nat → Nat → Int32) (al : Nat → Nat → Int64) (R : va_W) (cap : Nat) (num : Nat → Int32) (p0 : Int32) (sz : Nat) (hPI : PI (kc 98) (kc 0) (c 99) (st 13) cap num none R) (hf5a : 0 ≤ (st 5).toInt) (hf5b : (st 5).toInt ≤ 400) (hf9a : 0 ≤ (st 9).toInt) (hf9b : (st 9).toInt ≤ 1) (hf13a : 0 ≤ (st 13).toInt) (hf13b : (st 13).toInt ≤ 65536) (hf15a : 0 ≤ (st 15).toInt) (hf15b : (st 15).toInt ≤ 1) (hf25a : 0 ≤ (st 25).toInt) (hf25b : (st 25).toInt ≤ 128) (hf26a : 0 ≤ (st 26).toInt) (hf26b : (st 26).toInt ≤ 128) (hf28a : 0 ≤ (st 28).toInt) (hf28b : (st 28).toInt ≤ 1) (hR4 : aR (ai 4) 400 (-128) 127) (hR23 : aR (ai 23) 128 (0) 127) : vx_Met l yX8_out wsX8_out ({ frames := 7, cells := 2, slots := 12, locals := 144 }) (va_Pc [.ref (c 100), .int p0] (fun U => U.heap.size = sz ∧ va_P (dC, dI) vwCl (cw_W c kc st lg ai al R) U.heap ∧ va_K (dC, dI) vwCl (cw_T kc) U ∧ va_D (fun _ => True) (cw_W c kc st lg ai al R) ∧ gx_E (va_A (cw_W c kc st lg ai al R) sz) U)) (va_Qi (fun r (u : Int32) => r = u) (fun u t => ∃ (x5 : Int32) (f4 : Nat → Int32) (g24 : Nat → Int64) (R9 : va_W), (0 ≤ x5.toInt) ∧ (x5.toInt ≤ 400) ∧ (aR f4 400 (-128) 127) ∧ (PI (kc 98) (kc 0) (c 99) (st 13) cap num none R9) ∧ (∀ y m, pgM (kc 0) R y m → pgM (kc 0) R9 y m) ∧ (va_D (va_A (cw_W c kc st lg ai al R) sz) (cw_W c kc (rU st 5 x5) lg (rU ai 4 f4) (rU al 24 g24) R9)) ∧ va_P (dC, dI) vwCl (cw_W c kc (rU st 5 x5) lg (rU ai 4 f4) (rU al 24 g24) R9) t.heap) (va_A (cw_W c kc st lg ai al R) sz)) (vx_X (fun _ : Unit => True) (fun E _ t => E ∈ (["java/lang/IllegalArgumentException", "java/lang/IllegalStateException"] : List String) ∧ ∃ (x5 : Int32) (f4 : Nat → Int32) (g24 : Nat → Int64) (R9 : va_W), (0 ≤ x5.toInt) ∧ (x5.toInt ≤ 400) ∧ (aR f4 400 (-128) 127) ∧ (PI (kc 98) (kc 0) (c 99) (st 13) cap num none R9) ∧ (∀ y m, pgM (kc 0) R y m → pgM (kc 0) R9 y m) ∧ (va_D (va_A (cw_W c kc st lg ai al R) sz) (cw_W c kc (rU st 5 x5) lg (rU ai 4 f4) (rU al 24 g24) R9)) ∧ va_P (dC, dI) vwCl (cw_W c kc (rU st 5 x5) lg (rU ai 4 f4) (rU al 24 g24) R9) t.heap) (va_A (cw_W c kc st lg ai al R) sz)) 2 12 (va_A (cw_W c kc st lg ai al R) sz) := by
  refine vx_ofW (cc := cX8_out) (maxL := 3) (ret := (some .int)) (by decide) rfl ?_
  intro p e s m args below meth cM s₁ B hml hno hv
  obtain ⟨rfl, hsz, hP, hK, hD0, hG⟩ := hv
  have hx := B.exec
  have hb := B.bytes
  have hr := B.returns
  have hts := atoms_spec (ws := wsX8_out) B.pre
  have hown : s.vm.findClass RX8 = some m.cls := findClass_of_methodNamed B.named
  have hGW := hG.1
  have hlocks := B.notSynchronized
  subst hsz
  have hD := hD0.self (sz := s.heap.size)
  generalize hAe : va_A (cw_W c kc st lg ai al R) s.heap.size = A at hD hG ⊢
  have hA : ∀ q : Nat, s.heap.size ≤ q → A q := fun q h => by rw [← hAe]; exact Or.inr h
  have hS : va_S A s.heap s.heap [] := va_S.rf
  clear hAe hD0
  have hl := lv_entry ([.ref (c 100), .int p0]) (n := 3) (Nat.le_of_ble_eq_true rfl)
  rw [lg_entry_eq]
  generalize (lg_sl ([.ref (c 100), .int p0]) ++ List.replicate (3 - (lg_sl ([.ref (c 100), .int p0])).length) Slot.unset).toArray = ls at hl ⊢
  have hl : lv_has ls 3 [(0, .ref (c 100)), (1, .int p0)] := hl
  have z_m6 : (-6 : Int32).toInt = -6 := by decide
  have z_0 : (0 : Int32).toInt = 0 := by decide
  have z_1 : (1 : Int32).toInt = 1 := by decide
  have z_16 : (16 : Int32).toInt = 16 := by decide
  have hin_X6 : ∀ w ∈ u_ws RX6 TX6 12, w ∈ wsX8_out := by decide +kernel
  have hin_X7 : ∀ w ∈ u_ws RX7 TX7 2, w ∈ wsX8_out := by decide +kernel
  have hin_X8 : ∀ w ∈ u_ws RX8 TX8 10, w ∈ wsX8_out := by decide +kernel
  have hmono : ∀ y m, pgM (kc 0) R y m → pgM (kc 0) R y m := fun y m h => h
  have main : ∀ (H : Heap) (locs : List Loc), va_P (dC, dI) vwCl (cw_W c kc st lg ai al R) H → va_S A s.heap H locs → W p l e (headSpec wsX8_out ({ frames := 7, cells := 2, slots := 12, locals := 144 })).room s m ([.ref (c 100), .int p0] : List Value).toArray below meth cM H locs 0 0 (vx_MQ below (va_Qi (fun r (u : Int32) => r = u) (fun u t => ∃ (x5 : Int32) (f4 : Nat → Int32) (g24 : Nat → Int64) (R9 : va_W), (0 ≤ x5.toInt) ∧ (x5.toInt ≤ 400) ∧ (aR f4 400 (-128) 127) ∧ (PI (kc 98) (kc 0) (c 99) (st 13) cap num none R9) ∧ (∀ y m, pgM (kc 0) R y m → pgM (kc 0) R9 y m) ∧ (va_D A (cw_W c kc (rU st 5 x5) lg (rU ai 4 f4) (rU al 24 g24) R9)) ∧ va_P (dC, dI) vwCl (cw_W c kc (rU st 5 x5) lg (rU ai 4 f4) (rU al 24 g24) R9) t.heap) A) (vx_X (fun _ : Unit => True) (fun E _ t => E ∈ (["java/lang/IllegalArgumentException", "java/lang/IllegalStateException"] : List String) ∧ ∃ (x5 : Int32) (f4 : Nat → Int32) (g24 : Nat → Int64) (R9 : va_W), (0 ≤ x5.toInt) ∧ (x5.toInt ≤ 400) ∧ (aR f4 400 (-128) 127) ∧ (PI (kc 98) (kc 0) (c 99) (st 13) cap num none R9) ∧ (∀ y m, pgM (kc 0) R y m → pgM (kc 0) R9 y m) ∧ (va_D A (cw_W c kc (rU st 5 x5) lg (rU ai 4 f4) (rU al 24 g24) R9)) ∧ va_P (dC, dI) vwCl (cw_W c kc (rU st 5 x5) lg (rU ai 4 f4) (rU al 24 g24) R9) t.heap) A) ([.ref (c 100), .int p0] : List Value).toArray s 2 12 A) (F0 m 0 ls []) := by
    intro H locs hP hS
    refine lv_aload_n hx hb dX8_out_0 rfl (lv_at hl 0 rfl) ?_
    have hFc := vfree ((cw_D hD : va_D A (cw_W c kc st lg ai al R)) : va_D A (cw_W c kc st lg ai al R)) hS hA
    refine vx_callv (vx_runV (As := []) (rest := []) ⟨hx, hb, hml, hown, hts⟩ (v_X8_demandPower l hl0 dC dI c kc st lg ai al R  _ (show 0 ≤ (st 9).toInt by omega) (show (st 9).toInt ≤ 1 by omega)) (cwV 0 hts gX8_out_X8_demandPower rfl rfl rfl (by decide +kernel) ⟨Nat.le_of_ble_eq_true rfl, Nat.le_of_ble_eq_true rfl⟩) ⟨fun a U g mk q => by obtain ⟨q0, q1, qP, qK, qD, qG⟩ := q; exact ⟨q0, q1, qP, va_K.moved (u := U) (U := U.calling g mk a) (Vm.Alike.refl U.vm) qK, qD, qG.same rfl rfl⟩, va_recv hK hP (ci := 10) (q := (RX8, TX8, 10)) rfl (q0 := 0) rfl, fun U hU hW => ⟨rfl, by rw [hU], by rw [hU]; exact hP, va_K.moved hW.alike hK, ((cw_D hD : va_D A (cw_W c kc st lg ai al R))).weaken (fun _ _ _ _ => trivial), hG.go hW hU hS hFc⟩⟩ rfl rfl hl.1 rfl (lv_room (Nat.le_of_ble_eq_true rfl)) dX8_out_1 ⟨Nat.le_of_ble_eq_true rfl, Nat.le_of_ble_eq_true rfl⟩) hS (fun q _ h => hFc q h) hFc (fun q _ h => hFc q h) (fun E9 ce q9 u t H1 locs ht hvm hp hE hz hk hS hcell hv hcl => ?_) (fun ur_1 t H1 locs ht hvm er_1 hB hz1 hk1 hS => ?_)
    · skip
      obtain ⟨hE, hP1⟩ := hE
      rw [ht] at hP1
      have hP : va_P (dC, dI) vwCl (cw_W c kc st lg ai al R) H1 := hP1
      exact vx_out (fun x h => (hno x h).elim) hlocks hcell hv hcl (fun t ht hW => ⟨(), trivial, ⟨(show ∀ x ∈ (["java/lang/IllegalStateException"] : List String), x ∈ (["java/lang/IllegalArgumentException", "java/lang/IllegalStateException"] : List String) by decide +kernel) _ hE, st 5, ai 4, al 24, R, (by omega), (by omega), hR4, hPI, hmono, (cw_D hD), by rw [ht]; exact hP⟩, hS.F ht⟩) hS.2.2 (Nat.le_of_ble_eq_true rfl) (Nat.le_of_ble_eq_true rfl)
    · skip
      have hP1 : va_P (dC, dI) vwCl (cw_W c kc st lg ai al R) t.heap := hB
      rw [ht] at hP1
      clear hFc hz1 hk1 hvm hP
      subst ht
      have hP := hP1
      clear hP1
      generalize t.heap = H at hP hS ⊢
      have hP : va_P (dC, dI) vwCl (cw_W c kc st lg ai al R) H := hP
      refine lv_iload_n hx hb dX8_out_4 rfl (lv_at hl 1 rfl) ?_
      refine lv_if_eq (tgt := 19) hx hb dX8_out_5 (by decide) (fun c_2 => ?_) (fun c_2 => ?_)
      · skip
        have ic_2 := iv_eq c_2
        obtain ⟨sa, hstr⟩ := hGW.2.1 ("BlockLog", 261, "the version is not kept, or 0") (by decide +kernel)
        exact vx_throwSW (names := ["java/lang/RuntimeException", "java/lang/Exception"]) hx hb hl0 hown (by decide +kernel) (by decide +kernel) (hts (.classLink RX8 76 "java/lang/IllegalArgumentException") (by decide +kernel)) (hts (.initialized "java/lang/IllegalArgumentException") (by decide +kernel)) hstr (vx_hat (B := gx_bad "java/lang/IllegalArgumentException") (fun w h => hts w (List.mem_cons_of_mem _ (List.mem_append_left _ (List.mem_append_right _ h)))) (by decide +kernel) (hGW.bad (by decide))) (by decide +kernel) hG.2.1 hG.2.2.1 hS (hl.1.trans hml.symm) dX8_out_19 dX8_out_22 dX8_out_23 dX8_out_26 dX8_out_29 (fun x h => (hno x h).elim) (Nat.le_of_ble_eq_true rfl) (Nat.le_of_ble_eq_true rfl) (Nat.le_of_ble_eq_true rfl) (Nat.le_of_ble_eq_true rfl) hlocks (fun t _ h1 h2 => ⟨(), trivial, ⟨(by decide +kernel), st 5, ai 4, al 24, R, (by omega), (by omega), hR4, hPI, hmono, (cw_D hD), hP.kept (fun k q hk => h2 _ (hP k q hk).lt)⟩, Nat.le_trans hS.1 h1, fun q hq hn => (h2 q (Nat.lt_of_lt_of_le hq hS.1)).trans (hS.2.1 q hq hn)⟩) hS.2.2 (Nat.le_of_ble_eq_true rfl) (Nat.le_of_ble_eq_true rfl)
      · skip
        have ic_2 := iv_ne c_2
        refine lv_aload_n hx hb dX8_out_8 rfl (lv_at hl 0 rfl) ?_
        refine va_get (D := (dC, dI)) (ci := 10) (v := .ref (c 105)) (C := RX8) (T := TX8) (N := 10) hx hb hts hin_X8 hown hK hP 0 rfl rfl 3 (by decide) (hts (.fieldLink RX8 40 "BlockLog" "story" "LBlockLog$Story;") (by decide +kernel)) (fun _ h9 => h9) rfl dX8_out_9 ?_
        refine lv_iload_n hx hb dX8_out_12 rfl (lv_at hl 1 rfl) ?_
        refine vp_callSi (va_Run.run (va_runV (As := [.int p0]) (rest := []) ⟨hx, hb, hml, hown, hts⟩ (v_X6_isKept l dC dI c kc st lg ai al R p0 (show 0 ≤ (st 26).toInt by omega) (show (st 26).toInt ≤ 128 by omega)) (cwV 1 hts gX8_out_X6_isKept rfl rfl rfl (by decide +kernel) ⟨Nat.le_of_ble_eq_true rfl, Nat.le_of_ble_eq_true rfl⟩) ⟨fun a U g mk q => by obtain ⟨q0, qP, qK⟩ := q; exact ⟨q0, qP, va_K.moved (u := U) (U := U.calling g mk a) (Vm.Alike.refl U.vm) qK⟩, va_recv hK hP (ci := 8) (q := (RX6, TX6, 12)) rfl (q0 := 5) rfl, fun U hU hW => ⟨rfl, by rw [hU]; exact hP, va_K.moved hW.alike hK⟩⟩ rfl rfl hl.1 rfl (lv_room (Nat.le_of_ble_eq_true rfl)) dX8_out_13 ⟨Nat.le_of_ble_eq_true rfl, Nat.le_of_ble_eq_true rfl⟩)) (fun r_3 er_3 => ?_)
        obtain ⟨k_4, k_5⟩ := er_3
        rcases iv_01 (a := r_3) (by omega) (by omega) with b_6 | b_6
        · skip
          have ib_6 := iv_eq b_6
          rw [b_6]
          refine lv_if_ne (tgt := 30) hx hb dX8_out_16 (by decide) (fun c_7 => ?_) (fun c_7 => ?_)
          · skip
            have ic_7 := iv_ne c_7
            exfalso
            omega
          · skip
            have ic_7 := iv_eq c_7
            obtain ⟨sa, hstr⟩ := hGW.2.1 ("BlockLog", 261, "the version is not kept, or 0") (by decide +kernel)
            exact vx_throwSW (names := ["java/lang/RuntimeException", "java/lang/Exception"]) hx hb hl0 hown (by decide +kernel) (by decide +kernel) (hts (.classLink RX8 76 "java/lang/IllegalArgumentException") (by decide +kernel)) (hts (.initialized "java/lang/IllegalArgumentException") (by decide +kernel)) hstr (vx_hat (B := gx_bad "java/lang/IllegalArgumentException") (fun w h => hts w (List.mem_cons_of_mem _ (List.mem_append_left _ (List.mem_append_right _ h)))) (by decide +kernel) (hGW.bad (by decide))) (by decide +kernel) hG.2.1 hG.2.2.1 hS (hl.1.trans hml.symm) dX8_out_19 dX8_out_22 dX8_out_23 dX8_out_26 dX8_out_29 (fun x h => (hno x h).elim) (Nat.le_of_ble_eq_true rfl) (Nat.le_of_ble_eq_true rfl) (Nat.le_of_ble_eq_true rfl) (Nat.le_of_ble_eq_true rfl) hlocks (fun t _ h1 h2 => ⟨(), trivial, ⟨(by decide +kernel), st 5, ai 4, al 24, R, (by omega), (by omega), hR4, hPI, hmono, (cw_D hD), hP.kept (fun k q hk => h2 _ (hP k q hk).lt)⟩, Nat.le_trans hS.1 h1, fun q hq hn => (h2 q (Nat.lt_of_lt_of_le hq hS.1)).trans (hS.2.1 q hq hn)⟩) hS.2.2 (Nat.le_of_ble_eq_true rfl) (Nat.le_of_ble_eq_true rfl)
        · skip
          have ib_6 := iv_eq b_6
          rw [b_6]
          refine lv_if_ne (tgt := 30) hx hb dX8_out_16 (by decide) (fun c_8 => ?_) (fun c_8 => ?_)
          · skip
            have ic_8 := iv_ne c_8
            refine lv_aload_n hx hb dX8_out_30 rfl (lv_at hl 0 rfl) ?_
            refine va_get (D := (dC, dI)) (ci := 10) (v := .ref (c 105)) (C := RX8) (T := TX8) (N := 10) hx hb hts hin_X8 hown hK hP 0 rfl rfl 3 (by decide) (hts (.fieldLink RX8 40 "BlockLog" "story" "LBlockLog$Story;") (by decide +kernel)) (fun _ h9 => h9) rfl dX8_out_31 ?_
            refine lv_iload_n hx hb dX8_out_34 rfl (lv_at hl 1 rfl) ?_
            have hFc := vfree ((cw_D hD : va_D A (cw_W c kc st lg ai al R)) : va_D A (cw_W c kc st lg ai al R)) hS hA
            refine va_callv (va_runV (As := [.int p0]) (rest := []) ⟨hx, hb, hml, hown, hts⟩ (v_X6_drawVersion l dC dI c kc st lg ai al R p0 _ (show 0 ≤ (st 15).toInt by omega) (show (st 15).toInt ≤ 1 by omega) (show 0 ≤ (st 25).toInt by omega) (show (st 25).toInt ≤ 128 by omega) (show 0 ≤ (st 26).toInt by omega) (show (st 26).toInt ≤ 128 by omega) (show 0 ≤ (st 28).toInt by omega) (show (st 28).toInt ≤ 1 by omega) (show aR (ai 23) 128 (0) 127 from hR23)) (cwV 1 hts gX8_out_X6_drawVersion rfl rfl rfl (by decide +kernel) ⟨Nat.le_of_ble_eq_true rfl, Nat.le_of_ble_eq_true rfl⟩) ⟨fun a U g mk q => by obtain ⟨q0, q1, qP, qK, qD, qG⟩ := q; exact ⟨q0, q1, qP, va_K.moved (u := U) (U := U.calling g mk a) (Vm.Alike.refl U.vm) qK, qD, qG.same rfl rfl⟩, va_recv hK hP (ci := 8) (q := (RX6, TX6, 12)) rfl (q0 := 5) rfl, fun U hU hW => ⟨rfl, by rw [hU], by rw [hU]; exact hP, va_K.moved hW.alike hK, ((cw_D hD : va_D A (cw_W c kc st lg ai al R))).weaken (fun _ _ _ _ => trivial), hG.go hW hU hS hFc⟩⟩ rfl rfl hl.1 rfl (lv_room (Nat.le_of_ble_eq_true rfl)) dX8_out_35 ⟨Nat.le_of_ble_eq_true rfl, Nat.le_of_ble_eq_true rfl⟩) hS (fun q _ h => hFc q h) hFc (fun ur_9 t H1 locs ht hvm er_9 hB hz1 hk1 hS => ?_)
            obtain ⟨g24_9, hP1⟩ := hB
            rw [ht] at hP1
            clear hFc hz1 hk1 hvm hP
            subst ht
            have hP := hP1
            clear hP1
            generalize t.heap = H at hP hS ⊢
            have hP : va_P (dC, dI) vwCl (cw_W c kc st lg ai (rU al 24 g24_9) R) H := hP
            refine lv_iconst (v := 0) hx hb dX8_out_38 (by decide) ?_
            refine lv_istore_n (lv' := [(2, .int (0 : Int32)), (0, .ref (c 100)), (1, .int p0)]) hx hb dX8_out_39 rfl hl (by decide) rfl (fun ls hl => ?_)
            have loop40 : ∀ (n : Nat) (l2_40 : Int32) (R9_40 : va_W) (H : Heap) (locs : List Loc) (ls : Array Slot), (0 ≤ l2_40.toInt) → (l2_40.toInt ≤ 16) → (PI (kc 98) (kc 0) (c 99) (st 13) cap num none R9_40) → (va_D A (cw_W c kc st lg ai al R9_40)) → (∀ y m, pgM (kc 0) R y m → pgM (kc 0) R9_40 y m) → (16 - l2_40.toInt : Int).toNat < n → va_P (dC, dI) vwCl (cw_W c kc st lg ai (rU al 24 g24_9) R9_40) H → va_S A s.heap H locs → lv_has ls 3 [(2, .int l2_40), (0, .ref (c 100)), (1, .int p0)] → W p l e (headSpec wsX8_out ({ frames := 7, cells := 2, slots := 12, locals := 144 })).room s m ([.ref (c 100), .int p0] : List Value).toArray below meth cM H locs 1 6 (vx_MQ below (va_Qi (fun r (u : Int32) => r = u) (fun u t => ∃ (x5 : Int32) (f4 : Nat → Int32) (g24 : Nat → Int64) (R9 : va_W), (0 ≤ x5.toInt) ∧ (x5.toInt ≤ 400) ∧ (aR f4 400 (-128) 127) ∧ (PI (kc 98) (kc 0) (c 99) (st 13) cap num none R9) ∧ (∀ y m, pgM (kc 0) R y m → pgM (kc 0) R9 y m) ∧ (va_D A (cw_W c kc (rU st 5 x5) lg (rU ai 4 f4) (rU al 24 g24) R9)) ∧ va_P (dC, dI) vwCl (cw_W c kc (rU st 5 x5) lg (rU ai 4 f4) (rU al 24 g24) R9) t.heap) A) (vx_X (fun _ : Unit => True) (fun E _ t => E ∈ (["java/lang/IllegalArgumentException", "java/lang/IllegalStateException"] : List String) ∧ ∃ (x5 : Int32) (f4 : Nat → Int32) (g24 : Nat → Int64) (R9 : va_W), (0 ≤ x5.toInt) ∧ (x5.toInt ≤ 400) ∧ (aR f4 400 (-128) 127) ∧ (PI (kc 98) (kc 0) (c 99) (st 13) cap num none R9) ∧ (∀ y m, pgM (kc 0) R y m → pgM (kc 0) R9 y m) ∧ (va_D A (cw_W c kc (rU st 5 x5) lg (rU ai 4 f4) (rU al 24 g24) R9)) ∧ va_P (dC, dI) vwCl (cw_W c kc (rU st 5 x5) lg (rU ai 4 f4) (rU al 24 g24) R9) t.heap) A) ([.ref (c 100), .int p0] : List Value).toArray s 2 12 A) (F0 m 40 ls []) := by
              intro n
              induction n with
              | zero => intro l2_40 R9_40 H locs ls if0_40 if1_40 hPI hD hmono hm; exact absurd hm (Nat.not_lt_zero _)
              | succ n ih40 =>
                intro l2_40 R9_40 H locs ls if0_40 if1_40 hPI hD hmono hm40 hP hS hl
                refine lv_iload_n hx hb dX8_out_40 rfl (lv_at hl 0 rfl) ?_
                refine lv_bipush (v := 16) hx hb dX8_out_41 (by decide) ?_
                refine lv_icmp_ge (tgt := 88) hx hb dX8_out_43 (by decide) (fun c_10 => ?_) (fun c_10 => ?_)
                · skip
                  have ic_10 := iv_le c_10
                  refine lv_aload_n hx hb dX8_out_88 rfl (lv_at hl 1 rfl) ?_
                  refine lv_iload_n hx hb dX8_out_89 rfl (lv_at hl 2 rfl) ?_
                  have hFc := vfree ((cw_D hD : va_D A (cw_W c kc st lg ai (rU al 24 g24_9) R9_40)) : va_D A (cw_W c kc st lg ai (rU al 24 g24_9) R9_40)) hS hA
                  refine va_callv (va_runV (As := [.int p0]) (rest := []) ⟨hx, hb, hml, hown, hts⟩ (v_X8_writeSnapshot l dC dI c kc st lg ai (rU al 24 g24_9) R9_40 cap num p0 _ hPI (show 0 ≤ (st 5).toInt by omega) (show (st 5).toInt ≤ 400 by omega) (show 0 ≤ (st 13).toInt by omega) (show (st 13).toInt ≤ 65536 by omega) (show 0 ≤ (st 26).toInt by omega) (show (st 26).toInt ≤ 128 by omega) (show 0 ≤ (st 28).toInt by omega) (show (st 28).toInt ≤ 1 by omega) (show aR (ai 4) 400 (-128) 127 from hR4) (show aR (ai 23) 128 (0) 127 from hR23)) (cwV 1 hts gX8_out_X8_writeSnapshot rfl rfl rfl (by decide +kernel) ⟨Nat.le_of_ble_eq_true rfl, Nat.le_of_ble_eq_true rfl⟩) ⟨fun a U g mk q => by obtain ⟨q0, q1, qP, qK, qD, qG⟩ := q; exact ⟨q0, q1, qP, va_K.moved (u := U) (U := U.calling g mk a) (Vm.Alike.refl U.vm) qK, qD, qG.same rfl rfl⟩, va_recv hK hP (ci := 10) (q := (RX8, TX8, 10)) rfl (q0 := 0) rfl, fun U hU hW => ⟨rfl, by rw [hU], by rw [hU]; exact hP, va_K.moved hW.alike hK, ((cw_D hD : va_D A (cw_W c kc st lg ai (rU al 24 g24_9) R9_40))).weaken (fun _ _ _ _ => trivial), hG.go hW hU hS hFc⟩⟩ rfl rfl hl.1 rfl (lv_room (Nat.le_of_ble_eq_true rfl)) dX8_out_90 ⟨Nat.le_of_ble_eq_true rfl, Nat.le_of_ble_eq_true rfl⟩) hS (fun q _ h => hFc q h) hFc (fun ur_11 t H1 locs ht hvm er_11 hB hz1 hk1 hS => ?_)
                  obtain ⟨x5_11, f4_11, R_11, k_12, k_13, hR4, hPI, hmo, hD1, hP1⟩ := hB
                  rw [ht] at hP1
                  clear hz1 hk1 hvm hP
                  subst ht
                  have hP := hP1
                  clear hP1
                  generalize t.heap = H at hP hS ⊢
                  have hP : va_P (dC, dI) vwCl (cw_W c kc (rU st 5 x5_11) lg (rU ai 4 f4_11) (rU al 24 g24_9) R_11) H := hP
                  have hD : va_D A (cw_W c kc st lg ai al R_11) := cw_D (hD1.weaken (fun _ _ _ h => hFc _ h))
                  have hPI : PI (kc 98) (kc 0) (c 99) (st 13) cap num none R_11 := hPI
                  clear hFc hD1
                  have hmono : ∀ y m, pgM (kc 0) R y m → pgM (kc 0) R_11 y m := fun y m h => hmo y m (hmono y m h)
                  have k_12 : 0 ≤ x5_11.toInt := k_12
                  have k_13 : x5_11.toInt ≤ 400 := k_13
                  have hR4 : aR f4_11 400 (-128) 127 := hR4
                  refine lv_aload_n hx hb dX8_out_93 rfl (lv_at hl 1 rfl) ?_
                  refine va_get (D := (dC, dI)) (ci := 10) (v := .ref (c 101)) (C := RX8) (T := TX8) (N := 10) hx hb hts hin_X8 hown hK hP 0 rfl rfl 0 (by decide) (hts (.fieldLink RX8 13 "BlockLog" "tape" "LBlockLog$Tape;") (by decide +kernel)) (fun _ h9 => h9) rfl dX8_out_94 ?_
                  refine va_getN (D := (dC, dI)) (ci := 9) (v := .int x5_11) (C := RX7) (T := TX7) (N := 2) hx hb hts hin_X7 hown hK hP 1 rfl rfl 1 (by decide) (va_Nw.use rfl (hGW.1 ("BlockLog", 83, "BlockLog$Tape", "count", "I", "BlockLog") (by decide +kernel))) (fun _ h9 => h9) rfl dX8_out_97 ?_
                  refine W.widen (k := 2) (n := 12) (Nat.le_of_ble_eq_true rfl) (Nat.le_of_ble_eq_true rfl) ?_
                  refine vx_ret ?_
                  exact W.iret hx hb hr (fun t ht hW => ⟨⟨_, _, rfl, rfl, x5_11, f4_11, g24_9, R_11, (by omega), (by omega), hR4, hPI, hmono, (cw_D hD), by rw [ht]; exact hP⟩, hS.F ht⟩) hS.2.2 dX8_out_100
                · skip
                  have ic_10 := iv_nle c_10
                  refine lv_aload_n hx hb dX8_out_46 rfl (lv_at hl 1 rfl) ?_
                  refine va_get (D := (dC, dI)) (ci := 10) (v := .ref (c 105)) (C := RX8) (T := TX8) (N := 10) hx hb hts hin_X8 hown hK hP 0 rfl rfl 3 (by decide) (hts (.fieldLink RX8 40 "BlockLog" "story" "LBlockLog$Story;") (by decide +kernel)) (fun _ h9 => h9) rfl dX8_out_47 ?_
                  refine va_getN (D := (dC, dI)) (ci := 8) (v := .ref (c 24)) (C := RX6) (T := TX6) (N := 12) hx hb hts hin_X6 hown hK hP 5 rfl rfl 6 (by decide) (va_Nw.use rfl (hGW.1 ("BlockLog", 218, "BlockLog$Story", "slots", "[J", "BlockLog") (by decide +kernel))) (fun _ h9 => h9) rfl dX8_out_50 ?_
                  refine lv_iload_n hx hb dX8_out_53 rfl (lv_at hl 0 rfl) ?_
                  refine va_lald (f := g24_9) hx hb hK hP 20 12 rfl rfl (iv_in (i := l2_40) (by omega) (by omega)) dX8_out_54 ?_
                  refine lv_topl (fun w_14 ew_14 => ?_)
                  have hX_story_slots := ew_14
                  clear ew_14
                  refine lv_lconst (v := 0) hx hb dX8_out_55 (by decide) ?_
                  refine W.lcmp hx hb dX8_out_56 ?_
                  refine lv_topi (fun v_15 ev_15 => ?_)
                  clear ev_15
                  refine lv_if_eq (tgt := 82) hx hb dX8_out_57 (by decide) (fun c_16 => ?_) (fun c_16 => ?_)
                  · skip
                    have ic_16 := iv_eq c_16
                    obtain ⟨x_17, ex_17⟩ : ∃ z : Int32, z = l2_40 + (1) := ⟨_, rfl⟩
                    refine lv_iinc (v := x_17) (lv' := [(2, .int x_17), (0, .ref (c 100)), (1, .int p0)]) hx hb dX8_out_82 hl (k := 0) rfl (by rw [ex_17]; rfl) (by decide) rfl (fun ls hl => ?_)
                    have rg1 := iv_rng l2_40
                    have hx_17 : x_17.toInt = l2_40.toInt + (1) := by rw [ex_17]; exact (iv_add (by omega) (by omega)).trans (by omega)
                    clear ex_17
                    refine lv_goto (tgt := 40) hx hb dX8_out_85 (by decide) ?_
                    exact ih40 x_17 R9_40 _ _ _ (by omega) (by omega) hPI (cw_D hD) hmono (by omega) hP hS (lv_sub hl [0, 1, 2] rfl)
                  · skip
                    have ic_16 := iv_ne c_16
                    refine lv_aload_n hx hb dX8_out_60 rfl (lv_at hl 1 rfl) ?_
                    refine va_get (D := (dC, dI)) (ci := 10) (v := .ref (c 102)) (C := RX8) (T := TX8) (N := 10) hx hb hts hin_X8 hown hK hP 0 rfl rfl 1 (by decide) (hts (.fieldLink RX8 22 "BlockLog" "disk" "LBlockLog$Disk;") (by decide +kernel)) (fun _ h9 => h9) rfl dX8_out_61 ?_
                    refine lv_aload_n hx hb dX8_out_64 rfl (lv_at hl 1 rfl) ?_
                    refine va_get (D := (dC, dI)) (ci := 10) (v := .ref (c 105)) (C := RX8) (T := TX8) (N := 10) hx hb hts hin_X8 hown hK hP 0 rfl rfl 3 (by decide) (hts (.fieldLink RX8 40 "BlockLog" "story" "LBlockLog$Story;") (by decide +kernel)) (fun _ h9 => h9) rfl dX8_out_65 ?_
                    refine va_getN (D := (dC, dI)) (ci := 8) (v := .ref (c 24)) (C := RX6) (T := TX6) (N := 12) hx hb hts hin_X6 hown hK hP 5 rfl rfl 6 (by decide) (va_Nw.use rfl (hGW.1 ("BlockLog", 218, "BlockLog$Story", "slots", "[J", "BlockLog") (by decide +kernel))) (fun _ h9 => h9) rfl dX8_out_68 ?_
                    refine lv_iload_n hx hb dX8_out_71 rfl (lv_at hl 0 rfl) ?_
                    refine va_lald (f := g24_9) hx hb hK hP 20 12 rfl rfl (iv_in (i := l2_40) (by omega) (by omega)) dX8_out_72 ?_
                    refine lv_topl (fun w_18 ew_18 => ?_)
                    have hX_story_slots := ew_18
                    clear ew_18
                    have hFc := vfree ((cw_D hD : va_D A (cw_W c kc st lg ai (rU al 24 g24_9) R9_40)) : va_D A (cw_W c kc st lg ai (rU al 24 g24_9) R9_40)) hS hA
                    refine va_callq (va_runV (As := [.long w_18]) (rest := []) ⟨hx, hb, hml, hown, hts⟩ (v_X1_pageOf l dC dI c kc st lg ai (rU al 24 g24_9) R9_40 cap num w_18 _ hPI (show 0 ≤ (st 13).toInt by omega) (show (st 13).toInt ≤ 65536 by omega)) (cwV 1 hts gX8_out_X1_pageOf rfl rfl rfl (by decide +kernel) ⟨Nat.le_of_ble_eq_true rfl, Nat.le_of_ble_eq_true rfl⟩) ⟨fun a U g mk q => by obtain ⟨q0, q1, qP, qK, qD, qG⟩ := q; exact ⟨q0, q1, qP, va_K.moved (u := U) (U := U.calling g mk a) (Vm.Alike.refl U.vm) qK, qD, qG.same rfl rfl⟩, va_recv hK hP (ci := 3) (q := (RX1, TX1, 7)) rfl (q0 := 2) rfl, fun U hU hW => ⟨rfl, by rw [hU], by rw [hU]; exact hP, va_K.moved hW.alike hK, ((cw_D hD : va_D A (cw_W c kc st lg ai (rU al 24 g24_9) R9_40))).weaken (fun _ _ _ _ => trivial), hG.go hW hU hS hFc⟩⟩ rfl rfl hl.1 rfl (lv_room (Nat.le_of_ble_eq_true rfl)) dX8_out_73 ⟨Nat.le_of_ble_eq_true rfl, Nat.le_of_ble_eq_true rfl⟩) hS (fun q _ h => hFc q h) hFc (fun r_19 ur_19 t H1 locs ht hvm er_19 hB hz1 hk1 hS => ?_)
                    subst er_19
                    obtain ⟨R_19, hq, hPI, hmo, hD1, hP1⟩ := hB
                    rw [ht] at hP1
                    clear hz1 hk1 hvm hP
                    subst ht
                    have hP := hP1
                    clear hP1
                    generalize t.heap = H at hP hS ⊢
                    have hP : va_P (dC, dI) vwCl (cw_W c kc st lg ai (rU al 24 g24_9) R_19) H := hP
                    have hD : va_D A (cw_W c kc st lg ai al R_19) := cw_D (hD1.weaken (fun _ _ _ h => hFc _ h))
                    have hPI : PI (kc 98) (kc 0) (c 99) (st 13) cap num none R_19 := hPI
                    clear hFc hD1
                    have hmono : ∀ y m, pgM (kc 0) R y m → pgM (kc 0) R_19 y m := fun y m h => hmo y m (hmono y m h)
                    have hq : ∀ x, r_19 = some x → ∃ m, pgM (kc 0) R_19 x m ∧ pgRt (kc 0) R_19 x := hq
                    rcases r_19 with _ | x_20
                    · skip
                      refine W.eq (g2 := F0 m 76 ls [.null]) rfl ?_
                      refine lv_ifnonnullN hx hb dX8_out_76 ?_
                      refine lv_bipush (v := (-6)) hx hb dX8_out_79 (by decide) ?_
                      refine W.widen (k := 2) (n := 12) (Nat.le_of_ble_eq_true rfl) (Nat.le_of_ble_eq_true rfl) ?_
                      refine vx_ret ?_
                      exact W.iret hx hb hr (fun t ht hW => ⟨⟨_, _, rfl, rfl, st 5, ai 4, g24_9, R_19, (by omega), (by omega), hR4, hPI, hmono, (cw_D hD), by rw [ht]; exact hP⟩, hS.F ht⟩) hS.2.2 dX8_out_81
                    · skip
                      refine W.eq (g2 := F0 m 76 ls [.ref x_20]) rfl ?_
                      obtain ⟨m_21, hM_x_20, hQ⟩ := hq x_20 rfl
                      refine lv_ifnonnull (tgt := 82) hx hb dX8_out_76 (by decide) ?_
                      obtain ⟨x_22, ex_22⟩ : ∃ z : Int32, z = l2_40 + (1) := ⟨_, rfl⟩
                      refine lv_iinc (v := x_22) (lv' := [(2, .int x_22), (0, .ref (c 100)), (1, .int p0)]) hx hb dX8_out_82 hl (k := 0) rfl (by rw [ex_22]; rfl) (by decide) rfl (fun ls hl => ?_)
                      have rg2 := iv_rng l2_40
                      have hx_22 : x_22.toInt = l2_40.toInt + (1) := by rw [ex_22]; exact (iv_add (by omega) (by omega)).trans (by omega)
                      clear ex_22
                      refine lv_goto (tgt := 40) hx hb dX8_out_85 (by decide) ?_
                      exact ih40 x_22 R_19 _ _ _ (by omega) (by omega) hPI (cw_D hD) hmono (by omega) hP hS (lv_sub hl [0, 1, 2] rfl)
            exact loop40 ((16 - 0 : Int).toNat + 1) (0 : Int32) R _ _ _ (by omega) (by omega) hPI (cw_D hD) hmono (by omega) hP hS (lv_sub hl [0, 1, 2] rfl)
          · skip
            have ic_8 := iv_eq c_8
            exfalso
            omega
  exact main s.heap [] hP hS

set_option maxHeartbeats 4000000 in
set_option maxRecDepth 100000 in
theorem v_X8_newLeaves (l : Launch) (dC : Nat → ClassId) (dI : Nat → Nat → Nat) (c : Nat → Nat) (kc : Nat → ClassId) (st : Nat → Int32) (lg : Nat → Int64) (ai : Nat → Nat → Int32) (al : Nat → Nat → Int64) (R : va_W) (cap : Nat) (num : Nat → Int32)  (sz : Nat) (hPI : PI (kc 98) (kc 0) (c 99) (st 13) cap num none R) (hf13a : 0 ≤ (st 13).toInt) (hf13b : (st 13).toInt ≤ 65536) (hf37a : 0 ≤ (st 37).toInt) (hf37b : (st 37).toInt ≤ 255) (hq0 : (st 37).toInt ≤ 16) (hR4 : aR (ai 4) 400 (-128) 127) (hR32 : aR (ai 32) 16 (0) 400) (hR33 : aR (ai 33) 16 (0) 255) (hin : inI (ai 32) (ai 33) (st 37)) : Met l yX8_newLeaves wsX8_newLeaves ({ frames := 5, cells := 0, slots := 0, locals := 119 }) (va_Pc [.ref (c 100)] (fun U => U.heap.size = sz ∧ va_P (dC, dI) vwCl (cw_W c kc st lg ai al R) U.heap ∧ va_K (dC, dI) vwCl (cw_T kc) U ∧ va_D (fun _ => True) (cw_W c kc st lg ai al R) ∧ gx_E (va_A (cw_W c kc st lg ai al R) sz) U)) (va_Qi (fun r (u : Int32) => r = u) (fun u t => ∃ (f0 : Nat → Int32) (R9 : va_W), (PI (kc 98) (kc 0) (c 99) (st 13) cap num none R9) ∧ (∀ y m, pgM (kc 0) R y m → pgM (kc 0) R9 y m) ∧ (va_D (va_A (cw_W c kc st lg ai al R) sz) (cw_W c kc st lg (rU ai 0 f0) al R9)) ∧ va_P (dC, dI) vwCl (cw_W c kc st lg (rU ai 0 f0) al R9) t.heap) (va_A (cw_W c kc st lg ai al R) sz)) 0 0 (va_A (cw_W c kc st lg ai al R) sz) := by
  refine Met.ofW (cc := cX8_newLeaves) (maxL := 3) (ret := (some .int)) (by decide) rfl ?_
  intro p e s m args below meth cM s₁ B hml hv
  obtain ⟨rfl, hsz, hP, hK, hD0, hG⟩ := hv
  have hx := B.exec
  have hb := B.bytes
  have hr := B.returns
  have hts := atoms_spec (ws := wsX8_newLeaves) B.pre
  have hown : s.vm.findClass RX8 = some m.cls := findClass_of_methodNamed B.named
  have hGW := hG.1
  subst hsz
  have hD := hD0.self (sz := s.heap.size)
  generalize hAe : va_A (cw_W c kc st lg ai al R) s.heap.size = A at hD hG ⊢
  have hA : ∀ q : Nat, s.heap.size ≤ q → A q := fun q h => by rw [← hAe]; exact Or.inr h
  have hS : va_S A s.heap s.heap [] := va_S.rf
  clear hAe hD0
  have hl := lv_entry ([.ref (c 100)]) (n := 3) (Nat.le_of_ble_eq_true rfl)
  rw [lg_entry_eq]
  generalize (lg_sl ([.ref (c 100)]) ++ List.replicate (3 - (lg_sl ([.ref (c 100)])).length) Slot.unset).toArray = ls at hl ⊢
  have hl : lv_has ls 3 [(0, .ref (c 100))] := hl
  have z_m1 : (-1 : Int32).toInt = -1 := by decide
  have z_0 : (0 : Int32).toInt = 0 := by decide
  have z_1 : (1 : Int32).toInt = 1 := by decide
  have hin_X5 : ∀ w ∈ u_ws RX5 TX5 7, w ∈ wsX8_newLeaves := by decide +kernel
  have hin_X8 : ∀ w ∈ u_ws RX8 TX8 10, w ∈ wsX8_newLeaves := by decide +kernel
  have hmono : ∀ y m, pgM (kc 0) R y m → pgM (kc 0) R y m := fun y m h => h
  have main : ∀ (H : Heap) (locs : List Loc), va_P (dC, dI) vwCl (cw_W c kc st lg ai al R) H → va_S A s.heap H locs → W p l e (headSpec wsX8_newLeaves ({ frames := 5, cells := 0, slots := 0, locals := 119 })).room s m ([.ref (c 100)] : List Value).toArray below meth cM H locs 0 0 (MQ below (va_Qi (fun r (u : Int32) => r = u) (fun u t => ∃ (f0 : Nat → Int32) (R9 : va_W), (PI (kc 98) (kc 0) (c 99) (st 13) cap num none R9) ∧ (∀ y m, pgM (kc 0) R y m → pgM (kc 0) R9 y m) ∧ (va_D A (cw_W c kc st lg (rU ai 0 f0) al R9)) ∧ va_P (dC, dI) vwCl (cw_W c kc st lg (rU ai 0 f0) al R9) t.heap) A) ([.ref (c 100)] : List Value).toArray s 0 0 A) (F0 m 0 ls []) := by
    intro H locs hP hS
    refine lv_iconst (v := 0) hx hb dX8_newLeaves_0 (by decide) ?_
    refine lv_istore_n (lv' := [(1, .int (0 : Int32)), (0, .ref (c 100))]) hx hb dX8_newLeaves_1 rfl hl (by decide) rfl (fun ls hl => ?_)
    refine lv_iconst (v := 0) hx hb dX8_newLeaves_2 (by decide) ?_
    refine lv_istore_n (lv' := [(2, .int (0 : Int32)), (1, .int (0 : Int32)), (0, .ref (c 100))]) hx hb dX8_newLeaves_3 rfl hl (by decide) rfl (fun ls hl => ?_)
    have loop4 : ∀ (n : Nat) (l2_4 : Int32) (l1_4 : Int32) (a0_4 : Nat → Int32) (R9_4 : va_W) (H : Heap) (locs : List Loc) (ls : Array Slot), (0 ≤ l2_4.toInt) → (l2_4.toInt ≤ (st 37).toInt) → (0 ≤ l1_4.toInt) → (l1_4.toInt ≤ l2_4.toInt) → (PI (kc 98) (kc 0) (c 99) (st 13) cap num none R9_4) → (va_D A (cw_W c kc st lg ai al R9_4)) → (∀ y m, pgM (kc 0) R y m → pgM (kc 0) R9_4 y m) → ((st 37).toInt - l2_4.toInt : Int).toNat < n → va_P (dC, dI) vwCl (cw_W c kc st lg (rU ai 0 a0_4) al R9_4) H → va_S A s.heap H locs → lv_has ls 3 [(2, .int l2_4), (1, .int l1_4), (0, .ref (c 100))] → W p l e (headSpec wsX8_newLeaves ({ frames := 5, cells := 0, slots := 0, locals := 119 })).room s m ([.ref (c 100)] : List Value).toArray below meth cM H locs 0 0 (MQ below (va_Qi (fun r (u : Int32) => r = u) (fun u t => ∃ (f0 : Nat → Int32) (R9 : va_W), (PI (kc 98) (kc 0) (c 99) (st 13) cap num none R9) ∧ (∀ y m, pgM (kc 0) R y m → pgM (kc 0) R9 y m) ∧ (va_D A (cw_W c kc st lg (rU ai 0 f0) al R9)) ∧ va_P (dC, dI) vwCl (cw_W c kc st lg (rU ai 0 f0) al R9) t.heap) A) ([.ref (c 100)] : List Value).toArray s 0 0 A) (F0 m 4 ls []) := by
      intro n
      induction n with
      | zero => intro l2_4 l1_4 a0_4 R9_4 H locs ls if0_4 if1_4 if2_4 if3_4 hPI hD hmono hm; exact absurd hm (Nat.not_lt_zero _)
      | succ n ih4 =>
        intro l2_4 l1_4 a0_4 R9_4 H locs ls if0_4 if1_4 if2_4 if3_4 hPI hD hmono hm4 hP hS hl
        refine lv_iload_n hx hb dX8_newLeaves_4 rfl (lv_at hl 0 rfl) ?_
        refine lv_aload_n hx hb dX8_newLeaves_5 rfl (lv_at hl 2 rfl) ?_
        refine va_get (D := (dC, dI)) (ci := 10) (v := .ref (c 107)) (C := RX8) (T := TX8) (N := 10) hx hb hts hin_X8 hown hK hP 0 rfl rfl 5 (by decide) (hts (.fieldLink RX8 56 "BlockLog" "snapshot" "LBlockLog$Snapshot;") (by decide +kernel)) (fun _ h9 => h9) rfl dX8_newLeaves_6 ?_
        refine va_getN (D := (dC, dI)) (ci := 7) (v := .int (st 37)) (C := RX5) (T := TX5) (N := 7) hx hb hts hin_X5 hown hK hP 7 rfl rfl 6 (by decide) (va_Nw.use rfl (hGW.1 ("BlockLog", 440, "BlockLog$Snapshot", "count", "I", "BlockLog") (by decide +kernel))) (fun _ h9 => h9) rfl dX8_newLeaves_9 ?_
        refine lv_icmp_ge (tgt := 76) hx hb dX8_newLeaves_12 (by decide) (fun c_1 => ?_) (fun c_1 => ?_)
        · skip
          have ic_1 := iv_le c_1
          refine lv_iload_n hx hb dX8_newLeaves_76 rfl (lv_at hl 1 rfl) ?_
          exact W.iret hx hb hr (fun t ht hW => ⟨⟨_, _, rfl, rfl, a0_4, R9_4, hPI, hmono, (cw_D hD), by rw [ht]; exact hP⟩, hS.F ht⟩) hS.2.2 dX8_newLeaves_77
        · skip
          have ic_1 := iv_nle c_1
          refine lv_aload_n hx hb dX8_newLeaves_15 rfl (lv_at hl 2 rfl) ?_
          refine lv_aload_n hx hb dX8_newLeaves_16 rfl (lv_at hl 2 rfl) ?_
          refine va_get (D := (dC, dI)) (ci := 10) (v := .ref (c 107)) (C := RX8) (T := TX8) (N := 10) hx hb hts hin_X8 hown hK hP 0 rfl rfl 5 (by decide) (hts (.fieldLink RX8 56 "BlockLog" "snapshot" "LBlockLog$Snapshot;") (by decide +kernel)) (fun _ h9 => h9) rfl dX8_newLeaves_17 ?_
          refine va_getN (D := (dC, dI)) (ci := 7) (v := .ref (c 32)) (C := RX5) (T := TX5) (N := 7) hx hb hts hin_X5 hown hK hP 7 rfl rfl 1 (by decide) (va_Nw.use rfl (hGW.1 ("BlockLog", 441, "BlockLog$Snapshot", "starts", "[I", "BlockLog") (by decide +kernel))) (fun _ h9 => h9) rfl dX8_newLeaves_20 ?_
          refine lv_iload_n hx hb dX8_newLeaves_23 rfl (lv_at hl 0 rfl) ?_
          refine va_iald (f := ai 32) hx hb hK hP 23 15 rfl rfl (iv_in (i := l2_4) (by omega) (by omega)) dX8_newLeaves_24 ?_
          refine lv_topi (fun v_2 ev_2 => ?_)
          have k_3 : 0 ≤ v_2.toInt ∧ v_2.toInt ≤ 400 := aR_get hR32 (by omega) (by omega) ev_2
          have hX_snap_starts := ev_2
          have k_4 : v_2.toInt = ((ai 32) l2_4.toNatClampNeg).toInt := by rw [ev_2]
          clear ev_2
          refine lv_aload_n hx hb dX8_newLeaves_25 rfl (lv_at hl 2 rfl) ?_
          refine va_get (D := (dC, dI)) (ci := 10) (v := .ref (c 107)) (C := RX8) (T := TX8) (N := 10) hx hb hts hin_X8 hown hK hP 0 rfl rfl 5 (by decide) (hts (.fieldLink RX8 56 "BlockLog" "snapshot" "LBlockLog$Snapshot;") (by decide +kernel)) (fun _ h9 => h9) rfl dX8_newLeaves_26 ?_
          refine va_getN (D := (dC, dI)) (ci := 7) (v := .ref (c 33)) (C := RX5) (T := TX5) (N := 7) hx hb hts hin_X5 hown hK hP 7 rfl rfl 2 (by decide) (va_Nw.use rfl (hGW.1 ("BlockLog", 444, "BlockLog$Snapshot", "sizes", "[I", "BlockLog") (by decide +kernel))) (fun _ h9 => h9) rfl dX8_newLeaves_29 ?_
          refine lv_iload_n hx hb dX8_newLeaves_32 rfl (lv_at hl 0 rfl) ?_
          refine va_iald (f := ai 33) hx hb hK hP 24 16 rfl rfl (iv_in (i := l2_4) (by omega) (by omega)) dX8_newLeaves_33 ?_
          refine lv_topi (fun v_5 ev_5 => ?_)
          have k_6 : 0 ≤ v_5.toInt ∧ v_5.toInt ≤ 255 := aR_get hR33 (by omega) (by omega) ev_5
          have hX_snap_sizes := ev_5
          have k_7 : v_5.toInt = ((ai 33) l2_4.toNatClampNeg).toInt := by rw [ev_5]
          clear ev_5
          have hFc := vfree ((cw_D hD : va_D A (cw_W c kc st lg (rU ai 0 a0_4) al R9_4)) : va_D A (cw_W c kc st lg (rU ai 0 a0_4) al R9_4)) hS hA
          refine va_callv (va_runV (As := [.int v_2, .int v_5]) (rest := []) ⟨hx, hb, hml, hown, hts⟩ (v_X8_drawPage l dC dI c kc st lg (rU ai 0 a0_4) al R9_4 v_2 v_5 _ (by omega) (by omega) (show aR (ai 4) 400 (-128) 127 from hR4)) (cwV 2 hts gX8_newLeaves_X8_drawPage rfl rfl rfl (by decide +kernel) ⟨Nat.le_of_ble_eq_true rfl, Nat.le_of_ble_eq_true rfl⟩) ⟨fun a U g mk q => by obtain ⟨q0, q1, qP, qK, qD, qG⟩ := q; exact ⟨q0, q1, qP, va_K.moved (u := U) (U := U.calling g mk a) (Vm.Alike.refl U.vm) qK, qD, qG.same rfl rfl⟩, va_recv hK hP (ci := 10) (q := (RX8, TX8, 10)) rfl (q0 := 0) rfl, fun U hU hW => ⟨rfl, by rw [hU], by rw [hU]; exact hP, va_K.moved hW.alike hK, ((cw_D hD : va_D A (cw_W c kc st lg (rU ai 0 a0_4) al R9_4))).weaken (fun _ _ _ _ => trivial), hG.go hW hU hS hFc⟩⟩ rfl rfl hl.1 rfl (lv_room (Nat.le_of_ble_eq_true rfl)) dX8_newLeaves_34 ⟨Nat.le_of_ble_eq_true rfl, Nat.le_of_ble_eq_true rfl⟩) hS (fun q _ h => hFc q h) hFc (fun ur_8 t H1 locs ht hvm er_8 hB hz1 hk1 hS => ?_)
          obtain ⟨f0_8, hP1⟩ := hB
          rw [ht] at hP1
          clear hFc hz1 hk1 hvm hP
          subst ht
          have hP := hP1
          clear hP1
          generalize t.heap = H at hP hS ⊢
          have hP : va_P (dC, dI) vwCl (cw_W c kc st lg (rU ai 0 f0_8) al R9_4) H := hP
          refine lv_aload_n hx hb dX8_newLeaves_37 rfl (lv_at hl 2 rfl) ?_
          refine va_get (D := (dC, dI)) (ci := 10) (v := .ref (c 102)) (C := RX8) (T := TX8) (N := 10) hx hb hts hin_X8 hown hK hP 0 rfl rfl 1 (by decide) (hts (.fieldLink RX8 22 "BlockLog" "disk" "LBlockLog$Disk;") (by decide +kernel)) (fun _ h9 => h9) rfl dX8_newLeaves_38 ?_
          refine lv_aload_n hx hb dX8_newLeaves_41 rfl (lv_at hl 2 rfl) ?_
          refine va_get (D := (dC, dI)) (ci := 10) (v := .ref (c 0)) (C := RX8) (T := TX8) (N := 10) hx hb hts hin_X8 hown hK hP 0 rfl rfl 6 (by decide) (hts (.fieldLink RX8 60 "BlockLog" "pageImage" "[B") (by decide +kernel)) (fun _ h9 => h9) rfl dX8_newLeaves_42 ?_
          have hFc := vfree ((cw_D hD : va_D A (cw_W c kc st lg (rU ai 0 f0_8) al R9_4)) : va_D A (cw_W c kc st lg (rU ai 0 f0_8) al R9_4)) hS hA
          refine va_calli (va_runV (As := [.ref (c 0)]) (rest := []) ⟨hx, hb, hml, hown, hts⟩ (v_X1_sameLeaf l dC dI c kc st lg (rU ai 0 f0_8) al R9_4 cap num  _ hPI (show 0 ≤ (st 13).toInt by omega) (show (st 13).toInt ≤ 65536 by omega)) (cwV 1 hts gX8_newLeaves_X1_sameLeaf rfl rfl rfl (by decide +kernel) ⟨Nat.le_of_ble_eq_true rfl, Nat.le_of_ble_eq_true rfl⟩) ⟨fun a U g mk q => by obtain ⟨q0, q1, qP, qK, qD, qG⟩ := q; exact ⟨q0, q1, qP, va_K.moved (u := U) (U := U.calling g mk a) (Vm.Alike.refl U.vm) qK, qD, qG.same rfl rfl⟩, va_recv hK hP (ci := 3) (q := (RX1, TX1, 7)) rfl (q0 := 2) rfl, fun U hU hW => ⟨rfl, by rw [hU], by rw [hU]; exact hP, va_K.moved hW.alike hK, ((cw_D hD : va_D A (cw_W c kc st lg (rU ai 0 f0_8) al R9_4))).weaken (fun _ _ _ _ => trivial), hG.go hW hU hS hFc⟩⟩ rfl rfl hl.1 rfl (lv_room (Nat.le_of_ble_eq_true rfl)) dX8_newLeaves_45 ⟨Nat.le_of_ble_eq_true rfl, Nat.le_of_ble_eq_true rfl⟩) hS (fun q _ h => hFc q h) hFc (fun r_9 ur_9 t H1 locs ht hvm er_9 hB hz1 hk1 hS => ?_)
          subst er_9
          obtain ⟨R_9, hPI, hmo, hD1, hP1⟩ := hB
          rw [ht] at hP1
          clear hz1 hk1 hvm hP
          subst ht
          have hP := hP1
          clear hP1
          generalize t.heap = H at hP hS ⊢
          have hP : va_P (dC, dI) vwCl (cw_W c kc st lg (rU ai 0 f0_8) al R_9) H := hP
          have hD : va_D A (cw_W c kc st lg ai al R_9) := cw_D (hD1.weaken (fun _ _ _ h => hFc _ h))
          have hPI : PI (kc 98) (kc 0) (c 99) (st 13) cap num none R_9 := hPI
          clear hFc hD1
          have hmono : ∀ y m, pgM (kc 0) R y m → pgM (kc 0) R_9 y m := fun y m h => hmo y m (hmono y m h)
          refine lv_iconst (v := (-1)) hx hb dX8_newLeaves_48 (by decide) ?_
          refine lv_icmp_ne (tgt := 70) hx hb dX8_newLeaves_49 (by decide) (fun c_10 => ?_) (fun c_10 => ?_)
          · skip
            have ic_10 := iv_ne c_10
            obtain ⟨x_11, ex_11⟩ : ∃ z : Int32, z = l2_4 + (1) := ⟨_, rfl⟩
            refine lv_iinc (v := x_11) (lv' := [(2, .int x_11), (1, .int l1_4), (0, .ref (c 100))]) hx hb dX8_newLeaves_70 hl (k := 0) rfl (by rw [ex_11]; rfl) (by decide) rfl (fun ls hl => ?_)
            have rg1 := iv_rng l2_4
            have hx_11 : x_11.toInt = l2_4.toInt + (1) := by rw [ex_11]; exact (iv_add (by omega) (by omega)).trans (by omega)
            clear ex_11
            refine lv_goto (tgt := 4) hx hb dX8_newLeaves_73 (by decide) ?_
            exact ih4 x_11 l1_4 f0_8 R_9 _ _ _ (by omega) (by omega) (by omega) (by omega) hPI (cw_D hD) hmono (by omega) hP hS (lv_sub hl [0, 1, 2] rfl)
          · skip
            have ic_10 := iv_eq c_10
            refine lv_aload_n hx hb dX8_newLeaves_52 rfl (lv_at hl 2 rfl) ?_
            refine va_get (D := (dC, dI)) (ci := 10) (v := .ref (c 107)) (C := RX8) (T := TX8) (N := 10) hx hb hts hin_X8 hown hK hP 0 rfl rfl 5 (by decide) (hts (.fieldLink RX8 56 "BlockLog" "snapshot" "LBlockLog$Snapshot;") (by decide +kernel)) (fun _ h9 => h9) rfl dX8_newLeaves_53 ?_
            refine lv_iload_n hx hb dX8_newLeaves_56 rfl (lv_at hl 0 rfl) ?_
            refine lv_aload_n hx hb dX8_newLeaves_57 rfl (lv_at hl 2 rfl) ?_
            refine va_get (D := (dC, dI)) (ci := 10) (v := .ref (c 101)) (C := RX8) (T := TX8) (N := 10) hx hb hts hin_X8 hown hK hP 0 rfl rfl 0 (by decide) (hts (.fieldLink RX8 13 "BlockLog" "tape" "LBlockLog$Tape;") (by decide +kernel)) (fun _ h9 => h9) rfl dX8_newLeaves_58 ?_
            refine vp_callSi (va_Run.run (va_runV (As := [.int l2_4, .ref (c 101)]) (rest := []) ⟨hx, hb, hml, hown, hts⟩ (v_X5_hasAhead l dC dI c kc st lg (rU ai 0 f0_8) al R_9 l2_4 (show 0 ≤ (st 37).toInt by omega) (show (st 37).toInt ≤ 255 by omega) (by omega) (show l2_4.toInt < (st 37).toInt by omega) (show (st 37).toInt ≤ 16 by omega) (show aR (ai 4) 400 (-128) 127 from hR4) (show aR (ai 32) 16 (0) 400 from hR32) (show aR (ai 33) 16 (0) 255 from hR33) (show inI (ai 32) (ai 33) (st 37) from (by assumption))) (cwV 2 hts gX8_newLeaves_X5_hasAhead rfl rfl rfl (by decide +kernel) ⟨Nat.le_of_ble_eq_true rfl, Nat.le_of_ble_eq_true rfl⟩) ⟨fun a U g mk q => by obtain ⟨q0, qP, qK, qG⟩ := q; exact ⟨q0, qP, va_K.moved (u := U) (U := U.calling g mk a) (Vm.Alike.refl U.vm) qK, qG.same rfl⟩, va_recv hK hP (ci := 7) (q := (RX5, TX5, 7)) rfl (q0 := 7) rfl, fun U hU hW => ⟨rfl, by rw [hU]; exact hP, va_K.moved hW.alike hK, hGW.warm hW⟩⟩ rfl rfl hl.1 rfl (lv_room (Nat.le_of_ble_eq_true rfl)) dX8_newLeaves_61 ⟨Nat.le_of_ble_eq_true rfl, Nat.le_of_ble_eq_true rfl⟩)) (fun r_12 er_12 => ?_)
            obtain ⟨k_13, k_14⟩ := er_12
            rcases iv_01 (a := r_12) (by omega) (by omega) with b_15 | b_15
            · skip
              have ib_15 := iv_eq b_15
              rw [b_15]
              refine lv_if_ne (tgt := 70) hx hb dX8_newLeaves_64 (by decide) (fun c_16 => ?_) (fun c_16 => ?_)
              · skip
                have ic_16 := iv_ne c_16
                exfalso
                omega
              · skip
                have ic_16 := iv_eq c_16
                obtain ⟨x_17, ex_17⟩ : ∃ z : Int32, z = l1_4 + (1) := ⟨_, rfl⟩
                refine lv_iinc (v := x_17) (lv' := [(1, .int x_17), (2, .int l2_4), (0, .ref (c 100))]) hx hb dX8_newLeaves_67 hl (k := 1) rfl (by rw [ex_17]; rfl) (by decide) rfl (fun ls hl => ?_)
                have rg2 := iv_rng l1_4
                have hx_17 : x_17.toInt = l1_4.toInt + (1) := by rw [ex_17]; exact (iv_add (by omega) (by omega)).trans (by omega)
                clear ex_17
                obtain ⟨x_18, ex_18⟩ : ∃ z : Int32, z = l2_4 + (1) := ⟨_, rfl⟩
                refine lv_iinc (v := x_18) (lv' := [(2, .int x_18), (1, .int x_17), (0, .ref (c 100))]) hx hb dX8_newLeaves_70 hl (k := 1) rfl (by rw [ex_18]; rfl) (by decide) rfl (fun ls hl => ?_)
                have rg3 := iv_rng l2_4
                have hx_18 : x_18.toInt = l2_4.toInt + (1) := by rw [ex_18]; exact (iv_add (by omega) (by omega)).trans (by omega)
                clear ex_18
                refine lv_goto (tgt := 4) hx hb dX8_newLeaves_73 (by decide) ?_
                exact ih4 x_18 x_17 f0_8 R_9 _ _ _ (by omega) (by omega) (by omega) (by omega) hPI (cw_D hD) hmono (by omega) hP hS (lv_sub hl [0, 1, 2] rfl)
            · skip
              have ib_15 := iv_eq b_15
              rw [b_15]
              refine lv_if_ne (tgt := 70) hx hb dX8_newLeaves_64 (by decide) (fun c_19 => ?_) (fun c_19 => ?_)
              · skip
                have ic_19 := iv_ne c_19
                obtain ⟨x_20, ex_20⟩ : ∃ z : Int32, z = l2_4 + (1) := ⟨_, rfl⟩
                refine lv_iinc (v := x_20) (lv' := [(2, .int x_20), (1, .int l1_4), (0, .ref (c 100))]) hx hb dX8_newLeaves_70 hl (k := 0) rfl (by rw [ex_20]; rfl) (by decide) rfl (fun ls hl => ?_)
                have rg4 := iv_rng l2_4
                have hx_20 : x_20.toInt = l2_4.toInt + (1) := by rw [ex_20]; exact (iv_add (by omega) (by omega)).trans (by omega)
                clear ex_20
                refine lv_goto (tgt := 4) hx hb dX8_newLeaves_73 (by decide) ?_
                exact ih4 x_20 l1_4 f0_8 R_9 _ _ _ (by omega) (by omega) (by omega) (by omega) hPI (cw_D hD) hmono (by omega) hP hS (lv_sub hl [0, 1, 2] rfl)
              · skip
                have ic_19 := iv_eq c_19
                exfalso
                omega
    exact loop4 (((st 37).toInt - 0 : Int).toNat + 1) (0 : Int32) (0 : Int32) (ai 0) R _ _ _ (by omega) (by omega) (by omega) (by omega) hPI (cw_D hD) hmono (by omega) hP hS (lv_sub hl [0, 1, 2] rfl)
  exact main s.heap [] hP hS
