set_option maxHeartbeats 4000000 in
set_option maxRecDepth 100000 in
theorem v_X9_read (l : Launch) (dC : Nat → ClassId) (dI : Nat → Nat → Nat) (o : Nat) (c : Nat → Nat) (kc : Nat → ClassId) (st : Nat → Int32) (lg : Nat → Int64) (ai : Nat → Nat → Int32) (al : Nat → Nat → Int64)  (sz : Nat) (hf7a : 0 ≤ (st 7).toInt) (hf7b : (st 7).toInt ≤ 1) (hf15a : 0 ≤ (st 15).toInt) (hf15b : (st 15).toInt ≤ 128) (hf16a : 0 ≤ (st 16).toInt) (hf16b : (st 16).toInt ≤ 128) (hf17a : 0 ≤ (st 17).toInt) (hf17b : (st 17).toInt ≤ 1) (hf21a : -1 ≤ (st 21).toInt) (hf21b : (st 21).toInt ≤ 127) (hf22a : 0 ≤ (st 22).toInt) (hf22b : (st 22).toInt ≤ 1000000) (hf24a : 0 ≤ (st 24).toInt) (hf24b : (st 24).toInt ≤ 1) (hf26a : 0 ≤ (st 26).toInt) (hf26b : (st 26).toInt ≤ 2000000) (hR25 : aR (ai 25) 130 (0) 127) : Met l yX9_read wsX9_read ({ frames := 6, cells := 0, slots := 0, locals := 137 }) (va_Pc [.ref o] (fun U => U.heap.size = sz ∧ va_P (dC, dI) vwCl (rw_W o c kc st lg ai al) U.heap ∧ va_K (dC, dI) vwCl (rw_T kc) U ∧ va_D (fun _ => True) (rw_W o c kc st lg ai al))) (va_Qv (fun (_ : Unit) => True) (fun _ t => ∃ (x16 : Int32) (x17 : Int32) (x21 : Int32) (x22 : Int32) (x24 : Int32) (x26 : Int32) (y23 : Int64) (y27 : Int64) (f19 : Nat → Int32) (f20 : Nat → Int32) (f25 : Nat → Int32) (g18 : Nat → Int64), (x16.toInt = (st 15).toInt) ∧ (0 ≤ x26.toInt - x22.toInt) ∧ (x26.toInt - x22.toInt ≤ 128) ∧ (x21.toInt = -1 ∨ (rK (ai 0) (st 7) x21).toInt = 1) ∧ (x21.toInt < x16.toInt) ∧ (0 ≤ x16.toInt) ∧ (x16.toInt ≤ 128) ∧ (0 ≤ x17.toInt) ∧ (x17.toInt ≤ 1) ∧ (-1 ≤ x21.toInt) ∧ (x21.toInt ≤ 127) ∧ (0 ≤ x22.toInt) ∧ (x22.toInt ≤ 1000000) ∧ (0 ≤ x24.toInt) ∧ (x24.toInt ≤ 1) ∧ (0 ≤ x26.toInt) ∧ (x26.toInt ≤ 2000000) ∧ (aR f25 130 (0) 127) ∧ (gOK (ai 0) (st 7) x16 f19) ∧ (cOK (ai 0) (st 7) x16 f20) ∧ (vOK (ai 0) (st 7) x16 f25 (x26.toInt - x22.toInt)) ∧ (bOK (ai 0) (st 7) x16 x24) ∧ va_P (dC, dI) vwCl (rw_W o c kc (rU (rU (rU (rU (rU (rU st 16 x16) 17 x17) 21 x21) 22 x22) 24 x24) 26 x26) (rU (rU lg 23 y23) 27 y27) (rU (rU (rU ai 19 f19) 20 f20) 25 f25) (rU al 18 g18)) t.heap) (va_A (rw_W o c kc st lg ai al) sz)) 0 0 (va_A (rw_W o c kc st lg ai al) sz) := by
  refine Met.ofW (cc := cX9_read) (maxL := 3) (ret := none) (by decide) rfl ?_
  intro p e s m args below meth cM s₁ B hml hv
  obtain ⟨rfl, hsz, hP, hK, hD0⟩ := hv
  have hx := B.exec
  have hb := B.bytes
  have hr := B.returns
  have hts := atoms_spec (ws := wsX9_read) B.pre
  have hown : s.vm.findClass RX9 = some m.cls := findClass_of_methodNamed B.named
  subst hsz
  have hD := hD0.self (sz := s.heap.size)
  generalize hAe : va_A (rw_W o c kc st lg ai al) s.heap.size = A at hD ⊢
  have hA : ∀ q : Nat, s.heap.size ≤ q → A q := fun q h => by rw [← hAe]; exact Or.inr h
  have hS : va_S A s.heap s.heap [] := va_S.rf
  clear hAe hD0
  have hl := lv_entry ([.ref o]) (n := 3) (Nat.le_of_ble_eq_true rfl)
  rw [lg_entry_eq]
  generalize (lg_sl ([.ref o]) ++ List.replicate (3 - (lg_sl ([.ref o])).length) Slot.unset).toArray = ls at hl ⊢
  have hl : lv_has ls 3 [(0, .ref o)] := hl
  have z_m1 : (-1 : Int32).toInt = -1 := by decide
  have z_0 : (0 : Int32).toInt = 0 := by decide
  have z_1 : (1 : Int32).toInt = 1 := by decide
  have z_2 : (2 : Int32).toInt = 2 := by decide
  have z_4 : (4 : Int32).toInt = 4 := by decide
  have z_5 : (5 : Int32).toInt = 5 := by decide
  have z_128 : (128 : Int32).toInt = 128 := by decide
  have hin9 : ∀ w ∈ u_ws RX9 TX9 38, w ∈ wsX9_read := by decide +kernel
  have main : ∀ (H : Heap) (locs : List Loc), va_P (dC, dI) vwCl (rw_W o c kc st lg ai al) H → va_S A s.heap H locs → W p l e (headSpec wsX9_read ({ frames := 6, cells := 0, slots := 0, locals := 137 })).room s m ([.ref o] : List Value).toArray below meth cM H locs 0 0 (MQ below (va_Qv (fun (_ : Unit) => True) (fun _ t => ∃ (x16 : Int32) (x17 : Int32) (x21 : Int32) (x22 : Int32) (x24 : Int32) (x26 : Int32) (y23 : Int64) (y27 : Int64) (f19 : Nat → Int32) (f20 : Nat → Int32) (f25 : Nat → Int32) (g18 : Nat → Int64), (x16.toInt = (st 15).toInt) ∧ (0 ≤ x26.toInt - x22.toInt) ∧ (x26.toInt - x22.toInt ≤ 128) ∧ (x21.toInt = -1 ∨ (rK (ai 0) (st 7) x21).toInt = 1) ∧ (x21.toInt < x16.toInt) ∧ (0 ≤ x16.toInt) ∧ (x16.toInt ≤ 128) ∧ (0 ≤ x17.toInt) ∧ (x17.toInt ≤ 1) ∧ (-1 ≤ x21.toInt) ∧ (x21.toInt ≤ 127) ∧ (0 ≤ x22.toInt) ∧ (x22.toInt ≤ 1000000) ∧ (0 ≤ x24.toInt) ∧ (x24.toInt ≤ 1) ∧ (0 ≤ x26.toInt) ∧ (x26.toInt ≤ 2000000) ∧ (aR f25 130 (0) 127) ∧ (gOK (ai 0) (st 7) x16 f19) ∧ (cOK (ai 0) (st 7) x16 f20) ∧ (vOK (ai 0) (st 7) x16 f25 (x26.toInt - x22.toInt)) ∧ (bOK (ai 0) (st 7) x16 x24) ∧ va_P (dC, dI) vwCl (rw_W o c kc (rU (rU (rU (rU (rU (rU st 16 x16) 17 x17) 21 x21) 22 x22) 24 x24) 26 x26) (rU (rU lg 23 y23) 27 y27) (rU (rU (rU ai 19 f19) 20 f20) 25 f25) (rU al 18 g18)) t.heap) A) ([.ref o] : List Value).toArray s 0 0 A) (F0 m 0 ls []) := by
    intro H locs hP hS
    refine lv_aload_n hx hb dX9_read_0 rfl (lv_at hl 0 rfl) ?_
    refine lv_aload_n hx hb dX9_read_1 rfl (lv_at hl 0 rfl) ?_
    refine vp_callSi (va_Run.run (va_runV (As := []) (rest := [.ref o]) ⟨hx, hb, hml, hown, hts⟩ (v_X9_rows l dC dI o c kc st lg ai al  (show 0 ≤ (st 15).toInt by omega) (show (st 15).toInt ≤ 128 by omega)) (cwV 0 hts gX9_read_X9_rows rfl rfl rfl (by decide +kernel) ⟨Nat.le_of_ble_eq_true rfl, Nat.le_of_ble_eq_true rfl⟩) ⟨fun a U g mk q => by obtain ⟨q0, qP, qK⟩ := q; exact ⟨q0, qP, va_K.moved (u := U) (U := U.calling g mk a) (Vm.Alike.refl U.vm) qK⟩, va_recv hK hP (ci := 11) (q := (RX9, TX9, 38)) rfl (q0 := 0) rfl, fun U hU hW => ⟨rfl, by rw [hU]; exact hP, va_K.moved hW.alike hK⟩⟩ rfl rfl hl.1 rfl (lv_room (Nat.le_of_ble_eq_true rfl)) dX9_read_2 ⟨Nat.le_of_ble_eq_true rfl, Nat.le_of_ble_eq_true rfl⟩)) (fun r_1 er_1 => ?_)
    have k_2 := er_1
    have k_2 : r_1.toInt = (st 15).toInt := k_2
    refine va_put (D := (dC, dI)) (ci := 11) (v := .int r_1) (ty := .int) (C := RX9) (T := TX9) (N := 38) hx hb hts hin9 tyX9 tyX9_ok nmX9 hown hK hP (rw_D hD) hS 0 rfl rfl 16 (by decide) (hts (.fieldLink RX9 167 "BlockLogModel" "many" "I") (by decide +kernel)) (fun _ h9 => h9) rfl (by decide +kernel) rfl rfl (Nat.le_of_ble_eq_true rfl) dX9_read_5 (fun H locs hP _ hS => ?_)
    have hP : va_P (dC, dI) vwCl (rw_W o c kc (rU st 16 r_1) lg ai al) H := hP
    refine lv_aload_n hx hb dX9_read_8 rfl (lv_at hl 0 rfl) ?_
    refine lv_aload_n hx hb dX9_read_9 rfl (lv_at hl 0 rfl) ?_
    refine vp_callSi (va_Run.run (va_runV (As := []) (rest := [.ref o]) ⟨hx, hb, hml, hown, hts⟩ (v_X9_badRows l dC dI o c kc (rU st 16 r_1) lg ai al  (show 0 ≤ (st 7).toInt by omega) (show (st 7).toInt ≤ 1 by omega) (show 0 ≤ (st 15).toInt by omega) (show (st 15).toInt ≤ 128 by omega)) (cwV 0 hts gX9_read_X9_badRows rfl rfl rfl (by decide +kernel) ⟨Nat.le_of_ble_eq_true rfl, Nat.le_of_ble_eq_true rfl⟩) ⟨fun a U g mk q => by obtain ⟨q0, qP, qK⟩ := q; exact ⟨q0, qP, va_K.moved (u := U) (U := U.calling g mk a) (Vm.Alike.refl U.vm) qK⟩, va_recv hK hP (ci := 11) (q := (RX9, TX9, 38)) rfl (q0 := 0) rfl, fun U hU hW => ⟨rfl, by rw [hU]; exact hP, va_K.moved hW.alike hK⟩⟩ rfl rfl hl.1 rfl (lv_room (Nat.le_of_ble_eq_true rfl)) dX9_read_10 ⟨Nat.le_of_ble_eq_true rfl, Nat.le_of_ble_eq_true rfl⟩)) (fun r_3 er_3 => ?_)
    obtain ⟨k_4, k_5⟩ := er_3
    refine lv_if_le (tgt := 20) hx hb dX9_read_13 (by decide) (fun c_6 => ?_) (fun c_6 => ?_)
    · skip
      have ic_6 := iv_le c_6
      refine lv_iconst (v := 0) hx hb dX9_read_20 (by decide) ?_
      refine va_put (D := (dC, dI)) (ci := 11) (v := .int (0 : Int32)) (ty := .boolean) (C := RX9) (T := TX9) (N := 38) hx hb hts hin9 tyX9 tyX9_ok nmX9 hown hK hP (rw_D hD) hS 0 rfl rfl 17 (by decide) (hts (.fieldLink RX9 176 "BlockLogModel" "needs" "Z") (by decide +kernel)) (fun _ h9 => h9) rfl (by decide +kernel) rfl rfl (Nat.le_of_ble_eq_true rfl) dX9_read_21 (fun H locs hP _ hS => ?_)
      have hP : va_P (dC, dI) vwCl (rw_W o c kc (rU (rU st 16 r_1) 17 (0 : Int32)) lg ai al) H := hP
      refine lv_aload_n hx hb dX9_read_24 rfl (lv_at hl 0 rfl) ?_
      refine lv_iconst (v := (-1)) hx hb dX9_read_25 (by decide) ?_
      refine va_put (D := (dC, dI)) (ci := 11) (v := .int (-1 : Int32)) (ty := .int) (C := RX9) (T := TX9) (N := 38) hx hb hts hin9 tyX9 tyX9_ok nmX9 hown hK hP (rw_D hD) hS 0 rfl rfl 21 (by decide) (hts (.fieldLink RX9 179 "BlockLogModel" "lastVote" "I") (by decide +kernel)) (fun _ h9 => h9) rfl (by decide +kernel) rfl rfl (Nat.le_of_ble_eq_true rfl) dX9_read_26 (fun H locs hP _ hS => ?_)
      have hP : va_P (dC, dI) vwCl (rw_W o c kc (rU (rU (rU st 16 r_1) 17 (0 : Int32)) 21 (-1 : Int32)) lg ai al) H := hP
      refine lv_aload_n hx hb dX9_read_29 rfl (lv_at hl 0 rfl) ?_
      refine lv_iconst (v := 0) hx hb dX9_read_30 (by decide) ?_
      refine va_put (D := (dC, dI)) (ci := 11) (v := .int (0 : Int32)) (ty := .int) (C := RX9) (T := TX9) (N := 38) hx hb hts hin9 tyX9 tyX9_ok nmX9 hown hK hP (rw_D hD) hS 0 rfl rfl 22 (by decide) (hts (.fieldLink RX9 182 "BlockLogModel" "baseHeight" "I") (by decide +kernel)) (fun _ h9 => h9) rfl (by decide +kernel) rfl rfl (Nat.le_of_ble_eq_true rfl) dX9_read_31 (fun H locs hP _ hS => ?_)
      have hP : va_P (dC, dI) vwCl (rw_W o c kc (rU (rU (rU (rU st 16 r_1) 17 (0 : Int32)) 21 (-1 : Int32)) 22 (0 : Int32)) lg ai al) H := hP
      refine lv_aload_n hx hb dX9_read_34 rfl (lv_at hl 0 rfl) ?_
      refine lv_lconst (v := 0) hx hb dX9_read_35 (by decide) ?_
      refine va_put (D := (dC, dI)) (ci := 11) (v := .long (0 : Int64)) (ty := .long) (C := RX9) (T := TX9) (N := 38) hx hb hts hin9 tyX9 tyX9_ok nmX9 hown hK hP (rw_D hD) hS 0 rfl rfl 23 (by decide) (hts (.fieldLink RX9 185 "BlockLogModel" "baseDigest" "J") (by decide +kernel)) (fun _ h9 => h9) rfl (by decide +kernel) rfl rfl (Nat.le_of_ble_eq_true rfl) dX9_read_36 (fun H locs hP _ hS => ?_)
      have hP : va_P (dC, dI) vwCl (rw_W o c kc (rU (rU (rU (rU st 16 r_1) 17 (0 : Int32)) 21 (-1 : Int32)) 22 (0 : Int32)) (rU lg 23 (0 : Int64)) ai al) H := hP
      refine lv_aload_n hx hb dX9_read_39 rfl (lv_at hl 0 rfl) ?_
      refine lv_iconst (v := 0) hx hb dX9_read_40 (by decide) ?_
      refine va_put (D := (dC, dI)) (ci := 11) (v := .int (0 : Int32)) (ty := .boolean) (C := RX9) (T := TX9) (N := 38) hx hb hts hin9 tyX9 tyX9_ok nmX9 hown hK hP (rw_D hD) hS 0 rfl rfl 24 (by decide) (hts (.fieldLink RX9 189 "BlockLogModel" "hasBase" "Z") (by decide +kernel)) (fun _ h9 => h9) rfl (by decide +kernel) rfl rfl (Nat.le_of_ble_eq_true rfl) dX9_read_41 (fun H locs hP _ hS => ?_)
      have hP : va_P (dC, dI) vwCl (rw_W o c kc (rU (rU (rU (rU (rU st 16 r_1) 17 (0 : Int32)) 21 (-1 : Int32)) 22 (0 : Int32)) 24 (0 : Int32)) (rU lg 23 (0 : Int64)) ai al) H := hP
      refine lv_aload_n hx hb dX9_read_44 rfl (lv_at hl 0 rfl) ?_
      refine lv_iconst (v := 0) hx hb dX9_read_45 (by decide) ?_
      refine va_put (D := (dC, dI)) (ci := 11) (v := .int (0 : Int32)) (ty := .int) (C := RX9) (T := TX9) (N := 38) hx hb hts hin9 tyX9 tyX9_ok nmX9 hown hK hP (rw_D hD) hS 0 rfl rfl 26 (by decide) (hts (.fieldLink RX9 192 "BlockLogModel" "lastVersion" "I") (by decide +kernel)) (fun _ h9 => h9) rfl (by decide +kernel) rfl rfl (Nat.le_of_ble_eq_true rfl) dX9_read_46 (fun H locs hP _ hS => ?_)
      have hP : va_P (dC, dI) vwCl (rw_W o c kc (rU (rU (rU (rU (rU (rU st 16 r_1) 17 (0 : Int32)) 21 (-1 : Int32)) 22 (0 : Int32)) 24 (0 : Int32)) 26 (0 : Int32)) (rU lg 23 (0 : Int64)) ai al) H := hP
      refine lv_aload_n hx hb dX9_read_49 rfl (lv_at hl 0 rfl) ?_
      refine lv_lconst (v := 0) hx hb dX9_read_50 (by decide) ?_
      refine va_put (D := (dC, dI)) (ci := 11) (v := .long (0 : Int64)) (ty := .long) (C := RX9) (T := TX9) (N := 38) hx hb hts hin9 tyX9 tyX9_ok nmX9 hown hK hP (rw_D hD) hS 0 rfl rfl 27 (by decide) (hts (.fieldLink RX9 195 "BlockLogModel" "lastDigest" "J") (by decide +kernel)) (fun _ h9 => h9) rfl (by decide +kernel) rfl rfl (Nat.le_of_ble_eq_true rfl) dX9_read_51 (fun H locs hP _ hS => ?_)
      have hP : va_P (dC, dI) vwCl (rw_W o c kc (rU (rU (rU (rU (rU (rU st 16 r_1) 17 (0 : Int32)) 21 (-1 : Int32)) 22 (0 : Int32)) 24 (0 : Int32)) 26 (0 : Int32)) (rU (rU lg 23 (0 : Int64)) 27 (0 : Int64)) ai al) H := hP
      refine lv_iconst (v := 0) hx hb dX9_read_54 (by decide) ?_
      refine lv_istore_n (lv' := [(1, .int (0 : Int32)), (0, .ref o)]) hx hb dX9_read_55 rfl hl (by decide) rfl (fun ls hl => ?_)
      have loop56 : ∀ (n : Nat) (l1_56 : Int32) (a19_56 : Nat → Int32) (a20_56 : Nat → Int32) (b18_56 : Nat → Int64) (H : Heap) (locs : List Loc) (ls : Array Slot), (0 ≤ l1_56.toInt) → (l1_56.toInt ≤ 128) → (zI a19_56 l1_56) → (zI a20_56 l1_56) → (128 - l1_56.toInt : Int).toNat < n → va_P (dC, dI) vwCl (rw_W o c kc (rU (rU (rU (rU (rU (rU st 16 r_1) 17 (0 : Int32)) 21 (-1 : Int32)) 22 (0 : Int32)) 24 (0 : Int32)) 26 (0 : Int32)) (rU (rU lg 23 (0 : Int64)) 27 (0 : Int64)) (rU (rU ai 19 a19_56) 20 a20_56) (rU al 18 b18_56)) H → va_S A s.heap H locs → lv_has ls 3 [(1, .int l1_56), (0, .ref o)] → W p l e (headSpec wsX9_read ({ frames := 6, cells := 0, slots := 0, locals := 137 })).room s m ([.ref o] : List Value).toArray below meth cM H locs 0 0 (MQ below (va_Qv (fun (_ : Unit) => True) (fun _ t => ∃ (x16 : Int32) (x17 : Int32) (x21 : Int32) (x22 : Int32) (x24 : Int32) (x26 : Int32) (y23 : Int64) (y27 : Int64) (f19 : Nat → Int32) (f20 : Nat → Int32) (f25 : Nat → Int32) (g18 : Nat → Int64), (x16.toInt = (st 15).toInt) ∧ (0 ≤ x26.toInt - x22.toInt) ∧ (x26.toInt - x22.toInt ≤ 128) ∧ (x21.toInt = -1 ∨ (rK (ai 0) (st 7) x21).toInt = 1) ∧ (x21.toInt < x16.toInt) ∧ (0 ≤ x16.toInt) ∧ (x16.toInt ≤ 128) ∧ (0 ≤ x17.toInt) ∧ (x17.toInt ≤ 1) ∧ (-1 ≤ x21.toInt) ∧ (x21.toInt ≤ 127) ∧ (0 ≤ x22.toInt) ∧ (x22.toInt ≤ 1000000) ∧ (0 ≤ x24.toInt) ∧ (x24.toInt ≤ 1) ∧ (0 ≤ x26.toInt) ∧ (x26.toInt ≤ 2000000) ∧ (aR f25 130 (0) 127) ∧ (gOK (ai 0) (st 7) x16 f19) ∧ (cOK (ai 0) (st 7) x16 f20) ∧ (vOK (ai 0) (st 7) x16 f25 (x26.toInt - x22.toInt)) ∧ (bOK (ai 0) (st 7) x16 x24) ∧ va_P (dC, dI) vwCl (rw_W o c kc (rU (rU (rU (rU (rU (rU st 16 x16) 17 x17) 21 x21) 22 x22) 24 x24) 26 x26) (rU (rU lg 23 y23) 27 y27) (rU (rU (rU ai 19 f19) 20 f20) 25 f25) (rU al 18 g18)) t.heap) A) ([.ref o] : List Value).toArray s 0 0 A) (F0 m 56 ls []) := by
        intro n
        induction n with
        | zero => intro l1_56 a19_56 a20_56 b18_56 H locs ls if0_56 if1_56 hz1 hz2 hm; exact absurd hm (Nat.not_lt_zero _)
        | succ n ih56 =>
          intro l1_56 a19_56 a20_56 b18_56 H locs ls if0_56 if1_56 hz1 hz2 hm56 hP hS hl
          refine lv_iload_n hx hb dX9_read_56 rfl (lv_at hl 0 rfl) ?_
          refine lv_sipush (v := 128) hx hb dX9_read_57 (by decide) ?_
          refine lv_icmp_ge (tgt := 90) hx hb dX9_read_60 (by decide) (fun c_7 => ?_) (fun c_7 => ?_)
          · skip
            have ic_7 := iv_le c_7
            have hG : gOK (ai 0) (st 7) r_1 a19_56 := gOK_z hz1 (by omega)
            have hC : cOK (ai 0) (st 7) r_1 a20_56 := cOK_z hz2 (by omega)
            have hV : vOK (ai 0) (st 7) r_1 (ai 25) ((0 : Int32).toInt - (0 : Int32).toInt) := vOK_0 (by omega)
            have hBs : bOK (ai 0) (st 7) r_1 (0 : Int32) := bOK_0 (by omega)
            refine lv_iconst (v := 0) hx hb dX9_read_90 (by decide) ?_
            refine lv_istore_n (lv' := [(1, .int (0 : Int32)), (0, .ref o)]) hx hb dX9_read_91 rfl hl (by decide) rfl (fun ls hl => ?_)
            have loop92 : ∀ (n : Nat) (l1_92 : Int32) (s21_92 : Int32) (s22_92 : Int32) (s24_92 : Int32) (s26_92 : Int32) (u23_92 : Int64) (u27_92 : Int64) (a19_92 : Nat → Int32) (a20_92 : Nat → Int32) (a25_92 : Nat → Int32) (b18_92 : Nat → Int64) (H : Heap) (locs : List Loc) (ls : Array Slot), (0 ≤ l1_92.toInt) → (l1_92.toInt ≤ r_1.toInt) → (0 ≤ s26_92.toInt - s22_92.toInt) → (s26_92.toInt - s22_92.toInt ≤ l1_92.toInt) → (s21_92.toInt = -1 ∨ (rK (ai 0) (st 7) s21_92).toInt = 1) → (s21_92.toInt < l1_92.toInt) → (-1 ≤ s21_92.toInt) → (s21_92.toInt ≤ 127) → (0 ≤ s22_92.toInt) → (s22_92.toInt ≤ 1000000) → (0 ≤ s24_92.toInt) → (s24_92.toInt ≤ 1) → (0 ≤ s26_92.toInt) → (s26_92.toInt ≤ 2000000) → (aR a25_92 130 (0) 127) → (gOK (ai 0) (st 7) r_1 a19_92) → (cOK (ai 0) (st 7) r_1 a20_92) → (vOK (ai 0) (st 7) r_1 a25_92 (s26_92.toInt - s22_92.toInt)) → (bOK (ai 0) (st 7) r_1 s24_92) → (r_1.toInt - l1_92.toInt : Int).toNat < n → va_P (dC, dI) vwCl (rw_W o c kc (rU (rU (rU (rU (rU (rU st 16 r_1) 17 (0 : Int32)) 21 s21_92) 22 s22_92) 24 s24_92) 26 s26_92) (rU (rU lg 23 u23_92) 27 u27_92) (rU (rU (rU ai 19 a19_92) 20 a20_92) 25 a25_92) (rU al 18 b18_92)) H → va_S A s.heap H locs → lv_has ls 3 [(1, .int l1_92), (0, .ref o)] → W p l e (headSpec wsX9_read ({ frames := 6, cells := 0, slots := 0, locals := 137 })).room s m ([.ref o] : List Value).toArray below meth cM H locs 0 0 (MQ below (va_Qv (fun (_ : Unit) => True) (fun _ t => ∃ (x16 : Int32) (x17 : Int32) (x21 : Int32) (x22 : Int32) (x24 : Int32) (x26 : Int32) (y23 : Int64) (y27 : Int64) (f19 : Nat → Int32) (f20 : Nat → Int32) (f25 : Nat → Int32) (g18 : Nat → Int64), (x16.toInt = (st 15).toInt) ∧ (0 ≤ x26.toInt - x22.toInt) ∧ (x26.toInt - x22.toInt ≤ 128) ∧ (x21.toInt = -1 ∨ (rK (ai 0) (st 7) x21).toInt = 1) ∧ (x21.toInt < x16.toInt) ∧ (0 ≤ x16.toInt) ∧ (x16.toInt ≤ 128) ∧ (0 ≤ x17.toInt) ∧ (x17.toInt ≤ 1) ∧ (-1 ≤ x21.toInt) ∧ (x21.toInt ≤ 127) ∧ (0 ≤ x22.toInt) ∧ (x22.toInt ≤ 1000000) ∧ (0 ≤ x24.toInt) ∧ (x24.toInt ≤ 1) ∧ (0 ≤ x26.toInt) ∧ (x26.toInt ≤ 2000000) ∧ (aR f25 130 (0) 127) ∧ (gOK (ai 0) (st 7) x16 f19) ∧ (cOK (ai 0) (st 7) x16 f20) ∧ (vOK (ai 0) (st 7) x16 f25 (x26.toInt - x22.toInt)) ∧ (bOK (ai 0) (st 7) x16 x24) ∧ va_P (dC, dI) vwCl (rw_W o c kc (rU (rU (rU (rU (rU (rU st 16 x16) 17 x17) 21 x21) 22 x22) 24 x24) 26 x26) (rU (rU lg 23 y23) 27 y27) (rU (rU (rU ai 19 f19) 20 f20) 25 f25) (rU al 18 g18)) t.heap) A) ([.ref o] : List Value).toArray s 0 0 A) (F0 m 92 ls []) := by
              intro n
              induction n with
              | zero => intro l1_92 s21_92 s22_92 s24_92 s26_92 u23_92 u27_92 a19_92 a20_92 a25_92 b18_92 H locs ls if0_92 if1_92 if2_92 if3_92 if4_92 if5_92 if6_92 if7_92 if8_92 if9_92 if10_92 if11_92 if12_92 if13_92 hR25 hG hC hV hBs hm; exact absurd hm (Nat.not_lt_zero _)
              | succ n ih92 =>
                intro l1_92 s21_92 s22_92 s24_92 s26_92 u23_92 u27_92 a19_92 a20_92 a25_92 b18_92 H locs ls if0_92 if1_92 if2_92 if3_92 if4_92 if5_92 if6_92 if7_92 if8_92 if9_92 if10_92 if11_92 if12_92 if13_92 hR25 hG hC hV hBs hm92 hP hS hl
                refine lv_iload_n hx hb dX9_read_92 rfl (lv_at hl 0 rfl) ?_
                refine lv_aload_n hx hb dX9_read_93 rfl (lv_at hl 1 rfl) ?_
                refine va_get (D := (dC, dI)) (ci := 11) (v := .int r_1) (C := RX9) (T := TX9) (N := 38) hx hb hts hin9 hown hK hP 0 rfl rfl 16 (by decide) (hts (.fieldLink RX9 167 "BlockLogModel" "many" "I") (by decide +kernel)) (fun _ h9 => h9) rfl dX9_read_94 ?_
                refine lv_icmp_ge (tgt := 161) hx hb dX9_read_97 (by decide) (fun c_8 => ?_) (fun c_8 => ?_)
                · skip
                  have ic_8 := iv_le c_8
                  exact W.vret hx hb hr (fun t ht hW => ⟨⟨(), rfl, trivial, r_1, (0 : Int32), s21_92, s22_92, s24_92, s26_92, u23_92, u27_92, a19_92, a20_92, a25_92, b18_92, (by omega), (by omega), (by omega), (by omega), (by omega), (by omega), (by omega), (by omega), (by omega), (by omega), (by omega), (by omega), (by omega), (by omega), (by omega), (by omega), (by omega), hR25, (by assumption), (by assumption), (by assumption), (by assumption), by rw [ht]; exact hP⟩, hS.F ht⟩) hS.2.2 dX9_read_161
                · skip
                  have ic_8 := iv_nle c_8
                  refine lv_aload_n hx hb dX9_read_100 rfl (lv_at hl 1 rfl) ?_
                  refine va_get (D := (dC, dI)) (ci := 11) (v := .int (0 : Int32)) (C := RX9) (T := TX9) (N := 38) hx hb hts hin9 hown hK hP 0 rfl rfl 17 (by decide) (hts (.fieldLink RX9 176 "BlockLogModel" "needs" "Z") (by decide +kernel)) (fun _ h9 => h9) rfl dX9_read_101 ?_
                  refine lv_if_ne (tgt := 161) hx hb dX9_read_104 (by decide) (fun c_9 => ?_) (fun c_9 => ?_)
                  · skip
                    have ic_9 := iv_ne c_9
                    exfalso
                    omega
                  · skip
                    have ic_9 := iv_eq c_9
                    refine lv_aload_n hx hb dX9_read_107 rfl (lv_at hl 1 rfl) ?_
                    refine lv_iload_n hx hb dX9_read_108 rfl (lv_at hl 0 rfl) ?_
                    refine vp_callSi (va_Run.run (va_runV (As := [.int l1_92]) (rest := []) ⟨hx, hb, hml, hown, hts⟩ (v_X9_kindOf l dC dI o c kc (rU (rU (rU (rU (rU (rU st 16 r_1) 17 (0 : Int32)) 21 s21_92) 22 s22_92) 24 s24_92) 26 s26_92) (rU (rU lg 23 u23_92) 27 u27_92) (rU (rU (rU ai 19 a19_92) 20 a20_92) 25 a25_92) (rU al 18 b18_92) l1_92 (show 0 ≤ (st 7).toInt by omega) (show (st 7).toInt ≤ 1 by omega) (by omega) (by omega)) (cwV 1 hts gX9_read_X9_kindOf rfl rfl rfl (by decide +kernel) ⟨Nat.le_of_ble_eq_true rfl, Nat.le_of_ble_eq_true rfl⟩) ⟨fun a U g mk q => by obtain ⟨q0, qP, qK⟩ := q; exact ⟨q0, qP, va_K.moved (u := U) (U := U.calling g mk a) (Vm.Alike.refl U.vm) qK⟩, va_recv hK hP (ci := 11) (q := (RX9, TX9, 38)) rfl (q0 := 0) rfl, fun U hU hW => ⟨rfl, by rw [hU]; exact hP, va_K.moved hW.alike hK⟩⟩ rfl rfl hl.1 rfl (lv_room (Nat.le_of_ble_eq_true rfl)) dX9_read_109 ⟨Nat.le_of_ble_eq_true rfl, Nat.le_of_ble_eq_true rfl⟩)) (fun r_10 er_10 => ?_)
                    obtain ⟨k_11, k_12, k_13⟩ := er_10
                    have k_11 : r_10.toInt = (rK (ai 0) (st 7) l1_92).toInt := k_11
                    refine lv_istore_n (lv' := [(2, .int r_10), (1, .int l1_92), (0, .ref o)]) hx hb dX9_read_112 rfl hl (by decide) rfl (fun ls hl => ?_)
                    refine lv_iload_n hx hb dX9_read_113 rfl (lv_at hl 0 rfl) ?_
                    refine lv_iconst (v := 1) hx hb dX9_read_114 (by decide) ?_
                    refine lv_icmp_ne (tgt := 126) hx hb dX9_read_115 (by decide) (fun c_14 => ?_) (fun c_14 => ?_)
                    · skip
                      have ic_14 := iv_ne c_14
                      refine lv_iload_n hx hb dX9_read_126 rfl (lv_at hl 0 rfl) ?_
                      refine lv_iconst (v := 2) hx hb dX9_read_127 (by decide) ?_
                      refine lv_icmp_eq (tgt := 136) hx hb dX9_read_128 (by decide) (fun c_15 => ?_) (fun c_15 => ?_)
                      · skip
                        have ic_15 := iv_eq c_15
                        refine lv_aload_n hx hb dX9_read_136 rfl (lv_at hl 2 rfl) ?_
                        refine lv_iload_n hx hb dX9_read_137 rfl (lv_at hl 1 rfl) ?_
                        refine lv_iload_n hx hb dX9_read_138 rfl (lv_at hl 0 rfl) ?_
                        have hFc := vfree (rw_D hD : va_D A (rw_W o c kc (rU (rU (rU (rU (rU (rU st 16 r_1) 17 (0 : Int32)) 21 s21_92) 22 s22_92) 24 s24_92) 26 s26_92) (rU (rU lg 23 u23_92) 27 u27_92) (rU (rU (rU ai 19 a19_92) 20 a20_92) 25 a25_92) (rU al 18 b18_92))) hS hA
                        refine va_callv (va_runV (As := [.int l1_92, .int r_10]) (rest := []) ⟨hx, hb, hml, hown, hts⟩ (v_X9_group l dC dI o c kc (rU (rU (rU (rU (rU (rU st 16 r_1) 17 (0 : Int32)) 21 s21_92) 22 s22_92) 24 s24_92) 26 s26_92) (rU (rU lg 23 u23_92) 27 u27_92) (rU (rU (rU ai 19 a19_92) 20 a20_92) 25 a25_92) (rU al 18 b18_92) l1_92 r_10 _ (show 0 ≤ (st 7).toInt by omega) (show (st 7).toInt ≤ 1 by omega) (show 0 ≤ r_1.toInt by omega) (show r_1.toInt ≤ 128 by omega) (show 0 ≤ s22_92.toInt by omega) (show s22_92.toInt ≤ 1000000 by omega) (show 0 ≤ s24_92.toInt by omega) (show s24_92.toInt ≤ 1 by omega) (show 0 ≤ s26_92.toInt by omega) (show s26_92.toInt ≤ 2000000 by omega) (by omega) (by omega) (show r_10.toInt = (rK (ai 0) (st 7) l1_92).toInt by omega) (show 0 ≤ s26_92.toInt - s22_92.toInt by omega) (show s26_92.toInt - s22_92.toInt ≤ 128 by omega) (show gOK (ai 0) (st 7) r_1 a19_92 from (by assumption)) (show cOK (ai 0) (st 7) r_1 a20_92 from (by assumption)) (show vOK (ai 0) (st 7) r_1 a25_92 (s26_92.toInt - s22_92.toInt) from (by assumption)) (show bOK (ai 0) (st 7) r_1 s24_92 from (by assumption))) (cwV 2 hts gX9_read_X9_group rfl rfl rfl (by decide +kernel) ⟨Nat.le_of_ble_eq_true rfl, Nat.le_of_ble_eq_true rfl⟩) ⟨fun a U g mk q => by obtain ⟨q0, q1, qP, qK, qD⟩ := q; exact ⟨q0, q1, qP, va_K.moved (u := U) (U := U.calling g mk a) (Vm.Alike.refl U.vm) qK, qD⟩, va_recv hK hP (ci := 11) (q := (RX9, TX9, 38)) rfl (q0 := 0) rfl, fun U hU hW => ⟨rfl, by rw [hU], by rw [hU]; exact hP, va_K.moved hW.alike hK, rw_D (hD.weaken (fun _ _ _ _ => trivial))⟩⟩ rfl rfl hl.1 rfl (lv_room (Nat.le_of_ble_eq_true rfl)) dX9_read_139 ⟨Nat.le_of_ble_eq_true rfl, Nat.le_of_ble_eq_true rfl⟩) hS (fun q _ h => hFc q h) hFc (fun ur_16 t H1 locs ht hvm er_16 hB hz1 hk1 hS => ?_)
                        obtain ⟨x22_16, x24_16, x26_16, y23_16, y27_16, f19_16, f20_16, g18_16, k_17, k_18, k_19, k_20, k_21, k_22, k_23, hG, hC, hV, hBs, hP1⟩ := hB
                        rw [ht] at hP1
                        clear hFc hz1 hk1 hvm hP
                        subst ht
                        have hP := hP1
                        clear hP1
                        generalize t.heap = H at hP hS ⊢
                        have hP : va_P (dC, dI) vwCl (rw_W o c kc (rU (rU (rU (rU (rU (rU st 16 r_1) 17 (0 : Int32)) 21 s21_92) 22 x22_16) 24 x24_16) 26 x26_16) (rU (rU lg 23 y23_16) 27 y27_16) (rU (rU (rU ai 19 f19_16) 20 f20_16) 25 a25_92) (rU al 18 g18_16)) H := hP
                        have k_17 : (x26_16.toInt - x22_16.toInt = s26_92.toInt - s22_92.toInt ∨ (x26_16.toInt = x22_16.toInt ∧ l1_92.toInt = 0)) := k_17
                        have k_18 : 0 ≤ x22_16.toInt := k_18
                        have k_19 : x22_16.toInt ≤ 1000000 := k_19
                        have k_20 : 0 ≤ x24_16.toInt := k_20
                        have k_21 : x24_16.toInt ≤ 1 := k_21
                        have k_22 : 0 ≤ x26_16.toInt := k_22
                        have k_23 : x26_16.toInt ≤ 2000000 := k_23
                        have hG : gOK (ai 0) (st 7) r_1 f19_16 := hG
                        have hC : cOK (ai 0) (st 7) r_1 f20_16 := hC
                        have hV : vOK (ai 0) (st 7) r_1 a25_92 (x26_16.toInt - x22_16.toInt) := hV
                        have hBs : bOK (ai 0) (st 7) r_1 x24_16 := hBs
                        refine lv_goto (tgt := 155) hx hb dX9_read_142 (by decide) ?_
                        obtain ⟨x_24, ex_24⟩ : ∃ z : Int32, z = l1_92 + (1) := ⟨_, rfl⟩
                        refine lv_iinc (v := x_24) (lv' := [(1, .int x_24), (2, .int r_10), (0, .ref o)]) hx hb dX9_read_155 hl (k := 1) rfl (by rw [ex_24]; rfl) (by decide) rfl (fun ls hl => ?_)
                        have rg1 := iv_rng l1_92
                        have hx_24 : x_24.toInt = l1_92.toInt + (1) := by rw [ex_24]; exact (iv_add (by omega) (by omega)).trans (by omega)
                        clear ex_24
                        refine lv_goto (tgt := 92) hx hb dX9_read_158 (by decide) ?_
                        exact ih92 x_24 s21_92 x22_16 x24_16 x26_16 y23_16 y27_16 f19_16 f20_16 a25_92 g18_16 _ _ _ (by omega) (by omega) (by omega) (by omega) (by omega) (by omega) (by omega) (by omega) (by omega) (by omega) (by omega) (by omega) (by omega) (by omega) (by assumption) (by assumption) (by assumption) (by assumption) (by assumption) (by omega) hP hS (lv_sub hl [0, 2] rfl)
                      · skip
                        have ic_15 := iv_ne c_15
                        refine lv_iload_n hx hb dX9_read_131 rfl (lv_at hl 0 rfl) ?_
                        refine lv_iconst (v := 5) hx hb dX9_read_132 (by decide) ?_
                        refine lv_icmp_ne (tgt := 145) hx hb dX9_read_133 (by decide) (fun c_25 => ?_) (fun c_25 => ?_)
                        · skip
                          have ic_25 := iv_ne c_25
                          refine lv_iload_n hx hb dX9_read_145 rfl (lv_at hl 0 rfl) ?_
                          refine lv_iconst (v := 4) hx hb dX9_read_146 (by decide) ?_
                          refine lv_icmp_ne (tgt := 155) hx hb dX9_read_147 (by decide) (fun c_26 => ?_) (fun c_26 => ?_)
                          · skip
                            have ic_26 := iv_ne c_26
                            obtain ⟨x_27, ex_27⟩ : ∃ z : Int32, z = l1_92 + (1) := ⟨_, rfl⟩
                            refine lv_iinc (v := x_27) (lv' := [(1, .int x_27), (2, .int r_10), (0, .ref o)]) hx hb dX9_read_155 hl (k := 1) rfl (by rw [ex_27]; rfl) (by decide) rfl (fun ls hl => ?_)
                            have rg2 := iv_rng l1_92
                            have hx_27 : x_27.toInt = l1_92.toInt + (1) := by rw [ex_27]; exact (iv_add (by omega) (by omega)).trans (by omega)
                            clear ex_27
                            refine lv_goto (tgt := 92) hx hb dX9_read_158 (by decide) ?_
                            exact ih92 x_27 s21_92 s22_92 s24_92 s26_92 u23_92 u27_92 a19_92 a20_92 a25_92 b18_92 _ _ _ (by omega) (by omega) (by omega) (by omega) (by omega) (by omega) (by omega) (by omega) (by omega) (by omega) (by omega) (by omega) (by omega) (by omega) (by assumption) (by assumption) (by assumption) (by assumption) (by assumption) (by omega) hP hS (lv_sub hl [0, 2] rfl)
                          · skip
                            have ic_26 := iv_eq c_26
                            refine lv_aload_n hx hb dX9_read_150 rfl (lv_at hl 2 rfl) ?_
                            refine lv_iload_n hx hb dX9_read_151 rfl (lv_at hl 1 rfl) ?_
                            have hFc := vfree (rw_D hD : va_D A (rw_W o c kc (rU (rU (rU (rU (rU (rU st 16 r_1) 17 (0 : Int32)) 21 s21_92) 22 s22_92) 24 s24_92) 26 s26_92) (rU (rU lg 23 u23_92) 27 u27_92) (rU (rU (rU ai 19 a19_92) 20 a20_92) 25 a25_92) (rU al 18 b18_92))) hS hA
                            refine va_callv (va_runV (As := [.int l1_92]) (rest := []) ⟨hx, hb, hml, hown, hts⟩ (v_X9_certificate l dC dI o c kc (rU (rU (rU (rU (rU (rU st 16 r_1) 17 (0 : Int32)) 21 s21_92) 22 s22_92) 24 s24_92) 26 s26_92) (rU (rU lg 23 u23_92) 27 u27_92) (rU (rU (rU ai 19 a19_92) 20 a20_92) 25 a25_92) (rU al 18 b18_92) l1_92 _ (show 0 ≤ (st 7).toInt by omega) (show (st 7).toInt ≤ 1 by omega) (show 0 ≤ s22_92.toInt by omega) (show s22_92.toInt ≤ 1000000 by omega) (show 0 ≤ s26_92.toInt by omega) (show s26_92.toInt ≤ 2000000 by omega) (by omega) (by omega) (show (rK (ai 0) (st 7) l1_92).toInt = 4 by omega) (show 0 ≤ s26_92.toInt - s22_92.toInt by omega) (show s26_92.toInt - s22_92.toInt ≤ 127 by omega) (show aR a25_92 130 (0) 127 from hR25) (show gOK (ai 0) (st 7) r_1 a19_92 from (by assumption)) (show cOK (ai 0) (st 7) r_1 a20_92 from (by assumption)) (show vOK (ai 0) (st 7) r_1 a25_92 (s26_92.toInt - s22_92.toInt) from (by assumption))) (cwV 1 hts gX9_read_X9_certificate rfl rfl rfl (by decide +kernel) ⟨Nat.le_of_ble_eq_true rfl, Nat.le_of_ble_eq_true rfl⟩) ⟨fun a U g mk q => by obtain ⟨q0, q1, qP, qK, qD⟩ := q; exact ⟨q0, q1, qP, va_K.moved (u := U) (U := U.calling g mk a) (Vm.Alike.refl U.vm) qK, qD⟩, va_recv hK hP (ci := 11) (q := (RX9, TX9, 38)) rfl (q0 := 0) rfl, fun U hU hW => ⟨rfl, by rw [hU], by rw [hU]; exact hP, va_K.moved hW.alike hK, rw_D (hD.weaken (fun _ _ _ _ => trivial))⟩⟩ rfl rfl hl.1 rfl (lv_room (Nat.le_of_ble_eq_true rfl)) dX9_read_152 ⟨Nat.le_of_ble_eq_true rfl, Nat.le_of_ble_eq_true rfl⟩) hS (fun q _ h => hFc q h) hFc (fun ur_28 t H1 locs ht hvm er_28 hB hz1 hk1 hS => ?_)
                            obtain ⟨x26_28, y27_28, f20_28, f25_28, k_29, k_30, k_31, hR25, hC, hV, hP1⟩ := hB
                            rw [ht] at hP1
                            clear hFc hz1 hk1 hvm hP
                            subst ht
                            have hP := hP1
                            clear hP1
                            generalize t.heap = H at hP hS ⊢
                            have hP : va_P (dC, dI) vwCl (rw_W o c kc (rU (rU (rU (rU (rU (rU st 16 r_1) 17 (0 : Int32)) 21 s21_92) 22 s22_92) 24 s24_92) 26 x26_28) (rU (rU lg 23 u23_92) 27 y27_28) (rU (rU (rU ai 19 a19_92) 20 f20_28) 25 f25_28) (rU al 18 b18_92)) H := hP
                            have k_29 : (x26_28.toInt = s26_92.toInt ∨ x26_28.toInt = s26_92.toInt + 1) := k_29
                            have k_30 : 0 ≤ x26_28.toInt := k_30
                            have k_31 : x26_28.toInt ≤ 2000000 := k_31
                            have hR25 : aR f25_28 130 (0) 127 := hR25
                            have hC : cOK (ai 0) (st 7) r_1 f20_28 := hC
                            have hV : vOK (ai 0) (st 7) r_1 f25_28 (x26_28.toInt - s22_92.toInt) := hV
                            obtain ⟨x_32, ex_32⟩ : ∃ z : Int32, z = l1_92 + (1) := ⟨_, rfl⟩
                            refine lv_iinc (v := x_32) (lv' := [(1, .int x_32), (2, .int r_10), (0, .ref o)]) hx hb dX9_read_155 hl (k := 1) rfl (by rw [ex_32]; rfl) (by decide) rfl (fun ls hl => ?_)
                            have rg3 := iv_rng l1_92
                            have hx_32 : x_32.toInt = l1_92.toInt + (1) := by rw [ex_32]; exact (iv_add (by omega) (by omega)).trans (by omega)
                            clear ex_32
                            refine lv_goto (tgt := 92) hx hb dX9_read_158 (by decide) ?_
                            exact ih92 x_32 s21_92 s22_92 s24_92 x26_28 u23_92 y27_28 a19_92 f20_28 f25_28 b18_92 _ _ _ (by omega) (by omega) (by omega) (by omega) (by omega) (by omega) (by omega) (by omega) (by omega) (by omega) (by omega) (by omega) (by omega) (by omega) (by assumption) (by assumption) (by assumption) (by assumption) (by assumption) (by omega) hP hS (lv_sub hl [0, 2] rfl)
                        · skip
                          have ic_25 := iv_eq c_25
                          refine lv_aload_n hx hb dX9_read_136 rfl (lv_at hl 2 rfl) ?_
                          refine lv_iload_n hx hb dX9_read_137 rfl (lv_at hl 1 rfl) ?_
                          refine lv_iload_n hx hb dX9_read_138 rfl (lv_at hl 0 rfl) ?_
                          have hFc := vfree (rw_D hD : va_D A (rw_W o c kc (rU (rU (rU (rU (rU (rU st 16 r_1) 17 (0 : Int32)) 21 s21_92) 22 s22_92) 24 s24_92) 26 s26_92) (rU (rU lg 23 u23_92) 27 u27_92) (rU (rU (rU ai 19 a19_92) 20 a20_92) 25 a25_92) (rU al 18 b18_92))) hS hA
                          refine va_callv (va_runV (As := [.int l1_92, .int r_10]) (rest := []) ⟨hx, hb, hml, hown, hts⟩ (v_X9_group l dC dI o c kc (rU (rU (rU (rU (rU (rU st 16 r_1) 17 (0 : Int32)) 21 s21_92) 22 s22_92) 24 s24_92) 26 s26_92) (rU (rU lg 23 u23_92) 27 u27_92) (rU (rU (rU ai 19 a19_92) 20 a20_92) 25 a25_92) (rU al 18 b18_92) l1_92 r_10 _ (show 0 ≤ (st 7).toInt by omega) (show (st 7).toInt ≤ 1 by omega) (show 0 ≤ r_1.toInt by omega) (show r_1.toInt ≤ 128 by omega) (show 0 ≤ s22_92.toInt by omega) (show s22_92.toInt ≤ 1000000 by omega) (show 0 ≤ s24_92.toInt by omega) (show s24_92.toInt ≤ 1 by omega) (show 0 ≤ s26_92.toInt by omega) (show s26_92.toInt ≤ 2000000 by omega) (by omega) (by omega) (show r_10.toInt = (rK (ai 0) (st 7) l1_92).toInt by omega) (show 0 ≤ s26_92.toInt - s22_92.toInt by omega) (show s26_92.toInt - s22_92.toInt ≤ 128 by omega) (show gOK (ai 0) (st 7) r_1 a19_92 from (by assumption)) (show cOK (ai 0) (st 7) r_1 a20_92 from (by assumption)) (show vOK (ai 0) (st 7) r_1 a25_92 (s26_92.toInt - s22_92.toInt) from (by assumption)) (show bOK (ai 0) (st 7) r_1 s24_92 from (by assumption))) (cwV 2 hts gX9_read_X9_group rfl rfl rfl (by decide +kernel) ⟨Nat.le_of_ble_eq_true rfl, Nat.le_of_ble_eq_true rfl⟩) ⟨fun a U g mk q => by obtain ⟨q0, q1, qP, qK, qD⟩ := q; exact ⟨q0, q1, qP, va_K.moved (u := U) (U := U.calling g mk a) (Vm.Alike.refl U.vm) qK, qD⟩, va_recv hK hP (ci := 11) (q := (RX9, TX9, 38)) rfl (q0 := 0) rfl, fun U hU hW => ⟨rfl, by rw [hU], by rw [hU]; exact hP, va_K.moved hW.alike hK, rw_D (hD.weaken (fun _ _ _ _ => trivial))⟩⟩ rfl rfl hl.1 rfl (lv_room (Nat.le_of_ble_eq_true rfl)) dX9_read_139 ⟨Nat.le_of_ble_eq_true rfl, Nat.le_of_ble_eq_true rfl⟩) hS (fun q _ h => hFc q h) hFc (fun ur_33 t H1 locs ht hvm er_33 hB hz1 hk1 hS => ?_)
                          obtain ⟨x22_33, x24_33, x26_33, y23_33, y27_33, f19_33, f20_33, g18_33, k_34, k_35, k_36, k_37, k_38, k_39, k_40, hG, hC, hV, hBs, hP1⟩ := hB
                          rw [ht] at hP1
                          clear hFc hz1 hk1 hvm hP
                          subst ht
                          have hP := hP1
                          clear hP1
                          generalize t.heap = H at hP hS ⊢
                          have hP : va_P (dC, dI) vwCl (rw_W o c kc (rU (rU (rU (rU (rU (rU st 16 r_1) 17 (0 : Int32)) 21 s21_92) 22 x22_33) 24 x24_33) 26 x26_33) (rU (rU lg 23 y23_33) 27 y27_33) (rU (rU (rU ai 19 f19_33) 20 f20_33) 25 a25_92) (rU al 18 g18_33)) H := hP
                          have k_34 : (x26_33.toInt - x22_33.toInt = s26_92.toInt - s22_92.toInt ∨ (x26_33.toInt = x22_33.toInt ∧ l1_92.toInt = 0)) := k_34
                          have k_35 : 0 ≤ x22_33.toInt := k_35
                          have k_36 : x22_33.toInt ≤ 1000000 := k_36
                          have k_37 : 0 ≤ x24_33.toInt := k_37
                          have k_38 : x24_33.toInt ≤ 1 := k_38
                          have k_39 : 0 ≤ x26_33.toInt := k_39
                          have k_40 : x26_33.toInt ≤ 2000000 := k_40
                          have hG : gOK (ai 0) (st 7) r_1 f19_33 := hG
                          have hC : cOK (ai 0) (st 7) r_1 f20_33 := hC
                          have hV : vOK (ai 0) (st 7) r_1 a25_92 (x26_33.toInt - x22_33.toInt) := hV
                          have hBs : bOK (ai 0) (st 7) r_1 x24_33 := hBs
                          refine lv_goto (tgt := 155) hx hb dX9_read_142 (by decide) ?_
                          obtain ⟨x_41, ex_41⟩ : ∃ z : Int32, z = l1_92 + (1) := ⟨_, rfl⟩
                          refine lv_iinc (v := x_41) (lv' := [(1, .int x_41), (2, .int r_10), (0, .ref o)]) hx hb dX9_read_155 hl (k := 1) rfl (by rw [ex_41]; rfl) (by decide) rfl (fun ls hl => ?_)
                          have rg4 := iv_rng l1_92
                          have hx_41 : x_41.toInt = l1_92.toInt + (1) := by rw [ex_41]; exact (iv_add (by omega) (by omega)).trans (by omega)
                          clear ex_41
                          refine lv_goto (tgt := 92) hx hb dX9_read_158 (by decide) ?_
                          exact ih92 x_41 s21_92 x22_33 x24_33 x26_33 y23_33 y27_33 f19_33 f20_33 a25_92 g18_33 _ _ _ (by omega) (by omega) (by omega) (by omega) (by omega) (by omega) (by omega) (by omega) (by omega) (by omega) (by omega) (by omega) (by omega) (by omega) (by assumption) (by assumption) (by assumption) (by assumption) (by assumption) (by omega) hP hS (lv_sub hl [0, 2] rfl)
                    · skip
                      have ic_14 := iv_eq c_14
                      refine lv_aload_n hx hb dX9_read_118 rfl (lv_at hl 2 rfl) ?_
                      refine lv_iload_n hx hb dX9_read_119 rfl (lv_at hl 1 rfl) ?_
                      refine va_put (D := (dC, dI)) (ci := 11) (v := .int l1_92) (ty := .int) (C := RX9) (T := TX9) (N := 38) hx hb hts hin9 tyX9 tyX9_ok nmX9 hown hK hP (rw_D hD) hS 0 rfl rfl 21 (by decide) (hts (.fieldLink RX9 179 "BlockLogModel" "lastVote" "I") (by decide +kernel)) (fun _ h9 => h9) rfl (by decide +kernel) rfl rfl (Nat.le_of_ble_eq_true rfl) dX9_read_120 (fun H locs hP _ hS => ?_)
                      have hP : va_P (dC, dI) vwCl (rw_W o c kc (rU (rU (rU (rU (rU (rU st 16 r_1) 17 (0 : Int32)) 21 l1_92) 22 s22_92) 24 s24_92) 26 s26_92) (rU (rU lg 23 u23_92) 27 u27_92) (rU (rU (rU ai 19 a19_92) 20 a20_92) 25 a25_92) (rU al 18 b18_92)) H := hP
                      refine lv_goto (tgt := 155) hx hb dX9_read_123 (by decide) ?_
                      obtain ⟨x_42, ex_42⟩ : ∃ z : Int32, z = l1_92 + (1) := ⟨_, rfl⟩
                      refine lv_iinc (v := x_42) (lv' := [(1, .int x_42), (2, .int r_10), (0, .ref o)]) hx hb dX9_read_155 hl (k := 1) rfl (by rw [ex_42]; rfl) (by decide) rfl (fun ls hl => ?_)
                      have rg5 := iv_rng l1_92
                      have hx_42 : x_42.toInt = l1_92.toInt + (1) := by rw [ex_42]; exact (iv_add (by omega) (by omega)).trans (by omega)
                      clear ex_42
                      refine lv_goto (tgt := 92) hx hb dX9_read_158 (by decide) ?_
                      exact ih92 x_42 l1_92 s22_92 s24_92 s26_92 u23_92 u27_92 a19_92 a20_92 a25_92 b18_92 _ _ _ (by omega) (by omega) (by omega) (by omega) (by omega) (by omega) (by omega) (by omega) (by omega) (by omega) (by omega) (by omega) (by omega) (by omega) (by assumption) (by assumption) (by assumption) (by assumption) (by assumption) (by omega) hP hS (lv_sub hl [0, 2] rfl)
            exact loop92 ((r_1.toInt - 0 : Int).toNat + 1) (0 : Int32) (-1 : Int32) (0 : Int32) (0 : Int32) (0 : Int32) (0 : Int64) (0 : Int64) a19_56 a20_56 (ai 25) b18_56 _ _ _ (by omega) (by omega) (by omega) (by omega) (by omega) (by omega) (by omega) (by omega) (by omega) (by omega) (by omega) (by omega) (by omega) (by omega) (by assumption) (by assumption) (by assumption) (by assumption) (by assumption) (by omega) hP hS (lv_sub hl [0, 1] rfl)
          · skip
            have ic_7 := iv_nle c_7
            refine lv_aload_n hx hb dX9_read_63 rfl (lv_at hl 1 rfl) ?_
            refine va_get (D := (dC, dI)) (ci := 11) (v := .ref (c 18)) (C := RX9) (T := TX9) (N := 38) hx hb hts hin9 hown hK hP 0 rfl rfl 18 (by decide) (hts (.fieldLink RX9 27 "BlockLogModel" "digestAt" "[J") (by decide +kernel)) (fun _ h9 => h9) rfl dX9_read_64 ?_
            refine lv_iload_n hx hb dX9_read_67 rfl (lv_at hl 0 rfl) ?_
            refine lv_lconst (v := 0) hx hb dX9_read_68 (by decide) ?_
            refine va_last (f := b18_56) hx hb hK hP (rw_D hD) hS 6 5 rfl rfl (iv_in (i := l1_56) (by omega) (by omega)) dX9_read_69 (fun H locs hP _ hS => ?_)
            have hP : va_P (dC, dI) vwCl (rw_W o c kc (rU (rU (rU (rU (rU (rU st 16 r_1) 17 (0 : Int32)) 21 (-1 : Int32)) 22 (0 : Int32)) 24 (0 : Int32)) 26 (0 : Int32)) (rU (rU lg 23 (0 : Int64)) 27 (0 : Int64)) (rU (rU ai 19 a19_56) 20 a20_56) (rU al 18 (vp_updL b18_56 l1_56.toNatClampNeg (0 : Int64)))) H := hP
            generalize hU_digestAt : vp_updL b18_56 l1_56.toNatClampNeg (0 : Int64) = g_43 at hP
            clear hU_digestAt
            refine lv_aload_n hx hb dX9_read_70 rfl (lv_at hl 1 rfl) ?_
            refine va_get (D := (dC, dI)) (ci := 11) (v := .ref (c 19)) (C := RX9) (T := TX9) (N := 38) hx hb hts hin9 hown hK hP 0 rfl rfl 19 (by decide) (hts (.fieldLink RX9 30 "BlockLogModel" "isGroup" "[Z") (by decide +kernel)) (fun _ h9 => h9) rfl dX9_read_71 ?_
            refine lv_iload_n hx hb dX9_read_74 rfl (lv_at hl 0 rfl) ?_
            refine lv_iconst (v := 0) hx hb dX9_read_75 (by decide) ?_
            refine va_zast (f := a19_56) hx hb hK hP (rw_D hD) hS 7 6 rfl rfl (iv_in (i := l1_56) (by omega) (by omega)) dX9_read_76 (fun H locs hP _ hS => ?_)
            have hP : va_P (dC, dI) vwCl (rw_W o c kc (rU (rU (rU (rU (rU (rU st 16 r_1) 17 (0 : Int32)) 21 (-1 : Int32)) 22 (0 : Int32)) 24 (0 : Int32)) 26 (0 : Int32)) (rU (rU lg 23 (0 : Int64)) 27 (0 : Int64)) (rU (rU ai 19 (upd a19_56 l1_56.toNatClampNeg (vp_nar .boolean (0 : Int32)))) 20 a20_56) (rU al 18 g_43)) H := hP
            generalize hU_isGroup : upd a19_56 l1_56.toNatClampNeg (vp_nar .boolean (0 : Int32)) = g_44 at hP
            refine lv_aload_n hx hb dX9_read_77 rfl (lv_at hl 1 rfl) ?_
            refine va_get (D := (dC, dI)) (ci := 11) (v := .ref (c 20)) (C := RX9) (T := TX9) (N := 38) hx hb hts hin9 hown hK hP 0 rfl rfl 20 (by decide) (hts (.fieldLink RX9 34 "BlockLogModel" "counts" "[Z") (by decide +kernel)) (fun _ h9 => h9) rfl dX9_read_78 ?_
            refine lv_iload_n hx hb dX9_read_81 rfl (lv_at hl 0 rfl) ?_
            refine lv_iconst (v := 0) hx hb dX9_read_82 (by decide) ?_
            refine va_zast (f := a20_56) hx hb hK hP (rw_D hD) hS 8 7 rfl rfl (iv_in (i := l1_56) (by omega) (by omega)) dX9_read_83 (fun H locs hP _ hS => ?_)
            have hP : va_P (dC, dI) vwCl (rw_W o c kc (rU (rU (rU (rU (rU (rU st 16 r_1) 17 (0 : Int32)) 21 (-1 : Int32)) 22 (0 : Int32)) 24 (0 : Int32)) 26 (0 : Int32)) (rU (rU lg 23 (0 : Int64)) 27 (0 : Int64)) (rU (rU ai 19 g_44) 20 (upd a20_56 l1_56.toNatClampNeg (vp_nar .boolean (0 : Int32)))) (rU al 18 g_43)) H := hP
            generalize hU_counts : upd a20_56 l1_56.toNatClampNeg (vp_nar .boolean (0 : Int32)) = g_45 at hP
            obtain ⟨x_46, ex_46⟩ : ∃ z : Int32, z = l1_56 + (1) := ⟨_, rfl⟩
            refine lv_iinc (v := x_46) (lv' := [(1, .int x_46), (0, .ref o)]) hx hb dX9_read_84 hl (k := 0) rfl (by rw [ex_46]; rfl) (by decide) rfl (fun ls hl => ?_)
            have rg6 := iv_rng l1_56
            have hx_46 : x_46.toInt = l1_56.toInt + (1) := by rw [ex_46]; exact (iv_add (by omega) (by omega)).trans (by omega)
            clear ex_46
            refine lv_goto (tgt := 56) hx hb dX9_read_87 (by decide) ?_
            exact ih56 x_46 g_44 g_45 g_43 _ _ _ (by omega) (by omega) (zI_s hz1 hU_isGroup (by decide) (by omega) (by omega)) (zI_s hz2 hU_counts (by decide) (by omega) (by omega)) (by omega) hP hS (lv_sub hl [0, 1] rfl)
      exact loop56 ((128 - 0 : Int).toNat + 1) (0 : Int32) (ai 19) (ai 20) (al 18) _ _ _ (by omega) (by omega) (zI_0 (by omega)) (zI_0 (by omega)) (by omega) hP hS (lv_sub hl [0, 1] rfl)
    · skip
      have ic_6 := iv_nle c_6
      refine lv_iconst (v := 1) hx hb dX9_read_16 (by decide) ?_
      refine lv_goto (tgt := 21) hx hb dX9_read_17 (by decide) ?_
      refine va_put (D := (dC, dI)) (ci := 11) (v := .int (1 : Int32)) (ty := .boolean) (C := RX9) (T := TX9) (N := 38) hx hb hts hin9 tyX9 tyX9_ok nmX9 hown hK hP (rw_D hD) hS 0 rfl rfl 17 (by decide) (hts (.fieldLink RX9 176 "BlockLogModel" "needs" "Z") (by decide +kernel)) (fun _ h9 => h9) rfl (by decide +kernel) rfl rfl (Nat.le_of_ble_eq_true rfl) dX9_read_21 (fun H locs hP _ hS => ?_)
      have hP : va_P (dC, dI) vwCl (rw_W o c kc (rU (rU st 16 r_1) 17 (1 : Int32)) lg ai al) H := hP
      refine lv_aload_n hx hb dX9_read_24 rfl (lv_at hl 0 rfl) ?_
      refine lv_iconst (v := (-1)) hx hb dX9_read_25 (by decide) ?_
      refine va_put (D := (dC, dI)) (ci := 11) (v := .int (-1 : Int32)) (ty := .int) (C := RX9) (T := TX9) (N := 38) hx hb hts hin9 tyX9 tyX9_ok nmX9 hown hK hP (rw_D hD) hS 0 rfl rfl 21 (by decide) (hts (.fieldLink RX9 179 "BlockLogModel" "lastVote" "I") (by decide +kernel)) (fun _ h9 => h9) rfl (by decide +kernel) rfl rfl (Nat.le_of_ble_eq_true rfl) dX9_read_26 (fun H locs hP _ hS => ?_)
      have hP : va_P (dC, dI) vwCl (rw_W o c kc (rU (rU (rU st 16 r_1) 17 (1 : Int32)) 21 (-1 : Int32)) lg ai al) H := hP
      refine lv_aload_n hx hb dX9_read_29 rfl (lv_at hl 0 rfl) ?_
      refine lv_iconst (v := 0) hx hb dX9_read_30 (by decide) ?_
      refine va_put (D := (dC, dI)) (ci := 11) (v := .int (0 : Int32)) (ty := .int) (C := RX9) (T := TX9) (N := 38) hx hb hts hin9 tyX9 tyX9_ok nmX9 hown hK hP (rw_D hD) hS 0 rfl rfl 22 (by decide) (hts (.fieldLink RX9 182 "BlockLogModel" "baseHeight" "I") (by decide +kernel)) (fun _ h9 => h9) rfl (by decide +kernel) rfl rfl (Nat.le_of_ble_eq_true rfl) dX9_read_31 (fun H locs hP _ hS => ?_)
      have hP : va_P (dC, dI) vwCl (rw_W o c kc (rU (rU (rU (rU st 16 r_1) 17 (1 : Int32)) 21 (-1 : Int32)) 22 (0 : Int32)) lg ai al) H := hP
      refine lv_aload_n hx hb dX9_read_34 rfl (lv_at hl 0 rfl) ?_
      refine lv_lconst (v := 0) hx hb dX9_read_35 (by decide) ?_
      refine va_put (D := (dC, dI)) (ci := 11) (v := .long (0 : Int64)) (ty := .long) (C := RX9) (T := TX9) (N := 38) hx hb hts hin9 tyX9 tyX9_ok nmX9 hown hK hP (rw_D hD) hS 0 rfl rfl 23 (by decide) (hts (.fieldLink RX9 185 "BlockLogModel" "baseDigest" "J") (by decide +kernel)) (fun _ h9 => h9) rfl (by decide +kernel) rfl rfl (Nat.le_of_ble_eq_true rfl) dX9_read_36 (fun H locs hP _ hS => ?_)
      have hP : va_P (dC, dI) vwCl (rw_W o c kc (rU (rU (rU (rU st 16 r_1) 17 (1 : Int32)) 21 (-1 : Int32)) 22 (0 : Int32)) (rU lg 23 (0 : Int64)) ai al) H := hP
      refine lv_aload_n hx hb dX9_read_39 rfl (lv_at hl 0 rfl) ?_
      refine lv_iconst (v := 0) hx hb dX9_read_40 (by decide) ?_
      refine va_put (D := (dC, dI)) (ci := 11) (v := .int (0 : Int32)) (ty := .boolean) (C := RX9) (T := TX9) (N := 38) hx hb hts hin9 tyX9 tyX9_ok nmX9 hown hK hP (rw_D hD) hS 0 rfl rfl 24 (by decide) (hts (.fieldLink RX9 189 "BlockLogModel" "hasBase" "Z") (by decide +kernel)) (fun _ h9 => h9) rfl (by decide +kernel) rfl rfl (Nat.le_of_ble_eq_true rfl) dX9_read_41 (fun H locs hP _ hS => ?_)
      have hP : va_P (dC, dI) vwCl (rw_W o c kc (rU (rU (rU (rU (rU st 16 r_1) 17 (1 : Int32)) 21 (-1 : Int32)) 22 (0 : Int32)) 24 (0 : Int32)) (rU lg 23 (0 : Int64)) ai al) H := hP
      refine lv_aload_n hx hb dX9_read_44 rfl (lv_at hl 0 rfl) ?_
      refine lv_iconst (v := 0) hx hb dX9_read_45 (by decide) ?_
      refine va_put (D := (dC, dI)) (ci := 11) (v := .int (0 : Int32)) (ty := .int) (C := RX9) (T := TX9) (N := 38) hx hb hts hin9 tyX9 tyX9_ok nmX9 hown hK hP (rw_D hD) hS 0 rfl rfl 26 (by decide) (hts (.fieldLink RX9 192 "BlockLogModel" "lastVersion" "I") (by decide +kernel)) (fun _ h9 => h9) rfl (by decide +kernel) rfl rfl (Nat.le_of_ble_eq_true rfl) dX9_read_46 (fun H locs hP _ hS => ?_)
      have hP : va_P (dC, dI) vwCl (rw_W o c kc (rU (rU (rU (rU (rU (rU st 16 r_1) 17 (1 : Int32)) 21 (-1 : Int32)) 22 (0 : Int32)) 24 (0 : Int32)) 26 (0 : Int32)) (rU lg 23 (0 : Int64)) ai al) H := hP
      refine lv_aload_n hx hb dX9_read_49 rfl (lv_at hl 0 rfl) ?_
      refine lv_lconst (v := 0) hx hb dX9_read_50 (by decide) ?_
      refine va_put (D := (dC, dI)) (ci := 11) (v := .long (0 : Int64)) (ty := .long) (C := RX9) (T := TX9) (N := 38) hx hb hts hin9 tyX9 tyX9_ok nmX9 hown hK hP (rw_D hD) hS 0 rfl rfl 27 (by decide) (hts (.fieldLink RX9 195 "BlockLogModel" "lastDigest" "J") (by decide +kernel)) (fun _ h9 => h9) rfl (by decide +kernel) rfl rfl (Nat.le_of_ble_eq_true rfl) dX9_read_51 (fun H locs hP _ hS => ?_)
      have hP : va_P (dC, dI) vwCl (rw_W o c kc (rU (rU (rU (rU (rU (rU st 16 r_1) 17 (1 : Int32)) 21 (-1 : Int32)) 22 (0 : Int32)) 24 (0 : Int32)) 26 (0 : Int32)) (rU (rU lg 23 (0 : Int64)) 27 (0 : Int64)) ai al) H := hP
      refine lv_iconst (v := 0) hx hb dX9_read_54 (by decide) ?_
      refine lv_istore_n (lv' := [(1, .int (0 : Int32)), (0, .ref o)]) hx hb dX9_read_55 rfl hl (by decide) rfl (fun ls hl => ?_)
      have loop56 : ∀ (n : Nat) (l1_56 : Int32) (a19_56 : Nat → Int32) (a20_56 : Nat → Int32) (b18_56 : Nat → Int64) (H : Heap) (locs : List Loc) (ls : Array Slot), (0 ≤ l1_56.toInt) → (l1_56.toInt ≤ 128) → (zI a19_56 l1_56) → (zI a20_56 l1_56) → (128 - l1_56.toInt : Int).toNat < n → va_P (dC, dI) vwCl (rw_W o c kc (rU (rU (rU (rU (rU (rU st 16 r_1) 17 (1 : Int32)) 21 (-1 : Int32)) 22 (0 : Int32)) 24 (0 : Int32)) 26 (0 : Int32)) (rU (rU lg 23 (0 : Int64)) 27 (0 : Int64)) (rU (rU ai 19 a19_56) 20 a20_56) (rU al 18 b18_56)) H → va_S A s.heap H locs → lv_has ls 3 [(1, .int l1_56), (0, .ref o)] → W p l e (headSpec wsX9_read ({ frames := 6, cells := 0, slots := 0, locals := 137 })).room s m ([.ref o] : List Value).toArray below meth cM H locs 0 0 (MQ below (va_Qv (fun (_ : Unit) => True) (fun _ t => ∃ (x16 : Int32) (x17 : Int32) (x21 : Int32) (x22 : Int32) (x24 : Int32) (x26 : Int32) (y23 : Int64) (y27 : Int64) (f19 : Nat → Int32) (f20 : Nat → Int32) (f25 : Nat → Int32) (g18 : Nat → Int64), (x16.toInt = (st 15).toInt) ∧ (0 ≤ x26.toInt - x22.toInt) ∧ (x26.toInt - x22.toInt ≤ 128) ∧ (x21.toInt = -1 ∨ (rK (ai 0) (st 7) x21).toInt = 1) ∧ (x21.toInt < x16.toInt) ∧ (0 ≤ x16.toInt) ∧ (x16.toInt ≤ 128) ∧ (0 ≤ x17.toInt) ∧ (x17.toInt ≤ 1) ∧ (-1 ≤ x21.toInt) ∧ (x21.toInt ≤ 127) ∧ (0 ≤ x22.toInt) ∧ (x22.toInt ≤ 1000000) ∧ (0 ≤ x24.toInt) ∧ (x24.toInt ≤ 1) ∧ (0 ≤ x26.toInt) ∧ (x26.toInt ≤ 2000000) ∧ (aR f25 130 (0) 127) ∧ (gOK (ai 0) (st 7) x16 f19) ∧ (cOK (ai 0) (st 7) x16 f20) ∧ (vOK (ai 0) (st 7) x16 f25 (x26.toInt - x22.toInt)) ∧ (bOK (ai 0) (st 7) x16 x24) ∧ va_P (dC, dI) vwCl (rw_W o c kc (rU (rU (rU (rU (rU (rU st 16 x16) 17 x17) 21 x21) 22 x22) 24 x24) 26 x26) (rU (rU lg 23 y23) 27 y27) (rU (rU (rU ai 19 f19) 20 f20) 25 f25) (rU al 18 g18)) t.heap) A) ([.ref o] : List Value).toArray s 0 0 A) (F0 m 56 ls []) := by
        intro n
        induction n with
        | zero => intro l1_56 a19_56 a20_56 b18_56 H locs ls if0_56 if1_56 hz1 hz2 hm; exact absurd hm (Nat.not_lt_zero _)
        | succ n ih56 =>
          intro l1_56 a19_56 a20_56 b18_56 H locs ls if0_56 if1_56 hz1 hz2 hm56 hP hS hl
          refine lv_iload_n hx hb dX9_read_56 rfl (lv_at hl 0 rfl) ?_
          refine lv_sipush (v := 128) hx hb dX9_read_57 (by decide) ?_
          refine lv_icmp_ge (tgt := 90) hx hb dX9_read_60 (by decide) (fun c_47 => ?_) (fun c_47 => ?_)
          · skip
            have ic_47 := iv_le c_47
            have hG : gOK (ai 0) (st 7) r_1 a19_56 := gOK_z hz1 (by omega)
            have hC : cOK (ai 0) (st 7) r_1 a20_56 := cOK_z hz2 (by omega)
            have hV : vOK (ai 0) (st 7) r_1 (ai 25) ((0 : Int32).toInt - (0 : Int32).toInt) := vOK_0 (by omega)
            have hBs : bOK (ai 0) (st 7) r_1 (0 : Int32) := bOK_0 (by omega)
            refine lv_iconst (v := 0) hx hb dX9_read_90 (by decide) ?_
            refine lv_istore_n (lv' := [(1, .int (0 : Int32)), (0, .ref o)]) hx hb dX9_read_91 rfl hl (by decide) rfl (fun ls hl => ?_)
            have loop92 : ∀ (n : Nat) (l1_92 : Int32) (s21_92 : Int32) (s22_92 : Int32) (s24_92 : Int32) (s26_92 : Int32) (u23_92 : Int64) (u27_92 : Int64) (a19_92 : Nat → Int32) (a20_92 : Nat → Int32) (a25_92 : Nat → Int32) (b18_92 : Nat → Int64) (H : Heap) (locs : List Loc) (ls : Array Slot), (0 ≤ l1_92.toInt) → (l1_92.toInt ≤ r_1.toInt) → (0 ≤ s26_92.toInt - s22_92.toInt) → (s26_92.toInt - s22_92.toInt ≤ l1_92.toInt) → (s21_92.toInt = -1 ∨ (rK (ai 0) (st 7) s21_92).toInt = 1) → (s21_92.toInt < l1_92.toInt) → (-1 ≤ s21_92.toInt) → (s21_92.toInt ≤ 127) → (0 ≤ s22_92.toInt) → (s22_92.toInt ≤ 1000000) → (0 ≤ s24_92.toInt) → (s24_92.toInt ≤ 1) → (0 ≤ s26_92.toInt) → (s26_92.toInt ≤ 2000000) → (aR a25_92 130 (0) 127) → (gOK (ai 0) (st 7) r_1 a19_92) → (cOK (ai 0) (st 7) r_1 a20_92) → (vOK (ai 0) (st 7) r_1 a25_92 (s26_92.toInt - s22_92.toInt)) → (bOK (ai 0) (st 7) r_1 s24_92) → (r_1.toInt - l1_92.toInt : Int).toNat < n → va_P (dC, dI) vwCl (rw_W o c kc (rU (rU (rU (rU (rU (rU st 16 r_1) 17 (1 : Int32)) 21 s21_92) 22 s22_92) 24 s24_92) 26 s26_92) (rU (rU lg 23 u23_92) 27 u27_92) (rU (rU (rU ai 19 a19_92) 20 a20_92) 25 a25_92) (rU al 18 b18_92)) H → va_S A s.heap H locs → lv_has ls 3 [(1, .int l1_92), (0, .ref o)] → W p l e (headSpec wsX9_read ({ frames := 6, cells := 0, slots := 0, locals := 137 })).room s m ([.ref o] : List Value).toArray below meth cM H locs 0 0 (MQ below (va_Qv (fun (_ : Unit) => True) (fun _ t => ∃ (x16 : Int32) (x17 : Int32) (x21 : Int32) (x22 : Int32) (x24 : Int32) (x26 : Int32) (y23 : Int64) (y27 : Int64) (f19 : Nat → Int32) (f20 : Nat → Int32) (f25 : Nat → Int32) (g18 : Nat → Int64), (x16.toInt = (st 15).toInt) ∧ (0 ≤ x26.toInt - x22.toInt) ∧ (x26.toInt - x22.toInt ≤ 128) ∧ (x21.toInt = -1 ∨ (rK (ai 0) (st 7) x21).toInt = 1) ∧ (x21.toInt < x16.toInt) ∧ (0 ≤ x16.toInt) ∧ (x16.toInt ≤ 128) ∧ (0 ≤ x17.toInt) ∧ (x17.toInt ≤ 1) ∧ (-1 ≤ x21.toInt) ∧ (x21.toInt ≤ 127) ∧ (0 ≤ x22.toInt) ∧ (x22.toInt ≤ 1000000) ∧ (0 ≤ x24.toInt) ∧ (x24.toInt ≤ 1) ∧ (0 ≤ x26.toInt) ∧ (x26.toInt ≤ 2000000) ∧ (aR f25 130 (0) 127) ∧ (gOK (ai 0) (st 7) x16 f19) ∧ (cOK (ai 0) (st 7) x16 f20) ∧ (vOK (ai 0) (st 7) x16 f25 (x26.toInt - x22.toInt)) ∧ (bOK (ai 0) (st 7) x16 x24) ∧ va_P (dC, dI) vwCl (rw_W o c kc (rU (rU (rU (rU (rU (rU st 16 x16) 17 x17) 21 x21) 22 x22) 24 x24) 26 x26) (rU (rU lg 23 y23) 27 y27) (rU (rU (rU ai 19 f19) 20 f20) 25 f25) (rU al 18 g18)) t.heap) A) ([.ref o] : List Value).toArray s 0 0 A) (F0 m 92 ls []) := by
              intro n
              induction n with
              | zero => intro l1_92 s21_92 s22_92 s24_92 s26_92 u23_92 u27_92 a19_92 a20_92 a25_92 b18_92 H locs ls if0_92 if1_92 if2_92 if3_92 if4_92 if5_92 if6_92 if7_92 if8_92 if9_92 if10_92 if11_92 if12_92 if13_92 hR25 hG hC hV hBs hm; exact absurd hm (Nat.not_lt_zero _)
              | succ n ih92 =>
                intro l1_92 s21_92 s22_92 s24_92 s26_92 u23_92 u27_92 a19_92 a20_92 a25_92 b18_92 H locs ls if0_92 if1_92 if2_92 if3_92 if4_92 if5_92 if6_92 if7_92 if8_92 if9_92 if10_92 if11_92 if12_92 if13_92 hR25 hG hC hV hBs hm92 hP hS hl
                refine lv_iload_n hx hb dX9_read_92 rfl (lv_at hl 0 rfl) ?_
                refine lv_aload_n hx hb dX9_read_93 rfl (lv_at hl 1 rfl) ?_
                refine va_get (D := (dC, dI)) (ci := 11) (v := .int r_1) (C := RX9) (T := TX9) (N := 38) hx hb hts hin9 hown hK hP 0 rfl rfl 16 (by decide) (hts (.fieldLink RX9 167 "BlockLogModel" "many" "I") (by decide +kernel)) (fun _ h9 => h9) rfl dX9_read_94 ?_
                refine lv_icmp_ge (tgt := 161) hx hb dX9_read_97 (by decide) (fun c_48 => ?_) (fun c_48 => ?_)
                · skip
                  have ic_48 := iv_le c_48
                  exact W.vret hx hb hr (fun t ht hW => ⟨⟨(), rfl, trivial, r_1, (1 : Int32), s21_92, s22_92, s24_92, s26_92, u23_92, u27_92, a19_92, a20_92, a25_92, b18_92, (by omega), (by omega), (by omega), (by omega), (by omega), (by omega), (by omega), (by omega), (by omega), (by omega), (by omega), (by omega), (by omega), (by omega), (by omega), (by omega), (by omega), hR25, (by assumption), (by assumption), (by assumption), (by assumption), by rw [ht]; exact hP⟩, hS.F ht⟩) hS.2.2 dX9_read_161
                · skip
                  have ic_48 := iv_nle c_48
                  refine lv_aload_n hx hb dX9_read_100 rfl (lv_at hl 1 rfl) ?_
                  refine va_get (D := (dC, dI)) (ci := 11) (v := .int (1 : Int32)) (C := RX9) (T := TX9) (N := 38) hx hb hts hin9 hown hK hP 0 rfl rfl 17 (by decide) (hts (.fieldLink RX9 176 "BlockLogModel" "needs" "Z") (by decide +kernel)) (fun _ h9 => h9) rfl dX9_read_101 ?_
                  refine lv_if_ne (tgt := 161) hx hb dX9_read_104 (by decide) (fun c_49 => ?_) (fun c_49 => ?_)
                  · skip
                    have ic_49 := iv_ne c_49
                    exact W.vret hx hb hr (fun t ht hW => ⟨⟨(), rfl, trivial, r_1, (1 : Int32), s21_92, s22_92, s24_92, s26_92, u23_92, u27_92, a19_92, a20_92, a25_92, b18_92, (by omega), (by omega), (by omega), (by omega), (by omega), (by omega), (by omega), (by omega), (by omega), (by omega), (by omega), (by omega), (by omega), (by omega), (by omega), (by omega), (by omega), hR25, (by assumption), (by assumption), (by assumption), (by assumption), by rw [ht]; exact hP⟩, hS.F ht⟩) hS.2.2 dX9_read_161
                  · skip
                    have ic_49 := iv_eq c_49
                    exfalso
                    omega
            exact loop92 ((r_1.toInt - 0 : Int).toNat + 1) (0 : Int32) (-1 : Int32) (0 : Int32) (0 : Int32) (0 : Int32) (0 : Int64) (0 : Int64) a19_56 a20_56 (ai 25) b18_56 _ _ _ (by omega) (by omega) (by omega) (by omega) (by omega) (by omega) (by omega) (by omega) (by omega) (by omega) (by omega) (by omega) (by omega) (by omega) (by assumption) (by assumption) (by assumption) (by assumption) (by assumption) (by omega) hP hS (lv_sub hl [0, 1] rfl)
          · skip
            have ic_47 := iv_nle c_47
            refine lv_aload_n hx hb dX9_read_63 rfl (lv_at hl 1 rfl) ?_
            refine va_get (D := (dC, dI)) (ci := 11) (v := .ref (c 18)) (C := RX9) (T := TX9) (N := 38) hx hb hts hin9 hown hK hP 0 rfl rfl 18 (by decide) (hts (.fieldLink RX9 27 "BlockLogModel" "digestAt" "[J") (by decide +kernel)) (fun _ h9 => h9) rfl dX9_read_64 ?_
            refine lv_iload_n hx hb dX9_read_67 rfl (lv_at hl 0 rfl) ?_
            refine lv_lconst (v := 0) hx hb dX9_read_68 (by decide) ?_
            refine va_last (f := b18_56) hx hb hK hP (rw_D hD) hS 6 5 rfl rfl (iv_in (i := l1_56) (by omega) (by omega)) dX9_read_69 (fun H locs hP _ hS => ?_)
            have hP : va_P (dC, dI) vwCl (rw_W o c kc (rU (rU (rU (rU (rU (rU st 16 r_1) 17 (1 : Int32)) 21 (-1 : Int32)) 22 (0 : Int32)) 24 (0 : Int32)) 26 (0 : Int32)) (rU (rU lg 23 (0 : Int64)) 27 (0 : Int64)) (rU (rU ai 19 a19_56) 20 a20_56) (rU al 18 (vp_updL b18_56 l1_56.toNatClampNeg (0 : Int64)))) H := hP
            generalize hU_digestAt : vp_updL b18_56 l1_56.toNatClampNeg (0 : Int64) = g_50 at hP
            clear hU_digestAt
            refine lv_aload_n hx hb dX9_read_70 rfl (lv_at hl 1 rfl) ?_
            refine va_get (D := (dC, dI)) (ci := 11) (v := .ref (c 19)) (C := RX9) (T := TX9) (N := 38) hx hb hts hin9 hown hK hP 0 rfl rfl 19 (by decide) (hts (.fieldLink RX9 30 "BlockLogModel" "isGroup" "[Z") (by decide +kernel)) (fun _ h9 => h9) rfl dX9_read_71 ?_
            refine lv_iload_n hx hb dX9_read_74 rfl (lv_at hl 0 rfl) ?_
            refine lv_iconst (v := 0) hx hb dX9_read_75 (by decide) ?_
            refine va_zast (f := a19_56) hx hb hK hP (rw_D hD) hS 7 6 rfl rfl (iv_in (i := l1_56) (by omega) (by omega)) dX9_read_76 (fun H locs hP _ hS => ?_)
            have hP : va_P (dC, dI) vwCl (rw_W o c kc (rU (rU (rU (rU (rU (rU st 16 r_1) 17 (1 : Int32)) 21 (-1 : Int32)) 22 (0 : Int32)) 24 (0 : Int32)) 26 (0 : Int32)) (rU (rU lg 23 (0 : Int64)) 27 (0 : Int64)) (rU (rU ai 19 (upd a19_56 l1_56.toNatClampNeg (vp_nar .boolean (0 : Int32)))) 20 a20_56) (rU al 18 g_50)) H := hP
            generalize hU_isGroup : upd a19_56 l1_56.toNatClampNeg (vp_nar .boolean (0 : Int32)) = g_51 at hP
            refine lv_aload_n hx hb dX9_read_77 rfl (lv_at hl 1 rfl) ?_
            refine va_get (D := (dC, dI)) (ci := 11) (v := .ref (c 20)) (C := RX9) (T := TX9) (N := 38) hx hb hts hin9 hown hK hP 0 rfl rfl 20 (by decide) (hts (.fieldLink RX9 34 "BlockLogModel" "counts" "[Z") (by decide +kernel)) (fun _ h9 => h9) rfl dX9_read_78 ?_
            refine lv_iload_n hx hb dX9_read_81 rfl (lv_at hl 0 rfl) ?_
            refine lv_iconst (v := 0) hx hb dX9_read_82 (by decide) ?_
            refine va_zast (f := a20_56) hx hb hK hP (rw_D hD) hS 8 7 rfl rfl (iv_in (i := l1_56) (by omega) (by omega)) dX9_read_83 (fun H locs hP _ hS => ?_)
            have hP : va_P (dC, dI) vwCl (rw_W o c kc (rU (rU (rU (rU (rU (rU st 16 r_1) 17 (1 : Int32)) 21 (-1 : Int32)) 22 (0 : Int32)) 24 (0 : Int32)) 26 (0 : Int32)) (rU (rU lg 23 (0 : Int64)) 27 (0 : Int64)) (rU (rU ai 19 g_51) 20 (upd a20_56 l1_56.toNatClampNeg (vp_nar .boolean (0 : Int32)))) (rU al 18 g_50)) H := hP
            generalize hU_counts : upd a20_56 l1_56.toNatClampNeg (vp_nar .boolean (0 : Int32)) = g_52 at hP
            obtain ⟨x_53, ex_53⟩ : ∃ z : Int32, z = l1_56 + (1) := ⟨_, rfl⟩
            refine lv_iinc (v := x_53) (lv' := [(1, .int x_53), (0, .ref o)]) hx hb dX9_read_84 hl (k := 0) rfl (by rw [ex_53]; rfl) (by decide) rfl (fun ls hl => ?_)
            have rg7 := iv_rng l1_56
            have hx_53 : x_53.toInt = l1_56.toInt + (1) := by rw [ex_53]; exact (iv_add (by omega) (by omega)).trans (by omega)
            clear ex_53
            refine lv_goto (tgt := 56) hx hb dX9_read_87 (by decide) ?_
            exact ih56 x_53 g_51 g_52 g_50 _ _ _ (by omega) (by omega) (zI_s hz1 hU_isGroup (by decide) (by omega) (by omega)) (zI_s hz2 hU_counts (by decide) (by omega) (by omega)) (by omega) hP hS (lv_sub hl [0, 1] rfl)
      exact loop56 ((128 - 0 : Int).toNat + 1) (0 : Int32) (ai 19) (ai 20) (al 18) _ _ _ (by omega) (by omega) (zI_0 (by omega)) (zI_0 (by omega)) (by omega) hP hS (lv_sub hl [0, 1] rfl)
  exact main s.heap [] hP hS

set_option maxHeartbeats 4000000 in
set_option maxRecDepth 100000 in
theorem v_X9_changes (l : Launch) (dC : Nat → ClassId) (dI : Nat → Nat → Nat) (o : Nat) (c : Nat → Nat) (kc : Nat → ClassId) (st : Nat → Int32) (lg : Nat → Int64) (ai : Nat → Nat → Int32) (al : Nat → Nat → Int64) (p0 : Int32) (sz : Nat) (hf7a : 0 ≤ (st 7).toInt) (hf7b : (st 7).toInt ≤ 1) (hf16a : 0 ≤ (st 16).toInt) (hf16b : (st 16).toInt ≤ 128) (hq0 : 0 ≤ p0.toInt) (hq1 : 0 ≤ (rB (ai 0) (st 7) p0).toInt) (hq2 : p0.toInt + (rB (ai 0) (st 7) p0).toInt < (st 16).toInt) (hSt : sOK (ai 0) (st 7) (al 28)) : Met l yX9_changes wsX9_changes ({ frames := 3, cells := 0, slots := 0, locals := 70 }) (va_Pc [.ref o, .int p0] (fun U => U.heap.size = sz ∧ va_P (dC, dI) vwCl (rw_W o c kc st lg ai al) U.heap ∧ va_K (dC, dI) vwCl (rw_T kc) U ∧ va_D (fun _ => True) (rw_W o c kc st lg ai al))) (va_Qv (fun (_ : Unit) => True) (fun _ t => ∃ (g28 : Nat → Int64), (sOK (ai 0) (st 7) g28) ∧ va_P (dC, dI) vwCl (rw_W o c kc st lg ai (rU al 28 g28)) t.heap) (va_A (rw_W o c kc st lg ai al) sz)) 0 0 (va_A (rw_W o c kc st lg ai al) sz) := by
  refine Met.ofW (cc := cX9_changes) (maxL := 5) (ret := none) (by decide) rfl ?_
  intro p e s m args below meth cM s₁ B hml hv
  obtain ⟨rfl, hsz, hP, hK, hD0⟩ := hv
  have hx := B.exec
  have hb := B.bytes
  have hr := B.returns
  have hts := atoms_spec (ws := wsX9_changes) B.pre
  have hown : s.vm.findClass RX9 = some m.cls := findClass_of_methodNamed B.named
  subst hsz
  have hD := hD0.self (sz := s.heap.size)
  generalize hAe : va_A (rw_W o c kc st lg ai al) s.heap.size = A at hD ⊢
  have hA : ∀ q : Nat, s.heap.size ≤ q → A q := fun q h => by rw [← hAe]; exact Or.inr h
  have hS : va_S A s.heap s.heap [] := va_S.rf
  clear hAe hD0
  have hl := lv_entry ([.ref o, .int p0]) (n := 5) (Nat.le_of_ble_eq_true rfl)
  rw [lg_entry_eq]
  generalize (lg_sl ([.ref o, .int p0]) ++ List.replicate (5 - (lg_sl ([.ref o, .int p0])).length) Slot.unset).toArray = ls at hl ⊢
  have hl : lv_has ls 5 [(0, .ref o), (1, .int p0)] := hl
  have z_0 : (0 : Int32).toInt = 0 := by decide
  have z_1 : (1 : Int32).toInt = 1 := by decide
  have z_15 : (15 : Int32).toInt = 15 := by decide
  have hin9 : ∀ w ∈ u_ws RX9 TX9 38, w ∈ wsX9_changes := by decide +kernel
  have main : ∀ (H : Heap) (locs : List Loc), va_P (dC, dI) vwCl (rw_W o c kc st lg ai al) H → va_S A s.heap H locs → W p l e (headSpec wsX9_changes ({ frames := 3, cells := 0, slots := 0, locals := 70 })).room s m ([.ref o, .int p0] : List Value).toArray below meth cM H locs 0 0 (MQ below (va_Qv (fun (_ : Unit) => True) (fun _ t => ∃ (g28 : Nat → Int64), (sOK (ai 0) (st 7) g28) ∧ va_P (dC, dI) vwCl (rw_W o c kc st lg ai (rU al 28 g28)) t.heap) A) ([.ref o, .int p0] : List Value).toArray s 0 0 A) (F0 m 0 ls []) := by
    intro H locs hP hS
    refine lv_aload_n hx hb dX9_changes_0 rfl (lv_at hl 0 rfl) ?_
    refine lv_iload_n hx hb dX9_changes_1 rfl (lv_at hl 1 rfl) ?_
    refine vp_callSi (va_Run.run (va_runV (As := [.int p0]) (rest := []) ⟨hx, hb, hml, hown, hts⟩ (v_X9_bOf l dC dI o c kc st lg ai al p0 (show 0 ≤ (st 7).toInt by omega) (show (st 7).toInt ≤ 1 by omega) (by omega) (by omega)) (cwV 1 hts gX9_changes_X9_bOf rfl rfl rfl (by decide +kernel) ⟨Nat.le_of_ble_eq_true rfl, Nat.le_of_ble_eq_true rfl⟩) ⟨fun a U g mk q => by obtain ⟨q0, qP, qK⟩ := q; exact ⟨q0, qP, va_K.moved (u := U) (U := U.calling g mk a) (Vm.Alike.refl U.vm) qK⟩, va_recv hK hP (ci := 11) (q := (RX9, TX9, 38)) rfl (q0 := 0) rfl, fun U hU hW => ⟨rfl, by rw [hU]; exact hP, va_K.moved hW.alike hK⟩⟩ rfl rfl hl.1 rfl (lv_room (Nat.le_of_ble_eq_true rfl)) dX9_changes_2 ⟨Nat.le_of_ble_eq_true rfl, Nat.le_of_ble_eq_true rfl⟩)) (fun r_1 er_1 => ?_)
    have k_2 := er_1
    have k_2 : r_1.toInt = (rB (ai 0) (st 7) p0).toInt := k_2
    refine lv_istore_n (lv' := [(2, .int r_1), (0, .ref o), (1, .int p0)]) hx hb dX9_changes_5 rfl hl (by decide) rfl (fun ls hl => ?_)
    refine lv_iconst (v := 1) hx hb dX9_changes_6 (by decide) ?_
    refine lv_istore_n (lv' := [(3, .int (1 : Int32)), (2, .int r_1), (0, .ref o), (1, .int p0)]) hx hb dX9_changes_7 rfl hl (by decide) rfl (fun ls hl => ?_)
    have loop8 : ∀ (n : Nat) (l3_8 : Int32) (b28_8 : Nat → Int64) (H : Heap) (locs : List Loc) (ls : Array Slot), (1 ≤ l3_8.toInt) → (l3_8.toInt ≤ 128) → (sOK (ai 0) (st 7) b28_8) → (129 - l3_8.toInt : Int).toNat < n → va_P (dC, dI) vwCl (rw_W o c kc st lg ai (rU al 28 b28_8)) H → va_S A s.heap H locs → lv_has ls 5 [(3, .int l3_8), (2, .int r_1), (0, .ref o), (1, .int p0)] → W p l e (headSpec wsX9_changes ({ frames := 3, cells := 0, slots := 0, locals := 70 })).room s m ([.ref o, .int p0] : List Value).toArray below meth cM H locs 0 0 (MQ below (va_Qv (fun (_ : Unit) => True) (fun _ t => ∃ (g28 : Nat → Int64), (sOK (ai 0) (st 7) g28) ∧ va_P (dC, dI) vwCl (rw_W o c kc st lg ai (rU al 28 g28)) t.heap) A) ([.ref o, .int p0] : List Value).toArray s 0 0 A) (F0 m 8 ls []) := by
      intro n
      induction n with
      | zero => intro l3_8 b28_8 H locs ls if0_8 if1_8 hSt hm; exact absurd hm (Nat.not_lt_zero _)
      | succ n ih8 =>
        intro l3_8 b28_8 H locs ls if0_8 if1_8 hSt hm8 hP hS hl
        refine lv_iload_n hx hb dX9_changes_8 rfl (lv_at hl 0 rfl) ?_
        refine lv_iload_n hx hb dX9_changes_9 rfl (lv_at hl 1 rfl) ?_
        refine lv_icmp_gt (tgt := 53) hx hb dX9_changes_10 (by decide) (fun c_3 => ?_) (fun c_3 => ?_)
        · skip
          have ic_3 := iv_lt c_3
          exact W.vret hx hb hr (fun t ht hW => ⟨⟨(), rfl, trivial, b28_8, (by assumption), by rw [ht]; exact hP⟩, hS.F ht⟩) hS.2.2 dX9_changes_53
        · skip
          have ic_3 := iv_nlt c_3
          refine lv_aload_n hx hb dX9_changes_13 rfl (lv_at hl 2 rfl) ?_
          refine lv_iload_n hx hb dX9_changes_14 rfl (lv_at hl 3 rfl) ?_
          refine lv_iload_n hx hb dX9_changes_15 rfl (lv_at hl 0 rfl) ?_
          refine lv_iadd hx hb dX9_changes_16 ?_
          refine lv_topi (fun v_4 ev_4 => ?_)
          have rg1 := iv_rng p0
          have rg2 := iv_rng l3_8
          have hv_4 : v_4.toInt = p0.toInt + l3_8.toInt := by rw [ev_4]; exact (iv_add (by omega) (by omega)).trans (by omega)
          clear ev_4
          refine vp_callSi (va_Run.run (va_runV (As := [.int v_4]) (rest := []) ⟨hx, hb, hml, hown, hts⟩ (v_X9_aOf l dC dI o c kc st lg ai (rU al 28 b28_8) v_4 (show 0 ≤ (st 7).toInt by omega) (show (st 7).toInt ≤ 1 by omega) (by omega) (by omega)) (cwV 1 hts gX9_changes_X9_aOf rfl rfl rfl (by decide +kernel) ⟨Nat.le_of_ble_eq_true rfl, Nat.le_of_ble_eq_true rfl⟩) ⟨fun a U g mk q => by obtain ⟨q0, qP, qK⟩ := q; exact ⟨q0, qP, va_K.moved (u := U) (U := U.calling g mk a) (Vm.Alike.refl U.vm) qK⟩, va_recv hK hP (ci := 11) (q := (RX9, TX9, 38)) rfl (q0 := 0) rfl, fun U hU hW => ⟨rfl, by rw [hU]; exact hP, va_K.moved hW.alike hK⟩⟩ rfl rfl hl.1 rfl (lv_room (Nat.le_of_ble_eq_true rfl)) dX9_changes_17 ⟨Nat.le_of_ble_eq_true rfl, Nat.le_of_ble_eq_true rfl⟩)) (fun r_5 er_5 => ?_)
          have k_6 := er_5
          have k_6 : r_5.toInt = (rA (ai 0) (st 7) v_4).toInt := k_6
          refine lv_istore (lv' := [(4, .int r_5), (3, .int l3_8), (2, .int r_1), (0, .ref o), (1, .int p0)]) hx hb dX9_changes_20 hl (by decide) rfl (fun ls hl => ?_)
          refine lv_iload hx hb dX9_changes_22 (lv_at hl 0 rfl) ?_
          refine lv_iconst (v := 0) hx hb dX9_changes_24 (by decide) ?_
          refine lv_bipush (v := 15) hx hb dX9_changes_25 (by decide) ?_
          refine vp_callSi (va_Run.run (va_runS (As := [.int r_5, .int (0 : Int32), .int (15 : Int32)]) (rest := []) ⟨hx, hb, hml, hown, hts⟩ (v_X9_within l dC dI r_5 (0 : Int32) (15 : Int32) ) (va_cwS 3 hts gX9_changes_X9_within rfl rfl rfl (by decide +kernel) ⟨Nat.le_of_ble_eq_true rfl, Nat.le_of_ble_eq_true rfl⟩) ⟨fun a U g mk q => q, fun U hU hW => ⟨rfl, trivial⟩⟩ rfl rfl hl.1 rfl (lv_room (Nat.le_of_ble_eq_true rfl)) dX9_changes_27 ⟨Nat.le_of_ble_eq_true rfl, Nat.le_of_ble_eq_true rfl⟩)) (fun r_7 er_7 => ?_)
          obtain ⟨k_8, k_9, k_10, k_11, k_12⟩ := er_7
          rcases iv_01 (a := r_7) (by omega) (by omega) with b_13 | b_13
          · skip
            have ib_13 := iv_eq b_13
            rw [b_13]
            refine lv_if_eq (tgt := 47) hx hb dX9_changes_30 (by decide) (fun c_14 => ?_) (fun c_14 => ?_)
            · skip
              have ic_14 := iv_eq c_14
              obtain ⟨x_15, ex_15⟩ : ∃ z : Int32, z = l3_8 + (1) := ⟨_, rfl⟩
              refine lv_iinc (v := x_15) (lv' := [(3, .int x_15), (4, .int r_5), (2, .int r_1), (0, .ref o), (1, .int p0)]) hx hb dX9_changes_47 hl (k := 1) rfl (by rw [ex_15]; rfl) (by decide) rfl (fun ls hl => ?_)
              have hx_15 : x_15.toInt = l3_8.toInt + (1) := by rw [ex_15]; exact (iv_add (by omega) (by omega)).trans (by omega)
              clear ex_15
              refine lv_goto (tgt := 8) hx hb dX9_changes_50 (by decide) ?_
              exact ih8 x_15 b28_8 _ _ _ (by omega) (by omega) (by assumption) (by omega) hP hS (lv_sub hl [0, 2, 3, 4] rfl)
            · skip
              have ic_14 := iv_ne c_14
              exfalso
              omega
          · skip
            have ib_13 := iv_eq b_13
            rw [b_13]
            refine lv_if_eq (tgt := 47) hx hb dX9_changes_30 (by decide) (fun c_16 => ?_) (fun c_16 => ?_)
            · skip
              have ic_16 := iv_eq c_16
              exfalso
              omega
            · skip
              have ic_16 := iv_ne c_16
              refine lv_aload_n hx hb dX9_changes_33 rfl (lv_at hl 3 rfl) ?_
              refine va_get (D := (dC, dI)) (ci := 11) (v := .ref (c 28)) (C := RX9) (T := TX9) (N := 38) hx hb hts hin9 hown hK hP 0 rfl rfl 28 (by decide) (hts (.fieldLink RX9 40 "BlockLogModel" "state" "[J") (by decide +kernel)) (fun _ h9 => h9) rfl dX9_changes_34 ?_
              refine lv_iload hx hb dX9_changes_37 (lv_at hl 0 rfl) ?_
              refine lv_aload_n hx hb dX9_changes_39 rfl (lv_at hl 3 rfl) ?_
              refine lv_iload_n hx hb dX9_changes_40 rfl (lv_at hl 4 rfl) ?_
              refine lv_iload_n hx hb dX9_changes_41 rfl (lv_at hl 1 rfl) ?_
              refine lv_iadd hx hb dX9_changes_42 ?_
              refine lv_topi (fun v_17 ev_17 => ?_)
              have hv_17 : v_17.toInt = p0.toInt + l3_8.toInt := by rw [ev_17]; exact (iv_add (by omega) (by omega)).trans (by omega)
              clear ev_17
              have hkv : v_17.toInt = p0.toInt + l3_8.toInt := by omega
              refine vp_callSl (va_Run.run (va_runV (As := [.int v_17]) (rest := [.int r_5, .ref (c 28)]) ⟨hx, hb, hml, hown, hts⟩ (v_X9_cOf l dC dI o c kc st lg ai (rU al 28 b28_8) v_17 (show 0 ≤ (st 7).toInt by omega) (show (st 7).toInt ≤ 1 by omega) (by omega) (by omega)) (cwV 1 hts gX9_changes_X9_cOf rfl rfl rfl (by decide +kernel) ⟨Nat.le_of_ble_eq_true rfl, Nat.le_of_ble_eq_true rfl⟩) ⟨fun a U g mk q => by obtain ⟨q0, qP, qK⟩ := q; exact ⟨q0, qP, va_K.moved (u := U) (U := U.calling g mk a) (Vm.Alike.refl U.vm) qK⟩, va_recv hK hP (ci := 11) (q := (RX9, TX9, 38)) rfl (q0 := 0) rfl, fun U hU hW => ⟨rfl, by rw [hU]; exact hP, va_K.moved hW.alike hK⟩⟩ rfl rfl hl.1 rfl (lv_room (Nat.le_of_ble_eq_true rfl)) dX9_changes_43 ⟨Nat.le_of_ble_eq_true rfl, Nat.le_of_ble_eq_true rfl⟩)) (fun r_18 er_18 => ?_)
              have hc := er_18
              have hc : r_18 = rC (ai 0) (st 7) v_17 := hc
              refine va_last (f := b28_8) hx hb hK hP (rw_D hD) hS 10 9 rfl rfl (iv_in (i := r_5) (by omega) (by omega)) dX9_changes_46 (fun H locs hP _ hS => ?_)
              have hP : va_P (dC, dI) vwCl (rw_W o c kc st lg ai (rU al 28 (vp_updL b28_8 r_5.toNatClampNeg r_18))) H := hP
              generalize hU_state : vp_updL b28_8 r_5.toNatClampNeg r_18 = g_19 at hP
              have hSt : sOK (ai 0) (st 7) g_19 := sOK_upd hSt hU_state (inC_of hc (by omega) (by omega))
              obtain ⟨x_20, ex_20⟩ : ∃ z : Int32, z = l3_8 + (1) := ⟨_, rfl⟩
              refine lv_iinc (v := x_20) (lv' := [(3, .int x_20), (4, .int r_5), (2, .int r_1), (0, .ref o), (1, .int p0)]) hx hb dX9_changes_47 hl (k := 1) rfl (by rw [ex_20]; rfl) (by decide) rfl (fun ls hl => ?_)
              have hx_20 : x_20.toInt = l3_8.toInt + (1) := by rw [ex_20]; exact (iv_add (by omega) (by omega)).trans (by omega)
              clear ex_20
              refine lv_goto (tgt := 8) hx hb dX9_changes_50 (by decide) ?_
              exact ih8 x_20 g_19 _ _ _ (by omega) (by omega) (by assumption) (by omega) hP hS (lv_sub hl [0, 2, 3, 4] rfl)
    exact loop8 ((129 - 1 : Int).toNat + 1) (1 : Int32) (al 28) _ _ _ (by omega) (by omega) (by assumption) (by omega) hP hS (lv_sub hl [0, 1, 2, 3] rfl)
  exact main s.heap [] hP hS

set_option maxHeartbeats 4000000 in
set_option maxRecDepth 100000 in
theorem v_X9_versionState (l : Launch) (dC : Nat → ClassId) (dI : Nat → Nat → Nat) (o : Nat) (c : Nat → Nat) (kc : Nat → ClassId) (st : Nat → Int32) (lg : Nat → Int64) (ai : Nat → Nat → Int32) (al : Nat → Nat → Int64) (p0 : Int32) (sz : Nat) (hf7a : 0 ≤ (st 7).toInt) (hf7b : (st 7).toInt ≤ 1) (hf16a : 0 ≤ (st 16).toInt) (hf16b : (st 16).toInt ≤ 128) (hf22a : 0 ≤ (st 22).toInt) (hf22b : (st 22).toInt ≤ 1000000) (hf24a : 0 ≤ (st 24).toInt) (hf24b : (st 24).toInt ≤ 1) (hf26a : 0 ≤ (st 26).toInt) (hf26b : (st 26).toInt ≤ 2000000) (hq0 : (st 22).toInt ≤ p0.toInt) (hq1 : p0.toInt - (st 22).toInt ≤ 128) (hq2 : p0.toInt ≤ (st 26).toInt) (hR25 : aR (ai 25) 130 (0) 127) (hV : vOK (ai 0) (st 7) (st 16) (ai 25) ((st 26).toInt - (st 22).toInt)) (hBs : bOK (ai 0) (st 7) (st 16) (st 24)) : Met l yX9_versionState wsX9_versionState ({ frames := 4, cells := 0, slots := 0, locals := 94 }) (va_Pc [.ref o, .int p0] (fun U => U.heap.size = sz ∧ va_P (dC, dI) vwCl (rw_W o c kc st lg ai al) U.heap ∧ va_K (dC, dI) vwCl (rw_T kc) U ∧ va_D (fun _ => True) (rw_W o c kc st lg ai al))) (va_Qv (fun (_ : Unit) => True) (fun _ t => ∃ (g28 : Nat → Int64), (sOK (ai 0) (st 7) g28) ∧ va_P (dC, dI) vwCl (rw_W o c kc st lg ai (rU al 28 g28)) t.heap) (va_A (rw_W o c kc st lg ai al) sz)) 0 0 (va_A (rw_W o c kc st lg ai al) sz) := by
  refine Met.ofW (cc := cX9_versionState) (maxL := 3) (ret := none) (by decide) rfl ?_
  intro p e s m args below meth cM s₁ B hml hv
  obtain ⟨rfl, hsz, hP, hK, hD0⟩ := hv
  have hx := B.exec
  have hb := B.bytes
  have hr := B.returns
  have hts := atoms_spec (ws := wsX9_versionState) B.pre
  have hown : s.vm.findClass RX9 = some m.cls := findClass_of_methodNamed B.named
  subst hsz
  have hD := hD0.self (sz := s.heap.size)
  generalize hAe : va_A (rw_W o c kc st lg ai al) s.heap.size = A at hD ⊢
  have hA : ∀ q : Nat, s.heap.size ≤ q → A q := fun q h => by rw [← hAe]; exact Or.inr h
  have hS : va_S A s.heap s.heap [] := va_S.rf
  clear hAe hD0
  have hl := lv_entry ([.ref o, .int p0]) (n := 3) (Nat.le_of_ble_eq_true rfl)
  rw [lg_entry_eq]
  generalize (lg_sl ([.ref o, .int p0]) ++ List.replicate (3 - (lg_sl ([.ref o, .int p0])).length) Slot.unset).toArray = ls at hl ⊢
  have hl : lv_has ls 3 [(0, .ref o), (1, .int p0)] := hl
  have z_0 : (0 : Int32).toInt = 0 := by decide
  have z_1 : (1 : Int32).toInt = 1 := by decide
  have z_16 : (16 : Int32).toInt = 16 := by decide
  have hin9 : ∀ w ∈ u_ws RX9 TX9 38, w ∈ wsX9_versionState := by decide +kernel
  have main : ∀ (H : Heap) (locs : List Loc), va_P (dC, dI) vwCl (rw_W o c kc st lg ai al) H → va_S A s.heap H locs → W p l e (headSpec wsX9_versionState ({ frames := 4, cells := 0, slots := 0, locals := 94 })).room s m ([.ref o, .int p0] : List Value).toArray below meth cM H locs 0 0 (MQ below (va_Qv (fun (_ : Unit) => True) (fun _ t => ∃ (g28 : Nat → Int64), (sOK (ai 0) (st 7) g28) ∧ va_P (dC, dI) vwCl (rw_W o c kc st lg ai (rU al 28 g28)) t.heap) A) ([.ref o, .int p0] : List Value).toArray s 0 0 A) (F0 m 0 ls []) := by
    intro H locs hP hS
    refine lv_iconst (v := 0) hx hb dX9_versionState_0 (by decide) ?_
    refine lv_istore_n (lv' := [(2, .int (0 : Int32)), (0, .ref o), (1, .int p0)]) hx hb dX9_versionState_1 rfl hl (by decide) rfl (fun ls hl => ?_)
    have loop2 : ∀ (n : Nat) (l2_2 : Int32) (b28_2 : Nat → Int64) (H : Heap) (locs : List Loc) (ls : Array Slot), (0 ≤ l2_2.toInt) → (l2_2.toInt ≤ 16) → (zL b28_2 l2_2) → (16 - l2_2.toInt : Int).toNat < n → va_P (dC, dI) vwCl (rw_W o c kc st lg ai (rU al 28 b28_2)) H → va_S A s.heap H locs → lv_has ls 3 [(2, .int l2_2), (0, .ref o), (1, .int p0)] → W p l e (headSpec wsX9_versionState ({ frames := 4, cells := 0, slots := 0, locals := 94 })).room s m ([.ref o, .int p0] : List Value).toArray below meth cM H locs 0 0 (MQ below (va_Qv (fun (_ : Unit) => True) (fun _ t => ∃ (g28 : Nat → Int64), (sOK (ai 0) (st 7) g28) ∧ va_P (dC, dI) vwCl (rw_W o c kc st lg ai (rU al 28 g28)) t.heap) A) ([.ref o, .int p0] : List Value).toArray s 0 0 A) (F0 m 2 ls []) := by
      intro n
      induction n with
      | zero => intro l2_2 b28_2 H locs ls if0_2 if1_2 hz hm; exact absurd hm (Nat.not_lt_zero _)
      | succ n ih2 =>
        intro l2_2 b28_2 H locs ls if0_2 if1_2 hz hm2 hP hS hl
        refine lv_iload_n hx hb dX9_versionState_2 rfl (lv_at hl 0 rfl) ?_
        refine lv_bipush (v := 16) hx hb dX9_versionState_3 (by decide) ?_
        refine lv_icmp_ge (tgt := 21) hx hb dX9_versionState_5 (by decide) (fun c_1 => ?_) (fun c_1 => ?_)
        · skip
          have ic_1 := iv_le c_1
          have hSt : sOK (ai 0) (st 7) b28_2 := sOK_z hz (by omega)
          refine lv_aload_n hx hb dX9_versionState_21 rfl (lv_at hl 1 rfl) ?_
          refine va_get (D := (dC, dI)) (ci := 11) (v := .int (st 24)) (C := RX9) (T := TX9) (N := 38) hx hb hts hin9 hown hK hP 0 rfl rfl 24 (by decide) (hts (.fieldLink RX9 189 "BlockLogModel" "hasBase" "Z") (by decide +kernel)) (fun _ h9 => h9) rfl dX9_versionState_22 ?_
          refine lv_if_eq (tgt := 33) hx hb dX9_versionState_25 (by decide) (fun c_2 => ?_) (fun c_2 => ?_)
          · skip
            have ic_2 := iv_eq c_2
            refine lv_iconst (v := 1) hx hb dX9_versionState_33 (by decide) ?_
            refine lv_istore_n (lv' := [(2, .int (1 : Int32)), (0, .ref o), (1, .int p0)]) hx hb dX9_versionState_34 rfl hl (by decide) rfl (fun ls hl => ?_)
            have loop35 : ∀ (n : Nat) (l2_35 : Int32) (b28_35 : Nat → Int64) (H : Heap) (locs : List Loc) (ls : Array Slot), (1 ≤ l2_35.toInt) → (l2_35.toInt ≤ 129) → (sOK (ai 0) (st 7) b28_35) → (130 - l2_35.toInt : Int).toNat < n → va_P (dC, dI) vwCl (rw_W o c kc st lg ai (rU al 28 b28_35)) H → va_S A s.heap H locs → lv_has ls 3 [(2, .int l2_35), (0, .ref o), (1, .int p0)] → W p l e (headSpec wsX9_versionState ({ frames := 4, cells := 0, slots := 0, locals := 94 })).room s m ([.ref o, .int p0] : List Value).toArray below meth cM H locs 0 0 (MQ below (va_Qv (fun (_ : Unit) => True) (fun _ t => ∃ (g28 : Nat → Int64), (sOK (ai 0) (st 7) g28) ∧ va_P (dC, dI) vwCl (rw_W o c kc st lg ai (rU al 28 g28)) t.heap) A) ([.ref o, .int p0] : List Value).toArray s 0 0 A) (F0 m 35 ls []) := by
              intro n
              induction n with
              | zero => intro l2_35 b28_35 H locs ls if0_35 if1_35 hSt hm; exact absurd hm (Nat.not_lt_zero _)
              | succ n ih35 =>
                intro l2_35 b28_35 H locs ls if0_35 if1_35 hSt hm35 hP hS hl
                refine lv_iload_n hx hb dX9_versionState_35 rfl (lv_at hl 0 rfl) ?_
                refine lv_iload_n hx hb dX9_versionState_36 rfl (lv_at hl 2 rfl) ?_
                refine lv_aload_n hx hb dX9_versionState_37 rfl (lv_at hl 1 rfl) ?_
                refine va_get (D := (dC, dI)) (ci := 11) (v := .int (st 22)) (C := RX9) (T := TX9) (N := 38) hx hb hts hin9 hown hK hP 0 rfl rfl 22 (by decide) (hts (.fieldLink RX9 182 "BlockLogModel" "baseHeight" "I") (by decide +kernel)) (fun _ h9 => h9) rfl dX9_versionState_38 ?_
                refine lv_isub hx hb dX9_versionState_41 ?_
                refine lv_topi (fun v_3 ev_3 => ?_)
                have rg1 := iv_rng p0
                have rg2 := iv_rng (st 22)
                have hv_3 : v_3.toInt = p0.toInt - (st 22).toInt := by rw [ev_3]; exact (iv_sub (by omega) (by omega)).trans (by omega)
                clear ev_3
                refine lv_icmp_gt (tgt := 61) hx hb dX9_versionState_42 (by decide) (fun c_4 => ?_) (fun c_4 => ?_)
                · skip
                  have ic_4 := iv_lt c_4
                  exact W.vret hx hb hr (fun t ht hW => ⟨⟨(), rfl, trivial, b28_35, (by assumption), by rw [ht]; exact hP⟩, hS.F ht⟩) hS.2.2 dX9_versionState_61
                · skip
                  have ic_4 := iv_nlt c_4
                  refine lv_aload_n hx hb dX9_versionState_45 rfl (lv_at hl 1 rfl) ?_
                  refine lv_aload_n hx hb dX9_versionState_46 rfl (lv_at hl 1 rfl) ?_
                  refine va_get (D := (dC, dI)) (ci := 11) (v := .ref (c 25)) (C := RX9) (T := TX9) (N := 38) hx hb hts hin9 hown hK hP 0 rfl rfl 25 (by decide) (hts (.fieldLink RX9 37 "BlockLogModel" "versionRow" "[I") (by decide +kernel)) (fun _ h9 => h9) rfl dX9_versionState_47 ?_
                  refine lv_iload_n hx hb dX9_versionState_50 rfl (lv_at hl 0 rfl) ?_
                  refine va_iald (f := ai 25) hx hb hK hP 9 8 rfl rfl (iv_in (i := l2_35) (by omega) (by omega)) dX9_versionState_51 ?_
                  refine lv_topi (fun v_5 ev_5 => ?_)
                  have k_6 : 0 ≤ v_5.toInt ∧ v_5.toInt ≤ 127 := aR_get hR25 (by omega) (by omega) ev_5
                  have hX_versionRow := ev_5
                  clear ev_5
                  have hok : okB (ai 0) (st 7) (st 16) v_5 := vOK_use hV hX_versionRow (by omega) (by omega)
                  have k_7 : 0 ≤ v_5.toInt := hok.1
                  have k_8 : 0 ≤ (rB (ai 0) (st 7) v_5).toInt := hok.2.1
                  have k_9 : (rB (ai 0) (st 7) v_5).toInt ≤ 16 := hok.2.2.1
                  have k_10 : v_5.toInt + (rB (ai 0) (st 7) v_5).toInt < (st 16).toInt := hok.2.2.2.1
                  have hFc := vfree (rw_D hD : va_D A (rw_W o c kc st lg ai (rU al 28 b28_35))) hS hA
                  refine va_callv (va_runV (As := [.int v_5]) (rest := []) ⟨hx, hb, hml, hown, hts⟩ (v_X9_changes l dC dI o c kc st lg ai (rU al 28 b28_35) v_5 _ (show 0 ≤ (st 7).toInt by omega) (show (st 7).toInt ≤ 1 by omega) (show 0 ≤ (st 16).toInt by omega) (show (st 16).toInt ≤ 128 by omega) (by omega) (show 0 ≤ (rB (ai 0) (st 7) v_5).toInt by omega) (show v_5.toInt + (rB (ai 0) (st 7) v_5).toInt < (st 16).toInt by omega) (show sOK (ai 0) (st 7) b28_35 from (by assumption))) (cwV 1 hts gX9_versionState_X9_changes rfl rfl rfl (by decide +kernel) ⟨Nat.le_of_ble_eq_true rfl, Nat.le_of_ble_eq_true rfl⟩) ⟨fun a U g mk q => by obtain ⟨q0, q1, qP, qK, qD⟩ := q; exact ⟨q0, q1, qP, va_K.moved (u := U) (U := U.calling g mk a) (Vm.Alike.refl U.vm) qK, qD⟩, va_recv hK hP (ci := 11) (q := (RX9, TX9, 38)) rfl (q0 := 0) rfl, fun U hU hW => ⟨rfl, by rw [hU], by rw [hU]; exact hP, va_K.moved hW.alike hK, rw_D (hD.weaken (fun _ _ _ _ => trivial))⟩⟩ rfl rfl hl.1 rfl (lv_room (Nat.le_of_ble_eq_true rfl)) dX9_versionState_52 ⟨Nat.le_of_ble_eq_true rfl, Nat.le_of_ble_eq_true rfl⟩) hS (fun q _ h => hFc q h) hFc (fun ur_11 t H1 locs ht hvm er_11 hB hz1 hk1 hS => ?_)
                  obtain ⟨g28_11, hSt, hP1⟩ := hB
                  rw [ht] at hP1
                  clear hFc hz1 hk1 hvm hP
                  subst ht
                  have hP := hP1
                  clear hP1
                  generalize t.heap = H at hP hS ⊢
                  have hP : va_P (dC, dI) vwCl (rw_W o c kc st lg ai (rU al 28 g28_11)) H := hP
                  have hSt : sOK (ai 0) (st 7) g28_11 := hSt
                  obtain ⟨x_12, ex_12⟩ : ∃ z : Int32, z = l2_35 + (1) := ⟨_, rfl⟩
                  refine lv_iinc (v := x_12) (lv' := [(2, .int x_12), (0, .ref o), (1, .int p0)]) hx hb dX9_versionState_55 hl (k := 0) rfl (by rw [ex_12]; rfl) (by decide) rfl (fun ls hl => ?_)
                  have rg3 := iv_rng l2_35
                  have hx_12 : x_12.toInt = l2_35.toInt + (1) := by rw [ex_12]; exact (iv_add (by omega) (by omega)).trans (by omega)
                  clear ex_12
                  refine lv_goto (tgt := 35) hx hb dX9_versionState_58 (by decide) ?_
                  exact ih35 x_12 g28_11 _ _ _ (by omega) (by omega) (by assumption) (by omega) hP hS (lv_sub hl [0, 1, 2] rfl)
            exact loop35 ((130 - 1 : Int).toNat + 1) (1 : Int32) b28_2 _ _ _ (by omega) (by omega) (by assumption) (by omega) hP hS (lv_sub hl [0, 1, 2] rfl)
          · skip
            have ic_2 := iv_ne c_2
            have hok : okB (ai 0) (st 7) (st 16) 0 := hBs (by omega)
            have k_13 : 0 ≤ (rB (ai 0) (st 7) (0 : Int32)).toInt := hok.2.1
            have k_14 : (rB (ai 0) (st 7) (0 : Int32)).toInt ≤ 16 := hok.2.2.1
            have k_15 : (rB (ai 0) (st 7) (0 : Int32)).toInt < (st 16).toInt := (by have q := hok.2.2.2.1; have z : (0 : Int32).toInt = 0 := (by decide); omega)
            refine lv_aload_n hx hb dX9_versionState_28 rfl (lv_at hl 1 rfl) ?_
            refine lv_iconst (v := 0) hx hb dX9_versionState_29 (by decide) ?_
            have hFc := vfree (rw_D hD : va_D A (rw_W o c kc st lg ai (rU al 28 b28_2))) hS hA
            refine va_callv (va_runV (As := [.int (0 : Int32)]) (rest := []) ⟨hx, hb, hml, hown, hts⟩ (v_X9_changes l dC dI o c kc st lg ai (rU al 28 b28_2) (0 : Int32) _ (show 0 ≤ (st 7).toInt by omega) (show (st 7).toInt ≤ 1 by omega) (show 0 ≤ (st 16).toInt by omega) (show (st 16).toInt ≤ 128 by omega) (by omega) (show 0 ≤ (rB (ai 0) (st 7) (0 : Int32)).toInt by omega) (show 0 + (rB (ai 0) (st 7) (0 : Int32)).toInt < (st 16).toInt by omega) (show sOK (ai 0) (st 7) b28_2 from (by assumption))) (cwV 1 hts gX9_versionState_X9_changes rfl rfl rfl (by decide +kernel) ⟨Nat.le_of_ble_eq_true rfl, Nat.le_of_ble_eq_true rfl⟩) ⟨fun a U g mk q => by obtain ⟨q0, q1, qP, qK, qD⟩ := q; exact ⟨q0, q1, qP, va_K.moved (u := U) (U := U.calling g mk a) (Vm.Alike.refl U.vm) qK, qD⟩, va_recv hK hP (ci := 11) (q := (RX9, TX9, 38)) rfl (q0 := 0) rfl, fun U hU hW => ⟨rfl, by rw [hU], by rw [hU]; exact hP, va_K.moved hW.alike hK, rw_D (hD.weaken (fun _ _ _ _ => trivial))⟩⟩ rfl rfl hl.1 rfl (lv_room (Nat.le_of_ble_eq_true rfl)) dX9_versionState_30 ⟨Nat.le_of_ble_eq_true rfl, Nat.le_of_ble_eq_true rfl⟩) hS (fun q _ h => hFc q h) hFc (fun ur_16 t H1 locs ht hvm er_16 hB hz1 hk1 hS => ?_)
            obtain ⟨g28_16, hSt, hP1⟩ := hB
            rw [ht] at hP1
            clear hFc hz1 hk1 hvm hP
            subst ht
            have hP := hP1
            clear hP1
            generalize t.heap = H at hP hS ⊢
            have hP : va_P (dC, dI) vwCl (rw_W o c kc st lg ai (rU al 28 g28_16)) H := hP
            have hSt : sOK (ai 0) (st 7) g28_16 := hSt
            refine lv_iconst (v := 1) hx hb dX9_versionState_33 (by decide) ?_
            refine lv_istore_n (lv' := [(2, .int (1 : Int32)), (0, .ref o), (1, .int p0)]) hx hb dX9_versionState_34 rfl hl (by decide) rfl (fun ls hl => ?_)
            have loop35 : ∀ (n : Nat) (l2_35 : Int32) (b28_35 : Nat → Int64) (H : Heap) (locs : List Loc) (ls : Array Slot), (1 ≤ l2_35.toInt) → (l2_35.toInt ≤ 129) → (sOK (ai 0) (st 7) b28_35) → (130 - l2_35.toInt : Int).toNat < n → va_P (dC, dI) vwCl (rw_W o c kc st lg ai (rU al 28 b28_35)) H → va_S A s.heap H locs → lv_has ls 3 [(2, .int l2_35), (0, .ref o), (1, .int p0)] → W p l e (headSpec wsX9_versionState ({ frames := 4, cells := 0, slots := 0, locals := 94 })).room s m ([.ref o, .int p0] : List Value).toArray below meth cM H locs 0 0 (MQ below (va_Qv (fun (_ : Unit) => True) (fun _ t => ∃ (g28 : Nat → Int64), (sOK (ai 0) (st 7) g28) ∧ va_P (dC, dI) vwCl (rw_W o c kc st lg ai (rU al 28 g28)) t.heap) A) ([.ref o, .int p0] : List Value).toArray s 0 0 A) (F0 m 35 ls []) := by
              intro n
              induction n with
              | zero => intro l2_35 b28_35 H locs ls if0_35 if1_35 hSt hm; exact absurd hm (Nat.not_lt_zero _)
              | succ n ih35 =>
                intro l2_35 b28_35 H locs ls if0_35 if1_35 hSt hm35 hP hS hl
                refine lv_iload_n hx hb dX9_versionState_35 rfl (lv_at hl 0 rfl) ?_
                refine lv_iload_n hx hb dX9_versionState_36 rfl (lv_at hl 2 rfl) ?_
                refine lv_aload_n hx hb dX9_versionState_37 rfl (lv_at hl 1 rfl) ?_
                refine va_get (D := (dC, dI)) (ci := 11) (v := .int (st 22)) (C := RX9) (T := TX9) (N := 38) hx hb hts hin9 hown hK hP 0 rfl rfl 22 (by decide) (hts (.fieldLink RX9 182 "BlockLogModel" "baseHeight" "I") (by decide +kernel)) (fun _ h9 => h9) rfl dX9_versionState_38 ?_
                refine lv_isub hx hb dX9_versionState_41 ?_
                refine lv_topi (fun v_17 ev_17 => ?_)
                have rg4 := iv_rng p0
                have rg5 := iv_rng (st 22)
                have hv_17 : v_17.toInt = p0.toInt - (st 22).toInt := by rw [ev_17]; exact (iv_sub (by omega) (by omega)).trans (by omega)
                clear ev_17
                refine lv_icmp_gt (tgt := 61) hx hb dX9_versionState_42 (by decide) (fun c_18 => ?_) (fun c_18 => ?_)
                · skip
                  have ic_18 := iv_lt c_18
                  exact W.vret hx hb hr (fun t ht hW => ⟨⟨(), rfl, trivial, b28_35, (by assumption), by rw [ht]; exact hP⟩, hS.F ht⟩) hS.2.2 dX9_versionState_61
                · skip
                  have ic_18 := iv_nlt c_18
                  refine lv_aload_n hx hb dX9_versionState_45 rfl (lv_at hl 1 rfl) ?_
                  refine lv_aload_n hx hb dX9_versionState_46 rfl (lv_at hl 1 rfl) ?_
                  refine va_get (D := (dC, dI)) (ci := 11) (v := .ref (c 25)) (C := RX9) (T := TX9) (N := 38) hx hb hts hin9 hown hK hP 0 rfl rfl 25 (by decide) (hts (.fieldLink RX9 37 "BlockLogModel" "versionRow" "[I") (by decide +kernel)) (fun _ h9 => h9) rfl dX9_versionState_47 ?_
                  refine lv_iload_n hx hb dX9_versionState_50 rfl (lv_at hl 0 rfl) ?_
                  refine va_iald (f := ai 25) hx hb hK hP 9 8 rfl rfl (iv_in (i := l2_35) (by omega) (by omega)) dX9_versionState_51 ?_
                  refine lv_topi (fun v_19 ev_19 => ?_)
                  have k_20 : 0 ≤ v_19.toInt ∧ v_19.toInt ≤ 127 := aR_get hR25 (by omega) (by omega) ev_19
                  have hX_versionRow := ev_19
                  clear ev_19
                  have hok : okB (ai 0) (st 7) (st 16) v_19 := vOK_use hV hX_versionRow (by omega) (by omega)
                  have k_21 : 0 ≤ v_19.toInt := hok.1
                  have k_22 : 0 ≤ (rB (ai 0) (st 7) v_19).toInt := hok.2.1
                  have k_23 : (rB (ai 0) (st 7) v_19).toInt ≤ 16 := hok.2.2.1
                  have k_24 : v_19.toInt + (rB (ai 0) (st 7) v_19).toInt < (st 16).toInt := hok.2.2.2.1
                  have hFc := vfree (rw_D hD : va_D A (rw_W o c kc st lg ai (rU al 28 b28_35))) hS hA
                  refine va_callv (va_runV (As := [.int v_19]) (rest := []) ⟨hx, hb, hml, hown, hts⟩ (v_X9_changes l dC dI o c kc st lg ai (rU al 28 b28_35) v_19 _ (show 0 ≤ (st 7).toInt by omega) (show (st 7).toInt ≤ 1 by omega) (show 0 ≤ (st 16).toInt by omega) (show (st 16).toInt ≤ 128 by omega) (by omega) (show 0 ≤ (rB (ai 0) (st 7) v_19).toInt by omega) (show v_19.toInt + (rB (ai 0) (st 7) v_19).toInt < (st 16).toInt by omega) (show sOK (ai 0) (st 7) b28_35 from (by assumption))) (cwV 1 hts gX9_versionState_X9_changes rfl rfl rfl (by decide +kernel) ⟨Nat.le_of_ble_eq_true rfl, Nat.le_of_ble_eq_true rfl⟩) ⟨fun a U g mk q => by obtain ⟨q0, q1, qP, qK, qD⟩ := q; exact ⟨q0, q1, qP, va_K.moved (u := U) (U := U.calling g mk a) (Vm.Alike.refl U.vm) qK, qD⟩, va_recv hK hP (ci := 11) (q := (RX9, TX9, 38)) rfl (q0 := 0) rfl, fun U hU hW => ⟨rfl, by rw [hU], by rw [hU]; exact hP, va_K.moved hW.alike hK, rw_D (hD.weaken (fun _ _ _ _ => trivial))⟩⟩ rfl rfl hl.1 rfl (lv_room (Nat.le_of_ble_eq_true rfl)) dX9_versionState_52 ⟨Nat.le_of_ble_eq_true rfl, Nat.le_of_ble_eq_true rfl⟩) hS (fun q _ h => hFc q h) hFc (fun ur_25 t H1 locs ht hvm er_25 hB hz1 hk1 hS => ?_)
                  obtain ⟨g28_25, hSt, hP1⟩ := hB
                  rw [ht] at hP1
                  clear hFc hz1 hk1 hvm hP
                  subst ht
                  have hP := hP1
                  clear hP1
                  generalize t.heap = H at hP hS ⊢
                  have hP : va_P (dC, dI) vwCl (rw_W o c kc st lg ai (rU al 28 g28_25)) H := hP
                  have hSt : sOK (ai 0) (st 7) g28_25 := hSt
                  obtain ⟨x_26, ex_26⟩ : ∃ z : Int32, z = l2_35 + (1) := ⟨_, rfl⟩
                  refine lv_iinc (v := x_26) (lv' := [(2, .int x_26), (0, .ref o), (1, .int p0)]) hx hb dX9_versionState_55 hl (k := 0) rfl (by rw [ex_26]; rfl) (by decide) rfl (fun ls hl => ?_)
                  have rg6 := iv_rng l2_35
                  have hx_26 : x_26.toInt = l2_35.toInt + (1) := by rw [ex_26]; exact (iv_add (by omega) (by omega)).trans (by omega)
                  clear ex_26
                  refine lv_goto (tgt := 35) hx hb dX9_versionState_58 (by decide) ?_
                  exact ih35 x_26 g28_25 _ _ _ (by omega) (by omega) (by assumption) (by omega) hP hS (lv_sub hl [0, 1, 2] rfl)
            exact loop35 ((130 - 1 : Int).toNat + 1) (1 : Int32) g28_16 _ _ _ (by omega) (by omega) (by assumption) (by omega) hP hS (lv_sub hl [0, 1, 2] rfl)
        · skip
          have ic_1 := iv_nle c_1
          refine lv_aload_n hx hb dX9_versionState_8 rfl (lv_at hl 1 rfl) ?_
          refine va_get (D := (dC, dI)) (ci := 11) (v := .ref (c 28)) (C := RX9) (T := TX9) (N := 38) hx hb hts hin9 hown hK hP 0 rfl rfl 28 (by decide) (hts (.fieldLink RX9 40 "BlockLogModel" "state" "[J") (by decide +kernel)) (fun _ h9 => h9) rfl dX9_versionState_9 ?_
          refine lv_iload_n hx hb dX9_versionState_12 rfl (lv_at hl 0 rfl) ?_
          refine lv_lconst (v := 0) hx hb dX9_versionState_13 (by decide) ?_
          refine va_last (f := b28_2) hx hb hK hP (rw_D hD) hS 10 9 rfl rfl (iv_in (i := l2_2) (by omega) (by omega)) dX9_versionState_14 (fun H locs hP _ hS => ?_)
          have hP : va_P (dC, dI) vwCl (rw_W o c kc st lg ai (rU al 28 (vp_updL b28_2 l2_2.toNatClampNeg (0 : Int64)))) H := hP
          generalize hU_state : vp_updL b28_2 l2_2.toNatClampNeg (0 : Int64) = g_27 at hP
          obtain ⟨x_28, ex_28⟩ : ∃ z : Int32, z = l2_2 + (1) := ⟨_, rfl⟩
          refine lv_iinc (v := x_28) (lv' := [(2, .int x_28), (0, .ref o), (1, .int p0)]) hx hb dX9_versionState_15 hl (k := 0) rfl (by rw [ex_28]; rfl) (by decide) rfl (fun ls hl => ?_)
          have rg7 := iv_rng l2_2
          have hx_28 : x_28.toInt = l2_2.toInt + (1) := by rw [ex_28]; exact (iv_add (by omega) (by omega)).trans (by omega)
          clear ex_28
          refine lv_goto (tgt := 2) hx hb dX9_versionState_18 (by decide) ?_
          exact ih2 x_28 g_27 _ _ _ (by omega) (by omega) (zL_s hz hU_state rfl (by omega) (by omega)) (by omega) hP hS (lv_sub hl [0, 1, 2] rfl)
    exact loop2 ((16 - 0 : Int).toNat + 1) (0 : Int32) (al 28) _ _ _ (by omega) (by omega) (zL_0 (by omega)) (by omega) hP hS (lv_sub hl [0, 1, 2] rfl)
  exact main s.heap [] hP hS

set_option maxHeartbeats 4000000 in
set_option maxRecDepth 100000 in
theorem v_X9_isKept (l : Launch) (dC : Nat → ClassId) (dI : Nat → Nat → Nat) (o : Nat) (c : Nat → Nat) (kc : Nat → ClassId) (st : Nat → Int32) (lg : Nat → Int64) (ai : Nat → Nat → Int32) (al : Nat → Nat → Int64) (p0 : Int32) (hf17a : 0 ≤ (st 17).toInt) (hf17b : (st 17).toInt ≤ 1) (hf22a : 0 ≤ (st 22).toInt) (hf22b : (st 22).toInt ≤ 1000000) (hf26a : 0 ≤ (st 26).toInt) (hf26b : (st 26).toInt ≤ 2000000) : Met l yX9_isKept wsX9_isKept ({ frames := 0, cells := 0, slots := 0, locals := 0 }) (va_Pc [.ref o, .int p0] (fun U => va_P (dC, dI) vwCl (rw_W o c kc st lg ai al) U.heap ∧ va_K (dC, dI) vwCl (rw_T kc) U)) (vp_Si (fun r => (r.toInt = 1 → ((st 22).toInt ≤ p0.toInt ∧ p0.toInt ≤ (st 26).toInt)) ∧ (0 ≤ r.toInt) ∧ (r.toInt ≤ 1))) 0 0 (fun _ => False) := by
  refine Met.ofW (cc := cX9_isKept) (maxL := 2) (ret := (some .boolean)) (by decide) rfl ?_
  intro p e s m args below meth cM s₁ B hml hv
  obtain ⟨rfl, hP, hK⟩ := hv
  have hx := B.exec
  have hb := B.bytes
  have hr := B.returns
  have hts := atoms_spec (ws := wsX9_isKept) B.pre
  have hown : s.vm.findClass RX9 = some m.cls := findClass_of_methodNamed B.named
  have hl := lv_entry ([.ref o, .int p0]) (n := 2) (Nat.le_of_ble_eq_true rfl)
  rw [lg_entry_eq]
  generalize (lg_sl ([.ref o, .int p0]) ++ List.replicate (2 - (lg_sl ([.ref o, .int p0])).length) Slot.unset).toArray = ls at hl ⊢
  have hl : lv_has ls 2 [(0, .ref o), (1, .int p0)] := hl
  have z_0 : (0 : Int32).toInt = 0 := by decide
  have z_1 : (1 : Int32).toInt = 1 := by decide
  have hin9 : ∀ w ∈ u_ws RX9 TX9 38, w ∈ wsX9_isKept := by decide +kernel
  refine lv_aload_n hx hb dX9_isKept_0 rfl (lv_at hl 0 rfl) ?_
  refine va_get (D := (dC, dI)) (ci := 11) (v := .int (st 17)) (C := RX9) (T := TX9) (N := 38) hx hb hts hin9 hown hK hP 0 rfl rfl 17 (by decide) (hts (.fieldLink RX9 176 "BlockLogModel" "needs" "Z") (by decide +kernel)) (fun _ h9 => h9) rfl dX9_isKept_1 ?_
  refine lv_if_ne (tgt := 27) hx hb dX9_isKept_4 (by decide) (fun c_1 => ?_) (fun c_1 => ?_)
  · skip
    have ic_1 := iv_ne c_1
    refine lv_iconst (v := 0) hx hb dX9_isKept_27 (by decide) ?_
    exact W.zret hx hb hr rfl (fun t ht hW => ⟨_, rfl, ⟨(by omega), (by omega), (by omega)⟩, ht⟩) (fun q h => by cases h) dX9_isKept_28
  · skip
    have ic_1 := iv_eq c_1
    refine lv_iload_n hx hb dX9_isKept_7 rfl (lv_at hl 1 rfl) ?_
    refine lv_aload_n hx hb dX9_isKept_8 rfl (lv_at hl 0 rfl) ?_
    refine va_get (D := (dC, dI)) (ci := 11) (v := .int (st 22)) (C := RX9) (T := TX9) (N := 38) hx hb hts hin9 hown hK hP 0 rfl rfl 22 (by decide) (hts (.fieldLink RX9 182 "BlockLogModel" "baseHeight" "I") (by decide +kernel)) (fun _ h9 => h9) rfl dX9_isKept_9 ?_
    refine lv_icmp_lt (tgt := 27) hx hb dX9_isKept_12 (by decide) (fun c_2 => ?_) (fun c_2 => ?_)
    · skip
      have ic_2 := iv_lt c_2
      refine lv_iconst (v := 0) hx hb dX9_isKept_27 (by decide) ?_
      exact W.zret hx hb hr rfl (fun t ht hW => ⟨_, rfl, ⟨(by omega), (by omega), (by omega)⟩, ht⟩) (fun q h => by cases h) dX9_isKept_28
    · skip
      have ic_2 := iv_nlt c_2
      refine lv_iload_n hx hb dX9_isKept_15 rfl (lv_at hl 1 rfl) ?_
      refine lv_aload_n hx hb dX9_isKept_16 rfl (lv_at hl 0 rfl) ?_
      refine va_get (D := (dC, dI)) (ci := 11) (v := .int (st 26)) (C := RX9) (T := TX9) (N := 38) hx hb hts hin9 hown hK hP 0 rfl rfl 26 (by decide) (hts (.fieldLink RX9 192 "BlockLogModel" "lastVersion" "I") (by decide +kernel)) (fun _ h9 => h9) rfl dX9_isKept_17 ?_
      refine lv_icmp_gt (tgt := 27) hx hb dX9_isKept_20 (by decide) (fun c_3 => ?_) (fun c_3 => ?_)
      · skip
        have ic_3 := iv_lt c_3
        refine lv_iconst (v := 0) hx hb dX9_isKept_27 (by decide) ?_
        exact W.zret hx hb hr rfl (fun t ht hW => ⟨_, rfl, ⟨(by omega), (by omega), (by omega)⟩, ht⟩) (fun q h => by cases h) dX9_isKept_28
      · skip
        have ic_3 := iv_nlt c_3
        refine lv_iconst (v := 1) hx hb dX9_isKept_23 (by decide) ?_
        refine lv_goto (tgt := 28) hx hb dX9_isKept_24 (by decide) ?_
        exact W.zret hx hb hr rfl (fun t ht hW => ⟨_, rfl, ⟨(by omega), (by omega), (by omega)⟩, ht⟩) (fun q h => by cases h) dX9_isKept_28

set_option maxHeartbeats 4000000 in
set_option maxRecDepth 100000 in
theorem v_X9_versionDigest (l : Launch) (dC : Nat → ClassId) (dI : Nat → Nat → Nat) (o : Nat) (c : Nat → Nat) (kc : Nat → ClassId) (st : Nat → Int32) (lg : Nat → Int64) (ai : Nat → Nat → Int32) (al : Nat → Nat → Int64) (p0 : Int32) (hf22a : 0 ≤ (st 22).toInt) (hf22b : (st 22).toInt ≤ 1000000) (hq0 : (st 22).toInt ≤ p0.toInt) (hq1 : p0.toInt - (st 22).toInt ≤ 128) (hR25 : aR (ai 25) 130 (0) 127) : Met l yX9_versionDigest wsX9_versionDigest ({ frames := 0, cells := 0, slots := 0, locals := 0 }) (va_Pc [.ref o, .int p0] (fun U => va_P (dC, dI) vwCl (rw_W o c kc st lg ai al) U.heap ∧ va_K (dC, dI) vwCl (rw_T kc) U)) (vp_Sl (fun r => True)) 0 0 (fun _ => False) := by
  refine Met.ofW (cc := cX9_versionDigest) (maxL := 2) (ret := (some .long)) (by decide) rfl ?_
  intro p e s m args below meth cM s₁ B hml hv
  obtain ⟨rfl, hP, hK⟩ := hv
  have hx := B.exec
  have hb := B.bytes
  have hr := B.returns
  have hts := atoms_spec (ws := wsX9_versionDigest) B.pre
  have hown : s.vm.findClass RX9 = some m.cls := findClass_of_methodNamed B.named
  have hl := lv_entry ([.ref o, .int p0]) (n := 2) (Nat.le_of_ble_eq_true rfl)
  rw [lg_entry_eq]
  generalize (lg_sl ([.ref o, .int p0]) ++ List.replicate (2 - (lg_sl ([.ref o, .int p0])).length) Slot.unset).toArray = ls at hl ⊢
  have hl : lv_has ls 2 [(0, .ref o), (1, .int p0)] := hl
  have hin9 : ∀ w ∈ u_ws RX9 TX9 38, w ∈ wsX9_versionDigest := by decide +kernel
  refine lv_iload_n hx hb dX9_versionDigest_0 rfl (lv_at hl 1 rfl) ?_
  refine lv_aload_n hx hb dX9_versionDigest_1 rfl (lv_at hl 0 rfl) ?_
  refine va_get (D := (dC, dI)) (ci := 11) (v := .int (st 22)) (C := RX9) (T := TX9) (N := 38) hx hb hts hin9 hown hK hP 0 rfl rfl 22 (by decide) (hts (.fieldLink RX9 182 "BlockLogModel" "baseHeight" "I") (by decide +kernel)) (fun _ h9 => h9) rfl dX9_versionDigest_2 ?_
  refine lv_icmp_ne (tgt := 15) hx hb dX9_versionDigest_5 (by decide) (fun c_1 => ?_) (fun c_1 => ?_)
  · skip
    have ic_1 := iv_ne c_1
    refine lv_aload_n hx hb dX9_versionDigest_15 rfl (lv_at hl 0 rfl) ?_
    refine va_get (D := (dC, dI)) (ci := 11) (v := .ref (c 18)) (C := RX9) (T := TX9) (N := 38) hx hb hts hin9 hown hK hP 0 rfl rfl 18 (by decide) (hts (.fieldLink RX9 27 "BlockLogModel" "digestAt" "[J") (by decide +kernel)) (fun _ h9 => h9) rfl dX9_versionDigest_16 ?_
    refine lv_aload_n hx hb dX9_versionDigest_19 rfl (lv_at hl 0 rfl) ?_
    refine va_get (D := (dC, dI)) (ci := 11) (v := .ref (c 25)) (C := RX9) (T := TX9) (N := 38) hx hb hts hin9 hown hK hP 0 rfl rfl 25 (by decide) (hts (.fieldLink RX9 37 "BlockLogModel" "versionRow" "[I") (by decide +kernel)) (fun _ h9 => h9) rfl dX9_versionDigest_20 ?_
    refine lv_iload_n hx hb dX9_versionDigest_23 rfl (lv_at hl 1 rfl) ?_
    refine lv_aload_n hx hb dX9_versionDigest_24 rfl (lv_at hl 0 rfl) ?_
    refine va_get (D := (dC, dI)) (ci := 11) (v := .int (st 22)) (C := RX9) (T := TX9) (N := 38) hx hb hts hin9 hown hK hP 0 rfl rfl 22 (by decide) (hts (.fieldLink RX9 182 "BlockLogModel" "baseHeight" "I") (by decide +kernel)) (fun _ h9 => h9) rfl dX9_versionDigest_25 ?_
    refine lv_isub hx hb dX9_versionDigest_28 ?_
    refine lv_topi (fun v_2 ev_2 => ?_)
    have rg1 := iv_rng p0
    have rg2 := iv_rng (st 22)
    have hv_2 : v_2.toInt = p0.toInt - (st 22).toInt := by rw [ev_2]; exact (iv_sub (by omega) (by omega)).trans (by omega)
    clear ev_2
    refine va_iald (f := ai 25) hx hb hK hP 9 8 rfl rfl (iv_in (i := v_2) (by omega) (by omega)) dX9_versionDigest_29 ?_
    refine lv_topi (fun v_3 ev_3 => ?_)
    have k_4 : 0 ≤ v_3.toInt ∧ v_3.toInt ≤ 127 := aR_get hR25 (by omega) (by omega) ev_3
    have hX_versionRow := ev_3
    clear ev_3
    refine va_lald (f := al 18) hx hb hK hP 6 5 rfl rfl (iv_in (i := v_3) (by omega) (by omega)) dX9_versionDigest_30 ?_
    refine lv_topl (fun w_5 ew_5 => ?_)
    clear ew_5
    exact W.lret hx hb hr (fun t ht hW => ⟨_, rfl, trivial, ht⟩) (fun q h => by cases h) dX9_versionDigest_31
  · skip
    have ic_1 := iv_eq c_1
    refine lv_aload_n hx hb dX9_versionDigest_8 rfl (lv_at hl 0 rfl) ?_
    refine va_get (D := (dC, dI)) (ci := 11) (v := .long (lg 23)) (C := RX9) (T := TX9) (N := 38) hx hb hts hin9 hown hK hP 0 rfl rfl 23 (by decide) (hts (.fieldLink RX9 185 "BlockLogModel" "baseDigest" "J") (by decide +kernel)) (fun _ h9 => h9) rfl dX9_versionDigest_9 ?_
    refine lv_goto (tgt := 31) hx hb dX9_versionDigest_12 (by decide) ?_
    exact W.lret hx hb hr (fun t ht hW => ⟨_, rfl, trivial, ht⟩) (fun q h => by cases h) dX9_versionDigest_31

set_option maxHeartbeats 4000000 in
set_option maxRecDepth 100000 in
theorem v_X9_name (l : Launch) (dC : Nat → ClassId) (dI : Nat → Nat → Nat) (o : Nat) (c : Nat → Nat) (kc : Nat → ClassId) (st : Nat → Int32) (lg : Nat → Int64) (ai : Nat → Nat → Int32) (al : Nat → Nat → Int64) (p0 : Int64) (sz : Nat) (hf30a : 0 ≤ (st 30).toInt) (hf30b : (st 30).toInt ≤ 128) (hN : nOK (ai 0) (st 7) (al 29) (st 30)) (hd : inC (ai 0) (st 7) p0) : Met l yX9_name wsX9_name ({ frames := 0, cells := 0, slots := 0, locals := 0 }) (va_Pc [.ref o, .long p0] (fun U => U.heap.size = sz ∧ va_P (dC, dI) vwCl (rw_W o c kc st lg ai al) U.heap ∧ va_K (dC, dI) vwCl (rw_T kc) U ∧ va_D (fun _ => True) (rw_W o c kc st lg ai al))) (va_Qv (fun (_ : Unit) => True) (fun _ t => ∃ (x30 : Int32) (g29 : Nat → Int64), (0 ≤ x30.toInt) ∧ (x30.toInt ≤ 128) ∧ (nOK (ai 0) (st 7) g29 x30) ∧ va_P (dC, dI) vwCl (rw_W o c kc (rU st 30 x30) lg ai (rU al 29 g29)) t.heap) (va_A (rw_W o c kc st lg ai al) sz)) 0 0 (va_A (rw_W o c kc st lg ai al) sz) := by
  refine Met.ofW (cc := cX9_name) (maxL := 5) (ret := none) (by decide) rfl ?_
  intro p e s m args below meth cM s₁ B hml hv
  obtain ⟨rfl, hsz, hP, hK, hD0⟩ := hv
  have hx := B.exec
  have hb := B.bytes
  have hr := B.returns
  have hts := atoms_spec (ws := wsX9_name) B.pre
  have hown : s.vm.findClass RX9 = some m.cls := findClass_of_methodNamed B.named
  subst hsz
  have hD := hD0.self (sz := s.heap.size)
  generalize hAe : va_A (rw_W o c kc st lg ai al) s.heap.size = A at hD ⊢
  have hA : ∀ q : Nat, s.heap.size ≤ q → A q := fun q h => by rw [← hAe]; exact Or.inr h
  have hS : va_S A s.heap s.heap [] := va_S.rf
  clear hAe hD0
  have hl := lv_entry ([.ref o, .long p0]) (n := 5) (Nat.le_of_ble_eq_true rfl)
  rw [lg_entry_eq]
  generalize (lg_sl ([.ref o, .long p0]) ++ List.replicate (5 - (lg_sl ([.ref o, .long p0])).length) Slot.unset).toArray = ls at hl ⊢
  have hl : lv_has ls 5 [(0, .ref o), (1, .long p0)] := hl
  have z_0 : (0 : Int32).toInt = 0 := by decide
  have z_1 : (1 : Int32).toInt = 1 := by decide
  have hin9 : ∀ w ∈ u_ws RX9 TX9 38, w ∈ wsX9_name := by decide +kernel
  have main : ∀ (H : Heap) (locs : List Loc), va_P (dC, dI) vwCl (rw_W o c kc st lg ai al) H → va_S A s.heap H locs → W p l e (headSpec wsX9_name ({ frames := 0, cells := 0, slots := 0, locals := 0 })).room s m ([.ref o, .long p0] : List Value).toArray below meth cM H locs 0 0 (MQ below (va_Qv (fun (_ : Unit) => True) (fun _ t => ∃ (x30 : Int32) (g29 : Nat → Int64), (0 ≤ x30.toInt) ∧ (x30.toInt ≤ 128) ∧ (nOK (ai 0) (st 7) g29 x30) ∧ va_P (dC, dI) vwCl (rw_W o c kc (rU st 30 x30) lg ai (rU al 29 g29)) t.heap) A) ([.ref o, .long p0] : List Value).toArray s 0 0 A) (F0 m 0 ls []) := by
    intro H locs hP hS
    refine lv_lload_n hx hb dX9_name_0 rfl (lv_at hl 1 rfl) ?_
    refine lv_lconst (v := 0) hx hb dX9_name_1 (by decide) ?_
    refine W.lcmp hx hb dX9_name_2 ?_
    refine lv_topi (fun v_1 ev_1 => ?_)
    refine lv_if_ne (tgt := 10) hx hb dX9_name_3 (by decide) (fun c_2 => ?_) (fun c_2 => ?_)
    · skip
      have ic_2 := iv_ne c_2
      refine lv_iconst (v := 0) hx hb dX9_name_10 (by decide) ?_
      refine lv_istore_n (lv' := [(3, .int (0 : Int32)), (0, .ref o), (1, .long p0)]) hx hb dX9_name_11 rfl hl (by decide) rfl (fun ls hl => ?_)
      refine lv_iconst (v := 0) hx hb dX9_name_12 (by decide) ?_
      refine lv_istore (lv' := [(4, .int (0 : Int32)), (3, .int (0 : Int32)), (0, .ref o), (1, .long p0)]) hx hb dX9_name_13 hl (by decide) rfl (fun ls hl => ?_)
      have loop15 : ∀ (n : Nat) (l4_15 : Int32) (l3_15 : Int32) (H : Heap) (locs : List Loc) (ls : Array Slot), (0 ≤ l3_15.toInt) → (l3_15.toInt ≤ 1) → (0 ≤ l4_15.toInt) → (l4_15.toInt ≤ (st 30).toInt) → (tI (al 29) p0 l3_15 l4_15) → ((st 30).toInt - l4_15.toInt : Int).toNat < n → va_P (dC, dI) vwCl (rw_W o c kc st lg ai al) H → va_S A s.heap H locs → lv_has ls 5 [(4, .int l4_15), (3, .int l3_15), (0, .ref o), (1, .long p0)] → W p l e (headSpec wsX9_name ({ frames := 0, cells := 0, slots := 0, locals := 0 })).room s m ([.ref o, .long p0] : List Value).toArray below meth cM H locs 0 0 (MQ below (va_Qv (fun (_ : Unit) => True) (fun _ t => ∃ (x30 : Int32) (g29 : Nat → Int64), (0 ≤ x30.toInt) ∧ (x30.toInt ≤ 128) ∧ (nOK (ai 0) (st 7) g29 x30) ∧ va_P (dC, dI) vwCl (rw_W o c kc (rU st 30 x30) lg ai (rU al 29 g29)) t.heap) A) ([.ref o, .long p0] : List Value).toArray s 0 0 A) (F0 m 15 ls []) := by
        intro n
        induction n with
        | zero => intro l4_15 l3_15 H locs ls if0_15 if1_15 if2_15 if3_15 ht hm; exact absurd hm (Nat.not_lt_zero _)
        | succ n ih15 =>
          intro l4_15 l3_15 H locs ls if0_15 if1_15 if2_15 if3_15 ht hm15 hP hS hl
          refine lv_iload hx hb dX9_name_15 (lv_at hl 0 rfl) ?_
          refine lv_aload_n hx hb dX9_name_17 rfl (lv_at hl 2 rfl) ?_
          refine va_get (D := (dC, dI)) (ci := 11) (v := .int (st 30)) (C := RX9) (T := TX9) (N := 38) hx hb hts hin9 hown hK hP 0 rfl rfl 30 (by decide) (hts (.fieldLink RX9 241 "BlockLogModel" "named" "I") (by decide +kernel)) (fun _ h9 => h9) rfl dX9_name_18 ?_
          refine lv_icmp_ge (tgt := 50) hx hb dX9_name_21 (by decide) (fun c_3 => ?_) (fun c_3 => ?_)
          · skip
            have ic_3 := iv_le c_3
            refine lv_iload_n hx hb dX9_name_50 rfl (lv_at hl 1 rfl) ?_
            refine lv_if_ne (tgt := 71) hx hb dX9_name_51 (by decide) (fun c_4 => ?_) (fun c_4 => ?_)
            · skip
              have ic_4 := iv_ne c_4
              have k_5 : (st 30).toInt ≤ 128 := nOK_le hN
              exact W.vret hx hb hr (fun t ht hW => ⟨⟨(), rfl, trivial, st 30, al 29, (by omega), (by omega), (by assumption), by rw [ht]; exact hP⟩, hS.F ht⟩) hS.2.2 dX9_name_71
            · skip
              have ic_4 := iv_eq c_4
              refine lv_aload_n hx hb dX9_name_54 rfl (lv_at hl 2 rfl) ?_
              refine va_get (D := (dC, dI)) (ci := 11) (v := .ref (c 29)) (C := RX9) (T := TX9) (N := 38) hx hb hts hin9 hown hK hP 0 rfl rfl 29 (by decide) (hts (.fieldLink RX9 43 "BlockLogModel" "names" "[J") (by decide +kernel)) (fun _ h9 => h9) rfl dX9_name_55 ?_
              refine lv_aload_n hx hb dX9_name_58 rfl (lv_at hl 2 rfl) ?_
              refine lv_dup hx hb dX9_name_59 rfl ?_
              refine va_get (D := (dC, dI)) (ci := 11) (v := .int (st 30)) (C := RX9) (T := TX9) (N := 38) hx hb hts hin9 hown hK hP 0 rfl rfl 30 (by decide) (hts (.fieldLink RX9 241 "BlockLogModel" "named" "I") (by decide +kernel)) (fun _ h9 => h9) rfl dX9_name_60 ?_
              refine lv_dup_x1 hx hb dX9_name_63 rfl rfl ?_
              refine lv_iconst (v := 1) hx hb dX9_name_64 (by decide) ?_
              refine lv_iadd hx hb dX9_name_65 ?_
              refine lv_topi (fun v_6 ev_6 => ?_)
              have rg1 := iv_rng (st 30)
              have hv_6 : v_6.toInt = (st 30).toInt + 1 := by rw [ev_6]; exact (iv_add (by omega) (by omega)).trans (by omega)
              refine va_put (D := (dC, dI)) (ci := 11) (v := .int v_6) (ty := .int) (C := RX9) (T := TX9) (N := 38) hx hb hts hin9 tyX9 tyX9_ok nmX9 hown hK hP (rw_D hD) hS 0 rfl rfl 30 (by decide) (hts (.fieldLink RX9 241 "BlockLogModel" "named" "I") (by decide +kernel)) (fun _ h9 => h9) rfl (by decide +kernel) rfl rfl (Nat.le_of_ble_eq_true rfl) dX9_name_66 (fun H locs hP _ hS => ?_)
              have hP : va_P (dC, dI) vwCl (rw_W o c kc (rU st 30 v_6) lg ai al) H := hP
              refine lv_lload_n hx hb dX9_name_69 rfl (lv_at hl 3 rfl) ?_
              refine va_last (f := al 29) hx hb hK hP (rw_D hD) hS 11 10 rfl rfl (iv_in (i := st 30) (by omega) (by omega)) dX9_name_70 (fun H locs hP _ hS => ?_)
              have hP : va_P (dC, dI) vwCl (rw_W o c kc (rU st 30 v_6) lg ai (rU al 29 (vp_updL (al 29) (st 30).toNatClampNeg p0))) H := hP
              generalize hU_names : vp_updL (al 29) (st 30).toNatClampNeg p0 = g_7 at hP
              have hN : nOK (ai 0) (st 7) g_7 v_6 := nOK_add hN hd ht hU_names (by omega) (by omega) (by omega)
              have k_8 : v_6.toInt ≤ 128 := nOK_le hN
              exact W.vret hx hb hr (fun t ht hW => ⟨⟨(), rfl, trivial, v_6, g_7, (by omega), (by omega), (by assumption), by rw [ht]; exact hP⟩, hS.F ht⟩) hS.2.2 dX9_name_71
          · skip
            have ic_3 := iv_nle c_3
            refine lv_iload_n hx hb dX9_name_24 rfl (lv_at hl 1 rfl) ?_
            refine lv_aload_n hx hb dX9_name_25 rfl (lv_at hl 2 rfl) ?_
            refine va_get (D := (dC, dI)) (ci := 11) (v := .ref (c 29)) (C := RX9) (T := TX9) (N := 38) hx hb hts hin9 hown hK hP 0 rfl rfl 29 (by decide) (hts (.fieldLink RX9 43 "BlockLogModel" "names" "[J") (by decide +kernel)) (fun _ h9 => h9) rfl dX9_name_26 ?_
            refine lv_iload hx hb dX9_name_29 (lv_at hl 0 rfl) ?_
            refine va_lald (f := al 29) hx hb hK hP 11 10 rfl rfl (iv_in (i := l4_15) (by omega) (by omega)) dX9_name_31 ?_
            refine lv_topl (fun w_9 ew_9 => ?_)
            have hX_names := ew_9
            clear ew_9
            refine lv_lload_n hx hb dX9_name_32 rfl (lv_at hl 3 rfl) ?_
            refine W.lcmp hx hb dX9_name_33 ?_
            refine lv_topi (fun v_10 ev_10 => ?_)
            refine lv_if_ne (tgt := 41) hx hb dX9_name_34 (by decide) (fun c_11 => ?_) (fun c_11 => ?_)
            · skip
              have ic_11 := iv_ne c_11
              refine lv_iconst (v := 0) hx hb dX9_name_41 (by decide) ?_
              refine lv_ior hx hb dX9_name_42 ?_
              refine lv_topi (fun v_12 ev_12 => ?_)
              have hv_12 : v_12.toInt = l3_15.toInt := by rw [ev_12, iv_or0]
              refine lv_istore_n (lv' := [(3, .int v_12), (4, .int l4_15), (0, .ref o), (1, .long p0)]) hx hb dX9_name_43 rfl hl (by decide) rfl (fun ls hl => ?_)
              obtain ⟨x_13, ex_13⟩ : ∃ z : Int32, z = l4_15 + (1) := ⟨_, rfl⟩
              refine lv_iinc (v := x_13) (lv' := [(4, .int x_13), (3, .int v_12), (0, .ref o), (1, .long p0)]) hx hb dX9_name_44 hl (k := 1) rfl (by rw [ex_13]; rfl) (by decide) rfl (fun ls hl => ?_)
              have rg2 := iv_rng l4_15
              have hx_13 : x_13.toInt = l4_15.toInt + (1) := by rw [ex_13]; exact (iv_add (by omega) (by omega)).trans (by omega)
              clear ex_13
              refine lv_goto (tgt := 15) hx hb dX9_name_47 (by decide) ?_
              exact ih15 x_13 v_12 _ _ _ (by omega) (by omega) (by omega) (by omega) (by first | exact tI_f (by omega) | exact tI_s ht hX_names (by assumption) (by assumption) (by omega) (by omega) (by omega)) (by omega) hP hS (lv_sub hl [0, 1, 2, 3] rfl)
            · skip
              have ic_11 := iv_eq c_11
              refine lv_iconst (v := 1) hx hb dX9_name_37 (by decide) ?_
              refine lv_goto (tgt := 42) hx hb dX9_name_38 (by decide) ?_
              refine lv_ior hx hb dX9_name_42 ?_
              refine lv_topi (fun v_14 ev_14 => ?_)
              have hv_14 : v_14.toInt = 1 := by rw [ev_14, iv_or1 (by omega) (by omega)]; omega
              refine lv_istore_n (lv' := [(3, .int v_14), (4, .int l4_15), (0, .ref o), (1, .long p0)]) hx hb dX9_name_43 rfl hl (by decide) rfl (fun ls hl => ?_)
              obtain ⟨x_15, ex_15⟩ : ∃ z : Int32, z = l4_15 + (1) := ⟨_, rfl⟩
              refine lv_iinc (v := x_15) (lv' := [(4, .int x_15), (3, .int v_14), (0, .ref o), (1, .long p0)]) hx hb dX9_name_44 hl (k := 1) rfl (by rw [ex_15]; rfl) (by decide) rfl (fun ls hl => ?_)
              have rg3 := iv_rng l4_15
              have hx_15 : x_15.toInt = l4_15.toInt + (1) := by rw [ex_15]; exact (iv_add (by omega) (by omega)).trans (by omega)
              clear ex_15
              refine lv_goto (tgt := 15) hx hb dX9_name_47 (by decide) ?_
              exact ih15 x_15 v_14 _ _ _ (by omega) (by omega) (by omega) (by omega) (by first | exact tI_f (by omega) | exact tI_s ht hX_names (by assumption) (by assumption) (by omega) (by omega) (by omega)) (by omega) hP hS (lv_sub hl [0, 1, 2, 3] rfl)
      exact loop15 (((st 30).toInt - 0 : Int).toNat + 1) (0 : Int32) (0 : Int32) _ _ _ (by omega) (by omega) (by omega) (by omega) (by first | exact tI_f (by omega) | exact tI_0 (by assumption) (by assumption) (by omega)) (by omega) hP hS (lv_sub hl [0, 1, 2, 3] rfl)
    · skip
      have ic_2 := iv_eq c_2
      refine lv_iconst (v := 1) hx hb dX9_name_6 (by decide) ?_
      refine lv_goto (tgt := 11) hx hb dX9_name_7 (by decide) ?_
      refine lv_istore_n (lv' := [(3, .int (1 : Int32)), (0, .ref o), (1, .long p0)]) hx hb dX9_name_11 rfl hl (by decide) rfl (fun ls hl => ?_)
      refine lv_iconst (v := 0) hx hb dX9_name_12 (by decide) ?_
      refine lv_istore (lv' := [(4, .int (0 : Int32)), (3, .int (1 : Int32)), (0, .ref o), (1, .long p0)]) hx hb dX9_name_13 hl (by decide) rfl (fun ls hl => ?_)
      have loop15 : ∀ (n : Nat) (l4_15 : Int32) (l3_15 : Int32) (H : Heap) (locs : List Loc) (ls : Array Slot), (0 ≤ l3_15.toInt) → (l3_15.toInt ≤ 1) → (0 ≤ l4_15.toInt) → (l4_15.toInt ≤ (st 30).toInt) → (tI (al 29) p0 l3_15 l4_15) → ((st 30).toInt - l4_15.toInt : Int).toNat < n → va_P (dC, dI) vwCl (rw_W o c kc st lg ai al) H → va_S A s.heap H locs → lv_has ls 5 [(4, .int l4_15), (3, .int l3_15), (0, .ref o), (1, .long p0)] → W p l e (headSpec wsX9_name ({ frames := 0, cells := 0, slots := 0, locals := 0 })).room s m ([.ref o, .long p0] : List Value).toArray below meth cM H locs 0 0 (MQ below (va_Qv (fun (_ : Unit) => True) (fun _ t => ∃ (x30 : Int32) (g29 : Nat → Int64), (0 ≤ x30.toInt) ∧ (x30.toInt ≤ 128) ∧ (nOK (ai 0) (st 7) g29 x30) ∧ va_P (dC, dI) vwCl (rw_W o c kc (rU st 30 x30) lg ai (rU al 29 g29)) t.heap) A) ([.ref o, .long p0] : List Value).toArray s 0 0 A) (F0 m 15 ls []) := by
        intro n
        induction n with
        | zero => intro l4_15 l3_15 H locs ls if0_15 if1_15 if2_15 if3_15 ht hm; exact absurd hm (Nat.not_lt_zero _)
        | succ n ih15 =>
          intro l4_15 l3_15 H locs ls if0_15 if1_15 if2_15 if3_15 ht hm15 hP hS hl
          refine lv_iload hx hb dX9_name_15 (lv_at hl 0 rfl) ?_
          refine lv_aload_n hx hb dX9_name_17 rfl (lv_at hl 2 rfl) ?_
          refine va_get (D := (dC, dI)) (ci := 11) (v := .int (st 30)) (C := RX9) (T := TX9) (N := 38) hx hb hts hin9 hown hK hP 0 rfl rfl 30 (by decide) (hts (.fieldLink RX9 241 "BlockLogModel" "named" "I") (by decide +kernel)) (fun _ h9 => h9) rfl dX9_name_18 ?_
          refine lv_icmp_ge (tgt := 50) hx hb dX9_name_21 (by decide) (fun c_16 => ?_) (fun c_16 => ?_)
          · skip
            have ic_16 := iv_le c_16
            refine lv_iload_n hx hb dX9_name_50 rfl (lv_at hl 1 rfl) ?_
            refine lv_if_ne (tgt := 71) hx hb dX9_name_51 (by decide) (fun c_17 => ?_) (fun c_17 => ?_)
            · skip
              have ic_17 := iv_ne c_17
              have k_18 : (st 30).toInt ≤ 128 := nOK_le hN
              exact W.vret hx hb hr (fun t ht hW => ⟨⟨(), rfl, trivial, st 30, al 29, (by omega), (by omega), (by assumption), by rw [ht]; exact hP⟩, hS.F ht⟩) hS.2.2 dX9_name_71
            · skip
              have ic_17 := iv_eq c_17
              refine lv_aload_n hx hb dX9_name_54 rfl (lv_at hl 2 rfl) ?_
              refine va_get (D := (dC, dI)) (ci := 11) (v := .ref (c 29)) (C := RX9) (T := TX9) (N := 38) hx hb hts hin9 hown hK hP 0 rfl rfl 29 (by decide) (hts (.fieldLink RX9 43 "BlockLogModel" "names" "[J") (by decide +kernel)) (fun _ h9 => h9) rfl dX9_name_55 ?_
              refine lv_aload_n hx hb dX9_name_58 rfl (lv_at hl 2 rfl) ?_
              refine lv_dup hx hb dX9_name_59 rfl ?_
              refine va_get (D := (dC, dI)) (ci := 11) (v := .int (st 30)) (C := RX9) (T := TX9) (N := 38) hx hb hts hin9 hown hK hP 0 rfl rfl 30 (by decide) (hts (.fieldLink RX9 241 "BlockLogModel" "named" "I") (by decide +kernel)) (fun _ h9 => h9) rfl dX9_name_60 ?_
              refine lv_dup_x1 hx hb dX9_name_63 rfl rfl ?_
              refine lv_iconst (v := 1) hx hb dX9_name_64 (by decide) ?_
              refine lv_iadd hx hb dX9_name_65 ?_
              refine lv_topi (fun v_19 ev_19 => ?_)
              have rg4 := iv_rng (st 30)
              have hv_19 : v_19.toInt = (st 30).toInt + 1 := by rw [ev_19]; exact (iv_add (by omega) (by omega)).trans (by omega)
              refine va_put (D := (dC, dI)) (ci := 11) (v := .int v_19) (ty := .int) (C := RX9) (T := TX9) (N := 38) hx hb hts hin9 tyX9 tyX9_ok nmX9 hown hK hP (rw_D hD) hS 0 rfl rfl 30 (by decide) (hts (.fieldLink RX9 241 "BlockLogModel" "named" "I") (by decide +kernel)) (fun _ h9 => h9) rfl (by decide +kernel) rfl rfl (Nat.le_of_ble_eq_true rfl) dX9_name_66 (fun H locs hP _ hS => ?_)
              have hP : va_P (dC, dI) vwCl (rw_W o c kc (rU st 30 v_19) lg ai al) H := hP
              refine lv_lload_n hx hb dX9_name_69 rfl (lv_at hl 3 rfl) ?_
              refine va_last (f := al 29) hx hb hK hP (rw_D hD) hS 11 10 rfl rfl (iv_in (i := st 30) (by omega) (by omega)) dX9_name_70 (fun H locs hP _ hS => ?_)
              have hP : va_P (dC, dI) vwCl (rw_W o c kc (rU st 30 v_19) lg ai (rU al 29 (vp_updL (al 29) (st 30).toNatClampNeg p0))) H := hP
              generalize hU_names : vp_updL (al 29) (st 30).toNatClampNeg p0 = g_20 at hP
              have hN : nOK (ai 0) (st 7) g_20 v_19 := nOK_add hN hd ht hU_names (by omega) (by omega) (by omega)
              have k_21 : v_19.toInt ≤ 128 := nOK_le hN
              exact W.vret hx hb hr (fun t ht hW => ⟨⟨(), rfl, trivial, v_19, g_20, (by omega), (by omega), (by assumption), by rw [ht]; exact hP⟩, hS.F ht⟩) hS.2.2 dX9_name_71
          · skip
            have ic_16 := iv_nle c_16
            refine lv_iload_n hx hb dX9_name_24 rfl (lv_at hl 1 rfl) ?_
            refine lv_aload_n hx hb dX9_name_25 rfl (lv_at hl 2 rfl) ?_
            refine va_get (D := (dC, dI)) (ci := 11) (v := .ref (c 29)) (C := RX9) (T := TX9) (N := 38) hx hb hts hin9 hown hK hP 0 rfl rfl 29 (by decide) (hts (.fieldLink RX9 43 "BlockLogModel" "names" "[J") (by decide +kernel)) (fun _ h9 => h9) rfl dX9_name_26 ?_
            refine lv_iload hx hb dX9_name_29 (lv_at hl 0 rfl) ?_
            refine va_lald (f := al 29) hx hb hK hP 11 10 rfl rfl (iv_in (i := l4_15) (by omega) (by omega)) dX9_name_31 ?_
            refine lv_topl (fun w_22 ew_22 => ?_)
            have hX_names := ew_22
            clear ew_22
            refine lv_lload_n hx hb dX9_name_32 rfl (lv_at hl 3 rfl) ?_
            refine W.lcmp hx hb dX9_name_33 ?_
            refine lv_topi (fun v_23 ev_23 => ?_)
            refine lv_if_ne (tgt := 41) hx hb dX9_name_34 (by decide) (fun c_24 => ?_) (fun c_24 => ?_)
            · skip
              have ic_24 := iv_ne c_24
              refine lv_iconst (v := 0) hx hb dX9_name_41 (by decide) ?_
              refine lv_ior hx hb dX9_name_42 ?_
              refine lv_topi (fun v_25 ev_25 => ?_)
              have hv_25 : v_25.toInt = l3_15.toInt := by rw [ev_25, iv_or0]
              refine lv_istore_n (lv' := [(3, .int v_25), (4, .int l4_15), (0, .ref o), (1, .long p0)]) hx hb dX9_name_43 rfl hl (by decide) rfl (fun ls hl => ?_)
              obtain ⟨x_26, ex_26⟩ : ∃ z : Int32, z = l4_15 + (1) := ⟨_, rfl⟩
              refine lv_iinc (v := x_26) (lv' := [(4, .int x_26), (3, .int v_25), (0, .ref o), (1, .long p0)]) hx hb dX9_name_44 hl (k := 1) rfl (by rw [ex_26]; rfl) (by decide) rfl (fun ls hl => ?_)
              have rg5 := iv_rng l4_15
              have hx_26 : x_26.toInt = l4_15.toInt + (1) := by rw [ex_26]; exact (iv_add (by omega) (by omega)).trans (by omega)
              clear ex_26
              refine lv_goto (tgt := 15) hx hb dX9_name_47 (by decide) ?_
              exact ih15 x_26 v_25 _ _ _ (by omega) (by omega) (by omega) (by omega) (by first | exact tI_f (by omega) | exact tI_s ht hX_names (by assumption) (by assumption) (by omega) (by omega) (by omega)) (by omega) hP hS (lv_sub hl [0, 1, 2, 3] rfl)
            · skip
              have ic_24 := iv_eq c_24
              refine lv_iconst (v := 1) hx hb dX9_name_37 (by decide) ?_
              refine lv_goto (tgt := 42) hx hb dX9_name_38 (by decide) ?_
              refine lv_ior hx hb dX9_name_42 ?_
              refine lv_topi (fun v_27 ev_27 => ?_)
              have hv_27 : v_27.toInt = 1 := by rw [ev_27, iv_or1 (by omega) (by omega)]; omega
              refine lv_istore_n (lv' := [(3, .int v_27), (4, .int l4_15), (0, .ref o), (1, .long p0)]) hx hb dX9_name_43 rfl hl (by decide) rfl (fun ls hl => ?_)
              obtain ⟨x_28, ex_28⟩ : ∃ z : Int32, z = l4_15 + (1) := ⟨_, rfl⟩
              refine lv_iinc (v := x_28) (lv' := [(4, .int x_28), (3, .int v_27), (0, .ref o), (1, .long p0)]) hx hb dX9_name_44 hl (k := 1) rfl (by rw [ex_28]; rfl) (by decide) rfl (fun ls hl => ?_)
              have rg6 := iv_rng l4_15
              have hx_28 : x_28.toInt = l4_15.toInt + (1) := by rw [ex_28]; exact (iv_add (by omega) (by omega)).trans (by omega)
              clear ex_28
              refine lv_goto (tgt := 15) hx hb dX9_name_47 (by decide) ?_
              exact ih15 x_28 v_27 _ _ _ (by omega) (by omega) (by omega) (by omega) (by first | exact tI_f (by omega) | exact tI_s ht hX_names (by assumption) (by assumption) (by omega) (by omega) (by omega)) (by omega) hP hS (lv_sub hl [0, 1, 2, 3] rfl)
      exact loop15 (((st 30).toInt - 0 : Int).toNat + 1) (0 : Int32) (1 : Int32) _ _ _ (by omega) (by omega) (by omega) (by omega) (by first | exact tI_f (by omega) | exact tI_0 (by assumption) (by assumption) (by omega)) (by omega) hP hS (lv_sub hl [0, 1, 2, 3] rfl)
  exact main s.heap [] hP hS
