set_option maxHeartbeats 4000000 in
set_option maxRecDepth 100000 in
theorem v_J3_checkIndex_8e157 (l : Launch) (dC : Nat → ClassId) (dI : Nat → Nat → Nat) (p0 : Int32) (p1 : Int32) (hq0 : 0 ≤ p0.toInt) (hq1 : p0.toInt < p1.toInt) : Met l yJ3_checkIndex_8e157 wsJ3_checkIndex_8e157 ({ frames := 0, cells := 0, slots := 0, locals := 0 }) (va_Pc [.int p0, .int p1, .null] (fun U => True)) (vp_Si (fun r => (r.toInt = p0.toInt))) 0 0 (fun _ => False) := by
  refine Met.ofW (cc := cJ3_checkIndex_8e157) (maxL := 3) (ret := (some .int)) (by decide) rfl ?_
  intro p e s m args below meth cM s₁ B hml hv
  obtain ⟨rfl, -⟩ := hv
  have hx := B.exec
  have hb := B.bytes
  have hr := B.returns
  have hts := atoms_spec (ws := wsJ3_checkIndex_8e157) B.pre
  have hown : s.vm.findClass RJ3 = some m.cls := findClass_of_methodNamed B.named
  have hl := lv_entry ([.int p0, .int p1, .null]) (n := 3) (Nat.le_of_ble_eq_true rfl)
  rw [lg_entry_eq]
  generalize (lg_sl ([.int p0, .int p1, .null]) ++ List.replicate (3 - (lg_sl ([.int p0, .int p1, .null])).length) Slot.unset).toArray = ls at hl ⊢
  have hl : lv_has ls 3 [(0, .int p0), (1, .int p1), (2, .null)] := hl
  have z_0 : (0 : Int32).toInt = 0 := by decide
  refine lv_iload_n hx hb dJ3_checkIndex_8e157_0 rfl (lv_at hl 0 rfl) ?_
  refine lv_if_lt (tgt := 9) hx hb dJ3_checkIndex_8e157_1 (by decide) (fun c_1 => ?_) (fun c_1 => ?_)
  · skip
    have ic_1 := iv_lt c_1
    exfalso
    omega
  · skip
    have ic_1 := iv_nlt c_1
    refine lv_iload_n hx hb dJ3_checkIndex_8e157_4 rfl (lv_at hl 0 rfl) ?_
    refine lv_iload_n hx hb dJ3_checkIndex_8e157_5 rfl (lv_at hl 1 rfl) ?_
    refine lv_icmp_lt (tgt := 16) hx hb dJ3_checkIndex_8e157_6 (by decide) (fun c_2 => ?_) (fun c_2 => ?_)
    · skip
      have ic_2 := iv_lt c_2
      refine lv_iload_n hx hb dJ3_checkIndex_8e157_16 rfl (lv_at hl 0 rfl) ?_
      exact W.iret hx hb hr (fun t ht hW => ⟨_, rfl, (by omega), ht⟩) (fun q h => by cases h) dJ3_checkIndex_8e157_17
    · skip
      have ic_2 := iv_nlt c_2
      exfalso
      omega

set_option maxHeartbeats 4000000 in
set_option maxRecDepth 100000 in
theorem v_J15_checkIndex_7cf53 (l : Launch) (dC : Nat → ClassId) (dI : Nat → Nat → Nat) (p0 : Int32) (p1 : Int32) (hq0 : 0 ≤ p0.toInt) (hq1 : p0.toInt < p1.toInt) : Met l yJ15_checkIndex_7cf53 wsJ15_checkIndex_7cf53 ({ frames := 1, cells := 0, slots := 0, locals := 22 }) (va_Pc [.int p0, .int p1] (fun U => True)) (vp_Si (fun r => (r.toInt = p0.toInt))) 0 0 (fun _ => False) := by
  refine Met.ofW (cc := cJ15_checkIndex_7cf53) (maxL := 2) (ret := (some .int)) (by decide) rfl ?_
  intro p e s m args below meth cM s₁ B hml hv
  obtain ⟨rfl, -⟩ := hv
  have hx := B.exec
  have hb := B.bytes
  have hr := B.returns
  have hts := atoms_spec (ws := wsJ15_checkIndex_7cf53) B.pre
  have hown : s.vm.findClass RJ15 = some m.cls := findClass_of_methodNamed B.named
  have hl := lv_entry ([.int p0, .int p1]) (n := 2) (Nat.le_of_ble_eq_true rfl)
  rw [lg_entry_eq]
  generalize (lg_sl ([.int p0, .int p1]) ++ List.replicate (2 - (lg_sl ([.int p0, .int p1])).length) Slot.unset).toArray = ls at hl ⊢
  have hl : lv_has ls 2 [(0, .int p0), (1, .int p1)] := hl
  refine lv_iload_n hx hb dJ15_checkIndex_7cf53_0 rfl (lv_at hl 0 rfl) ?_
  refine lv_iload_n hx hb dJ15_checkIndex_7cf53_1 rfl (lv_at hl 1 rfl) ?_
  refine lv_null hx hb dJ15_checkIndex_7cf53_2 ?_
  refine vp_callSi (va_Run.run (va_runS (As := [.int p0, .int p1, .null]) (rest := []) ⟨hx, hb, hml, hown, hts⟩ (v_J3_checkIndex_8e157 l dC dI p0 p1 (by omega) (by omega)) (va_cwS 3 hts gJ15_checkIndex_7cf53_J3_checkIndex_8e157 rfl rfl rfl (by decide +kernel) ⟨Nat.le_of_ble_eq_true rfl, Nat.le_of_ble_eq_true rfl⟩) ⟨fun a U g mk q => q, fun U hU hW => ⟨rfl, trivial⟩⟩ rfl rfl hl.1 rfl (lv_room (Nat.le_of_ble_eq_true rfl)) dJ15_checkIndex_7cf53_3 ⟨Nat.le_of_ble_eq_true rfl, Nat.le_of_ble_eq_true rfl⟩)) (fun r_1 er_1 => ?_)
  have k_2 := er_1
  exact W.iret hx hb hr (fun t ht hW => ⟨_, rfl, (by omega), ht⟩) (fun q h => by cases h) dJ15_checkIndex_7cf53_6

set_option maxHeartbeats 4000000 in
set_option maxRecDepth 100000 in
theorem v_Jx4a65c_size_8abf5 (l : Launch) (dC : Nat → ClassId) (dI : Nat → Nat → Nat) (c : Nat → Nat) (kc : Nat → ClassId) (st : Nat → Int32) (lg : Nat → Int64) (ai : Nat → Nat → Int32) (al : Nat → Nat → Int64) (R : va_W)  (hf13a : 0 ≤ (st 13).toInt) (hf13b : (st 13).toInt ≤ 65536) : Met l yJx4a65c_size_8abf5 wsJx4a65c_size_8abf5 ({ frames := 0, cells := 0, slots := 0, locals := 0 }) (va_Pc [.ref (c 103)] (fun U => va_P (dC, dI) vwCl (cw_W c kc st lg ai al R) U.heap ∧ va_K (dC, dI) vwCl (cw_T kc) U)) (vp_Si (fun r => (r.toInt = (st 13).toInt))) 0 0 (fun _ => False) := by
  refine Met.ofW (cc := cJx4a65c_size_8abf5) (maxL := 1) (ret := (some .int)) (by decide) rfl ?_
  intro p e s m args below meth cM s₁ B hml hv
  obtain ⟨rfl, hP, hK⟩ := hv
  have hx := B.exec
  have hb := B.bytes
  have hr := B.returns
  have hts := atoms_spec (ws := wsJx4a65c_size_8abf5) B.pre
  have hown : s.vm.findClass RJx4a65c = some m.cls := findClass_of_methodNamed B.named
  have hl := lv_entry ([.ref (c 103)]) (n := 1) (Nat.le_of_ble_eq_true rfl)
  rw [lg_entry_eq]
  generalize (lg_sl ([.ref (c 103)]) ++ List.replicate (1 - (lg_sl ([.ref (c 103)])).length) Slot.unset).toArray = ls at hl ⊢
  have hl : lv_has ls 1 [(0, .ref (c 103))] := hl
  have hin_Jx4a65c : ∀ w ∈ u_ws RJx4a65c TJx4a65c 3, w ∈ wsJx4a65c_size_8abf5 := by decide +kernel
  refine lv_aload_n hx hb dJx4a65c_size_8abf5_0 rfl (lv_at hl 0 rfl) ?_
  refine va_get (D := (dC, dI)) (ci := 2) (v := .int (st 13)) (C := RJx4a65c) (T := TJx4a65c) (N := 3) hx hb hts hin_Jx4a65c hown hK hP 3 rfl rfl 2 (by decide) (hts (.fieldLink RJx4a65c 48 "java/util/ArrayList" "size" "I") (by decide +kernel)) (fun _ h9 => h9) rfl dJx4a65c_size_8abf5_1 ?_
  exact W.iret hx hb hr (fun t ht hW => ⟨_, rfl, (by omega), ht⟩) (fun q h => by cases h) dJx4a65c_size_8abf5_4

set_option maxHeartbeats 4000000 in
set_option maxRecDepth 100000 in
theorem v_X2_size (l : Launch) (dC : Nat → ClassId) (dI : Nat → Nat → Nat) (c : Nat → Nat) (kc : Nat → ClassId) (st : Nat → Int32) (lg : Nat → Int64) (ai : Nat → Nat → Int32) (al : Nat → Nat → Int64) (R : va_W) (x0 b0 j0 i0 : Nat) (m0 k0 : Int32) (f0 : Nat → Int32)  (hj0 : R[j0]? = some (pgO x0 m0 b0 k0)) (hi0 : R[i0]? = some (pgB (kc 0) b0 f0)) : Met l yX2_size wsX2_size ({ frames := 0, cells := 0, slots := 0, locals := 0 }) (va_Pc [.ref x0] (fun U => va_P (dC, dI) vwCl (cw_W c kc st lg ai al R) U.heap ∧ va_K (dC, dI) vwCl (cw_T kc) U)) (vp_Si (fun r => (r = f0 0))) 0 0 (fun _ => False) := by
  refine Met.ofW (cc := cX2_size) (maxL := 1) (ret := (some .int)) (by decide) rfl ?_
  intro p e s m args below meth cM s₁ B hml hv
  obtain ⟨rfl, hP, hK⟩ := hv
  have hx := B.exec
  have hb := B.bytes
  have hr := B.returns
  have hts := atoms_spec (ws := wsX2_size) B.pre
  have hown : s.vm.findClass RX2 = some m.cls := findClass_of_methodNamed B.named
  have hl := lv_entry ([.ref x0]) (n := 1) (Nat.le_of_ble_eq_true rfl)
  rw [lg_entry_eq]
  generalize (lg_sl ([.ref x0]) ++ List.replicate (1 - (lg_sl ([.ref x0])).length) Slot.unset).toArray = ls at hl ⊢
  have hl : lv_has ls 1 [(0, .ref x0)] := hl
  have z_0 : (0 : Int32).toInt = 0 := by decide
  have hin_X2 : ∀ w ∈ u_ws RX2 TX2 3, w ∈ wsX2_size := by decide +kernel
  have hM_x0 : pgM (kc 0) R x0 m0 := ⟨b0, k0, f0, ⟨j0, hj0⟩, i0, hi0⟩
  refine lv_aload_n hx hb dX2_size_0 rfl (lv_at hl 0 rfl) ?_
  refine va_get (D := (dC, dI)) (ci := 4) (v := .ref b0) (C := RX2) (T := TX2) (N := 3) hx hb hts hin_X2 hown hK hP (26 + j0) (cw_at hj0) rfl 1 (by decide) (hts (.fieldLink RX2 15 "BlockLog$Page" "bytes" "[B") (by decide +kernel)) (fun _ h9 => h9) rfl dX2_size_1 ?_
  refine lv_iconst (v := 0) hx hb dX2_size_4 (by decide) ?_
  refine va_bald (f := f0) hx hb hK hP (26 + i0) 0 (cw_at hi0) rfl (iv_in (i := (0 : Int32)) (by omega) (by omega)) dX2_size_5 ?_
  refine lv_topi (fun v_1 ev_1 => ?_)
  have hX_pg := ev_1
  clear ev_1
  exact W.iret hx hb hr (fun t ht hW => ⟨_, rfl, (hX_pg.trans (by rw [show (0 : Int32).toNatClampNeg = 0 by decide])), ht⟩) (fun q h => by cases h) dX2_size_6

set_option maxHeartbeats 4000000 in
set_option maxRecDepth 100000 in
theorem v_X2_sum (l : Launch) (dC : Nat → ClassId) (dI : Nat → Nat → Nat) (c : Nat → Nat) (kc : Nat → ClassId) (st : Nat → Int32) (lg : Nat → Int64) (ai : Nat → Nat → Int32) (al : Nat → Nat → Int64) (R : va_W) (x0 b0 j0 i0 : Nat) (m0 k0 : Int32) (f0 : Nat → Int32)  (hj0 : R[j0]? = some (pgO x0 m0 b0 k0)) (hi0 : R[i0]? = some (pgB (kc 0) b0 f0)) : Met l yX2_sum wsX2_sum ({ frames := 1, cells := 0, slots := 0, locals := 24 }) (va_Pc [.ref x0] (fun U => va_P (dC, dI) vwCl (cw_W c kc st lg ai al R) U.heap ∧ va_K (dC, dI) vwCl (cw_T kc) U)) (vp_Sl (fun r => True)) 0 0 (fun _ => False) := by
  refine Met.ofW (cc := cX2_sum) (maxL := 1) (ret := (some .long)) (by decide) rfl ?_
  intro p e s m args below meth cM s₁ B hml hv
  obtain ⟨rfl, hP, hK⟩ := hv
  have hx := B.exec
  have hb := B.bytes
  have hr := B.returns
  have hts := atoms_spec (ws := wsX2_sum) B.pre
  have hown : s.vm.findClass RX2 = some m.cls := findClass_of_methodNamed B.named
  have hl := lv_entry ([.ref x0]) (n := 1) (Nat.le_of_ble_eq_true rfl)
  rw [lg_entry_eq]
  generalize (lg_sl ([.ref x0]) ++ List.replicate (1 - (lg_sl ([.ref x0])).length) Slot.unset).toArray = ls at hl ⊢
  have hl : lv_has ls 1 [(0, .ref x0)] := hl
  have z_17 : (17 : Int32).toInt = 17 := by decide
  have hin_X2 : ∀ w ∈ u_ws RX2 TX2 3, w ∈ wsX2_sum := by decide +kernel
  have hM_x0 : pgM (kc 0) R x0 m0 := ⟨b0, k0, f0, ⟨j0, hj0⟩, i0, hi0⟩
  refine lv_aload_n hx hb dX2_sum_0 rfl (lv_at hl 0 rfl) ?_
  refine va_get (D := (dC, dI)) (ci := 4) (v := .ref b0) (C := RX2) (T := TX2) (N := 3) hx hb hts hin_X2 hown hK hP (26 + j0) (cw_at hj0) rfl 1 (by decide) (hts (.fieldLink RX2 15 "BlockLog$Page" "bytes" "[B") (by decide +kernel)) (fun _ h9 => h9) rfl dX2_sum_1 ?_
  refine lv_bipush (v := 17) hx hb dX2_sum_4 (by decide) ?_
  refine vp_callSl (va_Run.run (va_runS (As := [.ref b0, .int (17 : Int32)]) (rest := []) ⟨hx, hb, hml, hown, hts⟩ (v_X0_longAt l dC dI (cw_W c kc st lg ai al R) (cw_T kc) b0 26 (kc 0) f0 (26 + i0) 0 (17 : Int32) (cw_at hi0) rfl (by omega) (by omega) (by omega)) (va_cwS 2 hts gX2_sum_X0_longAt rfl rfl rfl (by decide +kernel) ⟨Nat.le_of_ble_eq_true rfl, Nat.le_of_ble_eq_true rfl⟩) ⟨fun a U g mk q => by obtain ⟨q0, qP, qK⟩ := q; exact ⟨q0, qP, va_K.moved (u := U) (U := U.calling g mk a) (Vm.Alike.refl U.vm) qK⟩, fun U hU hW => ⟨rfl, by rw [hU]; exact hP, va_K.moved hW.alike hK⟩⟩ rfl rfl hl.1 rfl (lv_room (Nat.le_of_ble_eq_true rfl)) dX2_sum_6 ⟨Nat.le_of_ble_eq_true rfl, Nat.le_of_ble_eq_true rfl⟩)) (fun r_1 er_1 => ?_)
  exact W.lret hx hb hr (fun t ht hW => ⟨_, rfl, trivial, ht⟩) (fun q h => by cases h) dX2_sum_9

set_option maxHeartbeats 4000000 in
set_option maxRecDepth 100000 in
theorem v_X2_hasForm (l : Launch) (dC : Nat → ClassId) (dI : Nat → Nat → Nat) (c : Nat → Nat) (kc : Nat → ClassId) (st : Nat → Int32) (lg : Nat → Int64) (ai : Nat → Nat → Int32) (al : Nat → Nat → Int64) (R : va_W) (x0 b0 j0 i0 : Nat) (m0 k0 : Int32) (f0 : Nat → Int32)  (hj0 : R[j0]? = some (pgO x0 m0 b0 k0)) (hi0 : R[i0]? = some (pgB (kc 0) b0 f0)) : Met l yX2_hasForm wsX2_hasForm ({ frames := 1, cells := 0, slots := 0, locals := 23 }) (va_Pc [.ref x0] (fun U => va_P (dC, dI) vwCl (cw_W c kc st lg ai al R) U.heap ∧ va_K (dC, dI) vwCl (cw_T kc) U)) (vp_Si (fun r => (0 ≤ r.toInt) ∧ (r.toInt ≤ 1) ∧ (r.toInt = 1 → 1 ≤ (f0 0).toInt ∧ (f0 0).toInt ≤ 16))) 0 0 (fun _ => False) := by
  refine Met.ofW (cc := cX2_hasForm) (maxL := 2) (ret := (some .boolean)) (by decide) rfl ?_
  intro p e s m args below meth cM s₁ B hml hv
  obtain ⟨rfl, hP, hK⟩ := hv
  have hx := B.exec
  have hb := B.bytes
  have hr := B.returns
  have hts := atoms_spec (ws := wsX2_hasForm) B.pre
  have hown : s.vm.findClass RX2 = some m.cls := findClass_of_methodNamed B.named
  have hl := lv_entry ([.ref x0]) (n := 2) (Nat.le_of_ble_eq_true rfl)
  rw [lg_entry_eq]
  generalize (lg_sl ([.ref x0]) ++ List.replicate (2 - (lg_sl ([.ref x0])).length) Slot.unset).toArray = ls at hl ⊢
  have hl : lv_has ls 2 [(0, .ref x0)] := hl
  have z_0 : (0 : Int32).toInt = 0 := by decide
  have z_1 : (1 : Int32).toInt = 1 := by decide
  have z_16 : (16 : Int32).toInt = 16 := by decide
  have hin_X2 : ∀ w ∈ u_ws RX2 TX2 3, w ∈ wsX2_hasForm := by decide +kernel
  have hM_x0 : pgM (kc 0) R x0 m0 := ⟨b0, k0, f0, ⟨j0, hj0⟩, i0, hi0⟩
  refine lv_aload_n hx hb dX2_hasForm_0 rfl (lv_at hl 0 rfl) ?_
  refine vp_callSi (va_Run.run (va_runV (As := []) (rest := []) ⟨hx, hb, hml, hown, hts⟩ (v_X2_size l dC dI c kc st lg ai al R x0 b0 j0 i0 m0 k0 f0  hj0 hi0 ) (cwV 0 hts gX2_hasForm_X2_size rfl rfl rfl (by decide +kernel) ⟨Nat.le_of_ble_eq_true rfl, Nat.le_of_ble_eq_true rfl⟩) ⟨fun a U g mk q => by obtain ⟨q0, qP, qK⟩ := q; exact ⟨q0, qP, va_K.moved (u := U) (U := U.calling g mk a) (Vm.Alike.refl U.vm) qK⟩, va_recv hK hP (ci := 4) (q := (RX2, TX2, 3)) rfl (q0 := 26 + j0) (cw_at hj0), fun U hU hW => ⟨rfl, by rw [hU]; exact hP, va_K.moved hW.alike hK⟩⟩ rfl rfl hl.1 rfl (lv_room (Nat.le_of_ble_eq_true rfl)) dX2_hasForm_1 ⟨Nat.le_of_ble_eq_true rfl, Nat.le_of_ble_eq_true rfl⟩)) (fun r_1 er_1 => ?_)
  have hz := er_1
  have hz : r_1 = f0 0 := hz
  refine lv_istore_n (lv' := [(1, .int r_1), (0, .ref x0)]) hx hb dX2_hasForm_4 rfl hl (by decide) rfl (fun ls hl => ?_)
  refine lv_iload_n hx hb dX2_hasForm_5 rfl (lv_at hl 0 rfl) ?_
  refine lv_iconst (v := 1) hx hb dX2_hasForm_6 (by decide) ?_
  refine lv_icmp_lt (tgt := 37) hx hb dX2_hasForm_7 (by decide) (fun c_2 => ?_) (fun c_2 => ?_)
  · skip
    have ic_2 := iv_lt c_2
    refine lv_iconst (v := 0) hx hb dX2_hasForm_37 (by decide) ?_
    exact W.zret hx hb hr rfl (fun t ht hW => ⟨_, rfl, ⟨(by omega), (by omega), (by first | exact fun h => absurd h (by omega) | exact fun _ => by rw [← hz]; omega)⟩, ht⟩) (fun q h => by cases h) dX2_hasForm_38
  · skip
    have ic_2 := iv_nlt c_2
    refine lv_iload_n hx hb dX2_hasForm_10 rfl (lv_at hl 0 rfl) ?_
    refine lv_bipush (v := 16) hx hb dX2_hasForm_11 (by decide) ?_
    refine lv_icmp_gt (tgt := 37) hx hb dX2_hasForm_13 (by decide) (fun c_3 => ?_) (fun c_3 => ?_)
    · skip
      have ic_3 := iv_lt c_3
      refine lv_iconst (v := 0) hx hb dX2_hasForm_37 (by decide) ?_
      exact W.zret hx hb hr rfl (fun t ht hW => ⟨_, rfl, ⟨(by omega), (by omega), (by first | exact fun h => absurd h (by omega) | exact fun _ => by rw [← hz]; omega)⟩, ht⟩) (fun q h => by cases h) dX2_hasForm_38
    · skip
      have ic_3 := iv_nlt c_3
      refine lv_aload_n hx hb dX2_hasForm_16 rfl (lv_at hl 1 rfl) ?_
      refine va_get (D := (dC, dI)) (ci := 4) (v := .ref b0) (C := RX2) (T := TX2) (N := 3) hx hb hts hin_X2 hown hK hP (26 + j0) (cw_at hj0) rfl 1 (by decide) (hts (.fieldLink RX2 15 "BlockLog$Page" "bytes" "[B") (by decide +kernel)) (fun _ h9 => h9) rfl dX2_hasForm_17 ?_
      refine lv_iconst (v := 1) hx hb dX2_hasForm_20 (by decide) ?_
      refine lv_iload_n hx hb dX2_hasForm_21 rfl (lv_at hl 0 rfl) ?_
      refine lv_iadd hx hb dX2_hasForm_22 ?_
      refine lv_topi (fun v_4 ev_4 => ?_)
      have rg1 := iv_rng r_1
      have hv_4 : v_4.toInt = 1 + r_1.toInt := by rw [ev_4]; exact (iv_add (by omega) (by omega)).trans (by omega)
      clear ev_4
      refine lv_bipush (v := 16) hx hb dX2_hasForm_23 (by decide) ?_
      refine lv_iload_n hx hb dX2_hasForm_25 rfl (lv_at hl 0 rfl) ?_
      refine lv_isub hx hb dX2_hasForm_26 ?_
      refine lv_topi (fun v_5 ev_5 => ?_)
      have hv_5 : v_5.toInt = 16 - r_1.toInt := by rw [ev_5]; exact (iv_sub (by omega) (by omega)).trans (by omega)
      clear ev_5
      refine vp_callSi (va_Run.run (va_runS (As := [.ref b0, .int v_4, .int v_5]) (rest := []) ⟨hx, hb, hml, hown, hts⟩ (v_X0_isZero l dC dI (cw_W c kc st lg ai al R) (cw_T kc) b0 26 (kc 0) f0 (26 + i0) 0 v_4 v_5 (cw_at hi0) rfl (by omega) (by omega) (by omega) (by omega)) (va_cwS 3 hts gX2_hasForm_X0_isZero rfl rfl rfl (by decide +kernel) ⟨Nat.le_of_ble_eq_true rfl, Nat.le_of_ble_eq_true rfl⟩) ⟨fun a U g mk q => by obtain ⟨q0, qP, qK⟩ := q; exact ⟨q0, qP, va_K.moved (u := U) (U := U.calling g mk a) (Vm.Alike.refl U.vm) qK⟩, fun U hU hW => ⟨rfl, by rw [hU]; exact hP, va_K.moved hW.alike hK⟩⟩ rfl rfl hl.1 rfl (lv_room (Nat.le_of_ble_eq_true rfl)) dX2_hasForm_27 ⟨Nat.le_of_ble_eq_true rfl, Nat.le_of_ble_eq_true rfl⟩)) (fun r_6 er_6 => ?_)
      obtain ⟨k_7, k_8⟩ := er_6
      rcases iv_01 (a := r_6) (by omega) (by omega) with b_9 | b_9
      · skip
        have ib_9 := iv_eq b_9
        rw [b_9]
        refine lv_if_eq (tgt := 37) hx hb dX2_hasForm_30 (by decide) (fun c_10 => ?_) (fun c_10 => ?_)
        · skip
          have ic_10 := iv_eq c_10
          refine lv_iconst (v := 0) hx hb dX2_hasForm_37 (by decide) ?_
          exact W.zret hx hb hr rfl (fun t ht hW => ⟨_, rfl, ⟨(by omega), (by omega), (by first | exact fun h => absurd h (by omega) | exact fun _ => by rw [← hz]; omega)⟩, ht⟩) (fun q h => by cases h) dX2_hasForm_38
        · skip
          have ic_10 := iv_ne c_10
          exfalso
          omega
      · skip
        have ib_9 := iv_eq b_9
        rw [b_9]
        refine lv_if_eq (tgt := 37) hx hb dX2_hasForm_30 (by decide) (fun c_11 => ?_) (fun c_11 => ?_)
        · skip
          have ic_11 := iv_eq c_11
          exfalso
          omega
        · skip
          have ic_11 := iv_ne c_11
          refine lv_iconst (v := 1) hx hb dX2_hasForm_33 (by decide) ?_
          refine lv_goto (tgt := 38) hx hb dX2_hasForm_34 (by decide) ?_
          exact W.zret hx hb hr rfl (fun t ht hW => ⟨_, rfl, ⟨(by omega), (by omega), (by first | exact fun h => absurd h (by omega) | exact fun _ => by rw [← hz]; omega)⟩, ht⟩) (fun q h => by cases h) dX2_hasForm_38

set_option maxHeartbeats 4000000 in
set_option maxRecDepth 100000 in
theorem v_X2_state (l : Launch) (dC : Nat → ClassId) (dI : Nat → Nat → Nat) (c : Nat → Nat) (kc : Nat → ClassId) (st : Nat → Int32) (lg : Nat → Int64) (ai : Nat → Nat → Int32) (al : Nat → Nat → Int64) (R : va_W) (cap : Nat) (num : Nat → Int32) (x0 b0 j0 i0 : Nat) (m0 k0 : Int32) (f0 : Nat → Int32)  (sz : Nat) (hPI : PI (kc 98) (kc 0) (c 99) (st 13) cap num none R) (hj0 : R[j0]? = some (pgO x0 m0 b0 k0)) (hi0 : R[i0]? = some (pgB (kc 0) b0 f0)) : Met l yX2_state wsX2_state ({ frames := 3, cells := 0, slots := 0, locals := 76 }) (va_Pc [.ref x0] (fun U => U.heap.size = sz ∧ va_P (dC, dI) vwCl (cw_W c kc st lg ai al R) U.heap ∧ va_K (dC, dI) vwCl (cw_T kc) U ∧ va_D (fun _ => True) (cw_W c kc st lg ai al R))) (va_Qi (fun r (u : Int32) => r = u) (fun u t => ∃ (R9 : va_W), (u.toInt = 2 → pgRt (kc 0) R9 x0) ∧ (PI (kc 98) (kc 0) (c 99) (st 13) cap num none R9) ∧ (∀ y m, pgM (kc 0) R y m → pgM (kc 0) R9 y m) ∧ (va_D (va_A (cw_W c kc st lg ai al R) sz) (cw_W c kc st lg ai al R9)) ∧ va_P (dC, dI) vwCl (cw_W c kc st lg ai al R9) t.heap) (va_A (cw_W c kc st lg ai al R) sz)) 0 0 (va_A (cw_W c kc st lg ai al R) sz) := by
  refine Met.ofW (cc := cX2_state) (maxL := 1) (ret := (some .int)) (by decide) rfl ?_
  intro p e s m args below meth cM s₁ B hml hv
  obtain ⟨rfl, hsz, hP, hK, hD0⟩ := hv
  have hx := B.exec
  have hb := B.bytes
  have hr := B.returns
  have hts := atoms_spec (ws := wsX2_state) B.pre
  have hown : s.vm.findClass RX2 = some m.cls := findClass_of_methodNamed B.named
  subst hsz
  have hD := hD0.self (sz := s.heap.size)
  generalize hAe : va_A (cw_W c kc st lg ai al R) s.heap.size = A at hD ⊢
  have hA : ∀ q : Nat, s.heap.size ≤ q → A q := fun q h => by rw [← hAe]; exact Or.inr h
  have hS : va_S A s.heap s.heap [] := va_S.rf
  clear hAe hD0
  have hl := lv_entry ([.ref x0]) (n := 1) (Nat.le_of_ble_eq_true rfl)
  rw [lg_entry_eq]
  generalize (lg_sl ([.ref x0]) ++ List.replicate (1 - (lg_sl ([.ref x0])).length) Slot.unset).toArray = ls at hl ⊢
  have hl : lv_has ls 1 [(0, .ref x0)] := hl
  have z_0 : (0 : Int32).toInt = 0 := by decide
  have z_1 : (1 : Int32).toInt = 1 := by decide
  have z_2 : (2 : Int32).toInt = 2 := by decide
  have z_3 : (3 : Int32).toInt = 3 := by decide
  have z_4 : (4 : Int32).toInt = 4 := by decide
  have z_17 : (17 : Int32).toInt = 17 := by decide
  have z_25 : (25 : Int32).toInt = 25 := by decide
  have hin_X2 : ∀ w ∈ u_ws RX2 TX2 3, w ∈ wsX2_state := by decide +kernel
  have hM_x0 : pgM (kc 0) R x0 m0 := ⟨b0, k0, f0, ⟨j0, hj0⟩, i0, hi0⟩
  have hmono : ∀ y m, pgM (kc 0) R y m → pgM (kc 0) R y m := fun y m h => h
  have main : ∀ (H : Heap) (locs : List Loc), va_P (dC, dI) vwCl (cw_W c kc st lg ai al R) H → va_S A s.heap H locs → W p l e (headSpec wsX2_state ({ frames := 3, cells := 0, slots := 0, locals := 76 })).room s m ([.ref x0] : List Value).toArray below meth cM H locs 0 0 (MQ below (va_Qi (fun r (u : Int32) => r = u) (fun u t => ∃ (R9 : va_W), (u.toInt = 2 → pgRt (kc 0) R9 x0) ∧ (PI (kc 98) (kc 0) (c 99) (st 13) cap num none R9) ∧ (∀ y m, pgM (kc 0) R y m → pgM (kc 0) R9 y m) ∧ (va_D A (cw_W c kc st lg ai al R9)) ∧ va_P (dC, dI) vwCl (cw_W c kc st lg ai al R9) t.heap) A) ([.ref x0] : List Value).toArray s 0 0 A) (F0 m 0 ls []) := by
    intro H locs hP hS
    refine lv_aload_n hx hb dX2_state_0 rfl (lv_at hl 0 rfl) ?_
    refine va_get (D := (dC, dI)) (ci := 4) (v := .int k0) (C := RX2) (T := TX2) (N := 3) hx hb hts hin_X2 hown hK hP (26 + j0) (cw_at hj0) rfl 2 (by decide) (hts (.fieldLink RX2 19 "BlockLog$Page" "known" "I") (by decide +kernel)) (fun _ h9 => h9) rfl dX2_state_1 ?_
    refine lv_if_ne (tgt := 56) hx hb dX2_state_4 (by decide) (fun c_1 => ?_) (fun c_1 => ?_)
    · skip
      have ic_1 := iv_ne c_1
      refine lv_aload_n hx hb dX2_state_56 rfl (lv_at hl 0 rfl) ?_
      refine va_get (D := (dC, dI)) (ci := 4) (v := .int k0) (C := RX2) (T := TX2) (N := 3) hx hb hts hin_X2 hown hK hP (26 + j0) (cw_at hj0) rfl 2 (by decide) (hts (.fieldLink RX2 19 "BlockLog$Page" "known" "I") (by decide +kernel)) (fun _ h9 => h9) rfl dX2_state_57 ?_
      exact W.iret hx hb hr (fun t ht hW => ⟨⟨_, _, rfl, rfl, R, (fun h => PI_rt hPI hj0 hi0 (by omega)), hPI, hmono, (cw_D hD), by rw [ht]; exact hP⟩, hS.F ht⟩) hS.2.2 dX2_state_60
    · skip
      have ic_1 := iv_eq c_1
      refine lv_aload_n hx hb dX2_state_7 rfl (lv_at hl 0 rfl) ?_
      refine lv_aload_n hx hb dX2_state_8 rfl (lv_at hl 0 rfl) ?_
      refine va_get (D := (dC, dI)) (ci := 4) (v := .ref b0) (C := RX2) (T := TX2) (N := 3) hx hb hts hin_X2 hown hK hP (26 + j0) (cw_at hj0) rfl 1 (by decide) (hts (.fieldLink RX2 15 "BlockLog$Page" "bytes" "[B") (by decide +kernel)) (fun _ h9 => h9) rfl dX2_state_9 ?_
      refine lv_iconst (v := 0) hx hb dX2_state_12 (by decide) ?_
      refine lv_bipush (v := 17) hx hb dX2_state_13 (by decide) ?_
      refine lv_iconst (v := 3) hx hb dX2_state_15 (by decide) ?_
      refine vp_callSi (va_Run.run (va_runS (As := [.ref b0, .int (0 : Int32), .int (17 : Int32), .int (3 : Int32)]) (rest := [.ref x0]) ⟨hx, hb, hml, hown, hts⟩ (v_X0_judge l dC dI (cw_W c kc st lg ai al R) (cw_T kc) b0 26 (kc 0) f0 (26 + i0) 0 (0 : Int32) (17 : Int32) (3 : Int32) (cw_at hi0) rfl (by omega) (by omega) (by omega) (by omega) (by omega)) (va_cwS 4 hts gX2_state_X0_judge rfl rfl rfl (by decide +kernel) ⟨Nat.le_of_ble_eq_true rfl, Nat.le_of_ble_eq_true rfl⟩) ⟨fun a U g mk q => by obtain ⟨q0, qP, qK⟩ := q; exact ⟨q0, qP, va_K.moved (u := U) (U := U.calling g mk a) (Vm.Alike.refl U.vm) qK⟩, fun U hU hW => ⟨rfl, by rw [hU]; exact hP, va_K.moved hW.alike hK⟩⟩ rfl rfl hl.1 rfl (lv_room (Nat.le_of_ble_eq_true rfl)) dX2_state_16 ⟨Nat.le_of_ble_eq_true rfl, Nat.le_of_ble_eq_true rfl⟩)) (fun r_2 er_2 => ?_)
      obtain ⟨k_3, k_4⟩ := er_2
      refine va_put (D := (dC, dI)) (ci := 4) (v := .int r_2) (ty := .int) (C := RX2) (T := TX2) (N := 3) hx hb hts hin_X2 tyX2 tyX2_ok nmX2 hown hK hP (cw_D hD) hS (26 + j0) (cw_at hj0) rfl 2 (by decide) (hts (.fieldLink RX2 19 "BlockLog$Page" "known" "I") (by decide +kernel)) (fun _ h9 => h9) rfl (by decide +kernel) rfl rfl (Nat.le_of_ble_eq_true rfl) dX2_state_19 (fun H locs hP hD9 hS => ?_)
      obtain ⟨R_5, hP, hD, hPI1, hPI2, hmo, hj_5, hi_5⟩ := pg_setk (k' := r_2) hP hD9 hPI hj0 hi0 (Or.inl rfl)
      have hPI := hPI1
      have hM_x0 := hmo _ _ hM_x0
      have hmono : ∀ y m, pgM (kc 0) R y m → pgM (kc 0) R_5 y m := fun y m h => hmo y m (hmono y m h)
      have hP : va_P (dC, dI) vwCl (cw_W c kc st lg ai al R_5) H := hP
      refine lv_aload_n hx hb dX2_state_22 rfl (lv_at hl 0 rfl) ?_
      refine va_get (D := (dC, dI)) (ci := 4) (v := .int r_2) (C := RX2) (T := TX2) (N := 3) hx hb hts hin_X2 hown hK hP (26 + j0) (cw_at hj_5) rfl 2 (by decide) (hts (.fieldLink RX2 19 "BlockLog$Page" "known" "I") (by decide +kernel)) (fun _ h9 => h9) rfl dX2_state_23 ?_
      refine lv_iconst (v := 2) hx hb dX2_state_26 (by decide) ?_
      refine lv_icmp_ne (tgt := 56) hx hb dX2_state_27 (by decide) (fun c_6 => ?_) (fun c_6 => ?_)
      · skip
        have ic_6 := iv_ne c_6
        have hPI := PI_in hPI hj_5 hi_5 (by first | exact fun h => absurd h (by omega) | exact fun _ => hfo (by omega))
        refine lv_aload_n hx hb dX2_state_56 rfl (lv_at hl 0 rfl) ?_
        refine va_get (D := (dC, dI)) (ci := 4) (v := .int r_2) (C := RX2) (T := TX2) (N := 3) hx hb hts hin_X2 hown hK hP (26 + j0) (cw_at hj_5) rfl 2 (by decide) (hts (.fieldLink RX2 19 "BlockLog$Page" "known" "I") (by decide +kernel)) (fun _ h9 => h9) rfl dX2_state_57 ?_
        exact W.iret hx hb hr (fun t ht hW => ⟨⟨_, _, rfl, rfl, R_5, (fun h => PI_rt hPI hj_5 hi_5 (by omega)), hPI, hmono, (cw_D hD), by rw [ht]; exact hP⟩, hS.F ht⟩) hS.2.2 dX2_state_60
      · skip
        have ic_6 := iv_eq c_6
        refine lv_aload_n hx hb dX2_state_30 rfl (lv_at hl 0 rfl) ?_
        refine vp_callSi (va_Run.run (va_runV (As := []) (rest := []) ⟨hx, hb, hml, hown, hts⟩ (v_X2_hasForm l dC dI c kc st lg ai al R_5 x0 b0 j0 i0 m0 r_2 f0  hj_5 hi_5 ) (cwV 0 hts gX2_state_X2_hasForm rfl rfl rfl (by decide +kernel) ⟨Nat.le_of_ble_eq_true rfl, Nat.le_of_ble_eq_true rfl⟩) ⟨fun a U g mk q => by obtain ⟨q0, qP, qK⟩ := q; exact ⟨q0, qP, va_K.moved (u := U) (U := U.calling g mk a) (Vm.Alike.refl U.vm) qK⟩, va_recv hK hP (ci := 4) (q := (RX2, TX2, 3)) rfl (q0 := 26 + j0) (cw_at hj_5), fun U hU hW => ⟨rfl, by rw [hU]; exact hP, va_K.moved hW.alike hK⟩⟩ rfl rfl hl.1 rfl (lv_room (Nat.le_of_ble_eq_true rfl)) dX2_state_31 ⟨Nat.le_of_ble_eq_true rfl, Nat.le_of_ble_eq_true rfl⟩)) (fun r_7 er_7 => ?_)
        obtain ⟨k_8, k_9, hfo⟩ := er_7
        have hfo : r_7.toInt = 1 → 1 ≤ (f0 0).toInt ∧ (f0 0).toInt ≤ 16 := hfo
        rcases iv_01 (a := r_7) (by omega) (by omega) with b_10 | b_10
        · skip
          have ib_10 := iv_eq b_10
          rw [b_10]
          refine lv_if_ne (tgt := 56) hx hb dX2_state_34 (by decide) (fun c_11 => ?_) (fun c_11 => ?_)
          · skip
            have ic_11 := iv_ne c_11
            exfalso
            omega
          · skip
            have ic_11 := iv_eq c_11
            refine lv_aload_n hx hb dX2_state_37 rfl (lv_at hl 0 rfl) ?_
            refine lv_aload_n hx hb dX2_state_38 rfl (lv_at hl 0 rfl) ?_
            refine va_get (D := (dC, dI)) (ci := 4) (v := .ref b0) (C := RX2) (T := TX2) (N := 3) hx hb hts hin_X2 hown hK hP (26 + j0) (cw_at hj_5) rfl 1 (by decide) (hts (.fieldLink RX2 15 "BlockLog$Page" "bytes" "[B") (by decide +kernel)) (fun _ h9 => h9) rfl dX2_state_39 ?_
            refine lv_bipush (v := 25) hx hb dX2_state_42 (by decide) ?_
            refine va_bald (f := f0) hx hb hK hP (26 + i0) 0 (cw_at hi_5) rfl (iv_in (i := (25 : Int32)) (by omega) (by omega)) dX2_state_44 ?_
            refine lv_topi (fun v_12 ev_12 => ?_)
            clear ev_12
            refine lv_if_ne (tgt := 52) hx hb dX2_state_45 (by decide) (fun c_13 => ?_) (fun c_13 => ?_)
            · skip
              have ic_13 := iv_ne c_13
              refine lv_iconst (v := 4) hx hb dX2_state_52 (by decide) ?_
              refine va_put (D := (dC, dI)) (ci := 4) (v := .int (4 : Int32)) (ty := .int) (C := RX2) (T := TX2) (N := 3) hx hb hts hin_X2 tyX2 tyX2_ok nmX2 hown hK hP (cw_D hD) hS (26 + j0) (cw_at hj_5) rfl 2 (by decide) (hts (.fieldLink RX2 19 "BlockLog$Page" "known" "I") (by decide +kernel)) (fun _ h9 => h9) rfl (by decide +kernel) rfl rfl (Nat.le_of_ble_eq_true rfl) dX2_state_53 (fun H locs hP hD9 hS => ?_)
              obtain ⟨R_14, hP, hD, hPI1, hPI2, hmo, hj_14, hi_14⟩ := pg_setk (k' := (4 : Int32)) hP hD9 hPI hj_5 hi_5 (Or.inr rfl)
              have hPI := hPI2 (by decide)
              have hM_x0 := hmo _ _ hM_x0
              have hmono : ∀ y m, pgM (kc 0) R y m → pgM (kc 0) R_14 y m := fun y m h => hmo y m (hmono y m h)
              have hP : va_P (dC, dI) vwCl (cw_W c kc st lg ai al R_14) H := hP
              refine lv_aload_n hx hb dX2_state_56 rfl (lv_at hl 0 rfl) ?_
              refine va_get (D := (dC, dI)) (ci := 4) (v := .int (4 : Int32)) (C := RX2) (T := TX2) (N := 3) hx hb hts hin_X2 hown hK hP (26 + j0) (cw_at hj_14) rfl 2 (by decide) (hts (.fieldLink RX2 19 "BlockLog$Page" "known" "I") (by decide +kernel)) (fun _ h9 => h9) rfl dX2_state_57 ?_
              exact W.iret hx hb hr (fun t ht hW => ⟨⟨_, _, rfl, rfl, R_14, (fun h => PI_rt hPI hj_14 hi_14 (by omega)), hPI, hmono, (cw_D hD), by rw [ht]; exact hP⟩, hS.F ht⟩) hS.2.2 dX2_state_60
            · skip
              have ic_13 := iv_eq c_13
              refine lv_iconst (v := 3) hx hb dX2_state_48 (by decide) ?_
              refine lv_goto (tgt := 53) hx hb dX2_state_49 (by decide) ?_
              refine va_put (D := (dC, dI)) (ci := 4) (v := .int (3 : Int32)) (ty := .int) (C := RX2) (T := TX2) (N := 3) hx hb hts hin_X2 tyX2 tyX2_ok nmX2 hown hK hP (cw_D hD) hS (26 + j0) (cw_at hj_5) rfl 2 (by decide) (hts (.fieldLink RX2 19 "BlockLog$Page" "known" "I") (by decide +kernel)) (fun _ h9 => h9) rfl (by decide +kernel) rfl rfl (Nat.le_of_ble_eq_true rfl) dX2_state_53 (fun H locs hP hD9 hS => ?_)
              obtain ⟨R_15, hP, hD, hPI1, hPI2, hmo, hj_15, hi_15⟩ := pg_setk (k' := (3 : Int32)) hP hD9 hPI hj_5 hi_5 (Or.inr rfl)
              have hPI := hPI2 (by decide)
              have hM_x0 := hmo _ _ hM_x0
              have hmono : ∀ y m, pgM (kc 0) R y m → pgM (kc 0) R_15 y m := fun y m h => hmo y m (hmono y m h)
              have hP : va_P (dC, dI) vwCl (cw_W c kc st lg ai al R_15) H := hP
              refine lv_aload_n hx hb dX2_state_56 rfl (lv_at hl 0 rfl) ?_
              refine va_get (D := (dC, dI)) (ci := 4) (v := .int (3 : Int32)) (C := RX2) (T := TX2) (N := 3) hx hb hts hin_X2 hown hK hP (26 + j0) (cw_at hj_15) rfl 2 (by decide) (hts (.fieldLink RX2 19 "BlockLog$Page" "known" "I") (by decide +kernel)) (fun _ h9 => h9) rfl dX2_state_57 ?_
              exact W.iret hx hb hr (fun t ht hW => ⟨⟨_, _, rfl, rfl, R_15, (fun h => PI_rt hPI hj_15 hi_15 (by omega)), hPI, hmono, (cw_D hD), by rw [ht]; exact hP⟩, hS.F ht⟩) hS.2.2 dX2_state_60
        · skip
          have ib_10 := iv_eq b_10
          rw [b_10]
          refine lv_if_ne (tgt := 56) hx hb dX2_state_34 (by decide) (fun c_16 => ?_) (fun c_16 => ?_)
          · skip
            have ic_16 := iv_ne c_16
            have hPI := PI_in hPI hj_5 hi_5 (by first | exact fun h => absurd h (by omega) | exact fun _ => hfo (by omega))
            refine lv_aload_n hx hb dX2_state_56 rfl (lv_at hl 0 rfl) ?_
            refine va_get (D := (dC, dI)) (ci := 4) (v := .int r_2) (C := RX2) (T := TX2) (N := 3) hx hb hts hin_X2 hown hK hP (26 + j0) (cw_at hj_5) rfl 2 (by decide) (hts (.fieldLink RX2 19 "BlockLog$Page" "known" "I") (by decide +kernel)) (fun _ h9 => h9) rfl dX2_state_57 ?_
            exact W.iret hx hb hr (fun t ht hW => ⟨⟨_, _, rfl, rfl, R_5, (fun h => PI_rt hPI hj_5 hi_5 (by omega)), hPI, hmono, (cw_D hD), by rw [ht]; exact hP⟩, hS.F ht⟩) hS.2.2 dX2_state_60
          · skip
            have ic_16 := iv_eq c_16
            exfalso
            omega
  exact main s.heap [] hP hS

set_option maxHeartbeats 4000000 in
set_option maxRecDepth 100000 in
theorem v_Jx4a65c_elementData_915e3 (l : Launch) (dC : Nat → ClassId) (dI : Nat → Nat → Nat) (c : Nat → Nat) (kc : Nat → ClassId) (st : Nat → Int32) (lg : Nat → Int64) (ai : Nat → Nat → Int32) (al : Nat → Nat → Int64) (R : va_W) (cap : Nat) (num : Nat → Int32) (p0 : Int32) (hPI : PI (kc 98) (kc 0) (c 99) (st 13) cap num none R) (hf13a : 0 ≤ (st 13).toInt) (hf13b : (st 13).toInt ≤ 65536) (hq0 : 0 ≤ p0.toInt) (hq1 : p0.toInt < (st 13).toInt) : Met l yJx4a65c_elementData_915e3 wsJx4a65c_elementData_915e3 ({ frames := 0, cells := 0, slots := 0, locals := 0 }) (va_Pc [.ref (c 103), .int p0] (fun U => va_P (dC, dI) vwCl (cw_W c kc st lg ai al R) U.heap ∧ va_K (dC, dI) vwCl (cw_T kc) U)) (va_Sq (fun r => (∀ x, r = some x → ∃ m, pgM (kc 0) R x m ∧ m = num p0.toNatClampNeg) ∧ (r ≠ none))) 0 0 (fun _ => False) := by
  refine Met.ofW (cc := cJx4a65c_elementData_915e3) (maxL := 2) (ret := (some (.object "java/lang/Object"))) (by decide) rfl ?_
  intro p e s m args below meth cM s₁ B hml hv
  obtain ⟨rfl, hP, hK⟩ := hv
  have hx := B.exec
  have hb := B.bytes
  have hr := B.returns
  have hts := atoms_spec (ws := wsJx4a65c_elementData_915e3) B.pre
  have hown : s.vm.findClass RJx4a65c = some m.cls := findClass_of_methodNamed B.named
  have hl := lv_entry ([.ref (c 103), .int p0]) (n := 2) (Nat.le_of_ble_eq_true rfl)
  rw [lg_entry_eq]
  generalize (lg_sl ([.ref (c 103), .int p0]) ++ List.replicate (2 - (lg_sl ([.ref (c 103), .int p0])).length) Slot.unset).toArray = ls at hl ⊢
  have hl : lv_has ls 2 [(0, .ref (c 103)), (1, .int p0)] := hl
  have hin_Jx4a65c : ∀ w ∈ u_ws RJx4a65c TJx4a65c 3, w ∈ wsJx4a65c_elementData_915e3 := by decide +kernel
  refine lv_aload_n hx hb dJx4a65c_elementData_915e3_0 rfl (lv_at hl 0 rfl) ?_
  refine va_get (D := (dC, dI)) (ci := 2) (v := .ref (c 99)) (C := RJx4a65c) (T := TJx4a65c) (N := 3) hx hb hts hin_Jx4a65c hown hK hP 3 rfl rfl 1 (by decide) (hts (.fieldLink RJx4a65c 9 "java/util/ArrayList" "elementData" "[Ljava/lang/Object;") (by decide +kernel)) (fun _ h9 => h9) rfl dJx4a65c_elementData_915e3_1 ?_
  refine lv_iload_n hx hb dJx4a65c_elementData_915e3_4 rfl (lv_at hl 1 rfl) ?_
  obtain ⟨j_1, a_1, x_1, hj_1, ha_1, hM_x_1⟩ := PI_get hPI (i := p0) (by omega) (by omega)
  have hc9 := hPI.2.2.2.1
  refine va_aldq (f := a_1) hx hb hK hP (26 + j_1) 18 (cw_at hj_1) rfl (iv_in (i := p0) (by omega) (by omega)) dJx4a65c_elementData_915e3_5 ?_
  rw [ha_1]
  refine W.eq (g2 := F0 m 6 ls [.ref x_1]) rfl ?_
  exact W.aret hx hb hr (Or.inl ⟨_, rfl⟩) (Or.inr ⟨_, rfl⟩) (fun t ht hW => ⟨some x_1, rfl, ⟨(fun x h => by cases h; exact ⟨_, hM_x_1, rfl⟩), (fun h => by cases h)⟩, ht⟩) (fun q h => by cases h) dJx4a65c_elementData_915e3_6

set_option maxHeartbeats 4000000 in
set_option maxRecDepth 100000 in
theorem v_Jx4a65c_get_915e3 (l : Launch) (dC : Nat → ClassId) (dI : Nat → Nat → Nat) (c : Nat → Nat) (kc : Nat → ClassId) (st : Nat → Int32) (lg : Nat → Int64) (ai : Nat → Nat → Int32) (al : Nat → Nat → Int64) (R : va_W) (cap : Nat) (num : Nat → Int32) (p0 : Int32) (hPI : PI (kc 98) (kc 0) (c 99) (st 13) cap num none R) (hf13a : 0 ≤ (st 13).toInt) (hf13b : (st 13).toInt ≤ 65536) (hq0 : 0 ≤ p0.toInt) (hq1 : p0.toInt < (st 13).toInt) : Met l yJx4a65c_get_915e3 wsJx4a65c_get_915e3 ({ frames := 2, cells := 0, slots := 0, locals := 43 }) (va_Pc [.ref (c 103), .int p0] (fun U => va_P (dC, dI) vwCl (cw_W c kc st lg ai al R) U.heap ∧ va_K (dC, dI) vwCl (cw_T kc) U)) (va_Sq (fun r => (∀ x, r = some x → ∃ m, pgM (kc 0) R x m ∧ m = num p0.toNatClampNeg) ∧ (r ≠ none))) 0 0 (fun _ => False) := by
  refine Met.ofW (cc := cJx4a65c_get_915e3) (maxL := 2) (ret := (some (.object "java/lang/Object"))) (by decide) rfl ?_
  intro p e s m args below meth cM s₁ B hml hv
  obtain ⟨rfl, hP, hK⟩ := hv
  have hx := B.exec
  have hb := B.bytes
  have hr := B.returns
  have hts := atoms_spec (ws := wsJx4a65c_get_915e3) B.pre
  have hown : s.vm.findClass RJx4a65c = some m.cls := findClass_of_methodNamed B.named
  have hl := lv_entry ([.ref (c 103), .int p0]) (n := 2) (Nat.le_of_ble_eq_true rfl)
  rw [lg_entry_eq]
  generalize (lg_sl ([.ref (c 103), .int p0]) ++ List.replicate (2 - (lg_sl ([.ref (c 103), .int p0])).length) Slot.unset).toArray = ls at hl ⊢
  have hl : lv_has ls 2 [(0, .ref (c 103)), (1, .int p0)] := hl
  have hin_Jx4a65c : ∀ w ∈ u_ws RJx4a65c TJx4a65c 3, w ∈ wsJx4a65c_get_915e3 := by decide +kernel
  refine lv_iload_n hx hb dJx4a65c_get_915e3_0 rfl (lv_at hl 1 rfl) ?_
  refine lv_aload_n hx hb dJx4a65c_get_915e3_1 rfl (lv_at hl 0 rfl) ?_
  refine va_get (D := (dC, dI)) (ci := 2) (v := .int (st 13)) (C := RJx4a65c) (T := TJx4a65c) (N := 3) hx hb hts hin_Jx4a65c hown hK hP 3 rfl rfl 2 (by decide) (hts (.fieldLink RJx4a65c 48 "java/util/ArrayList" "size" "I") (by decide +kernel)) (fun _ h9 => h9) rfl dJx4a65c_get_915e3_2 ?_
  refine vp_callSi (va_Run.run (va_runS (As := [.int p0, .int (st 13)]) (rest := []) ⟨hx, hb, hml, hown, hts⟩ (v_J15_checkIndex_7cf53 l dC dI p0 (st 13) (by omega) (by omega)) (va_cwS 2 hts gJx4a65c_get_915e3_J15_checkIndex_7cf53 rfl rfl rfl (by decide +kernel) ⟨Nat.le_of_ble_eq_true rfl, Nat.le_of_ble_eq_true rfl⟩) ⟨fun a U g mk q => q, fun U hU hW => ⟨rfl, trivial⟩⟩ rfl rfl hl.1 rfl (lv_room (Nat.le_of_ble_eq_true rfl)) dJx4a65c_get_915e3_5 ⟨Nat.le_of_ble_eq_true rfl, Nat.le_of_ble_eq_true rfl⟩)) (fun r_1 er_1 => ?_)
  have k_2 := er_1
  refine lv_pop hx hb dJx4a65c_get_915e3_8 rfl ?_
  refine lv_aload_n hx hb dJx4a65c_get_915e3_9 rfl (lv_at hl 0 rfl) ?_
  refine lv_iload_n hx hb dJx4a65c_get_915e3_10 rfl (lv_at hl 1 rfl) ?_
  refine va_csq (va_Run.run (va_runV (As := [.int p0]) (rest := []) ⟨hx, hb, hml, hown, hts⟩ (v_Jx4a65c_elementData_915e3 l dC dI c kc st lg ai al R cap num p0 hPI (show 0 ≤ (st 13).toInt by omega) (show (st 13).toInt ≤ 65536 by omega) (by omega) (show p0.toInt < (st 13).toInt by omega)) (cwV 1 hts gJx4a65c_get_915e3_Jx4a65c_elementData_915e3 rfl rfl rfl (by decide +kernel) ⟨Nat.le_of_ble_eq_true rfl, Nat.le_of_ble_eq_true rfl⟩) ⟨fun a U g mk q => by obtain ⟨q0, qP, qK⟩ := q; exact ⟨q0, qP, va_K.moved (u := U) (U := U.calling g mk a) (Vm.Alike.refl U.vm) qK⟩, va_recv hK hP (ci := 2) (q := (RJx4a65c, TJx4a65c, 3)) rfl (q0 := 3) rfl, fun U hU hW => ⟨rfl, by rw [hU]; exact hP, va_K.moved hW.alike hK⟩⟩ rfl rfl hl.1 rfl (lv_room (Nat.le_of_ble_eq_true rfl)) dJx4a65c_get_915e3_11 ⟨Nat.le_of_ble_eq_true rfl, Nat.le_of_ble_eq_true rfl⟩)) (fun r_3 er_3 => ?_)
  obtain ⟨hq, hnn⟩ := er_3
  have hq : ∀ x, r_3 = some x → ∃ m, pgM (kc 0) R x m ∧ m = num p0.toNatClampNeg := hq
  have hnn : r_3 ≠ none := hnn
  rcases r_3 with _ | x_4
  · skip
    exact absurd rfl hnn
  · skip
    refine W.eq (g2 := F0 m 14 ls [.ref x_4]) rfl ?_
    obtain ⟨m_5, hM_x_4, hQ⟩ := hq x_4 rfl
    exact W.aret hx hb hr (Or.inl ⟨_, rfl⟩) (Or.inr ⟨_, rfl⟩) (fun t ht hW => ⟨some x_4, rfl, ⟨(fun x h => by cases h; exact ⟨_, hM_x_4, hQ⟩), (fun h => by cases h)⟩, ht⟩) (fun q h => by cases h) dJx4a65c_get_915e3_14

set_option maxHeartbeats 4000000 in
set_option maxRecDepth 100000 in
theorem v_X1_position (l : Launch) (dC : Nat → ClassId) (dI : Nat → Nat → Nat) (c : Nat → Nat) (kc : Nat → ClassId) (st : Nat → Int32) (lg : Nat → Int64) (ai : Nat → Nat → Int32) (al : Nat → Nat → Int64) (R : va_W) (cap : Nat) (num : Nat → Int32) (p0 : Int32) (hPI : PI (kc 98) (kc 0) (c 99) (st 13) cap num none R) (hf13a : 0 ≤ (st 13).toInt) (hf13b : (st 13).toInt ≤ 65536) : Met l yX1_position wsX1_position ({ frames := 3, cells := 0, slots := 0, locals := 64 }) (va_Pc [.ref (c 102), .int p0] (fun U => va_P (dC, dI) vwCl (cw_W c kc st lg ai al R) U.heap ∧ va_K (dC, dI) vwCl (cw_T kc) U ∧ gx_W U)) (vp_Si (fun r => (0 ≤ r.toInt) ∧ (r.toInt ≤ (st 13).toInt) ∧ (loI num r p0) ∧ (hiI num r (st 13) p0))) 0 0 (fun _ => False) := by
  refine Met.ofW (cc := cX1_position) (maxL := 6) (ret := (some .int)) (by decide) rfl ?_
  intro p e s m args below meth cM s₁ B hml hv
  obtain ⟨rfl, hP, hK, hG⟩ := hv
  have hx := B.exec
  have hb := B.bytes
  have hr := B.returns
  have hts := atoms_spec (ws := wsX1_position) B.pre
  have hown : s.vm.findClass RX1 = some m.cls := findClass_of_methodNamed B.named
  have hGW := hG
  have hl := lv_entry ([.ref (c 102), .int p0]) (n := 6) (Nat.le_of_ble_eq_true rfl)
  rw [lg_entry_eq]
  generalize (lg_sl ([.ref (c 102), .int p0]) ++ List.replicate (6 - (lg_sl ([.ref (c 102), .int p0])).length) Slot.unset).toArray = ls at hl ⊢
  have hl : lv_has ls 6 [(0, .ref (c 102)), (1, .int p0)] := hl
  have z_0 : (0 : Int32).toInt = 0 := by decide
  have z_1 : (1 : Int32).toInt = 1 := by decide
  have z_32 : (32 : Int32).toInt = 32 := by decide
  have hin_X1 : ∀ w ∈ u_ws RX1 TX1 7, w ∈ wsX1_position := by decide +kernel
  have hin_X2 : ∀ w ∈ u_ws RX2 TX2 3, w ∈ wsX1_position := by decide +kernel
  refine lv_iconst (v := 0) hx hb dX1_position_0 (by decide) ?_
  refine lv_istore_n (lv' := [(2, .int (0 : Int32)), (0, .ref (c 102)), (1, .int p0)]) hx hb dX1_position_1 rfl hl (by decide) rfl (fun ls hl => ?_)
  refine lv_aload_n hx hb dX1_position_2 rfl (lv_at hl 1 rfl) ?_
  refine va_get (D := (dC, dI)) (ci := 3) (v := .ref (c 103)) (C := RX1) (T := TX1) (N := 7) hx hb hts hin_X1 hown hK hP 2 rfl rfl 3 (by decide) (hts (.fieldLink RX1 25 "BlockLog$Disk" "touched" "Ljava/util/ArrayList;") (by decide +kernel)) (fun _ h9 => h9) rfl dX1_position_3 ?_
  refine vp_callSi (va_Run.run (va_runV (As := []) (rest := []) ⟨hx, hb, hml, hown, hts⟩ (v_Jx4a65c_size_8abf5 l dC dI c kc st lg ai al R  (show 0 ≤ (st 13).toInt by omega) (show (st 13).toInt ≤ 65536 by omega)) (cwV 0 hts gX1_position_Jx4a65c_size_8abf5 rfl rfl rfl (by decide +kernel) ⟨Nat.le_of_ble_eq_true rfl, Nat.le_of_ble_eq_true rfl⟩) ⟨fun a U g mk q => by obtain ⟨q0, qP, qK⟩ := q; exact ⟨q0, qP, va_K.moved (u := U) (U := U.calling g mk a) (Vm.Alike.refl U.vm) qK⟩, va_recv hK hP (ci := 2) (q := (RJx4a65c, TJx4a65c, 3)) rfl (q0 := 3) rfl, fun U hU hW => ⟨rfl, by rw [hU]; exact hP, va_K.moved hW.alike hK⟩⟩ rfl rfl hl.1 rfl (lv_room (Nat.le_of_ble_eq_true rfl)) dX1_position_6 ⟨Nat.le_of_ble_eq_true rfl, Nat.le_of_ble_eq_true rfl⟩)) (fun r_1 er_1 => ?_)
  have k_2 := er_1
  have k_2 : r_1.toInt = (st 13).toInt := k_2
  refine lv_istore_n (lv' := [(3, .int r_1), (2, .int (0 : Int32)), (0, .ref (c 102)), (1, .int p0)]) hx hb dX1_position_9 rfl hl (by decide) rfl (fun ls hl => ?_)
  refine lv_iconst (v := 0) hx hb dX1_position_10 (by decide) ?_
  refine lv_istore (lv' := [(4, .int (0 : Int32)), (3, .int r_1), (2, .int (0 : Int32)), (0, .ref (c 102)), (1, .int p0)]) hx hb dX1_position_11 hl (by decide) rfl (fun ls hl => ?_)
  have loop13 : ∀ (n : Nat) (l4_13 : Int32) (l3_13 : Int32) (l2_13 : Int32) (ls : Array Slot), (0 ≤ l2_13.toInt) → (l2_13.toInt ≤ l3_13.toInt) → (l3_13.toInt ≤ (st 13).toInt) → (0 ≤ l4_13.toInt) → (l4_13.toInt ≤ 32) → (loI num l2_13 p0) → (hiI num l3_13 (st 13) p0) → ((l3_13.toInt - l2_13.toInt).toNat ≤ 65536 / 2 ^ l4_13.toInt.toNat) → (32 - l4_13.toInt : Int).toNat < n → lv_has ls 6 [(4, .int l4_13), (3, .int l3_13), (2, .int l2_13), (0, .ref (c 102)), (1, .int p0)] → W p l e (headSpec wsX1_position ({ frames := 3, cells := 0, slots := 0, locals := 64 })).room s m ([.ref (c 102), .int p0] : List Value).toArray below meth cM s.heap [] 0 0 (MQ below (vp_Si (fun r => (0 ≤ r.toInt) ∧ (r.toInt ≤ (st 13).toInt) ∧ (loI num r p0) ∧ (hiI num r (st 13) p0))) ([.ref (c 102), .int p0] : List Value).toArray s 0 0 (fun _ => False)) (F0 m 13 ls []) := by
    intro n
    induction n with
    | zero => intro l4_13 l3_13 l2_13 ls if0_13 if1_13 if2_13 if3_13 if4_13 hlo hhi hst hm; exact absurd hm (Nat.not_lt_zero _)
    | succ n ih13 =>
      intro l4_13 l3_13 l2_13 ls if0_13 if1_13 if2_13 if3_13 if4_13 hlo hhi hst hm13 hl
      refine lv_iload hx hb dX1_position_13 (lv_at hl 0 rfl) ?_
      refine lv_bipush (v := 32) hx hb dX1_position_15 (by decide) ?_
      refine lv_icmp_ge (tgt := 68) hx hb dX1_position_17 (by decide) (fun c_3 => ?_) (fun c_3 => ?_)
      · skip
        have ic_3 := iv_le c_3
        have k_4 : l3_13.toInt = l2_13.toInt := (st_e hst (by omega) (by omega))
        refine lv_iload_n hx hb dX1_position_68 rfl (lv_at hl 2 rfl) ?_
        exact W.iret hx hb hr (fun t ht hW => ⟨_, rfl, ⟨(by omega), (by omega), (by first | exact hlo), (hi_e hhi (by omega))⟩, ht⟩) (fun q h => by cases h) dX1_position_69
      · skip
        have ic_3 := iv_nle c_3
        refine lv_iload_n hx hb dX1_position_20 rfl (lv_at hl 2 rfl) ?_
        refine lv_iload_n hx hb dX1_position_21 rfl (lv_at hl 1 rfl) ?_
        refine lv_icmp_ge (tgt := 68) hx hb dX1_position_22 (by decide) (fun c_5 => ?_) (fun c_5 => ?_)
        · skip
          have ic_5 := iv_le c_5
          have k_6 : l3_13.toInt = l2_13.toInt := (st_e hst (by omega) (by omega))
          refine lv_iload_n hx hb dX1_position_68 rfl (lv_at hl 2 rfl) ?_
          exact W.iret hx hb hr (fun t ht hW => ⟨_, rfl, ⟨(by omega), (by omega), (by first | exact hlo), (hi_e hhi (by omega))⟩, ht⟩) (fun q h => by cases h) dX1_position_69
        · skip
          have ic_5 := iv_nle c_5
          refine lv_iload_n hx hb dX1_position_25 rfl (lv_at hl 2 rfl) ?_
          refine lv_iload_n hx hb dX1_position_26 rfl (lv_at hl 1 rfl) ?_
          refine lv_iadd hx hb dX1_position_27 ?_
          refine lv_topi (fun v_7 ev_7 => ?_)
          have rg1 := iv_rng l2_13
          have rg2 := iv_rng l3_13
          have hv_7 : v_7.toInt = l2_13.toInt + l3_13.toInt := by rw [ev_7]; exact (iv_add (by omega) (by omega)).trans (by omega)
          clear ev_7
          refine lv_iconst (v := 1) hx hb dX1_position_28 (by decide) ?_
          refine lv_iushr hx hb dX1_position_29 rfl ?_
          refine lv_topi (fun v_8 ev_8 => ?_)
          have hv_8 : v_8.toInt = v_7.toInt / 2 := by rw [ev_8]; exact iv_ushr1 (by omega)
          clear ev_8
          refine lv_istore (lv' := [(5, .int v_8), (4, .int l4_13), (3, .int l3_13), (2, .int l2_13), (0, .ref (c 102)), (1, .int p0)]) hx hb dX1_position_30 hl (by decide) rfl (fun ls hl => ?_)
          refine lv_aload_n hx hb dX1_position_32 rfl (lv_at hl 4 rfl) ?_
          refine va_get (D := (dC, dI)) (ci := 3) (v := .ref (c 103)) (C := RX1) (T := TX1) (N := 7) hx hb hts hin_X1 hown hK hP 2 rfl rfl 3 (by decide) (hts (.fieldLink RX1 25 "BlockLog$Disk" "touched" "Ljava/util/ArrayList;") (by decide +kernel)) (fun _ h9 => h9) rfl dX1_position_33 ?_
          refine lv_iload hx hb dX1_position_36 (lv_at hl 0 rfl) ?_
          refine va_csq (va_Run.run (va_runV (As := [.int v_8]) (rest := []) ⟨hx, hb, hml, hown, hts⟩ (v_Jx4a65c_get_915e3 l dC dI c kc st lg ai al R cap num v_8 hPI (show 0 ≤ (st 13).toInt by omega) (show (st 13).toInt ≤ 65536 by omega) (by omega) (show v_8.toInt < (st 13).toInt by omega)) (cwV 1 hts gX1_position_Jx4a65c_get_915e3 rfl rfl rfl (by decide +kernel) ⟨Nat.le_of_ble_eq_true rfl, Nat.le_of_ble_eq_true rfl⟩) ⟨fun a U g mk q => by obtain ⟨q0, qP, qK⟩ := q; exact ⟨q0, qP, va_K.moved (u := U) (U := U.calling g mk a) (Vm.Alike.refl U.vm) qK⟩, va_recv hK hP (ci := 2) (q := (RJx4a65c, TJx4a65c, 3)) rfl (q0 := 3) rfl, fun U hU hW => ⟨rfl, by rw [hU]; exact hP, va_K.moved hW.alike hK⟩⟩ rfl rfl hl.1 rfl (lv_room (Nat.le_of_ble_eq_true rfl)) dX1_position_38 ⟨Nat.le_of_ble_eq_true rfl, Nat.le_of_ble_eq_true rfl⟩)) (fun r_9 er_9 => ?_)
          obtain ⟨hq, hnn⟩ := er_9
          have hq : ∀ x, r_9 = some x → ∃ m, pgM (kc 0) R x m ∧ m = num v_8.toNatClampNeg := hq
          have hnn : r_9 ≠ none := hnn
          rcases r_9 with _ | x_10
          · skip
            exact absurd rfl hnn
          · skip
            refine W.eq (g2 := F0 m 41 ls [.ref x_10]) rfl ?_
            obtain ⟨m_11, hM_x_10, hQ⟩ := hq x_10 rfl
            have hMo := hM_x_10
            obtain ⟨b_12, k9_12, f9_12, ⟨j_12, hj_12⟩, i_12, hi_12⟩ := hMo
            refine va_castY hx hb hown (hts (.classLink RX1 44 "BlockLog$Page") (by decide +kernel)) (hGW.2.2.1 "BlockLog$Page" (by decide)) (va_recv hK hP (ci := 4) (q := (RX2, TX2, 3)) rfl (q0 := 26 + j_12) (cw_at hj_12)) dX1_position_41 ?_
            refine va_getN (D := (dC, dI)) (ci := 4) (v := .int m_11) (C := RX2) (T := TX2) (N := 3) hx hb hts hin_X2 hown hK hP (26 + j_12) (cw_at hj_12) rfl 0 (by decide) (va_Nw.use rfl (hGW.1 ("BlockLog$Disk", 76, "BlockLog$Page", "number", "I", "BlockLog") (by decide +kernel))) (fun _ h9 => h9) rfl dX1_position_44 ?_
            refine lv_iload_n hx hb dX1_position_47 rfl (lv_at hl 5 rfl) ?_
            refine lv_icmp_ge (tgt := 59) hx hb dX1_position_48 (by decide) (fun c_13 => ?_) (fun c_13 => ?_)
            · skip
              have ic_13 := iv_le c_13
              refine lv_iload hx hb dX1_position_59 (lv_at hl 0 rfl) ?_
              refine lv_istore_n (lv' := [(3, .int v_8), (5, .int v_8), (4, .int l4_13), (2, .int l2_13), (0, .ref (c 102)), (1, .int p0)]) hx hb dX1_position_61 rfl hl (by decide) rfl (fun ls hl => ?_)
              obtain ⟨x_14, ex_14⟩ : ∃ z : Int32, z = l4_13 + (1) := ⟨_, rfl⟩
              refine lv_iinc (v := x_14) (lv' := [(4, .int x_14), (3, .int v_8), (5, .int v_8), (2, .int l2_13), (0, .ref (c 102)), (1, .int p0)]) hx hb dX1_position_62 hl (k := 2) rfl (by rw [ex_14]; rfl) (by decide) rfl (fun ls hl => ?_)
              have rg3 := iv_rng l4_13
              have hx_14 : x_14.toInt = l4_13.toInt + (1) := by rw [ex_14]; exact (iv_add (by omega) (by omega)).trans (by omega)
              clear ex_14
              refine lv_goto (tgt := 13) hx hb dX1_position_65 (by decide) ?_
              exact ih13 x_14 v_8 l2_13 _ (by omega) (by omega) (by omega) (by omega) (by omega) (by first | exact lo_s hPI.2.2.2.2.1 hQ (by omega) (by omega) (by omega) (by omega) | exact hlo) (by first | exact hi_s hPI.2.2.2.2.1 hQ (by omega) (by omega) | exact hhi) (st_s hst (by omega) (by omega) (by omega)) (by omega) (lv_sub hl [0, 1, 3, 4, 5] rfl)
            · skip
              have ic_13 := iv_nle c_13
              refine lv_iload hx hb dX1_position_51 (lv_at hl 0 rfl) ?_
              refine lv_iconst (v := 1) hx hb dX1_position_53 (by decide) ?_
              refine lv_iadd hx hb dX1_position_54 ?_
              refine lv_topi (fun v_15 ev_15 => ?_)
              have rg4 := iv_rng v_8
              have hv_15 : v_15.toInt = v_8.toInt + 1 := by rw [ev_15]; exact (iv_add (by omega) (by omega)).trans (by omega)
              clear ev_15
              refine lv_istore_n (lv' := [(2, .int v_15), (5, .int v_8), (4, .int l4_13), (3, .int l3_13), (0, .ref (c 102)), (1, .int p0)]) hx hb dX1_position_55 rfl hl (by decide) rfl (fun ls hl => ?_)
              refine lv_goto (tgt := 62) hx hb dX1_position_56 (by decide) ?_
              obtain ⟨x_16, ex_16⟩ : ∃ z : Int32, z = l4_13 + (1) := ⟨_, rfl⟩
              refine lv_iinc (v := x_16) (lv' := [(4, .int x_16), (2, .int v_15), (5, .int v_8), (3, .int l3_13), (0, .ref (c 102)), (1, .int p0)]) hx hb dX1_position_62 hl (k := 2) rfl (by rw [ex_16]; rfl) (by decide) rfl (fun ls hl => ?_)
              have rg5 := iv_rng l4_13
              have hx_16 : x_16.toInt = l4_13.toInt + (1) := by rw [ex_16]; exact (iv_add (by omega) (by omega)).trans (by omega)
              clear ex_16
              refine lv_goto (tgt := 13) hx hb dX1_position_65 (by decide) ?_
              exact ih13 x_16 l3_13 v_15 _ (by omega) (by omega) (by omega) (by omega) (by omega) (by first | exact lo_s hPI.2.2.2.2.1 hQ (by omega) (by omega) (by omega) (by omega) | exact hlo) (by first | exact hi_s hPI.2.2.2.2.1 hQ (by omega) (by omega) | exact hhi) (st_s hst (by omega) (by omega) (by omega)) (by omega) (lv_sub hl [0, 3, 1, 4, 5] rfl)
  exact loop13 ((32 - 0 : Int).toNat + 1) (0 : Int32) r_1 (0 : Int32) _ (by omega) (by omega) (by omega) (by omega) (by omega) (lo_0 (by omega)) (hi_0 (by omega)) (st_0 (by omega) (by omega)) (by omega) (lv_sub hl [0, 1, 2, 3, 4] rfl)

set_option maxHeartbeats 4000000 in
set_option maxRecDepth 100000 in
theorem v_X1_find (l : Launch) (dC : Nat → ClassId) (dI : Nat → Nat → Nat) (c : Nat → Nat) (kc : Nat → ClassId) (st : Nat → Int32) (lg : Nat → Int64) (ai : Nat → Nat → Int32) (al : Nat → Nat → Int64) (R : va_W) (cap : Nat) (num : Nat → Int32) (p0 : Int32) (hPI : PI (kc 98) (kc 0) (c 99) (st 13) cap num none R) (hf13a : 0 ≤ (st 13).toInt) (hf13b : (st 13).toInt ≤ 65536) : Met l yX1_find wsX1_find ({ frames := 4, cells := 0, slots := 0, locals := 89 }) (va_Pc [.ref (c 102), .int p0] (fun U => va_P (dC, dI) vwCl (cw_W c kc st lg ai al R) U.heap ∧ va_K (dC, dI) vwCl (cw_T kc) U ∧ gx_W U)) (va_Sq (fun r => (∀ x, r = some x → ∃ m, pgM (kc 0) R x m ∧ m.toInt = p0.toInt ∧ m.toInt < 65536))) 0 0 (fun _ => False) := by
  refine Met.ofW (cc := cX1_find) (maxL := 3) (ret := (some (.object "BlockLog$Page"))) (by decide) rfl ?_
  intro p e s m args below meth cM s₁ B hml hv
  obtain ⟨rfl, hP, hK, hG⟩ := hv
  have hx := B.exec
  have hb := B.bytes
  have hr := B.returns
  have hts := atoms_spec (ws := wsX1_find) B.pre
  have hown : s.vm.findClass RX1 = some m.cls := findClass_of_methodNamed B.named
  have hGW := hG
  have hl := lv_entry ([.ref (c 102), .int p0]) (n := 3) (Nat.le_of_ble_eq_true rfl)
  rw [lg_entry_eq]
  generalize (lg_sl ([.ref (c 102), .int p0]) ++ List.replicate (3 - (lg_sl ([.ref (c 102), .int p0])).length) Slot.unset).toArray = ls at hl ⊢
  have hl : lv_has ls 3 [(0, .ref (c 102)), (1, .int p0)] := hl
  have hin_X1 : ∀ w ∈ u_ws RX1 TX1 7, w ∈ wsX1_find := by decide +kernel
  have hin_X2 : ∀ w ∈ u_ws RX2 TX2 3, w ∈ wsX1_find := by decide +kernel
  refine lv_aload_n hx hb dX1_find_0 rfl (lv_at hl 0 rfl) ?_
  refine lv_iload_n hx hb dX1_find_1 rfl (lv_at hl 1 rfl) ?_
  refine vp_callSi (va_Run.run (va_runV (As := [.int p0]) (rest := []) ⟨hx, hb, hml, hown, hts⟩ (v_X1_position l dC dI c kc st lg ai al R cap num p0 hPI (show 0 ≤ (st 13).toInt by omega) (show (st 13).toInt ≤ 65536 by omega)) (cwV 1 hts gX1_find_X1_position rfl rfl rfl (by decide +kernel) ⟨Nat.le_of_ble_eq_true rfl, Nat.le_of_ble_eq_true rfl⟩) ⟨fun a U g mk q => by obtain ⟨q0, qP, qK, qG⟩ := q; exact ⟨q0, qP, va_K.moved (u := U) (U := U.calling g mk a) (Vm.Alike.refl U.vm) qK, qG.same rfl⟩, va_recv hK hP (ci := 3) (q := (RX1, TX1, 7)) rfl (q0 := 2) rfl, fun U hU hW => ⟨rfl, by rw [hU]; exact hP, va_K.moved hW.alike hK, hGW.warm hW⟩⟩ rfl rfl hl.1 rfl (lv_room (Nat.le_of_ble_eq_true rfl)) dX1_find_2 ⟨Nat.le_of_ble_eq_true rfl, Nat.le_of_ble_eq_true rfl⟩)) (fun r_1 er_1 => ?_)
  obtain ⟨k_2, k_3, hlo, hhi⟩ := er_1
  have k_3 : r_1.toInt ≤ (st 13).toInt := k_3
  have hlo : loI num r_1 p0 := hlo
  have hhi : hiI num r_1 (st 13) p0 := hhi
  refine lv_istore_n (lv' := [(2, .int r_1), (0, .ref (c 102)), (1, .int p0)]) hx hb dX1_find_5 rfl hl (by decide) rfl (fun ls hl => ?_)
  refine lv_iload_n hx hb dX1_find_6 rfl (lv_at hl 0 rfl) ?_
  refine lv_aload_n hx hb dX1_find_7 rfl (lv_at hl 1 rfl) ?_
  refine va_get (D := (dC, dI)) (ci := 3) (v := .ref (c 103)) (C := RX1) (T := TX1) (N := 7) hx hb hts hin_X1 hown hK hP 2 rfl rfl 3 (by decide) (hts (.fieldLink RX1 25 "BlockLog$Disk" "touched" "Ljava/util/ArrayList;") (by decide +kernel)) (fun _ h9 => h9) rfl dX1_find_8 ?_
  refine vp_callSi (va_Run.run (va_runV (As := []) (rest := [.int r_1]) ⟨hx, hb, hml, hown, hts⟩ (v_Jx4a65c_size_8abf5 l dC dI c kc st lg ai al R  (show 0 ≤ (st 13).toInt by omega) (show (st 13).toInt ≤ 65536 by omega)) (cwV 0 hts gX1_find_Jx4a65c_size_8abf5 rfl rfl rfl (by decide +kernel) ⟨Nat.le_of_ble_eq_true rfl, Nat.le_of_ble_eq_true rfl⟩) ⟨fun a U g mk q => by obtain ⟨q0, qP, qK⟩ := q; exact ⟨q0, qP, va_K.moved (u := U) (U := U.calling g mk a) (Vm.Alike.refl U.vm) qK⟩, va_recv hK hP (ci := 2) (q := (RJx4a65c, TJx4a65c, 3)) rfl (q0 := 3) rfl, fun U hU hW => ⟨rfl, by rw [hU]; exact hP, va_K.moved hW.alike hK⟩⟩ rfl rfl hl.1 rfl (lv_room (Nat.le_of_ble_eq_true rfl)) dX1_find_11 ⟨Nat.le_of_ble_eq_true rfl, Nat.le_of_ble_eq_true rfl⟩)) (fun r_4 er_4 => ?_)
  have k_5 := er_4
  have k_5 : r_4.toInt = (st 13).toInt := k_5
  refine lv_icmp_ge (tgt := 49) hx hb dX1_find_14 (by decide) (fun c_6 => ?_) (fun c_6 => ?_)
  · skip
    have ic_6 := iv_le c_6
    refine lv_null hx hb dX1_find_49 ?_
    exact W.aret hx hb hr (Or.inl ⟨_, rfl⟩) (Or.inl rfl) (fun t ht hW => ⟨none, rfl, (fun x h => by cases h), ht⟩) (fun q h => by cases h) dX1_find_50
  · skip
    have ic_6 := iv_nle c_6
    refine lv_aload_n hx hb dX1_find_17 rfl (lv_at hl 1 rfl) ?_
    refine va_get (D := (dC, dI)) (ci := 3) (v := .ref (c 103)) (C := RX1) (T := TX1) (N := 7) hx hb hts hin_X1 hown hK hP 2 rfl rfl 3 (by decide) (hts (.fieldLink RX1 25 "BlockLog$Disk" "touched" "Ljava/util/ArrayList;") (by decide +kernel)) (fun _ h9 => h9) rfl dX1_find_18 ?_
    refine lv_iload_n hx hb dX1_find_21 rfl (lv_at hl 0 rfl) ?_
    refine va_csq (va_Run.run (va_runV (As := [.int r_1]) (rest := []) ⟨hx, hb, hml, hown, hts⟩ (v_Jx4a65c_get_915e3 l dC dI c kc st lg ai al R cap num r_1 hPI (show 0 ≤ (st 13).toInt by omega) (show (st 13).toInt ≤ 65536 by omega) (by omega) (show r_1.toInt < (st 13).toInt by omega)) (cwV 1 hts gX1_find_Jx4a65c_get_915e3 rfl rfl rfl (by decide +kernel) ⟨Nat.le_of_ble_eq_true rfl, Nat.le_of_ble_eq_true rfl⟩) ⟨fun a U g mk q => by obtain ⟨q0, qP, qK⟩ := q; exact ⟨q0, qP, va_K.moved (u := U) (U := U.calling g mk a) (Vm.Alike.refl U.vm) qK⟩, va_recv hK hP (ci := 2) (q := (RJx4a65c, TJx4a65c, 3)) rfl (q0 := 3) rfl, fun U hU hW => ⟨rfl, by rw [hU]; exact hP, va_K.moved hW.alike hK⟩⟩ rfl rfl hl.1 rfl (lv_room (Nat.le_of_ble_eq_true rfl)) dX1_find_22 ⟨Nat.le_of_ble_eq_true rfl, Nat.le_of_ble_eq_true rfl⟩)) (fun r_7 er_7 => ?_)
    obtain ⟨hq, hnn⟩ := er_7
    have hq : ∀ x, r_7 = some x → ∃ m, pgM (kc 0) R x m ∧ m = num r_1.toNatClampNeg := hq
    have hnn : r_7 ≠ none := hnn
    rcases r_7 with _ | x_8
    · skip
      exact absurd rfl hnn
    · skip
      refine W.eq (g2 := F0 m 25 ls [.ref x_8]) rfl ?_
      obtain ⟨m_9, hM_x_8, hQ⟩ := hq x_8 rfl
      have hMo := hM_x_8
      obtain ⟨b_10, k9_10, f9_10, ⟨j_10, hj_10⟩, i_10, hi_10⟩ := hMo
      refine va_castY hx hb hown (hts (.classLink RX1 44 "BlockLog$Page") (by decide +kernel)) (hGW.2.2.1 "BlockLog$Page" (by decide)) (va_recv hK hP (ci := 4) (q := (RX2, TX2, 3)) rfl (q0 := 26 + j_10) (cw_at hj_10)) dX1_find_25 ?_
      refine va_getN (D := (dC, dI)) (ci := 4) (v := .int m_9) (C := RX2) (T := TX2) (N := 3) hx hb hts hin_X2 hown hK hP (26 + j_10) (cw_at hj_10) rfl 0 (by decide) (va_Nw.use rfl (hGW.1 ("BlockLog$Disk", 76, "BlockLog$Page", "number", "I", "BlockLog") (by decide +kernel))) (fun _ h9 => h9) rfl dX1_find_28 ?_
      refine lv_iload_n hx hb dX1_find_31 rfl (lv_at hl 2 rfl) ?_
      refine lv_icmp_ne (tgt := 49) hx hb dX1_find_32 (by decide) (fun c_11 => ?_) (fun c_11 => ?_)
      · skip
        have ic_11 := iv_ne c_11
        refine lv_null hx hb dX1_find_49 ?_
        exact W.aret hx hb hr (Or.inl ⟨_, rfl⟩) (Or.inl rfl) (fun t ht hW => ⟨none, rfl, (fun x h => by cases h), ht⟩) (fun q h => by cases h) dX1_find_50
      · skip
        have ic_11 := iv_eq c_11
        have hQ1 := hQ
        refine lv_aload_n hx hb dX1_find_35 rfl (lv_at hl 1 rfl) ?_
        refine va_get (D := (dC, dI)) (ci := 3) (v := .ref (c 103)) (C := RX1) (T := TX1) (N := 7) hx hb hts hin_X1 hown hK hP 2 rfl rfl 3 (by decide) (hts (.fieldLink RX1 25 "BlockLog$Disk" "touched" "Ljava/util/ArrayList;") (by decide +kernel)) (fun _ h9 => h9) rfl dX1_find_36 ?_
        refine lv_iload_n hx hb dX1_find_39 rfl (lv_at hl 0 rfl) ?_
        refine va_csq (va_Run.run (va_runV (As := [.int r_1]) (rest := []) ⟨hx, hb, hml, hown, hts⟩ (v_Jx4a65c_get_915e3 l dC dI c kc st lg ai al R cap num r_1 hPI (show 0 ≤ (st 13).toInt by omega) (show (st 13).toInt ≤ 65536 by omega) (by omega) (show r_1.toInt < (st 13).toInt by omega)) (cwV 1 hts gX1_find_Jx4a65c_get_915e3 rfl rfl rfl (by decide +kernel) ⟨Nat.le_of_ble_eq_true rfl, Nat.le_of_ble_eq_true rfl⟩) ⟨fun a U g mk q => by obtain ⟨q0, qP, qK⟩ := q; exact ⟨q0, qP, va_K.moved (u := U) (U := U.calling g mk a) (Vm.Alike.refl U.vm) qK⟩, va_recv hK hP (ci := 2) (q := (RJx4a65c, TJx4a65c, 3)) rfl (q0 := 3) rfl, fun U hU hW => ⟨rfl, by rw [hU]; exact hP, va_K.moved hW.alike hK⟩⟩ rfl rfl hl.1 rfl (lv_room (Nat.le_of_ble_eq_true rfl)) dX1_find_40 ⟨Nat.le_of_ble_eq_true rfl, Nat.le_of_ble_eq_true rfl⟩)) (fun r_12 er_12 => ?_)
        obtain ⟨hq, hnn⟩ := er_12
        have hq : ∀ x, r_12 = some x → ∃ m, pgM (kc 0) R x m ∧ m = num r_1.toNatClampNeg := hq
        have hnn : r_12 ≠ none := hnn
        rcases r_12 with _ | x_13
        · skip
          exact absurd rfl hnn
        · skip
          refine W.eq (g2 := F0 m 43 ls [.ref x_13]) rfl ?_
          obtain ⟨m_14, hM_x_13, hQ⟩ := hq x_13 rfl
          have hMo := hM_x_13
          obtain ⟨b_15, k9_15, f9_15, ⟨j_15, hj_15⟩, i_15, hi_15⟩ := hMo
          refine va_castY hx hb hown (hts (.classLink RX1 44 "BlockLog$Page") (by decide +kernel)) (hGW.2.2.1 "BlockLog$Page" (by decide)) (va_recv hK hP (ci := 4) (q := (RX2, TX2, 3)) rfl (q0 := 26 + j_15) (cw_at hj_15)) dX1_find_43 ?_
          refine lv_goto (tgt := 50) hx hb dX1_find_46 (by decide) ?_
          exact W.aret hx hb hr (Or.inl ⟨_, rfl⟩) (Or.inr ⟨_, rfl⟩) (fun t ht hW => ⟨some x_13, rfl, (fun x h => by cases h; exact ⟨_, hM_x_13, ⟨by rw [hQ, ← hQ1]; omega, (PI_rg hPI (i := r_1) (by omega) (by omega) hQ).2⟩⟩), ht⟩) (fun q h => by cases h) dX1_find_50

set_option maxHeartbeats 4000000 in
set_option maxRecDepth 100000 in
theorem v_X1_rightPage (l : Launch) (dC : Nat → ClassId) (dI : Nat → Nat → Nat) (c : Nat → Nat) (kc : Nat → ClassId) (st : Nat → Int32) (lg : Nat → Int64) (ai : Nat → Nat → Int32) (al : Nat → Nat → Int64) (R : va_W) (cap : Nat) (num : Nat → Int32) (p0 : Int32) (sz : Nat) (hPI : PI (kc 98) (kc 0) (c 99) (st 13) cap num none R) (hf13a : 0 ≤ (st 13).toInt) (hf13b : (st 13).toInt ≤ 65536) : Met l yX1_rightPage wsX1_rightPage ({ frames := 5, cells := 0, slots := 0, locals := 111 }) (va_Pc [.ref (c 102), .int p0] (fun U => U.heap.size = sz ∧ va_P (dC, dI) vwCl (cw_W c kc st lg ai al R) U.heap ∧ va_K (dC, dI) vwCl (cw_T kc) U ∧ va_D (fun _ => True) (cw_W c kc st lg ai al R) ∧ gx_E (va_A (cw_W c kc st lg ai al R) sz) U)) (va_Qq (fun r (u : Option Nat) => r = u) (fun u t => ∃ (R9 : va_W), (∀ x, u = some x → ∃ m, pgM (kc 0) R9 x m ∧ True) ∧ (PI (kc 98) (kc 0) (c 99) (st 13) cap num none R9) ∧ (∀ y m, pgM (kc 0) R y m → pgM (kc 0) R9 y m) ∧ (va_D (va_A (cw_W c kc st lg ai al R) sz) (cw_W c kc st lg ai al R9)) ∧ va_P (dC, dI) vwCl (cw_W c kc st lg ai al R9) t.heap) (va_A (cw_W c kc st lg ai al R) sz)) 0 0 (va_A (cw_W c kc st lg ai al R) sz) := by
  refine Met.ofW (cc := cX1_rightPage) (maxL := 3) (ret := (some (.object "BlockLog$Page"))) (by decide) rfl ?_
  intro p e s m args below meth cM s₁ B hml hv
  obtain ⟨rfl, hsz, hP, hK, hD0, hG⟩ := hv
  have hx := B.exec
  have hb := B.bytes
  have hr := B.returns
  have hts := atoms_spec (ws := wsX1_rightPage) B.pre
  have hown : s.vm.findClass RX1 = some m.cls := findClass_of_methodNamed B.named
  have hGW := hG.1
  subst hsz
  have hD := hD0.self (sz := s.heap.size)
  generalize hAe : va_A (cw_W c kc st lg ai al R) s.heap.size = A at hD hG ⊢
  have hA : ∀ q : Nat, s.heap.size ≤ q → A q := fun q h => by rw [← hAe]; exact Or.inr h
  have hS : va_S A s.heap s.heap [] := va_S.rf
  clear hAe hD0
  have hl := lv_entry ([.ref (c 102), .int p0]) (n := 3) (Nat.le_of_ble_eq_true rfl)
  rw [lg_entry_eq]
  generalize (lg_sl ([.ref (c 102), .int p0]) ++ List.replicate (3 - (lg_sl ([.ref (c 102), .int p0])).length) Slot.unset).toArray = ls at hl ⊢
  have hl : lv_has ls 3 [(0, .ref (c 102)), (1, .int p0)] := hl
  have z_2 : (2 : Int32).toInt = 2 := by decide
  have hmono : ∀ y m, pgM (kc 0) R y m → pgM (kc 0) R y m := fun y m h => h
  have main : ∀ (H : Heap) (locs : List Loc), va_P (dC, dI) vwCl (cw_W c kc st lg ai al R) H → va_S A s.heap H locs → W p l e (headSpec wsX1_rightPage ({ frames := 5, cells := 0, slots := 0, locals := 111 })).room s m ([.ref (c 102), .int p0] : List Value).toArray below meth cM H locs 0 0 (MQ below (va_Qq (fun r (u : Option Nat) => r = u) (fun u t => ∃ (R9 : va_W), (∀ x, u = some x → ∃ m, pgM (kc 0) R9 x m ∧ True) ∧ (PI (kc 98) (kc 0) (c 99) (st 13) cap num none R9) ∧ (∀ y m, pgM (kc 0) R y m → pgM (kc 0) R9 y m) ∧ (va_D A (cw_W c kc st lg ai al R9)) ∧ va_P (dC, dI) vwCl (cw_W c kc st lg ai al R9) t.heap) A) ([.ref (c 102), .int p0] : List Value).toArray s 0 0 A) (F0 m 0 ls []) := by
    intro H locs hP hS
    refine lv_aload_n hx hb dX1_rightPage_0 rfl (lv_at hl 0 rfl) ?_
    refine lv_iload_n hx hb dX1_rightPage_1 rfl (lv_at hl 1 rfl) ?_
    refine va_csq (va_Run.run (va_runV (As := [.int p0]) (rest := []) ⟨hx, hb, hml, hown, hts⟩ (v_X1_find l dC dI c kc st lg ai al R cap num p0 hPI (show 0 ≤ (st 13).toInt by omega) (show (st 13).toInt ≤ 65536 by omega)) (cwV 1 hts gX1_rightPage_X1_find rfl rfl rfl (by decide +kernel) ⟨Nat.le_of_ble_eq_true rfl, Nat.le_of_ble_eq_true rfl⟩) ⟨fun a U g mk q => by obtain ⟨q0, qP, qK, qG⟩ := q; exact ⟨q0, qP, va_K.moved (u := U) (U := U.calling g mk a) (Vm.Alike.refl U.vm) qK, qG.same rfl⟩, va_recv hK hP (ci := 3) (q := (RX1, TX1, 7)) rfl (q0 := 2) rfl, fun U hU hW => ⟨rfl, by rw [hU]; exact hP, va_K.moved hW.alike hK, hGW.warm hW⟩⟩ rfl rfl hl.1 rfl (lv_room (Nat.le_of_ble_eq_true rfl)) dX1_rightPage_2 ⟨Nat.le_of_ble_eq_true rfl, Nat.le_of_ble_eq_true rfl⟩)) (fun r_1 er_1 => ?_)
    have hq := er_1
    have hq : ∀ x, r_1 = some x → ∃ m, pgM (kc 0) R x m ∧ m.toInt = p0.toInt ∧ m.toInt < 65536 := hq
    rcases r_1 with _ | x_2
    · skip
      refine W.eq (g2 := F0 m 5 ls [.null]) rfl ?_
      refine lv_astore_nN (lv' := [(2, .null), (0, .ref (c 102)), (1, .int p0)]) hx hb dX1_rightPage_5 rfl hl (by decide) rfl (fun ls hl => ?_)
      refine lv_aload_nN hx hb dX1_rightPage_6 rfl (lv_at hl 0 rfl) ?_
      refine lv_ifnullN (tgt := 22) hx hb dX1_rightPage_7 (by decide) ?_
      refine lv_null hx hb dX1_rightPage_22 ?_
      exact W.aret hx hb hr (Or.inl ⟨_, rfl⟩) (Or.inl rfl) (fun t ht hW => ⟨⟨none, _, rfl, rfl, R, (fun x h => by cases h), hPI, hmono, (cw_D hD), by rw [ht]; exact hP⟩, hS.F ht⟩) hS.2.2 dX1_rightPage_23
    · skip
      refine W.eq (g2 := F0 m 5 ls [.ref x_2]) rfl ?_
      obtain ⟨m_3, hM_x_2, hQ⟩ := hq x_2 rfl
      refine lv_astore_n (lv' := [(2, .ref x_2), (0, .ref (c 102)), (1, .int p0)]) hx hb dX1_rightPage_5 rfl hl (by decide) rfl (fun ls hl => ?_)
      refine lv_aload_n hx hb dX1_rightPage_6 rfl (lv_at hl 0 rfl) ?_
      refine lv_ifnull hx hb dX1_rightPage_7 ?_
      refine lv_aload_n hx hb dX1_rightPage_10 rfl (lv_at hl 0 rfl) ?_
      have hMo := hM_x_2
      obtain ⟨b_4, k9_4, f9_4, ⟨j_4, hj_4⟩, i_4, hi_4⟩ := hMo
      have hFc := vfree ((cw_D hD : va_D A (cw_W c kc st lg ai al R)) : va_D A (cw_W c kc st lg ai al R)) hS hA
      refine va_calli (va_runV (As := []) (rest := []) ⟨hx, hb, hml, hown, hts⟩ (v_X2_state l dC dI c kc st lg ai al R cap num x_2 b_4 j_4 i_4 m_3 k9_4 f9_4  _ hPI hj_4 hi_4 ) (cwV 0 hts gX1_rightPage_X2_state rfl rfl rfl (by decide +kernel) ⟨Nat.le_of_ble_eq_true rfl, Nat.le_of_ble_eq_true rfl⟩) ⟨fun a U g mk q => by obtain ⟨q0, q1, qP, qK, qD⟩ := q; exact ⟨q0, q1, qP, va_K.moved (u := U) (U := U.calling g mk a) (Vm.Alike.refl U.vm) qK, qD⟩, va_recv hK hP (ci := 4) (q := (RX2, TX2, 3)) rfl (q0 := 26 + j_4) (cw_at hj_4), fun U hU hW => ⟨rfl, by rw [hU], by rw [hU]; exact hP, va_K.moved hW.alike hK, ((cw_D hD : va_D A (cw_W c kc st lg ai al R))).weaken (fun _ _ _ _ => trivial)⟩⟩ rfl rfl hl.1 rfl (lv_room (Nat.le_of_ble_eq_true rfl)) dX1_rightPage_11 ⟨Nat.le_of_ble_eq_true rfl, Nat.le_of_ble_eq_true rfl⟩) hS (fun q _ h => hFc q h) hFc (fun r_5 ur_5 t H1 locs ht hvm er_5 hB hz1 hk1 hS => ?_)
      subst er_5
      obtain ⟨R_5, hrt, hPI, hmo, hD1, hP1⟩ := hB
      rw [ht] at hP1
      clear hz1 hk1 hvm hP
      subst ht
      have hP := hP1
      clear hP1
      generalize t.heap = H at hP hS ⊢
      have hP : va_P (dC, dI) vwCl (cw_W c kc st lg ai al R_5) H := hP
      have hD : va_D A (cw_W c kc st lg ai al R_5) := cw_D (hD1.weaken (fun _ _ _ h => hFc _ h))
      have hPI : PI (kc 98) (kc 0) (c 99) (st 13) cap num none R_5 := hPI
      clear hFc hD1
      have hM_x_2 := hmo _ _ hM_x_2
      have hmono : ∀ y m, pgM (kc 0) R y m → pgM (kc 0) R_5 y m := fun y m h => hmo y m (hmono y m h)
      have hrt : r_5.toInt = 2 → pgRt (kc 0) R_5 x_2 := hrt
      refine lv_iconst (v := 2) hx hb dX1_rightPage_14 (by decide) ?_
      refine lv_icmp_ne (tgt := 22) hx hb dX1_rightPage_15 (by decide) (fun c_6 => ?_) (fun c_6 => ?_)
      · skip
        have ic_6 := iv_ne c_6
        refine lv_null hx hb dX1_rightPage_22 ?_
        exact W.aret hx hb hr (Or.inl ⟨_, rfl⟩) (Or.inl rfl) (fun t ht hW => ⟨⟨none, _, rfl, rfl, R_5, (fun x h => by cases h), hPI, hmono, (cw_D hD), by rw [ht]; exact hP⟩, hS.F ht⟩) hS.2.2 dX1_rightPage_23
      · skip
        have ic_6 := iv_eq c_6
        refine lv_aload_n hx hb dX1_rightPage_18 rfl (lv_at hl 0 rfl) ?_
        refine lv_goto (tgt := 23) hx hb dX1_rightPage_19 (by decide) ?_
        exact W.aret hx hb hr (Or.inl ⟨_, rfl⟩) (Or.inr ⟨_, rfl⟩) (fun t ht hW => ⟨⟨some x_2, _, rfl, rfl, R_5, (fun x h => by cases h; exact ⟨_, hM_x_2, trivial⟩), hPI, hmono, (cw_D hD), by rw [ht]; exact hP⟩, hS.F ht⟩) hS.2.2 dX1_rightPage_23
  exact main s.heap [] hP hS

set_option maxHeartbeats 4000000 in
set_option maxRecDepth 100000 in
theorem v_X1_pageOf (l : Launch) (dC : Nat → ClassId) (dI : Nat → Nat → Nat) (c : Nat → Nat) (kc : Nat → ClassId) (st : Nat → Int32) (lg : Nat → Int64) (ai : Nat → Nat → Int32) (al : Nat → Nat → Int64) (R : va_W) (cap : Nat) (num : Nat → Int32) (p0 : Int64) (sz : Nat) (hPI : PI (kc 98) (kc 0) (c 99) (st 13) cap num none R) (hf13a : 0 ≤ (st 13).toInt) (hf13b : (st 13).toInt ≤ 65536) : Met l yX1_pageOf wsX1_pageOf ({ frames := 4, cells := 0, slots := 0, locals := 96 }) (va_Pc [.ref (c 102), .long p0] (fun U => U.heap.size = sz ∧ va_P (dC, dI) vwCl (cw_W c kc st lg ai al R) U.heap ∧ va_K (dC, dI) vwCl (cw_T kc) U ∧ va_D (fun _ => True) (cw_W c kc st lg ai al R) ∧ gx_E (va_A (cw_W c kc st lg ai al R) sz) U)) (va_Qq (fun r (u : Option Nat) => r = u) (fun u t => ∃ (R9 : va_W), (∀ x, u = some x → ∃ m, pgM (kc 0) R9 x m ∧ pgRt (kc 0) R9 x) ∧ (PI (kc 98) (kc 0) (c 99) (st 13) cap num none R9) ∧ (∀ y m, pgM (kc 0) R y m → pgM (kc 0) R9 y m) ∧ (va_D (va_A (cw_W c kc st lg ai al R) sz) (cw_W c kc st lg ai al R9)) ∧ va_P (dC, dI) vwCl (cw_W c kc st lg ai al R9) t.heap) (va_A (cw_W c kc st lg ai al R) sz)) 0 0 (va_A (cw_W c kc st lg ai al R) sz) := by
  refine Met.ofW (cc := cX1_pageOf) (maxL := 5) (ret := (some (.object "BlockLog$Page"))) (by decide) rfl ?_
  intro p e s m args below meth cM s₁ B hml hv
  obtain ⟨rfl, hsz, hP, hK, hD0, hG⟩ := hv
  have hx := B.exec
  have hb := B.bytes
  have hr := B.returns
  have hts := atoms_spec (ws := wsX1_pageOf) B.pre
  have hown : s.vm.findClass RX1 = some m.cls := findClass_of_methodNamed B.named
  have hGW := hG.1
  subst hsz
  have hD := hD0.self (sz := s.heap.size)
  generalize hAe : va_A (cw_W c kc st lg ai al R) s.heap.size = A at hD hG ⊢
  have hA : ∀ q : Nat, s.heap.size ≤ q → A q := fun q h => by rw [← hAe]; exact Or.inr h
  have hS : va_S A s.heap s.heap [] := va_S.rf
  clear hAe hD0
  have hl := lv_entry ([.ref (c 102), .long p0]) (n := 5) (Nat.le_of_ble_eq_true rfl)
  rw [lg_entry_eq]
  generalize (lg_sl ([.ref (c 102), .long p0]) ++ List.replicate (5 - (lg_sl ([.ref (c 102), .long p0])).length) Slot.unset).toArray = ls at hl ⊢
  have hl : lv_has ls 5 [(0, .ref (c 102)), (1, .long p0)] := hl
  have z_0 : (0 : Int32).toInt = 0 := by decide
  have z_1 : (1 : Int32).toInt = 1 := by decide
  have z_2 : (2 : Int32).toInt = 2 := by decide
  have hin_X1 : ∀ w ∈ u_ws RX1 TX1 7, w ∈ wsX1_pageOf := by decide +kernel
  have hmono : ∀ y m, pgM (kc 0) R y m → pgM (kc 0) R y m := fun y m h => h
  have main : ∀ (H : Heap) (locs : List Loc), va_P (dC, dI) vwCl (cw_W c kc st lg ai al R) H → va_S A s.heap H locs → W p l e (headSpec wsX1_pageOf ({ frames := 4, cells := 0, slots := 0, locals := 96 })).room s m ([.ref (c 102), .long p0] : List Value).toArray below meth cM H locs 0 0 (MQ below (va_Qq (fun r (u : Option Nat) => r = u) (fun u t => ∃ (R9 : va_W), (∀ x, u = some x → ∃ m, pgM (kc 0) R9 x m ∧ pgRt (kc 0) R9 x) ∧ (PI (kc 98) (kc 0) (c 99) (st 13) cap num none R9) ∧ (∀ y m, pgM (kc 0) R y m → pgM (kc 0) R9 y m) ∧ (va_D A (cw_W c kc st lg ai al R9)) ∧ va_P (dC, dI) vwCl (cw_W c kc st lg ai al R9) t.heap) A) ([.ref (c 102), .long p0] : List Value).toArray s 0 0 A) (F0 m 0 ls []) := by
    intro H locs hP hS
    refine lv_iconst (v := 0) hx hb dX1_pageOf_0 (by decide) ?_
    refine lv_istore_n (lv' := [(3, .int (0 : Int32)), (0, .ref (c 102)), (1, .long p0)]) hx hb dX1_pageOf_1 rfl hl (by decide) rfl (fun ls hl => ?_)
    have loop2 : ∀ (n : Nat) (l3_2 : Int32) (R9_2 : va_W) (H : Heap) (locs : List Loc) (ls : Array Slot), (0 ≤ l3_2.toInt) → (l3_2.toInt ≤ (st 13).toInt) → (PI (kc 98) (kc 0) (c 99) (st 13) cap num none R9_2) → (va_D A (cw_W c kc st lg ai al R9_2)) → (∀ y m, pgM (kc 0) R y m → pgM (kc 0) R9_2 y m) → ((st 13).toInt - l3_2.toInt : Int).toNat < n → va_P (dC, dI) vwCl (cw_W c kc st lg ai al R9_2) H → va_S A s.heap H locs → lv_has ls 5 [(3, .int l3_2), (0, .ref (c 102)), (1, .long p0)] → W p l e (headSpec wsX1_pageOf ({ frames := 4, cells := 0, slots := 0, locals := 96 })).room s m ([.ref (c 102), .long p0] : List Value).toArray below meth cM H locs 0 0 (MQ below (va_Qq (fun r (u : Option Nat) => r = u) (fun u t => ∃ (R9 : va_W), (∀ x, u = some x → ∃ m, pgM (kc 0) R9 x m ∧ pgRt (kc 0) R9 x) ∧ (PI (kc 98) (kc 0) (c 99) (st 13) cap num none R9) ∧ (∀ y m, pgM (kc 0) R y m → pgM (kc 0) R9 y m) ∧ (va_D A (cw_W c kc st lg ai al R9)) ∧ va_P (dC, dI) vwCl (cw_W c kc st lg ai al R9) t.heap) A) ([.ref (c 102), .long p0] : List Value).toArray s 0 0 A) (F0 m 2 ls []) := by
      intro n
      induction n with
      | zero => intro l3_2 R9_2 H locs ls if0_2 if1_2 hPI hD hmono hm; exact absurd hm (Nat.not_lt_zero _)
      | succ n ih2 =>
        intro l3_2 R9_2 H locs ls if0_2 if1_2 hPI hD hmono hm2 hP hS hl
        refine lv_iload_n hx hb dX1_pageOf_2 rfl (lv_at hl 0 rfl) ?_
        refine lv_aload_n hx hb dX1_pageOf_3 rfl (lv_at hl 1 rfl) ?_
        refine va_get (D := (dC, dI)) (ci := 3) (v := .ref (c 103)) (C := RX1) (T := TX1) (N := 7) hx hb hts hin_X1 hown hK hP 2 rfl rfl 3 (by decide) (hts (.fieldLink RX1 25 "BlockLog$Disk" "touched" "Ljava/util/ArrayList;") (by decide +kernel)) (fun _ h9 => h9) rfl dX1_pageOf_4 ?_
        refine vp_callSi (va_Run.run (va_runV (As := []) (rest := [.int l3_2]) ⟨hx, hb, hml, hown, hts⟩ (v_Jx4a65c_size_8abf5 l dC dI c kc st lg ai al R9_2  (show 0 ≤ (st 13).toInt by omega) (show (st 13).toInt ≤ 65536 by omega)) (cwV 0 hts gX1_pageOf_Jx4a65c_size_8abf5 rfl rfl rfl (by decide +kernel) ⟨Nat.le_of_ble_eq_true rfl, Nat.le_of_ble_eq_true rfl⟩) ⟨fun a U g mk q => by obtain ⟨q0, qP, qK⟩ := q; exact ⟨q0, qP, va_K.moved (u := U) (U := U.calling g mk a) (Vm.Alike.refl U.vm) qK⟩, va_recv hK hP (ci := 2) (q := (RJx4a65c, TJx4a65c, 3)) rfl (q0 := 3) rfl, fun U hU hW => ⟨rfl, by rw [hU]; exact hP, va_K.moved hW.alike hK⟩⟩ rfl rfl hl.1 rfl (lv_room (Nat.le_of_ble_eq_true rfl)) dX1_pageOf_7 ⟨Nat.le_of_ble_eq_true rfl, Nat.le_of_ble_eq_true rfl⟩)) (fun r_1 er_1 => ?_)
        have k_2 := er_1
        have k_2 : r_1.toInt = (st 13).toInt := k_2
        refine lv_icmp_ge (tgt := 54) hx hb dX1_pageOf_10 (by decide) (fun c_3 => ?_) (fun c_3 => ?_)
        · skip
          have ic_3 := iv_le c_3
          refine lv_null hx hb dX1_pageOf_54 ?_
          exact W.aret hx hb hr (Or.inl ⟨_, rfl⟩) (Or.inl rfl) (fun t ht hW => ⟨⟨none, _, rfl, rfl, R9_2, (fun x h => by cases h), hPI, hmono, (cw_D hD), by rw [ht]; exact hP⟩, hS.F ht⟩) hS.2.2 dX1_pageOf_55
        · skip
          have ic_3 := iv_nle c_3
          refine lv_aload_n hx hb dX1_pageOf_13 rfl (lv_at hl 1 rfl) ?_
          refine va_get (D := (dC, dI)) (ci := 3) (v := .ref (c 103)) (C := RX1) (T := TX1) (N := 7) hx hb hts hin_X1 hown hK hP 2 rfl rfl 3 (by decide) (hts (.fieldLink RX1 25 "BlockLog$Disk" "touched" "Ljava/util/ArrayList;") (by decide +kernel)) (fun _ h9 => h9) rfl dX1_pageOf_14 ?_
          refine lv_iload_n hx hb dX1_pageOf_17 rfl (lv_at hl 0 rfl) ?_
          refine va_csq (va_Run.run (va_runV (As := [.int l3_2]) (rest := []) ⟨hx, hb, hml, hown, hts⟩ (v_Jx4a65c_get_915e3 l dC dI c kc st lg ai al R9_2 cap num l3_2 hPI (show 0 ≤ (st 13).toInt by omega) (show (st 13).toInt ≤ 65536 by omega) (by omega) (show l3_2.toInt < (st 13).toInt by omega)) (cwV 1 hts gX1_pageOf_Jx4a65c_get_915e3 rfl rfl rfl (by decide +kernel) ⟨Nat.le_of_ble_eq_true rfl, Nat.le_of_ble_eq_true rfl⟩) ⟨fun a U g mk q => by obtain ⟨q0, qP, qK⟩ := q; exact ⟨q0, qP, va_K.moved (u := U) (U := U.calling g mk a) (Vm.Alike.refl U.vm) qK⟩, va_recv hK hP (ci := 2) (q := (RJx4a65c, TJx4a65c, 3)) rfl (q0 := 3) rfl, fun U hU hW => ⟨rfl, by rw [hU]; exact hP, va_K.moved hW.alike hK⟩⟩ rfl rfl hl.1 rfl (lv_room (Nat.le_of_ble_eq_true rfl)) dX1_pageOf_18 ⟨Nat.le_of_ble_eq_true rfl, Nat.le_of_ble_eq_true rfl⟩)) (fun r_4 er_4 => ?_)
          obtain ⟨hq, hnn⟩ := er_4
          have hq : ∀ x, r_4 = some x → ∃ m, pgM (kc 0) R9_2 x m ∧ m = num l3_2.toNatClampNeg := hq
          have hnn : r_4 ≠ none := hnn
          rcases r_4 with _ | x_5
          · skip
            exact absurd rfl hnn
          · skip
            refine W.eq (g2 := F0 m 21 ls [.ref x_5]) rfl ?_
            obtain ⟨m_6, hM_x_5, hQ⟩ := hq x_5 rfl
            have hMo := hM_x_5
            obtain ⟨b_7, k9_7, f9_7, ⟨j_7, hj_7⟩, i_7, hi_7⟩ := hMo
            refine va_castY hx hb hown (hts (.classLink RX1 44 "BlockLog$Page") (by decide +kernel)) (hGW.2.2.1 "BlockLog$Page" (by decide)) (va_recv hK hP (ci := 4) (q := (RX2, TX2, 3)) rfl (q0 := 26 + j_7) (cw_at hj_7)) dX1_pageOf_21 ?_
            refine lv_astore (lv' := [(4, .ref x_5), (3, .int l3_2), (0, .ref (c 102)), (1, .long p0)]) hx hb dX1_pageOf_24 hl (by decide) rfl (fun ls hl => ?_)
            refine lv_aload hx hb dX1_pageOf_26 (lv_at hl 0 rfl) ?_
            have hFc := vfree ((cw_D hD : va_D A (cw_W c kc st lg ai al R9_2)) : va_D A (cw_W c kc st lg ai al R9_2)) hS hA
            refine va_calli (va_runV (As := []) (rest := []) ⟨hx, hb, hml, hown, hts⟩ (v_X2_state l dC dI c kc st lg ai al R9_2 cap num x_5 b_7 j_7 i_7 m_6 k9_7 f9_7  _ hPI hj_7 hi_7 ) (cwV 0 hts gX1_pageOf_X2_state rfl rfl rfl (by decide +kernel) ⟨Nat.le_of_ble_eq_true rfl, Nat.le_of_ble_eq_true rfl⟩) ⟨fun a U g mk q => by obtain ⟨q0, q1, qP, qK, qD⟩ := q; exact ⟨q0, q1, qP, va_K.moved (u := U) (U := U.calling g mk a) (Vm.Alike.refl U.vm) qK, qD⟩, va_recv hK hP (ci := 4) (q := (RX2, TX2, 3)) rfl (q0 := 26 + j_7) (cw_at hj_7), fun U hU hW => ⟨rfl, by rw [hU], by rw [hU]; exact hP, va_K.moved hW.alike hK, ((cw_D hD : va_D A (cw_W c kc st lg ai al R9_2))).weaken (fun _ _ _ _ => trivial)⟩⟩ rfl rfl hl.1 rfl (lv_room (Nat.le_of_ble_eq_true rfl)) dX1_pageOf_28 ⟨Nat.le_of_ble_eq_true rfl, Nat.le_of_ble_eq_true rfl⟩) hS (fun q _ h => hFc q h) hFc (fun r_8 ur_8 t H1 locs ht hvm er_8 hB hz1 hk1 hS => ?_)
            subst er_8
            obtain ⟨R_8, hrt, hPI, hmo, hD1, hP1⟩ := hB
            rw [ht] at hP1
            clear hz1 hk1 hvm hP
            subst ht
            have hP := hP1
            clear hP1
            generalize t.heap = H at hP hS ⊢
            have hP : va_P (dC, dI) vwCl (cw_W c kc st lg ai al R_8) H := hP
            have hD : va_D A (cw_W c kc st lg ai al R_8) := cw_D (hD1.weaken (fun _ _ _ h => hFc _ h))
            have hPI : PI (kc 98) (kc 0) (c 99) (st 13) cap num none R_8 := hPI
            clear hFc hD1
            have hM_x_5 := hmo _ _ hM_x_5
            have hmono : ∀ y m, pgM (kc 0) R y m → pgM (kc 0) R_8 y m := fun y m h => hmo y m (hmono y m h)
            have hrt : r_8.toInt = 2 → pgRt (kc 0) R_8 x_5 := hrt
            refine lv_iconst (v := 2) hx hb dX1_pageOf_31 (by decide) ?_
            refine lv_icmp_ne (tgt := 48) hx hb dX1_pageOf_32 (by decide) (fun c_9 => ?_) (fun c_9 => ?_)
            · skip
              have ic_9 := iv_ne c_9
              obtain ⟨x_10, ex_10⟩ : ∃ z : Int32, z = l3_2 + (1) := ⟨_, rfl⟩
              refine lv_iinc (v := x_10) (lv' := [(3, .int x_10), (4, .ref x_5), (0, .ref (c 102)), (1, .long p0)]) hx hb dX1_pageOf_48 hl (k := 1) rfl (by rw [ex_10]; rfl) (by decide) rfl (fun ls hl => ?_)
              have rg1 := iv_rng l3_2
              have hx_10 : x_10.toInt = l3_2.toInt + (1) := by rw [ex_10]; exact (iv_add (by omega) (by omega)).trans (by omega)
              clear ex_10
              refine lv_goto (tgt := 2) hx hb dX1_pageOf_51 (by decide) ?_
              exact ih2 x_10 R_8 _ _ _ (by omega) (by omega) hPI (cw_D hD) hmono (by omega) hP hS (lv_sub hl [0, 2, 3] rfl)
            · skip
              have ic_9 := iv_eq c_9
              refine lv_aload hx hb dX1_pageOf_35 (lv_at hl 0 rfl) ?_
              have hMo := hM_x_5
              obtain ⟨b_11, k9_11, f9_11, ⟨j_11, hj_11⟩, i_11, hi_11⟩ := hMo
              refine vp_callSl (va_Run.run (va_runV (As := []) (rest := []) ⟨hx, hb, hml, hown, hts⟩ (v_X2_sum l dC dI c kc st lg ai al R_8 x_5 b_11 j_11 i_11 m_6 k9_11 f9_11  hj_11 hi_11 ) (cwV 0 hts gX1_pageOf_X2_sum rfl rfl rfl (by decide +kernel) ⟨Nat.le_of_ble_eq_true rfl, Nat.le_of_ble_eq_true rfl⟩) ⟨fun a U g mk q => by obtain ⟨q0, qP, qK⟩ := q; exact ⟨q0, qP, va_K.moved (u := U) (U := U.calling g mk a) (Vm.Alike.refl U.vm) qK⟩, va_recv hK hP (ci := 4) (q := (RX2, TX2, 3)) rfl (q0 := 26 + j_11) (cw_at hj_11), fun U hU hW => ⟨rfl, by rw [hU]; exact hP, va_K.moved hW.alike hK⟩⟩ rfl rfl hl.1 rfl (lv_room (Nat.le_of_ble_eq_true rfl)) dX1_pageOf_37 ⟨Nat.le_of_ble_eq_true rfl, Nat.le_of_ble_eq_true rfl⟩)) (fun r_12 er_12 => ?_)
              refine lv_lload_n hx hb dX1_pageOf_40 rfl (lv_at hl 3 rfl) ?_
              refine W.lcmp hx hb dX1_pageOf_41 ?_
              refine lv_topi (fun v_13 ev_13 => ?_)
              clear ev_13
              refine lv_if_ne (tgt := 48) hx hb dX1_pageOf_42 (by decide) (fun c_14 => ?_) (fun c_14 => ?_)
              · skip
                have ic_14 := iv_ne c_14
                obtain ⟨x_15, ex_15⟩ : ∃ z : Int32, z = l3_2 + (1) := ⟨_, rfl⟩
                refine lv_iinc (v := x_15) (lv' := [(3, .int x_15), (4, .ref x_5), (0, .ref (c 102)), (1, .long p0)]) hx hb dX1_pageOf_48 hl (k := 1) rfl (by rw [ex_15]; rfl) (by decide) rfl (fun ls hl => ?_)
                have rg2 := iv_rng l3_2
                have hx_15 : x_15.toInt = l3_2.toInt + (1) := by rw [ex_15]; exact (iv_add (by omega) (by omega)).trans (by omega)
                clear ex_15
                refine lv_goto (tgt := 2) hx hb dX1_pageOf_51 (by decide) ?_
                exact ih2 x_15 R_8 _ _ _ (by omega) (by omega) hPI (cw_D hD) hmono (by omega) hP hS (lv_sub hl [0, 2, 3] rfl)
              · skip
                have ic_14 := iv_eq c_14
                refine lv_aload hx hb dX1_pageOf_45 (lv_at hl 0 rfl) ?_
                exact W.aret hx hb hr (Or.inl ⟨_, rfl⟩) (Or.inr ⟨_, rfl⟩) (fun t ht hW => ⟨⟨some x_5, _, rfl, rfl, R_8, (fun x h => by cases h; exact ⟨_, hM_x_5, (hrt (by omega))⟩), hPI, hmono, (cw_D hD), by rw [ht]; exact hP⟩, hS.F ht⟩) hS.2.2 dX1_pageOf_47
    exact loop2 (((st 13).toInt - 0 : Int).toNat + 1) (0 : Int32) R _ _ _ (by omega) (by omega) hPI (cw_D hD) hmono (by omega) hP hS (lv_sub hl [0, 1, 2] rfl)
  exact main s.heap [] hP hS

set_option maxHeartbeats 4000000 in
set_option maxRecDepth 100000 in
theorem v_X1_sameLeaf (l : Launch) (dC : Nat → ClassId) (dI : Nat → Nat → Nat) (c : Nat → Nat) (kc : Nat → ClassId) (st : Nat → Int32) (lg : Nat → Int64) (ai : Nat → Nat → Int32) (al : Nat → Nat → Int64) (R : va_W) (cap : Nat) (num : Nat → Int32)  (sz : Nat) (hPI : PI (kc 98) (kc 0) (c 99) (st 13) cap num none R) (hf13a : 0 ≤ (st 13).toInt) (hf13b : (st 13).toInt ≤ 65536) : Met l yX1_sameLeaf wsX1_sameLeaf ({ frames := 4, cells := 0, slots := 0, locals := 96 }) (va_Pc [.ref (c 102), .ref (c 0)] (fun U => U.heap.size = sz ∧ va_P (dC, dI) vwCl (cw_W c kc st lg ai al R) U.heap ∧ va_K (dC, dI) vwCl (cw_T kc) U ∧ va_D (fun _ => True) (cw_W c kc st lg ai al R) ∧ gx_E (va_A (cw_W c kc st lg ai al R) sz) U)) (va_Qi (fun r (u : Int32) => r = u) (fun u t => ∃ (R9 : va_W), (PI (kc 98) (kc 0) (c 99) (st 13) cap num none R9) ∧ (∀ y m, pgM (kc 0) R y m → pgM (kc 0) R9 y m) ∧ (va_D (va_A (cw_W c kc st lg ai al R) sz) (cw_W c kc st lg ai al R9)) ∧ va_P (dC, dI) vwCl (cw_W c kc st lg ai al R9) t.heap) (va_A (cw_W c kc st lg ai al R) sz)) 0 0 (va_A (cw_W c kc st lg ai al R) sz) := by
  refine Met.ofW (cc := cX1_sameLeaf) (maxL := 4) (ret := (some .int)) (by decide) rfl ?_
  intro p e s m args below meth cM s₁ B hml hv
  obtain ⟨rfl, hsz, hP, hK, hD0, hG⟩ := hv
  have hx := B.exec
  have hb := B.bytes
  have hr := B.returns
  have hts := atoms_spec (ws := wsX1_sameLeaf) B.pre
  have hown : s.vm.findClass RX1 = some m.cls := findClass_of_methodNamed B.named
  have hGW := hG.1
  subst hsz
  have hD := hD0.self (sz := s.heap.size)
  generalize hAe : va_A (cw_W c kc st lg ai al R) s.heap.size = A at hD hG ⊢
  have hA : ∀ q : Nat, s.heap.size ≤ q → A q := fun q h => by rw [← hAe]; exact Or.inr h
  have hS : va_S A s.heap s.heap [] := va_S.rf
  clear hAe hD0
  have hl := lv_entry ([.ref (c 102), .ref (c 0)]) (n := 4) (Nat.le_of_ble_eq_true rfl)
  rw [lg_entry_eq]
  generalize (lg_sl ([.ref (c 102), .ref (c 0)]) ++ List.replicate (4 - (lg_sl ([.ref (c 102), .ref (c 0)])).length) Slot.unset).toArray = ls at hl ⊢
  have hl : lv_has ls 4 [(0, .ref (c 102)), (1, .ref (c 0))] := hl
  have z_m1 : (-1 : Int32).toInt = -1 := by decide
  have z_0 : (0 : Int32).toInt = 0 := by decide
  have z_1 : (1 : Int32).toInt = 1 := by decide
  have z_2 : (2 : Int32).toInt = 2 := by decide
  have z_17 : (17 : Int32).toInt = 17 := by decide
  have hin_X1 : ∀ w ∈ u_ws RX1 TX1 7, w ∈ wsX1_sameLeaf := by decide +kernel
  have hin_X2 : ∀ w ∈ u_ws RX2 TX2 3, w ∈ wsX1_sameLeaf := by decide +kernel
  have hmono : ∀ y m, pgM (kc 0) R y m → pgM (kc 0) R y m := fun y m h => h
  have main : ∀ (H : Heap) (locs : List Loc), va_P (dC, dI) vwCl (cw_W c kc st lg ai al R) H → va_S A s.heap H locs → W p l e (headSpec wsX1_sameLeaf ({ frames := 4, cells := 0, slots := 0, locals := 96 })).room s m ([.ref (c 102), .ref (c 0)] : List Value).toArray below meth cM H locs 0 0 (MQ below (va_Qi (fun r (u : Int32) => r = u) (fun u t => ∃ (R9 : va_W), (PI (kc 98) (kc 0) (c 99) (st 13) cap num none R9) ∧ (∀ y m, pgM (kc 0) R y m → pgM (kc 0) R9 y m) ∧ (va_D A (cw_W c kc st lg ai al R9)) ∧ va_P (dC, dI) vwCl (cw_W c kc st lg ai al R9) t.heap) A) ([.ref (c 102), .ref (c 0)] : List Value).toArray s 0 0 A) (F0 m 0 ls []) := by
    intro H locs hP hS
    refine lv_iconst (v := 0) hx hb dX1_sameLeaf_0 (by decide) ?_
    refine lv_istore_n (lv' := [(2, .int (0 : Int32)), (0, .ref (c 102)), (1, .ref (c 0))]) hx hb dX1_sameLeaf_1 rfl hl (by decide) rfl (fun ls hl => ?_)
    have loop2 : ∀ (n : Nat) (l2_2 : Int32) (R9_2 : va_W) (H : Heap) (locs : List Loc) (ls : Array Slot), (0 ≤ l2_2.toInt) → (l2_2.toInt ≤ (st 13).toInt) → (PI (kc 98) (kc 0) (c 99) (st 13) cap num none R9_2) → (va_D A (cw_W c kc st lg ai al R9_2)) → (∀ y m, pgM (kc 0) R y m → pgM (kc 0) R9_2 y m) → ((st 13).toInt - l2_2.toInt : Int).toNat < n → va_P (dC, dI) vwCl (cw_W c kc st lg ai al R9_2) H → va_S A s.heap H locs → lv_has ls 4 [(2, .int l2_2), (0, .ref (c 102)), (1, .ref (c 0))] → W p l e (headSpec wsX1_sameLeaf ({ frames := 4, cells := 0, slots := 0, locals := 96 })).room s m ([.ref (c 102), .ref (c 0)] : List Value).toArray below meth cM H locs 0 0 (MQ below (va_Qi (fun r (u : Int32) => r = u) (fun u t => ∃ (R9 : va_W), (PI (kc 98) (kc 0) (c 99) (st 13) cap num none R9) ∧ (∀ y m, pgM (kc 0) R y m → pgM (kc 0) R9 y m) ∧ (va_D A (cw_W c kc st lg ai al R9)) ∧ va_P (dC, dI) vwCl (cw_W c kc st lg ai al R9) t.heap) A) ([.ref (c 102), .ref (c 0)] : List Value).toArray s 0 0 A) (F0 m 2 ls []) := by
      intro n
      induction n with
      | zero => intro l2_2 R9_2 H locs ls if0_2 if1_2 hPI hD hmono hm; exact absurd hm (Nat.not_lt_zero _)
      | succ n ih2 =>
        intro l2_2 R9_2 H locs ls if0_2 if1_2 hPI hD hmono hm2 hP hS hl
        refine lv_iload_n hx hb dX1_sameLeaf_2 rfl (lv_at hl 0 rfl) ?_
        refine lv_aload_n hx hb dX1_sameLeaf_3 rfl (lv_at hl 1 rfl) ?_
        refine va_get (D := (dC, dI)) (ci := 3) (v := .ref (c 103)) (C := RX1) (T := TX1) (N := 7) hx hb hts hin_X1 hown hK hP 2 rfl rfl 3 (by decide) (hts (.fieldLink RX1 25 "BlockLog$Disk" "touched" "Ljava/util/ArrayList;") (by decide +kernel)) (fun _ h9 => h9) rfl dX1_sameLeaf_4 ?_
        refine vp_callSi (va_Run.run (va_runV (As := []) (rest := [.int l2_2]) ⟨hx, hb, hml, hown, hts⟩ (v_Jx4a65c_size_8abf5 l dC dI c kc st lg ai al R9_2  (show 0 ≤ (st 13).toInt by omega) (show (st 13).toInt ≤ 65536 by omega)) (cwV 0 hts gX1_sameLeaf_Jx4a65c_size_8abf5 rfl rfl rfl (by decide +kernel) ⟨Nat.le_of_ble_eq_true rfl, Nat.le_of_ble_eq_true rfl⟩) ⟨fun a U g mk q => by obtain ⟨q0, qP, qK⟩ := q; exact ⟨q0, qP, va_K.moved (u := U) (U := U.calling g mk a) (Vm.Alike.refl U.vm) qK⟩, va_recv hK hP (ci := 2) (q := (RJx4a65c, TJx4a65c, 3)) rfl (q0 := 3) rfl, fun U hU hW => ⟨rfl, by rw [hU]; exact hP, va_K.moved hW.alike hK⟩⟩ rfl rfl hl.1 rfl (lv_room (Nat.le_of_ble_eq_true rfl)) dX1_sameLeaf_7 ⟨Nat.le_of_ble_eq_true rfl, Nat.le_of_ble_eq_true rfl⟩)) (fun r_1 er_1 => ?_)
        have k_2 := er_1
        have k_2 : r_1.toInt = (st 13).toInt := k_2
        refine lv_icmp_ge (tgt := 58) hx hb dX1_sameLeaf_10 (by decide) (fun c_3 => ?_) (fun c_3 => ?_)
        · skip
          have ic_3 := iv_le c_3
          refine lv_iconst (v := (-1)) hx hb dX1_sameLeaf_58 (by decide) ?_
          exact W.iret hx hb hr (fun t ht hW => ⟨⟨_, _, rfl, rfl, R9_2, hPI, hmono, (cw_D hD), by rw [ht]; exact hP⟩, hS.F ht⟩) hS.2.2 dX1_sameLeaf_59
        · skip
          have ic_3 := iv_nle c_3
          refine lv_aload_n hx hb dX1_sameLeaf_13 rfl (lv_at hl 1 rfl) ?_
          refine va_get (D := (dC, dI)) (ci := 3) (v := .ref (c 103)) (C := RX1) (T := TX1) (N := 7) hx hb hts hin_X1 hown hK hP 2 rfl rfl 3 (by decide) (hts (.fieldLink RX1 25 "BlockLog$Disk" "touched" "Ljava/util/ArrayList;") (by decide +kernel)) (fun _ h9 => h9) rfl dX1_sameLeaf_14 ?_
          refine lv_iload_n hx hb dX1_sameLeaf_17 rfl (lv_at hl 0 rfl) ?_
          refine va_csq (va_Run.run (va_runV (As := [.int l2_2]) (rest := []) ⟨hx, hb, hml, hown, hts⟩ (v_Jx4a65c_get_915e3 l dC dI c kc st lg ai al R9_2 cap num l2_2 hPI (show 0 ≤ (st 13).toInt by omega) (show (st 13).toInt ≤ 65536 by omega) (by omega) (show l2_2.toInt < (st 13).toInt by omega)) (cwV 1 hts gX1_sameLeaf_Jx4a65c_get_915e3 rfl rfl rfl (by decide +kernel) ⟨Nat.le_of_ble_eq_true rfl, Nat.le_of_ble_eq_true rfl⟩) ⟨fun a U g mk q => by obtain ⟨q0, qP, qK⟩ := q; exact ⟨q0, qP, va_K.moved (u := U) (U := U.calling g mk a) (Vm.Alike.refl U.vm) qK⟩, va_recv hK hP (ci := 2) (q := (RJx4a65c, TJx4a65c, 3)) rfl (q0 := 3) rfl, fun U hU hW => ⟨rfl, by rw [hU]; exact hP, va_K.moved hW.alike hK⟩⟩ rfl rfl hl.1 rfl (lv_room (Nat.le_of_ble_eq_true rfl)) dX1_sameLeaf_18 ⟨Nat.le_of_ble_eq_true rfl, Nat.le_of_ble_eq_true rfl⟩)) (fun r_4 er_4 => ?_)
          obtain ⟨hq, hnn⟩ := er_4
          have hq : ∀ x, r_4 = some x → ∃ m, pgM (kc 0) R9_2 x m ∧ m = num l2_2.toNatClampNeg := hq
          have hnn : r_4 ≠ none := hnn
          rcases r_4 with _ | x_5
          · skip
            exact absurd rfl hnn
          · skip
            refine W.eq (g2 := F0 m 21 ls [.ref x_5]) rfl ?_
            obtain ⟨m_6, hM_x_5, hQ⟩ := hq x_5 rfl
            have hMo := hM_x_5
            obtain ⟨b_7, k9_7, f9_7, ⟨j_7, hj_7⟩, i_7, hi_7⟩ := hMo
            refine va_castY hx hb hown (hts (.classLink RX1 44 "BlockLog$Page") (by decide +kernel)) (hGW.2.2.1 "BlockLog$Page" (by decide)) (va_recv hK hP (ci := 4) (q := (RX2, TX2, 3)) rfl (q0 := 26 + j_7) (cw_at hj_7)) dX1_sameLeaf_21 ?_
            refine lv_astore_n (lv' := [(3, .ref x_5), (2, .int l2_2), (0, .ref (c 102)), (1, .ref (c 0))]) hx hb dX1_sameLeaf_24 rfl hl (by decide) rfl (fun ls hl => ?_)
            refine lv_aload_n hx hb dX1_sameLeaf_25 rfl (lv_at hl 0 rfl) ?_
            have hFc := vfree ((cw_D hD : va_D A (cw_W c kc st lg ai al R9_2)) : va_D A (cw_W c kc st lg ai al R9_2)) hS hA
            refine va_calli (va_runV (As := []) (rest := []) ⟨hx, hb, hml, hown, hts⟩ (v_X2_state l dC dI c kc st lg ai al R9_2 cap num x_5 b_7 j_7 i_7 m_6 k9_7 f9_7  _ hPI hj_7 hi_7 ) (cwV 0 hts gX1_sameLeaf_X2_state rfl rfl rfl (by decide +kernel) ⟨Nat.le_of_ble_eq_true rfl, Nat.le_of_ble_eq_true rfl⟩) ⟨fun a U g mk q => by obtain ⟨q0, q1, qP, qK, qD⟩ := q; exact ⟨q0, q1, qP, va_K.moved (u := U) (U := U.calling g mk a) (Vm.Alike.refl U.vm) qK, qD⟩, va_recv hK hP (ci := 4) (q := (RX2, TX2, 3)) rfl (q0 := 26 + j_7) (cw_at hj_7), fun U hU hW => ⟨rfl, by rw [hU], by rw [hU]; exact hP, va_K.moved hW.alike hK, ((cw_D hD : va_D A (cw_W c kc st lg ai al R9_2))).weaken (fun _ _ _ _ => trivial)⟩⟩ rfl rfl hl.1 rfl (lv_room (Nat.le_of_ble_eq_true rfl)) dX1_sameLeaf_26 ⟨Nat.le_of_ble_eq_true rfl, Nat.le_of_ble_eq_true rfl⟩) hS (fun q _ h => hFc q h) hFc (fun r_8 ur_8 t H1 locs ht hvm er_8 hB hz1 hk1 hS => ?_)
            subst er_8
            obtain ⟨R_8, hrt, hPI, hmo, hD1, hP1⟩ := hB
            rw [ht] at hP1
            clear hz1 hk1 hvm hP
            subst ht
            have hP := hP1
            clear hP1
            generalize t.heap = H at hP hS ⊢
            have hP : va_P (dC, dI) vwCl (cw_W c kc st lg ai al R_8) H := hP
            have hD : va_D A (cw_W c kc st lg ai al R_8) := cw_D (hD1.weaken (fun _ _ _ h => hFc _ h))
            have hPI : PI (kc 98) (kc 0) (c 99) (st 13) cap num none R_8 := hPI
            clear hFc hD1
            have hM_x_5 := hmo _ _ hM_x_5
            have hmono : ∀ y m, pgM (kc 0) R y m → pgM (kc 0) R_8 y m := fun y m h => hmo y m (hmono y m h)
            have hrt : r_8.toInt = 2 → pgRt (kc 0) R_8 x_5 := hrt
            refine lv_iconst (v := 2) hx hb dX1_sameLeaf_29 (by decide) ?_
            refine lv_icmp_ne (tgt := 52) hx hb dX1_sameLeaf_30 (by decide) (fun c_9 => ?_) (fun c_9 => ?_)
            · skip
              have ic_9 := iv_ne c_9
              obtain ⟨x_10, ex_10⟩ : ∃ z : Int32, z = l2_2 + (1) := ⟨_, rfl⟩
              refine lv_iinc (v := x_10) (lv' := [(2, .int x_10), (3, .ref x_5), (0, .ref (c 102)), (1, .ref (c 0))]) hx hb dX1_sameLeaf_52 hl (k := 1) rfl (by rw [ex_10]; rfl) (by decide) rfl (fun ls hl => ?_)
              have rg1 := iv_rng l2_2
              have hx_10 : x_10.toInt = l2_2.toInt + (1) := by rw [ex_10]; exact (iv_add (by omega) (by omega)).trans (by omega)
              clear ex_10
              refine lv_goto (tgt := 2) hx hb dX1_sameLeaf_55 (by decide) ?_
              exact ih2 x_10 R_8 _ _ _ (by omega) (by omega) hPI (cw_D hD) hmono (by omega) hP hS (lv_sub hl [0, 2, 3] rfl)
            · skip
              have ic_9 := iv_eq c_9
              refine lv_aload_n hx hb dX1_sameLeaf_33 rfl (lv_at hl 3 rfl) ?_
              refine lv_aload_n hx hb dX1_sameLeaf_34 rfl (lv_at hl 0 rfl) ?_
              have hMo := hM_x_5
              obtain ⟨b_11, k9_11, f9_11, ⟨j_11, hj_11⟩, i_11, hi_11⟩ := hMo
              refine va_getN (D := (dC, dI)) (ci := 4) (v := .ref b_11) (C := RX2) (T := TX2) (N := 3) hx hb hts hin_X2 hown hK hP (26 + j_11) (cw_at hj_11) rfl 1 (by decide) (va_Nw.use rfl (hGW.1 ("BlockLog$Disk", 43, "BlockLog$Page", "bytes", "[B", "BlockLog") (by decide +kernel))) (fun _ h9 => h9) rfl dX1_sameLeaf_35 ?_
              refine lv_iconst (v := 0) hx hb dX1_sameLeaf_38 (by decide) ?_
              refine lv_bipush (v := 17) hx hb dX1_sameLeaf_39 (by decide) ?_
              refine vp_callSi (va_Run.run (va_runS (As := [.ref (c 0), .ref b_11, .int (0 : Int32), .int (17 : Int32)]) (rest := []) ⟨hx, hb, hml, hown, hts⟩ (v_X0_isSame l dC dI (cw_W c kc st lg ai al R_8) (cw_T kc) (c 0) 26 (kc 0) (ai 0) 8 0 b_11 26 (kc 0) f9_11 (26 + i_11) 0 (0 : Int32) (17 : Int32) rfl rfl (cw_at hi_11) rfl (by omega) (by omega) (by omega) (by omega) (by omega) (by omega)) (va_cwS 4 hts gX1_sameLeaf_X0_isSame rfl rfl rfl (by decide +kernel) ⟨Nat.le_of_ble_eq_true rfl, Nat.le_of_ble_eq_true rfl⟩) ⟨fun a U g mk q => by obtain ⟨q0, qP, qK⟩ := q; exact ⟨q0, qP, va_K.moved (u := U) (U := U.calling g mk a) (Vm.Alike.refl U.vm) qK⟩, fun U hU hW => ⟨rfl, by rw [hU]; exact hP, va_K.moved hW.alike hK⟩⟩ rfl rfl hl.1 rfl (lv_room (Nat.le_of_ble_eq_true rfl)) dX1_sameLeaf_41 ⟨Nat.le_of_ble_eq_true rfl, Nat.le_of_ble_eq_true rfl⟩)) (fun r_12 er_12 => ?_)
              obtain ⟨k_13, k_14⟩ := er_12
              rcases iv_01 (a := r_12) (by omega) (by omega) with b_15 | b_15
              · skip
                have ib_15 := iv_eq b_15
                rw [b_15]
                refine lv_if_eq (tgt := 52) hx hb dX1_sameLeaf_44 (by decide) (fun c_16 => ?_) (fun c_16 => ?_)
                · skip
                  have ic_16 := iv_eq c_16
                  obtain ⟨x_17, ex_17⟩ : ∃ z : Int32, z = l2_2 + (1) := ⟨_, rfl⟩
                  refine lv_iinc (v := x_17) (lv' := [(2, .int x_17), (3, .ref x_5), (0, .ref (c 102)), (1, .ref (c 0))]) hx hb dX1_sameLeaf_52 hl (k := 1) rfl (by rw [ex_17]; rfl) (by decide) rfl (fun ls hl => ?_)
                  have rg2 := iv_rng l2_2
                  have hx_17 : x_17.toInt = l2_2.toInt + (1) := by rw [ex_17]; exact (iv_add (by omega) (by omega)).trans (by omega)
                  clear ex_17
                  refine lv_goto (tgt := 2) hx hb dX1_sameLeaf_55 (by decide) ?_
                  exact ih2 x_17 R_8 _ _ _ (by omega) (by omega) hPI (cw_D hD) hmono (by omega) hP hS (lv_sub hl [0, 2, 3] rfl)
                · skip
                  have ic_16 := iv_ne c_16
                  exfalso
                  omega
              · skip
                have ib_15 := iv_eq b_15
                rw [b_15]
                refine lv_if_eq (tgt := 52) hx hb dX1_sameLeaf_44 (by decide) (fun c_18 => ?_) (fun c_18 => ?_)
                · skip
                  have ic_18 := iv_eq c_18
                  exfalso
                  omega
                · skip
                  have ic_18 := iv_ne c_18
                  refine lv_aload_n hx hb dX1_sameLeaf_47 rfl (lv_at hl 0 rfl) ?_
                  refine va_getN (D := (dC, dI)) (ci := 4) (v := .int m_6) (C := RX2) (T := TX2) (N := 3) hx hb hts hin_X2 hown hK hP (26 + j_11) (cw_at hj_11) rfl 0 (by decide) (va_Nw.use rfl (hGW.1 ("BlockLog$Disk", 76, "BlockLog$Page", "number", "I", "BlockLog") (by decide +kernel))) (fun _ h9 => h9) rfl dX1_sameLeaf_48 ?_
                  exact W.iret hx hb hr (fun t ht hW => ⟨⟨_, _, rfl, rfl, R_8, hPI, hmono, (cw_D hD), by rw [ht]; exact hP⟩, hS.F ht⟩) hS.2.2 dX1_sameLeaf_51
    exact loop2 (((st 13).toInt - 0 : Int).toNat + 1) (0 : Int32) R _ _ _ (by omega) (by omega) hPI (cw_D hD) hmono (by omega) hP hS (lv_sub hl [0, 1, 2] rfl)
  exact main s.heap [] hP hS

set_option maxHeartbeats 4000000 in
set_option maxRecDepth 100000 in
theorem v_X1_firstFree (l : Launch) (dC : Nat → ClassId) (dI : Nat → Nat → Nat) (c : Nat → Nat) (kc : Nat → ClassId) (st : Nat → Int32) (lg : Nat → Int64) (ai : Nat → Nat → Int32) (al : Nat → Nat → Int64) (R : va_W) (cap : Nat) (num : Nat → Int32)  (sz : Nat) (hPI : PI (kc 98) (kc 0) (c 99) (st 13) cap num none R) (hf6a : 1 ≤ (st 6).toInt) (hf6b : (st 6).toInt ≤ 65536) (hf13a : 0 ≤ (st 13).toInt) (hf13b : (st 13).toInt ≤ 65536) : Met l yX1_firstFree wsX1_firstFree ({ frames := 4, cells := 0, slots := 0, locals := 96 }) (va_Pc [.ref (c 102)] (fun U => U.heap.size = sz ∧ va_P (dC, dI) vwCl (cw_W c kc st lg ai al R) U.heap ∧ va_K (dC, dI) vwCl (cw_T kc) U ∧ va_D (fun _ => True) (cw_W c kc st lg ai al R) ∧ gx_E (va_A (cw_W c kc st lg ai al R) sz) U)) (va_Qi (fun r (u : Int32) => r = u) (fun u t => ∃ (R9 : va_W), (u.toInt = -1 ∨ (0 ≤ u.toInt ∧ u.toInt < 65536)) ∧ (PI (kc 98) (kc 0) (c 99) (st 13) cap num none R9) ∧ (∀ y m, pgM (kc 0) R y m → pgM (kc 0) R9 y m) ∧ (va_D (va_A (cw_W c kc st lg ai al R) sz) (cw_W c kc st lg ai al R9)) ∧ va_P (dC, dI) vwCl (cw_W c kc st lg ai al R9) t.heap) (va_A (cw_W c kc st lg ai al R) sz)) 0 0 (va_A (cw_W c kc st lg ai al R) sz) := by
  refine Met.ofW (cc := cX1_firstFree) (maxL := 4) (ret := (some .int)) (by decide) rfl ?_
  intro p e s m args below meth cM s₁ B hml hv
  obtain ⟨rfl, hsz, hP, hK, hD0, hG⟩ := hv
  have hx := B.exec
  have hb := B.bytes
  have hr := B.returns
  have hts := atoms_spec (ws := wsX1_firstFree) B.pre
  have hown : s.vm.findClass RX1 = some m.cls := findClass_of_methodNamed B.named
  have hGW := hG.1
  subst hsz
  have hD := hD0.self (sz := s.heap.size)
  generalize hAe : va_A (cw_W c kc st lg ai al R) s.heap.size = A at hD hG ⊢
  have hA : ∀ q : Nat, s.heap.size ≤ q → A q := fun q h => by rw [← hAe]; exact Or.inr h
  have hS : va_S A s.heap s.heap [] := va_S.rf
  clear hAe hD0
  have hl := lv_entry ([.ref (c 102)]) (n := 4) (Nat.le_of_ble_eq_true rfl)
  rw [lg_entry_eq]
  generalize (lg_sl ([.ref (c 102)]) ++ List.replicate (4 - (lg_sl ([.ref (c 102)])).length) Slot.unset).toArray = ls at hl ⊢
  have hl : lv_has ls 4 [(0, .ref (c 102))] := hl
  have z_m1 : (-1 : Int32).toInt = -1 := by decide
  have z_0 : (0 : Int32).toInt = 0 := by decide
  have z_1 : (1 : Int32).toInt = 1 := by decide
  have hin_X1 : ∀ w ∈ u_ws RX1 TX1 7, w ∈ wsX1_firstFree := by decide +kernel
  have hin_X2 : ∀ w ∈ u_ws RX2 TX2 3, w ∈ wsX1_firstFree := by decide +kernel
  have hmono : ∀ y m, pgM (kc 0) R y m → pgM (kc 0) R y m := fun y m h => h
  have main : ∀ (H : Heap) (locs : List Loc), va_P (dC, dI) vwCl (cw_W c kc st lg ai al R) H → va_S A s.heap H locs → W p l e (headSpec wsX1_firstFree ({ frames := 4, cells := 0, slots := 0, locals := 96 })).room s m ([.ref (c 102)] : List Value).toArray below meth cM H locs 0 0 (MQ below (va_Qi (fun r (u : Int32) => r = u) (fun u t => ∃ (R9 : va_W), (u.toInt = -1 ∨ (0 ≤ u.toInt ∧ u.toInt < 65536)) ∧ (PI (kc 98) (kc 0) (c 99) (st 13) cap num none R9) ∧ (∀ y m, pgM (kc 0) R y m → pgM (kc 0) R9 y m) ∧ (va_D A (cw_W c kc st lg ai al R9)) ∧ va_P (dC, dI) vwCl (cw_W c kc st lg ai al R9) t.heap) A) ([.ref (c 102)] : List Value).toArray s 0 0 A) (F0 m 0 ls []) := by
    intro H locs hP hS
    refine lv_iconst (v := 0) hx hb dX1_firstFree_0 (by decide) ?_
    refine lv_istore_n (lv' := [(1, .int (0 : Int32)), (0, .ref (c 102))]) hx hb dX1_firstFree_1 rfl hl (by decide) rfl (fun ls hl => ?_)
    refine lv_iconst (v := 0) hx hb dX1_firstFree_2 (by decide) ?_
    refine lv_istore_n (lv' := [(2, .int (0 : Int32)), (1, .int (0 : Int32)), (0, .ref (c 102))]) hx hb dX1_firstFree_3 rfl hl (by decide) rfl (fun ls hl => ?_)
    have loop4 : ∀ (n : Nat) (l2_4 : Int32) (l1_4 : Int32) (R9_4 : va_W) (H : Heap) (locs : List Loc) (ls : Array Slot), (0 ≤ l2_4.toInt) → (l2_4.toInt ≤ (st 13).toInt) → (0 ≤ l1_4.toInt) → (l1_4.toInt ≤ l2_4.toInt) → (PI (kc 98) (kc 0) (c 99) (st 13) cap num none R9_4) → (va_D A (cw_W c kc st lg ai al R9_4)) → (∀ y m, pgM (kc 0) R y m → pgM (kc 0) R9_4 y m) → ((st 13).toInt - l2_4.toInt : Int).toNat < n → va_P (dC, dI) vwCl (cw_W c kc st lg ai al R9_4) H → va_S A s.heap H locs → lv_has ls 4 [(2, .int l2_4), (1, .int l1_4), (0, .ref (c 102))] → W p l e (headSpec wsX1_firstFree ({ frames := 4, cells := 0, slots := 0, locals := 96 })).room s m ([.ref (c 102)] : List Value).toArray below meth cM H locs 0 0 (MQ below (va_Qi (fun r (u : Int32) => r = u) (fun u t => ∃ (R9 : va_W), (u.toInt = -1 ∨ (0 ≤ u.toInt ∧ u.toInt < 65536)) ∧ (PI (kc 98) (kc 0) (c 99) (st 13) cap num none R9) ∧ (∀ y m, pgM (kc 0) R y m → pgM (kc 0) R9 y m) ∧ (va_D A (cw_W c kc st lg ai al R9)) ∧ va_P (dC, dI) vwCl (cw_W c kc st lg ai al R9) t.heap) A) ([.ref (c 102)] : List Value).toArray s 0 0 A) (F0 m 4 ls []) := by
      intro n
      induction n with
      | zero => intro l2_4 l1_4 R9_4 H locs ls if0_4 if1_4 if2_4 if3_4 hPI hD hmono hm; exact absurd hm (Nat.not_lt_zero _)
      | succ n ih4 =>
        intro l2_4 l1_4 R9_4 H locs ls if0_4 if1_4 if2_4 if3_4 hPI hD hmono hm4 hP hS hl
        refine lv_iload_n hx hb dX1_firstFree_4 rfl (lv_at hl 0 rfl) ?_
        refine lv_aload_n hx hb dX1_firstFree_5 rfl (lv_at hl 2 rfl) ?_
        refine va_get (D := (dC, dI)) (ci := 3) (v := .ref (c 103)) (C := RX1) (T := TX1) (N := 7) hx hb hts hin_X1 hown hK hP 2 rfl rfl 3 (by decide) (hts (.fieldLink RX1 25 "BlockLog$Disk" "touched" "Ljava/util/ArrayList;") (by decide +kernel)) (fun _ h9 => h9) rfl dX1_firstFree_6 ?_
        refine vp_callSi (va_Run.run (va_runV (As := []) (rest := [.int l2_4]) ⟨hx, hb, hml, hown, hts⟩ (v_Jx4a65c_size_8abf5 l dC dI c kc st lg ai al R9_4  (show 0 ≤ (st 13).toInt by omega) (show (st 13).toInt ≤ 65536 by omega)) (cwV 0 hts gX1_firstFree_Jx4a65c_size_8abf5 rfl rfl rfl (by decide +kernel) ⟨Nat.le_of_ble_eq_true rfl, Nat.le_of_ble_eq_true rfl⟩) ⟨fun a U g mk q => by obtain ⟨q0, qP, qK⟩ := q; exact ⟨q0, qP, va_K.moved (u := U) (U := U.calling g mk a) (Vm.Alike.refl U.vm) qK⟩, va_recv hK hP (ci := 2) (q := (RJx4a65c, TJx4a65c, 3)) rfl (q0 := 3) rfl, fun U hU hW => ⟨rfl, by rw [hU]; exact hP, va_K.moved hW.alike hK⟩⟩ rfl rfl hl.1 rfl (lv_room (Nat.le_of_ble_eq_true rfl)) dX1_firstFree_9 ⟨Nat.le_of_ble_eq_true rfl, Nat.le_of_ble_eq_true rfl⟩)) (fun r_1 er_1 => ?_)
        have k_2 := er_1
        have k_2 : r_1.toInt = (st 13).toInt := k_2
        refine lv_icmp_ge (tgt := 54) hx hb dX1_firstFree_12 (by decide) (fun c_3 => ?_) (fun c_3 => ?_)
        · skip
          have ic_3 := iv_le c_3
          refine lv_iload_n hx hb dX1_firstFree_54 rfl (lv_at hl 1 rfl) ?_
          refine lv_aload_n hx hb dX1_firstFree_55 rfl (lv_at hl 2 rfl) ?_
          refine va_get (D := (dC, dI)) (ci := 3) (v := .int (st 6)) (C := RX1) (T := TX1) (N := 7) hx hb hts hin_X1 hown hK hP 2 rfl rfl 0 (by decide) (hts (.fieldLink RX1 9 "BlockLog$Disk" "pageCount" "I") (by decide +kernel)) (fun _ h9 => h9) rfl dX1_firstFree_56 ?_
          refine lv_icmp_ge (tgt := 66) hx hb dX1_firstFree_59 (by decide) (fun c_4 => ?_) (fun c_4 => ?_)
          · skip
            have ic_4 := iv_le c_4
            refine lv_iconst (v := (-1)) hx hb dX1_firstFree_66 (by decide) ?_
            exact W.iret hx hb hr (fun t ht hW => ⟨⟨_, _, rfl, rfl, R9_4, (by omega), hPI, hmono, (cw_D hD), by rw [ht]; exact hP⟩, hS.F ht⟩) hS.2.2 dX1_firstFree_67
          · skip
            have ic_4 := iv_nle c_4
            refine lv_iload_n hx hb dX1_firstFree_62 rfl (lv_at hl 1 rfl) ?_
            refine lv_goto (tgt := 67) hx hb dX1_firstFree_63 (by decide) ?_
            exact W.iret hx hb hr (fun t ht hW => ⟨⟨_, _, rfl, rfl, R9_4, (by omega), hPI, hmono, (cw_D hD), by rw [ht]; exact hP⟩, hS.F ht⟩) hS.2.2 dX1_firstFree_67
        · skip
          have ic_3 := iv_nle c_3
          refine lv_aload_n hx hb dX1_firstFree_15 rfl (lv_at hl 2 rfl) ?_
          refine va_get (D := (dC, dI)) (ci := 3) (v := .ref (c 103)) (C := RX1) (T := TX1) (N := 7) hx hb hts hin_X1 hown hK hP 2 rfl rfl 3 (by decide) (hts (.fieldLink RX1 25 "BlockLog$Disk" "touched" "Ljava/util/ArrayList;") (by decide +kernel)) (fun _ h9 => h9) rfl dX1_firstFree_16 ?_
          refine lv_iload_n hx hb dX1_firstFree_19 rfl (lv_at hl 0 rfl) ?_
          refine va_csq (va_Run.run (va_runV (As := [.int l2_4]) (rest := []) ⟨hx, hb, hml, hown, hts⟩ (v_Jx4a65c_get_915e3 l dC dI c kc st lg ai al R9_4 cap num l2_4 hPI (show 0 ≤ (st 13).toInt by omega) (show (st 13).toInt ≤ 65536 by omega) (by omega) (show l2_4.toInt < (st 13).toInt by omega)) (cwV 1 hts gX1_firstFree_Jx4a65c_get_915e3 rfl rfl rfl (by decide +kernel) ⟨Nat.le_of_ble_eq_true rfl, Nat.le_of_ble_eq_true rfl⟩) ⟨fun a U g mk q => by obtain ⟨q0, qP, qK⟩ := q; exact ⟨q0, qP, va_K.moved (u := U) (U := U.calling g mk a) (Vm.Alike.refl U.vm) qK⟩, va_recv hK hP (ci := 2) (q := (RJx4a65c, TJx4a65c, 3)) rfl (q0 := 3) rfl, fun U hU hW => ⟨rfl, by rw [hU]; exact hP, va_K.moved hW.alike hK⟩⟩ rfl rfl hl.1 rfl (lv_room (Nat.le_of_ble_eq_true rfl)) dX1_firstFree_20 ⟨Nat.le_of_ble_eq_true rfl, Nat.le_of_ble_eq_true rfl⟩)) (fun r_5 er_5 => ?_)
          obtain ⟨hq, hnn⟩ := er_5
          have hq : ∀ x, r_5 = some x → ∃ m, pgM (kc 0) R9_4 x m ∧ m = num l2_4.toNatClampNeg := hq
          have hnn : r_5 ≠ none := hnn
          rcases r_5 with _ | x_6
          · skip
            exact absurd rfl hnn
          · skip
            refine W.eq (g2 := F0 m 23 ls [.ref x_6]) rfl ?_
            obtain ⟨m_7, hM_x_6, hQ⟩ := hq x_6 rfl
            have hMo := hM_x_6
            obtain ⟨b_8, k9_8, f9_8, ⟨j_8, hj_8⟩, i_8, hi_8⟩ := hMo
            refine va_castY hx hb hown (hts (.classLink RX1 44 "BlockLog$Page") (by decide +kernel)) (hGW.2.2.1 "BlockLog$Page" (by decide)) (va_recv hK hP (ci := 4) (q := (RX2, TX2, 3)) rfl (q0 := 26 + j_8) (cw_at hj_8)) dX1_firstFree_23 ?_
            refine lv_astore_n (lv' := [(3, .ref x_6), (2, .int l2_4), (1, .int l1_4), (0, .ref (c 102))]) hx hb dX1_firstFree_26 rfl hl (by decide) rfl (fun ls hl => ?_)
            refine lv_aload_n hx hb dX1_firstFree_27 rfl (lv_at hl 0 rfl) ?_
            refine va_getN (D := (dC, dI)) (ci := 4) (v := .int m_7) (C := RX2) (T := TX2) (N := 3) hx hb hts hin_X2 hown hK hP (26 + j_8) (cw_at hj_8) rfl 0 (by decide) (va_Nw.use rfl (hGW.1 ("BlockLog$Disk", 76, "BlockLog$Page", "number", "I", "BlockLog") (by decide +kernel))) (fun _ h9 => h9) rfl dX1_firstFree_28 ?_
            refine lv_iload_n hx hb dX1_firstFree_31 rfl (lv_at hl 2 rfl) ?_
            refine lv_icmp_ne (tgt := 43) hx hb dX1_firstFree_32 (by decide) (fun c_9 => ?_) (fun c_9 => ?_)
            · skip
              have ic_9 := iv_ne c_9
              refine lv_iload_n hx hb dX1_firstFree_43 rfl (lv_at hl 2 rfl) ?_
              exact W.iret hx hb hr (fun t ht hW => ⟨⟨_, _, rfl, rfl, R9_4, (by omega), hPI, hmono, (cw_D hD), by rw [ht]; exact hP⟩, hS.F ht⟩) hS.2.2 dX1_firstFree_44
            · skip
              have ic_9 := iv_eq c_9
              refine lv_aload_n hx hb dX1_firstFree_35 rfl (lv_at hl 0 rfl) ?_
              have hFc := vfree ((cw_D hD : va_D A (cw_W c kc st lg ai al R9_4)) : va_D A (cw_W c kc st lg ai al R9_4)) hS hA
              refine va_calli (va_runV (As := []) (rest := []) ⟨hx, hb, hml, hown, hts⟩ (v_X2_state l dC dI c kc st lg ai al R9_4 cap num x_6 b_8 j_8 i_8 m_7 k9_8 f9_8  _ hPI hj_8 hi_8 ) (cwV 0 hts gX1_firstFree_X2_state rfl rfl rfl (by decide +kernel) ⟨Nat.le_of_ble_eq_true rfl, Nat.le_of_ble_eq_true rfl⟩) ⟨fun a U g mk q => by obtain ⟨q0, q1, qP, qK, qD⟩ := q; exact ⟨q0, q1, qP, va_K.moved (u := U) (U := U.calling g mk a) (Vm.Alike.refl U.vm) qK, qD⟩, va_recv hK hP (ci := 4) (q := (RX2, TX2, 3)) rfl (q0 := 26 + j_8) (cw_at hj_8), fun U hU hW => ⟨rfl, by rw [hU], by rw [hU]; exact hP, va_K.moved hW.alike hK, ((cw_D hD : va_D A (cw_W c kc st lg ai al R9_4))).weaken (fun _ _ _ _ => trivial)⟩⟩ rfl rfl hl.1 rfl (lv_room (Nat.le_of_ble_eq_true rfl)) dX1_firstFree_36 ⟨Nat.le_of_ble_eq_true rfl, Nat.le_of_ble_eq_true rfl⟩) hS (fun q _ h => hFc q h) hFc (fun r_10 ur_10 t H1 locs ht hvm er_10 hB hz1 hk1 hS => ?_)
              subst er_10
              obtain ⟨R_10, hrt, hPI, hmo, hD1, hP1⟩ := hB
              rw [ht] at hP1
              clear hz1 hk1 hvm hP
              subst ht
              have hP := hP1
              clear hP1
              generalize t.heap = H at hP hS ⊢
              have hP : va_P (dC, dI) vwCl (cw_W c kc st lg ai al R_10) H := hP
              have hD : va_D A (cw_W c kc st lg ai al R_10) := cw_D (hD1.weaken (fun _ _ _ h => hFc _ h))
              have hPI : PI (kc 98) (kc 0) (c 99) (st 13) cap num none R_10 := hPI
              clear hFc hD1
              have hM_x_6 := hmo _ _ hM_x_6
              have hmono : ∀ y m, pgM (kc 0) R y m → pgM (kc 0) R_10 y m := fun y m h => hmo y m (hmono y m h)
              have hrt : r_10.toInt = 2 → pgRt (kc 0) R_10 x_6 := hrt
              refine lv_iconst (v := 1) hx hb dX1_firstFree_39 (by decide) ?_
              refine lv_icmp_ne (tgt := 45) hx hb dX1_firstFree_40 (by decide) (fun c_11 => ?_) (fun c_11 => ?_)
              · skip
                have ic_11 := iv_ne c_11
                obtain ⟨x_12, ex_12⟩ : ∃ z : Int32, z = l1_4 + (1) := ⟨_, rfl⟩
                refine lv_iinc (v := x_12) (lv' := [(1, .int x_12), (3, .ref x_6), (2, .int l2_4), (0, .ref (c 102))]) hx hb dX1_firstFree_45 hl (k := 2) rfl (by rw [ex_12]; rfl) (by decide) rfl (fun ls hl => ?_)
                have rg1 := iv_rng l1_4
                have hx_12 : x_12.toInt = l1_4.toInt + (1) := by rw [ex_12]; exact (iv_add (by omega) (by omega)).trans (by omega)
                clear ex_12
                obtain ⟨x_13, ex_13⟩ : ∃ z : Int32, z = l2_4 + (1) := ⟨_, rfl⟩
                refine lv_iinc (v := x_13) (lv' := [(2, .int x_13), (1, .int x_12), (3, .ref x_6), (0, .ref (c 102))]) hx hb dX1_firstFree_48 hl (k := 2) rfl (by rw [ex_13]; rfl) (by decide) rfl (fun ls hl => ?_)
                have rg2 := iv_rng l2_4
                have hx_13 : x_13.toInt = l2_4.toInt + (1) := by rw [ex_13]; exact (iv_add (by omega) (by omega)).trans (by omega)
                clear ex_13
                refine lv_goto (tgt := 4) hx hb dX1_firstFree_51 (by decide) ?_
                exact ih4 x_13 x_12 R_10 _ _ _ (by omega) (by omega) (by omega) (by omega) hPI (cw_D hD) hmono (by omega) hP hS (lv_sub hl [0, 1, 3] rfl)
              · skip
                have ic_11 := iv_eq c_11
                refine lv_iload_n hx hb dX1_firstFree_43 rfl (lv_at hl 2 rfl) ?_
                exact W.iret hx hb hr (fun t ht hW => ⟨⟨_, _, rfl, rfl, R_10, (by omega), hPI, hmono, (cw_D hD), by rw [ht]; exact hP⟩, hS.F ht⟩) hS.2.2 dX1_firstFree_44
    exact loop4 (((st 13).toInt - 0 : Int).toNat + 1) (0 : Int32) (0 : Int32) R _ _ _ (by omega) (by omega) (by omega) (by omega) hPI (cw_D hD) hmono (by omega) hP hS (lv_sub hl [0, 1, 2] rfl)
  exact main s.heap [] hP hS

set_option maxHeartbeats 4000000 in
set_option maxRecDepth 100000 in
theorem v_X1_countPages (l : Launch) (dC : Nat → ClassId) (dI : Nat → Nat → Nat) (c : Nat → Nat) (kc : Nat → ClassId) (st : Nat → Int32) (lg : Nat → Int64) (ai : Nat → Nat → Int32) (al : Nat → Nat → Int64) (R : va_W) (cap : Nat) (num : Nat → Int32) (p0 : Int32) (sz : Nat) (hPI : PI (kc 98) (kc 0) (c 99) (st 13) cap num none R) (hf13a : 0 ≤ (st 13).toInt) (hf13b : (st 13).toInt ≤ 65536) : Met l yX1_countPages wsX1_countPages ({ frames := 4, cells := 0, slots := 0, locals := 96 }) (va_Pc [.ref (c 102), .int p0] (fun U => U.heap.size = sz ∧ va_P (dC, dI) vwCl (cw_W c kc st lg ai al R) U.heap ∧ va_K (dC, dI) vwCl (cw_T kc) U ∧ va_D (fun _ => True) (cw_W c kc st lg ai al R) ∧ gx_E (va_A (cw_W c kc st lg ai al R) sz) U)) (va_Qi (fun r (u : Int32) => r = u) (fun u t => ∃ (R9 : va_W), (0 ≤ u.toInt) ∧ (u.toInt ≤ (st 13).toInt) ∧ (PI (kc 98) (kc 0) (c 99) (st 13) cap num none R9) ∧ (∀ y m, pgM (kc 0) R y m → pgM (kc 0) R9 y m) ∧ (va_D (va_A (cw_W c kc st lg ai al R) sz) (cw_W c kc st lg ai al R9)) ∧ va_P (dC, dI) vwCl (cw_W c kc st lg ai al R9) t.heap) (va_A (cw_W c kc st lg ai al R) sz)) 0 0 (va_A (cw_W c kc st lg ai al R) sz) := by
  refine Met.ofW (cc := cX1_countPages) (maxL := 4) (ret := (some .int)) (by decide) rfl ?_
  intro p e s m args below meth cM s₁ B hml hv
  obtain ⟨rfl, hsz, hP, hK, hD0, hG⟩ := hv
  have hx := B.exec
  have hb := B.bytes
  have hr := B.returns
  have hts := atoms_spec (ws := wsX1_countPages) B.pre
  have hown : s.vm.findClass RX1 = some m.cls := findClass_of_methodNamed B.named
  have hGW := hG.1
  subst hsz
  have hD := hD0.self (sz := s.heap.size)
  generalize hAe : va_A (cw_W c kc st lg ai al R) s.heap.size = A at hD hG ⊢
  have hA : ∀ q : Nat, s.heap.size ≤ q → A q := fun q h => by rw [← hAe]; exact Or.inr h
  have hS : va_S A s.heap s.heap [] := va_S.rf
  clear hAe hD0
  have hl := lv_entry ([.ref (c 102), .int p0]) (n := 4) (Nat.le_of_ble_eq_true rfl)
  rw [lg_entry_eq]
  generalize (lg_sl ([.ref (c 102), .int p0]) ++ List.replicate (4 - (lg_sl ([.ref (c 102), .int p0])).length) Slot.unset).toArray = ls at hl ⊢
  have hl : lv_has ls 4 [(0, .ref (c 102)), (1, .int p0)] := hl
  have z_0 : (0 : Int32).toInt = 0 := by decide
  have z_1 : (1 : Int32).toInt = 1 := by decide
  have hin_X1 : ∀ w ∈ u_ws RX1 TX1 7, w ∈ wsX1_countPages := by decide +kernel
  have hmono : ∀ y m, pgM (kc 0) R y m → pgM (kc 0) R y m := fun y m h => h
  have main : ∀ (H : Heap) (locs : List Loc), va_P (dC, dI) vwCl (cw_W c kc st lg ai al R) H → va_S A s.heap H locs → W p l e (headSpec wsX1_countPages ({ frames := 4, cells := 0, slots := 0, locals := 96 })).room s m ([.ref (c 102), .int p0] : List Value).toArray below meth cM H locs 0 0 (MQ below (va_Qi (fun r (u : Int32) => r = u) (fun u t => ∃ (R9 : va_W), (0 ≤ u.toInt) ∧ (u.toInt ≤ (st 13).toInt) ∧ (PI (kc 98) (kc 0) (c 99) (st 13) cap num none R9) ∧ (∀ y m, pgM (kc 0) R y m → pgM (kc 0) R9 y m) ∧ (va_D A (cw_W c kc st lg ai al R9)) ∧ va_P (dC, dI) vwCl (cw_W c kc st lg ai al R9) t.heap) A) ([.ref (c 102), .int p0] : List Value).toArray s 0 0 A) (F0 m 0 ls []) := by
    intro H locs hP hS
    refine lv_iconst (v := 0) hx hb dX1_countPages_0 (by decide) ?_
    refine lv_istore_n (lv' := [(2, .int (0 : Int32)), (0, .ref (c 102)), (1, .int p0)]) hx hb dX1_countPages_1 rfl hl (by decide) rfl (fun ls hl => ?_)
    refine lv_iconst (v := 0) hx hb dX1_countPages_2 (by decide) ?_
    refine lv_istore_n (lv' := [(3, .int (0 : Int32)), (2, .int (0 : Int32)), (0, .ref (c 102)), (1, .int p0)]) hx hb dX1_countPages_3 rfl hl (by decide) rfl (fun ls hl => ?_)
    have loop4 : ∀ (n : Nat) (l3_4 : Int32) (l2_4 : Int32) (R9_4 : va_W) (H : Heap) (locs : List Loc) (ls : Array Slot), (0 ≤ l3_4.toInt) → (l3_4.toInt ≤ (st 13).toInt) → (0 ≤ l2_4.toInt) → (l2_4.toInt ≤ l3_4.toInt) → (PI (kc 98) (kc 0) (c 99) (st 13) cap num none R9_4) → (va_D A (cw_W c kc st lg ai al R9_4)) → (∀ y m, pgM (kc 0) R y m → pgM (kc 0) R9_4 y m) → ((st 13).toInt - l3_4.toInt : Int).toNat < n → va_P (dC, dI) vwCl (cw_W c kc st lg ai al R9_4) H → va_S A s.heap H locs → lv_has ls 4 [(3, .int l3_4), (2, .int l2_4), (0, .ref (c 102)), (1, .int p0)] → W p l e (headSpec wsX1_countPages ({ frames := 4, cells := 0, slots := 0, locals := 96 })).room s m ([.ref (c 102), .int p0] : List Value).toArray below meth cM H locs 0 0 (MQ below (va_Qi (fun r (u : Int32) => r = u) (fun u t => ∃ (R9 : va_W), (0 ≤ u.toInt) ∧ (u.toInt ≤ (st 13).toInt) ∧ (PI (kc 98) (kc 0) (c 99) (st 13) cap num none R9) ∧ (∀ y m, pgM (kc 0) R y m → pgM (kc 0) R9 y m) ∧ (va_D A (cw_W c kc st lg ai al R9)) ∧ va_P (dC, dI) vwCl (cw_W c kc st lg ai al R9) t.heap) A) ([.ref (c 102), .int p0] : List Value).toArray s 0 0 A) (F0 m 4 ls []) := by
      intro n
      induction n with
      | zero => intro l3_4 l2_4 R9_4 H locs ls if0_4 if1_4 if2_4 if3_4 hPI hD hmono hm; exact absurd hm (Nat.not_lt_zero _)
      | succ n ih4 =>
        intro l3_4 l2_4 R9_4 H locs ls if0_4 if1_4 if2_4 if3_4 hPI hD hmono hm4 hP hS hl
        refine lv_iload_n hx hb dX1_countPages_4 rfl (lv_at hl 0 rfl) ?_
        refine lv_aload_n hx hb dX1_countPages_5 rfl (lv_at hl 2 rfl) ?_
        refine va_get (D := (dC, dI)) (ci := 3) (v := .ref (c 103)) (C := RX1) (T := TX1) (N := 7) hx hb hts hin_X1 hown hK hP 2 rfl rfl 3 (by decide) (hts (.fieldLink RX1 25 "BlockLog$Disk" "touched" "Ljava/util/ArrayList;") (by decide +kernel)) (fun _ h9 => h9) rfl dX1_countPages_6 ?_
        refine vp_callSi (va_Run.run (va_runV (As := []) (rest := [.int l3_4]) ⟨hx, hb, hml, hown, hts⟩ (v_Jx4a65c_size_8abf5 l dC dI c kc st lg ai al R9_4  (show 0 ≤ (st 13).toInt by omega) (show (st 13).toInt ≤ 65536 by omega)) (cwV 0 hts gX1_countPages_Jx4a65c_size_8abf5 rfl rfl rfl (by decide +kernel) ⟨Nat.le_of_ble_eq_true rfl, Nat.le_of_ble_eq_true rfl⟩) ⟨fun a U g mk q => by obtain ⟨q0, qP, qK⟩ := q; exact ⟨q0, qP, va_K.moved (u := U) (U := U.calling g mk a) (Vm.Alike.refl U.vm) qK⟩, va_recv hK hP (ci := 2) (q := (RJx4a65c, TJx4a65c, 3)) rfl (q0 := 3) rfl, fun U hU hW => ⟨rfl, by rw [hU]; exact hP, va_K.moved hW.alike hK⟩⟩ rfl rfl hl.1 rfl (lv_room (Nat.le_of_ble_eq_true rfl)) dX1_countPages_9 ⟨Nat.le_of_ble_eq_true rfl, Nat.le_of_ble_eq_true rfl⟩)) (fun r_1 er_1 => ?_)
        have k_2 := er_1
        have k_2 : r_1.toInt = (st 13).toInt := k_2
        refine lv_icmp_ge (tgt := 42) hx hb dX1_countPages_12 (by decide) (fun c_3 => ?_) (fun c_3 => ?_)
        · skip
          have ic_3 := iv_le c_3
          refine lv_iload_n hx hb dX1_countPages_42 rfl (lv_at hl 1 rfl) ?_
          exact W.iret hx hb hr (fun t ht hW => ⟨⟨_, _, rfl, rfl, R9_4, (by omega), (by omega), hPI, hmono, (cw_D hD), by rw [ht]; exact hP⟩, hS.F ht⟩) hS.2.2 dX1_countPages_43
        · skip
          have ic_3 := iv_nle c_3
          refine lv_aload_n hx hb dX1_countPages_15 rfl (lv_at hl 2 rfl) ?_
          refine va_get (D := (dC, dI)) (ci := 3) (v := .ref (c 103)) (C := RX1) (T := TX1) (N := 7) hx hb hts hin_X1 hown hK hP 2 rfl rfl 3 (by decide) (hts (.fieldLink RX1 25 "BlockLog$Disk" "touched" "Ljava/util/ArrayList;") (by decide +kernel)) (fun _ h9 => h9) rfl dX1_countPages_16 ?_
          refine lv_iload_n hx hb dX1_countPages_19 rfl (lv_at hl 0 rfl) ?_
          refine va_csq (va_Run.run (va_runV (As := [.int l3_4]) (rest := []) ⟨hx, hb, hml, hown, hts⟩ (v_Jx4a65c_get_915e3 l dC dI c kc st lg ai al R9_4 cap num l3_4 hPI (show 0 ≤ (st 13).toInt by omega) (show (st 13).toInt ≤ 65536 by omega) (by omega) (show l3_4.toInt < (st 13).toInt by omega)) (cwV 1 hts gX1_countPages_Jx4a65c_get_915e3 rfl rfl rfl (by decide +kernel) ⟨Nat.le_of_ble_eq_true rfl, Nat.le_of_ble_eq_true rfl⟩) ⟨fun a U g mk q => by obtain ⟨q0, qP, qK⟩ := q; exact ⟨q0, qP, va_K.moved (u := U) (U := U.calling g mk a) (Vm.Alike.refl U.vm) qK⟩, va_recv hK hP (ci := 2) (q := (RJx4a65c, TJx4a65c, 3)) rfl (q0 := 3) rfl, fun U hU hW => ⟨rfl, by rw [hU]; exact hP, va_K.moved hW.alike hK⟩⟩ rfl rfl hl.1 rfl (lv_room (Nat.le_of_ble_eq_true rfl)) dX1_countPages_20 ⟨Nat.le_of_ble_eq_true rfl, Nat.le_of_ble_eq_true rfl⟩)) (fun r_4 er_4 => ?_)
          obtain ⟨hq, hnn⟩ := er_4
          have hq : ∀ x, r_4 = some x → ∃ m, pgM (kc 0) R9_4 x m ∧ m = num l3_4.toNatClampNeg := hq
          have hnn : r_4 ≠ none := hnn
          rcases r_4 with _ | x_5
          · skip
            exact absurd rfl hnn
          · skip
            refine W.eq (g2 := F0 m 23 ls [.ref x_5]) rfl ?_
            obtain ⟨m_6, hM_x_5, hQ⟩ := hq x_5 rfl
            have hMo := hM_x_5
            obtain ⟨b_7, k9_7, f9_7, ⟨j_7, hj_7⟩, i_7, hi_7⟩ := hMo
            refine va_castY hx hb hown (hts (.classLink RX1 44 "BlockLog$Page") (by decide +kernel)) (hGW.2.2.1 "BlockLog$Page" (by decide)) (va_recv hK hP (ci := 4) (q := (RX2, TX2, 3)) rfl (q0 := 26 + j_7) (cw_at hj_7)) dX1_countPages_23 ?_
            have hFc := vfree ((cw_D hD : va_D A (cw_W c kc st lg ai al R9_4)) : va_D A (cw_W c kc st lg ai al R9_4)) hS hA
            refine va_calli (va_runV (As := []) (rest := []) ⟨hx, hb, hml, hown, hts⟩ (v_X2_state l dC dI c kc st lg ai al R9_4 cap num x_5 b_7 j_7 i_7 m_6 k9_7 f9_7  _ hPI hj_7 hi_7 ) (cwV 0 hts gX1_countPages_X2_state rfl rfl rfl (by decide +kernel) ⟨Nat.le_of_ble_eq_true rfl, Nat.le_of_ble_eq_true rfl⟩) ⟨fun a U g mk q => by obtain ⟨q0, q1, qP, qK, qD⟩ := q; exact ⟨q0, q1, qP, va_K.moved (u := U) (U := U.calling g mk a) (Vm.Alike.refl U.vm) qK, qD⟩, va_recv hK hP (ci := 4) (q := (RX2, TX2, 3)) rfl (q0 := 26 + j_7) (cw_at hj_7), fun U hU hW => ⟨rfl, by rw [hU], by rw [hU]; exact hP, va_K.moved hW.alike hK, ((cw_D hD : va_D A (cw_W c kc st lg ai al R9_4))).weaken (fun _ _ _ _ => trivial)⟩⟩ rfl rfl hl.1 rfl (lv_room (Nat.le_of_ble_eq_true rfl)) dX1_countPages_26 ⟨Nat.le_of_ble_eq_true rfl, Nat.le_of_ble_eq_true rfl⟩) hS (fun q _ h => hFc q h) hFc (fun r_8 ur_8 t H1 locs ht hvm er_8 hB hz1 hk1 hS => ?_)
            subst er_8
            obtain ⟨R_8, hrt, hPI, hmo, hD1, hP1⟩ := hB
            rw [ht] at hP1
            clear hz1 hk1 hvm hP
            subst ht
            have hP := hP1
            clear hP1
            generalize t.heap = H at hP hS ⊢
            have hP : va_P (dC, dI) vwCl (cw_W c kc st lg ai al R_8) H := hP
            have hD : va_D A (cw_W c kc st lg ai al R_8) := cw_D (hD1.weaken (fun _ _ _ h => hFc _ h))
            have hPI : PI (kc 98) (kc 0) (c 99) (st 13) cap num none R_8 := hPI
            clear hFc hD1
            have hM_x_5 := hmo _ _ hM_x_5
            have hmono : ∀ y m, pgM (kc 0) R y m → pgM (kc 0) R_8 y m := fun y m h => hmo y m (hmono y m h)
            have hrt : r_8.toInt = 2 → pgRt (kc 0) R_8 x_5 := hrt
            refine lv_iload_n hx hb dX1_countPages_29 rfl (lv_at hl 3 rfl) ?_
            refine lv_icmp_ne (tgt := 36) hx hb dX1_countPages_30 (by decide) (fun c_9 => ?_) (fun c_9 => ?_)
            · skip
              have ic_9 := iv_ne c_9
              obtain ⟨x_10, ex_10⟩ : ∃ z : Int32, z = l3_4 + (1) := ⟨_, rfl⟩
              refine lv_iinc (v := x_10) (lv' := [(3, .int x_10), (2, .int l2_4), (0, .ref (c 102)), (1, .int p0)]) hx hb dX1_countPages_36 hl (k := 0) rfl (by rw [ex_10]; rfl) (by decide) rfl (fun ls hl => ?_)
              have rg1 := iv_rng l3_4
              have hx_10 : x_10.toInt = l3_4.toInt + (1) := by rw [ex_10]; exact (iv_add (by omega) (by omega)).trans (by omega)
              clear ex_10
              refine lv_goto (tgt := 4) hx hb dX1_countPages_39 (by decide) ?_
              exact ih4 x_10 l2_4 R_8 _ _ _ (by omega) (by omega) (by omega) (by omega) hPI (cw_D hD) hmono (by omega) hP hS (lv_sub hl [0, 1, 2, 3] rfl)
            · skip
              have ic_9 := iv_eq c_9
              obtain ⟨x_11, ex_11⟩ : ∃ z : Int32, z = l2_4 + (1) := ⟨_, rfl⟩
              refine lv_iinc (v := x_11) (lv' := [(2, .int x_11), (3, .int l3_4), (0, .ref (c 102)), (1, .int p0)]) hx hb dX1_countPages_33 hl (k := 1) rfl (by rw [ex_11]; rfl) (by decide) rfl (fun ls hl => ?_)
              have rg2 := iv_rng l2_4
              have hx_11 : x_11.toInt = l2_4.toInt + (1) := by rw [ex_11]; exact (iv_add (by omega) (by omega)).trans (by omega)
              clear ex_11
              obtain ⟨x_12, ex_12⟩ : ∃ z : Int32, z = l3_4 + (1) := ⟨_, rfl⟩
              refine lv_iinc (v := x_12) (lv' := [(3, .int x_12), (2, .int x_11), (0, .ref (c 102)), (1, .int p0)]) hx hb dX1_countPages_36 hl (k := 1) rfl (by rw [ex_12]; rfl) (by decide) rfl (fun ls hl => ?_)
              have rg3 := iv_rng l3_4
              have hx_12 : x_12.toInt = l3_4.toInt + (1) := by rw [ex_12]; exact (iv_add (by omega) (by omega)).trans (by omega)
              clear ex_12
              refine lv_goto (tgt := 4) hx hb dX1_countPages_39 (by decide) ?_
              exact ih4 x_12 x_11 R_8 _ _ _ (by omega) (by omega) (by omega) (by omega) hPI (cw_D hD) hmono (by omega) hP hS (lv_sub hl [0, 1, 2, 3] rfl)
    exact loop4 (((st 13).toInt - 0 : Int).toNat + 1) (0 : Int32) (0 : Int32) R _ _ _ (by omega) (by omega) (by omega) (by omega) hPI (cw_D hD) hmono (by omega) hP hS (lv_sub hl [0, 1, 2, 3] rfl)
  exact main s.heap [] hP hS

set_option maxHeartbeats 4000000 in
set_option maxRecDepth 100000 in
theorem v_X1_freePages (l : Launch) (dC : Nat → ClassId) (dI : Nat → Nat → Nat) (c : Nat → Nat) (kc : Nat → ClassId) (st : Nat → Int32) (lg : Nat → Int64) (ai : Nat → Nat → Int32) (al : Nat → Nat → Int64) (R : va_W) (cap : Nat) (num : Nat → Int32)  (sz : Nat) (hPI : PI (kc 98) (kc 0) (c 99) (st 13) cap num none R) (hf6a : 1 ≤ (st 6).toInt) (hf6b : (st 6).toInt ≤ 65536) (hf13a : 0 ≤ (st 13).toInt) (hf13b : (st 13).toInt ≤ 65536) : Met l yX1_freePages wsX1_freePages ({ frames := 5, cells := 0, slots := 0, locals := 119 }) (va_Pc [.ref (c 102)] (fun U => U.heap.size = sz ∧ va_P (dC, dI) vwCl (cw_W c kc st lg ai al R) U.heap ∧ va_K (dC, dI) vwCl (cw_T kc) U ∧ va_D (fun _ => True) (cw_W c kc st lg ai al R) ∧ gx_E (va_A (cw_W c kc st lg ai al R) sz) U)) (va_Qi (fun r (u : Int32) => r = u) (fun u t => ∃ (R9 : va_W), (PI (kc 98) (kc 0) (c 99) (st 13) cap num none R9) ∧ (∀ y m, pgM (kc 0) R y m → pgM (kc 0) R9 y m) ∧ (va_D (va_A (cw_W c kc st lg ai al R) sz) (cw_W c kc st lg ai al R9)) ∧ va_P (dC, dI) vwCl (cw_W c kc st lg ai al R9) t.heap) (va_A (cw_W c kc st lg ai al R) sz)) 0 0 (va_A (cw_W c kc st lg ai al R) sz) := by
  refine Met.ofW (cc := cX1_freePages) (maxL := 1) (ret := (some .int)) (by decide) rfl ?_
  intro p e s m args below meth cM s₁ B hml hv
  obtain ⟨rfl, hsz, hP, hK, hD0, hG⟩ := hv
  have hx := B.exec
  have hb := B.bytes
  have hr := B.returns
  have hts := atoms_spec (ws := wsX1_freePages) B.pre
  have hown : s.vm.findClass RX1 = some m.cls := findClass_of_methodNamed B.named
  have hGW := hG.1
  subst hsz
  have hD := hD0.self (sz := s.heap.size)
  generalize hAe : va_A (cw_W c kc st lg ai al R) s.heap.size = A at hD hG ⊢
  have hA : ∀ q : Nat, s.heap.size ≤ q → A q := fun q h => by rw [← hAe]; exact Or.inr h
  have hS : va_S A s.heap s.heap [] := va_S.rf
  clear hAe hD0
  have hl := lv_entry ([.ref (c 102)]) (n := 1) (Nat.le_of_ble_eq_true rfl)
  rw [lg_entry_eq]
  generalize (lg_sl ([.ref (c 102)]) ++ List.replicate (1 - (lg_sl ([.ref (c 102)])).length) Slot.unset).toArray = ls at hl ⊢
  have hl : lv_has ls 1 [(0, .ref (c 102))] := hl
  have z_1 : (1 : Int32).toInt = 1 := by decide
  have hin_X1 : ∀ w ∈ u_ws RX1 TX1 7, w ∈ wsX1_freePages := by decide +kernel
  have hmono : ∀ y m, pgM (kc 0) R y m → pgM (kc 0) R y m := fun y m h => h
  have main : ∀ (H : Heap) (locs : List Loc), va_P (dC, dI) vwCl (cw_W c kc st lg ai al R) H → va_S A s.heap H locs → W p l e (headSpec wsX1_freePages ({ frames := 5, cells := 0, slots := 0, locals := 119 })).room s m ([.ref (c 102)] : List Value).toArray below meth cM H locs 0 0 (MQ below (va_Qi (fun r (u : Int32) => r = u) (fun u t => ∃ (R9 : va_W), (PI (kc 98) (kc 0) (c 99) (st 13) cap num none R9) ∧ (∀ y m, pgM (kc 0) R y m → pgM (kc 0) R9 y m) ∧ (va_D A (cw_W c kc st lg ai al R9)) ∧ va_P (dC, dI) vwCl (cw_W c kc st lg ai al R9) t.heap) A) ([.ref (c 102)] : List Value).toArray s 0 0 A) (F0 m 0 ls []) := by
    intro H locs hP hS
    refine lv_aload_n hx hb dX1_freePages_0 rfl (lv_at hl 0 rfl) ?_
    refine va_get (D := (dC, dI)) (ci := 3) (v := .int (st 6)) (C := RX1) (T := TX1) (N := 7) hx hb hts hin_X1 hown hK hP 2 rfl rfl 0 (by decide) (hts (.fieldLink RX1 9 "BlockLog$Disk" "pageCount" "I") (by decide +kernel)) (fun _ h9 => h9) rfl dX1_freePages_1 ?_
    refine lv_aload_n hx hb dX1_freePages_4 rfl (lv_at hl 0 rfl) ?_
    refine va_get (D := (dC, dI)) (ci := 3) (v := .ref (c 103)) (C := RX1) (T := TX1) (N := 7) hx hb hts hin_X1 hown hK hP 2 rfl rfl 3 (by decide) (hts (.fieldLink RX1 25 "BlockLog$Disk" "touched" "Ljava/util/ArrayList;") (by decide +kernel)) (fun _ h9 => h9) rfl dX1_freePages_5 ?_
    refine vp_callSi (va_Run.run (va_runV (As := []) (rest := [.int (st 6)]) ⟨hx, hb, hml, hown, hts⟩ (v_Jx4a65c_size_8abf5 l dC dI c kc st lg ai al R  (show 0 ≤ (st 13).toInt by omega) (show (st 13).toInt ≤ 65536 by omega)) (cwV 0 hts gX1_freePages_Jx4a65c_size_8abf5 rfl rfl rfl (by decide +kernel) ⟨Nat.le_of_ble_eq_true rfl, Nat.le_of_ble_eq_true rfl⟩) ⟨fun a U g mk q => by obtain ⟨q0, qP, qK⟩ := q; exact ⟨q0, qP, va_K.moved (u := U) (U := U.calling g mk a) (Vm.Alike.refl U.vm) qK⟩, va_recv hK hP (ci := 2) (q := (RJx4a65c, TJx4a65c, 3)) rfl (q0 := 3) rfl, fun U hU hW => ⟨rfl, by rw [hU]; exact hP, va_K.moved hW.alike hK⟩⟩ rfl rfl hl.1 rfl (lv_room (Nat.le_of_ble_eq_true rfl)) dX1_freePages_8 ⟨Nat.le_of_ble_eq_true rfl, Nat.le_of_ble_eq_true rfl⟩)) (fun r_1 er_1 => ?_)
    have k_2 := er_1
    have k_2 : r_1.toInt = (st 13).toInt := k_2
    refine lv_isub hx hb dX1_freePages_11 ?_
    refine lv_topi (fun v_3 ev_3 => ?_)
    have rg1 := iv_rng (st 6)
    have rg2 := iv_rng r_1
    have hv_3 : v_3.toInt = (st 6).toInt - r_1.toInt := by rw [ev_3]; exact (iv_sub (by omega) (by omega)).trans (by omega)
    clear ev_3
    refine lv_aload_n hx hb dX1_freePages_12 rfl (lv_at hl 0 rfl) ?_
    refine lv_iconst (v := 1) hx hb dX1_freePages_13 (by decide) ?_
    have hFc := vfree ((cw_D hD : va_D A (cw_W c kc st lg ai al R)) : va_D A (cw_W c kc st lg ai al R)) hS hA
    refine va_calli (va_runV (As := [.int (1 : Int32)]) (rest := [.int v_3]) ⟨hx, hb, hml, hown, hts⟩ (v_X1_countPages l dC dI c kc st lg ai al R cap num (1 : Int32) _ hPI (show 0 ≤ (st 13).toInt by omega) (show (st 13).toInt ≤ 65536 by omega)) (cwV 1 hts gX1_freePages_X1_countPages rfl rfl rfl (by decide +kernel) ⟨Nat.le_of_ble_eq_true rfl, Nat.le_of_ble_eq_true rfl⟩) ⟨fun a U g mk q => by obtain ⟨q0, q1, qP, qK, qD, qG⟩ := q; exact ⟨q0, q1, qP, va_K.moved (u := U) (U := U.calling g mk a) (Vm.Alike.refl U.vm) qK, qD, qG.same rfl rfl⟩, va_recv hK hP (ci := 3) (q := (RX1, TX1, 7)) rfl (q0 := 2) rfl, fun U hU hW => ⟨rfl, by rw [hU], by rw [hU]; exact hP, va_K.moved hW.alike hK, ((cw_D hD : va_D A (cw_W c kc st lg ai al R))).weaken (fun _ _ _ _ => trivial), hG.go hW hU hS hFc⟩⟩ rfl rfl hl.1 rfl (lv_room (Nat.le_of_ble_eq_true rfl)) dX1_freePages_14 ⟨Nat.le_of_ble_eq_true rfl, Nat.le_of_ble_eq_true rfl⟩) hS (fun q _ h => hFc q h) hFc (fun r_4 ur_4 t H1 locs ht hvm er_4 hB hz1 hk1 hS => ?_)
    subst er_4
    obtain ⟨R_4, k_5, k_6, hPI, hmo, hD1, hP1⟩ := hB
    rw [ht] at hP1
    clear hz1 hk1 hvm hP
    subst ht
    have hP := hP1
    clear hP1
    generalize t.heap = H at hP hS ⊢
    have hP : va_P (dC, dI) vwCl (cw_W c kc st lg ai al R_4) H := hP
    have hD : va_D A (cw_W c kc st lg ai al R_4) := cw_D (hD1.weaken (fun _ _ _ h => hFc _ h))
    have hPI : PI (kc 98) (kc 0) (c 99) (st 13) cap num none R_4 := hPI
    clear hFc hD1
    have hmono : ∀ y m, pgM (kc 0) R y m → pgM (kc 0) R_4 y m := fun y m h => hmo y m (hmono y m h)
    have k_6 : r_4.toInt ≤ (st 13).toInt := k_6
    refine lv_iadd hx hb dX1_freePages_17 ?_
    refine lv_topi (fun v_7 ev_7 => ?_)
    have rg3 := iv_rng v_3
    have rg4 := iv_rng r_4
    have hv_7 : v_7.toInt = v_3.toInt + r_4.toInt := by rw [ev_7]; exact (iv_add (by omega) (by omega)).trans (by omega)
    clear ev_7
    exact W.iret hx hb hr (fun t ht hW => ⟨⟨_, _, rfl, rfl, R_4, hPI, hmono, (cw_D hD), by rw [ht]; exact hP⟩, hS.F ht⟩) hS.2.2 dX1_freePages_18
  exact main s.heap [] hP hS

set_option maxHeartbeats 4000000 in
set_option maxRecDepth 100000 in
theorem v_X1_badPages (l : Launch) (dC : Nat → ClassId) (dI : Nat → Nat → Nat) (c : Nat → Nat) (kc : Nat → ClassId) (st : Nat → Int32) (lg : Nat → Int64) (ai : Nat → Nat → Int32) (al : Nat → Nat → Int64) (R : va_W) (cap : Nat) (num : Nat → Int32)  (sz : Nat) (hPI : PI (kc 98) (kc 0) (c 99) (st 13) cap num none R) (hf13a : 0 ≤ (st 13).toInt) (hf13b : (st 13).toInt ≤ 65536) : Met l yX1_badPages wsX1_badPages ({ frames := 5, cells := 0, slots := 0, locals := 119 }) (va_Pc [.ref (c 102)] (fun U => U.heap.size = sz ∧ va_P (dC, dI) vwCl (cw_W c kc st lg ai al R) U.heap ∧ va_K (dC, dI) vwCl (cw_T kc) U ∧ va_D (fun _ => True) (cw_W c kc st lg ai al R) ∧ gx_E (va_A (cw_W c kc st lg ai al R) sz) U)) (va_Qi (fun r (u : Int32) => r = u) (fun u t => ∃ (R9 : va_W), (PI (kc 98) (kc 0) (c 99) (st 13) cap num none R9) ∧ (∀ y m, pgM (kc 0) R y m → pgM (kc 0) R9 y m) ∧ (va_D (va_A (cw_W c kc st lg ai al R) sz) (cw_W c kc st lg ai al R9)) ∧ va_P (dC, dI) vwCl (cw_W c kc st lg ai al R9) t.heap) (va_A (cw_W c kc st lg ai al R) sz)) 0 0 (va_A (cw_W c kc st lg ai al R) sz) := by
  refine Met.ofW (cc := cX1_badPages) (maxL := 1) (ret := (some .int)) (by decide) rfl ?_
  intro p e s m args below meth cM s₁ B hml hv
  obtain ⟨rfl, hsz, hP, hK, hD0, hG⟩ := hv
  have hx := B.exec
  have hb := B.bytes
  have hr := B.returns
  have hts := atoms_spec (ws := wsX1_badPages) B.pre
  have hown : s.vm.findClass RX1 = some m.cls := findClass_of_methodNamed B.named
  have hGW := hG.1
  subst hsz
  have hD := hD0.self (sz := s.heap.size)
  generalize hAe : va_A (cw_W c kc st lg ai al R) s.heap.size = A at hD hG ⊢
  have hA : ∀ q : Nat, s.heap.size ≤ q → A q := fun q h => by rw [← hAe]; exact Or.inr h
  have hS : va_S A s.heap s.heap [] := va_S.rf
  clear hAe hD0
  have hl := lv_entry ([.ref (c 102)]) (n := 1) (Nat.le_of_ble_eq_true rfl)
  rw [lg_entry_eq]
  generalize (lg_sl ([.ref (c 102)]) ++ List.replicate (1 - (lg_sl ([.ref (c 102)])).length) Slot.unset).toArray = ls at hl ⊢
  have hl : lv_has ls 1 [(0, .ref (c 102))] := hl
  have z_4 : (4 : Int32).toInt = 4 := by decide
  have hmono : ∀ y m, pgM (kc 0) R y m → pgM (kc 0) R y m := fun y m h => h
  have main : ∀ (H : Heap) (locs : List Loc), va_P (dC, dI) vwCl (cw_W c kc st lg ai al R) H → va_S A s.heap H locs → W p l e (headSpec wsX1_badPages ({ frames := 5, cells := 0, slots := 0, locals := 119 })).room s m ([.ref (c 102)] : List Value).toArray below meth cM H locs 0 0 (MQ below (va_Qi (fun r (u : Int32) => r = u) (fun u t => ∃ (R9 : va_W), (PI (kc 98) (kc 0) (c 99) (st 13) cap num none R9) ∧ (∀ y m, pgM (kc 0) R y m → pgM (kc 0) R9 y m) ∧ (va_D A (cw_W c kc st lg ai al R9)) ∧ va_P (dC, dI) vwCl (cw_W c kc st lg ai al R9) t.heap) A) ([.ref (c 102)] : List Value).toArray s 0 0 A) (F0 m 0 ls []) := by
    intro H locs hP hS
    refine lv_aload_n hx hb dX1_badPages_0 rfl (lv_at hl 0 rfl) ?_
    refine lv_iconst (v := 4) hx hb dX1_badPages_1 (by decide) ?_
    have hFc := vfree ((cw_D hD : va_D A (cw_W c kc st lg ai al R)) : va_D A (cw_W c kc st lg ai al R)) hS hA
    refine va_calli (va_runV (As := [.int (4 : Int32)]) (rest := []) ⟨hx, hb, hml, hown, hts⟩ (v_X1_countPages l dC dI c kc st lg ai al R cap num (4 : Int32) _ hPI (show 0 ≤ (st 13).toInt by omega) (show (st 13).toInt ≤ 65536 by omega)) (cwV 1 hts gX1_badPages_X1_countPages rfl rfl rfl (by decide +kernel) ⟨Nat.le_of_ble_eq_true rfl, Nat.le_of_ble_eq_true rfl⟩) ⟨fun a U g mk q => by obtain ⟨q0, q1, qP, qK, qD, qG⟩ := q; exact ⟨q0, q1, qP, va_K.moved (u := U) (U := U.calling g mk a) (Vm.Alike.refl U.vm) qK, qD, qG.same rfl rfl⟩, va_recv hK hP (ci := 3) (q := (RX1, TX1, 7)) rfl (q0 := 2) rfl, fun U hU hW => ⟨rfl, by rw [hU], by rw [hU]; exact hP, va_K.moved hW.alike hK, ((cw_D hD : va_D A (cw_W c kc st lg ai al R))).weaken (fun _ _ _ _ => trivial), hG.go hW hU hS hFc⟩⟩ rfl rfl hl.1 rfl (lv_room (Nat.le_of_ble_eq_true rfl)) dX1_badPages_2 ⟨Nat.le_of_ble_eq_true rfl, Nat.le_of_ble_eq_true rfl⟩) hS (fun q _ h => hFc q h) hFc (fun r_1 ur_1 t H1 locs ht hvm er_1 hB hz1 hk1 hS => ?_)
    subst er_1
    obtain ⟨R_1, k_2, k_3, hPI, hmo, hD1, hP1⟩ := hB
    rw [ht] at hP1
    clear hz1 hk1 hvm hP
    subst ht
    have hP := hP1
    clear hP1
    generalize t.heap = H at hP hS ⊢
    have hP : va_P (dC, dI) vwCl (cw_W c kc st lg ai al R_1) H := hP
    have hD : va_D A (cw_W c kc st lg ai al R_1) := cw_D (hD1.weaken (fun _ _ _ h => hFc _ h))
    have hPI : PI (kc 98) (kc 0) (c 99) (st 13) cap num none R_1 := hPI
    clear hFc hD1
    have hmono : ∀ y m, pgM (kc 0) R y m → pgM (kc 0) R_1 y m := fun y m h => hmo y m (hmono y m h)
    have k_3 : r_1.toInt ≤ (st 13).toInt := k_3
    exact W.iret hx hb hr (fun t ht hW => ⟨⟨_, _, rfl, rfl, R_1, hPI, hmono, (cw_D hD), by rw [ht]; exact hP⟩, hS.F ht⟩) hS.2.2 dX1_badPages_5
  exact main s.heap [] hP hS
