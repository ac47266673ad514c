set_option maxHeartbeats 4000000 in
set_option maxRecDepth 100000 in
theorem v_X6_hearCertificate (l : Launch) (dC : Nat → ClassId) (dI : Nat → Nat → Nat) (c : Nat → Nat) (kc : Nat → ClassId) (st : Nat → Int32) (lg : Nat → Int64) (ai : Nat → Nat → Int32) (al : Nat → Nat → Int64) (R : va_W) (p0 : Int32) (sz : Nat) (hf15a : 0 ≤ (st 15).toInt) (hf15b : (st 15).toInt ≤ 1) (hf25a : 0 ≤ (st 25).toInt) (hf25b : (st 25).toInt ≤ 128) (hf26a : 0 ≤ (st 26).toInt) (hf26b : (st 26).toInt ≤ 128) (hf28a : 0 ≤ (st 28).toInt) (hf28b : (st 28).toInt ≤ 1) (hq0 : 0 ≤ p0.toInt) (hq1 : p0.toInt ≤ 127) (hR23 : aR (ai 23) 128 (0) 127) : Met l yX6_hearCertificate wsX6_hearCertificate ({ frames := 3, cells := 0, slots := 0, locals := 66 }) (va_Pc [.ref (c 105), .int p0] (fun U => U.heap.size = sz ∧ va_P (dC, dI) vwCl (cw_W c kc st lg ai al R) U.heap ∧ va_K (dC, dI) vwCl (cw_T kc) U ∧ va_D (fun _ => True) (cw_W c kc st lg ai al R) ∧ gx_E (va_A (cw_W c kc st lg ai al R) sz) U)) (va_Qv (fun (_ : Unit) => True) (fun _ t => ∃ (x26 : Int32) (f22 : Nat → Int32) (f23 : Nat → Int32), (0 ≤ x26.toInt) ∧ (x26.toInt ≤ 128) ∧ (aR f23 128 (0) 127) ∧ va_P (dC, dI) vwCl (cw_W c kc (rU st 26 x26) lg (rU (rU ai 22 f22) 23 f23) al R) t.heap) (va_A (cw_W c kc st lg ai al R) sz)) 0 0 (va_A (cw_W c kc st lg ai al R) sz) := by
  refine Met.ofW (cc := cX6_hearCertificate) (maxL := 3) (ret := none) (by decide) rfl ?_
  intro p e s m args below meth cM s₁ B hml hv
  obtain ⟨rfl, hsz, hP, hK, hD0, hG⟩ := hv
  have hx := B.exec
  have hb := B.bytes
  have hr := B.returns
  have hts := atoms_spec (ws := wsX6_hearCertificate) B.pre
  have hown : s.vm.findClass RX6 = some m.cls := findClass_of_methodNamed B.named
  have hGW := hG.1
  subst hsz
  have hD := hD0.self (sz := s.heap.size)
  generalize hAe : va_A (cw_W c kc st lg ai al R) s.heap.size = A at hD hG ⊢
  have hA : ∀ q : Nat, s.heap.size ≤ q → A q := fun q h => by rw [← hAe]; exact Or.inr h
  have hS : va_S A s.heap s.heap [] := va_S.rf
  clear hAe hD0
  have hl := lv_entry ([.ref (c 105), .int p0]) (n := 3) (Nat.le_of_ble_eq_true rfl)
  rw [lg_entry_eq]
  generalize (lg_sl ([.ref (c 105), .int p0]) ++ List.replicate (3 - (lg_sl ([.ref (c 105), .int p0])).length) Slot.unset).toArray = ls at hl ⊢
  have hl : lv_has ls 3 [(0, .ref (c 105)), (1, .int p0)] := hl
  have z_m1 : (-1 : Int32).toInt = -1 := by decide
  have z_0 : (0 : Int32).toInt = 0 := by decide
  have z_1 : (1 : Int32).toInt = 1 := by decide
  have z_128 : (128 : Int32).toInt = 128 := by decide
  have hin_X6 : ∀ w ∈ u_ws RX6 TX6 12, w ∈ wsX6_hearCertificate := by decide +kernel
  have main : ∀ (H : Heap) (locs : List Loc), va_P (dC, dI) vwCl (cw_W c kc st lg ai al R) H → va_S A s.heap H locs → W p l e (headSpec wsX6_hearCertificate ({ frames := 3, cells := 0, slots := 0, locals := 66 })).room s m ([.ref (c 105), .int p0] : List Value).toArray below meth cM H locs 0 0 (MQ below (va_Qv (fun (_ : Unit) => True) (fun _ t => ∃ (x26 : Int32) (f22 : Nat → Int32) (f23 : Nat → Int32), (0 ≤ x26.toInt) ∧ (x26.toInt ≤ 128) ∧ (aR f23 128 (0) 127) ∧ va_P (dC, dI) vwCl (cw_W c kc (rU st 26 x26) lg (rU (rU ai 22 f22) 23 f23) al R) t.heap) A) ([.ref (c 105), .int p0] : List Value).toArray s 0 0 A) (F0 m 0 ls []) := by
    intro H locs hP hS
    refine lv_aload_n hx hb dX6_hearCertificate_0 rfl (lv_at hl 0 rfl) ?_
    refine lv_aload_n hx hb dX6_hearCertificate_1 rfl (lv_at hl 0 rfl) ?_
    refine va_get (D := (dC, dI)) (ci := 8) (v := .ref (c 104)) (C := RX6) (T := TX6) (N := 12) hx hb hts hin_X6 hown hK hP 5 rfl rfl 0 (by decide) (hts (.fieldLink RX6 9 "BlockLog$Story" "rows" "LBlockLog$Rows;") (by decide +kernel)) (fun _ h9 => h9) rfl dX6_hearCertificate_2 ?_
    refine lv_iload_n hx hb dX6_hearCertificate_5 rfl (lv_at hl 1 rfl) ?_
    refine vp_callSl (va_Run.run (va_runV (As := [.int p0]) (rest := [.ref (c 105)]) ⟨hx, hb, hml, hown, hts⟩ (v_X4_c l dC dI c kc st lg ai al R p0 (show 0 ≤ (st 15).toInt by omega) (show (st 15).toInt ≤ 1 by omega) (by omega) (by omega)) (cwV 1 hts gX6_hearCertificate_X4_c rfl rfl rfl (by decide +kernel) ⟨Nat.le_of_ble_eq_true rfl, Nat.le_of_ble_eq_true rfl⟩) ⟨fun a U g mk q => by obtain ⟨q0, qP, qK, qG⟩ := q; exact ⟨q0, qP, va_K.moved (u := U) (U := U.calling g mk a) (Vm.Alike.refl U.vm) qK, qG.same rfl⟩, va_recv hK hP (ci := 6) (q := (RX4, TX4, 6)) rfl (q0 := 4) rfl, fun U hU hW => ⟨rfl, by rw [hU]; exact hP, va_K.moved hW.alike hK, hGW.warm hW⟩⟩ rfl rfl hl.1 rfl (lv_room (Nat.le_of_ble_eq_true rfl)) dX6_hearCertificate_6 ⟨Nat.le_of_ble_eq_true rfl, Nat.le_of_ble_eq_true rfl⟩)) (fun r_1 er_1 => ?_)
    refine vp_callSi (va_Run.run (va_runV (As := [.long r_1]) (rest := []) ⟨hx, hb, hml, hown, hts⟩ (v_X6_blockRow l dC dI c kc st lg ai al R r_1 (show 0 ≤ (st 25).toInt by omega) (show (st 25).toInt ≤ 128 by omega)) (cwV 1 hts gX6_hearCertificate_X6_blockRow rfl rfl rfl (by decide +kernel) ⟨Nat.le_of_ble_eq_true rfl, Nat.le_of_ble_eq_true rfl⟩) ⟨fun a U g mk q => by obtain ⟨q0, qP, qK⟩ := q; exact ⟨q0, qP, va_K.moved (u := U) (U := U.calling g mk a) (Vm.Alike.refl U.vm) qK⟩, va_recv hK hP (ci := 8) (q := (RX6, TX6, 12)) rfl (q0 := 5) rfl, fun U hU hW => ⟨rfl, by rw [hU]; exact hP, va_K.moved hW.alike hK⟩⟩ rfl rfl hl.1 rfl (lv_room (Nat.le_of_ble_eq_true rfl)) dX6_hearCertificate_9 ⟨Nat.le_of_ble_eq_true rfl, Nat.le_of_ble_eq_true rfl⟩)) (fun r_2 er_2 => ?_)
    obtain ⟨k_3, k_4⟩ := er_2
    have k_4 : r_2.toInt < (st 25).toInt := k_4
    refine lv_istore_n (lv' := [(2, .int r_2), (0, .ref (c 105)), (1, .int p0)]) hx hb dX6_hearCertificate_12 rfl hl (by decide) rfl (fun ls hl => ?_)
    refine lv_iload_n hx hb dX6_hearCertificate_13 rfl (lv_at hl 0 rfl) ?_
    refine lv_iconst (v := (-1)) hx hb dX6_hearCertificate_14 (by decide) ?_
    refine lv_icmp_eq (tgt := 63) hx hb dX6_hearCertificate_15 (by decide) (fun c_5 => ?_) (fun c_5 => ?_)
    · skip
      have ic_5 := iv_eq c_5
      exact W.vret hx hb hr (fun t ht hW => ⟨⟨(), rfl, trivial, st 26, ai 22, ai 23, (by omega), (by omega), hR23, by rw [ht]; exact hP⟩, hS.F ht⟩) hS.2.2 dX6_hearCertificate_63
    · skip
      have ic_5 := iv_ne c_5
      refine lv_aload_n hx hb dX6_hearCertificate_18 rfl (lv_at hl 1 rfl) ?_
      refine lv_iload_n hx hb dX6_hearCertificate_19 rfl (lv_at hl 0 rfl) ?_
      refine vp_callSi (va_Run.run (va_runV (As := [.int r_2]) (rest := []) ⟨hx, hb, hml, hown, hts⟩ (v_X6_isNext l dC dI c kc st lg ai al R r_2 (show 0 ≤ (st 15).toInt by omega) (show (st 15).toInt ≤ 1 by omega) (show 0 ≤ (st 26).toInt by omega) (show (st 26).toInt ≤ 128 by omega) (show 0 ≤ (st 28).toInt by omega) (show (st 28).toInt ≤ 1 by omega) (by omega) (by omega) (show aR (ai 23) 128 (0) 127 from hR23)) (cwV 1 hts gX6_hearCertificate_X6_isNext rfl rfl rfl (by decide +kernel) ⟨Nat.le_of_ble_eq_true rfl, Nat.le_of_ble_eq_true rfl⟩) ⟨fun a U g mk q => by obtain ⟨q0, qP, qK, qG⟩ := q; exact ⟨q0, qP, va_K.moved (u := U) (U := U.calling g mk a) (Vm.Alike.refl U.vm) qK, qG.same rfl⟩, va_recv hK hP (ci := 8) (q := (RX6, TX6, 12)) rfl (q0 := 5) rfl, fun U hU hW => ⟨rfl, by rw [hU]; exact hP, va_K.moved hW.alike hK, hGW.warm hW⟩⟩ rfl rfl hl.1 rfl (lv_room (Nat.le_of_ble_eq_true rfl)) dX6_hearCertificate_20 ⟨Nat.le_of_ble_eq_true rfl, Nat.le_of_ble_eq_true rfl⟩)) (fun r_6 er_6 => ?_)
      obtain ⟨k_7, k_8⟩ := er_6
      rcases iv_01 (a := r_6) (by omega) (by omega) with b_9 | b_9
      · skip
        have ib_9 := iv_eq b_9
        rw [b_9]
        refine lv_if_eq (tgt := 63) hx hb dX6_hearCertificate_23 (by decide) (fun c_10 => ?_) (fun c_10 => ?_)
        · skip
          have ic_10 := iv_eq c_10
          exact W.vret hx hb hr (fun t ht hW => ⟨⟨(), rfl, trivial, st 26, ai 22, ai 23, (by omega), (by omega), hR23, by rw [ht]; exact hP⟩, hS.F ht⟩) hS.2.2 dX6_hearCertificate_63
        · skip
          have ic_10 := iv_ne c_10
          exfalso
          omega
      · skip
        have ib_9 := iv_eq b_9
        rw [b_9]
        refine lv_if_eq (tgt := 63) hx hb dX6_hearCertificate_23 (by decide) (fun c_11 => ?_) (fun c_11 => ?_)
        · skip
          have ic_11 := iv_eq c_11
          exfalso
          omega
        · skip
          have ic_11 := iv_ne c_11
          refine lv_aload_n hx hb dX6_hearCertificate_26 rfl (lv_at hl 1 rfl) ?_
          refine va_get (D := (dC, dI)) (ci := 8) (v := .int (st 26)) (C := RX6) (T := TX6) (N := 12) hx hb hts hin_X6 hown hK hP 5 rfl rfl 8 (by decide) (hts (.fieldLink RX6 40 "BlockLog$Story" "certified" "I") (by decide +kernel)) (fun _ h9 => h9) rfl dX6_hearCertificate_27 ?_
          refine lv_sipush (v := 128) hx hb dX6_hearCertificate_30 (by decide) ?_
          refine lv_icmp_ge (tgt := 63) hx hb dX6_hearCertificate_33 (by decide) (fun c_12 => ?_) (fun c_12 => ?_)
          · skip
            have ic_12 := iv_le c_12
            exact W.vret hx hb hr (fun t ht hW => ⟨⟨(), rfl, trivial, st 26, ai 22, ai 23, (by omega), (by omega), hR23, by rw [ht]; exact hP⟩, hS.F ht⟩) hS.2.2 dX6_hearCertificate_63
          · skip
            have ic_12 := iv_nle c_12
            refine lv_aload_n hx hb dX6_hearCertificate_36 rfl (lv_at hl 1 rfl) ?_
            refine va_get (D := (dC, dI)) (ci := 8) (v := .ref (c 22)) (C := RX6) (T := TX6) (N := 12) hx hb hts hin_X6 hown hK hP 5 rfl rfl 4 (by decide) (hts (.fieldLink RX6 26 "BlockLog$Story" "fits" "[Z") (by decide +kernel)) (fun _ h9 => h9) rfl dX6_hearCertificate_37 ?_
            refine lv_iload_n hx hb dX6_hearCertificate_40 rfl (lv_at hl 2 rfl) ?_
            refine lv_iconst (v := 1) hx hb dX6_hearCertificate_41 (by decide) ?_
            refine va_zast (f := ai 22) hx hb hK hP (cw_D hD) hS 18 10 rfl rfl (iv_in (i := p0) (by omega) (by omega)) dX6_hearCertificate_42 (fun H locs hP _ hS => ?_)
            have hP : va_P (dC, dI) vwCl (cw_W c kc st lg (rU ai 22 (upd (ai 22) p0.toNatClampNeg (vp_nar .boolean (1 : Int32)))) al R) H := cw_a22 hP
            generalize hU_story_fits : upd (ai 22) p0.toNatClampNeg (vp_nar .boolean (1 : Int32)) = g_13 at hP
            clear hU_story_fits
            refine lv_aload_n hx hb dX6_hearCertificate_43 rfl (lv_at hl 1 rfl) ?_
            refine va_get (D := (dC, dI)) (ci := 8) (v := .ref (c 23)) (C := RX6) (T := TX6) (N := 12) hx hb hts hin_X6 hown hK hP 5 rfl rfl 5 (by decide) (hts (.fieldLink RX6 29 "BlockLog$Story" "chain" "[I") (by decide +kernel)) (fun _ h9 => h9) rfl dX6_hearCertificate_44 ?_
            refine lv_aload_n hx hb dX6_hearCertificate_47 rfl (lv_at hl 1 rfl) ?_
            refine va_get (D := (dC, dI)) (ci := 8) (v := .int (st 26)) (C := RX6) (T := TX6) (N := 12) hx hb hts hin_X6 hown hK hP 5 rfl rfl 8 (by decide) (hts (.fieldLink RX6 40 "BlockLog$Story" "certified" "I") (by decide +kernel)) (fun _ h9 => h9) rfl dX6_hearCertificate_48 ?_
            refine lv_iload_n hx hb dX6_hearCertificate_51 rfl (lv_at hl 0 rfl) ?_
            refine va_iast (f := ai 23) hx hb hK hP (cw_D hD) hS 19 11 rfl rfl (iv_in (i := st 26) (by omega) (by omega)) dX6_hearCertificate_52 (fun H locs hP _ hS => ?_)
            have hP : va_P (dC, dI) vwCl (cw_W c kc st lg (rU (rU ai 22 g_13) 23 (upd (ai 23) (st 26).toNatClampNeg r_2)) al R) H := cw_a23 hP
            generalize hU_story_chain : upd (ai 23) (st 26).toNatClampNeg r_2 = g_14 at hP
            have hR23 : aR g_14 128 (0) 127 := aR_upd hR23 hU_story_chain (by omega) (by omega)
            clear hU_story_chain
            refine lv_aload_n hx hb dX6_hearCertificate_53 rfl (lv_at hl 1 rfl) ?_
            refine lv_dup hx hb dX6_hearCertificate_54 rfl ?_
            refine va_get (D := (dC, dI)) (ci := 8) (v := .int (st 26)) (C := RX6) (T := TX6) (N := 12) hx hb hts hin_X6 hown hK hP 5 rfl rfl 8 (by decide) (hts (.fieldLink RX6 40 "BlockLog$Story" "certified" "I") (by decide +kernel)) (fun _ h9 => h9) rfl dX6_hearCertificate_55 ?_
            refine lv_iconst (v := 1) hx hb dX6_hearCertificate_58 (by decide) ?_
            refine lv_iadd hx hb dX6_hearCertificate_59 ?_
            refine lv_topi (fun v_15 ev_15 => ?_)
            have rg1 := iv_rng (st 26)
            have hv_15 : v_15.toInt = (st 26).toInt + 1 := by rw [ev_15]; exact (iv_add (by omega) (by omega)).trans (by omega)
            clear ev_15
            refine va_put (D := (dC, dI)) (ci := 8) (v := .int v_15) (ty := .int) (C := RX6) (T := TX6) (N := 12) hx hb hts hin_X6 tyX6 tyX6_ok nmX6 hown hK hP (cw_D hD) hS 5 rfl rfl 8 (by decide) (hts (.fieldLink RX6 40 "BlockLog$Story" "certified" "I") (by decide +kernel)) (fun _ h9 => h9) rfl (by decide +kernel) rfl rfl (Nat.le_of_ble_eq_true rfl) dX6_hearCertificate_60 (fun H locs hP _ hS => ?_)
            have hP : va_P (dC, dI) vwCl (cw_W c kc (rU st 26 v_15) lg (rU (rU ai 22 g_13) 23 g_14) al R) H := hP
            exact W.vret hx hb hr (fun t ht hW => ⟨⟨(), rfl, trivial, v_15, g_13, g_14, (by omega), (by omega), hR23, by rw [ht]; exact hP⟩, hS.F ht⟩) hS.2.2 dX6_hearCertificate_63
  exact main s.heap [] hP hS

set_option maxHeartbeats 4000000 in
set_option maxRecDepth 100000 in
theorem v_X6_hear (l : Launch) (dC : Nat → ClassId) (dI : Nat → Nat → Nat) (c : Nat → Nat) (kc : Nat → ClassId) (st : Nat → Int32) (lg : Nat → Int64) (ai : Nat → Nat → Int32) (al : Nat → Nat → Int64) (R : va_W)  (sz : Nat) (hf15a : 0 ≤ (st 15).toInt) (hf15b : (st 15).toInt ≤ 1) (hf17a : 0 ≤ (st 17).toInt) (hf17b : (st 17).toInt ≤ 128) (hf25a : 0 ≤ (st 25).toInt) (hf25b : (st 25).toInt ≤ 128) (hf26a : 0 ≤ (st 26).toInt) (hf26b : (st 26).toInt ≤ 128) (hf27a : -1 ≤ (st 27).toInt) (hf27b : (st 27).toInt ≤ 127) (hf28a : 0 ≤ (st 28).toInt) (hf28b : (st 28).toInt ≤ 1) (hR7 : aR (ai 7) 8224 (-128) 127) (hR23 : aR (ai 23) 128 (0) 127) : Met l yX6_hear wsX6_hear ({ frames := 4, cells := 0, slots := 0, locals := 100 }) (va_Pc [.ref (c 105)] (fun U => U.heap.size = sz ∧ va_P (dC, dI) vwCl (cw_W c kc st lg ai al R) U.heap ∧ va_K (dC, dI) vwCl (cw_T kc) U ∧ va_D (fun _ => True) (cw_W c kc st lg ai al R) ∧ gx_E (va_A (cw_W c kc st lg ai al R) sz) U)) (va_Qv (fun (_ : Unit) => True) (fun _ t => ∃ (x25 : Int32) (x26 : Int32) (x27 : Int32) (x28 : Int32) (x29 : Int32) (f20 : Nat → Int32) (f21 : Nat → Int32) (f22 : Nat → Int32) (f23 : Nat → Int32) (g19 : Nat → Int64), (0 ≤ x25.toInt) ∧ (x25.toInt ≤ 128) ∧ (0 ≤ x26.toInt) ∧ (x26.toInt ≤ 128) ∧ (-1 ≤ x27.toInt) ∧ (x27.toInt ≤ 127) ∧ (0 ≤ x28.toInt) ∧ (x28.toInt ≤ 1) ∧ (aR f23 128 (0) 127) ∧ va_P (dC, dI) vwCl (cw_W c kc (rU (rU (rU (rU (rU st 25 x25) 26 x26) 27 x27) 28 x28) 29 x29) lg (rU (rU (rU (rU ai 20 f20) 21 f21) 22 f22) 23 f23) (rU al 19 g19) R) t.heap) (va_A (cw_W c kc st lg ai al R) sz)) 0 0 (va_A (cw_W c kc st lg ai al R) sz) := by
  refine Met.ofW (cc := cX6_hear) (maxL := 3) (ret := none) (by decide) rfl ?_
  intro p e s m args below meth cM s₁ B hml hv
  obtain ⟨rfl, hsz, hP, hK, hD0, hG⟩ := hv
  have hx := B.exec
  have hb := B.bytes
  have hr := B.returns
  have hts := atoms_spec (ws := wsX6_hear) B.pre
  have hown : s.vm.findClass RX6 = some m.cls := findClass_of_methodNamed B.named
  have hGW := hG.1
  subst hsz
  have hD := hD0.self (sz := s.heap.size)
  generalize hAe : va_A (cw_W c kc st lg ai al R) s.heap.size = A at hD hG ⊢
  have hA : ∀ q : Nat, s.heap.size ≤ q → A q := fun q h => by rw [← hAe]; exact Or.inr h
  have hS : va_S A s.heap s.heap [] := va_S.rf
  clear hAe hD0
  have hl := lv_entry ([.ref (c 105)]) (n := 3) (Nat.le_of_ble_eq_true rfl)
  rw [lg_entry_eq]
  generalize (lg_sl ([.ref (c 105)]) ++ List.replicate (3 - (lg_sl ([.ref (c 105)])).length) Slot.unset).toArray = ls at hl ⊢
  have hl : lv_has ls 3 [(0, .ref (c 105))] := hl
  have z_0 : (0 : Int32).toInt = 0 := by decide
  have z_1 : (1 : Int32).toInt = 1 := by decide
  have z_2 : (2 : Int32).toInt = 2 := by decide
  have z_3 : (3 : Int32).toInt = 3 := by decide
  have z_4 : (4 : Int32).toInt = 4 := by decide
  have z_5 : (5 : Int32).toInt = 5 := by decide
  have hin_X4 : ∀ w ∈ u_ws RX4 TX4 6, w ∈ wsX6_hear := by decide +kernel
  have hin_X6 : ∀ w ∈ u_ws RX6 TX6 12, w ∈ wsX6_hear := by decide +kernel
  have main : ∀ (H : Heap) (locs : List Loc), va_P (dC, dI) vwCl (cw_W c kc st lg ai al R) H → va_S A s.heap H locs → W p l e (headSpec wsX6_hear ({ frames := 4, cells := 0, slots := 0, locals := 100 })).room s m ([.ref (c 105)] : List Value).toArray below meth cM H locs 0 0 (MQ below (va_Qv (fun (_ : Unit) => True) (fun _ t => ∃ (x25 : Int32) (x26 : Int32) (x27 : Int32) (x28 : Int32) (x29 : Int32) (f20 : Nat → Int32) (f21 : Nat → Int32) (f22 : Nat → Int32) (f23 : Nat → Int32) (g19 : Nat → Int64), (0 ≤ x25.toInt) ∧ (x25.toInt ≤ 128) ∧ (0 ≤ x26.toInt) ∧ (x26.toInt ≤ 128) ∧ (-1 ≤ x27.toInt) ∧ (x27.toInt ≤ 127) ∧ (0 ≤ x28.toInt) ∧ (x28.toInt ≤ 1) ∧ (aR f23 128 (0) 127) ∧ va_P (dC, dI) vwCl (cw_W c kc (rU (rU (rU (rU (rU st 25 x25) 26 x26) 27 x27) 28 x28) 29 x29) lg (rU (rU (rU (rU ai 20 f20) 21 f21) 22 f22) 23 f23) (rU al 19 g19) R) t.heap) A) ([.ref (c 105)] : List Value).toArray s 0 0 A) (F0 m 0 ls []) := by
    intro H locs hP hS
    refine lv_aload_n hx hb dX6_hear_0 rfl (lv_at hl 0 rfl) ?_
    refine va_get (D := (dC, dI)) (ci := 8) (v := .int (st 25)) (C := RX6) (T := TX6) (N := 12) hx hb hts hin_X6 hown hK hP 5 rfl rfl 7 (by decide) (hts (.fieldLink RX6 36 "BlockLog$Story" "heard" "I") (by decide +kernel)) (fun _ h9 => h9) rfl dX6_hear_1 ?_
    refine lv_istore_n (lv' := [(1, .int (st 25)), (0, .ref (c 105))]) hx hb dX6_hear_4 rfl hl (by decide) rfl (fun ls hl => ?_)
    have loop5 : ∀ (n : Nat) (l1_5 : Int32) (a20_5 : Nat → Int32) (a21_5 : Nat → Int32) (a22_5 : Nat → Int32) (b19_5 : Nat → Int64) (H : Heap) (locs : List Loc) (ls : Array Slot), (0 ≤ l1_5.toInt) → (l1_5.toInt ≤ 128) → (128 - l1_5.toInt : Int).toNat < n → va_P (dC, dI) vwCl (cw_W c kc st lg (rU (rU (rU ai 20 a20_5) 21 a21_5) 22 a22_5) (rU al 19 b19_5) R) H → va_S A s.heap H locs → lv_has ls 3 [(1, .int l1_5), (0, .ref (c 105))] → W p l e (headSpec wsX6_hear ({ frames := 4, cells := 0, slots := 0, locals := 100 })).room s m ([.ref (c 105)] : List Value).toArray below meth cM H locs 0 0 (MQ below (va_Qv (fun (_ : Unit) => True) (fun _ t => ∃ (x25 : Int32) (x26 : Int32) (x27 : Int32) (x28 : Int32) (x29 : Int32) (f20 : Nat → Int32) (f21 : Nat → Int32) (f22 : Nat → Int32) (f23 : Nat → Int32) (g19 : Nat → Int64), (0 ≤ x25.toInt) ∧ (x25.toInt ≤ 128) ∧ (0 ≤ x26.toInt) ∧ (x26.toInt ≤ 128) ∧ (-1 ≤ x27.toInt) ∧ (x27.toInt ≤ 127) ∧ (0 ≤ x28.toInt) ∧ (x28.toInt ≤ 1) ∧ (aR f23 128 (0) 127) ∧ va_P (dC, dI) vwCl (cw_W c kc (rU (rU (rU (rU (rU st 25 x25) 26 x26) 27 x27) 28 x28) 29 x29) lg (rU (rU (rU (rU ai 20 f20) 21 f21) 22 f22) 23 f23) (rU al 19 g19) R) t.heap) A) ([.ref (c 105)] : List Value).toArray s 0 0 A) (F0 m 5 ls []) := by
      intro n
      induction n with
      | zero => intro l1_5 a20_5 a21_5 a22_5 b19_5 H locs ls if0_5 if1_5 hm; exact absurd hm (Nat.not_lt_zero _)
      | succ n ih5 =>
        intro l1_5 a20_5 a21_5 a22_5 b19_5 H locs ls if0_5 if1_5 hm5 hP hS hl
        refine lv_iload_n hx hb dX6_hear_5 rfl (lv_at hl 0 rfl) ?_
        refine lv_aload_n hx hb dX6_hear_6 rfl (lv_at hl 1 rfl) ?_
        refine va_get (D := (dC, dI)) (ci := 8) (v := .ref (c 104)) (C := RX6) (T := TX6) (N := 12) hx hb hts hin_X6 hown hK hP 5 rfl rfl 0 (by decide) (hts (.fieldLink RX6 9 "BlockLog$Story" "rows" "LBlockLog$Rows;") (by decide +kernel)) (fun _ h9 => h9) rfl dX6_hear_7 ?_
        refine va_getN (D := (dC, dI)) (ci := 6) (v := .int (st 17)) (C := RX4) (T := TX4) (N := 6) hx hb hts hin_X4 hown hK hP 4 rfl rfl 4 (by decide) (va_Nw.use rfl (hGW.1 ("BlockLog$Story", 62, "BlockLog$Rows", "count", "I", "BlockLog") (by decide +kernel))) (fun _ h9 => h9) rfl dX6_hear_10 ?_
        refine lv_icmp_ge (tgt := 50) hx hb dX6_hear_13 (by decide) (fun c_1 => ?_) (fun c_1 => ?_)
        · skip
          have ic_1 := iv_le c_1
          refine lv_aload_n hx hb dX6_hear_50 rfl (lv_at hl 1 rfl) ?_
          refine va_get (D := (dC, dI)) (ci := 8) (v := .int (st 25)) (C := RX6) (T := TX6) (N := 12) hx hb hts hin_X6 hown hK hP 5 rfl rfl 7 (by decide) (hts (.fieldLink RX6 36 "BlockLog$Story" "heard" "I") (by decide +kernel)) (fun _ h9 => h9) rfl dX6_hear_51 ?_
          refine lv_istore_n (lv' := [(1, .int (st 25)), (0, .ref (c 105))]) hx hb dX6_hear_54 rfl hl (by decide) rfl (fun ls hl => ?_)
          refine lv_aload_n hx hb dX6_hear_55 rfl (lv_at hl 1 rfl) ?_
          refine lv_aload_n hx hb dX6_hear_56 rfl (lv_at hl 1 rfl) ?_
          refine va_get (D := (dC, dI)) (ci := 8) (v := .ref (c 104)) (C := RX6) (T := TX6) (N := 12) hx hb hts hin_X6 hown hK hP 5 rfl rfl 0 (by decide) (hts (.fieldLink RX6 9 "BlockLog$Story" "rows" "LBlockLog$Rows;") (by decide +kernel)) (fun _ h9 => h9) rfl dX6_hear_57 ?_
          refine va_getN (D := (dC, dI)) (ci := 6) (v := .int (st 17)) (C := RX4) (T := TX4) (N := 6) hx hb hts hin_X4 hown hK hP 4 rfl rfl 4 (by decide) (va_Nw.use rfl (hGW.1 ("BlockLog$Story", 62, "BlockLog$Rows", "count", "I", "BlockLog") (by decide +kernel))) (fun _ h9 => h9) rfl dX6_hear_60 ?_
          refine va_put (D := (dC, dI)) (ci := 8) (v := .int (st 17)) (ty := .int) (C := RX6) (T := TX6) (N := 12) hx hb hts hin_X6 tyX6 tyX6_ok nmX6 hown hK hP (cw_D hD) hS 5 rfl rfl 7 (by decide) (hts (.fieldLink RX6 36 "BlockLog$Story" "heard" "I") (by decide +kernel)) (fun _ h9 => h9) rfl (by decide +kernel) rfl rfl (Nat.le_of_ble_eq_true rfl) dX6_hear_63 (fun H locs hP _ hS => ?_)
          have hP : va_P (dC, dI) vwCl (cw_W c kc (rU st 25 (st 17)) lg (rU (rU (rU ai 20 a20_5) 21 a21_5) 22 a22_5) (rU al 19 b19_5) R) H := hP
          refine lv_iload_n hx hb dX6_hear_66 rfl (lv_at hl 0 rfl) ?_
          refine lv_istore_n (lv' := [(2, .int (st 25)), (1, .int (st 25)), (0, .ref (c 105))]) hx hb dX6_hear_67 rfl hl (by decide) rfl (fun ls hl => ?_)
          have loop68 : ∀ (n : Nat) (l2_68 : Int32) (s26_68 : Int32) (s27_68 : Int32) (s28_68 : Int32) (s29_68 : Int32) (a20_68 : Nat → Int32) (a21_68 : Nat → Int32) (a22_68 : Nat → Int32) (a23_68 : Nat → Int32) (b19_68 : Nat → Int64) (H : Heap) (locs : List Loc) (ls : Array Slot), (0 ≤ l2_68.toInt) → (l2_68.toInt ≤ 128) → (0 ≤ s26_68.toInt) → (s26_68.toInt ≤ 128) → (-1 ≤ s27_68.toInt) → (s27_68.toInt ≤ 127) → (0 ≤ s28_68.toInt) → (s28_68.toInt ≤ 1) → (aR a23_68 128 (0) 127) → (128 - l2_68.toInt : Int).toNat < n → va_P (dC, dI) vwCl (cw_W c kc (rU (rU (rU (rU (rU st 25 (st 17)) 26 s26_68) 27 s27_68) 28 s28_68) 29 s29_68) lg (rU (rU (rU (rU ai 20 a20_68) 21 a21_68) 22 a22_68) 23 a23_68) (rU al 19 b19_68) R) H → va_S A s.heap H locs → lv_has ls 3 [(2, .int l2_68), (1, .int (st 25)), (0, .ref (c 105))] → W p l e (headSpec wsX6_hear ({ frames := 4, cells := 0, slots := 0, locals := 100 })).room s m ([.ref (c 105)] : List Value).toArray below meth cM H locs 0 0 (MQ below (va_Qv (fun (_ : Unit) => True) (fun _ t => ∃ (x25 : Int32) (x26 : Int32) (x27 : Int32) (x28 : Int32) (x29 : Int32) (f20 : Nat → Int32) (f21 : Nat → Int32) (f22 : Nat → Int32) (f23 : Nat → Int32) (g19 : Nat → Int64), (0 ≤ x25.toInt) ∧ (x25.toInt ≤ 128) ∧ (0 ≤ x26.toInt) ∧ (x26.toInt ≤ 128) ∧ (-1 ≤ x27.toInt) ∧ (x27.toInt ≤ 127) ∧ (0 ≤ x28.toInt) ∧ (x28.toInt ≤ 1) ∧ (aR f23 128 (0) 127) ∧ va_P (dC, dI) vwCl (cw_W c kc (rU (rU (rU (rU (rU st 25 x25) 26 x26) 27 x27) 28 x28) 29 x29) lg (rU (rU (rU (rU ai 20 f20) 21 f21) 22 f22) 23 f23) (rU al 19 g19) R) t.heap) A) ([.ref (c 105)] : List Value).toArray s 0 0 A) (F0 m 68 ls []) := by
            intro n
            induction n with
            | zero => intro l2_68 s26_68 s27_68 s28_68 s29_68 a20_68 a21_68 a22_68 a23_68 b19_68 H locs ls if0_68 if1_68 if2_68 if3_68 if4_68 if5_68 if6_68 if7_68 hR23 hm; exact absurd hm (Nat.not_lt_zero _)
            | succ n ih68 =>
              intro l2_68 s26_68 s27_68 s28_68 s29_68 a20_68 a21_68 a22_68 a23_68 b19_68 H locs ls if0_68 if1_68 if2_68 if3_68 if4_68 if5_68 if6_68 if7_68 hR23 hm68 hP hS hl
              refine lv_iload_n hx hb dX6_hear_68 rfl (lv_at hl 0 rfl) ?_
              refine lv_aload_n hx hb dX6_hear_69 rfl (lv_at hl 2 rfl) ?_
              refine va_get (D := (dC, dI)) (ci := 8) (v := .int (st 17)) (C := RX6) (T := TX6) (N := 12) hx hb hts hin_X6 hown hK hP 5 rfl rfl 7 (by decide) (hts (.fieldLink RX6 36 "BlockLog$Story" "heard" "I") (by decide +kernel)) (fun _ h9 => h9) rfl dX6_hear_70 ?_
              refine lv_icmp_ge (tgt := 158) hx hb dX6_hear_73 (by decide) (fun c_2 => ?_) (fun c_2 => ?_)
              · skip
                have ic_2 := iv_le c_2
                exact W.vret hx hb hr (fun t ht hW => ⟨⟨(), rfl, trivial, st 17, s26_68, s27_68, s28_68, s29_68, a20_68, a21_68, a22_68, a23_68, b19_68, (by omega), (by omega), (by omega), (by omega), (by omega), (by omega), (by omega), (by omega), hR23, by rw [ht]; exact hP⟩, hS.F ht⟩) hS.2.2 dX6_hear_158
              · skip
                have ic_2 := iv_nle c_2
                refine lv_aload_n hx hb dX6_hear_76 rfl (lv_at hl 2 rfl) ?_
                refine va_get (D := (dC, dI)) (ci := 8) (v := .ref (c 104)) (C := RX6) (T := TX6) (N := 12) hx hb hts hin_X6 hown hK hP 5 rfl rfl 0 (by decide) (hts (.fieldLink RX6 9 "BlockLog$Story" "rows" "LBlockLog$Rows;") (by decide +kernel)) (fun _ h9 => h9) rfl dX6_hear_77 ?_
                refine lv_iload_n hx hb dX6_hear_80 rfl (lv_at hl 0 rfl) ?_
                refine vp_callSi (va_Run.run (va_runV (As := [.int l2_68]) (rest := []) ⟨hx, hb, hml, hown, hts⟩ (v_X4_kind l dC dI c kc (rU (rU (rU (rU (rU st 25 (st 17)) 26 s26_68) 27 s27_68) 28 s28_68) 29 s29_68) lg (rU (rU (rU (rU ai 20 a20_68) 21 a21_68) 22 a22_68) 23 a23_68) (rU al 19 b19_68) R l2_68 (show 0 ≤ (st 15).toInt by omega) (show (st 15).toInt ≤ 1 by omega) (by omega) (by omega) (show aR (ai 7) 8224 (-128) 127 from hR7)) (cwV 1 hts gX6_hear_X4_kind rfl rfl rfl (by decide +kernel) ⟨Nat.le_of_ble_eq_true rfl, Nat.le_of_ble_eq_true rfl⟩) ⟨fun a U g mk q => by obtain ⟨q0, qP, qK, qG⟩ := q; exact ⟨q0, qP, va_K.moved (u := U) (U := U.calling g mk a) (Vm.Alike.refl U.vm) qK, qG.same rfl⟩, va_recv hK hP (ci := 6) (q := (RX4, TX4, 6)) rfl (q0 := 4) rfl, fun U hU hW => ⟨rfl, by rw [hU]; exact hP, va_K.moved hW.alike hK, hGW.warm hW⟩⟩ rfl rfl hl.1 rfl (lv_room (Nat.le_of_ble_eq_true rfl)) dX6_hear_81 ⟨Nat.le_of_ble_eq_true rfl, Nat.le_of_ble_eq_true rfl⟩)) (fun r_3 er_3 => ?_)
                rcases Decidable.em (r_3 = (1 : Int32)) with t_4 | t_4
                · skip
                  have it_4 := iv_eq t_4
                  refine lv_tableIn (off := 36) (tgt := 120) hx hb dX6_hear_84 (by omega) (by omega) (by rw [show (r_3.toInt - 1).toNat = 0 by omega]; decide +kernel) (by decide) ?_
                  refine lv_aload_n hx hb dX6_hear_120 rfl (lv_at hl 2 rfl) ?_
                  refine lv_iload_n hx hb dX6_hear_121 rfl (lv_at hl 0 rfl) ?_
                  refine va_put (D := (dC, dI)) (ci := 8) (v := .int l2_68) (ty := .int) (C := RX6) (T := TX6) (N := 12) hx hb hts hin_X6 tyX6 tyX6_ok nmX6 hown hK hP (cw_D hD) hS 5 rfl rfl 9 (by decide) (hts (.fieldLink RX6 43 "BlockLog$Story" "lastVote" "I") (by decide +kernel)) (fun _ h9 => h9) rfl (by decide +kernel) rfl rfl (Nat.le_of_ble_eq_true rfl) dX6_hear_122 (fun H locs hP _ hS => ?_)
                  have hP : va_P (dC, dI) vwCl (cw_W c kc (rU (rU (rU (rU (rU st 25 (st 17)) 26 s26_68) 27 l2_68) 28 s28_68) 29 s29_68) lg (rU (rU (rU (rU ai 20 a20_68) 21 a21_68) 22 a22_68) 23 a23_68) (rU al 19 b19_68) R) H := hP
                  refine lv_goto (tgt := 152) hx hb dX6_hear_125 (by decide) ?_
                  obtain ⟨x_5, ex_5⟩ : ∃ z : Int32, z = l2_68 + (1) := ⟨_, rfl⟩
                  refine lv_iinc (v := x_5) (lv' := [(2, .int x_5), (1, .int (st 25)), (0, .ref (c 105))]) hx hb dX6_hear_152 hl (k := 0) rfl (by rw [ex_5]; rfl) (by decide) rfl (fun ls hl => ?_)
                  have rg1 := iv_rng l2_68
                  have hx_5 : x_5.toInt = l2_68.toInt + (1) := by rw [ex_5]; exact (iv_add (by omega) (by omega)).trans (by omega)
                  clear ex_5
                  refine lv_goto (tgt := 68) hx hb dX6_hear_155 (by decide) ?_
                  exact ih68 x_5 s26_68 l2_68 s28_68 s29_68 a20_68 a21_68 a22_68 a23_68 b19_68 _ _ _ (by omega) (by omega) (by omega) (by omega) (by omega) (by omega) (by omega) (by omega) (by assumption) (by omega) hP hS (lv_sub hl [0, 1, 2] rfl)
                · skip
                  have it_4 := iv_ne t_4
                  rcases Decidable.em (r_3 = (2 : Int32)) with t_6 | t_6
                  · skip
                    have it_6 := iv_eq t_6
                    refine lv_tableIn (off := 44) (tgt := 128) hx hb dX6_hear_84 (by omega) (by omega) (by rw [show (r_3.toInt - 1).toNat = 1 by omega]; decide +kernel) (by decide) ?_
                    refine lv_aload_n hx hb dX6_hear_128 rfl (lv_at hl 2 rfl) ?_
                    refine lv_iload_n hx hb dX6_hear_129 rfl (lv_at hl 0 rfl) ?_
                    have hFc := vfree ((cw_D hD : va_D A (cw_W c kc (rU (rU (rU (rU (rU st 25 (st 17)) 26 s26_68) 27 s27_68) 28 s28_68) 29 s29_68) lg (rU (rU (rU (rU ai 20 a20_68) 21 a21_68) 22 a22_68) 23 a23_68) (rU al 19 b19_68) R)) : va_D A (cw_W c kc (rU (rU (rU (rU (rU st 25 (st 17)) 26 s26_68) 27 s27_68) 28 s28_68) 29 s29_68) lg (rU (rU (rU (rU ai 20 a20_68) 21 a21_68) 22 a22_68) 23 a23_68) (rU al 19 b19_68) R)) hS hA
                    refine va_callv (va_runV (As := [.int l2_68]) (rest := []) ⟨hx, hb, hml, hown, hts⟩ (v_X6_hearBlock l dC dI c kc (rU (rU (rU (rU (rU st 25 (st 17)) 26 s26_68) 27 s27_68) 28 s28_68) 29 s29_68) lg (rU (rU (rU (rU ai 20 a20_68) 21 a21_68) 22 a22_68) 23 a23_68) (rU al 19 b19_68) R l2_68 _ (show 0 ≤ (st 15).toInt by omega) (show (st 15).toInt ≤ 1 by omega) (show 0 ≤ (st 17).toInt by omega) (show (st 17).toInt ≤ 128 by omega) (show 0 ≤ s28_68.toInt by omega) (show s28_68.toInt ≤ 1 by omega) (by omega) (by omega) (show aR (ai 7) 8224 (-128) 127 from hR7)) (cwV 1 hts gX6_hear_X6_hearBlock rfl rfl rfl (by decide +kernel) ⟨Nat.le_of_ble_eq_true rfl, Nat.le_of_ble_eq_true rfl⟩) ⟨fun a U g mk q => by obtain ⟨q0, q1, qP, qK, qD, qG⟩ := q; exact ⟨q0, q1, qP, va_K.moved (u := U) (U := U.calling g mk a) (Vm.Alike.refl U.vm) qK, qD, qG.same rfl rfl⟩, va_recv hK hP (ci := 8) (q := (RX6, TX6, 12)) rfl (q0 := 5) rfl, fun U hU hW => ⟨rfl, by rw [hU], by rw [hU]; exact hP, va_K.moved hW.alike hK, ((cw_D hD : va_D A (cw_W c kc (rU (rU (rU (rU (rU st 25 (st 17)) 26 s26_68) 27 s27_68) 28 s28_68) 29 s29_68) lg (rU (rU (rU (rU ai 20 a20_68) 21 a21_68) 22 a22_68) 23 a23_68) (rU al 19 b19_68) R))).weaken (fun _ _ _ _ => trivial), hG.go hW hU hS hFc⟩⟩ rfl rfl hl.1 rfl (lv_room (Nat.le_of_ble_eq_true rfl)) dX6_hear_130 ⟨Nat.le_of_ble_eq_true rfl, Nat.le_of_ble_eq_true rfl⟩) hS (fun q _ h => hFc q h) hFc (fun ur_7 t H1 locs ht hvm er_7 hB hz1 hk1 hS => ?_)
                    obtain ⟨f20_7, f21_7, g19_7, hP1⟩ := hB
                    rw [ht] at hP1
                    clear hFc hz1 hk1 hvm hP
                    subst ht
                    have hP := hP1
                    clear hP1
                    generalize t.heap = H at hP hS ⊢
                    have hP : va_P (dC, dI) vwCl (cw_W c kc (rU (rU (rU (rU (rU st 25 (st 17)) 26 s26_68) 27 s27_68) 28 s28_68) 29 s29_68) lg (rU (rU (rU (rU ai 20 f20_7) 21 f21_7) 22 a22_68) 23 a23_68) (rU al 19 g19_7) R) H := hP
                    refine lv_goto (tgt := 152) hx hb dX6_hear_133 (by decide) ?_
                    obtain ⟨x_8, ex_8⟩ : ∃ z : Int32, z = l2_68 + (1) := ⟨_, rfl⟩
                    refine lv_iinc (v := x_8) (lv' := [(2, .int x_8), (1, .int (st 25)), (0, .ref (c 105))]) hx hb dX6_hear_152 hl (k := 0) rfl (by rw [ex_8]; rfl) (by decide) rfl (fun ls hl => ?_)
                    have rg2 := iv_rng l2_68
                    have hx_8 : x_8.toInt = l2_68.toInt + (1) := by rw [ex_8]; exact (iv_add (by omega) (by omega)).trans (by omega)
                    clear ex_8
                    refine lv_goto (tgt := 68) hx hb dX6_hear_155 (by decide) ?_
                    exact ih68 x_8 s26_68 s27_68 s28_68 s29_68 f20_7 f21_7 a22_68 a23_68 g19_7 _ _ _ (by omega) (by omega) (by omega) (by omega) (by omega) (by omega) (by omega) (by omega) (by assumption) (by omega) hP hS (lv_sub hl [0, 1, 2] rfl)
                  · skip
                    have it_6 := iv_ne t_6
                    rcases Decidable.em (r_3 = (3 : Int32)) with t_9 | t_9
                    · skip
                      have it_9 := iv_eq t_9
                      refine lv_tableIn (off := 68) (tgt := 152) hx hb dX6_hear_84 (by omega) (by omega) (by rw [show (r_3.toInt - 1).toNat = 2 by omega]; decide +kernel) (by decide) ?_
                      obtain ⟨x_10, ex_10⟩ : ∃ z : Int32, z = l2_68 + (1) := ⟨_, rfl⟩
                      refine lv_iinc (v := x_10) (lv' := [(2, .int x_10), (1, .int (st 25)), (0, .ref (c 105))]) hx hb dX6_hear_152 hl (k := 0) rfl (by rw [ex_10]; rfl) (by decide) rfl (fun ls hl => ?_)
                      have rg3 := iv_rng l2_68
                      have hx_10 : x_10.toInt = l2_68.toInt + (1) := by rw [ex_10]; exact (iv_add (by omega) (by omega)).trans (by omega)
                      clear ex_10
                      refine lv_goto (tgt := 68) hx hb dX6_hear_155 (by decide) ?_
                      exact ih68 x_10 s26_68 s27_68 s28_68 s29_68 a20_68 a21_68 a22_68 a23_68 b19_68 _ _ _ (by omega) (by omega) (by omega) (by omega) (by omega) (by omega) (by omega) (by omega) (by assumption) (by omega) hP hS (lv_sub hl [0, 1, 2] rfl)
                    · skip
                      have it_9 := iv_ne t_9
                      rcases Decidable.em (r_3 = (4 : Int32)) with t_11 | t_11
                      · skip
                        have it_11 := iv_eq t_11
                        refine lv_tableIn (off := 52) (tgt := 136) hx hb dX6_hear_84 (by omega) (by omega) (by rw [show (r_3.toInt - 1).toNat = 3 by omega]; decide +kernel) (by decide) ?_
                        refine lv_aload_n hx hb dX6_hear_136 rfl (lv_at hl 2 rfl) ?_
                        refine lv_iload_n hx hb dX6_hear_137 rfl (lv_at hl 0 rfl) ?_
                        have hFc := vfree ((cw_D hD : va_D A (cw_W c kc (rU (rU (rU (rU (rU st 25 (st 17)) 26 s26_68) 27 s27_68) 28 s28_68) 29 s29_68) lg (rU (rU (rU (rU ai 20 a20_68) 21 a21_68) 22 a22_68) 23 a23_68) (rU al 19 b19_68) R)) : va_D A (cw_W c kc (rU (rU (rU (rU (rU st 25 (st 17)) 26 s26_68) 27 s27_68) 28 s28_68) 29 s29_68) lg (rU (rU (rU (rU ai 20 a20_68) 21 a21_68) 22 a22_68) 23 a23_68) (rU al 19 b19_68) R)) hS hA
                        refine va_callv (va_runV (As := [.int l2_68]) (rest := []) ⟨hx, hb, hml, hown, hts⟩ (v_X6_hearCertificate l dC dI c kc (rU (rU (rU (rU (rU st 25 (st 17)) 26 s26_68) 27 s27_68) 28 s28_68) 29 s29_68) lg (rU (rU (rU (rU ai 20 a20_68) 21 a21_68) 22 a22_68) 23 a23_68) (rU al 19 b19_68) R l2_68 _ (show 0 ≤ (st 15).toInt by omega) (show (st 15).toInt ≤ 1 by omega) (show 0 ≤ (st 17).toInt by omega) (show (st 17).toInt ≤ 128 by omega) (show 0 ≤ s26_68.toInt by omega) (show s26_68.toInt ≤ 128 by omega) (show 0 ≤ s28_68.toInt by omega) (show s28_68.toInt ≤ 1 by omega) (by omega) (by omega) (show aR a23_68 128 (0) 127 from hR23)) (cwV 1 hts gX6_hear_X6_hearCertificate rfl rfl rfl (by decide +kernel) ⟨Nat.le_of_ble_eq_true rfl, Nat.le_of_ble_eq_true rfl⟩) ⟨fun a U g mk q => by obtain ⟨q0, q1, qP, qK, qD, qG⟩ := q; exact ⟨q0, q1, qP, va_K.moved (u := U) (U := U.calling g mk a) (Vm.Alike.refl U.vm) qK, qD, qG.same rfl rfl⟩, va_recv hK hP (ci := 8) (q := (RX6, TX6, 12)) rfl (q0 := 5) rfl, fun U hU hW => ⟨rfl, by rw [hU], by rw [hU]; exact hP, va_K.moved hW.alike hK, ((cw_D hD : va_D A (cw_W c kc (rU (rU (rU (rU (rU st 25 (st 17)) 26 s26_68) 27 s27_68) 28 s28_68) 29 s29_68) lg (rU (rU (rU (rU ai 20 a20_68) 21 a21_68) 22 a22_68) 23 a23_68) (rU al 19 b19_68) R))).weaken (fun _ _ _ _ => trivial), hG.go hW hU hS hFc⟩⟩ rfl rfl hl.1 rfl (lv_room (Nat.le_of_ble_eq_true rfl)) dX6_hear_138 ⟨Nat.le_of_ble_eq_true rfl, Nat.le_of_ble_eq_true rfl⟩) hS (fun q _ h => hFc q h) hFc (fun ur_12 t H1 locs ht hvm er_12 hB hz1 hk1 hS => ?_)
                        obtain ⟨x26_12, f22_12, f23_12, k_13, k_14, hR23, hP1⟩ := hB
                        rw [ht] at hP1
                        clear hFc hz1 hk1 hvm hP
                        subst ht
                        have hP := hP1
                        clear hP1
                        generalize t.heap = H at hP hS ⊢
                        have hP : va_P (dC, dI) vwCl (cw_W c kc (rU (rU (rU (rU (rU st 25 (st 17)) 26 x26_12) 27 s27_68) 28 s28_68) 29 s29_68) lg (rU (rU (rU (rU ai 20 a20_68) 21 a21_68) 22 f22_12) 23 f23_12) (rU al 19 b19_68) R) H := hP
                        have k_13 : 0 ≤ x26_12.toInt := k_13
                        have k_14 : x26_12.toInt ≤ 128 := k_14
                        have hR23 : aR f23_12 128 (0) 127 := hR23
                        refine lv_goto (tgt := 152) hx hb dX6_hear_141 (by decide) ?_
                        obtain ⟨x_15, ex_15⟩ : ∃ z : Int32, z = l2_68 + (1) := ⟨_, rfl⟩
                        refine lv_iinc (v := x_15) (lv' := [(2, .int x_15), (1, .int (st 25)), (0, .ref (c 105))]) hx hb dX6_hear_152 hl (k := 0) rfl (by rw [ex_15]; rfl) (by decide) rfl (fun ls hl => ?_)
                        have rg4 := iv_rng l2_68
                        have hx_15 : x_15.toInt = l2_68.toInt + (1) := by rw [ex_15]; exact (iv_add (by omega) (by omega)).trans (by omega)
                        clear ex_15
                        refine lv_goto (tgt := 68) hx hb dX6_hear_155 (by decide) ?_
                        exact ih68 x_15 x26_12 s27_68 s28_68 s29_68 a20_68 a21_68 f22_12 f23_12 b19_68 _ _ _ (by omega) (by omega) (by omega) (by omega) (by omega) (by omega) (by omega) (by omega) (by assumption) (by omega) hP hS (lv_sub hl [0, 1, 2] rfl)
                      · skip
                        have it_11 := iv_ne t_11
                        rcases Decidable.em (r_3 = (5 : Int32)) with t_16 | t_16
                        · skip
                          have it_16 := iv_eq t_16
                          refine lv_tableIn (off := 60) (tgt := 144) hx hb dX6_hear_84 (by omega) (by omega) (by rw [show (r_3.toInt - 1).toNat = 4 by omega]; decide +kernel) (by decide) ?_
                          refine lv_aload_n hx hb dX6_hear_144 rfl (lv_at hl 2 rfl) ?_
                          refine lv_iload_n hx hb dX6_hear_145 rfl (lv_at hl 0 rfl) ?_
                          have hFc := vfree ((cw_D hD : va_D A (cw_W c kc (rU (rU (rU (rU (rU st 25 (st 17)) 26 s26_68) 27 s27_68) 28 s28_68) 29 s29_68) lg (rU (rU (rU (rU ai 20 a20_68) 21 a21_68) 22 a22_68) 23 a23_68) (rU al 19 b19_68) R)) : va_D A (cw_W c kc (rU (rU (rU (rU (rU st 25 (st 17)) 26 s26_68) 27 s27_68) 28 s28_68) 29 s29_68) lg (rU (rU (rU (rU ai 20 a20_68) 21 a21_68) 22 a22_68) 23 a23_68) (rU al 19 b19_68) R)) hS hA
                          refine va_callv (va_runV (As := [.int l2_68]) (rest := []) ⟨hx, hb, hml, hown, hts⟩ (v_X6_hearBase l dC dI c kc (rU (rU (rU (rU (rU st 25 (st 17)) 26 s26_68) 27 s27_68) 28 s28_68) 29 s29_68) lg (rU (rU (rU (rU ai 20 a20_68) 21 a21_68) 22 a22_68) 23 a23_68) (rU al 19 b19_68) R l2_68 _ (show 0 ≤ (st 15).toInt by omega) (show (st 15).toInt ≤ 1 by omega) (show 0 ≤ (st 17).toInt by omega) (show (st 17).toInt ≤ 128 by omega) (show 0 ≤ s28_68.toInt by omega) (show s28_68.toInt ≤ 1 by omega) (by omega) (by omega) (show aR (ai 7) 8224 (-128) 127 from hR7)) (cwV 1 hts gX6_hear_X6_hearBase rfl rfl rfl (by decide +kernel) ⟨Nat.le_of_ble_eq_true rfl, Nat.le_of_ble_eq_true rfl⟩) ⟨fun a U g mk q => by obtain ⟨q0, q1, qP, qK, qD, qG⟩ := q; exact ⟨q0, q1, qP, va_K.moved (u := U) (U := U.calling g mk a) (Vm.Alike.refl U.vm) qK, qD, qG.same rfl rfl⟩, va_recv hK hP (ci := 8) (q := (RX6, TX6, 12)) rfl (q0 := 5) rfl, fun U hU hW => ⟨rfl, by rw [hU], by rw [hU]; exact hP, va_K.moved hW.alike hK, ((cw_D hD : va_D A (cw_W c kc (rU (rU (rU (rU (rU st 25 (st 17)) 26 s26_68) 27 s27_68) 28 s28_68) 29 s29_68) lg (rU (rU (rU (rU ai 20 a20_68) 21 a21_68) 22 a22_68) 23 a23_68) (rU al 19 b19_68) R))).weaken (fun _ _ _ _ => trivial), hG.go hW hU hS hFc⟩⟩ rfl rfl hl.1 rfl (lv_room (Nat.le_of_ble_eq_true rfl)) dX6_hear_146 ⟨Nat.le_of_ble_eq_true rfl, Nat.le_of_ble_eq_true rfl⟩) hS (fun q _ h => hFc q h) hFc (fun ur_17 t H1 locs ht hvm er_17 hB hz1 hk1 hS => ?_)
                          obtain ⟨x28_17, x29_17, g19_17, k_18, k_19, hP1⟩ := hB
                          rw [ht] at hP1
                          clear hFc hz1 hk1 hvm hP
                          subst ht
                          have hP := hP1
                          clear hP1
                          generalize t.heap = H at hP hS ⊢
                          have hP : va_P (dC, dI) vwCl (cw_W c kc (rU (rU (rU (rU (rU st 25 (st 17)) 26 s26_68) 27 s27_68) 28 x28_17) 29 x29_17) lg (rU (rU (rU (rU ai 20 a20_68) 21 a21_68) 22 a22_68) 23 a23_68) (rU al 19 g19_17) R) H := hP
                          have k_18 : 0 ≤ x28_17.toInt := k_18
                          have k_19 : x28_17.toInt ≤ 1 := k_19
                          refine lv_goto (tgt := 152) hx hb dX6_hear_149 (by decide) ?_
                          obtain ⟨x_20, ex_20⟩ : ∃ z : Int32, z = l2_68 + (1) := ⟨_, rfl⟩
                          refine lv_iinc (v := x_20) (lv' := [(2, .int x_20), (1, .int (st 25)), (0, .ref (c 105))]) hx hb dX6_hear_152 hl (k := 0) rfl (by rw [ex_20]; rfl) (by decide) rfl (fun ls hl => ?_)
                          have rg5 := iv_rng l2_68
                          have hx_20 : x_20.toInt = l2_68.toInt + (1) := by rw [ex_20]; exact (iv_add (by omega) (by omega)).trans (by omega)
                          clear ex_20
                          refine lv_goto (tgt := 68) hx hb dX6_hear_155 (by decide) ?_
                          exact ih68 x_20 s26_68 s27_68 x28_17 x29_17 a20_68 a21_68 a22_68 a23_68 g19_17 _ _ _ (by omega) (by omega) (by omega) (by omega) (by omega) (by omega) (by omega) (by omega) (by assumption) (by omega) hP hS (lv_sub hl [0, 1, 2] rfl)
                        · skip
                          have it_16 := iv_ne t_16
                          refine lv_tableOut (tgt := 152) hx hb dX6_hear_84 (by omega) (by decide) ?_
                          obtain ⟨x_21, ex_21⟩ : ∃ z : Int32, z = l2_68 + (1) := ⟨_, rfl⟩
                          refine lv_iinc (v := x_21) (lv' := [(2, .int x_21), (1, .int (st 25)), (0, .ref (c 105))]) hx hb dX6_hear_152 hl (k := 0) rfl (by rw [ex_21]; rfl) (by decide) rfl (fun ls hl => ?_)
                          have rg6 := iv_rng l2_68
                          have hx_21 : x_21.toInt = l2_68.toInt + (1) := by rw [ex_21]; exact (iv_add (by omega) (by omega)).trans (by omega)
                          clear ex_21
                          refine lv_goto (tgt := 68) hx hb dX6_hear_155 (by decide) ?_
                          exact ih68 x_21 s26_68 s27_68 s28_68 s29_68 a20_68 a21_68 a22_68 a23_68 b19_68 _ _ _ (by omega) (by omega) (by omega) (by omega) (by omega) (by omega) (by omega) (by omega) (by assumption) (by omega) hP hS (lv_sub hl [0, 1, 2] rfl)
          exact loop68 ((128 - (st 25).toInt : Int).toNat + 1) (st 25) (st 26) (st 27) (st 28) (st 29) a20_5 a21_5 a22_5 (ai 23) b19_5 _ _ _ (by omega) (by omega) (by omega) (by omega) (by omega) (by omega) (by omega) (by omega) (by assumption) (by omega) hP hS (lv_sub hl [0, 1, 2] rfl)
        · skip
          have ic_1 := iv_nle c_1
          refine lv_aload_n hx hb dX6_hear_16 rfl (lv_at hl 1 rfl) ?_
          refine va_get (D := (dC, dI)) (ci := 8) (v := .ref (c 19)) (C := RX6) (T := TX6) (N := 12) hx hb hts hin_X6 hown hK hP 5 rfl rfl 1 (by decide) (hts (.fieldLink RX6 15 "BlockLog$Story" "digests" "[J") (by decide +kernel)) (fun _ h9 => h9) rfl dX6_hear_17 ?_
          refine lv_iload_n hx hb dX6_hear_20 rfl (lv_at hl 0 rfl) ?_
          refine lv_lconst (v := 0) hx hb dX6_hear_21 (by decide) ?_
          refine va_last (f := b19_5) hx hb hK hP (cw_D hD) hS 15 7 rfl rfl (iv_in (i := l1_5) (by omega) (by omega)) dX6_hear_22 (fun H locs hP _ hS => ?_)
          have hP : va_P (dC, dI) vwCl (cw_W c kc st lg (rU (rU (rU ai 20 a20_5) 21 a21_5) 22 a22_5) (rU al 19 (vp_updL b19_5 l1_5.toNatClampNeg (0 : Int64))) R) H := cw_b19 hP
          generalize hU_story_digests : vp_updL b19_5 l1_5.toNatClampNeg (0 : Int64) = g_22 at hP
          clear hU_story_digests
          refine lv_aload_n hx hb dX6_hear_23 rfl (lv_at hl 1 rfl) ?_
          refine va_get (D := (dC, dI)) (ci := 8) (v := .ref (c 20)) (C := RX6) (T := TX6) (N := 12) hx hb hts hin_X6 hown hK hP 5 rfl rfl 2 (by decide) (hts (.fieldLink RX6 19 "BlockLog$Story" "isBlock" "[Z") (by decide +kernel)) (fun _ h9 => h9) rfl dX6_hear_24 ?_
          refine lv_iload_n hx hb dX6_hear_27 rfl (lv_at hl 0 rfl) ?_
          refine lv_iconst (v := 0) hx hb dX6_hear_28 (by decide) ?_
          refine va_zast (f := a20_5) hx hb hK hP (cw_D hD) hS 16 8 rfl rfl (iv_in (i := l1_5) (by omega) (by omega)) dX6_hear_29 (fun H locs hP _ hS => ?_)
          have hP : va_P (dC, dI) vwCl (cw_W c kc st lg (rU (rU (rU ai 20 (upd a20_5 l1_5.toNatClampNeg (vp_nar .boolean (0 : Int32)))) 21 a21_5) 22 a22_5) (rU al 19 g_22) R) H := hP
          generalize hU_story_isBlock : upd a20_5 l1_5.toNatClampNeg (vp_nar .boolean (0 : Int32)) = g_23 at hP
          clear hU_story_isBlock
          refine lv_aload_n hx hb dX6_hear_30 rfl (lv_at hl 1 rfl) ?_
          refine va_get (D := (dC, dI)) (ci := 8) (v := .ref (c 21)) (C := RX6) (T := TX6) (N := 12) hx hb hts hin_X6 hown hK hP 5 rfl rfl 3 (by decide) (hts (.fieldLink RX6 23 "BlockLog$Story" "inBlock" "[Z") (by decide +kernel)) (fun _ h9 => h9) rfl dX6_hear_31 ?_
          refine lv_iload_n hx hb dX6_hear_34 rfl (lv_at hl 0 rfl) ?_
          refine lv_iconst (v := 0) hx hb dX6_hear_35 (by decide) ?_
          refine va_zast (f := a21_5) hx hb hK hP (cw_D hD) hS 17 9 rfl rfl (iv_in (i := l1_5) (by omega) (by omega)) dX6_hear_36 (fun H locs hP _ hS => ?_)
          have hP : va_P (dC, dI) vwCl (cw_W c kc st lg (rU (rU (rU ai 20 g_23) 21 (upd a21_5 l1_5.toNatClampNeg (vp_nar .boolean (0 : Int32)))) 22 a22_5) (rU al 19 g_22) R) H := hP
          generalize hU_story_inBlock : upd a21_5 l1_5.toNatClampNeg (vp_nar .boolean (0 : Int32)) = g_24 at hP
          clear hU_story_inBlock
          refine lv_aload_n hx hb dX6_hear_37 rfl (lv_at hl 1 rfl) ?_
          refine va_get (D := (dC, dI)) (ci := 8) (v := .ref (c 22)) (C := RX6) (T := TX6) (N := 12) hx hb hts hin_X6 hown hK hP 5 rfl rfl 4 (by decide) (hts (.fieldLink RX6 26 "BlockLog$Story" "fits" "[Z") (by decide +kernel)) (fun _ h9 => h9) rfl dX6_hear_38 ?_
          refine lv_iload_n hx hb dX6_hear_41 rfl (lv_at hl 0 rfl) ?_
          refine lv_iconst (v := 0) hx hb dX6_hear_42 (by decide) ?_
          refine va_zast (f := a22_5) hx hb hK hP (cw_D hD) hS 18 10 rfl rfl (iv_in (i := l1_5) (by omega) (by omega)) dX6_hear_43 (fun H locs hP _ hS => ?_)
          have hP : va_P (dC, dI) vwCl (cw_W c kc st lg (rU (rU (rU ai 20 g_23) 21 g_24) 22 (upd a22_5 l1_5.toNatClampNeg (vp_nar .boolean (0 : Int32)))) (rU al 19 g_22) R) H := cw_b22 hP
          generalize hU_story_fits : upd a22_5 l1_5.toNatClampNeg (vp_nar .boolean (0 : Int32)) = g_25 at hP
          clear hU_story_fits
          obtain ⟨x_26, ex_26⟩ : ∃ z : Int32, z = l1_5 + (1) := ⟨_, rfl⟩
          refine lv_iinc (v := x_26) (lv' := [(1, .int x_26), (0, .ref (c 105))]) hx hb dX6_hear_44 hl (k := 0) rfl (by rw [ex_26]; rfl) (by decide) rfl (fun ls hl => ?_)
          have rg7 := iv_rng l1_5
          have hx_26 : x_26.toInt = l1_5.toInt + (1) := by rw [ex_26]; exact (iv_add (by omega) (by omega)).trans (by omega)
          clear ex_26
          refine lv_goto (tgt := 5) hx hb dX6_hear_47 (by decide) ?_
          exact ih5 x_26 g_23 g_24 g_25 g_22 _ _ _ (by omega) (by omega) (by omega) hP hS (lv_sub hl [0, 1] rfl)
    exact loop5 ((128 - (st 25).toInt : Int).toNat + 1) (st 25) (ai 20) (ai 21) (ai 22) (al 19) _ _ _ (by omega) (by omega) (by omega) hP hS (lv_sub hl [0, 1] rfl)
  exact main s.heap [] hP hS

set_option maxHeartbeats 4000000 in
set_option maxRecDepth 100000 in
theorem v_X6_hearAnew (l : Launch) (dC : Nat → ClassId) (dI : Nat → Nat → Nat) (c : Nat → Nat) (kc : Nat → ClassId) (st : Nat → Int32) (lg : Nat → Int64) (ai : Nat → Nat → Int32) (al : Nat → Nat → Int64) (R : va_W)  (sz : Nat) (hf15a : 0 ≤ (st 15).toInt) (hf15b : (st 15).toInt ≤ 1) (hf17a : 0 ≤ (st 17).toInt) (hf17b : (st 17).toInt ≤ 128) (hf25a : 0 ≤ (st 25).toInt) (hf25b : (st 25).toInt ≤ 128) (hf26a : 0 ≤ (st 26).toInt) (hf26b : (st 26).toInt ≤ 128) (hf27a : -1 ≤ (st 27).toInt) (hf27b : (st 27).toInt ≤ 127) (hf28a : 0 ≤ (st 28).toInt) (hf28b : (st 28).toInt ≤ 1) (hR7 : aR (ai 7) 8224 (-128) 127) (hR23 : aR (ai 23) 128 (0) 127) : Met l yX6_hearAnew wsX6_hearAnew ({ frames := 5, cells := 0, slots := 0, locals := 122 }) (va_Pc [.ref (c 105)] (fun U => U.heap.size = sz ∧ va_P (dC, dI) vwCl (cw_W c kc st lg ai al R) U.heap ∧ va_K (dC, dI) vwCl (cw_T kc) U ∧ va_D (fun _ => True) (cw_W c kc st lg ai al R) ∧ gx_E (va_A (cw_W c kc st lg ai al R) sz) U)) (va_Qv (fun (_ : Unit) => True) (fun _ t => ∃ (x25 : Int32) (x26 : Int32) (x27 : Int32) (x28 : Int32) (x29 : Int32) (f20 : Nat → Int32) (f21 : Nat → Int32) (f22 : Nat → Int32) (f23 : Nat → Int32) (g19 : Nat → Int64), (0 ≤ x25.toInt) ∧ (x25.toInt ≤ 128) ∧ (0 ≤ x26.toInt) ∧ (x26.toInt ≤ 128) ∧ (-1 ≤ x27.toInt) ∧ (x27.toInt ≤ 127) ∧ (0 ≤ x28.toInt) ∧ (x28.toInt ≤ 1) ∧ (aR f23 128 (0) 127) ∧ va_P (dC, dI) vwCl (cw_W c kc (rU (rU (rU (rU (rU st 25 x25) 26 x26) 27 x27) 28 x28) 29 x29) lg (rU (rU (rU (rU ai 20 f20) 21 f21) 22 f22) 23 f23) (rU al 19 g19) R) t.heap) (va_A (cw_W c kc st lg ai al R) sz)) 0 0 (va_A (cw_W c kc st lg ai al R) sz) := by
  refine Met.ofW (cc := cX6_hearAnew) (maxL := 1) (ret := none) (by decide) rfl ?_
  intro p e s m args below meth cM s₁ B hml hv
  obtain ⟨rfl, hsz, hP, hK, hD0, hG⟩ := hv
  have hx := B.exec
  have hb := B.bytes
  have hr := B.returns
  have hts := atoms_spec (ws := wsX6_hearAnew) B.pre
  have hown : s.vm.findClass RX6 = some m.cls := findClass_of_methodNamed B.named
  have hGW := hG.1
  subst hsz
  have hD := hD0.self (sz := s.heap.size)
  generalize hAe : va_A (cw_W c kc st lg ai al R) s.heap.size = A at hD hG ⊢
  have hA : ∀ q : Nat, s.heap.size ≤ q → A q := fun q h => by rw [← hAe]; exact Or.inr h
  have hS : va_S A s.heap s.heap [] := va_S.rf
  clear hAe hD0
  have hl := lv_entry ([.ref (c 105)]) (n := 1) (Nat.le_of_ble_eq_true rfl)
  rw [lg_entry_eq]
  generalize (lg_sl ([.ref (c 105)]) ++ List.replicate (1 - (lg_sl ([.ref (c 105)])).length) Slot.unset).toArray = ls at hl ⊢
  have hl : lv_has ls 1 [(0, .ref (c 105))] := hl
  have z_m1 : (-1 : Int32).toInt = -1 := by decide
  have z_0 : (0 : Int32).toInt = 0 := by decide
  have z_1 : (1 : Int32).toInt = 1 := by decide
  have hin_X6 : ∀ w ∈ u_ws RX6 TX6 12, w ∈ wsX6_hearAnew := by decide +kernel
  have main : ∀ (H : Heap) (locs : List Loc), va_P (dC, dI) vwCl (cw_W c kc st lg ai al R) H → va_S A s.heap H locs → W p l e (headSpec wsX6_hearAnew ({ frames := 5, cells := 0, slots := 0, locals := 122 })).room s m ([.ref (c 105)] : List Value).toArray below meth cM H locs 0 0 (MQ below (va_Qv (fun (_ : Unit) => True) (fun _ t => ∃ (x25 : Int32) (x26 : Int32) (x27 : Int32) (x28 : Int32) (x29 : Int32) (f20 : Nat → Int32) (f21 : Nat → Int32) (f22 : Nat → Int32) (f23 : Nat → Int32) (g19 : Nat → Int64), (0 ≤ x25.toInt) ∧ (x25.toInt ≤ 128) ∧ (0 ≤ x26.toInt) ∧ (x26.toInt ≤ 128) ∧ (-1 ≤ x27.toInt) ∧ (x27.toInt ≤ 127) ∧ (0 ≤ x28.toInt) ∧ (x28.toInt ≤ 1) ∧ (aR f23 128 (0) 127) ∧ va_P (dC, dI) vwCl (cw_W c kc (rU (rU (rU (rU (rU st 25 x25) 26 x26) 27 x27) 28 x28) 29 x29) lg (rU (rU (rU (rU ai 20 f20) 21 f21) 22 f22) 23 f23) (rU al 19 g19) R) t.heap) A) ([.ref (c 105)] : List Value).toArray s 0 0 A) (F0 m 0 ls []) := by
    intro H locs hP hS
    refine lv_aload_n hx hb dX6_hearAnew_0 rfl (lv_at hl 0 rfl) ?_
    refine lv_iconst (v := 0) hx hb dX6_hearAnew_1 (by decide) ?_
    refine va_put (D := (dC, dI)) (ci := 8) (v := .int (0 : Int32)) (ty := .int) (C := RX6) (T := TX6) (N := 12) hx hb hts hin_X6 tyX6 tyX6_ok nmX6 hown hK hP (cw_D hD) hS 5 rfl rfl 7 (by decide) (hts (.fieldLink RX6 36 "BlockLog$Story" "heard" "I") (by decide +kernel)) (fun _ h9 => h9) rfl (by decide +kernel) rfl rfl (Nat.le_of_ble_eq_true rfl) dX6_hearAnew_2 (fun H locs hP _ hS => ?_)
    have hP : va_P (dC, dI) vwCl (cw_W c kc (rU st 25 (0 : Int32)) lg ai al R) H := hP
    refine lv_aload_n hx hb dX6_hearAnew_5 rfl (lv_at hl 0 rfl) ?_
    refine lv_iconst (v := 0) hx hb dX6_hearAnew_6 (by decide) ?_
    refine va_put (D := (dC, dI)) (ci := 8) (v := .int (0 : Int32)) (ty := .int) (C := RX6) (T := TX6) (N := 12) hx hb hts hin_X6 tyX6 tyX6_ok nmX6 hown hK hP (cw_D hD) hS 5 rfl rfl 8 (by decide) (hts (.fieldLink RX6 40 "BlockLog$Story" "certified" "I") (by decide +kernel)) (fun _ h9 => h9) rfl (by decide +kernel) rfl rfl (Nat.le_of_ble_eq_true rfl) dX6_hearAnew_7 (fun H locs hP _ hS => ?_)
    have hP : va_P (dC, dI) vwCl (cw_W c kc (rU (rU st 25 (0 : Int32)) 26 (0 : Int32)) lg ai al R) H := hP
    refine lv_aload_n hx hb dX6_hearAnew_10 rfl (lv_at hl 0 rfl) ?_
    refine lv_iconst (v := (-1)) hx hb dX6_hearAnew_11 (by decide) ?_
    refine va_put (D := (dC, dI)) (ci := 8) (v := .int (-1 : Int32)) (ty := .int) (C := RX6) (T := TX6) (N := 12) hx hb hts hin_X6 tyX6 tyX6_ok nmX6 hown hK hP (cw_D hD) hS 5 rfl rfl 9 (by decide) (hts (.fieldLink RX6 43 "BlockLog$Story" "lastVote" "I") (by decide +kernel)) (fun _ h9 => h9) rfl (by decide +kernel) rfl rfl (Nat.le_of_ble_eq_true rfl) dX6_hearAnew_12 (fun H locs hP _ hS => ?_)
    have hP : va_P (dC, dI) vwCl (cw_W c kc (rU (rU (rU st 25 (0 : Int32)) 26 (0 : Int32)) 27 (-1 : Int32)) lg ai al R) H := hP
    refine lv_aload_n hx hb dX6_hearAnew_15 rfl (lv_at hl 0 rfl) ?_
    refine lv_iconst (v := 0) hx hb dX6_hearAnew_16 (by decide) ?_
    refine va_put (D := (dC, dI)) (ci := 8) (v := .int (0 : Int32)) (ty := .boolean) (C := RX6) (T := TX6) (N := 12) hx hb hts hin_X6 tyX6 tyX6_ok nmX6 hown hK hP (cw_D hD) hS 5 rfl rfl 10 (by decide) (hts (.fieldLink RX6 46 "BlockLog$Story" "based" "Z") (by decide +kernel)) (fun _ h9 => h9) rfl (by decide +kernel) rfl rfl (Nat.le_of_ble_eq_true rfl) dX6_hearAnew_17 (fun H locs hP _ hS => ?_)
    have hP : va_P (dC, dI) vwCl (cw_W c kc (rU (rU (rU (rU st 25 (0 : Int32)) 26 (0 : Int32)) 27 (-1 : Int32)) 28 (0 : Int32)) lg ai al R) H := hP
    refine lv_aload_n hx hb dX6_hearAnew_20 rfl (lv_at hl 0 rfl) ?_
    refine lv_iconst (v := 0) hx hb dX6_hearAnew_21 (by decide) ?_
    refine va_put (D := (dC, dI)) (ci := 8) (v := .int (0 : Int32)) (ty := .int) (C := RX6) (T := TX6) (N := 12) hx hb hts hin_X6 tyX6 tyX6_ok nmX6 hown hK hP (cw_D hD) hS 5 rfl rfl 11 (by decide) (hts (.fieldLink RX6 50 "BlockLog$Story" "baseHeight" "I") (by decide +kernel)) (fun _ h9 => h9) rfl (by decide +kernel) rfl rfl (Nat.le_of_ble_eq_true rfl) dX6_hearAnew_22 (fun H locs hP _ hS => ?_)
    have hP : va_P (dC, dI) vwCl (cw_W c kc (rU (rU (rU (rU (rU st 25 (0 : Int32)) 26 (0 : Int32)) 27 (-1 : Int32)) 28 (0 : Int32)) 29 (0 : Int32)) lg ai al R) H := hP
    refine lv_aload_n hx hb dX6_hearAnew_25 rfl (lv_at hl 0 rfl) ?_
    refine va_get (D := (dC, dI)) (ci := 8) (v := .ref (c 104)) (C := RX6) (T := TX6) (N := 12) hx hb hts hin_X6 hown hK hP 5 rfl rfl 0 (by decide) (hts (.fieldLink RX6 9 "BlockLog$Story" "rows" "LBlockLog$Rows;") (by decide +kernel)) (fun _ h9 => h9) rfl dX6_hearAnew_26 ?_
    refine vp_callSi (va_Run.run (va_runV (As := []) (rest := []) ⟨hx, hb, hml, hown, hts⟩ (v_X4_inNeed l dC dI c kc (rU (rU (rU (rU (rU st 25 (0 : Int32)) 26 (0 : Int32)) 27 (-1 : Int32)) 28 (0 : Int32)) 29 (0 : Int32)) lg ai al R  ) (cwV 0 hts gX6_hearAnew_X4_inNeed rfl rfl rfl (by decide +kernel) ⟨Nat.le_of_ble_eq_true rfl, Nat.le_of_ble_eq_true rfl⟩) ⟨fun a U g mk q => by obtain ⟨q0, qP, qK⟩ := q; exact ⟨q0, qP, va_K.moved (u := U) (U := U.calling g mk a) (Vm.Alike.refl U.vm) qK⟩, va_recv hK hP (ci := 6) (q := (RX4, TX4, 6)) rfl (q0 := 4) rfl, fun U hU hW => ⟨rfl, by rw [hU]; exact hP, va_K.moved hW.alike hK⟩⟩ rfl rfl hl.1 rfl (lv_room (Nat.le_of_ble_eq_true rfl)) dX6_hearAnew_29 ⟨Nat.le_of_ble_eq_true rfl, Nat.le_of_ble_eq_true rfl⟩)) (fun r_1 er_1 => ?_)
    obtain ⟨k_2, k_3⟩ := er_1
    rcases iv_01 (a := r_1) (by omega) (by omega) with b_4 | b_4
    · skip
      have ib_4 := iv_eq b_4
      rw [b_4]
      refine lv_if_ne (tgt := 39) hx hb dX6_hearAnew_32 (by decide) (fun c_5 => ?_) (fun c_5 => ?_)
      · skip
        have ic_5 := iv_ne c_5
        exfalso
        omega
      · skip
        have ic_5 := iv_eq c_5
        refine lv_aload_n hx hb dX6_hearAnew_35 rfl (lv_at hl 0 rfl) ?_
        have hFc := vfree ((cw_D hD : va_D A (cw_W c kc (rU (rU (rU (rU (rU st 25 (0 : Int32)) 26 (0 : Int32)) 27 (-1 : Int32)) 28 (0 : Int32)) 29 (0 : Int32)) lg ai al R)) : va_D A (cw_W c kc (rU (rU (rU (rU (rU st 25 (0 : Int32)) 26 (0 : Int32)) 27 (-1 : Int32)) 28 (0 : Int32)) 29 (0 : Int32)) lg ai al R)) hS hA
        refine va_callv (va_runV (As := []) (rest := []) ⟨hx, hb, hml, hown, hts⟩ (v_X6_hear l dC dI c kc (rU (rU (rU (rU (rU st 25 (0 : Int32)) 26 (0 : Int32)) 27 (-1 : Int32)) 28 (0 : Int32)) 29 (0 : Int32)) lg ai al R  _ (show 0 ≤ (st 15).toInt by omega) (show (st 15).toInt ≤ 1 by omega) (show 0 ≤ (st 17).toInt by omega) (show (st 17).toInt ≤ 128 by omega) (show 0 ≤ (0 : Int32).toInt by decide) (show (0 : Int32).toInt ≤ 128 by decide) (show 0 ≤ (0 : Int32).toInt by decide) (show (0 : Int32).toInt ≤ 128 by decide) (show -1 ≤ (-1 : Int32).toInt by decide) (show (-1 : Int32).toInt ≤ 127 by decide) (show 0 ≤ (0 : Int32).toInt by decide) (show (0 : Int32).toInt ≤ 1 by decide) (show aR (ai 7) 8224 (-128) 127 from hR7) (show aR (ai 23) 128 (0) 127 from hR23)) (cwV 0 hts gX6_hearAnew_X6_hear rfl rfl rfl (by decide +kernel) ⟨Nat.le_of_ble_eq_true rfl, Nat.le_of_ble_eq_true rfl⟩) ⟨fun a U g mk q => by obtain ⟨q0, q1, qP, qK, qD, qG⟩ := q; exact ⟨q0, q1, qP, va_K.moved (u := U) (U := U.calling g mk a) (Vm.Alike.refl U.vm) qK, qD, qG.same rfl rfl⟩, va_recv hK hP (ci := 8) (q := (RX6, TX6, 12)) rfl (q0 := 5) rfl, fun U hU hW => ⟨rfl, by rw [hU], by rw [hU]; exact hP, va_K.moved hW.alike hK, ((cw_D hD : va_D A (cw_W c kc (rU (rU (rU (rU (rU st 25 (0 : Int32)) 26 (0 : Int32)) 27 (-1 : Int32)) 28 (0 : Int32)) 29 (0 : Int32)) lg ai al R))).weaken (fun _ _ _ _ => trivial), hG.go hW hU hS hFc⟩⟩ rfl rfl hl.1 rfl (lv_room (Nat.le_of_ble_eq_true rfl)) dX6_hearAnew_36 ⟨Nat.le_of_ble_eq_true rfl, Nat.le_of_ble_eq_true rfl⟩) hS (fun q _ h => hFc q h) hFc (fun ur_6 t H1 locs ht hvm er_6 hB hz1 hk1 hS => ?_)
        obtain ⟨x25_6, x26_6, x27_6, x28_6, x29_6, f20_6, f21_6, f22_6, f23_6, g19_6, k_7, k_8, k_9, k_10, k_11, k_12, k_13, k_14, hR23, hP1⟩ := hB
        rw [ht] at hP1
        clear hFc hz1 hk1 hvm hP
        subst ht
        have hP := hP1
        clear hP1
        generalize t.heap = H at hP hS ⊢
        have hP : va_P (dC, dI) vwCl (cw_W c kc (rU (rU (rU (rU (rU st 25 x25_6) 26 x26_6) 27 x27_6) 28 x28_6) 29 x29_6) lg (rU (rU (rU (rU ai 20 f20_6) 21 f21_6) 22 f22_6) 23 f23_6) (rU al 19 g19_6) R) H := hP
        have k_7 : 0 ≤ x25_6.toInt := k_7
        have k_8 : x25_6.toInt ≤ 128 := k_8
        have k_9 : 0 ≤ x26_6.toInt := k_9
        have k_10 : x26_6.toInt ≤ 128 := k_10
        have k_11 : -1 ≤ x27_6.toInt := k_11
        have k_12 : x27_6.toInt ≤ 127 := k_12
        have k_13 : 0 ≤ x28_6.toInt := k_13
        have k_14 : x28_6.toInt ≤ 1 := k_14
        have hR23 : aR f23_6 128 (0) 127 := hR23
        exact W.vret hx hb hr (fun t ht hW => ⟨⟨(), rfl, trivial, x25_6, x26_6, x27_6, x28_6, x29_6, f20_6, f21_6, f22_6, f23_6, g19_6, (by omega), (by omega), (by omega), (by omega), (by omega), (by omega), (by omega), (by omega), hR23, by rw [ht]; exact hP⟩, hS.F ht⟩) hS.2.2 dX6_hearAnew_39
    · skip
      have ib_4 := iv_eq b_4
      rw [b_4]
      refine lv_if_ne (tgt := 39) hx hb dX6_hearAnew_32 (by decide) (fun c_15 => ?_) (fun c_15 => ?_)
      · skip
        have ic_15 := iv_ne c_15
        exact W.vret hx hb hr (fun t ht hW => ⟨⟨(), rfl, trivial, (0 : Int32), (0 : Int32), (-1 : Int32), (0 : Int32), (0 : Int32), ai 20, ai 21, ai 22, ai 23, al 19, (by omega), (by omega), (by omega), (by omega), (by omega), (by omega), (by omega), (by omega), hR23, by rw [ht]; exact hP⟩, hS.F ht⟩) hS.2.2 dX6_hearAnew_39
      · skip
        have ic_15 := iv_eq c_15
        exfalso
        omega
  exact main s.heap [] hP hS

set_option maxHeartbeats 4000000 in
set_option maxRecDepth 100000 in
theorem v_X6_drawChanges (l : Launch) (dC : Nat → ClassId) (dI : Nat → Nat → Nat) (c : Nat → Nat) (kc : Nat → ClassId) (st : Nat → Int32) (lg : Nat → Int64) (ai : Nat → Nat → Int32) (al : Nat → Nat → Int64) (R : va_W) (p0 : Int32) (sz : Nat) (hf15a : 0 ≤ (st 15).toInt) (hf15b : (st 15).toInt ≤ 1) (hf25a : 0 ≤ (st 25).toInt) (hf25b : (st 25).toInt ≤ 128) (hq0 : 0 ≤ p0.toInt) (hq1 : p0.toInt ≤ 127) : Met l yX6_drawChanges wsX6_drawChanges ({ frames := 2, cells := 0, slots := 0, locals := 45 }) (va_Pc [.ref (c 105), .int p0] (fun U => U.heap.size = sz ∧ va_P (dC, dI) vwCl (cw_W c kc st lg ai al R) U.heap ∧ va_K (dC, dI) vwCl (cw_T kc) U ∧ va_D (fun _ => True) (cw_W c kc st lg ai al R) ∧ gx_E (va_A (cw_W c kc st lg ai al R) sz) U)) (va_Qv (fun (_ : Unit) => True) (fun _ t => ∃ (g24 : Nat → Int64), va_P (dC, dI) vwCl (cw_W c kc st lg ai (rU al 24 g24) R) t.heap) (va_A (cw_W c kc st lg ai al R) sz)) 0 0 (va_A (cw_W c kc st lg ai al R) sz) := by
  refine Met.ofW (cc := cX6_drawChanges) (maxL := 5) (ret := none) (by decide) rfl ?_
  intro p e s m args below meth cM s₁ B hml hv
  obtain ⟨rfl, hsz, hP, hK, hD0, hG⟩ := hv
  have hx := B.exec
  have hb := B.bytes
  have hr := B.returns
  have hts := atoms_spec (ws := wsX6_drawChanges) B.pre
  have hown : s.vm.findClass RX6 = some m.cls := findClass_of_methodNamed B.named
  have hGW := hG.1
  subst hsz
  have hD := hD0.self (sz := s.heap.size)
  generalize hAe : va_A (cw_W c kc st lg ai al R) s.heap.size = A at hD hG ⊢
  have hA : ∀ q : Nat, s.heap.size ≤ q → A q := fun q h => by rw [← hAe]; exact Or.inr h
  have hS : va_S A s.heap s.heap [] := va_S.rf
  clear hAe hD0
  have hl := lv_entry ([.ref (c 105), .int p0]) (n := 5) (Nat.le_of_ble_eq_true rfl)
  rw [lg_entry_eq]
  generalize (lg_sl ([.ref (c 105), .int p0]) ++ List.replicate (5 - (lg_sl ([.ref (c 105), .int p0])).length) Slot.unset).toArray = ls at hl ⊢
  have hl : lv_has ls 5 [(0, .ref (c 105)), (1, .int p0)] := hl
  have z_0 : (0 : Int32).toInt = 0 := by decide
  have z_1 : (1 : Int32).toInt = 1 := by decide
  have z_16 : (16 : Int32).toInt = 16 := by decide
  have hin_X6 : ∀ w ∈ u_ws RX6 TX6 12, w ∈ wsX6_drawChanges := by decide +kernel
  have main : ∀ (H : Heap) (locs : List Loc), va_P (dC, dI) vwCl (cw_W c kc st lg ai al R) H → va_S A s.heap H locs → W p l e (headSpec wsX6_drawChanges ({ frames := 2, cells := 0, slots := 0, locals := 45 })).room s m ([.ref (c 105), .int p0] : List Value).toArray below meth cM H locs 0 0 (MQ below (va_Qv (fun (_ : Unit) => True) (fun _ t => ∃ (g24 : Nat → Int64), va_P (dC, dI) vwCl (cw_W c kc st lg ai (rU al 24 g24) R) t.heap) A) ([.ref (c 105), .int p0] : List Value).toArray s 0 0 A) (F0 m 0 ls []) := by
    intro H locs hP hS
    refine lv_iload_n hx hb dX6_drawChanges_0 rfl (lv_at hl 1 rfl) ?_
    refine lv_aload_n hx hb dX6_drawChanges_1 rfl (lv_at hl 0 rfl) ?_
    refine va_get (D := (dC, dI)) (ci := 8) (v := .ref (c 104)) (C := RX6) (T := TX6) (N := 12) hx hb hts hin_X6 hown hK hP 5 rfl rfl 0 (by decide) (hts (.fieldLink RX6 9 "BlockLog$Story" "rows" "LBlockLog$Rows;") (by decide +kernel)) (fun _ h9 => h9) rfl dX6_drawChanges_2 ?_
    refine lv_iload_n hx hb dX6_drawChanges_5 rfl (lv_at hl 1 rfl) ?_
    refine vp_callSi (va_Run.run (va_runV (As := [.int p0]) (rest := [.int p0]) ⟨hx, hb, hml, hown, hts⟩ (v_X4_b l dC dI c kc st lg ai al R p0 (show 0 ≤ (st 15).toInt by omega) (show (st 15).toInt ≤ 1 by omega) (by omega) (by omega)) (cwV 1 hts gX6_drawChanges_X4_b rfl rfl rfl (by decide +kernel) ⟨Nat.le_of_ble_eq_true rfl, Nat.le_of_ble_eq_true rfl⟩) ⟨fun a U g mk q => by obtain ⟨q0, qP, qK, qG⟩ := q; exact ⟨q0, qP, va_K.moved (u := U) (U := U.calling g mk a) (Vm.Alike.refl U.vm) qK, qG.same rfl⟩, va_recv hK hP (ci := 6) (q := (RX4, TX4, 6)) rfl (q0 := 4) rfl, fun U hU hW => ⟨rfl, by rw [hU]; exact hP, va_K.moved hW.alike hK, hGW.warm hW⟩⟩ rfl rfl hl.1 rfl (lv_room (Nat.le_of_ble_eq_true rfl)) dX6_drawChanges_6 ⟨Nat.le_of_ble_eq_true rfl, Nat.le_of_ble_eq_true rfl⟩)) (fun r_1 er_1 => ?_)
    have k_2 := er_1
    have k_2 : r_1.toInt = (cB (ai 7) (st 15) p0).toInt := k_2
    refine lv_iadd hx hb dX6_drawChanges_9 ?_
    refine lv_topi (fun v_3 ev_3 => ?_)
    clear ev_3
    refine lv_istore_n (lv' := [(2, .int v_3), (0, .ref (c 105)), (1, .int p0)]) hx hb dX6_drawChanges_10 rfl hl (by decide) rfl (fun ls hl => ?_)
    refine lv_iload_n hx hb dX6_drawChanges_11 rfl (lv_at hl 2 rfl) ?_
    refine lv_iconst (v := 1) hx hb dX6_drawChanges_12 (by decide) ?_
    refine lv_iadd hx hb dX6_drawChanges_13 ?_
    refine lv_topi (fun v_4 ev_4 => ?_)
    have rg1 := iv_rng p0
    have hv_4 : v_4.toInt = p0.toInt + 1 := by rw [ev_4]; exact (iv_add (by omega) (by omega)).trans (by omega)
    clear ev_4
    refine lv_istore_n (lv' := [(3, .int v_4), (2, .int v_3), (0, .ref (c 105)), (1, .int p0)]) hx hb dX6_drawChanges_14 rfl hl (by decide) rfl (fun ls hl => ?_)
    have loop15 : ∀ (n : Nat) (l3_15 : Int32) (b24_15 : Nat → Int64) (H : Heap) (locs : List Loc) (ls : Array Slot), (1 ≤ l3_15.toInt) → (l3_15.toInt ≤ 128) → (129 - l3_15.toInt : Int).toNat < n → va_P (dC, dI) vwCl (cw_W c kc st lg ai (rU al 24 b24_15) R) H → va_S A s.heap H locs → lv_has ls 5 [(3, .int l3_15), (2, .int v_3), (0, .ref (c 105)), (1, .int p0)] → W p l e (headSpec wsX6_drawChanges ({ frames := 2, cells := 0, slots := 0, locals := 45 })).room s m ([.ref (c 105), .int p0] : List Value).toArray below meth cM H locs 0 0 (MQ below (va_Qv (fun (_ : Unit) => True) (fun _ t => ∃ (g24 : Nat → Int64), va_P (dC, dI) vwCl (cw_W c kc st lg ai (rU al 24 g24) R) t.heap) A) ([.ref (c 105), .int p0] : List Value).toArray s 0 0 A) (F0 m 15 ls []) := by
      intro n
      induction n with
      | zero => intro l3_15 b24_15 H locs ls if0_15 if1_15 hm; exact absurd hm (Nat.not_lt_zero _)
      | succ n ih15 =>
        intro l3_15 b24_15 H locs ls if0_15 if1_15 hm15 hP hS hl
        refine lv_iload_n hx hb dX6_drawChanges_15 rfl (lv_at hl 0 rfl) ?_
        refine lv_iload_n hx hb dX6_drawChanges_16 rfl (lv_at hl 1 rfl) ?_
        refine lv_icmp_gt (tgt := 71) hx hb dX6_drawChanges_17 (by decide) (fun c_5 => ?_) (fun c_5 => ?_)
        · skip
          have ic_5 := iv_lt c_5
          exact W.vret hx hb hr (fun t ht hW => ⟨⟨(), rfl, trivial, b24_15, by rw [ht]; exact hP⟩, hS.F ht⟩) hS.2.2 dX6_drawChanges_71
        · skip
          have ic_5 := iv_nlt c_5
          refine lv_iload_n hx hb dX6_drawChanges_20 rfl (lv_at hl 0 rfl) ?_
          refine lv_aload_n hx hb dX6_drawChanges_21 rfl (lv_at hl 2 rfl) ?_
          refine va_get (D := (dC, dI)) (ci := 8) (v := .int (st 25)) (C := RX6) (T := TX6) (N := 12) hx hb hts hin_X6 hown hK hP 5 rfl rfl 7 (by decide) (hts (.fieldLink RX6 36 "BlockLog$Story" "heard" "I") (by decide +kernel)) (fun _ h9 => h9) rfl dX6_drawChanges_22 ?_
          refine lv_icmp_ge (tgt := 71) hx hb dX6_drawChanges_25 (by decide) (fun c_6 => ?_) (fun c_6 => ?_)
          · skip
            have ic_6 := iv_le c_6
            exact W.vret hx hb hr (fun t ht hW => ⟨⟨(), rfl, trivial, b24_15, by rw [ht]; exact hP⟩, hS.F ht⟩) hS.2.2 dX6_drawChanges_71
          · skip
            have ic_6 := iv_nle c_6
            refine lv_aload_n hx hb dX6_drawChanges_28 rfl (lv_at hl 2 rfl) ?_
            refine va_get (D := (dC, dI)) (ci := 8) (v := .ref (c 104)) (C := RX6) (T := TX6) (N := 12) hx hb hts hin_X6 hown hK hP 5 rfl rfl 0 (by decide) (hts (.fieldLink RX6 9 "BlockLog$Story" "rows" "LBlockLog$Rows;") (by decide +kernel)) (fun _ h9 => h9) rfl dX6_drawChanges_29 ?_
            refine lv_iload_n hx hb dX6_drawChanges_32 rfl (lv_at hl 0 rfl) ?_
            refine vp_callSi (va_Run.run (va_runV (As := [.int l3_15]) (rest := []) ⟨hx, hb, hml, hown, hts⟩ (v_X4_a l dC dI c kc st lg ai (rU al 24 b24_15) R l3_15 (show 0 ≤ (st 15).toInt by omega) (show (st 15).toInt ≤ 1 by omega) (by omega) (by omega)) (cwV 1 hts gX6_drawChanges_X4_a rfl rfl rfl (by decide +kernel) ⟨Nat.le_of_ble_eq_true rfl, Nat.le_of_ble_eq_true rfl⟩) ⟨fun a U g mk q => by obtain ⟨q0, qP, qK, qG⟩ := q; exact ⟨q0, qP, va_K.moved (u := U) (U := U.calling g mk a) (Vm.Alike.refl U.vm) qK, qG.same rfl⟩, va_recv hK hP (ci := 6) (q := (RX4, TX4, 6)) rfl (q0 := 4) rfl, fun U hU hW => ⟨rfl, by rw [hU]; exact hP, va_K.moved hW.alike hK, hGW.warm hW⟩⟩ rfl rfl hl.1 rfl (lv_room (Nat.le_of_ble_eq_true rfl)) dX6_drawChanges_33 ⟨Nat.le_of_ble_eq_true rfl, Nat.le_of_ble_eq_true rfl⟩)) (fun r_7 er_7 => ?_)
            refine lv_istore (lv' := [(4, .int r_7), (3, .int l3_15), (2, .int v_3), (0, .ref (c 105)), (1, .int p0)]) hx hb dX6_drawChanges_36 hl (by decide) rfl (fun ls hl => ?_)
            refine lv_iload hx hb dX6_drawChanges_38 (lv_at hl 0 rfl) ?_
            refine lv_if_lt (tgt := 65) hx hb dX6_drawChanges_40 (by decide) (fun c_8 => ?_) (fun c_8 => ?_)
            · skip
              have ic_8 := iv_lt c_8
              obtain ⟨x_9, ex_9⟩ : ∃ z : Int32, z = l3_15 + (1) := ⟨_, rfl⟩
              refine lv_iinc (v := x_9) (lv' := [(3, .int x_9), (4, .int r_7), (2, .int v_3), (0, .ref (c 105)), (1, .int p0)]) hx hb dX6_drawChanges_65 hl (k := 1) rfl (by rw [ex_9]; rfl) (by decide) rfl (fun ls hl => ?_)
              have rg2 := iv_rng l3_15
              have hx_9 : x_9.toInt = l3_15.toInt + (1) := by rw [ex_9]; exact (iv_add (by omega) (by omega)).trans (by omega)
              clear ex_9
              refine lv_goto (tgt := 15) hx hb dX6_drawChanges_68 (by decide) ?_
              exact ih15 x_9 b24_15 _ _ _ (by omega) (by omega) (by omega) hP hS (lv_sub hl [0, 2, 3, 4] rfl)
            · skip
              have ic_8 := iv_nlt c_8
              refine lv_iload hx hb dX6_drawChanges_43 (lv_at hl 0 rfl) ?_
              refine lv_bipush (v := 16) hx hb dX6_drawChanges_45 (by decide) ?_
              refine lv_icmp_ge (tgt := 65) hx hb dX6_drawChanges_47 (by decide) (fun c_10 => ?_) (fun c_10 => ?_)
              · skip
                have ic_10 := iv_le c_10
                obtain ⟨x_11, ex_11⟩ : ∃ z : Int32, z = l3_15 + (1) := ⟨_, rfl⟩
                refine lv_iinc (v := x_11) (lv' := [(3, .int x_11), (4, .int r_7), (2, .int v_3), (0, .ref (c 105)), (1, .int p0)]) hx hb dX6_drawChanges_65 hl (k := 1) rfl (by rw [ex_11]; rfl) (by decide) rfl (fun ls hl => ?_)
                have rg3 := iv_rng l3_15
                have hx_11 : x_11.toInt = l3_15.toInt + (1) := by rw [ex_11]; exact (iv_add (by omega) (by omega)).trans (by omega)
                clear ex_11
                refine lv_goto (tgt := 15) hx hb dX6_drawChanges_68 (by decide) ?_
                exact ih15 x_11 b24_15 _ _ _ (by omega) (by omega) (by omega) hP hS (lv_sub hl [0, 2, 3, 4] rfl)
              · skip
                have ic_10 := iv_nle c_10
                refine lv_aload_n hx hb dX6_drawChanges_50 rfl (lv_at hl 3 rfl) ?_
                refine va_get (D := (dC, dI)) (ci := 8) (v := .ref (c 24)) (C := RX6) (T := TX6) (N := 12) hx hb hts hin_X6 hown hK hP 5 rfl rfl 6 (by decide) (hts (.fieldLink RX6 33 "BlockLog$Story" "slots" "[J") (by decide +kernel)) (fun _ h9 => h9) rfl dX6_drawChanges_51 ?_
                refine lv_iload hx hb dX6_drawChanges_54 (lv_at hl 0 rfl) ?_
                refine lv_aload_n hx hb dX6_drawChanges_56 rfl (lv_at hl 3 rfl) ?_
                refine va_get (D := (dC, dI)) (ci := 8) (v := .ref (c 104)) (C := RX6) (T := TX6) (N := 12) hx hb hts hin_X6 hown hK hP 5 rfl rfl 0 (by decide) (hts (.fieldLink RX6 9 "BlockLog$Story" "rows" "LBlockLog$Rows;") (by decide +kernel)) (fun _ h9 => h9) rfl dX6_drawChanges_57 ?_
                refine lv_iload_n hx hb dX6_drawChanges_60 rfl (lv_at hl 1 rfl) ?_
                refine vp_callSl (va_Run.run (va_runV (As := [.int l3_15]) (rest := [.int r_7, .ref (c 24)]) ⟨hx, hb, hml, hown, hts⟩ (v_X4_c l dC dI c kc st lg ai (rU al 24 b24_15) R l3_15 (show 0 ≤ (st 15).toInt by omega) (show (st 15).toInt ≤ 1 by omega) (by omega) (by omega)) (cwV 1 hts gX6_drawChanges_X4_c rfl rfl rfl (by decide +kernel) ⟨Nat.le_of_ble_eq_true rfl, Nat.le_of_ble_eq_true rfl⟩) ⟨fun a U g mk q => by obtain ⟨q0, qP, qK, qG⟩ := q; exact ⟨q0, qP, va_K.moved (u := U) (U := U.calling g mk a) (Vm.Alike.refl U.vm) qK, qG.same rfl⟩, va_recv hK hP (ci := 6) (q := (RX4, TX4, 6)) rfl (q0 := 4) rfl, fun U hU hW => ⟨rfl, by rw [hU]; exact hP, va_K.moved hW.alike hK, hGW.warm hW⟩⟩ rfl rfl hl.1 rfl (lv_room (Nat.le_of_ble_eq_true rfl)) dX6_drawChanges_61 ⟨Nat.le_of_ble_eq_true rfl, Nat.le_of_ble_eq_true rfl⟩)) (fun r_12 er_12 => ?_)
                refine va_last (f := b24_15) hx hb hK hP (cw_D hD) hS 20 12 rfl rfl (iv_in (i := r_7) (by omega) (by omega)) dX6_drawChanges_64 (fun H locs hP _ hS => ?_)
                have hP : va_P (dC, dI) vwCl (cw_W c kc st lg ai (rU al 24 (vp_updL b24_15 r_7.toNatClampNeg r_12)) R) H := cw_b24 hP
                generalize hU_story_slots : vp_updL b24_15 r_7.toNatClampNeg r_12 = g_13 at hP
                obtain ⟨x_14, ex_14⟩ : ∃ z : Int32, z = l3_15 + (1) := ⟨_, rfl⟩
                refine lv_iinc (v := x_14) (lv' := [(3, .int x_14), (4, .int r_7), (2, .int v_3), (0, .ref (c 105)), (1, .int p0)]) hx hb dX6_drawChanges_65 hl (k := 1) rfl (by rw [ex_14]; rfl) (by decide) rfl (fun ls hl => ?_)
                have rg4 := iv_rng l3_15
                have hx_14 : x_14.toInt = l3_15.toInt + (1) := by rw [ex_14]; exact (iv_add (by omega) (by omega)).trans (by omega)
                clear ex_14
                refine lv_goto (tgt := 15) hx hb dX6_drawChanges_68 (by decide) ?_
                exact ih15 x_14 g_13 _ _ _ (by omega) (by omega) (by omega) hP hS (lv_sub hl [0, 2, 3, 4] rfl)
    exact loop15 ((129 - v_4.toInt : Int).toNat + 1) v_4 (al 24) _ _ _ (by omega) (by omega) (by omega) hP hS (lv_sub hl [0, 1, 2, 3] rfl)
  exact main s.heap [] hP hS

set_option maxHeartbeats 4000000 in
set_option maxRecDepth 100000 in
theorem v_X6_drawVersion (l : Launch) (dC : Nat → ClassId) (dI : Nat → Nat → Nat) (c : Nat → Nat) (kc : Nat → ClassId) (st : Nat → Int32) (lg : Nat → Int64) (ai : Nat → Nat → Int32) (al : Nat → Nat → Int64) (R : va_W) (p0 : Int32) (sz : Nat) (hf15a : 0 ≤ (st 15).toInt) (hf15b : (st 15).toInt ≤ 1) (hf25a : 0 ≤ (st 25).toInt) (hf25b : (st 25).toInt ≤ 128) (hf26a : 0 ≤ (st 26).toInt) (hf26b : (st 26).toInt ≤ 128) (hf28a : 0 ≤ (st 28).toInt) (hf28b : (st 28).toInt ≤ 1) (hR23 : aR (ai 23) 128 (0) 127) : Met l yX6_drawVersion wsX6_drawVersion ({ frames := 3, cells := 0, slots := 0, locals := 69 }) (va_Pc [.ref (c 105), .int p0] (fun U => U.heap.size = sz ∧ va_P (dC, dI) vwCl (cw_W c kc st lg ai al R) U.heap ∧ va_K (dC, dI) vwCl (cw_T kc) U ∧ va_D (fun _ => True) (cw_W c kc st lg ai al R) ∧ gx_E (va_A (cw_W c kc st lg ai al R) sz) U)) (va_Qv (fun (_ : Unit) => True) (fun _ t => ∃ (g24 : Nat → Int64), va_P (dC, dI) vwCl (cw_W c kc st lg ai (rU al 24 g24) R) t.heap) (va_A (cw_W c kc st lg ai al R) sz)) 0 0 (va_A (cw_W c kc st lg ai al R) sz) := by
  refine Met.ofW (cc := cX6_drawVersion) (maxL := 3) (ret := none) (by decide) rfl ?_
  intro p e s m args below meth cM s₁ B hml hv
  obtain ⟨rfl, hsz, hP, hK, hD0, hG⟩ := hv
  have hx := B.exec
  have hb := B.bytes
  have hr := B.returns
  have hts := atoms_spec (ws := wsX6_drawVersion) B.pre
  have hown : s.vm.findClass RX6 = some m.cls := findClass_of_methodNamed B.named
  have hGW := hG.1
  subst hsz
  have hD := hD0.self (sz := s.heap.size)
  generalize hAe : va_A (cw_W c kc st lg ai al R) s.heap.size = A at hD hG ⊢
  have hA : ∀ q : Nat, s.heap.size ≤ q → A q := fun q h => by rw [← hAe]; exact Or.inr h
  have hS : va_S A s.heap s.heap [] := va_S.rf
  clear hAe hD0
  have hl := lv_entry ([.ref (c 105), .int p0]) (n := 3) (Nat.le_of_ble_eq_true rfl)
  rw [lg_entry_eq]
  generalize (lg_sl ([.ref (c 105), .int p0]) ++ List.replicate (3 - (lg_sl ([.ref (c 105), .int p0])).length) Slot.unset).toArray = ls at hl ⊢
  have hl : lv_has ls 3 [(0, .ref (c 105)), (1, .int p0)] := hl
  have z_0 : (0 : Int32).toInt = 0 := by decide
  have z_1 : (1 : Int32).toInt = 1 := by decide
  have z_16 : (16 : Int32).toInt = 16 := by decide
  have hin_X6 : ∀ w ∈ u_ws RX6 TX6 12, w ∈ wsX6_drawVersion := by decide +kernel
  have main : ∀ (H : Heap) (locs : List Loc), va_P (dC, dI) vwCl (cw_W c kc st lg ai al R) H → va_S A s.heap H locs → W p l e (headSpec wsX6_drawVersion ({ frames := 3, cells := 0, slots := 0, locals := 69 })).room s m ([.ref (c 105), .int p0] : List Value).toArray below meth cM H locs 0 0 (MQ below (va_Qv (fun (_ : Unit) => True) (fun _ t => ∃ (g24 : Nat → Int64), va_P (dC, dI) vwCl (cw_W c kc st lg ai (rU al 24 g24) R) t.heap) A) ([.ref (c 105), .int p0] : List Value).toArray s 0 0 A) (F0 m 0 ls []) := by
    intro H locs hP hS
    refine lv_iconst (v := 0) hx hb dX6_drawVersion_0 (by decide) ?_
    refine lv_istore_n (lv' := [(2, .int (0 : Int32)), (0, .ref (c 105)), (1, .int p0)]) hx hb dX6_drawVersion_1 rfl hl (by decide) rfl (fun ls hl => ?_)
    have loop2 : ∀ (n : Nat) (l2_2 : Int32) (b24_2 : Nat → Int64) (H : Heap) (locs : List Loc) (ls : Array Slot), (0 ≤ l2_2.toInt) → (l2_2.toInt ≤ 16) → (16 - l2_2.toInt : Int).toNat < n → va_P (dC, dI) vwCl (cw_W c kc st lg ai (rU al 24 b24_2) R) H → va_S A s.heap H locs → lv_has ls 3 [(2, .int l2_2), (0, .ref (c 105)), (1, .int p0)] → W p l e (headSpec wsX6_drawVersion ({ frames := 3, cells := 0, slots := 0, locals := 69 })).room s m ([.ref (c 105), .int p0] : List Value).toArray below meth cM H locs 0 0 (MQ below (va_Qv (fun (_ : Unit) => True) (fun _ t => ∃ (g24 : Nat → Int64), va_P (dC, dI) vwCl (cw_W c kc st lg ai (rU al 24 g24) R) t.heap) A) ([.ref (c 105), .int p0] : List Value).toArray s 0 0 A) (F0 m 2 ls []) := by
      intro n
      induction n with
      | zero => intro l2_2 b24_2 H locs ls if0_2 if1_2 hm; exact absurd hm (Nat.not_lt_zero _)
      | succ n ih2 =>
        intro l2_2 b24_2 H locs ls if0_2 if1_2 hm2 hP hS hl
        refine lv_iload_n hx hb dX6_drawVersion_2 rfl (lv_at hl 0 rfl) ?_
        refine lv_bipush (v := 16) hx hb dX6_drawVersion_3 (by decide) ?_
        refine lv_icmp_ge (tgt := 21) hx hb dX6_drawVersion_5 (by decide) (fun c_1 => ?_) (fun c_1 => ?_)
        · skip
          have ic_1 := iv_le c_1
          refine lv_aload_n hx hb dX6_drawVersion_21 rfl (lv_at hl 1 rfl) ?_
          refine va_get (D := (dC, dI)) (ci := 8) (v := .int (st 28)) (C := RX6) (T := TX6) (N := 12) hx hb hts hin_X6 hown hK hP 5 rfl rfl 10 (by decide) (hts (.fieldLink RX6 46 "BlockLog$Story" "based" "Z") (by decide +kernel)) (fun _ h9 => h9) rfl dX6_drawVersion_22 ?_
          refine lv_if_eq (tgt := 33) hx hb dX6_drawVersion_25 (by decide) (fun c_2 => ?_) (fun c_2 => ?_)
          · skip
            have ic_2 := iv_eq c_2
            refine lv_iconst (v := 0) hx hb dX6_drawVersion_33 (by decide) ?_
            refine lv_istore_n (lv' := [(2, .int (0 : Int32)), (0, .ref (c 105)), (1, .int p0)]) hx hb dX6_drawVersion_34 rfl hl (by decide) rfl (fun ls hl => ?_)
            have loop35 : ∀ (n : Nat) (l2_35 : Int32) (b24_35 : Nat → Int64) (H : Heap) (locs : List Loc) (ls : Array Slot), (0 ≤ l2_35.toInt) → (l2_35.toInt ≤ (st 26).toInt) → ((st 26).toInt - l2_35.toInt : Int).toNat < n → va_P (dC, dI) vwCl (cw_W c kc st lg ai (rU al 24 b24_35) R) H → va_S A s.heap H locs → lv_has ls 3 [(2, .int l2_35), (0, .ref (c 105)), (1, .int p0)] → W p l e (headSpec wsX6_drawVersion ({ frames := 3, cells := 0, slots := 0, locals := 69 })).room s m ([.ref (c 105), .int p0] : List Value).toArray below meth cM H locs 0 0 (MQ below (va_Qv (fun (_ : Unit) => True) (fun _ t => ∃ (g24 : Nat → Int64), va_P (dC, dI) vwCl (cw_W c kc st lg ai (rU al 24 g24) R) t.heap) A) ([.ref (c 105), .int p0] : List Value).toArray s 0 0 A) (F0 m 35 ls []) := by
              intro n
              induction n with
              | zero => intro l2_35 b24_35 H locs ls if0_35 if1_35 hm; exact absurd hm (Nat.not_lt_zero _)
              | succ n ih35 =>
                intro l2_35 b24_35 H locs ls if0_35 if1_35 hm35 hP hS hl
                refine lv_iload_n hx hb dX6_drawVersion_35 rfl (lv_at hl 0 rfl) ?_
                refine lv_aload_n hx hb dX6_drawVersion_36 rfl (lv_at hl 1 rfl) ?_
                refine va_get (D := (dC, dI)) (ci := 8) (v := .int (st 26)) (C := RX6) (T := TX6) (N := 12) hx hb hts hin_X6 hown hK hP 5 rfl rfl 8 (by decide) (hts (.fieldLink RX6 40 "BlockLog$Story" "certified" "I") (by decide +kernel)) (fun _ h9 => h9) rfl dX6_drawVersion_37 ?_
                refine lv_icmp_ge (tgt := 69) hx hb dX6_drawVersion_40 (by decide) (fun c_3 => ?_) (fun c_3 => ?_)
                · skip
                  have ic_3 := iv_le c_3
                  exact W.vret hx hb hr (fun t ht hW => ⟨⟨(), rfl, trivial, b24_35, by rw [ht]; exact hP⟩, hS.F ht⟩) hS.2.2 dX6_drawVersion_69
                · skip
                  have ic_3 := iv_nle c_3
                  refine lv_iload_n hx hb dX6_drawVersion_43 rfl (lv_at hl 0 rfl) ?_
                  refine lv_iload_n hx hb dX6_drawVersion_44 rfl (lv_at hl 2 rfl) ?_
                  refine lv_aload_n hx hb dX6_drawVersion_45 rfl (lv_at hl 1 rfl) ?_
                  refine va_get (D := (dC, dI)) (ci := 8) (v := .int (st 29)) (C := RX6) (T := TX6) (N := 12) hx hb hts hin_X6 hown hK hP 5 rfl rfl 11 (by decide) (hts (.fieldLink RX6 50 "BlockLog$Story" "baseHeight" "I") (by decide +kernel)) (fun _ h9 => h9) rfl dX6_drawVersion_46 ?_
                  refine lv_isub hx hb dX6_drawVersion_49 ?_
                  refine lv_topi (fun v_4 ev_4 => ?_)
                  clear ev_4
                  refine lv_icmp_ge (tgt := 69) hx hb dX6_drawVersion_50 (by decide) (fun c_5 => ?_) (fun c_5 => ?_)
                  · skip
                    have ic_5 := iv_le c_5
                    exact W.vret hx hb hr (fun t ht hW => ⟨⟨(), rfl, trivial, b24_35, by rw [ht]; exact hP⟩, hS.F ht⟩) hS.2.2 dX6_drawVersion_69
                  · skip
                    have ic_5 := iv_nle c_5
                    refine lv_aload_n hx hb dX6_drawVersion_53 rfl (lv_at hl 1 rfl) ?_
                    refine lv_aload_n hx hb dX6_drawVersion_54 rfl (lv_at hl 1 rfl) ?_
                    refine va_get (D := (dC, dI)) (ci := 8) (v := .ref (c 23)) (C := RX6) (T := TX6) (N := 12) hx hb hts hin_X6 hown hK hP 5 rfl rfl 5 (by decide) (hts (.fieldLink RX6 29 "BlockLog$Story" "chain" "[I") (by decide +kernel)) (fun _ h9 => h9) rfl dX6_drawVersion_55 ?_
                    refine lv_iload_n hx hb dX6_drawVersion_58 rfl (lv_at hl 0 rfl) ?_
                    refine va_iald (f := ai 23) hx hb hK hP 19 11 rfl rfl (iv_in (i := l2_35) (by omega) (by omega)) dX6_drawVersion_59 ?_
                    refine lv_topi (fun v_6 ev_6 => ?_)
                    have k_7 : 0 ≤ v_6.toInt ∧ v_6.toInt ≤ 127 := aR_get hR23 (by omega) (by omega) ev_6
                    clear ev_6
                    have hFc := vfree ((cw_D hD : va_D A (cw_W c kc st lg ai (rU al 24 b24_35) R)) : va_D A (cw_W c kc st lg ai (rU al 24 b24_35) R)) hS hA
                    refine va_callv (va_runV (As := [.int v_6]) (rest := []) ⟨hx, hb, hml, hown, hts⟩ (v_X6_drawChanges l dC dI c kc st lg ai (rU al 24 b24_35) R v_6 _ (show 0 ≤ (st 15).toInt by omega) (show (st 15).toInt ≤ 1 by omega) (show 0 ≤ (st 25).toInt by omega) (show (st 25).toInt ≤ 128 by omega) (by omega) (by omega)) (cwV 1 hts gX6_drawVersion_X6_drawChanges rfl rfl rfl (by decide +kernel) ⟨Nat.le_of_ble_eq_true rfl, Nat.le_of_ble_eq_true rfl⟩) ⟨fun a U g mk q => by obtain ⟨q0, q1, qP, qK, qD, qG⟩ := q; exact ⟨q0, q1, qP, va_K.moved (u := U) (U := U.calling g mk a) (Vm.Alike.refl U.vm) qK, qD, qG.same rfl rfl⟩, va_recv hK hP (ci := 8) (q := (RX6, TX6, 12)) rfl (q0 := 5) rfl, fun U hU hW => ⟨rfl, by rw [hU], by rw [hU]; exact hP, va_K.moved hW.alike hK, ((cw_D hD : va_D A (cw_W c kc st lg ai (rU al 24 b24_35) R))).weaken (fun _ _ _ _ => trivial), hG.go hW hU hS hFc⟩⟩ rfl rfl hl.1 rfl (lv_room (Nat.le_of_ble_eq_true rfl)) dX6_drawVersion_60 ⟨Nat.le_of_ble_eq_true rfl, Nat.le_of_ble_eq_true rfl⟩) hS (fun q _ h => hFc q h) hFc (fun ur_8 t H1 locs ht hvm er_8 hB hz1 hk1 hS => ?_)
                    obtain ⟨g24_8, hP1⟩ := hB
                    rw [ht] at hP1
                    clear hFc hz1 hk1 hvm hP
                    subst ht
                    have hP := hP1
                    clear hP1
                    generalize t.heap = H at hP hS ⊢
                    have hP : va_P (dC, dI) vwCl (cw_W c kc st lg ai (rU al 24 g24_8) R) H := hP
                    obtain ⟨x_9, ex_9⟩ : ∃ z : Int32, z = l2_35 + (1) := ⟨_, rfl⟩
                    refine lv_iinc (v := x_9) (lv' := [(2, .int x_9), (0, .ref (c 105)), (1, .int p0)]) hx hb dX6_drawVersion_63 hl (k := 0) rfl (by rw [ex_9]; rfl) (by decide) rfl (fun ls hl => ?_)
                    have rg1 := iv_rng l2_35
                    have hx_9 : x_9.toInt = l2_35.toInt + (1) := by rw [ex_9]; exact (iv_add (by omega) (by omega)).trans (by omega)
                    clear ex_9
                    refine lv_goto (tgt := 35) hx hb dX6_drawVersion_66 (by decide) ?_
                    exact ih35 x_9 g24_8 _ _ _ (by omega) (by omega) (by omega) hP hS (lv_sub hl [0, 1, 2] rfl)
            exact loop35 (((st 26).toInt - 0 : Int).toNat + 1) (0 : Int32) b24_2 _ _ _ (by omega) (by omega) (by omega) hP hS (lv_sub hl [0, 1, 2] rfl)
          · skip
            have ic_2 := iv_ne c_2
            refine lv_aload_n hx hb dX6_drawVersion_28 rfl (lv_at hl 1 rfl) ?_
            refine lv_iconst (v := 0) hx hb dX6_drawVersion_29 (by decide) ?_
            have hFc := vfree ((cw_D hD : va_D A (cw_W c kc st lg ai (rU al 24 b24_2) R)) : va_D A (cw_W c kc st lg ai (rU al 24 b24_2) R)) hS hA
            refine va_callv (va_runV (As := [.int (0 : Int32)]) (rest := []) ⟨hx, hb, hml, hown, hts⟩ (v_X6_drawChanges l dC dI c kc st lg ai (rU al 24 b24_2) R (0 : Int32) _ (show 0 ≤ (st 15).toInt by omega) (show (st 15).toInt ≤ 1 by omega) (show 0 ≤ (st 25).toInt by omega) (show (st 25).toInt ≤ 128 by omega) (by omega) (by omega)) (cwV 1 hts gX6_drawVersion_X6_drawChanges rfl rfl rfl (by decide +kernel) ⟨Nat.le_of_ble_eq_true rfl, Nat.le_of_ble_eq_true rfl⟩) ⟨fun a U g mk q => by obtain ⟨q0, q1, qP, qK, qD, qG⟩ := q; exact ⟨q0, q1, qP, va_K.moved (u := U) (U := U.calling g mk a) (Vm.Alike.refl U.vm) qK, qD, qG.same rfl rfl⟩, va_recv hK hP (ci := 8) (q := (RX6, TX6, 12)) rfl (q0 := 5) rfl, fun U hU hW => ⟨rfl, by rw [hU], by rw [hU]; exact hP, va_K.moved hW.alike hK, ((cw_D hD : va_D A (cw_W c kc st lg ai (rU al 24 b24_2) R))).weaken (fun _ _ _ _ => trivial), hG.go hW hU hS hFc⟩⟩ rfl rfl hl.1 rfl (lv_room (Nat.le_of_ble_eq_true rfl)) dX6_drawVersion_30 ⟨Nat.le_of_ble_eq_true rfl, Nat.le_of_ble_eq_true rfl⟩) hS (fun q _ h => hFc q h) hFc (fun ur_10 t H1 locs ht hvm er_10 hB hz1 hk1 hS => ?_)
            obtain ⟨g24_10, hP1⟩ := hB
            rw [ht] at hP1
            clear hFc hz1 hk1 hvm hP
            subst ht
            have hP := hP1
            clear hP1
            generalize t.heap = H at hP hS ⊢
            have hP : va_P (dC, dI) vwCl (cw_W c kc st lg ai (rU al 24 g24_10) R) H := hP
            refine lv_iconst (v := 0) hx hb dX6_drawVersion_33 (by decide) ?_
            refine lv_istore_n (lv' := [(2, .int (0 : Int32)), (0, .ref (c 105)), (1, .int p0)]) hx hb dX6_drawVersion_34 rfl hl (by decide) rfl (fun ls hl => ?_)
            have loop35 : ∀ (n : Nat) (l2_35 : Int32) (b24_35 : Nat → Int64) (H : Heap) (locs : List Loc) (ls : Array Slot), (0 ≤ l2_35.toInt) → (l2_35.toInt ≤ (st 26).toInt) → ((st 26).toInt - l2_35.toInt : Int).toNat < n → va_P (dC, dI) vwCl (cw_W c kc st lg ai (rU al 24 b24_35) R) H → va_S A s.heap H locs → lv_has ls 3 [(2, .int l2_35), (0, .ref (c 105)), (1, .int p0)] → W p l e (headSpec wsX6_drawVersion ({ frames := 3, cells := 0, slots := 0, locals := 69 })).room s m ([.ref (c 105), .int p0] : List Value).toArray below meth cM H locs 0 0 (MQ below (va_Qv (fun (_ : Unit) => True) (fun _ t => ∃ (g24 : Nat → Int64), va_P (dC, dI) vwCl (cw_W c kc st lg ai (rU al 24 g24) R) t.heap) A) ([.ref (c 105), .int p0] : List Value).toArray s 0 0 A) (F0 m 35 ls []) := by
              intro n
              induction n with
              | zero => intro l2_35 b24_35 H locs ls if0_35 if1_35 hm; exact absurd hm (Nat.not_lt_zero _)
              | succ n ih35 =>
                intro l2_35 b24_35 H locs ls if0_35 if1_35 hm35 hP hS hl
                refine lv_iload_n hx hb dX6_drawVersion_35 rfl (lv_at hl 0 rfl) ?_
                refine lv_aload_n hx hb dX6_drawVersion_36 rfl (lv_at hl 1 rfl) ?_
                refine va_get (D := (dC, dI)) (ci := 8) (v := .int (st 26)) (C := RX6) (T := TX6) (N := 12) hx hb hts hin_X6 hown hK hP 5 rfl rfl 8 (by decide) (hts (.fieldLink RX6 40 "BlockLog$Story" "certified" "I") (by decide +kernel)) (fun _ h9 => h9) rfl dX6_drawVersion_37 ?_
                refine lv_icmp_ge (tgt := 69) hx hb dX6_drawVersion_40 (by decide) (fun c_11 => ?_) (fun c_11 => ?_)
                · skip
                  have ic_11 := iv_le c_11
                  exact W.vret hx hb hr (fun t ht hW => ⟨⟨(), rfl, trivial, b24_35, by rw [ht]; exact hP⟩, hS.F ht⟩) hS.2.2 dX6_drawVersion_69
                · skip
                  have ic_11 := iv_nle c_11
                  refine lv_iload_n hx hb dX6_drawVersion_43 rfl (lv_at hl 0 rfl) ?_
                  refine lv_iload_n hx hb dX6_drawVersion_44 rfl (lv_at hl 2 rfl) ?_
                  refine lv_aload_n hx hb dX6_drawVersion_45 rfl (lv_at hl 1 rfl) ?_
                  refine va_get (D := (dC, dI)) (ci := 8) (v := .int (st 29)) (C := RX6) (T := TX6) (N := 12) hx hb hts hin_X6 hown hK hP 5 rfl rfl 11 (by decide) (hts (.fieldLink RX6 50 "BlockLog$Story" "baseHeight" "I") (by decide +kernel)) (fun _ h9 => h9) rfl dX6_drawVersion_46 ?_
                  refine lv_isub hx hb dX6_drawVersion_49 ?_
                  refine lv_topi (fun v_12 ev_12 => ?_)
                  clear ev_12
                  refine lv_icmp_ge (tgt := 69) hx hb dX6_drawVersion_50 (by decide) (fun c_13 => ?_) (fun c_13 => ?_)
                  · skip
                    have ic_13 := iv_le c_13
                    exact W.vret hx hb hr (fun t ht hW => ⟨⟨(), rfl, trivial, b24_35, by rw [ht]; exact hP⟩, hS.F ht⟩) hS.2.2 dX6_drawVersion_69
                  · skip
                    have ic_13 := iv_nle c_13
                    refine lv_aload_n hx hb dX6_drawVersion_53 rfl (lv_at hl 1 rfl) ?_
                    refine lv_aload_n hx hb dX6_drawVersion_54 rfl (lv_at hl 1 rfl) ?_
                    refine va_get (D := (dC, dI)) (ci := 8) (v := .ref (c 23)) (C := RX6) (T := TX6) (N := 12) hx hb hts hin_X6 hown hK hP 5 rfl rfl 5 (by decide) (hts (.fieldLink RX6 29 "BlockLog$Story" "chain" "[I") (by decide +kernel)) (fun _ h9 => h9) rfl dX6_drawVersion_55 ?_
                    refine lv_iload_n hx hb dX6_drawVersion_58 rfl (lv_at hl 0 rfl) ?_
                    refine va_iald (f := ai 23) hx hb hK hP 19 11 rfl rfl (iv_in (i := l2_35) (by omega) (by omega)) dX6_drawVersion_59 ?_
                    refine lv_topi (fun v_14 ev_14 => ?_)
                    have k_15 : 0 ≤ v_14.toInt ∧ v_14.toInt ≤ 127 := aR_get hR23 (by omega) (by omega) ev_14
                    clear ev_14
                    have hFc := vfree ((cw_D hD : va_D A (cw_W c kc st lg ai (rU al 24 b24_35) R)) : va_D A (cw_W c kc st lg ai (rU al 24 b24_35) R)) hS hA
                    refine va_callv (va_runV (As := [.int v_14]) (rest := []) ⟨hx, hb, hml, hown, hts⟩ (v_X6_drawChanges l dC dI c kc st lg ai (rU al 24 b24_35) R v_14 _ (show 0 ≤ (st 15).toInt by omega) (show (st 15).toInt ≤ 1 by omega) (show 0 ≤ (st 25).toInt by omega) (show (st 25).toInt ≤ 128 by omega) (by omega) (by omega)) (cwV 1 hts gX6_drawVersion_X6_drawChanges rfl rfl rfl (by decide +kernel) ⟨Nat.le_of_ble_eq_true rfl, Nat.le_of_ble_eq_true rfl⟩) ⟨fun a U g mk q => by obtain ⟨q0, q1, qP, qK, qD, qG⟩ := q; exact ⟨q0, q1, qP, va_K.moved (u := U) (U := U.calling g mk a) (Vm.Alike.refl U.vm) qK, qD, qG.same rfl rfl⟩, va_recv hK hP (ci := 8) (q := (RX6, TX6, 12)) rfl (q0 := 5) rfl, fun U hU hW => ⟨rfl, by rw [hU], by rw [hU]; exact hP, va_K.moved hW.alike hK, ((cw_D hD : va_D A (cw_W c kc st lg ai (rU al 24 b24_35) R))).weaken (fun _ _ _ _ => trivial), hG.go hW hU hS hFc⟩⟩ rfl rfl hl.1 rfl (lv_room (Nat.le_of_ble_eq_true rfl)) dX6_drawVersion_60 ⟨Nat.le_of_ble_eq_true rfl, Nat.le_of_ble_eq_true rfl⟩) hS (fun q _ h => hFc q h) hFc (fun ur_16 t H1 locs ht hvm er_16 hB hz1 hk1 hS => ?_)
                    obtain ⟨g24_16, hP1⟩ := hB
                    rw [ht] at hP1
                    clear hFc hz1 hk1 hvm hP
                    subst ht
                    have hP := hP1
                    clear hP1
                    generalize t.heap = H at hP hS ⊢
                    have hP : va_P (dC, dI) vwCl (cw_W c kc st lg ai (rU al 24 g24_16) R) H := hP
                    obtain ⟨x_17, ex_17⟩ : ∃ z : Int32, z = l2_35 + (1) := ⟨_, rfl⟩
                    refine lv_iinc (v := x_17) (lv' := [(2, .int x_17), (0, .ref (c 105)), (1, .int p0)]) hx hb dX6_drawVersion_63 hl (k := 0) rfl (by rw [ex_17]; rfl) (by decide) rfl (fun ls hl => ?_)
                    have rg2 := iv_rng l2_35
                    have hx_17 : x_17.toInt = l2_35.toInt + (1) := by rw [ex_17]; exact (iv_add (by omega) (by omega)).trans (by omega)
                    clear ex_17
                    refine lv_goto (tgt := 35) hx hb dX6_drawVersion_66 (by decide) ?_
                    exact ih35 x_17 g24_16 _ _ _ (by omega) (by omega) (by omega) hP hS (lv_sub hl [0, 1, 2] rfl)
            exact loop35 (((st 26).toInt - 0 : Int).toNat + 1) (0 : Int32) g24_10 _ _ _ (by omega) (by omega) (by omega) hP hS (lv_sub hl [0, 1, 2] rfl)
        · skip
          have ic_1 := iv_nle c_1
          refine lv_aload_n hx hb dX6_drawVersion_8 rfl (lv_at hl 1 rfl) ?_
          refine va_get (D := (dC, dI)) (ci := 8) (v := .ref (c 24)) (C := RX6) (T := TX6) (N := 12) hx hb hts hin_X6 hown hK hP 5 rfl rfl 6 (by decide) (hts (.fieldLink RX6 33 "BlockLog$Story" "slots" "[J") (by decide +kernel)) (fun _ h9 => h9) rfl dX6_drawVersion_9 ?_
          refine lv_iload_n hx hb dX6_drawVersion_12 rfl (lv_at hl 0 rfl) ?_
          refine lv_lconst (v := 0) hx hb dX6_drawVersion_13 (by decide) ?_
          refine va_last (f := b24_2) hx hb hK hP (cw_D hD) hS 20 12 rfl rfl (iv_in (i := l2_2) (by omega) (by omega)) dX6_drawVersion_14 (fun H locs hP _ hS => ?_)
          have hP : va_P (dC, dI) vwCl (cw_W c kc st lg ai (rU al 24 (vp_updL b24_2 l2_2.toNatClampNeg (0 : Int64))) R) H := cw_b24 hP
          generalize hU_story_slots : vp_updL b24_2 l2_2.toNatClampNeg (0 : Int64) = g_18 at hP
          obtain ⟨x_19, ex_19⟩ : ∃ z : Int32, z = l2_2 + (1) := ⟨_, rfl⟩
          refine lv_iinc (v := x_19) (lv' := [(2, .int x_19), (0, .ref (c 105)), (1, .int p0)]) hx hb dX6_drawVersion_15 hl (k := 0) rfl (by rw [ex_19]; rfl) (by decide) rfl (fun ls hl => ?_)
          have rg3 := iv_rng l2_2
          have hx_19 : x_19.toInt = l2_2.toInt + (1) := by rw [ex_19]; exact (iv_add (by omega) (by omega)).trans (by omega)
          clear ex_19
          refine lv_goto (tgt := 2) hx hb dX6_drawVersion_18 (by decide) ?_
          exact ih2 x_19 g_18 _ _ _ (by omega) (by omega) (by omega) hP hS (lv_sub hl [0, 1, 2] rfl)
    exact loop2 ((16 - 0 : Int).toNat + 1) (0 : Int32) (al 24) _ _ _ (by omega) (by omega) (by omega) hP hS (lv_sub hl [0, 1, 2] rfl)
  exact main s.heap [] hP hS

set_option maxHeartbeats 4000000 in
set_option maxRecDepth 100000 in
theorem v_X6_filledSlots (l : Launch) (dC : Nat → ClassId) (dI : Nat → Nat → Nat) (c : Nat → Nat) (kc : Nat → ClassId) (st : Nat → Int32) (lg : Nat → Int64) (ai : Nat → Nat → Int32) (al : Nat → Nat → Int64) (R : va_W)   : Met l yX6_filledSlots wsX6_filledSlots ({ frames := 0, cells := 0, slots := 0, locals := 0 }) (va_Pc [.ref (c 105)] (fun U => va_P (dC, dI) vwCl (cw_W c kc st lg ai al R) U.heap ∧ va_K (dC, dI) vwCl (cw_T kc) U)) (vp_Si (fun r => (0 ≤ r.toInt) ∧ (r.toInt ≤ 16) ∧ (r.toInt = (cntL (al 24) 16 : Int)))) 0 0 (fun _ => False) := by
  refine Met.ofW (cc := cX6_filledSlots) (maxL := 3) (ret := (some .int)) (by decide) rfl ?_
  intro p e s m args below meth cM s₁ B hml hv
  obtain ⟨rfl, hP, hK⟩ := hv
  have hx := B.exec
  have hb := B.bytes
  have hr := B.returns
  have hts := atoms_spec (ws := wsX6_filledSlots) B.pre
  have hown : s.vm.findClass RX6 = some m.cls := findClass_of_methodNamed B.named
  have hl := lv_entry ([.ref (c 105)]) (n := 3) (Nat.le_of_ble_eq_true rfl)
  rw [lg_entry_eq]
  generalize (lg_sl ([.ref (c 105)]) ++ List.replicate (3 - (lg_sl ([.ref (c 105)])).length) Slot.unset).toArray = ls at hl ⊢
  have hl : lv_has ls 3 [(0, .ref (c 105))] := hl
  have z_0 : (0 : Int32).toInt = 0 := by decide
  have z_1 : (1 : Int32).toInt = 1 := by decide
  have z_16 : (16 : Int32).toInt = 16 := by decide
  have hin_X6 : ∀ w ∈ u_ws RX6 TX6 12, w ∈ wsX6_filledSlots := by decide +kernel
  refine lv_iconst (v := 0) hx hb dX6_filledSlots_0 (by decide) ?_
  refine lv_istore_n (lv' := [(1, .int (0 : Int32)), (0, .ref (c 105))]) hx hb dX6_filledSlots_1 rfl hl (by decide) rfl (fun ls hl => ?_)
  refine lv_iconst (v := 0) hx hb dX6_filledSlots_2 (by decide) ?_
  refine lv_istore_n (lv' := [(2, .int (0 : Int32)), (1, .int (0 : Int32)), (0, .ref (c 105))]) hx hb dX6_filledSlots_3 rfl hl (by decide) rfl (fun ls hl => ?_)
  have loop4 : ∀ (n : Nat) (l2_4 : Int32) (l1_4 : Int32) (ls : Array Slot), (0 ≤ l2_4.toInt) → (l2_4.toInt ≤ 16) → (0 ≤ l1_4.toInt) → (l1_4.toInt ≤ l2_4.toInt) → (l1_4.toInt - 0 = (cntL (al 24) l2_4.toInt.toNat : Int)) → (16 - l2_4.toInt : Int).toNat < n → lv_has ls 3 [(2, .int l2_4), (1, .int l1_4), (0, .ref (c 105))] → W p l e (headSpec wsX6_filledSlots ({ frames := 0, cells := 0, slots := 0, locals := 0 })).room s m ([.ref (c 105)] : List Value).toArray below meth cM s.heap [] 0 0 (MQ below (vp_Si (fun r => (0 ≤ r.toInt) ∧ (r.toInt ≤ 16) ∧ (r.toInt = (cntL (al 24) 16 : Int)))) ([.ref (c 105)] : List Value).toArray s 0 0 (fun _ => False)) (F0 m 4 ls []) := by
    intro n
    induction n with
    | zero => intro l2_4 l1_4 ls if0_4 if1_4 if2_4 if3_4 hcn hm; exact absurd hm (Nat.not_lt_zero _)
    | succ n ih4 =>
      intro l2_4 l1_4 ls if0_4 if1_4 if2_4 if3_4 hcn hm4 hl
      refine lv_iload_n hx hb dX6_filledSlots_4 rfl (lv_at hl 0 rfl) ?_
      refine lv_bipush (v := 16) hx hb dX6_filledSlots_5 (by decide) ?_
      refine lv_icmp_ge (tgt := 30) hx hb dX6_filledSlots_7 (by decide) (fun c_1 => ?_) (fun c_1 => ?_)
      · skip
        have ic_1 := iv_le c_1
        refine lv_iload_n hx hb dX6_filledSlots_30 rfl (lv_at hl 1 rfl) ?_
        exact W.iret hx hb hr (fun t ht hW => ⟨_, rfl, ⟨(by omega), (by omega), (cn_e hcn (by omega))⟩, ht⟩) (fun q h => by cases h) dX6_filledSlots_31
      · skip
        have ic_1 := iv_nle c_1
        refine lv_aload_n hx hb dX6_filledSlots_10 rfl (lv_at hl 2 rfl) ?_
        refine va_get (D := (dC, dI)) (ci := 8) (v := .ref (c 24)) (C := RX6) (T := TX6) (N := 12) hx hb hts hin_X6 hown hK hP 5 rfl rfl 6 (by decide) (hts (.fieldLink RX6 33 "BlockLog$Story" "slots" "[J") (by decide +kernel)) (fun _ h9 => h9) rfl dX6_filledSlots_11 ?_
        refine lv_iload_n hx hb dX6_filledSlots_14 rfl (lv_at hl 0 rfl) ?_
        refine va_lald (f := al 24) hx hb hK hP 20 12 rfl rfl (iv_in (i := l2_4) (by omega) (by omega)) dX6_filledSlots_15 ?_
        refine lv_topl (fun w_2 ew_2 => ?_)
        have hX_story_slots := ew_2
        clear ew_2
        refine lv_lconst (v := 0) hx hb dX6_filledSlots_16 (by decide) ?_
        refine W.lcmp hx hb dX6_filledSlots_17 ?_
        refine lv_topi (fun v_3 ev_3 => ?_)
        refine lv_if_eq (tgt := 24) hx hb dX6_filledSlots_18 (by decide) (fun c_4 => ?_) (fun c_4 => ?_)
        · skip
          have ic_4 := iv_eq c_4
          obtain ⟨x_5, ex_5⟩ : ∃ z : Int32, z = l2_4 + (1) := ⟨_, rfl⟩
          refine lv_iinc (v := x_5) (lv' := [(2, .int x_5), (1, .int l1_4), (0, .ref (c 105))]) hx hb dX6_filledSlots_24 hl (k := 0) rfl (by rw [ex_5]; rfl) (by decide) rfl (fun ls hl => ?_)
          have rg1 := iv_rng l2_4
          have hx_5 : x_5.toInt = l2_4.toInt + (1) := by rw [ex_5]; exact (iv_add (by omega) (by omega)).trans (by omega)
          clear ex_5
          refine lv_goto (tgt := 4) hx hb dX6_filledSlots_27 (by decide) ?_
          exact ih4 x_5 l1_4 _ (by omega) (by omega) (by omega) (by omega) (by first | exact cn_1 (d := 0) hcn hX_story_slots (by assumption) (by assumption) (by omega) (by omega) (by omega) | exact cn_z (d := 0) hcn hX_story_slots (by assumption) (by assumption) (by omega) (by omega) (by omega)) (by omega) (lv_sub hl [0, 1, 2] rfl)
        · skip
          have ic_4 := iv_ne c_4
          obtain ⟨x_6, ex_6⟩ : ∃ z : Int32, z = l1_4 + (1) := ⟨_, rfl⟩
          refine lv_iinc (v := x_6) (lv' := [(1, .int x_6), (2, .int l2_4), (0, .ref (c 105))]) hx hb dX6_filledSlots_21 hl (k := 1) rfl (by rw [ex_6]; rfl) (by decide) rfl (fun ls hl => ?_)
          have rg2 := iv_rng l1_4
          have hx_6 : x_6.toInt = l1_4.toInt + (1) := by rw [ex_6]; exact (iv_add (by omega) (by omega)).trans (by omega)
          clear ex_6
          obtain ⟨x_7, ex_7⟩ : ∃ z : Int32, z = l2_4 + (1) := ⟨_, rfl⟩
          refine lv_iinc (v := x_7) (lv' := [(2, .int x_7), (1, .int x_6), (0, .ref (c 105))]) hx hb dX6_filledSlots_24 hl (k := 1) rfl (by rw [ex_7]; rfl) (by decide) rfl (fun ls hl => ?_)
          have rg3 := iv_rng l2_4
          have hx_7 : x_7.toInt = l2_4.toInt + (1) := by rw [ex_7]; exact (iv_add (by omega) (by omega)).trans (by omega)
          clear ex_7
          refine lv_goto (tgt := 4) hx hb dX6_filledSlots_27 (by decide) ?_
          exact ih4 x_7 x_6 _ (by omega) (by omega) (by omega) (by omega) (by first | exact cn_1 (d := 0) hcn hX_story_slots (by assumption) (by assumption) (by omega) (by omega) (by omega) | exact cn_z (d := 0) hcn hX_story_slots (by assumption) (by assumption) (by omega) (by omega) (by omega)) (by omega) (lv_sub hl [0, 1, 2] rfl)
  exact loop4 ((16 - 0 : Int).toNat + 1) (0 : Int32) (0 : Int32) _ (by omega) (by omega) (by omega) (by omega) (cn_0 (by omega) (by omega)) (by omega) (lv_sub hl [0, 1, 2] rfl)

set_option maxHeartbeats 4000000 in
set_option maxRecDepth 100000 in
theorem v_X6_names (l : Launch) (dC : Nat → ClassId) (dI : Nat → Nat → Nat) (c : Nat → Nat) (kc : Nat → ClassId) (st : Nat → Int32) (lg : Nat → Int64) (ai : Nat → Nat → Int32) (al : Nat → Nat → Int64) (R : va_W) (p0 : Int64) (sz : Nat) (hf15a : 0 ≤ (st 15).toInt) (hf15b : (st 15).toInt ≤ 1) (hf25a : 0 ≤ (st 25).toInt) (hf25b : (st 25).toInt ≤ 128) (hf26a : 0 ≤ (st 26).toInt) (hf26b : (st 26).toInt ≤ 128) (hf28a : 0 ≤ (st 28).toInt) (hf28b : (st 28).toInt ≤ 1) (hR23 : aR (ai 23) 128 (0) 127) : Met l yX6_names wsX6_names ({ frames := 4, cells := 0, slots := 0, locals := 91 }) (va_Pc [.ref (c 105), .long p0] (fun U => U.heap.size = sz ∧ va_P (dC, dI) vwCl (cw_W c kc st lg ai al R) U.heap ∧ va_K (dC, dI) vwCl (cw_T kc) U ∧ va_D (fun _ => True) (cw_W c kc st lg ai al R) ∧ gx_E (va_A (cw_W c kc st lg ai al R) sz) U)) (va_Qi (fun r (u : Int32) => r = u) (fun u t => ∃ (g24 : Nat → Int64), (0 ≤ u.toInt) ∧ (u.toInt ≤ 1) ∧ va_P (dC, dI) vwCl (cw_W c kc st lg ai (rU al 24 g24) R) t.heap) (va_A (cw_W c kc st lg ai al R) sz)) 0 0 (va_A (cw_W c kc st lg ai al R) sz) := by
  refine Met.ofW (cc := cX6_names) (maxL := 4) (ret := (some .boolean)) (by decide) rfl ?_
  intro p e s m args below meth cM s₁ B hml hv
  obtain ⟨rfl, hsz, hP, hK, hD0, hG⟩ := hv
  have hx := B.exec
  have hb := B.bytes
  have hr := B.returns
  have hts := atoms_spec (ws := wsX6_names) B.pre
  have hown : s.vm.findClass RX6 = some m.cls := findClass_of_methodNamed B.named
  have hGW := hG.1
  subst hsz
  have hD := hD0.self (sz := s.heap.size)
  generalize hAe : va_A (cw_W c kc st lg ai al R) s.heap.size = A at hD hG ⊢
  have hA : ∀ q : Nat, s.heap.size ≤ q → A q := fun q h => by rw [← hAe]; exact Or.inr h
  have hS : va_S A s.heap s.heap [] := va_S.rf
  clear hAe hD0
  have hl := lv_entry ([.ref (c 105), .long p0]) (n := 4) (Nat.le_of_ble_eq_true rfl)
  rw [lg_entry_eq]
  generalize (lg_sl ([.ref (c 105), .long p0]) ++ List.replicate (4 - (lg_sl ([.ref (c 105), .long p0])).length) Slot.unset).toArray = ls at hl ⊢
  have hl : lv_has ls 4 [(0, .ref (c 105)), (1, .long p0)] := hl
  have z_0 : (0 : Int32).toInt = 0 := by decide
  have z_1 : (1 : Int32).toInt = 1 := by decide
  have z_16 : (16 : Int32).toInt = 16 := by decide
  have hin_X6 : ∀ w ∈ u_ws RX6 TX6 12, w ∈ wsX6_names := by decide +kernel
  have main : ∀ (H : Heap) (locs : List Loc), va_P (dC, dI) vwCl (cw_W c kc st lg ai al R) H → va_S A s.heap H locs → W p l e (headSpec wsX6_names ({ frames := 4, cells := 0, slots := 0, locals := 91 })).room s m ([.ref (c 105), .long p0] : List Value).toArray below meth cM H locs 0 0 (MQ below (va_Qi (fun r (u : Int32) => r = u) (fun u t => ∃ (g24 : Nat → Int64), (0 ≤ u.toInt) ∧ (u.toInt ≤ 1) ∧ va_P (dC, dI) vwCl (cw_W c kc st lg ai (rU al 24 g24) R) t.heap) A) ([.ref (c 105), .long p0] : List Value).toArray s 0 0 A) (F0 m 0 ls []) := by
    intro H locs hP hS
    refine lv_lload_n hx hb dX6_names_0 rfl (lv_at hl 1 rfl) ?_
    refine lv_lconst (v := 0) hx hb dX6_names_1 (by decide) ?_
    refine W.lcmp hx hb dX6_names_2 ?_
    refine lv_topi (fun v_1 ev_1 => ?_)
    clear ev_1
    refine lv_if_ne (tgt := 8) hx hb dX6_names_3 (by decide) (fun c_2 => ?_) (fun c_2 => ?_)
    · skip
      have ic_2 := iv_ne c_2
      refine lv_iconst (v := 0) hx hb dX6_names_8 (by decide) ?_
      refine lv_istore_n (lv' := [(3, .int (0 : Int32)), (0, .ref (c 105)), (1, .long p0)]) hx hb dX6_names_9 rfl hl (by decide) rfl (fun ls hl => ?_)
      have loop10 : ∀ (n : Nat) (l3_10 : Int32) (H : Heap) (locs : List Loc) (ls : Array Slot), (0 ≤ l3_10.toInt) → (l3_10.toInt ≤ (st 25).toInt) → ((st 25).toInt - l3_10.toInt : Int).toNat < n → va_P (dC, dI) vwCl (cw_W c kc st lg ai al R) H → va_S A s.heap H locs → lv_has ls 4 [(3, .int l3_10), (0, .ref (c 105)), (1, .long p0)] → W p l e (headSpec wsX6_names ({ frames := 4, cells := 0, slots := 0, locals := 91 })).room s m ([.ref (c 105), .long p0] : List Value).toArray below meth cM H locs 0 0 (MQ below (va_Qi (fun r (u : Int32) => r = u) (fun u t => ∃ (g24 : Nat → Int64), (0 ≤ u.toInt) ∧ (u.toInt ≤ 1) ∧ va_P (dC, dI) vwCl (cw_W c kc st lg ai (rU al 24 g24) R) t.heap) A) ([.ref (c 105), .long p0] : List Value).toArray s 0 0 A) (F0 m 10 ls []) := by
        intro n
        induction n with
        | zero => intro l3_10 H locs ls if0_10 if1_10 hm; exact absurd hm (Nat.not_lt_zero _)
        | succ n ih10 =>
          intro l3_10 H locs ls if0_10 if1_10 hm10 hP hS hl
          refine lv_iload_n hx hb dX6_names_10 rfl (lv_at hl 0 rfl) ?_
          refine lv_aload_n hx hb dX6_names_11 rfl (lv_at hl 1 rfl) ?_
          refine va_get (D := (dC, dI)) (ci := 8) (v := .int (st 25)) (C := RX6) (T := TX6) (N := 12) hx hb hts hin_X6 hown hK hP 5 rfl rfl 7 (by decide) (hts (.fieldLink RX6 36 "BlockLog$Story" "heard" "I") (by decide +kernel)) (fun _ h9 => h9) rfl dX6_names_12 ?_
          refine lv_icmp_ge (tgt := 48) hx hb dX6_names_15 (by decide) (fun c_3 => ?_) (fun c_3 => ?_)
          · skip
            have ic_3 := iv_le c_3
            refine lv_aload_n hx hb dX6_names_48 rfl (lv_at hl 1 rfl) ?_
            refine lv_aload_n hx hb dX6_names_49 rfl (lv_at hl 1 rfl) ?_
            refine va_get (D := (dC, dI)) (ci := 8) (v := .int (st 29)) (C := RX6) (T := TX6) (N := 12) hx hb hts hin_X6 hown hK hP 5 rfl rfl 11 (by decide) (hts (.fieldLink RX6 50 "BlockLog$Story" "baseHeight" "I") (by decide +kernel)) (fun _ h9 => h9) rfl dX6_names_50 ?_
            have hFc := vfree ((cw_D hD : va_D A (cw_W c kc st lg ai al R)) : va_D A (cw_W c kc st lg ai al R)) hS hA
            refine va_callv (va_runV (As := [.int (st 29)]) (rest := []) ⟨hx, hb, hml, hown, hts⟩ (v_X6_drawVersion l dC dI c kc st lg ai al R (st 29) _ (show 0 ≤ (st 15).toInt by omega) (show (st 15).toInt ≤ 1 by omega) (show 0 ≤ (st 25).toInt by omega) (show (st 25).toInt ≤ 128 by omega) (show 0 ≤ (st 26).toInt by omega) (show (st 26).toInt ≤ 128 by omega) (show 0 ≤ (st 28).toInt by omega) (show (st 28).toInt ≤ 1 by omega) (show aR (ai 23) 128 (0) 127 from hR23)) (cwV 1 hts gX6_names_X6_drawVersion rfl rfl rfl (by decide +kernel) ⟨Nat.le_of_ble_eq_true rfl, Nat.le_of_ble_eq_true rfl⟩) ⟨fun a U g mk q => by obtain ⟨q0, q1, qP, qK, qD, qG⟩ := q; exact ⟨q0, q1, qP, va_K.moved (u := U) (U := U.calling g mk a) (Vm.Alike.refl U.vm) qK, qD, qG.same rfl rfl⟩, va_recv hK hP (ci := 8) (q := (RX6, TX6, 12)) rfl (q0 := 5) rfl, fun U hU hW => ⟨rfl, by rw [hU], by rw [hU]; exact hP, va_K.moved hW.alike hK, ((cw_D hD : va_D A (cw_W c kc st lg ai al R))).weaken (fun _ _ _ _ => trivial), hG.go hW hU hS hFc⟩⟩ rfl rfl hl.1 rfl (lv_room (Nat.le_of_ble_eq_true rfl)) dX6_names_53 ⟨Nat.le_of_ble_eq_true rfl, Nat.le_of_ble_eq_true rfl⟩) hS (fun q _ h => hFc q h) hFc (fun ur_4 t H1 locs ht hvm er_4 hB hz1 hk1 hS => ?_)
            obtain ⟨g24_4, hP1⟩ := hB
            rw [ht] at hP1
            clear hFc hz1 hk1 hvm hP
            subst ht
            have hP := hP1
            clear hP1
            generalize t.heap = H at hP hS ⊢
            have hP : va_P (dC, dI) vwCl (cw_W c kc st lg ai (rU al 24 g24_4) R) H := hP
            refine lv_iconst (v := 0) hx hb dX6_names_56 (by decide) ?_
            refine lv_istore_n (lv' := [(3, .int (0 : Int32)), (0, .ref (c 105)), (1, .long p0)]) hx hb dX6_names_57 rfl hl (by decide) rfl (fun ls hl => ?_)
            have loop58 : ∀ (n : Nat) (l3_58 : Int32) (H : Heap) (locs : List Loc) (ls : Array Slot), (0 ≤ l3_58.toInt) → (l3_58.toInt ≤ 16) → (16 - l3_58.toInt : Int).toNat < n → va_P (dC, dI) vwCl (cw_W c kc st lg ai (rU al 24 g24_4) R) H → va_S A s.heap H locs → lv_has ls 4 [(3, .int l3_58), (0, .ref (c 105)), (1, .long p0)] → W p l e (headSpec wsX6_names ({ frames := 4, cells := 0, slots := 0, locals := 91 })).room s m ([.ref (c 105), .long p0] : List Value).toArray below meth cM H locs 0 0 (MQ below (va_Qi (fun r (u : Int32) => r = u) (fun u t => ∃ (g24 : Nat → Int64), (0 ≤ u.toInt) ∧ (u.toInt ≤ 1) ∧ va_P (dC, dI) vwCl (cw_W c kc st lg ai (rU al 24 g24) R) t.heap) A) ([.ref (c 105), .long p0] : List Value).toArray s 0 0 A) (F0 m 58 ls []) := by
              intro n
              induction n with
              | zero => intro l3_58 H locs ls if0_58 if1_58 hm; exact absurd hm (Nat.not_lt_zero _)
              | succ n ih58 =>
                intro l3_58 H locs ls if0_58 if1_58 hm58 hP hS hl
                refine lv_iload_n hx hb dX6_names_58 rfl (lv_at hl 0 rfl) ?_
                refine lv_bipush (v := 16) hx hb dX6_names_59 (by decide) ?_
                refine lv_icmp_ge (tgt := 83) hx hb dX6_names_61 (by decide) (fun c_5 => ?_) (fun c_5 => ?_)
                · skip
                  have ic_5 := iv_le c_5
                  refine lv_iconst (v := 0) hx hb dX6_names_83 (by decide) ?_
                  exact W.zret hx hb hr rfl (fun t ht hW => ⟨⟨_, _, rfl, rfl, g24_4, (by omega), (by omega), by rw [ht]; exact hP⟩, hS.F ht⟩) hS.2.2 dX6_names_84
                · skip
                  have ic_5 := iv_nle c_5
                  refine lv_aload_n hx hb dX6_names_64 rfl (lv_at hl 1 rfl) ?_
                  refine va_get (D := (dC, dI)) (ci := 8) (v := .ref (c 24)) (C := RX6) (T := TX6) (N := 12) hx hb hts hin_X6 hown hK hP 5 rfl rfl 6 (by decide) (hts (.fieldLink RX6 33 "BlockLog$Story" "slots" "[J") (by decide +kernel)) (fun _ h9 => h9) rfl dX6_names_65 ?_
                  refine lv_iload_n hx hb dX6_names_68 rfl (lv_at hl 0 rfl) ?_
                  refine va_lald (f := g24_4) hx hb hK hP 20 12 rfl rfl (iv_in (i := l3_58) (by omega) (by omega)) dX6_names_69 ?_
                  refine lv_topl (fun w_6 ew_6 => ?_)
                  have hX_story_slots := ew_6
                  clear ew_6
                  refine lv_lload_n hx hb dX6_names_70 rfl (lv_at hl 2 rfl) ?_
                  refine W.lcmp hx hb dX6_names_71 ?_
                  refine lv_topi (fun v_7 ev_7 => ?_)
                  clear ev_7
                  refine lv_if_ne (tgt := 77) hx hb dX6_names_72 (by decide) (fun c_8 => ?_) (fun c_8 => ?_)
                  · skip
                    have ic_8 := iv_ne c_8
                    obtain ⟨x_9, ex_9⟩ : ∃ z : Int32, z = l3_58 + (1) := ⟨_, rfl⟩
                    refine lv_iinc (v := x_9) (lv' := [(3, .int x_9), (0, .ref (c 105)), (1, .long p0)]) hx hb dX6_names_77 hl (k := 0) rfl (by rw [ex_9]; rfl) (by decide) rfl (fun ls hl => ?_)
                    have rg1 := iv_rng l3_58
                    have hx_9 : x_9.toInt = l3_58.toInt + (1) := by rw [ex_9]; exact (iv_add (by omega) (by omega)).trans (by omega)
                    clear ex_9
                    refine lv_goto (tgt := 58) hx hb dX6_names_80 (by decide) ?_
                    exact ih58 x_9 _ _ _ (by omega) (by omega) (by omega) hP hS (lv_sub hl [0, 1, 2] rfl)
                  · skip
                    have ic_8 := iv_eq c_8
                    refine lv_iconst (v := 1) hx hb dX6_names_75 (by decide) ?_
                    exact W.zret hx hb hr rfl (fun t ht hW => ⟨⟨_, _, rfl, rfl, g24_4, (by omega), (by omega), by rw [ht]; exact hP⟩, hS.F ht⟩) hS.2.2 dX6_names_76
            exact loop58 ((16 - 0 : Int).toNat + 1) (0 : Int32) _ _ _ (by omega) (by omega) (by omega) hP hS (lv_sub hl [0, 1, 2] rfl)
          · skip
            have ic_3 := iv_nle c_3
            refine lv_aload_n hx hb dX6_names_18 rfl (lv_at hl 1 rfl) ?_
            refine va_get (D := (dC, dI)) (ci := 8) (v := .ref (c 21)) (C := RX6) (T := TX6) (N := 12) hx hb hts hin_X6 hown hK hP 5 rfl rfl 3 (by decide) (hts (.fieldLink RX6 23 "BlockLog$Story" "inBlock" "[Z") (by decide +kernel)) (fun _ h9 => h9) rfl dX6_names_19 ?_
            refine lv_iload_n hx hb dX6_names_22 rfl (lv_at hl 0 rfl) ?_
            refine va_zald (f := ai 21) hx hb hK hP 17 9 rfl rfl (iv_in (i := l3_10) (by omega) (by omega)) dX6_names_23 ?_
            refine lv_topi (fun v_10 ev_10 => ?_)
            clear ev_10
            refine lv_if_eq (tgt := 42) hx hb dX6_names_24 (by decide) (fun c_11 => ?_) (fun c_11 => ?_)
            · skip
              have ic_11 := iv_eq c_11
              obtain ⟨x_12, ex_12⟩ : ∃ z : Int32, z = l3_10 + (1) := ⟨_, rfl⟩
              refine lv_iinc (v := x_12) (lv' := [(3, .int x_12), (0, .ref (c 105)), (1, .long p0)]) hx hb dX6_names_42 hl (k := 0) rfl (by rw [ex_12]; rfl) (by decide) rfl (fun ls hl => ?_)
              have rg2 := iv_rng l3_10
              have hx_12 : x_12.toInt = l3_10.toInt + (1) := by rw [ex_12]; exact (iv_add (by omega) (by omega)).trans (by omega)
              clear ex_12
              refine lv_goto (tgt := 10) hx hb dX6_names_45 (by decide) ?_
              exact ih10 x_12 _ _ _ (by omega) (by omega) (by omega) hP hS (lv_sub hl [0, 1, 2] rfl)
            · skip
              have ic_11 := iv_ne c_11
              refine lv_aload_n hx hb dX6_names_27 rfl (lv_at hl 1 rfl) ?_
              refine va_get (D := (dC, dI)) (ci := 8) (v := .ref (c 104)) (C := RX6) (T := TX6) (N := 12) hx hb hts hin_X6 hown hK hP 5 rfl rfl 0 (by decide) (hts (.fieldLink RX6 9 "BlockLog$Story" "rows" "LBlockLog$Rows;") (by decide +kernel)) (fun _ h9 => h9) rfl dX6_names_28 ?_
              refine lv_iload_n hx hb dX6_names_31 rfl (lv_at hl 0 rfl) ?_
              refine vp_callSl (va_Run.run (va_runV (As := [.int l3_10]) (rest := []) ⟨hx, hb, hml, hown, hts⟩ (v_X4_c l dC dI c kc st lg ai al R l3_10 (show 0 ≤ (st 15).toInt by omega) (show (st 15).toInt ≤ 1 by omega) (by omega) (by omega)) (cwV 1 hts gX6_names_X4_c rfl rfl rfl (by decide +kernel) ⟨Nat.le_of_ble_eq_true rfl, Nat.le_of_ble_eq_true rfl⟩) ⟨fun a U g mk q => by obtain ⟨q0, qP, qK, qG⟩ := q; exact ⟨q0, qP, va_K.moved (u := U) (U := U.calling g mk a) (Vm.Alike.refl U.vm) qK, qG.same rfl⟩, va_recv hK hP (ci := 6) (q := (RX4, TX4, 6)) rfl (q0 := 4) rfl, fun U hU hW => ⟨rfl, by rw [hU]; exact hP, va_K.moved hW.alike hK, hGW.warm hW⟩⟩ rfl rfl hl.1 rfl (lv_room (Nat.le_of_ble_eq_true rfl)) dX6_names_32 ⟨Nat.le_of_ble_eq_true rfl, Nat.le_of_ble_eq_true rfl⟩)) (fun r_13 er_13 => ?_)
              refine lv_lload_n hx hb dX6_names_35 rfl (lv_at hl 2 rfl) ?_
              refine W.lcmp hx hb dX6_names_36 ?_
              refine lv_topi (fun v_14 ev_14 => ?_)
              clear ev_14
              refine lv_if_ne (tgt := 42) hx hb dX6_names_37 (by decide) (fun c_15 => ?_) (fun c_15 => ?_)
              · skip
                have ic_15 := iv_ne c_15
                obtain ⟨x_16, ex_16⟩ : ∃ z : Int32, z = l3_10 + (1) := ⟨_, rfl⟩
                refine lv_iinc (v := x_16) (lv' := [(3, .int x_16), (0, .ref (c 105)), (1, .long p0)]) hx hb dX6_names_42 hl (k := 0) rfl (by rw [ex_16]; rfl) (by decide) rfl (fun ls hl => ?_)
                have rg3 := iv_rng l3_10
                have hx_16 : x_16.toInt = l3_10.toInt + (1) := by rw [ex_16]; exact (iv_add (by omega) (by omega)).trans (by omega)
                clear ex_16
                refine lv_goto (tgt := 10) hx hb dX6_names_45 (by decide) ?_
                exact ih10 x_16 _ _ _ (by omega) (by omega) (by omega) hP hS (lv_sub hl [0, 1, 2] rfl)
              · skip
                have ic_15 := iv_eq c_15
                refine lv_iconst (v := 1) hx hb dX6_names_40 (by decide) ?_
                exact W.zret hx hb hr rfl (fun t ht hW => ⟨⟨_, _, rfl, rfl, al 24, (by omega), (by omega), by rw [ht]; exact hP⟩, hS.F ht⟩) hS.2.2 dX6_names_41
      exact loop10 (((st 25).toInt - 0 : Int).toNat + 1) (0 : Int32) _ _ _ (by omega) (by omega) (by omega) hP hS (lv_sub hl [0, 1, 2] rfl)
    · skip
      have ic_2 := iv_eq c_2
      refine lv_iconst (v := 0) hx hb dX6_names_6 (by decide) ?_
      exact W.zret hx hb hr rfl (fun t ht hW => ⟨⟨_, _, rfl, rfl, al 24, (by omega), (by omega), by rw [ht]; exact hP⟩, hS.F ht⟩) hS.2.2 dX6_names_7
  exact main s.heap [] hP hS
