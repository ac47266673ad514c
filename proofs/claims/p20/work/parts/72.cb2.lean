set_option maxHeartbeats 4000000 in
set_option maxRecDepth 100000 in
theorem v_X4_dropLacking (l : Launch) (dC : Nat → ClassId) (dI : Nat → Nat → Nat) (c : Nat → Nat) (kc : Nat → ClassId) (st : Nat → Int32) (lg : Nat → Int64) (ai : Nat → Nat → Int32) (al : Nat → Nat → Int64) (R : va_W)  (sz : Nat) (hf9a : 0 ≤ (st 9).toInt) (hf9b : (st 9).toInt ≤ 1) (hf15a : 0 ≤ (st 15).toInt) (hf15b : (st 15).toInt ≤ 1) (hf17a : 0 ≤ (st 17).toInt) (hf17b : (st 17).toInt ≤ 128) (hR7 : aR (ai 7) 8224 (-128) 127) : Met l yX4_dropLacking wsX4_dropLacking ({ frames := 2, cells := 0, slots := 0, locals := 46 }) (va_Pc [.ref (c 104)] (fun U => U.heap.size = sz ∧ va_P (dC, dI) vwCl (cw_W c kc st lg ai al R) U.heap ∧ va_K (dC, dI) vwCl (cw_T kc) U ∧ va_D (fun _ => True) (cw_W c kc st lg ai al R) ∧ gx_E (va_A (cw_W c kc st lg ai al R) sz) U)) (va_Qi (fun r (u : Int32) => r = u) (fun u t => ∃ (x9 : Int32) (x10 : Int32) (x11 : Int32) (x17 : Int32) (f7 : Nat → Int32) (f8 : Nat → Int32), (0 ≤ u.toInt) ∧ (u.toInt ≤ 1) ∧ (0 ≤ x9.toInt) ∧ (x9.toInt ≤ 1) ∧ (0 ≤ x17.toInt) ∧ (x17.toInt ≤ 128) ∧ (aR f7 8224 (-128) 127) ∧ va_P (dC, dI) vwCl (cw_W c kc (rU (rU (rU (rU st 9 x9) 10 x10) 11 x11) 17 x17) lg (rU (rU ai 7 f7) 8 f8) al R) t.heap) (va_A (cw_W c kc st lg ai al R) sz)) 0 0 (va_A (cw_W c kc st lg ai al R) sz) := by
  refine Met.ofW (cc := cX4_dropLacking) (maxL := 4) (ret := (some .boolean)) (by decide) rfl ?_
  intro p e s m args below meth cM s₁ B hml hv
  obtain ⟨rfl, hsz, hP, hK, hD0, hG⟩ := hv
  have hx := B.exec
  have hb := B.bytes
  have hr := B.returns
  have hts := atoms_spec (ws := wsX4_dropLacking) B.pre
  have hown : s.vm.findClass RX4 = some m.cls := findClass_of_methodNamed B.named
  have hGW := hG.1
  subst hsz
  have hD := hD0.self (sz := s.heap.size)
  generalize hAe : va_A (cw_W c kc st lg ai al R) s.heap.size = A at hD hG ⊢
  have hA : ∀ q : Nat, s.heap.size ≤ q → A q := fun q h => by rw [← hAe]; exact Or.inr h
  have hS : va_S A s.heap s.heap [] := va_S.rf
  clear hAe hD0
  have hl := lv_entry ([.ref (c 104)]) (n := 4) (Nat.le_of_ble_eq_true rfl)
  rw [lg_entry_eq]
  generalize (lg_sl ([.ref (c 104)]) ++ List.replicate (4 - (lg_sl ([.ref (c 104)])).length) Slot.unset).toArray = ls at hl ⊢
  have hl : lv_has ls 4 [(0, .ref (c 104))] := hl
  have z_m1 : (-1 : Int32).toInt = -1 := by decide
  have z_0 : (0 : Int32).toInt = 0 := by decide
  have z_1 : (1 : Int32).toInt = 1 := by decide
  have z_2 : (2 : Int32).toInt = 2 := by decide
  have z_5 : (5 : Int32).toInt = 5 := by decide
  have z_16 : (16 : Int32).toInt = 16 := by decide
  have hin_X4 : ∀ w ∈ u_ws RX4 TX4 6, w ∈ wsX4_dropLacking := by decide +kernel
  have main : ∀ (H : Heap) (locs : List Loc), va_P (dC, dI) vwCl (cw_W c kc st lg ai al R) H → va_S A s.heap H locs → W p l e (headSpec wsX4_dropLacking ({ frames := 2, cells := 0, slots := 0, locals := 46 })).room s m ([.ref (c 104)] : List Value).toArray below meth cM H locs 0 0 (MQ below (va_Qi (fun r (u : Int32) => r = u) (fun u t => ∃ (x9 : Int32) (x10 : Int32) (x11 : Int32) (x17 : Int32) (f7 : Nat → Int32) (f8 : Nat → Int32), (0 ≤ u.toInt) ∧ (u.toInt ≤ 1) ∧ (0 ≤ x9.toInt) ∧ (x9.toInt ≤ 1) ∧ (0 ≤ x17.toInt) ∧ (x17.toInt ≤ 128) ∧ (aR f7 8224 (-128) 127) ∧ va_P (dC, dI) vwCl (cw_W c kc (rU (rU (rU (rU st 9 x9) 10 x10) 11 x11) 17 x17) lg (rU (rU ai 7 f7) 8 f8) al R) t.heap) A) ([.ref (c 104)] : List Value).toArray s 0 0 A) (F0 m 0 ls []) := by
    intro H locs hP hS
    refine lv_aload_n hx hb dX4_dropLacking_0 rfl (lv_at hl 0 rfl) ?_
    refine va_get (D := (dC, dI)) (ci := 6) (v := .int (st 17)) (C := RX4) (T := TX4) (N := 6) hx hb hts hin_X4 hown hK hP 4 rfl rfl 4 (by decide) (hts (.fieldLink RX4 26 "BlockLog$Rows" "count" "I") (by decide +kernel)) (fun _ h9 => h9) rfl dX4_dropLacking_1 ?_
    refine lv_iconst (v := 1) hx hb dX4_dropLacking_4 (by decide) ?_
    refine lv_isub hx hb dX4_dropLacking_5 ?_
    refine lv_topi (fun v_1 ev_1 => ?_)
    have rg1 := iv_rng (st 17)
    have hv_1 : v_1.toInt = (st 17).toInt - 1 := by rw [ev_1]; exact (iv_sub (by omega) (by omega)).trans (by omega)
    clear ev_1
    refine lv_istore_n (lv' := [(1, .int v_1), (0, .ref (c 104))]) hx hb dX4_dropLacking_6 rfl hl (by decide) rfl (fun ls hl => ?_)
    have loop7 : ∀ (n : Nat) (l1_7 : Int32) (H : Heap) (locs : List Loc) (ls : Array Slot), (-1 ≤ l1_7.toInt) → (l1_7.toInt < (st 17).toInt) → (l1_7.toInt + 1 : Int).toNat < n → va_P (dC, dI) vwCl (cw_W c kc st lg ai al R) H → va_S A s.heap H locs → lv_has ls 4 [(1, .int l1_7), (0, .ref (c 104))] → W p l e (headSpec wsX4_dropLacking ({ frames := 2, cells := 0, slots := 0, locals := 46 })).room s m ([.ref (c 104)] : List Value).toArray below meth cM H locs 0 0 (MQ below (va_Qi (fun r (u : Int32) => r = u) (fun u t => ∃ (x9 : Int32) (x10 : Int32) (x11 : Int32) (x17 : Int32) (f7 : Nat → Int32) (f8 : Nat → Int32), (0 ≤ u.toInt) ∧ (u.toInt ≤ 1) ∧ (0 ≤ x9.toInt) ∧ (x9.toInt ≤ 1) ∧ (0 ≤ x17.toInt) ∧ (x17.toInt ≤ 128) ∧ (aR f7 8224 (-128) 127) ∧ va_P (dC, dI) vwCl (cw_W c kc (rU (rU (rU (rU st 9 x9) 10 x10) 11 x11) 17 x17) lg (rU (rU ai 7 f7) 8 f8) al R) t.heap) A) ([.ref (c 104)] : List Value).toArray s 0 0 A) (F0 m 7 ls []) := by
      intro n
      induction n with
      | zero => intro l1_7 H locs ls if0_7 if1_7 hm; exact absurd hm (Nat.not_lt_zero _)
      | succ n ih7 =>
        intro l1_7 H locs ls if0_7 if1_7 hm7 hP hS hl
        refine lv_iload_n hx hb dX4_dropLacking_7 rfl (lv_at hl 0 rfl) ?_
        refine lv_if_lt (tgt := 35) hx hb dX4_dropLacking_8 (by decide) (fun c_2 => ?_) (fun c_2 => ?_)
        · skip
          have ic_2 := iv_lt c_2
          refine lv_iload_n hx hb dX4_dropLacking_35 rfl (lv_at hl 0 rfl) ?_
          refine lv_if_ge (tgt := 41) hx hb dX4_dropLacking_36 (by decide) (fun c_3 => ?_) (fun c_3 => ?_)
          · skip
            have ic_3 := iv_le c_3
            exfalso
            omega
          · skip
            have ic_3 := iv_nle c_3
            refine lv_iconst (v := 1) hx hb dX4_dropLacking_39 (by decide) ?_
            exact W.zret hx hb hr rfl (fun t ht hW => ⟨⟨_, _, rfl, rfl, st 9, st 10, st 11, st 17, ai 7, ai 8, (by omega), (by omega), (by omega), (by omega), (by omega), (by omega), hR7, by rw [ht]; exact hP⟩, hS.F ht⟩) hS.2.2 dX4_dropLacking_40
        · skip
          have ic_2 := iv_nlt c_2
          refine lv_aload_n hx hb dX4_dropLacking_11 rfl (lv_at hl 1 rfl) ?_
          refine lv_iload_n hx hb dX4_dropLacking_12 rfl (lv_at hl 0 rfl) ?_
          refine vp_callSi (va_Run.run (va_runV (As := [.int l1_7]) (rest := []) ⟨hx, hb, hml, hown, hts⟩ (v_X4_kind l dC dI c kc st lg ai al R l1_7 (show 0 ≤ (st 15).toInt by omega) (show (st 15).toInt ≤ 1 by omega) (by omega) (by omega) (show aR (ai 7) 8224 (-128) 127 from hR7)) (cwV 1 hts gX4_dropLacking_X4_kind rfl rfl rfl (by decide +kernel) ⟨Nat.le_of_ble_eq_true rfl, Nat.le_of_ble_eq_true rfl⟩) ⟨fun a U g mk q => by obtain ⟨q0, qP, qK, qG⟩ := q; exact ⟨q0, qP, va_K.moved (u := U) (U := U.calling g mk a) (Vm.Alike.refl U.vm) qK, qG.same rfl⟩, va_recv hK hP (ci := 6) (q := (RX4, TX4, 6)) rfl (q0 := 4) rfl, fun U hU hW => ⟨rfl, by rw [hU]; exact hP, va_K.moved hW.alike hK, hGW.warm hW⟩⟩ rfl rfl hl.1 rfl (lv_room (Nat.le_of_ble_eq_true rfl)) dX4_dropLacking_13 ⟨Nat.le_of_ble_eq_true rfl, Nat.le_of_ble_eq_true rfl⟩)) (fun r_4 er_4 => ?_)
          refine lv_iconst (v := 2) hx hb dX4_dropLacking_16 (by decide) ?_
          refine lv_icmp_eq (tgt := 35) hx hb dX4_dropLacking_17 (by decide) (fun c_5 => ?_) (fun c_5 => ?_)
          · skip
            have ic_5 := iv_eq c_5
            refine lv_iload_n hx hb dX4_dropLacking_35 rfl (lv_at hl 0 rfl) ?_
            refine lv_if_ge (tgt := 41) hx hb dX4_dropLacking_36 (by decide) (fun c_6 => ?_) (fun c_6 => ?_)
            · skip
              have ic_6 := iv_le c_6
              refine lv_aload_n hx hb dX4_dropLacking_41 rfl (lv_at hl 1 rfl) ?_
              refine lv_iload_n hx hb dX4_dropLacking_42 rfl (lv_at hl 0 rfl) ?_
              refine vp_callSi (va_Run.run (va_runV (As := [.int l1_7]) (rest := []) ⟨hx, hb, hml, hown, hts⟩ (v_X4_b l dC dI c kc st lg ai al R l1_7 (show 0 ≤ (st 15).toInt by omega) (show (st 15).toInt ≤ 1 by omega) (by omega) (by omega)) (cwV 1 hts gX4_dropLacking_X4_b rfl rfl rfl (by decide +kernel) ⟨Nat.le_of_ble_eq_true rfl, Nat.le_of_ble_eq_true rfl⟩) ⟨fun a U g mk q => by obtain ⟨q0, qP, qK, qG⟩ := q; exact ⟨q0, qP, va_K.moved (u := U) (U := U.calling g mk a) (Vm.Alike.refl U.vm) qK, qG.same rfl⟩, va_recv hK hP (ci := 6) (q := (RX4, TX4, 6)) rfl (q0 := 4) rfl, fun U hU hW => ⟨rfl, by rw [hU]; exact hP, va_K.moved hW.alike hK, hGW.warm hW⟩⟩ rfl rfl hl.1 rfl (lv_room (Nat.le_of_ble_eq_true rfl)) dX4_dropLacking_43 ⟨Nat.le_of_ble_eq_true rfl, Nat.le_of_ble_eq_true rfl⟩)) (fun r_7 er_7 => ?_)
              have k_8 := er_7
              have k_8 : r_7.toInt = (cB (ai 7) (st 15) l1_7).toInt := k_8
              refine lv_istore_n (lv' := [(2, .int r_7), (1, .int l1_7), (0, .ref (c 104))]) hx hb dX4_dropLacking_46 rfl hl (by decide) rfl (fun ls hl => ?_)
              refine lv_iload_n hx hb dX4_dropLacking_47 rfl (lv_at hl 0 rfl) ?_
              refine lv_if_lt (tgt := 69) hx hb dX4_dropLacking_48 (by decide) (fun c_9 => ?_) (fun c_9 => ?_)
              · skip
                have ic_9 := iv_lt c_9
                refine lv_iconst (v := 1) hx hb dX4_dropLacking_69 (by decide) ?_
                exact W.zret hx hb hr rfl (fun t ht hW => ⟨⟨_, _, rfl, rfl, st 9, st 10, st 11, st 17, ai 7, ai 8, (by omega), (by omega), (by omega), (by omega), (by omega), (by omega), hR7, by rw [ht]; exact hP⟩, hS.F ht⟩) hS.2.2 dX4_dropLacking_70
              · skip
                have ic_9 := iv_nlt c_9
                refine lv_iload_n hx hb dX4_dropLacking_51 rfl (lv_at hl 0 rfl) ?_
                refine lv_bipush (v := 16) hx hb dX4_dropLacking_52 (by decide) ?_
                refine lv_icmp_gt (tgt := 69) hx hb dX4_dropLacking_54 (by decide) (fun c_10 => ?_) (fun c_10 => ?_)
                · skip
                  have ic_10 := iv_lt c_10
                  refine lv_iconst (v := 1) hx hb dX4_dropLacking_69 (by decide) ?_
                  exact W.zret hx hb hr rfl (fun t ht hW => ⟨⟨_, _, rfl, rfl, st 9, st 10, st 11, st 17, ai 7, ai 8, (by omega), (by omega), (by omega), (by omega), (by omega), (by omega), hR7, by rw [ht]; exact hP⟩, hS.F ht⟩) hS.2.2 dX4_dropLacking_70
                · skip
                  have ic_10 := iv_nlt c_10
                  refine lv_aload_n hx hb dX4_dropLacking_57 rfl (lv_at hl 2 rfl) ?_
                  refine va_get (D := (dC, dI)) (ci := 6) (v := .int (st 17)) (C := RX4) (T := TX4) (N := 6) hx hb hts hin_X4 hown hK hP 4 rfl rfl 4 (by decide) (hts (.fieldLink RX4 26 "BlockLog$Rows" "count" "I") (by decide +kernel)) (fun _ h9 => h9) rfl dX4_dropLacking_58 ?_
                  refine lv_iconst (v := 1) hx hb dX4_dropLacking_61 (by decide) ?_
                  refine lv_isub hx hb dX4_dropLacking_62 ?_
                  refine lv_topi (fun v_11 ev_11 => ?_)
                  have hv_11 : v_11.toInt = (st 17).toInt - 1 := by rw [ev_11]; exact (iv_sub (by omega) (by omega)).trans (by omega)
                  clear ev_11
                  refine lv_iload_n hx hb dX4_dropLacking_63 rfl (lv_at hl 1 rfl) ?_
                  refine lv_isub hx hb dX4_dropLacking_64 ?_
                  refine lv_topi (fun v_12 ev_12 => ?_)
                  have rg2 := iv_rng v_11
                  have rg3 := iv_rng l1_7
                  have hv_12 : v_12.toInt = v_11.toInt - l1_7.toInt := by rw [ev_12]; exact (iv_sub (by omega) (by omega)).trans (by omega)
                  clear ev_12
                  refine lv_iload_n hx hb dX4_dropLacking_65 rfl (lv_at hl 0 rfl) ?_
                  refine lv_icmp_lt (tgt := 71) hx hb dX4_dropLacking_66 (by decide) (fun c_13 => ?_) (fun c_13 => ?_)
                  · skip
                    have ic_13 := iv_lt c_13
                    refine lv_aload_n hx hb dX4_dropLacking_71 rfl (lv_at hl 2 rfl) ?_
                    refine va_get (D := (dC, dI)) (ci := 6) (v := .int (st 17)) (C := RX4) (T := TX4) (N := 6) hx hb hts hin_X4 hown hK hP 4 rfl rfl 4 (by decide) (hts (.fieldLink RX4 26 "BlockLog$Rows" "count" "I") (by decide +kernel)) (fun _ h9 => h9) rfl dX4_dropLacking_72 ?_
                    refine lv_iconst (v := 1) hx hb dX4_dropLacking_75 (by decide) ?_
                    refine lv_isub hx hb dX4_dropLacking_76 ?_
                    refine lv_topi (fun v_14 ev_14 => ?_)
                    have hv_14 : v_14.toInt = (st 17).toInt - 1 := by rw [ev_14]; exact (iv_sub (by omega) (by omega)).trans (by omega)
                    clear ev_14
                    refine lv_istore_n (lv' := [(3, .int v_14), (2, .int r_7), (1, .int l1_7), (0, .ref (c 104))]) hx hb dX4_dropLacking_77 rfl hl (by decide) rfl (fun ls hl => ?_)
                    have loop78 : ∀ (n : Nat) (l3_78 : Int32) (s9_78 : Int32) (s10_78 : Int32) (s11_78 : Int32) (a7_78 : Nat → Int32) (a8_78 : Nat → Int32) (H : Heap) (locs : List Loc) (ls : Array Slot), (0 ≤ l1_7.toInt) → (l1_7.toInt - 1 ≤ l3_78.toInt) → (l3_78.toInt < (st 17).toInt) → (0 ≤ s9_78.toInt) → (s9_78.toInt ≤ 1) → (aR a7_78 8224 (-128) 127) → (l3_78.toInt - l1_7.toInt + 1 : Int).toNat < n → va_P (dC, dI) vwCl (cw_W c kc (rU (rU (rU st 9 s9_78) 10 s10_78) 11 s11_78) lg (rU (rU ai 7 a7_78) 8 a8_78) al R) H → va_S A s.heap H locs → lv_has ls 4 [(3, .int l3_78), (2, .int r_7), (1, .int l1_7), (0, .ref (c 104))] → W p l e (headSpec wsX4_dropLacking ({ frames := 2, cells := 0, slots := 0, locals := 46 })).room s m ([.ref (c 104)] : List Value).toArray below meth cM H locs 0 0 (MQ below (va_Qi (fun r (u : Int32) => r = u) (fun u t => ∃ (x9 : Int32) (x10 : Int32) (x11 : Int32) (x17 : Int32) (f7 : Nat → Int32) (f8 : Nat → Int32), (0 ≤ u.toInt) ∧ (u.toInt ≤ 1) ∧ (0 ≤ x9.toInt) ∧ (x9.toInt ≤ 1) ∧ (0 ≤ x17.toInt) ∧ (x17.toInt ≤ 128) ∧ (aR f7 8224 (-128) 127) ∧ va_P (dC, dI) vwCl (cw_W c kc (rU (rU (rU (rU st 9 x9) 10 x10) 11 x11) 17 x17) lg (rU (rU ai 7 f7) 8 f8) al R) t.heap) A) ([.ref (c 104)] : List Value).toArray s 0 0 A) (F0 m 78 ls []) := by
                      intro n
                      induction n with
                      | zero => intro l3_78 s9_78 s10_78 s11_78 a7_78 a8_78 H locs ls if0_78 if1_78 if2_78 if3_78 if4_78 hR7 hm; exact absurd hm (Nat.not_lt_zero _)
                      | succ n ih78 =>
                        intro l3_78 s9_78 s10_78 s11_78 a7_78 a8_78 H locs ls if0_78 if1_78 if2_78 if3_78 if4_78 hR7 hm78 hP hS hl
                        refine lv_iload_n hx hb dX4_dropLacking_78 rfl (lv_at hl 0 rfl) ?_
                        refine lv_iload_n hx hb dX4_dropLacking_79 rfl (lv_at hl 2 rfl) ?_
                        refine lv_icmp_lt (tgt := 107) hx hb dX4_dropLacking_80 (by decide) (fun c_15 => ?_) (fun c_15 => ?_)
                        · skip
                          have ic_15 := iv_lt c_15
                          refine lv_aload_n hx hb dX4_dropLacking_107 rfl (lv_at hl 3 rfl) ?_
                          refine lv_iload_n hx hb dX4_dropLacking_108 rfl (lv_at hl 2 rfl) ?_
                          refine va_put (D := (dC, dI)) (ci := 6) (v := .int l1_7) (ty := .int) (C := RX4) (T := TX4) (N := 6) hx hb hts hin_X4 tyX4 tyX4_ok nmX4 hown hK hP (cw_D hD) hS 4 rfl rfl 4 (by decide) (hts (.fieldLink RX4 26 "BlockLog$Rows" "count" "I") (by decide +kernel)) (fun _ h9 => h9) rfl (by decide +kernel) rfl rfl (Nat.le_of_ble_eq_true rfl) dX4_dropLacking_109 (fun H locs hP _ hS => ?_)
                          have hP : va_P (dC, dI) vwCl (cw_W c kc (rU (rU (rU (rU st 9 s9_78) 10 s10_78) 11 s11_78) 17 l1_7) lg (rU (rU ai 7 a7_78) 8 a8_78) al R) H := hP
                          refine lv_iconst (v := 1) hx hb dX4_dropLacking_112 (by decide) ?_
                          exact W.zret hx hb hr rfl (fun t ht hW => ⟨⟨_, _, rfl, rfl, s9_78, s10_78, s11_78, l1_7, a7_78, a8_78, (by omega), (by omega), (by omega), (by omega), (by omega), (by omega), hR7, by rw [ht]; exact hP⟩, hS.F ht⟩) hS.2.2 dX4_dropLacking_113
                        · skip
                          have ic_15 := iv_nlt c_15
                          refine lv_aload_n hx hb dX4_dropLacking_83 rfl (lv_at hl 3 rfl) ?_
                          refine va_get (D := (dC, dI)) (ci := 6) (v := .ref (c 102)) (C := RX4) (T := TX4) (N := 6) hx hb hts hin_X4 hown hK hP 4 rfl rfl 0 (by decide) (hts (.fieldLink RX4 9 "BlockLog$Rows" "disk" "LBlockLog$Disk;") (by decide +kernel)) (fun _ h9 => h9) rfl dX4_dropLacking_84 ?_
                          refine lv_aload_n hx hb dX4_dropLacking_87 rfl (lv_at hl 3 rfl) ?_
                          refine va_get (D := (dC, dI)) (ci := 6) (v := .int (st 15)) (C := RX4) (T := TX4) (N := 6) hx hb hts hin_X4 hown hK hP 4 rfl rfl 2 (by decide) (hts (.fieldLink RX4 19 "BlockLog$Rows" "area" "I") (by decide +kernel)) (fun _ h9 => h9) rfl dX4_dropLacking_88 ?_
                          refine lv_iload_n hx hb dX4_dropLacking_91 rfl (lv_at hl 0 rfl) ?_
                          refine lv_iconst (v := 1) hx hb dX4_dropLacking_92 (by decide) ?_
                          have hFc := vfree ((cw_D hD : va_D A (cw_W c kc (rU (rU (rU st 9 s9_78) 10 s10_78) 11 s11_78) lg (rU (rU ai 7 a7_78) 8 a8_78) al R)) : va_D A (cw_W c kc (rU (rU (rU st 9 s9_78) 10 s10_78) 11 s11_78) lg (rU (rU ai 7 a7_78) 8 a8_78) al R)) hS hA
                          refine va_calli (va_runV (As := [.int (st 15), .int l3_78, .int (1 : Int32)]) (rest := []) ⟨hx, hb, hml, hown, hts⟩ (v_X1_eraseRows l dC dI c kc (rU (rU (rU st 9 s9_78) 10 s10_78) 11 s11_78) lg (rU (rU ai 7 a7_78) 8 a8_78) al R (st 15) l3_78 (1 : Int32) _ (show 0 ≤ s9_78.toInt by omega) (show s9_78.toInt ≤ 1 by omega) (by omega) (by omega) (by omega) (by omega) (by omega) (show aR a7_78 8224 (-128) 127 from hR7)) (cwV 3 hts gX4_dropLacking_X1_eraseRows rfl rfl rfl (by decide +kernel) ⟨Nat.le_of_ble_eq_true rfl, Nat.le_of_ble_eq_true rfl⟩) ⟨fun a U g mk q => by obtain ⟨q0, q1, qP, qK, qD⟩ := q; exact ⟨q0, q1, qP, va_K.moved (u := U) (U := U.calling g mk a) (Vm.Alike.refl U.vm) qK, qD⟩, va_recv hK hP (ci := 3) (q := (RX1, TX1, 7)) rfl (q0 := 2) rfl, fun U hU hW => ⟨rfl, by rw [hU], by rw [hU]; exact hP, va_K.moved hW.alike hK, ((cw_D hD : va_D A (cw_W c kc (rU (rU (rU st 9 s9_78) 10 s10_78) 11 s11_78) lg (rU (rU ai 7 a7_78) 8 a8_78) al R))).weaken (fun _ _ _ _ => trivial)⟩⟩ rfl rfl hl.1 rfl (lv_room (Nat.le_of_ble_eq_true rfl)) dX4_dropLacking_93 ⟨Nat.le_of_ble_eq_true rfl, Nat.le_of_ble_eq_true rfl⟩) hS (fun q _ h => hFc q h) hFc (fun r_16 ur_16 t H1 locs ht hvm er_16 hB hz1 hk1 hS => ?_)
                          subst er_16
                          obtain ⟨x9_16, x10_16, x11_16, f7_16, f8_16, k_17, k_18, k_19, k_20, hR7, hP1⟩ := hB
                          rw [ht] at hP1
                          clear hFc hz1 hk1 hvm hP
                          subst ht
                          have hP := hP1
                          clear hP1
                          generalize t.heap = H at hP hS ⊢
                          have hP : va_P (dC, dI) vwCl (cw_W c kc (rU (rU (rU st 9 x9_16) 10 x10_16) 11 x11_16) lg (rU (rU ai 7 f7_16) 8 f8_16) al R) H := hP
                          have k_19 : 0 ≤ x9_16.toInt := k_19
                          have k_20 : x9_16.toInt ≤ 1 := k_20
                          have hR7 : aR f7_16 8224 (-128) 127 := hR7
                          rcases iv_01 (a := r_16) (by omega) (by omega) with b_21 | b_21
                          · skip
                            have ib_21 := iv_eq b_21
                            rw [b_21]
                            refine lv_if_ne (tgt := 101) hx hb dX4_dropLacking_96 (by decide) (fun c_22 => ?_) (fun c_22 => ?_)
                            · skip
                              have ic_22 := iv_ne c_22
                              exfalso
                              omega
                            · skip
                              have ic_22 := iv_eq c_22
                              refine lv_iconst (v := 0) hx hb dX4_dropLacking_99 (by decide) ?_
                              exact W.zret hx hb hr rfl (fun t ht hW => ⟨⟨_, _, rfl, rfl, x9_16, x10_16, x11_16, st 17, f7_16, f8_16, (by omega), (by omega), (by omega), (by omega), (by omega), (by omega), hR7, by rw [ht]; exact hP⟩, hS.F ht⟩) hS.2.2 dX4_dropLacking_100
                          · skip
                            have ib_21 := iv_eq b_21
                            rw [b_21]
                            refine lv_if_ne (tgt := 101) hx hb dX4_dropLacking_96 (by decide) (fun c_23 => ?_) (fun c_23 => ?_)
                            · skip
                              have ic_23 := iv_ne c_23
                              obtain ⟨x_24, ex_24⟩ : ∃ z : Int32, z = l3_78 + (-1) := ⟨_, rfl⟩
                              refine lv_iinc (v := x_24) (lv' := [(3, .int x_24), (2, .int r_7), (1, .int l1_7), (0, .ref (c 104))]) hx hb dX4_dropLacking_101 hl (k := 0) rfl (by rw [ex_24]; rfl) (by decide) rfl (fun ls hl => ?_)
                              have rg4 := iv_rng l3_78
                              have hx_24 : x_24.toInt = l3_78.toInt + (-1) := by rw [ex_24]; exact (iv_add (by omega) (by omega)).trans (by omega)
                              clear ex_24
                              refine lv_goto (tgt := 78) hx hb dX4_dropLacking_104 (by decide) ?_
                              exact ih78 x_24 x9_16 x10_16 x11_16 f7_16 f8_16 _ _ _ (by omega) (by omega) (by omega) (by omega) (by omega) (by assumption) (by omega) hP hS (lv_sub hl [0, 1, 2, 3] rfl)
                            · skip
                              have ic_23 := iv_eq c_23
                              exfalso
                              omega
                    exact loop78 ((v_14.toInt - l1_7.toInt + 1 : Int).toNat + 1) v_14 (st 9) (st 10) (st 11) (ai 7) (ai 8) _ _ _ (by omega) (by omega) (by omega) (by omega) (by omega) (by assumption) (by omega) hP hS (lv_sub hl [0, 1, 2, 3] rfl)
                  · skip
                    have ic_13 := iv_nlt c_13
                    refine lv_iconst (v := 1) hx hb dX4_dropLacking_69 (by decide) ?_
                    exact W.zret hx hb hr rfl (fun t ht hW => ⟨⟨_, _, rfl, rfl, st 9, st 10, st 11, st 17, ai 7, ai 8, (by omega), (by omega), (by omega), (by omega), (by omega), (by omega), hR7, by rw [ht]; exact hP⟩, hS.F ht⟩) hS.2.2 dX4_dropLacking_70
            · skip
              have ic_6 := iv_nle c_6
              exfalso
              omega
          · skip
            have ic_5 := iv_ne c_5
            refine lv_aload_n hx hb dX4_dropLacking_20 rfl (lv_at hl 1 rfl) ?_
            refine lv_iload_n hx hb dX4_dropLacking_21 rfl (lv_at hl 0 rfl) ?_
            refine vp_callSi (va_Run.run (va_runV (As := [.int l1_7]) (rest := []) ⟨hx, hb, hml, hown, hts⟩ (v_X4_kind l dC dI c kc st lg ai al R l1_7 (show 0 ≤ (st 15).toInt by omega) (show (st 15).toInt ≤ 1 by omega) (by omega) (by omega) (show aR (ai 7) 8224 (-128) 127 from hR7)) (cwV 1 hts gX4_dropLacking_X4_kind rfl rfl rfl (by decide +kernel) ⟨Nat.le_of_ble_eq_true rfl, Nat.le_of_ble_eq_true rfl⟩) ⟨fun a U g mk q => by obtain ⟨q0, qP, qK, qG⟩ := q; exact ⟨q0, qP, va_K.moved (u := U) (U := U.calling g mk a) (Vm.Alike.refl U.vm) qK, qG.same rfl⟩, va_recv hK hP (ci := 6) (q := (RX4, TX4, 6)) rfl (q0 := 4) rfl, fun U hU hW => ⟨rfl, by rw [hU]; exact hP, va_K.moved hW.alike hK, hGW.warm hW⟩⟩ rfl rfl hl.1 rfl (lv_room (Nat.le_of_ble_eq_true rfl)) dX4_dropLacking_22 ⟨Nat.le_of_ble_eq_true rfl, Nat.le_of_ble_eq_true rfl⟩)) (fun r_25 er_25 => ?_)
            refine lv_iconst (v := 5) hx hb dX4_dropLacking_25 (by decide) ?_
            refine lv_icmp_eq (tgt := 35) hx hb dX4_dropLacking_26 (by decide) (fun c_26 => ?_) (fun c_26 => ?_)
            · skip
              have ic_26 := iv_eq c_26
              refine lv_iload_n hx hb dX4_dropLacking_35 rfl (lv_at hl 0 rfl) ?_
              refine lv_if_ge (tgt := 41) hx hb dX4_dropLacking_36 (by decide) (fun c_27 => ?_) (fun c_27 => ?_)
              · skip
                have ic_27 := iv_le c_27
                refine lv_aload_n hx hb dX4_dropLacking_41 rfl (lv_at hl 1 rfl) ?_
                refine lv_iload_n hx hb dX4_dropLacking_42 rfl (lv_at hl 0 rfl) ?_
                refine vp_callSi (va_Run.run (va_runV (As := [.int l1_7]) (rest := []) ⟨hx, hb, hml, hown, hts⟩ (v_X4_b l dC dI c kc st lg ai al R l1_7 (show 0 ≤ (st 15).toInt by omega) (show (st 15).toInt ≤ 1 by omega) (by omega) (by omega)) (cwV 1 hts gX4_dropLacking_X4_b rfl rfl rfl (by decide +kernel) ⟨Nat.le_of_ble_eq_true rfl, Nat.le_of_ble_eq_true rfl⟩) ⟨fun a U g mk q => by obtain ⟨q0, qP, qK, qG⟩ := q; exact ⟨q0, qP, va_K.moved (u := U) (U := U.calling g mk a) (Vm.Alike.refl U.vm) qK, qG.same rfl⟩, va_recv hK hP (ci := 6) (q := (RX4, TX4, 6)) rfl (q0 := 4) rfl, fun U hU hW => ⟨rfl, by rw [hU]; exact hP, va_K.moved hW.alike hK, hGW.warm hW⟩⟩ rfl rfl hl.1 rfl (lv_room (Nat.le_of_ble_eq_true rfl)) dX4_dropLacking_43 ⟨Nat.le_of_ble_eq_true rfl, Nat.le_of_ble_eq_true rfl⟩)) (fun r_28 er_28 => ?_)
                have k_29 := er_28
                have k_29 : r_28.toInt = (cB (ai 7) (st 15) l1_7).toInt := k_29
                refine lv_istore_n (lv' := [(2, .int r_28), (1, .int l1_7), (0, .ref (c 104))]) hx hb dX4_dropLacking_46 rfl hl (by decide) rfl (fun ls hl => ?_)
                refine lv_iload_n hx hb dX4_dropLacking_47 rfl (lv_at hl 0 rfl) ?_
                refine lv_if_lt (tgt := 69) hx hb dX4_dropLacking_48 (by decide) (fun c_30 => ?_) (fun c_30 => ?_)
                · skip
                  have ic_30 := iv_lt c_30
                  refine lv_iconst (v := 1) hx hb dX4_dropLacking_69 (by decide) ?_
                  exact W.zret hx hb hr rfl (fun t ht hW => ⟨⟨_, _, rfl, rfl, st 9, st 10, st 11, st 17, ai 7, ai 8, (by omega), (by omega), (by omega), (by omega), (by omega), (by omega), hR7, by rw [ht]; exact hP⟩, hS.F ht⟩) hS.2.2 dX4_dropLacking_70
                · skip
                  have ic_30 := iv_nlt c_30
                  refine lv_iload_n hx hb dX4_dropLacking_51 rfl (lv_at hl 0 rfl) ?_
                  refine lv_bipush (v := 16) hx hb dX4_dropLacking_52 (by decide) ?_
                  refine lv_icmp_gt (tgt := 69) hx hb dX4_dropLacking_54 (by decide) (fun c_31 => ?_) (fun c_31 => ?_)
                  · skip
                    have ic_31 := iv_lt c_31
                    refine lv_iconst (v := 1) hx hb dX4_dropLacking_69 (by decide) ?_
                    exact W.zret hx hb hr rfl (fun t ht hW => ⟨⟨_, _, rfl, rfl, st 9, st 10, st 11, st 17, ai 7, ai 8, (by omega), (by omega), (by omega), (by omega), (by omega), (by omega), hR7, by rw [ht]; exact hP⟩, hS.F ht⟩) hS.2.2 dX4_dropLacking_70
                  · skip
                    have ic_31 := iv_nlt c_31
                    refine lv_aload_n hx hb dX4_dropLacking_57 rfl (lv_at hl 2 rfl) ?_
                    refine va_get (D := (dC, dI)) (ci := 6) (v := .int (st 17)) (C := RX4) (T := TX4) (N := 6) hx hb hts hin_X4 hown hK hP 4 rfl rfl 4 (by decide) (hts (.fieldLink RX4 26 "BlockLog$Rows" "count" "I") (by decide +kernel)) (fun _ h9 => h9) rfl dX4_dropLacking_58 ?_
                    refine lv_iconst (v := 1) hx hb dX4_dropLacking_61 (by decide) ?_
                    refine lv_isub hx hb dX4_dropLacking_62 ?_
                    refine lv_topi (fun v_32 ev_32 => ?_)
                    have hv_32 : v_32.toInt = (st 17).toInt - 1 := by rw [ev_32]; exact (iv_sub (by omega) (by omega)).trans (by omega)
                    clear ev_32
                    refine lv_iload_n hx hb dX4_dropLacking_63 rfl (lv_at hl 1 rfl) ?_
                    refine lv_isub hx hb dX4_dropLacking_64 ?_
                    refine lv_topi (fun v_33 ev_33 => ?_)
                    have rg5 := iv_rng v_32
                    have rg6 := iv_rng l1_7
                    have hv_33 : v_33.toInt = v_32.toInt - l1_7.toInt := by rw [ev_33]; exact (iv_sub (by omega) (by omega)).trans (by omega)
                    clear ev_33
                    refine lv_iload_n hx hb dX4_dropLacking_65 rfl (lv_at hl 0 rfl) ?_
                    refine lv_icmp_lt (tgt := 71) hx hb dX4_dropLacking_66 (by decide) (fun c_34 => ?_) (fun c_34 => ?_)
                    · skip
                      have ic_34 := iv_lt c_34
                      refine lv_aload_n hx hb dX4_dropLacking_71 rfl (lv_at hl 2 rfl) ?_
                      refine va_get (D := (dC, dI)) (ci := 6) (v := .int (st 17)) (C := RX4) (T := TX4) (N := 6) hx hb hts hin_X4 hown hK hP 4 rfl rfl 4 (by decide) (hts (.fieldLink RX4 26 "BlockLog$Rows" "count" "I") (by decide +kernel)) (fun _ h9 => h9) rfl dX4_dropLacking_72 ?_
                      refine lv_iconst (v := 1) hx hb dX4_dropLacking_75 (by decide) ?_
                      refine lv_isub hx hb dX4_dropLacking_76 ?_
                      refine lv_topi (fun v_35 ev_35 => ?_)
                      have hv_35 : v_35.toInt = (st 17).toInt - 1 := by rw [ev_35]; exact (iv_sub (by omega) (by omega)).trans (by omega)
                      clear ev_35
                      refine lv_istore_n (lv' := [(3, .int v_35), (2, .int r_28), (1, .int l1_7), (0, .ref (c 104))]) hx hb dX4_dropLacking_77 rfl hl (by decide) rfl (fun ls hl => ?_)
                      have loop78 : ∀ (n : Nat) (l3_78 : Int32) (s9_78 : Int32) (s10_78 : Int32) (s11_78 : Int32) (a7_78 : Nat → Int32) (a8_78 : Nat → Int32) (H : Heap) (locs : List Loc) (ls : Array Slot), (0 ≤ l1_7.toInt) → (l1_7.toInt - 1 ≤ l3_78.toInt) → (l3_78.toInt < (st 17).toInt) → (0 ≤ s9_78.toInt) → (s9_78.toInt ≤ 1) → (aR a7_78 8224 (-128) 127) → (l3_78.toInt - l1_7.toInt + 1 : Int).toNat < n → va_P (dC, dI) vwCl (cw_W c kc (rU (rU (rU st 9 s9_78) 10 s10_78) 11 s11_78) lg (rU (rU ai 7 a7_78) 8 a8_78) al R) H → va_S A s.heap H locs → lv_has ls 4 [(3, .int l3_78), (2, .int r_28), (1, .int l1_7), (0, .ref (c 104))] → W p l e (headSpec wsX4_dropLacking ({ frames := 2, cells := 0, slots := 0, locals := 46 })).room s m ([.ref (c 104)] : List Value).toArray below meth cM H locs 0 0 (MQ below (va_Qi (fun r (u : Int32) => r = u) (fun u t => ∃ (x9 : Int32) (x10 : Int32) (x11 : Int32) (x17 : Int32) (f7 : Nat → Int32) (f8 : Nat → Int32), (0 ≤ u.toInt) ∧ (u.toInt ≤ 1) ∧ (0 ≤ x9.toInt) ∧ (x9.toInt ≤ 1) ∧ (0 ≤ x17.toInt) ∧ (x17.toInt ≤ 128) ∧ (aR f7 8224 (-128) 127) ∧ va_P (dC, dI) vwCl (cw_W c kc (rU (rU (rU (rU st 9 x9) 10 x10) 11 x11) 17 x17) lg (rU (rU ai 7 f7) 8 f8) al R) t.heap) A) ([.ref (c 104)] : List Value).toArray s 0 0 A) (F0 m 78 ls []) := by
                        intro n
                        induction n with
                        | zero => intro l3_78 s9_78 s10_78 s11_78 a7_78 a8_78 H locs ls if0_78 if1_78 if2_78 if3_78 if4_78 hR7 hm; exact absurd hm (Nat.not_lt_zero _)
                        | succ n ih78 =>
                          intro l3_78 s9_78 s10_78 s11_78 a7_78 a8_78 H locs ls if0_78 if1_78 if2_78 if3_78 if4_78 hR7 hm78 hP hS hl
                          refine lv_iload_n hx hb dX4_dropLacking_78 rfl (lv_at hl 0 rfl) ?_
                          refine lv_iload_n hx hb dX4_dropLacking_79 rfl (lv_at hl 2 rfl) ?_
                          refine lv_icmp_lt (tgt := 107) hx hb dX4_dropLacking_80 (by decide) (fun c_36 => ?_) (fun c_36 => ?_)
                          · skip
                            have ic_36 := iv_lt c_36
                            refine lv_aload_n hx hb dX4_dropLacking_107 rfl (lv_at hl 3 rfl) ?_
                            refine lv_iload_n hx hb dX4_dropLacking_108 rfl (lv_at hl 2 rfl) ?_
                            refine va_put (D := (dC, dI)) (ci := 6) (v := .int l1_7) (ty := .int) (C := RX4) (T := TX4) (N := 6) hx hb hts hin_X4 tyX4 tyX4_ok nmX4 hown hK hP (cw_D hD) hS 4 rfl rfl 4 (by decide) (hts (.fieldLink RX4 26 "BlockLog$Rows" "count" "I") (by decide +kernel)) (fun _ h9 => h9) rfl (by decide +kernel) rfl rfl (Nat.le_of_ble_eq_true rfl) dX4_dropLacking_109 (fun H locs hP _ hS => ?_)
                            have hP : va_P (dC, dI) vwCl (cw_W c kc (rU (rU (rU (rU st 9 s9_78) 10 s10_78) 11 s11_78) 17 l1_7) lg (rU (rU ai 7 a7_78) 8 a8_78) al R) H := hP
                            refine lv_iconst (v := 1) hx hb dX4_dropLacking_112 (by decide) ?_
                            exact W.zret hx hb hr rfl (fun t ht hW => ⟨⟨_, _, rfl, rfl, s9_78, s10_78, s11_78, l1_7, a7_78, a8_78, (by omega), (by omega), (by omega), (by omega), (by omega), (by omega), hR7, by rw [ht]; exact hP⟩, hS.F ht⟩) hS.2.2 dX4_dropLacking_113
                          · skip
                            have ic_36 := iv_nlt c_36
                            refine lv_aload_n hx hb dX4_dropLacking_83 rfl (lv_at hl 3 rfl) ?_
                            refine va_get (D := (dC, dI)) (ci := 6) (v := .ref (c 102)) (C := RX4) (T := TX4) (N := 6) hx hb hts hin_X4 hown hK hP 4 rfl rfl 0 (by decide) (hts (.fieldLink RX4 9 "BlockLog$Rows" "disk" "LBlockLog$Disk;") (by decide +kernel)) (fun _ h9 => h9) rfl dX4_dropLacking_84 ?_
                            refine lv_aload_n hx hb dX4_dropLacking_87 rfl (lv_at hl 3 rfl) ?_
                            refine va_get (D := (dC, dI)) (ci := 6) (v := .int (st 15)) (C := RX4) (T := TX4) (N := 6) hx hb hts hin_X4 hown hK hP 4 rfl rfl 2 (by decide) (hts (.fieldLink RX4 19 "BlockLog$Rows" "area" "I") (by decide +kernel)) (fun _ h9 => h9) rfl dX4_dropLacking_88 ?_
                            refine lv_iload_n hx hb dX4_dropLacking_91 rfl (lv_at hl 0 rfl) ?_
                            refine lv_iconst (v := 1) hx hb dX4_dropLacking_92 (by decide) ?_
                            have hFc := vfree ((cw_D hD : va_D A (cw_W c kc (rU (rU (rU st 9 s9_78) 10 s10_78) 11 s11_78) lg (rU (rU ai 7 a7_78) 8 a8_78) al R)) : va_D A (cw_W c kc (rU (rU (rU st 9 s9_78) 10 s10_78) 11 s11_78) lg (rU (rU ai 7 a7_78) 8 a8_78) al R)) hS hA
                            refine va_calli (va_runV (As := [.int (st 15), .int l3_78, .int (1 : Int32)]) (rest := []) ⟨hx, hb, hml, hown, hts⟩ (v_X1_eraseRows l dC dI c kc (rU (rU (rU st 9 s9_78) 10 s10_78) 11 s11_78) lg (rU (rU ai 7 a7_78) 8 a8_78) al R (st 15) l3_78 (1 : Int32) _ (show 0 ≤ s9_78.toInt by omega) (show s9_78.toInt ≤ 1 by omega) (by omega) (by omega) (by omega) (by omega) (by omega) (show aR a7_78 8224 (-128) 127 from hR7)) (cwV 3 hts gX4_dropLacking_X1_eraseRows rfl rfl rfl (by decide +kernel) ⟨Nat.le_of_ble_eq_true rfl, Nat.le_of_ble_eq_true rfl⟩) ⟨fun a U g mk q => by obtain ⟨q0, q1, qP, qK, qD⟩ := q; exact ⟨q0, q1, qP, va_K.moved (u := U) (U := U.calling g mk a) (Vm.Alike.refl U.vm) qK, qD⟩, va_recv hK hP (ci := 3) (q := (RX1, TX1, 7)) rfl (q0 := 2) rfl, fun U hU hW => ⟨rfl, by rw [hU], by rw [hU]; exact hP, va_K.moved hW.alike hK, ((cw_D hD : va_D A (cw_W c kc (rU (rU (rU st 9 s9_78) 10 s10_78) 11 s11_78) lg (rU (rU ai 7 a7_78) 8 a8_78) al R))).weaken (fun _ _ _ _ => trivial)⟩⟩ rfl rfl hl.1 rfl (lv_room (Nat.le_of_ble_eq_true rfl)) dX4_dropLacking_93 ⟨Nat.le_of_ble_eq_true rfl, Nat.le_of_ble_eq_true rfl⟩) hS (fun q _ h => hFc q h) hFc (fun r_37 ur_37 t H1 locs ht hvm er_37 hB hz1 hk1 hS => ?_)
                            subst er_37
                            obtain ⟨x9_37, x10_37, x11_37, f7_37, f8_37, k_38, k_39, k_40, k_41, hR7, hP1⟩ := hB
                            rw [ht] at hP1
                            clear hFc hz1 hk1 hvm hP
                            subst ht
                            have hP := hP1
                            clear hP1
                            generalize t.heap = H at hP hS ⊢
                            have hP : va_P (dC, dI) vwCl (cw_W c kc (rU (rU (rU st 9 x9_37) 10 x10_37) 11 x11_37) lg (rU (rU ai 7 f7_37) 8 f8_37) al R) H := hP
                            have k_40 : 0 ≤ x9_37.toInt := k_40
                            have k_41 : x9_37.toInt ≤ 1 := k_41
                            have hR7 : aR f7_37 8224 (-128) 127 := hR7
                            rcases iv_01 (a := r_37) (by omega) (by omega) with b_42 | b_42
                            · skip
                              have ib_42 := iv_eq b_42
                              rw [b_42]
                              refine lv_if_ne (tgt := 101) hx hb dX4_dropLacking_96 (by decide) (fun c_43 => ?_) (fun c_43 => ?_)
                              · skip
                                have ic_43 := iv_ne c_43
                                exfalso
                                omega
                              · skip
                                have ic_43 := iv_eq c_43
                                refine lv_iconst (v := 0) hx hb dX4_dropLacking_99 (by decide) ?_
                                exact W.zret hx hb hr rfl (fun t ht hW => ⟨⟨_, _, rfl, rfl, x9_37, x10_37, x11_37, st 17, f7_37, f8_37, (by omega), (by omega), (by omega), (by omega), (by omega), (by omega), hR7, by rw [ht]; exact hP⟩, hS.F ht⟩) hS.2.2 dX4_dropLacking_100
                            · skip
                              have ib_42 := iv_eq b_42
                              rw [b_42]
                              refine lv_if_ne (tgt := 101) hx hb dX4_dropLacking_96 (by decide) (fun c_44 => ?_) (fun c_44 => ?_)
                              · skip
                                have ic_44 := iv_ne c_44
                                obtain ⟨x_45, ex_45⟩ : ∃ z : Int32, z = l3_78 + (-1) := ⟨_, rfl⟩
                                refine lv_iinc (v := x_45) (lv' := [(3, .int x_45), (2, .int r_28), (1, .int l1_7), (0, .ref (c 104))]) hx hb dX4_dropLacking_101 hl (k := 0) rfl (by rw [ex_45]; rfl) (by decide) rfl (fun ls hl => ?_)
                                have rg7 := iv_rng l3_78
                                have hx_45 : x_45.toInt = l3_78.toInt + (-1) := by rw [ex_45]; exact (iv_add (by omega) (by omega)).trans (by omega)
                                clear ex_45
                                refine lv_goto (tgt := 78) hx hb dX4_dropLacking_104 (by decide) ?_
                                exact ih78 x_45 x9_37 x10_37 x11_37 f7_37 f8_37 _ _ _ (by omega) (by omega) (by omega) (by omega) (by omega) (by assumption) (by omega) hP hS (lv_sub hl [0, 1, 2, 3] rfl)
                              · skip
                                have ic_44 := iv_eq c_44
                                exfalso
                                omega
                      exact loop78 ((v_35.toInt - l1_7.toInt + 1 : Int).toNat + 1) v_35 (st 9) (st 10) (st 11) (ai 7) (ai 8) _ _ _ (by omega) (by omega) (by omega) (by omega) (by omega) (by assumption) (by omega) hP hS (lv_sub hl [0, 1, 2, 3] rfl)
                    · skip
                      have ic_34 := iv_nlt c_34
                      refine lv_iconst (v := 1) hx hb dX4_dropLacking_69 (by decide) ?_
                      exact W.zret hx hb hr rfl (fun t ht hW => ⟨⟨_, _, rfl, rfl, st 9, st 10, st 11, st 17, ai 7, ai 8, (by omega), (by omega), (by omega), (by omega), (by omega), (by omega), hR7, by rw [ht]; exact hP⟩, hS.F ht⟩) hS.2.2 dX4_dropLacking_70
              · skip
                have ic_27 := iv_nle c_27
                exfalso
                omega
            · skip
              have ic_26 := iv_ne c_26
              obtain ⟨x_46, ex_46⟩ : ∃ z : Int32, z = l1_7 + (-1) := ⟨_, rfl⟩
              refine lv_iinc (v := x_46) (lv' := [(1, .int x_46), (0, .ref (c 104))]) hx hb dX4_dropLacking_29 hl (k := 0) rfl (by rw [ex_46]; rfl) (by decide) rfl (fun ls hl => ?_)
              have rg8 := iv_rng l1_7
              have hx_46 : x_46.toInt = l1_7.toInt + (-1) := by rw [ex_46]; exact (iv_add (by omega) (by omega)).trans (by omega)
              clear ex_46
              refine lv_goto (tgt := 7) hx hb dX4_dropLacking_32 (by decide) ?_
              exact ih7 x_46 _ _ _ (by omega) (by omega) (by omega) hP hS (lv_sub hl [0, 1] rfl)
    exact loop7 ((v_1.toInt + 1 : Int).toNat + 1) v_1 _ _ _ (by omega) (by omega) (by omega) hP hS (lv_sub hl [0, 1] rfl)
  exact main s.heap [] hP hS

set_option maxHeartbeats 4000000 in
set_option maxRecDepth 100000 in
theorem v_X4_seal (l : Launch) (dC : Nat → ClassId) (dI : Nat → Nat → Nat) (c : Nat → Nat) (kc : Nat → ClassId) (st : Nat → Int32) (lg : Nat → Int64) (ai : Nat → Nat → Int32) (al : Nat → Nat → Int64) (R : va_W)  (sz : Nat) (hf9a : 0 ≤ (st 9).toInt) (hf9b : (st 9).toInt ≤ 1) (hf15a : 0 ≤ (st 15).toInt) (hf15b : (st 15).toInt ≤ 1) (hf17a : 0 ≤ (st 17).toInt) (hf17b : (st 17).toInt ≤ 128) (hR7 : aR (ai 7) 8224 (-128) 127) : Met l yX4_seal wsX4_seal ({ frames := 5, cells := 0, slots := 0, locals := 120 }) (va_Pc [.ref (c 104)] (fun U => U.heap.size = sz ∧ va_P (dC, dI) vwCl (cw_W c kc st lg ai al R) U.heap ∧ va_K (dC, dI) vwCl (cw_T kc) U ∧ va_D (fun _ => True) (cw_W c kc st lg ai al R) ∧ gx_E (va_A (cw_W c kc st lg ai al R) sz) U)) (va_Qi (fun r (u : Int32) => r = u) (fun u t => ∃ (x9 : Int32) (x10 : Int32) (x11 : Int32) (f7 : Nat → Int32) (f8 : Nat → Int32), (0 ≤ u.toInt) ∧ (u.toInt ≤ 1) ∧ (0 ≤ x9.toInt) ∧ (x9.toInt ≤ 1) ∧ (aR f7 8224 (-128) 127) ∧ va_P (dC, dI) vwCl (cw_W c kc (rU (rU (rU st 9 x9) 10 x10) 11 x11) lg (rU (rU ai 7 f7) 8 f8) al R) t.heap) (va_A (cw_W c kc st lg ai al R) sz)) 0 0 (va_A (cw_W c kc st lg ai al R) sz) := by
  refine Met.ofW (cc := cX4_seal) (maxL := 4) (ret := (some .boolean)) (by decide) rfl ?_
  intro p e s m args below meth cM s₁ B hml hv
  obtain ⟨rfl, hsz, hP, hK, hD0, hG⟩ := hv
  have hx := B.exec
  have hb := B.bytes
  have hr := B.returns
  have hts := atoms_spec (ws := wsX4_seal) B.pre
  have hown : s.vm.findClass RX4 = some m.cls := findClass_of_methodNamed B.named
  have hGW := hG.1
  subst hsz
  have hD := hD0.self (sz := s.heap.size)
  generalize hAe : va_A (cw_W c kc st lg ai al R) s.heap.size = A at hD hG ⊢
  have hA : ∀ q : Nat, s.heap.size ≤ q → A q := fun q h => by rw [← hAe]; exact Or.inr h
  have hS : va_S A s.heap s.heap [] := va_S.rf
  clear hAe hD0
  have hl := lv_entry ([.ref (c 104)]) (n := 4) (Nat.le_of_ble_eq_true rfl)
  rw [lg_entry_eq]
  generalize (lg_sl ([.ref (c 104)]) ++ List.replicate (4 - (lg_sl ([.ref (c 104)])).length) Slot.unset).toArray = ls at hl ⊢
  have hl : lv_has ls 4 [(0, .ref (c 104))] := hl
  have z_0 : (0 : Int32).toInt = 0 := by decide
  have z_1 : (1 : Int32).toInt = 1 := by decide
  have z_2 : (2 : Int32).toInt = 2 := by decide
  have z_32 : (32 : Int32).toInt = 32 := by decide
  have z_165 : (165 : Int32).toInt = 165 := by decide
  have z_255 : (255 : Int32).toInt = 255 := by decide
  have hin_X1 : ∀ w ∈ u_ws RX1 TX1 7, w ∈ wsX4_seal := by decide +kernel
  have hin_X4 : ∀ w ∈ u_ws RX4 TX4 6, w ∈ wsX4_seal := by decide +kernel
  have main : ∀ (H : Heap) (locs : List Loc), va_P (dC, dI) vwCl (cw_W c kc st lg ai al R) H → va_S A s.heap H locs → W p l e (headSpec wsX4_seal ({ frames := 5, cells := 0, slots := 0, locals := 120 })).room s m ([.ref (c 104)] : List Value).toArray below meth cM H locs 0 0 (MQ below (va_Qi (fun r (u : Int32) => r = u) (fun u t => ∃ (x9 : Int32) (x10 : Int32) (x11 : Int32) (f7 : Nat → Int32) (f8 : Nat → Int32), (0 ≤ u.toInt) ∧ (u.toInt ≤ 1) ∧ (0 ≤ x9.toInt) ∧ (x9.toInt ≤ 1) ∧ (aR f7 8224 (-128) 127) ∧ va_P (dC, dI) vwCl (cw_W c kc (rU (rU (rU st 9 x9) 10 x10) 11 x11) lg (rU (rU ai 7 f7) 8 f8) al R) t.heap) A) ([.ref (c 104)] : List Value).toArray s 0 0 A) (F0 m 0 ls []) := by
    intro H locs hP hS
    refine lv_iconst (v := 0) hx hb dX4_seal_0 (by decide) ?_
    refine lv_istore_n (lv' := [(1, .int (0 : Int32)), (0, .ref (c 104))]) hx hb dX4_seal_1 rfl hl (by decide) rfl (fun ls hl => ?_)
    have loop2 : ∀ (n : Nat) (l1_2 : Int32) (s9_2 : Int32) (s10_2 : Int32) (s11_2 : Int32) (a7_2 : Nat → Int32) (a8_2 : Nat → Int32) (H : Heap) (locs : List Loc) (ls : Array Slot), (0 ≤ l1_2.toInt) → (l1_2.toInt ≤ (st 17).toInt) → (0 ≤ s9_2.toInt) → (s9_2.toInt ≤ 1) → (aR a7_2 8224 (-128) 127) → ((st 17).toInt - l1_2.toInt : Int).toNat < n → va_P (dC, dI) vwCl (cw_W c kc (rU (rU (rU st 9 s9_2) 10 s10_2) 11 s11_2) lg (rU (rU ai 7 a7_2) 8 a8_2) al R) H → va_S A s.heap H locs → lv_has ls 4 [(1, .int l1_2), (0, .ref (c 104))] → W p l e (headSpec wsX4_seal ({ frames := 5, cells := 0, slots := 0, locals := 120 })).room s m ([.ref (c 104)] : List Value).toArray below meth cM H locs 0 0 (MQ below (va_Qi (fun r (u : Int32) => r = u) (fun u t => ∃ (x9 : Int32) (x10 : Int32) (x11 : Int32) (f7 : Nat → Int32) (f8 : Nat → Int32), (0 ≤ u.toInt) ∧ (u.toInt ≤ 1) ∧ (0 ≤ x9.toInt) ∧ (x9.toInt ≤ 1) ∧ (aR f7 8224 (-128) 127) ∧ va_P (dC, dI) vwCl (cw_W c kc (rU (rU (rU st 9 x9) 10 x10) 11 x11) lg (rU (rU ai 7 f7) 8 f8) al R) t.heap) A) ([.ref (c 104)] : List Value).toArray s 0 0 A) (F0 m 2 ls []) := by
      intro n
      induction n with
      | zero => intro l1_2 s9_2 s10_2 s11_2 a7_2 a8_2 H locs ls if0_2 if1_2 if2_2 if3_2 hR7 hm; exact absurd hm (Nat.not_lt_zero _)
      | succ n ih2 =>
        intro l1_2 s9_2 s10_2 s11_2 a7_2 a8_2 H locs ls if0_2 if1_2 if2_2 if3_2 hR7 hm2 hP hS hl
        refine lv_iload_n hx hb dX4_seal_2 rfl (lv_at hl 0 rfl) ?_
        refine lv_aload_n hx hb dX4_seal_3 rfl (lv_at hl 1 rfl) ?_
        refine va_get (D := (dC, dI)) (ci := 6) (v := .int (st 17)) (C := RX4) (T := TX4) (N := 6) hx hb hts hin_X4 hown hK hP 4 rfl rfl 4 (by decide) (hts (.fieldLink RX4 26 "BlockLog$Rows" "count" "I") (by decide +kernel)) (fun _ h9 => h9) rfl dX4_seal_4 ?_
        refine lv_icmp_ge (tgt := 78) hx hb dX4_seal_7 (by decide) (fun c_1 => ?_) (fun c_1 => ?_)
        · skip
          have ic_1 := iv_le c_1
          refine lv_iconst (v := 1) hx hb dX4_seal_78 (by decide) ?_
          exact W.zret hx hb hr rfl (fun t ht hW => ⟨⟨_, _, rfl, rfl, s9_2, s10_2, s11_2, a7_2, a8_2, (by omega), (by omega), (by omega), (by omega), hR7, by rw [ht]; exact hP⟩, hS.F ht⟩) hS.2.2 dX4_seal_79
        · skip
          have ic_1 := iv_nle c_1
          refine lv_aload_n hx hb dX4_seal_10 rfl (lv_at hl 1 rfl) ?_
          refine lv_iload_n hx hb dX4_seal_11 rfl (lv_at hl 0 rfl) ?_
          refine vp_callSi (va_Run.run (va_runV (As := [.int l1_2]) (rest := []) ⟨hx, hb, hml, hown, hts⟩ (v_X4_place l dC dI c kc (rU (rU (rU st 9 s9_2) 10 s10_2) 11 s11_2) lg (rU (rU ai 7 a7_2) 8 a8_2) al R l1_2 (show 0 ≤ (st 15).toInt by omega) (show (st 15).toInt ≤ 1 by omega) (by omega) (by omega)) (cwV 1 hts gX4_seal_X4_place rfl rfl rfl (by decide +kernel) ⟨Nat.le_of_ble_eq_true rfl, Nat.le_of_ble_eq_true rfl⟩) ⟨fun a U g mk q => by obtain ⟨q0, qP, qK⟩ := q; exact ⟨q0, qP, va_K.moved (u := U) (U := U.calling g mk a) (Vm.Alike.refl U.vm) qK⟩, va_recv hK hP (ci := 6) (q := (RX4, TX4, 6)) rfl (q0 := 4) rfl, fun U hU hW => ⟨rfl, by rw [hU]; exact hP, va_K.moved hW.alike hK⟩⟩ rfl rfl hl.1 rfl (lv_room (Nat.le_of_ble_eq_true rfl)) dX4_seal_12 ⟨Nat.le_of_ble_eq_true rfl, Nat.le_of_ble_eq_true rfl⟩)) (fun r_2 er_2 => ?_)
          have k_3 := er_2
          have k_3 : r_2.toInt = 32 + 4096 * (st 15).toInt + 32 * l1_2.toInt := k_3
          refine lv_bipush (v := 32) hx hb dX4_seal_15 (by decide) ?_
          refine lv_iadd hx hb dX4_seal_17 ?_
          refine lv_topi (fun v_4 ev_4 => ?_)
          have rg1 := iv_rng r_2
          have hv_4 : v_4.toInt = r_2.toInt + 32 := by rw [ev_4]; exact (iv_add (by omega) (by omega)).trans (by omega)
          clear ev_4
          refine lv_iconst (v := 1) hx hb dX4_seal_18 (by decide) ?_
          refine lv_isub hx hb dX4_seal_19 ?_
          refine lv_topi (fun v_5 ev_5 => ?_)
          have rg2 := iv_rng v_4
          have hv_5 : v_5.toInt = v_4.toInt - 1 := by rw [ev_5]; exact (iv_sub (by omega) (by omega)).trans (by omega)
          clear ev_5
          refine lv_istore_n (lv' := [(2, .int v_5), (1, .int l1_2), (0, .ref (c 104))]) hx hb dX4_seal_20 rfl hl (by decide) rfl (fun ls hl => ?_)
          refine lv_aload_n hx hb dX4_seal_21 rfl (lv_at hl 2 rfl) ?_
          refine lv_iload_n hx hb dX4_seal_22 rfl (lv_at hl 1 rfl) ?_
          have hFc := vfree ((cw_D hD : va_D A (cw_W c kc (rU (rU (rU st 9 s9_2) 10 s10_2) 11 s11_2) lg (rU (rU ai 7 a7_2) 8 a8_2) al R)) : va_D A (cw_W c kc (rU (rU (rU st 9 s9_2) 10 s10_2) 11 s11_2) lg (rU (rU ai 7 a7_2) 8 a8_2) al R)) hS hA
          refine va_calli (va_runV (As := [.int l1_2]) (rest := []) ⟨hx, hb, hml, hown, hts⟩ (v_X4_state l dC dI c kc (rU (rU (rU st 9 s9_2) 10 s10_2) 11 s11_2) lg (rU (rU ai 7 a7_2) 8 a8_2) al R l1_2 _ (show 0 ≤ (st 15).toInt by omega) (show (st 15).toInt ≤ 1 by omega) (by omega) (by omega)) (cwV 1 hts gX4_seal_X4_state rfl rfl rfl (by decide +kernel) ⟨Nat.le_of_ble_eq_true rfl, Nat.le_of_ble_eq_true rfl⟩) ⟨fun a U g mk q => by obtain ⟨q0, q1, qP, qK, qD⟩ := q; exact ⟨q0, q1, qP, va_K.moved (u := U) (U := U.calling g mk a) (Vm.Alike.refl U.vm) qK, qD⟩, va_recv hK hP (ci := 6) (q := (RX4, TX4, 6)) rfl (q0 := 4) rfl, fun U hU hW => ⟨rfl, by rw [hU], by rw [hU]; exact hP, va_K.moved hW.alike hK, ((cw_D hD : va_D A (cw_W c kc (rU (rU (rU st 9 s9_2) 10 s10_2) 11 s11_2) lg (rU (rU ai 7 a7_2) 8 a8_2) al R))).weaken (fun _ _ _ _ => trivial)⟩⟩ rfl rfl hl.1 rfl (lv_room (Nat.le_of_ble_eq_true rfl)) dX4_seal_23 ⟨Nat.le_of_ble_eq_true rfl, Nat.le_of_ble_eq_true rfl⟩) hS (fun q _ h => hFc q h) hFc (fun r_6 ur_6 t H1 locs ht hvm er_6 hB hz1 hk1 hS => ?_)
          subst er_6
          obtain ⟨f8_6, hP1⟩ := hB
          rw [ht] at hP1
          clear hFc hz1 hk1 hvm hP
          subst ht
          have hP := hP1
          clear hP1
          generalize t.heap = H at hP hS ⊢
          have hP : va_P (dC, dI) vwCl (cw_W c kc (rU (rU (rU st 9 s9_2) 10 s10_2) 11 s11_2) lg (rU (rU ai 7 a7_2) 8 f8_6) al R) H := hP
          refine lv_iconst (v := 2) hx hb dX4_seal_26 (by decide) ?_
          refine lv_icmp_ne (tgt := 53) hx hb dX4_seal_27 (by decide) (fun c_7 => ?_) (fun c_7 => ?_)
          · skip
            have ic_7 := iv_ne c_7
            refine lv_iconst (v := 0) hx hb dX4_seal_53 (by decide) ?_
            refine lv_istore_n (lv' := [(3, .int (0 : Int32)), (2, .int v_5), (1, .int l1_2), (0, .ref (c 104))]) hx hb dX4_seal_54 rfl hl (by decide) rfl (fun ls hl => ?_)
            refine lv_iload_n hx hb dX4_seal_55 rfl (lv_at hl 0 rfl) ?_
            refine lv_if_eq (tgt := 72) hx hb dX4_seal_56 (by decide) (fun c_8 => ?_) (fun c_8 => ?_)
            · skip
              have ic_8 := iv_eq c_8
              obtain ⟨x_9, ex_9⟩ : ∃ z : Int32, z = l1_2 + (1) := ⟨_, rfl⟩
              refine lv_iinc (v := x_9) (lv' := [(1, .int x_9), (3, .int (0 : Int32)), (2, .int v_5), (0, .ref (c 104))]) hx hb dX4_seal_72 hl (k := 2) rfl (by rw [ex_9]; rfl) (by decide) rfl (fun ls hl => ?_)
              have rg3 := iv_rng l1_2
              have hx_9 : x_9.toInt = l1_2.toInt + (1) := by rw [ex_9]; exact (iv_add (by omega) (by omega)).trans (by omega)
              clear ex_9
              refine lv_goto (tgt := 2) hx hb dX4_seal_75 (by decide) ?_
              exact ih2 x_9 s9_2 s10_2 s11_2 a7_2 f8_6 _ _ _ (by omega) (by omega) (by omega) (by omega) (by assumption) (by omega) hP hS (lv_sub hl [0, 3] rfl)
            · skip
              have ic_8 := iv_ne c_8
              exfalso
              omega
          · skip
            have ic_7 := iv_eq c_7
            refine lv_aload_n hx hb dX4_seal_30 rfl (lv_at hl 2 rfl) ?_
            refine va_get (D := (dC, dI)) (ci := 6) (v := .ref (c 102)) (C := RX4) (T := TX4) (N := 6) hx hb hts hin_X4 hown hK hP 4 rfl rfl 0 (by decide) (hts (.fieldLink RX4 9 "BlockLog$Rows" "disk" "LBlockLog$Disk;") (by decide +kernel)) (fun _ h9 => h9) rfl dX4_seal_31 ?_
            refine va_getN (D := (dC, dI)) (ci := 3) (v := .ref (c 7)) (C := RX1) (T := TX1) (N := 7) hx hb hts hin_X1 hown hK hP 2 rfl rfl 1 (by decide) (va_Nw.use rfl (hGW.1 ("BlockLog$Rows", 36, "BlockLog$Disk", "low", "[B", "BlockLog") (by decide +kernel))) (fun _ h9 => h9) rfl dX4_seal_34 ?_
            refine lv_iload_n hx hb dX4_seal_37 rfl (lv_at hl 0 rfl) ?_
            refine va_bald (f := a7_2) hx hb hK hP 12 4 rfl rfl (iv_in (i := v_5) (by omega) (by omega)) dX4_seal_38 ?_
            refine lv_topi (fun v_10 ev_10 => ?_)
            have k_11 : -128 ≤ v_10.toInt ∧ v_10.toInt ≤ 127 := aR_get hR7 (by omega) (by omega) ev_10
            clear ev_10
            refine lv_sipush (v := 255) hx hb dX4_seal_39 (by decide) ?_
            refine lv_iand hx hb dX4_seal_42 ?_
            refine lv_topi (fun v_12 ev_12 => ?_)
            have hv_12 : 0 ≤ v_12.toInt ∧ v_12.toInt ≤ 255 := by rw [ev_12]; exact iv_and255 _
            clear ev_12
            refine lv_sipush (v := 165) hx hb dX4_seal_43 (by decide) ?_
            refine lv_icmp_eq (tgt := 53) hx hb dX4_seal_46 (by decide) (fun c_13 => ?_) (fun c_13 => ?_)
            · skip
              have ic_13 := iv_eq c_13
              refine lv_iconst (v := 0) hx hb dX4_seal_53 (by decide) ?_
              refine lv_istore_n (lv' := [(3, .int (0 : Int32)), (2, .int v_5), (1, .int l1_2), (0, .ref (c 104))]) hx hb dX4_seal_54 rfl hl (by decide) rfl (fun ls hl => ?_)
              refine lv_iload_n hx hb dX4_seal_55 rfl (lv_at hl 0 rfl) ?_
              refine lv_if_eq (tgt := 72) hx hb dX4_seal_56 (by decide) (fun c_14 => ?_) (fun c_14 => ?_)
              · skip
                have ic_14 := iv_eq c_14
                obtain ⟨x_15, ex_15⟩ : ∃ z : Int32, z = l1_2 + (1) := ⟨_, rfl⟩
                refine lv_iinc (v := x_15) (lv' := [(1, .int x_15), (3, .int (0 : Int32)), (2, .int v_5), (0, .ref (c 104))]) hx hb dX4_seal_72 hl (k := 2) rfl (by rw [ex_15]; rfl) (by decide) rfl (fun ls hl => ?_)
                have rg4 := iv_rng l1_2
                have hx_15 : x_15.toInt = l1_2.toInt + (1) := by rw [ex_15]; exact (iv_add (by omega) (by omega)).trans (by omega)
                clear ex_15
                refine lv_goto (tgt := 2) hx hb dX4_seal_75 (by decide) ?_
                exact ih2 x_15 s9_2 s10_2 s11_2 a7_2 f8_6 _ _ _ (by omega) (by omega) (by omega) (by omega) (by assumption) (by omega) hP hS (lv_sub hl [0, 3] rfl)
              · skip
                have ic_14 := iv_ne c_14
                exfalso
                omega
            · skip
              have ic_13 := iv_ne c_13
              refine lv_iconst (v := 1) hx hb dX4_seal_49 (by decide) ?_
              refine lv_goto (tgt := 54) hx hb dX4_seal_50 (by decide) ?_
              refine lv_istore_n (lv' := [(3, .int (1 : Int32)), (2, .int v_5), (1, .int l1_2), (0, .ref (c 104))]) hx hb dX4_seal_54 rfl hl (by decide) rfl (fun ls hl => ?_)
              refine lv_iload_n hx hb dX4_seal_55 rfl (lv_at hl 0 rfl) ?_
              refine lv_if_eq (tgt := 72) hx hb dX4_seal_56 (by decide) (fun c_16 => ?_) (fun c_16 => ?_)
              · skip
                have ic_16 := iv_eq c_16
                exfalso
                omega
              · skip
                have ic_16 := iv_ne c_16
                refine lv_aload_n hx hb dX4_seal_59 rfl (lv_at hl 3 rfl) ?_
                refine va_get (D := (dC, dI)) (ci := 6) (v := .ref (c 102)) (C := RX4) (T := TX4) (N := 6) hx hb hts hin_X4 hown hK hP 4 rfl rfl 0 (by decide) (hts (.fieldLink RX4 9 "BlockLog$Rows" "disk" "LBlockLog$Disk;") (by decide +kernel)) (fun _ h9 => h9) rfl dX4_seal_60 ?_
                refine lv_iload_n hx hb dX4_seal_63 rfl (lv_at hl 1 rfl) ?_
                have hFc := vfree ((cw_D hD : va_D A (cw_W c kc (rU (rU (rU st 9 s9_2) 10 s10_2) 11 s11_2) lg (rU (rU ai 7 a7_2) 8 f8_6) al R)) : va_D A (cw_W c kc (rU (rU (rU st 9 s9_2) 10 s10_2) 11 s11_2) lg (rU (rU ai 7 a7_2) 8 f8_6) al R)) hS hA
                refine va_calli (va_runV (As := [.int v_5]) (rest := []) ⟨hx, hb, hml, hown, hts⟩ (v_X1_sealLow l dC dI c kc (rU (rU (rU st 9 s9_2) 10 s10_2) 11 s11_2) lg (rU (rU ai 7 a7_2) 8 f8_6) al R v_5 _ (show 0 ≤ s9_2.toInt by omega) (show s9_2.toInt ≤ 1 by omega) (by omega) (by omega) (show aR a7_2 8224 (-128) 127 from hR7)) (cwV 1 hts gX4_seal_X1_sealLow rfl rfl rfl (by decide +kernel) ⟨Nat.le_of_ble_eq_true rfl, Nat.le_of_ble_eq_true rfl⟩) ⟨fun a U g mk q => by obtain ⟨q0, q1, qP, qK, qD⟩ := q; exact ⟨q0, q1, qP, va_K.moved (u := U) (U := U.calling g mk a) (Vm.Alike.refl U.vm) qK, qD⟩, va_recv hK hP (ci := 3) (q := (RX1, TX1, 7)) rfl (q0 := 2) rfl, fun U hU hW => ⟨rfl, by rw [hU], by rw [hU]; exact hP, va_K.moved hW.alike hK, ((cw_D hD : va_D A (cw_W c kc (rU (rU (rU st 9 s9_2) 10 s10_2) 11 s11_2) lg (rU (rU ai 7 a7_2) 8 f8_6) al R))).weaken (fun _ _ _ _ => trivial)⟩⟩ rfl rfl hl.1 rfl (lv_room (Nat.le_of_ble_eq_true rfl)) dX4_seal_64 ⟨Nat.le_of_ble_eq_true rfl, Nat.le_of_ble_eq_true rfl⟩) hS (fun q _ h => hFc q h) hFc (fun r_17 ur_17 t H1 locs ht hvm er_17 hB hz1 hk1 hS => ?_)
                subst er_17
                obtain ⟨x9_17, x10_17, x11_17, f7_17, f8_17, k_18, k_19, k_20, k_21, hR7, hP1⟩ := hB
                rw [ht] at hP1
                clear hFc hz1 hk1 hvm hP
                subst ht
                have hP := hP1
                clear hP1
                generalize t.heap = H at hP hS ⊢
                have hP : va_P (dC, dI) vwCl (cw_W c kc (rU (rU (rU st 9 x9_17) 10 x10_17) 11 x11_17) lg (rU (rU ai 7 f7_17) 8 f8_17) al R) H := hP
                have k_20 : 0 ≤ x9_17.toInt := k_20
                have k_21 : x9_17.toInt ≤ 1 := k_21
                have hR7 : aR f7_17 8224 (-128) 127 := hR7
                rcases iv_01 (a := r_17) (by omega) (by omega) with b_22 | b_22
                · skip
                  have ib_22 := iv_eq b_22
                  rw [b_22]
                  refine lv_if_ne (tgt := 72) hx hb dX4_seal_67 (by decide) (fun c_23 => ?_) (fun c_23 => ?_)
                  · skip
                    have ic_23 := iv_ne c_23
                    exfalso
                    omega
                  · skip
                    have ic_23 := iv_eq c_23
                    refine lv_iconst (v := 0) hx hb dX4_seal_70 (by decide) ?_
                    exact W.zret hx hb hr rfl (fun t ht hW => ⟨⟨_, _, rfl, rfl, x9_17, x10_17, x11_17, f7_17, f8_17, (by omega), (by omega), (by omega), (by omega), hR7, by rw [ht]; exact hP⟩, hS.F ht⟩) hS.2.2 dX4_seal_71
                · skip
                  have ib_22 := iv_eq b_22
                  rw [b_22]
                  refine lv_if_ne (tgt := 72) hx hb dX4_seal_67 (by decide) (fun c_24 => ?_) (fun c_24 => ?_)
                  · skip
                    have ic_24 := iv_ne c_24
                    obtain ⟨x_25, ex_25⟩ : ∃ z : Int32, z = l1_2 + (1) := ⟨_, rfl⟩
                    refine lv_iinc (v := x_25) (lv' := [(1, .int x_25), (3, .int (1 : Int32)), (2, .int v_5), (0, .ref (c 104))]) hx hb dX4_seal_72 hl (k := 2) rfl (by rw [ex_25]; rfl) (by decide) rfl (fun ls hl => ?_)
                    have rg5 := iv_rng l1_2
                    have hx_25 : x_25.toInt = l1_2.toInt + (1) := by rw [ex_25]; exact (iv_add (by omega) (by omega)).trans (by omega)
                    clear ex_25
                    refine lv_goto (tgt := 2) hx hb dX4_seal_75 (by decide) ?_
                    exact ih2 x_25 x9_17 x10_17 x11_17 f7_17 f8_17 _ _ _ (by omega) (by omega) (by omega) (by omega) (by assumption) (by omega) hP hS (lv_sub hl [0, 3] rfl)
                  · skip
                    have ic_24 := iv_eq c_24
                    exfalso
                    omega
    exact loop2 (((st 17).toInt - 0 : Int).toNat + 1) (0 : Int32) (st 9) (st 10) (st 11) (ai 7) (ai 8) _ _ _ (by omega) (by omega) (by omega) (by omega) (by assumption) (by omega) hP hS (lv_sub hl [0, 1] rfl)
  exact main s.heap [] hP hS

set_option maxHeartbeats 4000000 in
set_option maxRecDepth 100000 in
theorem v_X4_drawMended (l : Launch) (dC : Nat → ClassId) (dI : Nat → Nat → Nat) (c : Nat → Nat) (kc : Nat → ClassId) (st : Nat → Int32) (lg : Nat → Int64) (ai : Nat → Nat → Int32) (al : Nat → Nat → Int64) (R : va_W) (p0 : Int32) (sz : Nat) (hf5a : 0 ≤ (st 5).toInt) (hf5b : (st 5).toInt ≤ 400) (hf15a : 0 ≤ (st 15).toInt) (hf15b : (st 15).toInt ≤ 1) (hq0 : 0 ≤ p0.toInt) (hq1 : p0.toInt ≤ 127) (hR4 : aR (ai 4) 400 (-128) 127) : Met l yX4_drawMended wsX4_drawMended ({ frames := 3, cells := 0, slots := 0, locals := 72 }) (va_Pc [.ref (c 104), .int p0, .ref (c 101)] (fun U => U.heap.size = sz ∧ va_P (dC, dI) vwCl (cw_W c kc st lg ai al R) U.heap ∧ va_K (dC, dI) vwCl (cw_T kc) U ∧ va_D (fun _ => True) (cw_W c kc st lg ai al R) ∧ gx_E (va_A (cw_W c kc st lg ai al R) sz) U)) (va_Qi (fun r (u : Int32) => r = u) (fun u t => ∃ (f14 : Nat → Int32), (0 ≤ u.toInt) ∧ (u.toInt ≤ 1) ∧ va_P (dC, dI) vwCl (cw_W c kc st lg (rU ai 14 f14) al R) t.heap) (va_A (cw_W c kc st lg ai al R) sz)) 0 0 (va_A (cw_W c kc st lg ai al R) sz) := by
  refine Met.ofW (cc := cX4_drawMended) (maxL := 3) (ret := (some .boolean)) (by decide) rfl ?_
  intro p e s m args below meth cM s₁ B hml hv
  obtain ⟨rfl, hsz, hP, hK, hD0, hG⟩ := hv
  have hx := B.exec
  have hb := B.bytes
  have hr := B.returns
  have hts := atoms_spec (ws := wsX4_drawMended) B.pre
  have hown : s.vm.findClass RX4 = some m.cls := findClass_of_methodNamed B.named
  have hGW := hG.1
  subst hsz
  have hD := hD0.self (sz := s.heap.size)
  generalize hAe : va_A (cw_W c kc st lg ai al R) s.heap.size = A at hD hG ⊢
  have hA : ∀ q : Nat, s.heap.size ≤ q → A q := fun q h => by rw [← hAe]; exact Or.inr h
  have hS : va_S A s.heap s.heap [] := va_S.rf
  clear hAe hD0
  have hl := lv_entry ([.ref (c 104), .int p0, .ref (c 101)]) (n := 3) (Nat.le_of_ble_eq_true rfl)
  rw [lg_entry_eq]
  generalize (lg_sl ([.ref (c 104), .int p0, .ref (c 101)]) ++ List.replicate (3 - (lg_sl ([.ref (c 104), .int p0, .ref (c 101)])).length) Slot.unset).toArray = ls at hl ⊢
  have hl : lv_has ls 3 [(0, .ref (c 104)), (1, .int p0), (2, .ref (c 101))] := hl
  have z_0 : (0 : Int32).toInt = 0 := by decide
  have z_1 : (1 : Int32).toInt = 1 := by decide
  have z_2 : (2 : Int32).toInt = 2 := by decide
  have z_23 : (23 : Int32).toInt = 23 := by decide
  have hin_X1 : ∀ w ∈ u_ws RX1 TX1 7, w ∈ wsX4_drawMended := by decide +kernel
  have hin_X4 : ∀ w ∈ u_ws RX4 TX4 6, w ∈ wsX4_drawMended := by decide +kernel
  have hin_X7 : ∀ w ∈ u_ws RX7 TX7 2, w ∈ wsX4_drawMended := by decide +kernel
  have main : ∀ (H : Heap) (locs : List Loc), va_P (dC, dI) vwCl (cw_W c kc st lg ai al R) H → va_S A s.heap H locs → W p l e (headSpec wsX4_drawMended ({ frames := 3, cells := 0, slots := 0, locals := 72 })).room s m ([.ref (c 104), .int p0, .ref (c 101)] : List Value).toArray below meth cM H locs 0 0 (MQ below (va_Qi (fun r (u : Int32) => r = u) (fun u t => ∃ (f14 : Nat → Int32), (0 ≤ u.toInt) ∧ (u.toInt ≤ 1) ∧ va_P (dC, dI) vwCl (cw_W c kc st lg (rU ai 14 f14) al R) t.heap) A) ([.ref (c 104), .int p0, .ref (c 101)] : List Value).toArray s 0 0 A) (F0 m 0 ls []) := by
    intro H locs hP hS
    refine lv_aload_n hx hb dX4_drawMended_0 rfl (lv_at hl 2 rfl) ?_
    refine va_getN (D := (dC, dI)) (ci := 9) (v := .int (st 5)) (C := RX7) (T := TX7) (N := 2) hx hb hts hin_X7 hown hK hP 1 rfl rfl 1 (by decide) (va_Nw.use rfl (hGW.1 ("BlockLog$Rows", 125, "BlockLog$Tape", "count", "I", "BlockLog") (by decide +kernel))) (fun _ h9 => h9) rfl dX4_drawMended_1 ?_
    refine lv_bipush (v := 23) hx hb dX4_drawMended_4 (by decide) ?_
    refine lv_icmp_eq (tgt := 11) hx hb dX4_drawMended_6 (by decide) (fun c_1 => ?_) (fun c_1 => ?_)
    · skip
      have ic_1 := iv_eq c_1
      refine lv_aload_n hx hb dX4_drawMended_11 rfl (lv_at hl 2 rfl) ?_
      refine va_getN (D := (dC, dI)) (ci := 9) (v := .ref (c 4)) (C := RX7) (T := TX7) (N := 2) hx hb hts hin_X7 hown hK hP 1 rfl rfl 0 (by decide) (va_Nw.use rfl (hGW.1 ("BlockLog$Rows", 128, "BlockLog$Tape", "bytes", "[B", "BlockLog") (by decide +kernel))) (fun _ h9 => h9) rfl dX4_drawMended_12 ?_
      refine lv_iconst (v := 0) hx hb dX4_drawMended_15 (by decide) ?_
      refine lv_aload_n hx hb dX4_drawMended_16 rfl (lv_at hl 0 rfl) ?_
      refine va_get (D := (dC, dI)) (ci := 6) (v := .ref (c 14)) (C := RX4) (T := TX4) (N := 6) hx hb hts hin_X4 hown hK hP 4 rfl rfl 1 (by decide) (hts (.fieldLink RX4 15 "BlockLog$Rows" "image" "[B") (by decide +kernel)) (fun _ h9 => h9) rfl dX4_drawMended_17 ?_
      refine lv_iconst (v := 0) hx hb dX4_drawMended_20 (by decide) ?_
      refine lv_bipush (v := 23) hx hb dX4_drawMended_21 (by decide) ?_
      refine va_copyi (f := ai 4) (g := ai 14) hx hb (hml.trans hl.1.symm) hown (hts (.methodLink RX4 41 arraycopyName) (by decide +kernel)) (hts (.native arraycopyName) (by decide +kernel)) (hts (.static arraycopyName) (by decide +kernel)) (hts (.initialized "java/lang/System") (by decide +kernel)) hK hP (cw_D hD) hS 11 14 3 6 rfl rfl rfl rfl rfl (cp_n (by omega)) (cp_n (by omega)) (cp_n (by omega)) (cp_l (by omega) (by omega) (by omega)) (cp_l (by omega) (by omega) (by omega)) (cp_fit hR4 (by omega) (by omega) (by omega)) (Nat.le_of_ble_eq_true rfl) (by decide +kernel) dX4_drawMended_23 (fun H locs hP _ hS => ?_)
      have hP : va_P (dC, dI) vwCl (cw_W c kc st lg (rU ai 14 (va_cpy (ai 4) (ai 14) (0 : Int32).toNatClampNeg (0 : Int32).toNatClampNeg (23 : Int32).toNatClampNeg)) al R) H := cw_a14 hP
      generalize hU_rows_image : va_cpy (ai 4) (ai 14) (0 : Int32).toNatClampNeg (0 : Int32).toNatClampNeg (23 : Int32).toNatClampNeg = g_2 at hP
      clear hU_rows_image
      refine lv_aload_n hx hb dX4_drawMended_26 rfl (lv_at hl 0 rfl) ?_
      refine va_get (D := (dC, dI)) (ci := 6) (v := .ref (c 14)) (C := RX4) (T := TX4) (N := 6) hx hb hts hin_X4 hown hK hP 4 rfl rfl 1 (by decide) (hts (.fieldLink RX4 15 "BlockLog$Rows" "image" "[B") (by decide +kernel)) (fun _ h9 => h9) rfl dX4_drawMended_27 ?_
      refine lv_bipush (v := 23) hx hb dX4_drawMended_30 (by decide) ?_
      refine lv_iconst (v := 2) hx hb dX4_drawMended_32 (by decide) ?_
      have hFc := vfree ((cw_D hD : va_D A (cw_W c kc st lg (rU ai 14 g_2) al R)) : va_D A (cw_W c kc st lg (rU ai 14 g_2) al R)) hS hA
      refine va_callv (va_runS (As := [.ref (c 14), .int (23 : Int32), .int (2 : Int32)]) (rest := []) ⟨hx, hb, hml, hown, hts⟩ (v_X0_close l dC dI (cw_W c kc st lg (rU ai 14 g_2) al R) (cw_T kc) (c 14) 32 (kc 14) g_2 14 6 (23 : Int32) (2 : Int32) _ rfl rfl (by omega) (by omega) (by omega)) (va_cwS 3 hts gX4_drawMended_X0_close rfl rfl rfl (by decide +kernel) ⟨Nat.le_of_ble_eq_true rfl, Nat.le_of_ble_eq_true rfl⟩) ⟨fun a U g mk q => by obtain ⟨q0, q1, qP, qK, qD⟩ := q; exact ⟨q0, q1, qP, va_K.moved (u := U) (U := U.calling g mk a) (Vm.Alike.refl U.vm) qK, qD⟩, fun U hU hW => ⟨rfl, by rw [hU], by rw [hU]; exact hP, va_K.moved hW.alike hK, ((cw_D hD : va_D A (cw_W c kc st lg (rU ai 14 g_2) al R))).weaken (fun _ _ _ _ => trivial)⟩⟩ rfl rfl hl.1 rfl (lv_room (Nat.le_of_ble_eq_true rfl)) dX4_drawMended_33 ⟨Nat.le_of_ble_eq_true rfl, Nat.le_of_ble_eq_true rfl⟩) hS (fun q _ h => hFc q h) hFc (fun ur_3 t H1 locs ht hvm er_3 hB hz1 hk1 hS => ?_)
      obtain ⟨f_3, hRc, hP1⟩ := hB
      rw [ht] at hP1
      clear hFc hz1 hk1 hvm hP
      subst ht
      have hP := hP1
      clear hP1
      generalize t.heap = H at hP hS ⊢
      have hP : va_P (dC, dI) vwCl (cw_W c kc st lg (rU ai 14 f_3) al R) H := hP
      refine lv_aload_n hx hb dX4_drawMended_36 rfl (lv_at hl 0 rfl) ?_
      refine va_get (D := (dC, dI)) (ci := 6) (v := .ref (c 14)) (C := RX4) (T := TX4) (N := 6) hx hb hts hin_X4 hown hK hP 4 rfl rfl 1 (by decide) (hts (.fieldLink RX4 15 "BlockLog$Rows" "image" "[B") (by decide +kernel)) (fun _ h9 => h9) rfl dX4_drawMended_37 ?_
      refine lv_aload_n hx hb dX4_drawMended_40 rfl (lv_at hl 0 rfl) ?_
      refine va_get (D := (dC, dI)) (ci := 6) (v := .ref (c 102)) (C := RX4) (T := TX4) (N := 6) hx hb hts hin_X4 hown hK hP 4 rfl rfl 0 (by decide) (hts (.fieldLink RX4 9 "BlockLog$Rows" "disk" "LBlockLog$Disk;") (by decide +kernel)) (fun _ h9 => h9) rfl dX4_drawMended_41 ?_
      refine va_getN (D := (dC, dI)) (ci := 3) (v := .ref (c 7)) (C := RX1) (T := TX1) (N := 7) hx hb hts hin_X1 hown hK hP 2 rfl rfl 1 (by decide) (va_Nw.use rfl (hGW.1 ("BlockLog$Rows", 36, "BlockLog$Disk", "low", "[B", "BlockLog") (by decide +kernel))) (fun _ h9 => h9) rfl dX4_drawMended_44 ?_
      refine lv_aload_n hx hb dX4_drawMended_47 rfl (lv_at hl 0 rfl) ?_
      refine lv_iload_n hx hb dX4_drawMended_48 rfl (lv_at hl 1 rfl) ?_
      refine vp_callSi (va_Run.run (va_runV (As := [.int p0]) (rest := [.ref (c 7), .ref (c 14)]) ⟨hx, hb, hml, hown, hts⟩ (v_X4_place l dC dI c kc st lg (rU ai 14 f_3) al R p0 (show 0 ≤ (st 15).toInt by omega) (show (st 15).toInt ≤ 1 by omega) (by omega) (by omega)) (cwV 1 hts gX4_drawMended_X4_place rfl rfl rfl (by decide +kernel) ⟨Nat.le_of_ble_eq_true rfl, Nat.le_of_ble_eq_true rfl⟩) ⟨fun a U g mk q => by obtain ⟨q0, qP, qK⟩ := q; exact ⟨q0, qP, va_K.moved (u := U) (U := U.calling g mk a) (Vm.Alike.refl U.vm) qK⟩, va_recv hK hP (ci := 6) (q := (RX4, TX4, 6)) rfl (q0 := 4) rfl, fun U hU hW => ⟨rfl, by rw [hU]; exact hP, va_K.moved hW.alike hK⟩⟩ rfl rfl hl.1 rfl (lv_room (Nat.le_of_ble_eq_true rfl)) dX4_drawMended_49 ⟨Nat.le_of_ble_eq_true rfl, Nat.le_of_ble_eq_true rfl⟩)) (fun r_4 er_4 => ?_)
      have k_5 := er_4
      have k_5 : r_4.toInt = 32 + 4096 * (st 15).toInt + 32 * p0.toInt := k_5
      refine lv_bipush (v := 23) hx hb dX4_drawMended_52 (by decide) ?_
      refine vp_callSi (va_Run.run (va_runS (As := [.ref (c 14), .ref (c 7), .int r_4, .int (23 : Int32)]) (rest := []) ⟨hx, hb, hml, hown, hts⟩ (v_X0_mends l dC dI (cw_W c kc st lg (rU ai 14 f_3) al R) (cw_T kc) (c 14) 32 (kc 14) f_3 14 6 (c 7) 8224 (kc 7) (ai 7) 12 4 r_4 (23 : Int32) rfl rfl rfl rfl (by omega) (by omega) (by omega) (by omega) (by omega) (by omega) (by omega)) (va_cwS 4 hts gX4_drawMended_X0_mends rfl rfl rfl (by decide +kernel) ⟨Nat.le_of_ble_eq_true rfl, Nat.le_of_ble_eq_true rfl⟩) ⟨fun a U g mk q => by obtain ⟨q0, qP, qK⟩ := q; exact ⟨q0, qP, va_K.moved (u := U) (U := U.calling g mk a) (Vm.Alike.refl U.vm) qK⟩, fun U hU hW => ⟨rfl, by rw [hU]; exact hP, va_K.moved hW.alike hK⟩⟩ rfl rfl hl.1 rfl (lv_room (Nat.le_of_ble_eq_true rfl)) dX4_drawMended_54 ⟨Nat.le_of_ble_eq_true rfl, Nat.le_of_ble_eq_true rfl⟩)) (fun r_6 er_6 => ?_)
      obtain ⟨k_7, k_8⟩ := er_6
      rcases iv_01 (a := r_6) (by omega) (by omega) with b_9 | b_9
      · skip
        have ib_9 := iv_eq b_9
        rw [b_9]
        exact W.zret hx hb hr rfl (fun t ht hW => ⟨⟨_, _, rfl, rfl, f_3, (by omega), (by omega), by rw [ht]; exact hP⟩, hS.F ht⟩) hS.2.2 dX4_drawMended_57
      · skip
        have ib_9 := iv_eq b_9
        rw [b_9]
        exact W.zret hx hb hr rfl (fun t ht hW => ⟨⟨_, _, rfl, rfl, f_3, (by omega), (by omega), by rw [ht]; exact hP⟩, hS.F ht⟩) hS.2.2 dX4_drawMended_57
    · skip
      have ic_1 := iv_ne c_1
      refine lv_iconst (v := 0) hx hb dX4_drawMended_9 (by decide) ?_
      exact W.zret hx hb hr rfl (fun t ht hW => ⟨⟨_, _, rfl, rfl, ai 14, (by omega), (by omega), by rw [ht]; exact hP⟩, hS.F ht⟩) hS.2.2 dX4_drawMended_10
  exact main s.heap [] hP hS

set_option maxHeartbeats 4000000 in
set_option maxRecDepth 100000 in
theorem v_X4_rewrite (l : Launch) (dC : Nat → ClassId) (dI : Nat → Nat → Nat) (c : Nat → Nat) (kc : Nat → ClassId) (st : Nat → Int32) (lg : Nat → Int64) (ai : Nat → Nat → Int32) (al : Nat → Nat → Int64) (R : va_W) (p0 : Int32) (sz : Nat) (hf9a : 0 ≤ (st 9).toInt) (hf9b : (st 9).toInt ≤ 1) (hf15a : 0 ≤ (st 15).toInt) (hf15b : (st 15).toInt ≤ 1) (hf17a : 0 ≤ (st 17).toInt) (hf17b : (st 17).toInt ≤ 128) (hq0 : 0 ≤ p0.toInt) (hq1 : p0.toInt ≤ 127) (hR7 : aR (ai 7) 8224 (-128) 127) : Met l yX4_rewrite wsX4_rewrite ({ frames := 6, cells := 0, slots := 0, locals := 142 }) (va_Pc [.ref (c 104), .int p0] (fun U => U.heap.size = sz ∧ va_P (dC, dI) vwCl (cw_W c kc st lg ai al R) U.heap ∧ va_K (dC, dI) vwCl (cw_T kc) U ∧ va_D (fun _ => True) (cw_W c kc st lg ai al R) ∧ gx_E (va_A (cw_W c kc st lg ai al R) sz) U)) (va_Qi (fun r (u : Int32) => r = u) (fun u t => ∃ (x9 : Int32) (x10 : Int32) (x11 : Int32) (x17 : Int32) (x18 : Int32) (f7 : Nat → Int32) (f8 : Nat → Int32), (0 ≤ u.toInt) ∧ (u.toInt ≤ 1) ∧ (0 ≤ x9.toInt) ∧ (x9.toInt ≤ 1) ∧ (0 ≤ x17.toInt) ∧ (x17.toInt ≤ 128) ∧ (aR f7 8224 (-128) 127) ∧ va_P (dC, dI) vwCl (cw_W c kc (rU (rU (rU (rU (rU st 9 x9) 10 x10) 11 x11) 17 x17) 18 x18) lg (rU (rU ai 7 f7) 8 f8) al R) t.heap) (va_A (cw_W c kc st lg ai al R) sz)) 0 0 (va_A (cw_W c kc st lg ai al R) sz) := by
  refine Met.ofW (cc := cX4_rewrite) (maxL := 2) (ret := (some .boolean)) (by decide) rfl ?_
  intro p e s m args below meth cM s₁ B hml hv
  obtain ⟨rfl, hsz, hP, hK, hD0, hG⟩ := hv
  have hx := B.exec
  have hb := B.bytes
  have hr := B.returns
  have hts := atoms_spec (ws := wsX4_rewrite) B.pre
  have hown : s.vm.findClass RX4 = some m.cls := findClass_of_methodNamed B.named
  have hGW := hG.1
  subst hsz
  have hD := hD0.self (sz := s.heap.size)
  generalize hAe : va_A (cw_W c kc st lg ai al R) s.heap.size = A at hD hG ⊢
  have hA : ∀ q : Nat, s.heap.size ≤ q → A q := fun q h => by rw [← hAe]; exact Or.inr h
  have hS : va_S A s.heap s.heap [] := va_S.rf
  clear hAe hD0
  have hl := lv_entry ([.ref (c 104), .int p0]) (n := 2) (Nat.le_of_ble_eq_true rfl)
  rw [lg_entry_eq]
  generalize (lg_sl ([.ref (c 104), .int p0]) ++ List.replicate (2 - (lg_sl ([.ref (c 104), .int p0])).length) Slot.unset).toArray = ls at hl ⊢
  have hl : lv_has ls 2 [(0, .ref (c 104)), (1, .int p0)] := hl
  have z_0 : (0 : Int32).toInt = 0 := by decide
  have z_1 : (1 : Int32).toInt = 1 := by decide
  have hin_X4 : ∀ w ∈ u_ws RX4 TX4 6, w ∈ wsX4_rewrite := by decide +kernel
  have main : ∀ (H : Heap) (locs : List Loc), va_P (dC, dI) vwCl (cw_W c kc st lg ai al R) H → va_S A s.heap H locs → W p l e (headSpec wsX4_rewrite ({ frames := 6, cells := 0, slots := 0, locals := 142 })).room s m ([.ref (c 104), .int p0] : List Value).toArray below meth cM H locs 0 0 (MQ below (va_Qi (fun r (u : Int32) => r = u) (fun u t => ∃ (x9 : Int32) (x10 : Int32) (x11 : Int32) (x17 : Int32) (x18 : Int32) (f7 : Nat → Int32) (f8 : Nat → Int32), (0 ≤ u.toInt) ∧ (u.toInt ≤ 1) ∧ (0 ≤ x9.toInt) ∧ (x9.toInt ≤ 1) ∧ (0 ≤ x17.toInt) ∧ (x17.toInt ≤ 128) ∧ (aR f7 8224 (-128) 127) ∧ va_P (dC, dI) vwCl (cw_W c kc (rU (rU (rU (rU (rU st 9 x9) 10 x10) 11 x11) 17 x17) 18 x18) lg (rU (rU ai 7 f7) 8 f8) al R) t.heap) A) ([.ref (c 104), .int p0] : List Value).toArray s 0 0 A) (F0 m 0 ls []) := by
    intro H locs hP hS
    refine lv_aload_n hx hb dX4_rewrite_0 rfl (lv_at hl 0 rfl) ?_
    refine lv_aload_n hx hb dX4_rewrite_1 rfl (lv_at hl 0 rfl) ?_
    refine va_get (D := (dC, dI)) (ci := 6) (v := .int (st 15)) (C := RX4) (T := TX4) (N := 6) hx hb hts hin_X4 hown hK hP 4 rfl rfl 2 (by decide) (hts (.fieldLink RX4 19 "BlockLog$Rows" "area" "I") (by decide +kernel)) (fun _ h9 => h9) rfl dX4_rewrite_2 ?_
    refine lv_iload_n hx hb dX4_rewrite_5 rfl (lv_at hl 1 rfl) ?_
    have hFc := vfree ((cw_D hD : va_D A (cw_W c kc st lg ai al R)) : va_D A (cw_W c kc st lg ai al R)) hS hA
    refine va_calli (va_runV (As := [.int (st 15), .int p0]) (rest := []) ⟨hx, hb, hml, hown, hts⟩ (v_X4_writeImage l dC dI c kc st lg ai al R (st 15) p0 _ (show 0 ≤ (st 9).toInt by omega) (show (st 9).toInt ≤ 1 by omega) (by omega) (by omega) (by omega) (by omega) (show aR (ai 7) 8224 (-128) 127 from hR7)) (cwV 2 hts gX4_rewrite_X4_writeImage rfl rfl rfl (by decide +kernel) ⟨Nat.le_of_ble_eq_true rfl, Nat.le_of_ble_eq_true rfl⟩) ⟨fun a U g mk q => by obtain ⟨q0, q1, qP, qK, qD⟩ := q; exact ⟨q0, q1, qP, va_K.moved (u := U) (U := U.calling g mk a) (Vm.Alike.refl U.vm) qK, qD⟩, va_recv hK hP (ci := 6) (q := (RX4, TX4, 6)) rfl (q0 := 4) rfl, fun U hU hW => ⟨rfl, by rw [hU], by rw [hU]; exact hP, va_K.moved hW.alike hK, ((cw_D hD : va_D A (cw_W c kc st lg ai al R))).weaken (fun _ _ _ _ => trivial)⟩⟩ rfl rfl hl.1 rfl (lv_room (Nat.le_of_ble_eq_true rfl)) dX4_rewrite_6 ⟨Nat.le_of_ble_eq_true rfl, Nat.le_of_ble_eq_true rfl⟩) hS (fun q _ h => hFc q h) hFc (fun r_1 ur_1 t H1 locs ht hvm er_1 hB hz1 hk1 hS => ?_)
    subst er_1
    obtain ⟨x9_1, x10_1, x11_1, f7_1, f8_1, k_2, k_3, k_4, k_5, hR7, hP1⟩ := hB
    rw [ht] at hP1
    clear hFc hz1 hk1 hvm hP
    subst ht
    have hP := hP1
    clear hP1
    generalize t.heap = H at hP hS ⊢
    have hP : va_P (dC, dI) vwCl (cw_W c kc (rU (rU (rU st 9 x9_1) 10 x10_1) 11 x11_1) lg (rU (rU ai 7 f7_1) 8 f8_1) al R) H := hP
    have k_4 : 0 ≤ x9_1.toInt := k_4
    have k_5 : x9_1.toInt ≤ 1 := k_5
    have hR7 : aR f7_1 8224 (-128) 127 := hR7
    rcases iv_01 (a := r_1) (by omega) (by omega) with b_6 | b_6
    · skip
      have ib_6 := iv_eq b_6
      rw [b_6]
      refine lv_if_ne (tgt := 14) hx hb dX4_rewrite_9 (by decide) (fun c_7 => ?_) (fun c_7 => ?_)
      · skip
        have ic_7 := iv_ne c_7
        exfalso
        omega
      · skip
        have ic_7 := iv_eq c_7
        refine lv_iconst (v := 0) hx hb dX4_rewrite_12 (by decide) ?_
        exact W.zret hx hb hr rfl (fun t ht hW => ⟨⟨_, _, rfl, rfl, x9_1, x10_1, x11_1, st 17, st 18, f7_1, f8_1, (by omega), (by omega), (by omega), (by omega), (by omega), (by omega), hR7, by rw [ht]; exact hP⟩, hS.F ht⟩) hS.2.2 dX4_rewrite_13
    · skip
      have ib_6 := iv_eq b_6
      rw [b_6]
      refine lv_if_ne (tgt := 14) hx hb dX4_rewrite_9 (by decide) (fun c_8 => ?_) (fun c_8 => ?_)
      · skip
        have ic_8 := iv_ne c_8
        refine lv_aload_n hx hb dX4_rewrite_14 rfl (lv_at hl 0 rfl) ?_
        refine lv_aload_n hx hb dX4_rewrite_15 rfl (lv_at hl 0 rfl) ?_
        have hFc := vfree ((cw_D hD : va_D A (cw_W c kc (rU (rU (rU st 9 x9_1) 10 x10_1) 11 x11_1) lg (rU (rU ai 7 f7_1) 8 f8_1) al R)) : va_D A (cw_W c kc (rU (rU (rU st 9 x9_1) 10 x10_1) 11 x11_1) lg (rU (rU ai 7 f7_1) 8 f8_1) al R)) hS hA
        refine va_calli (va_runV (As := []) (rest := [.ref (c 104)]) ⟨hx, hb, hml, hown, hts⟩ (v_X4_countBad l dC dI c kc (rU (rU (rU st 9 x9_1) 10 x10_1) 11 x11_1) lg (rU (rU ai 7 f7_1) 8 f8_1) al R  _ (show 0 ≤ (st 15).toInt by omega) (show (st 15).toInt ≤ 1 by omega) (show 0 ≤ (st 17).toInt by omega) (show (st 17).toInt ≤ 128 by omega)) (cwV 0 hts gX4_rewrite_X4_countBad rfl rfl rfl (by decide +kernel) ⟨Nat.le_of_ble_eq_true rfl, Nat.le_of_ble_eq_true rfl⟩) ⟨fun a U g mk q => by obtain ⟨q0, q1, qP, qK, qD⟩ := q; exact ⟨q0, q1, qP, va_K.moved (u := U) (U := U.calling g mk a) (Vm.Alike.refl U.vm) qK, qD⟩, va_recv hK hP (ci := 6) (q := (RX4, TX4, 6)) rfl (q0 := 4) rfl, fun U hU hW => ⟨rfl, by rw [hU], by rw [hU]; exact hP, va_K.moved hW.alike hK, ((cw_D hD : va_D A (cw_W c kc (rU (rU (rU st 9 x9_1) 10 x10_1) 11 x11_1) lg (rU (rU ai 7 f7_1) 8 f8_1) al R))).weaken (fun _ _ _ _ => trivial)⟩⟩ rfl rfl hl.1 rfl (lv_room (Nat.le_of_ble_eq_true rfl)) dX4_rewrite_16 ⟨Nat.le_of_ble_eq_true rfl, Nat.le_of_ble_eq_true rfl⟩) hS (fun q _ h => hFc q h) hFc (fun r_9 ur_9 t H1 locs ht hvm er_9 hB hz1 hk1 hS => ?_)
        subst er_9
        obtain ⟨f8_9, hP1⟩ := hB
        rw [ht] at hP1
        clear hFc hz1 hk1 hvm hP
        subst ht
        have hP := hP1
        clear hP1
        generalize t.heap = H at hP hS ⊢
        have hP : va_P (dC, dI) vwCl (cw_W c kc (rU (rU (rU st 9 x9_1) 10 x10_1) 11 x11_1) lg (rU (rU ai 7 f7_1) 8 f8_9) al R) H := hP
        refine va_put (D := (dC, dI)) (ci := 6) (v := .int r_9) (ty := .int) (C := RX4) (T := TX4) (N := 6) hx hb hts hin_X4 tyX4 tyX4_ok nmX4 hown hK hP (cw_D hD) hS 4 rfl rfl 5 (by decide) (hts (.fieldLink RX4 29 "BlockLog$Rows" "bad" "I") (by decide +kernel)) (fun _ h9 => h9) rfl (by decide +kernel) rfl rfl (Nat.le_of_ble_eq_true rfl) dX4_rewrite_19 (fun H locs hP _ hS => ?_)
        have hP : va_P (dC, dI) vwCl (cw_W c kc (rU (rU (rU (rU st 9 x9_1) 10 x10_1) 11 x11_1) 18 r_9) lg (rU (rU ai 7 f7_1) 8 f8_9) al R) H := hP
        refine lv_aload_n hx hb dX4_rewrite_22 rfl (lv_at hl 0 rfl) ?_
        refine vp_callSi (va_Run.run (va_runV (As := []) (rest := []) ⟨hx, hb, hml, hown, hts⟩ (v_X4_inNeed l dC dI c kc (rU (rU (rU (rU st 9 x9_1) 10 x10_1) 11 x11_1) 18 r_9) lg (rU (rU ai 7 f7_1) 8 f8_9) al R  ) (cwV 0 hts gX4_rewrite_X4_inNeed rfl rfl rfl (by decide +kernel) ⟨Nat.le_of_ble_eq_true rfl, Nat.le_of_ble_eq_true rfl⟩) ⟨fun a U g mk q => by obtain ⟨q0, qP, qK⟩ := q; exact ⟨q0, qP, va_K.moved (u := U) (U := U.calling g mk a) (Vm.Alike.refl U.vm) qK⟩, va_recv hK hP (ci := 6) (q := (RX4, TX4, 6)) rfl (q0 := 4) rfl, fun U hU hW => ⟨rfl, by rw [hU]; exact hP, va_K.moved hW.alike hK⟩⟩ rfl rfl hl.1 rfl (lv_room (Nat.le_of_ble_eq_true rfl)) dX4_rewrite_23 ⟨Nat.le_of_ble_eq_true rfl, Nat.le_of_ble_eq_true rfl⟩)) (fun r_10 er_10 => ?_)
        obtain ⟨k_11, k_12⟩ := er_10
        rcases iv_01 (a := r_10) (by omega) (by omega) with b_13 | b_13
        · skip
          have ib_13 := iv_eq b_13
          rw [b_13]
          refine lv_if_ne (tgt := 36) hx hb dX4_rewrite_26 (by decide) (fun c_14 => ?_) (fun c_14 => ?_)
          · skip
            have ic_14 := iv_ne c_14
            exfalso
            omega
          · skip
            have ic_14 := iv_eq c_14
            refine lv_aload_n hx hb dX4_rewrite_29 rfl (lv_at hl 0 rfl) ?_
            have hFc := vfree ((cw_D hD : va_D A (cw_W c kc (rU (rU (rU (rU st 9 x9_1) 10 x10_1) 11 x11_1) 18 r_9) lg (rU (rU ai 7 f7_1) 8 f8_9) al R)) : va_D A (cw_W c kc (rU (rU (rU (rU st 9 x9_1) 10 x10_1) 11 x11_1) 18 r_9) lg (rU (rU ai 7 f7_1) 8 f8_9) al R)) hS hA
            refine va_calli (va_runV (As := []) (rest := []) ⟨hx, hb, hml, hown, hts⟩ (v_X4_dropLacking l dC dI c kc (rU (rU (rU (rU st 9 x9_1) 10 x10_1) 11 x11_1) 18 r_9) lg (rU (rU ai 7 f7_1) 8 f8_9) al R  _ (show 0 ≤ x9_1.toInt by omega) (show x9_1.toInt ≤ 1 by omega) (show 0 ≤ (st 15).toInt by omega) (show (st 15).toInt ≤ 1 by omega) (show 0 ≤ (st 17).toInt by omega) (show (st 17).toInt ≤ 128 by omega) (show aR f7_1 8224 (-128) 127 from hR7)) (cwV 0 hts gX4_rewrite_X4_dropLacking rfl rfl rfl (by decide +kernel) ⟨Nat.le_of_ble_eq_true rfl, Nat.le_of_ble_eq_true rfl⟩) ⟨fun a U g mk q => by obtain ⟨q0, q1, qP, qK, qD, qG⟩ := q; exact ⟨q0, q1, qP, va_K.moved (u := U) (U := U.calling g mk a) (Vm.Alike.refl U.vm) qK, qD, qG.same rfl rfl⟩, va_recv hK hP (ci := 6) (q := (RX4, TX4, 6)) rfl (q0 := 4) rfl, fun U hU hW => ⟨rfl, by rw [hU], by rw [hU]; exact hP, va_K.moved hW.alike hK, ((cw_D hD : va_D A (cw_W c kc (rU (rU (rU (rU st 9 x9_1) 10 x10_1) 11 x11_1) 18 r_9) lg (rU (rU ai 7 f7_1) 8 f8_9) al R))).weaken (fun _ _ _ _ => trivial), hG.go hW hU hS hFc⟩⟩ rfl rfl hl.1 rfl (lv_room (Nat.le_of_ble_eq_true rfl)) dX4_rewrite_30 ⟨Nat.le_of_ble_eq_true rfl, Nat.le_of_ble_eq_true rfl⟩) hS (fun q _ h => hFc q h) hFc (fun r_15 ur_15 t H1 locs ht hvm er_15 hB hz1 hk1 hS => ?_)
            subst er_15
            obtain ⟨x9_15, x10_15, x11_15, x17_15, f7_15, f8_15, k_16, k_17, k_18, k_19, k_20, k_21, hR7, hP1⟩ := hB
            rw [ht] at hP1
            clear hFc hz1 hk1 hvm hP
            subst ht
            have hP := hP1
            clear hP1
            generalize t.heap = H at hP hS ⊢
            have hP : va_P (dC, dI) vwCl (cw_W c kc (rU (rU (rU (rU (rU st 9 x9_15) 10 x10_15) 11 x11_15) 17 x17_15) 18 r_9) lg (rU (rU ai 7 f7_15) 8 f8_15) al R) H := hP
            have k_18 : 0 ≤ x9_15.toInt := k_18
            have k_19 : x9_15.toInt ≤ 1 := k_19
            have k_20 : 0 ≤ x17_15.toInt := k_20
            have k_21 : x17_15.toInt ≤ 128 := k_21
            have hR7 : aR f7_15 8224 (-128) 127 := hR7
            rcases iv_01 (a := r_15) (by omega) (by omega) with b_22 | b_22
            · skip
              have ib_22 := iv_eq b_22
              rw [b_22]
              refine lv_if_eq (tgt := 40) hx hb dX4_rewrite_33 (by decide) (fun c_23 => ?_) (fun c_23 => ?_)
              · skip
                have ic_23 := iv_eq c_23
                refine lv_iconst (v := 0) hx hb dX4_rewrite_40 (by decide) ?_
                exact W.zret hx hb hr rfl (fun t ht hW => ⟨⟨_, _, rfl, rfl, x9_15, x10_15, x11_15, x17_15, r_9, f7_15, f8_15, (by omega), (by omega), (by omega), (by omega), (by omega), (by omega), hR7, by rw [ht]; exact hP⟩, hS.F ht⟩) hS.2.2 dX4_rewrite_41
              · skip
                have ic_23 := iv_ne c_23
                exfalso
                omega
            · skip
              have ib_22 := iv_eq b_22
              rw [b_22]
              refine lv_if_eq (tgt := 40) hx hb dX4_rewrite_33 (by decide) (fun c_24 => ?_) (fun c_24 => ?_)
              · skip
                have ic_24 := iv_eq c_24
                exfalso
                omega
              · skip
                have ic_24 := iv_ne c_24
                refine lv_iconst (v := 1) hx hb dX4_rewrite_36 (by decide) ?_
                refine lv_goto (tgt := 41) hx hb dX4_rewrite_37 (by decide) ?_
                exact W.zret hx hb hr rfl (fun t ht hW => ⟨⟨_, _, rfl, rfl, x9_15, x10_15, x11_15, x17_15, r_9, f7_15, f8_15, (by omega), (by omega), (by omega), (by omega), (by omega), (by omega), hR7, by rw [ht]; exact hP⟩, hS.F ht⟩) hS.2.2 dX4_rewrite_41
        · skip
          have ib_13 := iv_eq b_13
          rw [b_13]
          refine lv_if_ne (tgt := 36) hx hb dX4_rewrite_26 (by decide) (fun c_25 => ?_) (fun c_25 => ?_)
          · skip
            have ic_25 := iv_ne c_25
            refine lv_iconst (v := 1) hx hb dX4_rewrite_36 (by decide) ?_
            refine lv_goto (tgt := 41) hx hb dX4_rewrite_37 (by decide) ?_
            exact W.zret hx hb hr rfl (fun t ht hW => ⟨⟨_, _, rfl, rfl, x9_1, x10_1, x11_1, st 17, r_9, f7_1, f8_9, (by omega), (by omega), (by omega), (by omega), (by omega), (by omega), hR7, by rw [ht]; exact hP⟩, hS.F ht⟩) hS.2.2 dX4_rewrite_41
          · skip
            have ic_25 := iv_eq c_25
            exfalso
            omega
      · skip
        have ic_8 := iv_eq c_8
        exfalso
        omega
  exact main s.heap [] hP hS
