set_option maxHeartbeats 4000000 in
set_option maxRecDepth 100000 in
theorem v_X9_change (l : Launch) (dC : Nat → ClassId) (dI : Nat → Nat → Nat) (o : Nat) (c : Nat → Nat) (kc : Nat → ClassId) (st : Nat → Int32) (lg : Nat → Int64) (ai : Nat → Nat → Int32) (al : Nat → Nat → Int64) (p0 : Int32) (p1 : Int32) (sz : Nat) (hf1a : 1 ≤ (st 1).toInt) (hf1b : (st 1).toInt ≤ 65536) (hf3a : 0 ≤ (st 3).toInt) (hf3b : (st 3).toInt ≤ 1) (hf12a : 0 ≤ (st 12).toInt) (hf12b : (st 12).toInt ≤ 8) : Met l yX9_change wsX9_change ({ frames := 5, cells := 0, slots := 0, locals := 114 }) (va_Pc [.ref o, .int p0, .int p1] (fun U => U.heap.size = sz ∧ va_P (dC, dI) vwCl (rw_W o c kc st lg ai al) U.heap ∧ va_K (dC, dI) vwCl (rw_T kc) U ∧ va_D (fun _ => True) (rw_W o c kc st lg ai al))) (va_Qi (fun r (u : Int32) => r = u) (fun u t => ∃ (x12 : Int32) (x13 : Int32) (f10 : Nat → Int32) (g11 : Nat → Int64), (0 ≤ x12.toInt) ∧ (x12.toInt ≤ 8) ∧ va_P (dC, dI) vwCl (rw_W o c kc (rU (rU st 12 x12) 13 x13) lg (rU ai 10 f10) (rU al 11 g11)) t.heap) (va_A (rw_W o c kc st lg ai al) sz)) 0 0 (va_A (rw_W o c kc st lg ai al) sz) := by
  refine Met.ofW (cc := cX9_change) (maxL := 3) (ret := (some .int)) (by decide) rfl ?_
  intro p e s m args below meth cM s₁ B hml hv
  obtain ⟨rfl, hsz, hP, hK, hD0⟩ := hv
  have hx := B.exec
  have hb := B.bytes
  have hr := B.returns
  have hts := atoms_spec (ws := wsX9_change) B.pre
  have hown : s.vm.findClass RX9 = some m.cls := findClass_of_methodNamed B.named
  subst hsz
  have hD := hD0.self (sz := s.heap.size)
  generalize hAe : va_A (rw_W o c kc st lg ai al) s.heap.size = A at hD ⊢
  have hA : ∀ q : Nat, s.heap.size ≤ q → A q := fun q h => by rw [← hAe]; exact Or.inr h
  have hS : va_S A s.heap s.heap [] := va_S.rf
  clear hAe hD0
  have hl := lv_entry ([.ref o, .int p0, .int p1]) (n := 3) (Nat.le_of_ble_eq_true rfl)
  rw [lg_entry_eq]
  generalize (lg_sl ([.ref o, .int p0, .int p1]) ++ List.replicate (3 - (lg_sl ([.ref o, .int p0, .int p1])).length) Slot.unset).toArray = ls at hl ⊢
  have hl : lv_has ls 3 [(0, .ref o), (1, .int p0), (2, .int p1)] := hl
  have z_m6 : (-6 : Int32).toInt = -6 := by decide
  have z_m2 : (-2 : Int32).toInt = -2 := by decide
  have z_m1 : (-1 : Int32).toInt = -1 := by decide
  have z_0 : (0 : Int32).toInt = 0 := by decide
  have z_1 : (1 : Int32).toInt = 1 := by decide
  have z_2 : (2 : Int32).toInt = 2 := by decide
  have z_8 : (8 : Int32).toInt = 8 := by decide
  have z_15 : (15 : Int32).toInt = 15 := by decide
  have hin9 : ∀ w ∈ u_ws RX9 TX9 38, w ∈ wsX9_change := by decide +kernel
  have main : ∀ (H : Heap) (locs : List Loc), va_P (dC, dI) vwCl (rw_W o c kc st lg ai al) H → va_S A s.heap H locs → W p l e (headSpec wsX9_change ({ frames := 5, cells := 0, slots := 0, locals := 114 })).room s m ([.ref o, .int p0, .int p1] : List Value).toArray below meth cM H locs 0 0 (MQ below (va_Qi (fun r (u : Int32) => r = u) (fun u t => ∃ (x12 : Int32) (x13 : Int32) (f10 : Nat → Int32) (g11 : Nat → Int64), (0 ≤ x12.toInt) ∧ (x12.toInt ≤ 8) ∧ va_P (dC, dI) vwCl (rw_W o c kc (rU (rU st 12 x12) 13 x13) lg (rU ai 10 f10) (rU al 11 g11)) t.heap) A) ([.ref o, .int p0, .int p1] : List Value).toArray s 0 0 A) (F0 m 0 ls []) := by
    intro H locs hP hS
    refine lv_aload_n hx hb dX9_change_0 rfl (lv_at hl 0 rfl) ?_
    refine lv_aload_n hx hb dX9_change_1 rfl (lv_at hl 0 rfl) ?_
    refine va_get (D := (dC, dI)) (ci := 11) (v := .int (st 3)) (C := RX9) (T := TX9) (N := 38) hx hb hts hin9 hown hK hP 0 rfl rfl 3 (by decide) (hts (.fieldLink RX9 72 "BlockLogModel" "on" "Z") (by decide +kernel)) (fun _ h9 => h9) rfl dX9_change_2 ?_
    refine lv_if_ne (tgt := 12) hx hb dX9_change_5 (by decide) (fun c_1 => ?_) (fun c_1 => ?_)
    · skip
      have ic_1 := iv_ne c_1
      refine lv_iload_n hx hb dX9_change_12 rfl (lv_at hl 1 rfl) ?_
      refine lv_iconst (v := 0) hx hb dX9_change_13 (by decide) ?_
      refine lv_bipush (v := 15) hx hb dX9_change_14 (by decide) ?_
      refine vp_callSi (va_Run.run (va_runS (As := [.int p0, .int (0 : Int32), .int (15 : Int32)]) (rest := [.ref o]) ⟨hx, hb, hml, hown, hts⟩ (v_X9_within l dC dI p0 (0 : Int32) (15 : Int32) ) (va_cwS 3 hts gX9_change_X9_within rfl rfl rfl (by decide +kernel) ⟨Nat.le_of_ble_eq_true rfl, Nat.le_of_ble_eq_true rfl⟩) ⟨fun a U g mk q => q, fun U hU hW => ⟨rfl, trivial⟩⟩ rfl rfl hl.1 rfl (lv_room (Nat.le_of_ble_eq_true rfl)) dX9_change_16 ⟨Nat.le_of_ble_eq_true rfl, Nat.le_of_ble_eq_true rfl⟩)) (fun r_2 er_2 => ?_)
      obtain ⟨k_3, k_4, k_5, k_6, k_7⟩ := er_2
      rcases iv_01 (a := r_2) (by omega) (by omega) with b_8 | b_8
      · skip
        have ib_8 := iv_eq b_8
        rw [b_8]
        refine lv_if_eq (tgt := 36) hx hb dX9_change_19 (by decide) (fun c_9 => ?_) (fun c_9 => ?_)
        · skip
          have ic_9 := iv_eq c_9
          refine lv_iconst (v := 2) hx hb dX9_change_36 (by decide) ?_
          refine lv_goto (tgt := 41) hx hb dX9_change_37 (by decide) ?_
          refine va_put (D := (dC, dI)) (ci := 11) (v := .int (2 : Int32)) (ty := .int) (C := RX9) (T := TX9) (N := 38) hx hb hts hin9 tyX9 tyX9_ok nmX9 hown hK hP (rw_D hD) hS 0 rfl rfl 13 (by decide) (hts (.fieldLink RX9 91 "BlockLogModel" "thrown" "I") (by decide +kernel)) (fun _ h9 => h9) rfl (by decide +kernel) rfl rfl (Nat.le_of_ble_eq_true rfl) dX9_change_41 (fun H locs hP _ hS => ?_)
          have hP : va_P (dC, dI) vwCl (rw_W o c kc (rU st 13 (2 : Int32)) lg ai al) H := hP
          refine lv_aload_n hx hb dX9_change_44 rfl (lv_at hl 0 rfl) ?_
          refine va_get (D := (dC, dI)) (ci := 11) (v := .int (2 : Int32)) (C := RX9) (T := TX9) (N := 38) hx hb hts hin9 hown hK hP 0 rfl rfl 13 (by decide) (hts (.fieldLink RX9 91 "BlockLogModel" "thrown" "I") (by decide +kernel)) (fun _ h9 => h9) rfl dX9_change_45 ?_
          refine lv_if_le (tgt := 53) hx hb dX9_change_48 (by decide) (fun c_10 => ?_) (fun c_10 => ?_)
          · skip
            have ic_10 := iv_le c_10
            exfalso
            omega
          · skip
            have ic_10 := iv_nle c_10
            refine lv_iconst (v := 0) hx hb dX9_change_51 (by decide) ?_
            exact W.iret hx hb hr (fun t ht hW => ⟨⟨_, _, rfl, rfl, st 12, (2 : Int32), ai 10, al 11, (by omega), (by omega), by rw [ht]; exact hP⟩, hS.F ht⟩) hS.2.2 dX9_change_52
        · skip
          have ic_9 := iv_ne c_9
          exfalso
          omega
      · skip
        have ib_8 := iv_eq b_8
        rw [b_8]
        refine lv_if_eq (tgt := 36) hx hb dX9_change_19 (by decide) (fun c_11 => ?_) (fun c_11 => ?_)
        · skip
          have ic_11 := iv_eq c_11
          exfalso
          omega
        · skip
          have ic_11 := iv_ne c_11
          refine lv_iload_n hx hb dX9_change_22 rfl (lv_at hl 2 rfl) ?_
          refine lv_iconst (v := (-1)) hx hb dX9_change_23 (by decide) ?_
          refine lv_aload_n hx hb dX9_change_24 rfl (lv_at hl 0 rfl) ?_
          refine va_get (D := (dC, dI)) (ci := 11) (v := .int (st 1)) (C := RX9) (T := TX9) (N := 38) hx hb hts hin9 hown hK hP 0 rfl rfl 1 (by decide) (hts (.fieldLink RX9 62 "BlockLogModel" "pages" "I") (by decide +kernel)) (fun _ h9 => h9) rfl dX9_change_25 ?_
          refine lv_iconst (v := 1) hx hb dX9_change_28 (by decide) ?_
          refine lv_isub hx hb dX9_change_29 ?_
          refine lv_topi (fun v_12 ev_12 => ?_)
          have rg1 := iv_rng (st 1)
          have hv_12 : v_12.toInt = (st 1).toInt - 1 := by rw [ev_12]; exact (iv_sub (by omega) (by omega)).trans (by omega)
          clear ev_12
          refine vp_callSi (va_Run.run (va_runS (As := [.int p1, .int (-1 : Int32), .int v_12]) (rest := [.ref o]) ⟨hx, hb, hml, hown, hts⟩ (v_X9_within l dC dI p1 (-1 : Int32) v_12 ) (va_cwS 3 hts gX9_change_X9_within rfl rfl rfl (by decide +kernel) ⟨Nat.le_of_ble_eq_true rfl, Nat.le_of_ble_eq_true rfl⟩) ⟨fun a U g mk q => q, fun U hU hW => ⟨rfl, trivial⟩⟩ rfl rfl hl.1 rfl (lv_room (Nat.le_of_ble_eq_true rfl)) dX9_change_30 ⟨Nat.le_of_ble_eq_true rfl, Nat.le_of_ble_eq_true rfl⟩)) (fun r_13 er_13 => ?_)
          obtain ⟨k_14, k_15, k_16, k_17, k_18⟩ := er_13
          rcases iv_01 (a := r_13) (by omega) (by omega) with b_19 | b_19
          · skip
            have ib_19 := iv_eq b_19
            rw [b_19]
            refine lv_if_ne (tgt := 40) hx hb dX9_change_33 (by decide) (fun c_20 => ?_) (fun c_20 => ?_)
            · skip
              have ic_20 := iv_ne c_20
              exfalso
              omega
            · skip
              have ic_20 := iv_eq c_20
              refine lv_iconst (v := 2) hx hb dX9_change_36 (by decide) ?_
              refine lv_goto (tgt := 41) hx hb dX9_change_37 (by decide) ?_
              refine va_put (D := (dC, dI)) (ci := 11) (v := .int (2 : Int32)) (ty := .int) (C := RX9) (T := TX9) (N := 38) hx hb hts hin9 tyX9 tyX9_ok nmX9 hown hK hP (rw_D hD) hS 0 rfl rfl 13 (by decide) (hts (.fieldLink RX9 91 "BlockLogModel" "thrown" "I") (by decide +kernel)) (fun _ h9 => h9) rfl (by decide +kernel) rfl rfl (Nat.le_of_ble_eq_true rfl) dX9_change_41 (fun H locs hP _ hS => ?_)
              have hP : va_P (dC, dI) vwCl (rw_W o c kc (rU st 13 (2 : Int32)) lg ai al) H := hP
              refine lv_aload_n hx hb dX9_change_44 rfl (lv_at hl 0 rfl) ?_
              refine va_get (D := (dC, dI)) (ci := 11) (v := .int (2 : Int32)) (C := RX9) (T := TX9) (N := 38) hx hb hts hin9 hown hK hP 0 rfl rfl 13 (by decide) (hts (.fieldLink RX9 91 "BlockLogModel" "thrown" "I") (by decide +kernel)) (fun _ h9 => h9) rfl dX9_change_45 ?_
              refine lv_if_le (tgt := 53) hx hb dX9_change_48 (by decide) (fun c_21 => ?_) (fun c_21 => ?_)
              · skip
                have ic_21 := iv_le c_21
                exfalso
                omega
              · skip
                have ic_21 := iv_nle c_21
                refine lv_iconst (v := 0) hx hb dX9_change_51 (by decide) ?_
                exact W.iret hx hb hr (fun t ht hW => ⟨⟨_, _, rfl, rfl, st 12, (2 : Int32), ai 10, al 11, (by omega), (by omega), by rw [ht]; exact hP⟩, hS.F ht⟩) hS.2.2 dX9_change_52
          · skip
            have ib_19 := iv_eq b_19
            rw [b_19]
            refine lv_if_ne (tgt := 40) hx hb dX9_change_33 (by decide) (fun c_22 => ?_) (fun c_22 => ?_)
            · skip
              have ic_22 := iv_ne c_22
              refine lv_iconst (v := 0) hx hb dX9_change_40 (by decide) ?_
              refine va_put (D := (dC, dI)) (ci := 11) (v := .int (0 : Int32)) (ty := .int) (C := RX9) (T := TX9) (N := 38) hx hb hts hin9 tyX9 tyX9_ok nmX9 hown hK hP (rw_D hD) hS 0 rfl rfl 13 (by decide) (hts (.fieldLink RX9 91 "BlockLogModel" "thrown" "I") (by decide +kernel)) (fun _ h9 => h9) rfl (by decide +kernel) rfl rfl (Nat.le_of_ble_eq_true rfl) dX9_change_41 (fun H locs hP _ hS => ?_)
              have hP : va_P (dC, dI) vwCl (rw_W o c kc (rU st 13 (0 : Int32)) lg ai al) H := hP
              refine lv_aload_n hx hb dX9_change_44 rfl (lv_at hl 0 rfl) ?_
              refine va_get (D := (dC, dI)) (ci := 11) (v := .int (0 : Int32)) (C := RX9) (T := TX9) (N := 38) hx hb hts hin9 hown hK hP 0 rfl rfl 13 (by decide) (hts (.fieldLink RX9 91 "BlockLogModel" "thrown" "I") (by decide +kernel)) (fun _ h9 => h9) rfl dX9_change_45 ?_
              refine lv_if_le (tgt := 53) hx hb dX9_change_48 (by decide) (fun c_23 => ?_) (fun c_23 => ?_)
              · skip
                have ic_23 := iv_le c_23
                refine lv_iload_n hx hb dX9_change_53 rfl (lv_at hl 2 rfl) ?_
                refine lv_iconst (v := (-1)) hx hb dX9_change_54 (by decide) ?_
                refine lv_icmp_eq (tgt := 70) hx hb dX9_change_55 (by decide) (fun c_24 => ?_) (fun c_24 => ?_)
                · skip
                  have ic_24 := iv_eq c_24
                  refine lv_aload_n hx hb dX9_change_70 rfl (lv_at hl 0 rfl) ?_
                  refine va_get (D := (dC, dI)) (ci := 11) (v := .int (st 12)) (C := RX9) (T := TX9) (N := 38) hx hb hts hin9 hown hK hP 0 rfl rfl 12 (by decide) (hts (.fieldLink RX9 111 "BlockLogModel" "collected" "I") (by decide +kernel)) (fun _ h9 => h9) rfl dX9_change_71 ?_
                  refine lv_bipush (v := 8) hx hb dX9_change_74 (by decide) ?_
                  refine lv_icmp_ne (tgt := 82) hx hb dX9_change_76 (by decide) (fun c_25 => ?_) (fun c_25 => ?_)
                  · skip
                    have ic_25 := iv_ne c_25
                    refine lv_aload_n hx hb dX9_change_82 rfl (lv_at hl 0 rfl) ?_
                    refine va_get (D := (dC, dI)) (ci := 11) (v := .ref (c 10)) (C := RX9) (T := TX9) (N := 38) hx hb hts hin9 hown hK hP 0 rfl rfl 10 (by decide) (hts (.fieldLink RX9 17 "BlockLogModel" "slots" "[I") (by decide +kernel)) (fun _ h9 => h9) rfl dX9_change_83 ?_
                    refine lv_aload_n hx hb dX9_change_86 rfl (lv_at hl 0 rfl) ?_
                    refine va_get (D := (dC, dI)) (ci := 11) (v := .int (st 12)) (C := RX9) (T := TX9) (N := 38) hx hb hts hin9 hown hK hP 0 rfl rfl 12 (by decide) (hts (.fieldLink RX9 111 "BlockLogModel" "collected" "I") (by decide +kernel)) (fun _ h9 => h9) rfl dX9_change_87 ?_
                    refine lv_iload_n hx hb dX9_change_90 rfl (lv_at hl 1 rfl) ?_
                    refine va_iast (f := ai 10) hx hb hK hP (rw_D hD) hS 3 2 rfl rfl (iv_in (i := st 12) (by omega) (by omega)) dX9_change_91 (fun H locs hP _ hS => ?_)
                    have hP : va_P (dC, dI) vwCl (rw_W o c kc (rU st 13 (0 : Int32)) lg (rU ai 10 (upd (ai 10) (st 12).toNatClampNeg p0)) al) H := hP
                    generalize hU_slots : upd (ai 10) (st 12).toNatClampNeg p0 = g_26 at hP
                    clear hU_slots
                    refine lv_aload_n hx hb dX9_change_92 rfl (lv_at hl 0 rfl) ?_
                    refine va_get (D := (dC, dI)) (ci := 11) (v := .ref (c 11)) (C := RX9) (T := TX9) (N := 38) hx hb hts hin9 hown hK hP 0 rfl rfl 11 (by decide) (hts (.fieldLink RX9 20 "BlockLogModel" "leaves" "[J") (by decide +kernel)) (fun _ h9 => h9) rfl dX9_change_93 ?_
                    refine lv_aload_n hx hb dX9_change_96 rfl (lv_at hl 0 rfl) ?_
                    refine va_get (D := (dC, dI)) (ci := 11) (v := .int (st 12)) (C := RX9) (T := TX9) (N := 38) hx hb hts hin9 hown hK hP 0 rfl rfl 12 (by decide) (hts (.fieldLink RX9 111 "BlockLogModel" "collected" "I") (by decide +kernel)) (fun _ h9 => h9) rfl dX9_change_97 ?_
                    refine lv_iload_n hx hb dX9_change_100 rfl (lv_at hl 2 rfl) ?_
                    refine lv_iconst (v := (-1)) hx hb dX9_change_101 (by decide) ?_
                    refine lv_icmp_ne (tgt := 109) hx hb dX9_change_102 (by decide) (fun c_27 => ?_) (fun c_27 => ?_)
                    · skip
                      have ic_27 := iv_ne c_27
                      exfalso
                      omega
                    · skip
                      have ic_27 := iv_eq c_27
                      refine lv_lconst (v := 0) hx hb dX9_change_105 (by decide) ?_
                      refine lv_goto (tgt := 114) hx hb dX9_change_106 (by decide) ?_
                      refine va_last (f := al 11) hx hb hK hP (rw_D hD) hS 4 3 rfl rfl (iv_in (i := st 12) (by omega) (by omega)) dX9_change_114 (fun H locs hP _ hS => ?_)
                      have hP : va_P (dC, dI) vwCl (rw_W o c kc (rU st 13 (0 : Int32)) lg (rU ai 10 g_26) (rU al 11 (vp_updL (al 11) (st 12).toNatClampNeg (0 : Int64)))) H := hP
                      generalize hU_leaves : vp_updL (al 11) (st 12).toNatClampNeg (0 : Int64) = g_28 at hP
                      clear hU_leaves
                      refine lv_aload_n hx hb dX9_change_115 rfl (lv_at hl 0 rfl) ?_
                      refine lv_dup hx hb dX9_change_116 rfl ?_
                      refine va_get (D := (dC, dI)) (ci := 11) (v := .int (st 12)) (C := RX9) (T := TX9) (N := 38) hx hb hts hin9 hown hK hP 0 rfl rfl 12 (by decide) (hts (.fieldLink RX9 111 "BlockLogModel" "collected" "I") (by decide +kernel)) (fun _ h9 => h9) rfl dX9_change_117 ?_
                      refine lv_iconst (v := 1) hx hb dX9_change_120 (by decide) ?_
                      refine lv_iadd hx hb dX9_change_121 ?_
                      refine lv_topi (fun v_29 ev_29 => ?_)
                      have rg2 := iv_rng (st 12)
                      have hv_29 : v_29.toInt = (st 12).toInt + 1 := by rw [ev_29]; exact (iv_add (by omega) (by omega)).trans (by omega)
                      clear ev_29
                      refine va_put (D := (dC, dI)) (ci := 11) (v := .int v_29) (ty := .int) (C := RX9) (T := TX9) (N := 38) hx hb hts hin9 tyX9 tyX9_ok nmX9 hown hK hP (rw_D hD) hS 0 rfl rfl 12 (by decide) (hts (.fieldLink RX9 111 "BlockLogModel" "collected" "I") (by decide +kernel)) (fun _ h9 => h9) rfl (by decide +kernel) rfl rfl (Nat.le_of_ble_eq_true rfl) dX9_change_122 (fun H locs hP _ hS => ?_)
                      have hP : va_P (dC, dI) vwCl (rw_W o c kc (rU (rU st 12 v_29) 13 (0 : Int32)) lg (rU ai 10 g_26) (rU al 11 g_28)) H := hP
                      refine lv_aload_n hx hb dX9_change_125 rfl (lv_at hl 0 rfl) ?_
                      refine va_get (D := (dC, dI)) (ci := 11) (v := .int v_29) (C := RX9) (T := TX9) (N := 38) hx hb hts hin9 hown hK hP 0 rfl rfl 12 (by decide) (hts (.fieldLink RX9 111 "BlockLogModel" "collected" "I") (by decide +kernel)) (fun _ h9 => h9) rfl dX9_change_126 ?_
                      exact W.iret hx hb hr (fun t ht hW => ⟨⟨_, _, rfl, rfl, v_29, (0 : Int32), g_26, g_28, (by omega), (by omega), by rw [ht]; exact hP⟩, hS.F ht⟩) hS.2.2 dX9_change_129
                  · skip
                    have ic_25 := iv_eq c_25
                    refine lv_bipush (v := (-2)) hx hb dX9_change_79 (by decide) ?_
                    exact W.iret hx hb hr (fun t ht hW => ⟨⟨_, _, rfl, rfl, st 12, (0 : Int32), ai 10, al 11, (by omega), (by omega), by rw [ht]; exact hP⟩, hS.F ht⟩) hS.2.2 dX9_change_81
                · skip
                  have ic_24 := iv_ne c_24
                  refine lv_aload_n hx hb dX9_change_58 rfl (lv_at hl 0 rfl) ?_
                  refine lv_iload_n hx hb dX9_change_59 rfl (lv_at hl 2 rfl) ?_
                  refine vp_callSi (va_Run.run (va_runV (As := [.int p1]) (rest := []) ⟨hx, hb, hml, hown, hts⟩ (v_X9_pageState l dC dI o c kc (rU st 13 (0 : Int32)) lg ai al p1 (by omega) (by omega)) (cwV 1 hts gX9_change_X9_pageState rfl rfl rfl (by decide +kernel) ⟨Nat.le_of_ble_eq_true rfl, Nat.le_of_ble_eq_true rfl⟩) ⟨fun a U g mk q => by obtain ⟨q0, qP, qK⟩ := q; exact ⟨q0, qP, va_K.moved (u := U) (U := U.calling g mk a) (Vm.Alike.refl U.vm) qK⟩, va_recv hK hP (ci := 11) (q := (RX9, TX9, 38)) rfl (q0 := 0) rfl, fun U hU hW => ⟨rfl, by rw [hU]; exact hP, va_K.moved hW.alike hK⟩⟩ rfl rfl hl.1 rfl (lv_room (Nat.le_of_ble_eq_true rfl)) dX9_change_60 ⟨Nat.le_of_ble_eq_true rfl, Nat.le_of_ble_eq_true rfl⟩)) (fun r_30 er_30 => ?_)
                  obtain ⟨k_31, k_32, hrt⟩ := er_30
                  have hrt : (r_30.toInt = 1 → rtQ (ai 0) p1) ∧ (r_30.toInt ≠ 1 → ¬ rtQ (ai 0) p1) := hrt
                  refine lv_iconst (v := 1) hx hb dX9_change_63 (by decide) ?_
                  refine lv_icmp_eq (tgt := 70) hx hb dX9_change_64 (by decide) (fun c_33 => ?_) (fun c_33 => ?_)
                  · skip
                    have ic_33 := iv_eq c_33
                    refine lv_aload_n hx hb dX9_change_70 rfl (lv_at hl 0 rfl) ?_
                    refine va_get (D := (dC, dI)) (ci := 11) (v := .int (st 12)) (C := RX9) (T := TX9) (N := 38) hx hb hts hin9 hown hK hP 0 rfl rfl 12 (by decide) (hts (.fieldLink RX9 111 "BlockLogModel" "collected" "I") (by decide +kernel)) (fun _ h9 => h9) rfl dX9_change_71 ?_
                    refine lv_bipush (v := 8) hx hb dX9_change_74 (by decide) ?_
                    refine lv_icmp_ne (tgt := 82) hx hb dX9_change_76 (by decide) (fun c_34 => ?_) (fun c_34 => ?_)
                    · skip
                      have ic_34 := iv_ne c_34
                      refine lv_aload_n hx hb dX9_change_82 rfl (lv_at hl 0 rfl) ?_
                      refine va_get (D := (dC, dI)) (ci := 11) (v := .ref (c 10)) (C := RX9) (T := TX9) (N := 38) hx hb hts hin9 hown hK hP 0 rfl rfl 10 (by decide) (hts (.fieldLink RX9 17 "BlockLogModel" "slots" "[I") (by decide +kernel)) (fun _ h9 => h9) rfl dX9_change_83 ?_
                      refine lv_aload_n hx hb dX9_change_86 rfl (lv_at hl 0 rfl) ?_
                      refine va_get (D := (dC, dI)) (ci := 11) (v := .int (st 12)) (C := RX9) (T := TX9) (N := 38) hx hb hts hin9 hown hK hP 0 rfl rfl 12 (by decide) (hts (.fieldLink RX9 111 "BlockLogModel" "collected" "I") (by decide +kernel)) (fun _ h9 => h9) rfl dX9_change_87 ?_
                      refine lv_iload_n hx hb dX9_change_90 rfl (lv_at hl 1 rfl) ?_
                      refine va_iast (f := ai 10) hx hb hK hP (rw_D hD) hS 3 2 rfl rfl (iv_in (i := st 12) (by omega) (by omega)) dX9_change_91 (fun H locs hP _ hS => ?_)
                      have hP : va_P (dC, dI) vwCl (rw_W o c kc (rU st 13 (0 : Int32)) lg (rU ai 10 (upd (ai 10) (st 12).toNatClampNeg p0)) al) H := hP
                      generalize hU_slots : upd (ai 10) (st 12).toNatClampNeg p0 = g_35 at hP
                      clear hU_slots
                      refine lv_aload_n hx hb dX9_change_92 rfl (lv_at hl 0 rfl) ?_
                      refine va_get (D := (dC, dI)) (ci := 11) (v := .ref (c 11)) (C := RX9) (T := TX9) (N := 38) hx hb hts hin9 hown hK hP 0 rfl rfl 11 (by decide) (hts (.fieldLink RX9 20 "BlockLogModel" "leaves" "[J") (by decide +kernel)) (fun _ h9 => h9) rfl dX9_change_93 ?_
                      refine lv_aload_n hx hb dX9_change_96 rfl (lv_at hl 0 rfl) ?_
                      refine va_get (D := (dC, dI)) (ci := 11) (v := .int (st 12)) (C := RX9) (T := TX9) (N := 38) hx hb hts hin9 hown hK hP 0 rfl rfl 12 (by decide) (hts (.fieldLink RX9 111 "BlockLogModel" "collected" "I") (by decide +kernel)) (fun _ h9 => h9) rfl dX9_change_97 ?_
                      refine lv_iload_n hx hb dX9_change_100 rfl (lv_at hl 2 rfl) ?_
                      refine lv_iconst (v := (-1)) hx hb dX9_change_101 (by decide) ?_
                      refine lv_icmp_ne (tgt := 109) hx hb dX9_change_102 (by decide) (fun c_36 => ?_) (fun c_36 => ?_)
                      · skip
                        have ic_36 := iv_ne c_36
                        refine lv_aload_n hx hb dX9_change_109 rfl (lv_at hl 0 rfl) ?_
                        refine lv_iload_n hx hb dX9_change_110 rfl (lv_at hl 2 rfl) ?_
                        refine vp_callSl (va_Run.run (va_runV (As := [.int p1]) (rest := [.int (st 12), .ref (c 11)]) ⟨hx, hb, hml, hown, hts⟩ (v_X9_leafDigest l dC dI o c kc (rU st 13 (0 : Int32)) lg (rU ai 10 g_35) al p1 (by omega) (by omega)) (cwV 1 hts gX9_change_X9_leafDigest rfl rfl rfl (by decide +kernel) ⟨Nat.le_of_ble_eq_true rfl, Nat.le_of_ble_eq_true rfl⟩) ⟨fun a U g mk q => by obtain ⟨q0, qP, qK⟩ := q; exact ⟨q0, qP, va_K.moved (u := U) (U := U.calling g mk a) (Vm.Alike.refl U.vm) qK⟩, va_recv hK hP (ci := 11) (q := (RX9, TX9, 38)) rfl (q0 := 0) rfl, fun U hU hW => ⟨rfl, by rw [hU]; exact hP, va_K.moved hW.alike hK⟩⟩ rfl rfl hl.1 rfl (lv_room (Nat.le_of_ble_eq_true rfl)) dX9_change_111 ⟨Nat.le_of_ble_eq_true rfl, Nat.le_of_ble_eq_true rfl⟩)) (fun r_37 er_37 => ?_)
                        refine va_last (f := al 11) hx hb hK hP (rw_D hD) hS 4 3 rfl rfl (iv_in (i := st 12) (by omega) (by omega)) dX9_change_114 (fun H locs hP _ hS => ?_)
                        have hP : va_P (dC, dI) vwCl (rw_W o c kc (rU st 13 (0 : Int32)) lg (rU ai 10 g_35) (rU al 11 (vp_updL (al 11) (st 12).toNatClampNeg r_37))) H := hP
                        generalize hU_leaves : vp_updL (al 11) (st 12).toNatClampNeg r_37 = g_38 at hP
                        clear hU_leaves
                        refine lv_aload_n hx hb dX9_change_115 rfl (lv_at hl 0 rfl) ?_
                        refine lv_dup hx hb dX9_change_116 rfl ?_
                        refine va_get (D := (dC, dI)) (ci := 11) (v := .int (st 12)) (C := RX9) (T := TX9) (N := 38) hx hb hts hin9 hown hK hP 0 rfl rfl 12 (by decide) (hts (.fieldLink RX9 111 "BlockLogModel" "collected" "I") (by decide +kernel)) (fun _ h9 => h9) rfl dX9_change_117 ?_
                        refine lv_iconst (v := 1) hx hb dX9_change_120 (by decide) ?_
                        refine lv_iadd hx hb dX9_change_121 ?_
                        refine lv_topi (fun v_39 ev_39 => ?_)
                        have rg3 := iv_rng (st 12)
                        have hv_39 : v_39.toInt = (st 12).toInt + 1 := by rw [ev_39]; exact (iv_add (by omega) (by omega)).trans (by omega)
                        clear ev_39
                        refine va_put (D := (dC, dI)) (ci := 11) (v := .int v_39) (ty := .int) (C := RX9) (T := TX9) (N := 38) hx hb hts hin9 tyX9 tyX9_ok nmX9 hown hK hP (rw_D hD) hS 0 rfl rfl 12 (by decide) (hts (.fieldLink RX9 111 "BlockLogModel" "collected" "I") (by decide +kernel)) (fun _ h9 => h9) rfl (by decide +kernel) rfl rfl (Nat.le_of_ble_eq_true rfl) dX9_change_122 (fun H locs hP _ hS => ?_)
                        have hP : va_P (dC, dI) vwCl (rw_W o c kc (rU (rU st 12 v_39) 13 (0 : Int32)) lg (rU ai 10 g_35) (rU al 11 g_38)) H := hP
                        refine lv_aload_n hx hb dX9_change_125 rfl (lv_at hl 0 rfl) ?_
                        refine va_get (D := (dC, dI)) (ci := 11) (v := .int v_39) (C := RX9) (T := TX9) (N := 38) hx hb hts hin9 hown hK hP 0 rfl rfl 12 (by decide) (hts (.fieldLink RX9 111 "BlockLogModel" "collected" "I") (by decide +kernel)) (fun _ h9 => h9) rfl dX9_change_126 ?_
                        exact W.iret hx hb hr (fun t ht hW => ⟨⟨_, _, rfl, rfl, v_39, (0 : Int32), g_35, g_38, (by omega), (by omega), by rw [ht]; exact hP⟩, hS.F ht⟩) hS.2.2 dX9_change_129
                      · skip
                        have ic_36 := iv_eq c_36
                        exfalso
                        omega
                    · skip
                      have ic_34 := iv_eq c_34
                      refine lv_bipush (v := (-2)) hx hb dX9_change_79 (by decide) ?_
                      exact W.iret hx hb hr (fun t ht hW => ⟨⟨_, _, rfl, rfl, st 12, (0 : Int32), ai 10, al 11, (by omega), (by omega), by rw [ht]; exact hP⟩, hS.F ht⟩) hS.2.2 dX9_change_81
                  · skip
                    have ic_33 := iv_ne c_33
                    refine lv_bipush (v := (-6)) hx hb dX9_change_67 (by decide) ?_
                    exact W.iret hx hb hr (fun t ht hW => ⟨⟨_, _, rfl, rfl, st 12, (0 : Int32), ai 10, al 11, (by omega), (by omega), by rw [ht]; exact hP⟩, hS.F ht⟩) hS.2.2 dX9_change_69
              · skip
                have ic_23 := iv_nle c_23
                exfalso
                omega
            · skip
              have ic_22 := iv_eq c_22
              exfalso
              omega
    · skip
      have ic_1 := iv_eq c_1
      refine lv_iconst (v := 1) hx hb dX9_change_8 (by decide) ?_
      refine lv_goto (tgt := 41) hx hb dX9_change_9 (by decide) ?_
      refine va_put (D := (dC, dI)) (ci := 11) (v := .int (1 : Int32)) (ty := .int) (C := RX9) (T := TX9) (N := 38) hx hb hts hin9 tyX9 tyX9_ok nmX9 hown hK hP (rw_D hD) hS 0 rfl rfl 13 (by decide) (hts (.fieldLink RX9 91 "BlockLogModel" "thrown" "I") (by decide +kernel)) (fun _ h9 => h9) rfl (by decide +kernel) rfl rfl (Nat.le_of_ble_eq_true rfl) dX9_change_41 (fun H locs hP _ hS => ?_)
      have hP : va_P (dC, dI) vwCl (rw_W o c kc (rU st 13 (1 : Int32)) lg ai al) H := hP
      refine lv_aload_n hx hb dX9_change_44 rfl (lv_at hl 0 rfl) ?_
      refine va_get (D := (dC, dI)) (ci := 11) (v := .int (1 : Int32)) (C := RX9) (T := TX9) (N := 38) hx hb hts hin9 hown hK hP 0 rfl rfl 13 (by decide) (hts (.fieldLink RX9 91 "BlockLogModel" "thrown" "I") (by decide +kernel)) (fun _ h9 => h9) rfl dX9_change_45 ?_
      refine lv_if_le (tgt := 53) hx hb dX9_change_48 (by decide) (fun c_40 => ?_) (fun c_40 => ?_)
      · skip
        have ic_40 := iv_le c_40
        exfalso
        omega
      · skip
        have ic_40 := iv_nle c_40
        refine lv_iconst (v := 0) hx hb dX9_change_51 (by decide) ?_
        exact W.iret hx hb hr (fun t ht hW => ⟨⟨_, _, rfl, rfl, st 12, (1 : Int32), ai 10, al 11, (by omega), (by omega), by rw [ht]; exact hP⟩, hS.F ht⟩) hS.2.2 dX9_change_52
  exact main s.heap [] hP hS

set_option maxHeartbeats 4000000 in
set_option maxRecDepth 100000 in
theorem v_X9_isRow (l : Launch) (dC : Nat → ClassId) (dI : Nat → Nat → Nat) (o : Nat) (c : Nat → Nat) (kc : Nat → ClassId) (st : Nat → Int32) (lg : Nat → Int64) (ai : Nat → Nat → Int32) (al : Nat → Nat → Int64) (p0 : Int32) (hf3a : 0 ≤ (st 3).toInt) (hf3b : (st 3).toInt ≤ 1) (hf15a : 0 ≤ (st 15).toInt) (hf15b : (st 15).toInt ≤ 128) : Met l yX9_isRow wsX9_isRow ({ frames := 1, cells := 0, slots := 0, locals := 20 }) (va_Pc [.ref o, .int p0] (fun U => va_P (dC, dI) vwCl (rw_W o c kc st lg ai al) U.heap ∧ va_K (dC, dI) vwCl (rw_T kc) U)) (vp_Si (fun r => (r.toInt = 1 → 0 ≤ p0.toInt) ∧ (r.toInt = 1 → p0.toInt ≤ 127) ∧ (0 ≤ r.toInt) ∧ (r.toInt ≤ 1))) 0 0 (fun _ => False) := by
  refine Met.ofW (cc := cX9_isRow) (maxL := 2) (ret := (some .boolean)) (by decide) rfl ?_
  intro p e s m args below meth cM s₁ B hml hv
  obtain ⟨rfl, hP, hK⟩ := hv
  have hx := B.exec
  have hb := B.bytes
  have hr := B.returns
  have hts := atoms_spec (ws := wsX9_isRow) B.pre
  have hown : s.vm.findClass RX9 = some m.cls := findClass_of_methodNamed B.named
  have hl := lv_entry ([.ref o, .int p0]) (n := 2) (Nat.le_of_ble_eq_true rfl)
  rw [lg_entry_eq]
  generalize (lg_sl ([.ref o, .int p0]) ++ List.replicate (2 - (lg_sl ([.ref o, .int p0])).length) Slot.unset).toArray = ls at hl ⊢
  have hl : lv_has ls 2 [(0, .ref o), (1, .int p0)] := hl
  have z_0 : (0 : Int32).toInt = 0 := by decide
  have z_1 : (1 : Int32).toInt = 1 := by decide
  have z_128 : (128 : Int32).toInt = 128 := by decide
  have hin9 : ∀ w ∈ u_ws RX9 TX9 38, w ∈ wsX9_isRow := by decide +kernel
  refine lv_iload_n hx hb dX9_isRow_0 rfl (lv_at hl 1 rfl) ?_
  refine lv_if_lt (tgt := 29) hx hb dX9_isRow_1 (by decide) (fun c_1 => ?_) (fun c_1 => ?_)
  · skip
    have ic_1 := iv_lt c_1
    refine lv_iconst (v := 0) hx hb dX9_isRow_29 (by decide) ?_
    exact W.zret hx hb hr rfl (fun t ht hW => ⟨_, rfl, ⟨(by omega), (by omega), (by omega), (by omega)⟩, ht⟩) (fun q h => by cases h) dX9_isRow_30
  · skip
    have ic_1 := iv_nlt c_1
    refine lv_iload_n hx hb dX9_isRow_4 rfl (lv_at hl 1 rfl) ?_
    refine lv_aload_n hx hb dX9_isRow_5 rfl (lv_at hl 0 rfl) ?_
    refine va_get (D := (dC, dI)) (ci := 11) (v := .int (st 3)) (C := RX9) (T := TX9) (N := 38) hx hb hts hin9 hown hK hP 0 rfl rfl 3 (by decide) (hts (.fieldLink RX9 72 "BlockLogModel" "on" "Z") (by decide +kernel)) (fun _ h9 => h9) rfl dX9_isRow_6 ?_
    refine lv_if_eq (tgt := 19) hx hb dX9_isRow_9 (by decide) (fun c_2 => ?_) (fun c_2 => ?_)
    · skip
      have ic_2 := iv_eq c_2
      refine lv_sipush (v := 128) hx hb dX9_isRow_19 (by decide) ?_
      refine lv_icmp_ge (tgt := 29) hx hb dX9_isRow_22 (by decide) (fun c_3 => ?_) (fun c_3 => ?_)
      · skip
        have ic_3 := iv_le c_3
        refine lv_iconst (v := 0) hx hb dX9_isRow_29 (by decide) ?_
        exact W.zret hx hb hr rfl (fun t ht hW => ⟨_, rfl, ⟨(by omega), (by omega), (by omega), (by omega)⟩, ht⟩) (fun q h => by cases h) dX9_isRow_30
      · skip
        have ic_3 := iv_nle c_3
        refine lv_iconst (v := 1) hx hb dX9_isRow_25 (by decide) ?_
        refine lv_goto (tgt := 30) hx hb dX9_isRow_26 (by decide) ?_
        exact W.zret hx hb hr rfl (fun t ht hW => ⟨_, rfl, ⟨(by omega), (by omega), (by omega), (by omega)⟩, ht⟩) (fun q h => by cases h) dX9_isRow_30
    · skip
      have ic_2 := iv_ne c_2
      refine lv_aload_n hx hb dX9_isRow_12 rfl (lv_at hl 0 rfl) ?_
      refine vp_callSi (va_Run.run (va_runV (As := []) (rest := [.int p0]) ⟨hx, hb, hml, hown, hts⟩ (v_X9_rows l dC dI o c kc st lg ai al  (show 0 ≤ (st 15).toInt by omega) (show (st 15).toInt ≤ 128 by omega)) (cwV 0 hts gX9_isRow_X9_rows rfl rfl rfl (by decide +kernel) ⟨Nat.le_of_ble_eq_true rfl, Nat.le_of_ble_eq_true rfl⟩) ⟨fun a U g mk q => by obtain ⟨q0, qP, qK⟩ := q; exact ⟨q0, qP, va_K.moved (u := U) (U := U.calling g mk a) (Vm.Alike.refl U.vm) qK⟩, va_recv hK hP (ci := 11) (q := (RX9, TX9, 38)) rfl (q0 := 0) rfl, fun U hU hW => ⟨rfl, by rw [hU]; exact hP, va_K.moved hW.alike hK⟩⟩ rfl rfl hl.1 rfl (lv_room (Nat.le_of_ble_eq_true rfl)) dX9_isRow_13 ⟨Nat.le_of_ble_eq_true rfl, Nat.le_of_ble_eq_true rfl⟩)) (fun r_4 er_4 => ?_)
      have k_5 := er_4
      have k_5 : r_4.toInt = (st 15).toInt := k_5
      refine lv_goto (tgt := 22) hx hb dX9_isRow_16 (by decide) ?_
      refine lv_icmp_ge (tgt := 29) hx hb dX9_isRow_22 (by decide) (fun c_6 => ?_) (fun c_6 => ?_)
      · skip
        have ic_6 := iv_le c_6
        refine lv_iconst (v := 0) hx hb dX9_isRow_29 (by decide) ?_
        exact W.zret hx hb hr rfl (fun t ht hW => ⟨_, rfl, ⟨(by omega), (by omega), (by omega), (by omega)⟩, ht⟩) (fun q h => by cases h) dX9_isRow_30
      · skip
        have ic_6 := iv_nle c_6
        refine lv_iconst (v := 1) hx hb dX9_isRow_25 (by decide) ?_
        refine lv_goto (tgt := 30) hx hb dX9_isRow_26 (by decide) ?_
        exact W.zret hx hb hr rfl (fun t ht hW => ⟨_, rfl, ⟨(by omega), (by omega), (by omega), (by omega)⟩, ht⟩) (fun q h => by cases h) dX9_isRow_30

set_option maxHeartbeats 4000000 in
set_option maxRecDepth 100000 in
theorem v_X9_sent (l : Launch) (dC : Nat → ClassId) (dI : Nat → Nat → Nat) (o : Nat) (c : Nat → Nat) (kc : Nat → ClassId) (st : Nat → Int32) (lg : Nat → Int64) (ai : Nat → Nat → Int32) (al : Nat → Nat → Int64) (p0 : Int32) (sz : Nat) (hf3a : 0 ≤ (st 3).toInt) (hf3b : (st 3).toInt ≤ 1) (hf7a : 0 ≤ (st 7).toInt) (hf7b : (st 7).toInt ≤ 1) (hf15a : 0 ≤ (st 15).toInt) (hf15b : (st 15).toInt ≤ 128) : Met l yX9_sent wsX9_sent ({ frames := 5, cells := 0, slots := 0, locals := 114 }) (va_Pc [.ref o, .int p0] (fun U => U.heap.size = sz ∧ va_P (dC, dI) vwCl (rw_W o c kc st lg ai al) U.heap ∧ va_K (dC, dI) vwCl (rw_T kc) U ∧ va_D (fun _ => True) (rw_W o c kc st lg ai al))) (va_Qi (fun r (u : Int32) => r = u) (fun u t => ∃ (x13 : Int32), (0 ≤ u.toInt) ∧ (u.toInt ≤ 1) ∧ va_P (dC, dI) vwCl (rw_W o c kc (rU st 13 x13) lg ai al) t.heap) (va_A (rw_W o c kc st lg ai al) sz)) 0 0 (va_A (rw_W o c kc st lg ai al) sz) := by
  refine Met.ofW (cc := cX9_sent) (maxL := 2) (ret := (some .boolean)) (by decide) rfl ?_
  intro p e s m args below meth cM s₁ B hml hv
  obtain ⟨rfl, hsz, hP, hK, hD0⟩ := hv
  have hx := B.exec
  have hb := B.bytes
  have hr := B.returns
  have hts := atoms_spec (ws := wsX9_sent) B.pre
  have hown : s.vm.findClass RX9 = some m.cls := findClass_of_methodNamed B.named
  subst hsz
  have hD := hD0.self (sz := s.heap.size)
  generalize hAe : va_A (rw_W o c kc st lg ai al) s.heap.size = A at hD ⊢
  have hA : ∀ q : Nat, s.heap.size ≤ q → A q := fun q h => by rw [← hAe]; exact Or.inr h
  have hS : va_S A s.heap s.heap [] := va_S.rf
  clear hAe hD0
  have hl := lv_entry ([.ref o, .int p0]) (n := 2) (Nat.le_of_ble_eq_true rfl)
  rw [lg_entry_eq]
  generalize (lg_sl ([.ref o, .int p0]) ++ List.replicate (2 - (lg_sl ([.ref o, .int p0])).length) Slot.unset).toArray = ls at hl ⊢
  have hl : lv_has ls 2 [(0, .ref o), (1, .int p0)] := hl
  have z_0 : (0 : Int32).toInt = 0 := by decide
  have z_1 : (1 : Int32).toInt = 1 := by decide
  have z_2 : (2 : Int32).toInt = 2 := by decide
  have hin9 : ∀ w ∈ u_ws RX9 TX9 38, w ∈ wsX9_sent := by decide +kernel
  have main : ∀ (H : Heap) (locs : List Loc), va_P (dC, dI) vwCl (rw_W o c kc st lg ai al) H → va_S A s.heap H locs → W p l e (headSpec wsX9_sent ({ frames := 5, cells := 0, slots := 0, locals := 114 })).room s m ([.ref o, .int p0] : List Value).toArray below meth cM H locs 0 0 (MQ below (va_Qi (fun r (u : Int32) => r = u) (fun u t => ∃ (x13 : Int32), (0 ≤ u.toInt) ∧ (u.toInt ≤ 1) ∧ va_P (dC, dI) vwCl (rw_W o c kc (rU st 13 x13) lg ai al) t.heap) A) ([.ref o, .int p0] : List Value).toArray s 0 0 A) (F0 m 0 ls []) := by
    intro H locs hP hS
    refine lv_aload_n hx hb dX9_sent_0 rfl (lv_at hl 0 rfl) ?_
    refine lv_aload_n hx hb dX9_sent_1 rfl (lv_at hl 0 rfl) ?_
    refine lv_iload_n hx hb dX9_sent_2 rfl (lv_at hl 1 rfl) ?_
    refine vp_callSi (va_Run.run (va_runV (As := [.int p0]) (rest := [.ref o]) ⟨hx, hb, hml, hown, hts⟩ (v_X9_isRow l dC dI o c kc st lg ai al p0 (show 0 ≤ (st 3).toInt by omega) (show (st 3).toInt ≤ 1 by omega) (show 0 ≤ (st 15).toInt by omega) (show (st 15).toInt ≤ 128 by omega)) (cwV 1 hts gX9_sent_X9_isRow rfl rfl rfl (by decide +kernel) ⟨Nat.le_of_ble_eq_true rfl, Nat.le_of_ble_eq_true rfl⟩) ⟨fun a U g mk q => by obtain ⟨q0, qP, qK⟩ := q; exact ⟨q0, qP, va_K.moved (u := U) (U := U.calling g mk a) (Vm.Alike.refl U.vm) qK⟩, va_recv hK hP (ci := 11) (q := (RX9, TX9, 38)) rfl (q0 := 0) rfl, fun U hU hW => ⟨rfl, by rw [hU]; exact hP, va_K.moved hW.alike hK⟩⟩ rfl rfl hl.1 rfl (lv_room (Nat.le_of_ble_eq_true rfl)) dX9_sent_3 ⟨Nat.le_of_ble_eq_true rfl, Nat.le_of_ble_eq_true rfl⟩)) (fun r_1 er_1 => ?_)
    obtain ⟨k_2, k_3, k_4, k_5⟩ := er_1
    rcases iv_01 (a := r_1) (by omega) (by omega) with b_6 | b_6
    · skip
      have ib_6 := iv_eq b_6
      rw [b_6]
      refine lv_if_ne (tgt := 13) hx hb dX9_sent_6 (by decide) (fun c_7 => ?_) (fun c_7 => ?_)
      · skip
        have ic_7 := iv_ne c_7
        exfalso
        omega
      · skip
        have ic_7 := iv_eq c_7
        refine lv_iconst (v := 1) hx hb dX9_sent_9 (by decide) ?_
        refine lv_goto (tgt := 25) hx hb dX9_sent_10 (by decide) ?_
        refine va_put (D := (dC, dI)) (ci := 11) (v := .int (1 : Int32)) (ty := .int) (C := RX9) (T := TX9) (N := 38) hx hb hts hin9 tyX9 tyX9_ok nmX9 hown hK hP (rw_D hD) hS 0 rfl rfl 13 (by decide) (hts (.fieldLink RX9 91 "BlockLogModel" "thrown" "I") (by decide +kernel)) (fun _ h9 => h9) rfl (by decide +kernel) rfl rfl (Nat.le_of_ble_eq_true rfl) dX9_sent_25 (fun H locs hP _ hS => ?_)
        have hP : va_P (dC, dI) vwCl (rw_W o c kc (rU st 13 (1 : Int32)) lg ai al) H := hP
        refine lv_aload_n hx hb dX9_sent_28 rfl (lv_at hl 0 rfl) ?_
        refine va_get (D := (dC, dI)) (ci := 11) (v := .int (1 : Int32)) (C := RX9) (T := TX9) (N := 38) hx hb hts hin9 hown hK hP 0 rfl rfl 13 (by decide) (hts (.fieldLink RX9 91 "BlockLogModel" "thrown" "I") (by decide +kernel)) (fun _ h9 => h9) rfl dX9_sent_29 ?_
        refine lv_if_ne (tgt := 57) hx hb dX9_sent_32 (by decide) (fun c_8 => ?_) (fun c_8 => ?_)
        · skip
          have ic_8 := iv_ne c_8
          refine lv_iconst (v := 0) hx hb dX9_sent_57 (by decide) ?_
          exact W.zret hx hb hr rfl (fun t ht hW => ⟨⟨_, _, rfl, rfl, (1 : Int32), (by omega), (by omega), by rw [ht]; exact hP⟩, hS.F ht⟩) hS.2.2 dX9_sent_58
        · skip
          have ic_8 := iv_eq c_8
          exfalso
          omega
    · skip
      have ib_6 := iv_eq b_6
      rw [b_6]
      refine lv_if_ne (tgt := 13) hx hb dX9_sent_6 (by decide) (fun c_9 => ?_) (fun c_9 => ?_)
      · skip
        have ic_9 := iv_ne c_9
        refine lv_aload_n hx hb dX9_sent_13 rfl (lv_at hl 0 rfl) ?_
        refine va_get (D := (dC, dI)) (ci := 11) (v := .int (st 3)) (C := RX9) (T := TX9) (N := 38) hx hb hts hin9 hown hK hP 0 rfl rfl 3 (by decide) (hts (.fieldLink RX9 72 "BlockLogModel" "on" "Z") (by decide +kernel)) (fun _ h9 => h9) rfl dX9_sent_14 ?_
        refine lv_if_ne (tgt := 24) hx hb dX9_sent_17 (by decide) (fun c_10 => ?_) (fun c_10 => ?_)
        · skip
          have ic_10 := iv_ne c_10
          refine lv_iconst (v := 0) hx hb dX9_sent_24 (by decide) ?_
          refine va_put (D := (dC, dI)) (ci := 11) (v := .int (0 : Int32)) (ty := .int) (C := RX9) (T := TX9) (N := 38) hx hb hts hin9 tyX9 tyX9_ok nmX9 hown hK hP (rw_D hD) hS 0 rfl rfl 13 (by decide) (hts (.fieldLink RX9 91 "BlockLogModel" "thrown" "I") (by decide +kernel)) (fun _ h9 => h9) rfl (by decide +kernel) rfl rfl (Nat.le_of_ble_eq_true rfl) dX9_sent_25 (fun H locs hP _ hS => ?_)
          have hP : va_P (dC, dI) vwCl (rw_W o c kc (rU st 13 (0 : Int32)) lg ai al) H := hP
          refine lv_aload_n hx hb dX9_sent_28 rfl (lv_at hl 0 rfl) ?_
          refine va_get (D := (dC, dI)) (ci := 11) (v := .int (0 : Int32)) (C := RX9) (T := TX9) (N := 38) hx hb hts hin9 hown hK hP 0 rfl rfl 13 (by decide) (hts (.fieldLink RX9 91 "BlockLogModel" "thrown" "I") (by decide +kernel)) (fun _ h9 => h9) rfl dX9_sent_29 ?_
          refine lv_if_ne (tgt := 57) hx hb dX9_sent_32 (by decide) (fun c_11 => ?_) (fun c_11 => ?_)
          · skip
            have ic_11 := iv_ne c_11
            exfalso
            omega
          · skip
            have ic_11 := iv_eq c_11
            refine lv_aload_n hx hb dX9_sent_35 rfl (lv_at hl 0 rfl) ?_
            refine lv_iload_n hx hb dX9_sent_36 rfl (lv_at hl 1 rfl) ?_
            refine vp_callSi (va_Run.run (va_runV (As := [.int p0]) (rest := []) ⟨hx, hb, hml, hown, hts⟩ (v_X9_kindOf l dC dI o c kc (rU st 13 (0 : Int32)) lg ai al p0 (show 0 ≤ (st 7).toInt by omega) (show (st 7).toInt ≤ 1 by omega) (by omega) (by omega)) (cwV 1 hts gX9_sent_X9_kindOf rfl rfl rfl (by decide +kernel) ⟨Nat.le_of_ble_eq_true rfl, Nat.le_of_ble_eq_true rfl⟩) ⟨fun a U g mk q => by obtain ⟨q0, qP, qK⟩ := q; exact ⟨q0, qP, va_K.moved (u := U) (U := U.calling g mk a) (Vm.Alike.refl U.vm) qK⟩, va_recv hK hP (ci := 11) (q := (RX9, TX9, 38)) rfl (q0 := 0) rfl, fun U hU hW => ⟨rfl, by rw [hU]; exact hP, va_K.moved hW.alike hK⟩⟩ rfl rfl hl.1 rfl (lv_room (Nat.le_of_ble_eq_true rfl)) dX9_sent_37 ⟨Nat.le_of_ble_eq_true rfl, Nat.le_of_ble_eq_true rfl⟩)) (fun r_12 er_12 => ?_)
            obtain ⟨k_13, k_14, k_15⟩ := er_12
            have k_13 : r_12.toInt = (rK (ai 0) (st 7) p0).toInt := k_13
            refine lv_iconst (v := 1) hx hb dX9_sent_40 (by decide) ?_
            refine lv_icmp_ne (tgt := 57) hx hb dX9_sent_41 (by decide) (fun c_16 => ?_) (fun c_16 => ?_)
            · skip
              have ic_16 := iv_ne c_16
              refine lv_iconst (v := 0) hx hb dX9_sent_57 (by decide) ?_
              exact W.zret hx hb hr rfl (fun t ht hW => ⟨⟨_, _, rfl, rfl, (0 : Int32), (by omega), (by omega), by rw [ht]; exact hP⟩, hS.F ht⟩) hS.2.2 dX9_sent_58
            · skip
              have ic_16 := iv_eq c_16
              refine lv_aload_n hx hb dX9_sent_44 rfl (lv_at hl 0 rfl) ?_
              refine lv_iload_n hx hb dX9_sent_45 rfl (lv_at hl 1 rfl) ?_
              refine vp_callSi (va_Run.run (va_runV (As := [.int p0]) (rest := []) ⟨hx, hb, hml, hown, hts⟩ (v_X9_rowState l dC dI o c kc (rU st 13 (0 : Int32)) lg ai al p0 (show 0 ≤ (st 7).toInt by omega) (show (st 7).toInt ≤ 1 by omega) (by omega) (by omega)) (cwV 1 hts gX9_sent_X9_rowState rfl rfl rfl (by decide +kernel) ⟨Nat.le_of_ble_eq_true rfl, Nat.le_of_ble_eq_true rfl⟩) ⟨fun a U g mk q => by obtain ⟨q0, qP, qK⟩ := q; exact ⟨q0, qP, va_K.moved (u := U) (U := U.calling g mk a) (Vm.Alike.refl U.vm) qK⟩, va_recv hK hP (ci := 11) (q := (RX9, TX9, 38)) rfl (q0 := 0) rfl, fun U hU hW => ⟨rfl, by rw [hU]; exact hP, va_K.moved hW.alike hK⟩⟩ rfl rfl hl.1 rfl (lv_room (Nat.le_of_ble_eq_true rfl)) dX9_sent_46 ⟨Nat.le_of_ble_eq_true rfl, Nat.le_of_ble_eq_true rfl⟩)) (fun r_17 er_17 => ?_)
              obtain ⟨k_18, k_19⟩ := er_17
              refine lv_iconst (v := 1) hx hb dX9_sent_49 (by decide) ?_
              refine lv_icmp_ne (tgt := 57) hx hb dX9_sent_50 (by decide) (fun c_20 => ?_) (fun c_20 => ?_)
              · skip
                have ic_20 := iv_ne c_20
                refine lv_iconst (v := 0) hx hb dX9_sent_57 (by decide) ?_
                exact W.zret hx hb hr rfl (fun t ht hW => ⟨⟨_, _, rfl, rfl, (0 : Int32), (by omega), (by omega), by rw [ht]; exact hP⟩, hS.F ht⟩) hS.2.2 dX9_sent_58
              · skip
                have ic_20 := iv_eq c_20
                refine lv_iconst (v := 1) hx hb dX9_sent_53 (by decide) ?_
                refine lv_goto (tgt := 58) hx hb dX9_sent_54 (by decide) ?_
                exact W.zret hx hb hr rfl (fun t ht hW => ⟨⟨_, _, rfl, rfl, (0 : Int32), (by omega), (by omega), by rw [ht]; exact hP⟩, hS.F ht⟩) hS.2.2 dX9_sent_58
        · skip
          have ic_10 := iv_eq c_10
          refine lv_iconst (v := 2) hx hb dX9_sent_20 (by decide) ?_
          refine lv_goto (tgt := 25) hx hb dX9_sent_21 (by decide) ?_
          refine va_put (D := (dC, dI)) (ci := 11) (v := .int (2 : Int32)) (ty := .int) (C := RX9) (T := TX9) (N := 38) hx hb hts hin9 tyX9 tyX9_ok nmX9 hown hK hP (rw_D hD) hS 0 rfl rfl 13 (by decide) (hts (.fieldLink RX9 91 "BlockLogModel" "thrown" "I") (by decide +kernel)) (fun _ h9 => h9) rfl (by decide +kernel) rfl rfl (Nat.le_of_ble_eq_true rfl) dX9_sent_25 (fun H locs hP _ hS => ?_)
          have hP : va_P (dC, dI) vwCl (rw_W o c kc (rU st 13 (2 : Int32)) lg ai al) H := hP
          refine lv_aload_n hx hb dX9_sent_28 rfl (lv_at hl 0 rfl) ?_
          refine va_get (D := (dC, dI)) (ci := 11) (v := .int (2 : Int32)) (C := RX9) (T := TX9) (N := 38) hx hb hts hin9 hown hK hP 0 rfl rfl 13 (by decide) (hts (.fieldLink RX9 91 "BlockLogModel" "thrown" "I") (by decide +kernel)) (fun _ h9 => h9) rfl dX9_sent_29 ?_
          refine lv_if_ne (tgt := 57) hx hb dX9_sent_32 (by decide) (fun c_21 => ?_) (fun c_21 => ?_)
          · skip
            have ic_21 := iv_ne c_21
            refine lv_iconst (v := 0) hx hb dX9_sent_57 (by decide) ?_
            exact W.zret hx hb hr rfl (fun t ht hW => ⟨⟨_, _, rfl, rfl, (2 : Int32), (by omega), (by omega), by rw [ht]; exact hP⟩, hS.F ht⟩) hS.2.2 dX9_sent_58
          · skip
            have ic_21 := iv_eq c_21
            exfalso
            omega
      · skip
        have ic_9 := iv_eq c_9
        exfalso
        omega
  exact main s.heap [] hP hS

set_option maxHeartbeats 4000000 in
set_option maxRecDepth 100000 in
theorem v_X9_page (l : Launch) (dC : Nat → ClassId) (dI : Nat → Nat → Nat) (o : Nat) (c : Nat → Nat) (kc : Nat → ClassId) (st : Nat → Int32) (lg : Nat → Int64) (ai : Nat → Nat → Int32) (al : Nat → Nat → Int64) (p0 : Int64) (sz : Nat) (hf1a : 1 ≤ (st 1).toInt) (hf1b : (st 1).toInt ≤ 65536) (hf3a : 0 ≤ (st 3).toInt) (hf3b : (st 3).toInt ≤ 1) : Met l yX9_page wsX9_page ({ frames := 6, cells := 0, slots := 0, locals := 137 }) (va_Pc [.ref o, .long p0] (fun U => U.heap.size = sz ∧ va_P (dC, dI) vwCl (rw_W o c kc st lg ai al) U.heap ∧ va_K (dC, dI) vwCl (rw_T kc) U ∧ va_D (fun _ => True) (rw_W o c kc st lg ai al))) (va_Qi (fun r (u : Int32) => r = u) (fun u t => ∃ (x13 : Int32), va_P (dC, dI) vwCl (rw_W o c kc (rU st 13 x13) lg ai al) t.heap) (va_A (rw_W o c kc st lg ai al) sz)) 0 0 (va_A (rw_W o c kc st lg ai al) sz) := by
  refine Met.ofW (cc := cX9_page) (maxL := 3) (ret := (some .int)) (by decide) rfl ?_
  intro p e s m args below meth cM s₁ B hml hv
  obtain ⟨rfl, hsz, hP, hK, hD0⟩ := hv
  have hx := B.exec
  have hb := B.bytes
  have hr := B.returns
  have hts := atoms_spec (ws := wsX9_page) B.pre
  have hown : s.vm.findClass RX9 = some m.cls := findClass_of_methodNamed B.named
  subst hsz
  have hD := hD0.self (sz := s.heap.size)
  generalize hAe : va_A (rw_W o c kc st lg ai al) s.heap.size = A at hD ⊢
  have hA : ∀ q : Nat, s.heap.size ≤ q → A q := fun q h => by rw [← hAe]; exact Or.inr h
  have hS : va_S A s.heap s.heap [] := va_S.rf
  clear hAe hD0
  have hl := lv_entry ([.ref o, .long p0]) (n := 3) (Nat.le_of_ble_eq_true rfl)
  rw [lg_entry_eq]
  generalize (lg_sl ([.ref o, .long p0]) ++ List.replicate (3 - (lg_sl ([.ref o, .long p0])).length) Slot.unset).toArray = ls at hl ⊢
  have hl : lv_has ls 3 [(0, .ref o), (1, .long p0)] := hl
  have z_0 : (0 : Int32).toInt = 0 := by decide
  have z_1 : (1 : Int32).toInt = 1 := by decide
  have hin9 : ∀ w ∈ u_ws RX9 TX9 38, w ∈ wsX9_page := by decide +kernel
  have main : ∀ (H : Heap) (locs : List Loc), va_P (dC, dI) vwCl (rw_W o c kc st lg ai al) H → va_S A s.heap H locs → W p l e (headSpec wsX9_page ({ frames := 6, cells := 0, slots := 0, locals := 137 })).room s m ([.ref o, .long p0] : List Value).toArray below meth cM H locs 0 0 (MQ below (va_Qi (fun r (u : Int32) => r = u) (fun u t => ∃ (x13 : Int32), va_P (dC, dI) vwCl (rw_W o c kc (rU st 13 x13) lg ai al) t.heap) A) ([.ref o, .long p0] : List Value).toArray s 0 0 A) (F0 m 0 ls []) := by
    intro H locs hP hS
    refine lv_aload_n hx hb dX9_page_0 rfl (lv_at hl 0 rfl) ?_
    refine lv_aload_n hx hb dX9_page_1 rfl (lv_at hl 0 rfl) ?_
    refine va_get (D := (dC, dI)) (ci := 11) (v := .int (st 3)) (C := RX9) (T := TX9) (N := 38) hx hb hts hin9 hown hK hP 0 rfl rfl 3 (by decide) (hts (.fieldLink RX9 72 "BlockLogModel" "on" "Z") (by decide +kernel)) (fun _ h9 => h9) rfl dX9_page_2 ?_
    refine lv_if_eq (tgt := 12) hx hb dX9_page_5 (by decide) (fun c_1 => ?_) (fun c_1 => ?_)
    · skip
      have ic_1 := iv_eq c_1
      refine lv_iconst (v := 1) hx hb dX9_page_12 (by decide) ?_
      refine va_put (D := (dC, dI)) (ci := 11) (v := .int (1 : Int32)) (ty := .int) (C := RX9) (T := TX9) (N := 38) hx hb hts hin9 tyX9 tyX9_ok nmX9 hown hK hP (rw_D hD) hS 0 rfl rfl 13 (by decide) (hts (.fieldLink RX9 91 "BlockLogModel" "thrown" "I") (by decide +kernel)) (fun _ h9 => h9) rfl (by decide +kernel) rfl rfl (Nat.le_of_ble_eq_true rfl) dX9_page_13 (fun H locs hP _ hS => ?_)
      have hP : va_P (dC, dI) vwCl (rw_W o c kc (rU st 13 (1 : Int32)) lg ai al) H := hP
      refine lv_aload_n hx hb dX9_page_16 rfl (lv_at hl 0 rfl) ?_
      refine va_get (D := (dC, dI)) (ci := 11) (v := .int (st 3)) (C := RX9) (T := TX9) (N := 38) hx hb hts hin9 hown hK hP 0 rfl rfl 3 (by decide) (hts (.fieldLink RX9 72 "BlockLogModel" "on" "Z") (by decide +kernel)) (fun _ h9 => h9) rfl dX9_page_17 ?_
      refine lv_if_eq (tgt := 31) hx hb dX9_page_20 (by decide) (fun c_2 => ?_) (fun c_2 => ?_)
      · skip
        have ic_2 := iv_eq c_2
        refine lv_iconst (v := 0) hx hb dX9_page_31 (by decide) ?_
        exact W.iret hx hb hr (fun t ht hW => ⟨⟨_, _, rfl, rfl, (1 : Int32), by rw [ht]; exact hP⟩, hS.F ht⟩) hS.2.2 dX9_page_32
      · skip
        have ic_2 := iv_ne c_2
        exfalso
        omega
    · skip
      have ic_1 := iv_ne c_1
      refine lv_iconst (v := 0) hx hb dX9_page_8 (by decide) ?_
      refine lv_goto (tgt := 13) hx hb dX9_page_9 (by decide) ?_
      refine va_put (D := (dC, dI)) (ci := 11) (v := .int (0 : Int32)) (ty := .int) (C := RX9) (T := TX9) (N := 38) hx hb hts hin9 tyX9 tyX9_ok nmX9 hown hK hP (rw_D hD) hS 0 rfl rfl 13 (by decide) (hts (.fieldLink RX9 91 "BlockLogModel" "thrown" "I") (by decide +kernel)) (fun _ h9 => h9) rfl (by decide +kernel) rfl rfl (Nat.le_of_ble_eq_true rfl) dX9_page_13 (fun H locs hP _ hS => ?_)
      have hP : va_P (dC, dI) vwCl (rw_W o c kc (rU st 13 (0 : Int32)) lg ai al) H := hP
      refine lv_aload_n hx hb dX9_page_16 rfl (lv_at hl 0 rfl) ?_
      refine va_get (D := (dC, dI)) (ci := 11) (v := .int (st 3)) (C := RX9) (T := TX9) (N := 38) hx hb hts hin9 hown hK hP 0 rfl rfl 3 (by decide) (hts (.fieldLink RX9 72 "BlockLogModel" "on" "Z") (by decide +kernel)) (fun _ h9 => h9) rfl dX9_page_17 ?_
      refine lv_if_eq (tgt := 31) hx hb dX9_page_20 (by decide) (fun c_3 => ?_) (fun c_3 => ?_)
      · skip
        have ic_3 := iv_eq c_3
        exfalso
        omega
      · skip
        have ic_3 := iv_ne c_3
        refine lv_aload_n hx hb dX9_page_23 rfl (lv_at hl 0 rfl) ?_
        refine lv_lload_n hx hb dX9_page_24 rfl (lv_at hl 1 rfl) ?_
        refine vp_callSi (va_Run.run (va_runV (As := [.long p0]) (rest := []) ⟨hx, hb, hml, hown, hts⟩ (v_X9_pageOf l dC dI o c kc (rU st 13 (0 : Int32)) lg ai al p0 (show 1 ≤ (st 1).toInt by omega) (show (st 1).toInt ≤ 65536 by omega)) (cwV 1 hts gX9_page_X9_pageOf rfl rfl rfl (by decide +kernel) ⟨Nat.le_of_ble_eq_true rfl, Nat.le_of_ble_eq_true rfl⟩) ⟨fun a U g mk q => by obtain ⟨q0, qP, qK⟩ := q; exact ⟨q0, qP, va_K.moved (u := U) (U := U.calling g mk a) (Vm.Alike.refl U.vm) qK⟩, va_recv hK hP (ci := 11) (q := (RX9, TX9, 38)) rfl (q0 := 0) rfl, fun U hU hW => ⟨rfl, by rw [hU]; exact hP, va_K.moved hW.alike hK⟩⟩ rfl rfl hl.1 rfl (lv_room (Nat.le_of_ble_eq_true rfl)) dX9_page_25 ⟨Nat.le_of_ble_eq_true rfl, Nat.le_of_ble_eq_true rfl⟩)) (fun r_4 er_4 => ?_)
        obtain ⟨k_5, k_6, hp⟩ := er_4
        have k_6 : r_4.toInt < (st 1).toInt := k_6
        have hp : (r_4.toInt = -1 → noP (ai 0) (st 1) p0) ∧ (r_4.toInt ≠ -1 → ¬ noP (ai 0) (st 1) p0 ∧ 1 ≤ (rS (ai 0) r_4).toInt ∧ (rS (ai 0) r_4).toInt ≤ 16) := hp
        refine lv_goto (tgt := 32) hx hb dX9_page_28 (by decide) ?_
        exact W.iret hx hb hr (fun t ht hW => ⟨⟨_, _, rfl, rfl, (0 : Int32), by rw [ht]; exact hP⟩, hS.F ht⟩) hS.2.2 dX9_page_32
  exact main s.heap [] hP hS

set_option maxHeartbeats 4000000 in
set_option maxRecDepth 100000 in
theorem v_X9_byteOf (l : Launch) (dC : Nat → ClassId) (dI : Nat → Nat → Nat) (o : Nat) (c : Nat → Nat) (kc : Nat → ClassId) (st : Nat → Int32) (lg : Nat → Int64) (ai : Nat → Nat → Int32) (al : Nat → Nat → Int64) (p0 : Int32) (p1 : Int32) (sz : Nat) (hf1a : 1 ≤ (st 1).toInt) (hf1b : (st 1).toInt ≤ 65536) (hf3a : 0 ≤ (st 3).toInt) (hf3b : (st 3).toInt ≤ 1) : Met l yX9_byteOf wsX9_byteOf ({ frames := 5, cells := 0, slots := 0, locals := 114 }) (va_Pc [.ref o, .int p0, .int p1] (fun U => U.heap.size = sz ∧ va_P (dC, dI) vwCl (rw_W o c kc st lg ai al) U.heap ∧ va_K (dC, dI) vwCl (rw_T kc) U ∧ va_D (fun _ => True) (rw_W o c kc st lg ai al))) (va_Qi (fun r (u : Int32) => r = u) (fun u t => ∃ (x13 : Int32), va_P (dC, dI) vwCl (rw_W o c kc (rU st 13 x13) lg ai al) t.heap) (va_A (rw_W o c kc st lg ai al) sz)) 0 0 (va_A (rw_W o c kc st lg ai al) sz) := by
  refine Met.ofW (cc := cX9_byteOf) (maxL := 4) (ret := (some .int)) (by decide) rfl ?_
  intro p e s m args below meth cM s₁ B hml hv
  obtain ⟨rfl, hsz, hP, hK, hD0⟩ := hv
  have hx := B.exec
  have hb := B.bytes
  have hr := B.returns
  have hts := atoms_spec (ws := wsX9_byteOf) B.pre
  have hown : s.vm.findClass RX9 = some m.cls := findClass_of_methodNamed B.named
  subst hsz
  have hD := hD0.self (sz := s.heap.size)
  generalize hAe : va_A (rw_W o c kc st lg ai al) s.heap.size = A at hD ⊢
  have hA : ∀ q : Nat, s.heap.size ≤ q → A q := fun q h => by rw [← hAe]; exact Or.inr h
  have hS : va_S A s.heap s.heap [] := va_S.rf
  clear hAe hD0
  have hl := lv_entry ([.ref o, .int p0, .int p1]) (n := 4) (Nat.le_of_ble_eq_true rfl)
  rw [lg_entry_eq]
  generalize (lg_sl ([.ref o, .int p0, .int p1]) ++ List.replicate (4 - (lg_sl ([.ref o, .int p0, .int p1])).length) Slot.unset).toArray = ls at hl ⊢
  have hl : lv_has ls 4 [(0, .ref o), (1, .int p0), (2, .int p1)] := hl
  have z_m1 : (-1 : Int32).toInt = -1 := by decide
  have z_0 : (0 : Int32).toInt = 0 := by decide
  have z_1 : (1 : Int32).toInt = 1 := by decide
  have z_2 : (2 : Int32).toInt = 2 := by decide
  have z_15 : (15 : Int32).toInt = 15 := by decide
  have hin9 : ∀ w ∈ u_ws RX9 TX9 38, w ∈ wsX9_byteOf := by decide +kernel
  have main : ∀ (H : Heap) (locs : List Loc), va_P (dC, dI) vwCl (rw_W o c kc st lg ai al) H → va_S A s.heap H locs → W p l e (headSpec wsX9_byteOf ({ frames := 5, cells := 0, slots := 0, locals := 114 })).room s m ([.ref o, .int p0, .int p1] : List Value).toArray below meth cM H locs 0 0 (MQ below (va_Qi (fun r (u : Int32) => r = u) (fun u t => ∃ (x13 : Int32), va_P (dC, dI) vwCl (rw_W o c kc (rU st 13 x13) lg ai al) t.heap) A) ([.ref o, .int p0, .int p1] : List Value).toArray s 0 0 A) (F0 m 0 ls []) := by
    intro H locs hP hS
    refine lv_aload_n hx hb dX9_byteOf_0 rfl (lv_at hl 0 rfl) ?_
    refine lv_iload_n hx hb dX9_byteOf_1 rfl (lv_at hl 1 rfl) ?_
    refine lv_iconst (v := 0) hx hb dX9_byteOf_2 (by decide) ?_
    refine lv_aload_n hx hb dX9_byteOf_3 rfl (lv_at hl 0 rfl) ?_
    refine va_get (D := (dC, dI)) (ci := 11) (v := .int (st 1)) (C := RX9) (T := TX9) (N := 38) hx hb hts hin9 hown hK hP 0 rfl rfl 1 (by decide) (hts (.fieldLink RX9 62 "BlockLogModel" "pages" "I") (by decide +kernel)) (fun _ h9 => h9) rfl dX9_byteOf_4 ?_
    refine lv_iconst (v := 1) hx hb dX9_byteOf_7 (by decide) ?_
    refine lv_isub hx hb dX9_byteOf_8 ?_
    refine lv_topi (fun v_1 ev_1 => ?_)
    have rg1 := iv_rng (st 1)
    have hv_1 : v_1.toInt = (st 1).toInt - 1 := by rw [ev_1]; exact (iv_sub (by omega) (by omega)).trans (by omega)
    clear ev_1
    refine vp_callSi (va_Run.run (va_runS (As := [.int p0, .int (0 : Int32), .int v_1]) (rest := [.ref o]) ⟨hx, hb, hml, hown, hts⟩ (v_X9_within l dC dI p0 (0 : Int32) v_1 ) (va_cwS 3 hts gX9_byteOf_X9_within rfl rfl rfl (by decide +kernel) ⟨Nat.le_of_ble_eq_true rfl, Nat.le_of_ble_eq_true rfl⟩) ⟨fun a U g mk q => q, fun U hU hW => ⟨rfl, trivial⟩⟩ rfl rfl hl.1 rfl (lv_room (Nat.le_of_ble_eq_true rfl)) dX9_byteOf_9 ⟨Nat.le_of_ble_eq_true rfl, Nat.le_of_ble_eq_true rfl⟩)) (fun r_2 er_2 => ?_)
    obtain ⟨k_3, k_4, k_5, k_6, k_7⟩ := er_2
    rcases iv_01 (a := r_2) (by omega) (by omega) with b_8 | b_8
    · skip
      have ib_8 := iv_eq b_8
      rw [b_8]
      refine lv_if_eq (tgt := 25) hx hb dX9_byteOf_12 (by decide) (fun c_9 => ?_) (fun c_9 => ?_)
      · skip
        have ic_9 := iv_eq c_9
        refine lv_iconst (v := 1) hx hb dX9_byteOf_25 (by decide) ?_
        refine lv_goto (tgt := 41) hx hb dX9_byteOf_26 (by decide) ?_
        refine va_put (D := (dC, dI)) (ci := 11) (v := .int (1 : Int32)) (ty := .int) (C := RX9) (T := TX9) (N := 38) hx hb hts hin9 tyX9 tyX9_ok nmX9 hown hK hP (rw_D hD) hS 0 rfl rfl 13 (by decide) (hts (.fieldLink RX9 91 "BlockLogModel" "thrown" "I") (by decide +kernel)) (fun _ h9 => h9) rfl (by decide +kernel) rfl rfl (Nat.le_of_ble_eq_true rfl) dX9_byteOf_41 (fun H locs hP _ hS => ?_)
        have hP : va_P (dC, dI) vwCl (rw_W o c kc (rU st 13 (1 : Int32)) lg ai al) H := hP
        refine lv_aload_n hx hb dX9_byteOf_44 rfl (lv_at hl 0 rfl) ?_
        refine va_get (D := (dC, dI)) (ci := 11) (v := .int (1 : Int32)) (C := RX9) (T := TX9) (N := 38) hx hb hts hin9 hown hK hP 0 rfl rfl 13 (by decide) (hts (.fieldLink RX9 91 "BlockLogModel" "thrown" "I") (by decide +kernel)) (fun _ h9 => h9) rfl dX9_byteOf_45 ?_
        refine lv_if_le (tgt := 53) hx hb dX9_byteOf_48 (by decide) (fun c_10 => ?_) (fun c_10 => ?_)
        · skip
          have ic_10 := iv_le c_10
          exfalso
          omega
        · skip
          have ic_10 := iv_nle c_10
          refine lv_iconst (v := 0) hx hb dX9_byteOf_51 (by decide) ?_
          exact W.iret hx hb hr (fun t ht hW => ⟨⟨_, _, rfl, rfl, (1 : Int32), by rw [ht]; exact hP⟩, hS.F ht⟩) hS.2.2 dX9_byteOf_52
      · skip
        have ic_9 := iv_ne c_9
        exfalso
        omega
    · skip
      have ib_8 := iv_eq b_8
      rw [b_8]
      refine lv_if_eq (tgt := 25) hx hb dX9_byteOf_12 (by decide) (fun c_11 => ?_) (fun c_11 => ?_)
      · skip
        have ic_11 := iv_eq c_11
        exfalso
        omega
      · skip
        have ic_11 := iv_ne c_11
        refine lv_iload_n hx hb dX9_byteOf_15 rfl (lv_at hl 2 rfl) ?_
        refine lv_iconst (v := 0) hx hb dX9_byteOf_16 (by decide) ?_
        refine lv_bipush (v := 15) hx hb dX9_byteOf_17 (by decide) ?_
        refine vp_callSi (va_Run.run (va_runS (As := [.int p1, .int (0 : Int32), .int (15 : Int32)]) (rest := [.ref o]) ⟨hx, hb, hml, hown, hts⟩ (v_X9_within l dC dI p1 (0 : Int32) (15 : Int32) ) (va_cwS 3 hts gX9_byteOf_X9_within rfl rfl rfl (by decide +kernel) ⟨Nat.le_of_ble_eq_true rfl, Nat.le_of_ble_eq_true rfl⟩) ⟨fun a U g mk q => q, fun U hU hW => ⟨rfl, trivial⟩⟩ rfl rfl hl.1 rfl (lv_room (Nat.le_of_ble_eq_true rfl)) dX9_byteOf_19 ⟨Nat.le_of_ble_eq_true rfl, Nat.le_of_ble_eq_true rfl⟩)) (fun r_12 er_12 => ?_)
        obtain ⟨k_13, k_14, k_15, k_16, k_17⟩ := er_12
        rcases iv_01 (a := r_12) (by omega) (by omega) with b_18 | b_18
        · skip
          have ib_18 := iv_eq b_18
          rw [b_18]
          refine lv_if_ne (tgt := 29) hx hb dX9_byteOf_22 (by decide) (fun c_19 => ?_) (fun c_19 => ?_)
          · skip
            have ic_19 := iv_ne c_19
            exfalso
            omega
          · skip
            have ic_19 := iv_eq c_19
            refine lv_iconst (v := 1) hx hb dX9_byteOf_25 (by decide) ?_
            refine lv_goto (tgt := 41) hx hb dX9_byteOf_26 (by decide) ?_
            refine va_put (D := (dC, dI)) (ci := 11) (v := .int (1 : Int32)) (ty := .int) (C := RX9) (T := TX9) (N := 38) hx hb hts hin9 tyX9 tyX9_ok nmX9 hown hK hP (rw_D hD) hS 0 rfl rfl 13 (by decide) (hts (.fieldLink RX9 91 "BlockLogModel" "thrown" "I") (by decide +kernel)) (fun _ h9 => h9) rfl (by decide +kernel) rfl rfl (Nat.le_of_ble_eq_true rfl) dX9_byteOf_41 (fun H locs hP _ hS => ?_)
            have hP : va_P (dC, dI) vwCl (rw_W o c kc (rU st 13 (1 : Int32)) lg ai al) H := hP
            refine lv_aload_n hx hb dX9_byteOf_44 rfl (lv_at hl 0 rfl) ?_
            refine va_get (D := (dC, dI)) (ci := 11) (v := .int (1 : Int32)) (C := RX9) (T := TX9) (N := 38) hx hb hts hin9 hown hK hP 0 rfl rfl 13 (by decide) (hts (.fieldLink RX9 91 "BlockLogModel" "thrown" "I") (by decide +kernel)) (fun _ h9 => h9) rfl dX9_byteOf_45 ?_
            refine lv_if_le (tgt := 53) hx hb dX9_byteOf_48 (by decide) (fun c_20 => ?_) (fun c_20 => ?_)
            · skip
              have ic_20 := iv_le c_20
              exfalso
              omega
            · skip
              have ic_20 := iv_nle c_20
              refine lv_iconst (v := 0) hx hb dX9_byteOf_51 (by decide) ?_
              exact W.iret hx hb hr (fun t ht hW => ⟨⟨_, _, rfl, rfl, (1 : Int32), by rw [ht]; exact hP⟩, hS.F ht⟩) hS.2.2 dX9_byteOf_52
        · skip
          have ib_18 := iv_eq b_18
          rw [b_18]
          refine lv_if_ne (tgt := 29) hx hb dX9_byteOf_22 (by decide) (fun c_21 => ?_) (fun c_21 => ?_)
          · skip
            have ic_21 := iv_ne c_21
            refine lv_aload_n hx hb dX9_byteOf_29 rfl (lv_at hl 0 rfl) ?_
            refine va_get (D := (dC, dI)) (ci := 11) (v := .int (st 3)) (C := RX9) (T := TX9) (N := 38) hx hb hts hin9 hown hK hP 0 rfl rfl 3 (by decide) (hts (.fieldLink RX9 72 "BlockLogModel" "on" "Z") (by decide +kernel)) (fun _ h9 => h9) rfl dX9_byteOf_30 ?_
            refine lv_if_ne (tgt := 40) hx hb dX9_byteOf_33 (by decide) (fun c_22 => ?_) (fun c_22 => ?_)
            · skip
              have ic_22 := iv_ne c_22
              refine lv_iconst (v := 0) hx hb dX9_byteOf_40 (by decide) ?_
              refine va_put (D := (dC, dI)) (ci := 11) (v := .int (0 : Int32)) (ty := .int) (C := RX9) (T := TX9) (N := 38) hx hb hts hin9 tyX9 tyX9_ok nmX9 hown hK hP (rw_D hD) hS 0 rfl rfl 13 (by decide) (hts (.fieldLink RX9 91 "BlockLogModel" "thrown" "I") (by decide +kernel)) (fun _ h9 => h9) rfl (by decide +kernel) rfl rfl (Nat.le_of_ble_eq_true rfl) dX9_byteOf_41 (fun H locs hP _ hS => ?_)
              have hP : va_P (dC, dI) vwCl (rw_W o c kc (rU st 13 (0 : Int32)) lg ai al) H := hP
              refine lv_aload_n hx hb dX9_byteOf_44 rfl (lv_at hl 0 rfl) ?_
              refine va_get (D := (dC, dI)) (ci := 11) (v := .int (0 : Int32)) (C := RX9) (T := TX9) (N := 38) hx hb hts hin9 hown hK hP 0 rfl rfl 13 (by decide) (hts (.fieldLink RX9 91 "BlockLogModel" "thrown" "I") (by decide +kernel)) (fun _ h9 => h9) rfl dX9_byteOf_45 ?_
              refine lv_if_le (tgt := 53) hx hb dX9_byteOf_48 (by decide) (fun c_23 => ?_) (fun c_23 => ?_)
              · skip
                have ic_23 := iv_le c_23
                refine lv_aload_n hx hb dX9_byteOf_53 rfl (lv_at hl 0 rfl) ?_
                refine lv_iload_n hx hb dX9_byteOf_54 rfl (lv_at hl 1 rfl) ?_
                refine vp_callSi (va_Run.run (va_runV (As := [.int p0]) (rest := []) ⟨hx, hb, hml, hown, hts⟩ (v_X9_pagePlace l dC dI o c kc (rU st 13 (0 : Int32)) lg ai al p0 (by omega) (by omega)) (cwV 1 hts gX9_byteOf_X9_pagePlace rfl rfl rfl (by decide +kernel) ⟨Nat.le_of_ble_eq_true rfl, Nat.le_of_ble_eq_true rfl⟩) ⟨fun a U g mk q => by obtain ⟨q0, qP, qK⟩ := q; exact ⟨q0, qP, va_K.moved (u := U) (U := U.calling g mk a) (Vm.Alike.refl U.vm) qK⟩, va_recv hK hP (ci := 11) (q := (RX9, TX9, 38)) rfl (q0 := 0) rfl, fun U hU hW => ⟨rfl, by rw [hU]; exact hP, va_K.moved hW.alike hK⟩⟩ rfl rfl hl.1 rfl (lv_room (Nat.le_of_ble_eq_true rfl)) dX9_byteOf_55 ⟨Nat.le_of_ble_eq_true rfl, Nat.le_of_ble_eq_true rfl⟩)) (fun r_24 er_24 => ?_)
                have k_25 := er_24
                refine lv_istore_n (lv' := [(3, .int r_24), (0, .ref o), (1, .int p0), (2, .int p1)]) hx hb dX9_byteOf_58 rfl hl (by decide) rfl (fun ls hl => ?_)
                refine lv_aload_n hx hb dX9_byteOf_59 rfl (lv_at hl 1 rfl) ?_
                refine lv_iload_n hx hb dX9_byteOf_60 rfl (lv_at hl 2 rfl) ?_
                refine vp_callSi (va_Run.run (va_runV (As := [.int p0]) (rest := []) ⟨hx, hb, hml, hown, hts⟩ (v_X9_pageState l dC dI o c kc (rU st 13 (0 : Int32)) lg ai al p0 (by omega) (by omega)) (cwV 1 hts gX9_byteOf_X9_pageState rfl rfl rfl (by decide +kernel) ⟨Nat.le_of_ble_eq_true rfl, Nat.le_of_ble_eq_true rfl⟩) ⟨fun a U g mk q => by obtain ⟨q0, qP, qK⟩ := q; exact ⟨q0, qP, va_K.moved (u := U) (U := U.calling g mk a) (Vm.Alike.refl U.vm) qK⟩, va_recv hK hP (ci := 11) (q := (RX9, TX9, 38)) rfl (q0 := 0) rfl, fun U hU hW => ⟨rfl, by rw [hU]; exact hP, va_K.moved hW.alike hK⟩⟩ rfl rfl hl.1 rfl (lv_room (Nat.le_of_ble_eq_true rfl)) dX9_byteOf_61 ⟨Nat.le_of_ble_eq_true rfl, Nat.le_of_ble_eq_true rfl⟩)) (fun r_26 er_26 => ?_)
                obtain ⟨k_27, k_28, hrt⟩ := er_26
                have hrt : (r_26.toInt = 1 → rtQ (ai 0) p0) ∧ (r_26.toInt ≠ 1 → ¬ rtQ (ai 0) p0) := hrt
                refine lv_iconst (v := 1) hx hb dX9_byteOf_64 (by decide) ?_
                refine lv_icmp_ne (tgt := 77) hx hb dX9_byteOf_65 (by decide) (fun c_29 => ?_) (fun c_29 => ?_)
                · skip
                  have ic_29 := iv_ne c_29
                  refine lv_iconst (v := (-1)) hx hb dX9_byteOf_77 (by decide) ?_
                  refine lv_goto (tgt := 90) hx hb dX9_byteOf_78 (by decide) ?_
                  exact W.iret hx hb hr (fun t ht hW => ⟨⟨_, _, rfl, rfl, (0 : Int32), by rw [ht]; exact hP⟩, hS.F ht⟩) hS.2.2 dX9_byteOf_90
                · skip
                  have ic_29 := iv_eq c_29
                  refine lv_iload_n hx hb dX9_byteOf_68 rfl (lv_at hl 3 rfl) ?_
                  refine lv_aload_n hx hb dX9_byteOf_69 rfl (lv_at hl 1 rfl) ?_
                  refine lv_iload_n hx hb dX9_byteOf_70 rfl (lv_at hl 0 rfl) ?_
                  refine vp_callSi (va_Run.run (va_runV (As := [.int r_24]) (rest := [.int p1]) ⟨hx, hb, hml, hown, hts⟩ (v_X9_byteIn l dC dI o c kc (rU st 13 (0 : Int32)) lg ai al r_24 (by omega) (by omega)) (cwV 1 hts gX9_byteOf_X9_byteIn rfl rfl rfl (by decide +kernel) ⟨Nat.le_of_ble_eq_true rfl, Nat.le_of_ble_eq_true rfl⟩) ⟨fun a U g mk q => by obtain ⟨q0, qP, qK⟩ := q; exact ⟨q0, qP, va_K.moved (u := U) (U := U.calling g mk a) (Vm.Alike.refl U.vm) qK⟩, va_recv hK hP (ci := 11) (q := (RX9, TX9, 38)) rfl (q0 := 0) rfl, fun U hU hW => ⟨rfl, by rw [hU]; exact hP, va_K.moved hW.alike hK⟩⟩ rfl rfl hl.1 rfl (lv_room (Nat.le_of_ble_eq_true rfl)) dX9_byteOf_71 ⟨Nat.le_of_ble_eq_true rfl, Nat.le_of_ble_eq_true rfl⟩)) (fun r_30 er_30 => ?_)
                  obtain ⟨k_31, k_32, k_33⟩ := er_30
                  have k_31 : r_30.toInt = (md_get (ai 0) r_24).toInt := k_31
                  refine lv_icmp_lt (tgt := 81) hx hb dX9_byteOf_74 (by decide) (fun c_34 => ?_) (fun c_34 => ?_)
                  · skip
                    have ic_34 := iv_lt c_34
                    refine lv_aload_n hx hb dX9_byteOf_81 rfl (lv_at hl 1 rfl) ?_
                    refine lv_iload_n hx hb dX9_byteOf_82 rfl (lv_at hl 0 rfl) ?_
                    refine lv_iconst (v := 1) hx hb dX9_byteOf_83 (by decide) ?_
                    refine lv_iadd hx hb dX9_byteOf_84 ?_
                    refine lv_topi (fun v_35 ev_35 => ?_)
                    have rg2 := iv_rng r_24
                    have hv_35 : v_35.toInt = r_24.toInt + 1 := by rw [ev_35]; exact (iv_add (by omega) (by omega)).trans (by omega)
                    clear ev_35
                    refine lv_iload_n hx hb dX9_byteOf_85 rfl (lv_at hl 3 rfl) ?_
                    refine lv_iadd hx hb dX9_byteOf_86 ?_
                    refine lv_topi (fun v_36 ev_36 => ?_)
                    have rg3 := iv_rng v_35
                    have rg4 := iv_rng p1
                    have hv_36 : v_36.toInt = v_35.toInt + p1.toInt := by rw [ev_36]; exact (iv_add (by omega) (by omega)).trans (by omega)
                    clear ev_36
                    refine vp_callSi (va_Run.run (va_runV (As := [.int v_36]) (rest := []) ⟨hx, hb, hml, hown, hts⟩ (v_X9_byteIn l dC dI o c kc (rU st 13 (0 : Int32)) lg ai al v_36 (by omega) (by omega)) (cwV 1 hts gX9_byteOf_X9_byteIn rfl rfl rfl (by decide +kernel) ⟨Nat.le_of_ble_eq_true rfl, Nat.le_of_ble_eq_true rfl⟩) ⟨fun a U g mk q => by obtain ⟨q0, qP, qK⟩ := q; exact ⟨q0, qP, va_K.moved (u := U) (U := U.calling g mk a) (Vm.Alike.refl U.vm) qK⟩, va_recv hK hP (ci := 11) (q := (RX9, TX9, 38)) rfl (q0 := 0) rfl, fun U hU hW => ⟨rfl, by rw [hU]; exact hP, va_K.moved hW.alike hK⟩⟩ rfl rfl hl.1 rfl (lv_room (Nat.le_of_ble_eq_true rfl)) dX9_byteOf_87 ⟨Nat.le_of_ble_eq_true rfl, Nat.le_of_ble_eq_true rfl⟩)) (fun r_37 er_37 => ?_)
                    obtain ⟨k_38, k_39, k_40⟩ := er_37
                    have k_38 : r_37.toInt = (md_get (ai 0) v_36).toInt := k_38
                    exact W.iret hx hb hr (fun t ht hW => ⟨⟨_, _, rfl, rfl, (0 : Int32), by rw [ht]; exact hP⟩, hS.F ht⟩) hS.2.2 dX9_byteOf_90
                  · skip
                    have ic_34 := iv_nlt c_34
                    refine lv_iconst (v := (-1)) hx hb dX9_byteOf_77 (by decide) ?_
                    refine lv_goto (tgt := 90) hx hb dX9_byteOf_78 (by decide) ?_
                    exact W.iret hx hb hr (fun t ht hW => ⟨⟨_, _, rfl, rfl, (0 : Int32), by rw [ht]; exact hP⟩, hS.F ht⟩) hS.2.2 dX9_byteOf_90
              · skip
                have ic_23 := iv_nle c_23
                exfalso
                omega
            · skip
              have ic_22 := iv_eq c_22
              refine lv_iconst (v := 2) hx hb dX9_byteOf_36 (by decide) ?_
              refine lv_goto (tgt := 41) hx hb dX9_byteOf_37 (by decide) ?_
              refine va_put (D := (dC, dI)) (ci := 11) (v := .int (2 : Int32)) (ty := .int) (C := RX9) (T := TX9) (N := 38) hx hb hts hin9 tyX9 tyX9_ok nmX9 hown hK hP (rw_D hD) hS 0 rfl rfl 13 (by decide) (hts (.fieldLink RX9 91 "BlockLogModel" "thrown" "I") (by decide +kernel)) (fun _ h9 => h9) rfl (by decide +kernel) rfl rfl (Nat.le_of_ble_eq_true rfl) dX9_byteOf_41 (fun H locs hP _ hS => ?_)
              have hP : va_P (dC, dI) vwCl (rw_W o c kc (rU st 13 (2 : Int32)) lg ai al) H := hP
              refine lv_aload_n hx hb dX9_byteOf_44 rfl (lv_at hl 0 rfl) ?_
              refine va_get (D := (dC, dI)) (ci := 11) (v := .int (2 : Int32)) (C := RX9) (T := TX9) (N := 38) hx hb hts hin9 hown hK hP 0 rfl rfl 13 (by decide) (hts (.fieldLink RX9 91 "BlockLogModel" "thrown" "I") (by decide +kernel)) (fun _ h9 => h9) rfl dX9_byteOf_45 ?_
              refine lv_if_le (tgt := 53) hx hb dX9_byteOf_48 (by decide) (fun c_41 => ?_) (fun c_41 => ?_)
              · skip
                have ic_41 := iv_le c_41
                exfalso
                omega
              · skip
                have ic_41 := iv_nle c_41
                refine lv_iconst (v := 0) hx hb dX9_byteOf_51 (by decide) ?_
                exact W.iret hx hb hr (fun t ht hW => ⟨⟨_, _, rfl, rfl, (2 : Int32), by rw [ht]; exact hP⟩, hS.F ht⟩) hS.2.2 dX9_byteOf_52
          · skip
            have ic_21 := iv_eq c_21
            exfalso
            omega
  exact main s.heap [] hP hS

set_option maxHeartbeats 4000000 in
set_option maxRecDepth 100000 in
theorem v_X9_slotsWithLeaf (l : Launch) (dC : Nat → ClassId) (dI : Nat → Nat → Nat) (o : Nat) (c : Nat → Nat) (kc : Nat → ClassId) (st : Nat → Int32) (lg : Nat → Int64) (ai : Nat → Nat → Int32) (al : Nat → Nat → Int64)   : Met l yX9_slotsWithLeaf wsX9_slotsWithLeaf ({ frames := 0, cells := 0, slots := 0, locals := 0 }) (va_Pc [.ref o] (fun U => va_P (dC, dI) vwCl (rw_W o c kc st lg ai al) U.heap ∧ va_K (dC, dI) vwCl (rw_T kc) U)) (vp_Si (fun r => (0 ≤ r.toInt) ∧ (r.toInt ≤ 16) ∧ (r.toInt = (cntL (al 28) 16 : Int)))) 0 0 (fun _ => False) := by
  refine Met.ofW (cc := cX9_slotsWithLeaf) (maxL := 3) (ret := (some .int)) (by decide) rfl ?_
  intro p e s m args below meth cM s₁ B hml hv
  obtain ⟨rfl, hP, hK⟩ := hv
  have hx := B.exec
  have hb := B.bytes
  have hr := B.returns
  have hts := atoms_spec (ws := wsX9_slotsWithLeaf) B.pre
  have hown : s.vm.findClass RX9 = some m.cls := findClass_of_methodNamed B.named
  have hl := lv_entry ([.ref o]) (n := 3) (Nat.le_of_ble_eq_true rfl)
  rw [lg_entry_eq]
  generalize (lg_sl ([.ref o]) ++ List.replicate (3 - (lg_sl ([.ref o])).length) Slot.unset).toArray = ls at hl ⊢
  have hl : lv_has ls 3 [(0, .ref o)] := hl
  have z_0 : (0 : Int32).toInt = 0 := by decide
  have z_1 : (1 : Int32).toInt = 1 := by decide
  have z_16 : (16 : Int32).toInt = 16 := by decide
  have hin9 : ∀ w ∈ u_ws RX9 TX9 38, w ∈ wsX9_slotsWithLeaf := by decide +kernel
  refine lv_iconst (v := 0) hx hb dX9_slotsWithLeaf_0 (by decide) ?_
  refine lv_istore_n (lv' := [(1, .int (0 : Int32)), (0, .ref o)]) hx hb dX9_slotsWithLeaf_1 rfl hl (by decide) rfl (fun ls hl => ?_)
  refine lv_iconst (v := 0) hx hb dX9_slotsWithLeaf_2 (by decide) ?_
  refine lv_istore_n (lv' := [(2, .int (0 : Int32)), (1, .int (0 : Int32)), (0, .ref o)]) hx hb dX9_slotsWithLeaf_3 rfl hl (by decide) rfl (fun ls hl => ?_)
  have loop4 : ∀ (n : Nat) (l2_4 : Int32) (l1_4 : Int32) (ls : Array Slot), (0 ≤ l2_4.toInt) → (l2_4.toInt ≤ 16) → (0 ≤ l1_4.toInt) → (l1_4.toInt ≤ l2_4.toInt) → (l1_4.toInt - 0 = (cntL (al 28) l2_4.toInt.toNat : Int)) → (16 - l2_4.toInt : Int).toNat < n → lv_has ls 3 [(2, .int l2_4), (1, .int l1_4), (0, .ref o)] → W p l e (headSpec wsX9_slotsWithLeaf ({ frames := 0, cells := 0, slots := 0, locals := 0 })).room s m ([.ref o] : List Value).toArray below meth cM s.heap [] 0 0 (MQ below (vp_Si (fun r => (0 ≤ r.toInt) ∧ (r.toInt ≤ 16) ∧ (r.toInt = (cntL (al 28) 16 : Int)))) ([.ref o] : List Value).toArray s 0 0 (fun _ => False)) (F0 m 4 ls []) := by
    intro n
    induction n with
    | zero => intro l2_4 l1_4 ls if0_4 if1_4 if2_4 if3_4 hcn hm; exact absurd hm (Nat.not_lt_zero _)
    | succ n ih4 =>
      intro l2_4 l1_4 ls if0_4 if1_4 if2_4 if3_4 hcn hm4 hl
      refine lv_iload_n hx hb dX9_slotsWithLeaf_4 rfl (lv_at hl 0 rfl) ?_
      refine lv_bipush (v := 16) hx hb dX9_slotsWithLeaf_5 (by decide) ?_
      refine lv_icmp_ge (tgt := 35) hx hb dX9_slotsWithLeaf_7 (by decide) (fun c_1 => ?_) (fun c_1 => ?_)
      · skip
        have ic_1 := iv_le c_1
        refine lv_iload_n hx hb dX9_slotsWithLeaf_35 rfl (lv_at hl 1 rfl) ?_
        exact W.iret hx hb hr (fun t ht hW => ⟨_, rfl, ⟨(by omega), (by omega), (cn_e hcn (by omega))⟩, ht⟩) (fun q h => by cases h) dX9_slotsWithLeaf_36
      · skip
        have ic_1 := iv_nle c_1
        refine lv_iload_n hx hb dX9_slotsWithLeaf_10 rfl (lv_at hl 1 rfl) ?_
        refine lv_aload_n hx hb dX9_slotsWithLeaf_11 rfl (lv_at hl 2 rfl) ?_
        refine va_get (D := (dC, dI)) (ci := 11) (v := .ref (c 28)) (C := RX9) (T := TX9) (N := 38) hx hb hts hin9 hown hK hP 0 rfl rfl 28 (by decide) (hts (.fieldLink RX9 40 "BlockLogModel" "state" "[J") (by decide +kernel)) (fun _ h9 => h9) rfl dX9_slotsWithLeaf_12 ?_
        refine lv_iload_n hx hb dX9_slotsWithLeaf_15 rfl (lv_at hl 0 rfl) ?_
        refine va_lald (f := al 28) hx hb hK hP 10 9 rfl rfl (iv_in (i := l2_4) (by omega) (by omega)) dX9_slotsWithLeaf_16 ?_
        refine lv_topl (fun w_2 ew_2 => ?_)
        have hX_state := ew_2
        clear ew_2
        refine lv_lconst (v := 0) hx hb dX9_slotsWithLeaf_17 (by decide) ?_
        refine W.lcmp hx hb dX9_slotsWithLeaf_18 ?_
        refine lv_topi (fun v_3 ev_3 => ?_)
        refine lv_if_eq (tgt := 26) hx hb dX9_slotsWithLeaf_19 (by decide) (fun c_4 => ?_) (fun c_4 => ?_)
        · skip
          have ic_4 := iv_eq c_4
          refine lv_iconst (v := 0) hx hb dX9_slotsWithLeaf_26 (by decide) ?_
          refine lv_iadd hx hb dX9_slotsWithLeaf_27 ?_
          refine lv_topi (fun v_5 ev_5 => ?_)
          have rg1 := iv_rng l1_4
          have hv_5 : v_5.toInt = l1_4.toInt + 0 := by rw [ev_5]; exact (iv_add (by omega) (by omega)).trans (by omega)
          refine lv_istore_n (lv' := [(1, .int v_5), (2, .int l2_4), (0, .ref o)]) hx hb dX9_slotsWithLeaf_28 rfl hl (by decide) rfl (fun ls hl => ?_)
          obtain ⟨x_6, ex_6⟩ : ∃ z : Int32, z = l2_4 + (1) := ⟨_, rfl⟩
          refine lv_iinc (v := x_6) (lv' := [(2, .int x_6), (1, .int v_5), (0, .ref o)]) hx hb dX9_slotsWithLeaf_29 hl (k := 1) rfl (by rw [ex_6]; rfl) (by decide) rfl (fun ls hl => ?_)
          have rg2 := iv_rng l2_4
          have hx_6 : x_6.toInt = l2_4.toInt + (1) := by rw [ex_6]; exact (iv_add (by omega) (by omega)).trans (by omega)
          clear ex_6
          refine lv_goto (tgt := 4) hx hb dX9_slotsWithLeaf_32 (by decide) ?_
          exact ih4 x_6 v_5 _ (by omega) (by omega) (by omega) (by omega) (by first | exact cn_1 (d := 0) hcn hX_state (by assumption) (by assumption) (by omega) (by omega) (by omega) | exact cn_z (d := 0) hcn hX_state (by assumption) (by assumption) (by omega) (by omega) (by omega)) (by omega) (lv_sub hl [0, 1, 2] rfl)
        · skip
          have ic_4 := iv_ne c_4
          refine lv_iconst (v := 1) hx hb dX9_slotsWithLeaf_22 (by decide) ?_
          refine lv_goto (tgt := 27) hx hb dX9_slotsWithLeaf_23 (by decide) ?_
          refine lv_iadd hx hb dX9_slotsWithLeaf_27 ?_
          refine lv_topi (fun v_7 ev_7 => ?_)
          have rg3 := iv_rng l1_4
          have hv_7 : v_7.toInt = l1_4.toInt + 1 := by rw [ev_7]; exact (iv_add (by omega) (by omega)).trans (by omega)
          refine lv_istore_n (lv' := [(1, .int v_7), (2, .int l2_4), (0, .ref o)]) hx hb dX9_slotsWithLeaf_28 rfl hl (by decide) rfl (fun ls hl => ?_)
          obtain ⟨x_8, ex_8⟩ : ∃ z : Int32, z = l2_4 + (1) := ⟨_, rfl⟩
          refine lv_iinc (v := x_8) (lv' := [(2, .int x_8), (1, .int v_7), (0, .ref o)]) hx hb dX9_slotsWithLeaf_29 hl (k := 1) rfl (by rw [ex_8]; rfl) (by decide) rfl (fun ls hl => ?_)
          have rg4 := iv_rng l2_4
          have hx_8 : x_8.toInt = l2_4.toInt + (1) := by rw [ex_8]; exact (iv_add (by omega) (by omega)).trans (by omega)
          clear ex_8
          refine lv_goto (tgt := 4) hx hb dX9_slotsWithLeaf_32 (by decide) ?_
          exact ih4 x_8 v_7 _ (by omega) (by omega) (by omega) (by omega) (by first | exact cn_1 (d := 0) hcn hX_state (by assumption) (by assumption) (by omega) (by omega) (by omega) | exact cn_z (d := 0) hcn hX_state (by assumption) (by assumption) (by omega) (by omega) (by omega)) (by omega) (lv_sub hl [0, 1, 2] rfl)
  exact loop4 ((16 - 0 : Int).toNat + 1) (0 : Int32) (0 : Int32) _ (by omega) (by omega) (by omega) (by omega) (cn_0 (by omega) (by omega)) (by omega) (lv_sub hl [0, 1, 2] rfl)

set_option maxHeartbeats 4000000 in
set_option maxRecDepth 100000 in
theorem v_X9_toTape (l : Launch) (dC : Nat → ClassId) (dI : Nat → Nat → Nat) (o : Nat) (c : Nat → Nat) (kc : Nat → ClassId) (st : Nat → Int32) (lg : Nat → Int64) (ai : Nat → Nat → Int32) (al : Nat → Nat → Int64) (p0 : Int64) (p1 : Int32) (sz : Nat) (hf9a : 0 ≤ (st 9).toInt) (hf9b : (st 9).toInt ≤ 400) (hq0 : 0 ≤ p1.toInt) (hq1 : p1.toInt ≤ 8) (hq2 : (st 9).toInt + p1.toInt ≤ 400) (hR8 : aR (ai 8) 400 (0) 255) : Met l yX9_toTape wsX9_toTape ({ frames := 0, cells := 0, slots := 0, locals := 0 }) (va_Pc [.ref o, .long p0, .int p1] (fun U => U.heap.size = sz ∧ va_P (dC, dI) vwCl (rw_W o c kc st lg ai al) U.heap ∧ va_K (dC, dI) vwCl (rw_T kc) U ∧ va_D (fun _ => True) (rw_W o c kc st lg ai al))) (va_Qv (fun (_ : Unit) => True) (fun _ t => ∃ (x9 : Int32) (f8 : Nat → Int32), (x9.toInt = (st 9).toInt + p1.toInt) ∧ (0 ≤ x9.toInt) ∧ (x9.toInt ≤ 400) ∧ (aR f8 400 (0) 255) ∧ va_P (dC, dI) vwCl (rw_W o c kc (rU st 9 x9) lg (rU ai 8 f8) al) t.heap) (va_A (rw_W o c kc st lg ai al) sz)) 0 0 (va_A (rw_W o c kc st lg ai al) sz) := by
  refine Met.ofW (cc := cX9_toTape) (maxL := 5) (ret := none) (by decide) rfl ?_
  intro p e s m args below meth cM s₁ B hml hv
  obtain ⟨rfl, hsz, hP, hK, hD0⟩ := hv
  have hx := B.exec
  have hb := B.bytes
  have hr := B.returns
  have hts := atoms_spec (ws := wsX9_toTape) B.pre
  have hown : s.vm.findClass RX9 = some m.cls := findClass_of_methodNamed B.named
  subst hsz
  have hD := hD0.self (sz := s.heap.size)
  generalize hAe : va_A (rw_W o c kc st lg ai al) s.heap.size = A at hD ⊢
  have hA : ∀ q : Nat, s.heap.size ≤ q → A q := fun q h => by rw [← hAe]; exact Or.inr h
  have hS : va_S A s.heap s.heap [] := va_S.rf
  clear hAe hD0
  have hl := lv_entry ([.ref o, .long p0, .int p1]) (n := 5) (Nat.le_of_ble_eq_true rfl)
  rw [lg_entry_eq]
  generalize (lg_sl ([.ref o, .long p0, .int p1]) ++ List.replicate (5 - (lg_sl ([.ref o, .long p0, .int p1])).length) Slot.unset).toArray = ls at hl ⊢
  have hl : lv_has ls 5 [(0, .ref o), (1, .long p0), (3, .int p1)] := hl
  have z_m1 : (-1 : Int32).toInt = -1 := by decide
  have z_0 : (0 : Int32).toInt = 0 := by decide
  have z_1 : (1 : Int32).toInt = 1 := by decide
  have z_8 : (8 : Int32).toInt = 8 := by decide
  have hin9 : ∀ w ∈ u_ws RX9 TX9 38, w ∈ wsX9_toTape := by decide +kernel
  have main : ∀ (H : Heap) (locs : List Loc), va_P (dC, dI) vwCl (rw_W o c kc st lg ai al) H → va_S A s.heap H locs → W p l e (headSpec wsX9_toTape ({ frames := 0, cells := 0, slots := 0, locals := 0 })).room s m ([.ref o, .long p0, .int p1] : List Value).toArray below meth cM H locs 0 0 (MQ below (va_Qv (fun (_ : Unit) => True) (fun _ t => ∃ (x9 : Int32) (f8 : Nat → Int32), (x9.toInt = (st 9).toInt + p1.toInt) ∧ (0 ≤ x9.toInt) ∧ (x9.toInt ≤ 400) ∧ (aR f8 400 (0) 255) ∧ va_P (dC, dI) vwCl (rw_W o c kc (rU st 9 x9) lg (rU ai 8 f8) al) t.heap) A) ([.ref o, .long p0, .int p1] : List Value).toArray s 0 0 A) (F0 m 0 ls []) := by
    intro H locs hP hS
    refine lv_iload_n hx hb dX9_toTape_0 rfl (lv_at hl 2 rfl) ?_
    refine lv_iconst (v := 1) hx hb dX9_toTape_1 (by decide) ?_
    refine lv_isub hx hb dX9_toTape_2 ?_
    refine lv_topi (fun v_1 ev_1 => ?_)
    have rg1 := iv_rng p1
    have hv_1 : v_1.toInt = p1.toInt - 1 := by rw [ev_1]; exact (iv_sub (by omega) (by omega)).trans (by omega)
    clear ev_1
    refine lv_istore (lv' := [(4, .int v_1), (0, .ref o), (1, .long p0), (3, .int p1)]) hx hb dX9_toTape_3 hl (by decide) rfl (fun ls hl => ?_)
    have loop5 : ∀ (n : Nat) (l4_5 : Int32) (s9_5 : Int32) (a8_5 : Nat → Int32) (H : Heap) (locs : List Loc) (ls : Array Slot), (-1 ≤ l4_5.toInt) → (l4_5.toInt < p1.toInt) → (s9_5.toInt + l4_5.toInt + 1 = (st 9).toInt + p1.toInt) → (0 ≤ s9_5.toInt) → (s9_5.toInt ≤ 400) → (aR a8_5 400 (0) 255) → (l4_5.toInt + 1 : Int).toNat < n → va_P (dC, dI) vwCl (rw_W o c kc (rU st 9 s9_5) lg (rU ai 8 a8_5) al) H → va_S A s.heap H locs → lv_has ls 5 [(4, .int l4_5), (0, .ref o), (1, .long p0), (3, .int p1)] → W p l e (headSpec wsX9_toTape ({ frames := 0, cells := 0, slots := 0, locals := 0 })).room s m ([.ref o, .long p0, .int p1] : List Value).toArray below meth cM H locs 0 0 (MQ below (va_Qv (fun (_ : Unit) => True) (fun _ t => ∃ (x9 : Int32) (f8 : Nat → Int32), (x9.toInt = (st 9).toInt + p1.toInt) ∧ (0 ≤ x9.toInt) ∧ (x9.toInt ≤ 400) ∧ (aR f8 400 (0) 255) ∧ va_P (dC, dI) vwCl (rw_W o c kc (rU st 9 x9) lg (rU ai 8 f8) al) t.heap) A) ([.ref o, .long p0, .int p1] : List Value).toArray s 0 0 A) (F0 m 5 ls []) := by
      intro n
      induction n with
      | zero => intro l4_5 s9_5 a8_5 H locs ls if0_5 if1_5 if2_5 if3_5 if4_5 hR8 hm; exact absurd hm (Nat.not_lt_zero _)
      | succ n ih5 =>
        intro l4_5 s9_5 a8_5 H locs ls if0_5 if1_5 if2_5 if3_5 if4_5 hR8 hm5 hP hS hl
        refine lv_iload hx hb dX9_toTape_5 (lv_at hl 0 rfl) ?_
        refine lv_if_lt (tgt := 44) hx hb dX9_toTape_7 (by decide) (fun c_2 => ?_) (fun c_2 => ?_)
        · skip
          have ic_2 := iv_lt c_2
          exact W.vret hx hb hr (fun t ht hW => ⟨⟨(), rfl, trivial, s9_5, a8_5, (by omega), (by omega), (by omega), hR8, by rw [ht]; exact hP⟩, hS.F ht⟩) hS.2.2 dX9_toTape_44
        · skip
          have ic_2 := iv_nlt c_2
          refine lv_aload_n hx hb dX9_toTape_10 rfl (lv_at hl 1 rfl) ?_
          refine va_get (D := (dC, dI)) (ci := 11) (v := .ref (c 8)) (C := RX9) (T := TX9) (N := 38) hx hb hts hin9 hown hK hP 0 rfl rfl 8 (by decide) (hts (.fieldLink RX9 14 "BlockLogModel" "tape" "[I") (by decide +kernel)) (fun _ h9 => h9) rfl dX9_toTape_11 ?_
          refine lv_aload_n hx hb dX9_toTape_14 rfl (lv_at hl 1 rfl) ?_
          refine lv_dup hx hb dX9_toTape_15 rfl ?_
          refine va_get (D := (dC, dI)) (ci := 11) (v := .int s9_5) (C := RX9) (T := TX9) (N := 38) hx hb hts hin9 hown hK hP 0 rfl rfl 9 (by decide) (hts (.fieldLink RX9 271 "BlockLogModel" "tapeSize" "I") (by decide +kernel)) (fun _ h9 => h9) rfl dX9_toTape_16 ?_
          refine lv_dup_x1 hx hb dX9_toTape_19 rfl rfl ?_
          refine lv_iconst (v := 1) hx hb dX9_toTape_20 (by decide) ?_
          refine lv_iadd hx hb dX9_toTape_21 ?_
          refine lv_topi (fun v_3 ev_3 => ?_)
          have rg2 := iv_rng s9_5
          have hv_3 : v_3.toInt = s9_5.toInt + 1 := by rw [ev_3]; exact (iv_add (by omega) (by omega)).trans (by omega)
          clear ev_3
          refine va_put (D := (dC, dI)) (ci := 11) (v := .int v_3) (ty := .int) (C := RX9) (T := TX9) (N := 38) hx hb hts hin9 tyX9 tyX9_ok nmX9 hown hK hP (rw_D hD) hS 0 rfl rfl 9 (by decide) (hts (.fieldLink RX9 271 "BlockLogModel" "tapeSize" "I") (by decide +kernel)) (fun _ h9 => h9) rfl (by decide +kernel) rfl rfl (Nat.le_of_ble_eq_true rfl) dX9_toTape_22 (fun H locs hP _ hS => ?_)
          have hP : va_P (dC, dI) vwCl (rw_W o c kc (rU st 9 v_3) lg (rU ai 8 a8_5) al) H := hP
          refine lv_lload_n hx hb dX9_toTape_25 rfl (lv_at hl 2 rfl) ?_
          refine lv_bipush (v := 8) hx hb dX9_toTape_26 (by decide) ?_
          refine lv_iload hx hb dX9_toTape_28 (lv_at hl 0 rfl) ?_
          refine lv_imul hx hb dX9_toTape_30 ?_
          refine lv_topi (fun v_4 ev_4 => ?_)
          have rg3 := iv_rng l4_5
          have hv_4 : v_4.toInt = 8 * l4_5.toInt := by rw [ev_4]; exact (iv_mulc z_8 (by omega) (by omega)).trans (by omega)
          clear ev_4
          refine lv_lushr hx hb dX9_toTape_31 rfl ?_
          refine lv_topl (fun w_5 ew_5 => ?_)
          clear ew_5
          refine lv_ldc2 hx hb hown (hts (.constantLong RX9 94 (255)) (by decide +kernel)) dX9_toTape_32 ?_
          refine lv_land hx hb dX9_toTape_35 ?_
          refine lv_topl (fun w_6 ew_6 => ?_)
          have hw_6 : 0 ≤ w_6.toInt32.toInt ∧ w_6.toInt32.toInt ≤ 255 := by rw [ew_6]; exact l255 _
          clear ew_6
          refine lv_l2i hx hb dX9_toTape_36 rfl ?_
          refine lv_topi (fun v_7 ev_7 => ?_)
          have hv_7 : 0 ≤ v_7.toInt ∧ v_7.toInt ≤ 255 := by rw [ev_7]; exact hw_6
          clear ev_7
          refine va_iast (f := a8_5) hx hb hK hP (rw_D hD) hS 2 1 rfl rfl (iv_in (i := s9_5) (by omega) (by omega)) dX9_toTape_37 (fun H locs hP _ hS => ?_)
          have hP : va_P (dC, dI) vwCl (rw_W o c kc (rU st 9 v_3) lg (rU ai 8 (upd a8_5 s9_5.toNatClampNeg v_7)) al) H := hP
          generalize hU_tape : upd a8_5 s9_5.toNatClampNeg v_7 = g_8 at hP
          have hR8 : aR g_8 400 (0) 255 := aR_upd hR8 hU_tape (by omega) (by omega)
          clear hU_tape
          obtain ⟨x_9, ex_9⟩ : ∃ z : Int32, z = l4_5 + (-1) := ⟨_, rfl⟩
          refine lv_iinc (v := x_9) (lv' := [(4, .int x_9), (0, .ref o), (1, .long p0), (3, .int p1)]) hx hb dX9_toTape_38 hl (k := 0) rfl (by rw [ex_9]; rfl) (by decide) rfl (fun ls hl => ?_)
          have hx_9 : x_9.toInt = l4_5.toInt + (-1) := by rw [ex_9]; exact (iv_add (by omega) (by omega)).trans (by omega)
          clear ex_9
          refine lv_goto (tgt := 5) hx hb dX9_toTape_41 (by decide) ?_
          exact ih5 x_9 v_3 g_8 _ _ _ (by omega) (by omega) (by omega) (by omega) (by omega) (by assumption) (by omega) hP hS (lv_sub hl [0, 1, 2, 3] rfl)
    exact loop5 ((v_1.toInt + 1 : Int).toNat + 1) v_1 (st 9) (ai 8) _ _ _ (by omega) (by omega) (by omega) (by omega) (by omega) (by assumption) (by omega) hP hS (lv_sub hl [0, 1, 2, 3] rfl)
  exact main s.heap [] hP hS

set_option maxHeartbeats 4000000 in
set_option maxRecDepth 100000 in
theorem v_X9_tapeSum (l : Launch) (dC : Nat → ClassId) (dI : Nat → Nat → Nat) (o : Nat) (c : Nat → Nat) (kc : Nat → ClassId) (st : Nat → Int32) (lg : Nat → Int64) (ai : Nat → Nat → Int32) (al : Nat → Nat → Int64) (p0 : Int32) (hq0 : 0 ≤ p0.toInt) (hq1 : p0.toInt ≤ 400) (hR8 : aR (ai 8) 400 (0) 255) : Met l yX9_tapeSum wsX9_tapeSum ({ frames := 1, cells := 0, slots := 0, locals := 24 }) (va_Pc [.ref o, .int p0] (fun U => va_P (dC, dI) vwCl (rw_W o c kc st lg ai al) U.heap ∧ va_K (dC, dI) vwCl (rw_T kc) U)) (vp_Sl (fun r => True)) 0 0 (fun _ => False) := by
  refine Met.ofW (cc := cX9_tapeSum) (maxL := 5) (ret := (some .long)) (by decide) rfl ?_
  intro p e s m args below meth cM s₁ B hml hv
  obtain ⟨rfl, hP, hK⟩ := hv
  have hx := B.exec
  have hb := B.bytes
  have hr := B.returns
  have hts := atoms_spec (ws := wsX9_tapeSum) B.pre
  have hown : s.vm.findClass RX9 = some m.cls := findClass_of_methodNamed B.named
  have hl := lv_entry ([.ref o, .int p0]) (n := 5) (Nat.le_of_ble_eq_true rfl)
  rw [lg_entry_eq]
  generalize (lg_sl ([.ref o, .int p0]) ++ List.replicate (5 - (lg_sl ([.ref o, .int p0])).length) Slot.unset).toArray = ls at hl ⊢
  have hl : lv_has ls 5 [(0, .ref o), (1, .int p0)] := hl
  have z_0 : (0 : Int32).toInt = 0 := by decide
  have z_1 : (1 : Int32).toInt = 1 := by decide
  have hin9 : ∀ w ∈ u_ws RX9 TX9 38, w ∈ wsX9_tapeSum := by decide +kernel
  refine lv_ldc2 hx hb hown (hts (.constantLong RX9 350 (5000015)) (by decide +kernel)) dX9_tapeSum_0 ?_
  refine lv_lstore_n (lv' := [(2, .long (5000015 : Int64)), (0, .ref o), (1, .int p0)]) hx hb dX9_tapeSum_3 rfl hl (by decide) rfl (fun ls hl => ?_)
  refine lv_iconst (v := 0) hx hb dX9_tapeSum_4 (by decide) ?_
  refine lv_istore (lv' := [(4, .int (0 : Int32)), (2, .long (5000015 : Int64)), (0, .ref o), (1, .int p0)]) hx hb dX9_tapeSum_5 hl (by decide) rfl (fun ls hl => ?_)
  have loop7 : ∀ (n : Nat) (l4_7 : Int32) (l2_7 : Int64) (ls : Array Slot), (0 ≤ l4_7.toInt) → (l4_7.toInt ≤ p0.toInt) → (p0.toInt - l4_7.toInt : Int).toNat < n → lv_has ls 5 [(4, .int l4_7), (2, .long l2_7), (0, .ref o), (1, .int p0)] → W p l e (headSpec wsX9_tapeSum ({ frames := 1, cells := 0, slots := 0, locals := 24 })).room s m ([.ref o, .int p0] : List Value).toArray below meth cM s.heap [] 0 0 (MQ below (vp_Sl (fun r => True)) ([.ref o, .int p0] : List Value).toArray s 0 0 (fun _ => False)) (F0 m 7 ls []) := by
    intro n
    induction n with
    | zero => intro l4_7 l2_7 ls if0_7 if1_7 hm; exact absurd hm (Nat.not_lt_zero _)
    | succ n ih7 =>
      intro l4_7 l2_7 ls if0_7 if1_7 hm7 hl
      refine lv_iload hx hb dX9_tapeSum_7 (lv_at hl 0 rfl) ?_
      refine lv_iload_n hx hb dX9_tapeSum_9 rfl (lv_at hl 3 rfl) ?_
      refine lv_icmp_ge (tgt := 31) hx hb dX9_tapeSum_10 (by decide) (fun c_1 => ?_) (fun c_1 => ?_)
      · skip
        have ic_1 := iv_le c_1
        refine lv_lload_n hx hb dX9_tapeSum_31 rfl (lv_at hl 1 rfl) ?_
        exact W.lret hx hb hr (fun t ht hW => ⟨_, rfl, trivial, ht⟩) (fun q h => by cases h) dX9_tapeSum_32
      · skip
        have ic_1 := iv_nle c_1
        refine lv_lload_n hx hb dX9_tapeSum_13 rfl (lv_at hl 1 rfl) ?_
        refine lv_aload_n hx hb dX9_tapeSum_14 rfl (lv_at hl 2 rfl) ?_
        refine va_get (D := (dC, dI)) (ci := 11) (v := .ref (c 8)) (C := RX9) (T := TX9) (N := 38) hx hb hts hin9 hown hK hP 0 rfl rfl 8 (by decide) (hts (.fieldLink RX9 14 "BlockLogModel" "tape" "[I") (by decide +kernel)) (fun _ h9 => h9) rfl dX9_tapeSum_15 ?_
        refine lv_iload hx hb dX9_tapeSum_18 (lv_at hl 0 rfl) ?_
        refine va_iald (f := ai 8) hx hb hK hP 2 1 rfl rfl (iv_in (i := l4_7) (by omega) (by omega)) dX9_tapeSum_20 ?_
        refine lv_topi (fun v_2 ev_2 => ?_)
        have k_3 : 0 ≤ v_2.toInt ∧ v_2.toInt ≤ 255 := aR_get hR8 (by omega) (by omega) ev_2
        clear ev_2
        refine vp_callSl (va_Run.run (va_runS (As := [.long l2_7, .int v_2]) (rest := []) ⟨hx, hb, hml, hown, hts⟩ (v_X9_more l dC dI l2_7 v_2 ) (va_cwS 2 hts gX9_tapeSum_X9_more rfl rfl rfl (by decide +kernel) ⟨Nat.le_of_ble_eq_true rfl, Nat.le_of_ble_eq_true rfl⟩) ⟨fun a U g mk q => q, fun U hU hW => ⟨rfl, trivial⟩⟩ rfl rfl hl.1 rfl (lv_room (Nat.le_of_ble_eq_true rfl)) dX9_tapeSum_21 ⟨Nat.le_of_ble_eq_true rfl, Nat.le_of_ble_eq_true rfl⟩)) (fun r_4 er_4 => ?_)
        have hm := er_4
        have hm : r_4 = pm l2_7 v_2 := hm
        refine lv_lstore_n (lv' := [(2, .long r_4), (4, .int l4_7), (0, .ref o), (1, .int p0)]) hx hb dX9_tapeSum_24 rfl hl (by decide) rfl (fun ls hl => ?_)
        obtain ⟨x_5, ex_5⟩ : ∃ z : Int32, z = l4_7 + (1) := ⟨_, rfl⟩
        refine lv_iinc (v := x_5) (lv' := [(4, .int x_5), (2, .long r_4), (0, .ref o), (1, .int p0)]) hx hb dX9_tapeSum_25 hl (k := 1) rfl (by rw [ex_5]; rfl) (by decide) rfl (fun ls hl => ?_)
        have rg1 := iv_rng l4_7
        have hx_5 : x_5.toInt = l4_7.toInt + (1) := by rw [ex_5]; exact (iv_add (by omega) (by omega)).trans (by omega)
        clear ex_5
        refine lv_goto (tgt := 7) hx hb dX9_tapeSum_28 (by decide) ?_
        exact ih7 x_5 r_4 _ (by omega) (by omega) (by omega) (lv_sub hl [0, 1, 2, 3] rfl)
  exact loop7 ((p0.toInt - 0 : Int).toNat + 1) (0 : Int32) (5000015 : Int64) _ (by omega) (by omega) (by omega) (lv_sub hl [0, 1, 2, 3] rfl)

set_option maxHeartbeats 4000000 in
set_option maxRecDepth 100000 in
theorem v_X9_fromTape (l : Launch) (dC : Nat → ClassId) (dI : Nat → Nat → Nat) (o : Nat) (c : Nat → Nat) (kc : Nat → ClassId) (st : Nat → Int32) (lg : Nat → Int64) (ai : Nat → Nat → Int32) (al : Nat → Nat → Int64) (p0 : Int32) (p1 : Int32) (hq0 : 0 ≤ p0.toInt) (hq1 : 0 ≤ p1.toInt) (hq2 : p0.toInt + p1.toInt ≤ 400) (hR8 : aR (ai 8) 400 (0) 255) : Met l yX9_fromTape wsX9_fromTape ({ frames := 0, cells := 0, slots := 0, locals := 0 }) (va_Pc [.ref o, .int p0, .int p1] (fun U => va_P (dC, dI) vwCl (rw_W o c kc st lg ai al) U.heap ∧ va_K (dC, dI) vwCl (rw_T kc) U)) (vp_Sl (fun r => True)) 0 0 (fun _ => False) := by
  refine Met.ofW (cc := cX9_fromTape) (maxL := 6) (ret := (some .long)) (by decide) rfl ?_
  intro p e s m args below meth cM s₁ B hml hv
  obtain ⟨rfl, hP, hK⟩ := hv
  have hx := B.exec
  have hb := B.bytes
  have hr := B.returns
  have hts := atoms_spec (ws := wsX9_fromTape) B.pre
  have hown : s.vm.findClass RX9 = some m.cls := findClass_of_methodNamed B.named
  have hl := lv_entry ([.ref o, .int p0, .int p1]) (n := 6) (Nat.le_of_ble_eq_true rfl)
  rw [lg_entry_eq]
  generalize (lg_sl ([.ref o, .int p0, .int p1]) ++ List.replicate (6 - (lg_sl ([.ref o, .int p0, .int p1])).length) Slot.unset).toArray = ls at hl ⊢
  have hl : lv_has ls 6 [(0, .ref o), (1, .int p0), (2, .int p1)] := hl
  have z_0 : (0 : Int32).toInt = 0 := by decide
  have z_1 : (1 : Int32).toInt = 1 := by decide
  have z_8 : (8 : Int32).toInt = 8 := by decide
  have hin9 : ∀ w ∈ u_ws RX9 TX9 38, w ∈ wsX9_fromTape := by decide +kernel
  refine lv_lconst (v := 0) hx hb dX9_fromTape_0 (by decide) ?_
  refine lv_lstore_n (lv' := [(3, .long (0 : Int64)), (0, .ref o), (1, .int p0), (2, .int p1)]) hx hb dX9_fromTape_1 rfl hl (by decide) rfl (fun ls hl => ?_)
  refine lv_iconst (v := 0) hx hb dX9_fromTape_2 (by decide) ?_
  refine lv_istore (lv' := [(5, .int (0 : Int32)), (3, .long (0 : Int64)), (0, .ref o), (1, .int p0), (2, .int p1)]) hx hb dX9_fromTape_3 hl (by decide) rfl (fun ls hl => ?_)
  have loop5 : ∀ (n : Nat) (l5_5 : Int32) (l3_5 : Int64) (ls : Array Slot), (0 ≤ l5_5.toInt) → (l5_5.toInt ≤ p1.toInt) → (p1.toInt - l5_5.toInt : Int).toNat < n → lv_has ls 6 [(5, .int l5_5), (3, .long l3_5), (0, .ref o), (1, .int p0), (2, .int p1)] → W p l e (headSpec wsX9_fromTape ({ frames := 0, cells := 0, slots := 0, locals := 0 })).room s m ([.ref o, .int p0, .int p1] : List Value).toArray below meth cM s.heap [] 0 0 (MQ below (vp_Sl (fun r => True)) ([.ref o, .int p0, .int p1] : List Value).toArray s 0 0 (fun _ => False)) (F0 m 5 ls []) := by
    intro n
    induction n with
    | zero => intro l5_5 l3_5 ls if0_5 if1_5 hm; exact absurd hm (Nat.not_lt_zero _)
    | succ n ih5 =>
      intro l5_5 l3_5 ls if0_5 if1_5 hm5 hl
      refine lv_iload hx hb dX9_fromTape_5 (lv_at hl 0 rfl) ?_
      refine lv_iload_n hx hb dX9_fromTape_7 rfl (lv_at hl 4 rfl) ?_
      refine lv_icmp_ge (tgt := 33) hx hb dX9_fromTape_8 (by decide) (fun c_1 => ?_) (fun c_1 => ?_)
      · skip
        have ic_1 := iv_le c_1
        refine lv_lload_n hx hb dX9_fromTape_33 rfl (lv_at hl 1 rfl) ?_
        exact W.lret hx hb hr (fun t ht hW => ⟨_, rfl, trivial, ht⟩) (fun q h => by cases h) dX9_fromTape_34
      · skip
        have ic_1 := iv_nle c_1
        refine lv_lload_n hx hb dX9_fromTape_11 rfl (lv_at hl 1 rfl) ?_
        refine lv_bipush (v := 8) hx hb dX9_fromTape_12 (by decide) ?_
        refine lv_lshl hx hb dX9_fromTape_14 rfl ?_
        refine lv_topl (fun w_2 ew_2 => ?_)
        clear ew_2
        refine lv_aload_n hx hb dX9_fromTape_15 rfl (lv_at hl 2 rfl) ?_
        refine va_get (D := (dC, dI)) (ci := 11) (v := .ref (c 8)) (C := RX9) (T := TX9) (N := 38) hx hb hts hin9 hown hK hP 0 rfl rfl 8 (by decide) (hts (.fieldLink RX9 14 "BlockLogModel" "tape" "[I") (by decide +kernel)) (fun _ h9 => h9) rfl dX9_fromTape_16 ?_
        refine lv_iload_n hx hb dX9_fromTape_19 rfl (lv_at hl 3 rfl) ?_
        refine lv_iload hx hb dX9_fromTape_20 (lv_at hl 0 rfl) ?_
        refine lv_iadd hx hb dX9_fromTape_22 ?_
        refine lv_topi (fun v_3 ev_3 => ?_)
        have rg1 := iv_rng p0
        have rg2 := iv_rng l5_5
        have hv_3 : v_3.toInt = p0.toInt + l5_5.toInt := by rw [ev_3]; exact (iv_add (by omega) (by omega)).trans (by omega)
        clear ev_3
        refine va_iald (f := ai 8) hx hb hK hP 2 1 rfl rfl (iv_in (i := v_3) (by omega) (by omega)) dX9_fromTape_23 ?_
        refine lv_topi (fun v_4 ev_4 => ?_)
        have k_5 : 0 ≤ v_4.toInt ∧ v_4.toInt ≤ 255 := aR_get hR8 (by omega) (by omega) ev_4
        clear ev_4
        refine lv_i2l hx hb dX9_fromTape_24 rfl ?_
        refine lv_topl (fun w_6 ew_6 => ?_)
        clear ew_6
        refine lv_lor hx hb dX9_fromTape_25 ?_
        refine lv_topl (fun w_7 ew_7 => ?_)
        clear ew_7
        refine lv_lstore_n (lv' := [(3, .long w_7), (5, .int l5_5), (0, .ref o), (1, .int p0), (2, .int p1)]) hx hb dX9_fromTape_26 rfl hl (by decide) rfl (fun ls hl => ?_)
        obtain ⟨x_8, ex_8⟩ : ∃ z : Int32, z = l5_5 + (1) := ⟨_, rfl⟩
        refine lv_iinc (v := x_8) (lv' := [(5, .int x_8), (3, .long w_7), (0, .ref o), (1, .int p0), (2, .int p1)]) hx hb dX9_fromTape_27 hl (k := 1) rfl (by rw [ex_8]; rfl) (by decide) rfl (fun ls hl => ?_)
        have hx_8 : x_8.toInt = l5_5.toInt + (1) := by rw [ex_8]; exact (iv_add (by omega) (by omega)).trans (by omega)
        clear ex_8
        refine lv_goto (tgt := 5) hx hb dX9_fromTape_30 (by decide) ?_
        exact ih5 x_8 w_7 _ (by omega) (by omega) (by omega) (lv_sub hl [0, 1, 2, 3, 4] rfl)
  exact loop5 ((p1.toInt - 0 : Int).toNat + 1) (0 : Int32) (0 : Int64) _ (by omega) (by omega) (by omega) (lv_sub hl [0, 1, 2, 3, 4] rfl)

set_option maxHeartbeats 4000000 in
set_option maxRecDepth 100000 in
theorem v_X9_head (l : Launch) (dC : Nat → ClassId) (dI : Nat → Nat → Nat) (o : Nat) (c : Nat → Nat) (kc : Nat → ClassId) (st : Nat → Int32) (lg : Nat → Int64) (ai : Nat → Nat → Int32) (al : Nat → Nat → Int64) (p0 : Int32) (sz : Nat) (hf3a : 0 ≤ (st 3).toInt) (hf3b : (st 3).toInt ≤ 1) (hf6a : 0 ≤ (st 6).toInt) (hf6b : (st 6).toInt ≤ 1) (hf12a : 0 ≤ (st 12).toInt) (hf12b : (st 12).toInt ≤ 8) (hq0 : 0 ≤ p0.toInt) (hq1 : p0.toInt ≤ 1) : Met l yX9_head wsX9_head ({ frames := 3, cells := 0, slots := 0, locals := 68 }) (va_Pc [.ref o, .int p0] (fun U => U.heap.size = sz ∧ va_P (dC, dI) vwCl (rw_W o c kc st lg ai al) U.heap ∧ va_K (dC, dI) vwCl (rw_T kc) U ∧ va_D (fun _ => True) (rw_W o c kc st lg ai al))) (va_Qv (fun (_ : Unit) => True) (fun _ t => ∃ (x3 : Int32) (x4 : Int32) (x5 : Int32) (x6 : Int32) (x12 : Int32) (f0 : Nat → Int32) (f14 : Nat → Int32), (0 ≤ x3.toInt) ∧ (x3.toInt ≤ 1) ∧ (0 ≤ x6.toInt) ∧ (x6.toInt ≤ 1) ∧ (0 ≤ x12.toInt) ∧ (x12.toInt ≤ 8) ∧ va_P (dC, dI) vwCl (rw_W o c kc (rU (rU (rU (rU (rU st 3 x3) 4 x4) 5 x5) 6 x6) 12 x12) lg (rU (rU ai 0 f0) 14 f14) al) t.heap) (va_A (rw_W o c kc st lg ai al) sz)) 0 0 (va_A (rw_W o c kc st lg ai al) sz) := by
  refine Met.ofW (cc := cX9_head) (maxL := 2) (ret := none) (by decide) rfl ?_
  intro p e s m args below meth cM s₁ B hml hv
  obtain ⟨rfl, hsz, hP, hK, hD0⟩ := hv
  have hx := B.exec
  have hb := B.bytes
  have hr := B.returns
  have hts := atoms_spec (ws := wsX9_head) B.pre
  have hown : s.vm.findClass RX9 = some m.cls := findClass_of_methodNamed B.named
  subst hsz
  have hD := hD0.self (sz := s.heap.size)
  generalize hAe : va_A (rw_W o c kc st lg ai al) s.heap.size = A at hD ⊢
  have hA : ∀ q : Nat, s.heap.size ≤ q → A q := fun q h => by rw [← hAe]; exact Or.inr h
  have hS : va_S A s.heap s.heap [] := va_S.rf
  clear hAe hD0
  have hl := lv_entry ([.ref o, .int p0]) (n := 2) (Nat.le_of_ble_eq_true rfl)
  rw [lg_entry_eq]
  generalize (lg_sl ([.ref o, .int p0]) ++ List.replicate (2 - (lg_sl ([.ref o, .int p0])).length) Slot.unset).toArray = ls at hl ⊢
  have hl : lv_has ls 2 [(0, .ref o), (1, .int p0)] := hl
  have z_0 : (0 : Int32).toInt = 0 := by decide
  have z_1 : (1 : Int32).toInt = 1 := by decide
  have z_4 : (4 : Int32).toInt = 4 := by decide
  have z_8 : (8 : Int32).toInt = 8 := by decide
  have z_16 : (16 : Int32).toInt = 16 := by decide
  have main : ∀ (H : Heap) (locs : List Loc), va_P (dC, dI) vwCl (rw_W o c kc st lg ai al) H → va_S A s.heap H locs → W p l e (headSpec wsX9_head ({ frames := 3, cells := 0, slots := 0, locals := 68 })).room s m ([.ref o, .int p0] : List Value).toArray below meth cM H locs 0 0 (MQ below (va_Qv (fun (_ : Unit) => True) (fun _ t => ∃ (x3 : Int32) (x4 : Int32) (x5 : Int32) (x6 : Int32) (x12 : Int32) (f0 : Nat → Int32) (f14 : Nat → Int32), (0 ≤ x3.toInt) ∧ (x3.toInt ≤ 1) ∧ (0 ≤ x6.toInt) ∧ (x6.toInt ≤ 1) ∧ (0 ≤ x12.toInt) ∧ (x12.toInt ≤ 8) ∧ va_P (dC, dI) vwCl (rw_W o c kc (rU (rU (rU (rU (rU st 3 x3) 4 x4) 5 x5) 6 x6) 12 x12) lg (rU (rU ai 0 f0) 14 f14) al) t.heap) A) ([.ref o, .int p0] : List Value).toArray s 0 0 A) (F0 m 0 ls []) := by
    intro H locs hP hS
    refine lv_aload_n hx hb dX9_head_0 rfl (lv_at hl 0 rfl) ?_
    refine lv_iconst (v := 0) hx hb dX9_head_1 (by decide) ?_
    refine lv_aload_n hx hb dX9_head_2 rfl (lv_at hl 0 rfl) ?_
    refine lv_bipush (v := 16) hx hb dX9_head_3 (by decide) ?_
    refine lv_iconst (v := 1) hx hb dX9_head_5 (by decide) ?_
    refine lv_iload_n hx hb dX9_head_6 rfl (lv_at hl 1 rfl) ?_
    refine lv_isub hx hb dX9_head_7 ?_
    refine lv_topi (fun v_1 ev_1 => ?_)
    have rg1 := iv_rng p0
    have hv_1 : v_1.toInt = 1 - p0.toInt := by rw [ev_1]; exact (iv_sub (by omega) (by omega)).trans (by omega)
    clear ev_1
    refine lv_imul hx hb dX9_head_8 ?_
    refine lv_topi (fun v_2 ev_2 => ?_)
    have rg2 := iv_rng v_1
    have hv_2 : v_2.toInt = 16 * v_1.toInt := by rw [ev_2]; exact (iv_mulc z_16 (by omega) (by omega)).trans (by omega)
    clear ev_2
    refine lv_iconst (v := 4) hx hb dX9_head_9 (by decide) ?_
    refine vp_callSl (va_Run.run (va_runV (As := [.int v_2, .int (4 : Int32)]) (rest := [.int (0 : Int32), .ref o]) ⟨hx, hb, hml, hown, hts⟩ (v_X9_number l dC dI o c kc st lg ai al v_2 (4 : Int32) (by omega) (by omega) (by omega) (by omega)) (cwV 2 hts gX9_head_X9_number rfl rfl rfl (by decide +kernel) ⟨Nat.le_of_ble_eq_true rfl, Nat.le_of_ble_eq_true rfl⟩) ⟨fun a U g mk q => by obtain ⟨q0, qP, qK⟩ := q; exact ⟨q0, qP, va_K.moved (u := U) (U := U.calling g mk a) (Vm.Alike.refl U.vm) qK⟩, va_recv hK hP (ci := 11) (q := (RX9, TX9, 38)) rfl (q0 := 0) rfl, fun U hU hW => ⟨rfl, by rw [hU]; exact hP, va_K.moved hW.alike hK⟩⟩ rfl rfl hl.1 rfl (lv_room (Nat.le_of_ble_eq_true rfl)) dX9_head_10 ⟨Nat.le_of_ble_eq_true rfl, Nat.le_of_ble_eq_true rfl⟩)) (fun r_3 er_3 => ?_)
    have hn := er_3
    have hn : r_3 = md_num (ai 0) v_2 (4 : Int32).toNatClampNeg := hn
    refine lv_lconst (v := 1) hx hb dX9_head_13 (by decide) ?_
    refine lv_ladd hx hb dX9_head_14 ?_
    refine lv_topl (fun w_4 ew_4 => ?_)
    clear ew_4
    refine lv_iconst (v := 4) hx hb dX9_head_15 (by decide) ?_
    have hFc := vfree (rw_D hD : va_D A (rw_W o c kc st lg ai al)) hS hA
    refine va_callv (va_runV (As := [.int (0 : Int32), .long w_4, .int (4 : Int32)]) (rest := []) ⟨hx, hb, hml, hown, hts⟩ (v_X9_put l dC dI o c kc st lg ai al (0 : Int32) w_4 (4 : Int32) _ (by omega) (by omega) (by omega)) (cwV 3 hts gX9_head_X9_put rfl rfl rfl (by decide +kernel) ⟨Nat.le_of_ble_eq_true rfl, Nat.le_of_ble_eq_true rfl⟩) ⟨fun a U g mk q => by obtain ⟨q0, q1, qP, qK, qD⟩ := q; exact ⟨q0, q1, qP, va_K.moved (u := U) (U := U.calling g mk a) (Vm.Alike.refl U.vm) qK, qD⟩, va_recv hK hP (ci := 11) (q := (RX9, TX9, 38)) rfl (q0 := 0) rfl, fun U hU hW => ⟨rfl, by rw [hU], by rw [hU]; exact hP, va_K.moved hW.alike hK, rw_D (hD.weaken (fun _ _ _ _ => trivial))⟩⟩ rfl rfl hl.1 rfl (lv_room (Nat.le_of_ble_eq_true rfl)) dX9_head_16 ⟨Nat.le_of_ble_eq_true rfl, Nat.le_of_ble_eq_true rfl⟩) hS (fun q _ h => hFc q h) hFc (fun ur_5 t H1 locs ht hvm er_5 hB hz1 hk1 hS => ?_)
    obtain ⟨f14_5, hP1⟩ := hB
    rw [ht] at hP1
    clear hFc hz1 hk1 hvm hP
    subst ht
    have hP := hP1
    clear hP1
    generalize t.heap = H at hP hS ⊢
    have hP : va_P (dC, dI) vwCl (rw_W o c kc st lg (rU ai 14 f14_5) al) H := hP
    refine lv_aload_n hx hb dX9_head_19 rfl (lv_at hl 0 rfl) ?_
    refine lv_iconst (v := 4) hx hb dX9_head_20 (by decide) ?_
    refine lv_ldc2 hx hb hown (hts (.constantLong RX9 251 (165)) (by decide +kernel)) dX9_head_21 ?_
    refine lv_iconst (v := 4) hx hb dX9_head_24 (by decide) ?_
    have hFc := vfree (rw_D hD : va_D A (rw_W o c kc st lg (rU ai 14 f14_5) al)) hS hA
    refine va_callv (va_runV (As := [.int (4 : Int32), .long (165 : Int64), .int (4 : Int32)]) (rest := []) ⟨hx, hb, hml, hown, hts⟩ (v_X9_put l dC dI o c kc st lg (rU ai 14 f14_5) al (4 : Int32) (165 : Int64) (4 : Int32) _ (by omega) (by omega) (by omega)) (cwV 3 hts gX9_head_X9_put rfl rfl rfl (by decide +kernel) ⟨Nat.le_of_ble_eq_true rfl, Nat.le_of_ble_eq_true rfl⟩) ⟨fun a U g mk q => by obtain ⟨q0, q1, qP, qK, qD⟩ := q; exact ⟨q0, q1, qP, va_K.moved (u := U) (U := U.calling g mk a) (Vm.Alike.refl U.vm) qK, qD⟩, va_recv hK hP (ci := 11) (q := (RX9, TX9, 38)) rfl (q0 := 0) rfl, fun U hU hW => ⟨rfl, by rw [hU], by rw [hU]; exact hP, va_K.moved hW.alike hK, rw_D (hD.weaken (fun _ _ _ _ => trivial))⟩⟩ rfl rfl hl.1 rfl (lv_room (Nat.le_of_ble_eq_true rfl)) dX9_head_25 ⟨Nat.le_of_ble_eq_true rfl, Nat.le_of_ble_eq_true rfl⟩) hS (fun q _ h => hFc q h) hFc (fun ur_6 t H1 locs ht hvm er_6 hB hz1 hk1 hS => ?_)
    obtain ⟨f14_6, hP1⟩ := hB
    rw [ht] at hP1
    clear hFc hz1 hk1 hvm hP
    subst ht
    have hP := hP1
    clear hP1
    generalize t.heap = H at hP hS ⊢
    have hP : va_P (dC, dI) vwCl (rw_W o c kc st lg (rU ai 14 f14_6) al) H := hP
    refine lv_aload_n hx hb dX9_head_28 rfl (lv_at hl 0 rfl) ?_
    refine lv_bipush (v := 8) hx hb dX9_head_29 (by decide) ?_
    refine lv_aload_n hx hb dX9_head_31 rfl (lv_at hl 0 rfl) ?_
    refine lv_iconst (v := 1) hx hb dX9_head_32 (by decide) ?_
    refine lv_bipush (v := 8) hx hb dX9_head_33 (by decide) ?_
    refine vp_callSl (va_Run.run (va_runV (As := [.int (1 : Int32), .int (8 : Int32)]) (rest := [.int (8 : Int32), .ref o]) ⟨hx, hb, hml, hown, hts⟩ (v_X9_freshSum l dC dI o c kc st lg (rU ai 14 f14_6) al (1 : Int32) (8 : Int32) (by omega) (by omega)) (cwV 2 hts gX9_head_X9_freshSum rfl rfl rfl (by decide +kernel) ⟨Nat.le_of_ble_eq_true rfl, Nat.le_of_ble_eq_true rfl⟩) ⟨fun a U g mk q => by obtain ⟨q0, qP, qK⟩ := q; exact ⟨q0, qP, va_K.moved (u := U) (U := U.calling g mk a) (Vm.Alike.refl U.vm) qK⟩, va_recv hK hP (ci := 11) (q := (RX9, TX9, 38)) rfl (q0 := 0) rfl, fun U hU hW => ⟨rfl, by rw [hU]; exact hP, va_K.moved hW.alike hK⟩⟩ rfl rfl hl.1 rfl (lv_room (Nat.le_of_ble_eq_true rfl)) dX9_head_35 ⟨Nat.le_of_ble_eq_true rfl, Nat.le_of_ble_eq_true rfl⟩)) (fun r_7 er_7 => ?_)
    refine lv_bipush (v := 8) hx hb dX9_head_38 (by decide) ?_
    have hFc := vfree (rw_D hD : va_D A (rw_W o c kc st lg (rU ai 14 f14_6) al)) hS hA
    refine va_callv (va_runV (As := [.int (8 : Int32), .long r_7, .int (8 : Int32)]) (rest := []) ⟨hx, hb, hml, hown, hts⟩ (v_X9_put l dC dI o c kc st lg (rU ai 14 f14_6) al (8 : Int32) r_7 (8 : Int32) _ (by omega) (by omega) (by omega)) (cwV 3 hts gX9_head_X9_put rfl rfl rfl (by decide +kernel) ⟨Nat.le_of_ble_eq_true rfl, Nat.le_of_ble_eq_true rfl⟩) ⟨fun a U g mk q => by obtain ⟨q0, q1, qP, qK, qD⟩ := q; exact ⟨q0, q1, qP, va_K.moved (u := U) (U := U.calling g mk a) (Vm.Alike.refl U.vm) qK, qD⟩, va_recv hK hP (ci := 11) (q := (RX9, TX9, 38)) rfl (q0 := 0) rfl, fun U hU hW => ⟨rfl, by rw [hU], by rw [hU]; exact hP, va_K.moved hW.alike hK, rw_D (hD.weaken (fun _ _ _ _ => trivial))⟩⟩ rfl rfl hl.1 rfl (lv_room (Nat.le_of_ble_eq_true rfl)) dX9_head_40 ⟨Nat.le_of_ble_eq_true rfl, Nat.le_of_ble_eq_true rfl⟩) hS (fun q _ h => hFc q h) hFc (fun ur_8 t H1 locs ht hvm er_8 hB hz1 hk1 hS => ?_)
    obtain ⟨f14_8, hP1⟩ := hB
    rw [ht] at hP1
    clear hFc hz1 hk1 hvm hP
    subst ht
    have hP := hP1
    clear hP1
    generalize t.heap = H at hP hS ⊢
    have hP : va_P (dC, dI) vwCl (rw_W o c kc st lg (rU ai 14 f14_8) al) H := hP
    refine lv_aload_n hx hb dX9_head_43 rfl (lv_at hl 0 rfl) ?_
    refine lv_bipush (v := 16) hx hb dX9_head_44 (by decide) ?_
    refine lv_iload_n hx hb dX9_head_46 rfl (lv_at hl 1 rfl) ?_
    refine lv_imul hx hb dX9_head_47 ?_
    refine lv_topi (fun v_9 ev_9 => ?_)
    have hv_9 : v_9.toInt = 16 * p0.toInt := by rw [ev_9]; exact (iv_mulc z_16 (by omega) (by omega)).trans (by omega)
    clear ev_9
    refine lv_bipush (v := 16) hx hb dX9_head_48 (by decide) ?_
    have hFc := vfree (rw_D hD : va_D A (rw_W o c kc st lg (rU ai 14 f14_8) al)) hS hA
    refine va_callv (va_runV (As := [.int v_9, .int (16 : Int32)]) (rest := []) ⟨hx, hb, hml, hown, hts⟩ (v_X9_writeFresh l dC dI o c kc st lg (rU ai 14 f14_8) al v_9 (16 : Int32) _ (show 0 ≤ (st 3).toInt by omega) (show (st 3).toInt ≤ 1 by omega) (show 0 ≤ (st 6).toInt by omega) (show (st 6).toInt ≤ 1 by omega) (show 0 ≤ (st 12).toInt by omega) (show (st 12).toInt ≤ 8 by omega) (by omega) (by omega) (by omega) (by omega)) (cwV 2 hts gX9_head_X9_writeFresh rfl rfl rfl (by decide +kernel) ⟨Nat.le_of_ble_eq_true rfl, Nat.le_of_ble_eq_true rfl⟩) ⟨fun a U g mk q => by obtain ⟨q0, q1, qP, qK, qD⟩ := q; exact ⟨q0, q1, qP, va_K.moved (u := U) (U := U.calling g mk a) (Vm.Alike.refl U.vm) qK, qD⟩, va_recv hK hP (ci := 11) (q := (RX9, TX9, 38)) rfl (q0 := 0) rfl, fun U hU hW => ⟨rfl, by rw [hU], by rw [hU]; exact hP, va_K.moved hW.alike hK, rw_D (hD.weaken (fun _ _ _ _ => trivial))⟩⟩ rfl rfl hl.1 rfl (lv_room (Nat.le_of_ble_eq_true rfl)) dX9_head_50 ⟨Nat.le_of_ble_eq_true rfl, Nat.le_of_ble_eq_true rfl⟩) hS (fun q _ h => hFc q h) hFc (fun ur_10 t H1 locs ht hvm er_10 hB hz1 hk1 hS => ?_)
    obtain ⟨x3_10, x4_10, x5_10, x6_10, x12_10, f0_10, k_11, k_12, k_13, k_14, k_15, k_16, hP1⟩ := hB
    rw [ht] at hP1
    clear hFc hz1 hk1 hvm hP
    subst ht
    have hP := hP1
    clear hP1
    generalize t.heap = H at hP hS ⊢
    have hP : va_P (dC, dI) vwCl (rw_W o c kc (rU (rU (rU (rU (rU st 3 x3_10) 4 x4_10) 5 x5_10) 6 x6_10) 12 x12_10) lg (rU (rU ai 0 f0_10) 14 f14_8) al) H := hP
    have k_11 : 0 ≤ x3_10.toInt := k_11
    have k_12 : x3_10.toInt ≤ 1 := k_12
    have k_13 : 0 ≤ x6_10.toInt := k_13
    have k_14 : x6_10.toInt ≤ 1 := k_14
    have k_15 : 0 ≤ x12_10.toInt := k_15
    have k_16 : x12_10.toInt ≤ 8 := k_16
    exact W.vret hx hb hr (fun t ht hW => ⟨⟨(), rfl, trivial, x3_10, x4_10, x5_10, x6_10, x12_10, f0_10, f14_8, (by omega), (by omega), (by omega), (by omega), (by omega), (by omega), by rw [ht]; exact hP⟩, hS.F ht⟩) hS.2.2 dX9_head_53
  exact main s.heap [] hP hS

set_option maxHeartbeats 4000000 in
set_option maxRecDepth 100000 in
theorem v_X9_cut (l : Launch) (dC : Nat → ClassId) (dI : Nat → Nat → Nat) (o : Nat) (c : Nat → Nat) (kc : Nat → ClassId) (st : Nat → Int32) (lg : Nat → Int64) (ai : Nat → Nat → Int32) (al : Nat → Nat → Int64) (p0 : Int32) (sz : Nat)  : Met l yX9_cut wsX9_cut ({ frames := 1, cells := 0, slots := 0, locals := 22 }) (va_Pc [.ref o, .int p0] (fun U => U.heap.size = sz ∧ va_P (dC, dI) vwCl (rw_W o c kc st lg ai al) U.heap ∧ va_K (dC, dI) vwCl (rw_T kc) U ∧ va_D (fun _ => True) (rw_W o c kc st lg ai al))) (va_Qv (fun (_ : Unit) => True) (fun _ t => ∃ (x5 : Int32) (x13 : Int32), ((-1 ≤ p0.toInt ∧ p0.toInt ≤ 5000) → x13.toInt = 0) ∧ ((p0.toInt < -1 ∨ 5000 < p0.toInt) → x13.toInt = 1) ∧ va_P (dC, dI) vwCl (rw_W o c kc (rU (rU st 5 x5) 13 x13) lg ai al) t.heap) (va_A (rw_W o c kc st lg ai al) sz)) 0 0 (va_A (rw_W o c kc st lg ai al) sz) := by
  refine Met.ofW (cc := cX9_cut) (maxL := 2) (ret := none) (by decide) rfl ?_
  intro p e s m args below meth cM s₁ B hml hv
  obtain ⟨rfl, hsz, hP, hK, hD0⟩ := hv
  have hx := B.exec
  have hb := B.bytes
  have hr := B.returns
  have hts := atoms_spec (ws := wsX9_cut) B.pre
  have hown : s.vm.findClass RX9 = some m.cls := findClass_of_methodNamed B.named
  subst hsz
  have hD := hD0.self (sz := s.heap.size)
  generalize hAe : va_A (rw_W o c kc st lg ai al) s.heap.size = A at hD ⊢
  have hA : ∀ q : Nat, s.heap.size ≤ q → A q := fun q h => by rw [← hAe]; exact Or.inr h
  have hS : va_S A s.heap s.heap [] := va_S.rf
  clear hAe hD0
  have hl := lv_entry ([.ref o, .int p0]) (n := 2) (Nat.le_of_ble_eq_true rfl)
  rw [lg_entry_eq]
  generalize (lg_sl ([.ref o, .int p0]) ++ List.replicate (2 - (lg_sl ([.ref o, .int p0])).length) Slot.unset).toArray = ls at hl ⊢
  have hl : lv_has ls 2 [(0, .ref o), (1, .int p0)] := hl
  have z_m1 : (-1 : Int32).toInt = -1 := by decide
  have z_0 : (0 : Int32).toInt = 0 := by decide
  have z_1 : (1 : Int32).toInt = 1 := by decide
  have z_5000 : (5000 : Int32).toInt = 5000 := by decide
  have hin9 : ∀ w ∈ u_ws RX9 TX9 38, w ∈ wsX9_cut := by decide +kernel
  have main : ∀ (H : Heap) (locs : List Loc), va_P (dC, dI) vwCl (rw_W o c kc st lg ai al) H → va_S A s.heap H locs → W p l e (headSpec wsX9_cut ({ frames := 1, cells := 0, slots := 0, locals := 22 })).room s m ([.ref o, .int p0] : List Value).toArray below meth cM H locs 0 0 (MQ below (va_Qv (fun (_ : Unit) => True) (fun _ t => ∃ (x5 : Int32) (x13 : Int32), ((-1 ≤ p0.toInt ∧ p0.toInt ≤ 5000) → x13.toInt = 0) ∧ ((p0.toInt < -1 ∨ 5000 < p0.toInt) → x13.toInt = 1) ∧ va_P (dC, dI) vwCl (rw_W o c kc (rU (rU st 5 x5) 13 x13) lg ai al) t.heap) A) ([.ref o, .int p0] : List Value).toArray s 0 0 A) (F0 m 0 ls []) := by
    intro H locs hP hS
    refine lv_aload_n hx hb dX9_cut_0 rfl (lv_at hl 0 rfl) ?_
    refine lv_iload_n hx hb dX9_cut_1 rfl (lv_at hl 1 rfl) ?_
    refine lv_iconst (v := (-1)) hx hb dX9_cut_2 (by decide) ?_
    refine lv_sipush (v := 5000) hx hb dX9_cut_3 (by decide) ?_
    refine vp_callSi (va_Run.run (va_runS (As := [.int p0, .int (-1 : Int32), .int (5000 : Int32)]) (rest := [.ref o]) ⟨hx, hb, hml, hown, hts⟩ (v_X9_within l dC dI p0 (-1 : Int32) (5000 : Int32) ) (va_cwS 3 hts gX9_cut_X9_within rfl rfl rfl (by decide +kernel) ⟨Nat.le_of_ble_eq_true rfl, Nat.le_of_ble_eq_true rfl⟩) ⟨fun a U g mk q => q, fun U hU hW => ⟨rfl, trivial⟩⟩ rfl rfl hl.1 rfl (lv_room (Nat.le_of_ble_eq_true rfl)) dX9_cut_6 ⟨Nat.le_of_ble_eq_true rfl, Nat.le_of_ble_eq_true rfl⟩)) (fun r_1 er_1 => ?_)
    obtain ⟨k_2, k_3, k_4, k_5, k_6⟩ := er_1
    rcases iv_01 (a := r_1) (by omega) (by omega) with b_7 | b_7
    · skip
      have ib_7 := iv_eq b_7
      rw [b_7]
      refine lv_if_eq (tgt := 16) hx hb dX9_cut_9 (by decide) (fun c_8 => ?_) (fun c_8 => ?_)
      · skip
        have ic_8 := iv_eq c_8
        refine lv_iconst (v := 1) hx hb dX9_cut_16 (by decide) ?_
        refine va_put (D := (dC, dI)) (ci := 11) (v := .int (1 : Int32)) (ty := .int) (C := RX9) (T := TX9) (N := 38) hx hb hts hin9 tyX9 tyX9_ok nmX9 hown hK hP (rw_D hD) hS 0 rfl rfl 13 (by decide) (hts (.fieldLink RX9 91 "BlockLogModel" "thrown" "I") (by decide +kernel)) (fun _ h9 => h9) rfl (by decide +kernel) rfl rfl (Nat.le_of_ble_eq_true rfl) dX9_cut_17 (fun H locs hP _ hS => ?_)
        have hP : va_P (dC, dI) vwCl (rw_W o c kc (rU st 13 (1 : Int32)) lg ai al) H := hP
        refine lv_aload_n hx hb dX9_cut_20 rfl (lv_at hl 0 rfl) ?_
        refine lv_aload_n hx hb dX9_cut_21 rfl (lv_at hl 0 rfl) ?_
        refine va_get (D := (dC, dI)) (ci := 11) (v := .int (1 : Int32)) (C := RX9) (T := TX9) (N := 38) hx hb hts hin9 hown hK hP 0 rfl rfl 13 (by decide) (hts (.fieldLink RX9 91 "BlockLogModel" "thrown" "I") (by decide +kernel)) (fun _ h9 => h9) rfl dX9_cut_22 ?_
        refine lv_if_le (tgt := 35) hx hb dX9_cut_25 (by decide) (fun c_9 => ?_) (fun c_9 => ?_)
        · skip
          have ic_9 := iv_le c_9
          exfalso
          omega
        · skip
          have ic_9 := iv_nle c_9
          refine lv_aload_n hx hb dX9_cut_28 rfl (lv_at hl 0 rfl) ?_
          refine va_get (D := (dC, dI)) (ci := 11) (v := .int (st 5)) (C := RX9) (T := TX9) (N := 38) hx hb hts hin9 hown hK hP 0 rfl rfl 5 (by decide) (hts (.fieldLink RX9 69 "BlockLogModel" "power" "I") (by decide +kernel)) (fun _ h9 => h9) rfl dX9_cut_29 ?_
          refine lv_goto (tgt := 36) hx hb dX9_cut_32 (by decide) ?_
          refine va_put (D := (dC, dI)) (ci := 11) (v := .int (st 5)) (ty := .int) (C := RX9) (T := TX9) (N := 38) hx hb hts hin9 tyX9 tyX9_ok nmX9 hown hK hP (rw_D hD) hS 0 rfl rfl 5 (by decide) (hts (.fieldLink RX9 69 "BlockLogModel" "power" "I") (by decide +kernel)) (fun _ h9 => h9) rfl (by decide +kernel) rfl rfl (Nat.le_of_ble_eq_true rfl) dX9_cut_36 (fun H locs hP _ hS => ?_)
          have hP : va_P (dC, dI) vwCl (rw_W o c kc (rU (rU st 5 (st 5)) 13 (1 : Int32)) lg ai al) H := hP
          exact W.vret hx hb hr (fun t ht hW => ⟨⟨(), rfl, trivial, st 5, (1 : Int32), (by omega), (by omega), by rw [ht]; exact hP⟩, hS.F ht⟩) hS.2.2 dX9_cut_39
      · skip
        have ic_8 := iv_ne c_8
        exfalso
        omega
    · skip
      have ib_7 := iv_eq b_7
      rw [b_7]
      refine lv_if_eq (tgt := 16) hx hb dX9_cut_9 (by decide) (fun c_10 => ?_) (fun c_10 => ?_)
      · skip
        have ic_10 := iv_eq c_10
        exfalso
        omega
      · skip
        have ic_10 := iv_ne c_10
        refine lv_iconst (v := 0) hx hb dX9_cut_12 (by decide) ?_
        refine lv_goto (tgt := 17) hx hb dX9_cut_13 (by decide) ?_
        refine va_put (D := (dC, dI)) (ci := 11) (v := .int (0 : Int32)) (ty := .int) (C := RX9) (T := TX9) (N := 38) hx hb hts hin9 tyX9 tyX9_ok nmX9 hown hK hP (rw_D hD) hS 0 rfl rfl 13 (by decide) (hts (.fieldLink RX9 91 "BlockLogModel" "thrown" "I") (by decide +kernel)) (fun _ h9 => h9) rfl (by decide +kernel) rfl rfl (Nat.le_of_ble_eq_true rfl) dX9_cut_17 (fun H locs hP _ hS => ?_)
        have hP : va_P (dC, dI) vwCl (rw_W o c kc (rU st 13 (0 : Int32)) lg ai al) H := hP
        refine lv_aload_n hx hb dX9_cut_20 rfl (lv_at hl 0 rfl) ?_
        refine lv_aload_n hx hb dX9_cut_21 rfl (lv_at hl 0 rfl) ?_
        refine va_get (D := (dC, dI)) (ci := 11) (v := .int (0 : Int32)) (C := RX9) (T := TX9) (N := 38) hx hb hts hin9 hown hK hP 0 rfl rfl 13 (by decide) (hts (.fieldLink RX9 91 "BlockLogModel" "thrown" "I") (by decide +kernel)) (fun _ h9 => h9) rfl dX9_cut_22 ?_
        refine lv_if_le (tgt := 35) hx hb dX9_cut_25 (by decide) (fun c_11 => ?_) (fun c_11 => ?_)
        · skip
          have ic_11 := iv_le c_11
          refine lv_iload_n hx hb dX9_cut_35 rfl (lv_at hl 1 rfl) ?_
          refine va_put (D := (dC, dI)) (ci := 11) (v := .int p0) (ty := .int) (C := RX9) (T := TX9) (N := 38) hx hb hts hin9 tyX9 tyX9_ok nmX9 hown hK hP (rw_D hD) hS 0 rfl rfl 5 (by decide) (hts (.fieldLink RX9 69 "BlockLogModel" "power" "I") (by decide +kernel)) (fun _ h9 => h9) rfl (by decide +kernel) rfl rfl (Nat.le_of_ble_eq_true rfl) dX9_cut_36 (fun H locs hP _ hS => ?_)
          have hP : va_P (dC, dI) vwCl (rw_W o c kc (rU (rU st 5 p0) 13 (0 : Int32)) lg ai al) H := hP
          exact W.vret hx hb hr (fun t ht hW => ⟨⟨(), rfl, trivial, p0, (0 : Int32), (by omega), (by omega), by rw [ht]; exact hP⟩, hS.F ht⟩) hS.2.2 dX9_cut_39
        · skip
          have ic_11 := iv_nle c_11
          exfalso
          omega
  exact main s.heap [] hP hS

set_option maxHeartbeats 4000000 in
set_option maxRecDepth 100000 in
theorem v_X9_off (l : Launch) (dC : Nat → ClassId) (dI : Nat → Nat → Nat) (o : Nat) (c : Nat → Nat) (kc : Nat → ClassId) (st : Nat → Int32) (lg : Nat → Int64) (ai : Nat → Nat → Int32) (al : Nat → Nat → Int64)  (sz : Nat) (hf3a : 0 ≤ (st 3).toInt) (hf3b : (st 3).toInt ≤ 1) (hf12a : 0 ≤ (st 12).toInt) (hf12b : (st 12).toInt ≤ 8) : Met l yX9_off wsX9_off ({ frames := 0, cells := 0, slots := 0, locals := 0 }) (va_Pc [.ref o] (fun U => U.heap.size = sz ∧ va_P (dC, dI) vwCl (rw_W o c kc st lg ai al) U.heap ∧ va_K (dC, dI) vwCl (rw_T kc) U ∧ va_D (fun _ => True) (rw_W o c kc st lg ai al))) (va_Qi (fun r (u : Int32) => r = u) (fun u t => ∃ (x3 : Int32) (x12 : Int32) (x13 : Int32), (0 ≤ u.toInt) ∧ (u.toInt ≤ 1) ∧ (0 ≤ x3.toInt) ∧ (x3.toInt ≤ 1) ∧ (0 ≤ x12.toInt) ∧ (x12.toInt ≤ 8) ∧ va_P (dC, dI) vwCl (rw_W o c kc (rU (rU (rU st 3 x3) 12 x12) 13 x13) lg ai al) t.heap) (va_A (rw_W o c kc st lg ai al) sz)) 0 0 (va_A (rw_W o c kc st lg ai al) sz) := by
  refine Met.ofW (cc := cX9_off) (maxL := 2) (ret := (some .boolean)) (by decide) rfl ?_
  intro p e s m args below meth cM s₁ B hml hv
  obtain ⟨rfl, hsz, hP, hK, hD0⟩ := hv
  have hx := B.exec
  have hb := B.bytes
  have hr := B.returns
  have hts := atoms_spec (ws := wsX9_off) B.pre
  have hown : s.vm.findClass RX9 = some m.cls := findClass_of_methodNamed B.named
  subst hsz
  have hD := hD0.self (sz := s.heap.size)
  generalize hAe : va_A (rw_W o c kc st lg ai al) s.heap.size = A at hD ⊢
  have hA : ∀ q : Nat, s.heap.size ≤ q → A q := fun q h => by rw [← hAe]; exact Or.inr h
  have hS : va_S A s.heap s.heap [] := va_S.rf
  clear hAe hD0
  have hl := lv_entry ([.ref o]) (n := 2) (Nat.le_of_ble_eq_true rfl)
  rw [lg_entry_eq]
  generalize (lg_sl ([.ref o]) ++ List.replicate (2 - (lg_sl ([.ref o])).length) Slot.unset).toArray = ls at hl ⊢
  have hl : lv_has ls 2 [(0, .ref o)] := hl
  have z_0 : (0 : Int32).toInt = 0 := by decide
  have z_1 : (1 : Int32).toInt = 1 := by decide
  have hin9 : ∀ w ∈ u_ws RX9 TX9 38, w ∈ wsX9_off := by decide +kernel
  have main : ∀ (H : Heap) (locs : List Loc), va_P (dC, dI) vwCl (rw_W o c kc st lg ai al) H → va_S A s.heap H locs → W p l e (headSpec wsX9_off ({ frames := 0, cells := 0, slots := 0, locals := 0 })).room s m ([.ref o] : List Value).toArray below meth cM H locs 0 0 (MQ below (va_Qi (fun r (u : Int32) => r = u) (fun u t => ∃ (x3 : Int32) (x12 : Int32) (x13 : Int32), (0 ≤ u.toInt) ∧ (u.toInt ≤ 1) ∧ (0 ≤ x3.toInt) ∧ (x3.toInt ≤ 1) ∧ (0 ≤ x12.toInt) ∧ (x12.toInt ≤ 8) ∧ va_P (dC, dI) vwCl (rw_W o c kc (rU (rU (rU st 3 x3) 12 x12) 13 x13) lg ai al) t.heap) A) ([.ref o] : List Value).toArray s 0 0 A) (F0 m 0 ls []) := by
    intro H locs hP hS
    refine lv_aload_n hx hb dX9_off_0 rfl (lv_at hl 0 rfl) ?_
    refine lv_iconst (v := 0) hx hb dX9_off_1 (by decide) ?_
    refine va_put (D := (dC, dI)) (ci := 11) (v := .int (0 : Int32)) (ty := .int) (C := RX9) (T := TX9) (N := 38) hx hb hts hin9 tyX9 tyX9_ok nmX9 hown hK hP (rw_D hD) hS 0 rfl rfl 13 (by decide) (hts (.fieldLink RX9 91 "BlockLogModel" "thrown" "I") (by decide +kernel)) (fun _ h9 => h9) rfl (by decide +kernel) rfl rfl (Nat.le_of_ble_eq_true rfl) dX9_off_2 (fun H locs hP _ hS => ?_)
    have hP : va_P (dC, dI) vwCl (rw_W o c kc (rU st 13 (0 : Int32)) lg ai al) H := hP
    refine lv_aload_n hx hb dX9_off_5 rfl (lv_at hl 0 rfl) ?_
    refine va_get (D := (dC, dI)) (ci := 11) (v := .int (st 3)) (C := RX9) (T := TX9) (N := 38) hx hb hts hin9 hown hK hP 0 rfl rfl 3 (by decide) (hts (.fieldLink RX9 72 "BlockLogModel" "on" "Z") (by decide +kernel)) (fun _ h9 => h9) rfl dX9_off_6 ?_
    refine lv_istore_n (lv' := [(1, .int (st 3)), (0, .ref o)]) hx hb dX9_off_9 rfl hl (by decide) rfl (fun ls hl => ?_)
    refine lv_aload_n hx hb dX9_off_10 rfl (lv_at hl 1 rfl) ?_
    refine lv_iconst (v := 0) hx hb dX9_off_11 (by decide) ?_
    refine va_put (D := (dC, dI)) (ci := 11) (v := .int (0 : Int32)) (ty := .boolean) (C := RX9) (T := TX9) (N := 38) hx hb hts hin9 tyX9 tyX9_ok nmX9 hown hK hP (rw_D hD) hS 0 rfl rfl 3 (by decide) (hts (.fieldLink RX9 72 "BlockLogModel" "on" "Z") (by decide +kernel)) (fun _ h9 => h9) rfl (by decide +kernel) rfl rfl (Nat.le_of_ble_eq_true rfl) dX9_off_12 (fun H locs hP _ hS => ?_)
    have hP : va_P (dC, dI) vwCl (rw_W o c kc (rU (rU st 3 (0 : Int32)) 13 (0 : Int32)) lg ai al) H := hP
    refine lv_aload_n hx hb dX9_off_15 rfl (lv_at hl 1 rfl) ?_
    refine lv_iconst (v := 0) hx hb dX9_off_16 (by decide) ?_
    refine va_put (D := (dC, dI)) (ci := 11) (v := .int (0 : Int32)) (ty := .int) (C := RX9) (T := TX9) (N := 38) hx hb hts hin9 tyX9 tyX9_ok nmX9 hown hK hP (rw_D hD) hS 0 rfl rfl 12 (by decide) (hts (.fieldLink RX9 111 "BlockLogModel" "collected" "I") (by decide +kernel)) (fun _ h9 => h9) rfl (by decide +kernel) rfl rfl (Nat.le_of_ble_eq_true rfl) dX9_off_17 (fun H locs hP _ hS => ?_)
    have hP : va_P (dC, dI) vwCl (rw_W o c kc (rU (rU (rU st 3 (0 : Int32)) 12 (0 : Int32)) 13 (0 : Int32)) lg ai al) H := hP
    refine lv_iload_n hx hb dX9_off_20 rfl (lv_at hl 0 rfl) ?_
    rcases iv_01 (a := st 3) (by omega) (by omega) with b_1 | b_1
    · skip
      have ib_1 := iv_eq b_1
      rw [b_1]
      exact W.zret hx hb hr rfl (fun t ht hW => ⟨⟨_, _, rfl, rfl, (0 : Int32), (0 : Int32), (0 : Int32), (by omega), (by omega), (by omega), (by omega), (by omega), (by omega), by rw [ht]; exact hP⟩, hS.F ht⟩) hS.2.2 dX9_off_21
    · skip
      have ib_1 := iv_eq b_1
      rw [b_1]
      exact W.zret hx hb hr rfl (fun t ht hW => ⟨⟨_, _, rfl, rfl, (0 : Int32), (0 : Int32), (0 : Int32), (by omega), (by omega), (by omega), (by omega), (by omega), (by omega), by rw [ht]; exact hP⟩, hS.F ht⟩) hS.2.2 dX9_off_21
  exact main s.heap [] hP hS

set_option maxHeartbeats 4000000 in
set_option maxRecDepth 100000 in
theorem v_X9_poke (l : Launch) (dC : Nat → ClassId) (dI : Nat → Nat → Nat) (o : Nat) (c : Nat → Nat) (kc : Nat → ClassId) (st : Nat → Int32) (lg : Nat → Int64) (ai : Nat → Nat → Int32) (al : Nat → Nat → Int64) (p0 : Int32) (p1 : Int32) (sz : Nat) (hf2a : 8224 ≤ (st 2).toInt) (hf2b : (st 2).toInt ≤ 1712160) (hf3a : 0 ≤ (st 3).toInt) (hf3b : (st 3).toInt ≤ 1) : Met l yX9_poke wsX9_poke ({ frames := 1, cells := 0, slots := 0, locals := 23 }) (va_Pc [.ref o, .int p0, .int p1] (fun U => U.heap.size = sz ∧ va_P (dC, dI) vwCl (rw_W o c kc st lg ai al) U.heap ∧ va_K (dC, dI) vwCl (rw_T kc) U ∧ va_D (fun _ => True) (rw_W o c kc st lg ai al))) (va_Qi (fun r (u : Int32) => r = u) (fun u t => ∃ (x13 : Int32) (f0 : Nat → Int32), va_P (dC, dI) vwCl (rw_W o c kc (rU st 13 x13) lg (rU ai 0 f0) al) t.heap) (va_A (rw_W o c kc st lg ai al) sz)) 0 0 (va_A (rw_W o c kc st lg ai al) sz) := by
  refine Met.ofW (cc := cX9_poke) (maxL := 3) (ret := (some .int)) (by decide) rfl ?_
  intro p e s m args below meth cM s₁ B hml hv
  obtain ⟨rfl, hsz, hP, hK, hD0⟩ := hv
  have hx := B.exec
  have hb := B.bytes
  have hr := B.returns
  have hts := atoms_spec (ws := wsX9_poke) B.pre
  have hown : s.vm.findClass RX9 = some m.cls := findClass_of_methodNamed B.named
  subst hsz
  have hD := hD0.self (sz := s.heap.size)
  generalize hAe : va_A (rw_W o c kc st lg ai al) s.heap.size = A at hD ⊢
  have hA : ∀ q : Nat, s.heap.size ≤ q → A q := fun q h => by rw [← hAe]; exact Or.inr h
  have hS : va_S A s.heap s.heap [] := va_S.rf
  clear hAe hD0
  have hl := lv_entry ([.ref o, .int p0, .int p1]) (n := 3) (Nat.le_of_ble_eq_true rfl)
  rw [lg_entry_eq]
  generalize (lg_sl ([.ref o, .int p0, .int p1]) ++ List.replicate (3 - (lg_sl ([.ref o, .int p0, .int p1])).length) Slot.unset).toArray = ls at hl ⊢
  have hl : lv_has ls 3 [(0, .ref o), (1, .int p0), (2, .int p1)] := hl
  have z_0 : (0 : Int32).toInt = 0 := by decide
  have z_1 : (1 : Int32).toInt = 1 := by decide
  have z_2 : (2 : Int32).toInt = 2 := by decide
  have z_3 : (3 : Int32).toInt = 3 := by decide
  have z_255 : (255 : Int32).toInt = 255 := by decide
  have hin9 : ∀ w ∈ u_ws RX9 TX9 38, w ∈ wsX9_poke := by decide +kernel
  have main : ∀ (H : Heap) (locs : List Loc), va_P (dC, dI) vwCl (rw_W o c kc st lg ai al) H → va_S A s.heap H locs → W p l e (headSpec wsX9_poke ({ frames := 1, cells := 0, slots := 0, locals := 23 })).room s m ([.ref o, .int p0, .int p1] : List Value).toArray below meth cM H locs 0 0 (MQ below (va_Qi (fun r (u : Int32) => r = u) (fun u t => ∃ (x13 : Int32) (f0 : Nat → Int32), va_P (dC, dI) vwCl (rw_W o c kc (rU st 13 x13) lg (rU ai 0 f0) al) t.heap) A) ([.ref o, .int p0, .int p1] : List Value).toArray s 0 0 A) (F0 m 0 ls []) := by
    intro H locs hP hS
    refine lv_aload_n hx hb dX9_poke_0 rfl (lv_at hl 0 rfl) ?_
    refine lv_iload_n hx hb dX9_poke_1 rfl (lv_at hl 1 rfl) ?_
    refine lv_iconst (v := 0) hx hb dX9_poke_2 (by decide) ?_
    refine lv_aload_n hx hb dX9_poke_3 rfl (lv_at hl 0 rfl) ?_
    refine va_get (D := (dC, dI)) (ci := 11) (v := .int (st 2)) (C := RX9) (T := TX9) (N := 38) hx hb hts hin9 hown hK hP 0 rfl rfl 2 (by decide) (hts (.fieldLink RX9 66 "BlockLogModel" "size" "I") (by decide +kernel)) (fun _ h9 => h9) rfl dX9_poke_4 ?_
    refine lv_iconst (v := 1) hx hb dX9_poke_7 (by decide) ?_
    refine lv_isub hx hb dX9_poke_8 ?_
    refine lv_topi (fun v_1 ev_1 => ?_)
    have rg1 := iv_rng (st 2)
    have hv_1 : v_1.toInt = (st 2).toInt - 1 := by rw [ev_1]; exact (iv_sub (by omega) (by omega)).trans (by omega)
    clear ev_1
    refine vp_callSi (va_Run.run (va_runS (As := [.int p0, .int (0 : Int32), .int v_1]) (rest := [.ref o]) ⟨hx, hb, hml, hown, hts⟩ (v_X9_within l dC dI p0 (0 : Int32) v_1 ) (va_cwS 3 hts gX9_poke_X9_within rfl rfl rfl (by decide +kernel) ⟨Nat.le_of_ble_eq_true rfl, Nat.le_of_ble_eq_true rfl⟩) ⟨fun a U g mk q => q, fun U hU hW => ⟨rfl, trivial⟩⟩ rfl rfl hl.1 rfl (lv_room (Nat.le_of_ble_eq_true rfl)) dX9_poke_9 ⟨Nat.le_of_ble_eq_true rfl, Nat.le_of_ble_eq_true rfl⟩)) (fun r_2 er_2 => ?_)
    obtain ⟨k_3, k_4, k_5, k_6, k_7⟩ := er_2
    rcases iv_01 (a := r_2) (by omega) (by omega) with b_8 | b_8
    · skip
      have ib_8 := iv_eq b_8
      rw [b_8]
      refine lv_if_ne (tgt := 19) hx hb dX9_poke_12 (by decide) (fun c_9 => ?_) (fun c_9 => ?_)
      · skip
        have ic_9 := iv_ne c_9
        exfalso
        omega
      · skip
        have ic_9 := iv_eq c_9
        refine lv_iconst (v := 1) hx hb dX9_poke_15 (by decide) ?_
        refine lv_goto (tgt := 46) hx hb dX9_poke_16 (by decide) ?_
        refine va_put (D := (dC, dI)) (ci := 11) (v := .int (1 : Int32)) (ty := .int) (C := RX9) (T := TX9) (N := 38) hx hb hts hin9 tyX9 tyX9_ok nmX9 hown hK hP (rw_D hD) hS 0 rfl rfl 13 (by decide) (hts (.fieldLink RX9 91 "BlockLogModel" "thrown" "I") (by decide +kernel)) (fun _ h9 => h9) rfl (by decide +kernel) rfl rfl (Nat.le_of_ble_eq_true rfl) dX9_poke_46 (fun H locs hP _ hS => ?_)
        have hP : va_P (dC, dI) vwCl (rw_W o c kc (rU st 13 (1 : Int32)) lg ai al) H := hP
        refine lv_aload_n hx hb dX9_poke_49 rfl (lv_at hl 0 rfl) ?_
        refine va_get (D := (dC, dI)) (ci := 11) (v := .int (1 : Int32)) (C := RX9) (T := TX9) (N := 38) hx hb hts hin9 hown hK hP 0 rfl rfl 13 (by decide) (hts (.fieldLink RX9 91 "BlockLogModel" "thrown" "I") (by decide +kernel)) (fun _ h9 => h9) rfl dX9_poke_50 ?_
        refine lv_if_le (tgt := 58) hx hb dX9_poke_53 (by decide) (fun c_10 => ?_) (fun c_10 => ?_)
        · skip
          have ic_10 := iv_le c_10
          exfalso
          omega
        · skip
          have ic_10 := iv_nle c_10
          refine lv_iconst (v := 0) hx hb dX9_poke_56 (by decide) ?_
          exact W.iret hx hb hr (fun t ht hW => ⟨⟨_, _, rfl, rfl, (1 : Int32), ai 0, by rw [ht]; exact hP⟩, hS.F ht⟩) hS.2.2 dX9_poke_57
    · skip
      have ib_8 := iv_eq b_8
      rw [b_8]
      refine lv_if_ne (tgt := 19) hx hb dX9_poke_12 (by decide) (fun c_11 => ?_) (fun c_11 => ?_)
      · skip
        have ic_11 := iv_ne c_11
        refine lv_aload_n hx hb dX9_poke_19 rfl (lv_at hl 0 rfl) ?_
        refine va_get (D := (dC, dI)) (ci := 11) (v := .int (st 3)) (C := RX9) (T := TX9) (N := 38) hx hb hts hin9 hown hK hP 0 rfl rfl 3 (by decide) (hts (.fieldLink RX9 72 "BlockLogModel" "on" "Z") (by decide +kernel)) (fun _ h9 => h9) rfl dX9_poke_20 ?_
        refine lv_if_eq (tgt := 30) hx hb dX9_poke_23 (by decide) (fun c_12 => ?_) (fun c_12 => ?_)
        · skip
          have ic_12 := iv_eq c_12
          refine lv_iload_n hx hb dX9_poke_30 rfl (lv_at hl 2 rfl) ?_
          refine lv_iconst (v := 0) hx hb dX9_poke_31 (by decide) ?_
          refine lv_sipush (v := 255) hx hb dX9_poke_32 (by decide) ?_
          refine vp_callSi (va_Run.run (va_runS (As := [.int p1, .int (0 : Int32), .int (255 : Int32)]) (rest := [.ref o]) ⟨hx, hb, hml, hown, hts⟩ (v_X9_within l dC dI p1 (0 : Int32) (255 : Int32) ) (va_cwS 3 hts gX9_poke_X9_within rfl rfl rfl (by decide +kernel) ⟨Nat.le_of_ble_eq_true rfl, Nat.le_of_ble_eq_true rfl⟩) ⟨fun a U g mk q => q, fun U hU hW => ⟨rfl, trivial⟩⟩ rfl rfl hl.1 rfl (lv_room (Nat.le_of_ble_eq_true rfl)) dX9_poke_35 ⟨Nat.le_of_ble_eq_true rfl, Nat.le_of_ble_eq_true rfl⟩)) (fun r_13 er_13 => ?_)
          obtain ⟨k_14, k_15, k_16, k_17, k_18⟩ := er_13
          rcases iv_01 (a := r_13) (by omega) (by omega) with b_19 | b_19
          · skip
            have ib_19 := iv_eq b_19
            rw [b_19]
            refine lv_if_ne (tgt := 45) hx hb dX9_poke_38 (by decide) (fun c_20 => ?_) (fun c_20 => ?_)
            · skip
              have ic_20 := iv_ne c_20
              exfalso
              omega
            · skip
              have ic_20 := iv_eq c_20
              refine lv_iconst (v := 3) hx hb dX9_poke_41 (by decide) ?_
              refine lv_goto (tgt := 46) hx hb dX9_poke_42 (by decide) ?_
              refine va_put (D := (dC, dI)) (ci := 11) (v := .int (3 : Int32)) (ty := .int) (C := RX9) (T := TX9) (N := 38) hx hb hts hin9 tyX9 tyX9_ok nmX9 hown hK hP (rw_D hD) hS 0 rfl rfl 13 (by decide) (hts (.fieldLink RX9 91 "BlockLogModel" "thrown" "I") (by decide +kernel)) (fun _ h9 => h9) rfl (by decide +kernel) rfl rfl (Nat.le_of_ble_eq_true rfl) dX9_poke_46 (fun H locs hP _ hS => ?_)
              have hP : va_P (dC, dI) vwCl (rw_W o c kc (rU st 13 (3 : Int32)) lg ai al) H := hP
              refine lv_aload_n hx hb dX9_poke_49 rfl (lv_at hl 0 rfl) ?_
              refine va_get (D := (dC, dI)) (ci := 11) (v := .int (3 : Int32)) (C := RX9) (T := TX9) (N := 38) hx hb hts hin9 hown hK hP 0 rfl rfl 13 (by decide) (hts (.fieldLink RX9 91 "BlockLogModel" "thrown" "I") (by decide +kernel)) (fun _ h9 => h9) rfl dX9_poke_50 ?_
              refine lv_if_le (tgt := 58) hx hb dX9_poke_53 (by decide) (fun c_21 => ?_) (fun c_21 => ?_)
              · skip
                have ic_21 := iv_le c_21
                exfalso
                omega
              · skip
                have ic_21 := iv_nle c_21
                refine lv_iconst (v := 0) hx hb dX9_poke_56 (by decide) ?_
                exact W.iret hx hb hr (fun t ht hW => ⟨⟨_, _, rfl, rfl, (3 : Int32), ai 0, by rw [ht]; exact hP⟩, hS.F ht⟩) hS.2.2 dX9_poke_57
          · skip
            have ib_19 := iv_eq b_19
            rw [b_19]
            refine lv_if_ne (tgt := 45) hx hb dX9_poke_38 (by decide) (fun c_22 => ?_) (fun c_22 => ?_)
            · skip
              have ic_22 := iv_ne c_22
              refine lv_iconst (v := 0) hx hb dX9_poke_45 (by decide) ?_
              refine va_put (D := (dC, dI)) (ci := 11) (v := .int (0 : Int32)) (ty := .int) (C := RX9) (T := TX9) (N := 38) hx hb hts hin9 tyX9 tyX9_ok nmX9 hown hK hP (rw_D hD) hS 0 rfl rfl 13 (by decide) (hts (.fieldLink RX9 91 "BlockLogModel" "thrown" "I") (by decide +kernel)) (fun _ h9 => h9) rfl (by decide +kernel) rfl rfl (Nat.le_of_ble_eq_true rfl) dX9_poke_46 (fun H locs hP _ hS => ?_)
              have hP : va_P (dC, dI) vwCl (rw_W o c kc (rU st 13 (0 : Int32)) lg ai al) H := hP
              refine lv_aload_n hx hb dX9_poke_49 rfl (lv_at hl 0 rfl) ?_
              refine va_get (D := (dC, dI)) (ci := 11) (v := .int (0 : Int32)) (C := RX9) (T := TX9) (N := 38) hx hb hts hin9 hown hK hP 0 rfl rfl 13 (by decide) (hts (.fieldLink RX9 91 "BlockLogModel" "thrown" "I") (by decide +kernel)) (fun _ h9 => h9) rfl dX9_poke_50 ?_
              refine lv_if_le (tgt := 58) hx hb dX9_poke_53 (by decide) (fun c_23 => ?_) (fun c_23 => ?_)
              · skip
                have ic_23 := iv_le c_23
                refine lv_aload_n hx hb dX9_poke_58 rfl (lv_at hl 0 rfl) ?_
                refine lv_iload_n hx hb dX9_poke_59 rfl (lv_at hl 1 rfl) ?_
                refine lv_aload_n hx hb dX9_poke_60 rfl (lv_at hl 0 rfl) ?_
                refine lv_iload_n hx hb dX9_poke_61 rfl (lv_at hl 1 rfl) ?_
                refine vp_callSi (va_Run.run (va_runV (As := [.int p0]) (rest := [.int p0, .ref o]) ⟨hx, hb, hml, hown, hts⟩ (v_X9_byteIn l dC dI o c kc (rU st 13 (0 : Int32)) lg ai al p0 (by omega) (by omega)) (cwV 1 hts gX9_poke_X9_byteIn rfl rfl rfl (by decide +kernel) ⟨Nat.le_of_ble_eq_true rfl, Nat.le_of_ble_eq_true rfl⟩) ⟨fun a U g mk q => by obtain ⟨q0, qP, qK⟩ := q; exact ⟨q0, qP, va_K.moved (u := U) (U := U.calling g mk a) (Vm.Alike.refl U.vm) qK⟩, va_recv hK hP (ci := 11) (q := (RX9, TX9, 38)) rfl (q0 := 0) rfl, fun U hU hW => ⟨rfl, by rw [hU]; exact hP, va_K.moved hW.alike hK⟩⟩ rfl rfl hl.1 rfl (lv_room (Nat.le_of_ble_eq_true rfl)) dX9_poke_62 ⟨Nat.le_of_ble_eq_true rfl, Nat.le_of_ble_eq_true rfl⟩)) (fun r_24 er_24 => ?_)
                obtain ⟨k_25, k_26, k_27⟩ := er_24
                have k_25 : r_24.toInt = (md_get (ai 0) p0).toInt := k_25
                refine lv_iload_n hx hb dX9_poke_65 rfl (lv_at hl 2 rfl) ?_
                refine lv_ixor hx hb dX9_poke_66 ?_
                refine lv_topi (fun v_28 ev_28 => ?_)
                clear ev_28
                have hFc := vfree (rw_D hD : va_D A (rw_W o c kc (rU st 13 (0 : Int32)) lg ai al)) hS hA
                refine va_callv (va_runV (As := [.int p0, .int v_28]) (rest := []) ⟨hx, hb, hml, hown, hts⟩ (v_X9_set l dC dI o c kc (rU st 13 (0 : Int32)) lg ai al p0 v_28 _ (by omega) (by omega)) (cwV 2 hts gX9_poke_X9_set rfl rfl rfl (by decide +kernel) ⟨Nat.le_of_ble_eq_true rfl, Nat.le_of_ble_eq_true rfl⟩) ⟨fun a U g mk q => by obtain ⟨q0, q1, qP, qK, qD⟩ := q; exact ⟨q0, q1, qP, va_K.moved (u := U) (U := U.calling g mk a) (Vm.Alike.refl U.vm) qK, qD⟩, va_recv hK hP (ci := 11) (q := (RX9, TX9, 38)) rfl (q0 := 0) rfl, fun U hU hW => ⟨rfl, by rw [hU], by rw [hU]; exact hP, va_K.moved hW.alike hK, rw_D (hD.weaken (fun _ _ _ _ => trivial))⟩⟩ rfl rfl hl.1 rfl (lv_room (Nat.le_of_ble_eq_true rfl)) dX9_poke_67 ⟨Nat.le_of_ble_eq_true rfl, Nat.le_of_ble_eq_true rfl⟩) hS (fun q _ h => hFc q h) hFc (fun ur_29 t H1 locs ht hvm er_29 hB hz1 hk1 hS => ?_)
                obtain ⟨f0_29, hP1⟩ := hB
                rw [ht] at hP1
                clear hFc hz1 hk1 hvm hP
                subst ht
                have hP := hP1
                clear hP1
                generalize t.heap = H at hP hS ⊢
                have hP : va_P (dC, dI) vwCl (rw_W o c kc (rU st 13 (0 : Int32)) lg (rU ai 0 f0_29) al) H := hP
                refine lv_aload_n hx hb dX9_poke_70 rfl (lv_at hl 0 rfl) ?_
                refine lv_iload_n hx hb dX9_poke_71 rfl (lv_at hl 1 rfl) ?_
                refine vp_callSi (va_Run.run (va_runV (As := [.int p0]) (rest := []) ⟨hx, hb, hml, hown, hts⟩ (v_X9_byteIn l dC dI o c kc (rU st 13 (0 : Int32)) lg (rU ai 0 f0_29) al p0 (by omega) (by omega)) (cwV 1 hts gX9_poke_X9_byteIn rfl rfl rfl (by decide +kernel) ⟨Nat.le_of_ble_eq_true rfl, Nat.le_of_ble_eq_true rfl⟩) ⟨fun a U g mk q => by obtain ⟨q0, qP, qK⟩ := q; exact ⟨q0, qP, va_K.moved (u := U) (U := U.calling g mk a) (Vm.Alike.refl U.vm) qK⟩, va_recv hK hP (ci := 11) (q := (RX9, TX9, 38)) rfl (q0 := 0) rfl, fun U hU hW => ⟨rfl, by rw [hU]; exact hP, va_K.moved hW.alike hK⟩⟩ rfl rfl hl.1 rfl (lv_room (Nat.le_of_ble_eq_true rfl)) dX9_poke_72 ⟨Nat.le_of_ble_eq_true rfl, Nat.le_of_ble_eq_true rfl⟩)) (fun r_30 er_30 => ?_)
                obtain ⟨k_31, k_32, k_33⟩ := er_30
                have k_31 : r_30.toInt = (md_get f0_29 p0).toInt := k_31
                exact W.iret hx hb hr (fun t ht hW => ⟨⟨_, _, rfl, rfl, (0 : Int32), f0_29, by rw [ht]; exact hP⟩, hS.F ht⟩) hS.2.2 dX9_poke_75
              · skip
                have ic_23 := iv_nle c_23
                exfalso
                omega
            · skip
              have ic_22 := iv_eq c_22
              exfalso
              omega
        · skip
          have ic_12 := iv_ne c_12
          refine lv_iconst (v := 2) hx hb dX9_poke_26 (by decide) ?_
          refine lv_goto (tgt := 46) hx hb dX9_poke_27 (by decide) ?_
          refine va_put (D := (dC, dI)) (ci := 11) (v := .int (2 : Int32)) (ty := .int) (C := RX9) (T := TX9) (N := 38) hx hb hts hin9 tyX9 tyX9_ok nmX9 hown hK hP (rw_D hD) hS 0 rfl rfl 13 (by decide) (hts (.fieldLink RX9 91 "BlockLogModel" "thrown" "I") (by decide +kernel)) (fun _ h9 => h9) rfl (by decide +kernel) rfl rfl (Nat.le_of_ble_eq_true rfl) dX9_poke_46 (fun H locs hP _ hS => ?_)
          have hP : va_P (dC, dI) vwCl (rw_W o c kc (rU st 13 (2 : Int32)) lg ai al) H := hP
          refine lv_aload_n hx hb dX9_poke_49 rfl (lv_at hl 0 rfl) ?_
          refine va_get (D := (dC, dI)) (ci := 11) (v := .int (2 : Int32)) (C := RX9) (T := TX9) (N := 38) hx hb hts hin9 hown hK hP 0 rfl rfl 13 (by decide) (hts (.fieldLink RX9 91 "BlockLogModel" "thrown" "I") (by decide +kernel)) (fun _ h9 => h9) rfl dX9_poke_50 ?_
          refine lv_if_le (tgt := 58) hx hb dX9_poke_53 (by decide) (fun c_34 => ?_) (fun c_34 => ?_)
          · skip
            have ic_34 := iv_le c_34
            exfalso
            omega
          · skip
            have ic_34 := iv_nle c_34
            refine lv_iconst (v := 0) hx hb dX9_poke_56 (by decide) ?_
            exact W.iret hx hb hr (fun t ht hW => ⟨⟨_, _, rfl, rfl, (2 : Int32), ai 0, by rw [ht]; exact hP⟩, hS.F ht⟩) hS.2.2 dX9_poke_57
      · skip
        have ic_11 := iv_eq c_11
        exfalso
        omega
  exact main s.heap [] hP hS
