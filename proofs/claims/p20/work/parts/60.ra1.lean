set_option maxHeartbeats 4000000 in
set_option maxRecDepth 100000 in
theorem v_X9_stateOf (l : Launch) (dC : Nat → ClassId) (dI : Nat → Nat → Nat) (o : Nat) (c : Nat → Nat) (kc : Nat → ClassId) (st : Nat → Int32) (lg : Nat → Int64) (ai : Nat → Nat → Int32) (al : Nat → Nat → Int64) (p0 : Int32) (p1 : Int32) (p2 : Int32) (hq0 : 0 ≤ p0.toInt) (hq1 : 26 ≤ p1.toInt) (hq2 : p1.toInt ≤ 32) (hq3 : p0.toInt + p1.toInt ≤ 1712160) : Met l yX9_stateOf wsX9_stateOf ({ frames := 3, cells := 0, slots := 0, locals := 66 }) (va_Pc [.ref o, .int p0, .int p1, .int p2] (fun U => va_P (dC, dI) vwCl (rw_W o c kc st lg ai al) U.heap ∧ va_K (dC, dI) vwCl (rw_T kc) U)) (vp_Si (fun r => (0 ≤ r.toInt) ∧ (r.toInt ≤ 3) ∧ ((r.toInt = 1 → rtP (ai 0) p0 p1 p2) ∧ (r.toInt ≠ 1 → ¬ rtP (ai 0) p0 p1 p2)))) 0 0 (fun _ => False) := by
  refine Met.ofW (cc := cX9_stateOf) (maxL := 8) (ret := (some .int)) (by decide) rfl ?_
  intro p e s m args below meth cM s₁ B hml hv
  obtain ⟨rfl, hP, hK⟩ := hv
  have hx := B.exec
  have hb := B.bytes
  have hr := B.returns
  have hts := atoms_spec (ws := wsX9_stateOf) B.pre
  have hown : s.vm.findClass RX9 = some m.cls := findClass_of_methodNamed B.named
  have hl := lv_entry ([.ref o, .int p0, .int p1, .int p2]) (n := 8) (Nat.le_of_ble_eq_true rfl)
  rw [lg_entry_eq]
  generalize (lg_sl ([.ref o, .int p0, .int p1, .int p2]) ++ List.replicate (8 - (lg_sl ([.ref o, .int p0, .int p1, .int p2])).length) Slot.unset).toArray = ls at hl ⊢
  have hl : lv_has ls 8 [(0, .ref o), (1, .int p0), (2, .int p1), (3, .int p2)] := hl
  have z_0 : (0 : Int32).toInt = 0 := by decide
  have z_1 : (1 : Int32).toInt = 1 := by decide
  have z_2 : (2 : Int32).toInt = 2 := by decide
  have z_3 : (3 : Int32).toInt = 3 := by decide
  have z_8 : (8 : Int32).toInt = 8 := by decide
  have z_9 : (9 : Int32).toInt = 9 := by decide
  have z_165 : (165 : Int32).toInt = 165 := by decide
  refine lv_iconst (v := 1) hx hb dX9_stateOf_0 (by decide) ?_
  refine lv_istore (lv' := [(4, .int (1 : Int32)), (0, .ref o), (1, .int p0), (2, .int p1), (3, .int p2)]) hx hb dX9_stateOf_1 hl (by decide) rfl (fun ls hl => ?_)
  refine lv_iconst (v := 1) hx hb dX9_stateOf_3 (by decide) ?_
  refine lv_istore (lv' := [(5, .int (1 : Int32)), (4, .int (1 : Int32)), (0, .ref o), (1, .int p0), (2, .int p1), (3, .int p2)]) hx hb dX9_stateOf_4 hl (by decide) rfl (fun ls hl => ?_)
  refine lv_iconst (v := 0) hx hb dX9_stateOf_6 (by decide) ?_
  refine lv_istore (lv' := [(6, .int (0 : Int32)), (5, .int (1 : Int32)), (4, .int (1 : Int32)), (0, .ref o), (1, .int p0), (2, .int p1), (3, .int p2)]) hx hb dX9_stateOf_7 hl (by decide) rfl (fun ls hl => ?_)
  have loop9 : ∀ (n : Nat) (l6_9 : Int32) (l5_9 : Int32) (l4_9 : Int32) (ls : Array Slot), (0 ≤ l6_9.toInt) → (l6_9.toInt ≤ p1.toInt) → (0 ≤ l4_9.toInt) → (l4_9.toInt ≤ 1) → (0 ≤ l5_9.toInt) → (l5_9.toInt ≤ 1) → (alI (ai 0) p0 p1 l4_9 l6_9) → (p1.toInt - l6_9.toInt : Int).toNat < n → lv_has ls 8 [(6, .int l6_9), (5, .int l5_9), (4, .int l4_9), (0, .ref o), (1, .int p0), (2, .int p1), (3, .int p2)] → W p l e (headSpec wsX9_stateOf ({ frames := 3, cells := 0, slots := 0, locals := 66 })).room s m ([.ref o, .int p0, .int p1, .int p2] : List Value).toArray below meth cM s.heap [] 0 0 (MQ below (vp_Si (fun r => (0 ≤ r.toInt) ∧ (r.toInt ≤ 3) ∧ ((r.toInt = 1 → rtP (ai 0) p0 p1 p2) ∧ (r.toInt ≠ 1 → ¬ rtP (ai 0) p0 p1 p2)))) ([.ref o, .int p0, .int p1, .int p2] : List Value).toArray s 0 0 (fun _ => False)) (F0 m 9 ls []) := by
    intro n
    induction n with
    | zero => intro l6_9 l5_9 l4_9 ls if0_9 if1_9 if2_9 if3_9 if4_9 if5_9 hal hm; exact absurd hm (Nat.not_lt_zero _)
    | succ n ih9 =>
      intro l6_9 l5_9 l4_9 ls if0_9 if1_9 if2_9 if3_9 if4_9 if5_9 hal hm9 hl
      refine lv_iload hx hb dX9_stateOf_9 (lv_at hl 0 rfl) ?_
      refine lv_iload_n hx hb dX9_stateOf_11 rfl (lv_at hl 5 rfl) ?_
      refine lv_icmp_ge (tgt := 71) hx hb dX9_stateOf_12 (by decide) (fun c_1 => ?_) (fun c_1 => ?_)
      · skip
        have ic_1 := iv_le c_1
        refine lv_iload hx hb dX9_stateOf_71 (lv_at hl 2 rfl) ?_
        refine lv_if_eq (tgt := 78) hx hb dX9_stateOf_73 (by decide) (fun c_2 => ?_) (fun c_2 => ?_)
        · skip
          have ic_2 := iv_eq c_2
          have hnz := hal.2 (by omega)
          refine lv_aload_n hx hb dX9_stateOf_78 rfl (lv_at hl 3 rfl) ?_
          refine lv_iload_n hx hb dX9_stateOf_79 rfl (lv_at hl 4 rfl) ?_
          refine lv_iload_n hx hb dX9_stateOf_80 rfl (lv_at hl 5 rfl) ?_
          refine lv_iadd hx hb dX9_stateOf_81 ?_
          refine lv_topi (fun v_3 ev_3 => ?_)
          have rg1 := iv_rng p0
          have rg2 := iv_rng p1
          have hv_3 : v_3.toInt = p0.toInt + p1.toInt := by rw [ev_3]; exact (iv_add (by omega) (by omega)).trans (by omega)
          refine lv_bipush (v := 9) hx hb dX9_stateOf_82 (by decide) ?_
          refine lv_isub hx hb dX9_stateOf_84 ?_
          refine lv_topi (fun v_4 ev_4 => ?_)
          have rg3 := iv_rng v_3
          have hv_4 : v_4.toInt = v_3.toInt - 9 := by rw [ev_4]; exact (iv_sub (by omega) (by omega)).trans (by omega)
          refine lv_bipush (v := 8) hx hb dX9_stateOf_85 (by decide) ?_
          refine vp_callSl (va_Run.run (va_runV (As := [.int v_4, .int (8 : Int32)]) (rest := []) ⟨hx, hb, hml, hown, hts⟩ (v_X9_number l dC dI o c kc st lg ai al v_4 (8 : Int32) (by omega) (by omega) (by omega) (by omega)) (cwV 2 hts gX9_stateOf_X9_number rfl rfl rfl (by decide +kernel) ⟨Nat.le_of_ble_eq_true rfl, Nat.le_of_ble_eq_true rfl⟩) ⟨fun a U g mk q => by obtain ⟨q0, qP, qK⟩ := q; exact ⟨q0, qP, va_K.moved (u := U) (U := U.calling g mk a) (Vm.Alike.refl U.vm) qK⟩, va_recv hK hP (ci := 11) (q := (RX9, TX9, 38)) rfl (q0 := 0) rfl, fun U hU hW => ⟨rfl, by rw [hU]; exact hP, va_K.moved hW.alike hK⟩⟩ rfl rfl hl.1 rfl (lv_room (Nat.le_of_ble_eq_true rfl)) dX9_stateOf_87 ⟨Nat.le_of_ble_eq_true rfl, Nat.le_of_ble_eq_true rfl⟩)) (fun r_5 er_5 => ?_)
          have hn := er_5
          have hn : r_5 = md_num (ai 0) v_4 (8 : Int32).toNatClampNeg := hn
          have hnum : r_5 = nmZ (ai 0) (p0.toInt + p1.toInt - 9) := nm_of hn (by omega)
          refine lv_lstore (lv' := [(6, .long r_5), (5, .int l5_9), (4, .int l4_9), (0, .ref o), (1, .int p0), (2, .int p1), (3, .int p2)]) hx hb dX9_stateOf_90 hl (by decide) rfl (fun ls hl => ?_)
          refine lv_iload_n hx hb dX9_stateOf_92 rfl (lv_at hl 6 rfl) ?_
          refine lv_iconst (v := 2) hx hb dX9_stateOf_93 (by decide) ?_
          refine lv_icmp_eq (tgt := 105) hx hb dX9_stateOf_94 (by decide) (fun c_6 => ?_) (fun c_6 => ?_)
          · skip
            have ic_6 := iv_eq c_6
            have hl2 : p2.toInt = 2 ∨ lfP (ai 0) p0 := (by first | exact Or.inl (by omega) | exact Or.inr (hlf.1 (by omega)))
            refine lv_lload hx hb dX9_stateOf_105 (lv_at hl 0 rfl) ?_
            refine lv_aload_n hx hb dX9_stateOf_107 rfl (lv_at hl 3 rfl) ?_
            refine lv_iload_n hx hb dX9_stateOf_108 rfl (lv_at hl 6 rfl) ?_
            refine lv_iload_n hx hb dX9_stateOf_109 rfl (lv_at hl 4 rfl) ?_
            refine lv_iload_n hx hb dX9_stateOf_110 rfl (lv_at hl 5 rfl) ?_
            refine lv_bipush (v := 9) hx hb dX9_stateOf_111 (by decide) ?_
            refine lv_isub hx hb dX9_stateOf_113 ?_
            refine lv_topi (fun v_7 ev_7 => ?_)
            have hv_7 : v_7.toInt = p1.toInt - 9 := by rw [ev_7]; exact (iv_sub (by omega) (by omega)).trans (by omega)
            refine vp_callSl (va_Run.run (va_runV (As := [.int p2, .int p0, .int v_7]) (rest := [.long r_5]) ⟨hx, hb, hml, hown, hts⟩ (v_X9_sumOf l dC dI o c kc st lg ai al p2 p0 v_7 (by omega) (by omega) (by omega) (by omega)) (cwV 3 hts gX9_stateOf_X9_sumOf rfl rfl rfl (by decide +kernel) ⟨Nat.le_of_ble_eq_true rfl, Nat.le_of_ble_eq_true rfl⟩) ⟨fun a U g mk q => by obtain ⟨q0, qP, qK⟩ := q; exact ⟨q0, qP, va_K.moved (u := U) (U := U.calling g mk a) (Vm.Alike.refl U.vm) qK⟩, va_recv hK hP (ci := 11) (q := (RX9, TX9, 38)) rfl (q0 := 0) rfl, fun U hU hW => ⟨rfl, by rw [hU]; exact hP, va_K.moved hW.alike hK⟩⟩ rfl rfl hl.1 rfl (lv_room (Nat.le_of_ble_eq_true rfl)) dX9_stateOf_114 ⟨Nat.le_of_ble_eq_true rfl, Nat.le_of_ble_eq_true rfl⟩)) (fun r_8 er_8 => ?_)
            have hs := er_8
            have hs : r_8 = sF (ai 0) p2 p0 v_7.toInt.toNat := hs
            have hsm : r_8 = sF (ai 0) p2 p0 (p1.toInt - 9).toNat := sm_of hs (by omega)
            refine W.lcmp hx hb dX9_stateOf_117 ?_
            refine lv_topi (fun v_9 ev_9 => ?_)
            refine lv_if_ne (tgt := 145) hx hb dX9_stateOf_118 (by decide) (fun c_10 => ?_) (fun c_10 => ?_)
            · skip
              have ic_10 := iv_ne c_10
              have hno : ¬ rtP (ai 0) p0 p1 p2 := (by first | exact rt_no1 hby (hlf.2 (by omega)) | exact rt_no2 hnum hsm (by assumption) (by assumption) | exact rt_no3 hnum hkv2 (by omega) (by assumption) (by assumption))
              refine lv_aload_n hx hb dX9_stateOf_145 rfl (lv_at hl 3 rfl) ?_
              refine lv_iload_n hx hb dX9_stateOf_146 rfl (lv_at hl 4 rfl) ?_
              refine lv_iload_n hx hb dX9_stateOf_147 rfl (lv_at hl 5 rfl) ?_
              refine lv_iadd hx hb dX9_stateOf_148 ?_
              refine lv_topi (fun v_11 ev_11 => ?_)
              have hv_11 : v_11.toInt = p0.toInt + p1.toInt := by rw [ev_11]; exact (iv_add (by omega) (by omega)).trans (by omega)
              refine lv_iconst (v := 1) hx hb dX9_stateOf_149 (by decide) ?_
              refine lv_isub hx hb dX9_stateOf_150 ?_
              refine lv_topi (fun v_12 ev_12 => ?_)
              have rg4 := iv_rng v_11
              have hv_12 : v_12.toInt = v_11.toInt - 1 := by rw [ev_12]; exact (iv_sub (by omega) (by omega)).trans (by omega)
              refine vp_callSi (va_Run.run (va_runV (As := [.int v_12]) (rest := []) ⟨hx, hb, hml, hown, hts⟩ (v_X9_byteIn l dC dI o c kc st lg ai al v_12 (by omega) (by omega)) (cwV 1 hts gX9_stateOf_X9_byteIn rfl rfl rfl (by decide +kernel) ⟨Nat.le_of_ble_eq_true rfl, Nat.le_of_ble_eq_true rfl⟩) ⟨fun a U g mk q => by obtain ⟨q0, qP, qK⟩ := q; exact ⟨q0, qP, va_K.moved (u := U) (U := U.calling g mk a) (Vm.Alike.refl U.vm) qK⟩, va_recv hK hP (ci := 11) (q := (RX9, TX9, 38)) rfl (q0 := 0) rfl, fun U hU hW => ⟨rfl, by rw [hU]; exact hP, va_K.moved hW.alike hK⟩⟩ rfl rfl hl.1 rfl (lv_room (Nat.le_of_ble_eq_true rfl)) dX9_stateOf_151 ⟨Nat.le_of_ble_eq_true rfl, Nat.le_of_ble_eq_true rfl⟩)) (fun r_13 er_13 => ?_)
              obtain ⟨k_14, k_15, k_16⟩ := er_13
              have k_14 : r_13.toInt = (md_get (ai 0) v_12).toInt := k_14
              refine lv_if_eq (tgt := 162) hx hb dX9_stateOf_154 (by decide) (fun c_17 => ?_) (fun c_17 => ?_)
              · skip
                have ic_17 := iv_eq c_17
                refine lv_iconst (v := 2) hx hb dX9_stateOf_162 (by decide) ?_
                refine lv_goto (tgt := 167) hx hb dX9_stateOf_163 (by decide) ?_
                exact W.iret hx hb hr (fun t ht hW => ⟨_, rfl, ⟨(by omega), (by omega), ⟨fun h => absurd h (by omega), fun _ => hno⟩⟩, ht⟩) (fun q h => by cases h) dX9_stateOf_167
              · skip
                have ic_17 := iv_ne c_17
                refine lv_iload hx hb dX9_stateOf_157 (lv_at hl 1 rfl) ?_
                refine lv_if_eq (tgt := 166) hx hb dX9_stateOf_159 (by decide) (fun c_18 => ?_) (fun c_18 => ?_)
                · skip
                  have ic_18 := iv_eq c_18
                  refine lv_iconst (v := 3) hx hb dX9_stateOf_166 (by decide) ?_
                  exact W.iret hx hb hr (fun t ht hW => ⟨_, rfl, ⟨(by omega), (by omega), ⟨fun h => absurd h (by omega), fun _ => hno⟩⟩, ht⟩) (fun q h => by cases h) dX9_stateOf_167
                · skip
                  have ic_18 := iv_ne c_18
                  refine lv_iconst (v := 2) hx hb dX9_stateOf_162 (by decide) ?_
                  refine lv_goto (tgt := 167) hx hb dX9_stateOf_163 (by decide) ?_
                  exact W.iret hx hb hr (fun t ht hW => ⟨_, rfl, ⟨(by omega), (by omega), ⟨fun h => absurd h (by omega), fun _ => hno⟩⟩, ht⟩) (fun q h => by cases h) dX9_stateOf_167
            · skip
              have ic_10 := iv_eq c_10
              have hse : nmZ (ai 0) (p0.toInt + p1.toInt - 9) = sF (ai 0) p2 p0 (p1.toInt - 9).toNat := (hnum.symm.trans ((se_y (by assumption) (by assumption)).trans hsm))
              refine lv_lload hx hb dX9_stateOf_121 (lv_at hl 0 rfl) ?_
              refine lv_lconst (v := 0) hx hb dX9_stateOf_123 (by decide) ?_
              refine W.lcmp hx hb dX9_stateOf_124 ?_
              refine lv_topi (fun v_19 ev_19 => ?_)
              refine lv_if_ne (tgt := 143) hx hb dX9_stateOf_125 (by decide) (fun c_20 => ?_) (fun c_20 => ?_)
              · skip
                have ic_20 := iv_ne c_20
                have hyes : rtP (ai 0) p0 p1 p2 := ⟨hnz, hl2, hse, (by first | exact Or.inl (nz_y hnum (by assumption) (by assumption)) | exact Or.inr (gt_of hkv2 (by omega)))⟩
                refine lv_iconst (v := 1) hx hb dX9_stateOf_143 (by decide) ?_
                exact W.iret hx hb hr (fun t ht hW => ⟨_, rfl, ⟨(by omega), (by omega), ⟨fun _ => hyes, fun h => absurd (by omega) h⟩⟩, ht⟩) (fun q h => by cases h) dX9_stateOf_144
              · skip
                have ic_20 := iv_eq c_20
                refine lv_aload_n hx hb dX9_stateOf_128 rfl (lv_at hl 3 rfl) ?_
                refine lv_iload_n hx hb dX9_stateOf_129 rfl (lv_at hl 4 rfl) ?_
                refine lv_iload_n hx hb dX9_stateOf_130 rfl (lv_at hl 5 rfl) ?_
                refine lv_iadd hx hb dX9_stateOf_131 ?_
                refine lv_topi (fun v_21 ev_21 => ?_)
                have hv_21 : v_21.toInt = p0.toInt + p1.toInt := by rw [ev_21]; exact (iv_add (by omega) (by omega)).trans (by omega)
                refine lv_iconst (v := 1) hx hb dX9_stateOf_132 (by decide) ?_
                refine lv_isub hx hb dX9_stateOf_133 ?_
                refine lv_topi (fun v_22 ev_22 => ?_)
                have rg5 := iv_rng v_21
                have hv_22 : v_22.toInt = v_21.toInt - 1 := by rw [ev_22]; exact (iv_sub (by omega) (by omega)).trans (by omega)
                have hkv2 : v_22.toInt = p0.toInt + p1.toInt - 1 := by omega
                refine vp_callSi (va_Run.run (va_runV (As := [.int v_22]) (rest := []) ⟨hx, hb, hml, hown, hts⟩ (v_X9_byteIn l dC dI o c kc st lg ai al v_22 (by omega) (by omega)) (cwV 1 hts gX9_stateOf_X9_byteIn rfl rfl rfl (by decide +kernel) ⟨Nat.le_of_ble_eq_true rfl, Nat.le_of_ble_eq_true rfl⟩) ⟨fun a U g mk q => by obtain ⟨q0, qP, qK⟩ := q; exact ⟨q0, qP, va_K.moved (u := U) (U := U.calling g mk a) (Vm.Alike.refl U.vm) qK⟩, va_recv hK hP (ci := 11) (q := (RX9, TX9, 38)) rfl (q0 := 0) rfl, fun U hU hW => ⟨rfl, by rw [hU]; exact hP, va_K.moved hW.alike hK⟩⟩ rfl rfl hl.1 rfl (lv_room (Nat.le_of_ble_eq_true rfl)) dX9_stateOf_134 ⟨Nat.le_of_ble_eq_true rfl, Nat.le_of_ble_eq_true rfl⟩)) (fun r_23 er_23 => ?_)
                obtain ⟨k_24, k_25, k_26⟩ := er_23
                have k_24 : r_23.toInt = (md_get (ai 0) v_22).toInt := k_24
                refine lv_sipush (v := 165) hx hb dX9_stateOf_137 (by decide) ?_
                refine lv_icmp_ne (tgt := 145) hx hb dX9_stateOf_140 (by decide) (fun c_27 => ?_) (fun c_27 => ?_)
                · skip
                  have ic_27 := iv_ne c_27
                  have hno : ¬ rtP (ai 0) p0 p1 p2 := (by first | exact rt_no1 hby (hlf.2 (by omega)) | exact rt_no2 hnum hsm (by assumption) (by assumption) | exact rt_no3 hnum hkv2 (by omega) (by assumption) (by assumption))
                  refine lv_aload_n hx hb dX9_stateOf_145 rfl (lv_at hl 3 rfl) ?_
                  refine lv_iload_n hx hb dX9_stateOf_146 rfl (lv_at hl 4 rfl) ?_
                  refine lv_iload_n hx hb dX9_stateOf_147 rfl (lv_at hl 5 rfl) ?_
                  refine lv_iadd hx hb dX9_stateOf_148 ?_
                  refine lv_topi (fun v_28 ev_28 => ?_)
                  have hv_28 : v_28.toInt = p0.toInt + p1.toInt := by rw [ev_28]; exact (iv_add (by omega) (by omega)).trans (by omega)
                  refine lv_iconst (v := 1) hx hb dX9_stateOf_149 (by decide) ?_
                  refine lv_isub hx hb dX9_stateOf_150 ?_
                  refine lv_topi (fun v_29 ev_29 => ?_)
                  have rg6 := iv_rng v_28
                  have hv_29 : v_29.toInt = v_28.toInt - 1 := by rw [ev_29]; exact (iv_sub (by omega) (by omega)).trans (by omega)
                  refine vp_callSi (va_Run.run (va_runV (As := [.int v_29]) (rest := []) ⟨hx, hb, hml, hown, hts⟩ (v_X9_byteIn l dC dI o c kc st lg ai al v_29 (by omega) (by omega)) (cwV 1 hts gX9_stateOf_X9_byteIn rfl rfl rfl (by decide +kernel) ⟨Nat.le_of_ble_eq_true rfl, Nat.le_of_ble_eq_true rfl⟩) ⟨fun a U g mk q => by obtain ⟨q0, qP, qK⟩ := q; exact ⟨q0, qP, va_K.moved (u := U) (U := U.calling g mk a) (Vm.Alike.refl U.vm) qK⟩, va_recv hK hP (ci := 11) (q := (RX9, TX9, 38)) rfl (q0 := 0) rfl, fun U hU hW => ⟨rfl, by rw [hU]; exact hP, va_K.moved hW.alike hK⟩⟩ rfl rfl hl.1 rfl (lv_room (Nat.le_of_ble_eq_true rfl)) dX9_stateOf_151 ⟨Nat.le_of_ble_eq_true rfl, Nat.le_of_ble_eq_true rfl⟩)) (fun r_30 er_30 => ?_)
                  obtain ⟨k_31, k_32, k_33⟩ := er_30
                  have k_31 : r_30.toInt = (md_get (ai 0) v_29).toInt := k_31
                  refine lv_if_eq (tgt := 162) hx hb dX9_stateOf_154 (by decide) (fun c_34 => ?_) (fun c_34 => ?_)
                  · skip
                    have ic_34 := iv_eq c_34
                    refine lv_iconst (v := 2) hx hb dX9_stateOf_162 (by decide) ?_
                    refine lv_goto (tgt := 167) hx hb dX9_stateOf_163 (by decide) ?_
                    exact W.iret hx hb hr (fun t ht hW => ⟨_, rfl, ⟨(by omega), (by omega), ⟨fun h => absurd h (by omega), fun _ => hno⟩⟩, ht⟩) (fun q h => by cases h) dX9_stateOf_167
                  · skip
                    have ic_34 := iv_ne c_34
                    refine lv_iload hx hb dX9_stateOf_157 (lv_at hl 1 rfl) ?_
                    refine lv_if_eq (tgt := 166) hx hb dX9_stateOf_159 (by decide) (fun c_35 => ?_) (fun c_35 => ?_)
                    · skip
                      have ic_35 := iv_eq c_35
                      refine lv_iconst (v := 3) hx hb dX9_stateOf_166 (by decide) ?_
                      exact W.iret hx hb hr (fun t ht hW => ⟨_, rfl, ⟨(by omega), (by omega), ⟨fun h => absurd h (by omega), fun _ => hno⟩⟩, ht⟩) (fun q h => by cases h) dX9_stateOf_167
                    · skip
                      have ic_35 := iv_ne c_35
                      refine lv_iconst (v := 2) hx hb dX9_stateOf_162 (by decide) ?_
                      refine lv_goto (tgt := 167) hx hb dX9_stateOf_163 (by decide) ?_
                      exact W.iret hx hb hr (fun t ht hW => ⟨_, rfl, ⟨(by omega), (by omega), ⟨fun h => absurd h (by omega), fun _ => hno⟩⟩, ht⟩) (fun q h => by cases h) dX9_stateOf_167
                · skip
                  have ic_27 := iv_eq c_27
                  have hyes : rtP (ai 0) p0 p1 p2 := ⟨hnz, hl2, hse, (by first | exact Or.inl (nz_y hnum (by assumption) (by assumption)) | exact Or.inr (gt_of hkv2 (by omega)))⟩
                  refine lv_iconst (v := 1) hx hb dX9_stateOf_143 (by decide) ?_
                  exact W.iret hx hb hr (fun t ht hW => ⟨_, rfl, ⟨(by omega), (by omega), ⟨fun _ => hyes, fun h => absurd (by omega) h⟩⟩, ht⟩) (fun q h => by cases h) dX9_stateOf_144
          · skip
            have ic_6 := iv_ne c_6
            have hby : p2.toInt ≠ 2 := by omega
            refine lv_aload_n hx hb dX9_stateOf_97 rfl (lv_at hl 3 rfl) ?_
            refine lv_iload_n hx hb dX9_stateOf_98 rfl (lv_at hl 4 rfl) ?_
            refine vp_callSi (va_Run.run (va_runV (As := [.int p0]) (rest := []) ⟨hx, hb, hml, hown, hts⟩ (v_X9_isLeafAt l dC dI o c kc st lg ai al p0 (by omega) (by omega)) (cwV 1 hts gX9_stateOf_X9_isLeafAt rfl rfl rfl (by decide +kernel) ⟨Nat.le_of_ble_eq_true rfl, Nat.le_of_ble_eq_true rfl⟩) ⟨fun a U g mk q => by obtain ⟨q0, qP, qK⟩ := q; exact ⟨q0, qP, va_K.moved (u := U) (U := U.calling g mk a) (Vm.Alike.refl U.vm) qK⟩, va_recv hK hP (ci := 11) (q := (RX9, TX9, 38)) rfl (q0 := 0) rfl, fun U hU hW => ⟨rfl, by rw [hU]; exact hP, va_K.moved hW.alike hK⟩⟩ rfl rfl hl.1 rfl (lv_room (Nat.le_of_ble_eq_true rfl)) dX9_stateOf_99 ⟨Nat.le_of_ble_eq_true rfl, Nat.le_of_ble_eq_true rfl⟩)) (fun r_36 er_36 => ?_)
            obtain ⟨k_37, k_38, hlf⟩ := er_36
            have hlf : (r_36.toInt = 1 → lfP (ai 0) p0) ∧ (r_36.toInt ≠ 1 → ¬ lfP (ai 0) p0) := hlf
            rcases iv_01 (a := r_36) (by omega) (by omega) with b_39 | b_39
            · skip
              have ib_39 := iv_eq b_39
              rw [b_39]
              refine lv_if_eq (tgt := 145) hx hb dX9_stateOf_102 (by decide) (fun c_40 => ?_) (fun c_40 => ?_)
              · skip
                have ic_40 := iv_eq c_40
                have hno : ¬ rtP (ai 0) p0 p1 p2 := (by first | exact rt_no1 hby (hlf.2 (by omega)) | exact rt_no2 hnum hsm (by assumption) (by assumption) | exact rt_no3 hnum hkv2 (by omega) (by assumption) (by assumption))
                refine lv_aload_n hx hb dX9_stateOf_145 rfl (lv_at hl 3 rfl) ?_
                refine lv_iload_n hx hb dX9_stateOf_146 rfl (lv_at hl 4 rfl) ?_
                refine lv_iload_n hx hb dX9_stateOf_147 rfl (lv_at hl 5 rfl) ?_
                refine lv_iadd hx hb dX9_stateOf_148 ?_
                refine lv_topi (fun v_41 ev_41 => ?_)
                have hv_41 : v_41.toInt = p0.toInt + p1.toInt := by rw [ev_41]; exact (iv_add (by omega) (by omega)).trans (by omega)
                refine lv_iconst (v := 1) hx hb dX9_stateOf_149 (by decide) ?_
                refine lv_isub hx hb dX9_stateOf_150 ?_
                refine lv_topi (fun v_42 ev_42 => ?_)
                have rg7 := iv_rng v_41
                have hv_42 : v_42.toInt = v_41.toInt - 1 := by rw [ev_42]; exact (iv_sub (by omega) (by omega)).trans (by omega)
                refine vp_callSi (va_Run.run (va_runV (As := [.int v_42]) (rest := []) ⟨hx, hb, hml, hown, hts⟩ (v_X9_byteIn l dC dI o c kc st lg ai al v_42 (by omega) (by omega)) (cwV 1 hts gX9_stateOf_X9_byteIn rfl rfl rfl (by decide +kernel) ⟨Nat.le_of_ble_eq_true rfl, Nat.le_of_ble_eq_true rfl⟩) ⟨fun a U g mk q => by obtain ⟨q0, qP, qK⟩ := q; exact ⟨q0, qP, va_K.moved (u := U) (U := U.calling g mk a) (Vm.Alike.refl U.vm) qK⟩, va_recv hK hP (ci := 11) (q := (RX9, TX9, 38)) rfl (q0 := 0) rfl, fun U hU hW => ⟨rfl, by rw [hU]; exact hP, va_K.moved hW.alike hK⟩⟩ rfl rfl hl.1 rfl (lv_room (Nat.le_of_ble_eq_true rfl)) dX9_stateOf_151 ⟨Nat.le_of_ble_eq_true rfl, Nat.le_of_ble_eq_true rfl⟩)) (fun r_43 er_43 => ?_)
                obtain ⟨k_44, k_45, k_46⟩ := er_43
                have k_44 : r_43.toInt = (md_get (ai 0) v_42).toInt := k_44
                refine lv_if_eq (tgt := 162) hx hb dX9_stateOf_154 (by decide) (fun c_47 => ?_) (fun c_47 => ?_)
                · skip
                  have ic_47 := iv_eq c_47
                  refine lv_iconst (v := 2) hx hb dX9_stateOf_162 (by decide) ?_
                  refine lv_goto (tgt := 167) hx hb dX9_stateOf_163 (by decide) ?_
                  exact W.iret hx hb hr (fun t ht hW => ⟨_, rfl, ⟨(by omega), (by omega), ⟨fun h => absurd h (by omega), fun _ => hno⟩⟩, ht⟩) (fun q h => by cases h) dX9_stateOf_167
                · skip
                  have ic_47 := iv_ne c_47
                  refine lv_iload hx hb dX9_stateOf_157 (lv_at hl 1 rfl) ?_
                  refine lv_if_eq (tgt := 166) hx hb dX9_stateOf_159 (by decide) (fun c_48 => ?_) (fun c_48 => ?_)
                  · skip
                    have ic_48 := iv_eq c_48
                    refine lv_iconst (v := 3) hx hb dX9_stateOf_166 (by decide) ?_
                    exact W.iret hx hb hr (fun t ht hW => ⟨_, rfl, ⟨(by omega), (by omega), ⟨fun h => absurd h (by omega), fun _ => hno⟩⟩, ht⟩) (fun q h => by cases h) dX9_stateOf_167
                  · skip
                    have ic_48 := iv_ne c_48
                    refine lv_iconst (v := 2) hx hb dX9_stateOf_162 (by decide) ?_
                    refine lv_goto (tgt := 167) hx hb dX9_stateOf_163 (by decide) ?_
                    exact W.iret hx hb hr (fun t ht hW => ⟨_, rfl, ⟨(by omega), (by omega), ⟨fun h => absurd h (by omega), fun _ => hno⟩⟩, ht⟩) (fun q h => by cases h) dX9_stateOf_167
              · skip
                have ic_40 := iv_ne c_40
                exfalso
                omega
            · skip
              have ib_39 := iv_eq b_39
              rw [b_39]
              refine lv_if_eq (tgt := 145) hx hb dX9_stateOf_102 (by decide) (fun c_49 => ?_) (fun c_49 => ?_)
              · skip
                have ic_49 := iv_eq c_49
                exfalso
                omega
              · skip
                have ic_49 := iv_ne c_49
                have hl2 : p2.toInt = 2 ∨ lfP (ai 0) p0 := (by first | exact Or.inl (by omega) | exact Or.inr (hlf.1 (by omega)))
                refine lv_lload hx hb dX9_stateOf_105 (lv_at hl 0 rfl) ?_
                refine lv_aload_n hx hb dX9_stateOf_107 rfl (lv_at hl 3 rfl) ?_
                refine lv_iload_n hx hb dX9_stateOf_108 rfl (lv_at hl 6 rfl) ?_
                refine lv_iload_n hx hb dX9_stateOf_109 rfl (lv_at hl 4 rfl) ?_
                refine lv_iload_n hx hb dX9_stateOf_110 rfl (lv_at hl 5 rfl) ?_
                refine lv_bipush (v := 9) hx hb dX9_stateOf_111 (by decide) ?_
                refine lv_isub hx hb dX9_stateOf_113 ?_
                refine lv_topi (fun v_50 ev_50 => ?_)
                have hv_50 : v_50.toInt = p1.toInt - 9 := by rw [ev_50]; exact (iv_sub (by omega) (by omega)).trans (by omega)
                refine vp_callSl (va_Run.run (va_runV (As := [.int p2, .int p0, .int v_50]) (rest := [.long r_5]) ⟨hx, hb, hml, hown, hts⟩ (v_X9_sumOf l dC dI o c kc st lg ai al p2 p0 v_50 (by omega) (by omega) (by omega) (by omega)) (cwV 3 hts gX9_stateOf_X9_sumOf rfl rfl rfl (by decide +kernel) ⟨Nat.le_of_ble_eq_true rfl, Nat.le_of_ble_eq_true rfl⟩) ⟨fun a U g mk q => by obtain ⟨q0, qP, qK⟩ := q; exact ⟨q0, qP, va_K.moved (u := U) (U := U.calling g mk a) (Vm.Alike.refl U.vm) qK⟩, va_recv hK hP (ci := 11) (q := (RX9, TX9, 38)) rfl (q0 := 0) rfl, fun U hU hW => ⟨rfl, by rw [hU]; exact hP, va_K.moved hW.alike hK⟩⟩ rfl rfl hl.1 rfl (lv_room (Nat.le_of_ble_eq_true rfl)) dX9_stateOf_114 ⟨Nat.le_of_ble_eq_true rfl, Nat.le_of_ble_eq_true rfl⟩)) (fun r_51 er_51 => ?_)
                have hs := er_51
                have hs : r_51 = sF (ai 0) p2 p0 v_50.toInt.toNat := hs
                have hsm : r_51 = sF (ai 0) p2 p0 (p1.toInt - 9).toNat := sm_of hs (by omega)
                refine W.lcmp hx hb dX9_stateOf_117 ?_
                refine lv_topi (fun v_52 ev_52 => ?_)
                refine lv_if_ne (tgt := 145) hx hb dX9_stateOf_118 (by decide) (fun c_53 => ?_) (fun c_53 => ?_)
                · skip
                  have ic_53 := iv_ne c_53
                  have hno : ¬ rtP (ai 0) p0 p1 p2 := (by first | exact rt_no1 hby (hlf.2 (by omega)) | exact rt_no2 hnum hsm (by assumption) (by assumption) | exact rt_no3 hnum hkv2 (by omega) (by assumption) (by assumption))
                  refine lv_aload_n hx hb dX9_stateOf_145 rfl (lv_at hl 3 rfl) ?_
                  refine lv_iload_n hx hb dX9_stateOf_146 rfl (lv_at hl 4 rfl) ?_
                  refine lv_iload_n hx hb dX9_stateOf_147 rfl (lv_at hl 5 rfl) ?_
                  refine lv_iadd hx hb dX9_stateOf_148 ?_
                  refine lv_topi (fun v_54 ev_54 => ?_)
                  have hv_54 : v_54.toInt = p0.toInt + p1.toInt := by rw [ev_54]; exact (iv_add (by omega) (by omega)).trans (by omega)
                  refine lv_iconst (v := 1) hx hb dX9_stateOf_149 (by decide) ?_
                  refine lv_isub hx hb dX9_stateOf_150 ?_
                  refine lv_topi (fun v_55 ev_55 => ?_)
                  have rg8 := iv_rng v_54
                  have hv_55 : v_55.toInt = v_54.toInt - 1 := by rw [ev_55]; exact (iv_sub (by omega) (by omega)).trans (by omega)
                  refine vp_callSi (va_Run.run (va_runV (As := [.int v_55]) (rest := []) ⟨hx, hb, hml, hown, hts⟩ (v_X9_byteIn l dC dI o c kc st lg ai al v_55 (by omega) (by omega)) (cwV 1 hts gX9_stateOf_X9_byteIn rfl rfl rfl (by decide +kernel) ⟨Nat.le_of_ble_eq_true rfl, Nat.le_of_ble_eq_true rfl⟩) ⟨fun a U g mk q => by obtain ⟨q0, qP, qK⟩ := q; exact ⟨q0, qP, va_K.moved (u := U) (U := U.calling g mk a) (Vm.Alike.refl U.vm) qK⟩, va_recv hK hP (ci := 11) (q := (RX9, TX9, 38)) rfl (q0 := 0) rfl, fun U hU hW => ⟨rfl, by rw [hU]; exact hP, va_K.moved hW.alike hK⟩⟩ rfl rfl hl.1 rfl (lv_room (Nat.le_of_ble_eq_true rfl)) dX9_stateOf_151 ⟨Nat.le_of_ble_eq_true rfl, Nat.le_of_ble_eq_true rfl⟩)) (fun r_56 er_56 => ?_)
                  obtain ⟨k_57, k_58, k_59⟩ := er_56
                  have k_57 : r_56.toInt = (md_get (ai 0) v_55).toInt := k_57
                  refine lv_if_eq (tgt := 162) hx hb dX9_stateOf_154 (by decide) (fun c_60 => ?_) (fun c_60 => ?_)
                  · skip
                    have ic_60 := iv_eq c_60
                    refine lv_iconst (v := 2) hx hb dX9_stateOf_162 (by decide) ?_
                    refine lv_goto (tgt := 167) hx hb dX9_stateOf_163 (by decide) ?_
                    exact W.iret hx hb hr (fun t ht hW => ⟨_, rfl, ⟨(by omega), (by omega), ⟨fun h => absurd h (by omega), fun _ => hno⟩⟩, ht⟩) (fun q h => by cases h) dX9_stateOf_167
                  · skip
                    have ic_60 := iv_ne c_60
                    refine lv_iload hx hb dX9_stateOf_157 (lv_at hl 1 rfl) ?_
                    refine lv_if_eq (tgt := 166) hx hb dX9_stateOf_159 (by decide) (fun c_61 => ?_) (fun c_61 => ?_)
                    · skip
                      have ic_61 := iv_eq c_61
                      refine lv_iconst (v := 3) hx hb dX9_stateOf_166 (by decide) ?_
                      exact W.iret hx hb hr (fun t ht hW => ⟨_, rfl, ⟨(by omega), (by omega), ⟨fun h => absurd h (by omega), fun _ => hno⟩⟩, ht⟩) (fun q h => by cases h) dX9_stateOf_167
                    · skip
                      have ic_61 := iv_ne c_61
                      refine lv_iconst (v := 2) hx hb dX9_stateOf_162 (by decide) ?_
                      refine lv_goto (tgt := 167) hx hb dX9_stateOf_163 (by decide) ?_
                      exact W.iret hx hb hr (fun t ht hW => ⟨_, rfl, ⟨(by omega), (by omega), ⟨fun h => absurd h (by omega), fun _ => hno⟩⟩, ht⟩) (fun q h => by cases h) dX9_stateOf_167
                · skip
                  have ic_53 := iv_eq c_53
                  have hse : nmZ (ai 0) (p0.toInt + p1.toInt - 9) = sF (ai 0) p2 p0 (p1.toInt - 9).toNat := (hnum.symm.trans ((se_y (by assumption) (by assumption)).trans hsm))
                  refine lv_lload hx hb dX9_stateOf_121 (lv_at hl 0 rfl) ?_
                  refine lv_lconst (v := 0) hx hb dX9_stateOf_123 (by decide) ?_
                  refine W.lcmp hx hb dX9_stateOf_124 ?_
                  refine lv_topi (fun v_62 ev_62 => ?_)
                  refine lv_if_ne (tgt := 143) hx hb dX9_stateOf_125 (by decide) (fun c_63 => ?_) (fun c_63 => ?_)
                  · skip
                    have ic_63 := iv_ne c_63
                    have hyes : rtP (ai 0) p0 p1 p2 := ⟨hnz, hl2, hse, (by first | exact Or.inl (nz_y hnum (by assumption) (by assumption)) | exact Or.inr (gt_of hkv2 (by omega)))⟩
                    refine lv_iconst (v := 1) hx hb dX9_stateOf_143 (by decide) ?_
                    exact W.iret hx hb hr (fun t ht hW => ⟨_, rfl, ⟨(by omega), (by omega), ⟨fun _ => hyes, fun h => absurd (by omega) h⟩⟩, ht⟩) (fun q h => by cases h) dX9_stateOf_144
                  · skip
                    have ic_63 := iv_eq c_63
                    refine lv_aload_n hx hb dX9_stateOf_128 rfl (lv_at hl 3 rfl) ?_
                    refine lv_iload_n hx hb dX9_stateOf_129 rfl (lv_at hl 4 rfl) ?_
                    refine lv_iload_n hx hb dX9_stateOf_130 rfl (lv_at hl 5 rfl) ?_
                    refine lv_iadd hx hb dX9_stateOf_131 ?_
                    refine lv_topi (fun v_64 ev_64 => ?_)
                    have hv_64 : v_64.toInt = p0.toInt + p1.toInt := by rw [ev_64]; exact (iv_add (by omega) (by omega)).trans (by omega)
                    refine lv_iconst (v := 1) hx hb dX9_stateOf_132 (by decide) ?_
                    refine lv_isub hx hb dX9_stateOf_133 ?_
                    refine lv_topi (fun v_65 ev_65 => ?_)
                    have rg9 := iv_rng v_64
                    have hv_65 : v_65.toInt = v_64.toInt - 1 := by rw [ev_65]; exact (iv_sub (by omega) (by omega)).trans (by omega)
                    have hkv2 : v_65.toInt = p0.toInt + p1.toInt - 1 := by omega
                    refine vp_callSi (va_Run.run (va_runV (As := [.int v_65]) (rest := []) ⟨hx, hb, hml, hown, hts⟩ (v_X9_byteIn l dC dI o c kc st lg ai al v_65 (by omega) (by omega)) (cwV 1 hts gX9_stateOf_X9_byteIn rfl rfl rfl (by decide +kernel) ⟨Nat.le_of_ble_eq_true rfl, Nat.le_of_ble_eq_true rfl⟩) ⟨fun a U g mk q => by obtain ⟨q0, qP, qK⟩ := q; exact ⟨q0, qP, va_K.moved (u := U) (U := U.calling g mk a) (Vm.Alike.refl U.vm) qK⟩, va_recv hK hP (ci := 11) (q := (RX9, TX9, 38)) rfl (q0 := 0) rfl, fun U hU hW => ⟨rfl, by rw [hU]; exact hP, va_K.moved hW.alike hK⟩⟩ rfl rfl hl.1 rfl (lv_room (Nat.le_of_ble_eq_true rfl)) dX9_stateOf_134 ⟨Nat.le_of_ble_eq_true rfl, Nat.le_of_ble_eq_true rfl⟩)) (fun r_66 er_66 => ?_)
                    obtain ⟨k_67, k_68, k_69⟩ := er_66
                    have k_67 : r_66.toInt = (md_get (ai 0) v_65).toInt := k_67
                    refine lv_sipush (v := 165) hx hb dX9_stateOf_137 (by decide) ?_
                    refine lv_icmp_ne (tgt := 145) hx hb dX9_stateOf_140 (by decide) (fun c_70 => ?_) (fun c_70 => ?_)
                    · skip
                      have ic_70 := iv_ne c_70
                      have hno : ¬ rtP (ai 0) p0 p1 p2 := (by first | exact rt_no1 hby (hlf.2 (by omega)) | exact rt_no2 hnum hsm (by assumption) (by assumption) | exact rt_no3 hnum hkv2 (by omega) (by assumption) (by assumption))
                      refine lv_aload_n hx hb dX9_stateOf_145 rfl (lv_at hl 3 rfl) ?_
                      refine lv_iload_n hx hb dX9_stateOf_146 rfl (lv_at hl 4 rfl) ?_
                      refine lv_iload_n hx hb dX9_stateOf_147 rfl (lv_at hl 5 rfl) ?_
                      refine lv_iadd hx hb dX9_stateOf_148 ?_
                      refine lv_topi (fun v_71 ev_71 => ?_)
                      have hv_71 : v_71.toInt = p0.toInt + p1.toInt := by rw [ev_71]; exact (iv_add (by omega) (by omega)).trans (by omega)
                      refine lv_iconst (v := 1) hx hb dX9_stateOf_149 (by decide) ?_
                      refine lv_isub hx hb dX9_stateOf_150 ?_
                      refine lv_topi (fun v_72 ev_72 => ?_)
                      have rg10 := iv_rng v_71
                      have hv_72 : v_72.toInt = v_71.toInt - 1 := by rw [ev_72]; exact (iv_sub (by omega) (by omega)).trans (by omega)
                      refine vp_callSi (va_Run.run (va_runV (As := [.int v_72]) (rest := []) ⟨hx, hb, hml, hown, hts⟩ (v_X9_byteIn l dC dI o c kc st lg ai al v_72 (by omega) (by omega)) (cwV 1 hts gX9_stateOf_X9_byteIn rfl rfl rfl (by decide +kernel) ⟨Nat.le_of_ble_eq_true rfl, Nat.le_of_ble_eq_true rfl⟩) ⟨fun a U g mk q => by obtain ⟨q0, qP, qK⟩ := q; exact ⟨q0, qP, va_K.moved (u := U) (U := U.calling g mk a) (Vm.Alike.refl U.vm) qK⟩, va_recv hK hP (ci := 11) (q := (RX9, TX9, 38)) rfl (q0 := 0) rfl, fun U hU hW => ⟨rfl, by rw [hU]; exact hP, va_K.moved hW.alike hK⟩⟩ rfl rfl hl.1 rfl (lv_room (Nat.le_of_ble_eq_true rfl)) dX9_stateOf_151 ⟨Nat.le_of_ble_eq_true rfl, Nat.le_of_ble_eq_true rfl⟩)) (fun r_73 er_73 => ?_)
                      obtain ⟨k_74, k_75, k_76⟩ := er_73
                      have k_74 : r_73.toInt = (md_get (ai 0) v_72).toInt := k_74
                      refine lv_if_eq (tgt := 162) hx hb dX9_stateOf_154 (by decide) (fun c_77 => ?_) (fun c_77 => ?_)
                      · skip
                        have ic_77 := iv_eq c_77
                        refine lv_iconst (v := 2) hx hb dX9_stateOf_162 (by decide) ?_
                        refine lv_goto (tgt := 167) hx hb dX9_stateOf_163 (by decide) ?_
                        exact W.iret hx hb hr (fun t ht hW => ⟨_, rfl, ⟨(by omega), (by omega), ⟨fun h => absurd h (by omega), fun _ => hno⟩⟩, ht⟩) (fun q h => by cases h) dX9_stateOf_167
                      · skip
                        have ic_77 := iv_ne c_77
                        refine lv_iload hx hb dX9_stateOf_157 (lv_at hl 1 rfl) ?_
                        refine lv_if_eq (tgt := 166) hx hb dX9_stateOf_159 (by decide) (fun c_78 => ?_) (fun c_78 => ?_)
                        · skip
                          have ic_78 := iv_eq c_78
                          refine lv_iconst (v := 3) hx hb dX9_stateOf_166 (by decide) ?_
                          exact W.iret hx hb hr (fun t ht hW => ⟨_, rfl, ⟨(by omega), (by omega), ⟨fun h => absurd h (by omega), fun _ => hno⟩⟩, ht⟩) (fun q h => by cases h) dX9_stateOf_167
                        · skip
                          have ic_78 := iv_ne c_78
                          refine lv_iconst (v := 2) hx hb dX9_stateOf_162 (by decide) ?_
                          refine lv_goto (tgt := 167) hx hb dX9_stateOf_163 (by decide) ?_
                          exact W.iret hx hb hr (fun t ht hW => ⟨_, rfl, ⟨(by omega), (by omega), ⟨fun h => absurd h (by omega), fun _ => hno⟩⟩, ht⟩) (fun q h => by cases h) dX9_stateOf_167
                    · skip
                      have ic_70 := iv_eq c_70
                      have hyes : rtP (ai 0) p0 p1 p2 := ⟨hnz, hl2, hse, (by first | exact Or.inl (nz_y hnum (by assumption) (by assumption)) | exact Or.inr (gt_of hkv2 (by omega)))⟩
                      refine lv_iconst (v := 1) hx hb dX9_stateOf_143 (by decide) ?_
                      exact W.iret hx hb hr (fun t ht hW => ⟨_, rfl, ⟨(by omega), (by omega), ⟨fun _ => hyes, fun h => absurd (by omega) h⟩⟩, ht⟩) (fun q h => by cases h) dX9_stateOf_144
        · skip
          have ic_2 := iv_ne c_2
          refine lv_iconst (v := 0) hx hb dX9_stateOf_76 (by decide) ?_
          exact W.iret hx hb hr (fun t ht hW => ⟨_, rfl, ⟨(by omega), (by omega), ⟨fun h => absurd h (by omega), fun _ => rt_no0 (zB_e (hal.1 (by omega)) (by omega))⟩⟩, ht⟩) (fun q h => by cases h) dX9_stateOf_77
      · skip
        have ic_1 := iv_nle c_1
        refine lv_iload hx hb dX9_stateOf_15 (lv_at hl 2 rfl) ?_
        refine lv_aload_n hx hb dX9_stateOf_17 rfl (lv_at hl 3 rfl) ?_
        refine lv_iload_n hx hb dX9_stateOf_18 rfl (lv_at hl 4 rfl) ?_
        refine lv_iload hx hb dX9_stateOf_19 (lv_at hl 0 rfl) ?_
        refine lv_iadd hx hb dX9_stateOf_21 ?_
        refine lv_topi (fun v_79 ev_79 => ?_)
        have rg11 := iv_rng p0
        have rg12 := iv_rng l6_9
        have hv_79 : v_79.toInt = p0.toInt + l6_9.toInt := by rw [ev_79]; exact (iv_add (by omega) (by omega)).trans (by omega)
        have hkv : v_79.toInt = p0.toInt + l6_9.toInt := by omega
        refine vp_callSi (va_Run.run (va_runV (As := [.int v_79]) (rest := [.int l4_9]) ⟨hx, hb, hml, hown, hts⟩ (v_X9_byteIn l dC dI o c kc st lg ai al v_79 (by omega) (by omega)) (cwV 1 hts gX9_stateOf_X9_byteIn rfl rfl rfl (by decide +kernel) ⟨Nat.le_of_ble_eq_true rfl, Nat.le_of_ble_eq_true rfl⟩) ⟨fun a U g mk q => by obtain ⟨q0, qP, qK⟩ := q; exact ⟨q0, qP, va_K.moved (u := U) (U := U.calling g mk a) (Vm.Alike.refl U.vm) qK⟩, va_recv hK hP (ci := 11) (q := (RX9, TX9, 38)) rfl (q0 := 0) rfl, fun U hU hW => ⟨rfl, by rw [hU]; exact hP, va_K.moved hW.alike hK⟩⟩ rfl rfl hl.1 rfl (lv_room (Nat.le_of_ble_eq_true rfl)) dX9_stateOf_22 ⟨Nat.le_of_ble_eq_true rfl, Nat.le_of_ble_eq_true rfl⟩)) (fun r_80 er_80 => ?_)
        obtain ⟨k_81, k_82, k_83⟩ := er_80
        have k_81 : r_80.toInt = (md_get (ai 0) v_79).toInt := k_81
        refine lv_if_ne (tgt := 32) hx hb dX9_stateOf_25 (by decide) (fun c_84 => ?_) (fun c_84 => ?_)
        · skip
          have ic_84 := iv_ne c_84
          refine lv_iconst (v := 0) hx hb dX9_stateOf_32 (by decide) ?_
          refine lv_iand hx hb dX9_stateOf_33 ?_
          refine lv_topi (fun v_85 ev_85 => ?_)
          have hv_85 : v_85.toInt = 0 := by rw [ev_85, iv_and0]; omega
          refine lv_istore (lv' := [(4, .int v_85), (6, .int l6_9), (5, .int l5_9), (0, .ref o), (1, .int p0), (2, .int p1), (3, .int p2)]) hx hb dX9_stateOf_34 hl (by decide) rfl (fun ls hl => ?_)
          refine lv_iload hx hb dX9_stateOf_36 (lv_at hl 2 rfl) ?_
          refine lv_iload hx hb dX9_stateOf_38 (lv_at hl 1 rfl) ?_
          refine lv_iload_n hx hb dX9_stateOf_40 rfl (lv_at hl 5 rfl) ?_
          refine lv_iconst (v := 1) hx hb dX9_stateOf_41 (by decide) ?_
          refine lv_isub hx hb dX9_stateOf_42 ?_
          refine lv_topi (fun v_86 ev_86 => ?_)
          have rg13 := iv_rng p1
          have hv_86 : v_86.toInt = p1.toInt - 1 := by rw [ev_86]; exact (iv_sub (by omega) (by omega)).trans (by omega)
          refine lv_icmp_eq (tgt := 57) hx hb dX9_stateOf_43 (by decide) (fun c_87 => ?_) (fun c_87 => ?_)
          · skip
            have ic_87 := iv_eq c_87
            refine lv_iconst (v := 1) hx hb dX9_stateOf_57 (by decide) ?_
            refine lv_goto (tgt := 62) hx hb dX9_stateOf_58 (by decide) ?_
            refine lv_iand hx hb dX9_stateOf_62 ?_
            refine lv_topi (fun v_88 ev_88 => ?_)
            have hv_88 : v_88.toInt = l5_9.toInt := by rw [ev_88, iv_and1 (by omega) (by omega)]
            refine lv_istore (lv' := [(5, .int v_88), (4, .int v_85), (6, .int l6_9), (0, .ref o), (1, .int p0), (2, .int p1), (3, .int p2)]) hx hb dX9_stateOf_63 hl (by decide) rfl (fun ls hl => ?_)
            obtain ⟨x_89, ex_89⟩ : ∃ z : Int32, z = l6_9 + (1) := ⟨_, rfl⟩
            refine lv_iinc (v := x_89) (lv' := [(6, .int x_89), (5, .int v_88), (4, .int v_85), (0, .ref o), (1, .int p0), (2, .int p1), (3, .int p2)]) hx hb dX9_stateOf_65 hl (k := 2) rfl (by rw [ex_89]; rfl) (by decide) rfl (fun ls hl => ?_)
            have hx_89 : x_89.toInt = l6_9.toInt + (1) := by rw [ex_89]; exact (iv_add (by omega) (by omega)).trans (by omega)
            clear ex_89
            refine lv_goto (tgt := 9) hx hb dX9_stateOf_68 (by decide) ?_
            exact ih9 x_89 v_88 v_85 _ (by omega) (by omega) (by omega) (by omega) (by omega) (by omega) (by first | exact alI_1 hal hkv (by omega) (by omega) (by omega) | exact alI_0 hkv (by omega) (by omega) (by omega) (by omega)) (by omega) (lv_sub hl [0, 1, 2, 3, 4, 5, 6] rfl)
          · skip
            have ic_87 := iv_ne c_87
            refine lv_aload_n hx hb dX9_stateOf_46 rfl (lv_at hl 3 rfl) ?_
            refine lv_iload_n hx hb dX9_stateOf_47 rfl (lv_at hl 4 rfl) ?_
            refine lv_iload hx hb dX9_stateOf_48 (lv_at hl 1 rfl) ?_
            refine lv_iadd hx hb dX9_stateOf_50 ?_
            refine lv_topi (fun v_90 ev_90 => ?_)
            have hv_90 : v_90.toInt = p0.toInt + l6_9.toInt := by rw [ev_90]; exact (iv_add (by omega) (by omega)).trans (by omega)
            refine vp_callSi (va_Run.run (va_runV (As := [.int v_90]) (rest := [.int l5_9]) ⟨hx, hb, hml, hown, hts⟩ (v_X9_byteIn l dC dI o c kc st lg ai al v_90 (by omega) (by omega)) (cwV 1 hts gX9_stateOf_X9_byteIn rfl rfl rfl (by decide +kernel) ⟨Nat.le_of_ble_eq_true rfl, Nat.le_of_ble_eq_true rfl⟩) ⟨fun a U g mk q => by obtain ⟨q0, qP, qK⟩ := q; exact ⟨q0, qP, va_K.moved (u := U) (U := U.calling g mk a) (Vm.Alike.refl U.vm) qK⟩, va_recv hK hP (ci := 11) (q := (RX9, TX9, 38)) rfl (q0 := 0) rfl, fun U hU hW => ⟨rfl, by rw [hU]; exact hP, va_K.moved hW.alike hK⟩⟩ rfl rfl hl.1 rfl (lv_room (Nat.le_of_ble_eq_true rfl)) dX9_stateOf_51 ⟨Nat.le_of_ble_eq_true rfl, Nat.le_of_ble_eq_true rfl⟩)) (fun r_91 er_91 => ?_)
            obtain ⟨k_92, k_93, k_94⟩ := er_91
            have k_92 : r_91.toInt = (md_get (ai 0) v_90).toInt := k_92
            refine lv_if_ne (tgt := 61) hx hb dX9_stateOf_54 (by decide) (fun c_95 => ?_) (fun c_95 => ?_)
            · skip
              have ic_95 := iv_ne c_95
              refine lv_iconst (v := 0) hx hb dX9_stateOf_61 (by decide) ?_
              refine lv_iand hx hb dX9_stateOf_62 ?_
              refine lv_topi (fun v_96 ev_96 => ?_)
              have hv_96 : v_96.toInt = 0 := by rw [ev_96, iv_and0]; omega
              refine lv_istore (lv' := [(5, .int v_96), (4, .int v_85), (6, .int l6_9), (0, .ref o), (1, .int p0), (2, .int p1), (3, .int p2)]) hx hb dX9_stateOf_63 hl (by decide) rfl (fun ls hl => ?_)
              obtain ⟨x_97, ex_97⟩ : ∃ z : Int32, z = l6_9 + (1) := ⟨_, rfl⟩
              refine lv_iinc (v := x_97) (lv' := [(6, .int x_97), (5, .int v_96), (4, .int v_85), (0, .ref o), (1, .int p0), (2, .int p1), (3, .int p2)]) hx hb dX9_stateOf_65 hl (k := 2) rfl (by rw [ex_97]; rfl) (by decide) rfl (fun ls hl => ?_)
              have hx_97 : x_97.toInt = l6_9.toInt + (1) := by rw [ex_97]; exact (iv_add (by omega) (by omega)).trans (by omega)
              clear ex_97
              refine lv_goto (tgt := 9) hx hb dX9_stateOf_68 (by decide) ?_
              exact ih9 x_97 v_96 v_85 _ (by omega) (by omega) (by omega) (by omega) (by omega) (by omega) (by first | exact alI_1 hal hkv (by omega) (by omega) (by omega) | exact alI_0 hkv (by omega) (by omega) (by omega) (by omega)) (by omega) (lv_sub hl [0, 1, 2, 3, 4, 5, 6] rfl)
            · skip
              have ic_95 := iv_eq c_95
              refine lv_iconst (v := 1) hx hb dX9_stateOf_57 (by decide) ?_
              refine lv_goto (tgt := 62) hx hb dX9_stateOf_58 (by decide) ?_
              refine lv_iand hx hb dX9_stateOf_62 ?_
              refine lv_topi (fun v_98 ev_98 => ?_)
              have hv_98 : v_98.toInt = l5_9.toInt := by rw [ev_98, iv_and1 (by omega) (by omega)]
              refine lv_istore (lv' := [(5, .int v_98), (4, .int v_85), (6, .int l6_9), (0, .ref o), (1, .int p0), (2, .int p1), (3, .int p2)]) hx hb dX9_stateOf_63 hl (by decide) rfl (fun ls hl => ?_)
              obtain ⟨x_99, ex_99⟩ : ∃ z : Int32, z = l6_9 + (1) := ⟨_, rfl⟩
              refine lv_iinc (v := x_99) (lv' := [(6, .int x_99), (5, .int v_98), (4, .int v_85), (0, .ref o), (1, .int p0), (2, .int p1), (3, .int p2)]) hx hb dX9_stateOf_65 hl (k := 2) rfl (by rw [ex_99]; rfl) (by decide) rfl (fun ls hl => ?_)
              have hx_99 : x_99.toInt = l6_9.toInt + (1) := by rw [ex_99]; exact (iv_add (by omega) (by omega)).trans (by omega)
              clear ex_99
              refine lv_goto (tgt := 9) hx hb dX9_stateOf_68 (by decide) ?_
              exact ih9 x_99 v_98 v_85 _ (by omega) (by omega) (by omega) (by omega) (by omega) (by omega) (by first | exact alI_1 hal hkv (by omega) (by omega) (by omega) | exact alI_0 hkv (by omega) (by omega) (by omega) (by omega)) (by omega) (lv_sub hl [0, 1, 2, 3, 4, 5, 6] rfl)
        · skip
          have ic_84 := iv_eq c_84
          refine lv_iconst (v := 1) hx hb dX9_stateOf_28 (by decide) ?_
          refine lv_goto (tgt := 33) hx hb dX9_stateOf_29 (by decide) ?_
          refine lv_iand hx hb dX9_stateOf_33 ?_
          refine lv_topi (fun v_100 ev_100 => ?_)
          have hv_100 : v_100.toInt = l4_9.toInt := by rw [ev_100, iv_and1 (by omega) (by omega)]
          refine lv_istore (lv' := [(4, .int v_100), (6, .int l6_9), (5, .int l5_9), (0, .ref o), (1, .int p0), (2, .int p1), (3, .int p2)]) hx hb dX9_stateOf_34 hl (by decide) rfl (fun ls hl => ?_)
          refine lv_iload hx hb dX9_stateOf_36 (lv_at hl 2 rfl) ?_
          refine lv_iload hx hb dX9_stateOf_38 (lv_at hl 1 rfl) ?_
          refine lv_iload_n hx hb dX9_stateOf_40 rfl (lv_at hl 5 rfl) ?_
          refine lv_iconst (v := 1) hx hb dX9_stateOf_41 (by decide) ?_
          refine lv_isub hx hb dX9_stateOf_42 ?_
          refine lv_topi (fun v_101 ev_101 => ?_)
          have rg14 := iv_rng p1
          have hv_101 : v_101.toInt = p1.toInt - 1 := by rw [ev_101]; exact (iv_sub (by omega) (by omega)).trans (by omega)
          refine lv_icmp_eq (tgt := 57) hx hb dX9_stateOf_43 (by decide) (fun c_102 => ?_) (fun c_102 => ?_)
          · skip
            have ic_102 := iv_eq c_102
            refine lv_iconst (v := 1) hx hb dX9_stateOf_57 (by decide) ?_
            refine lv_goto (tgt := 62) hx hb dX9_stateOf_58 (by decide) ?_
            refine lv_iand hx hb dX9_stateOf_62 ?_
            refine lv_topi (fun v_103 ev_103 => ?_)
            have hv_103 : v_103.toInt = l5_9.toInt := by rw [ev_103, iv_and1 (by omega) (by omega)]
            refine lv_istore (lv' := [(5, .int v_103), (4, .int v_100), (6, .int l6_9), (0, .ref o), (1, .int p0), (2, .int p1), (3, .int p2)]) hx hb dX9_stateOf_63 hl (by decide) rfl (fun ls hl => ?_)
            obtain ⟨x_104, ex_104⟩ : ∃ z : Int32, z = l6_9 + (1) := ⟨_, rfl⟩
            refine lv_iinc (v := x_104) (lv' := [(6, .int x_104), (5, .int v_103), (4, .int v_100), (0, .ref o), (1, .int p0), (2, .int p1), (3, .int p2)]) hx hb dX9_stateOf_65 hl (k := 2) rfl (by rw [ex_104]; rfl) (by decide) rfl (fun ls hl => ?_)
            have hx_104 : x_104.toInt = l6_9.toInt + (1) := by rw [ex_104]; exact (iv_add (by omega) (by omega)).trans (by omega)
            clear ex_104
            refine lv_goto (tgt := 9) hx hb dX9_stateOf_68 (by decide) ?_
            exact ih9 x_104 v_103 v_100 _ (by omega) (by omega) (by omega) (by omega) (by omega) (by omega) (by first | exact alI_1 hal hkv (by omega) (by omega) (by omega) | exact alI_0 hkv (by omega) (by omega) (by omega) (by omega)) (by omega) (lv_sub hl [0, 1, 2, 3, 4, 5, 6] rfl)
          · skip
            have ic_102 := iv_ne c_102
            refine lv_aload_n hx hb dX9_stateOf_46 rfl (lv_at hl 3 rfl) ?_
            refine lv_iload_n hx hb dX9_stateOf_47 rfl (lv_at hl 4 rfl) ?_
            refine lv_iload hx hb dX9_stateOf_48 (lv_at hl 1 rfl) ?_
            refine lv_iadd hx hb dX9_stateOf_50 ?_
            refine lv_topi (fun v_105 ev_105 => ?_)
            have hv_105 : v_105.toInt = p0.toInt + l6_9.toInt := by rw [ev_105]; exact (iv_add (by omega) (by omega)).trans (by omega)
            refine vp_callSi (va_Run.run (va_runV (As := [.int v_105]) (rest := [.int l5_9]) ⟨hx, hb, hml, hown, hts⟩ (v_X9_byteIn l dC dI o c kc st lg ai al v_105 (by omega) (by omega)) (cwV 1 hts gX9_stateOf_X9_byteIn rfl rfl rfl (by decide +kernel) ⟨Nat.le_of_ble_eq_true rfl, Nat.le_of_ble_eq_true rfl⟩) ⟨fun a U g mk q => by obtain ⟨q0, qP, qK⟩ := q; exact ⟨q0, qP, va_K.moved (u := U) (U := U.calling g mk a) (Vm.Alike.refl U.vm) qK⟩, va_recv hK hP (ci := 11) (q := (RX9, TX9, 38)) rfl (q0 := 0) rfl, fun U hU hW => ⟨rfl, by rw [hU]; exact hP, va_K.moved hW.alike hK⟩⟩ rfl rfl hl.1 rfl (lv_room (Nat.le_of_ble_eq_true rfl)) dX9_stateOf_51 ⟨Nat.le_of_ble_eq_true rfl, Nat.le_of_ble_eq_true rfl⟩)) (fun r_106 er_106 => ?_)
            obtain ⟨k_107, k_108, k_109⟩ := er_106
            have k_107 : r_106.toInt = (md_get (ai 0) v_105).toInt := k_107
            refine lv_if_ne (tgt := 61) hx hb dX9_stateOf_54 (by decide) (fun c_110 => ?_) (fun c_110 => ?_)
            · skip
              have ic_110 := iv_ne c_110
              refine lv_iconst (v := 0) hx hb dX9_stateOf_61 (by decide) ?_
              refine lv_iand hx hb dX9_stateOf_62 ?_
              refine lv_topi (fun v_111 ev_111 => ?_)
              have hv_111 : v_111.toInt = 0 := by rw [ev_111, iv_and0]; omega
              refine lv_istore (lv' := [(5, .int v_111), (4, .int v_100), (6, .int l6_9), (0, .ref o), (1, .int p0), (2, .int p1), (3, .int p2)]) hx hb dX9_stateOf_63 hl (by decide) rfl (fun ls hl => ?_)
              obtain ⟨x_112, ex_112⟩ : ∃ z : Int32, z = l6_9 + (1) := ⟨_, rfl⟩
              refine lv_iinc (v := x_112) (lv' := [(6, .int x_112), (5, .int v_111), (4, .int v_100), (0, .ref o), (1, .int p0), (2, .int p1), (3, .int p2)]) hx hb dX9_stateOf_65 hl (k := 2) rfl (by rw [ex_112]; rfl) (by decide) rfl (fun ls hl => ?_)
              have hx_112 : x_112.toInt = l6_9.toInt + (1) := by rw [ex_112]; exact (iv_add (by omega) (by omega)).trans (by omega)
              clear ex_112
              refine lv_goto (tgt := 9) hx hb dX9_stateOf_68 (by decide) ?_
              exact ih9 x_112 v_111 v_100 _ (by omega) (by omega) (by omega) (by omega) (by omega) (by omega) (by first | exact alI_1 hal hkv (by omega) (by omega) (by omega) | exact alI_0 hkv (by omega) (by omega) (by omega) (by omega)) (by omega) (lv_sub hl [0, 1, 2, 3, 4, 5, 6] rfl)
            · skip
              have ic_110 := iv_eq c_110
              refine lv_iconst (v := 1) hx hb dX9_stateOf_57 (by decide) ?_
              refine lv_goto (tgt := 62) hx hb dX9_stateOf_58 (by decide) ?_
              refine lv_iand hx hb dX9_stateOf_62 ?_
              refine lv_topi (fun v_113 ev_113 => ?_)
              have hv_113 : v_113.toInt = l5_9.toInt := by rw [ev_113, iv_and1 (by omega) (by omega)]
              refine lv_istore (lv' := [(5, .int v_113), (4, .int v_100), (6, .int l6_9), (0, .ref o), (1, .int p0), (2, .int p1), (3, .int p2)]) hx hb dX9_stateOf_63 hl (by decide) rfl (fun ls hl => ?_)
              obtain ⟨x_114, ex_114⟩ : ∃ z : Int32, z = l6_9 + (1) := ⟨_, rfl⟩
              refine lv_iinc (v := x_114) (lv' := [(6, .int x_114), (5, .int v_113), (4, .int v_100), (0, .ref o), (1, .int p0), (2, .int p1), (3, .int p2)]) hx hb dX9_stateOf_65 hl (k := 2) rfl (by rw [ex_114]; rfl) (by decide) rfl (fun ls hl => ?_)
              have hx_114 : x_114.toInt = l6_9.toInt + (1) := by rw [ex_114]; exact (iv_add (by omega) (by omega)).trans (by omega)
              clear ex_114
              refine lv_goto (tgt := 9) hx hb dX9_stateOf_68 (by decide) ?_
              exact ih9 x_114 v_113 v_100 _ (by omega) (by omega) (by omega) (by omega) (by omega) (by omega) (by first | exact alI_1 hal hkv (by omega) (by omega) (by omega) | exact alI_0 hkv (by omega) (by omega) (by omega) (by omega)) (by omega) (lv_sub hl [0, 1, 2, 3, 4, 5, 6] rfl)
  exact loop9 ((p1.toInt - 0 : Int).toNat + 1) (0 : Int32) (1 : Int32) (1 : Int32) _ (by omega) (by omega) (by omega) (by omega) (by omega) (by omega) ⟨fun _ => zB_0 (by omega), fun h => absurd (by omega) h⟩ (by omega) (lv_sub hl [0, 1, 2, 3, 4, 5, 6] rfl)

set_option maxHeartbeats 4000000 in
set_option maxRecDepth 100000 in
theorem v_X9_rowState (l : Launch) (dC : Nat → ClassId) (dI : Nat → Nat → Nat) (o : Nat) (c : Nat → Nat) (kc : Nat → ClassId) (st : Nat → Int32) (lg : Nat → Int64) (ai : Nat → Nat → Int32) (al : Nat → Nat → Int64) (p0 : Int32) (hf7a : 0 ≤ (st 7).toInt) (hf7b : (st 7).toInt ≤ 1) (hq0 : 0 ≤ p0.toInt) (hq1 : p0.toInt ≤ 127) : Met l yX9_rowState wsX9_rowState ({ frames := 4, cells := 0, slots := 0, locals := 93 }) (va_Pc [.ref o, .int p0] (fun U => va_P (dC, dI) vwCl (rw_W o c kc st lg ai al) U.heap ∧ va_K (dC, dI) vwCl (rw_T kc) U)) (vp_Si (fun r => (0 ≤ r.toInt) ∧ (r.toInt ≤ 3))) 0 0 (fun _ => False) := by
  refine Met.ofW (cc := cX9_rowState) (maxL := 2) (ret := (some .int)) (by decide) rfl ?_
  intro p e s m args below meth cM s₁ B hml hv
  obtain ⟨rfl, hP, hK⟩ := hv
  have hx := B.exec
  have hb := B.bytes
  have hr := B.returns
  have hts := atoms_spec (ws := wsX9_rowState) B.pre
  have hown : s.vm.findClass RX9 = some m.cls := findClass_of_methodNamed B.named
  have hl := lv_entry ([.ref o, .int p0]) (n := 2) (Nat.le_of_ble_eq_true rfl)
  rw [lg_entry_eq]
  generalize (lg_sl ([.ref o, .int p0]) ++ List.replicate (2 - (lg_sl ([.ref o, .int p0])).length) Slot.unset).toArray = ls at hl ⊢
  have hl : lv_has ls 2 [(0, .ref o), (1, .int p0)] := hl
  have z_2 : (2 : Int32).toInt = 2 := by decide
  have z_32 : (32 : Int32).toInt = 32 := by decide
  have hin9 : ∀ w ∈ u_ws RX9 TX9 38, w ∈ wsX9_rowState := by decide +kernel
  refine lv_aload_n hx hb dX9_rowState_0 rfl (lv_at hl 0 rfl) ?_
  refine lv_aload_n hx hb dX9_rowState_1 rfl (lv_at hl 0 rfl) ?_
  refine lv_aload_n hx hb dX9_rowState_2 rfl (lv_at hl 0 rfl) ?_
  refine va_get (D := (dC, dI)) (ci := 11) (v := .int (st 7)) (C := RX9) (T := TX9) (N := 38) hx hb hts hin9 hown hK hP 0 rfl rfl 7 (by decide) (hts (.fieldLink RX9 76 "BlockLogModel" "area" "I") (by decide +kernel)) (fun _ h9 => h9) rfl dX9_rowState_3 ?_
  refine lv_iload_n hx hb dX9_rowState_6 rfl (lv_at hl 1 rfl) ?_
  refine vp_callSi (va_Run.run (va_runV (As := [.int (st 7), .int p0]) (rest := [.ref o]) ⟨hx, hb, hml, hown, hts⟩ (v_X9_rowPlace l dC dI o c kc st lg ai al (st 7) p0 (by omega) (by omega) (by omega) (by omega)) (cwV 2 hts gX9_rowState_X9_rowPlace rfl rfl rfl (by decide +kernel) ⟨Nat.le_of_ble_eq_true rfl, Nat.le_of_ble_eq_true rfl⟩) ⟨fun a U g mk q => by obtain ⟨q0, qP, qK⟩ := q; exact ⟨q0, qP, va_K.moved (u := U) (U := U.calling g mk a) (Vm.Alike.refl U.vm) qK⟩, va_recv hK hP (ci := 11) (q := (RX9, TX9, 38)) rfl (q0 := 0) rfl, fun U hU hW => ⟨rfl, by rw [hU]; exact hP, va_K.moved hW.alike hK⟩⟩ rfl rfl hl.1 rfl (lv_room (Nat.le_of_ble_eq_true rfl)) dX9_rowState_7 ⟨Nat.le_of_ble_eq_true rfl, Nat.le_of_ble_eq_true rfl⟩)) (fun r_1 er_1 => ?_)
  have k_2 := er_1
  refine lv_bipush (v := 32) hx hb dX9_rowState_10 (by decide) ?_
  refine lv_iconst (v := 2) hx hb dX9_rowState_12 (by decide) ?_
  refine vp_callSi (va_Run.run (va_runV (As := [.int r_1, .int (32 : Int32), .int (2 : Int32)]) (rest := []) ⟨hx, hb, hml, hown, hts⟩ (v_X9_stateOf l dC dI o c kc st lg ai al r_1 (32 : Int32) (2 : Int32) (by omega) (by omega) (by omega) (by omega)) (cwV 3 hts gX9_rowState_X9_stateOf rfl rfl rfl (by decide +kernel) ⟨Nat.le_of_ble_eq_true rfl, Nat.le_of_ble_eq_true rfl⟩) ⟨fun a U g mk q => by obtain ⟨q0, qP, qK⟩ := q; exact ⟨q0, qP, va_K.moved (u := U) (U := U.calling g mk a) (Vm.Alike.refl U.vm) qK⟩, va_recv hK hP (ci := 11) (q := (RX9, TX9, 38)) rfl (q0 := 0) rfl, fun U hU hW => ⟨rfl, by rw [hU]; exact hP, va_K.moved hW.alike hK⟩⟩ rfl rfl hl.1 rfl (lv_room (Nat.le_of_ble_eq_true rfl)) dX9_rowState_13 ⟨Nat.le_of_ble_eq_true rfl, Nat.le_of_ble_eq_true rfl⟩)) (fun r_3 er_3 => ?_)
  obtain ⟨k_4, k_5, hrt⟩ := er_3
  have hrt : (r_3.toInt = 1 → rtP (ai 0) r_1 (32 : Int32) (2 : Int32)) ∧ (r_3.toInt ≠ 1 → ¬ rtP (ai 0) r_1 (32 : Int32) (2 : Int32)) := hrt
  exact W.iret hx hb hr (fun t ht hW => ⟨_, rfl, ⟨(by omega), (by omega)⟩, ht⟩) (fun q h => by cases h) dX9_rowState_16

set_option maxHeartbeats 4000000 in
set_option maxRecDepth 100000 in
theorem v_X9_pageState (l : Launch) (dC : Nat → ClassId) (dI : Nat → Nat → Nat) (o : Nat) (c : Nat → Nat) (kc : Nat → ClassId) (st : Nat → Int32) (lg : Nat → Int64) (ai : Nat → Nat → Int32) (al : Nat → Nat → Int64) (p0 : Int32) (hq0 : 0 ≤ p0.toInt) (hq1 : p0.toInt < 65536) : Met l yX9_pageState wsX9_pageState ({ frames := 4, cells := 0, slots := 0, locals := 93 }) (va_Pc [.ref o, .int p0] (fun U => va_P (dC, dI) vwCl (rw_W o c kc st lg ai al) U.heap ∧ va_K (dC, dI) vwCl (rw_T kc) U)) (vp_Si (fun r => (0 ≤ r.toInt) ∧ (r.toInt ≤ 3) ∧ ((r.toInt = 1 → rtQ (ai 0) p0) ∧ (r.toInt ≠ 1 → ¬ rtQ (ai 0) p0)))) 0 0 (fun _ => False) := by
  refine Met.ofW (cc := cX9_pageState) (maxL := 2) (ret := (some .int)) (by decide) rfl ?_
  intro p e s m args below meth cM s₁ B hml hv
  obtain ⟨rfl, hP, hK⟩ := hv
  have hx := B.exec
  have hb := B.bytes
  have hr := B.returns
  have hts := atoms_spec (ws := wsX9_pageState) B.pre
  have hown : s.vm.findClass RX9 = some m.cls := findClass_of_methodNamed B.named
  have hl := lv_entry ([.ref o, .int p0]) (n := 2) (Nat.le_of_ble_eq_true rfl)
  rw [lg_entry_eq]
  generalize (lg_sl ([.ref o, .int p0]) ++ List.replicate (2 - (lg_sl ([.ref o, .int p0])).length) Slot.unset).toArray = ls at hl ⊢
  have hl : lv_has ls 2 [(0, .ref o), (1, .int p0)] := hl
  have z_3 : (3 : Int32).toInt = 3 := by decide
  have z_26 : (26 : Int32).toInt = 26 := by decide
  refine lv_aload_n hx hb dX9_pageState_0 rfl (lv_at hl 0 rfl) ?_
  refine lv_aload_n hx hb dX9_pageState_1 rfl (lv_at hl 0 rfl) ?_
  refine lv_iload_n hx hb dX9_pageState_2 rfl (lv_at hl 1 rfl) ?_
  refine vp_callSi (va_Run.run (va_runV (As := [.int p0]) (rest := [.ref o]) ⟨hx, hb, hml, hown, hts⟩ (v_X9_pagePlace l dC dI o c kc st lg ai al p0 (by omega) (by omega)) (cwV 1 hts gX9_pageState_X9_pagePlace rfl rfl rfl (by decide +kernel) ⟨Nat.le_of_ble_eq_true rfl, Nat.le_of_ble_eq_true rfl⟩) ⟨fun a U g mk q => by obtain ⟨q0, qP, qK⟩ := q; exact ⟨q0, qP, va_K.moved (u := U) (U := U.calling g mk a) (Vm.Alike.refl U.vm) qK⟩, va_recv hK hP (ci := 11) (q := (RX9, TX9, 38)) rfl (q0 := 0) rfl, fun U hU hW => ⟨rfl, by rw [hU]; exact hP, va_K.moved hW.alike hK⟩⟩ rfl rfl hl.1 rfl (lv_room (Nat.le_of_ble_eq_true rfl)) dX9_pageState_3 ⟨Nat.le_of_ble_eq_true rfl, Nat.le_of_ble_eq_true rfl⟩)) (fun r_1 er_1 => ?_)
  have k_2 := er_1
  have hpl : r_1 = Int32.ofInt (8224 + 26 * p0.toInt) := of_z (by omega)
  refine lv_bipush (v := 26) hx hb dX9_pageState_6 (by decide) ?_
  refine lv_iconst (v := 3) hx hb dX9_pageState_8 (by decide) ?_
  refine vp_callSi (va_Run.run (va_runV (As := [.int r_1, .int (26 : Int32), .int (3 : Int32)]) (rest := []) ⟨hx, hb, hml, hown, hts⟩ (v_X9_stateOf l dC dI o c kc st lg ai al r_1 (26 : Int32) (3 : Int32) (by omega) (by omega) (by omega) (by omega)) (cwV 3 hts gX9_pageState_X9_stateOf rfl rfl rfl (by decide +kernel) ⟨Nat.le_of_ble_eq_true rfl, Nat.le_of_ble_eq_true rfl⟩) ⟨fun a U g mk q => by obtain ⟨q0, qP, qK⟩ := q; exact ⟨q0, qP, va_K.moved (u := U) (U := U.calling g mk a) (Vm.Alike.refl U.vm) qK⟩, va_recv hK hP (ci := 11) (q := (RX9, TX9, 38)) rfl (q0 := 0) rfl, fun U hU hW => ⟨rfl, by rw [hU]; exact hP, va_K.moved hW.alike hK⟩⟩ rfl rfl hl.1 rfl (lv_room (Nat.le_of_ble_eq_true rfl)) dX9_pageState_9 ⟨Nat.le_of_ble_eq_true rfl, Nat.le_of_ble_eq_true rfl⟩)) (fun r_3 er_3 => ?_)
  obtain ⟨k_4, k_5, hrt⟩ := er_3
  have hrt : (r_3.toInt = 1 → rtP (ai 0) r_1 (26 : Int32) (3 : Int32)) ∧ (r_3.toInt ≠ 1 → ¬ rtP (ai 0) r_1 (26 : Int32) (3 : Int32)) := hrt
  exact W.iret hx hb hr (fun t ht hW => ⟨_, rfl, ⟨(by omega), (by omega), (by rw [hpl] at hrt; exact hrt)⟩, ht⟩) (fun q h => by cases h) dX9_pageState_12

set_option maxHeartbeats 4000000 in
set_option maxRecDepth 100000 in
theorem v_X9_rows (l : Launch) (dC : Nat → ClassId) (dI : Nat → Nat → Nat) (o : Nat) (c : Nat → Nat) (kc : Nat → ClassId) (st : Nat → Int32) (lg : Nat → Int64) (ai : Nat → Nat → Int32) (al : Nat → Nat → Int64)  (hf15a : 0 ≤ (st 15).toInt) (hf15b : (st 15).toInt ≤ 128) : Met l yX9_rows wsX9_rows ({ frames := 0, cells := 0, slots := 0, locals := 0 }) (va_Pc [.ref o] (fun U => va_P (dC, dI) vwCl (rw_W o c kc st lg ai al) U.heap ∧ va_K (dC, dI) vwCl (rw_T kc) U)) (vp_Si (fun r => (r.toInt = (st 15).toInt))) 0 0 (fun _ => False) := by
  refine Met.ofW (cc := cX9_rows) (maxL := 1) (ret := (some .int)) (by decide) rfl ?_
  intro p e s m args below meth cM s₁ B hml hv
  obtain ⟨rfl, hP, hK⟩ := hv
  have hx := B.exec
  have hb := B.bytes
  have hr := B.returns
  have hts := atoms_spec (ws := wsX9_rows) B.pre
  have hown : s.vm.findClass RX9 = some m.cls := findClass_of_methodNamed B.named
  have hl := lv_entry ([.ref o]) (n := 1) (Nat.le_of_ble_eq_true rfl)
  rw [lg_entry_eq]
  generalize (lg_sl ([.ref o]) ++ List.replicate (1 - (lg_sl ([.ref o])).length) Slot.unset).toArray = ls at hl ⊢
  have hl : lv_has ls 1 [(0, .ref o)] := hl
  have hin9 : ∀ w ∈ u_ws RX9 TX9 38, w ∈ wsX9_rows := by decide +kernel
  refine lv_aload_n hx hb dX9_rows_0 rfl (lv_at hl 0 rfl) ?_
  refine va_get (D := (dC, dI)) (ci := 11) (v := .int (st 15)) (C := RX9) (T := TX9) (N := 38) hx hb hts hin9 hown hK hP 0 rfl rfl 15 (by decide) (hts (.fieldLink RX9 157 "BlockLogModel" "rowsNow" "I") (by decide +kernel)) (fun _ h9 => h9) rfl dX9_rows_1 ?_
  exact W.iret hx hb hr (fun t ht hW => ⟨_, rfl, (by omega), ht⟩) (fun q h => by cases h) dX9_rows_4

set_option maxHeartbeats 4000000 in
set_option maxRecDepth 100000 in
theorem v_X9_countRows (l : Launch) (dC : Nat → ClassId) (dI : Nat → Nat → Nat) (o : Nat) (c : Nat → Nat) (kc : Nat → ClassId) (st : Nat → Int32) (lg : Nat → Int64) (ai : Nat → Nat → Int32) (al : Nat → Nat → Int64)  (hf7a : 0 ≤ (st 7).toInt) (hf7b : (st 7).toInt ≤ 1) : Met l yX9_countRows wsX9_countRows ({ frames := 5, cells := 0, slots := 0, locals := 114 }) (va_Pc [.ref o] (fun U => va_P (dC, dI) vwCl (rw_W o c kc st lg ai al) U.heap ∧ va_K (dC, dI) vwCl (rw_T kc) U)) (vp_Si (fun r => (0 ≤ r.toInt) ∧ (r.toInt ≤ 128))) 0 0 (fun _ => False) := by
  refine Met.ofW (cc := cX9_countRows) (maxL := 2) (ret := (some .int)) (by decide) rfl ?_
  intro p e s m args below meth cM s₁ B hml hv
  obtain ⟨rfl, hP, hK⟩ := hv
  have hx := B.exec
  have hb := B.bytes
  have hr := B.returns
  have hts := atoms_spec (ws := wsX9_countRows) B.pre
  have hown : s.vm.findClass RX9 = some m.cls := findClass_of_methodNamed B.named
  have hl := lv_entry ([.ref o]) (n := 2) (Nat.le_of_ble_eq_true rfl)
  rw [lg_entry_eq]
  generalize (lg_sl ([.ref o]) ++ List.replicate (2 - (lg_sl ([.ref o])).length) Slot.unset).toArray = ls at hl ⊢
  have hl : lv_has ls 2 [(0, .ref o)] := hl
  have z_0 : (0 : Int32).toInt = 0 := by decide
  have z_1 : (1 : Int32).toInt = 1 := by decide
  have z_3 : (3 : Int32).toInt = 3 := by decide
  have z_128 : (128 : Int32).toInt = 128 := by decide
  refine lv_iconst (v := 0) hx hb dX9_countRows_0 (by decide) ?_
  refine lv_istore_n (lv' := [(1, .int (0 : Int32)), (0, .ref o)]) hx hb dX9_countRows_1 rfl hl (by decide) rfl (fun ls hl => ?_)
  have loop2 : ∀ (n : Nat) (l1_2 : Int32) (ls : Array Slot), (0 ≤ l1_2.toInt) → (l1_2.toInt ≤ 128) → (128 - l1_2.toInt : Int).toNat < n → lv_has ls 2 [(1, .int l1_2), (0, .ref o)] → W p l e (headSpec wsX9_countRows ({ frames := 5, cells := 0, slots := 0, locals := 114 })).room s m ([.ref o] : List Value).toArray below meth cM s.heap [] 0 0 (MQ below (vp_Si (fun r => (0 ≤ r.toInt) ∧ (r.toInt ≤ 128))) ([.ref o] : List Value).toArray s 0 0 (fun _ => False)) (F0 m 2 ls []) := by
    intro n
    induction n with
    | zero => intro l1_2 ls if0_2 if1_2 hm; exact absurd hm (Nat.not_lt_zero _)
    | succ n ih2 =>
      intro l1_2 ls if0_2 if1_2 hm2 hl
      refine lv_iload_n hx hb dX9_countRows_2 rfl (lv_at hl 0 rfl) ?_
      refine lv_sipush (v := 128) hx hb dX9_countRows_3 (by decide) ?_
      refine lv_icmp_ge (tgt := 33) hx hb dX9_countRows_6 (by decide) (fun c_1 => ?_) (fun c_1 => ?_)
      · skip
        have ic_1 := iv_le c_1
        refine lv_iload_n hx hb dX9_countRows_33 rfl (lv_at hl 0 rfl) ?_
        exact W.iret hx hb hr (fun t ht hW => ⟨_, rfl, ⟨(by omega), (by omega)⟩, ht⟩) (fun q h => by cases h) dX9_countRows_34
      · skip
        have ic_1 := iv_nle c_1
        refine lv_aload_n hx hb dX9_countRows_9 rfl (lv_at hl 1 rfl) ?_
        refine lv_iload_n hx hb dX9_countRows_10 rfl (lv_at hl 0 rfl) ?_
        refine vp_callSi (va_Run.run (va_runV (As := [.int l1_2]) (rest := []) ⟨hx, hb, hml, hown, hts⟩ (v_X9_rowState l dC dI o c kc st lg ai al l1_2 (show 0 ≤ (st 7).toInt by omega) (show (st 7).toInt ≤ 1 by omega) (by omega) (by omega)) (cwV 1 hts gX9_countRows_X9_rowState rfl rfl rfl (by decide +kernel) ⟨Nat.le_of_ble_eq_true rfl, Nat.le_of_ble_eq_true rfl⟩) ⟨fun a U g mk q => by obtain ⟨q0, qP, qK⟩ := q; exact ⟨q0, qP, va_K.moved (u := U) (U := U.calling g mk a) (Vm.Alike.refl U.vm) qK⟩, va_recv hK hP (ci := 11) (q := (RX9, TX9, 38)) rfl (q0 := 0) rfl, fun U hU hW => ⟨rfl, by rw [hU]; exact hP, va_K.moved hW.alike hK⟩⟩ rfl rfl hl.1 rfl (lv_room (Nat.le_of_ble_eq_true rfl)) dX9_countRows_11 ⟨Nat.le_of_ble_eq_true rfl, Nat.le_of_ble_eq_true rfl⟩)) (fun r_2 er_2 => ?_)
        obtain ⟨k_3, k_4⟩ := er_2
        refine lv_iconst (v := 1) hx hb dX9_countRows_14 (by decide) ?_
        refine lv_icmp_eq (tgt := 27) hx hb dX9_countRows_15 (by decide) (fun c_5 => ?_) (fun c_5 => ?_)
        · skip
          have ic_5 := iv_eq c_5
          obtain ⟨x_6, ex_6⟩ : ∃ z : Int32, z = l1_2 + (1) := ⟨_, rfl⟩
          refine lv_iinc (v := x_6) (lv' := [(1, .int x_6), (0, .ref o)]) hx hb dX9_countRows_27 hl (k := 0) rfl (by rw [ex_6]; rfl) (by decide) rfl (fun ls hl => ?_)
          have rg1 := iv_rng l1_2
          have hx_6 : x_6.toInt = l1_2.toInt + (1) := by rw [ex_6]; exact (iv_add (by omega) (by omega)).trans (by omega)
          clear ex_6
          refine lv_goto (tgt := 2) hx hb dX9_countRows_30 (by decide) ?_
          exact ih2 x_6 _ (by omega) (by omega) (by omega) (lv_sub hl [0, 1] rfl)
        · skip
          have ic_5 := iv_ne c_5
          refine lv_aload_n hx hb dX9_countRows_18 rfl (lv_at hl 1 rfl) ?_
          refine lv_iload_n hx hb dX9_countRows_19 rfl (lv_at hl 0 rfl) ?_
          refine vp_callSi (va_Run.run (va_runV (As := [.int l1_2]) (rest := []) ⟨hx, hb, hml, hown, hts⟩ (v_X9_rowState l dC dI o c kc st lg ai al l1_2 (show 0 ≤ (st 7).toInt by omega) (show (st 7).toInt ≤ 1 by omega) (by omega) (by omega)) (cwV 1 hts gX9_countRows_X9_rowState rfl rfl rfl (by decide +kernel) ⟨Nat.le_of_ble_eq_true rfl, Nat.le_of_ble_eq_true rfl⟩) ⟨fun a U g mk q => by obtain ⟨q0, qP, qK⟩ := q; exact ⟨q0, qP, va_K.moved (u := U) (U := U.calling g mk a) (Vm.Alike.refl U.vm) qK⟩, va_recv hK hP (ci := 11) (q := (RX9, TX9, 38)) rfl (q0 := 0) rfl, fun U hU hW => ⟨rfl, by rw [hU]; exact hP, va_K.moved hW.alike hK⟩⟩ rfl rfl hl.1 rfl (lv_room (Nat.le_of_ble_eq_true rfl)) dX9_countRows_20 ⟨Nat.le_of_ble_eq_true rfl, Nat.le_of_ble_eq_true rfl⟩)) (fun r_7 er_7 => ?_)
          obtain ⟨k_8, k_9⟩ := er_7
          refine lv_iconst (v := 3) hx hb dX9_countRows_23 (by decide) ?_
          refine lv_icmp_ne (tgt := 33) hx hb dX9_countRows_24 (by decide) (fun c_10 => ?_) (fun c_10 => ?_)
          · skip
            have ic_10 := iv_ne c_10
            refine lv_iload_n hx hb dX9_countRows_33 rfl (lv_at hl 0 rfl) ?_
            exact W.iret hx hb hr (fun t ht hW => ⟨_, rfl, ⟨(by omega), (by omega)⟩, ht⟩) (fun q h => by cases h) dX9_countRows_34
          · skip
            have ic_10 := iv_eq c_10
            obtain ⟨x_11, ex_11⟩ : ∃ z : Int32, z = l1_2 + (1) := ⟨_, rfl⟩
            refine lv_iinc (v := x_11) (lv' := [(1, .int x_11), (0, .ref o)]) hx hb dX9_countRows_27 hl (k := 0) rfl (by rw [ex_11]; rfl) (by decide) rfl (fun ls hl => ?_)
            have rg2 := iv_rng l1_2
            have hx_11 : x_11.toInt = l1_2.toInt + (1) := by rw [ex_11]; exact (iv_add (by omega) (by omega)).trans (by omega)
            clear ex_11
            refine lv_goto (tgt := 2) hx hb dX9_countRows_30 (by decide) ?_
            exact ih2 x_11 _ (by omega) (by omega) (by omega) (lv_sub hl [0, 1] rfl)
  exact loop2 ((128 - 0 : Int).toNat + 1) (0 : Int32) _ (by omega) (by omega) (by omega) (lv_sub hl [0, 1] rfl)

set_option maxHeartbeats 4000000 in
set_option maxRecDepth 100000 in
theorem v_X9_badRows (l : Launch) (dC : Nat → ClassId) (dI : Nat → Nat → Nat) (o : Nat) (c : Nat → Nat) (kc : Nat → ClassId) (st : Nat → Int32) (lg : Nat → Int64) (ai : Nat → Nat → Int32) (al : Nat → Nat → Int64)  (hf7a : 0 ≤ (st 7).toInt) (hf7b : (st 7).toInt ≤ 1) (hf15a : 0 ≤ (st 15).toInt) (hf15b : (st 15).toInt ≤ 128) : Met l yX9_badRows wsX9_badRows ({ frames := 5, cells := 0, slots := 0, locals := 114 }) (va_Pc [.ref o] (fun U => va_P (dC, dI) vwCl (rw_W o c kc st lg ai al) U.heap ∧ va_K (dC, dI) vwCl (rw_T kc) U)) (vp_Si (fun r => (0 ≤ r.toInt) ∧ (r.toInt ≤ 128))) 0 0 (fun _ => False) := by
  refine Met.ofW (cc := cX9_badRows) (maxL := 4) (ret := (some .int)) (by decide) rfl ?_
  intro p e s m args below meth cM s₁ B hml hv
  obtain ⟨rfl, hP, hK⟩ := hv
  have hx := B.exec
  have hb := B.bytes
  have hr := B.returns
  have hts := atoms_spec (ws := wsX9_badRows) B.pre
  have hown : s.vm.findClass RX9 = some m.cls := findClass_of_methodNamed B.named
  have hl := lv_entry ([.ref o]) (n := 4) (Nat.le_of_ble_eq_true rfl)
  rw [lg_entry_eq]
  generalize (lg_sl ([.ref o]) ++ List.replicate (4 - (lg_sl ([.ref o])).length) Slot.unset).toArray = ls at hl ⊢
  have hl : lv_has ls 4 [(0, .ref o)] := hl
  have z_0 : (0 : Int32).toInt = 0 := by decide
  have z_1 : (1 : Int32).toInt = 1 := by decide
  have z_3 : (3 : Int32).toInt = 3 := by decide
  refine lv_iconst (v := 0) hx hb dX9_badRows_0 (by decide) ?_
  refine lv_istore_n (lv' := [(1, .int (0 : Int32)), (0, .ref o)]) hx hb dX9_badRows_1 rfl hl (by decide) rfl (fun ls hl => ?_)
  refine lv_aload_n hx hb dX9_badRows_2 rfl (lv_at hl 1 rfl) ?_
  refine vp_callSi (va_Run.run (va_runV (As := []) (rest := []) ⟨hx, hb, hml, hown, hts⟩ (v_X9_rows l dC dI o c kc st lg ai al  (show 0 ≤ (st 15).toInt by omega) (show (st 15).toInt ≤ 128 by omega)) (cwV 0 hts gX9_badRows_X9_rows rfl rfl rfl (by decide +kernel) ⟨Nat.le_of_ble_eq_true rfl, Nat.le_of_ble_eq_true rfl⟩) ⟨fun a U g mk q => by obtain ⟨q0, qP, qK⟩ := q; exact ⟨q0, qP, va_K.moved (u := U) (U := U.calling g mk a) (Vm.Alike.refl U.vm) qK⟩, va_recv hK hP (ci := 11) (q := (RX9, TX9, 38)) rfl (q0 := 0) rfl, fun U hU hW => ⟨rfl, by rw [hU]; exact hP, va_K.moved hW.alike hK⟩⟩ rfl rfl hl.1 rfl (lv_room (Nat.le_of_ble_eq_true rfl)) dX9_badRows_3 ⟨Nat.le_of_ble_eq_true rfl, Nat.le_of_ble_eq_true rfl⟩)) (fun r_1 er_1 => ?_)
  have k_2 := er_1
  have k_2 : r_1.toInt = (st 15).toInt := k_2
  refine lv_istore_n (lv' := [(2, .int r_1), (1, .int (0 : Int32)), (0, .ref o)]) hx hb dX9_badRows_6 rfl hl (by decide) rfl (fun ls hl => ?_)
  refine lv_iconst (v := 0) hx hb dX9_badRows_7 (by decide) ?_
  refine lv_istore_n (lv' := [(3, .int (0 : Int32)), (2, .int r_1), (1, .int (0 : Int32)), (0, .ref o)]) hx hb dX9_badRows_8 rfl hl (by decide) rfl (fun ls hl => ?_)
  have loop9 : ∀ (n : Nat) (l3_9 : Int32) (l1_9 : Int32) (ls : Array Slot), (0 ≤ l3_9.toInt) → (l3_9.toInt ≤ r_1.toInt) → (0 ≤ l1_9.toInt) → (l1_9.toInt ≤ l3_9.toInt) → (r_1.toInt - l3_9.toInt : Int).toNat < n → lv_has ls 4 [(3, .int l3_9), (2, .int r_1), (1, .int l1_9), (0, .ref o)] → W p l e (headSpec wsX9_badRows ({ frames := 5, cells := 0, slots := 0, locals := 114 })).room s m ([.ref o] : List Value).toArray below meth cM s.heap [] 0 0 (MQ below (vp_Si (fun r => (0 ≤ r.toInt) ∧ (r.toInt ≤ 128))) ([.ref o] : List Value).toArray s 0 0 (fun _ => False)) (F0 m 9 ls []) := by
    intro n
    induction n with
    | zero => intro l3_9 l1_9 ls if0_9 if1_9 if2_9 if3_9 hm; exact absurd hm (Nat.not_lt_zero _)
    | succ n ih9 =>
      intro l3_9 l1_9 ls if0_9 if1_9 if2_9 if3_9 hm9 hl
      refine lv_iload_n hx hb dX9_badRows_9 rfl (lv_at hl 0 rfl) ?_
      refine lv_iload_n hx hb dX9_badRows_10 rfl (lv_at hl 1 rfl) ?_
      refine lv_icmp_ge (tgt := 37) hx hb dX9_badRows_11 (by decide) (fun c_3 => ?_) (fun c_3 => ?_)
      · skip
        have ic_3 := iv_le c_3
        refine lv_iload_n hx hb dX9_badRows_37 rfl (lv_at hl 2 rfl) ?_
        exact W.iret hx hb hr (fun t ht hW => ⟨_, rfl, ⟨(by omega), (by omega)⟩, ht⟩) (fun q h => by cases h) dX9_badRows_38
      · skip
        have ic_3 := iv_nle c_3
        refine lv_iload_n hx hb dX9_badRows_14 rfl (lv_at hl 2 rfl) ?_
        refine lv_aload_n hx hb dX9_badRows_15 rfl (lv_at hl 3 rfl) ?_
        refine lv_iload_n hx hb dX9_badRows_16 rfl (lv_at hl 0 rfl) ?_
        refine vp_callSi (va_Run.run (va_runV (As := [.int l3_9]) (rest := [.int l1_9]) ⟨hx, hb, hml, hown, hts⟩ (v_X9_rowState l dC dI o c kc st lg ai al l3_9 (show 0 ≤ (st 7).toInt by omega) (show (st 7).toInt ≤ 1 by omega) (by omega) (by omega)) (cwV 1 hts gX9_badRows_X9_rowState rfl rfl rfl (by decide +kernel) ⟨Nat.le_of_ble_eq_true rfl, Nat.le_of_ble_eq_true rfl⟩) ⟨fun a U g mk q => by obtain ⟨q0, qP, qK⟩ := q; exact ⟨q0, qP, va_K.moved (u := U) (U := U.calling g mk a) (Vm.Alike.refl U.vm) qK⟩, va_recv hK hP (ci := 11) (q := (RX9, TX9, 38)) rfl (q0 := 0) rfl, fun U hU hW => ⟨rfl, by rw [hU]; exact hP, va_K.moved hW.alike hK⟩⟩ rfl rfl hl.1 rfl (lv_room (Nat.le_of_ble_eq_true rfl)) dX9_badRows_17 ⟨Nat.le_of_ble_eq_true rfl, Nat.le_of_ble_eq_true rfl⟩)) (fun r_4 er_4 => ?_)
        obtain ⟨k_5, k_6⟩ := er_4
        refine lv_iconst (v := 3) hx hb dX9_badRows_20 (by decide) ?_
        refine lv_icmp_ne (tgt := 28) hx hb dX9_badRows_21 (by decide) (fun c_7 => ?_) (fun c_7 => ?_)
        · skip
          have ic_7 := iv_ne c_7
          refine lv_iconst (v := 0) hx hb dX9_badRows_28 (by decide) ?_
          refine lv_iadd hx hb dX9_badRows_29 ?_
          refine lv_topi (fun v_8 ev_8 => ?_)
          have rg1 := iv_rng l1_9
          have hv_8 : v_8.toInt = l1_9.toInt + 0 := by rw [ev_8]; exact (iv_add (by omega) (by omega)).trans (by omega)
          clear ev_8
          refine lv_istore_n (lv' := [(1, .int v_8), (3, .int l3_9), (2, .int r_1), (0, .ref o)]) hx hb dX9_badRows_30 rfl hl (by decide) rfl (fun ls hl => ?_)
          obtain ⟨x_9, ex_9⟩ : ∃ z : Int32, z = l3_9 + (1) := ⟨_, rfl⟩
          refine lv_iinc (v := x_9) (lv' := [(3, .int x_9), (1, .int v_8), (2, .int r_1), (0, .ref o)]) hx hb dX9_badRows_31 hl (k := 1) rfl (by rw [ex_9]; rfl) (by decide) rfl (fun ls hl => ?_)
          have rg2 := iv_rng l3_9
          have hx_9 : x_9.toInt = l3_9.toInt + (1) := by rw [ex_9]; exact (iv_add (by omega) (by omega)).trans (by omega)
          clear ex_9
          refine lv_goto (tgt := 9) hx hb dX9_badRows_34 (by decide) ?_
          exact ih9 x_9 v_8 _ (by omega) (by omega) (by omega) (by omega) (by omega) (lv_sub hl [0, 2, 1, 3] rfl)
        · skip
          have ic_7 := iv_eq c_7
          refine lv_iconst (v := 1) hx hb dX9_badRows_24 (by decide) ?_
          refine lv_goto (tgt := 29) hx hb dX9_badRows_25 (by decide) ?_
          refine lv_iadd hx hb dX9_badRows_29 ?_
          refine lv_topi (fun v_10 ev_10 => ?_)
          have rg3 := iv_rng l1_9
          have hv_10 : v_10.toInt = l1_9.toInt + 1 := by rw [ev_10]; exact (iv_add (by omega) (by omega)).trans (by omega)
          clear ev_10
          refine lv_istore_n (lv' := [(1, .int v_10), (3, .int l3_9), (2, .int r_1), (0, .ref o)]) hx hb dX9_badRows_30 rfl hl (by decide) rfl (fun ls hl => ?_)
          obtain ⟨x_11, ex_11⟩ : ∃ z : Int32, z = l3_9 + (1) := ⟨_, rfl⟩
          refine lv_iinc (v := x_11) (lv' := [(3, .int x_11), (1, .int v_10), (2, .int r_1), (0, .ref o)]) hx hb dX9_badRows_31 hl (k := 1) rfl (by rw [ex_11]; rfl) (by decide) rfl (fun ls hl => ?_)
          have rg4 := iv_rng l3_9
          have hx_11 : x_11.toInt = l3_9.toInt + (1) := by rw [ex_11]; exact (iv_add (by omega) (by omega)).trans (by omega)
          clear ex_11
          refine lv_goto (tgt := 9) hx hb dX9_badRows_34 (by decide) ?_
          exact ih9 x_11 v_10 _ (by omega) (by omega) (by omega) (by omega) (by omega) (lv_sub hl [0, 2, 1, 3] rfl)
  exact loop9 ((r_1.toInt - 0 : Int).toNat + 1) (0 : Int32) (0 : Int32) _ (by omega) (by omega) (by omega) (by omega) (by omega) (lv_sub hl [0, 1, 2, 3] rfl)

set_option maxHeartbeats 4000000 in
set_option maxRecDepth 100000 in
theorem v_X9_kindOf (l : Launch) (dC : Nat → ClassId) (dI : Nat → Nat → Nat) (o : Nat) (c : Nat → Nat) (kc : Nat → ClassId) (st : Nat → Int32) (lg : Nat → Int64) (ai : Nat → Nat → Int32) (al : Nat → Nat → Int64) (p0 : Int32) (hf7a : 0 ≤ (st 7).toInt) (hf7b : (st 7).toInt ≤ 1) (hq0 : -1 ≤ p0.toInt) (hq1 : p0.toInt ≤ 255) : Met l yX9_kindOf wsX9_kindOf ({ frames := 1, cells := 0, slots := 0, locals := 22 }) (va_Pc [.ref o, .int p0] (fun U => va_P (dC, dI) vwCl (rw_W o c kc st lg ai al) U.heap ∧ va_K (dC, dI) vwCl (rw_T kc) U)) (vp_Si (fun r => (r.toInt = (rK (ai 0) (st 7) p0).toInt) ∧ (0 ≤ r.toInt) ∧ (r.toInt ≤ 255))) 0 0 (fun _ => False) := by
  refine Met.ofW (cc := cX9_kindOf) (maxL := 2) (ret := (some .int)) (by decide) rfl ?_
  intro p e s m args below meth cM s₁ B hml hv
  obtain ⟨rfl, hP, hK⟩ := hv
  have hx := B.exec
  have hb := B.bytes
  have hr := B.returns
  have hts := atoms_spec (ws := wsX9_kindOf) B.pre
  have hown : s.vm.findClass RX9 = some m.cls := findClass_of_methodNamed B.named
  have hl := lv_entry ([.ref o, .int p0]) (n := 2) (Nat.le_of_ble_eq_true rfl)
  rw [lg_entry_eq]
  generalize (lg_sl ([.ref o, .int p0]) ++ List.replicate (2 - (lg_sl ([.ref o, .int p0])).length) Slot.unset).toArray = ls at hl ⊢
  have hl : lv_has ls 2 [(0, .ref o), (1, .int p0)] := hl
  have hin9 : ∀ w ∈ u_ws RX9 TX9 38, w ∈ wsX9_kindOf := by decide +kernel
  refine lv_aload_n hx hb dX9_kindOf_0 rfl (lv_at hl 0 rfl) ?_
  refine lv_aload_n hx hb dX9_kindOf_1 rfl (lv_at hl 0 rfl) ?_
  refine lv_aload_n hx hb dX9_kindOf_2 rfl (lv_at hl 0 rfl) ?_
  refine va_get (D := (dC, dI)) (ci := 11) (v := .int (st 7)) (C := RX9) (T := TX9) (N := 38) hx hb hts hin9 hown hK hP 0 rfl rfl 7 (by decide) (hts (.fieldLink RX9 76 "BlockLogModel" "area" "I") (by decide +kernel)) (fun _ h9 => h9) rfl dX9_kindOf_3 ?_
  refine lv_iload_n hx hb dX9_kindOf_6 rfl (lv_at hl 1 rfl) ?_
  refine vp_callSi (va_Run.run (va_runV (As := [.int (st 7), .int p0]) (rest := [.ref o]) ⟨hx, hb, hml, hown, hts⟩ (v_X9_rowPlace l dC dI o c kc st lg ai al (st 7) p0 (by omega) (by omega) (by omega) (by omega)) (cwV 2 hts gX9_kindOf_X9_rowPlace rfl rfl rfl (by decide +kernel) ⟨Nat.le_of_ble_eq_true rfl, Nat.le_of_ble_eq_true rfl⟩) ⟨fun a U g mk q => by obtain ⟨q0, qP, qK⟩ := q; exact ⟨q0, qP, va_K.moved (u := U) (U := U.calling g mk a) (Vm.Alike.refl U.vm) qK⟩, va_recv hK hP (ci := 11) (q := (RX9, TX9, 38)) rfl (q0 := 0) rfl, fun U hU hW => ⟨rfl, by rw [hU]; exact hP, va_K.moved hW.alike hK⟩⟩ rfl rfl hl.1 rfl (lv_room (Nat.le_of_ble_eq_true rfl)) dX9_kindOf_7 ⟨Nat.le_of_ble_eq_true rfl, Nat.le_of_ble_eq_true rfl⟩)) (fun r_1 er_1 => ?_)
  have k_2 := er_1
  refine vp_callSi (va_Run.run (va_runV (As := [.int r_1]) (rest := []) ⟨hx, hb, hml, hown, hts⟩ (v_X9_byteIn l dC dI o c kc st lg ai al r_1 (by omega) (by omega)) (cwV 1 hts gX9_kindOf_X9_byteIn rfl rfl rfl (by decide +kernel) ⟨Nat.le_of_ble_eq_true rfl, Nat.le_of_ble_eq_true rfl⟩) ⟨fun a U g mk q => by obtain ⟨q0, qP, qK⟩ := q; exact ⟨q0, qP, va_K.moved (u := U) (U := U.calling g mk a) (Vm.Alike.refl U.vm) qK⟩, va_recv hK hP (ci := 11) (q := (RX9, TX9, 38)) rfl (q0 := 0) rfl, fun U hU hW => ⟨rfl, by rw [hU]; exact hP, va_K.moved hW.alike hK⟩⟩ rfl rfl hl.1 rfl (lv_room (Nat.le_of_ble_eq_true rfl)) dX9_kindOf_10 ⟨Nat.le_of_ble_eq_true rfl, Nat.le_of_ble_eq_true rfl⟩)) (fun r_3 er_3 => ?_)
  obtain ⟨k_4, k_5, k_6⟩ := er_3
  have k_4 : r_3.toInt = (md_get (ai 0) r_1).toInt := k_4
  exact W.iret hx hb hr (fun t ht hW => ⟨_, rfl, ⟨(k_4.trans (by rw [rp_of (a := st 7) (r := p0) (x := r_1) (by omega) (by omega) (by omega) (by omega) (by omega)]; rfl)), (by omega), (by omega)⟩, ht⟩) (fun q h => by cases h) dX9_kindOf_13

set_option maxHeartbeats 4000000 in
set_option maxRecDepth 100000 in
theorem v_X9_aOf (l : Launch) (dC : Nat → ClassId) (dI : Nat → Nat → Nat) (o : Nat) (c : Nat → Nat) (kc : Nat → ClassId) (st : Nat → Int32) (lg : Nat → Int64) (ai : Nat → Nat → Int32) (al : Nat → Nat → Int64) (p0 : Int32) (hf7a : 0 ≤ (st 7).toInt) (hf7b : (st 7).toInt ≤ 1) (hq0 : -1 ≤ p0.toInt) (hq1 : p0.toInt ≤ 255) : Met l yX9_aOf wsX9_aOf ({ frames := 2, cells := 0, slots := 0, locals := 49 }) (va_Pc [.ref o, .int p0] (fun U => va_P (dC, dI) vwCl (rw_W o c kc st lg ai al) U.heap ∧ va_K (dC, dI) vwCl (rw_T kc) U)) (vp_Si (fun r => (r.toInt = (rA (ai 0) (st 7) p0).toInt))) 0 0 (fun _ => False) := by
  refine Met.ofW (cc := cX9_aOf) (maxL := 2) (ret := (some .int)) (by decide) rfl ?_
  intro p e s m args below meth cM s₁ B hml hv
  obtain ⟨rfl, hP, hK⟩ := hv
  have hx := B.exec
  have hb := B.bytes
  have hr := B.returns
  have hts := atoms_spec (ws := wsX9_aOf) B.pre
  have hown : s.vm.findClass RX9 = some m.cls := findClass_of_methodNamed B.named
  have hl := lv_entry ([.ref o, .int p0]) (n := 2) (Nat.le_of_ble_eq_true rfl)
  rw [lg_entry_eq]
  generalize (lg_sl ([.ref o, .int p0]) ++ List.replicate (2 - (lg_sl ([.ref o, .int p0])).length) Slot.unset).toArray = ls at hl ⊢
  have hl : lv_has ls 2 [(0, .ref o), (1, .int p0)] := hl
  have z_1 : (1 : Int32).toInt = 1 := by decide
  have z_4 : (4 : Int32).toInt = 4 := by decide
  have hin9 : ∀ w ∈ u_ws RX9 TX9 38, w ∈ wsX9_aOf := by decide +kernel
  refine lv_aload_n hx hb dX9_aOf_0 rfl (lv_at hl 0 rfl) ?_
  refine lv_aload_n hx hb dX9_aOf_1 rfl (lv_at hl 0 rfl) ?_
  refine lv_aload_n hx hb dX9_aOf_2 rfl (lv_at hl 0 rfl) ?_
  refine va_get (D := (dC, dI)) (ci := 11) (v := .int (st 7)) (C := RX9) (T := TX9) (N := 38) hx hb hts hin9 hown hK hP 0 rfl rfl 7 (by decide) (hts (.fieldLink RX9 76 "BlockLogModel" "area" "I") (by decide +kernel)) (fun _ h9 => h9) rfl dX9_aOf_3 ?_
  refine lv_iload_n hx hb dX9_aOf_6 rfl (lv_at hl 1 rfl) ?_
  refine vp_callSi (va_Run.run (va_runV (As := [.int (st 7), .int p0]) (rest := [.ref o]) ⟨hx, hb, hml, hown, hts⟩ (v_X9_rowPlace l dC dI o c kc st lg ai al (st 7) p0 (by omega) (by omega) (by omega) (by omega)) (cwV 2 hts gX9_aOf_X9_rowPlace rfl rfl rfl (by decide +kernel) ⟨Nat.le_of_ble_eq_true rfl, Nat.le_of_ble_eq_true rfl⟩) ⟨fun a U g mk q => by obtain ⟨q0, qP, qK⟩ := q; exact ⟨q0, qP, va_K.moved (u := U) (U := U.calling g mk a) (Vm.Alike.refl U.vm) qK⟩, va_recv hK hP (ci := 11) (q := (RX9, TX9, 38)) rfl (q0 := 0) rfl, fun U hU hW => ⟨rfl, by rw [hU]; exact hP, va_K.moved hW.alike hK⟩⟩ rfl rfl hl.1 rfl (lv_room (Nat.le_of_ble_eq_true rfl)) dX9_aOf_7 ⟨Nat.le_of_ble_eq_true rfl, Nat.le_of_ble_eq_true rfl⟩)) (fun r_1 er_1 => ?_)
  have k_2 := er_1
  refine lv_iconst (v := 1) hx hb dX9_aOf_10 (by decide) ?_
  refine lv_iadd hx hb dX9_aOf_11 ?_
  refine lv_topi (fun v_3 ev_3 => ?_)
  have rg1 := iv_rng r_1
  have hv_3 : v_3.toInt = r_1.toInt + 1 := by rw [ev_3]; exact (iv_add (by omega) (by omega)).trans (by omega)
  refine lv_iconst (v := 4) hx hb dX9_aOf_12 (by decide) ?_
  refine vp_callSl (va_Run.run (va_runV (As := [.int v_3, .int (4 : Int32)]) (rest := []) ⟨hx, hb, hml, hown, hts⟩ (v_X9_number l dC dI o c kc st lg ai al v_3 (4 : Int32) (by omega) (by omega) (by omega) (by omega)) (cwV 2 hts gX9_aOf_X9_number rfl rfl rfl (by decide +kernel) ⟨Nat.le_of_ble_eq_true rfl, Nat.le_of_ble_eq_true rfl⟩) ⟨fun a U g mk q => by obtain ⟨q0, qP, qK⟩ := q; exact ⟨q0, qP, va_K.moved (u := U) (U := U.calling g mk a) (Vm.Alike.refl U.vm) qK⟩, va_recv hK hP (ci := 11) (q := (RX9, TX9, 38)) rfl (q0 := 0) rfl, fun U hU hW => ⟨rfl, by rw [hU]; exact hP, va_K.moved hW.alike hK⟩⟩ rfl rfl hl.1 rfl (lv_room (Nat.le_of_ble_eq_true rfl)) dX9_aOf_13 ⟨Nat.le_of_ble_eq_true rfl, Nat.le_of_ble_eq_true rfl⟩)) (fun r_4 er_4 => ?_)
  have hn := er_4
  have hn : r_4 = md_num (ai 0) v_3 (4 : Int32).toNatClampNeg := hn
  refine lv_l2i hx hb dX9_aOf_16 rfl ?_
  refine lv_topi (fun v_5 ev_5 => ?_)
  exact W.iret hx hb hr (fun t ht hW => ⟨_, rfl, (by rw [ev_5, hn, rpk_of (a := st 7) (r := p0) (x := v_3) (1 : Int32) (by omega) (by omega) (by omega) (by omega) (by decide) (by decide) (by rw [show (1 : Int32).toInt = 1 by decide]; omega), show (4 : Int32).toNatClampNeg = 4 by decide]; rfl), ht⟩) (fun q h => by cases h) dX9_aOf_17

set_option maxHeartbeats 4000000 in
set_option maxRecDepth 100000 in
theorem v_X9_bOf (l : Launch) (dC : Nat → ClassId) (dI : Nat → Nat → Nat) (o : Nat) (c : Nat → Nat) (kc : Nat → ClassId) (st : Nat → Int32) (lg : Nat → Int64) (ai : Nat → Nat → Int32) (al : Nat → Nat → Int64) (p0 : Int32) (hf7a : 0 ≤ (st 7).toInt) (hf7b : (st 7).toInt ≤ 1) (hq0 : -1 ≤ p0.toInt) (hq1 : p0.toInt ≤ 255) : Met l yX9_bOf wsX9_bOf ({ frames := 2, cells := 0, slots := 0, locals := 49 }) (va_Pc [.ref o, .int p0] (fun U => va_P (dC, dI) vwCl (rw_W o c kc st lg ai al) U.heap ∧ va_K (dC, dI) vwCl (rw_T kc) U)) (vp_Si (fun r => (r.toInt = (rB (ai 0) (st 7) p0).toInt))) 0 0 (fun _ => False) := by
  refine Met.ofW (cc := cX9_bOf) (maxL := 2) (ret := (some .int)) (by decide) rfl ?_
  intro p e s m args below meth cM s₁ B hml hv
  obtain ⟨rfl, hP, hK⟩ := hv
  have hx := B.exec
  have hb := B.bytes
  have hr := B.returns
  have hts := atoms_spec (ws := wsX9_bOf) B.pre
  have hown : s.vm.findClass RX9 = some m.cls := findClass_of_methodNamed B.named
  have hl := lv_entry ([.ref o, .int p0]) (n := 2) (Nat.le_of_ble_eq_true rfl)
  rw [lg_entry_eq]
  generalize (lg_sl ([.ref o, .int p0]) ++ List.replicate (2 - (lg_sl ([.ref o, .int p0])).length) Slot.unset).toArray = ls at hl ⊢
  have hl : lv_has ls 2 [(0, .ref o), (1, .int p0)] := hl
  have z_4 : (4 : Int32).toInt = 4 := by decide
  have z_5 : (5 : Int32).toInt = 5 := by decide
  have hin9 : ∀ w ∈ u_ws RX9 TX9 38, w ∈ wsX9_bOf := by decide +kernel
  refine lv_aload_n hx hb dX9_bOf_0 rfl (lv_at hl 0 rfl) ?_
  refine lv_aload_n hx hb dX9_bOf_1 rfl (lv_at hl 0 rfl) ?_
  refine lv_aload_n hx hb dX9_bOf_2 rfl (lv_at hl 0 rfl) ?_
  refine va_get (D := (dC, dI)) (ci := 11) (v := .int (st 7)) (C := RX9) (T := TX9) (N := 38) hx hb hts hin9 hown hK hP 0 rfl rfl 7 (by decide) (hts (.fieldLink RX9 76 "BlockLogModel" "area" "I") (by decide +kernel)) (fun _ h9 => h9) rfl dX9_bOf_3 ?_
  refine lv_iload_n hx hb dX9_bOf_6 rfl (lv_at hl 1 rfl) ?_
  refine vp_callSi (va_Run.run (va_runV (As := [.int (st 7), .int p0]) (rest := [.ref o]) ⟨hx, hb, hml, hown, hts⟩ (v_X9_rowPlace l dC dI o c kc st lg ai al (st 7) p0 (by omega) (by omega) (by omega) (by omega)) (cwV 2 hts gX9_bOf_X9_rowPlace rfl rfl rfl (by decide +kernel) ⟨Nat.le_of_ble_eq_true rfl, Nat.le_of_ble_eq_true rfl⟩) ⟨fun a U g mk q => by obtain ⟨q0, qP, qK⟩ := q; exact ⟨q0, qP, va_K.moved (u := U) (U := U.calling g mk a) (Vm.Alike.refl U.vm) qK⟩, va_recv hK hP (ci := 11) (q := (RX9, TX9, 38)) rfl (q0 := 0) rfl, fun U hU hW => ⟨rfl, by rw [hU]; exact hP, va_K.moved hW.alike hK⟩⟩ rfl rfl hl.1 rfl (lv_room (Nat.le_of_ble_eq_true rfl)) dX9_bOf_7 ⟨Nat.le_of_ble_eq_true rfl, Nat.le_of_ble_eq_true rfl⟩)) (fun r_1 er_1 => ?_)
  have k_2 := er_1
  refine lv_iconst (v := 5) hx hb dX9_bOf_10 (by decide) ?_
  refine lv_iadd hx hb dX9_bOf_11 ?_
  refine lv_topi (fun v_3 ev_3 => ?_)
  have rg1 := iv_rng r_1
  have hv_3 : v_3.toInt = r_1.toInt + 5 := by rw [ev_3]; exact (iv_add (by omega) (by omega)).trans (by omega)
  refine lv_iconst (v := 4) hx hb dX9_bOf_12 (by decide) ?_
  refine vp_callSl (va_Run.run (va_runV (As := [.int v_3, .int (4 : Int32)]) (rest := []) ⟨hx, hb, hml, hown, hts⟩ (v_X9_number l dC dI o c kc st lg ai al v_3 (4 : Int32) (by omega) (by omega) (by omega) (by omega)) (cwV 2 hts gX9_bOf_X9_number rfl rfl rfl (by decide +kernel) ⟨Nat.le_of_ble_eq_true rfl, Nat.le_of_ble_eq_true rfl⟩) ⟨fun a U g mk q => by obtain ⟨q0, qP, qK⟩ := q; exact ⟨q0, qP, va_K.moved (u := U) (U := U.calling g mk a) (Vm.Alike.refl U.vm) qK⟩, va_recv hK hP (ci := 11) (q := (RX9, TX9, 38)) rfl (q0 := 0) rfl, fun U hU hW => ⟨rfl, by rw [hU]; exact hP, va_K.moved hW.alike hK⟩⟩ rfl rfl hl.1 rfl (lv_room (Nat.le_of_ble_eq_true rfl)) dX9_bOf_13 ⟨Nat.le_of_ble_eq_true rfl, Nat.le_of_ble_eq_true rfl⟩)) (fun r_4 er_4 => ?_)
  have hn := er_4
  have hn : r_4 = md_num (ai 0) v_3 (4 : Int32).toNatClampNeg := hn
  refine lv_l2i hx hb dX9_bOf_16 rfl ?_
  refine lv_topi (fun v_5 ev_5 => ?_)
  exact W.iret hx hb hr (fun t ht hW => ⟨_, rfl, (by rw [ev_5, hn, rp5_of (a := st 7) (r := p0) (x := v_3) (by omega) (by omega) (by omega) (by omega) (by omega), show (4 : Int32).toNatClampNeg = 4 by decide]; rfl), ht⟩) (fun q h => by cases h) dX9_bOf_17

set_option maxHeartbeats 4000000 in
set_option maxRecDepth 100000 in
theorem v_X9_cOf (l : Launch) (dC : Nat → ClassId) (dI : Nat → Nat → Nat) (o : Nat) (c : Nat → Nat) (kc : Nat → ClassId) (st : Nat → Int32) (lg : Nat → Int64) (ai : Nat → Nat → Int32) (al : Nat → Nat → Int64) (p0 : Int32) (hf7a : 0 ≤ (st 7).toInt) (hf7b : (st 7).toInt ≤ 1) (hq0 : -1 ≤ p0.toInt) (hq1 : p0.toInt ≤ 255) : Met l yX9_cOf wsX9_cOf ({ frames := 2, cells := 0, slots := 0, locals := 49 }) (va_Pc [.ref o, .int p0] (fun U => va_P (dC, dI) vwCl (rw_W o c kc st lg ai al) U.heap ∧ va_K (dC, dI) vwCl (rw_T kc) U)) (vp_Sl (fun r => (r = rC (ai 0) (st 7) p0))) 0 0 (fun _ => False) := by
  refine Met.ofW (cc := cX9_cOf) (maxL := 2) (ret := (some .long)) (by decide) rfl ?_
  intro p e s m args below meth cM s₁ B hml hv
  obtain ⟨rfl, hP, hK⟩ := hv
  have hx := B.exec
  have hb := B.bytes
  have hr := B.returns
  have hts := atoms_spec (ws := wsX9_cOf) B.pre
  have hown : s.vm.findClass RX9 = some m.cls := findClass_of_methodNamed B.named
  have hl := lv_entry ([.ref o, .int p0]) (n := 2) (Nat.le_of_ble_eq_true rfl)
  rw [lg_entry_eq]
  generalize (lg_sl ([.ref o, .int p0]) ++ List.replicate (2 - (lg_sl ([.ref o, .int p0])).length) Slot.unset).toArray = ls at hl ⊢
  have hl : lv_has ls 2 [(0, .ref o), (1, .int p0)] := hl
  have z_8 : (8 : Int32).toInt = 8 := by decide
  have z_9 : (9 : Int32).toInt = 9 := by decide
  have hin9 : ∀ w ∈ u_ws RX9 TX9 38, w ∈ wsX9_cOf := by decide +kernel
  refine lv_aload_n hx hb dX9_cOf_0 rfl (lv_at hl 0 rfl) ?_
  refine lv_aload_n hx hb dX9_cOf_1 rfl (lv_at hl 0 rfl) ?_
  refine lv_aload_n hx hb dX9_cOf_2 rfl (lv_at hl 0 rfl) ?_
  refine va_get (D := (dC, dI)) (ci := 11) (v := .int (st 7)) (C := RX9) (T := TX9) (N := 38) hx hb hts hin9 hown hK hP 0 rfl rfl 7 (by decide) (hts (.fieldLink RX9 76 "BlockLogModel" "area" "I") (by decide +kernel)) (fun _ h9 => h9) rfl dX9_cOf_3 ?_
  refine lv_iload_n hx hb dX9_cOf_6 rfl (lv_at hl 1 rfl) ?_
  refine vp_callSi (va_Run.run (va_runV (As := [.int (st 7), .int p0]) (rest := [.ref o]) ⟨hx, hb, hml, hown, hts⟩ (v_X9_rowPlace l dC dI o c kc st lg ai al (st 7) p0 (by omega) (by omega) (by omega) (by omega)) (cwV 2 hts gX9_cOf_X9_rowPlace rfl rfl rfl (by decide +kernel) ⟨Nat.le_of_ble_eq_true rfl, Nat.le_of_ble_eq_true rfl⟩) ⟨fun a U g mk q => by obtain ⟨q0, qP, qK⟩ := q; exact ⟨q0, qP, va_K.moved (u := U) (U := U.calling g mk a) (Vm.Alike.refl U.vm) qK⟩, va_recv hK hP (ci := 11) (q := (RX9, TX9, 38)) rfl (q0 := 0) rfl, fun U hU hW => ⟨rfl, by rw [hU]; exact hP, va_K.moved hW.alike hK⟩⟩ rfl rfl hl.1 rfl (lv_room (Nat.le_of_ble_eq_true rfl)) dX9_cOf_7 ⟨Nat.le_of_ble_eq_true rfl, Nat.le_of_ble_eq_true rfl⟩)) (fun r_1 er_1 => ?_)
  have k_2 := er_1
  refine lv_bipush (v := 9) hx hb dX9_cOf_10 (by decide) ?_
  refine lv_iadd hx hb dX9_cOf_12 ?_
  refine lv_topi (fun v_3 ev_3 => ?_)
  have rg1 := iv_rng r_1
  have hv_3 : v_3.toInt = r_1.toInt + 9 := by rw [ev_3]; exact (iv_add (by omega) (by omega)).trans (by omega)
  refine lv_bipush (v := 8) hx hb dX9_cOf_13 (by decide) ?_
  refine vp_callSl (va_Run.run (va_runV (As := [.int v_3, .int (8 : Int32)]) (rest := []) ⟨hx, hb, hml, hown, hts⟩ (v_X9_number l dC dI o c kc st lg ai al v_3 (8 : Int32) (by omega) (by omega) (by omega) (by omega)) (cwV 2 hts gX9_cOf_X9_number rfl rfl rfl (by decide +kernel) ⟨Nat.le_of_ble_eq_true rfl, Nat.le_of_ble_eq_true rfl⟩) ⟨fun a U g mk q => by obtain ⟨q0, qP, qK⟩ := q; exact ⟨q0, qP, va_K.moved (u := U) (U := U.calling g mk a) (Vm.Alike.refl U.vm) qK⟩, va_recv hK hP (ci := 11) (q := (RX9, TX9, 38)) rfl (q0 := 0) rfl, fun U hU hW => ⟨rfl, by rw [hU]; exact hP, va_K.moved hW.alike hK⟩⟩ rfl rfl hl.1 rfl (lv_room (Nat.le_of_ble_eq_true rfl)) dX9_cOf_15 ⟨Nat.le_of_ble_eq_true rfl, Nat.le_of_ble_eq_true rfl⟩)) (fun r_4 er_4 => ?_)
  have hn := er_4
  have hn : r_4 = md_num (ai 0) v_3 (8 : Int32).toNatClampNeg := hn
  exact W.lret hx hb hr (fun t ht hW => ⟨_, rfl, (by rw [hn, rpk_of (a := st 7) (r := p0) (x := v_3) (9 : Int32) (by omega) (by omega) (by omega) (by omega) (by decide) (by decide) (by rw [show (9 : Int32).toInt = 9 by decide]; omega), show (8 : Int32).toNatClampNeg = 8 by decide]; rfl), ht⟩) (fun q h => by cases h) dX9_cOf_18
