set_option maxHeartbeats 4000000 in
set_option maxRecDepth 100000 in
theorem v_X9_stateOf (l : Launch) (dC : Nat → ClassId) (dI : Nat → Nat → Nat) (o : Nat) (c : Nat → Nat) (kc : Nat → ClassId) (st : Nat → Int32) (lg : Nat → Int64) (ai : Nat → Nat → Int32) (al : Nat → Nat → Int64) (p0 : Int32) (p1 : Int32) (p2 : Int32) (hq0 : 0 ≤ p0.toInt) (hq1 : 26 ≤ p1.toInt) (hq2 : p1.toInt ≤ 32) (hq3 : p0.toInt + p1.toInt ≤ 1712160) : Met l yX9_stateOf wsX9_stateOf ({ frames := 3, cells := 0, slots := 0, locals := 66 }) (va_Pc [.ref o, .int p0, .int p1, .int p2] (fun U => va_P (dC, dI) vwCl (rw_W o c kc st lg ai al) U.heap ∧ va_K (dC, dI) vwCl (rw_T kc) U)) (vp_Si (fun r => (0 ≤ r.toInt) ∧ (r.toInt ≤ 3))) 0 0 (fun _ => False) := by
  refine Met.ofW (cc := cX9_stateOf) (maxL := 8) (ret := (some .int)) (by decide) rfl ?_
  intro p e s m args below meth cM s₁ B hml hv
  obtain ⟨rfl, hP, hK⟩ := hv
  have hx := B.exec
  have hb := B.bytes
  have hr := B.returns
  have hts := atoms_spec (ws := wsX9_stateOf) B.pre
  have hown : s.vm.findClass RX9 = some m.cls := findClass_of_methodNamed B.named
  have hl := lv_entry ([.ref o, .int p0, .int p1, .int p2]) (n := 8) (Nat.le_of_ble_eq_true rfl)
  rw [lg_entry_eq]
  generalize (lg_sl ([.ref o, .int p0, .int p1, .int p2]) ++ List.replicate (8 - (lg_sl ([.ref o, .int p0, .int p1, .int p2])).length) Slot.unset).toArray = ls at hl ⊢
  have hl : lv_has ls 8 [(0, .ref o), (1, .int p0), (2, .int p1), (3, .int p2)] := hl
  have z_0 : (0 : Int32).toInt = 0 := by decide
  have z_1 : (1 : Int32).toInt = 1 := by decide
  have z_2 : (2 : Int32).toInt = 2 := by decide
  have z_3 : (3 : Int32).toInt = 3 := by decide
  have z_8 : (8 : Int32).toInt = 8 := by decide
  have z_9 : (9 : Int32).toInt = 9 := by decide
  have z_165 : (165 : Int32).toInt = 165 := by decide
  refine lv_iconst (v := 1) hx hb dX9_stateOf_0 (by decide) ?_
  refine lv_istore (lv' := [(4, .int (1 : Int32)), (0, .ref o), (1, .int p0), (2, .int p1), (3, .int p2)]) hx hb dX9_stateOf_1 hl (by decide) rfl (fun ls hl => ?_)
  refine lv_iconst (v := 1) hx hb dX9_stateOf_3 (by decide) ?_
  refine lv_istore (lv' := [(5, .int (1 : Int32)), (4, .int (1 : Int32)), (0, .ref o), (1, .int p0), (2, .int p1), (3, .int p2)]) hx hb dX9_stateOf_4 hl (by decide) rfl (fun ls hl => ?_)
  refine lv_iconst (v := 0) hx hb dX9_stateOf_6 (by decide) ?_
  refine lv_istore (lv' := [(6, .int (0 : Int32)), (5, .int (1 : Int32)), (4, .int (1 : Int32)), (0, .ref o), (1, .int p0), (2, .int p1), (3, .int p2)]) hx hb dX9_stateOf_7 hl (by decide) rfl (fun ls hl => ?_)
  have loop9 : ∀ (n : Nat) (l6_9 : Int32) (l5_9 : Int32) (l4_9 : Int32) (ls : Array Slot), (0 ≤ l6_9.toInt) → (l6_9.toInt ≤ p1.toInt) → (0 ≤ l4_9.toInt) → (l4_9.toInt ≤ 1) → (0 ≤ l5_9.toInt) → (l5_9.toInt ≤ 1) → (p1.toInt - l6_9.toInt : Int).toNat < n → lv_has ls 8 [(6, .int l6_9), (5, .int l5_9), (4, .int l4_9), (0, .ref o), (1, .int p0), (2, .int p1), (3, .int p2)] → W p l e (headSpec wsX9_stateOf ({ frames := 3, cells := 0, slots := 0, locals := 66 })).room s m ([.ref o, .int p0, .int p1, .int p2] : List Value).toArray below meth cM s.heap [] 0 0 (MQ below (vp_Si (fun r => (0 ≤ r.toInt) ∧ (r.toInt ≤ 3))) ([.ref o, .int p0, .int p1, .int p2] : List Value).toArray s 0 0 (fun _ => False)) (F0 m 9 ls []) := by
    intro n
    induction n with
    | zero => intro l6_9 l5_9 l4_9 ls if0_9 if1_9 if2_9 if3_9 if4_9 if5_9 hm; exact absurd hm (Nat.not_lt_zero _)
    | succ n ih9 =>
      intro l6_9 l5_9 l4_9 ls if0_9 if1_9 if2_9 if3_9 if4_9 if5_9 hm9 hl
      refine lv_iload hx hb dX9_stateOf_9 (lv_at hl 0 rfl) ?_
      refine lv_iload_n hx hb dX9_stateOf_11 rfl (lv_at hl 5 rfl) ?_
      refine lv_icmp_ge (tgt := 71) hx hb dX9_stateOf_12 (by decide) (fun c_1 => ?_) (fun c_1 => ?_)
      · skip
        have ic_1 := iv_le c_1
        refine lv_iload hx hb dX9_stateOf_71 (lv_at hl 2 rfl) ?_
        refine lv_if_eq (tgt := 78) hx hb dX9_stateOf_73 (by decide) (fun c_2 => ?_) (fun c_2 => ?_)
        · skip
          have ic_2 := iv_eq c_2
          refine lv_aload_n hx hb dX9_stateOf_78 rfl (lv_at hl 3 rfl) ?_
          refine lv_iload_n hx hb dX9_stateOf_79 rfl (lv_at hl 4 rfl) ?_
          refine lv_iload_n hx hb dX9_stateOf_80 rfl (lv_at hl 5 rfl) ?_
          refine lv_iadd hx hb dX9_stateOf_81 ?_
          refine lv_topi (fun v_3 ev_3 => ?_)
          have rg1 := iv_rng p0
          have rg2 := iv_rng p1
          have hv_3 : v_3.toInt = p0.toInt + p1.toInt := by rw [ev_3]; exact (iv_add (by omega) (by omega)).trans (by omega)
          clear ev_3
          refine lv_bipush (v := 9) hx hb dX9_stateOf_82 (by decide) ?_
          refine lv_isub hx hb dX9_stateOf_84 ?_
          refine lv_topi (fun v_4 ev_4 => ?_)
          have rg3 := iv_rng v_3
          have hv_4 : v_4.toInt = v_3.toInt - 9 := by rw [ev_4]; exact (iv_sub (by omega) (by omega)).trans (by omega)
          clear ev_4
          refine lv_bipush (v := 8) hx hb dX9_stateOf_85 (by decide) ?_
          refine vp_callSl (va_Run.run (va_runV (As := [.int v_4, .int (8 : Int32)]) (rest := []) ⟨hx, hb, hml, hown, hts⟩ (v_X9_number l dC dI o c kc st lg ai al v_4 (8 : Int32) (by omega) (by omega) (by omega) (by omega)) (cwV 2 hts gX9_stateOf_X9_number rfl rfl rfl (by decide +kernel) ⟨Nat.le_of_ble_eq_true rfl, Nat.le_of_ble_eq_true rfl⟩) ⟨fun a U g mk q => by obtain ⟨q0, qP, qK⟩ := q; exact ⟨q0, qP, va_K.moved (u := U) (U := U.calling g mk a) (Vm.Alike.refl U.vm) qK⟩, va_recv hK hP (ci := 11) (q := (RX9, TX9, 38)) rfl (q0 := 0) rfl, fun U hU hW => ⟨rfl, by rw [hU]; exact hP, va_K.moved hW.alike hK⟩⟩ rfl rfl hl.1 rfl (lv_room (Nat.le_of_ble_eq_true rfl)) dX9_stateOf_87 ⟨Nat.le_of_ble_eq_true rfl, Nat.le_of_ble_eq_true rfl⟩)) (fun r_5 er_5 => ?_)
          have q_6 := er_5
          refine lv_lstore (lv' := [(6, .long r_5), (5, .int l5_9), (4, .int l4_9), (0, .ref o), (1, .int p0), (2, .int p1), (3, .int p2)]) hx hb dX9_stateOf_90 hl (by decide) rfl (fun ls hl => ?_)
          refine lv_iload_n hx hb dX9_stateOf_92 rfl (lv_at hl 6 rfl) ?_
          refine lv_iconst (v := 2) hx hb dX9_stateOf_93 (by decide) ?_
          refine lv_icmp_eq (tgt := 105) hx hb dX9_stateOf_94 (by decide) (fun c_7 => ?_) (fun c_7 => ?_)
          · skip
            have ic_7 := iv_eq c_7
            refine lv_lload hx hb dX9_stateOf_105 (lv_at hl 0 rfl) ?_
            refine lv_aload_n hx hb dX9_stateOf_107 rfl (lv_at hl 3 rfl) ?_
            refine lv_iload_n hx hb dX9_stateOf_108 rfl (lv_at hl 6 rfl) ?_
            refine lv_iload_n hx hb dX9_stateOf_109 rfl (lv_at hl 4 rfl) ?_
            refine lv_iload_n hx hb dX9_stateOf_110 rfl (lv_at hl 5 rfl) ?_
            refine lv_bipush (v := 9) hx hb dX9_stateOf_111 (by decide) ?_
            refine lv_isub hx hb dX9_stateOf_113 ?_
            refine lv_topi (fun v_8 ev_8 => ?_)
            have hv_8 : v_8.toInt = p1.toInt - 9 := by rw [ev_8]; exact (iv_sub (by omega) (by omega)).trans (by omega)
            clear ev_8
            refine vp_callSl (va_Run.run (va_runV (As := [.int p2, .int p0, .int v_8]) (rest := [.long r_5]) ⟨hx, hb, hml, hown, hts⟩ (v_X9_sumOf l dC dI o c kc st lg ai al p2 p0 v_8 (by omega) (by omega) (by omega) (by omega)) (cwV 3 hts gX9_stateOf_X9_sumOf rfl rfl rfl (by decide +kernel) ⟨Nat.le_of_ble_eq_true rfl, Nat.le_of_ble_eq_true rfl⟩) ⟨fun a U g mk q => by obtain ⟨q0, qP, qK⟩ := q; exact ⟨q0, qP, va_K.moved (u := U) (U := U.calling g mk a) (Vm.Alike.refl U.vm) qK⟩, va_recv hK hP (ci := 11) (q := (RX9, TX9, 38)) rfl (q0 := 0) rfl, fun U hU hW => ⟨rfl, by rw [hU]; exact hP, va_K.moved hW.alike hK⟩⟩ rfl rfl hl.1 rfl (lv_room (Nat.le_of_ble_eq_true rfl)) dX9_stateOf_114 ⟨Nat.le_of_ble_eq_true rfl, Nat.le_of_ble_eq_true rfl⟩)) (fun r_9 er_9 => ?_)
            refine W.lcmp hx hb dX9_stateOf_117 ?_
            refine lv_topi (fun v_10 ev_10 => ?_)
            clear ev_10
            refine lv_if_ne (tgt := 145) hx hb dX9_stateOf_118 (by decide) (fun c_11 => ?_) (fun c_11 => ?_)
            · skip
              have ic_11 := iv_ne c_11
              refine lv_aload_n hx hb dX9_stateOf_145 rfl (lv_at hl 3 rfl) ?_
              refine lv_iload_n hx hb dX9_stateOf_146 rfl (lv_at hl 4 rfl) ?_
              refine lv_iload_n hx hb dX9_stateOf_147 rfl (lv_at hl 5 rfl) ?_
              refine lv_iadd hx hb dX9_stateOf_148 ?_
              refine lv_topi (fun v_12 ev_12 => ?_)
              have hv_12 : v_12.toInt = p0.toInt + p1.toInt := by rw [ev_12]; exact (iv_add (by omega) (by omega)).trans (by omega)
              clear ev_12
              refine lv_iconst (v := 1) hx hb dX9_stateOf_149 (by decide) ?_
              refine lv_isub hx hb dX9_stateOf_150 ?_
              refine lv_topi (fun v_13 ev_13 => ?_)
              have rg4 := iv_rng v_12
              have hv_13 : v_13.toInt = v_12.toInt - 1 := by rw [ev_13]; exact (iv_sub (by omega) (by omega)).trans (by omega)
              clear ev_13
              refine vp_callSi (va_Run.run (va_runV (As := [.int v_13]) (rest := []) ⟨hx, hb, hml, hown, hts⟩ (v_X9_byteIn l dC dI o c kc st lg ai al v_13 (by omega) (by omega)) (cwV 1 hts gX9_stateOf_X9_byteIn rfl rfl rfl (by decide +kernel) ⟨Nat.le_of_ble_eq_true rfl, Nat.le_of_ble_eq_true rfl⟩) ⟨fun a U g mk q => by obtain ⟨q0, qP, qK⟩ := q; exact ⟨q0, qP, va_K.moved (u := U) (U := U.calling g mk a) (Vm.Alike.refl U.vm) qK⟩, va_recv hK hP (ci := 11) (q := (RX9, TX9, 38)) rfl (q0 := 0) rfl, fun U hU hW => ⟨rfl, by rw [hU]; exact hP, va_K.moved hW.alike hK⟩⟩ rfl rfl hl.1 rfl (lv_room (Nat.le_of_ble_eq_true rfl)) dX9_stateOf_151 ⟨Nat.le_of_ble_eq_true rfl, Nat.le_of_ble_eq_true rfl⟩)) (fun r_14 er_14 => ?_)
              obtain ⟨k_15, k_16, k_17⟩ := er_14
              have k_15 : r_14.toInt = (md_get (ai 0) v_13).toInt := k_15
              refine lv_if_eq (tgt := 162) hx hb dX9_stateOf_154 (by decide) (fun c_18 => ?_) (fun c_18 => ?_)
              · skip
                have ic_18 := iv_eq c_18
                refine lv_iconst (v := 2) hx hb dX9_stateOf_162 (by decide) ?_
                refine lv_goto (tgt := 167) hx hb dX9_stateOf_163 (by decide) ?_
                exact W.iret hx hb hr (fun t ht hW => ⟨_, rfl, ⟨(by omega), (by omega)⟩, ht⟩) (fun q h => by cases h) dX9_stateOf_167
              · skip
                have ic_18 := iv_ne c_18
                refine lv_iload hx hb dX9_stateOf_157 (lv_at hl 1 rfl) ?_
                refine lv_if_eq (tgt := 166) hx hb dX9_stateOf_159 (by decide) (fun c_19 => ?_) (fun c_19 => ?_)
                · skip
                  have ic_19 := iv_eq c_19
                  refine lv_iconst (v := 3) hx hb dX9_stateOf_166 (by decide) ?_
                  exact W.iret hx hb hr (fun t ht hW => ⟨_, rfl, ⟨(by omega), (by omega)⟩, ht⟩) (fun q h => by cases h) dX9_stateOf_167
                · skip
                  have ic_19 := iv_ne c_19
                  refine lv_iconst (v := 2) hx hb dX9_stateOf_162 (by decide) ?_
                  refine lv_goto (tgt := 167) hx hb dX9_stateOf_163 (by decide) ?_
                  exact W.iret hx hb hr (fun t ht hW => ⟨_, rfl, ⟨(by omega), (by omega)⟩, ht⟩) (fun q h => by cases h) dX9_stateOf_167
            · skip
              have ic_11 := iv_eq c_11
              refine lv_lload hx hb dX9_stateOf_121 (lv_at hl 0 rfl) ?_
              refine lv_lconst (v := 0) hx hb dX9_stateOf_123 (by decide) ?_
              refine W.lcmp hx hb dX9_stateOf_124 ?_
              refine lv_topi (fun v_20 ev_20 => ?_)
              clear ev_20
              refine lv_if_ne (tgt := 143) hx hb dX9_stateOf_125 (by decide) (fun c_21 => ?_) (fun c_21 => ?_)
              · skip
                have ic_21 := iv_ne c_21
                refine lv_iconst (v := 1) hx hb dX9_stateOf_143 (by decide) ?_
                exact W.iret hx hb hr (fun t ht hW => ⟨_, rfl, ⟨(by omega), (by omega)⟩, ht⟩) (fun q h => by cases h) dX9_stateOf_144
              · skip
                have ic_21 := iv_eq c_21
                refine lv_aload_n hx hb dX9_stateOf_128 rfl (lv_at hl 3 rfl) ?_
                refine lv_iload_n hx hb dX9_stateOf_129 rfl (lv_at hl 4 rfl) ?_
                refine lv_iload_n hx hb dX9_stateOf_130 rfl (lv_at hl 5 rfl) ?_
                refine lv_iadd hx hb dX9_stateOf_131 ?_
                refine lv_topi (fun v_22 ev_22 => ?_)
                have hv_22 : v_22.toInt = p0.toInt + p1.toInt := by rw [ev_22]; exact (iv_add (by omega) (by omega)).trans (by omega)
                clear ev_22
                refine lv_iconst (v := 1) hx hb dX9_stateOf_132 (by decide) ?_
                refine lv_isub hx hb dX9_stateOf_133 ?_
                refine lv_topi (fun v_23 ev_23 => ?_)
                have rg5 := iv_rng v_22
                have hv_23 : v_23.toInt = v_22.toInt - 1 := by rw [ev_23]; exact (iv_sub (by omega) (by omega)).trans (by omega)
                clear ev_23
                refine vp_callSi (va_Run.run (va_runV (As := [.int v_23]) (rest := []) ⟨hx, hb, hml, hown, hts⟩ (v_X9_byteIn l dC dI o c kc st lg ai al v_23 (by omega) (by omega)) (cwV 1 hts gX9_stateOf_X9_byteIn rfl rfl rfl (by decide +kernel) ⟨Nat.le_of_ble_eq_true rfl, Nat.le_of_ble_eq_true rfl⟩) ⟨fun a U g mk q => by obtain ⟨q0, qP, qK⟩ := q; exact ⟨q0, qP, va_K.moved (u := U) (U := U.calling g mk a) (Vm.Alike.refl U.vm) qK⟩, va_recv hK hP (ci := 11) (q := (RX9, TX9, 38)) rfl (q0 := 0) rfl, fun U hU hW => ⟨rfl, by rw [hU]; exact hP, va_K.moved hW.alike hK⟩⟩ rfl rfl hl.1 rfl (lv_room (Nat.le_of_ble_eq_true rfl)) dX9_stateOf_134 ⟨Nat.le_of_ble_eq_true rfl, Nat.le_of_ble_eq_true rfl⟩)) (fun r_24 er_24 => ?_)
                obtain ⟨k_25, k_26, k_27⟩ := er_24
                have k_25 : r_24.toInt = (md_get (ai 0) v_23).toInt := k_25
                refine lv_sipush (v := 165) hx hb dX9_stateOf_137 (by decide) ?_
                refine lv_icmp_ne (tgt := 145) hx hb dX9_stateOf_140 (by decide) (fun c_28 => ?_) (fun c_28 => ?_)
                · skip
                  have ic_28 := iv_ne c_28
                  refine lv_aload_n hx hb dX9_stateOf_145 rfl (lv_at hl 3 rfl) ?_
                  refine lv_iload_n hx hb dX9_stateOf_146 rfl (lv_at hl 4 rfl) ?_
                  refine lv_iload_n hx hb dX9_stateOf_147 rfl (lv_at hl 5 rfl) ?_
                  refine lv_iadd hx hb dX9_stateOf_148 ?_
                  refine lv_topi (fun v_29 ev_29 => ?_)
                  have hv_29 : v_29.toInt = p0.toInt + p1.toInt := by rw [ev_29]; exact (iv_add (by omega) (by omega)).trans (by omega)
                  clear ev_29
                  refine lv_iconst (v := 1) hx hb dX9_stateOf_149 (by decide) ?_
                  refine lv_isub hx hb dX9_stateOf_150 ?_
                  refine lv_topi (fun v_30 ev_30 => ?_)
                  have rg6 := iv_rng v_29
                  have hv_30 : v_30.toInt = v_29.toInt - 1 := by rw [ev_30]; exact (iv_sub (by omega) (by omega)).trans (by omega)
                  clear ev_30
                  refine vp_callSi (va_Run.run (va_runV (As := [.int v_30]) (rest := []) ⟨hx, hb, hml, hown, hts⟩ (v_X9_byteIn l dC dI o c kc st lg ai al v_30 (by omega) (by omega)) (cwV 1 hts gX9_stateOf_X9_byteIn rfl rfl rfl (by decide +kernel) ⟨Nat.le_of_ble_eq_true rfl, Nat.le_of_ble_eq_true rfl⟩) ⟨fun a U g mk q => by obtain ⟨q0, qP, qK⟩ := q; exact ⟨q0, qP, va_K.moved (u := U) (U := U.calling g mk a) (Vm.Alike.refl U.vm) qK⟩, va_recv hK hP (ci := 11) (q := (RX9, TX9, 38)) rfl (q0 := 0) rfl, fun U hU hW => ⟨rfl, by rw [hU]; exact hP, va_K.moved hW.alike hK⟩⟩ rfl rfl hl.1 rfl (lv_room (Nat.le_of_ble_eq_true rfl)) dX9_stateOf_151 ⟨Nat.le_of_ble_eq_true rfl, Nat.le_of_ble_eq_true rfl⟩)) (fun r_31 er_31 => ?_)
                  obtain ⟨k_32, k_33, k_34⟩ := er_31
                  have k_32 : r_31.toInt = (md_get (ai 0) v_30).toInt := k_32
                  refine lv_if_eq (tgt := 162) hx hb dX9_stateOf_154 (by decide) (fun c_35 => ?_) (fun c_35 => ?_)
                  · skip
                    have ic_35 := iv_eq c_35
                    refine lv_iconst (v := 2) hx hb dX9_stateOf_162 (by decide) ?_
                    refine lv_goto (tgt := 167) hx hb dX9_stateOf_163 (by decide) ?_
                    exact W.iret hx hb hr (fun t ht hW => ⟨_, rfl, ⟨(by omega), (by omega)⟩, ht⟩) (fun q h => by cases h) dX9_stateOf_167
                  · skip
                    have ic_35 := iv_ne c_35
                    refine lv_iload hx hb dX9_stateOf_157 (lv_at hl 1 rfl) ?_
                    refine lv_if_eq (tgt := 166) hx hb dX9_stateOf_159 (by decide) (fun c_36 => ?_) (fun c_36 => ?_)
                    · skip
                      have ic_36 := iv_eq c_36
                      refine lv_iconst (v := 3) hx hb dX9_stateOf_166 (by decide) ?_
                      exact W.iret hx hb hr (fun t ht hW => ⟨_, rfl, ⟨(by omega), (by omega)⟩, ht⟩) (fun q h => by cases h) dX9_stateOf_167
                    · skip
                      have ic_36 := iv_ne c_36
                      refine lv_iconst (v := 2) hx hb dX9_stateOf_162 (by decide) ?_
                      refine lv_goto (tgt := 167) hx hb dX9_stateOf_163 (by decide) ?_
                      exact W.iret hx hb hr (fun t ht hW => ⟨_, rfl, ⟨(by omega), (by omega)⟩, ht⟩) (fun q h => by cases h) dX9_stateOf_167
                · skip
                  have ic_28 := iv_eq c_28
                  refine lv_iconst (v := 1) hx hb dX9_stateOf_143 (by decide) ?_
                  exact W.iret hx hb hr (fun t ht hW => ⟨_, rfl, ⟨(by omega), (by omega)⟩, ht⟩) (fun q h => by cases h) dX9_stateOf_144
          · skip
            have ic_7 := iv_ne c_7
            refine lv_aload_n hx hb dX9_stateOf_97 rfl (lv_at hl 3 rfl) ?_
            refine lv_iload_n hx hb dX9_stateOf_98 rfl (lv_at hl 4 rfl) ?_
            refine vp_callSi (va_Run.run (va_runV (As := [.int p0]) (rest := []) ⟨hx, hb, hml, hown, hts⟩ (v_X9_isLeafAt l dC dI o c kc st lg ai al p0 (by omega) (by omega)) (cwV 1 hts gX9_stateOf_X9_isLeafAt rfl rfl rfl (by decide +kernel) ⟨Nat.le_of_ble_eq_true rfl, Nat.le_of_ble_eq_true rfl⟩) ⟨fun a U g mk q => by obtain ⟨q0, qP, qK⟩ := q; exact ⟨q0, qP, va_K.moved (u := U) (U := U.calling g mk a) (Vm.Alike.refl U.vm) qK⟩, va_recv hK hP (ci := 11) (q := (RX9, TX9, 38)) rfl (q0 := 0) rfl, fun U hU hW => ⟨rfl, by rw [hU]; exact hP, va_K.moved hW.alike hK⟩⟩ rfl rfl hl.1 rfl (lv_room (Nat.le_of_ble_eq_true rfl)) dX9_stateOf_99 ⟨Nat.le_of_ble_eq_true rfl, Nat.le_of_ble_eq_true rfl⟩)) (fun r_37 er_37 => ?_)
            obtain ⟨k_38, k_39⟩ := er_37
            rcases iv_01 (a := r_37) (by omega) (by omega) with b_40 | b_40
            · skip
              have ib_40 := iv_eq b_40
              rw [b_40]
              refine lv_if_eq (tgt := 145) hx hb dX9_stateOf_102 (by decide) (fun c_41 => ?_) (fun c_41 => ?_)
              · skip
                have ic_41 := iv_eq c_41
                refine lv_aload_n hx hb dX9_stateOf_145 rfl (lv_at hl 3 rfl) ?_
                refine lv_iload_n hx hb dX9_stateOf_146 rfl (lv_at hl 4 rfl) ?_
                refine lv_iload_n hx hb dX9_stateOf_147 rfl (lv_at hl 5 rfl) ?_
                refine lv_iadd hx hb dX9_stateOf_148 ?_
                refine lv_topi (fun v_42 ev_42 => ?_)
                have hv_42 : v_42.toInt = p0.toInt + p1.toInt := by rw [ev_42]; exact (iv_add (by omega) (by omega)).trans (by omega)
                clear ev_42
                refine lv_iconst (v := 1) hx hb dX9_stateOf_149 (by decide) ?_
                refine lv_isub hx hb dX9_stateOf_150 ?_
                refine lv_topi (fun v_43 ev_43 => ?_)
                have rg7 := iv_rng v_42
                have hv_43 : v_43.toInt = v_42.toInt - 1 := by rw [ev_43]; exact (iv_sub (by omega) (by omega)).trans (by omega)
                clear ev_43
                refine vp_callSi (va_Run.run (va_runV (As := [.int v_43]) (rest := []) ⟨hx, hb, hml, hown, hts⟩ (v_X9_byteIn l dC dI o c kc st lg ai al v_43 (by omega) (by omega)) (cwV 1 hts gX9_stateOf_X9_byteIn rfl rfl rfl (by decide +kernel) ⟨Nat.le_of_ble_eq_true rfl, Nat.le_of_ble_eq_true rfl⟩) ⟨fun a U g mk q => by obtain ⟨q0, qP, qK⟩ := q; exact ⟨q0, qP, va_K.moved (u := U) (U := U.calling g mk a) (Vm.Alike.refl U.vm) qK⟩, va_recv hK hP (ci := 11) (q := (RX9, TX9, 38)) rfl (q0 := 0) rfl, fun U hU hW => ⟨rfl, by rw [hU]; exact hP, va_K.moved hW.alike hK⟩⟩ rfl rfl hl.1 rfl (lv_room (Nat.le_of_ble_eq_true rfl)) dX9_stateOf_151 ⟨Nat.le_of_ble_eq_true rfl, Nat.le_of_ble_eq_true rfl⟩)) (fun r_44 er_44 => ?_)
                obtain ⟨k_45, k_46, k_47⟩ := er_44
                have k_45 : r_44.toInt = (md_get (ai 0) v_43).toInt := k_45
                refine lv_if_eq (tgt := 162) hx hb dX9_stateOf_154 (by decide) (fun c_48 => ?_) (fun c_48 => ?_)
                · skip
                  have ic_48 := iv_eq c_48
                  refine lv_iconst (v := 2) hx hb dX9_stateOf_162 (by decide) ?_
                  refine lv_goto (tgt := 167) hx hb dX9_stateOf_163 (by decide) ?_
                  exact W.iret hx hb hr (fun t ht hW => ⟨_, rfl, ⟨(by omega), (by omega)⟩, ht⟩) (fun q h => by cases h) dX9_stateOf_167
                · skip
                  have ic_48 := iv_ne c_48
                  refine lv_iload hx hb dX9_stateOf_157 (lv_at hl 1 rfl) ?_
                  refine lv_if_eq (tgt := 166) hx hb dX9_stateOf_159 (by decide) (fun c_49 => ?_) (fun c_49 => ?_)
                  · skip
                    have ic_49 := iv_eq c_49
                    refine lv_iconst (v := 3) hx hb dX9_stateOf_166 (by decide) ?_
                    exact W.iret hx hb hr (fun t ht hW => ⟨_, rfl, ⟨(by omega), (by omega)⟩, ht⟩) (fun q h => by cases h) dX9_stateOf_167
                  · skip
                    have ic_49 := iv_ne c_49
                    refine lv_iconst (v := 2) hx hb dX9_stateOf_162 (by decide) ?_
                    refine lv_goto (tgt := 167) hx hb dX9_stateOf_163 (by decide) ?_
                    exact W.iret hx hb hr (fun t ht hW => ⟨_, rfl, ⟨(by omega), (by omega)⟩, ht⟩) (fun q h => by cases h) dX9_stateOf_167
              · skip
                have ic_41 := iv_ne c_41
                exfalso
                omega
            · skip
              have ib_40 := iv_eq b_40
              rw [b_40]
              refine lv_if_eq (tgt := 145) hx hb dX9_stateOf_102 (by decide) (fun c_50 => ?_) (fun c_50 => ?_)
              · skip
                have ic_50 := iv_eq c_50
                exfalso
                omega
              · skip
                have ic_50 := iv_ne c_50
                refine lv_lload hx hb dX9_stateOf_105 (lv_at hl 0 rfl) ?_
                refine lv_aload_n hx hb dX9_stateOf_107 rfl (lv_at hl 3 rfl) ?_
                refine lv_iload_n hx hb dX9_stateOf_108 rfl (lv_at hl 6 rfl) ?_
                refine lv_iload_n hx hb dX9_stateOf_109 rfl (lv_at hl 4 rfl) ?_
                refine lv_iload_n hx hb dX9_stateOf_110 rfl (lv_at hl 5 rfl) ?_
                refine lv_bipush (v := 9) hx hb dX9_stateOf_111 (by decide) ?_
                refine lv_isub hx hb dX9_stateOf_113 ?_
                refine lv_topi (fun v_51 ev_51 => ?_)
                have hv_51 : v_51.toInt = p1.toInt - 9 := by rw [ev_51]; exact (iv_sub (by omega) (by omega)).trans (by omega)
                clear ev_51
                refine vp_callSl (va_Run.run (va_runV (As := [.int p2, .int p0, .int v_51]) (rest := [.long r_5]) ⟨hx, hb, hml, hown, hts⟩ (v_X9_sumOf l dC dI o c kc st lg ai al p2 p0 v_51 (by omega) (by omega) (by omega) (by omega)) (cwV 3 hts gX9_stateOf_X9_sumOf rfl rfl rfl (by decide +kernel) ⟨Nat.le_of_ble_eq_true rfl, Nat.le_of_ble_eq_true rfl⟩) ⟨fun a U g mk q => by obtain ⟨q0, qP, qK⟩ := q; exact ⟨q0, qP, va_K.moved (u := U) (U := U.calling g mk a) (Vm.Alike.refl U.vm) qK⟩, va_recv hK hP (ci := 11) (q := (RX9, TX9, 38)) rfl (q0 := 0) rfl, fun U hU hW => ⟨rfl, by rw [hU]; exact hP, va_K.moved hW.alike hK⟩⟩ rfl rfl hl.1 rfl (lv_room (Nat.le_of_ble_eq_true rfl)) dX9_stateOf_114 ⟨Nat.le_of_ble_eq_true rfl, Nat.le_of_ble_eq_true rfl⟩)) (fun r_52 er_52 => ?_)
                refine W.lcmp hx hb dX9_stateOf_117 ?_
                refine lv_topi (fun v_53 ev_53 => ?_)
                clear ev_53
                refine lv_if_ne (tgt := 145) hx hb dX9_stateOf_118 (by decide) (fun c_54 => ?_) (fun c_54 => ?_)
                · skip
                  have ic_54 := iv_ne c_54
                  refine lv_aload_n hx hb dX9_stateOf_145 rfl (lv_at hl 3 rfl) ?_
                  refine lv_iload_n hx hb dX9_stateOf_146 rfl (lv_at hl 4 rfl) ?_
                  refine lv_iload_n hx hb dX9_stateOf_147 rfl (lv_at hl 5 rfl) ?_
                  refine lv_iadd hx hb dX9_stateOf_148 ?_
                  refine lv_topi (fun v_55 ev_55 => ?_)
                  have hv_55 : v_55.toInt = p0.toInt + p1.toInt := by rw [ev_55]; exact (iv_add (by omega) (by omega)).trans (by omega)
                  clear ev_55
                  refine lv_iconst (v := 1) hx hb dX9_stateOf_149 (by decide) ?_
                  refine lv_isub hx hb dX9_stateOf_150 ?_
                  refine lv_topi (fun v_56 ev_56 => ?_)
                  have rg8 := iv_rng v_55
                  have hv_56 : v_56.toInt = v_55.toInt - 1 := by rw [ev_56]; exact (iv_sub (by omega) (by omega)).trans (by omega)
                  clear ev_56
                  refine vp_callSi (va_Run.run (va_runV (As := [.int v_56]) (rest := []) ⟨hx, hb, hml, hown, hts⟩ (v_X9_byteIn l dC dI o c kc st lg ai al v_56 (by omega) (by omega)) (cwV 1 hts gX9_stateOf_X9_byteIn rfl rfl rfl (by decide +kernel) ⟨Nat.le_of_ble_eq_true rfl, Nat.le_of_ble_eq_true rfl⟩) ⟨fun a U g mk q => by obtain ⟨q0, qP, qK⟩ := q; exact ⟨q0, qP, va_K.moved (u := U) (U := U.calling g mk a) (Vm.Alike.refl U.vm) qK⟩, va_recv hK hP (ci := 11) (q := (RX9, TX9, 38)) rfl (q0 := 0) rfl, fun U hU hW => ⟨rfl, by rw [hU]; exact hP, va_K.moved hW.alike hK⟩⟩ rfl rfl hl.1 rfl (lv_room (Nat.le_of_ble_eq_true rfl)) dX9_stateOf_151 ⟨Nat.le_of_ble_eq_true rfl, Nat.le_of_ble_eq_true rfl⟩)) (fun r_57 er_57 => ?_)
                  obtain ⟨k_58, k_59, k_60⟩ := er_57
                  have k_58 : r_57.toInt = (md_get (ai 0) v_56).toInt := k_58
                  refine lv_if_eq (tgt := 162) hx hb dX9_stateOf_154 (by decide) (fun c_61 => ?_) (fun c_61 => ?_)
                  · skip
                    have ic_61 := iv_eq c_61
                    refine lv_iconst (v := 2) hx hb dX9_stateOf_162 (by decide) ?_
                    refine lv_goto (tgt := 167) hx hb dX9_stateOf_163 (by decide) ?_
                    exact W.iret hx hb hr (fun t ht hW => ⟨_, rfl, ⟨(by omega), (by omega)⟩, ht⟩) (fun q h => by cases h) dX9_stateOf_167
                  · skip
                    have ic_61 := iv_ne c_61
                    refine lv_iload hx hb dX9_stateOf_157 (lv_at hl 1 rfl) ?_
                    refine lv_if_eq (tgt := 166) hx hb dX9_stateOf_159 (by decide) (fun c_62 => ?_) (fun c_62 => ?_)
                    · skip
                      have ic_62 := iv_eq c_62
                      refine lv_iconst (v := 3) hx hb dX9_stateOf_166 (by decide) ?_
                      exact W.iret hx hb hr (fun t ht hW => ⟨_, rfl, ⟨(by omega), (by omega)⟩, ht⟩) (fun q h => by cases h) dX9_stateOf_167
                    · skip
                      have ic_62 := iv_ne c_62
                      refine lv_iconst (v := 2) hx hb dX9_stateOf_162 (by decide) ?_
                      refine lv_goto (tgt := 167) hx hb dX9_stateOf_163 (by decide) ?_
                      exact W.iret hx hb hr (fun t ht hW => ⟨_, rfl, ⟨(by omega), (by omega)⟩, ht⟩) (fun q h => by cases h) dX9_stateOf_167
                · skip
                  have ic_54 := iv_eq c_54
                  refine lv_lload hx hb dX9_stateOf_121 (lv_at hl 0 rfl) ?_
                  refine lv_lconst (v := 0) hx hb dX9_stateOf_123 (by decide) ?_
                  refine W.lcmp hx hb dX9_stateOf_124 ?_
                  refine lv_topi (fun v_63 ev_63 => ?_)
                  clear ev_63
                  refine lv_if_ne (tgt := 143) hx hb dX9_stateOf_125 (by decide) (fun c_64 => ?_) (fun c_64 => ?_)
                  · skip
                    have ic_64 := iv_ne c_64
                    refine lv_iconst (v := 1) hx hb dX9_stateOf_143 (by decide) ?_
                    exact W.iret hx hb hr (fun t ht hW => ⟨_, rfl, ⟨(by omega), (by omega)⟩, ht⟩) (fun q h => by cases h) dX9_stateOf_144
                  · skip
                    have ic_64 := iv_eq c_64
                    refine lv_aload_n hx hb dX9_stateOf_128 rfl (lv_at hl 3 rfl) ?_
                    refine lv_iload_n hx hb dX9_stateOf_129 rfl (lv_at hl 4 rfl) ?_
                    refine lv_iload_n hx hb dX9_stateOf_130 rfl (lv_at hl 5 rfl) ?_
                    refine lv_iadd hx hb dX9_stateOf_131 ?_
                    refine lv_topi (fun v_65 ev_65 => ?_)
                    have hv_65 : v_65.toInt = p0.toInt + p1.toInt := by rw [ev_65]; exact (iv_add (by omega) (by omega)).trans (by omega)
                    clear ev_65
                    refine lv_iconst (v := 1) hx hb dX9_stateOf_132 (by decide) ?_
                    refine lv_isub hx hb dX9_stateOf_133 ?_
                    refine lv_topi (fun v_66 ev_66 => ?_)
                    have rg9 := iv_rng v_65
                    have hv_66 : v_66.toInt = v_65.toInt - 1 := by rw [ev_66]; exact (iv_sub (by omega) (by omega)).trans (by omega)
                    clear ev_66
                    refine vp_callSi (va_Run.run (va_runV (As := [.int v_66]) (rest := []) ⟨hx, hb, hml, hown, hts⟩ (v_X9_byteIn l dC dI o c kc st lg ai al v_66 (by omega) (by omega)) (cwV 1 hts gX9_stateOf_X9_byteIn rfl rfl rfl (by decide +kernel) ⟨Nat.le_of_ble_eq_true rfl, Nat.le_of_ble_eq_true rfl⟩) ⟨fun a U g mk q => by obtain ⟨q0, qP, qK⟩ := q; exact ⟨q0, qP, va_K.moved (u := U) (U := U.calling g mk a) (Vm.Alike.refl U.vm) qK⟩, va_recv hK hP (ci := 11) (q := (RX9, TX9, 38)) rfl (q0 := 0) rfl, fun U hU hW => ⟨rfl, by rw [hU]; exact hP, va_K.moved hW.alike hK⟩⟩ rfl rfl hl.1 rfl (lv_room (Nat.le_of_ble_eq_true rfl)) dX9_stateOf_134 ⟨Nat.le_of_ble_eq_true rfl, Nat.le_of_ble_eq_true rfl⟩)) (fun r_67 er_67 => ?_)
                    obtain ⟨k_68, k_69, k_70⟩ := er_67
                    have k_68 : r_67.toInt = (md_get (ai 0) v_66).toInt := k_68
                    refine lv_sipush (v := 165) hx hb dX9_stateOf_137 (by decide) ?_
                    refine lv_icmp_ne (tgt := 145) hx hb dX9_stateOf_140 (by decide) (fun c_71 => ?_) (fun c_71 => ?_)
                    · skip
                      have ic_71 := iv_ne c_71
                      refine lv_aload_n hx hb dX9_stateOf_145 rfl (lv_at hl 3 rfl) ?_
                      refine lv_iload_n hx hb dX9_stateOf_146 rfl (lv_at hl 4 rfl) ?_
                      refine lv_iload_n hx hb dX9_stateOf_147 rfl (lv_at hl 5 rfl) ?_
                      refine lv_iadd hx hb dX9_stateOf_148 ?_
                      refine lv_topi (fun v_72 ev_72 => ?_)
                      have hv_72 : v_72.toInt = p0.toInt + p1.toInt := by rw [ev_72]; exact (iv_add (by omega) (by omega)).trans (by omega)
                      clear ev_72
                      refine lv_iconst (v := 1) hx hb dX9_stateOf_149 (by decide) ?_
                      refine lv_isub hx hb dX9_stateOf_150 ?_
                      refine lv_topi (fun v_73 ev_73 => ?_)
                      have rg10 := iv_rng v_72
                      have hv_73 : v_73.toInt = v_72.toInt - 1 := by rw [ev_73]; exact (iv_sub (by omega) (by omega)).trans (by omega)
                      clear ev_73
                      refine vp_callSi (va_Run.run (va_runV (As := [.int v_73]) (rest := []) ⟨hx, hb, hml, hown, hts⟩ (v_X9_byteIn l dC dI o c kc st lg ai al v_73 (by omega) (by omega)) (cwV 1 hts gX9_stateOf_X9_byteIn rfl rfl rfl (by decide +kernel) ⟨Nat.le_of_ble_eq_true rfl, Nat.le_of_ble_eq_true rfl⟩) ⟨fun a U g mk q => by obtain ⟨q0, qP, qK⟩ := q; exact ⟨q0, qP, va_K.moved (u := U) (U := U.calling g mk a) (Vm.Alike.refl U.vm) qK⟩, va_recv hK hP (ci := 11) (q := (RX9, TX9, 38)) rfl (q0 := 0) rfl, fun U hU hW => ⟨rfl, by rw [hU]; exact hP, va_K.moved hW.alike hK⟩⟩ rfl rfl hl.1 rfl (lv_room (Nat.le_of_ble_eq_true rfl)) dX9_stateOf_151 ⟨Nat.le_of_ble_eq_true rfl, Nat.le_of_ble_eq_true rfl⟩)) (fun r_74 er_74 => ?_)
                      obtain ⟨k_75, k_76, k_77⟩ := er_74
                      have k_75 : r_74.toInt = (md_get (ai 0) v_73).toInt := k_75
                      refine lv_if_eq (tgt := 162) hx hb dX9_stateOf_154 (by decide) (fun c_78 => ?_) (fun c_78 => ?_)
                      · skip
                        have ic_78 := iv_eq c_78
                        refine lv_iconst (v := 2) hx hb dX9_stateOf_162 (by decide) ?_
                        refine lv_goto (tgt := 167) hx hb dX9_stateOf_163 (by decide) ?_
                        exact W.iret hx hb hr (fun t ht hW => ⟨_, rfl, ⟨(by omega), (by omega)⟩, ht⟩) (fun q h => by cases h) dX9_stateOf_167
                      · skip
                        have ic_78 := iv_ne c_78
                        refine lv_iload hx hb dX9_stateOf_157 (lv_at hl 1 rfl) ?_
                        refine lv_if_eq (tgt := 166) hx hb dX9_stateOf_159 (by decide) (fun c_79 => ?_) (fun c_79 => ?_)
                        · skip
                          have ic_79 := iv_eq c_79
                          refine lv_iconst (v := 3) hx hb dX9_stateOf_166 (by decide) ?_
                          exact W.iret hx hb hr (fun t ht hW => ⟨_, rfl, ⟨(by omega), (by omega)⟩, ht⟩) (fun q h => by cases h) dX9_stateOf_167
                        · skip
                          have ic_79 := iv_ne c_79
                          refine lv_iconst (v := 2) hx hb dX9_stateOf_162 (by decide) ?_
                          refine lv_goto (tgt := 167) hx hb dX9_stateOf_163 (by decide) ?_
                          exact W.iret hx hb hr (fun t ht hW => ⟨_, rfl, ⟨(by omega), (by omega)⟩, ht⟩) (fun q h => by cases h) dX9_stateOf_167
                    · skip
                      have ic_71 := iv_eq c_71
                      refine lv_iconst (v := 1) hx hb dX9_stateOf_143 (by decide) ?_
                      exact W.iret hx hb hr (fun t ht hW => ⟨_, rfl, ⟨(by omega), (by omega)⟩, ht⟩) (fun q h => by cases h) dX9_stateOf_144
        · skip
          have ic_2 := iv_ne c_2
          refine lv_iconst (v := 0) hx hb dX9_stateOf_76 (by decide) ?_
          exact W.iret hx hb hr (fun t ht hW => ⟨_, rfl, ⟨(by omega), (by omega)⟩, ht⟩) (fun q h => by cases h) dX9_stateOf_77
      · skip
        have ic_1 := iv_nle c_1
        refine lv_iload hx hb dX9_stateOf_15 (lv_at hl 2 rfl) ?_
        refine lv_aload_n hx hb dX9_stateOf_17 rfl (lv_at hl 3 rfl) ?_
        refine lv_iload_n hx hb dX9_stateOf_18 rfl (lv_at hl 4 rfl) ?_
        refine lv_iload hx hb dX9_stateOf_19 (lv_at hl 0 rfl) ?_
        refine lv_iadd hx hb dX9_stateOf_21 ?_
        refine lv_topi (fun v_80 ev_80 => ?_)
        have rg11 := iv_rng p0
        have rg12 := iv_rng l6_9
        have hv_80 : v_80.toInt = p0.toInt + l6_9.toInt := by rw [ev_80]; exact (iv_add (by omega) (by omega)).trans (by omega)
        clear ev_80
        refine vp_callSi (va_Run.run (va_runV (As := [.int v_80]) (rest := [.int l4_9]) ⟨hx, hb, hml, hown, hts⟩ (v_X9_byteIn l dC dI o c kc st lg ai al v_80 (by omega) (by omega)) (cwV 1 hts gX9_stateOf_X9_byteIn rfl rfl rfl (by decide +kernel) ⟨Nat.le_of_ble_eq_true rfl, Nat.le_of_ble_eq_true rfl⟩) ⟨fun a U g mk q => by obtain ⟨q0, qP, qK⟩ := q; exact ⟨q0, qP, va_K.moved (u := U) (U := U.calling g mk a) (Vm.Alike.refl U.vm) qK⟩, va_recv hK hP (ci := 11) (q := (RX9, TX9, 38)) rfl (q0 := 0) rfl, fun U hU hW => ⟨rfl, by rw [hU]; exact hP, va_K.moved hW.alike hK⟩⟩ rfl rfl hl.1 rfl (lv_room (Nat.le_of_ble_eq_true rfl)) dX9_stateOf_22 ⟨Nat.le_of_ble_eq_true rfl, Nat.le_of_ble_eq_true rfl⟩)) (fun r_81 er_81 => ?_)
        obtain ⟨k_82, k_83, k_84⟩ := er_81
        have k_82 : r_81.toInt = (md_get (ai 0) v_80).toInt := k_82
        refine lv_if_ne (tgt := 32) hx hb dX9_stateOf_25 (by decide) (fun c_85 => ?_) (fun c_85 => ?_)
        · skip
          have ic_85 := iv_ne c_85
          refine lv_iconst (v := 0) hx hb dX9_stateOf_32 (by decide) ?_
          refine lv_iand hx hb dX9_stateOf_33 ?_
          refine lv_topi (fun v_86 ev_86 => ?_)
          have hv_86 : 0 ≤ v_86.toInt ∧ v_86.toInt ≤ 1 := by rw [ev_86]; exact iv_and01 (by omega) (by omega) (by omega) (by omega)
          clear ev_86
          refine lv_istore (lv' := [(4, .int v_86), (6, .int l6_9), (5, .int l5_9), (0, .ref o), (1, .int p0), (2, .int p1), (3, .int p2)]) hx hb dX9_stateOf_34 hl (by decide) rfl (fun ls hl => ?_)
          refine lv_iload hx hb dX9_stateOf_36 (lv_at hl 2 rfl) ?_
          refine lv_iload hx hb dX9_stateOf_38 (lv_at hl 1 rfl) ?_
          refine lv_iload_n hx hb dX9_stateOf_40 rfl (lv_at hl 5 rfl) ?_
          refine lv_iconst (v := 1) hx hb dX9_stateOf_41 (by decide) ?_
          refine lv_isub hx hb dX9_stateOf_42 ?_
          refine lv_topi (fun v_87 ev_87 => ?_)
          have rg13 := iv_rng p1
          have hv_87 : v_87.toInt = p1.toInt - 1 := by rw [ev_87]; exact (iv_sub (by omega) (by omega)).trans (by omega)
          clear ev_87
          refine lv_icmp_eq (tgt := 57) hx hb dX9_stateOf_43 (by decide) (fun c_88 => ?_) (fun c_88 => ?_)
          · skip
            have ic_88 := iv_eq c_88
            refine lv_iconst (v := 1) hx hb dX9_stateOf_57 (by decide) ?_
            refine lv_goto (tgt := 62) hx hb dX9_stateOf_58 (by decide) ?_
            refine lv_iand hx hb dX9_stateOf_62 ?_
            refine lv_topi (fun v_89 ev_89 => ?_)
            have hv_89 : 0 ≤ v_89.toInt ∧ v_89.toInt ≤ 1 := by rw [ev_89]; exact iv_and01 (by omega) (by omega) (by omega) (by omega)
            clear ev_89
            refine lv_istore (lv' := [(5, .int v_89), (4, .int v_86), (6, .int l6_9), (0, .ref o), (1, .int p0), (2, .int p1), (3, .int p2)]) hx hb dX9_stateOf_63 hl (by decide) rfl (fun ls hl => ?_)
            obtain ⟨x_90, ex_90⟩ : ∃ z : Int32, z = l6_9 + (1) := ⟨_, rfl⟩
            refine lv_iinc (v := x_90) (lv' := [(6, .int x_90), (5, .int v_89), (4, .int v_86), (0, .ref o), (1, .int p0), (2, .int p1), (3, .int p2)]) hx hb dX9_stateOf_65 hl (k := 2) rfl (by rw [ex_90]; rfl) (by decide) rfl (fun ls hl => ?_)
            have hx_90 : x_90.toInt = l6_9.toInt + (1) := by rw [ex_90]; exact (iv_add (by omega) (by omega)).trans (by omega)
            clear ex_90
            refine lv_goto (tgt := 9) hx hb dX9_stateOf_68 (by decide) ?_
            exact ih9 x_90 v_89 v_86 _ (by omega) (by omega) (by omega) (by omega) (by omega) (by omega) (by omega) (lv_sub hl [0, 1, 2, 3, 4, 5, 6] rfl)
          · skip
            have ic_88 := iv_ne c_88
            refine lv_aload_n hx hb dX9_stateOf_46 rfl (lv_at hl 3 rfl) ?_
            refine lv_iload_n hx hb dX9_stateOf_47 rfl (lv_at hl 4 rfl) ?_
            refine lv_iload hx hb dX9_stateOf_48 (lv_at hl 1 rfl) ?_
            refine lv_iadd hx hb dX9_stateOf_50 ?_
            refine lv_topi (fun v_91 ev_91 => ?_)
            have hv_91 : v_91.toInt = p0.toInt + l6_9.toInt := by rw [ev_91]; exact (iv_add (by omega) (by omega)).trans (by omega)
            clear ev_91
            refine vp_callSi (va_Run.run (va_runV (As := [.int v_91]) (rest := [.int l5_9]) ⟨hx, hb, hml, hown, hts⟩ (v_X9_byteIn l dC dI o c kc st lg ai al v_91 (by omega) (by omega)) (cwV 1 hts gX9_stateOf_X9_byteIn rfl rfl rfl (by decide +kernel) ⟨Nat.le_of_ble_eq_true rfl, Nat.le_of_ble_eq_true rfl⟩) ⟨fun a U g mk q => by obtain ⟨q0, qP, qK⟩ := q; exact ⟨q0, qP, va_K.moved (u := U) (U := U.calling g mk a) (Vm.Alike.refl U.vm) qK⟩, va_recv hK hP (ci := 11) (q := (RX9, TX9, 38)) rfl (q0 := 0) rfl, fun U hU hW => ⟨rfl, by rw [hU]; exact hP, va_K.moved hW.alike hK⟩⟩ rfl rfl hl.1 rfl (lv_room (Nat.le_of_ble_eq_true rfl)) dX9_stateOf_51 ⟨Nat.le_of_ble_eq_true rfl, Nat.le_of_ble_eq_true rfl⟩)) (fun r_92 er_92 => ?_)
            obtain ⟨k_93, k_94, k_95⟩ := er_92
            have k_93 : r_92.toInt = (md_get (ai 0) v_91).toInt := k_93
            refine lv_if_ne (tgt := 61) hx hb dX9_stateOf_54 (by decide) (fun c_96 => ?_) (fun c_96 => ?_)
            · skip
              have ic_96 := iv_ne c_96
              refine lv_iconst (v := 0) hx hb dX9_stateOf_61 (by decide) ?_
              refine lv_iand hx hb dX9_stateOf_62 ?_
              refine lv_topi (fun v_97 ev_97 => ?_)
              have hv_97 : 0 ≤ v_97.toInt ∧ v_97.toInt ≤ 1 := by rw [ev_97]; exact iv_and01 (by omega) (by omega) (by omega) (by omega)
              clear ev_97
              refine lv_istore (lv' := [(5, .int v_97), (4, .int v_86), (6, .int l6_9), (0, .ref o), (1, .int p0), (2, .int p1), (3, .int p2)]) hx hb dX9_stateOf_63 hl (by decide) rfl (fun ls hl => ?_)
              obtain ⟨x_98, ex_98⟩ : ∃ z : Int32, z = l6_9 + (1) := ⟨_, rfl⟩
              refine lv_iinc (v := x_98) (lv' := [(6, .int x_98), (5, .int v_97), (4, .int v_86), (0, .ref o), (1, .int p0), (2, .int p1), (3, .int p2)]) hx hb dX9_stateOf_65 hl (k := 2) rfl (by rw [ex_98]; rfl) (by decide) rfl (fun ls hl => ?_)
              have hx_98 : x_98.toInt = l6_9.toInt + (1) := by rw [ex_98]; exact (iv_add (by omega) (by omega)).trans (by omega)
              clear ex_98
              refine lv_goto (tgt := 9) hx hb dX9_stateOf_68 (by decide) ?_
              exact ih9 x_98 v_97 v_86 _ (by omega) (by omega) (by omega) (by omega) (by omega) (by omega) (by omega) (lv_sub hl [0, 1, 2, 3, 4, 5, 6] rfl)
            · skip
              have ic_96 := iv_eq c_96
              refine lv_iconst (v := 1) hx hb dX9_stateOf_57 (by decide) ?_
              refine lv_goto (tgt := 62) hx hb dX9_stateOf_58 (by decide) ?_
              refine lv_iand hx hb dX9_stateOf_62 ?_
              refine lv_topi (fun v_99 ev_99 => ?_)
              have hv_99 : 0 ≤ v_99.toInt ∧ v_99.toInt ≤ 1 := by rw [ev_99]; exact iv_and01 (by omega) (by omega) (by omega) (by omega)
              clear ev_99
              refine lv_istore (lv' := [(5, .int v_99), (4, .int v_86), (6, .int l6_9), (0, .ref o), (1, .int p0), (2, .int p1), (3, .int p2)]) hx hb dX9_stateOf_63 hl (by decide) rfl (fun ls hl => ?_)
              obtain ⟨x_100, ex_100⟩ : ∃ z : Int32, z = l6_9 + (1) := ⟨_, rfl⟩
              refine lv_iinc (v := x_100) (lv' := [(6, .int x_100), (5, .int v_99), (4, .int v_86), (0, .ref o), (1, .int p0), (2, .int p1), (3, .int p2)]) hx hb dX9_stateOf_65 hl (k := 2) rfl (by rw [ex_100]; rfl) (by decide) rfl (fun ls hl => ?_)
              have hx_100 : x_100.toInt = l6_9.toInt + (1) := by rw [ex_100]; exact (iv_add (by omega) (by omega)).trans (by omega)
              clear ex_100
              refine lv_goto (tgt := 9) hx hb dX9_stateOf_68 (by decide) ?_
              exact ih9 x_100 v_99 v_86 _ (by omega) (by omega) (by omega) (by omega) (by omega) (by omega) (by omega) (lv_sub hl [0, 1, 2, 3, 4, 5, 6] rfl)
        · skip
          have ic_85 := iv_eq c_85
          refine lv_iconst (v := 1) hx hb dX9_stateOf_28 (by decide) ?_
          refine lv_goto (tgt := 33) hx hb dX9_stateOf_29 (by decide) ?_
          refine lv_iand hx hb dX9_stateOf_33 ?_
          refine lv_topi (fun v_101 ev_101 => ?_)
          have hv_101 : 0 ≤ v_101.toInt ∧ v_101.toInt ≤ 1 := by rw [ev_101]; exact iv_and01 (by omega) (by omega) (by omega) (by omega)
          clear ev_101
          refine lv_istore (lv' := [(4, .int v_101), (6, .int l6_9), (5, .int l5_9), (0, .ref o), (1, .int p0), (2, .int p1), (3, .int p2)]) hx hb dX9_stateOf_34 hl (by decide) rfl (fun ls hl => ?_)
          refine lv_iload hx hb dX9_stateOf_36 (lv_at hl 2 rfl) ?_
          refine lv_iload hx hb dX9_stateOf_38 (lv_at hl 1 rfl) ?_
          refine lv_iload_n hx hb dX9_stateOf_40 rfl (lv_at hl 5 rfl) ?_
          refine lv_iconst (v := 1) hx hb dX9_stateOf_41 (by decide) ?_
          refine lv_isub hx hb dX9_stateOf_42 ?_
          refine lv_topi (fun v_102 ev_102 => ?_)
          have rg14 := iv_rng p1
          have hv_102 : v_102.toInt = p1.toInt - 1 := by rw [ev_102]; exact (iv_sub (by omega) (by omega)).trans (by omega)
          clear ev_102
          refine lv_icmp_eq (tgt := 57) hx hb dX9_stateOf_43 (by decide) (fun c_103 => ?_) (fun c_103 => ?_)
          · skip
            have ic_103 := iv_eq c_103
            refine lv_iconst (v := 1) hx hb dX9_stateOf_57 (by decide) ?_
            refine lv_goto (tgt := 62) hx hb dX9_stateOf_58 (by decide) ?_
            refine lv_iand hx hb dX9_stateOf_62 ?_
            refine lv_topi (fun v_104 ev_104 => ?_)
            have hv_104 : 0 ≤ v_104.toInt ∧ v_104.toInt ≤ 1 := by rw [ev_104]; exact iv_and01 (by omega) (by omega) (by omega) (by omega)
            clear ev_104
            refine lv_istore (lv' := [(5, .int v_104), (4, .int v_101), (6, .int l6_9), (0, .ref o), (1, .int p0), (2, .int p1), (3, .int p2)]) hx hb dX9_stateOf_63 hl (by decide) rfl (fun ls hl => ?_)
            obtain ⟨x_105, ex_105⟩ : ∃ z : Int32, z = l6_9 + (1) := ⟨_, rfl⟩
            refine lv_iinc (v := x_105) (lv' := [(6, .int x_105), (5, .int v_104), (4, .int v_101), (0, .ref o), (1, .int p0), (2, .int p1), (3, .int p2)]) hx hb dX9_stateOf_65 hl (k := 2) rfl (by rw [ex_105]; rfl) (by decide) rfl (fun ls hl => ?_)
            have hx_105 : x_105.toInt = l6_9.toInt + (1) := by rw [ex_105]; exact (iv_add (by omega) (by omega)).trans (by omega)
            clear ex_105
            refine lv_goto (tgt := 9) hx hb dX9_stateOf_68 (by decide) ?_
            exact ih9 x_105 v_104 v_101 _ (by omega) (by omega) (by omega) (by omega) (by omega) (by omega) (by omega) (lv_sub hl [0, 1, 2, 3, 4, 5, 6] rfl)
          · skip
            have ic_103 := iv_ne c_103
            refine lv_aload_n hx hb dX9_stateOf_46 rfl (lv_at hl 3 rfl) ?_
            refine lv_iload_n hx hb dX9_stateOf_47 rfl (lv_at hl 4 rfl) ?_
            refine lv_iload hx hb dX9_stateOf_48 (lv_at hl 1 rfl) ?_
            refine lv_iadd hx hb dX9_stateOf_50 ?_
            refine lv_topi (fun v_106 ev_106 => ?_)
            have hv_106 : v_106.toInt = p0.toInt + l6_9.toInt := by rw [ev_106]; exact (iv_add (by omega) (by omega)).trans (by omega)
            clear ev_106
            refine vp_callSi (va_Run.run (va_runV (As := [.int v_106]) (rest := [.int l5_9]) ⟨hx, hb, hml, hown, hts⟩ (v_X9_byteIn l dC dI o c kc st lg ai al v_106 (by omega) (by omega)) (cwV 1 hts gX9_stateOf_X9_byteIn rfl rfl rfl (by decide +kernel) ⟨Nat.le_of_ble_eq_true rfl, Nat.le_of_ble_eq_true rfl⟩) ⟨fun a U g mk q => by obtain ⟨q0, qP, qK⟩ := q; exact ⟨q0, qP, va_K.moved (u := U) (U := U.calling g mk a) (Vm.Alike.refl U.vm) qK⟩, va_recv hK hP (ci := 11) (q := (RX9, TX9, 38)) rfl (q0 := 0) rfl, fun U hU hW => ⟨rfl, by rw [hU]; exact hP, va_K.moved hW.alike hK⟩⟩ rfl rfl hl.1 rfl (lv_room (Nat.le_of_ble_eq_true rfl)) dX9_stateOf_51 ⟨Nat.le_of_ble_eq_true rfl, Nat.le_of_ble_eq_true rfl⟩)) (fun r_107 er_107 => ?_)
            obtain ⟨k_108, k_109, k_110⟩ := er_107
            have k_108 : r_107.toInt = (md_get (ai 0) v_106).toInt := k_108
            refine lv_if_ne (tgt := 61) hx hb dX9_stateOf_54 (by decide) (fun c_111 => ?_) (fun c_111 => ?_)
            · skip
              have ic_111 := iv_ne c_111
              refine lv_iconst (v := 0) hx hb dX9_stateOf_61 (by decide) ?_
              refine lv_iand hx hb dX9_stateOf_62 ?_
              refine lv_topi (fun v_112 ev_112 => ?_)
              have hv_112 : 0 ≤ v_112.toInt ∧ v_112.toInt ≤ 1 := by rw [ev_112]; exact iv_and01 (by omega) (by omega) (by omega) (by omega)
              clear ev_112
              refine lv_istore (lv' := [(5, .int v_112), (4, .int v_101), (6, .int l6_9), (0, .ref o), (1, .int p0), (2, .int p1), (3, .int p2)]) hx hb dX9_stateOf_63 hl (by decide) rfl (fun ls hl => ?_)
              obtain ⟨x_113, ex_113⟩ : ∃ z : Int32, z = l6_9 + (1) := ⟨_, rfl⟩
              refine lv_iinc (v := x_113) (lv' := [(6, .int x_113), (5, .int v_112), (4, .int v_101), (0, .ref o), (1, .int p0), (2, .int p1), (3, .int p2)]) hx hb dX9_stateOf_65 hl (k := 2) rfl (by rw [ex_113]; rfl) (by decide) rfl (fun ls hl => ?_)
              have hx_113 : x_113.toInt = l6_9.toInt + (1) := by rw [ex_113]; exact (iv_add (by omega) (by omega)).trans (by omega)
              clear ex_113
              refine lv_goto (tgt := 9) hx hb dX9_stateOf_68 (by decide) ?_
              exact ih9 x_113 v_112 v_101 _ (by omega) (by omega) (by omega) (by omega) (by omega) (by omega) (by omega) (lv_sub hl [0, 1, 2, 3, 4, 5, 6] rfl)
            · skip
              have ic_111 := iv_eq c_111
              refine lv_iconst (v := 1) hx hb dX9_stateOf_57 (by decide) ?_
              refine lv_goto (tgt := 62) hx hb dX9_stateOf_58 (by decide) ?_
              refine lv_iand hx hb dX9_stateOf_62 ?_
              refine lv_topi (fun v_114 ev_114 => ?_)
              have hv_114 : 0 ≤ v_114.toInt ∧ v_114.toInt ≤ 1 := by rw [ev_114]; exact iv_and01 (by omega) (by omega) (by omega) (by omega)
              clear ev_114
              refine lv_istore (lv' := [(5, .int v_114), (4, .int v_101), (6, .int l6_9), (0, .ref o), (1, .int p0), (2, .int p1), (3, .int p2)]) hx hb dX9_stateOf_63 hl (by decide) rfl (fun ls hl => ?_)
              obtain ⟨x_115, ex_115⟩ : ∃ z : Int32, z = l6_9 + (1) := ⟨_, rfl⟩
              refine lv_iinc (v := x_115) (lv' := [(6, .int x_115), (5, .int v_114), (4, .int v_101), (0, .ref o), (1, .int p0), (2, .int p1), (3, .int p2)]) hx hb dX9_stateOf_65 hl (k := 2) rfl (by rw [ex_115]; rfl) (by decide) rfl (fun ls hl => ?_)
              have hx_115 : x_115.toInt = l6_9.toInt + (1) := by rw [ex_115]; exact (iv_add (by omega) (by omega)).trans (by omega)
              clear ex_115
              refine lv_goto (tgt := 9) hx hb dX9_stateOf_68 (by decide) ?_
              exact ih9 x_115 v_114 v_101 _ (by omega) (by omega) (by omega) (by omega) (by omega) (by omega) (by omega) (lv_sub hl [0, 1, 2, 3, 4, 5, 6] rfl)
  exact loop9 ((p1.toInt - 0 : Int).toNat + 1) (0 : Int32) (1 : Int32) (1 : Int32) _ (by omega) (by omega) (by omega) (by omega) (by omega) (by omega) (by omega) (lv_sub hl [0, 1, 2, 3, 4, 5, 6] rfl)

set_option maxHeartbeats 4000000 in
set_option maxRecDepth 100000 in
theorem v_X9_rowState (l : Launch) (dC : Nat → ClassId) (dI : Nat → Nat → Nat) (o : Nat) (c : Nat → Nat) (kc : Nat → ClassId) (st : Nat → Int32) (lg : Nat → Int64) (ai : Nat → Nat → Int32) (al : Nat → Nat → Int64) (p0 : Int32) (hf7a : 0 ≤ (st 7).toInt) (hf7b : (st 7).toInt ≤ 1) (hq0 : 0 ≤ p0.toInt) (hq1 : p0.toInt ≤ 127) : Met l yX9_rowState wsX9_rowState ({ frames := 4, cells := 0, slots := 0, locals := 93 }) (va_Pc [.ref o, .int p0] (fun U => va_P (dC, dI) vwCl (rw_W o c kc st lg ai al) U.heap ∧ va_K (dC, dI) vwCl (rw_T kc) U)) (vp_Si (fun r => (0 ≤ r.toInt) ∧ (r.toInt ≤ 3))) 0 0 (fun _ => False) := by
  refine Met.ofW (cc := cX9_rowState) (maxL := 2) (ret := (some .int)) (by decide) rfl ?_
  intro p e s m args below meth cM s₁ B hml hv
  obtain ⟨rfl, hP, hK⟩ := hv
  have hx := B.exec
  have hb := B.bytes
  have hr := B.returns
  have hts := atoms_spec (ws := wsX9_rowState) B.pre
  have hown : s.vm.findClass RX9 = some m.cls := findClass_of_methodNamed B.named
  have hl := lv_entry ([.ref o, .int p0]) (n := 2) (Nat.le_of_ble_eq_true rfl)
  rw [lg_entry_eq]
  generalize (lg_sl ([.ref o, .int p0]) ++ List.replicate (2 - (lg_sl ([.ref o, .int p0])).length) Slot.unset).toArray = ls at hl ⊢
  have hl : lv_has ls 2 [(0, .ref o), (1, .int p0)] := hl
  have z_2 : (2 : Int32).toInt = 2 := by decide
  have z_32 : (32 : Int32).toInt = 32 := by decide
  have hin9 : ∀ w ∈ u_ws RX9 TX9 38, w ∈ wsX9_rowState := by decide +kernel
  refine lv_aload_n hx hb dX9_rowState_0 rfl (lv_at hl 0 rfl) ?_
  refine lv_aload_n hx hb dX9_rowState_1 rfl (lv_at hl 0 rfl) ?_
  refine lv_aload_n hx hb dX9_rowState_2 rfl (lv_at hl 0 rfl) ?_
  refine va_get (D := (dC, dI)) (ci := 11) (v := .int (st 7)) (C := RX9) (T := TX9) (N := 38) hx hb hts hin9 hown hK hP 0 rfl rfl 7 (by decide) (hts (.fieldLink RX9 76 "BlockLogModel" "area" "I") (by decide +kernel)) (fun _ h9 => h9) rfl dX9_rowState_3 ?_
  refine lv_iload_n hx hb dX9_rowState_6 rfl (lv_at hl 1 rfl) ?_
  refine vp_callSi (va_Run.run (va_runV (As := [.int (st 7), .int p0]) (rest := [.ref o]) ⟨hx, hb, hml, hown, hts⟩ (v_X9_rowPlace l dC dI o c kc st lg ai al (st 7) p0 (by omega) (by omega) (by omega) (by omega)) (cwV 2 hts gX9_rowState_X9_rowPlace rfl rfl rfl (by decide +kernel) ⟨Nat.le_of_ble_eq_true rfl, Nat.le_of_ble_eq_true rfl⟩) ⟨fun a U g mk q => by obtain ⟨q0, qP, qK⟩ := q; exact ⟨q0, qP, va_K.moved (u := U) (U := U.calling g mk a) (Vm.Alike.refl U.vm) qK⟩, va_recv hK hP (ci := 11) (q := (RX9, TX9, 38)) rfl (q0 := 0) rfl, fun U hU hW => ⟨rfl, by rw [hU]; exact hP, va_K.moved hW.alike hK⟩⟩ rfl rfl hl.1 rfl (lv_room (Nat.le_of_ble_eq_true rfl)) dX9_rowState_7 ⟨Nat.le_of_ble_eq_true rfl, Nat.le_of_ble_eq_true rfl⟩)) (fun r_1 er_1 => ?_)
  have k_2 := er_1
  refine lv_bipush (v := 32) hx hb dX9_rowState_10 (by decide) ?_
  refine lv_iconst (v := 2) hx hb dX9_rowState_12 (by decide) ?_
  refine vp_callSi (va_Run.run (va_runV (As := [.int r_1, .int (32 : Int32), .int (2 : Int32)]) (rest := []) ⟨hx, hb, hml, hown, hts⟩ (v_X9_stateOf l dC dI o c kc st lg ai al r_1 (32 : Int32) (2 : Int32) (by omega) (by omega) (by omega) (by omega)) (cwV 3 hts gX9_rowState_X9_stateOf rfl rfl rfl (by decide +kernel) ⟨Nat.le_of_ble_eq_true rfl, Nat.le_of_ble_eq_true rfl⟩) ⟨fun a U g mk q => by obtain ⟨q0, qP, qK⟩ := q; exact ⟨q0, qP, va_K.moved (u := U) (U := U.calling g mk a) (Vm.Alike.refl U.vm) qK⟩, va_recv hK hP (ci := 11) (q := (RX9, TX9, 38)) rfl (q0 := 0) rfl, fun U hU hW => ⟨rfl, by rw [hU]; exact hP, va_K.moved hW.alike hK⟩⟩ rfl rfl hl.1 rfl (lv_room (Nat.le_of_ble_eq_true rfl)) dX9_rowState_13 ⟨Nat.le_of_ble_eq_true rfl, Nat.le_of_ble_eq_true rfl⟩)) (fun r_3 er_3 => ?_)
  obtain ⟨k_4, k_5⟩ := er_3
  exact W.iret hx hb hr (fun t ht hW => ⟨_, rfl, ⟨(by omega), (by omega)⟩, ht⟩) (fun q h => by cases h) dX9_rowState_16

set_option maxHeartbeats 4000000 in
set_option maxRecDepth 100000 in
theorem v_X9_pageState (l : Launch) (dC : Nat → ClassId) (dI : Nat → Nat → Nat) (o : Nat) (c : Nat → Nat) (kc : Nat → ClassId) (st : Nat → Int32) (lg : Nat → Int64) (ai : Nat → Nat → Int32) (al : Nat → Nat → Int64) (p0 : Int32) (hq0 : 0 ≤ p0.toInt) (hq1 : p0.toInt < 65536) : Met l yX9_pageState wsX9_pageState ({ frames := 4, cells := 0, slots := 0, locals := 93 }) (va_Pc [.ref o, .int p0] (fun U => va_P (dC, dI) vwCl (rw_W o c kc st lg ai al) U.heap ∧ va_K (dC, dI) vwCl (rw_T kc) U)) (vp_Si (fun r => (0 ≤ r.toInt) ∧ (r.toInt ≤ 3))) 0 0 (fun _ => False) := by
  refine Met.ofW (cc := cX9_pageState) (maxL := 2) (ret := (some .int)) (by decide) rfl ?_
  intro p e s m args below meth cM s₁ B hml hv
  obtain ⟨rfl, hP, hK⟩ := hv
  have hx := B.exec
  have hb := B.bytes
  have hr := B.returns
  have hts := atoms_spec (ws := wsX9_pageState) B.pre
  have hown : s.vm.findClass RX9 = some m.cls := findClass_of_methodNamed B.named
  have hl := lv_entry ([.ref o, .int p0]) (n := 2) (Nat.le_of_ble_eq_true rfl)
  rw [lg_entry_eq]
  generalize (lg_sl ([.ref o, .int p0]) ++ List.replicate (2 - (lg_sl ([.ref o, .int p0])).length) Slot.unset).toArray = ls at hl ⊢
  have hl : lv_has ls 2 [(0, .ref o), (1, .int p0)] := hl
  have z_3 : (3 : Int32).toInt = 3 := by decide
  have z_26 : (26 : Int32).toInt = 26 := by decide
  refine lv_aload_n hx hb dX9_pageState_0 rfl (lv_at hl 0 rfl) ?_
  refine lv_aload_n hx hb dX9_pageState_1 rfl (lv_at hl 0 rfl) ?_
  refine lv_iload_n hx hb dX9_pageState_2 rfl (lv_at hl 1 rfl) ?_
  refine vp_callSi (va_Run.run (va_runV (As := [.int p0]) (rest := [.ref o]) ⟨hx, hb, hml, hown, hts⟩ (v_X9_pagePlace l dC dI o c kc st lg ai al p0 (by omega) (by omega)) (cwV 1 hts gX9_pageState_X9_pagePlace rfl rfl rfl (by decide +kernel) ⟨Nat.le_of_ble_eq_true rfl, Nat.le_of_ble_eq_true rfl⟩) ⟨fun a U g mk q => by obtain ⟨q0, qP, qK⟩ := q; exact ⟨q0, qP, va_K.moved (u := U) (U := U.calling g mk a) (Vm.Alike.refl U.vm) qK⟩, va_recv hK hP (ci := 11) (q := (RX9, TX9, 38)) rfl (q0 := 0) rfl, fun U hU hW => ⟨rfl, by rw [hU]; exact hP, va_K.moved hW.alike hK⟩⟩ rfl rfl hl.1 rfl (lv_room (Nat.le_of_ble_eq_true rfl)) dX9_pageState_3 ⟨Nat.le_of_ble_eq_true rfl, Nat.le_of_ble_eq_true rfl⟩)) (fun r_1 er_1 => ?_)
  have k_2 := er_1
  refine lv_bipush (v := 26) hx hb dX9_pageState_6 (by decide) ?_
  refine lv_iconst (v := 3) hx hb dX9_pageState_8 (by decide) ?_
  refine vp_callSi (va_Run.run (va_runV (As := [.int r_1, .int (26 : Int32), .int (3 : Int32)]) (rest := []) ⟨hx, hb, hml, hown, hts⟩ (v_X9_stateOf l dC dI o c kc st lg ai al r_1 (26 : Int32) (3 : Int32) (by omega) (by omega) (by omega) (by omega)) (cwV 3 hts gX9_pageState_X9_stateOf rfl rfl rfl (by decide +kernel) ⟨Nat.le_of_ble_eq_true rfl, Nat.le_of_ble_eq_true rfl⟩) ⟨fun a U g mk q => by obtain ⟨q0, qP, qK⟩ := q; exact ⟨q0, qP, va_K.moved (u := U) (U := U.calling g mk a) (Vm.Alike.refl U.vm) qK⟩, va_recv hK hP (ci := 11) (q := (RX9, TX9, 38)) rfl (q0 := 0) rfl, fun U hU hW => ⟨rfl, by rw [hU]; exact hP, va_K.moved hW.alike hK⟩⟩ rfl rfl hl.1 rfl (lv_room (Nat.le_of_ble_eq_true rfl)) dX9_pageState_9 ⟨Nat.le_of_ble_eq_true rfl, Nat.le_of_ble_eq_true rfl⟩)) (fun r_3 er_3 => ?_)
  obtain ⟨k_4, k_5⟩ := er_3
  exact W.iret hx hb hr (fun t ht hW => ⟨_, rfl, ⟨(by omega), (by omega)⟩, ht⟩) (fun q h => by cases h) dX9_pageState_12

set_option maxHeartbeats 4000000 in
set_option maxRecDepth 100000 in
theorem v_X9_rows (l : Launch) (dC : Nat → ClassId) (dI : Nat → Nat → Nat) (o : Nat) (c : Nat → Nat) (kc : Nat → ClassId) (st : Nat → Int32) (lg : Nat → Int64) (ai : Nat → Nat → Int32) (al : Nat → Nat → Int64)  (hf15a : 0 ≤ (st 15).toInt) (hf15b : (st 15).toInt ≤ 128) : Met l yX9_rows wsX9_rows ({ frames := 0, cells := 0, slots := 0, locals := 0 }) (va_Pc [.ref o] (fun U => va_P (dC, dI) vwCl (rw_W o c kc st lg ai al) U.heap ∧ va_K (dC, dI) vwCl (rw_T kc) U)) (vp_Si (fun r => (r.toInt = (st 15).toInt))) 0 0 (fun _ => False) := by
  refine Met.ofW (cc := cX9_rows) (maxL := 1) (ret := (some .int)) (by decide) rfl ?_
  intro p e s m args below meth cM s₁ B hml hv
  obtain ⟨rfl, hP, hK⟩ := hv
  have hx := B.exec
  have hb := B.bytes
  have hr := B.returns
  have hts := atoms_spec (ws := wsX9_rows) B.pre
  have hown : s.vm.findClass RX9 = some m.cls := findClass_of_methodNamed B.named
  have hl := lv_entry ([.ref o]) (n := 1) (Nat.le_of_ble_eq_true rfl)
  rw [lg_entry_eq]
  generalize (lg_sl ([.ref o]) ++ List.replicate (1 - (lg_sl ([.ref o])).length) Slot.unset).toArray = ls at hl ⊢
  have hl : lv_has ls 1 [(0, .ref o)] := hl
  have hin9 : ∀ w ∈ u_ws RX9 TX9 38, w ∈ wsX9_rows := by decide +kernel
  refine lv_aload_n hx hb dX9_rows_0 rfl (lv_at hl 0 rfl) ?_
  refine va_get (D := (dC, dI)) (ci := 11) (v := .int (st 15)) (C := RX9) (T := TX9) (N := 38) hx hb hts hin9 hown hK hP 0 rfl rfl 15 (by decide) (hts (.fieldLink RX9 157 "BlockLogModel" "rowsNow" "I") (by decide +kernel)) (fun _ h9 => h9) rfl dX9_rows_1 ?_
  exact W.iret hx hb hr (fun t ht hW => ⟨_, rfl, (by omega), ht⟩) (fun q h => by cases h) dX9_rows_4

set_option maxHeartbeats 4000000 in
set_option maxRecDepth 100000 in
theorem v_X9_countRows (l : Launch) (dC : Nat → ClassId) (dI : Nat → Nat → Nat) (o : Nat) (c : Nat → Nat) (kc : Nat → ClassId) (st : Nat → Int32) (lg : Nat → Int64) (ai : Nat → Nat → Int32) (al : Nat → Nat → Int64)  (hf7a : 0 ≤ (st 7).toInt) (hf7b : (st 7).toInt ≤ 1) : Met l yX9_countRows wsX9_countRows ({ frames := 5, cells := 0, slots := 0, locals := 114 }) (va_Pc [.ref o] (fun U => va_P (dC, dI) vwCl (rw_W o c kc st lg ai al) U.heap ∧ va_K (dC, dI) vwCl (rw_T kc) U)) (vp_Si (fun r => (0 ≤ r.toInt) ∧ (r.toInt ≤ 128))) 0 0 (fun _ => False) := by
  refine Met.ofW (cc := cX9_countRows) (maxL := 2) (ret := (some .int)) (by decide) rfl ?_
  intro p e s m args below meth cM s₁ B hml hv
  obtain ⟨rfl, hP, hK⟩ := hv
  have hx := B.exec
  have hb := B.bytes
  have hr := B.returns
  have hts := atoms_spec (ws := wsX9_countRows) B.pre
  have hown : s.vm.findClass RX9 = some m.cls := findClass_of_methodNamed B.named
  have hl := lv_entry ([.ref o]) (n := 2) (Nat.le_of_ble_eq_true rfl)
  rw [lg_entry_eq]
  generalize (lg_sl ([.ref o]) ++ List.replicate (2 - (lg_sl ([.ref o])).length) Slot.unset).toArray = ls at hl ⊢
  have hl : lv_has ls 2 [(0, .ref o)] := hl
  have z_0 : (0 : Int32).toInt = 0 := by decide
  have z_1 : (1 : Int32).toInt = 1 := by decide
  have z_3 : (3 : Int32).toInt = 3 := by decide
  have z_128 : (128 : Int32).toInt = 128 := by decide
  refine lv_iconst (v := 0) hx hb dX9_countRows_0 (by decide) ?_
  refine lv_istore_n (lv' := [(1, .int (0 : Int32)), (0, .ref o)]) hx hb dX9_countRows_1 rfl hl (by decide) rfl (fun ls hl => ?_)
  have loop2 : ∀ (n : Nat) (l1_2 : Int32) (ls : Array Slot), (0 ≤ l1_2.toInt) → (l1_2.toInt ≤ 128) → (128 - l1_2.toInt : Int).toNat < n → lv_has ls 2 [(1, .int l1_2), (0, .ref o)] → W p l e (headSpec wsX9_countRows ({ frames := 5, cells := 0, slots := 0, locals := 114 })).room s m ([.ref o] : List Value).toArray below meth cM s.heap [] 0 0 (MQ below (vp_Si (fun r => (0 ≤ r.toInt) ∧ (r.toInt ≤ 128))) ([.ref o] : List Value).toArray s 0 0 (fun _ => False)) (F0 m 2 ls []) := by
    intro n
    induction n with
    | zero => intro l1_2 ls if0_2 if1_2 hm; exact absurd hm (Nat.not_lt_zero _)
    | succ n ih2 =>
      intro l1_2 ls if0_2 if1_2 hm2 hl
      refine lv_iload_n hx hb dX9_countRows_2 rfl (lv_at hl 0 rfl) ?_
      refine lv_sipush (v := 128) hx hb dX9_countRows_3 (by decide) ?_
      refine lv_icmp_ge (tgt := 33) hx hb dX9_countRows_6 (by decide) (fun c_1 => ?_) (fun c_1 => ?_)
      · skip
        have ic_1 := iv_le c_1
        refine lv_iload_n hx hb dX9_countRows_33 rfl (lv_at hl 0 rfl) ?_
        exact W.iret hx hb hr (fun t ht hW => ⟨_, rfl, ⟨(by omega), (by omega)⟩, ht⟩) (fun q h => by cases h) dX9_countRows_34
      · skip
        have ic_1 := iv_nle c_1
        refine lv_aload_n hx hb dX9_countRows_9 rfl (lv_at hl 1 rfl) ?_
        refine lv_iload_n hx hb dX9_countRows_10 rfl (lv_at hl 0 rfl) ?_
        refine vp_callSi (va_Run.run (va_runV (As := [.int l1_2]) (rest := []) ⟨hx, hb, hml, hown, hts⟩ (v_X9_rowState l dC dI o c kc st lg ai al l1_2 (show 0 ≤ (st 7).toInt by omega) (show (st 7).toInt ≤ 1 by omega) (by omega) (by omega)) (cwV 1 hts gX9_countRows_X9_rowState rfl rfl rfl (by decide +kernel) ⟨Nat.le_of_ble_eq_true rfl, Nat.le_of_ble_eq_true rfl⟩) ⟨fun a U g mk q => by obtain ⟨q0, qP, qK⟩ := q; exact ⟨q0, qP, va_K.moved (u := U) (U := U.calling g mk a) (Vm.Alike.refl U.vm) qK⟩, va_recv hK hP (ci := 11) (q := (RX9, TX9, 38)) rfl (q0 := 0) rfl, fun U hU hW => ⟨rfl, by rw [hU]; exact hP, va_K.moved hW.alike hK⟩⟩ rfl rfl hl.1 rfl (lv_room (Nat.le_of_ble_eq_true rfl)) dX9_countRows_11 ⟨Nat.le_of_ble_eq_true rfl, Nat.le_of_ble_eq_true rfl⟩)) (fun r_2 er_2 => ?_)
        obtain ⟨k_3, k_4⟩ := er_2
        refine lv_iconst (v := 1) hx hb dX9_countRows_14 (by decide) ?_
        refine lv_icmp_eq (tgt := 27) hx hb dX9_countRows_15 (by decide) (fun c_5 => ?_) (fun c_5 => ?_)
        · skip
          have ic_5 := iv_eq c_5
          obtain ⟨x_6, ex_6⟩ : ∃ z : Int32, z = l1_2 + (1) := ⟨_, rfl⟩
          refine lv_iinc (v := x_6) (lv' := [(1, .int x_6), (0, .ref o)]) hx hb dX9_countRows_27 hl (k := 0) rfl (by rw [ex_6]; rfl) (by decide) rfl (fun ls hl => ?_)
          have rg1 := iv_rng l1_2
          have hx_6 : x_6.toInt = l1_2.toInt + (1) := by rw [ex_6]; exact (iv_add (by omega) (by omega)).trans (by omega)
          clear ex_6
          refine lv_goto (tgt := 2) hx hb dX9_countRows_30 (by decide) ?_
          exact ih2 x_6 _ (by omega) (by omega) (by omega) (lv_sub hl [0, 1] rfl)
        · skip
          have ic_5 := iv_ne c_5
          refine lv_aload_n hx hb dX9_countRows_18 rfl (lv_at hl 1 rfl) ?_
          refine lv_iload_n hx hb dX9_countRows_19 rfl (lv_at hl 0 rfl) ?_
          refine vp_callSi (va_Run.run (va_runV (As := [.int l1_2]) (rest := []) ⟨hx, hb, hml, hown, hts⟩ (v_X9_rowState l dC dI o c kc st lg ai al l1_2 (show 0 ≤ (st 7).toInt by omega) (show (st 7).toInt ≤ 1 by omega) (by omega) (by omega)) (cwV 1 hts gX9_countRows_X9_rowState rfl rfl rfl (by decide +kernel) ⟨Nat.le_of_ble_eq_true rfl, Nat.le_of_ble_eq_true rfl⟩) ⟨fun a U g mk q => by obtain ⟨q0, qP, qK⟩ := q; exact ⟨q0, qP, va_K.moved (u := U) (U := U.calling g mk a) (Vm.Alike.refl U.vm) qK⟩, va_recv hK hP (ci := 11) (q := (RX9, TX9, 38)) rfl (q0 := 0) rfl, fun U hU hW => ⟨rfl, by rw [hU]; exact hP, va_K.moved hW.alike hK⟩⟩ rfl rfl hl.1 rfl (lv_room (Nat.le_of_ble_eq_true rfl)) dX9_countRows_20 ⟨Nat.le_of_ble_eq_true rfl, Nat.le_of_ble_eq_true rfl⟩)) (fun r_7 er_7 => ?_)
          obtain ⟨k_8, k_9⟩ := er_7
          refine lv_iconst (v := 3) hx hb dX9_countRows_23 (by decide) ?_
          refine lv_icmp_ne (tgt := 33) hx hb dX9_countRows_24 (by decide) (fun c_10 => ?_) (fun c_10 => ?_)
          · skip
            have ic_10 := iv_ne c_10
            refine lv_iload_n hx hb dX9_countRows_33 rfl (lv_at hl 0 rfl) ?_
            exact W.iret hx hb hr (fun t ht hW => ⟨_, rfl, ⟨(by omega), (by omega)⟩, ht⟩) (fun q h => by cases h) dX9_countRows_34
          · skip
            have ic_10 := iv_eq c_10
            obtain ⟨x_11, ex_11⟩ : ∃ z : Int32, z = l1_2 + (1) := ⟨_, rfl⟩
            refine lv_iinc (v := x_11) (lv' := [(1, .int x_11), (0, .ref o)]) hx hb dX9_countRows_27 hl (k := 0) rfl (by rw [ex_11]; rfl) (by decide) rfl (fun ls hl => ?_)
            have rg2 := iv_rng l1_2
            have hx_11 : x_11.toInt = l1_2.toInt + (1) := by rw [ex_11]; exact (iv_add (by omega) (by omega)).trans (by omega)
            clear ex_11
            refine lv_goto (tgt := 2) hx hb dX9_countRows_30 (by decide) ?_
            exact ih2 x_11 _ (by omega) (by omega) (by omega) (lv_sub hl [0, 1] rfl)
  exact loop2 ((128 - 0 : Int).toNat + 1) (0 : Int32) _ (by omega) (by omega) (by omega) (lv_sub hl [0, 1] rfl)

set_option maxHeartbeats 4000000 in
set_option maxRecDepth 100000 in
theorem v_X9_badRows (l : Launch) (dC : Nat → ClassId) (dI : Nat → Nat → Nat) (o : Nat) (c : Nat → Nat) (kc : Nat → ClassId) (st : Nat → Int32) (lg : Nat → Int64) (ai : Nat → Nat → Int32) (al : Nat → Nat → Int64)  (hf7a : 0 ≤ (st 7).toInt) (hf7b : (st 7).toInt ≤ 1) (hf15a : 0 ≤ (st 15).toInt) (hf15b : (st 15).toInt ≤ 128) : Met l yX9_badRows wsX9_badRows ({ frames := 5, cells := 0, slots := 0, locals := 114 }) (va_Pc [.ref o] (fun U => va_P (dC, dI) vwCl (rw_W o c kc st lg ai al) U.heap ∧ va_K (dC, dI) vwCl (rw_T kc) U)) (vp_Si (fun r => (0 ≤ r.toInt) ∧ (r.toInt ≤ 128))) 0 0 (fun _ => False) := by
  refine Met.ofW (cc := cX9_badRows) (maxL := 4) (ret := (some .int)) (by decide) rfl ?_
  intro p e s m args below meth cM s₁ B hml hv
  obtain ⟨rfl, hP, hK⟩ := hv
  have hx := B.exec
  have hb := B.bytes
  have hr := B.returns
  have hts := atoms_spec (ws := wsX9_badRows) B.pre
  have hown : s.vm.findClass RX9 = some m.cls := findClass_of_methodNamed B.named
  have hl := lv_entry ([.ref o]) (n := 4) (Nat.le_of_ble_eq_true rfl)
  rw [lg_entry_eq]
  generalize (lg_sl ([.ref o]) ++ List.replicate (4 - (lg_sl ([.ref o])).length) Slot.unset).toArray = ls at hl ⊢
  have hl : lv_has ls 4 [(0, .ref o)] := hl
  have z_0 : (0 : Int32).toInt = 0 := by decide
  have z_1 : (1 : Int32).toInt = 1 := by decide
  have z_3 : (3 : Int32).toInt = 3 := by decide
  refine lv_iconst (v := 0) hx hb dX9_badRows_0 (by decide) ?_
  refine lv_istore_n (lv' := [(1, .int (0 : Int32)), (0, .ref o)]) hx hb dX9_badRows_1 rfl hl (by decide) rfl (fun ls hl => ?_)
  refine lv_aload_n hx hb dX9_badRows_2 rfl (lv_at hl 1 rfl) ?_
  refine vp_callSi (va_Run.run (va_runV (As := []) (rest := []) ⟨hx, hb, hml, hown, hts⟩ (v_X9_rows l dC dI o c kc st lg ai al  (show 0 ≤ (st 15).toInt by omega) (show (st 15).toInt ≤ 128 by omega)) (cwV 0 hts gX9_badRows_X9_rows rfl rfl rfl (by decide +kernel) ⟨Nat.le_of_ble_eq_true rfl, Nat.le_of_ble_eq_true rfl⟩) ⟨fun a U g mk q => by obtain ⟨q0, qP, qK⟩ := q; exact ⟨q0, qP, va_K.moved (u := U) (U := U.calling g mk a) (Vm.Alike.refl U.vm) qK⟩, va_recv hK hP (ci := 11) (q := (RX9, TX9, 38)) rfl (q0 := 0) rfl, fun U hU hW => ⟨rfl, by rw [hU]; exact hP, va_K.moved hW.alike hK⟩⟩ rfl rfl hl.1 rfl (lv_room (Nat.le_of_ble_eq_true rfl)) dX9_badRows_3 ⟨Nat.le_of_ble_eq_true rfl, Nat.le_of_ble_eq_true rfl⟩)) (fun r_1 er_1 => ?_)
  have k_2 := er_1
  have k_2 : r_1.toInt = (st 15).toInt := k_2
  refine lv_istore_n (lv' := [(2, .int r_1), (1, .int (0 : Int32)), (0, .ref o)]) hx hb dX9_badRows_6 rfl hl (by decide) rfl (fun ls hl => ?_)
  refine lv_iconst (v := 0) hx hb dX9_badRows_7 (by decide) ?_
  refine lv_istore_n (lv' := [(3, .int (0 : Int32)), (2, .int r_1), (1, .int (0 : Int32)), (0, .ref o)]) hx hb dX9_badRows_8 rfl hl (by decide) rfl (fun ls hl => ?_)
  have loop9 : ∀ (n : Nat) (l3_9 : Int32) (l1_9 : Int32) (ls : Array Slot), (0 ≤ l3_9.toInt) → (l3_9.toInt ≤ r_1.toInt) → (0 ≤ l1_9.toInt) → (l1_9.toInt ≤ l3_9.toInt) → (r_1.toInt - l3_9.toInt : Int).toNat < n → lv_has ls 4 [(3, .int l3_9), (2, .int r_1), (1, .int l1_9), (0, .ref o)] → W p l e (headSpec wsX9_badRows ({ frames := 5, cells := 0, slots := 0, locals := 114 })).room s m ([.ref o] : List Value).toArray below meth cM s.heap [] 0 0 (MQ below (vp_Si (fun r => (0 ≤ r.toInt) ∧ (r.toInt ≤ 128))) ([.ref o] : List Value).toArray s 0 0 (fun _ => False)) (F0 m 9 ls []) := by
    intro n
    induction n with
    | zero => intro l3_9 l1_9 ls if0_9 if1_9 if2_9 if3_9 hm; exact absurd hm (Nat.not_lt_zero _)
    | succ n ih9 =>
      intro l3_9 l1_9 ls if0_9 if1_9 if2_9 if3_9 hm9 hl
      refine lv_iload_n hx hb dX9_badRows_9 rfl (lv_at hl 0 rfl) ?_
      refine lv_iload_n hx hb dX9_badRows_10 rfl (lv_at hl 1 rfl) ?_
      refine lv_icmp_ge (tgt := 37) hx hb dX9_badRows_11 (by decide) (fun c_3 => ?_) (fun c_3 => ?_)
      · skip
        have ic_3 := iv_le c_3
        refine lv_iload_n hx hb dX9_badRows_37 rfl (lv_at hl 2 rfl) ?_
        exact W.iret hx hb hr (fun t ht hW => ⟨_, rfl, ⟨(by omega), (by omega)⟩, ht⟩) (fun q h => by cases h) dX9_badRows_38
      · skip
        have ic_3 := iv_nle c_3
        refine lv_iload_n hx hb dX9_badRows_14 rfl (lv_at hl 2 rfl) ?_
        refine lv_aload_n hx hb dX9_badRows_15 rfl (lv_at hl 3 rfl) ?_
        refine lv_iload_n hx hb dX9_badRows_16 rfl (lv_at hl 0 rfl) ?_
        refine vp_callSi (va_Run.run (va_runV (As := [.int l3_9]) (rest := [.int l1_9]) ⟨hx, hb, hml, hown, hts⟩ (v_X9_rowState l dC dI o c kc st lg ai al l3_9 (show 0 ≤ (st 7).toInt by omega) (show (st 7).toInt ≤ 1 by omega) (by omega) (by omega)) (cwV 1 hts gX9_badRows_X9_rowState rfl rfl rfl (by decide +kernel) ⟨Nat.le_of_ble_eq_true rfl, Nat.le_of_ble_eq_true rfl⟩) ⟨fun a U g mk q => by obtain ⟨q0, qP, qK⟩ := q; exact ⟨q0, qP, va_K.moved (u := U) (U := U.calling g mk a) (Vm.Alike.refl U.vm) qK⟩, va_recv hK hP (ci := 11) (q := (RX9, TX9, 38)) rfl (q0 := 0) rfl, fun U hU hW => ⟨rfl, by rw [hU]; exact hP, va_K.moved hW.alike hK⟩⟩ rfl rfl hl.1 rfl (lv_room (Nat.le_of_ble_eq_true rfl)) dX9_badRows_17 ⟨Nat.le_of_ble_eq_true rfl, Nat.le_of_ble_eq_true rfl⟩)) (fun r_4 er_4 => ?_)
        obtain ⟨k_5, k_6⟩ := er_4
        refine lv_iconst (v := 3) hx hb dX9_badRows_20 (by decide) ?_
        refine lv_icmp_ne (tgt := 28) hx hb dX9_badRows_21 (by decide) (fun c_7 => ?_) (fun c_7 => ?_)
        · skip
          have ic_7 := iv_ne c_7
          refine lv_iconst (v := 0) hx hb dX9_badRows_28 (by decide) ?_
          refine lv_iadd hx hb dX9_badRows_29 ?_
          refine lv_topi (fun v_8 ev_8 => ?_)
          have rg1 := iv_rng l1_9
          have hv_8 : v_8.toInt = l1_9.toInt + 0 := by rw [ev_8]; exact (iv_add (by omega) (by omega)).trans (by omega)
          clear ev_8
          refine lv_istore_n (lv' := [(1, .int v_8), (3, .int l3_9), (2, .int r_1), (0, .ref o)]) hx hb dX9_badRows_30 rfl hl (by decide) rfl (fun ls hl => ?_)
          obtain ⟨x_9, ex_9⟩ : ∃ z : Int32, z = l3_9 + (1) := ⟨_, rfl⟩
          refine lv_iinc (v := x_9) (lv' := [(3, .int x_9), (1, .int v_8), (2, .int r_1), (0, .ref o)]) hx hb dX9_badRows_31 hl (k := 1) rfl (by rw [ex_9]; rfl) (by decide) rfl (fun ls hl => ?_)
          have rg2 := iv_rng l3_9
          have hx_9 : x_9.toInt = l3_9.toInt + (1) := by rw [ex_9]; exact (iv_add (by omega) (by omega)).trans (by omega)
          clear ex_9
          refine lv_goto (tgt := 9) hx hb dX9_badRows_34 (by decide) ?_
          exact ih9 x_9 v_8 _ (by omega) (by omega) (by omega) (by omega) (by omega) (lv_sub hl [0, 2, 1, 3] rfl)
        · skip
          have ic_7 := iv_eq c_7
          refine lv_iconst (v := 1) hx hb dX9_badRows_24 (by decide) ?_
          refine lv_goto (tgt := 29) hx hb dX9_badRows_25 (by decide) ?_
          refine lv_iadd hx hb dX9_badRows_29 ?_
          refine lv_topi (fun v_10 ev_10 => ?_)
          have rg3 := iv_rng l1_9
          have hv_10 : v_10.toInt = l1_9.toInt + 1 := by rw [ev_10]; exact (iv_add (by omega) (by omega)).trans (by omega)
          clear ev_10
          refine lv_istore_n (lv' := [(1, .int v_10), (3, .int l3_9), (2, .int r_1), (0, .ref o)]) hx hb dX9_badRows_30 rfl hl (by decide) rfl (fun ls hl => ?_)
          obtain ⟨x_11, ex_11⟩ : ∃ z : Int32, z = l3_9 + (1) := ⟨_, rfl⟩
          refine lv_iinc (v := x_11) (lv' := [(3, .int x_11), (1, .int v_10), (2, .int r_1), (0, .ref o)]) hx hb dX9_badRows_31 hl (k := 1) rfl (by rw [ex_11]; rfl) (by decide) rfl (fun ls hl => ?_)
          have rg4 := iv_rng l3_9
          have hx_11 : x_11.toInt = l3_9.toInt + (1) := by rw [ex_11]; exact (iv_add (by omega) (by omega)).trans (by omega)
          clear ex_11
          refine lv_goto (tgt := 9) hx hb dX9_badRows_34 (by decide) ?_
          exact ih9 x_11 v_10 _ (by omega) (by omega) (by omega) (by omega) (by omega) (lv_sub hl [0, 2, 1, 3] rfl)
  exact loop9 ((r_1.toInt - 0 : Int).toNat + 1) (0 : Int32) (0 : Int32) _ (by omega) (by omega) (by omega) (by omega) (by omega) (lv_sub hl [0, 1, 2, 3] rfl)

set_option maxHeartbeats 4000000 in
set_option maxRecDepth 100000 in
theorem v_X9_kindOf (l : Launch) (dC : Nat → ClassId) (dI : Nat → Nat → Nat) (o : Nat) (c : Nat → Nat) (kc : Nat → ClassId) (st : Nat → Int32) (lg : Nat → Int64) (ai : Nat → Nat → Int32) (al : Nat → Nat → Int64) (p0 : Int32) (hf7a : 0 ≤ (st 7).toInt) (hf7b : (st 7).toInt ≤ 1) (hq0 : -1 ≤ p0.toInt) (hq1 : p0.toInt ≤ 255) : Met l yX9_kindOf wsX9_kindOf ({ frames := 1, cells := 0, slots := 0, locals := 22 }) (va_Pc [.ref o, .int p0] (fun U => va_P (dC, dI) vwCl (rw_W o c kc st lg ai al) U.heap ∧ va_K (dC, dI) vwCl (rw_T kc) U)) (vp_Si (fun r => (r.toInt = (rK (ai 0) (st 7) p0).toInt) ∧ (0 ≤ r.toInt) ∧ (r.toInt ≤ 255))) 0 0 (fun _ => False) := by
  refine Met.ofW (cc := cX9_kindOf) (maxL := 2) (ret := (some .int)) (by decide) rfl ?_
  intro p e s m args below meth cM s₁ B hml hv
  obtain ⟨rfl, hP, hK⟩ := hv
  have hx := B.exec
  have hb := B.bytes
  have hr := B.returns
  have hts := atoms_spec (ws := wsX9_kindOf) B.pre
  have hown : s.vm.findClass RX9 = some m.cls := findClass_of_methodNamed B.named
  have hl := lv_entry ([.ref o, .int p0]) (n := 2) (Nat.le_of_ble_eq_true rfl)
  rw [lg_entry_eq]
  generalize (lg_sl ([.ref o, .int p0]) ++ List.replicate (2 - (lg_sl ([.ref o, .int p0])).length) Slot.unset).toArray = ls at hl ⊢
  have hl : lv_has ls 2 [(0, .ref o), (1, .int p0)] := hl
  have hin9 : ∀ w ∈ u_ws RX9 TX9 38, w ∈ wsX9_kindOf := by decide +kernel
  refine lv_aload_n hx hb dX9_kindOf_0 rfl (lv_at hl 0 rfl) ?_
  refine lv_aload_n hx hb dX9_kindOf_1 rfl (lv_at hl 0 rfl) ?_
  refine lv_aload_n hx hb dX9_kindOf_2 rfl (lv_at hl 0 rfl) ?_
  refine va_get (D := (dC, dI)) (ci := 11) (v := .int (st 7)) (C := RX9) (T := TX9) (N := 38) hx hb hts hin9 hown hK hP 0 rfl rfl 7 (by decide) (hts (.fieldLink RX9 76 "BlockLogModel" "area" "I") (by decide +kernel)) (fun _ h9 => h9) rfl dX9_kindOf_3 ?_
  refine lv_iload_n hx hb dX9_kindOf_6 rfl (lv_at hl 1 rfl) ?_
  refine vp_callSi (va_Run.run (va_runV (As := [.int (st 7), .int p0]) (rest := [.ref o]) ⟨hx, hb, hml, hown, hts⟩ (v_X9_rowPlace l dC dI o c kc st lg ai al (st 7) p0 (by omega) (by omega) (by omega) (by omega)) (cwV 2 hts gX9_kindOf_X9_rowPlace rfl rfl rfl (by decide +kernel) ⟨Nat.le_of_ble_eq_true rfl, Nat.le_of_ble_eq_true rfl⟩) ⟨fun a U g mk q => by obtain ⟨q0, qP, qK⟩ := q; exact ⟨q0, qP, va_K.moved (u := U) (U := U.calling g mk a) (Vm.Alike.refl U.vm) qK⟩, va_recv hK hP (ci := 11) (q := (RX9, TX9, 38)) rfl (q0 := 0) rfl, fun U hU hW => ⟨rfl, by rw [hU]; exact hP, va_K.moved hW.alike hK⟩⟩ rfl rfl hl.1 rfl (lv_room (Nat.le_of_ble_eq_true rfl)) dX9_kindOf_7 ⟨Nat.le_of_ble_eq_true rfl, Nat.le_of_ble_eq_true rfl⟩)) (fun r_1 er_1 => ?_)
  have k_2 := er_1
  refine vp_callSi (va_Run.run (va_runV (As := [.int r_1]) (rest := []) ⟨hx, hb, hml, hown, hts⟩ (v_X9_byteIn l dC dI o c kc st lg ai al r_1 (by omega) (by omega)) (cwV 1 hts gX9_kindOf_X9_byteIn rfl rfl rfl (by decide +kernel) ⟨Nat.le_of_ble_eq_true rfl, Nat.le_of_ble_eq_true rfl⟩) ⟨fun a U g mk q => by obtain ⟨q0, qP, qK⟩ := q; exact ⟨q0, qP, va_K.moved (u := U) (U := U.calling g mk a) (Vm.Alike.refl U.vm) qK⟩, va_recv hK hP (ci := 11) (q := (RX9, TX9, 38)) rfl (q0 := 0) rfl, fun U hU hW => ⟨rfl, by rw [hU]; exact hP, va_K.moved hW.alike hK⟩⟩ rfl rfl hl.1 rfl (lv_room (Nat.le_of_ble_eq_true rfl)) dX9_kindOf_10 ⟨Nat.le_of_ble_eq_true rfl, Nat.le_of_ble_eq_true rfl⟩)) (fun r_3 er_3 => ?_)
  obtain ⟨k_4, k_5, k_6⟩ := er_3
  have k_4 : r_3.toInt = (md_get (ai 0) r_1).toInt := k_4
  exact W.iret hx hb hr (fun t ht hW => ⟨_, rfl, ⟨(k_4.trans (by rw [rp_of (a := st 7) (r := p0) (x := r_1) (by omega) (by omega) (by omega) (by omega) (by omega)]; rfl)), (by omega), (by omega)⟩, ht⟩) (fun q h => by cases h) dX9_kindOf_13

set_option maxHeartbeats 4000000 in
set_option maxRecDepth 100000 in
theorem v_X9_aOf (l : Launch) (dC : Nat → ClassId) (dI : Nat → Nat → Nat) (o : Nat) (c : Nat → Nat) (kc : Nat → ClassId) (st : Nat → Int32) (lg : Nat → Int64) (ai : Nat → Nat → Int32) (al : Nat → Nat → Int64) (p0 : Int32) (hf7a : 0 ≤ (st 7).toInt) (hf7b : (st 7).toInt ≤ 1) (hq0 : -1 ≤ p0.toInt) (hq1 : p0.toInt ≤ 255) : Met l yX9_aOf wsX9_aOf ({ frames := 2, cells := 0, slots := 0, locals := 49 }) (va_Pc [.ref o, .int p0] (fun U => va_P (dC, dI) vwCl (rw_W o c kc st lg ai al) U.heap ∧ va_K (dC, dI) vwCl (rw_T kc) U)) (vp_Si (fun r => True)) 0 0 (fun _ => False) := by
  refine Met.ofW (cc := cX9_aOf) (maxL := 2) (ret := (some .int)) (by decide) rfl ?_
  intro p e s m args below meth cM s₁ B hml hv
  obtain ⟨rfl, hP, hK⟩ := hv
  have hx := B.exec
  have hb := B.bytes
  have hr := B.returns
  have hts := atoms_spec (ws := wsX9_aOf) B.pre
  have hown : s.vm.findClass RX9 = some m.cls := findClass_of_methodNamed B.named
  have hl := lv_entry ([.ref o, .int p0]) (n := 2) (Nat.le_of_ble_eq_true rfl)
  rw [lg_entry_eq]
  generalize (lg_sl ([.ref o, .int p0]) ++ List.replicate (2 - (lg_sl ([.ref o, .int p0])).length) Slot.unset).toArray = ls at hl ⊢
  have hl : lv_has ls 2 [(0, .ref o), (1, .int p0)] := hl
  have z_1 : (1 : Int32).toInt = 1 := by decide
  have z_4 : (4 : Int32).toInt = 4 := by decide
  have hin9 : ∀ w ∈ u_ws RX9 TX9 38, w ∈ wsX9_aOf := by decide +kernel
  refine lv_aload_n hx hb dX9_aOf_0 rfl (lv_at hl 0 rfl) ?_
  refine lv_aload_n hx hb dX9_aOf_1 rfl (lv_at hl 0 rfl) ?_
  refine lv_aload_n hx hb dX9_aOf_2 rfl (lv_at hl 0 rfl) ?_
  refine va_get (D := (dC, dI)) (ci := 11) (v := .int (st 7)) (C := RX9) (T := TX9) (N := 38) hx hb hts hin9 hown hK hP 0 rfl rfl 7 (by decide) (hts (.fieldLink RX9 76 "BlockLogModel" "area" "I") (by decide +kernel)) (fun _ h9 => h9) rfl dX9_aOf_3 ?_
  refine lv_iload_n hx hb dX9_aOf_6 rfl (lv_at hl 1 rfl) ?_
  refine vp_callSi (va_Run.run (va_runV (As := [.int (st 7), .int p0]) (rest := [.ref o]) ⟨hx, hb, hml, hown, hts⟩ (v_X9_rowPlace l dC dI o c kc st lg ai al (st 7) p0 (by omega) (by omega) (by omega) (by omega)) (cwV 2 hts gX9_aOf_X9_rowPlace rfl rfl rfl (by decide +kernel) ⟨Nat.le_of_ble_eq_true rfl, Nat.le_of_ble_eq_true rfl⟩) ⟨fun a U g mk q => by obtain ⟨q0, qP, qK⟩ := q; exact ⟨q0, qP, va_K.moved (u := U) (U := U.calling g mk a) (Vm.Alike.refl U.vm) qK⟩, va_recv hK hP (ci := 11) (q := (RX9, TX9, 38)) rfl (q0 := 0) rfl, fun U hU hW => ⟨rfl, by rw [hU]; exact hP, va_K.moved hW.alike hK⟩⟩ rfl rfl hl.1 rfl (lv_room (Nat.le_of_ble_eq_true rfl)) dX9_aOf_7 ⟨Nat.le_of_ble_eq_true rfl, Nat.le_of_ble_eq_true rfl⟩)) (fun r_1 er_1 => ?_)
  have k_2 := er_1
  refine lv_iconst (v := 1) hx hb dX9_aOf_10 (by decide) ?_
  refine lv_iadd hx hb dX9_aOf_11 ?_
  refine lv_topi (fun v_3 ev_3 => ?_)
  have rg1 := iv_rng r_1
  have hv_3 : v_3.toInt = r_1.toInt + 1 := by rw [ev_3]; exact (iv_add (by omega) (by omega)).trans (by omega)
  clear ev_3
  refine lv_iconst (v := 4) hx hb dX9_aOf_12 (by decide) ?_
  refine vp_callSl (va_Run.run (va_runV (As := [.int v_3, .int (4 : Int32)]) (rest := []) ⟨hx, hb, hml, hown, hts⟩ (v_X9_number l dC dI o c kc st lg ai al v_3 (4 : Int32) (by omega) (by omega) (by omega) (by omega)) (cwV 2 hts gX9_aOf_X9_number rfl rfl rfl (by decide +kernel) ⟨Nat.le_of_ble_eq_true rfl, Nat.le_of_ble_eq_true rfl⟩) ⟨fun a U g mk q => by obtain ⟨q0, qP, qK⟩ := q; exact ⟨q0, qP, va_K.moved (u := U) (U := U.calling g mk a) (Vm.Alike.refl U.vm) qK⟩, va_recv hK hP (ci := 11) (q := (RX9, TX9, 38)) rfl (q0 := 0) rfl, fun U hU hW => ⟨rfl, by rw [hU]; exact hP, va_K.moved hW.alike hK⟩⟩ rfl rfl hl.1 rfl (lv_room (Nat.le_of_ble_eq_true rfl)) dX9_aOf_13 ⟨Nat.le_of_ble_eq_true rfl, Nat.le_of_ble_eq_true rfl⟩)) (fun r_4 er_4 => ?_)
  have q_5 := er_4
  refine lv_l2i hx hb dX9_aOf_16 rfl ?_
  refine lv_topi (fun v_6 ev_6 => ?_)
  clear ev_6
  exact W.iret hx hb hr (fun t ht hW => ⟨_, rfl, trivial, ht⟩) (fun q h => by cases h) dX9_aOf_17

set_option maxHeartbeats 4000000 in
set_option maxRecDepth 100000 in
theorem v_X9_bOf (l : Launch) (dC : Nat → ClassId) (dI : Nat → Nat → Nat) (o : Nat) (c : Nat → Nat) (kc : Nat → ClassId) (st : Nat → Int32) (lg : Nat → Int64) (ai : Nat → Nat → Int32) (al : Nat → Nat → Int64) (p0 : Int32) (hf7a : 0 ≤ (st 7).toInt) (hf7b : (st 7).toInt ≤ 1) (hq0 : -1 ≤ p0.toInt) (hq1 : p0.toInt ≤ 255) : Met l yX9_bOf wsX9_bOf ({ frames := 2, cells := 0, slots := 0, locals := 49 }) (va_Pc [.ref o, .int p0] (fun U => va_P (dC, dI) vwCl (rw_W o c kc st lg ai al) U.heap ∧ va_K (dC, dI) vwCl (rw_T kc) U)) (vp_Si (fun r => (r.toInt = (rB (ai 0) (st 7) p0).toInt))) 0 0 (fun _ => False) := by
  refine Met.ofW (cc := cX9_bOf) (maxL := 2) (ret := (some .int)) (by decide) rfl ?_
  intro p e s m args below meth cM s₁ B hml hv
  obtain ⟨rfl, hP, hK⟩ := hv
  have hx := B.exec
  have hb := B.bytes
  have hr := B.returns
  have hts := atoms_spec (ws := wsX9_bOf) B.pre
  have hown : s.vm.findClass RX9 = some m.cls := findClass_of_methodNamed B.named
  have hl := lv_entry ([.ref o, .int p0]) (n := 2) (Nat.le_of_ble_eq_true rfl)
  rw [lg_entry_eq]
  generalize (lg_sl ([.ref o, .int p0]) ++ List.replicate (2 - (lg_sl ([.ref o, .int p0])).length) Slot.unset).toArray = ls at hl ⊢
  have hl : lv_has ls 2 [(0, .ref o), (1, .int p0)] := hl
  have z_4 : (4 : Int32).toInt = 4 := by decide
  have z_5 : (5 : Int32).toInt = 5 := by decide
  have hin9 : ∀ w ∈ u_ws RX9 TX9 38, w ∈ wsX9_bOf := by decide +kernel
  refine lv_aload_n hx hb dX9_bOf_0 rfl (lv_at hl 0 rfl) ?_
  refine lv_aload_n hx hb dX9_bOf_1 rfl (lv_at hl 0 rfl) ?_
  refine lv_aload_n hx hb dX9_bOf_2 rfl (lv_at hl 0 rfl) ?_
  refine va_get (D := (dC, dI)) (ci := 11) (v := .int (st 7)) (C := RX9) (T := TX9) (N := 38) hx hb hts hin9 hown hK hP 0 rfl rfl 7 (by decide) (hts (.fieldLink RX9 76 "BlockLogModel" "area" "I") (by decide +kernel)) (fun _ h9 => h9) rfl dX9_bOf_3 ?_
  refine lv_iload_n hx hb dX9_bOf_6 rfl (lv_at hl 1 rfl) ?_
  refine vp_callSi (va_Run.run (va_runV (As := [.int (st 7), .int p0]) (rest := [.ref o]) ⟨hx, hb, hml, hown, hts⟩ (v_X9_rowPlace l dC dI o c kc st lg ai al (st 7) p0 (by omega) (by omega) (by omega) (by omega)) (cwV 2 hts gX9_bOf_X9_rowPlace rfl rfl rfl (by decide +kernel) ⟨Nat.le_of_ble_eq_true rfl, Nat.le_of_ble_eq_true rfl⟩) ⟨fun a U g mk q => by obtain ⟨q0, qP, qK⟩ := q; exact ⟨q0, qP, va_K.moved (u := U) (U := U.calling g mk a) (Vm.Alike.refl U.vm) qK⟩, va_recv hK hP (ci := 11) (q := (RX9, TX9, 38)) rfl (q0 := 0) rfl, fun U hU hW => ⟨rfl, by rw [hU]; exact hP, va_K.moved hW.alike hK⟩⟩ rfl rfl hl.1 rfl (lv_room (Nat.le_of_ble_eq_true rfl)) dX9_bOf_7 ⟨Nat.le_of_ble_eq_true rfl, Nat.le_of_ble_eq_true rfl⟩)) (fun r_1 er_1 => ?_)
  have k_2 := er_1
  refine lv_iconst (v := 5) hx hb dX9_bOf_10 (by decide) ?_
  refine lv_iadd hx hb dX9_bOf_11 ?_
  refine lv_topi (fun v_3 ev_3 => ?_)
  have rg1 := iv_rng r_1
  have hv_3 : v_3.toInt = r_1.toInt + 5 := by rw [ev_3]; exact (iv_add (by omega) (by omega)).trans (by omega)
  clear ev_3
  refine lv_iconst (v := 4) hx hb dX9_bOf_12 (by decide) ?_
  refine vp_callSl (va_Run.run (va_runV (As := [.int v_3, .int (4 : Int32)]) (rest := []) ⟨hx, hb, hml, hown, hts⟩ (v_X9_number l dC dI o c kc st lg ai al v_3 (4 : Int32) (by omega) (by omega) (by omega) (by omega)) (cwV 2 hts gX9_bOf_X9_number rfl rfl rfl (by decide +kernel) ⟨Nat.le_of_ble_eq_true rfl, Nat.le_of_ble_eq_true rfl⟩) ⟨fun a U g mk q => by obtain ⟨q0, qP, qK⟩ := q; exact ⟨q0, qP, va_K.moved (u := U) (U := U.calling g mk a) (Vm.Alike.refl U.vm) qK⟩, va_recv hK hP (ci := 11) (q := (RX9, TX9, 38)) rfl (q0 := 0) rfl, fun U hU hW => ⟨rfl, by rw [hU]; exact hP, va_K.moved hW.alike hK⟩⟩ rfl rfl hl.1 rfl (lv_room (Nat.le_of_ble_eq_true rfl)) dX9_bOf_13 ⟨Nat.le_of_ble_eq_true rfl, Nat.le_of_ble_eq_true rfl⟩)) (fun r_4 er_4 => ?_)
  have q_5 := er_4
  refine lv_l2i hx hb dX9_bOf_16 rfl ?_
  refine lv_topi (fun v_6 ev_6 => ?_)
  exact W.iret hx hb hr (fun t ht hW => ⟨_, rfl, (by rw [ev_6, q_5, rp5_of (a := st 7) (r := p0) (x := v_3) (by omega) (by omega) (by omega) (by omega) (by omega), show (4 : Int32).toNatClampNeg = 4 by decide]; rfl), ht⟩) (fun q h => by cases h) dX9_bOf_17

set_option maxHeartbeats 4000000 in
set_option maxRecDepth 100000 in
theorem v_X9_cOf (l : Launch) (dC : Nat → ClassId) (dI : Nat → Nat → Nat) (o : Nat) (c : Nat → Nat) (kc : Nat → ClassId) (st : Nat → Int32) (lg : Nat → Int64) (ai : Nat → Nat → Int32) (al : Nat → Nat → Int64) (p0 : Int32) (hf7a : 0 ≤ (st 7).toInt) (hf7b : (st 7).toInt ≤ 1) (hq0 : -1 ≤ p0.toInt) (hq1 : p0.toInt ≤ 255) : Met l yX9_cOf wsX9_cOf ({ frames := 2, cells := 0, slots := 0, locals := 49 }) (va_Pc [.ref o, .int p0] (fun U => va_P (dC, dI) vwCl (rw_W o c kc st lg ai al) U.heap ∧ va_K (dC, dI) vwCl (rw_T kc) U)) (vp_Sl (fun _ => True)) 0 0 (fun _ => False) := by
  refine Met.ofW (cc := cX9_cOf) (maxL := 2) (ret := (some .long)) (by decide) rfl ?_
  intro p e s m args below meth cM s₁ B hml hv
  obtain ⟨rfl, hP, hK⟩ := hv
  have hx := B.exec
  have hb := B.bytes
  have hr := B.returns
  have hts := atoms_spec (ws := wsX9_cOf) B.pre
  have hown : s.vm.findClass RX9 = some m.cls := findClass_of_methodNamed B.named
  have hl := lv_entry ([.ref o, .int p0]) (n := 2) (Nat.le_of_ble_eq_true rfl)
  rw [lg_entry_eq]
  generalize (lg_sl ([.ref o, .int p0]) ++ List.replicate (2 - (lg_sl ([.ref o, .int p0])).length) Slot.unset).toArray = ls at hl ⊢
  have hl : lv_has ls 2 [(0, .ref o), (1, .int p0)] := hl
  have z_8 : (8 : Int32).toInt = 8 := by decide
  have z_9 : (9 : Int32).toInt = 9 := by decide
  have hin9 : ∀ w ∈ u_ws RX9 TX9 38, w ∈ wsX9_cOf := by decide +kernel
  refine lv_aload_n hx hb dX9_cOf_0 rfl (lv_at hl 0 rfl) ?_
  refine lv_aload_n hx hb dX9_cOf_1 rfl (lv_at hl 0 rfl) ?_
  refine lv_aload_n hx hb dX9_cOf_2 rfl (lv_at hl 0 rfl) ?_
  refine va_get (D := (dC, dI)) (ci := 11) (v := .int (st 7)) (C := RX9) (T := TX9) (N := 38) hx hb hts hin9 hown hK hP 0 rfl rfl 7 (by decide) (hts (.fieldLink RX9 76 "BlockLogModel" "area" "I") (by decide +kernel)) (fun _ h9 => h9) rfl dX9_cOf_3 ?_
  refine lv_iload_n hx hb dX9_cOf_6 rfl (lv_at hl 1 rfl) ?_
  refine vp_callSi (va_Run.run (va_runV (As := [.int (st 7), .int p0]) (rest := [.ref o]) ⟨hx, hb, hml, hown, hts⟩ (v_X9_rowPlace l dC dI o c kc st lg ai al (st 7) p0 (by omega) (by omega) (by omega) (by omega)) (cwV 2 hts gX9_cOf_X9_rowPlace rfl rfl rfl (by decide +kernel) ⟨Nat.le_of_ble_eq_true rfl, Nat.le_of_ble_eq_true rfl⟩) ⟨fun a U g mk q => by obtain ⟨q0, qP, qK⟩ := q; exact ⟨q0, qP, va_K.moved (u := U) (U := U.calling g mk a) (Vm.Alike.refl U.vm) qK⟩, va_recv hK hP (ci := 11) (q := (RX9, TX9, 38)) rfl (q0 := 0) rfl, fun U hU hW => ⟨rfl, by rw [hU]; exact hP, va_K.moved hW.alike hK⟩⟩ rfl rfl hl.1 rfl (lv_room (Nat.le_of_ble_eq_true rfl)) dX9_cOf_7 ⟨Nat.le_of_ble_eq_true rfl, Nat.le_of_ble_eq_true rfl⟩)) (fun r_1 er_1 => ?_)
  have k_2 := er_1
  refine lv_bipush (v := 9) hx hb dX9_cOf_10 (by decide) ?_
  refine lv_iadd hx hb dX9_cOf_12 ?_
  refine lv_topi (fun v_3 ev_3 => ?_)
  have rg1 := iv_rng r_1
  have hv_3 : v_3.toInt = r_1.toInt + 9 := by rw [ev_3]; exact (iv_add (by omega) (by omega)).trans (by omega)
  clear ev_3
  refine lv_bipush (v := 8) hx hb dX9_cOf_13 (by decide) ?_
  refine vp_callSl (va_Run.run (va_runV (As := [.int v_3, .int (8 : Int32)]) (rest := []) ⟨hx, hb, hml, hown, hts⟩ (v_X9_number l dC dI o c kc st lg ai al v_3 (8 : Int32) (by omega) (by omega) (by omega) (by omega)) (cwV 2 hts gX9_cOf_X9_number rfl rfl rfl (by decide +kernel) ⟨Nat.le_of_ble_eq_true rfl, Nat.le_of_ble_eq_true rfl⟩) ⟨fun a U g mk q => by obtain ⟨q0, qP, qK⟩ := q; exact ⟨q0, qP, va_K.moved (u := U) (U := U.calling g mk a) (Vm.Alike.refl U.vm) qK⟩, va_recv hK hP (ci := 11) (q := (RX9, TX9, 38)) rfl (q0 := 0) rfl, fun U hU hW => ⟨rfl, by rw [hU]; exact hP, va_K.moved hW.alike hK⟩⟩ rfl rfl hl.1 rfl (lv_room (Nat.le_of_ble_eq_true rfl)) dX9_cOf_15 ⟨Nat.le_of_ble_eq_true rfl, Nat.le_of_ble_eq_true rfl⟩)) (fun r_4 er_4 => ?_)
  have q_5 := er_4
  exact W.lret hx hb hr (fun t ht hW => ⟨_, rfl, trivial, ht⟩) (fun q h => by cases h) dX9_cOf_18
