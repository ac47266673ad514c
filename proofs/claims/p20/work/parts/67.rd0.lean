set_option maxHeartbeats 4000000 in
set_option maxRecDepth 100000 in
theorem v_X9_meant (l : Launch) (dC : Nat → ClassId) (dI : Nat → Nat → Nat) (o : Nat) (c : Nat → Nat) (kc : Nat → ClassId) (st : Nat → Int32) (lg : Nat → Int64) (ai : Nat → Nat → Int32) (al : Nat → Nat → Int64) (p0 : Int64) (hf16a : 0 ≤ (st 16).toInt) (hf16b : (st 16).toInt ≤ 128) : Met l yX9_meant wsX9_meant ({ frames := 0, cells := 0, slots := 0, locals := 0 }) (va_Pc [.ref o, .long p0] (fun U => va_P (dC, dI) vwCl (rw_W o c kc st lg ai al) U.heap ∧ va_K (dC, dI) vwCl (rw_T kc) U)) (vp_Sl (fun r => True)) 0 0 (fun _ => False) := by
  refine Met.ofW (cc := cX9_meant) (maxL := 4) (ret := (some .long)) (by decide) rfl ?_
  intro p e s m args below meth cM s₁ B hml hv
  obtain ⟨rfl, hP, hK⟩ := hv
  have hx := B.exec
  have hb := B.bytes
  have hr := B.returns
  have hts := atoms_spec (ws := wsX9_meant) B.pre
  have hown : s.vm.findClass RX9 = some m.cls := findClass_of_methodNamed B.named
  have hl := lv_entry ([.ref o, .long p0]) (n := 4) (Nat.le_of_ble_eq_true rfl)
  rw [lg_entry_eq]
  generalize (lg_sl ([.ref o, .long p0]) ++ List.replicate (4 - (lg_sl ([.ref o, .long p0])).length) Slot.unset).toArray = ls at hl ⊢
  have hl : lv_has ls 4 [(0, .ref o), (1, .long p0)] := hl
  have z_0 : (0 : Int32).toInt = 0 := by decide
  have hin9 : ∀ w ∈ u_ws RX9 TX9 38, w ∈ wsX9_meant := by decide +kernel
  refine lv_lload_n hx hb dX9_meant_0 rfl (lv_at hl 1 rfl) ?_
  refine lv_ldc2 hx hb hown (hts (.constantLong RX9 296 (-128)) (by decide +kernel)) dX9_meant_1 ?_
  refine W.lcmp hx hb dX9_meant_4 ?_
  refine lv_topi (fun v_1 ev_1 => ?_)
  refine lv_if_lt (tgt := 51) hx hb dX9_meant_5 (by decide) (fun c_2 => ?_) (fun c_2 => ?_)
  · skip
    have ic_2 := iv_lt c_2
    refine lv_lload_n hx hb dX9_meant_51 rfl (lv_at hl 1 rfl) ?_
    exact W.lret hx hb hr (fun t ht hW => ⟨_, rfl, trivial, ht⟩) (fun q h => by cases h) dX9_meant_52
  · skip
    have ic_2 := iv_nlt c_2
    refine lv_lload_n hx hb dX9_meant_8 rfl (lv_at hl 1 rfl) ?_
    refine lv_ldc2 hx hb hown (hts (.constantLong RX9 298 (-1)) (by decide +kernel)) dX9_meant_9 ?_
    refine W.lcmp hx hb dX9_meant_12 ?_
    refine lv_topi (fun v_3 ev_3 => ?_)
    refine lv_if_gt (tgt := 51) hx hb dX9_meant_13 (by decide) (fun c_4 => ?_) (fun c_4 => ?_)
    · skip
      have ic_4 := iv_lt c_4
      refine lv_lload_n hx hb dX9_meant_51 rfl (lv_at hl 1 rfl) ?_
      exact W.lret hx hb hr (fun t ht hW => ⟨_, rfl, trivial, ht⟩) (fun q h => by cases h) dX9_meant_52
    · skip
      have ic_4 := iv_nlt c_4
      refine lv_ldc2 hx hb hown (hts (.constantLong RX9 298 (-1)) (by decide +kernel)) dX9_meant_16 ?_
      refine lv_lload_n hx hb dX9_meant_19 rfl (lv_at hl 1 rfl) ?_
      refine lv_lsub hx hb dX9_meant_20 ?_
      refine lv_topl (fun w_5 ew_5 => ?_)
      refine lv_l2i hx hb dX9_meant_21 rfl ?_
      refine lv_topi (fun v_6 ev_6 => ?_)
      have k_7 : (0 ≤ v_6.toInt ∧ v_6.toInt ≤ 127) := (mt_ix (by assumption) (by assumption) (by assumption) (by assumption) (by subst_vars; rfl))
      refine lv_istore_n (lv' := [(3, .int v_6), (0, .ref o), (1, .long p0)]) hx hb dX9_meant_22 rfl hl (by decide) rfl (fun ls hl => ?_)
      refine lv_iload_n hx hb dX9_meant_23 rfl (lv_at hl 0 rfl) ?_
      refine lv_aload_n hx hb dX9_meant_24 rfl (lv_at hl 1 rfl) ?_
      refine va_get (D := (dC, dI)) (ci := 11) (v := .int (st 16)) (C := RX9) (T := TX9) (N := 38) hx hb hts hin9 hown hK hP 0 rfl rfl 16 (by decide) (hts (.fieldLink RX9 167 "BlockLogModel" "many" "I") (by decide +kernel)) (fun _ h9 => h9) rfl dX9_meant_25 ?_
      refine lv_icmp_ge (tgt := 49) hx hb dX9_meant_28 (by decide) (fun c_8 => ?_) (fun c_8 => ?_)
      · skip
        have ic_8 := iv_le c_8
        refine lv_lconst (v := 0) hx hb dX9_meant_49 (by decide) ?_
        exact W.lret hx hb hr (fun t ht hW => ⟨_, rfl, trivial, ht⟩) (fun q h => by cases h) dX9_meant_50
      · skip
        have ic_8 := iv_nle c_8
        refine lv_aload_n hx hb dX9_meant_31 rfl (lv_at hl 1 rfl) ?_
        refine va_get (D := (dC, dI)) (ci := 11) (v := .ref (c 19)) (C := RX9) (T := TX9) (N := 38) hx hb hts hin9 hown hK hP 0 rfl rfl 19 (by decide) (hts (.fieldLink RX9 30 "BlockLogModel" "isGroup" "[Z") (by decide +kernel)) (fun _ h9 => h9) rfl dX9_meant_32 ?_
        refine lv_iload_n hx hb dX9_meant_35 rfl (lv_at hl 0 rfl) ?_
        refine va_zald (f := ai 19) hx hb hK hP 7 6 rfl rfl (iv_in (i := v_6) (by omega) (by omega)) dX9_meant_36 ?_
        refine lv_topi (fun v_9 ev_9 => ?_)
        have hX_isGroup := ev_9
        clear ev_9
        refine lv_if_eq (tgt := 49) hx hb dX9_meant_37 (by decide) (fun c_10 => ?_) (fun c_10 => ?_)
        · skip
          have ic_10 := iv_eq c_10
          refine lv_lconst (v := 0) hx hb dX9_meant_49 (by decide) ?_
          exact W.lret hx hb hr (fun t ht hW => ⟨_, rfl, trivial, ht⟩) (fun q h => by cases h) dX9_meant_50
        · skip
          have ic_10 := iv_ne c_10
          refine lv_aload_n hx hb dX9_meant_40 rfl (lv_at hl 1 rfl) ?_
          refine va_get (D := (dC, dI)) (ci := 11) (v := .ref (c 18)) (C := RX9) (T := TX9) (N := 38) hx hb hts hin9 hown hK hP 0 rfl rfl 18 (by decide) (hts (.fieldLink RX9 27 "BlockLogModel" "digestAt" "[J") (by decide +kernel)) (fun _ h9 => h9) rfl dX9_meant_41 ?_
          refine lv_iload_n hx hb dX9_meant_44 rfl (lv_at hl 0 rfl) ?_
          refine va_lald (f := al 18) hx hb hK hP 6 5 rfl rfl (iv_in (i := v_6) (by omega) (by omega)) dX9_meant_45 ?_
          refine lv_topl (fun w_11 ew_11 => ?_)
          clear ew_11
          refine lv_goto (tgt := 50) hx hb dX9_meant_46 (by decide) ?_
          exact W.lret hx hb hr (fun t ht hW => ⟨_, rfl, trivial, ht⟩) (fun q h => by cases h) dX9_meant_50

set_option maxHeartbeats 4000000 in
set_option maxRecDepth 100000 in
theorem v_X9_changesBehind (l : Launch) (dC : Nat → ClassId) (dI : Nat → Nat → Nat) (o : Nat) (c : Nat → Nat) (kc : Nat → ClassId) (st : Nat → Int32) (lg : Nat → Int64) (ai : Nat → Nat → Int32) (al : Nat → Nat → Int64) (p0 : Int32) (p1 : Int32) (hf7a : 0 ≤ (st 7).toInt) (hf7b : (st 7).toInt ≤ 1) (hf16a : 0 ≤ (st 16).toInt) (hf16b : (st 16).toInt ≤ 128) (hq0 : 0 ≤ p0.toInt) (hq1 : p0.toInt ≤ 127) : Met l yX9_changesBehind wsX9_changesBehind ({ frames := 2, cells := 0, slots := 0, locals := 43 }) (va_Pc [.ref o, .int p0, .int p1] (fun U => va_P (dC, dI) vwCl (rw_W o c kc st lg ai al) U.heap ∧ va_K (dC, dI) vwCl (rw_T kc) U)) (vp_Si (fun r => (0 ≤ r.toInt) ∧ (r.toInt ≤ 1) ∧ (r.toInt = 1 → okN (ai 0) (st 7) (st 16) p0 p1))) 0 0 (fun _ => False) := by
  refine Met.ofW (cc := cX9_changesBehind) (maxL := 5) (ret := (some .boolean)) (by decide) rfl ?_
  intro p e s m args below meth cM s₁ B hml hv
  obtain ⟨rfl, hP, hK⟩ := hv
  have hx := B.exec
  have hb := B.bytes
  have hr := B.returns
  have hts := atoms_spec (ws := wsX9_changesBehind) B.pre
  have hown : s.vm.findClass RX9 = some m.cls := findClass_of_methodNamed B.named
  have hl := lv_entry ([.ref o, .int p0, .int p1]) (n := 5) (Nat.le_of_ble_eq_true rfl)
  rw [lg_entry_eq]
  generalize (lg_sl ([.ref o, .int p0, .int p1]) ++ List.replicate (5 - (lg_sl ([.ref o, .int p0, .int p1])).length) Slot.unset).toArray = ls at hl ⊢
  have hl : lv_has ls 5 [(0, .ref o), (1, .int p0), (2, .int p1)] := hl
  have z_0 : (0 : Int32).toInt = 0 := by decide
  have z_1 : (1 : Int32).toInt = 1 := by decide
  have z_3 : (3 : Int32).toInt = 3 := by decide
  have z_16 : (16 : Int32).toInt = 16 := by decide
  have hin9 : ∀ w ∈ u_ws RX9 TX9 38, w ∈ wsX9_changesBehind := by decide +kernel
  refine lv_iload_n hx hb dX9_changesBehind_0 rfl (lv_at hl 2 rfl) ?_
  refine lv_iconst (v := 0) hx hb dX9_changesBehind_1 (by decide) ?_
  refine lv_bipush (v := 16) hx hb dX9_changesBehind_2 (by decide) ?_
  refine vp_callSi (va_Run.run (va_runS (As := [.int p1, .int (0 : Int32), .int (16 : Int32)]) (rest := []) ⟨hx, hb, hml, hown, hts⟩ (v_X9_within l dC dI p1 (0 : Int32) (16 : Int32) ) (va_cwS 3 hts gX9_changesBehind_X9_within rfl rfl rfl (by decide +kernel) ⟨Nat.le_of_ble_eq_true rfl, Nat.le_of_ble_eq_true rfl⟩) ⟨fun a U g mk q => q, fun U hU hW => ⟨rfl, trivial⟩⟩ rfl rfl hl.1 rfl (lv_room (Nat.le_of_ble_eq_true rfl)) dX9_changesBehind_4 ⟨Nat.le_of_ble_eq_true rfl, Nat.le_of_ble_eq_true rfl⟩)) (fun r_1 er_1 => ?_)
  obtain ⟨k_2, k_3, k_4, k_5, k_6⟩ := er_1
  rcases iv_01 (a := r_1) (by omega) (by omega) with b_7 | b_7
  · skip
    have ib_7 := iv_eq b_7
    rw [b_7]
    refine lv_if_eq (tgt := 24) hx hb dX9_changesBehind_7 (by decide) (fun c_8 => ?_) (fun c_8 => ?_)
    · skip
      have ic_8 := iv_eq c_8
      refine lv_iconst (v := 0) hx hb dX9_changesBehind_24 (by decide) ?_
      refine lv_istore_n (lv' := [(3, .int (0 : Int32)), (0, .ref o), (1, .int p0), (2, .int p1)]) hx hb dX9_changesBehind_25 rfl hl (by decide) rfl (fun ls hl => ?_)
      refine lv_iconst (v := 1) hx hb dX9_changesBehind_26 (by decide) ?_
      refine lv_istore (lv' := [(4, .int (1 : Int32)), (3, .int (0 : Int32)), (0, .ref o), (1, .int p0), (2, .int p1)]) hx hb dX9_changesBehind_27 hl (by decide) rfl (fun ls hl => ?_)
      have loop29 : ∀ (n : Nat) (l4_29 : Int32) (l3_29 : Int32) (ls : Array Slot), (0 ≤ l3_29.toInt) → (l3_29.toInt ≤ 1) → (l3_29.toInt = 1 → ((0 ≤ p1.toInt ∧ p1.toInt ≤ 16) ∧ p0.toInt + p1.toInt < (st 16).toInt)) → (1 ≤ l4_29.toInt) → (l4_29.toInt ≤ 18) → (l3_29.toInt = 1 → l4_29.toInt ≤ p1.toInt + 1) → (cbI (ai 0) (st 7) p0 l3_29 l4_29) → (20 - l4_29.toInt : Int).toNat < n → lv_has ls 5 [(4, .int l4_29), (3, .int l3_29), (0, .ref o), (1, .int p0), (2, .int p1)] → W p l e (headSpec wsX9_changesBehind ({ frames := 2, cells := 0, slots := 0, locals := 43 })).room s m ([.ref o, .int p0, .int p1] : List Value).toArray below meth cM s.heap [] 0 0 (MQ below (vp_Si (fun r => (0 ≤ r.toInt) ∧ (r.toInt ≤ 1) ∧ (r.toInt = 1 → okN (ai 0) (st 7) (st 16) p0 p1))) ([.ref o, .int p0, .int p1] : List Value).toArray s 0 0 (fun _ => False)) (F0 m 29 ls []) := by
        intro n
        induction n with
        | zero => intro l4_29 l3_29 ls if0_29 if1_29 if2_29 if3_29 if4_29 if5_29 hcb hm; exact absurd hm (Nat.not_lt_zero _)
        | succ n ih29 =>
          intro l4_29 l3_29 ls if0_29 if1_29 if2_29 if3_29 if4_29 if5_29 hcb hm29 hl
          refine lv_iload_n hx hb dX9_changesBehind_29 rfl (lv_at hl 1 rfl) ?_
          refine lv_if_eq (tgt := 63) hx hb dX9_changesBehind_30 (by decide) (fun c_9 => ?_) (fun c_9 => ?_)
          · skip
            have ic_9 := iv_eq c_9
            refine lv_iload_n hx hb dX9_changesBehind_63 rfl (lv_at hl 1 rfl) ?_
            rcases iv_01 (a := l3_29) (by omega) (by omega) with b_10 | b_10
            · skip
              have ib_10 := iv_eq b_10
              rw [b_10]
              exact W.zret hx hb hr rfl (fun t ht hW => ⟨_, rfl, ⟨(by omega), (by omega), (by first | exact fun h => absurd h (by omega) | exact fun _ => okN_of hcb (by omega) (by omega) (by omega) (by omega) (by omega) (by omega))⟩, ht⟩) (fun q h => by cases h) dX9_changesBehind_64
            · skip
              exfalso
              have := iv_eq b_10
              omega
          · skip
            have ic_9 := iv_ne c_9
            exfalso
            omega
      exact loop29 ((20 - 1 : Int).toNat + 1) (1 : Int32) (0 : Int32) _ (by omega) (by omega) (by omega) (by omega) (by omega) (by omega) (cbI_0 (by omega)) (by omega) (lv_sub hl [0, 1, 2, 3, 4] rfl)
    · skip
      have ic_8 := iv_ne c_8
      exfalso
      omega
  · skip
    have ib_7 := iv_eq b_7
    rw [b_7]
    refine lv_if_eq (tgt := 24) hx hb dX9_changesBehind_7 (by decide) (fun c_11 => ?_) (fun c_11 => ?_)
    · skip
      have ic_11 := iv_eq c_11
      exfalso
      omega
    · skip
      have ic_11 := iv_ne c_11
      refine lv_iload_n hx hb dX9_changesBehind_10 rfl (lv_at hl 1 rfl) ?_
      refine lv_iload_n hx hb dX9_changesBehind_11 rfl (lv_at hl 2 rfl) ?_
      refine lv_iadd hx hb dX9_changesBehind_12 ?_
      refine lv_topi (fun v_12 ev_12 => ?_)
      have rg1 := iv_rng p0
      have rg2 := iv_rng p1
      have hv_12 : v_12.toInt = p0.toInt + p1.toInt := by rw [ev_12]; exact (iv_add (by omega) (by omega)).trans (by omega)
      clear ev_12
      refine lv_aload_n hx hb dX9_changesBehind_13 rfl (lv_at hl 0 rfl) ?_
      refine va_get (D := (dC, dI)) (ci := 11) (v := .int (st 16)) (C := RX9) (T := TX9) (N := 38) hx hb hts hin9 hown hK hP 0 rfl rfl 16 (by decide) (hts (.fieldLink RX9 167 "BlockLogModel" "many" "I") (by decide +kernel)) (fun _ h9 => h9) rfl dX9_changesBehind_14 ?_
      refine lv_icmp_ge (tgt := 24) hx hb dX9_changesBehind_17 (by decide) (fun c_13 => ?_) (fun c_13 => ?_)
      · skip
        have ic_13 := iv_le c_13
        refine lv_iconst (v := 0) hx hb dX9_changesBehind_24 (by decide) ?_
        refine lv_istore_n (lv' := [(3, .int (0 : Int32)), (0, .ref o), (1, .int p0), (2, .int p1)]) hx hb dX9_changesBehind_25 rfl hl (by decide) rfl (fun ls hl => ?_)
        refine lv_iconst (v := 1) hx hb dX9_changesBehind_26 (by decide) ?_
        refine lv_istore (lv' := [(4, .int (1 : Int32)), (3, .int (0 : Int32)), (0, .ref o), (1, .int p0), (2, .int p1)]) hx hb dX9_changesBehind_27 hl (by decide) rfl (fun ls hl => ?_)
        have loop29 : ∀ (n : Nat) (l4_29 : Int32) (l3_29 : Int32) (ls : Array Slot), (0 ≤ l3_29.toInt) → (l3_29.toInt ≤ 1) → (l3_29.toInt = 1 → ((0 ≤ p1.toInt ∧ p1.toInt ≤ 16) ∧ p0.toInt + p1.toInt < (st 16).toInt)) → (1 ≤ l4_29.toInt) → (l4_29.toInt ≤ 18) → (l3_29.toInt = 1 → l4_29.toInt ≤ p1.toInt + 1) → (cbI (ai 0) (st 7) p0 l3_29 l4_29) → (20 - l4_29.toInt : Int).toNat < n → lv_has ls 5 [(4, .int l4_29), (3, .int l3_29), (0, .ref o), (1, .int p0), (2, .int p1)] → W p l e (headSpec wsX9_changesBehind ({ frames := 2, cells := 0, slots := 0, locals := 43 })).room s m ([.ref o, .int p0, .int p1] : List Value).toArray below meth cM s.heap [] 0 0 (MQ below (vp_Si (fun r => (0 ≤ r.toInt) ∧ (r.toInt ≤ 1) ∧ (r.toInt = 1 → okN (ai 0) (st 7) (st 16) p0 p1))) ([.ref o, .int p0, .int p1] : List Value).toArray s 0 0 (fun _ => False)) (F0 m 29 ls []) := by
          intro n
          induction n with
          | zero => intro l4_29 l3_29 ls if0_29 if1_29 if2_29 if3_29 if4_29 if5_29 hcb hm; exact absurd hm (Nat.not_lt_zero _)
          | succ n ih29 =>
            intro l4_29 l3_29 ls if0_29 if1_29 if2_29 if3_29 if4_29 if5_29 hcb hm29 hl
            refine lv_iload_n hx hb dX9_changesBehind_29 rfl (lv_at hl 1 rfl) ?_
            refine lv_if_eq (tgt := 63) hx hb dX9_changesBehind_30 (by decide) (fun c_14 => ?_) (fun c_14 => ?_)
            · skip
              have ic_14 := iv_eq c_14
              refine lv_iload_n hx hb dX9_changesBehind_63 rfl (lv_at hl 1 rfl) ?_
              rcases iv_01 (a := l3_29) (by omega) (by omega) with b_15 | b_15
              · skip
                have ib_15 := iv_eq b_15
                rw [b_15]
                exact W.zret hx hb hr rfl (fun t ht hW => ⟨_, rfl, ⟨(by omega), (by omega), (by first | exact fun h => absurd h (by omega) | exact fun _ => okN_of hcb (by omega) (by omega) (by omega) (by omega) (by omega) (by omega))⟩, ht⟩) (fun q h => by cases h) dX9_changesBehind_64
              · skip
                exfalso
                have := iv_eq b_15
                omega
            · skip
              have ic_14 := iv_ne c_14
              exfalso
              omega
        exact loop29 ((20 - 1 : Int).toNat + 1) (1 : Int32) (0 : Int32) _ (by omega) (by omega) (by omega) (by omega) (by omega) (by omega) (cbI_0 (by omega)) (by omega) (lv_sub hl [0, 1, 2, 3, 4] rfl)
      · skip
        have ic_13 := iv_nle c_13
        refine lv_iconst (v := 1) hx hb dX9_changesBehind_20 (by decide) ?_
        refine lv_goto (tgt := 25) hx hb dX9_changesBehind_21 (by decide) ?_
        refine lv_istore_n (lv' := [(3, .int (1 : Int32)), (0, .ref o), (1, .int p0), (2, .int p1)]) hx hb dX9_changesBehind_25 rfl hl (by decide) rfl (fun ls hl => ?_)
        refine lv_iconst (v := 1) hx hb dX9_changesBehind_26 (by decide) ?_
        refine lv_istore (lv' := [(4, .int (1 : Int32)), (3, .int (1 : Int32)), (0, .ref o), (1, .int p0), (2, .int p1)]) hx hb dX9_changesBehind_27 hl (by decide) rfl (fun ls hl => ?_)
        have loop29 : ∀ (n : Nat) (l4_29 : Int32) (l3_29 : Int32) (ls : Array Slot), (0 ≤ l3_29.toInt) → (l3_29.toInt ≤ 1) → (l3_29.toInt = 1 → ((0 ≤ p1.toInt ∧ p1.toInt ≤ 16) ∧ p0.toInt + p1.toInt < (st 16).toInt)) → (1 ≤ l4_29.toInt) → (l4_29.toInt ≤ 18) → (l3_29.toInt = 1 → l4_29.toInt ≤ p1.toInt + 1) → (cbI (ai 0) (st 7) p0 l3_29 l4_29) → (20 - l4_29.toInt : Int).toNat < n → lv_has ls 5 [(4, .int l4_29), (3, .int l3_29), (0, .ref o), (1, .int p0), (2, .int p1)] → W p l e (headSpec wsX9_changesBehind ({ frames := 2, cells := 0, slots := 0, locals := 43 })).room s m ([.ref o, .int p0, .int p1] : List Value).toArray below meth cM s.heap [] 0 0 (MQ below (vp_Si (fun r => (0 ≤ r.toInt) ∧ (r.toInt ≤ 1) ∧ (r.toInt = 1 → okN (ai 0) (st 7) (st 16) p0 p1))) ([.ref o, .int p0, .int p1] : List Value).toArray s 0 0 (fun _ => False)) (F0 m 29 ls []) := by
          intro n
          induction n with
          | zero => intro l4_29 l3_29 ls if0_29 if1_29 if2_29 if3_29 if4_29 if5_29 hcb hm; exact absurd hm (Nat.not_lt_zero _)
          | succ n ih29 =>
            intro l4_29 l3_29 ls if0_29 if1_29 if2_29 if3_29 if4_29 if5_29 hcb hm29 hl
            refine lv_iload_n hx hb dX9_changesBehind_29 rfl (lv_at hl 1 rfl) ?_
            refine lv_if_eq (tgt := 63) hx hb dX9_changesBehind_30 (by decide) (fun c_16 => ?_) (fun c_16 => ?_)
            · skip
              have ic_16 := iv_eq c_16
              refine lv_iload_n hx hb dX9_changesBehind_63 rfl (lv_at hl 1 rfl) ?_
              rcases iv_01 (a := l3_29) (by omega) (by omega) with b_17 | b_17
              · skip
                have ib_17 := iv_eq b_17
                rw [b_17]
                exact W.zret hx hb hr rfl (fun t ht hW => ⟨_, rfl, ⟨(by omega), (by omega), (by first | exact fun h => absurd h (by omega) | exact fun _ => okN_of hcb (by omega) (by omega) (by omega) (by omega) (by omega) (by omega))⟩, ht⟩) (fun q h => by cases h) dX9_changesBehind_64
              · skip
                exfalso
                have := iv_eq b_17
                omega
            · skip
              have ic_16 := iv_ne c_16
              refine lv_iload hx hb dX9_changesBehind_33 (lv_at hl 0 rfl) ?_
              refine lv_iload_n hx hb dX9_changesBehind_35 rfl (lv_at hl 4 rfl) ?_
              refine lv_icmp_gt (tgt := 63) hx hb dX9_changesBehind_36 (by decide) (fun c_18 => ?_) (fun c_18 => ?_)
              · skip
                have ic_18 := iv_lt c_18
                refine lv_iload_n hx hb dX9_changesBehind_63 rfl (lv_at hl 1 rfl) ?_
                rcases iv_01 (a := l3_29) (by omega) (by omega) with b_19 | b_19
                · skip
                  exfalso
                  have := iv_eq b_19
                  omega
                · skip
                  have ib_19 := iv_eq b_19
                  rw [b_19]
                  exact W.zret hx hb hr rfl (fun t ht hW => ⟨_, rfl, ⟨(by omega), (by omega), (by first | exact fun h => absurd h (by omega) | exact fun _ => okN_of hcb (by omega) (by omega) (by omega) (by omega) (by omega) (by omega))⟩, ht⟩) (fun q h => by cases h) dX9_changesBehind_64
              · skip
                have ic_18 := iv_nlt c_18
                refine lv_aload_n hx hb dX9_changesBehind_39 rfl (lv_at hl 2 rfl) ?_
                refine lv_iload_n hx hb dX9_changesBehind_40 rfl (lv_at hl 3 rfl) ?_
                refine lv_iload hx hb dX9_changesBehind_41 (lv_at hl 0 rfl) ?_
                refine lv_iadd hx hb dX9_changesBehind_43 ?_
                refine lv_topi (fun v_20 ev_20 => ?_)
                have rg3 := iv_rng l4_29
                have hv_20 : v_20.toInt = p0.toInt + l4_29.toInt := by rw [ev_20]; exact (iv_add (by omega) (by omega)).trans (by omega)
                clear ev_20
                have hkv : v_20.toInt = p0.toInt + l4_29.toInt := by omega
                refine vp_callSi (va_Run.run (va_runV (As := [.int v_20]) (rest := []) ⟨hx, hb, hml, hown, hts⟩ (v_X9_kindOf l dC dI o c kc st lg ai al v_20 (show 0 ≤ (st 7).toInt by omega) (show (st 7).toInt ≤ 1 by omega) (by omega) (by omega)) (cwV 1 hts gX9_changesBehind_X9_kindOf rfl rfl rfl (by decide +kernel) ⟨Nat.le_of_ble_eq_true rfl, Nat.le_of_ble_eq_true rfl⟩) ⟨fun a U g mk q => by obtain ⟨q0, qP, qK⟩ := q; exact ⟨q0, qP, va_K.moved (u := U) (U := U.calling g mk a) (Vm.Alike.refl U.vm) qK⟩, va_recv hK hP (ci := 11) (q := (RX9, TX9, 38)) rfl (q0 := 0) rfl, fun U hU hW => ⟨rfl, by rw [hU]; exact hP, va_K.moved hW.alike hK⟩⟩ rfl rfl hl.1 rfl (lv_room (Nat.le_of_ble_eq_true rfl)) dX9_changesBehind_44 ⟨Nat.le_of_ble_eq_true rfl, Nat.le_of_ble_eq_true rfl⟩)) (fun r_21 er_21 => ?_)
                obtain ⟨k_22, k_23, k_24⟩ := er_21
                have k_22 : r_21.toInt = (rK (ai 0) (st 7) v_20).toInt := k_22
                refine lv_iconst (v := 3) hx hb dX9_changesBehind_47 (by decide) ?_
                refine lv_icmp_ne (tgt := 55) hx hb dX9_changesBehind_48 (by decide) (fun c_25 => ?_) (fun c_25 => ?_)
                · skip
                  have ic_25 := iv_ne c_25
                  refine lv_iconst (v := 0) hx hb dX9_changesBehind_55 (by decide) ?_
                  refine lv_istore_n (lv' := [(3, .int (0 : Int32)), (4, .int l4_29), (0, .ref o), (1, .int p0), (2, .int p1)]) hx hb dX9_changesBehind_56 rfl hl (by decide) rfl (fun ls hl => ?_)
                  obtain ⟨x_26, ex_26⟩ : ∃ z : Int32, z = l4_29 + (1) := ⟨_, rfl⟩
                  refine lv_iinc (v := x_26) (lv' := [(4, .int x_26), (3, .int (0 : Int32)), (0, .ref o), (1, .int p0), (2, .int p1)]) hx hb dX9_changesBehind_57 hl (k := 1) rfl (by rw [ex_26]; rfl) (by decide) rfl (fun ls hl => ?_)
                  have hx_26 : x_26.toInt = l4_29.toInt + (1) := by rw [ex_26]; exact (iv_add (by omega) (by omega)).trans (by omega)
                  clear ex_26
                  refine lv_goto (tgt := 29) hx hb dX9_changesBehind_60 (by decide) ?_
                  exact ih29 x_26 (0 : Int32) _ (by omega) (by omega) (by omega) (by omega) (by omega) (by omega) (by first | exact cbI_f (by omega) | exact cbI_s hcb hkv (by omega) (by omega) (by omega)) (by omega) (lv_sub hl [0, 1, 2, 3, 4] rfl)
                · skip
                  have ic_25 := iv_eq c_25
                  refine lv_iconst (v := 1) hx hb dX9_changesBehind_51 (by decide) ?_
                  refine lv_goto (tgt := 56) hx hb dX9_changesBehind_52 (by decide) ?_
                  refine lv_istore_n (lv' := [(3, .int (1 : Int32)), (4, .int l4_29), (0, .ref o), (1, .int p0), (2, .int p1)]) hx hb dX9_changesBehind_56 rfl hl (by decide) rfl (fun ls hl => ?_)
                  obtain ⟨x_27, ex_27⟩ : ∃ z : Int32, z = l4_29 + (1) := ⟨_, rfl⟩
                  refine lv_iinc (v := x_27) (lv' := [(4, .int x_27), (3, .int (1 : Int32)), (0, .ref o), (1, .int p0), (2, .int p1)]) hx hb dX9_changesBehind_57 hl (k := 1) rfl (by rw [ex_27]; rfl) (by decide) rfl (fun ls hl => ?_)
                  have hx_27 : x_27.toInt = l4_29.toInt + (1) := by rw [ex_27]; exact (iv_add (by omega) (by omega)).trans (by omega)
                  clear ex_27
                  refine lv_goto (tgt := 29) hx hb dX9_changesBehind_60 (by decide) ?_
                  exact ih29 x_27 (1 : Int32) _ (by omega) (by omega) (by omega) (by omega) (by omega) (by omega) (by first | exact cbI_f (by omega) | exact cbI_s hcb hkv (by omega) (by omega) (by omega)) (by omega) (lv_sub hl [0, 1, 2, 3, 4] rfl)
        exact loop29 ((20 - 1 : Int).toNat + 1) (1 : Int32) (1 : Int32) _ (by omega) (by omega) (by omega) (by omega) (by omega) (by omega) (cbI_0 (by omega)) (by omega) (lv_sub hl [0, 1, 2, 3, 4] rfl)

set_option maxHeartbeats 4000000 in
set_option maxRecDepth 100000 in
theorem v_X9_blockDigest (l : Launch) (dC : Nat → ClassId) (dI : Nat → Nat → Nat) (o : Nat) (c : Nat → Nat) (kc : Nat → ClassId) (st : Nat → Int32) (lg : Nat → Int64) (ai : Nat → Nat → Int32) (al : Nat → Nat → Int64) (p0 : Int32) (hf7a : 0 ≤ (st 7).toInt) (hf7b : (st 7).toInt ≤ 1) (hq0 : 0 ≤ p0.toInt) (hq1 : p0.toInt ≤ 127) (hq2 : 0 ≤ (rB (ai 0) (st 7) p0).toInt) (hq3 : (rB (ai 0) (st 7) p0).toInt ≤ 16) : Met l yX9_blockDigest wsX9_blockDigest ({ frames := 3, cells := 0, slots := 0, locals := 70 }) (va_Pc [.ref o, .int p0] (fun U => va_P (dC, dI) vwCl (rw_W o c kc st lg ai al) U.heap ∧ va_K (dC, dI) vwCl (rw_T kc) U)) (vp_Sl (fun r => True)) 0 0 (fun _ => False) := by
  refine Met.ofW (cc := cX9_blockDigest) (maxL := 6) (ret := (some .long)) (by decide) rfl ?_
  intro p e s m args below meth cM s₁ B hml hv
  obtain ⟨rfl, hP, hK⟩ := hv
  have hx := B.exec
  have hb := B.bytes
  have hr := B.returns
  have hts := atoms_spec (ws := wsX9_blockDigest) B.pre
  have hown : s.vm.findClass RX9 = some m.cls := findClass_of_methodNamed B.named
  have hl := lv_entry ([.ref o, .int p0]) (n := 6) (Nat.le_of_ble_eq_true rfl)
  rw [lg_entry_eq]
  generalize (lg_sl ([.ref o, .int p0]) ++ List.replicate (6 - (lg_sl ([.ref o, .int p0])).length) Slot.unset).toArray = ls at hl ⊢
  have hl : lv_has ls 6 [(0, .ref o), (1, .int p0)] := hl
  have z_1 : (1 : Int32).toInt = 1 := by decide
  have z_4 : (4 : Int32).toInt = 4 := by decide
  have z_8 : (8 : Int32).toInt = 8 := by decide
  refine lv_aload_n hx hb dX9_blockDigest_0 rfl (lv_at hl 0 rfl) ?_
  refine lv_aload_n hx hb dX9_blockDigest_1 rfl (lv_at hl 0 rfl) ?_
  refine lv_ldc2 hx hb hown (hts (.constantLong RX9 222 (4000012)) (by decide +kernel)) dX9_blockDigest_2 ?_
  refine lv_aload_n hx hb dX9_blockDigest_5 rfl (lv_at hl 0 rfl) ?_
  refine lv_iload_n hx hb dX9_blockDigest_6 rfl (lv_at hl 1 rfl) ?_
  refine vp_callSi (va_Run.run (va_runV (As := [.int p0]) (rest := [.long (4000012 : Int64), .ref o, .ref o]) ⟨hx, hb, hml, hown, hts⟩ (v_X9_aOf l dC dI o c kc st lg ai al p0 (show 0 ≤ (st 7).toInt by omega) (show (st 7).toInt ≤ 1 by omega) (by omega) (by omega)) (cwV 1 hts gX9_blockDigest_X9_aOf rfl rfl rfl (by decide +kernel) ⟨Nat.le_of_ble_eq_true rfl, Nat.le_of_ble_eq_true rfl⟩) ⟨fun a U g mk q => by obtain ⟨q0, qP, qK⟩ := q; exact ⟨q0, qP, va_K.moved (u := U) (U := U.calling g mk a) (Vm.Alike.refl U.vm) qK⟩, va_recv hK hP (ci := 11) (q := (RX9, TX9, 38)) rfl (q0 := 0) rfl, fun U hU hW => ⟨rfl, by rw [hU]; exact hP, va_K.moved hW.alike hK⟩⟩ rfl rfl hl.1 rfl (lv_room (Nat.le_of_ble_eq_true rfl)) dX9_blockDigest_7 ⟨Nat.le_of_ble_eq_true rfl, Nat.le_of_ble_eq_true rfl⟩)) (fun r_1 er_1 => ?_)
  have k_2 := er_1
  have k_2 : r_1.toInt = (rA (ai 0) (st 7) p0).toInt := k_2
  refine lv_i2l hx hb dX9_blockDigest_10 rfl ?_
  refine lv_topl (fun w_3 ew_3 => ?_)
  clear ew_3
  refine lv_iconst (v := 4) hx hb dX9_blockDigest_11 (by decide) ?_
  refine vp_callSl (va_Run.run (va_runV (As := [.long (4000012 : Int64), .long w_3, .int (4 : Int32)]) (rest := [.ref o]) ⟨hx, hb, hml, hown, hts⟩ (v_X9_numberSum l dC dI o c kc st lg ai al (4000012 : Int64) w_3 (4 : Int32) (by omega) (by omega)) (cwV 3 hts gX9_blockDigest_X9_numberSum rfl rfl rfl (by decide +kernel) ⟨Nat.le_of_ble_eq_true rfl, Nat.le_of_ble_eq_true rfl⟩) ⟨fun a U g mk q => by obtain ⟨q0, qP, qK⟩ := q; exact ⟨q0, qP, va_K.moved (u := U) (U := U.calling g mk a) (Vm.Alike.refl U.vm) qK⟩, va_recv hK hP (ci := 11) (q := (RX9, TX9, 38)) rfl (q0 := 0) rfl, fun U hU hW => ⟨rfl, by rw [hU]; exact hP, va_K.moved hW.alike hK⟩⟩ rfl rfl hl.1 rfl (lv_room (Nat.le_of_ble_eq_true rfl)) dX9_blockDigest_12 ⟨Nat.le_of_ble_eq_true rfl, Nat.le_of_ble_eq_true rfl⟩)) (fun r_4 er_4 => ?_)
  refine lv_aload_n hx hb dX9_blockDigest_15 rfl (lv_at hl 0 rfl) ?_
  refine lv_iload_n hx hb dX9_blockDigest_16 rfl (lv_at hl 1 rfl) ?_
  refine vp_callSl (va_Run.run (va_runV (As := [.int p0]) (rest := [.long r_4, .ref o]) ⟨hx, hb, hml, hown, hts⟩ (v_X9_cOf l dC dI o c kc st lg ai al p0 (show 0 ≤ (st 7).toInt by omega) (show (st 7).toInt ≤ 1 by omega) (by omega) (by omega)) (cwV 1 hts gX9_blockDigest_X9_cOf rfl rfl rfl (by decide +kernel) ⟨Nat.le_of_ble_eq_true rfl, Nat.le_of_ble_eq_true rfl⟩) ⟨fun a U g mk q => by obtain ⟨q0, qP, qK⟩ := q; exact ⟨q0, qP, va_K.moved (u := U) (U := U.calling g mk a) (Vm.Alike.refl U.vm) qK⟩, va_recv hK hP (ci := 11) (q := (RX9, TX9, 38)) rfl (q0 := 0) rfl, fun U hU hW => ⟨rfl, by rw [hU]; exact hP, va_K.moved hW.alike hK⟩⟩ rfl rfl hl.1 rfl (lv_room (Nat.le_of_ble_eq_true rfl)) dX9_blockDigest_17 ⟨Nat.le_of_ble_eq_true rfl, Nat.le_of_ble_eq_true rfl⟩)) (fun r_5 er_5 => ?_)
  have hc := er_5
  have hc : r_5 = rC (ai 0) (st 7) p0 := hc
  refine lv_bipush (v := 8) hx hb dX9_blockDigest_20 (by decide) ?_
  refine vp_callSl (va_Run.run (va_runV (As := [.long r_4, .long r_5, .int (8 : Int32)]) (rest := []) ⟨hx, hb, hml, hown, hts⟩ (v_X9_numberSum l dC dI o c kc st lg ai al r_4 r_5 (8 : Int32) (by omega) (by omega)) (cwV 3 hts gX9_blockDigest_X9_numberSum rfl rfl rfl (by decide +kernel) ⟨Nat.le_of_ble_eq_true rfl, Nat.le_of_ble_eq_true rfl⟩) ⟨fun a U g mk q => by obtain ⟨q0, qP, qK⟩ := q; exact ⟨q0, qP, va_K.moved (u := U) (U := U.calling g mk a) (Vm.Alike.refl U.vm) qK⟩, va_recv hK hP (ci := 11) (q := (RX9, TX9, 38)) rfl (q0 := 0) rfl, fun U hU hW => ⟨rfl, by rw [hU]; exact hP, va_K.moved hW.alike hK⟩⟩ rfl rfl hl.1 rfl (lv_room (Nat.le_of_ble_eq_true rfl)) dX9_blockDigest_22 ⟨Nat.le_of_ble_eq_true rfl, Nat.le_of_ble_eq_true rfl⟩)) (fun r_6 er_6 => ?_)
  refine lv_lstore_n (lv' := [(2, .long r_6), (0, .ref o), (1, .int p0)]) hx hb dX9_blockDigest_25 rfl hl (by decide) rfl (fun ls hl => ?_)
  refine lv_aload_n hx hb dX9_blockDigest_26 rfl (lv_at hl 1 rfl) ?_
  refine lv_iload_n hx hb dX9_blockDigest_27 rfl (lv_at hl 2 rfl) ?_
  refine vp_callSi (va_Run.run (va_runV (As := [.int p0]) (rest := []) ⟨hx, hb, hml, hown, hts⟩ (v_X9_bOf l dC dI o c kc st lg ai al p0 (show 0 ≤ (st 7).toInt by omega) (show (st 7).toInt ≤ 1 by omega) (by omega) (by omega)) (cwV 1 hts gX9_blockDigest_X9_bOf rfl rfl rfl (by decide +kernel) ⟨Nat.le_of_ble_eq_true rfl, Nat.le_of_ble_eq_true rfl⟩) ⟨fun a U g mk q => by obtain ⟨q0, qP, qK⟩ := q; exact ⟨q0, qP, va_K.moved (u := U) (U := U.calling g mk a) (Vm.Alike.refl U.vm) qK⟩, va_recv hK hP (ci := 11) (q := (RX9, TX9, 38)) rfl (q0 := 0) rfl, fun U hU hW => ⟨rfl, by rw [hU]; exact hP, va_K.moved hW.alike hK⟩⟩ rfl rfl hl.1 rfl (lv_room (Nat.le_of_ble_eq_true rfl)) dX9_blockDigest_28 ⟨Nat.le_of_ble_eq_true rfl, Nat.le_of_ble_eq_true rfl⟩)) (fun r_7 er_7 => ?_)
  have k_8 := er_7
  have k_8 : r_7.toInt = (rB (ai 0) (st 7) p0).toInt := k_8
  refine lv_istore (lv' := [(4, .int r_7), (2, .long r_6), (0, .ref o), (1, .int p0)]) hx hb dX9_blockDigest_31 hl (by decide) rfl (fun ls hl => ?_)
  refine lv_iconst (v := 1) hx hb dX9_blockDigest_33 (by decide) ?_
  refine lv_istore (lv' := [(5, .int (1 : Int32)), (4, .int r_7), (2, .long r_6), (0, .ref o), (1, .int p0)]) hx hb dX9_blockDigest_34 hl (by decide) rfl (fun ls hl => ?_)
  have loop36 : ∀ (n : Nat) (l5_36 : Int32) (l2_36 : Int64) (ls : Array Slot), (1 ≤ l5_36.toInt) → (l5_36.toInt ≤ r_7.toInt + 1) → (r_7.toInt + 1 - l5_36.toInt : Int).toNat < n → lv_has ls 6 [(5, .int l5_36), (4, .int r_7), (2, .long l2_36), (0, .ref o), (1, .int p0)] → W p l e (headSpec wsX9_blockDigest ({ frames := 3, cells := 0, slots := 0, locals := 70 })).room s m ([.ref o, .int p0] : List Value).toArray below meth cM s.heap [] 0 0 (MQ below (vp_Sl (fun r => True)) ([.ref o, .int p0] : List Value).toArray s 0 0 (fun _ => False)) (F0 m 36 ls []) := by
    intro n
    induction n with
    | zero => intro l5_36 l2_36 ls if0_36 if1_36 hm; exact absurd hm (Nat.not_lt_zero _)
    | succ n ih36 =>
      intro l5_36 l2_36 ls if0_36 if1_36 hm36 hl
      refine lv_iload hx hb dX9_blockDigest_36 (lv_at hl 0 rfl) ?_
      refine lv_iload hx hb dX9_blockDigest_38 (lv_at hl 1 rfl) ?_
      refine lv_icmp_gt (tgt := 79) hx hb dX9_blockDigest_40 (by decide) (fun c_9 => ?_) (fun c_9 => ?_)
      · skip
        have ic_9 := iv_lt c_9
        refine lv_lload_n hx hb dX9_blockDigest_79 rfl (lv_at hl 2 rfl) ?_
        exact W.lret hx hb hr (fun t ht hW => ⟨_, rfl, trivial, ht⟩) (fun q h => by cases h) dX9_blockDigest_80
      · skip
        have ic_9 := iv_nlt c_9
        refine lv_aload_n hx hb dX9_blockDigest_43 rfl (lv_at hl 3 rfl) ?_
        refine lv_aload_n hx hb dX9_blockDigest_44 rfl (lv_at hl 3 rfl) ?_
        refine lv_lload_n hx hb dX9_blockDigest_45 rfl (lv_at hl 2 rfl) ?_
        refine lv_aload_n hx hb dX9_blockDigest_46 rfl (lv_at hl 3 rfl) ?_
        refine lv_iload_n hx hb dX9_blockDigest_47 rfl (lv_at hl 4 rfl) ?_
        refine lv_iload hx hb dX9_blockDigest_48 (lv_at hl 0 rfl) ?_
        refine lv_iadd hx hb dX9_blockDigest_50 ?_
        refine lv_topi (fun v_10 ev_10 => ?_)
        have rg1 := iv_rng p0
        have rg2 := iv_rng l5_36
        have hv_10 : v_10.toInt = p0.toInt + l5_36.toInt := by rw [ev_10]; exact (iv_add (by omega) (by omega)).trans (by omega)
        clear ev_10
        refine vp_callSi (va_Run.run (va_runV (As := [.int v_10]) (rest := [.long l2_36, .ref o, .ref o]) ⟨hx, hb, hml, hown, hts⟩ (v_X9_aOf l dC dI o c kc st lg ai al v_10 (show 0 ≤ (st 7).toInt by omega) (show (st 7).toInt ≤ 1 by omega) (by omega) (by omega)) (cwV 1 hts gX9_blockDigest_X9_aOf rfl rfl rfl (by decide +kernel) ⟨Nat.le_of_ble_eq_true rfl, Nat.le_of_ble_eq_true rfl⟩) ⟨fun a U g mk q => by obtain ⟨q0, qP, qK⟩ := q; exact ⟨q0, qP, va_K.moved (u := U) (U := U.calling g mk a) (Vm.Alike.refl U.vm) qK⟩, va_recv hK hP (ci := 11) (q := (RX9, TX9, 38)) rfl (q0 := 0) rfl, fun U hU hW => ⟨rfl, by rw [hU]; exact hP, va_K.moved hW.alike hK⟩⟩ rfl rfl hl.1 rfl (lv_room (Nat.le_of_ble_eq_true rfl)) dX9_blockDigest_51 ⟨Nat.le_of_ble_eq_true rfl, Nat.le_of_ble_eq_true rfl⟩)) (fun r_11 er_11 => ?_)
        have k_12 := er_11
        have k_12 : r_11.toInt = (rA (ai 0) (st 7) v_10).toInt := k_12
        refine lv_i2l hx hb dX9_blockDigest_54 rfl ?_
        refine lv_topl (fun w_13 ew_13 => ?_)
        clear ew_13
        refine lv_iconst (v := 4) hx hb dX9_blockDigest_55 (by decide) ?_
        refine vp_callSl (va_Run.run (va_runV (As := [.long l2_36, .long w_13, .int (4 : Int32)]) (rest := [.ref o]) ⟨hx, hb, hml, hown, hts⟩ (v_X9_numberSum l dC dI o c kc st lg ai al l2_36 w_13 (4 : Int32) (by omega) (by omega)) (cwV 3 hts gX9_blockDigest_X9_numberSum rfl rfl rfl (by decide +kernel) ⟨Nat.le_of_ble_eq_true rfl, Nat.le_of_ble_eq_true rfl⟩) ⟨fun a U g mk q => by obtain ⟨q0, qP, qK⟩ := q; exact ⟨q0, qP, va_K.moved (u := U) (U := U.calling g mk a) (Vm.Alike.refl U.vm) qK⟩, va_recv hK hP (ci := 11) (q := (RX9, TX9, 38)) rfl (q0 := 0) rfl, fun U hU hW => ⟨rfl, by rw [hU]; exact hP, va_K.moved hW.alike hK⟩⟩ rfl rfl hl.1 rfl (lv_room (Nat.le_of_ble_eq_true rfl)) dX9_blockDigest_56 ⟨Nat.le_of_ble_eq_true rfl, Nat.le_of_ble_eq_true rfl⟩)) (fun r_14 er_14 => ?_)
        refine lv_aload_n hx hb dX9_blockDigest_59 rfl (lv_at hl 3 rfl) ?_
        refine lv_iload_n hx hb dX9_blockDigest_60 rfl (lv_at hl 4 rfl) ?_
        refine lv_iload hx hb dX9_blockDigest_61 (lv_at hl 0 rfl) ?_
        refine lv_iadd hx hb dX9_blockDigest_63 ?_
        refine lv_topi (fun v_15 ev_15 => ?_)
        have hv_15 : v_15.toInt = p0.toInt + l5_36.toInt := by rw [ev_15]; exact (iv_add (by omega) (by omega)).trans (by omega)
        clear ev_15
        refine vp_callSl (va_Run.run (va_runV (As := [.int v_15]) (rest := [.long r_14, .ref o]) ⟨hx, hb, hml, hown, hts⟩ (v_X9_cOf l dC dI o c kc st lg ai al v_15 (show 0 ≤ (st 7).toInt by omega) (show (st 7).toInt ≤ 1 by omega) (by omega) (by omega)) (cwV 1 hts gX9_blockDigest_X9_cOf rfl rfl rfl (by decide +kernel) ⟨Nat.le_of_ble_eq_true rfl, Nat.le_of_ble_eq_true rfl⟩) ⟨fun a U g mk q => by obtain ⟨q0, qP, qK⟩ := q; exact ⟨q0, qP, va_K.moved (u := U) (U := U.calling g mk a) (Vm.Alike.refl U.vm) qK⟩, va_recv hK hP (ci := 11) (q := (RX9, TX9, 38)) rfl (q0 := 0) rfl, fun U hU hW => ⟨rfl, by rw [hU]; exact hP, va_K.moved hW.alike hK⟩⟩ rfl rfl hl.1 rfl (lv_room (Nat.le_of_ble_eq_true rfl)) dX9_blockDigest_64 ⟨Nat.le_of_ble_eq_true rfl, Nat.le_of_ble_eq_true rfl⟩)) (fun r_16 er_16 => ?_)
        have hc := er_16
        have hc : r_16 = rC (ai 0) (st 7) v_15 := hc
        refine lv_bipush (v := 8) hx hb dX9_blockDigest_67 (by decide) ?_
        refine vp_callSl (va_Run.run (va_runV (As := [.long r_14, .long r_16, .int (8 : Int32)]) (rest := []) ⟨hx, hb, hml, hown, hts⟩ (v_X9_numberSum l dC dI o c kc st lg ai al r_14 r_16 (8 : Int32) (by omega) (by omega)) (cwV 3 hts gX9_blockDigest_X9_numberSum rfl rfl rfl (by decide +kernel) ⟨Nat.le_of_ble_eq_true rfl, Nat.le_of_ble_eq_true rfl⟩) ⟨fun a U g mk q => by obtain ⟨q0, qP, qK⟩ := q; exact ⟨q0, qP, va_K.moved (u := U) (U := U.calling g mk a) (Vm.Alike.refl U.vm) qK⟩, va_recv hK hP (ci := 11) (q := (RX9, TX9, 38)) rfl (q0 := 0) rfl, fun U hU hW => ⟨rfl, by rw [hU]; exact hP, va_K.moved hW.alike hK⟩⟩ rfl rfl hl.1 rfl (lv_room (Nat.le_of_ble_eq_true rfl)) dX9_blockDigest_69 ⟨Nat.le_of_ble_eq_true rfl, Nat.le_of_ble_eq_true rfl⟩)) (fun r_17 er_17 => ?_)
        refine lv_lstore_n (lv' := [(2, .long r_17), (5, .int l5_36), (4, .int r_7), (0, .ref o), (1, .int p0)]) hx hb dX9_blockDigest_72 rfl hl (by decide) rfl (fun ls hl => ?_)
        obtain ⟨x_18, ex_18⟩ : ∃ z : Int32, z = l5_36 + (1) := ⟨_, rfl⟩
        refine lv_iinc (v := x_18) (lv' := [(5, .int x_18), (2, .long r_17), (4, .int r_7), (0, .ref o), (1, .int p0)]) hx hb dX9_blockDigest_73 hl (k := 1) rfl (by rw [ex_18]; rfl) (by decide) rfl (fun ls hl => ?_)
        have hx_18 : x_18.toInt = l5_36.toInt + (1) := by rw [ex_18]; exact (iv_add (by omega) (by omega)).trans (by omega)
        clear ex_18
        refine lv_goto (tgt := 36) hx hb dX9_blockDigest_76 (by decide) ?_
        exact ih36 x_18 r_17 _ (by omega) (by omega) (by omega) (lv_sub hl [0, 2, 1, 3, 4] rfl)
  exact loop36 ((r_7.toInt + 1 - 1 : Int).toNat + 1) (1 : Int32) r_6 _ (by omega) (by omega) (by omega) (lv_sub hl [0, 1, 2, 3, 4] rfl)

set_option maxHeartbeats 4000000 in
set_option maxRecDepth 100000 in
theorem v_X9_group (l : Launch) (dC : Nat → ClassId) (dI : Nat → Nat → Nat) (o : Nat) (c : Nat → Nat) (kc : Nat → ClassId) (st : Nat → Int32) (lg : Nat → Int64) (ai : Nat → Nat → Int32) (al : Nat → Nat → Int64) (p0 : Int32) (p1 : Int32) (sz : Nat) (hf7a : 0 ≤ (st 7).toInt) (hf7b : (st 7).toInt ≤ 1) (hf16a : 0 ≤ (st 16).toInt) (hf16b : (st 16).toInt ≤ 128) (hf22a : 0 ≤ (st 22).toInt) (hf22b : (st 22).toInt ≤ 1000000) (hf24a : 0 ≤ (st 24).toInt) (hf24b : (st 24).toInt ≤ 1) (hf26a : 0 ≤ (st 26).toInt) (hf26b : (st 26).toInt ≤ 2000000) (hq0 : 0 ≤ p0.toInt) (hq1 : p0.toInt ≤ 127) (hq2 : p1.toInt = (rK (ai 0) (st 7) p0).toInt) (hq3 : 0 ≤ (st 26).toInt - (st 22).toInt) (hq4 : (st 26).toInt - (st 22).toInt ≤ 128) (hG : gOK (ai 0) (st 7) (st 16) (ai 19)) (hC : cOK (ai 0) (st 7) (st 16) (ai 20)) (hV : vOK (ai 0) (st 7) (st 16) (ai 25) ((st 26).toInt - (st 22).toInt)) (hBs : bOK (ai 0) (st 7) (st 16) (st 24)) : Met l yX9_group wsX9_group ({ frames := 4, cells := 0, slots := 0, locals := 95 }) (va_Pc [.ref o, .int p0, .int p1] (fun U => U.heap.size = sz ∧ va_P (dC, dI) vwCl (rw_W o c kc st lg ai al) U.heap ∧ va_K (dC, dI) vwCl (rw_T kc) U ∧ va_D (fun _ => True) (rw_W o c kc st lg ai al))) (va_Qv (fun (_ : Unit) => True) (fun _ t => ∃ (x22 : Int32) (x24 : Int32) (x26 : Int32) (y23 : Int64) (y27 : Int64) (f19 : Nat → Int32) (f20 : Nat → Int32) (g18 : Nat → Int64), (x26.toInt - x22.toInt = (st 26).toInt - (st 22).toInt ∨ (x26.toInt = x22.toInt ∧ p0.toInt = 0)) ∧ (0 ≤ x22.toInt) ∧ (x22.toInt ≤ 1000000) ∧ (0 ≤ x24.toInt) ∧ (x24.toInt ≤ 1) ∧ (0 ≤ x26.toInt) ∧ (x26.toInt ≤ 2000000) ∧ (gOK (ai 0) (st 7) (st 16) f19) ∧ (cOK (ai 0) (st 7) (st 16) f20) ∧ (vOK (ai 0) (st 7) (st 16) (ai 25) (x26.toInt - x22.toInt)) ∧ (bOK (ai 0) (st 7) (st 16) x24) ∧ va_P (dC, dI) vwCl (rw_W o c kc (rU (rU (rU st 22 x22) 24 x24) 26 x26) (rU (rU lg 23 y23) 27 y27) (rU (rU ai 19 f19) 20 f20) (rU al 18 g18)) t.heap) (va_A (rw_W o c kc st lg ai al) sz)) 0 0 (va_A (rw_W o c kc st lg ai al) sz) := by
  refine Met.ofW (cc := cX9_group) (maxL := 5) (ret := none) (by decide) rfl ?_
  intro p e s m args below meth cM s₁ B hml hv
  obtain ⟨rfl, hsz, hP, hK, hD0⟩ := hv
  have hx := B.exec
  have hb := B.bytes
  have hr := B.returns
  have hts := atoms_spec (ws := wsX9_group) B.pre
  have hown : s.vm.findClass RX9 = some m.cls := findClass_of_methodNamed B.named
  subst hsz
  have hD := hD0.self (sz := s.heap.size)
  generalize hAe : va_A (rw_W o c kc st lg ai al) s.heap.size = A at hD ⊢
  have hA : ∀ q : Nat, s.heap.size ≤ q → A q := fun q h => by rw [← hAe]; exact Or.inr h
  have hS : va_S A s.heap s.heap [] := va_S.rf
  clear hAe hD0
  have hl := lv_entry ([.ref o, .int p0, .int p1]) (n := 5) (Nat.le_of_ble_eq_true rfl)
  rw [lg_entry_eq]
  generalize (lg_sl ([.ref o, .int p0, .int p1]) ++ List.replicate (5 - (lg_sl ([.ref o, .int p0, .int p1])).length) Slot.unset).toArray = ls at hl ⊢
  have hl : lv_has ls 5 [(0, .ref o), (1, .int p0), (2, .int p1)] := hl
  have z_0 : (0 : Int32).toInt = 0 := by decide
  have z_1 : (1 : Int32).toInt = 1 := by decide
  have z_5 : (5 : Int32).toInt = 5 := by decide
  have z_1000000 : (1000000 : Int32).toInt = 1000000 := by decide
  have hin9 : ∀ w ∈ u_ws RX9 TX9 38, w ∈ wsX9_group := by decide +kernel
  have main : ∀ (H : Heap) (locs : List Loc), va_P (dC, dI) vwCl (rw_W o c kc st lg ai al) H → va_S A s.heap H locs → W p l e (headSpec wsX9_group ({ frames := 4, cells := 0, slots := 0, locals := 95 })).room s m ([.ref o, .int p0, .int p1] : List Value).toArray below meth cM H locs 0 0 (MQ below (va_Qv (fun (_ : Unit) => True) (fun _ t => ∃ (x22 : Int32) (x24 : Int32) (x26 : Int32) (y23 : Int64) (y27 : Int64) (f19 : Nat → Int32) (f20 : Nat → Int32) (g18 : Nat → Int64), (x26.toInt - x22.toInt = (st 26).toInt - (st 22).toInt ∨ (x26.toInt = x22.toInt ∧ p0.toInt = 0)) ∧ (0 ≤ x22.toInt) ∧ (x22.toInt ≤ 1000000) ∧ (0 ≤ x24.toInt) ∧ (x24.toInt ≤ 1) ∧ (0 ≤ x26.toInt) ∧ (x26.toInt ≤ 2000000) ∧ (gOK (ai 0) (st 7) (st 16) f19) ∧ (cOK (ai 0) (st 7) (st 16) f20) ∧ (vOK (ai 0) (st 7) (st 16) (ai 25) (x26.toInt - x22.toInt)) ∧ (bOK (ai 0) (st 7) (st 16) x24) ∧ va_P (dC, dI) vwCl (rw_W o c kc (rU (rU (rU st 22 x22) 24 x24) 26 x26) (rU (rU lg 23 y23) 27 y27) (rU (rU ai 19 f19) 20 f20) (rU al 18 g18)) t.heap) A) ([.ref o, .int p0, .int p1] : List Value).toArray s 0 0 A) (F0 m 0 ls []) := by
    intro H locs hP hS
    refine lv_iload_n hx hb dX9_group_0 rfl (lv_at hl 2 rfl) ?_
    refine lv_iconst (v := 5) hx hb dX9_group_1 (by decide) ?_
    refine lv_icmp_ne (tgt := 9) hx hb dX9_group_2 (by decide) (fun c_1 => ?_) (fun c_1 => ?_)
    · skip
      have ic_1 := iv_ne c_1
      refine lv_aload_n hx hb dX9_group_9 rfl (lv_at hl 0 rfl) ?_
      refine lv_iload_n hx hb dX9_group_10 rfl (lv_at hl 1 rfl) ?_
      refine vp_callSi (va_Run.run (va_runV (As := [.int p0]) (rest := []) ⟨hx, hb, hml, hown, hts⟩ (v_X9_aOf l dC dI o c kc st lg ai al p0 (show 0 ≤ (st 7).toInt by omega) (show (st 7).toInt ≤ 1 by omega) (by omega) (by omega)) (cwV 1 hts gX9_group_X9_aOf rfl rfl rfl (by decide +kernel) ⟨Nat.le_of_ble_eq_true rfl, Nat.le_of_ble_eq_true rfl⟩) ⟨fun a U g mk q => by obtain ⟨q0, qP, qK⟩ := q; exact ⟨q0, qP, va_K.moved (u := U) (U := U.calling g mk a) (Vm.Alike.refl U.vm) qK⟩, va_recv hK hP (ci := 11) (q := (RX9, TX9, 38)) rfl (q0 := 0) rfl, fun U hU hW => ⟨rfl, by rw [hU]; exact hP, va_K.moved hW.alike hK⟩⟩ rfl rfl hl.1 rfl (lv_room (Nat.le_of_ble_eq_true rfl)) dX9_group_11 ⟨Nat.le_of_ble_eq_true rfl, Nat.le_of_ble_eq_true rfl⟩)) (fun r_2 er_2 => ?_)
      have k_3 := er_2
      have k_3 : r_2.toInt = (rA (ai 0) (st 7) p0).toInt := k_3
      refine lv_iconst (v := 1) hx hb dX9_group_14 (by decide) ?_
      refine lv_ldc hx hb hown (hts (.constant RX9 208 (1000000)) (by decide +kernel)) dX9_group_15 ?_
      refine vp_callSi (va_Run.run (va_runS (As := [.int r_2, .int (1 : Int32), .int (1000000 : Int32)]) (rest := []) ⟨hx, hb, hml, hown, hts⟩ (v_X9_within l dC dI r_2 (1 : Int32) (1000000 : Int32) ) (va_cwS 3 hts gX9_group_X9_within rfl rfl rfl (by decide +kernel) ⟨Nat.le_of_ble_eq_true rfl, Nat.le_of_ble_eq_true rfl⟩) ⟨fun a U g mk q => q, fun U hU hW => ⟨rfl, trivial⟩⟩ rfl rfl hl.1 rfl (lv_room (Nat.le_of_ble_eq_true rfl)) dX9_group_17 ⟨Nat.le_of_ble_eq_true rfl, Nat.le_of_ble_eq_true rfl⟩)) (fun r_4 er_4 => ?_)
      obtain ⟨k_5, k_6, k_7, k_8, k_9⟩ := er_4
      rcases iv_01 (a := r_4) (by omega) (by omega) with b_10 | b_10
      · skip
        have ib_10 := iv_eq b_10
        rw [b_10]
        refine lv_if_eq (tgt := 36) hx hb dX9_group_20 (by decide) (fun c_11 => ?_) (fun c_11 => ?_)
        · skip
          have ic_11 := iv_eq c_11
          exact W.vret hx hb hr (fun t ht hW => ⟨⟨(), rfl, trivial, st 22, st 24, st 26, lg 23, lg 27, ai 19, ai 20, al 18, (by omega), (by omega), (by omega), (by omega), (by omega), (by omega), (by omega), (by assumption), (by assumption), (by assumption), (by assumption), by rw [ht]; exact hP⟩, hS.F ht⟩) hS.2.2 dX9_group_36
        · skip
          have ic_11 := iv_ne c_11
          exfalso
          omega
      · skip
        have ib_10 := iv_eq b_10
        rw [b_10]
        refine lv_if_eq (tgt := 36) hx hb dX9_group_20 (by decide) (fun c_12 => ?_) (fun c_12 => ?_)
        · skip
          have ic_12 := iv_eq c_12
          exfalso
          omega
        · skip
          have ic_12 := iv_ne c_12
          refine lv_aload_n hx hb dX9_group_23 rfl (lv_at hl 0 rfl) ?_
          refine lv_iload_n hx hb dX9_group_24 rfl (lv_at hl 1 rfl) ?_
          refine lv_aload_n hx hb dX9_group_25 rfl (lv_at hl 0 rfl) ?_
          refine lv_iload_n hx hb dX9_group_26 rfl (lv_at hl 1 rfl) ?_
          refine vp_callSi (va_Run.run (va_runV (As := [.int p0]) (rest := [.int p0, .ref o]) ⟨hx, hb, hml, hown, hts⟩ (v_X9_bOf l dC dI o c kc st lg ai al p0 (show 0 ≤ (st 7).toInt by omega) (show (st 7).toInt ≤ 1 by omega) (by omega) (by omega)) (cwV 1 hts gX9_group_X9_bOf rfl rfl rfl (by decide +kernel) ⟨Nat.le_of_ble_eq_true rfl, Nat.le_of_ble_eq_true rfl⟩) ⟨fun a U g mk q => by obtain ⟨q0, qP, qK⟩ := q; exact ⟨q0, qP, va_K.moved (u := U) (U := U.calling g mk a) (Vm.Alike.refl U.vm) qK⟩, va_recv hK hP (ci := 11) (q := (RX9, TX9, 38)) rfl (q0 := 0) rfl, fun U hU hW => ⟨rfl, by rw [hU]; exact hP, va_K.moved hW.alike hK⟩⟩ rfl rfl hl.1 rfl (lv_room (Nat.le_of_ble_eq_true rfl)) dX9_group_27 ⟨Nat.le_of_ble_eq_true rfl, Nat.le_of_ble_eq_true rfl⟩)) (fun r_13 er_13 => ?_)
          have k_14 := er_13
          have k_14 : r_13.toInt = (rB (ai 0) (st 7) p0).toInt := k_14
          refine vp_callSi (va_Run.run (va_runV (As := [.int p0, .int r_13]) (rest := []) ⟨hx, hb, hml, hown, hts⟩ (v_X9_changesBehind l dC dI o c kc st lg ai al p0 r_13 (show 0 ≤ (st 7).toInt by omega) (show (st 7).toInt ≤ 1 by omega) (show 0 ≤ (st 16).toInt by omega) (show (st 16).toInt ≤ 128 by omega) (by omega) (by omega)) (cwV 2 hts gX9_group_X9_changesBehind rfl rfl rfl (by decide +kernel) ⟨Nat.le_of_ble_eq_true rfl, Nat.le_of_ble_eq_true rfl⟩) ⟨fun a U g mk q => by obtain ⟨q0, qP, qK⟩ := q; exact ⟨q0, qP, va_K.moved (u := U) (U := U.calling g mk a) (Vm.Alike.refl U.vm) qK⟩, va_recv hK hP (ci := 11) (q := (RX9, TX9, 38)) rfl (q0 := 0) rfl, fun U hU hW => ⟨rfl, by rw [hU]; exact hP, va_K.moved hW.alike hK⟩⟩ rfl rfl hl.1 rfl (lv_room (Nat.le_of_ble_eq_true rfl)) dX9_group_30 ⟨Nat.le_of_ble_eq_true rfl, Nat.le_of_ble_eq_true rfl⟩)) (fun r_15 er_15 => ?_)
          obtain ⟨k_16, k_17, hch⟩ := er_15
          have hch : r_15.toInt = 1 → okN (ai 0) (st 7) (st 16) p0 r_13 := hch
          rcases iv_01 (a := r_15) (by omega) (by omega) with b_18 | b_18
          · skip
            have ib_18 := iv_eq b_18
            rw [b_18]
            refine lv_if_ne (tgt := 37) hx hb dX9_group_33 (by decide) (fun c_19 => ?_) (fun c_19 => ?_)
            · skip
              have ic_19 := iv_ne c_19
              exfalso
              omega
            · skip
              have ic_19 := iv_eq c_19
              exact W.vret hx hb hr (fun t ht hW => ⟨⟨(), rfl, trivial, st 22, st 24, st 26, lg 23, lg 27, ai 19, ai 20, al 18, (by omega), (by omega), (by omega), (by omega), (by omega), (by omega), (by omega), (by assumption), (by assumption), (by assumption), (by assumption), by rw [ht]; exact hP⟩, hS.F ht⟩) hS.2.2 dX9_group_36
          · skip
            have ib_18 := iv_eq b_18
            rw [b_18]
            refine lv_if_ne (tgt := 37) hx hb dX9_group_33 (by decide) (fun c_20 => ?_) (fun c_20 => ?_)
            · skip
              have ic_20 := iv_ne c_20
              have hok : okB (ai 0) (st 7) (st 16) p0 := okN_B (hch (by omega)) (by omega)
              have k_21 : 0 ≤ p0.toInt := hok.1
              have k_22 : 0 ≤ (rB (ai 0) (st 7) p0).toInt := hok.2.1
              have k_23 : (rB (ai 0) (st 7) p0).toInt ≤ 16 := hok.2.2.1
              have k_24 : p0.toInt + (rB (ai 0) (st 7) p0).toInt < (st 16).toInt := hok.2.2.2.1
              refine lv_aload_n hx hb dX9_group_37 rfl (lv_at hl 0 rfl) ?_
              refine va_get (D := (dC, dI)) (ci := 11) (v := .ref (c 18)) (C := RX9) (T := TX9) (N := 38) hx hb hts hin9 hown hK hP 0 rfl rfl 18 (by decide) (hts (.fieldLink RX9 27 "BlockLogModel" "digestAt" "[J") (by decide +kernel)) (fun _ h9 => h9) rfl dX9_group_38 ?_
              refine lv_iload_n hx hb dX9_group_41 rfl (lv_at hl 1 rfl) ?_
              refine lv_iload_n hx hb dX9_group_42 rfl (lv_at hl 2 rfl) ?_
              refine lv_iconst (v := 5) hx hb dX9_group_43 (by decide) ?_
              refine lv_icmp_ne (tgt := 55) hx hb dX9_group_44 (by decide) (fun c_25 => ?_) (fun c_25 => ?_)
              · skip
                have ic_25 := iv_ne c_25
                refine lv_aload_n hx hb dX9_group_55 rfl (lv_at hl 0 rfl) ?_
                refine lv_iload_n hx hb dX9_group_56 rfl (lv_at hl 1 rfl) ?_
                refine vp_callSl (va_Run.run (va_runV (As := [.int p0]) (rest := [.int p0, .ref (c 18)]) ⟨hx, hb, hml, hown, hts⟩ (v_X9_blockDigest l dC dI o c kc st lg ai al p0 (show 0 ≤ (st 7).toInt by omega) (show (st 7).toInt ≤ 1 by omega) (by omega) (by omega) (show 0 ≤ (rB (ai 0) (st 7) p0).toInt by omega) (show (rB (ai 0) (st 7) p0).toInt ≤ 16 by omega)) (cwV 1 hts gX9_group_X9_blockDigest rfl rfl rfl (by decide +kernel) ⟨Nat.le_of_ble_eq_true rfl, Nat.le_of_ble_eq_true rfl⟩) ⟨fun a U g mk q => by obtain ⟨q0, qP, qK⟩ := q; exact ⟨q0, qP, va_K.moved (u := U) (U := U.calling g mk a) (Vm.Alike.refl U.vm) qK⟩, va_recv hK hP (ci := 11) (q := (RX9, TX9, 38)) rfl (q0 := 0) rfl, fun U hU hW => ⟨rfl, by rw [hU]; exact hP, va_K.moved hW.alike hK⟩⟩ rfl rfl hl.1 rfl (lv_room (Nat.le_of_ble_eq_true rfl)) dX9_group_57 ⟨Nat.le_of_ble_eq_true rfl, Nat.le_of_ble_eq_true rfl⟩)) (fun r_26 er_26 => ?_)
                refine va_last (f := al 18) hx hb hK hP (rw_D hD) hS 6 5 rfl rfl (iv_in (i := p0) (by omega) (by omega)) dX9_group_60 (fun H locs hP _ hS => ?_)
                have hP : va_P (dC, dI) vwCl (rw_W o c kc st lg ai (rU al 18 (vp_updL (al 18) p0.toNatClampNeg r_26))) H := hP
                generalize hU_digestAt : vp_updL (al 18) p0.toNatClampNeg r_26 = g_27 at hP
                clear hU_digestAt
                refine lv_aload_n hx hb dX9_group_61 rfl (lv_at hl 0 rfl) ?_
                refine va_get (D := (dC, dI)) (ci := 11) (v := .ref (c 18)) (C := RX9) (T := TX9) (N := 38) hx hb hts hin9 hown hK hP 0 rfl rfl 18 (by decide) (hts (.fieldLink RX9 27 "BlockLogModel" "digestAt" "[J") (by decide +kernel)) (fun _ h9 => h9) rfl dX9_group_62 ?_
                refine lv_iload_n hx hb dX9_group_65 rfl (lv_at hl 1 rfl) ?_
                refine va_lald (f := g_27) hx hb hK hP 6 5 rfl rfl (iv_in (i := p0) (by omega) (by omega)) dX9_group_66 ?_
                refine lv_topl (fun w_28 ew_28 => ?_)
                clear ew_28
                refine lv_lconst (v := 0) hx hb dX9_group_67 (by decide) ?_
                refine W.lcmp hx hb dX9_group_68 ?_
                refine lv_topi (fun v_29 ev_29 => ?_)
                clear ev_29
                refine lv_if_ne (tgt := 73) hx hb dX9_group_69 (by decide) (fun c_30 => ?_) (fun c_30 => ?_)
                · skip
                  have ic_30 := iv_ne c_30
                  refine lv_aload_n hx hb dX9_group_73 rfl (lv_at hl 0 rfl) ?_
                  refine va_get (D := (dC, dI)) (ci := 11) (v := .ref (c 19)) (C := RX9) (T := TX9) (N := 38) hx hb hts hin9 hown hK hP 0 rfl rfl 19 (by decide) (hts (.fieldLink RX9 30 "BlockLogModel" "isGroup" "[Z") (by decide +kernel)) (fun _ h9 => h9) rfl dX9_group_74 ?_
                  refine lv_iload_n hx hb dX9_group_77 rfl (lv_at hl 1 rfl) ?_
                  refine lv_iconst (v := 1) hx hb dX9_group_78 (by decide) ?_
                  refine va_zast (f := ai 19) hx hb hK hP (rw_D hD) hS 7 6 rfl rfl (iv_in (i := p0) (by omega) (by omega)) dX9_group_79 (fun H locs hP _ hS => ?_)
                  have hP : va_P (dC, dI) vwCl (rw_W o c kc st lg (rU ai 19 (upd (ai 19) p0.toNatClampNeg (vp_nar .boolean (1 : Int32)))) (rU al 18 g_27)) H := hP
                  generalize hU_isGroup : upd (ai 19) p0.toNatClampNeg (vp_nar .boolean (1 : Int32)) = g_31 at hP
                  have hG : gOK (ai 0) (st 7) (st 16) g_31 := gOK_upd hG hU_isGroup hok
                  refine lv_iconst (v := 1) hx hb dX9_group_80 (by decide) ?_
                  refine lv_istore_n (lv' := [(3, .int (1 : Int32)), (0, .ref o), (1, .int p0), (2, .int p1)]) hx hb dX9_group_81 rfl hl (by decide) rfl (fun ls hl => ?_)
                  refine lv_iconst (v := 0) hx hb dX9_group_82 (by decide) ?_
                  refine lv_istore (lv' := [(4, .int (0 : Int32)), (3, .int (1 : Int32)), (0, .ref o), (1, .int p0), (2, .int p1)]) hx hb dX9_group_83 hl (by decide) rfl (fun ls hl => ?_)
                  have loop85 : ∀ (n : Nat) (l4_85 : Int32) (l3_85 : Int32) (H : Heap) (locs : List Loc) (ls : Array Slot), (0 ≤ l4_85.toInt) → (l4_85.toInt ≤ p0.toInt) → (0 ≤ l3_85.toInt) → (l3_85.toInt ≤ 1) → (p0.toInt - l4_85.toInt : Int).toNat < n → va_P (dC, dI) vwCl (rw_W o c kc st lg (rU ai 19 g_31) (rU al 18 g_27)) H → va_S A s.heap H locs → lv_has ls 5 [(4, .int l4_85), (3, .int l3_85), (0, .ref o), (1, .int p0), (2, .int p1)] → W p l e (headSpec wsX9_group ({ frames := 4, cells := 0, slots := 0, locals := 95 })).room s m ([.ref o, .int p0, .int p1] : List Value).toArray below meth cM H locs 0 0 (MQ below (va_Qv (fun (_ : Unit) => True) (fun _ t => ∃ (x22 : Int32) (x24 : Int32) (x26 : Int32) (y23 : Int64) (y27 : Int64) (f19 : Nat → Int32) (f20 : Nat → Int32) (g18 : Nat → Int64), (x26.toInt - x22.toInt = (st 26).toInt - (st 22).toInt ∨ (x26.toInt = x22.toInt ∧ p0.toInt = 0)) ∧ (0 ≤ x22.toInt) ∧ (x22.toInt ≤ 1000000) ∧ (0 ≤ x24.toInt) ∧ (x24.toInt ≤ 1) ∧ (0 ≤ x26.toInt) ∧ (x26.toInt ≤ 2000000) ∧ (gOK (ai 0) (st 7) (st 16) f19) ∧ (cOK (ai 0) (st 7) (st 16) f20) ∧ (vOK (ai 0) (st 7) (st 16) (ai 25) (x26.toInt - x22.toInt)) ∧ (bOK (ai 0) (st 7) (st 16) x24) ∧ va_P (dC, dI) vwCl (rw_W o c kc (rU (rU (rU st 22 x22) 24 x24) 26 x26) (rU (rU lg 23 y23) 27 y27) (rU (rU ai 19 f19) 20 f20) (rU al 18 g18)) t.heap) A) ([.ref o, .int p0, .int p1] : List Value).toArray s 0 0 A) (F0 m 85 ls []) := by
                    intro n
                    induction n with
                    | zero => intro l4_85 l3_85 H locs ls if0_85 if1_85 if2_85 if3_85 hm; exact absurd hm (Nat.not_lt_zero _)
                    | succ n ih85 =>
                      intro l4_85 l3_85 H locs ls if0_85 if1_85 if2_85 if3_85 hm85 hP hS hl
                      refine lv_iload hx hb dX9_group_85 (lv_at hl 0 rfl) ?_
                      refine lv_iload_n hx hb dX9_group_87 rfl (lv_at hl 3 rfl) ?_
                      refine lv_icmp_ge (tgt := 132) hx hb dX9_group_88 (by decide) (fun c_32 => ?_) (fun c_32 => ?_)
                      · skip
                        have ic_32 := iv_le c_32
                        refine lv_aload_n hx hb dX9_group_132 rfl (lv_at hl 2 rfl) ?_
                        refine va_get (D := (dC, dI)) (ci := 11) (v := .ref (c 20)) (C := RX9) (T := TX9) (N := 38) hx hb hts hin9 hown hK hP 0 rfl rfl 20 (by decide) (hts (.fieldLink RX9 34 "BlockLogModel" "counts" "[Z") (by decide +kernel)) (fun _ h9 => h9) rfl dX9_group_133 ?_
                        refine lv_iload_n hx hb dX9_group_136 rfl (lv_at hl 3 rfl) ?_
                        refine lv_iload_n hx hb dX9_group_137 rfl (lv_at hl 1 rfl) ?_
                        refine va_zast (f := ai 20) hx hb hK hP (rw_D hD) hS 8 7 rfl rfl (iv_in (i := p0) (by omega) (by omega)) dX9_group_138 (fun H locs hP _ hS => ?_)
                        have hP : va_P (dC, dI) vwCl (rw_W o c kc st lg (rU (rU ai 19 g_31) 20 (upd (ai 20) p0.toNatClampNeg (vp_nar .boolean l3_85))) (rU al 18 g_27)) H := hP
                        generalize hU_counts : upd (ai 20) p0.toNatClampNeg (vp_nar .boolean l3_85) = g_33 at hP
                        have hC : cOK (ai 0) (st 7) (st 16) g_33 := cOK_upd hC hU_counts (by omega) (fun _ => hok)
                        refine lv_iload_n hx hb dX9_group_139 rfl (lv_at hl 4 rfl) ?_
                        refine lv_iconst (v := 5) hx hb dX9_group_140 (by decide) ?_
                        refine lv_icmp_ne (tgt := 183) hx hb dX9_group_141 (by decide) (fun c_34 => ?_) (fun c_34 => ?_)
                        · skip
                          have ic_34 := iv_ne c_34
                          exact W.vret hx hb hr (fun t ht hW => ⟨⟨(), rfl, trivial, st 22, st 24, st 26, lg 23, lg 27, g_31, g_33, g_27, (by omega), (by omega), (by omega), (by omega), (by omega), (by omega), (by omega), (by assumption), (by assumption), (by assumption), (by assumption), by rw [ht]; exact hP⟩, hS.F ht⟩) hS.2.2 dX9_group_183
                        · skip
                          have ic_34 := iv_eq c_34
                          exfalso
                          omega
                      · skip
                        have ic_32 := iv_nle c_32
                        refine lv_iload_n hx hb dX9_group_91 rfl (lv_at hl 1 rfl) ?_
                        refine lv_aload_n hx hb dX9_group_92 rfl (lv_at hl 2 rfl) ?_
                        refine va_get (D := (dC, dI)) (ci := 11) (v := .ref (c 20)) (C := RX9) (T := TX9) (N := 38) hx hb hts hin9 hown hK hP 0 rfl rfl 20 (by decide) (hts (.fieldLink RX9 34 "BlockLogModel" "counts" "[Z") (by decide +kernel)) (fun _ h9 => h9) rfl dX9_group_93 ?_
                        refine lv_iload hx hb dX9_group_96 (lv_at hl 0 rfl) ?_
                        refine va_zald (f := ai 20) hx hb hK hP 8 7 rfl rfl (iv_in (i := l4_85) (by omega) (by omega)) dX9_group_98 ?_
                        refine lv_topi (fun v_35 ev_35 => ?_)
                        have hX_counts := ev_35
                        clear ev_35
                        refine lv_if_eq (tgt := 119) hx hb dX9_group_99 (by decide) (fun c_36 => ?_) (fun c_36 => ?_)
                        · skip
                          have ic_36 := iv_eq c_36
                          refine lv_iconst (v := 1) hx hb dX9_group_119 (by decide) ?_
                          refine lv_goto (tgt := 124) hx hb dX9_group_120 (by decide) ?_
                          refine lv_iand hx hb dX9_group_124 ?_
                          refine lv_topi (fun v_37 ev_37 => ?_)
                          have hv_37 : v_37.toInt = l3_85.toInt := by rw [ev_37, iv_and1 (by omega) (by omega)]
                          clear ev_37
                          refine lv_istore_n (lv' := [(3, .int v_37), (4, .int l4_85), (0, .ref o), (1, .int p0), (2, .int p1)]) hx hb dX9_group_125 rfl hl (by decide) rfl (fun ls hl => ?_)
                          obtain ⟨x_38, ex_38⟩ : ∃ z : Int32, z = l4_85 + (1) := ⟨_, rfl⟩
                          refine lv_iinc (v := x_38) (lv' := [(4, .int x_38), (3, .int v_37), (0, .ref o), (1, .int p0), (2, .int p1)]) hx hb dX9_group_126 hl (k := 1) rfl (by rw [ex_38]; rfl) (by decide) rfl (fun ls hl => ?_)
                          have rg1 := iv_rng l4_85
                          have hx_38 : x_38.toInt = l4_85.toInt + (1) := by rw [ex_38]; exact (iv_add (by omega) (by omega)).trans (by omega)
                          clear ex_38
                          refine lv_goto (tgt := 85) hx hb dX9_group_129 (by decide) ?_
                          exact ih85 x_38 v_37 _ _ _ (by omega) (by omega) (by omega) (by omega) (by omega) hP hS (lv_sub hl [0, 1, 2, 3, 4] rfl)
                        · skip
                          have ic_36 := iv_ne c_36
                          refine lv_aload_n hx hb dX9_group_102 rfl (lv_at hl 2 rfl) ?_
                          refine va_get (D := (dC, dI)) (ci := 11) (v := .ref (c 18)) (C := RX9) (T := TX9) (N := 38) hx hb hts hin9 hown hK hP 0 rfl rfl 18 (by decide) (hts (.fieldLink RX9 27 "BlockLogModel" "digestAt" "[J") (by decide +kernel)) (fun _ h9 => h9) rfl dX9_group_103 ?_
                          refine lv_iload hx hb dX9_group_106 (lv_at hl 0 rfl) ?_
                          refine va_lald (f := g_27) hx hb hK hP 6 5 rfl rfl (iv_in (i := l4_85) (by omega) (by omega)) dX9_group_108 ?_
                          refine lv_topl (fun w_39 ew_39 => ?_)
                          clear ew_39
                          refine lv_aload_n hx hb dX9_group_109 rfl (lv_at hl 2 rfl) ?_
                          refine va_get (D := (dC, dI)) (ci := 11) (v := .ref (c 18)) (C := RX9) (T := TX9) (N := 38) hx hb hts hin9 hown hK hP 0 rfl rfl 18 (by decide) (hts (.fieldLink RX9 27 "BlockLogModel" "digestAt" "[J") (by decide +kernel)) (fun _ h9 => h9) rfl dX9_group_110 ?_
                          refine lv_iload_n hx hb dX9_group_113 rfl (lv_at hl 3 rfl) ?_
                          refine va_lald (f := g_27) hx hb hK hP 6 5 rfl rfl (iv_in (i := p0) (by omega) (by omega)) dX9_group_114 ?_
                          refine lv_topl (fun w_40 ew_40 => ?_)
                          clear ew_40
                          refine W.lcmp hx hb dX9_group_115 ?_
                          refine lv_topi (fun v_41 ev_41 => ?_)
                          clear ev_41
                          refine lv_if_eq (tgt := 123) hx hb dX9_group_116 (by decide) (fun c_42 => ?_) (fun c_42 => ?_)
                          · skip
                            have ic_42 := iv_eq c_42
                            refine lv_iconst (v := 0) hx hb dX9_group_123 (by decide) ?_
                            refine lv_iand hx hb dX9_group_124 ?_
                            refine lv_topi (fun v_43 ev_43 => ?_)
                            have hv_43 : v_43.toInt = 0 := by rw [ev_43, iv_and0]; omega
                            clear ev_43
                            refine lv_istore_n (lv' := [(3, .int v_43), (4, .int l4_85), (0, .ref o), (1, .int p0), (2, .int p1)]) hx hb dX9_group_125 rfl hl (by decide) rfl (fun ls hl => ?_)
                            obtain ⟨x_44, ex_44⟩ : ∃ z : Int32, z = l4_85 + (1) := ⟨_, rfl⟩
                            refine lv_iinc (v := x_44) (lv' := [(4, .int x_44), (3, .int v_43), (0, .ref o), (1, .int p0), (2, .int p1)]) hx hb dX9_group_126 hl (k := 1) rfl (by rw [ex_44]; rfl) (by decide) rfl (fun ls hl => ?_)
                            have rg2 := iv_rng l4_85
                            have hx_44 : x_44.toInt = l4_85.toInt + (1) := by rw [ex_44]; exact (iv_add (by omega) (by omega)).trans (by omega)
                            clear ex_44
                            refine lv_goto (tgt := 85) hx hb dX9_group_129 (by decide) ?_
                            exact ih85 x_44 v_43 _ _ _ (by omega) (by omega) (by omega) (by omega) (by omega) hP hS (lv_sub hl [0, 1, 2, 3, 4] rfl)
                          · skip
                            have ic_42 := iv_ne c_42
                            refine lv_iconst (v := 1) hx hb dX9_group_119 (by decide) ?_
                            refine lv_goto (tgt := 124) hx hb dX9_group_120 (by decide) ?_
                            refine lv_iand hx hb dX9_group_124 ?_
                            refine lv_topi (fun v_45 ev_45 => ?_)
                            have hv_45 : v_45.toInt = l3_85.toInt := by rw [ev_45, iv_and1 (by omega) (by omega)]
                            clear ev_45
                            refine lv_istore_n (lv' := [(3, .int v_45), (4, .int l4_85), (0, .ref o), (1, .int p0), (2, .int p1)]) hx hb dX9_group_125 rfl hl (by decide) rfl (fun ls hl => ?_)
                            obtain ⟨x_46, ex_46⟩ : ∃ z : Int32, z = l4_85 + (1) := ⟨_, rfl⟩
                            refine lv_iinc (v := x_46) (lv' := [(4, .int x_46), (3, .int v_45), (0, .ref o), (1, .int p0), (2, .int p1)]) hx hb dX9_group_126 hl (k := 1) rfl (by rw [ex_46]; rfl) (by decide) rfl (fun ls hl => ?_)
                            have rg3 := iv_rng l4_85
                            have hx_46 : x_46.toInt = l4_85.toInt + (1) := by rw [ex_46]; exact (iv_add (by omega) (by omega)).trans (by omega)
                            clear ex_46
                            refine lv_goto (tgt := 85) hx hb dX9_group_129 (by decide) ?_
                            exact ih85 x_46 v_45 _ _ _ (by omega) (by omega) (by omega) (by omega) (by omega) hP hS (lv_sub hl [0, 1, 2, 3, 4] rfl)
                  exact loop85 ((p0.toInt - 0 : Int).toNat + 1) (0 : Int32) (1 : Int32) _ _ _ (by omega) (by omega) (by omega) (by omega) (by omega) hP hS (lv_sub hl [0, 1, 2, 3, 4] rfl)
                · skip
                  have ic_30 := iv_eq c_30
                  exact W.vret hx hb hr (fun t ht hW => ⟨⟨(), rfl, trivial, st 22, st 24, st 26, lg 23, lg 27, ai 19, ai 20, g_27, (by omega), (by omega), (by omega), (by omega), (by omega), (by omega), (by omega), (by assumption), (by assumption), (by assumption), (by assumption), by rw [ht]; exact hP⟩, hS.F ht⟩) hS.2.2 dX9_group_72
              · skip
                have ic_25 := iv_eq c_25
                exfalso
                omega
            · skip
              have ic_20 := iv_eq c_20
              exfalso
              omega
    · skip
      have ic_1 := iv_eq c_1
      refine lv_iload_n hx hb dX9_group_5 rfl (lv_at hl 1 rfl) ?_
      refine lv_if_gt (tgt := 36) hx hb dX9_group_6 (by decide) (fun c_47 => ?_) (fun c_47 => ?_)
      · skip
        have ic_47 := iv_lt c_47
        exact W.vret hx hb hr (fun t ht hW => ⟨⟨(), rfl, trivial, st 22, st 24, st 26, lg 23, lg 27, ai 19, ai 20, al 18, (by omega), (by omega), (by omega), (by omega), (by omega), (by omega), (by omega), (by assumption), (by assumption), (by assumption), (by assumption), by rw [ht]; exact hP⟩, hS.F ht⟩) hS.2.2 dX9_group_36
      · skip
        have ic_47 := iv_nlt c_47
        refine lv_aload_n hx hb dX9_group_9 rfl (lv_at hl 0 rfl) ?_
        refine lv_iload_n hx hb dX9_group_10 rfl (lv_at hl 1 rfl) ?_
        refine vp_callSi (va_Run.run (va_runV (As := [.int p0]) (rest := []) ⟨hx, hb, hml, hown, hts⟩ (v_X9_aOf l dC dI o c kc st lg ai al p0 (show 0 ≤ (st 7).toInt by omega) (show (st 7).toInt ≤ 1 by omega) (by omega) (by omega)) (cwV 1 hts gX9_group_X9_aOf rfl rfl rfl (by decide +kernel) ⟨Nat.le_of_ble_eq_true rfl, Nat.le_of_ble_eq_true rfl⟩) ⟨fun a U g mk q => by obtain ⟨q0, qP, qK⟩ := q; exact ⟨q0, qP, va_K.moved (u := U) (U := U.calling g mk a) (Vm.Alike.refl U.vm) qK⟩, va_recv hK hP (ci := 11) (q := (RX9, TX9, 38)) rfl (q0 := 0) rfl, fun U hU hW => ⟨rfl, by rw [hU]; exact hP, va_K.moved hW.alike hK⟩⟩ rfl rfl hl.1 rfl (lv_room (Nat.le_of_ble_eq_true rfl)) dX9_group_11 ⟨Nat.le_of_ble_eq_true rfl, Nat.le_of_ble_eq_true rfl⟩)) (fun r_48 er_48 => ?_)
        have k_49 := er_48
        have k_49 : r_48.toInt = (rA (ai 0) (st 7) p0).toInt := k_49
        refine lv_iconst (v := 1) hx hb dX9_group_14 (by decide) ?_
        refine lv_ldc hx hb hown (hts (.constant RX9 208 (1000000)) (by decide +kernel)) dX9_group_15 ?_
        refine vp_callSi (va_Run.run (va_runS (As := [.int r_48, .int (1 : Int32), .int (1000000 : Int32)]) (rest := []) ⟨hx, hb, hml, hown, hts⟩ (v_X9_within l dC dI r_48 (1 : Int32) (1000000 : Int32) ) (va_cwS 3 hts gX9_group_X9_within rfl rfl rfl (by decide +kernel) ⟨Nat.le_of_ble_eq_true rfl, Nat.le_of_ble_eq_true rfl⟩) ⟨fun a U g mk q => q, fun U hU hW => ⟨rfl, trivial⟩⟩ rfl rfl hl.1 rfl (lv_room (Nat.le_of_ble_eq_true rfl)) dX9_group_17 ⟨Nat.le_of_ble_eq_true rfl, Nat.le_of_ble_eq_true rfl⟩)) (fun r_50 er_50 => ?_)
        obtain ⟨k_51, k_52, k_53, k_54, k_55⟩ := er_50
        rcases iv_01 (a := r_50) (by omega) (by omega) with b_56 | b_56
        · skip
          have ib_56 := iv_eq b_56
          rw [b_56]
          refine lv_if_eq (tgt := 36) hx hb dX9_group_20 (by decide) (fun c_57 => ?_) (fun c_57 => ?_)
          · skip
            have ic_57 := iv_eq c_57
            exact W.vret hx hb hr (fun t ht hW => ⟨⟨(), rfl, trivial, st 22, st 24, st 26, lg 23, lg 27, ai 19, ai 20, al 18, (by omega), (by omega), (by omega), (by omega), (by omega), (by omega), (by omega), (by assumption), (by assumption), (by assumption), (by assumption), by rw [ht]; exact hP⟩, hS.F ht⟩) hS.2.2 dX9_group_36
          · skip
            have ic_57 := iv_ne c_57
            exfalso
            omega
        · skip
          have ib_56 := iv_eq b_56
          rw [b_56]
          refine lv_if_eq (tgt := 36) hx hb dX9_group_20 (by decide) (fun c_58 => ?_) (fun c_58 => ?_)
          · skip
            have ic_58 := iv_eq c_58
            exfalso
            omega
          · skip
            have ic_58 := iv_ne c_58
            refine lv_aload_n hx hb dX9_group_23 rfl (lv_at hl 0 rfl) ?_
            refine lv_iload_n hx hb dX9_group_24 rfl (lv_at hl 1 rfl) ?_
            refine lv_aload_n hx hb dX9_group_25 rfl (lv_at hl 0 rfl) ?_
            refine lv_iload_n hx hb dX9_group_26 rfl (lv_at hl 1 rfl) ?_
            refine vp_callSi (va_Run.run (va_runV (As := [.int p0]) (rest := [.int p0, .ref o]) ⟨hx, hb, hml, hown, hts⟩ (v_X9_bOf l dC dI o c kc st lg ai al p0 (show 0 ≤ (st 7).toInt by omega) (show (st 7).toInt ≤ 1 by omega) (by omega) (by omega)) (cwV 1 hts gX9_group_X9_bOf rfl rfl rfl (by decide +kernel) ⟨Nat.le_of_ble_eq_true rfl, Nat.le_of_ble_eq_true rfl⟩) ⟨fun a U g mk q => by obtain ⟨q0, qP, qK⟩ := q; exact ⟨q0, qP, va_K.moved (u := U) (U := U.calling g mk a) (Vm.Alike.refl U.vm) qK⟩, va_recv hK hP (ci := 11) (q := (RX9, TX9, 38)) rfl (q0 := 0) rfl, fun U hU hW => ⟨rfl, by rw [hU]; exact hP, va_K.moved hW.alike hK⟩⟩ rfl rfl hl.1 rfl (lv_room (Nat.le_of_ble_eq_true rfl)) dX9_group_27 ⟨Nat.le_of_ble_eq_true rfl, Nat.le_of_ble_eq_true rfl⟩)) (fun r_59 er_59 => ?_)
            have k_60 := er_59
            have k_60 : r_59.toInt = (rB (ai 0) (st 7) p0).toInt := k_60
            refine vp_callSi (va_Run.run (va_runV (As := [.int p0, .int r_59]) (rest := []) ⟨hx, hb, hml, hown, hts⟩ (v_X9_changesBehind l dC dI o c kc st lg ai al p0 r_59 (show 0 ≤ (st 7).toInt by omega) (show (st 7).toInt ≤ 1 by omega) (show 0 ≤ (st 16).toInt by omega) (show (st 16).toInt ≤ 128 by omega) (by omega) (by omega)) (cwV 2 hts gX9_group_X9_changesBehind rfl rfl rfl (by decide +kernel) ⟨Nat.le_of_ble_eq_true rfl, Nat.le_of_ble_eq_true rfl⟩) ⟨fun a U g mk q => by obtain ⟨q0, qP, qK⟩ := q; exact ⟨q0, qP, va_K.moved (u := U) (U := U.calling g mk a) (Vm.Alike.refl U.vm) qK⟩, va_recv hK hP (ci := 11) (q := (RX9, TX9, 38)) rfl (q0 := 0) rfl, fun U hU hW => ⟨rfl, by rw [hU]; exact hP, va_K.moved hW.alike hK⟩⟩ rfl rfl hl.1 rfl (lv_room (Nat.le_of_ble_eq_true rfl)) dX9_group_30 ⟨Nat.le_of_ble_eq_true rfl, Nat.le_of_ble_eq_true rfl⟩)) (fun r_61 er_61 => ?_)
            obtain ⟨k_62, k_63, hch⟩ := er_61
            have hch : r_61.toInt = 1 → okN (ai 0) (st 7) (st 16) p0 r_59 := hch
            rcases iv_01 (a := r_61) (by omega) (by omega) with b_64 | b_64
            · skip
              have ib_64 := iv_eq b_64
              rw [b_64]
              refine lv_if_ne (tgt := 37) hx hb dX9_group_33 (by decide) (fun c_65 => ?_) (fun c_65 => ?_)
              · skip
                have ic_65 := iv_ne c_65
                exfalso
                omega
              · skip
                have ic_65 := iv_eq c_65
                exact W.vret hx hb hr (fun t ht hW => ⟨⟨(), rfl, trivial, st 22, st 24, st 26, lg 23, lg 27, ai 19, ai 20, al 18, (by omega), (by omega), (by omega), (by omega), (by omega), (by omega), (by omega), (by assumption), (by assumption), (by assumption), (by assumption), by rw [ht]; exact hP⟩, hS.F ht⟩) hS.2.2 dX9_group_36
            · skip
              have ib_64 := iv_eq b_64
              rw [b_64]
              refine lv_if_ne (tgt := 37) hx hb dX9_group_33 (by decide) (fun c_66 => ?_) (fun c_66 => ?_)
              · skip
                have ic_66 := iv_ne c_66
                have hok : okB (ai 0) (st 7) (st 16) p0 := okN_B (hch (by omega)) (by omega)
                have k_67 : 0 ≤ p0.toInt := hok.1
                have k_68 : 0 ≤ (rB (ai 0) (st 7) p0).toInt := hok.2.1
                have k_69 : (rB (ai 0) (st 7) p0).toInt ≤ 16 := hok.2.2.1
                have k_70 : p0.toInt + (rB (ai 0) (st 7) p0).toInt < (st 16).toInt := hok.2.2.2.1
                refine lv_aload_n hx hb dX9_group_37 rfl (lv_at hl 0 rfl) ?_
                refine va_get (D := (dC, dI)) (ci := 11) (v := .ref (c 18)) (C := RX9) (T := TX9) (N := 38) hx hb hts hin9 hown hK hP 0 rfl rfl 18 (by decide) (hts (.fieldLink RX9 27 "BlockLogModel" "digestAt" "[J") (by decide +kernel)) (fun _ h9 => h9) rfl dX9_group_38 ?_
                refine lv_iload_n hx hb dX9_group_41 rfl (lv_at hl 1 rfl) ?_
                refine lv_iload_n hx hb dX9_group_42 rfl (lv_at hl 2 rfl) ?_
                refine lv_iconst (v := 5) hx hb dX9_group_43 (by decide) ?_
                refine lv_icmp_ne (tgt := 55) hx hb dX9_group_44 (by decide) (fun c_71 => ?_) (fun c_71 => ?_)
                · skip
                  have ic_71 := iv_ne c_71
                  exfalso
                  omega
                · skip
                  have ic_71 := iv_eq c_71
                  refine lv_aload_n hx hb dX9_group_47 rfl (lv_at hl 0 rfl) ?_
                  refine lv_iload_n hx hb dX9_group_48 rfl (lv_at hl 1 rfl) ?_
                  refine vp_callSl (va_Run.run (va_runV (As := [.int p0]) (rest := [.int p0, .ref (c 18)]) ⟨hx, hb, hml, hown, hts⟩ (v_X9_cOf l dC dI o c kc st lg ai al p0 (show 0 ≤ (st 7).toInt by omega) (show (st 7).toInt ≤ 1 by omega) (by omega) (by omega)) (cwV 1 hts gX9_group_X9_cOf rfl rfl rfl (by decide +kernel) ⟨Nat.le_of_ble_eq_true rfl, Nat.le_of_ble_eq_true rfl⟩) ⟨fun a U g mk q => by obtain ⟨q0, qP, qK⟩ := q; exact ⟨q0, qP, va_K.moved (u := U) (U := U.calling g mk a) (Vm.Alike.refl U.vm) qK⟩, va_recv hK hP (ci := 11) (q := (RX9, TX9, 38)) rfl (q0 := 0) rfl, fun U hU hW => ⟨rfl, by rw [hU]; exact hP, va_K.moved hW.alike hK⟩⟩ rfl rfl hl.1 rfl (lv_room (Nat.le_of_ble_eq_true rfl)) dX9_group_49 ⟨Nat.le_of_ble_eq_true rfl, Nat.le_of_ble_eq_true rfl⟩)) (fun r_72 er_72 => ?_)
                  have hc := er_72
                  have hc : r_72 = rC (ai 0) (st 7) p0 := hc
                  refine lv_goto (tgt := 60) hx hb dX9_group_52 (by decide) ?_
                  refine va_last (f := al 18) hx hb hK hP (rw_D hD) hS 6 5 rfl rfl (iv_in (i := p0) (by omega) (by omega)) dX9_group_60 (fun H locs hP _ hS => ?_)
                  have hP : va_P (dC, dI) vwCl (rw_W o c kc st lg ai (rU al 18 (vp_updL (al 18) p0.toNatClampNeg r_72))) H := hP
                  generalize hU_digestAt : vp_updL (al 18) p0.toNatClampNeg r_72 = g_73 at hP
                  clear hU_digestAt
                  refine lv_aload_n hx hb dX9_group_61 rfl (lv_at hl 0 rfl) ?_
                  refine va_get (D := (dC, dI)) (ci := 11) (v := .ref (c 18)) (C := RX9) (T := TX9) (N := 38) hx hb hts hin9 hown hK hP 0 rfl rfl 18 (by decide) (hts (.fieldLink RX9 27 "BlockLogModel" "digestAt" "[J") (by decide +kernel)) (fun _ h9 => h9) rfl dX9_group_62 ?_
                  refine lv_iload_n hx hb dX9_group_65 rfl (lv_at hl 1 rfl) ?_
                  refine va_lald (f := g_73) hx hb hK hP 6 5 rfl rfl (iv_in (i := p0) (by omega) (by omega)) dX9_group_66 ?_
                  refine lv_topl (fun w_74 ew_74 => ?_)
                  clear ew_74
                  refine lv_lconst (v := 0) hx hb dX9_group_67 (by decide) ?_
                  refine W.lcmp hx hb dX9_group_68 ?_
                  refine lv_topi (fun v_75 ev_75 => ?_)
                  clear ev_75
                  refine lv_if_ne (tgt := 73) hx hb dX9_group_69 (by decide) (fun c_76 => ?_) (fun c_76 => ?_)
                  · skip
                    have ic_76 := iv_ne c_76
                    refine lv_aload_n hx hb dX9_group_73 rfl (lv_at hl 0 rfl) ?_
                    refine va_get (D := (dC, dI)) (ci := 11) (v := .ref (c 19)) (C := RX9) (T := TX9) (N := 38) hx hb hts hin9 hown hK hP 0 rfl rfl 19 (by decide) (hts (.fieldLink RX9 30 "BlockLogModel" "isGroup" "[Z") (by decide +kernel)) (fun _ h9 => h9) rfl dX9_group_74 ?_
                    refine lv_iload_n hx hb dX9_group_77 rfl (lv_at hl 1 rfl) ?_
                    refine lv_iconst (v := 1) hx hb dX9_group_78 (by decide) ?_
                    refine va_zast (f := ai 19) hx hb hK hP (rw_D hD) hS 7 6 rfl rfl (iv_in (i := p0) (by omega) (by omega)) dX9_group_79 (fun H locs hP _ hS => ?_)
                    have hP : va_P (dC, dI) vwCl (rw_W o c kc st lg (rU ai 19 (upd (ai 19) p0.toNatClampNeg (vp_nar .boolean (1 : Int32)))) (rU al 18 g_73)) H := hP
                    generalize hU_isGroup : upd (ai 19) p0.toNatClampNeg (vp_nar .boolean (1 : Int32)) = g_77 at hP
                    have hG : gOK (ai 0) (st 7) (st 16) g_77 := gOK_upd hG hU_isGroup hok
                    refine lv_iconst (v := 1) hx hb dX9_group_80 (by decide) ?_
                    refine lv_istore_n (lv' := [(3, .int (1 : Int32)), (0, .ref o), (1, .int p0), (2, .int p1)]) hx hb dX9_group_81 rfl hl (by decide) rfl (fun ls hl => ?_)
                    refine lv_iconst (v := 0) hx hb dX9_group_82 (by decide) ?_
                    refine lv_istore (lv' := [(4, .int (0 : Int32)), (3, .int (1 : Int32)), (0, .ref o), (1, .int p0), (2, .int p1)]) hx hb dX9_group_83 hl (by decide) rfl (fun ls hl => ?_)
                    have loop85 : ∀ (n : Nat) (l4_85 : Int32) (l3_85 : Int32) (H : Heap) (locs : List Loc) (ls : Array Slot), (0 ≤ l4_85.toInt) → (l4_85.toInt ≤ p0.toInt) → (0 ≤ l3_85.toInt) → (l3_85.toInt ≤ 1) → (p0.toInt - l4_85.toInt : Int).toNat < n → va_P (dC, dI) vwCl (rw_W o c kc st lg (rU ai 19 g_77) (rU al 18 g_73)) H → va_S A s.heap H locs → lv_has ls 5 [(4, .int l4_85), (3, .int l3_85), (0, .ref o), (1, .int p0), (2, .int p1)] → W p l e (headSpec wsX9_group ({ frames := 4, cells := 0, slots := 0, locals := 95 })).room s m ([.ref o, .int p0, .int p1] : List Value).toArray below meth cM H locs 0 0 (MQ below (va_Qv (fun (_ : Unit) => True) (fun _ t => ∃ (x22 : Int32) (x24 : Int32) (x26 : Int32) (y23 : Int64) (y27 : Int64) (f19 : Nat → Int32) (f20 : Nat → Int32) (g18 : Nat → Int64), (x26.toInt - x22.toInt = (st 26).toInt - (st 22).toInt ∨ (x26.toInt = x22.toInt ∧ p0.toInt = 0)) ∧ (0 ≤ x22.toInt) ∧ (x22.toInt ≤ 1000000) ∧ (0 ≤ x24.toInt) ∧ (x24.toInt ≤ 1) ∧ (0 ≤ x26.toInt) ∧ (x26.toInt ≤ 2000000) ∧ (gOK (ai 0) (st 7) (st 16) f19) ∧ (cOK (ai 0) (st 7) (st 16) f20) ∧ (vOK (ai 0) (st 7) (st 16) (ai 25) (x26.toInt - x22.toInt)) ∧ (bOK (ai 0) (st 7) (st 16) x24) ∧ va_P (dC, dI) vwCl (rw_W o c kc (rU (rU (rU st 22 x22) 24 x24) 26 x26) (rU (rU lg 23 y23) 27 y27) (rU (rU ai 19 f19) 20 f20) (rU al 18 g18)) t.heap) A) ([.ref o, .int p0, .int p1] : List Value).toArray s 0 0 A) (F0 m 85 ls []) := by
                      intro n
                      induction n with
                      | zero => intro l4_85 l3_85 H locs ls if0_85 if1_85 if2_85 if3_85 hm; exact absurd hm (Nat.not_lt_zero _)
                      | succ n ih85 =>
                        intro l4_85 l3_85 H locs ls if0_85 if1_85 if2_85 if3_85 hm85 hP hS hl
                        refine lv_iload hx hb dX9_group_85 (lv_at hl 0 rfl) ?_
                        refine lv_iload_n hx hb dX9_group_87 rfl (lv_at hl 3 rfl) ?_
                        refine lv_icmp_ge (tgt := 132) hx hb dX9_group_88 (by decide) (fun c_78 => ?_) (fun c_78 => ?_)
                        · skip
                          have ic_78 := iv_le c_78
                          refine lv_aload_n hx hb dX9_group_132 rfl (lv_at hl 2 rfl) ?_
                          refine va_get (D := (dC, dI)) (ci := 11) (v := .ref (c 20)) (C := RX9) (T := TX9) (N := 38) hx hb hts hin9 hown hK hP 0 rfl rfl 20 (by decide) (hts (.fieldLink RX9 34 "BlockLogModel" "counts" "[Z") (by decide +kernel)) (fun _ h9 => h9) rfl dX9_group_133 ?_
                          refine lv_iload_n hx hb dX9_group_136 rfl (lv_at hl 3 rfl) ?_
                          refine lv_iload_n hx hb dX9_group_137 rfl (lv_at hl 1 rfl) ?_
                          refine va_zast (f := ai 20) hx hb hK hP (rw_D hD) hS 8 7 rfl rfl (iv_in (i := p0) (by omega) (by omega)) dX9_group_138 (fun H locs hP _ hS => ?_)
                          have hP : va_P (dC, dI) vwCl (rw_W o c kc st lg (rU (rU ai 19 g_77) 20 (upd (ai 20) p0.toNatClampNeg (vp_nar .boolean l3_85))) (rU al 18 g_73)) H := hP
                          generalize hU_counts : upd (ai 20) p0.toNatClampNeg (vp_nar .boolean l3_85) = g_79 at hP
                          have hC : cOK (ai 0) (st 7) (st 16) g_79 := cOK_upd hC hU_counts (by omega) (fun _ => hok)
                          refine lv_iload_n hx hb dX9_group_139 rfl (lv_at hl 4 rfl) ?_
                          refine lv_iconst (v := 5) hx hb dX9_group_140 (by decide) ?_
                          refine lv_icmp_ne (tgt := 183) hx hb dX9_group_141 (by decide) (fun c_80 => ?_) (fun c_80 => ?_)
                          · skip
                            have ic_80 := iv_ne c_80
                            exfalso
                            omega
                          · skip
                            have ic_80 := iv_eq c_80
                            refine lv_aload_n hx hb dX9_group_144 rfl (lv_at hl 2 rfl) ?_
                            refine lv_iconst (v := 1) hx hb dX9_group_145 (by decide) ?_
                            refine va_put (D := (dC, dI)) (ci := 11) (v := .int (1 : Int32)) (ty := .boolean) (C := RX9) (T := TX9) (N := 38) hx hb hts hin9 tyX9 tyX9_ok nmX9 hown hK hP (rw_D hD) hS 0 rfl rfl 24 (by decide) (hts (.fieldLink RX9 189 "BlockLogModel" "hasBase" "Z") (by decide +kernel)) (fun _ h9 => h9) rfl (by decide +kernel) rfl rfl (Nat.le_of_ble_eq_true rfl) dX9_group_146 (fun H locs hP _ hS => ?_)
                            have hP : va_P (dC, dI) vwCl (rw_W o c kc (rU st 24 (1 : Int32)) lg (rU (rU ai 19 g_77) 20 g_79) (rU al 18 g_73)) H := hP
                            have hBs : bOK (ai 0) (st 7) (st 16) (1 : Int32) := bOK_of hok (by omega)
                            refine lv_aload_n hx hb dX9_group_149 rfl (lv_at hl 2 rfl) ?_
                            refine lv_aload_n hx hb dX9_group_150 rfl (lv_at hl 2 rfl) ?_
                            refine lv_iload_n hx hb dX9_group_151 rfl (lv_at hl 3 rfl) ?_
                            refine vp_callSi (va_Run.run (va_runV (As := [.int p0]) (rest := [.ref o]) ⟨hx, hb, hml, hown, hts⟩ (v_X9_aOf l dC dI o c kc (rU st 24 (1 : Int32)) lg (rU (rU ai 19 g_77) 20 g_79) (rU al 18 g_73) p0 (show 0 ≤ (st 7).toInt by omega) (show (st 7).toInt ≤ 1 by omega) (by omega) (by omega)) (cwV 1 hts gX9_group_X9_aOf rfl rfl rfl (by decide +kernel) ⟨Nat.le_of_ble_eq_true rfl, Nat.le_of_ble_eq_true rfl⟩) ⟨fun a U g mk q => by obtain ⟨q0, qP, qK⟩ := q; exact ⟨q0, qP, va_K.moved (u := U) (U := U.calling g mk a) (Vm.Alike.refl U.vm) qK⟩, va_recv hK hP (ci := 11) (q := (RX9, TX9, 38)) rfl (q0 := 0) rfl, fun U hU hW => ⟨rfl, by rw [hU]; exact hP, va_K.moved hW.alike hK⟩⟩ rfl rfl hl.1 rfl (lv_room (Nat.le_of_ble_eq_true rfl)) dX9_group_152 ⟨Nat.le_of_ble_eq_true rfl, Nat.le_of_ble_eq_true rfl⟩)) (fun r_81 er_81 => ?_)
                            have k_82 := er_81
                            have k_82 : r_81.toInt = (rA (ai 0) (st 7) p0).toInt := k_82
                            refine va_put (D := (dC, dI)) (ci := 11) (v := .int r_81) (ty := .int) (C := RX9) (T := TX9) (N := 38) hx hb hts hin9 tyX9 tyX9_ok nmX9 hown hK hP (rw_D hD) hS 0 rfl rfl 22 (by decide) (hts (.fieldLink RX9 182 "BlockLogModel" "baseHeight" "I") (by decide +kernel)) (fun _ h9 => h9) rfl (by decide +kernel) rfl rfl (Nat.le_of_ble_eq_true rfl) dX9_group_155 (fun H locs hP _ hS => ?_)
                            have hP : va_P (dC, dI) vwCl (rw_W o c kc (rU (rU st 22 r_81) 24 (1 : Int32)) lg (rU (rU ai 19 g_77) 20 g_79) (rU al 18 g_73)) H := hP
                            refine lv_aload_n hx hb dX9_group_158 rfl (lv_at hl 2 rfl) ?_
                            refine lv_aload_n hx hb dX9_group_159 rfl (lv_at hl 2 rfl) ?_
                            refine lv_iload_n hx hb dX9_group_160 rfl (lv_at hl 3 rfl) ?_
                            refine vp_callSl (va_Run.run (va_runV (As := [.int p0]) (rest := [.ref o]) ⟨hx, hb, hml, hown, hts⟩ (v_X9_cOf l dC dI o c kc (rU (rU st 22 r_81) 24 (1 : Int32)) lg (rU (rU ai 19 g_77) 20 g_79) (rU al 18 g_73) p0 (show 0 ≤ (st 7).toInt by omega) (show (st 7).toInt ≤ 1 by omega) (by omega) (by omega)) (cwV 1 hts gX9_group_X9_cOf rfl rfl rfl (by decide +kernel) ⟨Nat.le_of_ble_eq_true rfl, Nat.le_of_ble_eq_true rfl⟩) ⟨fun a U g mk q => by obtain ⟨q0, qP, qK⟩ := q; exact ⟨q0, qP, va_K.moved (u := U) (U := U.calling g mk a) (Vm.Alike.refl U.vm) qK⟩, va_recv hK hP (ci := 11) (q := (RX9, TX9, 38)) rfl (q0 := 0) rfl, fun U hU hW => ⟨rfl, by rw [hU]; exact hP, va_K.moved hW.alike hK⟩⟩ rfl rfl hl.1 rfl (lv_room (Nat.le_of_ble_eq_true rfl)) dX9_group_161 ⟨Nat.le_of_ble_eq_true rfl, Nat.le_of_ble_eq_true rfl⟩)) (fun r_83 er_83 => ?_)
                            have hc := er_83
                            have hc : r_83 = rC (ai 0) (st 7) p0 := hc
                            refine va_put (D := (dC, dI)) (ci := 11) (v := .long r_83) (ty := .long) (C := RX9) (T := TX9) (N := 38) hx hb hts hin9 tyX9 tyX9_ok nmX9 hown hK hP (rw_D hD) hS 0 rfl rfl 23 (by decide) (hts (.fieldLink RX9 185 "BlockLogModel" "baseDigest" "J") (by decide +kernel)) (fun _ h9 => h9) rfl (by decide +kernel) rfl rfl (Nat.le_of_ble_eq_true rfl) dX9_group_164 (fun H locs hP _ hS => ?_)
                            have hP : va_P (dC, dI) vwCl (rw_W o c kc (rU (rU st 22 r_81) 24 (1 : Int32)) (rU lg 23 r_83) (rU (rU ai 19 g_77) 20 g_79) (rU al 18 g_73)) H := hP
                            refine lv_aload_n hx hb dX9_group_167 rfl (lv_at hl 2 rfl) ?_
                            refine lv_aload_n hx hb dX9_group_168 rfl (lv_at hl 2 rfl) ?_
                            refine va_get (D := (dC, dI)) (ci := 11) (v := .int r_81) (C := RX9) (T := TX9) (N := 38) hx hb hts hin9 hown hK hP 0 rfl rfl 22 (by decide) (hts (.fieldLink RX9 182 "BlockLogModel" "baseHeight" "I") (by decide +kernel)) (fun _ h9 => h9) rfl dX9_group_169 ?_
                            refine va_put (D := (dC, dI)) (ci := 11) (v := .int r_81) (ty := .int) (C := RX9) (T := TX9) (N := 38) hx hb hts hin9 tyX9 tyX9_ok nmX9 hown hK hP (rw_D hD) hS 0 rfl rfl 26 (by decide) (hts (.fieldLink RX9 192 "BlockLogModel" "lastVersion" "I") (by decide +kernel)) (fun _ h9 => h9) rfl (by decide +kernel) rfl rfl (Nat.le_of_ble_eq_true rfl) dX9_group_172 (fun H locs hP _ hS => ?_)
                            have hP : va_P (dC, dI) vwCl (rw_W o c kc (rU (rU (rU st 22 r_81) 24 (1 : Int32)) 26 r_81) (rU lg 23 r_83) (rU (rU ai 19 g_77) 20 g_79) (rU al 18 g_73)) H := hP
                            have hV : vOK (ai 0) (st 7) (st 16) (ai 25) (r_81.toInt - r_81.toInt) := vOK_0 (by omega)
                            refine lv_aload_n hx hb dX9_group_175 rfl (lv_at hl 2 rfl) ?_
                            refine lv_aload_n hx hb dX9_group_176 rfl (lv_at hl 2 rfl) ?_
                            refine va_get (D := (dC, dI)) (ci := 11) (v := .long r_83) (C := RX9) (T := TX9) (N := 38) hx hb hts hin9 hown hK hP 0 rfl rfl 23 (by decide) (hts (.fieldLink RX9 185 "BlockLogModel" "baseDigest" "J") (by decide +kernel)) (fun _ h9 => h9) rfl dX9_group_177 ?_
                            refine va_put (D := (dC, dI)) (ci := 11) (v := .long r_83) (ty := .long) (C := RX9) (T := TX9) (N := 38) hx hb hts hin9 tyX9 tyX9_ok nmX9 hown hK hP (rw_D hD) hS 0 rfl rfl 27 (by decide) (hts (.fieldLink RX9 195 "BlockLogModel" "lastDigest" "J") (by decide +kernel)) (fun _ h9 => h9) rfl (by decide +kernel) rfl rfl (Nat.le_of_ble_eq_true rfl) dX9_group_180 (fun H locs hP _ hS => ?_)
                            have hP : va_P (dC, dI) vwCl (rw_W o c kc (rU (rU (rU st 22 r_81) 24 (1 : Int32)) 26 r_81) (rU (rU lg 23 r_83) 27 r_83) (rU (rU ai 19 g_77) 20 g_79) (rU al 18 g_73)) H := hP
                            exact W.vret hx hb hr (fun t ht hW => ⟨⟨(), rfl, trivial, r_81, (1 : Int32), r_81, r_83, r_83, g_77, g_79, g_73, (by omega), (by omega), (by omega), (by omega), (by omega), (by omega), (by omega), (by assumption), (by assumption), (by assumption), (by assumption), by rw [ht]; exact hP⟩, hS.F ht⟩) hS.2.2 dX9_group_183
                        · skip
                          have ic_78 := iv_nle c_78
                          exfalso
                          omega
                    exact loop85 ((p0.toInt - 0 : Int).toNat + 1) (0 : Int32) (1 : Int32) _ _ _ (by omega) (by omega) (by omega) (by omega) (by omega) hP hS (lv_sub hl [0, 1, 2, 3, 4] rfl)
                  · skip
                    have ic_76 := iv_eq c_76
                    exact W.vret hx hb hr (fun t ht hW => ⟨⟨(), rfl, trivial, st 22, st 24, st 26, lg 23, lg 27, ai 19, ai 20, g_73, (by omega), (by omega), (by omega), (by omega), (by omega), (by omega), (by omega), (by assumption), (by assumption), (by assumption), (by assumption), by rw [ht]; exact hP⟩, hS.F ht⟩) hS.2.2 dX9_group_72
              · skip
                have ic_66 := iv_eq c_66
                exfalso
                omega
  exact main s.heap [] hP hS

set_option maxHeartbeats 4000000 in
set_option maxRecDepth 100000 in
theorem v_X9_isNext (l : Launch) (dC : Nat → ClassId) (dI : Nat → Nat → Nat) (o : Nat) (c : Nat → Nat) (kc : Nat → ClassId) (st : Nat → Int32) (lg : Nat → Int64) (ai : Nat → Nat → Int32) (al : Nat → Nat → Int64) (p0 : Int32) (hf7a : 0 ≤ (st 7).toInt) (hf7b : (st 7).toInt ≤ 1) (hf26a : 0 ≤ (st 26).toInt) (hf26b : (st 26).toInt ≤ 2000000) (hq0 : 0 ≤ p0.toInt) (hq1 : p0.toInt ≤ 127) : Met l yX9_isNext wsX9_isNext ({ frames := 3, cells := 0, slots := 0, locals := 70 }) (va_Pc [.ref o, .int p0] (fun U => va_P (dC, dI) vwCl (rw_W o c kc st lg ai al) U.heap ∧ va_K (dC, dI) vwCl (rw_T kc) U)) (vp_Si (fun r => (r.toInt = 1 → (rA (ai 0) (st 7) p0).toInt = (st 26).toInt + 1) ∧ (0 ≤ r.toInt) ∧ (r.toInt ≤ 1))) 0 0 (fun _ => False) := by
  refine Met.ofW (cc := cX9_isNext) (maxL := 2) (ret := (some .boolean)) (by decide) rfl ?_
  intro p e s m args below meth cM s₁ B hml hv
  obtain ⟨rfl, hP, hK⟩ := hv
  have hx := B.exec
  have hb := B.bytes
  have hr := B.returns
  have hts := atoms_spec (ws := wsX9_isNext) B.pre
  have hown : s.vm.findClass RX9 = some m.cls := findClass_of_methodNamed B.named
  have hl := lv_entry ([.ref o, .int p0]) (n := 2) (Nat.le_of_ble_eq_true rfl)
  rw [lg_entry_eq]
  generalize (lg_sl ([.ref o, .int p0]) ++ List.replicate (2 - (lg_sl ([.ref o, .int p0])).length) Slot.unset).toArray = ls at hl ⊢
  have hl : lv_has ls 2 [(0, .ref o), (1, .int p0)] := hl
  have z_0 : (0 : Int32).toInt = 0 := by decide
  have z_1 : (1 : Int32).toInt = 1 := by decide
  have hin9 : ∀ w ∈ u_ws RX9 TX9 38, w ∈ wsX9_isNext := by decide +kernel
  refine lv_aload_n hx hb dX9_isNext_0 rfl (lv_at hl 0 rfl) ?_
  refine lv_iload_n hx hb dX9_isNext_1 rfl (lv_at hl 1 rfl) ?_
  refine vp_callSi (va_Run.run (va_runV (As := [.int p0]) (rest := []) ⟨hx, hb, hml, hown, hts⟩ (v_X9_aOf l dC dI o c kc st lg ai al p0 (show 0 ≤ (st 7).toInt by omega) (show (st 7).toInt ≤ 1 by omega) (by omega) (by omega)) (cwV 1 hts gX9_isNext_X9_aOf rfl rfl rfl (by decide +kernel) ⟨Nat.le_of_ble_eq_true rfl, Nat.le_of_ble_eq_true rfl⟩) ⟨fun a U g mk q => by obtain ⟨q0, qP, qK⟩ := q; exact ⟨q0, qP, va_K.moved (u := U) (U := U.calling g mk a) (Vm.Alike.refl U.vm) qK⟩, va_recv hK hP (ci := 11) (q := (RX9, TX9, 38)) rfl (q0 := 0) rfl, fun U hU hW => ⟨rfl, by rw [hU]; exact hP, va_K.moved hW.alike hK⟩⟩ rfl rfl hl.1 rfl (lv_room (Nat.le_of_ble_eq_true rfl)) dX9_isNext_2 ⟨Nat.le_of_ble_eq_true rfl, Nat.le_of_ble_eq_true rfl⟩)) (fun r_1 er_1 => ?_)
  have k_2 := er_1
  have k_2 : r_1.toInt = (rA (ai 0) (st 7) p0).toInt := k_2
  refine lv_aload_n hx hb dX9_isNext_5 rfl (lv_at hl 0 rfl) ?_
  refine va_get (D := (dC, dI)) (ci := 11) (v := .int (st 26)) (C := RX9) (T := TX9) (N := 38) hx hb hts hin9 hown hK hP 0 rfl rfl 26 (by decide) (hts (.fieldLink RX9 192 "BlockLogModel" "lastVersion" "I") (by decide +kernel)) (fun _ h9 => h9) rfl dX9_isNext_6 ?_
  refine lv_iconst (v := 1) hx hb dX9_isNext_9 (by decide) ?_
  refine lv_iadd hx hb dX9_isNext_10 ?_
  refine lv_topi (fun v_3 ev_3 => ?_)
  have rg1 := iv_rng (st 26)
  have hv_3 : v_3.toInt = (st 26).toInt + 1 := by rw [ev_3]; exact (iv_add (by omega) (by omega)).trans (by omega)
  clear ev_3
  refine lv_icmp_ne (tgt := 31) hx hb dX9_isNext_11 (by decide) (fun c_4 => ?_) (fun c_4 => ?_)
  · skip
    have ic_4 := iv_ne c_4
    refine lv_iconst (v := 0) hx hb dX9_isNext_31 (by decide) ?_
    exact W.zret hx hb hr rfl (fun t ht hW => ⟨_, rfl, ⟨(by omega), (by omega), (by omega)⟩, ht⟩) (fun q h => by cases h) dX9_isNext_32
  · skip
    have ic_4 := iv_eq c_4
    refine lv_aload_n hx hb dX9_isNext_14 rfl (lv_at hl 0 rfl) ?_
    refine lv_iload_n hx hb dX9_isNext_15 rfl (lv_at hl 1 rfl) ?_
    refine vp_callSl (va_Run.run (va_runV (As := [.int p0]) (rest := []) ⟨hx, hb, hml, hown, hts⟩ (v_X9_cOf l dC dI o c kc st lg ai al p0 (show 0 ≤ (st 7).toInt by omega) (show (st 7).toInt ≤ 1 by omega) (by omega) (by omega)) (cwV 1 hts gX9_isNext_X9_cOf rfl rfl rfl (by decide +kernel) ⟨Nat.le_of_ble_eq_true rfl, Nat.le_of_ble_eq_true rfl⟩) ⟨fun a U g mk q => by obtain ⟨q0, qP, qK⟩ := q; exact ⟨q0, qP, va_K.moved (u := U) (U := U.calling g mk a) (Vm.Alike.refl U.vm) qK⟩, va_recv hK hP (ci := 11) (q := (RX9, TX9, 38)) rfl (q0 := 0) rfl, fun U hU hW => ⟨rfl, by rw [hU]; exact hP, va_K.moved hW.alike hK⟩⟩ rfl rfl hl.1 rfl (lv_room (Nat.le_of_ble_eq_true rfl)) dX9_isNext_16 ⟨Nat.le_of_ble_eq_true rfl, Nat.le_of_ble_eq_true rfl⟩)) (fun r_5 er_5 => ?_)
    have hc := er_5
    have hc : r_5 = rC (ai 0) (st 7) p0 := hc
    refine lv_aload_n hx hb dX9_isNext_19 rfl (lv_at hl 0 rfl) ?_
    refine va_get (D := (dC, dI)) (ci := 11) (v := .long (lg 27)) (C := RX9) (T := TX9) (N := 38) hx hb hts hin9 hown hK hP 0 rfl rfl 27 (by decide) (hts (.fieldLink RX9 195 "BlockLogModel" "lastDigest" "J") (by decide +kernel)) (fun _ h9 => h9) rfl dX9_isNext_20 ?_
    refine W.lcmp hx hb dX9_isNext_23 ?_
    refine lv_topi (fun v_6 ev_6 => ?_)
    clear ev_6
    refine lv_if_ne (tgt := 31) hx hb dX9_isNext_24 (by decide) (fun c_7 => ?_) (fun c_7 => ?_)
    · skip
      have ic_7 := iv_ne c_7
      refine lv_iconst (v := 0) hx hb dX9_isNext_31 (by decide) ?_
      exact W.zret hx hb hr rfl (fun t ht hW => ⟨_, rfl, ⟨(by omega), (by omega), (by omega)⟩, ht⟩) (fun q h => by cases h) dX9_isNext_32
    · skip
      have ic_7 := iv_eq c_7
      refine lv_iconst (v := 1) hx hb dX9_isNext_27 (by decide) ?_
      refine lv_goto (tgt := 32) hx hb dX9_isNext_28 (by decide) ?_
      exact W.zret hx hb hr rfl (fun t ht hW => ⟨_, rfl, ⟨(by omega), (by omega), (by omega)⟩, ht⟩) (fun q h => by cases h) dX9_isNext_32

set_option maxHeartbeats 4000000 in
set_option maxRecDepth 100000 in
theorem v_X9_certificate (l : Launch) (dC : Nat → ClassId) (dI : Nat → Nat → Nat) (o : Nat) (c : Nat → Nat) (kc : Nat → ClassId) (st : Nat → Int32) (lg : Nat → Int64) (ai : Nat → Nat → Int32) (al : Nat → Nat → Int64) (p0 : Int32) (sz : Nat) (hf7a : 0 ≤ (st 7).toInt) (hf7b : (st 7).toInt ≤ 1) (hf22a : 0 ≤ (st 22).toInt) (hf22b : (st 22).toInt ≤ 1000000) (hf26a : 0 ≤ (st 26).toInt) (hf26b : (st 26).toInt ≤ 2000000) (hq0 : 0 ≤ p0.toInt) (hq1 : p0.toInt ≤ 127) (hq2 : (rK (ai 0) (st 7) p0).toInt = 4) (hq3 : 0 ≤ (st 26).toInt - (st 22).toInt) (hq4 : (st 26).toInt - (st 22).toInt ≤ 127) (hR25 : aR (ai 25) 130 (0) 127) (hG : gOK (ai 0) (st 7) (st 16) (ai 19)) (hC : cOK (ai 0) (st 7) (st 16) (ai 20)) (hV : vOK (ai 0) (st 7) (st 16) (ai 25) ((st 26).toInt - (st 22).toInt)) : Met l yX9_certificate wsX9_certificate ({ frames := 4, cells := 0, slots := 0, locals := 91 }) (va_Pc [.ref o, .int p0] (fun U => U.heap.size = sz ∧ va_P (dC, dI) vwCl (rw_W o c kc st lg ai al) U.heap ∧ va_K (dC, dI) vwCl (rw_T kc) U ∧ va_D (fun _ => True) (rw_W o c kc st lg ai al))) (va_Qv (fun (_ : Unit) => True) (fun _ t => ∃ (x26 : Int32) (y27 : Int64) (f20 : Nat → Int32) (f25 : Nat → Int32), (x26.toInt = (st 26).toInt ∨ x26.toInt = (st 26).toInt + 1) ∧ (0 ≤ x26.toInt) ∧ (x26.toInt ≤ 2000000) ∧ (aR f25 130 (0) 127) ∧ (cOK (ai 0) (st 7) (st 16) f20) ∧ (vOK (ai 0) (st 7) (st 16) f25 (x26.toInt - (st 22).toInt)) ∧ va_P (dC, dI) vwCl (rw_W o c kc (rU st 26 x26) (rU lg 27 y27) (rU (rU ai 20 f20) 25 f25) al) t.heap) (va_A (rw_W o c kc st lg ai al) sz)) 0 0 (va_A (rw_W o c kc st lg ai al) sz) := by
  refine Met.ofW (cc := cX9_certificate) (maxL := 3) (ret := none) (by decide) rfl ?_
  intro p e s m args below meth cM s₁ B hml hv
  obtain ⟨rfl, hsz, hP, hK, hD0⟩ := hv
  have hx := B.exec
  have hb := B.bytes
  have hr := B.returns
  have hts := atoms_spec (ws := wsX9_certificate) B.pre
  have hown : s.vm.findClass RX9 = some m.cls := findClass_of_methodNamed B.named
  subst hsz
  have hD := hD0.self (sz := s.heap.size)
  generalize hAe : va_A (rw_W o c kc st lg ai al) s.heap.size = A at hD ⊢
  have hA : ∀ q : Nat, s.heap.size ≤ q → A q := fun q h => by rw [← hAe]; exact Or.inr h
  have hS : va_S A s.heap s.heap [] := va_S.rf
  clear hAe hD0
  have hl := lv_entry ([.ref o, .int p0]) (n := 3) (Nat.le_of_ble_eq_true rfl)
  rw [lg_entry_eq]
  generalize (lg_sl ([.ref o, .int p0]) ++ List.replicate (3 - (lg_sl ([.ref o, .int p0])).length) Slot.unset).toArray = ls at hl ⊢
  have hl : lv_has ls 3 [(0, .ref o), (1, .int p0)] := hl
  have z_m1 : (-1 : Int32).toInt = -1 := by decide
  have z_0 : (0 : Int32).toInt = 0 := by decide
  have z_1 : (1 : Int32).toInt = 1 := by decide
  have hin9 : ∀ w ∈ u_ws RX9 TX9 38, w ∈ wsX9_certificate := by decide +kernel
  have main : ∀ (H : Heap) (locs : List Loc), va_P (dC, dI) vwCl (rw_W o c kc st lg ai al) H → va_S A s.heap H locs → W p l e (headSpec wsX9_certificate ({ frames := 4, cells := 0, slots := 0, locals := 91 })).room s m ([.ref o, .int p0] : List Value).toArray below meth cM H locs 0 0 (MQ below (va_Qv (fun (_ : Unit) => True) (fun _ t => ∃ (x26 : Int32) (y27 : Int64) (f20 : Nat → Int32) (f25 : Nat → Int32), (x26.toInt = (st 26).toInt ∨ x26.toInt = (st 26).toInt + 1) ∧ (0 ≤ x26.toInt) ∧ (x26.toInt ≤ 2000000) ∧ (aR f25 130 (0) 127) ∧ (cOK (ai 0) (st 7) (st 16) f20) ∧ (vOK (ai 0) (st 7) (st 16) f25 (x26.toInt - (st 22).toInt)) ∧ va_P (dC, dI) vwCl (rw_W o c kc (rU st 26 x26) (rU lg 27 y27) (rU (rU ai 20 f20) 25 f25) al) t.heap) A) ([.ref o, .int p0] : List Value).toArray s 0 0 A) (F0 m 0 ls []) := by
    intro H locs hP hS
    refine lv_aload_n hx hb dX9_certificate_0 rfl (lv_at hl 0 rfl) ?_
    refine lv_aload_n hx hb dX9_certificate_1 rfl (lv_at hl 0 rfl) ?_
    refine lv_iload_n hx hb dX9_certificate_2 rfl (lv_at hl 1 rfl) ?_
    refine vp_callSl (va_Run.run (va_runV (As := [.int p0]) (rest := [.ref o]) ⟨hx, hb, hml, hown, hts⟩ (v_X9_cOf l dC dI o c kc st lg ai al p0 (show 0 ≤ (st 7).toInt by omega) (show (st 7).toInt ≤ 1 by omega) (by omega) (by omega)) (cwV 1 hts gX9_certificate_X9_cOf rfl rfl rfl (by decide +kernel) ⟨Nat.le_of_ble_eq_true rfl, Nat.le_of_ble_eq_true rfl⟩) ⟨fun a U g mk q => by obtain ⟨q0, qP, qK⟩ := q; exact ⟨q0, qP, va_K.moved (u := U) (U := U.calling g mk a) (Vm.Alike.refl U.vm) qK⟩, va_recv hK hP (ci := 11) (q := (RX9, TX9, 38)) rfl (q0 := 0) rfl, fun U hU hW => ⟨rfl, by rw [hU]; exact hP, va_K.moved hW.alike hK⟩⟩ rfl rfl hl.1 rfl (lv_room (Nat.le_of_ble_eq_true rfl)) dX9_certificate_3 ⟨Nat.le_of_ble_eq_true rfl, Nat.le_of_ble_eq_true rfl⟩)) (fun r_1 er_1 => ?_)
    have hc := er_1
    have hc : r_1 = rC (ai 0) (st 7) p0 := hc
    refine lv_iload_n hx hb dX9_certificate_6 rfl (lv_at hl 1 rfl) ?_
    refine vp_callSi (va_Run.run (va_runV (As := [.long r_1, .int p0]) (rest := []) ⟨hx, hb, hml, hown, hts⟩ (v_X9_blockRow l dC dI o c kc st lg ai al r_1 p0 (show 0 ≤ (st 7).toInt by omega) (show (st 7).toInt ≤ 1 by omega) (by omega) (by omega) (show cOK (ai 0) (st 7) (st 16) (ai 20) from (by assumption))) (cwV 2 hts gX9_certificate_X9_blockRow rfl rfl rfl (by decide +kernel) ⟨Nat.le_of_ble_eq_true rfl, Nat.le_of_ble_eq_true rfl⟩) ⟨fun a U g mk q => by obtain ⟨q0, qP, qK⟩ := q; exact ⟨q0, qP, va_K.moved (u := U) (U := U.calling g mk a) (Vm.Alike.refl U.vm) qK⟩, va_recv hK hP (ci := 11) (q := (RX9, TX9, 38)) rfl (q0 := 0) rfl, fun U hU hW => ⟨rfl, by rw [hU]; exact hP, va_K.moved hW.alike hK⟩⟩ rfl rfl hl.1 rfl (lv_room (Nat.le_of_ble_eq_true rfl)) dX9_certificate_7 ⟨Nat.le_of_ble_eq_true rfl, Nat.le_of_ble_eq_true rfl⟩)) (fun r_2 er_2 => ?_)
    obtain ⟨k_3, k_4, hbk⟩ := er_2
    have hbk : r_2.toInt ≠ -1 → okB (ai 0) (st 7) (st 16) r_2 := hbk
    refine lv_istore_n (lv' := [(2, .int r_2), (0, .ref o), (1, .int p0)]) hx hb dX9_certificate_10 rfl hl (by decide) rfl (fun ls hl => ?_)
    refine lv_iload_n hx hb dX9_certificate_11 rfl (lv_at hl 0 rfl) ?_
    refine lv_iconst (v := (-1)) hx hb dX9_certificate_12 (by decide) ?_
    refine lv_icmp_eq (tgt := 24) hx hb dX9_certificate_13 (by decide) (fun c_5 => ?_) (fun c_5 => ?_)
    · skip
      have ic_5 := iv_eq c_5
      exact W.vret hx hb hr (fun t ht hW => ⟨⟨(), rfl, trivial, st 26, lg 27, ai 20, ai 25, (by first | exact Or.inl rfl | exact Or.inr (by assumption)), (by omega), (by omega), hR25, (by assumption), (by assumption), by rw [ht]; exact hP⟩, hS.F ht⟩) hS.2.2 dX9_certificate_24
    · skip
      have ic_5 := iv_ne c_5
      refine lv_aload_n hx hb dX9_certificate_16 rfl (lv_at hl 1 rfl) ?_
      refine lv_iload_n hx hb dX9_certificate_17 rfl (lv_at hl 0 rfl) ?_
      refine vp_callSi (va_Run.run (va_runV (As := [.int r_2]) (rest := []) ⟨hx, hb, hml, hown, hts⟩ (v_X9_isNext l dC dI o c kc st lg ai al r_2 (show 0 ≤ (st 7).toInt by omega) (show (st 7).toInt ≤ 1 by omega) (show 0 ≤ (st 26).toInt by omega) (show (st 26).toInt ≤ 2000000 by omega) (by omega) (by omega)) (cwV 1 hts gX9_certificate_X9_isNext rfl rfl rfl (by decide +kernel) ⟨Nat.le_of_ble_eq_true rfl, Nat.le_of_ble_eq_true rfl⟩) ⟨fun a U g mk q => by obtain ⟨q0, qP, qK⟩ := q; exact ⟨q0, qP, va_K.moved (u := U) (U := U.calling g mk a) (Vm.Alike.refl U.vm) qK⟩, va_recv hK hP (ci := 11) (q := (RX9, TX9, 38)) rfl (q0 := 0) rfl, fun U hU hW => ⟨rfl, by rw [hU]; exact hP, va_K.moved hW.alike hK⟩⟩ rfl rfl hl.1 rfl (lv_room (Nat.le_of_ble_eq_true rfl)) dX9_certificate_18 ⟨Nat.le_of_ble_eq_true rfl, Nat.le_of_ble_eq_true rfl⟩)) (fun r_6 er_6 => ?_)
      obtain ⟨k_7, k_8, k_9⟩ := er_6
      have k_7 : (r_6.toInt = 1 → (rA (ai 0) (st 7) r_2).toInt = (st 26).toInt + 1) := k_7
      rcases iv_01 (a := r_6) (by omega) (by omega) with b_10 | b_10
      · skip
        have ib_10 := iv_eq b_10
        rw [b_10]
        refine lv_if_ne (tgt := 25) hx hb dX9_certificate_21 (by decide) (fun c_11 => ?_) (fun c_11 => ?_)
        · skip
          have ic_11 := iv_ne c_11
          exfalso
          omega
        · skip
          have ic_11 := iv_eq c_11
          exact W.vret hx hb hr (fun t ht hW => ⟨⟨(), rfl, trivial, st 26, lg 27, ai 20, ai 25, (by first | exact Or.inl rfl | exact Or.inr (by assumption)), (by omega), (by omega), hR25, (by assumption), (by assumption), by rw [ht]; exact hP⟩, hS.F ht⟩) hS.2.2 dX9_certificate_24
      · skip
        have ib_10 := iv_eq b_10
        rw [b_10]
        refine lv_if_ne (tgt := 25) hx hb dX9_certificate_21 (by decide) (fun c_12 => ?_) (fun c_12 => ?_)
        · skip
          have ic_12 := iv_ne c_12
          have hok : okB (ai 0) (st 7) (st 16) r_2 := hbk (by omega)
          refine lv_aload_n hx hb dX9_certificate_25 rfl (lv_at hl 1 rfl) ?_
          refine va_get (D := (dC, dI)) (ci := 11) (v := .ref (c 20)) (C := RX9) (T := TX9) (N := 38) hx hb hts hin9 hown hK hP 0 rfl rfl 20 (by decide) (hts (.fieldLink RX9 34 "BlockLogModel" "counts" "[Z") (by decide +kernel)) (fun _ h9 => h9) rfl dX9_certificate_26 ?_
          refine lv_iload_n hx hb dX9_certificate_29 rfl (lv_at hl 2 rfl) ?_
          refine lv_iconst (v := 1) hx hb dX9_certificate_30 (by decide) ?_
          refine va_zast (f := ai 20) hx hb hK hP (rw_D hD) hS 8 7 rfl rfl (iv_in (i := p0) (by omega) (by omega)) dX9_certificate_31 (fun H locs hP _ hS => ?_)
          have hP : va_P (dC, dI) vwCl (rw_W o c kc st lg (rU ai 20 (upd (ai 20) p0.toNatClampNeg (vp_nar .boolean (1 : Int32)))) al) H := hP
          generalize hU_counts : upd (ai 20) p0.toNatClampNeg (vp_nar .boolean (1 : Int32)) = g_13 at hP
          have hC : cOK (ai 0) (st 7) (st 16) g_13 := cOK_upd hC hU_counts (by omega) (fun h => by omega)
          refine lv_aload_n hx hb dX9_certificate_32 rfl (lv_at hl 1 rfl) ?_
          refine lv_aload_n hx hb dX9_certificate_33 rfl (lv_at hl 1 rfl) ?_
          refine lv_iload_n hx hb dX9_certificate_34 rfl (lv_at hl 0 rfl) ?_
          refine vp_callSi (va_Run.run (va_runV (As := [.int r_2]) (rest := [.ref o]) ⟨hx, hb, hml, hown, hts⟩ (v_X9_aOf l dC dI o c kc st lg (rU ai 20 g_13) al r_2 (show 0 ≤ (st 7).toInt by omega) (show (st 7).toInt ≤ 1 by omega) (by omega) (by omega)) (cwV 1 hts gX9_certificate_X9_aOf rfl rfl rfl (by decide +kernel) ⟨Nat.le_of_ble_eq_true rfl, Nat.le_of_ble_eq_true rfl⟩) ⟨fun a U g mk q => by obtain ⟨q0, qP, qK⟩ := q; exact ⟨q0, qP, va_K.moved (u := U) (U := U.calling g mk a) (Vm.Alike.refl U.vm) qK⟩, va_recv hK hP (ci := 11) (q := (RX9, TX9, 38)) rfl (q0 := 0) rfl, fun U hU hW => ⟨rfl, by rw [hU]; exact hP, va_K.moved hW.alike hK⟩⟩ rfl rfl hl.1 rfl (lv_room (Nat.le_of_ble_eq_true rfl)) dX9_certificate_35 ⟨Nat.le_of_ble_eq_true rfl, Nat.le_of_ble_eq_true rfl⟩)) (fun r_14 er_14 => ?_)
          have k_15 := er_14
          have k_15 : r_14.toInt = (rA (ai 0) (st 7) r_2).toInt := k_15
          have k_16 : r_14.toInt = (st 26).toInt + 1 := (by omega)
          have k_17 : r_14.toInt ≤ 1000128 := (by omega)
          refine va_put (D := (dC, dI)) (ci := 11) (v := .int r_14) (ty := .int) (C := RX9) (T := TX9) (N := 38) hx hb hts hin9 tyX9 tyX9_ok nmX9 hown hK hP (rw_D hD) hS 0 rfl rfl 26 (by decide) (hts (.fieldLink RX9 192 "BlockLogModel" "lastVersion" "I") (by decide +kernel)) (fun _ h9 => h9) rfl (by decide +kernel) rfl rfl (Nat.le_of_ble_eq_true rfl) dX9_certificate_38 (fun H locs hP _ hS => ?_)
          have hP : va_P (dC, dI) vwCl (rw_W o c kc (rU st 26 r_14) lg (rU ai 20 g_13) al) H := hP
          refine lv_aload_n hx hb dX9_certificate_41 rfl (lv_at hl 1 rfl) ?_
          refine lv_aload_n hx hb dX9_certificate_42 rfl (lv_at hl 1 rfl) ?_
          refine va_get (D := (dC, dI)) (ci := 11) (v := .ref (c 18)) (C := RX9) (T := TX9) (N := 38) hx hb hts hin9 hown hK hP 0 rfl rfl 18 (by decide) (hts (.fieldLink RX9 27 "BlockLogModel" "digestAt" "[J") (by decide +kernel)) (fun _ h9 => h9) rfl dX9_certificate_43 ?_
          refine lv_iload_n hx hb dX9_certificate_46 rfl (lv_at hl 0 rfl) ?_
          refine va_lald (f := al 18) hx hb hK hP 6 5 rfl rfl (iv_in (i := r_2) (by omega) (by omega)) dX9_certificate_47 ?_
          refine lv_topl (fun w_18 ew_18 => ?_)
          clear ew_18
          refine va_put (D := (dC, dI)) (ci := 11) (v := .long w_18) (ty := .long) (C := RX9) (T := TX9) (N := 38) hx hb hts hin9 tyX9 tyX9_ok nmX9 hown hK hP (rw_D hD) hS 0 rfl rfl 27 (by decide) (hts (.fieldLink RX9 195 "BlockLogModel" "lastDigest" "J") (by decide +kernel)) (fun _ h9 => h9) rfl (by decide +kernel) rfl rfl (Nat.le_of_ble_eq_true rfl) dX9_certificate_48 (fun H locs hP _ hS => ?_)
          have hP : va_P (dC, dI) vwCl (rw_W o c kc (rU st 26 r_14) (rU lg 27 w_18) (rU ai 20 g_13) al) H := hP
          refine lv_aload_n hx hb dX9_certificate_51 rfl (lv_at hl 1 rfl) ?_
          refine va_get (D := (dC, dI)) (ci := 11) (v := .ref (c 25)) (C := RX9) (T := TX9) (N := 38) hx hb hts hin9 hown hK hP 0 rfl rfl 25 (by decide) (hts (.fieldLink RX9 37 "BlockLogModel" "versionRow" "[I") (by decide +kernel)) (fun _ h9 => h9) rfl dX9_certificate_52 ?_
          refine lv_aload_n hx hb dX9_certificate_55 rfl (lv_at hl 1 rfl) ?_
          refine va_get (D := (dC, dI)) (ci := 11) (v := .int r_14) (C := RX9) (T := TX9) (N := 38) hx hb hts hin9 hown hK hP 0 rfl rfl 26 (by decide) (hts (.fieldLink RX9 192 "BlockLogModel" "lastVersion" "I") (by decide +kernel)) (fun _ h9 => h9) rfl dX9_certificate_56 ?_
          refine lv_aload_n hx hb dX9_certificate_59 rfl (lv_at hl 1 rfl) ?_
          refine va_get (D := (dC, dI)) (ci := 11) (v := .int (st 22)) (C := RX9) (T := TX9) (N := 38) hx hb hts hin9 hown hK hP 0 rfl rfl 22 (by decide) (hts (.fieldLink RX9 182 "BlockLogModel" "baseHeight" "I") (by decide +kernel)) (fun _ h9 => h9) rfl dX9_certificate_60 ?_
          refine lv_isub hx hb dX9_certificate_63 ?_
          refine lv_topi (fun v_19 ev_19 => ?_)
          have rg1 := iv_rng r_14
          have rg2 := iv_rng (st 22)
          have hv_19 : v_19.toInt = r_14.toInt - (st 22).toInt := by rw [ev_19]; exact (iv_sub (by omega) (by omega)).trans (by omega)
          clear ev_19
          refine lv_iload_n hx hb dX9_certificate_64 rfl (lv_at hl 0 rfl) ?_
          refine va_iast (f := ai 25) hx hb hK hP (rw_D hD) hS 9 8 rfl rfl (iv_in (i := v_19) (by omega) (by omega)) dX9_certificate_65 (fun H locs hP _ hS => ?_)
          have hP : va_P (dC, dI) vwCl (rw_W o c kc (rU st 26 r_14) (rU lg 27 w_18) (rU (rU ai 20 g_13) 25 (upd (ai 25) v_19.toNatClampNeg r_2)) al) H := rw_a25 hP
          generalize hU_versionRow : upd (ai 25) v_19.toNatClampNeg r_2 = g_20 at hP
          have hR25 : aR g_20 130 (0) 127 := aR_upd hR25 hU_versionRow (by omega) (by omega)
          have hV : vOK (ai 0) (st 7) (st 16) g_20 (r_14.toInt - (st 22).toInt) := vOK_upd hV hU_versionRow (by omega) (by omega) (by omega) hok
          exact W.vret hx hb hr (fun t ht hW => ⟨⟨(), rfl, trivial, r_14, w_18, g_13, g_20, (by first | exact Or.inl rfl | exact Or.inr (by assumption)), (by omega), (by omega), hR25, (by assumption), (by assumption), by rw [ht]; exact hP⟩, hS.F ht⟩) hS.2.2 dX9_certificate_66
        · skip
          have ic_12 := iv_eq c_12
          exfalso
          omega
  exact main s.heap [] hP hS
