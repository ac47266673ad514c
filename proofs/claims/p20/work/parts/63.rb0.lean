set_option maxHeartbeats 4000000 in
set_option maxRecDepth 100000 in
theorem v_X9_numberSum (l : Launch) (dC : Nat → ClassId) (dI : Nat → Nat → Nat) (o : Nat) (c : Nat → Nat) (kc : Nat → ClassId) (st : Nat → Int32) (lg : Nat → Int64) (ai : Nat → Nat → Int32) (al : Nat → Nat → Int64) (p0 : Int64) (p1 : Int64) (p2 : Int32) (hq0 : 0 ≤ p2.toInt) (hq1 : p2.toInt ≤ 8) : Met l yX9_numberSum wsX9_numberSum ({ frames := 1, cells := 0, slots := 0, locals := 24 }) (va_Pc [.ref o, .long p0, .long p1, .int p2] (fun U => va_P (dC, dI) vwCl (rw_W o c kc st lg ai al) U.heap ∧ va_K (dC, dI) vwCl (rw_T kc) U)) (vp_Sl (fun r => True)) 0 0 (fun _ => False) := by
  refine Met.ofW (cc := cX9_numberSum) (maxL := 9) (ret := (some .long)) (by decide) rfl ?_
  intro p e s m args below meth cM s₁ B hml hv
  obtain ⟨rfl, hP, hK⟩ := hv
  have hx := B.exec
  have hb := B.bytes
  have hr := B.returns
  have hts := atoms_spec (ws := wsX9_numberSum) B.pre
  have hown : s.vm.findClass RX9 = some m.cls := findClass_of_methodNamed B.named
  have hl := lv_entry ([.ref o, .long p0, .long p1, .int p2]) (n := 9) (Nat.le_of_ble_eq_true rfl)
  rw [lg_entry_eq]
  generalize (lg_sl ([.ref o, .long p0, .long p1, .int p2]) ++ List.replicate (9 - (lg_sl ([.ref o, .long p0, .long p1, .int p2])).length) Slot.unset).toArray = ls at hl ⊢
  have hl : lv_has ls 9 [(0, .ref o), (1, .long p0), (3, .long p1), (5, .int p2)] := hl
  have z_m1 : (-1 : Int32).toInt = -1 := by decide
  have z_0 : (0 : Int32).toInt = 0 := by decide
  have z_1 : (1 : Int32).toInt = 1 := by decide
  have z_8 : (8 : Int32).toInt = 8 := by decide
  refine lv_lload_n hx hb dX9_numberSum_0 rfl (lv_at hl 1 rfl) ?_
  refine lv_lstore (lv' := [(6, .long p0), (0, .ref o), (1, .long p0), (3, .long p1), (5, .int p2)]) hx hb dX9_numberSum_1 hl (by decide) rfl (fun ls hl => ?_)
  refine lv_iload hx hb dX9_numberSum_3 (lv_at hl 4 rfl) ?_
  refine lv_iconst (v := 1) hx hb dX9_numberSum_5 (by decide) ?_
  refine lv_isub hx hb dX9_numberSum_6 ?_
  refine lv_topi (fun v_1 ev_1 => ?_)
  have rg1 := iv_rng p2
  have hv_1 : v_1.toInt = p2.toInt - 1 := by rw [ev_1]; exact (iv_sub (by omega) (by omega)).trans (by omega)
  clear ev_1
  refine lv_istore (lv' := [(8, .int v_1), (6, .long p0), (0, .ref o), (1, .long p0), (3, .long p1), (5, .int p2)]) hx hb dX9_numberSum_7 hl (by decide) rfl (fun ls hl => ?_)
  have loop9 : ∀ (n : Nat) (l8_9 : Int32) (l6_9 : Int64) (ls : Array Slot), (-1 ≤ l8_9.toInt) → (l8_9.toInt ≤ 7) → (l8_9.toInt + 1 : Int).toNat < n → lv_has ls 9 [(8, .int l8_9), (6, .long l6_9), (0, .ref o), (1, .long p0), (3, .long p1), (5, .int p2)] → W p l e (headSpec wsX9_numberSum ({ frames := 1, cells := 0, slots := 0, locals := 24 })).room s m ([.ref o, .long p0, .long p1, .int p2] : List Value).toArray below meth cM s.heap [] 0 0 (MQ below (vp_Sl (fun r => True)) ([.ref o, .long p0, .long p1, .int p2] : List Value).toArray s 0 0 (fun _ => False)) (F0 m 9 ls []) := by
    intro n
    induction n with
    | zero => intro l8_9 l6_9 ls if0_9 if1_9 hm; exact absurd hm (Nat.not_lt_zero _)
    | succ n ih9 =>
      intro l8_9 l6_9 ls if0_9 if1_9 hm9 hl
      refine lv_iload hx hb dX9_numberSum_9 (lv_at hl 0 rfl) ?_
      refine lv_if_lt (tgt := 39) hx hb dX9_numberSum_11 (by decide) (fun c_2 => ?_) (fun c_2 => ?_)
      · skip
        have ic_2 := iv_lt c_2
        refine lv_lload hx hb dX9_numberSum_39 (lv_at hl 1 rfl) ?_
        exact W.lret hx hb hr (fun t ht hW => ⟨_, rfl, trivial, ht⟩) (fun q h => by cases h) dX9_numberSum_41
      · skip
        have ic_2 := iv_nlt c_2
        refine lv_lload hx hb dX9_numberSum_14 (lv_at hl 1 rfl) ?_
        refine lv_lload_n hx hb dX9_numberSum_16 rfl (lv_at hl 4 rfl) ?_
        refine lv_bipush (v := 8) hx hb dX9_numberSum_17 (by decide) ?_
        refine lv_iload hx hb dX9_numberSum_19 (lv_at hl 0 rfl) ?_
        refine lv_imul hx hb dX9_numberSum_21 ?_
        refine lv_topi (fun v_3 ev_3 => ?_)
        have rg2 := iv_rng l8_9
        have hv_3 : v_3.toInt = 8 * l8_9.toInt := by rw [ev_3]; exact (iv_mulc z_8 (by omega) (by omega)).trans (by omega)
        clear ev_3
        refine lv_lushr hx hb dX9_numberSum_22 rfl ?_
        refine lv_topl (fun w_4 ew_4 => ?_)
        clear ew_4
        refine lv_ldc2 hx hb hown (hts (.constantLong RX9 94 (255)) (by decide +kernel)) dX9_numberSum_23 ?_
        refine lv_land hx hb dX9_numberSum_26 ?_
        refine lv_topl (fun w_5 ew_5 => ?_)
        have hw_5 : 0 ≤ w_5.toInt32.toInt ∧ w_5.toInt32.toInt ≤ 255 := by rw [ew_5]; exact l255 _
        clear ew_5
        refine lv_l2i hx hb dX9_numberSum_27 rfl ?_
        refine lv_topi (fun v_6 ev_6 => ?_)
        have hv_6 : 0 ≤ v_6.toInt ∧ v_6.toInt ≤ 255 := by rw [ev_6]; exact hw_5
        clear ev_6
        refine vp_callSl (va_Run.run (va_runS (As := [.long l6_9, .int v_6]) (rest := []) ⟨hx, hb, hml, hown, hts⟩ (v_X9_more l dC dI l6_9 v_6 ) (va_cwS 2 hts gX9_numberSum_X9_more rfl rfl rfl (by decide +kernel) ⟨Nat.le_of_ble_eq_true rfl, Nat.le_of_ble_eq_true rfl⟩) ⟨fun a U g mk q => q, fun U hU hW => ⟨rfl, trivial⟩⟩ rfl rfl hl.1 rfl (lv_room (Nat.le_of_ble_eq_true rfl)) dX9_numberSum_28 ⟨Nat.le_of_ble_eq_true rfl, Nat.le_of_ble_eq_true rfl⟩)) (fun r_7 er_7 => ?_)
        have hm := er_7
        have hm : r_7 = pm l6_9 v_6 := hm
        refine lv_lstore (lv' := [(6, .long r_7), (8, .int l8_9), (0, .ref o), (1, .long p0), (3, .long p1), (5, .int p2)]) hx hb dX9_numberSum_31 hl (by decide) rfl (fun ls hl => ?_)
        obtain ⟨x_8, ex_8⟩ : ∃ z : Int32, z = l8_9 + (-1) := ⟨_, rfl⟩
        refine lv_iinc (v := x_8) (lv' := [(8, .int x_8), (6, .long r_7), (0, .ref o), (1, .long p0), (3, .long p1), (5, .int p2)]) hx hb dX9_numberSum_33 hl (k := 1) rfl (by rw [ex_8]; rfl) (by decide) rfl (fun ls hl => ?_)
        have hx_8 : x_8.toInt = l8_9.toInt + (-1) := by rw [ex_8]; exact (iv_add (by omega) (by omega)).trans (by omega)
        clear ex_8
        refine lv_goto (tgt := 9) hx hb dX9_numberSum_36 (by decide) ?_
        exact ih9 x_8 r_7 _ (by omega) (by omega) (by omega) (lv_sub hl [0, 1, 2, 3, 4, 5] rfl)
  exact loop9 ((v_1.toInt + 1 : Int).toNat + 1) v_1 p0 _ (by omega) (by omega) (by omega) (lv_sub hl [0, 1, 2, 3, 4, 5] rfl)

set_option maxHeartbeats 4000000 in
set_option maxRecDepth 100000 in
theorem v_X9_blockRow (l : Launch) (dC : Nat → ClassId) (dI : Nat → Nat → Nat) (o : Nat) (c : Nat → Nat) (kc : Nat → ClassId) (st : Nat → Int32) (lg : Nat → Int64) (ai : Nat → Nat → Int32) (al : Nat → Nat → Int64) (p0 : Int64) (p1 : Int32) (hf7a : 0 ≤ (st 7).toInt) (hf7b : (st 7).toInt ≤ 1) (hq0 : 0 ≤ p1.toInt) (hq1 : p1.toInt ≤ 128) (hC : cOK (ai 0) (st 7) (st 16) (ai 20)) : Met l yX9_blockRow wsX9_blockRow ({ frames := 2, cells := 0, slots := 0, locals := 43 }) (va_Pc [.ref o, .long p0, .int p1] (fun U => va_P (dC, dI) vwCl (rw_W o c kc st lg ai al) U.heap ∧ va_K (dC, dI) vwCl (rw_T kc) U)) (vp_Si (fun r => (-1 ≤ r.toInt) ∧ (r.toInt < p1.toInt) ∧ (r.toInt ≠ -1 → okB (ai 0) (st 7) (st 16) r))) 0 0 (fun _ => False) := by
  refine Met.ofW (cc := cX9_blockRow) (maxL := 5) (ret := (some .int)) (by decide) rfl ?_
  intro p e s m args below meth cM s₁ B hml hv
  obtain ⟨rfl, hP, hK⟩ := hv
  have hx := B.exec
  have hb := B.bytes
  have hr := B.returns
  have hts := atoms_spec (ws := wsX9_blockRow) B.pre
  have hown : s.vm.findClass RX9 = some m.cls := findClass_of_methodNamed B.named
  have hl := lv_entry ([.ref o, .long p0, .int p1]) (n := 5) (Nat.le_of_ble_eq_true rfl)
  rw [lg_entry_eq]
  generalize (lg_sl ([.ref o, .long p0, .int p1]) ++ List.replicate (5 - (lg_sl ([.ref o, .long p0, .int p1])).length) Slot.unset).toArray = ls at hl ⊢
  have hl : lv_has ls 5 [(0, .ref o), (1, .long p0), (3, .int p1)] := hl
  have z_m1 : (-1 : Int32).toInt = -1 := by decide
  have z_0 : (0 : Int32).toInt = 0 := by decide
  have z_1 : (1 : Int32).toInt = 1 := by decide
  have z_2 : (2 : Int32).toInt = 2 := by decide
  have hin9 : ∀ w ∈ u_ws RX9 TX9 38, w ∈ wsX9_blockRow := by decide +kernel
  refine lv_iconst (v := 0) hx hb dX9_blockRow_0 (by decide) ?_
  refine lv_istore (lv' := [(4, .int (0 : Int32)), (0, .ref o), (1, .long p0), (3, .int p1)]) hx hb dX9_blockRow_1 hl (by decide) rfl (fun ls hl => ?_)
  have loop3 : ∀ (n : Nat) (l4_3 : Int32) (ls : Array Slot), (0 ≤ l4_3.toInt) → (l4_3.toInt ≤ p1.toInt) → (p1.toInt - l4_3.toInt : Int).toNat < n → lv_has ls 5 [(4, .int l4_3), (0, .ref o), (1, .long p0), (3, .int p1)] → W p l e (headSpec wsX9_blockRow ({ frames := 2, cells := 0, slots := 0, locals := 43 })).room s m ([.ref o, .long p0, .int p1] : List Value).toArray below meth cM s.heap [] 0 0 (MQ below (vp_Si (fun r => (-1 ≤ r.toInt) ∧ (r.toInt < p1.toInt) ∧ (r.toInt ≠ -1 → okB (ai 0) (st 7) (st 16) r))) ([.ref o, .long p0, .int p1] : List Value).toArray s 0 0 (fun _ => False)) (F0 m 3 ls []) := by
    intro n
    induction n with
    | zero => intro l4_3 ls if0_3 if1_3 hm; exact absurd hm (Nat.not_lt_zero _)
    | succ n ih3 =>
      intro l4_3 ls if0_3 if1_3 hm3 hl
      refine lv_iload hx hb dX9_blockRow_3 (lv_at hl 0 rfl) ?_
      refine lv_iload_n hx hb dX9_blockRow_5 rfl (lv_at hl 3 rfl) ?_
      refine lv_icmp_ge (tgt := 50) hx hb dX9_blockRow_6 (by decide) (fun c_1 => ?_) (fun c_1 => ?_)
      · skip
        have ic_1 := iv_le c_1
        refine lv_iconst (v := (-1)) hx hb dX9_blockRow_50 (by decide) ?_
        exact W.iret hx hb hr (fun t ht hW => ⟨_, rfl, ⟨(by omega), (by omega), (fun h => absurd (by omega) h)⟩, ht⟩) (fun q h => by cases h) dX9_blockRow_51
      · skip
        have ic_1 := iv_nle c_1
        refine lv_aload_n hx hb dX9_blockRow_9 rfl (lv_at hl 1 rfl) ?_
        refine va_get (D := (dC, dI)) (ci := 11) (v := .ref (c 20)) (C := RX9) (T := TX9) (N := 38) hx hb hts hin9 hown hK hP 0 rfl rfl 20 (by decide) (hts (.fieldLink RX9 34 "BlockLogModel" "counts" "[Z") (by decide +kernel)) (fun _ h9 => h9) rfl dX9_blockRow_10 ?_
        refine lv_iload hx hb dX9_blockRow_13 (lv_at hl 0 rfl) ?_
        refine va_zald (f := ai 20) hx hb hK hP 8 7 rfl rfl (iv_in (i := l4_3) (by omega) (by omega)) dX9_blockRow_15 ?_
        refine lv_topi (fun v_2 ev_2 => ?_)
        have hX_counts := ev_2
        clear ev_2
        refine lv_if_eq (tgt := 44) hx hb dX9_blockRow_16 (by decide) (fun c_3 => ?_) (fun c_3 => ?_)
        · skip
          have ic_3 := iv_eq c_3
          obtain ⟨x_4, ex_4⟩ : ∃ z : Int32, z = l4_3 + (1) := ⟨_, rfl⟩
          refine lv_iinc (v := x_4) (lv' := [(4, .int x_4), (0, .ref o), (1, .long p0), (3, .int p1)]) hx hb dX9_blockRow_44 hl (k := 0) rfl (by rw [ex_4]; rfl) (by decide) rfl (fun ls hl => ?_)
          have rg1 := iv_rng l4_3
          have hx_4 : x_4.toInt = l4_3.toInt + (1) := by rw [ex_4]; exact (iv_add (by omega) (by omega)).trans (by omega)
          clear ex_4
          refine lv_goto (tgt := 3) hx hb dX9_blockRow_47 (by decide) ?_
          exact ih3 x_4 _ (by omega) (by omega) (by omega) (lv_sub hl [0, 1, 2, 3] rfl)
        · skip
          have ic_3 := iv_ne c_3
          refine lv_aload_n hx hb dX9_blockRow_19 rfl (lv_at hl 1 rfl) ?_
          refine lv_iload hx hb dX9_blockRow_20 (lv_at hl 0 rfl) ?_
          refine vp_callSi (va_Run.run (va_runV (As := [.int l4_3]) (rest := []) ⟨hx, hb, hml, hown, hts⟩ (v_X9_kindOf l dC dI o c kc st lg ai al l4_3 (show 0 ≤ (st 7).toInt by omega) (show (st 7).toInt ≤ 1 by omega) (by omega) (by omega)) (cwV 1 hts gX9_blockRow_X9_kindOf rfl rfl rfl (by decide +kernel) ⟨Nat.le_of_ble_eq_true rfl, Nat.le_of_ble_eq_true rfl⟩) ⟨fun a U g mk q => by obtain ⟨q0, qP, qK⟩ := q; exact ⟨q0, qP, va_K.moved (u := U) (U := U.calling g mk a) (Vm.Alike.refl U.vm) qK⟩, va_recv hK hP (ci := 11) (q := (RX9, TX9, 38)) rfl (q0 := 0) rfl, fun U hU hW => ⟨rfl, by rw [hU]; exact hP, va_K.moved hW.alike hK⟩⟩ rfl rfl hl.1 rfl (lv_room (Nat.le_of_ble_eq_true rfl)) dX9_blockRow_22 ⟨Nat.le_of_ble_eq_true rfl, Nat.le_of_ble_eq_true rfl⟩)) (fun r_5 er_5 => ?_)
          obtain ⟨k_6, k_7, k_8⟩ := er_5
          have k_6 : r_5.toInt = (rK (ai 0) (st 7) l4_3).toInt := k_6
          refine lv_iconst (v := 2) hx hb dX9_blockRow_25 (by decide) ?_
          refine lv_icmp_ne (tgt := 44) hx hb dX9_blockRow_26 (by decide) (fun c_9 => ?_) (fun c_9 => ?_)
          · skip
            have ic_9 := iv_ne c_9
            obtain ⟨x_10, ex_10⟩ : ∃ z : Int32, z = l4_3 + (1) := ⟨_, rfl⟩
            refine lv_iinc (v := x_10) (lv' := [(4, .int x_10), (0, .ref o), (1, .long p0), (3, .int p1)]) hx hb dX9_blockRow_44 hl (k := 0) rfl (by rw [ex_10]; rfl) (by decide) rfl (fun ls hl => ?_)
            have rg2 := iv_rng l4_3
            have hx_10 : x_10.toInt = l4_3.toInt + (1) := by rw [ex_10]; exact (iv_add (by omega) (by omega)).trans (by omega)
            clear ex_10
            refine lv_goto (tgt := 3) hx hb dX9_blockRow_47 (by decide) ?_
            exact ih3 x_10 _ (by omega) (by omega) (by omega) (lv_sub hl [0, 1, 2, 3] rfl)
          · skip
            have ic_9 := iv_eq c_9
            have hok : okB (ai 0) (st 7) (st 16) l4_3 := cOK_use hC hX_counts (by omega) (by omega) (by omega) (by omega)
            refine lv_aload_n hx hb dX9_blockRow_29 rfl (lv_at hl 1 rfl) ?_
            refine va_get (D := (dC, dI)) (ci := 11) (v := .ref (c 18)) (C := RX9) (T := TX9) (N := 38) hx hb hts hin9 hown hK hP 0 rfl rfl 18 (by decide) (hts (.fieldLink RX9 27 "BlockLogModel" "digestAt" "[J") (by decide +kernel)) (fun _ h9 => h9) rfl dX9_blockRow_30 ?_
            refine lv_iload hx hb dX9_blockRow_33 (lv_at hl 0 rfl) ?_
            refine va_lald (f := al 18) hx hb hK hP 6 5 rfl rfl (iv_in (i := l4_3) (by omega) (by omega)) dX9_blockRow_35 ?_
            refine lv_topl (fun w_11 ew_11 => ?_)
            clear ew_11
            refine lv_lload_n hx hb dX9_blockRow_36 rfl (lv_at hl 2 rfl) ?_
            refine W.lcmp hx hb dX9_blockRow_37 ?_
            refine lv_topi (fun v_12 ev_12 => ?_)
            clear ev_12
            refine lv_if_ne (tgt := 44) hx hb dX9_blockRow_38 (by decide) (fun c_13 => ?_) (fun c_13 => ?_)
            · skip
              have ic_13 := iv_ne c_13
              obtain ⟨x_14, ex_14⟩ : ∃ z : Int32, z = l4_3 + (1) := ⟨_, rfl⟩
              refine lv_iinc (v := x_14) (lv' := [(4, .int x_14), (0, .ref o), (1, .long p0), (3, .int p1)]) hx hb dX9_blockRow_44 hl (k := 0) rfl (by rw [ex_14]; rfl) (by decide) rfl (fun ls hl => ?_)
              have rg3 := iv_rng l4_3
              have hx_14 : x_14.toInt = l4_3.toInt + (1) := by rw [ex_14]; exact (iv_add (by omega) (by omega)).trans (by omega)
              clear ex_14
              refine lv_goto (tgt := 3) hx hb dX9_blockRow_47 (by decide) ?_
              exact ih3 x_14 _ (by omega) (by omega) (by omega) (lv_sub hl [0, 1, 2, 3] rfl)
            · skip
              have ic_13 := iv_eq c_13
              refine lv_iload hx hb dX9_blockRow_41 (lv_at hl 0 rfl) ?_
              exact W.iret hx hb hr (fun t ht hW => ⟨_, rfl, ⟨(by omega), (by omega), (fun _ => hok)⟩, ht⟩) (fun q h => by cases h) dX9_blockRow_43
  exact loop3 ((p1.toInt - 0 : Int).toNat + 1) (0 : Int32) _ (by omega) (by omega) (by omega) (lv_sub hl [0, 1, 2, 3] rfl)

set_option maxHeartbeats 4000000 in
set_option maxRecDepth 100000 in
theorem v_X9_leafDigest (l : Launch) (dC : Nat → ClassId) (dI : Nat → Nat → Nat) (o : Nat) (c : Nat → Nat) (kc : Nat → ClassId) (st : Nat → Int32) (lg : Nat → Int64) (ai : Nat → Nat → Int32) (al : Nat → Nat → Int64) (p0 : Int32) (hq0 : 0 ≤ p0.toInt) (hq1 : p0.toInt < 65536) : Met l yX9_leafDigest wsX9_leafDigest ({ frames := 2, cells := 0, slots := 0, locals := 49 }) (va_Pc [.ref o, .int p0] (fun U => va_P (dC, dI) vwCl (rw_W o c kc st lg ai al) U.heap ∧ va_K (dC, dI) vwCl (rw_T kc) U)) (vp_Sl (fun r => True)) 0 0 (fun _ => False) := by
  refine Met.ofW (cc := cX9_leafDigest) (maxL := 2) (ret := (some .long)) (by decide) rfl ?_
  intro p e s m args below meth cM s₁ B hml hv
  obtain ⟨rfl, hP, hK⟩ := hv
  have hx := B.exec
  have hb := B.bytes
  have hr := B.returns
  have hts := atoms_spec (ws := wsX9_leafDigest) B.pre
  have hown : s.vm.findClass RX9 = some m.cls := findClass_of_methodNamed B.named
  have hl := lv_entry ([.ref o, .int p0]) (n := 2) (Nat.le_of_ble_eq_true rfl)
  rw [lg_entry_eq]
  generalize (lg_sl ([.ref o, .int p0]) ++ List.replicate (2 - (lg_sl ([.ref o, .int p0])).length) Slot.unset).toArray = ls at hl ⊢
  have hl : lv_has ls 2 [(0, .ref o), (1, .int p0)] := hl
  have z_8 : (8 : Int32).toInt = 8 := by decide
  have z_17 : (17 : Int32).toInt = 17 := by decide
  refine lv_aload_n hx hb dX9_leafDigest_0 rfl (lv_at hl 0 rfl) ?_
  refine lv_aload_n hx hb dX9_leafDigest_1 rfl (lv_at hl 0 rfl) ?_
  refine lv_iload_n hx hb dX9_leafDigest_2 rfl (lv_at hl 1 rfl) ?_
  refine vp_callSi (va_Run.run (va_runV (As := [.int p0]) (rest := [.ref o]) ⟨hx, hb, hml, hown, hts⟩ (v_X9_pagePlace l dC dI o c kc st lg ai al p0 (by omega) (by omega)) (cwV 1 hts gX9_leafDigest_X9_pagePlace rfl rfl rfl (by decide +kernel) ⟨Nat.le_of_ble_eq_true rfl, Nat.le_of_ble_eq_true rfl⟩) ⟨fun a U g mk q => by obtain ⟨q0, qP, qK⟩ := q; exact ⟨q0, qP, va_K.moved (u := U) (U := U.calling g mk a) (Vm.Alike.refl U.vm) qK⟩, va_recv hK hP (ci := 11) (q := (RX9, TX9, 38)) rfl (q0 := 0) rfl, fun U hU hW => ⟨rfl, by rw [hU]; exact hP, va_K.moved hW.alike hK⟩⟩ rfl rfl hl.1 rfl (lv_room (Nat.le_of_ble_eq_true rfl)) dX9_leafDigest_3 ⟨Nat.le_of_ble_eq_true rfl, Nat.le_of_ble_eq_true rfl⟩)) (fun r_1 er_1 => ?_)
  have k_2 := er_1
  refine lv_bipush (v := 17) hx hb dX9_leafDigest_6 (by decide) ?_
  refine lv_iadd hx hb dX9_leafDigest_8 ?_
  refine lv_topi (fun v_3 ev_3 => ?_)
  have rg1 := iv_rng r_1
  have hv_3 : v_3.toInt = r_1.toInt + 17 := by rw [ev_3]; exact (iv_add (by omega) (by omega)).trans (by omega)
  clear ev_3
  refine lv_bipush (v := 8) hx hb dX9_leafDigest_9 (by decide) ?_
  refine vp_callSl (va_Run.run (va_runV (As := [.int v_3, .int (8 : Int32)]) (rest := []) ⟨hx, hb, hml, hown, hts⟩ (v_X9_number l dC dI o c kc st lg ai al v_3 (8 : Int32) (by omega) (by omega) (by omega) (by omega)) (cwV 2 hts gX9_leafDigest_X9_number rfl rfl rfl (by decide +kernel) ⟨Nat.le_of_ble_eq_true rfl, Nat.le_of_ble_eq_true rfl⟩) ⟨fun a U g mk q => by obtain ⟨q0, qP, qK⟩ := q; exact ⟨q0, qP, va_K.moved (u := U) (U := U.calling g mk a) (Vm.Alike.refl U.vm) qK⟩, va_recv hK hP (ci := 11) (q := (RX9, TX9, 38)) rfl (q0 := 0) rfl, fun U hU hW => ⟨rfl, by rw [hU]; exact hP, va_K.moved hW.alike hK⟩⟩ rfl rfl hl.1 rfl (lv_room (Nat.le_of_ble_eq_true rfl)) dX9_leafDigest_11 ⟨Nat.le_of_ble_eq_true rfl, Nat.le_of_ble_eq_true rfl⟩)) (fun r_4 er_4 => ?_)
  have hn := er_4
  have hn : r_4 = md_num (ai 0) v_3 (8 : Int32).toNatClampNeg := hn
  exact W.lret hx hb hr (fun t ht hW => ⟨_, rfl, trivial, ht⟩) (fun q h => by cases h) dX9_leafDigest_14

set_option maxHeartbeats 4000000 in
set_option maxRecDepth 100000 in
theorem v_X9_pageOf (l : Launch) (dC : Nat → ClassId) (dI : Nat → Nat → Nat) (o : Nat) (c : Nat → Nat) (kc : Nat → ClassId) (st : Nat → Int32) (lg : Nat → Int64) (ai : Nat → Nat → Int32) (al : Nat → Nat → Int64) (p0 : Int64) (hf1a : 1 ≤ (st 1).toInt) (hf1b : (st 1).toInt ≤ 65536) : Met l yX9_pageOf wsX9_pageOf ({ frames := 5, cells := 0, slots := 0, locals := 114 }) (va_Pc [.ref o, .long p0] (fun U => va_P (dC, dI) vwCl (rw_W o c kc st lg ai al) U.heap ∧ va_K (dC, dI) vwCl (rw_T kc) U)) (vp_Si (fun r => (-1 ≤ r.toInt) ∧ (r.toInt < (st 1).toInt) ∧ ((r.toInt = -1 → noP (ai 0) (st 1) p0) ∧ (r.toInt ≠ -1 → ¬ noP (ai 0) (st 1) p0 ∧ 1 ≤ (rS (ai 0) r).toInt ∧ (rS (ai 0) r).toInt ≤ 16)))) 0 0 (fun _ => False) := by
  refine Met.ofW (cc := cX9_pageOf) (maxL := 4) (ret := (some .int)) (by decide) rfl ?_
  intro p e s m args below meth cM s₁ B hml hv
  obtain ⟨rfl, hP, hK⟩ := hv
  have hx := B.exec
  have hb := B.bytes
  have hr := B.returns
  have hts := atoms_spec (ws := wsX9_pageOf) B.pre
  have hown : s.vm.findClass RX9 = some m.cls := findClass_of_methodNamed B.named
  have hl := lv_entry ([.ref o, .long p0]) (n := 4) (Nat.le_of_ble_eq_true rfl)
  rw [lg_entry_eq]
  generalize (lg_sl ([.ref o, .long p0]) ++ List.replicate (4 - (lg_sl ([.ref o, .long p0])).length) Slot.unset).toArray = ls at hl ⊢
  have hl : lv_has ls 4 [(0, .ref o), (1, .long p0)] := hl
  have z_m1 : (-1 : Int32).toInt = -1 := by decide
  have z_0 : (0 : Int32).toInt = 0 := by decide
  have z_1 : (1 : Int32).toInt = 1 := by decide
  have z_8 : (8 : Int32).toInt = 8 := by decide
  have z_17 : (17 : Int32).toInt = 17 := by decide
  have hin9 : ∀ w ∈ u_ws RX9 TX9 38, w ∈ wsX9_pageOf := by decide +kernel
  refine lv_iconst (v := 0) hx hb dX9_pageOf_0 (by decide) ?_
  refine lv_istore_n (lv' := [(3, .int (0 : Int32)), (0, .ref o), (1, .long p0)]) hx hb dX9_pageOf_1 rfl hl (by decide) rfl (fun ls hl => ?_)
  have loop2 : ∀ (n : Nat) (l3_2 : Int32) (ls : Array Slot), (0 ≤ l3_2.toInt) → (l3_2.toInt ≤ (st 1).toInt) → (noP (ai 0) l3_2 p0) → ((st 1).toInt - l3_2.toInt : Int).toNat < n → lv_has ls 4 [(3, .int l3_2), (0, .ref o), (1, .long p0)] → W p l e (headSpec wsX9_pageOf ({ frames := 5, cells := 0, slots := 0, locals := 114 })).room s m ([.ref o, .long p0] : List Value).toArray below meth cM s.heap [] 0 0 (MQ below (vp_Si (fun r => (-1 ≤ r.toInt) ∧ (r.toInt < (st 1).toInt) ∧ ((r.toInt = -1 → noP (ai 0) (st 1) p0) ∧ (r.toInt ≠ -1 → ¬ noP (ai 0) (st 1) p0 ∧ 1 ≤ (rS (ai 0) r).toInt ∧ (rS (ai 0) r).toInt ≤ 16)))) ([.ref o, .long p0] : List Value).toArray s 0 0 (fun _ => False)) (F0 m 2 ls []) := by
    intro n
    induction n with
    | zero => intro l3_2 ls if0_2 if1_2 hno hm; exact absurd hm (Nat.not_lt_zero _)
    | succ n ih2 =>
      intro l3_2 ls if0_2 if1_2 hno hm2 hl
      refine lv_iload_n hx hb dX9_pageOf_2 rfl (lv_at hl 0 rfl) ?_
      refine lv_aload_n hx hb dX9_pageOf_3 rfl (lv_at hl 1 rfl) ?_
      refine va_get (D := (dC, dI)) (ci := 11) (v := .int (st 1)) (C := RX9) (T := TX9) (N := 38) hx hb hts hin9 hown hK hP 0 rfl rfl 1 (by decide) (hts (.fieldLink RX9 62 "BlockLogModel" "pages" "I") (by decide +kernel)) (fun _ h9 => h9) rfl dX9_pageOf_4 ?_
      refine lv_icmp_ge (tgt := 46) hx hb dX9_pageOf_7 (by decide) (fun c_1 => ?_) (fun c_1 => ?_)
      · skip
        have ic_1 := iv_le c_1
        refine lv_iconst (v := (-1)) hx hb dX9_pageOf_46 (by decide) ?_
        exact W.iret hx hb hr (fun t ht hW => ⟨_, rfl, ⟨(by omega), (by omega), ⟨fun _ => no_e hno (by omega), fun h => absurd (by omega) h⟩⟩, ht⟩) (fun q h => by cases h) dX9_pageOf_47
      · skip
        have ic_1 := iv_nle c_1
        refine lv_aload_n hx hb dX9_pageOf_10 rfl (lv_at hl 1 rfl) ?_
        refine lv_aload_n hx hb dX9_pageOf_11 rfl (lv_at hl 1 rfl) ?_
        refine lv_iload_n hx hb dX9_pageOf_12 rfl (lv_at hl 0 rfl) ?_
        refine vp_callSi (va_Run.run (va_runV (As := [.int l3_2]) (rest := [.ref o]) ⟨hx, hb, hml, hown, hts⟩ (v_X9_pagePlace l dC dI o c kc st lg ai al l3_2 (by omega) (by omega)) (cwV 1 hts gX9_pageOf_X9_pagePlace rfl rfl rfl (by decide +kernel) ⟨Nat.le_of_ble_eq_true rfl, Nat.le_of_ble_eq_true rfl⟩) ⟨fun a U g mk q => by obtain ⟨q0, qP, qK⟩ := q; exact ⟨q0, qP, va_K.moved (u := U) (U := U.calling g mk a) (Vm.Alike.refl U.vm) qK⟩, va_recv hK hP (ci := 11) (q := (RX9, TX9, 38)) rfl (q0 := 0) rfl, fun U hU hW => ⟨rfl, by rw [hU]; exact hP, va_K.moved hW.alike hK⟩⟩ rfl rfl hl.1 rfl (lv_room (Nat.le_of_ble_eq_true rfl)) dX9_pageOf_13 ⟨Nat.le_of_ble_eq_true rfl, Nat.le_of_ble_eq_true rfl⟩)) (fun r_2 er_2 => ?_)
        have k_3 := er_2
        refine lv_bipush (v := 17) hx hb dX9_pageOf_16 (by decide) ?_
        refine lv_iadd hx hb dX9_pageOf_18 ?_
        refine lv_topi (fun v_4 ev_4 => ?_)
        have rg1 := iv_rng r_2
        have hv_4 : v_4.toInt = r_2.toInt + 17 := by rw [ev_4]; exact (iv_add (by omega) (by omega)).trans (by omega)
        refine lv_bipush (v := 8) hx hb dX9_pageOf_19 (by decide) ?_
        refine vp_callSl (va_Run.run (va_runV (As := [.int v_4, .int (8 : Int32)]) (rest := []) ⟨hx, hb, hml, hown, hts⟩ (v_X9_number l dC dI o c kc st lg ai al v_4 (8 : Int32) (by omega) (by omega) (by omega) (by omega)) (cwV 2 hts gX9_pageOf_X9_number rfl rfl rfl (by decide +kernel) ⟨Nat.le_of_ble_eq_true rfl, Nat.le_of_ble_eq_true rfl⟩) ⟨fun a U g mk q => by obtain ⟨q0, qP, qK⟩ := q; exact ⟨q0, qP, va_K.moved (u := U) (U := U.calling g mk a) (Vm.Alike.refl U.vm) qK⟩, va_recv hK hP (ci := 11) (q := (RX9, TX9, 38)) rfl (q0 := 0) rfl, fun U hU hW => ⟨rfl, by rw [hU]; exact hP, va_K.moved hW.alike hK⟩⟩ rfl rfl hl.1 rfl (lv_room (Nat.le_of_ble_eq_true rfl)) dX9_pageOf_21 ⟨Nat.le_of_ble_eq_true rfl, Nat.le_of_ble_eq_true rfl⟩)) (fun r_5 er_5 => ?_)
        have hn := er_5
        have hn : r_5 = md_num (ai 0) v_4 (8 : Int32).toNatClampNeg := hn
        have hnum : r_5 = lgQ (ai 0) l3_2 := nm_of (z := 8224 + 26 * l3_2.toInt + 17) hn (by omega)
        refine lv_lload_n hx hb dX9_pageOf_24 rfl (lv_at hl 2 rfl) ?_
        refine W.lcmp hx hb dX9_pageOf_25 ?_
        refine lv_topi (fun v_6 ev_6 => ?_)
        refine lv_if_ne (tgt := 40) hx hb dX9_pageOf_26 (by decide) (fun c_7 => ?_) (fun c_7 => ?_)
        · skip
          have ic_7 := iv_ne c_7
          obtain ⟨x_8, ex_8⟩ : ∃ z : Int32, z = l3_2 + (1) := ⟨_, rfl⟩
          refine lv_iinc (v := x_8) (lv' := [(3, .int x_8), (0, .ref o), (1, .long p0)]) hx hb dX9_pageOf_40 hl (k := 0) rfl (by rw [ex_8]; rfl) (by decide) rfl (fun ls hl => ?_)
          have rg2 := iv_rng l3_2
          have hx_8 : x_8.toInt = l3_2.toInt + (1) := by rw [ex_8]; exact (iv_add (by omega) (by omega)).trans (by omega)
          clear ex_8
          refine lv_goto (tgt := 2) hx hb dX9_pageOf_43 (by decide) ?_
          exact ih2 x_8 _ (by omega) (by omega) (no_s hno (by first | exact nq_1 hnum (by assumption) (by assumption) | exact fun h => hrt.2 (by omega) h.2) (by omega)) (by omega) (lv_sub hl [0, 1, 2] rfl)
        · skip
          have ic_7 := iv_eq c_7
          refine lv_aload_n hx hb dX9_pageOf_29 rfl (lv_at hl 1 rfl) ?_
          refine lv_iload_n hx hb dX9_pageOf_30 rfl (lv_at hl 0 rfl) ?_
          refine vp_callSi (va_Run.run (va_runV (As := [.int l3_2]) (rest := []) ⟨hx, hb, hml, hown, hts⟩ (v_X9_pageState l dC dI o c kc st lg ai al l3_2 (by omega) (by omega)) (cwV 1 hts gX9_pageOf_X9_pageState rfl rfl rfl (by decide +kernel) ⟨Nat.le_of_ble_eq_true rfl, Nat.le_of_ble_eq_true rfl⟩) ⟨fun a U g mk q => by obtain ⟨q0, qP, qK⟩ := q; exact ⟨q0, qP, va_K.moved (u := U) (U := U.calling g mk a) (Vm.Alike.refl U.vm) qK⟩, va_recv hK hP (ci := 11) (q := (RX9, TX9, 38)) rfl (q0 := 0) rfl, fun U hU hW => ⟨rfl, by rw [hU]; exact hP, va_K.moved hW.alike hK⟩⟩ rfl rfl hl.1 rfl (lv_room (Nat.le_of_ble_eq_true rfl)) dX9_pageOf_31 ⟨Nat.le_of_ble_eq_true rfl, Nat.le_of_ble_eq_true rfl⟩)) (fun r_9 er_9 => ?_)
          obtain ⟨k_10, k_11, hrt⟩ := er_9
          have hrt : (r_9.toInt = 1 → rtQ (ai 0) l3_2) ∧ (r_9.toInt ≠ 1 → ¬ rtQ (ai 0) l3_2) := hrt
          refine lv_iconst (v := 1) hx hb dX9_pageOf_34 (by decide) ?_
          refine lv_icmp_ne (tgt := 40) hx hb dX9_pageOf_35 (by decide) (fun c_12 => ?_) (fun c_12 => ?_)
          · skip
            have ic_12 := iv_ne c_12
            obtain ⟨x_13, ex_13⟩ : ∃ z : Int32, z = l3_2 + (1) := ⟨_, rfl⟩
            refine lv_iinc (v := x_13) (lv' := [(3, .int x_13), (0, .ref o), (1, .long p0)]) hx hb dX9_pageOf_40 hl (k := 0) rfl (by rw [ex_13]; rfl) (by decide) rfl (fun ls hl => ?_)
            have rg3 := iv_rng l3_2
            have hx_13 : x_13.toInt = l3_2.toInt + (1) := by rw [ex_13]; exact (iv_add (by omega) (by omega)).trans (by omega)
            clear ex_13
            refine lv_goto (tgt := 2) hx hb dX9_pageOf_43 (by decide) ?_
            exact ih2 x_13 _ (by omega) (by omega) (no_s hno (by first | exact nq_1 hnum (by assumption) (by assumption) | exact fun h => hrt.2 (by omega) h.2) (by omega)) (by omega) (lv_sub hl [0, 1, 2] rfl)
          · skip
            have ic_12 := iv_eq c_12
            refine lv_iload_n hx hb dX9_pageOf_38 rfl (lv_at hl 0 rfl) ?_
            exact W.iret hx hb hr (fun t ht hW => ⟨_, rfl, ⟨(by omega), (by omega), ⟨fun h => absurd h (by omega), fun _ => ⟨fun h => h l3_2 (by omega) (by omega) ⟨hnum.symm.trans (se_y (by assumption) (by assumption)), hrt.1 (by omega)⟩, rtQ_S (hrt.1 (by omega)) (by omega) (by omega)⟩⟩⟩, ht⟩) (fun q h => by cases h) dX9_pageOf_39
  exact loop2 (((st 1).toInt - 0 : Int).toNat + 1) (0 : Int32) _ (by omega) (by omega) (no_0 (by omega)) (by omega) (lv_sub hl [0, 1, 2] rfl)

set_option maxHeartbeats 4000000 in
set_option maxRecDepth 100000 in
theorem v_X9_freePage (l : Launch) (dC : Nat → ClassId) (dI : Nat → Nat → Nat) (o : Nat) (c : Nat → Nat) (kc : Nat → ClassId) (st : Nat → Int32) (lg : Nat → Int64) (ai : Nat → Nat → Int32) (al : Nat → Nat → Int64)  (hf1a : 1 ≤ (st 1).toInt) (hf1b : (st 1).toInt ≤ 65536) : Met l yX9_freePage wsX9_freePage ({ frames := 5, cells := 0, slots := 0, locals := 114 }) (va_Pc [.ref o] (fun U => va_P (dC, dI) vwCl (rw_W o c kc st lg ai al) U.heap ∧ va_K (dC, dI) vwCl (rw_T kc) U)) (vp_Si (fun r => (-1 ≤ r.toInt) ∧ (r.toInt < (st 1).toInt))) 0 0 (fun _ => False) := by
  refine Met.ofW (cc := cX9_freePage) (maxL := 2) (ret := (some .int)) (by decide) rfl ?_
  intro p e s m args below meth cM s₁ B hml hv
  obtain ⟨rfl, hP, hK⟩ := hv
  have hx := B.exec
  have hb := B.bytes
  have hr := B.returns
  have hts := atoms_spec (ws := wsX9_freePage) B.pre
  have hown : s.vm.findClass RX9 = some m.cls := findClass_of_methodNamed B.named
  have hl := lv_entry ([.ref o]) (n := 2) (Nat.le_of_ble_eq_true rfl)
  rw [lg_entry_eq]
  generalize (lg_sl ([.ref o]) ++ List.replicate (2 - (lg_sl ([.ref o])).length) Slot.unset).toArray = ls at hl ⊢
  have hl : lv_has ls 2 [(0, .ref o)] := hl
  have z_m1 : (-1 : Int32).toInt = -1 := by decide
  have z_0 : (0 : Int32).toInt = 0 := by decide
  have z_1 : (1 : Int32).toInt = 1 := by decide
  have hin9 : ∀ w ∈ u_ws RX9 TX9 38, w ∈ wsX9_freePage := by decide +kernel
  refine lv_iconst (v := 0) hx hb dX9_freePage_0 (by decide) ?_
  refine lv_istore_n (lv' := [(1, .int (0 : Int32)), (0, .ref o)]) hx hb dX9_freePage_1 rfl hl (by decide) rfl (fun ls hl => ?_)
  have loop2 : ∀ (n : Nat) (l1_2 : Int32) (ls : Array Slot), (0 ≤ l1_2.toInt) → (l1_2.toInt ≤ (st 1).toInt) → ((st 1).toInt - l1_2.toInt : Int).toNat < n → lv_has ls 2 [(1, .int l1_2), (0, .ref o)] → W p l e (headSpec wsX9_freePage ({ frames := 5, cells := 0, slots := 0, locals := 114 })).room s m ([.ref o] : List Value).toArray below meth cM s.heap [] 0 0 (MQ below (vp_Si (fun r => (-1 ≤ r.toInt) ∧ (r.toInt < (st 1).toInt))) ([.ref o] : List Value).toArray s 0 0 (fun _ => False)) (F0 m 2 ls []) := by
    intro n
    induction n with
    | zero => intro l1_2 ls if0_2 if1_2 hm; exact absurd hm (Nat.not_lt_zero _)
    | succ n ih2 =>
      intro l1_2 ls if0_2 if1_2 hm2 hl
      refine lv_iload_n hx hb dX9_freePage_2 rfl (lv_at hl 0 rfl) ?_
      refine lv_aload_n hx hb dX9_freePage_3 rfl (lv_at hl 1 rfl) ?_
      refine va_get (D := (dC, dI)) (ci := 11) (v := .int (st 1)) (C := RX9) (T := TX9) (N := 38) hx hb hts hin9 hown hK hP 0 rfl rfl 1 (by decide) (hts (.fieldLink RX9 62 "BlockLogModel" "pages" "I") (by decide +kernel)) (fun _ h9 => h9) rfl dX9_freePage_4 ?_
      refine lv_icmp_ge (tgt := 26) hx hb dX9_freePage_7 (by decide) (fun c_1 => ?_) (fun c_1 => ?_)
      · skip
        have ic_1 := iv_le c_1
        refine lv_iconst (v := (-1)) hx hb dX9_freePage_26 (by decide) ?_
        exact W.iret hx hb hr (fun t ht hW => ⟨_, rfl, ⟨(by omega), (by omega)⟩, ht⟩) (fun q h => by cases h) dX9_freePage_27
      · skip
        have ic_1 := iv_nle c_1
        refine lv_aload_n hx hb dX9_freePage_10 rfl (lv_at hl 1 rfl) ?_
        refine lv_iload_n hx hb dX9_freePage_11 rfl (lv_at hl 0 rfl) ?_
        refine vp_callSi (va_Run.run (va_runV (As := [.int l1_2]) (rest := []) ⟨hx, hb, hml, hown, hts⟩ (v_X9_pageState l dC dI o c kc st lg ai al l1_2 (by omega) (by omega)) (cwV 1 hts gX9_freePage_X9_pageState rfl rfl rfl (by decide +kernel) ⟨Nat.le_of_ble_eq_true rfl, Nat.le_of_ble_eq_true rfl⟩) ⟨fun a U g mk q => by obtain ⟨q0, qP, qK⟩ := q; exact ⟨q0, qP, va_K.moved (u := U) (U := U.calling g mk a) (Vm.Alike.refl U.vm) qK⟩, va_recv hK hP (ci := 11) (q := (RX9, TX9, 38)) rfl (q0 := 0) rfl, fun U hU hW => ⟨rfl, by rw [hU]; exact hP, va_K.moved hW.alike hK⟩⟩ rfl rfl hl.1 rfl (lv_room (Nat.le_of_ble_eq_true rfl)) dX9_freePage_12 ⟨Nat.le_of_ble_eq_true rfl, Nat.le_of_ble_eq_true rfl⟩)) (fun r_2 er_2 => ?_)
        obtain ⟨k_3, k_4, hrt⟩ := er_2
        have hrt : (r_2.toInt = 1 → rtQ (ai 0) l1_2) ∧ (r_2.toInt ≠ 1 → ¬ rtQ (ai 0) l1_2) := hrt
        refine lv_if_ne (tgt := 20) hx hb dX9_freePage_15 (by decide) (fun c_5 => ?_) (fun c_5 => ?_)
        · skip
          have ic_5 := iv_ne c_5
          obtain ⟨x_6, ex_6⟩ : ∃ z : Int32, z = l1_2 + (1) := ⟨_, rfl⟩
          refine lv_iinc (v := x_6) (lv' := [(1, .int x_6), (0, .ref o)]) hx hb dX9_freePage_20 hl (k := 0) rfl (by rw [ex_6]; rfl) (by decide) rfl (fun ls hl => ?_)
          have rg1 := iv_rng l1_2
          have hx_6 : x_6.toInt = l1_2.toInt + (1) := by rw [ex_6]; exact (iv_add (by omega) (by omega)).trans (by omega)
          clear ex_6
          refine lv_goto (tgt := 2) hx hb dX9_freePage_23 (by decide) ?_
          exact ih2 x_6 _ (by omega) (by omega) (by omega) (lv_sub hl [0, 1] rfl)
        · skip
          have ic_5 := iv_eq c_5
          refine lv_iload_n hx hb dX9_freePage_18 rfl (lv_at hl 0 rfl) ?_
          exact W.iret hx hb hr (fun t ht hW => ⟨_, rfl, ⟨(by omega), (by omega)⟩, ht⟩) (fun q h => by cases h) dX9_freePage_19
  exact loop2 (((st 1).toInt - 0 : Int).toNat + 1) (0 : Int32) _ (by omega) (by omega) (by omega) (lv_sub hl [0, 1] rfl)

set_option maxHeartbeats 4000000 in
set_option maxRecDepth 100000 in
theorem v_X9_isNamed (l : Launch) (dC : Nat → ClassId) (dI : Nat → Nat → Nat) (o : Nat) (c : Nat → Nat) (kc : Nat → ClassId) (st : Nat → Int32) (lg : Nat → Int64) (ai : Nat → Nat → Int32) (al : Nat → Nat → Int64) (p0 : Int64) (hf30a : 0 ≤ (st 30).toInt) (hf30b : (st 30).toInt ≤ 128) : Met l yX9_isNamed wsX9_isNamed ({ frames := 0, cells := 0, slots := 0, locals := 0 }) (va_Pc [.ref o, .long p0] (fun U => va_P (dC, dI) vwCl (rw_W o c kc st lg ai al) U.heap ∧ va_K (dC, dI) vwCl (rw_T kc) U)) (vp_Si (fun r => (0 ≤ r.toInt) ∧ (r.toInt ≤ 1))) 0 0 (fun _ => False) := by
  refine Met.ofW (cc := cX9_isNamed) (maxL := 4) (ret := (some .boolean)) (by decide) rfl ?_
  intro p e s m args below meth cM s₁ B hml hv
  obtain ⟨rfl, hP, hK⟩ := hv
  have hx := B.exec
  have hb := B.bytes
  have hr := B.returns
  have hts := atoms_spec (ws := wsX9_isNamed) B.pre
  have hown : s.vm.findClass RX9 = some m.cls := findClass_of_methodNamed B.named
  have hl := lv_entry ([.ref o, .long p0]) (n := 4) (Nat.le_of_ble_eq_true rfl)
  rw [lg_entry_eq]
  generalize (lg_sl ([.ref o, .long p0]) ++ List.replicate (4 - (lg_sl ([.ref o, .long p0])).length) Slot.unset).toArray = ls at hl ⊢
  have hl : lv_has ls 4 [(0, .ref o), (1, .long p0)] := hl
  have z_0 : (0 : Int32).toInt = 0 := by decide
  have z_1 : (1 : Int32).toInt = 1 := by decide
  have hin9 : ∀ w ∈ u_ws RX9 TX9 38, w ∈ wsX9_isNamed := by decide +kernel
  refine lv_iconst (v := 0) hx hb dX9_isNamed_0 (by decide) ?_
  refine lv_istore_n (lv' := [(3, .int (0 : Int32)), (0, .ref o), (1, .long p0)]) hx hb dX9_isNamed_1 rfl hl (by decide) rfl (fun ls hl => ?_)
  have loop2 : ∀ (n : Nat) (l3_2 : Int32) (ls : Array Slot), (0 ≤ l3_2.toInt) → (l3_2.toInt ≤ (st 30).toInt) → ((st 30).toInt - l3_2.toInt : Int).toNat < n → lv_has ls 4 [(3, .int l3_2), (0, .ref o), (1, .long p0)] → W p l e (headSpec wsX9_isNamed ({ frames := 0, cells := 0, slots := 0, locals := 0 })).room s m ([.ref o, .long p0] : List Value).toArray below meth cM s.heap [] 0 0 (MQ below (vp_Si (fun r => (0 ≤ r.toInt) ∧ (r.toInt ≤ 1))) ([.ref o, .long p0] : List Value).toArray s 0 0 (fun _ => False)) (F0 m 2 ls []) := by
    intro n
    induction n with
    | zero => intro l3_2 ls if0_2 if1_2 hm; exact absurd hm (Nat.not_lt_zero _)
    | succ n ih2 =>
      intro l3_2 ls if0_2 if1_2 hm2 hl
      refine lv_iload_n hx hb dX9_isNamed_2 rfl (lv_at hl 0 rfl) ?_
      refine lv_aload_n hx hb dX9_isNamed_3 rfl (lv_at hl 1 rfl) ?_
      refine va_get (D := (dC, dI)) (ci := 11) (v := .int (st 30)) (C := RX9) (T := TX9) (N := 38) hx hb hts hin9 hown hK hP 0 rfl rfl 30 (by decide) (hts (.fieldLink RX9 241 "BlockLogModel" "named" "I") (by decide +kernel)) (fun _ h9 => h9) rfl dX9_isNamed_4 ?_
      refine lv_icmp_ge (tgt := 29) hx hb dX9_isNamed_7 (by decide) (fun c_1 => ?_) (fun c_1 => ?_)
      · skip
        have ic_1 := iv_le c_1
        refine lv_iconst (v := 0) hx hb dX9_isNamed_29 (by decide) ?_
        exact W.zret hx hb hr rfl (fun t ht hW => ⟨_, rfl, ⟨(by omega), (by omega)⟩, ht⟩) (fun q h => by cases h) dX9_isNamed_30
      · skip
        have ic_1 := iv_nle c_1
        refine lv_aload_n hx hb dX9_isNamed_10 rfl (lv_at hl 1 rfl) ?_
        refine va_get (D := (dC, dI)) (ci := 11) (v := .ref (c 29)) (C := RX9) (T := TX9) (N := 38) hx hb hts hin9 hown hK hP 0 rfl rfl 29 (by decide) (hts (.fieldLink RX9 43 "BlockLogModel" "names" "[J") (by decide +kernel)) (fun _ h9 => h9) rfl dX9_isNamed_11 ?_
        refine lv_iload_n hx hb dX9_isNamed_14 rfl (lv_at hl 0 rfl) ?_
        refine va_lald (f := al 29) hx hb hK hP 11 10 rfl rfl (iv_in (i := l3_2) (by omega) (by omega)) dX9_isNamed_15 ?_
        refine lv_topl (fun w_2 ew_2 => ?_)
        have hX_names := ew_2
        clear ew_2
        refine lv_lload_n hx hb dX9_isNamed_16 rfl (lv_at hl 2 rfl) ?_
        refine W.lcmp hx hb dX9_isNamed_17 ?_
        refine lv_topi (fun v_3 ev_3 => ?_)
        clear ev_3
        refine lv_if_ne (tgt := 23) hx hb dX9_isNamed_18 (by decide) (fun c_4 => ?_) (fun c_4 => ?_)
        · skip
          have ic_4 := iv_ne c_4
          obtain ⟨x_5, ex_5⟩ : ∃ z : Int32, z = l3_2 + (1) := ⟨_, rfl⟩
          refine lv_iinc (v := x_5) (lv' := [(3, .int x_5), (0, .ref o), (1, .long p0)]) hx hb dX9_isNamed_23 hl (k := 0) rfl (by rw [ex_5]; rfl) (by decide) rfl (fun ls hl => ?_)
          have rg1 := iv_rng l3_2
          have hx_5 : x_5.toInt = l3_2.toInt + (1) := by rw [ex_5]; exact (iv_add (by omega) (by omega)).trans (by omega)
          clear ex_5
          refine lv_goto (tgt := 2) hx hb dX9_isNamed_26 (by decide) ?_
          exact ih2 x_5 _ (by omega) (by omega) (by omega) (lv_sub hl [0, 1, 2] rfl)
        · skip
          have ic_4 := iv_eq c_4
          refine lv_iconst (v := 1) hx hb dX9_isNamed_21 (by decide) ?_
          exact W.zret hx hb hr rfl (fun t ht hW => ⟨_, rfl, ⟨(by omega), (by omega)⟩, ht⟩) (fun q h => by cases h) dX9_isNamed_22
  exact loop2 (((st 30).toInt - 0 : Int).toNat + 1) (0 : Int32) _ (by omega) (by omega) (by omega) (lv_sub hl [0, 1, 2] rfl)

set_option maxHeartbeats 4000000 in
set_option maxRecDepth 100000 in
theorem v_X9_isHead (l : Launch) (dC : Nat → ClassId) (dI : Nat → Nat → Nat) (o : Nat) (c : Nat → Nat) (kc : Nat → ClassId) (st : Nat → Int32) (lg : Nat → Int64) (ai : Nat → Nat → Int32) (al : Nat → Nat → Int64) (p0 : Int32) (hq0 : 0 ≤ p0.toInt) (hq1 : p0.toInt ≤ 1) : Met l yX9_isHead wsX9_isHead ({ frames := 2, cells := 0, slots := 0, locals := 50 }) (va_Pc [.ref o, .int p0] (fun U => va_P (dC, dI) vwCl (rw_W o c kc st lg ai al) U.heap ∧ va_K (dC, dI) vwCl (rw_T kc) U)) (vp_Si (fun r => (0 ≤ r.toInt) ∧ (r.toInt ≤ 1))) 0 0 (fun _ => False) := by
  refine Met.ofW (cc := cX9_isHead) (maxL := 4) (ret := (some .boolean)) (by decide) rfl ?_
  intro p e s m args below meth cM s₁ B hml hv
  obtain ⟨rfl, hP, hK⟩ := hv
  have hx := B.exec
  have hb := B.bytes
  have hr := B.returns
  have hts := atoms_spec (ws := wsX9_isHead) B.pre
  have hown : s.vm.findClass RX9 = some m.cls := findClass_of_methodNamed B.named
  have hl := lv_entry ([.ref o, .int p0]) (n := 4) (Nat.le_of_ble_eq_true rfl)
  rw [lg_entry_eq]
  generalize (lg_sl ([.ref o, .int p0]) ++ List.replicate (4 - (lg_sl ([.ref o, .int p0])).length) Slot.unset).toArray = ls at hl ⊢
  have hl : lv_has ls 4 [(0, .ref o), (1, .int p0)] := hl
  have z_0 : (0 : Int32).toInt = 0 := by decide
  have z_1 : (1 : Int32).toInt = 1 := by decide
  have z_4 : (4 : Int32).toInt = 4 := by decide
  have z_8 : (8 : Int32).toInt = 8 := by decide
  have z_16 : (16 : Int32).toInt = 16 := by decide
  refine lv_aload_n hx hb dX9_isHead_0 rfl (lv_at hl 0 rfl) ?_
  refine lv_bipush (v := 16) hx hb dX9_isHead_1 (by decide) ?_
  refine lv_iload_n hx hb dX9_isHead_3 rfl (lv_at hl 1 rfl) ?_
  refine lv_imul hx hb dX9_isHead_4 ?_
  refine lv_topi (fun v_1 ev_1 => ?_)
  have rg1 := iv_rng p0
  have hv_1 : v_1.toInt = 16 * p0.toInt := by rw [ev_1]; exact (iv_mulc z_16 (by omega) (by omega)).trans (by omega)
  clear ev_1
  refine lv_bipush (v := 8) hx hb dX9_isHead_5 (by decide) ?_
  refine lv_iadd hx hb dX9_isHead_7 ?_
  refine lv_topi (fun v_2 ev_2 => ?_)
  have rg2 := iv_rng v_1
  have hv_2 : v_2.toInt = v_1.toInt + 8 := by rw [ev_2]; exact (iv_add (by omega) (by omega)).trans (by omega)
  clear ev_2
  refine lv_bipush (v := 8) hx hb dX9_isHead_8 (by decide) ?_
  refine vp_callSl (va_Run.run (va_runV (As := [.int v_2, .int (8 : Int32)]) (rest := []) ⟨hx, hb, hml, hown, hts⟩ (v_X9_number l dC dI o c kc st lg ai al v_2 (8 : Int32) (by omega) (by omega) (by omega) (by omega)) (cwV 2 hts gX9_isHead_X9_number rfl rfl rfl (by decide +kernel) ⟨Nat.le_of_ble_eq_true rfl, Nat.le_of_ble_eq_true rfl⟩) ⟨fun a U g mk q => by obtain ⟨q0, qP, qK⟩ := q; exact ⟨q0, qP, va_K.moved (u := U) (U := U.calling g mk a) (Vm.Alike.refl U.vm) qK⟩, va_recv hK hP (ci := 11) (q := (RX9, TX9, 38)) rfl (q0 := 0) rfl, fun U hU hW => ⟨rfl, by rw [hU]; exact hP, va_K.moved hW.alike hK⟩⟩ rfl rfl hl.1 rfl (lv_room (Nat.le_of_ble_eq_true rfl)) dX9_isHead_10 ⟨Nat.le_of_ble_eq_true rfl, Nat.le_of_ble_eq_true rfl⟩)) (fun r_3 er_3 => ?_)
  have hn := er_3
  have hn : r_3 = md_num (ai 0) v_2 (8 : Int32).toNatClampNeg := hn
  refine lv_lstore_n (lv' := [(2, .long r_3), (0, .ref o), (1, .int p0)]) hx hb dX9_isHead_13 rfl hl (by decide) rfl (fun ls hl => ?_)
  refine lv_aload_n hx hb dX9_isHead_14 rfl (lv_at hl 1 rfl) ?_
  refine lv_bipush (v := 16) hx hb dX9_isHead_15 (by decide) ?_
  refine lv_iload_n hx hb dX9_isHead_17 rfl (lv_at hl 2 rfl) ?_
  refine lv_imul hx hb dX9_isHead_18 ?_
  refine lv_topi (fun v_4 ev_4 => ?_)
  have hv_4 : v_4.toInt = 16 * p0.toInt := by rw [ev_4]; exact (iv_mulc z_16 (by omega) (by omega)).trans (by omega)
  clear ev_4
  refine lv_iconst (v := 4) hx hb dX9_isHead_19 (by decide) ?_
  refine lv_iadd hx hb dX9_isHead_20 ?_
  refine lv_topi (fun v_5 ev_5 => ?_)
  have rg3 := iv_rng v_4
  have hv_5 : v_5.toInt = v_4.toInt + 4 := by rw [ev_5]; exact (iv_add (by omega) (by omega)).trans (by omega)
  clear ev_5
  refine lv_iconst (v := 4) hx hb dX9_isHead_21 (by decide) ?_
  refine vp_callSl (va_Run.run (va_runV (As := [.int v_5, .int (4 : Int32)]) (rest := []) ⟨hx, hb, hml, hown, hts⟩ (v_X9_number l dC dI o c kc st lg ai al v_5 (4 : Int32) (by omega) (by omega) (by omega) (by omega)) (cwV 2 hts gX9_isHead_X9_number rfl rfl rfl (by decide +kernel) ⟨Nat.le_of_ble_eq_true rfl, Nat.le_of_ble_eq_true rfl⟩) ⟨fun a U g mk q => by obtain ⟨q0, qP, qK⟩ := q; exact ⟨q0, qP, va_K.moved (u := U) (U := U.calling g mk a) (Vm.Alike.refl U.vm) qK⟩, va_recv hK hP (ci := 11) (q := (RX9, TX9, 38)) rfl (q0 := 0) rfl, fun U hU hW => ⟨rfl, by rw [hU]; exact hP, va_K.moved hW.alike hK⟩⟩ rfl rfl hl.1 rfl (lv_room (Nat.le_of_ble_eq_true rfl)) dX9_isHead_22 ⟨Nat.le_of_ble_eq_true rfl, Nat.le_of_ble_eq_true rfl⟩)) (fun r_6 er_6 => ?_)
  have hn := er_6
  have hn : r_6 = md_num (ai 0) v_5 (4 : Int32).toNatClampNeg := hn
  refine lv_ldc2 hx hb hown (hts (.constantLong RX9 251 (165)) (by decide +kernel)) dX9_isHead_25 ?_
  refine W.lcmp hx hb dX9_isHead_28 ?_
  refine lv_topi (fun v_7 ev_7 => ?_)
  clear ev_7
  refine lv_if_ne (tgt := 58) hx hb dX9_isHead_29 (by decide) (fun c_8 => ?_) (fun c_8 => ?_)
  · skip
    have ic_8 := iv_ne c_8
    refine lv_iconst (v := 0) hx hb dX9_isHead_58 (by decide) ?_
    exact W.zret hx hb hr rfl (fun t ht hW => ⟨_, rfl, ⟨(by omega), (by omega)⟩, ht⟩) (fun q h => by cases h) dX9_isHead_59
  · skip
    have ic_8 := iv_eq c_8
    refine lv_lload_n hx hb dX9_isHead_32 rfl (lv_at hl 0 rfl) ?_
    refine lv_lconst (v := 0) hx hb dX9_isHead_33 (by decide) ?_
    refine W.lcmp hx hb dX9_isHead_34 ?_
    refine lv_topi (fun v_9 ev_9 => ?_)
    clear ev_9
    refine lv_if_eq (tgt := 58) hx hb dX9_isHead_35 (by decide) (fun c_10 => ?_) (fun c_10 => ?_)
    · skip
      have ic_10 := iv_eq c_10
      refine lv_iconst (v := 0) hx hb dX9_isHead_58 (by decide) ?_
      exact W.zret hx hb hr rfl (fun t ht hW => ⟨_, rfl, ⟨(by omega), (by omega)⟩, ht⟩) (fun q h => by cases h) dX9_isHead_59
    · skip
      have ic_10 := iv_ne c_10
      refine lv_lload_n hx hb dX9_isHead_38 rfl (lv_at hl 0 rfl) ?_
      refine lv_aload_n hx hb dX9_isHead_39 rfl (lv_at hl 1 rfl) ?_
      refine lv_iconst (v := 1) hx hb dX9_isHead_40 (by decide) ?_
      refine lv_bipush (v := 16) hx hb dX9_isHead_41 (by decide) ?_
      refine lv_iload_n hx hb dX9_isHead_43 rfl (lv_at hl 2 rfl) ?_
      refine lv_imul hx hb dX9_isHead_44 ?_
      refine lv_topi (fun v_11 ev_11 => ?_)
      have hv_11 : v_11.toInt = 16 * p0.toInt := by rw [ev_11]; exact (iv_mulc z_16 (by omega) (by omega)).trans (by omega)
      clear ev_11
      refine lv_bipush (v := 8) hx hb dX9_isHead_45 (by decide) ?_
      refine vp_callSl (va_Run.run (va_runV (As := [.int (1 : Int32), .int v_11, .int (8 : Int32)]) (rest := [.long r_3]) ⟨hx, hb, hml, hown, hts⟩ (v_X9_sumOf l dC dI o c kc st lg ai al (1 : Int32) v_11 (8 : Int32) (by omega) (by omega) (by omega) (by omega)) (cwV 3 hts gX9_isHead_X9_sumOf rfl rfl rfl (by decide +kernel) ⟨Nat.le_of_ble_eq_true rfl, Nat.le_of_ble_eq_true rfl⟩) ⟨fun a U g mk q => by obtain ⟨q0, qP, qK⟩ := q; exact ⟨q0, qP, va_K.moved (u := U) (U := U.calling g mk a) (Vm.Alike.refl U.vm) qK⟩, va_recv hK hP (ci := 11) (q := (RX9, TX9, 38)) rfl (q0 := 0) rfl, fun U hU hW => ⟨rfl, by rw [hU]; exact hP, va_K.moved hW.alike hK⟩⟩ rfl rfl hl.1 rfl (lv_room (Nat.le_of_ble_eq_true rfl)) dX9_isHead_47 ⟨Nat.le_of_ble_eq_true rfl, Nat.le_of_ble_eq_true rfl⟩)) (fun r_12 er_12 => ?_)
      have hs := er_12
      have hs : r_12 = sF (ai 0) (1 : Int32) v_11 (8 : Int32).toInt.toNat := hs
      refine W.lcmp hx hb dX9_isHead_50 ?_
      refine lv_topi (fun v_13 ev_13 => ?_)
      clear ev_13
      refine lv_if_ne (tgt := 58) hx hb dX9_isHead_51 (by decide) (fun c_14 => ?_) (fun c_14 => ?_)
      · skip
        have ic_14 := iv_ne c_14
        refine lv_iconst (v := 0) hx hb dX9_isHead_58 (by decide) ?_
        exact W.zret hx hb hr rfl (fun t ht hW => ⟨_, rfl, ⟨(by omega), (by omega)⟩, ht⟩) (fun q h => by cases h) dX9_isHead_59
      · skip
        have ic_14 := iv_eq c_14
        refine lv_iconst (v := 1) hx hb dX9_isHead_54 (by decide) ?_
        refine lv_goto (tgt := 59) hx hb dX9_isHead_55 (by decide) ?_
        exact W.zret hx hb hr rfl (fun t ht hW => ⟨_, rfl, ⟨(by omega), (by omega)⟩, ht⟩) (fun q h => by cases h) dX9_isHead_59

set_option maxHeartbeats 4000000 in
set_option maxRecDepth 100000 in
theorem v_X9_badPages (l : Launch) (dC : Nat → ClassId) (dI : Nat → Nat → Nat) (o : Nat) (c : Nat → Nat) (kc : Nat → ClassId) (st : Nat → Int32) (lg : Nat → Int64) (ai : Nat → Nat → Int32) (al : Nat → Nat → Int64)  (hf1a : 1 ≤ (st 1).toInt) (hf1b : (st 1).toInt ≤ 65536) : Met l yX9_badPages wsX9_badPages ({ frames := 5, cells := 0, slots := 0, locals := 114 }) (va_Pc [.ref o] (fun U => va_P (dC, dI) vwCl (rw_W o c kc st lg ai al) U.heap ∧ va_K (dC, dI) vwCl (rw_T kc) U)) (vp_Si (fun r => (0 ≤ r.toInt) ∧ (r.toInt ≤ (st 1).toInt))) 0 0 (fun _ => False) := by
  refine Met.ofW (cc := cX9_badPages) (maxL := 3) (ret := (some .int)) (by decide) rfl ?_
  intro p e s m args below meth cM s₁ B hml hv
  obtain ⟨rfl, hP, hK⟩ := hv
  have hx := B.exec
  have hb := B.bytes
  have hr := B.returns
  have hts := atoms_spec (ws := wsX9_badPages) B.pre
  have hown : s.vm.findClass RX9 = some m.cls := findClass_of_methodNamed B.named
  have hl := lv_entry ([.ref o]) (n := 3) (Nat.le_of_ble_eq_true rfl)
  rw [lg_entry_eq]
  generalize (lg_sl ([.ref o]) ++ List.replicate (3 - (lg_sl ([.ref o])).length) Slot.unset).toArray = ls at hl ⊢
  have hl : lv_has ls 3 [(0, .ref o)] := hl
  have z_0 : (0 : Int32).toInt = 0 := by decide
  have z_1 : (1 : Int32).toInt = 1 := by decide
  have z_3 : (3 : Int32).toInt = 3 := by decide
  have hin9 : ∀ w ∈ u_ws RX9 TX9 38, w ∈ wsX9_badPages := by decide +kernel
  refine lv_iconst (v := 0) hx hb dX9_badPages_0 (by decide) ?_
  refine lv_istore_n (lv' := [(1, .int (0 : Int32)), (0, .ref o)]) hx hb dX9_badPages_1 rfl hl (by decide) rfl (fun ls hl => ?_)
  refine lv_iconst (v := 0) hx hb dX9_badPages_2 (by decide) ?_
  refine lv_istore_n (lv' := [(2, .int (0 : Int32)), (1, .int (0 : Int32)), (0, .ref o)]) hx hb dX9_badPages_3 rfl hl (by decide) rfl (fun ls hl => ?_)
  have loop4 : ∀ (n : Nat) (l2_4 : Int32) (l1_4 : Int32) (ls : Array Slot), (0 ≤ l2_4.toInt) → (l2_4.toInt ≤ (st 1).toInt) → (0 ≤ l1_4.toInt) → (l1_4.toInt ≤ l2_4.toInt) → ((st 1).toInt - l2_4.toInt : Int).toNat < n → lv_has ls 3 [(2, .int l2_4), (1, .int l1_4), (0, .ref o)] → W p l e (headSpec wsX9_badPages ({ frames := 5, cells := 0, slots := 0, locals := 114 })).room s m ([.ref o] : List Value).toArray below meth cM s.heap [] 0 0 (MQ below (vp_Si (fun r => (0 ≤ r.toInt) ∧ (r.toInt ≤ (st 1).toInt))) ([.ref o] : List Value).toArray s 0 0 (fun _ => False)) (F0 m 4 ls []) := by
    intro n
    induction n with
    | zero => intro l2_4 l1_4 ls if0_4 if1_4 if2_4 if3_4 hm; exact absurd hm (Nat.not_lt_zero _)
    | succ n ih4 =>
      intro l2_4 l1_4 ls if0_4 if1_4 if2_4 if3_4 hm4 hl
      refine lv_iload_n hx hb dX9_badPages_4 rfl (lv_at hl 0 rfl) ?_
      refine lv_aload_n hx hb dX9_badPages_5 rfl (lv_at hl 2 rfl) ?_
      refine va_get (D := (dC, dI)) (ci := 11) (v := .int (st 1)) (C := RX9) (T := TX9) (N := 38) hx hb hts hin9 hown hK hP 0 rfl rfl 1 (by decide) (hts (.fieldLink RX9 62 "BlockLogModel" "pages" "I") (by decide +kernel)) (fun _ h9 => h9) rfl dX9_badPages_6 ?_
      refine lv_icmp_ge (tgt := 35) hx hb dX9_badPages_9 (by decide) (fun c_1 => ?_) (fun c_1 => ?_)
      · skip
        have ic_1 := iv_le c_1
        refine lv_iload_n hx hb dX9_badPages_35 rfl (lv_at hl 1 rfl) ?_
        exact W.iret hx hb hr (fun t ht hW => ⟨_, rfl, ⟨(by omega), (by omega)⟩, ht⟩) (fun q h => by cases h) dX9_badPages_36
      · skip
        have ic_1 := iv_nle c_1
        refine lv_iload_n hx hb dX9_badPages_12 rfl (lv_at hl 1 rfl) ?_
        refine lv_aload_n hx hb dX9_badPages_13 rfl (lv_at hl 2 rfl) ?_
        refine lv_iload_n hx hb dX9_badPages_14 rfl (lv_at hl 0 rfl) ?_
        refine vp_callSi (va_Run.run (va_runV (As := [.int l2_4]) (rest := [.int l1_4]) ⟨hx, hb, hml, hown, hts⟩ (v_X9_pageState l dC dI o c kc st lg ai al l2_4 (by omega) (by omega)) (cwV 1 hts gX9_badPages_X9_pageState rfl rfl rfl (by decide +kernel) ⟨Nat.le_of_ble_eq_true rfl, Nat.le_of_ble_eq_true rfl⟩) ⟨fun a U g mk q => by obtain ⟨q0, qP, qK⟩ := q; exact ⟨q0, qP, va_K.moved (u := U) (U := U.calling g mk a) (Vm.Alike.refl U.vm) qK⟩, va_recv hK hP (ci := 11) (q := (RX9, TX9, 38)) rfl (q0 := 0) rfl, fun U hU hW => ⟨rfl, by rw [hU]; exact hP, va_K.moved hW.alike hK⟩⟩ rfl rfl hl.1 rfl (lv_room (Nat.le_of_ble_eq_true rfl)) dX9_badPages_15 ⟨Nat.le_of_ble_eq_true rfl, Nat.le_of_ble_eq_true rfl⟩)) (fun r_2 er_2 => ?_)
        obtain ⟨k_3, k_4, hrt⟩ := er_2
        have hrt : (r_2.toInt = 1 → rtQ (ai 0) l2_4) ∧ (r_2.toInt ≠ 1 → ¬ rtQ (ai 0) l2_4) := hrt
        refine lv_iconst (v := 3) hx hb dX9_badPages_18 (by decide) ?_
        refine lv_icmp_ne (tgt := 26) hx hb dX9_badPages_19 (by decide) (fun c_5 => ?_) (fun c_5 => ?_)
        · skip
          have ic_5 := iv_ne c_5
          refine lv_iconst (v := 0) hx hb dX9_badPages_26 (by decide) ?_
          refine lv_iadd hx hb dX9_badPages_27 ?_
          refine lv_topi (fun v_6 ev_6 => ?_)
          have rg1 := iv_rng l1_4
          have hv_6 : v_6.toInt = l1_4.toInt + 0 := by rw [ev_6]; exact (iv_add (by omega) (by omega)).trans (by omega)
          clear ev_6
          refine lv_istore_n (lv' := [(1, .int v_6), (2, .int l2_4), (0, .ref o)]) hx hb dX9_badPages_28 rfl hl (by decide) rfl (fun ls hl => ?_)
          obtain ⟨x_7, ex_7⟩ : ∃ z : Int32, z = l2_4 + (1) := ⟨_, rfl⟩
          refine lv_iinc (v := x_7) (lv' := [(2, .int x_7), (1, .int v_6), (0, .ref o)]) hx hb dX9_badPages_29 hl (k := 1) rfl (by rw [ex_7]; rfl) (by decide) rfl (fun ls hl => ?_)
          have rg2 := iv_rng l2_4
          have hx_7 : x_7.toInt = l2_4.toInt + (1) := by rw [ex_7]; exact (iv_add (by omega) (by omega)).trans (by omega)
          clear ex_7
          refine lv_goto (tgt := 4) hx hb dX9_badPages_32 (by decide) ?_
          exact ih4 x_7 v_6 _ (by omega) (by omega) (by omega) (by omega) (by omega) (lv_sub hl [0, 1, 2] rfl)
        · skip
          have ic_5 := iv_eq c_5
          refine lv_iconst (v := 1) hx hb dX9_badPages_22 (by decide) ?_
          refine lv_goto (tgt := 27) hx hb dX9_badPages_23 (by decide) ?_
          refine lv_iadd hx hb dX9_badPages_27 ?_
          refine lv_topi (fun v_8 ev_8 => ?_)
          have rg3 := iv_rng l1_4
          have hv_8 : v_8.toInt = l1_4.toInt + 1 := by rw [ev_8]; exact (iv_add (by omega) (by omega)).trans (by omega)
          clear ev_8
          refine lv_istore_n (lv' := [(1, .int v_8), (2, .int l2_4), (0, .ref o)]) hx hb dX9_badPages_28 rfl hl (by decide) rfl (fun ls hl => ?_)
          obtain ⟨x_9, ex_9⟩ : ∃ z : Int32, z = l2_4 + (1) := ⟨_, rfl⟩
          refine lv_iinc (v := x_9) (lv' := [(2, .int x_9), (1, .int v_8), (0, .ref o)]) hx hb dX9_badPages_29 hl (k := 1) rfl (by rw [ex_9]; rfl) (by decide) rfl (fun ls hl => ?_)
          have rg4 := iv_rng l2_4
          have hx_9 : x_9.toInt = l2_4.toInt + (1) := by rw [ex_9]; exact (iv_add (by omega) (by omega)).trans (by omega)
          clear ex_9
          refine lv_goto (tgt := 4) hx hb dX9_badPages_32 (by decide) ?_
          exact ih4 x_9 v_8 _ (by omega) (by omega) (by omega) (by omega) (by omega) (lv_sub hl [0, 1, 2] rfl)
  exact loop4 (((st 1).toInt - 0 : Int).toNat + 1) (0 : Int32) (0 : Int32) _ (by omega) (by omega) (by omega) (by omega) (by omega) (lv_sub hl [0, 1, 2] rfl)

set_option maxHeartbeats 4000000 in
set_option maxRecDepth 100000 in
theorem v_X9_freePages (l : Launch) (dC : Nat → ClassId) (dI : Nat → Nat → Nat) (o : Nat) (c : Nat → Nat) (kc : Nat → ClassId) (st : Nat → Int32) (lg : Nat → Int64) (ai : Nat → Nat → Int32) (al : Nat → Nat → Int64)  (hf1a : 1 ≤ (st 1).toInt) (hf1b : (st 1).toInt ≤ 65536) : Met l yX9_freePages wsX9_freePages ({ frames := 5, cells := 0, slots := 0, locals := 114 }) (va_Pc [.ref o] (fun U => va_P (dC, dI) vwCl (rw_W o c kc st lg ai al) U.heap ∧ va_K (dC, dI) vwCl (rw_T kc) U)) (vp_Si (fun r => (0 ≤ r.toInt) ∧ (r.toInt ≤ (st 1).toInt))) 0 0 (fun _ => False) := by
  refine Met.ofW (cc := cX9_freePages) (maxL := 3) (ret := (some .int)) (by decide) rfl ?_
  intro p e s m args below meth cM s₁ B hml hv
  obtain ⟨rfl, hP, hK⟩ := hv
  have hx := B.exec
  have hb := B.bytes
  have hr := B.returns
  have hts := atoms_spec (ws := wsX9_freePages) B.pre
  have hown : s.vm.findClass RX9 = some m.cls := findClass_of_methodNamed B.named
  have hl := lv_entry ([.ref o]) (n := 3) (Nat.le_of_ble_eq_true rfl)
  rw [lg_entry_eq]
  generalize (lg_sl ([.ref o]) ++ List.replicate (3 - (lg_sl ([.ref o])).length) Slot.unset).toArray = ls at hl ⊢
  have hl : lv_has ls 3 [(0, .ref o)] := hl
  have z_0 : (0 : Int32).toInt = 0 := by decide
  have z_1 : (1 : Int32).toInt = 1 := by decide
  have hin9 : ∀ w ∈ u_ws RX9 TX9 38, w ∈ wsX9_freePages := by decide +kernel
  refine lv_iconst (v := 0) hx hb dX9_freePages_0 (by decide) ?_
  refine lv_istore_n (lv' := [(1, .int (0 : Int32)), (0, .ref o)]) hx hb dX9_freePages_1 rfl hl (by decide) rfl (fun ls hl => ?_)
  refine lv_iconst (v := 0) hx hb dX9_freePages_2 (by decide) ?_
  refine lv_istore_n (lv' := [(2, .int (0 : Int32)), (1, .int (0 : Int32)), (0, .ref o)]) hx hb dX9_freePages_3 rfl hl (by decide) rfl (fun ls hl => ?_)
  have loop4 : ∀ (n : Nat) (l2_4 : Int32) (l1_4 : Int32) (ls : Array Slot), (0 ≤ l2_4.toInt) → (l2_4.toInt ≤ (st 1).toInt) → (0 ≤ l1_4.toInt) → (l1_4.toInt ≤ l2_4.toInt) → ((st 1).toInt - l2_4.toInt : Int).toNat < n → lv_has ls 3 [(2, .int l2_4), (1, .int l1_4), (0, .ref o)] → W p l e (headSpec wsX9_freePages ({ frames := 5, cells := 0, slots := 0, locals := 114 })).room s m ([.ref o] : List Value).toArray below meth cM s.heap [] 0 0 (MQ below (vp_Si (fun r => (0 ≤ r.toInt) ∧ (r.toInt ≤ (st 1).toInt))) ([.ref o] : List Value).toArray s 0 0 (fun _ => False)) (F0 m 4 ls []) := by
    intro n
    induction n with
    | zero => intro l2_4 l1_4 ls if0_4 if1_4 if2_4 if3_4 hm; exact absurd hm (Nat.not_lt_zero _)
    | succ n ih4 =>
      intro l2_4 l1_4 ls if0_4 if1_4 if2_4 if3_4 hm4 hl
      refine lv_iload_n hx hb dX9_freePages_4 rfl (lv_at hl 0 rfl) ?_
      refine lv_aload_n hx hb dX9_freePages_5 rfl (lv_at hl 2 rfl) ?_
      refine va_get (D := (dC, dI)) (ci := 11) (v := .int (st 1)) (C := RX9) (T := TX9) (N := 38) hx hb hts hin9 hown hK hP 0 rfl rfl 1 (by decide) (hts (.fieldLink RX9 62 "BlockLogModel" "pages" "I") (by decide +kernel)) (fun _ h9 => h9) rfl dX9_freePages_6 ?_
      refine lv_icmp_ge (tgt := 34) hx hb dX9_freePages_9 (by decide) (fun c_1 => ?_) (fun c_1 => ?_)
      · skip
        have ic_1 := iv_le c_1
        refine lv_iload_n hx hb dX9_freePages_34 rfl (lv_at hl 1 rfl) ?_
        exact W.iret hx hb hr (fun t ht hW => ⟨_, rfl, ⟨(by omega), (by omega)⟩, ht⟩) (fun q h => by cases h) dX9_freePages_35
      · skip
        have ic_1 := iv_nle c_1
        refine lv_iload_n hx hb dX9_freePages_12 rfl (lv_at hl 1 rfl) ?_
        refine lv_aload_n hx hb dX9_freePages_13 rfl (lv_at hl 2 rfl) ?_
        refine lv_iload_n hx hb dX9_freePages_14 rfl (lv_at hl 0 rfl) ?_
        refine vp_callSi (va_Run.run (va_runV (As := [.int l2_4]) (rest := [.int l1_4]) ⟨hx, hb, hml, hown, hts⟩ (v_X9_pageState l dC dI o c kc st lg ai al l2_4 (by omega) (by omega)) (cwV 1 hts gX9_freePages_X9_pageState rfl rfl rfl (by decide +kernel) ⟨Nat.le_of_ble_eq_true rfl, Nat.le_of_ble_eq_true rfl⟩) ⟨fun a U g mk q => by obtain ⟨q0, qP, qK⟩ := q; exact ⟨q0, qP, va_K.moved (u := U) (U := U.calling g mk a) (Vm.Alike.refl U.vm) qK⟩, va_recv hK hP (ci := 11) (q := (RX9, TX9, 38)) rfl (q0 := 0) rfl, fun U hU hW => ⟨rfl, by rw [hU]; exact hP, va_K.moved hW.alike hK⟩⟩ rfl rfl hl.1 rfl (lv_room (Nat.le_of_ble_eq_true rfl)) dX9_freePages_15 ⟨Nat.le_of_ble_eq_true rfl, Nat.le_of_ble_eq_true rfl⟩)) (fun r_2 er_2 => ?_)
        obtain ⟨k_3, k_4, hrt⟩ := er_2
        have hrt : (r_2.toInt = 1 → rtQ (ai 0) l2_4) ∧ (r_2.toInt ≠ 1 → ¬ rtQ (ai 0) l2_4) := hrt
        refine lv_if_ne (tgt := 25) hx hb dX9_freePages_18 (by decide) (fun c_5 => ?_) (fun c_5 => ?_)
        · skip
          have ic_5 := iv_ne c_5
          refine lv_iconst (v := 0) hx hb dX9_freePages_25 (by decide) ?_
          refine lv_iadd hx hb dX9_freePages_26 ?_
          refine lv_topi (fun v_6 ev_6 => ?_)
          have rg1 := iv_rng l1_4
          have hv_6 : v_6.toInt = l1_4.toInt + 0 := by rw [ev_6]; exact (iv_add (by omega) (by omega)).trans (by omega)
          clear ev_6
          refine lv_istore_n (lv' := [(1, .int v_6), (2, .int l2_4), (0, .ref o)]) hx hb dX9_freePages_27 rfl hl (by decide) rfl (fun ls hl => ?_)
          obtain ⟨x_7, ex_7⟩ : ∃ z : Int32, z = l2_4 + (1) := ⟨_, rfl⟩
          refine lv_iinc (v := x_7) (lv' := [(2, .int x_7), (1, .int v_6), (0, .ref o)]) hx hb dX9_freePages_28 hl (k := 1) rfl (by rw [ex_7]; rfl) (by decide) rfl (fun ls hl => ?_)
          have rg2 := iv_rng l2_4
          have hx_7 : x_7.toInt = l2_4.toInt + (1) := by rw [ex_7]; exact (iv_add (by omega) (by omega)).trans (by omega)
          clear ex_7
          refine lv_goto (tgt := 4) hx hb dX9_freePages_31 (by decide) ?_
          exact ih4 x_7 v_6 _ (by omega) (by omega) (by omega) (by omega) (by omega) (lv_sub hl [0, 1, 2] rfl)
        · skip
          have ic_5 := iv_eq c_5
          refine lv_iconst (v := 1) hx hb dX9_freePages_21 (by decide) ?_
          refine lv_goto (tgt := 26) hx hb dX9_freePages_22 (by decide) ?_
          refine lv_iadd hx hb dX9_freePages_26 ?_
          refine lv_topi (fun v_8 ev_8 => ?_)
          have rg3 := iv_rng l1_4
          have hv_8 : v_8.toInt = l1_4.toInt + 1 := by rw [ev_8]; exact (iv_add (by omega) (by omega)).trans (by omega)
          clear ev_8
          refine lv_istore_n (lv' := [(1, .int v_8), (2, .int l2_4), (0, .ref o)]) hx hb dX9_freePages_27 rfl hl (by decide) rfl (fun ls hl => ?_)
          obtain ⟨x_9, ex_9⟩ : ∃ z : Int32, z = l2_4 + (1) := ⟨_, rfl⟩
          refine lv_iinc (v := x_9) (lv' := [(2, .int x_9), (1, .int v_8), (0, .ref o)]) hx hb dX9_freePages_28 hl (k := 1) rfl (by rw [ex_9]; rfl) (by decide) rfl (fun ls hl => ?_)
          have rg4 := iv_rng l2_4
          have hx_9 : x_9.toInt = l2_4.toInt + (1) := by rw [ex_9]; exact (iv_add (by omega) (by omega)).trans (by omega)
          clear ex_9
          refine lv_goto (tgt := 4) hx hb dX9_freePages_31 (by decide) ?_
          exact ih4 x_9 v_8 _ (by omega) (by omega) (by omega) (by omega) (by omega) (lv_sub hl [0, 1, 2] rfl)
  exact loop4 (((st 1).toInt - 0 : Int).toNat + 1) (0 : Int32) (0 : Int32) _ (by omega) (by omega) (by omega) (by omega) (by omega) (lv_sub hl [0, 1, 2] rfl)

set_option maxHeartbeats 4000000 in
set_option maxRecDepth 100000 in
theorem v_X9_asked (l : Launch) (dC : Nat → ClassId) (dI : Nat → Nat → Nat) (o : Nat) (c : Nat → Nat) (kc : Nat → ClassId) (st : Nat → Int32) (lg : Nat → Int64) (ai : Nat → Nat → Int32) (al : Nat → Nat → Int64) (p0 : Int32) (sz : Nat) (hf1a : 1 ≤ (st 1).toInt) (hf1b : (st 1).toInt ≤ 65536) (hf3a : 0 ≤ (st 3).toInt) (hf3b : (st 3).toInt ≤ 1) (hf7a : 0 ≤ (st 7).toInt) (hf7b : (st 7).toInt ≤ 1) (hf15a : 0 ≤ (st 15).toInt) (hf15b : (st 15).toInt ≤ 128) : Met l yX9_asked wsX9_asked ({ frames := 5, cells := 0, slots := 0, locals := 114 }) (va_Pc [.ref o, .int p0] (fun U => U.heap.size = sz ∧ va_P (dC, dI) vwCl (rw_W o c kc st lg ai al) U.heap ∧ va_K (dC, dI) vwCl (rw_T kc) U ∧ va_D (fun _ => True) (rw_W o c kc st lg ai al))) (va_Qi (fun r (u : Int32) => r = u) (fun u t => ∃ (x13 : Int32), va_P (dC, dI) vwCl (rw_W o c kc (rU st 13 x13) lg ai al) t.heap) (va_A (rw_W o c kc st lg ai al) sz)) 0 0 (va_A (rw_W o c kc st lg ai al) sz) := by
  refine Met.ofW (cc := cX9_asked) (maxL := 5) (ret := (some .int)) (by decide) rfl ?_
  intro p e s m args below meth cM s₁ B hml hv
  obtain ⟨rfl, hsz, hP, hK, hD0⟩ := hv
  have hx := B.exec
  have hb := B.bytes
  have hr := B.returns
  have hts := atoms_spec (ws := wsX9_asked) B.pre
  have hown : s.vm.findClass RX9 = some m.cls := findClass_of_methodNamed B.named
  subst hsz
  have hD := hD0.self (sz := s.heap.size)
  generalize hAe : va_A (rw_W o c kc st lg ai al) s.heap.size = A at hD ⊢
  have hA : ∀ q : Nat, s.heap.size ≤ q → A q := fun q h => by rw [← hAe]; exact Or.inr h
  have hS : va_S A s.heap s.heap [] := va_S.rf
  clear hAe hD0
  have hl := lv_entry ([.ref o, .int p0]) (n := 5) (Nat.le_of_ble_eq_true rfl)
  rw [lg_entry_eq]
  generalize (lg_sl ([.ref o, .int p0]) ++ List.replicate (5 - (lg_sl ([.ref o, .int p0])).length) Slot.unset).toArray = ls at hl ⊢
  have hl : lv_has ls 5 [(0, .ref o), (1, .int p0)] := hl
  have z_m1 : (-1 : Int32).toInt = -1 := by decide
  have z_0 : (0 : Int32).toInt = 0 := by decide
  have z_1 : (1 : Int32).toInt = 1 := by decide
  have z_3 : (3 : Int32).toInt = 3 := by decide
  have z_128 : (128 : Int32).toInt = 128 := by decide
  have hin9 : ∀ w ∈ u_ws RX9 TX9 38, w ∈ wsX9_asked := by decide +kernel
  have main : ∀ (H : Heap) (locs : List Loc), va_P (dC, dI) vwCl (rw_W o c kc st lg ai al) H → va_S A s.heap H locs → W p l e (headSpec wsX9_asked ({ frames := 5, cells := 0, slots := 0, locals := 114 })).room s m ([.ref o, .int p0] : List Value).toArray below meth cM H locs 0 0 (MQ below (va_Qi (fun r (u : Int32) => r = u) (fun u t => ∃ (x13 : Int32), va_P (dC, dI) vwCl (rw_W o c kc (rU st 13 x13) lg ai al) t.heap) A) ([.ref o, .int p0] : List Value).toArray s 0 0 A) (F0 m 0 ls []) := by
    intro H locs hP hS
    refine lv_aload_n hx hb dX9_asked_0 rfl (lv_at hl 0 rfl) ?_
    refine lv_aload_n hx hb dX9_asked_1 rfl (lv_at hl 0 rfl) ?_
    refine va_get (D := (dC, dI)) (ci := 11) (v := .int (st 3)) (C := RX9) (T := TX9) (N := 38) hx hb hts hin9 hown hK hP 0 rfl rfl 3 (by decide) (hts (.fieldLink RX9 72 "BlockLogModel" "on" "Z") (by decide +kernel)) (fun _ h9 => h9) rfl dX9_asked_2 ?_
    refine lv_if_eq (tgt := 12) hx hb dX9_asked_5 (by decide) (fun c_1 => ?_) (fun c_1 => ?_)
    · skip
      have ic_1 := iv_eq c_1
      refine lv_iconst (v := 1) hx hb dX9_asked_12 (by decide) ?_
      refine va_put (D := (dC, dI)) (ci := 11) (v := .int (1 : Int32)) (ty := .int) (C := RX9) (T := TX9) (N := 38) hx hb hts hin9 tyX9 tyX9_ok nmX9 hown hK hP (rw_D hD) hS 0 rfl rfl 13 (by decide) (hts (.fieldLink RX9 91 "BlockLogModel" "thrown" "I") (by decide +kernel)) (fun _ h9 => h9) rfl (by decide +kernel) rfl rfl (Nat.le_of_ble_eq_true rfl) dX9_asked_13 (fun H locs hP _ hS => ?_)
      have hP : va_P (dC, dI) vwCl (rw_W o c kc (rU st 13 (1 : Int32)) lg ai al) H := hP
      refine lv_aload_n hx hb dX9_asked_16 rfl (lv_at hl 0 rfl) ?_
      refine va_get (D := (dC, dI)) (ci := 11) (v := .int (st 3)) (C := RX9) (T := TX9) (N := 38) hx hb hts hin9 hown hK hP 0 rfl rfl 3 (by decide) (hts (.fieldLink RX9 72 "BlockLogModel" "on" "Z") (by decide +kernel)) (fun _ h9 => h9) rfl dX9_asked_17 ?_
      refine lv_if_eq (tgt := 27) hx hb dX9_asked_20 (by decide) (fun c_2 => ?_) (fun c_2 => ?_)
      · skip
        have ic_2 := iv_eq c_2
        refine lv_iconst (v := (-1)) hx hb dX9_asked_27 (by decide) ?_
        exact W.iret hx hb hr (fun t ht hW => ⟨⟨_, _, rfl, rfl, (1 : Int32), by rw [ht]; exact hP⟩, hS.F ht⟩) hS.2.2 dX9_asked_28
      · skip
        have ic_2 := iv_ne c_2
        exfalso
        omega
    · skip
      have ic_1 := iv_ne c_1
      refine lv_iconst (v := 0) hx hb dX9_asked_8 (by decide) ?_
      refine lv_goto (tgt := 13) hx hb dX9_asked_9 (by decide) ?_
      refine va_put (D := (dC, dI)) (ci := 11) (v := .int (0 : Int32)) (ty := .int) (C := RX9) (T := TX9) (N := 38) hx hb hts hin9 tyX9 tyX9_ok nmX9 hown hK hP (rw_D hD) hS 0 rfl rfl 13 (by decide) (hts (.fieldLink RX9 91 "BlockLogModel" "thrown" "I") (by decide +kernel)) (fun _ h9 => h9) rfl (by decide +kernel) rfl rfl (Nat.le_of_ble_eq_true rfl) dX9_asked_13 (fun H locs hP _ hS => ?_)
      have hP : va_P (dC, dI) vwCl (rw_W o c kc (rU st 13 (0 : Int32)) lg ai al) H := hP
      refine lv_aload_n hx hb dX9_asked_16 rfl (lv_at hl 0 rfl) ?_
      refine va_get (D := (dC, dI)) (ci := 11) (v := .int (st 3)) (C := RX9) (T := TX9) (N := 38) hx hb hts hin9 hown hK hP 0 rfl rfl 3 (by decide) (hts (.fieldLink RX9 72 "BlockLogModel" "on" "Z") (by decide +kernel)) (fun _ h9 => h9) rfl dX9_asked_17 ?_
      refine lv_if_eq (tgt := 27) hx hb dX9_asked_20 (by decide) (fun c_3 => ?_) (fun c_3 => ?_)
      · skip
        have ic_3 := iv_eq c_3
        exfalso
        omega
      · skip
        have ic_3 := iv_ne c_3
        refine lv_iload_n hx hb dX9_asked_23 rfl (lv_at hl 1 rfl) ?_
        refine lv_if_ge (tgt := 29) hx hb dX9_asked_24 (by decide) (fun c_4 => ?_) (fun c_4 => ?_)
        · skip
          have ic_4 := iv_le c_4
          refine lv_iload_n hx hb dX9_asked_29 rfl (lv_at hl 1 rfl) ?_
          refine lv_istore_n (lv' := [(2, .int p0), (0, .ref o), (1, .int p0)]) hx hb dX9_asked_30 rfl hl (by decide) rfl (fun ls hl => ?_)
          refine lv_aload_n hx hb dX9_asked_31 rfl (lv_at hl 1 rfl) ?_
          refine vp_callSi (va_Run.run (va_runV (As := []) (rest := []) ⟨hx, hb, hml, hown, hts⟩ (v_X9_rows l dC dI o c kc (rU st 13 (0 : Int32)) lg ai al  (show 0 ≤ (st 15).toInt by omega) (show (st 15).toInt ≤ 128 by omega)) (cwV 0 hts gX9_asked_X9_rows rfl rfl rfl (by decide +kernel) ⟨Nat.le_of_ble_eq_true rfl, Nat.le_of_ble_eq_true rfl⟩) ⟨fun a U g mk q => by obtain ⟨q0, qP, qK⟩ := q; exact ⟨q0, qP, va_K.moved (u := U) (U := U.calling g mk a) (Vm.Alike.refl U.vm) qK⟩, va_recv hK hP (ci := 11) (q := (RX9, TX9, 38)) rfl (q0 := 0) rfl, fun U hU hW => ⟨rfl, by rw [hU]; exact hP, va_K.moved hW.alike hK⟩⟩ rfl rfl hl.1 rfl (lv_room (Nat.le_of_ble_eq_true rfl)) dX9_asked_32 ⟨Nat.le_of_ble_eq_true rfl, Nat.le_of_ble_eq_true rfl⟩)) (fun r_5 er_5 => ?_)
          have k_6 := er_5
          have k_6 : r_5.toInt = (st 15).toInt := k_6
          refine lv_istore_n (lv' := [(3, .int r_5), (2, .int p0), (0, .ref o), (1, .int p0)]) hx hb dX9_asked_35 rfl hl (by decide) rfl (fun ls hl => ?_)
          refine lv_iconst (v := 0) hx hb dX9_asked_36 (by decide) ?_
          refine lv_istore (lv' := [(4, .int (0 : Int32)), (3, .int r_5), (2, .int p0), (0, .ref o), (1, .int p0)]) hx hb dX9_asked_37 hl (by decide) rfl (fun ls hl => ?_)
          have loop39 : ∀ (n : Nat) (l4_39 : Int32) (l2_39 : Int32) (H : Heap) (locs : List Loc) (ls : Array Slot), (0 ≤ l4_39.toInt) → (l4_39.toInt ≤ r_5.toInt) → (0 ≤ l2_39.toInt) → (r_5.toInt ≤ 128) → (0 ≤ r_5.toInt) → (r_5.toInt - l4_39.toInt : Int).toNat < n → va_P (dC, dI) vwCl (rw_W o c kc (rU st 13 (0 : Int32)) lg ai al) H → va_S A s.heap H locs → lv_has ls 5 [(4, .int l4_39), (3, .int r_5), (2, .int l2_39), (0, .ref o), (1, .int p0)] → W p l e (headSpec wsX9_asked ({ frames := 5, cells := 0, slots := 0, locals := 114 })).room s m ([.ref o, .int p0] : List Value).toArray below meth cM H locs 0 0 (MQ below (va_Qi (fun r (u : Int32) => r = u) (fun u t => ∃ (x13 : Int32), va_P (dC, dI) vwCl (rw_W o c kc (rU st 13 x13) lg ai al) t.heap) A) ([.ref o, .int p0] : List Value).toArray s 0 0 A) (F0 m 39 ls []) := by
            intro n
            induction n with
            | zero => intro l4_39 l2_39 H locs ls if0_39 if1_39 if2_39 if3_39 if4_39 hm; exact absurd hm (Nat.not_lt_zero _)
            | succ n ih39 =>
              intro l4_39 l2_39 H locs ls if0_39 if1_39 if2_39 if3_39 if4_39 hm39 hP hS hl
              refine lv_iload hx hb dX9_asked_39 (lv_at hl 0 rfl) ?_
              refine lv_iload_n hx hb dX9_asked_41 rfl (lv_at hl 1 rfl) ?_
              refine lv_icmp_ge (tgt := 71) hx hb dX9_asked_42 (by decide) (fun c_7 => ?_) (fun c_7 => ?_)
              · skip
                have ic_7 := iv_le c_7
                refine lv_iconst (v := 0) hx hb dX9_asked_71 (by decide) ?_
                refine lv_istore (lv' := [(4, .int (0 : Int32)), (3, .int r_5), (2, .int l2_39), (0, .ref o), (1, .int p0)]) hx hb dX9_asked_72 hl (by decide) rfl (fun ls hl => ?_)
                have loop74 : ∀ (n : Nat) (l4_74 : Int32) (l2_74 : Int32) (H : Heap) (locs : List Loc) (ls : Array Slot), (0 ≤ l4_74.toInt) → (l4_74.toInt ≤ (st 1).toInt) → (0 ≤ l2_74.toInt) → ((st 1).toInt - l4_74.toInt : Int).toNat < n → va_P (dC, dI) vwCl (rw_W o c kc (rU st 13 (0 : Int32)) lg ai al) H → va_S A s.heap H locs → lv_has ls 5 [(4, .int l4_74), (3, .int r_5), (2, .int l2_74), (0, .ref o), (1, .int p0)] → W p l e (headSpec wsX9_asked ({ frames := 5, cells := 0, slots := 0, locals := 114 })).room s m ([.ref o, .int p0] : List Value).toArray below meth cM H locs 0 0 (MQ below (va_Qi (fun r (u : Int32) => r = u) (fun u t => ∃ (x13 : Int32), va_P (dC, dI) vwCl (rw_W o c kc (rU st 13 x13) lg ai al) t.heap) A) ([.ref o, .int p0] : List Value).toArray s 0 0 A) (F0 m 74 ls []) := by
                  intro n
                  induction n with
                  | zero => intro l4_74 l2_74 H locs ls if0_74 if1_74 if2_74 hm; exact absurd hm (Nat.not_lt_zero _)
                  | succ n ih74 =>
                    intro l4_74 l2_74 H locs ls if0_74 if1_74 if2_74 hm74 hP hS hl
                    refine lv_iload hx hb dX9_asked_74 (lv_at hl 0 rfl) ?_
                    refine lv_aload_n hx hb dX9_asked_76 rfl (lv_at hl 3 rfl) ?_
                    refine va_get (D := (dC, dI)) (ci := 11) (v := .int (st 1)) (C := RX9) (T := TX9) (N := 38) hx hb hts hin9 hown hK hP 0 rfl rfl 1 (by decide) (hts (.fieldLink RX9 62 "BlockLogModel" "pages" "I") (by decide +kernel)) (fun _ h9 => h9) rfl dX9_asked_77 ?_
                    refine lv_icmp_ge (tgt := 113) hx hb dX9_asked_80 (by decide) (fun c_8 => ?_) (fun c_8 => ?_)
                    · skip
                      have ic_8 := iv_le c_8
                      refine lv_iconst (v := (-1)) hx hb dX9_asked_113 (by decide) ?_
                      exact W.iret hx hb hr (fun t ht hW => ⟨⟨_, _, rfl, rfl, (0 : Int32), by rw [ht]; exact hP⟩, hS.F ht⟩) hS.2.2 dX9_asked_114
                    · skip
                      have ic_8 := iv_nle c_8
                      refine lv_aload_n hx hb dX9_asked_83 rfl (lv_at hl 3 rfl) ?_
                      refine lv_iload hx hb dX9_asked_84 (lv_at hl 0 rfl) ?_
                      refine vp_callSi (va_Run.run (va_runV (As := [.int l4_74]) (rest := []) ⟨hx, hb, hml, hown, hts⟩ (v_X9_pageState l dC dI o c kc (rU st 13 (0 : Int32)) lg ai al l4_74 (by omega) (by omega)) (cwV 1 hts gX9_asked_X9_pageState rfl rfl rfl (by decide +kernel) ⟨Nat.le_of_ble_eq_true rfl, Nat.le_of_ble_eq_true rfl⟩) ⟨fun a U g mk q => by obtain ⟨q0, qP, qK⟩ := q; exact ⟨q0, qP, va_K.moved (u := U) (U := U.calling g mk a) (Vm.Alike.refl U.vm) qK⟩, va_recv hK hP (ci := 11) (q := (RX9, TX9, 38)) rfl (q0 := 0) rfl, fun U hU hW => ⟨rfl, by rw [hU]; exact hP, va_K.moved hW.alike hK⟩⟩ rfl rfl hl.1 rfl (lv_room (Nat.le_of_ble_eq_true rfl)) dX9_asked_86 ⟨Nat.le_of_ble_eq_true rfl, Nat.le_of_ble_eq_true rfl⟩)) (fun r_9 er_9 => ?_)
                      obtain ⟨k_10, k_11, hrt⟩ := er_9
                      have hrt : (r_9.toInt = 1 → rtQ (ai 0) l4_74) ∧ (r_9.toInt ≠ 1 → ¬ rtQ (ai 0) l4_74) := hrt
                      refine lv_iconst (v := 3) hx hb dX9_asked_89 (by decide) ?_
                      refine lv_icmp_ne (tgt := 107) hx hb dX9_asked_90 (by decide) (fun c_12 => ?_) (fun c_12 => ?_)
                      · skip
                        have ic_12 := iv_ne c_12
                        obtain ⟨x_13, ex_13⟩ : ∃ z : Int32, z = l4_74 + (1) := ⟨_, rfl⟩
                        refine lv_iinc (v := x_13) (lv' := [(4, .int x_13), (3, .int r_5), (2, .int l2_74), (0, .ref o), (1, .int p0)]) hx hb dX9_asked_107 hl (k := 0) rfl (by rw [ex_13]; rfl) (by decide) rfl (fun ls hl => ?_)
                        have rg1 := iv_rng l4_74
                        have hx_13 : x_13.toInt = l4_74.toInt + (1) := by rw [ex_13]; exact (iv_add (by omega) (by omega)).trans (by omega)
                        clear ex_13
                        refine lv_goto (tgt := 74) hx hb dX9_asked_110 (by decide) ?_
                        exact ih74 x_13 l2_74 _ _ _ (by omega) (by omega) (by omega) (by omega) hP hS (lv_sub hl [0, 1, 2, 3, 4] rfl)
                      · skip
                        have ic_12 := iv_eq c_12
                        refine lv_iload_n hx hb dX9_asked_93 rfl (lv_at hl 2 rfl) ?_
                        refine lv_if_ne (tgt := 104) hx hb dX9_asked_94 (by decide) (fun c_14 => ?_) (fun c_14 => ?_)
                        · skip
                          have ic_14 := iv_ne c_14
                          obtain ⟨x_15, ex_15⟩ : ∃ z : Int32, z = l2_74 + (-1) := ⟨_, rfl⟩
                          refine lv_iinc (v := x_15) (lv' := [(2, .int x_15), (4, .int l4_74), (3, .int r_5), (0, .ref o), (1, .int p0)]) hx hb dX9_asked_104 hl (k := 2) rfl (by rw [ex_15]; rfl) (by decide) rfl (fun ls hl => ?_)
                          have rg2 := iv_rng l2_74
                          have hx_15 : x_15.toInt = l2_74.toInt + (-1) := by rw [ex_15]; exact (iv_add (by omega) (by omega)).trans (by omega)
                          clear ex_15
                          obtain ⟨x_16, ex_16⟩ : ∃ z : Int32, z = l4_74 + (1) := ⟨_, rfl⟩
                          refine lv_iinc (v := x_16) (lv' := [(4, .int x_16), (2, .int x_15), (3, .int r_5), (0, .ref o), (1, .int p0)]) hx hb dX9_asked_107 hl (k := 1) rfl (by rw [ex_16]; rfl) (by decide) rfl (fun ls hl => ?_)
                          have rg3 := iv_rng l4_74
                          have hx_16 : x_16.toInt = l4_74.toInt + (1) := by rw [ex_16]; exact (iv_add (by omega) (by omega)).trans (by omega)
                          clear ex_16
                          refine lv_goto (tgt := 74) hx hb dX9_asked_110 (by decide) ?_
                          exact ih74 x_16 x_15 _ _ _ (by omega) (by omega) (by omega) (by omega) hP hS (lv_sub hl [0, 2, 1, 3, 4] rfl)
                        · skip
                          have ic_14 := iv_eq c_14
                          refine lv_sipush (v := 128) hx hb dX9_asked_97 (by decide) ?_
                          refine lv_iload hx hb dX9_asked_100 (lv_at hl 0 rfl) ?_
                          refine lv_iadd hx hb dX9_asked_102 ?_
                          refine lv_topi (fun v_17 ev_17 => ?_)
                          have rg4 := iv_rng l4_74
                          have hv_17 : v_17.toInt = 128 + l4_74.toInt := by rw [ev_17]; exact (iv_add (by omega) (by omega)).trans (by omega)
                          clear ev_17
                          exact W.iret hx hb hr (fun t ht hW => ⟨⟨_, _, rfl, rfl, (0 : Int32), by rw [ht]; exact hP⟩, hS.F ht⟩) hS.2.2 dX9_asked_103
                exact loop74 (((st 1).toInt - 0 : Int).toNat + 1) (0 : Int32) l2_39 _ _ _ (by omega) (by omega) (by omega) (by omega) hP hS (lv_sub hl [0, 1, 2, 3, 4] rfl)
              · skip
                have ic_7 := iv_nle c_7
                refine lv_aload_n hx hb dX9_asked_45 rfl (lv_at hl 3 rfl) ?_
                refine lv_iload hx hb dX9_asked_46 (lv_at hl 0 rfl) ?_
                refine vp_callSi (va_Run.run (va_runV (As := [.int l4_39]) (rest := []) ⟨hx, hb, hml, hown, hts⟩ (v_X9_rowState l dC dI o c kc (rU st 13 (0 : Int32)) lg ai al l4_39 (show 0 ≤ (st 7).toInt by omega) (show (st 7).toInt ≤ 1 by omega) (by omega) (by omega)) (cwV 1 hts gX9_asked_X9_rowState rfl rfl rfl (by decide +kernel) ⟨Nat.le_of_ble_eq_true rfl, Nat.le_of_ble_eq_true rfl⟩) ⟨fun a U g mk q => by obtain ⟨q0, qP, qK⟩ := q; exact ⟨q0, qP, va_K.moved (u := U) (U := U.calling g mk a) (Vm.Alike.refl U.vm) qK⟩, va_recv hK hP (ci := 11) (q := (RX9, TX9, 38)) rfl (q0 := 0) rfl, fun U hU hW => ⟨rfl, by rw [hU]; exact hP, va_K.moved hW.alike hK⟩⟩ rfl rfl hl.1 rfl (lv_room (Nat.le_of_ble_eq_true rfl)) dX9_asked_48 ⟨Nat.le_of_ble_eq_true rfl, Nat.le_of_ble_eq_true rfl⟩)) (fun r_18 er_18 => ?_)
                obtain ⟨k_19, k_20⟩ := er_18
                refine lv_iconst (v := 3) hx hb dX9_asked_51 (by decide) ?_
                refine lv_icmp_ne (tgt := 65) hx hb dX9_asked_52 (by decide) (fun c_21 => ?_) (fun c_21 => ?_)
                · skip
                  have ic_21 := iv_ne c_21
                  obtain ⟨x_22, ex_22⟩ : ∃ z : Int32, z = l4_39 + (1) := ⟨_, rfl⟩
                  refine lv_iinc (v := x_22) (lv' := [(4, .int x_22), (3, .int r_5), (2, .int l2_39), (0, .ref o), (1, .int p0)]) hx hb dX9_asked_65 hl (k := 0) rfl (by rw [ex_22]; rfl) (by decide) rfl (fun ls hl => ?_)
                  have rg5 := iv_rng l4_39
                  have hx_22 : x_22.toInt = l4_39.toInt + (1) := by rw [ex_22]; exact (iv_add (by omega) (by omega)).trans (by omega)
                  clear ex_22
                  refine lv_goto (tgt := 39) hx hb dX9_asked_68 (by decide) ?_
                  exact ih39 x_22 l2_39 _ _ _ (by omega) (by omega) (by omega) (by omega) (by omega) (by omega) hP hS (lv_sub hl [0, 1, 2, 3, 4] rfl)
                · skip
                  have ic_21 := iv_eq c_21
                  refine lv_iload_n hx hb dX9_asked_55 rfl (lv_at hl 2 rfl) ?_
                  refine lv_if_ne (tgt := 62) hx hb dX9_asked_56 (by decide) (fun c_23 => ?_) (fun c_23 => ?_)
                  · skip
                    have ic_23 := iv_ne c_23
                    obtain ⟨x_24, ex_24⟩ : ∃ z : Int32, z = l2_39 + (-1) := ⟨_, rfl⟩
                    refine lv_iinc (v := x_24) (lv' := [(2, .int x_24), (4, .int l4_39), (3, .int r_5), (0, .ref o), (1, .int p0)]) hx hb dX9_asked_62 hl (k := 2) rfl (by rw [ex_24]; rfl) (by decide) rfl (fun ls hl => ?_)
                    have rg6 := iv_rng l2_39
                    have hx_24 : x_24.toInt = l2_39.toInt + (-1) := by rw [ex_24]; exact (iv_add (by omega) (by omega)).trans (by omega)
                    clear ex_24
                    obtain ⟨x_25, ex_25⟩ : ∃ z : Int32, z = l4_39 + (1) := ⟨_, rfl⟩
                    refine lv_iinc (v := x_25) (lv' := [(4, .int x_25), (2, .int x_24), (3, .int r_5), (0, .ref o), (1, .int p0)]) hx hb dX9_asked_65 hl (k := 1) rfl (by rw [ex_25]; rfl) (by decide) rfl (fun ls hl => ?_)
                    have rg7 := iv_rng l4_39
                    have hx_25 : x_25.toInt = l4_39.toInt + (1) := by rw [ex_25]; exact (iv_add (by omega) (by omega)).trans (by omega)
                    clear ex_25
                    refine lv_goto (tgt := 39) hx hb dX9_asked_68 (by decide) ?_
                    exact ih39 x_25 x_24 _ _ _ (by omega) (by omega) (by omega) (by omega) (by omega) (by omega) hP hS (lv_sub hl [0, 2, 1, 3, 4] rfl)
                  · skip
                    have ic_23 := iv_eq c_23
                    refine lv_iload hx hb dX9_asked_59 (lv_at hl 0 rfl) ?_
                    exact W.iret hx hb hr (fun t ht hW => ⟨⟨_, _, rfl, rfl, (0 : Int32), by rw [ht]; exact hP⟩, hS.F ht⟩) hS.2.2 dX9_asked_61
          exact loop39 ((r_5.toInt - 0 : Int).toNat + 1) (0 : Int32) p0 _ _ _ (by omega) (by omega) (by omega) (by omega) (by omega) (by omega) hP hS (lv_sub hl [0, 1, 2, 3, 4] rfl)
        · skip
          have ic_4 := iv_nle c_4
          refine lv_iconst (v := (-1)) hx hb dX9_asked_27 (by decide) ?_
          exact W.iret hx hb hr (fun t ht hW => ⟨⟨_, _, rfl, rfl, (0 : Int32), by rw [ht]; exact hP⟩, hS.F ht⟩) hS.2.2 dX9_asked_28
  exact main s.heap [] hP hS

set_option maxHeartbeats 4000000 in
set_option maxRecDepth 100000 in
theorem v_X9_isAsked (l : Launch) (dC : Nat → ClassId) (dI : Nat → Nat → Nat) (o : Nat) (c : Nat → Nat) (kc : Nat → ClassId) (st : Nat → Int32) (lg : Nat → Int64) (ai : Nat → Nat → Int32) (al : Nat → Nat → Int64) (p0 : Int32) (hf1a : 1 ≤ (st 1).toInt) (hf1b : (st 1).toInt ≤ 65536) (hf7a : 0 ≤ (st 7).toInt) (hf7b : (st 7).toInt ≤ 1) (hf15a : 0 ≤ (st 15).toInt) (hf15b : (st 15).toInt ≤ 128) : Met l yX9_isAsked wsX9_isAsked ({ frames := 5, cells := 0, slots := 0, locals := 114 }) (va_Pc [.ref o, .int p0] (fun U => va_P (dC, dI) vwCl (rw_W o c kc st lg ai al) U.heap ∧ va_K (dC, dI) vwCl (rw_T kc) U)) (vp_Si (fun r => (r.toInt = 1 → 0 ≤ p0.toInt) ∧ (r.toInt = 1 → p0.toInt < 128 + (st 1).toInt) ∧ (0 ≤ r.toInt) ∧ (r.toInt ≤ 1))) 0 0 (fun _ => False) := by
  refine Met.ofW (cc := cX9_isAsked) (maxL := 2) (ret := (some .boolean)) (by decide) rfl ?_
  intro p e s m args below meth cM s₁ B hml hv
  obtain ⟨rfl, hP, hK⟩ := hv
  have hx := B.exec
  have hb := B.bytes
  have hr := B.returns
  have hts := atoms_spec (ws := wsX9_isAsked) B.pre
  have hown : s.vm.findClass RX9 = some m.cls := findClass_of_methodNamed B.named
  have hl := lv_entry ([.ref o, .int p0]) (n := 2) (Nat.le_of_ble_eq_true rfl)
  rw [lg_entry_eq]
  generalize (lg_sl ([.ref o, .int p0]) ++ List.replicate (2 - (lg_sl ([.ref o, .int p0])).length) Slot.unset).toArray = ls at hl ⊢
  have hl : lv_has ls 2 [(0, .ref o), (1, .int p0)] := hl
  have z_0 : (0 : Int32).toInt = 0 := by decide
  have z_1 : (1 : Int32).toInt = 1 := by decide
  have z_3 : (3 : Int32).toInt = 3 := by decide
  have z_128 : (128 : Int32).toInt = 128 := by decide
  have hin9 : ∀ w ∈ u_ws RX9 TX9 38, w ∈ wsX9_isAsked := by decide +kernel
  refine lv_iload_n hx hb dX9_isAsked_0 rfl (lv_at hl 1 rfl) ?_
  refine lv_if_lt (tgt := 16) hx hb dX9_isAsked_1 (by decide) (fun c_1 => ?_) (fun c_1 => ?_)
  · skip
    have ic_1 := iv_lt c_1
    refine lv_iconst (v := 0) hx hb dX9_isAsked_16 (by decide) ?_
    exact W.zret hx hb hr rfl (fun t ht hW => ⟨_, rfl, ⟨(by omega), (by omega), (by omega), (by omega)⟩, ht⟩) (fun q h => by cases h) dX9_isAsked_17
  · skip
    have ic_1 := iv_nlt c_1
    refine lv_iload_n hx hb dX9_isAsked_4 rfl (lv_at hl 1 rfl) ?_
    refine lv_sipush (v := 128) hx hb dX9_isAsked_5 (by decide) ?_
    refine lv_aload_n hx hb dX9_isAsked_8 rfl (lv_at hl 0 rfl) ?_
    refine va_get (D := (dC, dI)) (ci := 11) (v := .int (st 1)) (C := RX9) (T := TX9) (N := 38) hx hb hts hin9 hown hK hP 0 rfl rfl 1 (by decide) (hts (.fieldLink RX9 62 "BlockLogModel" "pages" "I") (by decide +kernel)) (fun _ h9 => h9) rfl dX9_isAsked_9 ?_
    refine lv_iadd hx hb dX9_isAsked_12 ?_
    refine lv_topi (fun v_2 ev_2 => ?_)
    have rg1 := iv_rng (st 1)
    have hv_2 : v_2.toInt = 128 + (st 1).toInt := by rw [ev_2]; exact (iv_add (by omega) (by omega)).trans (by omega)
    clear ev_2
    refine lv_icmp_lt (tgt := 18) hx hb dX9_isAsked_13 (by decide) (fun c_3 => ?_) (fun c_3 => ?_)
    · skip
      have ic_3 := iv_lt c_3
      refine lv_iload_n hx hb dX9_isAsked_18 rfl (lv_at hl 1 rfl) ?_
      refine lv_sipush (v := 128) hx hb dX9_isAsked_19 (by decide) ?_
      refine lv_icmp_ge (tgt := 50) hx hb dX9_isAsked_22 (by decide) (fun c_4 => ?_) (fun c_4 => ?_)
      · skip
        have ic_4 := iv_le c_4
        refine lv_aload_n hx hb dX9_isAsked_50 rfl (lv_at hl 0 rfl) ?_
        refine lv_iload_n hx hb dX9_isAsked_51 rfl (lv_at hl 1 rfl) ?_
        refine lv_sipush (v := 128) hx hb dX9_isAsked_52 (by decide) ?_
        refine lv_isub hx hb dX9_isAsked_55 ?_
        refine lv_topi (fun v_5 ev_5 => ?_)
        have rg2 := iv_rng p0
        have hv_5 : v_5.toInt = p0.toInt - 128 := by rw [ev_5]; exact (iv_sub (by omega) (by omega)).trans (by omega)
        clear ev_5
        refine vp_callSi (va_Run.run (va_runV (As := [.int v_5]) (rest := []) ⟨hx, hb, hml, hown, hts⟩ (v_X9_pageState l dC dI o c kc st lg ai al v_5 (by omega) (by omega)) (cwV 1 hts gX9_isAsked_X9_pageState rfl rfl rfl (by decide +kernel) ⟨Nat.le_of_ble_eq_true rfl, Nat.le_of_ble_eq_true rfl⟩) ⟨fun a U g mk q => by obtain ⟨q0, qP, qK⟩ := q; exact ⟨q0, qP, va_K.moved (u := U) (U := U.calling g mk a) (Vm.Alike.refl U.vm) qK⟩, va_recv hK hP (ci := 11) (q := (RX9, TX9, 38)) rfl (q0 := 0) rfl, fun U hU hW => ⟨rfl, by rw [hU]; exact hP, va_K.moved hW.alike hK⟩⟩ rfl rfl hl.1 rfl (lv_room (Nat.le_of_ble_eq_true rfl)) dX9_isAsked_56 ⟨Nat.le_of_ble_eq_true rfl, Nat.le_of_ble_eq_true rfl⟩)) (fun r_6 er_6 => ?_)
        obtain ⟨k_7, k_8, hrt⟩ := er_6
        have hrt : (r_6.toInt = 1 → rtQ (ai 0) v_5) ∧ (r_6.toInt ≠ 1 → ¬ rtQ (ai 0) v_5) := hrt
        refine lv_iconst (v := 3) hx hb dX9_isAsked_59 (by decide) ?_
        refine lv_icmp_ne (tgt := 67) hx hb dX9_isAsked_60 (by decide) (fun c_9 => ?_) (fun c_9 => ?_)
        · skip
          have ic_9 := iv_ne c_9
          refine lv_iconst (v := 0) hx hb dX9_isAsked_67 (by decide) ?_
          exact W.zret hx hb hr rfl (fun t ht hW => ⟨_, rfl, ⟨(by omega), (by omega), (by omega), (by omega)⟩, ht⟩) (fun q h => by cases h) dX9_isAsked_68
        · skip
          have ic_9 := iv_eq c_9
          refine lv_iconst (v := 1) hx hb dX9_isAsked_63 (by decide) ?_
          refine lv_goto (tgt := 68) hx hb dX9_isAsked_64 (by decide) ?_
          exact W.zret hx hb hr rfl (fun t ht hW => ⟨_, rfl, ⟨(by omega), (by omega), (by omega), (by omega)⟩, ht⟩) (fun q h => by cases h) dX9_isAsked_68
      · skip
        have ic_4 := iv_nle c_4
        refine lv_iload_n hx hb dX9_isAsked_25 rfl (lv_at hl 1 rfl) ?_
        refine lv_aload_n hx hb dX9_isAsked_26 rfl (lv_at hl 0 rfl) ?_
        refine vp_callSi (va_Run.run (va_runV (As := []) (rest := [.int p0]) ⟨hx, hb, hml, hown, hts⟩ (v_X9_rows l dC dI o c kc st lg ai al  (show 0 ≤ (st 15).toInt by omega) (show (st 15).toInt ≤ 128 by omega)) (cwV 0 hts gX9_isAsked_X9_rows rfl rfl rfl (by decide +kernel) ⟨Nat.le_of_ble_eq_true rfl, Nat.le_of_ble_eq_true rfl⟩) ⟨fun a U g mk q => by obtain ⟨q0, qP, qK⟩ := q; exact ⟨q0, qP, va_K.moved (u := U) (U := U.calling g mk a) (Vm.Alike.refl U.vm) qK⟩, va_recv hK hP (ci := 11) (q := (RX9, TX9, 38)) rfl (q0 := 0) rfl, fun U hU hW => ⟨rfl, by rw [hU]; exact hP, va_K.moved hW.alike hK⟩⟩ rfl rfl hl.1 rfl (lv_room (Nat.le_of_ble_eq_true rfl)) dX9_isAsked_27 ⟨Nat.le_of_ble_eq_true rfl, Nat.le_of_ble_eq_true rfl⟩)) (fun r_10 er_10 => ?_)
        have k_11 := er_10
        have k_11 : r_10.toInt = (st 15).toInt := k_11
        refine lv_icmp_ge (tgt := 46) hx hb dX9_isAsked_30 (by decide) (fun c_12 => ?_) (fun c_12 => ?_)
        · skip
          have ic_12 := iv_le c_12
          refine lv_iconst (v := 0) hx hb dX9_isAsked_46 (by decide) ?_
          refine lv_goto (tgt := 68) hx hb dX9_isAsked_47 (by decide) ?_
          exact W.zret hx hb hr rfl (fun t ht hW => ⟨_, rfl, ⟨(by omega), (by omega), (by omega), (by omega)⟩, ht⟩) (fun q h => by cases h) dX9_isAsked_68
        · skip
          have ic_12 := iv_nle c_12
          refine lv_aload_n hx hb dX9_isAsked_33 rfl (lv_at hl 0 rfl) ?_
          refine lv_iload_n hx hb dX9_isAsked_34 rfl (lv_at hl 1 rfl) ?_
          refine vp_callSi (va_Run.run (va_runV (As := [.int p0]) (rest := []) ⟨hx, hb, hml, hown, hts⟩ (v_X9_rowState l dC dI o c kc st lg ai al p0 (show 0 ≤ (st 7).toInt by omega) (show (st 7).toInt ≤ 1 by omega) (by omega) (by omega)) (cwV 1 hts gX9_isAsked_X9_rowState rfl rfl rfl (by decide +kernel) ⟨Nat.le_of_ble_eq_true rfl, Nat.le_of_ble_eq_true rfl⟩) ⟨fun a U g mk q => by obtain ⟨q0, qP, qK⟩ := q; exact ⟨q0, qP, va_K.moved (u := U) (U := U.calling g mk a) (Vm.Alike.refl U.vm) qK⟩, va_recv hK hP (ci := 11) (q := (RX9, TX9, 38)) rfl (q0 := 0) rfl, fun U hU hW => ⟨rfl, by rw [hU]; exact hP, va_K.moved hW.alike hK⟩⟩ rfl rfl hl.1 rfl (lv_room (Nat.le_of_ble_eq_true rfl)) dX9_isAsked_35 ⟨Nat.le_of_ble_eq_true rfl, Nat.le_of_ble_eq_true rfl⟩)) (fun r_13 er_13 => ?_)
          obtain ⟨k_14, k_15⟩ := er_13
          refine lv_iconst (v := 3) hx hb dX9_isAsked_38 (by decide) ?_
          refine lv_icmp_ne (tgt := 46) hx hb dX9_isAsked_39 (by decide) (fun c_16 => ?_) (fun c_16 => ?_)
          · skip
            have ic_16 := iv_ne c_16
            refine lv_iconst (v := 0) hx hb dX9_isAsked_46 (by decide) ?_
            refine lv_goto (tgt := 68) hx hb dX9_isAsked_47 (by decide) ?_
            exact W.zret hx hb hr rfl (fun t ht hW => ⟨_, rfl, ⟨(by omega), (by omega), (by omega), (by omega)⟩, ht⟩) (fun q h => by cases h) dX9_isAsked_68
          · skip
            have ic_16 := iv_eq c_16
            refine lv_iconst (v := 1) hx hb dX9_isAsked_42 (by decide) ?_
            refine lv_goto (tgt := 68) hx hb dX9_isAsked_43 (by decide) ?_
            exact W.zret hx hb hr rfl (fun t ht hW => ⟨_, rfl, ⟨(by omega), (by omega), (by omega), (by omega)⟩, ht⟩) (fun q h => by cases h) dX9_isAsked_68
    · skip
      have ic_3 := iv_nlt c_3
      refine lv_iconst (v := 0) hx hb dX9_isAsked_16 (by decide) ?_
      exact W.zret hx hb hr rfl (fun t ht hW => ⟨_, rfl, ⟨(by omega), (by omega), (by omega), (by omega)⟩, ht⟩) (fun q h => by cases h) dX9_isAsked_17

set_option maxHeartbeats 4000000 in
set_option maxRecDepth 100000 in
theorem v_X9_lackingGroup (l : Launch) (dC : Nat → ClassId) (dI : Nat → Nat → Nat) (o : Nat) (c : Nat → Nat) (kc : Nat → ClassId) (st : Nat → Int32) (lg : Nat → Int64) (ai : Nat → Nat → Int32) (al : Nat → Nat → Int64)  (sz : Nat) (hf3a : 0 ≤ (st 3).toInt) (hf3b : (st 3).toInt ≤ 1) (hf6a : 0 ≤ (st 6).toInt) (hf6b : (st 6).toInt ≤ 1) (hf7a : 0 ≤ (st 7).toInt) (hf7b : (st 7).toInt ≤ 1) (hf12a : 0 ≤ (st 12).toInt) (hf12b : (st 12).toInt ≤ 8) (hf15a : 0 ≤ (st 15).toInt) (hf15b : (st 15).toInt ≤ 128) : Met l yX9_lackingGroup wsX9_lackingGroup ({ frames := 6, cells := 0, slots := 0, locals := 137 }) (va_Pc [.ref o] (fun U => U.heap.size = sz ∧ va_P (dC, dI) vwCl (rw_W o c kc st lg ai al) U.heap ∧ va_K (dC, dI) vwCl (rw_T kc) U ∧ va_D (fun _ => True) (rw_W o c kc st lg ai al))) (va_Qv (fun (_ : Unit) => True) (fun _ t => ∃ (x3 : Int32) (x4 : Int32) (x5 : Int32) (x6 : Int32) (x12 : Int32) (x15 : Int32) (f0 : Nat → Int32), (0 ≤ x3.toInt) ∧ (x3.toInt ≤ 1) ∧ (0 ≤ x6.toInt) ∧ (x6.toInt ≤ 1) ∧ (0 ≤ x12.toInt) ∧ (x12.toInt ≤ 8) ∧ (0 ≤ x15.toInt) ∧ (x15.toInt ≤ 128) ∧ va_P (dC, dI) vwCl (rw_W o c kc (rU (rU (rU (rU (rU (rU st 3 x3) 4 x4) 5 x5) 6 x6) 12 x12) 15 x15) lg (rU ai 0 f0) al) t.heap) (va_A (rw_W o c kc st lg ai al) sz)) 0 0 (va_A (rw_W o c kc st lg ai al) sz) := by
  refine Met.ofW (cc := cX9_lackingGroup) (maxL := 4) (ret := none) (by decide) rfl ?_
  intro p e s m args below meth cM s₁ B hml hv
  obtain ⟨rfl, hsz, hP, hK, hD0⟩ := hv
  have hx := B.exec
  have hb := B.bytes
  have hr := B.returns
  have hts := atoms_spec (ws := wsX9_lackingGroup) B.pre
  have hown : s.vm.findClass RX9 = some m.cls := findClass_of_methodNamed B.named
  subst hsz
  have hD := hD0.self (sz := s.heap.size)
  generalize hAe : va_A (rw_W o c kc st lg ai al) s.heap.size = A at hD ⊢
  have hA : ∀ q : Nat, s.heap.size ≤ q → A q := fun q h => by rw [← hAe]; exact Or.inr h
  have hS : va_S A s.heap s.heap [] := va_S.rf
  clear hAe hD0
  have hl := lv_entry ([.ref o]) (n := 4) (Nat.le_of_ble_eq_true rfl)
  rw [lg_entry_eq]
  generalize (lg_sl ([.ref o]) ++ List.replicate (4 - (lg_sl ([.ref o])).length) Slot.unset).toArray = ls at hl ⊢
  have hl : lv_has ls 4 [(0, .ref o)] := hl
  have z_m1 : (-1 : Int32).toInt = -1 := by decide
  have z_0 : (0 : Int32).toInt = 0 := by decide
  have z_1 : (1 : Int32).toInt = 1 := by decide
  have z_2 : (2 : Int32).toInt = 2 := by decide
  have z_5 : (5 : Int32).toInt = 5 := by decide
  have z_16 : (16 : Int32).toInt = 16 := by decide
  have z_32 : (32 : Int32).toInt = 32 := by decide
  have hin9 : ∀ w ∈ u_ws RX9 TX9 38, w ∈ wsX9_lackingGroup := by decide +kernel
  have main : ∀ (H : Heap) (locs : List Loc), va_P (dC, dI) vwCl (rw_W o c kc st lg ai al) H → va_S A s.heap H locs → W p l e (headSpec wsX9_lackingGroup ({ frames := 6, cells := 0, slots := 0, locals := 137 })).room s m ([.ref o] : List Value).toArray below meth cM H locs 0 0 (MQ below (va_Qv (fun (_ : Unit) => True) (fun _ t => ∃ (x3 : Int32) (x4 : Int32) (x5 : Int32) (x6 : Int32) (x12 : Int32) (x15 : Int32) (f0 : Nat → Int32), (0 ≤ x3.toInt) ∧ (x3.toInt ≤ 1) ∧ (0 ≤ x6.toInt) ∧ (x6.toInt ≤ 1) ∧ (0 ≤ x12.toInt) ∧ (x12.toInt ≤ 8) ∧ (0 ≤ x15.toInt) ∧ (x15.toInt ≤ 128) ∧ va_P (dC, dI) vwCl (rw_W o c kc (rU (rU (rU (rU (rU (rU st 3 x3) 4 x4) 5 x5) 6 x6) 12 x12) 15 x15) lg (rU ai 0 f0) al) t.heap) A) ([.ref o] : List Value).toArray s 0 0 A) (F0 m 0 ls []) := by
    intro H locs hP hS
    refine lv_aload_n hx hb dX9_lackingGroup_0 rfl (lv_at hl 0 rfl) ?_
    refine va_get (D := (dC, dI)) (ci := 11) (v := .int (st 6)) (C := RX9) (T := TX9) (N := 38) hx hb hts hin9 hown hK hP 0 rfl rfl 6 (by decide) (hts (.fieldLink RX9 108 "BlockLogModel" "dark" "Z") (by decide +kernel)) (fun _ h9 => h9) rfl dX9_lackingGroup_1 ?_
    refine lv_if_ne (tgt := 14) hx hb dX9_lackingGroup_4 (by decide) (fun c_1 => ?_) (fun c_1 => ?_)
    · skip
      have ic_1 := iv_ne c_1
      exact W.vret hx hb hr (fun t ht hW => ⟨⟨(), rfl, trivial, st 3, st 4, st 5, st 6, st 12, st 15, ai 0, (by omega), (by omega), (by omega), (by omega), (by omega), (by omega), (by omega), (by omega), by rw [ht]; exact hP⟩, hS.F ht⟩) hS.2.2 dX9_lackingGroup_14
    · skip
      have ic_1 := iv_eq c_1
      refine lv_aload_n hx hb dX9_lackingGroup_7 rfl (lv_at hl 0 rfl) ?_
      refine vp_callSi (va_Run.run (va_runV (As := []) (rest := []) ⟨hx, hb, hml, hown, hts⟩ (v_X9_badRows l dC dI o c kc st lg ai al  (show 0 ≤ (st 7).toInt by omega) (show (st 7).toInt ≤ 1 by omega) (show 0 ≤ (st 15).toInt by omega) (show (st 15).toInt ≤ 128 by omega)) (cwV 0 hts gX9_lackingGroup_X9_badRows rfl rfl rfl (by decide +kernel) ⟨Nat.le_of_ble_eq_true rfl, Nat.le_of_ble_eq_true rfl⟩) ⟨fun a U g mk q => by obtain ⟨q0, qP, qK⟩ := q; exact ⟨q0, qP, va_K.moved (u := U) (U := U.calling g mk a) (Vm.Alike.refl U.vm) qK⟩, va_recv hK hP (ci := 11) (q := (RX9, TX9, 38)) rfl (q0 := 0) rfl, fun U hU hW => ⟨rfl, by rw [hU]; exact hP, va_K.moved hW.alike hK⟩⟩ rfl rfl hl.1 rfl (lv_room (Nat.le_of_ble_eq_true rfl)) dX9_lackingGroup_8 ⟨Nat.le_of_ble_eq_true rfl, Nat.le_of_ble_eq_true rfl⟩)) (fun r_2 er_2 => ?_)
      obtain ⟨k_3, k_4⟩ := er_2
      refine lv_if_le (tgt := 15) hx hb dX9_lackingGroup_11 (by decide) (fun c_5 => ?_) (fun c_5 => ?_)
      · skip
        have ic_5 := iv_le c_5
        refine lv_aload_n hx hb dX9_lackingGroup_15 rfl (lv_at hl 0 rfl) ?_
        refine vp_callSi (va_Run.run (va_runV (As := []) (rest := []) ⟨hx, hb, hml, hown, hts⟩ (v_X9_rows l dC dI o c kc st lg ai al  (show 0 ≤ (st 15).toInt by omega) (show (st 15).toInt ≤ 128 by omega)) (cwV 0 hts gX9_lackingGroup_X9_rows rfl rfl rfl (by decide +kernel) ⟨Nat.le_of_ble_eq_true rfl, Nat.le_of_ble_eq_true rfl⟩) ⟨fun a U g mk q => by obtain ⟨q0, qP, qK⟩ := q; exact ⟨q0, qP, va_K.moved (u := U) (U := U.calling g mk a) (Vm.Alike.refl U.vm) qK⟩, va_recv hK hP (ci := 11) (q := (RX9, TX9, 38)) rfl (q0 := 0) rfl, fun U hU hW => ⟨rfl, by rw [hU]; exact hP, va_K.moved hW.alike hK⟩⟩ rfl rfl hl.1 rfl (lv_room (Nat.le_of_ble_eq_true rfl)) dX9_lackingGroup_16 ⟨Nat.le_of_ble_eq_true rfl, Nat.le_of_ble_eq_true rfl⟩)) (fun r_6 er_6 => ?_)
        have k_7 := er_6
        have k_7 : r_6.toInt = (st 15).toInt := k_7
        refine lv_istore_n (lv' := [(1, .int r_6), (0, .ref o)]) hx hb dX9_lackingGroup_19 rfl hl (by decide) rfl (fun ls hl => ?_)
        refine lv_iload_n hx hb dX9_lackingGroup_20 rfl (lv_at hl 0 rfl) ?_
        refine lv_iconst (v := 1) hx hb dX9_lackingGroup_21 (by decide) ?_
        refine lv_isub hx hb dX9_lackingGroup_22 ?_
        refine lv_topi (fun v_8 ev_8 => ?_)
        have rg1 := iv_rng r_6
        have hv_8 : v_8.toInt = r_6.toInt - 1 := by rw [ev_8]; exact (iv_sub (by omega) (by omega)).trans (by omega)
        clear ev_8
        refine lv_istore_n (lv' := [(2, .int v_8), (1, .int r_6), (0, .ref o)]) hx hb dX9_lackingGroup_23 rfl hl (by decide) rfl (fun ls hl => ?_)
        have loop24 : ∀ (n : Nat) (l2_24 : Int32) (H : Heap) (locs : List Loc) (ls : Array Slot), (-1 ≤ l2_24.toInt) → (l2_24.toInt < r_6.toInt) → (l2_24.toInt + 1 : Int).toNat < n → va_P (dC, dI) vwCl (rw_W o c kc st lg ai al) H → va_S A s.heap H locs → lv_has ls 4 [(2, .int l2_24), (1, .int r_6), (0, .ref o)] → W p l e (headSpec wsX9_lackingGroup ({ frames := 6, cells := 0, slots := 0, locals := 137 })).room s m ([.ref o] : List Value).toArray below meth cM H locs 0 0 (MQ below (va_Qv (fun (_ : Unit) => True) (fun _ t => ∃ (x3 : Int32) (x4 : Int32) (x5 : Int32) (x6 : Int32) (x12 : Int32) (x15 : Int32) (f0 : Nat → Int32), (0 ≤ x3.toInt) ∧ (x3.toInt ≤ 1) ∧ (0 ≤ x6.toInt) ∧ (x6.toInt ≤ 1) ∧ (0 ≤ x12.toInt) ∧ (x12.toInt ≤ 8) ∧ (0 ≤ x15.toInt) ∧ (x15.toInt ≤ 128) ∧ va_P (dC, dI) vwCl (rw_W o c kc (rU (rU (rU (rU (rU (rU st 3 x3) 4 x4) 5 x5) 6 x6) 12 x12) 15 x15) lg (rU ai 0 f0) al) t.heap) A) ([.ref o] : List Value).toArray s 0 0 A) (F0 m 24 ls []) := by
          intro n
          induction n with
          | zero => intro l2_24 H locs ls if0_24 if1_24 hm; exact absurd hm (Nat.not_lt_zero _)
          | succ n ih24 =>
            intro l2_24 H locs ls if0_24 if1_24 hm24 hP hS hl
            refine lv_iload_n hx hb dX9_lackingGroup_24 rfl (lv_at hl 0 rfl) ?_
            refine lv_if_lt (tgt := 52) hx hb dX9_lackingGroup_25 (by decide) (fun c_9 => ?_) (fun c_9 => ?_)
            · skip
              have ic_9 := iv_lt c_9
              refine lv_iload_n hx hb dX9_lackingGroup_52 rfl (lv_at hl 0 rfl) ?_
              refine lv_if_lt (tgt := 118) hx hb dX9_lackingGroup_53 (by decide) (fun c_10 => ?_) (fun c_10 => ?_)
              · skip
                have ic_10 := iv_lt c_10
                exact W.vret hx hb hr (fun t ht hW => ⟨⟨(), rfl, trivial, st 3, st 4, st 5, st 6, st 12, st 15, ai 0, (by omega), (by omega), (by omega), (by omega), (by omega), (by omega), (by omega), (by omega), by rw [ht]; exact hP⟩, hS.F ht⟩) hS.2.2 dX9_lackingGroup_118
              · skip
                have ic_10 := iv_nlt c_10
                exfalso
                omega
            · skip
              have ic_9 := iv_nlt c_9
              refine lv_aload_n hx hb dX9_lackingGroup_28 rfl (lv_at hl 2 rfl) ?_
              refine lv_iload_n hx hb dX9_lackingGroup_29 rfl (lv_at hl 0 rfl) ?_
              refine vp_callSi (va_Run.run (va_runV (As := [.int l2_24]) (rest := []) ⟨hx, hb, hml, hown, hts⟩ (v_X9_kindOf l dC dI o c kc st lg ai al l2_24 (show 0 ≤ (st 7).toInt by omega) (show (st 7).toInt ≤ 1 by omega) (by omega) (by omega)) (cwV 1 hts gX9_lackingGroup_X9_kindOf rfl rfl rfl (by decide +kernel) ⟨Nat.le_of_ble_eq_true rfl, Nat.le_of_ble_eq_true rfl⟩) ⟨fun a U g mk q => by obtain ⟨q0, qP, qK⟩ := q; exact ⟨q0, qP, va_K.moved (u := U) (U := U.calling g mk a) (Vm.Alike.refl U.vm) qK⟩, va_recv hK hP (ci := 11) (q := (RX9, TX9, 38)) rfl (q0 := 0) rfl, fun U hU hW => ⟨rfl, by rw [hU]; exact hP, va_K.moved hW.alike hK⟩⟩ rfl rfl hl.1 rfl (lv_room (Nat.le_of_ble_eq_true rfl)) dX9_lackingGroup_30 ⟨Nat.le_of_ble_eq_true rfl, Nat.le_of_ble_eq_true rfl⟩)) (fun r_11 er_11 => ?_)
              obtain ⟨k_12, k_13, k_14⟩ := er_11
              have k_12 : r_11.toInt = (rK (ai 0) (st 7) l2_24).toInt := k_12
              refine lv_iconst (v := 2) hx hb dX9_lackingGroup_33 (by decide) ?_
              refine lv_icmp_eq (tgt := 52) hx hb dX9_lackingGroup_34 (by decide) (fun c_15 => ?_) (fun c_15 => ?_)
              · skip
                have ic_15 := iv_eq c_15
                refine lv_iload_n hx hb dX9_lackingGroup_52 rfl (lv_at hl 0 rfl) ?_
                refine lv_if_lt (tgt := 118) hx hb dX9_lackingGroup_53 (by decide) (fun c_16 => ?_) (fun c_16 => ?_)
                · skip
                  have ic_16 := iv_lt c_16
                  exfalso
                  omega
                · skip
                  have ic_16 := iv_nlt c_16
                  refine lv_aload_n hx hb dX9_lackingGroup_56 rfl (lv_at hl 2 rfl) ?_
                  refine lv_iload_n hx hb dX9_lackingGroup_57 rfl (lv_at hl 0 rfl) ?_
                  refine vp_callSi (va_Run.run (va_runV (As := [.int l2_24]) (rest := []) ⟨hx, hb, hml, hown, hts⟩ (v_X9_bOf l dC dI o c kc st lg ai al l2_24 (show 0 ≤ (st 7).toInt by omega) (show (st 7).toInt ≤ 1 by omega) (by omega) (by omega)) (cwV 1 hts gX9_lackingGroup_X9_bOf rfl rfl rfl (by decide +kernel) ⟨Nat.le_of_ble_eq_true rfl, Nat.le_of_ble_eq_true rfl⟩) ⟨fun a U g mk q => by obtain ⟨q0, qP, qK⟩ := q; exact ⟨q0, qP, va_K.moved (u := U) (U := U.calling g mk a) (Vm.Alike.refl U.vm) qK⟩, va_recv hK hP (ci := 11) (q := (RX9, TX9, 38)) rfl (q0 := 0) rfl, fun U hU hW => ⟨rfl, by rw [hU]; exact hP, va_K.moved hW.alike hK⟩⟩ rfl rfl hl.1 rfl (lv_room (Nat.le_of_ble_eq_true rfl)) dX9_lackingGroup_58 ⟨Nat.le_of_ble_eq_true rfl, Nat.le_of_ble_eq_true rfl⟩)) (fun r_17 er_17 => ?_)
                  have k_18 := er_17
                  have k_18 : r_17.toInt = (rB (ai 0) (st 7) l2_24).toInt := k_18
                  refine lv_iconst (v := 0) hx hb dX9_lackingGroup_61 (by decide) ?_
                  refine lv_bipush (v := 16) hx hb dX9_lackingGroup_62 (by decide) ?_
                  refine vp_callSi (va_Run.run (va_runS (As := [.int r_17, .int (0 : Int32), .int (16 : Int32)]) (rest := []) ⟨hx, hb, hml, hown, hts⟩ (v_X9_within l dC dI r_17 (0 : Int32) (16 : Int32) ) (va_cwS 3 hts gX9_lackingGroup_X9_within rfl rfl rfl (by decide +kernel) ⟨Nat.le_of_ble_eq_true rfl, Nat.le_of_ble_eq_true rfl⟩) ⟨fun a U g mk q => q, fun U hU hW => ⟨rfl, trivial⟩⟩ rfl rfl hl.1 rfl (lv_room (Nat.le_of_ble_eq_true rfl)) dX9_lackingGroup_64 ⟨Nat.le_of_ble_eq_true rfl, Nat.le_of_ble_eq_true rfl⟩)) (fun r_19 er_19 => ?_)
                  obtain ⟨k_20, k_21, k_22, k_23, k_24⟩ := er_19
                  rcases iv_01 (a := r_19) (by omega) (by omega) with b_25 | b_25
                  · skip
                    have ib_25 := iv_eq b_25
                    rw [b_25]
                    refine lv_if_eq (tgt := 118) hx hb dX9_lackingGroup_67 (by decide) (fun c_26 => ?_) (fun c_26 => ?_)
                    · skip
                      have ic_26 := iv_eq c_26
                      exact W.vret hx hb hr (fun t ht hW => ⟨⟨(), rfl, trivial, st 3, st 4, st 5, st 6, st 12, st 15, ai 0, (by omega), (by omega), (by omega), (by omega), (by omega), (by omega), (by omega), (by omega), by rw [ht]; exact hP⟩, hS.F ht⟩) hS.2.2 dX9_lackingGroup_118
                    · skip
                      have ic_26 := iv_ne c_26
                      exfalso
                      omega
                  · skip
                    have ib_25 := iv_eq b_25
                    rw [b_25]
                    refine lv_if_eq (tgt := 118) hx hb dX9_lackingGroup_67 (by decide) (fun c_27 => ?_) (fun c_27 => ?_)
                    · skip
                      have ic_27 := iv_eq c_27
                      exfalso
                      omega
                    · skip
                      have ic_27 := iv_ne c_27
                      refine lv_iload_n hx hb dX9_lackingGroup_70 rfl (lv_at hl 1 rfl) ?_
                      refine lv_iload_n hx hb dX9_lackingGroup_71 rfl (lv_at hl 0 rfl) ?_
                      refine lv_isub hx hb dX9_lackingGroup_72 ?_
                      refine lv_topi (fun v_28 ev_28 => ?_)
                      have rg2 := iv_rng l2_24
                      have hv_28 : v_28.toInt = r_6.toInt - l2_24.toInt := by rw [ev_28]; exact (iv_sub (by omega) (by omega)).trans (by omega)
                      clear ev_28
                      refine lv_iconst (v := 1) hx hb dX9_lackingGroup_73 (by decide) ?_
                      refine lv_isub hx hb dX9_lackingGroup_74 ?_
                      refine lv_topi (fun v_29 ev_29 => ?_)
                      have rg3 := iv_rng v_28
                      have hv_29 : v_29.toInt = v_28.toInt - 1 := by rw [ev_29]; exact (iv_sub (by omega) (by omega)).trans (by omega)
                      clear ev_29
                      refine lv_aload_n hx hb dX9_lackingGroup_75 rfl (lv_at hl 2 rfl) ?_
                      refine lv_iload_n hx hb dX9_lackingGroup_76 rfl (lv_at hl 0 rfl) ?_
                      refine vp_callSi (va_Run.run (va_runV (As := [.int l2_24]) (rest := [.int v_29]) ⟨hx, hb, hml, hown, hts⟩ (v_X9_bOf l dC dI o c kc st lg ai al l2_24 (show 0 ≤ (st 7).toInt by omega) (show (st 7).toInt ≤ 1 by omega) (by omega) (by omega)) (cwV 1 hts gX9_lackingGroup_X9_bOf rfl rfl rfl (by decide +kernel) ⟨Nat.le_of_ble_eq_true rfl, Nat.le_of_ble_eq_true rfl⟩) ⟨fun a U g mk q => by obtain ⟨q0, qP, qK⟩ := q; exact ⟨q0, qP, va_K.moved (u := U) (U := U.calling g mk a) (Vm.Alike.refl U.vm) qK⟩, va_recv hK hP (ci := 11) (q := (RX9, TX9, 38)) rfl (q0 := 0) rfl, fun U hU hW => ⟨rfl, by rw [hU]; exact hP, va_K.moved hW.alike hK⟩⟩ rfl rfl hl.1 rfl (lv_room (Nat.le_of_ble_eq_true rfl)) dX9_lackingGroup_77 ⟨Nat.le_of_ble_eq_true rfl, Nat.le_of_ble_eq_true rfl⟩)) (fun r_30 er_30 => ?_)
                      have k_31 := er_30
                      have k_31 : r_30.toInt = (rB (ai 0) (st 7) l2_24).toInt := k_31
                      refine lv_icmp_ge (tgt := 118) hx hb dX9_lackingGroup_80 (by decide) (fun c_32 => ?_) (fun c_32 => ?_)
                      · skip
                        have ic_32 := iv_le c_32
                        exact W.vret hx hb hr (fun t ht hW => ⟨⟨(), rfl, trivial, st 3, st 4, st 5, st 6, st 12, st 15, ai 0, (by omega), (by omega), (by omega), (by omega), (by omega), (by omega), (by omega), (by omega), by rw [ht]; exact hP⟩, hS.F ht⟩) hS.2.2 dX9_lackingGroup_118
                      · skip
                        have ic_32 := iv_nle c_32
                        refine lv_iload_n hx hb dX9_lackingGroup_83 rfl (lv_at hl 1 rfl) ?_
                        refine lv_iconst (v := 1) hx hb dX9_lackingGroup_84 (by decide) ?_
                        refine lv_isub hx hb dX9_lackingGroup_85 ?_
                        refine lv_topi (fun v_33 ev_33 => ?_)
                        have hv_33 : v_33.toInt = r_6.toInt - 1 := by rw [ev_33]; exact (iv_sub (by omega) (by omega)).trans (by omega)
                        clear ev_33
                        refine lv_istore_n (lv' := [(3, .int v_33), (2, .int l2_24), (1, .int r_6), (0, .ref o)]) hx hb dX9_lackingGroup_86 rfl hl (by decide) rfl (fun ls hl => ?_)
                        have loop87 : ∀ (n : Nat) (l3_87 : Int32) (s3_87 : Int32) (s4_87 : Int32) (s5_87 : Int32) (s6_87 : Int32) (s12_87 : Int32) (a0_87 : Nat → Int32) (H : Heap) (locs : List Loc) (ls : Array Slot), (0 ≤ l2_24.toInt) → (l2_24.toInt - 1 ≤ l3_87.toInt) → (l3_87.toInt < r_6.toInt) → (r_6.toInt ≤ 128) → (0 ≤ s3_87.toInt) → (s3_87.toInt ≤ 1) → (0 ≤ s6_87.toInt) → (s6_87.toInt ≤ 1) → (0 ≤ s12_87.toInt) → (s12_87.toInt ≤ 8) → (l3_87.toInt - l2_24.toInt + 1 : Int).toNat < n → va_P (dC, dI) vwCl (rw_W o c kc (rU (rU (rU (rU (rU st 3 s3_87) 4 s4_87) 5 s5_87) 6 s6_87) 12 s12_87) lg (rU ai 0 a0_87) al) H → va_S A s.heap H locs → lv_has ls 4 [(3, .int l3_87), (2, .int l2_24), (1, .int r_6), (0, .ref o)] → W p l e (headSpec wsX9_lackingGroup ({ frames := 6, cells := 0, slots := 0, locals := 137 })).room s m ([.ref o] : List Value).toArray below meth cM H locs 0 0 (MQ below (va_Qv (fun (_ : Unit) => True) (fun _ t => ∃ (x3 : Int32) (x4 : Int32) (x5 : Int32) (x6 : Int32) (x12 : Int32) (x15 : Int32) (f0 : Nat → Int32), (0 ≤ x3.toInt) ∧ (x3.toInt ≤ 1) ∧ (0 ≤ x6.toInt) ∧ (x6.toInt ≤ 1) ∧ (0 ≤ x12.toInt) ∧ (x12.toInt ≤ 8) ∧ (0 ≤ x15.toInt) ∧ (x15.toInt ≤ 128) ∧ va_P (dC, dI) vwCl (rw_W o c kc (rU (rU (rU (rU (rU (rU st 3 x3) 4 x4) 5 x5) 6 x6) 12 x12) 15 x15) lg (rU ai 0 f0) al) t.heap) A) ([.ref o] : List Value).toArray s 0 0 A) (F0 m 87 ls []) := by
                          intro n
                          induction n with
                          | zero => intro l3_87 s3_87 s4_87 s5_87 s6_87 s12_87 a0_87 H locs ls if0_87 if1_87 if2_87 if3_87 if4_87 if5_87 if6_87 if7_87 if8_87 if9_87 hm; exact absurd hm (Nat.not_lt_zero _)
                          | succ n ih87 =>
                            intro l3_87 s3_87 s4_87 s5_87 s6_87 s12_87 a0_87 H locs ls if0_87 if1_87 if2_87 if3_87 if4_87 if5_87 if6_87 if7_87 if8_87 if9_87 hm87 hP hS hl
                            refine lv_iload_n hx hb dX9_lackingGroup_87 rfl (lv_at hl 0 rfl) ?_
                            refine lv_iload_n hx hb dX9_lackingGroup_88 rfl (lv_at hl 1 rfl) ?_
                            refine lv_icmp_lt (tgt := 113) hx hb dX9_lackingGroup_89 (by decide) (fun c_34 => ?_) (fun c_34 => ?_)
                            · skip
                              have ic_34 := iv_lt c_34
                              refine lv_aload_n hx hb dX9_lackingGroup_113 rfl (lv_at hl 3 rfl) ?_
                              refine lv_iload_n hx hb dX9_lackingGroup_114 rfl (lv_at hl 1 rfl) ?_
                              refine va_put (D := (dC, dI)) (ci := 11) (v := .int l2_24) (ty := .int) (C := RX9) (T := TX9) (N := 38) hx hb hts hin9 tyX9 tyX9_ok nmX9 hown hK hP (rw_D hD) hS 0 rfl rfl 15 (by decide) (hts (.fieldLink RX9 157 "BlockLogModel" "rowsNow" "I") (by decide +kernel)) (fun _ h9 => h9) rfl (by decide +kernel) rfl rfl (Nat.le_of_ble_eq_true rfl) dX9_lackingGroup_115 (fun H locs hP _ hS => ?_)
                              have hP : va_P (dC, dI) vwCl (rw_W o c kc (rU (rU (rU (rU (rU (rU st 3 s3_87) 4 s4_87) 5 s5_87) 6 s6_87) 12 s12_87) 15 l2_24) lg (rU ai 0 a0_87) al) H := hP
                              exact W.vret hx hb hr (fun t ht hW => ⟨⟨(), rfl, trivial, s3_87, s4_87, s5_87, s6_87, s12_87, l2_24, a0_87, (by omega), (by omega), (by omega), (by omega), (by omega), (by omega), (by omega), (by omega), by rw [ht]; exact hP⟩, hS.F ht⟩) hS.2.2 dX9_lackingGroup_118
                            · skip
                              have ic_34 := iv_nlt c_34
                              refine lv_aload_n hx hb dX9_lackingGroup_92 rfl (lv_at hl 3 rfl) ?_
                              refine lv_aload_n hx hb dX9_lackingGroup_93 rfl (lv_at hl 3 rfl) ?_
                              refine lv_aload_n hx hb dX9_lackingGroup_94 rfl (lv_at hl 3 rfl) ?_
                              refine va_get (D := (dC, dI)) (ci := 11) (v := .int (st 7)) (C := RX9) (T := TX9) (N := 38) hx hb hts hin9 hown hK hP 0 rfl rfl 7 (by decide) (hts (.fieldLink RX9 76 "BlockLogModel" "area" "I") (by decide +kernel)) (fun _ h9 => h9) rfl dX9_lackingGroup_95 ?_
                              refine lv_iload_n hx hb dX9_lackingGroup_98 rfl (lv_at hl 0 rfl) ?_
                              refine vp_callSi (va_Run.run (va_runV (As := [.int (st 7), .int l3_87]) (rest := [.ref o]) ⟨hx, hb, hml, hown, hts⟩ (v_X9_rowPlace l dC dI o c kc (rU (rU (rU (rU (rU st 3 s3_87) 4 s4_87) 5 s5_87) 6 s6_87) 12 s12_87) lg (rU ai 0 a0_87) al (st 7) l3_87 (by omega) (by omega) (by omega) (by omega)) (cwV 2 hts gX9_lackingGroup_X9_rowPlace rfl rfl rfl (by decide +kernel) ⟨Nat.le_of_ble_eq_true rfl, Nat.le_of_ble_eq_true rfl⟩) ⟨fun a U g mk q => by obtain ⟨q0, qP, qK⟩ := q; exact ⟨q0, qP, va_K.moved (u := U) (U := U.calling g mk a) (Vm.Alike.refl U.vm) qK⟩, va_recv hK hP (ci := 11) (q := (RX9, TX9, 38)) rfl (q0 := 0) rfl, fun U hU hW => ⟨rfl, by rw [hU]; exact hP, va_K.moved hW.alike hK⟩⟩ rfl rfl hl.1 rfl (lv_room (Nat.le_of_ble_eq_true rfl)) dX9_lackingGroup_99 ⟨Nat.le_of_ble_eq_true rfl, Nat.le_of_ble_eq_true rfl⟩)) (fun r_35 er_35 => ?_)
                              have k_36 := er_35
                              refine lv_bipush (v := 32) hx hb dX9_lackingGroup_102 (by decide) ?_
                              have hFc := vfree (rw_D hD : va_D A (rw_W o c kc (rU (rU (rU (rU (rU st 3 s3_87) 4 s4_87) 5 s5_87) 6 s6_87) 12 s12_87) lg (rU ai 0 a0_87) al)) hS hA
                              refine va_callv (va_runV (As := [.int r_35, .int (32 : Int32)]) (rest := []) ⟨hx, hb, hml, hown, hts⟩ (v_X9_erase l dC dI o c kc (rU (rU (rU (rU (rU st 3 s3_87) 4 s4_87) 5 s5_87) 6 s6_87) 12 s12_87) lg (rU ai 0 a0_87) al r_35 (32 : Int32) _ (show 0 ≤ s3_87.toInt by omega) (show s3_87.toInt ≤ 1 by omega) (show 0 ≤ s6_87.toInt by omega) (show s6_87.toInt ≤ 1 by omega) (show 0 ≤ s12_87.toInt by omega) (show s12_87.toInt ≤ 8 by omega) (by omega) (by omega) (by omega) (by omega)) (cwV 2 hts gX9_lackingGroup_X9_erase rfl rfl rfl (by decide +kernel) ⟨Nat.le_of_ble_eq_true rfl, Nat.le_of_ble_eq_true rfl⟩) ⟨fun a U g mk q => by obtain ⟨q0, q1, qP, qK, qD⟩ := q; exact ⟨q0, q1, qP, va_K.moved (u := U) (U := U.calling g mk a) (Vm.Alike.refl U.vm) qK, qD⟩, va_recv hK hP (ci := 11) (q := (RX9, TX9, 38)) rfl (q0 := 0) rfl, fun U hU hW => ⟨rfl, by rw [hU], by rw [hU]; exact hP, va_K.moved hW.alike hK, rw_D (hD.weaken (fun _ _ _ _ => trivial))⟩⟩ rfl rfl hl.1 rfl (lv_room (Nat.le_of_ble_eq_true rfl)) dX9_lackingGroup_104 ⟨Nat.le_of_ble_eq_true rfl, Nat.le_of_ble_eq_true rfl⟩) hS (fun q _ h => hFc q h) hFc (fun ur_37 t H1 locs ht hvm er_37 hB hz1 hk1 hS => ?_)
                              obtain ⟨x3_37, x4_37, x5_37, x6_37, x12_37, f0_37, k_38, k_39, k_40, k_41, k_42, k_43, hP1⟩ := hB
                              rw [ht] at hP1
                              clear hFc hz1 hk1 hvm hP
                              subst ht
                              have hP := hP1
                              clear hP1
                              generalize t.heap = H at hP hS ⊢
                              have hP : va_P (dC, dI) vwCl (rw_W o c kc (rU (rU (rU (rU (rU st 3 x3_37) 4 x4_37) 5 x5_37) 6 x6_37) 12 x12_37) lg (rU ai 0 f0_37) al) H := hP
                              have k_38 : 0 ≤ x3_37.toInt := k_38
                              have k_39 : x3_37.toInt ≤ 1 := k_39
                              have k_40 : 0 ≤ x6_37.toInt := k_40
                              have k_41 : x6_37.toInt ≤ 1 := k_41
                              have k_42 : 0 ≤ x12_37.toInt := k_42
                              have k_43 : x12_37.toInt ≤ 8 := k_43
                              obtain ⟨x_44, ex_44⟩ : ∃ z : Int32, z = l3_87 + (-1) := ⟨_, rfl⟩
                              refine lv_iinc (v := x_44) (lv' := [(3, .int x_44), (2, .int l2_24), (1, .int r_6), (0, .ref o)]) hx hb dX9_lackingGroup_107 hl (k := 0) rfl (by rw [ex_44]; rfl) (by decide) rfl (fun ls hl => ?_)
                              have rg4 := iv_rng l3_87
                              have hx_44 : x_44.toInt = l3_87.toInt + (-1) := by rw [ex_44]; exact (iv_add (by omega) (by omega)).trans (by omega)
                              clear ex_44
                              refine lv_goto (tgt := 87) hx hb dX9_lackingGroup_110 (by decide) ?_
                              exact ih87 x_44 x3_37 x4_37 x5_37 x6_37 x12_37 f0_37 _ _ _ (by omega) (by omega) (by omega) (by omega) (by omega) (by omega) (by omega) (by omega) (by omega) (by omega) (by omega) hP hS (lv_sub hl [0, 1, 2, 3] rfl)
                        exact loop87 ((v_33.toInt - l2_24.toInt + 1 : Int).toNat + 1) v_33 (st 3) (st 4) (st 5) (st 6) (st 12) (ai 0) _ _ _ (by omega) (by omega) (by omega) (by omega) (by omega) (by omega) (by omega) (by omega) (by omega) (by omega) (by omega) hP hS (lv_sub hl [0, 1, 2, 3] rfl)
              · skip
                have ic_15 := iv_ne c_15
                refine lv_aload_n hx hb dX9_lackingGroup_37 rfl (lv_at hl 2 rfl) ?_
                refine lv_iload_n hx hb dX9_lackingGroup_38 rfl (lv_at hl 0 rfl) ?_
                refine vp_callSi (va_Run.run (va_runV (As := [.int l2_24]) (rest := []) ⟨hx, hb, hml, hown, hts⟩ (v_X9_kindOf l dC dI o c kc st lg ai al l2_24 (show 0 ≤ (st 7).toInt by omega) (show (st 7).toInt ≤ 1 by omega) (by omega) (by omega)) (cwV 1 hts gX9_lackingGroup_X9_kindOf rfl rfl rfl (by decide +kernel) ⟨Nat.le_of_ble_eq_true rfl, Nat.le_of_ble_eq_true rfl⟩) ⟨fun a U g mk q => by obtain ⟨q0, qP, qK⟩ := q; exact ⟨q0, qP, va_K.moved (u := U) (U := U.calling g mk a) (Vm.Alike.refl U.vm) qK⟩, va_recv hK hP (ci := 11) (q := (RX9, TX9, 38)) rfl (q0 := 0) rfl, fun U hU hW => ⟨rfl, by rw [hU]; exact hP, va_K.moved hW.alike hK⟩⟩ rfl rfl hl.1 rfl (lv_room (Nat.le_of_ble_eq_true rfl)) dX9_lackingGroup_39 ⟨Nat.le_of_ble_eq_true rfl, Nat.le_of_ble_eq_true rfl⟩)) (fun r_45 er_45 => ?_)
                obtain ⟨k_46, k_47, k_48⟩ := er_45
                have k_46 : r_45.toInt = (rK (ai 0) (st 7) l2_24).toInt := k_46
                refine lv_iconst (v := 5) hx hb dX9_lackingGroup_42 (by decide) ?_
                refine lv_icmp_eq (tgt := 52) hx hb dX9_lackingGroup_43 (by decide) (fun c_49 => ?_) (fun c_49 => ?_)
                · skip
                  have ic_49 := iv_eq c_49
                  refine lv_iload_n hx hb dX9_lackingGroup_52 rfl (lv_at hl 0 rfl) ?_
                  refine lv_if_lt (tgt := 118) hx hb dX9_lackingGroup_53 (by decide) (fun c_50 => ?_) (fun c_50 => ?_)
                  · skip
                    have ic_50 := iv_lt c_50
                    exfalso
                    omega
                  · skip
                    have ic_50 := iv_nlt c_50
                    refine lv_aload_n hx hb dX9_lackingGroup_56 rfl (lv_at hl 2 rfl) ?_
                    refine lv_iload_n hx hb dX9_lackingGroup_57 rfl (lv_at hl 0 rfl) ?_
                    refine vp_callSi (va_Run.run (va_runV (As := [.int l2_24]) (rest := []) ⟨hx, hb, hml, hown, hts⟩ (v_X9_bOf l dC dI o c kc st lg ai al l2_24 (show 0 ≤ (st 7).toInt by omega) (show (st 7).toInt ≤ 1 by omega) (by omega) (by omega)) (cwV 1 hts gX9_lackingGroup_X9_bOf rfl rfl rfl (by decide +kernel) ⟨Nat.le_of_ble_eq_true rfl, Nat.le_of_ble_eq_true rfl⟩) ⟨fun a U g mk q => by obtain ⟨q0, qP, qK⟩ := q; exact ⟨q0, qP, va_K.moved (u := U) (U := U.calling g mk a) (Vm.Alike.refl U.vm) qK⟩, va_recv hK hP (ci := 11) (q := (RX9, TX9, 38)) rfl (q0 := 0) rfl, fun U hU hW => ⟨rfl, by rw [hU]; exact hP, va_K.moved hW.alike hK⟩⟩ rfl rfl hl.1 rfl (lv_room (Nat.le_of_ble_eq_true rfl)) dX9_lackingGroup_58 ⟨Nat.le_of_ble_eq_true rfl, Nat.le_of_ble_eq_true rfl⟩)) (fun r_51 er_51 => ?_)
                    have k_52 := er_51
                    have k_52 : r_51.toInt = (rB (ai 0) (st 7) l2_24).toInt := k_52
                    refine lv_iconst (v := 0) hx hb dX9_lackingGroup_61 (by decide) ?_
                    refine lv_bipush (v := 16) hx hb dX9_lackingGroup_62 (by decide) ?_
                    refine vp_callSi (va_Run.run (va_runS (As := [.int r_51, .int (0 : Int32), .int (16 : Int32)]) (rest := []) ⟨hx, hb, hml, hown, hts⟩ (v_X9_within l dC dI r_51 (0 : Int32) (16 : Int32) ) (va_cwS 3 hts gX9_lackingGroup_X9_within rfl rfl rfl (by decide +kernel) ⟨Nat.le_of_ble_eq_true rfl, Nat.le_of_ble_eq_true rfl⟩) ⟨fun a U g mk q => q, fun U hU hW => ⟨rfl, trivial⟩⟩ rfl rfl hl.1 rfl (lv_room (Nat.le_of_ble_eq_true rfl)) dX9_lackingGroup_64 ⟨Nat.le_of_ble_eq_true rfl, Nat.le_of_ble_eq_true rfl⟩)) (fun r_53 er_53 => ?_)
                    obtain ⟨k_54, k_55, k_56, k_57, k_58⟩ := er_53
                    rcases iv_01 (a := r_53) (by omega) (by omega) with b_59 | b_59
                    · skip
                      have ib_59 := iv_eq b_59
                      rw [b_59]
                      refine lv_if_eq (tgt := 118) hx hb dX9_lackingGroup_67 (by decide) (fun c_60 => ?_) (fun c_60 => ?_)
                      · skip
                        have ic_60 := iv_eq c_60
                        exact W.vret hx hb hr (fun t ht hW => ⟨⟨(), rfl, trivial, st 3, st 4, st 5, st 6, st 12, st 15, ai 0, (by omega), (by omega), (by omega), (by omega), (by omega), (by omega), (by omega), (by omega), by rw [ht]; exact hP⟩, hS.F ht⟩) hS.2.2 dX9_lackingGroup_118
                      · skip
                        have ic_60 := iv_ne c_60
                        exfalso
                        omega
                    · skip
                      have ib_59 := iv_eq b_59
                      rw [b_59]
                      refine lv_if_eq (tgt := 118) hx hb dX9_lackingGroup_67 (by decide) (fun c_61 => ?_) (fun c_61 => ?_)
                      · skip
                        have ic_61 := iv_eq c_61
                        exfalso
                        omega
                      · skip
                        have ic_61 := iv_ne c_61
                        refine lv_iload_n hx hb dX9_lackingGroup_70 rfl (lv_at hl 1 rfl) ?_
                        refine lv_iload_n hx hb dX9_lackingGroup_71 rfl (lv_at hl 0 rfl) ?_
                        refine lv_isub hx hb dX9_lackingGroup_72 ?_
                        refine lv_topi (fun v_62 ev_62 => ?_)
                        have rg5 := iv_rng l2_24
                        have hv_62 : v_62.toInt = r_6.toInt - l2_24.toInt := by rw [ev_62]; exact (iv_sub (by omega) (by omega)).trans (by omega)
                        clear ev_62
                        refine lv_iconst (v := 1) hx hb dX9_lackingGroup_73 (by decide) ?_
                        refine lv_isub hx hb dX9_lackingGroup_74 ?_
                        refine lv_topi (fun v_63 ev_63 => ?_)
                        have rg6 := iv_rng v_62
                        have hv_63 : v_63.toInt = v_62.toInt - 1 := by rw [ev_63]; exact (iv_sub (by omega) (by omega)).trans (by omega)
                        clear ev_63
                        refine lv_aload_n hx hb dX9_lackingGroup_75 rfl (lv_at hl 2 rfl) ?_
                        refine lv_iload_n hx hb dX9_lackingGroup_76 rfl (lv_at hl 0 rfl) ?_
                        refine vp_callSi (va_Run.run (va_runV (As := [.int l2_24]) (rest := [.int v_63]) ⟨hx, hb, hml, hown, hts⟩ (v_X9_bOf l dC dI o c kc st lg ai al l2_24 (show 0 ≤ (st 7).toInt by omega) (show (st 7).toInt ≤ 1 by omega) (by omega) (by omega)) (cwV 1 hts gX9_lackingGroup_X9_bOf rfl rfl rfl (by decide +kernel) ⟨Nat.le_of_ble_eq_true rfl, Nat.le_of_ble_eq_true rfl⟩) ⟨fun a U g mk q => by obtain ⟨q0, qP, qK⟩ := q; exact ⟨q0, qP, va_K.moved (u := U) (U := U.calling g mk a) (Vm.Alike.refl U.vm) qK⟩, va_recv hK hP (ci := 11) (q := (RX9, TX9, 38)) rfl (q0 := 0) rfl, fun U hU hW => ⟨rfl, by rw [hU]; exact hP, va_K.moved hW.alike hK⟩⟩ rfl rfl hl.1 rfl (lv_room (Nat.le_of_ble_eq_true rfl)) dX9_lackingGroup_77 ⟨Nat.le_of_ble_eq_true rfl, Nat.le_of_ble_eq_true rfl⟩)) (fun r_64 er_64 => ?_)
                        have k_65 := er_64
                        have k_65 : r_64.toInt = (rB (ai 0) (st 7) l2_24).toInt := k_65
                        refine lv_icmp_ge (tgt := 118) hx hb dX9_lackingGroup_80 (by decide) (fun c_66 => ?_) (fun c_66 => ?_)
                        · skip
                          have ic_66 := iv_le c_66
                          exact W.vret hx hb hr (fun t ht hW => ⟨⟨(), rfl, trivial, st 3, st 4, st 5, st 6, st 12, st 15, ai 0, (by omega), (by omega), (by omega), (by omega), (by omega), (by omega), (by omega), (by omega), by rw [ht]; exact hP⟩, hS.F ht⟩) hS.2.2 dX9_lackingGroup_118
                        · skip
                          have ic_66 := iv_nle c_66
                          refine lv_iload_n hx hb dX9_lackingGroup_83 rfl (lv_at hl 1 rfl) ?_
                          refine lv_iconst (v := 1) hx hb dX9_lackingGroup_84 (by decide) ?_
                          refine lv_isub hx hb dX9_lackingGroup_85 ?_
                          refine lv_topi (fun v_67 ev_67 => ?_)
                          have hv_67 : v_67.toInt = r_6.toInt - 1 := by rw [ev_67]; exact (iv_sub (by omega) (by omega)).trans (by omega)
                          clear ev_67
                          refine lv_istore_n (lv' := [(3, .int v_67), (2, .int l2_24), (1, .int r_6), (0, .ref o)]) hx hb dX9_lackingGroup_86 rfl hl (by decide) rfl (fun ls hl => ?_)
                          have loop87 : ∀ (n : Nat) (l3_87 : Int32) (s3_87 : Int32) (s4_87 : Int32) (s5_87 : Int32) (s6_87 : Int32) (s12_87 : Int32) (a0_87 : Nat → Int32) (H : Heap) (locs : List Loc) (ls : Array Slot), (0 ≤ l2_24.toInt) → (l2_24.toInt - 1 ≤ l3_87.toInt) → (l3_87.toInt < r_6.toInt) → (r_6.toInt ≤ 128) → (0 ≤ s3_87.toInt) → (s3_87.toInt ≤ 1) → (0 ≤ s6_87.toInt) → (s6_87.toInt ≤ 1) → (0 ≤ s12_87.toInt) → (s12_87.toInt ≤ 8) → (l3_87.toInt - l2_24.toInt + 1 : Int).toNat < n → va_P (dC, dI) vwCl (rw_W o c kc (rU (rU (rU (rU (rU st 3 s3_87) 4 s4_87) 5 s5_87) 6 s6_87) 12 s12_87) lg (rU ai 0 a0_87) al) H → va_S A s.heap H locs → lv_has ls 4 [(3, .int l3_87), (2, .int l2_24), (1, .int r_6), (0, .ref o)] → W p l e (headSpec wsX9_lackingGroup ({ frames := 6, cells := 0, slots := 0, locals := 137 })).room s m ([.ref o] : List Value).toArray below meth cM H locs 0 0 (MQ below (va_Qv (fun (_ : Unit) => True) (fun _ t => ∃ (x3 : Int32) (x4 : Int32) (x5 : Int32) (x6 : Int32) (x12 : Int32) (x15 : Int32) (f0 : Nat → Int32), (0 ≤ x3.toInt) ∧ (x3.toInt ≤ 1) ∧ (0 ≤ x6.toInt) ∧ (x6.toInt ≤ 1) ∧ (0 ≤ x12.toInt) ∧ (x12.toInt ≤ 8) ∧ (0 ≤ x15.toInt) ∧ (x15.toInt ≤ 128) ∧ va_P (dC, dI) vwCl (rw_W o c kc (rU (rU (rU (rU (rU (rU st 3 x3) 4 x4) 5 x5) 6 x6) 12 x12) 15 x15) lg (rU ai 0 f0) al) t.heap) A) ([.ref o] : List Value).toArray s 0 0 A) (F0 m 87 ls []) := by
                            intro n
                            induction n with
                            | zero => intro l3_87 s3_87 s4_87 s5_87 s6_87 s12_87 a0_87 H locs ls if0_87 if1_87 if2_87 if3_87 if4_87 if5_87 if6_87 if7_87 if8_87 if9_87 hm; exact absurd hm (Nat.not_lt_zero _)
                            | succ n ih87 =>
                              intro l3_87 s3_87 s4_87 s5_87 s6_87 s12_87 a0_87 H locs ls if0_87 if1_87 if2_87 if3_87 if4_87 if5_87 if6_87 if7_87 if8_87 if9_87 hm87 hP hS hl
                              refine lv_iload_n hx hb dX9_lackingGroup_87 rfl (lv_at hl 0 rfl) ?_
                              refine lv_iload_n hx hb dX9_lackingGroup_88 rfl (lv_at hl 1 rfl) ?_
                              refine lv_icmp_lt (tgt := 113) hx hb dX9_lackingGroup_89 (by decide) (fun c_68 => ?_) (fun c_68 => ?_)
                              · skip
                                have ic_68 := iv_lt c_68
                                refine lv_aload_n hx hb dX9_lackingGroup_113 rfl (lv_at hl 3 rfl) ?_
                                refine lv_iload_n hx hb dX9_lackingGroup_114 rfl (lv_at hl 1 rfl) ?_
                                refine va_put (D := (dC, dI)) (ci := 11) (v := .int l2_24) (ty := .int) (C := RX9) (T := TX9) (N := 38) hx hb hts hin9 tyX9 tyX9_ok nmX9 hown hK hP (rw_D hD) hS 0 rfl rfl 15 (by decide) (hts (.fieldLink RX9 157 "BlockLogModel" "rowsNow" "I") (by decide +kernel)) (fun _ h9 => h9) rfl (by decide +kernel) rfl rfl (Nat.le_of_ble_eq_true rfl) dX9_lackingGroup_115 (fun H locs hP _ hS => ?_)
                                have hP : va_P (dC, dI) vwCl (rw_W o c kc (rU (rU (rU (rU (rU (rU st 3 s3_87) 4 s4_87) 5 s5_87) 6 s6_87) 12 s12_87) 15 l2_24) lg (rU ai 0 a0_87) al) H := hP
                                exact W.vret hx hb hr (fun t ht hW => ⟨⟨(), rfl, trivial, s3_87, s4_87, s5_87, s6_87, s12_87, l2_24, a0_87, (by omega), (by omega), (by omega), (by omega), (by omega), (by omega), (by omega), (by omega), by rw [ht]; exact hP⟩, hS.F ht⟩) hS.2.2 dX9_lackingGroup_118
                              · skip
                                have ic_68 := iv_nlt c_68
                                refine lv_aload_n hx hb dX9_lackingGroup_92 rfl (lv_at hl 3 rfl) ?_
                                refine lv_aload_n hx hb dX9_lackingGroup_93 rfl (lv_at hl 3 rfl) ?_
                                refine lv_aload_n hx hb dX9_lackingGroup_94 rfl (lv_at hl 3 rfl) ?_
                                refine va_get (D := (dC, dI)) (ci := 11) (v := .int (st 7)) (C := RX9) (T := TX9) (N := 38) hx hb hts hin9 hown hK hP 0 rfl rfl 7 (by decide) (hts (.fieldLink RX9 76 "BlockLogModel" "area" "I") (by decide +kernel)) (fun _ h9 => h9) rfl dX9_lackingGroup_95 ?_
                                refine lv_iload_n hx hb dX9_lackingGroup_98 rfl (lv_at hl 0 rfl) ?_
                                refine vp_callSi (va_Run.run (va_runV (As := [.int (st 7), .int l3_87]) (rest := [.ref o]) ⟨hx, hb, hml, hown, hts⟩ (v_X9_rowPlace l dC dI o c kc (rU (rU (rU (rU (rU st 3 s3_87) 4 s4_87) 5 s5_87) 6 s6_87) 12 s12_87) lg (rU ai 0 a0_87) al (st 7) l3_87 (by omega) (by omega) (by omega) (by omega)) (cwV 2 hts gX9_lackingGroup_X9_rowPlace rfl rfl rfl (by decide +kernel) ⟨Nat.le_of_ble_eq_true rfl, Nat.le_of_ble_eq_true rfl⟩) ⟨fun a U g mk q => by obtain ⟨q0, qP, qK⟩ := q; exact ⟨q0, qP, va_K.moved (u := U) (U := U.calling g mk a) (Vm.Alike.refl U.vm) qK⟩, va_recv hK hP (ci := 11) (q := (RX9, TX9, 38)) rfl (q0 := 0) rfl, fun U hU hW => ⟨rfl, by rw [hU]; exact hP, va_K.moved hW.alike hK⟩⟩ rfl rfl hl.1 rfl (lv_room (Nat.le_of_ble_eq_true rfl)) dX9_lackingGroup_99 ⟨Nat.le_of_ble_eq_true rfl, Nat.le_of_ble_eq_true rfl⟩)) (fun r_69 er_69 => ?_)
                                have k_70 := er_69
                                refine lv_bipush (v := 32) hx hb dX9_lackingGroup_102 (by decide) ?_
                                have hFc := vfree (rw_D hD : va_D A (rw_W o c kc (rU (rU (rU (rU (rU st 3 s3_87) 4 s4_87) 5 s5_87) 6 s6_87) 12 s12_87) lg (rU ai 0 a0_87) al)) hS hA
                                refine va_callv (va_runV (As := [.int r_69, .int (32 : Int32)]) (rest := []) ⟨hx, hb, hml, hown, hts⟩ (v_X9_erase l dC dI o c kc (rU (rU (rU (rU (rU st 3 s3_87) 4 s4_87) 5 s5_87) 6 s6_87) 12 s12_87) lg (rU ai 0 a0_87) al r_69 (32 : Int32) _ (show 0 ≤ s3_87.toInt by omega) (show s3_87.toInt ≤ 1 by omega) (show 0 ≤ s6_87.toInt by omega) (show s6_87.toInt ≤ 1 by omega) (show 0 ≤ s12_87.toInt by omega) (show s12_87.toInt ≤ 8 by omega) (by omega) (by omega) (by omega) (by omega)) (cwV 2 hts gX9_lackingGroup_X9_erase rfl rfl rfl (by decide +kernel) ⟨Nat.le_of_ble_eq_true rfl, Nat.le_of_ble_eq_true rfl⟩) ⟨fun a U g mk q => by obtain ⟨q0, q1, qP, qK, qD⟩ := q; exact ⟨q0, q1, qP, va_K.moved (u := U) (U := U.calling g mk a) (Vm.Alike.refl U.vm) qK, qD⟩, va_recv hK hP (ci := 11) (q := (RX9, TX9, 38)) rfl (q0 := 0) rfl, fun U hU hW => ⟨rfl, by rw [hU], by rw [hU]; exact hP, va_K.moved hW.alike hK, rw_D (hD.weaken (fun _ _ _ _ => trivial))⟩⟩ rfl rfl hl.1 rfl (lv_room (Nat.le_of_ble_eq_true rfl)) dX9_lackingGroup_104 ⟨Nat.le_of_ble_eq_true rfl, Nat.le_of_ble_eq_true rfl⟩) hS (fun q _ h => hFc q h) hFc (fun ur_71 t H1 locs ht hvm er_71 hB hz1 hk1 hS => ?_)
                                obtain ⟨x3_71, x4_71, x5_71, x6_71, x12_71, f0_71, k_72, k_73, k_74, k_75, k_76, k_77, hP1⟩ := hB
                                rw [ht] at hP1
                                clear hFc hz1 hk1 hvm hP
                                subst ht
                                have hP := hP1
                                clear hP1
                                generalize t.heap = H at hP hS ⊢
                                have hP : va_P (dC, dI) vwCl (rw_W o c kc (rU (rU (rU (rU (rU st 3 x3_71) 4 x4_71) 5 x5_71) 6 x6_71) 12 x12_71) lg (rU ai 0 f0_71) al) H := hP
                                have k_72 : 0 ≤ x3_71.toInt := k_72
                                have k_73 : x3_71.toInt ≤ 1 := k_73
                                have k_74 : 0 ≤ x6_71.toInt := k_74
                                have k_75 : x6_71.toInt ≤ 1 := k_75
                                have k_76 : 0 ≤ x12_71.toInt := k_76
                                have k_77 : x12_71.toInt ≤ 8 := k_77
                                obtain ⟨x_78, ex_78⟩ : ∃ z : Int32, z = l3_87 + (-1) := ⟨_, rfl⟩
                                refine lv_iinc (v := x_78) (lv' := [(3, .int x_78), (2, .int l2_24), (1, .int r_6), (0, .ref o)]) hx hb dX9_lackingGroup_107 hl (k := 0) rfl (by rw [ex_78]; rfl) (by decide) rfl (fun ls hl => ?_)
                                have rg7 := iv_rng l3_87
                                have hx_78 : x_78.toInt = l3_87.toInt + (-1) := by rw [ex_78]; exact (iv_add (by omega) (by omega)).trans (by omega)
                                clear ex_78
                                refine lv_goto (tgt := 87) hx hb dX9_lackingGroup_110 (by decide) ?_
                                exact ih87 x_78 x3_71 x4_71 x5_71 x6_71 x12_71 f0_71 _ _ _ (by omega) (by omega) (by omega) (by omega) (by omega) (by omega) (by omega) (by omega) (by omega) (by omega) (by omega) hP hS (lv_sub hl [0, 1, 2, 3] rfl)
                          exact loop87 ((v_67.toInt - l2_24.toInt + 1 : Int).toNat + 1) v_67 (st 3) (st 4) (st 5) (st 6) (st 12) (ai 0) _ _ _ (by omega) (by omega) (by omega) (by omega) (by omega) (by omega) (by omega) (by omega) (by omega) (by omega) (by omega) hP hS (lv_sub hl [0, 1, 2, 3] rfl)
                · skip
                  have ic_49 := iv_ne c_49
                  obtain ⟨x_79, ex_79⟩ : ∃ z : Int32, z = l2_24 + (-1) := ⟨_, rfl⟩
                  refine lv_iinc (v := x_79) (lv' := [(2, .int x_79), (1, .int r_6), (0, .ref o)]) hx hb dX9_lackingGroup_46 hl (k := 0) rfl (by rw [ex_79]; rfl) (by decide) rfl (fun ls hl => ?_)
                  have rg8 := iv_rng l2_24
                  have hx_79 : x_79.toInt = l2_24.toInt + (-1) := by rw [ex_79]; exact (iv_add (by omega) (by omega)).trans (by omega)
                  clear ex_79
                  refine lv_goto (tgt := 24) hx hb dX9_lackingGroup_49 (by decide) ?_
                  exact ih24 x_79 _ _ _ (by omega) (by omega) (by omega) hP hS (lv_sub hl [0, 1, 2] rfl)
        exact loop24 ((v_8.toInt + 1 : Int).toNat + 1) v_8 _ _ _ (by omega) (by omega) (by omega) hP hS (lv_sub hl [0, 1, 2] rfl)
      · skip
        have ic_5 := iv_nle c_5
        exact W.vret hx hb hr (fun t ht hW => ⟨⟨(), rfl, trivial, st 3, st 4, st 5, st 6, st 12, st 15, ai 0, (by omega), (by omega), (by omega), (by omega), (by omega), (by omega), (by omega), (by omega), by rw [ht]; exact hP⟩, hS.F ht⟩) hS.2.2 dX9_lackingGroup_14
  exact main s.heap [] hP hS
