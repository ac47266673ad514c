set_option maxHeartbeats 4000000 in
set_option maxRecDepth 100000 in
theorem v_X5_readLeaves (l : Launch) (dC : Nat → ClassId) (dI : Nat → Nat → Nat) (c : Nat → Nat) (kc : Nat → ClassId) (st : Nat → Int32) (lg : Nat → Int64) (ai : Nat → Nat → Int32) (al : Nat → Nat → Int64) (R : va_W) (p1 : Int32) (sz : Nat) (hf37a : 0 ≤ (st 37).toInt) (hf37b : (st 37).toInt ≤ 255) (hq0 : 13 ≤ p1.toInt) (hq1 : p1.toInt ≤ 392) (hq2 : (st 37).toInt ≤ 16) (hR4 : aR (ai 4) 400 (-128) 127) (hR32 : aR (ai 32) 16 (0) 400) (hR33 : aR (ai 33) 16 (0) 255) : Met l yX5_readLeaves wsX5_readLeaves ({ frames := 0, cells := 0, slots := 0, locals := 0 }) (va_Pc [.ref (c 107), .ref (c 101), .int p1] (fun U => U.heap.size = sz ∧ va_P (dC, dI) vwCl (cw_W c kc st lg ai al R) U.heap ∧ va_K (dC, dI) vwCl (cw_T kc) U ∧ va_D (fun _ => True) (cw_W c kc st lg ai al R) ∧ gx_E (va_A (cw_W c kc st lg ai al R) sz) U)) (va_Qi (fun r (u : Int32) => r = u) (fun u t => ∃ (f31 : Nat → Int32) (f32 : Nat → Int32) (f33 : Nat → Int32), (0 ≤ u.toInt) ∧ (u.toInt ≤ 1) ∧ (aR f32 16 (0) 400) ∧ (aR f33 16 (0) 255) ∧ (u.toInt = 1 → inI f32 f33 (st 37)) ∧ va_P (dC, dI) vwCl (cw_W c kc st lg (rU (rU (rU ai 31 f31) 32 f32) 33 f33) al R) t.heap) (va_A (cw_W c kc st lg ai al R) sz)) 0 0 (va_A (cw_W c kc st lg ai al R) sz) := by
  refine Met.ofW (cc := cX5_readLeaves) (maxL := 6) (ret := (some .boolean)) (by decide) rfl ?_
  intro p e s m args below meth cM s₁ B hml hv
  obtain ⟨rfl, hsz, hP, hK, hD0, hG⟩ := hv
  have hx := B.exec
  have hb := B.bytes
  have hr := B.returns
  have hts := atoms_spec (ws := wsX5_readLeaves) B.pre
  have hown : s.vm.findClass RX5 = some m.cls := findClass_of_methodNamed B.named
  have hGW := hG.1
  subst hsz
  have hD := hD0.self (sz := s.heap.size)
  generalize hAe : va_A (cw_W c kc st lg ai al R) s.heap.size = A at hD hG ⊢
  have hA : ∀ q : Nat, s.heap.size ≤ q → A q := fun q h => by rw [← hAe]; exact Or.inr h
  have hS : va_S A s.heap s.heap [] := va_S.rf
  clear hAe hD0
  have hl := lv_entry ([.ref (c 107), .ref (c 101), .int p1]) (n := 6) (Nat.le_of_ble_eq_true rfl)
  rw [lg_entry_eq]
  generalize (lg_sl ([.ref (c 107), .ref (c 101), .int p1]) ++ List.replicate (6 - (lg_sl ([.ref (c 107), .ref (c 101), .int p1])).length) Slot.unset).toArray = ls at hl ⊢
  have hl : lv_has ls 6 [(0, .ref (c 107)), (1, .ref (c 101)), (2, .int p1)] := hl
  have z_0 : (0 : Int32).toInt = 0 := by decide
  have z_1 : (1 : Int32).toInt = 1 := by decide
  have z_2 : (2 : Int32).toInt = 2 := by decide
  have z_13 : (13 : Int32).toInt = 13 := by decide
  have z_16 : (16 : Int32).toInt = 16 := by decide
  have z_255 : (255 : Int32).toInt = 255 := by decide
  have hin_X5 : ∀ w ∈ u_ws RX5 TX5 7, w ∈ wsX5_readLeaves := by decide +kernel
  have hin_X7 : ∀ w ∈ u_ws RX7 TX7 2, w ∈ wsX5_readLeaves := by decide +kernel
  have main : ∀ (H : Heap) (locs : List Loc), va_P (dC, dI) vwCl (cw_W c kc st lg ai al R) H → va_S A s.heap H locs → W p l e (headSpec wsX5_readLeaves ({ frames := 0, cells := 0, slots := 0, locals := 0 })).room s m ([.ref (c 107), .ref (c 101), .int p1] : List Value).toArray below meth cM H locs 0 0 (MQ below (va_Qi (fun r (u : Int32) => r = u) (fun u t => ∃ (f31 : Nat → Int32) (f32 : Nat → Int32) (f33 : Nat → Int32), (0 ≤ u.toInt) ∧ (u.toInt ≤ 1) ∧ (aR f32 16 (0) 400) ∧ (aR f33 16 (0) 255) ∧ (u.toInt = 1 → inI f32 f33 (st 37)) ∧ va_P (dC, dI) vwCl (cw_W c kc st lg (rU (rU (rU ai 31 f31) 32 f32) 33 f33) al R) t.heap) A) ([.ref (c 107), .ref (c 101), .int p1] : List Value).toArray s 0 0 A) (F0 m 0 ls []) := by
    intro H locs hP hS
    refine lv_bipush (v := 13) hx hb dX5_readLeaves_0 (by decide) ?_
    refine lv_istore_n (lv' := [(3, .int (13 : Int32)), (0, .ref (c 107)), (1, .ref (c 101)), (2, .int p1)]) hx hb dX5_readLeaves_2 rfl hl (by decide) rfl (fun ls hl => ?_)
    refine lv_iconst (v := 0) hx hb dX5_readLeaves_3 (by decide) ?_
    refine lv_istore (lv' := [(4, .int (0 : Int32)), (3, .int (13 : Int32)), (0, .ref (c 107)), (1, .ref (c 101)), (2, .int p1)]) hx hb dX5_readLeaves_4 hl (by decide) rfl (fun ls hl => ?_)
    refine lv_iconst (v := 0) hx hb dX5_readLeaves_6 (by decide) ?_
    refine lv_istore (lv' := [(5, .int (0 : Int32)), (4, .int (0 : Int32)), (3, .int (13 : Int32)), (0, .ref (c 107)), (1, .ref (c 101)), (2, .int p1)]) hx hb dX5_readLeaves_7 hl (by decide) rfl (fun ls hl => ?_)
    have loop9 : ∀ (n : Nat) (l5_9 : Int32) (l4_9 : Int32) (l3_9 : Int32) (a31_9 : Nat → Int32) (a32_9 : Nat → Int32) (a33_9 : Nat → Int32) (H : Heap) (locs : List Loc) (ls : Array Slot), (13 ≤ l3_9.toInt) → (l3_9.toInt ≤ p1.toInt) → (0 ≤ l5_9.toInt) → (l5_9.toInt ≤ (st 37).toInt) → (aR a32_9 16 (0) 400) → (aR a33_9 16 (0) 255) → (inI a32_9 a33_9 l5_9) → ((st 37).toInt - l5_9.toInt : Int).toNat < n → va_P (dC, dI) vwCl (cw_W c kc st lg (rU (rU (rU ai 31 a31_9) 32 a32_9) 33 a33_9) al R) H → va_S A s.heap H locs → lv_has ls 6 [(5, .int l5_9), (4, .int l4_9), (3, .int l3_9), (0, .ref (c 107)), (1, .ref (c 101)), (2, .int p1)] → W p l e (headSpec wsX5_readLeaves ({ frames := 0, cells := 0, slots := 0, locals := 0 })).room s m ([.ref (c 107), .ref (c 101), .int p1] : List Value).toArray below meth cM H locs 0 0 (MQ below (va_Qi (fun r (u : Int32) => r = u) (fun u t => ∃ (f31 : Nat → Int32) (f32 : Nat → Int32) (f33 : Nat → Int32), (0 ≤ u.toInt) ∧ (u.toInt ≤ 1) ∧ (aR f32 16 (0) 400) ∧ (aR f33 16 (0) 255) ∧ (u.toInt = 1 → inI f32 f33 (st 37)) ∧ va_P (dC, dI) vwCl (cw_W c kc st lg (rU (rU (rU ai 31 f31) 32 f32) 33 f33) al R) t.heap) A) ([.ref (c 107), .ref (c 101), .int p1] : List Value).toArray s 0 0 A) (F0 m 9 ls []) := by
      intro n
      induction n with
      | zero => intro l5_9 l4_9 l3_9 a31_9 a32_9 a33_9 H locs ls if0_9 if1_9 if2_9 if3_9 hR32 hR33 hin hm; exact absurd hm (Nat.not_lt_zero _)
      | succ n ih9 =>
        intro l5_9 l4_9 l3_9 a31_9 a32_9 a33_9 H locs ls if0_9 if1_9 if2_9 if3_9 hR32 hR33 hin hm9 hP hS hl
        refine lv_iload hx hb dX5_readLeaves_9 (lv_at hl 0 rfl) ?_
        refine lv_aload_n hx hb dX5_readLeaves_11 rfl (lv_at hl 3 rfl) ?_
        refine va_get (D := (dC, dI)) (ci := 7) (v := .int (st 37)) (C := RX5) (T := TX5) (N := 7) hx hb hts hin_X5 hown hK hP 7 rfl rfl 6 (by decide) (hts (.fieldLink RX5 33 "BlockLog$Snapshot" "count" "I") (by decide +kernel)) (fun _ h9 => h9) rfl dX5_readLeaves_12 ?_
        refine lv_icmp_ge (tgt := 156) hx hb dX5_readLeaves_15 (by decide) (fun c_1 => ?_) (fun c_1 => ?_)
        · skip
          have ic_1 := iv_le c_1
          refine lv_iload_n hx hb dX5_readLeaves_156 rfl (lv_at hl 2 rfl) ?_
          refine lv_iload_n hx hb dX5_readLeaves_157 rfl (lv_at hl 5 rfl) ?_
          refine lv_icmp_ne (tgt := 165) hx hb dX5_readLeaves_158 (by decide) (fun c_2 => ?_) (fun c_2 => ?_)
          · skip
            have ic_2 := iv_ne c_2
            refine lv_iconst (v := 0) hx hb dX5_readLeaves_165 (by decide) ?_
            exact W.zret hx hb hr rfl (fun t ht hW => ⟨⟨_, _, rfl, rfl, a31_9, a32_9, a33_9, (by omega), (by omega), hR32, hR33, (by first | exact fun h => absurd h (by omega) | exact fun _ => inI_e hin (by omega)), by rw [ht]; exact hP⟩, hS.F ht⟩) hS.2.2 dX5_readLeaves_166
          · skip
            have ic_2 := iv_eq c_2
            refine lv_iconst (v := 1) hx hb dX5_readLeaves_161 (by decide) ?_
            refine lv_goto (tgt := 166) hx hb dX5_readLeaves_162 (by decide) ?_
            exact W.zret hx hb hr rfl (fun t ht hW => ⟨⟨_, _, rfl, rfl, a31_9, a32_9, a33_9, (by omega), (by omega), hR32, hR33, (by first | exact fun h => absurd h (by omega) | exact fun _ => inI_e hin (by omega)), by rw [ht]; exact hP⟩, hS.F ht⟩) hS.2.2 dX5_readLeaves_166
        · skip
          have ic_1 := iv_nle c_1
          refine lv_iload_n hx hb dX5_readLeaves_18 rfl (lv_at hl 2 rfl) ?_
          refine lv_iconst (v := 2) hx hb dX5_readLeaves_19 (by decide) ?_
          refine lv_iadd hx hb dX5_readLeaves_20 ?_
          refine lv_topi (fun v_3 ev_3 => ?_)
          have rg1 := iv_rng l3_9
          have hv_3 : v_3.toInt = l3_9.toInt + 2 := by rw [ev_3]; exact (iv_add (by omega) (by omega)).trans (by omega)
          clear ev_3
          refine lv_iload_n hx hb dX5_readLeaves_21 rfl (lv_at hl 5 rfl) ?_
          refine lv_icmp_le (tgt := 27) hx hb dX5_readLeaves_22 (by decide) (fun c_4 => ?_) (fun c_4 => ?_)
          · skip
            have ic_4 := iv_le c_4
            refine lv_aload_n hx hb dX5_readLeaves_27 rfl (lv_at hl 3 rfl) ?_
            refine va_get (D := (dC, dI)) (ci := 7) (v := .ref (c 31)) (C := RX5) (T := TX5) (N := 7) hx hb hts hin_X5 hown hK hP 7 rfl rfl 0 (by decide) (hts (.fieldLink RX5 9 "BlockLog$Snapshot" "slots" "[I") (by decide +kernel)) (fun _ h9 => h9) rfl dX5_readLeaves_28 ?_
            refine lv_iload hx hb dX5_readLeaves_31 (lv_at hl 0 rfl) ?_
            refine lv_aload_n hx hb dX5_readLeaves_33 rfl (lv_at hl 4 rfl) ?_
            refine va_getN (D := (dC, dI)) (ci := 9) (v := .ref (c 4)) (C := RX7) (T := TX7) (N := 2) hx hb hts hin_X7 hown hK hP 1 rfl rfl 0 (by decide) (va_Nw.use rfl (hGW.1 ("BlockLog$Snapshot", 39, "BlockLog$Tape", "bytes", "[B", "BlockLog") (by decide +kernel))) (fun _ h9 => h9) rfl dX5_readLeaves_34 ?_
            refine lv_iload_n hx hb dX5_readLeaves_37 rfl (lv_at hl 2 rfl) ?_
            refine va_bald (f := ai 4) hx hb hK hP 11 3 rfl rfl (iv_in (i := l3_9) (by omega) (by omega)) dX5_readLeaves_38 ?_
            refine lv_topi (fun v_5 ev_5 => ?_)
            have k_6 : -128 ≤ v_5.toInt ∧ v_5.toInt ≤ 127 := aR_get hR4 (by omega) (by omega) ev_5
            clear ev_5
            refine lv_sipush (v := 255) hx hb dX5_readLeaves_39 (by decide) ?_
            refine lv_iand hx hb dX5_readLeaves_42 ?_
            refine lv_topi (fun v_7 ev_7 => ?_)
            have hv_7 : 0 ≤ v_7.toInt ∧ v_7.toInt ≤ 255 := by rw [ev_7]; exact iv_and255 _
            clear ev_7
            refine va_iast (f := a31_9) hx hb hK hP (cw_D hD) hS 22 14 rfl rfl (iv_in (i := l5_9) (by omega) (by omega)) dX5_readLeaves_43 (fun H locs hP _ hS => ?_)
            have hP : va_P (dC, dI) vwCl (cw_W c kc st lg (rU (rU (rU ai 31 (upd a31_9 l5_9.toNatClampNeg v_7)) 32 a32_9) 33 a33_9) al R) H := hP
            generalize hU_snap_slots : upd a31_9 l5_9.toNatClampNeg v_7 = g_8 at hP
            clear hU_snap_slots
            refine lv_aload_n hx hb dX5_readLeaves_44 rfl (lv_at hl 3 rfl) ?_
            refine va_get (D := (dC, dI)) (ci := 7) (v := .ref (c 33)) (C := RX5) (T := TX5) (N := 7) hx hb hts hin_X5 hown hK hP 7 rfl rfl 2 (by decide) (hts (.fieldLink RX5 18 "BlockLog$Snapshot" "sizes" "[I") (by decide +kernel)) (fun _ h9 => h9) rfl dX5_readLeaves_45 ?_
            refine lv_iload hx hb dX5_readLeaves_48 (lv_at hl 0 rfl) ?_
            refine lv_aload_n hx hb dX5_readLeaves_50 rfl (lv_at hl 4 rfl) ?_
            refine va_getN (D := (dC, dI)) (ci := 9) (v := .ref (c 4)) (C := RX7) (T := TX7) (N := 2) hx hb hts hin_X7 hown hK hP 1 rfl rfl 0 (by decide) (va_Nw.use rfl (hGW.1 ("BlockLog$Snapshot", 39, "BlockLog$Tape", "bytes", "[B", "BlockLog") (by decide +kernel))) (fun _ h9 => h9) rfl dX5_readLeaves_51 ?_
            refine lv_iload_n hx hb dX5_readLeaves_54 rfl (lv_at hl 2 rfl) ?_
            refine lv_iconst (v := 1) hx hb dX5_readLeaves_55 (by decide) ?_
            refine lv_iadd hx hb dX5_readLeaves_56 ?_
            refine lv_topi (fun v_9 ev_9 => ?_)
            have hv_9 : v_9.toInt = l3_9.toInt + 1 := by rw [ev_9]; exact (iv_add (by omega) (by omega)).trans (by omega)
            clear ev_9
            refine va_bald (f := ai 4) hx hb hK hP 11 3 rfl rfl (iv_in (i := v_9) (by omega) (by omega)) dX5_readLeaves_57 ?_
            refine lv_topi (fun v_10 ev_10 => ?_)
            have k_11 : -128 ≤ v_10.toInt ∧ v_10.toInt ≤ 127 := aR_get hR4 (by omega) (by omega) ev_10
            clear ev_10
            refine lv_sipush (v := 255) hx hb dX5_readLeaves_58 (by decide) ?_
            refine lv_iand hx hb dX5_readLeaves_61 ?_
            refine lv_topi (fun v_12 ev_12 => ?_)
            have hv_12 : 0 ≤ v_12.toInt ∧ v_12.toInt ≤ 255 := by rw [ev_12]; exact iv_and255 _
            clear ev_12
            refine va_iast (f := a33_9) hx hb hK hP (cw_D hD) hS 24 16 rfl rfl (iv_in (i := l5_9) (by omega) (by omega)) dX5_readLeaves_62 (fun H locs hP _ hS => ?_)
            have hP : va_P (dC, dI) vwCl (cw_W c kc st lg (rU (rU (rU ai 31 g_8) 32 a32_9) 33 (upd a33_9 l5_9.toNatClampNeg v_12)) al R) H := cw_b33 hP
            generalize hU_snap_sizes : upd a33_9 l5_9.toNatClampNeg v_12 = g_13 at hP
            have hR33 : aR g_13 16 (0) 255 := aR_upd hR33 hU_snap_sizes (by omega) (by omega)
            refine lv_aload_n hx hb dX5_readLeaves_63 rfl (lv_at hl 3 rfl) ?_
            refine va_get (D := (dC, dI)) (ci := 7) (v := .ref (c 32)) (C := RX5) (T := TX5) (N := 7) hx hb hts hin_X5 hown hK hP 7 rfl rfl 1 (by decide) (hts (.fieldLink RX5 15 "BlockLog$Snapshot" "starts" "[I") (by decide +kernel)) (fun _ h9 => h9) rfl dX5_readLeaves_64 ?_
            refine lv_iload hx hb dX5_readLeaves_67 (lv_at hl 0 rfl) ?_
            refine lv_iload_n hx hb dX5_readLeaves_69 rfl (lv_at hl 2 rfl) ?_
            refine lv_iconst (v := 2) hx hb dX5_readLeaves_70 (by decide) ?_
            refine lv_iadd hx hb dX5_readLeaves_71 ?_
            refine lv_topi (fun v_14 ev_14 => ?_)
            have hv_14 : v_14.toInt = l3_9.toInt + 2 := by rw [ev_14]; exact (iv_add (by omega) (by omega)).trans (by omega)
            clear ev_14
            refine va_iast (f := a32_9) hx hb hK hP (cw_D hD) hS 23 15 rfl rfl (iv_in (i := l5_9) (by omega) (by omega)) dX5_readLeaves_72 (fun H locs hP _ hS => ?_)
            have hP : va_P (dC, dI) vwCl (cw_W c kc st lg (rU (rU (rU ai 31 g_8) 32 (upd a32_9 l5_9.toNatClampNeg v_14)) 33 g_13) al R) H := hP
            generalize hU_snap_starts : upd a32_9 l5_9.toNatClampNeg v_14 = g_15 at hP
            have hR32 : aR g_15 16 (0) 400 := aR_upd hR32 hU_snap_starts (by omega) (by omega)
            refine lv_iload_n hx hb dX5_readLeaves_73 rfl (lv_at hl 2 rfl) ?_
            refine lv_iconst (v := 2) hx hb dX5_readLeaves_74 (by decide) ?_
            refine lv_aload_n hx hb dX5_readLeaves_75 rfl (lv_at hl 3 rfl) ?_
            refine va_get (D := (dC, dI)) (ci := 7) (v := .ref (c 33)) (C := RX5) (T := TX5) (N := 7) hx hb hts hin_X5 hown hK hP 7 rfl rfl 2 (by decide) (hts (.fieldLink RX5 18 "BlockLog$Snapshot" "sizes" "[I") (by decide +kernel)) (fun _ h9 => h9) rfl dX5_readLeaves_76 ?_
            refine lv_iload hx hb dX5_readLeaves_79 (lv_at hl 0 rfl) ?_
            refine va_iald (f := g_13) hx hb hK hP 24 16 rfl rfl (iv_in (i := l5_9) (by omega) (by omega)) dX5_readLeaves_81 ?_
            refine lv_topi (fun v_16 ev_16 => ?_)
            have k_17 : 0 ≤ v_16.toInt ∧ v_16.toInt ≤ 255 := aR_get hR33 (by omega) (by omega) ev_16
            have hX_snap_sizes := ev_16
            have k_18 : v_16.toInt = (g_13 l5_9.toNatClampNeg).toInt := by rw [ev_16]
            clear ev_16
            refine lv_iadd hx hb dX5_readLeaves_82 ?_
            refine lv_topi (fun v_19 ev_19 => ?_)
            have rg2 := iv_rng v_16
            have hv_19 : v_19.toInt = 2 + v_16.toInt := by rw [ev_19]; exact (iv_add (by omega) (by omega)).trans (by omega)
            clear ev_19
            refine lv_iadd hx hb dX5_readLeaves_83 ?_
            refine lv_topi (fun v_20 ev_20 => ?_)
            have rg3 := iv_rng v_19
            have hv_20 : v_20.toInt = l3_9.toInt + v_19.toInt := by rw [ev_20]; exact (iv_add (by omega) (by omega)).trans (by omega)
            clear ev_20
            have hX1 := hX_snap_sizes
            refine lv_istore_n (lv' := [(3, .int v_20), (5, .int l5_9), (4, .int l4_9), (0, .ref (c 107)), (1, .ref (c 101)), (2, .int p1)]) hx hb dX5_readLeaves_84 rfl hl (by decide) rfl (fun ls hl => ?_)
            refine lv_aload_n hx hb dX5_readLeaves_85 rfl (lv_at hl 3 rfl) ?_
            refine va_get (D := (dC, dI)) (ci := 7) (v := .ref (c 31)) (C := RX5) (T := TX5) (N := 7) hx hb hts hin_X5 hown hK hP 7 rfl rfl 0 (by decide) (hts (.fieldLink RX5 9 "BlockLog$Snapshot" "slots" "[I") (by decide +kernel)) (fun _ h9 => h9) rfl dX5_readLeaves_86 ?_
            refine lv_iload hx hb dX5_readLeaves_89 (lv_at hl 1 rfl) ?_
            refine va_iald (f := g_8) hx hb hK hP 22 14 rfl rfl (iv_in (i := l5_9) (by omega) (by omega)) dX5_readLeaves_91 ?_
            refine lv_topi (fun v_21 ev_21 => ?_)
            clear ev_21
            refine lv_iload hx hb dX5_readLeaves_92 (lv_at hl 2 rfl) ?_
            refine lv_icmp_lt (tgt := 137) hx hb dX5_readLeaves_94 (by decide) (fun c_22 => ?_) (fun c_22 => ?_)
            · skip
              have ic_22 := iv_lt c_22
              refine lv_iconst (v := 0) hx hb dX5_readLeaves_137 (by decide) ?_
              exact W.zret hx hb hr rfl (fun t ht hW => ⟨⟨_, _, rfl, rfl, g_8, g_15, g_13, (by omega), (by omega), hR32, hR33, (by first | exact fun h => absurd h (by omega) | exact fun _ => inI_e hin (by omega)), by rw [ht]; exact hP⟩, hS.F ht⟩) hS.2.2 dX5_readLeaves_138
            · skip
              have ic_22 := iv_nlt c_22
              refine lv_aload_n hx hb dX5_readLeaves_97 rfl (lv_at hl 3 rfl) ?_
              refine va_get (D := (dC, dI)) (ci := 7) (v := .ref (c 31)) (C := RX5) (T := TX5) (N := 7) hx hb hts hin_X5 hown hK hP 7 rfl rfl 0 (by decide) (hts (.fieldLink RX5 9 "BlockLog$Snapshot" "slots" "[I") (by decide +kernel)) (fun _ h9 => h9) rfl dX5_readLeaves_98 ?_
              refine lv_iload hx hb dX5_readLeaves_101 (lv_at hl 1 rfl) ?_
              refine va_iald (f := g_8) hx hb hK hP 22 14 rfl rfl (iv_in (i := l5_9) (by omega) (by omega)) dX5_readLeaves_103 ?_
              refine lv_topi (fun v_23 ev_23 => ?_)
              clear ev_23
              refine lv_bipush (v := 16) hx hb dX5_readLeaves_104 (by decide) ?_
              refine lv_icmp_ge (tgt := 137) hx hb dX5_readLeaves_106 (by decide) (fun c_24 => ?_) (fun c_24 => ?_)
              · skip
                have ic_24 := iv_le c_24
                refine lv_iconst (v := 0) hx hb dX5_readLeaves_137 (by decide) ?_
                exact W.zret hx hb hr rfl (fun t ht hW => ⟨⟨_, _, rfl, rfl, g_8, g_15, g_13, (by omega), (by omega), hR32, hR33, (by first | exact fun h => absurd h (by omega) | exact fun _ => inI_e hin (by omega)), by rw [ht]; exact hP⟩, hS.F ht⟩) hS.2.2 dX5_readLeaves_138
              · skip
                have ic_24 := iv_nle c_24
                refine lv_aload_n hx hb dX5_readLeaves_109 rfl (lv_at hl 3 rfl) ?_
                refine va_get (D := (dC, dI)) (ci := 7) (v := .ref (c 33)) (C := RX5) (T := TX5) (N := 7) hx hb hts hin_X5 hown hK hP 7 rfl rfl 2 (by decide) (hts (.fieldLink RX5 18 "BlockLog$Snapshot" "sizes" "[I") (by decide +kernel)) (fun _ h9 => h9) rfl dX5_readLeaves_110 ?_
                refine lv_iload hx hb dX5_readLeaves_113 (lv_at hl 1 rfl) ?_
                refine va_iald (f := g_13) hx hb hK hP 24 16 rfl rfl (iv_in (i := l5_9) (by omega) (by omega)) dX5_readLeaves_115 ?_
                refine lv_topi (fun v_25 ev_25 => ?_)
                have k_26 : 0 ≤ v_25.toInt ∧ v_25.toInt ≤ 255 := aR_get hR33 (by omega) (by omega) ev_25
                have hX_snap_sizes := ev_25
                have k_27 : v_25.toInt = (g_13 l5_9.toNatClampNeg).toInt := by rw [ev_25]
                clear ev_25
                refine lv_iconst (v := 1) hx hb dX5_readLeaves_116 (by decide) ?_
                refine lv_icmp_lt (tgt := 137) hx hb dX5_readLeaves_117 (by decide) (fun c_28 => ?_) (fun c_28 => ?_)
                · skip
                  have ic_28 := iv_lt c_28
                  refine lv_iconst (v := 0) hx hb dX5_readLeaves_137 (by decide) ?_
                  exact W.zret hx hb hr rfl (fun t ht hW => ⟨⟨_, _, rfl, rfl, g_8, g_15, g_13, (by omega), (by omega), hR32, hR33, (by first | exact fun h => absurd h (by omega) | exact fun _ => inI_e hin (by omega)), by rw [ht]; exact hP⟩, hS.F ht⟩) hS.2.2 dX5_readLeaves_138
                · skip
                  have ic_28 := iv_nlt c_28
                  refine lv_aload_n hx hb dX5_readLeaves_120 rfl (lv_at hl 3 rfl) ?_
                  refine va_get (D := (dC, dI)) (ci := 7) (v := .ref (c 33)) (C := RX5) (T := TX5) (N := 7) hx hb hts hin_X5 hown hK hP 7 rfl rfl 2 (by decide) (hts (.fieldLink RX5 18 "BlockLog$Snapshot" "sizes" "[I") (by decide +kernel)) (fun _ h9 => h9) rfl dX5_readLeaves_121 ?_
                  refine lv_iload hx hb dX5_readLeaves_124 (lv_at hl 1 rfl) ?_
                  refine va_iald (f := g_13) hx hb hK hP 24 16 rfl rfl (iv_in (i := l5_9) (by omega) (by omega)) dX5_readLeaves_126 ?_
                  refine lv_topi (fun v_29 ev_29 => ?_)
                  have k_30 : 0 ≤ v_29.toInt ∧ v_29.toInt ≤ 255 := aR_get hR33 (by omega) (by omega) ev_29
                  have hX_snap_sizes := ev_29
                  have k_31 : v_29.toInt = (g_13 l5_9.toNatClampNeg).toInt := by rw [ev_29]
                  clear ev_29
                  refine lv_bipush (v := 16) hx hb dX5_readLeaves_127 (by decide) ?_
                  refine lv_icmp_gt (tgt := 137) hx hb dX5_readLeaves_129 (by decide) (fun c_32 => ?_) (fun c_32 => ?_)
                  · skip
                    have ic_32 := iv_lt c_32
                    refine lv_iconst (v := 0) hx hb dX5_readLeaves_137 (by decide) ?_
                    exact W.zret hx hb hr rfl (fun t ht hW => ⟨⟨_, _, rfl, rfl, g_8, g_15, g_13, (by omega), (by omega), hR32, hR33, (by first | exact fun h => absurd h (by omega) | exact fun _ => inI_e hin (by omega)), by rw [ht]; exact hP⟩, hS.F ht⟩) hS.2.2 dX5_readLeaves_138
                  · skip
                    have ic_32 := iv_nlt c_32
                    refine lv_iload_n hx hb dX5_readLeaves_132 rfl (lv_at hl 0 rfl) ?_
                    refine lv_iload_n hx hb dX5_readLeaves_133 rfl (lv_at hl 5 rfl) ?_
                    refine lv_icmp_le (tgt := 139) hx hb dX5_readLeaves_134 (by decide) (fun c_33 => ?_) (fun c_33 => ?_)
                    · skip
                      have ic_33 := iv_le c_33
                      refine lv_aload_n hx hb dX5_readLeaves_139 rfl (lv_at hl 3 rfl) ?_
                      refine va_get (D := (dC, dI)) (ci := 7) (v := .ref (c 31)) (C := RX5) (T := TX5) (N := 7) hx hb hts hin_X5 hown hK hP 7 rfl rfl 0 (by decide) (hts (.fieldLink RX5 9 "BlockLog$Snapshot" "slots" "[I") (by decide +kernel)) (fun _ h9 => h9) rfl dX5_readLeaves_140 ?_
                      refine lv_iload hx hb dX5_readLeaves_143 (lv_at hl 1 rfl) ?_
                      refine va_iald (f := g_8) hx hb hK hP 22 14 rfl rfl (iv_in (i := l5_9) (by omega) (by omega)) dX5_readLeaves_145 ?_
                      refine lv_topi (fun v_34 ev_34 => ?_)
                      clear ev_34
                      refine lv_iconst (v := 1) hx hb dX5_readLeaves_146 (by decide) ?_
                      refine lv_iadd hx hb dX5_readLeaves_147 ?_
                      refine lv_topi (fun v_35 ev_35 => ?_)
                      clear ev_35
                      refine lv_istore (lv' := [(4, .int v_35), (3, .int v_20), (5, .int l5_9), (0, .ref (c 107)), (1, .ref (c 101)), (2, .int p1)]) hx hb dX5_readLeaves_148 hl (by decide) rfl (fun ls hl => ?_)
                      obtain ⟨x_36, ex_36⟩ : ∃ z : Int32, z = l5_9 + (1) := ⟨_, rfl⟩
                      refine lv_iinc (v := x_36) (lv' := [(5, .int x_36), (4, .int v_35), (3, .int v_20), (0, .ref (c 107)), (1, .ref (c 101)), (2, .int p1)]) hx hb dX5_readLeaves_150 hl (k := 2) rfl (by rw [ex_36]; rfl) (by decide) rfl (fun ls hl => ?_)
                      have rg4 := iv_rng l5_9
                      have hx_36 : x_36.toInt = l5_9.toInt + (1) := by rw [ex_36]; exact (iv_add (by omega) (by omega)).trans (by omega)
                      clear ex_36
                      refine lv_goto (tgt := 9) hx hb dX5_readLeaves_153 (by decide) ?_
                      exact ih9 x_36 v_35 v_20 g_8 g_15 g_13 _ _ _ (by omega) (by omega) (by omega) (by omega) (by assumption) (by assumption) (inI_s hin hU_snap_sizes hU_snap_starts hX1 hX_snap_sizes (by omega) (by omega) (by omega) (by omega) (by omega) (by omega)) (by omega) hP hS (lv_sub hl [0, 1, 2, 3, 4, 5] rfl)
                    · skip
                      have ic_33 := iv_nle c_33
                      refine lv_iconst (v := 0) hx hb dX5_readLeaves_137 (by decide) ?_
                      exact W.zret hx hb hr rfl (fun t ht hW => ⟨⟨_, _, rfl, rfl, g_8, g_15, g_13, (by omega), (by omega), hR32, hR33, (by first | exact fun h => absurd h (by omega) | exact fun _ => inI_e hin (by omega)), by rw [ht]; exact hP⟩, hS.F ht⟩) hS.2.2 dX5_readLeaves_138
          · skip
            have ic_4 := iv_nle c_4
            refine lv_iconst (v := 0) hx hb dX5_readLeaves_25 (by decide) ?_
            exact W.zret hx hb hr rfl (fun t ht hW => ⟨⟨_, _, rfl, rfl, a31_9, a32_9, a33_9, (by omega), (by omega), hR32, hR33, (by first | exact fun h => absurd h (by omega) | exact fun _ => inI_e hin (by omega)), by rw [ht]; exact hP⟩, hS.F ht⟩) hS.2.2 dX5_readLeaves_26
    exact loop9 (((st 37).toInt - 0 : Int).toNat + 1) (0 : Int32) (0 : Int32) (13 : Int32) (ai 31) (ai 32) (ai 33) _ _ _ (by omega) (by omega) (by omega) (by omega) (by assumption) (by assumption) (inI_0 (by omega)) (by omega) hP hS (lv_sub hl [0, 1, 2, 3, 4, 5] rfl)
  exact main s.heap [] hP hS

set_option maxHeartbeats 4000000 in
set_option maxRecDepth 100000 in
theorem v_X5_read (l : Launch) (dC : Nat → ClassId) (dI : Nat → Nat → Nat) (c : Nat → Nat) (kc : Nat → ClassId) (st : Nat → Int32) (lg : Nat → Int64) (ai : Nat → Nat → Int32) (al : Nat → Nat → Int64) (R : va_W)  (sz : Nat) (hf5a : 0 ≤ (st 5).toInt) (hf5b : (st 5).toInt ≤ 400) (hf37a : 0 ≤ (st 37).toInt) (hf37b : (st 37).toInt ≤ 255) (hR4 : aR (ai 4) 400 (-128) 127) (hR32 : aR (ai 32) 16 (0) 400) (hR33 : aR (ai 33) 16 (0) 255) : Met l yX5_read wsX5_read ({ frames := 2, cells := 0, slots := 0, locals := 50 }) (va_Pc [.ref (c 107), .ref (c 101)] (fun U => U.heap.size = sz ∧ va_P (dC, dI) vwCl (cw_W c kc st lg ai al R) U.heap ∧ va_K (dC, dI) vwCl (cw_T kc) U ∧ va_D (fun _ => True) (cw_W c kc st lg ai al R) ∧ gx_E (va_A (cw_W c kc st lg ai al R) sz) U)) (va_Qi (fun r (u : Int32) => r = u) (fun u t => ∃ (x35 : Int32) (x37 : Int32) (y36 : Int64) (f31 : Nat → Int32) (f32 : Nat → Int32) (f33 : Nat → Int32), (u.toInt = 1 → x37.toInt ≤ 16) ∧ (0 ≤ u.toInt) ∧ (u.toInt ≤ 1) ∧ (0 ≤ x37.toInt) ∧ (x37.toInt ≤ 255) ∧ (aR f32 16 (0) 400) ∧ (aR f33 16 (0) 255) ∧ (u.toInt = 1 → inI f32 f33 x37) ∧ va_P (dC, dI) vwCl (cw_W c kc (rU (rU st 35 x35) 37 x37) (rU lg 36 y36) (rU (rU (rU ai 31 f31) 32 f32) 33 f33) al R) t.heap) (va_A (cw_W c kc st lg ai al R) sz)) 0 0 (va_A (cw_W c kc st lg ai al R) sz) := by
  refine Met.ofW (cc := cX5_read) (maxL := 3) (ret := (some .boolean)) (by decide) rfl ?_
  intro p e s m args below meth cM s₁ B hml hv
  obtain ⟨rfl, hsz, hP, hK, hD0, hG⟩ := hv
  have hx := B.exec
  have hb := B.bytes
  have hr := B.returns
  have hts := atoms_spec (ws := wsX5_read) B.pre
  have hown : s.vm.findClass RX5 = some m.cls := findClass_of_methodNamed B.named
  have hGW := hG.1
  subst hsz
  have hD := hD0.self (sz := s.heap.size)
  generalize hAe : va_A (cw_W c kc st lg ai al R) s.heap.size = A at hD hG ⊢
  have hA : ∀ q : Nat, s.heap.size ≤ q → A q := fun q h => by rw [← hAe]; exact Or.inr h
  have hS : va_S A s.heap s.heap [] := va_S.rf
  clear hAe hD0
  have hl := lv_entry ([.ref (c 107), .ref (c 101)]) (n := 3) (Nat.le_of_ble_eq_true rfl)
  rw [lg_entry_eq]
  generalize (lg_sl ([.ref (c 107), .ref (c 101)]) ++ List.replicate (3 - (lg_sl ([.ref (c 107), .ref (c 101)])).length) Slot.unset).toArray = ls at hl ⊢
  have hl : lv_has ls 3 [(0, .ref (c 107)), (1, .ref (c 101))] := hl
  have z_0 : (0 : Int32).toInt = 0 := by decide
  have z_1 : (1 : Int32).toInt = 1 := by decide
  have z_4 : (4 : Int32).toInt = 4 := by decide
  have z_5 : (5 : Int32).toInt = 5 := by decide
  have z_8 : (8 : Int32).toInt = 8 := by decide
  have z_12 : (12 : Int32).toInt = 12 := by decide
  have z_13 : (13 : Int32).toInt = 13 := by decide
  have z_16 : (16 : Int32).toInt = 16 := by decide
  have z_255 : (255 : Int32).toInt = 255 := by decide
  have hin_X5 : ∀ w ∈ u_ws RX5 TX5 7, w ∈ wsX5_read := by decide +kernel
  have hin_X7 : ∀ w ∈ u_ws RX7 TX7 2, w ∈ wsX5_read := by decide +kernel
  have main : ∀ (H : Heap) (locs : List Loc), va_P (dC, dI) vwCl (cw_W c kc st lg ai al R) H → va_S A s.heap H locs → W p l e (headSpec wsX5_read ({ frames := 2, cells := 0, slots := 0, locals := 50 })).room s m ([.ref (c 107), .ref (c 101)] : List Value).toArray below meth cM H locs 0 0 (MQ below (va_Qi (fun r (u : Int32) => r = u) (fun u t => ∃ (x35 : Int32) (x37 : Int32) (y36 : Int64) (f31 : Nat → Int32) (f32 : Nat → Int32) (f33 : Nat → Int32), (u.toInt = 1 → x37.toInt ≤ 16) ∧ (0 ≤ u.toInt) ∧ (u.toInt ≤ 1) ∧ (0 ≤ x37.toInt) ∧ (x37.toInt ≤ 255) ∧ (aR f32 16 (0) 400) ∧ (aR f33 16 (0) 255) ∧ (u.toInt = 1 → inI f32 f33 x37) ∧ va_P (dC, dI) vwCl (cw_W c kc (rU (rU st 35 x35) 37 x37) (rU lg 36 y36) (rU (rU (rU ai 31 f31) 32 f32) 33 f33) al R) t.heap) A) ([.ref (c 107), .ref (c 101)] : List Value).toArray s 0 0 A) (F0 m 0 ls []) := by
    intro H locs hP hS
    refine lv_aload_n hx hb dX5_read_0 rfl (lv_at hl 1 rfl) ?_
    refine va_getN (D := (dC, dI)) (ci := 9) (v := .int (st 5)) (C := RX7) (T := TX7) (N := 2) hx hb hts hin_X7 hown hK hP 1 rfl rfl 1 (by decide) (va_Nw.use rfl (hGW.1 ("BlockLog$Snapshot", 36, "BlockLog$Tape", "count", "I", "BlockLog") (by decide +kernel))) (fun _ h9 => h9) rfl dX5_read_1 ?_
    refine lv_bipush (v := 8) hx hb dX5_read_4 (by decide) ?_
    refine lv_isub hx hb dX5_read_6 ?_
    refine lv_topi (fun v_1 ev_1 => ?_)
    have rg1 := iv_rng (st 5)
    have hv_1 : v_1.toInt = (st 5).toInt - 8 := by rw [ev_1]; exact (iv_sub (by omega) (by omega)).trans (by omega)
    clear ev_1
    refine lv_istore_n (lv' := [(2, .int v_1), (0, .ref (c 107)), (1, .ref (c 101))]) hx hb dX5_read_7 rfl hl (by decide) rfl (fun ls hl => ?_)
    refine lv_iload_n hx hb dX5_read_8 rfl (lv_at hl 0 rfl) ?_
    refine lv_bipush (v := 13) hx hb dX5_read_9 (by decide) ?_
    refine lv_icmp_ge (tgt := 16) hx hb dX5_read_11 (by decide) (fun c_2 => ?_) (fun c_2 => ?_)
    · skip
      have ic_2 := iv_le c_2
      refine lv_aload_n hx hb dX5_read_16 rfl (lv_at hl 1 rfl) ?_
      refine lv_aload_n hx hb dX5_read_17 rfl (lv_at hl 2 rfl) ?_
      refine va_getN (D := (dC, dI)) (ci := 9) (v := .ref (c 4)) (C := RX7) (T := TX7) (N := 2) hx hb hts hin_X7 hown hK hP 1 rfl rfl 0 (by decide) (va_Nw.use rfl (hGW.1 ("BlockLog$Snapshot", 39, "BlockLog$Tape", "bytes", "[B", "BlockLog") (by decide +kernel))) (fun _ h9 => h9) rfl dX5_read_18 ?_
      refine lv_iconst (v := 0) hx hb dX5_read_21 (by decide) ?_
      refine vp_callSi (va_Run.run (va_runS (As := [.ref (c 4), .int (0 : Int32)]) (rest := [.ref (c 107)]) ⟨hx, hb, hml, hown, hts⟩ (v_X0_intAt l dC dI (cw_W c kc st lg ai al R) (cw_T kc) (c 4) 400 (kc 4) (ai 4) 11 3 (0 : Int32) rfl rfl (by omega) (by omega) (by omega)) (va_cwS 2 hts gX5_read_X0_intAt rfl rfl rfl (by decide +kernel) ⟨Nat.le_of_ble_eq_true rfl, Nat.le_of_ble_eq_true rfl⟩) ⟨fun a U g mk q => by obtain ⟨q0, qP, qK⟩ := q; exact ⟨q0, qP, va_K.moved (u := U) (U := U.calling g mk a) (Vm.Alike.refl U.vm) qK⟩, fun U hU hW => ⟨rfl, by rw [hU]; exact hP, va_K.moved hW.alike hK⟩⟩ rfl rfl hl.1 rfl (lv_room (Nat.le_of_ble_eq_true rfl)) dX5_read_22 ⟨Nat.le_of_ble_eq_true rfl, Nat.le_of_ble_eq_true rfl⟩)) (fun r_3 er_3 => ?_)
      have hia := er_3
      have hia : r_3 = iR (ai 4) (0 : Int32) 4 := hia
      refine va_put (D := (dC, dI)) (ci := 7) (v := .int r_3) (ty := .int) (C := RX5) (T := TX5) (N := 7) hx hb hts hin_X5 tyX5 tyX5_ok nmX5 hown hK hP (cw_D hD) hS 7 rfl rfl 4 (by decide) (hts (.fieldLink RX5 25 "BlockLog$Snapshot" "height" "I") (by decide +kernel)) (fun _ h9 => h9) rfl (by decide +kernel) rfl rfl (Nat.le_of_ble_eq_true rfl) dX5_read_25 (fun H locs hP _ hS => ?_)
      have hP : va_P (dC, dI) vwCl (cw_W c kc (rU st 35 r_3) lg ai al R) H := hP
      refine lv_aload_n hx hb dX5_read_28 rfl (lv_at hl 1 rfl) ?_
      refine lv_aload_n hx hb dX5_read_29 rfl (lv_at hl 2 rfl) ?_
      refine va_getN (D := (dC, dI)) (ci := 9) (v := .ref (c 4)) (C := RX7) (T := TX7) (N := 2) hx hb hts hin_X7 hown hK hP 1 rfl rfl 0 (by decide) (va_Nw.use rfl (hGW.1 ("BlockLog$Snapshot", 39, "BlockLog$Tape", "bytes", "[B", "BlockLog") (by decide +kernel))) (fun _ h9 => h9) rfl dX5_read_30 ?_
      refine lv_iconst (v := 4) hx hb dX5_read_33 (by decide) ?_
      refine vp_callSl (va_Run.run (va_runS (As := [.ref (c 4), .int (4 : Int32)]) (rest := [.ref (c 107)]) ⟨hx, hb, hml, hown, hts⟩ (v_X0_longAt l dC dI (cw_W c kc (rU st 35 r_3) lg ai al R) (cw_T kc) (c 4) 400 (kc 4) (ai 4) 11 3 (4 : Int32) rfl rfl (by omega) (by omega) (by omega)) (va_cwS 2 hts gX5_read_X0_longAt rfl rfl rfl (by decide +kernel) ⟨Nat.le_of_ble_eq_true rfl, Nat.le_of_ble_eq_true rfl⟩) ⟨fun a U g mk q => by obtain ⟨q0, qP, qK⟩ := q; exact ⟨q0, qP, va_K.moved (u := U) (U := U.calling g mk a) (Vm.Alike.refl U.vm) qK⟩, fun U hU hW => ⟨rfl, by rw [hU]; exact hP, va_K.moved hW.alike hK⟩⟩ rfl rfl hl.1 rfl (lv_room (Nat.le_of_ble_eq_true rfl)) dX5_read_34 ⟨Nat.le_of_ble_eq_true rfl, Nat.le_of_ble_eq_true rfl⟩)) (fun r_4 er_4 => ?_)
      refine va_put (D := (dC, dI)) (ci := 7) (v := .long r_4) (ty := .long) (C := RX5) (T := TX5) (N := 7) hx hb hts hin_X5 tyX5 tyX5_ok nmX5 hown hK hP (cw_D hD) hS 7 rfl rfl 5 (by decide) (hts (.fieldLink RX5 29 "BlockLog$Snapshot" "block" "J") (by decide +kernel)) (fun _ h9 => h9) rfl (by decide +kernel) rfl rfl (Nat.le_of_ble_eq_true rfl) dX5_read_37 (fun H locs hP _ hS => ?_)
      have hP : va_P (dC, dI) vwCl (cw_W c kc (rU st 35 r_3) (rU lg 36 r_4) ai al R) H := hP
      refine lv_aload_n hx hb dX5_read_40 rfl (lv_at hl 1 rfl) ?_
      refine lv_aload_n hx hb dX5_read_41 rfl (lv_at hl 2 rfl) ?_
      refine va_getN (D := (dC, dI)) (ci := 9) (v := .ref (c 4)) (C := RX7) (T := TX7) (N := 2) hx hb hts hin_X7 hown hK hP 1 rfl rfl 0 (by decide) (va_Nw.use rfl (hGW.1 ("BlockLog$Snapshot", 39, "BlockLog$Tape", "bytes", "[B", "BlockLog") (by decide +kernel))) (fun _ h9 => h9) rfl dX5_read_42 ?_
      refine lv_bipush (v := 12) hx hb dX5_read_45 (by decide) ?_
      refine va_bald (f := ai 4) hx hb hK hP 11 3 rfl rfl (iv_in (i := (12 : Int32)) (by omega) (by omega)) dX5_read_47 ?_
      refine lv_topi (fun v_5 ev_5 => ?_)
      have k_6 : -128 ≤ v_5.toInt ∧ v_5.toInt ≤ 127 := aR_get hR4 (by omega) (by omega) ev_5
      clear ev_5
      refine lv_sipush (v := 255) hx hb dX5_read_48 (by decide) ?_
      refine lv_iand hx hb dX5_read_51 ?_
      refine lv_topi (fun v_7 ev_7 => ?_)
      have hv_7 : 0 ≤ v_7.toInt ∧ v_7.toInt ≤ 255 := by rw [ev_7]; exact iv_and255 _
      clear ev_7
      refine va_put (D := (dC, dI)) (ci := 7) (v := .int v_7) (ty := .int) (C := RX5) (T := TX5) (N := 7) hx hb hts hin_X5 tyX5 tyX5_ok nmX5 hown hK hP (cw_D hD) hS 7 rfl rfl 6 (by decide) (hts (.fieldLink RX5 33 "BlockLog$Snapshot" "count" "I") (by decide +kernel)) (fun _ h9 => h9) rfl (by decide +kernel) rfl rfl (Nat.le_of_ble_eq_true rfl) dX5_read_52 (fun H locs hP _ hS => ?_)
      have hP : va_P (dC, dI) vwCl (cw_W c kc (rU (rU st 35 r_3) 37 v_7) (rU lg 36 r_4) ai al R) H := hP
      refine lv_aload_n hx hb dX5_read_55 rfl (lv_at hl 1 rfl) ?_
      refine va_get (D := (dC, dI)) (ci := 7) (v := .int r_3) (C := RX5) (T := TX5) (N := 7) hx hb hts hin_X5 hown hK hP 7 rfl rfl 4 (by decide) (hts (.fieldLink RX5 25 "BlockLog$Snapshot" "height" "I") (by decide +kernel)) (fun _ h9 => h9) rfl dX5_read_56 ?_
      refine vp_callSi (va_Run.run (va_runSN (As := [.int r_3]) (rest := []) ⟨hx, hb, hml, hown, hts⟩ (v_X8_isHeight l dC dI r_3 ) ⟨va_cnB 1 hts ggX5_read_X8_isHeight rfl rfl rfl (hGW.2.2.2.2.2.1 ("BlockLog$Snapshot", 53, yX8_isHeight, "BlockLog") (by decide +kernel)) (hts (.initialized RX8) (by decide +kernel)) (by decide +kernel) ⟨Nat.le_of_ble_eq_true rfl, Nat.le_of_ble_eq_true rfl⟩, hts (.static yX8_isHeight) (by decide +kernel), trivial⟩ ⟨fun a U g mk q => q, fun U hU hW => ⟨rfl, trivial⟩⟩ rfl rfl hl.1 rfl (lv_room (Nat.le_of_ble_eq_true rfl)) dX5_read_59 ⟨Nat.le_of_ble_eq_true rfl, Nat.le_of_ble_eq_true rfl⟩)) (fun r_8 er_8 => ?_)
      obtain ⟨k_9, k_10⟩ := er_8
      rcases iv_01 (a := r_8) (by omega) (by omega) with b_11 | b_11
      · skip
        have ib_11 := iv_eq b_11
        rw [b_11]
        refine lv_if_eq (tgt := 118) hx hb dX5_read_62 (by decide) (fun c_12 => ?_) (fun c_12 => ?_)
        · skip
          have ic_12 := iv_eq c_12
          refine lv_iconst (v := 0) hx hb dX5_read_118 (by decide) ?_
          exact W.zret hx hb hr rfl (fun t ht hW => ⟨⟨_, _, rfl, rfl, r_3, v_7, r_4, ai 31, ai 32, ai 33, (by omega), (by omega), (by omega), (by omega), (by omega), hR32, hR33, (by first | exact fun h => absurd h (by omega) | exact fun _ => hin (by omega)), by rw [ht]; exact hP⟩, hS.F ht⟩) hS.2.2 dX5_read_119
        · skip
          have ic_12 := iv_ne c_12
          exfalso
          omega
      · skip
        have ib_11 := iv_eq b_11
        rw [b_11]
        refine lv_if_eq (tgt := 118) hx hb dX5_read_62 (by decide) (fun c_13 => ?_) (fun c_13 => ?_)
        · skip
          have ic_13 := iv_eq c_13
          exfalso
          omega
        · skip
          have ic_13 := iv_ne c_13
          refine lv_aload_n hx hb dX5_read_65 rfl (lv_at hl 1 rfl) ?_
          refine va_get (D := (dC, dI)) (ci := 7) (v := .long r_4) (C := RX5) (T := TX5) (N := 7) hx hb hts hin_X5 hown hK hP 7 rfl rfl 5 (by decide) (hts (.fieldLink RX5 29 "BlockLog$Snapshot" "block" "J") (by decide +kernel)) (fun _ h9 => h9) rfl dX5_read_66 ?_
          refine lv_lconst (v := 0) hx hb dX5_read_69 (by decide) ?_
          refine W.lcmp hx hb dX5_read_70 ?_
          refine lv_topi (fun v_14 ev_14 => ?_)
          clear ev_14
          refine lv_if_eq (tgt := 118) hx hb dX5_read_71 (by decide) (fun c_15 => ?_) (fun c_15 => ?_)
          · skip
            have ic_15 := iv_eq c_15
            refine lv_iconst (v := 0) hx hb dX5_read_118 (by decide) ?_
            exact W.zret hx hb hr rfl (fun t ht hW => ⟨⟨_, _, rfl, rfl, r_3, v_7, r_4, ai 31, ai 32, ai 33, (by omega), (by omega), (by omega), (by omega), (by omega), hR32, hR33, (by first | exact fun h => absurd h (by omega) | exact fun _ => hin (by omega)), by rw [ht]; exact hP⟩, hS.F ht⟩) hS.2.2 dX5_read_119
          · skip
            have ic_15 := iv_ne c_15
            refine lv_aload_n hx hb dX5_read_74 rfl (lv_at hl 1 rfl) ?_
            refine va_get (D := (dC, dI)) (ci := 7) (v := .int v_7) (C := RX5) (T := TX5) (N := 7) hx hb hts hin_X5 hown hK hP 7 rfl rfl 6 (by decide) (hts (.fieldLink RX5 33 "BlockLog$Snapshot" "count" "I") (by decide +kernel)) (fun _ h9 => h9) rfl dX5_read_75 ?_
            refine lv_bipush (v := 16) hx hb dX5_read_78 (by decide) ?_
            refine lv_icmp_gt (tgt := 118) hx hb dX5_read_80 (by decide) (fun c_16 => ?_) (fun c_16 => ?_)
            · skip
              have ic_16 := iv_lt c_16
              refine lv_iconst (v := 0) hx hb dX5_read_118 (by decide) ?_
              exact W.zret hx hb hr rfl (fun t ht hW => ⟨⟨_, _, rfl, rfl, r_3, v_7, r_4, ai 31, ai 32, ai 33, (by omega), (by omega), (by omega), (by omega), (by omega), hR32, hR33, (by first | exact fun h => absurd h (by omega) | exact fun _ => hin (by omega)), by rw [ht]; exact hP⟩, hS.F ht⟩) hS.2.2 dX5_read_119
            · skip
              have ic_16 := iv_nlt c_16
              refine lv_aload_n hx hb dX5_read_83 rfl (lv_at hl 1 rfl) ?_
              refine lv_aload_n hx hb dX5_read_84 rfl (lv_at hl 2 rfl) ?_
              refine lv_iload_n hx hb dX5_read_85 rfl (lv_at hl 0 rfl) ?_
              have hFc := vfree ((cw_D hD : va_D A (cw_W c kc (rU (rU st 35 r_3) 37 v_7) (rU lg 36 r_4) ai al R)) : va_D A (cw_W c kc (rU (rU st 35 r_3) 37 v_7) (rU lg 36 r_4) ai al R)) hS hA
              refine va_calli (va_runV (As := [.ref (c 101), .int v_1]) (rest := []) ⟨hx, hb, hml, hown, hts⟩ (v_X5_readLeaves l dC dI c kc (rU (rU st 35 r_3) 37 v_7) (rU lg 36 r_4) ai al R v_1 _ (show 0 ≤ v_7.toInt by omega) (show v_7.toInt ≤ 255 by omega) (by omega) (by omega) (show v_7.toInt ≤ 16 by omega) (show aR (ai 4) 400 (-128) 127 from hR4) (show aR (ai 32) 16 (0) 400 from hR32) (show aR (ai 33) 16 (0) 255 from hR33)) (cwV 2 hts gX5_read_X5_readLeaves rfl rfl rfl (by decide +kernel) ⟨Nat.le_of_ble_eq_true rfl, Nat.le_of_ble_eq_true rfl⟩) ⟨fun a U g mk q => by obtain ⟨q0, q1, qP, qK, qD, qG⟩ := q; exact ⟨q0, q1, qP, va_K.moved (u := U) (U := U.calling g mk a) (Vm.Alike.refl U.vm) qK, qD, qG.same rfl rfl⟩, va_recv hK hP (ci := 7) (q := (RX5, TX5, 7)) rfl (q0 := 7) rfl, fun U hU hW => ⟨rfl, by rw [hU], by rw [hU]; exact hP, va_K.moved hW.alike hK, ((cw_D hD : va_D A (cw_W c kc (rU (rU st 35 r_3) 37 v_7) (rU lg 36 r_4) ai al R))).weaken (fun _ _ _ _ => trivial), hG.go hW hU hS hFc⟩⟩ rfl rfl hl.1 rfl (lv_room (Nat.le_of_ble_eq_true rfl)) dX5_read_86 ⟨Nat.le_of_ble_eq_true rfl, Nat.le_of_ble_eq_true rfl⟩) hS (fun q _ h => hFc q h) hFc (fun r_17 ur_17 t H1 locs ht hvm er_17 hB hz1 hk1 hS => ?_)
              subst er_17
              obtain ⟨f31_17, f32_17, f33_17, k_18, k_19, hR32, hR33, hin, hP1⟩ := hB
              rw [ht] at hP1
              clear hFc hz1 hk1 hvm hP
              subst ht
              have hP := hP1
              clear hP1
              generalize t.heap = H at hP hS ⊢
              have hP : va_P (dC, dI) vwCl (cw_W c kc (rU (rU st 35 r_3) 37 v_7) (rU lg 36 r_4) (rU (rU (rU ai 31 f31_17) 32 f32_17) 33 f33_17) al R) H := hP
              have hR32 : aR f32_17 16 (0) 400 := hR32
              have hR33 : aR f33_17 16 (0) 255 := hR33
              have hin : r_17.toInt = 1 → inI f32_17 f33_17 v_7 := hin
              rcases iv_01 (a := r_17) (by omega) (by omega) with b_20 | b_20
              · skip
                have ib_20 := iv_eq b_20
                rw [b_20]
                refine lv_if_eq (tgt := 118) hx hb dX5_read_89 (by decide) (fun c_21 => ?_) (fun c_21 => ?_)
                · skip
                  have ic_21 := iv_eq c_21
                  refine lv_iconst (v := 0) hx hb dX5_read_118 (by decide) ?_
                  exact W.zret hx hb hr rfl (fun t ht hW => ⟨⟨_, _, rfl, rfl, r_3, v_7, r_4, f31_17, f32_17, f33_17, (by omega), (by omega), (by omega), (by omega), (by omega), hR32, hR33, (by first | exact fun h => absurd h (by omega) | exact fun _ => hin (by omega)), by rw [ht]; exact hP⟩, hS.F ht⟩) hS.2.2 dX5_read_119
                · skip
                  have ic_21 := iv_ne c_21
                  exfalso
                  omega
              · skip
                have ib_20 := iv_eq b_20
                rw [b_20]
                refine lv_if_eq (tgt := 118) hx hb dX5_read_89 (by decide) (fun c_22 => ?_) (fun c_22 => ?_)
                · skip
                  have ic_22 := iv_eq c_22
                  exfalso
                  omega
                · skip
                  have ic_22 := iv_ne c_22
                  refine lv_aload_n hx hb dX5_read_92 rfl (lv_at hl 2 rfl) ?_
                  refine va_getN (D := (dC, dI)) (ci := 9) (v := .ref (c 4)) (C := RX7) (T := TX7) (N := 2) hx hb hts hin_X7 hown hK hP 1 rfl rfl 0 (by decide) (va_Nw.use rfl (hGW.1 ("BlockLog$Snapshot", 39, "BlockLog$Tape", "bytes", "[B", "BlockLog") (by decide +kernel))) (fun _ h9 => h9) rfl dX5_read_93 ?_
                  refine lv_iload_n hx hb dX5_read_96 rfl (lv_at hl 0 rfl) ?_
                  refine vp_callSl (va_Run.run (va_runS (As := [.ref (c 4), .int v_1]) (rest := []) ⟨hx, hb, hml, hown, hts⟩ (v_X0_longAt l dC dI (cw_W c kc (rU (rU st 35 r_3) 37 v_7) (rU lg 36 r_4) (rU (rU (rU ai 31 f31_17) 32 f32_17) 33 f33_17) al R) (cw_T kc) (c 4) 400 (kc 4) (ai 4) 11 3 v_1 rfl rfl (by omega) (by omega) (by omega)) (va_cwS 2 hts gX5_read_X0_longAt rfl rfl rfl (by decide +kernel) ⟨Nat.le_of_ble_eq_true rfl, Nat.le_of_ble_eq_true rfl⟩) ⟨fun a U g mk q => by obtain ⟨q0, qP, qK⟩ := q; exact ⟨q0, qP, va_K.moved (u := U) (U := U.calling g mk a) (Vm.Alike.refl U.vm) qK⟩, fun U hU hW => ⟨rfl, by rw [hU]; exact hP, va_K.moved hW.alike hK⟩⟩ rfl rfl hl.1 rfl (lv_room (Nat.le_of_ble_eq_true rfl)) dX5_read_97 ⟨Nat.le_of_ble_eq_true rfl, Nat.le_of_ble_eq_true rfl⟩)) (fun r_23 er_23 => ?_)
                  refine lv_aload_n hx hb dX5_read_100 rfl (lv_at hl 2 rfl) ?_
                  refine va_getN (D := (dC, dI)) (ci := 9) (v := .ref (c 4)) (C := RX7) (T := TX7) (N := 2) hx hb hts hin_X7 hown hK hP 1 rfl rfl 0 (by decide) (va_Nw.use rfl (hGW.1 ("BlockLog$Snapshot", 39, "BlockLog$Tape", "bytes", "[B", "BlockLog") (by decide +kernel))) (fun _ h9 => h9) rfl dX5_read_101 ?_
                  refine lv_iconst (v := 0) hx hb dX5_read_104 (by decide) ?_
                  refine lv_iload_n hx hb dX5_read_105 rfl (lv_at hl 0 rfl) ?_
                  refine lv_iconst (v := 5) hx hb dX5_read_106 (by decide) ?_
                  refine vp_callSl (va_Run.run (va_runS (As := [.ref (c 4), .int (0 : Int32), .int v_1, .int (5 : Int32)]) (rest := [.long r_23]) ⟨hx, hb, hml, hown, hts⟩ (v_X0_sum l dC dI (cw_W c kc (rU (rU st 35 r_3) 37 v_7) (rU lg 36 r_4) (rU (rU (rU ai 31 f31_17) 32 f32_17) 33 f33_17) al R) (cw_T kc) (c 4) 400 (kc 4) (ai 4) 11 3 (0 : Int32) v_1 (5 : Int32) rfl rfl (by omega) (by omega) (by omega) (by omega)) (va_cwS 4 hts gX5_read_X0_sum rfl rfl rfl (by decide +kernel) ⟨Nat.le_of_ble_eq_true rfl, Nat.le_of_ble_eq_true rfl⟩) ⟨fun a U g mk q => by obtain ⟨q0, qP, qK⟩ := q; exact ⟨q0, qP, va_K.moved (u := U) (U := U.calling g mk a) (Vm.Alike.refl U.vm) qK⟩, fun U hU hW => ⟨rfl, by rw [hU]; exact hP, va_K.moved hW.alike hK⟩⟩ rfl rfl hl.1 rfl (lv_room (Nat.le_of_ble_eq_true rfl)) dX5_read_107 ⟨Nat.le_of_ble_eq_true rfl, Nat.le_of_ble_eq_true rfl⟩)) (fun r_24 er_24 => ?_)
                  refine W.lcmp hx hb dX5_read_110 ?_
                  refine lv_topi (fun v_25 ev_25 => ?_)
                  clear ev_25
                  refine lv_if_ne (tgt := 118) hx hb dX5_read_111 (by decide) (fun c_26 => ?_) (fun c_26 => ?_)
                  · skip
                    have ic_26 := iv_ne c_26
                    refine lv_iconst (v := 0) hx hb dX5_read_118 (by decide) ?_
                    exact W.zret hx hb hr rfl (fun t ht hW => ⟨⟨_, _, rfl, rfl, r_3, v_7, r_4, f31_17, f32_17, f33_17, (by omega), (by omega), (by omega), (by omega), (by omega), hR32, hR33, (by first | exact fun h => absurd h (by omega) | exact fun _ => hin (by omega)), by rw [ht]; exact hP⟩, hS.F ht⟩) hS.2.2 dX5_read_119
                  · skip
                    have ic_26 := iv_eq c_26
                    refine lv_iconst (v := 1) hx hb dX5_read_114 (by decide) ?_
                    refine lv_goto (tgt := 119) hx hb dX5_read_115 (by decide) ?_
                    exact W.zret hx hb hr rfl (fun t ht hW => ⟨⟨_, _, rfl, rfl, r_3, v_7, r_4, f31_17, f32_17, f33_17, (by omega), (by omega), (by omega), (by omega), (by omega), hR32, hR33, (by first | exact fun h => absurd h (by omega) | exact fun _ => hin (by omega)), by rw [ht]; exact hP⟩, hS.F ht⟩) hS.2.2 dX5_read_119
    · skip
      have ic_2 := iv_nle c_2
      refine lv_iconst (v := 0) hx hb dX5_read_14 (by decide) ?_
      exact W.zret hx hb hr rfl (fun t ht hW => ⟨⟨_, _, rfl, rfl, st 35, st 37, lg 36, ai 31, ai 32, ai 33, (by omega), (by omega), (by omega), (by omega), (by omega), hR32, hR33, (by first | exact fun h => absurd h (by omega) | exact fun _ => hin (by omega)), by rw [ht]; exact hP⟩, hS.F ht⟩) hS.2.2 dX5_read_15
  exact main s.heap [] hP hS

set_option maxHeartbeats 4000000 in
set_option maxRecDepth 100000 in
theorem v_X5_isSameLeaf (l : Launch) (dC : Nat → ClassId) (dI : Nat → Nat → Nat) (c : Nat → Nat) (kc : Nat → ClassId) (st : Nat → Int32) (lg : Nat → Int64) (ai : Nat → Nat → Int32) (al : Nat → Nat → Int64) (R : va_W) (p0 : Int32) (p1 : Int32) (hf37a : 0 ≤ (st 37).toInt) (hf37b : (st 37).toInt ≤ 255) (hq0 : 0 ≤ p0.toInt) (hq1 : p0.toInt < (st 37).toInt) (hq2 : 0 ≤ p1.toInt) (hq3 : p1.toInt < (st 37).toInt) (hq4 : (st 37).toInt ≤ 16) (hq5 : ((ai 33) p0.toNatClampNeg).toInt = ((ai 33) p1.toNatClampNeg).toInt) (hR4 : aR (ai 4) 400 (-128) 127) (hR32 : aR (ai 32) 16 (0) 400) (hR33 : aR (ai 33) 16 (0) 255) (hin : inI (ai 32) (ai 33) (st 37)) : Met l yX5_isSameLeaf wsX5_isSameLeaf ({ frames := 0, cells := 0, slots := 0, locals := 0 }) (va_Pc [.ref (c 107), .int p0, .int p1, .ref (c 101)] (fun U => va_P (dC, dI) vwCl (cw_W c kc st lg ai al R) U.heap ∧ va_K (dC, dI) vwCl (cw_T kc) U ∧ gx_W U)) (vp_Si (fun r => (0 ≤ r.toInt) ∧ (r.toInt ≤ 1))) 0 0 (fun _ => False) := by
  refine Met.ofW (cc := cX5_isSameLeaf) (maxL := 5) (ret := (some .boolean)) (by decide) rfl ?_
  intro p e s m args below meth cM s₁ B hml hv
  obtain ⟨rfl, hP, hK, hG⟩ := hv
  have hx := B.exec
  have hb := B.bytes
  have hr := B.returns
  have hts := atoms_spec (ws := wsX5_isSameLeaf) B.pre
  have hown : s.vm.findClass RX5 = some m.cls := findClass_of_methodNamed B.named
  have hGW := hG
  have hl := lv_entry ([.ref (c 107), .int p0, .int p1, .ref (c 101)]) (n := 5) (Nat.le_of_ble_eq_true rfl)
  rw [lg_entry_eq]
  generalize (lg_sl ([.ref (c 107), .int p0, .int p1, .ref (c 101)]) ++ List.replicate (5 - (lg_sl ([.ref (c 107), .int p0, .int p1, .ref (c 101)])).length) Slot.unset).toArray = ls at hl ⊢
  have hl : lv_has ls 5 [(0, .ref (c 107)), (1, .int p0), (2, .int p1), (3, .ref (c 101))] := hl
  have z_0 : (0 : Int32).toInt = 0 := by decide
  have z_1 : (1 : Int32).toInt = 1 := by decide
  have hin_X5 : ∀ w ∈ u_ws RX5 TX5 7, w ∈ wsX5_isSameLeaf := by decide +kernel
  have hin_X7 : ∀ w ∈ u_ws RX7 TX7 2, w ∈ wsX5_isSameLeaf := by decide +kernel
  have k_1 : 0 ≤ ((ai 32) p0.toNatClampNeg).toInt := (inI_u hin (i := p0) (by omega) (by omega)).1
  have k_2 : 1 ≤ ((ai 33) p0.toNatClampNeg).toInt := (inI_u hin (i := p0) (by omega) (by omega)).2.1
  have k_3 : ((ai 33) p0.toNatClampNeg).toInt ≤ 16 := (inI_u hin (i := p0) (by omega) (by omega)).2.2.1
  have k_4 : ((ai 32) p0.toNatClampNeg).toInt + ((ai 33) p0.toNatClampNeg).toInt ≤ 392 := (inI_u hin (i := p0) (by omega) (by omega)).2.2.2
  have k_5 : 0 ≤ ((ai 32) p1.toNatClampNeg).toInt := (inI_u hin (i := p1) (by omega) (by omega)).1
  have k_6 : 1 ≤ ((ai 33) p1.toNatClampNeg).toInt := (inI_u hin (i := p1) (by omega) (by omega)).2.1
  have k_7 : ((ai 33) p1.toNatClampNeg).toInt ≤ 16 := (inI_u hin (i := p1) (by omega) (by omega)).2.2.1
  have k_8 : ((ai 32) p1.toNatClampNeg).toInt + ((ai 33) p1.toNatClampNeg).toInt ≤ 392 := (inI_u hin (i := p1) (by omega) (by omega)).2.2.2
  refine lv_iconst (v := 0) hx hb dX5_isSameLeaf_0 (by decide) ?_
  refine lv_istore (lv' := [(4, .int (0 : Int32)), (0, .ref (c 107)), (1, .int p0), (2, .int p1), (3, .ref (c 101))]) hx hb dX5_isSameLeaf_1 hl (by decide) rfl (fun ls hl => ?_)
  have loop3 : ∀ (n : Nat) (l4_3 : Int32) (ls : Array Slot), (0 ≤ l4_3.toInt) → (l4_3.toInt ≤ ((ai 33) p0.toNatClampNeg).toInt) → (((ai 33) p0.toNatClampNeg).toInt - l4_3.toInt : Int).toNat < n → lv_has ls 5 [(4, .int l4_3), (0, .ref (c 107)), (1, .int p0), (2, .int p1), (3, .ref (c 101))] → W p l e (headSpec wsX5_isSameLeaf ({ frames := 0, cells := 0, slots := 0, locals := 0 })).room s m ([.ref (c 107), .int p0, .int p1, .ref (c 101)] : List Value).toArray below meth cM s.heap [] 0 0 (MQ below (vp_Si (fun r => (0 ≤ r.toInt) ∧ (r.toInt ≤ 1))) ([.ref (c 107), .int p0, .int p1, .ref (c 101)] : List Value).toArray s 0 0 (fun _ => False)) (F0 m 3 ls []) := by
    intro n
    induction n with
    | zero => intro l4_3 ls if0_3 if1_3 hm; exact absurd hm (Nat.not_lt_zero _)
    | succ n ih3 =>
      intro l4_3 ls if0_3 if1_3 hm3 hl
      refine lv_iload hx hb dX5_isSameLeaf_3 (lv_at hl 0 rfl) ?_
      refine lv_aload_n hx hb dX5_isSameLeaf_5 rfl (lv_at hl 1 rfl) ?_
      refine va_get (D := (dC, dI)) (ci := 7) (v := .ref (c 33)) (C := RX5) (T := TX5) (N := 7) hx hb hts hin_X5 hown hK hP 7 rfl rfl 2 (by decide) (hts (.fieldLink RX5 18 "BlockLog$Snapshot" "sizes" "[I") (by decide +kernel)) (fun _ h9 => h9) rfl dX5_isSameLeaf_6 ?_
      refine lv_iload_n hx hb dX5_isSameLeaf_9 rfl (lv_at hl 2 rfl) ?_
      refine va_iald (f := ai 33) hx hb hK hP 24 16 rfl rfl (iv_in (i := p0) (by omega) (by omega)) dX5_isSameLeaf_10 ?_
      refine lv_topi (fun v_9 ev_9 => ?_)
      have k_10 : 0 ≤ v_9.toInt ∧ v_9.toInt ≤ 255 := aR_get hR33 (by omega) (by omega) ev_9
      have hX_snap_sizes := ev_9
      have k_11 : v_9.toInt = ((ai 33) p0.toNatClampNeg).toInt := by rw [ev_9]
      clear ev_9
      refine lv_icmp_ge (tgt := 53) hx hb dX5_isSameLeaf_11 (by decide) (fun c_12 => ?_) (fun c_12 => ?_)
      · skip
        have ic_12 := iv_le c_12
        refine lv_iconst (v := 1) hx hb dX5_isSameLeaf_53 (by decide) ?_
        exact W.zret hx hb hr rfl (fun t ht hW => ⟨_, rfl, ⟨(by omega), (by omega)⟩, ht⟩) (fun q h => by cases h) dX5_isSameLeaf_54
      · skip
        have ic_12 := iv_nle c_12
        refine lv_aload_n hx hb dX5_isSameLeaf_14 rfl (lv_at hl 4 rfl) ?_
        refine va_getN (D := (dC, dI)) (ci := 9) (v := .ref (c 4)) (C := RX7) (T := TX7) (N := 2) hx hb hts hin_X7 hown hK hP 1 rfl rfl 0 (by decide) (va_Nw.use rfl (hGW.1 ("BlockLog$Snapshot", 39, "BlockLog$Tape", "bytes", "[B", "BlockLog") (by decide +kernel))) (fun _ h9 => h9) rfl dX5_isSameLeaf_15 ?_
        refine lv_aload_n hx hb dX5_isSameLeaf_18 rfl (lv_at hl 1 rfl) ?_
        refine va_get (D := (dC, dI)) (ci := 7) (v := .ref (c 32)) (C := RX5) (T := TX5) (N := 7) hx hb hts hin_X5 hown hK hP 7 rfl rfl 1 (by decide) (hts (.fieldLink RX5 15 "BlockLog$Snapshot" "starts" "[I") (by decide +kernel)) (fun _ h9 => h9) rfl dX5_isSameLeaf_19 ?_
        refine lv_iload_n hx hb dX5_isSameLeaf_22 rfl (lv_at hl 2 rfl) ?_
        refine va_iald (f := ai 32) hx hb hK hP 23 15 rfl rfl (iv_in (i := p0) (by omega) (by omega)) dX5_isSameLeaf_23 ?_
        refine lv_topi (fun v_13 ev_13 => ?_)
        have k_14 : 0 ≤ v_13.toInt ∧ v_13.toInt ≤ 400 := aR_get hR32 (by omega) (by omega) ev_13
        have hX_snap_starts := ev_13
        have k_15 : v_13.toInt = ((ai 32) p0.toNatClampNeg).toInt := by rw [ev_13]
        clear ev_13
        refine lv_iload hx hb dX5_isSameLeaf_24 (lv_at hl 0 rfl) ?_
        refine lv_iadd hx hb dX5_isSameLeaf_26 ?_
        refine lv_topi (fun v_16 ev_16 => ?_)
        have rg1 := iv_rng v_13
        have rg2 := iv_rng l4_3
        have hv_16 : v_16.toInt = v_13.toInt + l4_3.toInt := by rw [ev_16]; exact (iv_add (by omega) (by omega)).trans (by omega)
        clear ev_16
        refine va_bald (f := ai 4) hx hb hK hP 11 3 rfl rfl (iv_in (i := v_16) (by omega) (by omega)) dX5_isSameLeaf_27 ?_
        refine lv_topi (fun v_17 ev_17 => ?_)
        have k_18 : -128 ≤ v_17.toInt ∧ v_17.toInt ≤ 127 := aR_get hR4 (by omega) (by omega) ev_17
        clear ev_17
        refine lv_aload_n hx hb dX5_isSameLeaf_28 rfl (lv_at hl 4 rfl) ?_
        refine va_getN (D := (dC, dI)) (ci := 9) (v := .ref (c 4)) (C := RX7) (T := TX7) (N := 2) hx hb hts hin_X7 hown hK hP 1 rfl rfl 0 (by decide) (va_Nw.use rfl (hGW.1 ("BlockLog$Snapshot", 39, "BlockLog$Tape", "bytes", "[B", "BlockLog") (by decide +kernel))) (fun _ h9 => h9) rfl dX5_isSameLeaf_29 ?_
        refine lv_aload_n hx hb dX5_isSameLeaf_32 rfl (lv_at hl 1 rfl) ?_
        refine va_get (D := (dC, dI)) (ci := 7) (v := .ref (c 32)) (C := RX5) (T := TX5) (N := 7) hx hb hts hin_X5 hown hK hP 7 rfl rfl 1 (by decide) (hts (.fieldLink RX5 15 "BlockLog$Snapshot" "starts" "[I") (by decide +kernel)) (fun _ h9 => h9) rfl dX5_isSameLeaf_33 ?_
        refine lv_iload_n hx hb dX5_isSameLeaf_36 rfl (lv_at hl 3 rfl) ?_
        refine va_iald (f := ai 32) hx hb hK hP 23 15 rfl rfl (iv_in (i := p1) (by omega) (by omega)) dX5_isSameLeaf_37 ?_
        refine lv_topi (fun v_19 ev_19 => ?_)
        have k_20 : 0 ≤ v_19.toInt ∧ v_19.toInt ≤ 400 := aR_get hR32 (by omega) (by omega) ev_19
        have hX_snap_starts := ev_19
        have k_21 : v_19.toInt = ((ai 32) p1.toNatClampNeg).toInt := by rw [ev_19]
        clear ev_19
        refine lv_iload hx hb dX5_isSameLeaf_38 (lv_at hl 0 rfl) ?_
        refine lv_iadd hx hb dX5_isSameLeaf_40 ?_
        refine lv_topi (fun v_22 ev_22 => ?_)
        have rg3 := iv_rng v_19
        have hv_22 : v_22.toInt = v_19.toInt + l4_3.toInt := by rw [ev_22]; exact (iv_add (by omega) (by omega)).trans (by omega)
        clear ev_22
        refine va_bald (f := ai 4) hx hb hK hP 11 3 rfl rfl (iv_in (i := v_22) (by omega) (by omega)) dX5_isSameLeaf_41 ?_
        refine lv_topi (fun v_23 ev_23 => ?_)
        have k_24 : -128 ≤ v_23.toInt ∧ v_23.toInt ≤ 127 := aR_get hR4 (by omega) (by omega) ev_23
        clear ev_23
        refine lv_icmp_eq (tgt := 47) hx hb dX5_isSameLeaf_42 (by decide) (fun c_25 => ?_) (fun c_25 => ?_)
        · skip
          have ic_25 := iv_eq c_25
          obtain ⟨x_26, ex_26⟩ : ∃ z : Int32, z = l4_3 + (1) := ⟨_, rfl⟩
          refine lv_iinc (v := x_26) (lv' := [(4, .int x_26), (0, .ref (c 107)), (1, .int p0), (2, .int p1), (3, .ref (c 101))]) hx hb dX5_isSameLeaf_47 hl (k := 0) rfl (by rw [ex_26]; rfl) (by decide) rfl (fun ls hl => ?_)
          have hx_26 : x_26.toInt = l4_3.toInt + (1) := by rw [ex_26]; exact (iv_add (by omega) (by omega)).trans (by omega)
          clear ex_26
          refine lv_goto (tgt := 3) hx hb dX5_isSameLeaf_50 (by decide) ?_
          exact ih3 x_26 _ (by omega) (by omega) (by omega) (lv_sub hl [0, 1, 2, 3, 4] rfl)
        · skip
          have ic_25 := iv_ne c_25
          refine lv_iconst (v := 0) hx hb dX5_isSameLeaf_45 (by decide) ?_
          exact W.zret hx hb hr rfl (fun t ht hW => ⟨_, rfl, ⟨(by omega), (by omega)⟩, ht⟩) (fun q h => by cases h) dX5_isSameLeaf_46
  exact loop3 ((((ai 33) p0.toNatClampNeg).toInt - 0 : Int).toNat + 1) (0 : Int32) _ (by omega) (by omega) (by omega) (lv_sub hl [0, 1, 2, 3, 4] rfl)

set_option maxHeartbeats 4000000 in
set_option maxRecDepth 100000 in
theorem v_X5_hasAhead (l : Launch) (dC : Nat → ClassId) (dI : Nat → Nat → Nat) (c : Nat → Nat) (kc : Nat → ClassId) (st : Nat → Int32) (lg : Nat → Int64) (ai : Nat → Nat → Int32) (al : Nat → Nat → Int64) (R : va_W) (p0 : Int32) (hf37a : 0 ≤ (st 37).toInt) (hf37b : (st 37).toInt ≤ 255) (hq0 : 0 ≤ p0.toInt) (hq1 : p0.toInt < (st 37).toInt) (hq2 : (st 37).toInt ≤ 16) (hR4 : aR (ai 4) 400 (-128) 127) (hR32 : aR (ai 32) 16 (0) 400) (hR33 : aR (ai 33) 16 (0) 255) (hin : inI (ai 32) (ai 33) (st 37)) : Met l yX5_hasAhead wsX5_hasAhead ({ frames := 1, cells := 0, slots := 0, locals := 24 }) (va_Pc [.ref (c 107), .int p0, .ref (c 101)] (fun U => va_P (dC, dI) vwCl (cw_W c kc st lg ai al R) U.heap ∧ va_K (dC, dI) vwCl (cw_T kc) U ∧ gx_W U)) (vp_Si (fun r => (0 ≤ r.toInt) ∧ (r.toInt ≤ 1))) 0 0 (fun _ => False) := by
  refine Met.ofW (cc := cX5_hasAhead) (maxL := 4) (ret := (some .boolean)) (by decide) rfl ?_
  intro p e s m args below meth cM s₁ B hml hv
  obtain ⟨rfl, hP, hK, hG⟩ := hv
  have hx := B.exec
  have hb := B.bytes
  have hr := B.returns
  have hts := atoms_spec (ws := wsX5_hasAhead) B.pre
  have hown : s.vm.findClass RX5 = some m.cls := findClass_of_methodNamed B.named
  have hGW := hG
  have hl := lv_entry ([.ref (c 107), .int p0, .ref (c 101)]) (n := 4) (Nat.le_of_ble_eq_true rfl)
  rw [lg_entry_eq]
  generalize (lg_sl ([.ref (c 107), .int p0, .ref (c 101)]) ++ List.replicate (4 - (lg_sl ([.ref (c 107), .int p0, .ref (c 101)])).length) Slot.unset).toArray = ls at hl ⊢
  have hl : lv_has ls 4 [(0, .ref (c 107)), (1, .int p0), (2, .ref (c 101))] := hl
  have z_0 : (0 : Int32).toInt = 0 := by decide
  have z_1 : (1 : Int32).toInt = 1 := by decide
  have hin_X5 : ∀ w ∈ u_ws RX5 TX5 7, w ∈ wsX5_hasAhead := by decide +kernel
  refine lv_iconst (v := 0) hx hb dX5_hasAhead_0 (by decide) ?_
  refine lv_istore_n (lv' := [(3, .int (0 : Int32)), (0, .ref (c 107)), (1, .int p0), (2, .ref (c 101))]) hx hb dX5_hasAhead_1 rfl hl (by decide) rfl (fun ls hl => ?_)
  have loop2 : ∀ (n : Nat) (l3_2 : Int32) (ls : Array Slot), (0 ≤ l3_2.toInt) → (l3_2.toInt ≤ p0.toInt) → (p0.toInt - l3_2.toInt : Int).toNat < n → lv_has ls 4 [(3, .int l3_2), (0, .ref (c 107)), (1, .int p0), (2, .ref (c 101))] → W p l e (headSpec wsX5_hasAhead ({ frames := 1, cells := 0, slots := 0, locals := 24 })).room s m ([.ref (c 107), .int p0, .ref (c 101)] : List Value).toArray below meth cM s.heap [] 0 0 (MQ below (vp_Si (fun r => (0 ≤ r.toInt) ∧ (r.toInt ≤ 1))) ([.ref (c 107), .int p0, .ref (c 101)] : List Value).toArray s 0 0 (fun _ => False)) (F0 m 2 ls []) := by
    intro n
    induction n with
    | zero => intro l3_2 ls if0_2 if1_2 hm; exact absurd hm (Nat.not_lt_zero _)
    | succ n ih2 =>
      intro l3_2 ls if0_2 if1_2 hm2 hl
      refine lv_iload_n hx hb dX5_hasAhead_2 rfl (lv_at hl 0 rfl) ?_
      refine lv_iload_n hx hb dX5_hasAhead_3 rfl (lv_at hl 2 rfl) ?_
      refine lv_icmp_ge (tgt := 40) hx hb dX5_hasAhead_4 (by decide) (fun c_1 => ?_) (fun c_1 => ?_)
      · skip
        have ic_1 := iv_le c_1
        refine lv_iconst (v := 0) hx hb dX5_hasAhead_40 (by decide) ?_
        exact W.zret hx hb hr rfl (fun t ht hW => ⟨_, rfl, ⟨(by omega), (by omega)⟩, ht⟩) (fun q h => by cases h) dX5_hasAhead_41
      · skip
        have ic_1 := iv_nle c_1
        refine lv_aload_n hx hb dX5_hasAhead_7 rfl (lv_at hl 1 rfl) ?_
        refine va_get (D := (dC, dI)) (ci := 7) (v := .ref (c 33)) (C := RX5) (T := TX5) (N := 7) hx hb hts hin_X5 hown hK hP 7 rfl rfl 2 (by decide) (hts (.fieldLink RX5 18 "BlockLog$Snapshot" "sizes" "[I") (by decide +kernel)) (fun _ h9 => h9) rfl dX5_hasAhead_8 ?_
        refine lv_iload_n hx hb dX5_hasAhead_11 rfl (lv_at hl 0 rfl) ?_
        refine va_iald (f := ai 33) hx hb hK hP 24 16 rfl rfl (iv_in (i := l3_2) (by omega) (by omega)) dX5_hasAhead_12 ?_
        refine lv_topi (fun v_2 ev_2 => ?_)
        have k_3 : 0 ≤ v_2.toInt ∧ v_2.toInt ≤ 255 := aR_get hR33 (by omega) (by omega) ev_2
        have hX_snap_sizes := ev_2
        have k_4 : v_2.toInt = ((ai 33) l3_2.toNatClampNeg).toInt := by rw [ev_2]
        clear ev_2
        refine lv_aload_n hx hb dX5_hasAhead_13 rfl (lv_at hl 1 rfl) ?_
        refine va_get (D := (dC, dI)) (ci := 7) (v := .ref (c 33)) (C := RX5) (T := TX5) (N := 7) hx hb hts hin_X5 hown hK hP 7 rfl rfl 2 (by decide) (hts (.fieldLink RX5 18 "BlockLog$Snapshot" "sizes" "[I") (by decide +kernel)) (fun _ h9 => h9) rfl dX5_hasAhead_14 ?_
        refine lv_iload_n hx hb dX5_hasAhead_17 rfl (lv_at hl 2 rfl) ?_
        refine va_iald (f := ai 33) hx hb hK hP 24 16 rfl rfl (iv_in (i := p0) (by omega) (by omega)) dX5_hasAhead_18 ?_
        refine lv_topi (fun v_5 ev_5 => ?_)
        have k_6 : 0 ≤ v_5.toInt ∧ v_5.toInt ≤ 255 := aR_get hR33 (by omega) (by omega) ev_5
        have hX_snap_sizes := ev_5
        have k_7 : v_5.toInt = ((ai 33) p0.toNatClampNeg).toInt := by rw [ev_5]
        clear ev_5
        refine lv_icmp_ne (tgt := 34) hx hb dX5_hasAhead_19 (by decide) (fun c_8 => ?_) (fun c_8 => ?_)
        · skip
          have ic_8 := iv_ne c_8
          obtain ⟨x_9, ex_9⟩ : ∃ z : Int32, z = l3_2 + (1) := ⟨_, rfl⟩
          refine lv_iinc (v := x_9) (lv' := [(3, .int x_9), (0, .ref (c 107)), (1, .int p0), (2, .ref (c 101))]) hx hb dX5_hasAhead_34 hl (k := 0) rfl (by rw [ex_9]; rfl) (by decide) rfl (fun ls hl => ?_)
          have rg1 := iv_rng l3_2
          have hx_9 : x_9.toInt = l3_2.toInt + (1) := by rw [ex_9]; exact (iv_add (by omega) (by omega)).trans (by omega)
          clear ex_9
          refine lv_goto (tgt := 2) hx hb dX5_hasAhead_37 (by decide) ?_
          exact ih2 x_9 _ (by omega) (by omega) (by omega) (lv_sub hl [0, 1, 2, 3] rfl)
        · skip
          have ic_8 := iv_eq c_8
          refine lv_aload_n hx hb dX5_hasAhead_22 rfl (lv_at hl 1 rfl) ?_
          refine lv_iload_n hx hb dX5_hasAhead_23 rfl (lv_at hl 0 rfl) ?_
          refine lv_iload_n hx hb dX5_hasAhead_24 rfl (lv_at hl 2 rfl) ?_
          refine lv_aload_n hx hb dX5_hasAhead_25 rfl (lv_at hl 3 rfl) ?_
          refine vp_callSi (va_Run.run (va_runV (As := [.int l3_2, .int p0, .ref (c 101)]) (rest := []) ⟨hx, hb, hml, hown, hts⟩ (v_X5_isSameLeaf l dC dI c kc st lg ai al R l3_2 p0 (show 0 ≤ (st 37).toInt by omega) (show (st 37).toInt ≤ 255 by omega) (by omega) (show l3_2.toInt < (st 37).toInt by omega) (by omega) (show p0.toInt < (st 37).toInt by omega) (show (st 37).toInt ≤ 16 by omega) (show ((ai 33) l3_2.toNatClampNeg).toInt = ((ai 33) p0.toNatClampNeg).toInt by omega) (show aR (ai 4) 400 (-128) 127 from hR4) (show aR (ai 32) 16 (0) 400 from hR32) (show aR (ai 33) 16 (0) 255 from hR33) (show inI (ai 32) (ai 33) (st 37) from (by assumption))) (cwV 3 hts gX5_hasAhead_X5_isSameLeaf rfl rfl rfl (by decide +kernel) ⟨Nat.le_of_ble_eq_true rfl, Nat.le_of_ble_eq_true rfl⟩) ⟨fun a U g mk q => by obtain ⟨q0, qP, qK, qG⟩ := q; exact ⟨q0, qP, va_K.moved (u := U) (U := U.calling g mk a) (Vm.Alike.refl U.vm) qK, qG.same rfl⟩, va_recv hK hP (ci := 7) (q := (RX5, TX5, 7)) rfl (q0 := 7) rfl, fun U hU hW => ⟨rfl, by rw [hU]; exact hP, va_K.moved hW.alike hK, hGW.warm hW⟩⟩ rfl rfl hl.1 rfl (lv_room (Nat.le_of_ble_eq_true rfl)) dX5_hasAhead_26 ⟨Nat.le_of_ble_eq_true rfl, Nat.le_of_ble_eq_true rfl⟩)) (fun r_10 er_10 => ?_)
          obtain ⟨k_11, k_12⟩ := er_10
          rcases iv_01 (a := r_10) (by omega) (by omega) with b_13 | b_13
          · skip
            have ib_13 := iv_eq b_13
            rw [b_13]
            refine lv_if_eq (tgt := 34) hx hb dX5_hasAhead_29 (by decide) (fun c_14 => ?_) (fun c_14 => ?_)
            · skip
              have ic_14 := iv_eq c_14
              obtain ⟨x_15, ex_15⟩ : ∃ z : Int32, z = l3_2 + (1) := ⟨_, rfl⟩
              refine lv_iinc (v := x_15) (lv' := [(3, .int x_15), (0, .ref (c 107)), (1, .int p0), (2, .ref (c 101))]) hx hb dX5_hasAhead_34 hl (k := 0) rfl (by rw [ex_15]; rfl) (by decide) rfl (fun ls hl => ?_)
              have rg2 := iv_rng l3_2
              have hx_15 : x_15.toInt = l3_2.toInt + (1) := by rw [ex_15]; exact (iv_add (by omega) (by omega)).trans (by omega)
              clear ex_15
              refine lv_goto (tgt := 2) hx hb dX5_hasAhead_37 (by decide) ?_
              exact ih2 x_15 _ (by omega) (by omega) (by omega) (lv_sub hl [0, 1, 2, 3] rfl)
            · skip
              have ic_14 := iv_ne c_14
              exfalso
              omega
          · skip
            have ib_13 := iv_eq b_13
            rw [b_13]
            refine lv_if_eq (tgt := 34) hx hb dX5_hasAhead_29 (by decide) (fun c_16 => ?_) (fun c_16 => ?_)
            · skip
              have ic_16 := iv_eq c_16
              exfalso
              omega
            · skip
              have ic_16 := iv_ne c_16
              refine lv_iconst (v := 1) hx hb dX5_hasAhead_32 (by decide) ?_
              exact W.zret hx hb hr rfl (fun t ht hW => ⟨_, rfl, ⟨(by omega), (by omega)⟩, ht⟩) (fun q h => by cases h) dX5_hasAhead_33
  exact loop2 ((p0.toInt - 0 : Int).toNat + 1) (0 : Int32) _ (by omega) (by omega) (by omega) (lv_sub hl [0, 1, 2, 3] rfl)

set_option maxHeartbeats 4000000 in
set_option maxRecDepth 100000 in
theorem v_X8_drawPage (l : Launch) (dC : Nat → ClassId) (dI : Nat → Nat → Nat) (c : Nat → Nat) (kc : Nat → ClassId) (st : Nat → Int32) (lg : Nat → Int64) (ai : Nat → Nat → Int32) (al : Nat → Nat → Int64) (R : va_W) (p0 : Int32) (p1 : Int32) (sz : Nat) (hq0 : 0 ≤ p0.toInt) (hq1 : p0.toInt ≤ 400) (hR4 : aR (ai 4) 400 (-128) 127) : Met l yX8_drawPage wsX8_drawPage ({ frames := 3, cells := 0, slots := 0, locals := 72 }) (va_Pc [.ref (c 100), .int p0, .int p1] (fun U => U.heap.size = sz ∧ va_P (dC, dI) vwCl (cw_W c kc st lg ai al R) U.heap ∧ va_K (dC, dI) vwCl (cw_T kc) U ∧ va_D (fun _ => True) (cw_W c kc st lg ai al R) ∧ gx_E (va_A (cw_W c kc st lg ai al R) sz) U)) (va_Qv (fun (_ : Unit) => True) (fun _ t => ∃ (f0 : Nat → Int32), va_P (dC, dI) vwCl (cw_W c kc st lg (rU ai 0 f0) al R) t.heap) (va_A (cw_W c kc st lg ai al R) sz)) 0 0 (va_A (cw_W c kc st lg ai al R) sz) := by
  refine Met.ofW (cc := cX8_drawPage) (maxL := 4) (ret := none) (by decide) rfl ?_
  intro p e s m args below meth cM s₁ B hml hv
  obtain ⟨rfl, hsz, hP, hK, hD0, hG⟩ := hv
  have hx := B.exec
  have hb := B.bytes
  have hr := B.returns
  have hts := atoms_spec (ws := wsX8_drawPage) B.pre
  have hown : s.vm.findClass RX8 = some m.cls := findClass_of_methodNamed B.named
  have hGW := hG.1
  subst hsz
  have hD := hD0.self (sz := s.heap.size)
  generalize hAe : va_A (cw_W c kc st lg ai al R) s.heap.size = A at hD hG ⊢
  have hA : ∀ q : Nat, s.heap.size ≤ q → A q := fun q h => by rw [← hAe]; exact Or.inr h
  have hS : va_S A s.heap s.heap [] := va_S.rf
  clear hAe hD0
  have hl := lv_entry ([.ref (c 100), .int p0, .int p1]) (n := 4) (Nat.le_of_ble_eq_true rfl)
  rw [lg_entry_eq]
  generalize (lg_sl ([.ref (c 100), .int p0, .int p1]) ++ List.replicate (4 - (lg_sl ([.ref (c 100), .int p0, .int p1])).length) Slot.unset).toArray = ls at hl ⊢
  have hl : lv_has ls 4 [(0, .ref (c 100)), (1, .int p0), (2, .int p1)] := hl
  have z_0 : (0 : Int32).toInt = 0 := by decide
  have z_1 : (1 : Int32).toInt = 1 := by decide
  have z_3 : (3 : Int32).toInt = 3 := by decide
  have z_16 : (16 : Int32).toInt = 16 := by decide
  have z_17 : (17 : Int32).toInt = 17 := by decide
  have z_400 : (400 : Int32).toInt = 400 := by decide
  have hin_X7 : ∀ w ∈ u_ws RX7 TX7 2, w ∈ wsX8_drawPage := by decide +kernel
  have hin_X8 : ∀ w ∈ u_ws RX8 TX8 10, w ∈ wsX8_drawPage := by decide +kernel
  have main : ∀ (H : Heap) (locs : List Loc), va_P (dC, dI) vwCl (cw_W c kc st lg ai al R) H → va_S A s.heap H locs → W p l e (headSpec wsX8_drawPage ({ frames := 3, cells := 0, slots := 0, locals := 72 })).room s m ([.ref (c 100), .int p0, .int p1] : List Value).toArray below meth cM H locs 0 0 (MQ below (va_Qv (fun (_ : Unit) => True) (fun _ t => ∃ (f0 : Nat → Int32), va_P (dC, dI) vwCl (cw_W c kc st lg (rU ai 0 f0) al R) t.heap) A) ([.ref (c 100), .int p0, .int p1] : List Value).toArray s 0 0 A) (F0 m 0 ls []) := by
    intro H locs hP hS
    refine lv_aload_n hx hb dX8_drawPage_0 rfl (lv_at hl 0 rfl) ?_
    refine va_get (D := (dC, dI)) (ci := 10) (v := .ref (c 0)) (C := RX8) (T := TX8) (N := 10) hx hb hts hin_X8 hown hK hP 0 rfl rfl 6 (by decide) (hts (.fieldLink RX8 60 "BlockLog" "pageImage" "[B") (by decide +kernel)) (fun _ h9 => h9) rfl dX8_drawPage_1 ?_
    refine lv_iconst (v := 0) hx hb dX8_drawPage_4 (by decide) ?_
    refine lv_iload_n hx hb dX8_drawPage_5 rfl (lv_at hl 2 rfl) ?_
    refine lv_i2b hx hb dX8_drawPage_6 rfl ?_
    refine lv_topi (fun v_1 ev_1 => ?_)
    clear ev_1
    refine va_bast (f := ai 0) hx hb hK hP (cw_D hD) hS 8 0 rfl rfl (iv_in (i := (0 : Int32)) (by omega) (by omega)) dX8_drawPage_7 (fun H locs hP _ hS => ?_)
    have hP : va_P (dC, dI) vwCl (cw_W c kc st lg (rU ai 0 (upd (ai 0) (0 : Int32).toNatClampNeg (vp_nar .byte v_1))) al R) H := cw_a0 hP
    generalize hU_log_pageImage : upd (ai 0) (0 : Int32).toNatClampNeg (vp_nar .byte v_1) = g_2 at hP
    clear hU_log_pageImage
    refine lv_iconst (v := 0) hx hb dX8_drawPage_8 (by decide) ?_
    refine lv_istore_n (lv' := [(3, .int (0 : Int32)), (0, .ref (c 100)), (1, .int p0), (2, .int p1)]) hx hb dX8_drawPage_9 rfl hl (by decide) rfl (fun ls hl => ?_)
    have loop10 : ∀ (n : Nat) (l3_10 : Int32) (a0_10 : Nat → Int32) (H : Heap) (locs : List Loc) (ls : Array Slot), (0 ≤ l3_10.toInt) → (l3_10.toInt ≤ 16) → (16 - l3_10.toInt : Int).toNat < n → va_P (dC, dI) vwCl (cw_W c kc st lg (rU ai 0 a0_10) al R) H → va_S A s.heap H locs → lv_has ls 4 [(3, .int l3_10), (0, .ref (c 100)), (1, .int p0), (2, .int p1)] → W p l e (headSpec wsX8_drawPage ({ frames := 3, cells := 0, slots := 0, locals := 72 })).room s m ([.ref (c 100), .int p0, .int p1] : List Value).toArray below meth cM H locs 0 0 (MQ below (va_Qv (fun (_ : Unit) => True) (fun _ t => ∃ (f0 : Nat → Int32), va_P (dC, dI) vwCl (cw_W c kc st lg (rU ai 0 f0) al R) t.heap) A) ([.ref (c 100), .int p0, .int p1] : List Value).toArray s 0 0 A) (F0 m 10 ls []) := by
      intro n
      induction n with
      | zero => intro l3_10 a0_10 H locs ls if0_10 if1_10 hm; exact absurd hm (Nat.not_lt_zero _)
      | succ n ih10 =>
        intro l3_10 a0_10 H locs ls if0_10 if1_10 hm10 hP hS hl
        refine lv_iload_n hx hb dX8_drawPage_10 rfl (lv_at hl 0 rfl) ?_
        refine lv_bipush (v := 16) hx hb dX8_drawPage_11 (by decide) ?_
        refine lv_icmp_ge (tgt := 59) hx hb dX8_drawPage_13 (by decide) (fun c_3 => ?_) (fun c_3 => ?_)
        · skip
          have ic_3 := iv_le c_3
          refine lv_aload_n hx hb dX8_drawPage_59 rfl (lv_at hl 1 rfl) ?_
          refine va_get (D := (dC, dI)) (ci := 10) (v := .ref (c 0)) (C := RX8) (T := TX8) (N := 10) hx hb hts hin_X8 hown hK hP 0 rfl rfl 6 (by decide) (hts (.fieldLink RX8 60 "BlockLog" "pageImage" "[B") (by decide +kernel)) (fun _ h9 => h9) rfl dX8_drawPage_60 ?_
          refine lv_bipush (v := 17) hx hb dX8_drawPage_63 (by decide) ?_
          refine lv_iconst (v := 3) hx hb dX8_drawPage_65 (by decide) ?_
          have hFc := vfree ((cw_D hD : va_D A (cw_W c kc st lg (rU ai 0 a0_10) al R)) : va_D A (cw_W c kc st lg (rU ai 0 a0_10) al R)) hS hA
          refine va_callv (va_runS (As := [.ref (c 0), .int (17 : Int32), .int (3 : Int32)]) (rest := []) ⟨hx, hb, hml, hown, hts⟩ (v_X0_close l dC dI (cw_W c kc st lg (rU ai 0 a0_10) al R) (cw_T kc) (c 0) 26 (kc 0) a0_10 8 0 (17 : Int32) (3 : Int32) _ rfl rfl (by omega) (by omega) (by omega)) (va_cwS 3 hts gX8_drawPage_X0_close rfl rfl rfl (by decide +kernel) ⟨Nat.le_of_ble_eq_true rfl, Nat.le_of_ble_eq_true rfl⟩) ⟨fun a U g mk q => by obtain ⟨q0, q1, qP, qK, qD⟩ := q; exact ⟨q0, q1, qP, va_K.moved (u := U) (U := U.calling g mk a) (Vm.Alike.refl U.vm) qK, qD⟩, fun U hU hW => ⟨rfl, by rw [hU], by rw [hU]; exact hP, va_K.moved hW.alike hK, ((cw_D hD : va_D A (cw_W c kc st lg (rU ai 0 a0_10) al R))).weaken (fun _ _ _ _ => trivial)⟩⟩ rfl rfl hl.1 rfl (lv_room (Nat.le_of_ble_eq_true rfl)) dX8_drawPage_66 ⟨Nat.le_of_ble_eq_true rfl, Nat.le_of_ble_eq_true rfl⟩) hS (fun q _ h => hFc q h) hFc (fun ur_4 t H1 locs ht hvm er_4 hB hz1 hk1 hS => ?_)
          obtain ⟨f_4, hRc, hP1⟩ := hB
          rw [ht] at hP1
          clear hFc hz1 hk1 hvm hP
          subst ht
          have hP := hP1
          clear hP1
          generalize t.heap = H at hP hS ⊢
          have hP : va_P (dC, dI) vwCl (cw_W c kc st lg (rU ai 0 f_4) al R) H := hP
          exact W.vret hx hb hr (fun t ht hW => ⟨⟨(), rfl, trivial, f_4, by rw [ht]; exact hP⟩, hS.F ht⟩) hS.2.2 dX8_drawPage_69
        · skip
          have ic_3 := iv_nle c_3
          refine lv_aload_n hx hb dX8_drawPage_16 rfl (lv_at hl 1 rfl) ?_
          refine va_get (D := (dC, dI)) (ci := 10) (v := .ref (c 0)) (C := RX8) (T := TX8) (N := 10) hx hb hts hin_X8 hown hK hP 0 rfl rfl 6 (by decide) (hts (.fieldLink RX8 60 "BlockLog" "pageImage" "[B") (by decide +kernel)) (fun _ h9 => h9) rfl dX8_drawPage_17 ?_
          refine lv_iconst (v := 1) hx hb dX8_drawPage_20 (by decide) ?_
          refine lv_iload_n hx hb dX8_drawPage_21 rfl (lv_at hl 0 rfl) ?_
          refine lv_iadd hx hb dX8_drawPage_22 ?_
          refine lv_topi (fun v_5 ev_5 => ?_)
          have rg1 := iv_rng l3_10
          have hv_5 : v_5.toInt = 1 + l3_10.toInt := by rw [ev_5]; exact (iv_add (by omega) (by omega)).trans (by omega)
          clear ev_5
          refine lv_iload_n hx hb dX8_drawPage_23 rfl (lv_at hl 0 rfl) ?_
          refine lv_iload_n hx hb dX8_drawPage_24 rfl (lv_at hl 3 rfl) ?_
          refine lv_icmp_ge (tgt := 51) hx hb dX8_drawPage_25 (by decide) (fun c_6 => ?_) (fun c_6 => ?_)
          · skip
            have ic_6 := iv_le c_6
            refine lv_iconst (v := 0) hx hb dX8_drawPage_51 (by decide) ?_
            refine va_bast (f := a0_10) hx hb hK hP (cw_D hD) hS 8 0 rfl rfl (iv_in (i := v_5) (by omega) (by omega)) dX8_drawPage_52 (fun H locs hP _ hS => ?_)
            have hP : va_P (dC, dI) vwCl (cw_W c kc st lg (rU ai 0 (upd a0_10 v_5.toNatClampNeg (vp_nar .byte (0 : Int32)))) al R) H := cw_b0 hP
            generalize hU_log_pageImage : upd a0_10 v_5.toNatClampNeg (vp_nar .byte (0 : Int32)) = g_7 at hP
            clear hU_log_pageImage
            obtain ⟨x_8, ex_8⟩ : ∃ z : Int32, z = l3_10 + (1) := ⟨_, rfl⟩
            refine lv_iinc (v := x_8) (lv' := [(3, .int x_8), (0, .ref (c 100)), (1, .int p0), (2, .int p1)]) hx hb dX8_drawPage_53 hl (k := 0) rfl (by rw [ex_8]; rfl) (by decide) rfl (fun ls hl => ?_)
            have hx_8 : x_8.toInt = l3_10.toInt + (1) := by rw [ex_8]; exact (iv_add (by omega) (by omega)).trans (by omega)
            clear ex_8
            refine lv_goto (tgt := 10) hx hb dX8_drawPage_56 (by decide) ?_
            exact ih10 x_8 g_7 _ _ _ (by omega) (by omega) (by omega) hP hS (lv_sub hl [0, 1, 2, 3] rfl)
          · skip
            have ic_6 := iv_nle c_6
            refine lv_iload_n hx hb dX8_drawPage_28 rfl (lv_at hl 2 rfl) ?_
            refine lv_iload_n hx hb dX8_drawPage_29 rfl (lv_at hl 0 rfl) ?_
            refine lv_iadd hx hb dX8_drawPage_30 ?_
            refine lv_topi (fun v_9 ev_9 => ?_)
            have rg2 := iv_rng p0
            have hv_9 : v_9.toInt = p0.toInt + l3_10.toInt := by rw [ev_9]; exact (iv_add (by omega) (by omega)).trans (by omega)
            clear ev_9
            refine lv_sipush (v := 400) hx hb dX8_drawPage_31 (by decide) ?_
            refine lv_icmp_ge (tgt := 51) hx hb dX8_drawPage_34 (by decide) (fun c_10 => ?_) (fun c_10 => ?_)
            · skip
              have ic_10 := iv_le c_10
              refine lv_iconst (v := 0) hx hb dX8_drawPage_51 (by decide) ?_
              refine va_bast (f := a0_10) hx hb hK hP (cw_D hD) hS 8 0 rfl rfl (iv_in (i := v_5) (by omega) (by omega)) dX8_drawPage_52 (fun H locs hP _ hS => ?_)
              have hP : va_P (dC, dI) vwCl (cw_W c kc st lg (rU ai 0 (upd a0_10 v_5.toNatClampNeg (vp_nar .byte (0 : Int32)))) al R) H := cw_b0 hP
              generalize hU_log_pageImage : upd a0_10 v_5.toNatClampNeg (vp_nar .byte (0 : Int32)) = g_11 at hP
              clear hU_log_pageImage
              obtain ⟨x_12, ex_12⟩ : ∃ z : Int32, z = l3_10 + (1) := ⟨_, rfl⟩
              refine lv_iinc (v := x_12) (lv' := [(3, .int x_12), (0, .ref (c 100)), (1, .int p0), (2, .int p1)]) hx hb dX8_drawPage_53 hl (k := 0) rfl (by rw [ex_12]; rfl) (by decide) rfl (fun ls hl => ?_)
              have hx_12 : x_12.toInt = l3_10.toInt + (1) := by rw [ex_12]; exact (iv_add (by omega) (by omega)).trans (by omega)
              clear ex_12
              refine lv_goto (tgt := 10) hx hb dX8_drawPage_56 (by decide) ?_
              exact ih10 x_12 g_11 _ _ _ (by omega) (by omega) (by omega) hP hS (lv_sub hl [0, 1, 2, 3] rfl)
            · skip
              have ic_10 := iv_nle c_10
              refine lv_aload_n hx hb dX8_drawPage_37 rfl (lv_at hl 1 rfl) ?_
              refine va_get (D := (dC, dI)) (ci := 10) (v := .ref (c 101)) (C := RX8) (T := TX8) (N := 10) hx hb hts hin_X8 hown hK hP 0 rfl rfl 0 (by decide) (hts (.fieldLink RX8 13 "BlockLog" "tape" "LBlockLog$Tape;") (by decide +kernel)) (fun _ h9 => h9) rfl dX8_drawPage_38 ?_
              refine va_getN (D := (dC, dI)) (ci := 9) (v := .ref (c 4)) (C := RX7) (T := TX7) (N := 2) hx hb hts hin_X7 hown hK hP 1 rfl rfl 0 (by decide) (va_Nw.use rfl (hGW.1 ("BlockLog", 96, "BlockLog$Tape", "bytes", "[B", "BlockLog") (by decide +kernel))) (fun _ h9 => h9) rfl dX8_drawPage_41 ?_
              refine lv_iload_n hx hb dX8_drawPage_44 rfl (lv_at hl 2 rfl) ?_
              refine lv_iload_n hx hb dX8_drawPage_45 rfl (lv_at hl 0 rfl) ?_
              refine lv_iadd hx hb dX8_drawPage_46 ?_
              refine lv_topi (fun v_13 ev_13 => ?_)
              have hv_13 : v_13.toInt = p0.toInt + l3_10.toInt := by rw [ev_13]; exact (iv_add (by omega) (by omega)).trans (by omega)
              clear ev_13
              refine va_bald (f := ai 4) hx hb hK hP 11 3 rfl rfl (iv_in (i := v_13) (by omega) (by omega)) dX8_drawPage_47 ?_
              refine lv_topi (fun v_14 ev_14 => ?_)
              have k_15 : -128 ≤ v_14.toInt ∧ v_14.toInt ≤ 127 := aR_get hR4 (by omega) (by omega) ev_14
              clear ev_14
              refine lv_goto (tgt := 52) hx hb dX8_drawPage_48 (by decide) ?_
              refine va_bast (f := a0_10) hx hb hK hP (cw_D hD) hS 8 0 rfl rfl (iv_in (i := v_5) (by omega) (by omega)) dX8_drawPage_52 (fun H locs hP _ hS => ?_)
              have hP : va_P (dC, dI) vwCl (cw_W c kc st lg (rU ai 0 (upd a0_10 v_5.toNatClampNeg (vp_nar .byte v_14))) al R) H := cw_b0 hP
              generalize hU_log_pageImage : upd a0_10 v_5.toNatClampNeg (vp_nar .byte v_14) = g_16 at hP
              clear hU_log_pageImage
              obtain ⟨x_17, ex_17⟩ : ∃ z : Int32, z = l3_10 + (1) := ⟨_, rfl⟩
              refine lv_iinc (v := x_17) (lv' := [(3, .int x_17), (0, .ref (c 100)), (1, .int p0), (2, .int p1)]) hx hb dX8_drawPage_53 hl (k := 0) rfl (by rw [ex_17]; rfl) (by decide) rfl (fun ls hl => ?_)
              have hx_17 : x_17.toInt = l3_10.toInt + (1) := by rw [ex_17]; exact (iv_add (by omega) (by omega)).trans (by omega)
              clear ex_17
              refine lv_goto (tgt := 10) hx hb dX8_drawPage_56 (by decide) ?_
              exact ih10 x_17 g_16 _ _ _ (by omega) (by omega) (by omega) hP hS (lv_sub hl [0, 1, 2, 3] rfl)
    exact loop10 ((16 - 0 : Int).toNat + 1) (0 : Int32) g_2 _ _ _ (by omega) (by omega) (by omega) hP hS (lv_sub hl [0, 1, 2, 3] rfl)
  exact main s.heap [] hP hS

set_option maxHeartbeats 4000000 in
set_option maxRecDepth 100000 in
theorem v_X8_collectedDigest (l : Launch) (dC : Nat → ClassId) (dI : Nat → Nat → Nat) (c : Nat → Nat) (kc : Nat → ClassId) (st : Nat → Int32) (lg : Nat → Int64) (ai : Nat → Nat → Int32) (al : Nat → Nat → Int64) (R : va_W) (p0 : Int32) (p1 : Int64) (hf3a : 0 ≤ (st 3).toInt) (hf3b : (st 3).toInt ≤ 8) : Met l yX8_collectedDigest wsX8_collectedDigest ({ frames := 2, cells := 0, slots := 0, locals := 50 }) (va_Pc [.ref (c 100), .int p0, .long p1] (fun U => va_P (dC, dI) vwCl (cw_W c kc st lg ai al R) U.heap ∧ va_K (dC, dI) vwCl (cw_T kc) U)) (vp_Sl (fun r => True)) 0 0 (fun _ => False) := by
  refine Met.ofW (cc := cX8_collectedDigest) (maxL := 7) (ret := (some .long)) (by decide) rfl ?_
  intro p e s m args below meth cM s₁ B hml hv
  obtain ⟨rfl, hP, hK⟩ := hv
  have hx := B.exec
  have hb := B.bytes
  have hr := B.returns
  have hts := atoms_spec (ws := wsX8_collectedDigest) B.pre
  have hown : s.vm.findClass RX8 = some m.cls := findClass_of_methodNamed B.named
  have hl := lv_entry ([.ref (c 100), .int p0, .long p1]) (n := 7) (Nat.le_of_ble_eq_true rfl)
  rw [lg_entry_eq]
  generalize (lg_sl ([.ref (c 100), .int p0, .long p1]) ++ List.replicate (7 - (lg_sl ([.ref (c 100), .int p0, .long p1])).length) Slot.unset).toArray = ls at hl ⊢
  have hl : lv_has ls 7 [(0, .ref (c 100)), (1, .int p0), (2, .long p1)] := hl
  have z_0 : (0 : Int32).toInt = 0 := by decide
  have z_1 : (1 : Int32).toInt = 1 := by decide
  have z_4 : (4 : Int32).toInt = 4 := by decide
  have hin_X8 : ∀ w ∈ u_ws RX8 TX8 10, w ∈ wsX8_collectedDigest := by decide +kernel
  refine lv_iconst (v := 4) hx hb dX8_collectedDigest_0 (by decide) ?_
  refine vp_callSl (va_Run.run (va_runS (As := [.int (4 : Int32)]) (rest := []) ⟨hx, hb, hml, hown, hts⟩ (v_X0_start l dC dI (4 : Int32) ) (va_cwS 1 hts gX8_collectedDigest_X0_start rfl rfl rfl (by decide +kernel) ⟨Nat.le_of_ble_eq_true rfl, Nat.le_of_ble_eq_true rfl⟩) ⟨fun a U g mk q => q, fun U hU hW => ⟨rfl, trivial⟩⟩ rfl rfl hl.1 rfl (lv_room (Nat.le_of_ble_eq_true rfl)) dX8_collectedDigest_1 ⟨Nat.le_of_ble_eq_true rfl, Nat.le_of_ble_eq_true rfl⟩)) (fun r_1 er_1 => ?_)
  refine lv_iload_n hx hb dX8_collectedDigest_4 rfl (lv_at hl 1 rfl) ?_
  refine vp_callSl (va_Run.run (va_runS (As := [.long r_1, .int p0]) (rest := []) ⟨hx, hb, hml, hown, hts⟩ (v_X0_addInt l dC dI r_1 p0 ) (va_cwS 2 hts gX8_collectedDigest_X0_addInt rfl rfl rfl (by decide +kernel) ⟨Nat.le_of_ble_eq_true rfl, Nat.le_of_ble_eq_true rfl⟩) ⟨fun a U g mk q => q, fun U hU hW => ⟨rfl, trivial⟩⟩ rfl rfl hl.1 rfl (lv_room (Nat.le_of_ble_eq_true rfl)) dX8_collectedDigest_5 ⟨Nat.le_of_ble_eq_true rfl, Nat.le_of_ble_eq_true rfl⟩)) (fun r_2 er_2 => ?_)
  refine lv_lload_n hx hb dX8_collectedDigest_8 rfl (lv_at hl 2 rfl) ?_
  refine vp_callSl (va_Run.run (va_runS (As := [.long r_2, .long p1]) (rest := []) ⟨hx, hb, hml, hown, hts⟩ (v_X0_addLong l dC dI r_2 p1 ) (va_cwS 2 hts gX8_collectedDigest_X0_addLong rfl rfl rfl (by decide +kernel) ⟨Nat.le_of_ble_eq_true rfl, Nat.le_of_ble_eq_true rfl⟩) ⟨fun a U g mk q => q, fun U hU hW => ⟨rfl, trivial⟩⟩ rfl rfl hl.1 rfl (lv_room (Nat.le_of_ble_eq_true rfl)) dX8_collectedDigest_9 ⟨Nat.le_of_ble_eq_true rfl, Nat.le_of_ble_eq_true rfl⟩)) (fun r_3 er_3 => ?_)
  refine lv_lstore (lv' := [(4, .long r_3), (0, .ref (c 100)), (1, .int p0), (2, .long p1)]) hx hb dX8_collectedDigest_12 hl (by decide) rfl (fun ls hl => ?_)
  refine lv_iconst (v := 0) hx hb dX8_collectedDigest_14 (by decide) ?_
  refine lv_istore (lv' := [(6, .int (0 : Int32)), (4, .long r_3), (0, .ref (c 100)), (1, .int p0), (2, .long p1)]) hx hb dX8_collectedDigest_15 hl (by decide) rfl (fun ls hl => ?_)
  have loop17 : ∀ (n : Nat) (l6_17 : Int32) (l4_17 : Int64) (ls : Array Slot), (0 ≤ l6_17.toInt) → (l6_17.toInt ≤ (st 3).toInt) → ((st 3).toInt - l6_17.toInt : Int).toNat < n → lv_has ls 7 [(6, .int l6_17), (4, .long l4_17), (0, .ref (c 100)), (1, .int p0), (2, .long p1)] → W p l e (headSpec wsX8_collectedDigest ({ frames := 2, cells := 0, slots := 0, locals := 50 })).room s m ([.ref (c 100), .int p0, .long p1] : List Value).toArray below meth cM s.heap [] 0 0 (MQ below (vp_Sl (fun r => True)) ([.ref (c 100), .int p0, .long p1] : List Value).toArray s 0 0 (fun _ => False)) (F0 m 17 ls []) := by
    intro n
    induction n with
    | zero => intro l6_17 l4_17 ls if0_17 if1_17 hm; exact absurd hm (Nat.not_lt_zero _)
    | succ n ih17 =>
      intro l6_17 l4_17 ls if0_17 if1_17 hm17 hl
      refine lv_iload hx hb dX8_collectedDigest_17 (lv_at hl 0 rfl) ?_
      refine lv_aload_n hx hb dX8_collectedDigest_19 rfl (lv_at hl 2 rfl) ?_
      refine va_get (D := (dC, dI)) (ci := 10) (v := .int (st 3)) (C := RX8) (T := TX8) (N := 10) hx hb hts hin_X8 hown hK hP 0 rfl rfl 9 (by decide) (hts (.fieldLink RX8 72 "BlockLog" "collected" "I") (by decide +kernel)) (fun _ h9 => h9) rfl dX8_collectedDigest_20 ?_
      refine lv_icmp_ge (tgt := 56) hx hb dX8_collectedDigest_23 (by decide) (fun c_4 => ?_) (fun c_4 => ?_)
      · skip
        have ic_4 := iv_le c_4
        refine lv_lload hx hb dX8_collectedDigest_56 (lv_at hl 1 rfl) ?_
        exact W.lret hx hb hr (fun t ht hW => ⟨_, rfl, trivial, ht⟩) (fun q h => by cases h) dX8_collectedDigest_58
      · skip
        have ic_4 := iv_nle c_4
        refine lv_lload hx hb dX8_collectedDigest_26 (lv_at hl 1 rfl) ?_
        refine lv_aload_n hx hb dX8_collectedDigest_28 rfl (lv_at hl 2 rfl) ?_
        refine va_get (D := (dC, dI)) (ci := 10) (v := .ref (c 1)) (C := RX8) (T := TX8) (N := 10) hx hb hts hin_X8 hown hK hP 0 rfl rfl 7 (by decide) (hts (.fieldLink RX8 64 "BlockLog" "collectedSlots" "[I") (by decide +kernel)) (fun _ h9 => h9) rfl dX8_collectedDigest_29 ?_
        refine lv_iload hx hb dX8_collectedDigest_32 (lv_at hl 0 rfl) ?_
        refine va_iald (f := ai 1) hx hb hK hP 9 1 rfl rfl (iv_in (i := l6_17) (by omega) (by omega)) dX8_collectedDigest_34 ?_
        refine lv_topi (fun v_5 ev_5 => ?_)
        clear ev_5
        refine vp_callSl (va_Run.run (va_runS (As := [.long l4_17, .int v_5]) (rest := []) ⟨hx, hb, hml, hown, hts⟩ (v_X0_addInt l dC dI l4_17 v_5 ) (va_cwS 2 hts gX8_collectedDigest_X0_addInt rfl rfl rfl (by decide +kernel) ⟨Nat.le_of_ble_eq_true rfl, Nat.le_of_ble_eq_true rfl⟩) ⟨fun a U g mk q => q, fun U hU hW => ⟨rfl, trivial⟩⟩ rfl rfl hl.1 rfl (lv_room (Nat.le_of_ble_eq_true rfl)) dX8_collectedDigest_35 ⟨Nat.le_of_ble_eq_true rfl, Nat.le_of_ble_eq_true rfl⟩)) (fun r_6 er_6 => ?_)
        refine lv_aload_n hx hb dX8_collectedDigest_38 rfl (lv_at hl 2 rfl) ?_
        refine va_get (D := (dC, dI)) (ci := 10) (v := .ref (c 2)) (C := RX8) (T := TX8) (N := 10) hx hb hts hin_X8 hown hK hP 0 rfl rfl 8 (by decide) (hts (.fieldLink RX8 68 "BlockLog" "collectedLeaves" "[J") (by decide +kernel)) (fun _ h9 => h9) rfl dX8_collectedDigest_39 ?_
        refine lv_iload hx hb dX8_collectedDigest_42 (lv_at hl 0 rfl) ?_
        refine va_lald (f := al 2) hx hb hK hP 10 2 rfl rfl (iv_in (i := l6_17) (by omega) (by omega)) dX8_collectedDigest_44 ?_
        refine lv_topl (fun w_7 ew_7 => ?_)
        clear ew_7
        refine vp_callSl (va_Run.run (va_runS (As := [.long r_6, .long w_7]) (rest := []) ⟨hx, hb, hml, hown, hts⟩ (v_X0_addLong l dC dI r_6 w_7 ) (va_cwS 2 hts gX8_collectedDigest_X0_addLong rfl rfl rfl (by decide +kernel) ⟨Nat.le_of_ble_eq_true rfl, Nat.le_of_ble_eq_true rfl⟩) ⟨fun a U g mk q => q, fun U hU hW => ⟨rfl, trivial⟩⟩ rfl rfl hl.1 rfl (lv_room (Nat.le_of_ble_eq_true rfl)) dX8_collectedDigest_45 ⟨Nat.le_of_ble_eq_true rfl, Nat.le_of_ble_eq_true rfl⟩)) (fun r_8 er_8 => ?_)
        refine lv_lstore (lv' := [(4, .long r_8), (6, .int l6_17), (0, .ref (c 100)), (1, .int p0), (2, .long p1)]) hx hb dX8_collectedDigest_48 hl (by decide) rfl (fun ls hl => ?_)
        obtain ⟨x_9, ex_9⟩ : ∃ z : Int32, z = l6_17 + (1) := ⟨_, rfl⟩
        refine lv_iinc (v := x_9) (lv' := [(6, .int x_9), (4, .long r_8), (0, .ref (c 100)), (1, .int p0), (2, .long p1)]) hx hb dX8_collectedDigest_50 hl (k := 1) rfl (by rw [ex_9]; rfl) (by decide) rfl (fun ls hl => ?_)
        have rg1 := iv_rng l6_17
        have hx_9 : x_9.toInt = l6_17.toInt + (1) := by rw [ex_9]; exact (iv_add (by omega) (by omega)).trans (by omega)
        clear ex_9
        refine lv_goto (tgt := 17) hx hb dX8_collectedDigest_53 (by decide) ?_
        exact ih17 x_9 r_8 _ (by omega) (by omega) (by omega) (lv_sub hl [0, 1, 2, 3, 4] rfl)
  exact loop17 (((st 3).toInt - 0 : Int).toNat + 1) (0 : Int32) r_3 _ (by omega) (by omega) (by omega) (lv_sub hl [0, 1, 2, 3, 4] rfl)

set_option maxHeartbeats 4000000 in
set_option maxRecDepth 100000 in
theorem v_X8_writeBlock (l : Launch) (dC : Nat → ClassId) (dI : Nat → Nat → Nat) (c : Nat → Nat) (kc : Nat → ClassId) (st : Nat → Int32) (lg : Nat → Int64) (ai : Nat → Nat → Int32) (al : Nat → Nat → Int64) (R : va_W) (p0 : Int32) (p1 : Int64) (p2 : Int32) (sz : Nat) (hf9a : 0 ≤ (st 9).toInt) (hf9b : (st 9).toInt ≤ 1) (hf15a : 0 ≤ (st 15).toInt) (hf15b : (st 15).toInt ≤ 1) (hf17a : 0 ≤ (st 17).toInt) (hf17b : (st 17).toInt ≤ 128) (hf25a : 0 ≤ (st 25).toInt) (hf25b : (st 25).toInt ≤ 128) (hf26a : 0 ≤ (st 26).toInt) (hf26b : (st 26).toInt ≤ 128) (hf27a : -1 ≤ (st 27).toInt) (hf27b : (st 27).toInt ≤ 127) (hf28a : 0 ≤ (st 28).toInt) (hf28b : (st 28).toInt ≤ 1) (hq0 : 0 ≤ p2.toInt) (hq1 : p2.toInt ≤ 8) (hR7 : aR (ai 7) 8224 (-128) 127) (hR23 : aR (ai 23) 128 (0) 127) : Met l yX8_writeBlock wsX8_writeBlock ({ frames := 5, cells := 0, slots := 0, locals := 123 }) (va_Pc [.ref (c 100), .int p0, .long p1, .int p2] (fun U => U.heap.size = sz ∧ va_P (dC, dI) vwCl (cw_W c kc st lg ai al R) U.heap ∧ va_K (dC, dI) vwCl (cw_T kc) U ∧ va_D (fun _ => True) (cw_W c kc st lg ai al R) ∧ gx_E (va_A (cw_W c kc st lg ai al R) sz) U)) (va_Qi (fun r (u : Int32) => r = u) (fun u t => ∃ (x9 : Int32) (x10 : Int32) (x11 : Int32) (x17 : Int32) (x25 : Int32) (x26 : Int32) (x27 : Int32) (x28 : Int32) (x29 : Int32) (f7 : Nat → Int32) (f8 : Nat → Int32) (f14 : Nat → Int32) (f20 : Nat → Int32) (f21 : Nat → Int32) (f22 : Nat → Int32) (f23 : Nat → Int32) (g19 : Nat → Int64), (0 ≤ x9.toInt) ∧ (x9.toInt ≤ 1) ∧ (0 ≤ x17.toInt) ∧ (x17.toInt ≤ 128) ∧ (0 ≤ x25.toInt) ∧ (x25.toInt ≤ 128) ∧ (0 ≤ x26.toInt) ∧ (x26.toInt ≤ 128) ∧ (-1 ≤ x27.toInt) ∧ (x27.toInt ≤ 127) ∧ (0 ≤ x28.toInt) ∧ (x28.toInt ≤ 1) ∧ (aR f7 8224 (-128) 127) ∧ (aR f23 128 (0) 127) ∧ va_P (dC, dI) vwCl (cw_W c kc (rU (rU (rU (rU (rU (rU (rU (rU (rU st 9 x9) 10 x10) 11 x11) 17 x17) 25 x25) 26 x26) 27 x27) 28 x28) 29 x29) lg (rU (rU (rU (rU (rU (rU (rU ai 7 f7) 8 f8) 14 f14) 20 f20) 21 f21) 22 f22) 23 f23) (rU al 19 g19) R) t.heap) (va_A (cw_W c kc st lg ai al R) sz)) 0 0 (va_A (cw_W c kc st lg ai al R) sz) := by
  refine Met.ofW (cc := cX8_writeBlock) (maxL := 7) (ret := (some .int)) (by decide) rfl ?_
  intro p e s m args below meth cM s₁ B hml hv
  obtain ⟨rfl, hsz, hP, hK, hD0, hG⟩ := hv
  have hx := B.exec
  have hb := B.bytes
  have hr := B.returns
  have hts := atoms_spec (ws := wsX8_writeBlock) B.pre
  have hown : s.vm.findClass RX8 = some m.cls := findClass_of_methodNamed B.named
  have hGW := hG.1
  subst hsz
  have hD := hD0.self (sz := s.heap.size)
  generalize hAe : va_A (cw_W c kc st lg ai al R) s.heap.size = A at hD hG ⊢
  have hA : ∀ q : Nat, s.heap.size ≤ q → A q := fun q h => by rw [← hAe]; exact Or.inr h
  have hS : va_S A s.heap s.heap [] := va_S.rf
  clear hAe hD0
  have hl := lv_entry ([.ref (c 100), .int p0, .long p1, .int p2]) (n := 7) (Nat.le_of_ble_eq_true rfl)
  rw [lg_entry_eq]
  generalize (lg_sl ([.ref (c 100), .int p0, .long p1, .int p2]) ++ List.replicate (7 - (lg_sl ([.ref (c 100), .int p0, .long p1, .int p2])).length) Slot.unset).toArray = ls at hl ⊢
  have hl : lv_has ls 7 [(0, .ref (c 100)), (1, .int p0), (2, .long p1), (4, .int p2)] := hl
  have z_m4 : (-4 : Int32).toInt = -4 := by decide
  have z_0 : (0 : Int32).toInt = 0 := by decide
  have z_1 : (1 : Int32).toInt = 1 := by decide
  have z_2 : (2 : Int32).toInt = 2 := by decide
  have z_3 : (3 : Int32).toInt = 3 := by decide
  have hin_X4 : ∀ w ∈ u_ws RX4 TX4 6, w ∈ wsX8_writeBlock := by decide +kernel
  have hin_X8 : ∀ w ∈ u_ws RX8 TX8 10, w ∈ wsX8_writeBlock := by decide +kernel
  have main : ∀ (H : Heap) (locs : List Loc), va_P (dC, dI) vwCl (cw_W c kc st lg ai al R) H → va_S A s.heap H locs → W p l e (headSpec wsX8_writeBlock ({ frames := 5, cells := 0, slots := 0, locals := 123 })).room s m ([.ref (c 100), .int p0, .long p1, .int p2] : List Value).toArray below meth cM H locs 0 0 (MQ below (va_Qi (fun r (u : Int32) => r = u) (fun u t => ∃ (x9 : Int32) (x10 : Int32) (x11 : Int32) (x17 : Int32) (x25 : Int32) (x26 : Int32) (x27 : Int32) (x28 : Int32) (x29 : Int32) (f7 : Nat → Int32) (f8 : Nat → Int32) (f14 : Nat → Int32) (f20 : Nat → Int32) (f21 : Nat → Int32) (f22 : Nat → Int32) (f23 : Nat → Int32) (g19 : Nat → Int64), (0 ≤ x9.toInt) ∧ (x9.toInt ≤ 1) ∧ (0 ≤ x17.toInt) ∧ (x17.toInt ≤ 128) ∧ (0 ≤ x25.toInt) ∧ (x25.toInt ≤ 128) ∧ (0 ≤ x26.toInt) ∧ (x26.toInt ≤ 128) ∧ (-1 ≤ x27.toInt) ∧ (x27.toInt ≤ 127) ∧ (0 ≤ x28.toInt) ∧ (x28.toInt ≤ 1) ∧ (aR f7 8224 (-128) 127) ∧ (aR f23 128 (0) 127) ∧ va_P (dC, dI) vwCl (cw_W c kc (rU (rU (rU (rU (rU (rU (rU (rU (rU st 9 x9) 10 x10) 11 x11) 17 x17) 25 x25) 26 x26) 27 x27) 28 x28) 29 x29) lg (rU (rU (rU (rU (rU (rU (rU ai 7 f7) 8 f8) 14 f14) 20 f20) 21 f21) 22 f22) 23 f23) (rU al 19 g19) R) t.heap) A) ([.ref (c 100), .int p0, .long p1, .int p2] : List Value).toArray s 0 0 A) (F0 m 0 ls []) := by
    intro H locs hP hS
    refine lv_aload_n hx hb dX8_writeBlock_0 rfl (lv_at hl 0 rfl) ?_
    refine va_get (D := (dC, dI)) (ci := 10) (v := .ref (c 104)) (C := RX8) (T := TX8) (N := 10) hx hb hts hin_X8 hown hK hP 0 rfl rfl 2 (by decide) (hts (.fieldLink RX8 31 "BlockLog" "rows" "LBlockLog$Rows;") (by decide +kernel)) (fun _ h9 => h9) rfl dX8_writeBlock_1 ?_
    refine va_getN (D := (dC, dI)) (ci := 6) (v := .int (st 17)) (C := RX4) (T := TX4) (N := 6) hx hb hts hin_X4 hown hK hP 4 rfl rfl 4 (by decide) (va_Nw.use rfl (hGW.1 ("BlockLog", 151, "BlockLog$Rows", "count", "I", "BlockLog") (by decide +kernel))) (fun _ h9 => h9) rfl dX8_writeBlock_4 ?_
    refine lv_istore (lv' := [(5, .int (st 17)), (0, .ref (c 100)), (1, .int p0), (2, .long p1), (4, .int p2)]) hx hb dX8_writeBlock_7 hl (by decide) rfl (fun ls hl => ?_)
    refine lv_aload_n hx hb dX8_writeBlock_9 rfl (lv_at hl 1 rfl) ?_
    refine va_get (D := (dC, dI)) (ci := 10) (v := .ref (c 104)) (C := RX8) (T := TX8) (N := 10) hx hb hts hin_X8 hown hK hP 0 rfl rfl 2 (by decide) (hts (.fieldLink RX8 31 "BlockLog" "rows" "LBlockLog$Rows;") (by decide +kernel)) (fun _ h9 => h9) rfl dX8_writeBlock_10 ?_
    refine lv_iconst (v := 2) hx hb dX8_writeBlock_13 (by decide) ?_
    refine lv_iload_n hx hb dX8_writeBlock_14 rfl (lv_at hl 2 rfl) ?_
    refine lv_iload hx hb dX8_writeBlock_15 (lv_at hl 4 rfl) ?_
    refine lv_lload_n hx hb dX8_writeBlock_17 rfl (lv_at hl 3 rfl) ?_
    have hFc := vfree ((cw_D hD : va_D A (cw_W c kc st lg ai al R)) : va_D A (cw_W c kc st lg ai al R)) hS hA
    refine va_calli (va_runV (As := [.int (2 : Int32), .int p0, .int p2, .long p1]) (rest := []) ⟨hx, hb, hml, hown, hts⟩ (v_X4_write l dC dI c kc st lg ai al R (2 : Int32) p0 p2 p1 _ (show 0 ≤ (st 9).toInt by omega) (show (st 9).toInt ≤ 1 by omega) (show 0 ≤ (st 15).toInt by omega) (show (st 15).toInt ≤ 1 by omega) (show 0 ≤ (st 17).toInt by omega) (show (st 17).toInt ≤ 128 by omega) (show aR (ai 7) 8224 (-128) 127 from hR7)) (cwV 4 hts gX8_writeBlock_X4_write rfl rfl rfl (by decide +kernel) ⟨Nat.le_of_ble_eq_true rfl, Nat.le_of_ble_eq_true rfl⟩) ⟨fun a U g mk q => by obtain ⟨q0, q1, qP, qK, qD⟩ := q; exact ⟨q0, q1, qP, va_K.moved (u := U) (U := U.calling g mk a) (Vm.Alike.refl U.vm) qK, qD⟩, va_recv hK hP (ci := 6) (q := (RX4, TX4, 6)) rfl (q0 := 4) rfl, fun U hU hW => ⟨rfl, by rw [hU], by rw [hU]; exact hP, va_K.moved hW.alike hK, ((cw_D hD : va_D A (cw_W c kc st lg ai al R))).weaken (fun _ _ _ _ => trivial)⟩⟩ rfl rfl hl.1 rfl (lv_room (Nat.le_of_ble_eq_true rfl)) dX8_writeBlock_18 ⟨Nat.le_of_ble_eq_true rfl, Nat.le_of_ble_eq_true rfl⟩) hS (fun q _ h => hFc q h) hFc (fun r_1 ur_1 t H1 locs ht hvm er_1 hB hz1 hk1 hS => ?_)
    subst er_1
    obtain ⟨x9_1, x10_1, x11_1, x17_1, f7_1, f8_1, f14_1, k_2, k_3, k_4, k_5, k_6, k_7, hR7, hP1⟩ := hB
    rw [ht] at hP1
    clear hFc hz1 hk1 hvm hP
    subst ht
    have hP := hP1
    clear hP1
    generalize t.heap = H at hP hS ⊢
    have hP : va_P (dC, dI) vwCl (cw_W c kc (rU (rU (rU (rU st 9 x9_1) 10 x10_1) 11 x11_1) 17 x17_1) lg (rU (rU (rU ai 7 f7_1) 8 f8_1) 14 f14_1) al R) H := hP
    have k_4 : 0 ≤ x9_1.toInt := k_4
    have k_5 : x9_1.toInt ≤ 1 := k_5
    have k_6 : 0 ≤ x17_1.toInt := k_6
    have k_7 : x17_1.toInt ≤ 128 := k_7
    have hR7 : aR f7_1 8224 (-128) 127 := hR7
    rcases iv_01 (a := r_1) (by omega) (by omega) with b_8 | b_8
    · skip
      have ib_8 := iv_eq b_8
      rw [b_8]
      refine lv_if_ne (tgt := 27) hx hb dX8_writeBlock_21 (by decide) (fun c_9 => ?_) (fun c_9 => ?_)
      · skip
        have ic_9 := iv_ne c_9
        exfalso
        omega
      · skip
        have ic_9 := iv_eq c_9
        refine lv_bipush (v := (-4)) hx hb dX8_writeBlock_24 (by decide) ?_
        exact W.iret hx hb hr (fun t ht hW => ⟨⟨_, _, rfl, rfl, x9_1, x10_1, x11_1, x17_1, st 25, st 26, st 27, st 28, st 29, f7_1, f8_1, f14_1, ai 20, ai 21, ai 22, ai 23, al 19, (by omega), (by omega), (by omega), (by omega), (by omega), (by omega), (by omega), (by omega), (by omega), (by omega), (by omega), (by omega), hR7, hR23, by rw [ht]; exact hP⟩, hS.F ht⟩) hS.2.2 dX8_writeBlock_26
    · skip
      have ib_8 := iv_eq b_8
      rw [b_8]
      refine lv_if_ne (tgt := 27) hx hb dX8_writeBlock_21 (by decide) (fun c_10 => ?_) (fun c_10 => ?_)
      · skip
        have ic_10 := iv_ne c_10
        refine lv_iconst (v := 0) hx hb dX8_writeBlock_27 (by decide) ?_
        refine lv_istore (lv' := [(6, .int (0 : Int32)), (5, .int (st 17)), (0, .ref (c 100)), (1, .int p0), (2, .long p1), (4, .int p2)]) hx hb dX8_writeBlock_28 hl (by decide) rfl (fun ls hl => ?_)
        have loop30 : ∀ (n : Nat) (l6_30 : Int32) (s9_30 : Int32) (s10_30 : Int32) (s11_30 : Int32) (s17_30 : Int32) (a7_30 : Nat → Int32) (a8_30 : Nat → Int32) (a14_30 : Nat → Int32) (H : Heap) (locs : List Loc) (ls : Array Slot), (0 ≤ l6_30.toInt) → (l6_30.toInt ≤ p2.toInt) → (0 ≤ s9_30.toInt) → (s9_30.toInt ≤ 1) → (0 ≤ s17_30.toInt) → (s17_30.toInt ≤ 128) → (aR a7_30 8224 (-128) 127) → (p2.toInt - l6_30.toInt : Int).toNat < n → va_P (dC, dI) vwCl (cw_W c kc (rU (rU (rU (rU st 9 s9_30) 10 s10_30) 11 s11_30) 17 s17_30) lg (rU (rU (rU ai 7 a7_30) 8 a8_30) 14 a14_30) al R) H → va_S A s.heap H locs → lv_has ls 7 [(6, .int l6_30), (5, .int (st 17)), (0, .ref (c 100)), (1, .int p0), (2, .long p1), (4, .int p2)] → W p l e (headSpec wsX8_writeBlock ({ frames := 5, cells := 0, slots := 0, locals := 123 })).room s m ([.ref (c 100), .int p0, .long p1, .int p2] : List Value).toArray below meth cM H locs 0 0 (MQ below (va_Qi (fun r (u : Int32) => r = u) (fun u t => ∃ (x9 : Int32) (x10 : Int32) (x11 : Int32) (x17 : Int32) (x25 : Int32) (x26 : Int32) (x27 : Int32) (x28 : Int32) (x29 : Int32) (f7 : Nat → Int32) (f8 : Nat → Int32) (f14 : Nat → Int32) (f20 : Nat → Int32) (f21 : Nat → Int32) (f22 : Nat → Int32) (f23 : Nat → Int32) (g19 : Nat → Int64), (0 ≤ x9.toInt) ∧ (x9.toInt ≤ 1) ∧ (0 ≤ x17.toInt) ∧ (x17.toInt ≤ 128) ∧ (0 ≤ x25.toInt) ∧ (x25.toInt ≤ 128) ∧ (0 ≤ x26.toInt) ∧ (x26.toInt ≤ 128) ∧ (-1 ≤ x27.toInt) ∧ (x27.toInt ≤ 127) ∧ (0 ≤ x28.toInt) ∧ (x28.toInt ≤ 1) ∧ (aR f7 8224 (-128) 127) ∧ (aR f23 128 (0) 127) ∧ va_P (dC, dI) vwCl (cw_W c kc (rU (rU (rU (rU (rU (rU (rU (rU (rU st 9 x9) 10 x10) 11 x11) 17 x17) 25 x25) 26 x26) 27 x27) 28 x28) 29 x29) lg (rU (rU (rU (rU (rU (rU (rU ai 7 f7) 8 f8) 14 f14) 20 f20) 21 f21) 22 f22) 23 f23) (rU al 19 g19) R) t.heap) A) ([.ref (c 100), .int p0, .long p1, .int p2] : List Value).toArray s 0 0 A) (F0 m 30 ls []) := by
          intro n
          induction n with
          | zero => intro l6_30 s9_30 s10_30 s11_30 s17_30 a7_30 a8_30 a14_30 H locs ls if0_30 if1_30 if2_30 if3_30 if4_30 if5_30 hR7 hm; exact absurd hm (Nat.not_lt_zero _)
          | succ n ih30 =>
            intro l6_30 s9_30 s10_30 s11_30 s17_30 a7_30 a8_30 a14_30 H locs ls if0_30 if1_30 if2_30 if3_30 if4_30 if5_30 hR7 hm30 hP hS hl
            refine lv_iload hx hb dX8_writeBlock_30 (lv_at hl 0 rfl) ?_
            refine lv_iload hx hb dX8_writeBlock_32 (lv_at hl 5 rfl) ?_
            refine lv_icmp_ge (tgt := 72) hx hb dX8_writeBlock_34 (by decide) (fun c_11 => ?_) (fun c_11 => ?_)
            · skip
              have ic_11 := iv_le c_11
              refine lv_aload_n hx hb dX8_writeBlock_72 rfl (lv_at hl 2 rfl) ?_
              refine va_get (D := (dC, dI)) (ci := 10) (v := .ref (c 105)) (C := RX8) (T := TX8) (N := 10) hx hb hts hin_X8 hown hK hP 0 rfl rfl 3 (by decide) (hts (.fieldLink RX8 40 "BlockLog" "story" "LBlockLog$Story;") (by decide +kernel)) (fun _ h9 => h9) rfl dX8_writeBlock_73 ?_
              have hFc := vfree ((cw_D hD : va_D A (cw_W c kc (rU (rU (rU (rU st 9 s9_30) 10 s10_30) 11 s11_30) 17 s17_30) lg (rU (rU (rU ai 7 a7_30) 8 a8_30) 14 a14_30) al R)) : va_D A (cw_W c kc (rU (rU (rU (rU st 9 s9_30) 10 s10_30) 11 s11_30) 17 s17_30) lg (rU (rU (rU ai 7 a7_30) 8 a8_30) 14 a14_30) al R)) hS hA
              refine va_callv (va_runV (As := []) (rest := []) ⟨hx, hb, hml, hown, hts⟩ (v_X6_hear l dC dI c kc (rU (rU (rU (rU st 9 s9_30) 10 s10_30) 11 s11_30) 17 s17_30) lg (rU (rU (rU ai 7 a7_30) 8 a8_30) 14 a14_30) al R  _ (show 0 ≤ (st 15).toInt by omega) (show (st 15).toInt ≤ 1 by omega) (show 0 ≤ s17_30.toInt by omega) (show s17_30.toInt ≤ 128 by omega) (show 0 ≤ (st 25).toInt by omega) (show (st 25).toInt ≤ 128 by omega) (show 0 ≤ (st 26).toInt by omega) (show (st 26).toInt ≤ 128 by omega) (show -1 ≤ (st 27).toInt by omega) (show (st 27).toInt ≤ 127 by omega) (show 0 ≤ (st 28).toInt by omega) (show (st 28).toInt ≤ 1 by omega) (show aR a7_30 8224 (-128) 127 from hR7) (show aR (ai 23) 128 (0) 127 from hR23)) (cwV 0 hts gX8_writeBlock_X6_hear rfl rfl rfl (by decide +kernel) ⟨Nat.le_of_ble_eq_true rfl, Nat.le_of_ble_eq_true rfl⟩) ⟨fun a U g mk q => by obtain ⟨q0, q1, qP, qK, qD, qG⟩ := q; exact ⟨q0, q1, qP, va_K.moved (u := U) (U := U.calling g mk a) (Vm.Alike.refl U.vm) qK, qD, qG.same rfl rfl⟩, va_recv hK hP (ci := 8) (q := (RX6, TX6, 12)) rfl (q0 := 5) rfl, fun U hU hW => ⟨rfl, by rw [hU], by rw [hU]; exact hP, va_K.moved hW.alike hK, ((cw_D hD : va_D A (cw_W c kc (rU (rU (rU (rU st 9 s9_30) 10 s10_30) 11 s11_30) 17 s17_30) lg (rU (rU (rU ai 7 a7_30) 8 a8_30) 14 a14_30) al R))).weaken (fun _ _ _ _ => trivial), hG.go hW hU hS hFc⟩⟩ rfl rfl hl.1 rfl (lv_room (Nat.le_of_ble_eq_true rfl)) dX8_writeBlock_76 ⟨Nat.le_of_ble_eq_true rfl, Nat.le_of_ble_eq_true rfl⟩) hS (fun q _ h => hFc q h) hFc (fun ur_12 t H1 locs ht hvm er_12 hB hz1 hk1 hS => ?_)
              obtain ⟨x25_12, x26_12, x27_12, x28_12, x29_12, f20_12, f21_12, f22_12, f23_12, g19_12, k_13, k_14, k_15, k_16, k_17, k_18, k_19, k_20, hR23, hP1⟩ := hB
              rw [ht] at hP1
              clear hFc hz1 hk1 hvm hP
              subst ht
              have hP := hP1
              clear hP1
              generalize t.heap = H at hP hS ⊢
              have hP : va_P (dC, dI) vwCl (cw_W c kc (rU (rU (rU (rU (rU (rU (rU (rU (rU st 9 s9_30) 10 s10_30) 11 s11_30) 17 s17_30) 25 x25_12) 26 x26_12) 27 x27_12) 28 x28_12) 29 x29_12) lg (rU (rU (rU (rU (rU (rU (rU ai 7 a7_30) 8 a8_30) 14 a14_30) 20 f20_12) 21 f21_12) 22 f22_12) 23 f23_12) (rU al 19 g19_12) R) H := hP
              have k_13 : 0 ≤ x25_12.toInt := k_13
              have k_14 : x25_12.toInt ≤ 128 := k_14
              have k_15 : 0 ≤ x26_12.toInt := k_15
              have k_16 : x26_12.toInt ≤ 128 := k_16
              have k_17 : -1 ≤ x27_12.toInt := k_17
              have k_18 : x27_12.toInt ≤ 127 := k_18
              have k_19 : 0 ≤ x28_12.toInt := k_19
              have k_20 : x28_12.toInt ≤ 1 := k_20
              have hR23 : aR f23_12 128 (0) 127 := hR23
              refine lv_iload hx hb dX8_writeBlock_79 (lv_at hl 1 rfl) ?_
              exact W.iret hx hb hr (fun t ht hW => ⟨⟨_, _, rfl, rfl, s9_30, s10_30, s11_30, s17_30, x25_12, x26_12, x27_12, x28_12, x29_12, a7_30, a8_30, a14_30, f20_12, f21_12, f22_12, f23_12, g19_12, (by omega), (by omega), (by omega), (by omega), (by omega), (by omega), (by omega), (by omega), (by omega), (by omega), (by omega), (by omega), hR7, hR23, by rw [ht]; exact hP⟩, hS.F ht⟩) hS.2.2 dX8_writeBlock_81
            · skip
              have ic_11 := iv_nle c_11
              refine lv_aload_n hx hb dX8_writeBlock_37 rfl (lv_at hl 2 rfl) ?_
              refine va_get (D := (dC, dI)) (ci := 10) (v := .ref (c 104)) (C := RX8) (T := TX8) (N := 10) hx hb hts hin_X8 hown hK hP 0 rfl rfl 2 (by decide) (hts (.fieldLink RX8 31 "BlockLog" "rows" "LBlockLog$Rows;") (by decide +kernel)) (fun _ h9 => h9) rfl dX8_writeBlock_38 ?_
              refine lv_iconst (v := 3) hx hb dX8_writeBlock_41 (by decide) ?_
              refine lv_aload_n hx hb dX8_writeBlock_42 rfl (lv_at hl 2 rfl) ?_
              refine va_get (D := (dC, dI)) (ci := 10) (v := .ref (c 1)) (C := RX8) (T := TX8) (N := 10) hx hb hts hin_X8 hown hK hP 0 rfl rfl 7 (by decide) (hts (.fieldLink RX8 64 "BlockLog" "collectedSlots" "[I") (by decide +kernel)) (fun _ h9 => h9) rfl dX8_writeBlock_43 ?_
              refine lv_iload hx hb dX8_writeBlock_46 (lv_at hl 0 rfl) ?_
              refine va_iald (f := ai 1) hx hb hK hP 9 1 rfl rfl (iv_in (i := l6_30) (by omega) (by omega)) dX8_writeBlock_48 ?_
              refine lv_topi (fun v_21 ev_21 => ?_)
              clear ev_21
              refine lv_iconst (v := 0) hx hb dX8_writeBlock_49 (by decide) ?_
              refine lv_aload_n hx hb dX8_writeBlock_50 rfl (lv_at hl 2 rfl) ?_
              refine va_get (D := (dC, dI)) (ci := 10) (v := .ref (c 2)) (C := RX8) (T := TX8) (N := 10) hx hb hts hin_X8 hown hK hP 0 rfl rfl 8 (by decide) (hts (.fieldLink RX8 68 "BlockLog" "collectedLeaves" "[J") (by decide +kernel)) (fun _ h9 => h9) rfl dX8_writeBlock_51 ?_
              refine lv_iload hx hb dX8_writeBlock_54 (lv_at hl 0 rfl) ?_
              refine va_lald (f := al 2) hx hb hK hP 10 2 rfl rfl (iv_in (i := l6_30) (by omega) (by omega)) dX8_writeBlock_56 ?_
              refine lv_topl (fun w_22 ew_22 => ?_)
              clear ew_22
              have hFc := vfree ((cw_D hD : va_D A (cw_W c kc (rU (rU (rU (rU st 9 s9_30) 10 s10_30) 11 s11_30) 17 s17_30) lg (rU (rU (rU ai 7 a7_30) 8 a8_30) 14 a14_30) al R)) : va_D A (cw_W c kc (rU (rU (rU (rU st 9 s9_30) 10 s10_30) 11 s11_30) 17 s17_30) lg (rU (rU (rU ai 7 a7_30) 8 a8_30) 14 a14_30) al R)) hS hA
              refine va_calli (va_runV (As := [.int (3 : Int32), .int v_21, .int (0 : Int32), .long w_22]) (rest := []) ⟨hx, hb, hml, hown, hts⟩ (v_X4_write l dC dI c kc (rU (rU (rU (rU st 9 s9_30) 10 s10_30) 11 s11_30) 17 s17_30) lg (rU (rU (rU ai 7 a7_30) 8 a8_30) 14 a14_30) al R (3 : Int32) v_21 (0 : Int32) w_22 _ (show 0 ≤ s9_30.toInt by omega) (show s9_30.toInt ≤ 1 by omega) (show 0 ≤ (st 15).toInt by omega) (show (st 15).toInt ≤ 1 by omega) (show 0 ≤ s17_30.toInt by omega) (show s17_30.toInt ≤ 128 by omega) (show aR a7_30 8224 (-128) 127 from hR7)) (cwV 4 hts gX8_writeBlock_X4_write rfl rfl rfl (by decide +kernel) ⟨Nat.le_of_ble_eq_true rfl, Nat.le_of_ble_eq_true rfl⟩) ⟨fun a U g mk q => by obtain ⟨q0, q1, qP, qK, qD⟩ := q; exact ⟨q0, q1, qP, va_K.moved (u := U) (U := U.calling g mk a) (Vm.Alike.refl U.vm) qK, qD⟩, va_recv hK hP (ci := 6) (q := (RX4, TX4, 6)) rfl (q0 := 4) rfl, fun U hU hW => ⟨rfl, by rw [hU], by rw [hU]; exact hP, va_K.moved hW.alike hK, ((cw_D hD : va_D A (cw_W c kc (rU (rU (rU (rU st 9 s9_30) 10 s10_30) 11 s11_30) 17 s17_30) lg (rU (rU (rU ai 7 a7_30) 8 a8_30) 14 a14_30) al R))).weaken (fun _ _ _ _ => trivial)⟩⟩ rfl rfl hl.1 rfl (lv_room (Nat.le_of_ble_eq_true rfl)) dX8_writeBlock_57 ⟨Nat.le_of_ble_eq_true rfl, Nat.le_of_ble_eq_true rfl⟩) hS (fun q _ h => hFc q h) hFc (fun r_23 ur_23 t H1 locs ht hvm er_23 hB hz1 hk1 hS => ?_)
              subst er_23
              obtain ⟨x9_23, x10_23, x11_23, x17_23, f7_23, f8_23, f14_23, k_24, k_25, k_26, k_27, k_28, k_29, hR7, hP1⟩ := hB
              rw [ht] at hP1
              clear hFc hz1 hk1 hvm hP
              subst ht
              have hP := hP1
              clear hP1
              generalize t.heap = H at hP hS ⊢
              have hP : va_P (dC, dI) vwCl (cw_W c kc (rU (rU (rU (rU st 9 x9_23) 10 x10_23) 11 x11_23) 17 x17_23) lg (rU (rU (rU ai 7 f7_23) 8 f8_23) 14 f14_23) al R) H := hP
              have k_26 : 0 ≤ x9_23.toInt := k_26
              have k_27 : x9_23.toInt ≤ 1 := k_27
              have k_28 : 0 ≤ x17_23.toInt := k_28
              have k_29 : x17_23.toInt ≤ 128 := k_29
              have hR7 : aR f7_23 8224 (-128) 127 := hR7
              rcases iv_01 (a := r_23) (by omega) (by omega) with b_30 | b_30
              · skip
                have ib_30 := iv_eq b_30
                rw [b_30]
                refine lv_if_ne (tgt := 66) hx hb dX8_writeBlock_60 (by decide) (fun c_31 => ?_) (fun c_31 => ?_)
                · skip
                  have ic_31 := iv_ne c_31
                  exfalso
                  omega
                · skip
                  have ic_31 := iv_eq c_31
                  refine lv_bipush (v := (-4)) hx hb dX8_writeBlock_63 (by decide) ?_
                  exact W.iret hx hb hr (fun t ht hW => ⟨⟨_, _, rfl, rfl, x9_23, x10_23, x11_23, x17_23, st 25, st 26, st 27, st 28, st 29, f7_23, f8_23, f14_23, ai 20, ai 21, ai 22, ai 23, al 19, (by omega), (by omega), (by omega), (by omega), (by omega), (by omega), (by omega), (by omega), (by omega), (by omega), (by omega), (by omega), hR7, hR23, by rw [ht]; exact hP⟩, hS.F ht⟩) hS.2.2 dX8_writeBlock_65
              · skip
                have ib_30 := iv_eq b_30
                rw [b_30]
                refine lv_if_ne (tgt := 66) hx hb dX8_writeBlock_60 (by decide) (fun c_32 => ?_) (fun c_32 => ?_)
                · skip
                  have ic_32 := iv_ne c_32
                  obtain ⟨x_33, ex_33⟩ : ∃ z : Int32, z = l6_30 + (1) := ⟨_, rfl⟩
                  refine lv_iinc (v := x_33) (lv' := [(6, .int x_33), (5, .int (st 17)), (0, .ref (c 100)), (1, .int p0), (2, .long p1), (4, .int p2)]) hx hb dX8_writeBlock_66 hl (k := 0) rfl (by rw [ex_33]; rfl) (by decide) rfl (fun ls hl => ?_)
                  have rg1 := iv_rng l6_30
                  have hx_33 : x_33.toInt = l6_30.toInt + (1) := by rw [ex_33]; exact (iv_add (by omega) (by omega)).trans (by omega)
                  clear ex_33
                  refine lv_goto (tgt := 30) hx hb dX8_writeBlock_69 (by decide) ?_
                  exact ih30 x_33 x9_23 x10_23 x11_23 x17_23 f7_23 f8_23 f14_23 _ _ _ (by omega) (by omega) (by omega) (by omega) (by omega) (by omega) (by assumption) (by omega) hP hS (lv_sub hl [0, 1, 2, 3, 4, 5] rfl)
                · skip
                  have ic_32 := iv_eq c_32
                  exfalso
                  omega
        exact loop30 ((p2.toInt - 0 : Int).toNat + 1) (0 : Int32) x9_1 x10_1 x11_1 x17_1 f7_1 f8_1 f14_1 _ _ _ (by omega) (by omega) (by omega) (by omega) (by omega) (by omega) (by assumption) (by omega) hP hS (lv_sub hl [0, 1, 2, 3, 4, 5] rfl)
      · skip
        have ic_10 := iv_eq c_10
        exfalso
        omega
  exact main s.heap [] hP hS

set_option maxHeartbeats 4000000 in
set_option maxRecDepth 100000 in
theorem v_X8_append (l : Launch) (dC : Nat → ClassId) (dI : Nat → Nat → Nat) (c : Nat → Nat) (kc : Nat → ClassId) (st : Nat → Int32) (lg : Nat → Int64) (ai : Nat → Nat → Int32) (al : Nat → Nat → Int64) (R : va_W) (p0 : Int32) (p1 : Int32) (p2 : Int32) (p3 : Int64) (sz : Nat) (hf9a : 0 ≤ (st 9).toInt) (hf9b : (st 9).toInt ≤ 1) (hf15a : 0 ≤ (st 15).toInt) (hf15b : (st 15).toInt ≤ 1) (hf17a : 0 ≤ (st 17).toInt) (hf17b : (st 17).toInt ≤ 128) (hf25a : 0 ≤ (st 25).toInt) (hf25b : (st 25).toInt ≤ 128) (hf26a : 0 ≤ (st 26).toInt) (hf26b : (st 26).toInt ≤ 128) (hf27a : -1 ≤ (st 27).toInt) (hf27b : (st 27).toInt ≤ 127) (hf28a : 0 ≤ (st 28).toInt) (hf28b : (st 28).toInt ≤ 1) (hR7 : aR (ai 7) 8224 (-128) 127) (hR23 : aR (ai 23) 128 (0) 127) : Met l yX8_append wsX8_append ({ frames := 5, cells := 0, slots := 0, locals := 123 }) (va_Pc [.ref (c 100), .int p0, .int p1, .int p2, .long p3] (fun U => U.heap.size = sz ∧ va_P (dC, dI) vwCl (cw_W c kc st lg ai al R) U.heap ∧ va_K (dC, dI) vwCl (cw_T kc) U ∧ va_D (fun _ => True) (cw_W c kc st lg ai al R) ∧ gx_E (va_A (cw_W c kc st lg ai al R) sz) U)) (va_Qi (fun r (u : Int32) => r = u) (fun u t => ∃ (x9 : Int32) (x10 : Int32) (x11 : Int32) (x17 : Int32) (x25 : Int32) (x26 : Int32) (x27 : Int32) (x28 : Int32) (x29 : Int32) (f7 : Nat → Int32) (f8 : Nat → Int32) (f14 : Nat → Int32) (f20 : Nat → Int32) (f21 : Nat → Int32) (f22 : Nat → Int32) (f23 : Nat → Int32) (g19 : Nat → Int64), (0 ≤ u.toInt) ∧ (u.toInt ≤ 1) ∧ (0 ≤ x9.toInt) ∧ (x9.toInt ≤ 1) ∧ (0 ≤ x17.toInt) ∧ (x17.toInt ≤ 128) ∧ (0 ≤ x25.toInt) ∧ (x25.toInt ≤ 128) ∧ (0 ≤ x26.toInt) ∧ (x26.toInt ≤ 128) ∧ (-1 ≤ x27.toInt) ∧ (x27.toInt ≤ 127) ∧ (0 ≤ x28.toInt) ∧ (x28.toInt ≤ 1) ∧ (aR f7 8224 (-128) 127) ∧ (aR f23 128 (0) 127) ∧ va_P (dC, dI) vwCl (cw_W c kc (rU (rU (rU (rU (rU (rU (rU (rU (rU st 9 x9) 10 x10) 11 x11) 17 x17) 25 x25) 26 x26) 27 x27) 28 x28) 29 x29) lg (rU (rU (rU (rU (rU (rU (rU ai 7 f7) 8 f8) 14 f14) 20 f20) 21 f21) 22 f22) 23 f23) (rU al 19 g19) R) t.heap) (va_A (cw_W c kc st lg ai al R) sz)) 0 0 (va_A (cw_W c kc st lg ai al R) sz) := by
  refine Met.ofW (cc := cX8_append) (maxL := 6) (ret := (some .boolean)) (by decide) rfl ?_
  intro p e s m args below meth cM s₁ B hml hv
  obtain ⟨rfl, hsz, hP, hK, hD0, hG⟩ := hv
  have hx := B.exec
  have hb := B.bytes
  have hr := B.returns
  have hts := atoms_spec (ws := wsX8_append) B.pre
  have hown : s.vm.findClass RX8 = some m.cls := findClass_of_methodNamed B.named
  have hGW := hG.1
  subst hsz
  have hD := hD0.self (sz := s.heap.size)
  generalize hAe : va_A (cw_W c kc st lg ai al R) s.heap.size = A at hD hG ⊢
  have hA : ∀ q : Nat, s.heap.size ≤ q → A q := fun q h => by rw [← hAe]; exact Or.inr h
  have hS : va_S A s.heap s.heap [] := va_S.rf
  clear hAe hD0
  have hl := lv_entry ([.ref (c 100), .int p0, .int p1, .int p2, .long p3]) (n := 6) (Nat.le_of_ble_eq_true rfl)
  rw [lg_entry_eq]
  generalize (lg_sl ([.ref (c 100), .int p0, .int p1, .int p2, .long p3]) ++ List.replicate (6 - (lg_sl ([.ref (c 100), .int p0, .int p1, .int p2, .long p3])).length) Slot.unset).toArray = ls at hl ⊢
  have hl : lv_has ls 6 [(0, .ref (c 100)), (1, .int p0), (2, .int p1), (3, .int p2), (4, .long p3)] := hl
  have z_0 : (0 : Int32).toInt = 0 := by decide
  have z_1 : (1 : Int32).toInt = 1 := by decide
  have hin_X8 : ∀ w ∈ u_ws RX8 TX8 10, w ∈ wsX8_append := by decide +kernel
  have main : ∀ (H : Heap) (locs : List Loc), va_P (dC, dI) vwCl (cw_W c kc st lg ai al R) H → va_S A s.heap H locs → W p l e (headSpec wsX8_append ({ frames := 5, cells := 0, slots := 0, locals := 123 })).room s m ([.ref (c 100), .int p0, .int p1, .int p2, .long p3] : List Value).toArray below meth cM H locs 0 0 (MQ below (va_Qi (fun r (u : Int32) => r = u) (fun u t => ∃ (x9 : Int32) (x10 : Int32) (x11 : Int32) (x17 : Int32) (x25 : Int32) (x26 : Int32) (x27 : Int32) (x28 : Int32) (x29 : Int32) (f7 : Nat → Int32) (f8 : Nat → Int32) (f14 : Nat → Int32) (f20 : Nat → Int32) (f21 : Nat → Int32) (f22 : Nat → Int32) (f23 : Nat → Int32) (g19 : Nat → Int64), (0 ≤ u.toInt) ∧ (u.toInt ≤ 1) ∧ (0 ≤ x9.toInt) ∧ (x9.toInt ≤ 1) ∧ (0 ≤ x17.toInt) ∧ (x17.toInt ≤ 128) ∧ (0 ≤ x25.toInt) ∧ (x25.toInt ≤ 128) ∧ (0 ≤ x26.toInt) ∧ (x26.toInt ≤ 128) ∧ (-1 ≤ x27.toInt) ∧ (x27.toInt ≤ 127) ∧ (0 ≤ x28.toInt) ∧ (x28.toInt ≤ 1) ∧ (aR f7 8224 (-128) 127) ∧ (aR f23 128 (0) 127) ∧ va_P (dC, dI) vwCl (cw_W c kc (rU (rU (rU (rU (rU (rU (rU (rU (rU st 9 x9) 10 x10) 11 x11) 17 x17) 25 x25) 26 x26) 27 x27) 28 x28) 29 x29) lg (rU (rU (rU (rU (rU (rU (rU ai 7 f7) 8 f8) 14 f14) 20 f20) 21 f21) 22 f22) 23 f23) (rU al 19 g19) R) t.heap) A) ([.ref (c 100), .int p0, .int p1, .int p2, .long p3] : List Value).toArray s 0 0 A) (F0 m 0 ls []) := by
    intro H locs hP hS
    refine lv_aload_n hx hb dX8_append_0 rfl (lv_at hl 0 rfl) ?_
    refine va_get (D := (dC, dI)) (ci := 10) (v := .ref (c 104)) (C := RX8) (T := TX8) (N := 10) hx hb hts hin_X8 hown hK hP 0 rfl rfl 2 (by decide) (hts (.fieldLink RX8 31 "BlockLog" "rows" "LBlockLog$Rows;") (by decide +kernel)) (fun _ h9 => h9) rfl dX8_append_1 ?_
    refine lv_iload_n hx hb dX8_append_4 rfl (lv_at hl 1 rfl) ?_
    refine lv_iload_n hx hb dX8_append_5 rfl (lv_at hl 2 rfl) ?_
    refine lv_iload_n hx hb dX8_append_6 rfl (lv_at hl 3 rfl) ?_
    refine lv_lload hx hb dX8_append_7 (lv_at hl 4 rfl) ?_
    have hFc := vfree ((cw_D hD : va_D A (cw_W c kc st lg ai al R)) : va_D A (cw_W c kc st lg ai al R)) hS hA
    refine va_calli (va_runV (As := [.int p0, .int p1, .int p2, .long p3]) (rest := []) ⟨hx, hb, hml, hown, hts⟩ (v_X4_write l dC dI c kc st lg ai al R p0 p1 p2 p3 _ (show 0 ≤ (st 9).toInt by omega) (show (st 9).toInt ≤ 1 by omega) (show 0 ≤ (st 15).toInt by omega) (show (st 15).toInt ≤ 1 by omega) (show 0 ≤ (st 17).toInt by omega) (show (st 17).toInt ≤ 128 by omega) (show aR (ai 7) 8224 (-128) 127 from hR7)) (cwV 4 hts gX8_append_X4_write rfl rfl rfl (by decide +kernel) ⟨Nat.le_of_ble_eq_true rfl, Nat.le_of_ble_eq_true rfl⟩) ⟨fun a U g mk q => by obtain ⟨q0, q1, qP, qK, qD⟩ := q; exact ⟨q0, q1, qP, va_K.moved (u := U) (U := U.calling g mk a) (Vm.Alike.refl U.vm) qK, qD⟩, va_recv hK hP (ci := 6) (q := (RX4, TX4, 6)) rfl (q0 := 4) rfl, fun U hU hW => ⟨rfl, by rw [hU], by rw [hU]; exact hP, va_K.moved hW.alike hK, ((cw_D hD : va_D A (cw_W c kc st lg ai al R))).weaken (fun _ _ _ _ => trivial)⟩⟩ rfl rfl hl.1 rfl (lv_room (Nat.le_of_ble_eq_true rfl)) dX8_append_9 ⟨Nat.le_of_ble_eq_true rfl, Nat.le_of_ble_eq_true rfl⟩) hS (fun q _ h => hFc q h) hFc (fun r_1 ur_1 t H1 locs ht hvm er_1 hB hz1 hk1 hS => ?_)
    subst er_1
    obtain ⟨x9_1, x10_1, x11_1, x17_1, f7_1, f8_1, f14_1, k_2, k_3, k_4, k_5, k_6, k_7, hR7, hP1⟩ := hB
    rw [ht] at hP1
    clear hFc hz1 hk1 hvm hP
    subst ht
    have hP := hP1
    clear hP1
    generalize t.heap = H at hP hS ⊢
    have hP : va_P (dC, dI) vwCl (cw_W c kc (rU (rU (rU (rU st 9 x9_1) 10 x10_1) 11 x11_1) 17 x17_1) lg (rU (rU (rU ai 7 f7_1) 8 f8_1) 14 f14_1) al R) H := hP
    have k_4 : 0 ≤ x9_1.toInt := k_4
    have k_5 : x9_1.toInt ≤ 1 := k_5
    have k_6 : 0 ≤ x17_1.toInt := k_6
    have k_7 : x17_1.toInt ≤ 128 := k_7
    have hR7 : aR f7_1 8224 (-128) 127 := hR7
    rcases iv_01 (a := r_1) (by omega) (by omega) with b_8 | b_8
    · skip
      have ib_8 := iv_eq b_8
      rw [b_8]
      refine lv_if_ne (tgt := 17) hx hb dX8_append_12 (by decide) (fun c_9 => ?_) (fun c_9 => ?_)
      · skip
        have ic_9 := iv_ne c_9
        exfalso
        omega
      · skip
        have ic_9 := iv_eq c_9
        refine lv_iconst (v := 0) hx hb dX8_append_15 (by decide) ?_
        exact W.zret hx hb hr rfl (fun t ht hW => ⟨⟨_, _, rfl, rfl, x9_1, x10_1, x11_1, x17_1, st 25, st 26, st 27, st 28, st 29, f7_1, f8_1, f14_1, ai 20, ai 21, ai 22, ai 23, al 19, (by omega), (by omega), (by omega), (by omega), (by omega), (by omega), (by omega), (by omega), (by omega), (by omega), (by omega), (by omega), (by omega), (by omega), hR7, hR23, by rw [ht]; exact hP⟩, hS.F ht⟩) hS.2.2 dX8_append_16
    · skip
      have ib_8 := iv_eq b_8
      rw [b_8]
      refine lv_if_ne (tgt := 17) hx hb dX8_append_12 (by decide) (fun c_10 => ?_) (fun c_10 => ?_)
      · skip
        have ic_10 := iv_ne c_10
        refine lv_aload_n hx hb dX8_append_17 rfl (lv_at hl 0 rfl) ?_
        refine va_get (D := (dC, dI)) (ci := 10) (v := .ref (c 105)) (C := RX8) (T := TX8) (N := 10) hx hb hts hin_X8 hown hK hP 0 rfl rfl 3 (by decide) (hts (.fieldLink RX8 40 "BlockLog" "story" "LBlockLog$Story;") (by decide +kernel)) (fun _ h9 => h9) rfl dX8_append_18 ?_
        have hFc := vfree ((cw_D hD : va_D A (cw_W c kc (rU (rU (rU (rU st 9 x9_1) 10 x10_1) 11 x11_1) 17 x17_1) lg (rU (rU (rU ai 7 f7_1) 8 f8_1) 14 f14_1) al R)) : va_D A (cw_W c kc (rU (rU (rU (rU st 9 x9_1) 10 x10_1) 11 x11_1) 17 x17_1) lg (rU (rU (rU ai 7 f7_1) 8 f8_1) 14 f14_1) al R)) hS hA
        refine va_callv (va_runV (As := []) (rest := []) ⟨hx, hb, hml, hown, hts⟩ (v_X6_hear l dC dI c kc (rU (rU (rU (rU st 9 x9_1) 10 x10_1) 11 x11_1) 17 x17_1) lg (rU (rU (rU ai 7 f7_1) 8 f8_1) 14 f14_1) al R  _ (show 0 ≤ (st 15).toInt by omega) (show (st 15).toInt ≤ 1 by omega) (show 0 ≤ x17_1.toInt by omega) (show x17_1.toInt ≤ 128 by omega) (show 0 ≤ (st 25).toInt by omega) (show (st 25).toInt ≤ 128 by omega) (show 0 ≤ (st 26).toInt by omega) (show (st 26).toInt ≤ 128 by omega) (show -1 ≤ (st 27).toInt by omega) (show (st 27).toInt ≤ 127 by omega) (show 0 ≤ (st 28).toInt by omega) (show (st 28).toInt ≤ 1 by omega) (show aR f7_1 8224 (-128) 127 from hR7) (show aR (ai 23) 128 (0) 127 from hR23)) (cwV 0 hts gX8_append_X6_hear rfl rfl rfl (by decide +kernel) ⟨Nat.le_of_ble_eq_true rfl, Nat.le_of_ble_eq_true rfl⟩) ⟨fun a U g mk q => by obtain ⟨q0, q1, qP, qK, qD, qG⟩ := q; exact ⟨q0, q1, qP, va_K.moved (u := U) (U := U.calling g mk a) (Vm.Alike.refl U.vm) qK, qD, qG.same rfl rfl⟩, va_recv hK hP (ci := 8) (q := (RX6, TX6, 12)) rfl (q0 := 5) rfl, fun U hU hW => ⟨rfl, by rw [hU], by rw [hU]; exact hP, va_K.moved hW.alike hK, ((cw_D hD : va_D A (cw_W c kc (rU (rU (rU (rU st 9 x9_1) 10 x10_1) 11 x11_1) 17 x17_1) lg (rU (rU (rU ai 7 f7_1) 8 f8_1) 14 f14_1) al R))).weaken (fun _ _ _ _ => trivial), hG.go hW hU hS hFc⟩⟩ rfl rfl hl.1 rfl (lv_room (Nat.le_of_ble_eq_true rfl)) dX8_append_21 ⟨Nat.le_of_ble_eq_true rfl, Nat.le_of_ble_eq_true rfl⟩) hS (fun q _ h => hFc q h) hFc (fun ur_11 t H1 locs ht hvm er_11 hB hz1 hk1 hS => ?_)
        obtain ⟨x25_11, x26_11, x27_11, x28_11, x29_11, f20_11, f21_11, f22_11, f23_11, g19_11, k_12, k_13, k_14, k_15, k_16, k_17, k_18, k_19, hR23, hP1⟩ := hB
        rw [ht] at hP1
        clear hFc hz1 hk1 hvm hP
        subst ht
        have hP := hP1
        clear hP1
        generalize t.heap = H at hP hS ⊢
        have hP : va_P (dC, dI) vwCl (cw_W c kc (rU (rU (rU (rU (rU (rU (rU (rU (rU st 9 x9_1) 10 x10_1) 11 x11_1) 17 x17_1) 25 x25_11) 26 x26_11) 27 x27_11) 28 x28_11) 29 x29_11) lg (rU (rU (rU (rU (rU (rU (rU ai 7 f7_1) 8 f8_1) 14 f14_1) 20 f20_11) 21 f21_11) 22 f22_11) 23 f23_11) (rU al 19 g19_11) R) H := hP
        have k_12 : 0 ≤ x25_11.toInt := k_12
        have k_13 : x25_11.toInt ≤ 128 := k_13
        have k_14 : 0 ≤ x26_11.toInt := k_14
        have k_15 : x26_11.toInt ≤ 128 := k_15
        have k_16 : -1 ≤ x27_11.toInt := k_16
        have k_17 : x27_11.toInt ≤ 127 := k_17
        have k_18 : 0 ≤ x28_11.toInt := k_18
        have k_19 : x28_11.toInt ≤ 1 := k_19
        have hR23 : aR f23_11 128 (0) 127 := hR23
        refine lv_iconst (v := 1) hx hb dX8_append_24 (by decide) ?_
        exact W.zret hx hb hr rfl (fun t ht hW => ⟨⟨_, _, rfl, rfl, x9_1, x10_1, x11_1, x17_1, x25_11, x26_11, x27_11, x28_11, x29_11, f7_1, f8_1, f14_1, f20_11, f21_11, f22_11, f23_11, g19_11, (by omega), (by omega), (by omega), (by omega), (by omega), (by omega), (by omega), (by omega), (by omega), (by omega), (by omega), (by omega), (by omega), (by omega), hR7, hR23, by rw [ht]; exact hP⟩, hS.F ht⟩) hS.2.2 dX8_append_25
      · skip
        have ic_10 := iv_eq c_10
        exfalso
        omega
  exact main s.heap [] hP hS

set_option maxHeartbeats 4000000 in
set_option maxRecDepth 100000 in
theorem v_X8_wipe (l : Launch) (dC : Nat → ClassId) (dI : Nat → Nat → Nat) (c : Nat → Nat) (kc : Nat → ClassId) (st : Nat → Int32) (lg : Nat → Int64) (ai : Nat → Nat → Int32) (al : Nat → Nat → Int64) (R : va_W)  (sz : Nat) (hf5a : 0 ≤ (st 5).toInt) (hf5b : (st 5).toInt ≤ 400) : Met l yX8_wipe wsX8_wipe ({ frames := 0, cells := 0, slots := 0, locals := 0 }) (va_Pc [.ref (c 100)] (fun U => U.heap.size = sz ∧ va_P (dC, dI) vwCl (cw_W c kc st lg ai al R) U.heap ∧ va_K (dC, dI) vwCl (cw_T kc) U ∧ va_D (fun _ => True) (cw_W c kc st lg ai al R) ∧ gx_E (va_A (cw_W c kc st lg ai al R) sz) U)) (va_Qi (fun r (u : Int32) => r = u) (fun u t => ∃ (x5 : Int32), (0 ≤ x5.toInt) ∧ (x5.toInt ≤ 400) ∧ va_P (dC, dI) vwCl (cw_W c kc (rU st 5 x5) lg ai al R) t.heap) (va_A (cw_W c kc st lg ai al R) sz)) 0 0 (va_A (cw_W c kc st lg ai al R) sz) := by
  refine Met.ofW (cc := cX8_wipe) (maxL := 2) (ret := (some .int)) (by decide) rfl ?_
  intro p e s m args below meth cM s₁ B hml hv
  obtain ⟨rfl, hsz, hP, hK, hD0, hG⟩ := hv
  have hx := B.exec
  have hb := B.bytes
  have hr := B.returns
  have hts := atoms_spec (ws := wsX8_wipe) B.pre
  have hown : s.vm.findClass RX8 = some m.cls := findClass_of_methodNamed B.named
  have hGW := hG.1
  subst hsz
  have hD := hD0.self (sz := s.heap.size)
  generalize hAe : va_A (cw_W c kc st lg ai al R) s.heap.size = A at hD hG ⊢
  have hA : ∀ q : Nat, s.heap.size ≤ q → A q := fun q h => by rw [← hAe]; exact Or.inr h
  have hS : va_S A s.heap s.heap [] := va_S.rf
  clear hAe hD0
  have hl := lv_entry ([.ref (c 100)]) (n := 2) (Nat.le_of_ble_eq_true rfl)
  rw [lg_entry_eq]
  generalize (lg_sl ([.ref (c 100)]) ++ List.replicate (2 - (lg_sl ([.ref (c 100)])).length) Slot.unset).toArray = ls at hl ⊢
  have hl : lv_has ls 2 [(0, .ref (c 100))] := hl
  have z_0 : (0 : Int32).toInt = 0 := by decide
  have hin_X7 : ∀ w ∈ u_ws RX7 TX7 2, w ∈ wsX8_wipe := by decide +kernel
  have hin_X8 : ∀ w ∈ u_ws RX8 TX8 10, w ∈ wsX8_wipe := by decide +kernel
  have main : ∀ (H : Heap) (locs : List Loc), va_P (dC, dI) vwCl (cw_W c kc st lg ai al R) H → va_S A s.heap H locs → W p l e (headSpec wsX8_wipe ({ frames := 0, cells := 0, slots := 0, locals := 0 })).room s m ([.ref (c 100)] : List Value).toArray below meth cM H locs 0 0 (MQ below (va_Qi (fun r (u : Int32) => r = u) (fun u t => ∃ (x5 : Int32), (0 ≤ x5.toInt) ∧ (x5.toInt ≤ 400) ∧ va_P (dC, dI) vwCl (cw_W c kc (rU st 5 x5) lg ai al R) t.heap) A) ([.ref (c 100)] : List Value).toArray s 0 0 A) (F0 m 0 ls []) := by
    intro H locs hP hS
    refine lv_aload_n hx hb dX8_wipe_0 rfl (lv_at hl 0 rfl) ?_
    refine va_get (D := (dC, dI)) (ci := 10) (v := .ref (c 101)) (C := RX8) (T := TX8) (N := 10) hx hb hts hin_X8 hown hK hP 0 rfl rfl 0 (by decide) (hts (.fieldLink RX8 13 "BlockLog" "tape" "LBlockLog$Tape;") (by decide +kernel)) (fun _ h9 => h9) rfl dX8_wipe_1 ?_
    refine va_getN (D := (dC, dI)) (ci := 9) (v := .int (st 5)) (C := RX7) (T := TX7) (N := 2) hx hb hts hin_X7 hown hK hP 1 rfl rfl 1 (by decide) (va_Nw.use rfl (hGW.1 ("BlockLog", 83, "BlockLog$Tape", "count", "I", "BlockLog") (by decide +kernel))) (fun _ h9 => h9) rfl dX8_wipe_4 ?_
    refine lv_istore_n (lv' := [(1, .int (st 5)), (0, .ref (c 100))]) hx hb dX8_wipe_7 rfl hl (by decide) rfl (fun ls hl => ?_)
    refine lv_aload_n hx hb dX8_wipe_8 rfl (lv_at hl 1 rfl) ?_
    refine va_get (D := (dC, dI)) (ci := 10) (v := .ref (c 101)) (C := RX8) (T := TX8) (N := 10) hx hb hts hin_X8 hown hK hP 0 rfl rfl 0 (by decide) (hts (.fieldLink RX8 13 "BlockLog" "tape" "LBlockLog$Tape;") (by decide +kernel)) (fun _ h9 => h9) rfl dX8_wipe_9 ?_
    refine lv_iconst (v := 0) hx hb dX8_wipe_12 (by decide) ?_
    refine va_putN (D := (dC, dI)) (ci := 9) (v := .int (0 : Int32)) (ty := .int) (C := RX7) (T := TX7) (N := 2) hx hb hts hin_X7 tyX7 tyX7_ok nmX7 hown hK hP (cw_D hD) hS 1 rfl rfl 1 (by decide) (va_Nw.use rfl (hGW.1 ("BlockLog", 83, "BlockLog$Tape", "count", "I", "BlockLog") (by decide +kernel))) (fun _ h9 => h9) rfl (by decide +kernel) rfl rfl (Nat.le_of_ble_eq_true rfl) dX8_wipe_13 (fun H locs hP _ hS => ?_)
    have hP : va_P (dC, dI) vwCl (cw_W c kc (rU st 5 (0 : Int32)) lg ai al R) H := hP
    refine lv_iload_n hx hb dX8_wipe_16 rfl (lv_at hl 0 rfl) ?_
    exact W.iret hx hb hr (fun t ht hW => ⟨⟨_, _, rfl, rfl, (0 : Int32), (by omega), (by omega), by rw [ht]; exact hP⟩, hS.F ht⟩) hS.2.2 dX8_wipe_17
  exact main s.heap [] hP hS

set_option maxHeartbeats 4000000 in
set_option maxRecDepth 100000 in
theorem v_X8_off (l : Launch) (dC : Nat → ClassId) (dI : Nat → Nat → Nat) (c : Nat → Nat) (kc : Nat → ClassId) (st : Nat → Int32) (lg : Nat → Int64) (ai : Nat → Nat → Int32) (al : Nat → Nat → Int64) (R : va_W)  (sz : Nat) (hf3a : 0 ≤ (st 3).toInt) (hf3b : (st 3).toInt ≤ 8) (hf9a : 0 ≤ (st 9).toInt) (hf9b : (st 9).toInt ≤ 1) : Met l yX8_off wsX8_off ({ frames := 0, cells := 0, slots := 0, locals := 0 }) (va_Pc [.ref (c 100)] (fun U => U.heap.size = sz ∧ va_P (dC, dI) vwCl (cw_W c kc st lg ai al R) U.heap ∧ va_K (dC, dI) vwCl (cw_T kc) U ∧ va_D (fun _ => True) (cw_W c kc st lg ai al R) ∧ gx_E (va_A (cw_W c kc st lg ai al R) sz) U)) (va_Qi (fun r (u : Int32) => r = u) (fun u t => ∃ (x3 : Int32) (x9 : Int32), (0 ≤ u.toInt) ∧ (u.toInt ≤ 1) ∧ (0 ≤ x3.toInt) ∧ (x3.toInt ≤ 8) ∧ (0 ≤ x9.toInt) ∧ (x9.toInt ≤ 1) ∧ va_P (dC, dI) vwCl (cw_W c kc (rU (rU st 3 x3) 9 x9) lg ai al R) t.heap) (va_A (cw_W c kc st lg ai al R) sz)) 0 0 (va_A (cw_W c kc st lg ai al R) sz) := by
  refine Met.ofW (cc := cX8_off) (maxL := 2) (ret := (some .boolean)) (by decide) rfl ?_
  intro p e s m args below meth cM s₁ B hml hv
  obtain ⟨rfl, hsz, hP, hK, hD0, hG⟩ := hv
  have hx := B.exec
  have hb := B.bytes
  have hr := B.returns
  have hts := atoms_spec (ws := wsX8_off) B.pre
  have hown : s.vm.findClass RX8 = some m.cls := findClass_of_methodNamed B.named
  have hGW := hG.1
  subst hsz
  have hD := hD0.self (sz := s.heap.size)
  generalize hAe : va_A (cw_W c kc st lg ai al R) s.heap.size = A at hD hG ⊢
  have hA : ∀ q : Nat, s.heap.size ≤ q → A q := fun q h => by rw [← hAe]; exact Or.inr h
  have hS : va_S A s.heap s.heap [] := va_S.rf
  clear hAe hD0
  have hl := lv_entry ([.ref (c 100)]) (n := 2) (Nat.le_of_ble_eq_true rfl)
  rw [lg_entry_eq]
  generalize (lg_sl ([.ref (c 100)]) ++ List.replicate (2 - (lg_sl ([.ref (c 100)])).length) Slot.unset).toArray = ls at hl ⊢
  have hl : lv_has ls 2 [(0, .ref (c 100))] := hl
  have z_0 : (0 : Int32).toInt = 0 := by decide
  have z_1 : (1 : Int32).toInt = 1 := by decide
  have hin_X1 : ∀ w ∈ u_ws RX1 TX1 7, w ∈ wsX8_off := by decide +kernel
  have hin_X8 : ∀ w ∈ u_ws RX8 TX8 10, w ∈ wsX8_off := by decide +kernel
  have main : ∀ (H : Heap) (locs : List Loc), va_P (dC, dI) vwCl (cw_W c kc st lg ai al R) H → va_S A s.heap H locs → W p l e (headSpec wsX8_off ({ frames := 0, cells := 0, slots := 0, locals := 0 })).room s m ([.ref (c 100)] : List Value).toArray below meth cM H locs 0 0 (MQ below (va_Qi (fun r (u : Int32) => r = u) (fun u t => ∃ (x3 : Int32) (x9 : Int32), (0 ≤ u.toInt) ∧ (u.toInt ≤ 1) ∧ (0 ≤ x3.toInt) ∧ (x3.toInt ≤ 8) ∧ (0 ≤ x9.toInt) ∧ (x9.toInt ≤ 1) ∧ va_P (dC, dI) vwCl (cw_W c kc (rU (rU st 3 x3) 9 x9) lg ai al R) t.heap) A) ([.ref (c 100)] : List Value).toArray s 0 0 A) (F0 m 0 ls []) := by
    intro H locs hP hS
    refine lv_aload_n hx hb dX8_off_0 rfl (lv_at hl 0 rfl) ?_
    refine va_get (D := (dC, dI)) (ci := 10) (v := .ref (c 102)) (C := RX8) (T := TX8) (N := 10) hx hb hts hin_X8 hown hK hP 0 rfl rfl 1 (by decide) (hts (.fieldLink RX8 22 "BlockLog" "disk" "LBlockLog$Disk;") (by decide +kernel)) (fun _ h9 => h9) rfl dX8_off_1 ?_
    refine va_getN (D := (dC, dI)) (ci := 3) (v := .int (st 9)) (C := RX1) (T := TX1) (N := 7) hx hb hts hin_X1 hown hK hP 2 rfl rfl 4 (by decide) (va_Nw.use rfl (hGW.1 ("BlockLog", 287, "BlockLog$Disk", "powered", "Z", "BlockLog") (by decide +kernel))) (fun _ h9 => h9) rfl dX8_off_4 ?_
    refine lv_istore_n (lv' := [(1, .int (st 9)), (0, .ref (c 100))]) hx hb dX8_off_7 rfl hl (by decide) rfl (fun ls hl => ?_)
    refine lv_aload_n hx hb dX8_off_8 rfl (lv_at hl 1 rfl) ?_
    refine va_get (D := (dC, dI)) (ci := 10) (v := .ref (c 102)) (C := RX8) (T := TX8) (N := 10) hx hb hts hin_X8 hown hK hP 0 rfl rfl 1 (by decide) (hts (.fieldLink RX8 22 "BlockLog" "disk" "LBlockLog$Disk;") (by decide +kernel)) (fun _ h9 => h9) rfl dX8_off_9 ?_
    refine lv_iconst (v := 0) hx hb dX8_off_12 (by decide) ?_
    refine va_putN (D := (dC, dI)) (ci := 3) (v := .int (0 : Int32)) (ty := .boolean) (C := RX1) (T := TX1) (N := 7) hx hb hts hin_X1 tyX1 tyX1_ok nmX1 hown hK hP (cw_D hD) hS 2 rfl rfl 4 (by decide) (va_Nw.use rfl (hGW.1 ("BlockLog", 287, "BlockLog$Disk", "powered", "Z", "BlockLog") (by decide +kernel))) (fun _ h9 => h9) rfl (by decide +kernel) rfl rfl (Nat.le_of_ble_eq_true rfl) dX8_off_13 (fun H locs hP _ hS => ?_)
    have hP : va_P (dC, dI) vwCl (cw_W c kc (rU st 9 (0 : Int32)) lg ai al R) H := hP
    refine lv_aload_n hx hb dX8_off_16 rfl (lv_at hl 1 rfl) ?_
    refine lv_iconst (v := 0) hx hb dX8_off_17 (by decide) ?_
    refine va_put (D := (dC, dI)) (ci := 10) (v := .int (0 : Int32)) (ty := .int) (C := RX8) (T := TX8) (N := 10) hx hb hts hin_X8 tyX8 tyX8_ok nmX8 hown hK hP (cw_D hD) hS 0 rfl rfl 9 (by decide) (hts (.fieldLink RX8 72 "BlockLog" "collected" "I") (by decide +kernel)) (fun _ h9 => h9) rfl (by decide +kernel) rfl rfl (Nat.le_of_ble_eq_true rfl) dX8_off_18 (fun H locs hP _ hS => ?_)
    have hP : va_P (dC, dI) vwCl (cw_W c kc (rU (rU st 3 (0 : Int32)) 9 (0 : Int32)) lg ai al R) H := hP
    refine lv_iload_n hx hb dX8_off_21 rfl (lv_at hl 0 rfl) ?_
    rcases iv_01 (a := st 9) (by omega) (by omega) with b_1 | b_1
    · skip
      have ib_1 := iv_eq b_1
      rw [b_1]
      exact W.zret hx hb hr rfl (fun t ht hW => ⟨⟨_, _, rfl, rfl, (0 : Int32), (0 : Int32), (by omega), (by omega), (by omega), (by omega), (by omega), (by omega), by rw [ht]; exact hP⟩, hS.F ht⟩) hS.2.2 dX8_off_22
    · skip
      have ib_1 := iv_eq b_1
      rw [b_1]
      exact W.zret hx hb hr rfl (fun t ht hW => ⟨⟨_, _, rfl, rfl, (0 : Int32), (0 : Int32), (by omega), (by omega), (by omega), (by omega), (by omega), (by omega), by rw [ht]; exact hP⟩, hS.F ht⟩) hS.2.2 dX8_off_22
  exact main s.heap [] hP hS
