set_option maxHeartbeats 4000000 in
set_option maxRecDepth 100000 in
theorem v_X7_append (l : Launch) (dC : Nat → ClassId) (dI : Nat → Nat → Nat) (c : Nat → Nat) (kc : Nat → ClassId) (st : Nat → Int32) (lg : Nat → Int64) (ai : Nat → Nat → Int32) (al : Nat → Nat → Int64) (R : va_W) (p0 : Int32) (sz : Nat) (hf5a : 0 ≤ (st 5).toInt) (hf5b : (st 5).toInt ≤ 400) (hR4 : aR (ai 4) 400 (-128) 127) : Met l yX7_append wsX7_append ({ frames := 0, cells := 0, slots := 0, locals := 0 }) (va_Pc [.ref (c 101), .int p0] (fun U => U.heap.size = sz ∧ va_P (dC, dI) vwCl (cw_W c kc st lg ai al R) U.heap ∧ va_K (dC, dI) vwCl (cw_T kc) U ∧ va_D (fun _ => True) (cw_W c kc st lg ai al R))) (va_Qv (fun (_ : Unit) => True) (fun _ t => ∃ (x5 : Int32) (f4 : Nat → Int32), (0 ≤ x5.toInt) ∧ (x5.toInt ≤ 400) ∧ (aR f4 400 (-128) 127) ∧ va_P (dC, dI) vwCl (cw_W c kc (rU st 5 x5) lg (rU ai 4 f4) al R) t.heap) (va_A (cw_W c kc st lg ai al R) sz)) 0 0 (va_A (cw_W c kc st lg ai al R) sz) := by
  refine Met.ofW (cc := cX7_append) (maxL := 2) (ret := none) (by decide) rfl ?_
  intro p e s m args below meth cM s₁ B hml hv
  obtain ⟨rfl, hsz, hP, hK, hD0⟩ := hv
  have hx := B.exec
  have hb := B.bytes
  have hr := B.returns
  have hts := atoms_spec (ws := wsX7_append) B.pre
  have hown : s.vm.findClass RX7 = some m.cls := findClass_of_methodNamed B.named
  subst hsz
  have hD := hD0.self (sz := s.heap.size)
  generalize hAe : va_A (cw_W c kc st lg ai al R) s.heap.size = A at hD ⊢
  have hA : ∀ q : Nat, s.heap.size ≤ q → A q := fun q h => by rw [← hAe]; exact Or.inr h
  have hS : va_S A s.heap s.heap [] := va_S.rf
  clear hAe hD0
  have hl := lv_entry ([.ref (c 101), .int p0]) (n := 2) (Nat.le_of_ble_eq_true rfl)
  rw [lg_entry_eq]
  generalize (lg_sl ([.ref (c 101), .int p0]) ++ List.replicate (2 - (lg_sl ([.ref (c 101), .int p0])).length) Slot.unset).toArray = ls at hl ⊢
  have hl : lv_has ls 2 [(0, .ref (c 101)), (1, .int p0)] := hl
  have z_1 : (1 : Int32).toInt = 1 := by decide
  have z_400 : (400 : Int32).toInt = 400 := by decide
  have hin_X7 : ∀ w ∈ u_ws RX7 TX7 2, w ∈ wsX7_append := by decide +kernel
  have main : ∀ (H : Heap) (locs : List Loc), va_P (dC, dI) vwCl (cw_W c kc st lg ai al R) H → va_S A s.heap H locs → W p l e (headSpec wsX7_append ({ frames := 0, cells := 0, slots := 0, locals := 0 })).room s m ([.ref (c 101), .int p0] : List Value).toArray below meth cM H locs 0 0 (MQ below (va_Qv (fun (_ : Unit) => True) (fun _ t => ∃ (x5 : Int32) (f4 : Nat → Int32), (0 ≤ x5.toInt) ∧ (x5.toInt ≤ 400) ∧ (aR f4 400 (-128) 127) ∧ va_P (dC, dI) vwCl (cw_W c kc (rU st 5 x5) lg (rU ai 4 f4) al R) t.heap) A) ([.ref (c 101), .int p0] : List Value).toArray s 0 0 A) (F0 m 0 ls []) := by
    intro H locs hP hS
    refine lv_aload_n hx hb dX7_append_0 rfl (lv_at hl 0 rfl) ?_
    refine va_get (D := (dC, dI)) (ci := 9) (v := .int (st 5)) (C := RX7) (T := TX7) (N := 2) hx hb hts hin_X7 hown hK hP 1 rfl rfl 1 (by decide) (hts (.fieldLink RX7 15 "BlockLog$Tape" "count" "I") (by decide +kernel)) (fun _ h9 => h9) rfl dX7_append_1 ?_
    refine lv_sipush (v := 400) hx hb dX7_append_4 (by decide) ?_
    refine lv_icmp_ge (tgt := 31) hx hb dX7_append_7 (by decide) (fun c_1 => ?_) (fun c_1 => ?_)
    · skip
      have ic_1 := iv_le c_1
      exact W.vret hx hb hr (fun t ht hW => ⟨⟨(), rfl, trivial, st 5, ai 4, (by omega), (by omega), hR4, by rw [ht]; exact hP⟩, hS.F ht⟩) hS.2.2 dX7_append_31
    · skip
      have ic_1 := iv_nle c_1
      refine lv_aload_n hx hb dX7_append_10 rfl (lv_at hl 0 rfl) ?_
      refine va_get (D := (dC, dI)) (ci := 9) (v := .ref (c 4)) (C := RX7) (T := TX7) (N := 2) hx hb hts hin_X7 hown hK hP 1 rfl rfl 0 (by decide) (hts (.fieldLink RX7 9 "BlockLog$Tape" "bytes" "[B") (by decide +kernel)) (fun _ h9 => h9) rfl dX7_append_11 ?_
      refine lv_aload_n hx hb dX7_append_14 rfl (lv_at hl 0 rfl) ?_
      refine va_get (D := (dC, dI)) (ci := 9) (v := .int (st 5)) (C := RX7) (T := TX7) (N := 2) hx hb hts hin_X7 hown hK hP 1 rfl rfl 1 (by decide) (hts (.fieldLink RX7 15 "BlockLog$Tape" "count" "I") (by decide +kernel)) (fun _ h9 => h9) rfl dX7_append_15 ?_
      refine lv_iload_n hx hb dX7_append_18 rfl (lv_at hl 1 rfl) ?_
      refine lv_i2b hx hb dX7_append_19 rfl ?_
      refine lv_topi (fun v_2 ev_2 => ?_)
      clear ev_2
      refine va_bast (f := ai 4) hx hb hK hP (cw_D hD) hS 11 3 rfl rfl (iv_in (i := st 5) (by omega) (by omega)) dX7_append_20 (fun H locs hP _ hS => ?_)
      have hP : va_P (dC, dI) vwCl (cw_W c kc st lg (rU ai 4 (upd (ai 4) (st 5).toNatClampNeg (vp_nar .byte v_2))) al R) H := cw_a4 hP
      generalize hU_tape_bytes : upd (ai 4) (st 5).toNatClampNeg (vp_nar .byte v_2) = g_3 at hP
      have hR4 : aR g_3 400 (-128) 127 := aR_updB hR4 hU_tape_bytes
      clear hU_tape_bytes
      refine lv_aload_n hx hb dX7_append_21 rfl (lv_at hl 0 rfl) ?_
      refine lv_dup hx hb dX7_append_22 rfl ?_
      refine va_get (D := (dC, dI)) (ci := 9) (v := .int (st 5)) (C := RX7) (T := TX7) (N := 2) hx hb hts hin_X7 hown hK hP 1 rfl rfl 1 (by decide) (hts (.fieldLink RX7 15 "BlockLog$Tape" "count" "I") (by decide +kernel)) (fun _ h9 => h9) rfl dX7_append_23 ?_
      refine lv_iconst (v := 1) hx hb dX7_append_26 (by decide) ?_
      refine lv_iadd hx hb dX7_append_27 ?_
      refine lv_topi (fun v_4 ev_4 => ?_)
      have rg1 := iv_rng (st 5)
      have hv_4 : v_4.toInt = (st 5).toInt + 1 := by rw [ev_4]; exact (iv_add (by omega) (by omega)).trans (by omega)
      clear ev_4
      refine va_put (D := (dC, dI)) (ci := 9) (v := .int v_4) (ty := .int) (C := RX7) (T := TX7) (N := 2) hx hb hts hin_X7 tyX7 tyX7_ok nmX7 hown hK hP (cw_D hD) hS 1 rfl rfl 1 (by decide) (hts (.fieldLink RX7 15 "BlockLog$Tape" "count" "I") (by decide +kernel)) (fun _ h9 => h9) rfl (by decide +kernel) rfl rfl (Nat.le_of_ble_eq_true rfl) dX7_append_28 (fun H locs hP _ hS => ?_)
      have hP : va_P (dC, dI) vwCl (cw_W c kc (rU st 5 v_4) lg (rU ai 4 g_3) al R) H := hP
      exact W.vret hx hb hr (fun t ht hW => ⟨⟨(), rfl, trivial, v_4, g_3, (by omega), (by omega), hR4, by rw [ht]; exact hP⟩, hS.F ht⟩) hS.2.2 dX7_append_31
  exact main s.heap [] hP hS

set_option maxHeartbeats 4000000 in
set_option maxRecDepth 100000 in
theorem v_X7_appendInt (l : Launch) (dC : Nat → ClassId) (dI : Nat → Nat → Nat) (c : Nat → Nat) (kc : Nat → ClassId) (st : Nat → Int32) (lg : Nat → Int64) (ai : Nat → Nat → Int32) (al : Nat → Nat → Int64) (R : va_W) (p0 : Int32) (sz : Nat) (hf5a : 0 ≤ (st 5).toInt) (hf5b : (st 5).toInt ≤ 400) (hR4 : aR (ai 4) 400 (-128) 127) : Met l yX7_appendInt wsX7_appendInt ({ frames := 1, cells := 0, slots := 0, locals := 21 }) (va_Pc [.ref (c 101), .int p0] (fun U => U.heap.size = sz ∧ va_P (dC, dI) vwCl (cw_W c kc st lg ai al R) U.heap ∧ va_K (dC, dI) vwCl (cw_T kc) U ∧ va_D (fun _ => True) (cw_W c kc st lg ai al R))) (va_Qv (fun (_ : Unit) => True) (fun _ t => ∃ (x5 : Int32) (f4 : Nat → Int32), (0 ≤ x5.toInt) ∧ (x5.toInt ≤ 400) ∧ (aR f4 400 (-128) 127) ∧ va_P (dC, dI) vwCl (cw_W c kc (rU st 5 x5) lg (rU ai 4 f4) al R) t.heap) (va_A (cw_W c kc st lg ai al R) sz)) 0 0 (va_A (cw_W c kc st lg ai al R) sz) := by
  refine Met.ofW (cc := cX7_appendInt) (maxL := 3) (ret := none) (by decide) rfl ?_
  intro p e s m args below meth cM s₁ B hml hv
  obtain ⟨rfl, hsz, hP, hK, hD0⟩ := hv
  have hx := B.exec
  have hb := B.bytes
  have hr := B.returns
  have hts := atoms_spec (ws := wsX7_appendInt) B.pre
  have hown : s.vm.findClass RX7 = some m.cls := findClass_of_methodNamed B.named
  subst hsz
  have hD := hD0.self (sz := s.heap.size)
  generalize hAe : va_A (cw_W c kc st lg ai al R) s.heap.size = A at hD ⊢
  have hA : ∀ q : Nat, s.heap.size ≤ q → A q := fun q h => by rw [← hAe]; exact Or.inr h
  have hS : va_S A s.heap s.heap [] := va_S.rf
  clear hAe hD0
  have hl := lv_entry ([.ref (c 101), .int p0]) (n := 3) (Nat.le_of_ble_eq_true rfl)
  rw [lg_entry_eq]
  generalize (lg_sl ([.ref (c 101), .int p0]) ++ List.replicate (3 - (lg_sl ([.ref (c 101), .int p0])).length) Slot.unset).toArray = ls at hl ⊢
  have hl : lv_has ls 3 [(0, .ref (c 101)), (1, .int p0)] := hl
  have z_m8 : (-8 : Int32).toInt = -8 := by decide
  have z_0 : (0 : Int32).toInt = 0 := by decide
  have z_24 : (24 : Int32).toInt = 24 := by decide
  have main : ∀ (H : Heap) (locs : List Loc), va_P (dC, dI) vwCl (cw_W c kc st lg ai al R) H → va_S A s.heap H locs → W p l e (headSpec wsX7_appendInt ({ frames := 1, cells := 0, slots := 0, locals := 21 })).room s m ([.ref (c 101), .int p0] : List Value).toArray below meth cM H locs 0 0 (MQ below (va_Qv (fun (_ : Unit) => True) (fun _ t => ∃ (x5 : Int32) (f4 : Nat → Int32), (0 ≤ x5.toInt) ∧ (x5.toInt ≤ 400) ∧ (aR f4 400 (-128) 127) ∧ va_P (dC, dI) vwCl (cw_W c kc (rU st 5 x5) lg (rU ai 4 f4) al R) t.heap) A) ([.ref (c 101), .int p0] : List Value).toArray s 0 0 A) (F0 m 0 ls []) := by
    intro H locs hP hS
    refine lv_bipush (v := 24) hx hb dX7_appendInt_0 (by decide) ?_
    refine lv_istore_n (lv' := [(2, .int (24 : Int32)), (0, .ref (c 101)), (1, .int p0)]) hx hb dX7_appendInt_2 rfl hl (by decide) rfl (fun ls hl => ?_)
    have loop3 : ∀ (n : Nat) (l2_3 : Int32) (s5_3 : Int32) (a4_3 : Nat → Int32) (H : Heap) (locs : List Loc) (ls : Array Slot), (-8 ≤ l2_3.toInt) → (l2_3.toInt ≤ 24) → (0 ≤ s5_3.toInt) → (s5_3.toInt ≤ 400) → (aR a4_3 400 (-128) 127) → (l2_3.toInt + 8 : Int).toNat < n → va_P (dC, dI) vwCl (cw_W c kc (rU st 5 s5_3) lg (rU ai 4 a4_3) al R) H → va_S A s.heap H locs → lv_has ls 3 [(2, .int l2_3), (0, .ref (c 101)), (1, .int p0)] → W p l e (headSpec wsX7_appendInt ({ frames := 1, cells := 0, slots := 0, locals := 21 })).room s m ([.ref (c 101), .int p0] : List Value).toArray below meth cM H locs 0 0 (MQ below (va_Qv (fun (_ : Unit) => True) (fun _ t => ∃ (x5 : Int32) (f4 : Nat → Int32), (0 ≤ x5.toInt) ∧ (x5.toInt ≤ 400) ∧ (aR f4 400 (-128) 127) ∧ va_P (dC, dI) vwCl (cw_W c kc (rU st 5 x5) lg (rU ai 4 f4) al R) t.heap) A) ([.ref (c 101), .int p0] : List Value).toArray s 0 0 A) (F0 m 3 ls []) := by
      intro n
      induction n with
      | zero => intro l2_3 s5_3 a4_3 H locs ls if0_3 if1_3 if2_3 if3_3 hR4 hm; exact absurd hm (Nat.not_lt_zero _)
      | succ n ih3 =>
        intro l2_3 s5_3 a4_3 H locs ls if0_3 if1_3 if2_3 if3_3 hR4 hm3 hP hS hl
        refine lv_iload_n hx hb dX7_appendInt_3 rfl (lv_at hl 0 rfl) ?_
        refine lv_if_lt (tgt := 20) hx hb dX7_appendInt_4 (by decide) (fun c_1 => ?_) (fun c_1 => ?_)
        · skip
          have ic_1 := iv_lt c_1
          exact W.vret hx hb hr (fun t ht hW => ⟨⟨(), rfl, trivial, s5_3, a4_3, (by omega), (by omega), hR4, by rw [ht]; exact hP⟩, hS.F ht⟩) hS.2.2 dX7_appendInt_20
        · skip
          have ic_1 := iv_nlt c_1
          refine lv_aload_n hx hb dX7_appendInt_7 rfl (lv_at hl 1 rfl) ?_
          refine lv_iload_n hx hb dX7_appendInt_8 rfl (lv_at hl 2 rfl) ?_
          refine lv_iload_n hx hb dX7_appendInt_9 rfl (lv_at hl 0 rfl) ?_
          refine lv_iushr hx hb dX7_appendInt_10 rfl ?_
          refine lv_topi (fun v_2 ev_2 => ?_)
          clear ev_2
          have hFc := vfree ((cw_D hD : va_D A (cw_W c kc (rU st 5 s5_3) lg (rU ai 4 a4_3) al R)) : va_D A (cw_W c kc (rU st 5 s5_3) lg (rU ai 4 a4_3) al R)) hS hA
          refine va_callv (va_runV (As := [.int v_2]) (rest := []) ⟨hx, hb, hml, hown, hts⟩ (v_X7_append l dC dI c kc (rU st 5 s5_3) lg (rU ai 4 a4_3) al R v_2 _ (show 0 ≤ s5_3.toInt by omega) (show s5_3.toInt ≤ 400 by omega) (show aR a4_3 400 (-128) 127 from hR4)) (cwV 1 hts gX7_appendInt_X7_append rfl rfl rfl (by decide +kernel) ⟨Nat.le_of_ble_eq_true rfl, Nat.le_of_ble_eq_true rfl⟩) ⟨fun a U g mk q => by obtain ⟨q0, q1, qP, qK, qD⟩ := q; exact ⟨q0, q1, qP, va_K.moved (u := U) (U := U.calling g mk a) (Vm.Alike.refl U.vm) qK, qD⟩, va_recv hK hP (ci := 9) (q := (RX7, TX7, 2)) rfl (q0 := 1) rfl, fun U hU hW => ⟨rfl, by rw [hU], by rw [hU]; exact hP, va_K.moved hW.alike hK, ((cw_D hD : va_D A (cw_W c kc (rU st 5 s5_3) lg (rU ai 4 a4_3) al R))).weaken (fun _ _ _ _ => trivial)⟩⟩ rfl rfl hl.1 rfl (lv_room (Nat.le_of_ble_eq_true rfl)) dX7_appendInt_11 ⟨Nat.le_of_ble_eq_true rfl, Nat.le_of_ble_eq_true rfl⟩) hS (fun q _ h => hFc q h) hFc (fun ur_3 t H1 locs ht hvm er_3 hB hz1 hk1 hS => ?_)
          obtain ⟨x5_3, f4_3, k_4, k_5, hR4, hP1⟩ := hB
          rw [ht] at hP1
          clear hFc hz1 hk1 hvm hP
          subst ht
          have hP := hP1
          clear hP1
          generalize t.heap = H at hP hS ⊢
          have hP : va_P (dC, dI) vwCl (cw_W c kc (rU st 5 x5_3) lg (rU ai 4 f4_3) al R) H := hP
          have k_4 : 0 ≤ x5_3.toInt := k_4
          have k_5 : x5_3.toInt ≤ 400 := k_5
          have hR4 : aR f4_3 400 (-128) 127 := hR4
          obtain ⟨x_6, ex_6⟩ : ∃ z : Int32, z = l2_3 + (-8) := ⟨_, rfl⟩
          refine lv_iinc (v := x_6) (lv' := [(2, .int x_6), (0, .ref (c 101)), (1, .int p0)]) hx hb dX7_appendInt_14 hl (k := 0) rfl (by rw [ex_6]; rfl) (by decide) rfl (fun ls hl => ?_)
          have rg1 := iv_rng l2_3
          have hx_6 : x_6.toInt = l2_3.toInt + (-8) := by rw [ex_6]; exact (iv_add (by omega) (by omega)).trans (by omega)
          clear ex_6
          refine lv_goto (tgt := 3) hx hb dX7_appendInt_17 (by decide) ?_
          exact ih3 x_6 x5_3 f4_3 _ _ _ (by omega) (by omega) (by omega) (by omega) (by assumption) (by omega) hP hS (lv_sub hl [0, 1, 2] rfl)
    exact loop3 ((24 + 8 : Int).toNat + 1) (24 : Int32) (st 5) (ai 4) _ _ _ (by omega) (by omega) (by omega) (by omega) (by assumption) (by omega) hP hS (lv_sub hl [0, 1, 2] rfl)
  exact main s.heap [] hP hS

set_option maxHeartbeats 4000000 in
set_option maxRecDepth 100000 in
theorem v_X7_appendLong (l : Launch) (dC : Nat → ClassId) (dI : Nat → Nat → Nat) (c : Nat → Nat) (kc : Nat → ClassId) (st : Nat → Int32) (lg : Nat → Int64) (ai : Nat → Nat → Int32) (al : Nat → Nat → Int64) (R : va_W) (p0 : Int64) (sz : Nat) (hf5a : 0 ≤ (st 5).toInt) (hf5b : (st 5).toInt ≤ 400) (hR4 : aR (ai 4) 400 (-128) 127) : Met l yX7_appendLong wsX7_appendLong ({ frames := 2, cells := 0, slots := 0, locals := 43 }) (va_Pc [.ref (c 101), .long p0] (fun U => U.heap.size = sz ∧ va_P (dC, dI) vwCl (cw_W c kc st lg ai al R) U.heap ∧ va_K (dC, dI) vwCl (cw_T kc) U ∧ va_D (fun _ => True) (cw_W c kc st lg ai al R))) (va_Qv (fun (_ : Unit) => True) (fun _ t => ∃ (x5 : Int32) (f4 : Nat → Int32), (0 ≤ x5.toInt) ∧ (x5.toInt ≤ 400) ∧ (aR f4 400 (-128) 127) ∧ va_P (dC, dI) vwCl (cw_W c kc (rU st 5 x5) lg (rU ai 4 f4) al R) t.heap) (va_A (cw_W c kc st lg ai al R) sz)) 0 0 (va_A (cw_W c kc st lg ai al R) sz) := by
  refine Met.ofW (cc := cX7_appendLong) (maxL := 3) (ret := none) (by decide) rfl ?_
  intro p e s m args below meth cM s₁ B hml hv
  obtain ⟨rfl, hsz, hP, hK, hD0⟩ := hv
  have hx := B.exec
  have hb := B.bytes
  have hr := B.returns
  have hts := atoms_spec (ws := wsX7_appendLong) B.pre
  have hown : s.vm.findClass RX7 = some m.cls := findClass_of_methodNamed B.named
  subst hsz
  have hD := hD0.self (sz := s.heap.size)
  generalize hAe : va_A (cw_W c kc st lg ai al R) s.heap.size = A at hD ⊢
  have hA : ∀ q : Nat, s.heap.size ≤ q → A q := fun q h => by rw [← hAe]; exact Or.inr h
  have hS : va_S A s.heap s.heap [] := va_S.rf
  clear hAe hD0
  have hl := lv_entry ([.ref (c 101), .long p0]) (n := 3) (Nat.le_of_ble_eq_true rfl)
  rw [lg_entry_eq]
  generalize (lg_sl ([.ref (c 101), .long p0]) ++ List.replicate (3 - (lg_sl ([.ref (c 101), .long p0])).length) Slot.unset).toArray = ls at hl ⊢
  have hl : lv_has ls 3 [(0, .ref (c 101)), (1, .long p0)] := hl
  have z_32 : (32 : Int32).toInt = 32 := by decide
  have main : ∀ (H : Heap) (locs : List Loc), va_P (dC, dI) vwCl (cw_W c kc st lg ai al R) H → va_S A s.heap H locs → W p l e (headSpec wsX7_appendLong ({ frames := 2, cells := 0, slots := 0, locals := 43 })).room s m ([.ref (c 101), .long p0] : List Value).toArray below meth cM H locs 0 0 (MQ below (va_Qv (fun (_ : Unit) => True) (fun _ t => ∃ (x5 : Int32) (f4 : Nat → Int32), (0 ≤ x5.toInt) ∧ (x5.toInt ≤ 400) ∧ (aR f4 400 (-128) 127) ∧ va_P (dC, dI) vwCl (cw_W c kc (rU st 5 x5) lg (rU ai 4 f4) al R) t.heap) A) ([.ref (c 101), .long p0] : List Value).toArray s 0 0 A) (F0 m 0 ls []) := by
    intro H locs hP hS
    refine lv_aload_n hx hb dX7_appendLong_0 rfl (lv_at hl 0 rfl) ?_
    refine lv_lload_n hx hb dX7_appendLong_1 rfl (lv_at hl 1 rfl) ?_
    refine lv_bipush (v := 32) hx hb dX7_appendLong_2 (by decide) ?_
    refine lv_lushr hx hb dX7_appendLong_4 rfl ?_
    refine lv_topl (fun w_1 ew_1 => ?_)
    clear ew_1
    refine lv_l2i hx hb dX7_appendLong_5 rfl ?_
    refine lv_topi (fun v_2 ev_2 => ?_)
    clear ev_2
    have hFc := vfree ((cw_D hD : va_D A (cw_W c kc st lg ai al R)) : va_D A (cw_W c kc st lg ai al R)) hS hA
    refine va_callv (va_runV (As := [.int v_2]) (rest := []) ⟨hx, hb, hml, hown, hts⟩ (v_X7_appendInt l dC dI c kc st lg ai al R v_2 _ (show 0 ≤ (st 5).toInt by omega) (show (st 5).toInt ≤ 400 by omega) (show aR (ai 4) 400 (-128) 127 from hR4)) (cwV 1 hts gX7_appendLong_X7_appendInt rfl rfl rfl (by decide +kernel) ⟨Nat.le_of_ble_eq_true rfl, Nat.le_of_ble_eq_true rfl⟩) ⟨fun a U g mk q => by obtain ⟨q0, q1, qP, qK, qD⟩ := q; exact ⟨q0, q1, qP, va_K.moved (u := U) (U := U.calling g mk a) (Vm.Alike.refl U.vm) qK, qD⟩, va_recv hK hP (ci := 9) (q := (RX7, TX7, 2)) rfl (q0 := 1) rfl, fun U hU hW => ⟨rfl, by rw [hU], by rw [hU]; exact hP, va_K.moved hW.alike hK, ((cw_D hD : va_D A (cw_W c kc st lg ai al R))).weaken (fun _ _ _ _ => trivial)⟩⟩ rfl rfl hl.1 rfl (lv_room (Nat.le_of_ble_eq_true rfl)) dX7_appendLong_6 ⟨Nat.le_of_ble_eq_true rfl, Nat.le_of_ble_eq_true rfl⟩) hS (fun q _ h => hFc q h) hFc (fun ur_3 t H1 locs ht hvm er_3 hB hz1 hk1 hS => ?_)
    obtain ⟨x5_3, f4_3, k_4, k_5, hR4, hP1⟩ := hB
    rw [ht] at hP1
    clear hFc hz1 hk1 hvm hP
    subst ht
    have hP := hP1
    clear hP1
    generalize t.heap = H at hP hS ⊢
    have hP : va_P (dC, dI) vwCl (cw_W c kc (rU st 5 x5_3) lg (rU ai 4 f4_3) al R) H := hP
    have k_4 : 0 ≤ x5_3.toInt := k_4
    have k_5 : x5_3.toInt ≤ 400 := k_5
    have hR4 : aR f4_3 400 (-128) 127 := hR4
    refine lv_aload_n hx hb dX7_appendLong_9 rfl (lv_at hl 0 rfl) ?_
    refine lv_lload_n hx hb dX7_appendLong_10 rfl (lv_at hl 1 rfl) ?_
    refine lv_l2i hx hb dX7_appendLong_11 rfl ?_
    refine lv_topi (fun v_6 ev_6 => ?_)
    clear ev_6
    have hFc := vfree ((cw_D hD : va_D A (cw_W c kc (rU st 5 x5_3) lg (rU ai 4 f4_3) al R)) : va_D A (cw_W c kc (rU st 5 x5_3) lg (rU ai 4 f4_3) al R)) hS hA
    refine va_callv (va_runV (As := [.int v_6]) (rest := []) ⟨hx, hb, hml, hown, hts⟩ (v_X7_appendInt l dC dI c kc (rU st 5 x5_3) lg (rU ai 4 f4_3) al R v_6 _ (show 0 ≤ x5_3.toInt by omega) (show x5_3.toInt ≤ 400 by omega) (show aR f4_3 400 (-128) 127 from hR4)) (cwV 1 hts gX7_appendLong_X7_appendInt rfl rfl rfl (by decide +kernel) ⟨Nat.le_of_ble_eq_true rfl, Nat.le_of_ble_eq_true rfl⟩) ⟨fun a U g mk q => by obtain ⟨q0, q1, qP, qK, qD⟩ := q; exact ⟨q0, q1, qP, va_K.moved (u := U) (U := U.calling g mk a) (Vm.Alike.refl U.vm) qK, qD⟩, va_recv hK hP (ci := 9) (q := (RX7, TX7, 2)) rfl (q0 := 1) rfl, fun U hU hW => ⟨rfl, by rw [hU], by rw [hU]; exact hP, va_K.moved hW.alike hK, ((cw_D hD : va_D A (cw_W c kc (rU st 5 x5_3) lg (rU ai 4 f4_3) al R))).weaken (fun _ _ _ _ => trivial)⟩⟩ rfl rfl hl.1 rfl (lv_room (Nat.le_of_ble_eq_true rfl)) dX7_appendLong_12 ⟨Nat.le_of_ble_eq_true rfl, Nat.le_of_ble_eq_true rfl⟩) hS (fun q _ h => hFc q h) hFc (fun ur_7 t H1 locs ht hvm er_7 hB hz1 hk1 hS => ?_)
    obtain ⟨x5_7, f4_7, k_8, k_9, hR4, hP1⟩ := hB
    rw [ht] at hP1
    clear hFc hz1 hk1 hvm hP
    subst ht
    have hP := hP1
    clear hP1
    generalize t.heap = H at hP hS ⊢
    have hP : va_P (dC, dI) vwCl (cw_W c kc (rU st 5 x5_7) lg (rU ai 4 f4_7) al R) H := hP
    have k_8 : 0 ≤ x5_7.toInt := k_8
    have k_9 : x5_7.toInt ≤ 400 := k_9
    have hR4 : aR f4_7 400 (-128) 127 := hR4
    exact W.vret hx hb hr (fun t ht hW => ⟨⟨(), rfl, trivial, x5_7, f4_7, (by omega), (by omega), hR4, by rw [ht]; exact hP⟩, hS.F ht⟩) hS.2.2 dX7_appendLong_15
  exact main s.heap [] hP hS

set_option maxHeartbeats 4000000 in
set_option maxRecDepth 100000 in
theorem v_X1_setLow (l : Launch) (dC : Nat → ClassId) (dI : Nat → Nat → Nat) (c : Nat → Nat) (kc : Nat → ClassId) (st : Nat → Int32) (lg : Nat → Int64) (ai : Nat → Nat → Int32) (al : Nat → Nat → Int64) (R : va_W) (p0 : Int32) (p1 : Int32) (sz : Nat) (hq0 : 0 ≤ p0.toInt) (hq1 : p0.toInt < 8224) (hR7 : aR (ai 7) 8224 (-128) 127) : Met l yX1_setLow wsX1_setLow ({ frames := 0, cells := 0, slots := 0, locals := 0 }) (va_Pc [.ref (c 102), .int p0, .int p1] (fun U => U.heap.size = sz ∧ va_P (dC, dI) vwCl (cw_W c kc st lg ai al R) U.heap ∧ va_K (dC, dI) vwCl (cw_T kc) U ∧ va_D (fun _ => True) (cw_W c kc st lg ai al R))) (va_Qv (fun (_ : Unit) => True) (fun _ t => ∃ (f7 : Nat → Int32) (f8 : Nat → Int32), (aR f7 8224 (-128) 127) ∧ va_P (dC, dI) vwCl (cw_W c kc st lg (rU (rU ai 7 f7) 8 f8) al R) t.heap) (va_A (cw_W c kc st lg ai al R) sz)) 0 0 (va_A (cw_W c kc st lg ai al R) sz) := by
  refine Met.ofW (cc := cX1_setLow) (maxL := 3) (ret := none) (by decide) rfl ?_
  intro p e s m args below meth cM s₁ B hml hv
  obtain ⟨rfl, hsz, hP, hK, hD0⟩ := hv
  have hx := B.exec
  have hb := B.bytes
  have hr := B.returns
  have hts := atoms_spec (ws := wsX1_setLow) B.pre
  have hown : s.vm.findClass RX1 = some m.cls := findClass_of_methodNamed B.named
  subst hsz
  have hD := hD0.self (sz := s.heap.size)
  generalize hAe : va_A (cw_W c kc st lg ai al R) s.heap.size = A at hD ⊢
  have hA : ∀ q : Nat, s.heap.size ≤ q → A q := fun q h => by rw [← hAe]; exact Or.inr h
  have hS : va_S A s.heap s.heap [] := va_S.rf
  clear hAe hD0
  have hl := lv_entry ([.ref (c 102), .int p0, .int p1]) (n := 3) (Nat.le_of_ble_eq_true rfl)
  rw [lg_entry_eq]
  generalize (lg_sl ([.ref (c 102), .int p0, .int p1]) ++ List.replicate (3 - (lg_sl ([.ref (c 102), .int p0, .int p1])).length) Slot.unset).toArray = ls at hl ⊢
  have hl : lv_has ls 3 [(0, .ref (c 102)), (1, .int p0), (2, .int p1)] := hl
  have z_0 : (0 : Int32).toInt = 0 := by decide
  have z_32 : (32 : Int32).toInt = 32 := by decide
  have hin_X1 : ∀ w ∈ u_ws RX1 TX1 7, w ∈ wsX1_setLow := by decide +kernel
  have main : ∀ (H : Heap) (locs : List Loc), va_P (dC, dI) vwCl (cw_W c kc st lg ai al R) H → va_S A s.heap H locs → W p l e (headSpec wsX1_setLow ({ frames := 0, cells := 0, slots := 0, locals := 0 })).room s m ([.ref (c 102), .int p0, .int p1] : List Value).toArray below meth cM H locs 0 0 (MQ below (va_Qv (fun (_ : Unit) => True) (fun _ t => ∃ (f7 : Nat → Int32) (f8 : Nat → Int32), (aR f7 8224 (-128) 127) ∧ va_P (dC, dI) vwCl (cw_W c kc st lg (rU (rU ai 7 f7) 8 f8) al R) t.heap) A) ([.ref (c 102), .int p0, .int p1] : List Value).toArray s 0 0 A) (F0 m 0 ls []) := by
    intro H locs hP hS
    refine lv_aload_n hx hb dX1_setLow_0 rfl (lv_at hl 0 rfl) ?_
    refine va_get (D := (dC, dI)) (ci := 3) (v := .ref (c 7)) (C := RX1) (T := TX1) (N := 7) hx hb hts hin_X1 hown hK hP 2 rfl rfl 1 (by decide) (hts (.fieldLink RX1 15 "BlockLog$Disk" "low" "[B") (by decide +kernel)) (fun _ h9 => h9) rfl dX1_setLow_1 ?_
    refine lv_iload_n hx hb dX1_setLow_4 rfl (lv_at hl 1 rfl) ?_
    refine lv_iload_n hx hb dX1_setLow_5 rfl (lv_at hl 2 rfl) ?_
    refine lv_i2b hx hb dX1_setLow_6 rfl ?_
    refine lv_topi (fun v_1 ev_1 => ?_)
    clear ev_1
    refine va_bast (f := ai 7) hx hb hK hP (cw_D hD) hS 12 4 rfl rfl (iv_in (i := p0) (by omega) (by omega)) dX1_setLow_7 (fun H locs hP _ hS => ?_)
    have hP : va_P (dC, dI) vwCl (cw_W c kc st lg (rU ai 7 (upd (ai 7) p0.toNatClampNeg (vp_nar .byte v_1))) al R) H := cw_a7 hP
    generalize hU_disk_low : upd (ai 7) p0.toNatClampNeg (vp_nar .byte v_1) = g_2 at hP
    have hR7 : aR g_2 8224 (-128) 127 := aR_updB hR7 hU_disk_low
    clear hU_disk_low
    refine lv_iload_n hx hb dX1_setLow_8 rfl (lv_at hl 1 rfl) ?_
    refine lv_bipush (v := 32) hx hb dX1_setLow_9 (by decide) ?_
    refine lv_icmp_lt (tgt := 27) hx hb dX1_setLow_11 (by decide) (fun c_3 => ?_) (fun c_3 => ?_)
    · skip
      have ic_3 := iv_lt c_3
      exact W.vret hx hb hr (fun t ht hW => ⟨⟨(), rfl, trivial, g_2, ai 8, hR7, by rw [ht]; exact hP⟩, hS.F ht⟩) hS.2.2 dX1_setLow_27
    · skip
      have ic_3 := iv_nlt c_3
      refine lv_aload_n hx hb dX1_setLow_14 rfl (lv_at hl 0 rfl) ?_
      refine va_get (D := (dC, dI)) (ci := 3) (v := .ref (c 8)) (C := RX1) (T := TX1) (N := 7) hx hb hts hin_X1 hown hK hP 2 rfl rfl 2 (by decide) (hts (.fieldLink RX1 19 "BlockLog$Disk" "rowStates" "[B") (by decide +kernel)) (fun _ h9 => h9) rfl dX1_setLow_15 ?_
      refine lv_iload_n hx hb dX1_setLow_18 rfl (lv_at hl 1 rfl) ?_
      refine lv_bipush (v := 32) hx hb dX1_setLow_19 (by decide) ?_
      refine lv_isub hx hb dX1_setLow_21 ?_
      refine lv_topi (fun v_4 ev_4 => ?_)
      have rg1 := iv_rng p0
      have hv_4 : v_4.toInt = p0.toInt - 32 := by rw [ev_4]; exact (iv_sub (by omega) (by omega)).trans (by omega)
      clear ev_4
      refine lv_bipush (v := 32) hx hb dX1_setLow_22 (by decide) ?_
      refine lv_idiv hx hb dX1_setLow_24 (by decide) ?_
      refine lv_topi (fun v_5 ev_5 => ?_)
      have hv_5 : v_5.toInt = v_4.toInt / 32 := by rw [ev_5]; exact iv_div (by omega) (by decide) (by omega)
      clear ev_5
      refine lv_iconst (v := 0) hx hb dX1_setLow_25 (by decide) ?_
      refine va_bast (f := ai 8) hx hb hK hP (cw_D hD) hS 13 5 rfl rfl (iv_in (i := v_5) (by omega) (by omega)) dX1_setLow_26 (fun H locs hP _ hS => ?_)
      have hP : va_P (dC, dI) vwCl (cw_W c kc st lg (rU (rU ai 7 g_2) 8 (upd (ai 8) v_5.toNatClampNeg (vp_nar .byte (0 : Int32)))) al R) H := cw_a8 hP
      generalize hU_disk_rowStates : upd (ai 8) v_5.toNatClampNeg (vp_nar .byte (0 : Int32)) = g_6 at hP
      clear hU_disk_rowStates
      exact W.vret hx hb hr (fun t ht hW => ⟨⟨(), rfl, trivial, g_2, g_6, hR7, by rw [ht]; exact hP⟩, hS.F ht⟩) hS.2.2 dX1_setLow_27
  exact main s.heap [] hP hS

set_option maxHeartbeats 4000000 in
set_option maxRecDepth 100000 in
theorem v_X1_act (l : Launch) (dC : Nat → ClassId) (dI : Nat → Nat → Nat) (c : Nat → Nat) (kc : Nat → ClassId) (st : Nat → Int32) (lg : Nat → Int64) (ai : Nat → Nat → Int32) (al : Nat → Nat → Int64) (R : va_W)  (sz : Nat) (hf9a : 0 ≤ (st 9).toInt) (hf9b : (st 9).toInt ≤ 1) : Met l yX1_act wsX1_act ({ frames := 0, cells := 0, slots := 0, locals := 0 }) (va_Pc [.ref (c 102)] (fun U => U.heap.size = sz ∧ va_P (dC, dI) vwCl (cw_W c kc st lg ai al R) U.heap ∧ va_K (dC, dI) vwCl (cw_T kc) U ∧ va_D (fun _ => True) (cw_W c kc st lg ai al R))) (va_Qi (fun r (u : Int32) => r = u) (fun u t => ∃ (x9 : Int32) (x10 : Int32) (x11 : Int32), (0 ≤ u.toInt) ∧ (u.toInt ≤ 1) ∧ (0 ≤ x9.toInt) ∧ (x9.toInt ≤ 1) ∧ va_P (dC, dI) vwCl (cw_W c kc (rU (rU (rU st 9 x9) 10 x10) 11 x11) lg ai al R) t.heap) (va_A (cw_W c kc st lg ai al R) sz)) 0 0 (va_A (cw_W c kc st lg ai al R) sz) := by
  refine Met.ofW (cc := cX1_act) (maxL := 1) (ret := (some .boolean)) (by decide) rfl ?_
  intro p e s m args below meth cM s₁ B hml hv
  obtain ⟨rfl, hsz, hP, hK, hD0⟩ := hv
  have hx := B.exec
  have hb := B.bytes
  have hr := B.returns
  have hts := atoms_spec (ws := wsX1_act) B.pre
  have hown : s.vm.findClass RX1 = some m.cls := findClass_of_methodNamed B.named
  subst hsz
  have hD := hD0.self (sz := s.heap.size)
  generalize hAe : va_A (cw_W c kc st lg ai al R) s.heap.size = A at hD ⊢
  have hA : ∀ q : Nat, s.heap.size ≤ q → A q := fun q h => by rw [← hAe]; exact Or.inr h
  have hS : va_S A s.heap s.heap [] := va_S.rf
  clear hAe hD0
  have hl := lv_entry ([.ref (c 102)]) (n := 1) (Nat.le_of_ble_eq_true rfl)
  rw [lg_entry_eq]
  generalize (lg_sl ([.ref (c 102)]) ++ List.replicate (1 - (lg_sl ([.ref (c 102)])).length) Slot.unset).toArray = ls at hl ⊢
  have hl : lv_has ls 1 [(0, .ref (c 102))] := hl
  have z_m1 : (-1 : Int32).toInt = -1 := by decide
  have z_0 : (0 : Int32).toInt = 0 := by decide
  have z_1 : (1 : Int32).toInt = 1 := by decide
  have hin_X1 : ∀ w ∈ u_ws RX1 TX1 7, w ∈ wsX1_act := by decide +kernel
  have main : ∀ (H : Heap) (locs : List Loc), va_P (dC, dI) vwCl (cw_W c kc st lg ai al R) H → va_S A s.heap H locs → W p l e (headSpec wsX1_act ({ frames := 0, cells := 0, slots := 0, locals := 0 })).room s m ([.ref (c 102)] : List Value).toArray below meth cM H locs 0 0 (MQ below (va_Qi (fun r (u : Int32) => r = u) (fun u t => ∃ (x9 : Int32) (x10 : Int32) (x11 : Int32), (0 ≤ u.toInt) ∧ (u.toInt ≤ 1) ∧ (0 ≤ x9.toInt) ∧ (x9.toInt ≤ 1) ∧ va_P (dC, dI) vwCl (cw_W c kc (rU (rU (rU st 9 x9) 10 x10) 11 x11) lg ai al R) t.heap) A) ([.ref (c 102)] : List Value).toArray s 0 0 A) (F0 m 0 ls []) := by
    intro H locs hP hS
    refine lv_aload_n hx hb dX1_act_0 rfl (lv_at hl 0 rfl) ?_
    refine va_get (D := (dC, dI)) (ci := 3) (v := .int (st 9)) (C := RX1) (T := TX1) (N := 7) hx hb hts hin_X1 hown hK hP 2 rfl rfl 4 (by decide) (hts (.fieldLink RX1 29 "BlockLog$Disk" "powered" "Z") (by decide +kernel)) (fun _ h9 => h9) rfl dX1_act_1 ?_
    refine lv_if_ne (tgt := 9) hx hb dX1_act_4 (by decide) (fun c_1 => ?_) (fun c_1 => ?_)
    · skip
      have ic_1 := iv_ne c_1
      refine lv_aload_n hx hb dX1_act_9 rfl (lv_at hl 0 rfl) ?_
      refine va_get (D := (dC, dI)) (ci := 3) (v := .int (st 10)) (C := RX1) (T := TX1) (N := 7) hx hb hts hin_X1 hown hK hP 2 rfl rfl 5 (by decide) (hts (.fieldLink RX1 33 "BlockLog$Disk" "actsLeft" "I") (by decide +kernel)) (fun _ h9 => h9) rfl dX1_act_10 ?_
      refine lv_if_ne (tgt := 28) hx hb dX1_act_13 (by decide) (fun c_2 => ?_) (fun c_2 => ?_)
      · skip
        have ic_2 := iv_ne c_2
        refine lv_aload_n hx hb dX1_act_28 rfl (lv_at hl 0 rfl) ?_
        refine va_get (D := (dC, dI)) (ci := 3) (v := .int (st 10)) (C := RX1) (T := TX1) (N := 7) hx hb hts hin_X1 hown hK hP 2 rfl rfl 5 (by decide) (hts (.fieldLink RX1 33 "BlockLog$Disk" "actsLeft" "I") (by decide +kernel)) (fun _ h9 => h9) rfl dX1_act_29 ?_
        refine lv_if_le (tgt := 45) hx hb dX1_act_32 (by decide) (fun c_3 => ?_) (fun c_3 => ?_)
        · skip
          have ic_3 := iv_le c_3
          refine lv_aload_n hx hb dX1_act_45 rfl (lv_at hl 0 rfl) ?_
          refine lv_dup hx hb dX1_act_46 rfl ?_
          refine va_get (D := (dC, dI)) (ci := 3) (v := .int (st 11)) (C := RX1) (T := TX1) (N := 7) hx hb hts hin_X1 hown hK hP 2 rfl rfl 6 (by decide) (hts (.fieldLink RX1 36 "BlockLog$Disk" "actsDone" "I") (by decide +kernel)) (fun _ h9 => h9) rfl dX1_act_47 ?_
          refine lv_iconst (v := 1) hx hb dX1_act_50 (by decide) ?_
          refine lv_iadd hx hb dX1_act_51 ?_
          refine lv_topi (fun v_4 ev_4 => ?_)
          clear ev_4
          refine va_put (D := (dC, dI)) (ci := 3) (v := .int v_4) (ty := .int) (C := RX1) (T := TX1) (N := 7) hx hb hts hin_X1 tyX1 tyX1_ok nmX1 hown hK hP (cw_D hD) hS 2 rfl rfl 6 (by decide) (hts (.fieldLink RX1 36 "BlockLog$Disk" "actsDone" "I") (by decide +kernel)) (fun _ h9 => h9) rfl (by decide +kernel) rfl rfl (Nat.le_of_ble_eq_true rfl) dX1_act_52 (fun H locs hP _ hS => ?_)
          have hP : va_P (dC, dI) vwCl (cw_W c kc (rU st 11 v_4) lg ai al R) H := hP
          refine lv_iconst (v := 1) hx hb dX1_act_55 (by decide) ?_
          exact W.zret hx hb hr rfl (fun t ht hW => ⟨⟨_, _, rfl, rfl, st 9, st 10, v_4, (by omega), (by omega), (by omega), (by omega), by rw [ht]; exact hP⟩, hS.F ht⟩) hS.2.2 dX1_act_56
        · skip
          have ic_3 := iv_nle c_3
          refine lv_aload_n hx hb dX1_act_35 rfl (lv_at hl 0 rfl) ?_
          refine lv_dup hx hb dX1_act_36 rfl ?_
          refine va_get (D := (dC, dI)) (ci := 3) (v := .int (st 10)) (C := RX1) (T := TX1) (N := 7) hx hb hts hin_X1 hown hK hP 2 rfl rfl 5 (by decide) (hts (.fieldLink RX1 33 "BlockLog$Disk" "actsLeft" "I") (by decide +kernel)) (fun _ h9 => h9) rfl dX1_act_37 ?_
          refine lv_iconst (v := 1) hx hb dX1_act_40 (by decide) ?_
          refine lv_isub hx hb dX1_act_41 ?_
          refine lv_topi (fun v_5 ev_5 => ?_)
          clear ev_5
          refine va_put (D := (dC, dI)) (ci := 3) (v := .int v_5) (ty := .int) (C := RX1) (T := TX1) (N := 7) hx hb hts hin_X1 tyX1 tyX1_ok nmX1 hown hK hP (cw_D hD) hS 2 rfl rfl 5 (by decide) (hts (.fieldLink RX1 33 "BlockLog$Disk" "actsLeft" "I") (by decide +kernel)) (fun _ h9 => h9) rfl (by decide +kernel) rfl rfl (Nat.le_of_ble_eq_true rfl) dX1_act_42 (fun H locs hP _ hS => ?_)
          have hP : va_P (dC, dI) vwCl (cw_W c kc (rU st 10 v_5) lg ai al R) H := hP
          refine lv_aload_n hx hb dX1_act_45 rfl (lv_at hl 0 rfl) ?_
          refine lv_dup hx hb dX1_act_46 rfl ?_
          refine va_get (D := (dC, dI)) (ci := 3) (v := .int (st 11)) (C := RX1) (T := TX1) (N := 7) hx hb hts hin_X1 hown hK hP 2 rfl rfl 6 (by decide) (hts (.fieldLink RX1 36 "BlockLog$Disk" "actsDone" "I") (by decide +kernel)) (fun _ h9 => h9) rfl dX1_act_47 ?_
          refine lv_iconst (v := 1) hx hb dX1_act_50 (by decide) ?_
          refine lv_iadd hx hb dX1_act_51 ?_
          refine lv_topi (fun v_6 ev_6 => ?_)
          clear ev_6
          refine va_put (D := (dC, dI)) (ci := 3) (v := .int v_6) (ty := .int) (C := RX1) (T := TX1) (N := 7) hx hb hts hin_X1 tyX1 tyX1_ok nmX1 hown hK hP (cw_D hD) hS 2 rfl rfl 6 (by decide) (hts (.fieldLink RX1 36 "BlockLog$Disk" "actsDone" "I") (by decide +kernel)) (fun _ h9 => h9) rfl (by decide +kernel) rfl rfl (Nat.le_of_ble_eq_true rfl) dX1_act_52 (fun H locs hP _ hS => ?_)
          have hP : va_P (dC, dI) vwCl (cw_W c kc (rU (rU st 10 v_5) 11 v_6) lg ai al R) H := hP
          refine lv_iconst (v := 1) hx hb dX1_act_55 (by decide) ?_
          exact W.zret hx hb hr rfl (fun t ht hW => ⟨⟨_, _, rfl, rfl, st 9, v_5, v_6, (by omega), (by omega), (by omega), (by omega), by rw [ht]; exact hP⟩, hS.F ht⟩) hS.2.2 dX1_act_56
      · skip
        have ic_2 := iv_eq c_2
        refine lv_aload_n hx hb dX1_act_16 rfl (lv_at hl 0 rfl) ?_
        refine lv_iconst (v := 0) hx hb dX1_act_17 (by decide) ?_
        refine va_put (D := (dC, dI)) (ci := 3) (v := .int (0 : Int32)) (ty := .boolean) (C := RX1) (T := TX1) (N := 7) hx hb hts hin_X1 tyX1 tyX1_ok nmX1 hown hK hP (cw_D hD) hS 2 rfl rfl 4 (by decide) (hts (.fieldLink RX1 29 "BlockLog$Disk" "powered" "Z") (by decide +kernel)) (fun _ h9 => h9) rfl (by decide +kernel) rfl rfl (Nat.le_of_ble_eq_true rfl) dX1_act_18 (fun H locs hP _ hS => ?_)
        have hP : va_P (dC, dI) vwCl (cw_W c kc (rU st 9 (0 : Int32)) lg ai al R) H := hP
        refine lv_aload_n hx hb dX1_act_21 rfl (lv_at hl 0 rfl) ?_
        refine lv_iconst (v := (-1)) hx hb dX1_act_22 (by decide) ?_
        refine va_put (D := (dC, dI)) (ci := 3) (v := .int (-1 : Int32)) (ty := .int) (C := RX1) (T := TX1) (N := 7) hx hb hts hin_X1 tyX1 tyX1_ok nmX1 hown hK hP (cw_D hD) hS 2 rfl rfl 5 (by decide) (hts (.fieldLink RX1 33 "BlockLog$Disk" "actsLeft" "I") (by decide +kernel)) (fun _ h9 => h9) rfl (by decide +kernel) rfl rfl (Nat.le_of_ble_eq_true rfl) dX1_act_23 (fun H locs hP _ hS => ?_)
        have hP : va_P (dC, dI) vwCl (cw_W c kc (rU (rU st 9 (0 : Int32)) 10 (-1 : Int32)) lg ai al R) H := hP
        refine lv_iconst (v := 0) hx hb dX1_act_26 (by decide) ?_
        exact W.zret hx hb hr rfl (fun t ht hW => ⟨⟨_, _, rfl, rfl, (0 : Int32), (-1 : Int32), st 11, (by omega), (by omega), (by omega), (by omega), by rw [ht]; exact hP⟩, hS.F ht⟩) hS.2.2 dX1_act_27
    · skip
      have ic_1 := iv_eq c_1
      refine lv_iconst (v := 0) hx hb dX1_act_7 (by decide) ?_
      exact W.zret hx hb hr rfl (fun t ht hW => ⟨⟨_, _, rfl, rfl, st 9, st 10, st 11, (by omega), (by omega), (by omega), (by omega), by rw [ht]; exact hP⟩, hS.F ht⟩) hS.2.2 dX1_act_8
  exact main s.heap [] hP hS

set_option maxHeartbeats 4000000 in
set_option maxRecDepth 100000 in
theorem v_X1_writeLow (l : Launch) (dC : Nat → ClassId) (dI : Nat → Nat → Nat) (c : Nat → Nat) (kc : Nat → ClassId) (st : Nat → Int32) (lg : Nat → Int64) (ai : Nat → Nat → Int32) (al : Nat → Nat → Int64) (R : va_W) (p0 : Int32) (p2 : Int32) (sz : Nat) (hf9a : 0 ≤ (st 9).toInt) (hf9b : (st 9).toInt ≤ 1) (hq0 : 0 ≤ p0.toInt) (hq1 : 0 ≤ p2.toInt) (hq2 : p2.toInt ≤ 32) (hq3 : p0.toInt + p2.toInt ≤ 8224) (hR7 : aR (ai 7) 8224 (-128) 127) : Met l yX1_writeLow wsX1_writeLow ({ frames := 1, cells := 0, slots := 0, locals := 22 }) (va_Pc [.ref (c 102), .int p0, .ref (c 14), .int p2] (fun U => U.heap.size = sz ∧ va_P (dC, dI) vwCl (cw_W c kc st lg ai al R) U.heap ∧ va_K (dC, dI) vwCl (cw_T kc) U ∧ va_D (fun _ => True) (cw_W c kc st lg ai al R))) (va_Qi (fun r (u : Int32) => r = u) (fun u t => ∃ (x9 : Int32) (x10 : Int32) (x11 : Int32) (f7 : Nat → Int32) (f8 : Nat → Int32), (0 ≤ u.toInt) ∧ (u.toInt ≤ 1) ∧ (0 ≤ x9.toInt) ∧ (x9.toInt ≤ 1) ∧ (aR f7 8224 (-128) 127) ∧ va_P (dC, dI) vwCl (cw_W c kc (rU (rU (rU st 9 x9) 10 x10) 11 x11) lg (rU (rU ai 7 f7) 8 f8) al R) t.heap) (va_A (cw_W c kc st lg ai al R) sz)) 0 0 (va_A (cw_W c kc st lg ai al R) sz) := by
  refine Met.ofW (cc := cX1_writeLow) (maxL := 5) (ret := (some .boolean)) (by decide) rfl ?_
  intro p e s m args below meth cM s₁ B hml hv
  obtain ⟨rfl, hsz, hP, hK, hD0⟩ := hv
  have hx := B.exec
  have hb := B.bytes
  have hr := B.returns
  have hts := atoms_spec (ws := wsX1_writeLow) B.pre
  have hown : s.vm.findClass RX1 = some m.cls := findClass_of_methodNamed B.named
  subst hsz
  have hD := hD0.self (sz := s.heap.size)
  generalize hAe : va_A (cw_W c kc st lg ai al R) s.heap.size = A at hD ⊢
  have hA : ∀ q : Nat, s.heap.size ≤ q → A q := fun q h => by rw [← hAe]; exact Or.inr h
  have hS : va_S A s.heap s.heap [] := va_S.rf
  clear hAe hD0
  have hl := lv_entry ([.ref (c 102), .int p0, .ref (c 14), .int p2]) (n := 5) (Nat.le_of_ble_eq_true rfl)
  rw [lg_entry_eq]
  generalize (lg_sl ([.ref (c 102), .int p0, .ref (c 14), .int p2]) ++ List.replicate (5 - (lg_sl ([.ref (c 102), .int p0, .ref (c 14), .int p2])).length) Slot.unset).toArray = ls at hl ⊢
  have hl : lv_has ls 5 [(0, .ref (c 102)), (1, .int p0), (2, .ref (c 14)), (3, .int p2)] := hl
  have z_0 : (0 : Int32).toInt = 0 := by decide
  have z_1 : (1 : Int32).toInt = 1 := by decide
  have main : ∀ (H : Heap) (locs : List Loc), va_P (dC, dI) vwCl (cw_W c kc st lg ai al R) H → va_S A s.heap H locs → W p l e (headSpec wsX1_writeLow ({ frames := 1, cells := 0, slots := 0, locals := 22 })).room s m ([.ref (c 102), .int p0, .ref (c 14), .int p2] : List Value).toArray below meth cM H locs 0 0 (MQ below (va_Qi (fun r (u : Int32) => r = u) (fun u t => ∃ (x9 : Int32) (x10 : Int32) (x11 : Int32) (f7 : Nat → Int32) (f8 : Nat → Int32), (0 ≤ u.toInt) ∧ (u.toInt ≤ 1) ∧ (0 ≤ x9.toInt) ∧ (x9.toInt ≤ 1) ∧ (aR f7 8224 (-128) 127) ∧ va_P (dC, dI) vwCl (cw_W c kc (rU (rU (rU st 9 x9) 10 x10) 11 x11) lg (rU (rU ai 7 f7) 8 f8) al R) t.heap) A) ([.ref (c 102), .int p0, .ref (c 14), .int p2] : List Value).toArray s 0 0 A) (F0 m 0 ls []) := by
    intro H locs hP hS
    refine lv_iconst (v := 0) hx hb dX1_writeLow_0 (by decide) ?_
    refine lv_istore (lv' := [(4, .int (0 : Int32)), (0, .ref (c 102)), (1, .int p0), (2, .ref (c 14)), (3, .int p2)]) hx hb dX1_writeLow_1 hl (by decide) rfl (fun ls hl => ?_)
    have loop3 : ∀ (n : Nat) (l4_3 : Int32) (s9_3 : Int32) (s10_3 : Int32) (s11_3 : Int32) (a7_3 : Nat → Int32) (a8_3 : Nat → Int32) (H : Heap) (locs : List Loc) (ls : Array Slot), (0 ≤ l4_3.toInt) → (l4_3.toInt ≤ p2.toInt) → (0 ≤ s9_3.toInt) → (s9_3.toInt ≤ 1) → (aR a7_3 8224 (-128) 127) → (p2.toInt - l4_3.toInt : Int).toNat < n → va_P (dC, dI) vwCl (cw_W c kc (rU (rU (rU st 9 s9_3) 10 s10_3) 11 s11_3) lg (rU (rU ai 7 a7_3) 8 a8_3) al R) H → va_S A s.heap H locs → lv_has ls 5 [(4, .int l4_3), (0, .ref (c 102)), (1, .int p0), (2, .ref (c 14)), (3, .int p2)] → W p l e (headSpec wsX1_writeLow ({ frames := 1, cells := 0, slots := 0, locals := 22 })).room s m ([.ref (c 102), .int p0, .ref (c 14), .int p2] : List Value).toArray below meth cM H locs 0 0 (MQ below (va_Qi (fun r (u : Int32) => r = u) (fun u t => ∃ (x9 : Int32) (x10 : Int32) (x11 : Int32) (f7 : Nat → Int32) (f8 : Nat → Int32), (0 ≤ u.toInt) ∧ (u.toInt ≤ 1) ∧ (0 ≤ x9.toInt) ∧ (x9.toInt ≤ 1) ∧ (aR f7 8224 (-128) 127) ∧ va_P (dC, dI) vwCl (cw_W c kc (rU (rU (rU st 9 x9) 10 x10) 11 x11) lg (rU (rU ai 7 f7) 8 f8) al R) t.heap) A) ([.ref (c 102), .int p0, .ref (c 14), .int p2] : List Value).toArray s 0 0 A) (F0 m 3 ls []) := by
      intro n
      induction n with
      | zero => intro l4_3 s9_3 s10_3 s11_3 a7_3 a8_3 H locs ls if0_3 if1_3 if2_3 if3_3 hR7 hm; exact absurd hm (Nat.not_lt_zero _)
      | succ n ih3 =>
        intro l4_3 s9_3 s10_3 s11_3 a7_3 a8_3 H locs ls if0_3 if1_3 if2_3 if3_3 hR7 hm3 hP hS hl
        refine lv_iload hx hb dX1_writeLow_3 (lv_at hl 0 rfl) ?_
        refine lv_iload_n hx hb dX1_writeLow_5 rfl (lv_at hl 4 rfl) ?_
        refine lv_icmp_ge (tgt := 36) hx hb dX1_writeLow_6 (by decide) (fun c_1 => ?_) (fun c_1 => ?_)
        · skip
          have ic_1 := iv_le c_1
          refine lv_iconst (v := 1) hx hb dX1_writeLow_36 (by decide) ?_
          exact W.zret hx hb hr rfl (fun t ht hW => ⟨⟨_, _, rfl, rfl, s9_3, s10_3, s11_3, a7_3, a8_3, (by omega), (by omega), (by omega), (by omega), hR7, by rw [ht]; exact hP⟩, hS.F ht⟩) hS.2.2 dX1_writeLow_37
        · skip
          have ic_1 := iv_nle c_1
          refine lv_aload_n hx hb dX1_writeLow_9 rfl (lv_at hl 1 rfl) ?_
          have hFc := vfree ((cw_D hD : va_D A (cw_W c kc (rU (rU (rU st 9 s9_3) 10 s10_3) 11 s11_3) lg (rU (rU ai 7 a7_3) 8 a8_3) al R)) : va_D A (cw_W c kc (rU (rU (rU st 9 s9_3) 10 s10_3) 11 s11_3) lg (rU (rU ai 7 a7_3) 8 a8_3) al R)) hS hA
          refine va_calli (va_runV (As := []) (rest := []) ⟨hx, hb, hml, hown, hts⟩ (v_X1_act l dC dI c kc (rU (rU (rU st 9 s9_3) 10 s10_3) 11 s11_3) lg (rU (rU ai 7 a7_3) 8 a8_3) al R  _ (show 0 ≤ s9_3.toInt by omega) (show s9_3.toInt ≤ 1 by omega)) (cwV 0 hts gX1_writeLow_X1_act rfl rfl rfl (by decide +kernel) ⟨Nat.le_of_ble_eq_true rfl, Nat.le_of_ble_eq_true rfl⟩) ⟨fun a U g mk q => by obtain ⟨q0, q1, qP, qK, qD⟩ := q; exact ⟨q0, q1, qP, va_K.moved (u := U) (U := U.calling g mk a) (Vm.Alike.refl U.vm) qK, qD⟩, va_recv hK hP (ci := 3) (q := (RX1, TX1, 7)) rfl (q0 := 2) rfl, fun U hU hW => ⟨rfl, by rw [hU], by rw [hU]; exact hP, va_K.moved hW.alike hK, ((cw_D hD : va_D A (cw_W c kc (rU (rU (rU st 9 s9_3) 10 s10_3) 11 s11_3) lg (rU (rU ai 7 a7_3) 8 a8_3) al R))).weaken (fun _ _ _ _ => trivial)⟩⟩ rfl rfl hl.1 rfl (lv_room (Nat.le_of_ble_eq_true rfl)) dX1_writeLow_10 ⟨Nat.le_of_ble_eq_true rfl, Nat.le_of_ble_eq_true rfl⟩) hS (fun q _ h => hFc q h) hFc (fun r_2 ur_2 t H1 locs ht hvm er_2 hB hz1 hk1 hS => ?_)
          subst er_2
          obtain ⟨x9_2, x10_2, x11_2, k_3, k_4, k_5, k_6, hP1⟩ := hB
          rw [ht] at hP1
          clear hFc hz1 hk1 hvm hP
          subst ht
          have hP := hP1
          clear hP1
          generalize t.heap = H at hP hS ⊢
          have hP : va_P (dC, dI) vwCl (cw_W c kc (rU (rU (rU st 9 x9_2) 10 x10_2) 11 x11_2) lg (rU (rU ai 7 a7_3) 8 a8_3) al R) H := hP
          have k_5 : 0 ≤ x9_2.toInt := k_5
          have k_6 : x9_2.toInt ≤ 1 := k_6
          rcases iv_01 (a := r_2) (by omega) (by omega) with b_7 | b_7
          · skip
            have ib_7 := iv_eq b_7
            rw [b_7]
            refine lv_if_ne (tgt := 18) hx hb dX1_writeLow_13 (by decide) (fun c_8 => ?_) (fun c_8 => ?_)
            · skip
              have ic_8 := iv_ne c_8
              exfalso
              omega
            · skip
              have ic_8 := iv_eq c_8
              refine lv_iconst (v := 0) hx hb dX1_writeLow_16 (by decide) ?_
              exact W.zret hx hb hr rfl (fun t ht hW => ⟨⟨_, _, rfl, rfl, x9_2, x10_2, x11_2, a7_3, a8_3, (by omega), (by omega), (by omega), (by omega), hR7, by rw [ht]; exact hP⟩, hS.F ht⟩) hS.2.2 dX1_writeLow_17
          · skip
            have ib_7 := iv_eq b_7
            rw [b_7]
            refine lv_if_ne (tgt := 18) hx hb dX1_writeLow_13 (by decide) (fun c_9 => ?_) (fun c_9 => ?_)
            · skip
              have ic_9 := iv_ne c_9
              refine lv_aload_n hx hb dX1_writeLow_18 rfl (lv_at hl 1 rfl) ?_
              refine lv_iload_n hx hb dX1_writeLow_19 rfl (lv_at hl 2 rfl) ?_
              refine lv_iload hx hb dX1_writeLow_20 (lv_at hl 0 rfl) ?_
              refine lv_iadd hx hb dX1_writeLow_22 ?_
              refine lv_topi (fun v_10 ev_10 => ?_)
              have rg1 := iv_rng p0
              have rg2 := iv_rng l4_3
              have hv_10 : v_10.toInt = p0.toInt + l4_3.toInt := by rw [ev_10]; exact (iv_add (by omega) (by omega)).trans (by omega)
              clear ev_10
              refine lv_aload_n hx hb dX1_writeLow_23 rfl (lv_at hl 3 rfl) ?_
              refine lv_iload hx hb dX1_writeLow_24 (lv_at hl 0 rfl) ?_
              refine va_bald (f := ai 14) hx hb hK hP 14 6 rfl rfl (iv_in (i := l4_3) (by omega) (by omega)) dX1_writeLow_26 ?_
              refine lv_topi (fun v_11 ev_11 => ?_)
              clear ev_11
              have hFc := vfree ((cw_D hD : va_D A (cw_W c kc (rU (rU (rU st 9 x9_2) 10 x10_2) 11 x11_2) lg (rU (rU ai 7 a7_3) 8 a8_3) al R)) : va_D A (cw_W c kc (rU (rU (rU st 9 x9_2) 10 x10_2) 11 x11_2) lg (rU (rU ai 7 a7_3) 8 a8_3) al R)) hS hA
              refine va_callv (va_runV (As := [.int v_10, .int v_11]) (rest := []) ⟨hx, hb, hml, hown, hts⟩ (v_X1_setLow l dC dI c kc (rU (rU (rU st 9 x9_2) 10 x10_2) 11 x11_2) lg (rU (rU ai 7 a7_3) 8 a8_3) al R v_10 v_11 _ (by omega) (by omega) (show aR a7_3 8224 (-128) 127 from hR7)) (cwV 2 hts gX1_writeLow_X1_setLow rfl rfl rfl (by decide +kernel) ⟨Nat.le_of_ble_eq_true rfl, Nat.le_of_ble_eq_true rfl⟩) ⟨fun a U g mk q => by obtain ⟨q0, q1, qP, qK, qD⟩ := q; exact ⟨q0, q1, qP, va_K.moved (u := U) (U := U.calling g mk a) (Vm.Alike.refl U.vm) qK, qD⟩, va_recv hK hP (ci := 3) (q := (RX1, TX1, 7)) rfl (q0 := 2) rfl, fun U hU hW => ⟨rfl, by rw [hU], by rw [hU]; exact hP, va_K.moved hW.alike hK, ((cw_D hD : va_D A (cw_W c kc (rU (rU (rU st 9 x9_2) 10 x10_2) 11 x11_2) lg (rU (rU ai 7 a7_3) 8 a8_3) al R))).weaken (fun _ _ _ _ => trivial)⟩⟩ rfl rfl hl.1 rfl (lv_room (Nat.le_of_ble_eq_true rfl)) dX1_writeLow_27 ⟨Nat.le_of_ble_eq_true rfl, Nat.le_of_ble_eq_true rfl⟩) hS (fun q _ h => hFc q h) hFc (fun ur_12 t H1 locs ht hvm er_12 hB hz1 hk1 hS => ?_)
              obtain ⟨f7_12, f8_12, hR7, hP1⟩ := hB
              rw [ht] at hP1
              clear hFc hz1 hk1 hvm hP
              subst ht
              have hP := hP1
              clear hP1
              generalize t.heap = H at hP hS ⊢
              have hP : va_P (dC, dI) vwCl (cw_W c kc (rU (rU (rU st 9 x9_2) 10 x10_2) 11 x11_2) lg (rU (rU ai 7 f7_12) 8 f8_12) al R) H := hP
              have hR7 : aR f7_12 8224 (-128) 127 := hR7
              obtain ⟨x_13, ex_13⟩ : ∃ z : Int32, z = l4_3 + (1) := ⟨_, rfl⟩
              refine lv_iinc (v := x_13) (lv' := [(4, .int x_13), (0, .ref (c 102)), (1, .int p0), (2, .ref (c 14)), (3, .int p2)]) hx hb dX1_writeLow_30 hl (k := 0) rfl (by rw [ex_13]; rfl) (by decide) rfl (fun ls hl => ?_)
              have hx_13 : x_13.toInt = l4_3.toInt + (1) := by rw [ex_13]; exact (iv_add (by omega) (by omega)).trans (by omega)
              clear ex_13
              refine lv_goto (tgt := 3) hx hb dX1_writeLow_33 (by decide) ?_
              exact ih3 x_13 x9_2 x10_2 x11_2 f7_12 f8_12 _ _ _ (by omega) (by omega) (by omega) (by omega) (by assumption) (by omega) hP hS (lv_sub hl [0, 1, 2, 3, 4] rfl)
            · skip
              have ic_9 := iv_eq c_9
              exfalso
              omega
    exact loop3 ((p2.toInt - 0 : Int).toNat + 1) (0 : Int32) (st 9) (st 10) (st 11) (ai 7) (ai 8) _ _ _ (by omega) (by omega) (by omega) (by omega) (by assumption) (by omega) hP hS (lv_sub hl [0, 1, 2, 3, 4] rfl)
  exact main s.heap [] hP hS

set_option maxHeartbeats 4000000 in
set_option maxRecDepth 100000 in
theorem v_X1_sealLow (l : Launch) (dC : Nat → ClassId) (dI : Nat → Nat → Nat) (c : Nat → Nat) (kc : Nat → ClassId) (st : Nat → Int32) (lg : Nat → Int64) (ai : Nat → Nat → Int32) (al : Nat → Nat → Int64) (R : va_W) (p0 : Int32) (sz : Nat) (hf9a : 0 ≤ (st 9).toInt) (hf9b : (st 9).toInt ≤ 1) (hq0 : 0 ≤ p0.toInt) (hq1 : p0.toInt < 8224) (hR7 : aR (ai 7) 8224 (-128) 127) : Met l yX1_sealLow wsX1_sealLow ({ frames := 1, cells := 0, slots := 0, locals := 22 }) (va_Pc [.ref (c 102), .int p0] (fun U => U.heap.size = sz ∧ va_P (dC, dI) vwCl (cw_W c kc st lg ai al R) U.heap ∧ va_K (dC, dI) vwCl (cw_T kc) U ∧ va_D (fun _ => True) (cw_W c kc st lg ai al R))) (va_Qi (fun r (u : Int32) => r = u) (fun u t => ∃ (x9 : Int32) (x10 : Int32) (x11 : Int32) (f7 : Nat → Int32) (f8 : Nat → Int32), (0 ≤ u.toInt) ∧ (u.toInt ≤ 1) ∧ (0 ≤ x9.toInt) ∧ (x9.toInt ≤ 1) ∧ (aR f7 8224 (-128) 127) ∧ va_P (dC, dI) vwCl (cw_W c kc (rU (rU (rU st 9 x9) 10 x10) 11 x11) lg (rU (rU ai 7 f7) 8 f8) al R) t.heap) (va_A (cw_W c kc st lg ai al R) sz)) 0 0 (va_A (cw_W c kc st lg ai al R) sz) := by
  refine Met.ofW (cc := cX1_sealLow) (maxL := 2) (ret := (some .boolean)) (by decide) rfl ?_
  intro p e s m args below meth cM s₁ B hml hv
  obtain ⟨rfl, hsz, hP, hK, hD0⟩ := hv
  have hx := B.exec
  have hb := B.bytes
  have hr := B.returns
  have hts := atoms_spec (ws := wsX1_sealLow) B.pre
  have hown : s.vm.findClass RX1 = some m.cls := findClass_of_methodNamed B.named
  subst hsz
  have hD := hD0.self (sz := s.heap.size)
  generalize hAe : va_A (cw_W c kc st lg ai al R) s.heap.size = A at hD ⊢
  have hA : ∀ q : Nat, s.heap.size ≤ q → A q := fun q h => by rw [← hAe]; exact Or.inr h
  have hS : va_S A s.heap s.heap [] := va_S.rf
  clear hAe hD0
  have hl := lv_entry ([.ref (c 102), .int p0]) (n := 2) (Nat.le_of_ble_eq_true rfl)
  rw [lg_entry_eq]
  generalize (lg_sl ([.ref (c 102), .int p0]) ++ List.replicate (2 - (lg_sl ([.ref (c 102), .int p0])).length) Slot.unset).toArray = ls at hl ⊢
  have hl : lv_has ls 2 [(0, .ref (c 102)), (1, .int p0)] := hl
  have z_0 : (0 : Int32).toInt = 0 := by decide
  have z_1 : (1 : Int32).toInt = 1 := by decide
  have z_165 : (165 : Int32).toInt = 165 := by decide
  have main : ∀ (H : Heap) (locs : List Loc), va_P (dC, dI) vwCl (cw_W c kc st lg ai al R) H → va_S A s.heap H locs → W p l e (headSpec wsX1_sealLow ({ frames := 1, cells := 0, slots := 0, locals := 22 })).room s m ([.ref (c 102), .int p0] : List Value).toArray below meth cM H locs 0 0 (MQ below (va_Qi (fun r (u : Int32) => r = u) (fun u t => ∃ (x9 : Int32) (x10 : Int32) (x11 : Int32) (f7 : Nat → Int32) (f8 : Nat → Int32), (0 ≤ u.toInt) ∧ (u.toInt ≤ 1) ∧ (0 ≤ x9.toInt) ∧ (x9.toInt ≤ 1) ∧ (aR f7 8224 (-128) 127) ∧ va_P (dC, dI) vwCl (cw_W c kc (rU (rU (rU st 9 x9) 10 x10) 11 x11) lg (rU (rU ai 7 f7) 8 f8) al R) t.heap) A) ([.ref (c 102), .int p0] : List Value).toArray s 0 0 A) (F0 m 0 ls []) := by
    intro H locs hP hS
    refine lv_aload_n hx hb dX1_sealLow_0 rfl (lv_at hl 0 rfl) ?_
    have hFc := vfree ((cw_D hD : va_D A (cw_W c kc st lg ai al R)) : va_D A (cw_W c kc st lg ai al R)) hS hA
    refine va_calli (va_runV (As := []) (rest := []) ⟨hx, hb, hml, hown, hts⟩ (v_X1_act l dC dI c kc st lg ai al R  _ (show 0 ≤ (st 9).toInt by omega) (show (st 9).toInt ≤ 1 by omega)) (cwV 0 hts gX1_sealLow_X1_act rfl rfl rfl (by decide +kernel) ⟨Nat.le_of_ble_eq_true rfl, Nat.le_of_ble_eq_true rfl⟩) ⟨fun a U g mk q => by obtain ⟨q0, q1, qP, qK, qD⟩ := q; exact ⟨q0, q1, qP, va_K.moved (u := U) (U := U.calling g mk a) (Vm.Alike.refl U.vm) qK, qD⟩, va_recv hK hP (ci := 3) (q := (RX1, TX1, 7)) rfl (q0 := 2) rfl, fun U hU hW => ⟨rfl, by rw [hU], by rw [hU]; exact hP, va_K.moved hW.alike hK, ((cw_D hD : va_D A (cw_W c kc st lg ai al R))).weaken (fun _ _ _ _ => trivial)⟩⟩ rfl rfl hl.1 rfl (lv_room (Nat.le_of_ble_eq_true rfl)) dX1_sealLow_1 ⟨Nat.le_of_ble_eq_true rfl, Nat.le_of_ble_eq_true rfl⟩) hS (fun q _ h => hFc q h) hFc (fun r_1 ur_1 t H1 locs ht hvm er_1 hB hz1 hk1 hS => ?_)
    subst er_1
    obtain ⟨x9_1, x10_1, x11_1, k_2, k_3, k_4, k_5, hP1⟩ := hB
    rw [ht] at hP1
    clear hFc hz1 hk1 hvm hP
    subst ht
    have hP := hP1
    clear hP1
    generalize t.heap = H at hP hS ⊢
    have hP : va_P (dC, dI) vwCl (cw_W c kc (rU (rU (rU st 9 x9_1) 10 x10_1) 11 x11_1) lg ai al R) H := hP
    have k_4 : 0 ≤ x9_1.toInt := k_4
    have k_5 : x9_1.toInt ≤ 1 := k_5
    rcases iv_01 (a := r_1) (by omega) (by omega) with b_6 | b_6
    · skip
      have ib_6 := iv_eq b_6
      rw [b_6]
      refine lv_if_ne (tgt := 9) hx hb dX1_sealLow_4 (by decide) (fun c_7 => ?_) (fun c_7 => ?_)
      · skip
        have ic_7 := iv_ne c_7
        exfalso
        omega
      · skip
        have ic_7 := iv_eq c_7
        refine lv_iconst (v := 0) hx hb dX1_sealLow_7 (by decide) ?_
        exact W.zret hx hb hr rfl (fun t ht hW => ⟨⟨_, _, rfl, rfl, x9_1, x10_1, x11_1, ai 7, ai 8, (by omega), (by omega), (by omega), (by omega), hR7, by rw [ht]; exact hP⟩, hS.F ht⟩) hS.2.2 dX1_sealLow_8
    · skip
      have ib_6 := iv_eq b_6
      rw [b_6]
      refine lv_if_ne (tgt := 9) hx hb dX1_sealLow_4 (by decide) (fun c_8 => ?_) (fun c_8 => ?_)
      · skip
        have ic_8 := iv_ne c_8
        refine lv_aload_n hx hb dX1_sealLow_9 rfl (lv_at hl 0 rfl) ?_
        refine lv_iload_n hx hb dX1_sealLow_10 rfl (lv_at hl 1 rfl) ?_
        refine lv_sipush (v := 165) hx hb dX1_sealLow_11 (by decide) ?_
        have hFc := vfree ((cw_D hD : va_D A (cw_W c kc (rU (rU (rU st 9 x9_1) 10 x10_1) 11 x11_1) lg ai al R)) : va_D A (cw_W c kc (rU (rU (rU st 9 x9_1) 10 x10_1) 11 x11_1) lg ai al R)) hS hA
        refine va_callv (va_runV (As := [.int p0, .int (165 : Int32)]) (rest := []) ⟨hx, hb, hml, hown, hts⟩ (v_X1_setLow l dC dI c kc (rU (rU (rU st 9 x9_1) 10 x10_1) 11 x11_1) lg ai al R p0 (165 : Int32) _ (by omega) (by omega) (show aR (ai 7) 8224 (-128) 127 from hR7)) (cwV 2 hts gX1_sealLow_X1_setLow rfl rfl rfl (by decide +kernel) ⟨Nat.le_of_ble_eq_true rfl, Nat.le_of_ble_eq_true rfl⟩) ⟨fun a U g mk q => by obtain ⟨q0, q1, qP, qK, qD⟩ := q; exact ⟨q0, q1, qP, va_K.moved (u := U) (U := U.calling g mk a) (Vm.Alike.refl U.vm) qK, qD⟩, va_recv hK hP (ci := 3) (q := (RX1, TX1, 7)) rfl (q0 := 2) rfl, fun U hU hW => ⟨rfl, by rw [hU], by rw [hU]; exact hP, va_K.moved hW.alike hK, ((cw_D hD : va_D A (cw_W c kc (rU (rU (rU st 9 x9_1) 10 x10_1) 11 x11_1) lg ai al R))).weaken (fun _ _ _ _ => trivial)⟩⟩ rfl rfl hl.1 rfl (lv_room (Nat.le_of_ble_eq_true rfl)) dX1_sealLow_14 ⟨Nat.le_of_ble_eq_true rfl, Nat.le_of_ble_eq_true rfl⟩) hS (fun q _ h => hFc q h) hFc (fun ur_9 t H1 locs ht hvm er_9 hB hz1 hk1 hS => ?_)
        obtain ⟨f7_9, f8_9, hR7, hP1⟩ := hB
        rw [ht] at hP1
        clear hFc hz1 hk1 hvm hP
        subst ht
        have hP := hP1
        clear hP1
        generalize t.heap = H at hP hS ⊢
        have hP : va_P (dC, dI) vwCl (cw_W c kc (rU (rU (rU st 9 x9_1) 10 x10_1) 11 x11_1) lg (rU (rU ai 7 f7_9) 8 f8_9) al R) H := hP
        have hR7 : aR f7_9 8224 (-128) 127 := hR7
        refine lv_iconst (v := 1) hx hb dX1_sealLow_17 (by decide) ?_
        exact W.zret hx hb hr rfl (fun t ht hW => ⟨⟨_, _, rfl, rfl, x9_1, x10_1, x11_1, f7_9, f8_9, (by omega), (by omega), (by omega), (by omega), hR7, by rw [ht]; exact hP⟩, hS.F ht⟩) hS.2.2 dX1_sealLow_18
      · skip
        have ic_8 := iv_eq c_8
        exfalso
        omega
  exact main s.heap [] hP hS

set_option maxHeartbeats 4000000 in
set_option maxRecDepth 100000 in
theorem v_X1_eraseHead (l : Launch) (dC : Nat → ClassId) (dI : Nat → Nat → Nat) (c : Nat → Nat) (kc : Nat → ClassId) (st : Nat → Int32) (lg : Nat → Int64) (ai : Nat → Nat → Int32) (al : Nat → Nat → Int64) (R : va_W) (p0 : Int32) (sz : Nat) (hf9a : 0 ≤ (st 9).toInt) (hf9b : (st 9).toInt ≤ 1) (hq0 : 0 ≤ p0.toInt) (hq1 : p0.toInt ≤ 1) (hR7 : aR (ai 7) 8224 (-128) 127) : Met l yX1_eraseHead wsX1_eraseHead ({ frames := 1, cells := 0, slots := 0, locals := 20 }) (va_Pc [.ref (c 102), .int p0] (fun U => U.heap.size = sz ∧ va_P (dC, dI) vwCl (cw_W c kc st lg ai al R) U.heap ∧ va_K (dC, dI) vwCl (cw_T kc) U ∧ va_D (fun _ => True) (cw_W c kc st lg ai al R))) (va_Qi (fun r (u : Int32) => r = u) (fun u t => ∃ (x9 : Int32) (x10 : Int32) (x11 : Int32) (f7 : Nat → Int32), (0 ≤ u.toInt) ∧ (u.toInt ≤ 1) ∧ (0 ≤ x9.toInt) ∧ (x9.toInt ≤ 1) ∧ (aR f7 8224 (-128) 127) ∧ va_P (dC, dI) vwCl (cw_W c kc (rU (rU (rU st 9 x9) 10 x10) 11 x11) lg (rU ai 7 f7) al R) t.heap) (va_A (cw_W c kc st lg ai al R) sz)) 0 0 (va_A (cw_W c kc st lg ai al R) sz) := by
  refine Met.ofW (cc := cX1_eraseHead) (maxL := 3) (ret := (some .boolean)) (by decide) rfl ?_
  intro p e s m args below meth cM s₁ B hml hv
  obtain ⟨rfl, hsz, hP, hK, hD0⟩ := hv
  have hx := B.exec
  have hb := B.bytes
  have hr := B.returns
  have hts := atoms_spec (ws := wsX1_eraseHead) B.pre
  have hown : s.vm.findClass RX1 = some m.cls := findClass_of_methodNamed B.named
  subst hsz
  have hD := hD0.self (sz := s.heap.size)
  generalize hAe : va_A (cw_W c kc st lg ai al R) s.heap.size = A at hD ⊢
  have hA : ∀ q : Nat, s.heap.size ≤ q → A q := fun q h => by rw [← hAe]; exact Or.inr h
  have hS : va_S A s.heap s.heap [] := va_S.rf
  clear hAe hD0
  have hl := lv_entry ([.ref (c 102), .int p0]) (n := 3) (Nat.le_of_ble_eq_true rfl)
  rw [lg_entry_eq]
  generalize (lg_sl ([.ref (c 102), .int p0]) ++ List.replicate (3 - (lg_sl ([.ref (c 102), .int p0])).length) Slot.unset).toArray = ls at hl ⊢
  have hl : lv_has ls 3 [(0, .ref (c 102)), (1, .int p0)] := hl
  have z_0 : (0 : Int32).toInt = 0 := by decide
  have z_1 : (1 : Int32).toInt = 1 := by decide
  have z_16 : (16 : Int32).toInt = 16 := by decide
  have hin_X1 : ∀ w ∈ u_ws RX1 TX1 7, w ∈ wsX1_eraseHead := by decide +kernel
  have main : ∀ (H : Heap) (locs : List Loc), va_P (dC, dI) vwCl (cw_W c kc st lg ai al R) H → va_S A s.heap H locs → W p l e (headSpec wsX1_eraseHead ({ frames := 1, cells := 0, slots := 0, locals := 20 })).room s m ([.ref (c 102), .int p0] : List Value).toArray below meth cM H locs 0 0 (MQ below (va_Qi (fun r (u : Int32) => r = u) (fun u t => ∃ (x9 : Int32) (x10 : Int32) (x11 : Int32) (f7 : Nat → Int32), (0 ≤ u.toInt) ∧ (u.toInt ≤ 1) ∧ (0 ≤ x9.toInt) ∧ (x9.toInt ≤ 1) ∧ (aR f7 8224 (-128) 127) ∧ va_P (dC, dI) vwCl (cw_W c kc (rU (rU (rU st 9 x9) 10 x10) 11 x11) lg (rU ai 7 f7) al R) t.heap) A) ([.ref (c 102), .int p0] : List Value).toArray s 0 0 A) (F0 m 0 ls []) := by
    intro H locs hP hS
    refine lv_aload_n hx hb dX1_eraseHead_0 rfl (lv_at hl 0 rfl) ?_
    have hFc := vfree ((cw_D hD : va_D A (cw_W c kc st lg ai al R)) : va_D A (cw_W c kc st lg ai al R)) hS hA
    refine va_calli (va_runV (As := []) (rest := []) ⟨hx, hb, hml, hown, hts⟩ (v_X1_act l dC dI c kc st lg ai al R  _ (show 0 ≤ (st 9).toInt by omega) (show (st 9).toInt ≤ 1 by omega)) (cwV 0 hts gX1_eraseHead_X1_act rfl rfl rfl (by decide +kernel) ⟨Nat.le_of_ble_eq_true rfl, Nat.le_of_ble_eq_true rfl⟩) ⟨fun a U g mk q => by obtain ⟨q0, q1, qP, qK, qD⟩ := q; exact ⟨q0, q1, qP, va_K.moved (u := U) (U := U.calling g mk a) (Vm.Alike.refl U.vm) qK, qD⟩, va_recv hK hP (ci := 3) (q := (RX1, TX1, 7)) rfl (q0 := 2) rfl, fun U hU hW => ⟨rfl, by rw [hU], by rw [hU]; exact hP, va_K.moved hW.alike hK, ((cw_D hD : va_D A (cw_W c kc st lg ai al R))).weaken (fun _ _ _ _ => trivial)⟩⟩ rfl rfl hl.1 rfl (lv_room (Nat.le_of_ble_eq_true rfl)) dX1_eraseHead_1 ⟨Nat.le_of_ble_eq_true rfl, Nat.le_of_ble_eq_true rfl⟩) hS (fun q _ h => hFc q h) hFc (fun r_1 ur_1 t H1 locs ht hvm er_1 hB hz1 hk1 hS => ?_)
    subst er_1
    obtain ⟨x9_1, x10_1, x11_1, k_2, k_3, k_4, k_5, hP1⟩ := hB
    rw [ht] at hP1
    clear hFc hz1 hk1 hvm hP
    subst ht
    have hP := hP1
    clear hP1
    generalize t.heap = H at hP hS ⊢
    have hP : va_P (dC, dI) vwCl (cw_W c kc (rU (rU (rU st 9 x9_1) 10 x10_1) 11 x11_1) lg ai al R) H := hP
    have k_4 : 0 ≤ x9_1.toInt := k_4
    have k_5 : x9_1.toInt ≤ 1 := k_5
    rcases iv_01 (a := r_1) (by omega) (by omega) with b_6 | b_6
    · skip
      have ib_6 := iv_eq b_6
      rw [b_6]
      refine lv_if_ne (tgt := 9) hx hb dX1_eraseHead_4 (by decide) (fun c_7 => ?_) (fun c_7 => ?_)
      · skip
        have ic_7 := iv_ne c_7
        exfalso
        omega
      · skip
        have ic_7 := iv_eq c_7
        refine lv_iconst (v := 0) hx hb dX1_eraseHead_7 (by decide) ?_
        exact W.zret hx hb hr rfl (fun t ht hW => ⟨⟨_, _, rfl, rfl, x9_1, x10_1, x11_1, ai 7, (by omega), (by omega), (by omega), (by omega), hR7, by rw [ht]; exact hP⟩, hS.F ht⟩) hS.2.2 dX1_eraseHead_8
    · skip
      have ib_6 := iv_eq b_6
      rw [b_6]
      refine lv_if_ne (tgt := 9) hx hb dX1_eraseHead_4 (by decide) (fun c_8 => ?_) (fun c_8 => ?_)
      · skip
        have ic_8 := iv_ne c_8
        refine lv_iconst (v := 0) hx hb dX1_eraseHead_9 (by decide) ?_
        refine lv_istore_n (lv' := [(2, .int (0 : Int32)), (0, .ref (c 102)), (1, .int p0)]) hx hb dX1_eraseHead_10 rfl hl (by decide) rfl (fun ls hl => ?_)
        have loop11 : ∀ (n : Nat) (l2_11 : Int32) (a7_11 : Nat → Int32) (H : Heap) (locs : List Loc) (ls : Array Slot), (0 ≤ l2_11.toInt) → (l2_11.toInt ≤ 16) → (aR a7_11 8224 (-128) 127) → (16 - l2_11.toInt : Int).toNat < n → va_P (dC, dI) vwCl (cw_W c kc (rU (rU (rU st 9 x9_1) 10 x10_1) 11 x11_1) lg (rU ai 7 a7_11) al R) H → va_S A s.heap H locs → lv_has ls 3 [(2, .int l2_11), (0, .ref (c 102)), (1, .int p0)] → W p l e (headSpec wsX1_eraseHead ({ frames := 1, cells := 0, slots := 0, locals := 20 })).room s m ([.ref (c 102), .int p0] : List Value).toArray below meth cM H locs 0 0 (MQ below (va_Qi (fun r (u : Int32) => r = u) (fun u t => ∃ (x9 : Int32) (x10 : Int32) (x11 : Int32) (f7 : Nat → Int32), (0 ≤ u.toInt) ∧ (u.toInt ≤ 1) ∧ (0 ≤ x9.toInt) ∧ (x9.toInt ≤ 1) ∧ (aR f7 8224 (-128) 127) ∧ va_P (dC, dI) vwCl (cw_W c kc (rU (rU (rU st 9 x9) 10 x10) 11 x11) lg (rU ai 7 f7) al R) t.heap) A) ([.ref (c 102), .int p0] : List Value).toArray s 0 0 A) (F0 m 11 ls []) := by
          intro n
          induction n with
          | zero => intro l2_11 a7_11 H locs ls if0_11 if1_11 hR7 hm; exact absurd hm (Nat.not_lt_zero _)
          | succ n ih11 =>
            intro l2_11 a7_11 H locs ls if0_11 if1_11 hR7 hm11 hP hS hl
            refine lv_iload_n hx hb dX1_eraseHead_11 rfl (lv_at hl 0 rfl) ?_
            refine lv_bipush (v := 16) hx hb dX1_eraseHead_12 (by decide) ?_
            refine lv_icmp_ge (tgt := 35) hx hb dX1_eraseHead_14 (by decide) (fun c_9 => ?_) (fun c_9 => ?_)
            · skip
              have ic_9 := iv_le c_9
              refine lv_iconst (v := 1) hx hb dX1_eraseHead_35 (by decide) ?_
              exact W.zret hx hb hr rfl (fun t ht hW => ⟨⟨_, _, rfl, rfl, x9_1, x10_1, x11_1, a7_11, (by omega), (by omega), (by omega), (by omega), hR7, by rw [ht]; exact hP⟩, hS.F ht⟩) hS.2.2 dX1_eraseHead_36
            · skip
              have ic_9 := iv_nle c_9
              refine lv_aload_n hx hb dX1_eraseHead_17 rfl (lv_at hl 1 rfl) ?_
              refine va_get (D := (dC, dI)) (ci := 3) (v := .ref (c 7)) (C := RX1) (T := TX1) (N := 7) hx hb hts hin_X1 hown hK hP 2 rfl rfl 1 (by decide) (hts (.fieldLink RX1 15 "BlockLog$Disk" "low" "[B") (by decide +kernel)) (fun _ h9 => h9) rfl dX1_eraseHead_18 ?_
              refine lv_bipush (v := 16) hx hb dX1_eraseHead_21 (by decide) ?_
              refine lv_iload_n hx hb dX1_eraseHead_23 rfl (lv_at hl 2 rfl) ?_
              refine lv_imul hx hb dX1_eraseHead_24 ?_
              refine lv_topi (fun v_10 ev_10 => ?_)
              have rg1 := iv_rng p0
              have hv_10 : v_10.toInt = 16 * p0.toInt := by rw [ev_10]; exact (iv_mulc z_16 (by omega) (by omega)).trans (by omega)
              clear ev_10
              refine lv_iload_n hx hb dX1_eraseHead_25 rfl (lv_at hl 0 rfl) ?_
              refine lv_iadd hx hb dX1_eraseHead_26 ?_
              refine lv_topi (fun v_11 ev_11 => ?_)
              have rg2 := iv_rng v_10
              have rg3 := iv_rng l2_11
              have hv_11 : v_11.toInt = v_10.toInt + l2_11.toInt := by rw [ev_11]; exact (iv_add (by omega) (by omega)).trans (by omega)
              clear ev_11
              refine lv_iconst (v := 0) hx hb dX1_eraseHead_27 (by decide) ?_
              refine va_bast (f := a7_11) hx hb hK hP (cw_D hD) hS 12 4 rfl rfl (iv_in (i := v_11) (by omega) (by omega)) dX1_eraseHead_28 (fun H locs hP _ hS => ?_)
              have hP : va_P (dC, dI) vwCl (cw_W c kc (rU (rU (rU st 9 x9_1) 10 x10_1) 11 x11_1) lg (rU ai 7 (upd a7_11 v_11.toNatClampNeg (vp_nar .byte (0 : Int32)))) al R) H := cw_b7 hP
              generalize hU_disk_low : upd a7_11 v_11.toNatClampNeg (vp_nar .byte (0 : Int32)) = g_12 at hP
              have hR7 : aR g_12 8224 (-128) 127 := aR_updB hR7 hU_disk_low
              clear hU_disk_low
              obtain ⟨x_13, ex_13⟩ : ∃ z : Int32, z = l2_11 + (1) := ⟨_, rfl⟩
              refine lv_iinc (v := x_13) (lv' := [(2, .int x_13), (0, .ref (c 102)), (1, .int p0)]) hx hb dX1_eraseHead_29 hl (k := 0) rfl (by rw [ex_13]; rfl) (by decide) rfl (fun ls hl => ?_)
              have hx_13 : x_13.toInt = l2_11.toInt + (1) := by rw [ex_13]; exact (iv_add (by omega) (by omega)).trans (by omega)
              clear ex_13
              refine lv_goto (tgt := 11) hx hb dX1_eraseHead_32 (by decide) ?_
              exact ih11 x_13 g_12 _ _ _ (by omega) (by omega) (by assumption) (by omega) hP hS (lv_sub hl [0, 1, 2] rfl)
        exact loop11 ((16 - 0 : Int).toNat + 1) (0 : Int32) (ai 7) _ _ _ (by omega) (by omega) (by assumption) (by omega) hP hS (lv_sub hl [0, 1, 2] rfl)
      · skip
        have ic_8 := iv_eq c_8
        exfalso
        omega
  exact main s.heap [] hP hS

set_option maxHeartbeats 4000000 in
set_option maxRecDepth 100000 in
theorem v_X1_eraseRows (l : Launch) (dC : Nat → ClassId) (dI : Nat → Nat → Nat) (c : Nat → Nat) (kc : Nat → ClassId) (st : Nat → Int32) (lg : Nat → Int64) (ai : Nat → Nat → Int32) (al : Nat → Nat → Int64) (R : va_W) (p0 : Int32) (p1 : Int32) (p2 : Int32) (sz : Nat) (hf9a : 0 ≤ (st 9).toInt) (hf9b : (st 9).toInt ≤ 1) (hq0 : 0 ≤ p0.toInt) (hq1 : p0.toInt ≤ 1) (hq2 : 0 ≤ p1.toInt) (hq3 : 0 ≤ p2.toInt) (hq4 : p1.toInt + p2.toInt ≤ 128) (hR7 : aR (ai 7) 8224 (-128) 127) : Met l yX1_eraseRows wsX1_eraseRows ({ frames := 1, cells := 0, slots := 0, locals := 20 }) (va_Pc [.ref (c 102), .int p0, .int p1, .int p2] (fun U => U.heap.size = sz ∧ va_P (dC, dI) vwCl (cw_W c kc st lg ai al R) U.heap ∧ va_K (dC, dI) vwCl (cw_T kc) U ∧ va_D (fun _ => True) (cw_W c kc st lg ai al R))) (va_Qi (fun r (u : Int32) => r = u) (fun u t => ∃ (x9 : Int32) (x10 : Int32) (x11 : Int32) (f7 : Nat → Int32) (f8 : Nat → Int32), (0 ≤ u.toInt) ∧ (u.toInt ≤ 1) ∧ (0 ≤ x9.toInt) ∧ (x9.toInt ≤ 1) ∧ (aR f7 8224 (-128) 127) ∧ va_P (dC, dI) vwCl (cw_W c kc (rU (rU (rU st 9 x9) 10 x10) 11 x11) lg (rU (rU ai 7 f7) 8 f8) al R) t.heap) (va_A (cw_W c kc st lg ai al R) sz)) 0 0 (va_A (cw_W c kc st lg ai al R) sz) := by
  refine Met.ofW (cc := cX1_eraseRows) (maxL := 7) (ret := (some .boolean)) (by decide) rfl ?_
  intro p e s m args below meth cM s₁ B hml hv
  obtain ⟨rfl, hsz, hP, hK, hD0⟩ := hv
  have hx := B.exec
  have hb := B.bytes
  have hr := B.returns
  have hts := atoms_spec (ws := wsX1_eraseRows) B.pre
  have hown : s.vm.findClass RX1 = some m.cls := findClass_of_methodNamed B.named
  subst hsz
  have hD := hD0.self (sz := s.heap.size)
  generalize hAe : va_A (cw_W c kc st lg ai al R) s.heap.size = A at hD ⊢
  have hA : ∀ q : Nat, s.heap.size ≤ q → A q := fun q h => by rw [← hAe]; exact Or.inr h
  have hS : va_S A s.heap s.heap [] := va_S.rf
  clear hAe hD0
  have hl := lv_entry ([.ref (c 102), .int p0, .int p1, .int p2]) (n := 7) (Nat.le_of_ble_eq_true rfl)
  rw [lg_entry_eq]
  generalize (lg_sl ([.ref (c 102), .int p0, .int p1, .int p2]) ++ List.replicate (7 - (lg_sl ([.ref (c 102), .int p0, .int p1, .int p2])).length) Slot.unset).toArray = ls at hl ⊢
  have hl : lv_has ls 7 [(0, .ref (c 102)), (1, .int p0), (2, .int p1), (3, .int p2)] := hl
  have z_0 : (0 : Int32).toInt = 0 := by decide
  have z_1 : (1 : Int32).toInt = 1 := by decide
  have z_32 : (32 : Int32).toInt = 32 := by decide
  have z_128 : (128 : Int32).toInt = 128 := by decide
  have hin_X1 : ∀ w ∈ u_ws RX1 TX1 7, w ∈ wsX1_eraseRows := by decide +kernel
  have main : ∀ (H : Heap) (locs : List Loc), va_P (dC, dI) vwCl (cw_W c kc st lg ai al R) H → va_S A s.heap H locs → W p l e (headSpec wsX1_eraseRows ({ frames := 1, cells := 0, slots := 0, locals := 20 })).room s m ([.ref (c 102), .int p0, .int p1, .int p2] : List Value).toArray below meth cM H locs 0 0 (MQ below (va_Qi (fun r (u : Int32) => r = u) (fun u t => ∃ (x9 : Int32) (x10 : Int32) (x11 : Int32) (f7 : Nat → Int32) (f8 : Nat → Int32), (0 ≤ u.toInt) ∧ (u.toInt ≤ 1) ∧ (0 ≤ x9.toInt) ∧ (x9.toInt ≤ 1) ∧ (aR f7 8224 (-128) 127) ∧ va_P (dC, dI) vwCl (cw_W c kc (rU (rU (rU st 9 x9) 10 x10) 11 x11) lg (rU (rU ai 7 f7) 8 f8) al R) t.heap) A) ([.ref (c 102), .int p0, .int p1, .int p2] : List Value).toArray s 0 0 A) (F0 m 0 ls []) := by
    intro H locs hP hS
    refine lv_aload_n hx hb dX1_eraseRows_0 rfl (lv_at hl 0 rfl) ?_
    have hFc := vfree ((cw_D hD : va_D A (cw_W c kc st lg ai al R)) : va_D A (cw_W c kc st lg ai al R)) hS hA
    refine va_calli (va_runV (As := []) (rest := []) ⟨hx, hb, hml, hown, hts⟩ (v_X1_act l dC dI c kc st lg ai al R  _ (show 0 ≤ (st 9).toInt by omega) (show (st 9).toInt ≤ 1 by omega)) (cwV 0 hts gX1_eraseRows_X1_act rfl rfl rfl (by decide +kernel) ⟨Nat.le_of_ble_eq_true rfl, Nat.le_of_ble_eq_true rfl⟩) ⟨fun a U g mk q => by obtain ⟨q0, q1, qP, qK, qD⟩ := q; exact ⟨q0, q1, qP, va_K.moved (u := U) (U := U.calling g mk a) (Vm.Alike.refl U.vm) qK, qD⟩, va_recv hK hP (ci := 3) (q := (RX1, TX1, 7)) rfl (q0 := 2) rfl, fun U hU hW => ⟨rfl, by rw [hU], by rw [hU]; exact hP, va_K.moved hW.alike hK, ((cw_D hD : va_D A (cw_W c kc st lg ai al R))).weaken (fun _ _ _ _ => trivial)⟩⟩ rfl rfl hl.1 rfl (lv_room (Nat.le_of_ble_eq_true rfl)) dX1_eraseRows_1 ⟨Nat.le_of_ble_eq_true rfl, Nat.le_of_ble_eq_true rfl⟩) hS (fun q _ h => hFc q h) hFc (fun r_1 ur_1 t H1 locs ht hvm er_1 hB hz1 hk1 hS => ?_)
    subst er_1
    obtain ⟨x9_1, x10_1, x11_1, k_2, k_3, k_4, k_5, hP1⟩ := hB
    rw [ht] at hP1
    clear hFc hz1 hk1 hvm hP
    subst ht
    have hP := hP1
    clear hP1
    generalize t.heap = H at hP hS ⊢
    have hP : va_P (dC, dI) vwCl (cw_W c kc (rU (rU (rU st 9 x9_1) 10 x10_1) 11 x11_1) lg ai al R) H := hP
    have k_4 : 0 ≤ x9_1.toInt := k_4
    have k_5 : x9_1.toInt ≤ 1 := k_5
    rcases iv_01 (a := r_1) (by omega) (by omega) with b_6 | b_6
    · skip
      have ib_6 := iv_eq b_6
      rw [b_6]
      refine lv_if_ne (tgt := 9) hx hb dX1_eraseRows_4 (by decide) (fun c_7 => ?_) (fun c_7 => ?_)
      · skip
        have ic_7 := iv_ne c_7
        exfalso
        omega
      · skip
        have ic_7 := iv_eq c_7
        refine lv_iconst (v := 0) hx hb dX1_eraseRows_7 (by decide) ?_
        exact W.zret hx hb hr rfl (fun t ht hW => ⟨⟨_, _, rfl, rfl, x9_1, x10_1, x11_1, ai 7, ai 8, (by omega), (by omega), (by omega), (by omega), hR7, by rw [ht]; exact hP⟩, hS.F ht⟩) hS.2.2 dX1_eraseRows_8
    · skip
      have ib_6 := iv_eq b_6
      rw [b_6]
      refine lv_if_ne (tgt := 9) hx hb dX1_eraseRows_4 (by decide) (fun c_8 => ?_) (fun c_8 => ?_)
      · skip
        have ic_8 := iv_ne c_8
        refine lv_sipush (v := 128) hx hb dX1_eraseRows_9 (by decide) ?_
        refine lv_iload_n hx hb dX1_eraseRows_12 rfl (lv_at hl 1 rfl) ?_
        refine lv_imul hx hb dX1_eraseRows_13 ?_
        refine lv_topi (fun v_9 ev_9 => ?_)
        have rg1 := iv_rng p0
        have hv_9 : v_9.toInt = 128 * p0.toInt := by rw [ev_9]; exact (iv_mulc z_128 (by omega) (by omega)).trans (by omega)
        clear ev_9
        refine lv_iload_n hx hb dX1_eraseRows_14 rfl (lv_at hl 2 rfl) ?_
        refine lv_iadd hx hb dX1_eraseRows_15 ?_
        refine lv_topi (fun v_10 ev_10 => ?_)
        have rg2 := iv_rng v_9
        have rg3 := iv_rng p1
        have hv_10 : v_10.toInt = v_9.toInt + p1.toInt := by rw [ev_10]; exact (iv_add (by omega) (by omega)).trans (by omega)
        clear ev_10
        refine lv_istore (lv' := [(4, .int v_10), (0, .ref (c 102)), (1, .int p0), (2, .int p1), (3, .int p2)]) hx hb dX1_eraseRows_16 hl (by decide) rfl (fun ls hl => ?_)
        refine lv_bipush (v := 32) hx hb dX1_eraseRows_18 (by decide) ?_
        refine lv_bipush (v := 32) hx hb dX1_eraseRows_20 (by decide) ?_
        refine lv_iload hx hb dX1_eraseRows_22 (lv_at hl 0 rfl) ?_
        refine lv_imul hx hb dX1_eraseRows_24 ?_
        refine lv_topi (fun v_11 ev_11 => ?_)
        have rg4 := iv_rng v_10
        have hv_11 : v_11.toInt = 32 * v_10.toInt := by rw [ev_11]; exact (iv_mulc z_32 (by omega) (by omega)).trans (by omega)
        clear ev_11
        refine lv_iadd hx hb dX1_eraseRows_25 ?_
        refine lv_topi (fun v_12 ev_12 => ?_)
        have rg5 := iv_rng v_11
        have hv_12 : v_12.toInt = 32 + v_11.toInt := by rw [ev_12]; exact (iv_add (by omega) (by omega)).trans (by omega)
        clear ev_12
        refine lv_istore (lv' := [(5, .int v_12), (4, .int v_10), (0, .ref (c 102)), (1, .int p0), (2, .int p1), (3, .int p2)]) hx hb dX1_eraseRows_26 hl (by decide) rfl (fun ls hl => ?_)
        refine lv_iconst (v := 0) hx hb dX1_eraseRows_28 (by decide) ?_
        refine lv_istore (lv' := [(6, .int (0 : Int32)), (5, .int v_12), (4, .int v_10), (0, .ref (c 102)), (1, .int p0), (2, .int p1), (3, .int p2)]) hx hb dX1_eraseRows_29 hl (by decide) rfl (fun ls hl => ?_)
        have loop31 : ∀ (n : Nat) (l6_31 : Int32) (a7_31 : Nat → Int32) (H : Heap) (locs : List Loc) (ls : Array Slot), (0 ≤ l6_31.toInt) → (l6_31.toInt ≤ 32 * p2.toInt) → (aR a7_31 8224 (-128) 127) → (32 * p2.toInt - l6_31.toInt : Int).toNat < n → va_P (dC, dI) vwCl (cw_W c kc (rU (rU (rU st 9 x9_1) 10 x10_1) 11 x11_1) lg (rU ai 7 a7_31) al R) H → va_S A s.heap H locs → lv_has ls 7 [(6, .int l6_31), (5, .int v_12), (4, .int v_10), (0, .ref (c 102)), (1, .int p0), (2, .int p1), (3, .int p2)] → W p l e (headSpec wsX1_eraseRows ({ frames := 1, cells := 0, slots := 0, locals := 20 })).room s m ([.ref (c 102), .int p0, .int p1, .int p2] : List Value).toArray below meth cM H locs 0 0 (MQ below (va_Qi (fun r (u : Int32) => r = u) (fun u t => ∃ (x9 : Int32) (x10 : Int32) (x11 : Int32) (f7 : Nat → Int32) (f8 : Nat → Int32), (0 ≤ u.toInt) ∧ (u.toInt ≤ 1) ∧ (0 ≤ x9.toInt) ∧ (x9.toInt ≤ 1) ∧ (aR f7 8224 (-128) 127) ∧ va_P (dC, dI) vwCl (cw_W c kc (rU (rU (rU st 9 x9) 10 x10) 11 x11) lg (rU (rU ai 7 f7) 8 f8) al R) t.heap) A) ([.ref (c 102), .int p0, .int p1, .int p2] : List Value).toArray s 0 0 A) (F0 m 31 ls []) := by
          intro n
          induction n with
          | zero => intro l6_31 a7_31 H locs ls if0_31 if1_31 hR7 hm; exact absurd hm (Nat.not_lt_zero _)
          | succ n ih31 =>
            intro l6_31 a7_31 H locs ls if0_31 if1_31 hR7 hm31 hP hS hl
            refine lv_iload hx hb dX1_eraseRows_31 (lv_at hl 0 rfl) ?_
            refine lv_bipush (v := 32) hx hb dX1_eraseRows_33 (by decide) ?_
            refine lv_iload_n hx hb dX1_eraseRows_35 rfl (lv_at hl 6 rfl) ?_
            refine lv_imul hx hb dX1_eraseRows_36 ?_
            refine lv_topi (fun v_13 ev_13 => ?_)
            have rg6 := iv_rng p2
            have hv_13 : v_13.toInt = 32 * p2.toInt := by rw [ev_13]; exact (iv_mulc z_32 (by omega) (by omega)).trans (by omega)
            clear ev_13
            refine lv_icmp_ge (tgt := 57) hx hb dX1_eraseRows_37 (by decide) (fun c_14 => ?_) (fun c_14 => ?_)
            · skip
              have ic_14 := iv_le c_14
              refine lv_iconst (v := 0) hx hb dX1_eraseRows_57 (by decide) ?_
              refine lv_istore (lv' := [(6, .int (0 : Int32)), (5, .int v_12), (4, .int v_10), (0, .ref (c 102)), (1, .int p0), (2, .int p1), (3, .int p2)]) hx hb dX1_eraseRows_58 hl (by decide) rfl (fun ls hl => ?_)
              have loop60 : ∀ (n : Nat) (l6_60 : Int32) (a8_60 : Nat → Int32) (H : Heap) (locs : List Loc) (ls : Array Slot), (0 ≤ l6_60.toInt) → (l6_60.toInt ≤ p2.toInt) → (p2.toInt - l6_60.toInt : Int).toNat < n → va_P (dC, dI) vwCl (cw_W c kc (rU (rU (rU st 9 x9_1) 10 x10_1) 11 x11_1) lg (rU (rU ai 7 a7_31) 8 a8_60) al R) H → va_S A s.heap H locs → lv_has ls 7 [(6, .int l6_60), (5, .int v_12), (4, .int v_10), (0, .ref (c 102)), (1, .int p0), (2, .int p1), (3, .int p2)] → W p l e (headSpec wsX1_eraseRows ({ frames := 1, cells := 0, slots := 0, locals := 20 })).room s m ([.ref (c 102), .int p0, .int p1, .int p2] : List Value).toArray below meth cM H locs 0 0 (MQ below (va_Qi (fun r (u : Int32) => r = u) (fun u t => ∃ (x9 : Int32) (x10 : Int32) (x11 : Int32) (f7 : Nat → Int32) (f8 : Nat → Int32), (0 ≤ u.toInt) ∧ (u.toInt ≤ 1) ∧ (0 ≤ x9.toInt) ∧ (x9.toInt ≤ 1) ∧ (aR f7 8224 (-128) 127) ∧ va_P (dC, dI) vwCl (cw_W c kc (rU (rU (rU st 9 x9) 10 x10) 11 x11) lg (rU (rU ai 7 f7) 8 f8) al R) t.heap) A) ([.ref (c 102), .int p0, .int p1, .int p2] : List Value).toArray s 0 0 A) (F0 m 60 ls []) := by
                intro n
                induction n with
                | zero => intro l6_60 a8_60 H locs ls if0_60 if1_60 hm; exact absurd hm (Nat.not_lt_zero _)
                | succ n ih60 =>
                  intro l6_60 a8_60 H locs ls if0_60 if1_60 hm60 hP hS hl
                  refine lv_iload hx hb dX1_eraseRows_60 (lv_at hl 0 rfl) ?_
                  refine lv_iload_n hx hb dX1_eraseRows_62 rfl (lv_at hl 6 rfl) ?_
                  refine lv_icmp_ge (tgt := 83) hx hb dX1_eraseRows_63 (by decide) (fun c_15 => ?_) (fun c_15 => ?_)
                  · skip
                    have ic_15 := iv_le c_15
                    refine lv_iconst (v := 1) hx hb dX1_eraseRows_83 (by decide) ?_
                    exact W.zret hx hb hr rfl (fun t ht hW => ⟨⟨_, _, rfl, rfl, x9_1, x10_1, x11_1, a7_31, a8_60, (by omega), (by omega), (by omega), (by omega), hR7, by rw [ht]; exact hP⟩, hS.F ht⟩) hS.2.2 dX1_eraseRows_84
                  · skip
                    have ic_15 := iv_nle c_15
                    refine lv_aload_n hx hb dX1_eraseRows_66 rfl (lv_at hl 3 rfl) ?_
                    refine va_get (D := (dC, dI)) (ci := 3) (v := .ref (c 8)) (C := RX1) (T := TX1) (N := 7) hx hb hts hin_X1 hown hK hP 2 rfl rfl 2 (by decide) (hts (.fieldLink RX1 19 "BlockLog$Disk" "rowStates" "[B") (by decide +kernel)) (fun _ h9 => h9) rfl dX1_eraseRows_67 ?_
                    refine lv_iload hx hb dX1_eraseRows_70 (lv_at hl 2 rfl) ?_
                    refine lv_iload hx hb dX1_eraseRows_72 (lv_at hl 0 rfl) ?_
                    refine lv_iadd hx hb dX1_eraseRows_74 ?_
                    refine lv_topi (fun v_16 ev_16 => ?_)
                    have rg7 := iv_rng l6_60
                    have hv_16 : v_16.toInt = v_10.toInt + l6_60.toInt := by rw [ev_16]; exact (iv_add (by omega) (by omega)).trans (by omega)
                    clear ev_16
                    refine lv_iconst (v := 1) hx hb dX1_eraseRows_75 (by decide) ?_
                    refine va_bast (f := a8_60) hx hb hK hP (cw_D hD) hS 13 5 rfl rfl (iv_in (i := v_16) (by omega) (by omega)) dX1_eraseRows_76 (fun H locs hP _ hS => ?_)
                    have hP : va_P (dC, dI) vwCl (cw_W c kc (rU (rU (rU st 9 x9_1) 10 x10_1) 11 x11_1) lg (rU (rU ai 7 a7_31) 8 (upd a8_60 v_16.toNatClampNeg (vp_nar .byte (1 : Int32)))) al R) H := cw_b8 hP
                    generalize hU_disk_rowStates : upd a8_60 v_16.toNatClampNeg (vp_nar .byte (1 : Int32)) = g_17 at hP
                    clear hU_disk_rowStates
                    obtain ⟨x_18, ex_18⟩ : ∃ z : Int32, z = l6_60 + (1) := ⟨_, rfl⟩
                    refine lv_iinc (v := x_18) (lv' := [(6, .int x_18), (5, .int v_12), (4, .int v_10), (0, .ref (c 102)), (1, .int p0), (2, .int p1), (3, .int p2)]) hx hb dX1_eraseRows_77 hl (k := 0) rfl (by rw [ex_18]; rfl) (by decide) rfl (fun ls hl => ?_)
                    have hx_18 : x_18.toInt = l6_60.toInt + (1) := by rw [ex_18]; exact (iv_add (by omega) (by omega)).trans (by omega)
                    clear ex_18
                    refine lv_goto (tgt := 60) hx hb dX1_eraseRows_80 (by decide) ?_
                    exact ih60 x_18 g_17 _ _ _ (by omega) (by omega) (by omega) hP hS (lv_sub hl [0, 1, 2, 3, 4, 5, 6] rfl)
              exact loop60 ((p2.toInt - 0 : Int).toNat + 1) (0 : Int32) (ai 8) _ _ _ (by omega) (by omega) (by omega) hP hS (lv_sub hl [0, 1, 2, 3, 4, 5, 6] rfl)
            · skip
              have ic_14 := iv_nle c_14
              refine lv_aload_n hx hb dX1_eraseRows_40 rfl (lv_at hl 3 rfl) ?_
              refine va_get (D := (dC, dI)) (ci := 3) (v := .ref (c 7)) (C := RX1) (T := TX1) (N := 7) hx hb hts hin_X1 hown hK hP 2 rfl rfl 1 (by decide) (hts (.fieldLink RX1 15 "BlockLog$Disk" "low" "[B") (by decide +kernel)) (fun _ h9 => h9) rfl dX1_eraseRows_41 ?_
              refine lv_iload hx hb dX1_eraseRows_44 (lv_at hl 1 rfl) ?_
              refine lv_iload hx hb dX1_eraseRows_46 (lv_at hl 0 rfl) ?_
              refine lv_iadd hx hb dX1_eraseRows_48 ?_
              refine lv_topi (fun v_19 ev_19 => ?_)
              have rg8 := iv_rng v_12
              have rg9 := iv_rng l6_31
              have hv_19 : v_19.toInt = v_12.toInt + l6_31.toInt := by rw [ev_19]; exact (iv_add (by omega) (by omega)).trans (by omega)
              clear ev_19
              refine lv_iconst (v := 0) hx hb dX1_eraseRows_49 (by decide) ?_
              refine va_bast (f := a7_31) hx hb hK hP (cw_D hD) hS 12 4 rfl rfl (iv_in (i := v_19) (by omega) (by omega)) dX1_eraseRows_50 (fun H locs hP _ hS => ?_)
              have hP : va_P (dC, dI) vwCl (cw_W c kc (rU (rU (rU st 9 x9_1) 10 x10_1) 11 x11_1) lg (rU ai 7 (upd a7_31 v_19.toNatClampNeg (vp_nar .byte (0 : Int32)))) al R) H := cw_b7 hP
              generalize hU_disk_low : upd a7_31 v_19.toNatClampNeg (vp_nar .byte (0 : Int32)) = g_20 at hP
              have hR7 : aR g_20 8224 (-128) 127 := aR_updB hR7 hU_disk_low
              clear hU_disk_low
              obtain ⟨x_21, ex_21⟩ : ∃ z : Int32, z = l6_31 + (1) := ⟨_, rfl⟩
              refine lv_iinc (v := x_21) (lv' := [(6, .int x_21), (5, .int v_12), (4, .int v_10), (0, .ref (c 102)), (1, .int p0), (2, .int p1), (3, .int p2)]) hx hb dX1_eraseRows_51 hl (k := 0) rfl (by rw [ex_21]; rfl) (by decide) rfl (fun ls hl => ?_)
              have hx_21 : x_21.toInt = l6_31.toInt + (1) := by rw [ex_21]; exact (iv_add (by omega) (by omega)).trans (by omega)
              clear ex_21
              refine lv_goto (tgt := 31) hx hb dX1_eraseRows_54 (by decide) ?_
              exact ih31 x_21 g_20 _ _ _ (by omega) (by omega) (by assumption) (by omega) hP hS (lv_sub hl [0, 1, 2, 3, 4, 5, 6] rfl)
        exact loop31 ((32 * p2.toInt - 0 : Int).toNat + 1) (0 : Int32) (ai 7) _ _ _ (by omega) (by omega) (by assumption) (by omega) hP hS (lv_sub hl [0, 1, 2, 3, 4, 5, 6] rfl)
      · skip
        have ic_8 := iv_eq c_8
        exfalso
        omega
  exact main s.heap [] hP hS

set_option maxHeartbeats 4000000 in
set_option maxRecDepth 100000 in
theorem v_X1_rowState (l : Launch) (dC : Nat → ClassId) (dI : Nat → Nat → Nat) (c : Nat → Nat) (kc : Nat → ClassId) (st : Nat → Int32) (lg : Nat → Int64) (ai : Nat → Nat → Int32) (al : Nat → Nat → Int64) (R : va_W) (p0 : Int32) (p1 : Int32) (sz : Nat) (hq0 : 0 ≤ p0.toInt) (hq1 : p0.toInt ≤ 1) (hq2 : 0 ≤ p1.toInt) (hq3 : p1.toInt ≤ 127) : Met l yX1_rowState wsX1_rowState ({ frames := 3, cells := 0, slots := 0, locals := 76 }) (va_Pc [.ref (c 102), .int p0, .int p1] (fun U => U.heap.size = sz ∧ va_P (dC, dI) vwCl (cw_W c kc st lg ai al R) U.heap ∧ va_K (dC, dI) vwCl (cw_T kc) U ∧ va_D (fun _ => True) (cw_W c kc st lg ai al R))) (va_Qi (fun r (u : Int32) => r = u) (fun u t => ∃ (f8 : Nat → Int32), va_P (dC, dI) vwCl (cw_W c kc st lg (rU ai 8 f8) al R) t.heap) (va_A (cw_W c kc st lg ai al R) sz)) 0 0 (va_A (cw_W c kc st lg ai al R) sz) := by
  refine Met.ofW (cc := cX1_rowState) (maxL := 4) (ret := (some .int)) (by decide) rfl ?_
  intro p e s m args below meth cM s₁ B hml hv
  obtain ⟨rfl, hsz, hP, hK, hD0⟩ := hv
  have hx := B.exec
  have hb := B.bytes
  have hr := B.returns
  have hts := atoms_spec (ws := wsX1_rowState) B.pre
  have hown : s.vm.findClass RX1 = some m.cls := findClass_of_methodNamed B.named
  subst hsz
  have hD := hD0.self (sz := s.heap.size)
  generalize hAe : va_A (cw_W c kc st lg ai al R) s.heap.size = A at hD ⊢
  have hA : ∀ q : Nat, s.heap.size ≤ q → A q := fun q h => by rw [← hAe]; exact Or.inr h
  have hS : va_S A s.heap s.heap [] := va_S.rf
  clear hAe hD0
  have hl := lv_entry ([.ref (c 102), .int p0, .int p1]) (n := 4) (Nat.le_of_ble_eq_true rfl)
  rw [lg_entry_eq]
  generalize (lg_sl ([.ref (c 102), .int p0, .int p1]) ++ List.replicate (4 - (lg_sl ([.ref (c 102), .int p0, .int p1])).length) Slot.unset).toArray = ls at hl ⊢
  have hl : lv_has ls 4 [(0, .ref (c 102)), (1, .int p0), (2, .int p1)] := hl
  have z_0 : (0 : Int32).toInt = 0 := by decide
  have z_2 : (2 : Int32).toInt = 2 := by decide
  have z_23 : (23 : Int32).toInt = 23 := by decide
  have z_32 : (32 : Int32).toInt = 32 := by decide
  have z_128 : (128 : Int32).toInt = 128 := by decide
  have hin_X1 : ∀ w ∈ u_ws RX1 TX1 7, w ∈ wsX1_rowState := by decide +kernel
  have main : ∀ (H : Heap) (locs : List Loc), va_P (dC, dI) vwCl (cw_W c kc st lg ai al R) H → va_S A s.heap H locs → W p l e (headSpec wsX1_rowState ({ frames := 3, cells := 0, slots := 0, locals := 76 })).room s m ([.ref (c 102), .int p0, .int p1] : List Value).toArray below meth cM H locs 0 0 (MQ below (va_Qi (fun r (u : Int32) => r = u) (fun u t => ∃ (f8 : Nat → Int32), va_P (dC, dI) vwCl (cw_W c kc st lg (rU ai 8 f8) al R) t.heap) A) ([.ref (c 102), .int p0, .int p1] : List Value).toArray s 0 0 A) (F0 m 0 ls []) := by
    intro H locs hP hS
    refine lv_sipush (v := 128) hx hb dX1_rowState_0 (by decide) ?_
    refine lv_iload_n hx hb dX1_rowState_3 rfl (lv_at hl 1 rfl) ?_
    refine lv_imul hx hb dX1_rowState_4 ?_
    refine lv_topi (fun v_1 ev_1 => ?_)
    have rg1 := iv_rng p0
    have hv_1 : v_1.toInt = 128 * p0.toInt := by rw [ev_1]; exact (iv_mulc z_128 (by omega) (by omega)).trans (by omega)
    clear ev_1
    refine lv_iload_n hx hb dX1_rowState_5 rfl (lv_at hl 2 rfl) ?_
    refine lv_iadd hx hb dX1_rowState_6 ?_
    refine lv_topi (fun v_2 ev_2 => ?_)
    have rg2 := iv_rng v_1
    have rg3 := iv_rng p1
    have hv_2 : v_2.toInt = v_1.toInt + p1.toInt := by rw [ev_2]; exact (iv_add (by omega) (by omega)).trans (by omega)
    clear ev_2
    refine lv_istore_n (lv' := [(3, .int v_2), (0, .ref (c 102)), (1, .int p0), (2, .int p1)]) hx hb dX1_rowState_7 rfl hl (by decide) rfl (fun ls hl => ?_)
    refine lv_aload_n hx hb dX1_rowState_8 rfl (lv_at hl 1 rfl) ?_
    refine va_get (D := (dC, dI)) (ci := 3) (v := .ref (c 8)) (C := RX1) (T := TX1) (N := 7) hx hb hts hin_X1 hown hK hP 2 rfl rfl 2 (by decide) (hts (.fieldLink RX1 19 "BlockLog$Disk" "rowStates" "[B") (by decide +kernel)) (fun _ h9 => h9) rfl dX1_rowState_9 ?_
    refine lv_iload_n hx hb dX1_rowState_12 rfl (lv_at hl 0 rfl) ?_
    refine va_bald (f := ai 8) hx hb hK hP 13 5 rfl rfl (iv_in (i := v_2) (by omega) (by omega)) dX1_rowState_13 ?_
    refine lv_topi (fun v_3 ev_3 => ?_)
    clear ev_3
    refine lv_if_ne (tgt := 41) hx hb dX1_rowState_14 (by decide) (fun c_4 => ?_) (fun c_4 => ?_)
    · skip
      have ic_4 := iv_ne c_4
      refine lv_aload_n hx hb dX1_rowState_41 rfl (lv_at hl 1 rfl) ?_
      refine va_get (D := (dC, dI)) (ci := 3) (v := .ref (c 8)) (C := RX1) (T := TX1) (N := 7) hx hb hts hin_X1 hown hK hP 2 rfl rfl 2 (by decide) (hts (.fieldLink RX1 19 "BlockLog$Disk" "rowStates" "[B") (by decide +kernel)) (fun _ h9 => h9) rfl dX1_rowState_42 ?_
      refine lv_iload_n hx hb dX1_rowState_45 rfl (lv_at hl 0 rfl) ?_
      refine va_bald (f := ai 8) hx hb hK hP 13 5 rfl rfl (iv_in (i := v_2) (by omega) (by omega)) dX1_rowState_46 ?_
      refine lv_topi (fun v_5 ev_5 => ?_)
      clear ev_5
      exact W.iret hx hb hr (fun t ht hW => ⟨⟨_, _, rfl, rfl, ai 8, by rw [ht]; exact hP⟩, hS.F ht⟩) hS.2.2 dX1_rowState_47
    · skip
      have ic_4 := iv_eq c_4
      refine lv_aload_n hx hb dX1_rowState_17 rfl (lv_at hl 1 rfl) ?_
      refine va_get (D := (dC, dI)) (ci := 3) (v := .ref (c 8)) (C := RX1) (T := TX1) (N := 7) hx hb hts hin_X1 hown hK hP 2 rfl rfl 2 (by decide) (hts (.fieldLink RX1 19 "BlockLog$Disk" "rowStates" "[B") (by decide +kernel)) (fun _ h9 => h9) rfl dX1_rowState_18 ?_
      refine lv_iload_n hx hb dX1_rowState_21 rfl (lv_at hl 0 rfl) ?_
      refine lv_aload_n hx hb dX1_rowState_22 rfl (lv_at hl 1 rfl) ?_
      refine va_get (D := (dC, dI)) (ci := 3) (v := .ref (c 7)) (C := RX1) (T := TX1) (N := 7) hx hb hts hin_X1 hown hK hP 2 rfl rfl 1 (by decide) (hts (.fieldLink RX1 15 "BlockLog$Disk" "low" "[B") (by decide +kernel)) (fun _ h9 => h9) rfl dX1_rowState_23 ?_
      refine lv_bipush (v := 32) hx hb dX1_rowState_26 (by decide) ?_
      refine lv_bipush (v := 32) hx hb dX1_rowState_28 (by decide) ?_
      refine lv_iload_n hx hb dX1_rowState_30 rfl (lv_at hl 0 rfl) ?_
      refine lv_imul hx hb dX1_rowState_31 ?_
      refine lv_topi (fun v_6 ev_6 => ?_)
      have rg4 := iv_rng v_2
      have hv_6 : v_6.toInt = 32 * v_2.toInt := by rw [ev_6]; exact (iv_mulc z_32 (by omega) (by omega)).trans (by omega)
      clear ev_6
      refine lv_iadd hx hb dX1_rowState_32 ?_
      refine lv_topi (fun v_7 ev_7 => ?_)
      have rg5 := iv_rng v_6
      have hv_7 : v_7.toInt = 32 + v_6.toInt := by rw [ev_7]; exact (iv_add (by omega) (by omega)).trans (by omega)
      clear ev_7
      refine lv_bipush (v := 23) hx hb dX1_rowState_33 (by decide) ?_
      refine lv_iconst (v := 2) hx hb dX1_rowState_35 (by decide) ?_
      refine vp_callSi (va_Run.run (va_runS (As := [.ref (c 7), .int v_7, .int (23 : Int32), .int (2 : Int32)]) (rest := [.int v_2, .ref (c 8)]) ⟨hx, hb, hml, hown, hts⟩ (v_X0_judge l dC dI (cw_W c kc st lg ai al R) (cw_T kc) (c 7) 8224 (kc 7) (ai 7) 12 4 v_7 (23 : Int32) (2 : Int32) rfl rfl (by omega) (by omega) (by omega) (by omega) (by omega)) (va_cwS 4 hts gX1_rowState_X0_judge rfl rfl rfl (by decide +kernel) ⟨Nat.le_of_ble_eq_true rfl, Nat.le_of_ble_eq_true rfl⟩) ⟨fun a U g mk q => by obtain ⟨q0, qP, qK⟩ := q; exact ⟨q0, qP, va_K.moved (u := U) (U := U.calling g mk a) (Vm.Alike.refl U.vm) qK⟩, fun U hU hW => ⟨rfl, by rw [hU]; exact hP, va_K.moved hW.alike hK⟩⟩ rfl rfl hl.1 rfl (lv_room (Nat.le_of_ble_eq_true rfl)) dX1_rowState_36 ⟨Nat.le_of_ble_eq_true rfl, Nat.le_of_ble_eq_true rfl⟩)) (fun r_8 er_8 => ?_)
      obtain ⟨k_9, k_10⟩ := er_8
      refine lv_i2b hx hb dX1_rowState_39 rfl ?_
      refine lv_topi (fun v_11 ev_11 => ?_)
      clear ev_11
      refine va_bast (f := ai 8) hx hb hK hP (cw_D hD) hS 13 5 rfl rfl (iv_in (i := v_2) (by omega) (by omega)) dX1_rowState_40 (fun H locs hP _ hS => ?_)
      have hP : va_P (dC, dI) vwCl (cw_W c kc st lg (rU ai 8 (upd (ai 8) v_2.toNatClampNeg (vp_nar .byte v_11))) al R) H := cw_a8 hP
      generalize hU_disk_rowStates : upd (ai 8) v_2.toNatClampNeg (vp_nar .byte v_11) = g_12 at hP
      clear hU_disk_rowStates
      refine lv_aload_n hx hb dX1_rowState_41 rfl (lv_at hl 1 rfl) ?_
      refine va_get (D := (dC, dI)) (ci := 3) (v := .ref (c 8)) (C := RX1) (T := TX1) (N := 7) hx hb hts hin_X1 hown hK hP 2 rfl rfl 2 (by decide) (hts (.fieldLink RX1 19 "BlockLog$Disk" "rowStates" "[B") (by decide +kernel)) (fun _ h9 => h9) rfl dX1_rowState_42 ?_
      refine lv_iload_n hx hb dX1_rowState_45 rfl (lv_at hl 0 rfl) ?_
      refine va_bald (f := g_12) hx hb hK hP 13 5 rfl rfl (iv_in (i := v_2) (by omega) (by omega)) dX1_rowState_46 ?_
      refine lv_topi (fun v_13 ev_13 => ?_)
      clear ev_13
      exact W.iret hx hb hr (fun t ht hW => ⟨⟨_, _, rfl, rfl, g_12, by rw [ht]; exact hP⟩, hS.F ht⟩) hS.2.2 dX1_rowState_47
  exact main s.heap [] hP hS

set_option maxHeartbeats 4000000 in
set_option maxRecDepth 100000 in
theorem v_X4_place (l : Launch) (dC : Nat → ClassId) (dI : Nat → Nat → Nat) (c : Nat → Nat) (kc : Nat → ClassId) (st : Nat → Int32) (lg : Nat → Int64) (ai : Nat → Nat → Int32) (al : Nat → Nat → Int64) (R : va_W) (p0 : Int32) (hf15a : 0 ≤ (st 15).toInt) (hf15b : (st 15).toInt ≤ 1) (hq0 : 0 ≤ p0.toInt) (hq1 : p0.toInt ≤ 127) : Met l yX4_place wsX4_place ({ frames := 0, cells := 0, slots := 0, locals := 0 }) (va_Pc [.ref (c 104), .int p0] (fun U => va_P (dC, dI) vwCl (cw_W c kc st lg ai al R) U.heap ∧ va_K (dC, dI) vwCl (cw_T kc) U)) (vp_Si (fun r => (r.toInt = 32 + 4096 * (st 15).toInt + 32 * p0.toInt))) 0 0 (fun _ => False) := by
  refine Met.ofW (cc := cX4_place) (maxL := 2) (ret := (some .int)) (by decide) rfl ?_
  intro p e s m args below meth cM s₁ B hml hv
  obtain ⟨rfl, hP, hK⟩ := hv
  have hx := B.exec
  have hb := B.bytes
  have hr := B.returns
  have hts := atoms_spec (ws := wsX4_place) B.pre
  have hown : s.vm.findClass RX4 = some m.cls := findClass_of_methodNamed B.named
  have hl := lv_entry ([.ref (c 104), .int p0]) (n := 2) (Nat.le_of_ble_eq_true rfl)
  rw [lg_entry_eq]
  generalize (lg_sl ([.ref (c 104), .int p0]) ++ List.replicate (2 - (lg_sl ([.ref (c 104), .int p0])).length) Slot.unset).toArray = ls at hl ⊢
  have hl : lv_has ls 2 [(0, .ref (c 104)), (1, .int p0)] := hl
  have z_32 : (32 : Int32).toInt = 32 := by decide
  have z_4096 : (4096 : Int32).toInt = 4096 := by decide
  have hin_X4 : ∀ w ∈ u_ws RX4 TX4 6, w ∈ wsX4_place := by decide +kernel
  refine lv_bipush (v := 32) hx hb dX4_place_0 (by decide) ?_
  refine lv_sipush (v := 4096) hx hb dX4_place_2 (by decide) ?_
  refine lv_aload_n hx hb dX4_place_5 rfl (lv_at hl 0 rfl) ?_
  refine va_get (D := (dC, dI)) (ci := 6) (v := .int (st 15)) (C := RX4) (T := TX4) (N := 6) hx hb hts hin_X4 hown hK hP 4 rfl rfl 2 (by decide) (hts (.fieldLink RX4 19 "BlockLog$Rows" "area" "I") (by decide +kernel)) (fun _ h9 => h9) rfl dX4_place_6 ?_
  refine lv_imul hx hb dX4_place_9 ?_
  refine lv_topi (fun v_1 ev_1 => ?_)
  have rg1 := iv_rng (st 15)
  have hv_1 : v_1.toInt = 4096 * (st 15).toInt := by rw [ev_1]; exact (iv_mulc z_4096 (by omega) (by omega)).trans (by omega)
  clear ev_1
  refine lv_iadd hx hb dX4_place_10 ?_
  refine lv_topi (fun v_2 ev_2 => ?_)
  have rg2 := iv_rng v_1
  have hv_2 : v_2.toInt = 32 + v_1.toInt := by rw [ev_2]; exact (iv_add (by omega) (by omega)).trans (by omega)
  clear ev_2
  refine lv_bipush (v := 32) hx hb dX4_place_11 (by decide) ?_
  refine lv_iload_n hx hb dX4_place_13 rfl (lv_at hl 1 rfl) ?_
  refine lv_imul hx hb dX4_place_14 ?_
  refine lv_topi (fun v_3 ev_3 => ?_)
  have rg3 := iv_rng p0
  have hv_3 : v_3.toInt = 32 * p0.toInt := by rw [ev_3]; exact (iv_mulc z_32 (by omega) (by omega)).trans (by omega)
  clear ev_3
  refine lv_iadd hx hb dX4_place_15 ?_
  refine lv_topi (fun v_4 ev_4 => ?_)
  have rg4 := iv_rng v_2
  have rg5 := iv_rng v_3
  have hv_4 : v_4.toInt = v_2.toInt + v_3.toInt := by rw [ev_4]; exact (iv_add (by omega) (by omega)).trans (by omega)
  clear ev_4
  exact W.iret hx hb hr (fun t ht hW => ⟨_, rfl, (by omega), ht⟩) (fun q h => by cases h) dX4_place_16

set_option maxHeartbeats 4000000 in
set_option maxRecDepth 100000 in
theorem v_X4_kind (l : Launch) (dC : Nat → ClassId) (dI : Nat → Nat → Nat) (c : Nat → Nat) (kc : Nat → ClassId) (st : Nat → Int32) (lg : Nat → Int64) (ai : Nat → Nat → Int32) (al : Nat → Nat → Int64) (R : va_W) (p0 : Int32) (hf15a : 0 ≤ (st 15).toInt) (hf15b : (st 15).toInt ≤ 1) (hq0 : 0 ≤ p0.toInt) (hq1 : p0.toInt ≤ 127) (hR7 : aR (ai 7) 8224 (-128) 127) : Met l yX4_kind wsX4_kind ({ frames := 1, cells := 0, slots := 0, locals := 21 }) (va_Pc [.ref (c 104), .int p0] (fun U => va_P (dC, dI) vwCl (cw_W c kc st lg ai al R) U.heap ∧ va_K (dC, dI) vwCl (cw_T kc) U ∧ gx_W U)) (vp_Si (fun r => True)) 0 0 (fun _ => False) := by
  refine Met.ofW (cc := cX4_kind) (maxL := 2) (ret := (some .int)) (by decide) rfl ?_
  intro p e s m args below meth cM s₁ B hml hv
  obtain ⟨rfl, hP, hK, hG⟩ := hv
  have hx := B.exec
  have hb := B.bytes
  have hr := B.returns
  have hts := atoms_spec (ws := wsX4_kind) B.pre
  have hown : s.vm.findClass RX4 = some m.cls := findClass_of_methodNamed B.named
  have hGW := hG
  have hl := lv_entry ([.ref (c 104), .int p0]) (n := 2) (Nat.le_of_ble_eq_true rfl)
  rw [lg_entry_eq]
  generalize (lg_sl ([.ref (c 104), .int p0]) ++ List.replicate (2 - (lg_sl ([.ref (c 104), .int p0])).length) Slot.unset).toArray = ls at hl ⊢
  have hl : lv_has ls 2 [(0, .ref (c 104)), (1, .int p0)] := hl
  have z_255 : (255 : Int32).toInt = 255 := by decide
  have hin_X1 : ∀ w ∈ u_ws RX1 TX1 7, w ∈ wsX4_kind := by decide +kernel
  have hin_X4 : ∀ w ∈ u_ws RX4 TX4 6, w ∈ wsX4_kind := by decide +kernel
  refine lv_aload_n hx hb dX4_kind_0 rfl (lv_at hl 0 rfl) ?_
  refine va_get (D := (dC, dI)) (ci := 6) (v := .ref (c 102)) (C := RX4) (T := TX4) (N := 6) hx hb hts hin_X4 hown hK hP 4 rfl rfl 0 (by decide) (hts (.fieldLink RX4 9 "BlockLog$Rows" "disk" "LBlockLog$Disk;") (by decide +kernel)) (fun _ h9 => h9) rfl dX4_kind_1 ?_
  refine va_getN (D := (dC, dI)) (ci := 3) (v := .ref (c 7)) (C := RX1) (T := TX1) (N := 7) hx hb hts hin_X1 hown hK hP 2 rfl rfl 1 (by decide) (va_Nw.use rfl (hGW.1 ("BlockLog$Rows", 36, "BlockLog$Disk", "low", "[B", "BlockLog") (by decide +kernel))) (fun _ h9 => h9) rfl dX4_kind_4 ?_
  refine lv_aload_n hx hb dX4_kind_7 rfl (lv_at hl 0 rfl) ?_
  refine lv_iload_n hx hb dX4_kind_8 rfl (lv_at hl 1 rfl) ?_
  refine vp_callSi (va_Run.run (va_runV (As := [.int p0]) (rest := [.ref (c 7)]) ⟨hx, hb, hml, hown, hts⟩ (v_X4_place l dC dI c kc st lg ai al R p0 (show 0 ≤ (st 15).toInt by omega) (show (st 15).toInt ≤ 1 by omega) (by omega) (by omega)) (cwV 1 hts gX4_kind_X4_place rfl rfl rfl (by decide +kernel) ⟨Nat.le_of_ble_eq_true rfl, Nat.le_of_ble_eq_true rfl⟩) ⟨fun a U g mk q => by obtain ⟨q0, qP, qK⟩ := q; exact ⟨q0, qP, va_K.moved (u := U) (U := U.calling g mk a) (Vm.Alike.refl U.vm) qK⟩, va_recv hK hP (ci := 6) (q := (RX4, TX4, 6)) rfl (q0 := 4) rfl, fun U hU hW => ⟨rfl, by rw [hU]; exact hP, va_K.moved hW.alike hK⟩⟩ rfl rfl hl.1 rfl (lv_room (Nat.le_of_ble_eq_true rfl)) dX4_kind_9 ⟨Nat.le_of_ble_eq_true rfl, Nat.le_of_ble_eq_true rfl⟩)) (fun r_1 er_1 => ?_)
  have k_2 := er_1
  have k_2 : r_1.toInt = 32 + 4096 * (st 15).toInt + 32 * p0.toInt := k_2
  refine va_bald (f := ai 7) hx hb hK hP 12 4 rfl rfl (iv_in (i := r_1) (by omega) (by omega)) dX4_kind_12 ?_
  refine lv_topi (fun v_3 ev_3 => ?_)
  have k_4 : -128 ≤ v_3.toInt ∧ v_3.toInt ≤ 127 := aR_get hR7 (by omega) (by omega) ev_3
  clear ev_3
  refine lv_sipush (v := 255) hx hb dX4_kind_13 (by decide) ?_
  refine lv_iand hx hb dX4_kind_16 ?_
  refine lv_topi (fun v_5 ev_5 => ?_)
  have hv_5 : 0 ≤ v_5.toInt ∧ v_5.toInt ≤ 255 := by rw [ev_5]; exact iv_and255 _
  clear ev_5
  exact W.iret hx hb hr (fun t ht hW => ⟨_, rfl, trivial, ht⟩) (fun q h => by cases h) dX4_kind_17

set_option maxHeartbeats 4000000 in
set_option maxRecDepth 100000 in
theorem v_X4_a (l : Launch) (dC : Nat → ClassId) (dI : Nat → Nat → Nat) (c : Nat → Nat) (kc : Nat → ClassId) (st : Nat → Int32) (lg : Nat → Int64) (ai : Nat → Nat → Int32) (al : Nat → Nat → Int64) (R : va_W) (p0 : Int32) (hf15a : 0 ≤ (st 15).toInt) (hf15b : (st 15).toInt ≤ 1) (hq0 : 0 ≤ p0.toInt) (hq1 : p0.toInt ≤ 127) : Met l yX4_a wsX4_a ({ frames := 1, cells := 0, slots := 0, locals := 23 }) (va_Pc [.ref (c 104), .int p0] (fun U => va_P (dC, dI) vwCl (cw_W c kc st lg ai al R) U.heap ∧ va_K (dC, dI) vwCl (cw_T kc) U ∧ gx_W U)) (vp_Si (fun r => True)) 0 0 (fun _ => False) := by
  refine Met.ofW (cc := cX4_a) (maxL := 2) (ret := (some .int)) (by decide) rfl ?_
  intro p e s m args below meth cM s₁ B hml hv
  obtain ⟨rfl, hP, hK, hG⟩ := hv
  have hx := B.exec
  have hb := B.bytes
  have hr := B.returns
  have hts := atoms_spec (ws := wsX4_a) B.pre
  have hown : s.vm.findClass RX4 = some m.cls := findClass_of_methodNamed B.named
  have hGW := hG
  have hl := lv_entry ([.ref (c 104), .int p0]) (n := 2) (Nat.le_of_ble_eq_true rfl)
  rw [lg_entry_eq]
  generalize (lg_sl ([.ref (c 104), .int p0]) ++ List.replicate (2 - (lg_sl ([.ref (c 104), .int p0])).length) Slot.unset).toArray = ls at hl ⊢
  have hl : lv_has ls 2 [(0, .ref (c 104)), (1, .int p0)] := hl
  have z_1 : (1 : Int32).toInt = 1 := by decide
  have hin_X1 : ∀ w ∈ u_ws RX1 TX1 7, w ∈ wsX4_a := by decide +kernel
  have hin_X4 : ∀ w ∈ u_ws RX4 TX4 6, w ∈ wsX4_a := by decide +kernel
  refine lv_aload_n hx hb dX4_a_0 rfl (lv_at hl 0 rfl) ?_
  refine va_get (D := (dC, dI)) (ci := 6) (v := .ref (c 102)) (C := RX4) (T := TX4) (N := 6) hx hb hts hin_X4 hown hK hP 4 rfl rfl 0 (by decide) (hts (.fieldLink RX4 9 "BlockLog$Rows" "disk" "LBlockLog$Disk;") (by decide +kernel)) (fun _ h9 => h9) rfl dX4_a_1 ?_
  refine va_getN (D := (dC, dI)) (ci := 3) (v := .ref (c 7)) (C := RX1) (T := TX1) (N := 7) hx hb hts hin_X1 hown hK hP 2 rfl rfl 1 (by decide) (va_Nw.use rfl (hGW.1 ("BlockLog$Rows", 36, "BlockLog$Disk", "low", "[B", "BlockLog") (by decide +kernel))) (fun _ h9 => h9) rfl dX4_a_4 ?_
  refine lv_aload_n hx hb dX4_a_7 rfl (lv_at hl 0 rfl) ?_
  refine lv_iload_n hx hb dX4_a_8 rfl (lv_at hl 1 rfl) ?_
  refine vp_callSi (va_Run.run (va_runV (As := [.int p0]) (rest := [.ref (c 7)]) ⟨hx, hb, hml, hown, hts⟩ (v_X4_place l dC dI c kc st lg ai al R p0 (show 0 ≤ (st 15).toInt by omega) (show (st 15).toInt ≤ 1 by omega) (by omega) (by omega)) (cwV 1 hts gX4_a_X4_place rfl rfl rfl (by decide +kernel) ⟨Nat.le_of_ble_eq_true rfl, Nat.le_of_ble_eq_true rfl⟩) ⟨fun a U g mk q => by obtain ⟨q0, qP, qK⟩ := q; exact ⟨q0, qP, va_K.moved (u := U) (U := U.calling g mk a) (Vm.Alike.refl U.vm) qK⟩, va_recv hK hP (ci := 6) (q := (RX4, TX4, 6)) rfl (q0 := 4) rfl, fun U hU hW => ⟨rfl, by rw [hU]; exact hP, va_K.moved hW.alike hK⟩⟩ rfl rfl hl.1 rfl (lv_room (Nat.le_of_ble_eq_true rfl)) dX4_a_9 ⟨Nat.le_of_ble_eq_true rfl, Nat.le_of_ble_eq_true rfl⟩)) (fun r_1 er_1 => ?_)
  have k_2 := er_1
  have k_2 : r_1.toInt = 32 + 4096 * (st 15).toInt + 32 * p0.toInt := k_2
  refine lv_iconst (v := 1) hx hb dX4_a_12 (by decide) ?_
  refine lv_iadd hx hb dX4_a_13 ?_
  refine lv_topi (fun v_3 ev_3 => ?_)
  have rg1 := iv_rng r_1
  have hv_3 : v_3.toInt = r_1.toInt + 1 := by rw [ev_3]; exact (iv_add (by omega) (by omega)).trans (by omega)
  clear ev_3
  refine vp_callSi (va_Run.run (va_runS (As := [.ref (c 7), .int v_3]) (rest := []) ⟨hx, hb, hml, hown, hts⟩ (v_X0_intAt l dC dI (cw_W c kc st lg ai al R) (cw_T kc) (c 7) 8224 (kc 7) (ai 7) 12 4 v_3 rfl rfl (by omega) (by omega) (by omega)) (va_cwS 2 hts gX4_a_X0_intAt rfl rfl rfl (by decide +kernel) ⟨Nat.le_of_ble_eq_true rfl, Nat.le_of_ble_eq_true rfl⟩) ⟨fun a U g mk q => by obtain ⟨q0, qP, qK⟩ := q; exact ⟨q0, qP, va_K.moved (u := U) (U := U.calling g mk a) (Vm.Alike.refl U.vm) qK⟩, fun U hU hW => ⟨rfl, by rw [hU]; exact hP, va_K.moved hW.alike hK⟩⟩ rfl rfl hl.1 rfl (lv_room (Nat.le_of_ble_eq_true rfl)) dX4_a_14 ⟨Nat.le_of_ble_eq_true rfl, Nat.le_of_ble_eq_true rfl⟩)) (fun r_4 er_4 => ?_)
  have hia := er_4
  have hia : r_4 = iR (ai 7) v_3 4 := hia
  exact W.iret hx hb hr (fun t ht hW => ⟨_, rfl, trivial, ht⟩) (fun q h => by cases h) dX4_a_17

set_option maxHeartbeats 4000000 in
set_option maxRecDepth 100000 in
theorem v_X4_b (l : Launch) (dC : Nat → ClassId) (dI : Nat → Nat → Nat) (c : Nat → Nat) (kc : Nat → ClassId) (st : Nat → Int32) (lg : Nat → Int64) (ai : Nat → Nat → Int32) (al : Nat → Nat → Int64) (R : va_W) (p0 : Int32) (hf15a : 0 ≤ (st 15).toInt) (hf15b : (st 15).toInt ≤ 1) (hq0 : 0 ≤ p0.toInt) (hq1 : p0.toInt ≤ 127) : Met l yX4_b wsX4_b ({ frames := 1, cells := 0, slots := 0, locals := 23 }) (va_Pc [.ref (c 104), .int p0] (fun U => va_P (dC, dI) vwCl (cw_W c kc st lg ai al R) U.heap ∧ va_K (dC, dI) vwCl (cw_T kc) U ∧ gx_W U)) (vp_Si (fun r => (r.toInt = (cB (ai 7) (st 15) p0).toInt))) 0 0 (fun _ => False) := by
  refine Met.ofW (cc := cX4_b) (maxL := 2) (ret := (some .int)) (by decide) rfl ?_
  intro p e s m args below meth cM s₁ B hml hv
  obtain ⟨rfl, hP, hK, hG⟩ := hv
  have hx := B.exec
  have hb := B.bytes
  have hr := B.returns
  have hts := atoms_spec (ws := wsX4_b) B.pre
  have hown : s.vm.findClass RX4 = some m.cls := findClass_of_methodNamed B.named
  have hGW := hG
  have hl := lv_entry ([.ref (c 104), .int p0]) (n := 2) (Nat.le_of_ble_eq_true rfl)
  rw [lg_entry_eq]
  generalize (lg_sl ([.ref (c 104), .int p0]) ++ List.replicate (2 - (lg_sl ([.ref (c 104), .int p0])).length) Slot.unset).toArray = ls at hl ⊢
  have hl : lv_has ls 2 [(0, .ref (c 104)), (1, .int p0)] := hl
  have z_5 : (5 : Int32).toInt = 5 := by decide
  have hin_X1 : ∀ w ∈ u_ws RX1 TX1 7, w ∈ wsX4_b := by decide +kernel
  have hin_X4 : ∀ w ∈ u_ws RX4 TX4 6, w ∈ wsX4_b := by decide +kernel
  refine lv_aload_n hx hb dX4_b_0 rfl (lv_at hl 0 rfl) ?_
  refine va_get (D := (dC, dI)) (ci := 6) (v := .ref (c 102)) (C := RX4) (T := TX4) (N := 6) hx hb hts hin_X4 hown hK hP 4 rfl rfl 0 (by decide) (hts (.fieldLink RX4 9 "BlockLog$Rows" "disk" "LBlockLog$Disk;") (by decide +kernel)) (fun _ h9 => h9) rfl dX4_b_1 ?_
  refine va_getN (D := (dC, dI)) (ci := 3) (v := .ref (c 7)) (C := RX1) (T := TX1) (N := 7) hx hb hts hin_X1 hown hK hP 2 rfl rfl 1 (by decide) (va_Nw.use rfl (hGW.1 ("BlockLog$Rows", 36, "BlockLog$Disk", "low", "[B", "BlockLog") (by decide +kernel))) (fun _ h9 => h9) rfl dX4_b_4 ?_
  refine lv_aload_n hx hb dX4_b_7 rfl (lv_at hl 0 rfl) ?_
  refine lv_iload_n hx hb dX4_b_8 rfl (lv_at hl 1 rfl) ?_
  refine vp_callSi (va_Run.run (va_runV (As := [.int p0]) (rest := [.ref (c 7)]) ⟨hx, hb, hml, hown, hts⟩ (v_X4_place l dC dI c kc st lg ai al R p0 (show 0 ≤ (st 15).toInt by omega) (show (st 15).toInt ≤ 1 by omega) (by omega) (by omega)) (cwV 1 hts gX4_b_X4_place rfl rfl rfl (by decide +kernel) ⟨Nat.le_of_ble_eq_true rfl, Nat.le_of_ble_eq_true rfl⟩) ⟨fun a U g mk q => by obtain ⟨q0, qP, qK⟩ := q; exact ⟨q0, qP, va_K.moved (u := U) (U := U.calling g mk a) (Vm.Alike.refl U.vm) qK⟩, va_recv hK hP (ci := 6) (q := (RX4, TX4, 6)) rfl (q0 := 4) rfl, fun U hU hW => ⟨rfl, by rw [hU]; exact hP, va_K.moved hW.alike hK⟩⟩ rfl rfl hl.1 rfl (lv_room (Nat.le_of_ble_eq_true rfl)) dX4_b_9 ⟨Nat.le_of_ble_eq_true rfl, Nat.le_of_ble_eq_true rfl⟩)) (fun r_1 er_1 => ?_)
  have k_2 := er_1
  have k_2 : r_1.toInt = 32 + 4096 * (st 15).toInt + 32 * p0.toInt := k_2
  refine lv_iconst (v := 5) hx hb dX4_b_12 (by decide) ?_
  refine lv_iadd hx hb dX4_b_13 ?_
  refine lv_topi (fun v_3 ev_3 => ?_)
  have rg1 := iv_rng r_1
  have hv_3 : v_3.toInt = r_1.toInt + 5 := by rw [ev_3]; exact (iv_add (by omega) (by omega)).trans (by omega)
  clear ev_3
  have hpv := rp5_of (a := (st 15)) (r := p0) (x := v_3) (by omega) (by omega) (by omega) (by omega) (by omega)
  refine vp_callSi (va_Run.run (va_runS (As := [.ref (c 7), .int v_3]) (rest := []) ⟨hx, hb, hml, hown, hts⟩ (v_X0_intAt l dC dI (cw_W c kc st lg ai al R) (cw_T kc) (c 7) 8224 (kc 7) (ai 7) 12 4 v_3 rfl rfl (by omega) (by omega) (by omega)) (va_cwS 2 hts gX4_b_X0_intAt rfl rfl rfl (by decide +kernel) ⟨Nat.le_of_ble_eq_true rfl, Nat.le_of_ble_eq_true rfl⟩) ⟨fun a U g mk q => by obtain ⟨q0, qP, qK⟩ := q; exact ⟨q0, qP, va_K.moved (u := U) (U := U.calling g mk a) (Vm.Alike.refl U.vm) qK⟩, fun U hU hW => ⟨rfl, by rw [hU]; exact hP, va_K.moved hW.alike hK⟩⟩ rfl rfl hl.1 rfl (lv_room (Nat.le_of_ble_eq_true rfl)) dX4_b_14 ⟨Nat.le_of_ble_eq_true rfl, Nat.le_of_ble_eq_true rfl⟩)) (fun r_4 er_4 => ?_)
  have hia := er_4
  have hia : r_4 = iR (ai 7) v_3 4 := hia
  exact W.iret hx hb hr (fun t ht hW => ⟨_, rfl, (by rw [hia, hpv]; rfl), ht⟩) (fun q h => by cases h) dX4_b_17

set_option maxHeartbeats 4000000 in
set_option maxRecDepth 100000 in
theorem v_X4_c (l : Launch) (dC : Nat → ClassId) (dI : Nat → Nat → Nat) (c : Nat → Nat) (kc : Nat → ClassId) (st : Nat → Int32) (lg : Nat → Int64) (ai : Nat → Nat → Int32) (al : Nat → Nat → Int64) (R : va_W) (p0 : Int32) (hf15a : 0 ≤ (st 15).toInt) (hf15b : (st 15).toInt ≤ 1) (hq0 : 0 ≤ p0.toInt) (hq1 : p0.toInt ≤ 127) : Met l yX4_c wsX4_c ({ frames := 1, cells := 0, slots := 0, locals := 24 }) (va_Pc [.ref (c 104), .int p0] (fun U => va_P (dC, dI) vwCl (cw_W c kc st lg ai al R) U.heap ∧ va_K (dC, dI) vwCl (cw_T kc) U ∧ gx_W U)) (vp_Sl (fun r => True)) 0 0 (fun _ => False) := by
  refine Met.ofW (cc := cX4_c) (maxL := 2) (ret := (some .long)) (by decide) rfl ?_
  intro p e s m args below meth cM s₁ B hml hv
  obtain ⟨rfl, hP, hK, hG⟩ := hv
  have hx := B.exec
  have hb := B.bytes
  have hr := B.returns
  have hts := atoms_spec (ws := wsX4_c) B.pre
  have hown : s.vm.findClass RX4 = some m.cls := findClass_of_methodNamed B.named
  have hGW := hG
  have hl := lv_entry ([.ref (c 104), .int p0]) (n := 2) (Nat.le_of_ble_eq_true rfl)
  rw [lg_entry_eq]
  generalize (lg_sl ([.ref (c 104), .int p0]) ++ List.replicate (2 - (lg_sl ([.ref (c 104), .int p0])).length) Slot.unset).toArray = ls at hl ⊢
  have hl : lv_has ls 2 [(0, .ref (c 104)), (1, .int p0)] := hl
  have z_9 : (9 : Int32).toInt = 9 := by decide
  have hin_X1 : ∀ w ∈ u_ws RX1 TX1 7, w ∈ wsX4_c := by decide +kernel
  have hin_X4 : ∀ w ∈ u_ws RX4 TX4 6, w ∈ wsX4_c := by decide +kernel
  refine lv_aload_n hx hb dX4_c_0 rfl (lv_at hl 0 rfl) ?_
  refine va_get (D := (dC, dI)) (ci := 6) (v := .ref (c 102)) (C := RX4) (T := TX4) (N := 6) hx hb hts hin_X4 hown hK hP 4 rfl rfl 0 (by decide) (hts (.fieldLink RX4 9 "BlockLog$Rows" "disk" "LBlockLog$Disk;") (by decide +kernel)) (fun _ h9 => h9) rfl dX4_c_1 ?_
  refine va_getN (D := (dC, dI)) (ci := 3) (v := .ref (c 7)) (C := RX1) (T := TX1) (N := 7) hx hb hts hin_X1 hown hK hP 2 rfl rfl 1 (by decide) (va_Nw.use rfl (hGW.1 ("BlockLog$Rows", 36, "BlockLog$Disk", "low", "[B", "BlockLog") (by decide +kernel))) (fun _ h9 => h9) rfl dX4_c_4 ?_
  refine lv_aload_n hx hb dX4_c_7 rfl (lv_at hl 0 rfl) ?_
  refine lv_iload_n hx hb dX4_c_8 rfl (lv_at hl 1 rfl) ?_
  refine vp_callSi (va_Run.run (va_runV (As := [.int p0]) (rest := [.ref (c 7)]) ⟨hx, hb, hml, hown, hts⟩ (v_X4_place l dC dI c kc st lg ai al R p0 (show 0 ≤ (st 15).toInt by omega) (show (st 15).toInt ≤ 1 by omega) (by omega) (by omega)) (cwV 1 hts gX4_c_X4_place rfl rfl rfl (by decide +kernel) ⟨Nat.le_of_ble_eq_true rfl, Nat.le_of_ble_eq_true rfl⟩) ⟨fun a U g mk q => by obtain ⟨q0, qP, qK⟩ := q; exact ⟨q0, qP, va_K.moved (u := U) (U := U.calling g mk a) (Vm.Alike.refl U.vm) qK⟩, va_recv hK hP (ci := 6) (q := (RX4, TX4, 6)) rfl (q0 := 4) rfl, fun U hU hW => ⟨rfl, by rw [hU]; exact hP, va_K.moved hW.alike hK⟩⟩ rfl rfl hl.1 rfl (lv_room (Nat.le_of_ble_eq_true rfl)) dX4_c_9 ⟨Nat.le_of_ble_eq_true rfl, Nat.le_of_ble_eq_true rfl⟩)) (fun r_1 er_1 => ?_)
  have k_2 := er_1
  have k_2 : r_1.toInt = 32 + 4096 * (st 15).toInt + 32 * p0.toInt := k_2
  refine lv_bipush (v := 9) hx hb dX4_c_12 (by decide) ?_
  refine lv_iadd hx hb dX4_c_14 ?_
  refine lv_topi (fun v_3 ev_3 => ?_)
  have rg1 := iv_rng r_1
  have hv_3 : v_3.toInt = r_1.toInt + 9 := by rw [ev_3]; exact (iv_add (by omega) (by omega)).trans (by omega)
  clear ev_3
  refine vp_callSl (va_Run.run (va_runS (As := [.ref (c 7), .int v_3]) (rest := []) ⟨hx, hb, hml, hown, hts⟩ (v_X0_longAt l dC dI (cw_W c kc st lg ai al R) (cw_T kc) (c 7) 8224 (kc 7) (ai 7) 12 4 v_3 rfl rfl (by omega) (by omega) (by omega)) (va_cwS 2 hts gX4_c_X0_longAt rfl rfl rfl (by decide +kernel) ⟨Nat.le_of_ble_eq_true rfl, Nat.le_of_ble_eq_true rfl⟩) ⟨fun a U g mk q => by obtain ⟨q0, qP, qK⟩ := q; exact ⟨q0, qP, va_K.moved (u := U) (U := U.calling g mk a) (Vm.Alike.refl U.vm) qK⟩, fun U hU hW => ⟨rfl, by rw [hU]; exact hP, va_K.moved hW.alike hK⟩⟩ rfl rfl hl.1 rfl (lv_room (Nat.le_of_ble_eq_true rfl)) dX4_c_15 ⟨Nat.le_of_ble_eq_true rfl, Nat.le_of_ble_eq_true rfl⟩)) (fun r_4 er_4 => ?_)
  exact W.lret hx hb hr (fun t ht hW => ⟨_, rfl, trivial, ht⟩) (fun q h => by cases h) dX4_c_18

set_option maxHeartbeats 4000000 in
set_option maxRecDepth 100000 in
theorem v_X4_state (l : Launch) (dC : Nat → ClassId) (dI : Nat → Nat → Nat) (c : Nat → Nat) (kc : Nat → ClassId) (st : Nat → Int32) (lg : Nat → Int64) (ai : Nat → Nat → Int32) (al : Nat → Nat → Int64) (R : va_W) (p0 : Int32) (sz : Nat) (hf15a : 0 ≤ (st 15).toInt) (hf15b : (st 15).toInt ≤ 1) (hq0 : 0 ≤ p0.toInt) (hq1 : p0.toInt ≤ 127) : Met l yX4_state wsX4_state ({ frames := 4, cells := 0, slots := 0, locals := 99 }) (va_Pc [.ref (c 104), .int p0] (fun U => U.heap.size = sz ∧ va_P (dC, dI) vwCl (cw_W c kc st lg ai al R) U.heap ∧ va_K (dC, dI) vwCl (cw_T kc) U ∧ va_D (fun _ => True) (cw_W c kc st lg ai al R))) (va_Qi (fun r (u : Int32) => r = u) (fun u t => ∃ (f8 : Nat → Int32), va_P (dC, dI) vwCl (cw_W c kc st lg (rU ai 8 f8) al R) t.heap) (va_A (cw_W c kc st lg ai al R) sz)) 0 0 (va_A (cw_W c kc st lg ai al R) sz) := by
  refine Met.ofW (cc := cX4_state) (maxL := 2) (ret := (some .int)) (by decide) rfl ?_
  intro p e s m args below meth cM s₁ B hml hv
  obtain ⟨rfl, hsz, hP, hK, hD0⟩ := hv
  have hx := B.exec
  have hb := B.bytes
  have hr := B.returns
  have hts := atoms_spec (ws := wsX4_state) B.pre
  have hown : s.vm.findClass RX4 = some m.cls := findClass_of_methodNamed B.named
  subst hsz
  have hD := hD0.self (sz := s.heap.size)
  generalize hAe : va_A (cw_W c kc st lg ai al R) s.heap.size = A at hD ⊢
  have hA : ∀ q : Nat, s.heap.size ≤ q → A q := fun q h => by rw [← hAe]; exact Or.inr h
  have hS : va_S A s.heap s.heap [] := va_S.rf
  clear hAe hD0
  have hl := lv_entry ([.ref (c 104), .int p0]) (n := 2) (Nat.le_of_ble_eq_true rfl)
  rw [lg_entry_eq]
  generalize (lg_sl ([.ref (c 104), .int p0]) ++ List.replicate (2 - (lg_sl ([.ref (c 104), .int p0])).length) Slot.unset).toArray = ls at hl ⊢
  have hl : lv_has ls 2 [(0, .ref (c 104)), (1, .int p0)] := hl
  have hin_X4 : ∀ w ∈ u_ws RX4 TX4 6, w ∈ wsX4_state := by decide +kernel
  have main : ∀ (H : Heap) (locs : List Loc), va_P (dC, dI) vwCl (cw_W c kc st lg ai al R) H → va_S A s.heap H locs → W p l e (headSpec wsX4_state ({ frames := 4, cells := 0, slots := 0, locals := 99 })).room s m ([.ref (c 104), .int p0] : List Value).toArray below meth cM H locs 0 0 (MQ below (va_Qi (fun r (u : Int32) => r = u) (fun u t => ∃ (f8 : Nat → Int32), va_P (dC, dI) vwCl (cw_W c kc st lg (rU ai 8 f8) al R) t.heap) A) ([.ref (c 104), .int p0] : List Value).toArray s 0 0 A) (F0 m 0 ls []) := by
    intro H locs hP hS
    refine lv_aload_n hx hb dX4_state_0 rfl (lv_at hl 0 rfl) ?_
    refine va_get (D := (dC, dI)) (ci := 6) (v := .ref (c 102)) (C := RX4) (T := TX4) (N := 6) hx hb hts hin_X4 hown hK hP 4 rfl rfl 0 (by decide) (hts (.fieldLink RX4 9 "BlockLog$Rows" "disk" "LBlockLog$Disk;") (by decide +kernel)) (fun _ h9 => h9) rfl dX4_state_1 ?_
    refine lv_aload_n hx hb dX4_state_4 rfl (lv_at hl 0 rfl) ?_
    refine va_get (D := (dC, dI)) (ci := 6) (v := .int (st 15)) (C := RX4) (T := TX4) (N := 6) hx hb hts hin_X4 hown hK hP 4 rfl rfl 2 (by decide) (hts (.fieldLink RX4 19 "BlockLog$Rows" "area" "I") (by decide +kernel)) (fun _ h9 => h9) rfl dX4_state_5 ?_
    refine lv_iload_n hx hb dX4_state_8 rfl (lv_at hl 1 rfl) ?_
    have hFc := vfree ((cw_D hD : va_D A (cw_W c kc st lg ai al R)) : va_D A (cw_W c kc st lg ai al R)) hS hA
    refine va_calli (va_runV (As := [.int (st 15), .int p0]) (rest := []) ⟨hx, hb, hml, hown, hts⟩ (v_X1_rowState l dC dI c kc st lg ai al R (st 15) p0 _ (by omega) (by omega) (by omega) (by omega)) (cwV 2 hts gX4_state_X1_rowState rfl rfl rfl (by decide +kernel) ⟨Nat.le_of_ble_eq_true rfl, Nat.le_of_ble_eq_true rfl⟩) ⟨fun a U g mk q => by obtain ⟨q0, q1, qP, qK, qD⟩ := q; exact ⟨q0, q1, qP, va_K.moved (u := U) (U := U.calling g mk a) (Vm.Alike.refl U.vm) qK, qD⟩, va_recv hK hP (ci := 3) (q := (RX1, TX1, 7)) rfl (q0 := 2) rfl, fun U hU hW => ⟨rfl, by rw [hU], by rw [hU]; exact hP, va_K.moved hW.alike hK, ((cw_D hD : va_D A (cw_W c kc st lg ai al R))).weaken (fun _ _ _ _ => trivial)⟩⟩ rfl rfl hl.1 rfl (lv_room (Nat.le_of_ble_eq_true rfl)) dX4_state_9 ⟨Nat.le_of_ble_eq_true rfl, Nat.le_of_ble_eq_true rfl⟩) hS (fun q _ h => hFc q h) hFc (fun r_1 ur_1 t H1 locs ht hvm er_1 hB hz1 hk1 hS => ?_)
    subst er_1
    obtain ⟨f8_1, hP1⟩ := hB
    rw [ht] at hP1
    clear hFc hz1 hk1 hvm hP
    subst ht
    have hP := hP1
    clear hP1
    generalize t.heap = H at hP hS ⊢
    have hP : va_P (dC, dI) vwCl (cw_W c kc st lg (rU ai 8 f8_1) al R) H := hP
    exact W.iret hx hb hr (fun t ht hW => ⟨⟨_, _, rfl, rfl, f8_1, by rw [ht]; exact hP⟩, hS.F ht⟩) hS.2.2 dX4_state_12
  exact main s.heap [] hP hS

set_option maxHeartbeats 4000000 in
set_option maxRecDepth 100000 in
theorem v_X4_inNeed (l : Launch) (dC : Nat → ClassId) (dI : Nat → Nat → Nat) (c : Nat → Nat) (kc : Nat → ClassId) (st : Nat → Int32) (lg : Nat → Int64) (ai : Nat → Nat → Int32) (al : Nat → Nat → Int64) (R : va_W)   : Met l yX4_inNeed wsX4_inNeed ({ frames := 0, cells := 0, slots := 0, locals := 0 }) (va_Pc [.ref (c 104)] (fun U => va_P (dC, dI) vwCl (cw_W c kc st lg ai al R) U.heap ∧ va_K (dC, dI) vwCl (cw_T kc) U)) (vp_Si (fun r => (0 ≤ r.toInt) ∧ (r.toInt ≤ 1))) 0 0 (fun _ => False) := by
  refine Met.ofW (cc := cX4_inNeed) (maxL := 1) (ret := (some .boolean)) (by decide) rfl ?_
  intro p e s m args below meth cM s₁ B hml hv
  obtain ⟨rfl, hP, hK⟩ := hv
  have hx := B.exec
  have hb := B.bytes
  have hr := B.returns
  have hts := atoms_spec (ws := wsX4_inNeed) B.pre
  have hown : s.vm.findClass RX4 = some m.cls := findClass_of_methodNamed B.named
  have hl := lv_entry ([.ref (c 104)]) (n := 1) (Nat.le_of_ble_eq_true rfl)
  rw [lg_entry_eq]
  generalize (lg_sl ([.ref (c 104)]) ++ List.replicate (1 - (lg_sl ([.ref (c 104)])).length) Slot.unset).toArray = ls at hl ⊢
  have hl : lv_has ls 1 [(0, .ref (c 104))] := hl
  have z_0 : (0 : Int32).toInt = 0 := by decide
  have z_1 : (1 : Int32).toInt = 1 := by decide
  have hin_X4 : ∀ w ∈ u_ws RX4 TX4 6, w ∈ wsX4_inNeed := by decide +kernel
  refine lv_aload_n hx hb dX4_inNeed_0 rfl (lv_at hl 0 rfl) ?_
  refine va_get (D := (dC, dI)) (ci := 6) (v := .int (st 18)) (C := RX4) (T := TX4) (N := 6) hx hb hts hin_X4 hown hK hP 4 rfl rfl 5 (by decide) (hts (.fieldLink RX4 29 "BlockLog$Rows" "bad" "I") (by decide +kernel)) (fun _ h9 => h9) rfl dX4_inNeed_1 ?_
  refine lv_if_le (tgt := 11) hx hb dX4_inNeed_4 (by decide) (fun c_1 => ?_) (fun c_1 => ?_)
  · skip
    have ic_1 := iv_le c_1
    refine lv_iconst (v := 0) hx hb dX4_inNeed_11 (by decide) ?_
    exact W.zret hx hb hr rfl (fun t ht hW => ⟨_, rfl, ⟨(by omega), (by omega)⟩, ht⟩) (fun q h => by cases h) dX4_inNeed_12
  · skip
    have ic_1 := iv_nle c_1
    refine lv_iconst (v := 1) hx hb dX4_inNeed_7 (by decide) ?_
    refine lv_goto (tgt := 12) hx hb dX4_inNeed_8 (by decide) ?_
    exact W.zret hx hb hr rfl (fun t ht hW => ⟨_, rfl, ⟨(by omega), (by omega)⟩, ht⟩) (fun q h => by cases h) dX4_inNeed_12

set_option maxHeartbeats 4000000 in
set_option maxRecDepth 100000 in
theorem v_X4_draw (l : Launch) (dC : Nat → ClassId) (dI : Nat → Nat → Nat) (c : Nat → Nat) (kc : Nat → ClassId) (st : Nat → Int32) (lg : Nat → Int64) (ai : Nat → Nat → Int32) (al : Nat → Nat → Int64) (R : va_W) (p0 : Int32) (p1 : Int32) (p2 : Int32) (p3 : Int64) (sz : Nat)  : Met l yX4_draw wsX4_draw ({ frames := 3, cells := 0, slots := 0, locals := 72 }) (va_Pc [.ref (c 104), .int p0, .int p1, .int p2, .long p3] (fun U => U.heap.size = sz ∧ va_P (dC, dI) vwCl (cw_W c kc st lg ai al R) U.heap ∧ va_K (dC, dI) vwCl (cw_T kc) U ∧ va_D (fun _ => True) (cw_W c kc st lg ai al R))) (va_Qv (fun (_ : Unit) => True) (fun _ t => ∃ (f14 : Nat → Int32), va_P (dC, dI) vwCl (cw_W c kc st lg (rU ai 14 f14) al R) t.heap) (va_A (cw_W c kc st lg ai al R) sz)) 0 0 (va_A (cw_W c kc st lg ai al R) sz) := by
  refine Met.ofW (cc := cX4_draw) (maxL := 7) (ret := none) (by decide) rfl ?_
  intro p e s m args below meth cM s₁ B hml hv
  obtain ⟨rfl, hsz, hP, hK, hD0⟩ := hv
  have hx := B.exec
  have hb := B.bytes
  have hr := B.returns
  have hts := atoms_spec (ws := wsX4_draw) B.pre
  have hown : s.vm.findClass RX4 = some m.cls := findClass_of_methodNamed B.named
  subst hsz
  have hD := hD0.self (sz := s.heap.size)
  generalize hAe : va_A (cw_W c kc st lg ai al R) s.heap.size = A at hD ⊢
  have hA : ∀ q : Nat, s.heap.size ≤ q → A q := fun q h => by rw [← hAe]; exact Or.inr h
  have hS : va_S A s.heap s.heap [] := va_S.rf
  clear hAe hD0
  have hl := lv_entry ([.ref (c 104), .int p0, .int p1, .int p2, .long p3]) (n := 7) (Nat.le_of_ble_eq_true rfl)
  rw [lg_entry_eq]
  generalize (lg_sl ([.ref (c 104), .int p0, .int p1, .int p2, .long p3]) ++ List.replicate (7 - (lg_sl ([.ref (c 104), .int p0, .int p1, .int p2, .long p3])).length) Slot.unset).toArray = ls at hl ⊢
  have hl : lv_has ls 7 [(0, .ref (c 104)), (1, .int p0), (2, .int p1), (3, .int p2), (4, .long p3)] := hl
  have z_0 : (0 : Int32).toInt = 0 := by decide
  have z_1 : (1 : Int32).toInt = 1 := by decide
  have z_2 : (2 : Int32).toInt = 2 := by decide
  have z_5 : (5 : Int32).toInt = 5 := by decide
  have z_9 : (9 : Int32).toInt = 9 := by decide
  have z_23 : (23 : Int32).toInt = 23 := by decide
  have hin_X4 : ∀ w ∈ u_ws RX4 TX4 6, w ∈ wsX4_draw := by decide +kernel
  have main : ∀ (H : Heap) (locs : List Loc), va_P (dC, dI) vwCl (cw_W c kc st lg ai al R) H → va_S A s.heap H locs → W p l e (headSpec wsX4_draw ({ frames := 3, cells := 0, slots := 0, locals := 72 })).room s m ([.ref (c 104), .int p0, .int p1, .int p2, .long p3] : List Value).toArray below meth cM H locs 0 0 (MQ below (va_Qv (fun (_ : Unit) => True) (fun _ t => ∃ (f14 : Nat → Int32), va_P (dC, dI) vwCl (cw_W c kc st lg (rU ai 14 f14) al R) t.heap) A) ([.ref (c 104), .int p0, .int p1, .int p2, .long p3] : List Value).toArray s 0 0 A) (F0 m 0 ls []) := by
    intro H locs hP hS
    refine lv_iconst (v := 0) hx hb dX4_draw_0 (by decide) ?_
    refine lv_istore (lv' := [(6, .int (0 : Int32)), (0, .ref (c 104)), (1, .int p0), (2, .int p1), (3, .int p2), (4, .long p3)]) hx hb dX4_draw_1 hl (by decide) rfl (fun ls hl => ?_)
    have loop3 : ∀ (n : Nat) (l6_3 : Int32) (a14_3 : Nat → Int32) (H : Heap) (locs : List Loc) (ls : Array Slot), (0 ≤ l6_3.toInt) → (l6_3.toInt ≤ 23) → (23 - l6_3.toInt : Int).toNat < n → va_P (dC, dI) vwCl (cw_W c kc st lg (rU ai 14 a14_3) al R) H → va_S A s.heap H locs → lv_has ls 7 [(6, .int l6_3), (0, .ref (c 104)), (1, .int p0), (2, .int p1), (3, .int p2), (4, .long p3)] → W p l e (headSpec wsX4_draw ({ frames := 3, cells := 0, slots := 0, locals := 72 })).room s m ([.ref (c 104), .int p0, .int p1, .int p2, .long p3] : List Value).toArray below meth cM H locs 0 0 (MQ below (va_Qv (fun (_ : Unit) => True) (fun _ t => ∃ (f14 : Nat → Int32), va_P (dC, dI) vwCl (cw_W c kc st lg (rU ai 14 f14) al R) t.heap) A) ([.ref (c 104), .int p0, .int p1, .int p2, .long p3] : List Value).toArray s 0 0 A) (F0 m 3 ls []) := by
      intro n
      induction n with
      | zero => intro l6_3 a14_3 H locs ls if0_3 if1_3 hm; exact absurd hm (Nat.not_lt_zero _)
      | succ n ih3 =>
        intro l6_3 a14_3 H locs ls if0_3 if1_3 hm3 hP hS hl
        refine lv_iload hx hb dX4_draw_3 (lv_at hl 0 rfl) ?_
        refine lv_bipush (v := 23) hx hb dX4_draw_5 (by decide) ?_
        refine lv_icmp_ge (tgt := 24) hx hb dX4_draw_7 (by decide) (fun c_1 => ?_) (fun c_1 => ?_)
        · skip
          have ic_1 := iv_le c_1
          refine lv_aload_n hx hb dX4_draw_24 rfl (lv_at hl 1 rfl) ?_
          refine va_get (D := (dC, dI)) (ci := 6) (v := .ref (c 14)) (C := RX4) (T := TX4) (N := 6) hx hb hts hin_X4 hown hK hP 4 rfl rfl 1 (by decide) (hts (.fieldLink RX4 15 "BlockLog$Rows" "image" "[B") (by decide +kernel)) (fun _ h9 => h9) rfl dX4_draw_25 ?_
          refine lv_iconst (v := 0) hx hb dX4_draw_28 (by decide) ?_
          refine lv_iload_n hx hb dX4_draw_29 rfl (lv_at hl 2 rfl) ?_
          refine lv_i2b hx hb dX4_draw_30 rfl ?_
          refine lv_topi (fun v_2 ev_2 => ?_)
          clear ev_2
          refine va_bast (f := a14_3) hx hb hK hP (cw_D hD) hS 14 6 rfl rfl (iv_in (i := (0 : Int32)) (by omega) (by omega)) dX4_draw_31 (fun H locs hP _ hS => ?_)
          have hP : va_P (dC, dI) vwCl (cw_W c kc st lg (rU ai 14 (upd a14_3 (0 : Int32).toNatClampNeg (vp_nar .byte v_2))) al R) H := cw_b14 hP
          generalize hU_rows_image : upd a14_3 (0 : Int32).toNatClampNeg (vp_nar .byte v_2) = g_3 at hP
          clear hU_rows_image
          refine lv_aload_n hx hb dX4_draw_32 rfl (lv_at hl 1 rfl) ?_
          refine va_get (D := (dC, dI)) (ci := 6) (v := .ref (c 14)) (C := RX4) (T := TX4) (N := 6) hx hb hts hin_X4 hown hK hP 4 rfl rfl 1 (by decide) (hts (.fieldLink RX4 15 "BlockLog$Rows" "image" "[B") (by decide +kernel)) (fun _ h9 => h9) rfl dX4_draw_33 ?_
          refine lv_iconst (v := 1) hx hb dX4_draw_36 (by decide) ?_
          refine lv_iload_n hx hb dX4_draw_37 rfl (lv_at hl 3 rfl) ?_
          have hFc := vfree ((cw_D hD : va_D A (cw_W c kc st lg (rU ai 14 g_3) al R)) : va_D A (cw_W c kc st lg (rU ai 14 g_3) al R)) hS hA
          refine va_callv (va_runS (As := [.ref (c 14), .int (1 : Int32), .int p1]) (rest := []) ⟨hx, hb, hml, hown, hts⟩ (v_X0_putInt l dC dI (cw_W c kc st lg (rU ai 14 g_3) al R) (cw_T kc) (c 14) 32 (kc 14) g_3 14 6 (1 : Int32) p1 _ rfl rfl (by omega) (by omega) (by omega)) (va_cwS 3 hts gX4_draw_X0_putInt rfl rfl rfl (by decide +kernel) ⟨Nat.le_of_ble_eq_true rfl, Nat.le_of_ble_eq_true rfl⟩) ⟨fun a U g mk q => by obtain ⟨q0, q1, qP, qK, qD⟩ := q; exact ⟨q0, q1, qP, va_K.moved (u := U) (U := U.calling g mk a) (Vm.Alike.refl U.vm) qK, qD⟩, fun U hU hW => ⟨rfl, by rw [hU], by rw [hU]; exact hP, va_K.moved hW.alike hK, ((cw_D hD : va_D A (cw_W c kc st lg (rU ai 14 g_3) al R))).weaken (fun _ _ _ _ => trivial)⟩⟩ rfl rfl hl.1 rfl (lv_room (Nat.le_of_ble_eq_true rfl)) dX4_draw_38 ⟨Nat.le_of_ble_eq_true rfl, Nat.le_of_ble_eq_true rfl⟩) hS (fun q _ h => hFc q h) hFc (fun ur_4 t H1 locs ht hvm er_4 hB hz1 hk1 hS => ?_)
          obtain ⟨f_4, hRc, hP1⟩ := hB
          rw [ht] at hP1
          clear hFc hz1 hk1 hvm hP
          subst ht
          have hP := hP1
          clear hP1
          generalize t.heap = H at hP hS ⊢
          have hP : va_P (dC, dI) vwCl (cw_W c kc st lg (rU ai 14 f_4) al R) H := hP
          refine lv_aload_n hx hb dX4_draw_41 rfl (lv_at hl 1 rfl) ?_
          refine va_get (D := (dC, dI)) (ci := 6) (v := .ref (c 14)) (C := RX4) (T := TX4) (N := 6) hx hb hts hin_X4 hown hK hP 4 rfl rfl 1 (by decide) (hts (.fieldLink RX4 15 "BlockLog$Rows" "image" "[B") (by decide +kernel)) (fun _ h9 => h9) rfl dX4_draw_42 ?_
          refine lv_iconst (v := 5) hx hb dX4_draw_45 (by decide) ?_
          refine lv_iload_n hx hb dX4_draw_46 rfl (lv_at hl 4 rfl) ?_
          have hFc := vfree ((cw_D hD : va_D A (cw_W c kc st lg (rU ai 14 f_4) al R)) : va_D A (cw_W c kc st lg (rU ai 14 f_4) al R)) hS hA
          refine va_callv (va_runS (As := [.ref (c 14), .int (5 : Int32), .int p2]) (rest := []) ⟨hx, hb, hml, hown, hts⟩ (v_X0_putInt l dC dI (cw_W c kc st lg (rU ai 14 f_4) al R) (cw_T kc) (c 14) 32 (kc 14) f_4 14 6 (5 : Int32) p2 _ rfl rfl (by omega) (by omega) (by omega)) (va_cwS 3 hts gX4_draw_X0_putInt rfl rfl rfl (by decide +kernel) ⟨Nat.le_of_ble_eq_true rfl, Nat.le_of_ble_eq_true rfl⟩) ⟨fun a U g mk q => by obtain ⟨q0, q1, qP, qK, qD⟩ := q; exact ⟨q0, q1, qP, va_K.moved (u := U) (U := U.calling g mk a) (Vm.Alike.refl U.vm) qK, qD⟩, fun U hU hW => ⟨rfl, by rw [hU], by rw [hU]; exact hP, va_K.moved hW.alike hK, ((cw_D hD : va_D A (cw_W c kc st lg (rU ai 14 f_4) al R))).weaken (fun _ _ _ _ => trivial)⟩⟩ rfl rfl hl.1 rfl (lv_room (Nat.le_of_ble_eq_true rfl)) dX4_draw_47 ⟨Nat.le_of_ble_eq_true rfl, Nat.le_of_ble_eq_true rfl⟩) hS (fun q _ h => hFc q h) hFc (fun ur_5 t H1 locs ht hvm er_5 hB hz1 hk1 hS => ?_)
          obtain ⟨f_5, hRc, hP1⟩ := hB
          rw [ht] at hP1
          clear hFc hz1 hk1 hvm hP
          subst ht
          have hP := hP1
          clear hP1
          generalize t.heap = H at hP hS ⊢
          have hP : va_P (dC, dI) vwCl (cw_W c kc st lg (rU ai 14 f_5) al R) H := hP
          refine lv_aload_n hx hb dX4_draw_50 rfl (lv_at hl 1 rfl) ?_
          refine va_get (D := (dC, dI)) (ci := 6) (v := .ref (c 14)) (C := RX4) (T := TX4) (N := 6) hx hb hts hin_X4 hown hK hP 4 rfl rfl 1 (by decide) (hts (.fieldLink RX4 15 "BlockLog$Rows" "image" "[B") (by decide +kernel)) (fun _ h9 => h9) rfl dX4_draw_51 ?_
          refine lv_bipush (v := 9) hx hb dX4_draw_54 (by decide) ?_
          refine lv_lload hx hb dX4_draw_56 (lv_at hl 5 rfl) ?_
          have hFc := vfree ((cw_D hD : va_D A (cw_W c kc st lg (rU ai 14 f_5) al R)) : va_D A (cw_W c kc st lg (rU ai 14 f_5) al R)) hS hA
          refine va_callv (va_runS (As := [.ref (c 14), .int (9 : Int32), .long p3]) (rest := []) ⟨hx, hb, hml, hown, hts⟩ (v_X0_putLong l dC dI (cw_W c kc st lg (rU ai 14 f_5) al R) (cw_T kc) (c 14) 32 (kc 14) f_5 14 6 (9 : Int32) p3 _ rfl rfl (by omega) (by omega) (by omega)) (va_cwS 3 hts gX4_draw_X0_putLong rfl rfl rfl (by decide +kernel) ⟨Nat.le_of_ble_eq_true rfl, Nat.le_of_ble_eq_true rfl⟩) ⟨fun a U g mk q => by obtain ⟨q0, q1, qP, qK, qD⟩ := q; exact ⟨q0, q1, qP, va_K.moved (u := U) (U := U.calling g mk a) (Vm.Alike.refl U.vm) qK, qD⟩, fun U hU hW => ⟨rfl, by rw [hU], by rw [hU]; exact hP, va_K.moved hW.alike hK, ((cw_D hD : va_D A (cw_W c kc st lg (rU ai 14 f_5) al R))).weaken (fun _ _ _ _ => trivial)⟩⟩ rfl rfl hl.1 rfl (lv_room (Nat.le_of_ble_eq_true rfl)) dX4_draw_58 ⟨Nat.le_of_ble_eq_true rfl, Nat.le_of_ble_eq_true rfl⟩) hS (fun q _ h => hFc q h) hFc (fun ur_6 t H1 locs ht hvm er_6 hB hz1 hk1 hS => ?_)
          obtain ⟨f_6, hRc, hP1⟩ := hB
          rw [ht] at hP1
          clear hFc hz1 hk1 hvm hP
          subst ht
          have hP := hP1
          clear hP1
          generalize t.heap = H at hP hS ⊢
          have hP : va_P (dC, dI) vwCl (cw_W c kc st lg (rU ai 14 f_6) al R) H := hP
          refine lv_aload_n hx hb dX4_draw_61 rfl (lv_at hl 1 rfl) ?_
          refine va_get (D := (dC, dI)) (ci := 6) (v := .ref (c 14)) (C := RX4) (T := TX4) (N := 6) hx hb hts hin_X4 hown hK hP 4 rfl rfl 1 (by decide) (hts (.fieldLink RX4 15 "BlockLog$Rows" "image" "[B") (by decide +kernel)) (fun _ h9 => h9) rfl dX4_draw_62 ?_
          refine lv_bipush (v := 23) hx hb dX4_draw_65 (by decide) ?_
          refine lv_iconst (v := 2) hx hb dX4_draw_67 (by decide) ?_
          have hFc := vfree ((cw_D hD : va_D A (cw_W c kc st lg (rU ai 14 f_6) al R)) : va_D A (cw_W c kc st lg (rU ai 14 f_6) al R)) hS hA
          refine va_callv (va_runS (As := [.ref (c 14), .int (23 : Int32), .int (2 : Int32)]) (rest := []) ⟨hx, hb, hml, hown, hts⟩ (v_X0_close l dC dI (cw_W c kc st lg (rU ai 14 f_6) al R) (cw_T kc) (c 14) 32 (kc 14) f_6 14 6 (23 : Int32) (2 : Int32) _ rfl rfl (by omega) (by omega) (by omega)) (va_cwS 3 hts gX4_draw_X0_close rfl rfl rfl (by decide +kernel) ⟨Nat.le_of_ble_eq_true rfl, Nat.le_of_ble_eq_true rfl⟩) ⟨fun a U g mk q => by obtain ⟨q0, q1, qP, qK, qD⟩ := q; exact ⟨q0, q1, qP, va_K.moved (u := U) (U := U.calling g mk a) (Vm.Alike.refl U.vm) qK, qD⟩, fun U hU hW => ⟨rfl, by rw [hU], by rw [hU]; exact hP, va_K.moved hW.alike hK, ((cw_D hD : va_D A (cw_W c kc st lg (rU ai 14 f_6) al R))).weaken (fun _ _ _ _ => trivial)⟩⟩ rfl rfl hl.1 rfl (lv_room (Nat.le_of_ble_eq_true rfl)) dX4_draw_68 ⟨Nat.le_of_ble_eq_true rfl, Nat.le_of_ble_eq_true rfl⟩) hS (fun q _ h => hFc q h) hFc (fun ur_7 t H1 locs ht hvm er_7 hB hz1 hk1 hS => ?_)
          obtain ⟨f_7, hRc, hP1⟩ := hB
          rw [ht] at hP1
          clear hFc hz1 hk1 hvm hP
          subst ht
          have hP := hP1
          clear hP1
          generalize t.heap = H at hP hS ⊢
          have hP : va_P (dC, dI) vwCl (cw_W c kc st lg (rU ai 14 f_7) al R) H := hP
          exact W.vret hx hb hr (fun t ht hW => ⟨⟨(), rfl, trivial, f_7, by rw [ht]; exact hP⟩, hS.F ht⟩) hS.2.2 dX4_draw_71
        · skip
          have ic_1 := iv_nle c_1
          refine lv_aload_n hx hb dX4_draw_10 rfl (lv_at hl 1 rfl) ?_
          refine va_get (D := (dC, dI)) (ci := 6) (v := .ref (c 14)) (C := RX4) (T := TX4) (N := 6) hx hb hts hin_X4 hown hK hP 4 rfl rfl 1 (by decide) (hts (.fieldLink RX4 15 "BlockLog$Rows" "image" "[B") (by decide +kernel)) (fun _ h9 => h9) rfl dX4_draw_11 ?_
          refine lv_iload hx hb dX4_draw_14 (lv_at hl 0 rfl) ?_
          refine lv_iconst (v := 0) hx hb dX4_draw_16 (by decide) ?_
          refine va_bast (f := a14_3) hx hb hK hP (cw_D hD) hS 14 6 rfl rfl (iv_in (i := l6_3) (by omega) (by omega)) dX4_draw_17 (fun H locs hP _ hS => ?_)
          have hP : va_P (dC, dI) vwCl (cw_W c kc st lg (rU ai 14 (upd a14_3 l6_3.toNatClampNeg (vp_nar .byte (0 : Int32)))) al R) H := cw_b14 hP
          generalize hU_rows_image : upd a14_3 l6_3.toNatClampNeg (vp_nar .byte (0 : Int32)) = g_8 at hP
          clear hU_rows_image
          obtain ⟨x_9, ex_9⟩ : ∃ z : Int32, z = l6_3 + (1) := ⟨_, rfl⟩
          refine lv_iinc (v := x_9) (lv' := [(6, .int x_9), (0, .ref (c 104)), (1, .int p0), (2, .int p1), (3, .int p2), (4, .long p3)]) hx hb dX4_draw_18 hl (k := 0) rfl (by rw [ex_9]; rfl) (by decide) rfl (fun ls hl => ?_)
          have rg1 := iv_rng l6_3
          have hx_9 : x_9.toInt = l6_3.toInt + (1) := by rw [ex_9]; exact (iv_add (by omega) (by omega)).trans (by omega)
          clear ex_9
          refine lv_goto (tgt := 3) hx hb dX4_draw_21 (by decide) ?_
          exact ih3 x_9 g_8 _ _ _ (by omega) (by omega) (by omega) hP hS (lv_sub hl [0, 1, 2, 3, 4, 5] rfl)
    exact loop3 ((23 - 0 : Int).toNat + 1) (0 : Int32) (ai 14) _ _ _ (by omega) (by omega) (by omega) hP hS (lv_sub hl [0, 1, 2, 3, 4, 5] rfl)
  exact main s.heap [] hP hS

set_option maxHeartbeats 4000000 in
set_option maxRecDepth 100000 in
theorem v_X4_drawHead (l : Launch) (dC : Nat → ClassId) (dI : Nat → Nat → Nat) (c : Nat → Nat) (kc : Nat → ClassId) (st : Nat → Int32) (lg : Nat → Int64) (ai : Nat → Nat → Int32) (al : Nat → Nat → Int64) (R : va_W) (p0 : Int32) (sz : Nat)  : Met l yX4_drawHead wsX4_drawHead ({ frames := 2, cells := 0, slots := 0, locals := 50 }) (va_Pc [.ref (c 104), .int p0] (fun U => U.heap.size = sz ∧ va_P (dC, dI) vwCl (cw_W c kc st lg ai al R) U.heap ∧ va_K (dC, dI) vwCl (cw_T kc) U ∧ va_D (fun _ => True) (cw_W c kc st lg ai al R))) (va_Qv (fun (_ : Unit) => True) (fun _ t => ∃ (f14 : Nat → Int32), va_P (dC, dI) vwCl (cw_W c kc st lg (rU ai 14 f14) al R) t.heap) (va_A (cw_W c kc st lg ai al R) sz)) 0 0 (va_A (cw_W c kc st lg ai al R) sz) := by
  refine Met.ofW (cc := cX4_drawHead) (maxL := 2) (ret := none) (by decide) rfl ?_
  intro p e s m args below meth cM s₁ B hml hv
  obtain ⟨rfl, hsz, hP, hK, hD0⟩ := hv
  have hx := B.exec
  have hb := B.bytes
  have hr := B.returns
  have hts := atoms_spec (ws := wsX4_drawHead) B.pre
  have hown : s.vm.findClass RX4 = some m.cls := findClass_of_methodNamed B.named
  subst hsz
  have hD := hD0.self (sz := s.heap.size)
  generalize hAe : va_A (cw_W c kc st lg ai al R) s.heap.size = A at hD ⊢
  have hA : ∀ q : Nat, s.heap.size ≤ q → A q := fun q h => by rw [← hAe]; exact Or.inr h
  have hS : va_S A s.heap s.heap [] := va_S.rf
  clear hAe hD0
  have hl := lv_entry ([.ref (c 104), .int p0]) (n := 2) (Nat.le_of_ble_eq_true rfl)
  rw [lg_entry_eq]
  generalize (lg_sl ([.ref (c 104), .int p0]) ++ List.replicate (2 - (lg_sl ([.ref (c 104), .int p0])).length) Slot.unset).toArray = ls at hl ⊢
  have hl : lv_has ls 2 [(0, .ref (c 104)), (1, .int p0)] := hl
  have z_0 : (0 : Int32).toInt = 0 := by decide
  have z_1 : (1 : Int32).toInt = 1 := by decide
  have z_4 : (4 : Int32).toInt = 4 := by decide
  have z_8 : (8 : Int32).toInt = 8 := by decide
  have z_165 : (165 : Int32).toInt = 165 := by decide
  have hin_X4 : ∀ w ∈ u_ws RX4 TX4 6, w ∈ wsX4_drawHead := by decide +kernel
  have main : ∀ (H : Heap) (locs : List Loc), va_P (dC, dI) vwCl (cw_W c kc st lg ai al R) H → va_S A s.heap H locs → W p l e (headSpec wsX4_drawHead ({ frames := 2, cells := 0, slots := 0, locals := 50 })).room s m ([.ref (c 104), .int p0] : List Value).toArray below meth cM H locs 0 0 (MQ below (va_Qv (fun (_ : Unit) => True) (fun _ t => ∃ (f14 : Nat → Int32), va_P (dC, dI) vwCl (cw_W c kc st lg (rU ai 14 f14) al R) t.heap) A) ([.ref (c 104), .int p0] : List Value).toArray s 0 0 A) (F0 m 0 ls []) := by
    intro H locs hP hS
    refine lv_aload_n hx hb dX4_drawHead_0 rfl (lv_at hl 0 rfl) ?_
    refine va_get (D := (dC, dI)) (ci := 6) (v := .ref (c 14)) (C := RX4) (T := TX4) (N := 6) hx hb hts hin_X4 hown hK hP 4 rfl rfl 1 (by decide) (hts (.fieldLink RX4 15 "BlockLog$Rows" "image" "[B") (by decide +kernel)) (fun _ h9 => h9) rfl dX4_drawHead_1 ?_
    refine lv_iconst (v := 0) hx hb dX4_drawHead_4 (by decide) ?_
    refine lv_iload_n hx hb dX4_drawHead_5 rfl (lv_at hl 1 rfl) ?_
    have hFc := vfree ((cw_D hD : va_D A (cw_W c kc st lg ai al R)) : va_D A (cw_W c kc st lg ai al R)) hS hA
    refine va_callv (va_runS (As := [.ref (c 14), .int (0 : Int32), .int p0]) (rest := []) ⟨hx, hb, hml, hown, hts⟩ (v_X0_putInt l dC dI (cw_W c kc st lg ai al R) (cw_T kc) (c 14) 32 (kc 14) (ai 14) 14 6 (0 : Int32) p0 _ rfl rfl (by omega) (by omega) (by omega)) (va_cwS 3 hts gX4_drawHead_X0_putInt rfl rfl rfl (by decide +kernel) ⟨Nat.le_of_ble_eq_true rfl, Nat.le_of_ble_eq_true rfl⟩) ⟨fun a U g mk q => by obtain ⟨q0, q1, qP, qK, qD⟩ := q; exact ⟨q0, q1, qP, va_K.moved (u := U) (U := U.calling g mk a) (Vm.Alike.refl U.vm) qK, qD⟩, fun U hU hW => ⟨rfl, by rw [hU], by rw [hU]; exact hP, va_K.moved hW.alike hK, ((cw_D hD : va_D A (cw_W c kc st lg ai al R))).weaken (fun _ _ _ _ => trivial)⟩⟩ rfl rfl hl.1 rfl (lv_room (Nat.le_of_ble_eq_true rfl)) dX4_drawHead_6 ⟨Nat.le_of_ble_eq_true rfl, Nat.le_of_ble_eq_true rfl⟩) hS (fun q _ h => hFc q h) hFc (fun ur_1 t H1 locs ht hvm er_1 hB hz1 hk1 hS => ?_)
    obtain ⟨f_1, hRc, hP1⟩ := hB
    rw [ht] at hP1
    clear hFc hz1 hk1 hvm hP
    subst ht
    have hP := hP1
    clear hP1
    generalize t.heap = H at hP hS ⊢
    have hP : va_P (dC, dI) vwCl (cw_W c kc st lg (rU ai 14 f_1) al R) H := hP
    refine lv_aload_n hx hb dX4_drawHead_9 rfl (lv_at hl 0 rfl) ?_
    refine va_get (D := (dC, dI)) (ci := 6) (v := .ref (c 14)) (C := RX4) (T := TX4) (N := 6) hx hb hts hin_X4 hown hK hP 4 rfl rfl 1 (by decide) (hts (.fieldLink RX4 15 "BlockLog$Rows" "image" "[B") (by decide +kernel)) (fun _ h9 => h9) rfl dX4_drawHead_10 ?_
    refine lv_iconst (v := 4) hx hb dX4_drawHead_13 (by decide) ?_
    refine lv_sipush (v := 165) hx hb dX4_drawHead_14 (by decide) ?_
    have hFc := vfree ((cw_D hD : va_D A (cw_W c kc st lg (rU ai 14 f_1) al R)) : va_D A (cw_W c kc st lg (rU ai 14 f_1) al R)) hS hA
    refine va_callv (va_runS (As := [.ref (c 14), .int (4 : Int32), .int (165 : Int32)]) (rest := []) ⟨hx, hb, hml, hown, hts⟩ (v_X0_putInt l dC dI (cw_W c kc st lg (rU ai 14 f_1) al R) (cw_T kc) (c 14) 32 (kc 14) f_1 14 6 (4 : Int32) (165 : Int32) _ rfl rfl (by omega) (by omega) (by omega)) (va_cwS 3 hts gX4_drawHead_X0_putInt rfl rfl rfl (by decide +kernel) ⟨Nat.le_of_ble_eq_true rfl, Nat.le_of_ble_eq_true rfl⟩) ⟨fun a U g mk q => by obtain ⟨q0, q1, qP, qK, qD⟩ := q; exact ⟨q0, q1, qP, va_K.moved (u := U) (U := U.calling g mk a) (Vm.Alike.refl U.vm) qK, qD⟩, fun U hU hW => ⟨rfl, by rw [hU], by rw [hU]; exact hP, va_K.moved hW.alike hK, ((cw_D hD : va_D A (cw_W c kc st lg (rU ai 14 f_1) al R))).weaken (fun _ _ _ _ => trivial)⟩⟩ rfl rfl hl.1 rfl (lv_room (Nat.le_of_ble_eq_true rfl)) dX4_drawHead_17 ⟨Nat.le_of_ble_eq_true rfl, Nat.le_of_ble_eq_true rfl⟩) hS (fun q _ h => hFc q h) hFc (fun ur_2 t H1 locs ht hvm er_2 hB hz1 hk1 hS => ?_)
    obtain ⟨f_2, hRc, hP1⟩ := hB
    rw [ht] at hP1
    clear hFc hz1 hk1 hvm hP
    subst ht
    have hP := hP1
    clear hP1
    generalize t.heap = H at hP hS ⊢
    have hP : va_P (dC, dI) vwCl (cw_W c kc st lg (rU ai 14 f_2) al R) H := hP
    refine lv_aload_n hx hb dX4_drawHead_20 rfl (lv_at hl 0 rfl) ?_
    refine va_get (D := (dC, dI)) (ci := 6) (v := .ref (c 14)) (C := RX4) (T := TX4) (N := 6) hx hb hts hin_X4 hown hK hP 4 rfl rfl 1 (by decide) (hts (.fieldLink RX4 15 "BlockLog$Rows" "image" "[B") (by decide +kernel)) (fun _ h9 => h9) rfl dX4_drawHead_21 ?_
    refine lv_bipush (v := 8) hx hb dX4_drawHead_24 (by decide) ?_
    refine lv_aload_n hx hb dX4_drawHead_26 rfl (lv_at hl 0 rfl) ?_
    refine va_get (D := (dC, dI)) (ci := 6) (v := .ref (c 14)) (C := RX4) (T := TX4) (N := 6) hx hb hts hin_X4 hown hK hP 4 rfl rfl 1 (by decide) (hts (.fieldLink RX4 15 "BlockLog$Rows" "image" "[B") (by decide +kernel)) (fun _ h9 => h9) rfl dX4_drawHead_27 ?_
    refine lv_iconst (v := 0) hx hb dX4_drawHead_30 (by decide) ?_
    refine lv_bipush (v := 8) hx hb dX4_drawHead_31 (by decide) ?_
    refine lv_iconst (v := 1) hx hb dX4_drawHead_33 (by decide) ?_
    refine vp_callSl (va_Run.run (va_runS (As := [.ref (c 14), .int (0 : Int32), .int (8 : Int32), .int (1 : Int32)]) (rest := [.int (8 : Int32), .ref (c 14)]) ⟨hx, hb, hml, hown, hts⟩ (v_X0_sum l dC dI (cw_W c kc st lg (rU ai 14 f_2) al R) (cw_T kc) (c 14) 32 (kc 14) f_2 14 6 (0 : Int32) (8 : Int32) (1 : Int32) rfl rfl (by omega) (by omega) (by omega) (by omega)) (va_cwS 4 hts gX4_drawHead_X0_sum rfl rfl rfl (by decide +kernel) ⟨Nat.le_of_ble_eq_true rfl, Nat.le_of_ble_eq_true rfl⟩) ⟨fun a U g mk q => by obtain ⟨q0, qP, qK⟩ := q; exact ⟨q0, qP, va_K.moved (u := U) (U := U.calling g mk a) (Vm.Alike.refl U.vm) qK⟩, fun U hU hW => ⟨rfl, by rw [hU]; exact hP, va_K.moved hW.alike hK⟩⟩ rfl rfl hl.1 rfl (lv_room (Nat.le_of_ble_eq_true rfl)) dX4_drawHead_34 ⟨Nat.le_of_ble_eq_true rfl, Nat.le_of_ble_eq_true rfl⟩)) (fun r_3 er_3 => ?_)
    have hFc := vfree ((cw_D hD : va_D A (cw_W c kc st lg (rU ai 14 f_2) al R)) : va_D A (cw_W c kc st lg (rU ai 14 f_2) al R)) hS hA
    refine va_callv (va_runS (As := [.ref (c 14), .int (8 : Int32), .long r_3]) (rest := []) ⟨hx, hb, hml, hown, hts⟩ (v_X0_putLong l dC dI (cw_W c kc st lg (rU ai 14 f_2) al R) (cw_T kc) (c 14) 32 (kc 14) f_2 14 6 (8 : Int32) r_3 _ rfl rfl (by omega) (by omega) (by omega)) (va_cwS 3 hts gX4_drawHead_X0_putLong rfl rfl rfl (by decide +kernel) ⟨Nat.le_of_ble_eq_true rfl, Nat.le_of_ble_eq_true rfl⟩) ⟨fun a U g mk q => by obtain ⟨q0, q1, qP, qK, qD⟩ := q; exact ⟨q0, q1, qP, va_K.moved (u := U) (U := U.calling g mk a) (Vm.Alike.refl U.vm) qK, qD⟩, fun U hU hW => ⟨rfl, by rw [hU], by rw [hU]; exact hP, va_K.moved hW.alike hK, ((cw_D hD : va_D A (cw_W c kc st lg (rU ai 14 f_2) al R))).weaken (fun _ _ _ _ => trivial)⟩⟩ rfl rfl hl.1 rfl (lv_room (Nat.le_of_ble_eq_true rfl)) dX4_drawHead_37 ⟨Nat.le_of_ble_eq_true rfl, Nat.le_of_ble_eq_true rfl⟩) hS (fun q _ h => hFc q h) hFc (fun ur_4 t H1 locs ht hvm er_4 hB hz1 hk1 hS => ?_)
    obtain ⟨f_4, hRc, hP1⟩ := hB
    rw [ht] at hP1
    clear hFc hz1 hk1 hvm hP
    subst ht
    have hP := hP1
    clear hP1
    generalize t.heap = H at hP hS ⊢
    have hP : va_P (dC, dI) vwCl (cw_W c kc st lg (rU ai 14 f_4) al R) H := hP
    exact W.vret hx hb hr (fun t ht hW => ⟨⟨(), rfl, trivial, f_4, by rw [ht]; exact hP⟩, hS.F ht⟩) hS.2.2 dX4_drawHead_40
  exact main s.heap [] hP hS

set_option maxHeartbeats 4000000 in
set_option maxRecDepth 100000 in
theorem v_X4_drawCopy (l : Launch) (dC : Nat → ClassId) (dI : Nat → Nat → Nat) (c : Nat → Nat) (kc : Nat → ClassId) (st : Nat → Int32) (lg : Nat → Int64) (ai : Nat → Nat → Int32) (al : Nat → Nat → Int64) (R : va_W) (p0 : Int32) (sz : Nat) (hf15a : 0 ≤ (st 15).toInt) (hf15b : (st 15).toInt ≤ 1) (hq0 : 0 ≤ p0.toInt) (hq1 : p0.toInt ≤ 127) (hR7 : aR (ai 7) 8224 (-128) 127) : Met l yX4_drawCopy wsX4_drawCopy ({ frames := 1, cells := 0, slots := 0, locals := 60 }) (va_Pc [.ref (c 104), .int p0] (fun U => U.heap.size = sz ∧ va_P (dC, dI) vwCl (cw_W c kc st lg ai al R) U.heap ∧ va_K (dC, dI) vwCl (cw_T kc) U ∧ va_D (fun _ => True) (cw_W c kc st lg ai al R) ∧ gx_E (va_A (cw_W c kc st lg ai al R) sz) U)) (va_Qv (fun (_ : Unit) => True) (fun _ t => ∃ (f14 : Nat → Int32), va_P (dC, dI) vwCl (cw_W c kc st lg (rU ai 14 f14) al R) t.heap) (va_A (cw_W c kc st lg ai al R) sz)) 0 0 (va_A (cw_W c kc st lg ai al R) sz) := by
  refine Met.ofW (cc := cX4_drawCopy) (maxL := 2) (ret := none) (by decide) rfl ?_
  intro p e s m args below meth cM s₁ B hml hv
  obtain ⟨rfl, hsz, hP, hK, hD0, hG⟩ := hv
  have hx := B.exec
  have hb := B.bytes
  have hr := B.returns
  have hts := atoms_spec (ws := wsX4_drawCopy) B.pre
  have hown : s.vm.findClass RX4 = some m.cls := findClass_of_methodNamed B.named
  have hGW := hG.1
  subst hsz
  have hD := hD0.self (sz := s.heap.size)
  generalize hAe : va_A (cw_W c kc st lg ai al R) s.heap.size = A at hD hG ⊢
  have hA : ∀ q : Nat, s.heap.size ≤ q → A q := fun q h => by rw [← hAe]; exact Or.inr h
  have hS : va_S A s.heap s.heap [] := va_S.rf
  clear hAe hD0
  have hl := lv_entry ([.ref (c 104), .int p0]) (n := 2) (Nat.le_of_ble_eq_true rfl)
  rw [lg_entry_eq]
  generalize (lg_sl ([.ref (c 104), .int p0]) ++ List.replicate (2 - (lg_sl ([.ref (c 104), .int p0])).length) Slot.unset).toArray = ls at hl ⊢
  have hl : lv_has ls 2 [(0, .ref (c 104)), (1, .int p0)] := hl
  have z_m91 : (-91 : Int32).toInt = -91 := by decide
  have z_0 : (0 : Int32).toInt = 0 := by decide
  have z_31 : (31 : Int32).toInt = 31 := by decide
  have z_32 : (32 : Int32).toInt = 32 := by decide
  have hin_X1 : ∀ w ∈ u_ws RX1 TX1 7, w ∈ wsX4_drawCopy := by decide +kernel
  have hin_X4 : ∀ w ∈ u_ws RX4 TX4 6, w ∈ wsX4_drawCopy := by decide +kernel
  have main : ∀ (H : Heap) (locs : List Loc), va_P (dC, dI) vwCl (cw_W c kc st lg ai al R) H → va_S A s.heap H locs → W p l e (headSpec wsX4_drawCopy ({ frames := 1, cells := 0, slots := 0, locals := 60 })).room s m ([.ref (c 104), .int p0] : List Value).toArray below meth cM H locs 0 0 (MQ below (va_Qv (fun (_ : Unit) => True) (fun _ t => ∃ (f14 : Nat → Int32), va_P (dC, dI) vwCl (cw_W c kc st lg (rU ai 14 f14) al R) t.heap) A) ([.ref (c 104), .int p0] : List Value).toArray s 0 0 A) (F0 m 0 ls []) := by
    intro H locs hP hS
    refine lv_aload_n hx hb dX4_drawCopy_0 rfl (lv_at hl 0 rfl) ?_
    refine va_get (D := (dC, dI)) (ci := 6) (v := .ref (c 102)) (C := RX4) (T := TX4) (N := 6) hx hb hts hin_X4 hown hK hP 4 rfl rfl 0 (by decide) (hts (.fieldLink RX4 9 "BlockLog$Rows" "disk" "LBlockLog$Disk;") (by decide +kernel)) (fun _ h9 => h9) rfl dX4_drawCopy_1 ?_
    refine va_getN (D := (dC, dI)) (ci := 3) (v := .ref (c 7)) (C := RX1) (T := TX1) (N := 7) hx hb hts hin_X1 hown hK hP 2 rfl rfl 1 (by decide) (va_Nw.use rfl (hGW.1 ("BlockLog$Rows", 36, "BlockLog$Disk", "low", "[B", "BlockLog") (by decide +kernel))) (fun _ h9 => h9) rfl dX4_drawCopy_4 ?_
    refine lv_aload_n hx hb dX4_drawCopy_7 rfl (lv_at hl 0 rfl) ?_
    refine lv_iload_n hx hb dX4_drawCopy_8 rfl (lv_at hl 1 rfl) ?_
    refine vp_callSi (va_Run.run (va_runV (As := [.int p0]) (rest := [.ref (c 7)]) ⟨hx, hb, hml, hown, hts⟩ (v_X4_place l dC dI c kc st lg ai al R p0 (show 0 ≤ (st 15).toInt by omega) (show (st 15).toInt ≤ 1 by omega) (by omega) (by omega)) (cwV 1 hts gX4_drawCopy_X4_place rfl rfl rfl (by decide +kernel) ⟨Nat.le_of_ble_eq_true rfl, Nat.le_of_ble_eq_true rfl⟩) ⟨fun a U g mk q => by obtain ⟨q0, qP, qK⟩ := q; exact ⟨q0, qP, va_K.moved (u := U) (U := U.calling g mk a) (Vm.Alike.refl U.vm) qK⟩, va_recv hK hP (ci := 6) (q := (RX4, TX4, 6)) rfl (q0 := 4) rfl, fun U hU hW => ⟨rfl, by rw [hU]; exact hP, va_K.moved hW.alike hK⟩⟩ rfl rfl hl.1 rfl (lv_room (Nat.le_of_ble_eq_true rfl)) dX4_drawCopy_9 ⟨Nat.le_of_ble_eq_true rfl, Nat.le_of_ble_eq_true rfl⟩)) (fun r_1 er_1 => ?_)
    have k_2 := er_1
    have k_2 : r_1.toInt = 32 + 4096 * (st 15).toInt + 32 * p0.toInt := k_2
    refine lv_aload_n hx hb dX4_drawCopy_12 rfl (lv_at hl 0 rfl) ?_
    refine va_get (D := (dC, dI)) (ci := 6) (v := .ref (c 14)) (C := RX4) (T := TX4) (N := 6) hx hb hts hin_X4 hown hK hP 4 rfl rfl 1 (by decide) (hts (.fieldLink RX4 15 "BlockLog$Rows" "image" "[B") (by decide +kernel)) (fun _ h9 => h9) rfl dX4_drawCopy_13 ?_
    refine lv_iconst (v := 0) hx hb dX4_drawCopy_16 (by decide) ?_
    refine lv_bipush (v := 32) hx hb dX4_drawCopy_17 (by decide) ?_
    refine va_copyi (f := ai 7) (g := ai 14) hx hb (hml.trans hl.1.symm) hown (hts (.methodLink RX4 41 arraycopyName) (by decide +kernel)) (hts (.native arraycopyName) (by decide +kernel)) (hts (.static arraycopyName) (by decide +kernel)) (hts (.initialized "java/lang/System") (by decide +kernel)) hK hP (cw_D hD) hS 12 14 4 6 rfl rfl rfl rfl rfl (cp_n (by omega)) (cp_n (by omega)) (cp_n (by omega)) (cp_l (by omega) (by omega) (by omega)) (cp_l (by omega) (by omega) (by omega)) (cp_fit hR7 (by omega) (by omega) (by omega)) (Nat.le_of_ble_eq_true rfl) (by decide +kernel) dX4_drawCopy_19 (fun H locs hP _ hS => ?_)
    have hP : va_P (dC, dI) vwCl (cw_W c kc st lg (rU ai 14 (va_cpy (ai 7) (ai 14) r_1.toNatClampNeg (0 : Int32).toNatClampNeg (32 : Int32).toNatClampNeg)) al R) H := cw_a14 hP
    generalize hU_rows_image : va_cpy (ai 7) (ai 14) r_1.toNatClampNeg (0 : Int32).toNatClampNeg (32 : Int32).toNatClampNeg = g_3 at hP
    clear hU_rows_image
    refine lv_aload_n hx hb dX4_drawCopy_22 rfl (lv_at hl 0 rfl) ?_
    refine va_get (D := (dC, dI)) (ci := 6) (v := .ref (c 14)) (C := RX4) (T := TX4) (N := 6) hx hb hts hin_X4 hown hK hP 4 rfl rfl 1 (by decide) (hts (.fieldLink RX4 15 "BlockLog$Rows" "image" "[B") (by decide +kernel)) (fun _ h9 => h9) rfl dX4_drawCopy_23 ?_
    refine lv_bipush (v := 31) hx hb dX4_drawCopy_26 (by decide) ?_
    refine lv_bipush (v := (-91)) hx hb dX4_drawCopy_28 (by decide) ?_
    refine va_bast (f := g_3) hx hb hK hP (cw_D hD) hS 14 6 rfl rfl (iv_in (i := (31 : Int32)) (by omega) (by omega)) dX4_drawCopy_30 (fun H locs hP _ hS => ?_)
    have hP : va_P (dC, dI) vwCl (cw_W c kc st lg (rU ai 14 (upd g_3 (31 : Int32).toNatClampNeg (vp_nar .byte (-91 : Int32)))) al R) H := cw_b14 hP
    generalize hU_rows_image : upd g_3 (31 : Int32).toNatClampNeg (vp_nar .byte (-91 : Int32)) = g_4 at hP
    clear hU_rows_image
    exact W.vret hx hb hr (fun t ht hW => ⟨⟨(), rfl, trivial, g_4, by rw [ht]; exact hP⟩, hS.F ht⟩) hS.2.2 dX4_drawCopy_31
  exact main s.heap [] hP hS
