set_option maxHeartbeats 4000000 in
set_option maxRecDepth 100000 in
theorem v_X9_more (l : Launch) (dC : Nat → ClassId) (dI : Nat → Nat → Nat) (p0 : Int64) (p1 : Int32)  : Met l yX9_more wsX9_more ({ frames := 0, cells := 0, slots := 0, locals := 0 }) (va_Pc [.long p0, .int p1] (fun U => True)) (vp_Sl (fun r => (r = pm p0 p1))) 0 0 (fun _ => False) := by
  refine Met.ofW (cc := cX9_more) (maxL := 5) (ret := (some .long)) (by decide) rfl ?_
  intro p e s m args below meth c s₁ B hml hv
  obtain ⟨rfl, -⟩ := hv
  have hx := B.exec
  have hb := B.bytes
  have hr := B.returns
  have hts := atoms_spec (ws := wsX9_more) B.pre
  have hown : s.vm.findClass RX9 = some m.cls := findClass_of_methodNamed B.named
  have hl := lv_entry ([.long p0, .int p1]) (n := 5) (Nat.le_of_ble_eq_true rfl)
  rw [lg_entry_eq]
  generalize (lg_sl ([.long p0, .int p1]) ++ List.replicate (5 - (lg_sl ([.long p0, .int p1])).length) Slot.unset).toArray = ls at hl ⊢
  have hl : lv_has ls 5 [(0, .long p0), (2, .int p1)] := hl
  have z_21 : (21 : Int32).toInt = 21 := by decide
  have z_43 : (43 : Int32).toInt = 43 := by decide
  refine lv_lload_n hx hb dX9_more_0 rfl (lv_at hl 0 rfl) ?_
  refine lv_iload_n hx hb dX9_more_1 rfl (lv_at hl 1 rfl) ?_
  refine lv_i2l hx hb dX9_more_2 rfl ?_
  refine lv_topl (fun w_1 ew_1 => ?_)
  refine lv_lxor hx hb dX9_more_3 ?_
  refine lv_topl (fun w_2 ew_2 => ?_)
  refine lv_lstore_n (lv' := [(3, .long w_2), (0, .long p0), (2, .int p1)]) hx hb dX9_more_4 rfl hl (by decide) rfl (fun ls hl => ?_)
  refine lv_lload_n hx hb dX9_more_5 rfl (lv_at hl 0 rfl) ?_
  refine lv_bipush (v := 21) hx hb dX9_more_6 (by decide) ?_
  refine lv_lshl hx hb dX9_more_8 rfl ?_
  refine lv_topl (fun w_3 ew_3 => ?_)
  refine lv_lload_n hx hb dX9_more_9 rfl (lv_at hl 0 rfl) ?_
  refine lv_bipush (v := 43) hx hb dX9_more_10 (by decide) ?_
  refine lv_lushr hx hb dX9_more_12 rfl ?_
  refine lv_topl (fun w_4 ew_4 => ?_)
  refine lv_lor hx hb dX9_more_13 ?_
  refine lv_topl (fun w_5 ew_5 => ?_)
  refine lv_ldc2 hx hb hown (hts (.constantLong RX9 100 (-4417276706812531889)) (by decide +kernel)) dX9_more_14 ?_
  refine lv_lmul hx hb dX9_more_17 ?_
  refine lv_topl (fun w_6 ew_6 => ?_)
  exact W.lret hx hb hr (fun t ht hW => ⟨_, rfl, (by subst_vars; rfl), ht⟩) (fun q h => by cases h) dX9_more_18

set_option maxHeartbeats 4000000 in
set_option maxRecDepth 100000 in
theorem v_X9_within (l : Launch) (dC : Nat → ClassId) (dI : Nat → Nat → Nat) (p0 : Int32) (p1 : Int32) (p2 : Int32)  : Met l yX9_within wsX9_within ({ frames := 0, cells := 0, slots := 0, locals := 0 }) (va_Pc [.int p0, .int p1, .int p2] (fun U => True)) (vp_Si (fun r => (r.toInt = 1 → p1.toInt ≤ p0.toInt) ∧ (r.toInt = 1 → p0.toInt ≤ p2.toInt) ∧ ((p1.toInt ≤ p0.toInt ∧ p0.toInt ≤ p2.toInt) → r.toInt = 1) ∧ (0 ≤ r.toInt) ∧ (r.toInt ≤ 1))) 0 0 (fun _ => False) := by
  refine Met.ofW (cc := cX9_within) (maxL := 3) (ret := (some .boolean)) (by decide) rfl ?_
  intro p e s m args below meth c s₁ B hml hv
  obtain ⟨rfl, -⟩ := hv
  have hx := B.exec
  have hb := B.bytes
  have hr := B.returns
  have hts := atoms_spec (ws := wsX9_within) B.pre
  have hown : s.vm.findClass RX9 = some m.cls := findClass_of_methodNamed B.named
  have hl := lv_entry ([.int p0, .int p1, .int p2]) (n := 3) (Nat.le_of_ble_eq_true rfl)
  rw [lg_entry_eq]
  generalize (lg_sl ([.int p0, .int p1, .int p2]) ++ List.replicate (3 - (lg_sl ([.int p0, .int p1, .int p2])).length) Slot.unset).toArray = ls at hl ⊢
  have hl : lv_has ls 3 [(0, .int p0), (1, .int p1), (2, .int p2)] := hl
  have z_0 : (0 : Int32).toInt = 0 := by decide
  have z_1 : (1 : Int32).toInt = 1 := by decide
  refine lv_iload_n hx hb dX9_within_0 rfl (lv_at hl 0 rfl) ?_
  refine lv_iload_n hx hb dX9_within_1 rfl (lv_at hl 1 rfl) ?_
  refine lv_icmp_lt (tgt := 14) hx hb dX9_within_2 (by decide) (fun c_1 => ?_) (fun c_1 => ?_)
  · skip
    have ic_1 := iv_lt c_1
    refine lv_iconst (v := 0) hx hb dX9_within_14 (by decide) ?_
    exact W.zret hx hb hr rfl (fun t ht hW => ⟨_, rfl, ⟨(by omega), (by omega), (by omega), (by omega), (by omega)⟩, ht⟩) (fun q h => by cases h) dX9_within_15
  · skip
    have ic_1 := iv_nlt c_1
    refine lv_iload_n hx hb dX9_within_5 rfl (lv_at hl 0 rfl) ?_
    refine lv_iload_n hx hb dX9_within_6 rfl (lv_at hl 2 rfl) ?_
    refine lv_icmp_gt (tgt := 14) hx hb dX9_within_7 (by decide) (fun c_2 => ?_) (fun c_2 => ?_)
    · skip
      have ic_2 := iv_lt c_2
      refine lv_iconst (v := 0) hx hb dX9_within_14 (by decide) ?_
      exact W.zret hx hb hr rfl (fun t ht hW => ⟨_, rfl, ⟨(by omega), (by omega), (by omega), (by omega), (by omega)⟩, ht⟩) (fun q h => by cases h) dX9_within_15
    · skip
      have ic_2 := iv_nlt c_2
      refine lv_iconst (v := 1) hx hb dX9_within_10 (by decide) ?_
      refine lv_goto (tgt := 15) hx hb dX9_within_11 (by decide) ?_
      exact W.zret hx hb hr rfl (fun t ht hW => ⟨_, rfl, ⟨(by omega), (by omega), (by omega), (by omega), (by omega)⟩, ht⟩) (fun q h => by cases h) dX9_within_15

set_option maxHeartbeats 4000000 in
set_option maxRecDepth 100000 in
theorem v_X9_set (l : Launch) (dC : Nat → ClassId) (dI : Nat → Nat → Nat) (o : Nat) (c : Nat → Nat) (kc : Nat → ClassId) (st : Nat → Int32) (lg : Nat → Int64) (ai : Nat → Nat → Int32) (al : Nat → Nat → Int64) (p0 : Int32) (p1 : Int32) (sz : Nat) (hq0 : 0 ≤ p0.toInt) (hq1 : p0.toInt < 1712160) : Met l yX9_set wsX9_set ({ frames := 0, cells := 0, slots := 0, locals := 0 }) (va_Pc [.ref o, .int p0, .int p1] (fun U => U.heap.size = sz ∧ va_P (dC, dI) vwCl (rw_W o c kc st lg ai al) U.heap ∧ va_K (dC, dI) vwCl (rw_T kc) U ∧ va_D (fun _ => True) (rw_W o c kc st lg ai al))) (va_Qv (fun (_ : Unit) => True) (fun _ t => ∃ (f0 : Nat → Int32), va_P (dC, dI) vwCl (rw_W o c kc st lg (rU ai 0 f0) al) t.heap) (va_A (rw_W o c kc st lg ai al) sz)) 0 0 (va_A (rw_W o c kc st lg ai al) sz) := by
  refine Met.ofW (cc := cX9_set) (maxL := 4) (ret := none) (by decide) rfl ?_
  intro p e s m args below meth cM s₁ B hml hv
  obtain ⟨rfl, hsz, hP, hK, hD0⟩ := hv
  have hx := B.exec
  have hb := B.bytes
  have hr := B.returns
  have hts := atoms_spec (ws := wsX9_set) B.pre
  have hown : s.vm.findClass RX9 = some m.cls := findClass_of_methodNamed B.named
  subst hsz
  have hD := hD0.self (sz := s.heap.size)
  generalize hAe : va_A (rw_W o c kc st lg ai al) s.heap.size = A at hD ⊢
  have hA : ∀ q : Nat, s.heap.size ≤ q → A q := fun q h => by rw [← hAe]; exact Or.inr h
  have hS : va_S A s.heap s.heap [] := va_S.rf
  clear hAe hD0
  have hl := lv_entry ([.ref o, .int p0, .int p1]) (n := 4) (Nat.le_of_ble_eq_true rfl)
  rw [lg_entry_eq]
  generalize (lg_sl ([.ref o, .int p0, .int p1]) ++ List.replicate (4 - (lg_sl ([.ref o, .int p0, .int p1])).length) Slot.unset).toArray = ls at hl ⊢
  have hl : lv_has ls 4 [(0, .ref o), (1, .int p0), (2, .int p1)] := hl
  have z_m1 : (-1 : Int32).toInt = -1 := by decide
  have z_2 : (2 : Int32).toInt = 2 := by decide
  have z_3 : (3 : Int32).toInt = 3 := by decide
  have z_8 : (8 : Int32).toInt = 8 := by decide
  have z_255 : (255 : Int32).toInt = 255 := by decide
  have hin9 : ∀ w ∈ u_ws RX9 TX9 38, w ∈ wsX9_set := by decide +kernel
  have main : ∀ (H : Heap) (locs : List Loc), va_P (dC, dI) vwCl (rw_W o c kc st lg ai al) H → va_S A s.heap H locs → W p l e (headSpec wsX9_set ({ frames := 0, cells := 0, slots := 0, locals := 0 })).room s m ([.ref o, .int p0, .int p1] : List Value).toArray below meth cM H locs 0 0 (MQ below (va_Qv (fun (_ : Unit) => True) (fun _ t => ∃ (f0 : Nat → Int32), va_P (dC, dI) vwCl (rw_W o c kc st lg (rU ai 0 f0) al) t.heap) A) ([.ref o, .int p0, .int p1] : List Value).toArray s 0 0 A) (F0 m 0 ls []) := by
    intro H locs hP hS
    refine lv_bipush (v := 8) hx hb dX9_set_0 (by decide) ?_
    refine lv_iload_n hx hb dX9_set_2 rfl (lv_at hl 1 rfl) ?_
    refine lv_iconst (v := 3) hx hb dX9_set_3 (by decide) ?_
    refine lv_iand hx hb dX9_set_4 ?_
    refine lv_topi (fun v_1 ev_1 => ?_)
    clear ev_1
    refine lv_imul hx hb dX9_set_5 ?_
    refine lv_topi (fun v_2 ev_2 => ?_)
    clear ev_2
    refine lv_istore_n (lv' := [(3, .int v_2), (0, .ref o), (1, .int p0), (2, .int p1)]) hx hb dX9_set_6 rfl hl (by decide) rfl (fun ls hl => ?_)
    refine lv_aload_n hx hb dX9_set_7 rfl (lv_at hl 1 rfl) ?_
    refine va_get (D := (dC, dI)) (ci := 11) (v := .ref (c 0)) (C := RX9) (T := TX9) (N := 38) hx hb hts hin9 hown hK hP 0 rfl rfl 0 (by decide) (hts (.fieldLink RX9 8 "BlockLogModel" "disk" "[I") (by decide +kernel)) (fun _ h9 => h9) rfl dX9_set_8 ?_
    refine lv_iload_n hx hb dX9_set_11 rfl (lv_at hl 2 rfl) ?_
    refine lv_iconst (v := 2) hx hb dX9_set_12 (by decide) ?_
    refine lv_ishr hx hb dX9_set_13 ?_
    refine lv_topi (fun v_3 ev_3 => ?_)
    have hv_3 : v_3.toInt = p0.toInt / 4 := by rw [ev_3]; exact iv_shr2 _
    clear ev_3
    refine lv_aload_n hx hb dX9_set_14 rfl (lv_at hl 1 rfl) ?_
    refine va_get (D := (dC, dI)) (ci := 11) (v := .ref (c 0)) (C := RX9) (T := TX9) (N := 38) hx hb hts hin9 hown hK hP 0 rfl rfl 0 (by decide) (hts (.fieldLink RX9 8 "BlockLogModel" "disk" "[I") (by decide +kernel)) (fun _ h9 => h9) rfl dX9_set_15 ?_
    refine lv_iload_n hx hb dX9_set_18 rfl (lv_at hl 2 rfl) ?_
    refine lv_iconst (v := 2) hx hb dX9_set_19 (by decide) ?_
    refine lv_ishr hx hb dX9_set_20 ?_
    refine lv_topi (fun v_4 ev_4 => ?_)
    have hv_4 : v_4.toInt = p0.toInt / 4 := by rw [ev_4]; exact iv_shr2 _
    clear ev_4
    refine va_iald (f := ai 0) hx hb hK hP 1 0 rfl rfl (iv_in (i := v_4) (by omega) (by omega)) dX9_set_21 ?_
    refine lv_topi (fun v_5 ev_5 => ?_)
    clear ev_5
    refine lv_sipush (v := 255) hx hb dX9_set_22 (by decide) ?_
    refine lv_iload_n hx hb dX9_set_25 rfl (lv_at hl 0 rfl) ?_
    refine lv_ishl hx hb dX9_set_26 ?_
    refine lv_topi (fun v_6 ev_6 => ?_)
    clear ev_6
    refine lv_iconst (v := (-1)) hx hb dX9_set_27 (by decide) ?_
    refine lv_ixor hx hb dX9_set_28 ?_
    refine lv_topi (fun v_7 ev_7 => ?_)
    clear ev_7
    refine lv_iand hx hb dX9_set_29 ?_
    refine lv_topi (fun v_8 ev_8 => ?_)
    clear ev_8
    refine lv_iload_n hx hb dX9_set_30 rfl (lv_at hl 3 rfl) ?_
    refine lv_iload_n hx hb dX9_set_31 rfl (lv_at hl 0 rfl) ?_
    refine lv_ishl hx hb dX9_set_32 ?_
    refine lv_topi (fun v_9 ev_9 => ?_)
    clear ev_9
    refine lv_ior hx hb dX9_set_33 ?_
    refine lv_topi (fun v_10 ev_10 => ?_)
    clear ev_10
    refine va_iast (f := ai 0) hx hb hK hP (rw_D hD) hS 1 0 rfl rfl (iv_in (i := v_3) (by omega) (by omega)) dX9_set_34 (fun H locs hP _ hS => ?_)
    have hP : va_P (dC, dI) vwCl (rw_W o c kc st lg (rU ai 0 (upd (ai 0) v_3.toNatClampNeg v_10)) al) H := hP
    generalize hU_disk : upd (ai 0) v_3.toNatClampNeg v_10 = g_11 at hP
    clear hU_disk
    exact W.vret hx hb hr (fun t ht hW => ⟨⟨(), rfl, trivial, g_11, by rw [ht]; exact hP⟩, hS.F ht⟩) hS.2.2 dX9_set_35
  exact main s.heap [] hP hS

set_option maxHeartbeats 4000000 in
set_option maxRecDepth 100000 in
theorem v_X9_sumOf (l : Launch) (dC : Nat → ClassId) (dI : Nat → Nat → Nat) (o : Nat) (c : Nat → Nat) (kc : Nat → ClassId) (st : Nat → Int32) (lg : Nat → Int64) (ai : Nat → Nat → Int32) (al : Nat → Nat → Int64) (p0 : Int32) (p1 : Int32) (p2 : Int32) (hq0 : 0 ≤ p1.toInt) (hq1 : 0 ≤ p2.toInt) (hq2 : p2.toInt ≤ 64) (hq3 : p1.toInt + p2.toInt ≤ 1712160) : Met l yX9_sumOf wsX9_sumOf ({ frames := 1, cells := 0, slots := 0, locals := 24 }) (va_Pc [.ref o, .int p0, .int p1, .int p2] (fun U => va_P (dC, dI) vwCl (rw_W o c kc st lg ai al) U.heap ∧ va_K (dC, dI) vwCl (rw_T kc) U)) (vp_Sl (fun r => (r = sF (ai 0) p0 p1 p2.toInt.toNat))) 0 0 (fun _ => False) := by
  refine Met.ofW (cc := cX9_sumOf) (maxL := 7) (ret := (some .long)) (by decide) rfl ?_
  intro p e s m args below meth cM s₁ B hml hv
  obtain ⟨rfl, hP, hK⟩ := hv
  have hx := B.exec
  have hb := B.bytes
  have hr := B.returns
  have hts := atoms_spec (ws := wsX9_sumOf) B.pre
  have hown : s.vm.findClass RX9 = some m.cls := findClass_of_methodNamed B.named
  have hl := lv_entry ([.ref o, .int p0, .int p1, .int p2]) (n := 7) (Nat.le_of_ble_eq_true rfl)
  rw [lg_entry_eq]
  generalize (lg_sl ([.ref o, .int p0, .int p1, .int p2]) ++ List.replicate (7 - (lg_sl ([.ref o, .int p0, .int p1, .int p2])).length) Slot.unset).toArray = ls at hl ⊢
  have hl : lv_has ls 7 [(0, .ref o), (1, .int p0), (2, .int p1), (3, .int p2)] := hl
  have z_0 : (0 : Int32).toInt = 0 := by decide
  have z_1 : (1 : Int32).toInt = 1 := by decide
  refine lv_ldc2 hx hb hown (hts (.constantLong RX9 102 (1000003)) (by decide +kernel)) dX9_sumOf_0 ?_
  refine lv_iload_n hx hb dX9_sumOf_3 rfl (lv_at hl 1 rfl) ?_
  refine lv_i2l hx hb dX9_sumOf_4 rfl ?_
  refine lv_topl (fun w_1 ew_1 => ?_)
  refine lv_lmul hx hb dX9_sumOf_5 ?_
  refine lv_topl (fun w_2 ew_2 => ?_)
  refine lv_lstore (lv' := [(4, .long w_2), (0, .ref o), (1, .int p0), (2, .int p1), (3, .int p2)]) hx hb dX9_sumOf_6 hl (by decide) rfl (fun ls hl => ?_)
  refine lv_iconst (v := 0) hx hb dX9_sumOf_8 (by decide) ?_
  refine lv_istore (lv' := [(6, .int (0 : Int32)), (4, .long w_2), (0, .ref o), (1, .int p0), (2, .int p1), (3, .int p2)]) hx hb dX9_sumOf_9 hl (by decide) rfl (fun ls hl => ?_)
  have loop11 : ∀ (n : Nat) (l6_11 : Int32) (l4_11 : Int64) (ls : Array Slot), (0 ≤ l6_11.toInt) → (l6_11.toInt ≤ p2.toInt) → (l4_11 = sF (ai 0) p0 p1 l6_11.toInt.toNat) → (p2.toInt - l6_11.toInt : Int).toNat < n → lv_has ls 7 [(6, .int l6_11), (4, .long l4_11), (0, .ref o), (1, .int p0), (2, .int p1), (3, .int p2)] → W p l e (headSpec wsX9_sumOf ({ frames := 1, cells := 0, slots := 0, locals := 24 })).room s m ([.ref o, .int p0, .int p1, .int p2] : List Value).toArray below meth cM s.heap [] 0 0 (MQ below (vp_Sl (fun r => (r = sF (ai 0) p0 p1 p2.toInt.toNat))) ([.ref o, .int p0, .int p1, .int p2] : List Value).toArray s 0 0 (fun _ => False)) (F0 m 11 ls []) := by
    intro n
    induction n with
    | zero => intro l6_11 l4_11 ls if0_11 if1_11 hs hm; exact absurd hm (Nat.not_lt_zero _)
    | succ n ih11 =>
      intro l6_11 l4_11 ls if0_11 if1_11 hs hm11 hl
      refine lv_iload hx hb dX9_sumOf_11 (lv_at hl 0 rfl) ?_
      refine lv_iload_n hx hb dX9_sumOf_13 rfl (lv_at hl 5 rfl) ?_
      refine lv_icmp_ge (tgt := 38) hx hb dX9_sumOf_14 (by decide) (fun c_3 => ?_) (fun c_3 => ?_)
      · skip
        have ic_3 := iv_le c_3
        refine lv_lload hx hb dX9_sumOf_38 (lv_at hl 1 rfl) ?_
        exact W.lret hx hb hr (fun t ht hW => ⟨_, rfl, (by rw [hs, show l6_11 = p2 from Int32.toInt_inj.mp (by omega)]), ht⟩) (fun q h => by cases h) dX9_sumOf_40
      · skip
        have ic_3 := iv_nle c_3
        refine lv_lload hx hb dX9_sumOf_17 (lv_at hl 1 rfl) ?_
        refine lv_aload_n hx hb dX9_sumOf_19 rfl (lv_at hl 2 rfl) ?_
        refine lv_iload_n hx hb dX9_sumOf_20 rfl (lv_at hl 4 rfl) ?_
        refine lv_iload hx hb dX9_sumOf_21 (lv_at hl 0 rfl) ?_
        refine lv_iadd hx hb dX9_sumOf_23 ?_
        refine lv_topi (fun v_4 ev_4 => ?_)
        have rg1 := iv_rng p1
        have rg2 := iv_rng l6_11
        have hv_4 : v_4.toInt = p1.toInt + l6_11.toInt := by rw [ev_4]; exact (iv_add (by omega) (by omega)).trans (by omega)
        have hkv : v_4.toInt = p1.toInt + l6_11.toInt := by omega
        refine vp_callSi (va_Run.run (va_runV (As := [.int v_4]) (rest := [.long l4_11]) ⟨hx, hb, hml, hown, hts⟩ (v_X9_byteIn l dC dI o c kc st lg ai al v_4 (by omega) (by omega)) (cwV 1 hts gX9_sumOf_X9_byteIn rfl rfl rfl (by decide +kernel) ⟨Nat.le_of_ble_eq_true rfl, Nat.le_of_ble_eq_true rfl⟩) ⟨fun a U g mk q => by obtain ⟨q0, qP, qK⟩ := q; exact ⟨q0, qP, va_K.moved (u := U) (U := U.calling g mk a) (Vm.Alike.refl U.vm) qK⟩, va_recv hK hP (ci := 11) (q := (RX9, TX9, 38)) rfl (q0 := 0) rfl, fun U hU hW => ⟨rfl, by rw [hU]; exact hP, va_K.moved hW.alike hK⟩⟩ rfl rfl hl.1 rfl (lv_room (Nat.le_of_ble_eq_true rfl)) dX9_sumOf_24 ⟨Nat.le_of_ble_eq_true rfl, Nat.le_of_ble_eq_true rfl⟩)) (fun r_5 er_5 => ?_)
        obtain ⟨k_6, k_7, k_8⟩ := er_5
        have k_6 : r_5.toInt = (md_get (ai 0) v_4).toInt := k_6
        refine vp_callSl (va_Run.run (va_runS (As := [.long l4_11, .int r_5]) (rest := []) ⟨hx, hb, hml, hown, hts⟩ (v_X9_more l dC dI l4_11 r_5 ) (va_cwS 2 hts gX9_sumOf_X9_more rfl rfl rfl (by decide +kernel) ⟨Nat.le_of_ble_eq_true rfl, Nat.le_of_ble_eq_true rfl⟩) ⟨fun a U g mk q => q, fun U hU hW => ⟨rfl, trivial⟩⟩ rfl rfl hl.1 rfl (lv_room (Nat.le_of_ble_eq_true rfl)) dX9_sumOf_27 ⟨Nat.le_of_ble_eq_true rfl, Nat.le_of_ble_eq_true rfl⟩)) (fun r_9 er_9 => ?_)
        have hm := er_9
        have hm : r_9 = pm l4_11 r_5 := hm
        refine lv_lstore (lv' := [(4, .long r_9), (6, .int l6_11), (0, .ref o), (1, .int p0), (2, .int p1), (3, .int p2)]) hx hb dX9_sumOf_30 hl (by decide) rfl (fun ls hl => ?_)
        obtain ⟨x_10, ex_10⟩ : ∃ z : Int32, z = l6_11 + (1) := ⟨_, rfl⟩
        refine lv_iinc (v := x_10) (lv' := [(6, .int x_10), (4, .long r_9), (0, .ref o), (1, .int p0), (2, .int p1), (3, .int p2)]) hx hb dX9_sumOf_32 hl (k := 1) rfl (by rw [ex_10]; rfl) (by decide) rfl (fun ls hl => ?_)
        have hx_10 : x_10.toInt = l6_11.toInt + (1) := by rw [ex_10]; exact (iv_add (by omega) (by omega)).trans (by omega)
        clear ex_10
        refine lv_goto (tgt := 11) hx hb dX9_sumOf_35 (by decide) ?_
        exact ih11 x_10 r_9 _ (by omega) (by omega) (sF_s hs hm hkv (by omega) (by omega) (by omega)) (by omega) (lv_sub hl [0, 1, 2, 3, 4, 5] rfl)
  exact loop11 ((p2.toInt - 0 : Int).toNat + 1) (0 : Int32) w_2 _ (by omega) (by omega) (by rw [sF_0 (by omega)]; subst_vars; rfl) (by omega) (lv_sub hl [0, 1, 2, 3, 4, 5] rfl)

set_option maxHeartbeats 4000000 in
set_option maxRecDepth 100000 in
theorem v_X9_bytesOf (l : Launch) (dC : Nat → ClassId) (dI : Nat → Nat → Nat) (o : Nat) (c : Nat → Nat) (kc : Nat → ClassId) (st : Nat → Int32) (lg : Nat → Int64) (ai : Nat → Nat → Int32) (al : Nat → Nat → Int64) (p0 : Int32) (p1 : Int64) (p2 : Int32) (sz : Nat) (hq0 : 0 ≤ p0.toInt) (hq1 : 0 ≤ p2.toInt) (hq2 : p2.toInt ≤ 8) (hq3 : p0.toInt + p2.toInt ≤ 1712160) : Met l yX9_bytesOf wsX9_bytesOf ({ frames := 1, cells := 0, slots := 0, locals := 23 }) (va_Pc [.ref o, .int p0, .long p1, .int p2] (fun U => U.heap.size = sz ∧ va_P (dC, dI) vwCl (rw_W o c kc st lg ai al) U.heap ∧ va_K (dC, dI) vwCl (rw_T kc) U ∧ va_D (fun _ => True) (rw_W o c kc st lg ai al))) (va_Qv (fun (_ : Unit) => True) (fun _ t => ∃ (f0 : Nat → Int32), va_P (dC, dI) vwCl (rw_W o c kc st lg (rU ai 0 f0) al) t.heap) (va_A (rw_W o c kc st lg ai al) sz)) 0 0 (va_A (rw_W o c kc st lg ai al) sz) := by
  refine Met.ofW (cc := cX9_bytesOf) (maxL := 6) (ret := none) (by decide) rfl ?_
  intro p e s m args below meth cM s₁ B hml hv
  obtain ⟨rfl, hsz, hP, hK, hD0⟩ := hv
  have hx := B.exec
  have hb := B.bytes
  have hr := B.returns
  have hts := atoms_spec (ws := wsX9_bytesOf) B.pre
  have hown : s.vm.findClass RX9 = some m.cls := findClass_of_methodNamed B.named
  subst hsz
  have hD := hD0.self (sz := s.heap.size)
  generalize hAe : va_A (rw_W o c kc st lg ai al) s.heap.size = A at hD ⊢
  have hA : ∀ q : Nat, s.heap.size ≤ q → A q := fun q h => by rw [← hAe]; exact Or.inr h
  have hS : va_S A s.heap s.heap [] := va_S.rf
  clear hAe hD0
  have hl := lv_entry ([.ref o, .int p0, .long p1, .int p2]) (n := 6) (Nat.le_of_ble_eq_true rfl)
  rw [lg_entry_eq]
  generalize (lg_sl ([.ref o, .int p0, .long p1, .int p2]) ++ List.replicate (6 - (lg_sl ([.ref o, .int p0, .long p1, .int p2])).length) Slot.unset).toArray = ls at hl ⊢
  have hl : lv_has ls 6 [(0, .ref o), (1, .int p0), (2, .long p1), (4, .int p2)] := hl
  have z_0 : (0 : Int32).toInt = 0 := by decide
  have z_1 : (1 : Int32).toInt = 1 := by decide
  have z_8 : (8 : Int32).toInt = 8 := by decide
  have main : ∀ (H : Heap) (locs : List Loc), va_P (dC, dI) vwCl (rw_W o c kc st lg ai al) H → va_S A s.heap H locs → W p l e (headSpec wsX9_bytesOf ({ frames := 1, cells := 0, slots := 0, locals := 23 })).room s m ([.ref o, .int p0, .long p1, .int p2] : List Value).toArray below meth cM H locs 0 0 (MQ below (va_Qv (fun (_ : Unit) => True) (fun _ t => ∃ (f0 : Nat → Int32), va_P (dC, dI) vwCl (rw_W o c kc st lg (rU ai 0 f0) al) t.heap) A) ([.ref o, .int p0, .long p1, .int p2] : List Value).toArray s 0 0 A) (F0 m 0 ls []) := by
    intro H locs hP hS
    refine lv_iconst (v := 0) hx hb dX9_bytesOf_0 (by decide) ?_
    refine lv_istore (lv' := [(5, .int (0 : Int32)), (0, .ref o), (1, .int p0), (2, .long p1), (4, .int p2)]) hx hb dX9_bytesOf_1 hl (by decide) rfl (fun ls hl => ?_)
    have loop3 : ∀ (n : Nat) (l5_3 : Int32) (a0_3 : Nat → Int32) (H : Heap) (locs : List Loc) (ls : Array Slot), (0 ≤ l5_3.toInt) → (l5_3.toInt ≤ p2.toInt) → (p2.toInt - l5_3.toInt : Int).toNat < n → va_P (dC, dI) vwCl (rw_W o c kc st lg (rU ai 0 a0_3) al) H → va_S A s.heap H locs → lv_has ls 6 [(5, .int l5_3), (0, .ref o), (1, .int p0), (2, .long p1), (4, .int p2)] → W p l e (headSpec wsX9_bytesOf ({ frames := 1, cells := 0, slots := 0, locals := 23 })).room s m ([.ref o, .int p0, .long p1, .int p2] : List Value).toArray below meth cM H locs 0 0 (MQ below (va_Qv (fun (_ : Unit) => True) (fun _ t => ∃ (f0 : Nat → Int32), va_P (dC, dI) vwCl (rw_W o c kc st lg (rU ai 0 f0) al) t.heap) A) ([.ref o, .int p0, .long p1, .int p2] : List Value).toArray s 0 0 A) (F0 m 3 ls []) := by
      intro n
      induction n with
      | zero => intro l5_3 a0_3 H locs ls if0_3 if1_3 hm; exact absurd hm (Nat.not_lt_zero _)
      | succ n ih3 =>
        intro l5_3 a0_3 H locs ls if0_3 if1_3 hm3 hP hS hl
        refine lv_iload hx hb dX9_bytesOf_3 (lv_at hl 0 rfl) ?_
        refine lv_iload hx hb dX9_bytesOf_5 (lv_at hl 4 rfl) ?_
        refine lv_icmp_ge (tgt := 41) hx hb dX9_bytesOf_7 (by decide) (fun c_1 => ?_) (fun c_1 => ?_)
        · skip
          have ic_1 := iv_le c_1
          exact W.vret hx hb hr (fun t ht hW => ⟨⟨(), rfl, trivial, a0_3, by rw [ht]; exact hP⟩, hS.F ht⟩) hS.2.2 dX9_bytesOf_41
        · skip
          have ic_1 := iv_nle c_1
          refine lv_aload_n hx hb dX9_bytesOf_10 rfl (lv_at hl 1 rfl) ?_
          refine lv_iload_n hx hb dX9_bytesOf_11 rfl (lv_at hl 2 rfl) ?_
          refine lv_iload hx hb dX9_bytesOf_12 (lv_at hl 0 rfl) ?_
          refine lv_iadd hx hb dX9_bytesOf_14 ?_
          refine lv_topi (fun v_2 ev_2 => ?_)
          have rg1 := iv_rng p0
          have rg2 := iv_rng l5_3
          have hv_2 : v_2.toInt = p0.toInt + l5_3.toInt := by rw [ev_2]; exact (iv_add (by omega) (by omega)).trans (by omega)
          clear ev_2
          refine lv_lload_n hx hb dX9_bytesOf_15 rfl (lv_at hl 3 rfl) ?_
          refine lv_bipush (v := 8) hx hb dX9_bytesOf_16 (by decide) ?_
          refine lv_iload hx hb dX9_bytesOf_18 (lv_at hl 4 rfl) ?_
          refine lv_iconst (v := 1) hx hb dX9_bytesOf_20 (by decide) ?_
          refine lv_isub hx hb dX9_bytesOf_21 ?_
          refine lv_topi (fun v_3 ev_3 => ?_)
          have rg3 := iv_rng p2
          have hv_3 : v_3.toInt = p2.toInt - 1 := by rw [ev_3]; exact (iv_sub (by omega) (by omega)).trans (by omega)
          clear ev_3
          refine lv_iload hx hb dX9_bytesOf_22 (lv_at hl 0 rfl) ?_
          refine lv_isub hx hb dX9_bytesOf_24 ?_
          refine lv_topi (fun v_4 ev_4 => ?_)
          have rg4 := iv_rng v_3
          have hv_4 : v_4.toInt = v_3.toInt - l5_3.toInt := by rw [ev_4]; exact (iv_sub (by omega) (by omega)).trans (by omega)
          clear ev_4
          refine lv_imul hx hb dX9_bytesOf_25 ?_
          refine lv_topi (fun v_5 ev_5 => ?_)
          have rg5 := iv_rng v_4
          have hv_5 : v_5.toInt = 8 * v_4.toInt := by rw [ev_5]; exact (iv_mulc z_8 (by omega) (by omega)).trans (by omega)
          clear ev_5
          refine lv_lushr hx hb dX9_bytesOf_26 rfl ?_
          refine lv_topl (fun w_6 ew_6 => ?_)
          clear ew_6
          refine lv_ldc2 hx hb hown (hts (.constantLong RX9 94 (255)) (by decide +kernel)) dX9_bytesOf_27 ?_
          refine lv_land hx hb dX9_bytesOf_30 ?_
          refine lv_topl (fun w_7 ew_7 => ?_)
          have hw_7 : 0 ≤ w_7.toInt32.toInt ∧ w_7.toInt32.toInt ≤ 255 := by rw [ew_7]; exact l255 _
          clear ew_7
          refine lv_l2i hx hb dX9_bytesOf_31 rfl ?_
          refine lv_topi (fun v_8 ev_8 => ?_)
          have hv_8 : 0 ≤ v_8.toInt ∧ v_8.toInt ≤ 255 := by rw [ev_8]; exact hw_7
          clear ev_8
          have hFc := vfree (rw_D hD : va_D A (rw_W o c kc st lg (rU ai 0 a0_3) al)) hS hA
          refine va_callv (va_runV (As := [.int v_2, .int v_8]) (rest := []) ⟨hx, hb, hml, hown, hts⟩ (v_X9_set l dC dI o c kc st lg (rU ai 0 a0_3) al v_2 v_8 _ (by omega) (by omega)) (cwV 2 hts gX9_bytesOf_X9_set rfl rfl rfl (by decide +kernel) ⟨Nat.le_of_ble_eq_true rfl, Nat.le_of_ble_eq_true rfl⟩) ⟨fun a U g mk q => by obtain ⟨q0, q1, qP, qK, qD⟩ := q; exact ⟨q0, q1, qP, va_K.moved (u := U) (U := U.calling g mk a) (Vm.Alike.refl U.vm) qK, qD⟩, va_recv hK hP (ci := 11) (q := (RX9, TX9, 38)) rfl (q0 := 0) rfl, fun U hU hW => ⟨rfl, by rw [hU], by rw [hU]; exact hP, va_K.moved hW.alike hK, rw_D (hD.weaken (fun _ _ _ _ => trivial))⟩⟩ rfl rfl hl.1 rfl (lv_room (Nat.le_of_ble_eq_true rfl)) dX9_bytesOf_32 ⟨Nat.le_of_ble_eq_true rfl, Nat.le_of_ble_eq_true rfl⟩) hS (fun q _ h => hFc q h) hFc (fun ur_9 t H1 locs ht hvm er_9 hB hz1 hk1 hS => ?_)
          obtain ⟨f0_9, hP1⟩ := hB
          rw [ht] at hP1
          clear hFc hz1 hk1 hvm hP
          subst ht
          have hP := hP1
          clear hP1
          generalize t.heap = H at hP hS ⊢
          have hP : va_P (dC, dI) vwCl (rw_W o c kc st lg (rU ai 0 f0_9) al) H := hP
          obtain ⟨x_10, ex_10⟩ : ∃ z : Int32, z = l5_3 + (1) := ⟨_, rfl⟩
          refine lv_iinc (v := x_10) (lv' := [(5, .int x_10), (0, .ref o), (1, .int p0), (2, .long p1), (4, .int p2)]) hx hb dX9_bytesOf_35 hl (k := 0) rfl (by rw [ex_10]; rfl) (by decide) rfl (fun ls hl => ?_)
          have hx_10 : x_10.toInt = l5_3.toInt + (1) := by rw [ex_10]; exact (iv_add (by omega) (by omega)).trans (by omega)
          clear ex_10
          refine lv_goto (tgt := 3) hx hb dX9_bytesOf_38 (by decide) ?_
          exact ih3 x_10 f0_9 _ _ _ (by omega) (by omega) (by omega) hP hS (lv_sub hl [0, 1, 2, 3, 4] rfl)
    exact loop3 ((p2.toInt - 0 : Int).toNat + 1) (0 : Int32) (ai 0) _ _ _ (by omega) (by omega) (by omega) hP hS (lv_sub hl [0, 1, 2, 3, 4] rfl)
  exact main s.heap [] hP hS

set_option maxHeartbeats 4000000 in
set_option maxRecDepth 100000 in
theorem v_X9_act (l : Launch) (dC : Nat → ClassId) (dI : Nat → Nat → Nat) (o : Nat) (c : Nat → Nat) (kc : Nat → ClassId) (st : Nat → Int32) (lg : Nat → Int64) (ai : Nat → Nat → Int32) (al : Nat → Nat → Int64)  (sz : Nat) (hf3a : 0 ≤ (st 3).toInt) (hf3b : (st 3).toInt ≤ 1) (hf6a : 0 ≤ (st 6).toInt) (hf6b : (st 6).toInt ≤ 1) (hf12a : 0 ≤ (st 12).toInt) (hf12b : (st 12).toInt ≤ 8) : Met l yX9_act wsX9_act ({ frames := 0, cells := 0, slots := 0, locals := 0 }) (va_Pc [.ref o] (fun U => U.heap.size = sz ∧ va_P (dC, dI) vwCl (rw_W o c kc st lg ai al) U.heap ∧ va_K (dC, dI) vwCl (rw_T kc) U ∧ va_D (fun _ => True) (rw_W o c kc st lg ai al))) (va_Qi (fun r (u : Int32) => r = u) (fun u t => ∃ (x3 : Int32) (x4 : Int32) (x5 : Int32) (x6 : Int32) (x12 : Int32), (0 ≤ u.toInt) ∧ (u.toInt ≤ 1) ∧ (0 ≤ x3.toInt) ∧ (x3.toInt ≤ 1) ∧ (0 ≤ x6.toInt) ∧ (x6.toInt ≤ 1) ∧ (0 ≤ x12.toInt) ∧ (x12.toInt ≤ 8) ∧ va_P (dC, dI) vwCl (rw_W o c kc (rU (rU (rU (rU (rU st 3 x3) 4 x4) 5 x5) 6 x6) 12 x12) lg ai al) t.heap) (va_A (rw_W o c kc st lg ai al) sz)) 0 0 (va_A (rw_W o c kc st lg ai al) sz) := by
  refine Met.ofW (cc := cX9_act) (maxL := 1) (ret := (some .boolean)) (by decide) rfl ?_
  intro p e s m args below meth cM s₁ B hml hv
  obtain ⟨rfl, hsz, hP, hK, hD0⟩ := hv
  have hx := B.exec
  have hb := B.bytes
  have hr := B.returns
  have hts := atoms_spec (ws := wsX9_act) B.pre
  have hown : s.vm.findClass RX9 = some m.cls := findClass_of_methodNamed B.named
  subst hsz
  have hD := hD0.self (sz := s.heap.size)
  generalize hAe : va_A (rw_W o c kc st lg ai al) s.heap.size = A at hD ⊢
  have hA : ∀ q : Nat, s.heap.size ≤ q → A q := fun q h => by rw [← hAe]; exact Or.inr h
  have hS : va_S A s.heap s.heap [] := va_S.rf
  clear hAe hD0
  have hl := lv_entry ([.ref o]) (n := 1) (Nat.le_of_ble_eq_true rfl)
  rw [lg_entry_eq]
  generalize (lg_sl ([.ref o]) ++ List.replicate (1 - (lg_sl ([.ref o])).length) Slot.unset).toArray = ls at hl ⊢
  have hl : lv_has ls 1 [(0, .ref o)] := hl
  have z_m1 : (-1 : Int32).toInt = -1 := by decide
  have z_0 : (0 : Int32).toInt = 0 := by decide
  have z_1 : (1 : Int32).toInt = 1 := by decide
  have hin9 : ∀ w ∈ u_ws RX9 TX9 38, w ∈ wsX9_act := by decide +kernel
  have main : ∀ (H : Heap) (locs : List Loc), va_P (dC, dI) vwCl (rw_W o c kc st lg ai al) H → va_S A s.heap H locs → W p l e (headSpec wsX9_act ({ frames := 0, cells := 0, slots := 0, locals := 0 })).room s m ([.ref o] : List Value).toArray below meth cM H locs 0 0 (MQ below (va_Qi (fun r (u : Int32) => r = u) (fun u t => ∃ (x3 : Int32) (x4 : Int32) (x5 : Int32) (x6 : Int32) (x12 : Int32), (0 ≤ u.toInt) ∧ (u.toInt ≤ 1) ∧ (0 ≤ x3.toInt) ∧ (x3.toInt ≤ 1) ∧ (0 ≤ x6.toInt) ∧ (x6.toInt ≤ 1) ∧ (0 ≤ x12.toInt) ∧ (x12.toInt ≤ 8) ∧ va_P (dC, dI) vwCl (rw_W o c kc (rU (rU (rU (rU (rU st 3 x3) 4 x4) 5 x5) 6 x6) 12 x12) lg ai al) t.heap) A) ([.ref o] : List Value).toArray s 0 0 A) (F0 m 0 ls []) := by
    intro H locs hP hS
    refine lv_aload_n hx hb dX9_act_0 rfl (lv_at hl 0 rfl) ?_
    refine va_get (D := (dC, dI)) (ci := 11) (v := .int (st 6)) (C := RX9) (T := TX9) (N := 38) hx hb hts hin9 hown hK hP 0 rfl rfl 6 (by decide) (hts (.fieldLink RX9 108 "BlockLogModel" "dark" "Z") (by decide +kernel)) (fun _ h9 => h9) rfl dX9_act_1 ?_
    refine lv_if_eq (tgt := 9) hx hb dX9_act_4 (by decide) (fun c_1 => ?_) (fun c_1 => ?_)
    · skip
      have ic_1 := iv_eq c_1
      refine lv_aload_n hx hb dX9_act_9 rfl (lv_at hl 0 rfl) ?_
      refine va_get (D := (dC, dI)) (ci := 11) (v := .int (st 5)) (C := RX9) (T := TX9) (N := 38) hx hb hts hin9 hown hK hP 0 rfl rfl 5 (by decide) (hts (.fieldLink RX9 69 "BlockLogModel" "power" "I") (by decide +kernel)) (fun _ h9 => h9) rfl dX9_act_10 ?_
      refine lv_if_ne (tgt := 38) hx hb dX9_act_13 (by decide) (fun c_2 => ?_) (fun c_2 => ?_)
      · skip
        have ic_2 := iv_ne c_2
        refine lv_aload_n hx hb dX9_act_38 rfl (lv_at hl 0 rfl) ?_
        refine lv_dup hx hb dX9_act_39 rfl ?_
        refine va_get (D := (dC, dI)) (ci := 11) (v := .int (st 5)) (C := RX9) (T := TX9) (N := 38) hx hb hts hin9 hown hK hP 0 rfl rfl 5 (by decide) (hts (.fieldLink RX9 69 "BlockLogModel" "power" "I") (by decide +kernel)) (fun _ h9 => h9) rfl dX9_act_40 ?_
        refine lv_aload_n hx hb dX9_act_43 rfl (lv_at hl 0 rfl) ?_
        refine va_get (D := (dC, dI)) (ci := 11) (v := .int (st 5)) (C := RX9) (T := TX9) (N := 38) hx hb hts hin9 hown hK hP 0 rfl rfl 5 (by decide) (hts (.fieldLink RX9 69 "BlockLogModel" "power" "I") (by decide +kernel)) (fun _ h9 => h9) rfl dX9_act_44 ?_
        refine lv_if_le (tgt := 54) hx hb dX9_act_47 (by decide) (fun c_3 => ?_) (fun c_3 => ?_)
        · skip
          have ic_3 := iv_le c_3
          refine lv_iconst (v := 0) hx hb dX9_act_54 (by decide) ?_
          refine lv_isub hx hb dX9_act_55 ?_
          refine lv_topi (fun v_4 ev_4 => ?_)
          clear ev_4
          refine va_put (D := (dC, dI)) (ci := 11) (v := .int v_4) (ty := .int) (C := RX9) (T := TX9) (N := 38) hx hb hts hin9 tyX9 tyX9_ok nmX9 hown hK hP (rw_D hD) hS 0 rfl rfl 5 (by decide) (hts (.fieldLink RX9 69 "BlockLogModel" "power" "I") (by decide +kernel)) (fun _ h9 => h9) rfl (by decide +kernel) rfl rfl (Nat.le_of_ble_eq_true rfl) dX9_act_56 (fun H locs hP _ hS => ?_)
          have hP : va_P (dC, dI) vwCl (rw_W o c kc (rU st 5 v_4) lg ai al) H := hP
          refine lv_aload_n hx hb dX9_act_59 rfl (lv_at hl 0 rfl) ?_
          refine lv_dup hx hb dX9_act_60 rfl ?_
          refine va_get (D := (dC, dI)) (ci := 11) (v := .int (st 4)) (C := RX9) (T := TX9) (N := 38) hx hb hts hin9 hown hK hP 0 rfl rfl 4 (by decide) (hts (.fieldLink RX9 114 "BlockLogModel" "acts" "I") (by decide +kernel)) (fun _ h9 => h9) rfl dX9_act_61 ?_
          refine lv_iconst (v := 1) hx hb dX9_act_64 (by decide) ?_
          refine lv_iadd hx hb dX9_act_65 ?_
          refine lv_topi (fun v_5 ev_5 => ?_)
          clear ev_5
          refine va_put (D := (dC, dI)) (ci := 11) (v := .int v_5) (ty := .int) (C := RX9) (T := TX9) (N := 38) hx hb hts hin9 tyX9 tyX9_ok nmX9 hown hK hP (rw_D hD) hS 0 rfl rfl 4 (by decide) (hts (.fieldLink RX9 114 "BlockLogModel" "acts" "I") (by decide +kernel)) (fun _ h9 => h9) rfl (by decide +kernel) rfl rfl (Nat.le_of_ble_eq_true rfl) dX9_act_66 (fun H locs hP _ hS => ?_)
          have hP : va_P (dC, dI) vwCl (rw_W o c kc (rU (rU st 4 v_5) 5 v_4) lg ai al) H := hP
          refine lv_iconst (v := 1) hx hb dX9_act_69 (by decide) ?_
          exact W.zret hx hb hr rfl (fun t ht hW => ⟨⟨_, _, rfl, rfl, st 3, v_5, v_4, st 6, st 12, (by omega), (by omega), (by omega), (by omega), (by omega), (by omega), (by omega), (by omega), by rw [ht]; exact hP⟩, hS.F ht⟩) hS.2.2 dX9_act_70
        · skip
          have ic_3 := iv_nle c_3
          refine lv_iconst (v := 1) hx hb dX9_act_50 (by decide) ?_
          refine lv_goto (tgt := 55) hx hb dX9_act_51 (by decide) ?_
          refine lv_isub hx hb dX9_act_55 ?_
          refine lv_topi (fun v_6 ev_6 => ?_)
          clear ev_6
          refine va_put (D := (dC, dI)) (ci := 11) (v := .int v_6) (ty := .int) (C := RX9) (T := TX9) (N := 38) hx hb hts hin9 tyX9 tyX9_ok nmX9 hown hK hP (rw_D hD) hS 0 rfl rfl 5 (by decide) (hts (.fieldLink RX9 69 "BlockLogModel" "power" "I") (by decide +kernel)) (fun _ h9 => h9) rfl (by decide +kernel) rfl rfl (Nat.le_of_ble_eq_true rfl) dX9_act_56 (fun H locs hP _ hS => ?_)
          have hP : va_P (dC, dI) vwCl (rw_W o c kc (rU st 5 v_6) lg ai al) H := hP
          refine lv_aload_n hx hb dX9_act_59 rfl (lv_at hl 0 rfl) ?_
          refine lv_dup hx hb dX9_act_60 rfl ?_
          refine va_get (D := (dC, dI)) (ci := 11) (v := .int (st 4)) (C := RX9) (T := TX9) (N := 38) hx hb hts hin9 hown hK hP 0 rfl rfl 4 (by decide) (hts (.fieldLink RX9 114 "BlockLogModel" "acts" "I") (by decide +kernel)) (fun _ h9 => h9) rfl dX9_act_61 ?_
          refine lv_iconst (v := 1) hx hb dX9_act_64 (by decide) ?_
          refine lv_iadd hx hb dX9_act_65 ?_
          refine lv_topi (fun v_7 ev_7 => ?_)
          clear ev_7
          refine va_put (D := (dC, dI)) (ci := 11) (v := .int v_7) (ty := .int) (C := RX9) (T := TX9) (N := 38) hx hb hts hin9 tyX9 tyX9_ok nmX9 hown hK hP (rw_D hD) hS 0 rfl rfl 4 (by decide) (hts (.fieldLink RX9 114 "BlockLogModel" "acts" "I") (by decide +kernel)) (fun _ h9 => h9) rfl (by decide +kernel) rfl rfl (Nat.le_of_ble_eq_true rfl) dX9_act_66 (fun H locs hP _ hS => ?_)
          have hP : va_P (dC, dI) vwCl (rw_W o c kc (rU (rU st 4 v_7) 5 v_6) lg ai al) H := hP
          refine lv_iconst (v := 1) hx hb dX9_act_69 (by decide) ?_
          exact W.zret hx hb hr rfl (fun t ht hW => ⟨⟨_, _, rfl, rfl, st 3, v_7, v_6, st 6, st 12, (by omega), (by omega), (by omega), (by omega), (by omega), (by omega), (by omega), (by omega), by rw [ht]; exact hP⟩, hS.F ht⟩) hS.2.2 dX9_act_70
      · skip
        have ic_2 := iv_eq c_2
        refine lv_aload_n hx hb dX9_act_16 rfl (lv_at hl 0 rfl) ?_
        refine lv_iconst (v := 1) hx hb dX9_act_17 (by decide) ?_
        refine va_put (D := (dC, dI)) (ci := 11) (v := .int (1 : Int32)) (ty := .boolean) (C := RX9) (T := TX9) (N := 38) hx hb hts hin9 tyX9 tyX9_ok nmX9 hown hK hP (rw_D hD) hS 0 rfl rfl 6 (by decide) (hts (.fieldLink RX9 108 "BlockLogModel" "dark" "Z") (by decide +kernel)) (fun _ h9 => h9) rfl (by decide +kernel) rfl rfl (Nat.le_of_ble_eq_true rfl) dX9_act_18 (fun H locs hP _ hS => ?_)
        have hP : va_P (dC, dI) vwCl (rw_W o c kc (rU st 6 (1 : Int32)) lg ai al) H := hP
        refine lv_aload_n hx hb dX9_act_21 rfl (lv_at hl 0 rfl) ?_
        refine lv_iconst (v := 0) hx hb dX9_act_22 (by decide) ?_
        refine va_put (D := (dC, dI)) (ci := 11) (v := .int (0 : Int32)) (ty := .boolean) (C := RX9) (T := TX9) (N := 38) hx hb hts hin9 tyX9 tyX9_ok nmX9 hown hK hP (rw_D hD) hS 0 rfl rfl 3 (by decide) (hts (.fieldLink RX9 72 "BlockLogModel" "on" "Z") (by decide +kernel)) (fun _ h9 => h9) rfl (by decide +kernel) rfl rfl (Nat.le_of_ble_eq_true rfl) dX9_act_23 (fun H locs hP _ hS => ?_)
        have hP : va_P (dC, dI) vwCl (rw_W o c kc (rU (rU st 3 (0 : Int32)) 6 (1 : Int32)) lg ai al) H := hP
        refine lv_aload_n hx hb dX9_act_26 rfl (lv_at hl 0 rfl) ?_
        refine lv_iconst (v := (-1)) hx hb dX9_act_27 (by decide) ?_
        refine va_put (D := (dC, dI)) (ci := 11) (v := .int (-1 : Int32)) (ty := .int) (C := RX9) (T := TX9) (N := 38) hx hb hts hin9 tyX9 tyX9_ok nmX9 hown hK hP (rw_D hD) hS 0 rfl rfl 5 (by decide) (hts (.fieldLink RX9 69 "BlockLogModel" "power" "I") (by decide +kernel)) (fun _ h9 => h9) rfl (by decide +kernel) rfl rfl (Nat.le_of_ble_eq_true rfl) dX9_act_28 (fun H locs hP _ hS => ?_)
        have hP : va_P (dC, dI) vwCl (rw_W o c kc (rU (rU (rU st 3 (0 : Int32)) 5 (-1 : Int32)) 6 (1 : Int32)) lg ai al) H := hP
        refine lv_aload_n hx hb dX9_act_31 rfl (lv_at hl 0 rfl) ?_
        refine lv_iconst (v := 0) hx hb dX9_act_32 (by decide) ?_
        refine va_put (D := (dC, dI)) (ci := 11) (v := .int (0 : Int32)) (ty := .int) (C := RX9) (T := TX9) (N := 38) hx hb hts hin9 tyX9 tyX9_ok nmX9 hown hK hP (rw_D hD) hS 0 rfl rfl 12 (by decide) (hts (.fieldLink RX9 111 "BlockLogModel" "collected" "I") (by decide +kernel)) (fun _ h9 => h9) rfl (by decide +kernel) rfl rfl (Nat.le_of_ble_eq_true rfl) dX9_act_33 (fun H locs hP _ hS => ?_)
        have hP : va_P (dC, dI) vwCl (rw_W o c kc (rU (rU (rU (rU st 3 (0 : Int32)) 5 (-1 : Int32)) 6 (1 : Int32)) 12 (0 : Int32)) lg ai al) H := hP
        refine lv_iconst (v := 0) hx hb dX9_act_36 (by decide) ?_
        exact W.zret hx hb hr rfl (fun t ht hW => ⟨⟨_, _, rfl, rfl, (0 : Int32), st 4, (-1 : Int32), (1 : Int32), (0 : Int32), (by omega), (by omega), (by omega), (by omega), (by omega), (by omega), (by omega), (by omega), by rw [ht]; exact hP⟩, hS.F ht⟩) hS.2.2 dX9_act_37
    · skip
      have ic_1 := iv_ne c_1
      refine lv_iconst (v := 0) hx hb dX9_act_7 (by decide) ?_
      exact W.zret hx hb hr rfl (fun t ht hW => ⟨⟨_, _, rfl, rfl, st 3, st 4, st 5, st 6, st 12, (by omega), (by omega), (by omega), (by omega), (by omega), (by omega), (by omega), (by omega), by rw [ht]; exact hP⟩, hS.F ht⟩) hS.2.2 dX9_act_8
  exact main s.heap [] hP hS

set_option maxHeartbeats 4000000 in
set_option maxRecDepth 100000 in
theorem v_X9_write (l : Launch) (dC : Nat → ClassId) (dI : Nat → Nat → Nat) (o : Nat) (c : Nat → Nat) (kc : Nat → ClassId) (st : Nat → Int32) (lg : Nat → Int64) (ai : Nat → Nat → Int32) (al : Nat → Nat → Int64) (p0 : Int32) (p1 : Int32) (sz : Nat) (hf3a : 0 ≤ (st 3).toInt) (hf3b : (st 3).toInt ≤ 1) (hf6a : 0 ≤ (st 6).toInt) (hf6b : (st 6).toInt ≤ 1) (hf12a : 0 ≤ (st 12).toInt) (hf12b : (st 12).toInt ≤ 8) (hq0 : 0 ≤ p0.toInt) (hq1 : p0.toInt < 1712160) : Met l yX9_write wsX9_write ({ frames := 1, cells := 0, slots := 0, locals := 23 }) (va_Pc [.ref o, .int p0, .int p1] (fun U => U.heap.size = sz ∧ va_P (dC, dI) vwCl (rw_W o c kc st lg ai al) U.heap ∧ va_K (dC, dI) vwCl (rw_T kc) U ∧ va_D (fun _ => True) (rw_W o c kc st lg ai al))) (va_Qv (fun (_ : Unit) => True) (fun _ t => ∃ (x3 : Int32) (x4 : Int32) (x5 : Int32) (x6 : Int32) (x12 : Int32) (f0 : Nat → Int32), (0 ≤ x3.toInt) ∧ (x3.toInt ≤ 1) ∧ (0 ≤ x6.toInt) ∧ (x6.toInt ≤ 1) ∧ (0 ≤ x12.toInt) ∧ (x12.toInt ≤ 8) ∧ va_P (dC, dI) vwCl (rw_W o c kc (rU (rU (rU (rU (rU st 3 x3) 4 x4) 5 x5) 6 x6) 12 x12) lg (rU ai 0 f0) al) t.heap) (va_A (rw_W o c kc st lg ai al) sz)) 0 0 (va_A (rw_W o c kc st lg ai al) sz) := by
  refine Met.ofW (cc := cX9_write) (maxL := 3) (ret := none) (by decide) rfl ?_
  intro p e s m args below meth cM s₁ B hml hv
  obtain ⟨rfl, hsz, hP, hK, hD0⟩ := hv
  have hx := B.exec
  have hb := B.bytes
  have hr := B.returns
  have hts := atoms_spec (ws := wsX9_write) B.pre
  have hown : s.vm.findClass RX9 = some m.cls := findClass_of_methodNamed B.named
  subst hsz
  have hD := hD0.self (sz := s.heap.size)
  generalize hAe : va_A (rw_W o c kc st lg ai al) s.heap.size = A at hD ⊢
  have hA : ∀ q : Nat, s.heap.size ≤ q → A q := fun q h => by rw [← hAe]; exact Or.inr h
  have hS : va_S A s.heap s.heap [] := va_S.rf
  clear hAe hD0
  have hl := lv_entry ([.ref o, .int p0, .int p1]) (n := 3) (Nat.le_of_ble_eq_true rfl)
  rw [lg_entry_eq]
  generalize (lg_sl ([.ref o, .int p0, .int p1]) ++ List.replicate (3 - (lg_sl ([.ref o, .int p0, .int p1])).length) Slot.unset).toArray = ls at hl ⊢
  have hl : lv_has ls 3 [(0, .ref o), (1, .int p0), (2, .int p1)] := hl
  have z_0 : (0 : Int32).toInt = 0 := by decide
  have z_1 : (1 : Int32).toInt = 1 := by decide
  have main : ∀ (H : Heap) (locs : List Loc), va_P (dC, dI) vwCl (rw_W o c kc st lg ai al) H → va_S A s.heap H locs → W p l e (headSpec wsX9_write ({ frames := 1, cells := 0, slots := 0, locals := 23 })).room s m ([.ref o, .int p0, .int p1] : List Value).toArray below meth cM H locs 0 0 (MQ below (va_Qv (fun (_ : Unit) => True) (fun _ t => ∃ (x3 : Int32) (x4 : Int32) (x5 : Int32) (x6 : Int32) (x12 : Int32) (f0 : Nat → Int32), (0 ≤ x3.toInt) ∧ (x3.toInt ≤ 1) ∧ (0 ≤ x6.toInt) ∧ (x6.toInt ≤ 1) ∧ (0 ≤ x12.toInt) ∧ (x12.toInt ≤ 8) ∧ va_P (dC, dI) vwCl (rw_W o c kc (rU (rU (rU (rU (rU st 3 x3) 4 x4) 5 x5) 6 x6) 12 x12) lg (rU ai 0 f0) al) t.heap) A) ([.ref o, .int p0, .int p1] : List Value).toArray s 0 0 A) (F0 m 0 ls []) := by
    intro H locs hP hS
    refine lv_aload_n hx hb dX9_write_0 rfl (lv_at hl 0 rfl) ?_
    have hFc := vfree (rw_D hD : va_D A (rw_W o c kc st lg ai al)) hS hA
    refine va_calli (va_runV (As := []) (rest := []) ⟨hx, hb, hml, hown, hts⟩ (v_X9_act l dC dI o c kc st lg ai al  _ (show 0 ≤ (st 3).toInt by omega) (show (st 3).toInt ≤ 1 by omega) (show 0 ≤ (st 6).toInt by omega) (show (st 6).toInt ≤ 1 by omega) (show 0 ≤ (st 12).toInt by omega) (show (st 12).toInt ≤ 8 by omega)) (cwV 0 hts gX9_write_X9_act rfl rfl rfl (by decide +kernel) ⟨Nat.le_of_ble_eq_true rfl, Nat.le_of_ble_eq_true rfl⟩) ⟨fun a U g mk q => by obtain ⟨q0, q1, qP, qK, qD⟩ := q; exact ⟨q0, q1, qP, va_K.moved (u := U) (U := U.calling g mk a) (Vm.Alike.refl U.vm) qK, qD⟩, va_recv hK hP (ci := 11) (q := (RX9, TX9, 38)) rfl (q0 := 0) rfl, fun U hU hW => ⟨rfl, by rw [hU], by rw [hU]; exact hP, va_K.moved hW.alike hK, rw_D (hD.weaken (fun _ _ _ _ => trivial))⟩⟩ rfl rfl hl.1 rfl (lv_room (Nat.le_of_ble_eq_true rfl)) dX9_write_1 ⟨Nat.le_of_ble_eq_true rfl, Nat.le_of_ble_eq_true rfl⟩) hS (fun q _ h => hFc q h) hFc (fun r_1 ur_1 t H1 locs ht hvm er_1 hB hz1 hk1 hS => ?_)
    subst er_1
    obtain ⟨x3_1, x4_1, x5_1, x6_1, x12_1, k_2, k_3, k_4, k_5, k_6, k_7, k_8, k_9, hP1⟩ := hB
    rw [ht] at hP1
    clear hFc hz1 hk1 hvm hP
    subst ht
    have hP := hP1
    clear hP1
    generalize t.heap = H at hP hS ⊢
    have hP : va_P (dC, dI) vwCl (rw_W o c kc (rU (rU (rU (rU (rU st 3 x3_1) 4 x4_1) 5 x5_1) 6 x6_1) 12 x12_1) lg ai al) H := hP
    have k_4 : 0 ≤ x3_1.toInt := k_4
    have k_5 : x3_1.toInt ≤ 1 := k_5
    have k_6 : 0 ≤ x6_1.toInt := k_6
    have k_7 : x6_1.toInt ≤ 1 := k_7
    have k_8 : 0 ≤ x12_1.toInt := k_8
    have k_9 : x12_1.toInt ≤ 8 := k_9
    rcases iv_01 (a := r_1) (by omega) (by omega) with b_10 | b_10
    · skip
      have ib_10 := iv_eq b_10
      rw [b_10]
      refine lv_if_eq (tgt := 13) hx hb dX9_write_4 (by decide) (fun c_11 => ?_) (fun c_11 => ?_)
      · skip
        have ic_11 := iv_eq c_11
        exact W.vret hx hb hr (fun t ht hW => ⟨⟨(), rfl, trivial, x3_1, x4_1, x5_1, x6_1, x12_1, ai 0, (by omega), (by omega), (by omega), (by omega), (by omega), (by omega), by rw [ht]; exact hP⟩, hS.F ht⟩) hS.2.2 dX9_write_13
      · skip
        have ic_11 := iv_ne c_11
        exfalso
        omega
    · skip
      have ib_10 := iv_eq b_10
      rw [b_10]
      refine lv_if_eq (tgt := 13) hx hb dX9_write_4 (by decide) (fun c_12 => ?_) (fun c_12 => ?_)
      · skip
        have ic_12 := iv_eq c_12
        exfalso
        omega
      · skip
        have ic_12 := iv_ne c_12
        refine lv_aload_n hx hb dX9_write_7 rfl (lv_at hl 0 rfl) ?_
        refine lv_iload_n hx hb dX9_write_8 rfl (lv_at hl 1 rfl) ?_
        refine lv_iload_n hx hb dX9_write_9 rfl (lv_at hl 2 rfl) ?_
        have hFc := vfree (rw_D hD : va_D A (rw_W o c kc (rU (rU (rU (rU (rU st 3 x3_1) 4 x4_1) 5 x5_1) 6 x6_1) 12 x12_1) lg ai al)) hS hA
        refine va_callv (va_runV (As := [.int p0, .int p1]) (rest := []) ⟨hx, hb, hml, hown, hts⟩ (v_X9_set l dC dI o c kc (rU (rU (rU (rU (rU st 3 x3_1) 4 x4_1) 5 x5_1) 6 x6_1) 12 x12_1) lg ai al p0 p1 _ (by omega) (by omega)) (cwV 2 hts gX9_write_X9_set rfl rfl rfl (by decide +kernel) ⟨Nat.le_of_ble_eq_true rfl, Nat.le_of_ble_eq_true rfl⟩) ⟨fun a U g mk q => by obtain ⟨q0, q1, qP, qK, qD⟩ := q; exact ⟨q0, q1, qP, va_K.moved (u := U) (U := U.calling g mk a) (Vm.Alike.refl U.vm) qK, qD⟩, va_recv hK hP (ci := 11) (q := (RX9, TX9, 38)) rfl (q0 := 0) rfl, fun U hU hW => ⟨rfl, by rw [hU], by rw [hU]; exact hP, va_K.moved hW.alike hK, rw_D (hD.weaken (fun _ _ _ _ => trivial))⟩⟩ rfl rfl hl.1 rfl (lv_room (Nat.le_of_ble_eq_true rfl)) dX9_write_10 ⟨Nat.le_of_ble_eq_true rfl, Nat.le_of_ble_eq_true rfl⟩) hS (fun q _ h => hFc q h) hFc (fun ur_13 t H1 locs ht hvm er_13 hB hz1 hk1 hS => ?_)
        obtain ⟨f0_13, hP1⟩ := hB
        rw [ht] at hP1
        clear hFc hz1 hk1 hvm hP
        subst ht
        have hP := hP1
        clear hP1
        generalize t.heap = H at hP hS ⊢
        have hP : va_P (dC, dI) vwCl (rw_W o c kc (rU (rU (rU (rU (rU st 3 x3_1) 4 x4_1) 5 x5_1) 6 x6_1) 12 x12_1) lg (rU ai 0 f0_13) al) H := hP
        exact W.vret hx hb hr (fun t ht hW => ⟨⟨(), rfl, trivial, x3_1, x4_1, x5_1, x6_1, x12_1, f0_13, (by omega), (by omega), (by omega), (by omega), (by omega), (by omega), by rw [ht]; exact hP⟩, hS.F ht⟩) hS.2.2 dX9_write_13
  exact main s.heap [] hP hS

set_option maxHeartbeats 4000000 in
set_option maxRecDepth 100000 in
theorem v_X9_erase (l : Launch) (dC : Nat → ClassId) (dI : Nat → Nat → Nat) (o : Nat) (c : Nat → Nat) (kc : Nat → ClassId) (st : Nat → Int32) (lg : Nat → Int64) (ai : Nat → Nat → Int32) (al : Nat → Nat → Int64) (p0 : Int32) (p1 : Int32) (sz : Nat) (hf3a : 0 ≤ (st 3).toInt) (hf3b : (st 3).toInt ≤ 1) (hf6a : 0 ≤ (st 6).toInt) (hf6b : (st 6).toInt ≤ 1) (hf12a : 0 ≤ (st 12).toInt) (hf12b : (st 12).toInt ≤ 8) (hq0 : 0 ≤ p0.toInt) (hq1 : 0 ≤ p1.toInt) (hq2 : p1.toInt ≤ 4096) (hq3 : p0.toInt + p1.toInt ≤ 1712160) : Met l yX9_erase wsX9_erase ({ frames := 1, cells := 0, slots := 0, locals := 23 }) (va_Pc [.ref o, .int p0, .int p1] (fun U => U.heap.size = sz ∧ va_P (dC, dI) vwCl (rw_W o c kc st lg ai al) U.heap ∧ va_K (dC, dI) vwCl (rw_T kc) U ∧ va_D (fun _ => True) (rw_W o c kc st lg ai al))) (va_Qv (fun (_ : Unit) => True) (fun _ t => ∃ (x3 : Int32) (x4 : Int32) (x5 : Int32) (x6 : Int32) (x12 : Int32) (f0 : Nat → Int32), (0 ≤ x3.toInt) ∧ (x3.toInt ≤ 1) ∧ (0 ≤ x6.toInt) ∧ (x6.toInt ≤ 1) ∧ (0 ≤ x12.toInt) ∧ (x12.toInt ≤ 8) ∧ va_P (dC, dI) vwCl (rw_W o c kc (rU (rU (rU (rU (rU st 3 x3) 4 x4) 5 x5) 6 x6) 12 x12) lg (rU ai 0 f0) al) t.heap) (va_A (rw_W o c kc st lg ai al) sz)) 0 0 (va_A (rw_W o c kc st lg ai al) sz) := by
  refine Met.ofW (cc := cX9_erase) (maxL := 4) (ret := none) (by decide) rfl ?_
  intro p e s m args below meth cM s₁ B hml hv
  obtain ⟨rfl, hsz, hP, hK, hD0⟩ := hv
  have hx := B.exec
  have hb := B.bytes
  have hr := B.returns
  have hts := atoms_spec (ws := wsX9_erase) B.pre
  have hown : s.vm.findClass RX9 = some m.cls := findClass_of_methodNamed B.named
  subst hsz
  have hD := hD0.self (sz := s.heap.size)
  generalize hAe : va_A (rw_W o c kc st lg ai al) s.heap.size = A at hD ⊢
  have hA : ∀ q : Nat, s.heap.size ≤ q → A q := fun q h => by rw [← hAe]; exact Or.inr h
  have hS : va_S A s.heap s.heap [] := va_S.rf
  clear hAe hD0
  have hl := lv_entry ([.ref o, .int p0, .int p1]) (n := 4) (Nat.le_of_ble_eq_true rfl)
  rw [lg_entry_eq]
  generalize (lg_sl ([.ref o, .int p0, .int p1]) ++ List.replicate (4 - (lg_sl ([.ref o, .int p0, .int p1])).length) Slot.unset).toArray = ls at hl ⊢
  have hl : lv_has ls 4 [(0, .ref o), (1, .int p0), (2, .int p1)] := hl
  have z_0 : (0 : Int32).toInt = 0 := by decide
  have z_1 : (1 : Int32).toInt = 1 := by decide
  have main : ∀ (H : Heap) (locs : List Loc), va_P (dC, dI) vwCl (rw_W o c kc st lg ai al) H → va_S A s.heap H locs → W p l e (headSpec wsX9_erase ({ frames := 1, cells := 0, slots := 0, locals := 23 })).room s m ([.ref o, .int p0, .int p1] : List Value).toArray below meth cM H locs 0 0 (MQ below (va_Qv (fun (_ : Unit) => True) (fun _ t => ∃ (x3 : Int32) (x4 : Int32) (x5 : Int32) (x6 : Int32) (x12 : Int32) (f0 : Nat → Int32), (0 ≤ x3.toInt) ∧ (x3.toInt ≤ 1) ∧ (0 ≤ x6.toInt) ∧ (x6.toInt ≤ 1) ∧ (0 ≤ x12.toInt) ∧ (x12.toInt ≤ 8) ∧ va_P (dC, dI) vwCl (rw_W o c kc (rU (rU (rU (rU (rU st 3 x3) 4 x4) 5 x5) 6 x6) 12 x12) lg (rU ai 0 f0) al) t.heap) A) ([.ref o, .int p0, .int p1] : List Value).toArray s 0 0 A) (F0 m 0 ls []) := by
    intro H locs hP hS
    refine lv_aload_n hx hb dX9_erase_0 rfl (lv_at hl 0 rfl) ?_
    have hFc := vfree (rw_D hD : va_D A (rw_W o c kc st lg ai al)) hS hA
    refine va_calli (va_runV (As := []) (rest := []) ⟨hx, hb, hml, hown, hts⟩ (v_X9_act l dC dI o c kc st lg ai al  _ (show 0 ≤ (st 3).toInt by omega) (show (st 3).toInt ≤ 1 by omega) (show 0 ≤ (st 6).toInt by omega) (show (st 6).toInt ≤ 1 by omega) (show 0 ≤ (st 12).toInt by omega) (show (st 12).toInt ≤ 8 by omega)) (cwV 0 hts gX9_erase_X9_act rfl rfl rfl (by decide +kernel) ⟨Nat.le_of_ble_eq_true rfl, Nat.le_of_ble_eq_true rfl⟩) ⟨fun a U g mk q => by obtain ⟨q0, q1, qP, qK, qD⟩ := q; exact ⟨q0, q1, qP, va_K.moved (u := U) (U := U.calling g mk a) (Vm.Alike.refl U.vm) qK, qD⟩, va_recv hK hP (ci := 11) (q := (RX9, TX9, 38)) rfl (q0 := 0) rfl, fun U hU hW => ⟨rfl, by rw [hU], by rw [hU]; exact hP, va_K.moved hW.alike hK, rw_D (hD.weaken (fun _ _ _ _ => trivial))⟩⟩ rfl rfl hl.1 rfl (lv_room (Nat.le_of_ble_eq_true rfl)) dX9_erase_1 ⟨Nat.le_of_ble_eq_true rfl, Nat.le_of_ble_eq_true rfl⟩) hS (fun q _ h => hFc q h) hFc (fun r_1 ur_1 t H1 locs ht hvm er_1 hB hz1 hk1 hS => ?_)
    subst er_1
    obtain ⟨x3_1, x4_1, x5_1, x6_1, x12_1, k_2, k_3, k_4, k_5, k_6, k_7, k_8, k_9, hP1⟩ := hB
    rw [ht] at hP1
    clear hFc hz1 hk1 hvm hP
    subst ht
    have hP := hP1
    clear hP1
    generalize t.heap = H at hP hS ⊢
    have hP : va_P (dC, dI) vwCl (rw_W o c kc (rU (rU (rU (rU (rU st 3 x3_1) 4 x4_1) 5 x5_1) 6 x6_1) 12 x12_1) lg ai al) H := hP
    have k_4 : 0 ≤ x3_1.toInt := k_4
    have k_5 : x3_1.toInt ≤ 1 := k_5
    have k_6 : 0 ≤ x6_1.toInt := k_6
    have k_7 : x6_1.toInt ≤ 1 := k_7
    have k_8 : 0 ≤ x12_1.toInt := k_8
    have k_9 : x12_1.toInt ≤ 8 := k_9
    rcases iv_01 (a := r_1) (by omega) (by omega) with b_10 | b_10
    · skip
      have ib_10 := iv_eq b_10
      rw [b_10]
      refine lv_if_eq (tgt := 28) hx hb dX9_erase_4 (by decide) (fun c_11 => ?_) (fun c_11 => ?_)
      · skip
        have ic_11 := iv_eq c_11
        exact W.vret hx hb hr (fun t ht hW => ⟨⟨(), rfl, trivial, x3_1, x4_1, x5_1, x6_1, x12_1, ai 0, (by omega), (by omega), (by omega), (by omega), (by omega), (by omega), by rw [ht]; exact hP⟩, hS.F ht⟩) hS.2.2 dX9_erase_28
      · skip
        have ic_11 := iv_ne c_11
        exfalso
        omega
    · skip
      have ib_10 := iv_eq b_10
      rw [b_10]
      refine lv_if_eq (tgt := 28) hx hb dX9_erase_4 (by decide) (fun c_12 => ?_) (fun c_12 => ?_)
      · skip
        have ic_12 := iv_eq c_12
        exfalso
        omega
      · skip
        have ic_12 := iv_ne c_12
        refine lv_iconst (v := 0) hx hb dX9_erase_7 (by decide) ?_
        refine lv_istore_n (lv' := [(3, .int (0 : Int32)), (0, .ref o), (1, .int p0), (2, .int p1)]) hx hb dX9_erase_8 rfl hl (by decide) rfl (fun ls hl => ?_)
        have loop9 : ∀ (n : Nat) (l3_9 : Int32) (a0_9 : Nat → Int32) (H : Heap) (locs : List Loc) (ls : Array Slot), (0 ≤ l3_9.toInt) → (l3_9.toInt ≤ p1.toInt) → (p1.toInt - l3_9.toInt : Int).toNat < n → va_P (dC, dI) vwCl (rw_W o c kc (rU (rU (rU (rU (rU st 3 x3_1) 4 x4_1) 5 x5_1) 6 x6_1) 12 x12_1) lg (rU ai 0 a0_9) al) H → va_S A s.heap H locs → lv_has ls 4 [(3, .int l3_9), (0, .ref o), (1, .int p0), (2, .int p1)] → W p l e (headSpec wsX9_erase ({ frames := 1, cells := 0, slots := 0, locals := 23 })).room s m ([.ref o, .int p0, .int p1] : List Value).toArray below meth cM H locs 0 0 (MQ below (va_Qv (fun (_ : Unit) => True) (fun _ t => ∃ (x3 : Int32) (x4 : Int32) (x5 : Int32) (x6 : Int32) (x12 : Int32) (f0 : Nat → Int32), (0 ≤ x3.toInt) ∧ (x3.toInt ≤ 1) ∧ (0 ≤ x6.toInt) ∧ (x6.toInt ≤ 1) ∧ (0 ≤ x12.toInt) ∧ (x12.toInt ≤ 8) ∧ va_P (dC, dI) vwCl (rw_W o c kc (rU (rU (rU (rU (rU st 3 x3) 4 x4) 5 x5) 6 x6) 12 x12) lg (rU ai 0 f0) al) t.heap) A) ([.ref o, .int p0, .int p1] : List Value).toArray s 0 0 A) (F0 m 9 ls []) := by
          intro n
          induction n with
          | zero => intro l3_9 a0_9 H locs ls if0_9 if1_9 hm; exact absurd hm (Nat.not_lt_zero _)
          | succ n ih9 =>
            intro l3_9 a0_9 H locs ls if0_9 if1_9 hm9 hP hS hl
            refine lv_iload_n hx hb dX9_erase_9 rfl (lv_at hl 0 rfl) ?_
            refine lv_iload_n hx hb dX9_erase_10 rfl (lv_at hl 3 rfl) ?_
            refine lv_icmp_ge (tgt := 28) hx hb dX9_erase_11 (by decide) (fun c_13 => ?_) (fun c_13 => ?_)
            · skip
              have ic_13 := iv_le c_13
              exact W.vret hx hb hr (fun t ht hW => ⟨⟨(), rfl, trivial, x3_1, x4_1, x5_1, x6_1, x12_1, a0_9, (by omega), (by omega), (by omega), (by omega), (by omega), (by omega), by rw [ht]; exact hP⟩, hS.F ht⟩) hS.2.2 dX9_erase_28
            · skip
              have ic_13 := iv_nle c_13
              refine lv_aload_n hx hb dX9_erase_14 rfl (lv_at hl 1 rfl) ?_
              refine lv_iload_n hx hb dX9_erase_15 rfl (lv_at hl 2 rfl) ?_
              refine lv_iload_n hx hb dX9_erase_16 rfl (lv_at hl 0 rfl) ?_
              refine lv_iadd hx hb dX9_erase_17 ?_
              refine lv_topi (fun v_14 ev_14 => ?_)
              have rg1 := iv_rng p0
              have rg2 := iv_rng l3_9
              have hv_14 : v_14.toInt = p0.toInt + l3_9.toInt := by rw [ev_14]; exact (iv_add (by omega) (by omega)).trans (by omega)
              clear ev_14
              refine lv_iconst (v := 0) hx hb dX9_erase_18 (by decide) ?_
              have hFc := vfree (rw_D hD : va_D A (rw_W o c kc (rU (rU (rU (rU (rU st 3 x3_1) 4 x4_1) 5 x5_1) 6 x6_1) 12 x12_1) lg (rU ai 0 a0_9) al)) hS hA
              refine va_callv (va_runV (As := [.int v_14, .int (0 : Int32)]) (rest := []) ⟨hx, hb, hml, hown, hts⟩ (v_X9_set l dC dI o c kc (rU (rU (rU (rU (rU st 3 x3_1) 4 x4_1) 5 x5_1) 6 x6_1) 12 x12_1) lg (rU ai 0 a0_9) al v_14 (0 : Int32) _ (by omega) (by omega)) (cwV 2 hts gX9_erase_X9_set rfl rfl rfl (by decide +kernel) ⟨Nat.le_of_ble_eq_true rfl, Nat.le_of_ble_eq_true rfl⟩) ⟨fun a U g mk q => by obtain ⟨q0, q1, qP, qK, qD⟩ := q; exact ⟨q0, q1, qP, va_K.moved (u := U) (U := U.calling g mk a) (Vm.Alike.refl U.vm) qK, qD⟩, va_recv hK hP (ci := 11) (q := (RX9, TX9, 38)) rfl (q0 := 0) rfl, fun U hU hW => ⟨rfl, by rw [hU], by rw [hU]; exact hP, va_K.moved hW.alike hK, rw_D (hD.weaken (fun _ _ _ _ => trivial))⟩⟩ rfl rfl hl.1 rfl (lv_room (Nat.le_of_ble_eq_true rfl)) dX9_erase_19 ⟨Nat.le_of_ble_eq_true rfl, Nat.le_of_ble_eq_true rfl⟩) hS (fun q _ h => hFc q h) hFc (fun ur_15 t H1 locs ht hvm er_15 hB hz1 hk1 hS => ?_)
              obtain ⟨f0_15, hP1⟩ := hB
              rw [ht] at hP1
              clear hFc hz1 hk1 hvm hP
              subst ht
              have hP := hP1
              clear hP1
              generalize t.heap = H at hP hS ⊢
              have hP : va_P (dC, dI) vwCl (rw_W o c kc (rU (rU (rU (rU (rU st 3 x3_1) 4 x4_1) 5 x5_1) 6 x6_1) 12 x12_1) lg (rU ai 0 f0_15) al) H := hP
              obtain ⟨x_16, ex_16⟩ : ∃ z : Int32, z = l3_9 + (1) := ⟨_, rfl⟩
              refine lv_iinc (v := x_16) (lv' := [(3, .int x_16), (0, .ref o), (1, .int p0), (2, .int p1)]) hx hb dX9_erase_22 hl (k := 0) rfl (by rw [ex_16]; rfl) (by decide) rfl (fun ls hl => ?_)
              have hx_16 : x_16.toInt = l3_9.toInt + (1) := by rw [ex_16]; exact (iv_add (by omega) (by omega)).trans (by omega)
              clear ex_16
              refine lv_goto (tgt := 9) hx hb dX9_erase_25 (by decide) ?_
              exact ih9 x_16 f0_15 _ _ _ (by omega) (by omega) (by omega) hP hS (lv_sub hl [0, 1, 2, 3] rfl)
        exact loop9 ((p1.toInt - 0 : Int).toNat + 1) (0 : Int32) (ai 0) _ _ _ (by omega) (by omega) (by omega) hP hS (lv_sub hl [0, 1, 2, 3] rfl)
  exact main s.heap [] hP hS

set_option maxHeartbeats 4000000 in
set_option maxRecDepth 100000 in
theorem v_X9_put (l : Launch) (dC : Nat → ClassId) (dI : Nat → Nat → Nat) (o : Nat) (c : Nat → Nat) (kc : Nat → ClassId) (st : Nat → Int32) (lg : Nat → Int64) (ai : Nat → Nat → Int32) (al : Nat → Nat → Int64) (p0 : Int32) (p1 : Int64) (p2 : Int32) (sz : Nat) (hq0 : 0 ≤ p0.toInt) (hq1 : 0 ≤ p2.toInt) (hq2 : p0.toInt + p2.toInt ≤ 32) : Met l yX9_put wsX9_put ({ frames := 0, cells := 0, slots := 0, locals := 0 }) (va_Pc [.ref o, .int p0, .long p1, .int p2] (fun U => U.heap.size = sz ∧ va_P (dC, dI) vwCl (rw_W o c kc st lg ai al) U.heap ∧ va_K (dC, dI) vwCl (rw_T kc) U ∧ va_D (fun _ => True) (rw_W o c kc st lg ai al))) (va_Qv (fun (_ : Unit) => True) (fun _ t => ∃ (f14 : Nat → Int32), va_P (dC, dI) vwCl (rw_W o c kc st lg (rU ai 14 f14) al) t.heap) (va_A (rw_W o c kc st lg ai al) sz)) 0 0 (va_A (rw_W o c kc st lg ai al) sz) := by
  refine Met.ofW (cc := cX9_put) (maxL := 6) (ret := none) (by decide) rfl ?_
  intro p e s m args below meth cM s₁ B hml hv
  obtain ⟨rfl, hsz, hP, hK, hD0⟩ := hv
  have hx := B.exec
  have hb := B.bytes
  have hr := B.returns
  have hts := atoms_spec (ws := wsX9_put) B.pre
  have hown : s.vm.findClass RX9 = some m.cls := findClass_of_methodNamed B.named
  subst hsz
  have hD := hD0.self (sz := s.heap.size)
  generalize hAe : va_A (rw_W o c kc st lg ai al) s.heap.size = A at hD ⊢
  have hA : ∀ q : Nat, s.heap.size ≤ q → A q := fun q h => by rw [← hAe]; exact Or.inr h
  have hS : va_S A s.heap s.heap [] := va_S.rf
  clear hAe hD0
  have hl := lv_entry ([.ref o, .int p0, .long p1, .int p2]) (n := 6) (Nat.le_of_ble_eq_true rfl)
  rw [lg_entry_eq]
  generalize (lg_sl ([.ref o, .int p0, .long p1, .int p2]) ++ List.replicate (6 - (lg_sl ([.ref o, .int p0, .long p1, .int p2])).length) Slot.unset).toArray = ls at hl ⊢
  have hl : lv_has ls 6 [(0, .ref o), (1, .int p0), (2, .long p1), (4, .int p2)] := hl
  have z_0 : (0 : Int32).toInt = 0 := by decide
  have z_1 : (1 : Int32).toInt = 1 := by decide
  have z_8 : (8 : Int32).toInt = 8 := by decide
  have hin9 : ∀ w ∈ u_ws RX9 TX9 38, w ∈ wsX9_put := by decide +kernel
  have main : ∀ (H : Heap) (locs : List Loc), va_P (dC, dI) vwCl (rw_W o c kc st lg ai al) H → va_S A s.heap H locs → W p l e (headSpec wsX9_put ({ frames := 0, cells := 0, slots := 0, locals := 0 })).room s m ([.ref o, .int p0, .long p1, .int p2] : List Value).toArray below meth cM H locs 0 0 (MQ below (va_Qv (fun (_ : Unit) => True) (fun _ t => ∃ (f14 : Nat → Int32), va_P (dC, dI) vwCl (rw_W o c kc st lg (rU ai 14 f14) al) t.heap) A) ([.ref o, .int p0, .long p1, .int p2] : List Value).toArray s 0 0 A) (F0 m 0 ls []) := by
    intro H locs hP hS
    refine lv_iconst (v := 0) hx hb dX9_put_0 (by decide) ?_
    refine lv_istore (lv' := [(5, .int (0 : Int32)), (0, .ref o), (1, .int p0), (2, .long p1), (4, .int p2)]) hx hb dX9_put_1 hl (by decide) rfl (fun ls hl => ?_)
    have loop3 : ∀ (n : Nat) (l5_3 : Int32) (a14_3 : Nat → Int32) (H : Heap) (locs : List Loc) (ls : Array Slot), (0 ≤ l5_3.toInt) → (l5_3.toInt ≤ p2.toInt) → (p2.toInt - l5_3.toInt : Int).toNat < n → va_P (dC, dI) vwCl (rw_W o c kc st lg (rU ai 14 a14_3) al) H → va_S A s.heap H locs → lv_has ls 6 [(5, .int l5_3), (0, .ref o), (1, .int p0), (2, .long p1), (4, .int p2)] → W p l e (headSpec wsX9_put ({ frames := 0, cells := 0, slots := 0, locals := 0 })).room s m ([.ref o, .int p0, .long p1, .int p2] : List Value).toArray below meth cM H locs 0 0 (MQ below (va_Qv (fun (_ : Unit) => True) (fun _ t => ∃ (f14 : Nat → Int32), va_P (dC, dI) vwCl (rw_W o c kc st lg (rU ai 14 f14) al) t.heap) A) ([.ref o, .int p0, .long p1, .int p2] : List Value).toArray s 0 0 A) (F0 m 3 ls []) := by
      intro n
      induction n with
      | zero => intro l5_3 a14_3 H locs ls if0_3 if1_3 hm; exact absurd hm (Nat.not_lt_zero _)
      | succ n ih3 =>
        intro l5_3 a14_3 H locs ls if0_3 if1_3 hm3 hP hS hl
        refine lv_iload hx hb dX9_put_3 (lv_at hl 0 rfl) ?_
        refine lv_iload hx hb dX9_put_5 (lv_at hl 4 rfl) ?_
        refine lv_icmp_ge (tgt := 42) hx hb dX9_put_7 (by decide) (fun c_1 => ?_) (fun c_1 => ?_)
        · skip
          have ic_1 := iv_le c_1
          exact W.vret hx hb hr (fun t ht hW => ⟨⟨(), rfl, trivial, a14_3, by rw [ht]; exact hP⟩, hS.F ht⟩) hS.2.2 dX9_put_42
        · skip
          have ic_1 := iv_nle c_1
          refine lv_aload_n hx hb dX9_put_10 rfl (lv_at hl 1 rfl) ?_
          refine va_get (D := (dC, dI)) (ci := 11) (v := .ref (c 14)) (C := RX9) (T := TX9) (N := 38) hx hb hts hin9 hown hK hP 0 rfl rfl 14 (by decide) (hts (.fieldLink RX9 24 "BlockLogModel" "fresh" "[I") (by decide +kernel)) (fun _ h9 => h9) rfl dX9_put_11 ?_
          refine lv_iload_n hx hb dX9_put_14 rfl (lv_at hl 2 rfl) ?_
          refine lv_iload hx hb dX9_put_15 (lv_at hl 0 rfl) ?_
          refine lv_iadd hx hb dX9_put_17 ?_
          refine lv_topi (fun v_2 ev_2 => ?_)
          have rg1 := iv_rng p0
          have rg2 := iv_rng l5_3
          have hv_2 : v_2.toInt = p0.toInt + l5_3.toInt := by rw [ev_2]; exact (iv_add (by omega) (by omega)).trans (by omega)
          clear ev_2
          refine lv_lload_n hx hb dX9_put_18 rfl (lv_at hl 3 rfl) ?_
          refine lv_bipush (v := 8) hx hb dX9_put_19 (by decide) ?_
          refine lv_iload hx hb dX9_put_21 (lv_at hl 4 rfl) ?_
          refine lv_iconst (v := 1) hx hb dX9_put_23 (by decide) ?_
          refine lv_isub hx hb dX9_put_24 ?_
          refine lv_topi (fun v_3 ev_3 => ?_)
          have rg3 := iv_rng p2
          have hv_3 : v_3.toInt = p2.toInt - 1 := by rw [ev_3]; exact (iv_sub (by omega) (by omega)).trans (by omega)
          clear ev_3
          refine lv_iload hx hb dX9_put_25 (lv_at hl 0 rfl) ?_
          refine lv_isub hx hb dX9_put_27 ?_
          refine lv_topi (fun v_4 ev_4 => ?_)
          have rg4 := iv_rng v_3
          have hv_4 : v_4.toInt = v_3.toInt - l5_3.toInt := by rw [ev_4]; exact (iv_sub (by omega) (by omega)).trans (by omega)
          clear ev_4
          refine lv_imul hx hb dX9_put_28 ?_
          refine lv_topi (fun v_5 ev_5 => ?_)
          have rg5 := iv_rng v_4
          have hv_5 : v_5.toInt = 8 * v_4.toInt := by rw [ev_5]; exact (iv_mulc z_8 (by omega) (by omega)).trans (by omega)
          clear ev_5
          refine lv_lushr hx hb dX9_put_29 rfl ?_
          refine lv_topl (fun w_6 ew_6 => ?_)
          clear ew_6
          refine lv_ldc2 hx hb hown (hts (.constantLong RX9 94 (255)) (by decide +kernel)) dX9_put_30 ?_
          refine lv_land hx hb dX9_put_33 ?_
          refine lv_topl (fun w_7 ew_7 => ?_)
          have hw_7 : 0 ≤ w_7.toInt32.toInt ∧ w_7.toInt32.toInt ≤ 255 := by rw [ew_7]; exact l255 _
          clear ew_7
          refine lv_l2i hx hb dX9_put_34 rfl ?_
          refine lv_topi (fun v_8 ev_8 => ?_)
          have hv_8 : 0 ≤ v_8.toInt ∧ v_8.toInt ≤ 255 := by rw [ev_8]; exact hw_7
          clear ev_8
          refine va_iast (f := a14_3) hx hb hK hP (rw_D hD) hS 5 4 rfl rfl (iv_in (i := v_2) (by omega) (by omega)) dX9_put_35 (fun H locs hP _ hS => ?_)
          have hP : va_P (dC, dI) vwCl (rw_W o c kc st lg (rU ai 14 (upd a14_3 v_2.toNatClampNeg v_8)) al) H := hP
          generalize hU_fresh : upd a14_3 v_2.toNatClampNeg v_8 = g_9 at hP
          clear hU_fresh
          obtain ⟨x_10, ex_10⟩ : ∃ z : Int32, z = l5_3 + (1) := ⟨_, rfl⟩
          refine lv_iinc (v := x_10) (lv' := [(5, .int x_10), (0, .ref o), (1, .int p0), (2, .long p1), (4, .int p2)]) hx hb dX9_put_36 hl (k := 0) rfl (by rw [ex_10]; rfl) (by decide) rfl (fun ls hl => ?_)
          have hx_10 : x_10.toInt = l5_3.toInt + (1) := by rw [ex_10]; exact (iv_add (by omega) (by omega)).trans (by omega)
          clear ex_10
          refine lv_goto (tgt := 3) hx hb dX9_put_39 (by decide) ?_
          exact ih3 x_10 g_9 _ _ _ (by omega) (by omega) (by omega) hP hS (lv_sub hl [0, 1, 2, 3, 4] rfl)
    exact loop3 ((p2.toInt - 0 : Int).toNat + 1) (0 : Int32) (ai 14) _ _ _ (by omega) (by omega) (by omega) hP hS (lv_sub hl [0, 1, 2, 3, 4] rfl)
  exact main s.heap [] hP hS

set_option maxHeartbeats 4000000 in
set_option maxRecDepth 100000 in
theorem v_X9_freshSum (l : Launch) (dC : Nat → ClassId) (dI : Nat → Nat → Nat) (o : Nat) (c : Nat → Nat) (kc : Nat → ClassId) (st : Nat → Int32) (lg : Nat → Int64) (ai : Nat → Nat → Int32) (al : Nat → Nat → Int64) (p0 : Int32) (p1 : Int32) (hq0 : 0 ≤ p1.toInt) (hq1 : p1.toInt ≤ 32) : Met l yX9_freshSum wsX9_freshSum ({ frames := 1, cells := 0, slots := 0, locals := 24 }) (va_Pc [.ref o, .int p0, .int p1] (fun U => va_P (dC, dI) vwCl (rw_W o c kc st lg ai al) U.heap ∧ va_K (dC, dI) vwCl (rw_T kc) U)) (vp_Sl (fun r => True)) 0 0 (fun _ => False) := by
  refine Met.ofW (cc := cX9_freshSum) (maxL := 6) (ret := (some .long)) (by decide) rfl ?_
  intro p e s m args below meth cM s₁ B hml hv
  obtain ⟨rfl, hP, hK⟩ := hv
  have hx := B.exec
  have hb := B.bytes
  have hr := B.returns
  have hts := atoms_spec (ws := wsX9_freshSum) B.pre
  have hown : s.vm.findClass RX9 = some m.cls := findClass_of_methodNamed B.named
  have hl := lv_entry ([.ref o, .int p0, .int p1]) (n := 6) (Nat.le_of_ble_eq_true rfl)
  rw [lg_entry_eq]
  generalize (lg_sl ([.ref o, .int p0, .int p1]) ++ List.replicate (6 - (lg_sl ([.ref o, .int p0, .int p1])).length) Slot.unset).toArray = ls at hl ⊢
  have hl : lv_has ls 6 [(0, .ref o), (1, .int p0), (2, .int p1)] := hl
  have z_0 : (0 : Int32).toInt = 0 := by decide
  have z_1 : (1 : Int32).toInt = 1 := by decide
  have hin9 : ∀ w ∈ u_ws RX9 TX9 38, w ∈ wsX9_freshSum := by decide +kernel
  refine lv_ldc2 hx hb hown (hts (.constantLong RX9 102 (1000003)) (by decide +kernel)) dX9_freshSum_0 ?_
  refine lv_iload_n hx hb dX9_freshSum_3 rfl (lv_at hl 1 rfl) ?_
  refine lv_i2l hx hb dX9_freshSum_4 rfl ?_
  refine lv_topl (fun w_1 ew_1 => ?_)
  clear ew_1
  refine lv_lmul hx hb dX9_freshSum_5 ?_
  refine lv_topl (fun w_2 ew_2 => ?_)
  clear ew_2
  refine lv_lstore_n (lv' := [(3, .long w_2), (0, .ref o), (1, .int p0), (2, .int p1)]) hx hb dX9_freshSum_6 rfl hl (by decide) rfl (fun ls hl => ?_)
  refine lv_iconst (v := 0) hx hb dX9_freshSum_7 (by decide) ?_
  refine lv_istore (lv' := [(5, .int (0 : Int32)), (3, .long w_2), (0, .ref o), (1, .int p0), (2, .int p1)]) hx hb dX9_freshSum_8 hl (by decide) rfl (fun ls hl => ?_)
  have loop10 : ∀ (n : Nat) (l5_10 : Int32) (l3_10 : Int64) (ls : Array Slot), (0 ≤ l5_10.toInt) → (l5_10.toInt ≤ p1.toInt) → (p1.toInt - l5_10.toInt : Int).toNat < n → lv_has ls 6 [(5, .int l5_10), (3, .long l3_10), (0, .ref o), (1, .int p0), (2, .int p1)] → W p l e (headSpec wsX9_freshSum ({ frames := 1, cells := 0, slots := 0, locals := 24 })).room s m ([.ref o, .int p0, .int p1] : List Value).toArray below meth cM s.heap [] 0 0 (MQ below (vp_Sl (fun r => True)) ([.ref o, .int p0, .int p1] : List Value).toArray s 0 0 (fun _ => False)) (F0 m 10 ls []) := by
    intro n
    induction n with
    | zero => intro l5_10 l3_10 ls if0_10 if1_10 hm; exact absurd hm (Nat.not_lt_zero _)
    | succ n ih10 =>
      intro l5_10 l3_10 ls if0_10 if1_10 hm10 hl
      refine lv_iload hx hb dX9_freshSum_10 (lv_at hl 0 rfl) ?_
      refine lv_iload_n hx hb dX9_freshSum_12 rfl (lv_at hl 4 rfl) ?_
      refine lv_icmp_ge (tgt := 34) hx hb dX9_freshSum_13 (by decide) (fun c_3 => ?_) (fun c_3 => ?_)
      · skip
        have ic_3 := iv_le c_3
        refine lv_lload_n hx hb dX9_freshSum_34 rfl (lv_at hl 1 rfl) ?_
        exact W.lret hx hb hr (fun t ht hW => ⟨_, rfl, trivial, ht⟩) (fun q h => by cases h) dX9_freshSum_35
      · skip
        have ic_3 := iv_nle c_3
        refine lv_lload_n hx hb dX9_freshSum_16 rfl (lv_at hl 1 rfl) ?_
        refine lv_aload_n hx hb dX9_freshSum_17 rfl (lv_at hl 2 rfl) ?_
        refine va_get (D := (dC, dI)) (ci := 11) (v := .ref (c 14)) (C := RX9) (T := TX9) (N := 38) hx hb hts hin9 hown hK hP 0 rfl rfl 14 (by decide) (hts (.fieldLink RX9 24 "BlockLogModel" "fresh" "[I") (by decide +kernel)) (fun _ h9 => h9) rfl dX9_freshSum_18 ?_
        refine lv_iload hx hb dX9_freshSum_21 (lv_at hl 0 rfl) ?_
        refine va_iald (f := ai 14) hx hb hK hP 5 4 rfl rfl (iv_in (i := l5_10) (by omega) (by omega)) dX9_freshSum_23 ?_
        refine lv_topi (fun v_4 ev_4 => ?_)
        clear ev_4
        refine vp_callSl (va_Run.run (va_runS (As := [.long l3_10, .int v_4]) (rest := []) ⟨hx, hb, hml, hown, hts⟩ (v_X9_more l dC dI l3_10 v_4 ) (va_cwS 2 hts gX9_freshSum_X9_more rfl rfl rfl (by decide +kernel) ⟨Nat.le_of_ble_eq_true rfl, Nat.le_of_ble_eq_true rfl⟩) ⟨fun a U g mk q => q, fun U hU hW => ⟨rfl, trivial⟩⟩ rfl rfl hl.1 rfl (lv_room (Nat.le_of_ble_eq_true rfl)) dX9_freshSum_24 ⟨Nat.le_of_ble_eq_true rfl, Nat.le_of_ble_eq_true rfl⟩)) (fun r_5 er_5 => ?_)
        have hm := er_5
        have hm : r_5 = pm l3_10 v_4 := hm
        refine lv_lstore_n (lv' := [(3, .long r_5), (5, .int l5_10), (0, .ref o), (1, .int p0), (2, .int p1)]) hx hb dX9_freshSum_27 rfl hl (by decide) rfl (fun ls hl => ?_)
        obtain ⟨x_6, ex_6⟩ : ∃ z : Int32, z = l5_10 + (1) := ⟨_, rfl⟩
        refine lv_iinc (v := x_6) (lv' := [(5, .int x_6), (3, .long r_5), (0, .ref o), (1, .int p0), (2, .int p1)]) hx hb dX9_freshSum_28 hl (k := 1) rfl (by rw [ex_6]; rfl) (by decide) rfl (fun ls hl => ?_)
        have rg1 := iv_rng l5_10
        have hx_6 : x_6.toInt = l5_10.toInt + (1) := by rw [ex_6]; exact (iv_add (by omega) (by omega)).trans (by omega)
        clear ex_6
        refine lv_goto (tgt := 10) hx hb dX9_freshSum_31 (by decide) ?_
        exact ih10 x_6 r_5 _ (by omega) (by omega) (by omega) (lv_sub hl [0, 1, 2, 3, 4] rfl)
  exact loop10 ((p1.toInt - 0 : Int).toNat + 1) (0 : Int32) w_2 _ (by omega) (by omega) (by omega) (lv_sub hl [0, 1, 2, 3, 4] rfl)

set_option maxHeartbeats 4000000 in
set_option maxRecDepth 100000 in
theorem v_X9_layRow (l : Launch) (dC : Nat → ClassId) (dI : Nat → Nat → Nat) (o : Nat) (c : Nat → Nat) (kc : Nat → ClassId) (st : Nat → Int32) (lg : Nat → Int64) (ai : Nat → Nat → Int32) (al : Nat → Nat → Int64) (p0 : Int32) (p1 : Int32) (p2 : Int32) (p3 : Int64) (sz : Nat)  : Met l yX9_layRow wsX9_layRow ({ frames := 2, cells := 0, slots := 0, locals := 49 }) (va_Pc [.ref o, .int p0, .int p1, .int p2, .long p3] (fun U => U.heap.size = sz ∧ va_P (dC, dI) vwCl (rw_W o c kc st lg ai al) U.heap ∧ va_K (dC, dI) vwCl (rw_T kc) U ∧ va_D (fun _ => True) (rw_W o c kc st lg ai al))) (va_Qv (fun (_ : Unit) => True) (fun _ t => ∃ (f14 : Nat → Int32), va_P (dC, dI) vwCl (rw_W o c kc st lg (rU ai 14 f14) al) t.heap) (va_A (rw_W o c kc st lg ai al) sz)) 0 0 (va_A (rw_W o c kc st lg ai al) sz) := by
  refine Met.ofW (cc := cX9_layRow) (maxL := 6) (ret := none) (by decide) rfl ?_
  intro p e s m args below meth cM s₁ B hml hv
  obtain ⟨rfl, hsz, hP, hK, hD0⟩ := hv
  have hx := B.exec
  have hb := B.bytes
  have hr := B.returns
  have hts := atoms_spec (ws := wsX9_layRow) B.pre
  have hown : s.vm.findClass RX9 = some m.cls := findClass_of_methodNamed B.named
  subst hsz
  have hD := hD0.self (sz := s.heap.size)
  generalize hAe : va_A (rw_W o c kc st lg ai al) s.heap.size = A at hD ⊢
  have hA : ∀ q : Nat, s.heap.size ≤ q → A q := fun q h => by rw [← hAe]; exact Or.inr h
  have hS : va_S A s.heap s.heap [] := va_S.rf
  clear hAe hD0
  have hl := lv_entry ([.ref o, .int p0, .int p1, .int p2, .long p3]) (n := 6) (Nat.le_of_ble_eq_true rfl)
  rw [lg_entry_eq]
  generalize (lg_sl ([.ref o, .int p0, .int p1, .int p2, .long p3]) ++ List.replicate (6 - (lg_sl ([.ref o, .int p0, .int p1, .int p2, .long p3])).length) Slot.unset).toArray = ls at hl ⊢
  have hl : lv_has ls 6 [(0, .ref o), (1, .int p0), (2, .int p1), (3, .int p2), (4, .long p3)] := hl
  have z_0 : (0 : Int32).toInt = 0 := by decide
  have z_1 : (1 : Int32).toInt = 1 := by decide
  have z_2 : (2 : Int32).toInt = 2 := by decide
  have z_4 : (4 : Int32).toInt = 4 := by decide
  have z_5 : (5 : Int32).toInt = 5 := by decide
  have z_6 : (6 : Int32).toInt = 6 := by decide
  have z_8 : (8 : Int32).toInt = 8 := by decide
  have z_9 : (9 : Int32).toInt = 9 := by decide
  have z_17 : (17 : Int32).toInt = 17 := by decide
  have z_23 : (23 : Int32).toInt = 23 := by decide
  have z_31 : (31 : Int32).toInt = 31 := by decide
  have z_165 : (165 : Int32).toInt = 165 := by decide
  have hin9 : ∀ w ∈ u_ws RX9 TX9 38, w ∈ wsX9_layRow := by decide +kernel
  have main : ∀ (H : Heap) (locs : List Loc), va_P (dC, dI) vwCl (rw_W o c kc st lg ai al) H → va_S A s.heap H locs → W p l e (headSpec wsX9_layRow ({ frames := 2, cells := 0, slots := 0, locals := 49 })).room s m ([.ref o, .int p0, .int p1, .int p2, .long p3] : List Value).toArray below meth cM H locs 0 0 (MQ below (va_Qv (fun (_ : Unit) => True) (fun _ t => ∃ (f14 : Nat → Int32), va_P (dC, dI) vwCl (rw_W o c kc st lg (rU ai 14 f14) al) t.heap) A) ([.ref o, .int p0, .int p1, .int p2, .long p3] : List Value).toArray s 0 0 A) (F0 m 0 ls []) := by
    intro H locs hP hS
    refine lv_aload_n hx hb dX9_layRow_0 rfl (lv_at hl 0 rfl) ?_
    refine lv_iconst (v := 0) hx hb dX9_layRow_1 (by decide) ?_
    refine lv_iload_n hx hb dX9_layRow_2 rfl (lv_at hl 1 rfl) ?_
    refine lv_i2l hx hb dX9_layRow_3 rfl ?_
    refine lv_topl (fun w_1 ew_1 => ?_)
    clear ew_1
    refine lv_iconst (v := 1) hx hb dX9_layRow_4 (by decide) ?_
    have hFc := vfree (rw_D hD : va_D A (rw_W o c kc st lg ai al)) hS hA
    refine va_callv (va_runV (As := [.int (0 : Int32), .long w_1, .int (1 : Int32)]) (rest := []) ⟨hx, hb, hml, hown, hts⟩ (v_X9_put l dC dI o c kc st lg ai al (0 : Int32) w_1 (1 : Int32) _ (by omega) (by omega) (by omega)) (cwV 3 hts gX9_layRow_X9_put rfl rfl rfl (by decide +kernel) ⟨Nat.le_of_ble_eq_true rfl, Nat.le_of_ble_eq_true rfl⟩) ⟨fun a U g mk q => by obtain ⟨q0, q1, qP, qK, qD⟩ := q; exact ⟨q0, q1, qP, va_K.moved (u := U) (U := U.calling g mk a) (Vm.Alike.refl U.vm) qK, qD⟩, va_recv hK hP (ci := 11) (q := (RX9, TX9, 38)) rfl (q0 := 0) rfl, fun U hU hW => ⟨rfl, by rw [hU], by rw [hU]; exact hP, va_K.moved hW.alike hK, rw_D (hD.weaken (fun _ _ _ _ => trivial))⟩⟩ rfl rfl hl.1 rfl (lv_room (Nat.le_of_ble_eq_true rfl)) dX9_layRow_5 ⟨Nat.le_of_ble_eq_true rfl, Nat.le_of_ble_eq_true rfl⟩) hS (fun q _ h => hFc q h) hFc (fun ur_2 t H1 locs ht hvm er_2 hB hz1 hk1 hS => ?_)
    obtain ⟨f14_2, hP1⟩ := hB
    rw [ht] at hP1
    clear hFc hz1 hk1 hvm hP
    subst ht
    have hP := hP1
    clear hP1
    generalize t.heap = H at hP hS ⊢
    have hP : va_P (dC, dI) vwCl (rw_W o c kc st lg (rU ai 14 f14_2) al) H := hP
    refine lv_aload_n hx hb dX9_layRow_8 rfl (lv_at hl 0 rfl) ?_
    refine lv_iconst (v := 1) hx hb dX9_layRow_9 (by decide) ?_
    refine lv_iload_n hx hb dX9_layRow_10 rfl (lv_at hl 2 rfl) ?_
    refine lv_i2l hx hb dX9_layRow_11 rfl ?_
    refine lv_topl (fun w_3 ew_3 => ?_)
    clear ew_3
    refine lv_iconst (v := 4) hx hb dX9_layRow_12 (by decide) ?_
    have hFc := vfree (rw_D hD : va_D A (rw_W o c kc st lg (rU ai 14 f14_2) al)) hS hA
    refine va_callv (va_runV (As := [.int (1 : Int32), .long w_3, .int (4 : Int32)]) (rest := []) ⟨hx, hb, hml, hown, hts⟩ (v_X9_put l dC dI o c kc st lg (rU ai 14 f14_2) al (1 : Int32) w_3 (4 : Int32) _ (by omega) (by omega) (by omega)) (cwV 3 hts gX9_layRow_X9_put rfl rfl rfl (by decide +kernel) ⟨Nat.le_of_ble_eq_true rfl, Nat.le_of_ble_eq_true rfl⟩) ⟨fun a U g mk q => by obtain ⟨q0, q1, qP, qK, qD⟩ := q; exact ⟨q0, q1, qP, va_K.moved (u := U) (U := U.calling g mk a) (Vm.Alike.refl U.vm) qK, qD⟩, va_recv hK hP (ci := 11) (q := (RX9, TX9, 38)) rfl (q0 := 0) rfl, fun U hU hW => ⟨rfl, by rw [hU], by rw [hU]; exact hP, va_K.moved hW.alike hK, rw_D (hD.weaken (fun _ _ _ _ => trivial))⟩⟩ rfl rfl hl.1 rfl (lv_room (Nat.le_of_ble_eq_true rfl)) dX9_layRow_13 ⟨Nat.le_of_ble_eq_true rfl, Nat.le_of_ble_eq_true rfl⟩) hS (fun q _ h => hFc q h) hFc (fun ur_4 t H1 locs ht hvm er_4 hB hz1 hk1 hS => ?_)
    obtain ⟨f14_4, hP1⟩ := hB
    rw [ht] at hP1
    clear hFc hz1 hk1 hvm hP
    subst ht
    have hP := hP1
    clear hP1
    generalize t.heap = H at hP hS ⊢
    have hP : va_P (dC, dI) vwCl (rw_W o c kc st lg (rU ai 14 f14_4) al) H := hP
    refine lv_aload_n hx hb dX9_layRow_16 rfl (lv_at hl 0 rfl) ?_
    refine lv_iconst (v := 5) hx hb dX9_layRow_17 (by decide) ?_
    refine lv_iload_n hx hb dX9_layRow_18 rfl (lv_at hl 3 rfl) ?_
    refine lv_i2l hx hb dX9_layRow_19 rfl ?_
    refine lv_topl (fun w_5 ew_5 => ?_)
    clear ew_5
    refine lv_iconst (v := 4) hx hb dX9_layRow_20 (by decide) ?_
    have hFc := vfree (rw_D hD : va_D A (rw_W o c kc st lg (rU ai 14 f14_4) al)) hS hA
    refine va_callv (va_runV (As := [.int (5 : Int32), .long w_5, .int (4 : Int32)]) (rest := []) ⟨hx, hb, hml, hown, hts⟩ (v_X9_put l dC dI o c kc st lg (rU ai 14 f14_4) al (5 : Int32) w_5 (4 : Int32) _ (by omega) (by omega) (by omega)) (cwV 3 hts gX9_layRow_X9_put rfl rfl rfl (by decide +kernel) ⟨Nat.le_of_ble_eq_true rfl, Nat.le_of_ble_eq_true rfl⟩) ⟨fun a U g mk q => by obtain ⟨q0, q1, qP, qK, qD⟩ := q; exact ⟨q0, q1, qP, va_K.moved (u := U) (U := U.calling g mk a) (Vm.Alike.refl U.vm) qK, qD⟩, va_recv hK hP (ci := 11) (q := (RX9, TX9, 38)) rfl (q0 := 0) rfl, fun U hU hW => ⟨rfl, by rw [hU], by rw [hU]; exact hP, va_K.moved hW.alike hK, rw_D (hD.weaken (fun _ _ _ _ => trivial))⟩⟩ rfl rfl hl.1 rfl (lv_room (Nat.le_of_ble_eq_true rfl)) dX9_layRow_21 ⟨Nat.le_of_ble_eq_true rfl, Nat.le_of_ble_eq_true rfl⟩) hS (fun q _ h => hFc q h) hFc (fun ur_6 t H1 locs ht hvm er_6 hB hz1 hk1 hS => ?_)
    obtain ⟨f14_6, hP1⟩ := hB
    rw [ht] at hP1
    clear hFc hz1 hk1 hvm hP
    subst ht
    have hP := hP1
    clear hP1
    generalize t.heap = H at hP hS ⊢
    have hP : va_P (dC, dI) vwCl (rw_W o c kc st lg (rU ai 14 f14_6) al) H := hP
    refine lv_aload_n hx hb dX9_layRow_24 rfl (lv_at hl 0 rfl) ?_
    refine lv_bipush (v := 9) hx hb dX9_layRow_25 (by decide) ?_
    refine lv_lload hx hb dX9_layRow_27 (lv_at hl 4 rfl) ?_
    refine lv_bipush (v := 8) hx hb dX9_layRow_29 (by decide) ?_
    have hFc := vfree (rw_D hD : va_D A (rw_W o c kc st lg (rU ai 14 f14_6) al)) hS hA
    refine va_callv (va_runV (As := [.int (9 : Int32), .long p3, .int (8 : Int32)]) (rest := []) ⟨hx, hb, hml, hown, hts⟩ (v_X9_put l dC dI o c kc st lg (rU ai 14 f14_6) al (9 : Int32) p3 (8 : Int32) _ (by omega) (by omega) (by omega)) (cwV 3 hts gX9_layRow_X9_put rfl rfl rfl (by decide +kernel) ⟨Nat.le_of_ble_eq_true rfl, Nat.le_of_ble_eq_true rfl⟩) ⟨fun a U g mk q => by obtain ⟨q0, q1, qP, qK, qD⟩ := q; exact ⟨q0, q1, qP, va_K.moved (u := U) (U := U.calling g mk a) (Vm.Alike.refl U.vm) qK, qD⟩, va_recv hK hP (ci := 11) (q := (RX9, TX9, 38)) rfl (q0 := 0) rfl, fun U hU hW => ⟨rfl, by rw [hU], by rw [hU]; exact hP, va_K.moved hW.alike hK, rw_D (hD.weaken (fun _ _ _ _ => trivial))⟩⟩ rfl rfl hl.1 rfl (lv_room (Nat.le_of_ble_eq_true rfl)) dX9_layRow_31 ⟨Nat.le_of_ble_eq_true rfl, Nat.le_of_ble_eq_true rfl⟩) hS (fun q _ h => hFc q h) hFc (fun ur_7 t H1 locs ht hvm er_7 hB hz1 hk1 hS => ?_)
    obtain ⟨f14_7, hP1⟩ := hB
    rw [ht] at hP1
    clear hFc hz1 hk1 hvm hP
    subst ht
    have hP := hP1
    clear hP1
    generalize t.heap = H at hP hS ⊢
    have hP : va_P (dC, dI) vwCl (rw_W o c kc st lg (rU ai 14 f14_7) al) H := hP
    refine lv_aload_n hx hb dX9_layRow_34 rfl (lv_at hl 0 rfl) ?_
    refine lv_bipush (v := 17) hx hb dX9_layRow_35 (by decide) ?_
    refine lv_lconst (v := 0) hx hb dX9_layRow_37 (by decide) ?_
    refine lv_bipush (v := 6) hx hb dX9_layRow_38 (by decide) ?_
    have hFc := vfree (rw_D hD : va_D A (rw_W o c kc st lg (rU ai 14 f14_7) al)) hS hA
    refine va_callv (va_runV (As := [.int (17 : Int32), .long (0 : Int64), .int (6 : Int32)]) (rest := []) ⟨hx, hb, hml, hown, hts⟩ (v_X9_put l dC dI o c kc st lg (rU ai 14 f14_7) al (17 : Int32) (0 : Int64) (6 : Int32) _ (by omega) (by omega) (by omega)) (cwV 3 hts gX9_layRow_X9_put rfl rfl rfl (by decide +kernel) ⟨Nat.le_of_ble_eq_true rfl, Nat.le_of_ble_eq_true rfl⟩) ⟨fun a U g mk q => by obtain ⟨q0, q1, qP, qK, qD⟩ := q; exact ⟨q0, q1, qP, va_K.moved (u := U) (U := U.calling g mk a) (Vm.Alike.refl U.vm) qK, qD⟩, va_recv hK hP (ci := 11) (q := (RX9, TX9, 38)) rfl (q0 := 0) rfl, fun U hU hW => ⟨rfl, by rw [hU], by rw [hU]; exact hP, va_K.moved hW.alike hK, rw_D (hD.weaken (fun _ _ _ _ => trivial))⟩⟩ rfl rfl hl.1 rfl (lv_room (Nat.le_of_ble_eq_true rfl)) dX9_layRow_40 ⟨Nat.le_of_ble_eq_true rfl, Nat.le_of_ble_eq_true rfl⟩) hS (fun q _ h => hFc q h) hFc (fun ur_8 t H1 locs ht hvm er_8 hB hz1 hk1 hS => ?_)
    obtain ⟨f14_8, hP1⟩ := hB
    rw [ht] at hP1
    clear hFc hz1 hk1 hvm hP
    subst ht
    have hP := hP1
    clear hP1
    generalize t.heap = H at hP hS ⊢
    have hP : va_P (dC, dI) vwCl (rw_W o c kc st lg (rU ai 14 f14_8) al) H := hP
    refine lv_aload_n hx hb dX9_layRow_43 rfl (lv_at hl 0 rfl) ?_
    refine lv_bipush (v := 23) hx hb dX9_layRow_44 (by decide) ?_
    refine lv_aload_n hx hb dX9_layRow_46 rfl (lv_at hl 0 rfl) ?_
    refine lv_iconst (v := 2) hx hb dX9_layRow_47 (by decide) ?_
    refine lv_bipush (v := 23) hx hb dX9_layRow_48 (by decide) ?_
    refine vp_callSl (va_Run.run (va_runV (As := [.int (2 : Int32), .int (23 : Int32)]) (rest := [.int (23 : Int32), .ref o]) ⟨hx, hb, hml, hown, hts⟩ (v_X9_freshSum l dC dI o c kc st lg (rU ai 14 f14_8) al (2 : Int32) (23 : Int32) (by omega) (by omega)) (cwV 2 hts gX9_layRow_X9_freshSum rfl rfl rfl (by decide +kernel) ⟨Nat.le_of_ble_eq_true rfl, Nat.le_of_ble_eq_true rfl⟩) ⟨fun a U g mk q => by obtain ⟨q0, qP, qK⟩ := q; exact ⟨q0, qP, va_K.moved (u := U) (U := U.calling g mk a) (Vm.Alike.refl U.vm) qK⟩, va_recv hK hP (ci := 11) (q := (RX9, TX9, 38)) rfl (q0 := 0) rfl, fun U hU hW => ⟨rfl, by rw [hU]; exact hP, va_K.moved hW.alike hK⟩⟩ rfl rfl hl.1 rfl (lv_room (Nat.le_of_ble_eq_true rfl)) dX9_layRow_50 ⟨Nat.le_of_ble_eq_true rfl, Nat.le_of_ble_eq_true rfl⟩)) (fun r_9 er_9 => ?_)
    refine lv_bipush (v := 8) hx hb dX9_layRow_53 (by decide) ?_
    have hFc := vfree (rw_D hD : va_D A (rw_W o c kc st lg (rU ai 14 f14_8) al)) hS hA
    refine va_callv (va_runV (As := [.int (23 : Int32), .long r_9, .int (8 : Int32)]) (rest := []) ⟨hx, hb, hml, hown, hts⟩ (v_X9_put l dC dI o c kc st lg (rU ai 14 f14_8) al (23 : Int32) r_9 (8 : Int32) _ (by omega) (by omega) (by omega)) (cwV 3 hts gX9_layRow_X9_put rfl rfl rfl (by decide +kernel) ⟨Nat.le_of_ble_eq_true rfl, Nat.le_of_ble_eq_true rfl⟩) ⟨fun a U g mk q => by obtain ⟨q0, q1, qP, qK, qD⟩ := q; exact ⟨q0, q1, qP, va_K.moved (u := U) (U := U.calling g mk a) (Vm.Alike.refl U.vm) qK, qD⟩, va_recv hK hP (ci := 11) (q := (RX9, TX9, 38)) rfl (q0 := 0) rfl, fun U hU hW => ⟨rfl, by rw [hU], by rw [hU]; exact hP, va_K.moved hW.alike hK, rw_D (hD.weaken (fun _ _ _ _ => trivial))⟩⟩ rfl rfl hl.1 rfl (lv_room (Nat.le_of_ble_eq_true rfl)) dX9_layRow_55 ⟨Nat.le_of_ble_eq_true rfl, Nat.le_of_ble_eq_true rfl⟩) hS (fun q _ h => hFc q h) hFc (fun ur_10 t H1 locs ht hvm er_10 hB hz1 hk1 hS => ?_)
    obtain ⟨f14_10, hP1⟩ := hB
    rw [ht] at hP1
    clear hFc hz1 hk1 hvm hP
    subst ht
    have hP := hP1
    clear hP1
    generalize t.heap = H at hP hS ⊢
    have hP : va_P (dC, dI) vwCl (rw_W o c kc st lg (rU ai 14 f14_10) al) H := hP
    refine lv_aload_n hx hb dX9_layRow_58 rfl (lv_at hl 0 rfl) ?_
    refine va_get (D := (dC, dI)) (ci := 11) (v := .ref (c 14)) (C := RX9) (T := TX9) (N := 38) hx hb hts hin9 hown hK hP 0 rfl rfl 14 (by decide) (hts (.fieldLink RX9 24 "BlockLogModel" "fresh" "[I") (by decide +kernel)) (fun _ h9 => h9) rfl dX9_layRow_59 ?_
    refine lv_bipush (v := 31) hx hb dX9_layRow_62 (by decide) ?_
    refine lv_sipush (v := 165) hx hb dX9_layRow_64 (by decide) ?_
    refine va_iast (f := f14_10) hx hb hK hP (rw_D hD) hS 5 4 rfl rfl (iv_in (i := (31 : Int32)) (by omega) (by omega)) dX9_layRow_67 (fun H locs hP _ hS => ?_)
    have hP : va_P (dC, dI) vwCl (rw_W o c kc st lg (rU ai 14 (upd f14_10 (31 : Int32).toNatClampNeg (165 : Int32))) al) H := hP
    generalize hU_fresh : upd f14_10 (31 : Int32).toNatClampNeg (165 : Int32) = g_11 at hP
    clear hU_fresh
    exact W.vret hx hb hr (fun t ht hW => ⟨⟨(), rfl, trivial, g_11, by rw [ht]; exact hP⟩, hS.F ht⟩) hS.2.2 dX9_layRow_68
  exact main s.heap [] hP hS

set_option maxHeartbeats 4000000 in
set_option maxRecDepth 100000 in
theorem v_X9_writeFresh (l : Launch) (dC : Nat → ClassId) (dI : Nat → Nat → Nat) (o : Nat) (c : Nat → Nat) (kc : Nat → ClassId) (st : Nat → Int32) (lg : Nat → Int64) (ai : Nat → Nat → Int32) (al : Nat → Nat → Int64) (p0 : Int32) (p1 : Int32) (sz : Nat) (hf3a : 0 ≤ (st 3).toInt) (hf3b : (st 3).toInt ≤ 1) (hf6a : 0 ≤ (st 6).toInt) (hf6b : (st 6).toInt ≤ 1) (hf12a : 0 ≤ (st 12).toInt) (hf12b : (st 12).toInt ≤ 8) (hq0 : 0 ≤ p0.toInt) (hq1 : 0 ≤ p1.toInt) (hq2 : p1.toInt ≤ 32) (hq3 : p0.toInt + p1.toInt ≤ 1712160) : Met l yX9_writeFresh wsX9_writeFresh ({ frames := 2, cells := 0, slots := 0, locals := 45 }) (va_Pc [.ref o, .int p0, .int p1] (fun U => U.heap.size = sz ∧ va_P (dC, dI) vwCl (rw_W o c kc st lg ai al) U.heap ∧ va_K (dC, dI) vwCl (rw_T kc) U ∧ va_D (fun _ => True) (rw_W o c kc st lg ai al))) (va_Qv (fun (_ : Unit) => True) (fun _ t => ∃ (x3 : Int32) (x4 : Int32) (x5 : Int32) (x6 : Int32) (x12 : Int32) (f0 : Nat → Int32), (0 ≤ x3.toInt) ∧ (x3.toInt ≤ 1) ∧ (0 ≤ x6.toInt) ∧ (x6.toInt ≤ 1) ∧ (0 ≤ x12.toInt) ∧ (x12.toInt ≤ 8) ∧ va_P (dC, dI) vwCl (rw_W o c kc (rU (rU (rU (rU (rU st 3 x3) 4 x4) 5 x5) 6 x6) 12 x12) lg (rU ai 0 f0) al) t.heap) (va_A (rw_W o c kc st lg ai al) sz)) 0 0 (va_A (rw_W o c kc st lg ai al) sz) := by
  refine Met.ofW (cc := cX9_writeFresh) (maxL := 4) (ret := none) (by decide) rfl ?_
  intro p e s m args below meth cM s₁ B hml hv
  obtain ⟨rfl, hsz, hP, hK, hD0⟩ := hv
  have hx := B.exec
  have hb := B.bytes
  have hr := B.returns
  have hts := atoms_spec (ws := wsX9_writeFresh) B.pre
  have hown : s.vm.findClass RX9 = some m.cls := findClass_of_methodNamed B.named
  subst hsz
  have hD := hD0.self (sz := s.heap.size)
  generalize hAe : va_A (rw_W o c kc st lg ai al) s.heap.size = A at hD ⊢
  have hA : ∀ q : Nat, s.heap.size ≤ q → A q := fun q h => by rw [← hAe]; exact Or.inr h
  have hS : va_S A s.heap s.heap [] := va_S.rf
  clear hAe hD0
  have hl := lv_entry ([.ref o, .int p0, .int p1]) (n := 4) (Nat.le_of_ble_eq_true rfl)
  rw [lg_entry_eq]
  generalize (lg_sl ([.ref o, .int p0, .int p1]) ++ List.replicate (4 - (lg_sl ([.ref o, .int p0, .int p1])).length) Slot.unset).toArray = ls at hl ⊢
  have hl : lv_has ls 4 [(0, .ref o), (1, .int p0), (2, .int p1)] := hl
  have z_0 : (0 : Int32).toInt = 0 := by decide
  have z_1 : (1 : Int32).toInt = 1 := by decide
  have hin9 : ∀ w ∈ u_ws RX9 TX9 38, w ∈ wsX9_writeFresh := by decide +kernel
  have main : ∀ (H : Heap) (locs : List Loc), va_P (dC, dI) vwCl (rw_W o c kc st lg ai al) H → va_S A s.heap H locs → W p l e (headSpec wsX9_writeFresh ({ frames := 2, cells := 0, slots := 0, locals := 45 })).room s m ([.ref o, .int p0, .int p1] : List Value).toArray below meth cM H locs 0 0 (MQ below (va_Qv (fun (_ : Unit) => True) (fun _ t => ∃ (x3 : Int32) (x4 : Int32) (x5 : Int32) (x6 : Int32) (x12 : Int32) (f0 : Nat → Int32), (0 ≤ x3.toInt) ∧ (x3.toInt ≤ 1) ∧ (0 ≤ x6.toInt) ∧ (x6.toInt ≤ 1) ∧ (0 ≤ x12.toInt) ∧ (x12.toInt ≤ 8) ∧ va_P (dC, dI) vwCl (rw_W o c kc (rU (rU (rU (rU (rU st 3 x3) 4 x4) 5 x5) 6 x6) 12 x12) lg (rU ai 0 f0) al) t.heap) A) ([.ref o, .int p0, .int p1] : List Value).toArray s 0 0 A) (F0 m 0 ls []) := by
    intro H locs hP hS
    refine lv_iconst (v := 0) hx hb dX9_writeFresh_0 (by decide) ?_
    refine lv_istore_n (lv' := [(3, .int (0 : Int32)), (0, .ref o), (1, .int p0), (2, .int p1)]) hx hb dX9_writeFresh_1 rfl hl (by decide) rfl (fun ls hl => ?_)
    have loop2 : ∀ (n : Nat) (l3_2 : Int32) (s3_2 : Int32) (s4_2 : Int32) (s5_2 : Int32) (s6_2 : Int32) (s12_2 : Int32) (a0_2 : Nat → Int32) (H : Heap) (locs : List Loc) (ls : Array Slot), (0 ≤ l3_2.toInt) → (l3_2.toInt ≤ p1.toInt) → (0 ≤ s3_2.toInt) → (s3_2.toInt ≤ 1) → (0 ≤ s6_2.toInt) → (s6_2.toInt ≤ 1) → (0 ≤ s12_2.toInt) → (s12_2.toInt ≤ 8) → (p1.toInt - l3_2.toInt : Int).toNat < n → va_P (dC, dI) vwCl (rw_W o c kc (rU (rU (rU (rU (rU st 3 s3_2) 4 s4_2) 5 s5_2) 6 s6_2) 12 s12_2) lg (rU ai 0 a0_2) al) H → va_S A s.heap H locs → lv_has ls 4 [(3, .int l3_2), (0, .ref o), (1, .int p0), (2, .int p1)] → W p l e (headSpec wsX9_writeFresh ({ frames := 2, cells := 0, slots := 0, locals := 45 })).room s m ([.ref o, .int p0, .int p1] : List Value).toArray below meth cM H locs 0 0 (MQ below (va_Qv (fun (_ : Unit) => True) (fun _ t => ∃ (x3 : Int32) (x4 : Int32) (x5 : Int32) (x6 : Int32) (x12 : Int32) (f0 : Nat → Int32), (0 ≤ x3.toInt) ∧ (x3.toInt ≤ 1) ∧ (0 ≤ x6.toInt) ∧ (x6.toInt ≤ 1) ∧ (0 ≤ x12.toInt) ∧ (x12.toInt ≤ 8) ∧ va_P (dC, dI) vwCl (rw_W o c kc (rU (rU (rU (rU (rU st 3 x3) 4 x4) 5 x5) 6 x6) 12 x12) lg (rU ai 0 f0) al) t.heap) A) ([.ref o, .int p0, .int p1] : List Value).toArray s 0 0 A) (F0 m 2 ls []) := by
      intro n
      induction n with
      | zero => intro l3_2 s3_2 s4_2 s5_2 s6_2 s12_2 a0_2 H locs ls if0_2 if1_2 if2_2 if3_2 if4_2 if5_2 if6_2 if7_2 hm; exact absurd hm (Nat.not_lt_zero _)
      | succ n ih2 =>
        intro l3_2 s3_2 s4_2 s5_2 s6_2 s12_2 a0_2 H locs ls if0_2 if1_2 if2_2 if3_2 if4_2 if5_2 if6_2 if7_2 hm2 hP hS hl
        refine lv_iload_n hx hb dX9_writeFresh_2 rfl (lv_at hl 0 rfl) ?_
        refine lv_iload_n hx hb dX9_writeFresh_3 rfl (lv_at hl 3 rfl) ?_
        refine lv_icmp_ge (tgt := 26) hx hb dX9_writeFresh_4 (by decide) (fun c_1 => ?_) (fun c_1 => ?_)
        · skip
          have ic_1 := iv_le c_1
          exact W.vret hx hb hr (fun t ht hW => ⟨⟨(), rfl, trivial, s3_2, s4_2, s5_2, s6_2, s12_2, a0_2, (by omega), (by omega), (by omega), (by omega), (by omega), (by omega), by rw [ht]; exact hP⟩, hS.F ht⟩) hS.2.2 dX9_writeFresh_26
        · skip
          have ic_1 := iv_nle c_1
          refine lv_aload_n hx hb dX9_writeFresh_7 rfl (lv_at hl 1 rfl) ?_
          refine lv_iload_n hx hb dX9_writeFresh_8 rfl (lv_at hl 2 rfl) ?_
          refine lv_iload_n hx hb dX9_writeFresh_9 rfl (lv_at hl 0 rfl) ?_
          refine lv_iadd hx hb dX9_writeFresh_10 ?_
          refine lv_topi (fun v_2 ev_2 => ?_)
          have rg1 := iv_rng p0
          have rg2 := iv_rng l3_2
          have hv_2 : v_2.toInt = p0.toInt + l3_2.toInt := by rw [ev_2]; exact (iv_add (by omega) (by omega)).trans (by omega)
          clear ev_2
          refine lv_aload_n hx hb dX9_writeFresh_11 rfl (lv_at hl 1 rfl) ?_
          refine va_get (D := (dC, dI)) (ci := 11) (v := .ref (c 14)) (C := RX9) (T := TX9) (N := 38) hx hb hts hin9 hown hK hP 0 rfl rfl 14 (by decide) (hts (.fieldLink RX9 24 "BlockLogModel" "fresh" "[I") (by decide +kernel)) (fun _ h9 => h9) rfl dX9_writeFresh_12 ?_
          refine lv_iload_n hx hb dX9_writeFresh_15 rfl (lv_at hl 0 rfl) ?_
          refine va_iald (f := ai 14) hx hb hK hP 5 4 rfl rfl (iv_in (i := l3_2) (by omega) (by omega)) dX9_writeFresh_16 ?_
          refine lv_topi (fun v_3 ev_3 => ?_)
          clear ev_3
          have hFc := vfree (rw_D hD : va_D A (rw_W o c kc (rU (rU (rU (rU (rU st 3 s3_2) 4 s4_2) 5 s5_2) 6 s6_2) 12 s12_2) lg (rU ai 0 a0_2) al)) hS hA
          refine va_callv (va_runV (As := [.int v_2, .int v_3]) (rest := []) ⟨hx, hb, hml, hown, hts⟩ (v_X9_write l dC dI o c kc (rU (rU (rU (rU (rU st 3 s3_2) 4 s4_2) 5 s5_2) 6 s6_2) 12 s12_2) lg (rU ai 0 a0_2) al v_2 v_3 _ (show 0 ≤ s3_2.toInt by omega) (show s3_2.toInt ≤ 1 by omega) (show 0 ≤ s6_2.toInt by omega) (show s6_2.toInt ≤ 1 by omega) (show 0 ≤ s12_2.toInt by omega) (show s12_2.toInt ≤ 8 by omega) (by omega) (by omega)) (cwV 2 hts gX9_writeFresh_X9_write rfl rfl rfl (by decide +kernel) ⟨Nat.le_of_ble_eq_true rfl, Nat.le_of_ble_eq_true rfl⟩) ⟨fun a U g mk q => by obtain ⟨q0, q1, qP, qK, qD⟩ := q; exact ⟨q0, q1, qP, va_K.moved (u := U) (U := U.calling g mk a) (Vm.Alike.refl U.vm) qK, qD⟩, va_recv hK hP (ci := 11) (q := (RX9, TX9, 38)) rfl (q0 := 0) rfl, fun U hU hW => ⟨rfl, by rw [hU], by rw [hU]; exact hP, va_K.moved hW.alike hK, rw_D (hD.weaken (fun _ _ _ _ => trivial))⟩⟩ rfl rfl hl.1 rfl (lv_room (Nat.le_of_ble_eq_true rfl)) dX9_writeFresh_17 ⟨Nat.le_of_ble_eq_true rfl, Nat.le_of_ble_eq_true rfl⟩) hS (fun q _ h => hFc q h) hFc (fun ur_4 t H1 locs ht hvm er_4 hB hz1 hk1 hS => ?_)
          obtain ⟨x3_4, x4_4, x5_4, x6_4, x12_4, f0_4, k_5, k_6, k_7, k_8, k_9, k_10, hP1⟩ := hB
          rw [ht] at hP1
          clear hFc hz1 hk1 hvm hP
          subst ht
          have hP := hP1
          clear hP1
          generalize t.heap = H at hP hS ⊢
          have hP : va_P (dC, dI) vwCl (rw_W o c kc (rU (rU (rU (rU (rU st 3 x3_4) 4 x4_4) 5 x5_4) 6 x6_4) 12 x12_4) lg (rU ai 0 f0_4) al) H := hP
          have k_5 : 0 ≤ x3_4.toInt := k_5
          have k_6 : x3_4.toInt ≤ 1 := k_6
          have k_7 : 0 ≤ x6_4.toInt := k_7
          have k_8 : x6_4.toInt ≤ 1 := k_8
          have k_9 : 0 ≤ x12_4.toInt := k_9
          have k_10 : x12_4.toInt ≤ 8 := k_10
          obtain ⟨x_11, ex_11⟩ : ∃ z : Int32, z = l3_2 + (1) := ⟨_, rfl⟩
          refine lv_iinc (v := x_11) (lv' := [(3, .int x_11), (0, .ref o), (1, .int p0), (2, .int p1)]) hx hb dX9_writeFresh_20 hl (k := 0) rfl (by rw [ex_11]; rfl) (by decide) rfl (fun ls hl => ?_)
          have hx_11 : x_11.toInt = l3_2.toInt + (1) := by rw [ex_11]; exact (iv_add (by omega) (by omega)).trans (by omega)
          clear ex_11
          refine lv_goto (tgt := 2) hx hb dX9_writeFresh_23 (by decide) ?_
          exact ih2 x_11 x3_4 x4_4 x5_4 x6_4 x12_4 f0_4 _ _ _ (by omega) (by omega) (by omega) (by omega) (by omega) (by omega) (by omega) (by omega) (by omega) hP hS (lv_sub hl [0, 1, 2, 3] rfl)
    exact loop2 ((p1.toInt - 0 : Int).toNat + 1) (0 : Int32) (st 3) (st 4) (st 5) (st 6) (st 12) (ai 0) _ _ _ (by omega) (by omega) (by omega) (by omega) (by omega) (by omega) (by omega) (by omega) (by omega) hP hS (lv_sub hl [0, 1, 2, 3] rfl)
  exact main s.heap [] hP hS

set_option maxHeartbeats 4000000 in
set_option maxRecDepth 100000 in
theorem v_X9_rowPlace (l : Launch) (dC : Nat → ClassId) (dI : Nat → Nat → Nat) (o : Nat) (c : Nat → Nat) (kc : Nat → ClassId) (st : Nat → Int32) (lg : Nat → Int64) (ai : Nat → Nat → Int32) (al : Nat → Nat → Int64) (p0 : Int32) (p1 : Int32) (hq0 : 0 ≤ p0.toInt) (hq1 : p0.toInt ≤ 1) (hq2 : -1 ≤ p1.toInt) (hq3 : p1.toInt ≤ 300) : Met l yX9_rowPlace wsX9_rowPlace ({ frames := 0, cells := 0, slots := 0, locals := 0 }) (va_Pc [.ref o, .int p0, .int p1] (fun U => va_P (dC, dI) vwCl (rw_W o c kc st lg ai al) U.heap ∧ va_K (dC, dI) vwCl (rw_T kc) U)) (vp_Si (fun r => (r.toInt = 32 + 4096 * p0.toInt + 32 * p1.toInt))) 0 0 (fun _ => False) := by
  refine Met.ofW (cc := cX9_rowPlace) (maxL := 3) (ret := (some .int)) (by decide) rfl ?_
  intro p e s m args below meth cM s₁ B hml hv
  obtain ⟨rfl, hP, hK⟩ := hv
  have hx := B.exec
  have hb := B.bytes
  have hr := B.returns
  have hts := atoms_spec (ws := wsX9_rowPlace) B.pre
  have hown : s.vm.findClass RX9 = some m.cls := findClass_of_methodNamed B.named
  have hl := lv_entry ([.ref o, .int p0, .int p1]) (n := 3) (Nat.le_of_ble_eq_true rfl)
  rw [lg_entry_eq]
  generalize (lg_sl ([.ref o, .int p0, .int p1]) ++ List.replicate (3 - (lg_sl ([.ref o, .int p0, .int p1])).length) Slot.unset).toArray = ls at hl ⊢
  have hl : lv_has ls 3 [(0, .ref o), (1, .int p0), (2, .int p1)] := hl
  have z_32 : (32 : Int32).toInt = 32 := by decide
  have z_4096 : (4096 : Int32).toInt = 4096 := by decide
  refine lv_bipush (v := 32) hx hb dX9_rowPlace_0 (by decide) ?_
  refine lv_sipush (v := 4096) hx hb dX9_rowPlace_2 (by decide) ?_
  refine lv_iload_n hx hb dX9_rowPlace_5 rfl (lv_at hl 1 rfl) ?_
  refine lv_imul hx hb dX9_rowPlace_6 ?_
  refine lv_topi (fun v_1 ev_1 => ?_)
  have rg1 := iv_rng p0
  have hv_1 : v_1.toInt = 4096 * p0.toInt := by rw [ev_1]; exact (iv_mulc z_4096 (by omega) (by omega)).trans (by omega)
  clear ev_1
  refine lv_iadd hx hb dX9_rowPlace_7 ?_
  refine lv_topi (fun v_2 ev_2 => ?_)
  have rg2 := iv_rng v_1
  have hv_2 : v_2.toInt = 32 + v_1.toInt := by rw [ev_2]; exact (iv_add (by omega) (by omega)).trans (by omega)
  clear ev_2
  refine lv_bipush (v := 32) hx hb dX9_rowPlace_8 (by decide) ?_
  refine lv_iload_n hx hb dX9_rowPlace_10 rfl (lv_at hl 2 rfl) ?_
  refine lv_imul hx hb dX9_rowPlace_11 ?_
  refine lv_topi (fun v_3 ev_3 => ?_)
  have rg3 := iv_rng p1
  have hv_3 : v_3.toInt = 32 * p1.toInt := by rw [ev_3]; exact (iv_mulc z_32 (by omega) (by omega)).trans (by omega)
  clear ev_3
  refine lv_iadd hx hb dX9_rowPlace_12 ?_
  refine lv_topi (fun v_4 ev_4 => ?_)
  have rg4 := iv_rng v_2
  have rg5 := iv_rng v_3
  have hv_4 : v_4.toInt = v_2.toInt + v_3.toInt := by rw [ev_4]; exact (iv_add (by omega) (by omega)).trans (by omega)
  clear ev_4
  exact W.iret hx hb hr (fun t ht hW => ⟨_, rfl, (by omega), ht⟩) (fun q h => by cases h) dX9_rowPlace_13

set_option maxHeartbeats 4000000 in
set_option maxRecDepth 100000 in
theorem v_X9_pagePlace (l : Launch) (dC : Nat → ClassId) (dI : Nat → Nat → Nat) (o : Nat) (c : Nat → Nat) (kc : Nat → ClassId) (st : Nat → Int32) (lg : Nat → Int64) (ai : Nat → Nat → Int32) (al : Nat → Nat → Int64) (p0 : Int32) (hq0 : -1 ≤ p0.toInt) (hq1 : p0.toInt ≤ 65536) : Met l yX9_pagePlace wsX9_pagePlace ({ frames := 0, cells := 0, slots := 0, locals := 0 }) (va_Pc [.ref o, .int p0] (fun U => va_P (dC, dI) vwCl (rw_W o c kc st lg ai al) U.heap ∧ va_K (dC, dI) vwCl (rw_T kc) U)) (vp_Si (fun r => (r.toInt = 8224 + 26 * p0.toInt))) 0 0 (fun _ => False) := by
  refine Met.ofW (cc := cX9_pagePlace) (maxL := 2) (ret := (some .int)) (by decide) rfl ?_
  intro p e s m args below meth cM s₁ B hml hv
  obtain ⟨rfl, hP, hK⟩ := hv
  have hx := B.exec
  have hb := B.bytes
  have hr := B.returns
  have hts := atoms_spec (ws := wsX9_pagePlace) B.pre
  have hown : s.vm.findClass RX9 = some m.cls := findClass_of_methodNamed B.named
  have hl := lv_entry ([.ref o, .int p0]) (n := 2) (Nat.le_of_ble_eq_true rfl)
  rw [lg_entry_eq]
  generalize (lg_sl ([.ref o, .int p0]) ++ List.replicate (2 - (lg_sl ([.ref o, .int p0])).length) Slot.unset).toArray = ls at hl ⊢
  have hl : lv_has ls 2 [(0, .ref o), (1, .int p0)] := hl
  have z_26 : (26 : Int32).toInt = 26 := by decide
  have z_8224 : (8224 : Int32).toInt = 8224 := by decide
  refine lv_sipush (v := 8224) hx hb dX9_pagePlace_0 (by decide) ?_
  refine lv_bipush (v := 26) hx hb dX9_pagePlace_3 (by decide) ?_
  refine lv_iload_n hx hb dX9_pagePlace_5 rfl (lv_at hl 1 rfl) ?_
  refine lv_imul hx hb dX9_pagePlace_6 ?_
  refine lv_topi (fun v_1 ev_1 => ?_)
  have rg1 := iv_rng p0
  have hv_1 : v_1.toInt = 26 * p0.toInt := by rw [ev_1]; exact (iv_mulc z_26 (by omega) (by omega)).trans (by omega)
  clear ev_1
  refine lv_iadd hx hb dX9_pagePlace_7 ?_
  refine lv_topi (fun v_2 ev_2 => ?_)
  have rg2 := iv_rng v_1
  have hv_2 : v_2.toInt = 8224 + v_1.toInt := by rw [ev_2]; exact (iv_add (by omega) (by omega)).trans (by omega)
  clear ev_2
  exact W.iret hx hb hr (fun t ht hW => ⟨_, rfl, (by omega), ht⟩) (fun q h => by cases h) dX9_pagePlace_8

set_option maxHeartbeats 4000000 in
set_option maxRecDepth 100000 in
theorem v_X9_isEmpty (l : Launch) (dC : Nat → ClassId) (dI : Nat → Nat → Nat) (o : Nat) (c : Nat → Nat) (kc : Nat → ClassId) (st : Nat → Int32) (lg : Nat → Int64) (ai : Nat → Nat → Int32) (al : Nat → Nat → Int64) (p0 : Int32) (p1 : Int32) (hq0 : 0 ≤ p0.toInt) (hq1 : 0 ≤ p1.toInt) (hq2 : p1.toInt ≤ 4096) (hq3 : p0.toInt + p1.toInt ≤ 1712160) : Met l yX9_isEmpty wsX9_isEmpty ({ frames := 1, cells := 0, slots := 0, locals := 21 }) (va_Pc [.ref o, .int p0, .int p1] (fun U => va_P (dC, dI) vwCl (rw_W o c kc st lg ai al) U.heap ∧ va_K (dC, dI) vwCl (rw_T kc) U)) (vp_Si (fun r => (0 ≤ r.toInt) ∧ (r.toInt ≤ 1) ∧ ((r.toInt = 1 → zB (ai 0) p0.toInt (p0.toInt + p1.toInt)) ∧ (r.toInt ≠ 1 → ¬ zB (ai 0) p0.toInt (p0.toInt + p1.toInt))))) 0 0 (fun _ => False) := by
  refine Met.ofW (cc := cX9_isEmpty) (maxL := 4) (ret := (some .boolean)) (by decide) rfl ?_
  intro p e s m args below meth cM s₁ B hml hv
  obtain ⟨rfl, hP, hK⟩ := hv
  have hx := B.exec
  have hb := B.bytes
  have hr := B.returns
  have hts := atoms_spec (ws := wsX9_isEmpty) B.pre
  have hown : s.vm.findClass RX9 = some m.cls := findClass_of_methodNamed B.named
  have hl := lv_entry ([.ref o, .int p0, .int p1]) (n := 4) (Nat.le_of_ble_eq_true rfl)
  rw [lg_entry_eq]
  generalize (lg_sl ([.ref o, .int p0, .int p1]) ++ List.replicate (4 - (lg_sl ([.ref o, .int p0, .int p1])).length) Slot.unset).toArray = ls at hl ⊢
  have hl : lv_has ls 4 [(0, .ref o), (1, .int p0), (2, .int p1)] := hl
  have z_0 : (0 : Int32).toInt = 0 := by decide
  have z_1 : (1 : Int32).toInt = 1 := by decide
  refine lv_iconst (v := 0) hx hb dX9_isEmpty_0 (by decide) ?_
  refine lv_istore_n (lv' := [(3, .int (0 : Int32)), (0, .ref o), (1, .int p0), (2, .int p1)]) hx hb dX9_isEmpty_1 rfl hl (by decide) rfl (fun ls hl => ?_)
  have loop2 : ∀ (n : Nat) (l3_2 : Int32) (ls : Array Slot), (0 ≤ l3_2.toInt) → (l3_2.toInt ≤ p1.toInt) → (zB (ai 0) p0.toInt (p0.toInt + l3_2.toInt)) → (p1.toInt - l3_2.toInt : Int).toNat < n → lv_has ls 4 [(3, .int l3_2), (0, .ref o), (1, .int p0), (2, .int p1)] → W p l e (headSpec wsX9_isEmpty ({ frames := 1, cells := 0, slots := 0, locals := 21 })).room s m ([.ref o, .int p0, .int p1] : List Value).toArray below meth cM s.heap [] 0 0 (MQ below (vp_Si (fun r => (0 ≤ r.toInt) ∧ (r.toInt ≤ 1) ∧ ((r.toInt = 1 → zB (ai 0) p0.toInt (p0.toInt + p1.toInt)) ∧ (r.toInt ≠ 1 → ¬ zB (ai 0) p0.toInt (p0.toInt + p1.toInt))))) ([.ref o, .int p0, .int p1] : List Value).toArray s 0 0 (fun _ => False)) (F0 m 2 ls []) := by
    intro n
    induction n with
    | zero => intro l3_2 ls if0_2 if1_2 hz hm; exact absurd hm (Nat.not_lt_zero _)
    | succ n ih2 =>
      intro l3_2 ls if0_2 if1_2 hz hm2 hl
      refine lv_iload_n hx hb dX9_isEmpty_2 rfl (lv_at hl 0 rfl) ?_
      refine lv_iload_n hx hb dX9_isEmpty_3 rfl (lv_at hl 3 rfl) ?_
      refine lv_icmp_ge (tgt := 25) hx hb dX9_isEmpty_4 (by decide) (fun c_1 => ?_) (fun c_1 => ?_)
      · skip
        have ic_1 := iv_le c_1
        refine lv_iconst (v := 1) hx hb dX9_isEmpty_25 (by decide) ?_
        exact W.zret hx hb hr rfl (fun t ht hW => ⟨_, rfl, ⟨(by omega), (by omega), ⟨fun _ => zB_e hz (by omega), fun h => absurd (by omega) h⟩⟩, ht⟩) (fun q h => by cases h) dX9_isEmpty_26
      · skip
        have ic_1 := iv_nle c_1
        refine lv_aload_n hx hb dX9_isEmpty_7 rfl (lv_at hl 1 rfl) ?_
        refine lv_iload_n hx hb dX9_isEmpty_8 rfl (lv_at hl 2 rfl) ?_
        refine lv_iload_n hx hb dX9_isEmpty_9 rfl (lv_at hl 0 rfl) ?_
        refine lv_iadd hx hb dX9_isEmpty_10 ?_
        refine lv_topi (fun v_2 ev_2 => ?_)
        have rg1 := iv_rng p0
        have rg2 := iv_rng l3_2
        have hv_2 : v_2.toInt = p0.toInt + l3_2.toInt := by rw [ev_2]; exact (iv_add (by omega) (by omega)).trans (by omega)
        clear ev_2
        have hkv : v_2.toInt = p0.toInt + l3_2.toInt := by omega
        refine vp_callSi (va_Run.run (va_runV (As := [.int v_2]) (rest := []) ⟨hx, hb, hml, hown, hts⟩ (v_X9_byteIn l dC dI o c kc st lg ai al v_2 (by omega) (by omega)) (cwV 1 hts gX9_isEmpty_X9_byteIn rfl rfl rfl (by decide +kernel) ⟨Nat.le_of_ble_eq_true rfl, Nat.le_of_ble_eq_true rfl⟩) ⟨fun a U g mk q => by obtain ⟨q0, qP, qK⟩ := q; exact ⟨q0, qP, va_K.moved (u := U) (U := U.calling g mk a) (Vm.Alike.refl U.vm) qK⟩, va_recv hK hP (ci := 11) (q := (RX9, TX9, 38)) rfl (q0 := 0) rfl, fun U hU hW => ⟨rfl, by rw [hU]; exact hP, va_K.moved hW.alike hK⟩⟩ rfl rfl hl.1 rfl (lv_room (Nat.le_of_ble_eq_true rfl)) dX9_isEmpty_11 ⟨Nat.le_of_ble_eq_true rfl, Nat.le_of_ble_eq_true rfl⟩)) (fun r_3 er_3 => ?_)
        obtain ⟨k_4, k_5, k_6⟩ := er_3
        have k_4 : r_3.toInt = (md_get (ai 0) v_2).toInt := k_4
        refine lv_if_eq (tgt := 19) hx hb dX9_isEmpty_14 (by decide) (fun c_7 => ?_) (fun c_7 => ?_)
        · skip
          have ic_7 := iv_eq c_7
          obtain ⟨x_8, ex_8⟩ : ∃ z : Int32, z = l3_2 + (1) := ⟨_, rfl⟩
          refine lv_iinc (v := x_8) (lv' := [(3, .int x_8), (0, .ref o), (1, .int p0), (2, .int p1)]) hx hb dX9_isEmpty_19 hl (k := 0) rfl (by rw [ex_8]; rfl) (by decide) rfl (fun ls hl => ?_)
          have hx_8 : x_8.toInt = l3_2.toInt + (1) := by rw [ex_8]; exact (iv_add (by omega) (by omega)).trans (by omega)
          clear ex_8
          refine lv_goto (tgt := 2) hx hb dX9_isEmpty_22 (by decide) ?_
          exact ih2 x_8 _ (by omega) (by omega) (zB_s hz hkv (by omega) (by omega)) (by omega) (lv_sub hl [0, 1, 2, 3] rfl)
        · skip
          have ic_7 := iv_ne c_7
          refine lv_iconst (v := 0) hx hb dX9_isEmpty_17 (by decide) ?_
          exact W.zret hx hb hr rfl (fun t ht hW => ⟨_, rfl, ⟨(by omega), (by omega), ⟨fun h => absurd h (by omega), fun _ => zB_n hkv (by omega) (by omega) (by omega)⟩⟩, ht⟩) (fun q h => by cases h) dX9_isEmpty_18
  exact loop2 ((p1.toInt - 0 : Int).toNat + 1) (0 : Int32) _ (by omega) (by omega) (zB_0 (by omega)) (by omega) (lv_sub hl [0, 1, 2, 3] rfl)

set_option maxHeartbeats 4000000 in
set_option maxRecDepth 100000 in
theorem v_X9_isLeafAt (l : Launch) (dC : Nat → ClassId) (dI : Nat → Nat → Nat) (o : Nat) (c : Nat → Nat) (kc : Nat → ClassId) (st : Nat → Int32) (lg : Nat → Int64) (ai : Nat → Nat → Int32) (al : Nat → Nat → Int64) (p0 : Int32) (hq0 : 0 ≤ p0.toInt) (hq1 : p0.toInt + 26 ≤ 1712160) : Met l yX9_isLeafAt wsX9_isLeafAt ({ frames := 2, cells := 0, slots := 0, locals := 44 }) (va_Pc [.ref o, .int p0] (fun U => va_P (dC, dI) vwCl (rw_W o c kc st lg ai al) U.heap ∧ va_K (dC, dI) vwCl (rw_T kc) U)) (vp_Si (fun r => (0 ≤ r.toInt) ∧ (r.toInt ≤ 1) ∧ ((r.toInt = 1 → lfP (ai 0) p0) ∧ (r.toInt ≠ 1 → ¬ lfP (ai 0) p0)))) 0 0 (fun _ => False) := by
  refine Met.ofW (cc := cX9_isLeafAt) (maxL := 3) (ret := (some .boolean)) (by decide) rfl ?_
  intro p e s m args below meth cM s₁ B hml hv
  obtain ⟨rfl, hP, hK⟩ := hv
  have hx := B.exec
  have hb := B.bytes
  have hr := B.returns
  have hts := atoms_spec (ws := wsX9_isLeafAt) B.pre
  have hown : s.vm.findClass RX9 = some m.cls := findClass_of_methodNamed B.named
  have hl := lv_entry ([.ref o, .int p0]) (n := 3) (Nat.le_of_ble_eq_true rfl)
  rw [lg_entry_eq]
  generalize (lg_sl ([.ref o, .int p0]) ++ List.replicate (3 - (lg_sl ([.ref o, .int p0])).length) Slot.unset).toArray = ls at hl ⊢
  have hl : lv_has ls 3 [(0, .ref o), (1, .int p0)] := hl
  have z_0 : (0 : Int32).toInt = 0 := by decide
  have z_1 : (1 : Int32).toInt = 1 := by decide
  have z_16 : (16 : Int32).toInt = 16 := by decide
  refine lv_aload_n hx hb dX9_isLeafAt_0 rfl (lv_at hl 0 rfl) ?_
  refine lv_iload_n hx hb dX9_isLeafAt_1 rfl (lv_at hl 1 rfl) ?_
  refine vp_callSi (va_Run.run (va_runV (As := [.int p0]) (rest := []) ⟨hx, hb, hml, hown, hts⟩ (v_X9_byteIn l dC dI o c kc st lg ai al p0 (by omega) (by omega)) (cwV 1 hts gX9_isLeafAt_X9_byteIn rfl rfl rfl (by decide +kernel) ⟨Nat.le_of_ble_eq_true rfl, Nat.le_of_ble_eq_true rfl⟩) ⟨fun a U g mk q => by obtain ⟨q0, qP, qK⟩ := q; exact ⟨q0, qP, va_K.moved (u := U) (U := U.calling g mk a) (Vm.Alike.refl U.vm) qK⟩, va_recv hK hP (ci := 11) (q := (RX9, TX9, 38)) rfl (q0 := 0) rfl, fun U hU hW => ⟨rfl, by rw [hU]; exact hP, va_K.moved hW.alike hK⟩⟩ rfl rfl hl.1 rfl (lv_room (Nat.le_of_ble_eq_true rfl)) dX9_isLeafAt_2 ⟨Nat.le_of_ble_eq_true rfl, Nat.le_of_ble_eq_true rfl⟩)) (fun r_1 er_1 => ?_)
  obtain ⟨k_2, k_3, k_4⟩ := er_1
  have k_2 : r_1.toInt = (md_get (ai 0) p0).toInt := k_2
  refine lv_istore_n (lv' := [(2, .int r_1), (0, .ref o), (1, .int p0)]) hx hb dX9_isLeafAt_5 rfl hl (by decide) rfl (fun ls hl => ?_)
  refine lv_iload_n hx hb dX9_isLeafAt_6 rfl (lv_at hl 0 rfl) ?_
  refine lv_iconst (v := 1) hx hb dX9_isLeafAt_7 (by decide) ?_
  refine lv_bipush (v := 16) hx hb dX9_isLeafAt_8 (by decide) ?_
  refine vp_callSi (va_Run.run (va_runS (As := [.int r_1, .int (1 : Int32), .int (16 : Int32)]) (rest := []) ⟨hx, hb, hml, hown, hts⟩ (v_X9_within l dC dI r_1 (1 : Int32) (16 : Int32) ) (va_cwS 3 hts gX9_isLeafAt_X9_within rfl rfl rfl (by decide +kernel) ⟨Nat.le_of_ble_eq_true rfl, Nat.le_of_ble_eq_true rfl⟩) ⟨fun a U g mk q => q, fun U hU hW => ⟨rfl, trivial⟩⟩ rfl rfl hl.1 rfl (lv_room (Nat.le_of_ble_eq_true rfl)) dX9_isLeafAt_10 ⟨Nat.le_of_ble_eq_true rfl, Nat.le_of_ble_eq_true rfl⟩)) (fun r_5 er_5 => ?_)
  obtain ⟨k_6, k_7, k_8, k_9, k_10⟩ := er_5
  rcases iv_01 (a := r_5) (by omega) (by omega) with b_11 | b_11
  · skip
    have ib_11 := iv_eq b_11
    rw [b_11]
    refine lv_if_eq (tgt := 36) hx hb dX9_isLeafAt_13 (by decide) (fun c_12 => ?_) (fun c_12 => ?_)
    · skip
      have ic_12 := iv_eq c_12
      refine lv_iconst (v := 0) hx hb dX9_isLeafAt_36 (by decide) ?_
      exact W.zret hx hb hr rfl (fun t ht hW => ⟨_, rfl, ⟨(by omega), (by omega), (by first | exact ⟨fun _ => lf_y (by omega) (by omega) (hz.1 (by omega)) (by omega) (by omega), fun h => absurd (by omega) h⟩ | exact ⟨fun h => absurd h (by omega), fun _ => lf_n1 (by omega)⟩ | exact ⟨fun h => absurd h (by omega), fun _ => lf_n2 (hz.2 (by omega)) (by omega) (by omega)⟩)⟩, ht⟩) (fun q h => by cases h) dX9_isLeafAt_37
    · skip
      have ic_12 := iv_ne c_12
      exfalso
      omega
  · skip
    have ib_11 := iv_eq b_11
    rw [b_11]
    refine lv_if_eq (tgt := 36) hx hb dX9_isLeafAt_13 (by decide) (fun c_13 => ?_) (fun c_13 => ?_)
    · skip
      have ic_13 := iv_eq c_13
      exfalso
      omega
    · skip
      have ic_13 := iv_ne c_13
      refine lv_aload_n hx hb dX9_isLeafAt_16 rfl (lv_at hl 1 rfl) ?_
      refine lv_iload_n hx hb dX9_isLeafAt_17 rfl (lv_at hl 2 rfl) ?_
      refine lv_iconst (v := 1) hx hb dX9_isLeafAt_18 (by decide) ?_
      refine lv_iadd hx hb dX9_isLeafAt_19 ?_
      refine lv_topi (fun v_14 ev_14 => ?_)
      have rg1 := iv_rng p0
      have hv_14 : v_14.toInt = p0.toInt + 1 := by rw [ev_14]; exact (iv_add (by omega) (by omega)).trans (by omega)
      clear ev_14
      refine lv_iload_n hx hb dX9_isLeafAt_20 rfl (lv_at hl 0 rfl) ?_
      refine lv_iadd hx hb dX9_isLeafAt_21 ?_
      refine lv_topi (fun v_15 ev_15 => ?_)
      have rg2 := iv_rng v_14
      have rg3 := iv_rng r_1
      have hv_15 : v_15.toInt = v_14.toInt + r_1.toInt := by rw [ev_15]; exact (iv_add (by omega) (by omega)).trans (by omega)
      clear ev_15
      refine lv_bipush (v := 16) hx hb dX9_isLeafAt_22 (by decide) ?_
      refine lv_iload_n hx hb dX9_isLeafAt_24 rfl (lv_at hl 0 rfl) ?_
      refine lv_isub hx hb dX9_isLeafAt_25 ?_
      refine lv_topi (fun v_16 ev_16 => ?_)
      have hv_16 : v_16.toInt = 16 - r_1.toInt := by rw [ev_16]; exact (iv_sub (by omega) (by omega)).trans (by omega)
      clear ev_16
      refine vp_callSi (va_Run.run (va_runV (As := [.int v_15, .int v_16]) (rest := []) ⟨hx, hb, hml, hown, hts⟩ (v_X9_isEmpty l dC dI o c kc st lg ai al v_15 v_16 (by omega) (by omega) (by omega) (by omega)) (cwV 2 hts gX9_isLeafAt_X9_isEmpty rfl rfl rfl (by decide +kernel) ⟨Nat.le_of_ble_eq_true rfl, Nat.le_of_ble_eq_true rfl⟩) ⟨fun a U g mk q => by obtain ⟨q0, qP, qK⟩ := q; exact ⟨q0, qP, va_K.moved (u := U) (U := U.calling g mk a) (Vm.Alike.refl U.vm) qK⟩, va_recv hK hP (ci := 11) (q := (RX9, TX9, 38)) rfl (q0 := 0) rfl, fun U hU hW => ⟨rfl, by rw [hU]; exact hP, va_K.moved hW.alike hK⟩⟩ rfl rfl hl.1 rfl (lv_room (Nat.le_of_ble_eq_true rfl)) dX9_isLeafAt_26 ⟨Nat.le_of_ble_eq_true rfl, Nat.le_of_ble_eq_true rfl⟩)) (fun r_17 er_17 => ?_)
      obtain ⟨k_18, k_19, hz⟩ := er_17
      have hz : (r_17.toInt = 1 → zB (ai 0) v_15.toInt (v_15.toInt + v_16.toInt)) ∧ (r_17.toInt ≠ 1 → ¬ zB (ai 0) v_15.toInt (v_15.toInt + v_16.toInt)) := hz
      rcases iv_01 (a := r_17) (by omega) (by omega) with b_20 | b_20
      · skip
        have ib_20 := iv_eq b_20
        rw [b_20]
        refine lv_if_eq (tgt := 36) hx hb dX9_isLeafAt_29 (by decide) (fun c_21 => ?_) (fun c_21 => ?_)
        · skip
          have ic_21 := iv_eq c_21
          refine lv_iconst (v := 0) hx hb dX9_isLeafAt_36 (by decide) ?_
          exact W.zret hx hb hr rfl (fun t ht hW => ⟨_, rfl, ⟨(by omega), (by omega), (by first | exact ⟨fun _ => lf_y (by omega) (by omega) (hz.1 (by omega)) (by omega) (by omega), fun h => absurd (by omega) h⟩ | exact ⟨fun h => absurd h (by omega), fun _ => lf_n1 (by omega)⟩ | exact ⟨fun h => absurd h (by omega), fun _ => lf_n2 (hz.2 (by omega)) (by omega) (by omega)⟩)⟩, ht⟩) (fun q h => by cases h) dX9_isLeafAt_37
        · skip
          have ic_21 := iv_ne c_21
          exfalso
          omega
      · skip
        have ib_20 := iv_eq b_20
        rw [b_20]
        refine lv_if_eq (tgt := 36) hx hb dX9_isLeafAt_29 (by decide) (fun c_22 => ?_) (fun c_22 => ?_)
        · skip
          have ic_22 := iv_eq c_22
          exfalso
          omega
        · skip
          have ic_22 := iv_ne c_22
          refine lv_iconst (v := 1) hx hb dX9_isLeafAt_32 (by decide) ?_
          refine lv_goto (tgt := 37) hx hb dX9_isLeafAt_33 (by decide) ?_
          exact W.zret hx hb hr rfl (fun t ht hW => ⟨_, rfl, ⟨(by omega), (by omega), (by first | exact ⟨fun _ => lf_y (by omega) (by omega) (hz.1 (by omega)) (by omega) (by omega), fun h => absurd (by omega) h⟩ | exact ⟨fun h => absurd h (by omega), fun _ => lf_n1 (by omega)⟩ | exact ⟨fun h => absurd h (by omega), fun _ => lf_n2 (hz.2 (by omega)) (by omega) (by omega)⟩)⟩, ht⟩) (fun q h => by cases h) dX9_isLeafAt_37
