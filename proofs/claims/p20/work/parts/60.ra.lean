set_option maxHeartbeats 4000000 in
set_option maxRecDepth 100000 in
theorem v_X9_more (l : Launch) (dC : Nat → ClassId) (dI : Nat → Nat → Nat) (p0 : Int64) (p1 : Int32)  : Met l yX9_more wsX9_more ({ frames := 0, cells := 0, slots := 0, locals := 0 }) (va_Pc [.long p0, .int p1] (fun U => True)) (vp_Sl (fun _ => True)) 0 0 (fun _ => False) := by
  refine Met.ofW (cc := cX9_more) (maxL := 5) (ret := (some .long)) (by decide) rfl ?_
  intro p e s m args below meth c s₁ B hml hv
  obtain ⟨rfl, -⟩ := hv
  have hx := B.exec
  have hb := B.bytes
  have hr := B.returns
  have hts := atoms_spec (ws := wsX9_more) B.pre
  have hown : s.vm.findClass RX9 = some m.cls := findClass_of_methodNamed B.named
  have hl := lv_entry ([.long p0, .int p1]) (n := 5) (Nat.le_of_ble_eq_true rfl)
  rw [lg_entry_eq]
  generalize (lg_sl ([.long p0, .int p1]) ++ List.replicate (5 - (lg_sl ([.long p0, .int p1])).length) Slot.unset).toArray = ls at hl ⊢
  have hl : lv_has ls 5 [(0, .long p0), (2, .int p1)] := hl
  have z_21 : (21 : Int32).toInt = 21 := by decide
  have z_43 : (43 : Int32).toInt = 43 := by decide
  refine lv_lload_n hx hb dX9_more_0 rfl (lv_at hl 0 rfl) ?_
  refine lv_iload_n hx hb dX9_more_1 rfl (lv_at hl 1 rfl) ?_
  refine lv_i2l hx hb dX9_more_2 rfl ?_
  refine lv_topl (fun w_1 ew_1 => ?_)
  clear ew_1
  refine lv_lxor hx hb dX9_more_3 ?_
  refine lv_topl (fun w_2 ew_2 => ?_)
  clear ew_2
  refine lv_lstore_n (lv' := [(3, .long w_2), (0, .long p0), (2, .int p1)]) hx hb dX9_more_4 rfl hl (by decide) rfl (fun ls hl => ?_)
  refine lv_lload_n hx hb dX9_more_5 rfl (lv_at hl 0 rfl) ?_
  refine lv_bipush (v := 21) hx hb dX9_more_6 (by decide) ?_
  refine lv_lshl hx hb dX9_more_8 rfl ?_
  refine lv_topl (fun w_3 ew_3 => ?_)
  clear ew_3
  refine lv_lload_n hx hb dX9_more_9 rfl (lv_at hl 0 rfl) ?_
  refine lv_bipush (v := 43) hx hb dX9_more_10 (by decide) ?_
  refine lv_lushr hx hb dX9_more_12 rfl ?_
  refine lv_topl (fun w_4 ew_4 => ?_)
  clear ew_4
  refine lv_lor hx hb dX9_more_13 ?_
  refine lv_topl (fun w_5 ew_5 => ?_)
  clear ew_5
  refine lv_ldc2 hx hb hown (hts (.constantLong RX9 100 (-4417276706812531889)) (by decide +kernel)) dX9_more_14 ?_
  refine lv_lmul hx hb dX9_more_17 ?_
  refine lv_topl (fun w_6 ew_6 => ?_)
  clear ew_6
  exact W.lret hx hb hr (fun t ht hW => ⟨_, rfl, trivial, ht⟩) (fun q h => by cases h) dX9_more_18

set_option maxHeartbeats 4000000 in
set_option maxRecDepth 100000 in
theorem v_X9_within (l : Launch) (dC : Nat → ClassId) (dI : Nat → Nat → Nat) (p0 : Int32) (p1 : Int32) (p2 : Int32)  : Met l yX9_within wsX9_within ({ frames := 0, cells := 0, slots := 0, locals := 0 }) (va_Pc [.int p0, .int p1, .int p2] (fun U => True)) (vp_Si (fun r => (r.toInt = 1 → p1.toInt ≤ p0.toInt) ∧ (r.toInt = 1 → p0.toInt ≤ p2.toInt) ∧ ((p1.toInt ≤ p0.toInt ∧ p0.toInt ≤ p2.toInt) → r.toInt = 1) ∧ (0 ≤ r.toInt) ∧ (r.toInt ≤ 1))) 0 0 (fun _ => False) := by
  refine Met.ofW (cc := cX9_within) (maxL := 3) (ret := (some .boolean)) (by decide) rfl ?_
  intro p e s m args below meth c s₁ B hml hv
  obtain ⟨rfl, -⟩ := hv
  have hx := B.exec
  have hb := B.bytes
  have hr := B.returns
  have hts := atoms_spec (ws := wsX9_within) B.pre
  have hown : s.vm.findClass RX9 = some m.cls := findClass_of_methodNamed B.named
  have hl := lv_entry ([.int p0, .int p1, .int p2]) (n := 3) (Nat.le_of_ble_eq_true rfl)
  rw [lg_entry_eq]
  generalize (lg_sl ([.int p0, .int p1, .int p2]) ++ List.replicate (3 - (lg_sl ([.int p0, .int p1, .int p2])).length) Slot.unset).toArray = ls at hl ⊢
  have hl : lv_has ls 3 [(0, .int p0), (1, .int p1), (2, .int p2)] := hl
  have z_0 : (0 : Int32).toInt = 0 := by decide
  have z_1 : (1 : Int32).toInt = 1 := by decide
  refine lv_iload_n hx hb dX9_within_0 rfl (lv_at hl 0 rfl) ?_
  refine lv_iload_n hx hb dX9_within_1 rfl (lv_at hl 1 rfl) ?_
  refine lv_icmp_lt (tgt := 14) hx hb dX9_within_2 (by decide) (fun c_1 => ?_) (fun c_1 => ?_)
  · skip
    have ic_1 := iv_lt c_1
    refine lv_iconst (v := 0) hx hb dX9_within_14 (by decide) ?_
    exact W.zret hx hb hr rfl (fun t ht hW => ⟨_, rfl, ⟨(by omega), (by omega), (by omega), (by omega), (by omega)⟩, ht⟩) (fun q h => by cases h) dX9_within_15
  · skip
    have ic_1 := iv_nlt c_1
    refine lv_iload_n hx hb dX9_within_5 rfl (lv_at hl 0 rfl) ?_
    refine lv_iload_n hx hb dX9_within_6 rfl (lv_at hl 2 rfl) ?_
    refine lv_icmp_gt (tgt := 14) hx hb dX9_within_7 (by decide) (fun c_2 => ?_) (fun c_2 => ?_)
    · skip
      have ic_2 := iv_lt c_2
      refine lv_iconst (v := 0) hx hb dX9_within_14 (by decide) ?_
      exact W.zret hx hb hr rfl (fun t ht hW => ⟨_, rfl, ⟨(by omega), (by omega), (by omega), (by omega), (by omega)⟩, ht⟩) (fun q h => by cases h) dX9_within_15
    · skip
      have ic_2 := iv_nlt c_2
      refine lv_iconst (v := 1) hx hb dX9_within_10 (by decide) ?_
      refine lv_goto (tgt := 15) hx hb dX9_within_11 (by decide) ?_
      exact W.zret hx hb hr rfl (fun t ht hW => ⟨_, rfl, ⟨(by omega), (by omega), (by omega), (by omega), (by omega)⟩, ht⟩) (fun q h => by cases h) dX9_within_15

set_option maxHeartbeats 4000000 in
set_option maxRecDepth 100000 in
theorem v_X9_set (l : Launch) (dC : Nat → ClassId) (dI : Nat → Nat → Nat) (o : Nat) (c : Nat → Nat) (kc : Nat → ClassId) (st : Nat → Int32) (lg : Nat → Int64) (ai : Nat → Nat → Int32) (al : Nat → Nat → Int64) (p0 : Int32) (p1 : Int32) (sz : Nat) (hq0 : 0 ≤ p0.toInt) (hq1 : p0.toInt < 1712160) : Met l yX9_set wsX9_set ({ frames := 0, cells := 0, slots := 0, locals := 0 }) (va_Pc [.ref o, .int p0, .int p1] (fun U => U.heap.size = sz ∧ va_P (dC, dI) vwCl (rw_W o c kc st lg ai al) U.heap ∧ va_K (dC, dI) vwCl (rw_T kc) U ∧ va_D (fun _ => True) (rw_W o c kc st lg ai al))) (va_Qv (fun (_ : Unit) => True) (fun _ t => ∃ (f0 : Nat → Int32), va_P (dC, dI) vwCl (rw_W o c kc st lg (rU ai 0 f0) al) t.heap) (va_A (rw_W o c kc st lg ai al) sz)) 0 0 (va_A (rw_W o c kc st lg ai al) sz) := by
  refine Met.ofW (cc := cX9_set) (maxL := 4) (ret := none) (by decide) rfl ?_
  intro p e s m args below meth cM s₁ B hml hv
  obtain ⟨rfl, hsz, hP, hK, hD0⟩ := hv
  have hx := B.exec
  have hb := B.bytes
  have hr := B.returns
  have hts := atoms_spec (ws := wsX9_set) B.pre
  have hown : s.vm.findClass RX9 = some m.cls := findClass_of_methodNamed B.named
  subst hsz
  have hD := hD0.self (sz := s.heap.size)
  generalize hAe : va_A (rw_W o c kc st lg ai al) s.heap.size = A at hD ⊢
  have hA : ∀ q : Nat, s.heap.size ≤ q → A q := fun q h => by rw [← hAe]; exact Or.inr h
  have hS : va_S A s.heap s.heap [] := va_S.rf
  clear hAe hD0
  have hl := lv_entry ([.ref o, .int p0, .int p1]) (n := 4) (Nat.le_of_ble_eq_true rfl)
  rw [lg_entry_eq]
  generalize (lg_sl ([.ref o, .int p0, .int p1]) ++ List.replicate (4 - (lg_sl ([.ref o, .int p0, .int p1])).length) Slot.unset).toArray = ls at hl ⊢
  have hl : lv_has ls 4 [(0, .ref o), (1, .int p0), (2, .int p1)] := hl
  have z_m1 : (-1 : Int32).toInt = -1 := by decide
  have z_2 : (2 : Int32).toInt = 2 := by decide
  have z_3 : (3 : Int32).toInt = 3 := by decide
  have z_8 : (8 : Int32).toInt = 8 := by decide
  have z_255 : (255 : Int32).toInt = 255 := by decide
  have hin9 : ∀ w ∈ u_ws RX9 TX9 38, w ∈ wsX9_set := by decide +kernel
  have main : ∀ (H : Heap) (locs : List Loc), va_P (dC, dI) vwCl (rw_W o c kc st lg ai al) H → va_S A s.heap H locs → W p l e (headSpec wsX9_set ({ frames := 0, cells := 0, slots := 0, locals := 0 })).room s m ([.ref o, .int p0, .int p1] : List Value).toArray below meth cM H locs 0 0 (MQ below (va_Qv (fun (_ : Unit) => True) (fun _ t => ∃ (f0 : Nat → Int32), va_P (dC, dI) vwCl (rw_W o c kc st lg (rU ai 0 f0) al) t.heap) A) ([.ref o, .int p0, .int p1] : List Value).toArray s 0 0 A) (F0 m 0 ls []) := by
    intro H locs hP hS
    refine lv_bipush (v := 8) hx hb dX9_set_0 (by decide) ?_
    refine lv_iload_n hx hb dX9_set_2 rfl (lv_at hl 1 rfl) ?_
    refine lv_iconst (v := 3) hx hb dX9_set_3 (by decide) ?_
    refine lv_iand hx hb dX9_set_4 ?_
    refine lv_topi (fun v_1 ev_1 => ?_)
    clear ev_1
    refine lv_imul hx hb dX9_set_5 ?_
    refine lv_topi (fun v_2 ev_2 => ?_)
    clear ev_2
    refine lv_istore_n (lv' := [(3, .int v_2), (0, .ref o), (1, .int p0), (2, .int p1)]) hx hb dX9_set_6 rfl hl (by decide) rfl (fun ls hl => ?_)
    refine lv_aload_n hx hb dX9_set_7 rfl (lv_at hl 1 rfl) ?_
    refine va_get (D := (dC, dI)) (ci := 11) (v := .ref (c 0)) (C := RX9) (T := TX9) (N := 38) hx hb hts hin9 hown hK hP 0 rfl rfl 0 (by decide) (hts (.fieldLink RX9 8 "BlockLogModel" "disk" "[I") (by decide +kernel)) (fun _ h9 => h9) rfl dX9_set_8 ?_
    refine lv_iload_n hx hb dX9_set_11 rfl (lv_at hl 2 rfl) ?_
    refine lv_iconst (v := 2) hx hb dX9_set_12 (by decide) ?_
    refine lv_ishr hx hb dX9_set_13 ?_
    refine lv_topi (fun v_3 ev_3 => ?_)
    have hv_3 : v_3.toInt = p0.toInt / 4 := by rw [ev_3]; exact iv_shr2 _
    clear ev_3
    refine lv_aload_n hx hb dX9_set_14 rfl (lv_at hl 1 rfl) ?_
    refine va_get (D := (dC, dI)) (ci := 11) (v := .ref (c 0)) (C := RX9) (T := TX9) (N := 38) hx hb hts hin9 hown hK hP 0 rfl rfl 0 (by decide) (hts (.fieldLink RX9 8 "BlockLogModel" "disk" "[I") (by decide +kernel)) (fun _ h9 => h9) rfl dX9_set_15 ?_
    refine lv_iload_n hx hb dX9_set_18 rfl (lv_at hl 2 rfl) ?_
    refine lv_iconst (v := 2) hx hb dX9_set_19 (by decide) ?_
    refine lv_ishr hx hb dX9_set_20 ?_
    refine lv_topi (fun v_4 ev_4 => ?_)
    have hv_4 : v_4.toInt = p0.toInt / 4 := by rw [ev_4]; exact iv_shr2 _
    clear ev_4
    refine va_iald (f := ai 0) hx hb hK hP 1 0 rfl rfl (iv_in (i := v_4) (by omega) (by omega)) dX9_set_21 ?_
    refine lv_topi (fun v_5 ev_5 => ?_)
    clear ev_5
    refine lv_sipush (v := 255) hx hb dX9_set_22 (by decide) ?_
    refine lv_iload_n hx hb dX9_set_25 rfl (lv_at hl 0 rfl) ?_
    refine lv_ishl hx hb dX9_set_26 ?_
    refine lv_topi (fun v_6 ev_6 => ?_)
    clear ev_6
    refine lv_iconst (v := (-1)) hx hb dX9_set_27 (by decide) ?_
    refine lv_ixor hx hb dX9_set_28 ?_
    refine lv_topi (fun v_7 ev_7 => ?_)
    clear ev_7
    refine lv_iand hx hb dX9_set_29 ?_
    refine lv_topi (fun v_8 ev_8 => ?_)
    clear ev_8
    refine lv_iload_n hx hb dX9_set_30 rfl (lv_at hl 3 rfl) ?_
    refine lv_iload_n hx hb dX9_set_31 rfl (lv_at hl 0 rfl) ?_
    refine lv_ishl hx hb dX9_set_32 ?_
    refine lv_topi (fun v_9 ev_9 => ?_)
    clear ev_9
    refine lv_ior hx hb dX9_set_33 ?_
    refine lv_topi (fun v_10 ev_10 => ?_)
    clear ev_10
    refine va_iast (f := ai 0) hx hb hK hP (rw_D hD) hS 1 0 rfl rfl (iv_in (i := v_3) (by omega) (by omega)) dX9_set_34 (fun H locs hP _ hS => ?_)
    have hP : va_P (dC, dI) vwCl (rw_W o c kc st lg (rU ai 0 (upd (ai 0) v_3.toNatClampNeg v_10)) al) H := hP
    generalize upd (ai 0) v_3.toNatClampNeg v_10 = g_11 at hP
    exact W.vret hx hb hr (fun t ht hW => ⟨⟨(), rfl, trivial, g_11, by rw [ht]; exact hP⟩, hS.F ht⟩) hS.2.2 dX9_set_35
  exact main s.heap [] hP hS

set_option maxHeartbeats 4000000 in
set_option maxRecDepth 100000 in
theorem v_X9_sumOf (l : Launch) (dC : Nat → ClassId) (dI : Nat → Nat → Nat) (o : Nat) (c : Nat → Nat) (kc : Nat → ClassId) (st : Nat → Int32) (lg : Nat → Int64) (ai : Nat → Nat → Int32) (al : Nat → Nat → Int64) (p0 : Int32) (p1 : Int32) (p2 : Int32) (hq0 : 0 ≤ p1.toInt) (hq1 : 0 ≤ p2.toInt) (hq2 : p2.toInt ≤ 64) (hq3 : p1.toInt + p2.toInt ≤ 1712160) : Met l yX9_sumOf wsX9_sumOf ({ frames := 1, cells := 0, slots := 0, locals := 24 }) (va_Pc [.ref o, .int p0, .int p1, .int p2] (fun U => va_P (dC, dI) vwCl (rw_W o c kc st lg ai al) U.heap ∧ va_K (dC, dI) vwCl (rw_T kc) U)) (vp_Sl (fun _ => True)) 0 0 (fun _ => False) := by
  refine Met.ofW (cc := cX9_sumOf) (maxL := 7) (ret := (some .long)) (by decide) rfl ?_
  intro p e s m args below meth cM s₁ B hml hv
  obtain ⟨rfl, hP, hK⟩ := hv
  have hx := B.exec
  have hb := B.bytes
  have hr := B.returns
  have hts := atoms_spec (ws := wsX9_sumOf) B.pre
  have hown : s.vm.findClass RX9 = some m.cls := findClass_of_methodNamed B.named
  have hl := lv_entry ([.ref o, .int p0, .int p1, .int p2]) (n := 7) (Nat.le_of_ble_eq_true rfl)
  rw [lg_entry_eq]
  generalize (lg_sl ([.ref o, .int p0, .int p1, .int p2]) ++ List.replicate (7 - (lg_sl ([.ref o, .int p0, .int p1, .int p2])).length) Slot.unset).toArray = ls at hl ⊢
  have hl : lv_has ls 7 [(0, .ref o), (1, .int p0), (2, .int p1), (3, .int p2)] := hl
  have z_0 : (0 : Int32).toInt = 0 := by decide
  have z_1 : (1 : Int32).toInt = 1 := by decide
  refine lv_ldc2 hx hb hown (hts (.constantLong RX9 102 (1000003)) (by decide +kernel)) dX9_sumOf_0 ?_
  refine lv_iload_n hx hb dX9_sumOf_3 rfl (lv_at hl 1 rfl) ?_
  refine lv_i2l hx hb dX9_sumOf_4 rfl ?_
  refine lv_topl (fun w_1 ew_1 => ?_)
  clear ew_1
  refine lv_lmul hx hb dX9_sumOf_5 ?_
  refine lv_topl (fun w_2 ew_2 => ?_)
  clear ew_2
  refine lv_lstore (lv' := [(4, .long w_2), (0, .ref o), (1, .int p0), (2, .int p1), (3, .int p2)]) hx hb dX9_sumOf_6 hl (by decide) rfl (fun ls hl => ?_)
  refine lv_iconst (v := 0) hx hb dX9_sumOf_8 (by decide) ?_
  refine lv_istore (lv' := [(6, .int (0 : Int32)), (4, .long w_2), (0, .ref o), (1, .int p0), (2, .int p1), (3, .int p2)]) hx hb dX9_sumOf_9 hl (by decide) rfl (fun ls hl => ?_)
  have loop11 : ∀ (n : Nat) (l6_11 : Int32) (l4_11 : Int64) (ls : Array Slot), (0 ≤ l6_11.toInt) → (l6_11.toInt ≤ p2.toInt) → (p2.toInt - l6_11.toInt : Int).toNat < n → lv_has ls 7 [(6, .int l6_11), (4, .long l4_11), (0, .ref o), (1, .int p0), (2, .int p1), (3, .int p2)] → W p l e (headSpec wsX9_sumOf ({ frames := 1, cells := 0, slots := 0, locals := 24 })).room s m ([.ref o, .int p0, .int p1, .int p2] : List Value).toArray below meth cM s.heap [] 0 0 (MQ below (vp_Sl (fun _ => True)) ([.ref o, .int p0, .int p1, .int p2] : List Value).toArray s 0 0 (fun _ => False)) (F0 m 11 ls []) := by
    intro n
    induction n with
    | zero => intro l6_11 l4_11 ls if0_11 if1_11 hm; exact absurd hm (Nat.not_lt_zero _)
    | succ n ih11 =>
      intro l6_11 l4_11 ls if0_11 if1_11 hm11 hl
      refine lv_iload hx hb dX9_sumOf_11 (lv_at hl 0 rfl) ?_
      refine lv_iload_n hx hb dX9_sumOf_13 rfl (lv_at hl 5 rfl) ?_
      refine lv_icmp_ge (tgt := 38) hx hb dX9_sumOf_14 (by decide) (fun c_3 => ?_) (fun c_3 => ?_)
      · skip
        have ic_3 := iv_le c_3
        refine lv_lload hx hb dX9_sumOf_38 (lv_at hl 1 rfl) ?_
        exact W.lret hx hb hr (fun t ht hW => ⟨_, rfl, trivial, ht⟩) (fun q h => by cases h) dX9_sumOf_40
      · skip
        have ic_3 := iv_nle c_3
        refine lv_lload hx hb dX9_sumOf_17 (lv_at hl 1 rfl) ?_
        refine lv_aload_n hx hb dX9_sumOf_19 rfl (lv_at hl 2 rfl) ?_
        refine lv_iload_n hx hb dX9_sumOf_20 rfl (lv_at hl 4 rfl) ?_
        refine lv_iload hx hb dX9_sumOf_21 (lv_at hl 0 rfl) ?_
        refine lv_iadd hx hb dX9_sumOf_23 ?_
        refine lv_topi (fun v_4 ev_4 => ?_)
        have hv_4 : v_4.toInt = p1.toInt + l6_11.toInt := by rw [ev_4]; exact (iv_add (by omega) (by omega)).trans (by omega)
        clear ev_4
        refine vp_callSi (va_Run.run (va_runV (As := [.int v_4]) (rest := [.long l4_11]) ⟨hx, hb, hml, hown, hts⟩ (v_X9_byteIn l dC dI o c kc st lg ai al v_4 (by omega) (by omega)) (cwV 1 hts gX9_sumOf_X9_byteIn rfl rfl rfl (by decide +kernel) ⟨Nat.le_of_ble_eq_true rfl, Nat.le_of_ble_eq_true rfl⟩) ⟨fun a U g mk q => by obtain ⟨q0, qP, qK⟩ := q; exact ⟨q0, qP, va_K.moved (u := U) (U := U.calling g mk a) (Vm.Alike.refl U.vm) qK⟩, va_recv hK hP (ci := 11) (q := (RX9, TX9, 38)) rfl (q0 := 0) rfl, fun U hU hW => ⟨rfl, by rw [hU]; exact hP, va_K.moved hW.alike hK⟩⟩ rfl rfl hl.1 rfl (lv_room (Nat.le_of_ble_eq_true rfl)) dX9_sumOf_24 ⟨Nat.le_of_ble_eq_true rfl, Nat.le_of_ble_eq_true rfl⟩)) (fun r_5 er_5 => ?_)
        obtain ⟨k_6, k_7, k_8⟩ := er_5
        refine vp_callSl (va_Run.run (va_runS (As := [.long l4_11, .int r_5]) (rest := []) ⟨hx, hb, hml, hown, hts⟩ (v_X9_more l dC dI l4_11 r_5 ) (va_cwS 2 hts gX9_sumOf_X9_more rfl rfl rfl (by decide +kernel) ⟨Nat.le_of_ble_eq_true rfl, Nat.le_of_ble_eq_true rfl⟩) ⟨fun a U g mk q => q, fun U hU hW => ⟨rfl, trivial⟩⟩ rfl rfl hl.1 rfl (lv_room (Nat.le_of_ble_eq_true rfl)) dX9_sumOf_27 ⟨Nat.le_of_ble_eq_true rfl, Nat.le_of_ble_eq_true rfl⟩)) (fun r_9 er_9 => ?_)
        refine lv_lstore (lv' := [(4, .long r_9), (6, .int l6_11), (0, .ref o), (1, .int p0), (2, .int p1), (3, .int p2)]) hx hb dX9_sumOf_30 hl (by decide) rfl (fun ls hl => ?_)
        obtain ⟨x_10, ex_10⟩ : ∃ z : Int32, z = l6_11 + (1) := ⟨_, rfl⟩
        refine lv_iinc (v := x_10) (lv' := [(6, .int x_10), (4, .long r_9), (0, .ref o), (1, .int p0), (2, .int p1), (3, .int p2)]) hx hb dX9_sumOf_32 hl (k := 1) rfl (by rw [ex_10]; rfl) (by decide) rfl (fun ls hl => ?_)
        have hx_10 : x_10.toInt = l6_11.toInt + (1) := by rw [ex_10]; exact (iv_add (by omega) (by omega)).trans (by omega)
        clear ex_10
        refine lv_goto (tgt := 11) hx hb dX9_sumOf_35 (by decide) ?_
        exact ih11 x_10 r_9 _ (by omega) (by omega) (by omega) (lv_sub hl [0, 1, 2, 3, 4, 5] rfl)
  exact loop11 ((p2.toInt - 0 : Int).toNat + 1) (0 : Int32) w_2 _ (by omega) (by omega) (by omega) (lv_sub hl [0, 1, 2, 3, 4, 5] rfl)

set_option maxHeartbeats 4000000 in
set_option maxRecDepth 100000 in
theorem v_X9_bytesOf (l : Launch) (dC : Nat → ClassId) (dI : Nat → Nat → Nat) (o : Nat) (c : Nat → Nat) (kc : Nat → ClassId) (st : Nat → Int32) (lg : Nat → Int64) (ai : Nat → Nat → Int32) (al : Nat → Nat → Int64) (p0 : Int32) (p1 : Int64) (p2 : Int32) (sz : Nat) (hq0 : 0 ≤ p0.toInt) (hq1 : 0 ≤ p2.toInt) (hq2 : p2.toInt ≤ 8) (hq3 : p0.toInt + p2.toInt ≤ 1712160) : Met l yX9_bytesOf wsX9_bytesOf ({ frames := 1, cells := 0, slots := 0, locals := 23 }) (va_Pc [.ref o, .int p0, .long p1, .int p2] (fun U => U.heap.size = sz ∧ va_P (dC, dI) vwCl (rw_W o c kc st lg ai al) U.heap ∧ va_K (dC, dI) vwCl (rw_T kc) U ∧ va_D (fun _ => True) (rw_W o c kc st lg ai al))) (va_Qv (fun (_ : Unit) => True) (fun _ t => ∃ (f0 : Nat → Int32), va_P (dC, dI) vwCl (rw_W o c kc st lg (rU ai 0 f0) al) t.heap) (va_A (rw_W o c kc st lg ai al) sz)) 0 0 (va_A (rw_W o c kc st lg ai al) sz) := by
  refine Met.ofW (cc := cX9_bytesOf) (maxL := 6) (ret := none) (by decide) rfl ?_
  intro p e s m args below meth cM s₁ B hml hv
  obtain ⟨rfl, hsz, hP, hK, hD0⟩ := hv
  have hx := B.exec
  have hb := B.bytes
  have hr := B.returns
  have hts := atoms_spec (ws := wsX9_bytesOf) B.pre
  have hown : s.vm.findClass RX9 = some m.cls := findClass_of_methodNamed B.named
  subst hsz
  have hD := hD0.self (sz := s.heap.size)
  generalize hAe : va_A (rw_W o c kc st lg ai al) s.heap.size = A at hD ⊢
  have hA : ∀ q : Nat, s.heap.size ≤ q → A q := fun q h => by rw [← hAe]; exact Or.inr h
  have hS : va_S A s.heap s.heap [] := va_S.rf
  clear hAe hD0
  have hl := lv_entry ([.ref o, .int p0, .long p1, .int p2]) (n := 6) (Nat.le_of_ble_eq_true rfl)
  rw [lg_entry_eq]
  generalize (lg_sl ([.ref o, .int p0, .long p1, .int p2]) ++ List.replicate (6 - (lg_sl ([.ref o, .int p0, .long p1, .int p2])).length) Slot.unset).toArray = ls at hl ⊢
  have hl : lv_has ls 6 [(0, .ref o), (1, .int p0), (2, .long p1), (4, .int p2)] := hl
  have z_0 : (0 : Int32).toInt = 0 := by decide
  have z_1 : (1 : Int32).toInt = 1 := by decide
  have z_8 : (8 : Int32).toInt = 8 := by decide
  have main : ∀ (H : Heap) (locs : List Loc), va_P (dC, dI) vwCl (rw_W o c kc st lg ai al) H → va_S A s.heap H locs → W p l e (headSpec wsX9_bytesOf ({ frames := 1, cells := 0, slots := 0, locals := 23 })).room s m ([.ref o, .int p0, .long p1, .int p2] : List Value).toArray below meth cM H locs 0 0 (MQ below (va_Qv (fun (_ : Unit) => True) (fun _ t => ∃ (f0 : Nat → Int32), va_P (dC, dI) vwCl (rw_W o c kc st lg (rU ai 0 f0) al) t.heap) A) ([.ref o, .int p0, .long p1, .int p2] : List Value).toArray s 0 0 A) (F0 m 0 ls []) := by
    intro H locs hP hS
    refine lv_iconst (v := 0) hx hb dX9_bytesOf_0 (by decide) ?_
    refine lv_istore (lv' := [(5, .int (0 : Int32)), (0, .ref o), (1, .int p0), (2, .long p1), (4, .int p2)]) hx hb dX9_bytesOf_1 hl (by decide) rfl (fun ls hl => ?_)
    have loop3 : ∀ (n : Nat) (l5_3 : Int32) (a0_3 : Nat → Int32) (H : Heap) (locs : List Loc) (ls : Array Slot), (0 ≤ l5_3.toInt) → (l5_3.toInt ≤ p2.toInt) → (p2.toInt - l5_3.toInt : Int).toNat < n → va_P (dC, dI) vwCl (rw_W o c kc st lg (rU ai 0 a0_3) al) H → va_S A s.heap H locs → lv_has ls 6 [(5, .int l5_3), (0, .ref o), (1, .int p0), (2, .long p1), (4, .int p2)] → W p l e (headSpec wsX9_bytesOf ({ frames := 1, cells := 0, slots := 0, locals := 23 })).room s m ([.ref o, .int p0, .long p1, .int p2] : List Value).toArray below meth cM H locs 0 0 (MQ below (va_Qv (fun (_ : Unit) => True) (fun _ t => ∃ (f0 : Nat → Int32), va_P (dC, dI) vwCl (rw_W o c kc st lg (rU ai 0 f0) al) t.heap) A) ([.ref o, .int p0, .long p1, .int p2] : List Value).toArray s 0 0 A) (F0 m 3 ls []) := by
      intro n
      induction n with
      | zero => intro l5_3 a0_3 H locs ls if0_3 if1_3 hm; exact absurd hm (Nat.not_lt_zero _)
      | succ n ih3 =>
        intro l5_3 a0_3 H locs ls if0_3 if1_3 hm3 hP hS hl
        refine lv_iload hx hb dX9_bytesOf_3 (lv_at hl 0 rfl) ?_
        refine lv_iload hx hb dX9_bytesOf_5 (lv_at hl 4 rfl) ?_
        refine lv_icmp_ge (tgt := 41) hx hb dX9_bytesOf_7 (by decide) (fun c_1 => ?_) (fun c_1 => ?_)
        · skip
          have ic_1 := iv_le c_1
          exact W.vret hx hb hr (fun t ht hW => ⟨⟨(), rfl, trivial, a0_3, by rw [ht]; exact hP⟩, hS.F ht⟩) hS.2.2 dX9_bytesOf_41
        · skip
          have ic_1 := iv_nle c_1
          refine lv_aload_n hx hb dX9_bytesOf_10 rfl (lv_at hl 1 rfl) ?_
          refine lv_iload_n hx hb dX9_bytesOf_11 rfl (lv_at hl 2 rfl) ?_
          refine lv_iload hx hb dX9_bytesOf_12 (lv_at hl 0 rfl) ?_
          refine lv_iadd hx hb dX9_bytesOf_14 ?_
          refine lv_topi (fun v_2 ev_2 => ?_)
          have hv_2 : v_2.toInt = p0.toInt + l5_3.toInt := by rw [ev_2]; exact (iv_add (by omega) (by omega)).trans (by omega)
          clear ev_2
          refine lv_lload_n hx hb dX9_bytesOf_15 rfl (lv_at hl 3 rfl) ?_
          refine lv_bipush (v := 8) hx hb dX9_bytesOf_16 (by decide) ?_
          refine lv_iload hx hb dX9_bytesOf_18 (lv_at hl 4 rfl) ?_
          refine lv_iconst (v := 1) hx hb dX9_bytesOf_20 (by decide) ?_
          refine lv_isub hx hb dX9_bytesOf_21 ?_
          refine lv_topi (fun v_3 ev_3 => ?_)
          have hv_3 : v_3.toInt = p2.toInt - 1 := by rw [ev_3]; exact (iv_sub (by omega) (by omega)).trans (by omega)
          clear ev_3
          refine lv_iload hx hb dX9_bytesOf_22 (lv_at hl 0 rfl) ?_
          refine lv_isub hx hb dX9_bytesOf_24 ?_
          refine lv_topi (fun v_4 ev_4 => ?_)
          have hv_4 : v_4.toInt = v_3.toInt - l5_3.toInt := by rw [ev_4]; exact (iv_sub (by omega) (by omega)).trans (by omega)
          clear ev_4
          refine lv_imul hx hb dX9_bytesOf_25 ?_
          refine lv_topi (fun v_5 ev_5 => ?_)
          have hv_5 : v_5.toInt = 8 * v_4.toInt := by rw [ev_5]; exact (iv_mulc z_8 (by omega) (by omega)).trans (by omega)
          clear ev_5
          refine lv_lushr hx hb dX9_bytesOf_26 rfl ?_
          refine lv_topl (fun w_6 ew_6 => ?_)
          clear ew_6
          refine lv_ldc2 hx hb hown (hts (.constantLong RX9 94 (255)) (by decide +kernel)) dX9_bytesOf_27 ?_
          refine lv_land hx hb dX9_bytesOf_30 ?_
          refine lv_topl (fun w_7 ew_7 => ?_)
          clear ew_7
          refine lv_l2i hx hb dX9_bytesOf_31 rfl ?_
          refine lv_topi (fun v_8 ev_8 => ?_)
          clear ev_8
          have hFc := vfree (rw_D hD : va_D A (rw_W o c kc st lg (rU ai 0 a0_3) al)) hS hA
          refine va_callv (va_runV (As := [.int v_2, .int v_8]) (rest := []) ⟨hx, hb, hml, hown, hts⟩ (v_X9_set l dC dI o c kc st lg (rU ai 0 a0_3) al v_2 v_8 _ (by omega) (by omega)) (cwV 2 hts gX9_bytesOf_X9_set rfl rfl rfl (by decide +kernel) ⟨Nat.le_of_ble_eq_true rfl, Nat.le_of_ble_eq_true rfl⟩) ⟨fun a U g mk q => by obtain ⟨q0, q1, qP, qK, qD⟩ := q; exact ⟨q0, q1, qP, va_K.moved (u := U) (U := U.calling g mk a) (Vm.Alike.refl U.vm) qK, qD⟩, va_recv hK hP (ci := 11) (q := (RX9, TX9, 38)) rfl (q0 := 0) rfl, fun U hU hW => ⟨rfl, by rw [hU], by rw [hU]; exact hP, va_K.moved hW.alike hK, rw_D (hD.weaken (fun _ _ _ _ => trivial))⟩⟩ rfl rfl hl.1 rfl (lv_room (Nat.le_of_ble_eq_true rfl)) dX9_bytesOf_32 ⟨Nat.le_of_ble_eq_true rfl, Nat.le_of_ble_eq_true rfl⟩) hS (fun q _ h => hFc q h) hFc (fun ur_9 t H1 locs ht hvm er_9 hB hz1 hk1 hS => ?_)
          obtain ⟨f0_9, hP1⟩ := hB
          rw [ht] at hP1
          clear hFc hz1 hk1 hvm hP
          subst ht
          have hP := hP1
          clear hP1
          generalize t.heap = H at hP hS ⊢
          have hP : va_P (dC, dI) vwCl (rw_W o c kc st lg (rU ai 0 f0_9) al) H := hP
          obtain ⟨x_10, ex_10⟩ : ∃ z : Int32, z = l5_3 + (1) := ⟨_, rfl⟩
          refine lv_iinc (v := x_10) (lv' := [(5, .int x_10), (0, .ref o), (1, .int p0), (2, .long p1), (4, .int p2)]) hx hb dX9_bytesOf_35 hl (k := 0) rfl (by rw [ex_10]; rfl) (by decide) rfl (fun ls hl => ?_)
          have hx_10 : x_10.toInt = l5_3.toInt + (1) := by rw [ex_10]; exact (iv_add (by omega) (by omega)).trans (by omega)
          clear ex_10
          refine lv_goto (tgt := 3) hx hb dX9_bytesOf_38 (by decide) ?_
          exact ih3 x_10 f0_9 _ _ _ (by omega) (by omega) (by omega) hP hS (lv_sub hl [0, 1, 2, 3, 4] rfl)
    exact loop3 ((p2.toInt - 0 : Int).toNat + 1) (0 : Int32) (ai 0) _ _ _ (by omega) (by omega) (by omega) hP hS (lv_sub hl [0, 1, 2, 3, 4] rfl)
  exact main s.heap [] hP hS

set_option maxHeartbeats 4000000 in
set_option maxRecDepth 100000 in
theorem v_X9_act (l : Launch) (dC : Nat → ClassId) (dI : Nat → Nat → Nat) (o : Nat) (c : Nat → Nat) (kc : Nat → ClassId) (st : Nat → Int32) (lg : Nat → Int64) (ai : Nat → Nat → Int32) (al : Nat → Nat → Int64)  (sz : Nat) (hf3a : 0 ≤ (st 3).toInt) (hf3b : (st 3).toInt ≤ 1) (hf6a : 0 ≤ (st 6).toInt) (hf6b : (st 6).toInt ≤ 1) (hf12a : 0 ≤ (st 12).toInt) (hf12b : (st 12).toInt ≤ 8) : Met l yX9_act wsX9_act ({ frames := 0, cells := 0, slots := 0, locals := 0 }) (va_Pc [.ref o] (fun U => U.heap.size = sz ∧ va_P (dC, dI) vwCl (rw_W o c kc st lg ai al) U.heap ∧ va_K (dC, dI) vwCl (rw_T kc) U ∧ va_D (fun _ => True) (rw_W o c kc st lg ai al))) (va_Qi (fun r (u : Int32) => r = u) (fun u t => ∃ (x3 : Int32) (x4 : Int32) (x5 : Int32) (x6 : Int32) (x12 : Int32), (0 ≤ u.toInt) ∧ (u.toInt ≤ 1) ∧ (0 ≤ x3.toInt) ∧ (x3.toInt ≤ 1) ∧ (0 ≤ x6.toInt) ∧ (x6.toInt ≤ 1) ∧ (0 ≤ x12.toInt) ∧ (x12.toInt ≤ 8) ∧ va_P (dC, dI) vwCl (rw_W o c kc (rU (rU (rU (rU (rU st 3 x3) 4 x4) 5 x5) 6 x6) 12 x12) lg ai al) t.heap) (va_A (rw_W o c kc st lg ai al) sz)) 0 0 (va_A (rw_W o c kc st lg ai al) sz) := by
  refine Met.ofW (cc := cX9_act) (maxL := 1) (ret := (some .boolean)) (by decide) rfl ?_
  intro p e s m args below meth cM s₁ B hml hv
  obtain ⟨rfl, hsz, hP, hK, hD0⟩ := hv
  have hx := B.exec
  have hb := B.bytes
  have hr := B.returns
  have hts := atoms_spec (ws := wsX9_act) B.pre
  have hown : s.vm.findClass RX9 = some m.cls := findClass_of_methodNamed B.named
  subst hsz
  have hD := hD0.self (sz := s.heap.size)
  generalize hAe : va_A (rw_W o c kc st lg ai al) s.heap.size = A at hD ⊢
  have hA : ∀ q : Nat, s.heap.size ≤ q → A q := fun q h => by rw [← hAe]; exact Or.inr h
  have hS : va_S A s.heap s.heap [] := va_S.rf
  clear hAe hD0
  have hl := lv_entry ([.ref o]) (n := 1) (Nat.le_of_ble_eq_true rfl)
  rw [lg_entry_eq]
  generalize (lg_sl ([.ref o]) ++ List.replicate (1 - (lg_sl ([.ref o])).length) Slot.unset).toArray = ls at hl ⊢
  have hl : lv_has ls 1 [(0, .ref o)] := hl
  have z_m1 : (-1 : Int32).toInt = -1 := by decide
  have z_0 : (0 : Int32).toInt = 0 := by decide
  have z_1 : (1 : Int32).toInt = 1 := by decide
  have hin9 : ∀ w ∈ u_ws RX9 TX9 38, w ∈ wsX9_act := by decide +kernel
  have main : ∀ (H : Heap) (locs : List Loc), va_P (dC, dI) vwCl (rw_W o c kc st lg ai al) H → va_S A s.heap H locs → W p l e (headSpec wsX9_act ({ frames := 0, cells := 0, slots := 0, locals := 0 })).room s m ([.ref o] : List Value).toArray below meth cM H locs 0 0 (MQ below (va_Qi (fun r (u : Int32) => r = u) (fun u t => ∃ (x3 : Int32) (x4 : Int32) (x5 : Int32) (x6 : Int32) (x12 : Int32), (0 ≤ u.toInt) ∧ (u.toInt ≤ 1) ∧ (0 ≤ x3.toInt) ∧ (x3.toInt ≤ 1) ∧ (0 ≤ x6.toInt) ∧ (x6.toInt ≤ 1) ∧ (0 ≤ x12.toInt) ∧ (x12.toInt ≤ 8) ∧ va_P (dC, dI) vwCl (rw_W o c kc (rU (rU (rU (rU (rU st 3 x3) 4 x4) 5 x5) 6 x6) 12 x12) lg ai al) t.heap) A) ([.ref o] : List Value).toArray s 0 0 A) (F0 m 0 ls []) := by
    intro H locs hP hS
    refine lv_aload_n hx hb dX9_act_0 rfl (lv_at hl 0 rfl) ?_
    refine va_get (D := (dC, dI)) (ci := 11) (v := .int (st 6)) (C := RX9) (T := TX9) (N := 38) hx hb hts hin9 hown hK hP 0 rfl rfl 6 (by decide) (hts (.fieldLink RX9 108 "BlockLogModel" "dark" "Z") (by decide +kernel)) (fun _ h9 => h9) rfl dX9_act_1 ?_
    refine lv_if_eq (tgt := 9) hx hb dX9_act_4 (by decide) (fun c_1 => ?_) (fun c_1 => ?_)
    · skip
      have ic_1 := iv_eq c_1
      refine lv_aload_n hx hb dX9_act_9 rfl (lv_at hl 0 rfl) ?_
      refine va_get (D := (dC, dI)) (ci := 11) (v := .int (st 5)) (C := RX9) (T := TX9) (N := 38) hx hb hts hin9 hown hK hP 0 rfl rfl 5 (by decide) (hts (.fieldLink RX9 69 "BlockLogModel" "power" "I") (by decide +kernel)) (fun _ h9 => h9) rfl dX9_act_10 ?_
      refine lv_if_ne (tgt := 38) hx hb dX9_act_13 (by decide) (fun c_2 => ?_) (fun c_2 => ?_)
      · skip
        have ic_2 := iv_ne c_2
        refine lv_aload_n hx hb dX9_act_38 rfl (lv_at hl 0 rfl) ?_
        refine lv_dup hx hb dX9_act_39 rfl ?_
        refine va_get (D := (dC, dI)) (ci := 11) (v := .int (st 5)) (C := RX9) (T := TX9) (N := 38) hx hb hts hin9 hown hK hP 0 rfl rfl 5 (by decide) (hts (.fieldLink RX9 69 "BlockLogModel" "power" "I") (by decide +kernel)) (fun _ h9 => h9) rfl dX9_act_40 ?_
        refine lv_aload_n hx hb dX9_act_43 rfl (lv_at hl 0 rfl) ?_
        refine va_get (D := (dC, dI)) (ci := 11) (v := .int (st 5)) (C := RX9) (T := TX9) (N := 38) hx hb hts hin9 hown hK hP 0 rfl rfl 5 (by decide) (hts (.fieldLink RX9 69 "BlockLogModel" "power" "I") (by decide +kernel)) (fun _ h9 => h9) rfl dX9_act_44 ?_
        refine lv_if_le (tgt := 54) hx hb dX9_act_47 (by decide) (fun c_3 => ?_) (fun c_3 => ?_)
        · skip
          have ic_3 := iv_le c_3
          refine lv_iconst (v := 0) hx hb dX9_act_54 (by decide) ?_
          refine lv_isub hx hb dX9_act_55 ?_
          refine lv_topi (fun v_4 ev_4 => ?_)
          clear ev_4
          refine va_put (D := (dC, dI)) (ci := 11) (v := .int v_4) (ty := .int) (C := RX9) (T := TX9) (N := 38) hx hb hts hin9 tyX9 tyX9_ok nmX9 hown hK hP (rw_D hD) hS 0 rfl rfl 5 (by decide) (hts (.fieldLink RX9 69 "BlockLogModel" "power" "I") (by decide +kernel)) (fun _ h9 => h9) rfl (by decide +kernel) rfl rfl (Nat.le_of_ble_eq_true rfl) dX9_act_56 (fun H locs hP _ hS => ?_)
          have hP : va_P (dC, dI) vwCl (rw_W o c kc (rU st 5 v_4) lg ai al) H := hP
          refine lv_aload_n hx hb dX9_act_59 rfl (lv_at hl 0 rfl) ?_
          refine lv_dup hx hb dX9_act_60 rfl ?_
          refine va_get (D := (dC, dI)) (ci := 11) (v := .int (st 4)) (C := RX9) (T := TX9) (N := 38) hx hb hts hin9 hown hK hP 0 rfl rfl 4 (by decide) (hts (.fieldLink RX9 114 "BlockLogModel" "acts" "I") (by decide +kernel)) (fun _ h9 => h9) rfl dX9_act_61 ?_
          refine lv_iconst (v := 1) hx hb dX9_act_64 (by decide) ?_
          refine lv_iadd hx hb dX9_act_65 ?_
          refine lv_topi (fun v_5 ev_5 => ?_)
          clear ev_5
          refine va_put (D := (dC, dI)) (ci := 11) (v := .int v_5) (ty := .int) (C := RX9) (T := TX9) (N := 38) hx hb hts hin9 tyX9 tyX9_ok nmX9 hown hK hP (rw_D hD) hS 0 rfl rfl 4 (by decide) (hts (.fieldLink RX9 114 "BlockLogModel" "acts" "I") (by decide +kernel)) (fun _ h9 => h9) rfl (by decide +kernel) rfl rfl (Nat.le_of_ble_eq_true rfl) dX9_act_66 (fun H locs hP _ hS => ?_)
          have hP : va_P (dC, dI) vwCl (rw_W o c kc (rU (rU st 4 v_5) 5 v_4) lg ai al) H := hP
          refine lv_iconst (v := 1) hx hb dX9_act_69 (by decide) ?_
          exact W.zret hx hb hr rfl (fun t ht hW => ⟨⟨_, _, rfl, rfl, st 3, v_5, v_4, st 6, st 12, (by omega), (by omega), (by omega), (by omega), (by omega), (by omega), (by omega), (by omega), by rw [ht]; exact hP⟩, hS.F ht⟩) hS.2.2 dX9_act_70
        · skip
          have ic_3 := iv_nle c_3
          refine lv_iconst (v := 1) hx hb dX9_act_50 (by decide) ?_
          refine lv_goto (tgt := 55) hx hb dX9_act_51 (by decide) ?_
          refine lv_isub hx hb dX9_act_55 ?_
          refine lv_topi (fun v_6 ev_6 => ?_)
          clear ev_6
          refine va_put (D := (dC, dI)) (ci := 11) (v := .int v_6) (ty := .int) (C := RX9) (T := TX9) (N := 38) hx hb hts hin9 tyX9 tyX9_ok nmX9 hown hK hP (rw_D hD) hS 0 rfl rfl 5 (by decide) (hts (.fieldLink RX9 69 "BlockLogModel" "power" "I") (by decide +kernel)) (fun _ h9 => h9) rfl (by decide +kernel) rfl rfl (Nat.le_of_ble_eq_true rfl) dX9_act_56 (fun H locs hP _ hS => ?_)
          have hP : va_P (dC, dI) vwCl (rw_W o c kc (rU st 5 v_6) lg ai al) H := hP
          refine lv_aload_n hx hb dX9_act_59 rfl (lv_at hl 0 rfl) ?_
          refine lv_dup hx hb dX9_act_60 rfl ?_
          refine va_get (D := (dC, dI)) (ci := 11) (v := .int (st 4)) (C := RX9) (T := TX9) (N := 38) hx hb hts hin9 hown hK hP 0 rfl rfl 4 (by decide) (hts (.fieldLink RX9 114 "BlockLogModel" "acts" "I") (by decide +kernel)) (fun _ h9 => h9) rfl dX9_act_61 ?_
          refine lv_iconst (v := 1) hx hb dX9_act_64 (by decide) ?_
          refine lv_iadd hx hb dX9_act_65 ?_
          refine lv_topi (fun v_7 ev_7 => ?_)
          clear ev_7
          refine va_put (D := (dC, dI)) (ci := 11) (v := .int v_7) (ty := .int) (C := RX9) (T := TX9) (N := 38) hx hb hts hin9 tyX9 tyX9_ok nmX9 hown hK hP (rw_D hD) hS 0 rfl rfl 4 (by decide) (hts (.fieldLink RX9 114 "BlockLogModel" "acts" "I") (by decide +kernel)) (fun _ h9 => h9) rfl (by decide +kernel) rfl rfl (Nat.le_of_ble_eq_true rfl) dX9_act_66 (fun H locs hP _ hS => ?_)
          have hP : va_P (dC, dI) vwCl (rw_W o c kc (rU (rU st 4 v_7) 5 v_6) lg ai al) H := hP
          refine lv_iconst (v := 1) hx hb dX9_act_69 (by decide) ?_
          exact W.zret hx hb hr rfl (fun t ht hW => ⟨⟨_, _, rfl, rfl, st 3, v_7, v_6, st 6, st 12, (by omega), (by omega), (by omega), (by omega), (by omega), (by omega), (by omega), (by omega), by rw [ht]; exact hP⟩, hS.F ht⟩) hS.2.2 dX9_act_70
      · skip
        have ic_2 := iv_eq c_2
        refine lv_aload_n hx hb dX9_act_16 rfl (lv_at hl 0 rfl) ?_
        refine lv_iconst (v := 1) hx hb dX9_act_17 (by decide) ?_
        refine va_put (D := (dC, dI)) (ci := 11) (v := .int (1 : Int32)) (ty := .boolean) (C := RX9) (T := TX9) (N := 38) hx hb hts hin9 tyX9 tyX9_ok nmX9 hown hK hP (rw_D hD) hS 0 rfl rfl 6 (by decide) (hts (.fieldLink RX9 108 "BlockLogModel" "dark" "Z") (by decide +kernel)) (fun _ h9 => h9) rfl (by decide +kernel) rfl rfl (Nat.le_of_ble_eq_true rfl) dX9_act_18 (fun H locs hP _ hS => ?_)
        have hP : va_P (dC, dI) vwCl (rw_W o c kc (rU st 6 (1 : Int32)) lg ai al) H := hP
        refine lv_aload_n hx hb dX9_act_21 rfl (lv_at hl 0 rfl) ?_
        refine lv_iconst (v := 0) hx hb dX9_act_22 (by decide) ?_
        refine va_put (D := (dC, dI)) (ci := 11) (v := .int (0 : Int32)) (ty := .boolean) (C := RX9) (T := TX9) (N := 38) hx hb hts hin9 tyX9 tyX9_ok nmX9 hown hK hP (rw_D hD) hS 0 rfl rfl 3 (by decide) (hts (.fieldLink RX9 72 "BlockLogModel" "on" "Z") (by decide +kernel)) (fun _ h9 => h9) rfl (by decide +kernel) rfl rfl (Nat.le_of_ble_eq_true rfl) dX9_act_23 (fun H locs hP _ hS => ?_)
        have hP : va_P (dC, dI) vwCl (rw_W o c kc (rU (rU st 3 (0 : Int32)) 6 (1 : Int32)) lg ai al) H := hP
        refine lv_aload_n hx hb dX9_act_26 rfl (lv_at hl 0 rfl) ?_
        refine lv_iconst (v := (-1)) hx hb dX9_act_27 (by decide) ?_
        refine va_put (D := (dC, dI)) (ci := 11) (v := .int (-1 : Int32)) (ty := .int) (C := RX9) (T := TX9) (N := 38) hx hb hts hin9 tyX9 tyX9_ok nmX9 hown hK hP (rw_D hD) hS 0 rfl rfl 5 (by decide) (hts (.fieldLink RX9 69 "BlockLogModel" "power" "I") (by decide +kernel)) (fun _ h9 => h9) rfl (by decide +kernel) rfl rfl (Nat.le_of_ble_eq_true rfl) dX9_act_28 (fun H locs hP _ hS => ?_)
        have hP : va_P (dC, dI) vwCl (rw_W o c kc (rU (rU (rU st 3 (0 : Int32)) 5 (-1 : Int32)) 6 (1 : Int32)) lg ai al) H := hP
        refine lv_aload_n hx hb dX9_act_31 rfl (lv_at hl 0 rfl) ?_
        refine lv_iconst (v := 0) hx hb dX9_act_32 (by decide) ?_
        refine va_put (D := (dC, dI)) (ci := 11) (v := .int (0 : Int32)) (ty := .int) (C := RX9) (T := TX9) (N := 38) hx hb hts hin9 tyX9 tyX9_ok nmX9 hown hK hP (rw_D hD) hS 0 rfl rfl 12 (by decide) (hts (.fieldLink RX9 111 "BlockLogModel" "collected" "I") (by decide +kernel)) (fun _ h9 => h9) rfl (by decide +kernel) rfl rfl (Nat.le_of_ble_eq_true rfl) dX9_act_33 (fun H locs hP _ hS => ?_)
        have hP : va_P (dC, dI) vwCl (rw_W o c kc (rU (rU (rU (rU st 3 (0 : Int32)) 5 (-1 : Int32)) 6 (1 : Int32)) 12 (0 : Int32)) lg ai al) H := hP
        refine lv_iconst (v := 0) hx hb dX9_act_36 (by decide) ?_
        exact W.zret hx hb hr rfl (fun t ht hW => ⟨⟨_, _, rfl, rfl, (0 : Int32), st 4, (-1 : Int32), (1 : Int32), (0 : Int32), (by omega), (by omega), (by omega), (by omega), (by omega), (by omega), (by omega), (by omega), by rw [ht]; exact hP⟩, hS.F ht⟩) hS.2.2 dX9_act_37
    · skip
      have ic_1 := iv_ne c_1
      refine lv_iconst (v := 0) hx hb dX9_act_7 (by decide) ?_
      exact W.zret hx hb hr rfl (fun t ht hW => ⟨⟨_, _, rfl, rfl, st 3, st 4, st 5, st 6, st 12, (by omega), (by omega), (by omega), (by omega), (by omega), (by omega), (by omega), (by omega), by rw [ht]; exact hP⟩, hS.F ht⟩) hS.2.2 dX9_act_8
  exact main s.heap [] hP hS

set_option maxHeartbeats 4000000 in
set_option maxRecDepth 100000 in
theorem v_X9_write (l : Launch) (dC : Nat → ClassId) (dI : Nat → Nat → Nat) (o : Nat) (c : Nat → Nat) (kc : Nat → ClassId) (st : Nat → Int32) (lg : Nat → Int64) (ai : Nat → Nat → Int32) (al : Nat → Nat → Int64) (p0 : Int32) (p1 : Int32) (sz : Nat) (hf3a : 0 ≤ (st 3).toInt) (hf3b : (st 3).toInt ≤ 1) (hf6a : 0 ≤ (st 6).toInt) (hf6b : (st 6).toInt ≤ 1) (hf12a : 0 ≤ (st 12).toInt) (hf12b : (st 12).toInt ≤ 8) (hq0 : 0 ≤ p0.toInt) (hq1 : p0.toInt < 1712160) : Met l yX9_write wsX9_write ({ frames := 1, cells := 0, slots := 0, locals := 23 }) (va_Pc [.ref o, .int p0, .int p1] (fun U => U.heap.size = sz ∧ va_P (dC, dI) vwCl (rw_W o c kc st lg ai al) U.heap ∧ va_K (dC, dI) vwCl (rw_T kc) U ∧ va_D (fun _ => True) (rw_W o c kc st lg ai al))) (va_Qv (fun (_ : Unit) => True) (fun _ t => ∃ (x3 : Int32) (x4 : Int32) (x5 : Int32) (x6 : Int32) (x12 : Int32) (f0 : Nat → Int32), (0 ≤ x3.toInt) ∧ (x3.toInt ≤ 1) ∧ (0 ≤ x6.toInt) ∧ (x6.toInt ≤ 1) ∧ (0 ≤ x12.toInt) ∧ (x12.toInt ≤ 8) ∧ va_P (dC, dI) vwCl (rw_W o c kc (rU (rU (rU (rU (rU st 3 x3) 4 x4) 5 x5) 6 x6) 12 x12) lg (rU ai 0 f0) al) t.heap) (va_A (rw_W o c kc st lg ai al) sz)) 0 0 (va_A (rw_W o c kc st lg ai al) sz) := by
  refine Met.ofW (cc := cX9_write) (maxL := 3) (ret := none) (by decide) rfl ?_
  intro p e s m args below meth cM s₁ B hml hv
  obtain ⟨rfl, hsz, hP, hK, hD0⟩ := hv
  have hx := B.exec
  have hb := B.bytes
  have hr := B.returns
  have hts := atoms_spec (ws := wsX9_write) B.pre
  have hown : s.vm.findClass RX9 = some m.cls := findClass_of_methodNamed B.named
  subst hsz
  have hD := hD0.self (sz := s.heap.size)
  generalize hAe : va_A (rw_W o c kc st lg ai al) s.heap.size = A at hD ⊢
  have hA : ∀ q : Nat, s.heap.size ≤ q → A q := fun q h => by rw [← hAe]; exact Or.inr h
  have hS : va_S A s.heap s.heap [] := va_S.rf
  clear hAe hD0
  have hl := lv_entry ([.ref o, .int p0, .int p1]) (n := 3) (Nat.le_of_ble_eq_true rfl)
  rw [lg_entry_eq]
  generalize (lg_sl ([.ref o, .int p0, .int p1]) ++ List.replicate (3 - (lg_sl ([.ref o, .int p0, .int p1])).length) Slot.unset).toArray = ls at hl ⊢
  have hl : lv_has ls 3 [(0, .ref o), (1, .int p0), (2, .int p1)] := hl
  have z_0 : (0 : Int32).toInt = 0 := by decide
  have z_1 : (1 : Int32).toInt = 1 := by decide
  have main : ∀ (H : Heap) (locs : List Loc), va_P (dC, dI) vwCl (rw_W o c kc st lg ai al) H → va_S A s.heap H locs → W p l e (headSpec wsX9_write ({ frames := 1, cells := 0, slots := 0, locals := 23 })).room s m ([.ref o, .int p0, .int p1] : List Value).toArray below meth cM H locs 0 0 (MQ below (va_Qv (fun (_ : Unit) => True) (fun _ t => ∃ (x3 : Int32) (x4 : Int32) (x5 : Int32) (x6 : Int32) (x12 : Int32) (f0 : Nat → Int32), (0 ≤ x3.toInt) ∧ (x3.toInt ≤ 1) ∧ (0 ≤ x6.toInt) ∧ (x6.toInt ≤ 1) ∧ (0 ≤ x12.toInt) ∧ (x12.toInt ≤ 8) ∧ va_P (dC, dI) vwCl (rw_W o c kc (rU (rU (rU (rU (rU st 3 x3) 4 x4) 5 x5) 6 x6) 12 x12) lg (rU ai 0 f0) al) t.heap) A) ([.ref o, .int p0, .int p1] : List Value).toArray s 0 0 A) (F0 m 0 ls []) := by
    intro H locs hP hS
    refine lv_aload_n hx hb dX9_write_0 rfl (lv_at hl 0 rfl) ?_
    have hFc := vfree (rw_D hD : va_D A (rw_W o c kc st lg ai al)) hS hA
    refine va_calli (va_runV (As := []) (rest := []) ⟨hx, hb, hml, hown, hts⟩ (v_X9_act l dC dI o c kc st lg ai al  _ (show 0 ≤ (st 3).toInt by omega) (show (st 3).toInt ≤ 1 by omega) (show 0 ≤ (st 6).toInt by omega) (show (st 6).toInt ≤ 1 by omega) (show 0 ≤ (st 12).toInt by omega) (show (st 12).toInt ≤ 8 by omega)) (cwV 0 hts gX9_write_X9_act rfl rfl rfl (by decide +kernel) ⟨Nat.le_of_ble_eq_true rfl, Nat.le_of_ble_eq_true rfl⟩) ⟨fun a U g mk q => by obtain ⟨q0, q1, qP, qK, qD⟩ := q; exact ⟨q0, q1, qP, va_K.moved (u := U) (U := U.calling g mk a) (Vm.Alike.refl U.vm) qK, qD⟩, va_recv hK hP (ci := 11) (q := (RX9, TX9, 38)) rfl (q0 := 0) rfl, fun U hU hW => ⟨rfl, by rw [hU], by rw [hU]; exact hP, va_K.moved hW.alike hK, rw_D (hD.weaken (fun _ _ _ _ => trivial))⟩⟩ rfl rfl hl.1 rfl (lv_room (Nat.le_of_ble_eq_true rfl)) dX9_write_1 ⟨Nat.le_of_ble_eq_true rfl, Nat.le_of_ble_eq_true rfl⟩) hS (fun q _ h => hFc q h) hFc (fun r_1 ur_1 t H1 locs ht hvm er_1 hB hz1 hk1 hS => ?_)
    subst er_1
    obtain ⟨x3_1, x4_1, x5_1, x6_1, x12_1, k_2, k_3, k_4, k_5, k_6, k_7, k_8, k_9, hP1⟩ := hB
    rw [ht] at hP1
    clear hFc hz1 hk1 hvm hP
    subst ht
    have hP := hP1
    clear hP1
    generalize t.heap = H at hP hS ⊢
    have hP : va_P (dC, dI) vwCl (rw_W o c kc (rU (rU (rU (rU (rU st 3 x3_1) 4 x4_1) 5 x5_1) 6 x6_1) 12 x12_1) lg ai al) H := hP
    rcases iv_01 (a := r_1) (by omega) (by omega) with b_10 | b_10
    · skip
      have ib_10 := iv_eq b_10
      rw [b_10]
      refine lv_if_eq (tgt := 13) hx hb dX9_write_4 (by decide) (fun c_11 => ?_) (fun c_11 => ?_)
      · skip
        have ic_11 := iv_eq c_11
        exact W.vret hx hb hr (fun t ht hW => ⟨⟨(), rfl, trivial, x3_1, x4_1, x5_1, x6_1, x12_1, ai 0, (by omega), (by omega), (by omega), (by omega), (by omega), (by omega), by rw [ht]; exact hP⟩, hS.F ht⟩) hS.2.2 dX9_write_13
      · skip
        have ic_11 := iv_ne c_11
        exfalso
        omega
    · skip
      have ib_10 := iv_eq b_10
      rw [b_10]
      refine lv_if_eq (tgt := 13) hx hb dX9_write_4 (by decide) (fun c_12 => ?_) (fun c_12 => ?_)
      · skip
        have ic_12 := iv_eq c_12
        exfalso
        omega
      · skip
        have ic_12 := iv_ne c_12
        refine lv_aload_n hx hb dX9_write_7 rfl (lv_at hl 0 rfl) ?_
        refine lv_iload_n hx hb dX9_write_8 rfl (lv_at hl 1 rfl) ?_
        refine lv_iload_n hx hb dX9_write_9 rfl (lv_at hl 2 rfl) ?_
        have hFc := vfree (rw_D hD : va_D A (rw_W o c kc (rU (rU (rU (rU (rU st 3 x3_1) 4 x4_1) 5 x5_1) 6 x6_1) 12 x12_1) lg ai al)) hS hA
        refine va_callv (va_runV (As := [.int p0, .int p1]) (rest := []) ⟨hx, hb, hml, hown, hts⟩ (v_X9_set l dC dI o c kc (rU (rU (rU (rU (rU st 3 x3_1) 4 x4_1) 5 x5_1) 6 x6_1) 12 x12_1) lg ai al p0 p1 _ (by omega) (by omega)) (cwV 2 hts gX9_write_X9_set rfl rfl rfl (by decide +kernel) ⟨Nat.le_of_ble_eq_true rfl, Nat.le_of_ble_eq_true rfl⟩) ⟨fun a U g mk q => by obtain ⟨q0, q1, qP, qK, qD⟩ := q; exact ⟨q0, q1, qP, va_K.moved (u := U) (U := U.calling g mk a) (Vm.Alike.refl U.vm) qK, qD⟩, va_recv hK hP (ci := 11) (q := (RX9, TX9, 38)) rfl (q0 := 0) rfl, fun U hU hW => ⟨rfl, by rw [hU], by rw [hU]; exact hP, va_K.moved hW.alike hK, rw_D (hD.weaken (fun _ _ _ _ => trivial))⟩⟩ rfl rfl hl.1 rfl (lv_room (Nat.le_of_ble_eq_true rfl)) dX9_write_10 ⟨Nat.le_of_ble_eq_true rfl, Nat.le_of_ble_eq_true rfl⟩) hS (fun q _ h => hFc q h) hFc (fun ur_13 t H1 locs ht hvm er_13 hB hz1 hk1 hS => ?_)
        obtain ⟨f0_13, hP1⟩ := hB
        rw [ht] at hP1
        clear hFc hz1 hk1 hvm hP
        subst ht
        have hP := hP1
        clear hP1
        generalize t.heap = H at hP hS ⊢
        have hP : va_P (dC, dI) vwCl (rw_W o c kc (rU (rU (rU (rU (rU st 3 x3_1) 4 x4_1) 5 x5_1) 6 x6_1) 12 x12_1) lg (rU ai 0 f0_13) al) H := hP
        exact W.vret hx hb hr (fun t ht hW => ⟨⟨(), rfl, trivial, x3_1, x4_1, x5_1, x6_1, x12_1, f0_13, (by omega), (by omega), (by omega), (by omega), (by omega), (by omega), by rw [ht]; exact hP⟩, hS.F ht⟩) hS.2.2 dX9_write_13
  exact main s.heap [] hP hS

set_option maxHeartbeats 4000000 in
set_option maxRecDepth 100000 in
theorem v_X9_erase (l : Launch) (dC : Nat → ClassId) (dI : Nat → Nat → Nat) (o : Nat) (c : Nat → Nat) (kc : Nat → ClassId) (st : Nat → Int32) (lg : Nat → Int64) (ai : Nat → Nat → Int32) (al : Nat → Nat → Int64) (p0 : Int32) (p1 : Int32) (sz : Nat) (hf3a : 0 ≤ (st 3).toInt) (hf3b : (st 3).toInt ≤ 1) (hf6a : 0 ≤ (st 6).toInt) (hf6b : (st 6).toInt ≤ 1) (hf12a : 0 ≤ (st 12).toInt) (hf12b : (st 12).toInt ≤ 8) (hq0 : 0 ≤ p0.toInt) (hq1 : 0 ≤ p1.toInt) (hq2 : p1.toInt ≤ 4096) (hq3 : p0.toInt + p1.toInt ≤ 1712160) : Met l yX9_erase wsX9_erase ({ frames := 1, cells := 0, slots := 0, locals := 23 }) (va_Pc [.ref o, .int p0, .int p1] (fun U => U.heap.size = sz ∧ va_P (dC, dI) vwCl (rw_W o c kc st lg ai al) U.heap ∧ va_K (dC, dI) vwCl (rw_T kc) U ∧ va_D (fun _ => True) (rw_W o c kc st lg ai al))) (va_Qv (fun (_ : Unit) => True) (fun _ t => ∃ (x3 : Int32) (x4 : Int32) (x5 : Int32) (x6 : Int32) (x12 : Int32) (f0 : Nat → Int32), (0 ≤ x3.toInt) ∧ (x3.toInt ≤ 1) ∧ (0 ≤ x6.toInt) ∧ (x6.toInt ≤ 1) ∧ (0 ≤ x12.toInt) ∧ (x12.toInt ≤ 8) ∧ va_P (dC, dI) vwCl (rw_W o c kc (rU (rU (rU (rU (rU st 3 x3) 4 x4) 5 x5) 6 x6) 12 x12) lg (rU ai 0 f0) al) t.heap) (va_A (rw_W o c kc st lg ai al) sz)) 0 0 (va_A (rw_W o c kc st lg ai al) sz) := by
  refine Met.ofW (cc := cX9_erase) (maxL := 4) (ret := none) (by decide) rfl ?_
  intro p e s m args below meth cM s₁ B hml hv
  obtain ⟨rfl, hsz, hP, hK, hD0⟩ := hv
  have hx := B.exec
  have hb := B.bytes
  have hr := B.returns
  have hts := atoms_spec (ws := wsX9_erase) B.pre
  have hown : s.vm.findClass RX9 = some m.cls := findClass_of_methodNamed B.named
  subst hsz
  have hD := hD0.self (sz := s.heap.size)
  generalize hAe : va_A (rw_W o c kc st lg ai al) s.heap.size = A at hD ⊢
  have hA : ∀ q : Nat, s.heap.size ≤ q → A q := fun q h => by rw [← hAe]; exact Or.inr h
  have hS : va_S A s.heap s.heap [] := va_S.rf
  clear hAe hD0
  have hl := lv_entry ([.ref o, .int p0, .int p1]) (n := 4) (Nat.le_of_ble_eq_true rfl)
  rw [lg_entry_eq]
  generalize (lg_sl ([.ref o, .int p0, .int p1]) ++ List.replicate (4 - (lg_sl ([.ref o, .int p0, .int p1])).length) Slot.unset).toArray = ls at hl ⊢
  have hl : lv_has ls 4 [(0, .ref o), (1, .int p0), (2, .int p1)] := hl
  have z_0 : (0 : Int32).toInt = 0 := by decide
  have z_1 : (1 : Int32).toInt = 1 := by decide
  have main : ∀ (H : Heap) (locs : List Loc), va_P (dC, dI) vwCl (rw_W o c kc st lg ai al) H → va_S A s.heap H locs → W p l e (headSpec wsX9_erase ({ frames := 1, cells := 0, slots := 0, locals := 23 })).room s m ([.ref o, .int p0, .int p1] : List Value).toArray below meth cM H locs 0 0 (MQ below (va_Qv (fun (_ : Unit) => True) (fun _ t => ∃ (x3 : Int32) (x4 : Int32) (x5 : Int32) (x6 : Int32) (x12 : Int32) (f0 : Nat → Int32), (0 ≤ x3.toInt) ∧ (x3.toInt ≤ 1) ∧ (0 ≤ x6.toInt) ∧ (x6.toInt ≤ 1) ∧ (0 ≤ x12.toInt) ∧ (x12.toInt ≤ 8) ∧ va_P (dC, dI) vwCl (rw_W o c kc (rU (rU (rU (rU (rU st 3 x3) 4 x4) 5 x5) 6 x6) 12 x12) lg (rU ai 0 f0) al) t.heap) A) ([.ref o, .int p0, .int p1] : List Value).toArray s 0 0 A) (F0 m 0 ls []) := by
    intro H locs hP hS
    refine lv_aload_n hx hb dX9_erase_0 rfl (lv_at hl 0 rfl) ?_
    have hFc := vfree (rw_D hD : va_D A (rw_W o c kc st lg ai al)) hS hA
    refine va_calli (va_runV (As := []) (rest := []) ⟨hx, hb, hml, hown, hts⟩ (v_X9_act l dC dI o c kc st lg ai al  _ (show 0 ≤ (st 3).toInt by omega) (show (st 3).toInt ≤ 1 by omega) (show 0 ≤ (st 6).toInt by omega) (show (st 6).toInt ≤ 1 by omega) (show 0 ≤ (st 12).toInt by omega) (show (st 12).toInt ≤ 8 by omega)) (cwV 0 hts gX9_erase_X9_act rfl rfl rfl (by decide +kernel) ⟨Nat.le_of_ble_eq_true rfl, Nat.le_of_ble_eq_true rfl⟩) ⟨fun a U g mk q => by obtain ⟨q0, q1, qP, qK, qD⟩ := q; exact ⟨q0, q1, qP, va_K.moved (u := U) (U := U.calling g mk a) (Vm.Alike.refl U.vm) qK, qD⟩, va_recv hK hP (ci := 11) (q := (RX9, TX9, 38)) rfl (q0 := 0) rfl, fun U hU hW => ⟨rfl, by rw [hU], by rw [hU]; exact hP, va_K.moved hW.alike hK, rw_D (hD.weaken (fun _ _ _ _ => trivial))⟩⟩ rfl rfl hl.1 rfl (lv_room (Nat.le_of_ble_eq_true rfl)) dX9_erase_1 ⟨Nat.le_of_ble_eq_true rfl, Nat.le_of_ble_eq_true rfl⟩) hS (fun q _ h => hFc q h) hFc (fun r_1 ur_1 t H1 locs ht hvm er_1 hB hz1 hk1 hS => ?_)
    subst er_1
    obtain ⟨x3_1, x4_1, x5_1, x6_1, x12_1, k_2, k_3, k_4, k_5, k_6, k_7, k_8, k_9, hP1⟩ := hB
    rw [ht] at hP1
    clear hFc hz1 hk1 hvm hP
    subst ht
    have hP := hP1
    clear hP1
    generalize t.heap = H at hP hS ⊢
    have hP : va_P (dC, dI) vwCl (rw_W o c kc (rU (rU (rU (rU (rU st 3 x3_1) 4 x4_1) 5 x5_1) 6 x6_1) 12 x12_1) lg ai al) H := hP
    rcases iv_01 (a := r_1) (by omega) (by omega) with b_10 | b_10
    · skip
      have ib_10 := iv_eq b_10
      rw [b_10]
      refine lv_if_eq (tgt := 28) hx hb dX9_erase_4 (by decide) (fun c_11 => ?_) (fun c_11 => ?_)
      · skip
        have ic_11 := iv_eq c_11
        exact W.vret hx hb hr (fun t ht hW => ⟨⟨(), rfl, trivial, x3_1, x4_1, x5_1, x6_1, x12_1, ai 0, (by omega), (by omega), (by omega), (by omega), (by omega), (by omega), by rw [ht]; exact hP⟩, hS.F ht⟩) hS.2.2 dX9_erase_28
      · skip
        have ic_11 := iv_ne c_11
        exfalso
        omega
    · skip
      have ib_10 := iv_eq b_10
      rw [b_10]
      refine lv_if_eq (tgt := 28) hx hb dX9_erase_4 (by decide) (fun c_12 => ?_) (fun c_12 => ?_)
      · skip
        have ic_12 := iv_eq c_12
        exfalso
        omega
      · skip
        have ic_12 := iv_ne c_12
        refine lv_iconst (v := 0) hx hb dX9_erase_7 (by decide) ?_
        refine lv_istore_n (lv' := [(3, .int (0 : Int32)), (0, .ref o), (1, .int p0), (2, .int p1)]) hx hb dX9_erase_8 rfl hl (by decide) rfl (fun ls hl => ?_)
        have loop9 : ∀ (n : Nat) (l3_9 : Int32) (a0_9 : Nat → Int32) (H : Heap) (locs : List Loc) (ls : Array Slot), (0 ≤ l3_9.toInt) → (l3_9.toInt ≤ p1.toInt) → (p1.toInt - l3_9.toInt : Int).toNat < n → va_P (dC, dI) vwCl (rw_W o c kc (rU (rU (rU (rU (rU st 3 x3_1) 4 x4_1) 5 x5_1) 6 x6_1) 12 x12_1) lg (rU ai 0 a0_9) al) H → va_S A s.heap H locs → lv_has ls 4 [(3, .int l3_9), (0, .ref o), (1, .int p0), (2, .int p1)] → W p l e (headSpec wsX9_erase ({ frames := 1, cells := 0, slots := 0, locals := 23 })).room s m ([.ref o, .int p0, .int p1] : List Value).toArray below meth cM H locs 0 0 (MQ below (va_Qv (fun (_ : Unit) => True) (fun _ t => ∃ (x3 : Int32) (x4 : Int32) (x5 : Int32) (x6 : Int32) (x12 : Int32) (f0 : Nat → Int32), (0 ≤ x3.toInt) ∧ (x3.toInt ≤ 1) ∧ (0 ≤ x6.toInt) ∧ (x6.toInt ≤ 1) ∧ (0 ≤ x12.toInt) ∧ (x12.toInt ≤ 8) ∧ va_P (dC, dI) vwCl (rw_W o c kc (rU (rU (rU (rU (rU st 3 x3) 4 x4) 5 x5) 6 x6) 12 x12) lg (rU ai 0 f0) al) t.heap) A) ([.ref o, .int p0, .int p1] : List Value).toArray s 0 0 A) (F0 m 9 ls []) := by
          intro n
          induction n with
          | zero => intro l3_9 a0_9 H locs ls if0_9 if1_9 hm; exact absurd hm (Nat.not_lt_zero _)
          | succ n ih9 =>
            intro l3_9 a0_9 H locs ls if0_9 if1_9 hm9 hP hS hl
            refine lv_iload_n hx hb dX9_erase_9 rfl (lv_at hl 0 rfl) ?_
            refine lv_iload_n hx hb dX9_erase_10 rfl (lv_at hl 3 rfl) ?_
            refine lv_icmp_ge (tgt := 28) hx hb dX9_erase_11 (by decide) (fun c_13 => ?_) (fun c_13 => ?_)
            · skip
              have ic_13 := iv_le c_13
              exact W.vret hx hb hr (fun t ht hW => ⟨⟨(), rfl, trivial, x3_1, x4_1, x5_1, x6_1, x12_1, a0_9, (by omega), (by omega), (by omega), (by omega), (by omega), (by omega), by rw [ht]; exact hP⟩, hS.F ht⟩) hS.2.2 dX9_erase_28
            · skip
              have ic_13 := iv_nle c_13
              refine lv_aload_n hx hb dX9_erase_14 rfl (lv_at hl 1 rfl) ?_
              refine lv_iload_n hx hb dX9_erase_15 rfl (lv_at hl 2 rfl) ?_
              refine lv_iload_n hx hb dX9_erase_16 rfl (lv_at hl 0 rfl) ?_
              refine lv_iadd hx hb dX9_erase_17 ?_
              refine lv_topi (fun v_14 ev_14 => ?_)
              have hv_14 : v_14.toInt = p0.toInt + l3_9.toInt := by rw [ev_14]; exact (iv_add (by omega) (by omega)).trans (by omega)
              clear ev_14
              refine lv_iconst (v := 0) hx hb dX9_erase_18 (by decide) ?_
              have hFc := vfree (rw_D hD : va_D A (rw_W o c kc (rU (rU (rU (rU (rU st 3 x3_1) 4 x4_1) 5 x5_1) 6 x6_1) 12 x12_1) lg (rU ai 0 a0_9) al)) hS hA
              refine va_callv (va_runV (As := [.int v_14, .int (0 : Int32)]) (rest := []) ⟨hx, hb, hml, hown, hts⟩ (v_X9_set l dC dI o c kc (rU (rU (rU (rU (rU st 3 x3_1) 4 x4_1) 5 x5_1) 6 x6_1) 12 x12_1) lg (rU ai 0 a0_9) al v_14 (0 : Int32) _ (by omega) (by omega)) (cwV 2 hts gX9_erase_X9_set rfl rfl rfl (by decide +kernel) ⟨Nat.le_of_ble_eq_true rfl, Nat.le_of_ble_eq_true rfl⟩) ⟨fun a U g mk q => by obtain ⟨q0, q1, qP, qK, qD⟩ := q; exact ⟨q0, q1, qP, va_K.moved (u := U) (U := U.calling g mk a) (Vm.Alike.refl U.vm) qK, qD⟩, va_recv hK hP (ci := 11) (q := (RX9, TX9, 38)) rfl (q0 := 0) rfl, fun U hU hW => ⟨rfl, by rw [hU], by rw [hU]; exact hP, va_K.moved hW.alike hK, rw_D (hD.weaken (fun _ _ _ _ => trivial))⟩⟩ rfl rfl hl.1 rfl (lv_room (Nat.le_of_ble_eq_true rfl)) dX9_erase_19 ⟨Nat.le_of_ble_eq_true rfl, Nat.le_of_ble_eq_true rfl⟩) hS (fun q _ h => hFc q h) hFc (fun ur_15 t H1 locs ht hvm er_15 hB hz1 hk1 hS => ?_)
              obtain ⟨f0_15, hP1⟩ := hB
              rw [ht] at hP1
              clear hFc hz1 hk1 hvm hP
              subst ht
              have hP := hP1
              clear hP1
              generalize t.heap = H at hP hS ⊢
              have hP : va_P (dC, dI) vwCl (rw_W o c kc (rU (rU (rU (rU (rU st 3 x3_1) 4 x4_1) 5 x5_1) 6 x6_1) 12 x12_1) lg (rU ai 0 f0_15) al) H := hP
              obtain ⟨x_16, ex_16⟩ : ∃ z : Int32, z = l3_9 + (1) := ⟨_, rfl⟩
              refine lv_iinc (v := x_16) (lv' := [(3, .int x_16), (0, .ref o), (1, .int p0), (2, .int p1)]) hx hb dX9_erase_22 hl (k := 0) rfl (by rw [ex_16]; rfl) (by decide) rfl (fun ls hl => ?_)
              have hx_16 : x_16.toInt = l3_9.toInt + (1) := by rw [ex_16]; exact (iv_add (by omega) (by omega)).trans (by omega)
              clear ex_16
              refine lv_goto (tgt := 9) hx hb dX9_erase_25 (by decide) ?_
              exact ih9 x_16 f0_15 _ _ _ (by omega) (by omega) (by omega) hP hS (lv_sub hl [0, 1, 2, 3] rfl)
        exact loop9 ((p1.toInt - 0 : Int).toNat + 1) (0 : Int32) (ai 0) _ _ _ (by omega) (by omega) (by omega) hP hS (lv_sub hl [0, 1, 2, 3] rfl)
  exact main s.heap [] hP hS

set_option maxHeartbeats 4000000 in
set_option maxRecDepth 100000 in
theorem v_X9_put (l : Launch) (dC : Nat → ClassId) (dI : Nat → Nat → Nat) (o : Nat) (c : Nat → Nat) (kc : Nat → ClassId) (st : Nat → Int32) (lg : Nat → Int64) (ai : Nat → Nat → Int32) (al : Nat → Nat → Int64) (p0 : Int32) (p1 : Int64) (p2 : Int32) (sz : Nat) (hq0 : 0 ≤ p0.toInt) (hq1 : 0 ≤ p2.toInt) (hq2 : p0.toInt + p2.toInt ≤ 32) : Met l yX9_put wsX9_put ({ frames := 0, cells := 0, slots := 0, locals := 0 }) (va_Pc [.ref o, .int p0, .long p1, .int p2] (fun U => U.heap.size = sz ∧ va_P (dC, dI) vwCl (rw_W o c kc st lg ai al) U.heap ∧ va_K (dC, dI) vwCl (rw_T kc) U ∧ va_D (fun _ => True) (rw_W o c kc st lg ai al))) (va_Qv (fun (_ : Unit) => True) (fun _ t => ∃ (f14 : Nat → Int32), va_P (dC, dI) vwCl (rw_W o c kc st lg (rU ai 14 f14) al) t.heap) (va_A (rw_W o c kc st lg ai al) sz)) 0 0 (va_A (rw_W o c kc st lg ai al) sz) := by
  refine Met.ofW (cc := cX9_put) (maxL := 6) (ret := none) (by decide) rfl ?_
  intro p e s m args below meth cM s₁ B hml hv
  obtain ⟨rfl, hsz, hP, hK, hD0⟩ := hv
  have hx := B.exec
  have hb := B.bytes
  have hr := B.returns
  have hts := atoms_spec (ws := wsX9_put) B.pre
  have hown : s.vm.findClass RX9 = some m.cls := findClass_of_methodNamed B.named
  subst hsz
  have hD := hD0.self (sz := s.heap.size)
  generalize hAe : va_A (rw_W o c kc st lg ai al) s.heap.size = A at hD ⊢
  have hA : ∀ q : Nat, s.heap.size ≤ q → A q := fun q h => by rw [← hAe]; exact Or.inr h
  have hS : va_S A s.heap s.heap [] := va_S.rf
  clear hAe hD0
  have hl := lv_entry ([.ref o, .int p0, .long p1, .int p2]) (n := 6) (Nat.le_of_ble_eq_true rfl)
  rw [lg_entry_eq]
  generalize (lg_sl ([.ref o, .int p0, .long p1, .int p2]) ++ List.replicate (6 - (lg_sl ([.ref o, .int p0, .long p1, .int p2])).length) Slot.unset).toArray = ls at hl ⊢
  have hl : lv_has ls 6 [(0, .ref o), (1, .int p0), (2, .long p1), (4, .int p2)] := hl
  have z_0 : (0 : Int32).toInt = 0 := by decide
  have z_1 : (1 : Int32).toInt = 1 := by decide
  have z_8 : (8 : Int32).toInt = 8 := by decide
  have hin9 : ∀ w ∈ u_ws RX9 TX9 38, w ∈ wsX9_put := by decide +kernel
  have main : ∀ (H : Heap) (locs : List Loc), va_P (dC, dI) vwCl (rw_W o c kc st lg ai al) H → va_S A s.heap H locs → W p l e (headSpec wsX9_put ({ frames := 0, cells := 0, slots := 0, locals := 0 })).room s m ([.ref o, .int p0, .long p1, .int p2] : List Value).toArray below meth cM H locs 0 0 (MQ below (va_Qv (fun (_ : Unit) => True) (fun _ t => ∃ (f14 : Nat → Int32), va_P (dC, dI) vwCl (rw_W o c kc st lg (rU ai 14 f14) al) t.heap) A) ([.ref o, .int p0, .long p1, .int p2] : List Value).toArray s 0 0 A) (F0 m 0 ls []) := by
    intro H locs hP hS
    refine lv_iconst (v := 0) hx hb dX9_put_0 (by decide) ?_
    refine lv_istore (lv' := [(5, .int (0 : Int32)), (0, .ref o), (1, .int p0), (2, .long p1), (4, .int p2)]) hx hb dX9_put_1 hl (by decide) rfl (fun ls hl => ?_)
    have loop3 : ∀ (n : Nat) (l5_3 : Int32) (a14_3 : Nat → Int32) (H : Heap) (locs : List Loc) (ls : Array Slot), (0 ≤ l5_3.toInt) → (l5_3.toInt ≤ p2.toInt) → (p2.toInt - l5_3.toInt : Int).toNat < n → va_P (dC, dI) vwCl (rw_W o c kc st lg (rU ai 14 a14_3) al) H → va_S A s.heap H locs → lv_has ls 6 [(5, .int l5_3), (0, .ref o), (1, .int p0), (2, .long p1), (4, .int p2)] → W p l e (headSpec wsX9_put ({ frames := 0, cells := 0, slots := 0, locals := 0 })).room s m ([.ref o, .int p0, .long p1, .int p2] : List Value).toArray below meth cM H locs 0 0 (MQ below (va_Qv (fun (_ : Unit) => True) (fun _ t => ∃ (f14 : Nat → Int32), va_P (dC, dI) vwCl (rw_W o c kc st lg (rU ai 14 f14) al) t.heap) A) ([.ref o, .int p0, .long p1, .int p2] : List Value).toArray s 0 0 A) (F0 m 3 ls []) := by
      intro n
      induction n with
      | zero => intro l5_3 a14_3 H locs ls if0_3 if1_3 hm; exact absurd hm (Nat.not_lt_zero _)
      | succ n ih3 =>
        intro l5_3 a14_3 H locs ls if0_3 if1_3 hm3 hP hS hl
        refine lv_iload hx hb dX9_put_3 (lv_at hl 0 rfl) ?_
        refine lv_iload hx hb dX9_put_5 (lv_at hl 4 rfl) ?_
        refine lv_icmp_ge (tgt := 42) hx hb dX9_put_7 (by decide) (fun c_1 => ?_) (fun c_1 => ?_)
        · skip
          have ic_1 := iv_le c_1
          exact W.vret hx hb hr (fun t ht hW => ⟨⟨(), rfl, trivial, a14_3, by rw [ht]; exact hP⟩, hS.F ht⟩) hS.2.2 dX9_put_42
        · skip
          have ic_1 := iv_nle c_1
          refine lv_aload_n hx hb dX9_put_10 rfl (lv_at hl 1 rfl) ?_
          refine va_get (D := (dC, dI)) (ci := 11) (v := .ref (c 14)) (C := RX9) (T := TX9) (N := 38) hx hb hts hin9 hown hK hP 0 rfl rfl 14 (by decide) (hts (.fieldLink RX9 24 "BlockLogModel" "fresh" "[I") (by decide +kernel)) (fun _ h9 => h9) rfl dX9_put_11 ?_
          refine lv_iload_n hx hb dX9_put_14 rfl (lv_at hl 2 rfl) ?_
          refine lv_iload hx hb dX9_put_15 (lv_at hl 0 rfl) ?_
          refine lv_iadd hx hb dX9_put_17 ?_
          refine lv_topi (fun v_2 ev_2 => ?_)
          have hv_2 : v_2.toInt = p0.toInt + l5_3.toInt := by rw [ev_2]; exact (iv_add (by omega) (by omega)).trans (by omega)
          clear ev_2
          refine lv_lload_n hx hb dX9_put_18 rfl (lv_at hl 3 rfl) ?_
          refine lv_bipush (v := 8) hx hb dX9_put_19 (by decide) ?_
          refine lv_iload hx hb dX9_put_21 (lv_at hl 4 rfl) ?_
          refine lv_iconst (v := 1) hx hb dX9_put_23 (by decide) ?_
          refine lv_isub hx hb dX9_put_24 ?_
          refine lv_topi (fun v_3 ev_3 => ?_)
          have hv_3 : v_3.toInt = p2.toInt - 1 := by rw [ev_3]; exact (iv_sub (by omega) (by omega)).trans (by omega)
          clear ev_3
          refine lv_iload hx hb dX9_put_25 (lv_at hl 0 rfl) ?_
          refine lv_isub hx hb dX9_put_27 ?_
          refine lv_topi (fun v_4 ev_4 => ?_)
          have hv_4 : v_4.toInt = v_3.toInt - l5_3.toInt := by rw [ev_4]; exact (iv_sub (by omega) (by omega)).trans (by omega)
          clear ev_4
          refine lv_imul hx hb dX9_put_28 ?_
          refine lv_topi (fun v_5 ev_5 => ?_)
          have hv_5 : v_5.toInt = 8 * v_4.toInt := by rw [ev_5]; exact (iv_mulc z_8 (by omega) (by omega)).trans (by omega)
          clear ev_5
          refine lv_lushr hx hb dX9_put_29 rfl ?_
          refine lv_topl (fun w_6 ew_6 => ?_)
          clear ew_6
          refine lv_ldc2 hx hb hown (hts (.constantLong RX9 94 (255)) (by decide +kernel)) dX9_put_30 ?_
          refine lv_land hx hb dX9_put_33 ?_
          refine lv_topl (fun w_7 ew_7 => ?_)
          clear ew_7
          refine lv_l2i hx hb dX9_put_34 rfl ?_
          refine lv_topi (fun v_8 ev_8 => ?_)
          clear ev_8
          refine va_iast (f := a14_3) hx hb hK hP (rw_D hD) hS 5 4 rfl rfl (iv_in (i := v_2) (by omega) (by omega)) dX9_put_35 (fun H locs hP _ hS => ?_)
          have hP : va_P (dC, dI) vwCl (rw_W o c kc st lg (rU ai 14 (upd a14_3 v_2.toNatClampNeg v_8)) al) H := hP
          generalize upd a14_3 v_2.toNatClampNeg v_8 = g_9 at hP
          obtain ⟨x_10, ex_10⟩ : ∃ z : Int32, z = l5_3 + (1) := ⟨_, rfl⟩
          refine lv_iinc (v := x_10) (lv' := [(5, .int x_10), (0, .ref o), (1, .int p0), (2, .long p1), (4, .int p2)]) hx hb dX9_put_36 hl (k := 0) rfl (by rw [ex_10]; rfl) (by decide) rfl (fun ls hl => ?_)
          have hx_10 : x_10.toInt = l5_3.toInt + (1) := by rw [ex_10]; exact (iv_add (by omega) (by omega)).trans (by omega)
          clear ex_10
          refine lv_goto (tgt := 3) hx hb dX9_put_39 (by decide) ?_
          exact ih3 x_10 g_9 _ _ _ (by omega) (by omega) (by omega) hP hS (lv_sub hl [0, 1, 2, 3, 4] rfl)
    exact loop3 ((p2.toInt - 0 : Int).toNat + 1) (0 : Int32) (ai 14) _ _ _ (by omega) (by omega) (by omega) hP hS (lv_sub hl [0, 1, 2, 3, 4] rfl)
  exact main s.heap [] hP hS

set_option maxHeartbeats 4000000 in
set_option maxRecDepth 100000 in
theorem v_X9_freshSum (l : Launch) (dC : Nat → ClassId) (dI : Nat → Nat → Nat) (o : Nat) (c : Nat → Nat) (kc : Nat → ClassId) (st : Nat → Int32) (lg : Nat → Int64) (ai : Nat → Nat → Int32) (al : Nat → Nat → Int64) (p0 : Int32) (p1 : Int32) (hq0 : 0 ≤ p1.toInt) (hq1 : p1.toInt ≤ 32) : Met l yX9_freshSum wsX9_freshSum ({ frames := 1, cells := 0, slots := 0, locals := 24 }) (va_Pc [.ref o, .int p0, .int p1] (fun U => va_P (dC, dI) vwCl (rw_W o c kc st lg ai al) U.heap ∧ va_K (dC, dI) vwCl (rw_T kc) U)) (vp_Sl (fun _ => True)) 0 0 (fun _ => False) := by
  refine Met.ofW (cc := cX9_freshSum) (maxL := 6) (ret := (some .long)) (by decide) rfl ?_
  intro p e s m args below meth cM s₁ B hml hv
  obtain ⟨rfl, hP, hK⟩ := hv
  have hx := B.exec
  have hb := B.bytes
  have hr := B.returns
  have hts := atoms_spec (ws := wsX9_freshSum) B.pre
  have hown : s.vm.findClass RX9 = some m.cls := findClass_of_methodNamed B.named
  have hl := lv_entry ([.ref o, .int p0, .int p1]) (n := 6) (Nat.le_of_ble_eq_true rfl)
  rw [lg_entry_eq]
  generalize (lg_sl ([.ref o, .int p0, .int p1]) ++ List.replicate (6 - (lg_sl ([.ref o, .int p0, .int p1])).length) Slot.unset).toArray = ls at hl ⊢
  have hl : lv_has ls 6 [(0, .ref o), (1, .int p0), (2, .int p1)] := hl
  have z_0 : (0 : Int32).toInt = 0 := by decide
  have z_1 : (1 : Int32).toInt = 1 := by decide
  have hin9 : ∀ w ∈ u_ws RX9 TX9 38, w ∈ wsX9_freshSum := by decide +kernel
  refine lv_ldc2 hx hb hown (hts (.constantLong RX9 102 (1000003)) (by decide +kernel)) dX9_freshSum_0 ?_
  refine lv_iload_n hx hb dX9_freshSum_3 rfl (lv_at hl 1 rfl) ?_
  refine lv_i2l hx hb dX9_freshSum_4 rfl ?_
  refine lv_topl (fun w_1 ew_1 => ?_)
  clear ew_1
  refine lv_lmul hx hb dX9_freshSum_5 ?_
  refine lv_topl (fun w_2 ew_2 => ?_)
  clear ew_2
  refine lv_lstore_n (lv' := [(3, .long w_2), (0, .ref o), (1, .int p0), (2, .int p1)]) hx hb dX9_freshSum_6 rfl hl (by decide) rfl (fun ls hl => ?_)
  refine lv_iconst (v := 0) hx hb dX9_freshSum_7 (by decide) ?_
  refine lv_istore (lv' := [(5, .int (0 : Int32)), (3, .long w_2), (0, .ref o), (1, .int p0), (2, .int p1)]) hx hb dX9_freshSum_8 hl (by decide) rfl (fun ls hl => ?_)
  have loop10 : ∀ (n : Nat) (l5_10 : Int32) (l3_10 : Int64) (ls : Array Slot), (0 ≤ l5_10.toInt) → (l5_10.toInt ≤ p1.toInt) → (p1.toInt - l5_10.toInt : Int).toNat < n → lv_has ls 6 [(5, .int l5_10), (3, .long l3_10), (0, .ref o), (1, .int p0), (2, .int p1)] → W p l e (headSpec wsX9_freshSum ({ frames := 1, cells := 0, slots := 0, locals := 24 })).room s m ([.ref o, .int p0, .int p1] : List Value).toArray below meth cM s.heap [] 0 0 (MQ below (vp_Sl (fun _ => True)) ([.ref o, .int p0, .int p1] : List Value).toArray s 0 0 (fun _ => False)) (F0 m 10 ls []) := by
    intro n
    induction n with
    | zero => intro l5_10 l3_10 ls if0_10 if1_10 hm; exact absurd hm (Nat.not_lt_zero _)
    | succ n ih10 =>
      intro l5_10 l3_10 ls if0_10 if1_10 hm10 hl
      refine lv_iload hx hb dX9_freshSum_10 (lv_at hl 0 rfl) ?_
      refine lv_iload_n hx hb dX9_freshSum_12 rfl (lv_at hl 4 rfl) ?_
      refine lv_icmp_ge (tgt := 34) hx hb dX9_freshSum_13 (by decide) (fun c_3 => ?_) (fun c_3 => ?_)
      · skip
        have ic_3 := iv_le c_3
        refine lv_lload_n hx hb dX9_freshSum_34 rfl (lv_at hl 1 rfl) ?_
        exact W.lret hx hb hr (fun t ht hW => ⟨_, rfl, trivial, ht⟩) (fun q h => by cases h) dX9_freshSum_35
      · skip
        have ic_3 := iv_nle c_3
        refine lv_lload_n hx hb dX9_freshSum_16 rfl (lv_at hl 1 rfl) ?_
        refine lv_aload_n hx hb dX9_freshSum_17 rfl (lv_at hl 2 rfl) ?_
        refine va_get (D := (dC, dI)) (ci := 11) (v := .ref (c 14)) (C := RX9) (T := TX9) (N := 38) hx hb hts hin9 hown hK hP 0 rfl rfl 14 (by decide) (hts (.fieldLink RX9 24 "BlockLogModel" "fresh" "[I") (by decide +kernel)) (fun _ h9 => h9) rfl dX9_freshSum_18 ?_
        refine lv_iload hx hb dX9_freshSum_21 (lv_at hl 0 rfl) ?_
        refine va_iald (f := ai 14) hx hb hK hP 5 4 rfl rfl (iv_in (i := l5_10) (by omega) (by omega)) dX9_freshSum_23 ?_
        refine lv_topi (fun v_4 ev_4 => ?_)
        clear ev_4
        refine vp_callSl (va_Run.run (va_runS (As := [.long l3_10, .int v_4]) (rest := []) ⟨hx, hb, hml, hown, hts⟩ (v_X9_more l dC dI l3_10 v_4 ) (va_cwS 2 hts gX9_freshSum_X9_more rfl rfl rfl (by decide +kernel) ⟨Nat.le_of_ble_eq_true rfl, Nat.le_of_ble_eq_true rfl⟩) ⟨fun a U g mk q => q, fun U hU hW => ⟨rfl, trivial⟩⟩ rfl rfl hl.1 rfl (lv_room (Nat.le_of_ble_eq_true rfl)) dX9_freshSum_24 ⟨Nat.le_of_ble_eq_true rfl, Nat.le_of_ble_eq_true rfl⟩)) (fun r_5 er_5 => ?_)
        refine lv_lstore_n (lv' := [(3, .long r_5), (5, .int l5_10), (0, .ref o), (1, .int p0), (2, .int p1)]) hx hb dX9_freshSum_27 rfl hl (by decide) rfl (fun ls hl => ?_)
        obtain ⟨x_6, ex_6⟩ : ∃ z : Int32, z = l5_10 + (1) := ⟨_, rfl⟩
        refine lv_iinc (v := x_6) (lv' := [(5, .int x_6), (3, .long r_5), (0, .ref o), (1, .int p0), (2, .int p1)]) hx hb dX9_freshSum_28 hl (k := 1) rfl (by rw [ex_6]; rfl) (by decide) rfl (fun ls hl => ?_)
        have hx_6 : x_6.toInt = l5_10.toInt + (1) := by rw [ex_6]; exact (iv_add (by omega) (by omega)).trans (by omega)
        clear ex_6
        refine lv_goto (tgt := 10) hx hb dX9_freshSum_31 (by decide) ?_
        exact ih10 x_6 r_5 _ (by omega) (by omega) (by omega) (lv_sub hl [0, 1, 2, 3, 4] rfl)
  exact loop10 ((p1.toInt - 0 : Int).toNat + 1) (0 : Int32) w_2 _ (by omega) (by omega) (by omega) (lv_sub hl [0, 1, 2, 3, 4] rfl)

set_option maxHeartbeats 4000000 in
set_option maxRecDepth 100000 in
theorem v_X9_layRow (l : Launch) (dC : Nat → ClassId) (dI : Nat → Nat → Nat) (o : Nat) (c : Nat → Nat) (kc : Nat → ClassId) (st : Nat → Int32) (lg : Nat → Int64) (ai : Nat → Nat → Int32) (al : Nat → Nat → Int64) (p0 : Int32) (p1 : Int32) (p2 : Int32) (p3 : Int64) (sz : Nat)  : Met l yX9_layRow wsX9_layRow ({ frames := 2, cells := 0, slots := 0, locals := 49 }) (va_Pc [.ref o, .int p0, .int p1, .int p2, .long p3] (fun U => U.heap.size = sz ∧ va_P (dC, dI) vwCl (rw_W o c kc st lg ai al) U.heap ∧ va_K (dC, dI) vwCl (rw_T kc) U ∧ va_D (fun _ => True) (rw_W o c kc st lg ai al))) (va_Qv (fun (_ : Unit) => True) (fun _ t => ∃ (f14 : Nat → Int32), va_P (dC, dI) vwCl (rw_W o c kc st lg (rU ai 14 f14) al) t.heap) (va_A (rw_W o c kc st lg ai al) sz)) 0 0 (va_A (rw_W o c kc st lg ai al) sz) := by
  refine Met.ofW (cc := cX9_layRow) (maxL := 6) (ret := none) (by decide) rfl ?_
  intro p e s m args below meth cM s₁ B hml hv
  obtain ⟨rfl, hsz, hP, hK, hD0⟩ := hv
  have hx := B.exec
  have hb := B.bytes
  have hr := B.returns
  have hts := atoms_spec (ws := wsX9_layRow) B.pre
  have hown : s.vm.findClass RX9 = some m.cls := findClass_of_methodNamed B.named
  subst hsz
  have hD := hD0.self (sz := s.heap.size)
  generalize hAe : va_A (rw_W o c kc st lg ai al) s.heap.size = A at hD ⊢
  have hA : ∀ q : Nat, s.heap.size ≤ q → A q := fun q h => by rw [← hAe]; exact Or.inr h
  have hS : va_S A s.heap s.heap [] := va_S.rf
  clear hAe hD0
  have hl := lv_entry ([.ref o, .int p0, .int p1, .int p2, .long p3]) (n := 6) (Nat.le_of_ble_eq_true rfl)
  rw [lg_entry_eq]
  generalize (lg_sl ([.ref o, .int p0, .int p1, .int p2, .long p3]) ++ List.replicate (6 - (lg_sl ([.ref o, .int p0, .int p1, .int p2, .long p3])).length) Slot.unset).toArray = ls at hl ⊢
  have hl : lv_has ls 6 [(0, .ref o), (1, .int p0), (2, .int p1), (3, .int p2), (4, .long p3)] := hl
  have z_0 : (0 : Int32).toInt = 0 := by decide
  have z_1 : (1 : Int32).toInt = 1 := by decide
  have z_2 : (2 : Int32).toInt = 2 := by decide
  have z_4 : (4 : Int32).toInt = 4 := by decide
  have z_5 : (5 : Int32).toInt = 5 := by decide
  have z_6 : (6 : Int32).toInt = 6 := by decide
  have z_8 : (8 : Int32).toInt = 8 := by decide
  have z_9 : (9 : Int32).toInt = 9 := by decide
  have z_17 : (17 : Int32).toInt = 17 := by decide
  have z_23 : (23 : Int32).toInt = 23 := by decide
  have z_31 : (31 : Int32).toInt = 31 := by decide
  have z_165 : (165 : Int32).toInt = 165 := by decide
  have hin9 : ∀ w ∈ u_ws RX9 TX9 38, w ∈ wsX9_layRow := by decide +kernel
  have main : ∀ (H : Heap) (locs : List Loc), va_P (dC, dI) vwCl (rw_W o c kc st lg ai al) H → va_S A s.heap H locs → W p l e (headSpec wsX9_layRow ({ frames := 2, cells := 0, slots := 0, locals := 49 })).room s m ([.ref o, .int p0, .int p1, .int p2, .long p3] : List Value).toArray below meth cM H locs 0 0 (MQ below (va_Qv (fun (_ : Unit) => True) (fun _ t => ∃ (f14 : Nat → Int32), va_P (dC, dI) vwCl (rw_W o c kc st lg (rU ai 14 f14) al) t.heap) A) ([.ref o, .int p0, .int p1, .int p2, .long p3] : List Value).toArray s 0 0 A) (F0 m 0 ls []) := by
    intro H locs hP hS
    refine lv_aload_n hx hb dX9_layRow_0 rfl (lv_at hl 0 rfl) ?_
    refine lv_iconst (v := 0) hx hb dX9_layRow_1 (by decide) ?_
    refine lv_iload_n hx hb dX9_layRow_2 rfl (lv_at hl 1 rfl) ?_
    refine lv_i2l hx hb dX9_layRow_3 rfl ?_
    refine lv_topl (fun w_1 ew_1 => ?_)
    clear ew_1
    refine lv_iconst (v := 1) hx hb dX9_layRow_4 (by decide) ?_
    have hFc := vfree (rw_D hD : va_D A (rw_W o c kc st lg ai al)) hS hA
    refine va_callv (va_runV (As := [.int (0 : Int32), .long w_1, .int (1 : Int32)]) (rest := []) ⟨hx, hb, hml, hown, hts⟩ (v_X9_put l dC dI o c kc st lg ai al (0 : Int32) w_1 (1 : Int32) _ (by omega) (by omega) (by omega)) (cwV 3 hts gX9_layRow_X9_put rfl rfl rfl (by decide +kernel) ⟨Nat.le_of_ble_eq_true rfl, Nat.le_of_ble_eq_true rfl⟩) ⟨fun a U g mk q => by obtain ⟨q0, q1, qP, qK, qD⟩ := q; exact ⟨q0, q1, qP, va_K.moved (u := U) (U := U.calling g mk a) (Vm.Alike.refl U.vm) qK, qD⟩, va_recv hK hP (ci := 11) (q := (RX9, TX9, 38)) rfl (q0 := 0) rfl, fun U hU hW => ⟨rfl, by rw [hU], by rw [hU]; exact hP, va_K.moved hW.alike hK, rw_D (hD.weaken (fun _ _ _ _ => trivial))⟩⟩ rfl rfl hl.1 rfl (lv_room (Nat.le_of_ble_eq_true rfl)) dX9_layRow_5 ⟨Nat.le_of_ble_eq_true rfl, Nat.le_of_ble_eq_true rfl⟩) hS (fun q _ h => hFc q h) hFc (fun ur_2 t H1 locs ht hvm er_2 hB hz1 hk1 hS => ?_)
    obtain ⟨f14_2, hP1⟩ := hB
    rw [ht] at hP1
    clear hFc hz1 hk1 hvm hP
    subst ht
    have hP := hP1
    clear hP1
    generalize t.heap = H at hP hS ⊢
    have hP : va_P (dC, dI) vwCl (rw_W o c kc st lg (rU ai 14 f14_2) al) H := hP
    refine lv_aload_n hx hb dX9_layRow_8 rfl (lv_at hl 0 rfl) ?_
    refine lv_iconst (v := 1) hx hb dX9_layRow_9 (by decide) ?_
    refine lv_iload_n hx hb dX9_layRow_10 rfl (lv_at hl 2 rfl) ?_
    refine lv_i2l hx hb dX9_layRow_11 rfl ?_
    refine lv_topl (fun w_3 ew_3 => ?_)
    clear ew_3
    refine lv_iconst (v := 4) hx hb dX9_layRow_12 (by decide) ?_
    have hFc := vfree (rw_D hD : va_D A (rw_W o c kc st lg (rU ai 14 f14_2) al)) hS hA
    refine va_callv (va_runV (As := [.int (1 : Int32), .long w_3, .int (4 : Int32)]) (rest := []) ⟨hx, hb, hml, hown, hts⟩ (v_X9_put l dC dI o c kc st lg (rU ai 14 f14_2) al (1 : Int32) w_3 (4 : Int32) _ (by omega) (by omega) (by omega)) (cwV 3 hts gX9_layRow_X9_put rfl rfl rfl (by decide +kernel) ⟨Nat.le_of_ble_eq_true rfl, Nat.le_of_ble_eq_true rfl⟩) ⟨fun a U g mk q => by obtain ⟨q0, q1, qP, qK, qD⟩ := q; exact ⟨q0, q1, qP, va_K.moved (u := U) (U := U.calling g mk a) (Vm.Alike.refl U.vm) qK, qD⟩, va_recv hK hP (ci := 11) (q := (RX9, TX9, 38)) rfl (q0 := 0) rfl, fun U hU hW => ⟨rfl, by rw [hU], by rw [hU]; exact hP, va_K.moved hW.alike hK, rw_D (hD.weaken (fun _ _ _ _ => trivial))⟩⟩ rfl rfl hl.1 rfl (lv_room (Nat.le_of_ble_eq_true rfl)) dX9_layRow_13 ⟨Nat.le_of_ble_eq_true rfl, Nat.le_of_ble_eq_true rfl⟩) hS (fun q _ h => hFc q h) hFc (fun ur_4 t H1 locs ht hvm er_4 hB hz1 hk1 hS => ?_)
    obtain ⟨f14_4, hP1⟩ := hB
    rw [ht] at hP1
    clear hFc hz1 hk1 hvm hP
    subst ht
    have hP := hP1
    clear hP1
    generalize t.heap = H at hP hS ⊢
    have hP : va_P (dC, dI) vwCl (rw_W o c kc st lg (rU ai 14 f14_4) al) H := hP
    refine lv_aload_n hx hb dX9_layRow_16 rfl (lv_at hl 0 rfl) ?_
    refine lv_iconst (v := 5) hx hb dX9_layRow_17 (by decide) ?_
    refine lv_iload_n hx hb dX9_layRow_18 rfl (lv_at hl 3 rfl) ?_
    refine lv_i2l hx hb dX9_layRow_19 rfl ?_
    refine lv_topl (fun w_5 ew_5 => ?_)
    clear ew_5
    refine lv_iconst (v := 4) hx hb dX9_layRow_20 (by decide) ?_
    have hFc := vfree (rw_D hD : va_D A (rw_W o c kc st lg (rU ai 14 f14_4) al)) hS hA
    refine va_callv (va_runV (As := [.int (5 : Int32), .long w_5, .int (4 : Int32)]) (rest := []) ⟨hx, hb, hml, hown, hts⟩ (v_X9_put l dC dI o c kc st lg (rU ai 14 f14_4) al (5 : Int32) w_5 (4 : Int32) _ (by omega) (by omega) (by omega)) (cwV 3 hts gX9_layRow_X9_put rfl rfl rfl (by decide +kernel) ⟨Nat.le_of_ble_eq_true rfl, Nat.le_of_ble_eq_true rfl⟩) ⟨fun a U g mk q => by obtain ⟨q0, q1, qP, qK, qD⟩ := q; exact ⟨q0, q1, qP, va_K.moved (u := U) (U := U.calling g mk a) (Vm.Alike.refl U.vm) qK, qD⟩, va_recv hK hP (ci := 11) (q := (RX9, TX9, 38)) rfl (q0 := 0) rfl, fun U hU hW => ⟨rfl, by rw [hU], by rw [hU]; exact hP, va_K.moved hW.alike hK, rw_D (hD.weaken (fun _ _ _ _ => trivial))⟩⟩ rfl rfl hl.1 rfl (lv_room (Nat.le_of_ble_eq_true rfl)) dX9_layRow_21 ⟨Nat.le_of_ble_eq_true rfl, Nat.le_of_ble_eq_true rfl⟩) hS (fun q _ h => hFc q h) hFc (fun ur_6 t H1 locs ht hvm er_6 hB hz1 hk1 hS => ?_)
    obtain ⟨f14_6, hP1⟩ := hB
    rw [ht] at hP1
    clear hFc hz1 hk1 hvm hP
    subst ht
    have hP := hP1
    clear hP1
    generalize t.heap = H at hP hS ⊢
    have hP : va_P (dC, dI) vwCl (rw_W o c kc st lg (rU ai 14 f14_6) al) H := hP
    refine lv_aload_n hx hb dX9_layRow_24 rfl (lv_at hl 0 rfl) ?_
    refine lv_bipush (v := 9) hx hb dX9_layRow_25 (by decide) ?_
    refine lv_lload hx hb dX9_layRow_27 (lv_at hl 4 rfl) ?_
    refine lv_bipush (v := 8) hx hb dX9_layRow_29 (by decide) ?_
    have hFc := vfree (rw_D hD : va_D A (rw_W o c kc st lg (rU ai 14 f14_6) al)) hS hA
    refine va_callv (va_runV (As := [.int (9 : Int32), .long p3, .int (8 : Int32)]) (rest := []) ⟨hx, hb, hml, hown, hts⟩ (v_X9_put l dC dI o c kc st lg (rU ai 14 f14_6) al (9 : Int32) p3 (8 : Int32) _ (by omega) (by omega) (by omega)) (cwV 3 hts gX9_layRow_X9_put rfl rfl rfl (by decide +kernel) ⟨Nat.le_of_ble_eq_true rfl, Nat.le_of_ble_eq_true rfl⟩) ⟨fun a U g mk q => by obtain ⟨q0, q1, qP, qK, qD⟩ := q; exact ⟨q0, q1, qP, va_K.moved (u := U) (U := U.calling g mk a) (Vm.Alike.refl U.vm) qK, qD⟩, va_recv hK hP (ci := 11) (q := (RX9, TX9, 38)) rfl (q0 := 0) rfl, fun U hU hW => ⟨rfl, by rw [hU], by rw [hU]; exact hP, va_K.moved hW.alike hK, rw_D (hD.weaken (fun _ _ _ _ => trivial))⟩⟩ rfl rfl hl.1 rfl (lv_room (Nat.le_of_ble_eq_true rfl)) dX9_layRow_31 ⟨Nat.le_of_ble_eq_true rfl, Nat.le_of_ble_eq_true rfl⟩) hS (fun q _ h => hFc q h) hFc (fun ur_7 t H1 locs ht hvm er_7 hB hz1 hk1 hS => ?_)
    obtain ⟨f14_7, hP1⟩ := hB
    rw [ht] at hP1
    clear hFc hz1 hk1 hvm hP
    subst ht
    have hP := hP1
    clear hP1
    generalize t.heap = H at hP hS ⊢
    have hP : va_P (dC, dI) vwCl (rw_W o c kc st lg (rU ai 14 f14_7) al) H := hP
    refine lv_aload_n hx hb dX9_layRow_34 rfl (lv_at hl 0 rfl) ?_
    refine lv_bipush (v := 17) hx hb dX9_layRow_35 (by decide) ?_
    refine lv_lconst (v := 0) hx hb dX9_layRow_37 (by decide) ?_
    refine lv_bipush (v := 6) hx hb dX9_layRow_38 (by decide) ?_
    have hFc := vfree (rw_D hD : va_D A (rw_W o c kc st lg (rU ai 14 f14_7) al)) hS hA
    refine va_callv (va_runV (As := [.int (17 : Int32), .long (0 : Int64), .int (6 : Int32)]) (rest := []) ⟨hx, hb, hml, hown, hts⟩ (v_X9_put l dC dI o c kc st lg (rU ai 14 f14_7) al (17 : Int32) (0 : Int64) (6 : Int32) _ (by omega) (by omega) (by omega)) (cwV 3 hts gX9_layRow_X9_put rfl rfl rfl (by decide +kernel) ⟨Nat.le_of_ble_eq_true rfl, Nat.le_of_ble_eq_true rfl⟩) ⟨fun a U g mk q => by obtain ⟨q0, q1, qP, qK, qD⟩ := q; exact ⟨q0, q1, qP, va_K.moved (u := U) (U := U.calling g mk a) (Vm.Alike.refl U.vm) qK, qD⟩, va_recv hK hP (ci := 11) (q := (RX9, TX9, 38)) rfl (q0 := 0) rfl, fun U hU hW => ⟨rfl, by rw [hU], by rw [hU]; exact hP, va_K.moved hW.alike hK, rw_D (hD.weaken (fun _ _ _ _ => trivial))⟩⟩ rfl rfl hl.1 rfl (lv_room (Nat.le_of_ble_eq_true rfl)) dX9_layRow_40 ⟨Nat.le_of_ble_eq_true rfl, Nat.le_of_ble_eq_true rfl⟩) hS (fun q _ h => hFc q h) hFc (fun ur_8 t H1 locs ht hvm er_8 hB hz1 hk1 hS => ?_)
    obtain ⟨f14_8, hP1⟩ := hB
    rw [ht] at hP1
    clear hFc hz1 hk1 hvm hP
    subst ht
    have hP := hP1
    clear hP1
    generalize t.heap = H at hP hS ⊢
    have hP : va_P (dC, dI) vwCl (rw_W o c kc st lg (rU ai 14 f14_8) al) H := hP
    refine lv_aload_n hx hb dX9_layRow_43 rfl (lv_at hl 0 rfl) ?_
    refine lv_bipush (v := 23) hx hb dX9_layRow_44 (by decide) ?_
    refine lv_aload_n hx hb dX9_layRow_46 rfl (lv_at hl 0 rfl) ?_
    refine lv_iconst (v := 2) hx hb dX9_layRow_47 (by decide) ?_
    refine lv_bipush (v := 23) hx hb dX9_layRow_48 (by decide) ?_
    refine vp_callSl (va_Run.run (va_runV (As := [.int (2 : Int32), .int (23 : Int32)]) (rest := [.int (23 : Int32), .ref o]) ⟨hx, hb, hml, hown, hts⟩ (v_X9_freshSum l dC dI o c kc st lg (rU ai 14 f14_8) al (2 : Int32) (23 : Int32) (by omega) (by omega)) (cwV 2 hts gX9_layRow_X9_freshSum rfl rfl rfl (by decide +kernel) ⟨Nat.le_of_ble_eq_true rfl, Nat.le_of_ble_eq_true rfl⟩) ⟨fun a U g mk q => by obtain ⟨q0, qP, qK⟩ := q; exact ⟨q0, qP, va_K.moved (u := U) (U := U.calling g mk a) (Vm.Alike.refl U.vm) qK⟩, va_recv hK hP (ci := 11) (q := (RX9, TX9, 38)) rfl (q0 := 0) rfl, fun U hU hW => ⟨rfl, by rw [hU]; exact hP, va_K.moved hW.alike hK⟩⟩ rfl rfl hl.1 rfl (lv_room (Nat.le_of_ble_eq_true rfl)) dX9_layRow_50 ⟨Nat.le_of_ble_eq_true rfl, Nat.le_of_ble_eq_true rfl⟩)) (fun r_9 er_9 => ?_)
    refine lv_bipush (v := 8) hx hb dX9_layRow_53 (by decide) ?_
    have hFc := vfree (rw_D hD : va_D A (rw_W o c kc st lg (rU ai 14 f14_8) al)) hS hA
    refine va_callv (va_runV (As := [.int (23 : Int32), .long r_9, .int (8 : Int32)]) (rest := []) ⟨hx, hb, hml, hown, hts⟩ (v_X9_put l dC dI o c kc st lg (rU ai 14 f14_8) al (23 : Int32) r_9 (8 : Int32) _ (by omega) (by omega) (by omega)) (cwV 3 hts gX9_layRow_X9_put rfl rfl rfl (by decide +kernel) ⟨Nat.le_of_ble_eq_true rfl, Nat.le_of_ble_eq_true rfl⟩) ⟨fun a U g mk q => by obtain ⟨q0, q1, qP, qK, qD⟩ := q; exact ⟨q0, q1, qP, va_K.moved (u := U) (U := U.calling g mk a) (Vm.Alike.refl U.vm) qK, qD⟩, va_recv hK hP (ci := 11) (q := (RX9, TX9, 38)) rfl (q0 := 0) rfl, fun U hU hW => ⟨rfl, by rw [hU], by rw [hU]; exact hP, va_K.moved hW.alike hK, rw_D (hD.weaken (fun _ _ _ _ => trivial))⟩⟩ rfl rfl hl.1 rfl (lv_room (Nat.le_of_ble_eq_true rfl)) dX9_layRow_55 ⟨Nat.le_of_ble_eq_true rfl, Nat.le_of_ble_eq_true rfl⟩) hS (fun q _ h => hFc q h) hFc (fun ur_10 t H1 locs ht hvm er_10 hB hz1 hk1 hS => ?_)
    obtain ⟨f14_10, hP1⟩ := hB
    rw [ht] at hP1
    clear hFc hz1 hk1 hvm hP
    subst ht
    have hP := hP1
    clear hP1
    generalize t.heap = H at hP hS ⊢
    have hP : va_P (dC, dI) vwCl (rw_W o c kc st lg (rU ai 14 f14_10) al) H := hP
    refine lv_aload_n hx hb dX9_layRow_58 rfl (lv_at hl 0 rfl) ?_
    refine va_get (D := (dC, dI)) (ci := 11) (v := .ref (c 14)) (C := RX9) (T := TX9) (N := 38) hx hb hts hin9 hown hK hP 0 rfl rfl 14 (by decide) (hts (.fieldLink RX9 24 "BlockLogModel" "fresh" "[I") (by decide +kernel)) (fun _ h9 => h9) rfl dX9_layRow_59 ?_
    refine lv_bipush (v := 31) hx hb dX9_layRow_62 (by decide) ?_
    refine lv_sipush (v := 165) hx hb dX9_layRow_64 (by decide) ?_
    refine va_iast (f := f14_10) hx hb hK hP (rw_D hD) hS 5 4 rfl rfl (iv_in (i := (31 : Int32)) (by omega) (by omega)) dX9_layRow_67 (fun H locs hP _ hS => ?_)
    have hP : va_P (dC, dI) vwCl (rw_W o c kc st lg (rU ai 14 (upd f14_10 (31 : Int32).toNatClampNeg (165 : Int32))) al) H := hP
    generalize upd f14_10 (31 : Int32).toNatClampNeg (165 : Int32) = g_11 at hP
    exact W.vret hx hb hr (fun t ht hW => ⟨⟨(), rfl, trivial, g_11, by rw [ht]; exact hP⟩, hS.F ht⟩) hS.2.2 dX9_layRow_68
  exact main s.heap [] hP hS

set_option maxHeartbeats 4000000 in
set_option maxRecDepth 100000 in
theorem v_X9_writeFresh (l : Launch) (dC : Nat → ClassId) (dI : Nat → Nat → Nat) (o : Nat) (c : Nat → Nat) (kc : Nat → ClassId) (st : Nat → Int32) (lg : Nat → Int64) (ai : Nat → Nat → Int32) (al : Nat → Nat → Int64) (p0 : Int32) (p1 : Int32) (sz : Nat) (hf3a : 0 ≤ (st 3).toInt) (hf3b : (st 3).toInt ≤ 1) (hf6a : 0 ≤ (st 6).toInt) (hf6b : (st 6).toInt ≤ 1) (hf12a : 0 ≤ (st 12).toInt) (hf12b : (st 12).toInt ≤ 8) (hq0 : 0 ≤ p0.toInt) (hq1 : 0 ≤ p1.toInt) (hq2 : p1.toInt ≤ 32) (hq3 : p0.toInt + p1.toInt ≤ 1712160) : Met l yX9_writeFresh wsX9_writeFresh ({ frames := 2, cells := 0, slots := 0, locals := 45 }) (va_Pc [.ref o, .int p0, .int p1] (fun U => U.heap.size = sz ∧ va_P (dC, dI) vwCl (rw_W o c kc st lg ai al) U.heap ∧ va_K (dC, dI) vwCl (rw_T kc) U ∧ va_D (fun _ => True) (rw_W o c kc st lg ai al))) (va_Qv (fun (_ : Unit) => True) (fun _ t => ∃ (x3 : Int32) (x4 : Int32) (x5 : Int32) (x6 : Int32) (x12 : Int32) (f0 : Nat → Int32), (0 ≤ x3.toInt) ∧ (x3.toInt ≤ 1) ∧ (0 ≤ x6.toInt) ∧ (x6.toInt ≤ 1) ∧ (0 ≤ x12.toInt) ∧ (x12.toInt ≤ 8) ∧ va_P (dC, dI) vwCl (rw_W o c kc (rU (rU (rU (rU (rU st 3 x3) 4 x4) 5 x5) 6 x6) 12 x12) lg (rU ai 0 f0) al) t.heap) (va_A (rw_W o c kc st lg ai al) sz)) 0 0 (va_A (rw_W o c kc st lg ai al) sz) := by
  refine Met.ofW (cc := cX9_writeFresh) (maxL := 4) (ret := none) (by decide) rfl ?_
  intro p e s m args below meth cM s₁ B hml hv
  obtain ⟨rfl, hsz, hP, hK, hD0⟩ := hv
  have hx := B.exec
  have hb := B.bytes
  have hr := B.returns
  have hts := atoms_spec (ws := wsX9_writeFresh) B.pre
  have hown : s.vm.findClass RX9 = some m.cls := findClass_of_methodNamed B.named
  subst hsz
  have hD := hD0.self (sz := s.heap.size)
  generalize hAe : va_A (rw_W o c kc st lg ai al) s.heap.size = A at hD ⊢
  have hA : ∀ q : Nat, s.heap.size ≤ q → A q := fun q h => by rw [← hAe]; exact Or.inr h
  have hS : va_S A s.heap s.heap [] := va_S.rf
  clear hAe hD0
  have hl := lv_entry ([.ref o, .int p0, .int p1]) (n := 4) (Nat.le_of_ble_eq_true rfl)
  rw [lg_entry_eq]
  generalize (lg_sl ([.ref o, .int p0, .int p1]) ++ List.replicate (4 - (lg_sl ([.ref o, .int p0, .int p1])).length) Slot.unset).toArray = ls at hl ⊢
  have hl : lv_has ls 4 [(0, .ref o), (1, .int p0), (2, .int p1)] := hl
  have z_0 : (0 : Int32).toInt = 0 := by decide
  have z_1 : (1 : Int32).toInt = 1 := by decide
  have hin9 : ∀ w ∈ u_ws RX9 TX9 38, w ∈ wsX9_writeFresh := by decide +kernel
  have main : ∀ (H : Heap) (locs : List Loc), va_P (dC, dI) vwCl (rw_W o c kc st lg ai al) H → va_S A s.heap H locs → W p l e (headSpec wsX9_writeFresh ({ frames := 2, cells := 0, slots := 0, locals := 45 })).room s m ([.ref o, .int p0, .int p1] : List Value).toArray below meth cM H locs 0 0 (MQ below (va_Qv (fun (_ : Unit) => True) (fun _ t => ∃ (x3 : Int32) (x4 : Int32) (x5 : Int32) (x6 : Int32) (x12 : Int32) (f0 : Nat → Int32), (0 ≤ x3.toInt) ∧ (x3.toInt ≤ 1) ∧ (0 ≤ x6.toInt) ∧ (x6.toInt ≤ 1) ∧ (0 ≤ x12.toInt) ∧ (x12.toInt ≤ 8) ∧ va_P (dC, dI) vwCl (rw_W o c kc (rU (rU (rU (rU (rU st 3 x3) 4 x4) 5 x5) 6 x6) 12 x12) lg (rU ai 0 f0) al) t.heap) A) ([.ref o, .int p0, .int p1] : List Value).toArray s 0 0 A) (F0 m 0 ls []) := by
    intro H locs hP hS
    refine lv_iconst (v := 0) hx hb dX9_writeFresh_0 (by decide) ?_
    refine lv_istore_n (lv' := [(3, .int (0 : Int32)), (0, .ref o), (1, .int p0), (2, .int p1)]) hx hb dX9_writeFresh_1 rfl hl (by decide) rfl (fun ls hl => ?_)
    have loop2 : ∀ (n : Nat) (l3_2 : Int32) (s3_2 : Int32) (s4_2 : Int32) (s5_2 : Int32) (s6_2 : Int32) (s12_2 : Int32) (a0_2 : Nat → Int32) (H : Heap) (locs : List Loc) (ls : Array Slot), (0 ≤ l3_2.toInt) → (l3_2.toInt ≤ p1.toInt) → (0 ≤ s3_2.toInt) → (s3_2.toInt ≤ 1) → (0 ≤ s6_2.toInt) → (s6_2.toInt ≤ 1) → (0 ≤ s12_2.toInt) → (s12_2.toInt ≤ 8) → (p1.toInt - l3_2.toInt : Int).toNat < n → va_P (dC, dI) vwCl (rw_W o c kc (rU (rU (rU (rU (rU st 3 s3_2) 4 s4_2) 5 s5_2) 6 s6_2) 12 s12_2) lg (rU ai 0 a0_2) al) H → va_S A s.heap H locs → lv_has ls 4 [(3, .int l3_2), (0, .ref o), (1, .int p0), (2, .int p1)] → W p l e (headSpec wsX9_writeFresh ({ frames := 2, cells := 0, slots := 0, locals := 45 })).room s m ([.ref o, .int p0, .int p1] : List Value).toArray below meth cM H locs 0 0 (MQ below (va_Qv (fun (_ : Unit) => True) (fun _ t => ∃ (x3 : Int32) (x4 : Int32) (x5 : Int32) (x6 : Int32) (x12 : Int32) (f0 : Nat → Int32), (0 ≤ x3.toInt) ∧ (x3.toInt ≤ 1) ∧ (0 ≤ x6.toInt) ∧ (x6.toInt ≤ 1) ∧ (0 ≤ x12.toInt) ∧ (x12.toInt ≤ 8) ∧ va_P (dC, dI) vwCl (rw_W o c kc (rU (rU (rU (rU (rU st 3 x3) 4 x4) 5 x5) 6 x6) 12 x12) lg (rU ai 0 f0) al) t.heap) A) ([.ref o, .int p0, .int p1] : List Value).toArray s 0 0 A) (F0 m 2 ls []) := by
      intro n
      induction n with
      | zero => intro l3_2 s3_2 s4_2 s5_2 s6_2 s12_2 a0_2 H locs ls if0_2 if1_2 if2_2 if3_2 if4_2 if5_2 if6_2 if7_2 hm; exact absurd hm (Nat.not_lt_zero _)
      | succ n ih2 =>
        intro l3_2 s3_2 s4_2 s5_2 s6_2 s12_2 a0_2 H locs ls if0_2 if1_2 if2_2 if3_2 if4_2 if5_2 if6_2 if7_2 hm2 hP hS hl
        refine lv_iload_n hx hb dX9_writeFresh_2 rfl (lv_at hl 0 rfl) ?_
        refine lv_iload_n hx hb dX9_writeFresh_3 rfl (lv_at hl 3 rfl) ?_
        refine lv_icmp_ge (tgt := 26) hx hb dX9_writeFresh_4 (by decide) (fun c_1 => ?_) (fun c_1 => ?_)
        · skip
          have ic_1 := iv_le c_1
          exact W.vret hx hb hr (fun t ht hW => ⟨⟨(), rfl, trivial, s3_2, s4_2, s5_2, s6_2, s12_2, a0_2, (by omega), (by omega), (by omega), (by omega), (by omega), (by omega), by rw [ht]; exact hP⟩, hS.F ht⟩) hS.2.2 dX9_writeFresh_26
        · skip
          have ic_1 := iv_nle c_1
          refine lv_aload_n hx hb dX9_writeFresh_7 rfl (lv_at hl 1 rfl) ?_
          refine lv_iload_n hx hb dX9_writeFresh_8 rfl (lv_at hl 2 rfl) ?_
          refine lv_iload_n hx hb dX9_writeFresh_9 rfl (lv_at hl 0 rfl) ?_
          refine lv_iadd hx hb dX9_writeFresh_10 ?_
          refine lv_topi (fun v_2 ev_2 => ?_)
          have hv_2 : v_2.toInt = p0.toInt + l3_2.toInt := by rw [ev_2]; exact (iv_add (by omega) (by omega)).trans (by omega)
          clear ev_2
          refine lv_aload_n hx hb dX9_writeFresh_11 rfl (lv_at hl 1 rfl) ?_
          refine va_get (D := (dC, dI)) (ci := 11) (v := .ref (c 14)) (C := RX9) (T := TX9) (N := 38) hx hb hts hin9 hown hK hP 0 rfl rfl 14 (by decide) (hts (.fieldLink RX9 24 "BlockLogModel" "fresh" "[I") (by decide +kernel)) (fun _ h9 => h9) rfl dX9_writeFresh_12 ?_
          refine lv_iload_n hx hb dX9_writeFresh_15 rfl (lv_at hl 0 rfl) ?_
          refine va_iald (f := ai 14) hx hb hK hP 5 4 rfl rfl (iv_in (i := l3_2) (by omega) (by omega)) dX9_writeFresh_16 ?_
          refine lv_topi (fun v_3 ev_3 => ?_)
          clear ev_3
          have hFc := vfree (rw_D hD : va_D A (rw_W o c kc (rU (rU (rU (rU (rU st 3 s3_2) 4 s4_2) 5 s5_2) 6 s6_2) 12 s12_2) lg (rU ai 0 a0_2) al)) hS hA
          refine va_callv (va_runV (As := [.int v_2, .int v_3]) (rest := []) ⟨hx, hb, hml, hown, hts⟩ (v_X9_write l dC dI o c kc (rU (rU (rU (rU (rU st 3 s3_2) 4 s4_2) 5 s5_2) 6 s6_2) 12 s12_2) lg (rU ai 0 a0_2) al v_2 v_3 _ (show 0 ≤ s3_2.toInt by omega) (show s3_2.toInt ≤ 1 by omega) (show 0 ≤ s6_2.toInt by omega) (show s6_2.toInt ≤ 1 by omega) (show 0 ≤ s12_2.toInt by omega) (show s12_2.toInt ≤ 8 by omega) (by omega) (by omega)) (cwV 2 hts gX9_writeFresh_X9_write rfl rfl rfl (by decide +kernel) ⟨Nat.le_of_ble_eq_true rfl, Nat.le_of_ble_eq_true rfl⟩) ⟨fun a U g mk q => by obtain ⟨q0, q1, qP, qK, qD⟩ := q; exact ⟨q0, q1, qP, va_K.moved (u := U) (U := U.calling g mk a) (Vm.Alike.refl U.vm) qK, qD⟩, va_recv hK hP (ci := 11) (q := (RX9, TX9, 38)) rfl (q0 := 0) rfl, fun U hU hW => ⟨rfl, by rw [hU], by rw [hU]; exact hP, va_K.moved hW.alike hK, rw_D (hD.weaken (fun _ _ _ _ => trivial))⟩⟩ rfl rfl hl.1 rfl (lv_room (Nat.le_of_ble_eq_true rfl)) dX9_writeFresh_17 ⟨Nat.le_of_ble_eq_true rfl, Nat.le_of_ble_eq_true rfl⟩) hS (fun q _ h => hFc q h) hFc (fun ur_4 t H1 locs ht hvm er_4 hB hz1 hk1 hS => ?_)
          obtain ⟨x3_4, x4_4, x5_4, x6_4, x12_4, f0_4, k_5, k_6, k_7, k_8, k_9, k_10, hP1⟩ := hB
          rw [ht] at hP1
          clear hFc hz1 hk1 hvm hP
          subst ht
          have hP := hP1
          clear hP1
          generalize t.heap = H at hP hS ⊢
          have hP : va_P (dC, dI) vwCl (rw_W o c kc (rU (rU (rU (rU (rU st 3 x3_4) 4 x4_4) 5 x5_4) 6 x6_4) 12 x12_4) lg (rU ai 0 f0_4) al) H := hP
          obtain ⟨x_11, ex_11⟩ : ∃ z : Int32, z = l3_2 + (1) := ⟨_, rfl⟩
          refine lv_iinc (v := x_11) (lv' := [(3, .int x_11), (0, .ref o), (1, .int p0), (2, .int p1)]) hx hb dX9_writeFresh_20 hl (k := 0) rfl (by rw [ex_11]; rfl) (by decide) rfl (fun ls hl => ?_)
          have hx_11 : x_11.toInt = l3_2.toInt + (1) := by rw [ex_11]; exact (iv_add (by omega) (by omega)).trans (by omega)
          clear ex_11
          refine lv_goto (tgt := 2) hx hb dX9_writeFresh_23 (by decide) ?_
          exact ih2 x_11 x3_4 x4_4 x5_4 x6_4 x12_4 f0_4 _ _ _ (by omega) (by omega) (by omega) (by omega) (by omega) (by omega) (by omega) (by omega) (by omega) hP hS (lv_sub hl [0, 1, 2, 3] rfl)
    exact loop2 ((p1.toInt - 0 : Int).toNat + 1) (0 : Int32) (st 3) (st 4) (st 5) (st 6) (st 12) (ai 0) _ _ _ (by omega) (by omega) (by omega) (by omega) (by omega) (by omega) (by omega) (by omega) (by omega) hP hS (lv_sub hl [0, 1, 2, 3] rfl)
  exact main s.heap [] hP hS

set_option maxHeartbeats 4000000 in
set_option maxRecDepth 100000 in
theorem v_X9_rowPlace (l : Launch) (dC : Nat → ClassId) (dI : Nat → Nat → Nat) (o : Nat) (c : Nat → Nat) (kc : Nat → ClassId) (st : Nat → Int32) (lg : Nat → Int64) (ai : Nat → Nat → Int32) (al : Nat → Nat → Int64) (p0 : Int32) (p1 : Int32) (hq0 : 0 ≤ p0.toInt) (hq1 : p0.toInt ≤ 1) (hq2 : -1 ≤ p1.toInt) (hq3 : p1.toInt ≤ 300) : Met l yX9_rowPlace wsX9_rowPlace ({ frames := 0, cells := 0, slots := 0, locals := 0 }) (va_Pc [.ref o, .int p0, .int p1] (fun U => va_P (dC, dI) vwCl (rw_W o c kc st lg ai al) U.heap ∧ va_K (dC, dI) vwCl (rw_T kc) U)) (vp_Si (fun r => (r.toInt = 32 + 4096 * p0.toInt + 32 * p1.toInt))) 0 0 (fun _ => False) := by
  refine Met.ofW (cc := cX9_rowPlace) (maxL := 3) (ret := (some .int)) (by decide) rfl ?_
  intro p e s m args below meth cM s₁ B hml hv
  obtain ⟨rfl, hP, hK⟩ := hv
  have hx := B.exec
  have hb := B.bytes
  have hr := B.returns
  have hts := atoms_spec (ws := wsX9_rowPlace) B.pre
  have hown : s.vm.findClass RX9 = some m.cls := findClass_of_methodNamed B.named
  have hl := lv_entry ([.ref o, .int p0, .int p1]) (n := 3) (Nat.le_of_ble_eq_true rfl)
  rw [lg_entry_eq]
  generalize (lg_sl ([.ref o, .int p0, .int p1]) ++ List.replicate (3 - (lg_sl ([.ref o, .int p0, .int p1])).length) Slot.unset).toArray = ls at hl ⊢
  have hl : lv_has ls 3 [(0, .ref o), (1, .int p0), (2, .int p1)] := hl
  have z_32 : (32 : Int32).toInt = 32 := by decide
  have z_4096 : (4096 : Int32).toInt = 4096 := by decide
  refine lv_bipush (v := 32) hx hb dX9_rowPlace_0 (by decide) ?_
  refine lv_sipush (v := 4096) hx hb dX9_rowPlace_2 (by decide) ?_
  refine lv_iload_n hx hb dX9_rowPlace_5 rfl (lv_at hl 1 rfl) ?_
  refine lv_imul hx hb dX9_rowPlace_6 ?_
  refine lv_topi (fun v_1 ev_1 => ?_)
  have hv_1 : v_1.toInt = 4096 * p0.toInt := by rw [ev_1]; exact (iv_mulc z_4096 (by omega) (by omega)).trans (by omega)
  clear ev_1
  refine lv_iadd hx hb dX9_rowPlace_7 ?_
  refine lv_topi (fun v_2 ev_2 => ?_)
  have hv_2 : v_2.toInt = 32 + v_1.toInt := by rw [ev_2]; exact (iv_add (by omega) (by omega)).trans (by omega)
  clear ev_2
  refine lv_bipush (v := 32) hx hb dX9_rowPlace_8 (by decide) ?_
  refine lv_iload_n hx hb dX9_rowPlace_10 rfl (lv_at hl 2 rfl) ?_
  refine lv_imul hx hb dX9_rowPlace_11 ?_
  refine lv_topi (fun v_3 ev_3 => ?_)
  have hv_3 : v_3.toInt = 32 * p1.toInt := by rw [ev_3]; exact (iv_mulc z_32 (by omega) (by omega)).trans (by omega)
  clear ev_3
  refine lv_iadd hx hb dX9_rowPlace_12 ?_
  refine lv_topi (fun v_4 ev_4 => ?_)
  have hv_4 : v_4.toInt = v_2.toInt + v_3.toInt := by rw [ev_4]; exact (iv_add (by omega) (by omega)).trans (by omega)
  clear ev_4
  exact W.iret hx hb hr (fun t ht hW => ⟨_, rfl, (by omega), ht⟩) (fun q h => by cases h) dX9_rowPlace_13

set_option maxHeartbeats 4000000 in
set_option maxRecDepth 100000 in
theorem v_X9_pagePlace (l : Launch) (dC : Nat → ClassId) (dI : Nat → Nat → Nat) (o : Nat) (c : Nat → Nat) (kc : Nat → ClassId) (st : Nat → Int32) (lg : Nat → Int64) (ai : Nat → Nat → Int32) (al : Nat → Nat → Int64) (p0 : Int32) (hq0 : -1 ≤ p0.toInt) (hq1 : p0.toInt ≤ 65536) : Met l yX9_pagePlace wsX9_pagePlace ({ frames := 0, cells := 0, slots := 0, locals := 0 }) (va_Pc [.ref o, .int p0] (fun U => va_P (dC, dI) vwCl (rw_W o c kc st lg ai al) U.heap ∧ va_K (dC, dI) vwCl (rw_T kc) U)) (vp_Si (fun r => (r.toInt = 8224 + 26 * p0.toInt))) 0 0 (fun _ => False) := by
  refine Met.ofW (cc := cX9_pagePlace) (maxL := 2) (ret := (some .int)) (by decide) rfl ?_
  intro p e s m args below meth cM s₁ B hml hv
  obtain ⟨rfl, hP, hK⟩ := hv
  have hx := B.exec
  have hb := B.bytes
  have hr := B.returns
  have hts := atoms_spec (ws := wsX9_pagePlace) B.pre
  have hown : s.vm.findClass RX9 = some m.cls := findClass_of_methodNamed B.named
  have hl := lv_entry ([.ref o, .int p0]) (n := 2) (Nat.le_of_ble_eq_true rfl)
  rw [lg_entry_eq]
  generalize (lg_sl ([.ref o, .int p0]) ++ List.replicate (2 - (lg_sl ([.ref o, .int p0])).length) Slot.unset).toArray = ls at hl ⊢
  have hl : lv_has ls 2 [(0, .ref o), (1, .int p0)] := hl
  have z_26 : (26 : Int32).toInt = 26 := by decide
  have z_8224 : (8224 : Int32).toInt = 8224 := by decide
  refine lv_sipush (v := 8224) hx hb dX9_pagePlace_0 (by decide) ?_
  refine lv_bipush (v := 26) hx hb dX9_pagePlace_3 (by decide) ?_
  refine lv_iload_n hx hb dX9_pagePlace_5 rfl (lv_at hl 1 rfl) ?_
  refine lv_imul hx hb dX9_pagePlace_6 ?_
  refine lv_topi (fun v_1 ev_1 => ?_)
  have hv_1 : v_1.toInt = 26 * p0.toInt := by rw [ev_1]; exact (iv_mulc z_26 (by omega) (by omega)).trans (by omega)
  clear ev_1
  refine lv_iadd hx hb dX9_pagePlace_7 ?_
  refine lv_topi (fun v_2 ev_2 => ?_)
  have hv_2 : v_2.toInt = 8224 + v_1.toInt := by rw [ev_2]; exact (iv_add (by omega) (by omega)).trans (by omega)
  clear ev_2
  exact W.iret hx hb hr (fun t ht hW => ⟨_, rfl, (by omega), ht⟩) (fun q h => by cases h) dX9_pagePlace_8

set_option maxHeartbeats 4000000 in
set_option maxRecDepth 100000 in
theorem v_X9_isEmpty (l : Launch) (dC : Nat → ClassId) (dI : Nat → Nat → Nat) (o : Nat) (c : Nat → Nat) (kc : Nat → ClassId) (st : Nat → Int32) (lg : Nat → Int64) (ai : Nat → Nat → Int32) (al : Nat → Nat → Int64) (p0 : Int32) (p1 : Int32) (hq0 : 0 ≤ p0.toInt) (hq1 : 0 ≤ p1.toInt) (hq2 : p1.toInt ≤ 4096) (hq3 : p0.toInt + p1.toInt ≤ 1712160) : Met l yX9_isEmpty wsX9_isEmpty ({ frames := 1, cells := 0, slots := 0, locals := 21 }) (va_Pc [.ref o, .int p0, .int p1] (fun U => va_P (dC, dI) vwCl (rw_W o c kc st lg ai al) U.heap ∧ va_K (dC, dI) vwCl (rw_T kc) U)) (vp_Si (fun r => (0 ≤ r.toInt) ∧ (r.toInt ≤ 1))) 0 0 (fun _ => False) := by
  refine Met.ofW (cc := cX9_isEmpty) (maxL := 4) (ret := (some .boolean)) (by decide) rfl ?_
  intro p e s m args below meth cM s₁ B hml hv
  obtain ⟨rfl, hP, hK⟩ := hv
  have hx := B.exec
  have hb := B.bytes
  have hr := B.returns
  have hts := atoms_spec (ws := wsX9_isEmpty) B.pre
  have hown : s.vm.findClass RX9 = some m.cls := findClass_of_methodNamed B.named
  have hl := lv_entry ([.ref o, .int p0, .int p1]) (n := 4) (Nat.le_of_ble_eq_true rfl)
  rw [lg_entry_eq]
  generalize (lg_sl ([.ref o, .int p0, .int p1]) ++ List.replicate (4 - (lg_sl ([.ref o, .int p0, .int p1])).length) Slot.unset).toArray = ls at hl ⊢
  have hl : lv_has ls 4 [(0, .ref o), (1, .int p0), (2, .int p1)] := hl
  have z_0 : (0 : Int32).toInt = 0 := by decide
  have z_1 : (1 : Int32).toInt = 1 := by decide
  refine lv_iconst (v := 0) hx hb dX9_isEmpty_0 (by decide) ?_
  refine lv_istore_n (lv' := [(3, .int (0 : Int32)), (0, .ref o), (1, .int p0), (2, .int p1)]) hx hb dX9_isEmpty_1 rfl hl (by decide) rfl (fun ls hl => ?_)
  have loop2 : ∀ (n : Nat) (l3_2 : Int32) (ls : Array Slot), (0 ≤ l3_2.toInt) → (l3_2.toInt ≤ p1.toInt) → (p1.toInt - l3_2.toInt : Int).toNat < n → lv_has ls 4 [(3, .int l3_2), (0, .ref o), (1, .int p0), (2, .int p1)] → W p l e (headSpec wsX9_isEmpty ({ frames := 1, cells := 0, slots := 0, locals := 21 })).room s m ([.ref o, .int p0, .int p1] : List Value).toArray below meth cM s.heap [] 0 0 (MQ below (vp_Si (fun r => (0 ≤ r.toInt) ∧ (r.toInt ≤ 1))) ([.ref o, .int p0, .int p1] : List Value).toArray s 0 0 (fun _ => False)) (F0 m 2 ls []) := by
    intro n
    induction n with
    | zero => intro l3_2 ls if0_2 if1_2 hm; exact absurd hm (Nat.not_lt_zero _)
    | succ n ih2 =>
      intro l3_2 ls if0_2 if1_2 hm2 hl
      refine lv_iload_n hx hb dX9_isEmpty_2 rfl (lv_at hl 0 rfl) ?_
      refine lv_iload_n hx hb dX9_isEmpty_3 rfl (lv_at hl 3 rfl) ?_
      refine lv_icmp_ge (tgt := 25) hx hb dX9_isEmpty_4 (by decide) (fun c_1 => ?_) (fun c_1 => ?_)
      · skip
        have ic_1 := iv_le c_1
        refine lv_iconst (v := 1) hx hb dX9_isEmpty_25 (by decide) ?_
        exact W.zret hx hb hr rfl (fun t ht hW => ⟨_, rfl, ⟨(by omega), (by omega)⟩, ht⟩) (fun q h => by cases h) dX9_isEmpty_26
      · skip
        have ic_1 := iv_nle c_1
        refine lv_aload_n hx hb dX9_isEmpty_7 rfl (lv_at hl 1 rfl) ?_
        refine lv_iload_n hx hb dX9_isEmpty_8 rfl (lv_at hl 2 rfl) ?_
        refine lv_iload_n hx hb dX9_isEmpty_9 rfl (lv_at hl 0 rfl) ?_
        refine lv_iadd hx hb dX9_isEmpty_10 ?_
        refine lv_topi (fun v_2 ev_2 => ?_)
        have hv_2 : v_2.toInt = p0.toInt + l3_2.toInt := by rw [ev_2]; exact (iv_add (by omega) (by omega)).trans (by omega)
        clear ev_2
        refine vp_callSi (va_Run.run (va_runV (As := [.int v_2]) (rest := []) ⟨hx, hb, hml, hown, hts⟩ (v_X9_byteIn l dC dI o c kc st lg ai al v_2 (by omega) (by omega)) (cwV 1 hts gX9_isEmpty_X9_byteIn rfl rfl rfl (by decide +kernel) ⟨Nat.le_of_ble_eq_true rfl, Nat.le_of_ble_eq_true rfl⟩) ⟨fun a U g mk q => by obtain ⟨q0, qP, qK⟩ := q; exact ⟨q0, qP, va_K.moved (u := U) (U := U.calling g mk a) (Vm.Alike.refl U.vm) qK⟩, va_recv hK hP (ci := 11) (q := (RX9, TX9, 38)) rfl (q0 := 0) rfl, fun U hU hW => ⟨rfl, by rw [hU]; exact hP, va_K.moved hW.alike hK⟩⟩ rfl rfl hl.1 rfl (lv_room (Nat.le_of_ble_eq_true rfl)) dX9_isEmpty_11 ⟨Nat.le_of_ble_eq_true rfl, Nat.le_of_ble_eq_true rfl⟩)) (fun r_3 er_3 => ?_)
        obtain ⟨k_4, k_5, k_6⟩ := er_3
        refine lv_if_eq (tgt := 19) hx hb dX9_isEmpty_14 (by decide) (fun c_7 => ?_) (fun c_7 => ?_)
        · skip
          have ic_7 := iv_eq c_7
          obtain ⟨x_8, ex_8⟩ : ∃ z : Int32, z = l3_2 + (1) := ⟨_, rfl⟩
          refine lv_iinc (v := x_8) (lv' := [(3, .int x_8), (0, .ref o), (1, .int p0), (2, .int p1)]) hx hb dX9_isEmpty_19 hl (k := 0) rfl (by rw [ex_8]; rfl) (by decide) rfl (fun ls hl => ?_)
          have hx_8 : x_8.toInt = l3_2.toInt + (1) := by rw [ex_8]; exact (iv_add (by omega) (by omega)).trans (by omega)
          clear ex_8
          refine lv_goto (tgt := 2) hx hb dX9_isEmpty_22 (by decide) ?_
          exact ih2 x_8 _ (by omega) (by omega) (by omega) (lv_sub hl [0, 1, 2, 3] rfl)
        · skip
          have ic_7 := iv_ne c_7
          refine lv_iconst (v := 0) hx hb dX9_isEmpty_17 (by decide) ?_
          exact W.zret hx hb hr rfl (fun t ht hW => ⟨_, rfl, ⟨(by omega), (by omega)⟩, ht⟩) (fun q h => by cases h) dX9_isEmpty_18
  exact loop2 ((p1.toInt - 0 : Int).toNat + 1) (0 : Int32) _ (by omega) (by omega) (by omega) (lv_sub hl [0, 1, 2, 3] rfl)

set_option maxHeartbeats 4000000 in
set_option maxRecDepth 100000 in
theorem v_X9_isLeafAt (l : Launch) (dC : Nat → ClassId) (dI : Nat → Nat → Nat) (o : Nat) (c : Nat → Nat) (kc : Nat → ClassId) (st : Nat → Int32) (lg : Nat → Int64) (ai : Nat → Nat → Int32) (al : Nat → Nat → Int64) (p0 : Int32) (hq0 : 0 ≤ p0.toInt) (hq1 : p0.toInt + 26 ≤ 1712160) : Met l yX9_isLeafAt wsX9_isLeafAt ({ frames := 2, cells := 0, slots := 0, locals := 44 }) (va_Pc [.ref o, .int p0] (fun U => va_P (dC, dI) vwCl (rw_W o c kc st lg ai al) U.heap ∧ va_K (dC, dI) vwCl (rw_T kc) U)) (vp_Si (fun r => (0 ≤ r.toInt) ∧ (r.toInt ≤ 1))) 0 0 (fun _ => False) := by
  refine Met.ofW (cc := cX9_isLeafAt) (maxL := 3) (ret := (some .boolean)) (by decide) rfl ?_
  intro p e s m args below meth cM s₁ B hml hv
  obtain ⟨rfl, hP, hK⟩ := hv
  have hx := B.exec
  have hb := B.bytes
  have hr := B.returns
  have hts := atoms_spec (ws := wsX9_isLeafAt) B.pre
  have hown : s.vm.findClass RX9 = some m.cls := findClass_of_methodNamed B.named
  have hl := lv_entry ([.ref o, .int p0]) (n := 3) (Nat.le_of_ble_eq_true rfl)
  rw [lg_entry_eq]
  generalize (lg_sl ([.ref o, .int p0]) ++ List.replicate (3 - (lg_sl ([.ref o, .int p0])).length) Slot.unset).toArray = ls at hl ⊢
  have hl : lv_has ls 3 [(0, .ref o), (1, .int p0)] := hl
  have z_0 : (0 : Int32).toInt = 0 := by decide
  have z_1 : (1 : Int32).toInt = 1 := by decide
  have z_16 : (16 : Int32).toInt = 16 := by decide
  refine lv_aload_n hx hb dX9_isLeafAt_0 rfl (lv_at hl 0 rfl) ?_
  refine lv_iload_n hx hb dX9_isLeafAt_1 rfl (lv_at hl 1 rfl) ?_
  refine vp_callSi (va_Run.run (va_runV (As := [.int p0]) (rest := []) ⟨hx, hb, hml, hown, hts⟩ (v_X9_byteIn l dC dI o c kc st lg ai al p0 (by omega) (by omega)) (cwV 1 hts gX9_isLeafAt_X9_byteIn rfl rfl rfl (by decide +kernel) ⟨Nat.le_of_ble_eq_true rfl, Nat.le_of_ble_eq_true rfl⟩) ⟨fun a U g mk q => by obtain ⟨q0, qP, qK⟩ := q; exact ⟨q0, qP, va_K.moved (u := U) (U := U.calling g mk a) (Vm.Alike.refl U.vm) qK⟩, va_recv hK hP (ci := 11) (q := (RX9, TX9, 38)) rfl (q0 := 0) rfl, fun U hU hW => ⟨rfl, by rw [hU]; exact hP, va_K.moved hW.alike hK⟩⟩ rfl rfl hl.1 rfl (lv_room (Nat.le_of_ble_eq_true rfl)) dX9_isLeafAt_2 ⟨Nat.le_of_ble_eq_true rfl, Nat.le_of_ble_eq_true rfl⟩)) (fun r_1 er_1 => ?_)
  obtain ⟨k_2, k_3, k_4⟩ := er_1
  refine lv_istore_n (lv' := [(2, .int r_1), (0, .ref o), (1, .int p0)]) hx hb dX9_isLeafAt_5 rfl hl (by decide) rfl (fun ls hl => ?_)
  refine lv_iload_n hx hb dX9_isLeafAt_6 rfl (lv_at hl 0 rfl) ?_
  refine lv_iconst (v := 1) hx hb dX9_isLeafAt_7 (by decide) ?_
  refine lv_bipush (v := 16) hx hb dX9_isLeafAt_8 (by decide) ?_
  refine vp_callSi (va_Run.run (va_runS (As := [.int r_1, .int (1 : Int32), .int (16 : Int32)]) (rest := []) ⟨hx, hb, hml, hown, hts⟩ (v_X9_within l dC dI r_1 (1 : Int32) (16 : Int32) ) (va_cwS 3 hts gX9_isLeafAt_X9_within rfl rfl rfl (by decide +kernel) ⟨Nat.le_of_ble_eq_true rfl, Nat.le_of_ble_eq_true rfl⟩) ⟨fun a U g mk q => q, fun U hU hW => ⟨rfl, trivial⟩⟩ rfl rfl hl.1 rfl (lv_room (Nat.le_of_ble_eq_true rfl)) dX9_isLeafAt_10 ⟨Nat.le_of_ble_eq_true rfl, Nat.le_of_ble_eq_true rfl⟩)) (fun r_5 er_5 => ?_)
  obtain ⟨k_6, k_7, k_8, k_9, k_10⟩ := er_5
  rcases iv_01 (a := r_5) (by omega) (by omega) with b_11 | b_11
  · skip
    have ib_11 := iv_eq b_11
    rw [b_11]
    refine lv_if_eq (tgt := 36) hx hb dX9_isLeafAt_13 (by decide) (fun c_12 => ?_) (fun c_12 => ?_)
    · skip
      have ic_12 := iv_eq c_12
      refine lv_iconst (v := 0) hx hb dX9_isLeafAt_36 (by decide) ?_
      exact W.zret hx hb hr rfl (fun t ht hW => ⟨_, rfl, ⟨(by omega), (by omega)⟩, ht⟩) (fun q h => by cases h) dX9_isLeafAt_37
    · skip
      have ic_12 := iv_ne c_12
      exfalso
      omega
  · skip
    have ib_11 := iv_eq b_11
    rw [b_11]
    refine lv_if_eq (tgt := 36) hx hb dX9_isLeafAt_13 (by decide) (fun c_13 => ?_) (fun c_13 => ?_)
    · skip
      have ic_13 := iv_eq c_13
      exfalso
      omega
    · skip
      have ic_13 := iv_ne c_13
      refine lv_aload_n hx hb dX9_isLeafAt_16 rfl (lv_at hl 1 rfl) ?_
      refine lv_iload_n hx hb dX9_isLeafAt_17 rfl (lv_at hl 2 rfl) ?_
      refine lv_iconst (v := 1) hx hb dX9_isLeafAt_18 (by decide) ?_
      refine lv_iadd hx hb dX9_isLeafAt_19 ?_
      refine lv_topi (fun v_14 ev_14 => ?_)
      have hv_14 : v_14.toInt = p0.toInt + 1 := by rw [ev_14]; exact (iv_add (by omega) (by omega)).trans (by omega)
      clear ev_14
      refine lv_iload_n hx hb dX9_isLeafAt_20 rfl (lv_at hl 0 rfl) ?_
      refine lv_iadd hx hb dX9_isLeafAt_21 ?_
      refine lv_topi (fun v_15 ev_15 => ?_)
      have hv_15 : v_15.toInt = v_14.toInt + r_1.toInt := by rw [ev_15]; exact (iv_add (by omega) (by omega)).trans (by omega)
      clear ev_15
      refine lv_bipush (v := 16) hx hb dX9_isLeafAt_22 (by decide) ?_
      refine lv_iload_n hx hb dX9_isLeafAt_24 rfl (lv_at hl 0 rfl) ?_
      refine lv_isub hx hb dX9_isLeafAt_25 ?_
      refine lv_topi (fun v_16 ev_16 => ?_)
      have hv_16 : v_16.toInt = 16 - r_1.toInt := by rw [ev_16]; exact (iv_sub (by omega) (by omega)).trans (by omega)
      clear ev_16
      refine vp_callSi (va_Run.run (va_runV (As := [.int v_15, .int v_16]) (rest := []) ⟨hx, hb, hml, hown, hts⟩ (v_X9_isEmpty l dC dI o c kc st lg ai al v_15 v_16 (by omega) (by omega) (by omega) (by omega)) (cwV 2 hts gX9_isLeafAt_X9_isEmpty rfl rfl rfl (by decide +kernel) ⟨Nat.le_of_ble_eq_true rfl, Nat.le_of_ble_eq_true rfl⟩) ⟨fun a U g mk q => by obtain ⟨q0, qP, qK⟩ := q; exact ⟨q0, qP, va_K.moved (u := U) (U := U.calling g mk a) (Vm.Alike.refl U.vm) qK⟩, va_recv hK hP (ci := 11) (q := (RX9, TX9, 38)) rfl (q0 := 0) rfl, fun U hU hW => ⟨rfl, by rw [hU]; exact hP, va_K.moved hW.alike hK⟩⟩ rfl rfl hl.1 rfl (lv_room (Nat.le_of_ble_eq_true rfl)) dX9_isLeafAt_26 ⟨Nat.le_of_ble_eq_true rfl, Nat.le_of_ble_eq_true rfl⟩)) (fun r_17 er_17 => ?_)
      obtain ⟨k_18, k_19⟩ := er_17
      rcases iv_01 (a := r_17) (by omega) (by omega) with b_20 | b_20
      · skip
        have ib_20 := iv_eq b_20
        rw [b_20]
        refine lv_if_eq (tgt := 36) hx hb dX9_isLeafAt_29 (by decide) (fun c_21 => ?_) (fun c_21 => ?_)
        · skip
          have ic_21 := iv_eq c_21
          refine lv_iconst (v := 0) hx hb dX9_isLeafAt_36 (by decide) ?_
          exact W.zret hx hb hr rfl (fun t ht hW => ⟨_, rfl, ⟨(by omega), (by omega)⟩, ht⟩) (fun q h => by cases h) dX9_isLeafAt_37
        · skip
          have ic_21 := iv_ne c_21
          exfalso
          omega
      · skip
        have ib_20 := iv_eq b_20
        rw [b_20]
        refine lv_if_eq (tgt := 36) hx hb dX9_isLeafAt_29 (by decide) (fun c_22 => ?_) (fun c_22 => ?_)
        · skip
          have ic_22 := iv_eq c_22
          exfalso
          omega
        · skip
          have ic_22 := iv_ne c_22
          refine lv_iconst (v := 1) hx hb dX9_isLeafAt_32 (by decide) ?_
          refine lv_goto (tgt := 37) hx hb dX9_isLeafAt_33 (by decide) ?_
          exact W.zret hx hb hr rfl (fun t ht hW => ⟨_, rfl, ⟨(by omega), (by omega)⟩, ht⟩) (fun q h => by cases h) dX9_isLeafAt_37

set_option maxHeartbeats 4000000 in
set_option maxRecDepth 100000 in
theorem v_X9_stateOf (l : Launch) (dC : Nat → ClassId) (dI : Nat → Nat → Nat) (o : Nat) (c : Nat → Nat) (kc : Nat → ClassId) (st : Nat → Int32) (lg : Nat → Int64) (ai : Nat → Nat → Int32) (al : Nat → Nat → Int64) (p0 : Int32) (p1 : Int32) (p2 : Int32) (hq0 : 0 ≤ p0.toInt) (hq1 : 26 ≤ p1.toInt) (hq2 : p1.toInt ≤ 32) (hq3 : p0.toInt + p1.toInt ≤ 1712160) : Met l yX9_stateOf wsX9_stateOf ({ frames := 3, cells := 0, slots := 0, locals := 66 }) (va_Pc [.ref o, .int p0, .int p1, .int p2] (fun U => va_P (dC, dI) vwCl (rw_W o c kc st lg ai al) U.heap ∧ va_K (dC, dI) vwCl (rw_T kc) U)) (vp_Si (fun r => (0 ≤ r.toInt) ∧ (r.toInt ≤ 3))) 0 0 (fun _ => False) := by
  refine Met.ofW (cc := cX9_stateOf) (maxL := 8) (ret := (some .int)) (by decide) rfl ?_
  intro p e s m args below meth cM s₁ B hml hv
  obtain ⟨rfl, hP, hK⟩ := hv
  have hx := B.exec
  have hb := B.bytes
  have hr := B.returns
  have hts := atoms_spec (ws := wsX9_stateOf) B.pre
  have hown : s.vm.findClass RX9 = some m.cls := findClass_of_methodNamed B.named
  have hl := lv_entry ([.ref o, .int p0, .int p1, .int p2]) (n := 8) (Nat.le_of_ble_eq_true rfl)
  rw [lg_entry_eq]
  generalize (lg_sl ([.ref o, .int p0, .int p1, .int p2]) ++ List.replicate (8 - (lg_sl ([.ref o, .int p0, .int p1, .int p2])).length) Slot.unset).toArray = ls at hl ⊢
  have hl : lv_has ls 8 [(0, .ref o), (1, .int p0), (2, .int p1), (3, .int p2)] := hl
  have z_0 : (0 : Int32).toInt = 0 := by decide
  have z_1 : (1 : Int32).toInt = 1 := by decide
  have z_2 : (2 : Int32).toInt = 2 := by decide
  have z_3 : (3 : Int32).toInt = 3 := by decide
  have z_8 : (8 : Int32).toInt = 8 := by decide
  have z_9 : (9 : Int32).toInt = 9 := by decide
  have z_165 : (165 : Int32).toInt = 165 := by decide
  refine lv_iconst (v := 1) hx hb dX9_stateOf_0 (by decide) ?_
  refine lv_istore (lv' := [(4, .int (1 : Int32)), (0, .ref o), (1, .int p0), (2, .int p1), (3, .int p2)]) hx hb dX9_stateOf_1 hl (by decide) rfl (fun ls hl => ?_)
  refine lv_iconst (v := 1) hx hb dX9_stateOf_3 (by decide) ?_
  refine lv_istore (lv' := [(5, .int (1 : Int32)), (4, .int (1 : Int32)), (0, .ref o), (1, .int p0), (2, .int p1), (3, .int p2)]) hx hb dX9_stateOf_4 hl (by decide) rfl (fun ls hl => ?_)
  refine lv_iconst (v := 0) hx hb dX9_stateOf_6 (by decide) ?_
  refine lv_istore (lv' := [(6, .int (0 : Int32)), (5, .int (1 : Int32)), (4, .int (1 : Int32)), (0, .ref o), (1, .int p0), (2, .int p1), (3, .int p2)]) hx hb dX9_stateOf_7 hl (by decide) rfl (fun ls hl => ?_)
  have loop9 : ∀ (n : Nat) (l6_9 : Int32) (l5_9 : Int32) (l4_9 : Int32) (ls : Array Slot), (0 ≤ l6_9.toInt) → (l6_9.toInt ≤ p1.toInt) → (0 ≤ l4_9.toInt) → (l4_9.toInt ≤ 1) → (0 ≤ l5_9.toInt) → (l5_9.toInt ≤ 1) → (p1.toInt - l6_9.toInt : Int).toNat < n → lv_has ls 8 [(6, .int l6_9), (5, .int l5_9), (4, .int l4_9), (0, .ref o), (1, .int p0), (2, .int p1), (3, .int p2)] → W p l e (headSpec wsX9_stateOf ({ frames := 3, cells := 0, slots := 0, locals := 66 })).room s m ([.ref o, .int p0, .int p1, .int p2] : List Value).toArray below meth cM s.heap [] 0 0 (MQ below (vp_Si (fun r => (0 ≤ r.toInt) ∧ (r.toInt ≤ 3))) ([.ref o, .int p0, .int p1, .int p2] : List Value).toArray s 0 0 (fun _ => False)) (F0 m 9 ls []) := by
    intro n
    induction n with
    | zero => intro l6_9 l5_9 l4_9 ls if0_9 if1_9 if2_9 if3_9 if4_9 if5_9 hm; exact absurd hm (Nat.not_lt_zero _)
    | succ n ih9 =>
      intro l6_9 l5_9 l4_9 ls if0_9 if1_9 if2_9 if3_9 if4_9 if5_9 hm9 hl
      refine lv_iload hx hb dX9_stateOf_9 (lv_at hl 0 rfl) ?_
      refine lv_iload_n hx hb dX9_stateOf_11 rfl (lv_at hl 5 rfl) ?_
      refine lv_icmp_ge (tgt := 71) hx hb dX9_stateOf_12 (by decide) (fun c_1 => ?_) (fun c_1 => ?_)
      · skip
        have ic_1 := iv_le c_1
        refine lv_iload hx hb dX9_stateOf_71 (lv_at hl 2 rfl) ?_
        refine lv_if_eq (tgt := 78) hx hb dX9_stateOf_73 (by decide) (fun c_2 => ?_) (fun c_2 => ?_)
        · skip
          have ic_2 := iv_eq c_2
          refine lv_aload_n hx hb dX9_stateOf_78 rfl (lv_at hl 3 rfl) ?_
          refine lv_iload_n hx hb dX9_stateOf_79 rfl (lv_at hl 4 rfl) ?_
          refine lv_iload_n hx hb dX9_stateOf_80 rfl (lv_at hl 5 rfl) ?_
          refine lv_iadd hx hb dX9_stateOf_81 ?_
          refine lv_topi (fun v_3 ev_3 => ?_)
          have hv_3 : v_3.toInt = p0.toInt + p1.toInt := by rw [ev_3]; exact (iv_add (by omega) (by omega)).trans (by omega)
          clear ev_3
          refine lv_bipush (v := 9) hx hb dX9_stateOf_82 (by decide) ?_
          refine lv_isub hx hb dX9_stateOf_84 ?_
          refine lv_topi (fun v_4 ev_4 => ?_)
          have hv_4 : v_4.toInt = v_3.toInt - 9 := by rw [ev_4]; exact (iv_sub (by omega) (by omega)).trans (by omega)
          clear ev_4
          refine lv_bipush (v := 8) hx hb dX9_stateOf_85 (by decide) ?_
          refine vp_callSl (va_Run.run (va_runV (As := [.int v_4, .int (8 : Int32)]) (rest := []) ⟨hx, hb, hml, hown, hts⟩ (v_X9_number l dC dI o c kc st lg ai al v_4 (8 : Int32) (by omega) (by omega) (by omega) (by omega)) (cwV 2 hts gX9_stateOf_X9_number rfl rfl rfl (by decide +kernel) ⟨Nat.le_of_ble_eq_true rfl, Nat.le_of_ble_eq_true rfl⟩) ⟨fun a U g mk q => by obtain ⟨q0, qP, qK⟩ := q; exact ⟨q0, qP, va_K.moved (u := U) (U := U.calling g mk a) (Vm.Alike.refl U.vm) qK⟩, va_recv hK hP (ci := 11) (q := (RX9, TX9, 38)) rfl (q0 := 0) rfl, fun U hU hW => ⟨rfl, by rw [hU]; exact hP, va_K.moved hW.alike hK⟩⟩ rfl rfl hl.1 rfl (lv_room (Nat.le_of_ble_eq_true rfl)) dX9_stateOf_87 ⟨Nat.le_of_ble_eq_true rfl, Nat.le_of_ble_eq_true rfl⟩)) (fun r_5 er_5 => ?_)
          have q_6 := er_5
          refine lv_lstore (lv' := [(6, .long r_5), (5, .int l5_9), (4, .int l4_9), (0, .ref o), (1, .int p0), (2, .int p1), (3, .int p2)]) hx hb dX9_stateOf_90 hl (by decide) rfl (fun ls hl => ?_)
          refine lv_iload_n hx hb dX9_stateOf_92 rfl (lv_at hl 6 rfl) ?_
          refine lv_iconst (v := 2) hx hb dX9_stateOf_93 (by decide) ?_
          refine lv_icmp_eq (tgt := 105) hx hb dX9_stateOf_94 (by decide) (fun c_7 => ?_) (fun c_7 => ?_)
          · skip
            have ic_7 := iv_eq c_7
            refine lv_lload hx hb dX9_stateOf_105 (lv_at hl 0 rfl) ?_
            refine lv_aload_n hx hb dX9_stateOf_107 rfl (lv_at hl 3 rfl) ?_
            refine lv_iload_n hx hb dX9_stateOf_108 rfl (lv_at hl 6 rfl) ?_
            refine lv_iload_n hx hb dX9_stateOf_109 rfl (lv_at hl 4 rfl) ?_
            refine lv_iload_n hx hb dX9_stateOf_110 rfl (lv_at hl 5 rfl) ?_
            refine lv_bipush (v := 9) hx hb dX9_stateOf_111 (by decide) ?_
            refine lv_isub hx hb dX9_stateOf_113 ?_
            refine lv_topi (fun v_8 ev_8 => ?_)
            have hv_8 : v_8.toInt = p1.toInt - 9 := by rw [ev_8]; exact (iv_sub (by omega) (by omega)).trans (by omega)
            clear ev_8
            refine vp_callSl (va_Run.run (va_runV (As := [.int p2, .int p0, .int v_8]) (rest := [.long r_5]) ⟨hx, hb, hml, hown, hts⟩ (v_X9_sumOf l dC dI o c kc st lg ai al p2 p0 v_8 (by omega) (by omega) (by omega) (by omega)) (cwV 3 hts gX9_stateOf_X9_sumOf rfl rfl rfl (by decide +kernel) ⟨Nat.le_of_ble_eq_true rfl, Nat.le_of_ble_eq_true rfl⟩) ⟨fun a U g mk q => by obtain ⟨q0, qP, qK⟩ := q; exact ⟨q0, qP, va_K.moved (u := U) (U := U.calling g mk a) (Vm.Alike.refl U.vm) qK⟩, va_recv hK hP (ci := 11) (q := (RX9, TX9, 38)) rfl (q0 := 0) rfl, fun U hU hW => ⟨rfl, by rw [hU]; exact hP, va_K.moved hW.alike hK⟩⟩ rfl rfl hl.1 rfl (lv_room (Nat.le_of_ble_eq_true rfl)) dX9_stateOf_114 ⟨Nat.le_of_ble_eq_true rfl, Nat.le_of_ble_eq_true rfl⟩)) (fun r_9 er_9 => ?_)
            refine W.lcmp hx hb dX9_stateOf_117 ?_
            refine lv_topi (fun v_10 ev_10 => ?_)
            clear ev_10
            refine lv_if_ne (tgt := 145) hx hb dX9_stateOf_118 (by decide) (fun c_11 => ?_) (fun c_11 => ?_)
            · skip
              have ic_11 := iv_ne c_11
              refine lv_aload_n hx hb dX9_stateOf_145 rfl (lv_at hl 3 rfl) ?_
              refine lv_iload_n hx hb dX9_stateOf_146 rfl (lv_at hl 4 rfl) ?_
              refine lv_iload_n hx hb dX9_stateOf_147 rfl (lv_at hl 5 rfl) ?_
              refine lv_iadd hx hb dX9_stateOf_148 ?_
              refine lv_topi (fun v_12 ev_12 => ?_)
              have hv_12 : v_12.toInt = p0.toInt + p1.toInt := by rw [ev_12]; exact (iv_add (by omega) (by omega)).trans (by omega)
              clear ev_12
              refine lv_iconst (v := 1) hx hb dX9_stateOf_149 (by decide) ?_
              refine lv_isub hx hb dX9_stateOf_150 ?_
              refine lv_topi (fun v_13 ev_13 => ?_)
              have hv_13 : v_13.toInt = v_12.toInt - 1 := by rw [ev_13]; exact (iv_sub (by omega) (by omega)).trans (by omega)
              clear ev_13
              refine vp_callSi (va_Run.run (va_runV (As := [.int v_13]) (rest := []) ⟨hx, hb, hml, hown, hts⟩ (v_X9_byteIn l dC dI o c kc st lg ai al v_13 (by omega) (by omega)) (cwV 1 hts gX9_stateOf_X9_byteIn rfl rfl rfl (by decide +kernel) ⟨Nat.le_of_ble_eq_true rfl, Nat.le_of_ble_eq_true rfl⟩) ⟨fun a U g mk q => by obtain ⟨q0, qP, qK⟩ := q; exact ⟨q0, qP, va_K.moved (u := U) (U := U.calling g mk a) (Vm.Alike.refl U.vm) qK⟩, va_recv hK hP (ci := 11) (q := (RX9, TX9, 38)) rfl (q0 := 0) rfl, fun U hU hW => ⟨rfl, by rw [hU]; exact hP, va_K.moved hW.alike hK⟩⟩ rfl rfl hl.1 rfl (lv_room (Nat.le_of_ble_eq_true rfl)) dX9_stateOf_151 ⟨Nat.le_of_ble_eq_true rfl, Nat.le_of_ble_eq_true rfl⟩)) (fun r_14 er_14 => ?_)
              obtain ⟨k_15, k_16, k_17⟩ := er_14
              refine lv_if_eq (tgt := 162) hx hb dX9_stateOf_154 (by decide) (fun c_18 => ?_) (fun c_18 => ?_)
              · skip
                have ic_18 := iv_eq c_18
                refine lv_iconst (v := 2) hx hb dX9_stateOf_162 (by decide) ?_
                refine lv_goto (tgt := 167) hx hb dX9_stateOf_163 (by decide) ?_
                exact W.iret hx hb hr (fun t ht hW => ⟨_, rfl, ⟨(by omega), (by omega)⟩, ht⟩) (fun q h => by cases h) dX9_stateOf_167
              · skip
                have ic_18 := iv_ne c_18
                refine lv_iload hx hb dX9_stateOf_157 (lv_at hl 1 rfl) ?_
                refine lv_if_eq (tgt := 166) hx hb dX9_stateOf_159 (by decide) (fun c_19 => ?_) (fun c_19 => ?_)
                · skip
                  have ic_19 := iv_eq c_19
                  refine lv_iconst (v := 3) hx hb dX9_stateOf_166 (by decide) ?_
                  exact W.iret hx hb hr (fun t ht hW => ⟨_, rfl, ⟨(by omega), (by omega)⟩, ht⟩) (fun q h => by cases h) dX9_stateOf_167
                · skip
                  have ic_19 := iv_ne c_19
                  refine lv_iconst (v := 2) hx hb dX9_stateOf_162 (by decide) ?_
                  refine lv_goto (tgt := 167) hx hb dX9_stateOf_163 (by decide) ?_
                  exact W.iret hx hb hr (fun t ht hW => ⟨_, rfl, ⟨(by omega), (by omega)⟩, ht⟩) (fun q h => by cases h) dX9_stateOf_167
            · skip
              have ic_11 := iv_eq c_11
              refine lv_lload hx hb dX9_stateOf_121 (lv_at hl 0 rfl) ?_
              refine lv_lconst (v := 0) hx hb dX9_stateOf_123 (by decide) ?_
              refine W.lcmp hx hb dX9_stateOf_124 ?_
              refine lv_topi (fun v_20 ev_20 => ?_)
              clear ev_20
              refine lv_if_ne (tgt := 143) hx hb dX9_stateOf_125 (by decide) (fun c_21 => ?_) (fun c_21 => ?_)
              · skip
                have ic_21 := iv_ne c_21
                refine lv_iconst (v := 1) hx hb dX9_stateOf_143 (by decide) ?_
                exact W.iret hx hb hr (fun t ht hW => ⟨_, rfl, ⟨(by omega), (by omega)⟩, ht⟩) (fun q h => by cases h) dX9_stateOf_144
              · skip
                have ic_21 := iv_eq c_21
                refine lv_aload_n hx hb dX9_stateOf_128 rfl (lv_at hl 3 rfl) ?_
                refine lv_iload_n hx hb dX9_stateOf_129 rfl (lv_at hl 4 rfl) ?_
                refine lv_iload_n hx hb dX9_stateOf_130 rfl (lv_at hl 5 rfl) ?_
                refine lv_iadd hx hb dX9_stateOf_131 ?_
                refine lv_topi (fun v_22 ev_22 => ?_)
                have hv_22 : v_22.toInt = p0.toInt + p1.toInt := by rw [ev_22]; exact (iv_add (by omega) (by omega)).trans (by omega)
                clear ev_22
                refine lv_iconst (v := 1) hx hb dX9_stateOf_132 (by decide) ?_
                refine lv_isub hx hb dX9_stateOf_133 ?_
                refine lv_topi (fun v_23 ev_23 => ?_)
                have hv_23 : v_23.toInt = v_22.toInt - 1 := by rw [ev_23]; exact (iv_sub (by omega) (by omega)).trans (by omega)
                clear ev_23
                refine vp_callSi (va_Run.run (va_runV (As := [.int v_23]) (rest := []) ⟨hx, hb, hml, hown, hts⟩ (v_X9_byteIn l dC dI o c kc st lg ai al v_23 (by omega) (by omega)) (cwV 1 hts gX9_stateOf_X9_byteIn rfl rfl rfl (by decide +kernel) ⟨Nat.le_of_ble_eq_true rfl, Nat.le_of_ble_eq_true rfl⟩) ⟨fun a U g mk q => by obtain ⟨q0, qP, qK⟩ := q; exact ⟨q0, qP, va_K.moved (u := U) (U := U.calling g mk a) (Vm.Alike.refl U.vm) qK⟩, va_recv hK hP (ci := 11) (q := (RX9, TX9, 38)) rfl (q0 := 0) rfl, fun U hU hW => ⟨rfl, by rw [hU]; exact hP, va_K.moved hW.alike hK⟩⟩ rfl rfl hl.1 rfl (lv_room (Nat.le_of_ble_eq_true rfl)) dX9_stateOf_134 ⟨Nat.le_of_ble_eq_true rfl, Nat.le_of_ble_eq_true rfl⟩)) (fun r_24 er_24 => ?_)
                obtain ⟨k_25, k_26, k_27⟩ := er_24
                refine lv_sipush (v := 165) hx hb dX9_stateOf_137 (by decide) ?_
                refine lv_icmp_ne (tgt := 145) hx hb dX9_stateOf_140 (by decide) (fun c_28 => ?_) (fun c_28 => ?_)
                · skip
                  have ic_28 := iv_ne c_28
                  refine lv_aload_n hx hb dX9_stateOf_145 rfl (lv_at hl 3 rfl) ?_
                  refine lv_iload_n hx hb dX9_stateOf_146 rfl (lv_at hl 4 rfl) ?_
                  refine lv_iload_n hx hb dX9_stateOf_147 rfl (lv_at hl 5 rfl) ?_
                  refine lv_iadd hx hb dX9_stateOf_148 ?_
                  refine lv_topi (fun v_29 ev_29 => ?_)
                  have hv_29 : v_29.toInt = p0.toInt + p1.toInt := by rw [ev_29]; exact (iv_add (by omega) (by omega)).trans (by omega)
                  clear ev_29
                  refine lv_iconst (v := 1) hx hb dX9_stateOf_149 (by decide) ?_
                  refine lv_isub hx hb dX9_stateOf_150 ?_
                  refine lv_topi (fun v_30 ev_30 => ?_)
                  have hv_30 : v_30.toInt = v_29.toInt - 1 := by rw [ev_30]; exact (iv_sub (by omega) (by omega)).trans (by omega)
                  clear ev_30
                  refine vp_callSi (va_Run.run (va_runV (As := [.int v_30]) (rest := []) ⟨hx, hb, hml, hown, hts⟩ (v_X9_byteIn l dC dI o c kc st lg ai al v_30 (by omega) (by omega)) (cwV 1 hts gX9_stateOf_X9_byteIn rfl rfl rfl (by decide +kernel) ⟨Nat.le_of_ble_eq_true rfl, Nat.le_of_ble_eq_true rfl⟩) ⟨fun a U g mk q => by obtain ⟨q0, qP, qK⟩ := q; exact ⟨q0, qP, va_K.moved (u := U) (U := U.calling g mk a) (Vm.Alike.refl U.vm) qK⟩, va_recv hK hP (ci := 11) (q := (RX9, TX9, 38)) rfl (q0 := 0) rfl, fun U hU hW => ⟨rfl, by rw [hU]; exact hP, va_K.moved hW.alike hK⟩⟩ rfl rfl hl.1 rfl (lv_room (Nat.le_of_ble_eq_true rfl)) dX9_stateOf_151 ⟨Nat.le_of_ble_eq_true rfl, Nat.le_of_ble_eq_true rfl⟩)) (fun r_31 er_31 => ?_)
                  obtain ⟨k_32, k_33, k_34⟩ := er_31
                  refine lv_if_eq (tgt := 162) hx hb dX9_stateOf_154 (by decide) (fun c_35 => ?_) (fun c_35 => ?_)
                  · skip
                    have ic_35 := iv_eq c_35
                    refine lv_iconst (v := 2) hx hb dX9_stateOf_162 (by decide) ?_
                    refine lv_goto (tgt := 167) hx hb dX9_stateOf_163 (by decide) ?_
                    exact W.iret hx hb hr (fun t ht hW => ⟨_, rfl, ⟨(by omega), (by omega)⟩, ht⟩) (fun q h => by cases h) dX9_stateOf_167
                  · skip
                    have ic_35 := iv_ne c_35
                    refine lv_iload hx hb dX9_stateOf_157 (lv_at hl 1 rfl) ?_
                    refine lv_if_eq (tgt := 166) hx hb dX9_stateOf_159 (by decide) (fun c_36 => ?_) (fun c_36 => ?_)
                    · skip
                      have ic_36 := iv_eq c_36
                      refine lv_iconst (v := 3) hx hb dX9_stateOf_166 (by decide) ?_
                      exact W.iret hx hb hr (fun t ht hW => ⟨_, rfl, ⟨(by omega), (by omega)⟩, ht⟩) (fun q h => by cases h) dX9_stateOf_167
                    · skip
                      have ic_36 := iv_ne c_36
                      refine lv_iconst (v := 2) hx hb dX9_stateOf_162 (by decide) ?_
                      refine lv_goto (tgt := 167) hx hb dX9_stateOf_163 (by decide) ?_
                      exact W.iret hx hb hr (fun t ht hW => ⟨_, rfl, ⟨(by omega), (by omega)⟩, ht⟩) (fun q h => by cases h) dX9_stateOf_167
                · skip
                  have ic_28 := iv_eq c_28
                  refine lv_iconst (v := 1) hx hb dX9_stateOf_143 (by decide) ?_
                  exact W.iret hx hb hr (fun t ht hW => ⟨_, rfl, ⟨(by omega), (by omega)⟩, ht⟩) (fun q h => by cases h) dX9_stateOf_144
          · skip
            have ic_7 := iv_ne c_7
            refine lv_aload_n hx hb dX9_stateOf_97 rfl (lv_at hl 3 rfl) ?_
            refine lv_iload_n hx hb dX9_stateOf_98 rfl (lv_at hl 4 rfl) ?_
            refine vp_callSi (va_Run.run (va_runV (As := [.int p0]) (rest := []) ⟨hx, hb, hml, hown, hts⟩ (v_X9_isLeafAt l dC dI o c kc st lg ai al p0 (by omega) (by omega)) (cwV 1 hts gX9_stateOf_X9_isLeafAt rfl rfl rfl (by decide +kernel) ⟨Nat.le_of_ble_eq_true rfl, Nat.le_of_ble_eq_true rfl⟩) ⟨fun a U g mk q => by obtain ⟨q0, qP, qK⟩ := q; exact ⟨q0, qP, va_K.moved (u := U) (U := U.calling g mk a) (Vm.Alike.refl U.vm) qK⟩, va_recv hK hP (ci := 11) (q := (RX9, TX9, 38)) rfl (q0 := 0) rfl, fun U hU hW => ⟨rfl, by rw [hU]; exact hP, va_K.moved hW.alike hK⟩⟩ rfl rfl hl.1 rfl (lv_room (Nat.le_of_ble_eq_true rfl)) dX9_stateOf_99 ⟨Nat.le_of_ble_eq_true rfl, Nat.le_of_ble_eq_true rfl⟩)) (fun r_37 er_37 => ?_)
            obtain ⟨k_38, k_39⟩ := er_37
            rcases iv_01 (a := r_37) (by omega) (by omega) with b_40 | b_40
            · skip
              have ib_40 := iv_eq b_40
              rw [b_40]
              refine lv_if_eq (tgt := 145) hx hb dX9_stateOf_102 (by decide) (fun c_41 => ?_) (fun c_41 => ?_)
              · skip
                have ic_41 := iv_eq c_41
                refine lv_aload_n hx hb dX9_stateOf_145 rfl (lv_at hl 3 rfl) ?_
                refine lv_iload_n hx hb dX9_stateOf_146 rfl (lv_at hl 4 rfl) ?_
                refine lv_iload_n hx hb dX9_stateOf_147 rfl (lv_at hl 5 rfl) ?_
                refine lv_iadd hx hb dX9_stateOf_148 ?_
                refine lv_topi (fun v_42 ev_42 => ?_)
                have hv_42 : v_42.toInt = p0.toInt + p1.toInt := by rw [ev_42]; exact (iv_add (by omega) (by omega)).trans (by omega)
                clear ev_42
                refine lv_iconst (v := 1) hx hb dX9_stateOf_149 (by decide) ?_
                refine lv_isub hx hb dX9_stateOf_150 ?_
                refine lv_topi (fun v_43 ev_43 => ?_)
                have hv_43 : v_43.toInt = v_42.toInt - 1 := by rw [ev_43]; exact (iv_sub (by omega) (by omega)).trans (by omega)
                clear ev_43
                refine vp_callSi (va_Run.run (va_runV (As := [.int v_43]) (rest := []) ⟨hx, hb, hml, hown, hts⟩ (v_X9_byteIn l dC dI o c kc st lg ai al v_43 (by omega) (by omega)) (cwV 1 hts gX9_stateOf_X9_byteIn rfl rfl rfl (by decide +kernel) ⟨Nat.le_of_ble_eq_true rfl, Nat.le_of_ble_eq_true rfl⟩) ⟨fun a U g mk q => by obtain ⟨q0, qP, qK⟩ := q; exact ⟨q0, qP, va_K.moved (u := U) (U := U.calling g mk a) (Vm.Alike.refl U.vm) qK⟩, va_recv hK hP (ci := 11) (q := (RX9, TX9, 38)) rfl (q0 := 0) rfl, fun U hU hW => ⟨rfl, by rw [hU]; exact hP, va_K.moved hW.alike hK⟩⟩ rfl rfl hl.1 rfl (lv_room (Nat.le_of_ble_eq_true rfl)) dX9_stateOf_151 ⟨Nat.le_of_ble_eq_true rfl, Nat.le_of_ble_eq_true rfl⟩)) (fun r_44 er_44 => ?_)
                obtain ⟨k_45, k_46, k_47⟩ := er_44
                refine lv_if_eq (tgt := 162) hx hb dX9_stateOf_154 (by decide) (fun c_48 => ?_) (fun c_48 => ?_)
                · skip
                  have ic_48 := iv_eq c_48
                  refine lv_iconst (v := 2) hx hb dX9_stateOf_162 (by decide) ?_
                  refine lv_goto (tgt := 167) hx hb dX9_stateOf_163 (by decide) ?_
                  exact W.iret hx hb hr (fun t ht hW => ⟨_, rfl, ⟨(by omega), (by omega)⟩, ht⟩) (fun q h => by cases h) dX9_stateOf_167
                · skip
                  have ic_48 := iv_ne c_48
                  refine lv_iload hx hb dX9_stateOf_157 (lv_at hl 1 rfl) ?_
                  refine lv_if_eq (tgt := 166) hx hb dX9_stateOf_159 (by decide) (fun c_49 => ?_) (fun c_49 => ?_)
                  · skip
                    have ic_49 := iv_eq c_49
                    refine lv_iconst (v := 3) hx hb dX9_stateOf_166 (by decide) ?_
                    exact W.iret hx hb hr (fun t ht hW => ⟨_, rfl, ⟨(by omega), (by omega)⟩, ht⟩) (fun q h => by cases h) dX9_stateOf_167
                  · skip
                    have ic_49 := iv_ne c_49
                    refine lv_iconst (v := 2) hx hb dX9_stateOf_162 (by decide) ?_
                    refine lv_goto (tgt := 167) hx hb dX9_stateOf_163 (by decide) ?_
                    exact W.iret hx hb hr (fun t ht hW => ⟨_, rfl, ⟨(by omega), (by omega)⟩, ht⟩) (fun q h => by cases h) dX9_stateOf_167
              · skip
                have ic_41 := iv_ne c_41
                exfalso
                omega
            · skip
              have ib_40 := iv_eq b_40
              rw [b_40]
              refine lv_if_eq (tgt := 145) hx hb dX9_stateOf_102 (by decide) (fun c_50 => ?_) (fun c_50 => ?_)
              · skip
                have ic_50 := iv_eq c_50
                exfalso
                omega
              · skip
                have ic_50 := iv_ne c_50
                refine lv_lload hx hb dX9_stateOf_105 (lv_at hl 0 rfl) ?_
                refine lv_aload_n hx hb dX9_stateOf_107 rfl (lv_at hl 3 rfl) ?_
                refine lv_iload_n hx hb dX9_stateOf_108 rfl (lv_at hl 6 rfl) ?_
                refine lv_iload_n hx hb dX9_stateOf_109 rfl (lv_at hl 4 rfl) ?_
                refine lv_iload_n hx hb dX9_stateOf_110 rfl (lv_at hl 5 rfl) ?_
                refine lv_bipush (v := 9) hx hb dX9_stateOf_111 (by decide) ?_
                refine lv_isub hx hb dX9_stateOf_113 ?_
                refine lv_topi (fun v_51 ev_51 => ?_)
                have hv_51 : v_51.toInt = p1.toInt - 9 := by rw [ev_51]; exact (iv_sub (by omega) (by omega)).trans (by omega)
                clear ev_51
                refine vp_callSl (va_Run.run (va_runV (As := [.int p2, .int p0, .int v_51]) (rest := [.long r_5]) ⟨hx, hb, hml, hown, hts⟩ (v_X9_sumOf l dC dI o c kc st lg ai al p2 p0 v_51 (by omega) (by omega) (by omega) (by omega)) (cwV 3 hts gX9_stateOf_X9_sumOf rfl rfl rfl (by decide +kernel) ⟨Nat.le_of_ble_eq_true rfl, Nat.le_of_ble_eq_true rfl⟩) ⟨fun a U g mk q => by obtain ⟨q0, qP, qK⟩ := q; exact ⟨q0, qP, va_K.moved (u := U) (U := U.calling g mk a) (Vm.Alike.refl U.vm) qK⟩, va_recv hK hP (ci := 11) (q := (RX9, TX9, 38)) rfl (q0 := 0) rfl, fun U hU hW => ⟨rfl, by rw [hU]; exact hP, va_K.moved hW.alike hK⟩⟩ rfl rfl hl.1 rfl (lv_room (Nat.le_of_ble_eq_true rfl)) dX9_stateOf_114 ⟨Nat.le_of_ble_eq_true rfl, Nat.le_of_ble_eq_true rfl⟩)) (fun r_52 er_52 => ?_)
                refine W.lcmp hx hb dX9_stateOf_117 ?_
                refine lv_topi (fun v_53 ev_53 => ?_)
                clear ev_53
                refine lv_if_ne (tgt := 145) hx hb dX9_stateOf_118 (by decide) (fun c_54 => ?_) (fun c_54 => ?_)
                · skip
                  have ic_54 := iv_ne c_54
                  refine lv_aload_n hx hb dX9_stateOf_145 rfl (lv_at hl 3 rfl) ?_
                  refine lv_iload_n hx hb dX9_stateOf_146 rfl (lv_at hl 4 rfl) ?_
                  refine lv_iload_n hx hb dX9_stateOf_147 rfl (lv_at hl 5 rfl) ?_
                  refine lv_iadd hx hb dX9_stateOf_148 ?_
                  refine lv_topi (fun v_55 ev_55 => ?_)
                  have hv_55 : v_55.toInt = p0.toInt + p1.toInt := by rw [ev_55]; exact (iv_add (by omega) (by omega)).trans (by omega)
                  clear ev_55
                  refine lv_iconst (v := 1) hx hb dX9_stateOf_149 (by decide) ?_
                  refine lv_isub hx hb dX9_stateOf_150 ?_
                  refine lv_topi (fun v_56 ev_56 => ?_)
                  have hv_56 : v_56.toInt = v_55.toInt - 1 := by rw [ev_56]; exact (iv_sub (by omega) (by omega)).trans (by omega)
                  clear ev_56
                  refine vp_callSi (va_Run.run (va_runV (As := [.int v_56]) (rest := []) ⟨hx, hb, hml, hown, hts⟩ (v_X9_byteIn l dC dI o c kc st lg ai al v_56 (by omega) (by omega)) (cwV 1 hts gX9_stateOf_X9_byteIn rfl rfl rfl (by decide +kernel) ⟨Nat.le_of_ble_eq_true rfl, Nat.le_of_ble_eq_true rfl⟩) ⟨fun a U g mk q => by obtain ⟨q0, qP, qK⟩ := q; exact ⟨q0, qP, va_K.moved (u := U) (U := U.calling g mk a) (Vm.Alike.refl U.vm) qK⟩, va_recv hK hP (ci := 11) (q := (RX9, TX9, 38)) rfl (q0 := 0) rfl, fun U hU hW => ⟨rfl, by rw [hU]; exact hP, va_K.moved hW.alike hK⟩⟩ rfl rfl hl.1 rfl (lv_room (Nat.le_of_ble_eq_true rfl)) dX9_stateOf_151 ⟨Nat.le_of_ble_eq_true rfl, Nat.le_of_ble_eq_true rfl⟩)) (fun r_57 er_57 => ?_)
                  obtain ⟨k_58, k_59, k_60⟩ := er_57
                  refine lv_if_eq (tgt := 162) hx hb dX9_stateOf_154 (by decide) (fun c_61 => ?_) (fun c_61 => ?_)
                  · skip
                    have ic_61 := iv_eq c_61
                    refine lv_iconst (v := 2) hx hb dX9_stateOf_162 (by decide) ?_
                    refine lv_goto (tgt := 167) hx hb dX9_stateOf_163 (by decide) ?_
                    exact W.iret hx hb hr (fun t ht hW => ⟨_, rfl, ⟨(by omega), (by omega)⟩, ht⟩) (fun q h => by cases h) dX9_stateOf_167
                  · skip
                    have ic_61 := iv_ne c_61
                    refine lv_iload hx hb dX9_stateOf_157 (lv_at hl 1 rfl) ?_
                    refine lv_if_eq (tgt := 166) hx hb dX9_stateOf_159 (by decide) (fun c_62 => ?_) (fun c_62 => ?_)
                    · skip
                      have ic_62 := iv_eq c_62
                      refine lv_iconst (v := 3) hx hb dX9_stateOf_166 (by decide) ?_
                      exact W.iret hx hb hr (fun t ht hW => ⟨_, rfl, ⟨(by omega), (by omega)⟩, ht⟩) (fun q h => by cases h) dX9_stateOf_167
                    · skip
                      have ic_62 := iv_ne c_62
                      refine lv_iconst (v := 2) hx hb dX9_stateOf_162 (by decide) ?_
                      refine lv_goto (tgt := 167) hx hb dX9_stateOf_163 (by decide) ?_
                      exact W.iret hx hb hr (fun t ht hW => ⟨_, rfl, ⟨(by omega), (by omega)⟩, ht⟩) (fun q h => by cases h) dX9_stateOf_167
                · skip
                  have ic_54 := iv_eq c_54
                  refine lv_lload hx hb dX9_stateOf_121 (lv_at hl 0 rfl) ?_
                  refine lv_lconst (v := 0) hx hb dX9_stateOf_123 (by decide) ?_
                  refine W.lcmp hx hb dX9_stateOf_124 ?_
                  refine lv_topi (fun v_63 ev_63 => ?_)
                  clear ev_63
                  refine lv_if_ne (tgt := 143) hx hb dX9_stateOf_125 (by decide) (fun c_64 => ?_) (fun c_64 => ?_)
                  · skip
                    have ic_64 := iv_ne c_64
                    refine lv_iconst (v := 1) hx hb dX9_stateOf_143 (by decide) ?_
                    exact W.iret hx hb hr (fun t ht hW => ⟨_, rfl, ⟨(by omega), (by omega)⟩, ht⟩) (fun q h => by cases h) dX9_stateOf_144
                  · skip
                    have ic_64 := iv_eq c_64
                    refine lv_aload_n hx hb dX9_stateOf_128 rfl (lv_at hl 3 rfl) ?_
                    refine lv_iload_n hx hb dX9_stateOf_129 rfl (lv_at hl 4 rfl) ?_
                    refine lv_iload_n hx hb dX9_stateOf_130 rfl (lv_at hl 5 rfl) ?_
                    refine lv_iadd hx hb dX9_stateOf_131 ?_
                    refine lv_topi (fun v_65 ev_65 => ?_)
                    have hv_65 : v_65.toInt = p0.toInt + p1.toInt := by rw [ev_65]; exact (iv_add (by omega) (by omega)).trans (by omega)
                    clear ev_65
                    refine lv_iconst (v := 1) hx hb dX9_stateOf_132 (by decide) ?_
                    refine lv_isub hx hb dX9_stateOf_133 ?_
                    refine lv_topi (fun v_66 ev_66 => ?_)
                    have hv_66 : v_66.toInt = v_65.toInt - 1 := by rw [ev_66]; exact (iv_sub (by omega) (by omega)).trans (by omega)
                    clear ev_66
                    refine vp_callSi (va_Run.run (va_runV (As := [.int v_66]) (rest := []) ⟨hx, hb, hml, hown, hts⟩ (v_X9_byteIn l dC dI o c kc st lg ai al v_66 (by omega) (by omega)) (cwV 1 hts gX9_stateOf_X9_byteIn rfl rfl rfl (by decide +kernel) ⟨Nat.le_of_ble_eq_true rfl, Nat.le_of_ble_eq_true rfl⟩) ⟨fun a U g mk q => by obtain ⟨q0, qP, qK⟩ := q; exact ⟨q0, qP, va_K.moved (u := U) (U := U.calling g mk a) (Vm.Alike.refl U.vm) qK⟩, va_recv hK hP (ci := 11) (q := (RX9, TX9, 38)) rfl (q0 := 0) rfl, fun U hU hW => ⟨rfl, by rw [hU]; exact hP, va_K.moved hW.alike hK⟩⟩ rfl rfl hl.1 rfl (lv_room (Nat.le_of_ble_eq_true rfl)) dX9_stateOf_134 ⟨Nat.le_of_ble_eq_true rfl, Nat.le_of_ble_eq_true rfl⟩)) (fun r_67 er_67 => ?_)
                    obtain ⟨k_68, k_69, k_70⟩ := er_67
                    refine lv_sipush (v := 165) hx hb dX9_stateOf_137 (by decide) ?_
                    refine lv_icmp_ne (tgt := 145) hx hb dX9_stateOf_140 (by decide) (fun c_71 => ?_) (fun c_71 => ?_)
                    · skip
                      have ic_71 := iv_ne c_71
                      refine lv_aload_n hx hb dX9_stateOf_145 rfl (lv_at hl 3 rfl) ?_
                      refine lv_iload_n hx hb dX9_stateOf_146 rfl (lv_at hl 4 rfl) ?_
                      refine lv_iload_n hx hb dX9_stateOf_147 rfl (lv_at hl 5 rfl) ?_
                      refine lv_iadd hx hb dX9_stateOf_148 ?_
                      refine lv_topi (fun v_72 ev_72 => ?_)
                      have hv_72 : v_72.toInt = p0.toInt + p1.toInt := by rw [ev_72]; exact (iv_add (by omega) (by omega)).trans (by omega)
                      clear ev_72
                      refine lv_iconst (v := 1) hx hb dX9_stateOf_149 (by decide) ?_
                      refine lv_isub hx hb dX9_stateOf_150 ?_
                      refine lv_topi (fun v_73 ev_73 => ?_)
                      have hv_73 : v_73.toInt = v_72.toInt - 1 := by rw [ev_73]; exact (iv_sub (by omega) (by omega)).trans (by omega)
                      clear ev_73
                      refine vp_callSi (va_Run.run (va_runV (As := [.int v_73]) (rest := []) ⟨hx, hb, hml, hown, hts⟩ (v_X9_byteIn l dC dI o c kc st lg ai al v_73 (by omega) (by omega)) (cwV 1 hts gX9_stateOf_X9_byteIn rfl rfl rfl (by decide +kernel) ⟨Nat.le_of_ble_eq_true rfl, Nat.le_of_ble_eq_true rfl⟩) ⟨fun a U g mk q => by obtain ⟨q0, qP, qK⟩ := q; exact ⟨q0, qP, va_K.moved (u := U) (U := U.calling g mk a) (Vm.Alike.refl U.vm) qK⟩, va_recv hK hP (ci := 11) (q := (RX9, TX9, 38)) rfl (q0 := 0) rfl, fun U hU hW => ⟨rfl, by rw [hU]; exact hP, va_K.moved hW.alike hK⟩⟩ rfl rfl hl.1 rfl (lv_room (Nat.le_of_ble_eq_true rfl)) dX9_stateOf_151 ⟨Nat.le_of_ble_eq_true rfl, Nat.le_of_ble_eq_true rfl⟩)) (fun r_74 er_74 => ?_)
                      obtain ⟨k_75, k_76, k_77⟩ := er_74
                      refine lv_if_eq (tgt := 162) hx hb dX9_stateOf_154 (by decide) (fun c_78 => ?_) (fun c_78 => ?_)
                      · skip
                        have ic_78 := iv_eq c_78
                        refine lv_iconst (v := 2) hx hb dX9_stateOf_162 (by decide) ?_
                        refine lv_goto (tgt := 167) hx hb dX9_stateOf_163 (by decide) ?_
                        exact W.iret hx hb hr (fun t ht hW => ⟨_, rfl, ⟨(by omega), (by omega)⟩, ht⟩) (fun q h => by cases h) dX9_stateOf_167
                      · skip
                        have ic_78 := iv_ne c_78
                        refine lv_iload hx hb dX9_stateOf_157 (lv_at hl 1 rfl) ?_
                        refine lv_if_eq (tgt := 166) hx hb dX9_stateOf_159 (by decide) (fun c_79 => ?_) (fun c_79 => ?_)
                        · skip
                          have ic_79 := iv_eq c_79
                          refine lv_iconst (v := 3) hx hb dX9_stateOf_166 (by decide) ?_
                          exact W.iret hx hb hr (fun t ht hW => ⟨_, rfl, ⟨(by omega), (by omega)⟩, ht⟩) (fun q h => by cases h) dX9_stateOf_167
                        · skip
                          have ic_79 := iv_ne c_79
                          refine lv_iconst (v := 2) hx hb dX9_stateOf_162 (by decide) ?_
                          refine lv_goto (tgt := 167) hx hb dX9_stateOf_163 (by decide) ?_
                          exact W.iret hx hb hr (fun t ht hW => ⟨_, rfl, ⟨(by omega), (by omega)⟩, ht⟩) (fun q h => by cases h) dX9_stateOf_167
                    · skip
                      have ic_71 := iv_eq c_71
                      refine lv_iconst (v := 1) hx hb dX9_stateOf_143 (by decide) ?_
                      exact W.iret hx hb hr (fun t ht hW => ⟨_, rfl, ⟨(by omega), (by omega)⟩, ht⟩) (fun q h => by cases h) dX9_stateOf_144
        · skip
          have ic_2 := iv_ne c_2
          refine lv_iconst (v := 0) hx hb dX9_stateOf_76 (by decide) ?_
          exact W.iret hx hb hr (fun t ht hW => ⟨_, rfl, ⟨(by omega), (by omega)⟩, ht⟩) (fun q h => by cases h) dX9_stateOf_77
      · skip
        have ic_1 := iv_nle c_1
        refine lv_iload hx hb dX9_stateOf_15 (lv_at hl 2 rfl) ?_
        refine lv_aload_n hx hb dX9_stateOf_17 rfl (lv_at hl 3 rfl) ?_
        refine lv_iload_n hx hb dX9_stateOf_18 rfl (lv_at hl 4 rfl) ?_
        refine lv_iload hx hb dX9_stateOf_19 (lv_at hl 0 rfl) ?_
        refine lv_iadd hx hb dX9_stateOf_21 ?_
        refine lv_topi (fun v_80 ev_80 => ?_)
        have hv_80 : v_80.toInt = p0.toInt + l6_9.toInt := by rw [ev_80]; exact (iv_add (by omega) (by omega)).trans (by omega)
        clear ev_80
        refine vp_callSi (va_Run.run (va_runV (As := [.int v_80]) (rest := [.int l4_9]) ⟨hx, hb, hml, hown, hts⟩ (v_X9_byteIn l dC dI o c kc st lg ai al v_80 (by omega) (by omega)) (cwV 1 hts gX9_stateOf_X9_byteIn rfl rfl rfl (by decide +kernel) ⟨Nat.le_of_ble_eq_true rfl, Nat.le_of_ble_eq_true rfl⟩) ⟨fun a U g mk q => by obtain ⟨q0, qP, qK⟩ := q; exact ⟨q0, qP, va_K.moved (u := U) (U := U.calling g mk a) (Vm.Alike.refl U.vm) qK⟩, va_recv hK hP (ci := 11) (q := (RX9, TX9, 38)) rfl (q0 := 0) rfl, fun U hU hW => ⟨rfl, by rw [hU]; exact hP, va_K.moved hW.alike hK⟩⟩ rfl rfl hl.1 rfl (lv_room (Nat.le_of_ble_eq_true rfl)) dX9_stateOf_22 ⟨Nat.le_of_ble_eq_true rfl, Nat.le_of_ble_eq_true rfl⟩)) (fun r_81 er_81 => ?_)
        obtain ⟨k_82, k_83, k_84⟩ := er_81
        refine lv_if_ne (tgt := 32) hx hb dX9_stateOf_25 (by decide) (fun c_85 => ?_) (fun c_85 => ?_)
        · skip
          have ic_85 := iv_ne c_85
          refine lv_iconst (v := 0) hx hb dX9_stateOf_32 (by decide) ?_
          refine lv_iand hx hb dX9_stateOf_33 ?_
          refine lv_topi (fun v_86 ev_86 => ?_)
          have hv_86 : 0 ≤ v_86.toInt ∧ v_86.toInt ≤ 1 := by rw [ev_86]; exact iv_and01 (by omega) (by omega) (by omega) (by omega)
          clear ev_86
          refine lv_istore (lv' := [(4, .int v_86), (6, .int l6_9), (5, .int l5_9), (0, .ref o), (1, .int p0), (2, .int p1), (3, .int p2)]) hx hb dX9_stateOf_34 hl (by decide) rfl (fun ls hl => ?_)
          refine lv_iload hx hb dX9_stateOf_36 (lv_at hl 2 rfl) ?_
          refine lv_iload hx hb dX9_stateOf_38 (lv_at hl 1 rfl) ?_
          refine lv_iload_n hx hb dX9_stateOf_40 rfl (lv_at hl 5 rfl) ?_
          refine lv_iconst (v := 1) hx hb dX9_stateOf_41 (by decide) ?_
          refine lv_isub hx hb dX9_stateOf_42 ?_
          refine lv_topi (fun v_87 ev_87 => ?_)
          have hv_87 : v_87.toInt = p1.toInt - 1 := by rw [ev_87]; exact (iv_sub (by omega) (by omega)).trans (by omega)
          clear ev_87
          refine lv_icmp_eq (tgt := 57) hx hb dX9_stateOf_43 (by decide) (fun c_88 => ?_) (fun c_88 => ?_)
          · skip
            have ic_88 := iv_eq c_88
            refine lv_iconst (v := 1) hx hb dX9_stateOf_57 (by decide) ?_
            refine lv_goto (tgt := 62) hx hb dX9_stateOf_58 (by decide) ?_
            refine lv_iand hx hb dX9_stateOf_62 ?_
            refine lv_topi (fun v_89 ev_89 => ?_)
            have hv_89 : 0 ≤ v_89.toInt ∧ v_89.toInt ≤ 1 := by rw [ev_89]; exact iv_and01 (by omega) (by omega) (by omega) (by omega)
            clear ev_89
            refine lv_istore (lv' := [(5, .int v_89), (4, .int v_86), (6, .int l6_9), (0, .ref o), (1, .int p0), (2, .int p1), (3, .int p2)]) hx hb dX9_stateOf_63 hl (by decide) rfl (fun ls hl => ?_)
            obtain ⟨x_90, ex_90⟩ : ∃ z : Int32, z = l6_9 + (1) := ⟨_, rfl⟩
            refine lv_iinc (v := x_90) (lv' := [(6, .int x_90), (5, .int v_89), (4, .int v_86), (0, .ref o), (1, .int p0), (2, .int p1), (3, .int p2)]) hx hb dX9_stateOf_65 hl (k := 2) rfl (by rw [ex_90]; rfl) (by decide) rfl (fun ls hl => ?_)
            have hx_90 : x_90.toInt = l6_9.toInt + (1) := by rw [ex_90]; exact (iv_add (by omega) (by omega)).trans (by omega)
            clear ex_90
            refine lv_goto (tgt := 9) hx hb dX9_stateOf_68 (by decide) ?_
            exact ih9 x_90 v_89 v_86 _ (by omega) (by omega) (by omega) (by omega) (by omega) (by omega) (by omega) (lv_sub hl [0, 1, 2, 3, 4, 5, 6] rfl)
          · skip
            have ic_88 := iv_ne c_88
            refine lv_aload_n hx hb dX9_stateOf_46 rfl (lv_at hl 3 rfl) ?_
            refine lv_iload_n hx hb dX9_stateOf_47 rfl (lv_at hl 4 rfl) ?_
            refine lv_iload hx hb dX9_stateOf_48 (lv_at hl 1 rfl) ?_
            refine lv_iadd hx hb dX9_stateOf_50 ?_
            refine lv_topi (fun v_91 ev_91 => ?_)
            have hv_91 : v_91.toInt = p0.toInt + l6_9.toInt := by rw [ev_91]; exact (iv_add (by omega) (by omega)).trans (by omega)
            clear ev_91
            refine vp_callSi (va_Run.run (va_runV (As := [.int v_91]) (rest := [.int l5_9]) ⟨hx, hb, hml, hown, hts⟩ (v_X9_byteIn l dC dI o c kc st lg ai al v_91 (by omega) (by omega)) (cwV 1 hts gX9_stateOf_X9_byteIn rfl rfl rfl (by decide +kernel) ⟨Nat.le_of_ble_eq_true rfl, Nat.le_of_ble_eq_true rfl⟩) ⟨fun a U g mk q => by obtain ⟨q0, qP, qK⟩ := q; exact ⟨q0, qP, va_K.moved (u := U) (U := U.calling g mk a) (Vm.Alike.refl U.vm) qK⟩, va_recv hK hP (ci := 11) (q := (RX9, TX9, 38)) rfl (q0 := 0) rfl, fun U hU hW => ⟨rfl, by rw [hU]; exact hP, va_K.moved hW.alike hK⟩⟩ rfl rfl hl.1 rfl (lv_room (Nat.le_of_ble_eq_true rfl)) dX9_stateOf_51 ⟨Nat.le_of_ble_eq_true rfl, Nat.le_of_ble_eq_true rfl⟩)) (fun r_92 er_92 => ?_)
            obtain ⟨k_93, k_94, k_95⟩ := er_92
            refine lv_if_ne (tgt := 61) hx hb dX9_stateOf_54 (by decide) (fun c_96 => ?_) (fun c_96 => ?_)
            · skip
              have ic_96 := iv_ne c_96
              refine lv_iconst (v := 0) hx hb dX9_stateOf_61 (by decide) ?_
              refine lv_iand hx hb dX9_stateOf_62 ?_
              refine lv_topi (fun v_97 ev_97 => ?_)
              have hv_97 : 0 ≤ v_97.toInt ∧ v_97.toInt ≤ 1 := by rw [ev_97]; exact iv_and01 (by omega) (by omega) (by omega) (by omega)
              clear ev_97
              refine lv_istore (lv' := [(5, .int v_97), (4, .int v_86), (6, .int l6_9), (0, .ref o), (1, .int p0), (2, .int p1), (3, .int p2)]) hx hb dX9_stateOf_63 hl (by decide) rfl (fun ls hl => ?_)
              obtain ⟨x_98, ex_98⟩ : ∃ z : Int32, z = l6_9 + (1) := ⟨_, rfl⟩
              refine lv_iinc (v := x_98) (lv' := [(6, .int x_98), (5, .int v_97), (4, .int v_86), (0, .ref o), (1, .int p0), (2, .int p1), (3, .int p2)]) hx hb dX9_stateOf_65 hl (k := 2) rfl (by rw [ex_98]; rfl) (by decide) rfl (fun ls hl => ?_)
              have hx_98 : x_98.toInt = l6_9.toInt + (1) := by rw [ex_98]; exact (iv_add (by omega) (by omega)).trans (by omega)
              clear ex_98
              refine lv_goto (tgt := 9) hx hb dX9_stateOf_68 (by decide) ?_
              exact ih9 x_98 v_97 v_86 _ (by omega) (by omega) (by omega) (by omega) (by omega) (by omega) (by omega) (lv_sub hl [0, 1, 2, 3, 4, 5, 6] rfl)
            · skip
              have ic_96 := iv_eq c_96
              refine lv_iconst (v := 1) hx hb dX9_stateOf_57 (by decide) ?_
              refine lv_goto (tgt := 62) hx hb dX9_stateOf_58 (by decide) ?_
              refine lv_iand hx hb dX9_stateOf_62 ?_
              refine lv_topi (fun v_99 ev_99 => ?_)
              have hv_99 : 0 ≤ v_99.toInt ∧ v_99.toInt ≤ 1 := by rw [ev_99]; exact iv_and01 (by omega) (by omega) (by omega) (by omega)
              clear ev_99
              refine lv_istore (lv' := [(5, .int v_99), (4, .int v_86), (6, .int l6_9), (0, .ref o), (1, .int p0), (2, .int p1), (3, .int p2)]) hx hb dX9_stateOf_63 hl (by decide) rfl (fun ls hl => ?_)
              obtain ⟨x_100, ex_100⟩ : ∃ z : Int32, z = l6_9 + (1) := ⟨_, rfl⟩
              refine lv_iinc (v := x_100) (lv' := [(6, .int x_100), (5, .int v_99), (4, .int v_86), (0, .ref o), (1, .int p0), (2, .int p1), (3, .int p2)]) hx hb dX9_stateOf_65 hl (k := 2) rfl (by rw [ex_100]; rfl) (by decide) rfl (fun ls hl => ?_)
              have hx_100 : x_100.toInt = l6_9.toInt + (1) := by rw [ex_100]; exact (iv_add (by omega) (by omega)).trans (by omega)
              clear ex_100
              refine lv_goto (tgt := 9) hx hb dX9_stateOf_68 (by decide) ?_
              exact ih9 x_100 v_99 v_86 _ (by omega) (by omega) (by omega) (by omega) (by omega) (by omega) (by omega) (lv_sub hl [0, 1, 2, 3, 4, 5, 6] rfl)
        · skip
          have ic_85 := iv_eq c_85
          refine lv_iconst (v := 1) hx hb dX9_stateOf_28 (by decide) ?_
          refine lv_goto (tgt := 33) hx hb dX9_stateOf_29 (by decide) ?_
          refine lv_iand hx hb dX9_stateOf_33 ?_
          refine lv_topi (fun v_101 ev_101 => ?_)
          have hv_101 : 0 ≤ v_101.toInt ∧ v_101.toInt ≤ 1 := by rw [ev_101]; exact iv_and01 (by omega) (by omega) (by omega) (by omega)
          clear ev_101
          refine lv_istore (lv' := [(4, .int v_101), (6, .int l6_9), (5, .int l5_9), (0, .ref o), (1, .int p0), (2, .int p1), (3, .int p2)]) hx hb dX9_stateOf_34 hl (by decide) rfl (fun ls hl => ?_)
          refine lv_iload hx hb dX9_stateOf_36 (lv_at hl 2 rfl) ?_
          refine lv_iload hx hb dX9_stateOf_38 (lv_at hl 1 rfl) ?_
          refine lv_iload_n hx hb dX9_stateOf_40 rfl (lv_at hl 5 rfl) ?_
          refine lv_iconst (v := 1) hx hb dX9_stateOf_41 (by decide) ?_
          refine lv_isub hx hb dX9_stateOf_42 ?_
          refine lv_topi (fun v_102 ev_102 => ?_)
          have hv_102 : v_102.toInt = p1.toInt - 1 := by rw [ev_102]; exact (iv_sub (by omega) (by omega)).trans (by omega)
          clear ev_102
          refine lv_icmp_eq (tgt := 57) hx hb dX9_stateOf_43 (by decide) (fun c_103 => ?_) (fun c_103 => ?_)
          · skip
            have ic_103 := iv_eq c_103
            refine lv_iconst (v := 1) hx hb dX9_stateOf_57 (by decide) ?_
            refine lv_goto (tgt := 62) hx hb dX9_stateOf_58 (by decide) ?_
            refine lv_iand hx hb dX9_stateOf_62 ?_
            refine lv_topi (fun v_104 ev_104 => ?_)
            have hv_104 : 0 ≤ v_104.toInt ∧ v_104.toInt ≤ 1 := by rw [ev_104]; exact iv_and01 (by omega) (by omega) (by omega) (by omega)
            clear ev_104
            refine lv_istore (lv' := [(5, .int v_104), (4, .int v_101), (6, .int l6_9), (0, .ref o), (1, .int p0), (2, .int p1), (3, .int p2)]) hx hb dX9_stateOf_63 hl (by decide) rfl (fun ls hl => ?_)
            obtain ⟨x_105, ex_105⟩ : ∃ z : Int32, z = l6_9 + (1) := ⟨_, rfl⟩
            refine lv_iinc (v := x_105) (lv' := [(6, .int x_105), (5, .int v_104), (4, .int v_101), (0, .ref o), (1, .int p0), (2, .int p1), (3, .int p2)]) hx hb dX9_stateOf_65 hl (k := 2) rfl (by rw [ex_105]; rfl) (by decide) rfl (fun ls hl => ?_)
            have hx_105 : x_105.toInt = l6_9.toInt + (1) := by rw [ex_105]; exact (iv_add (by omega) (by omega)).trans (by omega)
            clear ex_105
            refine lv_goto (tgt := 9) hx hb dX9_stateOf_68 (by decide) ?_
            exact ih9 x_105 v_104 v_101 _ (by omega) (by omega) (by omega) (by omega) (by omega) (by omega) (by omega) (lv_sub hl [0, 1, 2, 3, 4, 5, 6] rfl)
          · skip
            have ic_103 := iv_ne c_103
            refine lv_aload_n hx hb dX9_stateOf_46 rfl (lv_at hl 3 rfl) ?_
            refine lv_iload_n hx hb dX9_stateOf_47 rfl (lv_at hl 4 rfl) ?_
            refine lv_iload hx hb dX9_stateOf_48 (lv_at hl 1 rfl) ?_
            refine lv_iadd hx hb dX9_stateOf_50 ?_
            refine lv_topi (fun v_106 ev_106 => ?_)
            have hv_106 : v_106.toInt = p0.toInt + l6_9.toInt := by rw [ev_106]; exact (iv_add (by omega) (by omega)).trans (by omega)
            clear ev_106
            refine vp_callSi (va_Run.run (va_runV (As := [.int v_106]) (rest := [.int l5_9]) ⟨hx, hb, hml, hown, hts⟩ (v_X9_byteIn l dC dI o c kc st lg ai al v_106 (by omega) (by omega)) (cwV 1 hts gX9_stateOf_X9_byteIn rfl rfl rfl (by decide +kernel) ⟨Nat.le_of_ble_eq_true rfl, Nat.le_of_ble_eq_true rfl⟩) ⟨fun a U g mk q => by obtain ⟨q0, qP, qK⟩ := q; exact ⟨q0, qP, va_K.moved (u := U) (U := U.calling g mk a) (Vm.Alike.refl U.vm) qK⟩, va_recv hK hP (ci := 11) (q := (RX9, TX9, 38)) rfl (q0 := 0) rfl, fun U hU hW => ⟨rfl, by rw [hU]; exact hP, va_K.moved hW.alike hK⟩⟩ rfl rfl hl.1 rfl (lv_room (Nat.le_of_ble_eq_true rfl)) dX9_stateOf_51 ⟨Nat.le_of_ble_eq_true rfl, Nat.le_of_ble_eq_true rfl⟩)) (fun r_107 er_107 => ?_)
            obtain ⟨k_108, k_109, k_110⟩ := er_107
            refine lv_if_ne (tgt := 61) hx hb dX9_stateOf_54 (by decide) (fun c_111 => ?_) (fun c_111 => ?_)
            · skip
              have ic_111 := iv_ne c_111
              refine lv_iconst (v := 0) hx hb dX9_stateOf_61 (by decide) ?_
              refine lv_iand hx hb dX9_stateOf_62 ?_
              refine lv_topi (fun v_112 ev_112 => ?_)
              have hv_112 : 0 ≤ v_112.toInt ∧ v_112.toInt ≤ 1 := by rw [ev_112]; exact iv_and01 (by omega) (by omega) (by omega) (by omega)
              clear ev_112
              refine lv_istore (lv' := [(5, .int v_112), (4, .int v_101), (6, .int l6_9), (0, .ref o), (1, .int p0), (2, .int p1), (3, .int p2)]) hx hb dX9_stateOf_63 hl (by decide) rfl (fun ls hl => ?_)
              obtain ⟨x_113, ex_113⟩ : ∃ z : Int32, z = l6_9 + (1) := ⟨_, rfl⟩
              refine lv_iinc (v := x_113) (lv' := [(6, .int x_113), (5, .int v_112), (4, .int v_101), (0, .ref o), (1, .int p0), (2, .int p1), (3, .int p2)]) hx hb dX9_stateOf_65 hl (k := 2) rfl (by rw [ex_113]; rfl) (by decide) rfl (fun ls hl => ?_)
              have hx_113 : x_113.toInt = l6_9.toInt + (1) := by rw [ex_113]; exact (iv_add (by omega) (by omega)).trans (by omega)
              clear ex_113
              refine lv_goto (tgt := 9) hx hb dX9_stateOf_68 (by decide) ?_
              exact ih9 x_113 v_112 v_101 _ (by omega) (by omega) (by omega) (by omega) (by omega) (by omega) (by omega) (lv_sub hl [0, 1, 2, 3, 4, 5, 6] rfl)
            · skip
              have ic_111 := iv_eq c_111
              refine lv_iconst (v := 1) hx hb dX9_stateOf_57 (by decide) ?_
              refine lv_goto (tgt := 62) hx hb dX9_stateOf_58 (by decide) ?_
              refine lv_iand hx hb dX9_stateOf_62 ?_
              refine lv_topi (fun v_114 ev_114 => ?_)
              have hv_114 : 0 ≤ v_114.toInt ∧ v_114.toInt ≤ 1 := by rw [ev_114]; exact iv_and01 (by omega) (by omega) (by omega) (by omega)
              clear ev_114
              refine lv_istore (lv' := [(5, .int v_114), (4, .int v_101), (6, .int l6_9), (0, .ref o), (1, .int p0), (2, .int p1), (3, .int p2)]) hx hb dX9_stateOf_63 hl (by decide) rfl (fun ls hl => ?_)
              obtain ⟨x_115, ex_115⟩ : ∃ z : Int32, z = l6_9 + (1) := ⟨_, rfl⟩
              refine lv_iinc (v := x_115) (lv' := [(6, .int x_115), (5, .int v_114), (4, .int v_101), (0, .ref o), (1, .int p0), (2, .int p1), (3, .int p2)]) hx hb dX9_stateOf_65 hl (k := 2) rfl (by rw [ex_115]; rfl) (by decide) rfl (fun ls hl => ?_)
              have hx_115 : x_115.toInt = l6_9.toInt + (1) := by rw [ex_115]; exact (iv_add (by omega) (by omega)).trans (by omega)
              clear ex_115
              refine lv_goto (tgt := 9) hx hb dX9_stateOf_68 (by decide) ?_
              exact ih9 x_115 v_114 v_101 _ (by omega) (by omega) (by omega) (by omega) (by omega) (by omega) (by omega) (lv_sub hl [0, 1, 2, 3, 4, 5, 6] rfl)
  exact loop9 ((p1.toInt - 0 : Int).toNat + 1) (0 : Int32) (1 : Int32) (1 : Int32) _ (by omega) (by omega) (by omega) (by omega) (by omega) (by omega) (by omega) (lv_sub hl [0, 1, 2, 3, 4, 5, 6] rfl)

set_option maxHeartbeats 4000000 in
set_option maxRecDepth 100000 in
theorem v_X9_rowState (l : Launch) (dC : Nat → ClassId) (dI : Nat → Nat → Nat) (o : Nat) (c : Nat → Nat) (kc : Nat → ClassId) (st : Nat → Int32) (lg : Nat → Int64) (ai : Nat → Nat → Int32) (al : Nat → Nat → Int64) (p0 : Int32) (hf7a : 0 ≤ (st 7).toInt) (hf7b : (st 7).toInt ≤ 1) (hq0 : 0 ≤ p0.toInt) (hq1 : p0.toInt ≤ 127) : Met l yX9_rowState wsX9_rowState ({ frames := 4, cells := 0, slots := 0, locals := 93 }) (va_Pc [.ref o, .int p0] (fun U => va_P (dC, dI) vwCl (rw_W o c kc st lg ai al) U.heap ∧ va_K (dC, dI) vwCl (rw_T kc) U)) (vp_Si (fun r => (0 ≤ r.toInt) ∧ (r.toInt ≤ 3))) 0 0 (fun _ => False) := by
  refine Met.ofW (cc := cX9_rowState) (maxL := 2) (ret := (some .int)) (by decide) rfl ?_
  intro p e s m args below meth cM s₁ B hml hv
  obtain ⟨rfl, hP, hK⟩ := hv
  have hx := B.exec
  have hb := B.bytes
  have hr := B.returns
  have hts := atoms_spec (ws := wsX9_rowState) B.pre
  have hown : s.vm.findClass RX9 = some m.cls := findClass_of_methodNamed B.named
  have hl := lv_entry ([.ref o, .int p0]) (n := 2) (Nat.le_of_ble_eq_true rfl)
  rw [lg_entry_eq]
  generalize (lg_sl ([.ref o, .int p0]) ++ List.replicate (2 - (lg_sl ([.ref o, .int p0])).length) Slot.unset).toArray = ls at hl ⊢
  have hl : lv_has ls 2 [(0, .ref o), (1, .int p0)] := hl
  have z_2 : (2 : Int32).toInt = 2 := by decide
  have z_32 : (32 : Int32).toInt = 32 := by decide
  have hin9 : ∀ w ∈ u_ws RX9 TX9 38, w ∈ wsX9_rowState := by decide +kernel
  refine lv_aload_n hx hb dX9_rowState_0 rfl (lv_at hl 0 rfl) ?_
  refine lv_aload_n hx hb dX9_rowState_1 rfl (lv_at hl 0 rfl) ?_
  refine lv_aload_n hx hb dX9_rowState_2 rfl (lv_at hl 0 rfl) ?_
  refine va_get (D := (dC, dI)) (ci := 11) (v := .int (st 7)) (C := RX9) (T := TX9) (N := 38) hx hb hts hin9 hown hK hP 0 rfl rfl 7 (by decide) (hts (.fieldLink RX9 76 "BlockLogModel" "area" "I") (by decide +kernel)) (fun _ h9 => h9) rfl dX9_rowState_3 ?_
  refine lv_iload_n hx hb dX9_rowState_6 rfl (lv_at hl 1 rfl) ?_
  refine vp_callSi (va_Run.run (va_runV (As := [.int (st 7), .int p0]) (rest := [.ref o]) ⟨hx, hb, hml, hown, hts⟩ (v_X9_rowPlace l dC dI o c kc st lg ai al (st 7) p0 (by omega) (by omega) (by omega) (by omega)) (cwV 2 hts gX9_rowState_X9_rowPlace rfl rfl rfl (by decide +kernel) ⟨Nat.le_of_ble_eq_true rfl, Nat.le_of_ble_eq_true rfl⟩) ⟨fun a U g mk q => by obtain ⟨q0, qP, qK⟩ := q; exact ⟨q0, qP, va_K.moved (u := U) (U := U.calling g mk a) (Vm.Alike.refl U.vm) qK⟩, va_recv hK hP (ci := 11) (q := (RX9, TX9, 38)) rfl (q0 := 0) rfl, fun U hU hW => ⟨rfl, by rw [hU]; exact hP, va_K.moved hW.alike hK⟩⟩ rfl rfl hl.1 rfl (lv_room (Nat.le_of_ble_eq_true rfl)) dX9_rowState_7 ⟨Nat.le_of_ble_eq_true rfl, Nat.le_of_ble_eq_true rfl⟩)) (fun r_1 er_1 => ?_)
  have k_2 := er_1
  refine lv_bipush (v := 32) hx hb dX9_rowState_10 (by decide) ?_
  refine lv_iconst (v := 2) hx hb dX9_rowState_12 (by decide) ?_
  refine vp_callSi (va_Run.run (va_runV (As := [.int r_1, .int (32 : Int32), .int (2 : Int32)]) (rest := []) ⟨hx, hb, hml, hown, hts⟩ (v_X9_stateOf l dC dI o c kc st lg ai al r_1 (32 : Int32) (2 : Int32) (by omega) (by omega) (by omega) (by omega)) (cwV 3 hts gX9_rowState_X9_stateOf rfl rfl rfl (by decide +kernel) ⟨Nat.le_of_ble_eq_true rfl, Nat.le_of_ble_eq_true rfl⟩) ⟨fun a U g mk q => by obtain ⟨q0, qP, qK⟩ := q; exact ⟨q0, qP, va_K.moved (u := U) (U := U.calling g mk a) (Vm.Alike.refl U.vm) qK⟩, va_recv hK hP (ci := 11) (q := (RX9, TX9, 38)) rfl (q0 := 0) rfl, fun U hU hW => ⟨rfl, by rw [hU]; exact hP, va_K.moved hW.alike hK⟩⟩ rfl rfl hl.1 rfl (lv_room (Nat.le_of_ble_eq_true rfl)) dX9_rowState_13 ⟨Nat.le_of_ble_eq_true rfl, Nat.le_of_ble_eq_true rfl⟩)) (fun r_3 er_3 => ?_)
  obtain ⟨k_4, k_5⟩ := er_3
  exact W.iret hx hb hr (fun t ht hW => ⟨_, rfl, ⟨(by omega), (by omega)⟩, ht⟩) (fun q h => by cases h) dX9_rowState_16

set_option maxHeartbeats 4000000 in
set_option maxRecDepth 100000 in
theorem v_X9_pageState (l : Launch) (dC : Nat → ClassId) (dI : Nat → Nat → Nat) (o : Nat) (c : Nat → Nat) (kc : Nat → ClassId) (st : Nat → Int32) (lg : Nat → Int64) (ai : Nat → Nat → Int32) (al : Nat → Nat → Int64) (p0 : Int32) (hq0 : 0 ≤ p0.toInt) (hq1 : p0.toInt < 65536) : Met l yX9_pageState wsX9_pageState ({ frames := 4, cells := 0, slots := 0, locals := 93 }) (va_Pc [.ref o, .int p0] (fun U => va_P (dC, dI) vwCl (rw_W o c kc st lg ai al) U.heap ∧ va_K (dC, dI) vwCl (rw_T kc) U)) (vp_Si (fun r => (0 ≤ r.toInt) ∧ (r.toInt ≤ 3))) 0 0 (fun _ => False) := by
  refine Met.ofW (cc := cX9_pageState) (maxL := 2) (ret := (some .int)) (by decide) rfl ?_
  intro p e s m args below meth cM s₁ B hml hv
  obtain ⟨rfl, hP, hK⟩ := hv
  have hx := B.exec
  have hb := B.bytes
  have hr := B.returns
  have hts := atoms_spec (ws := wsX9_pageState) B.pre
  have hown : s.vm.findClass RX9 = some m.cls := findClass_of_methodNamed B.named
  have hl := lv_entry ([.ref o, .int p0]) (n := 2) (Nat.le_of_ble_eq_true rfl)
  rw [lg_entry_eq]
  generalize (lg_sl ([.ref o, .int p0]) ++ List.replicate (2 - (lg_sl ([.ref o, .int p0])).length) Slot.unset).toArray = ls at hl ⊢
  have hl : lv_has ls 2 [(0, .ref o), (1, .int p0)] := hl
  have z_3 : (3 : Int32).toInt = 3 := by decide
  have z_26 : (26 : Int32).toInt = 26 := by decide
  refine lv_aload_n hx hb dX9_pageState_0 rfl (lv_at hl 0 rfl) ?_
  refine lv_aload_n hx hb dX9_pageState_1 rfl (lv_at hl 0 rfl) ?_
  refine lv_iload_n hx hb dX9_pageState_2 rfl (lv_at hl 1 rfl) ?_
  refine vp_callSi (va_Run.run (va_runV (As := [.int p0]) (rest := [.ref o]) ⟨hx, hb, hml, hown, hts⟩ (v_X9_pagePlace l dC dI o c kc st lg ai al p0 (by omega) (by omega)) (cwV 1 hts gX9_pageState_X9_pagePlace rfl rfl rfl (by decide +kernel) ⟨Nat.le_of_ble_eq_true rfl, Nat.le_of_ble_eq_true rfl⟩) ⟨fun a U g mk q => by obtain ⟨q0, qP, qK⟩ := q; exact ⟨q0, qP, va_K.moved (u := U) (U := U.calling g mk a) (Vm.Alike.refl U.vm) qK⟩, va_recv hK hP (ci := 11) (q := (RX9, TX9, 38)) rfl (q0 := 0) rfl, fun U hU hW => ⟨rfl, by rw [hU]; exact hP, va_K.moved hW.alike hK⟩⟩ rfl rfl hl.1 rfl (lv_room (Nat.le_of_ble_eq_true rfl)) dX9_pageState_3 ⟨Nat.le_of_ble_eq_true rfl, Nat.le_of_ble_eq_true rfl⟩)) (fun r_1 er_1 => ?_)
  have k_2 := er_1
  refine lv_bipush (v := 26) hx hb dX9_pageState_6 (by decide) ?_
  refine lv_iconst (v := 3) hx hb dX9_pageState_8 (by decide) ?_
  refine vp_callSi (va_Run.run (va_runV (As := [.int r_1, .int (26 : Int32), .int (3 : Int32)]) (rest := []) ⟨hx, hb, hml, hown, hts⟩ (v_X9_stateOf l dC dI o c kc st lg ai al r_1 (26 : Int32) (3 : Int32) (by omega) (by omega) (by omega) (by omega)) (cwV 3 hts gX9_pageState_X9_stateOf rfl rfl rfl (by decide +kernel) ⟨Nat.le_of_ble_eq_true rfl, Nat.le_of_ble_eq_true rfl⟩) ⟨fun a U g mk q => by obtain ⟨q0, qP, qK⟩ := q; exact ⟨q0, qP, va_K.moved (u := U) (U := U.calling g mk a) (Vm.Alike.refl U.vm) qK⟩, va_recv hK hP (ci := 11) (q := (RX9, TX9, 38)) rfl (q0 := 0) rfl, fun U hU hW => ⟨rfl, by rw [hU]; exact hP, va_K.moved hW.alike hK⟩⟩ rfl rfl hl.1 rfl (lv_room (Nat.le_of_ble_eq_true rfl)) dX9_pageState_9 ⟨Nat.le_of_ble_eq_true rfl, Nat.le_of_ble_eq_true rfl⟩)) (fun r_3 er_3 => ?_)
  obtain ⟨k_4, k_5⟩ := er_3
  exact W.iret hx hb hr (fun t ht hW => ⟨_, rfl, ⟨(by omega), (by omega)⟩, ht⟩) (fun q h => by cases h) dX9_pageState_12

set_option maxHeartbeats 4000000 in
set_option maxRecDepth 100000 in
theorem v_X9_rows (l : Launch) (dC : Nat → ClassId) (dI : Nat → Nat → Nat) (o : Nat) (c : Nat → Nat) (kc : Nat → ClassId) (st : Nat → Int32) (lg : Nat → Int64) (ai : Nat → Nat → Int32) (al : Nat → Nat → Int64)  (hf15a : 0 ≤ (st 15).toInt) (hf15b : (st 15).toInt ≤ 128) : Met l yX9_rows wsX9_rows ({ frames := 0, cells := 0, slots := 0, locals := 0 }) (va_Pc [.ref o] (fun U => va_P (dC, dI) vwCl (rw_W o c kc st lg ai al) U.heap ∧ va_K (dC, dI) vwCl (rw_T kc) U)) (vp_Si (fun r => (r.toInt = (st 15).toInt))) 0 0 (fun _ => False) := by
  refine Met.ofW (cc := cX9_rows) (maxL := 1) (ret := (some .int)) (by decide) rfl ?_
  intro p e s m args below meth cM s₁ B hml hv
  obtain ⟨rfl, hP, hK⟩ := hv
  have hx := B.exec
  have hb := B.bytes
  have hr := B.returns
  have hts := atoms_spec (ws := wsX9_rows) B.pre
  have hown : s.vm.findClass RX9 = some m.cls := findClass_of_methodNamed B.named
  have hl := lv_entry ([.ref o]) (n := 1) (Nat.le_of_ble_eq_true rfl)
  rw [lg_entry_eq]
  generalize (lg_sl ([.ref o]) ++ List.replicate (1 - (lg_sl ([.ref o])).length) Slot.unset).toArray = ls at hl ⊢
  have hl : lv_has ls 1 [(0, .ref o)] := hl
  have hin9 : ∀ w ∈ u_ws RX9 TX9 38, w ∈ wsX9_rows := by decide +kernel
  refine lv_aload_n hx hb dX9_rows_0 rfl (lv_at hl 0 rfl) ?_
  refine va_get (D := (dC, dI)) (ci := 11) (v := .int (st 15)) (C := RX9) (T := TX9) (N := 38) hx hb hts hin9 hown hK hP 0 rfl rfl 15 (by decide) (hts (.fieldLink RX9 157 "BlockLogModel" "rowsNow" "I") (by decide +kernel)) (fun _ h9 => h9) rfl dX9_rows_1 ?_
  exact W.iret hx hb hr (fun t ht hW => ⟨_, rfl, (by omega), ht⟩) (fun q h => by cases h) dX9_rows_4

set_option maxHeartbeats 4000000 in
set_option maxRecDepth 100000 in
theorem v_X9_countRows (l : Launch) (dC : Nat → ClassId) (dI : Nat → Nat → Nat) (o : Nat) (c : Nat → Nat) (kc : Nat → ClassId) (st : Nat → Int32) (lg : Nat → Int64) (ai : Nat → Nat → Int32) (al : Nat → Nat → Int64)  (hf7a : 0 ≤ (st 7).toInt) (hf7b : (st 7).toInt ≤ 1) : Met l yX9_countRows wsX9_countRows ({ frames := 5, cells := 0, slots := 0, locals := 114 }) (va_Pc [.ref o] (fun U => va_P (dC, dI) vwCl (rw_W o c kc st lg ai al) U.heap ∧ va_K (dC, dI) vwCl (rw_T kc) U)) (vp_Si (fun r => (0 ≤ r.toInt) ∧ (r.toInt ≤ 128))) 0 0 (fun _ => False) := by
  refine Met.ofW (cc := cX9_countRows) (maxL := 2) (ret := (some .int)) (by decide) rfl ?_
  intro p e s m args below meth cM s₁ B hml hv
  obtain ⟨rfl, hP, hK⟩ := hv
  have hx := B.exec
  have hb := B.bytes
  have hr := B.returns
  have hts := atoms_spec (ws := wsX9_countRows) B.pre
  have hown : s.vm.findClass RX9 = some m.cls := findClass_of_methodNamed B.named
  have hl := lv_entry ([.ref o]) (n := 2) (Nat.le_of_ble_eq_true rfl)
  rw [lg_entry_eq]
  generalize (lg_sl ([.ref o]) ++ List.replicate (2 - (lg_sl ([.ref o])).length) Slot.unset).toArray = ls at hl ⊢
  have hl : lv_has ls 2 [(0, .ref o)] := hl
  have z_0 : (0 : Int32).toInt = 0 := by decide
  have z_1 : (1 : Int32).toInt = 1 := by decide
  have z_3 : (3 : Int32).toInt = 3 := by decide
  have z_128 : (128 : Int32).toInt = 128 := by decide
  refine lv_iconst (v := 0) hx hb dX9_countRows_0 (by decide) ?_
  refine lv_istore_n (lv' := [(1, .int (0 : Int32)), (0, .ref o)]) hx hb dX9_countRows_1 rfl hl (by decide) rfl (fun ls hl => ?_)
  have loop2 : ∀ (n : Nat) (l1_2 : Int32) (ls : Array Slot), (0 ≤ l1_2.toInt) → (l1_2.toInt ≤ 128) → (128 - l1_2.toInt : Int).toNat < n → lv_has ls 2 [(1, .int l1_2), (0, .ref o)] → W p l e (headSpec wsX9_countRows ({ frames := 5, cells := 0, slots := 0, locals := 114 })).room s m ([.ref o] : List Value).toArray below meth cM s.heap [] 0 0 (MQ below (vp_Si (fun r => (0 ≤ r.toInt) ∧ (r.toInt ≤ 128))) ([.ref o] : List Value).toArray s 0 0 (fun _ => False)) (F0 m 2 ls []) := by
    intro n
    induction n with
    | zero => intro l1_2 ls if0_2 if1_2 hm; exact absurd hm (Nat.not_lt_zero _)
    | succ n ih2 =>
      intro l1_2 ls if0_2 if1_2 hm2 hl
      refine lv_iload_n hx hb dX9_countRows_2 rfl (lv_at hl 0 rfl) ?_
      refine lv_sipush (v := 128) hx hb dX9_countRows_3 (by decide) ?_
      refine lv_icmp_ge (tgt := 33) hx hb dX9_countRows_6 (by decide) (fun c_1 => ?_) (fun c_1 => ?_)
      · skip
        have ic_1 := iv_le c_1
        refine lv_iload_n hx hb dX9_countRows_33 rfl (lv_at hl 0 rfl) ?_
        exact W.iret hx hb hr (fun t ht hW => ⟨_, rfl, ⟨(by omega), (by omega)⟩, ht⟩) (fun q h => by cases h) dX9_countRows_34
      · skip
        have ic_1 := iv_nle c_1
        refine lv_aload_n hx hb dX9_countRows_9 rfl (lv_at hl 1 rfl) ?_
        refine lv_iload_n hx hb dX9_countRows_10 rfl (lv_at hl 0 rfl) ?_
        refine vp_callSi (va_Run.run (va_runV (As := [.int l1_2]) (rest := []) ⟨hx, hb, hml, hown, hts⟩ (v_X9_rowState l dC dI o c kc st lg ai al l1_2 (show 0 ≤ (st 7).toInt by omega) (show (st 7).toInt ≤ 1 by omega) (by omega) (by omega)) (cwV 1 hts gX9_countRows_X9_rowState rfl rfl rfl (by decide +kernel) ⟨Nat.le_of_ble_eq_true rfl, Nat.le_of_ble_eq_true rfl⟩) ⟨fun a U g mk q => by obtain ⟨q0, qP, qK⟩ := q; exact ⟨q0, qP, va_K.moved (u := U) (U := U.calling g mk a) (Vm.Alike.refl U.vm) qK⟩, va_recv hK hP (ci := 11) (q := (RX9, TX9, 38)) rfl (q0 := 0) rfl, fun U hU hW => ⟨rfl, by rw [hU]; exact hP, va_K.moved hW.alike hK⟩⟩ rfl rfl hl.1 rfl (lv_room (Nat.le_of_ble_eq_true rfl)) dX9_countRows_11 ⟨Nat.le_of_ble_eq_true rfl, Nat.le_of_ble_eq_true rfl⟩)) (fun r_2 er_2 => ?_)
        obtain ⟨k_3, k_4⟩ := er_2
        refine lv_iconst (v := 1) hx hb dX9_countRows_14 (by decide) ?_
        refine lv_icmp_eq (tgt := 27) hx hb dX9_countRows_15 (by decide) (fun c_5 => ?_) (fun c_5 => ?_)
        · skip
          have ic_5 := iv_eq c_5
          obtain ⟨x_6, ex_6⟩ : ∃ z : Int32, z = l1_2 + (1) := ⟨_, rfl⟩
          refine lv_iinc (v := x_6) (lv' := [(1, .int x_6), (0, .ref o)]) hx hb dX9_countRows_27 hl (k := 0) rfl (by rw [ex_6]; rfl) (by decide) rfl (fun ls hl => ?_)
          have hx_6 : x_6.toInt = l1_2.toInt + (1) := by rw [ex_6]; exact (iv_add (by omega) (by omega)).trans (by omega)
          clear ex_6
          refine lv_goto (tgt := 2) hx hb dX9_countRows_30 (by decide) ?_
          exact ih2 x_6 _ (by omega) (by omega) (by omega) (lv_sub hl [0, 1] rfl)
        · skip
          have ic_5 := iv_ne c_5
          refine lv_aload_n hx hb dX9_countRows_18 rfl (lv_at hl 1 rfl) ?_
          refine lv_iload_n hx hb dX9_countRows_19 rfl (lv_at hl 0 rfl) ?_
          refine vp_callSi (va_Run.run (va_runV (As := [.int l1_2]) (rest := []) ⟨hx, hb, hml, hown, hts⟩ (v_X9_rowState l dC dI o c kc st lg ai al l1_2 (show 0 ≤ (st 7).toInt by omega) (show (st 7).toInt ≤ 1 by omega) (by omega) (by omega)) (cwV 1 hts gX9_countRows_X9_rowState rfl rfl rfl (by decide +kernel) ⟨Nat.le_of_ble_eq_true rfl, Nat.le_of_ble_eq_true rfl⟩) ⟨fun a U g mk q => by obtain ⟨q0, qP, qK⟩ := q; exact ⟨q0, qP, va_K.moved (u := U) (U := U.calling g mk a) (Vm.Alike.refl U.vm) qK⟩, va_recv hK hP (ci := 11) (q := (RX9, TX9, 38)) rfl (q0 := 0) rfl, fun U hU hW => ⟨rfl, by rw [hU]; exact hP, va_K.moved hW.alike hK⟩⟩ rfl rfl hl.1 rfl (lv_room (Nat.le_of_ble_eq_true rfl)) dX9_countRows_20 ⟨Nat.le_of_ble_eq_true rfl, Nat.le_of_ble_eq_true rfl⟩)) (fun r_7 er_7 => ?_)
          obtain ⟨k_8, k_9⟩ := er_7
          refine lv_iconst (v := 3) hx hb dX9_countRows_23 (by decide) ?_
          refine lv_icmp_ne (tgt := 33) hx hb dX9_countRows_24 (by decide) (fun c_10 => ?_) (fun c_10 => ?_)
          · skip
            have ic_10 := iv_ne c_10
            refine lv_iload_n hx hb dX9_countRows_33 rfl (lv_at hl 0 rfl) ?_
            exact W.iret hx hb hr (fun t ht hW => ⟨_, rfl, ⟨(by omega), (by omega)⟩, ht⟩) (fun q h => by cases h) dX9_countRows_34
          · skip
            have ic_10 := iv_eq c_10
            obtain ⟨x_11, ex_11⟩ : ∃ z : Int32, z = l1_2 + (1) := ⟨_, rfl⟩
            refine lv_iinc (v := x_11) (lv' := [(1, .int x_11), (0, .ref o)]) hx hb dX9_countRows_27 hl (k := 0) rfl (by rw [ex_11]; rfl) (by decide) rfl (fun ls hl => ?_)
            have hx_11 : x_11.toInt = l1_2.toInt + (1) := by rw [ex_11]; exact (iv_add (by omega) (by omega)).trans (by omega)
            clear ex_11
            refine lv_goto (tgt := 2) hx hb dX9_countRows_30 (by decide) ?_
            exact ih2 x_11 _ (by omega) (by omega) (by omega) (lv_sub hl [0, 1] rfl)
  exact loop2 ((128 - 0 : Int).toNat + 1) (0 : Int32) _ (by omega) (by omega) (by omega) (lv_sub hl [0, 1] rfl)

set_option maxHeartbeats 4000000 in
set_option maxRecDepth 100000 in
theorem v_X9_badRows (l : Launch) (dC : Nat → ClassId) (dI : Nat → Nat → Nat) (o : Nat) (c : Nat → Nat) (kc : Nat → ClassId) (st : Nat → Int32) (lg : Nat → Int64) (ai : Nat → Nat → Int32) (al : Nat → Nat → Int64)  (hf7a : 0 ≤ (st 7).toInt) (hf7b : (st 7).toInt ≤ 1) (hf15a : 0 ≤ (st 15).toInt) (hf15b : (st 15).toInt ≤ 128) : Met l yX9_badRows wsX9_badRows ({ frames := 5, cells := 0, slots := 0, locals := 114 }) (va_Pc [.ref o] (fun U => va_P (dC, dI) vwCl (rw_W o c kc st lg ai al) U.heap ∧ va_K (dC, dI) vwCl (rw_T kc) U)) (vp_Si (fun r => (0 ≤ r.toInt) ∧ (r.toInt ≤ 128))) 0 0 (fun _ => False) := by
  refine Met.ofW (cc := cX9_badRows) (maxL := 4) (ret := (some .int)) (by decide) rfl ?_
  intro p e s m args below meth cM s₁ B hml hv
  obtain ⟨rfl, hP, hK⟩ := hv
  have hx := B.exec
  have hb := B.bytes
  have hr := B.returns
  have hts := atoms_spec (ws := wsX9_badRows) B.pre
  have hown : s.vm.findClass RX9 = some m.cls := findClass_of_methodNamed B.named
  have hl := lv_entry ([.ref o]) (n := 4) (Nat.le_of_ble_eq_true rfl)
  rw [lg_entry_eq]
  generalize (lg_sl ([.ref o]) ++ List.replicate (4 - (lg_sl ([.ref o])).length) Slot.unset).toArray = ls at hl ⊢
  have hl : lv_has ls 4 [(0, .ref o)] := hl
  have z_0 : (0 : Int32).toInt = 0 := by decide
  have z_1 : (1 : Int32).toInt = 1 := by decide
  have z_3 : (3 : Int32).toInt = 3 := by decide
  refine lv_iconst (v := 0) hx hb dX9_badRows_0 (by decide) ?_
  refine lv_istore_n (lv' := [(1, .int (0 : Int32)), (0, .ref o)]) hx hb dX9_badRows_1 rfl hl (by decide) rfl (fun ls hl => ?_)
  refine lv_aload_n hx hb dX9_badRows_2 rfl (lv_at hl 1 rfl) ?_
  refine vp_callSi (va_Run.run (va_runV (As := []) (rest := []) ⟨hx, hb, hml, hown, hts⟩ (v_X9_rows l dC dI o c kc st lg ai al  (show 0 ≤ (st 15).toInt by omega) (show (st 15).toInt ≤ 128 by omega)) (cwV 0 hts gX9_badRows_X9_rows rfl rfl rfl (by decide +kernel) ⟨Nat.le_of_ble_eq_true rfl, Nat.le_of_ble_eq_true rfl⟩) ⟨fun a U g mk q => by obtain ⟨q0, qP, qK⟩ := q; exact ⟨q0, qP, va_K.moved (u := U) (U := U.calling g mk a) (Vm.Alike.refl U.vm) qK⟩, va_recv hK hP (ci := 11) (q := (RX9, TX9, 38)) rfl (q0 := 0) rfl, fun U hU hW => ⟨rfl, by rw [hU]; exact hP, va_K.moved hW.alike hK⟩⟩ rfl rfl hl.1 rfl (lv_room (Nat.le_of_ble_eq_true rfl)) dX9_badRows_3 ⟨Nat.le_of_ble_eq_true rfl, Nat.le_of_ble_eq_true rfl⟩)) (fun r_1 er_1 => ?_)
  have k_2 := er_1
  refine lv_istore_n (lv' := [(2, .int r_1), (1, .int (0 : Int32)), (0, .ref o)]) hx hb dX9_badRows_6 rfl hl (by decide) rfl (fun ls hl => ?_)
  refine lv_iconst (v := 0) hx hb dX9_badRows_7 (by decide) ?_
  refine lv_istore_n (lv' := [(3, .int (0 : Int32)), (2, .int r_1), (1, .int (0 : Int32)), (0, .ref o)]) hx hb dX9_badRows_8 rfl hl (by decide) rfl (fun ls hl => ?_)
  have loop9 : ∀ (n : Nat) (l3_9 : Int32) (l1_9 : Int32) (ls : Array Slot), (0 ≤ l3_9.toInt) → (l3_9.toInt ≤ r_1.toInt) → (0 ≤ l1_9.toInt) → (l1_9.toInt ≤ l3_9.toInt) → (r_1.toInt - l3_9.toInt : Int).toNat < n → lv_has ls 4 [(3, .int l3_9), (2, .int r_1), (1, .int l1_9), (0, .ref o)] → W p l e (headSpec wsX9_badRows ({ frames := 5, cells := 0, slots := 0, locals := 114 })).room s m ([.ref o] : List Value).toArray below meth cM s.heap [] 0 0 (MQ below (vp_Si (fun r => (0 ≤ r.toInt) ∧ (r.toInt ≤ 128))) ([.ref o] : List Value).toArray s 0 0 (fun _ => False)) (F0 m 9 ls []) := by
    intro n
    induction n with
    | zero => intro l3_9 l1_9 ls if0_9 if1_9 if2_9 if3_9 hm; exact absurd hm (Nat.not_lt_zero _)
    | succ n ih9 =>
      intro l3_9 l1_9 ls if0_9 if1_9 if2_9 if3_9 hm9 hl
      refine lv_iload_n hx hb dX9_badRows_9 rfl (lv_at hl 0 rfl) ?_
      refine lv_iload_n hx hb dX9_badRows_10 rfl (lv_at hl 1 rfl) ?_
      refine lv_icmp_ge (tgt := 37) hx hb dX9_badRows_11 (by decide) (fun c_3 => ?_) (fun c_3 => ?_)
      · skip
        have ic_3 := iv_le c_3
        refine lv_iload_n hx hb dX9_badRows_37 rfl (lv_at hl 2 rfl) ?_
        exact W.iret hx hb hr (fun t ht hW => ⟨_, rfl, ⟨(by omega), (by omega)⟩, ht⟩) (fun q h => by cases h) dX9_badRows_38
      · skip
        have ic_3 := iv_nle c_3
        refine lv_iload_n hx hb dX9_badRows_14 rfl (lv_at hl 2 rfl) ?_
        refine lv_aload_n hx hb dX9_badRows_15 rfl (lv_at hl 3 rfl) ?_
        refine lv_iload_n hx hb dX9_badRows_16 rfl (lv_at hl 0 rfl) ?_
        refine vp_callSi (va_Run.run (va_runV (As := [.int l3_9]) (rest := [.int l1_9]) ⟨hx, hb, hml, hown, hts⟩ (v_X9_rowState l dC dI o c kc st lg ai al l3_9 (show 0 ≤ (st 7).toInt by omega) (show (st 7).toInt ≤ 1 by omega) (by omega) (by omega)) (cwV 1 hts gX9_badRows_X9_rowState rfl rfl rfl (by decide +kernel) ⟨Nat.le_of_ble_eq_true rfl, Nat.le_of_ble_eq_true rfl⟩) ⟨fun a U g mk q => by obtain ⟨q0, qP, qK⟩ := q; exact ⟨q0, qP, va_K.moved (u := U) (U := U.calling g mk a) (Vm.Alike.refl U.vm) qK⟩, va_recv hK hP (ci := 11) (q := (RX9, TX9, 38)) rfl (q0 := 0) rfl, fun U hU hW => ⟨rfl, by rw [hU]; exact hP, va_K.moved hW.alike hK⟩⟩ rfl rfl hl.1 rfl (lv_room (Nat.le_of_ble_eq_true rfl)) dX9_badRows_17 ⟨Nat.le_of_ble_eq_true rfl, Nat.le_of_ble_eq_true rfl⟩)) (fun r_4 er_4 => ?_)
        obtain ⟨k_5, k_6⟩ := er_4
        refine lv_iconst (v := 3) hx hb dX9_badRows_20 (by decide) ?_
        refine lv_icmp_ne (tgt := 28) hx hb dX9_badRows_21 (by decide) (fun c_7 => ?_) (fun c_7 => ?_)
        · skip
          have ic_7 := iv_ne c_7
          refine lv_iconst (v := 0) hx hb dX9_badRows_28 (by decide) ?_
          refine lv_iadd hx hb dX9_badRows_29 ?_
          refine lv_topi (fun v_8 ev_8 => ?_)
          have hv_8 : v_8.toInt = l1_9.toInt + 0 := by rw [ev_8]; exact (iv_add (by omega) (by omega)).trans (by omega)
          clear ev_8
          refine lv_istore_n (lv' := [(1, .int v_8), (3, .int l3_9), (2, .int r_1), (0, .ref o)]) hx hb dX9_badRows_30 rfl hl (by decide) rfl (fun ls hl => ?_)
          obtain ⟨x_9, ex_9⟩ : ∃ z : Int32, z = l3_9 + (1) := ⟨_, rfl⟩
          refine lv_iinc (v := x_9) (lv' := [(3, .int x_9), (1, .int v_8), (2, .int r_1), (0, .ref o)]) hx hb dX9_badRows_31 hl (k := 1) rfl (by rw [ex_9]; rfl) (by decide) rfl (fun ls hl => ?_)
          have hx_9 : x_9.toInt = l3_9.toInt + (1) := by rw [ex_9]; exact (iv_add (by omega) (by omega)).trans (by omega)
          clear ex_9
          refine lv_goto (tgt := 9) hx hb dX9_badRows_34 (by decide) ?_
          exact ih9 x_9 v_8 _ (by omega) (by omega) (by omega) (by omega) (by omega) (lv_sub hl [0, 2, 1, 3] rfl)
        · skip
          have ic_7 := iv_eq c_7
          refine lv_iconst (v := 1) hx hb dX9_badRows_24 (by decide) ?_
          refine lv_goto (tgt := 29) hx hb dX9_badRows_25 (by decide) ?_
          refine lv_iadd hx hb dX9_badRows_29 ?_
          refine lv_topi (fun v_10 ev_10 => ?_)
          have hv_10 : v_10.toInt = l1_9.toInt + 1 := by rw [ev_10]; exact (iv_add (by omega) (by omega)).trans (by omega)
          clear ev_10
          refine lv_istore_n (lv' := [(1, .int v_10), (3, .int l3_9), (2, .int r_1), (0, .ref o)]) hx hb dX9_badRows_30 rfl hl (by decide) rfl (fun ls hl => ?_)
          obtain ⟨x_11, ex_11⟩ : ∃ z : Int32, z = l3_9 + (1) := ⟨_, rfl⟩
          refine lv_iinc (v := x_11) (lv' := [(3, .int x_11), (1, .int v_10), (2, .int r_1), (0, .ref o)]) hx hb dX9_badRows_31 hl (k := 1) rfl (by rw [ex_11]; rfl) (by decide) rfl (fun ls hl => ?_)
          have hx_11 : x_11.toInt = l3_9.toInt + (1) := by rw [ex_11]; exact (iv_add (by omega) (by omega)).trans (by omega)
          clear ex_11
          refine lv_goto (tgt := 9) hx hb dX9_badRows_34 (by decide) ?_
          exact ih9 x_11 v_10 _ (by omega) (by omega) (by omega) (by omega) (by omega) (lv_sub hl [0, 2, 1, 3] rfl)
  exact loop9 ((r_1.toInt - 0 : Int).toNat + 1) (0 : Int32) (0 : Int32) _ (by omega) (by omega) (by omega) (by omega) (by omega) (lv_sub hl [0, 1, 2, 3] rfl)

set_option maxHeartbeats 4000000 in
set_option maxRecDepth 100000 in
theorem v_X9_kindOf (l : Launch) (dC : Nat → ClassId) (dI : Nat → Nat → Nat) (o : Nat) (c : Nat → Nat) (kc : Nat → ClassId) (st : Nat → Int32) (lg : Nat → Int64) (ai : Nat → Nat → Int32) (al : Nat → Nat → Int64) (p0 : Int32) (hf7a : 0 ≤ (st 7).toInt) (hf7b : (st 7).toInt ≤ 1) (hq0 : -1 ≤ p0.toInt) (hq1 : p0.toInt ≤ 255) : Met l yX9_kindOf wsX9_kindOf ({ frames := 1, cells := 0, slots := 0, locals := 22 }) (va_Pc [.ref o, .int p0] (fun U => va_P (dC, dI) vwCl (rw_W o c kc st lg ai al) U.heap ∧ va_K (dC, dI) vwCl (rw_T kc) U)) (vp_Si (fun r => (r.toInt = (rK (ai 0) (st 7) p0).toInt) ∧ (0 ≤ r.toInt) ∧ (r.toInt ≤ 255))) 0 0 (fun _ => False) := by
  refine Met.ofW (cc := cX9_kindOf) (maxL := 2) (ret := (some .int)) (by decide) rfl ?_
  intro p e s m args below meth cM s₁ B hml hv
  obtain ⟨rfl, hP, hK⟩ := hv
  have hx := B.exec
  have hb := B.bytes
  have hr := B.returns
  have hts := atoms_spec (ws := wsX9_kindOf) B.pre
  have hown : s.vm.findClass RX9 = some m.cls := findClass_of_methodNamed B.named
  have hl := lv_entry ([.ref o, .int p0]) (n := 2) (Nat.le_of_ble_eq_true rfl)
  rw [lg_entry_eq]
  generalize (lg_sl ([.ref o, .int p0]) ++ List.replicate (2 - (lg_sl ([.ref o, .int p0])).length) Slot.unset).toArray = ls at hl ⊢
  have hl : lv_has ls 2 [(0, .ref o), (1, .int p0)] := hl
  have hin9 : ∀ w ∈ u_ws RX9 TX9 38, w ∈ wsX9_kindOf := by decide +kernel
  refine lv_aload_n hx hb dX9_kindOf_0 rfl (lv_at hl 0 rfl) ?_
  refine lv_aload_n hx hb dX9_kindOf_1 rfl (lv_at hl 0 rfl) ?_
  refine lv_aload_n hx hb dX9_kindOf_2 rfl (lv_at hl 0 rfl) ?_
  refine va_get (D := (dC, dI)) (ci := 11) (v := .int (st 7)) (C := RX9) (T := TX9) (N := 38) hx hb hts hin9 hown hK hP 0 rfl rfl 7 (by decide) (hts (.fieldLink RX9 76 "BlockLogModel" "area" "I") (by decide +kernel)) (fun _ h9 => h9) rfl dX9_kindOf_3 ?_
  refine lv_iload_n hx hb dX9_kindOf_6 rfl (lv_at hl 1 rfl) ?_
  refine vp_callSi (va_Run.run (va_runV (As := [.int (st 7), .int p0]) (rest := [.ref o]) ⟨hx, hb, hml, hown, hts⟩ (v_X9_rowPlace l dC dI o c kc st lg ai al (st 7) p0 (by omega) (by omega) (by omega) (by omega)) (cwV 2 hts gX9_kindOf_X9_rowPlace rfl rfl rfl (by decide +kernel) ⟨Nat.le_of_ble_eq_true rfl, Nat.le_of_ble_eq_true rfl⟩) ⟨fun a U g mk q => by obtain ⟨q0, qP, qK⟩ := q; exact ⟨q0, qP, va_K.moved (u := U) (U := U.calling g mk a) (Vm.Alike.refl U.vm) qK⟩, va_recv hK hP (ci := 11) (q := (RX9, TX9, 38)) rfl (q0 := 0) rfl, fun U hU hW => ⟨rfl, by rw [hU]; exact hP, va_K.moved hW.alike hK⟩⟩ rfl rfl hl.1 rfl (lv_room (Nat.le_of_ble_eq_true rfl)) dX9_kindOf_7 ⟨Nat.le_of_ble_eq_true rfl, Nat.le_of_ble_eq_true rfl⟩)) (fun r_1 er_1 => ?_)
  have k_2 := er_1
  refine vp_callSi (va_Run.run (va_runV (As := [.int r_1]) (rest := []) ⟨hx, hb, hml, hown, hts⟩ (v_X9_byteIn l dC dI o c kc st lg ai al r_1 (by omega) (by omega)) (cwV 1 hts gX9_kindOf_X9_byteIn rfl rfl rfl (by decide +kernel) ⟨Nat.le_of_ble_eq_true rfl, Nat.le_of_ble_eq_true rfl⟩) ⟨fun a U g mk q => by obtain ⟨q0, qP, qK⟩ := q; exact ⟨q0, qP, va_K.moved (u := U) (U := U.calling g mk a) (Vm.Alike.refl U.vm) qK⟩, va_recv hK hP (ci := 11) (q := (RX9, TX9, 38)) rfl (q0 := 0) rfl, fun U hU hW => ⟨rfl, by rw [hU]; exact hP, va_K.moved hW.alike hK⟩⟩ rfl rfl hl.1 rfl (lv_room (Nat.le_of_ble_eq_true rfl)) dX9_kindOf_10 ⟨Nat.le_of_ble_eq_true rfl, Nat.le_of_ble_eq_true rfl⟩)) (fun r_3 er_3 => ?_)
  obtain ⟨k_4, k_5, k_6⟩ := er_3
  exact W.iret hx hb hr (fun t ht hW => ⟨_, rfl, ⟨(k_4.trans (by rw [rp_of (a := st 7) (r := p0) (x := r_1) (by omega) (by omega) (by omega) (by omega) (by omega)]; rfl)), (by omega), (by omega)⟩, ht⟩) (fun q h => by cases h) dX9_kindOf_13

set_option maxHeartbeats 4000000 in
set_option maxRecDepth 100000 in
theorem v_X9_aOf (l : Launch) (dC : Nat → ClassId) (dI : Nat → Nat → Nat) (o : Nat) (c : Nat → Nat) (kc : Nat → ClassId) (st : Nat → Int32) (lg : Nat → Int64) (ai : Nat → Nat → Int32) (al : Nat → Nat → Int64) (p0 : Int32) (hf7a : 0 ≤ (st 7).toInt) (hf7b : (st 7).toInt ≤ 1) (hq0 : -1 ≤ p0.toInt) (hq1 : p0.toInt ≤ 255) : Met l yX9_aOf wsX9_aOf ({ frames := 2, cells := 0, slots := 0, locals := 49 }) (va_Pc [.ref o, .int p0] (fun U => va_P (dC, dI) vwCl (rw_W o c kc st lg ai al) U.heap ∧ va_K (dC, dI) vwCl (rw_T kc) U)) (vp_Si (fun r => True)) 0 0 (fun _ => False) := by
  refine Met.ofW (cc := cX9_aOf) (maxL := 2) (ret := (some .int)) (by decide) rfl ?_
  intro p e s m args below meth cM s₁ B hml hv
  obtain ⟨rfl, hP, hK⟩ := hv
  have hx := B.exec
  have hb := B.bytes
  have hr := B.returns
  have hts := atoms_spec (ws := wsX9_aOf) B.pre
  have hown : s.vm.findClass RX9 = some m.cls := findClass_of_methodNamed B.named
  have hl := lv_entry ([.ref o, .int p0]) (n := 2) (Nat.le_of_ble_eq_true rfl)
  rw [lg_entry_eq]
  generalize (lg_sl ([.ref o, .int p0]) ++ List.replicate (2 - (lg_sl ([.ref o, .int p0])).length) Slot.unset).toArray = ls at hl ⊢
  have hl : lv_has ls 2 [(0, .ref o), (1, .int p0)] := hl
  have z_1 : (1 : Int32).toInt = 1 := by decide
  have z_4 : (4 : Int32).toInt = 4 := by decide
  have hin9 : ∀ w ∈ u_ws RX9 TX9 38, w ∈ wsX9_aOf := by decide +kernel
  refine lv_aload_n hx hb dX9_aOf_0 rfl (lv_at hl 0 rfl) ?_
  refine lv_aload_n hx hb dX9_aOf_1 rfl (lv_at hl 0 rfl) ?_
  refine lv_aload_n hx hb dX9_aOf_2 rfl (lv_at hl 0 rfl) ?_
  refine va_get (D := (dC, dI)) (ci := 11) (v := .int (st 7)) (C := RX9) (T := TX9) (N := 38) hx hb hts hin9 hown hK hP 0 rfl rfl 7 (by decide) (hts (.fieldLink RX9 76 "BlockLogModel" "area" "I") (by decide +kernel)) (fun _ h9 => h9) rfl dX9_aOf_3 ?_
  refine lv_iload_n hx hb dX9_aOf_6 rfl (lv_at hl 1 rfl) ?_
  refine vp_callSi (va_Run.run (va_runV (As := [.int (st 7), .int p0]) (rest := [.ref o]) ⟨hx, hb, hml, hown, hts⟩ (v_X9_rowPlace l dC dI o c kc st lg ai al (st 7) p0 (by omega) (by omega) (by omega) (by omega)) (cwV 2 hts gX9_aOf_X9_rowPlace rfl rfl rfl (by decide +kernel) ⟨Nat.le_of_ble_eq_true rfl, Nat.le_of_ble_eq_true rfl⟩) ⟨fun a U g mk q => by obtain ⟨q0, qP, qK⟩ := q; exact ⟨q0, qP, va_K.moved (u := U) (U := U.calling g mk a) (Vm.Alike.refl U.vm) qK⟩, va_recv hK hP (ci := 11) (q := (RX9, TX9, 38)) rfl (q0 := 0) rfl, fun U hU hW => ⟨rfl, by rw [hU]; exact hP, va_K.moved hW.alike hK⟩⟩ rfl rfl hl.1 rfl (lv_room (Nat.le_of_ble_eq_true rfl)) dX9_aOf_7 ⟨Nat.le_of_ble_eq_true rfl, Nat.le_of_ble_eq_true rfl⟩)) (fun r_1 er_1 => ?_)
  have k_2 := er_1
  refine lv_iconst (v := 1) hx hb dX9_aOf_10 (by decide) ?_
  refine lv_iadd hx hb dX9_aOf_11 ?_
  refine lv_topi (fun v_3 ev_3 => ?_)
  have hv_3 : v_3.toInt = r_1.toInt + 1 := by rw [ev_3]; exact (iv_add (by omega) (by omega)).trans (by omega)
  clear ev_3
  refine lv_iconst (v := 4) hx hb dX9_aOf_12 (by decide) ?_
  refine vp_callSl (va_Run.run (va_runV (As := [.int v_3, .int (4 : Int32)]) (rest := []) ⟨hx, hb, hml, hown, hts⟩ (v_X9_number l dC dI o c kc st lg ai al v_3 (4 : Int32) (by omega) (by omega) (by omega) (by omega)) (cwV 2 hts gX9_aOf_X9_number rfl rfl rfl (by decide +kernel) ⟨Nat.le_of_ble_eq_true rfl, Nat.le_of_ble_eq_true rfl⟩) ⟨fun a U g mk q => by obtain ⟨q0, qP, qK⟩ := q; exact ⟨q0, qP, va_K.moved (u := U) (U := U.calling g mk a) (Vm.Alike.refl U.vm) qK⟩, va_recv hK hP (ci := 11) (q := (RX9, TX9, 38)) rfl (q0 := 0) rfl, fun U hU hW => ⟨rfl, by rw [hU]; exact hP, va_K.moved hW.alike hK⟩⟩ rfl rfl hl.1 rfl (lv_room (Nat.le_of_ble_eq_true rfl)) dX9_aOf_13 ⟨Nat.le_of_ble_eq_true rfl, Nat.le_of_ble_eq_true rfl⟩)) (fun r_4 er_4 => ?_)
  have q_5 := er_4
  refine lv_l2i hx hb dX9_aOf_16 rfl ?_
  refine lv_topi (fun v_6 ev_6 => ?_)
  clear ev_6
  exact W.iret hx hb hr (fun t ht hW => ⟨_, rfl, trivial, ht⟩) (fun q h => by cases h) dX9_aOf_17

set_option maxHeartbeats 4000000 in
set_option maxRecDepth 100000 in
theorem v_X9_bOf (l : Launch) (dC : Nat → ClassId) (dI : Nat → Nat → Nat) (o : Nat) (c : Nat → Nat) (kc : Nat → ClassId) (st : Nat → Int32) (lg : Nat → Int64) (ai : Nat → Nat → Int32) (al : Nat → Nat → Int64) (p0 : Int32) (hf7a : 0 ≤ (st 7).toInt) (hf7b : (st 7).toInt ≤ 1) (hq0 : -1 ≤ p0.toInt) (hq1 : p0.toInt ≤ 255) : Met l yX9_bOf wsX9_bOf ({ frames := 2, cells := 0, slots := 0, locals := 49 }) (va_Pc [.ref o, .int p0] (fun U => va_P (dC, dI) vwCl (rw_W o c kc st lg ai al) U.heap ∧ va_K (dC, dI) vwCl (rw_T kc) U)) (vp_Si (fun r => (r.toInt = (rB (ai 0) (st 7) p0).toInt))) 0 0 (fun _ => False) := by
  refine Met.ofW (cc := cX9_bOf) (maxL := 2) (ret := (some .int)) (by decide) rfl ?_
  intro p e s m args below meth cM s₁ B hml hv
  obtain ⟨rfl, hP, hK⟩ := hv
  have hx := B.exec
  have hb := B.bytes
  have hr := B.returns
  have hts := atoms_spec (ws := wsX9_bOf) B.pre
  have hown : s.vm.findClass RX9 = some m.cls := findClass_of_methodNamed B.named
  have hl := lv_entry ([.ref o, .int p0]) (n := 2) (Nat.le_of_ble_eq_true rfl)
  rw [lg_entry_eq]
  generalize (lg_sl ([.ref o, .int p0]) ++ List.replicate (2 - (lg_sl ([.ref o, .int p0])).length) Slot.unset).toArray = ls at hl ⊢
  have hl : lv_has ls 2 [(0, .ref o), (1, .int p0)] := hl
  have z_4 : (4 : Int32).toInt = 4 := by decide
  have z_5 : (5 : Int32).toInt = 5 := by decide
  have hin9 : ∀ w ∈ u_ws RX9 TX9 38, w ∈ wsX9_bOf := by decide +kernel
  refine lv_aload_n hx hb dX9_bOf_0 rfl (lv_at hl 0 rfl) ?_
  refine lv_aload_n hx hb dX9_bOf_1 rfl (lv_at hl 0 rfl) ?_
  refine lv_aload_n hx hb dX9_bOf_2 rfl (lv_at hl 0 rfl) ?_
  refine va_get (D := (dC, dI)) (ci := 11) (v := .int (st 7)) (C := RX9) (T := TX9) (N := 38) hx hb hts hin9 hown hK hP 0 rfl rfl 7 (by decide) (hts (.fieldLink RX9 76 "BlockLogModel" "area" "I") (by decide +kernel)) (fun _ h9 => h9) rfl dX9_bOf_3 ?_
  refine lv_iload_n hx hb dX9_bOf_6 rfl (lv_at hl 1 rfl) ?_
  refine vp_callSi (va_Run.run (va_runV (As := [.int (st 7), .int p0]) (rest := [.ref o]) ⟨hx, hb, hml, hown, hts⟩ (v_X9_rowPlace l dC dI o c kc st lg ai al (st 7) p0 (by omega) (by omega) (by omega) (by omega)) (cwV 2 hts gX9_bOf_X9_rowPlace rfl rfl rfl (by decide +kernel) ⟨Nat.le_of_ble_eq_true rfl, Nat.le_of_ble_eq_true rfl⟩) ⟨fun a U g mk q => by obtain ⟨q0, qP, qK⟩ := q; exact ⟨q0, qP, va_K.moved (u := U) (U := U.calling g mk a) (Vm.Alike.refl U.vm) qK⟩, va_recv hK hP (ci := 11) (q := (RX9, TX9, 38)) rfl (q0 := 0) rfl, fun U hU hW => ⟨rfl, by rw [hU]; exact hP, va_K.moved hW.alike hK⟩⟩ rfl rfl hl.1 rfl (lv_room (Nat.le_of_ble_eq_true rfl)) dX9_bOf_7 ⟨Nat.le_of_ble_eq_true rfl, Nat.le_of_ble_eq_true rfl⟩)) (fun r_1 er_1 => ?_)
  have k_2 := er_1
  refine lv_iconst (v := 5) hx hb dX9_bOf_10 (by decide) ?_
  refine lv_iadd hx hb dX9_bOf_11 ?_
  refine lv_topi (fun v_3 ev_3 => ?_)
  have hv_3 : v_3.toInt = r_1.toInt + 5 := by rw [ev_3]; exact (iv_add (by omega) (by omega)).trans (by omega)
  clear ev_3
  refine lv_iconst (v := 4) hx hb dX9_bOf_12 (by decide) ?_
  refine vp_callSl (va_Run.run (va_runV (As := [.int v_3, .int (4 : Int32)]) (rest := []) ⟨hx, hb, hml, hown, hts⟩ (v_X9_number l dC dI o c kc st lg ai al v_3 (4 : Int32) (by omega) (by omega) (by omega) (by omega)) (cwV 2 hts gX9_bOf_X9_number rfl rfl rfl (by decide +kernel) ⟨Nat.le_of_ble_eq_true rfl, Nat.le_of_ble_eq_true rfl⟩) ⟨fun a U g mk q => by obtain ⟨q0, qP, qK⟩ := q; exact ⟨q0, qP, va_K.moved (u := U) (U := U.calling g mk a) (Vm.Alike.refl U.vm) qK⟩, va_recv hK hP (ci := 11) (q := (RX9, TX9, 38)) rfl (q0 := 0) rfl, fun U hU hW => ⟨rfl, by rw [hU]; exact hP, va_K.moved hW.alike hK⟩⟩ rfl rfl hl.1 rfl (lv_room (Nat.le_of_ble_eq_true rfl)) dX9_bOf_13 ⟨Nat.le_of_ble_eq_true rfl, Nat.le_of_ble_eq_true rfl⟩)) (fun r_4 er_4 => ?_)
  have q_5 := er_4
  refine lv_l2i hx hb dX9_bOf_16 rfl ?_
  refine lv_topi (fun v_6 ev_6 => ?_)
  exact W.iret hx hb hr (fun t ht hW => ⟨_, rfl, (by rw [ev_6, q_5, rp5_of (a := st 7) (r := p0) (x := v_3) (by omega) (by omega) (by omega) (by omega) (by omega), show (4 : Int32).toNatClampNeg = 4 by decide]; rfl), ht⟩) (fun q h => by cases h) dX9_bOf_17

set_option maxHeartbeats 4000000 in
set_option maxRecDepth 100000 in
theorem v_X9_cOf (l : Launch) (dC : Nat → ClassId) (dI : Nat → Nat → Nat) (o : Nat) (c : Nat → Nat) (kc : Nat → ClassId) (st : Nat → Int32) (lg : Nat → Int64) (ai : Nat → Nat → Int32) (al : Nat → Nat → Int64) (p0 : Int32) (hf7a : 0 ≤ (st 7).toInt) (hf7b : (st 7).toInt ≤ 1) (hq0 : -1 ≤ p0.toInt) (hq1 : p0.toInt ≤ 255) : Met l yX9_cOf wsX9_cOf ({ frames := 2, cells := 0, slots := 0, locals := 49 }) (va_Pc [.ref o, .int p0] (fun U => va_P (dC, dI) vwCl (rw_W o c kc st lg ai al) U.heap ∧ va_K (dC, dI) vwCl (rw_T kc) U)) (vp_Sl (fun _ => True)) 0 0 (fun _ => False) := by
  refine Met.ofW (cc := cX9_cOf) (maxL := 2) (ret := (some .long)) (by decide) rfl ?_
  intro p e s m args below meth cM s₁ B hml hv
  obtain ⟨rfl, hP, hK⟩ := hv
  have hx := B.exec
  have hb := B.bytes
  have hr := B.returns
  have hts := atoms_spec (ws := wsX9_cOf) B.pre
  have hown : s.vm.findClass RX9 = some m.cls := findClass_of_methodNamed B.named
  have hl := lv_entry ([.ref o, .int p0]) (n := 2) (Nat.le_of_ble_eq_true rfl)
  rw [lg_entry_eq]
  generalize (lg_sl ([.ref o, .int p0]) ++ List.replicate (2 - (lg_sl ([.ref o, .int p0])).length) Slot.unset).toArray = ls at hl ⊢
  have hl : lv_has ls 2 [(0, .ref o), (1, .int p0)] := hl
  have z_8 : (8 : Int32).toInt = 8 := by decide
  have z_9 : (9 : Int32).toInt = 9 := by decide
  have hin9 : ∀ w ∈ u_ws RX9 TX9 38, w ∈ wsX9_cOf := by decide +kernel
  refine lv_aload_n hx hb dX9_cOf_0 rfl (lv_at hl 0 rfl) ?_
  refine lv_aload_n hx hb dX9_cOf_1 rfl (lv_at hl 0 rfl) ?_
  refine lv_aload_n hx hb dX9_cOf_2 rfl (lv_at hl 0 rfl) ?_
  refine va_get (D := (dC, dI)) (ci := 11) (v := .int (st 7)) (C := RX9) (T := TX9) (N := 38) hx hb hts hin9 hown hK hP 0 rfl rfl 7 (by decide) (hts (.fieldLink RX9 76 "BlockLogModel" "area" "I") (by decide +kernel)) (fun _ h9 => h9) rfl dX9_cOf_3 ?_
  refine lv_iload_n hx hb dX9_cOf_6 rfl (lv_at hl 1 rfl) ?_
  refine vp_callSi (va_Run.run (va_runV (As := [.int (st 7), .int p0]) (rest := [.ref o]) ⟨hx, hb, hml, hown, hts⟩ (v_X9_rowPlace l dC dI o c kc st lg ai al (st 7) p0 (by omega) (by omega) (by omega) (by omega)) (cwV 2 hts gX9_cOf_X9_rowPlace rfl rfl rfl (by decide +kernel) ⟨Nat.le_of_ble_eq_true rfl, Nat.le_of_ble_eq_true rfl⟩) ⟨fun a U g mk q => by obtain ⟨q0, qP, qK⟩ := q; exact ⟨q0, qP, va_K.moved (u := U) (U := U.calling g mk a) (Vm.Alike.refl U.vm) qK⟩, va_recv hK hP (ci := 11) (q := (RX9, TX9, 38)) rfl (q0 := 0) rfl, fun U hU hW => ⟨rfl, by rw [hU]; exact hP, va_K.moved hW.alike hK⟩⟩ rfl rfl hl.1 rfl (lv_room (Nat.le_of_ble_eq_true rfl)) dX9_cOf_7 ⟨Nat.le_of_ble_eq_true rfl, Nat.le_of_ble_eq_true rfl⟩)) (fun r_1 er_1 => ?_)
  have k_2 := er_1
  refine lv_bipush (v := 9) hx hb dX9_cOf_10 (by decide) ?_
  refine lv_iadd hx hb dX9_cOf_12 ?_
  refine lv_topi (fun v_3 ev_3 => ?_)
  have hv_3 : v_3.toInt = r_1.toInt + 9 := by rw [ev_3]; exact (iv_add (by omega) (by omega)).trans (by omega)
  clear ev_3
  refine lv_bipush (v := 8) hx hb dX9_cOf_13 (by decide) ?_
  refine vp_callSl (va_Run.run (va_runV (As := [.int v_3, .int (8 : Int32)]) (rest := []) ⟨hx, hb, hml, hown, hts⟩ (v_X9_number l dC dI o c kc st lg ai al v_3 (8 : Int32) (by omega) (by omega) (by omega) (by omega)) (cwV 2 hts gX9_cOf_X9_number rfl rfl rfl (by decide +kernel) ⟨Nat.le_of_ble_eq_true rfl, Nat.le_of_ble_eq_true rfl⟩) ⟨fun a U g mk q => by obtain ⟨q0, qP, qK⟩ := q; exact ⟨q0, qP, va_K.moved (u := U) (U := U.calling g mk a) (Vm.Alike.refl U.vm) qK⟩, va_recv hK hP (ci := 11) (q := (RX9, TX9, 38)) rfl (q0 := 0) rfl, fun U hU hW => ⟨rfl, by rw [hU]; exact hP, va_K.moved hW.alike hK⟩⟩ rfl rfl hl.1 rfl (lv_room (Nat.le_of_ble_eq_true rfl)) dX9_cOf_15 ⟨Nat.le_of_ble_eq_true rfl, Nat.le_of_ble_eq_true rfl⟩)) (fun r_4 er_4 => ?_)
  have q_5 := er_4
  exact W.lret hx hb hr (fun t ht hW => ⟨_, rfl, trivial, ht⟩) (fun q h => by cases h) dX9_cOf_18
