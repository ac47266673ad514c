def gt_E (te : Nat) (A : Nat → Prop) (U : State) : Prop := gx_E A U ∧ va_Z "java/util/ArrayList" "DEFAULTCAPACITY_EMPTY_ELEMENTDATA" "[Ljava/lang/Object;" (.ref te) A U U.heap
theorem gt_E.go {te : Nat} {A0 A : Nat → Prop} {s U : State} {H : Heap} {locs : List Loc} (hW : s.WarmedH U.vm) (hU : U.heap = H) (hS : va_S A0 s.heap H locs) (hA : ∀ q, A q → A0 q) (h : gt_E te A0 s) : gt_E te A U := ⟨h.1.go hW hU hS hA, by rw [hU]; exact ((h.2.kept hS.2.1).narrow hA).moved hW.alike⟩
theorem gt_E.same {te : Nat} {A : Nat → Prop} {s U : State} (hv : U.vm = s.vm) (hh : U.heap = s.heap) (h : gt_E te A s) : gt_E te A U := ⟨h.1.same hv hh, by rw [hh]; exact h.2.moved (by rw [hv]; exact Vm.Alike.refl _)⟩
/-- one byte taken into a SUM, as the class does -/
def pu_add (s : Int64) (b : Int32) : Int64 := ((s ^^^ (b &&& 255).toInt64) <<< ((21 : Int32).toInt64 &&& 63) ||| ((s ^^^ (b &&& 255).toInt64).toUInt64 >>> ((43 : Int32).toInt64.toUInt64 &&& Int64.toUInt64 63)).toInt64) * (-4417276706812531889)
/-- as the reference does -/
def pu_more (s : Int64) (b : Int32) : Int64 := ((s ^^^ b.toInt64) <<< ((21 : Int32).toInt64 &&& 63) ||| ((s ^^^ b.toInt64).toUInt64 >>> ((43 : Int32).toInt64.toUInt64 &&& Int64.toUInt64 63)).toInt64) * (-4417276706812531889)
def pu_start (b : Int32) : Int64 := 1000003 * b.toInt64
def pu_sumN (f : Nat → Int32) (fr : Nat) (s : Int64) : Nat → Int64 := fun k => Nat.rec s (fun k r => pu_add r (f (fr + k))) k
set_option maxHeartbeats 4000000 in
set_option maxRecDepth 100000 in
theorem k_X0_start (l : Launch) (b0 : Int32) : Met l yX0_start wsX0_start ({ frames := 0, cells := 0, slots := 0, locals := 0 }) (va_Pc [.int b0] (fun _ => True)) (vp_Sl (fun r => r = pu_start b0)) 0 0 (fun _ => False) := by
  refine Met.ofW (cc := cX0_start) (maxL := 1) (ret := (some .long)) (by decide) rfl ?_
  intro p e s m args below meth c s₁ B hml hv
  obtain ⟨rfl, -⟩ := hv
  have hx := B.exec
  have hb := B.bytes
  have hr := B.returns
  have hts := atoms_spec (ws := wsX0_start) B.pre
  have hown : s.vm.findClass RX0 = some m.cls := findClass_of_methodNamed B.named
  have hlocks := B.notSynchronized
  have hl := lv_entry ([.int b0]) (n := 1) (Nat.le_of_ble_eq_true rfl)
  rw [lg_entry_eq]
  generalize (lg_sl ([.int b0]) ++ List.replicate (1 - (lg_sl ([.int b0])).length) Slot.unset).toArray = ls at hl ⊢
  have hl : lv_has ls 1 [(0, .int b0)] := hl
  refine lv_ldc2 hx hb hown (hts (.constantLong RX0 9 (1000003)) (by decide +kernel)) dX0_start_0 ?_
  refine lv_iload_n hx hb dX0_start_3 rfl (lv_at hl 0 rfl) ?_
  refine lv_i2l hx hb dX0_start_4 rfl ?_
  refine lv_lmul hx hb dX0_start_5 ?_
  exact W.lret hx hb hr (fun t ht hW => ⟨_, rfl, rfl, ht⟩) (fun q h => by cases h) dX0_start_6
set_option maxHeartbeats 4000000 in
set_option maxRecDepth 100000 in
theorem k_X0_add (l : Launch) (s0 : Int64) (b0 : Int32) : Met l yX0_add wsX0_add ({ frames := 0, cells := 0, slots := 0, locals := 0 }) (va_Pc [.long s0, .int b0] (fun _ => True)) (vp_Sl (fun r => r = pu_add s0 b0)) 0 0 (fun _ => False) := by
  refine Met.ofW (cc := cX0_add) (maxL := 5) (ret := (some .long)) (by decide) rfl ?_
  intro p e s m args below meth c s₁ B hml hv
  obtain ⟨rfl, -⟩ := hv
  have hx := B.exec
  have hb := B.bytes
  have hr := B.returns
  have hts := atoms_spec (ws := wsX0_add) B.pre
  have hown : s.vm.findClass RX0 = some m.cls := findClass_of_methodNamed B.named
  have hlocks := B.notSynchronized
  have hl := lv_entry ([.long s0, .int b0]) (n := 5) (Nat.le_of_ble_eq_true rfl)
  rw [lg_entry_eq]
  generalize (lg_sl ([.long s0, .int b0]) ++ List.replicate (5 - (lg_sl ([.long s0, .int b0])).length) Slot.unset).toArray = ls at hl ⊢
  have hl : lv_has ls 5 [(0, .long s0), (2, .int b0)] := hl
  refine lv_lload_n hx hb dX0_add_0 rfl (lv_at hl 0 rfl) ?_
  refine lv_iload_n hx hb dX0_add_1 rfl (lv_at hl 1 rfl) ?_
  refine lv_sipush (v := 255) hx hb dX0_add_2 (by decide) ?_
  refine lv_iand hx hb dX0_add_5 ?_
  refine lv_i2l hx hb dX0_add_6 rfl ?_
  refine lv_lxor hx hb dX0_add_7 ?_
  refine lv_lstore_n (lv' := [(3, .long (s0 ^^^ ((b0 &&& (255 : Int32)).toInt64))), (0, .long s0), (2, .int b0)]) hx hb dX0_add_8 rfl hl (by decide) rfl (fun ls hl => ?_)
  refine lv_lload_n hx hb dX0_add_9 rfl (lv_at hl 0 rfl) ?_
  refine lv_bipush (v := 21) hx hb dX0_add_10 (by decide) ?_
  refine lv_lshl hx hb dX0_add_12 rfl ?_
  refine lv_lload_n hx hb dX0_add_13 rfl (lv_at hl 0 rfl) ?_
  refine lv_bipush (v := 43) hx hb dX0_add_14 (by decide) ?_
  refine lv_lushr hx hb dX0_add_16 rfl ?_
  refine lv_lor hx hb dX0_add_17 ?_
  refine lv_ldc2 hx hb hown (hts (.constantLong RX0 13 (-4417276706812531889)) (by decide +kernel)) dX0_add_18 ?_
  refine lv_lmul hx hb dX0_add_21 ?_
  exact W.lret hx hb hr (fun t ht hW => ⟨_, rfl, rfl, ht⟩) (fun q h => by cases h) dX0_add_22
set_option maxHeartbeats 4000000 in
set_option maxRecDepth 100000 in
theorem k_X9_more (l : Launch) (s0 : Int64) (b0 : Int32) : Met l yX9_more wsX9_more ({ frames := 0, cells := 0, slots := 0, locals := 0 }) (va_Pc [.long s0, .int b0] (fun _ => True)) (vp_Sl (fun r => r = pu_more s0 b0)) 0 0 (fun _ => False) := by
  refine Met.ofW (cc := cX9_more) (maxL := 5) (ret := (some .long)) (by decide) rfl ?_
  intro p e s m args below meth c s₁ B hml hv
  obtain ⟨rfl, -⟩ := hv
  have hx := B.exec
  have hb := B.bytes
  have hr := B.returns
  have hts := atoms_spec (ws := wsX9_more) B.pre
  have hown : s.vm.findClass RX9 = some m.cls := findClass_of_methodNamed B.named
  have hlocks := B.notSynchronized
  have hl := lv_entry ([.long s0, .int b0]) (n := 5) (Nat.le_of_ble_eq_true rfl)
  rw [lg_entry_eq]
  generalize (lg_sl ([.long s0, .int b0]) ++ List.replicate (5 - (lg_sl ([.long s0, .int b0])).length) Slot.unset).toArray = ls at hl ⊢
  have hl : lv_has ls 5 [(0, .long s0), (2, .int b0)] := hl
  refine lv_lload_n hx hb dX9_more_0 rfl (lv_at hl 0 rfl) ?_
  refine lv_iload_n hx hb dX9_more_1 rfl (lv_at hl 1 rfl) ?_
  refine lv_i2l hx hb dX9_more_2 rfl ?_
  refine lv_lxor hx hb dX9_more_3 ?_
  refine lv_lstore_n (lv' := [(3, .long (s0 ^^^ b0.toInt64)), (0, .long s0), (2, .int b0)]) hx hb dX9_more_4 rfl hl (by decide) rfl (fun ls hl => ?_)
  refine lv_lload_n hx hb dX9_more_5 rfl (lv_at hl 0 rfl) ?_
  refine lv_bipush (v := 21) hx hb dX9_more_6 (by decide) ?_
  refine lv_lshl hx hb dX9_more_8 rfl ?_
  refine lv_lload_n hx hb dX9_more_9 rfl (lv_at hl 0 rfl) ?_
  refine lv_bipush (v := 43) hx hb dX9_more_10 (by decide) ?_
  refine lv_lushr hx hb dX9_more_12 rfl ?_
  refine lv_lor hx hb dX9_more_13 ?_
  refine lv_ldc2 hx hb hown (hts (.constantLong RX9 100 (-4417276706812531889)) (by decide +kernel)) dX9_more_14 ?_
  refine lv_lmul hx hb dX9_more_17 ?_
  exact W.lret hx hb hr (fun t ht hW => ⟨_, rfl, rfl, ht⟩) (fun q h => by cases h) dX9_more_18
set_option maxHeartbeats 4000000 in
set_option maxRecDepth 100000 in
theorem k_X0_sum (l : Launch) (dC : Nat → ClassId) (dI : Nat → Nat → Nat) (cA : ClassId) (a N fr cn : Nat) (num : Int32) (f : Nat → Int32) (hN : N < 2 ^ 31) (hfc : fr + cn ≤ N) : Met l yX0_sum wsX0_sum ({ frames := 1, cells := 0, slots := 0, locals := 24 }) (va_Pc [.ref a, .int (nI fr), .int (nI cn), .int num] (fun U => va_P (dC, dI) vwCl [(a, .inl (cA, N, .inl f))] U.heap ∧ va_K (dC, dI) vwCl [(cA, .byte)] U)) (vp_Sl (fun r => r = pu_sumN f fr (pu_start num) cn)) 0 0 (fun _ => False) := by
  refine Met.ofW (cc := cX0_sum) (maxL := 7) (ret := (some .long)) (by decide) rfl ?_
  intro p e s m args below meth c s₁ B hml hv
  obtain ⟨rfl, hP, hK⟩ := hv
  have hx := B.exec
  have hb := B.bytes
  have hr := B.returns
  have hts := atoms_spec (ws := wsX0_sum) B.pre
  have hown : s.vm.findClass RX0 = some m.cls := findClass_of_methodNamed B.named
  have hlocks := B.notSynchronized
  have loop : ∀ (n k : Nat) (acc : Int64) (i : Int32) (ls : Array Slot), k ≤ cn → cn - k < n → acc = pu_sumN f fr (pu_start num) k → i = nI (fr + k) → lv_has ls 7 [(6, .int i), (4, .long acc), (0, .ref a), (1, .int (nI fr)), (2, .int (nI cn)), (3, .int num)] → W p l e (headSpec wsX0_sum ({ frames := 1, cells := 0, slots := 0, locals := 24 })).room s m ([.ref a, .int (nI fr), .int (nI cn), .int num] : List Value).toArray below meth c s.heap [] 0 0 (MQ below (vp_Sl (fun r => r = pu_sumN f fr (pu_start num) cn)) ([.ref a, .int (nI fr), .int (nI cn), .int num] : List Value).toArray s 0 0 (fun _ => False)) (F0 m 9 ls []) := by
    intro n
    induction n with
    | zero => intro k acc i ls h1 h2; omega
    | succ n ih =>
      intro k acc i ls h1 h2 eacc ei hl
      refine lv_iload hx hb dX0_sum_9 (lv_at hl 0 rfl) ?_
      refine lv_iload_n hx hb dX0_sum_11 rfl (lv_at hl 3 rfl) ?_
      refine lv_iload_n hx hb dX0_sum_12 rfl (lv_at hl 4 rfl) ?_
      refine lv_iadd hx hb dX0_sum_13 ?_
      refine lv_icmp_ge (tgt := 34) hx hb dX0_sum_14 (by decide) (fun c_1 => ?_) (fun c_1 => ?_)
      · skip
        have hk : k = cn := by
          rcases Nat.lt_or_ge k cn with q | q
          · exact absurd c_1 (by rw [ei, nI_add]; exact nI_ge (by omega) (by omega))
          · omega
        subst hk
        refine lv_lload hx hb dX0_sum_34 (lv_at hl 1 rfl) ?_
        exact W.lret hx hb hr (fun t ht hW => ⟨_, rfl, eacc, ht⟩) (fun q h => by cases h) dX0_sum_36
      · skip
        have hk : k + 1 ≤ cn := by
          rcases Nat.lt_or_ge k cn with q | q
          · exact q
          · exact absurd (by rw [ei, nI_add]; exact nI_le (by omega) (by omega)) c_1
        have hin : vp_in i N := by rw [ei]; exact vp_in_nI (by omega) (by omega)
        refine lv_lload hx hb dX0_sum_17 (lv_at hl 1 rfl) ?_
        refine lv_aload_n hx hb dX0_sum_19 rfl (lv_at hl 2 rfl) ?_
        refine lv_iload hx hb dX0_sum_20 (lv_at hl 0 rfl) ?_
        refine va_bald hx hb hK hP 0 0 rfl rfl hin dX0_sum_22 ?_
        refine vp_callSl (va_Run.run (va_runS (As := [.long acc, .int (f i.toNatClampNeg)]) (rest := []) ⟨hx, hb, hml, hown, hts⟩ (k_X0_add l _ _) (va_cwS 2 hts gX0_sum_X0_add rfl rfl rfl (by decide +kernel) ⟨Nat.le_of_ble_eq_true rfl, Nat.le_of_ble_eq_true rfl⟩) ⟨fun a U g mk q => q, fun U hU hW => ⟨rfl, trivial⟩⟩ rfl rfl hl.1 rfl (lv_room (Nat.le_of_ble_eq_true rfl)) dX0_sum_23 ⟨Nat.le_refl _, Nat.le_refl _⟩)) (fun r_2 er_2 => ?_)
        refine lv_lstore (lv' := [(4, .long r_2), (6, .int i), (0, .ref a), (1, .int (nI fr)), (2, .int (nI cn)), (3, .int num)]) hx hb dX0_sum_26 hl (by decide) rfl (fun ls hl => ?_)
        obtain ⟨x_3, ex_3⟩ : ∃ z : Int32, z = i + (1) := ⟨_, rfl⟩
        refine lv_iinc (v := x_3) (lv' := [(6, .int x_3), (4, .long r_2), (0, .ref a), (1, .int (nI fr)), (2, .int (nI cn)), (3, .int num)]) hx hb dX0_sum_28 hl (k := 1) rfl (by rw [ex_3]; rfl) (by decide) rfl (fun ls hl => ?_)
        refine lv_goto (tgt := 9) hx hb dX0_sum_31 (by decide) ?_
        exact ih (k + 1) _ _ _ hk (by omega) (by rw [er_2, eacc, ei, nI_clamp (by omega)]; rfl) (by rw [ex_3, ei]; exact nI_1 _) (lv_sub hl [0, 1, 2, 3, 4, 5] rfl)
  have hl := lv_entry ([.ref a, .int (nI fr), .int (nI cn), .int num]) (n := 7) (Nat.le_of_ble_eq_true rfl)
  rw [lg_entry_eq]
  generalize (lg_sl ([.ref a, .int (nI fr), .int (nI cn), .int num]) ++ List.replicate (7 - (lg_sl ([.ref a, .int (nI fr), .int (nI cn), .int num])).length) Slot.unset).toArray = ls at hl ⊢
  have hl : lv_has ls 7 [(0, .ref a), (1, .int (nI fr)), (2, .int (nI cn)), (3, .int num)] := hl
  refine lv_iload_n hx hb dX0_sum_0 rfl (lv_at hl 3 rfl) ?_
  refine vp_callSl (va_Run.run (va_runS (As := [.int num]) (rest := []) ⟨hx, hb, hml, hown, hts⟩ (k_X0_start l _) (va_cwS 1 hts gX0_sum_X0_start rfl rfl rfl (by decide +kernel) ⟨Nat.le_of_ble_eq_true rfl, Nat.le_of_ble_eq_true rfl⟩) ⟨fun a U g mk q => q, fun U hU hW => ⟨rfl, trivial⟩⟩ rfl rfl hl.1 rfl (lv_room (Nat.le_of_ble_eq_true rfl)) dX0_sum_1 ⟨Nat.le_refl _, Nat.le_refl _⟩)) (fun r_1 er_1 => ?_)
  refine lv_lstore (lv' := [(4, .long r_1), (0, .ref a), (1, .int (nI fr)), (2, .int (nI cn)), (3, .int num)]) hx hb dX0_sum_4 hl (by decide) rfl (fun ls hl => ?_)
  refine lv_iload_n hx hb dX0_sum_6 rfl (lv_at hl 2 rfl) ?_
  refine lv_istore (lv' := [(6, .int (nI fr)), (4, .long r_1), (0, .ref a), (1, .int (nI fr)), (2, .int (nI cn)), (3, .int num)]) hx hb dX0_sum_7 hl (by decide) rfl (fun ls hl => ?_)
  exact loop (cn + 1) 0 _ _ _ (Nat.zero_le _) (by omega) er_1 rfl (lv_sub hl [0, 1, 2, 3, 4, 5] rfl)
/-- the reference's disk: a byte is set, a byte is read, as its methods do -/
def md_set (f : Nat → Int32) (at_ b : Int32) : Nat → Int32 := upd f (at_ >>> ((2 : Int32) &&& 31)).toNatClampNeg ((f (at_ >>> ((2 : Int32) &&& 31)).toNatClampNeg &&& ((255 : Int32) <<< ((8 : Int32) * (at_ &&& 3) &&& 31) ^^^ (-1))) ||| b <<< ((8 : Int32) * (at_ &&& 3) &&& 31))
set_option maxHeartbeats 4000000 in
set_option maxRecDepth 100000 in
theorem k_X9_set (l : Launch) (dC : Nat → ClassId) (dI : Nat → Nat → Nat) (h0 hd N : Nat) (cI : ClassId) (fs : List Value) (f : Nat → Int32) (at_ b : Int32) (sz : Nat) (hi : vp_in (at_ >>> ((2 : Int32) &&& 31)) N) : Met l yX9_set wsX9_set ({ frames := 0, cells := 0, slots := 0, locals := 0 }) (va_Pc [.ref h0, .int at_, .int b] (fun U => U.heap.size = sz ∧ va_P (dC, dI) vwCl [(h0, .inr (11, .ref hd :: fs)), (hd, .inl (cI, N, .inl f))] U.heap ∧ va_K (dC, dI) vwCl [(cI, .int)] U ∧ va_D (fun _ => True) [(h0, .inr (11, .ref hd :: fs)), (hd, .inl (cI, N, .inl f))])) (va_Qv (fun (_ : Unit) => True) (fun (_ : Unit) t => va_P (dC, dI) vwCl [(h0, .inr (11, .ref hd :: fs)), (hd, .inl (cI, N, .inl (md_set f at_ b)))] t.heap ∧ va_K (dC, dI) vwCl [(cI, .int)] t ∧ va_D (va_A [(h0, .inr (11, .ref hd :: fs)), (hd, .inl (cI, N, .inl f))] sz) [(h0, .inr (11, .ref hd :: fs)), (hd, .inl (cI, N, .inl (md_set f at_ b)))]) (va_A [(h0, .inr (11, .ref hd :: fs)), (hd, .inl (cI, N, .inl f))] sz)) 0 0 (va_A [(h0, .inr (11, .ref hd :: fs)), (hd, .inl (cI, N, .inl f))] sz) := by
  refine Met.ofW (cc := cX9_set) (maxL := 4) (ret := none) (by decide) rfl ?_
  intro p e s m args below meth c s₁ B hml hv
  obtain ⟨rfl, hsz, hP, hK, hD0⟩ := hv
  have hx := B.exec
  have hb := B.bytes
  have hr := B.returns
  have hts := atoms_spec (ws := wsX9_set) B.pre
  have hown : s.vm.findClass RX9 = some m.cls := findClass_of_methodNamed B.named
  have hlocks := B.notSynchronized
  subst hsz
  have hD := hD0.self (sz := s.heap.size)
  generalize hAe : va_A [(h0, .inr (11, .ref hd :: fs)), (hd, .inl (cI, N, .inl f))] s.heap.size = A at hD ⊢
  have hA : ∀ q : Nat, s.heap.size ≤ q → A q := fun q h => by rw [← hAe]; exact Or.inr h
  have hS : va_S A s.heap s.heap [] := va_S.rf
  have hl := lv_entry ([.ref h0, .int at_, .int b]) (n := 4) (Nat.le_of_ble_eq_true rfl)
  rw [lg_entry_eq]
  generalize (lg_sl ([.ref h0, .int at_, .int b]) ++ List.replicate (4 - (lg_sl ([.ref h0, .int at_, .int b])).length) Slot.unset).toArray = ls at hl ⊢
  have hl : lv_has ls 4 [(0, .ref h0), (1, .int at_), (2, .int b)] := hl
  refine lv_bipush (v := 8) hx hb dX9_set_0 (by decide) ?_
  refine lv_iload_n hx hb dX9_set_2 rfl (lv_at hl 1 rfl) ?_
  refine lv_iconst (v := 3) hx hb dX9_set_3 (by decide) ?_
  refine lv_iand hx hb dX9_set_4 ?_
  refine lv_imul hx hb dX9_set_5 ?_
  refine lv_istore_n (lv' := [(3, .int ((8 : Int32) * (at_ &&& (3 : Int32)))), (0, .ref h0), (1, .int at_), (2, .int b)]) hx hb dX9_set_6 rfl hl (by decide) rfl (fun ls hl => ?_)
  refine lv_aload_n hx hb dX9_set_7 rfl (lv_at hl 1 rfl) ?_
  refine va_get (D := (dC, dI)) (ci := 11) (v := .ref hd) (C := RX9) (T := TX9) (N := 38) hx hb hts (by decide +kernel) hown hK hP 0 rfl rfl 0 (by decide) (hts (.fieldLink RX9 8 "BlockLogModel" "disk" "[I") (by decide +kernel)) (fun _ h9 => h9) rfl dX9_set_8 ?_
  refine lv_iload_n hx hb dX9_set_11 rfl (lv_at hl 2 rfl) ?_
  refine lv_iconst (v := 2) hx hb dX9_set_12 (by decide) ?_
  refine lv_ishr hx hb dX9_set_13 ?_
  refine lv_aload_n hx hb dX9_set_14 rfl (lv_at hl 1 rfl) ?_
  refine va_get (D := (dC, dI)) (ci := 11) (v := .ref hd) (C := RX9) (T := TX9) (N := 38) hx hb hts (by decide +kernel) hown hK hP 0 rfl rfl 0 (by decide) (hts (.fieldLink RX9 8 "BlockLogModel" "disk" "[I") (by decide +kernel)) (fun _ h9 => h9) rfl dX9_set_15 ?_
  refine lv_iload_n hx hb dX9_set_18 rfl (lv_at hl 2 rfl) ?_
  refine lv_iconst (v := 2) hx hb dX9_set_19 (by decide) ?_
  refine lv_ishr hx hb dX9_set_20 ?_
  refine va_iald hx hb hK hP 1 0 rfl rfl hi dX9_set_21 ?_
  refine lv_sipush (v := 255) hx hb dX9_set_22 (by decide) ?_
  refine lv_iload_n hx hb dX9_set_25 rfl (lv_at hl 0 rfl) ?_
  refine lv_ishl hx hb dX9_set_26 ?_
  refine lv_iconst (v := (-1)) hx hb dX9_set_27 (by decide) ?_
  refine lv_ixor hx hb dX9_set_28 ?_
  refine lv_iand hx hb dX9_set_29 ?_
  refine lv_iload_n hx hb dX9_set_30 rfl (lv_at hl 3 rfl) ?_
  refine lv_iload_n hx hb dX9_set_31 rfl (lv_at hl 0 rfl) ?_
  refine lv_ishl hx hb dX9_set_32 ?_
  refine lv_ior hx hb dX9_set_33 ?_
  refine va_iast hx hb hK hP hD hS 1 0 rfl rfl hi dX9_set_34 (fun H locs hP hD hS => ?_)
  have hP : va_P (dC, dI) vwCl [(h0, .inr (11, .ref hd :: fs)), (hd, .inl (cI, N, .inl (upd f (at_ >>> ((2 : Int32) &&& 31)).toNatClampNeg (((f (at_ >>> ((2 : Int32) &&& 31)).toNatClampNeg) &&& (((255 : Int32) <<< (((8 : Int32) * (at_ &&& (3 : Int32))) &&& 31)) ^^^ (-1 : Int32))) ||| (b <<< (((8 : Int32) * (at_ &&& (3 : Int32))) &&& 31))))))] H := hP
  have hD : va_D A [(h0, .inr (11, .ref hd :: fs)), (hd, .inl (cI, N, .inl (upd f (at_ >>> ((2 : Int32) &&& 31)).toNatClampNeg (((f (at_ >>> ((2 : Int32) &&& 31)).toNatClampNeg) &&& (((255 : Int32) <<< (((8 : Int32) * (at_ &&& (3 : Int32))) &&& 31)) ^^^ (-1 : Int32))) ||| (b <<< (((8 : Int32) * (at_ &&& (3 : Int32))) &&& 31))))))] := hD
  exact W.vret hx hb hr (fun t ht hW => ⟨⟨(), rfl, trivial, by rw [ht]; exact hP, va_K.moved hW.alike hK, hD⟩, hS.F ht⟩) hS.2.2 dX9_set_35
def md_bytes (f : Nat → Int32) (at_ : Int32) (v : Int64) (n : Int32) : Nat → Nat → Int32 := fun k => Nat.rec f (fun k g => md_set g (at_ + nI k) ((v.toUInt64 >>> (((8 : Int32) * (n - 1 - nI k)).toInt64.toUInt64 &&& Int64.toUInt64 63)).toInt64 &&& 255).toInt32) k
set_option maxHeartbeats 4000000 in
set_option maxRecDepth 100000 in
theorem k_X9_bytesOf (l : Launch) (dC : Nat → ClassId) (dI : Nat → Nat → Nat) (h0 hd N : Nat) (cI : ClassId) (fs : List Value) (f : Nat → Int32) (at_ : Int32) (v : Int64) (cn : Nat) (sz : Nat) (hc : cn < 2 ^ 31) (hi : ∀ k, k < cn → vp_in ((at_ + nI k) >>> ((2 : Int32) &&& 31)) N) : Met l yX9_bytesOf wsX9_bytesOf ({ frames := 1, cells := 0, slots := 0, locals := 27 }) (va_Pc [.ref h0, .int at_, .long v, .int (nI cn)] (fun U => U.heap.size = sz ∧ va_P (dC, dI) vwCl [(h0, .inr (11, .ref hd :: fs)), (hd, .inl (cI, N, .inl f))] U.heap ∧ va_K (dC, dI) vwCl [(cI, .int)] U ∧ va_D (fun _ => True) [(h0, .inr (11, .ref hd :: fs)), (hd, .inl (cI, N, .inl f))])) (va_Qv (fun (_ : Unit) => True) (fun (_ : Unit) t => va_P (dC, dI) vwCl [(h0, .inr (11, .ref hd :: fs)), (hd, .inl (cI, N, .inl (md_bytes f at_ v (nI cn) cn)))] t.heap ∧ va_K (dC, dI) vwCl [(cI, .int)] t ∧ va_D (va_A [(h0, .inr (11, .ref hd :: fs)), (hd, .inl (cI, N, .inl f))] sz) [(h0, .inr (11, .ref hd :: fs)), (hd, .inl (cI, N, .inl (md_bytes f at_ v (nI cn) cn)))]) (va_A [(h0, .inr (11, .ref hd :: fs)), (hd, .inl (cI, N, .inl f))] sz)) 0 0 (va_A [(h0, .inr (11, .ref hd :: fs)), (hd, .inl (cI, N, .inl f))] sz) := by
  refine Met.ofW (cc := cX9_bytesOf) (maxL := 6) (ret := none) (by decide) rfl ?_
  intro p e s m args below meth c s₁ B hml hv
  obtain ⟨rfl, hsz, hP, hK, hD0⟩ := hv
  have hx := B.exec
  have hb := B.bytes
  have hr := B.returns
  have hts := atoms_spec (ws := wsX9_bytesOf) B.pre
  have hown : s.vm.findClass RX9 = some m.cls := findClass_of_methodNamed B.named
  have hlocks := B.notSynchronized
  subst hsz
  have hD := hD0.self (sz := s.heap.size)
  generalize hAe : va_A [(h0, .inr (11, .ref hd :: fs)), (hd, .inl (cI, N, .inl f))] s.heap.size = A at hD ⊢
  have hA : ∀ q : Nat, s.heap.size ≤ q → A q := fun q h => by rw [← hAe]; exact Or.inr h
  have hS : va_S A s.heap s.heap [] := va_S.rf
  have hl := lv_entry ([.ref h0, .int at_, .long v, .int (nI cn)]) (n := 6) (Nat.le_of_ble_eq_true rfl)
  rw [lg_entry_eq]
  generalize (lg_sl ([.ref h0, .int at_, .long v, .int (nI cn)]) ++ List.replicate (6 - (lg_sl ([.ref h0, .int at_, .long v, .int (nI cn)])).length) Slot.unset).toArray = ls at hl ⊢
  have hl : lv_has ls 6 [(0, .ref h0), (1, .int at_), (2, .long v), (4, .int (nI cn))] := hl
  have loop : ∀ (n k : Nat) (i : Int32) (H : Heap) (locs : List Loc) (ls : Array Slot), k ≤ cn → cn - k < n → i = nI k → va_P (dC, dI) vwCl [(h0, .inr (11, .ref hd :: fs)), (hd, .inl (cI, N, .inl (md_bytes f at_ v (nI cn) k)))] H → va_D A [(h0, .inr (11, .ref hd :: fs)), (hd, .inl (cI, N, .inl (md_bytes f at_ v (nI cn) k)))] → va_S A s.heap H locs → lv_has ls 6 [(5, .int i), (0, .ref h0), (1, .int at_), (2, .long v), (4, .int (nI cn))] → W p l e (headSpec wsX9_bytesOf ({ frames := 1, cells := 0, slots := 0, locals := 27 })).room s m ([.ref h0, .int at_, .long v, .int (nI cn)] : List Value).toArray below meth c H locs 0 0 (MQ below (va_Qv (fun (_ : Unit) => True) (fun (_ : Unit) t => va_P (dC, dI) vwCl [(h0, .inr (11, .ref hd :: fs)), (hd, .inl (cI, N, .inl (md_bytes f at_ v (nI cn) cn)))] t.heap ∧ va_K (dC, dI) vwCl [(cI, .int)] t ∧ va_D A [(h0, .inr (11, .ref hd :: fs)), (hd, .inl (cI, N, .inl (md_bytes f at_ v (nI cn) cn)))]) A) ([.ref h0, .int at_, .long v, .int (nI cn)] : List Value).toArray s 0 0 A) (F0 m 3 ls []) := by
    intro n
    induction n with
    | zero => intro k i H locs ls h1 h2; omega
    | succ n ih =>
      intro k i H locs ls h1 h2 ei hP hD hS hl
      refine lv_iload hx hb dX9_bytesOf_3 (lv_at hl 0 rfl) ?_
      refine lv_iload hx hb dX9_bytesOf_5 (lv_at hl 4 rfl) ?_
      refine lv_icmp_ge (tgt := 41) hx hb dX9_bytesOf_7 (by decide) (fun c_1 => ?_) (fun c_1 => ?_)
      · skip
        have hk : k = cn := by
          rcases Nat.lt_or_ge k cn with q | q
          · exact absurd c_1 (by rw [ei]; exact nI_ge q (by omega))
          · omega
        subst hk
        exact W.vret hx hb hr (fun t ht hW => ⟨⟨(), rfl, trivial, by rw [ht]; exact hP, va_K.moved hW.alike hK, hD⟩, hS.F ht⟩) hS.2.2 dX9_bytesOf_41
      · skip
        have hk : k + 1 ≤ cn := by
          rcases Nat.lt_or_ge k cn with q | q
          · exact q
          · exact absurd (by rw [ei]; exact nI_le q (by omega)) c_1
        subst ei
        refine lv_aload_n hx hb dX9_bytesOf_10 rfl (lv_at hl 1 rfl) ?_
        refine lv_iload_n hx hb dX9_bytesOf_11 rfl (lv_at hl 2 rfl) ?_
        refine lv_iload hx hb dX9_bytesOf_12 (lv_at hl 0 rfl) ?_
        refine lv_iadd hx hb dX9_bytesOf_14 ?_
        refine lv_lload_n hx hb dX9_bytesOf_15 rfl (lv_at hl 3 rfl) ?_
        refine lv_bipush (v := 8) hx hb dX9_bytesOf_16 (by decide) ?_
        refine lv_iload hx hb dX9_bytesOf_18 (lv_at hl 4 rfl) ?_
        refine lv_iconst (v := 1) hx hb dX9_bytesOf_20 (by decide) ?_
        refine lv_isub hx hb dX9_bytesOf_21 ?_
        refine lv_iload hx hb dX9_bytesOf_22 (lv_at hl 0 rfl) ?_
        refine lv_isub hx hb dX9_bytesOf_24 ?_
        refine lv_imul hx hb dX9_bytesOf_25 ?_
        refine lv_lushr hx hb dX9_bytesOf_26 rfl ?_
        refine lv_ldc2 hx hb hown (hts (.constantLong RX9 94 (255)) (by decide +kernel)) dX9_bytesOf_27 ?_
        refine lv_land hx hb dX9_bytesOf_30 ?_
        refine lv_l2i hx hb dX9_bytesOf_31 rfl ?_
        have hPc := hP.sub (ws' := [(h0, .inr (11, .ref hd :: fs)), (hd, .inl (cI, N, .inl (md_bytes f at_ v (nI cn) k)))]) [0, 1] rfl
        have hKc := hK.sub (tys' := [(cI, .int)]) [0] rfl
        have hDc := hD.sub (ws' := [(h0, .inr (11, .ref hd :: fs)), (hd, .inl (cI, N, .inl (md_bytes f at_ v (nI cn) k)))]) [0, 1] (by decide) rfl
        have hFc := va_free (wc := [(h0, .inr (11, .ref hd :: fs)), (hd, .inl (cI, N, .inl (md_bytes f at_ v (nI cn) k)))]) hD hS hA [0, 1] rfl
        refine va_callv (va_runV (As := [.int (at_ + (nI k)), .int ((((v.toUInt64 >>> (((8 : Int32) * (((nI cn) - (1 : Int32)) - (nI k))).toInt64.toUInt64 &&& Int64.toUInt64 63)).toInt64) &&& (255 : Int64)).toInt32)]) (rest := []) ⟨hx, hb, hml, hown, hts⟩ (k_X9_set l dC dI h0 hd N cI fs _ _ _ H.size (hi k hk)) (cwV 2 hts gX9_bytesOf_X9_set rfl rfl rfl (by decide +kernel) ⟨Nat.le_of_ble_eq_true rfl, Nat.le_of_ble_eq_true rfl⟩) ⟨fun a U g mk q => by obtain ⟨q0, q1, qP, qK, qD⟩ := q; exact ⟨q0, q1, qP, va_K.moved (u := U) (U := U.calling g mk a) (Vm.Alike.refl U.vm) qK, qD⟩, va_recv hK hP (ci := 11) (q := (RX9, TX9, 38)) rfl (q0 := 0) rfl, fun U hU hW => ⟨rfl, by rw [hU], by rw [hU]; exact hPc, va_K.moved hW.alike hKc, hDc.weaken (fun _ _ _ _ => trivial)⟩⟩ rfl rfl hl.1 rfl (lv_room (Nat.le_of_ble_eq_true rfl)) dX9_bytesOf_32 ⟨Nat.le_of_ble_eq_true rfl, Nat.le_of_ble_eq_true rfl⟩) hS (fun q _ h => hFc q h) hFc (fun u t H1 locs ht hvm er_2 hB hz1 hk1 hS => ?_)
        obtain ⟨hP1, hK1, hD1⟩ := hB
        rw [ht] at hP1
        obtain ⟨hP, hD⟩ := va_join (wr := []) (w1 := [(h0, .inr (11, .ref hd :: fs)), (hd, .inl (cI, N, .inl (md_bytes f at_ v (nI cn) (k + 1))))]) hP hD [0, 1] [] rfl rfl (by decide) (by decide) hk1 hFc hP1 hD1
        clear hPc hDc hFc hP1 hD1 hk1 hz1
        generalize H1 = H at hP hS ⊢
        have hP : va_P (dC, dI) vwCl [(h0, .inr (11, .ref hd :: fs)), (hd, .inl (cI, N, .inl (md_bytes f at_ v (nI cn) (k + 1))))] H := hP
        have hD : va_D A [(h0, .inr (11, .ref hd :: fs)), (hd, .inl (cI, N, .inl (md_bytes f at_ v (nI cn) (k + 1))))] := hD
        obtain ⟨x_3, ex_3⟩ : ∃ z : Int32, z = (nI k) + (1) := ⟨_, rfl⟩
        refine lv_iinc (v := x_3) (lv' := [(5, .int x_3), (0, .ref h0), (1, .int at_), (2, .long v), (4, .int (nI cn))]) hx hb dX9_bytesOf_35 hl (k := 0) rfl (by rw [ex_3]; rfl) (by decide) rfl (fun ls hl => ?_)
        refine lv_goto (tgt := 3) hx hb dX9_bytesOf_38 (by decide) ?_
        exact ih (k + 1) _ _ _ _ hk (by omega) (by rw [ex_3]; exact nI_1 _) hP hD hS (lv_sub hl [0, 1, 2, 3, 4] rfl)
  refine lv_iconst (v := 0) hx hb dX9_bytesOf_0 (by decide) ?_
  refine lv_istore (lv' := [(5, .int (0 : Int32)), (0, .ref h0), (1, .int at_), (2, .long v), (4, .int (nI cn))]) hx hb dX9_bytesOf_1 hl (by decide) rfl (fun ls hl => ?_)
  exact loop (cn + 1) 0 0 _ _ _ (Nat.zero_le _) (by omega) nI_0.symm hP hD hS (lv_sub hl [0, 1, 2, 3, 4] rfl)
def md_sum (f : Nat → Int32) (at_ : Int32) (s : Int64) : Nat → Int64 := fun k => Nat.rec s (fun k r => pu_more r (md_get f (at_ + nI k))) k
set_option maxHeartbeats 4000000 in
set_option maxRecDepth 100000 in
theorem k_X9_sumOf (l : Launch) (dC : Nat → ClassId) (dI : Nat → Nat → Nat) (h0 hd N : Nat) (cI : ClassId) (fs : List Value) (f : Nat → Int32) (by_ at_ : Int32) (cn : Nat) (hc : cn < 2 ^ 31) (hi : ∀ k, k < cn → vp_in ((at_ + nI k) >>> ((2 : Int32) &&& 31)) N) : Met l yX9_sumOf wsX9_sumOf ({ frames := 1, cells := 0, slots := 0, locals := 24 }) (va_Pc [.ref h0, .int by_, .int at_, .int (nI cn)] (fun U => va_P (dC, dI) vwCl [(h0, .inr (11, .ref hd :: fs)), (hd, .inl (cI, N, .inl f))] U.heap ∧ va_K (dC, dI) vwCl [(cI, .int)] U)) (vp_Sl (fun r => r = md_sum f at_ (1000003 * by_.toInt64) cn)) 0 0 (fun _ => False) := by
  refine Met.ofW (cc := cX9_sumOf) (maxL := 7) (ret := (some .long)) (by decide) rfl ?_
  intro p e s m args below meth c s₁ B hml hv
  obtain ⟨rfl, hP, hK⟩ := hv
  have hx := B.exec
  have hb := B.bytes
  have hr := B.returns
  have hts := atoms_spec (ws := wsX9_sumOf) B.pre
  have hown : s.vm.findClass RX9 = some m.cls := findClass_of_methodNamed B.named
  have hlocks := B.notSynchronized
  have hl := lv_entry ([.ref h0, .int by_, .int at_, .int (nI cn)]) (n := 7) (Nat.le_of_ble_eq_true rfl)
  rw [lg_entry_eq]
  generalize (lg_sl ([.ref h0, .int by_, .int at_, .int (nI cn)]) ++ List.replicate (7 - (lg_sl ([.ref h0, .int by_, .int at_, .int (nI cn)])).length) Slot.unset).toArray = ls at hl ⊢
  have hl : lv_has ls 7 [(0, .ref h0), (1, .int by_), (2, .int at_), (3, .int (nI cn))] := hl
  have loop : ∀ (n k : Nat) (i : Int32) (acc : Int64) (ls : Array Slot), k ≤ cn → cn - k < n → i = nI k → acc = md_sum f at_ (1000003 * by_.toInt64) k → lv_has ls 7 [(6, .int i), (4, .long acc), (0, .ref h0), (1, .int by_), (2, .int at_), (3, .int (nI cn))] → W p l e (headSpec wsX9_sumOf ({ frames := 1, cells := 0, slots := 0, locals := 24 })).room s m ([.ref h0, .int by_, .int at_, .int (nI cn)] : List Value).toArray below meth c s.heap [] 0 0 (MQ below (vp_Sl (fun r => r = md_sum f at_ (1000003 * by_.toInt64) cn)) ([.ref h0, .int by_, .int at_, .int (nI cn)] : List Value).toArray s 0 0 (fun _ => False)) (F0 m 11 ls []) := by
    intro n
    induction n with
    | zero => intro k i acc ls h1 h2; omega
    | succ n ih =>
      intro k i acc ls h1 h2 ei eacc hl
      refine lv_iload hx hb dX9_sumOf_11 (lv_at hl 0 rfl) ?_
      refine lv_iload_n hx hb dX9_sumOf_13 rfl (lv_at hl 5 rfl) ?_
      refine lv_icmp_ge (tgt := 38) hx hb dX9_sumOf_14 (by decide) (fun c_1 => ?_) (fun c_1 => ?_)
      · skip
        have hk : k = cn := by
          rcases Nat.lt_or_ge k cn with q | q
          · exact absurd c_1 (by rw [ei]; exact nI_ge q (by omega))
          · omega
        subst hk
        refine lv_lload hx hb dX9_sumOf_38 (lv_at hl 1 rfl) ?_
        exact W.lret hx hb hr (fun t ht hW => ⟨_, rfl, eacc, ht⟩) (fun q h => by cases h) dX9_sumOf_40
      · skip
        have hk : k + 1 ≤ cn := by
          rcases Nat.lt_or_ge k cn with q | q
          · exact q
          · exact absurd (by rw [ei]; exact nI_le q (by omega)) c_1
        subst ei
        refine lv_lload hx hb dX9_sumOf_17 (lv_at hl 1 rfl) ?_
        refine lv_aload_n hx hb dX9_sumOf_19 rfl (lv_at hl 2 rfl) ?_
        refine lv_iload_n hx hb dX9_sumOf_20 rfl (lv_at hl 4 rfl) ?_
        refine lv_iload hx hb dX9_sumOf_21 (lv_at hl 0 rfl) ?_
        refine lv_iadd hx hb dX9_sumOf_23 ?_
        have hPc := hP.sub (ws' := [(h0, .inr (11, .ref hd :: fs)), (hd, .inl (cI, N, .inl f))]) [0, 1] rfl
        have hKc := hK.sub (tys' := [(cI, .int)]) [0] rfl
        refine vp_callSi (va_Run.run (va_runV (As := [.int (at_ + (nI k))]) (rest := [.long acc]) ⟨hx, hb, hml, hown, hts⟩ (k_X9_byteIn l dC dI h0 hd N cI fs f _ (hi k hk)) (cwV 1 hts gX9_sumOf_X9_byteIn rfl rfl rfl (by decide +kernel) ⟨Nat.le_of_ble_eq_true rfl, Nat.le_of_ble_eq_true rfl⟩) ⟨fun a U g mk q => by obtain ⟨q0, qP, qK⟩ := q; exact ⟨q0, qP, va_K.moved (u := U) (U := U.calling g mk a) (Vm.Alike.refl U.vm) qK⟩, va_recv hK hP (ci := 11) (q := (RX9, TX9, 38)) rfl (q0 := 0) rfl, fun U hU hW => ⟨rfl, by rw [hU]; exact hPc, va_K.moved hW.alike hKc⟩⟩ rfl rfl hl.1 rfl (lv_room (Nat.le_of_ble_eq_true rfl)) dX9_sumOf_24 ⟨Nat.le_of_ble_eq_true rfl, Nat.le_of_ble_eq_true rfl⟩)) (fun r_2 er_2 => ?_)
        refine vp_callSl (va_Run.run (va_runS (As := [.long acc, .int r_2]) (rest := []) ⟨hx, hb, hml, hown, hts⟩ (k_X9_more l _ _) (va_cwS 2 hts gX9_sumOf_X9_more rfl rfl rfl (by decide +kernel) ⟨Nat.le_of_ble_eq_true rfl, Nat.le_of_ble_eq_true rfl⟩) ⟨fun a U g mk q => q, fun U hU hW => ⟨rfl, trivial⟩⟩ rfl rfl hl.1 rfl (lv_room (Nat.le_of_ble_eq_true rfl)) dX9_sumOf_27 ⟨Nat.le_refl _, Nat.le_refl _⟩)) (fun r_3 er_3 => ?_)
        refine lv_lstore (lv' := [(4, .long r_3), (6, .int (nI k)), (0, .ref h0), (1, .int by_), (2, .int at_), (3, .int (nI cn))]) hx hb dX9_sumOf_30 hl (by decide) rfl (fun ls hl => ?_)
        obtain ⟨x_4, ex_4⟩ : ∃ z : Int32, z = (nI k) + (1) := ⟨_, rfl⟩
        refine lv_iinc (v := x_4) (lv' := [(6, .int x_4), (4, .long r_3), (0, .ref h0), (1, .int by_), (2, .int at_), (3, .int (nI cn))]) hx hb dX9_sumOf_32 hl (k := 1) rfl (by rw [ex_4]; rfl) (by decide) rfl (fun ls hl => ?_)
        refine lv_goto (tgt := 11) hx hb dX9_sumOf_35 (by decide) ?_
        exact ih (k + 1) _ _ _ hk (by omega) (by rw [ex_4]; exact nI_1 _) (by rw [er_3, er_2, eacc]; rfl) (lv_sub hl [0, 1, 2, 3, 4, 5] rfl)
  refine lv_ldc2 hx hb hown (hts (.constantLong RX9 102 (1000003)) (by decide +kernel)) dX9_sumOf_0 ?_
  refine lv_iload_n hx hb dX9_sumOf_3 rfl (lv_at hl 1 rfl) ?_
  refine lv_i2l hx hb dX9_sumOf_4 rfl ?_
  refine lv_lmul hx hb dX9_sumOf_5 ?_
  refine lv_lstore (lv' := [(4, .long ((1000003 : Int64) * by_.toInt64)), (0, .ref h0), (1, .int by_), (2, .int at_), (3, .int (nI cn))]) hx hb dX9_sumOf_6 hl (by decide) rfl (fun ls hl => ?_)
  refine lv_iconst (v := 0) hx hb dX9_sumOf_8 (by decide) ?_
  refine lv_istore (lv' := [(6, .int (0 : Int32)), (4, .long ((1000003 : Int64) * by_.toInt64)), (0, .ref h0), (1, .int by_), (2, .int at_), (3, .int (nI cn))]) hx hb dX9_sumOf_9 hl (by decide) rfl (fun ls hl => ?_)
  exact loop (cn + 1) 0 0 _ _ (Nat.zero_le _) (by omega) nI_0.symm rfl (lv_sub hl [0, 1, 2, 3, 4, 5] rfl)
def cl_pages (n : Int32) : Int32 := if n < 1 then 1 else if 65536 < n then 65536 else n
def md_head0 : Nat → Int32 := md_set (md_bytes (fun _ => 0) 0 1 (nI 4) 4) 7 165
def md_fresh : Nat → Int32 := md_bytes md_head0 8 (md_sum md_head0 0 (1000003 * (1 : Int32).toInt64) 8) (nI 8) 8
theorem md_in4 : ∀ k, k < 4 → vp_in (((0 : Int32) + nI k) >>> ((2 : Int32) &&& 31)) 428040 := by unfold vp_in; decide +kernel
theorem md_in8 : ∀ k, k < 8 → vp_in (((0 : Int32) + nI k) >>> ((2 : Int32) &&& 31)) 428040 := by unfold vp_in; decide +kernel
theorem md_in88 : ∀ k, k < 8 → vp_in (((8 : Int32) + nI k) >>> ((2 : Int32) &&& 31)) 428040 := by unfold vp_in; decide +kernel
theorem md_in7 : vp_in ((7 : Int32) >>> ((2 : Int32) &&& 31)) 428040 := by unfold vp_in; decide +kernel