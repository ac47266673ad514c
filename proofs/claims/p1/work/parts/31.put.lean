def pu_putI (f : Nat → Int32) (fr v : Int32) : Nat → Nat → Int32 := fun k => Nat.rec f (fun k g => upd g (fr + nI k).toNatClampNeg (vp_nar .byte ((v.toUInt32 >>> (((24 : Int32) - (8 : Int32) * nI k).toUInt32 &&& Int32.toUInt32 31)).toInt32.toInt8.toInt32))) k
def pu_putL (f : Nat → Int32) (fr : Int32) (v : Int64) : Nat → Nat → Int32 := fun k => Nat.rec f (fun k g => upd g (fr + nI k).toNatClampNeg (vp_nar .byte ((v.toUInt64 >>> (((56 : Int32) - (8 : Int32) * nI k).toInt64.toUInt64 &&& Int64.toUInt64 63)).toInt64.toInt32.toInt8.toInt32))) k
set_option maxHeartbeats 4000000 in
set_option maxRecDepth 100000 in
theorem k_X0_putInt (l : Launch) (dC : Nat → ClassId) (dI : Nat → Nat → Nat) (a N : Nat) (cB : ClassId) (f : Nat → Int32) (fr : Int32) (v : Int32) (sz : Nat) (hi : ∀ k, k < 4 → vp_in (fr + nI k) N) : Met l yX0_putInt wsX0_putInt ({ frames := 0, cells := 0, slots := 0, locals := 0 }) (va_Pc [.ref a, .int fr, .int v] (fun U => U.heap.size = sz ∧ va_P (dC, dI) vwCl [(a, .inl (cB, N, .inl f))] U.heap ∧ va_K (dC, dI) vwCl [(cB, .byte)] U ∧ va_D (fun _ => True) [(a, .inl (cB, N, .inl f))])) (va_Qv (fun (_ : Unit) => True) (fun (_ : Unit) t => va_P (dC, dI) vwCl [(a, .inl (cB, N, .inl (pu_putI f fr v 4)))] t.heap ∧ va_K (dC, dI) vwCl [(cB, .byte)] t ∧ va_D (va_A [(a, .inl (cB, N, .inl f))] sz) [(a, .inl (cB, N, .inl (pu_putI f fr v 4)))]) (va_A [(a, .inl (cB, N, .inl f))] sz)) 0 0 (va_A [(a, .inl (cB, N, .inl f))] sz) := by
  refine Met.ofW (cc := cX0_putInt) (maxL := 4) (ret := none) (by decide) rfl ?_
  intro p e s m args below meth c s₁ B hml hv
  obtain ⟨rfl, hsz, hP, hK, hD0⟩ := hv
  have hx := B.exec
  have hb := B.bytes
  have hr := B.returns
  have hts := atoms_spec (ws := wsX0_putInt) B.pre
  have hown : s.vm.findClass RX0 = some m.cls := findClass_of_methodNamed B.named
  have hlocks := B.notSynchronized
  subst hsz
  have hD := hD0.self (sz := s.heap.size)
  generalize hAe : va_A [(a, .inl (cB, N, .inl f))] s.heap.size = A at hD ⊢
  have hA : ∀ q : Nat, s.heap.size ≤ q → A q := fun q h => by rw [← hAe]; exact Or.inr h
  have hS : va_S A s.heap s.heap [] := va_S.rf
  have hl := lv_entry ([.ref a, .int fr, .int v]) (n := 4) (Nat.le_of_ble_eq_true rfl)
  rw [lg_entry_eq]
  generalize (lg_sl ([.ref a, .int fr, .int v]) ++ List.replicate (4 - (lg_sl ([.ref a, .int fr, .int v])).length) Slot.unset).toArray = ls at hl ⊢
  have hl : lv_has ls 4 [(0, .ref a), (1, .int fr), (2, .int v)] := hl
  have loop : ∀ (n k : Nat) (i : Int32) (H : Heap) (locs : List Loc) (ls : Array Slot), k ≤ 4 → 4 - k < n → i = nI k → va_P (dC, dI) vwCl [(a, .inl (cB, N, .inl (pu_putI f fr v k)))] H → va_D A [(a, .inl (cB, N, .inl (pu_putI f fr v k)))] → va_S A s.heap H locs → lv_has ls 4 [(3, .int i), (0, .ref a), (1, .int fr), (2, .int v)] → W p l e (headSpec wsX0_putInt ({ frames := 0, cells := 0, slots := 0, locals := 0 })).room s m ([.ref a, .int fr, .int v] : List Value).toArray below meth c H locs 0 0 (MQ below (va_Qv (fun (_ : Unit) => True) (fun (_ : Unit) t => va_P (dC, dI) vwCl [(a, .inl (cB, N, .inl (pu_putI f fr v 4)))] t.heap ∧ va_K (dC, dI) vwCl [(cB, .byte)] t ∧ va_D A [(a, .inl (cB, N, .inl (pu_putI f fr v 4)))]) A) ([.ref a, .int fr, .int v] : List Value).toArray s 0 0 A) (F0 m 2 ls []) := by
    intro n
    induction n with
    | zero => intro k i H locs ls h1 h2; omega
    | succ n ih =>
      intro k i H locs ls h1 h2 ei hP hD hS hl
      refine lv_iload_n hx hb dX0_putInt_2 rfl (lv_at hl 0 rfl) ?_
      refine lv_iconst (v := 4) hx hb dX0_putInt_3 (by decide) ?_
      refine lv_icmp_ge (tgt := 28) hx hb dX0_putInt_4 (by decide) (fun c_1 => ?_) (fun c_1 => ?_)
      · skip
        have hk : k = 4 := by
          rcases Nat.lt_or_ge k 4 with q | q
          · exact absurd c_1 (by rw [ei]; exact nI_ge (b := 4) q (by decide))
          · omega
        subst hk
        exact W.vret hx hb hr (fun t ht hW => ⟨⟨(), rfl, trivial, by rw [ht]; exact hP, va_K.moved hW.alike hK, hD⟩, hS.F ht⟩) hS.2.2 dX0_putInt_28
      · skip
        have hk : k + 1 ≤ 4 := by
          rcases Nat.lt_or_ge k 4 with q | q
          · exact q
          · exact absurd (by rw [ei]; exact nI_le q (by omega)) c_1
        subst ei
        refine lv_aload_n hx hb dX0_putInt_7 rfl (lv_at hl 1 rfl) ?_
        refine lv_iload_n hx hb dX0_putInt_8 rfl (lv_at hl 2 rfl) ?_
        refine lv_iload_n hx hb dX0_putInt_9 rfl (lv_at hl 0 rfl) ?_
        refine lv_iadd hx hb dX0_putInt_10 ?_
        refine lv_iload_n hx hb dX0_putInt_11 rfl (lv_at hl 3 rfl) ?_
        refine lv_bipush (v := 24) hx hb dX0_putInt_12 (by decide) ?_
        refine lv_bipush (v := 8) hx hb dX0_putInt_14 (by decide) ?_
        refine lv_iload_n hx hb dX0_putInt_16 rfl (lv_at hl 0 rfl) ?_
        refine lv_imul hx hb dX0_putInt_17 ?_
        refine lv_isub hx hb dX0_putInt_18 ?_
        refine lv_iushr hx hb dX0_putInt_19 rfl ?_
        refine lv_i2b hx hb dX0_putInt_20 rfl ?_
        refine va_bast hx hb hK hP hD hS 0 0 rfl rfl (hi k hk) dX0_putInt_21 (fun H locs hP hD hS => ?_)
        have hP : va_P (dC, dI) vwCl [(a, .inl (cB, N, .inl (upd (pu_putI f fr v k) (fr + (nI k)).toNatClampNeg (vp_nar .byte (((v.toUInt32 >>> (((24 : Int32) - ((8 : Int32) * (nI k))).toUInt32 &&& Int32.toUInt32 31)).toInt32).toInt8.toInt32)))))] H := hP
        have hD : va_D A [(a, .inl (cB, N, .inl (upd (pu_putI f fr v k) (fr + (nI k)).toNatClampNeg (vp_nar .byte (((v.toUInt32 >>> (((24 : Int32) - ((8 : Int32) * (nI k))).toUInt32 &&& Int32.toUInt32 31)).toInt32).toInt8.toInt32)))))] := hD
        have hP : va_P (dC, dI) vwCl [(a, .inl (cB, N, .inl (pu_putI f fr v (k + 1))))] H := hP
        have hD : va_D A [(a, .inl (cB, N, .inl (pu_putI f fr v (k + 1))))] := hD
        obtain ⟨x_2, ex_2⟩ : ∃ z : Int32, z = (nI k) + (1) := ⟨_, rfl⟩
        refine lv_iinc (v := x_2) (lv' := [(3, .int x_2), (0, .ref a), (1, .int fr), (2, .int v)]) hx hb dX0_putInt_22 hl (k := 0) rfl (by rw [ex_2]; rfl) (by decide) rfl (fun ls hl => ?_)
        refine lv_goto (tgt := 2) hx hb dX0_putInt_25 (by decide) ?_
        exact ih (k + 1) _ _ _ _ hk (by omega) (by rw [ex_2]; exact nI_1 _) hP hD hS (lv_sub hl [0, 1, 2, 3] rfl)
  refine lv_iconst (v := 0) hx hb dX0_putInt_0 (by decide) ?_
  refine lv_istore_n (lv' := [(3, .int (0 : Int32)), (0, .ref a), (1, .int fr), (2, .int v)]) hx hb dX0_putInt_1 rfl hl (by decide) rfl (fun ls hl => ?_)
  exact loop (4 + 1) 0 0 _ _ _ (Nat.zero_le _) (by omega) nI_0.symm hP hD hS (lv_sub hl [0, 1, 2, 3] rfl)
set_option maxHeartbeats 4000000 in
set_option maxRecDepth 100000 in
theorem k_X0_putLong (l : Launch) (dC : Nat → ClassId) (dI : Nat → Nat → Nat) (a N : Nat) (cB : ClassId) (f : Nat → Int32) (fr : Int32) (v : Int64) (sz : Nat) (hi : ∀ k, k < 8 → vp_in (fr + nI k) N) : Met l yX0_putLong wsX0_putLong ({ frames := 0, cells := 0, slots := 0, locals := 0 }) (va_Pc [.ref a, .int fr, .long v] (fun U => U.heap.size = sz ∧ va_P (dC, dI) vwCl [(a, .inl (cB, N, .inl f))] U.heap ∧ va_K (dC, dI) vwCl [(cB, .byte)] U ∧ va_D (fun _ => True) [(a, .inl (cB, N, .inl f))])) (va_Qv (fun (_ : Unit) => True) (fun (_ : Unit) t => va_P (dC, dI) vwCl [(a, .inl (cB, N, .inl (pu_putL f fr v 8)))] t.heap ∧ va_K (dC, dI) vwCl [(cB, .byte)] t ∧ va_D (va_A [(a, .inl (cB, N, .inl f))] sz) [(a, .inl (cB, N, .inl (pu_putL f fr v 8)))]) (va_A [(a, .inl (cB, N, .inl f))] sz)) 0 0 (va_A [(a, .inl (cB, N, .inl f))] sz) := by
  refine Met.ofW (cc := cX0_putLong) (maxL := 5) (ret := none) (by decide) rfl ?_
  intro p e s m args below meth c s₁ B hml hv
  obtain ⟨rfl, hsz, hP, hK, hD0⟩ := hv
  have hx := B.exec
  have hb := B.bytes
  have hr := B.returns
  have hts := atoms_spec (ws := wsX0_putLong) B.pre
  have hown : s.vm.findClass RX0 = some m.cls := findClass_of_methodNamed B.named
  have hlocks := B.notSynchronized
  subst hsz
  have hD := hD0.self (sz := s.heap.size)
  generalize hAe : va_A [(a, .inl (cB, N, .inl f))] s.heap.size = A at hD ⊢
  have hA : ∀ q : Nat, s.heap.size ≤ q → A q := fun q h => by rw [← hAe]; exact Or.inr h
  have hS : va_S A s.heap s.heap [] := va_S.rf
  have hl := lv_entry ([.ref a, .int fr, .long v]) (n := 5) (Nat.le_of_ble_eq_true rfl)
  rw [lg_entry_eq]
  generalize (lg_sl ([.ref a, .int fr, .long v]) ++ List.replicate (5 - (lg_sl ([.ref a, .int fr, .long v])).length) Slot.unset).toArray = ls at hl ⊢
  have hl : lv_has ls 5 [(0, .ref a), (1, .int fr), (2, .long v)] := hl
  have loop : ∀ (n k : Nat) (i : Int32) (H : Heap) (locs : List Loc) (ls : Array Slot), k ≤ 8 → 8 - k < n → i = nI k → va_P (dC, dI) vwCl [(a, .inl (cB, N, .inl (pu_putL f fr v k)))] H → va_D A [(a, .inl (cB, N, .inl (pu_putL f fr v k)))] → va_S A s.heap H locs → lv_has ls 5 [(4, .int i), (0, .ref a), (1, .int fr), (2, .long v)] → W p l e (headSpec wsX0_putLong ({ frames := 0, cells := 0, slots := 0, locals := 0 })).room s m ([.ref a, .int fr, .long v] : List Value).toArray below meth c H locs 0 0 (MQ below (va_Qv (fun (_ : Unit) => True) (fun (_ : Unit) t => va_P (dC, dI) vwCl [(a, .inl (cB, N, .inl (pu_putL f fr v 8)))] t.heap ∧ va_K (dC, dI) vwCl [(cB, .byte)] t ∧ va_D A [(a, .inl (cB, N, .inl (pu_putL f fr v 8)))]) A) ([.ref a, .int fr, .long v] : List Value).toArray s 0 0 A) (F0 m 3 ls []) := by
    intro n
    induction n with
    | zero => intro k i H locs ls h1 h2; omega
    | succ n ih =>
      intro k i H locs ls h1 h2 ei hP hD hS hl
      refine lv_iload hx hb dX0_putLong_3 (lv_at hl 0 rfl) ?_
      refine lv_bipush (v := 8) hx hb dX0_putLong_5 (by decide) ?_
      refine lv_icmp_ge (tgt := 34) hx hb dX0_putLong_7 (by decide) (fun c_1 => ?_) (fun c_1 => ?_)
      · skip
        have hk : k = 8 := by
          rcases Nat.lt_or_ge k 8 with q | q
          · exact absurd c_1 (by rw [ei]; exact nI_ge (b := 8) q (by decide))
          · omega
        subst hk
        exact W.vret hx hb hr (fun t ht hW => ⟨⟨(), rfl, trivial, by rw [ht]; exact hP, va_K.moved hW.alike hK, hD⟩, hS.F ht⟩) hS.2.2 dX0_putLong_34
      · skip
        have hk : k + 1 ≤ 8 := by
          rcases Nat.lt_or_ge k 8 with q | q
          · exact q
          · exact absurd (by rw [ei]; exact nI_le q (by omega)) c_1
        subst ei
        refine lv_aload_n hx hb dX0_putLong_10 rfl (lv_at hl 1 rfl) ?_
        refine lv_iload_n hx hb dX0_putLong_11 rfl (lv_at hl 2 rfl) ?_
        refine lv_iload hx hb dX0_putLong_12 (lv_at hl 0 rfl) ?_
        refine lv_iadd hx hb dX0_putLong_14 ?_
        refine lv_lload_n hx hb dX0_putLong_15 rfl (lv_at hl 3 rfl) ?_
        refine lv_bipush (v := 56) hx hb dX0_putLong_16 (by decide) ?_
        refine lv_bipush (v := 8) hx hb dX0_putLong_18 (by decide) ?_
        refine lv_iload hx hb dX0_putLong_20 (lv_at hl 0 rfl) ?_
        refine lv_imul hx hb dX0_putLong_22 ?_
        refine lv_isub hx hb dX0_putLong_23 ?_
        refine lv_lushr hx hb dX0_putLong_24 rfl ?_
        refine lv_l2i hx hb dX0_putLong_25 rfl ?_
        refine lv_i2b hx hb dX0_putLong_26 rfl ?_
        refine va_bast hx hb hK hP hD hS 0 0 rfl rfl (hi k hk) dX0_putLong_27 (fun H locs hP hD hS => ?_)
        have hP : va_P (dC, dI) vwCl [(a, .inl (cB, N, .inl (upd (pu_putL f fr v k) (fr + (nI k)).toNatClampNeg (vp_nar .byte ((((v.toUInt64 >>> (((56 : Int32) - ((8 : Int32) * (nI k))).toInt64.toUInt64 &&& Int64.toUInt64 63)).toInt64).toInt32).toInt8.toInt32)))))] H := hP
        have hD : va_D A [(a, .inl (cB, N, .inl (upd (pu_putL f fr v k) (fr + (nI k)).toNatClampNeg (vp_nar .byte ((((v.toUInt64 >>> (((56 : Int32) - ((8 : Int32) * (nI k))).toInt64.toUInt64 &&& Int64.toUInt64 63)).toInt64).toInt32).toInt8.toInt32)))))] := hD
        have hP : va_P (dC, dI) vwCl [(a, .inl (cB, N, .inl (pu_putL f fr v (k + 1))))] H := hP
        have hD : va_D A [(a, .inl (cB, N, .inl (pu_putL f fr v (k + 1))))] := hD
        obtain ⟨x_2, ex_2⟩ : ∃ z : Int32, z = (nI k) + (1) := ⟨_, rfl⟩
        refine lv_iinc (v := x_2) (lv' := [(4, .int x_2), (0, .ref a), (1, .int fr), (2, .long v)]) hx hb dX0_putLong_28 hl (k := 0) rfl (by rw [ex_2]; rfl) (by decide) rfl (fun ls hl => ?_)
        refine lv_goto (tgt := 3) hx hb dX0_putLong_31 (by decide) ?_
        exact ih (k + 1) _ _ _ _ hk (by omega) (by rw [ex_2]; exact nI_1 _) hP hD hS (lv_sub hl [0, 1, 2, 3] rfl)
  refine lv_iconst (v := 0) hx hb dX0_putLong_0 (by decide) ?_
  refine lv_istore (lv' := [(4, .int (0 : Int32)), (0, .ref a), (1, .int fr), (2, .long v)]) hx hb dX0_putLong_1 hl (by decide) rfl (fun ls hl => ?_)
  exact loop (8 + 1) 0 0 _ _ _ (Nat.zero_le _) (by omega) nI_0.symm hP hD hS (lv_sub hl [0, 1, 2, 3] rfl)
