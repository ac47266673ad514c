def md_sum (f : Nat → Int32) (at_ : Int32) (s : Int64) : Nat → Int64 := fun k => Nat.rec s (fun k r => pu_more r (md_get f (at_ + nI k))) k
def md_num (f : Nat → Int32) (at_ : Int32) : Nat → Int64 := fun k => Nat.rec 0 (fun k r => r <<< ((8 : Int32).toInt64 &&& 63) ||| (md_get f (at_ + nI k)).toInt64) k
set_option maxHeartbeats 4000000 in
set_option maxRecDepth 100000 in
theorem k_X9_sumOf (l : Launch) (dC : Nat → ClassId) (dI : Nat → Nat → Nat) (h0 hd N : Nat) (cI : ClassId) (fs : List Value) (f : Nat → Int32) (by_ at_ : Int32) (cn : Nat) (hc : cn < 2 ^ 31) (hi : ∀ k, k < cn → vp_in ((at_ + nI k) >>> ((2 : Int32) &&& 31)) N) : Met l yX9_sumOf wsX9_sumOf ({ frames := 1, cells := 0, slots := 0, locals := 24 }) (va_Pc [.ref h0, .int by_, .int at_, .int (nI cn)] (fun U => va_P (dC, dI) vwCl [(h0, .inr (11, .ref hd :: fs)), (hd, .inl (cI, N, .inl f))] U.heap ∧ va_K (dC, dI) vwCl [(cI, .int)] U)) (vp_Sl (fun r => r = md_sum f at_ (1000003 * by_.toInt64) cn)) 0 0 (fun _ => False) := by
  refine Met.ofW (cc := cX9_sumOf) (maxL := 7) (ret := (some .long)) (by decide) rfl ?_
  intro p e s m args below meth c s₁ B hml hv
  obtain ⟨rfl, hP, hK⟩ := hv
  have hx := B.exec
  have hb := B.bytes
  have hr := B.returns
  have hts := atoms_spec (ws := wsX9_sumOf) B.pre
  have hown : s.vm.findClass RX9 = some m.cls := findClass_of_methodNamed B.named
  have hlocks := B.notSynchronized
  have hl := lv_entry ([.ref h0, .int by_, .int at_, .int (nI cn)]) (n := 7) (Nat.le_of_ble_eq_true rfl)
  rw [lg_entry_eq]
  generalize (lg_sl ([.ref h0, .int by_, .int at_, .int (nI cn)]) ++ List.replicate (7 - (lg_sl ([.ref h0, .int by_, .int at_, .int (nI cn)])).length) Slot.unset).toArray = ls at hl ⊢
  have hl : lv_has ls 7 [(0, .ref h0), (1, .int by_), (2, .int at_), (3, .int (nI cn))] := hl
  have loop : ∀ (n k : Nat) (i : Int32) (acc : Int64) (ls : Array Slot), k ≤ cn → cn - k < n → i = nI k → acc = md_sum f at_ (1000003 * by_.toInt64) k → lv_has ls 7 [(6, .int i), (4, .long acc), (0, .ref h0), (1, .int by_), (2, .int at_), (3, .int (nI cn))] → W p l e (headSpec wsX9_sumOf ({ frames := 1, cells := 0, slots := 0, locals := 24 })).room s m ([.ref h0, .int by_, .int at_, .int (nI cn)] : List Value).toArray below meth c s.heap [] 0 0 (MQ below (vp_Sl (fun r => r = md_sum f at_ (1000003 * by_.toInt64) cn)) ([.ref h0, .int by_, .int at_, .int (nI cn)] : List Value).toArray s 0 0 (fun _ => False)) (F0 m 11 ls []) := by
    intro n
    induction n with
    | zero => intro k i acc ls h1 h2; omega
    | succ n ih =>
      intro k i acc ls h1 h2 ei eacc hl
      refine lv_iload hx hb dX9_sumOf_11 (lv_at hl 0 rfl) ?_
      refine lv_iload_n hx hb dX9_sumOf_13 rfl (lv_at hl 5 rfl) ?_
      refine lv_icmp_ge (tgt := 38) hx hb dX9_sumOf_14 (by decide) (fun c_1 => ?_) (fun c_1 => ?_)
      · skip
        have hk : k = cn := by
          rcases Nat.lt_or_ge k cn with q | q
          · exact absurd c_1 (by rw [ei]; exact nI_ge q (by omega))
          · omega
        subst hk
        refine lv_lload hx hb dX9_sumOf_38 (lv_at hl 1 rfl) ?_
        exact W.lret hx hb hr (fun t ht hW => ⟨_, rfl, eacc, ht⟩) (fun q h => by cases h) dX9_sumOf_40
      · skip
        have hk : k + 1 ≤ cn := by
          rcases Nat.lt_or_ge k cn with q | q
          · exact q
          · exact absurd (by rw [ei]; exact nI_le q (by omega)) c_1
        subst ei
        refine lv_lload hx hb dX9_sumOf_17 (lv_at hl 1 rfl) ?_
        refine lv_aload_n hx hb dX9_sumOf_19 rfl (lv_at hl 2 rfl) ?_
        refine lv_iload_n hx hb dX9_sumOf_20 rfl (lv_at hl 4 rfl) ?_
        refine lv_iload hx hb dX9_sumOf_21 (lv_at hl 0 rfl) ?_
        refine lv_iadd hx hb dX9_sumOf_23 ?_
        have hPc := hP.sub (ws' := [(h0, .inr (11, .ref hd :: fs)), (hd, .inl (cI, N, .inl f))]) [0, 1] rfl
        have hKc := hK.sub (tys' := [(cI, .int)]) [0] rfl
        refine vp_callSi (va_Run.run (va_runV (As := [.int (at_ + (nI k))]) (rest := [.long acc]) ⟨hx, hb, hml, hown, hts⟩ (k_X9_byteIn l dC dI h0 hd N cI fs f _ (hi k hk)) (cwV 1 hts gX9_sumOf_X9_byteIn rfl rfl rfl (by decide +kernel) ⟨Nat.le_of_ble_eq_true rfl, Nat.le_of_ble_eq_true rfl⟩) ⟨fun a U g mk q => by obtain ⟨q0, qP, qK⟩ := q; exact ⟨q0, qP, va_K.moved (u := U) (U := U.calling g mk a) (Vm.Alike.refl U.vm) qK⟩, va_recv hK hP (ci := 11) (q := (RX9, TX9, 38)) rfl (q0 := 0) rfl, fun U hU hW => ⟨rfl, by rw [hU]; exact hPc, va_K.moved hW.alike hKc⟩⟩ rfl rfl hl.1 rfl (lv_room (Nat.le_of_ble_eq_true rfl)) dX9_sumOf_24 ⟨Nat.le_of_ble_eq_true rfl, Nat.le_of_ble_eq_true rfl⟩)) (fun r_2 er_2 => ?_)
        refine vp_callSl (va_Run.run (va_runS (As := [.long acc, .int r_2]) (rest := []) ⟨hx, hb, hml, hown, hts⟩ (k_X9_more l _ _) (va_cwS 2 hts gX9_sumOf_X9_more rfl rfl rfl (by decide +kernel) ⟨Nat.le_of_ble_eq_true rfl, Nat.le_of_ble_eq_true rfl⟩) ⟨fun a U g mk q => q, fun U hU hW => ⟨rfl, trivial⟩⟩ rfl rfl hl.1 rfl (lv_room (Nat.le_of_ble_eq_true rfl)) dX9_sumOf_27 ⟨Nat.le_refl _, Nat.le_refl _⟩)) (fun r_3 er_3 => ?_)
        refine lv_lstore (lv' := [(4, .long r_3), (6, .int (nI k)), (0, .ref h0), (1, .int by_), (2, .int at_), (3, .int (nI cn))]) hx hb dX9_sumOf_30 hl (by decide) rfl (fun ls hl => ?_)
        obtain ⟨x_4, ex_4⟩ : ∃ z : Int32, z = (nI k) + (1) := ⟨_, rfl⟩
        refine lv_iinc (v := x_4) (lv' := [(6, .int x_4), (4, .long r_3), (0, .ref h0), (1, .int by_), (2, .int at_), (3, .int (nI cn))]) hx hb dX9_sumOf_32 hl (k := 1) rfl (by rw [ex_4]; rfl) (by decide) rfl (fun ls hl => ?_)
        refine lv_goto (tgt := 11) hx hb dX9_sumOf_35 (by decide) ?_
        exact ih (k + 1) _ _ _ hk (by omega) (by rw [ex_4]; exact nI_1 _) (by rw [er_3, er_2, eacc]; rfl) (lv_sub hl [0, 1, 2, 3, 4, 5] rfl)
  refine lv_ldc2 hx hb hown (hts (.constantLong RX9 102 (1000003)) (by decide +kernel)) dX9_sumOf_0 ?_
  refine lv_iload_n hx hb dX9_sumOf_3 rfl (lv_at hl 1 rfl) ?_
  refine lv_i2l hx hb dX9_sumOf_4 rfl ?_
  refine lv_lmul hx hb dX9_sumOf_5 ?_
  refine lv_lstore (lv' := [(4, .long ((1000003 : Int64) * by_.toInt64)), (0, .ref h0), (1, .int by_), (2, .int at_), (3, .int (nI cn))]) hx hb dX9_sumOf_6 hl (by decide) rfl (fun ls hl => ?_)
  refine lv_iconst (v := 0) hx hb dX9_sumOf_8 (by decide) ?_
  refine lv_istore (lv' := [(6, .int (0 : Int32)), (4, .long ((1000003 : Int64) * by_.toInt64)), (0, .ref h0), (1, .int by_), (2, .int at_), (3, .int (nI cn))]) hx hb dX9_sumOf_9 hl (by decide) rfl (fun ls hl => ?_)
  exact loop (cn + 1) 0 0 _ _ (Nat.zero_le _) (by omega) nI_0.symm rfl (lv_sub hl [0, 1, 2, 3, 4, 5] rfl)
set_option maxHeartbeats 4000000 in
set_option maxRecDepth 100000 in
theorem k_X9_number (l : Launch) (dC : Nat → ClassId) (dI : Nat → Nat → Nat) (h0 hd N : Nat) (cI : ClassId) (fs : List Value) (f : Nat → Int32) (at_ : Int32) (cn : Nat) (hc : cn < 2 ^ 31) (hi : ∀ k, k < cn → vp_in ((at_ + nI k) >>> ((2 : Int32) &&& 31)) N) : Met l yX9_number wsX9_number ({ frames := 1, cells := 0, slots := 0, locals := 24 }) (va_Pc [.ref h0, .int at_, .int (nI cn)] (fun U => va_P (dC, dI) vwCl [(h0, .inr (11, .ref hd :: fs)), (hd, .inl (cI, N, .inl f))] U.heap ∧ va_K (dC, dI) vwCl [(cI, .int)] U)) (vp_Sl (fun r => r = md_num f at_ cn)) 0 0 (fun _ => False) := by
  refine Met.ofW (cc := cX9_number) (maxL := 6) (ret := (some .long)) (by decide) rfl ?_
  intro p e s m args below meth c s₁ B hml hv
  obtain ⟨rfl, hP, hK⟩ := hv
  have hx := B.exec
  have hb := B.bytes
  have hr := B.returns
  have hts := atoms_spec (ws := wsX9_number) B.pre
  have hown : s.vm.findClass RX9 = some m.cls := findClass_of_methodNamed B.named
  have hlocks := B.notSynchronized
  have hl := lv_entry ([.ref h0, .int at_, .int (nI cn)]) (n := 6) (Nat.le_of_ble_eq_true rfl)
  rw [lg_entry_eq]
  generalize (lg_sl ([.ref h0, .int at_, .int (nI cn)]) ++ List.replicate (6 - (lg_sl ([.ref h0, .int at_, .int (nI cn)])).length) Slot.unset).toArray = ls at hl ⊢
  have hl : lv_has ls 6 [(0, .ref h0), (1, .int at_), (2, .int (nI cn))] := hl
  have loop : ∀ (n k : Nat) (i : Int32) (acc : Int64) (ls : Array Slot), k ≤ cn → cn - k < n → i = nI k → acc = md_num f at_ k → lv_has ls 6 [(5, .int i), (3, .long acc), (0, .ref h0), (1, .int at_), (2, .int (nI cn))] → W p l e (headSpec wsX9_number ({ frames := 1, cells := 0, slots := 0, locals := 24 })).room s m ([.ref h0, .int at_, .int (nI cn)] : List Value).toArray below meth c s.heap [] 0 0 (MQ below (vp_Sl (fun r => r = md_num f at_ cn)) ([.ref h0, .int at_, .int (nI cn)] : List Value).toArray s 0 0 (fun _ => False)) (F0 m 5 ls []) := by
    intro n
    induction n with
    | zero => intro k i acc ls h1 h2; omega
    | succ n ih =>
      intro k i acc ls h1 h2 ei eacc hl
      refine lv_iload hx hb dX9_number_5 (lv_at hl 0 rfl) ?_
      refine lv_iload_n hx hb dX9_number_7 rfl (lv_at hl 4 rfl) ?_
      refine lv_icmp_ge (tgt := 32) hx hb dX9_number_8 (by decide) (fun c_1 => ?_) (fun c_1 => ?_)
      · skip
        have hk : k = cn := by
          rcases Nat.lt_or_ge k cn with q | q
          · exact absurd c_1 (by rw [ei]; exact nI_ge q (by omega))
          · omega
        subst hk
        refine lv_lload_n hx hb dX9_number_32 rfl (lv_at hl 1 rfl) ?_
        exact W.lret hx hb hr (fun t ht hW => ⟨_, rfl, eacc, ht⟩) (fun q h => by cases h) dX9_number_33
      · skip
        have hk : k + 1 ≤ cn := by
          rcases Nat.lt_or_ge k cn with q | q
          · exact q
          · exact absurd (by rw [ei]; exact nI_le q (by omega)) c_1
        subst ei
        refine lv_lload_n hx hb dX9_number_11 rfl (lv_at hl 1 rfl) ?_
        refine lv_bipush (v := 8) hx hb dX9_number_12 (by decide) ?_
        refine lv_lshl hx hb dX9_number_14 rfl ?_
        refine lv_aload_n hx hb dX9_number_15 rfl (lv_at hl 2 rfl) ?_
        refine lv_iload_n hx hb dX9_number_16 rfl (lv_at hl 3 rfl) ?_
        refine lv_iload hx hb dX9_number_17 (lv_at hl 0 rfl) ?_
        refine lv_iadd hx hb dX9_number_19 ?_
        have hPc := hP.sub (ws' := [(h0, .inr (11, .ref hd :: fs)), (hd, .inl (cI, N, .inl f))]) [0, 1] rfl
        have hKc := hK.sub (tys' := [(cI, .int)]) [0] rfl
        refine vp_callSi (va_Run.run (va_runV (As := [.int (at_ + (nI k))]) (rest := [.long (acc <<< ((8 : Int32).toInt64 &&& 63))]) ⟨hx, hb, hml, hown, hts⟩ (k_X9_byteIn l dC dI h0 hd N cI fs f _ (hi k hk)) (cwV 1 hts gX9_number_X9_byteIn rfl rfl rfl (by decide +kernel) ⟨Nat.le_of_ble_eq_true rfl, Nat.le_of_ble_eq_true rfl⟩) ⟨fun a U g mk q => by obtain ⟨q0, qP, qK⟩ := q; exact ⟨q0, qP, va_K.moved (u := U) (U := U.calling g mk a) (Vm.Alike.refl U.vm) qK⟩, va_recv hK hP (ci := 11) (q := (RX9, TX9, 38)) rfl (q0 := 0) rfl, fun U hU hW => ⟨rfl, by rw [hU]; exact hPc, va_K.moved hW.alike hKc⟩⟩ rfl rfl hl.1 rfl (lv_room (Nat.le_of_ble_eq_true rfl)) dX9_number_20 ⟨Nat.le_of_ble_eq_true rfl, Nat.le_of_ble_eq_true rfl⟩)) (fun r_2 er_2 => ?_)
        refine lv_i2l hx hb dX9_number_23 rfl ?_
        refine lv_lor hx hb dX9_number_24 ?_
        refine lv_lstore_n (lv' := [(3, .long ((acc <<< ((8 : Int32).toInt64 &&& 63)) ||| r_2.toInt64)), (5, .int (nI k)), (0, .ref h0), (1, .int at_), (2, .int (nI cn))]) hx hb dX9_number_25 rfl hl (by decide) rfl (fun ls hl => ?_)
        obtain ⟨x_3, ex_3⟩ : ∃ z : Int32, z = (nI k) + (1) := ⟨_, rfl⟩
        refine lv_iinc (v := x_3) (lv' := [(5, .int x_3), (3, .long ((acc <<< ((8 : Int32).toInt64 &&& 63)) ||| r_2.toInt64)), (0, .ref h0), (1, .int at_), (2, .int (nI cn))]) hx hb dX9_number_26 hl (k := 1) rfl (by rw [ex_3]; rfl) (by decide) rfl (fun ls hl => ?_)
        refine lv_goto (tgt := 5) hx hb dX9_number_29 (by decide) ?_
        exact ih (k + 1) _ _ _ hk (by omega) (by rw [ex_3]; exact nI_1 _) (by rw [eacc, er_2]; rfl) (lv_sub hl [0, 1, 2, 3, 4] rfl)
  refine lv_lconst (v := 0) hx hb dX9_number_0 (by decide) ?_
  refine lv_lstore_n (lv' := [(3, .long (0 : Int64)), (0, .ref h0), (1, .int at_), (2, .int (nI cn))]) hx hb dX9_number_1 rfl hl (by decide) rfl (fun ls hl => ?_)
  refine lv_iconst (v := 0) hx hb dX9_number_2 (by decide) ?_
  refine lv_istore (lv' := [(5, .int (0 : Int32)), (3, .long (0 : Int64)), (0, .ref h0), (1, .int at_), (2, .int (nI cn))]) hx hb dX9_number_3 hl (by decide) rfl (fun ls hl => ?_)
  exact loop (cn + 1) 0 0 _ _ (Nat.zero_le _) (by omega) nI_0.symm rfl (lv_sub hl [0, 1, 2, 3, 4] rfl)
