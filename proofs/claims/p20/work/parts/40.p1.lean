def md_get (f : Nat → Int32) (at_ : Int32) : Int32 := ((f (at_ >>> ((2 : Int32) &&& 31)).toNatClampNeg).toUInt32 >>> (((8 : Int32) * (at_ &&& 3)).toUInt32 &&& Int32.toUInt32 31)).toInt32 &&& 255
set_option maxHeartbeats 4000000 in
set_option maxRecDepth 100000 in
theorem k_X9_byteIn (l : Launch) (dC : Nat → ClassId) (dI : Nat → Nat → Nat) (h0 hd N : Nat) (cI : ClassId) (fs : List Value) (f : Nat → Int32) (at_ : Int32) (hi : vp_in (at_ >>> ((2 : Int32) &&& 31)) N) : Met l yX9_byteIn wsX9_byteIn ({ frames := 0, cells := 0, slots := 0, locals := 0 }) (va_Pc [.ref h0, .int at_] (fun U => va_P (dC, dI) vwCl [(h0, .inr (11, .ref hd :: fs)), (hd, .inl (cI, N, .inl f))] U.heap ∧ va_K (dC, dI) vwCl [(cI, .int)] U)) (vp_Si (fun r => r = md_get f at_)) 0 0 (fun _ => False) := by
  refine Met.ofW (cc := cX9_byteIn) (maxL := 2) (ret := (some .int)) (by decide) rfl ?_
  intro p e s m args below meth c s₁ B hml hv
  obtain ⟨rfl, hP, hK⟩ := hv
  have hx := B.exec
  have hb := B.bytes
  have hr := B.returns
  have hts := atoms_spec (ws := wsX9_byteIn) B.pre
  have hown : s.vm.findClass RX9 = some m.cls := findClass_of_methodNamed B.named
  have hlocks := B.notSynchronized
  have hl := lv_entry ([.ref h0, .int at_]) (n := 2) (Nat.le_of_ble_eq_true rfl)
  rw [lg_entry_eq]
  generalize (lg_sl ([.ref h0, .int at_]) ++ List.replicate (2 - (lg_sl ([.ref h0, .int at_])).length) Slot.unset).toArray = ls at hl ⊢
  have hl : lv_has ls 2 [(0, .ref h0), (1, .int at_)] := hl
  refine lv_aload_n hx hb dX9_byteIn_0 rfl (lv_at hl 0 rfl) ?_
  refine va_get (D := (dC, dI)) (ci := 11) (v := .ref hd) (C := RX9) (T := TX9) (N := 38) hx hb hts (by decide +kernel) hown hK hP 0 rfl rfl 0 (by decide) (hts (.fieldLink RX9 8 "BlockLogModel" "disk" "[I") (by decide +kernel)) (fun _ h9 => h9) rfl dX9_byteIn_1 ?_
  refine lv_iload_n hx hb dX9_byteIn_4 rfl (lv_at hl 1 rfl) ?_
  refine lv_iconst (v := 2) hx hb dX9_byteIn_5 (by decide) ?_
  refine lv_ishr hx hb dX9_byteIn_6 ?_
  refine va_iald hx hb hK hP 1 0 rfl rfl hi dX9_byteIn_7 ?_
  refine lv_bipush (v := 8) hx hb dX9_byteIn_8 (by decide) ?_
  refine lv_iload_n hx hb dX9_byteIn_10 rfl (lv_at hl 1 rfl) ?_
  refine lv_iconst (v := 3) hx hb dX9_byteIn_11 (by decide) ?_
  refine lv_iand hx hb dX9_byteIn_12 ?_
  refine lv_imul hx hb dX9_byteIn_13 ?_
  refine lv_iushr hx hb dX9_byteIn_14 rfl ?_
  refine lv_sipush (v := 255) hx hb dX9_byteIn_15 (by decide) ?_
  refine lv_iand hx hb dX9_byteIn_18 ?_
  exact W.iret hx hb hr (fun t ht hW => ⟨_, rfl, rfl, ht⟩) (fun q h => by cases h) dX9_byteIn_19

def md_num (f : Nat → Int32) (at_ : Int32) : Nat → Int64 := fun k => Nat.rec 0 (fun k r => r <<< ((8 : Int32).toInt64 &&& 63) ||| (md_get f (at_ + nI k)).toInt64) k
set_option maxHeartbeats 4000000 in
set_option maxRecDepth 100000 in
theorem k_X9_number (l : Launch) (dC : Nat → ClassId) (dI : Nat → Nat → Nat) (h0 hd N : Nat) (cI : ClassId) (fs : List Value) (f : Nat → Int32) (at_ : Int32) (cn : Nat) (hc : cn < 2 ^ 31) (hi : ∀ k, k < cn → vp_in ((at_ + nI k) >>> ((2 : Int32) &&& 31)) N) : Met l yX9_number wsX9_number ({ frames := 1, cells := 0, slots := 0, locals := 24 }) (va_Pc [.ref h0, .int at_, .int (nI cn)] (fun U => va_P (dC, dI) vwCl [(h0, .inr (11, .ref hd :: fs)), (hd, .inl (cI, N, .inl f))] U.heap ∧ va_K (dC, dI) vwCl [(cI, .int)] U)) (vp_Sl (fun r => r = md_num f at_ cn)) 0 0 (fun _ => False) := by
  refine Met.ofW (cc := cX9_number) (maxL := 6) (ret := (some .long)) (by decide) rfl ?_
  intro p e s m args below meth c s₁ B hml hv
  obtain ⟨rfl, hP, hK⟩ := hv
  have hx := B.exec
  have hb := B.bytes
  have hr := B.returns
  have hts := atoms_spec (ws := wsX9_number) B.pre
  have hown : s.vm.findClass RX9 = some m.cls := findClass_of_methodNamed B.named
  have hlocks := B.notSynchronized
  have hl := lv_entry ([.ref h0, .int at_, .int (nI cn)]) (n := 6) (Nat.le_of_ble_eq_true rfl)
  rw [lg_entry_eq]
  generalize (lg_sl ([.ref h0, .int at_, .int (nI cn)]) ++ List.replicate (6 - (lg_sl ([.ref h0, .int at_, .int (nI cn)])).length) Slot.unset).toArray = ls at hl ⊢
  have hl : lv_has ls 6 [(0, .ref h0), (1, .int at_), (2, .int (nI cn))] := hl
  have loop : ∀ (n k : Nat) (i : Int32) (acc : Int64) (ls : Array Slot), k ≤ cn → cn - k < n → i = nI k → acc = md_num f at_ k → lv_has ls 6 [(5, .int i), (3, .long acc), (0, .ref h0), (1, .int at_), (2, .int (nI cn))] → W p l e (headSpec wsX9_number ({ frames := 1, cells := 0, slots := 0, locals := 24 })).room s m ([.ref h0, .int at_, .int (nI cn)] : List Value).toArray below meth c s.heap [] 0 0 (MQ below (vp_Sl (fun r => r = md_num f at_ cn)) ([.ref h0, .int at_, .int (nI cn)] : List Value).toArray s 0 0 (fun _ => False)) (F0 m 5 ls []) := by
    intro n
    induction n with
    | zero => intro k i acc ls h1 h2; omega
    | succ n ih =>
      intro k i acc ls h1 h2 ei eacc hl
      refine lv_iload hx hb dX9_number_5 (lv_at hl 0 rfl) ?_
      refine lv_iload_n hx hb dX9_number_7 rfl (lv_at hl 4 rfl) ?_
      refine lv_icmp_ge (tgt := 32) hx hb dX9_number_8 (by decide) (fun c_1 => ?_) (fun c_1 => ?_)
      · skip
        have hk : k = cn := by
          rcases Nat.lt_or_ge k cn with q | q
          · exact absurd c_1 (by rw [ei]; exact nI_ge q (by omega))
          · omega
        subst hk
        refine lv_lload_n hx hb dX9_number_32 rfl (lv_at hl 1 rfl) ?_
        exact W.lret hx hb hr (fun t ht hW => ⟨_, rfl, eacc, ht⟩) (fun q h => by cases h) dX9_number_33
      · skip
        have hk : k + 1 ≤ cn := by
          rcases Nat.lt_or_ge k cn with q | q
          · exact q
          · exact absurd (by rw [ei]; exact nI_le q (by omega)) c_1
        subst ei
        refine lv_lload_n hx hb dX9_number_11 rfl (lv_at hl 1 rfl) ?_
        refine lv_bipush (v := 8) hx hb dX9_number_12 (by decide) ?_
        refine lv_lshl hx hb dX9_number_14 rfl ?_
        refine lv_aload_n hx hb dX9_number_15 rfl (lv_at hl 2 rfl) ?_
        refine lv_iload_n hx hb dX9_number_16 rfl (lv_at hl 3 rfl) ?_
        refine lv_iload hx hb dX9_number_17 (lv_at hl 0 rfl) ?_
        refine lv_iadd hx hb dX9_number_19 ?_
        have hPc := hP.sub (ws' := [(h0, .inr (11, .ref hd :: fs)), (hd, .inl (cI, N, .inl f))]) [0, 1] rfl
        have hKc := hK.sub (tys' := [(cI, .int)]) [0] rfl
        refine vp_callSi (va_Run.run (va_runV (As := [.int (at_ + (nI k))]) (rest := [.long (acc <<< ((8 : Int32).toInt64 &&& 63))]) ⟨hx, hb, hml, hown, hts⟩ (k_X9_byteIn l dC dI h0 hd N cI fs f _ (hi k hk)) (cwV 1 hts gX9_number_X9_byteIn rfl rfl rfl (by decide +kernel) ⟨Nat.le_of_ble_eq_true rfl, Nat.le_of_ble_eq_true rfl⟩) ⟨fun a U g mk q => by obtain ⟨q0, qP, qK⟩ := q; exact ⟨q0, qP, va_K.moved (u := U) (U := U.calling g mk a) (Vm.Alike.refl U.vm) qK⟩, va_recv hK hP (ci := 11) (q := (RX9, TX9, 38)) rfl (q0 := 0) rfl, fun U hU hW => ⟨rfl, by rw [hU]; exact hPc, va_K.moved hW.alike hKc⟩⟩ rfl rfl hl.1 rfl (lv_room (Nat.le_of_ble_eq_true rfl)) dX9_number_20 ⟨Nat.le_of_ble_eq_true rfl, Nat.le_of_ble_eq_true rfl⟩)) (fun r_2 er_2 => ?_)
        refine lv_i2l hx hb dX9_number_23 rfl ?_
        refine lv_lor hx hb dX9_number_24 ?_
        refine lv_lstore_n (lv' := [(3, .long ((acc <<< ((8 : Int32).toInt64 &&& 63)) ||| r_2.toInt64)), (5, .int (nI k)), (0, .ref h0), (1, .int at_), (2, .int (nI cn))]) hx hb dX9_number_25 rfl hl (by decide) rfl (fun ls hl => ?_)
        obtain ⟨x_3, ex_3⟩ : ∃ z : Int32, z = (nI k) + (1) := ⟨_, rfl⟩
        refine lv_iinc (v := x_3) (lv' := [(5, .int x_3), (3, .long ((acc <<< ((8 : Int32).toInt64 &&& 63)) ||| r_2.toInt64)), (0, .ref h0), (1, .int at_), (2, .int (nI cn))]) hx hb dX9_number_26 hl (k := 1) rfl (by rw [ex_3]; rfl) (by decide) rfl (fun ls hl => ?_)
        refine lv_goto (tgt := 5) hx hb dX9_number_29 (by decide) ?_
        exact ih (k + 1) _ _ _ hk (by omega) (by rw [ex_3]; exact nI_1 _) (by rw [eacc, er_2]; rfl) (lv_sub hl [0, 1, 2, 3, 4] rfl)
  refine lv_lconst (v := 0) hx hb dX9_number_0 (by decide) ?_
  refine lv_lstore_n (lv' := [(3, .long (0 : Int64)), (0, .ref h0), (1, .int at_), (2, .int (nI cn))]) hx hb dX9_number_1 rfl hl (by decide) rfl (fun ls hl => ?_)
  refine lv_iconst (v := 0) hx hb dX9_number_2 (by decide) ?_
  refine lv_istore (lv' := [(5, .int (0 : Int32)), (3, .long (0 : Int64)), (0, .ref h0), (1, .int at_), (2, .int (nI cn))]) hx hb dX9_number_3 hl (by decide) rfl (fun ls hl => ?_)
  exact loop (cn + 1) 0 0 _ _ (Nat.zero_le _) (by omega) nI_0.symm rfl (lv_sub hl [0, 1, 2, 3, 4] rfl)

