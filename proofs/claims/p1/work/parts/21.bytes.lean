def md_bytes (f : Nat → Int32) (at_ : Int32) (v : Int64) (n : Int32) : Nat → Nat → Int32 := fun k => Nat.rec f (fun k g => md_set g (at_ + nI k) ((v.toUInt64 >>> (((8 : Int32) * (n - 1 - nI k)).toInt64.toUInt64 &&& Int64.toUInt64 63)).toInt64 &&& 255).toInt32) k
set_option maxHeartbeats 4000000 in
set_option maxRecDepth 100000 in
theorem k_X9_bytesOf (l : Launch) (dC : Nat → ClassId) (dI : Nat → Nat → Nat) (h0 hd N : Nat) (cI : ClassId) (fs : List Value) (f : Nat → Int32) (at_ : Int32) (v : Int64) (cn : Nat) (sz : Nat) (hc : cn < 2 ^ 31) (hi : ∀ k, k < cn → vp_in ((at_ + nI k) >>> ((2 : Int32) &&& 31)) N) : Met l yX9_bytesOf wsX9_bytesOf ({ frames := 1, cells := 0, slots := 0, locals := 27 }) (va_Pc [.ref h0, .int at_, .long v, .int (nI cn)] (fun U => U.heap.size = sz ∧ va_P (dC, dI) vwCl [(h0, .inr (11, .ref hd :: fs)), (hd, .inl (cI, N, .inl f))] U.heap ∧ va_K (dC, dI) vwCl [(cI, .int)] U ∧ va_D (fun _ => True) [(h0, .inr (11, .ref hd :: fs)), (hd, .inl (cI, N, .inl f))])) (va_Qv (fun (_ : Unit) => True) (fun (_ : Unit) t => va_P (dC, dI) vwCl [(h0, .inr (11, .ref hd :: fs)), (hd, .inl (cI, N, .inl (md_bytes f at_ v (nI cn) cn)))] t.heap ∧ va_K (dC, dI) vwCl [(cI, .int)] t ∧ va_D (va_A [(h0, .inr (11, .ref hd :: fs)), (hd, .inl (cI, N, .inl f))] sz) [(h0, .inr (11, .ref hd :: fs)), (hd, .inl (cI, N, .inl (md_bytes f at_ v (nI cn) cn)))]) (va_A [(h0, .inr (11, .ref hd :: fs)), (hd, .inl (cI, N, .inl f))] sz)) 0 0 (va_A [(h0, .inr (11, .ref hd :: fs)), (hd, .inl (cI, N, .inl f))] sz) := by
  refine Met.ofW (cc := cX9_bytesOf) (maxL := 6) (ret := none) (by decide) rfl ?_
  intro p e s m args below meth c s₁ B hml hv
  obtain ⟨rfl, hsz, hP, hK, hD0⟩ := hv
  have hx := B.exec
  have hb := B.bytes
  have hr := B.returns
  have hts := atoms_spec (ws := wsX9_bytesOf) B.pre
  have hown : s.vm.findClass RX9 = some m.cls := findClass_of_methodNamed B.named
  have hlocks := B.notSynchronized
  subst hsz
  have hD := hD0.self (sz := s.heap.size)
  generalize hAe : va_A [(h0, .inr (11, .ref hd :: fs)), (hd, .inl (cI, N, .inl f))] s.heap.size = A at hD ⊢
  have hA : ∀ q : Nat, s.heap.size ≤ q → A q := fun q h => by rw [← hAe]; exact Or.inr h
  have hS : va_S A s.heap s.heap [] := va_S.rf
  have hl := lv_entry ([.ref h0, .int at_, .long v, .int (nI cn)]) (n := 6) (Nat.le_of_ble_eq_true rfl)
  rw [lg_entry_eq]
  generalize (lg_sl ([.ref h0, .int at_, .long v, .int (nI cn)]) ++ List.replicate (6 - (lg_sl ([.ref h0, .int at_, .long v, .int (nI cn)])).length) Slot.unset).toArray = ls at hl ⊢
  have hl : lv_has ls 6 [(0, .ref h0), (1, .int at_), (2, .long v), (4, .int (nI cn))] := hl
  have loop : ∀ (n k : Nat) (i : Int32) (H : Heap) (locs : List Loc) (ls : Array Slot), k ≤ cn → cn - k < n → i = nI k → va_P (dC, dI) vwCl [(h0, .inr (11, .ref hd :: fs)), (hd, .inl (cI, N, .inl (md_bytes f at_ v (nI cn) k)))] H → va_D A [(h0, .inr (11, .ref hd :: fs)), (hd, .inl (cI, N, .inl (md_bytes f at_ v (nI cn) k)))] → va_S A s.heap H locs → lv_has ls 6 [(5, .int i), (0, .ref h0), (1, .int at_), (2, .long v), (4, .int (nI cn))] → W p l e (headSpec wsX9_bytesOf ({ frames := 1, cells := 0, slots := 0, locals := 27 })).room s m ([.ref h0, .int at_, .long v, .int (nI cn)] : List Value).toArray below meth c H locs 0 0 (MQ below (va_Qv (fun (_ : Unit) => True) (fun (_ : Unit) t => va_P (dC, dI) vwCl [(h0, .inr (11, .ref hd :: fs)), (hd, .inl (cI, N, .inl (md_bytes f at_ v (nI cn) cn)))] t.heap ∧ va_K (dC, dI) vwCl [(cI, .int)] t ∧ va_D A [(h0, .inr (11, .ref hd :: fs)), (hd, .inl (cI, N, .inl (md_bytes f at_ v (nI cn) cn)))]) A) ([.ref h0, .int at_, .long v, .int (nI cn)] : List Value).toArray s 0 0 A) (F0 m 3 ls []) := by
    intro n
    induction n with
    | zero => intro k i H locs ls h1 h2; omega
    | succ n ih =>
      intro k i H locs ls h1 h2 ei hP hD hS hl
      refine lv_iload hx hb dX9_bytesOf_3 (lv_at hl 0 rfl) ?_
      refine lv_iload hx hb dX9_bytesOf_5 (lv_at hl 4 rfl) ?_
      refine lv_icmp_ge (tgt := 41) hx hb dX9_bytesOf_7 (by decide) (fun c_1 => ?_) (fun c_1 => ?_)
      · skip
        have hk : k = cn := by
          rcases Nat.lt_or_ge k cn with q | q
          · exact absurd c_1 (by rw [ei]; exact nI_ge q (by omega))
          · omega
        subst hk
        exact W.vret hx hb hr (fun t ht hW => ⟨⟨(), rfl, trivial, by rw [ht]; exact hP, va_K.moved hW.alike hK, hD⟩, hS.F ht⟩) hS.2.2 dX9_bytesOf_41
      · skip
        have hk : k + 1 ≤ cn := by
          rcases Nat.lt_or_ge k cn with q | q
          · exact q
          · exact absurd (by rw [ei]; exact nI_le q (by omega)) c_1
        subst ei
        refine lv_aload_n hx hb dX9_bytesOf_10 rfl (lv_at hl 1 rfl) ?_
        refine lv_iload_n hx hb dX9_bytesOf_11 rfl (lv_at hl 2 rfl) ?_
        refine lv_iload hx hb dX9_bytesOf_12 (lv_at hl 0 rfl) ?_
        refine lv_iadd hx hb dX9_bytesOf_14 ?_
        refine lv_lload_n hx hb dX9_bytesOf_15 rfl (lv_at hl 3 rfl) ?_
        refine lv_bipush (v := 8) hx hb dX9_bytesOf_16 (by decide) ?_
        refine lv_iload hx hb dX9_bytesOf_18 (lv_at hl 4 rfl) ?_
        refine lv_iconst (v := 1) hx hb dX9_bytesOf_20 (by decide) ?_
        refine lv_isub hx hb dX9_bytesOf_21 ?_
        refine lv_iload hx hb dX9_bytesOf_22 (lv_at hl 0 rfl) ?_
        refine lv_isub hx hb dX9_bytesOf_24 ?_
        refine lv_imul hx hb dX9_bytesOf_25 ?_
        refine lv_lushr hx hb dX9_bytesOf_26 rfl ?_
        refine lv_ldc2 hx hb hown (hts (.constantLong RX9 94 (255)) (by decide +kernel)) dX9_bytesOf_27 ?_
        refine lv_land hx hb dX9_bytesOf_30 ?_
        refine lv_l2i hx hb dX9_bytesOf_31 rfl ?_
        have hPc := hP.sub (ws' := [(h0, .inr (11, .ref hd :: fs)), (hd, .inl (cI, N, .inl (md_bytes f at_ v (nI cn) k)))]) [0, 1] rfl
        have hKc := hK.sub (tys' := [(cI, .int)]) [0] rfl
        have hDc := hD.sub (ws' := [(h0, .inr (11, .ref hd :: fs)), (hd, .inl (cI, N, .inl (md_bytes f at_ v (nI cn) k)))]) [0, 1] (by decide) rfl
        have hFc := va_free (wc := [(h0, .inr (11, .ref hd :: fs)), (hd, .inl (cI, N, .inl (md_bytes f at_ v (nI cn) k)))]) hD hS hA [0, 1] rfl
        refine va_callv (va_runV (As := [.int (at_ + (nI k)), .int ((((v.toUInt64 >>> (((8 : Int32) * (((nI cn) - (1 : Int32)) - (nI k))).toInt64.toUInt64 &&& Int64.toUInt64 63)).toInt64) &&& (255 : Int64)).toInt32)]) (rest := []) ⟨hx, hb, hml, hown, hts⟩ (k_X9_set l dC dI h0 hd N cI fs _ _ _ H.size (hi k hk)) (cwV 2 hts gX9_bytesOf_X9_set rfl rfl rfl (by decide +kernel) ⟨Nat.le_of_ble_eq_true rfl, Nat.le_of_ble_eq_true rfl⟩) ⟨fun a U g mk q => by obtain ⟨q0, q1, qP, qK, qD⟩ := q; exact ⟨q0, q1, qP, va_K.moved (u := U) (U := U.calling g mk a) (Vm.Alike.refl U.vm) qK, qD⟩, va_recv hK hP (ci := 11) (q := (RX9, TX9, 38)) rfl (q0 := 0) rfl, fun U hU hW => ⟨rfl, by rw [hU], by rw [hU]; exact hPc, va_K.moved hW.alike hKc, hDc.weaken (fun _ _ _ _ => trivial)⟩⟩ rfl rfl hl.1 rfl (lv_room (Nat.le_of_ble_eq_true rfl)) dX9_bytesOf_32 ⟨Nat.le_of_ble_eq_true rfl, Nat.le_of_ble_eq_true rfl⟩) hS (fun q _ h => hFc q h) hFc (fun u t H1 locs ht hvm er_2 hB hz1 hk1 hS => ?_)
        obtain ⟨hP1, hK1, hD1⟩ := hB
        rw [ht] at hP1
        obtain ⟨hP, hD⟩ := va_join (wr := []) (w1 := [(h0, .inr (11, .ref hd :: fs)), (hd, .inl (cI, N, .inl (md_bytes f at_ v (nI cn) (k + 1))))]) hP hD [0, 1] [] rfl rfl (by decide) (by decide) hk1 hFc hP1 hD1
        clear hPc hDc hFc hP1 hD1 hk1 hz1
        generalize H1 = H at hP hS ⊢
        have hP : va_P (dC, dI) vwCl [(h0, .inr (11, .ref hd :: fs)), (hd, .inl (cI, N, .inl (md_bytes f at_ v (nI cn) (k + 1))))] H := hP
        have hD : va_D A [(h0, .inr (11, .ref hd :: fs)), (hd, .inl (cI, N, .inl (md_bytes f at_ v (nI cn) (k + 1))))] := hD
        obtain ⟨x_3, ex_3⟩ : ∃ z : Int32, z = (nI k) + (1) := ⟨_, rfl⟩
        refine lv_iinc (v := x_3) (lv' := [(5, .int x_3), (0, .ref h0), (1, .int at_), (2, .long v), (4, .int (nI cn))]) hx hb dX9_bytesOf_35 hl (k := 0) rfl (by rw [ex_3]; rfl) (by decide) rfl (fun ls hl => ?_)
        refine lv_goto (tgt := 3) hx hb dX9_bytesOf_38 (by decide) ?_
        exact ih (k + 1) _ _ _ _ hk (by omega) (by rw [ex_3]; exact nI_1 _) hP hD hS (lv_sub hl [0, 1, 2, 3, 4] rfl)
  refine lv_iconst (v := 0) hx hb dX9_bytesOf_0 (by decide) ?_
  refine lv_istore (lv' := [(5, .int (0 : Int32)), (0, .ref h0), (1, .int at_), (2, .long v), (4, .int (nI cn))]) hx hb dX9_bytesOf_1 hl (by decide) rfl (fun ls hl => ?_)
  exact loop (cn + 1) 0 0 _ _ _ (Nat.zero_le _) (by omega) nI_0.symm hP hD hS (lv_sub hl [0, 1, 2, 3, 4] rfl)
