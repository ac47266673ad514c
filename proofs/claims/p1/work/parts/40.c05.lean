set_option maxHeartbeats 4000000 in
set_option maxRecDepth 100000 in
theorem k_X9_vote_7 (l : Launch) (dC : Nat → ClassId) (dI : Nat → Nat → Nat) (mo : Nat) (p0 : Int32) (p1 : Int32) (w2 : Int64) (m_digestAt : Nat) (m_isGroup : Nat) (m_counts : Nat) (m_disk : Nat) (P : Nat) (m_tape : Nat) (m_slots : Nat) (m_leaves : Nat) (m_fresh : Nat) (m_versionRow : Nat) (m_state : Nat) (m_names : Nat) (m_keptRow : Nat) (m_inSlot : Nat) (m_inAt : Nat) (m_inSize : Nat) (m_inDigest : Nat) (d_digestAt : ClassId) (d_isGroup : ClassId) (d_counts : ClassId) (sz : Nat) (hf0 : 1 ≤ p0) (hf1 : p0 ≤ 1000000) (hf2 : 0 ≤ p1) (hf3 : p1 ≤ 1000000) (hf4 : lg_cmp w2 (-128) < 0) : Met l yX9_vote wsX9_vote ({ frames := 3, cells := 0, slots := 0, locals := 65 }) (va_Pc [.ref mo, .int p0, .int p1, .long w2] (fun U => U.heap.size = sz ∧ va_P (dC, dI) vwCl [(mo, .inr (11, [.ref m_disk, .int (nI P), .int ((8224 : Int32) + ((26 : Int32) * (nI P))), .int (1 : Int32), .int 0, .int (-1 : Int32), .int 0, .int (0 : Int32), .ref m_tape, .int 0, .ref m_slots, .ref m_leaves, .int 0, .int 0, .ref m_fresh, .int 0, .int 0, .int 0, .ref m_digestAt, .ref m_isGroup, .ref m_counts, .int 0, .int 0, .long 0, .int 0, .ref m_versionRow, .int 0, .long 0, .ref m_state, .ref m_names, .int 0, .ref m_keptRow, .int 0, .ref m_inSlot, .ref m_inAt, .ref m_inSize, .ref m_inDigest, .int 0])), (m_digestAt, .inl (d_digestAt, 128, .inr (.inl (fun _ => 0)))), (m_isGroup, .inl (d_isGroup, 128, .inl (fun _ => 0))), (m_counts, .inl (d_counts, 128, .inl (fun _ => 0)))] U.heap ∧ va_K (dC, dI) vwCl [(d_digestAt, .long), (d_isGroup, .boolean), (d_counts, .boolean)] U ∧ va_D (fun _ => True) [(mo, .inr (11, [.ref m_disk, .int (nI P), .int ((8224 : Int32) + ((26 : Int32) * (nI P))), .int (1 : Int32), .int 0, .int (-1 : Int32), .int 0, .int (0 : Int32), .ref m_tape, .int 0, .ref m_slots, .ref m_leaves, .int 0, .int 0, .ref m_fresh, .int 0, .int 0, .int 0, .ref m_digestAt, .ref m_isGroup, .ref m_counts, .int 0, .int 0, .long 0, .int 0, .ref m_versionRow, .int 0, .long 0, .ref m_state, .ref m_names, .int 0, .ref m_keptRow, .int 0, .ref m_inSlot, .ref m_inAt, .ref m_inSize, .ref m_inDigest, .int 0])), (m_digestAt, .inl (d_digestAt, 128, .inr (.inl (fun _ => 0)))), (m_isGroup, .inl (d_isGroup, 128, .inl (fun _ => 0))), (m_counts, .inl (d_counts, 128, .inl (fun _ => 0)))])) (va_Qi (fun r (_ : Unit) => r = (-6 : Int32)) (fun (_ : Unit) t => va_P (dC, dI) vwCl [(mo, .inr (11, [.ref m_disk, .int (nI P), .int ((8224 : Int32) + ((26 : Int32) * (nI P))), .int (1 : Int32), .int 0, .int (-1 : Int32), .int 0, .int (0 : Int32), .ref m_tape, .int 0, .ref m_slots, .ref m_leaves, .int 0, .int 0, .ref m_fresh, .int 0, .int (0 : Int32), .int (0 : Int32), .ref m_digestAt, .ref m_isGroup, .ref m_counts, .int (-1 : Int32), .int (0 : Int32), .long (0 : Int64), .int (0 : Int32), .ref m_versionRow, .int (0 : Int32), .long (0 : Int64), .ref m_state, .ref m_names, .int 0, .ref m_keptRow, .int 0, .ref m_inSlot, .ref m_inAt, .ref m_inSize, .ref m_inDigest, .int 0]))] t.heap ∧ va_K (dC, dI) vwCl [(d_digestAt, .long), (d_isGroup, .boolean), (d_counts, .boolean)] t ∧ va_D (va_A [(mo, .inr (11, [.ref m_disk, .int (nI P), .int ((8224 : Int32) + ((26 : Int32) * (nI P))), .int (1 : Int32), .int 0, .int (-1 : Int32), .int 0, .int (0 : Int32), .ref m_tape, .int 0, .ref m_slots, .ref m_leaves, .int 0, .int 0, .ref m_fresh, .int 0, .int 0, .int 0, .ref m_digestAt, .ref m_isGroup, .ref m_counts, .int 0, .int 0, .long 0, .int 0, .ref m_versionRow, .int 0, .long 0, .ref m_state, .ref m_names, .int 0, .ref m_keptRow, .int 0, .ref m_inSlot, .ref m_inAt, .ref m_inSize, .ref m_inDigest, .int 0])), (m_digestAt, .inl (d_digestAt, 128, .inr (.inl (fun _ => 0)))), (m_isGroup, .inl (d_isGroup, 128, .inl (fun _ => 0))), (m_counts, .inl (d_counts, 128, .inl (fun _ => 0)))] sz) [(mo, .inr (11, [.ref m_disk, .int (nI P), .int ((8224 : Int32) + ((26 : Int32) * (nI P))), .int (1 : Int32), .int 0, .int (-1 : Int32), .int 0, .int (0 : Int32), .ref m_tape, .int 0, .ref m_slots, .ref m_leaves, .int 0, .int 0, .ref m_fresh, .int 0, .int (0 : Int32), .int (0 : Int32), .ref m_digestAt, .ref m_isGroup, .ref m_counts, .int (-1 : Int32), .int (0 : Int32), .long (0 : Int64), .int (0 : Int32), .ref m_versionRow, .int (0 : Int32), .long (0 : Int64), .ref m_state, .ref m_names, .int 0, .ref m_keptRow, .int 0, .ref m_inSlot, .ref m_inAt, .ref m_inSize, .ref m_inDigest, .int 0]))]) (va_A [(mo, .inr (11, [.ref m_disk, .int (nI P), .int ((8224 : Int32) + ((26 : Int32) * (nI P))), .int (1 : Int32), .int 0, .int (-1 : Int32), .int 0, .int (0 : Int32), .ref m_tape, .int 0, .ref m_slots, .ref m_leaves, .int 0, .int 0, .ref m_fresh, .int 0, .int 0, .int 0, .ref m_digestAt, .ref m_isGroup, .ref m_counts, .int 0, .int 0, .long 0, .int 0, .ref m_versionRow, .int 0, .long 0, .ref m_state, .ref m_names, .int 0, .ref m_keptRow, .int 0, .ref m_inSlot, .ref m_inAt, .ref m_inSize, .ref m_inDigest, .int 0])), (m_digestAt, .inl (d_digestAt, 128, .inr (.inl (fun _ => 0)))), (m_isGroup, .inl (d_isGroup, 128, .inl (fun _ => 0))), (m_counts, .inl (d_counts, 128, .inl (fun _ => 0)))] sz)) 0 0 (va_A [(mo, .inr (11, [.ref m_disk, .int (nI P), .int ((8224 : Int32) + ((26 : Int32) * (nI P))), .int (1 : Int32), .int 0, .int (-1 : Int32), .int 0, .int (0 : Int32), .ref m_tape, .int 0, .ref m_slots, .ref m_leaves, .int 0, .int 0, .ref m_fresh, .int 0, .int 0, .int 0, .ref m_digestAt, .ref m_isGroup, .ref m_counts, .int 0, .int 0, .long 0, .int 0, .ref m_versionRow, .int 0, .long 0, .ref m_state, .ref m_names, .int 0, .ref m_keptRow, .int 0, .ref m_inSlot, .ref m_inAt, .ref m_inSize, .ref m_inDigest, .int 0])), (m_digestAt, .inl (d_digestAt, 128, .inr (.inl (fun _ => 0)))), (m_isGroup, .inl (d_isGroup, 128, .inl (fun _ => 0))), (m_counts, .inl (d_counts, 128, .inl (fun _ => 0)))] sz) := by
  refine Met.ofW (cc := cX9_vote) (maxL := 10) (ret := (some .int)) (by decide) rfl ?_
  intro p e s m args below meth c s₁ B hml hv
  obtain ⟨rfl, hsz, hP, hK, hD0⟩ := hv
  have hx := B.exec
  have hb := B.bytes
  have hr := B.returns
  have hts := atoms_spec (ws := wsX9_vote) B.pre
  have hown : s.vm.findClass RX9 = some m.cls := findClass_of_methodNamed B.named
  have hlocks := B.notSynchronized
  subst hsz
  have hD := hD0.self (sz := s.heap.size)
  generalize hAe : va_A [(mo, .inr (11, [.ref m_disk, .int (nI P), .int ((8224 : Int32) + ((26 : Int32) * (nI P))), .int (1 : Int32), .int 0, .int (-1 : Int32), .int 0, .int (0 : Int32), .ref m_tape, .int 0, .ref m_slots, .ref m_leaves, .int 0, .int 0, .ref m_fresh, .int 0, .int 0, .int 0, .ref m_digestAt, .ref m_isGroup, .ref m_counts, .int 0, .int 0, .long 0, .int 0, .ref m_versionRow, .int 0, .long 0, .ref m_state, .ref m_names, .int 0, .ref m_keptRow, .int 0, .ref m_inSlot, .ref m_inAt, .ref m_inSize, .ref m_inDigest, .int 0])), (m_digestAt, .inl (d_digestAt, 128, .inr (.inl (fun _ => 0)))), (m_isGroup, .inl (d_isGroup, 128, .inl (fun _ => 0))), (m_counts, .inl (d_counts, 128, .inl (fun _ => 0)))] s.heap.size = A at hD ⊢
  have hA : ∀ q : Nat, s.heap.size ≤ q → A q := fun q h => by rw [← hAe]; exact Or.inr h
  have hS : va_S A s.heap s.heap [] := va_S.rf
  have hl := lv_entry ([.ref mo, .int p0, .int p1, .long w2]) (n := 10) (Nat.le_of_ble_eq_true rfl)
  rw [lg_entry_eq]
  generalize (lg_sl ([.ref mo, .int p0, .int p1, .long w2]) ++ List.replicate (10 - (lg_sl ([.ref mo, .int p0, .int p1, .long w2])).length) Slot.unset).toArray = ls at hl ⊢
  have hl : lv_has ls 10 [(0, .ref mo), (1, .int p0), (2, .int p1), (3, .long w2)] := hl
  refine lv_aload_n hx hb dX9_vote_0 rfl (lv_at hl 0 rfl) ?_
  refine lv_aload_n hx hb dX9_vote_1 rfl (lv_at hl 0 rfl) ?_
  refine va_get (D := (dC, dI)) (ci := 11) (v := .int (1 : Int32)) (C := RX9) (T := TX9) (N := 38) hx hb hts (by decide +kernel) hown hK hP 0 rfl rfl 3 (by decide) (hts (.fieldLink RX9 72 "BlockLogModel" "on" "Z") (by decide +kernel)) (fun _ h9 => h9) rfl dX9_vote_2 ?_
  refine lv_if_ne (tgt := 12) hx hb dX9_vote_5 (by decide) (fun c_1 => ?_) (fun c_1 => ?_)
  · skip
    refine lv_iload_n hx hb dX9_vote_12 rfl (lv_at hl 1 rfl) ?_
    refine lv_iconst (v := 1) hx hb dX9_vote_13 (by decide) ?_
    refine lv_ldc hx hb hown (hts (.constant RX9 208 (1000000)) (by decide +kernel)) dX9_vote_14 ?_
    have hPc := hP.sub (ws' := []) [] rfl
    have hKc := hK.sub (tys' := []) [] rfl
    refine vp_callSi (va_Run.run (va_runS (As := [.int p0, .int (1 : Int32), .int (1000000 : Int32)]) (rest := [.ref mo]) ⟨hx, hb, hml, hown, hts⟩ (k_X9_within_3 l dC dI p0 (1 : Int32) (1000000 : Int32) hf0 hf1) (va_cwS 3 hts gX9_vote_X9_within rfl rfl rfl (by decide +kernel) ⟨Nat.le_of_ble_eq_true rfl, Nat.le_of_ble_eq_true rfl⟩) ⟨fun a U g mk q => by obtain ⟨q0, qP, qK⟩ := q; exact ⟨q0, qP, va_K.moved (u := U) (U := U.calling g mk a) (Vm.Alike.refl U.vm) qK⟩, fun U hU hW => ⟨rfl, by rw [hU]; exact hPc, va_K.moved hW.alike hKc⟩⟩ rfl rfl hl.1 rfl (lv_room (Nat.le_of_ble_eq_true rfl)) dX9_vote_16 ⟨Nat.le_of_ble_eq_true rfl, Nat.le_of_ble_eq_true rfl⟩)) (fun r_2 er_2 => ?_)
    subst er_2
    refine lv_if_eq (tgt := 32) hx hb dX9_vote_19 (by decide) (fun c_3 => ?_) (fun c_3 => ?_)
    · skip
      exact absurd c_3 (by decide)
    · skip
      refine lv_iload_n hx hb dX9_vote_22 rfl (lv_at hl 2 rfl) ?_
      refine lv_iconst (v := 0) hx hb dX9_vote_23 (by decide) ?_
      refine lv_ldc hx hb hown (hts (.constant RX9 208 (1000000)) (by decide +kernel)) dX9_vote_24 ?_
      have hPc := hP.sub (ws' := []) [] rfl
      have hKc := hK.sub (tys' := []) [] rfl
      refine vp_callSi (va_Run.run (va_runS (As := [.int p1, .int (0 : Int32), .int (1000000 : Int32)]) (rest := [.ref mo]) ⟨hx, hb, hml, hown, hts⟩ (k_X9_within_3 l dC dI p1 (0 : Int32) (1000000 : Int32) hf2 hf3) (va_cwS 3 hts gX9_vote_X9_within rfl rfl rfl (by decide +kernel) ⟨Nat.le_of_ble_eq_true rfl, Nat.le_of_ble_eq_true rfl⟩) ⟨fun a U g mk q => by obtain ⟨q0, qP, qK⟩ := q; exact ⟨q0, qP, va_K.moved (u := U) (U := U.calling g mk a) (Vm.Alike.refl U.vm) qK⟩, fun U hU hW => ⟨rfl, by rw [hU]; exact hPc, va_K.moved hW.alike hKc⟩⟩ rfl rfl hl.1 rfl (lv_room (Nat.le_of_ble_eq_true rfl)) dX9_vote_26 ⟨Nat.le_of_ble_eq_true rfl, Nat.le_of_ble_eq_true rfl⟩)) (fun r_4 er_4 => ?_)
      subst er_4
      refine lv_if_ne (tgt := 36) hx hb dX9_vote_29 (by decide) (fun c_5 => ?_) (fun c_5 => ?_)
      · skip
        refine lv_iconst (v := 0) hx hb dX9_vote_36 (by decide) ?_
        refine va_put (D := (dC, dI)) (ci := 11) (v := .int (0 : Int32)) (ty := .int) (C := RX9) (T := TX9) (N := 38) hx hb hts (by decide +kernel) tyX9 tyX9_ok nmX9 hown hK hP hD hS 0 rfl rfl 13 (by decide) (hts (.fieldLink RX9 91 "BlockLogModel" "thrown" "I") (by decide +kernel)) (fun _ h9 => h9) rfl (by decide +kernel) rfl rfl (Nat.le_of_ble_eq_true rfl) dX9_vote_37 (fun H locs hP hD hS => ?_)
        have hP : va_P (dC, dI) vwCl [(mo, .inr (11, [.ref m_disk, .int (nI P), .int ((8224 : Int32) + ((26 : Int32) * (nI P))), .int (1 : Int32), .int 0, .int (-1 : Int32), .int 0, .int (0 : Int32), .ref m_tape, .int 0, .ref m_slots, .ref m_leaves, .int 0, .int (0 : Int32), .ref m_fresh, .int 0, .int 0, .int 0, .ref m_digestAt, .ref m_isGroup, .ref m_counts, .int 0, .int 0, .long 0, .int 0, .ref m_versionRow, .int 0, .long 0, .ref m_state, .ref m_names, .int 0, .ref m_keptRow, .int 0, .ref m_inSlot, .ref m_inAt, .ref m_inSize, .ref m_inDigest, .int 0])), (m_digestAt, .inl (d_digestAt, 128, .inr (.inl (fun _ => 0)))), (m_isGroup, .inl (d_isGroup, 128, .inl (fun _ => 0))), (m_counts, .inl (d_counts, 128, .inl (fun _ => 0)))] H := hP
        have hD : va_D A [(mo, .inr (11, [.ref m_disk, .int (nI P), .int ((8224 : Int32) + ((26 : Int32) * (nI P))), .int (1 : Int32), .int 0, .int (-1 : Int32), .int 0, .int (0 : Int32), .ref m_tape, .int 0, .ref m_slots, .ref m_leaves, .int 0, .int (0 : Int32), .ref m_fresh, .int 0, .int 0, .int 0, .ref m_digestAt, .ref m_isGroup, .ref m_counts, .int 0, .int 0, .long 0, .int 0, .ref m_versionRow, .int 0, .long 0, .ref m_state, .ref m_names, .int 0, .ref m_keptRow, .int 0, .ref m_inSlot, .ref m_inAt, .ref m_inSize, .ref m_inDigest, .int 0])), (m_digestAt, .inl (d_digestAt, 128, .inr (.inl (fun _ => 0)))), (m_isGroup, .inl (d_isGroup, 128, .inl (fun _ => 0))), (m_counts, .inl (d_counts, 128, .inl (fun _ => 0)))] := hD
        refine lv_aload_n hx hb dX9_vote_40 rfl (lv_at hl 0 rfl) ?_
        refine va_get (D := (dC, dI)) (ci := 11) (v := .int (0 : Int32)) (C := RX9) (T := TX9) (N := 38) hx hb hts (by decide +kernel) hown hK hP 0 rfl rfl 13 (by decide) (hts (.fieldLink RX9 91 "BlockLogModel" "thrown" "I") (by decide +kernel)) (fun _ h9 => h9) rfl dX9_vote_41 ?_
        refine lv_if_le (tgt := 49) hx hb dX9_vote_44 (by decide) (fun c_6 => ?_) (fun c_6 => ?_)
        · skip
          refine lv_aload_n hx hb dX9_vote_49 rfl (lv_at hl 0 rfl) ?_
          have hPc := hP.sub (ws' := [(mo, .inr (11, [.ref m_disk, .int (nI P), .int ((8224 : Int32) + ((26 : Int32) * (nI P))), .int (1 : Int32), .int 0, .int (-1 : Int32), .int 0, .int (0 : Int32), .ref m_tape, .int 0, .ref m_slots, .ref m_leaves, .int 0, .int (0 : Int32), .ref m_fresh, .int 0, .int 0, .int 0, .ref m_digestAt, .ref m_isGroup, .ref m_counts, .int 0, .int 0, .long 0, .int 0, .ref m_versionRow, .int 0, .long 0, .ref m_state, .ref m_names, .int 0, .ref m_keptRow, .int 0, .ref m_inSlot, .ref m_inAt, .ref m_inSize, .ref m_inDigest, .int 0])), (m_digestAt, .inl (d_digestAt, 128, .inr (.inl (fun _ => 0)))), (m_isGroup, .inl (d_isGroup, 128, .inl (fun _ => 0))), (m_counts, .inl (d_counts, 128, .inl (fun _ => 0)))]) [0, 1, 2, 3] rfl
          have hKc := hK.sub (tys' := [(d_digestAt, .long), (d_isGroup, .boolean), (d_counts, .boolean)]) [0, 1, 2] rfl
          have hDc := hD.sub (ws' := [(mo, .inr (11, [.ref m_disk, .int (nI P), .int ((8224 : Int32) + ((26 : Int32) * (nI P))), .int (1 : Int32), .int 0, .int (-1 : Int32), .int 0, .int (0 : Int32), .ref m_tape, .int 0, .ref m_slots, .ref m_leaves, .int 0, .int (0 : Int32), .ref m_fresh, .int 0, .int 0, .int 0, .ref m_digestAt, .ref m_isGroup, .ref m_counts, .int 0, .int 0, .long 0, .int 0, .ref m_versionRow, .int 0, .long 0, .ref m_state, .ref m_names, .int 0, .ref m_keptRow, .int 0, .ref m_inSlot, .ref m_inAt, .ref m_inSize, .ref m_inDigest, .int 0])), (m_digestAt, .inl (d_digestAt, 128, .inr (.inl (fun _ => 0)))), (m_isGroup, .inl (d_isGroup, 128, .inl (fun _ => 0))), (m_counts, .inl (d_counts, 128, .inl (fun _ => 0)))]) [0, 1, 2, 3] (by decide) rfl
          have hFc := va_free (wc := [(mo, .inr (11, [.ref m_disk, .int (nI P), .int ((8224 : Int32) + ((26 : Int32) * (nI P))), .int (1 : Int32), .int 0, .int (-1 : Int32), .int 0, .int (0 : Int32), .ref m_tape, .int 0, .ref m_slots, .ref m_leaves, .int 0, .int (0 : Int32), .ref m_fresh, .int 0, .int 0, .int 0, .ref m_digestAt, .ref m_isGroup, .ref m_counts, .int 0, .int 0, .long 0, .int 0, .ref m_versionRow, .int 0, .long 0, .ref m_state, .ref m_names, .int 0, .ref m_keptRow, .int 0, .ref m_inSlot, .ref m_inAt, .ref m_inSize, .ref m_inDigest, .int 0])), (m_digestAt, .inl (d_digestAt, 128, .inr (.inl (fun _ => 0)))), (m_isGroup, .inl (d_isGroup, 128, .inl (fun _ => 0))), (m_counts, .inl (d_counts, 128, .inl (fun _ => 0)))]) hD hS hA [0, 1, 2, 3] rfl
          refine va_callv (va_runV (As := []) (rest := []) ⟨hx, hb, hml, hown, hts⟩ (k_X9_read_1 l dC dI mo m_digestAt m_isGroup m_counts m_disk P m_tape m_slots m_leaves m_fresh m_versionRow m_state m_names m_keptRow m_inSlot m_inAt m_inSize m_inDigest d_digestAt d_isGroup d_counts _) (cwV 0 hts gX9_vote_X9_read rfl rfl rfl (by decide +kernel) ⟨Nat.le_of_ble_eq_true rfl, Nat.le_of_ble_eq_true rfl⟩) ⟨fun a U g mk q => by obtain ⟨q0, q1, qP, qK, qD⟩ := q; exact ⟨q0, q1, qP, va_K.moved (u := U) (U := U.calling g mk a) (Vm.Alike.refl U.vm) qK, qD⟩, va_recv hK hP (ci := 11) (q := (RX9, TX9, 38)) rfl (q0 := 0) rfl, fun U hU hW => ⟨rfl, by rw [hU], by rw [hU]; exact hPc, va_K.moved hW.alike hKc, hDc.weaken (fun _ _ _ _ => trivial)⟩⟩ rfl rfl hl.1 rfl (lv_room (Nat.le_of_ble_eq_true rfl)) dX9_vote_50 ⟨Nat.le_of_ble_eq_true rfl, Nat.le_of_ble_eq_true rfl⟩) hS (fun q _ h => hFc q h) hFc (fun u t H1 locs ht hvm er_7 hB hz1 hk1 hS => ?_)
          obtain ⟨hP1, hK1, hD1⟩ := hB
          rw [ht] at hP1
          obtain ⟨hP, hD⟩ := va_join (wr := []) (w1 := [(mo, .inr (11, [.ref m_disk, .int (nI P), .int ((8224 : Int32) + ((26 : Int32) * (nI P))), .int (1 : Int32), .int 0, .int (-1 : Int32), .int 0, .int (0 : Int32), .ref m_tape, .int 0, .ref m_slots, .ref m_leaves, .int 0, .int 0, .ref m_fresh, .int 0, .int (0 : Int32), .int (0 : Int32), .ref m_digestAt, .ref m_isGroup, .ref m_counts, .int (-1 : Int32), .int (0 : Int32), .long (0 : Int64), .int (0 : Int32), .ref m_versionRow, .int (0 : Int32), .long (0 : Int64), .ref m_state, .ref m_names, .int 0, .ref m_keptRow, .int 0, .ref m_inSlot, .ref m_inAt, .ref m_inSize, .ref m_inDigest, .int 0])), (m_digestAt, .inl (d_digestAt, 128, .inr (.inl (zr_L 128)))), (m_isGroup, .inl (d_isGroup, 128, .inl (zr_Z 128))), (m_counts, .inl (d_counts, 128, .inl (zr_Z 128)))]) hP hD [0, 1, 2, 3] [] rfl rfl (by decide) (by decide) hk1 hFc hP1 hD1
          clear hPc hDc hFc hP1 hD1 hk1 hz1
          generalize H1 = H at hP hS ⊢
          have hP : va_P (dC, dI) vwCl [(mo, .inr (11, [.ref m_disk, .int (nI P), .int ((8224 : Int32) + ((26 : Int32) * (nI P))), .int (1 : Int32), .int 0, .int (-1 : Int32), .int 0, .int (0 : Int32), .ref m_tape, .int 0, .ref m_slots, .ref m_leaves, .int 0, .int 0, .ref m_fresh, .int 0, .int (0 : Int32), .int (0 : Int32), .ref m_digestAt, .ref m_isGroup, .ref m_counts, .int (-1 : Int32), .int (0 : Int32), .long (0 : Int64), .int (0 : Int32), .ref m_versionRow, .int (0 : Int32), .long (0 : Int64), .ref m_state, .ref m_names, .int 0, .ref m_keptRow, .int 0, .ref m_inSlot, .ref m_inAt, .ref m_inSize, .ref m_inDigest, .int 0])), (m_digestAt, .inl (d_digestAt, 128, .inr (.inl (zr_L 128)))), (m_isGroup, .inl (d_isGroup, 128, .inl (zr_Z 128))), (m_counts, .inl (d_counts, 128, .inl (zr_Z 128)))] H := hP
          have hD : va_D A [(mo, .inr (11, [.ref m_disk, .int (nI P), .int ((8224 : Int32) + ((26 : Int32) * (nI P))), .int (1 : Int32), .int 0, .int (-1 : Int32), .int 0, .int (0 : Int32), .ref m_tape, .int 0, .ref m_slots, .ref m_leaves, .int 0, .int 0, .ref m_fresh, .int 0, .int (0 : Int32), .int (0 : Int32), .ref m_digestAt, .ref m_isGroup, .ref m_counts, .int (-1 : Int32), .int (0 : Int32), .long (0 : Int64), .int (0 : Int32), .ref m_versionRow, .int (0 : Int32), .long (0 : Int64), .ref m_state, .ref m_names, .int 0, .ref m_keptRow, .int 0, .ref m_inSlot, .ref m_inAt, .ref m_inSize, .ref m_inDigest, .int 0])), (m_digestAt, .inl (d_digestAt, 128, .inr (.inl (zr_L 128)))), (m_isGroup, .inl (d_isGroup, 128, .inl (zr_Z 128))), (m_counts, .inl (d_counts, 128, .inl (zr_Z 128)))] := hD
          refine lv_aload_n hx hb dX9_vote_53 rfl (lv_at hl 0 rfl) ?_
          refine va_get (D := (dC, dI)) (ci := 11) (v := .int (0 : Int32)) (C := RX9) (T := TX9) (N := 38) hx hb hts (by decide +kernel) hown hK hP 0 rfl rfl 17 (by decide) (hts (.fieldLink RX9 176 "BlockLogModel" "needs" "Z") (by decide +kernel)) (fun _ h9 => h9) rfl dX9_vote_54 ?_
          refine lv_if_eq (tgt := 63) hx hb dX9_vote_57 (by decide) (fun c_8 => ?_) (fun c_8 => ?_)
          · skip
            refine lv_aload_n hx hb dX9_vote_63 rfl (lv_at hl 0 rfl) ?_
            refine lv_lload_n hx hb dX9_vote_64 rfl (lv_at hl 3 rfl) ?_
            have hPc := hP.sub (ws' := []) [] rfl
            have hKc := hK.sub (tys' := []) [] rfl
            refine vp_callSl (va_Run.run (va_runV (As := [.long w2]) (rest := []) ⟨hx, hb, hml, hown, hts⟩ (k_X9_meant_3 l dC dI mo w2 hf4) (cwV 1 hts gX9_vote_X9_meant rfl rfl rfl (by decide +kernel) ⟨Nat.le_of_ble_eq_true rfl, Nat.le_of_ble_eq_true rfl⟩) ⟨fun a U g mk q => by obtain ⟨q0, qP, qK⟩ := q; exact ⟨q0, qP, va_K.moved (u := U) (U := U.calling g mk a) (Vm.Alike.refl U.vm) qK⟩, va_recv hK hP (ci := 11) (q := (RX9, TX9, 38)) rfl (q0 := 0) rfl, fun U hU hW => ⟨rfl, by rw [hU]; exact hPc, va_K.moved hW.alike hKc⟩⟩ rfl rfl hl.1 rfl (lv_room (Nat.le_of_ble_eq_true rfl)) dX9_vote_65 ⟨Nat.le_of_ble_eq_true rfl, Nat.le_of_ble_eq_true rfl⟩)) (fun r_9 er_9 => ?_)
            replace er_9 := er_9.symm
            subst er_9
            refine lv_lstore (lv' := [(5, .long w2), (0, .ref mo), (1, .int p0), (2, .int p1), (3, .long w2)]) hx hb dX9_vote_68 hl (by decide) rfl (fun ls hl => ?_)
            refine lv_aload_n hx hb dX9_vote_70 rfl (lv_at hl 1 rfl) ?_
            refine lv_lload hx hb dX9_vote_71 (lv_at hl 0 rfl) ?_
            refine lv_aload_n hx hb dX9_vote_73 rfl (lv_at hl 1 rfl) ?_
            refine va_get (D := (dC, dI)) (ci := 11) (v := .int (0 : Int32)) (C := RX9) (T := TX9) (N := 38) hx hb hts (by decide +kernel) hown hK hP 0 rfl rfl 16 (by decide) (hts (.fieldLink RX9 167 "BlockLogModel" "many" "I") (by decide +kernel)) (fun _ h9 => h9) rfl dX9_vote_74 ?_
            have hPc := hP.sub (ws' := []) [] rfl
            have hKc := hK.sub (tys' := []) [] rfl
            refine vp_callSi (va_Run.run (va_runV (As := [.long w2, .int (0 : Int32)]) (rest := []) ⟨hx, hb, hml, hown, hts⟩ (k_X9_blockRow_2 l dC dI mo w2) (cwV 2 hts gX9_vote_X9_blockRow rfl rfl rfl (by decide +kernel) ⟨Nat.le_of_ble_eq_true rfl, Nat.le_of_ble_eq_true rfl⟩) ⟨fun a U g mk q => by obtain ⟨q0, qP, qK⟩ := q; exact ⟨q0, qP, va_K.moved (u := U) (U := U.calling g mk a) (Vm.Alike.refl U.vm) qK⟩, va_recv hK hP (ci := 11) (q := (RX9, TX9, 38)) rfl (q0 := 0) rfl, fun U hU hW => ⟨rfl, by rw [hU]; exact hPc, va_K.moved hW.alike hKc⟩⟩ rfl rfl hl.1 rfl (lv_room (Nat.le_of_ble_eq_true rfl)) dX9_vote_77 ⟨Nat.le_of_ble_eq_true rfl, Nat.le_of_ble_eq_true rfl⟩)) (fun r_10 er_10 => ?_)
            subst er_10
            refine lv_istore (lv' := [(7, .int (-1 : Int32)), (5, .long w2), (0, .ref mo), (1, .int p0), (2, .int p1), (3, .long w2)]) hx hb dX9_vote_80 hl (by decide) rfl (fun ls hl => ?_)
            refine lv_iload hx hb dX9_vote_82 (lv_at hl 0 rfl) ?_
            refine lv_iconst (v := (-1)) hx hb dX9_vote_84 (by decide) ?_
            refine lv_icmp_eq (tgt := 98) hx hb dX9_vote_85 (by decide) (fun c_11 => ?_) (fun c_11 => ?_)
            · skip
              refine lv_bipush (v := (-6)) hx hb dX9_vote_98 (by decide) ?_
              have hP := hP.sub (ws' := [(mo, .inr (11, [.ref m_disk, .int (nI P), .int ((8224 : Int32) + ((26 : Int32) * (nI P))), .int (1 : Int32), .int 0, .int (-1 : Int32), .int 0, .int (0 : Int32), .ref m_tape, .int 0, .ref m_slots, .ref m_leaves, .int 0, .int 0, .ref m_fresh, .int 0, .int (0 : Int32), .int (0 : Int32), .ref m_digestAt, .ref m_isGroup, .ref m_counts, .int (-1 : Int32), .int (0 : Int32), .long (0 : Int64), .int (0 : Int32), .ref m_versionRow, .int (0 : Int32), .long (0 : Int64), .ref m_state, .ref m_names, .int 0, .ref m_keptRow, .int 0, .ref m_inSlot, .ref m_inAt, .ref m_inSize, .ref m_inDigest, .int 0]))]) [0] rfl
              have hD := hD.sub (ws' := [(mo, .inr (11, [.ref m_disk, .int (nI P), .int ((8224 : Int32) + ((26 : Int32) * (nI P))), .int (1 : Int32), .int 0, .int (-1 : Int32), .int 0, .int (0 : Int32), .ref m_tape, .int 0, .ref m_slots, .ref m_leaves, .int 0, .int 0, .ref m_fresh, .int 0, .int (0 : Int32), .int (0 : Int32), .ref m_digestAt, .ref m_isGroup, .ref m_counts, .int (-1 : Int32), .int (0 : Int32), .long (0 : Int64), .int (0 : Int32), .ref m_versionRow, .int (0 : Int32), .long (0 : Int64), .ref m_state, .ref m_names, .int 0, .ref m_keptRow, .int 0, .ref m_inSlot, .ref m_inAt, .ref m_inSize, .ref m_inDigest, .int 0]))]) [0] (by decide) rfl
              have hK := hK.sub (tys' := [(d_digestAt, .long), (d_isGroup, .boolean), (d_counts, .boolean)]) [0, 1, 2] rfl
              exact W.iret hx hb hr (fun t ht hW => ⟨⟨_, (), rfl, rfl, by rw [ht]; exact hP, va_K.moved hW.alike hK, hD⟩, hS.F ht⟩) hS.2.2 dX9_vote_100
            · skip
              exact absurd (by decide) c_11
          · skip
            exact absurd (by decide) c_8
        · skip
          exact absurd (by decide) c_6
      · skip
        exact absurd c_5 (by decide)
  · skip
    exact absurd c_1 (by decide)

set_option maxHeartbeats 4000000 in
set_option maxRecDepth 100000 in
theorem k_X8_sent_1 (l : Launch) (hl0 : l.stackTraces = false) (dC : Nat → ClassId) (dI : Nat → Nat → Nat) (x : Nat) (p0 : Int32) (rr : Nat) (ds : Nat) (tp : Nat) (so : Nat) (pu : Nat) (sn : Nat) (im : Nat) (cs : Nat) (cl : Nat) (ri : Nat) (pg : Int32) (dl : Nat) (dr : Nat) (dt : Nat) (sz : Nat) (hf0 : p0 < 0) : vx_Met l yX8_sent wsX8_sent ({ frames := 7, cells := 1, slots := 6, locals := 112 }) (va_Pc [.ref x, .int p0] (fun U => U.heap.size = sz ∧ va_P (dC, dI) vwCl [(x, .inr (10, [.ref tp, .ref ds, .ref rr, .ref so, .ref pu, .ref sn, .ref im, .ref cs, .ref cl, .int (0 : Int32)])), (rr, .inr (6, [.ref ds, .ref ri, .int 0, .int 1, .int 0, .int 0])), (ds, .inr (3, [.int pg, .ref dl, .ref dr, .ref dt, .int (1 : Int32), .int (-1 : Int32), .int (0 : Int32)]))] U.heap ∧ va_K (dC, dI) vwCl [] U ∧ va_D (fun _ => True) [(x, .inr (10, [.ref tp, .ref ds, .ref rr, .ref so, .ref pu, .ref sn, .ref im, .ref cs, .ref cl, .int (0 : Int32)])), (rr, .inr (6, [.ref ds, .ref ri, .int 0, .int 1, .int 0, .int 0])), (ds, .inr (3, [.int pg, .ref dl, .ref dr, .ref dt, .int (1 : Int32), .int (-1 : Int32), .int (0 : Int32)]))] ∧ gx_E (va_A [(x, .inr (10, [.ref tp, .ref ds, .ref rr, .ref so, .ref pu, .ref sn, .ref im, .ref cs, .ref cl, .int (0 : Int32)])), (rr, .inr (6, [.ref ds, .ref ri, .int 0, .int 1, .int 0, .int 0])), (ds, .inr (3, [.int pg, .ref dl, .ref dr, .ref dt, .int (1 : Int32), .int (-1 : Int32), .int (0 : Int32)]))] sz) U)) (va_Qi (fun (_ : Int32) (_ : Unit) => False) (fun _ _ => True) (va_A [(x, .inr (10, [.ref tp, .ref ds, .ref rr, .ref so, .ref pu, .ref sn, .ref im, .ref cs, .ref cl, .int (0 : Int32)])), (rr, .inr (6, [.ref ds, .ref ri, .int 0, .int 1, .int 0, .int 0])), (ds, .inr (3, [.int pg, .ref dl, .ref dr, .ref dt, .int (1 : Int32), .int (-1 : Int32), .int (0 : Int32)]))] sz)) (vx_X (fun _ : Unit => True) (fun E _ _ => E = "java/lang/IndexOutOfBoundsException") (va_A [(x, .inr (10, [.ref tp, .ref ds, .ref rr, .ref so, .ref pu, .ref sn, .ref im, .ref cs, .ref cl, .int (0 : Int32)])), (rr, .inr (6, [.ref ds, .ref ri, .int 0, .int 1, .int 0, .int 0])), (ds, .inr (3, [.int pg, .ref dl, .ref dr, .ref dt, .int (1 : Int32), .int (-1 : Int32), .int (0 : Int32)]))] sz)) 1 6 (va_A [(x, .inr (10, [.ref tp, .ref ds, .ref rr, .ref so, .ref pu, .ref sn, .ref im, .ref cs, .ref cl, .int (0 : Int32)])), (rr, .inr (6, [.ref ds, .ref ri, .int 0, .int 1, .int 0, .int 0])), (ds, .inr (3, [.int pg, .ref dl, .ref dr, .ref dt, .int (1 : Int32), .int (-1 : Int32), .int (0 : Int32)]))] sz) := by
  refine vx_ofW (cc := cX8_sent) (maxL := 2) (ret := (some .boolean)) (by decide) rfl ?_
  intro p e s m args below meth c s₁ B hml hno hv
  obtain ⟨rfl, hsz, hP, hK, hD0, hG⟩ := hv
  have hx := B.exec
  have hb := B.bytes
  have hr := B.returns
  have hts := atoms_spec (ws := wsX8_sent) B.pre
  have hown : s.vm.findClass RX8 = some m.cls := findClass_of_methodNamed B.named
  have hlocks := B.notSynchronized
  subst hsz
  have hD := hD0.self (sz := s.heap.size)
  generalize hAe : va_A [(x, .inr (10, [.ref tp, .ref ds, .ref rr, .ref so, .ref pu, .ref sn, .ref im, .ref cs, .ref cl, .int (0 : Int32)])), (rr, .inr (6, [.ref ds, .ref ri, .int 0, .int 1, .int 0, .int 0])), (ds, .inr (3, [.int pg, .ref dl, .ref dr, .ref dt, .int (1 : Int32), .int (-1 : Int32), .int (0 : Int32)]))] s.heap.size = A at hD hG ⊢
  have hA : ∀ q : Nat, s.heap.size ≤ q → A q := fun q h => by rw [← hAe]; exact Or.inr h
  have hS : va_S A s.heap s.heap [] := va_S.rf
  have hl := lv_entry ([.ref x, .int p0]) (n := 2) (Nat.le_of_ble_eq_true rfl)
  rw [lg_entry_eq]
  generalize (lg_sl ([.ref x, .int p0]) ++ List.replicate (2 - (lg_sl ([.ref x, .int p0])).length) Slot.unset).toArray = ls at hl ⊢
  have hl : lv_has ls 2 [(0, .ref x), (1, .int p0)] := hl
  refine lv_aload_n hx hb dX8_sent_0 rfl (lv_at hl 0 rfl) ?_
  refine lv_iload_n hx hb dX8_sent_1 rfl (lv_at hl 1 rfl) ?_
  have hPc := hP.sub (ws' := [(x, .inr (10, [.ref tp, .ref ds, .ref rr, .ref so, .ref pu, .ref sn, .ref im, .ref cs, .ref cl, .int (0 : Int32)])), (rr, .inr (6, [.ref ds, .ref ri, .int 0, .int 1, .int 0, .int 0])), (ds, .inr (3, [.int pg, .ref dl, .ref dr, .ref dt, .int (1 : Int32), .int (-1 : Int32), .int (0 : Int32)]))]) [0, 1, 2] rfl
  have hKc := hK.sub (tys' := []) [] rfl
  have hDc := hD.sub (ws' := [(x, .inr (10, [.ref tp, .ref ds, .ref rr, .ref so, .ref pu, .ref sn, .ref im, .ref cs, .ref cl, .int (0 : Int32)])), (rr, .inr (6, [.ref ds, .ref ri, .int 0, .int 1, .int 0, .int 0])), (ds, .inr (3, [.int pg, .ref dl, .ref dr, .ref dt, .int (1 : Int32), .int (-1 : Int32), .int (0 : Int32)]))]) [0, 1, 2] (by decide) rfl
  have hFc := va_free (wc := [(x, .inr (10, [.ref tp, .ref ds, .ref rr, .ref so, .ref pu, .ref sn, .ref im, .ref cs, .ref cl, .int (0 : Int32)])), (rr, .inr (6, [.ref ds, .ref ri, .int 0, .int 1, .int 0, .int 0])), (ds, .inr (3, [.int pg, .ref dl, .ref dr, .ref dt, .int (1 : Int32), .int (-1 : Int32), .int (0 : Int32)]))]) hD hS hA [0, 1, 2] rfl
  refine vx_callv (vx_runV (As := [.int p0]) (rest := []) ⟨hx, hb, hml, hown, hts⟩ (k_X8_demandRow_1 l hl0 dC dI x p0 rr ds tp so pu sn im cs cl ri pg dl dr dt _ hf0) (cwV 1 hts gX8_sent_X8_demandRow rfl rfl rfl (by decide +kernel) ⟨Nat.le_of_ble_eq_true rfl, Nat.le_of_ble_eq_true rfl⟩) ⟨fun a U g mk q => by obtain ⟨q0, q1, qP, qK, qD, qG⟩ := q; exact ⟨q0, q1, qP, va_K.moved (u := U) (U := U.calling g mk a) (Vm.Alike.refl U.vm) qK, qD, qG.same rfl rfl⟩, va_recv hK hP (ci := 10) (q := (RX8, TX8, 10)) rfl (q0 := 0) rfl, fun U hU hW => ⟨rfl, by rw [hU], by rw [hU]; exact hPc, va_K.moved hW.alike hKc, hDc.weaken (fun _ _ _ _ => trivial), hG.go hW hU hS hFc⟩⟩ rfl rfl hl.1 rfl (lv_room (Nat.le_of_ble_eq_true rfl)) dX8_sent_2 ⟨Nat.le_of_ble_eq_true rfl, Nat.le_of_ble_eq_true rfl⟩) hS (fun q _ h => hFc q h) hFc (fun q _ h => hFc q h) (fun E9 ce q9 u t H1 locs1 ht hvm hp hE hz hk hS hcell hv hcl => ?_) (fun u t H1 locs1 ht hvm hp hB hz hk hS => hp.elim)
  subst hE
  exact vx_out (fun x h => (hno x h).elim) hlocks hcell hv hcl (fun t ht hW => ⟨(), trivial, rfl, hS.F ht⟩) hS.2.2 (Nat.le_refl _) (Nat.le_refl _)

set_option maxHeartbeats 4000000 in
set_option maxRecDepth 100000 in
theorem k_L_sent_1 (l : Launch) (hl0 : l.stackTraces = false) (dC : Nat → ClassId) (dI : Nat → Nat → Nat) (x : Nat) (p0 : Int32) (ho : Nat) (rr : Nat) (ds : Nat) (tp : Nat) (so : Nat) (pu : Nat) (sn : Nat) (im : Nat) (cs : Nat) (cl : Nat) (ri : Nat) (pg : Int32) (dl : Nat) (dr : Nat) (dt : Nat) (sz : Nat) (hf0 : p0 < 0) : Met l yL_sent wsL_sent ({ frames := 8, cells := 1, slots := 6, locals := 133 }) (va_Pc [.ref x, .int p0, .ref ho] (fun U => U.heap.size = sz ∧ va_P (dC, dI) vwCl [(x, .inr (10, [.ref tp, .ref ds, .ref rr, .ref so, .ref pu, .ref sn, .ref im, .ref cs, .ref cl, .int (0 : Int32)])), (rr, .inr (6, [.ref ds, .ref ri, .int 0, .int 1, .int 0, .int 0])), (ds, .inr (3, [.int pg, .ref dl, .ref dr, .ref dt, .int (1 : Int32), .int (-1 : Int32), .int (0 : Int32)]))] U.heap ∧ va_K (dC, dI) vwCl [] U ∧ va_D (fun _ => True) [(x, .inr (10, [.ref tp, .ref ds, .ref rr, .ref so, .ref pu, .ref sn, .ref im, .ref cs, .ref cl, .int (0 : Int32)])), (rr, .inr (6, [.ref ds, .ref ri, .int 0, .int 1, .int 0, .int 0])), (ds, .inr (3, [.int pg, .ref dl, .ref dr, .ref dt, .int (1 : Int32), .int (-1 : Int32), .int (0 : Int32)]))] ∧ gx_E (va_A [(x, .inr (10, [.ref tp, .ref ds, .ref rr, .ref so, .ref pu, .ref sn, .ref im, .ref cs, .ref cl, .int (0 : Int32)])), (rr, .inr (6, [.ref ds, .ref ri, .int 0, .int 1, .int 0, .int 0])), (ds, .inr (3, [.int pg, .ref dl, .ref dr, .ref dt, .int (1 : Int32), .int (-1 : Int32), .int (0 : Int32)]))] sz) U)) (va_Qi (fun r (_ : Unit) => r = (1 : Int32)) (fun (_ : Unit) t => va_P (dC, dI) vwCl [] t.heap ∧ va_K (dC, dI) vwCl [] t ∧ va_D (va_A [(x, .inr (10, [.ref tp, .ref ds, .ref rr, .ref so, .ref pu, .ref sn, .ref im, .ref cs, .ref cl, .int (0 : Int32)])), (rr, .inr (6, [.ref ds, .ref ri, .int 0, .int 1, .int 0, .int 0])), (ds, .inr (3, [.int pg, .ref dl, .ref dr, .ref dt, .int (1 : Int32), .int (-1 : Int32), .int (0 : Int32)]))] sz) []) (va_A [(x, .inr (10, [.ref tp, .ref ds, .ref rr, .ref so, .ref pu, .ref sn, .ref im, .ref cs, .ref cl, .int (0 : Int32)])), (rr, .inr (6, [.ref ds, .ref ri, .int 0, .int 1, .int 0, .int 0])), (ds, .inr (3, [.int pg, .ref dl, .ref dr, .ref dt, .int (1 : Int32), .int (-1 : Int32), .int (0 : Int32)]))] sz)) 1 6 (va_A [(x, .inr (10, [.ref tp, .ref ds, .ref rr, .ref so, .ref pu, .ref sn, .ref im, .ref cs, .ref cl, .int (0 : Int32)])), (rr, .inr (6, [.ref ds, .ref ri, .int 0, .int 1, .int 0, .int 0])), (ds, .inr (3, [.int pg, .ref dl, .ref dr, .ref dt, .int (1 : Int32), .int (-1 : Int32), .int (0 : Int32)]))] sz) := by
  refine va_MetW (cc := cL_sent) (maxL := 4) (ret := (some .int)) (hh := [(0, 16, 19, 19), (0, 16, 22, 25)]) (by decide) rfl ?_
  intro p e s m args below meth c s₁ B hml hv
  obtain ⟨rfl, hsz, hP, hK, hD0, hG⟩ := hv
  have hx := B.exec
  have hb := B.bytes
  have hr := B.returns
  have hts := atoms_spec (ws := wsL_sent) B.pre
  have hown : s.vm.findClass RL = some m.cls := findClass_of_methodNamed B.named
  have hlocks := B.notSynchronized
  have htab := vx_table (x := yL_sent) B (hts (.codeWith yL_sent cL_sent 4 (some .int) [(0, 16, 19, 19), (0, 16, 22, 25)]) List.mem_cons_self)
  subst hsz
  have hD := hD0.self (sz := s.heap.size)
  generalize hAe : va_A [(x, .inr (10, [.ref tp, .ref ds, .ref rr, .ref so, .ref pu, .ref sn, .ref im, .ref cs, .ref cl, .int (0 : Int32)])), (rr, .inr (6, [.ref ds, .ref ri, .int 0, .int 1, .int 0, .int 0])), (ds, .inr (3, [.int pg, .ref dl, .ref dr, .ref dt, .int (1 : Int32), .int (-1 : Int32), .int (0 : Int32)]))] s.heap.size = A at hD hG ⊢
  have hA : ∀ q : Nat, s.heap.size ≤ q → A q := fun q h => by rw [← hAe]; exact Or.inr h
  have hS : va_S A s.heap s.heap [] := va_S.rf
  have hl := lv_entry ([.ref x, .int p0, .ref ho]) (n := 4) (Nat.le_of_ble_eq_true rfl)
  rw [lg_entry_eq]
  generalize (lg_sl ([.ref x, .int p0, .ref ho]) ++ List.replicate (4 - (lg_sl ([.ref x, .int p0, .ref ho])).length) Slot.unset).toArray = ls at hl ⊢
  have hl : lv_has ls 4 [(0, .ref x), (1, .int p0), (2, .ref ho)] := hl
  refine lv_aload_n hx hb dL_sent_0 rfl (lv_at hl 2 rfl) ?_
  refine lv_iconst (v := 0) hx hb dL_sent_1 (by decide) ?_
  refine lv_aload_n hx hb dL_sent_2 rfl (lv_at hl 0 rfl) ?_
  refine lv_iload_n hx hb dL_sent_3 rfl (lv_at hl 1 rfl) ?_
  have hPc := hP.sub (ws' := [(x, .inr (10, [.ref tp, .ref ds, .ref rr, .ref so, .ref pu, .ref sn, .ref im, .ref cs, .ref cl, .int (0 : Int32)])), (rr, .inr (6, [.ref ds, .ref ri, .int 0, .int 1, .int 0, .int 0])), (ds, .inr (3, [.int pg, .ref dl, .ref dr, .ref dt, .int (1 : Int32), .int (-1 : Int32), .int (0 : Int32)]))]) [0, 1, 2] rfl
  have hKc := hK.sub (tys' := []) [] rfl
  have hDc := hD.sub (ws' := [(x, .inr (10, [.ref tp, .ref ds, .ref rr, .ref so, .ref pu, .ref sn, .ref im, .ref cs, .ref cl, .int (0 : Int32)])), (rr, .inr (6, [.ref ds, .ref ri, .int 0, .int 1, .int 0, .int 0])), (ds, .inr (3, [.int pg, .ref dl, .ref dr, .ref dt, .int (1 : Int32), .int (-1 : Int32), .int (0 : Int32)]))]) [0, 1, 2] (by decide) rfl
  have hFc := va_free (wc := [(x, .inr (10, [.ref tp, .ref ds, .ref rr, .ref so, .ref pu, .ref sn, .ref im, .ref cs, .ref cl, .int (0 : Int32)])), (rr, .inr (6, [.ref ds, .ref ri, .int 0, .int 1, .int 0, .int 0])), (ds, .inr (3, [.int pg, .ref dl, .ref dr, .ref dt, .int (1 : Int32), .int (-1 : Int32), .int (0 : Int32)]))]) hD hS hA [0, 1, 2] rfl
  refine vx_calli (vx_runV (As := [.int p0]) (rest := [.int (0 : Int32), .ref ho]) ⟨hx, hb, hml, hown, hts⟩ (k_X8_sent_1 l hl0 dC dI x p0 rr ds tp so pu sn im cs cl ri pg dl dr dt _ hf0) (cwV 1 hts gL_sent_X8_sent rfl rfl rfl (by decide +kernel) ⟨Nat.le_of_ble_eq_true rfl, Nat.le_of_ble_eq_true rfl⟩) ⟨fun a U g mk q => by obtain ⟨q0, q1, qP, qK, qD, qG⟩ := q; exact ⟨q0, q1, qP, va_K.moved (u := U) (U := U.calling g mk a) (Vm.Alike.refl U.vm) qK, qD, qG.same rfl rfl⟩, va_recv hK hP (ci := 10) (q := (RX8, TX8, 10)) rfl (q0 := 0) rfl, fun U hU hW => ⟨rfl, by rw [hU], by rw [hU]; exact hPc, va_K.moved hW.alike hKc, hDc.weaken (fun _ _ _ _ => trivial), hG.go hW hU hS hFc⟩⟩ rfl rfl hl.1 rfl (lv_room (Nat.le_of_ble_eq_true rfl)) dL_sent_4 ⟨Nat.le_of_ble_eq_true rfl, Nat.le_of_ble_eq_true rfl⟩) hS (fun q _ h => hFc q h) hFc (fun q _ h => hFc q h) (fun E9 ce q9 u t H1 locs1 ht hvm hp hE hz hk hS hcell hv hcl => ?_) (fun r u t H1 locs1 ht hvm hp hB hz hk hS => hp.elim)
  subst hE
  refine vx_catch (name := "java/lang/IndexOutOfBoundsException") hown [] ⟨0, 16, 19, 19⟩ [⟨0, 16, 22, 25⟩] htab (fun z h => by cases h) (by decide) (by decide) (hts (.classLink RL 19 "java/lang/IndexOutOfBoundsException") (by decide +kernel)) (va_Nw.use rfl (hG.1.2.2.1 _ (by decide))) hcell hv hcl ?_
  refine W.eq (g2 := F0 m 19 ls [.ref q9]) rfl ?_
  have hP : va_P (dC, dI) vwCl [] H1 := fun k q h => by simp at h
  have hD : va_D A [] := ⟨fun i j p q h => by simp at h, fun k q h => by simp at h⟩
  generalize H1 = H at hP hS ⊢
  refine lv_astore_n (lv' := [(3, .ref q9), (0, .ref x), (1, .int p0), (2, .ref ho)]) hx hb dL_sent_19 rfl hl (by decide) rfl (fun ls hl => ?_)
  refine lv_iconst (v := 1) hx hb dL_sent_20 (by decide) ?_
  have hP := hP.sub (ws' := []) [] rfl
  have hD := hD.sub (ws' := []) [] (by decide) rfl
  have hK := hK.sub (tys' := []) [] rfl
  exact W.iret hx hb hr (fun t ht hW => ⟨⟨_, (), rfl, rfl, by rw [ht]; exact hP, va_K.moved hW.alike hK, hD⟩, hS.F ht⟩) hS.2.2 dL_sent_21

set_option maxHeartbeats 4000000 in
set_option maxRecDepth 100000 in
theorem k_X9_sent_1 (l : Launch) (dC : Nat → ClassId) (dI : Nat → Nat → Nat) (mo : Nat) (p0 : Int32) (m_disk : Nat) (P : Nat) (m_tape : Nat) (m_slots : Nat) (m_leaves : Nat) (m_fresh : Nat) (m_digestAt : Nat) (m_isGroup : Nat) (m_counts : Nat) (m_versionRow : Nat) (m_state : Nat) (m_names : Nat) (m_keptRow : Nat) (m_inSlot : Nat) (m_inAt : Nat) (m_inSize : Nat) (m_inDigest : Nat) (sz : Nat) (hf0 : p0 < 0) : Met l yX9_sent wsX9_sent ({ frames := 1, cells := 0, slots := 0, locals := 21 }) (va_Pc [.ref mo, .int p0] (fun U => U.heap.size = sz ∧ va_P (dC, dI) vwCl [(mo, .inr (11, [.ref m_disk, .int (nI P), .int ((8224 : Int32) + ((26 : Int32) * (nI P))), .int (1 : Int32), .int 0, .int (-1 : Int32), .int 0, .int (0 : Int32), .ref m_tape, .int 0, .ref m_slots, .ref m_leaves, .int 0, .int 0, .ref m_fresh, .int 0, .int 0, .int 0, .ref m_digestAt, .ref m_isGroup, .ref m_counts, .int 0, .int 0, .long 0, .int 0, .ref m_versionRow, .int 0, .long 0, .ref m_state, .ref m_names, .int 0, .ref m_keptRow, .int 0, .ref m_inSlot, .ref m_inAt, .ref m_inSize, .ref m_inDigest, .int 0]))] U.heap ∧ va_K (dC, dI) vwCl [] U ∧ va_D (fun _ => True) [(mo, .inr (11, [.ref m_disk, .int (nI P), .int ((8224 : Int32) + ((26 : Int32) * (nI P))), .int (1 : Int32), .int 0, .int (-1 : Int32), .int 0, .int (0 : Int32), .ref m_tape, .int 0, .ref m_slots, .ref m_leaves, .int 0, .int 0, .ref m_fresh, .int 0, .int 0, .int 0, .ref m_digestAt, .ref m_isGroup, .ref m_counts, .int 0, .int 0, .long 0, .int 0, .ref m_versionRow, .int 0, .long 0, .ref m_state, .ref m_names, .int 0, .ref m_keptRow, .int 0, .ref m_inSlot, .ref m_inAt, .ref m_inSize, .ref m_inDigest, .int 0]))])) (va_Qi (fun r (_ : Unit) => r = (0 : Int32)) (fun (_ : Unit) t => va_P (dC, dI) vwCl [(mo, .inr (11, [.ref m_disk, .int (nI P), .int ((8224 : Int32) + ((26 : Int32) * (nI P))), .int (1 : Int32), .int 0, .int (-1 : Int32), .int 0, .int (0 : Int32), .ref m_tape, .int 0, .ref m_slots, .ref m_leaves, .int 0, .int (1 : Int32), .ref m_fresh, .int 0, .int 0, .int 0, .ref m_digestAt, .ref m_isGroup, .ref m_counts, .int 0, .int 0, .long 0, .int 0, .ref m_versionRow, .int 0, .long 0, .ref m_state, .ref m_names, .int 0, .ref m_keptRow, .int 0, .ref m_inSlot, .ref m_inAt, .ref m_inSize, .ref m_inDigest, .int 0]))] t.heap ∧ va_K (dC, dI) vwCl [] t ∧ va_D (va_A [(mo, .inr (11, [.ref m_disk, .int (nI P), .int ((8224 : Int32) + ((26 : Int32) * (nI P))), .int (1 : Int32), .int 0, .int (-1 : Int32), .int 0, .int (0 : Int32), .ref m_tape, .int 0, .ref m_slots, .ref m_leaves, .int 0, .int 0, .ref m_fresh, .int 0, .int 0, .int 0, .ref m_digestAt, .ref m_isGroup, .ref m_counts, .int 0, .int 0, .long 0, .int 0, .ref m_versionRow, .int 0, .long 0, .ref m_state, .ref m_names, .int 0, .ref m_keptRow, .int 0, .ref m_inSlot, .ref m_inAt, .ref m_inSize, .ref m_inDigest, .int 0]))] sz) [(mo, .inr (11, [.ref m_disk, .int (nI P), .int ((8224 : Int32) + ((26 : Int32) * (nI P))), .int (1 : Int32), .int 0, .int (-1 : Int32), .int 0, .int (0 : Int32), .ref m_tape, .int 0, .ref m_slots, .ref m_leaves, .int 0, .int (1 : Int32), .ref m_fresh, .int 0, .int 0, .int 0, .ref m_digestAt, .ref m_isGroup, .ref m_counts, .int 0, .int 0, .long 0, .int 0, .ref m_versionRow, .int 0, .long 0, .ref m_state, .ref m_names, .int 0, .ref m_keptRow, .int 0, .ref m_inSlot, .ref m_inAt, .ref m_inSize, .ref m_inDigest, .int 0]))]) (va_A [(mo, .inr (11, [.ref m_disk, .int (nI P), .int ((8224 : Int32) + ((26 : Int32) * (nI P))), .int (1 : Int32), .int 0, .int (-1 : Int32), .int 0, .int (0 : Int32), .ref m_tape, .int 0, .ref m_slots, .ref m_leaves, .int 0, .int 0, .ref m_fresh, .int 0, .int 0, .int 0, .ref m_digestAt, .ref m_isGroup, .ref m_counts, .int 0, .int 0, .long 0, .int 0, .ref m_versionRow, .int 0, .long 0, .ref m_state, .ref m_names, .int 0, .ref m_keptRow, .int 0, .ref m_inSlot, .ref m_inAt, .ref m_inSize, .ref m_inDigest, .int 0]))] sz)) 0 0 (va_A [(mo, .inr (11, [.ref m_disk, .int (nI P), .int ((8224 : Int32) + ((26 : Int32) * (nI P))), .int (1 : Int32), .int 0, .int (-1 : Int32), .int 0, .int (0 : Int32), .ref m_tape, .int 0, .ref m_slots, .ref m_leaves, .int 0, .int 0, .ref m_fresh, .int 0, .int 0, .int 0, .ref m_digestAt, .ref m_isGroup, .ref m_counts, .int 0, .int 0, .long 0, .int 0, .ref m_versionRow, .int 0, .long 0, .ref m_state, .ref m_names, .int 0, .ref m_keptRow, .int 0, .ref m_inSlot, .ref m_inAt, .ref m_inSize, .ref m_inDigest, .int 0]))] sz) := by
  refine Met.ofW (cc := cX9_sent) (maxL := 2) (ret := (some .boolean)) (by decide) rfl ?_
  intro p e s m args below meth c s₁ B hml hv
  obtain ⟨rfl, hsz, hP, hK, hD0⟩ := hv
  have hx := B.exec
  have hb := B.bytes
  have hr := B.returns
  have hts := atoms_spec (ws := wsX9_sent) B.pre
  have hown : s.vm.findClass RX9 = some m.cls := findClass_of_methodNamed B.named
  have hlocks := B.notSynchronized
  subst hsz
  have hD := hD0.self (sz := s.heap.size)
  generalize hAe : va_A [(mo, .inr (11, [.ref m_disk, .int (nI P), .int ((8224 : Int32) + ((26 : Int32) * (nI P))), .int (1 : Int32), .int 0, .int (-1 : Int32), .int 0, .int (0 : Int32), .ref m_tape, .int 0, .ref m_slots, .ref m_leaves, .int 0, .int 0, .ref m_fresh, .int 0, .int 0, .int 0, .ref m_digestAt, .ref m_isGroup, .ref m_counts, .int 0, .int 0, .long 0, .int 0, .ref m_versionRow, .int 0, .long 0, .ref m_state, .ref m_names, .int 0, .ref m_keptRow, .int 0, .ref m_inSlot, .ref m_inAt, .ref m_inSize, .ref m_inDigest, .int 0]))] s.heap.size = A at hD ⊢
  have hA : ∀ q : Nat, s.heap.size ≤ q → A q := fun q h => by rw [← hAe]; exact Or.inr h
  have hS : va_S A s.heap s.heap [] := va_S.rf
  have hl := lv_entry ([.ref mo, .int p0]) (n := 2) (Nat.le_of_ble_eq_true rfl)
  rw [lg_entry_eq]
  generalize (lg_sl ([.ref mo, .int p0]) ++ List.replicate (2 - (lg_sl ([.ref mo, .int p0])).length) Slot.unset).toArray = ls at hl ⊢
  have hl : lv_has ls 2 [(0, .ref mo), (1, .int p0)] := hl
  refine lv_aload_n hx hb dX9_sent_0 rfl (lv_at hl 0 rfl) ?_
  refine lv_aload_n hx hb dX9_sent_1 rfl (lv_at hl 0 rfl) ?_
  refine lv_iload_n hx hb dX9_sent_2 rfl (lv_at hl 1 rfl) ?_
  have hPc := hP.sub (ws' := []) [] rfl
  have hKc := hK.sub (tys' := []) [] rfl
  refine vp_callSi (va_Run.run (va_runV (As := [.int p0]) (rest := [.ref mo]) ⟨hx, hb, hml, hown, hts⟩ (k_X9_isRow_1 l dC dI mo p0 hf0) (cwV 1 hts gX9_sent_X9_isRow rfl rfl rfl (by decide +kernel) ⟨Nat.le_of_ble_eq_true rfl, Nat.le_of_ble_eq_true rfl⟩) ⟨fun a U g mk q => by obtain ⟨q0, qP, qK⟩ := q; exact ⟨q0, qP, va_K.moved (u := U) (U := U.calling g mk a) (Vm.Alike.refl U.vm) qK⟩, va_recv hK hP (ci := 11) (q := (RX9, TX9, 38)) rfl (q0 := 0) rfl, fun U hU hW => ⟨rfl, by rw [hU]; exact hPc, va_K.moved hW.alike hKc⟩⟩ rfl rfl hl.1 rfl (lv_room (Nat.le_of_ble_eq_true rfl)) dX9_sent_3 ⟨Nat.le_of_ble_eq_true rfl, Nat.le_of_ble_eq_true rfl⟩)) (fun r_1 er_1 => ?_)
  subst er_1
  refine lv_if_ne (tgt := 13) hx hb dX9_sent_6 (by decide) (fun c_2 => ?_) (fun c_2 => ?_)
  · skip
    exact absurd (by decide) c_2
  · skip
    refine lv_iconst (v := 1) hx hb dX9_sent_9 (by decide) ?_
    refine lv_goto (tgt := 25) hx hb dX9_sent_10 (by decide) ?_
    refine va_put (D := (dC, dI)) (ci := 11) (v := .int (1 : Int32)) (ty := .int) (C := RX9) (T := TX9) (N := 38) hx hb hts (by decide +kernel) tyX9 tyX9_ok nmX9 hown hK hP hD hS 0 rfl rfl 13 (by decide) (hts (.fieldLink RX9 91 "BlockLogModel" "thrown" "I") (by decide +kernel)) (fun _ h9 => h9) rfl (by decide +kernel) rfl rfl (Nat.le_of_ble_eq_true rfl) dX9_sent_25 (fun H locs hP hD hS => ?_)
    have hP : va_P (dC, dI) vwCl [(mo, .inr (11, [.ref m_disk, .int (nI P), .int ((8224 : Int32) + ((26 : Int32) * (nI P))), .int (1 : Int32), .int 0, .int (-1 : Int32), .int 0, .int (0 : Int32), .ref m_tape, .int 0, .ref m_slots, .ref m_leaves, .int 0, .int (1 : Int32), .ref m_fresh, .int 0, .int 0, .int 0, .ref m_digestAt, .ref m_isGroup, .ref m_counts, .int 0, .int 0, .long 0, .int 0, .ref m_versionRow, .int 0, .long 0, .ref m_state, .ref m_names, .int 0, .ref m_keptRow, .int 0, .ref m_inSlot, .ref m_inAt, .ref m_inSize, .ref m_inDigest, .int 0]))] H := hP
    have hD : va_D A [(mo, .inr (11, [.ref m_disk, .int (nI P), .int ((8224 : Int32) + ((26 : Int32) * (nI P))), .int (1 : Int32), .int 0, .int (-1 : Int32), .int 0, .int (0 : Int32), .ref m_tape, .int 0, .ref m_slots, .ref m_leaves, .int 0, .int (1 : Int32), .ref m_fresh, .int 0, .int 0, .int 0, .ref m_digestAt, .ref m_isGroup, .ref m_counts, .int 0, .int 0, .long 0, .int 0, .ref m_versionRow, .int 0, .long 0, .ref m_state, .ref m_names, .int 0, .ref m_keptRow, .int 0, .ref m_inSlot, .ref m_inAt, .ref m_inSize, .ref m_inDigest, .int 0]))] := hD
    refine lv_aload_n hx hb dX9_sent_28 rfl (lv_at hl 0 rfl) ?_
    refine va_get (D := (dC, dI)) (ci := 11) (v := .int (1 : Int32)) (C := RX9) (T := TX9) (N := 38) hx hb hts (by decide +kernel) hown hK hP 0 rfl rfl 13 (by decide) (hts (.fieldLink RX9 91 "BlockLogModel" "thrown" "I") (by decide +kernel)) (fun _ h9 => h9) rfl dX9_sent_29 ?_
    refine lv_if_ne (tgt := 57) hx hb dX9_sent_32 (by decide) (fun c_3 => ?_) (fun c_3 => ?_)
    · skip
      refine lv_iconst (v := 0) hx hb dX9_sent_57 (by decide) ?_
      have hP := hP.sub (ws' := [(mo, .inr (11, [.ref m_disk, .int (nI P), .int ((8224 : Int32) + ((26 : Int32) * (nI P))), .int (1 : Int32), .int 0, .int (-1 : Int32), .int 0, .int (0 : Int32), .ref m_tape, .int 0, .ref m_slots, .ref m_leaves, .int 0, .int (1 : Int32), .ref m_fresh, .int 0, .int 0, .int 0, .ref m_digestAt, .ref m_isGroup, .ref m_counts, .int 0, .int 0, .long 0, .int 0, .ref m_versionRow, .int 0, .long 0, .ref m_state, .ref m_names, .int 0, .ref m_keptRow, .int 0, .ref m_inSlot, .ref m_inAt, .ref m_inSize, .ref m_inDigest, .int 0]))]) [0] rfl
      have hD := hD.sub (ws' := [(mo, .inr (11, [.ref m_disk, .int (nI P), .int ((8224 : Int32) + ((26 : Int32) * (nI P))), .int (1 : Int32), .int 0, .int (-1 : Int32), .int 0, .int (0 : Int32), .ref m_tape, .int 0, .ref m_slots, .ref m_leaves, .int 0, .int (1 : Int32), .ref m_fresh, .int 0, .int 0, .int 0, .ref m_digestAt, .ref m_isGroup, .ref m_counts, .int 0, .int 0, .long 0, .int 0, .ref m_versionRow, .int 0, .long 0, .ref m_state, .ref m_names, .int 0, .ref m_keptRow, .int 0, .ref m_inSlot, .ref m_inAt, .ref m_inSize, .ref m_inDigest, .int 0]))]) [0] (by decide) rfl
      have hK := hK.sub (tys' := []) [] rfl
      exact W.zret hx hb hr rfl (fun t ht hW => ⟨⟨_, (), rfl, rfl, by rw [ht]; exact hP, va_K.moved hW.alike hK, hD⟩, hS.F ht⟩) hS.2.2 dX9_sent_58
    · skip
      exact absurd c_3 (by decide)

set_option maxHeartbeats 4000000 in
set_option maxRecDepth 100000 in
theorem k_X8_sent_2 (l : Launch) (hl0 : l.stackTraces = false) (dC : Nat → ClassId) (dI : Nat → Nat → Nat) (x : Nat) (p0 : Int32) (rr : Nat) (ds : Nat) (tp : Nat) (so : Nat) (pu : Nat) (sn : Nat) (im : Nat) (cs : Nat) (cl : Nat) (ri : Nat) (pg : Int32) (dl : Nat) (dr : Nat) (dt : Nat) (sz : Nat) (hf0 : 0 ≤ p0) : vx_Met l yX8_sent wsX8_sent ({ frames := 7, cells := 1, slots := 6, locals := 112 }) (va_Pc [.ref x, .int p0] (fun U => U.heap.size = sz ∧ va_P (dC, dI) vwCl [(x, .inr (10, [.ref tp, .ref ds, .ref rr, .ref so, .ref pu, .ref sn, .ref im, .ref cs, .ref cl, .int (0 : Int32)])), (rr, .inr (6, [.ref ds, .ref ri, .int 0, .int 1, .int 0, .int 0])), (ds, .inr (3, [.int pg, .ref dl, .ref dr, .ref dt, .int (1 : Int32), .int (-1 : Int32), .int (0 : Int32)]))] U.heap ∧ va_K (dC, dI) vwCl [] U ∧ va_D (fun _ => True) [(x, .inr (10, [.ref tp, .ref ds, .ref rr, .ref so, .ref pu, .ref sn, .ref im, .ref cs, .ref cl, .int (0 : Int32)])), (rr, .inr (6, [.ref ds, .ref ri, .int 0, .int 1, .int 0, .int 0])), (ds, .inr (3, [.int pg, .ref dl, .ref dr, .ref dt, .int (1 : Int32), .int (-1 : Int32), .int (0 : Int32)]))] ∧ gx_E (va_A [(x, .inr (10, [.ref tp, .ref ds, .ref rr, .ref so, .ref pu, .ref sn, .ref im, .ref cs, .ref cl, .int (0 : Int32)])), (rr, .inr (6, [.ref ds, .ref ri, .int 0, .int 1, .int 0, .int 0])), (ds, .inr (3, [.int pg, .ref dl, .ref dr, .ref dt, .int (1 : Int32), .int (-1 : Int32), .int (0 : Int32)]))] sz) U)) (va_Qi (fun (_ : Int32) (_ : Unit) => False) (fun _ _ => True) (va_A [(x, .inr (10, [.ref tp, .ref ds, .ref rr, .ref so, .ref pu, .ref sn, .ref im, .ref cs, .ref cl, .int (0 : Int32)])), (rr, .inr (6, [.ref ds, .ref ri, .int 0, .int 1, .int 0, .int 0])), (ds, .inr (3, [.int pg, .ref dl, .ref dr, .ref dt, .int (1 : Int32), .int (-1 : Int32), .int (0 : Int32)]))] sz)) (vx_X (fun _ : Unit => True) (fun E _ _ => E = "java/lang/IndexOutOfBoundsException") (va_A [(x, .inr (10, [.ref tp, .ref ds, .ref rr, .ref so, .ref pu, .ref sn, .ref im, .ref cs, .ref cl, .int (0 : Int32)])), (rr, .inr (6, [.ref ds, .ref ri, .int 0, .int 1, .int 0, .int 0])), (ds, .inr (3, [.int pg, .ref dl, .ref dr, .ref dt, .int (1 : Int32), .int (-1 : Int32), .int (0 : Int32)]))] sz)) 1 6 (va_A [(x, .inr (10, [.ref tp, .ref ds, .ref rr, .ref so, .ref pu, .ref sn, .ref im, .ref cs, .ref cl, .int (0 : Int32)])), (rr, .inr (6, [.ref ds, .ref ri, .int 0, .int 1, .int 0, .int 0])), (ds, .inr (3, [.int pg, .ref dl, .ref dr, .ref dt, .int (1 : Int32), .int (-1 : Int32), .int (0 : Int32)]))] sz) := by
  refine vx_ofW (cc := cX8_sent) (maxL := 2) (ret := (some .boolean)) (by decide) rfl ?_
  intro p e s m args below meth c s₁ B hml hno hv
  obtain ⟨rfl, hsz, hP, hK, hD0, hG⟩ := hv
  have hx := B.exec
  have hb := B.bytes
  have hr := B.returns
  have hts := atoms_spec (ws := wsX8_sent) B.pre
  have hown : s.vm.findClass RX8 = some m.cls := findClass_of_methodNamed B.named
  have hlocks := B.notSynchronized
  subst hsz
  have hD := hD0.self (sz := s.heap.size)
  generalize hAe : va_A [(x, .inr (10, [.ref tp, .ref ds, .ref rr, .ref so, .ref pu, .ref sn, .ref im, .ref cs, .ref cl, .int (0 : Int32)])), (rr, .inr (6, [.ref ds, .ref ri, .int 0, .int 1, .int 0, .int 0])), (ds, .inr (3, [.int pg, .ref dl, .ref dr, .ref dt, .int (1 : Int32), .int (-1 : Int32), .int (0 : Int32)]))] s.heap.size = A at hD hG ⊢
  have hA : ∀ q : Nat, s.heap.size ≤ q → A q := fun q h => by rw [← hAe]; exact Or.inr h
  have hS : va_S A s.heap s.heap [] := va_S.rf
  have hl := lv_entry ([.ref x, .int p0]) (n := 2) (Nat.le_of_ble_eq_true rfl)
  rw [lg_entry_eq]
  generalize (lg_sl ([.ref x, .int p0]) ++ List.replicate (2 - (lg_sl ([.ref x, .int p0])).length) Slot.unset).toArray = ls at hl ⊢
  have hl : lv_has ls 2 [(0, .ref x), (1, .int p0)] := hl
  refine lv_aload_n hx hb dX8_sent_0 rfl (lv_at hl 0 rfl) ?_
  refine lv_iload_n hx hb dX8_sent_1 rfl (lv_at hl 1 rfl) ?_
  have hPc := hP.sub (ws' := [(x, .inr (10, [.ref tp, .ref ds, .ref rr, .ref so, .ref pu, .ref sn, .ref im, .ref cs, .ref cl, .int (0 : Int32)])), (rr, .inr (6, [.ref ds, .ref ri, .int 0, .int 1, .int 0, .int 0])), (ds, .inr (3, [.int pg, .ref dl, .ref dr, .ref dt, .int (1 : Int32), .int (-1 : Int32), .int (0 : Int32)]))]) [0, 1, 2] rfl
  have hKc := hK.sub (tys' := []) [] rfl
  have hDc := hD.sub (ws' := [(x, .inr (10, [.ref tp, .ref ds, .ref rr, .ref so, .ref pu, .ref sn, .ref im, .ref cs, .ref cl, .int (0 : Int32)])), (rr, .inr (6, [.ref ds, .ref ri, .int 0, .int 1, .int 0, .int 0])), (ds, .inr (3, [.int pg, .ref dl, .ref dr, .ref dt, .int (1 : Int32), .int (-1 : Int32), .int (0 : Int32)]))]) [0, 1, 2] (by decide) rfl
  have hFc := va_free (wc := [(x, .inr (10, [.ref tp, .ref ds, .ref rr, .ref so, .ref pu, .ref sn, .ref im, .ref cs, .ref cl, .int (0 : Int32)])), (rr, .inr (6, [.ref ds, .ref ri, .int 0, .int 1, .int 0, .int 0])), (ds, .inr (3, [.int pg, .ref dl, .ref dr, .ref dt, .int (1 : Int32), .int (-1 : Int32), .int (0 : Int32)]))]) hD hS hA [0, 1, 2] rfl
  refine vx_callv (vx_runV (As := [.int p0]) (rest := []) ⟨hx, hb, hml, hown, hts⟩ (k_X8_demandRow_2 l hl0 dC dI x p0 rr ds tp so pu sn im cs cl ri pg dl dr dt _ hf0) (cwV 1 hts gX8_sent_X8_demandRow rfl rfl rfl (by decide +kernel) ⟨Nat.le_of_ble_eq_true rfl, Nat.le_of_ble_eq_true rfl⟩) ⟨fun a U g mk q => by obtain ⟨q0, q1, qP, qK, qD, qG⟩ := q; exact ⟨q0, q1, qP, va_K.moved (u := U) (U := U.calling g mk a) (Vm.Alike.refl U.vm) qK, qD, qG.same rfl rfl⟩, va_recv hK hP (ci := 10) (q := (RX8, TX8, 10)) rfl (q0 := 0) rfl, fun U hU hW => ⟨rfl, by rw [hU], by rw [hU]; exact hPc, va_K.moved hW.alike hKc, hDc.weaken (fun _ _ _ _ => trivial), hG.go hW hU hS hFc⟩⟩ rfl rfl hl.1 rfl (lv_room (Nat.le_of_ble_eq_true rfl)) dX8_sent_2 ⟨Nat.le_of_ble_eq_true rfl, Nat.le_of_ble_eq_true rfl⟩) hS (fun q _ h => hFc q h) hFc (fun q _ h => hFc q h) (fun E9 ce q9 u t H1 locs1 ht hvm hp hE hz hk hS hcell hv hcl => ?_) (fun u t H1 locs1 ht hvm hp hB hz hk hS => hp.elim)
  subst hE
  exact vx_out (fun x h => (hno x h).elim) hlocks hcell hv hcl (fun t ht hW => ⟨(), trivial, rfl, hS.F ht⟩) hS.2.2 (Nat.le_refl _) (Nat.le_refl _)

set_option maxHeartbeats 4000000 in
set_option maxRecDepth 100000 in
theorem k_L_sent_2 (l : Launch) (hl0 : l.stackTraces = false) (dC : Nat → ClassId) (dI : Nat → Nat → Nat) (x : Nat) (p0 : Int32) (ho : Nat) (rr : Nat) (ds : Nat) (tp : Nat) (so : Nat) (pu : Nat) (sn : Nat) (im : Nat) (cs : Nat) (cl : Nat) (ri : Nat) (pg : Int32) (dl : Nat) (dr : Nat) (dt : Nat) (sz : Nat) (hf0 : 0 ≤ p0) : Met l yL_sent wsL_sent ({ frames := 8, cells := 1, slots := 6, locals := 133 }) (va_Pc [.ref x, .int p0, .ref ho] (fun U => U.heap.size = sz ∧ va_P (dC, dI) vwCl [(x, .inr (10, [.ref tp, .ref ds, .ref rr, .ref so, .ref pu, .ref sn, .ref im, .ref cs, .ref cl, .int (0 : Int32)])), (rr, .inr (6, [.ref ds, .ref ri, .int 0, .int 1, .int 0, .int 0])), (ds, .inr (3, [.int pg, .ref dl, .ref dr, .ref dt, .int (1 : Int32), .int (-1 : Int32), .int (0 : Int32)]))] U.heap ∧ va_K (dC, dI) vwCl [] U ∧ va_D (fun _ => True) [(x, .inr (10, [.ref tp, .ref ds, .ref rr, .ref so, .ref pu, .ref sn, .ref im, .ref cs, .ref cl, .int (0 : Int32)])), (rr, .inr (6, [.ref ds, .ref ri, .int 0, .int 1, .int 0, .int 0])), (ds, .inr (3, [.int pg, .ref dl, .ref dr, .ref dt, .int (1 : Int32), .int (-1 : Int32), .int (0 : Int32)]))] ∧ gx_E (va_A [(x, .inr (10, [.ref tp, .ref ds, .ref rr, .ref so, .ref pu, .ref sn, .ref im, .ref cs, .ref cl, .int (0 : Int32)])), (rr, .inr (6, [.ref ds, .ref ri, .int 0, .int 1, .int 0, .int 0])), (ds, .inr (3, [.int pg, .ref dl, .ref dr, .ref dt, .int (1 : Int32), .int (-1 : Int32), .int (0 : Int32)]))] sz) U)) (va_Qi (fun r (_ : Unit) => r = (1 : Int32)) (fun (_ : Unit) t => va_P (dC, dI) vwCl [] t.heap ∧ va_K (dC, dI) vwCl [] t ∧ va_D (va_A [(x, .inr (10, [.ref tp, .ref ds, .ref rr, .ref so, .ref pu, .ref sn, .ref im, .ref cs, .ref cl, .int (0 : Int32)])), (rr, .inr (6, [.ref ds, .ref ri, .int 0, .int 1, .int 0, .int 0])), (ds, .inr (3, [.int pg, .ref dl, .ref dr, .ref dt, .int (1 : Int32), .int (-1 : Int32), .int (0 : Int32)]))] sz) []) (va_A [(x, .inr (10, [.ref tp, .ref ds, .ref rr, .ref so, .ref pu, .ref sn, .ref im, .ref cs, .ref cl, .int (0 : Int32)])), (rr, .inr (6, [.ref ds, .ref ri, .int 0, .int 1, .int 0, .int 0])), (ds, .inr (3, [.int pg, .ref dl, .ref dr, .ref dt, .int (1 : Int32), .int (-1 : Int32), .int (0 : Int32)]))] sz)) 1 6 (va_A [(x, .inr (10, [.ref tp, .ref ds, .ref rr, .ref so, .ref pu, .ref sn, .ref im, .ref cs, .ref cl, .int (0 : Int32)])), (rr, .inr (6, [.ref ds, .ref ri, .int 0, .int 1, .int 0, .int 0])), (ds, .inr (3, [.int pg, .ref dl, .ref dr, .ref dt, .int (1 : Int32), .int (-1 : Int32), .int (0 : Int32)]))] sz) := by
  refine va_MetW (cc := cL_sent) (maxL := 4) (ret := (some .int)) (hh := [(0, 16, 19, 19), (0, 16, 22, 25)]) (by decide) rfl ?_
  intro p e s m args below meth c s₁ B hml hv
  obtain ⟨rfl, hsz, hP, hK, hD0, hG⟩ := hv
  have hx := B.exec
  have hb := B.bytes
  have hr := B.returns
  have hts := atoms_spec (ws := wsL_sent) B.pre
  have hown : s.vm.findClass RL = some m.cls := findClass_of_methodNamed B.named
  have hlocks := B.notSynchronized
  have htab := vx_table (x := yL_sent) B (hts (.codeWith yL_sent cL_sent 4 (some .int) [(0, 16, 19, 19), (0, 16, 22, 25)]) List.mem_cons_self)
  subst hsz
  have hD := hD0.self (sz := s.heap.size)
  generalize hAe : va_A [(x, .inr (10, [.ref tp, .ref ds, .ref rr, .ref so, .ref pu, .ref sn, .ref im, .ref cs, .ref cl, .int (0 : Int32)])), (rr, .inr (6, [.ref ds, .ref ri, .int 0, .int 1, .int 0, .int 0])), (ds, .inr (3, [.int pg, .ref dl, .ref dr, .ref dt, .int (1 : Int32), .int (-1 : Int32), .int (0 : Int32)]))] s.heap.size = A at hD hG ⊢
  have hA : ∀ q : Nat, s.heap.size ≤ q → A q := fun q h => by rw [← hAe]; exact Or.inr h
  have hS : va_S A s.heap s.heap [] := va_S.rf
  have hl := lv_entry ([.ref x, .int p0, .ref ho]) (n := 4) (Nat.le_of_ble_eq_true rfl)
  rw [lg_entry_eq]
  generalize (lg_sl ([.ref x, .int p0, .ref ho]) ++ List.replicate (4 - (lg_sl ([.ref x, .int p0, .ref ho])).length) Slot.unset).toArray = ls at hl ⊢
  have hl : lv_has ls 4 [(0, .ref x), (1, .int p0), (2, .ref ho)] := hl
  refine lv_aload_n hx hb dL_sent_0 rfl (lv_at hl 2 rfl) ?_
  refine lv_iconst (v := 0) hx hb dL_sent_1 (by decide) ?_
  refine lv_aload_n hx hb dL_sent_2 rfl (lv_at hl 0 rfl) ?_
  refine lv_iload_n hx hb dL_sent_3 rfl (lv_at hl 1 rfl) ?_
  have hPc := hP.sub (ws' := [(x, .inr (10, [.ref tp, .ref ds, .ref rr, .ref so, .ref pu, .ref sn, .ref im, .ref cs, .ref cl, .int (0 : Int32)])), (rr, .inr (6, [.ref ds, .ref ri, .int 0, .int 1, .int 0, .int 0])), (ds, .inr (3, [.int pg, .ref dl, .ref dr, .ref dt, .int (1 : Int32), .int (-1 : Int32), .int (0 : Int32)]))]) [0, 1, 2] rfl
  have hKc := hK.sub (tys' := []) [] rfl
  have hDc := hD.sub (ws' := [(x, .inr (10, [.ref tp, .ref ds, .ref rr, .ref so, .ref pu, .ref sn, .ref im, .ref cs, .ref cl, .int (0 : Int32)])), (rr, .inr (6, [.ref ds, .ref ri, .int 0, .int 1, .int 0, .int 0])), (ds, .inr (3, [.int pg, .ref dl, .ref dr, .ref dt, .int (1 : Int32), .int (-1 : Int32), .int (0 : Int32)]))]) [0, 1, 2] (by decide) rfl
  have hFc := va_free (wc := [(x, .inr (10, [.ref tp, .ref ds, .ref rr, .ref so, .ref pu, .ref sn, .ref im, .ref cs, .ref cl, .int (0 : Int32)])), (rr, .inr (6, [.ref ds, .ref ri, .int 0, .int 1, .int 0, .int 0])), (ds, .inr (3, [.int pg, .ref dl, .ref dr, .ref dt, .int (1 : Int32), .int (-1 : Int32), .int (0 : Int32)]))]) hD hS hA [0, 1, 2] rfl
  refine vx_calli (vx_runV (As := [.int p0]) (rest := [.int (0 : Int32), .ref ho]) ⟨hx, hb, hml, hown, hts⟩ (k_X8_sent_2 l hl0 dC dI x p0 rr ds tp so pu sn im cs cl ri pg dl dr dt _ hf0) (cwV 1 hts gL_sent_X8_sent rfl rfl rfl (by decide +kernel) ⟨Nat.le_of_ble_eq_true rfl, Nat.le_of_ble_eq_true rfl⟩) ⟨fun a U g mk q => by obtain ⟨q0, q1, qP, qK, qD, qG⟩ := q; exact ⟨q0, q1, qP, va_K.moved (u := U) (U := U.calling g mk a) (Vm.Alike.refl U.vm) qK, qD, qG.same rfl rfl⟩, va_recv hK hP (ci := 10) (q := (RX8, TX8, 10)) rfl (q0 := 0) rfl, fun U hU hW => ⟨rfl, by rw [hU], by rw [hU]; exact hPc, va_K.moved hW.alike hKc, hDc.weaken (fun _ _ _ _ => trivial), hG.go hW hU hS hFc⟩⟩ rfl rfl hl.1 rfl (lv_room (Nat.le_of_ble_eq_true rfl)) dL_sent_4 ⟨Nat.le_of_ble_eq_true rfl, Nat.le_of_ble_eq_true rfl⟩) hS (fun q _ h => hFc q h) hFc (fun q _ h => hFc q h) (fun E9 ce q9 u t H1 locs1 ht hvm hp hE hz hk hS hcell hv hcl => ?_) (fun r u t H1 locs1 ht hvm hp hB hz hk hS => hp.elim)
  subst hE
  refine vx_catch (name := "java/lang/IndexOutOfBoundsException") hown [] ⟨0, 16, 19, 19⟩ [⟨0, 16, 22, 25⟩] htab (fun z h => by cases h) (by decide) (by decide) (hts (.classLink RL 19 "java/lang/IndexOutOfBoundsException") (by decide +kernel)) (va_Nw.use rfl (hG.1.2.2.1 _ (by decide))) hcell hv hcl ?_
  refine W.eq (g2 := F0 m 19 ls [.ref q9]) rfl ?_
  have hP : va_P (dC, dI) vwCl [] H1 := fun k q h => by simp at h
  have hD : va_D A [] := ⟨fun i j p q h => by simp at h, fun k q h => by simp at h⟩
  generalize H1 = H at hP hS ⊢
  refine lv_astore_n (lv' := [(3, .ref q9), (0, .ref x), (1, .int p0), (2, .ref ho)]) hx hb dL_sent_19 rfl hl (by decide) rfl (fun ls hl => ?_)
  refine lv_iconst (v := 1) hx hb dL_sent_20 (by decide) ?_
  have hP := hP.sub (ws' := []) [] rfl
  have hD := hD.sub (ws' := []) [] (by decide) rfl
  have hK := hK.sub (tys' := []) [] rfl
  exact W.iret hx hb hr (fun t ht hW => ⟨⟨_, (), rfl, rfl, by rw [ht]; exact hP, va_K.moved hW.alike hK, hD⟩, hS.F ht⟩) hS.2.2 dL_sent_21

set_option maxHeartbeats 4000000 in
set_option maxRecDepth 100000 in
theorem k_X9_sent_2 (l : Launch) (dC : Nat → ClassId) (dI : Nat → Nat → Nat) (mo : Nat) (p0 : Int32) (m_disk : Nat) (P : Nat) (m_tape : Nat) (m_slots : Nat) (m_leaves : Nat) (m_fresh : Nat) (m_digestAt : Nat) (m_isGroup : Nat) (m_counts : Nat) (m_versionRow : Nat) (m_state : Nat) (m_names : Nat) (m_keptRow : Nat) (m_inSlot : Nat) (m_inAt : Nat) (m_inSize : Nat) (m_inDigest : Nat) (sz : Nat) (hf0 : 0 ≤ p0) : Met l yX9_sent wsX9_sent ({ frames := 2, cells := 0, slots := 0, locals := 41 }) (va_Pc [.ref mo, .int p0] (fun U => U.heap.size = sz ∧ va_P (dC, dI) vwCl [(mo, .inr (11, [.ref m_disk, .int (nI P), .int ((8224 : Int32) + ((26 : Int32) * (nI P))), .int (1 : Int32), .int 0, .int (-1 : Int32), .int 0, .int (0 : Int32), .ref m_tape, .int 0, .ref m_slots, .ref m_leaves, .int 0, .int 0, .ref m_fresh, .int 0, .int 0, .int 0, .ref m_digestAt, .ref m_isGroup, .ref m_counts, .int 0, .int 0, .long 0, .int 0, .ref m_versionRow, .int 0, .long 0, .ref m_state, .ref m_names, .int 0, .ref m_keptRow, .int 0, .ref m_inSlot, .ref m_inAt, .ref m_inSize, .ref m_inDigest, .int 0]))] U.heap ∧ va_K (dC, dI) vwCl [] U ∧ va_D (fun _ => True) [(mo, .inr (11, [.ref m_disk, .int (nI P), .int ((8224 : Int32) + ((26 : Int32) * (nI P))), .int (1 : Int32), .int 0, .int (-1 : Int32), .int 0, .int (0 : Int32), .ref m_tape, .int 0, .ref m_slots, .ref m_leaves, .int 0, .int 0, .ref m_fresh, .int 0, .int 0, .int 0, .ref m_digestAt, .ref m_isGroup, .ref m_counts, .int 0, .int 0, .long 0, .int 0, .ref m_versionRow, .int 0, .long 0, .ref m_state, .ref m_names, .int 0, .ref m_keptRow, .int 0, .ref m_inSlot, .ref m_inAt, .ref m_inSize, .ref m_inDigest, .int 0]))])) (va_Qi (fun r (_ : Unit) => r = (0 : Int32)) (fun (_ : Unit) t => va_P (dC, dI) vwCl [(mo, .inr (11, [.ref m_disk, .int (nI P), .int ((8224 : Int32) + ((26 : Int32) * (nI P))), .int (1 : Int32), .int 0, .int (-1 : Int32), .int 0, .int (0 : Int32), .ref m_tape, .int 0, .ref m_slots, .ref m_leaves, .int 0, .int (1 : Int32), .ref m_fresh, .int 0, .int 0, .int 0, .ref m_digestAt, .ref m_isGroup, .ref m_counts, .int 0, .int 0, .long 0, .int 0, .ref m_versionRow, .int 0, .long 0, .ref m_state, .ref m_names, .int 0, .ref m_keptRow, .int 0, .ref m_inSlot, .ref m_inAt, .ref m_inSize, .ref m_inDigest, .int 0]))] t.heap ∧ va_K (dC, dI) vwCl [] t ∧ va_D (va_A [(mo, .inr (11, [.ref m_disk, .int (nI P), .int ((8224 : Int32) + ((26 : Int32) * (nI P))), .int (1 : Int32), .int 0, .int (-1 : Int32), .int 0, .int (0 : Int32), .ref m_tape, .int 0, .ref m_slots, .ref m_leaves, .int 0, .int 0, .ref m_fresh, .int 0, .int 0, .int 0, .ref m_digestAt, .ref m_isGroup, .ref m_counts, .int 0, .int 0, .long 0, .int 0, .ref m_versionRow, .int 0, .long 0, .ref m_state, .ref m_names, .int 0, .ref m_keptRow, .int 0, .ref m_inSlot, .ref m_inAt, .ref m_inSize, .ref m_inDigest, .int 0]))] sz) [(mo, .inr (11, [.ref m_disk, .int (nI P), .int ((8224 : Int32) + ((26 : Int32) * (nI P))), .int (1 : Int32), .int 0, .int (-1 : Int32), .int 0, .int (0 : Int32), .ref m_tape, .int 0, .ref m_slots, .ref m_leaves, .int 0, .int (1 : Int32), .ref m_fresh, .int 0, .int 0, .int 0, .ref m_digestAt, .ref m_isGroup, .ref m_counts, .int 0, .int 0, .long 0, .int 0, .ref m_versionRow, .int 0, .long 0, .ref m_state, .ref m_names, .int 0, .ref m_keptRow, .int 0, .ref m_inSlot, .ref m_inAt, .ref m_inSize, .ref m_inDigest, .int 0]))]) (va_A [(mo, .inr (11, [.ref m_disk, .int (nI P), .int ((8224 : Int32) + ((26 : Int32) * (nI P))), .int (1 : Int32), .int 0, .int (-1 : Int32), .int 0, .int (0 : Int32), .ref m_tape, .int 0, .ref m_slots, .ref m_leaves, .int 0, .int 0, .ref m_fresh, .int 0, .int 0, .int 0, .ref m_digestAt, .ref m_isGroup, .ref m_counts, .int 0, .int 0, .long 0, .int 0, .ref m_versionRow, .int 0, .long 0, .ref m_state, .ref m_names, .int 0, .ref m_keptRow, .int 0, .ref m_inSlot, .ref m_inAt, .ref m_inSize, .ref m_inDigest, .int 0]))] sz)) 0 0 (va_A [(mo, .inr (11, [.ref m_disk, .int (nI P), .int ((8224 : Int32) + ((26 : Int32) * (nI P))), .int (1 : Int32), .int 0, .int (-1 : Int32), .int 0, .int (0 : Int32), .ref m_tape, .int 0, .ref m_slots, .ref m_leaves, .int 0, .int 0, .ref m_fresh, .int 0, .int 0, .int 0, .ref m_digestAt, .ref m_isGroup, .ref m_counts, .int 0, .int 0, .long 0, .int 0, .ref m_versionRow, .int 0, .long 0, .ref m_state, .ref m_names, .int 0, .ref m_keptRow, .int 0, .ref m_inSlot, .ref m_inAt, .ref m_inSize, .ref m_inDigest, .int 0]))] sz) := by
  refine Met.ofW (cc := cX9_sent) (maxL := 2) (ret := (some .boolean)) (by decide) rfl ?_
  intro p e s m args below meth c s₁ B hml hv
  obtain ⟨rfl, hsz, hP, hK, hD0⟩ := hv
  have hx := B.exec
  have hb := B.bytes
  have hr := B.returns
  have hts := atoms_spec (ws := wsX9_sent) B.pre
  have hown : s.vm.findClass RX9 = some m.cls := findClass_of_methodNamed B.named
  have hlocks := B.notSynchronized
  subst hsz
  have hD := hD0.self (sz := s.heap.size)
  generalize hAe : va_A [(mo, .inr (11, [.ref m_disk, .int (nI P), .int ((8224 : Int32) + ((26 : Int32) * (nI P))), .int (1 : Int32), .int 0, .int (-1 : Int32), .int 0, .int (0 : Int32), .ref m_tape, .int 0, .ref m_slots, .ref m_leaves, .int 0, .int 0, .ref m_fresh, .int 0, .int 0, .int 0, .ref m_digestAt, .ref m_isGroup, .ref m_counts, .int 0, .int 0, .long 0, .int 0, .ref m_versionRow, .int 0, .long 0, .ref m_state, .ref m_names, .int 0, .ref m_keptRow, .int 0, .ref m_inSlot, .ref m_inAt, .ref m_inSize, .ref m_inDigest, .int 0]))] s.heap.size = A at hD ⊢
  have hA : ∀ q : Nat, s.heap.size ≤ q → A q := fun q h => by rw [← hAe]; exact Or.inr h
  have hS : va_S A s.heap s.heap [] := va_S.rf
  have hl := lv_entry ([.ref mo, .int p0]) (n := 2) (Nat.le_of_ble_eq_true rfl)
  rw [lg_entry_eq]
  generalize (lg_sl ([.ref mo, .int p0]) ++ List.replicate (2 - (lg_sl ([.ref mo, .int p0])).length) Slot.unset).toArray = ls at hl ⊢
  have hl : lv_has ls 2 [(0, .ref mo), (1, .int p0)] := hl
  refine lv_aload_n hx hb dX9_sent_0 rfl (lv_at hl 0 rfl) ?_
  refine lv_aload_n hx hb dX9_sent_1 rfl (lv_at hl 0 rfl) ?_
  refine lv_iload_n hx hb dX9_sent_2 rfl (lv_at hl 1 rfl) ?_
  have hPc := hP.sub (ws' := [(mo, .inr (11, [.ref m_disk, .int (nI P), .int ((8224 : Int32) + ((26 : Int32) * (nI P))), .int (1 : Int32), .int 0, .int (-1 : Int32), .int 0, .int (0 : Int32), .ref m_tape, .int 0, .ref m_slots, .ref m_leaves, .int 0, .int 0, .ref m_fresh, .int 0, .int 0, .int 0, .ref m_digestAt, .ref m_isGroup, .ref m_counts, .int 0, .int 0, .long 0, .int 0, .ref m_versionRow, .int 0, .long 0, .ref m_state, .ref m_names, .int 0, .ref m_keptRow, .int 0, .ref m_inSlot, .ref m_inAt, .ref m_inSize, .ref m_inDigest, .int 0]))]) [0] rfl
  have hKc := hK.sub (tys' := []) [] rfl
  refine vp_callSi (va_Run.run (va_runV (As := [.int p0]) (rest := [.ref mo]) ⟨hx, hb, hml, hown, hts⟩ (k_X9_isRow_2 l dC dI mo p0 m_disk P m_tape m_slots m_leaves m_fresh m_digestAt m_isGroup m_counts m_versionRow m_state m_names m_keptRow m_inSlot m_inAt m_inSize m_inDigest hf0) (cwV 1 hts gX9_sent_X9_isRow rfl rfl rfl (by decide +kernel) ⟨Nat.le_of_ble_eq_true rfl, Nat.le_of_ble_eq_true rfl⟩) ⟨fun a U g mk q => by obtain ⟨q0, qP, qK⟩ := q; exact ⟨q0, qP, va_K.moved (u := U) (U := U.calling g mk a) (Vm.Alike.refl U.vm) qK⟩, va_recv hK hP (ci := 11) (q := (RX9, TX9, 38)) rfl (q0 := 0) rfl, fun U hU hW => ⟨rfl, by rw [hU]; exact hPc, va_K.moved hW.alike hKc⟩⟩ rfl rfl hl.1 rfl (lv_room (Nat.le_of_ble_eq_true rfl)) dX9_sent_3 ⟨Nat.le_of_ble_eq_true rfl, Nat.le_of_ble_eq_true rfl⟩)) (fun r_1 er_1 => ?_)
  subst er_1
  refine lv_if_ne (tgt := 13) hx hb dX9_sent_6 (by decide) (fun c_2 => ?_) (fun c_2 => ?_)
  · skip
    exact absurd (by decide) c_2
  · skip
    refine lv_iconst (v := 1) hx hb dX9_sent_9 (by decide) ?_
    refine lv_goto (tgt := 25) hx hb dX9_sent_10 (by decide) ?_
    refine va_put (D := (dC, dI)) (ci := 11) (v := .int (1 : Int32)) (ty := .int) (C := RX9) (T := TX9) (N := 38) hx hb hts (by decide +kernel) tyX9 tyX9_ok nmX9 hown hK hP hD hS 0 rfl rfl 13 (by decide) (hts (.fieldLink RX9 91 "BlockLogModel" "thrown" "I") (by decide +kernel)) (fun _ h9 => h9) rfl (by decide +kernel) rfl rfl (Nat.le_of_ble_eq_true rfl) dX9_sent_25 (fun H locs hP hD hS => ?_)
    have hP : va_P (dC, dI) vwCl [(mo, .inr (11, [.ref m_disk, .int (nI P), .int ((8224 : Int32) + ((26 : Int32) * (nI P))), .int (1 : Int32), .int 0, .int (-1 : Int32), .int 0, .int (0 : Int32), .ref m_tape, .int 0, .ref m_slots, .ref m_leaves, .int 0, .int (1 : Int32), .ref m_fresh, .int 0, .int 0, .int 0, .ref m_digestAt, .ref m_isGroup, .ref m_counts, .int 0, .int 0, .long 0, .int 0, .ref m_versionRow, .int 0, .long 0, .ref m_state, .ref m_names, .int 0, .ref m_keptRow, .int 0, .ref m_inSlot, .ref m_inAt, .ref m_inSize, .ref m_inDigest, .int 0]))] H := hP
    have hD : va_D A [(mo, .inr (11, [.ref m_disk, .int (nI P), .int ((8224 : Int32) + ((26 : Int32) * (nI P))), .int (1 : Int32), .int 0, .int (-1 : Int32), .int 0, .int (0 : Int32), .ref m_tape, .int 0, .ref m_slots, .ref m_leaves, .int 0, .int (1 : Int32), .ref m_fresh, .int 0, .int 0, .int 0, .ref m_digestAt, .ref m_isGroup, .ref m_counts, .int 0, .int 0, .long 0, .int 0, .ref m_versionRow, .int 0, .long 0, .ref m_state, .ref m_names, .int 0, .ref m_keptRow, .int 0, .ref m_inSlot, .ref m_inAt, .ref m_inSize, .ref m_inDigest, .int 0]))] := hD
    refine lv_aload_n hx hb dX9_sent_28 rfl (lv_at hl 0 rfl) ?_
    refine va_get (D := (dC, dI)) (ci := 11) (v := .int (1 : Int32)) (C := RX9) (T := TX9) (N := 38) hx hb hts (by decide +kernel) hown hK hP 0 rfl rfl 13 (by decide) (hts (.fieldLink RX9 91 "BlockLogModel" "thrown" "I") (by decide +kernel)) (fun _ h9 => h9) rfl dX9_sent_29 ?_
    refine lv_if_ne (tgt := 57) hx hb dX9_sent_32 (by decide) (fun c_3 => ?_) (fun c_3 => ?_)
    · skip
      refine lv_iconst (v := 0) hx hb dX9_sent_57 (by decide) ?_
      have hP := hP.sub (ws' := [(mo, .inr (11, [.ref m_disk, .int (nI P), .int ((8224 : Int32) + ((26 : Int32) * (nI P))), .int (1 : Int32), .int 0, .int (-1 : Int32), .int 0, .int (0 : Int32), .ref m_tape, .int 0, .ref m_slots, .ref m_leaves, .int 0, .int (1 : Int32), .ref m_fresh, .int 0, .int 0, .int 0, .ref m_digestAt, .ref m_isGroup, .ref m_counts, .int 0, .int 0, .long 0, .int 0, .ref m_versionRow, .int 0, .long 0, .ref m_state, .ref m_names, .int 0, .ref m_keptRow, .int 0, .ref m_inSlot, .ref m_inAt, .ref m_inSize, .ref m_inDigest, .int 0]))]) [0] rfl
      have hD := hD.sub (ws' := [(mo, .inr (11, [.ref m_disk, .int (nI P), .int ((8224 : Int32) + ((26 : Int32) * (nI P))), .int (1 : Int32), .int 0, .int (-1 : Int32), .int 0, .int (0 : Int32), .ref m_tape, .int 0, .ref m_slots, .ref m_leaves, .int 0, .int (1 : Int32), .ref m_fresh, .int 0, .int 0, .int 0, .ref m_digestAt, .ref m_isGroup, .ref m_counts, .int 0, .int 0, .long 0, .int 0, .ref m_versionRow, .int 0, .long 0, .ref m_state, .ref m_names, .int 0, .ref m_keptRow, .int 0, .ref m_inSlot, .ref m_inAt, .ref m_inSize, .ref m_inDigest, .int 0]))]) [0] (by decide) rfl
      have hK := hK.sub (tys' := []) [] rfl
      exact W.zret hx hb hr rfl (fun t ht hW => ⟨⟨_, (), rfl, rfl, by rw [ht]; exact hP, va_K.moved hW.alike hK, hD⟩, hS.F ht⟩) hS.2.2 dX9_sent_58
    · skip
      exact absurd c_3 (by decide)

set_option maxHeartbeats 4000000 in
set_option maxRecDepth 100000 in
theorem k_X8_certify_1 (l : Launch) (hl0 : l.stackTraces = false) (dC : Nat → ClassId) (dI : Nat → Nat → Nat) (x : Nat) (w0 : Int64) (p1 : Int32) (ds : Nat) (tp : Nat) (rr : Nat) (so : Nat) (pu : Nat) (sn : Nat) (im : Nat) (cs : Nat) (cl : Nat) (pg : Int32) (dl : Nat) (dr : Nat) (dt : Nat) (sz : Nat) (hf0 : p1 < 0) : vx_Met l yX8_certify wsX8_certify ({ frames := 6, cells := 1, slots := 6, locals := 90 }) (va_Pc [.ref x, .long w0, .int p1] (fun U => U.heap.size = sz ∧ va_P (dC, dI) vwCl [(x, .inr (10, [.ref tp, .ref ds, .ref rr, .ref so, .ref pu, .ref sn, .ref im, .ref cs, .ref cl, .int (0 : Int32)])), (ds, .inr (3, [.int pg, .ref dl, .ref dr, .ref dt, .int (1 : Int32), .int (-1 : Int32), .int (0 : Int32)]))] U.heap ∧ va_K (dC, dI) vwCl [] U ∧ va_D (fun _ => True) [(x, .inr (10, [.ref tp, .ref ds, .ref rr, .ref so, .ref pu, .ref sn, .ref im, .ref cs, .ref cl, .int (0 : Int32)])), (ds, .inr (3, [.int pg, .ref dl, .ref dr, .ref dt, .int (1 : Int32), .int (-1 : Int32), .int (0 : Int32)]))] ∧ gx_E (va_A [(x, .inr (10, [.ref tp, .ref ds, .ref rr, .ref so, .ref pu, .ref sn, .ref im, .ref cs, .ref cl, .int (0 : Int32)])), (ds, .inr (3, [.int pg, .ref dl, .ref dr, .ref dt, .int (1 : Int32), .int (-1 : Int32), .int (0 : Int32)]))] sz) U)) (va_Qi (fun (_ : Int32) (_ : Unit) => False) (fun _ _ => True) (va_A [(x, .inr (10, [.ref tp, .ref ds, .ref rr, .ref so, .ref pu, .ref sn, .ref im, .ref cs, .ref cl, .int (0 : Int32)])), (ds, .inr (3, [.int pg, .ref dl, .ref dr, .ref dt, .int (1 : Int32), .int (-1 : Int32), .int (0 : Int32)]))] sz)) (vx_X (fun _ : Unit => True) (fun E _ _ => E = "java/lang/IllegalArgumentException") (va_A [(x, .inr (10, [.ref tp, .ref ds, .ref rr, .ref so, .ref pu, .ref sn, .ref im, .ref cs, .ref cl, .int (0 : Int32)])), (ds, .inr (3, [.int pg, .ref dl, .ref dr, .ref dt, .int (1 : Int32), .int (-1 : Int32), .int (0 : Int32)]))] sz)) 1 6 (va_A [(x, .inr (10, [.ref tp, .ref ds, .ref rr, .ref so, .ref pu, .ref sn, .ref im, .ref cs, .ref cl, .int (0 : Int32)])), (ds, .inr (3, [.int pg, .ref dl, .ref dr, .ref dt, .int (1 : Int32), .int (-1 : Int32), .int (0 : Int32)]))] sz) := by
  refine vx_ofW (cc := cX8_certify) (maxL := 8) (ret := (some .int)) (by decide) rfl ?_
  intro p e s m args below meth c s₁ B hml hno hv
  obtain ⟨rfl, hsz, hP, hK, hD0, hG⟩ := hv
  have hx := B.exec
  have hb := B.bytes
  have hr := B.returns
  have hts := atoms_spec (ws := wsX8_certify) B.pre
  have hown : s.vm.findClass RX8 = some m.cls := findClass_of_methodNamed B.named
  have hlocks := B.notSynchronized
  subst hsz
  have hD := hD0.self (sz := s.heap.size)
  generalize hAe : va_A [(x, .inr (10, [.ref tp, .ref ds, .ref rr, .ref so, .ref pu, .ref sn, .ref im, .ref cs, .ref cl, .int (0 : Int32)])), (ds, .inr (3, [.int pg, .ref dl, .ref dr, .ref dt, .int (1 : Int32), .int (-1 : Int32), .int (0 : Int32)]))] s.heap.size = A at hD hG ⊢
  have hA : ∀ q : Nat, s.heap.size ≤ q → A q := fun q h => by rw [← hAe]; exact Or.inr h
  have hS : va_S A s.heap s.heap [] := va_S.rf
  have hl := lv_entry ([.ref x, .long w0, .int p1]) (n := 8) (Nat.le_of_ble_eq_true rfl)
  rw [lg_entry_eq]
  generalize (lg_sl ([.ref x, .long w0, .int p1]) ++ List.replicate (8 - (lg_sl ([.ref x, .long w0, .int p1])).length) Slot.unset).toArray = ls at hl ⊢
  have hl : lv_has ls 8 [(0, .ref x), (1, .long w0), (3, .int p1)] := hl
  refine lv_aload_n hx hb dX8_certify_0 rfl (lv_at hl 0 rfl) ?_
  have hPc := hP.sub (ws' := [(x, .inr (10, [.ref tp, .ref ds, .ref rr, .ref so, .ref pu, .ref sn, .ref im, .ref cs, .ref cl, .int (0 : Int32)])), (ds, .inr (3, [.int pg, .ref dl, .ref dr, .ref dt, .int (1 : Int32), .int (-1 : Int32), .int (0 : Int32)]))]) [0, 1] rfl
  have hKc := hK.sub (tys' := []) [] rfl
  refine va_csv (va_Run.run (va_runV (As := []) (rest := []) ⟨hx, hb, hml, hown, hts⟩ (k_X8_demandPower_1 l dC dI x ds tp rr so pu sn im cs cl pg dl dr dt) (cwV 0 hts gX8_certify_X8_demandPower rfl rfl rfl (by decide +kernel) ⟨Nat.le_of_ble_eq_true rfl, Nat.le_of_ble_eq_true rfl⟩) ⟨fun a U g mk q => by obtain ⟨q0, qP, qK, qG⟩ := q; exact ⟨q0, qP, va_K.moved (u := U) (U := U.calling g mk a) (Vm.Alike.refl U.vm) qK, qG.same rfl⟩, va_recv hK hP (ci := 10) (q := (RX8, TX8, 10)) rfl (q0 := 0) rfl, fun U hU hW => ⟨rfl, by rw [hU]; exact hPc, va_K.moved hW.alike hKc, hG.1.warm hW⟩⟩ rfl rfl hl.1 rfl (lv_room (Nat.le_of_ble_eq_true rfl)) dX8_certify_1 ⟨Nat.le_of_ble_eq_true rfl, Nat.le_of_ble_eq_true rfl⟩)) (fun _ => ?_)
  refine lv_iload_n hx hb dX8_certify_4 rfl (lv_at hl 2 rfl) ?_
  refine lv_if_lt (tgt := 14) hx hb dX8_certify_5 (by decide) (fun c_2 => ?_) (fun c_2 => ?_)
  · skip
    obtain ⟨sa, hstr⟩ := hG.1.2.1 ("BlockLog", 188, "signers is not 0 .. 15") (by decide +kernel)
    exact vx_throwS (names := ["java/lang/RuntimeException", "java/lang/Exception"]) hx hb hl0 hown (by decide +kernel) (by decide +kernel) (hts (.classLink RX8 76 "java/lang/IllegalArgumentException") (by decide +kernel)) (hts (.initialized "java/lang/IllegalArgumentException") (by decide +kernel)) hstr (vx_hat (B := gx_bad "java/lang/IllegalArgumentException") (fun w h => hts w (List.mem_cons_of_mem _ (List.mem_append_left _ (List.mem_append_right _ h)))) (by decide +kernel) (hG.1.bad (by decide))) (by decide +kernel) hG.2.1 hG.2.2.1 hS (hl.1.trans hml.symm) dX8_certify_14 dX8_certify_17 dX8_certify_18 dX8_certify_20 dX8_certify_23 (fun x h => (hno x h).elim) (Nat.le_of_ble_eq_true rfl) (Nat.le_of_ble_eq_true rfl) (Nat.le_of_ble_eq_true rfl) (Nat.le_of_ble_eq_true rfl) hlocks (fun t _ h1 h2 => ⟨(), trivial, rfl, Nat.le_trans hS.1 h1, fun q hq hn => (h2 q (Nat.lt_of_lt_of_le hq hS.1)).trans (hS.2.1 q hq hn)⟩) hS.2.2 (Nat.le_refl _) (Nat.le_refl _)
  · skip
    exact absurd hf0 c_2

set_option maxHeartbeats 4000000 in
set_option maxRecDepth 100000 in
theorem k_L_certify_1 (l : Launch) (hl0 : l.stackTraces = false) (dC : Nat → ClassId) (dI : Nat → Nat → Nat) (x : Nat) (w0 : Int64) (p1 : Int32) (ho : Nat) (ds : Nat) (tp : Nat) (rr : Nat) (so : Nat) (pu : Nat) (sn : Nat) (im : Nat) (cs : Nat) (cl : Nat) (pg : Int32) (dl : Nat) (dr : Nat) (dt : Nat) (sz : Nat) (hf0 : p1 < 0) : Met l yL_certify wsL_certify ({ frames := 7, cells := 1, slots := 6, locals := 117 }) (va_Pc [.ref x, .long w0, .int p1, .ref ho] (fun U => U.heap.size = sz ∧ va_P (dC, dI) vwCl [(x, .inr (10, [.ref tp, .ref ds, .ref rr, .ref so, .ref pu, .ref sn, .ref im, .ref cs, .ref cl, .int (0 : Int32)])), (ds, .inr (3, [.int pg, .ref dl, .ref dr, .ref dt, .int (1 : Int32), .int (-1 : Int32), .int (0 : Int32)]))] U.heap ∧ va_K (dC, dI) vwCl [] U ∧ va_D (fun _ => True) [(x, .inr (10, [.ref tp, .ref ds, .ref rr, .ref so, .ref pu, .ref sn, .ref im, .ref cs, .ref cl, .int (0 : Int32)])), (ds, .inr (3, [.int pg, .ref dl, .ref dr, .ref dt, .int (1 : Int32), .int (-1 : Int32), .int (0 : Int32)]))] ∧ gx_E (va_A [(x, .inr (10, [.ref tp, .ref ds, .ref rr, .ref so, .ref pu, .ref sn, .ref im, .ref cs, .ref cl, .int (0 : Int32)])), (ds, .inr (3, [.int pg, .ref dl, .ref dr, .ref dt, .int (1 : Int32), .int (-1 : Int32), .int (0 : Int32)]))] sz) U)) (va_Qi (fun r (_ : Unit) => r = (2 : Int32)) (fun (_ : Unit) t => va_P (dC, dI) vwCl [] t.heap ∧ va_K (dC, dI) vwCl [] t ∧ va_D (va_A [(x, .inr (10, [.ref tp, .ref ds, .ref rr, .ref so, .ref pu, .ref sn, .ref im, .ref cs, .ref cl, .int (0 : Int32)])), (ds, .inr (3, [.int pg, .ref dl, .ref dr, .ref dt, .int (1 : Int32), .int (-1 : Int32), .int (0 : Int32)]))] sz) []) (va_A [(x, .inr (10, [.ref tp, .ref ds, .ref rr, .ref so, .ref pu, .ref sn, .ref im, .ref cs, .ref cl, .int (0 : Int32)])), (ds, .inr (3, [.int pg, .ref dl, .ref dr, .ref dt, .int (1 : Int32), .int (-1 : Int32), .int (0 : Int32)]))] sz)) 1 6 (va_A [(x, .inr (10, [.ref tp, .ref ds, .ref rr, .ref so, .ref pu, .ref sn, .ref im, .ref cs, .ref cl, .int (0 : Int32)])), (ds, .inr (3, [.int pg, .ref dl, .ref dr, .ref dt, .int (1 : Int32), .int (-1 : Int32), .int (0 : Int32)]))] sz) := by
  refine va_MetW (cc := cL_certify) (maxL := 6) (ret := (some .int)) (hh := [(0, 11, 14, 25), (0, 11, 18, 13)]) (by decide) rfl ?_
  intro p e s m args below meth c s₁ B hml hv
  obtain ⟨rfl, hsz, hP, hK, hD0, hG⟩ := hv
  have hx := B.exec
  have hb := B.bytes
  have hr := B.returns
  have hts := atoms_spec (ws := wsL_certify) B.pre
  have hown : s.vm.findClass RL = some m.cls := findClass_of_methodNamed B.named
  have hlocks := B.notSynchronized
  have htab := vx_table (x := yL_certify) B (hts (.codeWith yL_certify cL_certify 6 (some .int) [(0, 11, 14, 25), (0, 11, 18, 13)]) List.mem_cons_self)
  subst hsz
  have hD := hD0.self (sz := s.heap.size)
  generalize hAe : va_A [(x, .inr (10, [.ref tp, .ref ds, .ref rr, .ref so, .ref pu, .ref sn, .ref im, .ref cs, .ref cl, .int (0 : Int32)])), (ds, .inr (3, [.int pg, .ref dl, .ref dr, .ref dt, .int (1 : Int32), .int (-1 : Int32), .int (0 : Int32)]))] s.heap.size = A at hD hG ⊢
  have hA : ∀ q : Nat, s.heap.size ≤ q → A q := fun q h => by rw [← hAe]; exact Or.inr h
  have hS : va_S A s.heap s.heap [] := va_S.rf
  have hl := lv_entry ([.ref x, .long w0, .int p1, .ref ho]) (n := 6) (Nat.le_of_ble_eq_true rfl)
  rw [lg_entry_eq]
  generalize (lg_sl ([.ref x, .long w0, .int p1, .ref ho]) ++ List.replicate (6 - (lg_sl ([.ref x, .long w0, .int p1, .ref ho])).length) Slot.unset).toArray = ls at hl ⊢
  have hl : lv_has ls 6 [(0, .ref x), (1, .long w0), (3, .int p1), (4, .ref ho)] := hl
  refine lv_aload hx hb dL_certify_0 (lv_at hl 3 rfl) ?_
  refine lv_iconst (v := 0) hx hb dL_certify_2 (by decide) ?_
  refine lv_aload_n hx hb dL_certify_3 rfl (lv_at hl 0 rfl) ?_
  refine lv_lload_n hx hb dL_certify_4 rfl (lv_at hl 1 rfl) ?_
  refine lv_iload_n hx hb dL_certify_5 rfl (lv_at hl 2 rfl) ?_
  have hPc := hP.sub (ws' := [(x, .inr (10, [.ref tp, .ref ds, .ref rr, .ref so, .ref pu, .ref sn, .ref im, .ref cs, .ref cl, .int (0 : Int32)])), (ds, .inr (3, [.int pg, .ref dl, .ref dr, .ref dt, .int (1 : Int32), .int (-1 : Int32), .int (0 : Int32)]))]) [0, 1] rfl
  have hKc := hK.sub (tys' := []) [] rfl
  have hDc := hD.sub (ws' := [(x, .inr (10, [.ref tp, .ref ds, .ref rr, .ref so, .ref pu, .ref sn, .ref im, .ref cs, .ref cl, .int (0 : Int32)])), (ds, .inr (3, [.int pg, .ref dl, .ref dr, .ref dt, .int (1 : Int32), .int (-1 : Int32), .int (0 : Int32)]))]) [0, 1] (by decide) rfl
  have hFc := va_free (wc := [(x, .inr (10, [.ref tp, .ref ds, .ref rr, .ref so, .ref pu, .ref sn, .ref im, .ref cs, .ref cl, .int (0 : Int32)])), (ds, .inr (3, [.int pg, .ref dl, .ref dr, .ref dt, .int (1 : Int32), .int (-1 : Int32), .int (0 : Int32)]))]) hD hS hA [0, 1] rfl
  refine vx_calli (vx_runV (As := [.long w0, .int p1]) (rest := [.int (0 : Int32), .ref ho]) ⟨hx, hb, hml, hown, hts⟩ (k_X8_certify_1 l hl0 dC dI x w0 p1 ds tp rr so pu sn im cs cl pg dl dr dt _ hf0) (cwV 2 hts gL_certify_X8_certify rfl rfl rfl (by decide +kernel) ⟨Nat.le_of_ble_eq_true rfl, Nat.le_of_ble_eq_true rfl⟩) ⟨fun a U g mk q => by obtain ⟨q0, q1, qP, qK, qD, qG⟩ := q; exact ⟨q0, q1, qP, va_K.moved (u := U) (U := U.calling g mk a) (Vm.Alike.refl U.vm) qK, qD, qG.same rfl rfl⟩, va_recv hK hP (ci := 10) (q := (RX8, TX8, 10)) rfl (q0 := 0) rfl, fun U hU hW => ⟨rfl, by rw [hU], by rw [hU]; exact hPc, va_K.moved hW.alike hKc, hDc.weaken (fun _ _ _ _ => trivial), hG.go hW hU hS hFc⟩⟩ rfl rfl hl.1 rfl (lv_room (Nat.le_of_ble_eq_true rfl)) dL_certify_6 ⟨Nat.le_of_ble_eq_true rfl, Nat.le_of_ble_eq_true rfl⟩) hS (fun q _ h => hFc q h) hFc (fun q _ h => hFc q h) (fun E9 ce q9 u t H1 locs1 ht hvm hp hE hz hk hS hcell hv hcl => ?_) (fun r u t H1 locs1 ht hvm hp hB hz hk hS => hp.elim)
  subst hE
  refine vx_catch (name := "java/lang/IllegalArgumentException") hown [⟨0, 11, 14, 25⟩] ⟨0, 11, 18, 13⟩ [] htab (fun z h => by simp only [List.mem_cons, List.not_mem_nil, or_false] at h; rcases h with rfl <;> first | exact Or.inr ⟨by decide, "java/lang/IllegalStateException", (hts (.classLink RL 25 "java/lang/IllegalStateException") (by decide +kernel)), hG.1.2.2.2.1 _ (by decide) _ (by decide) (by decide)⟩) (by decide) (by decide) (va_Nw.use rfl (hG.1.2.2.2.2.2.2 (13, "java/lang/IllegalArgumentException") (by decide +kernel))) (va_Nw.use rfl (hG.1.2.2.1 _ (by decide))) hcell hv hcl ?_
  refine W.eq (g2 := F0 m 18 ls [.ref q9]) rfl ?_
  have hP : va_P (dC, dI) vwCl [] H1 := fun k q h => by simp at h
  have hD : va_D A [] := ⟨fun i j p q h => by simp at h, fun k q h => by simp at h⟩
  generalize H1 = H at hP hS ⊢
  refine lv_astore (lv' := [(5, .ref q9), (0, .ref x), (1, .long w0), (3, .int p1), (4, .ref ho)]) hx hb dL_certify_18 hl (by decide) rfl (fun ls hl => ?_)
  refine lv_iconst (v := 2) hx hb dL_certify_20 (by decide) ?_
  have hP := hP.sub (ws' := []) [] rfl
  have hD := hD.sub (ws' := []) [] (by decide) rfl
  have hK := hK.sub (tys' := []) [] rfl
  exact W.iret hx hb hr (fun t ht hW => ⟨⟨_, (), rfl, rfl, by rw [ht]; exact hP, va_K.moved hW.alike hK, hD⟩, hS.F ht⟩) hS.2.2 dL_certify_21

set_option maxHeartbeats 4000000 in
set_option maxRecDepth 100000 in
theorem k_X9_certify_1 (l : Launch) (dC : Nat → ClassId) (dI : Nat → Nat → Nat) (mo : Nat) (w0 : Int64) (p1 : Int32) (m_disk : Nat) (P : Nat) (m_tape : Nat) (m_slots : Nat) (m_leaves : Nat) (m_fresh : Nat) (m_digestAt : Nat) (m_isGroup : Nat) (m_counts : Nat) (m_versionRow : Nat) (m_state : Nat) (m_names : Nat) (m_keptRow : Nat) (m_inSlot : Nat) (m_inAt : Nat) (m_inSize : Nat) (m_inDigest : Nat) (sz : Nat) (hf0 : p1 < 0) : Met l yX9_certify wsX9_certify ({ frames := 1, cells := 0, slots := 0, locals := 22 }) (va_Pc [.ref mo, .long w0, .int p1] (fun U => U.heap.size = sz ∧ va_P (dC, dI) vwCl [(mo, .inr (11, [.ref m_disk, .int (nI P), .int ((8224 : Int32) + ((26 : Int32) * (nI P))), .int (1 : Int32), .int 0, .int (-1 : Int32), .int 0, .int (0 : Int32), .ref m_tape, .int 0, .ref m_slots, .ref m_leaves, .int 0, .int 0, .ref m_fresh, .int 0, .int 0, .int 0, .ref m_digestAt, .ref m_isGroup, .ref m_counts, .int 0, .int 0, .long 0, .int 0, .ref m_versionRow, .int 0, .long 0, .ref m_state, .ref m_names, .int 0, .ref m_keptRow, .int 0, .ref m_inSlot, .ref m_inAt, .ref m_inSize, .ref m_inDigest, .int 0]))] U.heap ∧ va_K (dC, dI) vwCl [] U ∧ va_D (fun _ => True) [(mo, .inr (11, [.ref m_disk, .int (nI P), .int ((8224 : Int32) + ((26 : Int32) * (nI P))), .int (1 : Int32), .int 0, .int (-1 : Int32), .int 0, .int (0 : Int32), .ref m_tape, .int 0, .ref m_slots, .ref m_leaves, .int 0, .int 0, .ref m_fresh, .int 0, .int 0, .int 0, .ref m_digestAt, .ref m_isGroup, .ref m_counts, .int 0, .int 0, .long 0, .int 0, .ref m_versionRow, .int 0, .long 0, .ref m_state, .ref m_names, .int 0, .ref m_keptRow, .int 0, .ref m_inSlot, .ref m_inAt, .ref m_inSize, .ref m_inDigest, .int 0]))])) (va_Qi (fun r (_ : Unit) => r = (0 : Int32)) (fun (_ : Unit) t => va_P (dC, dI) vwCl [(mo, .inr (11, [.ref m_disk, .int (nI P), .int ((8224 : Int32) + ((26 : Int32) * (nI P))), .int (1 : Int32), .int 0, .int (-1 : Int32), .int 0, .int (0 : Int32), .ref m_tape, .int 0, .ref m_slots, .ref m_leaves, .int 0, .int (2 : Int32), .ref m_fresh, .int 0, .int 0, .int 0, .ref m_digestAt, .ref m_isGroup, .ref m_counts, .int 0, .int 0, .long 0, .int 0, .ref m_versionRow, .int 0, .long 0, .ref m_state, .ref m_names, .int 0, .ref m_keptRow, .int 0, .ref m_inSlot, .ref m_inAt, .ref m_inSize, .ref m_inDigest, .int 0]))] t.heap ∧ va_K (dC, dI) vwCl [] t ∧ va_D (va_A [(mo, .inr (11, [.ref m_disk, .int (nI P), .int ((8224 : Int32) + ((26 : Int32) * (nI P))), .int (1 : Int32), .int 0, .int (-1 : Int32), .int 0, .int (0 : Int32), .ref m_tape, .int 0, .ref m_slots, .ref m_leaves, .int 0, .int 0, .ref m_fresh, .int 0, .int 0, .int 0, .ref m_digestAt, .ref m_isGroup, .ref m_counts, .int 0, .int 0, .long 0, .int 0, .ref m_versionRow, .int 0, .long 0, .ref m_state, .ref m_names, .int 0, .ref m_keptRow, .int 0, .ref m_inSlot, .ref m_inAt, .ref m_inSize, .ref m_inDigest, .int 0]))] sz) [(mo, .inr (11, [.ref m_disk, .int (nI P), .int ((8224 : Int32) + ((26 : Int32) * (nI P))), .int (1 : Int32), .int 0, .int (-1 : Int32), .int 0, .int (0 : Int32), .ref m_tape, .int 0, .ref m_slots, .ref m_leaves, .int 0, .int (2 : Int32), .ref m_fresh, .int 0, .int 0, .int 0, .ref m_digestAt, .ref m_isGroup, .ref m_counts, .int 0, .int 0, .long 0, .int 0, .ref m_versionRow, .int 0, .long 0, .ref m_state, .ref m_names, .int 0, .ref m_keptRow, .int 0, .ref m_inSlot, .ref m_inAt, .ref m_inSize, .ref m_inDigest, .int 0]))]) (va_A [(mo, .inr (11, [.ref m_disk, .int (nI P), .int ((8224 : Int32) + ((26 : Int32) * (nI P))), .int (1 : Int32), .int 0, .int (-1 : Int32), .int 0, .int (0 : Int32), .ref m_tape, .int 0, .ref m_slots, .ref m_leaves, .int 0, .int 0, .ref m_fresh, .int 0, .int 0, .int 0, .ref m_digestAt, .ref m_isGroup, .ref m_counts, .int 0, .int 0, .long 0, .int 0, .ref m_versionRow, .int 0, .long 0, .ref m_state, .ref m_names, .int 0, .ref m_keptRow, .int 0, .ref m_inSlot, .ref m_inAt, .ref m_inSize, .ref m_inDigest, .int 0]))] sz)) 0 0 (va_A [(mo, .inr (11, [.ref m_disk, .int (nI P), .int ((8224 : Int32) + ((26 : Int32) * (nI P))), .int (1 : Int32), .int 0, .int (-1 : Int32), .int 0, .int (0 : Int32), .ref m_tape, .int 0, .ref m_slots, .ref m_leaves, .int 0, .int 0, .ref m_fresh, .int 0, .int 0, .int 0, .ref m_digestAt, .ref m_isGroup, .ref m_counts, .int 0, .int 0, .long 0, .int 0, .ref m_versionRow, .int 0, .long 0, .ref m_state, .ref m_names, .int 0, .ref m_keptRow, .int 0, .ref m_inSlot, .ref m_inAt, .ref m_inSize, .ref m_inDigest, .int 0]))] sz) := by
  refine Met.ofW (cc := cX9_certify) (maxL := 7) (ret := (some .int)) (by decide) rfl ?_
  intro p e s m args below meth c s₁ B hml hv
  obtain ⟨rfl, hsz, hP, hK, hD0⟩ := hv
  have hx := B.exec
  have hb := B.bytes
  have hr := B.returns
  have hts := atoms_spec (ws := wsX9_certify) B.pre
  have hown : s.vm.findClass RX9 = some m.cls := findClass_of_methodNamed B.named
  have hlocks := B.notSynchronized
  subst hsz
  have hD := hD0.self (sz := s.heap.size)
  generalize hAe : va_A [(mo, .inr (11, [.ref m_disk, .int (nI P), .int ((8224 : Int32) + ((26 : Int32) * (nI P))), .int (1 : Int32), .int 0, .int (-1 : Int32), .int 0, .int (0 : Int32), .ref m_tape, .int 0, .ref m_slots, .ref m_leaves, .int 0, .int 0, .ref m_fresh, .int 0, .int 0, .int 0, .ref m_digestAt, .ref m_isGroup, .ref m_counts, .int 0, .int 0, .long 0, .int 0, .ref m_versionRow, .int 0, .long 0, .ref m_state, .ref m_names, .int 0, .ref m_keptRow, .int 0, .ref m_inSlot, .ref m_inAt, .ref m_inSize, .ref m_inDigest, .int 0]))] s.heap.size = A at hD ⊢
  have hA : ∀ q : Nat, s.heap.size ≤ q → A q := fun q h => by rw [← hAe]; exact Or.inr h
  have hS : va_S A s.heap s.heap [] := va_S.rf
  have hl := lv_entry ([.ref mo, .long w0, .int p1]) (n := 7) (Nat.le_of_ble_eq_true rfl)
  rw [lg_entry_eq]
  generalize (lg_sl ([.ref mo, .long w0, .int p1]) ++ List.replicate (7 - (lg_sl ([.ref mo, .long w0, .int p1])).length) Slot.unset).toArray = ls at hl ⊢
  have hl : lv_has ls 7 [(0, .ref mo), (1, .long w0), (3, .int p1)] := hl
  refine lv_aload_n hx hb dX9_certify_0 rfl (lv_at hl 0 rfl) ?_
  refine lv_aload_n hx hb dX9_certify_1 rfl (lv_at hl 0 rfl) ?_
  refine va_get (D := (dC, dI)) (ci := 11) (v := .int (1 : Int32)) (C := RX9) (T := TX9) (N := 38) hx hb hts (by decide +kernel) hown hK hP 0 rfl rfl 3 (by decide) (hts (.fieldLink RX9 72 "BlockLogModel" "on" "Z") (by decide +kernel)) (fun _ h9 => h9) rfl dX9_certify_2 ?_
  refine lv_if_ne (tgt := 12) hx hb dX9_certify_5 (by decide) (fun c_1 => ?_) (fun c_1 => ?_)
  · skip
    refine lv_iload_n hx hb dX9_certify_12 rfl (lv_at hl 2 rfl) ?_
    refine lv_iconst (v := 0) hx hb dX9_certify_13 (by decide) ?_
    refine lv_bipush (v := 15) hx hb dX9_certify_14 (by decide) ?_
    have hPc := hP.sub (ws' := []) [] rfl
    have hKc := hK.sub (tys' := []) [] rfl
    refine vp_callSi (va_Run.run (va_runS (As := [.int p1, .int (0 : Int32), .int (15 : Int32)]) (rest := [.ref mo]) ⟨hx, hb, hml, hown, hts⟩ (k_X9_within_1 l dC dI p1 (0 : Int32) (15 : Int32) hf0) (va_cwS 3 hts gX9_certify_X9_within rfl rfl rfl (by decide +kernel) ⟨Nat.le_of_ble_eq_true rfl, Nat.le_of_ble_eq_true rfl⟩) ⟨fun a U g mk q => by obtain ⟨q0, qP, qK⟩ := q; exact ⟨q0, qP, va_K.moved (u := U) (U := U.calling g mk a) (Vm.Alike.refl U.vm) qK⟩, fun U hU hW => ⟨rfl, by rw [hU]; exact hPc, va_K.moved hW.alike hKc⟩⟩ rfl rfl hl.1 rfl (lv_room (Nat.le_of_ble_eq_true rfl)) dX9_certify_16 ⟨Nat.le_of_ble_eq_true rfl, Nat.le_of_ble_eq_true rfl⟩)) (fun r_2 er_2 => ?_)
    subst er_2
    refine lv_if_ne (tgt := 26) hx hb dX9_certify_19 (by decide) (fun c_3 => ?_) (fun c_3 => ?_)
    · skip
      exact absurd (by decide) c_3
    · skip
      refine lv_iconst (v := 2) hx hb dX9_certify_22 (by decide) ?_
      refine lv_goto (tgt := 27) hx hb dX9_certify_23 (by decide) ?_
      refine va_put (D := (dC, dI)) (ci := 11) (v := .int (2 : Int32)) (ty := .int) (C := RX9) (T := TX9) (N := 38) hx hb hts (by decide +kernel) tyX9 tyX9_ok nmX9 hown hK hP hD hS 0 rfl rfl 13 (by decide) (hts (.fieldLink RX9 91 "BlockLogModel" "thrown" "I") (by decide +kernel)) (fun _ h9 => h9) rfl (by decide +kernel) rfl rfl (Nat.le_of_ble_eq_true rfl) dX9_certify_27 (fun H locs hP hD hS => ?_)
      have hP : va_P (dC, dI) vwCl [(mo, .inr (11, [.ref m_disk, .int (nI P), .int ((8224 : Int32) + ((26 : Int32) * (nI P))), .int (1 : Int32), .int 0, .int (-1 : Int32), .int 0, .int (0 : Int32), .ref m_tape, .int 0, .ref m_slots, .ref m_leaves, .int 0, .int (2 : Int32), .ref m_fresh, .int 0, .int 0, .int 0, .ref m_digestAt, .ref m_isGroup, .ref m_counts, .int 0, .int 0, .long 0, .int 0, .ref m_versionRow, .int 0, .long 0, .ref m_state, .ref m_names, .int 0, .ref m_keptRow, .int 0, .ref m_inSlot, .ref m_inAt, .ref m_inSize, .ref m_inDigest, .int 0]))] H := hP
      have hD : va_D A [(mo, .inr (11, [.ref m_disk, .int (nI P), .int ((8224 : Int32) + ((26 : Int32) * (nI P))), .int (1 : Int32), .int 0, .int (-1 : Int32), .int 0, .int (0 : Int32), .ref m_tape, .int 0, .ref m_slots, .ref m_leaves, .int 0, .int (2 : Int32), .ref m_fresh, .int 0, .int 0, .int 0, .ref m_digestAt, .ref m_isGroup, .ref m_counts, .int 0, .int 0, .long 0, .int 0, .ref m_versionRow, .int 0, .long 0, .ref m_state, .ref m_names, .int 0, .ref m_keptRow, .int 0, .ref m_inSlot, .ref m_inAt, .ref m_inSize, .ref m_inDigest, .int 0]))] := hD
      refine lv_aload_n hx hb dX9_certify_30 rfl (lv_at hl 0 rfl) ?_
      refine va_get (D := (dC, dI)) (ci := 11) (v := .int (2 : Int32)) (C := RX9) (T := TX9) (N := 38) hx hb hts (by decide +kernel) hown hK hP 0 rfl rfl 13 (by decide) (hts (.fieldLink RX9 91 "BlockLogModel" "thrown" "I") (by decide +kernel)) (fun _ h9 => h9) rfl dX9_certify_31 ?_
      refine lv_if_le (tgt := 39) hx hb dX9_certify_34 (by decide) (fun c_4 => ?_) (fun c_4 => ?_)
      · skip
        exact absurd c_4 (by decide)
      · skip
        refine lv_iconst (v := 0) hx hb dX9_certify_37 (by decide) ?_
        have hP := hP.sub (ws' := [(mo, .inr (11, [.ref m_disk, .int (nI P), .int ((8224 : Int32) + ((26 : Int32) * (nI P))), .int (1 : Int32), .int 0, .int (-1 : Int32), .int 0, .int (0 : Int32), .ref m_tape, .int 0, .ref m_slots, .ref m_leaves, .int 0, .int (2 : Int32), .ref m_fresh, .int 0, .int 0, .int 0, .ref m_digestAt, .ref m_isGroup, .ref m_counts, .int 0, .int 0, .long 0, .int 0, .ref m_versionRow, .int 0, .long 0, .ref m_state, .ref m_names, .int 0, .ref m_keptRow, .int 0, .ref m_inSlot, .ref m_inAt, .ref m_inSize, .ref m_inDigest, .int 0]))]) [0] rfl
        have hD := hD.sub (ws' := [(mo, .inr (11, [.ref m_disk, .int (nI P), .int ((8224 : Int32) + ((26 : Int32) * (nI P))), .int (1 : Int32), .int 0, .int (-1 : Int32), .int 0, .int (0 : Int32), .ref m_tape, .int 0, .ref m_slots, .ref m_leaves, .int 0, .int (2 : Int32), .ref m_fresh, .int 0, .int 0, .int 0, .ref m_digestAt, .ref m_isGroup, .ref m_counts, .int 0, .int 0, .long 0, .int 0, .ref m_versionRow, .int 0, .long 0, .ref m_state, .ref m_names, .int 0, .ref m_keptRow, .int 0, .ref m_inSlot, .ref m_inAt, .ref m_inSize, .ref m_inDigest, .int 0]))]) [0] (by decide) rfl
        have hK := hK.sub (tys' := []) [] rfl
        exact W.iret hx hb hr (fun t ht hW => ⟨⟨_, (), rfl, rfl, by rw [ht]; exact hP, va_K.moved hW.alike hK, hD⟩, hS.F ht⟩) hS.2.2 dX9_certify_38
  · skip
    exact absurd c_1 (by decide)

set_option maxHeartbeats 4000000 in
set_option maxRecDepth 100000 in
theorem k_X8_certify_2 (l : Launch) (hl0 : l.stackTraces = false) (dC : Nat → ClassId) (dI : Nat → Nat → Nat) (x : Nat) (w0 : Int64) (p1 : Int32) (ds : Nat) (tp : Nat) (rr : Nat) (so : Nat) (pu : Nat) (sn : Nat) (im : Nat) (cs : Nat) (cl : Nat) (pg : Int32) (dl : Nat) (dr : Nat) (dt : Nat) (sz : Nat) (hf0 : 15 < p1) : vx_Met l yX8_certify wsX8_certify ({ frames := 6, cells := 1, slots := 6, locals := 90 }) (va_Pc [.ref x, .long w0, .int p1] (fun U => U.heap.size = sz ∧ va_P (dC, dI) vwCl [(x, .inr (10, [.ref tp, .ref ds, .ref rr, .ref so, .ref pu, .ref sn, .ref im, .ref cs, .ref cl, .int (0 : Int32)])), (ds, .inr (3, [.int pg, .ref dl, .ref dr, .ref dt, .int (1 : Int32), .int (-1 : Int32), .int (0 : Int32)]))] U.heap ∧ va_K (dC, dI) vwCl [] U ∧ va_D (fun _ => True) [(x, .inr (10, [.ref tp, .ref ds, .ref rr, .ref so, .ref pu, .ref sn, .ref im, .ref cs, .ref cl, .int (0 : Int32)])), (ds, .inr (3, [.int pg, .ref dl, .ref dr, .ref dt, .int (1 : Int32), .int (-1 : Int32), .int (0 : Int32)]))] ∧ gx_E (va_A [(x, .inr (10, [.ref tp, .ref ds, .ref rr, .ref so, .ref pu, .ref sn, .ref im, .ref cs, .ref cl, .int (0 : Int32)])), (ds, .inr (3, [.int pg, .ref dl, .ref dr, .ref dt, .int (1 : Int32), .int (-1 : Int32), .int (0 : Int32)]))] sz) U)) (va_Qi (fun (_ : Int32) (_ : Unit) => False) (fun _ _ => True) (va_A [(x, .inr (10, [.ref tp, .ref ds, .ref rr, .ref so, .ref pu, .ref sn, .ref im, .ref cs, .ref cl, .int (0 : Int32)])), (ds, .inr (3, [.int pg, .ref dl, .ref dr, .ref dt, .int (1 : Int32), .int (-1 : Int32), .int (0 : Int32)]))] sz)) (vx_X (fun _ : Unit => True) (fun E _ _ => E = "java/lang/IllegalArgumentException") (va_A [(x, .inr (10, [.ref tp, .ref ds, .ref rr, .ref so, .ref pu, .ref sn, .ref im, .ref cs, .ref cl, .int (0 : Int32)])), (ds, .inr (3, [.int pg, .ref dl, .ref dr, .ref dt, .int (1 : Int32), .int (-1 : Int32), .int (0 : Int32)]))] sz)) 1 6 (va_A [(x, .inr (10, [.ref tp, .ref ds, .ref rr, .ref so, .ref pu, .ref sn, .ref im, .ref cs, .ref cl, .int (0 : Int32)])), (ds, .inr (3, [.int pg, .ref dl, .ref dr, .ref dt, .int (1 : Int32), .int (-1 : Int32), .int (0 : Int32)]))] sz) := by
  refine vx_ofW (cc := cX8_certify) (maxL := 8) (ret := (some .int)) (by decide) rfl ?_
  intro p e s m args below meth c s₁ B hml hno hv
  obtain ⟨rfl, hsz, hP, hK, hD0, hG⟩ := hv
  have hx := B.exec
  have hb := B.bytes
  have hr := B.returns
  have hts := atoms_spec (ws := wsX8_certify) B.pre
  have hown : s.vm.findClass RX8 = some m.cls := findClass_of_methodNamed B.named
  have hlocks := B.notSynchronized
  subst hsz
  have hD := hD0.self (sz := s.heap.size)
  generalize hAe : va_A [(x, .inr (10, [.ref tp, .ref ds, .ref rr, .ref so, .ref pu, .ref sn, .ref im, .ref cs, .ref cl, .int (0 : Int32)])), (ds, .inr (3, [.int pg, .ref dl, .ref dr, .ref dt, .int (1 : Int32), .int (-1 : Int32), .int (0 : Int32)]))] s.heap.size = A at hD hG ⊢
  have hA : ∀ q : Nat, s.heap.size ≤ q → A q := fun q h => by rw [← hAe]; exact Or.inr h
  have hS : va_S A s.heap s.heap [] := va_S.rf
  have hl := lv_entry ([.ref x, .long w0, .int p1]) (n := 8) (Nat.le_of_ble_eq_true rfl)
  rw [lg_entry_eq]
  generalize (lg_sl ([.ref x, .long w0, .int p1]) ++ List.replicate (8 - (lg_sl ([.ref x, .long w0, .int p1])).length) Slot.unset).toArray = ls at hl ⊢
  have hl : lv_has ls 8 [(0, .ref x), (1, .long w0), (3, .int p1)] := hl
  refine lv_aload_n hx hb dX8_certify_0 rfl (lv_at hl 0 rfl) ?_
  have hPc := hP.sub (ws' := [(x, .inr (10, [.ref tp, .ref ds, .ref rr, .ref so, .ref pu, .ref sn, .ref im, .ref cs, .ref cl, .int (0 : Int32)])), (ds, .inr (3, [.int pg, .ref dl, .ref dr, .ref dt, .int (1 : Int32), .int (-1 : Int32), .int (0 : Int32)]))]) [0, 1] rfl
  have hKc := hK.sub (tys' := []) [] rfl
  refine va_csv (va_Run.run (va_runV (As := []) (rest := []) ⟨hx, hb, hml, hown, hts⟩ (k_X8_demandPower_1 l dC dI x ds tp rr so pu sn im cs cl pg dl dr dt) (cwV 0 hts gX8_certify_X8_demandPower rfl rfl rfl (by decide +kernel) ⟨Nat.le_of_ble_eq_true rfl, Nat.le_of_ble_eq_true rfl⟩) ⟨fun a U g mk q => by obtain ⟨q0, qP, qK, qG⟩ := q; exact ⟨q0, qP, va_K.moved (u := U) (U := U.calling g mk a) (Vm.Alike.refl U.vm) qK, qG.same rfl⟩, va_recv hK hP (ci := 10) (q := (RX8, TX8, 10)) rfl (q0 := 0) rfl, fun U hU hW => ⟨rfl, by rw [hU]; exact hPc, va_K.moved hW.alike hKc, hG.1.warm hW⟩⟩ rfl rfl hl.1 rfl (lv_room (Nat.le_of_ble_eq_true rfl)) dX8_certify_1 ⟨Nat.le_of_ble_eq_true rfl, Nat.le_of_ble_eq_true rfl⟩)) (fun _ => ?_)
  refine lv_iload_n hx hb dX8_certify_4 rfl (lv_at hl 2 rfl) ?_
  refine lv_if_lt (tgt := 14) hx hb dX8_certify_5 (by decide) (fun c_2 => ?_) (fun c_2 => ?_)
  · skip
    exact absurd c_2 (Int32.not_lt.mpr (Int32.le_of_lt (Int32.lt_of_le_of_lt (by decide) hf0)))
  · skip
    refine lv_iload_n hx hb dX8_certify_8 rfl (lv_at hl 2 rfl) ?_
    refine lv_bipush (v := 15) hx hb dX8_certify_9 (by decide) ?_
    refine lv_icmp_le (tgt := 24) hx hb dX8_certify_11 (by decide) (fun c_3 => ?_) (fun c_3 => ?_)
    · skip
      exact absurd c_3 (Int32.not_le.mpr hf0)
    · skip
      obtain ⟨sa, hstr⟩ := hG.1.2.1 ("BlockLog", 188, "signers is not 0 .. 15") (by decide +kernel)
      exact vx_throwS (names := ["java/lang/RuntimeException", "java/lang/Exception"]) hx hb hl0 hown (by decide +kernel) (by decide +kernel) (hts (.classLink RX8 76 "java/lang/IllegalArgumentException") (by decide +kernel)) (hts (.initialized "java/lang/IllegalArgumentException") (by decide +kernel)) hstr (vx_hat (B := gx_bad "java/lang/IllegalArgumentException") (fun w h => hts w (List.mem_cons_of_mem _ (List.mem_append_left _ (List.mem_append_right _ h)))) (by decide +kernel) (hG.1.bad (by decide))) (by decide +kernel) hG.2.1 hG.2.2.1 hS (hl.1.trans hml.symm) dX8_certify_14 dX8_certify_17 dX8_certify_18 dX8_certify_20 dX8_certify_23 (fun x h => (hno x h).elim) (Nat.le_of_ble_eq_true rfl) (Nat.le_of_ble_eq_true rfl) (Nat.le_of_ble_eq_true rfl) (Nat.le_of_ble_eq_true rfl) hlocks (fun t _ h1 h2 => ⟨(), trivial, rfl, Nat.le_trans hS.1 h1, fun q hq hn => (h2 q (Nat.lt_of_lt_of_le hq hS.1)).trans (hS.2.1 q hq hn)⟩) hS.2.2 (Nat.le_refl _) (Nat.le_refl _)

set_option maxHeartbeats 4000000 in
set_option maxRecDepth 100000 in
theorem k_L_certify_2 (l : Launch) (hl0 : l.stackTraces = false) (dC : Nat → ClassId) (dI : Nat → Nat → Nat) (x : Nat) (w0 : Int64) (p1 : Int32) (ho : Nat) (ds : Nat) (tp : Nat) (rr : Nat) (so : Nat) (pu : Nat) (sn : Nat) (im : Nat) (cs : Nat) (cl : Nat) (pg : Int32) (dl : Nat) (dr : Nat) (dt : Nat) (sz : Nat) (hf0 : 15 < p1) : Met l yL_certify wsL_certify ({ frames := 7, cells := 1, slots := 6, locals := 117 }) (va_Pc [.ref x, .long w0, .int p1, .ref ho] (fun U => U.heap.size = sz ∧ va_P (dC, dI) vwCl [(x, .inr (10, [.ref tp, .ref ds, .ref rr, .ref so, .ref pu, .ref sn, .ref im, .ref cs, .ref cl, .int (0 : Int32)])), (ds, .inr (3, [.int pg, .ref dl, .ref dr, .ref dt, .int (1 : Int32), .int (-1 : Int32), .int (0 : Int32)]))] U.heap ∧ va_K (dC, dI) vwCl [] U ∧ va_D (fun _ => True) [(x, .inr (10, [.ref tp, .ref ds, .ref rr, .ref so, .ref pu, .ref sn, .ref im, .ref cs, .ref cl, .int (0 : Int32)])), (ds, .inr (3, [.int pg, .ref dl, .ref dr, .ref dt, .int (1 : Int32), .int (-1 : Int32), .int (0 : Int32)]))] ∧ gx_E (va_A [(x, .inr (10, [.ref tp, .ref ds, .ref rr, .ref so, .ref pu, .ref sn, .ref im, .ref cs, .ref cl, .int (0 : Int32)])), (ds, .inr (3, [.int pg, .ref dl, .ref dr, .ref dt, .int (1 : Int32), .int (-1 : Int32), .int (0 : Int32)]))] sz) U)) (va_Qi (fun r (_ : Unit) => r = (2 : Int32)) (fun (_ : Unit) t => va_P (dC, dI) vwCl [] t.heap ∧ va_K (dC, dI) vwCl [] t ∧ va_D (va_A [(x, .inr (10, [.ref tp, .ref ds, .ref rr, .ref so, .ref pu, .ref sn, .ref im, .ref cs, .ref cl, .int (0 : Int32)])), (ds, .inr (3, [.int pg, .ref dl, .ref dr, .ref dt, .int (1 : Int32), .int (-1 : Int32), .int (0 : Int32)]))] sz) []) (va_A [(x, .inr (10, [.ref tp, .ref ds, .ref rr, .ref so, .ref pu, .ref sn, .ref im, .ref cs, .ref cl, .int (0 : Int32)])), (ds, .inr (3, [.int pg, .ref dl, .ref dr, .ref dt, .int (1 : Int32), .int (-1 : Int32), .int (0 : Int32)]))] sz)) 1 6 (va_A [(x, .inr (10, [.ref tp, .ref ds, .ref rr, .ref so, .ref pu, .ref sn, .ref im, .ref cs, .ref cl, .int (0 : Int32)])), (ds, .inr (3, [.int pg, .ref dl, .ref dr, .ref dt, .int (1 : Int32), .int (-1 : Int32), .int (0 : Int32)]))] sz) := by
  refine va_MetW (cc := cL_certify) (maxL := 6) (ret := (some .int)) (hh := [(0, 11, 14, 25), (0, 11, 18, 13)]) (by decide) rfl ?_
  intro p e s m args below meth c s₁ B hml hv
  obtain ⟨rfl, hsz, hP, hK, hD0, hG⟩ := hv
  have hx := B.exec
  have hb := B.bytes
  have hr := B.returns
  have hts := atoms_spec (ws := wsL_certify) B.pre
  have hown : s.vm.findClass RL = some m.cls := findClass_of_methodNamed B.named
  have hlocks := B.notSynchronized
  have htab := vx_table (x := yL_certify) B (hts (.codeWith yL_certify cL_certify 6 (some .int) [(0, 11, 14, 25), (0, 11, 18, 13)]) List.mem_cons_self)
  subst hsz
  have hD := hD0.self (sz := s.heap.size)
  generalize hAe : va_A [(x, .inr (10, [.ref tp, .ref ds, .ref rr, .ref so, .ref pu, .ref sn, .ref im, .ref cs, .ref cl, .int (0 : Int32)])), (ds, .inr (3, [.int pg, .ref dl, .ref dr, .ref dt, .int (1 : Int32), .int (-1 : Int32), .int (0 : Int32)]))] s.heap.size = A at hD hG ⊢
  have hA : ∀ q : Nat, s.heap.size ≤ q → A q := fun q h => by rw [← hAe]; exact Or.inr h
  have hS : va_S A s.heap s.heap [] := va_S.rf
  have hl := lv_entry ([.ref x, .long w0, .int p1, .ref ho]) (n := 6) (Nat.le_of_ble_eq_true rfl)
  rw [lg_entry_eq]
  generalize (lg_sl ([.ref x, .long w0, .int p1, .ref ho]) ++ List.replicate (6 - (lg_sl ([.ref x, .long w0, .int p1, .ref ho])).length) Slot.unset).toArray = ls at hl ⊢
  have hl : lv_has ls 6 [(0, .ref x), (1, .long w0), (3, .int p1), (4, .ref ho)] := hl
  refine lv_aload hx hb dL_certify_0 (lv_at hl 3 rfl) ?_
  refine lv_iconst (v := 0) hx hb dL_certify_2 (by decide) ?_
  refine lv_aload_n hx hb dL_certify_3 rfl (lv_at hl 0 rfl) ?_
  refine lv_lload_n hx hb dL_certify_4 rfl (lv_at hl 1 rfl) ?_
  refine lv_iload_n hx hb dL_certify_5 rfl (lv_at hl 2 rfl) ?_
  have hPc := hP.sub (ws' := [(x, .inr (10, [.ref tp, .ref ds, .ref rr, .ref so, .ref pu, .ref sn, .ref im, .ref cs, .ref cl, .int (0 : Int32)])), (ds, .inr (3, [.int pg, .ref dl, .ref dr, .ref dt, .int (1 : Int32), .int (-1 : Int32), .int (0 : Int32)]))]) [0, 1] rfl
  have hKc := hK.sub (tys' := []) [] rfl
  have hDc := hD.sub (ws' := [(x, .inr (10, [.ref tp, .ref ds, .ref rr, .ref so, .ref pu, .ref sn, .ref im, .ref cs, .ref cl, .int (0 : Int32)])), (ds, .inr (3, [.int pg, .ref dl, .ref dr, .ref dt, .int (1 : Int32), .int (-1 : Int32), .int (0 : Int32)]))]) [0, 1] (by decide) rfl
  have hFc := va_free (wc := [(x, .inr (10, [.ref tp, .ref ds, .ref rr, .ref so, .ref pu, .ref sn, .ref im, .ref cs, .ref cl, .int (0 : Int32)])), (ds, .inr (3, [.int pg, .ref dl, .ref dr, .ref dt, .int (1 : Int32), .int (-1 : Int32), .int (0 : Int32)]))]) hD hS hA [0, 1] rfl
  refine vx_calli (vx_runV (As := [.long w0, .int p1]) (rest := [.int (0 : Int32), .ref ho]) ⟨hx, hb, hml, hown, hts⟩ (k_X8_certify_2 l hl0 dC dI x w0 p1 ds tp rr so pu sn im cs cl pg dl dr dt _ hf0) (cwV 2 hts gL_certify_X8_certify rfl rfl rfl (by decide +kernel) ⟨Nat.le_of_ble_eq_true rfl, Nat.le_of_ble_eq_true rfl⟩) ⟨fun a U g mk q => by obtain ⟨q0, q1, qP, qK, qD, qG⟩ := q; exact ⟨q0, q1, qP, va_K.moved (u := U) (U := U.calling g mk a) (Vm.Alike.refl U.vm) qK, qD, qG.same rfl rfl⟩, va_recv hK hP (ci := 10) (q := (RX8, TX8, 10)) rfl (q0 := 0) rfl, fun U hU hW => ⟨rfl, by rw [hU], by rw [hU]; exact hPc, va_K.moved hW.alike hKc, hDc.weaken (fun _ _ _ _ => trivial), hG.go hW hU hS hFc⟩⟩ rfl rfl hl.1 rfl (lv_room (Nat.le_of_ble_eq_true rfl)) dL_certify_6 ⟨Nat.le_of_ble_eq_true rfl, Nat.le_of_ble_eq_true rfl⟩) hS (fun q _ h => hFc q h) hFc (fun q _ h => hFc q h) (fun E9 ce q9 u t H1 locs1 ht hvm hp hE hz hk hS hcell hv hcl => ?_) (fun r u t H1 locs1 ht hvm hp hB hz hk hS => hp.elim)
  subst hE
  refine vx_catch (name := "java/lang/IllegalArgumentException") hown [⟨0, 11, 14, 25⟩] ⟨0, 11, 18, 13⟩ [] htab (fun z h => by simp only [List.mem_cons, List.not_mem_nil, or_false] at h; rcases h with rfl <;> first | exact Or.inr ⟨by decide, "java/lang/IllegalStateException", (hts (.classLink RL 25 "java/lang/IllegalStateException") (by decide +kernel)), hG.1.2.2.2.1 _ (by decide) _ (by decide) (by decide)⟩) (by decide) (by decide) (va_Nw.use rfl (hG.1.2.2.2.2.2.2 (13, "java/lang/IllegalArgumentException") (by decide +kernel))) (va_Nw.use rfl (hG.1.2.2.1 _ (by decide))) hcell hv hcl ?_
  refine W.eq (g2 := F0 m 18 ls [.ref q9]) rfl ?_
  have hP : va_P (dC, dI) vwCl [] H1 := fun k q h => by simp at h
  have hD : va_D A [] := ⟨fun i j p q h => by simp at h, fun k q h => by simp at h⟩
  generalize H1 = H at hP hS ⊢
  refine lv_astore (lv' := [(5, .ref q9), (0, .ref x), (1, .long w0), (3, .int p1), (4, .ref ho)]) hx hb dL_certify_18 hl (by decide) rfl (fun ls hl => ?_)
  refine lv_iconst (v := 2) hx hb dL_certify_20 (by decide) ?_
  have hP := hP.sub (ws' := []) [] rfl
  have hD := hD.sub (ws' := []) [] (by decide) rfl
  have hK := hK.sub (tys' := []) [] rfl
  exact W.iret hx hb hr (fun t ht hW => ⟨⟨_, (), rfl, rfl, by rw [ht]; exact hP, va_K.moved hW.alike hK, hD⟩, hS.F ht⟩) hS.2.2 dL_certify_21

set_option maxHeartbeats 4000000 in
set_option maxRecDepth 100000 in
theorem k_X9_certify_2 (l : Launch) (dC : Nat → ClassId) (dI : Nat → Nat → Nat) (mo : Nat) (w0 : Int64) (p1 : Int32) (m_disk : Nat) (P : Nat) (m_tape : Nat) (m_slots : Nat) (m_leaves : Nat) (m_fresh : Nat) (m_digestAt : Nat) (m_isGroup : Nat) (m_counts : Nat) (m_versionRow : Nat) (m_state : Nat) (m_names : Nat) (m_keptRow : Nat) (m_inSlot : Nat) (m_inAt : Nat) (m_inSize : Nat) (m_inDigest : Nat) (sz : Nat) (hf0 : 0 ≤ p1) (hf1 : 15 < p1) : Met l yX9_certify wsX9_certify ({ frames := 1, cells := 0, slots := 0, locals := 22 }) (va_Pc [.ref mo, .long w0, .int p1] (fun U => U.heap.size = sz ∧ va_P (dC, dI) vwCl [(mo, .inr (11, [.ref m_disk, .int (nI P), .int ((8224 : Int32) + ((26 : Int32) * (nI P))), .int (1 : Int32), .int 0, .int (-1 : Int32), .int 0, .int (0 : Int32), .ref m_tape, .int 0, .ref m_slots, .ref m_leaves, .int 0, .int 0, .ref m_fresh, .int 0, .int 0, .int 0, .ref m_digestAt, .ref m_isGroup, .ref m_counts, .int 0, .int 0, .long 0, .int 0, .ref m_versionRow, .int 0, .long 0, .ref m_state, .ref m_names, .int 0, .ref m_keptRow, .int 0, .ref m_inSlot, .ref m_inAt, .ref m_inSize, .ref m_inDigest, .int 0]))] U.heap ∧ va_K (dC, dI) vwCl [] U ∧ va_D (fun _ => True) [(mo, .inr (11, [.ref m_disk, .int (nI P), .int ((8224 : Int32) + ((26 : Int32) * (nI P))), .int (1 : Int32), .int 0, .int (-1 : Int32), .int 0, .int (0 : Int32), .ref m_tape, .int 0, .ref m_slots, .ref m_leaves, .int 0, .int 0, .ref m_fresh, .int 0, .int 0, .int 0, .ref m_digestAt, .ref m_isGroup, .ref m_counts, .int 0, .int 0, .long 0, .int 0, .ref m_versionRow, .int 0, .long 0, .ref m_state, .ref m_names, .int 0, .ref m_keptRow, .int 0, .ref m_inSlot, .ref m_inAt, .ref m_inSize, .ref m_inDigest, .int 0]))])) (va_Qi (fun r (_ : Unit) => r = (0 : Int32)) (fun (_ : Unit) t => va_P (dC, dI) vwCl [(mo, .inr (11, [.ref m_disk, .int (nI P), .int ((8224 : Int32) + ((26 : Int32) * (nI P))), .int (1 : Int32), .int 0, .int (-1 : Int32), .int 0, .int (0 : Int32), .ref m_tape, .int 0, .ref m_slots, .ref m_leaves, .int 0, .int (2 : Int32), .ref m_fresh, .int 0, .int 0, .int 0, .ref m_digestAt, .ref m_isGroup, .ref m_counts, .int 0, .int 0, .long 0, .int 0, .ref m_versionRow, .int 0, .long 0, .ref m_state, .ref m_names, .int 0, .ref m_keptRow, .int 0, .ref m_inSlot, .ref m_inAt, .ref m_inSize, .ref m_inDigest, .int 0]))] t.heap ∧ va_K (dC, dI) vwCl [] t ∧ va_D (va_A [(mo, .inr (11, [.ref m_disk, .int (nI P), .int ((8224 : Int32) + ((26 : Int32) * (nI P))), .int (1 : Int32), .int 0, .int (-1 : Int32), .int 0, .int (0 : Int32), .ref m_tape, .int 0, .ref m_slots, .ref m_leaves, .int 0, .int 0, .ref m_fresh, .int 0, .int 0, .int 0, .ref m_digestAt, .ref m_isGroup, .ref m_counts, .int 0, .int 0, .long 0, .int 0, .ref m_versionRow, .int 0, .long 0, .ref m_state, .ref m_names, .int 0, .ref m_keptRow, .int 0, .ref m_inSlot, .ref m_inAt, .ref m_inSize, .ref m_inDigest, .int 0]))] sz) [(mo, .inr (11, [.ref m_disk, .int (nI P), .int ((8224 : Int32) + ((26 : Int32) * (nI P))), .int (1 : Int32), .int 0, .int (-1 : Int32), .int 0, .int (0 : Int32), .ref m_tape, .int 0, .ref m_slots, .ref m_leaves, .int 0, .int (2 : Int32), .ref m_fresh, .int 0, .int 0, .int 0, .ref m_digestAt, .ref m_isGroup, .ref m_counts, .int 0, .int 0, .long 0, .int 0, .ref m_versionRow, .int 0, .long 0, .ref m_state, .ref m_names, .int 0, .ref m_keptRow, .int 0, .ref m_inSlot, .ref m_inAt, .ref m_inSize, .ref m_inDigest, .int 0]))]) (va_A [(mo, .inr (11, [.ref m_disk, .int (nI P), .int ((8224 : Int32) + ((26 : Int32) * (nI P))), .int (1 : Int32), .int 0, .int (-1 : Int32), .int 0, .int (0 : Int32), .ref m_tape, .int 0, .ref m_slots, .ref m_leaves, .int 0, .int 0, .ref m_fresh, .int 0, .int 0, .int 0, .ref m_digestAt, .ref m_isGroup, .ref m_counts, .int 0, .int 0, .long 0, .int 0, .ref m_versionRow, .int 0, .long 0, .ref m_state, .ref m_names, .int 0, .ref m_keptRow, .int 0, .ref m_inSlot, .ref m_inAt, .ref m_inSize, .ref m_inDigest, .int 0]))] sz)) 0 0 (va_A [(mo, .inr (11, [.ref m_disk, .int (nI P), .int ((8224 : Int32) + ((26 : Int32) * (nI P))), .int (1 : Int32), .int 0, .int (-1 : Int32), .int 0, .int (0 : Int32), .ref m_tape, .int 0, .ref m_slots, .ref m_leaves, .int 0, .int 0, .ref m_fresh, .int 0, .int 0, .int 0, .ref m_digestAt, .ref m_isGroup, .ref m_counts, .int 0, .int 0, .long 0, .int 0, .ref m_versionRow, .int 0, .long 0, .ref m_state, .ref m_names, .int 0, .ref m_keptRow, .int 0, .ref m_inSlot, .ref m_inAt, .ref m_inSize, .ref m_inDigest, .int 0]))] sz) := by
  refine Met.ofW (cc := cX9_certify) (maxL := 7) (ret := (some .int)) (by decide) rfl ?_
  intro p e s m args below meth c s₁ B hml hv
  obtain ⟨rfl, hsz, hP, hK, hD0⟩ := hv
  have hx := B.exec
  have hb := B.bytes
  have hr := B.returns
  have hts := atoms_spec (ws := wsX9_certify) B.pre
  have hown : s.vm.findClass RX9 = some m.cls := findClass_of_methodNamed B.named
  have hlocks := B.notSynchronized
  subst hsz
  have hD := hD0.self (sz := s.heap.size)
  generalize hAe : va_A [(mo, .inr (11, [.ref m_disk, .int (nI P), .int ((8224 : Int32) + ((26 : Int32) * (nI P))), .int (1 : Int32), .int 0, .int (-1 : Int32), .int 0, .int (0 : Int32), .ref m_tape, .int 0, .ref m_slots, .ref m_leaves, .int 0, .int 0, .ref m_fresh, .int 0, .int 0, .int 0, .ref m_digestAt, .ref m_isGroup, .ref m_counts, .int 0, .int 0, .long 0, .int 0, .ref m_versionRow, .int 0, .long 0, .ref m_state, .ref m_names, .int 0, .ref m_keptRow, .int 0, .ref m_inSlot, .ref m_inAt, .ref m_inSize, .ref m_inDigest, .int 0]))] s.heap.size = A at hD ⊢
  have hA : ∀ q : Nat, s.heap.size ≤ q → A q := fun q h => by rw [← hAe]; exact Or.inr h
  have hS : va_S A s.heap s.heap [] := va_S.rf
  have hl := lv_entry ([.ref mo, .long w0, .int p1]) (n := 7) (Nat.le_of_ble_eq_true rfl)
  rw [lg_entry_eq]
  generalize (lg_sl ([.ref mo, .long w0, .int p1]) ++ List.replicate (7 - (lg_sl ([.ref mo, .long w0, .int p1])).length) Slot.unset).toArray = ls at hl ⊢
  have hl : lv_has ls 7 [(0, .ref mo), (1, .long w0), (3, .int p1)] := hl
  refine lv_aload_n hx hb dX9_certify_0 rfl (lv_at hl 0 rfl) ?_
  refine lv_aload_n hx hb dX9_certify_1 rfl (lv_at hl 0 rfl) ?_
  refine va_get (D := (dC, dI)) (ci := 11) (v := .int (1 : Int32)) (C := RX9) (T := TX9) (N := 38) hx hb hts (by decide +kernel) hown hK hP 0 rfl rfl 3 (by decide) (hts (.fieldLink RX9 72 "BlockLogModel" "on" "Z") (by decide +kernel)) (fun _ h9 => h9) rfl dX9_certify_2 ?_
  refine lv_if_ne (tgt := 12) hx hb dX9_certify_5 (by decide) (fun c_1 => ?_) (fun c_1 => ?_)
  · skip
    refine lv_iload_n hx hb dX9_certify_12 rfl (lv_at hl 2 rfl) ?_
    refine lv_iconst (v := 0) hx hb dX9_certify_13 (by decide) ?_
    refine lv_bipush (v := 15) hx hb dX9_certify_14 (by decide) ?_
    have hPc := hP.sub (ws' := []) [] rfl
    have hKc := hK.sub (tys' := []) [] rfl
    refine vp_callSi (va_Run.run (va_runS (As := [.int p1, .int (0 : Int32), .int (15 : Int32)]) (rest := [.ref mo]) ⟨hx, hb, hml, hown, hts⟩ (k_X9_within_2 l dC dI p1 (0 : Int32) (15 : Int32) hf0 hf1) (va_cwS 3 hts gX9_certify_X9_within rfl rfl rfl (by decide +kernel) ⟨Nat.le_of_ble_eq_true rfl, Nat.le_of_ble_eq_true rfl⟩) ⟨fun a U g mk q => by obtain ⟨q0, qP, qK⟩ := q; exact ⟨q0, qP, va_K.moved (u := U) (U := U.calling g mk a) (Vm.Alike.refl U.vm) qK⟩, fun U hU hW => ⟨rfl, by rw [hU]; exact hPc, va_K.moved hW.alike hKc⟩⟩ rfl rfl hl.1 rfl (lv_room (Nat.le_of_ble_eq_true rfl)) dX9_certify_16 ⟨Nat.le_of_ble_eq_true rfl, Nat.le_of_ble_eq_true rfl⟩)) (fun r_2 er_2 => ?_)
    subst er_2
    refine lv_if_ne (tgt := 26) hx hb dX9_certify_19 (by decide) (fun c_3 => ?_) (fun c_3 => ?_)
    · skip
      exact absurd (by decide) c_3
    · skip
      refine lv_iconst (v := 2) hx hb dX9_certify_22 (by decide) ?_
      refine lv_goto (tgt := 27) hx hb dX9_certify_23 (by decide) ?_
      refine va_put (D := (dC, dI)) (ci := 11) (v := .int (2 : Int32)) (ty := .int) (C := RX9) (T := TX9) (N := 38) hx hb hts (by decide +kernel) tyX9 tyX9_ok nmX9 hown hK hP hD hS 0 rfl rfl 13 (by decide) (hts (.fieldLink RX9 91 "BlockLogModel" "thrown" "I") (by decide +kernel)) (fun _ h9 => h9) rfl (by decide +kernel) rfl rfl (Nat.le_of_ble_eq_true rfl) dX9_certify_27 (fun H locs hP hD hS => ?_)
      have hP : va_P (dC, dI) vwCl [(mo, .inr (11, [.ref m_disk, .int (nI P), .int ((8224 : Int32) + ((26 : Int32) * (nI P))), .int (1 : Int32), .int 0, .int (-1 : Int32), .int 0, .int (0 : Int32), .ref m_tape, .int 0, .ref m_slots, .ref m_leaves, .int 0, .int (2 : Int32), .ref m_fresh, .int 0, .int 0, .int 0, .ref m_digestAt, .ref m_isGroup, .ref m_counts, .int 0, .int 0, .long 0, .int 0, .ref m_versionRow, .int 0, .long 0, .ref m_state, .ref m_names, .int 0, .ref m_keptRow, .int 0, .ref m_inSlot, .ref m_inAt, .ref m_inSize, .ref m_inDigest, .int 0]))] H := hP
      have hD : va_D A [(mo, .inr (11, [.ref m_disk, .int (nI P), .int ((8224 : Int32) + ((26 : Int32) * (nI P))), .int (1 : Int32), .int 0, .int (-1 : Int32), .int 0, .int (0 : Int32), .ref m_tape, .int 0, .ref m_slots, .ref m_leaves, .int 0, .int (2 : Int32), .ref m_fresh, .int 0, .int 0, .int 0, .ref m_digestAt, .ref m_isGroup, .ref m_counts, .int 0, .int 0, .long 0, .int 0, .ref m_versionRow, .int 0, .long 0, .ref m_state, .ref m_names, .int 0, .ref m_keptRow, .int 0, .ref m_inSlot, .ref m_inAt, .ref m_inSize, .ref m_inDigest, .int 0]))] := hD
      refine lv_aload_n hx hb dX9_certify_30 rfl (lv_at hl 0 rfl) ?_
      refine va_get (D := (dC, dI)) (ci := 11) (v := .int (2 : Int32)) (C := RX9) (T := TX9) (N := 38) hx hb hts (by decide +kernel) hown hK hP 0 rfl rfl 13 (by decide) (hts (.fieldLink RX9 91 "BlockLogModel" "thrown" "I") (by decide +kernel)) (fun _ h9 => h9) rfl dX9_certify_31 ?_
      refine lv_if_le (tgt := 39) hx hb dX9_certify_34 (by decide) (fun c_4 => ?_) (fun c_4 => ?_)
      · skip
        exact absurd c_4 (by decide)
      · skip
        refine lv_iconst (v := 0) hx hb dX9_certify_37 (by decide) ?_
        have hP := hP.sub (ws' := [(mo, .inr (11, [.ref m_disk, .int (nI P), .int ((8224 : Int32) + ((26 : Int32) * (nI P))), .int (1 : Int32), .int 0, .int (-1 : Int32), .int 0, .int (0 : Int32), .ref m_tape, .int 0, .ref m_slots, .ref m_leaves, .int 0, .int (2 : Int32), .ref m_fresh, .int 0, .int 0, .int 0, .ref m_digestAt, .ref m_isGroup, .ref m_counts, .int 0, .int 0, .long 0, .int 0, .ref m_versionRow, .int 0, .long 0, .ref m_state, .ref m_names, .int 0, .ref m_keptRow, .int 0, .ref m_inSlot, .ref m_inAt, .ref m_inSize, .ref m_inDigest, .int 0]))]) [0] rfl
        have hD := hD.sub (ws' := [(mo, .inr (11, [.ref m_disk, .int (nI P), .int ((8224 : Int32) + ((26 : Int32) * (nI P))), .int (1 : Int32), .int 0, .int (-1 : Int32), .int 0, .int (0 : Int32), .ref m_tape, .int 0, .ref m_slots, .ref m_leaves, .int 0, .int (2 : Int32), .ref m_fresh, .int 0, .int 0, .int 0, .ref m_digestAt, .ref m_isGroup, .ref m_counts, .int 0, .int 0, .long 0, .int 0, .ref m_versionRow, .int 0, .long 0, .ref m_state, .ref m_names, .int 0, .ref m_keptRow, .int 0, .ref m_inSlot, .ref m_inAt, .ref m_inSize, .ref m_inDigest, .int 0]))]) [0] (by decide) rfl
        have hK := hK.sub (tys' := []) [] rfl
        exact W.iret hx hb hr (fun t ht hW => ⟨⟨_, (), rfl, rfl, by rw [ht]; exact hP, va_K.moved hW.alike hK, hD⟩, hS.F ht⟩) hS.2.2 dX9_certify_38
  · skip
    exact absurd c_1 (by decide)

set_option maxHeartbeats 4000000 in
set_option maxRecDepth 100000 in
theorem k_X8_certify_3 (l : Launch) (dC : Nat → ClassId) (dI : Nat → Nat → Nat) (x : Nat) (w0 : Int64) (p1 : Int32) (rr : Nat) (ds : Nat) (so : Nat) (tp : Nat) (pu : Nat) (sn : Nat) (im : Nat) (cs : Nat) (cl : Nat) (ri : Nat) (pg : Int32) (dl : Nat) (dr : Nat) (dt : Nat) (s1 : Nat) (s2 : Nat) (s3 : Nat) (s4 : Nat) (s5 : Nat) (s6 : Nat) (hf0 : 0 ≤ p1) (hf1 : p1 ≤ 15) (hf2 : lg_cmp w0 (0) < 0) (hf3 : 0 ≤ lg_cmp w0 (-128)) : Met l yX8_certify wsX8_certify ({ frames := 2, cells := 0, slots := 0, locals := 43 }) (va_Pc [.ref x, .long w0, .int p1] (fun U => va_P (dC, dI) vwCl [(x, .inr (10, [.ref tp, .ref ds, .ref rr, .ref so, .ref pu, .ref sn, .ref im, .ref cs, .ref cl, .int (0 : Int32)])), (rr, .inr (6, [.ref ds, .ref ri, .int 0, .int 1, .int 0, .int 0])), (ds, .inr (3, [.int pg, .ref dl, .ref dr, .ref dt, .int (1 : Int32), .int (-1 : Int32), .int (0 : Int32)])), (so, .inr (8, [.ref rr, .ref s1, .ref s2, .ref s3, .ref s4, .ref s5, .ref s6, .int (0 : Int32), .int (0 : Int32), .int (-1 : Int32), .int (0 : Int32), .int (0 : Int32)]))] U.heap ∧ va_K (dC, dI) vwCl [] U ∧ gx_W U)) (vp_Si (fun r => r = (-6 : Int32))) 0 0 (fun _ => False) := by
  refine Met.ofW (cc := cX8_certify) (maxL := 8) (ret := (some .int)) (by decide) rfl ?_
  intro p e s m args below meth c s₁ B hml hv
  obtain ⟨rfl, hP, hK, hG⟩ := hv
  have hx := B.exec
  have hb := B.bytes
  have hr := B.returns
  have hts := atoms_spec (ws := wsX8_certify) B.pre
  have hown : s.vm.findClass RX8 = some m.cls := findClass_of_methodNamed B.named
  have hlocks := B.notSynchronized
  have hl := lv_entry ([.ref x, .long w0, .int p1]) (n := 8) (Nat.le_of_ble_eq_true rfl)
  rw [lg_entry_eq]
  generalize (lg_sl ([.ref x, .long w0, .int p1]) ++ List.replicate (8 - (lg_sl ([.ref x, .long w0, .int p1])).length) Slot.unset).toArray = ls at hl ⊢
  have hl : lv_has ls 8 [(0, .ref x), (1, .long w0), (3, .int p1)] := hl
  refine lv_aload_n hx hb dX8_certify_0 rfl (lv_at hl 0 rfl) ?_
  have hPc := hP.sub (ws' := [(x, .inr (10, [.ref tp, .ref ds, .ref rr, .ref so, .ref pu, .ref sn, .ref im, .ref cs, .ref cl, .int (0 : Int32)])), (ds, .inr (3, [.int pg, .ref dl, .ref dr, .ref dt, .int (1 : Int32), .int (-1 : Int32), .int (0 : Int32)]))]) [0, 2] rfl
  have hKc := hK.sub (tys' := []) [] rfl
  refine va_csv (va_Run.run (va_runV (As := []) (rest := []) ⟨hx, hb, hml, hown, hts⟩ (k_X8_demandPower_1 l dC dI x ds tp rr so pu sn im cs cl pg dl dr dt) (cwV 0 hts gX8_certify_X8_demandPower rfl rfl rfl (by decide +kernel) ⟨Nat.le_of_ble_eq_true rfl, Nat.le_of_ble_eq_true rfl⟩) ⟨fun a U g mk q => by obtain ⟨q0, qP, qK, qG⟩ := q; exact ⟨q0, qP, va_K.moved (u := U) (U := U.calling g mk a) (Vm.Alike.refl U.vm) qK, qG.same rfl⟩, va_recv hK hP (ci := 10) (q := (RX8, TX8, 10)) rfl (q0 := 0) rfl, fun U hU hW => ⟨rfl, by rw [hU]; exact hPc, va_K.moved hW.alike hKc, hG.warm hW⟩⟩ rfl rfl hl.1 rfl (lv_room (Nat.le_of_ble_eq_true rfl)) dX8_certify_1 ⟨Nat.le_of_ble_eq_true rfl, Nat.le_of_ble_eq_true rfl⟩)) (fun _ => ?_)
  refine lv_iload_n hx hb dX8_certify_4 rfl (lv_at hl 2 rfl) ?_
  refine lv_if_lt (tgt := 14) hx hb dX8_certify_5 (by decide) (fun c_2 => ?_) (fun c_2 => ?_)
  · skip
    exact absurd c_2 (Int32.not_lt.mpr hf0)
  · skip
    refine lv_iload_n hx hb dX8_certify_8 rfl (lv_at hl 2 rfl) ?_
    refine lv_bipush (v := 15) hx hb dX8_certify_9 (by decide) ?_
    refine lv_icmp_le (tgt := 24) hx hb dX8_certify_11 (by decide) (fun c_3 => ?_) (fun c_3 => ?_)
    · skip
      refine lv_aload_n hx hb dX8_certify_24 rfl (lv_at hl 0 rfl) ?_
      refine va_get (D := (dC, dI)) (ci := 10) (v := .ref rr) (C := RX8) (T := TX8) (N := 10) hx hb hts (by decide +kernel) hown hK hP 0 rfl rfl 2 (by decide) (hts (.fieldLink RX8 31 "BlockLog" "rows" "LBlockLog$Rows;") (by decide +kernel)) (fun _ h9 => h9) rfl dX8_certify_25 ?_
      have hPc := hP.sub (ws' := [(rr, .inr (6, [.ref ds, .ref ri, .int 0, .int 1, .int 0, .int 0]))]) [1] rfl
      have hKc := hK.sub (tys' := []) [] rfl
      refine vp_callSi (va_Run.run (va_runV (As := []) (rest := []) ⟨hx, hb, hml, hown, hts⟩ (k_X4_inNeed_1 l dC dI rr ds ri) (cwV 0 hts gX8_certify_X4_inNeed rfl rfl rfl (by decide +kernel) ⟨Nat.le_of_ble_eq_true rfl, Nat.le_of_ble_eq_true rfl⟩) ⟨fun a U g mk q => by obtain ⟨q0, qP, qK⟩ := q; exact ⟨q0, qP, va_K.moved (u := U) (U := U.calling g mk a) (Vm.Alike.refl U.vm) qK⟩, va_recv hK hP (ci := 6) (q := (RX4, TX4, 6)) rfl (q0 := 1) rfl, fun U hU hW => ⟨rfl, by rw [hU]; exact hPc, va_K.moved hW.alike hKc⟩⟩ rfl rfl hl.1 rfl (lv_room (Nat.le_of_ble_eq_true rfl)) dX8_certify_28 ⟨Nat.le_of_ble_eq_true rfl, Nat.le_of_ble_eq_true rfl⟩)) (fun r_4 er_4 => ?_)
      subst er_4
      refine lv_if_eq (tgt := 37) hx hb dX8_certify_31 (by decide) (fun c_5 => ?_) (fun c_5 => ?_)
      · skip
        refine lv_aload_n hx hb dX8_certify_37 rfl (lv_at hl 0 rfl) ?_
        refine va_get (D := (dC, dI)) (ci := 10) (v := .ref so) (C := RX8) (T := TX8) (N := 10) hx hb hts (by decide +kernel) hown hK hP 0 rfl rfl 3 (by decide) (hts (.fieldLink RX8 40 "BlockLog" "story" "LBlockLog$Story;") (by decide +kernel)) (fun _ h9 => h9) rfl dX8_certify_38 ?_
        refine lv_lload_n hx hb dX8_certify_41 rfl (lv_at hl 1 rfl) ?_
        have hPc := hP.sub (ws' := [(so, .inr (8, [.ref rr, .ref s1, .ref s2, .ref s3, .ref s4, .ref s5, .ref s6, .int (0 : Int32), .int (0 : Int32), .int (-1 : Int32), .int (0 : Int32), .int (0 : Int32)]))]) [3] rfl
        have hKc := hK.sub (tys' := []) [] rfl
        refine vp_callSl (va_Run.run (va_runV (As := [.long w0]) (rest := []) ⟨hx, hb, hml, hown, hts⟩ (k_X6_meant_1 l dC dI so w0 rr s1 s2 s3 s4 s5 s6 hf2 hf3) (cwV 1 hts gX8_certify_X6_meant rfl rfl rfl (by decide +kernel) ⟨Nat.le_of_ble_eq_true rfl, Nat.le_of_ble_eq_true rfl⟩) ⟨fun a U g mk q => by obtain ⟨q0, qP, qK⟩ := q; exact ⟨q0, qP, va_K.moved (u := U) (U := U.calling g mk a) (Vm.Alike.refl U.vm) qK⟩, va_recv hK hP (ci := 8) (q := (RX6, TX6, 12)) rfl (q0 := 3) rfl, fun U hU hW => ⟨rfl, by rw [hU]; exact hPc, va_K.moved hW.alike hKc⟩⟩ rfl rfl hl.1 rfl (lv_room (Nat.le_of_ble_eq_true rfl)) dX8_certify_42 ⟨Nat.le_of_ble_eq_true rfl, Nat.le_of_ble_eq_true rfl⟩)) (fun r_6 er_6 => ?_)
        subst er_6
        refine lv_lstore (lv' := [(4, .long (0 : Int64)), (0, .ref x), (1, .long w0), (3, .int p1)]) hx hb dX8_certify_45 hl (by decide) rfl (fun ls hl => ?_)
        refine lv_aload_n hx hb dX8_certify_47 rfl (lv_at hl 1 rfl) ?_
        refine va_get (D := (dC, dI)) (ci := 10) (v := .ref so) (C := RX8) (T := TX8) (N := 10) hx hb hts (by decide +kernel) hown hK hP 0 rfl rfl 3 (by decide) (hts (.fieldLink RX8 40 "BlockLog" "story" "LBlockLog$Story;") (by decide +kernel)) (fun _ h9 => h9) rfl dX8_certify_48 ?_
        refine lv_lload hx hb dX8_certify_51 (lv_at hl 0 rfl) ?_
        have hPc := hP.sub (ws' := []) [] rfl
        have hKc := hK.sub (tys' := []) [] rfl
        refine vp_callSi (va_Run.run (va_runV (As := [.long (0 : Int64)]) (rest := []) ⟨hx, hb, hml, hown, hts⟩ (k_X6_blockRow_1 l dC dI so) (cwV 1 hts gX8_certify_X6_blockRow rfl rfl rfl (by decide +kernel) ⟨Nat.le_of_ble_eq_true rfl, Nat.le_of_ble_eq_true rfl⟩) ⟨fun a U g mk q => by obtain ⟨q0, qP, qK⟩ := q; exact ⟨q0, qP, va_K.moved (u := U) (U := U.calling g mk a) (Vm.Alike.refl U.vm) qK⟩, va_recv hK hP (ci := 8) (q := (RX6, TX6, 12)) rfl (q0 := 3) rfl, fun U hU hW => ⟨rfl, by rw [hU]; exact hPc, va_K.moved hW.alike hKc⟩⟩ rfl rfl hl.1 rfl (lv_room (Nat.le_of_ble_eq_true rfl)) dX8_certify_53 ⟨Nat.le_of_ble_eq_true rfl, Nat.le_of_ble_eq_true rfl⟩)) (fun r_7 er_7 => ?_)
        subst er_7
        refine lv_istore (lv' := [(6, .int (-1 : Int32)), (4, .long (0 : Int64)), (0, .ref x), (1, .long w0), (3, .int p1)]) hx hb dX8_certify_56 hl (by decide) rfl (fun ls hl => ?_)
        refine lv_iload hx hb dX8_certify_58 (lv_at hl 0 rfl) ?_
        refine lv_iconst (v := (-1)) hx hb dX8_certify_60 (by decide) ?_
        refine lv_icmp_ne (tgt := 67) hx hb dX8_certify_61 (by decide) (fun c_8 => ?_) (fun c_8 => ?_)
        · skip
          exact absurd (by decide) c_8
        · skip
          refine lv_bipush (v := (-6)) hx hb dX8_certify_64 (by decide) ?_
          exact W.iret hx hb hr (fun t ht hW => ⟨_, rfl, rfl, ht⟩) (fun q h => by cases h) dX8_certify_66
      · skip
        exact absurd (by decide) c_5
    · skip
      exact absurd hf1 c_3

set_option maxHeartbeats 4000000 in
set_option maxRecDepth 100000 in
theorem k_L_certify_3 (l : Launch) (dC : Nat → ClassId) (dI : Nat → Nat → Nat) (x : Nat) (w0 : Int64) (p1 : Int32) (ho : Nat) (rr : Nat) (ds : Nat) (so : Nat) (tp : Nat) (pu : Nat) (sn : Nat) (im : Nat) (cs : Nat) (cl : Nat) (ri : Nat) (pg : Int32) (dl : Nat) (dr : Nat) (dt : Nat) (s1 : Nat) (s2 : Nat) (s3 : Nat) (s4 : Nat) (s5 : Nat) (s6 : Nat) (cJ : ClassId) (g1 : Nat → Int64) (sz : Nat) (hf0 : 0 ≤ p1) (hf1 : p1 ≤ 15) (hf2 : lg_cmp w0 (0) < 0) (hf3 : 0 ≤ lg_cmp w0 (-128)) : Met l yL_certify wsL_certify ({ frames := 3, cells := 0, slots := 0, locals := 70 }) (va_Pc [.ref x, .long w0, .int p1, .ref ho] (fun U => U.heap.size = sz ∧ va_P (dC, dI) vwCl [(x, .inr (10, [.ref tp, .ref ds, .ref rr, .ref so, .ref pu, .ref sn, .ref im, .ref cs, .ref cl, .int (0 : Int32)])), (rr, .inr (6, [.ref ds, .ref ri, .int 0, .int 1, .int 0, .int 0])), (ds, .inr (3, [.int pg, .ref dl, .ref dr, .ref dt, .int (1 : Int32), .int (-1 : Int32), .int (0 : Int32)])), (so, .inr (8, [.ref rr, .ref s1, .ref s2, .ref s3, .ref s4, .ref s5, .ref s6, .int (0 : Int32), .int (0 : Int32), .int (-1 : Int32), .int (0 : Int32), .int (0 : Int32)])), (ho, .inl (cJ, 1, .inr (.inl g1)))] U.heap ∧ va_K (dC, dI) vwCl [(cJ, .long)] U ∧ va_D (fun _ => True) [(x, .inr (10, [.ref tp, .ref ds, .ref rr, .ref so, .ref pu, .ref sn, .ref im, .ref cs, .ref cl, .int (0 : Int32)])), (rr, .inr (6, [.ref ds, .ref ri, .int 0, .int 1, .int 0, .int 0])), (ds, .inr (3, [.int pg, .ref dl, .ref dr, .ref dt, .int (1 : Int32), .int (-1 : Int32), .int (0 : Int32)])), (so, .inr (8, [.ref rr, .ref s1, .ref s2, .ref s3, .ref s4, .ref s5, .ref s6, .int (0 : Int32), .int (0 : Int32), .int (-1 : Int32), .int (0 : Int32), .int (0 : Int32)])), (ho, .inl (cJ, 1, .inr (.inl g1)))] ∧ gx_E (va_A [(x, .inr (10, [.ref tp, .ref ds, .ref rr, .ref so, .ref pu, .ref sn, .ref im, .ref cs, .ref cl, .int (0 : Int32)])), (rr, .inr (6, [.ref ds, .ref ri, .int 0, .int 1, .int 0, .int 0])), (ds, .inr (3, [.int pg, .ref dl, .ref dr, .ref dt, .int (1 : Int32), .int (-1 : Int32), .int (0 : Int32)])), (so, .inr (8, [.ref rr, .ref s1, .ref s2, .ref s3, .ref s4, .ref s5, .ref s6, .int (0 : Int32), .int (0 : Int32), .int (-1 : Int32), .int (0 : Int32), .int (0 : Int32)])), (ho, .inl (cJ, 1, .inr (.inl g1)))] sz) U)) (va_Qi (fun r (_ : Unit) => r = (0 : Int32)) (fun (_ : Unit) t => va_P (dC, dI) vwCl [(ho, .inl (cJ, 1, .inr (.inl (vp_updL g1 (0 : Int32).toNatClampNeg ((-6 : Int32).toInt64)))))] t.heap ∧ va_K (dC, dI) vwCl [(cJ, .long)] t ∧ va_D (va_A [(x, .inr (10, [.ref tp, .ref ds, .ref rr, .ref so, .ref pu, .ref sn, .ref im, .ref cs, .ref cl, .int (0 : Int32)])), (rr, .inr (6, [.ref ds, .ref ri, .int 0, .int 1, .int 0, .int 0])), (ds, .inr (3, [.int pg, .ref dl, .ref dr, .ref dt, .int (1 : Int32), .int (-1 : Int32), .int (0 : Int32)])), (so, .inr (8, [.ref rr, .ref s1, .ref s2, .ref s3, .ref s4, .ref s5, .ref s6, .int (0 : Int32), .int (0 : Int32), .int (-1 : Int32), .int (0 : Int32), .int (0 : Int32)])), (ho, .inl (cJ, 1, .inr (.inl g1)))] sz) [(ho, .inl (cJ, 1, .inr (.inl (vp_updL g1 (0 : Int32).toNatClampNeg ((-6 : Int32).toInt64)))))]) (va_A [(x, .inr (10, [.ref tp, .ref ds, .ref rr, .ref so, .ref pu, .ref sn, .ref im, .ref cs, .ref cl, .int (0 : Int32)])), (rr, .inr (6, [.ref ds, .ref ri, .int 0, .int 1, .int 0, .int 0])), (ds, .inr (3, [.int pg, .ref dl, .ref dr, .ref dt, .int (1 : Int32), .int (-1 : Int32), .int (0 : Int32)])), (so, .inr (8, [.ref rr, .ref s1, .ref s2, .ref s3, .ref s4, .ref s5, .ref s6, .int (0 : Int32), .int (0 : Int32), .int (-1 : Int32), .int (0 : Int32), .int (0 : Int32)])), (ho, .inl (cJ, 1, .inr (.inl g1)))] sz)) 0 0 (va_A [(x, .inr (10, [.ref tp, .ref ds, .ref rr, .ref so, .ref pu, .ref sn, .ref im, .ref cs, .ref cl, .int (0 : Int32)])), (rr, .inr (6, [.ref ds, .ref ri, .int 0, .int 1, .int 0, .int 0])), (ds, .inr (3, [.int pg, .ref dl, .ref dr, .ref dt, .int (1 : Int32), .int (-1 : Int32), .int (0 : Int32)])), (so, .inr (8, [.ref rr, .ref s1, .ref s2, .ref s3, .ref s4, .ref s5, .ref s6, .int (0 : Int32), .int (0 : Int32), .int (-1 : Int32), .int (0 : Int32), .int (0 : Int32)])), (ho, .inl (cJ, 1, .inr (.inl g1)))] sz) := by
  refine va_MetW (cc := cL_certify) (maxL := 6) (ret := (some .int)) (hh := [(0, 11, 14, 25), (0, 11, 18, 13)]) (by decide) rfl ?_
  intro p e s m args below meth c s₁ B hml hv
  obtain ⟨rfl, hsz, hP, hK, hD0, hG⟩ := hv
  have hx := B.exec
  have hb := B.bytes
  have hr := B.returns
  have hts := atoms_spec (ws := wsL_certify) B.pre
  have hown : s.vm.findClass RL = some m.cls := findClass_of_methodNamed B.named
  have hlocks := B.notSynchronized
  have htab := vx_table (x := yL_certify) B (hts (.codeWith yL_certify cL_certify 6 (some .int) [(0, 11, 14, 25), (0, 11, 18, 13)]) List.mem_cons_self)
  subst hsz
  have hD := hD0.self (sz := s.heap.size)
  generalize hAe : va_A [(x, .inr (10, [.ref tp, .ref ds, .ref rr, .ref so, .ref pu, .ref sn, .ref im, .ref cs, .ref cl, .int (0 : Int32)])), (rr, .inr (6, [.ref ds, .ref ri, .int 0, .int 1, .int 0, .int 0])), (ds, .inr (3, [.int pg, .ref dl, .ref dr, .ref dt, .int (1 : Int32), .int (-1 : Int32), .int (0 : Int32)])), (so, .inr (8, [.ref rr, .ref s1, .ref s2, .ref s3, .ref s4, .ref s5, .ref s6, .int (0 : Int32), .int (0 : Int32), .int (-1 : Int32), .int (0 : Int32), .int (0 : Int32)])), (ho, .inl (cJ, 1, .inr (.inl g1)))] s.heap.size = A at hD hG ⊢
  have hA : ∀ q : Nat, s.heap.size ≤ q → A q := fun q h => by rw [← hAe]; exact Or.inr h
  have hS : va_S A s.heap s.heap [] := va_S.rf
  have hl := lv_entry ([.ref x, .long w0, .int p1, .ref ho]) (n := 6) (Nat.le_of_ble_eq_true rfl)
  rw [lg_entry_eq]
  generalize (lg_sl ([.ref x, .long w0, .int p1, .ref ho]) ++ List.replicate (6 - (lg_sl ([.ref x, .long w0, .int p1, .ref ho])).length) Slot.unset).toArray = ls at hl ⊢
  have hl : lv_has ls 6 [(0, .ref x), (1, .long w0), (3, .int p1), (4, .ref ho)] := hl
  refine lv_aload hx hb dL_certify_0 (lv_at hl 3 rfl) ?_
  refine lv_iconst (v := 0) hx hb dL_certify_2 (by decide) ?_
  refine lv_aload_n hx hb dL_certify_3 rfl (lv_at hl 0 rfl) ?_
  refine lv_lload_n hx hb dL_certify_4 rfl (lv_at hl 1 rfl) ?_
  refine lv_iload_n hx hb dL_certify_5 rfl (lv_at hl 2 rfl) ?_
  have hPc := hP.sub (ws' := [(x, .inr (10, [.ref tp, .ref ds, .ref rr, .ref so, .ref pu, .ref sn, .ref im, .ref cs, .ref cl, .int (0 : Int32)])), (rr, .inr (6, [.ref ds, .ref ri, .int 0, .int 1, .int 0, .int 0])), (ds, .inr (3, [.int pg, .ref dl, .ref dr, .ref dt, .int (1 : Int32), .int (-1 : Int32), .int (0 : Int32)])), (so, .inr (8, [.ref rr, .ref s1, .ref s2, .ref s3, .ref s4, .ref s5, .ref s6, .int (0 : Int32), .int (0 : Int32), .int (-1 : Int32), .int (0 : Int32), .int (0 : Int32)]))]) [0, 1, 2, 3] rfl
  have hKc := hK.sub (tys' := []) [] rfl
  refine vp_callSi (va_Run.run (va_runV (As := [.long w0, .int p1]) (rest := [.int (0 : Int32), .ref ho]) ⟨hx, hb, hml, hown, hts⟩ (k_X8_certify_3 l dC dI x w0 p1 rr ds so tp pu sn im cs cl ri pg dl dr dt s1 s2 s3 s4 s5 s6 hf0 hf1 hf2 hf3) (cwV 2 hts gL_certify_X8_certify rfl rfl rfl (by decide +kernel) ⟨Nat.le_of_ble_eq_true rfl, Nat.le_of_ble_eq_true rfl⟩) ⟨fun a U g mk q => by obtain ⟨q0, qP, qK, qG⟩ := q; exact ⟨q0, qP, va_K.moved (u := U) (U := U.calling g mk a) (Vm.Alike.refl U.vm) qK, qG.same rfl⟩, va_recv hK hP (ci := 10) (q := (RX8, TX8, 10)) rfl (q0 := 0) rfl, fun U hU hW => ⟨rfl, by rw [hU]; exact hPc, va_K.moved hW.alike hKc, hG.1.warm hW⟩⟩ rfl rfl hl.1 rfl (lv_room (Nat.le_of_ble_eq_true rfl)) dL_certify_6 ⟨Nat.le_of_ble_eq_true rfl, Nat.le_of_ble_eq_true rfl⟩)) (fun r_1 er_1 => ?_)
  subst er_1
  refine lv_i2l hx hb dL_certify_9 rfl ?_
  refine va_last hx hb hK hP hD hS 4 0 rfl rfl (by unfold vp_in; decide +kernel) dL_certify_10 (fun H locs hP hD hS => ?_)
  have hP : va_P (dC, dI) vwCl [(x, .inr (10, [.ref tp, .ref ds, .ref rr, .ref so, .ref pu, .ref sn, .ref im, .ref cs, .ref cl, .int (0 : Int32)])), (rr, .inr (6, [.ref ds, .ref ri, .int 0, .int 1, .int 0, .int 0])), (ds, .inr (3, [.int pg, .ref dl, .ref dr, .ref dt, .int (1 : Int32), .int (-1 : Int32), .int (0 : Int32)])), (so, .inr (8, [.ref rr, .ref s1, .ref s2, .ref s3, .ref s4, .ref s5, .ref s6, .int (0 : Int32), .int (0 : Int32), .int (-1 : Int32), .int (0 : Int32), .int (0 : Int32)])), (ho, .inl (cJ, 1, .inr (.inl (vp_updL g1 (0 : Int32).toNatClampNeg ((-6 : Int32).toInt64)))))] H := hP
  have hD : va_D A [(x, .inr (10, [.ref tp, .ref ds, .ref rr, .ref so, .ref pu, .ref sn, .ref im, .ref cs, .ref cl, .int (0 : Int32)])), (rr, .inr (6, [.ref ds, .ref ri, .int 0, .int 1, .int 0, .int 0])), (ds, .inr (3, [.int pg, .ref dl, .ref dr, .ref dt, .int (1 : Int32), .int (-1 : Int32), .int (0 : Int32)])), (so, .inr (8, [.ref rr, .ref s1, .ref s2, .ref s3, .ref s4, .ref s5, .ref s6, .int (0 : Int32), .int (0 : Int32), .int (-1 : Int32), .int (0 : Int32), .int (0 : Int32)])), (ho, .inl (cJ, 1, .inr (.inl (vp_updL g1 (0 : Int32).toNatClampNeg ((-6 : Int32).toInt64)))))] := hD
  refine lv_goto (tgt := 22) hx hb dL_certify_11 (by decide) ?_
  refine lv_iconst (v := 0) hx hb dL_certify_22 (by decide) ?_
  have hP := hP.sub (ws' := [(ho, .inl (cJ, 1, .inr (.inl (vp_updL g1 (0 : Int32).toNatClampNeg ((-6 : Int32).toInt64)))))]) [4] rfl
  have hD := hD.sub (ws' := [(ho, .inl (cJ, 1, .inr (.inl (vp_updL g1 (0 : Int32).toNatClampNeg ((-6 : Int32).toInt64)))))]) [4] (by decide) rfl
  have hK := hK.sub (tys' := [(cJ, .long)]) [0] rfl
  exact W.iret hx hb hr (fun t ht hW => ⟨⟨_, (), rfl, rfl, by rw [ht]; exact hP, va_K.moved hW.alike hK, hD⟩, hS.F ht⟩) hS.2.2 dL_certify_23

set_option maxHeartbeats 4000000 in
set_option maxRecDepth 100000 in
theorem k_X9_certify_3 (l : Launch) (dC : Nat → ClassId) (dI : Nat → Nat → Nat) (mo : Nat) (w0 : Int64) (p1 : Int32) (m_digestAt : Nat) (m_isGroup : Nat) (m_counts : Nat) (m_disk : Nat) (P : Nat) (m_tape : Nat) (m_slots : Nat) (m_leaves : Nat) (m_fresh : Nat) (m_versionRow : Nat) (m_state : Nat) (m_names : Nat) (m_keptRow : Nat) (m_inSlot : Nat) (m_inAt : Nat) (m_inSize : Nat) (m_inDigest : Nat) (d_digestAt : ClassId) (d_isGroup : ClassId) (d_counts : ClassId) (sz : Nat) (hf0 : 0 ≤ p1) (hf1 : p1 ≤ 15) (hf2 : 0 ≤ lg_cmp w0 (-128)) (hf3 : lg_cmp w0 (-1) ≤ 0) (hf4 : 0 ≤ (-1 - w0).toInt32) : Met l yX9_certify wsX9_certify ({ frames := 3, cells := 0, slots := 0, locals := 65 }) (va_Pc [.ref mo, .long w0, .int p1] (fun U => U.heap.size = sz ∧ va_P (dC, dI) vwCl [(mo, .inr (11, [.ref m_disk, .int (nI P), .int ((8224 : Int32) + ((26 : Int32) * (nI P))), .int (1 : Int32), .int 0, .int (-1 : Int32), .int 0, .int (0 : Int32), .ref m_tape, .int 0, .ref m_slots, .ref m_leaves, .int 0, .int 0, .ref m_fresh, .int 0, .int 0, .int 0, .ref m_digestAt, .ref m_isGroup, .ref m_counts, .int 0, .int 0, .long 0, .int 0, .ref m_versionRow, .int 0, .long 0, .ref m_state, .ref m_names, .int 0, .ref m_keptRow, .int 0, .ref m_inSlot, .ref m_inAt, .ref m_inSize, .ref m_inDigest, .int 0])), (m_digestAt, .inl (d_digestAt, 128, .inr (.inl (fun _ => 0)))), (m_isGroup, .inl (d_isGroup, 128, .inl (fun _ => 0))), (m_counts, .inl (d_counts, 128, .inl (fun _ => 0)))] U.heap ∧ va_K (dC, dI) vwCl [(d_digestAt, .long), (d_isGroup, .boolean), (d_counts, .boolean)] U ∧ va_D (fun _ => True) [(mo, .inr (11, [.ref m_disk, .int (nI P), .int ((8224 : Int32) + ((26 : Int32) * (nI P))), .int (1 : Int32), .int 0, .int (-1 : Int32), .int 0, .int (0 : Int32), .ref m_tape, .int 0, .ref m_slots, .ref m_leaves, .int 0, .int 0, .ref m_fresh, .int 0, .int 0, .int 0, .ref m_digestAt, .ref m_isGroup, .ref m_counts, .int 0, .int 0, .long 0, .int 0, .ref m_versionRow, .int 0, .long 0, .ref m_state, .ref m_names, .int 0, .ref m_keptRow, .int 0, .ref m_inSlot, .ref m_inAt, .ref m_inSize, .ref m_inDigest, .int 0])), (m_digestAt, .inl (d_digestAt, 128, .inr (.inl (fun _ => 0)))), (m_isGroup, .inl (d_isGroup, 128, .inl (fun _ => 0))), (m_counts, .inl (d_counts, 128, .inl (fun _ => 0)))])) (va_Qi (fun r (_ : Unit) => r = (-6 : Int32)) (fun (_ : Unit) t => va_P (dC, dI) vwCl [(mo, .inr (11, [.ref m_disk, .int (nI P), .int ((8224 : Int32) + ((26 : Int32) * (nI P))), .int (1 : Int32), .int 0, .int (-1 : Int32), .int 0, .int (0 : Int32), .ref m_tape, .int 0, .ref m_slots, .ref m_leaves, .int 0, .int 0, .ref m_fresh, .int 0, .int (0 : Int32), .int (0 : Int32), .ref m_digestAt, .ref m_isGroup, .ref m_counts, .int (-1 : Int32), .int (0 : Int32), .long (0 : Int64), .int (0 : Int32), .ref m_versionRow, .int (0 : Int32), .long (0 : Int64), .ref m_state, .ref m_names, .int 0, .ref m_keptRow, .int 0, .ref m_inSlot, .ref m_inAt, .ref m_inSize, .ref m_inDigest, .int 0]))] t.heap ∧ va_K (dC, dI) vwCl [(d_digestAt, .long), (d_isGroup, .boolean), (d_counts, .boolean)] t ∧ va_D (va_A [(mo, .inr (11, [.ref m_disk, .int (nI P), .int ((8224 : Int32) + ((26 : Int32) * (nI P))), .int (1 : Int32), .int 0, .int (-1 : Int32), .int 0, .int (0 : Int32), .ref m_tape, .int 0, .ref m_slots, .ref m_leaves, .int 0, .int 0, .ref m_fresh, .int 0, .int 0, .int 0, .ref m_digestAt, .ref m_isGroup, .ref m_counts, .int 0, .int 0, .long 0, .int 0, .ref m_versionRow, .int 0, .long 0, .ref m_state, .ref m_names, .int 0, .ref m_keptRow, .int 0, .ref m_inSlot, .ref m_inAt, .ref m_inSize, .ref m_inDigest, .int 0])), (m_digestAt, .inl (d_digestAt, 128, .inr (.inl (fun _ => 0)))), (m_isGroup, .inl (d_isGroup, 128, .inl (fun _ => 0))), (m_counts, .inl (d_counts, 128, .inl (fun _ => 0)))] sz) [(mo, .inr (11, [.ref m_disk, .int (nI P), .int ((8224 : Int32) + ((26 : Int32) * (nI P))), .int (1 : Int32), .int 0, .int (-1 : Int32), .int 0, .int (0 : Int32), .ref m_tape, .int 0, .ref m_slots, .ref m_leaves, .int 0, .int 0, .ref m_fresh, .int 0, .int (0 : Int32), .int (0 : Int32), .ref m_digestAt, .ref m_isGroup, .ref m_counts, .int (-1 : Int32), .int (0 : Int32), .long (0 : Int64), .int (0 : Int32), .ref m_versionRow, .int (0 : Int32), .long (0 : Int64), .ref m_state, .ref m_names, .int 0, .ref m_keptRow, .int 0, .ref m_inSlot, .ref m_inAt, .ref m_inSize, .ref m_inDigest, .int 0]))]) (va_A [(mo, .inr (11, [.ref m_disk, .int (nI P), .int ((8224 : Int32) + ((26 : Int32) * (nI P))), .int (1 : Int32), .int 0, .int (-1 : Int32), .int 0, .int (0 : Int32), .ref m_tape, .int 0, .ref m_slots, .ref m_leaves, .int 0, .int 0, .ref m_fresh, .int 0, .int 0, .int 0, .ref m_digestAt, .ref m_isGroup, .ref m_counts, .int 0, .int 0, .long 0, .int 0, .ref m_versionRow, .int 0, .long 0, .ref m_state, .ref m_names, .int 0, .ref m_keptRow, .int 0, .ref m_inSlot, .ref m_inAt, .ref m_inSize, .ref m_inDigest, .int 0])), (m_digestAt, .inl (d_digestAt, 128, .inr (.inl (fun _ => 0)))), (m_isGroup, .inl (d_isGroup, 128, .inl (fun _ => 0))), (m_counts, .inl (d_counts, 128, .inl (fun _ => 0)))] sz)) 0 0 (va_A [(mo, .inr (11, [.ref m_disk, .int (nI P), .int ((8224 : Int32) + ((26 : Int32) * (nI P))), .int (1 : Int32), .int 0, .int (-1 : Int32), .int 0, .int (0 : Int32), .ref m_tape, .int 0, .ref m_slots, .ref m_leaves, .int 0, .int 0, .ref m_fresh, .int 0, .int 0, .int 0, .ref m_digestAt, .ref m_isGroup, .ref m_counts, .int 0, .int 0, .long 0, .int 0, .ref m_versionRow, .int 0, .long 0, .ref m_state, .ref m_names, .int 0, .ref m_keptRow, .int 0, .ref m_inSlot, .ref m_inAt, .ref m_inSize, .ref m_inDigest, .int 0])), (m_digestAt, .inl (d_digestAt, 128, .inr (.inl (fun _ => 0)))), (m_isGroup, .inl (d_isGroup, 128, .inl (fun _ => 0))), (m_counts, .inl (d_counts, 128, .inl (fun _ => 0)))] sz) := by
  refine Met.ofW (cc := cX9_certify) (maxL := 7) (ret := (some .int)) (by decide) rfl ?_
  intro p e s m args below meth c s₁ B hml hv
  obtain ⟨rfl, hsz, hP, hK, hD0⟩ := hv
  have hx := B.exec
  have hb := B.bytes
  have hr := B.returns
  have hts := atoms_spec (ws := wsX9_certify) B.pre
  have hown : s.vm.findClass RX9 = some m.cls := findClass_of_methodNamed B.named
  have hlocks := B.notSynchronized
  subst hsz
  have hD := hD0.self (sz := s.heap.size)
  generalize hAe : va_A [(mo, .inr (11, [.ref m_disk, .int (nI P), .int ((8224 : Int32) + ((26 : Int32) * (nI P))), .int (1 : Int32), .int 0, .int (-1 : Int32), .int 0, .int (0 : Int32), .ref m_tape, .int 0, .ref m_slots, .ref m_leaves, .int 0, .int 0, .ref m_fresh, .int 0, .int 0, .int 0, .ref m_digestAt, .ref m_isGroup, .ref m_counts, .int 0, .int 0, .long 0, .int 0, .ref m_versionRow, .int 0, .long 0, .ref m_state, .ref m_names, .int 0, .ref m_keptRow, .int 0, .ref m_inSlot, .ref m_inAt, .ref m_inSize, .ref m_inDigest, .int 0])), (m_digestAt, .inl (d_digestAt, 128, .inr (.inl (fun _ => 0)))), (m_isGroup, .inl (d_isGroup, 128, .inl (fun _ => 0))), (m_counts, .inl (d_counts, 128, .inl (fun _ => 0)))] s.heap.size = A at hD ⊢
  have hA : ∀ q : Nat, s.heap.size ≤ q → A q := fun q h => by rw [← hAe]; exact Or.inr h
  have hS : va_S A s.heap s.heap [] := va_S.rf
  have hl := lv_entry ([.ref mo, .long w0, .int p1]) (n := 7) (Nat.le_of_ble_eq_true rfl)
  rw [lg_entry_eq]
  generalize (lg_sl ([.ref mo, .long w0, .int p1]) ++ List.replicate (7 - (lg_sl ([.ref mo, .long w0, .int p1])).length) Slot.unset).toArray = ls at hl ⊢
  have hl : lv_has ls 7 [(0, .ref mo), (1, .long w0), (3, .int p1)] := hl
  refine lv_aload_n hx hb dX9_certify_0 rfl (lv_at hl 0 rfl) ?_
  refine lv_aload_n hx hb dX9_certify_1 rfl (lv_at hl 0 rfl) ?_
  refine va_get (D := (dC, dI)) (ci := 11) (v := .int (1 : Int32)) (C := RX9) (T := TX9) (N := 38) hx hb hts (by decide +kernel) hown hK hP 0 rfl rfl 3 (by decide) (hts (.fieldLink RX9 72 "BlockLogModel" "on" "Z") (by decide +kernel)) (fun _ h9 => h9) rfl dX9_certify_2 ?_
  refine lv_if_ne (tgt := 12) hx hb dX9_certify_5 (by decide) (fun c_1 => ?_) (fun c_1 => ?_)
  · skip
    refine lv_iload_n hx hb dX9_certify_12 rfl (lv_at hl 2 rfl) ?_
    refine lv_iconst (v := 0) hx hb dX9_certify_13 (by decide) ?_
    refine lv_bipush (v := 15) hx hb dX9_certify_14 (by decide) ?_
    have hPc := hP.sub (ws' := []) [] rfl
    have hKc := hK.sub (tys' := []) [] rfl
    refine vp_callSi (va_Run.run (va_runS (As := [.int p1, .int (0 : Int32), .int (15 : Int32)]) (rest := [.ref mo]) ⟨hx, hb, hml, hown, hts⟩ (k_X9_within_3 l dC dI p1 (0 : Int32) (15 : Int32) hf0 hf1) (va_cwS 3 hts gX9_certify_X9_within rfl rfl rfl (by decide +kernel) ⟨Nat.le_of_ble_eq_true rfl, Nat.le_of_ble_eq_true rfl⟩) ⟨fun a U g mk q => by obtain ⟨q0, qP, qK⟩ := q; exact ⟨q0, qP, va_K.moved (u := U) (U := U.calling g mk a) (Vm.Alike.refl U.vm) qK⟩, fun U hU hW => ⟨rfl, by rw [hU]; exact hPc, va_K.moved hW.alike hKc⟩⟩ rfl rfl hl.1 rfl (lv_room (Nat.le_of_ble_eq_true rfl)) dX9_certify_16 ⟨Nat.le_of_ble_eq_true rfl, Nat.le_of_ble_eq_true rfl⟩)) (fun r_2 er_2 => ?_)
    subst er_2
    refine lv_if_ne (tgt := 26) hx hb dX9_certify_19 (by decide) (fun c_3 => ?_) (fun c_3 => ?_)
    · skip
      refine lv_iconst (v := 0) hx hb dX9_certify_26 (by decide) ?_
      refine va_put (D := (dC, dI)) (ci := 11) (v := .int (0 : Int32)) (ty := .int) (C := RX9) (T := TX9) (N := 38) hx hb hts (by decide +kernel) tyX9 tyX9_ok nmX9 hown hK hP hD hS 0 rfl rfl 13 (by decide) (hts (.fieldLink RX9 91 "BlockLogModel" "thrown" "I") (by decide +kernel)) (fun _ h9 => h9) rfl (by decide +kernel) rfl rfl (Nat.le_of_ble_eq_true rfl) dX9_certify_27 (fun H locs hP hD hS => ?_)
      have hP : va_P (dC, dI) vwCl [(mo, .inr (11, [.ref m_disk, .int (nI P), .int ((8224 : Int32) + ((26 : Int32) * (nI P))), .int (1 : Int32), .int 0, .int (-1 : Int32), .int 0, .int (0 : Int32), .ref m_tape, .int 0, .ref m_slots, .ref m_leaves, .int 0, .int (0 : Int32), .ref m_fresh, .int 0, .int 0, .int 0, .ref m_digestAt, .ref m_isGroup, .ref m_counts, .int 0, .int 0, .long 0, .int 0, .ref m_versionRow, .int 0, .long 0, .ref m_state, .ref m_names, .int 0, .ref m_keptRow, .int 0, .ref m_inSlot, .ref m_inAt, .ref m_inSize, .ref m_inDigest, .int 0])), (m_digestAt, .inl (d_digestAt, 128, .inr (.inl (fun _ => 0)))), (m_isGroup, .inl (d_isGroup, 128, .inl (fun _ => 0))), (m_counts, .inl (d_counts, 128, .inl (fun _ => 0)))] H := hP
      have hD : va_D A [(mo, .inr (11, [.ref m_disk, .int (nI P), .int ((8224 : Int32) + ((26 : Int32) * (nI P))), .int (1 : Int32), .int 0, .int (-1 : Int32), .int 0, .int (0 : Int32), .ref m_tape, .int 0, .ref m_slots, .ref m_leaves, .int 0, .int (0 : Int32), .ref m_fresh, .int 0, .int 0, .int 0, .ref m_digestAt, .ref m_isGroup, .ref m_counts, .int 0, .int 0, .long 0, .int 0, .ref m_versionRow, .int 0, .long 0, .ref m_state, .ref m_names, .int 0, .ref m_keptRow, .int 0, .ref m_inSlot, .ref m_inAt, .ref m_inSize, .ref m_inDigest, .int 0])), (m_digestAt, .inl (d_digestAt, 128, .inr (.inl (fun _ => 0)))), (m_isGroup, .inl (d_isGroup, 128, .inl (fun _ => 0))), (m_counts, .inl (d_counts, 128, .inl (fun _ => 0)))] := hD
      refine lv_aload_n hx hb dX9_certify_30 rfl (lv_at hl 0 rfl) ?_
      refine va_get (D := (dC, dI)) (ci := 11) (v := .int (0 : Int32)) (C := RX9) (T := TX9) (N := 38) hx hb hts (by decide +kernel) hown hK hP 0 rfl rfl 13 (by decide) (hts (.fieldLink RX9 91 "BlockLogModel" "thrown" "I") (by decide +kernel)) (fun _ h9 => h9) rfl dX9_certify_31 ?_
      refine lv_if_le (tgt := 39) hx hb dX9_certify_34 (by decide) (fun c_4 => ?_) (fun c_4 => ?_)
      · skip
        refine lv_aload_n hx hb dX9_certify_39 rfl (lv_at hl 0 rfl) ?_
        have hPc := hP.sub (ws' := [(mo, .inr (11, [.ref m_disk, .int (nI P), .int ((8224 : Int32) + ((26 : Int32) * (nI P))), .int (1 : Int32), .int 0, .int (-1 : Int32), .int 0, .int (0 : Int32), .ref m_tape, .int 0, .ref m_slots, .ref m_leaves, .int 0, .int (0 : Int32), .ref m_fresh, .int 0, .int 0, .int 0, .ref m_digestAt, .ref m_isGroup, .ref m_counts, .int 0, .int 0, .long 0, .int 0, .ref m_versionRow, .int 0, .long 0, .ref m_state, .ref m_names, .int 0, .ref m_keptRow, .int 0, .ref m_inSlot, .ref m_inAt, .ref m_inSize, .ref m_inDigest, .int 0])), (m_digestAt, .inl (d_digestAt, 128, .inr (.inl (fun _ => 0)))), (m_isGroup, .inl (d_isGroup, 128, .inl (fun _ => 0))), (m_counts, .inl (d_counts, 128, .inl (fun _ => 0)))]) [0, 1, 2, 3] rfl
        have hKc := hK.sub (tys' := [(d_digestAt, .long), (d_isGroup, .boolean), (d_counts, .boolean)]) [0, 1, 2] rfl
        have hDc := hD.sub (ws' := [(mo, .inr (11, [.ref m_disk, .int (nI P), .int ((8224 : Int32) + ((26 : Int32) * (nI P))), .int (1 : Int32), .int 0, .int (-1 : Int32), .int 0, .int (0 : Int32), .ref m_tape, .int 0, .ref m_slots, .ref m_leaves, .int 0, .int (0 : Int32), .ref m_fresh, .int 0, .int 0, .int 0, .ref m_digestAt, .ref m_isGroup, .ref m_counts, .int 0, .int 0, .long 0, .int 0, .ref m_versionRow, .int 0, .long 0, .ref m_state, .ref m_names, .int 0, .ref m_keptRow, .int 0, .ref m_inSlot, .ref m_inAt, .ref m_inSize, .ref m_inDigest, .int 0])), (m_digestAt, .inl (d_digestAt, 128, .inr (.inl (fun _ => 0)))), (m_isGroup, .inl (d_isGroup, 128, .inl (fun _ => 0))), (m_counts, .inl (d_counts, 128, .inl (fun _ => 0)))]) [0, 1, 2, 3] (by decide) rfl
        have hFc := va_free (wc := [(mo, .inr (11, [.ref m_disk, .int (nI P), .int ((8224 : Int32) + ((26 : Int32) * (nI P))), .int (1 : Int32), .int 0, .int (-1 : Int32), .int 0, .int (0 : Int32), .ref m_tape, .int 0, .ref m_slots, .ref m_leaves, .int 0, .int (0 : Int32), .ref m_fresh, .int 0, .int 0, .int 0, .ref m_digestAt, .ref m_isGroup, .ref m_counts, .int 0, .int 0, .long 0, .int 0, .ref m_versionRow, .int 0, .long 0, .ref m_state, .ref m_names, .int 0, .ref m_keptRow, .int 0, .ref m_inSlot, .ref m_inAt, .ref m_inSize, .ref m_inDigest, .int 0])), (m_digestAt, .inl (d_digestAt, 128, .inr (.inl (fun _ => 0)))), (m_isGroup, .inl (d_isGroup, 128, .inl (fun _ => 0))), (m_counts, .inl (d_counts, 128, .inl (fun _ => 0)))]) hD hS hA [0, 1, 2, 3] rfl
        refine va_callv (va_runV (As := []) (rest := []) ⟨hx, hb, hml, hown, hts⟩ (k_X9_read_1 l dC dI mo m_digestAt m_isGroup m_counts m_disk P m_tape m_slots m_leaves m_fresh m_versionRow m_state m_names m_keptRow m_inSlot m_inAt m_inSize m_inDigest d_digestAt d_isGroup d_counts _) (cwV 0 hts gX9_certify_X9_read rfl rfl rfl (by decide +kernel) ⟨Nat.le_of_ble_eq_true rfl, Nat.le_of_ble_eq_true rfl⟩) ⟨fun a U g mk q => by obtain ⟨q0, q1, qP, qK, qD⟩ := q; exact ⟨q0, q1, qP, va_K.moved (u := U) (U := U.calling g mk a) (Vm.Alike.refl U.vm) qK, qD⟩, va_recv hK hP (ci := 11) (q := (RX9, TX9, 38)) rfl (q0 := 0) rfl, fun U hU hW => ⟨rfl, by rw [hU], by rw [hU]; exact hPc, va_K.moved hW.alike hKc, hDc.weaken (fun _ _ _ _ => trivial)⟩⟩ rfl rfl hl.1 rfl (lv_room (Nat.le_of_ble_eq_true rfl)) dX9_certify_40 ⟨Nat.le_of_ble_eq_true rfl, Nat.le_of_ble_eq_true rfl⟩) hS (fun q _ h => hFc q h) hFc (fun u t H1 locs ht hvm er_5 hB hz1 hk1 hS => ?_)
        obtain ⟨hP1, hK1, hD1⟩ := hB
        rw [ht] at hP1
        obtain ⟨hP, hD⟩ := va_join (wr := []) (w1 := [(mo, .inr (11, [.ref m_disk, .int (nI P), .int ((8224 : Int32) + ((26 : Int32) * (nI P))), .int (1 : Int32), .int 0, .int (-1 : Int32), .int 0, .int (0 : Int32), .ref m_tape, .int 0, .ref m_slots, .ref m_leaves, .int 0, .int 0, .ref m_fresh, .int 0, .int (0 : Int32), .int (0 : Int32), .ref m_digestAt, .ref m_isGroup, .ref m_counts, .int (-1 : Int32), .int (0 : Int32), .long (0 : Int64), .int (0 : Int32), .ref m_versionRow, .int (0 : Int32), .long (0 : Int64), .ref m_state, .ref m_names, .int 0, .ref m_keptRow, .int 0, .ref m_inSlot, .ref m_inAt, .ref m_inSize, .ref m_inDigest, .int 0])), (m_digestAt, .inl (d_digestAt, 128, .inr (.inl (zr_L 128)))), (m_isGroup, .inl (d_isGroup, 128, .inl (zr_Z 128))), (m_counts, .inl (d_counts, 128, .inl (zr_Z 128)))]) hP hD [0, 1, 2, 3] [] rfl rfl (by decide) (by decide) hk1 hFc hP1 hD1
        clear hPc hDc hFc hP1 hD1 hk1 hz1
        generalize H1 = H at hP hS ⊢
        have hP : va_P (dC, dI) vwCl [(mo, .inr (11, [.ref m_disk, .int (nI P), .int ((8224 : Int32) + ((26 : Int32) * (nI P))), .int (1 : Int32), .int 0, .int (-1 : Int32), .int 0, .int (0 : Int32), .ref m_tape, .int 0, .ref m_slots, .ref m_leaves, .int 0, .int 0, .ref m_fresh, .int 0, .int (0 : Int32), .int (0 : Int32), .ref m_digestAt, .ref m_isGroup, .ref m_counts, .int (-1 : Int32), .int (0 : Int32), .long (0 : Int64), .int (0 : Int32), .ref m_versionRow, .int (0 : Int32), .long (0 : Int64), .ref m_state, .ref m_names, .int 0, .ref m_keptRow, .int 0, .ref m_inSlot, .ref m_inAt, .ref m_inSize, .ref m_inDigest, .int 0])), (m_digestAt, .inl (d_digestAt, 128, .inr (.inl (zr_L 128)))), (m_isGroup, .inl (d_isGroup, 128, .inl (zr_Z 128))), (m_counts, .inl (d_counts, 128, .inl (zr_Z 128)))] H := hP
        have hD : va_D A [(mo, .inr (11, [.ref m_disk, .int (nI P), .int ((8224 : Int32) + ((26 : Int32) * (nI P))), .int (1 : Int32), .int 0, .int (-1 : Int32), .int 0, .int (0 : Int32), .ref m_tape, .int 0, .ref m_slots, .ref m_leaves, .int 0, .int 0, .ref m_fresh, .int 0, .int (0 : Int32), .int (0 : Int32), .ref m_digestAt, .ref m_isGroup, .ref m_counts, .int (-1 : Int32), .int (0 : Int32), .long (0 : Int64), .int (0 : Int32), .ref m_versionRow, .int (0 : Int32), .long (0 : Int64), .ref m_state, .ref m_names, .int 0, .ref m_keptRow, .int 0, .ref m_inSlot, .ref m_inAt, .ref m_inSize, .ref m_inDigest, .int 0])), (m_digestAt, .inl (d_digestAt, 128, .inr (.inl (zr_L 128)))), (m_isGroup, .inl (d_isGroup, 128, .inl (zr_Z 128))), (m_counts, .inl (d_counts, 128, .inl (zr_Z 128)))] := hD
        refine lv_aload_n hx hb dX9_certify_43 rfl (lv_at hl 0 rfl) ?_
        refine va_get (D := (dC, dI)) (ci := 11) (v := .int (0 : Int32)) (C := RX9) (T := TX9) (N := 38) hx hb hts (by decide +kernel) hown hK hP 0 rfl rfl 17 (by decide) (hts (.fieldLink RX9 176 "BlockLogModel" "needs" "Z") (by decide +kernel)) (fun _ h9 => h9) rfl dX9_certify_44 ?_
        refine lv_if_eq (tgt := 53) hx hb dX9_certify_47 (by decide) (fun c_6 => ?_) (fun c_6 => ?_)
        · skip
          refine lv_aload_n hx hb dX9_certify_53 rfl (lv_at hl 0 rfl) ?_
          refine lv_aload_n hx hb dX9_certify_54 rfl (lv_at hl 0 rfl) ?_
          refine lv_lload_n hx hb dX9_certify_55 rfl (lv_at hl 1 rfl) ?_
          have hPc := hP.sub (ws' := [(mo, .inr (11, [.ref m_disk, .int (nI P), .int ((8224 : Int32) + ((26 : Int32) * (nI P))), .int (1 : Int32), .int 0, .int (-1 : Int32), .int 0, .int (0 : Int32), .ref m_tape, .int 0, .ref m_slots, .ref m_leaves, .int 0, .int 0, .ref m_fresh, .int 0, .int (0 : Int32), .int (0 : Int32), .ref m_digestAt, .ref m_isGroup, .ref m_counts, .int (-1 : Int32), .int (0 : Int32), .long (0 : Int64), .int (0 : Int32), .ref m_versionRow, .int (0 : Int32), .long (0 : Int64), .ref m_state, .ref m_names, .int 0, .ref m_keptRow, .int 0, .ref m_inSlot, .ref m_inAt, .ref m_inSize, .ref m_inDigest, .int 0]))]) [0] rfl
          have hKc := hK.sub (tys' := []) [] rfl
          refine vp_callSl (va_Run.run (va_runV (As := [.long w0]) (rest := [.ref mo]) ⟨hx, hb, hml, hown, hts⟩ (k_X9_meant_1 l dC dI mo w0 m_disk P m_tape m_slots m_leaves m_fresh m_digestAt m_isGroup m_counts m_versionRow m_state m_names m_keptRow m_inSlot m_inAt m_inSize m_inDigest hf2 hf3 hf4) (cwV 1 hts gX9_certify_X9_meant rfl rfl rfl (by decide +kernel) ⟨Nat.le_of_ble_eq_true rfl, Nat.le_of_ble_eq_true rfl⟩) ⟨fun a U g mk q => by obtain ⟨q0, qP, qK⟩ := q; exact ⟨q0, qP, va_K.moved (u := U) (U := U.calling g mk a) (Vm.Alike.refl U.vm) qK⟩, va_recv hK hP (ci := 11) (q := (RX9, TX9, 38)) rfl (q0 := 0) rfl, fun U hU hW => ⟨rfl, by rw [hU]; exact hPc, va_K.moved hW.alike hKc⟩⟩ rfl rfl hl.1 rfl (lv_room (Nat.le_of_ble_eq_true rfl)) dX9_certify_56 ⟨Nat.le_of_ble_eq_true rfl, Nat.le_of_ble_eq_true rfl⟩)) (fun r_7 er_7 => ?_)
          subst er_7
          refine lv_aload_n hx hb dX9_certify_59 rfl (lv_at hl 0 rfl) ?_
          refine va_get (D := (dC, dI)) (ci := 11) (v := .int (0 : Int32)) (C := RX9) (T := TX9) (N := 38) hx hb hts (by decide +kernel) hown hK hP 0 rfl rfl 16 (by decide) (hts (.fieldLink RX9 167 "BlockLogModel" "many" "I") (by decide +kernel)) (fun _ h9 => h9) rfl dX9_certify_60 ?_
          have hPc := hP.sub (ws' := []) [] rfl
          have hKc := hK.sub (tys' := []) [] rfl
          refine vp_callSi (va_Run.run (va_runV (As := [.long (0 : Int64), .int (0 : Int32)]) (rest := []) ⟨hx, hb, hml, hown, hts⟩ (k_X9_blockRow_1 l dC dI mo) (cwV 2 hts gX9_certify_X9_blockRow rfl rfl rfl (by decide +kernel) ⟨Nat.le_of_ble_eq_true rfl, Nat.le_of_ble_eq_true rfl⟩) ⟨fun a U g mk q => by obtain ⟨q0, qP, qK⟩ := q; exact ⟨q0, qP, va_K.moved (u := U) (U := U.calling g mk a) (Vm.Alike.refl U.vm) qK⟩, va_recv hK hP (ci := 11) (q := (RX9, TX9, 38)) rfl (q0 := 0) rfl, fun U hU hW => ⟨rfl, by rw [hU]; exact hPc, va_K.moved hW.alike hKc⟩⟩ rfl rfl hl.1 rfl (lv_room (Nat.le_of_ble_eq_true rfl)) dX9_certify_63 ⟨Nat.le_of_ble_eq_true rfl, Nat.le_of_ble_eq_true rfl⟩)) (fun r_8 er_8 => ?_)
          subst er_8
          refine lv_istore (lv' := [(4, .int (-1 : Int32)), (0, .ref mo), (1, .long w0), (3, .int p1)]) hx hb dX9_certify_66 hl (by decide) rfl (fun ls hl => ?_)
          refine lv_iload hx hb dX9_certify_68 (lv_at hl 0 rfl) ?_
          refine lv_iconst (v := (-1)) hx hb dX9_certify_70 (by decide) ?_
          refine lv_icmp_ne (tgt := 77) hx hb dX9_certify_71 (by decide) (fun c_9 => ?_) (fun c_9 => ?_)
          · skip
            exact absurd (by decide) c_9
          · skip
            refine lv_bipush (v := (-6)) hx hb dX9_certify_74 (by decide) ?_
            have hP := hP.sub (ws' := [(mo, .inr (11, [.ref m_disk, .int (nI P), .int ((8224 : Int32) + ((26 : Int32) * (nI P))), .int (1 : Int32), .int 0, .int (-1 : Int32), .int 0, .int (0 : Int32), .ref m_tape, .int 0, .ref m_slots, .ref m_leaves, .int 0, .int 0, .ref m_fresh, .int 0, .int (0 : Int32), .int (0 : Int32), .ref m_digestAt, .ref m_isGroup, .ref m_counts, .int (-1 : Int32), .int (0 : Int32), .long (0 : Int64), .int (0 : Int32), .ref m_versionRow, .int (0 : Int32), .long (0 : Int64), .ref m_state, .ref m_names, .int 0, .ref m_keptRow, .int 0, .ref m_inSlot, .ref m_inAt, .ref m_inSize, .ref m_inDigest, .int 0]))]) [0] rfl
            have hD := hD.sub (ws' := [(mo, .inr (11, [.ref m_disk, .int (nI P), .int ((8224 : Int32) + ((26 : Int32) * (nI P))), .int (1 : Int32), .int 0, .int (-1 : Int32), .int 0, .int (0 : Int32), .ref m_tape, .int 0, .ref m_slots, .ref m_leaves, .int 0, .int 0, .ref m_fresh, .int 0, .int (0 : Int32), .int (0 : Int32), .ref m_digestAt, .ref m_isGroup, .ref m_counts, .int (-1 : Int32), .int (0 : Int32), .long (0 : Int64), .int (0 : Int32), .ref m_versionRow, .int (0 : Int32), .long (0 : Int64), .ref m_state, .ref m_names, .int 0, .ref m_keptRow, .int 0, .ref m_inSlot, .ref m_inAt, .ref m_inSize, .ref m_inDigest, .int 0]))]) [0] (by decide) rfl
            have hK := hK.sub (tys' := [(d_digestAt, .long), (d_isGroup, .boolean), (d_counts, .boolean)]) [0, 1, 2] rfl
            exact W.iret hx hb hr (fun t ht hW => ⟨⟨_, (), rfl, rfl, by rw [ht]; exact hP, va_K.moved hW.alike hK, hD⟩, hS.F ht⟩) hS.2.2 dX9_certify_76
        · skip
          exact absurd (by decide) c_6
      · skip
        exact absurd (by decide) c_4
    · skip
      exact absurd c_3 (by decide)
  · skip
    exact absurd c_1 (by decide)

set_option maxHeartbeats 4000000 in
set_option maxRecDepth 100000 in
theorem k_X8_certify_4 (l : Launch) (dC : Nat → ClassId) (dI : Nat → Nat → Nat) (x : Nat) (w0 : Int64) (p1 : Int32) (rr : Nat) (ds : Nat) (so : Nat) (tp : Nat) (pu : Nat) (sn : Nat) (im : Nat) (cs : Nat) (cl : Nat) (ri : Nat) (pg : Int32) (dl : Nat) (dr : Nat) (dt : Nat) (s1 : Nat) (s2 : Nat) (s3 : Nat) (s4 : Nat) (s5 : Nat) (s6 : Nat) (hf0 : 0 ≤ p1) (hf1 : p1 ≤ 15) (hf2 : 0 ≤ lg_cmp w0 (0)) : Met l yX8_certify wsX8_certify ({ frames := 1, cells := 0, slots := 0, locals := 23 }) (va_Pc [.ref x, .long w0, .int p1] (fun U => va_P (dC, dI) vwCl [(x, .inr (10, [.ref tp, .ref ds, .ref rr, .ref so, .ref pu, .ref sn, .ref im, .ref cs, .ref cl, .int (0 : Int32)])), (rr, .inr (6, [.ref ds, .ref ri, .int 0, .int 1, .int 0, .int 0])), (ds, .inr (3, [.int pg, .ref dl, .ref dr, .ref dt, .int (1 : Int32), .int (-1 : Int32), .int (0 : Int32)])), (so, .inr (8, [.ref rr, .ref s1, .ref s2, .ref s3, .ref s4, .ref s5, .ref s6, .int (0 : Int32), .int (0 : Int32), .int (-1 : Int32), .int (0 : Int32), .int (0 : Int32)]))] U.heap ∧ va_K (dC, dI) vwCl [] U ∧ gx_W U)) (vp_Si (fun r => r = (-6 : Int32))) 0 0 (fun _ => False) := by
  refine Met.ofW (cc := cX8_certify) (maxL := 8) (ret := (some .int)) (by decide) rfl ?_
  intro p e s m args below meth c s₁ B hml hv
  obtain ⟨rfl, hP, hK, hG⟩ := hv
  have hx := B.exec
  have hb := B.bytes
  have hr := B.returns
  have hts := atoms_spec (ws := wsX8_certify) B.pre
  have hown : s.vm.findClass RX8 = some m.cls := findClass_of_methodNamed B.named
  have hlocks := B.notSynchronized
  have hl := lv_entry ([.ref x, .long w0, .int p1]) (n := 8) (Nat.le_of_ble_eq_true rfl)
  rw [lg_entry_eq]
  generalize (lg_sl ([.ref x, .long w0, .int p1]) ++ List.replicate (8 - (lg_sl ([.ref x, .long w0, .int p1])).length) Slot.unset).toArray = ls at hl ⊢
  have hl : lv_has ls 8 [(0, .ref x), (1, .long w0), (3, .int p1)] := hl
  refine lv_aload_n hx hb dX8_certify_0 rfl (lv_at hl 0 rfl) ?_
  have hPc := hP.sub (ws' := [(x, .inr (10, [.ref tp, .ref ds, .ref rr, .ref so, .ref pu, .ref sn, .ref im, .ref cs, .ref cl, .int (0 : Int32)])), (ds, .inr (3, [.int pg, .ref dl, .ref dr, .ref dt, .int (1 : Int32), .int (-1 : Int32), .int (0 : Int32)]))]) [0, 2] rfl
  have hKc := hK.sub (tys' := []) [] rfl
  refine va_csv (va_Run.run (va_runV (As := []) (rest := []) ⟨hx, hb, hml, hown, hts⟩ (k_X8_demandPower_1 l dC dI x ds tp rr so pu sn im cs cl pg dl dr dt) (cwV 0 hts gX8_certify_X8_demandPower rfl rfl rfl (by decide +kernel) ⟨Nat.le_of_ble_eq_true rfl, Nat.le_of_ble_eq_true rfl⟩) ⟨fun a U g mk q => by obtain ⟨q0, qP, qK, qG⟩ := q; exact ⟨q0, qP, va_K.moved (u := U) (U := U.calling g mk a) (Vm.Alike.refl U.vm) qK, qG.same rfl⟩, va_recv hK hP (ci := 10) (q := (RX8, TX8, 10)) rfl (q0 := 0) rfl, fun U hU hW => ⟨rfl, by rw [hU]; exact hPc, va_K.moved hW.alike hKc, hG.warm hW⟩⟩ rfl rfl hl.1 rfl (lv_room (Nat.le_of_ble_eq_true rfl)) dX8_certify_1 ⟨Nat.le_of_ble_eq_true rfl, Nat.le_of_ble_eq_true rfl⟩)) (fun _ => ?_)
  refine lv_iload_n hx hb dX8_certify_4 rfl (lv_at hl 2 rfl) ?_
  refine lv_if_lt (tgt := 14) hx hb dX8_certify_5 (by decide) (fun c_2 => ?_) (fun c_2 => ?_)
  · skip
    exact absurd c_2 (Int32.not_lt.mpr hf0)
  · skip
    refine lv_iload_n hx hb dX8_certify_8 rfl (lv_at hl 2 rfl) ?_
    refine lv_bipush (v := 15) hx hb dX8_certify_9 (by decide) ?_
    refine lv_icmp_le (tgt := 24) hx hb dX8_certify_11 (by decide) (fun c_3 => ?_) (fun c_3 => ?_)
    · skip
      refine lv_aload_n hx hb dX8_certify_24 rfl (lv_at hl 0 rfl) ?_
      refine va_get (D := (dC, dI)) (ci := 10) (v := .ref rr) (C := RX8) (T := TX8) (N := 10) hx hb hts (by decide +kernel) hown hK hP 0 rfl rfl 2 (by decide) (hts (.fieldLink RX8 31 "BlockLog" "rows" "LBlockLog$Rows;") (by decide +kernel)) (fun _ h9 => h9) rfl dX8_certify_25 ?_
      have hPc := hP.sub (ws' := [(rr, .inr (6, [.ref ds, .ref ri, .int 0, .int 1, .int 0, .int 0]))]) [1] rfl
      have hKc := hK.sub (tys' := []) [] rfl
      refine vp_callSi (va_Run.run (va_runV (As := []) (rest := []) ⟨hx, hb, hml, hown, hts⟩ (k_X4_inNeed_1 l dC dI rr ds ri) (cwV 0 hts gX8_certify_X4_inNeed rfl rfl rfl (by decide +kernel) ⟨Nat.le_of_ble_eq_true rfl, Nat.le_of_ble_eq_true rfl⟩) ⟨fun a U g mk q => by obtain ⟨q0, qP, qK⟩ := q; exact ⟨q0, qP, va_K.moved (u := U) (U := U.calling g mk a) (Vm.Alike.refl U.vm) qK⟩, va_recv hK hP (ci := 6) (q := (RX4, TX4, 6)) rfl (q0 := 1) rfl, fun U hU hW => ⟨rfl, by rw [hU]; exact hPc, va_K.moved hW.alike hKc⟩⟩ rfl rfl hl.1 rfl (lv_room (Nat.le_of_ble_eq_true rfl)) dX8_certify_28 ⟨Nat.le_of_ble_eq_true rfl, Nat.le_of_ble_eq_true rfl⟩)) (fun r_4 er_4 => ?_)
      subst er_4
      refine lv_if_eq (tgt := 37) hx hb dX8_certify_31 (by decide) (fun c_5 => ?_) (fun c_5 => ?_)
      · skip
        refine lv_aload_n hx hb dX8_certify_37 rfl (lv_at hl 0 rfl) ?_
        refine va_get (D := (dC, dI)) (ci := 10) (v := .ref so) (C := RX8) (T := TX8) (N := 10) hx hb hts (by decide +kernel) hown hK hP 0 rfl rfl 3 (by decide) (hts (.fieldLink RX8 40 "BlockLog" "story" "LBlockLog$Story;") (by decide +kernel)) (fun _ h9 => h9) rfl dX8_certify_38 ?_
        refine lv_lload_n hx hb dX8_certify_41 rfl (lv_at hl 1 rfl) ?_
        have hPc := hP.sub (ws' := []) [] rfl
        have hKc := hK.sub (tys' := []) [] rfl
        refine vp_callSl (va_Run.run (va_runV (As := [.long w0]) (rest := []) ⟨hx, hb, hml, hown, hts⟩ (k_X6_meant_2 l dC dI so w0 hf2) (cwV 1 hts gX8_certify_X6_meant rfl rfl rfl (by decide +kernel) ⟨Nat.le_of_ble_eq_true rfl, Nat.le_of_ble_eq_true rfl⟩) ⟨fun a U g mk q => by obtain ⟨q0, qP, qK⟩ := q; exact ⟨q0, qP, va_K.moved (u := U) (U := U.calling g mk a) (Vm.Alike.refl U.vm) qK⟩, va_recv hK hP (ci := 8) (q := (RX6, TX6, 12)) rfl (q0 := 3) rfl, fun U hU hW => ⟨rfl, by rw [hU]; exact hPc, va_K.moved hW.alike hKc⟩⟩ rfl rfl hl.1 rfl (lv_room (Nat.le_of_ble_eq_true rfl)) dX8_certify_42 ⟨Nat.le_of_ble_eq_true rfl, Nat.le_of_ble_eq_true rfl⟩)) (fun r_6 er_6 => ?_)
        replace er_6 := er_6.symm
        subst er_6
        refine lv_lstore (lv' := [(4, .long w0), (0, .ref x), (1, .long w0), (3, .int p1)]) hx hb dX8_certify_45 hl (by decide) rfl (fun ls hl => ?_)
        refine lv_aload_n hx hb dX8_certify_47 rfl (lv_at hl 1 rfl) ?_
        refine va_get (D := (dC, dI)) (ci := 10) (v := .ref so) (C := RX8) (T := TX8) (N := 10) hx hb hts (by decide +kernel) hown hK hP 0 rfl rfl 3 (by decide) (hts (.fieldLink RX8 40 "BlockLog" "story" "LBlockLog$Story;") (by decide +kernel)) (fun _ h9 => h9) rfl dX8_certify_48 ?_
        refine lv_lload hx hb dX8_certify_51 (lv_at hl 0 rfl) ?_
        have hPc := hP.sub (ws' := [(so, .inr (8, [.ref rr, .ref s1, .ref s2, .ref s3, .ref s4, .ref s5, .ref s6, .int (0 : Int32), .int (0 : Int32), .int (-1 : Int32), .int (0 : Int32), .int (0 : Int32)]))]) [3] rfl
        have hKc := hK.sub (tys' := []) [] rfl
        refine vp_callSi (va_Run.run (va_runV (As := [.long w0]) (rest := []) ⟨hx, hb, hml, hown, hts⟩ (k_X6_blockRow_2 l dC dI so w0 rr s1 s2 s3 s4 s5 s6) (cwV 1 hts gX8_certify_X6_blockRow rfl rfl rfl (by decide +kernel) ⟨Nat.le_of_ble_eq_true rfl, Nat.le_of_ble_eq_true rfl⟩) ⟨fun a U g mk q => by obtain ⟨q0, qP, qK⟩ := q; exact ⟨q0, qP, va_K.moved (u := U) (U := U.calling g mk a) (Vm.Alike.refl U.vm) qK⟩, va_recv hK hP (ci := 8) (q := (RX6, TX6, 12)) rfl (q0 := 3) rfl, fun U hU hW => ⟨rfl, by rw [hU]; exact hPc, va_K.moved hW.alike hKc⟩⟩ rfl rfl hl.1 rfl (lv_room (Nat.le_of_ble_eq_true rfl)) dX8_certify_53 ⟨Nat.le_of_ble_eq_true rfl, Nat.le_of_ble_eq_true rfl⟩)) (fun r_7 er_7 => ?_)
        subst er_7
        refine lv_istore (lv' := [(6, .int (-1 : Int32)), (4, .long w0), (0, .ref x), (1, .long w0), (3, .int p1)]) hx hb dX8_certify_56 hl (by decide) rfl (fun ls hl => ?_)
        refine lv_iload hx hb dX8_certify_58 (lv_at hl 0 rfl) ?_
        refine lv_iconst (v := (-1)) hx hb dX8_certify_60 (by decide) ?_
        refine lv_icmp_ne (tgt := 67) hx hb dX8_certify_61 (by decide) (fun c_8 => ?_) (fun c_8 => ?_)
        · skip
          exact absurd (by decide) c_8
        · skip
          refine lv_bipush (v := (-6)) hx hb dX8_certify_64 (by decide) ?_
          exact W.iret hx hb hr (fun t ht hW => ⟨_, rfl, rfl, ht⟩) (fun q h => by cases h) dX8_certify_66
      · skip
        exact absurd (by decide) c_5
    · skip
      exact absurd hf1 c_3

set_option maxHeartbeats 4000000 in
set_option maxRecDepth 100000 in
theorem k_L_certify_4 (l : Launch) (dC : Nat → ClassId) (dI : Nat → Nat → Nat) (x : Nat) (w0 : Int64) (p1 : Int32) (ho : Nat) (rr : Nat) (ds : Nat) (so : Nat) (tp : Nat) (pu : Nat) (sn : Nat) (im : Nat) (cs : Nat) (cl : Nat) (ri : Nat) (pg : Int32) (dl : Nat) (dr : Nat) (dt : Nat) (s1 : Nat) (s2 : Nat) (s3 : Nat) (s4 : Nat) (s5 : Nat) (s6 : Nat) (cJ : ClassId) (g1 : Nat → Int64) (sz : Nat) (hf0 : 0 ≤ p1) (hf1 : p1 ≤ 15) (hf2 : 0 ≤ lg_cmp w0 (0)) : Met l yL_certify wsL_certify ({ frames := 2, cells := 0, slots := 0, locals := 50 }) (va_Pc [.ref x, .long w0, .int p1, .ref ho] (fun U => U.heap.size = sz ∧ va_P (dC, dI) vwCl [(x, .inr (10, [.ref tp, .ref ds, .ref rr, .ref so, .ref pu, .ref sn, .ref im, .ref cs, .ref cl, .int (0 : Int32)])), (rr, .inr (6, [.ref ds, .ref ri, .int 0, .int 1, .int 0, .int 0])), (ds, .inr (3, [.int pg, .ref dl, .ref dr, .ref dt, .int (1 : Int32), .int (-1 : Int32), .int (0 : Int32)])), (so, .inr (8, [.ref rr, .ref s1, .ref s2, .ref s3, .ref s4, .ref s5, .ref s6, .int (0 : Int32), .int (0 : Int32), .int (-1 : Int32), .int (0 : Int32), .int (0 : Int32)])), (ho, .inl (cJ, 1, .inr (.inl g1)))] U.heap ∧ va_K (dC, dI) vwCl [(cJ, .long)] U ∧ va_D (fun _ => True) [(x, .inr (10, [.ref tp, .ref ds, .ref rr, .ref so, .ref pu, .ref sn, .ref im, .ref cs, .ref cl, .int (0 : Int32)])), (rr, .inr (6, [.ref ds, .ref ri, .int 0, .int 1, .int 0, .int 0])), (ds, .inr (3, [.int pg, .ref dl, .ref dr, .ref dt, .int (1 : Int32), .int (-1 : Int32), .int (0 : Int32)])), (so, .inr (8, [.ref rr, .ref s1, .ref s2, .ref s3, .ref s4, .ref s5, .ref s6, .int (0 : Int32), .int (0 : Int32), .int (-1 : Int32), .int (0 : Int32), .int (0 : Int32)])), (ho, .inl (cJ, 1, .inr (.inl g1)))] ∧ gx_E (va_A [(x, .inr (10, [.ref tp, .ref ds, .ref rr, .ref so, .ref pu, .ref sn, .ref im, .ref cs, .ref cl, .int (0 : Int32)])), (rr, .inr (6, [.ref ds, .ref ri, .int 0, .int 1, .int 0, .int 0])), (ds, .inr (3, [.int pg, .ref dl, .ref dr, .ref dt, .int (1 : Int32), .int (-1 : Int32), .int (0 : Int32)])), (so, .inr (8, [.ref rr, .ref s1, .ref s2, .ref s3, .ref s4, .ref s5, .ref s6, .int (0 : Int32), .int (0 : Int32), .int (-1 : Int32), .int (0 : Int32), .int (0 : Int32)])), (ho, .inl (cJ, 1, .inr (.inl g1)))] sz) U)) (va_Qi (fun r (_ : Unit) => r = (0 : Int32)) (fun (_ : Unit) t => va_P (dC, dI) vwCl [(ho, .inl (cJ, 1, .inr (.inl (vp_updL g1 (0 : Int32).toNatClampNeg ((-6 : Int32).toInt64)))))] t.heap ∧ va_K (dC, dI) vwCl [(cJ, .long)] t ∧ va_D (va_A [(x, .inr (10, [.ref tp, .ref ds, .ref rr, .ref so, .ref pu, .ref sn, .ref im, .ref cs, .ref cl, .int (0 : Int32)])), (rr, .inr (6, [.ref ds, .ref ri, .int 0, .int 1, .int 0, .int 0])), (ds, .inr (3, [.int pg, .ref dl, .ref dr, .ref dt, .int (1 : Int32), .int (-1 : Int32), .int (0 : Int32)])), (so, .inr (8, [.ref rr, .ref s1, .ref s2, .ref s3, .ref s4, .ref s5, .ref s6, .int (0 : Int32), .int (0 : Int32), .int (-1 : Int32), .int (0 : Int32), .int (0 : Int32)])), (ho, .inl (cJ, 1, .inr (.inl g1)))] sz) [(ho, .inl (cJ, 1, .inr (.inl (vp_updL g1 (0 : Int32).toNatClampNeg ((-6 : Int32).toInt64)))))]) (va_A [(x, .inr (10, [.ref tp, .ref ds, .ref rr, .ref so, .ref pu, .ref sn, .ref im, .ref cs, .ref cl, .int (0 : Int32)])), (rr, .inr (6, [.ref ds, .ref ri, .int 0, .int 1, .int 0, .int 0])), (ds, .inr (3, [.int pg, .ref dl, .ref dr, .ref dt, .int (1 : Int32), .int (-1 : Int32), .int (0 : Int32)])), (so, .inr (8, [.ref rr, .ref s1, .ref s2, .ref s3, .ref s4, .ref s5, .ref s6, .int (0 : Int32), .int (0 : Int32), .int (-1 : Int32), .int (0 : Int32), .int (0 : Int32)])), (ho, .inl (cJ, 1, .inr (.inl g1)))] sz)) 0 0 (va_A [(x, .inr (10, [.ref tp, .ref ds, .ref rr, .ref so, .ref pu, .ref sn, .ref im, .ref cs, .ref cl, .int (0 : Int32)])), (rr, .inr (6, [.ref ds, .ref ri, .int 0, .int 1, .int 0, .int 0])), (ds, .inr (3, [.int pg, .ref dl, .ref dr, .ref dt, .int (1 : Int32), .int (-1 : Int32), .int (0 : Int32)])), (so, .inr (8, [.ref rr, .ref s1, .ref s2, .ref s3, .ref s4, .ref s5, .ref s6, .int (0 : Int32), .int (0 : Int32), .int (-1 : Int32), .int (0 : Int32), .int (0 : Int32)])), (ho, .inl (cJ, 1, .inr (.inl g1)))] sz) := by
  refine va_MetW (cc := cL_certify) (maxL := 6) (ret := (some .int)) (hh := [(0, 11, 14, 25), (0, 11, 18, 13)]) (by decide) rfl ?_
  intro p e s m args below meth c s₁ B hml hv
  obtain ⟨rfl, hsz, hP, hK, hD0, hG⟩ := hv
  have hx := B.exec
  have hb := B.bytes
  have hr := B.returns
  have hts := atoms_spec (ws := wsL_certify) B.pre
  have hown : s.vm.findClass RL = some m.cls := findClass_of_methodNamed B.named
  have hlocks := B.notSynchronized
  have htab := vx_table (x := yL_certify) B (hts (.codeWith yL_certify cL_certify 6 (some .int) [(0, 11, 14, 25), (0, 11, 18, 13)]) List.mem_cons_self)
  subst hsz
  have hD := hD0.self (sz := s.heap.size)
  generalize hAe : va_A [(x, .inr (10, [.ref tp, .ref ds, .ref rr, .ref so, .ref pu, .ref sn, .ref im, .ref cs, .ref cl, .int (0 : Int32)])), (rr, .inr (6, [.ref ds, .ref ri, .int 0, .int 1, .int 0, .int 0])), (ds, .inr (3, [.int pg, .ref dl, .ref dr, .ref dt, .int (1 : Int32), .int (-1 : Int32), .int (0 : Int32)])), (so, .inr (8, [.ref rr, .ref s1, .ref s2, .ref s3, .ref s4, .ref s5, .ref s6, .int (0 : Int32), .int (0 : Int32), .int (-1 : Int32), .int (0 : Int32), .int (0 : Int32)])), (ho, .inl (cJ, 1, .inr (.inl g1)))] s.heap.size = A at hD hG ⊢
  have hA : ∀ q : Nat, s.heap.size ≤ q → A q := fun q h => by rw [← hAe]; exact Or.inr h
  have hS : va_S A s.heap s.heap [] := va_S.rf
  have hl := lv_entry ([.ref x, .long w0, .int p1, .ref ho]) (n := 6) (Nat.le_of_ble_eq_true rfl)
  rw [lg_entry_eq]
  generalize (lg_sl ([.ref x, .long w0, .int p1, .ref ho]) ++ List.replicate (6 - (lg_sl ([.ref x, .long w0, .int p1, .ref ho])).length) Slot.unset).toArray = ls at hl ⊢
  have hl : lv_has ls 6 [(0, .ref x), (1, .long w0), (3, .int p1), (4, .ref ho)] := hl
  refine lv_aload hx hb dL_certify_0 (lv_at hl 3 rfl) ?_
  refine lv_iconst (v := 0) hx hb dL_certify_2 (by decide) ?_
  refine lv_aload_n hx hb dL_certify_3 rfl (lv_at hl 0 rfl) ?_
  refine lv_lload_n hx hb dL_certify_4 rfl (lv_at hl 1 rfl) ?_
  refine lv_iload_n hx hb dL_certify_5 rfl (lv_at hl 2 rfl) ?_
  have hPc := hP.sub (ws' := [(x, .inr (10, [.ref tp, .ref ds, .ref rr, .ref so, .ref pu, .ref sn, .ref im, .ref cs, .ref cl, .int (0 : Int32)])), (rr, .inr (6, [.ref ds, .ref ri, .int 0, .int 1, .int 0, .int 0])), (ds, .inr (3, [.int pg, .ref dl, .ref dr, .ref dt, .int (1 : Int32), .int (-1 : Int32), .int (0 : Int32)])), (so, .inr (8, [.ref rr, .ref s1, .ref s2, .ref s3, .ref s4, .ref s5, .ref s6, .int (0 : Int32), .int (0 : Int32), .int (-1 : Int32), .int (0 : Int32), .int (0 : Int32)]))]) [0, 1, 2, 3] rfl
  have hKc := hK.sub (tys' := []) [] rfl
  refine vp_callSi (va_Run.run (va_runV (As := [.long w0, .int p1]) (rest := [.int (0 : Int32), .ref ho]) ⟨hx, hb, hml, hown, hts⟩ (k_X8_certify_4 l dC dI x w0 p1 rr ds so tp pu sn im cs cl ri pg dl dr dt s1 s2 s3 s4 s5 s6 hf0 hf1 hf2) (cwV 2 hts gL_certify_X8_certify rfl rfl rfl (by decide +kernel) ⟨Nat.le_of_ble_eq_true rfl, Nat.le_of_ble_eq_true rfl⟩) ⟨fun a U g mk q => by obtain ⟨q0, qP, qK, qG⟩ := q; exact ⟨q0, qP, va_K.moved (u := U) (U := U.calling g mk a) (Vm.Alike.refl U.vm) qK, qG.same rfl⟩, va_recv hK hP (ci := 10) (q := (RX8, TX8, 10)) rfl (q0 := 0) rfl, fun U hU hW => ⟨rfl, by rw [hU]; exact hPc, va_K.moved hW.alike hKc, hG.1.warm hW⟩⟩ rfl rfl hl.1 rfl (lv_room (Nat.le_of_ble_eq_true rfl)) dL_certify_6 ⟨Nat.le_of_ble_eq_true rfl, Nat.le_of_ble_eq_true rfl⟩)) (fun r_1 er_1 => ?_)
  subst er_1
  refine lv_i2l hx hb dL_certify_9 rfl ?_
  refine va_last hx hb hK hP hD hS 4 0 rfl rfl (by unfold vp_in; decide +kernel) dL_certify_10 (fun H locs hP hD hS => ?_)
  have hP : va_P (dC, dI) vwCl [(x, .inr (10, [.ref tp, .ref ds, .ref rr, .ref so, .ref pu, .ref sn, .ref im, .ref cs, .ref cl, .int (0 : Int32)])), (rr, .inr (6, [.ref ds, .ref ri, .int 0, .int 1, .int 0, .int 0])), (ds, .inr (3, [.int pg, .ref dl, .ref dr, .ref dt, .int (1 : Int32), .int (-1 : Int32), .int (0 : Int32)])), (so, .inr (8, [.ref rr, .ref s1, .ref s2, .ref s3, .ref s4, .ref s5, .ref s6, .int (0 : Int32), .int (0 : Int32), .int (-1 : Int32), .int (0 : Int32), .int (0 : Int32)])), (ho, .inl (cJ, 1, .inr (.inl (vp_updL g1 (0 : Int32).toNatClampNeg ((-6 : Int32).toInt64)))))] H := hP
  have hD : va_D A [(x, .inr (10, [.ref tp, .ref ds, .ref rr, .ref so, .ref pu, .ref sn, .ref im, .ref cs, .ref cl, .int (0 : Int32)])), (rr, .inr (6, [.ref ds, .ref ri, .int 0, .int 1, .int 0, .int 0])), (ds, .inr (3, [.int pg, .ref dl, .ref dr, .ref dt, .int (1 : Int32), .int (-1 : Int32), .int (0 : Int32)])), (so, .inr (8, [.ref rr, .ref s1, .ref s2, .ref s3, .ref s4, .ref s5, .ref s6, .int (0 : Int32), .int (0 : Int32), .int (-1 : Int32), .int (0 : Int32), .int (0 : Int32)])), (ho, .inl (cJ, 1, .inr (.inl (vp_updL g1 (0 : Int32).toNatClampNeg ((-6 : Int32).toInt64)))))] := hD
  refine lv_goto (tgt := 22) hx hb dL_certify_11 (by decide) ?_
  refine lv_iconst (v := 0) hx hb dL_certify_22 (by decide) ?_
  have hP := hP.sub (ws' := [(ho, .inl (cJ, 1, .inr (.inl (vp_updL g1 (0 : Int32).toNatClampNeg ((-6 : Int32).toInt64)))))]) [4] rfl
  have hD := hD.sub (ws' := [(ho, .inl (cJ, 1, .inr (.inl (vp_updL g1 (0 : Int32).toNatClampNeg ((-6 : Int32).toInt64)))))]) [4] (by decide) rfl
  have hK := hK.sub (tys' := [(cJ, .long)]) [0] rfl
  exact W.iret hx hb hr (fun t ht hW => ⟨⟨_, (), rfl, rfl, by rw [ht]; exact hP, va_K.moved hW.alike hK, hD⟩, hS.F ht⟩) hS.2.2 dL_certify_23

set_option maxHeartbeats 4000000 in
set_option maxRecDepth 100000 in
theorem k_X9_certify_4 (l : Launch) (dC : Nat → ClassId) (dI : Nat → Nat → Nat) (mo : Nat) (w0 : Int64) (p1 : Int32) (m_digestAt : Nat) (m_isGroup : Nat) (m_counts : Nat) (m_disk : Nat) (P : Nat) (m_tape : Nat) (m_slots : Nat) (m_leaves : Nat) (m_fresh : Nat) (m_versionRow : Nat) (m_state : Nat) (m_names : Nat) (m_keptRow : Nat) (m_inSlot : Nat) (m_inAt : Nat) (m_inSize : Nat) (m_inDigest : Nat) (d_digestAt : ClassId) (d_isGroup : ClassId) (d_counts : ClassId) (sz : Nat) (hf0 : 0 ≤ p1) (hf1 : p1 ≤ 15) (hf2 : 0 ≤ lg_cmp w0 (-128)) (hf3 : 0 < lg_cmp w0 (-1)) : Met l yX9_certify wsX9_certify ({ frames := 3, cells := 0, slots := 0, locals := 65 }) (va_Pc [.ref mo, .long w0, .int p1] (fun U => U.heap.size = sz ∧ va_P (dC, dI) vwCl [(mo, .inr (11, [.ref m_disk, .int (nI P), .int ((8224 : Int32) + ((26 : Int32) * (nI P))), .int (1 : Int32), .int 0, .int (-1 : Int32), .int 0, .int (0 : Int32), .ref m_tape, .int 0, .ref m_slots, .ref m_leaves, .int 0, .int 0, .ref m_fresh, .int 0, .int 0, .int 0, .ref m_digestAt, .ref m_isGroup, .ref m_counts, .int 0, .int 0, .long 0, .int 0, .ref m_versionRow, .int 0, .long 0, .ref m_state, .ref m_names, .int 0, .ref m_keptRow, .int 0, .ref m_inSlot, .ref m_inAt, .ref m_inSize, .ref m_inDigest, .int 0])), (m_digestAt, .inl (d_digestAt, 128, .inr (.inl (fun _ => 0)))), (m_isGroup, .inl (d_isGroup, 128, .inl (fun _ => 0))), (m_counts, .inl (d_counts, 128, .inl (fun _ => 0)))] U.heap ∧ va_K (dC, dI) vwCl [(d_digestAt, .long), (d_isGroup, .boolean), (d_counts, .boolean)] U ∧ va_D (fun _ => True) [(mo, .inr (11, [.ref m_disk, .int (nI P), .int ((8224 : Int32) + ((26 : Int32) * (nI P))), .int (1 : Int32), .int 0, .int (-1 : Int32), .int 0, .int (0 : Int32), .ref m_tape, .int 0, .ref m_slots, .ref m_leaves, .int 0, .int 0, .ref m_fresh, .int 0, .int 0, .int 0, .ref m_digestAt, .ref m_isGroup, .ref m_counts, .int 0, .int 0, .long 0, .int 0, .ref m_versionRow, .int 0, .long 0, .ref m_state, .ref m_names, .int 0, .ref m_keptRow, .int 0, .ref m_inSlot, .ref m_inAt, .ref m_inSize, .ref m_inDigest, .int 0])), (m_digestAt, .inl (d_digestAt, 128, .inr (.inl (fun _ => 0)))), (m_isGroup, .inl (d_isGroup, 128, .inl (fun _ => 0))), (m_counts, .inl (d_counts, 128, .inl (fun _ => 0)))])) (va_Qi (fun r (_ : Unit) => r = (-6 : Int32)) (fun (_ : Unit) t => va_P (dC, dI) vwCl [(mo, .inr (11, [.ref m_disk, .int (nI P), .int ((8224 : Int32) + ((26 : Int32) * (nI P))), .int (1 : Int32), .int 0, .int (-1 : Int32), .int 0, .int (0 : Int32), .ref m_tape, .int 0, .ref m_slots, .ref m_leaves, .int 0, .int 0, .ref m_fresh, .int 0, .int (0 : Int32), .int (0 : Int32), .ref m_digestAt, .ref m_isGroup, .ref m_counts, .int (-1 : Int32), .int (0 : Int32), .long (0 : Int64), .int (0 : Int32), .ref m_versionRow, .int (0 : Int32), .long (0 : Int64), .ref m_state, .ref m_names, .int 0, .ref m_keptRow, .int 0, .ref m_inSlot, .ref m_inAt, .ref m_inSize, .ref m_inDigest, .int 0]))] t.heap ∧ va_K (dC, dI) vwCl [(d_digestAt, .long), (d_isGroup, .boolean), (d_counts, .boolean)] t ∧ va_D (va_A [(mo, .inr (11, [.ref m_disk, .int (nI P), .int ((8224 : Int32) + ((26 : Int32) * (nI P))), .int (1 : Int32), .int 0, .int (-1 : Int32), .int 0, .int (0 : Int32), .ref m_tape, .int 0, .ref m_slots, .ref m_leaves, .int 0, .int 0, .ref m_fresh, .int 0, .int 0, .int 0, .ref m_digestAt, .ref m_isGroup, .ref m_counts, .int 0, .int 0, .long 0, .int 0, .ref m_versionRow, .int 0, .long 0, .ref m_state, .ref m_names, .int 0, .ref m_keptRow, .int 0, .ref m_inSlot, .ref m_inAt, .ref m_inSize, .ref m_inDigest, .int 0])), (m_digestAt, .inl (d_digestAt, 128, .inr (.inl (fun _ => 0)))), (m_isGroup, .inl (d_isGroup, 128, .inl (fun _ => 0))), (m_counts, .inl (d_counts, 128, .inl (fun _ => 0)))] sz) [(mo, .inr (11, [.ref m_disk, .int (nI P), .int ((8224 : Int32) + ((26 : Int32) * (nI P))), .int (1 : Int32), .int 0, .int (-1 : Int32), .int 0, .int (0 : Int32), .ref m_tape, .int 0, .ref m_slots, .ref m_leaves, .int 0, .int 0, .ref m_fresh, .int 0, .int (0 : Int32), .int (0 : Int32), .ref m_digestAt, .ref m_isGroup, .ref m_counts, .int (-1 : Int32), .int (0 : Int32), .long (0 : Int64), .int (0 : Int32), .ref m_versionRow, .int (0 : Int32), .long (0 : Int64), .ref m_state, .ref m_names, .int 0, .ref m_keptRow, .int 0, .ref m_inSlot, .ref m_inAt, .ref m_inSize, .ref m_inDigest, .int 0]))]) (va_A [(mo, .inr (11, [.ref m_disk, .int (nI P), .int ((8224 : Int32) + ((26 : Int32) * (nI P))), .int (1 : Int32), .int 0, .int (-1 : Int32), .int 0, .int (0 : Int32), .ref m_tape, .int 0, .ref m_slots, .ref m_leaves, .int 0, .int 0, .ref m_fresh, .int 0, .int 0, .int 0, .ref m_digestAt, .ref m_isGroup, .ref m_counts, .int 0, .int 0, .long 0, .int 0, .ref m_versionRow, .int 0, .long 0, .ref m_state, .ref m_names, .int 0, .ref m_keptRow, .int 0, .ref m_inSlot, .ref m_inAt, .ref m_inSize, .ref m_inDigest, .int 0])), (m_digestAt, .inl (d_digestAt, 128, .inr (.inl (fun _ => 0)))), (m_isGroup, .inl (d_isGroup, 128, .inl (fun _ => 0))), (m_counts, .inl (d_counts, 128, .inl (fun _ => 0)))] sz)) 0 0 (va_A [(mo, .inr (11, [.ref m_disk, .int (nI P), .int ((8224 : Int32) + ((26 : Int32) * (nI P))), .int (1 : Int32), .int 0, .int (-1 : Int32), .int 0, .int (0 : Int32), .ref m_tape, .int 0, .ref m_slots, .ref m_leaves, .int 0, .int 0, .ref m_fresh, .int 0, .int 0, .int 0, .ref m_digestAt, .ref m_isGroup, .ref m_counts, .int 0, .int 0, .long 0, .int 0, .ref m_versionRow, .int 0, .long 0, .ref m_state, .ref m_names, .int 0, .ref m_keptRow, .int 0, .ref m_inSlot, .ref m_inAt, .ref m_inSize, .ref m_inDigest, .int 0])), (m_digestAt, .inl (d_digestAt, 128, .inr (.inl (fun _ => 0)))), (m_isGroup, .inl (d_isGroup, 128, .inl (fun _ => 0))), (m_counts, .inl (d_counts, 128, .inl (fun _ => 0)))] sz) := by
  refine Met.ofW (cc := cX9_certify) (maxL := 7) (ret := (some .int)) (by decide) rfl ?_
  intro p e s m args below meth c s₁ B hml hv
  obtain ⟨rfl, hsz, hP, hK, hD0⟩ := hv
  have hx := B.exec
  have hb := B.bytes
  have hr := B.returns
  have hts := atoms_spec (ws := wsX9_certify) B.pre
  have hown : s.vm.findClass RX9 = some m.cls := findClass_of_methodNamed B.named
  have hlocks := B.notSynchronized
  subst hsz
  have hD := hD0.self (sz := s.heap.size)
  generalize hAe : va_A [(mo, .inr (11, [.ref m_disk, .int (nI P), .int ((8224 : Int32) + ((26 : Int32) * (nI P))), .int (1 : Int32), .int 0, .int (-1 : Int32), .int 0, .int (0 : Int32), .ref m_tape, .int 0, .ref m_slots, .ref m_leaves, .int 0, .int 0, .ref m_fresh, .int 0, .int 0, .int 0, .ref m_digestAt, .ref m_isGroup, .ref m_counts, .int 0, .int 0, .long 0, .int 0, .ref m_versionRow, .int 0, .long 0, .ref m_state, .ref m_names, .int 0, .ref m_keptRow, .int 0, .ref m_inSlot, .ref m_inAt, .ref m_inSize, .ref m_inDigest, .int 0])), (m_digestAt, .inl (d_digestAt, 128, .inr (.inl (fun _ => 0)))), (m_isGroup, .inl (d_isGroup, 128, .inl (fun _ => 0))), (m_counts, .inl (d_counts, 128, .inl (fun _ => 0)))] s.heap.size = A at hD ⊢
  have hA : ∀ q : Nat, s.heap.size ≤ q → A q := fun q h => by rw [← hAe]; exact Or.inr h
  have hS : va_S A s.heap s.heap [] := va_S.rf
  have hl := lv_entry ([.ref mo, .long w0, .int p1]) (n := 7) (Nat.le_of_ble_eq_true rfl)
  rw [lg_entry_eq]
  generalize (lg_sl ([.ref mo, .long w0, .int p1]) ++ List.replicate (7 - (lg_sl ([.ref mo, .long w0, .int p1])).length) Slot.unset).toArray = ls at hl ⊢
  have hl : lv_has ls 7 [(0, .ref mo), (1, .long w0), (3, .int p1)] := hl
  refine lv_aload_n hx hb dX9_certify_0 rfl (lv_at hl 0 rfl) ?_
  refine lv_aload_n hx hb dX9_certify_1 rfl (lv_at hl 0 rfl) ?_
  refine va_get (D := (dC, dI)) (ci := 11) (v := .int (1 : Int32)) (C := RX9) (T := TX9) (N := 38) hx hb hts (by decide +kernel) hown hK hP 0 rfl rfl 3 (by decide) (hts (.fieldLink RX9 72 "BlockLogModel" "on" "Z") (by decide +kernel)) (fun _ h9 => h9) rfl dX9_certify_2 ?_
  refine lv_if_ne (tgt := 12) hx hb dX9_certify_5 (by decide) (fun c_1 => ?_) (fun c_1 => ?_)
  · skip
    refine lv_iload_n hx hb dX9_certify_12 rfl (lv_at hl 2 rfl) ?_
    refine lv_iconst (v := 0) hx hb dX9_certify_13 (by decide) ?_
    refine lv_bipush (v := 15) hx hb dX9_certify_14 (by decide) ?_
    have hPc := hP.sub (ws' := []) [] rfl
    have hKc := hK.sub (tys' := []) [] rfl
    refine vp_callSi (va_Run.run (va_runS (As := [.int p1, .int (0 : Int32), .int (15 : Int32)]) (rest := [.ref mo]) ⟨hx, hb, hml, hown, hts⟩ (k_X9_within_3 l dC dI p1 (0 : Int32) (15 : Int32) hf0 hf1) (va_cwS 3 hts gX9_certify_X9_within rfl rfl rfl (by decide +kernel) ⟨Nat.le_of_ble_eq_true rfl, Nat.le_of_ble_eq_true rfl⟩) ⟨fun a U g mk q => by obtain ⟨q0, qP, qK⟩ := q; exact ⟨q0, qP, va_K.moved (u := U) (U := U.calling g mk a) (Vm.Alike.refl U.vm) qK⟩, fun U hU hW => ⟨rfl, by rw [hU]; exact hPc, va_K.moved hW.alike hKc⟩⟩ rfl rfl hl.1 rfl (lv_room (Nat.le_of_ble_eq_true rfl)) dX9_certify_16 ⟨Nat.le_of_ble_eq_true rfl, Nat.le_of_ble_eq_true rfl⟩)) (fun r_2 er_2 => ?_)
    subst er_2
    refine lv_if_ne (tgt := 26) hx hb dX9_certify_19 (by decide) (fun c_3 => ?_) (fun c_3 => ?_)
    · skip
      refine lv_iconst (v := 0) hx hb dX9_certify_26 (by decide) ?_
      refine va_put (D := (dC, dI)) (ci := 11) (v := .int (0 : Int32)) (ty := .int) (C := RX9) (T := TX9) (N := 38) hx hb hts (by decide +kernel) tyX9 tyX9_ok nmX9 hown hK hP hD hS 0 rfl rfl 13 (by decide) (hts (.fieldLink RX9 91 "BlockLogModel" "thrown" "I") (by decide +kernel)) (fun _ h9 => h9) rfl (by decide +kernel) rfl rfl (Nat.le_of_ble_eq_true rfl) dX9_certify_27 (fun H locs hP hD hS => ?_)
      have hP : va_P (dC, dI) vwCl [(mo, .inr (11, [.ref m_disk, .int (nI P), .int ((8224 : Int32) + ((26 : Int32) * (nI P))), .int (1 : Int32), .int 0, .int (-1 : Int32), .int 0, .int (0 : Int32), .ref m_tape, .int 0, .ref m_slots, .ref m_leaves, .int 0, .int (0 : Int32), .ref m_fresh, .int 0, .int 0, .int 0, .ref m_digestAt, .ref m_isGroup, .ref m_counts, .int 0, .int 0, .long 0, .int 0, .ref m_versionRow, .int 0, .long 0, .ref m_state, .ref m_names, .int 0, .ref m_keptRow, .int 0, .ref m_inSlot, .ref m_inAt, .ref m_inSize, .ref m_inDigest, .int 0])), (m_digestAt, .inl (d_digestAt, 128, .inr (.inl (fun _ => 0)))), (m_isGroup, .inl (d_isGroup, 128, .inl (fun _ => 0))), (m_counts, .inl (d_counts, 128, .inl (fun _ => 0)))] H := hP
      have hD : va_D A [(mo, .inr (11, [.ref m_disk, .int (nI P), .int ((8224 : Int32) + ((26 : Int32) * (nI P))), .int (1 : Int32), .int 0, .int (-1 : Int32), .int 0, .int (0 : Int32), .ref m_tape, .int 0, .ref m_slots, .ref m_leaves, .int 0, .int (0 : Int32), .ref m_fresh, .int 0, .int 0, .int 0, .ref m_digestAt, .ref m_isGroup, .ref m_counts, .int 0, .int 0, .long 0, .int 0, .ref m_versionRow, .int 0, .long 0, .ref m_state, .ref m_names, .int 0, .ref m_keptRow, .int 0, .ref m_inSlot, .ref m_inAt, .ref m_inSize, .ref m_inDigest, .int 0])), (m_digestAt, .inl (d_digestAt, 128, .inr (.inl (fun _ => 0)))), (m_isGroup, .inl (d_isGroup, 128, .inl (fun _ => 0))), (m_counts, .inl (d_counts, 128, .inl (fun _ => 0)))] := hD
      refine lv_aload_n hx hb dX9_certify_30 rfl (lv_at hl 0 rfl) ?_
      refine va_get (D := (dC, dI)) (ci := 11) (v := .int (0 : Int32)) (C := RX9) (T := TX9) (N := 38) hx hb hts (by decide +kernel) hown hK hP 0 rfl rfl 13 (by decide) (hts (.fieldLink RX9 91 "BlockLogModel" "thrown" "I") (by decide +kernel)) (fun _ h9 => h9) rfl dX9_certify_31 ?_
      refine lv_if_le (tgt := 39) hx hb dX9_certify_34 (by decide) (fun c_4 => ?_) (fun c_4 => ?_)
      · skip
        refine lv_aload_n hx hb dX9_certify_39 rfl (lv_at hl 0 rfl) ?_
        have hPc := hP.sub (ws' := [(mo, .inr (11, [.ref m_disk, .int (nI P), .int ((8224 : Int32) + ((26 : Int32) * (nI P))), .int (1 : Int32), .int 0, .int (-1 : Int32), .int 0, .int (0 : Int32), .ref m_tape, .int 0, .ref m_slots, .ref m_leaves, .int 0, .int (0 : Int32), .ref m_fresh, .int 0, .int 0, .int 0, .ref m_digestAt, .ref m_isGroup, .ref m_counts, .int 0, .int 0, .long 0, .int 0, .ref m_versionRow, .int 0, .long 0, .ref m_state, .ref m_names, .int 0, .ref m_keptRow, .int 0, .ref m_inSlot, .ref m_inAt, .ref m_inSize, .ref m_inDigest, .int 0])), (m_digestAt, .inl (d_digestAt, 128, .inr (.inl (fun _ => 0)))), (m_isGroup, .inl (d_isGroup, 128, .inl (fun _ => 0))), (m_counts, .inl (d_counts, 128, .inl (fun _ => 0)))]) [0, 1, 2, 3] rfl
        have hKc := hK.sub (tys' := [(d_digestAt, .long), (d_isGroup, .boolean), (d_counts, .boolean)]) [0, 1, 2] rfl
        have hDc := hD.sub (ws' := [(mo, .inr (11, [.ref m_disk, .int (nI P), .int ((8224 : Int32) + ((26 : Int32) * (nI P))), .int (1 : Int32), .int 0, .int (-1 : Int32), .int 0, .int (0 : Int32), .ref m_tape, .int 0, .ref m_slots, .ref m_leaves, .int 0, .int (0 : Int32), .ref m_fresh, .int 0, .int 0, .int 0, .ref m_digestAt, .ref m_isGroup, .ref m_counts, .int 0, .int 0, .long 0, .int 0, .ref m_versionRow, .int 0, .long 0, .ref m_state, .ref m_names, .int 0, .ref m_keptRow, .int 0, .ref m_inSlot, .ref m_inAt, .ref m_inSize, .ref m_inDigest, .int 0])), (m_digestAt, .inl (d_digestAt, 128, .inr (.inl (fun _ => 0)))), (m_isGroup, .inl (d_isGroup, 128, .inl (fun _ => 0))), (m_counts, .inl (d_counts, 128, .inl (fun _ => 0)))]) [0, 1, 2, 3] (by decide) rfl
        have hFc := va_free (wc := [(mo, .inr (11, [.ref m_disk, .int (nI P), .int ((8224 : Int32) + ((26 : Int32) * (nI P))), .int (1 : Int32), .int 0, .int (-1 : Int32), .int 0, .int (0 : Int32), .ref m_tape, .int 0, .ref m_slots, .ref m_leaves, .int 0, .int (0 : Int32), .ref m_fresh, .int 0, .int 0, .int 0, .ref m_digestAt, .ref m_isGroup, .ref m_counts, .int 0, .int 0, .long 0, .int 0, .ref m_versionRow, .int 0, .long 0, .ref m_state, .ref m_names, .int 0, .ref m_keptRow, .int 0, .ref m_inSlot, .ref m_inAt, .ref m_inSize, .ref m_inDigest, .int 0])), (m_digestAt, .inl (d_digestAt, 128, .inr (.inl (fun _ => 0)))), (m_isGroup, .inl (d_isGroup, 128, .inl (fun _ => 0))), (m_counts, .inl (d_counts, 128, .inl (fun _ => 0)))]) hD hS hA [0, 1, 2, 3] rfl
        refine va_callv (va_runV (As := []) (rest := []) ⟨hx, hb, hml, hown, hts⟩ (k_X9_read_1 l dC dI mo m_digestAt m_isGroup m_counts m_disk P m_tape m_slots m_leaves m_fresh m_versionRow m_state m_names m_keptRow m_inSlot m_inAt m_inSize m_inDigest d_digestAt d_isGroup d_counts _) (cwV 0 hts gX9_certify_X9_read rfl rfl rfl (by decide +kernel) ⟨Nat.le_of_ble_eq_true rfl, Nat.le_of_ble_eq_true rfl⟩) ⟨fun a U g mk q => by obtain ⟨q0, q1, qP, qK, qD⟩ := q; exact ⟨q0, q1, qP, va_K.moved (u := U) (U := U.calling g mk a) (Vm.Alike.refl U.vm) qK, qD⟩, va_recv hK hP (ci := 11) (q := (RX9, TX9, 38)) rfl (q0 := 0) rfl, fun U hU hW => ⟨rfl, by rw [hU], by rw [hU]; exact hPc, va_K.moved hW.alike hKc, hDc.weaken (fun _ _ _ _ => trivial)⟩⟩ rfl rfl hl.1 rfl (lv_room (Nat.le_of_ble_eq_true rfl)) dX9_certify_40 ⟨Nat.le_of_ble_eq_true rfl, Nat.le_of_ble_eq_true rfl⟩) hS (fun q _ h => hFc q h) hFc (fun u t H1 locs ht hvm er_5 hB hz1 hk1 hS => ?_)
        obtain ⟨hP1, hK1, hD1⟩ := hB
        rw [ht] at hP1
        obtain ⟨hP, hD⟩ := va_join (wr := []) (w1 := [(mo, .inr (11, [.ref m_disk, .int (nI P), .int ((8224 : Int32) + ((26 : Int32) * (nI P))), .int (1 : Int32), .int 0, .int (-1 : Int32), .int 0, .int (0 : Int32), .ref m_tape, .int 0, .ref m_slots, .ref m_leaves, .int 0, .int 0, .ref m_fresh, .int 0, .int (0 : Int32), .int (0 : Int32), .ref m_digestAt, .ref m_isGroup, .ref m_counts, .int (-1 : Int32), .int (0 : Int32), .long (0 : Int64), .int (0 : Int32), .ref m_versionRow, .int (0 : Int32), .long (0 : Int64), .ref m_state, .ref m_names, .int 0, .ref m_keptRow, .int 0, .ref m_inSlot, .ref m_inAt, .ref m_inSize, .ref m_inDigest, .int 0])), (m_digestAt, .inl (d_digestAt, 128, .inr (.inl (zr_L 128)))), (m_isGroup, .inl (d_isGroup, 128, .inl (zr_Z 128))), (m_counts, .inl (d_counts, 128, .inl (zr_Z 128)))]) hP hD [0, 1, 2, 3] [] rfl rfl (by decide) (by decide) hk1 hFc hP1 hD1
        clear hPc hDc hFc hP1 hD1 hk1 hz1
        generalize H1 = H at hP hS ⊢
        have hP : va_P (dC, dI) vwCl [(mo, .inr (11, [.ref m_disk, .int (nI P), .int ((8224 : Int32) + ((26 : Int32) * (nI P))), .int (1 : Int32), .int 0, .int (-1 : Int32), .int 0, .int (0 : Int32), .ref m_tape, .int 0, .ref m_slots, .ref m_leaves, .int 0, .int 0, .ref m_fresh, .int 0, .int (0 : Int32), .int (0 : Int32), .ref m_digestAt, .ref m_isGroup, .ref m_counts, .int (-1 : Int32), .int (0 : Int32), .long (0 : Int64), .int (0 : Int32), .ref m_versionRow, .int (0 : Int32), .long (0 : Int64), .ref m_state, .ref m_names, .int 0, .ref m_keptRow, .int 0, .ref m_inSlot, .ref m_inAt, .ref m_inSize, .ref m_inDigest, .int 0])), (m_digestAt, .inl (d_digestAt, 128, .inr (.inl (zr_L 128)))), (m_isGroup, .inl (d_isGroup, 128, .inl (zr_Z 128))), (m_counts, .inl (d_counts, 128, .inl (zr_Z 128)))] H := hP
        have hD : va_D A [(mo, .inr (11, [.ref m_disk, .int (nI P), .int ((8224 : Int32) + ((26 : Int32) * (nI P))), .int (1 : Int32), .int 0, .int (-1 : Int32), .int 0, .int (0 : Int32), .ref m_tape, .int 0, .ref m_slots, .ref m_leaves, .int 0, .int 0, .ref m_fresh, .int 0, .int (0 : Int32), .int (0 : Int32), .ref m_digestAt, .ref m_isGroup, .ref m_counts, .int (-1 : Int32), .int (0 : Int32), .long (0 : Int64), .int (0 : Int32), .ref m_versionRow, .int (0 : Int32), .long (0 : Int64), .ref m_state, .ref m_names, .int 0, .ref m_keptRow, .int 0, .ref m_inSlot, .ref m_inAt, .ref m_inSize, .ref m_inDigest, .int 0])), (m_digestAt, .inl (d_digestAt, 128, .inr (.inl (zr_L 128)))), (m_isGroup, .inl (d_isGroup, 128, .inl (zr_Z 128))), (m_counts, .inl (d_counts, 128, .inl (zr_Z 128)))] := hD
        refine lv_aload_n hx hb dX9_certify_43 rfl (lv_at hl 0 rfl) ?_
        refine va_get (D := (dC, dI)) (ci := 11) (v := .int (0 : Int32)) (C := RX9) (T := TX9) (N := 38) hx hb hts (by decide +kernel) hown hK hP 0 rfl rfl 17 (by decide) (hts (.fieldLink RX9 176 "BlockLogModel" "needs" "Z") (by decide +kernel)) (fun _ h9 => h9) rfl dX9_certify_44 ?_
        refine lv_if_eq (tgt := 53) hx hb dX9_certify_47 (by decide) (fun c_6 => ?_) (fun c_6 => ?_)
        · skip
          refine lv_aload_n hx hb dX9_certify_53 rfl (lv_at hl 0 rfl) ?_
          refine lv_aload_n hx hb dX9_certify_54 rfl (lv_at hl 0 rfl) ?_
          refine lv_lload_n hx hb dX9_certify_55 rfl (lv_at hl 1 rfl) ?_
          have hPc := hP.sub (ws' := []) [] rfl
          have hKc := hK.sub (tys' := []) [] rfl
          refine vp_callSl (va_Run.run (va_runV (As := [.long w0]) (rest := [.ref mo]) ⟨hx, hb, hml, hown, hts⟩ (k_X9_meant_2 l dC dI mo w0 hf2 hf3) (cwV 1 hts gX9_certify_X9_meant rfl rfl rfl (by decide +kernel) ⟨Nat.le_of_ble_eq_true rfl, Nat.le_of_ble_eq_true rfl⟩) ⟨fun a U g mk q => by obtain ⟨q0, qP, qK⟩ := q; exact ⟨q0, qP, va_K.moved (u := U) (U := U.calling g mk a) (Vm.Alike.refl U.vm) qK⟩, va_recv hK hP (ci := 11) (q := (RX9, TX9, 38)) rfl (q0 := 0) rfl, fun U hU hW => ⟨rfl, by rw [hU]; exact hPc, va_K.moved hW.alike hKc⟩⟩ rfl rfl hl.1 rfl (lv_room (Nat.le_of_ble_eq_true rfl)) dX9_certify_56 ⟨Nat.le_of_ble_eq_true rfl, Nat.le_of_ble_eq_true rfl⟩)) (fun r_7 er_7 => ?_)
          replace er_7 := er_7.symm
          subst er_7
          refine lv_aload_n hx hb dX9_certify_59 rfl (lv_at hl 0 rfl) ?_
          refine va_get (D := (dC, dI)) (ci := 11) (v := .int (0 : Int32)) (C := RX9) (T := TX9) (N := 38) hx hb hts (by decide +kernel) hown hK hP 0 rfl rfl 16 (by decide) (hts (.fieldLink RX9 167 "BlockLogModel" "many" "I") (by decide +kernel)) (fun _ h9 => h9) rfl dX9_certify_60 ?_
          have hPc := hP.sub (ws' := []) [] rfl
          have hKc := hK.sub (tys' := []) [] rfl
          refine vp_callSi (va_Run.run (va_runV (As := [.long w0, .int (0 : Int32)]) (rest := []) ⟨hx, hb, hml, hown, hts⟩ (k_X9_blockRow_2 l dC dI mo w0) (cwV 2 hts gX9_certify_X9_blockRow rfl rfl rfl (by decide +kernel) ⟨Nat.le_of_ble_eq_true rfl, Nat.le_of_ble_eq_true rfl⟩) ⟨fun a U g mk q => by obtain ⟨q0, qP, qK⟩ := q; exact ⟨q0, qP, va_K.moved (u := U) (U := U.calling g mk a) (Vm.Alike.refl U.vm) qK⟩, va_recv hK hP (ci := 11) (q := (RX9, TX9, 38)) rfl (q0 := 0) rfl, fun U hU hW => ⟨rfl, by rw [hU]; exact hPc, va_K.moved hW.alike hKc⟩⟩ rfl rfl hl.1 rfl (lv_room (Nat.le_of_ble_eq_true rfl)) dX9_certify_63 ⟨Nat.le_of_ble_eq_true rfl, Nat.le_of_ble_eq_true rfl⟩)) (fun r_8 er_8 => ?_)
          subst er_8
          refine lv_istore (lv' := [(4, .int (-1 : Int32)), (0, .ref mo), (1, .long w0), (3, .int p1)]) hx hb dX9_certify_66 hl (by decide) rfl (fun ls hl => ?_)
          refine lv_iload hx hb dX9_certify_68 (lv_at hl 0 rfl) ?_
          refine lv_iconst (v := (-1)) hx hb dX9_certify_70 (by decide) ?_
          refine lv_icmp_ne (tgt := 77) hx hb dX9_certify_71 (by decide) (fun c_9 => ?_) (fun c_9 => ?_)
          · skip
            exact absurd (by decide) c_9
          · skip
            refine lv_bipush (v := (-6)) hx hb dX9_certify_74 (by decide) ?_
            have hP := hP.sub (ws' := [(mo, .inr (11, [.ref m_disk, .int (nI P), .int ((8224 : Int32) + ((26 : Int32) * (nI P))), .int (1 : Int32), .int 0, .int (-1 : Int32), .int 0, .int (0 : Int32), .ref m_tape, .int 0, .ref m_slots, .ref m_leaves, .int 0, .int 0, .ref m_fresh, .int 0, .int (0 : Int32), .int (0 : Int32), .ref m_digestAt, .ref m_isGroup, .ref m_counts, .int (-1 : Int32), .int (0 : Int32), .long (0 : Int64), .int (0 : Int32), .ref m_versionRow, .int (0 : Int32), .long (0 : Int64), .ref m_state, .ref m_names, .int 0, .ref m_keptRow, .int 0, .ref m_inSlot, .ref m_inAt, .ref m_inSize, .ref m_inDigest, .int 0]))]) [0] rfl
            have hD := hD.sub (ws' := [(mo, .inr (11, [.ref m_disk, .int (nI P), .int ((8224 : Int32) + ((26 : Int32) * (nI P))), .int (1 : Int32), .int 0, .int (-1 : Int32), .int 0, .int (0 : Int32), .ref m_tape, .int 0, .ref m_slots, .ref m_leaves, .int 0, .int 0, .ref m_fresh, .int 0, .int (0 : Int32), .int (0 : Int32), .ref m_digestAt, .ref m_isGroup, .ref m_counts, .int (-1 : Int32), .int (0 : Int32), .long (0 : Int64), .int (0 : Int32), .ref m_versionRow, .int (0 : Int32), .long (0 : Int64), .ref m_state, .ref m_names, .int 0, .ref m_keptRow, .int 0, .ref m_inSlot, .ref m_inAt, .ref m_inSize, .ref m_inDigest, .int 0]))]) [0] (by decide) rfl
            have hK := hK.sub (tys' := [(d_digestAt, .long), (d_isGroup, .boolean), (d_counts, .boolean)]) [0, 1, 2] rfl
            exact W.iret hx hb hr (fun t ht hW => ⟨⟨_, (), rfl, rfl, by rw [ht]; exact hP, va_K.moved hW.alike hK, hD⟩, hS.F ht⟩) hS.2.2 dX9_certify_76
        · skip
          exact absurd (by decide) c_6
      · skip
        exact absurd (by decide) c_4
    · skip
      exact absurd c_3 (by decide)
  · skip
    exact absurd c_1 (by decide)

set_option maxHeartbeats 4000000 in
set_option maxRecDepth 100000 in
theorem k_X8_certify_5 (l : Launch) (dC : Nat → ClassId) (dI : Nat → Nat → Nat) (x : Nat) (w0 : Int64) (p1 : Int32) (rr : Nat) (ds : Nat) (so : Nat) (tp : Nat) (pu : Nat) (sn : Nat) (im : Nat) (cs : Nat) (cl : Nat) (ri : Nat) (pg : Int32) (dl : Nat) (dr : Nat) (dt : Nat) (s1 : Nat) (s2 : Nat) (s3 : Nat) (s4 : Nat) (s5 : Nat) (s6 : Nat) (hf0 : 0 ≤ p1) (hf1 : p1 ≤ 15) (hf2 : lg_cmp w0 (0) < 0) (hf3 : lg_cmp w0 (-128) < 0) : Met l yX8_certify wsX8_certify ({ frames := 1, cells := 0, slots := 0, locals := 23 }) (va_Pc [.ref x, .long w0, .int p1] (fun U => va_P (dC, dI) vwCl [(x, .inr (10, [.ref tp, .ref ds, .ref rr, .ref so, .ref pu, .ref sn, .ref im, .ref cs, .ref cl, .int (0 : Int32)])), (rr, .inr (6, [.ref ds, .ref ri, .int 0, .int 1, .int 0, .int 0])), (ds, .inr (3, [.int pg, .ref dl, .ref dr, .ref dt, .int (1 : Int32), .int (-1 : Int32), .int (0 : Int32)])), (so, .inr (8, [.ref rr, .ref s1, .ref s2, .ref s3, .ref s4, .ref s5, .ref s6, .int (0 : Int32), .int (0 : Int32), .int (-1 : Int32), .int (0 : Int32), .int (0 : Int32)]))] U.heap ∧ va_K (dC, dI) vwCl [] U ∧ gx_W U)) (vp_Si (fun r => r = (-6 : Int32))) 0 0 (fun _ => False) := by
  refine Met.ofW (cc := cX8_certify) (maxL := 8) (ret := (some .int)) (by decide) rfl ?_
  intro p e s m args below meth c s₁ B hml hv
  obtain ⟨rfl, hP, hK, hG⟩ := hv
  have hx := B.exec
  have hb := B.bytes
  have hr := B.returns
  have hts := atoms_spec (ws := wsX8_certify) B.pre
  have hown : s.vm.findClass RX8 = some m.cls := findClass_of_methodNamed B.named
  have hlocks := B.notSynchronized
  have hl := lv_entry ([.ref x, .long w0, .int p1]) (n := 8) (Nat.le_of_ble_eq_true rfl)
  rw [lg_entry_eq]
  generalize (lg_sl ([.ref x, .long w0, .int p1]) ++ List.replicate (8 - (lg_sl ([.ref x, .long w0, .int p1])).length) Slot.unset).toArray = ls at hl ⊢
  have hl : lv_has ls 8 [(0, .ref x), (1, .long w0), (3, .int p1)] := hl
  refine lv_aload_n hx hb dX8_certify_0 rfl (lv_at hl 0 rfl) ?_
  have hPc := hP.sub (ws' := [(x, .inr (10, [.ref tp, .ref ds, .ref rr, .ref so, .ref pu, .ref sn, .ref im, .ref cs, .ref cl, .int (0 : Int32)])), (ds, .inr (3, [.int pg, .ref dl, .ref dr, .ref dt, .int (1 : Int32), .int (-1 : Int32), .int (0 : Int32)]))]) [0, 2] rfl
  have hKc := hK.sub (tys' := []) [] rfl
  refine va_csv (va_Run.run (va_runV (As := []) (rest := []) ⟨hx, hb, hml, hown, hts⟩ (k_X8_demandPower_1 l dC dI x ds tp rr so pu sn im cs cl pg dl dr dt) (cwV 0 hts gX8_certify_X8_demandPower rfl rfl rfl (by decide +kernel) ⟨Nat.le_of_ble_eq_true rfl, Nat.le_of_ble_eq_true rfl⟩) ⟨fun a U g mk q => by obtain ⟨q0, qP, qK, qG⟩ := q; exact ⟨q0, qP, va_K.moved (u := U) (U := U.calling g mk a) (Vm.Alike.refl U.vm) qK, qG.same rfl⟩, va_recv hK hP (ci := 10) (q := (RX8, TX8, 10)) rfl (q0 := 0) rfl, fun U hU hW => ⟨rfl, by rw [hU]; exact hPc, va_K.moved hW.alike hKc, hG.warm hW⟩⟩ rfl rfl hl.1 rfl (lv_room (Nat.le_of_ble_eq_true rfl)) dX8_certify_1 ⟨Nat.le_of_ble_eq_true rfl, Nat.le_of_ble_eq_true rfl⟩)) (fun _ => ?_)
  refine lv_iload_n hx hb dX8_certify_4 rfl (lv_at hl 2 rfl) ?_
  refine lv_if_lt (tgt := 14) hx hb dX8_certify_5 (by decide) (fun c_2 => ?_) (fun c_2 => ?_)
  · skip
    exact absurd c_2 (Int32.not_lt.mpr hf0)
  · skip
    refine lv_iload_n hx hb dX8_certify_8 rfl (lv_at hl 2 rfl) ?_
    refine lv_bipush (v := 15) hx hb dX8_certify_9 (by decide) ?_
    refine lv_icmp_le (tgt := 24) hx hb dX8_certify_11 (by decide) (fun c_3 => ?_) (fun c_3 => ?_)
    · skip
      refine lv_aload_n hx hb dX8_certify_24 rfl (lv_at hl 0 rfl) ?_
      refine va_get (D := (dC, dI)) (ci := 10) (v := .ref rr) (C := RX8) (T := TX8) (N := 10) hx hb hts (by decide +kernel) hown hK hP 0 rfl rfl 2 (by decide) (hts (.fieldLink RX8 31 "BlockLog" "rows" "LBlockLog$Rows;") (by decide +kernel)) (fun _ h9 => h9) rfl dX8_certify_25 ?_
      have hPc := hP.sub (ws' := [(rr, .inr (6, [.ref ds, .ref ri, .int 0, .int 1, .int 0, .int 0]))]) [1] rfl
      have hKc := hK.sub (tys' := []) [] rfl
      refine vp_callSi (va_Run.run (va_runV (As := []) (rest := []) ⟨hx, hb, hml, hown, hts⟩ (k_X4_inNeed_1 l dC dI rr ds ri) (cwV 0 hts gX8_certify_X4_inNeed rfl rfl rfl (by decide +kernel) ⟨Nat.le_of_ble_eq_true rfl, Nat.le_of_ble_eq_true rfl⟩) ⟨fun a U g mk q => by obtain ⟨q0, qP, qK⟩ := q; exact ⟨q0, qP, va_K.moved (u := U) (U := U.calling g mk a) (Vm.Alike.refl U.vm) qK⟩, va_recv hK hP (ci := 6) (q := (RX4, TX4, 6)) rfl (q0 := 1) rfl, fun U hU hW => ⟨rfl, by rw [hU]; exact hPc, va_K.moved hW.alike hKc⟩⟩ rfl rfl hl.1 rfl (lv_room (Nat.le_of_ble_eq_true rfl)) dX8_certify_28 ⟨Nat.le_of_ble_eq_true rfl, Nat.le_of_ble_eq_true rfl⟩)) (fun r_4 er_4 => ?_)
      subst er_4
      refine lv_if_eq (tgt := 37) hx hb dX8_certify_31 (by decide) (fun c_5 => ?_) (fun c_5 => ?_)
      · skip
        refine lv_aload_n hx hb dX8_certify_37 rfl (lv_at hl 0 rfl) ?_
        refine va_get (D := (dC, dI)) (ci := 10) (v := .ref so) (C := RX8) (T := TX8) (N := 10) hx hb hts (by decide +kernel) hown hK hP 0 rfl rfl 3 (by decide) (hts (.fieldLink RX8 40 "BlockLog" "story" "LBlockLog$Story;") (by decide +kernel)) (fun _ h9 => h9) rfl dX8_certify_38 ?_
        refine lv_lload_n hx hb dX8_certify_41 rfl (lv_at hl 1 rfl) ?_
        have hPc := hP.sub (ws' := []) [] rfl
        have hKc := hK.sub (tys' := []) [] rfl
        refine vp_callSl (va_Run.run (va_runV (As := [.long w0]) (rest := []) ⟨hx, hb, hml, hown, hts⟩ (k_X6_meant_3 l dC dI so w0 hf2 hf3) (cwV 1 hts gX8_certify_X6_meant rfl rfl rfl (by decide +kernel) ⟨Nat.le_of_ble_eq_true rfl, Nat.le_of_ble_eq_true rfl⟩) ⟨fun a U g mk q => by obtain ⟨q0, qP, qK⟩ := q; exact ⟨q0, qP, va_K.moved (u := U) (U := U.calling g mk a) (Vm.Alike.refl U.vm) qK⟩, va_recv hK hP (ci := 8) (q := (RX6, TX6, 12)) rfl (q0 := 3) rfl, fun U hU hW => ⟨rfl, by rw [hU]; exact hPc, va_K.moved hW.alike hKc⟩⟩ rfl rfl hl.1 rfl (lv_room (Nat.le_of_ble_eq_true rfl)) dX8_certify_42 ⟨Nat.le_of_ble_eq_true rfl, Nat.le_of_ble_eq_true rfl⟩)) (fun r_6 er_6 => ?_)
        replace er_6 := er_6.symm
        subst er_6
        refine lv_lstore (lv' := [(4, .long w0), (0, .ref x), (1, .long w0), (3, .int p1)]) hx hb dX8_certify_45 hl (by decide) rfl (fun ls hl => ?_)
        refine lv_aload_n hx hb dX8_certify_47 rfl (lv_at hl 1 rfl) ?_
        refine va_get (D := (dC, dI)) (ci := 10) (v := .ref so) (C := RX8) (T := TX8) (N := 10) hx hb hts (by decide +kernel) hown hK hP 0 rfl rfl 3 (by decide) (hts (.fieldLink RX8 40 "BlockLog" "story" "LBlockLog$Story;") (by decide +kernel)) (fun _ h9 => h9) rfl dX8_certify_48 ?_
        refine lv_lload hx hb dX8_certify_51 (lv_at hl 0 rfl) ?_
        have hPc := hP.sub (ws' := [(so, .inr (8, [.ref rr, .ref s1, .ref s2, .ref s3, .ref s4, .ref s5, .ref s6, .int (0 : Int32), .int (0 : Int32), .int (-1 : Int32), .int (0 : Int32), .int (0 : Int32)]))]) [3] rfl
        have hKc := hK.sub (tys' := []) [] rfl
        refine vp_callSi (va_Run.run (va_runV (As := [.long w0]) (rest := []) ⟨hx, hb, hml, hown, hts⟩ (k_X6_blockRow_2 l dC dI so w0 rr s1 s2 s3 s4 s5 s6) (cwV 1 hts gX8_certify_X6_blockRow rfl rfl rfl (by decide +kernel) ⟨Nat.le_of_ble_eq_true rfl, Nat.le_of_ble_eq_true rfl⟩) ⟨fun a U g mk q => by obtain ⟨q0, qP, qK⟩ := q; exact ⟨q0, qP, va_K.moved (u := U) (U := U.calling g mk a) (Vm.Alike.refl U.vm) qK⟩, va_recv hK hP (ci := 8) (q := (RX6, TX6, 12)) rfl (q0 := 3) rfl, fun U hU hW => ⟨rfl, by rw [hU]; exact hPc, va_K.moved hW.alike hKc⟩⟩ rfl rfl hl.1 rfl (lv_room (Nat.le_of_ble_eq_true rfl)) dX8_certify_53 ⟨Nat.le_of_ble_eq_true rfl, Nat.le_of_ble_eq_true rfl⟩)) (fun r_7 er_7 => ?_)
        subst er_7
        refine lv_istore (lv' := [(6, .int (-1 : Int32)), (4, .long w0), (0, .ref x), (1, .long w0), (3, .int p1)]) hx hb dX8_certify_56 hl (by decide) rfl (fun ls hl => ?_)
        refine lv_iload hx hb dX8_certify_58 (lv_at hl 0 rfl) ?_
        refine lv_iconst (v := (-1)) hx hb dX8_certify_60 (by decide) ?_
        refine lv_icmp_ne (tgt := 67) hx hb dX8_certify_61 (by decide) (fun c_8 => ?_) (fun c_8 => ?_)
        · skip
          exact absurd (by decide) c_8
        · skip
          refine lv_bipush (v := (-6)) hx hb dX8_certify_64 (by decide) ?_
          exact W.iret hx hb hr (fun t ht hW => ⟨_, rfl, rfl, ht⟩) (fun q h => by cases h) dX8_certify_66
      · skip
        exact absurd (by decide) c_5
    · skip
      exact absurd hf1 c_3

set_option maxHeartbeats 4000000 in
set_option maxRecDepth 100000 in
theorem k_L_certify_5 (l : Launch) (dC : Nat → ClassId) (dI : Nat → Nat → Nat) (x : Nat) (w0 : Int64) (p1 : Int32) (ho : Nat) (rr : Nat) (ds : Nat) (so : Nat) (tp : Nat) (pu : Nat) (sn : Nat) (im : Nat) (cs : Nat) (cl : Nat) (ri : Nat) (pg : Int32) (dl : Nat) (dr : Nat) (dt : Nat) (s1 : Nat) (s2 : Nat) (s3 : Nat) (s4 : Nat) (s5 : Nat) (s6 : Nat) (cJ : ClassId) (g1 : Nat → Int64) (sz : Nat) (hf0 : 0 ≤ p1) (hf1 : p1 ≤ 15) (hf2 : lg_cmp w0 (0) < 0) (hf3 : lg_cmp w0 (-128) < 0) : Met l yL_certify wsL_certify ({ frames := 2, cells := 0, slots := 0, locals := 50 }) (va_Pc [.ref x, .long w0, .int p1, .ref ho] (fun U => U.heap.size = sz ∧ va_P (dC, dI) vwCl [(x, .inr (10, [.ref tp, .ref ds, .ref rr, .ref so, .ref pu, .ref sn, .ref im, .ref cs, .ref cl, .int (0 : Int32)])), (rr, .inr (6, [.ref ds, .ref ri, .int 0, .int 1, .int 0, .int 0])), (ds, .inr (3, [.int pg, .ref dl, .ref dr, .ref dt, .int (1 : Int32), .int (-1 : Int32), .int (0 : Int32)])), (so, .inr (8, [.ref rr, .ref s1, .ref s2, .ref s3, .ref s4, .ref s5, .ref s6, .int (0 : Int32), .int (0 : Int32), .int (-1 : Int32), .int (0 : Int32), .int (0 : Int32)])), (ho, .inl (cJ, 1, .inr (.inl g1)))] U.heap ∧ va_K (dC, dI) vwCl [(cJ, .long)] U ∧ va_D (fun _ => True) [(x, .inr (10, [.ref tp, .ref ds, .ref rr, .ref so, .ref pu, .ref sn, .ref im, .ref cs, .ref cl, .int (0 : Int32)])), (rr, .inr (6, [.ref ds, .ref ri, .int 0, .int 1, .int 0, .int 0])), (ds, .inr (3, [.int pg, .ref dl, .ref dr, .ref dt, .int (1 : Int32), .int (-1 : Int32), .int (0 : Int32)])), (so, .inr (8, [.ref rr, .ref s1, .ref s2, .ref s3, .ref s4, .ref s5, .ref s6, .int (0 : Int32), .int (0 : Int32), .int (-1 : Int32), .int (0 : Int32), .int (0 : Int32)])), (ho, .inl (cJ, 1, .inr (.inl g1)))] ∧ gx_E (va_A [(x, .inr (10, [.ref tp, .ref ds, .ref rr, .ref so, .ref pu, .ref sn, .ref im, .ref cs, .ref cl, .int (0 : Int32)])), (rr, .inr (6, [.ref ds, .ref ri, .int 0, .int 1, .int 0, .int 0])), (ds, .inr (3, [.int pg, .ref dl, .ref dr, .ref dt, .int (1 : Int32), .int (-1 : Int32), .int (0 : Int32)])), (so, .inr (8, [.ref rr, .ref s1, .ref s2, .ref s3, .ref s4, .ref s5, .ref s6, .int (0 : Int32), .int (0 : Int32), .int (-1 : Int32), .int (0 : Int32), .int (0 : Int32)])), (ho, .inl (cJ, 1, .inr (.inl g1)))] sz) U)) (va_Qi (fun r (_ : Unit) => r = (0 : Int32)) (fun (_ : Unit) t => va_P (dC, dI) vwCl [(ho, .inl (cJ, 1, .inr (.inl (vp_updL g1 (0 : Int32).toNatClampNeg ((-6 : Int32).toInt64)))))] t.heap ∧ va_K (dC, dI) vwCl [(cJ, .long)] t ∧ va_D (va_A [(x, .inr (10, [.ref tp, .ref ds, .ref rr, .ref so, .ref pu, .ref sn, .ref im, .ref cs, .ref cl, .int (0 : Int32)])), (rr, .inr (6, [.ref ds, .ref ri, .int 0, .int 1, .int 0, .int 0])), (ds, .inr (3, [.int pg, .ref dl, .ref dr, .ref dt, .int (1 : Int32), .int (-1 : Int32), .int (0 : Int32)])), (so, .inr (8, [.ref rr, .ref s1, .ref s2, .ref s3, .ref s4, .ref s5, .ref s6, .int (0 : Int32), .int (0 : Int32), .int (-1 : Int32), .int (0 : Int32), .int (0 : Int32)])), (ho, .inl (cJ, 1, .inr (.inl g1)))] sz) [(ho, .inl (cJ, 1, .inr (.inl (vp_updL g1 (0 : Int32).toNatClampNeg ((-6 : Int32).toInt64)))))]) (va_A [(x, .inr (10, [.ref tp, .ref ds, .ref rr, .ref so, .ref pu, .ref sn, .ref im, .ref cs, .ref cl, .int (0 : Int32)])), (rr, .inr (6, [.ref ds, .ref ri, .int 0, .int 1, .int 0, .int 0])), (ds, .inr (3, [.int pg, .ref dl, .ref dr, .ref dt, .int (1 : Int32), .int (-1 : Int32), .int (0 : Int32)])), (so, .inr (8, [.ref rr, .ref s1, .ref s2, .ref s3, .ref s4, .ref s5, .ref s6, .int (0 : Int32), .int (0 : Int32), .int (-1 : Int32), .int (0 : Int32), .int (0 : Int32)])), (ho, .inl (cJ, 1, .inr (.inl g1)))] sz)) 0 0 (va_A [(x, .inr (10, [.ref tp, .ref ds, .ref rr, .ref so, .ref pu, .ref sn, .ref im, .ref cs, .ref cl, .int (0 : Int32)])), (rr, .inr (6, [.ref ds, .ref ri, .int 0, .int 1, .int 0, .int 0])), (ds, .inr (3, [.int pg, .ref dl, .ref dr, .ref dt, .int (1 : Int32), .int (-1 : Int32), .int (0 : Int32)])), (so, .inr (8, [.ref rr, .ref s1, .ref s2, .ref s3, .ref s4, .ref s5, .ref s6, .int (0 : Int32), .int (0 : Int32), .int (-1 : Int32), .int (0 : Int32), .int (0 : Int32)])), (ho, .inl (cJ, 1, .inr (.inl g1)))] sz) := by
  refine va_MetW (cc := cL_certify) (maxL := 6) (ret := (some .int)) (hh := [(0, 11, 14, 25), (0, 11, 18, 13)]) (by decide) rfl ?_
  intro p e s m args below meth c s₁ B hml hv
  obtain ⟨rfl, hsz, hP, hK, hD0, hG⟩ := hv
  have hx := B.exec
  have hb := B.bytes
  have hr := B.returns
  have hts := atoms_spec (ws := wsL_certify) B.pre
  have hown : s.vm.findClass RL = some m.cls := findClass_of_methodNamed B.named
  have hlocks := B.notSynchronized
  have htab := vx_table (x := yL_certify) B (hts (.codeWith yL_certify cL_certify 6 (some .int) [(0, 11, 14, 25), (0, 11, 18, 13)]) List.mem_cons_self)
  subst hsz
  have hD := hD0.self (sz := s.heap.size)
  generalize hAe : va_A [(x, .inr (10, [.ref tp, .ref ds, .ref rr, .ref so, .ref pu, .ref sn, .ref im, .ref cs, .ref cl, .int (0 : Int32)])), (rr, .inr (6, [.ref ds, .ref ri, .int 0, .int 1, .int 0, .int 0])), (ds, .inr (3, [.int pg, .ref dl, .ref dr, .ref dt, .int (1 : Int32), .int (-1 : Int32), .int (0 : Int32)])), (so, .inr (8, [.ref rr, .ref s1, .ref s2, .ref s3, .ref s4, .ref s5, .ref s6, .int (0 : Int32), .int (0 : Int32), .int (-1 : Int32), .int (0 : Int32), .int (0 : Int32)])), (ho, .inl (cJ, 1, .inr (.inl g1)))] s.heap.size = A at hD hG ⊢
  have hA : ∀ q : Nat, s.heap.size ≤ q → A q := fun q h => by rw [← hAe]; exact Or.inr h
  have hS : va_S A s.heap s.heap [] := va_S.rf
  have hl := lv_entry ([.ref x, .long w0, .int p1, .ref ho]) (n := 6) (Nat.le_of_ble_eq_true rfl)
  rw [lg_entry_eq]
  generalize (lg_sl ([.ref x, .long w0, .int p1, .ref ho]) ++ List.replicate (6 - (lg_sl ([.ref x, .long w0, .int p1, .ref ho])).length) Slot.unset).toArray = ls at hl ⊢
  have hl : lv_has ls 6 [(0, .ref x), (1, .long w0), (3, .int p1), (4, .ref ho)] := hl
  refine lv_aload hx hb dL_certify_0 (lv_at hl 3 rfl) ?_
  refine lv_iconst (v := 0) hx hb dL_certify_2 (by decide) ?_
  refine lv_aload_n hx hb dL_certify_3 rfl (lv_at hl 0 rfl) ?_
  refine lv_lload_n hx hb dL_certify_4 rfl (lv_at hl 1 rfl) ?_
  refine lv_iload_n hx hb dL_certify_5 rfl (lv_at hl 2 rfl) ?_
  have hPc := hP.sub (ws' := [(x, .inr (10, [.ref tp, .ref ds, .ref rr, .ref so, .ref pu, .ref sn, .ref im, .ref cs, .ref cl, .int (0 : Int32)])), (rr, .inr (6, [.ref ds, .ref ri, .int 0, .int 1, .int 0, .int 0])), (ds, .inr (3, [.int pg, .ref dl, .ref dr, .ref dt, .int (1 : Int32), .int (-1 : Int32), .int (0 : Int32)])), (so, .inr (8, [.ref rr, .ref s1, .ref s2, .ref s3, .ref s4, .ref s5, .ref s6, .int (0 : Int32), .int (0 : Int32), .int (-1 : Int32), .int (0 : Int32), .int (0 : Int32)]))]) [0, 1, 2, 3] rfl
  have hKc := hK.sub (tys' := []) [] rfl
  refine vp_callSi (va_Run.run (va_runV (As := [.long w0, .int p1]) (rest := [.int (0 : Int32), .ref ho]) ⟨hx, hb, hml, hown, hts⟩ (k_X8_certify_5 l dC dI x w0 p1 rr ds so tp pu sn im cs cl ri pg dl dr dt s1 s2 s3 s4 s5 s6 hf0 hf1 hf2 hf3) (cwV 2 hts gL_certify_X8_certify rfl rfl rfl (by decide +kernel) ⟨Nat.le_of_ble_eq_true rfl, Nat.le_of_ble_eq_true rfl⟩) ⟨fun a U g mk q => by obtain ⟨q0, qP, qK, qG⟩ := q; exact ⟨q0, qP, va_K.moved (u := U) (U := U.calling g mk a) (Vm.Alike.refl U.vm) qK, qG.same rfl⟩, va_recv hK hP (ci := 10) (q := (RX8, TX8, 10)) rfl (q0 := 0) rfl, fun U hU hW => ⟨rfl, by rw [hU]; exact hPc, va_K.moved hW.alike hKc, hG.1.warm hW⟩⟩ rfl rfl hl.1 rfl (lv_room (Nat.le_of_ble_eq_true rfl)) dL_certify_6 ⟨Nat.le_of_ble_eq_true rfl, Nat.le_of_ble_eq_true rfl⟩)) (fun r_1 er_1 => ?_)
  subst er_1
  refine lv_i2l hx hb dL_certify_9 rfl ?_
  refine va_last hx hb hK hP hD hS 4 0 rfl rfl (by unfold vp_in; decide +kernel) dL_certify_10 (fun H locs hP hD hS => ?_)
  have hP : va_P (dC, dI) vwCl [(x, .inr (10, [.ref tp, .ref ds, .ref rr, .ref so, .ref pu, .ref sn, .ref im, .ref cs, .ref cl, .int (0 : Int32)])), (rr, .inr (6, [.ref ds, .ref ri, .int 0, .int 1, .int 0, .int 0])), (ds, .inr (3, [.int pg, .ref dl, .ref dr, .ref dt, .int (1 : Int32), .int (-1 : Int32), .int (0 : Int32)])), (so, .inr (8, [.ref rr, .ref s1, .ref s2, .ref s3, .ref s4, .ref s5, .ref s6, .int (0 : Int32), .int (0 : Int32), .int (-1 : Int32), .int (0 : Int32), .int (0 : Int32)])), (ho, .inl (cJ, 1, .inr (.inl (vp_updL g1 (0 : Int32).toNatClampNeg ((-6 : Int32).toInt64)))))] H := hP
  have hD : va_D A [(x, .inr (10, [.ref tp, .ref ds, .ref rr, .ref so, .ref pu, .ref sn, .ref im, .ref cs, .ref cl, .int (0 : Int32)])), (rr, .inr (6, [.ref ds, .ref ri, .int 0, .int 1, .int 0, .int 0])), (ds, .inr (3, [.int pg, .ref dl, .ref dr, .ref dt, .int (1 : Int32), .int (-1 : Int32), .int (0 : Int32)])), (so, .inr (8, [.ref rr, .ref s1, .ref s2, .ref s3, .ref s4, .ref s5, .ref s6, .int (0 : Int32), .int (0 : Int32), .int (-1 : Int32), .int (0 : Int32), .int (0 : Int32)])), (ho, .inl (cJ, 1, .inr (.inl (vp_updL g1 (0 : Int32).toNatClampNeg ((-6 : Int32).toInt64)))))] := hD
  refine lv_goto (tgt := 22) hx hb dL_certify_11 (by decide) ?_
  refine lv_iconst (v := 0) hx hb dL_certify_22 (by decide) ?_
  have hP := hP.sub (ws' := [(ho, .inl (cJ, 1, .inr (.inl (vp_updL g1 (0 : Int32).toNatClampNeg ((-6 : Int32).toInt64)))))]) [4] rfl
  have hD := hD.sub (ws' := [(ho, .inl (cJ, 1, .inr (.inl (vp_updL g1 (0 : Int32).toNatClampNeg ((-6 : Int32).toInt64)))))]) [4] (by decide) rfl
  have hK := hK.sub (tys' := [(cJ, .long)]) [0] rfl
  exact W.iret hx hb hr (fun t ht hW => ⟨⟨_, (), rfl, rfl, by rw [ht]; exact hP, va_K.moved hW.alike hK, hD⟩, hS.F ht⟩) hS.2.2 dL_certify_23

set_option maxHeartbeats 4000000 in
set_option maxRecDepth 100000 in
theorem k_X9_certify_5 (l : Launch) (dC : Nat → ClassId) (dI : Nat → Nat → Nat) (mo : Nat) (w0 : Int64) (p1 : Int32) (m_digestAt : Nat) (m_isGroup : Nat) (m_counts : Nat) (m_disk : Nat) (P : Nat) (m_tape : Nat) (m_slots : Nat) (m_leaves : Nat) (m_fresh : Nat) (m_versionRow : Nat) (m_state : Nat) (m_names : Nat) (m_keptRow : Nat) (m_inSlot : Nat) (m_inAt : Nat) (m_inSize : Nat) (m_inDigest : Nat) (d_digestAt : ClassId) (d_isGroup : ClassId) (d_counts : ClassId) (sz : Nat) (hf0 : 0 ≤ p1) (hf1 : p1 ≤ 15) (hf2 : lg_cmp w0 (-128) < 0) : Met l yX9_certify wsX9_certify ({ frames := 3, cells := 0, slots := 0, locals := 65 }) (va_Pc [.ref mo, .long w0, .int p1] (fun U => U.heap.size = sz ∧ va_P (dC, dI) vwCl [(mo, .inr (11, [.ref m_disk, .int (nI P), .int ((8224 : Int32) + ((26 : Int32) * (nI P))), .int (1 : Int32), .int 0, .int (-1 : Int32), .int 0, .int (0 : Int32), .ref m_tape, .int 0, .ref m_slots, .ref m_leaves, .int 0, .int 0, .ref m_fresh, .int 0, .int 0, .int 0, .ref m_digestAt, .ref m_isGroup, .ref m_counts, .int 0, .int 0, .long 0, .int 0, .ref m_versionRow, .int 0, .long 0, .ref m_state, .ref m_names, .int 0, .ref m_keptRow, .int 0, .ref m_inSlot, .ref m_inAt, .ref m_inSize, .ref m_inDigest, .int 0])), (m_digestAt, .inl (d_digestAt, 128, .inr (.inl (fun _ => 0)))), (m_isGroup, .inl (d_isGroup, 128, .inl (fun _ => 0))), (m_counts, .inl (d_counts, 128, .inl (fun _ => 0)))] U.heap ∧ va_K (dC, dI) vwCl [(d_digestAt, .long), (d_isGroup, .boolean), (d_counts, .boolean)] U ∧ va_D (fun _ => True) [(mo, .inr (11, [.ref m_disk, .int (nI P), .int ((8224 : Int32) + ((26 : Int32) * (nI P))), .int (1 : Int32), .int 0, .int (-1 : Int32), .int 0, .int (0 : Int32), .ref m_tape, .int 0, .ref m_slots, .ref m_leaves, .int 0, .int 0, .ref m_fresh, .int 0, .int 0, .int 0, .ref m_digestAt, .ref m_isGroup, .ref m_counts, .int 0, .int 0, .long 0, .int 0, .ref m_versionRow, .int 0, .long 0, .ref m_state, .ref m_names, .int 0, .ref m_keptRow, .int 0, .ref m_inSlot, .ref m_inAt, .ref m_inSize, .ref m_inDigest, .int 0])), (m_digestAt, .inl (d_digestAt, 128, .inr (.inl (fun _ => 0)))), (m_isGroup, .inl (d_isGroup, 128, .inl (fun _ => 0))), (m_counts, .inl (d_counts, 128, .inl (fun _ => 0)))])) (va_Qi (fun r (_ : Unit) => r = (-6 : Int32)) (fun (_ : Unit) t => va_P (dC, dI) vwCl [(mo, .inr (11, [.ref m_disk, .int (nI P), .int ((8224 : Int32) + ((26 : Int32) * (nI P))), .int (1 : Int32), .int 0, .int (-1 : Int32), .int 0, .int (0 : Int32), .ref m_tape, .int 0, .ref m_slots, .ref m_leaves, .int 0, .int 0, .ref m_fresh, .int 0, .int (0 : Int32), .int (0 : Int32), .ref m_digestAt, .ref m_isGroup, .ref m_counts, .int (-1 : Int32), .int (0 : Int32), .long (0 : Int64), .int (0 : Int32), .ref m_versionRow, .int (0 : Int32), .long (0 : Int64), .ref m_state, .ref m_names, .int 0, .ref m_keptRow, .int 0, .ref m_inSlot, .ref m_inAt, .ref m_inSize, .ref m_inDigest, .int 0]))] t.heap ∧ va_K (dC, dI) vwCl [(d_digestAt, .long), (d_isGroup, .boolean), (d_counts, .boolean)] t ∧ va_D (va_A [(mo, .inr (11, [.ref m_disk, .int (nI P), .int ((8224 : Int32) + ((26 : Int32) * (nI P))), .int (1 : Int32), .int 0, .int (-1 : Int32), .int 0, .int (0 : Int32), .ref m_tape, .int 0, .ref m_slots, .ref m_leaves, .int 0, .int 0, .ref m_fresh, .int 0, .int 0, .int 0, .ref m_digestAt, .ref m_isGroup, .ref m_counts, .int 0, .int 0, .long 0, .int 0, .ref m_versionRow, .int 0, .long 0, .ref m_state, .ref m_names, .int 0, .ref m_keptRow, .int 0, .ref m_inSlot, .ref m_inAt, .ref m_inSize, .ref m_inDigest, .int 0])), (m_digestAt, .inl (d_digestAt, 128, .inr (.inl (fun _ => 0)))), (m_isGroup, .inl (d_isGroup, 128, .inl (fun _ => 0))), (m_counts, .inl (d_counts, 128, .inl (fun _ => 0)))] sz) [(mo, .inr (11, [.ref m_disk, .int (nI P), .int ((8224 : Int32) + ((26 : Int32) * (nI P))), .int (1 : Int32), .int 0, .int (-1 : Int32), .int 0, .int (0 : Int32), .ref m_tape, .int 0, .ref m_slots, .ref m_leaves, .int 0, .int 0, .ref m_fresh, .int 0, .int (0 : Int32), .int (0 : Int32), .ref m_digestAt, .ref m_isGroup, .ref m_counts, .int (-1 : Int32), .int (0 : Int32), .long (0 : Int64), .int (0 : Int32), .ref m_versionRow, .int (0 : Int32), .long (0 : Int64), .ref m_state, .ref m_names, .int 0, .ref m_keptRow, .int 0, .ref m_inSlot, .ref m_inAt, .ref m_inSize, .ref m_inDigest, .int 0]))]) (va_A [(mo, .inr (11, [.ref m_disk, .int (nI P), .int ((8224 : Int32) + ((26 : Int32) * (nI P))), .int (1 : Int32), .int 0, .int (-1 : Int32), .int 0, .int (0 : Int32), .ref m_tape, .int 0, .ref m_slots, .ref m_leaves, .int 0, .int 0, .ref m_fresh, .int 0, .int 0, .int 0, .ref m_digestAt, .ref m_isGroup, .ref m_counts, .int 0, .int 0, .long 0, .int 0, .ref m_versionRow, .int 0, .long 0, .ref m_state, .ref m_names, .int 0, .ref m_keptRow, .int 0, .ref m_inSlot, .ref m_inAt, .ref m_inSize, .ref m_inDigest, .int 0])), (m_digestAt, .inl (d_digestAt, 128, .inr (.inl (fun _ => 0)))), (m_isGroup, .inl (d_isGroup, 128, .inl (fun _ => 0))), (m_counts, .inl (d_counts, 128, .inl (fun _ => 0)))] sz)) 0 0 (va_A [(mo, .inr (11, [.ref m_disk, .int (nI P), .int ((8224 : Int32) + ((26 : Int32) * (nI P))), .int (1 : Int32), .int 0, .int (-1 : Int32), .int 0, .int (0 : Int32), .ref m_tape, .int 0, .ref m_slots, .ref m_leaves, .int 0, .int 0, .ref m_fresh, .int 0, .int 0, .int 0, .ref m_digestAt, .ref m_isGroup, .ref m_counts, .int 0, .int 0, .long 0, .int 0, .ref m_versionRow, .int 0, .long 0, .ref m_state, .ref m_names, .int 0, .ref m_keptRow, .int 0, .ref m_inSlot, .ref m_inAt, .ref m_inSize, .ref m_inDigest, .int 0])), (m_digestAt, .inl (d_digestAt, 128, .inr (.inl (fun _ => 0)))), (m_isGroup, .inl (d_isGroup, 128, .inl (fun _ => 0))), (m_counts, .inl (d_counts, 128, .inl (fun _ => 0)))] sz) := by
  refine Met.ofW (cc := cX9_certify) (maxL := 7) (ret := (some .int)) (by decide) rfl ?_
  intro p e s m args below meth c s₁ B hml hv
  obtain ⟨rfl, hsz, hP, hK, hD0⟩ := hv
  have hx := B.exec
  have hb := B.bytes
  have hr := B.returns
  have hts := atoms_spec (ws := wsX9_certify) B.pre
  have hown : s.vm.findClass RX9 = some m.cls := findClass_of_methodNamed B.named
  have hlocks := B.notSynchronized
  subst hsz
  have hD := hD0.self (sz := s.heap.size)
  generalize hAe : va_A [(mo, .inr (11, [.ref m_disk, .int (nI P), .int ((8224 : Int32) + ((26 : Int32) * (nI P))), .int (1 : Int32), .int 0, .int (-1 : Int32), .int 0, .int (0 : Int32), .ref m_tape, .int 0, .ref m_slots, .ref m_leaves, .int 0, .int 0, .ref m_fresh, .int 0, .int 0, .int 0, .ref m_digestAt, .ref m_isGroup, .ref m_counts, .int 0, .int 0, .long 0, .int 0, .ref m_versionRow, .int 0, .long 0, .ref m_state, .ref m_names, .int 0, .ref m_keptRow, .int 0, .ref m_inSlot, .ref m_inAt, .ref m_inSize, .ref m_inDigest, .int 0])), (m_digestAt, .inl (d_digestAt, 128, .inr (.inl (fun _ => 0)))), (m_isGroup, .inl (d_isGroup, 128, .inl (fun _ => 0))), (m_counts, .inl (d_counts, 128, .inl (fun _ => 0)))] s.heap.size = A at hD ⊢
  have hA : ∀ q : Nat, s.heap.size ≤ q → A q := fun q h => by rw [← hAe]; exact Or.inr h
  have hS : va_S A s.heap s.heap [] := va_S.rf
  have hl := lv_entry ([.ref mo, .long w0, .int p1]) (n := 7) (Nat.le_of_ble_eq_true rfl)
  rw [lg_entry_eq]
  generalize (lg_sl ([.ref mo, .long w0, .int p1]) ++ List.replicate (7 - (lg_sl ([.ref mo, .long w0, .int p1])).length) Slot.unset).toArray = ls at hl ⊢
  have hl : lv_has ls 7 [(0, .ref mo), (1, .long w0), (3, .int p1)] := hl
  refine lv_aload_n hx hb dX9_certify_0 rfl (lv_at hl 0 rfl) ?_
  refine lv_aload_n hx hb dX9_certify_1 rfl (lv_at hl 0 rfl) ?_
  refine va_get (D := (dC, dI)) (ci := 11) (v := .int (1 : Int32)) (C := RX9) (T := TX9) (N := 38) hx hb hts (by decide +kernel) hown hK hP 0 rfl rfl 3 (by decide) (hts (.fieldLink RX9 72 "BlockLogModel" "on" "Z") (by decide +kernel)) (fun _ h9 => h9) rfl dX9_certify_2 ?_
  refine lv_if_ne (tgt := 12) hx hb dX9_certify_5 (by decide) (fun c_1 => ?_) (fun c_1 => ?_)
  · skip
    refine lv_iload_n hx hb dX9_certify_12 rfl (lv_at hl 2 rfl) ?_
    refine lv_iconst (v := 0) hx hb dX9_certify_13 (by decide) ?_
    refine lv_bipush (v := 15) hx hb dX9_certify_14 (by decide) ?_
    have hPc := hP.sub (ws' := []) [] rfl
    have hKc := hK.sub (tys' := []) [] rfl
    refine vp_callSi (va_Run.run (va_runS (As := [.int p1, .int (0 : Int32), .int (15 : Int32)]) (rest := [.ref mo]) ⟨hx, hb, hml, hown, hts⟩ (k_X9_within_3 l dC dI p1 (0 : Int32) (15 : Int32) hf0 hf1) (va_cwS 3 hts gX9_certify_X9_within rfl rfl rfl (by decide +kernel) ⟨Nat.le_of_ble_eq_true rfl, Nat.le_of_ble_eq_true rfl⟩) ⟨fun a U g mk q => by obtain ⟨q0, qP, qK⟩ := q; exact ⟨q0, qP, va_K.moved (u := U) (U := U.calling g mk a) (Vm.Alike.refl U.vm) qK⟩, fun U hU hW => ⟨rfl, by rw [hU]; exact hPc, va_K.moved hW.alike hKc⟩⟩ rfl rfl hl.1 rfl (lv_room (Nat.le_of_ble_eq_true rfl)) dX9_certify_16 ⟨Nat.le_of_ble_eq_true rfl, Nat.le_of_ble_eq_true rfl⟩)) (fun r_2 er_2 => ?_)
    subst er_2
    refine lv_if_ne (tgt := 26) hx hb dX9_certify_19 (by decide) (fun c_3 => ?_) (fun c_3 => ?_)
    · skip
      refine lv_iconst (v := 0) hx hb dX9_certify_26 (by decide) ?_
      refine va_put (D := (dC, dI)) (ci := 11) (v := .int (0 : Int32)) (ty := .int) (C := RX9) (T := TX9) (N := 38) hx hb hts (by decide +kernel) tyX9 tyX9_ok nmX9 hown hK hP hD hS 0 rfl rfl 13 (by decide) (hts (.fieldLink RX9 91 "BlockLogModel" "thrown" "I") (by decide +kernel)) (fun _ h9 => h9) rfl (by decide +kernel) rfl rfl (Nat.le_of_ble_eq_true rfl) dX9_certify_27 (fun H locs hP hD hS => ?_)
      have hP : va_P (dC, dI) vwCl [(mo, .inr (11, [.ref m_disk, .int (nI P), .int ((8224 : Int32) + ((26 : Int32) * (nI P))), .int (1 : Int32), .int 0, .int (-1 : Int32), .int 0, .int (0 : Int32), .ref m_tape, .int 0, .ref m_slots, .ref m_leaves, .int 0, .int (0 : Int32), .ref m_fresh, .int 0, .int 0, .int 0, .ref m_digestAt, .ref m_isGroup, .ref m_counts, .int 0, .int 0, .long 0, .int 0, .ref m_versionRow, .int 0, .long 0, .ref m_state, .ref m_names, .int 0, .ref m_keptRow, .int 0, .ref m_inSlot, .ref m_inAt, .ref m_inSize, .ref m_inDigest, .int 0])), (m_digestAt, .inl (d_digestAt, 128, .inr (.inl (fun _ => 0)))), (m_isGroup, .inl (d_isGroup, 128, .inl (fun _ => 0))), (m_counts, .inl (d_counts, 128, .inl (fun _ => 0)))] H := hP
      have hD : va_D A [(mo, .inr (11, [.ref m_disk, .int (nI P), .int ((8224 : Int32) + ((26 : Int32) * (nI P))), .int (1 : Int32), .int 0, .int (-1 : Int32), .int 0, .int (0 : Int32), .ref m_tape, .int 0, .ref m_slots, .ref m_leaves, .int 0, .int (0 : Int32), .ref m_fresh, .int 0, .int 0, .int 0, .ref m_digestAt, .ref m_isGroup, .ref m_counts, .int 0, .int 0, .long 0, .int 0, .ref m_versionRow, .int 0, .long 0, .ref m_state, .ref m_names, .int 0, .ref m_keptRow, .int 0, .ref m_inSlot, .ref m_inAt, .ref m_inSize, .ref m_inDigest, .int 0])), (m_digestAt, .inl (d_digestAt, 128, .inr (.inl (fun _ => 0)))), (m_isGroup, .inl (d_isGroup, 128, .inl (fun _ => 0))), (m_counts, .inl (d_counts, 128, .inl (fun _ => 0)))] := hD
      refine lv_aload_n hx hb dX9_certify_30 rfl (lv_at hl 0 rfl) ?_
      refine va_get (D := (dC, dI)) (ci := 11) (v := .int (0 : Int32)) (C := RX9) (T := TX9) (N := 38) hx hb hts (by decide +kernel) hown hK hP 0 rfl rfl 13 (by decide) (hts (.fieldLink RX9 91 "BlockLogModel" "thrown" "I") (by decide +kernel)) (fun _ h9 => h9) rfl dX9_certify_31 ?_
      refine lv_if_le (tgt := 39) hx hb dX9_certify_34 (by decide) (fun c_4 => ?_) (fun c_4 => ?_)
      · skip
        refine lv_aload_n hx hb dX9_certify_39 rfl (lv_at hl 0 rfl) ?_
        have hPc := hP.sub (ws' := [(mo, .inr (11, [.ref m_disk, .int (nI P), .int ((8224 : Int32) + ((26 : Int32) * (nI P))), .int (1 : Int32), .int 0, .int (-1 : Int32), .int 0, .int (0 : Int32), .ref m_tape, .int 0, .ref m_slots, .ref m_leaves, .int 0, .int (0 : Int32), .ref m_fresh, .int 0, .int 0, .int 0, .ref m_digestAt, .ref m_isGroup, .ref m_counts, .int 0, .int 0, .long 0, .int 0, .ref m_versionRow, .int 0, .long 0, .ref m_state, .ref m_names, .int 0, .ref m_keptRow, .int 0, .ref m_inSlot, .ref m_inAt, .ref m_inSize, .ref m_inDigest, .int 0])), (m_digestAt, .inl (d_digestAt, 128, .inr (.inl (fun _ => 0)))), (m_isGroup, .inl (d_isGroup, 128, .inl (fun _ => 0))), (m_counts, .inl (d_counts, 128, .inl (fun _ => 0)))]) [0, 1, 2, 3] rfl
        have hKc := hK.sub (tys' := [(d_digestAt, .long), (d_isGroup, .boolean), (d_counts, .boolean)]) [0, 1, 2] rfl
        have hDc := hD.sub (ws' := [(mo, .inr (11, [.ref m_disk, .int (nI P), .int ((8224 : Int32) + ((26 : Int32) * (nI P))), .int (1 : Int32), .int 0, .int (-1 : Int32), .int 0, .int (0 : Int32), .ref m_tape, .int 0, .ref m_slots, .ref m_leaves, .int 0, .int (0 : Int32), .ref m_fresh, .int 0, .int 0, .int 0, .ref m_digestAt, .ref m_isGroup, .ref m_counts, .int 0, .int 0, .long 0, .int 0, .ref m_versionRow, .int 0, .long 0, .ref m_state, .ref m_names, .int 0, .ref m_keptRow, .int 0, .ref m_inSlot, .ref m_inAt, .ref m_inSize, .ref m_inDigest, .int 0])), (m_digestAt, .inl (d_digestAt, 128, .inr (.inl (fun _ => 0)))), (m_isGroup, .inl (d_isGroup, 128, .inl (fun _ => 0))), (m_counts, .inl (d_counts, 128, .inl (fun _ => 0)))]) [0, 1, 2, 3] (by decide) rfl
        have hFc := va_free (wc := [(mo, .inr (11, [.ref m_disk, .int (nI P), .int ((8224 : Int32) + ((26 : Int32) * (nI P))), .int (1 : Int32), .int 0, .int (-1 : Int32), .int 0, .int (0 : Int32), .ref m_tape, .int 0, .ref m_slots, .ref m_leaves, .int 0, .int (0 : Int32), .ref m_fresh, .int 0, .int 0, .int 0, .ref m_digestAt, .ref m_isGroup, .ref m_counts, .int 0, .int 0, .long 0, .int 0, .ref m_versionRow, .int 0, .long 0, .ref m_state, .ref m_names, .int 0, .ref m_keptRow, .int 0, .ref m_inSlot, .ref m_inAt, .ref m_inSize, .ref m_inDigest, .int 0])), (m_digestAt, .inl (d_digestAt, 128, .inr (.inl (fun _ => 0)))), (m_isGroup, .inl (d_isGroup, 128, .inl (fun _ => 0))), (m_counts, .inl (d_counts, 128, .inl (fun _ => 0)))]) hD hS hA [0, 1, 2, 3] rfl
        refine va_callv (va_runV (As := []) (rest := []) ⟨hx, hb, hml, hown, hts⟩ (k_X9_read_1 l dC dI mo m_digestAt m_isGroup m_counts m_disk P m_tape m_slots m_leaves m_fresh m_versionRow m_state m_names m_keptRow m_inSlot m_inAt m_inSize m_inDigest d_digestAt d_isGroup d_counts _) (cwV 0 hts gX9_certify_X9_read rfl rfl rfl (by decide +kernel) ⟨Nat.le_of_ble_eq_true rfl, Nat.le_of_ble_eq_true rfl⟩) ⟨fun a U g mk q => by obtain ⟨q0, q1, qP, qK, qD⟩ := q; exact ⟨q0, q1, qP, va_K.moved (u := U) (U := U.calling g mk a) (Vm.Alike.refl U.vm) qK, qD⟩, va_recv hK hP (ci := 11) (q := (RX9, TX9, 38)) rfl (q0 := 0) rfl, fun U hU hW => ⟨rfl, by rw [hU], by rw [hU]; exact hPc, va_K.moved hW.alike hKc, hDc.weaken (fun _ _ _ _ => trivial)⟩⟩ rfl rfl hl.1 rfl (lv_room (Nat.le_of_ble_eq_true rfl)) dX9_certify_40 ⟨Nat.le_of_ble_eq_true rfl, Nat.le_of_ble_eq_true rfl⟩) hS (fun q _ h => hFc q h) hFc (fun u t H1 locs ht hvm er_5 hB hz1 hk1 hS => ?_)
        obtain ⟨hP1, hK1, hD1⟩ := hB
        rw [ht] at hP1
        obtain ⟨hP, hD⟩ := va_join (wr := []) (w1 := [(mo, .inr (11, [.ref m_disk, .int (nI P), .int ((8224 : Int32) + ((26 : Int32) * (nI P))), .int (1 : Int32), .int 0, .int (-1 : Int32), .int 0, .int (0 : Int32), .ref m_tape, .int 0, .ref m_slots, .ref m_leaves, .int 0, .int 0, .ref m_fresh, .int 0, .int (0 : Int32), .int (0 : Int32), .ref m_digestAt, .ref m_isGroup, .ref m_counts, .int (-1 : Int32), .int (0 : Int32), .long (0 : Int64), .int (0 : Int32), .ref m_versionRow, .int (0 : Int32), .long (0 : Int64), .ref m_state, .ref m_names, .int 0, .ref m_keptRow, .int 0, .ref m_inSlot, .ref m_inAt, .ref m_inSize, .ref m_inDigest, .int 0])), (m_digestAt, .inl (d_digestAt, 128, .inr (.inl (zr_L 128)))), (m_isGroup, .inl (d_isGroup, 128, .inl (zr_Z 128))), (m_counts, .inl (d_counts, 128, .inl (zr_Z 128)))]) hP hD [0, 1, 2, 3] [] rfl rfl (by decide) (by decide) hk1 hFc hP1 hD1
        clear hPc hDc hFc hP1 hD1 hk1 hz1
        generalize H1 = H at hP hS ⊢
        have hP : va_P (dC, dI) vwCl [(mo, .inr (11, [.ref m_disk, .int (nI P), .int ((8224 : Int32) + ((26 : Int32) * (nI P))), .int (1 : Int32), .int 0, .int (-1 : Int32), .int 0, .int (0 : Int32), .ref m_tape, .int 0, .ref m_slots, .ref m_leaves, .int 0, .int 0, .ref m_fresh, .int 0, .int (0 : Int32), .int (0 : Int32), .ref m_digestAt, .ref m_isGroup, .ref m_counts, .int (-1 : Int32), .int (0 : Int32), .long (0 : Int64), .int (0 : Int32), .ref m_versionRow, .int (0 : Int32), .long (0 : Int64), .ref m_state, .ref m_names, .int 0, .ref m_keptRow, .int 0, .ref m_inSlot, .ref m_inAt, .ref m_inSize, .ref m_inDigest, .int 0])), (m_digestAt, .inl (d_digestAt, 128, .inr (.inl (zr_L 128)))), (m_isGroup, .inl (d_isGroup, 128, .inl (zr_Z 128))), (m_counts, .inl (d_counts, 128, .inl (zr_Z 128)))] H := hP
        have hD : va_D A [(mo, .inr (11, [.ref m_disk, .int (nI P), .int ((8224 : Int32) + ((26 : Int32) * (nI P))), .int (1 : Int32), .int 0, .int (-1 : Int32), .int 0, .int (0 : Int32), .ref m_tape, .int 0, .ref m_slots, .ref m_leaves, .int 0, .int 0, .ref m_fresh, .int 0, .int (0 : Int32), .int (0 : Int32), .ref m_digestAt, .ref m_isGroup, .ref m_counts, .int (-1 : Int32), .int (0 : Int32), .long (0 : Int64), .int (0 : Int32), .ref m_versionRow, .int (0 : Int32), .long (0 : Int64), .ref m_state, .ref m_names, .int 0, .ref m_keptRow, .int 0, .ref m_inSlot, .ref m_inAt, .ref m_inSize, .ref m_inDigest, .int 0])), (m_digestAt, .inl (d_digestAt, 128, .inr (.inl (zr_L 128)))), (m_isGroup, .inl (d_isGroup, 128, .inl (zr_Z 128))), (m_counts, .inl (d_counts, 128, .inl (zr_Z 128)))] := hD
        refine lv_aload_n hx hb dX9_certify_43 rfl (lv_at hl 0 rfl) ?_
        refine va_get (D := (dC, dI)) (ci := 11) (v := .int (0 : Int32)) (C := RX9) (T := TX9) (N := 38) hx hb hts (by decide +kernel) hown hK hP 0 rfl rfl 17 (by decide) (hts (.fieldLink RX9 176 "BlockLogModel" "needs" "Z") (by decide +kernel)) (fun _ h9 => h9) rfl dX9_certify_44 ?_
        refine lv_if_eq (tgt := 53) hx hb dX9_certify_47 (by decide) (fun c_6 => ?_) (fun c_6 => ?_)
        · skip
          refine lv_aload_n hx hb dX9_certify_53 rfl (lv_at hl 0 rfl) ?_
          refine lv_aload_n hx hb dX9_certify_54 rfl (lv_at hl 0 rfl) ?_
          refine lv_lload_n hx hb dX9_certify_55 rfl (lv_at hl 1 rfl) ?_
          have hPc := hP.sub (ws' := []) [] rfl
          have hKc := hK.sub (tys' := []) [] rfl
          refine vp_callSl (va_Run.run (va_runV (As := [.long w0]) (rest := [.ref mo]) ⟨hx, hb, hml, hown, hts⟩ (k_X9_meant_3 l dC dI mo w0 hf2) (cwV 1 hts gX9_certify_X9_meant rfl rfl rfl (by decide +kernel) ⟨Nat.le_of_ble_eq_true rfl, Nat.le_of_ble_eq_true rfl⟩) ⟨fun a U g mk q => by obtain ⟨q0, qP, qK⟩ := q; exact ⟨q0, qP, va_K.moved (u := U) (U := U.calling g mk a) (Vm.Alike.refl U.vm) qK⟩, va_recv hK hP (ci := 11) (q := (RX9, TX9, 38)) rfl (q0 := 0) rfl, fun U hU hW => ⟨rfl, by rw [hU]; exact hPc, va_K.moved hW.alike hKc⟩⟩ rfl rfl hl.1 rfl (lv_room (Nat.le_of_ble_eq_true rfl)) dX9_certify_56 ⟨Nat.le_of_ble_eq_true rfl, Nat.le_of_ble_eq_true rfl⟩)) (fun r_7 er_7 => ?_)
          replace er_7 := er_7.symm
          subst er_7
          refine lv_aload_n hx hb dX9_certify_59 rfl (lv_at hl 0 rfl) ?_
          refine va_get (D := (dC, dI)) (ci := 11) (v := .int (0 : Int32)) (C := RX9) (T := TX9) (N := 38) hx hb hts (by decide +kernel) hown hK hP 0 rfl rfl 16 (by decide) (hts (.fieldLink RX9 167 "BlockLogModel" "many" "I") (by decide +kernel)) (fun _ h9 => h9) rfl dX9_certify_60 ?_
          have hPc := hP.sub (ws' := []) [] rfl
          have hKc := hK.sub (tys' := []) [] rfl
          refine vp_callSi (va_Run.run (va_runV (As := [.long w0, .int (0 : Int32)]) (rest := []) ⟨hx, hb, hml, hown, hts⟩ (k_X9_blockRow_2 l dC dI mo w0) (cwV 2 hts gX9_certify_X9_blockRow rfl rfl rfl (by decide +kernel) ⟨Nat.le_of_ble_eq_true rfl, Nat.le_of_ble_eq_true rfl⟩) ⟨fun a U g mk q => by obtain ⟨q0, qP, qK⟩ := q; exact ⟨q0, qP, va_K.moved (u := U) (U := U.calling g mk a) (Vm.Alike.refl U.vm) qK⟩, va_recv hK hP (ci := 11) (q := (RX9, TX9, 38)) rfl (q0 := 0) rfl, fun U hU hW => ⟨rfl, by rw [hU]; exact hPc, va_K.moved hW.alike hKc⟩⟩ rfl rfl hl.1 rfl (lv_room (Nat.le_of_ble_eq_true rfl)) dX9_certify_63 ⟨Nat.le_of_ble_eq_true rfl, Nat.le_of_ble_eq_true rfl⟩)) (fun r_8 er_8 => ?_)
          subst er_8
          refine lv_istore (lv' := [(4, .int (-1 : Int32)), (0, .ref mo), (1, .long w0), (3, .int p1)]) hx hb dX9_certify_66 hl (by decide) rfl (fun ls hl => ?_)
          refine lv_iload hx hb dX9_certify_68 (lv_at hl 0 rfl) ?_
          refine lv_iconst (v := (-1)) hx hb dX9_certify_70 (by decide) ?_
          refine lv_icmp_ne (tgt := 77) hx hb dX9_certify_71 (by decide) (fun c_9 => ?_) (fun c_9 => ?_)
          · skip
            exact absurd (by decide) c_9
          · skip
            refine lv_bipush (v := (-6)) hx hb dX9_certify_74 (by decide) ?_
            have hP := hP.sub (ws' := [(mo, .inr (11, [.ref m_disk, .int (nI P), .int ((8224 : Int32) + ((26 : Int32) * (nI P))), .int (1 : Int32), .int 0, .int (-1 : Int32), .int 0, .int (0 : Int32), .ref m_tape, .int 0, .ref m_slots, .ref m_leaves, .int 0, .int 0, .ref m_fresh, .int 0, .int (0 : Int32), .int (0 : Int32), .ref m_digestAt, .ref m_isGroup, .ref m_counts, .int (-1 : Int32), .int (0 : Int32), .long (0 : Int64), .int (0 : Int32), .ref m_versionRow, .int (0 : Int32), .long (0 : Int64), .ref m_state, .ref m_names, .int 0, .ref m_keptRow, .int 0, .ref m_inSlot, .ref m_inAt, .ref m_inSize, .ref m_inDigest, .int 0]))]) [0] rfl
            have hD := hD.sub (ws' := [(mo, .inr (11, [.ref m_disk, .int (nI P), .int ((8224 : Int32) + ((26 : Int32) * (nI P))), .int (1 : Int32), .int 0, .int (-1 : Int32), .int 0, .int (0 : Int32), .ref m_tape, .int 0, .ref m_slots, .ref m_leaves, .int 0, .int 0, .ref m_fresh, .int 0, .int (0 : Int32), .int (0 : Int32), .ref m_digestAt, .ref m_isGroup, .ref m_counts, .int (-1 : Int32), .int (0 : Int32), .long (0 : Int64), .int (0 : Int32), .ref m_versionRow, .int (0 : Int32), .long (0 : Int64), .ref m_state, .ref m_names, .int 0, .ref m_keptRow, .int 0, .ref m_inSlot, .ref m_inAt, .ref m_inSize, .ref m_inDigest, .int 0]))]) [0] (by decide) rfl
            have hK := hK.sub (tys' := [(d_digestAt, .long), (d_isGroup, .boolean), (d_counts, .boolean)]) [0, 1, 2] rfl
            exact W.iret hx hb hr (fun t ht hW => ⟨⟨_, (), rfl, rfl, by rw [ht]; exact hP, va_K.moved hW.alike hK, hD⟩, hS.F ht⟩) hS.2.2 dX9_certify_76
        · skip
          exact absurd (by decide) c_6
      · skip
        exact absurd (by decide) c_4
    · skip
      exact absurd c_3 (by decide)
  · skip
    exact absurd c_1 (by decide)

set_option maxHeartbeats 4000000 in
set_option maxRecDepth 100000 in
theorem k_X6_lastVersion_1 (l : Launch) (dC : Nat → ClassId) (dI : Nat → Nat → Nat) (so : Nat) (rr : Nat) (s1 : Nat) (s2 : Nat) (s3 : Nat) (s4 : Nat) (s5 : Nat) (s6 : Nat)  : Met l yX6_lastVersion wsX6_lastVersion ({ frames := 0, cells := 0, slots := 0, locals := 0 }) (va_Pc [.ref so] (fun U => va_P (dC, dI) vwCl [(so, .inr (8, [.ref rr, .ref s1, .ref s2, .ref s3, .ref s4, .ref s5, .ref s6, .int (0 : Int32), .int (0 : Int32), .int (-1 : Int32), .int (0 : Int32), .int (0 : Int32)]))] U.heap ∧ va_K (dC, dI) vwCl [] U)) (vp_Si (fun r => r = (0 : Int32) + (0 : Int32))) 0 0 (fun _ => False) := by
  refine Met.ofW (cc := cX6_lastVersion) (maxL := 1) (ret := (some .int)) (by decide) rfl ?_
  intro p e s m args below meth c s₁ B hml hv
  obtain ⟨rfl, hP, hK⟩ := hv
  have hx := B.exec
  have hb := B.bytes
  have hr := B.returns
  have hts := atoms_spec (ws := wsX6_lastVersion) B.pre
  have hown : s.vm.findClass RX6 = some m.cls := findClass_of_methodNamed B.named
  have hlocks := B.notSynchronized
  have hl := lv_entry ([.ref so]) (n := 1) (Nat.le_of_ble_eq_true rfl)
  rw [lg_entry_eq]
  generalize (lg_sl ([.ref so]) ++ List.replicate (1 - (lg_sl ([.ref so])).length) Slot.unset).toArray = ls at hl ⊢
  have hl : lv_has ls 1 [(0, .ref so)] := hl
  refine lv_aload_n hx hb dX6_lastVersion_0 rfl (lv_at hl 0 rfl) ?_
  refine va_get (D := (dC, dI)) (ci := 8) (v := .int (0 : Int32)) (C := RX6) (T := TX6) (N := 12) hx hb hts (by decide +kernel) hown hK hP 0 rfl rfl 11 (by decide) (hts (.fieldLink RX6 50 "BlockLog$Story" "baseHeight" "I") (by decide +kernel)) (fun _ h9 => h9) rfl dX6_lastVersion_1 ?_
  refine lv_aload_n hx hb dX6_lastVersion_4 rfl (lv_at hl 0 rfl) ?_
  refine va_get (D := (dC, dI)) (ci := 8) (v := .int (0 : Int32)) (C := RX6) (T := TX6) (N := 12) hx hb hts (by decide +kernel) hown hK hP 0 rfl rfl 8 (by decide) (hts (.fieldLink RX6 40 "BlockLog$Story" "certified" "I") (by decide +kernel)) (fun _ h9 => h9) rfl dX6_lastVersion_5 ?_
  refine lv_iadd hx hb dX6_lastVersion_8 ?_
  exact W.iret hx hb hr (fun t ht hW => ⟨_, rfl, rfl, ht⟩) (fun q h => by cases h) dX6_lastVersion_9

set_option maxHeartbeats 4000000 in
set_option maxRecDepth 100000 in
theorem k_X8_version_1 (l : Launch) (dC : Nat → ClassId) (dI : Nat → Nat → Nat) (x : Nat) (ds : Nat) (so : Nat) (tp : Nat) (rr : Nat) (pu : Nat) (sn : Nat) (im : Nat) (cs : Nat) (cl : Nat) (pg : Int32) (dl : Nat) (dr : Nat) (dt : Nat) (s1 : Nat) (s2 : Nat) (s3 : Nat) (s4 : Nat) (s5 : Nat) (s6 : Nat)  : Met l yX8_version wsX8_version ({ frames := 1, cells := 0, slots := 0, locals := 20 }) (va_Pc [.ref x, .int (0 : Int32)] (fun U => va_P (dC, dI) vwCl [(x, .inr (10, [.ref tp, .ref ds, .ref rr, .ref so, .ref pu, .ref sn, .ref im, .ref cs, .ref cl, .int (0 : Int32)])), (ds, .inr (3, [.int pg, .ref dl, .ref dr, .ref dt, .int (1 : Int32), .int (-1 : Int32), .int (0 : Int32)])), (so, .inr (8, [.ref rr, .ref s1, .ref s2, .ref s3, .ref s4, .ref s5, .ref s6, .int (0 : Int32), .int (0 : Int32), .int (-1 : Int32), .int (0 : Int32), .int (0 : Int32)]))] U.heap ∧ va_K (dC, dI) vwCl [] U ∧ gx_W U)) (vp_Si (fun r => r = (0 : Int32))) 0 0 (fun _ => False) := by
  refine Met.ofW (cc := cX8_version) (maxL := 2) (ret := (some .int)) (by decide) rfl ?_
  intro p e s m args below meth c s₁ B hml hv
  obtain ⟨rfl, hP, hK, hG⟩ := hv
  have hx := B.exec
  have hb := B.bytes
  have hr := B.returns
  have hts := atoms_spec (ws := wsX8_version) B.pre
  have hown : s.vm.findClass RX8 = some m.cls := findClass_of_methodNamed B.named
  have hlocks := B.notSynchronized
  have hl := lv_entry ([.ref x, .int (0 : Int32)]) (n := 2) (Nat.le_of_ble_eq_true rfl)
  rw [lg_entry_eq]
  generalize (lg_sl ([.ref x, .int (0 : Int32)]) ++ List.replicate (2 - (lg_sl ([.ref x, .int (0 : Int32)])).length) Slot.unset).toArray = ls at hl ⊢
  have hl : lv_has ls 2 [(0, .ref x), (1, .int (0 : Int32))] := hl
  refine lv_aload_n hx hb dX8_version_0 rfl (lv_at hl 0 rfl) ?_
  have hPc := hP.sub (ws' := [(x, .inr (10, [.ref tp, .ref ds, .ref rr, .ref so, .ref pu, .ref sn, .ref im, .ref cs, .ref cl, .int (0 : Int32)])), (ds, .inr (3, [.int pg, .ref dl, .ref dr, .ref dt, .int (1 : Int32), .int (-1 : Int32), .int (0 : Int32)]))]) [0, 1] rfl
  have hKc := hK.sub (tys' := []) [] rfl
  refine va_csv (va_Run.run (va_runV (As := []) (rest := []) ⟨hx, hb, hml, hown, hts⟩ (k_X8_demandPower_1 l dC dI x ds tp rr so pu sn im cs cl pg dl dr dt) (cwV 0 hts gX8_version_X8_demandPower rfl rfl rfl (by decide +kernel) ⟨Nat.le_of_ble_eq_true rfl, Nat.le_of_ble_eq_true rfl⟩) ⟨fun a U g mk q => by obtain ⟨q0, qP, qK, qG⟩ := q; exact ⟨q0, qP, va_K.moved (u := U) (U := U.calling g mk a) (Vm.Alike.refl U.vm) qK, qG.same rfl⟩, va_recv hK hP (ci := 10) (q := (RX8, TX8, 10)) rfl (q0 := 0) rfl, fun U hU hW => ⟨rfl, by rw [hU]; exact hPc, va_K.moved hW.alike hKc, hG.warm hW⟩⟩ rfl rfl hl.1 rfl (lv_room (Nat.le_of_ble_eq_true rfl)) dX8_version_1 ⟨Nat.le_of_ble_eq_true rfl, Nat.le_of_ble_eq_true rfl⟩)) (fun _ => ?_)
  refine lv_iload_n hx hb dX8_version_4 rfl (lv_at hl 1 rfl) ?_
  refine lv_if_eq (tgt := 23) hx hb dX8_version_5 (by decide) (fun c_2 => ?_) (fun c_2 => ?_)
  · skip
    refine lv_iload_n hx hb dX8_version_23 rfl (lv_at hl 1 rfl) ?_
    refine lv_if_ne (tgt := 37) hx hb dX8_version_24 (by decide) (fun c_3 => ?_) (fun c_3 => ?_)
    · skip
      exact absurd (by decide) c_3
    · skip
      refine lv_aload_n hx hb dX8_version_27 rfl (lv_at hl 0 rfl) ?_
      refine va_get (D := (dC, dI)) (ci := 10) (v := .ref so) (C := RX8) (T := TX8) (N := 10) hx hb hts (by decide +kernel) hown hK hP 0 rfl rfl 3 (by decide) (hts (.fieldLink RX8 40 "BlockLog" "story" "LBlockLog$Story;") (by decide +kernel)) (fun _ h9 => h9) rfl dX8_version_28 ?_
      have hPc := hP.sub (ws' := [(so, .inr (8, [.ref rr, .ref s1, .ref s2, .ref s3, .ref s4, .ref s5, .ref s6, .int (0 : Int32), .int (0 : Int32), .int (-1 : Int32), .int (0 : Int32), .int (0 : Int32)]))]) [2] rfl
      have hKc := hK.sub (tys' := []) [] rfl
      refine vp_callSi (va_Run.run (va_runV (As := []) (rest := []) ⟨hx, hb, hml, hown, hts⟩ (k_X6_lastVersion_1 l dC dI so rr s1 s2 s3 s4 s5 s6) (cwV 0 hts gX8_version_X6_lastVersion rfl rfl rfl (by decide +kernel) ⟨Nat.le_of_ble_eq_true rfl, Nat.le_of_ble_eq_true rfl⟩) ⟨fun a U g mk q => by obtain ⟨q0, qP, qK⟩ := q; exact ⟨q0, qP, va_K.moved (u := U) (U := U.calling g mk a) (Vm.Alike.refl U.vm) qK⟩, va_recv hK hP (ci := 8) (q := (RX6, TX6, 12)) rfl (q0 := 2) rfl, fun U hU hW => ⟨rfl, by rw [hU]; exact hPc, va_K.moved hW.alike hKc⟩⟩ rfl rfl hl.1 rfl (lv_room (Nat.le_of_ble_eq_true rfl)) dX8_version_31 ⟨Nat.le_of_ble_eq_true rfl, Nat.le_of_ble_eq_true rfl⟩)) (fun r_4 er_4 => ?_)
      replace er_4 := er_4.trans (show _ = (0 : Int32) by decide +kernel)
      subst er_4
      refine lv_goto (tgt := 44) hx hb dX8_version_34 (by decide) ?_
      exact W.iret hx hb hr (fun t ht hW => ⟨_, rfl, rfl, ht⟩) (fun q h => by cases h) dX8_version_44
  · skip
    exact absurd (by decide) c_2

set_option maxHeartbeats 4000000 in
set_option maxRecDepth 100000 in
theorem k_L_version_1 (l : Launch) (dC : Nat → ClassId) (dI : Nat → Nat → Nat) (x : Nat) (ho : Nat) (ds : Nat) (so : Nat) (tp : Nat) (rr : Nat) (pu : Nat) (sn : Nat) (im : Nat) (cs : Nat) (cl : Nat) (pg : Int32) (dl : Nat) (dr : Nat) (dt : Nat) (s1 : Nat) (s2 : Nat) (s3 : Nat) (s4 : Nat) (s5 : Nat) (s6 : Nat) (cJ : ClassId) (g1 : Nat → Int64) (sz : Nat)  : Met l yL_version wsL_version ({ frames := 2, cells := 0, slots := 0, locals := 41 }) (va_Pc [.ref x, .int (0 : Int32), .ref ho] (fun U => U.heap.size = sz ∧ va_P (dC, dI) vwCl [(x, .inr (10, [.ref tp, .ref ds, .ref rr, .ref so, .ref pu, .ref sn, .ref im, .ref cs, .ref cl, .int (0 : Int32)])), (ds, .inr (3, [.int pg, .ref dl, .ref dr, .ref dt, .int (1 : Int32), .int (-1 : Int32), .int (0 : Int32)])), (so, .inr (8, [.ref rr, .ref s1, .ref s2, .ref s3, .ref s4, .ref s5, .ref s6, .int (0 : Int32), .int (0 : Int32), .int (-1 : Int32), .int (0 : Int32), .int (0 : Int32)])), (ho, .inl (cJ, 1, .inr (.inl g1)))] U.heap ∧ va_K (dC, dI) vwCl [(cJ, .long)] U ∧ va_D (fun _ => True) [(x, .inr (10, [.ref tp, .ref ds, .ref rr, .ref so, .ref pu, .ref sn, .ref im, .ref cs, .ref cl, .int (0 : Int32)])), (ds, .inr (3, [.int pg, .ref dl, .ref dr, .ref dt, .int (1 : Int32), .int (-1 : Int32), .int (0 : Int32)])), (so, .inr (8, [.ref rr, .ref s1, .ref s2, .ref s3, .ref s4, .ref s5, .ref s6, .int (0 : Int32), .int (0 : Int32), .int (-1 : Int32), .int (0 : Int32), .int (0 : Int32)])), (ho, .inl (cJ, 1, .inr (.inl g1)))] ∧ gx_E (va_A [(x, .inr (10, [.ref tp, .ref ds, .ref rr, .ref so, .ref pu, .ref sn, .ref im, .ref cs, .ref cl, .int (0 : Int32)])), (ds, .inr (3, [.int pg, .ref dl, .ref dr, .ref dt, .int (1 : Int32), .int (-1 : Int32), .int (0 : Int32)])), (so, .inr (8, [.ref rr, .ref s1, .ref s2, .ref s3, .ref s4, .ref s5, .ref s6, .int (0 : Int32), .int (0 : Int32), .int (-1 : Int32), .int (0 : Int32), .int (0 : Int32)])), (ho, .inl (cJ, 1, .inr (.inl g1)))] sz) U)) (va_Qi (fun r (_ : Unit) => r = (0 : Int32)) (fun (_ : Unit) t => va_P (dC, dI) vwCl [(ho, .inl (cJ, 1, .inr (.inl (vp_updL g1 (0 : Int32).toNatClampNeg ((0 : Int32).toInt64)))))] t.heap ∧ va_K (dC, dI) vwCl [(cJ, .long)] t ∧ va_D (va_A [(x, .inr (10, [.ref tp, .ref ds, .ref rr, .ref so, .ref pu, .ref sn, .ref im, .ref cs, .ref cl, .int (0 : Int32)])), (ds, .inr (3, [.int pg, .ref dl, .ref dr, .ref dt, .int (1 : Int32), .int (-1 : Int32), .int (0 : Int32)])), (so, .inr (8, [.ref rr, .ref s1, .ref s2, .ref s3, .ref s4, .ref s5, .ref s6, .int (0 : Int32), .int (0 : Int32), .int (-1 : Int32), .int (0 : Int32), .int (0 : Int32)])), (ho, .inl (cJ, 1, .inr (.inl g1)))] sz) [(ho, .inl (cJ, 1, .inr (.inl (vp_updL g1 (0 : Int32).toNatClampNeg ((0 : Int32).toInt64)))))]) (va_A [(x, .inr (10, [.ref tp, .ref ds, .ref rr, .ref so, .ref pu, .ref sn, .ref im, .ref cs, .ref cl, .int (0 : Int32)])), (ds, .inr (3, [.int pg, .ref dl, .ref dr, .ref dt, .int (1 : Int32), .int (-1 : Int32), .int (0 : Int32)])), (so, .inr (8, [.ref rr, .ref s1, .ref s2, .ref s3, .ref s4, .ref s5, .ref s6, .int (0 : Int32), .int (0 : Int32), .int (-1 : Int32), .int (0 : Int32), .int (0 : Int32)])), (ho, .inl (cJ, 1, .inr (.inl g1)))] sz)) 0 0 (va_A [(x, .inr (10, [.ref tp, .ref ds, .ref rr, .ref so, .ref pu, .ref sn, .ref im, .ref cs, .ref cl, .int (0 : Int32)])), (ds, .inr (3, [.int pg, .ref dl, .ref dr, .ref dt, .int (1 : Int32), .int (-1 : Int32), .int (0 : Int32)])), (so, .inr (8, [.ref rr, .ref s1, .ref s2, .ref s3, .ref s4, .ref s5, .ref s6, .int (0 : Int32), .int (0 : Int32), .int (-1 : Int32), .int (0 : Int32), .int (0 : Int32)])), (ho, .inl (cJ, 1, .inr (.inl g1)))] sz) := by
  refine va_MetW (cc := cL_version) (maxL := 4) (ret := (some .int)) (hh := [(0, 9, 12, 25), (0, 9, 15, 13)]) (by decide) rfl ?_
  intro p e s m args below meth c s₁ B hml hv
  obtain ⟨rfl, hsz, hP, hK, hD0, hG⟩ := hv
  have hx := B.exec
  have hb := B.bytes
  have hr := B.returns
  have hts := atoms_spec (ws := wsL_version) B.pre
  have hown : s.vm.findClass RL = some m.cls := findClass_of_methodNamed B.named
  have hlocks := B.notSynchronized
  have htab := vx_table (x := yL_version) B (hts (.codeWith yL_version cL_version 4 (some .int) [(0, 9, 12, 25), (0, 9, 15, 13)]) List.mem_cons_self)
  subst hsz
  have hD := hD0.self (sz := s.heap.size)
  generalize hAe : va_A [(x, .inr (10, [.ref tp, .ref ds, .ref rr, .ref so, .ref pu, .ref sn, .ref im, .ref cs, .ref cl, .int (0 : Int32)])), (ds, .inr (3, [.int pg, .ref dl, .ref dr, .ref dt, .int (1 : Int32), .int (-1 : Int32), .int (0 : Int32)])), (so, .inr (8, [.ref rr, .ref s1, .ref s2, .ref s3, .ref s4, .ref s5, .ref s6, .int (0 : Int32), .int (0 : Int32), .int (-1 : Int32), .int (0 : Int32), .int (0 : Int32)])), (ho, .inl (cJ, 1, .inr (.inl g1)))] s.heap.size = A at hD hG ⊢
  have hA : ∀ q : Nat, s.heap.size ≤ q → A q := fun q h => by rw [← hAe]; exact Or.inr h
  have hS : va_S A s.heap s.heap [] := va_S.rf
  have hl := lv_entry ([.ref x, .int (0 : Int32), .ref ho]) (n := 4) (Nat.le_of_ble_eq_true rfl)
  rw [lg_entry_eq]
  generalize (lg_sl ([.ref x, .int (0 : Int32), .ref ho]) ++ List.replicate (4 - (lg_sl ([.ref x, .int (0 : Int32), .ref ho])).length) Slot.unset).toArray = ls at hl ⊢
  have hl : lv_has ls 4 [(0, .ref x), (1, .int (0 : Int32)), (2, .ref ho)] := hl
  refine lv_aload_n hx hb dL_version_0 rfl (lv_at hl 2 rfl) ?_
  refine lv_iconst (v := 0) hx hb dL_version_1 (by decide) ?_
  refine lv_aload_n hx hb dL_version_2 rfl (lv_at hl 0 rfl) ?_
  refine lv_iload_n hx hb dL_version_3 rfl (lv_at hl 1 rfl) ?_
  have hPc := hP.sub (ws' := [(x, .inr (10, [.ref tp, .ref ds, .ref rr, .ref so, .ref pu, .ref sn, .ref im, .ref cs, .ref cl, .int (0 : Int32)])), (ds, .inr (3, [.int pg, .ref dl, .ref dr, .ref dt, .int (1 : Int32), .int (-1 : Int32), .int (0 : Int32)])), (so, .inr (8, [.ref rr, .ref s1, .ref s2, .ref s3, .ref s4, .ref s5, .ref s6, .int (0 : Int32), .int (0 : Int32), .int (-1 : Int32), .int (0 : Int32), .int (0 : Int32)]))]) [0, 1, 2] rfl
  have hKc := hK.sub (tys' := []) [] rfl
  refine vp_callSi (va_Run.run (va_runV (As := [.int (0 : Int32)]) (rest := [.int (0 : Int32), .ref ho]) ⟨hx, hb, hml, hown, hts⟩ (k_X8_version_1 l dC dI x ds so tp rr pu sn im cs cl pg dl dr dt s1 s2 s3 s4 s5 s6) (cwV 1 hts gL_version_X8_version rfl rfl rfl (by decide +kernel) ⟨Nat.le_of_ble_eq_true rfl, Nat.le_of_ble_eq_true rfl⟩) ⟨fun a U g mk q => by obtain ⟨q0, qP, qK, qG⟩ := q; exact ⟨q0, qP, va_K.moved (u := U) (U := U.calling g mk a) (Vm.Alike.refl U.vm) qK, qG.same rfl⟩, va_recv hK hP (ci := 10) (q := (RX8, TX8, 10)) rfl (q0 := 0) rfl, fun U hU hW => ⟨rfl, by rw [hU]; exact hPc, va_K.moved hW.alike hKc, hG.1.warm hW⟩⟩ rfl rfl hl.1 rfl (lv_room (Nat.le_of_ble_eq_true rfl)) dL_version_4 ⟨Nat.le_of_ble_eq_true rfl, Nat.le_of_ble_eq_true rfl⟩)) (fun r_1 er_1 => ?_)
  subst er_1
  refine lv_i2l hx hb dL_version_7 rfl ?_
  refine va_last hx hb hK hP hD hS 3 0 rfl rfl (by unfold vp_in; decide +kernel) dL_version_8 (fun H locs hP hD hS => ?_)
  have hP : va_P (dC, dI) vwCl [(x, .inr (10, [.ref tp, .ref ds, .ref rr, .ref so, .ref pu, .ref sn, .ref im, .ref cs, .ref cl, .int (0 : Int32)])), (ds, .inr (3, [.int pg, .ref dl, .ref dr, .ref dt, .int (1 : Int32), .int (-1 : Int32), .int (0 : Int32)])), (so, .inr (8, [.ref rr, .ref s1, .ref s2, .ref s3, .ref s4, .ref s5, .ref s6, .int (0 : Int32), .int (0 : Int32), .int (-1 : Int32), .int (0 : Int32), .int (0 : Int32)])), (ho, .inl (cJ, 1, .inr (.inl (vp_updL g1 (0 : Int32).toNatClampNeg ((0 : Int32).toInt64)))))] H := hP
  have hD : va_D A [(x, .inr (10, [.ref tp, .ref ds, .ref rr, .ref so, .ref pu, .ref sn, .ref im, .ref cs, .ref cl, .int (0 : Int32)])), (ds, .inr (3, [.int pg, .ref dl, .ref dr, .ref dt, .int (1 : Int32), .int (-1 : Int32), .int (0 : Int32)])), (so, .inr (8, [.ref rr, .ref s1, .ref s2, .ref s3, .ref s4, .ref s5, .ref s6, .int (0 : Int32), .int (0 : Int32), .int (-1 : Int32), .int (0 : Int32), .int (0 : Int32)])), (ho, .inl (cJ, 1, .inr (.inl (vp_updL g1 (0 : Int32).toNatClampNeg ((0 : Int32).toInt64)))))] := hD
  refine lv_goto (tgt := 18) hx hb dL_version_9 (by decide) ?_
  refine lv_iconst (v := 0) hx hb dL_version_18 (by decide) ?_
  have hP := hP.sub (ws' := [(ho, .inl (cJ, 1, .inr (.inl (vp_updL g1 (0 : Int32).toNatClampNeg ((0 : Int32).toInt64)))))]) [3] rfl
  have hD := hD.sub (ws' := [(ho, .inl (cJ, 1, .inr (.inl (vp_updL g1 (0 : Int32).toNatClampNeg ((0 : Int32).toInt64)))))]) [3] (by decide) rfl
  have hK := hK.sub (tys' := [(cJ, .long)]) [0] rfl
  exact W.iret hx hb hr (fun t ht hW => ⟨⟨_, (), rfl, rfl, by rw [ht]; exact hP, va_K.moved hW.alike hK, hD⟩, hS.F ht⟩) hS.2.2 dL_version_19

set_option maxHeartbeats 4000000 in
set_option maxRecDepth 100000 in
theorem k_X9_version_1 (l : Launch) (dC : Nat → ClassId) (dI : Nat → Nat → Nat) (mo : Nat) (m_digestAt : Nat) (m_isGroup : Nat) (m_counts : Nat) (m_disk : Nat) (P : Nat) (m_tape : Nat) (m_slots : Nat) (m_leaves : Nat) (m_fresh : Nat) (m_versionRow : Nat) (m_state : Nat) (m_names : Nat) (m_keptRow : Nat) (m_inSlot : Nat) (m_inAt : Nat) (m_inSize : Nat) (m_inDigest : Nat) (d_digestAt : ClassId) (d_isGroup : ClassId) (d_counts : ClassId) (sz : Nat)  : Met l yX9_version wsX9_version ({ frames := 3, cells := 0, slots := 0, locals := 65 }) (va_Pc [.ref mo, .int (0 : Int32)] (fun U => U.heap.size = sz ∧ va_P (dC, dI) vwCl [(mo, .inr (11, [.ref m_disk, .int (nI P), .int ((8224 : Int32) + ((26 : Int32) * (nI P))), .int (1 : Int32), .int 0, .int (-1 : Int32), .int 0, .int (0 : Int32), .ref m_tape, .int 0, .ref m_slots, .ref m_leaves, .int 0, .int 0, .ref m_fresh, .int 0, .int 0, .int 0, .ref m_digestAt, .ref m_isGroup, .ref m_counts, .int 0, .int 0, .long 0, .int 0, .ref m_versionRow, .int 0, .long 0, .ref m_state, .ref m_names, .int 0, .ref m_keptRow, .int 0, .ref m_inSlot, .ref m_inAt, .ref m_inSize, .ref m_inDigest, .int 0])), (m_digestAt, .inl (d_digestAt, 128, .inr (.inl (fun _ => 0)))), (m_isGroup, .inl (d_isGroup, 128, .inl (fun _ => 0))), (m_counts, .inl (d_counts, 128, .inl (fun _ => 0)))] U.heap ∧ va_K (dC, dI) vwCl [(d_digestAt, .long), (d_isGroup, .boolean), (d_counts, .boolean)] U ∧ va_D (fun _ => True) [(mo, .inr (11, [.ref m_disk, .int (nI P), .int ((8224 : Int32) + ((26 : Int32) * (nI P))), .int (1 : Int32), .int 0, .int (-1 : Int32), .int 0, .int (0 : Int32), .ref m_tape, .int 0, .ref m_slots, .ref m_leaves, .int 0, .int 0, .ref m_fresh, .int 0, .int 0, .int 0, .ref m_digestAt, .ref m_isGroup, .ref m_counts, .int 0, .int 0, .long 0, .int 0, .ref m_versionRow, .int 0, .long 0, .ref m_state, .ref m_names, .int 0, .ref m_keptRow, .int 0, .ref m_inSlot, .ref m_inAt, .ref m_inSize, .ref m_inDigest, .int 0])), (m_digestAt, .inl (d_digestAt, 128, .inr (.inl (fun _ => 0)))), (m_isGroup, .inl (d_isGroup, 128, .inl (fun _ => 0))), (m_counts, .inl (d_counts, 128, .inl (fun _ => 0)))])) (va_Qi (fun r (_ : Unit) => r = (0 : Int32)) (fun (_ : Unit) t => va_P (dC, dI) vwCl [(mo, .inr (11, [.ref m_disk, .int (nI P), .int ((8224 : Int32) + ((26 : Int32) * (nI P))), .int (1 : Int32), .int 0, .int (-1 : Int32), .int 0, .int (0 : Int32), .ref m_tape, .int 0, .ref m_slots, .ref m_leaves, .int 0, .int 0, .ref m_fresh, .int 0, .int (0 : Int32), .int (0 : Int32), .ref m_digestAt, .ref m_isGroup, .ref m_counts, .int (-1 : Int32), .int (0 : Int32), .long (0 : Int64), .int (0 : Int32), .ref m_versionRow, .int (0 : Int32), .long (0 : Int64), .ref m_state, .ref m_names, .int 0, .ref m_keptRow, .int 0, .ref m_inSlot, .ref m_inAt, .ref m_inSize, .ref m_inDigest, .int 0]))] t.heap ∧ va_K (dC, dI) vwCl [(d_digestAt, .long), (d_isGroup, .boolean), (d_counts, .boolean)] t ∧ va_D (va_A [(mo, .inr (11, [.ref m_disk, .int (nI P), .int ((8224 : Int32) + ((26 : Int32) * (nI P))), .int (1 : Int32), .int 0, .int (-1 : Int32), .int 0, .int (0 : Int32), .ref m_tape, .int 0, .ref m_slots, .ref m_leaves, .int 0, .int 0, .ref m_fresh, .int 0, .int 0, .int 0, .ref m_digestAt, .ref m_isGroup, .ref m_counts, .int 0, .int 0, .long 0, .int 0, .ref m_versionRow, .int 0, .long 0, .ref m_state, .ref m_names, .int 0, .ref m_keptRow, .int 0, .ref m_inSlot, .ref m_inAt, .ref m_inSize, .ref m_inDigest, .int 0])), (m_digestAt, .inl (d_digestAt, 128, .inr (.inl (fun _ => 0)))), (m_isGroup, .inl (d_isGroup, 128, .inl (fun _ => 0))), (m_counts, .inl (d_counts, 128, .inl (fun _ => 0)))] sz) [(mo, .inr (11, [.ref m_disk, .int (nI P), .int ((8224 : Int32) + ((26 : Int32) * (nI P))), .int (1 : Int32), .int 0, .int (-1 : Int32), .int 0, .int (0 : Int32), .ref m_tape, .int 0, .ref m_slots, .ref m_leaves, .int 0, .int 0, .ref m_fresh, .int 0, .int (0 : Int32), .int (0 : Int32), .ref m_digestAt, .ref m_isGroup, .ref m_counts, .int (-1 : Int32), .int (0 : Int32), .long (0 : Int64), .int (0 : Int32), .ref m_versionRow, .int (0 : Int32), .long (0 : Int64), .ref m_state, .ref m_names, .int 0, .ref m_keptRow, .int 0, .ref m_inSlot, .ref m_inAt, .ref m_inSize, .ref m_inDigest, .int 0]))]) (va_A [(mo, .inr (11, [.ref m_disk, .int (nI P), .int ((8224 : Int32) + ((26 : Int32) * (nI P))), .int (1 : Int32), .int 0, .int (-1 : Int32), .int 0, .int (0 : Int32), .ref m_tape, .int 0, .ref m_slots, .ref m_leaves, .int 0, .int 0, .ref m_fresh, .int 0, .int 0, .int 0, .ref m_digestAt, .ref m_isGroup, .ref m_counts, .int 0, .int 0, .long 0, .int 0, .ref m_versionRow, .int 0, .long 0, .ref m_state, .ref m_names, .int 0, .ref m_keptRow, .int 0, .ref m_inSlot, .ref m_inAt, .ref m_inSize, .ref m_inDigest, .int 0])), (m_digestAt, .inl (d_digestAt, 128, .inr (.inl (fun _ => 0)))), (m_isGroup, .inl (d_isGroup, 128, .inl (fun _ => 0))), (m_counts, .inl (d_counts, 128, .inl (fun _ => 0)))] sz)) 0 0 (va_A [(mo, .inr (11, [.ref m_disk, .int (nI P), .int ((8224 : Int32) + ((26 : Int32) * (nI P))), .int (1 : Int32), .int 0, .int (-1 : Int32), .int 0, .int (0 : Int32), .ref m_tape, .int 0, .ref m_slots, .ref m_leaves, .int 0, .int 0, .ref m_fresh, .int 0, .int 0, .int 0, .ref m_digestAt, .ref m_isGroup, .ref m_counts, .int 0, .int 0, .long 0, .int 0, .ref m_versionRow, .int 0, .long 0, .ref m_state, .ref m_names, .int 0, .ref m_keptRow, .int 0, .ref m_inSlot, .ref m_inAt, .ref m_inSize, .ref m_inDigest, .int 0])), (m_digestAt, .inl (d_digestAt, 128, .inr (.inl (fun _ => 0)))), (m_isGroup, .inl (d_isGroup, 128, .inl (fun _ => 0))), (m_counts, .inl (d_counts, 128, .inl (fun _ => 0)))] sz) := by
  refine Met.ofW (cc := cX9_version) (maxL := 2) (ret := (some .int)) (by decide) rfl ?_
  intro p e s m args below meth c s₁ B hml hv
  obtain ⟨rfl, hsz, hP, hK, hD0⟩ := hv
  have hx := B.exec
  have hb := B.bytes
  have hr := B.returns
  have hts := atoms_spec (ws := wsX9_version) B.pre
  have hown : s.vm.findClass RX9 = some m.cls := findClass_of_methodNamed B.named
  have hlocks := B.notSynchronized
  subst hsz
  have hD := hD0.self (sz := s.heap.size)
  generalize hAe : va_A [(mo, .inr (11, [.ref m_disk, .int (nI P), .int ((8224 : Int32) + ((26 : Int32) * (nI P))), .int (1 : Int32), .int 0, .int (-1 : Int32), .int 0, .int (0 : Int32), .ref m_tape, .int 0, .ref m_slots, .ref m_leaves, .int 0, .int 0, .ref m_fresh, .int 0, .int 0, .int 0, .ref m_digestAt, .ref m_isGroup, .ref m_counts, .int 0, .int 0, .long 0, .int 0, .ref m_versionRow, .int 0, .long 0, .ref m_state, .ref m_names, .int 0, .ref m_keptRow, .int 0, .ref m_inSlot, .ref m_inAt, .ref m_inSize, .ref m_inDigest, .int 0])), (m_digestAt, .inl (d_digestAt, 128, .inr (.inl (fun _ => 0)))), (m_isGroup, .inl (d_isGroup, 128, .inl (fun _ => 0))), (m_counts, .inl (d_counts, 128, .inl (fun _ => 0)))] s.heap.size = A at hD ⊢
  have hA : ∀ q : Nat, s.heap.size ≤ q → A q := fun q h => by rw [← hAe]; exact Or.inr h
  have hS : va_S A s.heap s.heap [] := va_S.rf
  have hl := lv_entry ([.ref mo, .int (0 : Int32)]) (n := 2) (Nat.le_of_ble_eq_true rfl)
  rw [lg_entry_eq]
  generalize (lg_sl ([.ref mo, .int (0 : Int32)]) ++ List.replicate (2 - (lg_sl ([.ref mo, .int (0 : Int32)])).length) Slot.unset).toArray = ls at hl ⊢
  have hl : lv_has ls 2 [(0, .ref mo), (1, .int (0 : Int32))] := hl
  refine lv_aload_n hx hb dX9_version_0 rfl (lv_at hl 0 rfl) ?_
  refine lv_aload_n hx hb dX9_version_1 rfl (lv_at hl 0 rfl) ?_
  refine va_get (D := (dC, dI)) (ci := 11) (v := .int (1 : Int32)) (C := RX9) (T := TX9) (N := 38) hx hb hts (by decide +kernel) hown hK hP 0 rfl rfl 3 (by decide) (hts (.fieldLink RX9 72 "BlockLogModel" "on" "Z") (by decide +kernel)) (fun _ h9 => h9) rfl dX9_version_2 ?_
  refine lv_if_ne (tgt := 12) hx hb dX9_version_5 (by decide) (fun c_1 => ?_) (fun c_1 => ?_)
  · skip
    refine lv_iload_n hx hb dX9_version_12 rfl (lv_at hl 1 rfl) ?_
    refine lv_iconst (v := 0) hx hb dX9_version_13 (by decide) ?_
    refine lv_iconst (v := 1) hx hb dX9_version_14 (by decide) ?_
    have hPc := hP.sub (ws' := []) [] rfl
    have hKc := hK.sub (tys' := []) [] rfl
    refine vp_callSi (va_Run.run (va_runS (As := [.int (0 : Int32), .int (0 : Int32), .int (1 : Int32)]) (rest := [.ref mo]) ⟨hx, hb, hml, hown, hts⟩ (k_X9_within_3 l dC dI (0 : Int32) (0 : Int32) (1 : Int32) (by decide) (by decide)) (va_cwS 3 hts gX9_version_X9_within rfl rfl rfl (by decide +kernel) ⟨Nat.le_of_ble_eq_true rfl, Nat.le_of_ble_eq_true rfl⟩) ⟨fun a U g mk q => by obtain ⟨q0, qP, qK⟩ := q; exact ⟨q0, qP, va_K.moved (u := U) (U := U.calling g mk a) (Vm.Alike.refl U.vm) qK⟩, fun U hU hW => ⟨rfl, by rw [hU]; exact hPc, va_K.moved hW.alike hKc⟩⟩ rfl rfl hl.1 rfl (lv_room (Nat.le_of_ble_eq_true rfl)) dX9_version_15 ⟨Nat.le_of_ble_eq_true rfl, Nat.le_of_ble_eq_true rfl⟩)) (fun r_2 er_2 => ?_)
    subst er_2
    refine lv_if_ne (tgt := 25) hx hb dX9_version_18 (by decide) (fun c_3 => ?_) (fun c_3 => ?_)
    · skip
      refine lv_iconst (v := 0) hx hb dX9_version_25 (by decide) ?_
      refine va_put (D := (dC, dI)) (ci := 11) (v := .int (0 : Int32)) (ty := .int) (C := RX9) (T := TX9) (N := 38) hx hb hts (by decide +kernel) tyX9 tyX9_ok nmX9 hown hK hP hD hS 0 rfl rfl 13 (by decide) (hts (.fieldLink RX9 91 "BlockLogModel" "thrown" "I") (by decide +kernel)) (fun _ h9 => h9) rfl (by decide +kernel) rfl rfl (Nat.le_of_ble_eq_true rfl) dX9_version_26 (fun H locs hP hD hS => ?_)
      have hP : va_P (dC, dI) vwCl [(mo, .inr (11, [.ref m_disk, .int (nI P), .int ((8224 : Int32) + ((26 : Int32) * (nI P))), .int (1 : Int32), .int 0, .int (-1 : Int32), .int 0, .int (0 : Int32), .ref m_tape, .int 0, .ref m_slots, .ref m_leaves, .int 0, .int (0 : Int32), .ref m_fresh, .int 0, .int 0, .int 0, .ref m_digestAt, .ref m_isGroup, .ref m_counts, .int 0, .int 0, .long 0, .int 0, .ref m_versionRow, .int 0, .long 0, .ref m_state, .ref m_names, .int 0, .ref m_keptRow, .int 0, .ref m_inSlot, .ref m_inAt, .ref m_inSize, .ref m_inDigest, .int 0])), (m_digestAt, .inl (d_digestAt, 128, .inr (.inl (fun _ => 0)))), (m_isGroup, .inl (d_isGroup, 128, .inl (fun _ => 0))), (m_counts, .inl (d_counts, 128, .inl (fun _ => 0)))] H := hP
      have hD : va_D A [(mo, .inr (11, [.ref m_disk, .int (nI P), .int ((8224 : Int32) + ((26 : Int32) * (nI P))), .int (1 : Int32), .int 0, .int (-1 : Int32), .int 0, .int (0 : Int32), .ref m_tape, .int 0, .ref m_slots, .ref m_leaves, .int 0, .int (0 : Int32), .ref m_fresh, .int 0, .int 0, .int 0, .ref m_digestAt, .ref m_isGroup, .ref m_counts, .int 0, .int 0, .long 0, .int 0, .ref m_versionRow, .int 0, .long 0, .ref m_state, .ref m_names, .int 0, .ref m_keptRow, .int 0, .ref m_inSlot, .ref m_inAt, .ref m_inSize, .ref m_inDigest, .int 0])), (m_digestAt, .inl (d_digestAt, 128, .inr (.inl (fun _ => 0)))), (m_isGroup, .inl (d_isGroup, 128, .inl (fun _ => 0))), (m_counts, .inl (d_counts, 128, .inl (fun _ => 0)))] := hD
      refine lv_aload_n hx hb dX9_version_29 rfl (lv_at hl 0 rfl) ?_
      refine va_get (D := (dC, dI)) (ci := 11) (v := .int (0 : Int32)) (C := RX9) (T := TX9) (N := 38) hx hb hts (by decide +kernel) hown hK hP 0 rfl rfl 13 (by decide) (hts (.fieldLink RX9 91 "BlockLogModel" "thrown" "I") (by decide +kernel)) (fun _ h9 => h9) rfl dX9_version_30 ?_
      refine lv_if_le (tgt := 38) hx hb dX9_version_33 (by decide) (fun c_4 => ?_) (fun c_4 => ?_)
      · skip
        refine lv_aload_n hx hb dX9_version_38 rfl (lv_at hl 0 rfl) ?_
        have hPc := hP.sub (ws' := [(mo, .inr (11, [.ref m_disk, .int (nI P), .int ((8224 : Int32) + ((26 : Int32) * (nI P))), .int (1 : Int32), .int 0, .int (-1 : Int32), .int 0, .int (0 : Int32), .ref m_tape, .int 0, .ref m_slots, .ref m_leaves, .int 0, .int (0 : Int32), .ref m_fresh, .int 0, .int 0, .int 0, .ref m_digestAt, .ref m_isGroup, .ref m_counts, .int 0, .int 0, .long 0, .int 0, .ref m_versionRow, .int 0, .long 0, .ref m_state, .ref m_names, .int 0, .ref m_keptRow, .int 0, .ref m_inSlot, .ref m_inAt, .ref m_inSize, .ref m_inDigest, .int 0])), (m_digestAt, .inl (d_digestAt, 128, .inr (.inl (fun _ => 0)))), (m_isGroup, .inl (d_isGroup, 128, .inl (fun _ => 0))), (m_counts, .inl (d_counts, 128, .inl (fun _ => 0)))]) [0, 1, 2, 3] rfl
        have hKc := hK.sub (tys' := [(d_digestAt, .long), (d_isGroup, .boolean), (d_counts, .boolean)]) [0, 1, 2] rfl
        have hDc := hD.sub (ws' := [(mo, .inr (11, [.ref m_disk, .int (nI P), .int ((8224 : Int32) + ((26 : Int32) * (nI P))), .int (1 : Int32), .int 0, .int (-1 : Int32), .int 0, .int (0 : Int32), .ref m_tape, .int 0, .ref m_slots, .ref m_leaves, .int 0, .int (0 : Int32), .ref m_fresh, .int 0, .int 0, .int 0, .ref m_digestAt, .ref m_isGroup, .ref m_counts, .int 0, .int 0, .long 0, .int 0, .ref m_versionRow, .int 0, .long 0, .ref m_state, .ref m_names, .int 0, .ref m_keptRow, .int 0, .ref m_inSlot, .ref m_inAt, .ref m_inSize, .ref m_inDigest, .int 0])), (m_digestAt, .inl (d_digestAt, 128, .inr (.inl (fun _ => 0)))), (m_isGroup, .inl (d_isGroup, 128, .inl (fun _ => 0))), (m_counts, .inl (d_counts, 128, .inl (fun _ => 0)))]) [0, 1, 2, 3] (by decide) rfl
        have hFc := va_free (wc := [(mo, .inr (11, [.ref m_disk, .int (nI P), .int ((8224 : Int32) + ((26 : Int32) * (nI P))), .int (1 : Int32), .int 0, .int (-1 : Int32), .int 0, .int (0 : Int32), .ref m_tape, .int 0, .ref m_slots, .ref m_leaves, .int 0, .int (0 : Int32), .ref m_fresh, .int 0, .int 0, .int 0, .ref m_digestAt, .ref m_isGroup, .ref m_counts, .int 0, .int 0, .long 0, .int 0, .ref m_versionRow, .int 0, .long 0, .ref m_state, .ref m_names, .int 0, .ref m_keptRow, .int 0, .ref m_inSlot, .ref m_inAt, .ref m_inSize, .ref m_inDigest, .int 0])), (m_digestAt, .inl (d_digestAt, 128, .inr (.inl (fun _ => 0)))), (m_isGroup, .inl (d_isGroup, 128, .inl (fun _ => 0))), (m_counts, .inl (d_counts, 128, .inl (fun _ => 0)))]) hD hS hA [0, 1, 2, 3] rfl
        refine va_callv (va_runV (As := []) (rest := []) ⟨hx, hb, hml, hown, hts⟩ (k_X9_read_1 l dC dI mo m_digestAt m_isGroup m_counts m_disk P m_tape m_slots m_leaves m_fresh m_versionRow m_state m_names m_keptRow m_inSlot m_inAt m_inSize m_inDigest d_digestAt d_isGroup d_counts _) (cwV 0 hts gX9_version_X9_read rfl rfl rfl (by decide +kernel) ⟨Nat.le_of_ble_eq_true rfl, Nat.le_of_ble_eq_true rfl⟩) ⟨fun a U g mk q => by obtain ⟨q0, q1, qP, qK, qD⟩ := q; exact ⟨q0, q1, qP, va_K.moved (u := U) (U := U.calling g mk a) (Vm.Alike.refl U.vm) qK, qD⟩, va_recv hK hP (ci := 11) (q := (RX9, TX9, 38)) rfl (q0 := 0) rfl, fun U hU hW => ⟨rfl, by rw [hU], by rw [hU]; exact hPc, va_K.moved hW.alike hKc, hDc.weaken (fun _ _ _ _ => trivial)⟩⟩ rfl rfl hl.1 rfl (lv_room (Nat.le_of_ble_eq_true rfl)) dX9_version_39 ⟨Nat.le_of_ble_eq_true rfl, Nat.le_of_ble_eq_true rfl⟩) hS (fun q _ h => hFc q h) hFc (fun u t H1 locs ht hvm er_5 hB hz1 hk1 hS => ?_)
        obtain ⟨hP1, hK1, hD1⟩ := hB
        rw [ht] at hP1
        obtain ⟨hP, hD⟩ := va_join (wr := []) (w1 := [(mo, .inr (11, [.ref m_disk, .int (nI P), .int ((8224 : Int32) + ((26 : Int32) * (nI P))), .int (1 : Int32), .int 0, .int (-1 : Int32), .int 0, .int (0 : Int32), .ref m_tape, .int 0, .ref m_slots, .ref m_leaves, .int 0, .int 0, .ref m_fresh, .int 0, .int (0 : Int32), .int (0 : Int32), .ref m_digestAt, .ref m_isGroup, .ref m_counts, .int (-1 : Int32), .int (0 : Int32), .long (0 : Int64), .int (0 : Int32), .ref m_versionRow, .int (0 : Int32), .long (0 : Int64), .ref m_state, .ref m_names, .int 0, .ref m_keptRow, .int 0, .ref m_inSlot, .ref m_inAt, .ref m_inSize, .ref m_inDigest, .int 0])), (m_digestAt, .inl (d_digestAt, 128, .inr (.inl (zr_L 128)))), (m_isGroup, .inl (d_isGroup, 128, .inl (zr_Z 128))), (m_counts, .inl (d_counts, 128, .inl (zr_Z 128)))]) hP hD [0, 1, 2, 3] [] rfl rfl (by decide) (by decide) hk1 hFc hP1 hD1
        clear hPc hDc hFc hP1 hD1 hk1 hz1
        generalize H1 = H at hP hS ⊢
        have hP : va_P (dC, dI) vwCl [(mo, .inr (11, [.ref m_disk, .int (nI P), .int ((8224 : Int32) + ((26 : Int32) * (nI P))), .int (1 : Int32), .int 0, .int (-1 : Int32), .int 0, .int (0 : Int32), .ref m_tape, .int 0, .ref m_slots, .ref m_leaves, .int 0, .int 0, .ref m_fresh, .int 0, .int (0 : Int32), .int (0 : Int32), .ref m_digestAt, .ref m_isGroup, .ref m_counts, .int (-1 : Int32), .int (0 : Int32), .long (0 : Int64), .int (0 : Int32), .ref m_versionRow, .int (0 : Int32), .long (0 : Int64), .ref m_state, .ref m_names, .int 0, .ref m_keptRow, .int 0, .ref m_inSlot, .ref m_inAt, .ref m_inSize, .ref m_inDigest, .int 0])), (m_digestAt, .inl (d_digestAt, 128, .inr (.inl (zr_L 128)))), (m_isGroup, .inl (d_isGroup, 128, .inl (zr_Z 128))), (m_counts, .inl (d_counts, 128, .inl (zr_Z 128)))] H := hP
        have hD : va_D A [(mo, .inr (11, [.ref m_disk, .int (nI P), .int ((8224 : Int32) + ((26 : Int32) * (nI P))), .int (1 : Int32), .int 0, .int (-1 : Int32), .int 0, .int (0 : Int32), .ref m_tape, .int 0, .ref m_slots, .ref m_leaves, .int 0, .int 0, .ref m_fresh, .int 0, .int (0 : Int32), .int (0 : Int32), .ref m_digestAt, .ref m_isGroup, .ref m_counts, .int (-1 : Int32), .int (0 : Int32), .long (0 : Int64), .int (0 : Int32), .ref m_versionRow, .int (0 : Int32), .long (0 : Int64), .ref m_state, .ref m_names, .int 0, .ref m_keptRow, .int 0, .ref m_inSlot, .ref m_inAt, .ref m_inSize, .ref m_inDigest, .int 0])), (m_digestAt, .inl (d_digestAt, 128, .inr (.inl (zr_L 128)))), (m_isGroup, .inl (d_isGroup, 128, .inl (zr_Z 128))), (m_counts, .inl (d_counts, 128, .inl (zr_Z 128)))] := hD
        refine lv_aload_n hx hb dX9_version_42 rfl (lv_at hl 0 rfl) ?_
        refine va_get (D := (dC, dI)) (ci := 11) (v := .int (0 : Int32)) (C := RX9) (T := TX9) (N := 38) hx hb hts (by decide +kernel) hown hK hP 0 rfl rfl 17 (by decide) (hts (.fieldLink RX9 176 "BlockLogModel" "needs" "Z") (by decide +kernel)) (fun _ h9 => h9) rfl dX9_version_43 ?_
        refine lv_if_eq (tgt := 53) hx hb dX9_version_46 (by decide) (fun c_6 => ?_) (fun c_6 => ?_)
        · skip
          refine lv_iload_n hx hb dX9_version_53 rfl (lv_at hl 1 rfl) ?_
          refine lv_if_ne (tgt := 64) hx hb dX9_version_54 (by decide) (fun c_7 => ?_) (fun c_7 => ?_)
          · skip
            exact absurd (by decide) c_7
          · skip
            refine lv_aload_n hx hb dX9_version_57 rfl (lv_at hl 0 rfl) ?_
            refine va_get (D := (dC, dI)) (ci := 11) (v := .int (0 : Int32)) (C := RX9) (T := TX9) (N := 38) hx hb hts (by decide +kernel) hown hK hP 0 rfl rfl 26 (by decide) (hts (.fieldLink RX9 192 "BlockLogModel" "lastVersion" "I") (by decide +kernel)) (fun _ h9 => h9) rfl dX9_version_58 ?_
            refine lv_goto (tgt := 68) hx hb dX9_version_61 (by decide) ?_
            have hP := hP.sub (ws' := [(mo, .inr (11, [.ref m_disk, .int (nI P), .int ((8224 : Int32) + ((26 : Int32) * (nI P))), .int (1 : Int32), .int 0, .int (-1 : Int32), .int 0, .int (0 : Int32), .ref m_tape, .int 0, .ref m_slots, .ref m_leaves, .int 0, .int 0, .ref m_fresh, .int 0, .int (0 : Int32), .int (0 : Int32), .ref m_digestAt, .ref m_isGroup, .ref m_counts, .int (-1 : Int32), .int (0 : Int32), .long (0 : Int64), .int (0 : Int32), .ref m_versionRow, .int (0 : Int32), .long (0 : Int64), .ref m_state, .ref m_names, .int 0, .ref m_keptRow, .int 0, .ref m_inSlot, .ref m_inAt, .ref m_inSize, .ref m_inDigest, .int 0]))]) [0] rfl
            have hD := hD.sub (ws' := [(mo, .inr (11, [.ref m_disk, .int (nI P), .int ((8224 : Int32) + ((26 : Int32) * (nI P))), .int (1 : Int32), .int 0, .int (-1 : Int32), .int 0, .int (0 : Int32), .ref m_tape, .int 0, .ref m_slots, .ref m_leaves, .int 0, .int 0, .ref m_fresh, .int 0, .int (0 : Int32), .int (0 : Int32), .ref m_digestAt, .ref m_isGroup, .ref m_counts, .int (-1 : Int32), .int (0 : Int32), .long (0 : Int64), .int (0 : Int32), .ref m_versionRow, .int (0 : Int32), .long (0 : Int64), .ref m_state, .ref m_names, .int 0, .ref m_keptRow, .int 0, .ref m_inSlot, .ref m_inAt, .ref m_inSize, .ref m_inDigest, .int 0]))]) [0] (by decide) rfl
            have hK := hK.sub (tys' := [(d_digestAt, .long), (d_isGroup, .boolean), (d_counts, .boolean)]) [0, 1, 2] rfl
            exact W.iret hx hb hr (fun t ht hW => ⟨⟨_, (), rfl, rfl, by rw [ht]; exact hP, va_K.moved hW.alike hK, hD⟩, hS.F ht⟩) hS.2.2 dX9_version_68
        · skip
          exact absurd (by decide) c_6
      · skip
        exact absurd (by decide) c_4
    · skip
      exact absurd c_3 (by decide)
  · skip
    exact absurd c_1 (by decide)

set_option maxHeartbeats 4000000 in
set_option maxRecDepth 100000 in
theorem k_X8_version_2 (l : Launch) (dC : Nat → ClassId) (dI : Nat → Nat → Nat) (x : Nat) (ds : Nat) (so : Nat) (tp : Nat) (rr : Nat) (pu : Nat) (sn : Nat) (im : Nat) (cs : Nat) (cl : Nat) (pg : Int32) (dl : Nat) (dr : Nat) (dt : Nat) (s1 : Nat) (s2 : Nat) (s3 : Nat) (s4 : Nat) (s5 : Nat) (s6 : Nat)  : Met l yX8_version wsX8_version ({ frames := 1, cells := 0, slots := 0, locals := 20 }) (va_Pc [.ref x, .int (1 : Int32)] (fun U => va_P (dC, dI) vwCl [(x, .inr (10, [.ref tp, .ref ds, .ref rr, .ref so, .ref pu, .ref sn, .ref im, .ref cs, .ref cl, .int (0 : Int32)])), (ds, .inr (3, [.int pg, .ref dl, .ref dr, .ref dt, .int (1 : Int32), .int (-1 : Int32), .int (0 : Int32)])), (so, .inr (8, [.ref rr, .ref s1, .ref s2, .ref s3, .ref s4, .ref s5, .ref s6, .int (0 : Int32), .int (0 : Int32), .int (-1 : Int32), .int (0 : Int32), .int (0 : Int32)]))] U.heap ∧ va_K (dC, dI) vwCl [] U ∧ gx_W U)) (vp_Si (fun r => r = (0 : Int32))) 0 0 (fun _ => False) := by
  refine Met.ofW (cc := cX8_version) (maxL := 2) (ret := (some .int)) (by decide) rfl ?_
  intro p e s m args below meth c s₁ B hml hv
  obtain ⟨rfl, hP, hK, hG⟩ := hv
  have hx := B.exec
  have hb := B.bytes
  have hr := B.returns
  have hts := atoms_spec (ws := wsX8_version) B.pre
  have hown : s.vm.findClass RX8 = some m.cls := findClass_of_methodNamed B.named
  have hlocks := B.notSynchronized
  have hl := lv_entry ([.ref x, .int (1 : Int32)]) (n := 2) (Nat.le_of_ble_eq_true rfl)
  rw [lg_entry_eq]
  generalize (lg_sl ([.ref x, .int (1 : Int32)]) ++ List.replicate (2 - (lg_sl ([.ref x, .int (1 : Int32)])).length) Slot.unset).toArray = ls at hl ⊢
  have hl : lv_has ls 2 [(0, .ref x), (1, .int (1 : Int32))] := hl
  refine lv_aload_n hx hb dX8_version_0 rfl (lv_at hl 0 rfl) ?_
  have hPc := hP.sub (ws' := [(x, .inr (10, [.ref tp, .ref ds, .ref rr, .ref so, .ref pu, .ref sn, .ref im, .ref cs, .ref cl, .int (0 : Int32)])), (ds, .inr (3, [.int pg, .ref dl, .ref dr, .ref dt, .int (1 : Int32), .int (-1 : Int32), .int (0 : Int32)]))]) [0, 1] rfl
  have hKc := hK.sub (tys' := []) [] rfl
  refine va_csv (va_Run.run (va_runV (As := []) (rest := []) ⟨hx, hb, hml, hown, hts⟩ (k_X8_demandPower_1 l dC dI x ds tp rr so pu sn im cs cl pg dl dr dt) (cwV 0 hts gX8_version_X8_demandPower rfl rfl rfl (by decide +kernel) ⟨Nat.le_of_ble_eq_true rfl, Nat.le_of_ble_eq_true rfl⟩) ⟨fun a U g mk q => by obtain ⟨q0, qP, qK, qG⟩ := q; exact ⟨q0, qP, va_K.moved (u := U) (U := U.calling g mk a) (Vm.Alike.refl U.vm) qK, qG.same rfl⟩, va_recv hK hP (ci := 10) (q := (RX8, TX8, 10)) rfl (q0 := 0) rfl, fun U hU hW => ⟨rfl, by rw [hU]; exact hPc, va_K.moved hW.alike hKc, hG.warm hW⟩⟩ rfl rfl hl.1 rfl (lv_room (Nat.le_of_ble_eq_true rfl)) dX8_version_1 ⟨Nat.le_of_ble_eq_true rfl, Nat.le_of_ble_eq_true rfl⟩)) (fun _ => ?_)
  refine lv_iload_n hx hb dX8_version_4 rfl (lv_at hl 1 rfl) ?_
  refine lv_if_eq (tgt := 23) hx hb dX8_version_5 (by decide) (fun c_2 => ?_) (fun c_2 => ?_)
  · skip
    exact absurd c_2 (by decide)
  · skip
    refine lv_iload_n hx hb dX8_version_8 rfl (lv_at hl 1 rfl) ?_
    refine lv_iconst (v := 1) hx hb dX8_version_9 (by decide) ?_
    refine lv_icmp_eq (tgt := 23) hx hb dX8_version_10 (by decide) (fun c_3 => ?_) (fun c_3 => ?_)
    · skip
      refine lv_iload_n hx hb dX8_version_23 rfl (lv_at hl 1 rfl) ?_
      refine lv_if_ne (tgt := 37) hx hb dX8_version_24 (by decide) (fun c_4 => ?_) (fun c_4 => ?_)
      · skip
        refine lv_aload_n hx hb dX8_version_37 rfl (lv_at hl 0 rfl) ?_
        refine va_get (D := (dC, dI)) (ci := 10) (v := .ref so) (C := RX8) (T := TX8) (N := 10) hx hb hts (by decide +kernel) hown hK hP 0 rfl rfl 3 (by decide) (hts (.fieldLink RX8 40 "BlockLog" "story" "LBlockLog$Story;") (by decide +kernel)) (fun _ h9 => h9) rfl dX8_version_38 ?_
        refine va_getN (D := (dC, dI)) (ci := 8) (v := .int (0 : Int32)) (C := RX6) (T := TX6) (N := 12) hx hb hts (by decide +kernel) hown hK hP 2 rfl rfl 11 (by decide) (va_Nw.use rfl (hG.1 ("BlockLog", 207, "BlockLog$Story", "baseHeight", "I", "BlockLog") (by decide +kernel))) (fun _ h9 => h9) rfl dX8_version_41 ?_
        exact W.iret hx hb hr (fun t ht hW => ⟨_, rfl, rfl, ht⟩) (fun q h => by cases h) dX8_version_44
      · skip
        exact absurd c_4 (by decide)
    · skip
      exact absurd (by decide) c_3

set_option maxHeartbeats 4000000 in
set_option maxRecDepth 100000 in
theorem k_L_version_2 (l : Launch) (dC : Nat → ClassId) (dI : Nat → Nat → Nat) (x : Nat) (ho : Nat) (ds : Nat) (so : Nat) (tp : Nat) (rr : Nat) (pu : Nat) (sn : Nat) (im : Nat) (cs : Nat) (cl : Nat) (pg : Int32) (dl : Nat) (dr : Nat) (dt : Nat) (s1 : Nat) (s2 : Nat) (s3 : Nat) (s4 : Nat) (s5 : Nat) (s6 : Nat) (cJ : ClassId) (g1 : Nat → Int64) (sz : Nat)  : Met l yL_version wsL_version ({ frames := 2, cells := 0, slots := 0, locals := 41 }) (va_Pc [.ref x, .int (1 : Int32), .ref ho] (fun U => U.heap.size = sz ∧ va_P (dC, dI) vwCl [(x, .inr (10, [.ref tp, .ref ds, .ref rr, .ref so, .ref pu, .ref sn, .ref im, .ref cs, .ref cl, .int (0 : Int32)])), (ds, .inr (3, [.int pg, .ref dl, .ref dr, .ref dt, .int (1 : Int32), .int (-1 : Int32), .int (0 : Int32)])), (so, .inr (8, [.ref rr, .ref s1, .ref s2, .ref s3, .ref s4, .ref s5, .ref s6, .int (0 : Int32), .int (0 : Int32), .int (-1 : Int32), .int (0 : Int32), .int (0 : Int32)])), (ho, .inl (cJ, 1, .inr (.inl g1)))] U.heap ∧ va_K (dC, dI) vwCl [(cJ, .long)] U ∧ va_D (fun _ => True) [(x, .inr (10, [.ref tp, .ref ds, .ref rr, .ref so, .ref pu, .ref sn, .ref im, .ref cs, .ref cl, .int (0 : Int32)])), (ds, .inr (3, [.int pg, .ref dl, .ref dr, .ref dt, .int (1 : Int32), .int (-1 : Int32), .int (0 : Int32)])), (so, .inr (8, [.ref rr, .ref s1, .ref s2, .ref s3, .ref s4, .ref s5, .ref s6, .int (0 : Int32), .int (0 : Int32), .int (-1 : Int32), .int (0 : Int32), .int (0 : Int32)])), (ho, .inl (cJ, 1, .inr (.inl g1)))] ∧ gx_E (va_A [(x, .inr (10, [.ref tp, .ref ds, .ref rr, .ref so, .ref pu, .ref sn, .ref im, .ref cs, .ref cl, .int (0 : Int32)])), (ds, .inr (3, [.int pg, .ref dl, .ref dr, .ref dt, .int (1 : Int32), .int (-1 : Int32), .int (0 : Int32)])), (so, .inr (8, [.ref rr, .ref s1, .ref s2, .ref s3, .ref s4, .ref s5, .ref s6, .int (0 : Int32), .int (0 : Int32), .int (-1 : Int32), .int (0 : Int32), .int (0 : Int32)])), (ho, .inl (cJ, 1, .inr (.inl g1)))] sz) U)) (va_Qi (fun r (_ : Unit) => r = (0 : Int32)) (fun (_ : Unit) t => va_P (dC, dI) vwCl [(ho, .inl (cJ, 1, .inr (.inl (vp_updL g1 (0 : Int32).toNatClampNeg ((0 : Int32).toInt64)))))] t.heap ∧ va_K (dC, dI) vwCl [(cJ, .long)] t ∧ va_D (va_A [(x, .inr (10, [.ref tp, .ref ds, .ref rr, .ref so, .ref pu, .ref sn, .ref im, .ref cs, .ref cl, .int (0 : Int32)])), (ds, .inr (3, [.int pg, .ref dl, .ref dr, .ref dt, .int (1 : Int32), .int (-1 : Int32), .int (0 : Int32)])), (so, .inr (8, [.ref rr, .ref s1, .ref s2, .ref s3, .ref s4, .ref s5, .ref s6, .int (0 : Int32), .int (0 : Int32), .int (-1 : Int32), .int (0 : Int32), .int (0 : Int32)])), (ho, .inl (cJ, 1, .inr (.inl g1)))] sz) [(ho, .inl (cJ, 1, .inr (.inl (vp_updL g1 (0 : Int32).toNatClampNeg ((0 : Int32).toInt64)))))]) (va_A [(x, .inr (10, [.ref tp, .ref ds, .ref rr, .ref so, .ref pu, .ref sn, .ref im, .ref cs, .ref cl, .int (0 : Int32)])), (ds, .inr (3, [.int pg, .ref dl, .ref dr, .ref dt, .int (1 : Int32), .int (-1 : Int32), .int (0 : Int32)])), (so, .inr (8, [.ref rr, .ref s1, .ref s2, .ref s3, .ref s4, .ref s5, .ref s6, .int (0 : Int32), .int (0 : Int32), .int (-1 : Int32), .int (0 : Int32), .int (0 : Int32)])), (ho, .inl (cJ, 1, .inr (.inl g1)))] sz)) 0 0 (va_A [(x, .inr (10, [.ref tp, .ref ds, .ref rr, .ref so, .ref pu, .ref sn, .ref im, .ref cs, .ref cl, .int (0 : Int32)])), (ds, .inr (3, [.int pg, .ref dl, .ref dr, .ref dt, .int (1 : Int32), .int (-1 : Int32), .int (0 : Int32)])), (so, .inr (8, [.ref rr, .ref s1, .ref s2, .ref s3, .ref s4, .ref s5, .ref s6, .int (0 : Int32), .int (0 : Int32), .int (-1 : Int32), .int (0 : Int32), .int (0 : Int32)])), (ho, .inl (cJ, 1, .inr (.inl g1)))] sz) := by
  refine va_MetW (cc := cL_version) (maxL := 4) (ret := (some .int)) (hh := [(0, 9, 12, 25), (0, 9, 15, 13)]) (by decide) rfl ?_
  intro p e s m args below meth c s₁ B hml hv
  obtain ⟨rfl, hsz, hP, hK, hD0, hG⟩ := hv
  have hx := B.exec
  have hb := B.bytes
  have hr := B.returns
  have hts := atoms_spec (ws := wsL_version) B.pre
  have hown : s.vm.findClass RL = some m.cls := findClass_of_methodNamed B.named
  have hlocks := B.notSynchronized
  have htab := vx_table (x := yL_version) B (hts (.codeWith yL_version cL_version 4 (some .int) [(0, 9, 12, 25), (0, 9, 15, 13)]) List.mem_cons_self)
  subst hsz
  have hD := hD0.self (sz := s.heap.size)
  generalize hAe : va_A [(x, .inr (10, [.ref tp, .ref ds, .ref rr, .ref so, .ref pu, .ref sn, .ref im, .ref cs, .ref cl, .int (0 : Int32)])), (ds, .inr (3, [.int pg, .ref dl, .ref dr, .ref dt, .int (1 : Int32), .int (-1 : Int32), .int (0 : Int32)])), (so, .inr (8, [.ref rr, .ref s1, .ref s2, .ref s3, .ref s4, .ref s5, .ref s6, .int (0 : Int32), .int (0 : Int32), .int (-1 : Int32), .int (0 : Int32), .int (0 : Int32)])), (ho, .inl (cJ, 1, .inr (.inl g1)))] s.heap.size = A at hD hG ⊢
  have hA : ∀ q : Nat, s.heap.size ≤ q → A q := fun q h => by rw [← hAe]; exact Or.inr h
  have hS : va_S A s.heap s.heap [] := va_S.rf
  have hl := lv_entry ([.ref x, .int (1 : Int32), .ref ho]) (n := 4) (Nat.le_of_ble_eq_true rfl)
  rw [lg_entry_eq]
  generalize (lg_sl ([.ref x, .int (1 : Int32), .ref ho]) ++ List.replicate (4 - (lg_sl ([.ref x, .int (1 : Int32), .ref ho])).length) Slot.unset).toArray = ls at hl ⊢
  have hl : lv_has ls 4 [(0, .ref x), (1, .int (1 : Int32)), (2, .ref ho)] := hl
  refine lv_aload_n hx hb dL_version_0 rfl (lv_at hl 2 rfl) ?_
  refine lv_iconst (v := 0) hx hb dL_version_1 (by decide) ?_
  refine lv_aload_n hx hb dL_version_2 rfl (lv_at hl 0 rfl) ?_
  refine lv_iload_n hx hb dL_version_3 rfl (lv_at hl 1 rfl) ?_
  have hPc := hP.sub (ws' := [(x, .inr (10, [.ref tp, .ref ds, .ref rr, .ref so, .ref pu, .ref sn, .ref im, .ref cs, .ref cl, .int (0 : Int32)])), (ds, .inr (3, [.int pg, .ref dl, .ref dr, .ref dt, .int (1 : Int32), .int (-1 : Int32), .int (0 : Int32)])), (so, .inr (8, [.ref rr, .ref s1, .ref s2, .ref s3, .ref s4, .ref s5, .ref s6, .int (0 : Int32), .int (0 : Int32), .int (-1 : Int32), .int (0 : Int32), .int (0 : Int32)]))]) [0, 1, 2] rfl
  have hKc := hK.sub (tys' := []) [] rfl
  refine vp_callSi (va_Run.run (va_runV (As := [.int (1 : Int32)]) (rest := [.int (0 : Int32), .ref ho]) ⟨hx, hb, hml, hown, hts⟩ (k_X8_version_2 l dC dI x ds so tp rr pu sn im cs cl pg dl dr dt s1 s2 s3 s4 s5 s6) (cwV 1 hts gL_version_X8_version rfl rfl rfl (by decide +kernel) ⟨Nat.le_of_ble_eq_true rfl, Nat.le_of_ble_eq_true rfl⟩) ⟨fun a U g mk q => by obtain ⟨q0, qP, qK, qG⟩ := q; exact ⟨q0, qP, va_K.moved (u := U) (U := U.calling g mk a) (Vm.Alike.refl U.vm) qK, qG.same rfl⟩, va_recv hK hP (ci := 10) (q := (RX8, TX8, 10)) rfl (q0 := 0) rfl, fun U hU hW => ⟨rfl, by rw [hU]; exact hPc, va_K.moved hW.alike hKc, hG.1.warm hW⟩⟩ rfl rfl hl.1 rfl (lv_room (Nat.le_of_ble_eq_true rfl)) dL_version_4 ⟨Nat.le_of_ble_eq_true rfl, Nat.le_of_ble_eq_true rfl⟩)) (fun r_1 er_1 => ?_)
  subst er_1
  refine lv_i2l hx hb dL_version_7 rfl ?_
  refine va_last hx hb hK hP hD hS 3 0 rfl rfl (by unfold vp_in; decide +kernel) dL_version_8 (fun H locs hP hD hS => ?_)
  have hP : va_P (dC, dI) vwCl [(x, .inr (10, [.ref tp, .ref ds, .ref rr, .ref so, .ref pu, .ref sn, .ref im, .ref cs, .ref cl, .int (0 : Int32)])), (ds, .inr (3, [.int pg, .ref dl, .ref dr, .ref dt, .int (1 : Int32), .int (-1 : Int32), .int (0 : Int32)])), (so, .inr (8, [.ref rr, .ref s1, .ref s2, .ref s3, .ref s4, .ref s5, .ref s6, .int (0 : Int32), .int (0 : Int32), .int (-1 : Int32), .int (0 : Int32), .int (0 : Int32)])), (ho, .inl (cJ, 1, .inr (.inl (vp_updL g1 (0 : Int32).toNatClampNeg ((0 : Int32).toInt64)))))] H := hP
  have hD : va_D A [(x, .inr (10, [.ref tp, .ref ds, .ref rr, .ref so, .ref pu, .ref sn, .ref im, .ref cs, .ref cl, .int (0 : Int32)])), (ds, .inr (3, [.int pg, .ref dl, .ref dr, .ref dt, .int (1 : Int32), .int (-1 : Int32), .int (0 : Int32)])), (so, .inr (8, [.ref rr, .ref s1, .ref s2, .ref s3, .ref s4, .ref s5, .ref s6, .int (0 : Int32), .int (0 : Int32), .int (-1 : Int32), .int (0 : Int32), .int (0 : Int32)])), (ho, .inl (cJ, 1, .inr (.inl (vp_updL g1 (0 : Int32).toNatClampNeg ((0 : Int32).toInt64)))))] := hD
  refine lv_goto (tgt := 18) hx hb dL_version_9 (by decide) ?_
  refine lv_iconst (v := 0) hx hb dL_version_18 (by decide) ?_
  have hP := hP.sub (ws' := [(ho, .inl (cJ, 1, .inr (.inl (vp_updL g1 (0 : Int32).toNatClampNeg ((0 : Int32).toInt64)))))]) [3] rfl
  have hD := hD.sub (ws' := [(ho, .inl (cJ, 1, .inr (.inl (vp_updL g1 (0 : Int32).toNatClampNeg ((0 : Int32).toInt64)))))]) [3] (by decide) rfl
  have hK := hK.sub (tys' := [(cJ, .long)]) [0] rfl
  exact W.iret hx hb hr (fun t ht hW => ⟨⟨_, (), rfl, rfl, by rw [ht]; exact hP, va_K.moved hW.alike hK, hD⟩, hS.F ht⟩) hS.2.2 dL_version_19

set_option maxHeartbeats 4000000 in
set_option maxRecDepth 100000 in
theorem k_X9_version_2 (l : Launch) (dC : Nat → ClassId) (dI : Nat → Nat → Nat) (mo : Nat) (m_digestAt : Nat) (m_isGroup : Nat) (m_counts : Nat) (m_disk : Nat) (P : Nat) (m_tape : Nat) (m_slots : Nat) (m_leaves : Nat) (m_fresh : Nat) (m_versionRow : Nat) (m_state : Nat) (m_names : Nat) (m_keptRow : Nat) (m_inSlot : Nat) (m_inAt : Nat) (m_inSize : Nat) (m_inDigest : Nat) (d_digestAt : ClassId) (d_isGroup : ClassId) (d_counts : ClassId) (sz : Nat)  : Met l yX9_version wsX9_version ({ frames := 3, cells := 0, slots := 0, locals := 65 }) (va_Pc [.ref mo, .int (1 : Int32)] (fun U => U.heap.size = sz ∧ va_P (dC, dI) vwCl [(mo, .inr (11, [.ref m_disk, .int (nI P), .int ((8224 : Int32) + ((26 : Int32) * (nI P))), .int (1 : Int32), .int 0, .int (-1 : Int32), .int 0, .int (0 : Int32), .ref m_tape, .int 0, .ref m_slots, .ref m_leaves, .int 0, .int 0, .ref m_fresh, .int 0, .int 0, .int 0, .ref m_digestAt, .ref m_isGroup, .ref m_counts, .int 0, .int 0, .long 0, .int 0, .ref m_versionRow, .int 0, .long 0, .ref m_state, .ref m_names, .int 0, .ref m_keptRow, .int 0, .ref m_inSlot, .ref m_inAt, .ref m_inSize, .ref m_inDigest, .int 0])), (m_digestAt, .inl (d_digestAt, 128, .inr (.inl (fun _ => 0)))), (m_isGroup, .inl (d_isGroup, 128, .inl (fun _ => 0))), (m_counts, .inl (d_counts, 128, .inl (fun _ => 0)))] U.heap ∧ va_K (dC, dI) vwCl [(d_digestAt, .long), (d_isGroup, .boolean), (d_counts, .boolean)] U ∧ va_D (fun _ => True) [(mo, .inr (11, [.ref m_disk, .int (nI P), .int ((8224 : Int32) + ((26 : Int32) * (nI P))), .int (1 : Int32), .int 0, .int (-1 : Int32), .int 0, .int (0 : Int32), .ref m_tape, .int 0, .ref m_slots, .ref m_leaves, .int 0, .int 0, .ref m_fresh, .int 0, .int 0, .int 0, .ref m_digestAt, .ref m_isGroup, .ref m_counts, .int 0, .int 0, .long 0, .int 0, .ref m_versionRow, .int 0, .long 0, .ref m_state, .ref m_names, .int 0, .ref m_keptRow, .int 0, .ref m_inSlot, .ref m_inAt, .ref m_inSize, .ref m_inDigest, .int 0])), (m_digestAt, .inl (d_digestAt, 128, .inr (.inl (fun _ => 0)))), (m_isGroup, .inl (d_isGroup, 128, .inl (fun _ => 0))), (m_counts, .inl (d_counts, 128, .inl (fun _ => 0)))])) (va_Qi (fun r (_ : Unit) => r = (0 : Int32)) (fun (_ : Unit) t => va_P (dC, dI) vwCl [(mo, .inr (11, [.ref m_disk, .int (nI P), .int ((8224 : Int32) + ((26 : Int32) * (nI P))), .int (1 : Int32), .int 0, .int (-1 : Int32), .int 0, .int (0 : Int32), .ref m_tape, .int 0, .ref m_slots, .ref m_leaves, .int 0, .int 0, .ref m_fresh, .int 0, .int (0 : Int32), .int (0 : Int32), .ref m_digestAt, .ref m_isGroup, .ref m_counts, .int (-1 : Int32), .int (0 : Int32), .long (0 : Int64), .int (0 : Int32), .ref m_versionRow, .int (0 : Int32), .long (0 : Int64), .ref m_state, .ref m_names, .int 0, .ref m_keptRow, .int 0, .ref m_inSlot, .ref m_inAt, .ref m_inSize, .ref m_inDigest, .int 0]))] t.heap ∧ va_K (dC, dI) vwCl [(d_digestAt, .long), (d_isGroup, .boolean), (d_counts, .boolean)] t ∧ va_D (va_A [(mo, .inr (11, [.ref m_disk, .int (nI P), .int ((8224 : Int32) + ((26 : Int32) * (nI P))), .int (1 : Int32), .int 0, .int (-1 : Int32), .int 0, .int (0 : Int32), .ref m_tape, .int 0, .ref m_slots, .ref m_leaves, .int 0, .int 0, .ref m_fresh, .int 0, .int 0, .int 0, .ref m_digestAt, .ref m_isGroup, .ref m_counts, .int 0, .int 0, .long 0, .int 0, .ref m_versionRow, .int 0, .long 0, .ref m_state, .ref m_names, .int 0, .ref m_keptRow, .int 0, .ref m_inSlot, .ref m_inAt, .ref m_inSize, .ref m_inDigest, .int 0])), (m_digestAt, .inl (d_digestAt, 128, .inr (.inl (fun _ => 0)))), (m_isGroup, .inl (d_isGroup, 128, .inl (fun _ => 0))), (m_counts, .inl (d_counts, 128, .inl (fun _ => 0)))] sz) [(mo, .inr (11, [.ref m_disk, .int (nI P), .int ((8224 : Int32) + ((26 : Int32) * (nI P))), .int (1 : Int32), .int 0, .int (-1 : Int32), .int 0, .int (0 : Int32), .ref m_tape, .int 0, .ref m_slots, .ref m_leaves, .int 0, .int 0, .ref m_fresh, .int 0, .int (0 : Int32), .int (0 : Int32), .ref m_digestAt, .ref m_isGroup, .ref m_counts, .int (-1 : Int32), .int (0 : Int32), .long (0 : Int64), .int (0 : Int32), .ref m_versionRow, .int (0 : Int32), .long (0 : Int64), .ref m_state, .ref m_names, .int 0, .ref m_keptRow, .int 0, .ref m_inSlot, .ref m_inAt, .ref m_inSize, .ref m_inDigest, .int 0]))]) (va_A [(mo, .inr (11, [.ref m_disk, .int (nI P), .int ((8224 : Int32) + ((26 : Int32) * (nI P))), .int (1 : Int32), .int 0, .int (-1 : Int32), .int 0, .int (0 : Int32), .ref m_tape, .int 0, .ref m_slots, .ref m_leaves, .int 0, .int 0, .ref m_fresh, .int 0, .int 0, .int 0, .ref m_digestAt, .ref m_isGroup, .ref m_counts, .int 0, .int 0, .long 0, .int 0, .ref m_versionRow, .int 0, .long 0, .ref m_state, .ref m_names, .int 0, .ref m_keptRow, .int 0, .ref m_inSlot, .ref m_inAt, .ref m_inSize, .ref m_inDigest, .int 0])), (m_digestAt, .inl (d_digestAt, 128, .inr (.inl (fun _ => 0)))), (m_isGroup, .inl (d_isGroup, 128, .inl (fun _ => 0))), (m_counts, .inl (d_counts, 128, .inl (fun _ => 0)))] sz)) 0 0 (va_A [(mo, .inr (11, [.ref m_disk, .int (nI P), .int ((8224 : Int32) + ((26 : Int32) * (nI P))), .int (1 : Int32), .int 0, .int (-1 : Int32), .int 0, .int (0 : Int32), .ref m_tape, .int 0, .ref m_slots, .ref m_leaves, .int 0, .int 0, .ref m_fresh, .int 0, .int 0, .int 0, .ref m_digestAt, .ref m_isGroup, .ref m_counts, .int 0, .int 0, .long 0, .int 0, .ref m_versionRow, .int 0, .long 0, .ref m_state, .ref m_names, .int 0, .ref m_keptRow, .int 0, .ref m_inSlot, .ref m_inAt, .ref m_inSize, .ref m_inDigest, .int 0])), (m_digestAt, .inl (d_digestAt, 128, .inr (.inl (fun _ => 0)))), (m_isGroup, .inl (d_isGroup, 128, .inl (fun _ => 0))), (m_counts, .inl (d_counts, 128, .inl (fun _ => 0)))] sz) := by
  refine Met.ofW (cc := cX9_version) (maxL := 2) (ret := (some .int)) (by decide) rfl ?_
  intro p e s m args below meth c s₁ B hml hv
  obtain ⟨rfl, hsz, hP, hK, hD0⟩ := hv
  have hx := B.exec
  have hb := B.bytes
  have hr := B.returns
  have hts := atoms_spec (ws := wsX9_version) B.pre
  have hown : s.vm.findClass RX9 = some m.cls := findClass_of_methodNamed B.named
  have hlocks := B.notSynchronized
  subst hsz
  have hD := hD0.self (sz := s.heap.size)
  generalize hAe : va_A [(mo, .inr (11, [.ref m_disk, .int (nI P), .int ((8224 : Int32) + ((26 : Int32) * (nI P))), .int (1 : Int32), .int 0, .int (-1 : Int32), .int 0, .int (0 : Int32), .ref m_tape, .int 0, .ref m_slots, .ref m_leaves, .int 0, .int 0, .ref m_fresh, .int 0, .int 0, .int 0, .ref m_digestAt, .ref m_isGroup, .ref m_counts, .int 0, .int 0, .long 0, .int 0, .ref m_versionRow, .int 0, .long 0, .ref m_state, .ref m_names, .int 0, .ref m_keptRow, .int 0, .ref m_inSlot, .ref m_inAt, .ref m_inSize, .ref m_inDigest, .int 0])), (m_digestAt, .inl (d_digestAt, 128, .inr (.inl (fun _ => 0)))), (m_isGroup, .inl (d_isGroup, 128, .inl (fun _ => 0))), (m_counts, .inl (d_counts, 128, .inl (fun _ => 0)))] s.heap.size = A at hD ⊢
  have hA : ∀ q : Nat, s.heap.size ≤ q → A q := fun q h => by rw [← hAe]; exact Or.inr h
  have hS : va_S A s.heap s.heap [] := va_S.rf
  have hl := lv_entry ([.ref mo, .int (1 : Int32)]) (n := 2) (Nat.le_of_ble_eq_true rfl)
  rw [lg_entry_eq]
  generalize (lg_sl ([.ref mo, .int (1 : Int32)]) ++ List.replicate (2 - (lg_sl ([.ref mo, .int (1 : Int32)])).length) Slot.unset).toArray = ls at hl ⊢
  have hl : lv_has ls 2 [(0, .ref mo), (1, .int (1 : Int32))] := hl
  refine lv_aload_n hx hb dX9_version_0 rfl (lv_at hl 0 rfl) ?_
  refine lv_aload_n hx hb dX9_version_1 rfl (lv_at hl 0 rfl) ?_
  refine va_get (D := (dC, dI)) (ci := 11) (v := .int (1 : Int32)) (C := RX9) (T := TX9) (N := 38) hx hb hts (by decide +kernel) hown hK hP 0 rfl rfl 3 (by decide) (hts (.fieldLink RX9 72 "BlockLogModel" "on" "Z") (by decide +kernel)) (fun _ h9 => h9) rfl dX9_version_2 ?_
  refine lv_if_ne (tgt := 12) hx hb dX9_version_5 (by decide) (fun c_1 => ?_) (fun c_1 => ?_)
  · skip
    refine lv_iload_n hx hb dX9_version_12 rfl (lv_at hl 1 rfl) ?_
    refine lv_iconst (v := 0) hx hb dX9_version_13 (by decide) ?_
    refine lv_iconst (v := 1) hx hb dX9_version_14 (by decide) ?_
    have hPc := hP.sub (ws' := []) [] rfl
    have hKc := hK.sub (tys' := []) [] rfl
    refine vp_callSi (va_Run.run (va_runS (As := [.int (1 : Int32), .int (0 : Int32), .int (1 : Int32)]) (rest := [.ref mo]) ⟨hx, hb, hml, hown, hts⟩ (k_X9_within_3 l dC dI (1 : Int32) (0 : Int32) (1 : Int32) (by decide) (by decide)) (va_cwS 3 hts gX9_version_X9_within rfl rfl rfl (by decide +kernel) ⟨Nat.le_of_ble_eq_true rfl, Nat.le_of_ble_eq_true rfl⟩) ⟨fun a U g mk q => by obtain ⟨q0, qP, qK⟩ := q; exact ⟨q0, qP, va_K.moved (u := U) (U := U.calling g mk a) (Vm.Alike.refl U.vm) qK⟩, fun U hU hW => ⟨rfl, by rw [hU]; exact hPc, va_K.moved hW.alike hKc⟩⟩ rfl rfl hl.1 rfl (lv_room (Nat.le_of_ble_eq_true rfl)) dX9_version_15 ⟨Nat.le_of_ble_eq_true rfl, Nat.le_of_ble_eq_true rfl⟩)) (fun r_2 er_2 => ?_)
    subst er_2
    refine lv_if_ne (tgt := 25) hx hb dX9_version_18 (by decide) (fun c_3 => ?_) (fun c_3 => ?_)
    · skip
      refine lv_iconst (v := 0) hx hb dX9_version_25 (by decide) ?_
      refine va_put (D := (dC, dI)) (ci := 11) (v := .int (0 : Int32)) (ty := .int) (C := RX9) (T := TX9) (N := 38) hx hb hts (by decide +kernel) tyX9 tyX9_ok nmX9 hown hK hP hD hS 0 rfl rfl 13 (by decide) (hts (.fieldLink RX9 91 "BlockLogModel" "thrown" "I") (by decide +kernel)) (fun _ h9 => h9) rfl (by decide +kernel) rfl rfl (Nat.le_of_ble_eq_true rfl) dX9_version_26 (fun H locs hP hD hS => ?_)
      have hP : va_P (dC, dI) vwCl [(mo, .inr (11, [.ref m_disk, .int (nI P), .int ((8224 : Int32) + ((26 : Int32) * (nI P))), .int (1 : Int32), .int 0, .int (-1 : Int32), .int 0, .int (0 : Int32), .ref m_tape, .int 0, .ref m_slots, .ref m_leaves, .int 0, .int (0 : Int32), .ref m_fresh, .int 0, .int 0, .int 0, .ref m_digestAt, .ref m_isGroup, .ref m_counts, .int 0, .int 0, .long 0, .int 0, .ref m_versionRow, .int 0, .long 0, .ref m_state, .ref m_names, .int 0, .ref m_keptRow, .int 0, .ref m_inSlot, .ref m_inAt, .ref m_inSize, .ref m_inDigest, .int 0])), (m_digestAt, .inl (d_digestAt, 128, .inr (.inl (fun _ => 0)))), (m_isGroup, .inl (d_isGroup, 128, .inl (fun _ => 0))), (m_counts, .inl (d_counts, 128, .inl (fun _ => 0)))] H := hP
      have hD : va_D A [(mo, .inr (11, [.ref m_disk, .int (nI P), .int ((8224 : Int32) + ((26 : Int32) * (nI P))), .int (1 : Int32), .int 0, .int (-1 : Int32), .int 0, .int (0 : Int32), .ref m_tape, .int 0, .ref m_slots, .ref m_leaves, .int 0, .int (0 : Int32), .ref m_fresh, .int 0, .int 0, .int 0, .ref m_digestAt, .ref m_isGroup, .ref m_counts, .int 0, .int 0, .long 0, .int 0, .ref m_versionRow, .int 0, .long 0, .ref m_state, .ref m_names, .int 0, .ref m_keptRow, .int 0, .ref m_inSlot, .ref m_inAt, .ref m_inSize, .ref m_inDigest, .int 0])), (m_digestAt, .inl (d_digestAt, 128, .inr (.inl (fun _ => 0)))), (m_isGroup, .inl (d_isGroup, 128, .inl (fun _ => 0))), (m_counts, .inl (d_counts, 128, .inl (fun _ => 0)))] := hD
      refine lv_aload_n hx hb dX9_version_29 rfl (lv_at hl 0 rfl) ?_
      refine va_get (D := (dC, dI)) (ci := 11) (v := .int (0 : Int32)) (C := RX9) (T := TX9) (N := 38) hx hb hts (by decide +kernel) hown hK hP 0 rfl rfl 13 (by decide) (hts (.fieldLink RX9 91 "BlockLogModel" "thrown" "I") (by decide +kernel)) (fun _ h9 => h9) rfl dX9_version_30 ?_
      refine lv_if_le (tgt := 38) hx hb dX9_version_33 (by decide) (fun c_4 => ?_) (fun c_4 => ?_)
      · skip
        refine lv_aload_n hx hb dX9_version_38 rfl (lv_at hl 0 rfl) ?_
        have hPc := hP.sub (ws' := [(mo, .inr (11, [.ref m_disk, .int (nI P), .int ((8224 : Int32) + ((26 : Int32) * (nI P))), .int (1 : Int32), .int 0, .int (-1 : Int32), .int 0, .int (0 : Int32), .ref m_tape, .int 0, .ref m_slots, .ref m_leaves, .int 0, .int (0 : Int32), .ref m_fresh, .int 0, .int 0, .int 0, .ref m_digestAt, .ref m_isGroup, .ref m_counts, .int 0, .int 0, .long 0, .int 0, .ref m_versionRow, .int 0, .long 0, .ref m_state, .ref m_names, .int 0, .ref m_keptRow, .int 0, .ref m_inSlot, .ref m_inAt, .ref m_inSize, .ref m_inDigest, .int 0])), (m_digestAt, .inl (d_digestAt, 128, .inr (.inl (fun _ => 0)))), (m_isGroup, .inl (d_isGroup, 128, .inl (fun _ => 0))), (m_counts, .inl (d_counts, 128, .inl (fun _ => 0)))]) [0, 1, 2, 3] rfl
        have hKc := hK.sub (tys' := [(d_digestAt, .long), (d_isGroup, .boolean), (d_counts, .boolean)]) [0, 1, 2] rfl
        have hDc := hD.sub (ws' := [(mo, .inr (11, [.ref m_disk, .int (nI P), .int ((8224 : Int32) + ((26 : Int32) * (nI P))), .int (1 : Int32), .int 0, .int (-1 : Int32), .int 0, .int (0 : Int32), .ref m_tape, .int 0, .ref m_slots, .ref m_leaves, .int 0, .int (0 : Int32), .ref m_fresh, .int 0, .int 0, .int 0, .ref m_digestAt, .ref m_isGroup, .ref m_counts, .int 0, .int 0, .long 0, .int 0, .ref m_versionRow, .int 0, .long 0, .ref m_state, .ref m_names, .int 0, .ref m_keptRow, .int 0, .ref m_inSlot, .ref m_inAt, .ref m_inSize, .ref m_inDigest, .int 0])), (m_digestAt, .inl (d_digestAt, 128, .inr (.inl (fun _ => 0)))), (m_isGroup, .inl (d_isGroup, 128, .inl (fun _ => 0))), (m_counts, .inl (d_counts, 128, .inl (fun _ => 0)))]) [0, 1, 2, 3] (by decide) rfl
        have hFc := va_free (wc := [(mo, .inr (11, [.ref m_disk, .int (nI P), .int ((8224 : Int32) + ((26 : Int32) * (nI P))), .int (1 : Int32), .int 0, .int (-1 : Int32), .int 0, .int (0 : Int32), .ref m_tape, .int 0, .ref m_slots, .ref m_leaves, .int 0, .int (0 : Int32), .ref m_fresh, .int 0, .int 0, .int 0, .ref m_digestAt, .ref m_isGroup, .ref m_counts, .int 0, .int 0, .long 0, .int 0, .ref m_versionRow, .int 0, .long 0, .ref m_state, .ref m_names, .int 0, .ref m_keptRow, .int 0, .ref m_inSlot, .ref m_inAt, .ref m_inSize, .ref m_inDigest, .int 0])), (m_digestAt, .inl (d_digestAt, 128, .inr (.inl (fun _ => 0)))), (m_isGroup, .inl (d_isGroup, 128, .inl (fun _ => 0))), (m_counts, .inl (d_counts, 128, .inl (fun _ => 0)))]) hD hS hA [0, 1, 2, 3] rfl
        refine va_callv (va_runV (As := []) (rest := []) ⟨hx, hb, hml, hown, hts⟩ (k_X9_read_1 l dC dI mo m_digestAt m_isGroup m_counts m_disk P m_tape m_slots m_leaves m_fresh m_versionRow m_state m_names m_keptRow m_inSlot m_inAt m_inSize m_inDigest d_digestAt d_isGroup d_counts _) (cwV 0 hts gX9_version_X9_read rfl rfl rfl (by decide +kernel) ⟨Nat.le_of_ble_eq_true rfl, Nat.le_of_ble_eq_true rfl⟩) ⟨fun a U g mk q => by obtain ⟨q0, q1, qP, qK, qD⟩ := q; exact ⟨q0, q1, qP, va_K.moved (u := U) (U := U.calling g mk a) (Vm.Alike.refl U.vm) qK, qD⟩, va_recv hK hP (ci := 11) (q := (RX9, TX9, 38)) rfl (q0 := 0) rfl, fun U hU hW => ⟨rfl, by rw [hU], by rw [hU]; exact hPc, va_K.moved hW.alike hKc, hDc.weaken (fun _ _ _ _ => trivial)⟩⟩ rfl rfl hl.1 rfl (lv_room (Nat.le_of_ble_eq_true rfl)) dX9_version_39 ⟨Nat.le_of_ble_eq_true rfl, Nat.le_of_ble_eq_true rfl⟩) hS (fun q _ h => hFc q h) hFc (fun u t H1 locs ht hvm er_5 hB hz1 hk1 hS => ?_)
        obtain ⟨hP1, hK1, hD1⟩ := hB
        rw [ht] at hP1
        obtain ⟨hP, hD⟩ := va_join (wr := []) (w1 := [(mo, .inr (11, [.ref m_disk, .int (nI P), .int ((8224 : Int32) + ((26 : Int32) * (nI P))), .int (1 : Int32), .int 0, .int (-1 : Int32), .int 0, .int (0 : Int32), .ref m_tape, .int 0, .ref m_slots, .ref m_leaves, .int 0, .int 0, .ref m_fresh, .int 0, .int (0 : Int32), .int (0 : Int32), .ref m_digestAt, .ref m_isGroup, .ref m_counts, .int (-1 : Int32), .int (0 : Int32), .long (0 : Int64), .int (0 : Int32), .ref m_versionRow, .int (0 : Int32), .long (0 : Int64), .ref m_state, .ref m_names, .int 0, .ref m_keptRow, .int 0, .ref m_inSlot, .ref m_inAt, .ref m_inSize, .ref m_inDigest, .int 0])), (m_digestAt, .inl (d_digestAt, 128, .inr (.inl (zr_L 128)))), (m_isGroup, .inl (d_isGroup, 128, .inl (zr_Z 128))), (m_counts, .inl (d_counts, 128, .inl (zr_Z 128)))]) hP hD [0, 1, 2, 3] [] rfl rfl (by decide) (by decide) hk1 hFc hP1 hD1
        clear hPc hDc hFc hP1 hD1 hk1 hz1
        generalize H1 = H at hP hS ⊢
        have hP : va_P (dC, dI) vwCl [(mo, .inr (11, [.ref m_disk, .int (nI P), .int ((8224 : Int32) + ((26 : Int32) * (nI P))), .int (1 : Int32), .int 0, .int (-1 : Int32), .int 0, .int (0 : Int32), .ref m_tape, .int 0, .ref m_slots, .ref m_leaves, .int 0, .int 0, .ref m_fresh, .int 0, .int (0 : Int32), .int (0 : Int32), .ref m_digestAt, .ref m_isGroup, .ref m_counts, .int (-1 : Int32), .int (0 : Int32), .long (0 : Int64), .int (0 : Int32), .ref m_versionRow, .int (0 : Int32), .long (0 : Int64), .ref m_state, .ref m_names, .int 0, .ref m_keptRow, .int 0, .ref m_inSlot, .ref m_inAt, .ref m_inSize, .ref m_inDigest, .int 0])), (m_digestAt, .inl (d_digestAt, 128, .inr (.inl (zr_L 128)))), (m_isGroup, .inl (d_isGroup, 128, .inl (zr_Z 128))), (m_counts, .inl (d_counts, 128, .inl (zr_Z 128)))] H := hP
        have hD : va_D A [(mo, .inr (11, [.ref m_disk, .int (nI P), .int ((8224 : Int32) + ((26 : Int32) * (nI P))), .int (1 : Int32), .int 0, .int (-1 : Int32), .int 0, .int (0 : Int32), .ref m_tape, .int 0, .ref m_slots, .ref m_leaves, .int 0, .int 0, .ref m_fresh, .int 0, .int (0 : Int32), .int (0 : Int32), .ref m_digestAt, .ref m_isGroup, .ref m_counts, .int (-1 : Int32), .int (0 : Int32), .long (0 : Int64), .int (0 : Int32), .ref m_versionRow, .int (0 : Int32), .long (0 : Int64), .ref m_state, .ref m_names, .int 0, .ref m_keptRow, .int 0, .ref m_inSlot, .ref m_inAt, .ref m_inSize, .ref m_inDigest, .int 0])), (m_digestAt, .inl (d_digestAt, 128, .inr (.inl (zr_L 128)))), (m_isGroup, .inl (d_isGroup, 128, .inl (zr_Z 128))), (m_counts, .inl (d_counts, 128, .inl (zr_Z 128)))] := hD
        refine lv_aload_n hx hb dX9_version_42 rfl (lv_at hl 0 rfl) ?_
        refine va_get (D := (dC, dI)) (ci := 11) (v := .int (0 : Int32)) (C := RX9) (T := TX9) (N := 38) hx hb hts (by decide +kernel) hown hK hP 0 rfl rfl 17 (by decide) (hts (.fieldLink RX9 176 "BlockLogModel" "needs" "Z") (by decide +kernel)) (fun _ h9 => h9) rfl dX9_version_43 ?_
        refine lv_if_eq (tgt := 53) hx hb dX9_version_46 (by decide) (fun c_6 => ?_) (fun c_6 => ?_)
        · skip
          refine lv_iload_n hx hb dX9_version_53 rfl (lv_at hl 1 rfl) ?_
          refine lv_if_ne (tgt := 64) hx hb dX9_version_54 (by decide) (fun c_7 => ?_) (fun c_7 => ?_)
          · skip
            refine lv_aload_n hx hb dX9_version_64 rfl (lv_at hl 0 rfl) ?_
            refine va_get (D := (dC, dI)) (ci := 11) (v := .int (0 : Int32)) (C := RX9) (T := TX9) (N := 38) hx hb hts (by decide +kernel) hown hK hP 0 rfl rfl 22 (by decide) (hts (.fieldLink RX9 182 "BlockLogModel" "baseHeight" "I") (by decide +kernel)) (fun _ h9 => h9) rfl dX9_version_65 ?_
            have hP := hP.sub (ws' := [(mo, .inr (11, [.ref m_disk, .int (nI P), .int ((8224 : Int32) + ((26 : Int32) * (nI P))), .int (1 : Int32), .int 0, .int (-1 : Int32), .int 0, .int (0 : Int32), .ref m_tape, .int 0, .ref m_slots, .ref m_leaves, .int 0, .int 0, .ref m_fresh, .int 0, .int (0 : Int32), .int (0 : Int32), .ref m_digestAt, .ref m_isGroup, .ref m_counts, .int (-1 : Int32), .int (0 : Int32), .long (0 : Int64), .int (0 : Int32), .ref m_versionRow, .int (0 : Int32), .long (0 : Int64), .ref m_state, .ref m_names, .int 0, .ref m_keptRow, .int 0, .ref m_inSlot, .ref m_inAt, .ref m_inSize, .ref m_inDigest, .int 0]))]) [0] rfl
            have hD := hD.sub (ws' := [(mo, .inr (11, [.ref m_disk, .int (nI P), .int ((8224 : Int32) + ((26 : Int32) * (nI P))), .int (1 : Int32), .int 0, .int (-1 : Int32), .int 0, .int (0 : Int32), .ref m_tape, .int 0, .ref m_slots, .ref m_leaves, .int 0, .int 0, .ref m_fresh, .int 0, .int (0 : Int32), .int (0 : Int32), .ref m_digestAt, .ref m_isGroup, .ref m_counts, .int (-1 : Int32), .int (0 : Int32), .long (0 : Int64), .int (0 : Int32), .ref m_versionRow, .int (0 : Int32), .long (0 : Int64), .ref m_state, .ref m_names, .int 0, .ref m_keptRow, .int 0, .ref m_inSlot, .ref m_inAt, .ref m_inSize, .ref m_inDigest, .int 0]))]) [0] (by decide) rfl
            have hK := hK.sub (tys' := [(d_digestAt, .long), (d_isGroup, .boolean), (d_counts, .boolean)]) [0, 1, 2] rfl
            exact W.iret hx hb hr (fun t ht hW => ⟨⟨_, (), rfl, rfl, by rw [ht]; exact hP, va_K.moved hW.alike hK, hD⟩, hS.F ht⟩) hS.2.2 dX9_version_68
          · skip
            exact absurd c_7 (by decide)
        · skip
          exact absurd (by decide) c_6
      · skip
        exact absurd (by decide) c_4
    · skip
      exact absurd c_3 (by decide)
  · skip
    exact absurd c_1 (by decide)

set_option maxHeartbeats 4000000 in
set_option maxRecDepth 100000 in
theorem k_X8_version_3 (l : Launch) (hl0 : l.stackTraces = false) (dC : Nat → ClassId) (dI : Nat → Nat → Nat) (x : Nat) (p0 : Int32) (ds : Nat) (tp : Nat) (rr : Nat) (so : Nat) (pu : Nat) (sn : Nat) (im : Nat) (cs : Nat) (cl : Nat) (pg : Int32) (dl : Nat) (dr : Nat) (dt : Nat) (sz : Nat) (hf0 : p0 < 0) : vx_Met l yX8_version wsX8_version ({ frames := 6, cells := 1, slots := 6, locals := 90 }) (va_Pc [.ref x, .int p0] (fun U => U.heap.size = sz ∧ va_P (dC, dI) vwCl [(x, .inr (10, [.ref tp, .ref ds, .ref rr, .ref so, .ref pu, .ref sn, .ref im, .ref cs, .ref cl, .int (0 : Int32)])), (ds, .inr (3, [.int pg, .ref dl, .ref dr, .ref dt, .int (1 : Int32), .int (-1 : Int32), .int (0 : Int32)]))] U.heap ∧ va_K (dC, dI) vwCl [] U ∧ va_D (fun _ => True) [(x, .inr (10, [.ref tp, .ref ds, .ref rr, .ref so, .ref pu, .ref sn, .ref im, .ref cs, .ref cl, .int (0 : Int32)])), (ds, .inr (3, [.int pg, .ref dl, .ref dr, .ref dt, .int (1 : Int32), .int (-1 : Int32), .int (0 : Int32)]))] ∧ gx_E (va_A [(x, .inr (10, [.ref tp, .ref ds, .ref rr, .ref so, .ref pu, .ref sn, .ref im, .ref cs, .ref cl, .int (0 : Int32)])), (ds, .inr (3, [.int pg, .ref dl, .ref dr, .ref dt, .int (1 : Int32), .int (-1 : Int32), .int (0 : Int32)]))] sz) U)) (va_Qi (fun (_ : Int32) (_ : Unit) => False) (fun _ _ => True) (va_A [(x, .inr (10, [.ref tp, .ref ds, .ref rr, .ref so, .ref pu, .ref sn, .ref im, .ref cs, .ref cl, .int (0 : Int32)])), (ds, .inr (3, [.int pg, .ref dl, .ref dr, .ref dt, .int (1 : Int32), .int (-1 : Int32), .int (0 : Int32)]))] sz)) (vx_X (fun _ : Unit => True) (fun E _ _ => E = "java/lang/IllegalArgumentException") (va_A [(x, .inr (10, [.ref tp, .ref ds, .ref rr, .ref so, .ref pu, .ref sn, .ref im, .ref cs, .ref cl, .int (0 : Int32)])), (ds, .inr (3, [.int pg, .ref dl, .ref dr, .ref dt, .int (1 : Int32), .int (-1 : Int32), .int (0 : Int32)]))] sz)) 1 6 (va_A [(x, .inr (10, [.ref tp, .ref ds, .ref rr, .ref so, .ref pu, .ref sn, .ref im, .ref cs, .ref cl, .int (0 : Int32)])), (ds, .inr (3, [.int pg, .ref dl, .ref dr, .ref dt, .int (1 : Int32), .int (-1 : Int32), .int (0 : Int32)]))] sz) := by
  refine vx_ofW (cc := cX8_version) (maxL := 2) (ret := (some .int)) (by decide) rfl ?_
  intro p e s m args below meth c s₁ B hml hno hv
  obtain ⟨rfl, hsz, hP, hK, hD0, hG⟩ := hv
  have hx := B.exec
  have hb := B.bytes
  have hr := B.returns
  have hts := atoms_spec (ws := wsX8_version) B.pre
  have hown : s.vm.findClass RX8 = some m.cls := findClass_of_methodNamed B.named
  have hlocks := B.notSynchronized
  subst hsz
  have hD := hD0.self (sz := s.heap.size)
  generalize hAe : va_A [(x, .inr (10, [.ref tp, .ref ds, .ref rr, .ref so, .ref pu, .ref sn, .ref im, .ref cs, .ref cl, .int (0 : Int32)])), (ds, .inr (3, [.int pg, .ref dl, .ref dr, .ref dt, .int (1 : Int32), .int (-1 : Int32), .int (0 : Int32)]))] s.heap.size = A at hD hG ⊢
  have hA : ∀ q : Nat, s.heap.size ≤ q → A q := fun q h => by rw [← hAe]; exact Or.inr h
  have hS : va_S A s.heap s.heap [] := va_S.rf
  have hl := lv_entry ([.ref x, .int p0]) (n := 2) (Nat.le_of_ble_eq_true rfl)
  rw [lg_entry_eq]
  generalize (lg_sl ([.ref x, .int p0]) ++ List.replicate (2 - (lg_sl ([.ref x, .int p0])).length) Slot.unset).toArray = ls at hl ⊢
  have hl : lv_has ls 2 [(0, .ref x), (1, .int p0)] := hl
  refine lv_aload_n hx hb dX8_version_0 rfl (lv_at hl 0 rfl) ?_
  have hPc := hP.sub (ws' := [(x, .inr (10, [.ref tp, .ref ds, .ref rr, .ref so, .ref pu, .ref sn, .ref im, .ref cs, .ref cl, .int (0 : Int32)])), (ds, .inr (3, [.int pg, .ref dl, .ref dr, .ref dt, .int (1 : Int32), .int (-1 : Int32), .int (0 : Int32)]))]) [0, 1] rfl
  have hKc := hK.sub (tys' := []) [] rfl
  refine va_csv (va_Run.run (va_runV (As := []) (rest := []) ⟨hx, hb, hml, hown, hts⟩ (k_X8_demandPower_1 l dC dI x ds tp rr so pu sn im cs cl pg dl dr dt) (cwV 0 hts gX8_version_X8_demandPower rfl rfl rfl (by decide +kernel) ⟨Nat.le_of_ble_eq_true rfl, Nat.le_of_ble_eq_true rfl⟩) ⟨fun a U g mk q => by obtain ⟨q0, qP, qK, qG⟩ := q; exact ⟨q0, qP, va_K.moved (u := U) (U := U.calling g mk a) (Vm.Alike.refl U.vm) qK, qG.same rfl⟩, va_recv hK hP (ci := 10) (q := (RX8, TX8, 10)) rfl (q0 := 0) rfl, fun U hU hW => ⟨rfl, by rw [hU]; exact hPc, va_K.moved hW.alike hKc, hG.1.warm hW⟩⟩ rfl rfl hl.1 rfl (lv_room (Nat.le_of_ble_eq_true rfl)) dX8_version_1 ⟨Nat.le_of_ble_eq_true rfl, Nat.le_of_ble_eq_true rfl⟩)) (fun _ => ?_)
  refine lv_iload_n hx hb dX8_version_4 rfl (lv_at hl 1 rfl) ?_
  refine lv_if_eq (tgt := 23) hx hb dX8_version_5 (by decide) (fun c_2 => ?_) (fun c_2 => ?_)
  · skip
    exact absurd c_2 (Int32.ne_of_lt hf0)
  · skip
    refine lv_iload_n hx hb dX8_version_8 rfl (lv_at hl 1 rfl) ?_
    refine lv_iconst (v := 1) hx hb dX8_version_9 (by decide) ?_
    refine lv_icmp_eq (tgt := 23) hx hb dX8_version_10 (by decide) (fun c_3 => ?_) (fun c_3 => ?_)
    · skip
      exact absurd c_3 (Int32.ne_of_lt (Int32.lt_of_lt_of_le hf0 (by decide)))
    · skip
      obtain ⟨sa, hstr⟩ := hG.1.2.1 ("BlockLog", 202, "what is not 0 or 1") (by decide +kernel)
      exact vx_throwS (names := ["java/lang/RuntimeException", "java/lang/Exception"]) hx hb hl0 hown (by decide +kernel) (by decide +kernel) (hts (.classLink RX8 76 "java/lang/IllegalArgumentException") (by decide +kernel)) (hts (.initialized "java/lang/IllegalArgumentException") (by decide +kernel)) hstr (vx_hat (B := gx_bad "java/lang/IllegalArgumentException") (fun w h => hts w (List.mem_cons_of_mem _ (List.mem_append_left _ (List.mem_append_right _ h)))) (by decide +kernel) (hG.1.bad (by decide))) (by decide +kernel) hG.2.1 hG.2.2.1 hS (hl.1.trans hml.symm) dX8_version_13 dX8_version_16 dX8_version_17 dX8_version_19 dX8_version_22 (fun x h => (hno x h).elim) (Nat.le_of_ble_eq_true rfl) (Nat.le_of_ble_eq_true rfl) (Nat.le_of_ble_eq_true rfl) (Nat.le_of_ble_eq_true rfl) hlocks (fun t _ h1 h2 => ⟨(), trivial, rfl, Nat.le_trans hS.1 h1, fun q hq hn => (h2 q (Nat.lt_of_lt_of_le hq hS.1)).trans (hS.2.1 q hq hn)⟩) hS.2.2 (Nat.le_refl _) (Nat.le_refl _)

set_option maxHeartbeats 4000000 in
set_option maxRecDepth 100000 in
theorem k_L_version_3 (l : Launch) (hl0 : l.stackTraces = false) (dC : Nat → ClassId) (dI : Nat → Nat → Nat) (x : Nat) (p0 : Int32) (ho : Nat) (ds : Nat) (tp : Nat) (rr : Nat) (so : Nat) (pu : Nat) (sn : Nat) (im : Nat) (cs : Nat) (cl : Nat) (pg : Int32) (dl : Nat) (dr : Nat) (dt : Nat) (sz : Nat) (hf0 : p0 < 0) : Met l yL_version wsL_version ({ frames := 7, cells := 1, slots := 6, locals := 111 }) (va_Pc [.ref x, .int p0, .ref ho] (fun U => U.heap.size = sz ∧ va_P (dC, dI) vwCl [(x, .inr (10, [.ref tp, .ref ds, .ref rr, .ref so, .ref pu, .ref sn, .ref im, .ref cs, .ref cl, .int (0 : Int32)])), (ds, .inr (3, [.int pg, .ref dl, .ref dr, .ref dt, .int (1 : Int32), .int (-1 : Int32), .int (0 : Int32)]))] U.heap ∧ va_K (dC, dI) vwCl [] U ∧ va_D (fun _ => True) [(x, .inr (10, [.ref tp, .ref ds, .ref rr, .ref so, .ref pu, .ref sn, .ref im, .ref cs, .ref cl, .int (0 : Int32)])), (ds, .inr (3, [.int pg, .ref dl, .ref dr, .ref dt, .int (1 : Int32), .int (-1 : Int32), .int (0 : Int32)]))] ∧ gx_E (va_A [(x, .inr (10, [.ref tp, .ref ds, .ref rr, .ref so, .ref pu, .ref sn, .ref im, .ref cs, .ref cl, .int (0 : Int32)])), (ds, .inr (3, [.int pg, .ref dl, .ref dr, .ref dt, .int (1 : Int32), .int (-1 : Int32), .int (0 : Int32)]))] sz) U)) (va_Qi (fun r (_ : Unit) => r = (2 : Int32)) (fun (_ : Unit) t => va_P (dC, dI) vwCl [] t.heap ∧ va_K (dC, dI) vwCl [] t ∧ va_D (va_A [(x, .inr (10, [.ref tp, .ref ds, .ref rr, .ref so, .ref pu, .ref sn, .ref im, .ref cs, .ref cl, .int (0 : Int32)])), (ds, .inr (3, [.int pg, .ref dl, .ref dr, .ref dt, .int (1 : Int32), .int (-1 : Int32), .int (0 : Int32)]))] sz) []) (va_A [(x, .inr (10, [.ref tp, .ref ds, .ref rr, .ref so, .ref pu, .ref sn, .ref im, .ref cs, .ref cl, .int (0 : Int32)])), (ds, .inr (3, [.int pg, .ref dl, .ref dr, .ref dt, .int (1 : Int32), .int (-1 : Int32), .int (0 : Int32)]))] sz)) 1 6 (va_A [(x, .inr (10, [.ref tp, .ref ds, .ref rr, .ref so, .ref pu, .ref sn, .ref im, .ref cs, .ref cl, .int (0 : Int32)])), (ds, .inr (3, [.int pg, .ref dl, .ref dr, .ref dt, .int (1 : Int32), .int (-1 : Int32), .int (0 : Int32)]))] sz) := by
  refine va_MetW (cc := cL_version) (maxL := 4) (ret := (some .int)) (hh := [(0, 9, 12, 25), (0, 9, 15, 13)]) (by decide) rfl ?_
  intro p e s m args below meth c s₁ B hml hv
  obtain ⟨rfl, hsz, hP, hK, hD0, hG⟩ := hv
  have hx := B.exec
  have hb := B.bytes
  have hr := B.returns
  have hts := atoms_spec (ws := wsL_version) B.pre
  have hown : s.vm.findClass RL = some m.cls := findClass_of_methodNamed B.named
  have hlocks := B.notSynchronized
  have htab := vx_table (x := yL_version) B (hts (.codeWith yL_version cL_version 4 (some .int) [(0, 9, 12, 25), (0, 9, 15, 13)]) List.mem_cons_self)
  subst hsz
  have hD := hD0.self (sz := s.heap.size)
  generalize hAe : va_A [(x, .inr (10, [.ref tp, .ref ds, .ref rr, .ref so, .ref pu, .ref sn, .ref im, .ref cs, .ref cl, .int (0 : Int32)])), (ds, .inr (3, [.int pg, .ref dl, .ref dr, .ref dt, .int (1 : Int32), .int (-1 : Int32), .int (0 : Int32)]))] s.heap.size = A at hD hG ⊢
  have hA : ∀ q : Nat, s.heap.size ≤ q → A q := fun q h => by rw [← hAe]; exact Or.inr h
  have hS : va_S A s.heap s.heap [] := va_S.rf
  have hl := lv_entry ([.ref x, .int p0, .ref ho]) (n := 4) (Nat.le_of_ble_eq_true rfl)
  rw [lg_entry_eq]
  generalize (lg_sl ([.ref x, .int p0, .ref ho]) ++ List.replicate (4 - (lg_sl ([.ref x, .int p0, .ref ho])).length) Slot.unset).toArray = ls at hl ⊢
  have hl : lv_has ls 4 [(0, .ref x), (1, .int p0), (2, .ref ho)] := hl
  refine lv_aload_n hx hb dL_version_0 rfl (lv_at hl 2 rfl) ?_
  refine lv_iconst (v := 0) hx hb dL_version_1 (by decide) ?_
  refine lv_aload_n hx hb dL_version_2 rfl (lv_at hl 0 rfl) ?_
  refine lv_iload_n hx hb dL_version_3 rfl (lv_at hl 1 rfl) ?_
  have hPc := hP.sub (ws' := [(x, .inr (10, [.ref tp, .ref ds, .ref rr, .ref so, .ref pu, .ref sn, .ref im, .ref cs, .ref cl, .int (0 : Int32)])), (ds, .inr (3, [.int pg, .ref dl, .ref dr, .ref dt, .int (1 : Int32), .int (-1 : Int32), .int (0 : Int32)]))]) [0, 1] rfl
  have hKc := hK.sub (tys' := []) [] rfl
  have hDc := hD.sub (ws' := [(x, .inr (10, [.ref tp, .ref ds, .ref rr, .ref so, .ref pu, .ref sn, .ref im, .ref cs, .ref cl, .int (0 : Int32)])), (ds, .inr (3, [.int pg, .ref dl, .ref dr, .ref dt, .int (1 : Int32), .int (-1 : Int32), .int (0 : Int32)]))]) [0, 1] (by decide) rfl
  have hFc := va_free (wc := [(x, .inr (10, [.ref tp, .ref ds, .ref rr, .ref so, .ref pu, .ref sn, .ref im, .ref cs, .ref cl, .int (0 : Int32)])), (ds, .inr (3, [.int pg, .ref dl, .ref dr, .ref dt, .int (1 : Int32), .int (-1 : Int32), .int (0 : Int32)]))]) hD hS hA [0, 1] rfl
  refine vx_calli (vx_runV (As := [.int p0]) (rest := [.int (0 : Int32), .ref ho]) ⟨hx, hb, hml, hown, hts⟩ (k_X8_version_3 l hl0 dC dI x p0 ds tp rr so pu sn im cs cl pg dl dr dt _ hf0) (cwV 1 hts gL_version_X8_version rfl rfl rfl (by decide +kernel) ⟨Nat.le_of_ble_eq_true rfl, Nat.le_of_ble_eq_true rfl⟩) ⟨fun a U g mk q => by obtain ⟨q0, q1, qP, qK, qD, qG⟩ := q; exact ⟨q0, q1, qP, va_K.moved (u := U) (U := U.calling g mk a) (Vm.Alike.refl U.vm) qK, qD, qG.same rfl rfl⟩, va_recv hK hP (ci := 10) (q := (RX8, TX8, 10)) rfl (q0 := 0) rfl, fun U hU hW => ⟨rfl, by rw [hU], by rw [hU]; exact hPc, va_K.moved hW.alike hKc, hDc.weaken (fun _ _ _ _ => trivial), hG.go hW hU hS hFc⟩⟩ rfl rfl hl.1 rfl (lv_room (Nat.le_of_ble_eq_true rfl)) dL_version_4 ⟨Nat.le_of_ble_eq_true rfl, Nat.le_of_ble_eq_true rfl⟩) hS (fun q _ h => hFc q h) hFc (fun q _ h => hFc q h) (fun E9 ce q9 u t H1 locs1 ht hvm hp hE hz hk hS hcell hv hcl => ?_) (fun r u t H1 locs1 ht hvm hp hB hz hk hS => hp.elim)
  subst hE
  refine vx_catch (name := "java/lang/IllegalArgumentException") hown [⟨0, 9, 12, 25⟩] ⟨0, 9, 15, 13⟩ [] htab (fun z h => by simp only [List.mem_cons, List.not_mem_nil, or_false] at h; rcases h with rfl <;> first | exact Or.inr ⟨by decide, "java/lang/IllegalStateException", (hts (.classLink RL 25 "java/lang/IllegalStateException") (by decide +kernel)), hG.1.2.2.2.1 _ (by decide) _ (by decide) (by decide)⟩) (by decide) (by decide) (va_Nw.use rfl (hG.1.2.2.2.2.2.2 (13, "java/lang/IllegalArgumentException") (by decide +kernel))) (va_Nw.use rfl (hG.1.2.2.1 _ (by decide))) hcell hv hcl ?_
  refine W.eq (g2 := F0 m 15 ls [.ref q9]) rfl ?_
  have hP : va_P (dC, dI) vwCl [] H1 := fun k q h => by simp at h
  have hD : va_D A [] := ⟨fun i j p q h => by simp at h, fun k q h => by simp at h⟩
  generalize H1 = H at hP hS ⊢
  refine lv_astore_n (lv' := [(3, .ref q9), (0, .ref x), (1, .int p0), (2, .ref ho)]) hx hb dL_version_15 rfl hl (by decide) rfl (fun ls hl => ?_)
  refine lv_iconst (v := 2) hx hb dL_version_16 (by decide) ?_
  have hP := hP.sub (ws' := []) [] rfl
  have hD := hD.sub (ws' := []) [] (by decide) rfl
  have hK := hK.sub (tys' := []) [] rfl
  exact W.iret hx hb hr (fun t ht hW => ⟨⟨_, (), rfl, rfl, by rw [ht]; exact hP, va_K.moved hW.alike hK, hD⟩, hS.F ht⟩) hS.2.2 dL_version_17
