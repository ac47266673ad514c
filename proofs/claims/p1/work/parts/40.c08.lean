set_option maxHeartbeats 4000000 in
set_option maxRecDepth 100000 in
theorem k_X9_out_1 (l : Launch) (dC : Nat → ClassId) (dI : Nat → Nat → Nat) (mo : Nat) (m_digestAt : Nat) (m_isGroup : Nat) (m_counts : Nat) (m_disk : Nat) (P : Nat) (m_tape : Nat) (m_slots : Nat) (m_leaves : Nat) (m_fresh : Nat) (m_versionRow : Nat) (m_state : Nat) (m_names : Nat) (m_keptRow : Nat) (m_inSlot : Nat) (m_inAt : Nat) (m_inSize : Nat) (m_inDigest : Nat) (d_digestAt : ClassId) (d_isGroup : ClassId) (d_counts : ClassId) (sz : Nat)  : Met l yX9_out wsX9_out ({ frames := 3, cells := 0, slots := 0, locals := 65 }) (va_Pc [.ref mo, .int (0 : Int32)] (fun U => U.heap.size = sz ∧ va_P (dC, dI) vwCl [(mo, .inr (11, [.ref m_disk, .int (nI P), .int ((8224 : Int32) + ((26 : Int32) * (nI P))), .int (1 : Int32), .int 0, .int (-1 : Int32), .int 0, .int (0 : Int32), .ref m_tape, .int 0, .ref m_slots, .ref m_leaves, .int 0, .int 0, .ref m_fresh, .int 0, .int 0, .int 0, .ref m_digestAt, .ref m_isGroup, .ref m_counts, .int 0, .int 0, .long 0, .int 0, .ref m_versionRow, .int 0, .long 0, .ref m_state, .ref m_names, .int 0, .ref m_keptRow, .int 0, .ref m_inSlot, .ref m_inAt, .ref m_inSize, .ref m_inDigest, .int 0])), (m_digestAt, .inl (d_digestAt, 128, .inr (.inl (fun _ => 0)))), (m_isGroup, .inl (d_isGroup, 128, .inl (fun _ => 0))), (m_counts, .inl (d_counts, 128, .inl (fun _ => 0)))] U.heap ∧ va_K (dC, dI) vwCl [(d_digestAt, .long), (d_isGroup, .boolean), (d_counts, .boolean)] U ∧ va_D (fun _ => True) [(mo, .inr (11, [.ref m_disk, .int (nI P), .int ((8224 : Int32) + ((26 : Int32) * (nI P))), .int (1 : Int32), .int 0, .int (-1 : Int32), .int 0, .int (0 : Int32), .ref m_tape, .int 0, .ref m_slots, .ref m_leaves, .int 0, .int 0, .ref m_fresh, .int 0, .int 0, .int 0, .ref m_digestAt, .ref m_isGroup, .ref m_counts, .int 0, .int 0, .long 0, .int 0, .ref m_versionRow, .int 0, .long 0, .ref m_state, .ref m_names, .int 0, .ref m_keptRow, .int 0, .ref m_inSlot, .ref m_inAt, .ref m_inSize, .ref m_inDigest, .int 0])), (m_digestAt, .inl (d_digestAt, 128, .inr (.inl (fun _ => 0)))), (m_isGroup, .inl (d_isGroup, 128, .inl (fun _ => 0))), (m_counts, .inl (d_counts, 128, .inl (fun _ => 0)))])) (va_Qi (fun r (_ : Unit) => r = (0 : Int32)) (fun (_ : Unit) t => va_P (dC, dI) vwCl [(mo, .inr (11, [.ref m_disk, .int (nI P), .int ((8224 : Int32) + ((26 : Int32) * (nI P))), .int (1 : Int32), .int 0, .int (-1 : Int32), .int 0, .int (0 : Int32), .ref m_tape, .int 0, .ref m_slots, .ref m_leaves, .int 0, .int (2 : Int32), .ref m_fresh, .int 0, .int (0 : Int32), .int (0 : Int32), .ref m_digestAt, .ref m_isGroup, .ref m_counts, .int (-1 : Int32), .int (0 : Int32), .long (0 : Int64), .int (0 : Int32), .ref m_versionRow, .int (0 : Int32), .long (0 : Int64), .ref m_state, .ref m_names, .int 0, .ref m_keptRow, .int 0, .ref m_inSlot, .ref m_inAt, .ref m_inSize, .ref m_inDigest, .int 0]))] t.heap ∧ va_K (dC, dI) vwCl [(d_digestAt, .long), (d_isGroup, .boolean), (d_counts, .boolean)] t ∧ va_D (va_A [(mo, .inr (11, [.ref m_disk, .int (nI P), .int ((8224 : Int32) + ((26 : Int32) * (nI P))), .int (1 : Int32), .int 0, .int (-1 : Int32), .int 0, .int (0 : Int32), .ref m_tape, .int 0, .ref m_slots, .ref m_leaves, .int 0, .int 0, .ref m_fresh, .int 0, .int 0, .int 0, .ref m_digestAt, .ref m_isGroup, .ref m_counts, .int 0, .int 0, .long 0, .int 0, .ref m_versionRow, .int 0, .long 0, .ref m_state, .ref m_names, .int 0, .ref m_keptRow, .int 0, .ref m_inSlot, .ref m_inAt, .ref m_inSize, .ref m_inDigest, .int 0])), (m_digestAt, .inl (d_digestAt, 128, .inr (.inl (fun _ => 0)))), (m_isGroup, .inl (d_isGroup, 128, .inl (fun _ => 0))), (m_counts, .inl (d_counts, 128, .inl (fun _ => 0)))] sz) [(mo, .inr (11, [.ref m_disk, .int (nI P), .int ((8224 : Int32) + ((26 : Int32) * (nI P))), .int (1 : Int32), .int 0, .int (-1 : Int32), .int 0, .int (0 : Int32), .ref m_tape, .int 0, .ref m_slots, .ref m_leaves, .int 0, .int (2 : Int32), .ref m_fresh, .int 0, .int (0 : Int32), .int (0 : Int32), .ref m_digestAt, .ref m_isGroup, .ref m_counts, .int (-1 : Int32), .int (0 : Int32), .long (0 : Int64), .int (0 : Int32), .ref m_versionRow, .int (0 : Int32), .long (0 : Int64), .ref m_state, .ref m_names, .int 0, .ref m_keptRow, .int 0, .ref m_inSlot, .ref m_inAt, .ref m_inSize, .ref m_inDigest, .int 0]))]) (va_A [(mo, .inr (11, [.ref m_disk, .int (nI P), .int ((8224 : Int32) + ((26 : Int32) * (nI P))), .int (1 : Int32), .int 0, .int (-1 : Int32), .int 0, .int (0 : Int32), .ref m_tape, .int 0, .ref m_slots, .ref m_leaves, .int 0, .int 0, .ref m_fresh, .int 0, .int 0, .int 0, .ref m_digestAt, .ref m_isGroup, .ref m_counts, .int 0, .int 0, .long 0, .int 0, .ref m_versionRow, .int 0, .long 0, .ref m_state, .ref m_names, .int 0, .ref m_keptRow, .int 0, .ref m_inSlot, .ref m_inAt, .ref m_inSize, .ref m_inDigest, .int 0])), (m_digestAt, .inl (d_digestAt, 128, .inr (.inl (fun _ => 0)))), (m_isGroup, .inl (d_isGroup, 128, .inl (fun _ => 0))), (m_counts, .inl (d_counts, 128, .inl (fun _ => 0)))] sz)) 0 0 (va_A [(mo, .inr (11, [.ref m_disk, .int (nI P), .int ((8224 : Int32) + ((26 : Int32) * (nI P))), .int (1 : Int32), .int 0, .int (-1 : Int32), .int 0, .int (0 : Int32), .ref m_tape, .int 0, .ref m_slots, .ref m_leaves, .int 0, .int 0, .ref m_fresh, .int 0, .int 0, .int 0, .ref m_digestAt, .ref m_isGroup, .ref m_counts, .int 0, .int 0, .long 0, .int 0, .ref m_versionRow, .int 0, .long 0, .ref m_state, .ref m_names, .int 0, .ref m_keptRow, .int 0, .ref m_inSlot, .ref m_inAt, .ref m_inSize, .ref m_inDigest, .int 0])), (m_digestAt, .inl (d_digestAt, 128, .inr (.inl (fun _ => 0)))), (m_isGroup, .inl (d_isGroup, 128, .inl (fun _ => 0))), (m_counts, .inl (d_counts, 128, .inl (fun _ => 0)))] sz) := by
  refine Met.ofW (cc := cX9_out) (maxL := 6) (ret := (some .int)) (by decide) rfl ?_
  intro p e s m args below meth c s₁ B hml hv
  obtain ⟨rfl, hsz, hP, hK, hD0⟩ := hv
  have hx := B.exec
  have hb := B.bytes
  have hr := B.returns
  have hts := atoms_spec (ws := wsX9_out) B.pre
  have hown : s.vm.findClass RX9 = some m.cls := findClass_of_methodNamed B.named
  have hlocks := B.notSynchronized
  subst hsz
  have hD := hD0.self (sz := s.heap.size)
  generalize hAe : va_A [(mo, .inr (11, [.ref m_disk, .int (nI P), .int ((8224 : Int32) + ((26 : Int32) * (nI P))), .int (1 : Int32), .int 0, .int (-1 : Int32), .int 0, .int (0 : Int32), .ref m_tape, .int 0, .ref m_slots, .ref m_leaves, .int 0, .int 0, .ref m_fresh, .int 0, .int 0, .int 0, .ref m_digestAt, .ref m_isGroup, .ref m_counts, .int 0, .int 0, .long 0, .int 0, .ref m_versionRow, .int 0, .long 0, .ref m_state, .ref m_names, .int 0, .ref m_keptRow, .int 0, .ref m_inSlot, .ref m_inAt, .ref m_inSize, .ref m_inDigest, .int 0])), (m_digestAt, .inl (d_digestAt, 128, .inr (.inl (fun _ => 0)))), (m_isGroup, .inl (d_isGroup, 128, .inl (fun _ => 0))), (m_counts, .inl (d_counts, 128, .inl (fun _ => 0)))] s.heap.size = A at hD ⊢
  have hA : ∀ q : Nat, s.heap.size ≤ q → A q := fun q h => by rw [← hAe]; exact Or.inr h
  have hS : va_S A s.heap s.heap [] := va_S.rf
  have hl := lv_entry ([.ref mo, .int (0 : Int32)]) (n := 6) (Nat.le_of_ble_eq_true rfl)
  rw [lg_entry_eq]
  generalize (lg_sl ([.ref mo, .int (0 : Int32)]) ++ List.replicate (6 - (lg_sl ([.ref mo, .int (0 : Int32)])).length) Slot.unset).toArray = ls at hl ⊢
  have hl : lv_has ls 6 [(0, .ref mo), (1, .int (0 : Int32))] := hl
  refine lv_aload_n hx hb dX9_out_0 rfl (lv_at hl 0 rfl) ?_
  refine lv_aload_n hx hb dX9_out_1 rfl (lv_at hl 0 rfl) ?_
  refine va_get (D := (dC, dI)) (ci := 11) (v := .int (1 : Int32)) (C := RX9) (T := TX9) (N := 38) hx hb hts (by decide +kernel) hown hK hP 0 rfl rfl 3 (by decide) (hts (.fieldLink RX9 72 "BlockLogModel" "on" "Z") (by decide +kernel)) (fun _ h9 => h9) rfl dX9_out_2 ?_
  refine lv_if_eq (tgt := 12) hx hb dX9_out_5 (by decide) (fun c_1 => ?_) (fun c_1 => ?_)
  · skip
    exact absurd c_1 (by decide)
  · skip
    refine lv_iconst (v := 0) hx hb dX9_out_8 (by decide) ?_
    refine lv_goto (tgt := 13) hx hb dX9_out_9 (by decide) ?_
    refine va_put (D := (dC, dI)) (ci := 11) (v := .int (0 : Int32)) (ty := .int) (C := RX9) (T := TX9) (N := 38) hx hb hts (by decide +kernel) tyX9 tyX9_ok nmX9 hown hK hP hD hS 0 rfl rfl 13 (by decide) (hts (.fieldLink RX9 91 "BlockLogModel" "thrown" "I") (by decide +kernel)) (fun _ h9 => h9) rfl (by decide +kernel) rfl rfl (Nat.le_of_ble_eq_true rfl) dX9_out_13 (fun H locs hP hD hS => ?_)
    have hP : va_P (dC, dI) vwCl [(mo, .inr (11, [.ref m_disk, .int (nI P), .int ((8224 : Int32) + ((26 : Int32) * (nI P))), .int (1 : Int32), .int 0, .int (-1 : Int32), .int 0, .int (0 : Int32), .ref m_tape, .int 0, .ref m_slots, .ref m_leaves, .int 0, .int (0 : Int32), .ref m_fresh, .int 0, .int 0, .int 0, .ref m_digestAt, .ref m_isGroup, .ref m_counts, .int 0, .int 0, .long 0, .int 0, .ref m_versionRow, .int 0, .long 0, .ref m_state, .ref m_names, .int 0, .ref m_keptRow, .int 0, .ref m_inSlot, .ref m_inAt, .ref m_inSize, .ref m_inDigest, .int 0])), (m_digestAt, .inl (d_digestAt, 128, .inr (.inl (fun _ => 0)))), (m_isGroup, .inl (d_isGroup, 128, .inl (fun _ => 0))), (m_counts, .inl (d_counts, 128, .inl (fun _ => 0)))] H := hP
    have hD : va_D A [(mo, .inr (11, [.ref m_disk, .int (nI P), .int ((8224 : Int32) + ((26 : Int32) * (nI P))), .int (1 : Int32), .int 0, .int (-1 : Int32), .int 0, .int (0 : Int32), .ref m_tape, .int 0, .ref m_slots, .ref m_leaves, .int 0, .int (0 : Int32), .ref m_fresh, .int 0, .int 0, .int 0, .ref m_digestAt, .ref m_isGroup, .ref m_counts, .int 0, .int 0, .long 0, .int 0, .ref m_versionRow, .int 0, .long 0, .ref m_state, .ref m_names, .int 0, .ref m_keptRow, .int 0, .ref m_inSlot, .ref m_inAt, .ref m_inSize, .ref m_inDigest, .int 0])), (m_digestAt, .inl (d_digestAt, 128, .inr (.inl (fun _ => 0)))), (m_isGroup, .inl (d_isGroup, 128, .inl (fun _ => 0))), (m_counts, .inl (d_counts, 128, .inl (fun _ => 0)))] := hD
    refine lv_aload_n hx hb dX9_out_16 rfl (lv_at hl 0 rfl) ?_
    refine va_get (D := (dC, dI)) (ci := 11) (v := .int (0 : Int32)) (C := RX9) (T := TX9) (N := 38) hx hb hts (by decide +kernel) hown hK hP 0 rfl rfl 13 (by decide) (hts (.fieldLink RX9 91 "BlockLogModel" "thrown" "I") (by decide +kernel)) (fun _ h9 => h9) rfl dX9_out_17 ?_
    refine lv_if_le (tgt := 25) hx hb dX9_out_20 (by decide) (fun c_2 => ?_) (fun c_2 => ?_)
    · skip
      refine lv_aload_n hx hb dX9_out_25 rfl (lv_at hl 0 rfl) ?_
      have hPc := hP.sub (ws' := [(mo, .inr (11, [.ref m_disk, .int (nI P), .int ((8224 : Int32) + ((26 : Int32) * (nI P))), .int (1 : Int32), .int 0, .int (-1 : Int32), .int 0, .int (0 : Int32), .ref m_tape, .int 0, .ref m_slots, .ref m_leaves, .int 0, .int (0 : Int32), .ref m_fresh, .int 0, .int 0, .int 0, .ref m_digestAt, .ref m_isGroup, .ref m_counts, .int 0, .int 0, .long 0, .int 0, .ref m_versionRow, .int 0, .long 0, .ref m_state, .ref m_names, .int 0, .ref m_keptRow, .int 0, .ref m_inSlot, .ref m_inAt, .ref m_inSize, .ref m_inDigest, .int 0])), (m_digestAt, .inl (d_digestAt, 128, .inr (.inl (fun _ => 0)))), (m_isGroup, .inl (d_isGroup, 128, .inl (fun _ => 0))), (m_counts, .inl (d_counts, 128, .inl (fun _ => 0)))]) [0, 1, 2, 3] rfl
      have hKc := hK.sub (tys' := [(d_digestAt, .long), (d_isGroup, .boolean), (d_counts, .boolean)]) [0, 1, 2] rfl
      have hDc := hD.sub (ws' := [(mo, .inr (11, [.ref m_disk, .int (nI P), .int ((8224 : Int32) + ((26 : Int32) * (nI P))), .int (1 : Int32), .int 0, .int (-1 : Int32), .int 0, .int (0 : Int32), .ref m_tape, .int 0, .ref m_slots, .ref m_leaves, .int 0, .int (0 : Int32), .ref m_fresh, .int 0, .int 0, .int 0, .ref m_digestAt, .ref m_isGroup, .ref m_counts, .int 0, .int 0, .long 0, .int 0, .ref m_versionRow, .int 0, .long 0, .ref m_state, .ref m_names, .int 0, .ref m_keptRow, .int 0, .ref m_inSlot, .ref m_inAt, .ref m_inSize, .ref m_inDigest, .int 0])), (m_digestAt, .inl (d_digestAt, 128, .inr (.inl (fun _ => 0)))), (m_isGroup, .inl (d_isGroup, 128, .inl (fun _ => 0))), (m_counts, .inl (d_counts, 128, .inl (fun _ => 0)))]) [0, 1, 2, 3] (by decide) rfl
      have hFc := va_free (wc := [(mo, .inr (11, [.ref m_disk, .int (nI P), .int ((8224 : Int32) + ((26 : Int32) * (nI P))), .int (1 : Int32), .int 0, .int (-1 : Int32), .int 0, .int (0 : Int32), .ref m_tape, .int 0, .ref m_slots, .ref m_leaves, .int 0, .int (0 : Int32), .ref m_fresh, .int 0, .int 0, .int 0, .ref m_digestAt, .ref m_isGroup, .ref m_counts, .int 0, .int 0, .long 0, .int 0, .ref m_versionRow, .int 0, .long 0, .ref m_state, .ref m_names, .int 0, .ref m_keptRow, .int 0, .ref m_inSlot, .ref m_inAt, .ref m_inSize, .ref m_inDigest, .int 0])), (m_digestAt, .inl (d_digestAt, 128, .inr (.inl (fun _ => 0)))), (m_isGroup, .inl (d_isGroup, 128, .inl (fun _ => 0))), (m_counts, .inl (d_counts, 128, .inl (fun _ => 0)))]) hD hS hA [0, 1, 2, 3] rfl
      refine va_callv (va_runV (As := []) (rest := []) ⟨hx, hb, hml, hown, hts⟩ (k_X9_read_1 l dC dI mo m_digestAt m_isGroup m_counts m_disk P m_tape m_slots m_leaves m_fresh m_versionRow m_state m_names m_keptRow m_inSlot m_inAt m_inSize m_inDigest d_digestAt d_isGroup d_counts _) (cwV 0 hts gX9_out_X9_read rfl rfl rfl (by decide +kernel) ⟨Nat.le_of_ble_eq_true rfl, Nat.le_of_ble_eq_true rfl⟩) ⟨fun a U g mk q => by obtain ⟨q0, q1, qP, qK, qD⟩ := q; exact ⟨q0, q1, qP, va_K.moved (u := U) (U := U.calling g mk a) (Vm.Alike.refl U.vm) qK, qD⟩, va_recv hK hP (ci := 11) (q := (RX9, TX9, 38)) rfl (q0 := 0) rfl, fun U hU hW => ⟨rfl, by rw [hU], by rw [hU]; exact hPc, va_K.moved hW.alike hKc, hDc.weaken (fun _ _ _ _ => trivial)⟩⟩ rfl rfl hl.1 rfl (lv_room (Nat.le_of_ble_eq_true rfl)) dX9_out_26 ⟨Nat.le_of_ble_eq_true rfl, Nat.le_of_ble_eq_true rfl⟩) hS (fun q _ h => hFc q h) hFc (fun u t H1 locs ht hvm er_3 hB hz1 hk1 hS => ?_)
      obtain ⟨hP1, hK1, hD1⟩ := hB
      rw [ht] at hP1
      obtain ⟨hP, hD⟩ := va_join (wr := []) (w1 := [(mo, .inr (11, [.ref m_disk, .int (nI P), .int ((8224 : Int32) + ((26 : Int32) * (nI P))), .int (1 : Int32), .int 0, .int (-1 : Int32), .int 0, .int (0 : Int32), .ref m_tape, .int 0, .ref m_slots, .ref m_leaves, .int 0, .int 0, .ref m_fresh, .int 0, .int (0 : Int32), .int (0 : Int32), .ref m_digestAt, .ref m_isGroup, .ref m_counts, .int (-1 : Int32), .int (0 : Int32), .long (0 : Int64), .int (0 : Int32), .ref m_versionRow, .int (0 : Int32), .long (0 : Int64), .ref m_state, .ref m_names, .int 0, .ref m_keptRow, .int 0, .ref m_inSlot, .ref m_inAt, .ref m_inSize, .ref m_inDigest, .int 0])), (m_digestAt, .inl (d_digestAt, 128, .inr (.inl (zr_L 128)))), (m_isGroup, .inl (d_isGroup, 128, .inl (zr_Z 128))), (m_counts, .inl (d_counts, 128, .inl (zr_Z 128)))]) hP hD [0, 1, 2, 3] [] rfl rfl (by decide) (by decide) hk1 hFc hP1 hD1
      clear hPc hDc hFc hP1 hD1 hk1 hz1
      generalize H1 = H at hP hS ⊢
      have hP : va_P (dC, dI) vwCl [(mo, .inr (11, [.ref m_disk, .int (nI P), .int ((8224 : Int32) + ((26 : Int32) * (nI P))), .int (1 : Int32), .int 0, .int (-1 : Int32), .int 0, .int (0 : Int32), .ref m_tape, .int 0, .ref m_slots, .ref m_leaves, .int 0, .int 0, .ref m_fresh, .int 0, .int (0 : Int32), .int (0 : Int32), .ref m_digestAt, .ref m_isGroup, .ref m_counts, .int (-1 : Int32), .int (0 : Int32), .long (0 : Int64), .int (0 : Int32), .ref m_versionRow, .int (0 : Int32), .long (0 : Int64), .ref m_state, .ref m_names, .int 0, .ref m_keptRow, .int 0, .ref m_inSlot, .ref m_inAt, .ref m_inSize, .ref m_inDigest, .int 0])), (m_digestAt, .inl (d_digestAt, 128, .inr (.inl (zr_L 128)))), (m_isGroup, .inl (d_isGroup, 128, .inl (zr_Z 128))), (m_counts, .inl (d_counts, 128, .inl (zr_Z 128)))] H := hP
      have hD : va_D A [(mo, .inr (11, [.ref m_disk, .int (nI P), .int ((8224 : Int32) + ((26 : Int32) * (nI P))), .int (1 : Int32), .int 0, .int (-1 : Int32), .int 0, .int (0 : Int32), .ref m_tape, .int 0, .ref m_slots, .ref m_leaves, .int 0, .int 0, .ref m_fresh, .int 0, .int (0 : Int32), .int (0 : Int32), .ref m_digestAt, .ref m_isGroup, .ref m_counts, .int (-1 : Int32), .int (0 : Int32), .long (0 : Int64), .int (0 : Int32), .ref m_versionRow, .int (0 : Int32), .long (0 : Int64), .ref m_state, .ref m_names, .int 0, .ref m_keptRow, .int 0, .ref m_inSlot, .ref m_inAt, .ref m_inSize, .ref m_inDigest, .int 0])), (m_digestAt, .inl (d_digestAt, 128, .inr (.inl (zr_L 128)))), (m_isGroup, .inl (d_isGroup, 128, .inl (zr_Z 128))), (m_counts, .inl (d_counts, 128, .inl (zr_Z 128)))] := hD
      refine lv_aload_n hx hb dX9_out_29 rfl (lv_at hl 0 rfl) ?_
      refine lv_iload_n hx hb dX9_out_30 rfl (lv_at hl 1 rfl) ?_
      refine lv_if_eq (tgt := 42) hx hb dX9_out_31 (by decide) (fun c_4 => ?_) (fun c_4 => ?_)
      · skip
        refine lv_iconst (v := 2) hx hb dX9_out_42 (by decide) ?_
        refine lv_goto (tgt := 47) hx hb dX9_out_43 (by decide) ?_
        refine va_put (D := (dC, dI)) (ci := 11) (v := .int (2 : Int32)) (ty := .int) (C := RX9) (T := TX9) (N := 38) hx hb hts (by decide +kernel) tyX9 tyX9_ok nmX9 hown hK hP hD hS 0 rfl rfl 13 (by decide) (hts (.fieldLink RX9 91 "BlockLogModel" "thrown" "I") (by decide +kernel)) (fun _ h9 => h9) rfl (by decide +kernel) rfl rfl (Nat.le_of_ble_eq_true rfl) dX9_out_47 (fun H locs hP hD hS => ?_)
        have hP : va_P (dC, dI) vwCl [(mo, .inr (11, [.ref m_disk, .int (nI P), .int ((8224 : Int32) + ((26 : Int32) * (nI P))), .int (1 : Int32), .int 0, .int (-1 : Int32), .int 0, .int (0 : Int32), .ref m_tape, .int 0, .ref m_slots, .ref m_leaves, .int 0, .int (2 : Int32), .ref m_fresh, .int 0, .int (0 : Int32), .int (0 : Int32), .ref m_digestAt, .ref m_isGroup, .ref m_counts, .int (-1 : Int32), .int (0 : Int32), .long (0 : Int64), .int (0 : Int32), .ref m_versionRow, .int (0 : Int32), .long (0 : Int64), .ref m_state, .ref m_names, .int 0, .ref m_keptRow, .int 0, .ref m_inSlot, .ref m_inAt, .ref m_inSize, .ref m_inDigest, .int 0])), (m_digestAt, .inl (d_digestAt, 128, .inr (.inl (zr_L 128)))), (m_isGroup, .inl (d_isGroup, 128, .inl (zr_Z 128))), (m_counts, .inl (d_counts, 128, .inl (zr_Z 128)))] H := hP
        have hD : va_D A [(mo, .inr (11, [.ref m_disk, .int (nI P), .int ((8224 : Int32) + ((26 : Int32) * (nI P))), .int (1 : Int32), .int 0, .int (-1 : Int32), .int 0, .int (0 : Int32), .ref m_tape, .int 0, .ref m_slots, .ref m_leaves, .int 0, .int (2 : Int32), .ref m_fresh, .int 0, .int (0 : Int32), .int (0 : Int32), .ref m_digestAt, .ref m_isGroup, .ref m_counts, .int (-1 : Int32), .int (0 : Int32), .long (0 : Int64), .int (0 : Int32), .ref m_versionRow, .int (0 : Int32), .long (0 : Int64), .ref m_state, .ref m_names, .int 0, .ref m_keptRow, .int 0, .ref m_inSlot, .ref m_inAt, .ref m_inSize, .ref m_inDigest, .int 0])), (m_digestAt, .inl (d_digestAt, 128, .inr (.inl (zr_L 128)))), (m_isGroup, .inl (d_isGroup, 128, .inl (zr_Z 128))), (m_counts, .inl (d_counts, 128, .inl (zr_Z 128)))] := hD
        refine lv_aload_n hx hb dX9_out_50 rfl (lv_at hl 0 rfl) ?_
        refine va_get (D := (dC, dI)) (ci := 11) (v := .int (2 : Int32)) (C := RX9) (T := TX9) (N := 38) hx hb hts (by decide +kernel) hown hK hP 0 rfl rfl 13 (by decide) (hts (.fieldLink RX9 91 "BlockLogModel" "thrown" "I") (by decide +kernel)) (fun _ h9 => h9) rfl dX9_out_51 ?_
        refine lv_if_le (tgt := 59) hx hb dX9_out_54 (by decide) (fun c_5 => ?_) (fun c_5 => ?_)
        · skip
          exact absurd c_5 (by decide)
        · skip
          refine lv_iconst (v := 0) hx hb dX9_out_57 (by decide) ?_
          have hP := hP.sub (ws' := [(mo, .inr (11, [.ref m_disk, .int (nI P), .int ((8224 : Int32) + ((26 : Int32) * (nI P))), .int (1 : Int32), .int 0, .int (-1 : Int32), .int 0, .int (0 : Int32), .ref m_tape, .int 0, .ref m_slots, .ref m_leaves, .int 0, .int (2 : Int32), .ref m_fresh, .int 0, .int (0 : Int32), .int (0 : Int32), .ref m_digestAt, .ref m_isGroup, .ref m_counts, .int (-1 : Int32), .int (0 : Int32), .long (0 : Int64), .int (0 : Int32), .ref m_versionRow, .int (0 : Int32), .long (0 : Int64), .ref m_state, .ref m_names, .int 0, .ref m_keptRow, .int 0, .ref m_inSlot, .ref m_inAt, .ref m_inSize, .ref m_inDigest, .int 0]))]) [0] rfl
          have hD := hD.sub (ws' := [(mo, .inr (11, [.ref m_disk, .int (nI P), .int ((8224 : Int32) + ((26 : Int32) * (nI P))), .int (1 : Int32), .int 0, .int (-1 : Int32), .int 0, .int (0 : Int32), .ref m_tape, .int 0, .ref m_slots, .ref m_leaves, .int 0, .int (2 : Int32), .ref m_fresh, .int 0, .int (0 : Int32), .int (0 : Int32), .ref m_digestAt, .ref m_isGroup, .ref m_counts, .int (-1 : Int32), .int (0 : Int32), .long (0 : Int64), .int (0 : Int32), .ref m_versionRow, .int (0 : Int32), .long (0 : Int64), .ref m_state, .ref m_names, .int 0, .ref m_keptRow, .int 0, .ref m_inSlot, .ref m_inAt, .ref m_inSize, .ref m_inDigest, .int 0]))]) [0] (by decide) rfl
          have hK := hK.sub (tys' := [(d_digestAt, .long), (d_isGroup, .boolean), (d_counts, .boolean)]) [0, 1, 2] rfl
          exact W.iret hx hb hr (fun t ht hW => ⟨⟨_, (), rfl, rfl, by rw [ht]; exact hP, va_K.moved hW.alike hK, hD⟩, hS.F ht⟩) hS.2.2 dX9_out_58
      · skip
        exact absurd (by decide) c_4
    · skip
      exact absurd (by decide) c_2

set_option maxHeartbeats 4000000 in
set_option maxRecDepth 100000 in
theorem k_X8_out_2 (l : Launch) (hl0 : l.stackTraces = false) (dC : Nat → ClassId) (dI : Nat → Nat → Nat) (x : Nat) (p0 : Int32) (rr : Nat) (ds : Nat) (so : Nat) (tp : Nat) (pu : Nat) (sn : Nat) (im : Nat) (cs : Nat) (cl : Nat) (ri : Nat) (pg : Int32) (dl : Nat) (dr : Nat) (dt : Nat) (s1 : Nat) (s2 : Nat) (s3 : Nat) (s4 : Nat) (s5 : Nat) (s6 : Nat) (sz : Nat) (hf0 : 0 < p0) : vx_Met l yX8_out wsX8_out ({ frames := 6, cells := 1, slots := 6, locals := 90 }) (va_Pc [.ref x, .int p0] (fun U => U.heap.size = sz ∧ va_P (dC, dI) vwCl [(x, .inr (10, [.ref tp, .ref ds, .ref rr, .ref so, .ref pu, .ref sn, .ref im, .ref cs, .ref cl, .int (0 : Int32)])), (rr, .inr (6, [.ref ds, .ref ri, .int 0, .int 1, .int 0, .int 0])), (ds, .inr (3, [.int pg, .ref dl, .ref dr, .ref dt, .int (1 : Int32), .int (-1 : Int32), .int (0 : Int32)])), (so, .inr (8, [.ref rr, .ref s1, .ref s2, .ref s3, .ref s4, .ref s5, .ref s6, .int (0 : Int32), .int (0 : Int32), .int (-1 : Int32), .int (0 : Int32), .int (0 : Int32)]))] U.heap ∧ va_K (dC, dI) vwCl [] U ∧ va_D (fun _ => True) [(x, .inr (10, [.ref tp, .ref ds, .ref rr, .ref so, .ref pu, .ref sn, .ref im, .ref cs, .ref cl, .int (0 : Int32)])), (rr, .inr (6, [.ref ds, .ref ri, .int 0, .int 1, .int 0, .int 0])), (ds, .inr (3, [.int pg, .ref dl, .ref dr, .ref dt, .int (1 : Int32), .int (-1 : Int32), .int (0 : Int32)])), (so, .inr (8, [.ref rr, .ref s1, .ref s2, .ref s3, .ref s4, .ref s5, .ref s6, .int (0 : Int32), .int (0 : Int32), .int (-1 : Int32), .int (0 : Int32), .int (0 : Int32)]))] ∧ gx_E (va_A [(x, .inr (10, [.ref tp, .ref ds, .ref rr, .ref so, .ref pu, .ref sn, .ref im, .ref cs, .ref cl, .int (0 : Int32)])), (rr, .inr (6, [.ref ds, .ref ri, .int 0, .int 1, .int 0, .int 0])), (ds, .inr (3, [.int pg, .ref dl, .ref dr, .ref dt, .int (1 : Int32), .int (-1 : Int32), .int (0 : Int32)])), (so, .inr (8, [.ref rr, .ref s1, .ref s2, .ref s3, .ref s4, .ref s5, .ref s6, .int (0 : Int32), .int (0 : Int32), .int (-1 : Int32), .int (0 : Int32), .int (0 : Int32)]))] sz) U)) (va_Qi (fun (_ : Int32) (_ : Unit) => False) (fun _ _ => True) (va_A [(x, .inr (10, [.ref tp, .ref ds, .ref rr, .ref so, .ref pu, .ref sn, .ref im, .ref cs, .ref cl, .int (0 : Int32)])), (rr, .inr (6, [.ref ds, .ref ri, .int 0, .int 1, .int 0, .int 0])), (ds, .inr (3, [.int pg, .ref dl, .ref dr, .ref dt, .int (1 : Int32), .int (-1 : Int32), .int (0 : Int32)])), (so, .inr (8, [.ref rr, .ref s1, .ref s2, .ref s3, .ref s4, .ref s5, .ref s6, .int (0 : Int32), .int (0 : Int32), .int (-1 : Int32), .int (0 : Int32), .int (0 : Int32)]))] sz)) (vx_X (fun _ : Unit => True) (fun E _ _ => E = "java/lang/IllegalArgumentException") (va_A [(x, .inr (10, [.ref tp, .ref ds, .ref rr, .ref so, .ref pu, .ref sn, .ref im, .ref cs, .ref cl, .int (0 : Int32)])), (rr, .inr (6, [.ref ds, .ref ri, .int 0, .int 1, .int 0, .int 0])), (ds, .inr (3, [.int pg, .ref dl, .ref dr, .ref dt, .int (1 : Int32), .int (-1 : Int32), .int (0 : Int32)])), (so, .inr (8, [.ref rr, .ref s1, .ref s2, .ref s3, .ref s4, .ref s5, .ref s6, .int (0 : Int32), .int (0 : Int32), .int (-1 : Int32), .int (0 : Int32), .int (0 : Int32)]))] sz)) 1 6 (va_A [(x, .inr (10, [.ref tp, .ref ds, .ref rr, .ref so, .ref pu, .ref sn, .ref im, .ref cs, .ref cl, .int (0 : Int32)])), (rr, .inr (6, [.ref ds, .ref ri, .int 0, .int 1, .int 0, .int 0])), (ds, .inr (3, [.int pg, .ref dl, .ref dr, .ref dt, .int (1 : Int32), .int (-1 : Int32), .int (0 : Int32)])), (so, .inr (8, [.ref rr, .ref s1, .ref s2, .ref s3, .ref s4, .ref s5, .ref s6, .int (0 : Int32), .int (0 : Int32), .int (-1 : Int32), .int (0 : Int32), .int (0 : Int32)]))] sz) := by
  refine vx_ofW (cc := cX8_out) (maxL := 3) (ret := (some .int)) (by decide) rfl ?_
  intro p e s m args below meth c s₁ B hml hno hv
  obtain ⟨rfl, hsz, hP, hK, hD0, hG⟩ := hv
  have hx := B.exec
  have hb := B.bytes
  have hr := B.returns
  have hts := atoms_spec (ws := wsX8_out) B.pre
  have hown : s.vm.findClass RX8 = some m.cls := findClass_of_methodNamed B.named
  have hlocks := B.notSynchronized
  subst hsz
  have hD := hD0.self (sz := s.heap.size)
  generalize hAe : va_A [(x, .inr (10, [.ref tp, .ref ds, .ref rr, .ref so, .ref pu, .ref sn, .ref im, .ref cs, .ref cl, .int (0 : Int32)])), (rr, .inr (6, [.ref ds, .ref ri, .int 0, .int 1, .int 0, .int 0])), (ds, .inr (3, [.int pg, .ref dl, .ref dr, .ref dt, .int (1 : Int32), .int (-1 : Int32), .int (0 : Int32)])), (so, .inr (8, [.ref rr, .ref s1, .ref s2, .ref s3, .ref s4, .ref s5, .ref s6, .int (0 : Int32), .int (0 : Int32), .int (-1 : Int32), .int (0 : Int32), .int (0 : Int32)]))] s.heap.size = A at hD hG ⊢
  have hA : ∀ q : Nat, s.heap.size ≤ q → A q := fun q h => by rw [← hAe]; exact Or.inr h
  have hS : va_S A s.heap s.heap [] := va_S.rf
  have hl := lv_entry ([.ref x, .int p0]) (n := 3) (Nat.le_of_ble_eq_true rfl)
  rw [lg_entry_eq]
  generalize (lg_sl ([.ref x, .int p0]) ++ List.replicate (3 - (lg_sl ([.ref x, .int p0])).length) Slot.unset).toArray = ls at hl ⊢
  have hl : lv_has ls 3 [(0, .ref x), (1, .int p0)] := hl
  refine lv_aload_n hx hb dX8_out_0 rfl (lv_at hl 0 rfl) ?_
  have hPc := hP.sub (ws' := [(x, .inr (10, [.ref tp, .ref ds, .ref rr, .ref so, .ref pu, .ref sn, .ref im, .ref cs, .ref cl, .int (0 : Int32)])), (ds, .inr (3, [.int pg, .ref dl, .ref dr, .ref dt, .int (1 : Int32), .int (-1 : Int32), .int (0 : Int32)]))]) [0, 2] rfl
  have hKc := hK.sub (tys' := []) [] rfl
  refine va_csv (va_Run.run (va_runV (As := []) (rest := []) ⟨hx, hb, hml, hown, hts⟩ (k_X8_demandPower_1 l dC dI x ds tp rr so pu sn im cs cl pg dl dr dt) (cwV 0 hts gX8_out_X8_demandPower rfl rfl rfl (by decide +kernel) ⟨Nat.le_of_ble_eq_true rfl, Nat.le_of_ble_eq_true rfl⟩) ⟨fun a U g mk q => by obtain ⟨q0, qP, qK, qG⟩ := q; exact ⟨q0, qP, va_K.moved (u := U) (U := U.calling g mk a) (Vm.Alike.refl U.vm) qK, qG.same rfl⟩, va_recv hK hP (ci := 10) (q := (RX8, TX8, 10)) rfl (q0 := 0) rfl, fun U hU hW => ⟨rfl, by rw [hU]; exact hPc, va_K.moved hW.alike hKc, hG.1.warm hW⟩⟩ rfl rfl hl.1 rfl (lv_room (Nat.le_of_ble_eq_true rfl)) dX8_out_1 ⟨Nat.le_of_ble_eq_true rfl, Nat.le_of_ble_eq_true rfl⟩)) (fun _ => ?_)
  refine lv_iload_n hx hb dX8_out_4 rfl (lv_at hl 1 rfl) ?_
  refine lv_if_eq (tgt := 19) hx hb dX8_out_5 (by decide) (fun c_2 => ?_) (fun c_2 => ?_)
  · skip
    exact absurd c_2 (Ne.symm (Int32.ne_of_lt hf0))
  · skip
    refine lv_aload_n hx hb dX8_out_8 rfl (lv_at hl 0 rfl) ?_
    refine va_get (D := (dC, dI)) (ci := 10) (v := .ref so) (C := RX8) (T := TX8) (N := 10) hx hb hts (by decide +kernel) hown hK hP 0 rfl rfl 3 (by decide) (hts (.fieldLink RX8 40 "BlockLog" "story" "LBlockLog$Story;") (by decide +kernel)) (fun _ h9 => h9) rfl dX8_out_9 ?_
    refine lv_iload_n hx hb dX8_out_12 rfl (lv_at hl 1 rfl) ?_
    have hPc := hP.sub (ws' := [(rr, .inr (6, [.ref ds, .ref ri, .int 0, .int 1, .int 0, .int 0])), (so, .inr (8, [.ref rr, .ref s1, .ref s2, .ref s3, .ref s4, .ref s5, .ref s6, .int (0 : Int32), .int (0 : Int32), .int (-1 : Int32), .int (0 : Int32), .int (0 : Int32)]))]) [1, 3] rfl
    have hKc := hK.sub (tys' := []) [] rfl
    refine vp_callSi (va_Run.run (va_runV (As := [.int p0]) (rest := []) ⟨hx, hb, hml, hown, hts⟩ (k_X6_isKept_2 l dC dI so p0 rr ds ri s1 s2 s3 s4 s5 s6 hf0) (cwV 1 hts gX8_out_X6_isKept rfl rfl rfl (by decide +kernel) ⟨Nat.le_of_ble_eq_true rfl, Nat.le_of_ble_eq_true rfl⟩) ⟨fun a U g mk q => by obtain ⟨q0, qP, qK⟩ := q; exact ⟨q0, qP, va_K.moved (u := U) (U := U.calling g mk a) (Vm.Alike.refl U.vm) qK⟩, va_recv hK hP (ci := 8) (q := (RX6, TX6, 12)) rfl (q0 := 3) rfl, fun U hU hW => ⟨rfl, by rw [hU]; exact hPc, va_K.moved hW.alike hKc⟩⟩ rfl rfl hl.1 rfl (lv_room (Nat.le_of_ble_eq_true rfl)) dX8_out_13 ⟨Nat.le_of_ble_eq_true rfl, Nat.le_of_ble_eq_true rfl⟩)) (fun r_3 er_3 => ?_)
    subst er_3
    refine lv_if_ne (tgt := 30) hx hb dX8_out_16 (by decide) (fun c_4 => ?_) (fun c_4 => ?_)
    · skip
      exact absurd (by decide) c_4
    · skip
      obtain ⟨sa, hstr⟩ := hG.1.2.1 ("BlockLog", 261, "the version is not kept, or 0") (by decide +kernel)
      exact vx_throwSW (names := ["java/lang/RuntimeException", "java/lang/Exception"]) hx hb hl0 hown (by decide +kernel) (by decide +kernel) (hts (.classLink RX8 76 "java/lang/IllegalArgumentException") (by decide +kernel)) (hts (.initialized "java/lang/IllegalArgumentException") (by decide +kernel)) hstr (vx_hat (B := gx_bad "java/lang/IllegalArgumentException") (fun w h => hts w (List.mem_cons_of_mem _ (List.mem_append_left _ (List.mem_append_right _ h)))) (by decide +kernel) (hG.1.bad (by decide))) (by decide +kernel) hG.2.1 hG.2.2.1 hS (hl.1.trans hml.symm) dX8_out_19 dX8_out_22 dX8_out_23 dX8_out_26 dX8_out_29 (fun x h => (hno x h).elim) (Nat.le_of_ble_eq_true rfl) (Nat.le_of_ble_eq_true rfl) (Nat.le_of_ble_eq_true rfl) (Nat.le_of_ble_eq_true rfl) hlocks (fun t _ h1 h2 => ⟨(), trivial, rfl, Nat.le_trans hS.1 h1, fun q hq hn => (h2 q (Nat.lt_of_lt_of_le hq hS.1)).trans (hS.2.1 q hq hn)⟩) hS.2.2 (Nat.le_refl _) (Nat.le_refl _)

set_option maxHeartbeats 4000000 in
set_option maxRecDepth 100000 in
theorem k_L_out_2 (l : Launch) (hl0 : l.stackTraces = false) (dC : Nat → ClassId) (dI : Nat → Nat → Nat) (x : Nat) (p0 : Int32) (ho : Nat) (rr : Nat) (ds : Nat) (so : Nat) (tp : Nat) (pu : Nat) (sn : Nat) (im : Nat) (cs : Nat) (cl : Nat) (ri : Nat) (pg : Int32) (dl : Nat) (dr : Nat) (dt : Nat) (s1 : Nat) (s2 : Nat) (s3 : Nat) (s4 : Nat) (s5 : Nat) (s6 : Nat) (sz : Nat) (hf0 : 0 < p0) : Met l yL_out wsL_out ({ frames := 7, cells := 1, slots := 6, locals := 112 }) (va_Pc [.ref x, .int p0, .ref ho] (fun U => U.heap.size = sz ∧ va_P (dC, dI) vwCl [(x, .inr (10, [.ref tp, .ref ds, .ref rr, .ref so, .ref pu, .ref sn, .ref im, .ref cs, .ref cl, .int (0 : Int32)])), (rr, .inr (6, [.ref ds, .ref ri, .int 0, .int 1, .int 0, .int 0])), (ds, .inr (3, [.int pg, .ref dl, .ref dr, .ref dt, .int (1 : Int32), .int (-1 : Int32), .int (0 : Int32)])), (so, .inr (8, [.ref rr, .ref s1, .ref s2, .ref s3, .ref s4, .ref s5, .ref s6, .int (0 : Int32), .int (0 : Int32), .int (-1 : Int32), .int (0 : Int32), .int (0 : Int32)]))] U.heap ∧ va_K (dC, dI) vwCl [] U ∧ va_D (fun _ => True) [(x, .inr (10, [.ref tp, .ref ds, .ref rr, .ref so, .ref pu, .ref sn, .ref im, .ref cs, .ref cl, .int (0 : Int32)])), (rr, .inr (6, [.ref ds, .ref ri, .int 0, .int 1, .int 0, .int 0])), (ds, .inr (3, [.int pg, .ref dl, .ref dr, .ref dt, .int (1 : Int32), .int (-1 : Int32), .int (0 : Int32)])), (so, .inr (8, [.ref rr, .ref s1, .ref s2, .ref s3, .ref s4, .ref s5, .ref s6, .int (0 : Int32), .int (0 : Int32), .int (-1 : Int32), .int (0 : Int32), .int (0 : Int32)]))] ∧ gx_E (va_A [(x, .inr (10, [.ref tp, .ref ds, .ref rr, .ref so, .ref pu, .ref sn, .ref im, .ref cs, .ref cl, .int (0 : Int32)])), (rr, .inr (6, [.ref ds, .ref ri, .int 0, .int 1, .int 0, .int 0])), (ds, .inr (3, [.int pg, .ref dl, .ref dr, .ref dt, .int (1 : Int32), .int (-1 : Int32), .int (0 : Int32)])), (so, .inr (8, [.ref rr, .ref s1, .ref s2, .ref s3, .ref s4, .ref s5, .ref s6, .int (0 : Int32), .int (0 : Int32), .int (-1 : Int32), .int (0 : Int32), .int (0 : Int32)]))] sz) U)) (va_Qi (fun r (_ : Unit) => r = (2 : Int32)) (fun (_ : Unit) t => va_P (dC, dI) vwCl [] t.heap ∧ va_K (dC, dI) vwCl [] t ∧ va_D (va_A [(x, .inr (10, [.ref tp, .ref ds, .ref rr, .ref so, .ref pu, .ref sn, .ref im, .ref cs, .ref cl, .int (0 : Int32)])), (rr, .inr (6, [.ref ds, .ref ri, .int 0, .int 1, .int 0, .int 0])), (ds, .inr (3, [.int pg, .ref dl, .ref dr, .ref dt, .int (1 : Int32), .int (-1 : Int32), .int (0 : Int32)])), (so, .inr (8, [.ref rr, .ref s1, .ref s2, .ref s3, .ref s4, .ref s5, .ref s6, .int (0 : Int32), .int (0 : Int32), .int (-1 : Int32), .int (0 : Int32), .int (0 : Int32)]))] sz) []) (va_A [(x, .inr (10, [.ref tp, .ref ds, .ref rr, .ref so, .ref pu, .ref sn, .ref im, .ref cs, .ref cl, .int (0 : Int32)])), (rr, .inr (6, [.ref ds, .ref ri, .int 0, .int 1, .int 0, .int 0])), (ds, .inr (3, [.int pg, .ref dl, .ref dr, .ref dt, .int (1 : Int32), .int (-1 : Int32), .int (0 : Int32)])), (so, .inr (8, [.ref rr, .ref s1, .ref s2, .ref s3, .ref s4, .ref s5, .ref s6, .int (0 : Int32), .int (0 : Int32), .int (-1 : Int32), .int (0 : Int32), .int (0 : Int32)]))] sz)) 1 6 (va_A [(x, .inr (10, [.ref tp, .ref ds, .ref rr, .ref so, .ref pu, .ref sn, .ref im, .ref cs, .ref cl, .int (0 : Int32)])), (rr, .inr (6, [.ref ds, .ref ri, .int 0, .int 1, .int 0, .int 0])), (ds, .inr (3, [.int pg, .ref dl, .ref dr, .ref dt, .int (1 : Int32), .int (-1 : Int32), .int (0 : Int32)])), (so, .inr (8, [.ref rr, .ref s1, .ref s2, .ref s3, .ref s4, .ref s5, .ref s6, .int (0 : Int32), .int (0 : Int32), .int (-1 : Int32), .int (0 : Int32), .int (0 : Int32)]))] sz) := by
  refine va_MetW (cc := cL_out) (maxL := 4) (ret := (some .int)) (hh := [(0, 9, 12, 25), (0, 9, 15, 13)]) (by decide) rfl ?_
  intro p e s m args below meth c s₁ B hml hv
  obtain ⟨rfl, hsz, hP, hK, hD0, hG⟩ := hv
  have hx := B.exec
  have hb := B.bytes
  have hr := B.returns
  have hts := atoms_spec (ws := wsL_out) B.pre
  have hown : s.vm.findClass RL = some m.cls := findClass_of_methodNamed B.named
  have hlocks := B.notSynchronized
  have htab := vx_table (x := yL_out) B (hts (.codeWith yL_out cL_out 4 (some .int) [(0, 9, 12, 25), (0, 9, 15, 13)]) List.mem_cons_self)
  subst hsz
  have hD := hD0.self (sz := s.heap.size)
  generalize hAe : va_A [(x, .inr (10, [.ref tp, .ref ds, .ref rr, .ref so, .ref pu, .ref sn, .ref im, .ref cs, .ref cl, .int (0 : Int32)])), (rr, .inr (6, [.ref ds, .ref ri, .int 0, .int 1, .int 0, .int 0])), (ds, .inr (3, [.int pg, .ref dl, .ref dr, .ref dt, .int (1 : Int32), .int (-1 : Int32), .int (0 : Int32)])), (so, .inr (8, [.ref rr, .ref s1, .ref s2, .ref s3, .ref s4, .ref s5, .ref s6, .int (0 : Int32), .int (0 : Int32), .int (-1 : Int32), .int (0 : Int32), .int (0 : Int32)]))] s.heap.size = A at hD hG ⊢
  have hA : ∀ q : Nat, s.heap.size ≤ q → A q := fun q h => by rw [← hAe]; exact Or.inr h
  have hS : va_S A s.heap s.heap [] := va_S.rf
  have hl := lv_entry ([.ref x, .int p0, .ref ho]) (n := 4) (Nat.le_of_ble_eq_true rfl)
  rw [lg_entry_eq]
  generalize (lg_sl ([.ref x, .int p0, .ref ho]) ++ List.replicate (4 - (lg_sl ([.ref x, .int p0, .ref ho])).length) Slot.unset).toArray = ls at hl ⊢
  have hl : lv_has ls 4 [(0, .ref x), (1, .int p0), (2, .ref ho)] := hl
  refine lv_aload_n hx hb dL_out_0 rfl (lv_at hl 2 rfl) ?_
  refine lv_iconst (v := 0) hx hb dL_out_1 (by decide) ?_
  refine lv_aload_n hx hb dL_out_2 rfl (lv_at hl 0 rfl) ?_
  refine lv_iload_n hx hb dL_out_3 rfl (lv_at hl 1 rfl) ?_
  have hPc := hP.sub (ws' := [(x, .inr (10, [.ref tp, .ref ds, .ref rr, .ref so, .ref pu, .ref sn, .ref im, .ref cs, .ref cl, .int (0 : Int32)])), (rr, .inr (6, [.ref ds, .ref ri, .int 0, .int 1, .int 0, .int 0])), (ds, .inr (3, [.int pg, .ref dl, .ref dr, .ref dt, .int (1 : Int32), .int (-1 : Int32), .int (0 : Int32)])), (so, .inr (8, [.ref rr, .ref s1, .ref s2, .ref s3, .ref s4, .ref s5, .ref s6, .int (0 : Int32), .int (0 : Int32), .int (-1 : Int32), .int (0 : Int32), .int (0 : Int32)]))]) [0, 1, 2, 3] rfl
  have hKc := hK.sub (tys' := []) [] rfl
  have hDc := hD.sub (ws' := [(x, .inr (10, [.ref tp, .ref ds, .ref rr, .ref so, .ref pu, .ref sn, .ref im, .ref cs, .ref cl, .int (0 : Int32)])), (rr, .inr (6, [.ref ds, .ref ri, .int 0, .int 1, .int 0, .int 0])), (ds, .inr (3, [.int pg, .ref dl, .ref dr, .ref dt, .int (1 : Int32), .int (-1 : Int32), .int (0 : Int32)])), (so, .inr (8, [.ref rr, .ref s1, .ref s2, .ref s3, .ref s4, .ref s5, .ref s6, .int (0 : Int32), .int (0 : Int32), .int (-1 : Int32), .int (0 : Int32), .int (0 : Int32)]))]) [0, 1, 2, 3] (by decide) rfl
  have hFc := va_free (wc := [(x, .inr (10, [.ref tp, .ref ds, .ref rr, .ref so, .ref pu, .ref sn, .ref im, .ref cs, .ref cl, .int (0 : Int32)])), (rr, .inr (6, [.ref ds, .ref ri, .int 0, .int 1, .int 0, .int 0])), (ds, .inr (3, [.int pg, .ref dl, .ref dr, .ref dt, .int (1 : Int32), .int (-1 : Int32), .int (0 : Int32)])), (so, .inr (8, [.ref rr, .ref s1, .ref s2, .ref s3, .ref s4, .ref s5, .ref s6, .int (0 : Int32), .int (0 : Int32), .int (-1 : Int32), .int (0 : Int32), .int (0 : Int32)]))]) hD hS hA [0, 1, 2, 3] rfl
  refine vx_calli (vx_runV (As := [.int p0]) (rest := [.int (0 : Int32), .ref ho]) ⟨hx, hb, hml, hown, hts⟩ (k_X8_out_2 l hl0 dC dI x p0 rr ds so tp pu sn im cs cl ri pg dl dr dt s1 s2 s3 s4 s5 s6 _ hf0) (cwV 1 hts gL_out_X8_out rfl rfl rfl (by decide +kernel) ⟨Nat.le_of_ble_eq_true rfl, Nat.le_of_ble_eq_true rfl⟩) ⟨fun a U g mk q => by obtain ⟨q0, q1, qP, qK, qD, qG⟩ := q; exact ⟨q0, q1, qP, va_K.moved (u := U) (U := U.calling g mk a) (Vm.Alike.refl U.vm) qK, qD, qG.same rfl rfl⟩, va_recv hK hP (ci := 10) (q := (RX8, TX8, 10)) rfl (q0 := 0) rfl, fun U hU hW => ⟨rfl, by rw [hU], by rw [hU]; exact hPc, va_K.moved hW.alike hKc, hDc.weaken (fun _ _ _ _ => trivial), hG.go hW hU hS hFc⟩⟩ rfl rfl hl.1 rfl (lv_room (Nat.le_of_ble_eq_true rfl)) dL_out_4 ⟨Nat.le_of_ble_eq_true rfl, Nat.le_of_ble_eq_true rfl⟩) hS (fun q _ h => hFc q h) hFc (fun q _ h => hFc q h) (fun E9 ce q9 u t H1 locs1 ht hvm hp hE hz hk hS hcell hv hcl => ?_) (fun r u t H1 locs1 ht hvm hp hB hz hk hS => hp.elim)
  subst hE
  refine vx_catch (name := "java/lang/IllegalArgumentException") hown [⟨0, 9, 12, 25⟩] ⟨0, 9, 15, 13⟩ [] htab (fun z h => by simp only [List.mem_cons, List.not_mem_nil, or_false] at h; rcases h with rfl <;> first | exact Or.inr ⟨by decide, "java/lang/IllegalStateException", (hts (.classLink RL 25 "java/lang/IllegalStateException") (by decide +kernel)), hG.1.2.2.2.1 _ (by decide) _ (by decide) (by decide)⟩) (by decide) (by decide) (va_Nw.use rfl (hG.1.2.2.2.2.2.2 (13, "java/lang/IllegalArgumentException") (by decide +kernel))) (va_Nw.use rfl (hG.1.2.2.1 _ (by decide))) hcell hv hcl ?_
  refine W.eq (g2 := F0 m 15 ls [.ref q9]) rfl ?_
  have hP : va_P (dC, dI) vwCl [] H1 := fun k q h => by simp at h
  have hD : va_D A [] := ⟨fun i j p q h => by simp at h, fun k q h => by simp at h⟩
  generalize H1 = H at hP hS ⊢
  refine lv_astore_n (lv' := [(3, .ref q9), (0, .ref x), (1, .int p0), (2, .ref ho)]) hx hb dL_out_15 rfl hl (by decide) rfl (fun ls hl => ?_)
  refine lv_iconst (v := 2) hx hb dL_out_16 (by decide) ?_
  have hP := hP.sub (ws' := []) [] rfl
  have hD := hD.sub (ws' := []) [] (by decide) rfl
  have hK := hK.sub (tys' := []) [] rfl
  exact W.iret hx hb hr (fun t ht hW => ⟨⟨_, (), rfl, rfl, by rw [ht]; exact hP, va_K.moved hW.alike hK, hD⟩, hS.F ht⟩) hS.2.2 dL_out_17

set_option maxHeartbeats 4000000 in
set_option maxRecDepth 100000 in
theorem k_X9_out_2 (l : Launch) (dC : Nat → ClassId) (dI : Nat → Nat → Nat) (mo : Nat) (p0 : Int32) (m_digestAt : Nat) (m_isGroup : Nat) (m_counts : Nat) (m_disk : Nat) (P : Nat) (m_tape : Nat) (m_slots : Nat) (m_leaves : Nat) (m_fresh : Nat) (m_versionRow : Nat) (m_state : Nat) (m_names : Nat) (m_keptRow : Nat) (m_inSlot : Nat) (m_inAt : Nat) (m_inSize : Nat) (m_inDigest : Nat) (d_digestAt : ClassId) (d_isGroup : ClassId) (d_counts : ClassId) (sz : Nat) (hf0 : 0 < p0) : Met l yX9_out wsX9_out ({ frames := 3, cells := 0, slots := 0, locals := 65 }) (va_Pc [.ref mo, .int p0] (fun U => U.heap.size = sz ∧ va_P (dC, dI) vwCl [(mo, .inr (11, [.ref m_disk, .int (nI P), .int ((8224 : Int32) + ((26 : Int32) * (nI P))), .int (1 : Int32), .int 0, .int (-1 : Int32), .int 0, .int (0 : Int32), .ref m_tape, .int 0, .ref m_slots, .ref m_leaves, .int 0, .int 0, .ref m_fresh, .int 0, .int 0, .int 0, .ref m_digestAt, .ref m_isGroup, .ref m_counts, .int 0, .int 0, .long 0, .int 0, .ref m_versionRow, .int 0, .long 0, .ref m_state, .ref m_names, .int 0, .ref m_keptRow, .int 0, .ref m_inSlot, .ref m_inAt, .ref m_inSize, .ref m_inDigest, .int 0])), (m_digestAt, .inl (d_digestAt, 128, .inr (.inl (fun _ => 0)))), (m_isGroup, .inl (d_isGroup, 128, .inl (fun _ => 0))), (m_counts, .inl (d_counts, 128, .inl (fun _ => 0)))] U.heap ∧ va_K (dC, dI) vwCl [(d_digestAt, .long), (d_isGroup, .boolean), (d_counts, .boolean)] U ∧ va_D (fun _ => True) [(mo, .inr (11, [.ref m_disk, .int (nI P), .int ((8224 : Int32) + ((26 : Int32) * (nI P))), .int (1 : Int32), .int 0, .int (-1 : Int32), .int 0, .int (0 : Int32), .ref m_tape, .int 0, .ref m_slots, .ref m_leaves, .int 0, .int 0, .ref m_fresh, .int 0, .int 0, .int 0, .ref m_digestAt, .ref m_isGroup, .ref m_counts, .int 0, .int 0, .long 0, .int 0, .ref m_versionRow, .int 0, .long 0, .ref m_state, .ref m_names, .int 0, .ref m_keptRow, .int 0, .ref m_inSlot, .ref m_inAt, .ref m_inSize, .ref m_inDigest, .int 0])), (m_digestAt, .inl (d_digestAt, 128, .inr (.inl (fun _ => 0)))), (m_isGroup, .inl (d_isGroup, 128, .inl (fun _ => 0))), (m_counts, .inl (d_counts, 128, .inl (fun _ => 0)))])) (va_Qi (fun r (_ : Unit) => r = (0 : Int32)) (fun (_ : Unit) t => va_P (dC, dI) vwCl [(mo, .inr (11, [.ref m_disk, .int (nI P), .int ((8224 : Int32) + ((26 : Int32) * (nI P))), .int (1 : Int32), .int 0, .int (-1 : Int32), .int 0, .int (0 : Int32), .ref m_tape, .int 0, .ref m_slots, .ref m_leaves, .int 0, .int (2 : Int32), .ref m_fresh, .int 0, .int (0 : Int32), .int (0 : Int32), .ref m_digestAt, .ref m_isGroup, .ref m_counts, .int (-1 : Int32), .int (0 : Int32), .long (0 : Int64), .int (0 : Int32), .ref m_versionRow, .int (0 : Int32), .long (0 : Int64), .ref m_state, .ref m_names, .int 0, .ref m_keptRow, .int 0, .ref m_inSlot, .ref m_inAt, .ref m_inSize, .ref m_inDigest, .int 0]))] t.heap ∧ va_K (dC, dI) vwCl [(d_digestAt, .long), (d_isGroup, .boolean), (d_counts, .boolean)] t ∧ va_D (va_A [(mo, .inr (11, [.ref m_disk, .int (nI P), .int ((8224 : Int32) + ((26 : Int32) * (nI P))), .int (1 : Int32), .int 0, .int (-1 : Int32), .int 0, .int (0 : Int32), .ref m_tape, .int 0, .ref m_slots, .ref m_leaves, .int 0, .int 0, .ref m_fresh, .int 0, .int 0, .int 0, .ref m_digestAt, .ref m_isGroup, .ref m_counts, .int 0, .int 0, .long 0, .int 0, .ref m_versionRow, .int 0, .long 0, .ref m_state, .ref m_names, .int 0, .ref m_keptRow, .int 0, .ref m_inSlot, .ref m_inAt, .ref m_inSize, .ref m_inDigest, .int 0])), (m_digestAt, .inl (d_digestAt, 128, .inr (.inl (fun _ => 0)))), (m_isGroup, .inl (d_isGroup, 128, .inl (fun _ => 0))), (m_counts, .inl (d_counts, 128, .inl (fun _ => 0)))] sz) [(mo, .inr (11, [.ref m_disk, .int (nI P), .int ((8224 : Int32) + ((26 : Int32) * (nI P))), .int (1 : Int32), .int 0, .int (-1 : Int32), .int 0, .int (0 : Int32), .ref m_tape, .int 0, .ref m_slots, .ref m_leaves, .int 0, .int (2 : Int32), .ref m_fresh, .int 0, .int (0 : Int32), .int (0 : Int32), .ref m_digestAt, .ref m_isGroup, .ref m_counts, .int (-1 : Int32), .int (0 : Int32), .long (0 : Int64), .int (0 : Int32), .ref m_versionRow, .int (0 : Int32), .long (0 : Int64), .ref m_state, .ref m_names, .int 0, .ref m_keptRow, .int 0, .ref m_inSlot, .ref m_inAt, .ref m_inSize, .ref m_inDigest, .int 0]))]) (va_A [(mo, .inr (11, [.ref m_disk, .int (nI P), .int ((8224 : Int32) + ((26 : Int32) * (nI P))), .int (1 : Int32), .int 0, .int (-1 : Int32), .int 0, .int (0 : Int32), .ref m_tape, .int 0, .ref m_slots, .ref m_leaves, .int 0, .int 0, .ref m_fresh, .int 0, .int 0, .int 0, .ref m_digestAt, .ref m_isGroup, .ref m_counts, .int 0, .int 0, .long 0, .int 0, .ref m_versionRow, .int 0, .long 0, .ref m_state, .ref m_names, .int 0, .ref m_keptRow, .int 0, .ref m_inSlot, .ref m_inAt, .ref m_inSize, .ref m_inDigest, .int 0])), (m_digestAt, .inl (d_digestAt, 128, .inr (.inl (fun _ => 0)))), (m_isGroup, .inl (d_isGroup, 128, .inl (fun _ => 0))), (m_counts, .inl (d_counts, 128, .inl (fun _ => 0)))] sz)) 0 0 (va_A [(mo, .inr (11, [.ref m_disk, .int (nI P), .int ((8224 : Int32) + ((26 : Int32) * (nI P))), .int (1 : Int32), .int 0, .int (-1 : Int32), .int 0, .int (0 : Int32), .ref m_tape, .int 0, .ref m_slots, .ref m_leaves, .int 0, .int 0, .ref m_fresh, .int 0, .int 0, .int 0, .ref m_digestAt, .ref m_isGroup, .ref m_counts, .int 0, .int 0, .long 0, .int 0, .ref m_versionRow, .int 0, .long 0, .ref m_state, .ref m_names, .int 0, .ref m_keptRow, .int 0, .ref m_inSlot, .ref m_inAt, .ref m_inSize, .ref m_inDigest, .int 0])), (m_digestAt, .inl (d_digestAt, 128, .inr (.inl (fun _ => 0)))), (m_isGroup, .inl (d_isGroup, 128, .inl (fun _ => 0))), (m_counts, .inl (d_counts, 128, .inl (fun _ => 0)))] sz) := by
  refine Met.ofW (cc := cX9_out) (maxL := 6) (ret := (some .int)) (by decide) rfl ?_
  intro p e s m args below meth c s₁ B hml hv
  obtain ⟨rfl, hsz, hP, hK, hD0⟩ := hv
  have hx := B.exec
  have hb := B.bytes
  have hr := B.returns
  have hts := atoms_spec (ws := wsX9_out) B.pre
  have hown : s.vm.findClass RX9 = some m.cls := findClass_of_methodNamed B.named
  have hlocks := B.notSynchronized
  subst hsz
  have hD := hD0.self (sz := s.heap.size)
  generalize hAe : va_A [(mo, .inr (11, [.ref m_disk, .int (nI P), .int ((8224 : Int32) + ((26 : Int32) * (nI P))), .int (1 : Int32), .int 0, .int (-1 : Int32), .int 0, .int (0 : Int32), .ref m_tape, .int 0, .ref m_slots, .ref m_leaves, .int 0, .int 0, .ref m_fresh, .int 0, .int 0, .int 0, .ref m_digestAt, .ref m_isGroup, .ref m_counts, .int 0, .int 0, .long 0, .int 0, .ref m_versionRow, .int 0, .long 0, .ref m_state, .ref m_names, .int 0, .ref m_keptRow, .int 0, .ref m_inSlot, .ref m_inAt, .ref m_inSize, .ref m_inDigest, .int 0])), (m_digestAt, .inl (d_digestAt, 128, .inr (.inl (fun _ => 0)))), (m_isGroup, .inl (d_isGroup, 128, .inl (fun _ => 0))), (m_counts, .inl (d_counts, 128, .inl (fun _ => 0)))] s.heap.size = A at hD ⊢
  have hA : ∀ q : Nat, s.heap.size ≤ q → A q := fun q h => by rw [← hAe]; exact Or.inr h
  have hS : va_S A s.heap s.heap [] := va_S.rf
  have hl := lv_entry ([.ref mo, .int p0]) (n := 6) (Nat.le_of_ble_eq_true rfl)
  rw [lg_entry_eq]
  generalize (lg_sl ([.ref mo, .int p0]) ++ List.replicate (6 - (lg_sl ([.ref mo, .int p0])).length) Slot.unset).toArray = ls at hl ⊢
  have hl : lv_has ls 6 [(0, .ref mo), (1, .int p0)] := hl
  refine lv_aload_n hx hb dX9_out_0 rfl (lv_at hl 0 rfl) ?_
  refine lv_aload_n hx hb dX9_out_1 rfl (lv_at hl 0 rfl) ?_
  refine va_get (D := (dC, dI)) (ci := 11) (v := .int (1 : Int32)) (C := RX9) (T := TX9) (N := 38) hx hb hts (by decide +kernel) hown hK hP 0 rfl rfl 3 (by decide) (hts (.fieldLink RX9 72 "BlockLogModel" "on" "Z") (by decide +kernel)) (fun _ h9 => h9) rfl dX9_out_2 ?_
  refine lv_if_eq (tgt := 12) hx hb dX9_out_5 (by decide) (fun c_1 => ?_) (fun c_1 => ?_)
  · skip
    exact absurd c_1 (by decide)
  · skip
    refine lv_iconst (v := 0) hx hb dX9_out_8 (by decide) ?_
    refine lv_goto (tgt := 13) hx hb dX9_out_9 (by decide) ?_
    refine va_put (D := (dC, dI)) (ci := 11) (v := .int (0 : Int32)) (ty := .int) (C := RX9) (T := TX9) (N := 38) hx hb hts (by decide +kernel) tyX9 tyX9_ok nmX9 hown hK hP hD hS 0 rfl rfl 13 (by decide) (hts (.fieldLink RX9 91 "BlockLogModel" "thrown" "I") (by decide +kernel)) (fun _ h9 => h9) rfl (by decide +kernel) rfl rfl (Nat.le_of_ble_eq_true rfl) dX9_out_13 (fun H locs hP hD hS => ?_)
    have hP : va_P (dC, dI) vwCl [(mo, .inr (11, [.ref m_disk, .int (nI P), .int ((8224 : Int32) + ((26 : Int32) * (nI P))), .int (1 : Int32), .int 0, .int (-1 : Int32), .int 0, .int (0 : Int32), .ref m_tape, .int 0, .ref m_slots, .ref m_leaves, .int 0, .int (0 : Int32), .ref m_fresh, .int 0, .int 0, .int 0, .ref m_digestAt, .ref m_isGroup, .ref m_counts, .int 0, .int 0, .long 0, .int 0, .ref m_versionRow, .int 0, .long 0, .ref m_state, .ref m_names, .int 0, .ref m_keptRow, .int 0, .ref m_inSlot, .ref m_inAt, .ref m_inSize, .ref m_inDigest, .int 0])), (m_digestAt, .inl (d_digestAt, 128, .inr (.inl (fun _ => 0)))), (m_isGroup, .inl (d_isGroup, 128, .inl (fun _ => 0))), (m_counts, .inl (d_counts, 128, .inl (fun _ => 0)))] H := hP
    have hD : va_D A [(mo, .inr (11, [.ref m_disk, .int (nI P), .int ((8224 : Int32) + ((26 : Int32) * (nI P))), .int (1 : Int32), .int 0, .int (-1 : Int32), .int 0, .int (0 : Int32), .ref m_tape, .int 0, .ref m_slots, .ref m_leaves, .int 0, .int (0 : Int32), .ref m_fresh, .int 0, .int 0, .int 0, .ref m_digestAt, .ref m_isGroup, .ref m_counts, .int 0, .int 0, .long 0, .int 0, .ref m_versionRow, .int 0, .long 0, .ref m_state, .ref m_names, .int 0, .ref m_keptRow, .int 0, .ref m_inSlot, .ref m_inAt, .ref m_inSize, .ref m_inDigest, .int 0])), (m_digestAt, .inl (d_digestAt, 128, .inr (.inl (fun _ => 0)))), (m_isGroup, .inl (d_isGroup, 128, .inl (fun _ => 0))), (m_counts, .inl (d_counts, 128, .inl (fun _ => 0)))] := hD
    refine lv_aload_n hx hb dX9_out_16 rfl (lv_at hl 0 rfl) ?_
    refine va_get (D := (dC, dI)) (ci := 11) (v := .int (0 : Int32)) (C := RX9) (T := TX9) (N := 38) hx hb hts (by decide +kernel) hown hK hP 0 rfl rfl 13 (by decide) (hts (.fieldLink RX9 91 "BlockLogModel" "thrown" "I") (by decide +kernel)) (fun _ h9 => h9) rfl dX9_out_17 ?_
    refine lv_if_le (tgt := 25) hx hb dX9_out_20 (by decide) (fun c_2 => ?_) (fun c_2 => ?_)
    · skip
      refine lv_aload_n hx hb dX9_out_25 rfl (lv_at hl 0 rfl) ?_
      have hPc := hP.sub (ws' := [(mo, .inr (11, [.ref m_disk, .int (nI P), .int ((8224 : Int32) + ((26 : Int32) * (nI P))), .int (1 : Int32), .int 0, .int (-1 : Int32), .int 0, .int (0 : Int32), .ref m_tape, .int 0, .ref m_slots, .ref m_leaves, .int 0, .int (0 : Int32), .ref m_fresh, .int 0, .int 0, .int 0, .ref m_digestAt, .ref m_isGroup, .ref m_counts, .int 0, .int 0, .long 0, .int 0, .ref m_versionRow, .int 0, .long 0, .ref m_state, .ref m_names, .int 0, .ref m_keptRow, .int 0, .ref m_inSlot, .ref m_inAt, .ref m_inSize, .ref m_inDigest, .int 0])), (m_digestAt, .inl (d_digestAt, 128, .inr (.inl (fun _ => 0)))), (m_isGroup, .inl (d_isGroup, 128, .inl (fun _ => 0))), (m_counts, .inl (d_counts, 128, .inl (fun _ => 0)))]) [0, 1, 2, 3] rfl
      have hKc := hK.sub (tys' := [(d_digestAt, .long), (d_isGroup, .boolean), (d_counts, .boolean)]) [0, 1, 2] rfl
      have hDc := hD.sub (ws' := [(mo, .inr (11, [.ref m_disk, .int (nI P), .int ((8224 : Int32) + ((26 : Int32) * (nI P))), .int (1 : Int32), .int 0, .int (-1 : Int32), .int 0, .int (0 : Int32), .ref m_tape, .int 0, .ref m_slots, .ref m_leaves, .int 0, .int (0 : Int32), .ref m_fresh, .int 0, .int 0, .int 0, .ref m_digestAt, .ref m_isGroup, .ref m_counts, .int 0, .int 0, .long 0, .int 0, .ref m_versionRow, .int 0, .long 0, .ref m_state, .ref m_names, .int 0, .ref m_keptRow, .int 0, .ref m_inSlot, .ref m_inAt, .ref m_inSize, .ref m_inDigest, .int 0])), (m_digestAt, .inl (d_digestAt, 128, .inr (.inl (fun _ => 0)))), (m_isGroup, .inl (d_isGroup, 128, .inl (fun _ => 0))), (m_counts, .inl (d_counts, 128, .inl (fun _ => 0)))]) [0, 1, 2, 3] (by decide) rfl
      have hFc := va_free (wc := [(mo, .inr (11, [.ref m_disk, .int (nI P), .int ((8224 : Int32) + ((26 : Int32) * (nI P))), .int (1 : Int32), .int 0, .int (-1 : Int32), .int 0, .int (0 : Int32), .ref m_tape, .int 0, .ref m_slots, .ref m_leaves, .int 0, .int (0 : Int32), .ref m_fresh, .int 0, .int 0, .int 0, .ref m_digestAt, .ref m_isGroup, .ref m_counts, .int 0, .int 0, .long 0, .int 0, .ref m_versionRow, .int 0, .long 0, .ref m_state, .ref m_names, .int 0, .ref m_keptRow, .int 0, .ref m_inSlot, .ref m_inAt, .ref m_inSize, .ref m_inDigest, .int 0])), (m_digestAt, .inl (d_digestAt, 128, .inr (.inl (fun _ => 0)))), (m_isGroup, .inl (d_isGroup, 128, .inl (fun _ => 0))), (m_counts, .inl (d_counts, 128, .inl (fun _ => 0)))]) hD hS hA [0, 1, 2, 3] rfl
      refine va_callv (va_runV (As := []) (rest := []) ⟨hx, hb, hml, hown, hts⟩ (k_X9_read_1 l dC dI mo m_digestAt m_isGroup m_counts m_disk P m_tape m_slots m_leaves m_fresh m_versionRow m_state m_names m_keptRow m_inSlot m_inAt m_inSize m_inDigest d_digestAt d_isGroup d_counts _) (cwV 0 hts gX9_out_X9_read rfl rfl rfl (by decide +kernel) ⟨Nat.le_of_ble_eq_true rfl, Nat.le_of_ble_eq_true rfl⟩) ⟨fun a U g mk q => by obtain ⟨q0, q1, qP, qK, qD⟩ := q; exact ⟨q0, q1, qP, va_K.moved (u := U) (U := U.calling g mk a) (Vm.Alike.refl U.vm) qK, qD⟩, va_recv hK hP (ci := 11) (q := (RX9, TX9, 38)) rfl (q0 := 0) rfl, fun U hU hW => ⟨rfl, by rw [hU], by rw [hU]; exact hPc, va_K.moved hW.alike hKc, hDc.weaken (fun _ _ _ _ => trivial)⟩⟩ rfl rfl hl.1 rfl (lv_room (Nat.le_of_ble_eq_true rfl)) dX9_out_26 ⟨Nat.le_of_ble_eq_true rfl, Nat.le_of_ble_eq_true rfl⟩) hS (fun q _ h => hFc q h) hFc (fun u t H1 locs ht hvm er_3 hB hz1 hk1 hS => ?_)
      obtain ⟨hP1, hK1, hD1⟩ := hB
      rw [ht] at hP1
      obtain ⟨hP, hD⟩ := va_join (wr := []) (w1 := [(mo, .inr (11, [.ref m_disk, .int (nI P), .int ((8224 : Int32) + ((26 : Int32) * (nI P))), .int (1 : Int32), .int 0, .int (-1 : Int32), .int 0, .int (0 : Int32), .ref m_tape, .int 0, .ref m_slots, .ref m_leaves, .int 0, .int 0, .ref m_fresh, .int 0, .int (0 : Int32), .int (0 : Int32), .ref m_digestAt, .ref m_isGroup, .ref m_counts, .int (-1 : Int32), .int (0 : Int32), .long (0 : Int64), .int (0 : Int32), .ref m_versionRow, .int (0 : Int32), .long (0 : Int64), .ref m_state, .ref m_names, .int 0, .ref m_keptRow, .int 0, .ref m_inSlot, .ref m_inAt, .ref m_inSize, .ref m_inDigest, .int 0])), (m_digestAt, .inl (d_digestAt, 128, .inr (.inl (zr_L 128)))), (m_isGroup, .inl (d_isGroup, 128, .inl (zr_Z 128))), (m_counts, .inl (d_counts, 128, .inl (zr_Z 128)))]) hP hD [0, 1, 2, 3] [] rfl rfl (by decide) (by decide) hk1 hFc hP1 hD1
      clear hPc hDc hFc hP1 hD1 hk1 hz1
      generalize H1 = H at hP hS ⊢
      have hP : va_P (dC, dI) vwCl [(mo, .inr (11, [.ref m_disk, .int (nI P), .int ((8224 : Int32) + ((26 : Int32) * (nI P))), .int (1 : Int32), .int 0, .int (-1 : Int32), .int 0, .int (0 : Int32), .ref m_tape, .int 0, .ref m_slots, .ref m_leaves, .int 0, .int 0, .ref m_fresh, .int 0, .int (0 : Int32), .int (0 : Int32), .ref m_digestAt, .ref m_isGroup, .ref m_counts, .int (-1 : Int32), .int (0 : Int32), .long (0 : Int64), .int (0 : Int32), .ref m_versionRow, .int (0 : Int32), .long (0 : Int64), .ref m_state, .ref m_names, .int 0, .ref m_keptRow, .int 0, .ref m_inSlot, .ref m_inAt, .ref m_inSize, .ref m_inDigest, .int 0])), (m_digestAt, .inl (d_digestAt, 128, .inr (.inl (zr_L 128)))), (m_isGroup, .inl (d_isGroup, 128, .inl (zr_Z 128))), (m_counts, .inl (d_counts, 128, .inl (zr_Z 128)))] H := hP
      have hD : va_D A [(mo, .inr (11, [.ref m_disk, .int (nI P), .int ((8224 : Int32) + ((26 : Int32) * (nI P))), .int (1 : Int32), .int 0, .int (-1 : Int32), .int 0, .int (0 : Int32), .ref m_tape, .int 0, .ref m_slots, .ref m_leaves, .int 0, .int 0, .ref m_fresh, .int 0, .int (0 : Int32), .int (0 : Int32), .ref m_digestAt, .ref m_isGroup, .ref m_counts, .int (-1 : Int32), .int (0 : Int32), .long (0 : Int64), .int (0 : Int32), .ref m_versionRow, .int (0 : Int32), .long (0 : Int64), .ref m_state, .ref m_names, .int 0, .ref m_keptRow, .int 0, .ref m_inSlot, .ref m_inAt, .ref m_inSize, .ref m_inDigest, .int 0])), (m_digestAt, .inl (d_digestAt, 128, .inr (.inl (zr_L 128)))), (m_isGroup, .inl (d_isGroup, 128, .inl (zr_Z 128))), (m_counts, .inl (d_counts, 128, .inl (zr_Z 128)))] := hD
      refine lv_aload_n hx hb dX9_out_29 rfl (lv_at hl 0 rfl) ?_
      refine lv_iload_n hx hb dX9_out_30 rfl (lv_at hl 1 rfl) ?_
      refine lv_if_eq (tgt := 42) hx hb dX9_out_31 (by decide) (fun c_4 => ?_) (fun c_4 => ?_)
      · skip
        exact absurd c_4 (Ne.symm (Int32.ne_of_lt hf0))
      · skip
        refine lv_aload_n hx hb dX9_out_34 rfl (lv_at hl 0 rfl) ?_
        refine lv_iload_n hx hb dX9_out_35 rfl (lv_at hl 1 rfl) ?_
        have hPc := hP.sub (ws' := [(mo, .inr (11, [.ref m_disk, .int (nI P), .int ((8224 : Int32) + ((26 : Int32) * (nI P))), .int (1 : Int32), .int 0, .int (-1 : Int32), .int 0, .int (0 : Int32), .ref m_tape, .int 0, .ref m_slots, .ref m_leaves, .int 0, .int 0, .ref m_fresh, .int 0, .int (0 : Int32), .int (0 : Int32), .ref m_digestAt, .ref m_isGroup, .ref m_counts, .int (-1 : Int32), .int (0 : Int32), .long (0 : Int64), .int (0 : Int32), .ref m_versionRow, .int (0 : Int32), .long (0 : Int64), .ref m_state, .ref m_names, .int 0, .ref m_keptRow, .int 0, .ref m_inSlot, .ref m_inAt, .ref m_inSize, .ref m_inDigest, .int 0]))]) [0] rfl
        have hKc := hK.sub (tys' := []) [] rfl
        refine vp_callSi (va_Run.run (va_runV (As := [.int p0]) (rest := [.ref mo]) ⟨hx, hb, hml, hown, hts⟩ (k_X9_isKept_2 l dC dI mo p0 m_disk P m_tape m_slots m_leaves m_fresh m_digestAt m_isGroup m_counts m_versionRow m_state m_names m_keptRow m_inSlot m_inAt m_inSize m_inDigest hf0) (cwV 1 hts gX9_out_X9_isKept rfl rfl rfl (by decide +kernel) ⟨Nat.le_of_ble_eq_true rfl, Nat.le_of_ble_eq_true rfl⟩) ⟨fun a U g mk q => by obtain ⟨q0, qP, qK⟩ := q; exact ⟨q0, qP, va_K.moved (u := U) (U := U.calling g mk a) (Vm.Alike.refl U.vm) qK⟩, va_recv hK hP (ci := 11) (q := (RX9, TX9, 38)) rfl (q0 := 0) rfl, fun U hU hW => ⟨rfl, by rw [hU]; exact hPc, va_K.moved hW.alike hKc⟩⟩ rfl rfl hl.1 rfl (lv_room (Nat.le_of_ble_eq_true rfl)) dX9_out_36 ⟨Nat.le_of_ble_eq_true rfl, Nat.le_of_ble_eq_true rfl⟩)) (fun r_5 er_5 => ?_)
        subst er_5
        refine lv_if_ne (tgt := 46) hx hb dX9_out_39 (by decide) (fun c_6 => ?_) (fun c_6 => ?_)
        · skip
          exact absurd (by decide) c_6
        · skip
          refine lv_iconst (v := 2) hx hb dX9_out_42 (by decide) ?_
          refine lv_goto (tgt := 47) hx hb dX9_out_43 (by decide) ?_
          refine va_put (D := (dC, dI)) (ci := 11) (v := .int (2 : Int32)) (ty := .int) (C := RX9) (T := TX9) (N := 38) hx hb hts (by decide +kernel) tyX9 tyX9_ok nmX9 hown hK hP hD hS 0 rfl rfl 13 (by decide) (hts (.fieldLink RX9 91 "BlockLogModel" "thrown" "I") (by decide +kernel)) (fun _ h9 => h9) rfl (by decide +kernel) rfl rfl (Nat.le_of_ble_eq_true rfl) dX9_out_47 (fun H locs hP hD hS => ?_)
          have hP : va_P (dC, dI) vwCl [(mo, .inr (11, [.ref m_disk, .int (nI P), .int ((8224 : Int32) + ((26 : Int32) * (nI P))), .int (1 : Int32), .int 0, .int (-1 : Int32), .int 0, .int (0 : Int32), .ref m_tape, .int 0, .ref m_slots, .ref m_leaves, .int 0, .int (2 : Int32), .ref m_fresh, .int 0, .int (0 : Int32), .int (0 : Int32), .ref m_digestAt, .ref m_isGroup, .ref m_counts, .int (-1 : Int32), .int (0 : Int32), .long (0 : Int64), .int (0 : Int32), .ref m_versionRow, .int (0 : Int32), .long (0 : Int64), .ref m_state, .ref m_names, .int 0, .ref m_keptRow, .int 0, .ref m_inSlot, .ref m_inAt, .ref m_inSize, .ref m_inDigest, .int 0])), (m_digestAt, .inl (d_digestAt, 128, .inr (.inl (zr_L 128)))), (m_isGroup, .inl (d_isGroup, 128, .inl (zr_Z 128))), (m_counts, .inl (d_counts, 128, .inl (zr_Z 128)))] H := hP
          have hD : va_D A [(mo, .inr (11, [.ref m_disk, .int (nI P), .int ((8224 : Int32) + ((26 : Int32) * (nI P))), .int (1 : Int32), .int 0, .int (-1 : Int32), .int 0, .int (0 : Int32), .ref m_tape, .int 0, .ref m_slots, .ref m_leaves, .int 0, .int (2 : Int32), .ref m_fresh, .int 0, .int (0 : Int32), .int (0 : Int32), .ref m_digestAt, .ref m_isGroup, .ref m_counts, .int (-1 : Int32), .int (0 : Int32), .long (0 : Int64), .int (0 : Int32), .ref m_versionRow, .int (0 : Int32), .long (0 : Int64), .ref m_state, .ref m_names, .int 0, .ref m_keptRow, .int 0, .ref m_inSlot, .ref m_inAt, .ref m_inSize, .ref m_inDigest, .int 0])), (m_digestAt, .inl (d_digestAt, 128, .inr (.inl (zr_L 128)))), (m_isGroup, .inl (d_isGroup, 128, .inl (zr_Z 128))), (m_counts, .inl (d_counts, 128, .inl (zr_Z 128)))] := hD
          refine lv_aload_n hx hb dX9_out_50 rfl (lv_at hl 0 rfl) ?_
          refine va_get (D := (dC, dI)) (ci := 11) (v := .int (2 : Int32)) (C := RX9) (T := TX9) (N := 38) hx hb hts (by decide +kernel) hown hK hP 0 rfl rfl 13 (by decide) (hts (.fieldLink RX9 91 "BlockLogModel" "thrown" "I") (by decide +kernel)) (fun _ h9 => h9) rfl dX9_out_51 ?_
          refine lv_if_le (tgt := 59) hx hb dX9_out_54 (by decide) (fun c_7 => ?_) (fun c_7 => ?_)
          · skip
            exact absurd c_7 (by decide)
          · skip
            refine lv_iconst (v := 0) hx hb dX9_out_57 (by decide) ?_
            have hP := hP.sub (ws' := [(mo, .inr (11, [.ref m_disk, .int (nI P), .int ((8224 : Int32) + ((26 : Int32) * (nI P))), .int (1 : Int32), .int 0, .int (-1 : Int32), .int 0, .int (0 : Int32), .ref m_tape, .int 0, .ref m_slots, .ref m_leaves, .int 0, .int (2 : Int32), .ref m_fresh, .int 0, .int (0 : Int32), .int (0 : Int32), .ref m_digestAt, .ref m_isGroup, .ref m_counts, .int (-1 : Int32), .int (0 : Int32), .long (0 : Int64), .int (0 : Int32), .ref m_versionRow, .int (0 : Int32), .long (0 : Int64), .ref m_state, .ref m_names, .int 0, .ref m_keptRow, .int 0, .ref m_inSlot, .ref m_inAt, .ref m_inSize, .ref m_inDigest, .int 0]))]) [0] rfl
            have hD := hD.sub (ws' := [(mo, .inr (11, [.ref m_disk, .int (nI P), .int ((8224 : Int32) + ((26 : Int32) * (nI P))), .int (1 : Int32), .int 0, .int (-1 : Int32), .int 0, .int (0 : Int32), .ref m_tape, .int 0, .ref m_slots, .ref m_leaves, .int 0, .int (2 : Int32), .ref m_fresh, .int 0, .int (0 : Int32), .int (0 : Int32), .ref m_digestAt, .ref m_isGroup, .ref m_counts, .int (-1 : Int32), .int (0 : Int32), .long (0 : Int64), .int (0 : Int32), .ref m_versionRow, .int (0 : Int32), .long (0 : Int64), .ref m_state, .ref m_names, .int 0, .ref m_keptRow, .int 0, .ref m_inSlot, .ref m_inAt, .ref m_inSize, .ref m_inDigest, .int 0]))]) [0] (by decide) rfl
            have hK := hK.sub (tys' := [(d_digestAt, .long), (d_isGroup, .boolean), (d_counts, .boolean)]) [0, 1, 2] rfl
            exact W.iret hx hb hr (fun t ht hW => ⟨⟨_, (), rfl, rfl, by rw [ht]; exact hP, va_K.moved hW.alike hK, hD⟩, hS.F ht⟩) hS.2.2 dX9_out_58
    · skip
      exact absurd (by decide) c_2

set_option maxHeartbeats 4000000 in
set_option maxRecDepth 100000 in
theorem k_X8_out_3 (l : Launch) (hl0 : l.stackTraces = false) (dC : Nat → ClassId) (dI : Nat → Nat → Nat) (x : Nat) (p0 : Int32) (rr : Nat) (ds : Nat) (so : Nat) (tp : Nat) (pu : Nat) (sn : Nat) (im : Nat) (cs : Nat) (cl : Nat) (ri : Nat) (pg : Int32) (dl : Nat) (dr : Nat) (dt : Nat) (s1 : Nat) (s2 : Nat) (s3 : Nat) (s4 : Nat) (s5 : Nat) (s6 : Nat) (sz : Nat) (hf0 : p0 < 0) : vx_Met l yX8_out wsX8_out ({ frames := 6, cells := 1, slots := 6, locals := 90 }) (va_Pc [.ref x, .int p0] (fun U => U.heap.size = sz ∧ va_P (dC, dI) vwCl [(x, .inr (10, [.ref tp, .ref ds, .ref rr, .ref so, .ref pu, .ref sn, .ref im, .ref cs, .ref cl, .int (0 : Int32)])), (rr, .inr (6, [.ref ds, .ref ri, .int 0, .int 1, .int 0, .int 0])), (ds, .inr (3, [.int pg, .ref dl, .ref dr, .ref dt, .int (1 : Int32), .int (-1 : Int32), .int (0 : Int32)])), (so, .inr (8, [.ref rr, .ref s1, .ref s2, .ref s3, .ref s4, .ref s5, .ref s6, .int (0 : Int32), .int (0 : Int32), .int (-1 : Int32), .int (0 : Int32), .int (0 : Int32)]))] U.heap ∧ va_K (dC, dI) vwCl [] U ∧ va_D (fun _ => True) [(x, .inr (10, [.ref tp, .ref ds, .ref rr, .ref so, .ref pu, .ref sn, .ref im, .ref cs, .ref cl, .int (0 : Int32)])), (rr, .inr (6, [.ref ds, .ref ri, .int 0, .int 1, .int 0, .int 0])), (ds, .inr (3, [.int pg, .ref dl, .ref dr, .ref dt, .int (1 : Int32), .int (-1 : Int32), .int (0 : Int32)])), (so, .inr (8, [.ref rr, .ref s1, .ref s2, .ref s3, .ref s4, .ref s5, .ref s6, .int (0 : Int32), .int (0 : Int32), .int (-1 : Int32), .int (0 : Int32), .int (0 : Int32)]))] ∧ gx_E (va_A [(x, .inr (10, [.ref tp, .ref ds, .ref rr, .ref so, .ref pu, .ref sn, .ref im, .ref cs, .ref cl, .int (0 : Int32)])), (rr, .inr (6, [.ref ds, .ref ri, .int 0, .int 1, .int 0, .int 0])), (ds, .inr (3, [.int pg, .ref dl, .ref dr, .ref dt, .int (1 : Int32), .int (-1 : Int32), .int (0 : Int32)])), (so, .inr (8, [.ref rr, .ref s1, .ref s2, .ref s3, .ref s4, .ref s5, .ref s6, .int (0 : Int32), .int (0 : Int32), .int (-1 : Int32), .int (0 : Int32), .int (0 : Int32)]))] sz) U)) (va_Qi (fun (_ : Int32) (_ : Unit) => False) (fun _ _ => True) (va_A [(x, .inr (10, [.ref tp, .ref ds, .ref rr, .ref so, .ref pu, .ref sn, .ref im, .ref cs, .ref cl, .int (0 : Int32)])), (rr, .inr (6, [.ref ds, .ref ri, .int 0, .int 1, .int 0, .int 0])), (ds, .inr (3, [.int pg, .ref dl, .ref dr, .ref dt, .int (1 : Int32), .int (-1 : Int32), .int (0 : Int32)])), (so, .inr (8, [.ref rr, .ref s1, .ref s2, .ref s3, .ref s4, .ref s5, .ref s6, .int (0 : Int32), .int (0 : Int32), .int (-1 : Int32), .int (0 : Int32), .int (0 : Int32)]))] sz)) (vx_X (fun _ : Unit => True) (fun E _ _ => E = "java/lang/IllegalArgumentException") (va_A [(x, .inr (10, [.ref tp, .ref ds, .ref rr, .ref so, .ref pu, .ref sn, .ref im, .ref cs, .ref cl, .int (0 : Int32)])), (rr, .inr (6, [.ref ds, .ref ri, .int 0, .int 1, .int 0, .int 0])), (ds, .inr (3, [.int pg, .ref dl, .ref dr, .ref dt, .int (1 : Int32), .int (-1 : Int32), .int (0 : Int32)])), (so, .inr (8, [.ref rr, .ref s1, .ref s2, .ref s3, .ref s4, .ref s5, .ref s6, .int (0 : Int32), .int (0 : Int32), .int (-1 : Int32), .int (0 : Int32), .int (0 : Int32)]))] sz)) 1 6 (va_A [(x, .inr (10, [.ref tp, .ref ds, .ref rr, .ref so, .ref pu, .ref sn, .ref im, .ref cs, .ref cl, .int (0 : Int32)])), (rr, .inr (6, [.ref ds, .ref ri, .int 0, .int 1, .int 0, .int 0])), (ds, .inr (3, [.int pg, .ref dl, .ref dr, .ref dt, .int (1 : Int32), .int (-1 : Int32), .int (0 : Int32)])), (so, .inr (8, [.ref rr, .ref s1, .ref s2, .ref s3, .ref s4, .ref s5, .ref s6, .int (0 : Int32), .int (0 : Int32), .int (-1 : Int32), .int (0 : Int32), .int (0 : Int32)]))] sz) := by
  refine vx_ofW (cc := cX8_out) (maxL := 3) (ret := (some .int)) (by decide) rfl ?_
  intro p e s m args below meth c s₁ B hml hno hv
  obtain ⟨rfl, hsz, hP, hK, hD0, hG⟩ := hv
  have hx := B.exec
  have hb := B.bytes
  have hr := B.returns
  have hts := atoms_spec (ws := wsX8_out) B.pre
  have hown : s.vm.findClass RX8 = some m.cls := findClass_of_methodNamed B.named
  have hlocks := B.notSynchronized
  subst hsz
  have hD := hD0.self (sz := s.heap.size)
  generalize hAe : va_A [(x, .inr (10, [.ref tp, .ref ds, .ref rr, .ref so, .ref pu, .ref sn, .ref im, .ref cs, .ref cl, .int (0 : Int32)])), (rr, .inr (6, [.ref ds, .ref ri, .int 0, .int 1, .int 0, .int 0])), (ds, .inr (3, [.int pg, .ref dl, .ref dr, .ref dt, .int (1 : Int32), .int (-1 : Int32), .int (0 : Int32)])), (so, .inr (8, [.ref rr, .ref s1, .ref s2, .ref s3, .ref s4, .ref s5, .ref s6, .int (0 : Int32), .int (0 : Int32), .int (-1 : Int32), .int (0 : Int32), .int (0 : Int32)]))] s.heap.size = A at hD hG ⊢
  have hA : ∀ q : Nat, s.heap.size ≤ q → A q := fun q h => by rw [← hAe]; exact Or.inr h
  have hS : va_S A s.heap s.heap [] := va_S.rf
  have hl := lv_entry ([.ref x, .int p0]) (n := 3) (Nat.le_of_ble_eq_true rfl)
  rw [lg_entry_eq]
  generalize (lg_sl ([.ref x, .int p0]) ++ List.replicate (3 - (lg_sl ([.ref x, .int p0])).length) Slot.unset).toArray = ls at hl ⊢
  have hl : lv_has ls 3 [(0, .ref x), (1, .int p0)] := hl
  refine lv_aload_n hx hb dX8_out_0 rfl (lv_at hl 0 rfl) ?_
  have hPc := hP.sub (ws' := [(x, .inr (10, [.ref tp, .ref ds, .ref rr, .ref so, .ref pu, .ref sn, .ref im, .ref cs, .ref cl, .int (0 : Int32)])), (ds, .inr (3, [.int pg, .ref dl, .ref dr, .ref dt, .int (1 : Int32), .int (-1 : Int32), .int (0 : Int32)]))]) [0, 2] rfl
  have hKc := hK.sub (tys' := []) [] rfl
  refine va_csv (va_Run.run (va_runV (As := []) (rest := []) ⟨hx, hb, hml, hown, hts⟩ (k_X8_demandPower_1 l dC dI x ds tp rr so pu sn im cs cl pg dl dr dt) (cwV 0 hts gX8_out_X8_demandPower rfl rfl rfl (by decide +kernel) ⟨Nat.le_of_ble_eq_true rfl, Nat.le_of_ble_eq_true rfl⟩) ⟨fun a U g mk q => by obtain ⟨q0, qP, qK, qG⟩ := q; exact ⟨q0, qP, va_K.moved (u := U) (U := U.calling g mk a) (Vm.Alike.refl U.vm) qK, qG.same rfl⟩, va_recv hK hP (ci := 10) (q := (RX8, TX8, 10)) rfl (q0 := 0) rfl, fun U hU hW => ⟨rfl, by rw [hU]; exact hPc, va_K.moved hW.alike hKc, hG.1.warm hW⟩⟩ rfl rfl hl.1 rfl (lv_room (Nat.le_of_ble_eq_true rfl)) dX8_out_1 ⟨Nat.le_of_ble_eq_true rfl, Nat.le_of_ble_eq_true rfl⟩)) (fun _ => ?_)
  refine lv_iload_n hx hb dX8_out_4 rfl (lv_at hl 1 rfl) ?_
  refine lv_if_eq (tgt := 19) hx hb dX8_out_5 (by decide) (fun c_2 => ?_) (fun c_2 => ?_)
  · skip
    exact absurd c_2 (Int32.ne_of_lt hf0)
  · skip
    refine lv_aload_n hx hb dX8_out_8 rfl (lv_at hl 0 rfl) ?_
    refine va_get (D := (dC, dI)) (ci := 10) (v := .ref so) (C := RX8) (T := TX8) (N := 10) hx hb hts (by decide +kernel) hown hK hP 0 rfl rfl 3 (by decide) (hts (.fieldLink RX8 40 "BlockLog" "story" "LBlockLog$Story;") (by decide +kernel)) (fun _ h9 => h9) rfl dX8_out_9 ?_
    refine lv_iload_n hx hb dX8_out_12 rfl (lv_at hl 1 rfl) ?_
    have hPc := hP.sub (ws' := [(rr, .inr (6, [.ref ds, .ref ri, .int 0, .int 1, .int 0, .int 0])), (so, .inr (8, [.ref rr, .ref s1, .ref s2, .ref s3, .ref s4, .ref s5, .ref s6, .int (0 : Int32), .int (0 : Int32), .int (-1 : Int32), .int (0 : Int32), .int (0 : Int32)]))]) [1, 3] rfl
    have hKc := hK.sub (tys' := []) [] rfl
    refine vp_callSi (va_Run.run (va_runV (As := [.int p0]) (rest := []) ⟨hx, hb, hml, hown, hts⟩ (k_X6_isKept_1 l dC dI so p0 rr ds ri s1 s2 s3 s4 s5 s6 hf0) (cwV 1 hts gX8_out_X6_isKept rfl rfl rfl (by decide +kernel) ⟨Nat.le_of_ble_eq_true rfl, Nat.le_of_ble_eq_true rfl⟩) ⟨fun a U g mk q => by obtain ⟨q0, qP, qK⟩ := q; exact ⟨q0, qP, va_K.moved (u := U) (U := U.calling g mk a) (Vm.Alike.refl U.vm) qK⟩, va_recv hK hP (ci := 8) (q := (RX6, TX6, 12)) rfl (q0 := 3) rfl, fun U hU hW => ⟨rfl, by rw [hU]; exact hPc, va_K.moved hW.alike hKc⟩⟩ rfl rfl hl.1 rfl (lv_room (Nat.le_of_ble_eq_true rfl)) dX8_out_13 ⟨Nat.le_of_ble_eq_true rfl, Nat.le_of_ble_eq_true rfl⟩)) (fun r_3 er_3 => ?_)
    subst er_3
    refine lv_if_ne (tgt := 30) hx hb dX8_out_16 (by decide) (fun c_4 => ?_) (fun c_4 => ?_)
    · skip
      exact absurd (by decide) c_4
    · skip
      obtain ⟨sa, hstr⟩ := hG.1.2.1 ("BlockLog", 261, "the version is not kept, or 0") (by decide +kernel)
      exact vx_throwSW (names := ["java/lang/RuntimeException", "java/lang/Exception"]) hx hb hl0 hown (by decide +kernel) (by decide +kernel) (hts (.classLink RX8 76 "java/lang/IllegalArgumentException") (by decide +kernel)) (hts (.initialized "java/lang/IllegalArgumentException") (by decide +kernel)) hstr (vx_hat (B := gx_bad "java/lang/IllegalArgumentException") (fun w h => hts w (List.mem_cons_of_mem _ (List.mem_append_left _ (List.mem_append_right _ h)))) (by decide +kernel) (hG.1.bad (by decide))) (by decide +kernel) hG.2.1 hG.2.2.1 hS (hl.1.trans hml.symm) dX8_out_19 dX8_out_22 dX8_out_23 dX8_out_26 dX8_out_29 (fun x h => (hno x h).elim) (Nat.le_of_ble_eq_true rfl) (Nat.le_of_ble_eq_true rfl) (Nat.le_of_ble_eq_true rfl) (Nat.le_of_ble_eq_true rfl) hlocks (fun t _ h1 h2 => ⟨(), trivial, rfl, Nat.le_trans hS.1 h1, fun q hq hn => (h2 q (Nat.lt_of_lt_of_le hq hS.1)).trans (hS.2.1 q hq hn)⟩) hS.2.2 (Nat.le_refl _) (Nat.le_refl _)

set_option maxHeartbeats 4000000 in
set_option maxRecDepth 100000 in
theorem k_L_out_3 (l : Launch) (hl0 : l.stackTraces = false) (dC : Nat → ClassId) (dI : Nat → Nat → Nat) (x : Nat) (p0 : Int32) (ho : Nat) (rr : Nat) (ds : Nat) (so : Nat) (tp : Nat) (pu : Nat) (sn : Nat) (im : Nat) (cs : Nat) (cl : Nat) (ri : Nat) (pg : Int32) (dl : Nat) (dr : Nat) (dt : Nat) (s1 : Nat) (s2 : Nat) (s3 : Nat) (s4 : Nat) (s5 : Nat) (s6 : Nat) (sz : Nat) (hf0 : p0 < 0) : Met l yL_out wsL_out ({ frames := 7, cells := 1, slots := 6, locals := 112 }) (va_Pc [.ref x, .int p0, .ref ho] (fun U => U.heap.size = sz ∧ va_P (dC, dI) vwCl [(x, .inr (10, [.ref tp, .ref ds, .ref rr, .ref so, .ref pu, .ref sn, .ref im, .ref cs, .ref cl, .int (0 : Int32)])), (rr, .inr (6, [.ref ds, .ref ri, .int 0, .int 1, .int 0, .int 0])), (ds, .inr (3, [.int pg, .ref dl, .ref dr, .ref dt, .int (1 : Int32), .int (-1 : Int32), .int (0 : Int32)])), (so, .inr (8, [.ref rr, .ref s1, .ref s2, .ref s3, .ref s4, .ref s5, .ref s6, .int (0 : Int32), .int (0 : Int32), .int (-1 : Int32), .int (0 : Int32), .int (0 : Int32)]))] U.heap ∧ va_K (dC, dI) vwCl [] U ∧ va_D (fun _ => True) [(x, .inr (10, [.ref tp, .ref ds, .ref rr, .ref so, .ref pu, .ref sn, .ref im, .ref cs, .ref cl, .int (0 : Int32)])), (rr, .inr (6, [.ref ds, .ref ri, .int 0, .int 1, .int 0, .int 0])), (ds, .inr (3, [.int pg, .ref dl, .ref dr, .ref dt, .int (1 : Int32), .int (-1 : Int32), .int (0 : Int32)])), (so, .inr (8, [.ref rr, .ref s1, .ref s2, .ref s3, .ref s4, .ref s5, .ref s6, .int (0 : Int32), .int (0 : Int32), .int (-1 : Int32), .int (0 : Int32), .int (0 : Int32)]))] ∧ gx_E (va_A [(x, .inr (10, [.ref tp, .ref ds, .ref rr, .ref so, .ref pu, .ref sn, .ref im, .ref cs, .ref cl, .int (0 : Int32)])), (rr, .inr (6, [.ref ds, .ref ri, .int 0, .int 1, .int 0, .int 0])), (ds, .inr (3, [.int pg, .ref dl, .ref dr, .ref dt, .int (1 : Int32), .int (-1 : Int32), .int (0 : Int32)])), (so, .inr (8, [.ref rr, .ref s1, .ref s2, .ref s3, .ref s4, .ref s5, .ref s6, .int (0 : Int32), .int (0 : Int32), .int (-1 : Int32), .int (0 : Int32), .int (0 : Int32)]))] sz) U)) (va_Qi (fun r (_ : Unit) => r = (2 : Int32)) (fun (_ : Unit) t => va_P (dC, dI) vwCl [] t.heap ∧ va_K (dC, dI) vwCl [] t ∧ va_D (va_A [(x, .inr (10, [.ref tp, .ref ds, .ref rr, .ref so, .ref pu, .ref sn, .ref im, .ref cs, .ref cl, .int (0 : Int32)])), (rr, .inr (6, [.ref ds, .ref ri, .int 0, .int 1, .int 0, .int 0])), (ds, .inr (3, [.int pg, .ref dl, .ref dr, .ref dt, .int (1 : Int32), .int (-1 : Int32), .int (0 : Int32)])), (so, .inr (8, [.ref rr, .ref s1, .ref s2, .ref s3, .ref s4, .ref s5, .ref s6, .int (0 : Int32), .int (0 : Int32), .int (-1 : Int32), .int (0 : Int32), .int (0 : Int32)]))] sz) []) (va_A [(x, .inr (10, [.ref tp, .ref ds, .ref rr, .ref so, .ref pu, .ref sn, .ref im, .ref cs, .ref cl, .int (0 : Int32)])), (rr, .inr (6, [.ref ds, .ref ri, .int 0, .int 1, .int 0, .int 0])), (ds, .inr (3, [.int pg, .ref dl, .ref dr, .ref dt, .int (1 : Int32), .int (-1 : Int32), .int (0 : Int32)])), (so, .inr (8, [.ref rr, .ref s1, .ref s2, .ref s3, .ref s4, .ref s5, .ref s6, .int (0 : Int32), .int (0 : Int32), .int (-1 : Int32), .int (0 : Int32), .int (0 : Int32)]))] sz)) 1 6 (va_A [(x, .inr (10, [.ref tp, .ref ds, .ref rr, .ref so, .ref pu, .ref sn, .ref im, .ref cs, .ref cl, .int (0 : Int32)])), (rr, .inr (6, [.ref ds, .ref ri, .int 0, .int 1, .int 0, .int 0])), (ds, .inr (3, [.int pg, .ref dl, .ref dr, .ref dt, .int (1 : Int32), .int (-1 : Int32), .int (0 : Int32)])), (so, .inr (8, [.ref rr, .ref s1, .ref s2, .ref s3, .ref s4, .ref s5, .ref s6, .int (0 : Int32), .int (0 : Int32), .int (-1 : Int32), .int (0 : Int32), .int (0 : Int32)]))] sz) := by
  refine va_MetW (cc := cL_out) (maxL := 4) (ret := (some .int)) (hh := [(0, 9, 12, 25), (0, 9, 15, 13)]) (by decide) rfl ?_
  intro p e s m args below meth c s₁ B hml hv
  obtain ⟨rfl, hsz, hP, hK, hD0, hG⟩ := hv
  have hx := B.exec
  have hb := B.bytes
  have hr := B.returns
  have hts := atoms_spec (ws := wsL_out) B.pre
  have hown : s.vm.findClass RL = some m.cls := findClass_of_methodNamed B.named
  have hlocks := B.notSynchronized
  have htab := vx_table (x := yL_out) B (hts (.codeWith yL_out cL_out 4 (some .int) [(0, 9, 12, 25), (0, 9, 15, 13)]) List.mem_cons_self)
  subst hsz
  have hD := hD0.self (sz := s.heap.size)
  generalize hAe : va_A [(x, .inr (10, [.ref tp, .ref ds, .ref rr, .ref so, .ref pu, .ref sn, .ref im, .ref cs, .ref cl, .int (0 : Int32)])), (rr, .inr (6, [.ref ds, .ref ri, .int 0, .int 1, .int 0, .int 0])), (ds, .inr (3, [.int pg, .ref dl, .ref dr, .ref dt, .int (1 : Int32), .int (-1 : Int32), .int (0 : Int32)])), (so, .inr (8, [.ref rr, .ref s1, .ref s2, .ref s3, .ref s4, .ref s5, .ref s6, .int (0 : Int32), .int (0 : Int32), .int (-1 : Int32), .int (0 : Int32), .int (0 : Int32)]))] s.heap.size = A at hD hG ⊢
  have hA : ∀ q : Nat, s.heap.size ≤ q → A q := fun q h => by rw [← hAe]; exact Or.inr h
  have hS : va_S A s.heap s.heap [] := va_S.rf
  have hl := lv_entry ([.ref x, .int p0, .ref ho]) (n := 4) (Nat.le_of_ble_eq_true rfl)
  rw [lg_entry_eq]
  generalize (lg_sl ([.ref x, .int p0, .ref ho]) ++ List.replicate (4 - (lg_sl ([.ref x, .int p0, .ref ho])).length) Slot.unset).toArray = ls at hl ⊢
  have hl : lv_has ls 4 [(0, .ref x), (1, .int p0), (2, .ref ho)] := hl
  refine lv_aload_n hx hb dL_out_0 rfl (lv_at hl 2 rfl) ?_
  refine lv_iconst (v := 0) hx hb dL_out_1 (by decide) ?_
  refine lv_aload_n hx hb dL_out_2 rfl (lv_at hl 0 rfl) ?_
  refine lv_iload_n hx hb dL_out_3 rfl (lv_at hl 1 rfl) ?_
  have hPc := hP.sub (ws' := [(x, .inr (10, [.ref tp, .ref ds, .ref rr, .ref so, .ref pu, .ref sn, .ref im, .ref cs, .ref cl, .int (0 : Int32)])), (rr, .inr (6, [.ref ds, .ref ri, .int 0, .int 1, .int 0, .int 0])), (ds, .inr (3, [.int pg, .ref dl, .ref dr, .ref dt, .int (1 : Int32), .int (-1 : Int32), .int (0 : Int32)])), (so, .inr (8, [.ref rr, .ref s1, .ref s2, .ref s3, .ref s4, .ref s5, .ref s6, .int (0 : Int32), .int (0 : Int32), .int (-1 : Int32), .int (0 : Int32), .int (0 : Int32)]))]) [0, 1, 2, 3] rfl
  have hKc := hK.sub (tys' := []) [] rfl
  have hDc := hD.sub (ws' := [(x, .inr (10, [.ref tp, .ref ds, .ref rr, .ref so, .ref pu, .ref sn, .ref im, .ref cs, .ref cl, .int (0 : Int32)])), (rr, .inr (6, [.ref ds, .ref ri, .int 0, .int 1, .int 0, .int 0])), (ds, .inr (3, [.int pg, .ref dl, .ref dr, .ref dt, .int (1 : Int32), .int (-1 : Int32), .int (0 : Int32)])), (so, .inr (8, [.ref rr, .ref s1, .ref s2, .ref s3, .ref s4, .ref s5, .ref s6, .int (0 : Int32), .int (0 : Int32), .int (-1 : Int32), .int (0 : Int32), .int (0 : Int32)]))]) [0, 1, 2, 3] (by decide) rfl
  have hFc := va_free (wc := [(x, .inr (10, [.ref tp, .ref ds, .ref rr, .ref so, .ref pu, .ref sn, .ref im, .ref cs, .ref cl, .int (0 : Int32)])), (rr, .inr (6, [.ref ds, .ref ri, .int 0, .int 1, .int 0, .int 0])), (ds, .inr (3, [.int pg, .ref dl, .ref dr, .ref dt, .int (1 : Int32), .int (-1 : Int32), .int (0 : Int32)])), (so, .inr (8, [.ref rr, .ref s1, .ref s2, .ref s3, .ref s4, .ref s5, .ref s6, .int (0 : Int32), .int (0 : Int32), .int (-1 : Int32), .int (0 : Int32), .int (0 : Int32)]))]) hD hS hA [0, 1, 2, 3] rfl
  refine vx_calli (vx_runV (As := [.int p0]) (rest := [.int (0 : Int32), .ref ho]) ⟨hx, hb, hml, hown, hts⟩ (k_X8_out_3 l hl0 dC dI x p0 rr ds so tp pu sn im cs cl ri pg dl dr dt s1 s2 s3 s4 s5 s6 _ hf0) (cwV 1 hts gL_out_X8_out rfl rfl rfl (by decide +kernel) ⟨Nat.le_of_ble_eq_true rfl, Nat.le_of_ble_eq_true rfl⟩) ⟨fun a U g mk q => by obtain ⟨q0, q1, qP, qK, qD, qG⟩ := q; exact ⟨q0, q1, qP, va_K.moved (u := U) (U := U.calling g mk a) (Vm.Alike.refl U.vm) qK, qD, qG.same rfl rfl⟩, va_recv hK hP (ci := 10) (q := (RX8, TX8, 10)) rfl (q0 := 0) rfl, fun U hU hW => ⟨rfl, by rw [hU], by rw [hU]; exact hPc, va_K.moved hW.alike hKc, hDc.weaken (fun _ _ _ _ => trivial), hG.go hW hU hS hFc⟩⟩ rfl rfl hl.1 rfl (lv_room (Nat.le_of_ble_eq_true rfl)) dL_out_4 ⟨Nat.le_of_ble_eq_true rfl, Nat.le_of_ble_eq_true rfl⟩) hS (fun q _ h => hFc q h) hFc (fun q _ h => hFc q h) (fun E9 ce q9 u t H1 locs1 ht hvm hp hE hz hk hS hcell hv hcl => ?_) (fun r u t H1 locs1 ht hvm hp hB hz hk hS => hp.elim)
  subst hE
  refine vx_catch (name := "java/lang/IllegalArgumentException") hown [⟨0, 9, 12, 25⟩] ⟨0, 9, 15, 13⟩ [] htab (fun z h => by simp only [List.mem_cons, List.not_mem_nil, or_false] at h; rcases h with rfl <;> first | exact Or.inr ⟨by decide, "java/lang/IllegalStateException", (hts (.classLink RL 25 "java/lang/IllegalStateException") (by decide +kernel)), hG.1.2.2.2.1 _ (by decide) _ (by decide) (by decide)⟩) (by decide) (by decide) (va_Nw.use rfl (hG.1.2.2.2.2.2.2 (13, "java/lang/IllegalArgumentException") (by decide +kernel))) (va_Nw.use rfl (hG.1.2.2.1 _ (by decide))) hcell hv hcl ?_
  refine W.eq (g2 := F0 m 15 ls [.ref q9]) rfl ?_
  have hP : va_P (dC, dI) vwCl [] H1 := fun k q h => by simp at h
  have hD : va_D A [] := ⟨fun i j p q h => by simp at h, fun k q h => by simp at h⟩
  generalize H1 = H at hP hS ⊢
  refine lv_astore_n (lv' := [(3, .ref q9), (0, .ref x), (1, .int p0), (2, .ref ho)]) hx hb dL_out_15 rfl hl (by decide) rfl (fun ls hl => ?_)
  refine lv_iconst (v := 2) hx hb dL_out_16 (by decide) ?_
  have hP := hP.sub (ws' := []) [] rfl
  have hD := hD.sub (ws' := []) [] (by decide) rfl
  have hK := hK.sub (tys' := []) [] rfl
  exact W.iret hx hb hr (fun t ht hW => ⟨⟨_, (), rfl, rfl, by rw [ht]; exact hP, va_K.moved hW.alike hK, hD⟩, hS.F ht⟩) hS.2.2 dL_out_17

set_option maxHeartbeats 4000000 in
set_option maxRecDepth 100000 in
theorem k_X9_out_3 (l : Launch) (dC : Nat → ClassId) (dI : Nat → Nat → Nat) (mo : Nat) (p0 : Int32) (m_digestAt : Nat) (m_isGroup : Nat) (m_counts : Nat) (m_disk : Nat) (P : Nat) (m_tape : Nat) (m_slots : Nat) (m_leaves : Nat) (m_fresh : Nat) (m_versionRow : Nat) (m_state : Nat) (m_names : Nat) (m_keptRow : Nat) (m_inSlot : Nat) (m_inAt : Nat) (m_inSize : Nat) (m_inDigest : Nat) (d_digestAt : ClassId) (d_isGroup : ClassId) (d_counts : ClassId) (sz : Nat) (hf0 : p0 < 0) : Met l yX9_out wsX9_out ({ frames := 3, cells := 0, slots := 0, locals := 65 }) (va_Pc [.ref mo, .int p0] (fun U => U.heap.size = sz ∧ va_P (dC, dI) vwCl [(mo, .inr (11, [.ref m_disk, .int (nI P), .int ((8224 : Int32) + ((26 : Int32) * (nI P))), .int (1 : Int32), .int 0, .int (-1 : Int32), .int 0, .int (0 : Int32), .ref m_tape, .int 0, .ref m_slots, .ref m_leaves, .int 0, .int 0, .ref m_fresh, .int 0, .int 0, .int 0, .ref m_digestAt, .ref m_isGroup, .ref m_counts, .int 0, .int 0, .long 0, .int 0, .ref m_versionRow, .int 0, .long 0, .ref m_state, .ref m_names, .int 0, .ref m_keptRow, .int 0, .ref m_inSlot, .ref m_inAt, .ref m_inSize, .ref m_inDigest, .int 0])), (m_digestAt, .inl (d_digestAt, 128, .inr (.inl (fun _ => 0)))), (m_isGroup, .inl (d_isGroup, 128, .inl (fun _ => 0))), (m_counts, .inl (d_counts, 128, .inl (fun _ => 0)))] U.heap ∧ va_K (dC, dI) vwCl [(d_digestAt, .long), (d_isGroup, .boolean), (d_counts, .boolean)] U ∧ va_D (fun _ => True) [(mo, .inr (11, [.ref m_disk, .int (nI P), .int ((8224 : Int32) + ((26 : Int32) * (nI P))), .int (1 : Int32), .int 0, .int (-1 : Int32), .int 0, .int (0 : Int32), .ref m_tape, .int 0, .ref m_slots, .ref m_leaves, .int 0, .int 0, .ref m_fresh, .int 0, .int 0, .int 0, .ref m_digestAt, .ref m_isGroup, .ref m_counts, .int 0, .int 0, .long 0, .int 0, .ref m_versionRow, .int 0, .long 0, .ref m_state, .ref m_names, .int 0, .ref m_keptRow, .int 0, .ref m_inSlot, .ref m_inAt, .ref m_inSize, .ref m_inDigest, .int 0])), (m_digestAt, .inl (d_digestAt, 128, .inr (.inl (fun _ => 0)))), (m_isGroup, .inl (d_isGroup, 128, .inl (fun _ => 0))), (m_counts, .inl (d_counts, 128, .inl (fun _ => 0)))])) (va_Qi (fun r (_ : Unit) => r = (0 : Int32)) (fun (_ : Unit) t => va_P (dC, dI) vwCl [(mo, .inr (11, [.ref m_disk, .int (nI P), .int ((8224 : Int32) + ((26 : Int32) * (nI P))), .int (1 : Int32), .int 0, .int (-1 : Int32), .int 0, .int (0 : Int32), .ref m_tape, .int 0, .ref m_slots, .ref m_leaves, .int 0, .int (2 : Int32), .ref m_fresh, .int 0, .int (0 : Int32), .int (0 : Int32), .ref m_digestAt, .ref m_isGroup, .ref m_counts, .int (-1 : Int32), .int (0 : Int32), .long (0 : Int64), .int (0 : Int32), .ref m_versionRow, .int (0 : Int32), .long (0 : Int64), .ref m_state, .ref m_names, .int 0, .ref m_keptRow, .int 0, .ref m_inSlot, .ref m_inAt, .ref m_inSize, .ref m_inDigest, .int 0]))] t.heap ∧ va_K (dC, dI) vwCl [(d_digestAt, .long), (d_isGroup, .boolean), (d_counts, .boolean)] t ∧ va_D (va_A [(mo, .inr (11, [.ref m_disk, .int (nI P), .int ((8224 : Int32) + ((26 : Int32) * (nI P))), .int (1 : Int32), .int 0, .int (-1 : Int32), .int 0, .int (0 : Int32), .ref m_tape, .int 0, .ref m_slots, .ref m_leaves, .int 0, .int 0, .ref m_fresh, .int 0, .int 0, .int 0, .ref m_digestAt, .ref m_isGroup, .ref m_counts, .int 0, .int 0, .long 0, .int 0, .ref m_versionRow, .int 0, .long 0, .ref m_state, .ref m_names, .int 0, .ref m_keptRow, .int 0, .ref m_inSlot, .ref m_inAt, .ref m_inSize, .ref m_inDigest, .int 0])), (m_digestAt, .inl (d_digestAt, 128, .inr (.inl (fun _ => 0)))), (m_isGroup, .inl (d_isGroup, 128, .inl (fun _ => 0))), (m_counts, .inl (d_counts, 128, .inl (fun _ => 0)))] sz) [(mo, .inr (11, [.ref m_disk, .int (nI P), .int ((8224 : Int32) + ((26 : Int32) * (nI P))), .int (1 : Int32), .int 0, .int (-1 : Int32), .int 0, .int (0 : Int32), .ref m_tape, .int 0, .ref m_slots, .ref m_leaves, .int 0, .int (2 : Int32), .ref m_fresh, .int 0, .int (0 : Int32), .int (0 : Int32), .ref m_digestAt, .ref m_isGroup, .ref m_counts, .int (-1 : Int32), .int (0 : Int32), .long (0 : Int64), .int (0 : Int32), .ref m_versionRow, .int (0 : Int32), .long (0 : Int64), .ref m_state, .ref m_names, .int 0, .ref m_keptRow, .int 0, .ref m_inSlot, .ref m_inAt, .ref m_inSize, .ref m_inDigest, .int 0]))]) (va_A [(mo, .inr (11, [.ref m_disk, .int (nI P), .int ((8224 : Int32) + ((26 : Int32) * (nI P))), .int (1 : Int32), .int 0, .int (-1 : Int32), .int 0, .int (0 : Int32), .ref m_tape, .int 0, .ref m_slots, .ref m_leaves, .int 0, .int 0, .ref m_fresh, .int 0, .int 0, .int 0, .ref m_digestAt, .ref m_isGroup, .ref m_counts, .int 0, .int 0, .long 0, .int 0, .ref m_versionRow, .int 0, .long 0, .ref m_state, .ref m_names, .int 0, .ref m_keptRow, .int 0, .ref m_inSlot, .ref m_inAt, .ref m_inSize, .ref m_inDigest, .int 0])), (m_digestAt, .inl (d_digestAt, 128, .inr (.inl (fun _ => 0)))), (m_isGroup, .inl (d_isGroup, 128, .inl (fun _ => 0))), (m_counts, .inl (d_counts, 128, .inl (fun _ => 0)))] sz)) 0 0 (va_A [(mo, .inr (11, [.ref m_disk, .int (nI P), .int ((8224 : Int32) + ((26 : Int32) * (nI P))), .int (1 : Int32), .int 0, .int (-1 : Int32), .int 0, .int (0 : Int32), .ref m_tape, .int 0, .ref m_slots, .ref m_leaves, .int 0, .int 0, .ref m_fresh, .int 0, .int 0, .int 0, .ref m_digestAt, .ref m_isGroup, .ref m_counts, .int 0, .int 0, .long 0, .int 0, .ref m_versionRow, .int 0, .long 0, .ref m_state, .ref m_names, .int 0, .ref m_keptRow, .int 0, .ref m_inSlot, .ref m_inAt, .ref m_inSize, .ref m_inDigest, .int 0])), (m_digestAt, .inl (d_digestAt, 128, .inr (.inl (fun _ => 0)))), (m_isGroup, .inl (d_isGroup, 128, .inl (fun _ => 0))), (m_counts, .inl (d_counts, 128, .inl (fun _ => 0)))] sz) := by
  refine Met.ofW (cc := cX9_out) (maxL := 6) (ret := (some .int)) (by decide) rfl ?_
  intro p e s m args below meth c s₁ B hml hv
  obtain ⟨rfl, hsz, hP, hK, hD0⟩ := hv
  have hx := B.exec
  have hb := B.bytes
  have hr := B.returns
  have hts := atoms_spec (ws := wsX9_out) B.pre
  have hown : s.vm.findClass RX9 = some m.cls := findClass_of_methodNamed B.named
  have hlocks := B.notSynchronized
  subst hsz
  have hD := hD0.self (sz := s.heap.size)
  generalize hAe : va_A [(mo, .inr (11, [.ref m_disk, .int (nI P), .int ((8224 : Int32) + ((26 : Int32) * (nI P))), .int (1 : Int32), .int 0, .int (-1 : Int32), .int 0, .int (0 : Int32), .ref m_tape, .int 0, .ref m_slots, .ref m_leaves, .int 0, .int 0, .ref m_fresh, .int 0, .int 0, .int 0, .ref m_digestAt, .ref m_isGroup, .ref m_counts, .int 0, .int 0, .long 0, .int 0, .ref m_versionRow, .int 0, .long 0, .ref m_state, .ref m_names, .int 0, .ref m_keptRow, .int 0, .ref m_inSlot, .ref m_inAt, .ref m_inSize, .ref m_inDigest, .int 0])), (m_digestAt, .inl (d_digestAt, 128, .inr (.inl (fun _ => 0)))), (m_isGroup, .inl (d_isGroup, 128, .inl (fun _ => 0))), (m_counts, .inl (d_counts, 128, .inl (fun _ => 0)))] s.heap.size = A at hD ⊢
  have hA : ∀ q : Nat, s.heap.size ≤ q → A q := fun q h => by rw [← hAe]; exact Or.inr h
  have hS : va_S A s.heap s.heap [] := va_S.rf
  have hl := lv_entry ([.ref mo, .int p0]) (n := 6) (Nat.le_of_ble_eq_true rfl)
  rw [lg_entry_eq]
  generalize (lg_sl ([.ref mo, .int p0]) ++ List.replicate (6 - (lg_sl ([.ref mo, .int p0])).length) Slot.unset).toArray = ls at hl ⊢
  have hl : lv_has ls 6 [(0, .ref mo), (1, .int p0)] := hl
  refine lv_aload_n hx hb dX9_out_0 rfl (lv_at hl 0 rfl) ?_
  refine lv_aload_n hx hb dX9_out_1 rfl (lv_at hl 0 rfl) ?_
  refine va_get (D := (dC, dI)) (ci := 11) (v := .int (1 : Int32)) (C := RX9) (T := TX9) (N := 38) hx hb hts (by decide +kernel) hown hK hP 0 rfl rfl 3 (by decide) (hts (.fieldLink RX9 72 "BlockLogModel" "on" "Z") (by decide +kernel)) (fun _ h9 => h9) rfl dX9_out_2 ?_
  refine lv_if_eq (tgt := 12) hx hb dX9_out_5 (by decide) (fun c_1 => ?_) (fun c_1 => ?_)
  · skip
    exact absurd c_1 (by decide)
  · skip
    refine lv_iconst (v := 0) hx hb dX9_out_8 (by decide) ?_
    refine lv_goto (tgt := 13) hx hb dX9_out_9 (by decide) ?_
    refine va_put (D := (dC, dI)) (ci := 11) (v := .int (0 : Int32)) (ty := .int) (C := RX9) (T := TX9) (N := 38) hx hb hts (by decide +kernel) tyX9 tyX9_ok nmX9 hown hK hP hD hS 0 rfl rfl 13 (by decide) (hts (.fieldLink RX9 91 "BlockLogModel" "thrown" "I") (by decide +kernel)) (fun _ h9 => h9) rfl (by decide +kernel) rfl rfl (Nat.le_of_ble_eq_true rfl) dX9_out_13 (fun H locs hP hD hS => ?_)
    have hP : va_P (dC, dI) vwCl [(mo, .inr (11, [.ref m_disk, .int (nI P), .int ((8224 : Int32) + ((26 : Int32) * (nI P))), .int (1 : Int32), .int 0, .int (-1 : Int32), .int 0, .int (0 : Int32), .ref m_tape, .int 0, .ref m_slots, .ref m_leaves, .int 0, .int (0 : Int32), .ref m_fresh, .int 0, .int 0, .int 0, .ref m_digestAt, .ref m_isGroup, .ref m_counts, .int 0, .int 0, .long 0, .int 0, .ref m_versionRow, .int 0, .long 0, .ref m_state, .ref m_names, .int 0, .ref m_keptRow, .int 0, .ref m_inSlot, .ref m_inAt, .ref m_inSize, .ref m_inDigest, .int 0])), (m_digestAt, .inl (d_digestAt, 128, .inr (.inl (fun _ => 0)))), (m_isGroup, .inl (d_isGroup, 128, .inl (fun _ => 0))), (m_counts, .inl (d_counts, 128, .inl (fun _ => 0)))] H := hP
    have hD : va_D A [(mo, .inr (11, [.ref m_disk, .int (nI P), .int ((8224 : Int32) + ((26 : Int32) * (nI P))), .int (1 : Int32), .int 0, .int (-1 : Int32), .int 0, .int (0 : Int32), .ref m_tape, .int 0, .ref m_slots, .ref m_leaves, .int 0, .int (0 : Int32), .ref m_fresh, .int 0, .int 0, .int 0, .ref m_digestAt, .ref m_isGroup, .ref m_counts, .int 0, .int 0, .long 0, .int 0, .ref m_versionRow, .int 0, .long 0, .ref m_state, .ref m_names, .int 0, .ref m_keptRow, .int 0, .ref m_inSlot, .ref m_inAt, .ref m_inSize, .ref m_inDigest, .int 0])), (m_digestAt, .inl (d_digestAt, 128, .inr (.inl (fun _ => 0)))), (m_isGroup, .inl (d_isGroup, 128, .inl (fun _ => 0))), (m_counts, .inl (d_counts, 128, .inl (fun _ => 0)))] := hD
    refine lv_aload_n hx hb dX9_out_16 rfl (lv_at hl 0 rfl) ?_
    refine va_get (D := (dC, dI)) (ci := 11) (v := .int (0 : Int32)) (C := RX9) (T := TX9) (N := 38) hx hb hts (by decide +kernel) hown hK hP 0 rfl rfl 13 (by decide) (hts (.fieldLink RX9 91 "BlockLogModel" "thrown" "I") (by decide +kernel)) (fun _ h9 => h9) rfl dX9_out_17 ?_
    refine lv_if_le (tgt := 25) hx hb dX9_out_20 (by decide) (fun c_2 => ?_) (fun c_2 => ?_)
    · skip
      refine lv_aload_n hx hb dX9_out_25 rfl (lv_at hl 0 rfl) ?_
      have hPc := hP.sub (ws' := [(mo, .inr (11, [.ref m_disk, .int (nI P), .int ((8224 : Int32) + ((26 : Int32) * (nI P))), .int (1 : Int32), .int 0, .int (-1 : Int32), .int 0, .int (0 : Int32), .ref m_tape, .int 0, .ref m_slots, .ref m_leaves, .int 0, .int (0 : Int32), .ref m_fresh, .int 0, .int 0, .int 0, .ref m_digestAt, .ref m_isGroup, .ref m_counts, .int 0, .int 0, .long 0, .int 0, .ref m_versionRow, .int 0, .long 0, .ref m_state, .ref m_names, .int 0, .ref m_keptRow, .int 0, .ref m_inSlot, .ref m_inAt, .ref m_inSize, .ref m_inDigest, .int 0])), (m_digestAt, .inl (d_digestAt, 128, .inr (.inl (fun _ => 0)))), (m_isGroup, .inl (d_isGroup, 128, .inl (fun _ => 0))), (m_counts, .inl (d_counts, 128, .inl (fun _ => 0)))]) [0, 1, 2, 3] rfl
      have hKc := hK.sub (tys' := [(d_digestAt, .long), (d_isGroup, .boolean), (d_counts, .boolean)]) [0, 1, 2] rfl
      have hDc := hD.sub (ws' := [(mo, .inr (11, [.ref m_disk, .int (nI P), .int ((8224 : Int32) + ((26 : Int32) * (nI P))), .int (1 : Int32), .int 0, .int (-1 : Int32), .int 0, .int (0 : Int32), .ref m_tape, .int 0, .ref m_slots, .ref m_leaves, .int 0, .int (0 : Int32), .ref m_fresh, .int 0, .int 0, .int 0, .ref m_digestAt, .ref m_isGroup, .ref m_counts, .int 0, .int 0, .long 0, .int 0, .ref m_versionRow, .int 0, .long 0, .ref m_state, .ref m_names, .int 0, .ref m_keptRow, .int 0, .ref m_inSlot, .ref m_inAt, .ref m_inSize, .ref m_inDigest, .int 0])), (m_digestAt, .inl (d_digestAt, 128, .inr (.inl (fun _ => 0)))), (m_isGroup, .inl (d_isGroup, 128, .inl (fun _ => 0))), (m_counts, .inl (d_counts, 128, .inl (fun _ => 0)))]) [0, 1, 2, 3] (by decide) rfl
      have hFc := va_free (wc := [(mo, .inr (11, [.ref m_disk, .int (nI P), .int ((8224 : Int32) + ((26 : Int32) * (nI P))), .int (1 : Int32), .int 0, .int (-1 : Int32), .int 0, .int (0 : Int32), .ref m_tape, .int 0, .ref m_slots, .ref m_leaves, .int 0, .int (0 : Int32), .ref m_fresh, .int 0, .int 0, .int 0, .ref m_digestAt, .ref m_isGroup, .ref m_counts, .int 0, .int 0, .long 0, .int 0, .ref m_versionRow, .int 0, .long 0, .ref m_state, .ref m_names, .int 0, .ref m_keptRow, .int 0, .ref m_inSlot, .ref m_inAt, .ref m_inSize, .ref m_inDigest, .int 0])), (m_digestAt, .inl (d_digestAt, 128, .inr (.inl (fun _ => 0)))), (m_isGroup, .inl (d_isGroup, 128, .inl (fun _ => 0))), (m_counts, .inl (d_counts, 128, .inl (fun _ => 0)))]) hD hS hA [0, 1, 2, 3] rfl
      refine va_callv (va_runV (As := []) (rest := []) ⟨hx, hb, hml, hown, hts⟩ (k_X9_read_1 l dC dI mo m_digestAt m_isGroup m_counts m_disk P m_tape m_slots m_leaves m_fresh m_versionRow m_state m_names m_keptRow m_inSlot m_inAt m_inSize m_inDigest d_digestAt d_isGroup d_counts _) (cwV 0 hts gX9_out_X9_read rfl rfl rfl (by decide +kernel) ⟨Nat.le_of_ble_eq_true rfl, Nat.le_of_ble_eq_true rfl⟩) ⟨fun a U g mk q => by obtain ⟨q0, q1, qP, qK, qD⟩ := q; exact ⟨q0, q1, qP, va_K.moved (u := U) (U := U.calling g mk a) (Vm.Alike.refl U.vm) qK, qD⟩, va_recv hK hP (ci := 11) (q := (RX9, TX9, 38)) rfl (q0 := 0) rfl, fun U hU hW => ⟨rfl, by rw [hU], by rw [hU]; exact hPc, va_K.moved hW.alike hKc, hDc.weaken (fun _ _ _ _ => trivial)⟩⟩ rfl rfl hl.1 rfl (lv_room (Nat.le_of_ble_eq_true rfl)) dX9_out_26 ⟨Nat.le_of_ble_eq_true rfl, Nat.le_of_ble_eq_true rfl⟩) hS (fun q _ h => hFc q h) hFc (fun u t H1 locs ht hvm er_3 hB hz1 hk1 hS => ?_)
      obtain ⟨hP1, hK1, hD1⟩ := hB
      rw [ht] at hP1
      obtain ⟨hP, hD⟩ := va_join (wr := []) (w1 := [(mo, .inr (11, [.ref m_disk, .int (nI P), .int ((8224 : Int32) + ((26 : Int32) * (nI P))), .int (1 : Int32), .int 0, .int (-1 : Int32), .int 0, .int (0 : Int32), .ref m_tape, .int 0, .ref m_slots, .ref m_leaves, .int 0, .int 0, .ref m_fresh, .int 0, .int (0 : Int32), .int (0 : Int32), .ref m_digestAt, .ref m_isGroup, .ref m_counts, .int (-1 : Int32), .int (0 : Int32), .long (0 : Int64), .int (0 : Int32), .ref m_versionRow, .int (0 : Int32), .long (0 : Int64), .ref m_state, .ref m_names, .int 0, .ref m_keptRow, .int 0, .ref m_inSlot, .ref m_inAt, .ref m_inSize, .ref m_inDigest, .int 0])), (m_digestAt, .inl (d_digestAt, 128, .inr (.inl (zr_L 128)))), (m_isGroup, .inl (d_isGroup, 128, .inl (zr_Z 128))), (m_counts, .inl (d_counts, 128, .inl (zr_Z 128)))]) hP hD [0, 1, 2, 3] [] rfl rfl (by decide) (by decide) hk1 hFc hP1 hD1
      clear hPc hDc hFc hP1 hD1 hk1 hz1
      generalize H1 = H at hP hS ⊢
      have hP : va_P (dC, dI) vwCl [(mo, .inr (11, [.ref m_disk, .int (nI P), .int ((8224 : Int32) + ((26 : Int32) * (nI P))), .int (1 : Int32), .int 0, .int (-1 : Int32), .int 0, .int (0 : Int32), .ref m_tape, .int 0, .ref m_slots, .ref m_leaves, .int 0, .int 0, .ref m_fresh, .int 0, .int (0 : Int32), .int (0 : Int32), .ref m_digestAt, .ref m_isGroup, .ref m_counts, .int (-1 : Int32), .int (0 : Int32), .long (0 : Int64), .int (0 : Int32), .ref m_versionRow, .int (0 : Int32), .long (0 : Int64), .ref m_state, .ref m_names, .int 0, .ref m_keptRow, .int 0, .ref m_inSlot, .ref m_inAt, .ref m_inSize, .ref m_inDigest, .int 0])), (m_digestAt, .inl (d_digestAt, 128, .inr (.inl (zr_L 128)))), (m_isGroup, .inl (d_isGroup, 128, .inl (zr_Z 128))), (m_counts, .inl (d_counts, 128, .inl (zr_Z 128)))] H := hP
      have hD : va_D A [(mo, .inr (11, [.ref m_disk, .int (nI P), .int ((8224 : Int32) + ((26 : Int32) * (nI P))), .int (1 : Int32), .int 0, .int (-1 : Int32), .int 0, .int (0 : Int32), .ref m_tape, .int 0, .ref m_slots, .ref m_leaves, .int 0, .int 0, .ref m_fresh, .int 0, .int (0 : Int32), .int (0 : Int32), .ref m_digestAt, .ref m_isGroup, .ref m_counts, .int (-1 : Int32), .int (0 : Int32), .long (0 : Int64), .int (0 : Int32), .ref m_versionRow, .int (0 : Int32), .long (0 : Int64), .ref m_state, .ref m_names, .int 0, .ref m_keptRow, .int 0, .ref m_inSlot, .ref m_inAt, .ref m_inSize, .ref m_inDigest, .int 0])), (m_digestAt, .inl (d_digestAt, 128, .inr (.inl (zr_L 128)))), (m_isGroup, .inl (d_isGroup, 128, .inl (zr_Z 128))), (m_counts, .inl (d_counts, 128, .inl (zr_Z 128)))] := hD
      refine lv_aload_n hx hb dX9_out_29 rfl (lv_at hl 0 rfl) ?_
      refine lv_iload_n hx hb dX9_out_30 rfl (lv_at hl 1 rfl) ?_
      refine lv_if_eq (tgt := 42) hx hb dX9_out_31 (by decide) (fun c_4 => ?_) (fun c_4 => ?_)
      · skip
        exact absurd c_4 (Int32.ne_of_lt hf0)
      · skip
        refine lv_aload_n hx hb dX9_out_34 rfl (lv_at hl 0 rfl) ?_
        refine lv_iload_n hx hb dX9_out_35 rfl (lv_at hl 1 rfl) ?_
        have hPc := hP.sub (ws' := [(mo, .inr (11, [.ref m_disk, .int (nI P), .int ((8224 : Int32) + ((26 : Int32) * (nI P))), .int (1 : Int32), .int 0, .int (-1 : Int32), .int 0, .int (0 : Int32), .ref m_tape, .int 0, .ref m_slots, .ref m_leaves, .int 0, .int 0, .ref m_fresh, .int 0, .int (0 : Int32), .int (0 : Int32), .ref m_digestAt, .ref m_isGroup, .ref m_counts, .int (-1 : Int32), .int (0 : Int32), .long (0 : Int64), .int (0 : Int32), .ref m_versionRow, .int (0 : Int32), .long (0 : Int64), .ref m_state, .ref m_names, .int 0, .ref m_keptRow, .int 0, .ref m_inSlot, .ref m_inAt, .ref m_inSize, .ref m_inDigest, .int 0]))]) [0] rfl
        have hKc := hK.sub (tys' := []) [] rfl
        refine vp_callSi (va_Run.run (va_runV (As := [.int p0]) (rest := [.ref mo]) ⟨hx, hb, hml, hown, hts⟩ (k_X9_isKept_1 l dC dI mo p0 m_disk P m_tape m_slots m_leaves m_fresh m_digestAt m_isGroup m_counts m_versionRow m_state m_names m_keptRow m_inSlot m_inAt m_inSize m_inDigest hf0) (cwV 1 hts gX9_out_X9_isKept rfl rfl rfl (by decide +kernel) ⟨Nat.le_of_ble_eq_true rfl, Nat.le_of_ble_eq_true rfl⟩) ⟨fun a U g mk q => by obtain ⟨q0, qP, qK⟩ := q; exact ⟨q0, qP, va_K.moved (u := U) (U := U.calling g mk a) (Vm.Alike.refl U.vm) qK⟩, va_recv hK hP (ci := 11) (q := (RX9, TX9, 38)) rfl (q0 := 0) rfl, fun U hU hW => ⟨rfl, by rw [hU]; exact hPc, va_K.moved hW.alike hKc⟩⟩ rfl rfl hl.1 rfl (lv_room (Nat.le_of_ble_eq_true rfl)) dX9_out_36 ⟨Nat.le_of_ble_eq_true rfl, Nat.le_of_ble_eq_true rfl⟩)) (fun r_5 er_5 => ?_)
        subst er_5
        refine lv_if_ne (tgt := 46) hx hb dX9_out_39 (by decide) (fun c_6 => ?_) (fun c_6 => ?_)
        · skip
          exact absurd (by decide) c_6
        · skip
          refine lv_iconst (v := 2) hx hb dX9_out_42 (by decide) ?_
          refine lv_goto (tgt := 47) hx hb dX9_out_43 (by decide) ?_
          refine va_put (D := (dC, dI)) (ci := 11) (v := .int (2 : Int32)) (ty := .int) (C := RX9) (T := TX9) (N := 38) hx hb hts (by decide +kernel) tyX9 tyX9_ok nmX9 hown hK hP hD hS 0 rfl rfl 13 (by decide) (hts (.fieldLink RX9 91 "BlockLogModel" "thrown" "I") (by decide +kernel)) (fun _ h9 => h9) rfl (by decide +kernel) rfl rfl (Nat.le_of_ble_eq_true rfl) dX9_out_47 (fun H locs hP hD hS => ?_)
          have hP : va_P (dC, dI) vwCl [(mo, .inr (11, [.ref m_disk, .int (nI P), .int ((8224 : Int32) + ((26 : Int32) * (nI P))), .int (1 : Int32), .int 0, .int (-1 : Int32), .int 0, .int (0 : Int32), .ref m_tape, .int 0, .ref m_slots, .ref m_leaves, .int 0, .int (2 : Int32), .ref m_fresh, .int 0, .int (0 : Int32), .int (0 : Int32), .ref m_digestAt, .ref m_isGroup, .ref m_counts, .int (-1 : Int32), .int (0 : Int32), .long (0 : Int64), .int (0 : Int32), .ref m_versionRow, .int (0 : Int32), .long (0 : Int64), .ref m_state, .ref m_names, .int 0, .ref m_keptRow, .int 0, .ref m_inSlot, .ref m_inAt, .ref m_inSize, .ref m_inDigest, .int 0])), (m_digestAt, .inl (d_digestAt, 128, .inr (.inl (zr_L 128)))), (m_isGroup, .inl (d_isGroup, 128, .inl (zr_Z 128))), (m_counts, .inl (d_counts, 128, .inl (zr_Z 128)))] H := hP
          have hD : va_D A [(mo, .inr (11, [.ref m_disk, .int (nI P), .int ((8224 : Int32) + ((26 : Int32) * (nI P))), .int (1 : Int32), .int 0, .int (-1 : Int32), .int 0, .int (0 : Int32), .ref m_tape, .int 0, .ref m_slots, .ref m_leaves, .int 0, .int (2 : Int32), .ref m_fresh, .int 0, .int (0 : Int32), .int (0 : Int32), .ref m_digestAt, .ref m_isGroup, .ref m_counts, .int (-1 : Int32), .int (0 : Int32), .long (0 : Int64), .int (0 : Int32), .ref m_versionRow, .int (0 : Int32), .long (0 : Int64), .ref m_state, .ref m_names, .int 0, .ref m_keptRow, .int 0, .ref m_inSlot, .ref m_inAt, .ref m_inSize, .ref m_inDigest, .int 0])), (m_digestAt, .inl (d_digestAt, 128, .inr (.inl (zr_L 128)))), (m_isGroup, .inl (d_isGroup, 128, .inl (zr_Z 128))), (m_counts, .inl (d_counts, 128, .inl (zr_Z 128)))] := hD
          refine lv_aload_n hx hb dX9_out_50 rfl (lv_at hl 0 rfl) ?_
          refine va_get (D := (dC, dI)) (ci := 11) (v := .int (2 : Int32)) (C := RX9) (T := TX9) (N := 38) hx hb hts (by decide +kernel) hown hK hP 0 rfl rfl 13 (by decide) (hts (.fieldLink RX9 91 "BlockLogModel" "thrown" "I") (by decide +kernel)) (fun _ h9 => h9) rfl dX9_out_51 ?_
          refine lv_if_le (tgt := 59) hx hb dX9_out_54 (by decide) (fun c_7 => ?_) (fun c_7 => ?_)
          · skip
            exact absurd c_7 (by decide)
          · skip
            refine lv_iconst (v := 0) hx hb dX9_out_57 (by decide) ?_
            have hP := hP.sub (ws' := [(mo, .inr (11, [.ref m_disk, .int (nI P), .int ((8224 : Int32) + ((26 : Int32) * (nI P))), .int (1 : Int32), .int 0, .int (-1 : Int32), .int 0, .int (0 : Int32), .ref m_tape, .int 0, .ref m_slots, .ref m_leaves, .int 0, .int (2 : Int32), .ref m_fresh, .int 0, .int (0 : Int32), .int (0 : Int32), .ref m_digestAt, .ref m_isGroup, .ref m_counts, .int (-1 : Int32), .int (0 : Int32), .long (0 : Int64), .int (0 : Int32), .ref m_versionRow, .int (0 : Int32), .long (0 : Int64), .ref m_state, .ref m_names, .int 0, .ref m_keptRow, .int 0, .ref m_inSlot, .ref m_inAt, .ref m_inSize, .ref m_inDigest, .int 0]))]) [0] rfl
            have hD := hD.sub (ws' := [(mo, .inr (11, [.ref m_disk, .int (nI P), .int ((8224 : Int32) + ((26 : Int32) * (nI P))), .int (1 : Int32), .int 0, .int (-1 : Int32), .int 0, .int (0 : Int32), .ref m_tape, .int 0, .ref m_slots, .ref m_leaves, .int 0, .int (2 : Int32), .ref m_fresh, .int 0, .int (0 : Int32), .int (0 : Int32), .ref m_digestAt, .ref m_isGroup, .ref m_counts, .int (-1 : Int32), .int (0 : Int32), .long (0 : Int64), .int (0 : Int32), .ref m_versionRow, .int (0 : Int32), .long (0 : Int64), .ref m_state, .ref m_names, .int 0, .ref m_keptRow, .int 0, .ref m_inSlot, .ref m_inAt, .ref m_inSize, .ref m_inDigest, .int 0]))]) [0] (by decide) rfl
            have hK := hK.sub (tys' := [(d_digestAt, .long), (d_isGroup, .boolean), (d_counts, .boolean)]) [0, 1, 2] rfl
            exact W.iret hx hb hr (fun t ht hW => ⟨⟨_, (), rfl, rfl, by rw [ht]; exact hP, va_K.moved hW.alike hK, hD⟩, hS.F ht⟩) hS.2.2 dX9_out_58
    · skip
      exact absurd (by decide) c_2

set_option maxHeartbeats 4000000 in
set_option maxRecDepth 100000 in
theorem k_X5_read_1 (l : Launch) (dC : Nat → ClassId) (dI : Nat → Nat → Nat) (sn : Nat) (tp : Nat) (tb : Nat)  : Met l yX5_read wsX5_read ({ frames := 0, cells := 0, slots := 0, locals := 0 }) (va_Pc [.ref sn, .ref tp] (fun U => va_P (dC, dI) vwCl [(tp, .inr (9, [.ref tb, .int (0 : Int32)]))] U.heap ∧ va_K (dC, dI) vwCl [] U ∧ gx_W U)) (vp_Si (fun r => r = (0 : Int32))) 0 0 (fun _ => False) := by
  refine Met.ofW (cc := cX5_read) (maxL := 3) (ret := (some .boolean)) (by decide) rfl ?_
  intro p e s m args below meth c s₁ B hml hv
  obtain ⟨rfl, hP, hK, hG⟩ := hv
  have hx := B.exec
  have hb := B.bytes
  have hr := B.returns
  have hts := atoms_spec (ws := wsX5_read) B.pre
  have hown : s.vm.findClass RX5 = some m.cls := findClass_of_methodNamed B.named
  have hlocks := B.notSynchronized
  have hl := lv_entry ([.ref sn, .ref tp]) (n := 3) (Nat.le_of_ble_eq_true rfl)
  rw [lg_entry_eq]
  generalize (lg_sl ([.ref sn, .ref tp]) ++ List.replicate (3 - (lg_sl ([.ref sn, .ref tp])).length) Slot.unset).toArray = ls at hl ⊢
  have hl : lv_has ls 3 [(0, .ref sn), (1, .ref tp)] := hl
  refine lv_aload_n hx hb dX5_read_0 rfl (lv_at hl 1 rfl) ?_
  refine va_getN (D := (dC, dI)) (ci := 9) (v := .int (0 : Int32)) (C := RX7) (T := TX7) (N := 2) hx hb hts (by decide +kernel) hown hK hP 0 rfl rfl 1 (by decide) (va_Nw.use rfl (hG.1 ("BlockLog$Snapshot", 36, "BlockLog$Tape", "count", "I", "BlockLog") (by decide +kernel))) (fun _ h9 => h9) rfl dX5_read_1 ?_
  refine lv_bipush (v := 8) hx hb dX5_read_4 (by decide) ?_
  refine lv_isub hx hb dX5_read_6 ?_
  refine lv_istore_n (lv' := [(2, .int ((0 : Int32) - (8 : Int32))), (0, .ref sn), (1, .ref tp)]) hx hb dX5_read_7 rfl hl (by decide) rfl (fun ls hl => ?_)
  refine lv_iload_n hx hb dX5_read_8 rfl (lv_at hl 0 rfl) ?_
  refine lv_bipush (v := 13) hx hb dX5_read_9 (by decide) ?_
  refine lv_icmp_ge (tgt := 16) hx hb dX5_read_11 (by decide) (fun c_1 => ?_) (fun c_1 => ?_)
  · skip
    exact absurd c_1 (by decide)
  · skip
    refine lv_iconst (v := 0) hx hb dX5_read_14 (by decide) ?_
    exact W.zret hx hb hr rfl (fun t ht hW => ⟨_, rfl, rfl, ht⟩) (fun q h => by cases h) dX5_read_15

set_option maxHeartbeats 4000000 in
set_option maxRecDepth 100000 in
theorem k_X8_in_1 (l : Launch) (dC : Nat → ClassId) (dI : Nat → Nat → Nat) (x : Nat) (tp : Nat) (rr : Nat) (ds : Nat) (sn : Nat) (so : Nat) (pu : Nat) (im : Nat) (cs : Nat) (cl : Nat) (tb : Nat) (ri : Nat) (pg : Int32) (dl : Nat) (dr : Nat) (dt : Nat) (n1 : Nat) (n2 : Nat) (n3 : Nat) (n4 : Nat)  : Met l yX8_in wsX8_in ({ frames := 1, cells := 0, slots := 0, locals := 22 }) (va_Pc [.ref x] (fun U => va_P (dC, dI) vwCl [(x, .inr (10, [.ref tp, .ref ds, .ref rr, .ref so, .ref pu, .ref sn, .ref im, .ref cs, .ref cl, .int (0 : Int32)])), (tp, .inr (9, [.ref tb, .int (0 : Int32)])), (rr, .inr (6, [.ref ds, .ref ri, .int 0, .int 1, .int 0, .int 0])), (ds, .inr (3, [.int pg, .ref dl, .ref dr, .ref dt, .int (1 : Int32), .int (-1 : Int32), .int (0 : Int32)])), (sn, .inr (7, [.ref n1, .ref n2, .ref n3, .ref n4, .int (0 : Int32), .long (0 : Int64), .int (0 : Int32)]))] U.heap ∧ va_K (dC, dI) vwCl [] U ∧ gx_W U)) (vp_Si (fun r => r = (-10 : Int32))) 0 0 (fun _ => False) := by
  refine Met.ofW (cc := cX8_in) (maxL := 1) (ret := (some .int)) (by decide) rfl ?_
  intro p e s m args below meth c s₁ B hml hv
  obtain ⟨rfl, hP, hK, hG⟩ := hv
  have hx := B.exec
  have hb := B.bytes
  have hr := B.returns
  have hts := atoms_spec (ws := wsX8_in) B.pre
  have hown : s.vm.findClass RX8 = some m.cls := findClass_of_methodNamed B.named
  have hlocks := B.notSynchronized
  have hl := lv_entry ([.ref x]) (n := 1) (Nat.le_of_ble_eq_true rfl)
  rw [lg_entry_eq]
  generalize (lg_sl ([.ref x]) ++ List.replicate (1 - (lg_sl ([.ref x])).length) Slot.unset).toArray = ls at hl ⊢
  have hl : lv_has ls 1 [(0, .ref x)] := hl
  refine lv_aload_n hx hb dX8_in_0 rfl (lv_at hl 0 rfl) ?_
  have hPc := hP.sub (ws' := [(x, .inr (10, [.ref tp, .ref ds, .ref rr, .ref so, .ref pu, .ref sn, .ref im, .ref cs, .ref cl, .int (0 : Int32)])), (ds, .inr (3, [.int pg, .ref dl, .ref dr, .ref dt, .int (1 : Int32), .int (-1 : Int32), .int (0 : Int32)]))]) [0, 3] rfl
  have hKc := hK.sub (tys' := []) [] rfl
  refine va_csv (va_Run.run (va_runV (As := []) (rest := []) ⟨hx, hb, hml, hown, hts⟩ (k_X8_demandPower_1 l dC dI x ds tp rr so pu sn im cs cl pg dl dr dt) (cwV 0 hts gX8_in_X8_demandPower rfl rfl rfl (by decide +kernel) ⟨Nat.le_of_ble_eq_true rfl, Nat.le_of_ble_eq_true rfl⟩) ⟨fun a U g mk q => by obtain ⟨q0, qP, qK, qG⟩ := q; exact ⟨q0, qP, va_K.moved (u := U) (U := U.calling g mk a) (Vm.Alike.refl U.vm) qK, qG.same rfl⟩, va_recv hK hP (ci := 10) (q := (RX8, TX8, 10)) rfl (q0 := 0) rfl, fun U hU hW => ⟨rfl, by rw [hU]; exact hPc, va_K.moved hW.alike hKc, hG.warm hW⟩⟩ rfl rfl hl.1 rfl (lv_room (Nat.le_of_ble_eq_true rfl)) dX8_in_1 ⟨Nat.le_of_ble_eq_true rfl, Nat.le_of_ble_eq_true rfl⟩)) (fun _ => ?_)
  refine lv_aload_n hx hb dX8_in_4 rfl (lv_at hl 0 rfl) ?_
  refine va_get (D := (dC, dI)) (ci := 10) (v := .ref rr) (C := RX8) (T := TX8) (N := 10) hx hb hts (by decide +kernel) hown hK hP 0 rfl rfl 2 (by decide) (hts (.fieldLink RX8 31 "BlockLog" "rows" "LBlockLog$Rows;") (by decide +kernel)) (fun _ h9 => h9) rfl dX8_in_5 ?_
  have hPc := hP.sub (ws' := [(rr, .inr (6, [.ref ds, .ref ri, .int 0, .int 1, .int 0, .int 0]))]) [2] rfl
  have hKc := hK.sub (tys' := []) [] rfl
  refine vp_callSi (va_Run.run (va_runV (As := []) (rest := []) ⟨hx, hb, hml, hown, hts⟩ (k_X4_inNeed_1 l dC dI rr ds ri) (cwV 0 hts gX8_in_X4_inNeed rfl rfl rfl (by decide +kernel) ⟨Nat.le_of_ble_eq_true rfl, Nat.le_of_ble_eq_true rfl⟩) ⟨fun a U g mk q => by obtain ⟨q0, qP, qK⟩ := q; exact ⟨q0, qP, va_K.moved (u := U) (U := U.calling g mk a) (Vm.Alike.refl U.vm) qK⟩, va_recv hK hP (ci := 6) (q := (RX4, TX4, 6)) rfl (q0 := 2) rfl, fun U hU hW => ⟨rfl, by rw [hU]; exact hPc, va_K.moved hW.alike hKc⟩⟩ rfl rfl hl.1 rfl (lv_room (Nat.le_of_ble_eq_true rfl)) dX8_in_8 ⟨Nat.le_of_ble_eq_true rfl, Nat.le_of_ble_eq_true rfl⟩)) (fun r_2 er_2 => ?_)
  subst er_2
  refine lv_if_eq (tgt := 17) hx hb dX8_in_11 (by decide) (fun c_3 => ?_) (fun c_3 => ?_)
  · skip
    refine lv_aload_n hx hb dX8_in_17 rfl (lv_at hl 0 rfl) ?_
    refine va_get (D := (dC, dI)) (ci := 10) (v := .ref rr) (C := RX8) (T := TX8) (N := 10) hx hb hts (by decide +kernel) hown hK hP 0 rfl rfl 2 (by decide) (hts (.fieldLink RX8 31 "BlockLog" "rows" "LBlockLog$Rows;") (by decide +kernel)) (fun _ h9 => h9) rfl dX8_in_18 ?_
    refine va_getN (D := (dC, dI)) (ci := 6) (v := .int 0) (C := RX4) (T := TX4) (N := 6) hx hb hts (by decide +kernel) hown hK hP 2 rfl rfl 4 (by decide) (va_Nw.use rfl (hG.1 ("BlockLog", 151, "BlockLog$Rows", "count", "I", "BlockLog") (by decide +kernel))) (fun _ h9 => h9) rfl dX8_in_21 ?_
    refine lv_if_le (tgt := 30) hx hb dX8_in_24 (by decide) (fun c_4 => ?_) (fun c_4 => ?_)
    · skip
      refine lv_aload_n hx hb dX8_in_30 rfl (lv_at hl 0 rfl) ?_
      refine va_get (D := (dC, dI)) (ci := 10) (v := .ref sn) (C := RX8) (T := TX8) (N := 10) hx hb hts (by decide +kernel) hown hK hP 0 rfl rfl 5 (by decide) (hts (.fieldLink RX8 56 "BlockLog" "snapshot" "LBlockLog$Snapshot;") (by decide +kernel)) (fun _ h9 => h9) rfl dX8_in_31 ?_
      refine lv_aload_n hx hb dX8_in_34 rfl (lv_at hl 0 rfl) ?_
      refine va_get (D := (dC, dI)) (ci := 10) (v := .ref tp) (C := RX8) (T := TX8) (N := 10) hx hb hts (by decide +kernel) hown hK hP 0 rfl rfl 0 (by decide) (hts (.fieldLink RX8 13 "BlockLog" "tape" "LBlockLog$Tape;") (by decide +kernel)) (fun _ h9 => h9) rfl dX8_in_35 ?_
      have hPc := hP.sub (ws' := [(tp, .inr (9, [.ref tb, .int (0 : Int32)]))]) [1] rfl
      have hKc := hK.sub (tys' := []) [] rfl
      refine vp_callSi (va_Run.run (va_runV (As := [.ref tp]) (rest := []) ⟨hx, hb, hml, hown, hts⟩ (k_X5_read_1 l dC dI sn tp tb) (cwV 1 hts gX8_in_X5_read rfl rfl rfl (by decide +kernel) ⟨Nat.le_of_ble_eq_true rfl, Nat.le_of_ble_eq_true rfl⟩) ⟨fun a U g mk q => by obtain ⟨q0, qP, qK, qG⟩ := q; exact ⟨q0, qP, va_K.moved (u := U) (U := U.calling g mk a) (Vm.Alike.refl U.vm) qK, qG.same rfl⟩, va_recv hK hP (ci := 7) (q := (RX5, TX5, 7)) rfl (q0 := 4) rfl, fun U hU hW => ⟨rfl, by rw [hU]; exact hPc, va_K.moved hW.alike hKc, hG.warm hW⟩⟩ rfl rfl hl.1 rfl (lv_room (Nat.le_of_ble_eq_true rfl)) dX8_in_38 ⟨Nat.le_of_ble_eq_true rfl, Nat.le_of_ble_eq_true rfl⟩)) (fun r_5 er_5 => ?_)
      subst er_5
      refine lv_if_ne (tgt := 47) hx hb dX8_in_41 (by decide) (fun c_6 => ?_) (fun c_6 => ?_)
      · skip
        exact absurd (by decide) c_6
      · skip
        refine lv_bipush (v := (-10)) hx hb dX8_in_44 (by decide) ?_
        exact W.iret hx hb hr (fun t ht hW => ⟨_, rfl, rfl, ht⟩) (fun q h => by cases h) dX8_in_46
    · skip
      exact absurd (by decide) c_4
  · skip
    exact absurd (by decide) c_3

set_option maxHeartbeats 4000000 in
set_option maxRecDepth 100000 in
theorem k_L_in_1 (l : Launch) (dC : Nat → ClassId) (dI : Nat → Nat → Nat) (x : Nat) (ho : Nat) (tp : Nat) (rr : Nat) (ds : Nat) (sn : Nat) (so : Nat) (pu : Nat) (im : Nat) (cs : Nat) (cl : Nat) (tb : Nat) (ri : Nat) (pg : Int32) (dl : Nat) (dr : Nat) (dt : Nat) (n1 : Nat) (n2 : Nat) (n3 : Nat) (n4 : Nat) (cJ : ClassId) (g1 : Nat → Int64) (sz : Nat)  : Met l yL_in wsL_in ({ frames := 2, cells := 0, slots := 0, locals := 42 }) (va_Pc [.ref x, .ref ho] (fun U => U.heap.size = sz ∧ va_P (dC, dI) vwCl [(x, .inr (10, [.ref tp, .ref ds, .ref rr, .ref so, .ref pu, .ref sn, .ref im, .ref cs, .ref cl, .int (0 : Int32)])), (tp, .inr (9, [.ref tb, .int (0 : Int32)])), (rr, .inr (6, [.ref ds, .ref ri, .int 0, .int 1, .int 0, .int 0])), (ds, .inr (3, [.int pg, .ref dl, .ref dr, .ref dt, .int (1 : Int32), .int (-1 : Int32), .int (0 : Int32)])), (sn, .inr (7, [.ref n1, .ref n2, .ref n3, .ref n4, .int (0 : Int32), .long (0 : Int64), .int (0 : Int32)])), (ho, .inl (cJ, 1, .inr (.inl g1)))] U.heap ∧ va_K (dC, dI) vwCl [(cJ, .long)] U ∧ va_D (fun _ => True) [(x, .inr (10, [.ref tp, .ref ds, .ref rr, .ref so, .ref pu, .ref sn, .ref im, .ref cs, .ref cl, .int (0 : Int32)])), (tp, .inr (9, [.ref tb, .int (0 : Int32)])), (rr, .inr (6, [.ref ds, .ref ri, .int 0, .int 1, .int 0, .int 0])), (ds, .inr (3, [.int pg, .ref dl, .ref dr, .ref dt, .int (1 : Int32), .int (-1 : Int32), .int (0 : Int32)])), (sn, .inr (7, [.ref n1, .ref n2, .ref n3, .ref n4, .int (0 : Int32), .long (0 : Int64), .int (0 : Int32)])), (ho, .inl (cJ, 1, .inr (.inl g1)))] ∧ gx_E (va_A [(x, .inr (10, [.ref tp, .ref ds, .ref rr, .ref so, .ref pu, .ref sn, .ref im, .ref cs, .ref cl, .int (0 : Int32)])), (tp, .inr (9, [.ref tb, .int (0 : Int32)])), (rr, .inr (6, [.ref ds, .ref ri, .int 0, .int 1, .int 0, .int 0])), (ds, .inr (3, [.int pg, .ref dl, .ref dr, .ref dt, .int (1 : Int32), .int (-1 : Int32), .int (0 : Int32)])), (sn, .inr (7, [.ref n1, .ref n2, .ref n3, .ref n4, .int (0 : Int32), .long (0 : Int64), .int (0 : Int32)])), (ho, .inl (cJ, 1, .inr (.inl g1)))] sz) U)) (va_Qi (fun r (_ : Unit) => r = (0 : Int32)) (fun (_ : Unit) t => va_P (dC, dI) vwCl [(ho, .inl (cJ, 1, .inr (.inl (vp_updL g1 (0 : Int32).toNatClampNeg ((-10 : Int32).toInt64)))))] t.heap ∧ va_K (dC, dI) vwCl [(cJ, .long)] t ∧ va_D (va_A [(x, .inr (10, [.ref tp, .ref ds, .ref rr, .ref so, .ref pu, .ref sn, .ref im, .ref cs, .ref cl, .int (0 : Int32)])), (tp, .inr (9, [.ref tb, .int (0 : Int32)])), (rr, .inr (6, [.ref ds, .ref ri, .int 0, .int 1, .int 0, .int 0])), (ds, .inr (3, [.int pg, .ref dl, .ref dr, .ref dt, .int (1 : Int32), .int (-1 : Int32), .int (0 : Int32)])), (sn, .inr (7, [.ref n1, .ref n2, .ref n3, .ref n4, .int (0 : Int32), .long (0 : Int64), .int (0 : Int32)])), (ho, .inl (cJ, 1, .inr (.inl g1)))] sz) [(ho, .inl (cJ, 1, .inr (.inl (vp_updL g1 (0 : Int32).toNatClampNeg ((-10 : Int32).toInt64)))))]) (va_A [(x, .inr (10, [.ref tp, .ref ds, .ref rr, .ref so, .ref pu, .ref sn, .ref im, .ref cs, .ref cl, .int (0 : Int32)])), (tp, .inr (9, [.ref tb, .int (0 : Int32)])), (rr, .inr (6, [.ref ds, .ref ri, .int 0, .int 1, .int 0, .int 0])), (ds, .inr (3, [.int pg, .ref dl, .ref dr, .ref dt, .int (1 : Int32), .int (-1 : Int32), .int (0 : Int32)])), (sn, .inr (7, [.ref n1, .ref n2, .ref n3, .ref n4, .int (0 : Int32), .long (0 : Int64), .int (0 : Int32)])), (ho, .inl (cJ, 1, .inr (.inl g1)))] sz)) 0 0 (va_A [(x, .inr (10, [.ref tp, .ref ds, .ref rr, .ref so, .ref pu, .ref sn, .ref im, .ref cs, .ref cl, .int (0 : Int32)])), (tp, .inr (9, [.ref tb, .int (0 : Int32)])), (rr, .inr (6, [.ref ds, .ref ri, .int 0, .int 1, .int 0, .int 0])), (ds, .inr (3, [.int pg, .ref dl, .ref dr, .ref dt, .int (1 : Int32), .int (-1 : Int32), .int (0 : Int32)])), (sn, .inr (7, [.ref n1, .ref n2, .ref n3, .ref n4, .int (0 : Int32), .long (0 : Int64), .int (0 : Int32)])), (ho, .inl (cJ, 1, .inr (.inl g1)))] sz) := by
  refine va_MetW (cc := cL_in) (maxL := 3) (ret := (some .int)) (hh := [(0, 8, 11, 25)]) (by decide) rfl ?_
  intro p e s m args below meth c s₁ B hml hv
  obtain ⟨rfl, hsz, hP, hK, hD0, hG⟩ := hv
  have hx := B.exec
  have hb := B.bytes
  have hr := B.returns
  have hts := atoms_spec (ws := wsL_in) B.pre
  have hown : s.vm.findClass RL = some m.cls := findClass_of_methodNamed B.named
  have hlocks := B.notSynchronized
  have htab := vx_table (x := yL_in) B (hts (.codeWith yL_in cL_in 3 (some .int) [(0, 8, 11, 25)]) List.mem_cons_self)
  subst hsz
  have hD := hD0.self (sz := s.heap.size)
  generalize hAe : va_A [(x, .inr (10, [.ref tp, .ref ds, .ref rr, .ref so, .ref pu, .ref sn, .ref im, .ref cs, .ref cl, .int (0 : Int32)])), (tp, .inr (9, [.ref tb, .int (0 : Int32)])), (rr, .inr (6, [.ref ds, .ref ri, .int 0, .int 1, .int 0, .int 0])), (ds, .inr (3, [.int pg, .ref dl, .ref dr, .ref dt, .int (1 : Int32), .int (-1 : Int32), .int (0 : Int32)])), (sn, .inr (7, [.ref n1, .ref n2, .ref n3, .ref n4, .int (0 : Int32), .long (0 : Int64), .int (0 : Int32)])), (ho, .inl (cJ, 1, .inr (.inl g1)))] s.heap.size = A at hD hG ⊢
  have hA : ∀ q : Nat, s.heap.size ≤ q → A q := fun q h => by rw [← hAe]; exact Or.inr h
  have hS : va_S A s.heap s.heap [] := va_S.rf
  have hl := lv_entry ([.ref x, .ref ho]) (n := 3) (Nat.le_of_ble_eq_true rfl)
  rw [lg_entry_eq]
  generalize (lg_sl ([.ref x, .ref ho]) ++ List.replicate (3 - (lg_sl ([.ref x, .ref ho])).length) Slot.unset).toArray = ls at hl ⊢
  have hl : lv_has ls 3 [(0, .ref x), (1, .ref ho)] := hl
  refine lv_aload_n hx hb dL_in_0 rfl (lv_at hl 1 rfl) ?_
  refine lv_iconst (v := 0) hx hb dL_in_1 (by decide) ?_
  refine lv_aload_n hx hb dL_in_2 rfl (lv_at hl 0 rfl) ?_
  have hPc := hP.sub (ws' := [(x, .inr (10, [.ref tp, .ref ds, .ref rr, .ref so, .ref pu, .ref sn, .ref im, .ref cs, .ref cl, .int (0 : Int32)])), (tp, .inr (9, [.ref tb, .int (0 : Int32)])), (rr, .inr (6, [.ref ds, .ref ri, .int 0, .int 1, .int 0, .int 0])), (ds, .inr (3, [.int pg, .ref dl, .ref dr, .ref dt, .int (1 : Int32), .int (-1 : Int32), .int (0 : Int32)])), (sn, .inr (7, [.ref n1, .ref n2, .ref n3, .ref n4, .int (0 : Int32), .long (0 : Int64), .int (0 : Int32)]))]) [0, 1, 2, 3, 4] rfl
  have hKc := hK.sub (tys' := []) [] rfl
  refine vp_callSi (va_Run.run (va_runV (As := []) (rest := [.int (0 : Int32), .ref ho]) ⟨hx, hb, hml, hown, hts⟩ (k_X8_in_1 l dC dI x tp rr ds sn so pu im cs cl tb ri pg dl dr dt n1 n2 n3 n4) (cwV 0 hts gL_in_X8_in rfl rfl rfl (by decide +kernel) ⟨Nat.le_of_ble_eq_true rfl, Nat.le_of_ble_eq_true rfl⟩) ⟨fun a U g mk q => by obtain ⟨q0, qP, qK, qG⟩ := q; exact ⟨q0, qP, va_K.moved (u := U) (U := U.calling g mk a) (Vm.Alike.refl U.vm) qK, qG.same rfl⟩, va_recv hK hP (ci := 10) (q := (RX8, TX8, 10)) rfl (q0 := 0) rfl, fun U hU hW => ⟨rfl, by rw [hU]; exact hPc, va_K.moved hW.alike hKc, hG.1.warm hW⟩⟩ rfl rfl hl.1 rfl (lv_room (Nat.le_of_ble_eq_true rfl)) dL_in_3 ⟨Nat.le_of_ble_eq_true rfl, Nat.le_of_ble_eq_true rfl⟩)) (fun r_1 er_1 => ?_)
  subst er_1
  refine lv_i2l hx hb dL_in_6 rfl ?_
  refine va_last hx hb hK hP hD hS 5 0 rfl rfl (by unfold vp_in; decide +kernel) dL_in_7 (fun H locs hP hD hS => ?_)
  have hP : va_P (dC, dI) vwCl [(x, .inr (10, [.ref tp, .ref ds, .ref rr, .ref so, .ref pu, .ref sn, .ref im, .ref cs, .ref cl, .int (0 : Int32)])), (tp, .inr (9, [.ref tb, .int (0 : Int32)])), (rr, .inr (6, [.ref ds, .ref ri, .int 0, .int 1, .int 0, .int 0])), (ds, .inr (3, [.int pg, .ref dl, .ref dr, .ref dt, .int (1 : Int32), .int (-1 : Int32), .int (0 : Int32)])), (sn, .inr (7, [.ref n1, .ref n2, .ref n3, .ref n4, .int (0 : Int32), .long (0 : Int64), .int (0 : Int32)])), (ho, .inl (cJ, 1, .inr (.inl (vp_updL g1 (0 : Int32).toNatClampNeg ((-10 : Int32).toInt64)))))] H := hP
  have hD : va_D A [(x, .inr (10, [.ref tp, .ref ds, .ref rr, .ref so, .ref pu, .ref sn, .ref im, .ref cs, .ref cl, .int (0 : Int32)])), (tp, .inr (9, [.ref tb, .int (0 : Int32)])), (rr, .inr (6, [.ref ds, .ref ri, .int 0, .int 1, .int 0, .int 0])), (ds, .inr (3, [.int pg, .ref dl, .ref dr, .ref dt, .int (1 : Int32), .int (-1 : Int32), .int (0 : Int32)])), (sn, .inr (7, [.ref n1, .ref n2, .ref n3, .ref n4, .int (0 : Int32), .long (0 : Int64), .int (0 : Int32)])), (ho, .inl (cJ, 1, .inr (.inl (vp_updL g1 (0 : Int32).toNatClampNeg ((-10 : Int32).toInt64)))))] := hD
  refine lv_goto (tgt := 14) hx hb dL_in_8 (by decide) ?_
  refine lv_iconst (v := 0) hx hb dL_in_14 (by decide) ?_
  have hP := hP.sub (ws' := [(ho, .inl (cJ, 1, .inr (.inl (vp_updL g1 (0 : Int32).toNatClampNeg ((-10 : Int32).toInt64)))))]) [5] rfl
  have hD := hD.sub (ws' := [(ho, .inl (cJ, 1, .inr (.inl (vp_updL g1 (0 : Int32).toNatClampNeg ((-10 : Int32).toInt64)))))]) [5] (by decide) rfl
  have hK := hK.sub (tys' := [(cJ, .long)]) [0] rfl
  exact W.iret hx hb hr (fun t ht hW => ⟨⟨_, (), rfl, rfl, by rw [ht]; exact hP, va_K.moved hW.alike hK, hD⟩, hS.F ht⟩) hS.2.2 dL_in_15

set_option maxHeartbeats 4000000 in
set_option maxRecDepth 100000 in
theorem k_X9_isSnapshot_1 (l : Launch) (dC : Nat → ClassId) (dI : Nat → Nat → Nat) (mo : Nat) (m_disk : Nat) (P : Nat) (m_tape : Nat) (m_slots : Nat) (m_leaves : Nat) (m_fresh : Nat) (m_digestAt : Nat) (m_isGroup : Nat) (m_counts : Nat) (m_versionRow : Nat) (m_state : Nat) (m_names : Nat) (m_keptRow : Nat) (m_inSlot : Nat) (m_inAt : Nat) (m_inSize : Nat) (m_inDigest : Nat)  : Met l yX9_isSnapshot wsX9_isSnapshot ({ frames := 0, cells := 0, slots := 0, locals := 0 }) (va_Pc [.ref mo] (fun U => va_P (dC, dI) vwCl [(mo, .inr (11, [.ref m_disk, .int (nI P), .int ((8224 : Int32) + ((26 : Int32) * (nI P))), .int (1 : Int32), .int 0, .int (-1 : Int32), .int 0, .int (0 : Int32), .ref m_tape, .int 0, .ref m_slots, .ref m_leaves, .int 0, .int (0 : Int32), .ref m_fresh, .int 0, .int 0, .int 0, .ref m_digestAt, .ref m_isGroup, .ref m_counts, .int 0, .int 0, .long 0, .int 0, .ref m_versionRow, .int 0, .long 0, .ref m_state, .ref m_names, .int 0, .ref m_keptRow, .int 0, .ref m_inSlot, .ref m_inAt, .ref m_inSize, .ref m_inDigest, .int 0]))] U.heap ∧ va_K (dC, dI) vwCl [] U)) (vp_Si (fun r => r = (0 : Int32))) 0 0 (fun _ => False) := by
  refine Met.ofW (cc := cX9_isSnapshot) (maxL := 5) (ret := (some .boolean)) (by decide) rfl ?_
  intro p e s m args below meth c s₁ B hml hv
  obtain ⟨rfl, hP, hK⟩ := hv
  have hx := B.exec
  have hb := B.bytes
  have hr := B.returns
  have hts := atoms_spec (ws := wsX9_isSnapshot) B.pre
  have hown : s.vm.findClass RX9 = some m.cls := findClass_of_methodNamed B.named
  have hlocks := B.notSynchronized
  have hl := lv_entry ([.ref mo]) (n := 5) (Nat.le_of_ble_eq_true rfl)
  rw [lg_entry_eq]
  generalize (lg_sl ([.ref mo]) ++ List.replicate (5 - (lg_sl ([.ref mo])).length) Slot.unset).toArray = ls at hl ⊢
  have hl : lv_has ls 5 [(0, .ref mo)] := hl
  refine lv_aload_n hx hb dX9_isSnapshot_0 rfl (lv_at hl 0 rfl) ?_
  refine va_get (D := (dC, dI)) (ci := 11) (v := .int 0) (C := RX9) (T := TX9) (N := 38) hx hb hts (by decide +kernel) hown hK hP 0 rfl rfl 9 (by decide) (hts (.fieldLink RX9 271 "BlockLogModel" "tapeSize" "I") (by decide +kernel)) (fun _ h9 => h9) rfl dX9_isSnapshot_1 ?_
  refine lv_bipush (v := 21) hx hb dX9_isSnapshot_4 (by decide) ?_
  refine lv_icmp_ge (tgt := 11) hx hb dX9_isSnapshot_6 (by decide) (fun c_1 => ?_) (fun c_1 => ?_)
  · skip
    exact absurd c_1 (by decide)
  · skip
    refine lv_iconst (v := 0) hx hb dX9_isSnapshot_9 (by decide) ?_
    exact W.zret hx hb hr rfl (fun t ht hW => ⟨_, rfl, rfl, ht⟩) (fun q h => by cases h) dX9_isSnapshot_10

set_option maxHeartbeats 4000000 in
set_option maxRecDepth 100000 in
theorem k_X9_in_1 (l : Launch) (dC : Nat → ClassId) (dI : Nat → Nat → Nat) (mo : Nat) (m_disk : Nat) (P : Nat) (m_tape : Nat) (m_slots : Nat) (m_leaves : Nat) (m_fresh : Nat) (m_digestAt : Nat) (m_isGroup : Nat) (m_counts : Nat) (m_versionRow : Nat) (m_state : Nat) (m_names : Nat) (m_keptRow : Nat) (m_inSlot : Nat) (m_inAt : Nat) (m_inSize : Nat) (m_inDigest : Nat) (sz : Nat)  : Met l yX9_in wsX9_in ({ frames := 2, cells := 0, slots := 0, locals := 43 }) (va_Pc [.ref mo] (fun U => U.heap.size = sz ∧ va_P (dC, dI) vwCl [(mo, .inr (11, [.ref m_disk, .int (nI P), .int ((8224 : Int32) + ((26 : Int32) * (nI P))), .int (1 : Int32), .int 0, .int (-1 : Int32), .int 0, .int (0 : Int32), .ref m_tape, .int 0, .ref m_slots, .ref m_leaves, .int 0, .int 0, .ref m_fresh, .int 0, .int 0, .int 0, .ref m_digestAt, .ref m_isGroup, .ref m_counts, .int 0, .int 0, .long 0, .int 0, .ref m_versionRow, .int 0, .long 0, .ref m_state, .ref m_names, .int 0, .ref m_keptRow, .int 0, .ref m_inSlot, .ref m_inAt, .ref m_inSize, .ref m_inDigest, .int 0]))] U.heap ∧ va_K (dC, dI) vwCl [] U ∧ va_D (fun _ => True) [(mo, .inr (11, [.ref m_disk, .int (nI P), .int ((8224 : Int32) + ((26 : Int32) * (nI P))), .int (1 : Int32), .int 0, .int (-1 : Int32), .int 0, .int (0 : Int32), .ref m_tape, .int 0, .ref m_slots, .ref m_leaves, .int 0, .int 0, .ref m_fresh, .int 0, .int 0, .int 0, .ref m_digestAt, .ref m_isGroup, .ref m_counts, .int 0, .int 0, .long 0, .int 0, .ref m_versionRow, .int 0, .long 0, .ref m_state, .ref m_names, .int 0, .ref m_keptRow, .int 0, .ref m_inSlot, .ref m_inAt, .ref m_inSize, .ref m_inDigest, .int 0]))])) (va_Qi (fun r (_ : Unit) => r = (-10 : Int32)) (fun (_ : Unit) t => va_P (dC, dI) vwCl [(mo, .inr (11, [.ref m_disk, .int (nI P), .int ((8224 : Int32) + ((26 : Int32) * (nI P))), .int (1 : Int32), .int 0, .int (-1 : Int32), .int 0, .int (0 : Int32), .ref m_tape, .int 0, .ref m_slots, .ref m_leaves, .int 0, .int (0 : Int32), .ref m_fresh, .int 0, .int 0, .int 0, .ref m_digestAt, .ref m_isGroup, .ref m_counts, .int 0, .int 0, .long 0, .int 0, .ref m_versionRow, .int 0, .long 0, .ref m_state, .ref m_names, .int 0, .ref m_keptRow, .int 0, .ref m_inSlot, .ref m_inAt, .ref m_inSize, .ref m_inDigest, .int 0]))] t.heap ∧ va_K (dC, dI) vwCl [] t ∧ va_D (va_A [(mo, .inr (11, [.ref m_disk, .int (nI P), .int ((8224 : Int32) + ((26 : Int32) * (nI P))), .int (1 : Int32), .int 0, .int (-1 : Int32), .int 0, .int (0 : Int32), .ref m_tape, .int 0, .ref m_slots, .ref m_leaves, .int 0, .int 0, .ref m_fresh, .int 0, .int 0, .int 0, .ref m_digestAt, .ref m_isGroup, .ref m_counts, .int 0, .int 0, .long 0, .int 0, .ref m_versionRow, .int 0, .long 0, .ref m_state, .ref m_names, .int 0, .ref m_keptRow, .int 0, .ref m_inSlot, .ref m_inAt, .ref m_inSize, .ref m_inDigest, .int 0]))] sz) [(mo, .inr (11, [.ref m_disk, .int (nI P), .int ((8224 : Int32) + ((26 : Int32) * (nI P))), .int (1 : Int32), .int 0, .int (-1 : Int32), .int 0, .int (0 : Int32), .ref m_tape, .int 0, .ref m_slots, .ref m_leaves, .int 0, .int (0 : Int32), .ref m_fresh, .int 0, .int 0, .int 0, .ref m_digestAt, .ref m_isGroup, .ref m_counts, .int 0, .int 0, .long 0, .int 0, .ref m_versionRow, .int 0, .long 0, .ref m_state, .ref m_names, .int 0, .ref m_keptRow, .int 0, .ref m_inSlot, .ref m_inAt, .ref m_inSize, .ref m_inDigest, .int 0]))]) (va_A [(mo, .inr (11, [.ref m_disk, .int (nI P), .int ((8224 : Int32) + ((26 : Int32) * (nI P))), .int (1 : Int32), .int 0, .int (-1 : Int32), .int 0, .int (0 : Int32), .ref m_tape, .int 0, .ref m_slots, .ref m_leaves, .int 0, .int 0, .ref m_fresh, .int 0, .int 0, .int 0, .ref m_digestAt, .ref m_isGroup, .ref m_counts, .int 0, .int 0, .long 0, .int 0, .ref m_versionRow, .int 0, .long 0, .ref m_state, .ref m_names, .int 0, .ref m_keptRow, .int 0, .ref m_inSlot, .ref m_inAt, .ref m_inSize, .ref m_inDigest, .int 0]))] sz)) 0 0 (va_A [(mo, .inr (11, [.ref m_disk, .int (nI P), .int ((8224 : Int32) + ((26 : Int32) * (nI P))), .int (1 : Int32), .int 0, .int (-1 : Int32), .int 0, .int (0 : Int32), .ref m_tape, .int 0, .ref m_slots, .ref m_leaves, .int 0, .int 0, .ref m_fresh, .int 0, .int 0, .int 0, .ref m_digestAt, .ref m_isGroup, .ref m_counts, .int 0, .int 0, .long 0, .int 0, .ref m_versionRow, .int 0, .long 0, .ref m_state, .ref m_names, .int 0, .ref m_keptRow, .int 0, .ref m_inSlot, .ref m_inAt, .ref m_inSize, .ref m_inDigest, .int 0]))] sz) := by
  refine Met.ofW (cc := cX9_in) (maxL := 6) (ret := (some .int)) (by decide) rfl ?_
  intro p e s m args below meth c s₁ B hml hv
  obtain ⟨rfl, hsz, hP, hK, hD0⟩ := hv
  have hx := B.exec
  have hb := B.bytes
  have hr := B.returns
  have hts := atoms_spec (ws := wsX9_in) B.pre
  have hown : s.vm.findClass RX9 = some m.cls := findClass_of_methodNamed B.named
  have hlocks := B.notSynchronized
  subst hsz
  have hD := hD0.self (sz := s.heap.size)
  generalize hAe : va_A [(mo, .inr (11, [.ref m_disk, .int (nI P), .int ((8224 : Int32) + ((26 : Int32) * (nI P))), .int (1 : Int32), .int 0, .int (-1 : Int32), .int 0, .int (0 : Int32), .ref m_tape, .int 0, .ref m_slots, .ref m_leaves, .int 0, .int 0, .ref m_fresh, .int 0, .int 0, .int 0, .ref m_digestAt, .ref m_isGroup, .ref m_counts, .int 0, .int 0, .long 0, .int 0, .ref m_versionRow, .int 0, .long 0, .ref m_state, .ref m_names, .int 0, .ref m_keptRow, .int 0, .ref m_inSlot, .ref m_inAt, .ref m_inSize, .ref m_inDigest, .int 0]))] s.heap.size = A at hD ⊢
  have hA : ∀ q : Nat, s.heap.size ≤ q → A q := fun q h => by rw [← hAe]; exact Or.inr h
  have hS : va_S A s.heap s.heap [] := va_S.rf
  have hl := lv_entry ([.ref mo]) (n := 6) (Nat.le_of_ble_eq_true rfl)
  rw [lg_entry_eq]
  generalize (lg_sl ([.ref mo]) ++ List.replicate (6 - (lg_sl ([.ref mo])).length) Slot.unset).toArray = ls at hl ⊢
  have hl : lv_has ls 6 [(0, .ref mo)] := hl
  refine lv_aload_n hx hb dX9_in_0 rfl (lv_at hl 0 rfl) ?_
  refine lv_aload_n hx hb dX9_in_1 rfl (lv_at hl 0 rfl) ?_
  refine va_get (D := (dC, dI)) (ci := 11) (v := .int (1 : Int32)) (C := RX9) (T := TX9) (N := 38) hx hb hts (by decide +kernel) hown hK hP 0 rfl rfl 3 (by decide) (hts (.fieldLink RX9 72 "BlockLogModel" "on" "Z") (by decide +kernel)) (fun _ h9 => h9) rfl dX9_in_2 ?_
  refine lv_if_eq (tgt := 12) hx hb dX9_in_5 (by decide) (fun c_1 => ?_) (fun c_1 => ?_)
  · skip
    exact absurd c_1 (by decide)
  · skip
    refine lv_iconst (v := 0) hx hb dX9_in_8 (by decide) ?_
    refine lv_goto (tgt := 13) hx hb dX9_in_9 (by decide) ?_
    refine va_put (D := (dC, dI)) (ci := 11) (v := .int (0 : Int32)) (ty := .int) (C := RX9) (T := TX9) (N := 38) hx hb hts (by decide +kernel) tyX9 tyX9_ok nmX9 hown hK hP hD hS 0 rfl rfl 13 (by decide) (hts (.fieldLink RX9 91 "BlockLogModel" "thrown" "I") (by decide +kernel)) (fun _ h9 => h9) rfl (by decide +kernel) rfl rfl (Nat.le_of_ble_eq_true rfl) dX9_in_13 (fun H locs hP hD hS => ?_)
    have hP : va_P (dC, dI) vwCl [(mo, .inr (11, [.ref m_disk, .int (nI P), .int ((8224 : Int32) + ((26 : Int32) * (nI P))), .int (1 : Int32), .int 0, .int (-1 : Int32), .int 0, .int (0 : Int32), .ref m_tape, .int 0, .ref m_slots, .ref m_leaves, .int 0, .int (0 : Int32), .ref m_fresh, .int 0, .int 0, .int 0, .ref m_digestAt, .ref m_isGroup, .ref m_counts, .int 0, .int 0, .long 0, .int 0, .ref m_versionRow, .int 0, .long 0, .ref m_state, .ref m_names, .int 0, .ref m_keptRow, .int 0, .ref m_inSlot, .ref m_inAt, .ref m_inSize, .ref m_inDigest, .int 0]))] H := hP
    have hD : va_D A [(mo, .inr (11, [.ref m_disk, .int (nI P), .int ((8224 : Int32) + ((26 : Int32) * (nI P))), .int (1 : Int32), .int 0, .int (-1 : Int32), .int 0, .int (0 : Int32), .ref m_tape, .int 0, .ref m_slots, .ref m_leaves, .int 0, .int (0 : Int32), .ref m_fresh, .int 0, .int 0, .int 0, .ref m_digestAt, .ref m_isGroup, .ref m_counts, .int 0, .int 0, .long 0, .int 0, .ref m_versionRow, .int 0, .long 0, .ref m_state, .ref m_names, .int 0, .ref m_keptRow, .int 0, .ref m_inSlot, .ref m_inAt, .ref m_inSize, .ref m_inDigest, .int 0]))] := hD
    refine lv_aload_n hx hb dX9_in_16 rfl (lv_at hl 0 rfl) ?_
    refine va_get (D := (dC, dI)) (ci := 11) (v := .int (0 : Int32)) (C := RX9) (T := TX9) (N := 38) hx hb hts (by decide +kernel) hown hK hP 0 rfl rfl 13 (by decide) (hts (.fieldLink RX9 91 "BlockLogModel" "thrown" "I") (by decide +kernel)) (fun _ h9 => h9) rfl dX9_in_17 ?_
    refine lv_if_le (tgt := 25) hx hb dX9_in_20 (by decide) (fun c_2 => ?_) (fun c_2 => ?_)
    · skip
      refine lv_aload_n hx hb dX9_in_25 rfl (lv_at hl 0 rfl) ?_
      have hPc := hP.sub (ws' := [(mo, .inr (11, [.ref m_disk, .int (nI P), .int ((8224 : Int32) + ((26 : Int32) * (nI P))), .int (1 : Int32), .int 0, .int (-1 : Int32), .int 0, .int (0 : Int32), .ref m_tape, .int 0, .ref m_slots, .ref m_leaves, .int 0, .int (0 : Int32), .ref m_fresh, .int 0, .int 0, .int 0, .ref m_digestAt, .ref m_isGroup, .ref m_counts, .int 0, .int 0, .long 0, .int 0, .ref m_versionRow, .int 0, .long 0, .ref m_state, .ref m_names, .int 0, .ref m_keptRow, .int 0, .ref m_inSlot, .ref m_inAt, .ref m_inSize, .ref m_inDigest, .int 0]))]) [0] rfl
      have hKc := hK.sub (tys' := []) [] rfl
      refine vp_callSi (va_Run.run (va_runV (As := []) (rest := []) ⟨hx, hb, hml, hown, hts⟩ (k_X9_badRows_1 l dC dI mo m_disk P m_tape m_slots m_leaves m_fresh m_digestAt m_isGroup m_counts m_versionRow m_state m_names m_keptRow m_inSlot m_inAt m_inSize m_inDigest) (cwV 0 hts gX9_in_X9_badRows rfl rfl rfl (by decide +kernel) ⟨Nat.le_of_ble_eq_true rfl, Nat.le_of_ble_eq_true rfl⟩) ⟨fun a U g mk q => by obtain ⟨q0, qP, qK⟩ := q; exact ⟨q0, qP, va_K.moved (u := U) (U := U.calling g mk a) (Vm.Alike.refl U.vm) qK⟩, va_recv hK hP (ci := 11) (q := (RX9, TX9, 38)) rfl (q0 := 0) rfl, fun U hU hW => ⟨rfl, by rw [hU]; exact hPc, va_K.moved hW.alike hKc⟩⟩ rfl rfl hl.1 rfl (lv_room (Nat.le_of_ble_eq_true rfl)) dX9_in_26 ⟨Nat.le_of_ble_eq_true rfl, Nat.le_of_ble_eq_true rfl⟩)) (fun r_3 er_3 => ?_)
      subst er_3
      refine lv_if_le (tgt := 35) hx hb dX9_in_29 (by decide) (fun c_4 => ?_) (fun c_4 => ?_)
      · skip
        refine lv_aload_n hx hb dX9_in_35 rfl (lv_at hl 0 rfl) ?_
        have hPc := hP.sub (ws' := [(mo, .inr (11, [.ref m_disk, .int (nI P), .int ((8224 : Int32) + ((26 : Int32) * (nI P))), .int (1 : Int32), .int 0, .int (-1 : Int32), .int 0, .int (0 : Int32), .ref m_tape, .int 0, .ref m_slots, .ref m_leaves, .int 0, .int (0 : Int32), .ref m_fresh, .int 0, .int 0, .int 0, .ref m_digestAt, .ref m_isGroup, .ref m_counts, .int 0, .int 0, .long 0, .int 0, .ref m_versionRow, .int 0, .long 0, .ref m_state, .ref m_names, .int 0, .ref m_keptRow, .int 0, .ref m_inSlot, .ref m_inAt, .ref m_inSize, .ref m_inDigest, .int 0]))]) [0] rfl
        have hKc := hK.sub (tys' := []) [] rfl
        refine vp_callSi (va_Run.run (va_runV (As := []) (rest := []) ⟨hx, hb, hml, hown, hts⟩ (k_X9_rows_1 l dC dI mo m_disk P m_tape m_slots m_leaves m_fresh m_digestAt m_isGroup m_counts m_versionRow m_state m_names m_keptRow m_inSlot m_inAt m_inSize m_inDigest) (cwV 0 hts gX9_in_X9_rows rfl rfl rfl (by decide +kernel) ⟨Nat.le_of_ble_eq_true rfl, Nat.le_of_ble_eq_true rfl⟩) ⟨fun a U g mk q => by obtain ⟨q0, qP, qK⟩ := q; exact ⟨q0, qP, va_K.moved (u := U) (U := U.calling g mk a) (Vm.Alike.refl U.vm) qK⟩, va_recv hK hP (ci := 11) (q := (RX9, TX9, 38)) rfl (q0 := 0) rfl, fun U hU hW => ⟨rfl, by rw [hU]; exact hPc, va_K.moved hW.alike hKc⟩⟩ rfl rfl hl.1 rfl (lv_room (Nat.le_of_ble_eq_true rfl)) dX9_in_36 ⟨Nat.le_of_ble_eq_true rfl, Nat.le_of_ble_eq_true rfl⟩)) (fun r_5 er_5 => ?_)
        replace er_5 := er_5.trans (show _ = (0 : Int32) by decide +kernel)
        subst er_5
        refine lv_if_le (tgt := 45) hx hb dX9_in_39 (by decide) (fun c_6 => ?_) (fun c_6 => ?_)
        · skip
          refine lv_aload_n hx hb dX9_in_45 rfl (lv_at hl 0 rfl) ?_
          have hPc := hP.sub (ws' := [(mo, .inr (11, [.ref m_disk, .int (nI P), .int ((8224 : Int32) + ((26 : Int32) * (nI P))), .int (1 : Int32), .int 0, .int (-1 : Int32), .int 0, .int (0 : Int32), .ref m_tape, .int 0, .ref m_slots, .ref m_leaves, .int 0, .int (0 : Int32), .ref m_fresh, .int 0, .int 0, .int 0, .ref m_digestAt, .ref m_isGroup, .ref m_counts, .int 0, .int 0, .long 0, .int 0, .ref m_versionRow, .int 0, .long 0, .ref m_state, .ref m_names, .int 0, .ref m_keptRow, .int 0, .ref m_inSlot, .ref m_inAt, .ref m_inSize, .ref m_inDigest, .int 0]))]) [0] rfl
          have hKc := hK.sub (tys' := []) [] rfl
          refine vp_callSi (va_Run.run (va_runV (As := []) (rest := []) ⟨hx, hb, hml, hown, hts⟩ (k_X9_isSnapshot_1 l dC dI mo m_disk P m_tape m_slots m_leaves m_fresh m_digestAt m_isGroup m_counts m_versionRow m_state m_names m_keptRow m_inSlot m_inAt m_inSize m_inDigest) (cwV 0 hts gX9_in_X9_isSnapshot rfl rfl rfl (by decide +kernel) ⟨Nat.le_of_ble_eq_true rfl, Nat.le_of_ble_eq_true rfl⟩) ⟨fun a U g mk q => by obtain ⟨q0, qP, qK⟩ := q; exact ⟨q0, qP, va_K.moved (u := U) (U := U.calling g mk a) (Vm.Alike.refl U.vm) qK⟩, va_recv hK hP (ci := 11) (q := (RX9, TX9, 38)) rfl (q0 := 0) rfl, fun U hU hW => ⟨rfl, by rw [hU]; exact hPc, va_K.moved hW.alike hKc⟩⟩ rfl rfl hl.1 rfl (lv_room (Nat.le_of_ble_eq_true rfl)) dX9_in_46 ⟨Nat.le_of_ble_eq_true rfl, Nat.le_of_ble_eq_true rfl⟩)) (fun r_7 er_7 => ?_)
          subst er_7
          refine lv_if_ne (tgt := 55) hx hb dX9_in_49 (by decide) (fun c_8 => ?_) (fun c_8 => ?_)
          · skip
            exact absurd (by decide) c_8
          · skip
            refine lv_bipush (v := (-10)) hx hb dX9_in_52 (by decide) ?_
            have hP := hP.sub (ws' := [(mo, .inr (11, [.ref m_disk, .int (nI P), .int ((8224 : Int32) + ((26 : Int32) * (nI P))), .int (1 : Int32), .int 0, .int (-1 : Int32), .int 0, .int (0 : Int32), .ref m_tape, .int 0, .ref m_slots, .ref m_leaves, .int 0, .int (0 : Int32), .ref m_fresh, .int 0, .int 0, .int 0, .ref m_digestAt, .ref m_isGroup, .ref m_counts, .int 0, .int 0, .long 0, .int 0, .ref m_versionRow, .int 0, .long 0, .ref m_state, .ref m_names, .int 0, .ref m_keptRow, .int 0, .ref m_inSlot, .ref m_inAt, .ref m_inSize, .ref m_inDigest, .int 0]))]) [0] rfl
            have hD := hD.sub (ws' := [(mo, .inr (11, [.ref m_disk, .int (nI P), .int ((8224 : Int32) + ((26 : Int32) * (nI P))), .int (1 : Int32), .int 0, .int (-1 : Int32), .int 0, .int (0 : Int32), .ref m_tape, .int 0, .ref m_slots, .ref m_leaves, .int 0, .int (0 : Int32), .ref m_fresh, .int 0, .int 0, .int 0, .ref m_digestAt, .ref m_isGroup, .ref m_counts, .int 0, .int 0, .long 0, .int 0, .ref m_versionRow, .int 0, .long 0, .ref m_state, .ref m_names, .int 0, .ref m_keptRow, .int 0, .ref m_inSlot, .ref m_inAt, .ref m_inSize, .ref m_inDigest, .int 0]))]) [0] (by decide) rfl
            have hK := hK.sub (tys' := []) [] rfl
            exact W.iret hx hb hr (fun t ht hW => ⟨⟨_, (), rfl, rfl, by rw [ht]; exact hP, va_K.moved hW.alike hK, hD⟩, hS.F ht⟩) hS.2.2 dX9_in_54
        · skip
          exact absurd (by decide) c_6
      · skip
        exact absurd (by decide) c_4
    · skip
      exact absurd (by decide) c_2

set_option maxHeartbeats 4000000 in
set_option maxRecDepth 100000 in
theorem k_X8_cut_1 (l : Launch) (hl0 : l.stackTraces = false) (dC : Nat → ClassId) (dI : Nat → Nat → Nat) (x : Nat) (p0 : Int32) (sz : Nat) (hf0 : p0 < -1) : vx_Met l yX8_cut wsX8_cut ({ frames := 6, cells := 1, slots := 6, locals := 90 }) (va_Pc [.ref x, .int p0] (fun U => U.heap.size = sz ∧ va_P (dC, dI) vwCl [] U.heap ∧ va_K (dC, dI) vwCl [] U ∧ va_D (fun _ => True) [] ∧ gx_E (va_A [] sz) U)) (va_Qv (fun (_ : Unit) => False) (fun _ _ => True) (va_A [] sz)) (vx_X (fun _ : Unit => True) (fun E _ _ => E = "java/lang/IllegalArgumentException") (va_A [] sz)) 1 6 (va_A [] sz) := by
  refine vx_ofW (cc := cX8_cut) (maxL := 2) (ret := none) (by decide) rfl ?_
  intro p e s m args below meth c s₁ B hml hno hv
  obtain ⟨rfl, hsz, hP, hK, hD0, hG⟩ := hv
  have hx := B.exec
  have hb := B.bytes
  have hr := B.returns
  have hts := atoms_spec (ws := wsX8_cut) B.pre
  have hown : s.vm.findClass RX8 = some m.cls := findClass_of_methodNamed B.named
  have hlocks := B.notSynchronized
  subst hsz
  have hD := hD0.self (sz := s.heap.size)
  generalize hAe : va_A [] s.heap.size = A at hD hG ⊢
  have hA : ∀ q : Nat, s.heap.size ≤ q → A q := fun q h => by rw [← hAe]; exact Or.inr h
  have hS : va_S A s.heap s.heap [] := va_S.rf
  have hl := lv_entry ([.ref x, .int p0]) (n := 2) (Nat.le_of_ble_eq_true rfl)
  rw [lg_entry_eq]
  generalize (lg_sl ([.ref x, .int p0]) ++ List.replicate (2 - (lg_sl ([.ref x, .int p0])).length) Slot.unset).toArray = ls at hl ⊢
  have hl : lv_has ls 2 [(0, .ref x), (1, .int p0)] := hl
  refine lv_iload_n hx hb dX8_cut_0 rfl (lv_at hl 1 rfl) ?_
  refine lv_iconst (v := (-1)) hx hb dX8_cut_1 (by decide) ?_
  refine lv_icmp_lt (tgt := 12) hx hb dX8_cut_2 (by decide) (fun c_1 => ?_) (fun c_1 => ?_)
  · skip
    obtain ⟨sa, hstr⟩ := hG.1.2.1 ("BlockLog", 282, "acts is neither NONE nor 0 .. 5000") (by decide +kernel)
    exact vx_throwSW (names := ["java/lang/RuntimeException", "java/lang/Exception"]) hx hb hl0 hown (by decide +kernel) (by decide +kernel) (hts (.classLink RX8 76 "java/lang/IllegalArgumentException") (by decide +kernel)) (hts (.initialized "java/lang/IllegalArgumentException") (by decide +kernel)) hstr (vx_hat (B := gx_bad "java/lang/IllegalArgumentException") (fun w h => hts w (List.mem_cons_of_mem _ (List.mem_append_right _ h))) (by decide +kernel) (hG.1.bad (by decide))) (by decide +kernel) hG.2.1 hG.2.2.1 hS (hl.1.trans hml.symm) dX8_cut_12 dX8_cut_15 dX8_cut_16 dX8_cut_19 dX8_cut_22 (fun x h => (hno x h).elim) (Nat.le_of_ble_eq_true rfl) (Nat.le_of_ble_eq_true rfl) (Nat.le_of_ble_eq_true rfl) (Nat.le_of_ble_eq_true rfl) hlocks (fun t _ h1 h2 => ⟨(), trivial, rfl, Nat.le_trans hS.1 h1, fun q hq hn => (h2 q (Nat.lt_of_lt_of_le hq hS.1)).trans (hS.2.1 q hq hn)⟩) hS.2.2 (Nat.le_refl _) (Nat.le_refl _)
  · skip
    exact absurd hf0 c_1

set_option maxHeartbeats 4000000 in
set_option maxRecDepth 100000 in
theorem k_L_cut_1 (l : Launch) (hl0 : l.stackTraces = false) (dC : Nat → ClassId) (dI : Nat → Nat → Nat) (x : Nat) (p0 : Int32) (tp : Nat) (ds : Nat) (rr : Nat) (so : Nat) (pu : Nat) (sn : Nat) (im : Nat) (cs : Nat) (cl : Nat) (sz : Nat) (hf0 : p0 < -1) : Met l yL_cut wsL_cut ({ frames := 7, cells := 1, slots := 6, locals := 111 }) (va_Pc [.ref x, .int p0] (fun U => U.heap.size = sz ∧ va_P (dC, dI) vwCl [(x, .inr (10, [.ref tp, .ref ds, .ref rr, .ref so, .ref pu, .ref sn, .ref im, .ref cs, .ref cl, .int (0 : Int32)]))] U.heap ∧ va_K (dC, dI) vwCl [] U ∧ va_D (fun _ => True) [(x, .inr (10, [.ref tp, .ref ds, .ref rr, .ref so, .ref pu, .ref sn, .ref im, .ref cs, .ref cl, .int (0 : Int32)]))] ∧ gx_E (va_A [(x, .inr (10, [.ref tp, .ref ds, .ref rr, .ref so, .ref pu, .ref sn, .ref im, .ref cs, .ref cl, .int (0 : Int32)]))] sz) U)) (va_Qi (fun r (_ : Unit) => r = (1 : Int32)) (fun (_ : Unit) t => va_P (dC, dI) vwCl [] t.heap ∧ va_K (dC, dI) vwCl [] t ∧ va_D (va_A [(x, .inr (10, [.ref tp, .ref ds, .ref rr, .ref so, .ref pu, .ref sn, .ref im, .ref cs, .ref cl, .int (0 : Int32)]))] sz) []) (va_A [(x, .inr (10, [.ref tp, .ref ds, .ref rr, .ref so, .ref pu, .ref sn, .ref im, .ref cs, .ref cl, .int (0 : Int32)]))] sz)) 1 6 (va_A [(x, .inr (10, [.ref tp, .ref ds, .ref rr, .ref so, .ref pu, .ref sn, .ref im, .ref cs, .ref cl, .int (0 : Int32)]))] sz) := by
  refine va_MetW (cc := cL_cut) (maxL := 3) (ret := (some .int)) (hh := [(0, 5, 8, 13)]) (by decide) rfl ?_
  intro p e s m args below meth c s₁ B hml hv
  obtain ⟨rfl, hsz, hP, hK, hD0, hG⟩ := hv
  have hx := B.exec
  have hb := B.bytes
  have hr := B.returns
  have hts := atoms_spec (ws := wsL_cut) B.pre
  have hown : s.vm.findClass RL = some m.cls := findClass_of_methodNamed B.named
  have hlocks := B.notSynchronized
  have htab := vx_table (x := yL_cut) B (hts (.codeWith yL_cut cL_cut 3 (some .int) [(0, 5, 8, 13)]) List.mem_cons_self)
  subst hsz
  have hD := hD0.self (sz := s.heap.size)
  generalize hAe : va_A [(x, .inr (10, [.ref tp, .ref ds, .ref rr, .ref so, .ref pu, .ref sn, .ref im, .ref cs, .ref cl, .int (0 : Int32)]))] s.heap.size = A at hD hG ⊢
  have hA : ∀ q : Nat, s.heap.size ≤ q → A q := fun q h => by rw [← hAe]; exact Or.inr h
  have hS : va_S A s.heap s.heap [] := va_S.rf
  have hl := lv_entry ([.ref x, .int p0]) (n := 3) (Nat.le_of_ble_eq_true rfl)
  rw [lg_entry_eq]
  generalize (lg_sl ([.ref x, .int p0]) ++ List.replicate (3 - (lg_sl ([.ref x, .int p0])).length) Slot.unset).toArray = ls at hl ⊢
  have hl : lv_has ls 3 [(0, .ref x), (1, .int p0)] := hl
  refine lv_aload_n hx hb dL_cut_0 rfl (lv_at hl 0 rfl) ?_
  refine lv_iload_n hx hb dL_cut_1 rfl (lv_at hl 1 rfl) ?_
  have hPc := hP.sub (ws' := []) [] rfl
  have hKc := hK.sub (tys' := []) [] rfl
  have hDc := hD.sub (ws' := []) [] (by decide) rfl
  have hFc := va_free (wc := []) hD hS hA [] rfl
  refine vx_callv (vx_runV (As := [.int p0]) (rest := []) ⟨hx, hb, hml, hown, hts⟩ (k_X8_cut_1 l hl0 dC dI x p0 _ hf0) (cwV 1 hts gL_cut_X8_cut rfl rfl rfl (by decide +kernel) ⟨Nat.le_of_ble_eq_true rfl, Nat.le_of_ble_eq_true rfl⟩) ⟨fun a U g mk q => by obtain ⟨q0, q1, qP, qK, qD, qG⟩ := q; exact ⟨q0, q1, qP, va_K.moved (u := U) (U := U.calling g mk a) (Vm.Alike.refl U.vm) qK, qD, qG.same rfl rfl⟩, va_recv hK hP (ci := 10) (q := (RX8, TX8, 10)) rfl (q0 := 0) rfl, fun U hU hW => ⟨rfl, by rw [hU], by rw [hU]; exact hPc, va_K.moved hW.alike hKc, hDc.weaken (fun _ _ _ _ => trivial), hG.go hW hU hS hFc⟩⟩ rfl rfl hl.1 rfl (lv_room (Nat.le_of_ble_eq_true rfl)) dL_cut_2 ⟨Nat.le_of_ble_eq_true rfl, Nat.le_of_ble_eq_true rfl⟩) hS (fun q _ h => hFc q h) hFc (fun q _ h => hFc q h) (fun E9 ce q9 u t H1 locs1 ht hvm hp hE hz hk hS hcell hv hcl => ?_) (fun u t H1 locs1 ht hvm hp hB hz hk hS => hp.elim)
  subst hE
  refine vx_catch (name := "java/lang/IllegalArgumentException") hown [] ⟨0, 5, 8, 13⟩ [] htab (fun z h => by cases h) (by decide) (by decide) (hts (.classLink RL 13 "java/lang/IllegalArgumentException") (by decide +kernel)) (va_Nw.use rfl (hG.1.2.2.1 _ (by decide))) hcell hv hcl ?_
  refine W.eq (g2 := F0 m 8 ls [.ref q9]) rfl ?_
  have hP : va_P (dC, dI) vwCl [] H1 := fun k q h => by simp at h
  have hD : va_D A [] := ⟨fun i j p q h => by simp at h, fun k q h => by simp at h⟩
  generalize H1 = H at hP hS ⊢
  refine lv_astore_n (lv' := [(2, .ref q9), (0, .ref x), (1, .int p0)]) hx hb dL_cut_8 rfl hl (by decide) rfl (fun ls hl => ?_)
  refine lv_iconst (v := 1) hx hb dL_cut_9 (by decide) ?_
  have hP := hP.sub (ws' := []) [] rfl
  have hD := hD.sub (ws' := []) [] (by decide) rfl
  have hK := hK.sub (tys' := []) [] rfl
  exact W.iret hx hb hr (fun t ht hW => ⟨⟨_, (), rfl, rfl, by rw [ht]; exact hP, va_K.moved hW.alike hK, hD⟩, hS.F ht⟩) hS.2.2 dL_cut_10

set_option maxHeartbeats 4000000 in
set_option maxRecDepth 100000 in
theorem k_X9_cut_1 (l : Launch) (dC : Nat → ClassId) (dI : Nat → Nat → Nat) (mo : Nat) (p0 : Int32) (m_disk : Nat) (P : Nat) (m_tape : Nat) (m_slots : Nat) (m_leaves : Nat) (m_fresh : Nat) (m_digestAt : Nat) (m_isGroup : Nat) (m_counts : Nat) (m_versionRow : Nat) (m_state : Nat) (m_names : Nat) (m_keptRow : Nat) (m_inSlot : Nat) (m_inAt : Nat) (m_inSize : Nat) (m_inDigest : Nat) (sz : Nat) (hf0 : p0 < -1) : Met l yX9_cut wsX9_cut ({ frames := 1, cells := 0, slots := 0, locals := 22 }) (va_Pc [.ref mo, .int p0] (fun U => U.heap.size = sz ∧ va_P (dC, dI) vwCl [(mo, .inr (11, [.ref m_disk, .int (nI P), .int ((8224 : Int32) + ((26 : Int32) * (nI P))), .int (1 : Int32), .int 0, .int (-1 : Int32), .int 0, .int (0 : Int32), .ref m_tape, .int 0, .ref m_slots, .ref m_leaves, .int 0, .int 0, .ref m_fresh, .int 0, .int 0, .int 0, .ref m_digestAt, .ref m_isGroup, .ref m_counts, .int 0, .int 0, .long 0, .int 0, .ref m_versionRow, .int 0, .long 0, .ref m_state, .ref m_names, .int 0, .ref m_keptRow, .int 0, .ref m_inSlot, .ref m_inAt, .ref m_inSize, .ref m_inDigest, .int 0]))] U.heap ∧ va_K (dC, dI) vwCl [] U ∧ va_D (fun _ => True) [(mo, .inr (11, [.ref m_disk, .int (nI P), .int ((8224 : Int32) + ((26 : Int32) * (nI P))), .int (1 : Int32), .int 0, .int (-1 : Int32), .int 0, .int (0 : Int32), .ref m_tape, .int 0, .ref m_slots, .ref m_leaves, .int 0, .int 0, .ref m_fresh, .int 0, .int 0, .int 0, .ref m_digestAt, .ref m_isGroup, .ref m_counts, .int 0, .int 0, .long 0, .int 0, .ref m_versionRow, .int 0, .long 0, .ref m_state, .ref m_names, .int 0, .ref m_keptRow, .int 0, .ref m_inSlot, .ref m_inAt, .ref m_inSize, .ref m_inDigest, .int 0]))])) (va_Qv (fun (_ : Unit) => True) (fun (_ : Unit) t => va_P (dC, dI) vwCl [(mo, .inr (11, [.ref m_disk, .int (nI P), .int ((8224 : Int32) + ((26 : Int32) * (nI P))), .int (1 : Int32), .int 0, .int (-1 : Int32), .int 0, .int (0 : Int32), .ref m_tape, .int 0, .ref m_slots, .ref m_leaves, .int 0, .int (1 : Int32), .ref m_fresh, .int 0, .int 0, .int 0, .ref m_digestAt, .ref m_isGroup, .ref m_counts, .int 0, .int 0, .long 0, .int 0, .ref m_versionRow, .int 0, .long 0, .ref m_state, .ref m_names, .int 0, .ref m_keptRow, .int 0, .ref m_inSlot, .ref m_inAt, .ref m_inSize, .ref m_inDigest, .int 0]))] t.heap ∧ va_K (dC, dI) vwCl [] t ∧ va_D (va_A [(mo, .inr (11, [.ref m_disk, .int (nI P), .int ((8224 : Int32) + ((26 : Int32) * (nI P))), .int (1 : Int32), .int 0, .int (-1 : Int32), .int 0, .int (0 : Int32), .ref m_tape, .int 0, .ref m_slots, .ref m_leaves, .int 0, .int 0, .ref m_fresh, .int 0, .int 0, .int 0, .ref m_digestAt, .ref m_isGroup, .ref m_counts, .int 0, .int 0, .long 0, .int 0, .ref m_versionRow, .int 0, .long 0, .ref m_state, .ref m_names, .int 0, .ref m_keptRow, .int 0, .ref m_inSlot, .ref m_inAt, .ref m_inSize, .ref m_inDigest, .int 0]))] sz) [(mo, .inr (11, [.ref m_disk, .int (nI P), .int ((8224 : Int32) + ((26 : Int32) * (nI P))), .int (1 : Int32), .int 0, .int (-1 : Int32), .int 0, .int (0 : Int32), .ref m_tape, .int 0, .ref m_slots, .ref m_leaves, .int 0, .int (1 : Int32), .ref m_fresh, .int 0, .int 0, .int 0, .ref m_digestAt, .ref m_isGroup, .ref m_counts, .int 0, .int 0, .long 0, .int 0, .ref m_versionRow, .int 0, .long 0, .ref m_state, .ref m_names, .int 0, .ref m_keptRow, .int 0, .ref m_inSlot, .ref m_inAt, .ref m_inSize, .ref m_inDigest, .int 0]))]) (va_A [(mo, .inr (11, [.ref m_disk, .int (nI P), .int ((8224 : Int32) + ((26 : Int32) * (nI P))), .int (1 : Int32), .int 0, .int (-1 : Int32), .int 0, .int (0 : Int32), .ref m_tape, .int 0, .ref m_slots, .ref m_leaves, .int 0, .int 0, .ref m_fresh, .int 0, .int 0, .int 0, .ref m_digestAt, .ref m_isGroup, .ref m_counts, .int 0, .int 0, .long 0, .int 0, .ref m_versionRow, .int 0, .long 0, .ref m_state, .ref m_names, .int 0, .ref m_keptRow, .int 0, .ref m_inSlot, .ref m_inAt, .ref m_inSize, .ref m_inDigest, .int 0]))] sz)) 0 0 (va_A [(mo, .inr (11, [.ref m_disk, .int (nI P), .int ((8224 : Int32) + ((26 : Int32) * (nI P))), .int (1 : Int32), .int 0, .int (-1 : Int32), .int 0, .int (0 : Int32), .ref m_tape, .int 0, .ref m_slots, .ref m_leaves, .int 0, .int 0, .ref m_fresh, .int 0, .int 0, .int 0, .ref m_digestAt, .ref m_isGroup, .ref m_counts, .int 0, .int 0, .long 0, .int 0, .ref m_versionRow, .int 0, .long 0, .ref m_state, .ref m_names, .int 0, .ref m_keptRow, .int 0, .ref m_inSlot, .ref m_inAt, .ref m_inSize, .ref m_inDigest, .int 0]))] sz) := by
  refine Met.ofW (cc := cX9_cut) (maxL := 2) (ret := none) (by decide) rfl ?_
  intro p e s m args below meth c s₁ B hml hv
  obtain ⟨rfl, hsz, hP, hK, hD0⟩ := hv
  have hx := B.exec
  have hb := B.bytes
  have hr := B.returns
  have hts := atoms_spec (ws := wsX9_cut) B.pre
  have hown : s.vm.findClass RX9 = some m.cls := findClass_of_methodNamed B.named
  have hlocks := B.notSynchronized
  subst hsz
  have hD := hD0.self (sz := s.heap.size)
  generalize hAe : va_A [(mo, .inr (11, [.ref m_disk, .int (nI P), .int ((8224 : Int32) + ((26 : Int32) * (nI P))), .int (1 : Int32), .int 0, .int (-1 : Int32), .int 0, .int (0 : Int32), .ref m_tape, .int 0, .ref m_slots, .ref m_leaves, .int 0, .int 0, .ref m_fresh, .int 0, .int 0, .int 0, .ref m_digestAt, .ref m_isGroup, .ref m_counts, .int 0, .int 0, .long 0, .int 0, .ref m_versionRow, .int 0, .long 0, .ref m_state, .ref m_names, .int 0, .ref m_keptRow, .int 0, .ref m_inSlot, .ref m_inAt, .ref m_inSize, .ref m_inDigest, .int 0]))] s.heap.size = A at hD ⊢
  have hA : ∀ q : Nat, s.heap.size ≤ q → A q := fun q h => by rw [← hAe]; exact Or.inr h
  have hS : va_S A s.heap s.heap [] := va_S.rf
  have hl := lv_entry ([.ref mo, .int p0]) (n := 2) (Nat.le_of_ble_eq_true rfl)
  rw [lg_entry_eq]
  generalize (lg_sl ([.ref mo, .int p0]) ++ List.replicate (2 - (lg_sl ([.ref mo, .int p0])).length) Slot.unset).toArray = ls at hl ⊢
  have hl : lv_has ls 2 [(0, .ref mo), (1, .int p0)] := hl
  refine lv_aload_n hx hb dX9_cut_0 rfl (lv_at hl 0 rfl) ?_
  refine lv_iload_n hx hb dX9_cut_1 rfl (lv_at hl 1 rfl) ?_
  refine lv_iconst (v := (-1)) hx hb dX9_cut_2 (by decide) ?_
  refine lv_sipush (v := 5000) hx hb dX9_cut_3 (by decide) ?_
  have hPc := hP.sub (ws' := []) [] rfl
  have hKc := hK.sub (tys' := []) [] rfl
  refine vp_callSi (va_Run.run (va_runS (As := [.int p0, .int (-1 : Int32), .int (5000 : Int32)]) (rest := [.ref mo]) ⟨hx, hb, hml, hown, hts⟩ (k_X9_within_1 l dC dI p0 (-1 : Int32) (5000 : Int32) hf0) (va_cwS 3 hts gX9_cut_X9_within rfl rfl rfl (by decide +kernel) ⟨Nat.le_of_ble_eq_true rfl, Nat.le_of_ble_eq_true rfl⟩) ⟨fun a U g mk q => by obtain ⟨q0, qP, qK⟩ := q; exact ⟨q0, qP, va_K.moved (u := U) (U := U.calling g mk a) (Vm.Alike.refl U.vm) qK⟩, fun U hU hW => ⟨rfl, by rw [hU]; exact hPc, va_K.moved hW.alike hKc⟩⟩ rfl rfl hl.1 rfl (lv_room (Nat.le_of_ble_eq_true rfl)) dX9_cut_6 ⟨Nat.le_of_ble_eq_true rfl, Nat.le_of_ble_eq_true rfl⟩)) (fun r_1 er_1 => ?_)
  subst er_1
  refine lv_if_eq (tgt := 16) hx hb dX9_cut_9 (by decide) (fun c_2 => ?_) (fun c_2 => ?_)
  · skip
    refine lv_iconst (v := 1) hx hb dX9_cut_16 (by decide) ?_
    refine va_put (D := (dC, dI)) (ci := 11) (v := .int (1 : Int32)) (ty := .int) (C := RX9) (T := TX9) (N := 38) hx hb hts (by decide +kernel) tyX9 tyX9_ok nmX9 hown hK hP hD hS 0 rfl rfl 13 (by decide) (hts (.fieldLink RX9 91 "BlockLogModel" "thrown" "I") (by decide +kernel)) (fun _ h9 => h9) rfl (by decide +kernel) rfl rfl (Nat.le_of_ble_eq_true rfl) dX9_cut_17 (fun H locs hP hD hS => ?_)
    have hP : va_P (dC, dI) vwCl [(mo, .inr (11, [.ref m_disk, .int (nI P), .int ((8224 : Int32) + ((26 : Int32) * (nI P))), .int (1 : Int32), .int 0, .int (-1 : Int32), .int 0, .int (0 : Int32), .ref m_tape, .int 0, .ref m_slots, .ref m_leaves, .int 0, .int (1 : Int32), .ref m_fresh, .int 0, .int 0, .int 0, .ref m_digestAt, .ref m_isGroup, .ref m_counts, .int 0, .int 0, .long 0, .int 0, .ref m_versionRow, .int 0, .long 0, .ref m_state, .ref m_names, .int 0, .ref m_keptRow, .int 0, .ref m_inSlot, .ref m_inAt, .ref m_inSize, .ref m_inDigest, .int 0]))] H := hP
    have hD : va_D A [(mo, .inr (11, [.ref m_disk, .int (nI P), .int ((8224 : Int32) + ((26 : Int32) * (nI P))), .int (1 : Int32), .int 0, .int (-1 : Int32), .int 0, .int (0 : Int32), .ref m_tape, .int 0, .ref m_slots, .ref m_leaves, .int 0, .int (1 : Int32), .ref m_fresh, .int 0, .int 0, .int 0, .ref m_digestAt, .ref m_isGroup, .ref m_counts, .int 0, .int 0, .long 0, .int 0, .ref m_versionRow, .int 0, .long 0, .ref m_state, .ref m_names, .int 0, .ref m_keptRow, .int 0, .ref m_inSlot, .ref m_inAt, .ref m_inSize, .ref m_inDigest, .int 0]))] := hD
    refine lv_aload_n hx hb dX9_cut_20 rfl (lv_at hl 0 rfl) ?_
    refine lv_aload_n hx hb dX9_cut_21 rfl (lv_at hl 0 rfl) ?_
    refine va_get (D := (dC, dI)) (ci := 11) (v := .int (1 : Int32)) (C := RX9) (T := TX9) (N := 38) hx hb hts (by decide +kernel) hown hK hP 0 rfl rfl 13 (by decide) (hts (.fieldLink RX9 91 "BlockLogModel" "thrown" "I") (by decide +kernel)) (fun _ h9 => h9) rfl dX9_cut_22 ?_
    refine lv_if_le (tgt := 35) hx hb dX9_cut_25 (by decide) (fun c_3 => ?_) (fun c_3 => ?_)
    · skip
      exact absurd c_3 (by decide)
    · skip
      refine lv_aload_n hx hb dX9_cut_28 rfl (lv_at hl 0 rfl) ?_
      refine va_get (D := (dC, dI)) (ci := 11) (v := .int (-1 : Int32)) (C := RX9) (T := TX9) (N := 38) hx hb hts (by decide +kernel) hown hK hP 0 rfl rfl 5 (by decide) (hts (.fieldLink RX9 69 "BlockLogModel" "power" "I") (by decide +kernel)) (fun _ h9 => h9) rfl dX9_cut_29 ?_
      refine lv_goto (tgt := 36) hx hb dX9_cut_32 (by decide) ?_
      refine va_put (D := (dC, dI)) (ci := 11) (v := .int (-1 : Int32)) (ty := .int) (C := RX9) (T := TX9) (N := 38) hx hb hts (by decide +kernel) tyX9 tyX9_ok nmX9 hown hK hP hD hS 0 rfl rfl 5 (by decide) (hts (.fieldLink RX9 69 "BlockLogModel" "power" "I") (by decide +kernel)) (fun _ h9 => h9) rfl (by decide +kernel) rfl rfl (Nat.le_of_ble_eq_true rfl) dX9_cut_36 (fun H locs hP hD hS => ?_)
      have hP : va_P (dC, dI) vwCl [(mo, .inr (11, [.ref m_disk, .int (nI P), .int ((8224 : Int32) + ((26 : Int32) * (nI P))), .int (1 : Int32), .int 0, .int (-1 : Int32), .int 0, .int (0 : Int32), .ref m_tape, .int 0, .ref m_slots, .ref m_leaves, .int 0, .int (1 : Int32), .ref m_fresh, .int 0, .int 0, .int 0, .ref m_digestAt, .ref m_isGroup, .ref m_counts, .int 0, .int 0, .long 0, .int 0, .ref m_versionRow, .int 0, .long 0, .ref m_state, .ref m_names, .int 0, .ref m_keptRow, .int 0, .ref m_inSlot, .ref m_inAt, .ref m_inSize, .ref m_inDigest, .int 0]))] H := hP
      have hD : va_D A [(mo, .inr (11, [.ref m_disk, .int (nI P), .int ((8224 : Int32) + ((26 : Int32) * (nI P))), .int (1 : Int32), .int 0, .int (-1 : Int32), .int 0, .int (0 : Int32), .ref m_tape, .int 0, .ref m_slots, .ref m_leaves, .int 0, .int (1 : Int32), .ref m_fresh, .int 0, .int 0, .int 0, .ref m_digestAt, .ref m_isGroup, .ref m_counts, .int 0, .int 0, .long 0, .int 0, .ref m_versionRow, .int 0, .long 0, .ref m_state, .ref m_names, .int 0, .ref m_keptRow, .int 0, .ref m_inSlot, .ref m_inAt, .ref m_inSize, .ref m_inDigest, .int 0]))] := hD
      have hP := hP.sub (ws' := [(mo, .inr (11, [.ref m_disk, .int (nI P), .int ((8224 : Int32) + ((26 : Int32) * (nI P))), .int (1 : Int32), .int 0, .int (-1 : Int32), .int 0, .int (0 : Int32), .ref m_tape, .int 0, .ref m_slots, .ref m_leaves, .int 0, .int (1 : Int32), .ref m_fresh, .int 0, .int 0, .int 0, .ref m_digestAt, .ref m_isGroup, .ref m_counts, .int 0, .int 0, .long 0, .int 0, .ref m_versionRow, .int 0, .long 0, .ref m_state, .ref m_names, .int 0, .ref m_keptRow, .int 0, .ref m_inSlot, .ref m_inAt, .ref m_inSize, .ref m_inDigest, .int 0]))]) [0] rfl
      have hD := hD.sub (ws' := [(mo, .inr (11, [.ref m_disk, .int (nI P), .int ((8224 : Int32) + ((26 : Int32) * (nI P))), .int (1 : Int32), .int 0, .int (-1 : Int32), .int 0, .int (0 : Int32), .ref m_tape, .int 0, .ref m_slots, .ref m_leaves, .int 0, .int (1 : Int32), .ref m_fresh, .int 0, .int 0, .int 0, .ref m_digestAt, .ref m_isGroup, .ref m_counts, .int 0, .int 0, .long 0, .int 0, .ref m_versionRow, .int 0, .long 0, .ref m_state, .ref m_names, .int 0, .ref m_keptRow, .int 0, .ref m_inSlot, .ref m_inAt, .ref m_inSize, .ref m_inDigest, .int 0]))]) [0] (by decide) rfl
      have hK := hK.sub (tys' := []) [] rfl
      exact W.vret hx hb hr (fun t ht hW => ⟨⟨(), rfl, trivial, by rw [ht]; exact hP, va_K.moved hW.alike hK, hD⟩, hS.F ht⟩) hS.2.2 dX9_cut_39
  · skip
    exact absurd (by decide) c_2

set_option maxHeartbeats 4000000 in
set_option maxRecDepth 100000 in
theorem k_X8_cut_2 (l : Launch) (hl0 : l.stackTraces = false) (dC : Nat → ClassId) (dI : Nat → Nat → Nat) (x : Nat) (p0 : Int32) (sz : Nat) (hf0 : 5000 < p0) : vx_Met l yX8_cut wsX8_cut ({ frames := 6, cells := 1, slots := 6, locals := 90 }) (va_Pc [.ref x, .int p0] (fun U => U.heap.size = sz ∧ va_P (dC, dI) vwCl [] U.heap ∧ va_K (dC, dI) vwCl [] U ∧ va_D (fun _ => True) [] ∧ gx_E (va_A [] sz) U)) (va_Qv (fun (_ : Unit) => False) (fun _ _ => True) (va_A [] sz)) (vx_X (fun _ : Unit => True) (fun E _ _ => E = "java/lang/IllegalArgumentException") (va_A [] sz)) 1 6 (va_A [] sz) := by
  refine vx_ofW (cc := cX8_cut) (maxL := 2) (ret := none) (by decide) rfl ?_
  intro p e s m args below meth c s₁ B hml hno hv
  obtain ⟨rfl, hsz, hP, hK, hD0, hG⟩ := hv
  have hx := B.exec
  have hb := B.bytes
  have hr := B.returns
  have hts := atoms_spec (ws := wsX8_cut) B.pre
  have hown : s.vm.findClass RX8 = some m.cls := findClass_of_methodNamed B.named
  have hlocks := B.notSynchronized
  subst hsz
  have hD := hD0.self (sz := s.heap.size)
  generalize hAe : va_A [] s.heap.size = A at hD hG ⊢
  have hA : ∀ q : Nat, s.heap.size ≤ q → A q := fun q h => by rw [← hAe]; exact Or.inr h
  have hS : va_S A s.heap s.heap [] := va_S.rf
  have hl := lv_entry ([.ref x, .int p0]) (n := 2) (Nat.le_of_ble_eq_true rfl)
  rw [lg_entry_eq]
  generalize (lg_sl ([.ref x, .int p0]) ++ List.replicate (2 - (lg_sl ([.ref x, .int p0])).length) Slot.unset).toArray = ls at hl ⊢
  have hl : lv_has ls 2 [(0, .ref x), (1, .int p0)] := hl
  refine lv_iload_n hx hb dX8_cut_0 rfl (lv_at hl 1 rfl) ?_
  refine lv_iconst (v := (-1)) hx hb dX8_cut_1 (by decide) ?_
  refine lv_icmp_lt (tgt := 12) hx hb dX8_cut_2 (by decide) (fun c_1 => ?_) (fun c_1 => ?_)
  · skip
    exact absurd c_1 (Int32.not_lt.mpr (Int32.le_of_lt (Int32.lt_of_le_of_lt (by decide) hf0)))
  · skip
    refine lv_iload_n hx hb dX8_cut_5 rfl (lv_at hl 1 rfl) ?_
    refine lv_sipush (v := 5000) hx hb dX8_cut_6 (by decide) ?_
    refine lv_icmp_le (tgt := 23) hx hb dX8_cut_9 (by decide) (fun c_2 => ?_) (fun c_2 => ?_)
    · skip
      exact absurd c_2 (Int32.not_le.mpr hf0)
    · skip
      obtain ⟨sa, hstr⟩ := hG.1.2.1 ("BlockLog", 282, "acts is neither NONE nor 0 .. 5000") (by decide +kernel)
      exact vx_throwSW (names := ["java/lang/RuntimeException", "java/lang/Exception"]) hx hb hl0 hown (by decide +kernel) (by decide +kernel) (hts (.classLink RX8 76 "java/lang/IllegalArgumentException") (by decide +kernel)) (hts (.initialized "java/lang/IllegalArgumentException") (by decide +kernel)) hstr (vx_hat (B := gx_bad "java/lang/IllegalArgumentException") (fun w h => hts w (List.mem_cons_of_mem _ (List.mem_append_right _ h))) (by decide +kernel) (hG.1.bad (by decide))) (by decide +kernel) hG.2.1 hG.2.2.1 hS (hl.1.trans hml.symm) dX8_cut_12 dX8_cut_15 dX8_cut_16 dX8_cut_19 dX8_cut_22 (fun x h => (hno x h).elim) (Nat.le_of_ble_eq_true rfl) (Nat.le_of_ble_eq_true rfl) (Nat.le_of_ble_eq_true rfl) (Nat.le_of_ble_eq_true rfl) hlocks (fun t _ h1 h2 => ⟨(), trivial, rfl, Nat.le_trans hS.1 h1, fun q hq hn => (h2 q (Nat.lt_of_lt_of_le hq hS.1)).trans (hS.2.1 q hq hn)⟩) hS.2.2 (Nat.le_refl _) (Nat.le_refl _)

set_option maxHeartbeats 4000000 in
set_option maxRecDepth 100000 in
theorem k_L_cut_2 (l : Launch) (hl0 : l.stackTraces = false) (dC : Nat → ClassId) (dI : Nat → Nat → Nat) (x : Nat) (p0 : Int32) (tp : Nat) (ds : Nat) (rr : Nat) (so : Nat) (pu : Nat) (sn : Nat) (im : Nat) (cs : Nat) (cl : Nat) (sz : Nat) (hf0 : 5000 < p0) : Met l yL_cut wsL_cut ({ frames := 7, cells := 1, slots := 6, locals := 111 }) (va_Pc [.ref x, .int p0] (fun U => U.heap.size = sz ∧ va_P (dC, dI) vwCl [(x, .inr (10, [.ref tp, .ref ds, .ref rr, .ref so, .ref pu, .ref sn, .ref im, .ref cs, .ref cl, .int (0 : Int32)]))] U.heap ∧ va_K (dC, dI) vwCl [] U ∧ va_D (fun _ => True) [(x, .inr (10, [.ref tp, .ref ds, .ref rr, .ref so, .ref pu, .ref sn, .ref im, .ref cs, .ref cl, .int (0 : Int32)]))] ∧ gx_E (va_A [(x, .inr (10, [.ref tp, .ref ds, .ref rr, .ref so, .ref pu, .ref sn, .ref im, .ref cs, .ref cl, .int (0 : Int32)]))] sz) U)) (va_Qi (fun r (_ : Unit) => r = (1 : Int32)) (fun (_ : Unit) t => va_P (dC, dI) vwCl [] t.heap ∧ va_K (dC, dI) vwCl [] t ∧ va_D (va_A [(x, .inr (10, [.ref tp, .ref ds, .ref rr, .ref so, .ref pu, .ref sn, .ref im, .ref cs, .ref cl, .int (0 : Int32)]))] sz) []) (va_A [(x, .inr (10, [.ref tp, .ref ds, .ref rr, .ref so, .ref pu, .ref sn, .ref im, .ref cs, .ref cl, .int (0 : Int32)]))] sz)) 1 6 (va_A [(x, .inr (10, [.ref tp, .ref ds, .ref rr, .ref so, .ref pu, .ref sn, .ref im, .ref cs, .ref cl, .int (0 : Int32)]))] sz) := by
  refine va_MetW (cc := cL_cut) (maxL := 3) (ret := (some .int)) (hh := [(0, 5, 8, 13)]) (by decide) rfl ?_
  intro p e s m args below meth c s₁ B hml hv
  obtain ⟨rfl, hsz, hP, hK, hD0, hG⟩ := hv
  have hx := B.exec
  have hb := B.bytes
  have hr := B.returns
  have hts := atoms_spec (ws := wsL_cut) B.pre
  have hown : s.vm.findClass RL = some m.cls := findClass_of_methodNamed B.named
  have hlocks := B.notSynchronized
  have htab := vx_table (x := yL_cut) B (hts (.codeWith yL_cut cL_cut 3 (some .int) [(0, 5, 8, 13)]) List.mem_cons_self)
  subst hsz
  have hD := hD0.self (sz := s.heap.size)
  generalize hAe : va_A [(x, .inr (10, [.ref tp, .ref ds, .ref rr, .ref so, .ref pu, .ref sn, .ref im, .ref cs, .ref cl, .int (0 : Int32)]))] s.heap.size = A at hD hG ⊢
  have hA : ∀ q : Nat, s.heap.size ≤ q → A q := fun q h => by rw [← hAe]; exact Or.inr h
  have hS : va_S A s.heap s.heap [] := va_S.rf
  have hl := lv_entry ([.ref x, .int p0]) (n := 3) (Nat.le_of_ble_eq_true rfl)
  rw [lg_entry_eq]
  generalize (lg_sl ([.ref x, .int p0]) ++ List.replicate (3 - (lg_sl ([.ref x, .int p0])).length) Slot.unset).toArray = ls at hl ⊢
  have hl : lv_has ls 3 [(0, .ref x), (1, .int p0)] := hl
  refine lv_aload_n hx hb dL_cut_0 rfl (lv_at hl 0 rfl) ?_
  refine lv_iload_n hx hb dL_cut_1 rfl (lv_at hl 1 rfl) ?_
  have hPc := hP.sub (ws' := []) [] rfl
  have hKc := hK.sub (tys' := []) [] rfl
  have hDc := hD.sub (ws' := []) [] (by decide) rfl
  have hFc := va_free (wc := []) hD hS hA [] rfl
  refine vx_callv (vx_runV (As := [.int p0]) (rest := []) ⟨hx, hb, hml, hown, hts⟩ (k_X8_cut_2 l hl0 dC dI x p0 _ hf0) (cwV 1 hts gL_cut_X8_cut rfl rfl rfl (by decide +kernel) ⟨Nat.le_of_ble_eq_true rfl, Nat.le_of_ble_eq_true rfl⟩) ⟨fun a U g mk q => by obtain ⟨q0, q1, qP, qK, qD, qG⟩ := q; exact ⟨q0, q1, qP, va_K.moved (u := U) (U := U.calling g mk a) (Vm.Alike.refl U.vm) qK, qD, qG.same rfl rfl⟩, va_recv hK hP (ci := 10) (q := (RX8, TX8, 10)) rfl (q0 := 0) rfl, fun U hU hW => ⟨rfl, by rw [hU], by rw [hU]; exact hPc, va_K.moved hW.alike hKc, hDc.weaken (fun _ _ _ _ => trivial), hG.go hW hU hS hFc⟩⟩ rfl rfl hl.1 rfl (lv_room (Nat.le_of_ble_eq_true rfl)) dL_cut_2 ⟨Nat.le_of_ble_eq_true rfl, Nat.le_of_ble_eq_true rfl⟩) hS (fun q _ h => hFc q h) hFc (fun q _ h => hFc q h) (fun E9 ce q9 u t H1 locs1 ht hvm hp hE hz hk hS hcell hv hcl => ?_) (fun u t H1 locs1 ht hvm hp hB hz hk hS => hp.elim)
  subst hE
  refine vx_catch (name := "java/lang/IllegalArgumentException") hown [] ⟨0, 5, 8, 13⟩ [] htab (fun z h => by cases h) (by decide) (by decide) (hts (.classLink RL 13 "java/lang/IllegalArgumentException") (by decide +kernel)) (va_Nw.use rfl (hG.1.2.2.1 _ (by decide))) hcell hv hcl ?_
  refine W.eq (g2 := F0 m 8 ls [.ref q9]) rfl ?_
  have hP : va_P (dC, dI) vwCl [] H1 := fun k q h => by simp at h
  have hD : va_D A [] := ⟨fun i j p q h => by simp at h, fun k q h => by simp at h⟩
  generalize H1 = H at hP hS ⊢
  refine lv_astore_n (lv' := [(2, .ref q9), (0, .ref x), (1, .int p0)]) hx hb dL_cut_8 rfl hl (by decide) rfl (fun ls hl => ?_)
  refine lv_iconst (v := 1) hx hb dL_cut_9 (by decide) ?_
  have hP := hP.sub (ws' := []) [] rfl
  have hD := hD.sub (ws' := []) [] (by decide) rfl
  have hK := hK.sub (tys' := []) [] rfl
  exact W.iret hx hb hr (fun t ht hW => ⟨⟨_, (), rfl, rfl, by rw [ht]; exact hP, va_K.moved hW.alike hK, hD⟩, hS.F ht⟩) hS.2.2 dL_cut_10

set_option maxHeartbeats 4000000 in
set_option maxRecDepth 100000 in
theorem k_X9_cut_2 (l : Launch) (dC : Nat → ClassId) (dI : Nat → Nat → Nat) (mo : Nat) (p0 : Int32) (m_disk : Nat) (P : Nat) (m_tape : Nat) (m_slots : Nat) (m_leaves : Nat) (m_fresh : Nat) (m_digestAt : Nat) (m_isGroup : Nat) (m_counts : Nat) (m_versionRow : Nat) (m_state : Nat) (m_names : Nat) (m_keptRow : Nat) (m_inSlot : Nat) (m_inAt : Nat) (m_inSize : Nat) (m_inDigest : Nat) (sz : Nat) (hf0 : -1 ≤ p0) (hf1 : 5000 < p0) : Met l yX9_cut wsX9_cut ({ frames := 1, cells := 0, slots := 0, locals := 22 }) (va_Pc [.ref mo, .int p0] (fun U => U.heap.size = sz ∧ va_P (dC, dI) vwCl [(mo, .inr (11, [.ref m_disk, .int (nI P), .int ((8224 : Int32) + ((26 : Int32) * (nI P))), .int (1 : Int32), .int 0, .int (-1 : Int32), .int 0, .int (0 : Int32), .ref m_tape, .int 0, .ref m_slots, .ref m_leaves, .int 0, .int 0, .ref m_fresh, .int 0, .int 0, .int 0, .ref m_digestAt, .ref m_isGroup, .ref m_counts, .int 0, .int 0, .long 0, .int 0, .ref m_versionRow, .int 0, .long 0, .ref m_state, .ref m_names, .int 0, .ref m_keptRow, .int 0, .ref m_inSlot, .ref m_inAt, .ref m_inSize, .ref m_inDigest, .int 0]))] U.heap ∧ va_K (dC, dI) vwCl [] U ∧ va_D (fun _ => True) [(mo, .inr (11, [.ref m_disk, .int (nI P), .int ((8224 : Int32) + ((26 : Int32) * (nI P))), .int (1 : Int32), .int 0, .int (-1 : Int32), .int 0, .int (0 : Int32), .ref m_tape, .int 0, .ref m_slots, .ref m_leaves, .int 0, .int 0, .ref m_fresh, .int 0, .int 0, .int 0, .ref m_digestAt, .ref m_isGroup, .ref m_counts, .int 0, .int 0, .long 0, .int 0, .ref m_versionRow, .int 0, .long 0, .ref m_state, .ref m_names, .int 0, .ref m_keptRow, .int 0, .ref m_inSlot, .ref m_inAt, .ref m_inSize, .ref m_inDigest, .int 0]))])) (va_Qv (fun (_ : Unit) => True) (fun (_ : Unit) t => va_P (dC, dI) vwCl [(mo, .inr (11, [.ref m_disk, .int (nI P), .int ((8224 : Int32) + ((26 : Int32) * (nI P))), .int (1 : Int32), .int 0, .int (-1 : Int32), .int 0, .int (0 : Int32), .ref m_tape, .int 0, .ref m_slots, .ref m_leaves, .int 0, .int (1 : Int32), .ref m_fresh, .int 0, .int 0, .int 0, .ref m_digestAt, .ref m_isGroup, .ref m_counts, .int 0, .int 0, .long 0, .int 0, .ref m_versionRow, .int 0, .long 0, .ref m_state, .ref m_names, .int 0, .ref m_keptRow, .int 0, .ref m_inSlot, .ref m_inAt, .ref m_inSize, .ref m_inDigest, .int 0]))] t.heap ∧ va_K (dC, dI) vwCl [] t ∧ va_D (va_A [(mo, .inr (11, [.ref m_disk, .int (nI P), .int ((8224 : Int32) + ((26 : Int32) * (nI P))), .int (1 : Int32), .int 0, .int (-1 : Int32), .int 0, .int (0 : Int32), .ref m_tape, .int 0, .ref m_slots, .ref m_leaves, .int 0, .int 0, .ref m_fresh, .int 0, .int 0, .int 0, .ref m_digestAt, .ref m_isGroup, .ref m_counts, .int 0, .int 0, .long 0, .int 0, .ref m_versionRow, .int 0, .long 0, .ref m_state, .ref m_names, .int 0, .ref m_keptRow, .int 0, .ref m_inSlot, .ref m_inAt, .ref m_inSize, .ref m_inDigest, .int 0]))] sz) [(mo, .inr (11, [.ref m_disk, .int (nI P), .int ((8224 : Int32) + ((26 : Int32) * (nI P))), .int (1 : Int32), .int 0, .int (-1 : Int32), .int 0, .int (0 : Int32), .ref m_tape, .int 0, .ref m_slots, .ref m_leaves, .int 0, .int (1 : Int32), .ref m_fresh, .int 0, .int 0, .int 0, .ref m_digestAt, .ref m_isGroup, .ref m_counts, .int 0, .int 0, .long 0, .int 0, .ref m_versionRow, .int 0, .long 0, .ref m_state, .ref m_names, .int 0, .ref m_keptRow, .int 0, .ref m_inSlot, .ref m_inAt, .ref m_inSize, .ref m_inDigest, .int 0]))]) (va_A [(mo, .inr (11, [.ref m_disk, .int (nI P), .int ((8224 : Int32) + ((26 : Int32) * (nI P))), .int (1 : Int32), .int 0, .int (-1 : Int32), .int 0, .int (0 : Int32), .ref m_tape, .int 0, .ref m_slots, .ref m_leaves, .int 0, .int 0, .ref m_fresh, .int 0, .int 0, .int 0, .ref m_digestAt, .ref m_isGroup, .ref m_counts, .int 0, .int 0, .long 0, .int 0, .ref m_versionRow, .int 0, .long 0, .ref m_state, .ref m_names, .int 0, .ref m_keptRow, .int 0, .ref m_inSlot, .ref m_inAt, .ref m_inSize, .ref m_inDigest, .int 0]))] sz)) 0 0 (va_A [(mo, .inr (11, [.ref m_disk, .int (nI P), .int ((8224 : Int32) + ((26 : Int32) * (nI P))), .int (1 : Int32), .int 0, .int (-1 : Int32), .int 0, .int (0 : Int32), .ref m_tape, .int 0, .ref m_slots, .ref m_leaves, .int 0, .int 0, .ref m_fresh, .int 0, .int 0, .int 0, .ref m_digestAt, .ref m_isGroup, .ref m_counts, .int 0, .int 0, .long 0, .int 0, .ref m_versionRow, .int 0, .long 0, .ref m_state, .ref m_names, .int 0, .ref m_keptRow, .int 0, .ref m_inSlot, .ref m_inAt, .ref m_inSize, .ref m_inDigest, .int 0]))] sz) := by
  refine Met.ofW (cc := cX9_cut) (maxL := 2) (ret := none) (by decide) rfl ?_
  intro p e s m args below meth c s₁ B hml hv
  obtain ⟨rfl, hsz, hP, hK, hD0⟩ := hv
  have hx := B.exec
  have hb := B.bytes
  have hr := B.returns
  have hts := atoms_spec (ws := wsX9_cut) B.pre
  have hown : s.vm.findClass RX9 = some m.cls := findClass_of_methodNamed B.named
  have hlocks := B.notSynchronized
  subst hsz
  have hD := hD0.self (sz := s.heap.size)
  generalize hAe : va_A [(mo, .inr (11, [.ref m_disk, .int (nI P), .int ((8224 : Int32) + ((26 : Int32) * (nI P))), .int (1 : Int32), .int 0, .int (-1 : Int32), .int 0, .int (0 : Int32), .ref m_tape, .int 0, .ref m_slots, .ref m_leaves, .int 0, .int 0, .ref m_fresh, .int 0, .int 0, .int 0, .ref m_digestAt, .ref m_isGroup, .ref m_counts, .int 0, .int 0, .long 0, .int 0, .ref m_versionRow, .int 0, .long 0, .ref m_state, .ref m_names, .int 0, .ref m_keptRow, .int 0, .ref m_inSlot, .ref m_inAt, .ref m_inSize, .ref m_inDigest, .int 0]))] s.heap.size = A at hD ⊢
  have hA : ∀ q : Nat, s.heap.size ≤ q → A q := fun q h => by rw [← hAe]; exact Or.inr h
  have hS : va_S A s.heap s.heap [] := va_S.rf
  have hl := lv_entry ([.ref mo, .int p0]) (n := 2) (Nat.le_of_ble_eq_true rfl)
  rw [lg_entry_eq]
  generalize (lg_sl ([.ref mo, .int p0]) ++ List.replicate (2 - (lg_sl ([.ref mo, .int p0])).length) Slot.unset).toArray = ls at hl ⊢
  have hl : lv_has ls 2 [(0, .ref mo), (1, .int p0)] := hl
  refine lv_aload_n hx hb dX9_cut_0 rfl (lv_at hl 0 rfl) ?_
  refine lv_iload_n hx hb dX9_cut_1 rfl (lv_at hl 1 rfl) ?_
  refine lv_iconst (v := (-1)) hx hb dX9_cut_2 (by decide) ?_
  refine lv_sipush (v := 5000) hx hb dX9_cut_3 (by decide) ?_
  have hPc := hP.sub (ws' := []) [] rfl
  have hKc := hK.sub (tys' := []) [] rfl
  refine vp_callSi (va_Run.run (va_runS (As := [.int p0, .int (-1 : Int32), .int (5000 : Int32)]) (rest := [.ref mo]) ⟨hx, hb, hml, hown, hts⟩ (k_X9_within_2 l dC dI p0 (-1 : Int32) (5000 : Int32) hf0 hf1) (va_cwS 3 hts gX9_cut_X9_within rfl rfl rfl (by decide +kernel) ⟨Nat.le_of_ble_eq_true rfl, Nat.le_of_ble_eq_true rfl⟩) ⟨fun a U g mk q => by obtain ⟨q0, qP, qK⟩ := q; exact ⟨q0, qP, va_K.moved (u := U) (U := U.calling g mk a) (Vm.Alike.refl U.vm) qK⟩, fun U hU hW => ⟨rfl, by rw [hU]; exact hPc, va_K.moved hW.alike hKc⟩⟩ rfl rfl hl.1 rfl (lv_room (Nat.le_of_ble_eq_true rfl)) dX9_cut_6 ⟨Nat.le_of_ble_eq_true rfl, Nat.le_of_ble_eq_true rfl⟩)) (fun r_1 er_1 => ?_)
  subst er_1
  refine lv_if_eq (tgt := 16) hx hb dX9_cut_9 (by decide) (fun c_2 => ?_) (fun c_2 => ?_)
  · skip
    refine lv_iconst (v := 1) hx hb dX9_cut_16 (by decide) ?_
    refine va_put (D := (dC, dI)) (ci := 11) (v := .int (1 : Int32)) (ty := .int) (C := RX9) (T := TX9) (N := 38) hx hb hts (by decide +kernel) tyX9 tyX9_ok nmX9 hown hK hP hD hS 0 rfl rfl 13 (by decide) (hts (.fieldLink RX9 91 "BlockLogModel" "thrown" "I") (by decide +kernel)) (fun _ h9 => h9) rfl (by decide +kernel) rfl rfl (Nat.le_of_ble_eq_true rfl) dX9_cut_17 (fun H locs hP hD hS => ?_)
    have hP : va_P (dC, dI) vwCl [(mo, .inr (11, [.ref m_disk, .int (nI P), .int ((8224 : Int32) + ((26 : Int32) * (nI P))), .int (1 : Int32), .int 0, .int (-1 : Int32), .int 0, .int (0 : Int32), .ref m_tape, .int 0, .ref m_slots, .ref m_leaves, .int 0, .int (1 : Int32), .ref m_fresh, .int 0, .int 0, .int 0, .ref m_digestAt, .ref m_isGroup, .ref m_counts, .int 0, .int 0, .long 0, .int 0, .ref m_versionRow, .int 0, .long 0, .ref m_state, .ref m_names, .int 0, .ref m_keptRow, .int 0, .ref m_inSlot, .ref m_inAt, .ref m_inSize, .ref m_inDigest, .int 0]))] H := hP
    have hD : va_D A [(mo, .inr (11, [.ref m_disk, .int (nI P), .int ((8224 : Int32) + ((26 : Int32) * (nI P))), .int (1 : Int32), .int 0, .int (-1 : Int32), .int 0, .int (0 : Int32), .ref m_tape, .int 0, .ref m_slots, .ref m_leaves, .int 0, .int (1 : Int32), .ref m_fresh, .int 0, .int 0, .int 0, .ref m_digestAt, .ref m_isGroup, .ref m_counts, .int 0, .int 0, .long 0, .int 0, .ref m_versionRow, .int 0, .long 0, .ref m_state, .ref m_names, .int 0, .ref m_keptRow, .int 0, .ref m_inSlot, .ref m_inAt, .ref m_inSize, .ref m_inDigest, .int 0]))] := hD
    refine lv_aload_n hx hb dX9_cut_20 rfl (lv_at hl 0 rfl) ?_
    refine lv_aload_n hx hb dX9_cut_21 rfl (lv_at hl 0 rfl) ?_
    refine va_get (D := (dC, dI)) (ci := 11) (v := .int (1 : Int32)) (C := RX9) (T := TX9) (N := 38) hx hb hts (by decide +kernel) hown hK hP 0 rfl rfl 13 (by decide) (hts (.fieldLink RX9 91 "BlockLogModel" "thrown" "I") (by decide +kernel)) (fun _ h9 => h9) rfl dX9_cut_22 ?_
    refine lv_if_le (tgt := 35) hx hb dX9_cut_25 (by decide) (fun c_3 => ?_) (fun c_3 => ?_)
    · skip
      exact absurd c_3 (by decide)
    · skip
      refine lv_aload_n hx hb dX9_cut_28 rfl (lv_at hl 0 rfl) ?_
      refine va_get (D := (dC, dI)) (ci := 11) (v := .int (-1 : Int32)) (C := RX9) (T := TX9) (N := 38) hx hb hts (by decide +kernel) hown hK hP 0 rfl rfl 5 (by decide) (hts (.fieldLink RX9 69 "BlockLogModel" "power" "I") (by decide +kernel)) (fun _ h9 => h9) rfl dX9_cut_29 ?_
      refine lv_goto (tgt := 36) hx hb dX9_cut_32 (by decide) ?_
      refine va_put (D := (dC, dI)) (ci := 11) (v := .int (-1 : Int32)) (ty := .int) (C := RX9) (T := TX9) (N := 38) hx hb hts (by decide +kernel) tyX9 tyX9_ok nmX9 hown hK hP hD hS 0 rfl rfl 5 (by decide) (hts (.fieldLink RX9 69 "BlockLogModel" "power" "I") (by decide +kernel)) (fun _ h9 => h9) rfl (by decide +kernel) rfl rfl (Nat.le_of_ble_eq_true rfl) dX9_cut_36 (fun H locs hP hD hS => ?_)
      have hP : va_P (dC, dI) vwCl [(mo, .inr (11, [.ref m_disk, .int (nI P), .int ((8224 : Int32) + ((26 : Int32) * (nI P))), .int (1 : Int32), .int 0, .int (-1 : Int32), .int 0, .int (0 : Int32), .ref m_tape, .int 0, .ref m_slots, .ref m_leaves, .int 0, .int (1 : Int32), .ref m_fresh, .int 0, .int 0, .int 0, .ref m_digestAt, .ref m_isGroup, .ref m_counts, .int 0, .int 0, .long 0, .int 0, .ref m_versionRow, .int 0, .long 0, .ref m_state, .ref m_names, .int 0, .ref m_keptRow, .int 0, .ref m_inSlot, .ref m_inAt, .ref m_inSize, .ref m_inDigest, .int 0]))] H := hP
      have hD : va_D A [(mo, .inr (11, [.ref m_disk, .int (nI P), .int ((8224 : Int32) + ((26 : Int32) * (nI P))), .int (1 : Int32), .int 0, .int (-1 : Int32), .int 0, .int (0 : Int32), .ref m_tape, .int 0, .ref m_slots, .ref m_leaves, .int 0, .int (1 : Int32), .ref m_fresh, .int 0, .int 0, .int 0, .ref m_digestAt, .ref m_isGroup, .ref m_counts, .int 0, .int 0, .long 0, .int 0, .ref m_versionRow, .int 0, .long 0, .ref m_state, .ref m_names, .int 0, .ref m_keptRow, .int 0, .ref m_inSlot, .ref m_inAt, .ref m_inSize, .ref m_inDigest, .int 0]))] := hD
      have hP := hP.sub (ws' := [(mo, .inr (11, [.ref m_disk, .int (nI P), .int ((8224 : Int32) + ((26 : Int32) * (nI P))), .int (1 : Int32), .int 0, .int (-1 : Int32), .int 0, .int (0 : Int32), .ref m_tape, .int 0, .ref m_slots, .ref m_leaves, .int 0, .int (1 : Int32), .ref m_fresh, .int 0, .int 0, .int 0, .ref m_digestAt, .ref m_isGroup, .ref m_counts, .int 0, .int 0, .long 0, .int 0, .ref m_versionRow, .int 0, .long 0, .ref m_state, .ref m_names, .int 0, .ref m_keptRow, .int 0, .ref m_inSlot, .ref m_inAt, .ref m_inSize, .ref m_inDigest, .int 0]))]) [0] rfl
      have hD := hD.sub (ws' := [(mo, .inr (11, [.ref m_disk, .int (nI P), .int ((8224 : Int32) + ((26 : Int32) * (nI P))), .int (1 : Int32), .int 0, .int (-1 : Int32), .int 0, .int (0 : Int32), .ref m_tape, .int 0, .ref m_slots, .ref m_leaves, .int 0, .int (1 : Int32), .ref m_fresh, .int 0, .int 0, .int 0, .ref m_digestAt, .ref m_isGroup, .ref m_counts, .int 0, .int 0, .long 0, .int 0, .ref m_versionRow, .int 0, .long 0, .ref m_state, .ref m_names, .int 0, .ref m_keptRow, .int 0, .ref m_inSlot, .ref m_inAt, .ref m_inSize, .ref m_inDigest, .int 0]))]) [0] (by decide) rfl
      have hK := hK.sub (tys' := []) [] rfl
      exact W.vret hx hb hr (fun t ht hW => ⟨⟨(), rfl, trivial, by rw [ht]; exact hP, va_K.moved hW.alike hK, hD⟩, hS.F ht⟩) hS.2.2 dX9_cut_39
  · skip
    exact absurd (by decide) c_2

set_option maxHeartbeats 4000000 in
set_option maxRecDepth 100000 in
theorem k_X8_cut_3 (l : Launch) (dC : Nat → ClassId) (dI : Nat → Nat → Nat) (x : Nat) (p0 : Int32) (ds : Nat) (tp : Nat) (rr : Nat) (so : Nat) (pu : Nat) (sn : Nat) (im : Nat) (cs : Nat) (cl : Nat) (pg : Int32) (dl : Nat) (dr : Nat) (dt : Nat) (sz : Nat) (hf0 : -1 ≤ p0) (hf1 : p0 ≤ 5000) : Met l yX8_cut wsX8_cut ({ frames := 0, cells := 0, slots := 0, locals := 0 }) (va_Pc [.ref x, .int p0] (fun U => U.heap.size = sz ∧ va_P (dC, dI) vwCl [(x, .inr (10, [.ref tp, .ref ds, .ref rr, .ref so, .ref pu, .ref sn, .ref im, .ref cs, .ref cl, .int (0 : Int32)])), (ds, .inr (3, [.int pg, .ref dl, .ref dr, .ref dt, .int (1 : Int32), .int (-1 : Int32), .int (0 : Int32)]))] U.heap ∧ va_K (dC, dI) vwCl [] U ∧ va_D (fun _ => True) [(x, .inr (10, [.ref tp, .ref ds, .ref rr, .ref so, .ref pu, .ref sn, .ref im, .ref cs, .ref cl, .int (0 : Int32)])), (ds, .inr (3, [.int pg, .ref dl, .ref dr, .ref dt, .int (1 : Int32), .int (-1 : Int32), .int (0 : Int32)]))] ∧ gx_E (va_A [(x, .inr (10, [.ref tp, .ref ds, .ref rr, .ref so, .ref pu, .ref sn, .ref im, .ref cs, .ref cl, .int (0 : Int32)])), (ds, .inr (3, [.int pg, .ref dl, .ref dr, .ref dt, .int (1 : Int32), .int (-1 : Int32), .int (0 : Int32)]))] sz) U)) (va_Qv (fun (_ : Unit) => True) (fun (_ : Unit) t => va_P (dC, dI) vwCl [(x, .inr (10, [.ref tp, .ref ds, .ref rr, .ref so, .ref pu, .ref sn, .ref im, .ref cs, .ref cl, .int (0 : Int32)])), (ds, .inr (3, [.int pg, .ref dl, .ref dr, .ref dt, .int (1 : Int32), .int p0, .int (0 : Int32)]))] t.heap ∧ va_K (dC, dI) vwCl [] t ∧ va_D (va_A [(x, .inr (10, [.ref tp, .ref ds, .ref rr, .ref so, .ref pu, .ref sn, .ref im, .ref cs, .ref cl, .int (0 : Int32)])), (ds, .inr (3, [.int pg, .ref dl, .ref dr, .ref dt, .int (1 : Int32), .int (-1 : Int32), .int (0 : Int32)]))] sz) [(x, .inr (10, [.ref tp, .ref ds, .ref rr, .ref so, .ref pu, .ref sn, .ref im, .ref cs, .ref cl, .int (0 : Int32)])), (ds, .inr (3, [.int pg, .ref dl, .ref dr, .ref dt, .int (1 : Int32), .int p0, .int (0 : Int32)]))]) (va_A [(x, .inr (10, [.ref tp, .ref ds, .ref rr, .ref so, .ref pu, .ref sn, .ref im, .ref cs, .ref cl, .int (0 : Int32)])), (ds, .inr (3, [.int pg, .ref dl, .ref dr, .ref dt, .int (1 : Int32), .int (-1 : Int32), .int (0 : Int32)]))] sz)) 0 0 (va_A [(x, .inr (10, [.ref tp, .ref ds, .ref rr, .ref so, .ref pu, .ref sn, .ref im, .ref cs, .ref cl, .int (0 : Int32)])), (ds, .inr (3, [.int pg, .ref dl, .ref dr, .ref dt, .int (1 : Int32), .int (-1 : Int32), .int (0 : Int32)]))] sz) := by
  refine Met.ofW (cc := cX8_cut) (maxL := 2) (ret := none) (by decide) rfl ?_
  intro p e s m args below meth c s₁ B hml hv
  obtain ⟨rfl, hsz, hP, hK, hD0, hG⟩ := hv
  have hx := B.exec
  have hb := B.bytes
  have hr := B.returns
  have hts := atoms_spec (ws := wsX8_cut) B.pre
  have hown : s.vm.findClass RX8 = some m.cls := findClass_of_methodNamed B.named
  have hlocks := B.notSynchronized
  subst hsz
  have hD := hD0.self (sz := s.heap.size)
  generalize hAe : va_A [(x, .inr (10, [.ref tp, .ref ds, .ref rr, .ref so, .ref pu, .ref sn, .ref im, .ref cs, .ref cl, .int (0 : Int32)])), (ds, .inr (3, [.int pg, .ref dl, .ref dr, .ref dt, .int (1 : Int32), .int (-1 : Int32), .int (0 : Int32)]))] s.heap.size = A at hD hG ⊢
  have hA : ∀ q : Nat, s.heap.size ≤ q → A q := fun q h => by rw [← hAe]; exact Or.inr h
  have hS : va_S A s.heap s.heap [] := va_S.rf
  have hl := lv_entry ([.ref x, .int p0]) (n := 2) (Nat.le_of_ble_eq_true rfl)
  rw [lg_entry_eq]
  generalize (lg_sl ([.ref x, .int p0]) ++ List.replicate (2 - (lg_sl ([.ref x, .int p0])).length) Slot.unset).toArray = ls at hl ⊢
  have hl : lv_has ls 2 [(0, .ref x), (1, .int p0)] := hl
  refine lv_iload_n hx hb dX8_cut_0 rfl (lv_at hl 1 rfl) ?_
  refine lv_iconst (v := (-1)) hx hb dX8_cut_1 (by decide) ?_
  refine lv_icmp_lt (tgt := 12) hx hb dX8_cut_2 (by decide) (fun c_1 => ?_) (fun c_1 => ?_)
  · skip
    exact absurd c_1 (Int32.not_lt.mpr hf0)
  · skip
    refine lv_iload_n hx hb dX8_cut_5 rfl (lv_at hl 1 rfl) ?_
    refine lv_sipush (v := 5000) hx hb dX8_cut_6 (by decide) ?_
    refine lv_icmp_le (tgt := 23) hx hb dX8_cut_9 (by decide) (fun c_2 => ?_) (fun c_2 => ?_)
    · skip
      refine lv_aload_n hx hb dX8_cut_23 rfl (lv_at hl 0 rfl) ?_
      refine va_get (D := (dC, dI)) (ci := 10) (v := .ref ds) (C := RX8) (T := TX8) (N := 10) hx hb hts (by decide +kernel) hown hK hP 0 rfl rfl 1 (by decide) (hts (.fieldLink RX8 22 "BlockLog" "disk" "LBlockLog$Disk;") (by decide +kernel)) (fun _ h9 => h9) rfl dX8_cut_24 ?_
      refine lv_iload_n hx hb dX8_cut_27 rfl (lv_at hl 1 rfl) ?_
      refine va_putN (D := (dC, dI)) (ci := 3) (v := .int p0) (ty := .int) (C := RX1) (T := TX1) (N := 7) hx hb hts (by decide +kernel) tyX1 tyX1_ok nmX1 hown hK hP hD hS 1 rfl rfl 5 (by decide) (va_Nw.use rfl (hG.1.1 ("BlockLog", 284, "BlockLog$Disk", "actsLeft", "I", "BlockLog") (by decide +kernel))) (fun _ h9 => h9) rfl (by decide +kernel) rfl rfl (Nat.le_of_ble_eq_true rfl) dX8_cut_28 (fun H locs hP hD hS => ?_)
      have hP : va_P (dC, dI) vwCl [(x, .inr (10, [.ref tp, .ref ds, .ref rr, .ref so, .ref pu, .ref sn, .ref im, .ref cs, .ref cl, .int (0 : Int32)])), (ds, .inr (3, [.int pg, .ref dl, .ref dr, .ref dt, .int (1 : Int32), .int p0, .int (0 : Int32)]))] H := hP
      have hD : va_D A [(x, .inr (10, [.ref tp, .ref ds, .ref rr, .ref so, .ref pu, .ref sn, .ref im, .ref cs, .ref cl, .int (0 : Int32)])), (ds, .inr (3, [.int pg, .ref dl, .ref dr, .ref dt, .int (1 : Int32), .int p0, .int (0 : Int32)]))] := hD
      have hP := hP.sub (ws' := [(x, .inr (10, [.ref tp, .ref ds, .ref rr, .ref so, .ref pu, .ref sn, .ref im, .ref cs, .ref cl, .int (0 : Int32)])), (ds, .inr (3, [.int pg, .ref dl, .ref dr, .ref dt, .int (1 : Int32), .int p0, .int (0 : Int32)]))]) [0, 1] rfl
      have hD := hD.sub (ws' := [(x, .inr (10, [.ref tp, .ref ds, .ref rr, .ref so, .ref pu, .ref sn, .ref im, .ref cs, .ref cl, .int (0 : Int32)])), (ds, .inr (3, [.int pg, .ref dl, .ref dr, .ref dt, .int (1 : Int32), .int p0, .int (0 : Int32)]))]) [0, 1] (by decide) rfl
      have hK := hK.sub (tys' := []) [] rfl
      exact W.vret hx hb hr (fun t ht hW => ⟨⟨(), rfl, trivial, by rw [ht]; exact hP, va_K.moved hW.alike hK, hD⟩, hS.F ht⟩) hS.2.2 dX8_cut_31
    · skip
      exact absurd hf1 c_2

set_option maxHeartbeats 4000000 in
set_option maxRecDepth 100000 in
theorem k_L_cut_3 (l : Launch) (dC : Nat → ClassId) (dI : Nat → Nat → Nat) (x : Nat) (p0 : Int32) (ds : Nat) (tp : Nat) (rr : Nat) (so : Nat) (pu : Nat) (sn : Nat) (im : Nat) (cs : Nat) (cl : Nat) (pg : Int32) (dl : Nat) (dr : Nat) (dt : Nat) (sz : Nat) (hf0 : -1 ≤ p0) (hf1 : p0 ≤ 5000) : Met l yL_cut wsL_cut ({ frames := 1, cells := 0, slots := 0, locals := 21 }) (va_Pc [.ref x, .int p0] (fun U => U.heap.size = sz ∧ va_P (dC, dI) vwCl [(x, .inr (10, [.ref tp, .ref ds, .ref rr, .ref so, .ref pu, .ref sn, .ref im, .ref cs, .ref cl, .int (0 : Int32)])), (ds, .inr (3, [.int pg, .ref dl, .ref dr, .ref dt, .int (1 : Int32), .int (-1 : Int32), .int (0 : Int32)]))] U.heap ∧ va_K (dC, dI) vwCl [] U ∧ va_D (fun _ => True) [(x, .inr (10, [.ref tp, .ref ds, .ref rr, .ref so, .ref pu, .ref sn, .ref im, .ref cs, .ref cl, .int (0 : Int32)])), (ds, .inr (3, [.int pg, .ref dl, .ref dr, .ref dt, .int (1 : Int32), .int (-1 : Int32), .int (0 : Int32)]))] ∧ gx_E (va_A [(x, .inr (10, [.ref tp, .ref ds, .ref rr, .ref so, .ref pu, .ref sn, .ref im, .ref cs, .ref cl, .int (0 : Int32)])), (ds, .inr (3, [.int pg, .ref dl, .ref dr, .ref dt, .int (1 : Int32), .int (-1 : Int32), .int (0 : Int32)]))] sz) U)) (va_Qi (fun r (_ : Unit) => r = (0 : Int32)) (fun (_ : Unit) t => va_P (dC, dI) vwCl [] t.heap ∧ va_K (dC, dI) vwCl [] t ∧ va_D (va_A [(x, .inr (10, [.ref tp, .ref ds, .ref rr, .ref so, .ref pu, .ref sn, .ref im, .ref cs, .ref cl, .int (0 : Int32)])), (ds, .inr (3, [.int pg, .ref dl, .ref dr, .ref dt, .int (1 : Int32), .int (-1 : Int32), .int (0 : Int32)]))] sz) []) (va_A [(x, .inr (10, [.ref tp, .ref ds, .ref rr, .ref so, .ref pu, .ref sn, .ref im, .ref cs, .ref cl, .int (0 : Int32)])), (ds, .inr (3, [.int pg, .ref dl, .ref dr, .ref dt, .int (1 : Int32), .int (-1 : Int32), .int (0 : Int32)]))] sz)) 0 0 (va_A [(x, .inr (10, [.ref tp, .ref ds, .ref rr, .ref so, .ref pu, .ref sn, .ref im, .ref cs, .ref cl, .int (0 : Int32)])), (ds, .inr (3, [.int pg, .ref dl, .ref dr, .ref dt, .int (1 : Int32), .int (-1 : Int32), .int (0 : Int32)]))] sz) := by
  refine va_MetW (cc := cL_cut) (maxL := 3) (ret := (some .int)) (hh := [(0, 5, 8, 13)]) (by decide) rfl ?_
  intro p e s m args below meth c s₁ B hml hv
  obtain ⟨rfl, hsz, hP, hK, hD0, hG⟩ := hv
  have hx := B.exec
  have hb := B.bytes
  have hr := B.returns
  have hts := atoms_spec (ws := wsL_cut) B.pre
  have hown : s.vm.findClass RL = some m.cls := findClass_of_methodNamed B.named
  have hlocks := B.notSynchronized
  have htab := vx_table (x := yL_cut) B (hts (.codeWith yL_cut cL_cut 3 (some .int) [(0, 5, 8, 13)]) List.mem_cons_self)
  subst hsz
  have hD := hD0.self (sz := s.heap.size)
  generalize hAe : va_A [(x, .inr (10, [.ref tp, .ref ds, .ref rr, .ref so, .ref pu, .ref sn, .ref im, .ref cs, .ref cl, .int (0 : Int32)])), (ds, .inr (3, [.int pg, .ref dl, .ref dr, .ref dt, .int (1 : Int32), .int (-1 : Int32), .int (0 : Int32)]))] s.heap.size = A at hD hG ⊢
  have hA : ∀ q : Nat, s.heap.size ≤ q → A q := fun q h => by rw [← hAe]; exact Or.inr h
  have hS : va_S A s.heap s.heap [] := va_S.rf
  have hl := lv_entry ([.ref x, .int p0]) (n := 3) (Nat.le_of_ble_eq_true rfl)
  rw [lg_entry_eq]
  generalize (lg_sl ([.ref x, .int p0]) ++ List.replicate (3 - (lg_sl ([.ref x, .int p0])).length) Slot.unset).toArray = ls at hl ⊢
  have hl : lv_has ls 3 [(0, .ref x), (1, .int p0)] := hl
  refine lv_aload_n hx hb dL_cut_0 rfl (lv_at hl 0 rfl) ?_
  refine lv_iload_n hx hb dL_cut_1 rfl (lv_at hl 1 rfl) ?_
  have hPc := hP.sub (ws' := [(x, .inr (10, [.ref tp, .ref ds, .ref rr, .ref so, .ref pu, .ref sn, .ref im, .ref cs, .ref cl, .int (0 : Int32)])), (ds, .inr (3, [.int pg, .ref dl, .ref dr, .ref dt, .int (1 : Int32), .int (-1 : Int32), .int (0 : Int32)]))]) [0, 1] rfl
  have hKc := hK.sub (tys' := []) [] rfl
  have hDc := hD.sub (ws' := [(x, .inr (10, [.ref tp, .ref ds, .ref rr, .ref so, .ref pu, .ref sn, .ref im, .ref cs, .ref cl, .int (0 : Int32)])), (ds, .inr (3, [.int pg, .ref dl, .ref dr, .ref dt, .int (1 : Int32), .int (-1 : Int32), .int (0 : Int32)]))]) [0, 1] (by decide) rfl
  have hFc := va_free (wc := [(x, .inr (10, [.ref tp, .ref ds, .ref rr, .ref so, .ref pu, .ref sn, .ref im, .ref cs, .ref cl, .int (0 : Int32)])), (ds, .inr (3, [.int pg, .ref dl, .ref dr, .ref dt, .int (1 : Int32), .int (-1 : Int32), .int (0 : Int32)]))]) hD hS hA [0, 1] rfl
  refine va_callv (va_runV (As := [.int p0]) (rest := []) ⟨hx, hb, hml, hown, hts⟩ (k_X8_cut_3 l dC dI x p0 ds tp rr so pu sn im cs cl pg dl dr dt _ hf0 hf1) (cwV 1 hts gL_cut_X8_cut rfl rfl rfl (by decide +kernel) ⟨Nat.le_of_ble_eq_true rfl, Nat.le_of_ble_eq_true rfl⟩) ⟨fun a U g mk q => by obtain ⟨q0, q1, qP, qK, qD, qG⟩ := q; exact ⟨q0, q1, qP, va_K.moved (u := U) (U := U.calling g mk a) (Vm.Alike.refl U.vm) qK, qD, qG.same rfl rfl⟩, va_recv hK hP (ci := 10) (q := (RX8, TX8, 10)) rfl (q0 := 0) rfl, fun U hU hW => ⟨rfl, by rw [hU], by rw [hU]; exact hPc, va_K.moved hW.alike hKc, hDc.weaken (fun _ _ _ _ => trivial), hG.go hW hU hS hFc⟩⟩ rfl rfl hl.1 rfl (lv_room (Nat.le_of_ble_eq_true rfl)) dL_cut_2 ⟨Nat.le_of_ble_eq_true rfl, Nat.le_of_ble_eq_true rfl⟩) hS (fun q _ h => hFc q h) hFc (fun u t H1 locs ht hvm er_1 hB hz1 hk1 hS => ?_)
  obtain ⟨hP1, hK1, hD1⟩ := hB
  rw [ht] at hP1
  obtain ⟨hP, hD⟩ := va_join (wr := []) (w1 := [(x, .inr (10, [.ref tp, .ref ds, .ref rr, .ref so, .ref pu, .ref sn, .ref im, .ref cs, .ref cl, .int (0 : Int32)])), (ds, .inr (3, [.int pg, .ref dl, .ref dr, .ref dt, .int (1 : Int32), .int p0, .int (0 : Int32)]))]) hP hD [0, 1] [] rfl rfl (by decide) (by decide) hk1 hFc hP1 hD1
  clear hPc hDc hFc hP1 hD1 hk1 hz1
  generalize H1 = H at hP hS ⊢
  have hP : va_P (dC, dI) vwCl [(x, .inr (10, [.ref tp, .ref ds, .ref rr, .ref so, .ref pu, .ref sn, .ref im, .ref cs, .ref cl, .int (0 : Int32)])), (ds, .inr (3, [.int pg, .ref dl, .ref dr, .ref dt, .int (1 : Int32), .int p0, .int (0 : Int32)]))] H := hP
  have hD : va_D A [(x, .inr (10, [.ref tp, .ref ds, .ref rr, .ref so, .ref pu, .ref sn, .ref im, .ref cs, .ref cl, .int (0 : Int32)])), (ds, .inr (3, [.int pg, .ref dl, .ref dr, .ref dt, .int (1 : Int32), .int p0, .int (0 : Int32)]))] := hD
  refine lv_goto (tgt := 11) hx hb dL_cut_5 (by decide) ?_
  refine lv_iconst (v := 0) hx hb dL_cut_11 (by decide) ?_
  have hP := hP.sub (ws' := []) [] rfl
  have hD := hD.sub (ws' := []) [] (by decide) rfl
  have hK := hK.sub (tys' := []) [] rfl
  exact W.iret hx hb hr (fun t ht hW => ⟨⟨_, (), rfl, rfl, by rw [ht]; exact hP, va_K.moved hW.alike hK, hD⟩, hS.F ht⟩) hS.2.2 dL_cut_12

set_option maxHeartbeats 4000000 in
set_option maxRecDepth 100000 in
theorem k_X9_cut_3 (l : Launch) (dC : Nat → ClassId) (dI : Nat → Nat → Nat) (mo : Nat) (p0 : Int32) (m_disk : Nat) (P : Nat) (m_tape : Nat) (m_slots : Nat) (m_leaves : Nat) (m_fresh : Nat) (m_digestAt : Nat) (m_isGroup : Nat) (m_counts : Nat) (m_versionRow : Nat) (m_state : Nat) (m_names : Nat) (m_keptRow : Nat) (m_inSlot : Nat) (m_inAt : Nat) (m_inSize : Nat) (m_inDigest : Nat) (sz : Nat) (hf0 : -1 ≤ p0) (hf1 : p0 ≤ 5000) : Met l yX9_cut wsX9_cut ({ frames := 1, cells := 0, slots := 0, locals := 22 }) (va_Pc [.ref mo, .int p0] (fun U => U.heap.size = sz ∧ va_P (dC, dI) vwCl [(mo, .inr (11, [.ref m_disk, .int (nI P), .int ((8224 : Int32) + ((26 : Int32) * (nI P))), .int (1 : Int32), .int 0, .int (-1 : Int32), .int 0, .int (0 : Int32), .ref m_tape, .int 0, .ref m_slots, .ref m_leaves, .int 0, .int 0, .ref m_fresh, .int 0, .int 0, .int 0, .ref m_digestAt, .ref m_isGroup, .ref m_counts, .int 0, .int 0, .long 0, .int 0, .ref m_versionRow, .int 0, .long 0, .ref m_state, .ref m_names, .int 0, .ref m_keptRow, .int 0, .ref m_inSlot, .ref m_inAt, .ref m_inSize, .ref m_inDigest, .int 0]))] U.heap ∧ va_K (dC, dI) vwCl [] U ∧ va_D (fun _ => True) [(mo, .inr (11, [.ref m_disk, .int (nI P), .int ((8224 : Int32) + ((26 : Int32) * (nI P))), .int (1 : Int32), .int 0, .int (-1 : Int32), .int 0, .int (0 : Int32), .ref m_tape, .int 0, .ref m_slots, .ref m_leaves, .int 0, .int 0, .ref m_fresh, .int 0, .int 0, .int 0, .ref m_digestAt, .ref m_isGroup, .ref m_counts, .int 0, .int 0, .long 0, .int 0, .ref m_versionRow, .int 0, .long 0, .ref m_state, .ref m_names, .int 0, .ref m_keptRow, .int 0, .ref m_inSlot, .ref m_inAt, .ref m_inSize, .ref m_inDigest, .int 0]))])) (va_Qv (fun (_ : Unit) => True) (fun (_ : Unit) t => va_P (dC, dI) vwCl [(mo, .inr (11, [.ref m_disk, .int (nI P), .int ((8224 : Int32) + ((26 : Int32) * (nI P))), .int (1 : Int32), .int 0, .int p0, .int 0, .int (0 : Int32), .ref m_tape, .int 0, .ref m_slots, .ref m_leaves, .int 0, .int (0 : Int32), .ref m_fresh, .int 0, .int 0, .int 0, .ref m_digestAt, .ref m_isGroup, .ref m_counts, .int 0, .int 0, .long 0, .int 0, .ref m_versionRow, .int 0, .long 0, .ref m_state, .ref m_names, .int 0, .ref m_keptRow, .int 0, .ref m_inSlot, .ref m_inAt, .ref m_inSize, .ref m_inDigest, .int 0]))] t.heap ∧ va_K (dC, dI) vwCl [] t ∧ va_D (va_A [(mo, .inr (11, [.ref m_disk, .int (nI P), .int ((8224 : Int32) + ((26 : Int32) * (nI P))), .int (1 : Int32), .int 0, .int (-1 : Int32), .int 0, .int (0 : Int32), .ref m_tape, .int 0, .ref m_slots, .ref m_leaves, .int 0, .int 0, .ref m_fresh, .int 0, .int 0, .int 0, .ref m_digestAt, .ref m_isGroup, .ref m_counts, .int 0, .int 0, .long 0, .int 0, .ref m_versionRow, .int 0, .long 0, .ref m_state, .ref m_names, .int 0, .ref m_keptRow, .int 0, .ref m_inSlot, .ref m_inAt, .ref m_inSize, .ref m_inDigest, .int 0]))] sz) [(mo, .inr (11, [.ref m_disk, .int (nI P), .int ((8224 : Int32) + ((26 : Int32) * (nI P))), .int (1 : Int32), .int 0, .int p0, .int 0, .int (0 : Int32), .ref m_tape, .int 0, .ref m_slots, .ref m_leaves, .int 0, .int (0 : Int32), .ref m_fresh, .int 0, .int 0, .int 0, .ref m_digestAt, .ref m_isGroup, .ref m_counts, .int 0, .int 0, .long 0, .int 0, .ref m_versionRow, .int 0, .long 0, .ref m_state, .ref m_names, .int 0, .ref m_keptRow, .int 0, .ref m_inSlot, .ref m_inAt, .ref m_inSize, .ref m_inDigest, .int 0]))]) (va_A [(mo, .inr (11, [.ref m_disk, .int (nI P), .int ((8224 : Int32) + ((26 : Int32) * (nI P))), .int (1 : Int32), .int 0, .int (-1 : Int32), .int 0, .int (0 : Int32), .ref m_tape, .int 0, .ref m_slots, .ref m_leaves, .int 0, .int 0, .ref m_fresh, .int 0, .int 0, .int 0, .ref m_digestAt, .ref m_isGroup, .ref m_counts, .int 0, .int 0, .long 0, .int 0, .ref m_versionRow, .int 0, .long 0, .ref m_state, .ref m_names, .int 0, .ref m_keptRow, .int 0, .ref m_inSlot, .ref m_inAt, .ref m_inSize, .ref m_inDigest, .int 0]))] sz)) 0 0 (va_A [(mo, .inr (11, [.ref m_disk, .int (nI P), .int ((8224 : Int32) + ((26 : Int32) * (nI P))), .int (1 : Int32), .int 0, .int (-1 : Int32), .int 0, .int (0 : Int32), .ref m_tape, .int 0, .ref m_slots, .ref m_leaves, .int 0, .int 0, .ref m_fresh, .int 0, .int 0, .int 0, .ref m_digestAt, .ref m_isGroup, .ref m_counts, .int 0, .int 0, .long 0, .int 0, .ref m_versionRow, .int 0, .long 0, .ref m_state, .ref m_names, .int 0, .ref m_keptRow, .int 0, .ref m_inSlot, .ref m_inAt, .ref m_inSize, .ref m_inDigest, .int 0]))] sz) := by
  refine Met.ofW (cc := cX9_cut) (maxL := 2) (ret := none) (by decide) rfl ?_
  intro p e s m args below meth c s₁ B hml hv
  obtain ⟨rfl, hsz, hP, hK, hD0⟩ := hv
  have hx := B.exec
  have hb := B.bytes
  have hr := B.returns
  have hts := atoms_spec (ws := wsX9_cut) B.pre
  have hown : s.vm.findClass RX9 = some m.cls := findClass_of_methodNamed B.named
  have hlocks := B.notSynchronized
  subst hsz
  have hD := hD0.self (sz := s.heap.size)
  generalize hAe : va_A [(mo, .inr (11, [.ref m_disk, .int (nI P), .int ((8224 : Int32) + ((26 : Int32) * (nI P))), .int (1 : Int32), .int 0, .int (-1 : Int32), .int 0, .int (0 : Int32), .ref m_tape, .int 0, .ref m_slots, .ref m_leaves, .int 0, .int 0, .ref m_fresh, .int 0, .int 0, .int 0, .ref m_digestAt, .ref m_isGroup, .ref m_counts, .int 0, .int 0, .long 0, .int 0, .ref m_versionRow, .int 0, .long 0, .ref m_state, .ref m_names, .int 0, .ref m_keptRow, .int 0, .ref m_inSlot, .ref m_inAt, .ref m_inSize, .ref m_inDigest, .int 0]))] s.heap.size = A at hD ⊢
  have hA : ∀ q : Nat, s.heap.size ≤ q → A q := fun q h => by rw [← hAe]; exact Or.inr h
  have hS : va_S A s.heap s.heap [] := va_S.rf
  have hl := lv_entry ([.ref mo, .int p0]) (n := 2) (Nat.le_of_ble_eq_true rfl)
  rw [lg_entry_eq]
  generalize (lg_sl ([.ref mo, .int p0]) ++ List.replicate (2 - (lg_sl ([.ref mo, .int p0])).length) Slot.unset).toArray = ls at hl ⊢
  have hl : lv_has ls 2 [(0, .ref mo), (1, .int p0)] := hl
  refine lv_aload_n hx hb dX9_cut_0 rfl (lv_at hl 0 rfl) ?_
  refine lv_iload_n hx hb dX9_cut_1 rfl (lv_at hl 1 rfl) ?_
  refine lv_iconst (v := (-1)) hx hb dX9_cut_2 (by decide) ?_
  refine lv_sipush (v := 5000) hx hb dX9_cut_3 (by decide) ?_
  have hPc := hP.sub (ws' := []) [] rfl
  have hKc := hK.sub (tys' := []) [] rfl
  refine vp_callSi (va_Run.run (va_runS (As := [.int p0, .int (-1 : Int32), .int (5000 : Int32)]) (rest := [.ref mo]) ⟨hx, hb, hml, hown, hts⟩ (k_X9_within_3 l dC dI p0 (-1 : Int32) (5000 : Int32) hf0 hf1) (va_cwS 3 hts gX9_cut_X9_within rfl rfl rfl (by decide +kernel) ⟨Nat.le_of_ble_eq_true rfl, Nat.le_of_ble_eq_true rfl⟩) ⟨fun a U g mk q => by obtain ⟨q0, qP, qK⟩ := q; exact ⟨q0, qP, va_K.moved (u := U) (U := U.calling g mk a) (Vm.Alike.refl U.vm) qK⟩, fun U hU hW => ⟨rfl, by rw [hU]; exact hPc, va_K.moved hW.alike hKc⟩⟩ rfl rfl hl.1 rfl (lv_room (Nat.le_of_ble_eq_true rfl)) dX9_cut_6 ⟨Nat.le_of_ble_eq_true rfl, Nat.le_of_ble_eq_true rfl⟩)) (fun r_1 er_1 => ?_)
  subst er_1
  refine lv_if_eq (tgt := 16) hx hb dX9_cut_9 (by decide) (fun c_2 => ?_) (fun c_2 => ?_)
  · skip
    exact absurd c_2 (by decide)
  · skip
    refine lv_iconst (v := 0) hx hb dX9_cut_12 (by decide) ?_
    refine lv_goto (tgt := 17) hx hb dX9_cut_13 (by decide) ?_
    refine va_put (D := (dC, dI)) (ci := 11) (v := .int (0 : Int32)) (ty := .int) (C := RX9) (T := TX9) (N := 38) hx hb hts (by decide +kernel) tyX9 tyX9_ok nmX9 hown hK hP hD hS 0 rfl rfl 13 (by decide) (hts (.fieldLink RX9 91 "BlockLogModel" "thrown" "I") (by decide +kernel)) (fun _ h9 => h9) rfl (by decide +kernel) rfl rfl (Nat.le_of_ble_eq_true rfl) dX9_cut_17 (fun H locs hP hD hS => ?_)
    have hP : va_P (dC, dI) vwCl [(mo, .inr (11, [.ref m_disk, .int (nI P), .int ((8224 : Int32) + ((26 : Int32) * (nI P))), .int (1 : Int32), .int 0, .int (-1 : Int32), .int 0, .int (0 : Int32), .ref m_tape, .int 0, .ref m_slots, .ref m_leaves, .int 0, .int (0 : Int32), .ref m_fresh, .int 0, .int 0, .int 0, .ref m_digestAt, .ref m_isGroup, .ref m_counts, .int 0, .int 0, .long 0, .int 0, .ref m_versionRow, .int 0, .long 0, .ref m_state, .ref m_names, .int 0, .ref m_keptRow, .int 0, .ref m_inSlot, .ref m_inAt, .ref m_inSize, .ref m_inDigest, .int 0]))] H := hP
    have hD : va_D A [(mo, .inr (11, [.ref m_disk, .int (nI P), .int ((8224 : Int32) + ((26 : Int32) * (nI P))), .int (1 : Int32), .int 0, .int (-1 : Int32), .int 0, .int (0 : Int32), .ref m_tape, .int 0, .ref m_slots, .ref m_leaves, .int 0, .int (0 : Int32), .ref m_fresh, .int 0, .int 0, .int 0, .ref m_digestAt, .ref m_isGroup, .ref m_counts, .int 0, .int 0, .long 0, .int 0, .ref m_versionRow, .int 0, .long 0, .ref m_state, .ref m_names, .int 0, .ref m_keptRow, .int 0, .ref m_inSlot, .ref m_inAt, .ref m_inSize, .ref m_inDigest, .int 0]))] := hD
    refine lv_aload_n hx hb dX9_cut_20 rfl (lv_at hl 0 rfl) ?_
    refine lv_aload_n hx hb dX9_cut_21 rfl (lv_at hl 0 rfl) ?_
    refine va_get (D := (dC, dI)) (ci := 11) (v := .int (0 : Int32)) (C := RX9) (T := TX9) (N := 38) hx hb hts (by decide +kernel) hown hK hP 0 rfl rfl 13 (by decide) (hts (.fieldLink RX9 91 "BlockLogModel" "thrown" "I") (by decide +kernel)) (fun _ h9 => h9) rfl dX9_cut_22 ?_
    refine lv_if_le (tgt := 35) hx hb dX9_cut_25 (by decide) (fun c_3 => ?_) (fun c_3 => ?_)
    · skip
      refine lv_iload_n hx hb dX9_cut_35 rfl (lv_at hl 1 rfl) ?_
      refine va_put (D := (dC, dI)) (ci := 11) (v := .int p0) (ty := .int) (C := RX9) (T := TX9) (N := 38) hx hb hts (by decide +kernel) tyX9 tyX9_ok nmX9 hown hK hP hD hS 0 rfl rfl 5 (by decide) (hts (.fieldLink RX9 69 "BlockLogModel" "power" "I") (by decide +kernel)) (fun _ h9 => h9) rfl (by decide +kernel) rfl rfl (Nat.le_of_ble_eq_true rfl) dX9_cut_36 (fun H locs hP hD hS => ?_)
      have hP : va_P (dC, dI) vwCl [(mo, .inr (11, [.ref m_disk, .int (nI P), .int ((8224 : Int32) + ((26 : Int32) * (nI P))), .int (1 : Int32), .int 0, .int p0, .int 0, .int (0 : Int32), .ref m_tape, .int 0, .ref m_slots, .ref m_leaves, .int 0, .int (0 : Int32), .ref m_fresh, .int 0, .int 0, .int 0, .ref m_digestAt, .ref m_isGroup, .ref m_counts, .int 0, .int 0, .long 0, .int 0, .ref m_versionRow, .int 0, .long 0, .ref m_state, .ref m_names, .int 0, .ref m_keptRow, .int 0, .ref m_inSlot, .ref m_inAt, .ref m_inSize, .ref m_inDigest, .int 0]))] H := hP
      have hD : va_D A [(mo, .inr (11, [.ref m_disk, .int (nI P), .int ((8224 : Int32) + ((26 : Int32) * (nI P))), .int (1 : Int32), .int 0, .int p0, .int 0, .int (0 : Int32), .ref m_tape, .int 0, .ref m_slots, .ref m_leaves, .int 0, .int (0 : Int32), .ref m_fresh, .int 0, .int 0, .int 0, .ref m_digestAt, .ref m_isGroup, .ref m_counts, .int 0, .int 0, .long 0, .int 0, .ref m_versionRow, .int 0, .long 0, .ref m_state, .ref m_names, .int 0, .ref m_keptRow, .int 0, .ref m_inSlot, .ref m_inAt, .ref m_inSize, .ref m_inDigest, .int 0]))] := hD
      have hP := hP.sub (ws' := [(mo, .inr (11, [.ref m_disk, .int (nI P), .int ((8224 : Int32) + ((26 : Int32) * (nI P))), .int (1 : Int32), .int 0, .int p0, .int 0, .int (0 : Int32), .ref m_tape, .int 0, .ref m_slots, .ref m_leaves, .int 0, .int (0 : Int32), .ref m_fresh, .int 0, .int 0, .int 0, .ref m_digestAt, .ref m_isGroup, .ref m_counts, .int 0, .int 0, .long 0, .int 0, .ref m_versionRow, .int 0, .long 0, .ref m_state, .ref m_names, .int 0, .ref m_keptRow, .int 0, .ref m_inSlot, .ref m_inAt, .ref m_inSize, .ref m_inDigest, .int 0]))]) [0] rfl
      have hD := hD.sub (ws' := [(mo, .inr (11, [.ref m_disk, .int (nI P), .int ((8224 : Int32) + ((26 : Int32) * (nI P))), .int (1 : Int32), .int 0, .int p0, .int 0, .int (0 : Int32), .ref m_tape, .int 0, .ref m_slots, .ref m_leaves, .int 0, .int (0 : Int32), .ref m_fresh, .int 0, .int 0, .int 0, .ref m_digestAt, .ref m_isGroup, .ref m_counts, .int 0, .int 0, .long 0, .int 0, .ref m_versionRow, .int 0, .long 0, .ref m_state, .ref m_names, .int 0, .ref m_keptRow, .int 0, .ref m_inSlot, .ref m_inAt, .ref m_inSize, .ref m_inDigest, .int 0]))]) [0] (by decide) rfl
      have hK := hK.sub (tys' := []) [] rfl
      exact W.vret hx hb hr (fun t ht hW => ⟨⟨(), rfl, trivial, by rw [ht]; exact hP, va_K.moved hW.alike hK, hD⟩, hS.F ht⟩) hS.2.2 dX9_cut_39
    · skip
      exact absurd (by decide) c_3

set_option maxHeartbeats 4000000 in
set_option maxRecDepth 100000 in
theorem k_X8_off_1 (l : Launch) (dC : Nat → ClassId) (dI : Nat → Nat → Nat) (x : Nat) (ds : Nat) (tp : Nat) (rr : Nat) (so : Nat) (pu : Nat) (sn : Nat) (im : Nat) (cs : Nat) (cl : Nat) (pg : Int32) (dl : Nat) (dr : Nat) (dt : Nat) (sz : Nat)  : Met l yX8_off wsX8_off ({ frames := 0, cells := 0, slots := 0, locals := 0 }) (va_Pc [.ref x] (fun U => U.heap.size = sz ∧ va_P (dC, dI) vwCl [(x, .inr (10, [.ref tp, .ref ds, .ref rr, .ref so, .ref pu, .ref sn, .ref im, .ref cs, .ref cl, .int (0 : Int32)])), (ds, .inr (3, [.int pg, .ref dl, .ref dr, .ref dt, .int (1 : Int32), .int (-1 : Int32), .int (0 : Int32)]))] U.heap ∧ va_K (dC, dI) vwCl [] U ∧ va_D (fun _ => True) [(x, .inr (10, [.ref tp, .ref ds, .ref rr, .ref so, .ref pu, .ref sn, .ref im, .ref cs, .ref cl, .int (0 : Int32)])), (ds, .inr (3, [.int pg, .ref dl, .ref dr, .ref dt, .int (1 : Int32), .int (-1 : Int32), .int (0 : Int32)]))] ∧ gx_E (va_A [(x, .inr (10, [.ref tp, .ref ds, .ref rr, .ref so, .ref pu, .ref sn, .ref im, .ref cs, .ref cl, .int (0 : Int32)])), (ds, .inr (3, [.int pg, .ref dl, .ref dr, .ref dt, .int (1 : Int32), .int (-1 : Int32), .int (0 : Int32)]))] sz) U)) (va_Qi (fun r (_ : Unit) => r = (1 : Int32)) (fun (_ : Unit) t => va_P (dC, dI) vwCl [] t.heap ∧ va_K (dC, dI) vwCl [] t ∧ va_D (va_A [(x, .inr (10, [.ref tp, .ref ds, .ref rr, .ref so, .ref pu, .ref sn, .ref im, .ref cs, .ref cl, .int (0 : Int32)])), (ds, .inr (3, [.int pg, .ref dl, .ref dr, .ref dt, .int (1 : Int32), .int (-1 : Int32), .int (0 : Int32)]))] sz) []) (va_A [(x, .inr (10, [.ref tp, .ref ds, .ref rr, .ref so, .ref pu, .ref sn, .ref im, .ref cs, .ref cl, .int (0 : Int32)])), (ds, .inr (3, [.int pg, .ref dl, .ref dr, .ref dt, .int (1 : Int32), .int (-1 : Int32), .int (0 : Int32)]))] sz)) 0 0 (va_A [(x, .inr (10, [.ref tp, .ref ds, .ref rr, .ref so, .ref pu, .ref sn, .ref im, .ref cs, .ref cl, .int (0 : Int32)])), (ds, .inr (3, [.int pg, .ref dl, .ref dr, .ref dt, .int (1 : Int32), .int (-1 : Int32), .int (0 : Int32)]))] sz) := by
  refine Met.ofW (cc := cX8_off) (maxL := 2) (ret := (some .boolean)) (by decide) rfl ?_
  intro p e s m args below meth c s₁ B hml hv
  obtain ⟨rfl, hsz, hP, hK, hD0, hG⟩ := hv
  have hx := B.exec
  have hb := B.bytes
  have hr := B.returns
  have hts := atoms_spec (ws := wsX8_off) B.pre
  have hown : s.vm.findClass RX8 = some m.cls := findClass_of_methodNamed B.named
  have hlocks := B.notSynchronized
  subst hsz
  have hD := hD0.self (sz := s.heap.size)
  generalize hAe : va_A [(x, .inr (10, [.ref tp, .ref ds, .ref rr, .ref so, .ref pu, .ref sn, .ref im, .ref cs, .ref cl, .int (0 : Int32)])), (ds, .inr (3, [.int pg, .ref dl, .ref dr, .ref dt, .int (1 : Int32), .int (-1 : Int32), .int (0 : Int32)]))] s.heap.size = A at hD hG ⊢
  have hA : ∀ q : Nat, s.heap.size ≤ q → A q := fun q h => by rw [← hAe]; exact Or.inr h
  have hS : va_S A s.heap s.heap [] := va_S.rf
  have hl := lv_entry ([.ref x]) (n := 2) (Nat.le_of_ble_eq_true rfl)
  rw [lg_entry_eq]
  generalize (lg_sl ([.ref x]) ++ List.replicate (2 - (lg_sl ([.ref x])).length) Slot.unset).toArray = ls at hl ⊢
  have hl : lv_has ls 2 [(0, .ref x)] := hl
  refine lv_aload_n hx hb dX8_off_0 rfl (lv_at hl 0 rfl) ?_
  refine va_get (D := (dC, dI)) (ci := 10) (v := .ref ds) (C := RX8) (T := TX8) (N := 10) hx hb hts (by decide +kernel) hown hK hP 0 rfl rfl 1 (by decide) (hts (.fieldLink RX8 22 "BlockLog" "disk" "LBlockLog$Disk;") (by decide +kernel)) (fun _ h9 => h9) rfl dX8_off_1 ?_
  refine va_getN (D := (dC, dI)) (ci := 3) (v := .int (1 : Int32)) (C := RX1) (T := TX1) (N := 7) hx hb hts (by decide +kernel) hown hK hP 1 rfl rfl 4 (by decide) (va_Nw.use rfl (hG.1.1 ("BlockLog", 287, "BlockLog$Disk", "powered", "Z", "BlockLog") (by decide +kernel))) (fun _ h9 => h9) rfl dX8_off_4 ?_
  refine lv_istore_n (lv' := [(1, .int (1 : Int32)), (0, .ref x)]) hx hb dX8_off_7 rfl hl (by decide) rfl (fun ls hl => ?_)
  refine lv_aload_n hx hb dX8_off_8 rfl (lv_at hl 1 rfl) ?_
  refine va_get (D := (dC, dI)) (ci := 10) (v := .ref ds) (C := RX8) (T := TX8) (N := 10) hx hb hts (by decide +kernel) hown hK hP 0 rfl rfl 1 (by decide) (hts (.fieldLink RX8 22 "BlockLog" "disk" "LBlockLog$Disk;") (by decide +kernel)) (fun _ h9 => h9) rfl dX8_off_9 ?_
  refine lv_iconst (v := 0) hx hb dX8_off_12 (by decide) ?_
  refine va_putN (D := (dC, dI)) (ci := 3) (v := .int (0 : Int32)) (ty := .boolean) (C := RX1) (T := TX1) (N := 7) hx hb hts (by decide +kernel) tyX1 tyX1_ok nmX1 hown hK hP hD hS 1 rfl rfl 4 (by decide) (va_Nw.use rfl (hG.1.1 ("BlockLog", 287, "BlockLog$Disk", "powered", "Z", "BlockLog") (by decide +kernel))) (fun _ h9 => h9) rfl (by decide +kernel) rfl rfl (Nat.le_of_ble_eq_true rfl) dX8_off_13 (fun H locs hP hD hS => ?_)
  have hP : va_P (dC, dI) vwCl [(x, .inr (10, [.ref tp, .ref ds, .ref rr, .ref so, .ref pu, .ref sn, .ref im, .ref cs, .ref cl, .int (0 : Int32)])), (ds, .inr (3, [.int pg, .ref dl, .ref dr, .ref dt, .int (0 : Int32), .int (-1 : Int32), .int (0 : Int32)]))] H := hP
  have hD : va_D A [(x, .inr (10, [.ref tp, .ref ds, .ref rr, .ref so, .ref pu, .ref sn, .ref im, .ref cs, .ref cl, .int (0 : Int32)])), (ds, .inr (3, [.int pg, .ref dl, .ref dr, .ref dt, .int (0 : Int32), .int (-1 : Int32), .int (0 : Int32)]))] := hD
  refine lv_aload_n hx hb dX8_off_16 rfl (lv_at hl 1 rfl) ?_
  refine lv_iconst (v := 0) hx hb dX8_off_17 (by decide) ?_
  refine va_put (D := (dC, dI)) (ci := 10) (v := .int (0 : Int32)) (ty := .int) (C := RX8) (T := TX8) (N := 10) hx hb hts (by decide +kernel) tyX8 tyX8_ok nmX8 hown hK hP hD hS 0 rfl rfl 9 (by decide) (hts (.fieldLink RX8 72 "BlockLog" "collected" "I") (by decide +kernel)) (fun _ h9 => h9) rfl (by decide +kernel) rfl rfl (Nat.le_of_ble_eq_true rfl) dX8_off_18 (fun H locs hP hD hS => ?_)
  have hP : va_P (dC, dI) vwCl [(x, .inr (10, [.ref tp, .ref ds, .ref rr, .ref so, .ref pu, .ref sn, .ref im, .ref cs, .ref cl, .int (0 : Int32)])), (ds, .inr (3, [.int pg, .ref dl, .ref dr, .ref dt, .int (0 : Int32), .int (-1 : Int32), .int (0 : Int32)]))] H := hP
  have hD : va_D A [(x, .inr (10, [.ref tp, .ref ds, .ref rr, .ref so, .ref pu, .ref sn, .ref im, .ref cs, .ref cl, .int (0 : Int32)])), (ds, .inr (3, [.int pg, .ref dl, .ref dr, .ref dt, .int (0 : Int32), .int (-1 : Int32), .int (0 : Int32)]))] := hD
  refine lv_iload_n hx hb dX8_off_21 rfl (lv_at hl 0 rfl) ?_
  have hP := hP.sub (ws' := []) [] rfl
  have hD := hD.sub (ws' := []) [] (by decide) rfl
  have hK := hK.sub (tys' := []) [] rfl
  exact W.zret hx hb hr rfl (fun t ht hW => ⟨⟨_, (), rfl, rfl, by rw [ht]; exact hP, va_K.moved hW.alike hK, hD⟩, hS.F ht⟩) hS.2.2 dX8_off_22

set_option maxHeartbeats 4000000 in
set_option maxRecDepth 100000 in
theorem k_X9_off_1 (l : Launch) (dC : Nat → ClassId) (dI : Nat → Nat → Nat) (mo : Nat) (m_disk : Nat) (P : Nat) (m_tape : Nat) (m_slots : Nat) (m_leaves : Nat) (m_fresh : Nat) (m_digestAt : Nat) (m_isGroup : Nat) (m_counts : Nat) (m_versionRow : Nat) (m_state : Nat) (m_names : Nat) (m_keptRow : Nat) (m_inSlot : Nat) (m_inAt : Nat) (m_inSize : Nat) (m_inDigest : Nat) (sz : Nat)  : Met l yX9_off wsX9_off ({ frames := 0, cells := 0, slots := 0, locals := 0 }) (va_Pc [.ref mo] (fun U => U.heap.size = sz ∧ va_P (dC, dI) vwCl [(mo, .inr (11, [.ref m_disk, .int (nI P), .int ((8224 : Int32) + ((26 : Int32) * (nI P))), .int (1 : Int32), .int 0, .int (-1 : Int32), .int 0, .int (0 : Int32), .ref m_tape, .int 0, .ref m_slots, .ref m_leaves, .int 0, .int 0, .ref m_fresh, .int 0, .int 0, .int 0, .ref m_digestAt, .ref m_isGroup, .ref m_counts, .int 0, .int 0, .long 0, .int 0, .ref m_versionRow, .int 0, .long 0, .ref m_state, .ref m_names, .int 0, .ref m_keptRow, .int 0, .ref m_inSlot, .ref m_inAt, .ref m_inSize, .ref m_inDigest, .int 0]))] U.heap ∧ va_K (dC, dI) vwCl [] U ∧ va_D (fun _ => True) [(mo, .inr (11, [.ref m_disk, .int (nI P), .int ((8224 : Int32) + ((26 : Int32) * (nI P))), .int (1 : Int32), .int 0, .int (-1 : Int32), .int 0, .int (0 : Int32), .ref m_tape, .int 0, .ref m_slots, .ref m_leaves, .int 0, .int 0, .ref m_fresh, .int 0, .int 0, .int 0, .ref m_digestAt, .ref m_isGroup, .ref m_counts, .int 0, .int 0, .long 0, .int 0, .ref m_versionRow, .int 0, .long 0, .ref m_state, .ref m_names, .int 0, .ref m_keptRow, .int 0, .ref m_inSlot, .ref m_inAt, .ref m_inSize, .ref m_inDigest, .int 0]))])) (va_Qi (fun r (_ : Unit) => r = (1 : Int32)) (fun (_ : Unit) t => va_P (dC, dI) vwCl [(mo, .inr (11, [.ref m_disk, .int (nI P), .int ((8224 : Int32) + ((26 : Int32) * (nI P))), .int (0 : Int32), .int 0, .int (-1 : Int32), .int 0, .int (0 : Int32), .ref m_tape, .int 0, .ref m_slots, .ref m_leaves, .int (0 : Int32), .int (0 : Int32), .ref m_fresh, .int 0, .int 0, .int 0, .ref m_digestAt, .ref m_isGroup, .ref m_counts, .int 0, .int 0, .long 0, .int 0, .ref m_versionRow, .int 0, .long 0, .ref m_state, .ref m_names, .int 0, .ref m_keptRow, .int 0, .ref m_inSlot, .ref m_inAt, .ref m_inSize, .ref m_inDigest, .int 0]))] t.heap ∧ va_K (dC, dI) vwCl [] t ∧ va_D (va_A [(mo, .inr (11, [.ref m_disk, .int (nI P), .int ((8224 : Int32) + ((26 : Int32) * (nI P))), .int (1 : Int32), .int 0, .int (-1 : Int32), .int 0, .int (0 : Int32), .ref m_tape, .int 0, .ref m_slots, .ref m_leaves, .int 0, .int 0, .ref m_fresh, .int 0, .int 0, .int 0, .ref m_digestAt, .ref m_isGroup, .ref m_counts, .int 0, .int 0, .long 0, .int 0, .ref m_versionRow, .int 0, .long 0, .ref m_state, .ref m_names, .int 0, .ref m_keptRow, .int 0, .ref m_inSlot, .ref m_inAt, .ref m_inSize, .ref m_inDigest, .int 0]))] sz) [(mo, .inr (11, [.ref m_disk, .int (nI P), .int ((8224 : Int32) + ((26 : Int32) * (nI P))), .int (0 : Int32), .int 0, .int (-1 : Int32), .int 0, .int (0 : Int32), .ref m_tape, .int 0, .ref m_slots, .ref m_leaves, .int (0 : Int32), .int (0 : Int32), .ref m_fresh, .int 0, .int 0, .int 0, .ref m_digestAt, .ref m_isGroup, .ref m_counts, .int 0, .int 0, .long 0, .int 0, .ref m_versionRow, .int 0, .long 0, .ref m_state, .ref m_names, .int 0, .ref m_keptRow, .int 0, .ref m_inSlot, .ref m_inAt, .ref m_inSize, .ref m_inDigest, .int 0]))]) (va_A [(mo, .inr (11, [.ref m_disk, .int (nI P), .int ((8224 : Int32) + ((26 : Int32) * (nI P))), .int (1 : Int32), .int 0, .int (-1 : Int32), .int 0, .int (0 : Int32), .ref m_tape, .int 0, .ref m_slots, .ref m_leaves, .int 0, .int 0, .ref m_fresh, .int 0, .int 0, .int 0, .ref m_digestAt, .ref m_isGroup, .ref m_counts, .int 0, .int 0, .long 0, .int 0, .ref m_versionRow, .int 0, .long 0, .ref m_state, .ref m_names, .int 0, .ref m_keptRow, .int 0, .ref m_inSlot, .ref m_inAt, .ref m_inSize, .ref m_inDigest, .int 0]))] sz)) 0 0 (va_A [(mo, .inr (11, [.ref m_disk, .int (nI P), .int ((8224 : Int32) + ((26 : Int32) * (nI P))), .int (1 : Int32), .int 0, .int (-1 : Int32), .int 0, .int (0 : Int32), .ref m_tape, .int 0, .ref m_slots, .ref m_leaves, .int 0, .int 0, .ref m_fresh, .int 0, .int 0, .int 0, .ref m_digestAt, .ref m_isGroup, .ref m_counts, .int 0, .int 0, .long 0, .int 0, .ref m_versionRow, .int 0, .long 0, .ref m_state, .ref m_names, .int 0, .ref m_keptRow, .int 0, .ref m_inSlot, .ref m_inAt, .ref m_inSize, .ref m_inDigest, .int 0]))] sz) := by
  refine Met.ofW (cc := cX9_off) (maxL := 2) (ret := (some .boolean)) (by decide) rfl ?_
  intro p e s m args below meth c s₁ B hml hv
  obtain ⟨rfl, hsz, hP, hK, hD0⟩ := hv
  have hx := B.exec
  have hb := B.bytes
  have hr := B.returns
  have hts := atoms_spec (ws := wsX9_off) B.pre
  have hown : s.vm.findClass RX9 = some m.cls := findClass_of_methodNamed B.named
  have hlocks := B.notSynchronized
  subst hsz
  have hD := hD0.self (sz := s.heap.size)
  generalize hAe : va_A [(mo, .inr (11, [.ref m_disk, .int (nI P), .int ((8224 : Int32) + ((26 : Int32) * (nI P))), .int (1 : Int32), .int 0, .int (-1 : Int32), .int 0, .int (0 : Int32), .ref m_tape, .int 0, .ref m_slots, .ref m_leaves, .int 0, .int 0, .ref m_fresh, .int 0, .int 0, .int 0, .ref m_digestAt, .ref m_isGroup, .ref m_counts, .int 0, .int 0, .long 0, .int 0, .ref m_versionRow, .int 0, .long 0, .ref m_state, .ref m_names, .int 0, .ref m_keptRow, .int 0, .ref m_inSlot, .ref m_inAt, .ref m_inSize, .ref m_inDigest, .int 0]))] s.heap.size = A at hD ⊢
  have hA : ∀ q : Nat, s.heap.size ≤ q → A q := fun q h => by rw [← hAe]; exact Or.inr h
  have hS : va_S A s.heap s.heap [] := va_S.rf
  have hl := lv_entry ([.ref mo]) (n := 2) (Nat.le_of_ble_eq_true rfl)
  rw [lg_entry_eq]
  generalize (lg_sl ([.ref mo]) ++ List.replicate (2 - (lg_sl ([.ref mo])).length) Slot.unset).toArray = ls at hl ⊢
  have hl : lv_has ls 2 [(0, .ref mo)] := hl
  refine lv_aload_n hx hb dX9_off_0 rfl (lv_at hl 0 rfl) ?_
  refine lv_iconst (v := 0) hx hb dX9_off_1 (by decide) ?_
  refine va_put (D := (dC, dI)) (ci := 11) (v := .int (0 : Int32)) (ty := .int) (C := RX9) (T := TX9) (N := 38) hx hb hts (by decide +kernel) tyX9 tyX9_ok nmX9 hown hK hP hD hS 0 rfl rfl 13 (by decide) (hts (.fieldLink RX9 91 "BlockLogModel" "thrown" "I") (by decide +kernel)) (fun _ h9 => h9) rfl (by decide +kernel) rfl rfl (Nat.le_of_ble_eq_true rfl) dX9_off_2 (fun H locs hP hD hS => ?_)
  have hP : va_P (dC, dI) vwCl [(mo, .inr (11, [.ref m_disk, .int (nI P), .int ((8224 : Int32) + ((26 : Int32) * (nI P))), .int (1 : Int32), .int 0, .int (-1 : Int32), .int 0, .int (0 : Int32), .ref m_tape, .int 0, .ref m_slots, .ref m_leaves, .int 0, .int (0 : Int32), .ref m_fresh, .int 0, .int 0, .int 0, .ref m_digestAt, .ref m_isGroup, .ref m_counts, .int 0, .int 0, .long 0, .int 0, .ref m_versionRow, .int 0, .long 0, .ref m_state, .ref m_names, .int 0, .ref m_keptRow, .int 0, .ref m_inSlot, .ref m_inAt, .ref m_inSize, .ref m_inDigest, .int 0]))] H := hP
  have hD : va_D A [(mo, .inr (11, [.ref m_disk, .int (nI P), .int ((8224 : Int32) + ((26 : Int32) * (nI P))), .int (1 : Int32), .int 0, .int (-1 : Int32), .int 0, .int (0 : Int32), .ref m_tape, .int 0, .ref m_slots, .ref m_leaves, .int 0, .int (0 : Int32), .ref m_fresh, .int 0, .int 0, .int 0, .ref m_digestAt, .ref m_isGroup, .ref m_counts, .int 0, .int 0, .long 0, .int 0, .ref m_versionRow, .int 0, .long 0, .ref m_state, .ref m_names, .int 0, .ref m_keptRow, .int 0, .ref m_inSlot, .ref m_inAt, .ref m_inSize, .ref m_inDigest, .int 0]))] := hD
  refine lv_aload_n hx hb dX9_off_5 rfl (lv_at hl 0 rfl) ?_
  refine va_get (D := (dC, dI)) (ci := 11) (v := .int (1 : Int32)) (C := RX9) (T := TX9) (N := 38) hx hb hts (by decide +kernel) hown hK hP 0 rfl rfl 3 (by decide) (hts (.fieldLink RX9 72 "BlockLogModel" "on" "Z") (by decide +kernel)) (fun _ h9 => h9) rfl dX9_off_6 ?_
  refine lv_istore_n (lv' := [(1, .int (1 : Int32)), (0, .ref mo)]) hx hb dX9_off_9 rfl hl (by decide) rfl (fun ls hl => ?_)
  refine lv_aload_n hx hb dX9_off_10 rfl (lv_at hl 1 rfl) ?_
  refine lv_iconst (v := 0) hx hb dX9_off_11 (by decide) ?_
  refine va_put (D := (dC, dI)) (ci := 11) (v := .int (0 : Int32)) (ty := .boolean) (C := RX9) (T := TX9) (N := 38) hx hb hts (by decide +kernel) tyX9 tyX9_ok nmX9 hown hK hP hD hS 0 rfl rfl 3 (by decide) (hts (.fieldLink RX9 72 "BlockLogModel" "on" "Z") (by decide +kernel)) (fun _ h9 => h9) rfl (by decide +kernel) rfl rfl (Nat.le_of_ble_eq_true rfl) dX9_off_12 (fun H locs hP hD hS => ?_)
  have hP : va_P (dC, dI) vwCl [(mo, .inr (11, [.ref m_disk, .int (nI P), .int ((8224 : Int32) + ((26 : Int32) * (nI P))), .int (0 : Int32), .int 0, .int (-1 : Int32), .int 0, .int (0 : Int32), .ref m_tape, .int 0, .ref m_slots, .ref m_leaves, .int 0, .int (0 : Int32), .ref m_fresh, .int 0, .int 0, .int 0, .ref m_digestAt, .ref m_isGroup, .ref m_counts, .int 0, .int 0, .long 0, .int 0, .ref m_versionRow, .int 0, .long 0, .ref m_state, .ref m_names, .int 0, .ref m_keptRow, .int 0, .ref m_inSlot, .ref m_inAt, .ref m_inSize, .ref m_inDigest, .int 0]))] H := hP
  have hD : va_D A [(mo, .inr (11, [.ref m_disk, .int (nI P), .int ((8224 : Int32) + ((26 : Int32) * (nI P))), .int (0 : Int32), .int 0, .int (-1 : Int32), .int 0, .int (0 : Int32), .ref m_tape, .int 0, .ref m_slots, .ref m_leaves, .int 0, .int (0 : Int32), .ref m_fresh, .int 0, .int 0, .int 0, .ref m_digestAt, .ref m_isGroup, .ref m_counts, .int 0, .int 0, .long 0, .int 0, .ref m_versionRow, .int 0, .long 0, .ref m_state, .ref m_names, .int 0, .ref m_keptRow, .int 0, .ref m_inSlot, .ref m_inAt, .ref m_inSize, .ref m_inDigest, .int 0]))] := hD
  refine lv_aload_n hx hb dX9_off_15 rfl (lv_at hl 1 rfl) ?_
  refine lv_iconst (v := 0) hx hb dX9_off_16 (by decide) ?_
  refine va_put (D := (dC, dI)) (ci := 11) (v := .int (0 : Int32)) (ty := .int) (C := RX9) (T := TX9) (N := 38) hx hb hts (by decide +kernel) tyX9 tyX9_ok nmX9 hown hK hP hD hS 0 rfl rfl 12 (by decide) (hts (.fieldLink RX9 111 "BlockLogModel" "collected" "I") (by decide +kernel)) (fun _ h9 => h9) rfl (by decide +kernel) rfl rfl (Nat.le_of_ble_eq_true rfl) dX9_off_17 (fun H locs hP hD hS => ?_)
  have hP : va_P (dC, dI) vwCl [(mo, .inr (11, [.ref m_disk, .int (nI P), .int ((8224 : Int32) + ((26 : Int32) * (nI P))), .int (0 : Int32), .int 0, .int (-1 : Int32), .int 0, .int (0 : Int32), .ref m_tape, .int 0, .ref m_slots, .ref m_leaves, .int (0 : Int32), .int (0 : Int32), .ref m_fresh, .int 0, .int 0, .int 0, .ref m_digestAt, .ref m_isGroup, .ref m_counts, .int 0, .int 0, .long 0, .int 0, .ref m_versionRow, .int 0, .long 0, .ref m_state, .ref m_names, .int 0, .ref m_keptRow, .int 0, .ref m_inSlot, .ref m_inAt, .ref m_inSize, .ref m_inDigest, .int 0]))] H := hP
  have hD : va_D A [(mo, .inr (11, [.ref m_disk, .int (nI P), .int ((8224 : Int32) + ((26 : Int32) * (nI P))), .int (0 : Int32), .int 0, .int (-1 : Int32), .int 0, .int (0 : Int32), .ref m_tape, .int 0, .ref m_slots, .ref m_leaves, .int (0 : Int32), .int (0 : Int32), .ref m_fresh, .int 0, .int 0, .int 0, .ref m_digestAt, .ref m_isGroup, .ref m_counts, .int 0, .int 0, .long 0, .int 0, .ref m_versionRow, .int 0, .long 0, .ref m_state, .ref m_names, .int 0, .ref m_keptRow, .int 0, .ref m_inSlot, .ref m_inAt, .ref m_inSize, .ref m_inDigest, .int 0]))] := hD
  refine lv_iload_n hx hb dX9_off_20 rfl (lv_at hl 0 rfl) ?_
  have hP := hP.sub (ws' := [(mo, .inr (11, [.ref m_disk, .int (nI P), .int ((8224 : Int32) + ((26 : Int32) * (nI P))), .int (0 : Int32), .int 0, .int (-1 : Int32), .int 0, .int (0 : Int32), .ref m_tape, .int 0, .ref m_slots, .ref m_leaves, .int (0 : Int32), .int (0 : Int32), .ref m_fresh, .int 0, .int 0, .int 0, .ref m_digestAt, .ref m_isGroup, .ref m_counts, .int 0, .int 0, .long 0, .int 0, .ref m_versionRow, .int 0, .long 0, .ref m_state, .ref m_names, .int 0, .ref m_keptRow, .int 0, .ref m_inSlot, .ref m_inAt, .ref m_inSize, .ref m_inDigest, .int 0]))]) [0] rfl
  have hD := hD.sub (ws' := [(mo, .inr (11, [.ref m_disk, .int (nI P), .int ((8224 : Int32) + ((26 : Int32) * (nI P))), .int (0 : Int32), .int 0, .int (-1 : Int32), .int 0, .int (0 : Int32), .ref m_tape, .int 0, .ref m_slots, .ref m_leaves, .int (0 : Int32), .int (0 : Int32), .ref m_fresh, .int 0, .int 0, .int 0, .ref m_digestAt, .ref m_isGroup, .ref m_counts, .int 0, .int 0, .long 0, .int 0, .ref m_versionRow, .int 0, .long 0, .ref m_state, .ref m_names, .int 0, .ref m_keptRow, .int 0, .ref m_inSlot, .ref m_inAt, .ref m_inSize, .ref m_inDigest, .int 0]))]) [0] (by decide) rfl
  have hK := hK.sub (tys' := []) [] rfl
  exact W.zret hx hb hr rfl (fun t ht hW => ⟨⟨_, (), rfl, rfl, by rw [ht]; exact hP, va_K.moved hW.alike hK, hD⟩, hS.F ht⟩) hS.2.2 dX9_off_21

set_option maxHeartbeats 4000000 in
set_option maxRecDepth 100000 in
theorem k_X8_open_1 (l : Launch) (dC : Nat → ClassId) (dI : Nat → Nat → Nat) (x : Nat) (rr : Nat) (ds : Nat) (tp : Nat) (so : Nat) (pu : Nat) (sn : Nat) (im : Nat) (cs : Nat) (cl : Nat) (ri : Nat) (pg : Int32) (dl : Nat) (dr : Nat) (dt : Nat)  : Met l yX8_open wsX8_open ({ frames := 0, cells := 0, slots := 0, locals := 0 }) (va_Pc [.ref x] (fun U => va_P (dC, dI) vwCl [(x, .inr (10, [.ref tp, .ref ds, .ref rr, .ref so, .ref pu, .ref sn, .ref im, .ref cs, .ref cl, .int (0 : Int32)])), (rr, .inr (6, [.ref ds, .ref ri, .int 0, .int 1, .int 0, .int 0])), (ds, .inr (3, [.int pg, .ref dl, .ref dr, .ref dt, .int (1 : Int32), .int (-1 : Int32), .int (0 : Int32)]))] U.heap ∧ va_K (dC, dI) vwCl [] U ∧ gx_W U)) (vp_Si (fun r => r = 0)) 0 0 (fun _ => False) := by
  refine Met.ofW (cc := cX8_open) (maxL := 1) (ret := (some .int)) (by decide) rfl ?_
  intro p e s m args below meth c s₁ B hml hv
  obtain ⟨rfl, hP, hK, hG⟩ := hv
  have hx := B.exec
  have hb := B.bytes
  have hr := B.returns
  have hts := atoms_spec (ws := wsX8_open) B.pre
  have hown : s.vm.findClass RX8 = some m.cls := findClass_of_methodNamed B.named
  have hlocks := B.notSynchronized
  have hl := lv_entry ([.ref x]) (n := 1) (Nat.le_of_ble_eq_true rfl)
  rw [lg_entry_eq]
  generalize (lg_sl ([.ref x]) ++ List.replicate (1 - (lg_sl ([.ref x])).length) Slot.unset).toArray = ls at hl ⊢
  have hl : lv_has ls 1 [(0, .ref x)] := hl
  refine lv_aload_n hx hb dX8_open_0 rfl (lv_at hl 0 rfl) ?_
  refine va_get (D := (dC, dI)) (ci := 10) (v := .ref ds) (C := RX8) (T := TX8) (N := 10) hx hb hts (by decide +kernel) hown hK hP 0 rfl rfl 1 (by decide) (hts (.fieldLink RX8 22 "BlockLog" "disk" "LBlockLog$Disk;") (by decide +kernel)) (fun _ h9 => h9) rfl dX8_open_1 ?_
  refine va_getN (D := (dC, dI)) (ci := 3) (v := .int (1 : Int32)) (C := RX1) (T := TX1) (N := 7) hx hb hts (by decide +kernel) hown hK hP 2 rfl rfl 4 (by decide) (va_Nw.use rfl (hG.1 ("BlockLog", 287, "BlockLog$Disk", "powered", "Z", "BlockLog") (by decide +kernel))) (fun _ h9 => h9) rfl dX8_open_4 ?_
  refine lv_if_eq (tgt := 18) hx hb dX8_open_7 (by decide) (fun c_1 => ?_) (fun c_1 => ?_)
  · skip
    exact absurd c_1 (by decide)
  · skip
    refine lv_aload_n hx hb dX8_open_10 rfl (lv_at hl 0 rfl) ?_
    refine va_get (D := (dC, dI)) (ci := 10) (v := .ref rr) (C := RX8) (T := TX8) (N := 10) hx hb hts (by decide +kernel) hown hK hP 0 rfl rfl 2 (by decide) (hts (.fieldLink RX8 31 "BlockLog" "rows" "LBlockLog$Rows;") (by decide +kernel)) (fun _ h9 => h9) rfl dX8_open_11 ?_
    refine va_getN (D := (dC, dI)) (ci := 6) (v := .int 0) (C := RX4) (T := TX4) (N := 6) hx hb hts (by decide +kernel) hown hK hP 1 rfl rfl 4 (by decide) (va_Nw.use rfl (hG.1 ("BlockLog", 151, "BlockLog$Rows", "count", "I", "BlockLog") (by decide +kernel))) (fun _ h9 => h9) rfl dX8_open_14 ?_
    exact W.iret hx hb hr (fun t ht hW => ⟨_, rfl, rfl, ht⟩) (fun q h => by cases h) dX8_open_17

set_option maxHeartbeats 4000000 in
set_option maxRecDepth 100000 in
theorem k_X9_open_1 (l : Launch) (dC : Nat → ClassId) (dI : Nat → Nat → Nat) (mo : Nat) (m_disk : Nat) (P : Nat) (m_tape : Nat) (m_slots : Nat) (m_leaves : Nat) (m_fresh : Nat) (m_digestAt : Nat) (m_isGroup : Nat) (m_counts : Nat) (m_versionRow : Nat) (m_state : Nat) (m_names : Nat) (m_keptRow : Nat) (m_inSlot : Nat) (m_inAt : Nat) (m_inSize : Nat) (m_inDigest : Nat) (sz : Nat)  : Met l yX9_open wsX9_open ({ frames := 1, cells := 0, slots := 0, locals := 20 }) (va_Pc [.ref mo] (fun U => U.heap.size = sz ∧ va_P (dC, dI) vwCl [(mo, .inr (11, [.ref m_disk, .int (nI P), .int ((8224 : Int32) + ((26 : Int32) * (nI P))), .int (1 : Int32), .int 0, .int (-1 : Int32), .int 0, .int (0 : Int32), .ref m_tape, .int 0, .ref m_slots, .ref m_leaves, .int 0, .int 0, .ref m_fresh, .int 0, .int 0, .int 0, .ref m_digestAt, .ref m_isGroup, .ref m_counts, .int 0, .int 0, .long 0, .int 0, .ref m_versionRow, .int 0, .long 0, .ref m_state, .ref m_names, .int 0, .ref m_keptRow, .int 0, .ref m_inSlot, .ref m_inAt, .ref m_inSize, .ref m_inDigest, .int 0]))] U.heap ∧ va_K (dC, dI) vwCl [] U ∧ va_D (fun _ => True) [(mo, .inr (11, [.ref m_disk, .int (nI P), .int ((8224 : Int32) + ((26 : Int32) * (nI P))), .int (1 : Int32), .int 0, .int (-1 : Int32), .int 0, .int (0 : Int32), .ref m_tape, .int 0, .ref m_slots, .ref m_leaves, .int 0, .int 0, .ref m_fresh, .int 0, .int 0, .int 0, .ref m_digestAt, .ref m_isGroup, .ref m_counts, .int 0, .int 0, .long 0, .int 0, .ref m_versionRow, .int 0, .long 0, .ref m_state, .ref m_names, .int 0, .ref m_keptRow, .int 0, .ref m_inSlot, .ref m_inAt, .ref m_inSize, .ref m_inDigest, .int 0]))])) (va_Qi (fun r (_ : Unit) => r = (0 : Int32)) (fun (_ : Unit) t => va_P (dC, dI) vwCl [(mo, .inr (11, [.ref m_disk, .int (nI P), .int ((8224 : Int32) + ((26 : Int32) * (nI P))), .int (1 : Int32), .int 0, .int (-1 : Int32), .int 0, .int (0 : Int32), .ref m_tape, .int 0, .ref m_slots, .ref m_leaves, .int 0, .int (0 : Int32), .ref m_fresh, .int 0, .int 0, .int 0, .ref m_digestAt, .ref m_isGroup, .ref m_counts, .int 0, .int 0, .long 0, .int 0, .ref m_versionRow, .int 0, .long 0, .ref m_state, .ref m_names, .int 0, .ref m_keptRow, .int 0, .ref m_inSlot, .ref m_inAt, .ref m_inSize, .ref m_inDigest, .int 0]))] t.heap ∧ va_K (dC, dI) vwCl [] t ∧ va_D (va_A [(mo, .inr (11, [.ref m_disk, .int (nI P), .int ((8224 : Int32) + ((26 : Int32) * (nI P))), .int (1 : Int32), .int 0, .int (-1 : Int32), .int 0, .int (0 : Int32), .ref m_tape, .int 0, .ref m_slots, .ref m_leaves, .int 0, .int 0, .ref m_fresh, .int 0, .int 0, .int 0, .ref m_digestAt, .ref m_isGroup, .ref m_counts, .int 0, .int 0, .long 0, .int 0, .ref m_versionRow, .int 0, .long 0, .ref m_state, .ref m_names, .int 0, .ref m_keptRow, .int 0, .ref m_inSlot, .ref m_inAt, .ref m_inSize, .ref m_inDigest, .int 0]))] sz) [(mo, .inr (11, [.ref m_disk, .int (nI P), .int ((8224 : Int32) + ((26 : Int32) * (nI P))), .int (1 : Int32), .int 0, .int (-1 : Int32), .int 0, .int (0 : Int32), .ref m_tape, .int 0, .ref m_slots, .ref m_leaves, .int 0, .int (0 : Int32), .ref m_fresh, .int 0, .int 0, .int 0, .ref m_digestAt, .ref m_isGroup, .ref m_counts, .int 0, .int 0, .long 0, .int 0, .ref m_versionRow, .int 0, .long 0, .ref m_state, .ref m_names, .int 0, .ref m_keptRow, .int 0, .ref m_inSlot, .ref m_inAt, .ref m_inSize, .ref m_inDigest, .int 0]))]) (va_A [(mo, .inr (11, [.ref m_disk, .int (nI P), .int ((8224 : Int32) + ((26 : Int32) * (nI P))), .int (1 : Int32), .int 0, .int (-1 : Int32), .int 0, .int (0 : Int32), .ref m_tape, .int 0, .ref m_slots, .ref m_leaves, .int 0, .int 0, .ref m_fresh, .int 0, .int 0, .int 0, .ref m_digestAt, .ref m_isGroup, .ref m_counts, .int 0, .int 0, .long 0, .int 0, .ref m_versionRow, .int 0, .long 0, .ref m_state, .ref m_names, .int 0, .ref m_keptRow, .int 0, .ref m_inSlot, .ref m_inAt, .ref m_inSize, .ref m_inDigest, .int 0]))] sz)) 0 0 (va_A [(mo, .inr (11, [.ref m_disk, .int (nI P), .int ((8224 : Int32) + ((26 : Int32) * (nI P))), .int (1 : Int32), .int 0, .int (-1 : Int32), .int 0, .int (0 : Int32), .ref m_tape, .int 0, .ref m_slots, .ref m_leaves, .int 0, .int 0, .ref m_fresh, .int 0, .int 0, .int 0, .ref m_digestAt, .ref m_isGroup, .ref m_counts, .int 0, .int 0, .long 0, .int 0, .ref m_versionRow, .int 0, .long 0, .ref m_state, .ref m_names, .int 0, .ref m_keptRow, .int 0, .ref m_inSlot, .ref m_inAt, .ref m_inSize, .ref m_inDigest, .int 0]))] sz) := by
  refine Met.ofW (cc := cX9_open) (maxL := 5) (ret := (some .int)) (by decide) rfl ?_
  intro p e s m args below meth c s₁ B hml hv
  obtain ⟨rfl, hsz, hP, hK, hD0⟩ := hv
  have hx := B.exec
  have hb := B.bytes
  have hr := B.returns
  have hts := atoms_spec (ws := wsX9_open) B.pre
  have hown : s.vm.findClass RX9 = some m.cls := findClass_of_methodNamed B.named
  have hlocks := B.notSynchronized
  subst hsz
  have hD := hD0.self (sz := s.heap.size)
  generalize hAe : va_A [(mo, .inr (11, [.ref m_disk, .int (nI P), .int ((8224 : Int32) + ((26 : Int32) * (nI P))), .int (1 : Int32), .int 0, .int (-1 : Int32), .int 0, .int (0 : Int32), .ref m_tape, .int 0, .ref m_slots, .ref m_leaves, .int 0, .int 0, .ref m_fresh, .int 0, .int 0, .int 0, .ref m_digestAt, .ref m_isGroup, .ref m_counts, .int 0, .int 0, .long 0, .int 0, .ref m_versionRow, .int 0, .long 0, .ref m_state, .ref m_names, .int 0, .ref m_keptRow, .int 0, .ref m_inSlot, .ref m_inAt, .ref m_inSize, .ref m_inDigest, .int 0]))] s.heap.size = A at hD ⊢
  have hA : ∀ q : Nat, s.heap.size ≤ q → A q := fun q h => by rw [← hAe]; exact Or.inr h
  have hS : va_S A s.heap s.heap [] := va_S.rf
  have hl := lv_entry ([.ref mo]) (n := 5) (Nat.le_of_ble_eq_true rfl)
  rw [lg_entry_eq]
  generalize (lg_sl ([.ref mo]) ++ List.replicate (5 - (lg_sl ([.ref mo])).length) Slot.unset).toArray = ls at hl ⊢
  have hl : lv_has ls 5 [(0, .ref mo)] := hl
  refine lv_aload_n hx hb dX9_open_0 rfl (lv_at hl 0 rfl) ?_
  refine lv_iconst (v := 0) hx hb dX9_open_1 (by decide) ?_
  refine va_put (D := (dC, dI)) (ci := 11) (v := .int (0 : Int32)) (ty := .int) (C := RX9) (T := TX9) (N := 38) hx hb hts (by decide +kernel) tyX9 tyX9_ok nmX9 hown hK hP hD hS 0 rfl rfl 13 (by decide) (hts (.fieldLink RX9 91 "BlockLogModel" "thrown" "I") (by decide +kernel)) (fun _ h9 => h9) rfl (by decide +kernel) rfl rfl (Nat.le_of_ble_eq_true rfl) dX9_open_2 (fun H locs hP hD hS => ?_)
  have hP : va_P (dC, dI) vwCl [(mo, .inr (11, [.ref m_disk, .int (nI P), .int ((8224 : Int32) + ((26 : Int32) * (nI P))), .int (1 : Int32), .int 0, .int (-1 : Int32), .int 0, .int (0 : Int32), .ref m_tape, .int 0, .ref m_slots, .ref m_leaves, .int 0, .int (0 : Int32), .ref m_fresh, .int 0, .int 0, .int 0, .ref m_digestAt, .ref m_isGroup, .ref m_counts, .int 0, .int 0, .long 0, .int 0, .ref m_versionRow, .int 0, .long 0, .ref m_state, .ref m_names, .int 0, .ref m_keptRow, .int 0, .ref m_inSlot, .ref m_inAt, .ref m_inSize, .ref m_inDigest, .int 0]))] H := hP
  have hD : va_D A [(mo, .inr (11, [.ref m_disk, .int (nI P), .int ((8224 : Int32) + ((26 : Int32) * (nI P))), .int (1 : Int32), .int 0, .int (-1 : Int32), .int 0, .int (0 : Int32), .ref m_tape, .int 0, .ref m_slots, .ref m_leaves, .int 0, .int (0 : Int32), .ref m_fresh, .int 0, .int 0, .int 0, .ref m_digestAt, .ref m_isGroup, .ref m_counts, .int 0, .int 0, .long 0, .int 0, .ref m_versionRow, .int 0, .long 0, .ref m_state, .ref m_names, .int 0, .ref m_keptRow, .int 0, .ref m_inSlot, .ref m_inAt, .ref m_inSize, .ref m_inDigest, .int 0]))] := hD
  refine lv_aload_n hx hb dX9_open_5 rfl (lv_at hl 0 rfl) ?_
  refine va_get (D := (dC, dI)) (ci := 11) (v := .int (1 : Int32)) (C := RX9) (T := TX9) (N := 38) hx hb hts (by decide +kernel) hown hK hP 0 rfl rfl 3 (by decide) (hts (.fieldLink RX9 72 "BlockLogModel" "on" "Z") (by decide +kernel)) (fun _ h9 => h9) rfl dX9_open_6 ?_
  refine lv_if_eq (tgt := 17) hx hb dX9_open_9 (by decide) (fun c_1 => ?_) (fun c_1 => ?_)
  · skip
    exact absurd c_1 (by decide)
  · skip
    refine lv_aload_n hx hb dX9_open_12 rfl (lv_at hl 0 rfl) ?_
    have hPc := hP.sub (ws' := [(mo, .inr (11, [.ref m_disk, .int (nI P), .int ((8224 : Int32) + ((26 : Int32) * (nI P))), .int (1 : Int32), .int 0, .int (-1 : Int32), .int 0, .int (0 : Int32), .ref m_tape, .int 0, .ref m_slots, .ref m_leaves, .int 0, .int (0 : Int32), .ref m_fresh, .int 0, .int 0, .int 0, .ref m_digestAt, .ref m_isGroup, .ref m_counts, .int 0, .int 0, .long 0, .int 0, .ref m_versionRow, .int 0, .long 0, .ref m_state, .ref m_names, .int 0, .ref m_keptRow, .int 0, .ref m_inSlot, .ref m_inAt, .ref m_inSize, .ref m_inDigest, .int 0]))]) [0] rfl
    have hKc := hK.sub (tys' := []) [] rfl
    refine vp_callSi (va_Run.run (va_runV (As := []) (rest := []) ⟨hx, hb, hml, hown, hts⟩ (k_X9_rows_1 l dC dI mo m_disk P m_tape m_slots m_leaves m_fresh m_digestAt m_isGroup m_counts m_versionRow m_state m_names m_keptRow m_inSlot m_inAt m_inSize m_inDigest) (cwV 0 hts gX9_open_X9_rows rfl rfl rfl (by decide +kernel) ⟨Nat.le_of_ble_eq_true rfl, Nat.le_of_ble_eq_true rfl⟩) ⟨fun a U g mk q => by obtain ⟨q0, qP, qK⟩ := q; exact ⟨q0, qP, va_K.moved (u := U) (U := U.calling g mk a) (Vm.Alike.refl U.vm) qK⟩, va_recv hK hP (ci := 11) (q := (RX9, TX9, 38)) rfl (q0 := 0) rfl, fun U hU hW => ⟨rfl, by rw [hU]; exact hPc, va_K.moved hW.alike hKc⟩⟩ rfl rfl hl.1 rfl (lv_room (Nat.le_of_ble_eq_true rfl)) dX9_open_13 ⟨Nat.le_of_ble_eq_true rfl, Nat.le_of_ble_eq_true rfl⟩)) (fun r_2 er_2 => ?_)
    replace er_2 := er_2.trans (show _ = (0 : Int32) by decide +kernel)
    subst er_2
    have hP := hP.sub (ws' := [(mo, .inr (11, [.ref m_disk, .int (nI P), .int ((8224 : Int32) + ((26 : Int32) * (nI P))), .int (1 : Int32), .int 0, .int (-1 : Int32), .int 0, .int (0 : Int32), .ref m_tape, .int 0, .ref m_slots, .ref m_leaves, .int 0, .int (0 : Int32), .ref m_fresh, .int 0, .int 0, .int 0, .ref m_digestAt, .ref m_isGroup, .ref m_counts, .int 0, .int 0, .long 0, .int 0, .ref m_versionRow, .int 0, .long 0, .ref m_state, .ref m_names, .int 0, .ref m_keptRow, .int 0, .ref m_inSlot, .ref m_inAt, .ref m_inSize, .ref m_inDigest, .int 0]))]) [0] rfl
    have hD := hD.sub (ws' := [(mo, .inr (11, [.ref m_disk, .int (nI P), .int ((8224 : Int32) + ((26 : Int32) * (nI P))), .int (1 : Int32), .int 0, .int (-1 : Int32), .int 0, .int (0 : Int32), .ref m_tape, .int 0, .ref m_slots, .ref m_leaves, .int 0, .int (0 : Int32), .ref m_fresh, .int 0, .int 0, .int 0, .ref m_digestAt, .ref m_isGroup, .ref m_counts, .int 0, .int 0, .long 0, .int 0, .ref m_versionRow, .int 0, .long 0, .ref m_state, .ref m_names, .int 0, .ref m_keptRow, .int 0, .ref m_inSlot, .ref m_inAt, .ref m_inSize, .ref m_inDigest, .int 0]))]) [0] (by decide) rfl
    have hK := hK.sub (tys' := []) [] rfl
    exact W.iret hx hb hr (fun t ht hW => ⟨⟨_, (), rfl, rfl, by rw [ht]; exact hP, va_K.moved hW.alike hK, hD⟩, hS.F ht⟩) hS.2.2 dX9_open_16

set_option maxHeartbeats 4000000 in
set_option maxRecDepth 100000 in
theorem k_X8_demandPlace_1 (l : Launch) (hl0 : l.stackTraces = false) (dC : Nat → ClassId) (dI : Nat → Nat → Nat) (x : Nat) (p0 : Int32) (sz : Nat) (hf0 : p0 < 0) : vx_Met l yX8_demandPlace wsX8_demandPlace ({ frames := 6, cells := 1, slots := 6, locals := 90 }) (va_Pc [.ref x, .int p0] (fun U => U.heap.size = sz ∧ va_P (dC, dI) vwCl [] U.heap ∧ va_K (dC, dI) vwCl [] U ∧ va_D (fun _ => True) [] ∧ gx_E (va_A [] sz) U)) (va_Qv (fun (_ : Unit) => False) (fun _ _ => True) (va_A [] sz)) (vx_X (fun _ : Unit => True) (fun E _ _ => E = "java/lang/IndexOutOfBoundsException") (va_A [] sz)) 1 6 (va_A [] sz) := by
  refine vx_ofW (cc := cX8_demandPlace) (maxL := 2) (ret := none) (by decide) rfl ?_
  intro p e s m args below meth c s₁ B hml hno hv
  obtain ⟨rfl, hsz, hP, hK, hD0, hG⟩ := hv
  have hx := B.exec
  have hb := B.bytes
  have hr := B.returns
  have hts := atoms_spec (ws := wsX8_demandPlace) B.pre
  have hown : s.vm.findClass RX8 = some m.cls := findClass_of_methodNamed B.named
  have hlocks := B.notSynchronized
  subst hsz
  have hD := hD0.self (sz := s.heap.size)
  generalize hAe : va_A [] s.heap.size = A at hD hG ⊢
  have hA : ∀ q : Nat, s.heap.size ≤ q → A q := fun q h => by rw [← hAe]; exact Or.inr h
  have hS : va_S A s.heap s.heap [] := va_S.rf
  have hl := lv_entry ([.ref x, .int p0]) (n := 2) (Nat.le_of_ble_eq_true rfl)
  rw [lg_entry_eq]
  generalize (lg_sl ([.ref x, .int p0]) ++ List.replicate (2 - (lg_sl ([.ref x, .int p0])).length) Slot.unset).toArray = ls at hl ⊢
  have hl : lv_has ls 2 [(0, .ref x), (1, .int p0)] := hl
  refine lv_iload_n hx hb dX8_demandPlace_0 rfl (lv_at hl 1 rfl) ?_
  refine lv_if_lt (tgt := 22) hx hb dX8_demandPlace_1 (by decide) (fun c_1 => ?_) (fun c_1 => ?_)
  · skip
    obtain ⟨sa, hstr⟩ := hG.1.2.1 ("BlockLog", 360, "no such place") (by decide +kernel)
    exact vx_throwSW (names := ["java/lang/RuntimeException", "java/lang/Exception"]) hx hb hl0 hown (by decide +kernel) (by decide +kernel) (hts (.classLink RX8 91 "java/lang/IndexOutOfBoundsException") (by decide +kernel)) (hts (.initialized "java/lang/IndexOutOfBoundsException") (by decide +kernel)) hstr (vx_hat (B := gx_bad "java/lang/IndexOutOfBoundsException") (fun w h => hts w (List.mem_cons_of_mem _ (List.mem_append_right _ h))) (by decide +kernel) (hG.1.bad (by decide))) (by decide +kernel) hG.2.1 hG.2.2.1 hS (hl.1.trans hml.symm) dX8_demandPlace_22 dX8_demandPlace_25 dX8_demandPlace_26 dX8_demandPlace_29 dX8_demandPlace_32 (fun x h => (hno x h).elim) (Nat.le_of_ble_eq_true rfl) (Nat.le_of_ble_eq_true rfl) (Nat.le_of_ble_eq_true rfl) (Nat.le_of_ble_eq_true rfl) hlocks (fun t _ h1 h2 => ⟨(), trivial, rfl, Nat.le_trans hS.1 h1, fun q hq hn => (h2 q (Nat.lt_of_lt_of_le hq hS.1)).trans (hS.2.1 q hq hn)⟩) hS.2.2 (Nat.le_refl _) (Nat.le_refl _)
  · skip
    exact absurd hf0 c_1

set_option maxHeartbeats 4000000 in
set_option maxRecDepth 100000 in
theorem k_X8_poke_1 (l : Launch) (hl0 : l.stackTraces = false) (dC : Nat → ClassId) (dI : Nat → Nat → Nat) (x : Nat) (p0 : Int32) (p1 : Int32) (tp : Nat) (ds : Nat) (rr : Nat) (so : Nat) (pu : Nat) (sn : Nat) (im : Nat) (cs : Nat) (cl : Nat) (sz : Nat) (hf0 : p0 < 0) : vx_Met l yX8_poke wsX8_poke ({ frames := 7, cells := 1, slots := 6, locals := 111 }) (va_Pc [.ref x, .int p0, .int p1] (fun U => U.heap.size = sz ∧ va_P (dC, dI) vwCl [(x, .inr (10, [.ref tp, .ref ds, .ref rr, .ref so, .ref pu, .ref sn, .ref im, .ref cs, .ref cl, .int (0 : Int32)]))] U.heap ∧ va_K (dC, dI) vwCl [] U ∧ va_D (fun _ => True) [(x, .inr (10, [.ref tp, .ref ds, .ref rr, .ref so, .ref pu, .ref sn, .ref im, .ref cs, .ref cl, .int (0 : Int32)]))] ∧ gx_E (va_A [(x, .inr (10, [.ref tp, .ref ds, .ref rr, .ref so, .ref pu, .ref sn, .ref im, .ref cs, .ref cl, .int (0 : Int32)]))] sz) U)) (va_Qi (fun (_ : Int32) (_ : Unit) => False) (fun _ _ => True) (va_A [(x, .inr (10, [.ref tp, .ref ds, .ref rr, .ref so, .ref pu, .ref sn, .ref im, .ref cs, .ref cl, .int (0 : Int32)]))] sz)) (vx_X (fun _ : Unit => True) (fun E _ _ => E = "java/lang/IndexOutOfBoundsException") (va_A [(x, .inr (10, [.ref tp, .ref ds, .ref rr, .ref so, .ref pu, .ref sn, .ref im, .ref cs, .ref cl, .int (0 : Int32)]))] sz)) 1 6 (va_A [(x, .inr (10, [.ref tp, .ref ds, .ref rr, .ref so, .ref pu, .ref sn, .ref im, .ref cs, .ref cl, .int (0 : Int32)]))] sz) := by
  refine vx_ofW (cc := cX8_poke) (maxL := 4) (ret := (some .int)) (by decide) rfl ?_
  intro p e s m args below meth c s₁ B hml hno hv
  obtain ⟨rfl, hsz, hP, hK, hD0, hG⟩ := hv
  have hx := B.exec
  have hb := B.bytes
  have hr := B.returns
  have hts := atoms_spec (ws := wsX8_poke) B.pre
  have hown : s.vm.findClass RX8 = some m.cls := findClass_of_methodNamed B.named
  have hlocks := B.notSynchronized
  subst hsz
  have hD := hD0.self (sz := s.heap.size)
  generalize hAe : va_A [(x, .inr (10, [.ref tp, .ref ds, .ref rr, .ref so, .ref pu, .ref sn, .ref im, .ref cs, .ref cl, .int (0 : Int32)]))] s.heap.size = A at hD hG ⊢
  have hA : ∀ q : Nat, s.heap.size ≤ q → A q := fun q h => by rw [← hAe]; exact Or.inr h
  have hS : va_S A s.heap s.heap [] := va_S.rf
  have hl := lv_entry ([.ref x, .int p0, .int p1]) (n := 4) (Nat.le_of_ble_eq_true rfl)
  rw [lg_entry_eq]
  generalize (lg_sl ([.ref x, .int p0, .int p1]) ++ List.replicate (4 - (lg_sl ([.ref x, .int p0, .int p1])).length) Slot.unset).toArray = ls at hl ⊢
  have hl : lv_has ls 4 [(0, .ref x), (1, .int p0), (2, .int p1)] := hl
  refine lv_aload_n hx hb dX8_poke_0 rfl (lv_at hl 0 rfl) ?_
  refine lv_iload_n hx hb dX8_poke_1 rfl (lv_at hl 1 rfl) ?_
  have hPc := hP.sub (ws' := []) [] rfl
  have hKc := hK.sub (tys' := []) [] rfl
  have hDc := hD.sub (ws' := []) [] (by decide) rfl
  have hFc := va_free (wc := []) hD hS hA [] rfl
  refine vx_callv (vx_runV (As := [.int p0]) (rest := []) ⟨hx, hb, hml, hown, hts⟩ (k_X8_demandPlace_1 l hl0 dC dI x p0 _ hf0) (cwV 1 hts gX8_poke_X8_demandPlace rfl rfl rfl (by decide +kernel) ⟨Nat.le_of_ble_eq_true rfl, Nat.le_of_ble_eq_true rfl⟩) ⟨fun a U g mk q => by obtain ⟨q0, q1, qP, qK, qD, qG⟩ := q; exact ⟨q0, q1, qP, va_K.moved (u := U) (U := U.calling g mk a) (Vm.Alike.refl U.vm) qK, qD, qG.same rfl rfl⟩, va_recv hK hP (ci := 10) (q := (RX8, TX8, 10)) rfl (q0 := 0) rfl, fun U hU hW => ⟨rfl, by rw [hU], by rw [hU]; exact hPc, va_K.moved hW.alike hKc, hDc.weaken (fun _ _ _ _ => trivial), hG.go hW hU hS hFc⟩⟩ rfl rfl hl.1 rfl (lv_room (Nat.le_of_ble_eq_true rfl)) dX8_poke_2 ⟨Nat.le_of_ble_eq_true rfl, Nat.le_of_ble_eq_true rfl⟩) hS (fun q _ h => hFc q h) hFc (fun q _ h => hFc q h) (fun E9 ce q9 u t H1 locs1 ht hvm hp hE hz hk hS hcell hv hcl => ?_) (fun u t H1 locs1 ht hvm hp hB hz hk hS => hp.elim)
  subst hE
  exact vx_out (fun x h => (hno x h).elim) hlocks hcell hv hcl (fun t ht hW => ⟨(), trivial, rfl, hS.F ht⟩) hS.2.2 (Nat.le_refl _) (Nat.le_refl _)

set_option maxHeartbeats 4000000 in
set_option maxRecDepth 100000 in
theorem k_L_poke_1 (l : Launch) (hl0 : l.stackTraces = false) (dC : Nat → ClassId) (dI : Nat → Nat → Nat) (x : Nat) (p0 : Int32) (p1 : Int32) (ho : Nat) (tp : Nat) (ds : Nat) (rr : Nat) (so : Nat) (pu : Nat) (sn : Nat) (im : Nat) (cs : Nat) (cl : Nat) (sz : Nat) (hf0 : p0 < 0) : Met l yL_poke wsL_poke ({ frames := 8, cells := 1, slots := 6, locals := 134 }) (va_Pc [.ref x, .int p0, .int p1, .ref ho] (fun U => U.heap.size = sz ∧ va_P (dC, dI) vwCl [(x, .inr (10, [.ref tp, .ref ds, .ref rr, .ref so, .ref pu, .ref sn, .ref im, .ref cs, .ref cl, .int (0 : Int32)]))] U.heap ∧ va_K (dC, dI) vwCl [] U ∧ va_D (fun _ => True) [(x, .inr (10, [.ref tp, .ref ds, .ref rr, .ref so, .ref pu, .ref sn, .ref im, .ref cs, .ref cl, .int (0 : Int32)]))] ∧ gx_E (va_A [(x, .inr (10, [.ref tp, .ref ds, .ref rr, .ref so, .ref pu, .ref sn, .ref im, .ref cs, .ref cl, .int (0 : Int32)]))] sz) U)) (va_Qi (fun r (_ : Unit) => r = (1 : Int32)) (fun (_ : Unit) t => va_P (dC, dI) vwCl [] t.heap ∧ va_K (dC, dI) vwCl [] t ∧ va_D (va_A [(x, .inr (10, [.ref tp, .ref ds, .ref rr, .ref so, .ref pu, .ref sn, .ref im, .ref cs, .ref cl, .int (0 : Int32)]))] sz) []) (va_A [(x, .inr (10, [.ref tp, .ref ds, .ref rr, .ref so, .ref pu, .ref sn, .ref im, .ref cs, .ref cl, .int (0 : Int32)]))] sz)) 1 6 (va_A [(x, .inr (10, [.ref tp, .ref ds, .ref rr, .ref so, .ref pu, .ref sn, .ref im, .ref cs, .ref cl, .int (0 : Int32)]))] sz) := by
  refine va_MetW (cc := cL_poke) (maxL := 5) (ret := (some .int)) (hh := [(0, 10, 13, 19), (0, 10, 17, 25), (0, 10, 21, 13)]) (by decide) rfl ?_
  intro p e s m args below meth c s₁ B hml hv
  obtain ⟨rfl, hsz, hP, hK, hD0, hG⟩ := hv
  have hx := B.exec
  have hb := B.bytes
  have hr := B.returns
  have hts := atoms_spec (ws := wsL_poke) B.pre
  have hown : s.vm.findClass RL = some m.cls := findClass_of_methodNamed B.named
  have hlocks := B.notSynchronized
  have htab := vx_table (x := yL_poke) B (hts (.codeWith yL_poke cL_poke 5 (some .int) [(0, 10, 13, 19), (0, 10, 17, 25), (0, 10, 21, 13)]) List.mem_cons_self)
  subst hsz
  have hD := hD0.self (sz := s.heap.size)
  generalize hAe : va_A [(x, .inr (10, [.ref tp, .ref ds, .ref rr, .ref so, .ref pu, .ref sn, .ref im, .ref cs, .ref cl, .int (0 : Int32)]))] s.heap.size = A at hD hG ⊢
  have hA : ∀ q : Nat, s.heap.size ≤ q → A q := fun q h => by rw [← hAe]; exact Or.inr h
  have hS : va_S A s.heap s.heap [] := va_S.rf
  have hl := lv_entry ([.ref x, .int p0, .int p1, .ref ho]) (n := 5) (Nat.le_of_ble_eq_true rfl)
  rw [lg_entry_eq]
  generalize (lg_sl ([.ref x, .int p0, .int p1, .ref ho]) ++ List.replicate (5 - (lg_sl ([.ref x, .int p0, .int p1, .ref ho])).length) Slot.unset).toArray = ls at hl ⊢
  have hl : lv_has ls 5 [(0, .ref x), (1, .int p0), (2, .int p1), (3, .ref ho)] := hl
  refine lv_aload_n hx hb dL_poke_0 rfl (lv_at hl 3 rfl) ?_
  refine lv_iconst (v := 0) hx hb dL_poke_1 (by decide) ?_
  refine lv_aload_n hx hb dL_poke_2 rfl (lv_at hl 0 rfl) ?_
  refine lv_iload_n hx hb dL_poke_3 rfl (lv_at hl 1 rfl) ?_
  refine lv_iload_n hx hb dL_poke_4 rfl (lv_at hl 2 rfl) ?_
  have hPc := hP.sub (ws' := [(x, .inr (10, [.ref tp, .ref ds, .ref rr, .ref so, .ref pu, .ref sn, .ref im, .ref cs, .ref cl, .int (0 : Int32)]))]) [0] rfl
  have hKc := hK.sub (tys' := []) [] rfl
  have hDc := hD.sub (ws' := [(x, .inr (10, [.ref tp, .ref ds, .ref rr, .ref so, .ref pu, .ref sn, .ref im, .ref cs, .ref cl, .int (0 : Int32)]))]) [0] (by decide) rfl
  have hFc := va_free (wc := [(x, .inr (10, [.ref tp, .ref ds, .ref rr, .ref so, .ref pu, .ref sn, .ref im, .ref cs, .ref cl, .int (0 : Int32)]))]) hD hS hA [0] rfl
  refine vx_calli (vx_runV (As := [.int p0, .int p1]) (rest := [.int (0 : Int32), .ref ho]) ⟨hx, hb, hml, hown, hts⟩ (k_X8_poke_1 l hl0 dC dI x p0 p1 tp ds rr so pu sn im cs cl _ hf0) (cwV 2 hts gL_poke_X8_poke rfl rfl rfl (by decide +kernel) ⟨Nat.le_of_ble_eq_true rfl, Nat.le_of_ble_eq_true rfl⟩) ⟨fun a U g mk q => by obtain ⟨q0, q1, qP, qK, qD, qG⟩ := q; exact ⟨q0, q1, qP, va_K.moved (u := U) (U := U.calling g mk a) (Vm.Alike.refl U.vm) qK, qD, qG.same rfl rfl⟩, va_recv hK hP (ci := 10) (q := (RX8, TX8, 10)) rfl (q0 := 0) rfl, fun U hU hW => ⟨rfl, by rw [hU], by rw [hU]; exact hPc, va_K.moved hW.alike hKc, hDc.weaken (fun _ _ _ _ => trivial), hG.go hW hU hS hFc⟩⟩ rfl rfl hl.1 rfl (lv_room (Nat.le_of_ble_eq_true rfl)) dL_poke_5 ⟨Nat.le_of_ble_eq_true rfl, Nat.le_of_ble_eq_true rfl⟩) hS (fun q _ h => hFc q h) hFc (fun q _ h => hFc q h) (fun E9 ce q9 u t H1 locs1 ht hvm hp hE hz hk hS hcell hv hcl => ?_) (fun r u t H1 locs1 ht hvm hp hB hz hk hS => hp.elim)
  subst hE
  refine vx_catch (name := "java/lang/IndexOutOfBoundsException") hown [] ⟨0, 10, 13, 19⟩ [⟨0, 10, 17, 25⟩, ⟨0, 10, 21, 13⟩] htab (fun z h => by cases h) (by decide) (by decide) (hts (.classLink RL 19 "java/lang/IndexOutOfBoundsException") (by decide +kernel)) (va_Nw.use rfl (hG.1.2.2.1 _ (by decide))) hcell hv hcl ?_
  refine W.eq (g2 := F0 m 13 ls [.ref q9]) rfl ?_
  have hP : va_P (dC, dI) vwCl [] H1 := fun k q h => by simp at h
  have hD : va_D A [] := ⟨fun i j p q h => by simp at h, fun k q h => by simp at h⟩
  generalize H1 = H at hP hS ⊢
  refine lv_astore (lv' := [(4, .ref q9), (0, .ref x), (1, .int p0), (2, .int p1), (3, .ref ho)]) hx hb dL_poke_13 hl (by decide) rfl (fun ls hl => ?_)
  refine lv_iconst (v := 1) hx hb dL_poke_15 (by decide) ?_
  have hP := hP.sub (ws' := []) [] rfl
  have hD := hD.sub (ws' := []) [] (by decide) rfl
  have hK := hK.sub (tys' := []) [] rfl
  exact W.iret hx hb hr (fun t ht hW => ⟨⟨_, (), rfl, rfl, by rw [ht]; exact hP, va_K.moved hW.alike hK, hD⟩, hS.F ht⟩) hS.2.2 dL_poke_16

set_option maxHeartbeats 4000000 in
set_option maxRecDepth 100000 in
theorem k_X9_poke_1 (l : Launch) (dC : Nat → ClassId) (dI : Nat → Nat → Nat) (mo : Nat) (p0 : Int32) (p1 : Int32) (m_disk : Nat) (P : Nat) (m_tape : Nat) (m_slots : Nat) (m_leaves : Nat) (m_fresh : Nat) (m_digestAt : Nat) (m_isGroup : Nat) (m_counts : Nat) (m_versionRow : Nat) (m_state : Nat) (m_names : Nat) (m_keptRow : Nat) (m_inSlot : Nat) (m_inAt : Nat) (m_inSize : Nat) (m_inDigest : Nat) (sz : Nat) (hf0 : p0 < 0) : Met l yX9_poke wsX9_poke ({ frames := 1, cells := 0, slots := 0, locals := 22 }) (va_Pc [.ref mo, .int p0, .int p1] (fun U => U.heap.size = sz ∧ va_P (dC, dI) vwCl [(mo, .inr (11, [.ref m_disk, .int (nI P), .int ((8224 : Int32) + ((26 : Int32) * (nI P))), .int (1 : Int32), .int 0, .int (-1 : Int32), .int 0, .int (0 : Int32), .ref m_tape, .int 0, .ref m_slots, .ref m_leaves, .int 0, .int 0, .ref m_fresh, .int 0, .int 0, .int 0, .ref m_digestAt, .ref m_isGroup, .ref m_counts, .int 0, .int 0, .long 0, .int 0, .ref m_versionRow, .int 0, .long 0, .ref m_state, .ref m_names, .int 0, .ref m_keptRow, .int 0, .ref m_inSlot, .ref m_inAt, .ref m_inSize, .ref m_inDigest, .int 0]))] U.heap ∧ va_K (dC, dI) vwCl [] U ∧ va_D (fun _ => True) [(mo, .inr (11, [.ref m_disk, .int (nI P), .int ((8224 : Int32) + ((26 : Int32) * (nI P))), .int (1 : Int32), .int 0, .int (-1 : Int32), .int 0, .int (0 : Int32), .ref m_tape, .int 0, .ref m_slots, .ref m_leaves, .int 0, .int 0, .ref m_fresh, .int 0, .int 0, .int 0, .ref m_digestAt, .ref m_isGroup, .ref m_counts, .int 0, .int 0, .long 0, .int 0, .ref m_versionRow, .int 0, .long 0, .ref m_state, .ref m_names, .int 0, .ref m_keptRow, .int 0, .ref m_inSlot, .ref m_inAt, .ref m_inSize, .ref m_inDigest, .int 0]))])) (va_Qi (fun r (_ : Unit) => r = (0 : Int32)) (fun (_ : Unit) t => va_P (dC, dI) vwCl [(mo, .inr (11, [.ref m_disk, .int (nI P), .int ((8224 : Int32) + ((26 : Int32) * (nI P))), .int (1 : Int32), .int 0, .int (-1 : Int32), .int 0, .int (0 : Int32), .ref m_tape, .int 0, .ref m_slots, .ref m_leaves, .int 0, .int (1 : Int32), .ref m_fresh, .int 0, .int 0, .int 0, .ref m_digestAt, .ref m_isGroup, .ref m_counts, .int 0, .int 0, .long 0, .int 0, .ref m_versionRow, .int 0, .long 0, .ref m_state, .ref m_names, .int 0, .ref m_keptRow, .int 0, .ref m_inSlot, .ref m_inAt, .ref m_inSize, .ref m_inDigest, .int 0]))] t.heap ∧ va_K (dC, dI) vwCl [] t ∧ va_D (va_A [(mo, .inr (11, [.ref m_disk, .int (nI P), .int ((8224 : Int32) + ((26 : Int32) * (nI P))), .int (1 : Int32), .int 0, .int (-1 : Int32), .int 0, .int (0 : Int32), .ref m_tape, .int 0, .ref m_slots, .ref m_leaves, .int 0, .int 0, .ref m_fresh, .int 0, .int 0, .int 0, .ref m_digestAt, .ref m_isGroup, .ref m_counts, .int 0, .int 0, .long 0, .int 0, .ref m_versionRow, .int 0, .long 0, .ref m_state, .ref m_names, .int 0, .ref m_keptRow, .int 0, .ref m_inSlot, .ref m_inAt, .ref m_inSize, .ref m_inDigest, .int 0]))] sz) [(mo, .inr (11, [.ref m_disk, .int (nI P), .int ((8224 : Int32) + ((26 : Int32) * (nI P))), .int (1 : Int32), .int 0, .int (-1 : Int32), .int 0, .int (0 : Int32), .ref m_tape, .int 0, .ref m_slots, .ref m_leaves, .int 0, .int (1 : Int32), .ref m_fresh, .int 0, .int 0, .int 0, .ref m_digestAt, .ref m_isGroup, .ref m_counts, .int 0, .int 0, .long 0, .int 0, .ref m_versionRow, .int 0, .long 0, .ref m_state, .ref m_names, .int 0, .ref m_keptRow, .int 0, .ref m_inSlot, .ref m_inAt, .ref m_inSize, .ref m_inDigest, .int 0]))]) (va_A [(mo, .inr (11, [.ref m_disk, .int (nI P), .int ((8224 : Int32) + ((26 : Int32) * (nI P))), .int (1 : Int32), .int 0, .int (-1 : Int32), .int 0, .int (0 : Int32), .ref m_tape, .int 0, .ref m_slots, .ref m_leaves, .int 0, .int 0, .ref m_fresh, .int 0, .int 0, .int 0, .ref m_digestAt, .ref m_isGroup, .ref m_counts, .int 0, .int 0, .long 0, .int 0, .ref m_versionRow, .int 0, .long 0, .ref m_state, .ref m_names, .int 0, .ref m_keptRow, .int 0, .ref m_inSlot, .ref m_inAt, .ref m_inSize, .ref m_inDigest, .int 0]))] sz)) 0 0 (va_A [(mo, .inr (11, [.ref m_disk, .int (nI P), .int ((8224 : Int32) + ((26 : Int32) * (nI P))), .int (1 : Int32), .int 0, .int (-1 : Int32), .int 0, .int (0 : Int32), .ref m_tape, .int 0, .ref m_slots, .ref m_leaves, .int 0, .int 0, .ref m_fresh, .int 0, .int 0, .int 0, .ref m_digestAt, .ref m_isGroup, .ref m_counts, .int 0, .int 0, .long 0, .int 0, .ref m_versionRow, .int 0, .long 0, .ref m_state, .ref m_names, .int 0, .ref m_keptRow, .int 0, .ref m_inSlot, .ref m_inAt, .ref m_inSize, .ref m_inDigest, .int 0]))] sz) := by
  refine Met.ofW (cc := cX9_poke) (maxL := 3) (ret := (some .int)) (by decide) rfl ?_
  intro p e s m args below meth c s₁ B hml hv
  obtain ⟨rfl, hsz, hP, hK, hD0⟩ := hv
  have hx := B.exec
  have hb := B.bytes
  have hr := B.returns
  have hts := atoms_spec (ws := wsX9_poke) B.pre
  have hown : s.vm.findClass RX9 = some m.cls := findClass_of_methodNamed B.named
  have hlocks := B.notSynchronized
  subst hsz
  have hD := hD0.self (sz := s.heap.size)
  generalize hAe : va_A [(mo, .inr (11, [.ref m_disk, .int (nI P), .int ((8224 : Int32) + ((26 : Int32) * (nI P))), .int (1 : Int32), .int 0, .int (-1 : Int32), .int 0, .int (0 : Int32), .ref m_tape, .int 0, .ref m_slots, .ref m_leaves, .int 0, .int 0, .ref m_fresh, .int 0, .int 0, .int 0, .ref m_digestAt, .ref m_isGroup, .ref m_counts, .int 0, .int 0, .long 0, .int 0, .ref m_versionRow, .int 0, .long 0, .ref m_state, .ref m_names, .int 0, .ref m_keptRow, .int 0, .ref m_inSlot, .ref m_inAt, .ref m_inSize, .ref m_inDigest, .int 0]))] s.heap.size = A at hD ⊢
  have hA : ∀ q : Nat, s.heap.size ≤ q → A q := fun q h => by rw [← hAe]; exact Or.inr h
  have hS : va_S A s.heap s.heap [] := va_S.rf
  have hl := lv_entry ([.ref mo, .int p0, .int p1]) (n := 3) (Nat.le_of_ble_eq_true rfl)
  rw [lg_entry_eq]
  generalize (lg_sl ([.ref mo, .int p0, .int p1]) ++ List.replicate (3 - (lg_sl ([.ref mo, .int p0, .int p1])).length) Slot.unset).toArray = ls at hl ⊢
  have hl : lv_has ls 3 [(0, .ref mo), (1, .int p0), (2, .int p1)] := hl
  refine lv_aload_n hx hb dX9_poke_0 rfl (lv_at hl 0 rfl) ?_
  refine lv_iload_n hx hb dX9_poke_1 rfl (lv_at hl 1 rfl) ?_
  refine lv_iconst (v := 0) hx hb dX9_poke_2 (by decide) ?_
  refine lv_aload_n hx hb dX9_poke_3 rfl (lv_at hl 0 rfl) ?_
  refine va_get (D := (dC, dI)) (ci := 11) (v := .int ((8224 : Int32) + ((26 : Int32) * (nI P)))) (C := RX9) (T := TX9) (N := 38) hx hb hts (by decide +kernel) hown hK hP 0 rfl rfl 2 (by decide) (hts (.fieldLink RX9 66 "BlockLogModel" "size" "I") (by decide +kernel)) (fun _ h9 => h9) rfl dX9_poke_4 ?_
  refine lv_iconst (v := 1) hx hb dX9_poke_7 (by decide) ?_
  refine lv_isub hx hb dX9_poke_8 ?_
  have hPc := hP.sub (ws' := []) [] rfl
  have hKc := hK.sub (tys' := []) [] rfl
  refine vp_callSi (va_Run.run (va_runS (As := [.int p0, .int (0 : Int32), .int (((8224 : Int32) + ((26 : Int32) * (nI P))) - (1 : Int32))]) (rest := [.ref mo]) ⟨hx, hb, hml, hown, hts⟩ (k_X9_within_1 l dC dI p0 (0 : Int32) (((8224 : Int32) + ((26 : Int32) * (nI P))) - (1 : Int32)) hf0) (va_cwS 3 hts gX9_poke_X9_within rfl rfl rfl (by decide +kernel) ⟨Nat.le_of_ble_eq_true rfl, Nat.le_of_ble_eq_true rfl⟩) ⟨fun a U g mk q => by obtain ⟨q0, qP, qK⟩ := q; exact ⟨q0, qP, va_K.moved (u := U) (U := U.calling g mk a) (Vm.Alike.refl U.vm) qK⟩, fun U hU hW => ⟨rfl, by rw [hU]; exact hPc, va_K.moved hW.alike hKc⟩⟩ rfl rfl hl.1 rfl (lv_room (Nat.le_of_ble_eq_true rfl)) dX9_poke_9 ⟨Nat.le_of_ble_eq_true rfl, Nat.le_of_ble_eq_true rfl⟩)) (fun r_1 er_1 => ?_)
  subst er_1
  refine lv_if_ne (tgt := 19) hx hb dX9_poke_12 (by decide) (fun c_2 => ?_) (fun c_2 => ?_)
  · skip
    exact absurd (by decide) c_2
  · skip
    refine lv_iconst (v := 1) hx hb dX9_poke_15 (by decide) ?_
    refine lv_goto (tgt := 46) hx hb dX9_poke_16 (by decide) ?_
    refine va_put (D := (dC, dI)) (ci := 11) (v := .int (1 : Int32)) (ty := .int) (C := RX9) (T := TX9) (N := 38) hx hb hts (by decide +kernel) tyX9 tyX9_ok nmX9 hown hK hP hD hS 0 rfl rfl 13 (by decide) (hts (.fieldLink RX9 91 "BlockLogModel" "thrown" "I") (by decide +kernel)) (fun _ h9 => h9) rfl (by decide +kernel) rfl rfl (Nat.le_of_ble_eq_true rfl) dX9_poke_46 (fun H locs hP hD hS => ?_)
    have hP : va_P (dC, dI) vwCl [(mo, .inr (11, [.ref m_disk, .int (nI P), .int ((8224 : Int32) + ((26 : Int32) * (nI P))), .int (1 : Int32), .int 0, .int (-1 : Int32), .int 0, .int (0 : Int32), .ref m_tape, .int 0, .ref m_slots, .ref m_leaves, .int 0, .int (1 : Int32), .ref m_fresh, .int 0, .int 0, .int 0, .ref m_digestAt, .ref m_isGroup, .ref m_counts, .int 0, .int 0, .long 0, .int 0, .ref m_versionRow, .int 0, .long 0, .ref m_state, .ref m_names, .int 0, .ref m_keptRow, .int 0, .ref m_inSlot, .ref m_inAt, .ref m_inSize, .ref m_inDigest, .int 0]))] H := hP
    have hD : va_D A [(mo, .inr (11, [.ref m_disk, .int (nI P), .int ((8224 : Int32) + ((26 : Int32) * (nI P))), .int (1 : Int32), .int 0, .int (-1 : Int32), .int 0, .int (0 : Int32), .ref m_tape, .int 0, .ref m_slots, .ref m_leaves, .int 0, .int (1 : Int32), .ref m_fresh, .int 0, .int 0, .int 0, .ref m_digestAt, .ref m_isGroup, .ref m_counts, .int 0, .int 0, .long 0, .int 0, .ref m_versionRow, .int 0, .long 0, .ref m_state, .ref m_names, .int 0, .ref m_keptRow, .int 0, .ref m_inSlot, .ref m_inAt, .ref m_inSize, .ref m_inDigest, .int 0]))] := hD
    refine lv_aload_n hx hb dX9_poke_49 rfl (lv_at hl 0 rfl) ?_
    refine va_get (D := (dC, dI)) (ci := 11) (v := .int (1 : Int32)) (C := RX9) (T := TX9) (N := 38) hx hb hts (by decide +kernel) hown hK hP 0 rfl rfl 13 (by decide) (hts (.fieldLink RX9 91 "BlockLogModel" "thrown" "I") (by decide +kernel)) (fun _ h9 => h9) rfl dX9_poke_50 ?_
    refine lv_if_le (tgt := 58) hx hb dX9_poke_53 (by decide) (fun c_3 => ?_) (fun c_3 => ?_)
    · skip
      exact absurd c_3 (by decide)
    · skip
      refine lv_iconst (v := 0) hx hb dX9_poke_56 (by decide) ?_
      have hP := hP.sub (ws' := [(mo, .inr (11, [.ref m_disk, .int (nI P), .int ((8224 : Int32) + ((26 : Int32) * (nI P))), .int (1 : Int32), .int 0, .int (-1 : Int32), .int 0, .int (0 : Int32), .ref m_tape, .int 0, .ref m_slots, .ref m_leaves, .int 0, .int (1 : Int32), .ref m_fresh, .int 0, .int 0, .int 0, .ref m_digestAt, .ref m_isGroup, .ref m_counts, .int 0, .int 0, .long 0, .int 0, .ref m_versionRow, .int 0, .long 0, .ref m_state, .ref m_names, .int 0, .ref m_keptRow, .int 0, .ref m_inSlot, .ref m_inAt, .ref m_inSize, .ref m_inDigest, .int 0]))]) [0] rfl
      have hD := hD.sub (ws' := [(mo, .inr (11, [.ref m_disk, .int (nI P), .int ((8224 : Int32) + ((26 : Int32) * (nI P))), .int (1 : Int32), .int 0, .int (-1 : Int32), .int 0, .int (0 : Int32), .ref m_tape, .int 0, .ref m_slots, .ref m_leaves, .int 0, .int (1 : Int32), .ref m_fresh, .int 0, .int 0, .int 0, .ref m_digestAt, .ref m_isGroup, .ref m_counts, .int 0, .int 0, .long 0, .int 0, .ref m_versionRow, .int 0, .long 0, .ref m_state, .ref m_names, .int 0, .ref m_keptRow, .int 0, .ref m_inSlot, .ref m_inAt, .ref m_inSize, .ref m_inDigest, .int 0]))]) [0] (by decide) rfl
      have hK := hK.sub (tys' := []) [] rfl
      exact W.iret hx hb hr (fun t ht hW => ⟨⟨_, (), rfl, rfl, by rw [ht]; exact hP, va_K.moved hW.alike hK, hD⟩, hS.F ht⟩) hS.2.2 dX9_poke_57

set_option maxHeartbeats 4000000 in
set_option maxRecDepth 100000 in
theorem k_X8_demandPlace_2 (l : Launch) (hl0 : l.stackTraces = false) (dC : Nat → ClassId) (dI : Nat → Nat → Nat) (x : Nat) (p0 : Int32) (ds : Nat) (tp : Nat) (rr : Nat) (so : Nat) (pu : Nat) (sn : Nat) (im : Nat) (cs : Nat) (cl : Nat) (pg : Int32) (dl : Nat) (dr : Nat) (dt : Nat) (sz : Nat) (hf0 : 0 ≤ p0) (hf1 : 8224 + (26 * pg) ≤ p0) : vx_Met l yX8_demandPlace wsX8_demandPlace ({ frames := 6, cells := 1, slots := 6, locals := 90 }) (va_Pc [.ref x, .int p0] (fun U => U.heap.size = sz ∧ va_P (dC, dI) vwCl [(x, .inr (10, [.ref tp, .ref ds, .ref rr, .ref so, .ref pu, .ref sn, .ref im, .ref cs, .ref cl, .int (0 : Int32)])), (ds, .inr (3, [.int pg, .ref dl, .ref dr, .ref dt, .int (1 : Int32), .int (-1 : Int32), .int (0 : Int32)]))] U.heap ∧ va_K (dC, dI) vwCl [] U ∧ va_D (fun _ => True) [(x, .inr (10, [.ref tp, .ref ds, .ref rr, .ref so, .ref pu, .ref sn, .ref im, .ref cs, .ref cl, .int (0 : Int32)])), (ds, .inr (3, [.int pg, .ref dl, .ref dr, .ref dt, .int (1 : Int32), .int (-1 : Int32), .int (0 : Int32)]))] ∧ gx_E (va_A [(x, .inr (10, [.ref tp, .ref ds, .ref rr, .ref so, .ref pu, .ref sn, .ref im, .ref cs, .ref cl, .int (0 : Int32)])), (ds, .inr (3, [.int pg, .ref dl, .ref dr, .ref dt, .int (1 : Int32), .int (-1 : Int32), .int (0 : Int32)]))] sz) U)) (va_Qv (fun (_ : Unit) => False) (fun _ _ => True) (va_A [(x, .inr (10, [.ref tp, .ref ds, .ref rr, .ref so, .ref pu, .ref sn, .ref im, .ref cs, .ref cl, .int (0 : Int32)])), (ds, .inr (3, [.int pg, .ref dl, .ref dr, .ref dt, .int (1 : Int32), .int (-1 : Int32), .int (0 : Int32)]))] sz)) (vx_X (fun _ : Unit => True) (fun E _ _ => E = "java/lang/IndexOutOfBoundsException") (va_A [(x, .inr (10, [.ref tp, .ref ds, .ref rr, .ref so, .ref pu, .ref sn, .ref im, .ref cs, .ref cl, .int (0 : Int32)])), (ds, .inr (3, [.int pg, .ref dl, .ref dr, .ref dt, .int (1 : Int32), .int (-1 : Int32), .int (0 : Int32)]))] sz)) 1 6 (va_A [(x, .inr (10, [.ref tp, .ref ds, .ref rr, .ref so, .ref pu, .ref sn, .ref im, .ref cs, .ref cl, .int (0 : Int32)])), (ds, .inr (3, [.int pg, .ref dl, .ref dr, .ref dt, .int (1 : Int32), .int (-1 : Int32), .int (0 : Int32)]))] sz) := by
  refine vx_ofW (cc := cX8_demandPlace) (maxL := 2) (ret := none) (by decide) rfl ?_
  intro p e s m args below meth c s₁ B hml hno hv
  obtain ⟨rfl, hsz, hP, hK, hD0, hG⟩ := hv
  have hx := B.exec
  have hb := B.bytes
  have hr := B.returns
  have hts := atoms_spec (ws := wsX8_demandPlace) B.pre
  have hown : s.vm.findClass RX8 = some m.cls := findClass_of_methodNamed B.named
  have hlocks := B.notSynchronized
  subst hsz
  have hD := hD0.self (sz := s.heap.size)
  generalize hAe : va_A [(x, .inr (10, [.ref tp, .ref ds, .ref rr, .ref so, .ref pu, .ref sn, .ref im, .ref cs, .ref cl, .int (0 : Int32)])), (ds, .inr (3, [.int pg, .ref dl, .ref dr, .ref dt, .int (1 : Int32), .int (-1 : Int32), .int (0 : Int32)]))] s.heap.size = A at hD hG ⊢
  have hA : ∀ q : Nat, s.heap.size ≤ q → A q := fun q h => by rw [← hAe]; exact Or.inr h
  have hS : va_S A s.heap s.heap [] := va_S.rf
  have hl := lv_entry ([.ref x, .int p0]) (n := 2) (Nat.le_of_ble_eq_true rfl)
  rw [lg_entry_eq]
  generalize (lg_sl ([.ref x, .int p0]) ++ List.replicate (2 - (lg_sl ([.ref x, .int p0])).length) Slot.unset).toArray = ls at hl ⊢
  have hl : lv_has ls 2 [(0, .ref x), (1, .int p0)] := hl
  refine lv_iload_n hx hb dX8_demandPlace_0 rfl (lv_at hl 1 rfl) ?_
  refine lv_if_lt (tgt := 22) hx hb dX8_demandPlace_1 (by decide) (fun c_1 => ?_) (fun c_1 => ?_)
  · skip
    exact absurd c_1 (Int32.not_lt.mpr hf0)
  · skip
    refine lv_iload_n hx hb dX8_demandPlace_4 rfl (lv_at hl 1 rfl) ?_
    refine lv_sipush (v := 8224) hx hb dX8_demandPlace_5 (by decide) ?_
    refine lv_bipush (v := 26) hx hb dX8_demandPlace_8 (by decide) ?_
    refine lv_aload_n hx hb dX8_demandPlace_10 rfl (lv_at hl 0 rfl) ?_
    refine va_get (D := (dC, dI)) (ci := 10) (v := .ref ds) (C := RX8) (T := TX8) (N := 10) hx hb hts (by decide +kernel) hown hK hP 0 rfl rfl 1 (by decide) (hts (.fieldLink RX8 22 "BlockLog" "disk" "LBlockLog$Disk;") (by decide +kernel)) (fun _ h9 => h9) rfl dX8_demandPlace_11 ?_
    refine va_getN (D := (dC, dI)) (ci := 3) (v := .int pg) (C := RX1) (T := TX1) (N := 7) hx hb hts (by decide +kernel) hown hK hP 1 rfl rfl 0 (by decide) (va_Nw.use rfl (hG.1.1 ("BlockLog", 118, "BlockLog$Disk", "pageCount", "I", "BlockLog") (by decide +kernel))) (fun _ h9 => h9) rfl dX8_demandPlace_14 ?_
    refine lv_imul hx hb dX8_demandPlace_17 ?_
    refine lv_iadd hx hb dX8_demandPlace_18 ?_
    refine lv_icmp_lt (tgt := 33) hx hb dX8_demandPlace_19 (by decide) (fun c_2 => ?_) (fun c_2 => ?_)
    · skip
      exact absurd c_2 (Int32.not_lt.mpr hf1)
    · skip
      obtain ⟨sa, hstr⟩ := hG.1.2.1 ("BlockLog", 360, "no such place") (by decide +kernel)
      exact vx_throwSW (names := ["java/lang/RuntimeException", "java/lang/Exception"]) hx hb hl0 hown (by decide +kernel) (by decide +kernel) (hts (.classLink RX8 91 "java/lang/IndexOutOfBoundsException") (by decide +kernel)) (hts (.initialized "java/lang/IndexOutOfBoundsException") (by decide +kernel)) hstr (vx_hat (B := gx_bad "java/lang/IndexOutOfBoundsException") (fun w h => hts w (List.mem_cons_of_mem _ (List.mem_append_right _ h))) (by decide +kernel) (hG.1.bad (by decide))) (by decide +kernel) hG.2.1 hG.2.2.1 hS (hl.1.trans hml.symm) dX8_demandPlace_22 dX8_demandPlace_25 dX8_demandPlace_26 dX8_demandPlace_29 dX8_demandPlace_32 (fun x h => (hno x h).elim) (Nat.le_of_ble_eq_true rfl) (Nat.le_of_ble_eq_true rfl) (Nat.le_of_ble_eq_true rfl) (Nat.le_of_ble_eq_true rfl) hlocks (fun t _ h1 h2 => ⟨(), trivial, rfl, Nat.le_trans hS.1 h1, fun q hq hn => (h2 q (Nat.lt_of_lt_of_le hq hS.1)).trans (hS.2.1 q hq hn)⟩) hS.2.2 (Nat.le_refl _) (Nat.le_refl _)

set_option maxHeartbeats 4000000 in
set_option maxRecDepth 100000 in
theorem k_X8_poke_2 (l : Launch) (hl0 : l.stackTraces = false) (dC : Nat → ClassId) (dI : Nat → Nat → Nat) (x : Nat) (p0 : Int32) (p1 : Int32) (ds : Nat) (tp : Nat) (rr : Nat) (so : Nat) (pu : Nat) (sn : Nat) (im : Nat) (cs : Nat) (cl : Nat) (pg : Int32) (dl : Nat) (dr : Nat) (dt : Nat) (sz : Nat) (hf0 : 0 ≤ p0) (hf1 : 8224 + (26 * pg) ≤ p0) : vx_Met l yX8_poke wsX8_poke ({ frames := 7, cells := 1, slots := 6, locals := 111 }) (va_Pc [.ref x, .int p0, .int p1] (fun U => U.heap.size = sz ∧ va_P (dC, dI) vwCl [(x, .inr (10, [.ref tp, .ref ds, .ref rr, .ref so, .ref pu, .ref sn, .ref im, .ref cs, .ref cl, .int (0 : Int32)])), (ds, .inr (3, [.int pg, .ref dl, .ref dr, .ref dt, .int (1 : Int32), .int (-1 : Int32), .int (0 : Int32)]))] U.heap ∧ va_K (dC, dI) vwCl [] U ∧ va_D (fun _ => True) [(x, .inr (10, [.ref tp, .ref ds, .ref rr, .ref so, .ref pu, .ref sn, .ref im, .ref cs, .ref cl, .int (0 : Int32)])), (ds, .inr (3, [.int pg, .ref dl, .ref dr, .ref dt, .int (1 : Int32), .int (-1 : Int32), .int (0 : Int32)]))] ∧ gx_E (va_A [(x, .inr (10, [.ref tp, .ref ds, .ref rr, .ref so, .ref pu, .ref sn, .ref im, .ref cs, .ref cl, .int (0 : Int32)])), (ds, .inr (3, [.int pg, .ref dl, .ref dr, .ref dt, .int (1 : Int32), .int (-1 : Int32), .int (0 : Int32)]))] sz) U)) (va_Qi (fun (_ : Int32) (_ : Unit) => False) (fun _ _ => True) (va_A [(x, .inr (10, [.ref tp, .ref ds, .ref rr, .ref so, .ref pu, .ref sn, .ref im, .ref cs, .ref cl, .int (0 : Int32)])), (ds, .inr (3, [.int pg, .ref dl, .ref dr, .ref dt, .int (1 : Int32), .int (-1 : Int32), .int (0 : Int32)]))] sz)) (vx_X (fun _ : Unit => True) (fun E _ _ => E = "java/lang/IndexOutOfBoundsException") (va_A [(x, .inr (10, [.ref tp, .ref ds, .ref rr, .ref so, .ref pu, .ref sn, .ref im, .ref cs, .ref cl, .int (0 : Int32)])), (ds, .inr (3, [.int pg, .ref dl, .ref dr, .ref dt, .int (1 : Int32), .int (-1 : Int32), .int (0 : Int32)]))] sz)) 1 6 (va_A [(x, .inr (10, [.ref tp, .ref ds, .ref rr, .ref so, .ref pu, .ref sn, .ref im, .ref cs, .ref cl, .int (0 : Int32)])), (ds, .inr (3, [.int pg, .ref dl, .ref dr, .ref dt, .int (1 : Int32), .int (-1 : Int32), .int (0 : Int32)]))] sz) := by
  refine vx_ofW (cc := cX8_poke) (maxL := 4) (ret := (some .int)) (by decide) rfl ?_
  intro p e s m args below meth c s₁ B hml hno hv
  obtain ⟨rfl, hsz, hP, hK, hD0, hG⟩ := hv
  have hx := B.exec
  have hb := B.bytes
  have hr := B.returns
  have hts := atoms_spec (ws := wsX8_poke) B.pre
  have hown : s.vm.findClass RX8 = some m.cls := findClass_of_methodNamed B.named
  have hlocks := B.notSynchronized
  subst hsz
  have hD := hD0.self (sz := s.heap.size)
  generalize hAe : va_A [(x, .inr (10, [.ref tp, .ref ds, .ref rr, .ref so, .ref pu, .ref sn, .ref im, .ref cs, .ref cl, .int (0 : Int32)])), (ds, .inr (3, [.int pg, .ref dl, .ref dr, .ref dt, .int (1 : Int32), .int (-1 : Int32), .int (0 : Int32)]))] s.heap.size = A at hD hG ⊢
  have hA : ∀ q : Nat, s.heap.size ≤ q → A q := fun q h => by rw [← hAe]; exact Or.inr h
  have hS : va_S A s.heap s.heap [] := va_S.rf
  have hl := lv_entry ([.ref x, .int p0, .int p1]) (n := 4) (Nat.le_of_ble_eq_true rfl)
  rw [lg_entry_eq]
  generalize (lg_sl ([.ref x, .int p0, .int p1]) ++ List.replicate (4 - (lg_sl ([.ref x, .int p0, .int p1])).length) Slot.unset).toArray = ls at hl ⊢
  have hl : lv_has ls 4 [(0, .ref x), (1, .int p0), (2, .int p1)] := hl
  refine lv_aload_n hx hb dX8_poke_0 rfl (lv_at hl 0 rfl) ?_
  refine lv_iload_n hx hb dX8_poke_1 rfl (lv_at hl 1 rfl) ?_
  have hPc := hP.sub (ws' := [(x, .inr (10, [.ref tp, .ref ds, .ref rr, .ref so, .ref pu, .ref sn, .ref im, .ref cs, .ref cl, .int (0 : Int32)])), (ds, .inr (3, [.int pg, .ref dl, .ref dr, .ref dt, .int (1 : Int32), .int (-1 : Int32), .int (0 : Int32)]))]) [0, 1] rfl
  have hKc := hK.sub (tys' := []) [] rfl
  have hDc := hD.sub (ws' := [(x, .inr (10, [.ref tp, .ref ds, .ref rr, .ref so, .ref pu, .ref sn, .ref im, .ref cs, .ref cl, .int (0 : Int32)])), (ds, .inr (3, [.int pg, .ref dl, .ref dr, .ref dt, .int (1 : Int32), .int (-1 : Int32), .int (0 : Int32)]))]) [0, 1] (by decide) rfl
  have hFc := va_free (wc := [(x, .inr (10, [.ref tp, .ref ds, .ref rr, .ref so, .ref pu, .ref sn, .ref im, .ref cs, .ref cl, .int (0 : Int32)])), (ds, .inr (3, [.int pg, .ref dl, .ref dr, .ref dt, .int (1 : Int32), .int (-1 : Int32), .int (0 : Int32)]))]) hD hS hA [0, 1] rfl
  refine vx_callv (vx_runV (As := [.int p0]) (rest := []) ⟨hx, hb, hml, hown, hts⟩ (k_X8_demandPlace_2 l hl0 dC dI x p0 ds tp rr so pu sn im cs cl pg dl dr dt _ hf0 hf1) (cwV 1 hts gX8_poke_X8_demandPlace rfl rfl rfl (by decide +kernel) ⟨Nat.le_of_ble_eq_true rfl, Nat.le_of_ble_eq_true rfl⟩) ⟨fun a U g mk q => by obtain ⟨q0, q1, qP, qK, qD, qG⟩ := q; exact ⟨q0, q1, qP, va_K.moved (u := U) (U := U.calling g mk a) (Vm.Alike.refl U.vm) qK, qD, qG.same rfl rfl⟩, va_recv hK hP (ci := 10) (q := (RX8, TX8, 10)) rfl (q0 := 0) rfl, fun U hU hW => ⟨rfl, by rw [hU], by rw [hU]; exact hPc, va_K.moved hW.alike hKc, hDc.weaken (fun _ _ _ _ => trivial), hG.go hW hU hS hFc⟩⟩ rfl rfl hl.1 rfl (lv_room (Nat.le_of_ble_eq_true rfl)) dX8_poke_2 ⟨Nat.le_of_ble_eq_true rfl, Nat.le_of_ble_eq_true rfl⟩) hS (fun q _ h => hFc q h) hFc (fun q _ h => hFc q h) (fun E9 ce q9 u t H1 locs1 ht hvm hp hE hz hk hS hcell hv hcl => ?_) (fun u t H1 locs1 ht hvm hp hB hz hk hS => hp.elim)
  subst hE
  exact vx_out (fun x h => (hno x h).elim) hlocks hcell hv hcl (fun t ht hW => ⟨(), trivial, rfl, hS.F ht⟩) hS.2.2 (Nat.le_refl _) (Nat.le_refl _)

set_option maxHeartbeats 4000000 in
set_option maxRecDepth 100000 in
theorem k_L_poke_2 (l : Launch) (hl0 : l.stackTraces = false) (dC : Nat → ClassId) (dI : Nat → Nat → Nat) (x : Nat) (p0 : Int32) (p1 : Int32) (ho : Nat) (ds : Nat) (tp : Nat) (rr : Nat) (so : Nat) (pu : Nat) (sn : Nat) (im : Nat) (cs : Nat) (cl : Nat) (pg : Int32) (dl : Nat) (dr : Nat) (dt : Nat) (sz : Nat) (hf0 : 0 ≤ p0) (hf1 : 8224 + (26 * pg) ≤ p0) : Met l yL_poke wsL_poke ({ frames := 8, cells := 1, slots := 6, locals := 134 }) (va_Pc [.ref x, .int p0, .int p1, .ref ho] (fun U => U.heap.size = sz ∧ va_P (dC, dI) vwCl [(x, .inr (10, [.ref tp, .ref ds, .ref rr, .ref so, .ref pu, .ref sn, .ref im, .ref cs, .ref cl, .int (0 : Int32)])), (ds, .inr (3, [.int pg, .ref dl, .ref dr, .ref dt, .int (1 : Int32), .int (-1 : Int32), .int (0 : Int32)]))] U.heap ∧ va_K (dC, dI) vwCl [] U ∧ va_D (fun _ => True) [(x, .inr (10, [.ref tp, .ref ds, .ref rr, .ref so, .ref pu, .ref sn, .ref im, .ref cs, .ref cl, .int (0 : Int32)])), (ds, .inr (3, [.int pg, .ref dl, .ref dr, .ref dt, .int (1 : Int32), .int (-1 : Int32), .int (0 : Int32)]))] ∧ gx_E (va_A [(x, .inr (10, [.ref tp, .ref ds, .ref rr, .ref so, .ref pu, .ref sn, .ref im, .ref cs, .ref cl, .int (0 : Int32)])), (ds, .inr (3, [.int pg, .ref dl, .ref dr, .ref dt, .int (1 : Int32), .int (-1 : Int32), .int (0 : Int32)]))] sz) U)) (va_Qi (fun r (_ : Unit) => r = (1 : Int32)) (fun (_ : Unit) t => va_P (dC, dI) vwCl [] t.heap ∧ va_K (dC, dI) vwCl [] t ∧ va_D (va_A [(x, .inr (10, [.ref tp, .ref ds, .ref rr, .ref so, .ref pu, .ref sn, .ref im, .ref cs, .ref cl, .int (0 : Int32)])), (ds, .inr (3, [.int pg, .ref dl, .ref dr, .ref dt, .int (1 : Int32), .int (-1 : Int32), .int (0 : Int32)]))] sz) []) (va_A [(x, .inr (10, [.ref tp, .ref ds, .ref rr, .ref so, .ref pu, .ref sn, .ref im, .ref cs, .ref cl, .int (0 : Int32)])), (ds, .inr (3, [.int pg, .ref dl, .ref dr, .ref dt, .int (1 : Int32), .int (-1 : Int32), .int (0 : Int32)]))] sz)) 1 6 (va_A [(x, .inr (10, [.ref tp, .ref ds, .ref rr, .ref so, .ref pu, .ref sn, .ref im, .ref cs, .ref cl, .int (0 : Int32)])), (ds, .inr (3, [.int pg, .ref dl, .ref dr, .ref dt, .int (1 : Int32), .int (-1 : Int32), .int (0 : Int32)]))] sz) := by
  refine va_MetW (cc := cL_poke) (maxL := 5) (ret := (some .int)) (hh := [(0, 10, 13, 19), (0, 10, 17, 25), (0, 10, 21, 13)]) (by decide) rfl ?_
  intro p e s m args below meth c s₁ B hml hv
  obtain ⟨rfl, hsz, hP, hK, hD0, hG⟩ := hv
  have hx := B.exec
  have hb := B.bytes
  have hr := B.returns
  have hts := atoms_spec (ws := wsL_poke) B.pre
  have hown : s.vm.findClass RL = some m.cls := findClass_of_methodNamed B.named
  have hlocks := B.notSynchronized
  have htab := vx_table (x := yL_poke) B (hts (.codeWith yL_poke cL_poke 5 (some .int) [(0, 10, 13, 19), (0, 10, 17, 25), (0, 10, 21, 13)]) List.mem_cons_self)
  subst hsz
  have hD := hD0.self (sz := s.heap.size)
  generalize hAe : va_A [(x, .inr (10, [.ref tp, .ref ds, .ref rr, .ref so, .ref pu, .ref sn, .ref im, .ref cs, .ref cl, .int (0 : Int32)])), (ds, .inr (3, [.int pg, .ref dl, .ref dr, .ref dt, .int (1 : Int32), .int (-1 : Int32), .int (0 : Int32)]))] s.heap.size = A at hD hG ⊢
  have hA : ∀ q : Nat, s.heap.size ≤ q → A q := fun q h => by rw [← hAe]; exact Or.inr h
  have hS : va_S A s.heap s.heap [] := va_S.rf
  have hl := lv_entry ([.ref x, .int p0, .int p1, .ref ho]) (n := 5) (Nat.le_of_ble_eq_true rfl)
  rw [lg_entry_eq]
  generalize (lg_sl ([.ref x, .int p0, .int p1, .ref ho]) ++ List.replicate (5 - (lg_sl ([.ref x, .int p0, .int p1, .ref ho])).length) Slot.unset).toArray = ls at hl ⊢
  have hl : lv_has ls 5 [(0, .ref x), (1, .int p0), (2, .int p1), (3, .ref ho)] := hl
  refine lv_aload_n hx hb dL_poke_0 rfl (lv_at hl 3 rfl) ?_
  refine lv_iconst (v := 0) hx hb dL_poke_1 (by decide) ?_
  refine lv_aload_n hx hb dL_poke_2 rfl (lv_at hl 0 rfl) ?_
  refine lv_iload_n hx hb dL_poke_3 rfl (lv_at hl 1 rfl) ?_
  refine lv_iload_n hx hb dL_poke_4 rfl (lv_at hl 2 rfl) ?_
  have hPc := hP.sub (ws' := [(x, .inr (10, [.ref tp, .ref ds, .ref rr, .ref so, .ref pu, .ref sn, .ref im, .ref cs, .ref cl, .int (0 : Int32)])), (ds, .inr (3, [.int pg, .ref dl, .ref dr, .ref dt, .int (1 : Int32), .int (-1 : Int32), .int (0 : Int32)]))]) [0, 1] rfl
  have hKc := hK.sub (tys' := []) [] rfl
  have hDc := hD.sub (ws' := [(x, .inr (10, [.ref tp, .ref ds, .ref rr, .ref so, .ref pu, .ref sn, .ref im, .ref cs, .ref cl, .int (0 : Int32)])), (ds, .inr (3, [.int pg, .ref dl, .ref dr, .ref dt, .int (1 : Int32), .int (-1 : Int32), .int (0 : Int32)]))]) [0, 1] (by decide) rfl
  have hFc := va_free (wc := [(x, .inr (10, [.ref tp, .ref ds, .ref rr, .ref so, .ref pu, .ref sn, .ref im, .ref cs, .ref cl, .int (0 : Int32)])), (ds, .inr (3, [.int pg, .ref dl, .ref dr, .ref dt, .int (1 : Int32), .int (-1 : Int32), .int (0 : Int32)]))]) hD hS hA [0, 1] rfl
  refine vx_calli (vx_runV (As := [.int p0, .int p1]) (rest := [.int (0 : Int32), .ref ho]) ⟨hx, hb, hml, hown, hts⟩ (k_X8_poke_2 l hl0 dC dI x p0 p1 ds tp rr so pu sn im cs cl pg dl dr dt _ hf0 hf1) (cwV 2 hts gL_poke_X8_poke rfl rfl rfl (by decide +kernel) ⟨Nat.le_of_ble_eq_true rfl, Nat.le_of_ble_eq_true rfl⟩) ⟨fun a U g mk q => by obtain ⟨q0, q1, qP, qK, qD, qG⟩ := q; exact ⟨q0, q1, qP, va_K.moved (u := U) (U := U.calling g mk a) (Vm.Alike.refl U.vm) qK, qD, qG.same rfl rfl⟩, va_recv hK hP (ci := 10) (q := (RX8, TX8, 10)) rfl (q0 := 0) rfl, fun U hU hW => ⟨rfl, by rw [hU], by rw [hU]; exact hPc, va_K.moved hW.alike hKc, hDc.weaken (fun _ _ _ _ => trivial), hG.go hW hU hS hFc⟩⟩ rfl rfl hl.1 rfl (lv_room (Nat.le_of_ble_eq_true rfl)) dL_poke_5 ⟨Nat.le_of_ble_eq_true rfl, Nat.le_of_ble_eq_true rfl⟩) hS (fun q _ h => hFc q h) hFc (fun q _ h => hFc q h) (fun E9 ce q9 u t H1 locs1 ht hvm hp hE hz hk hS hcell hv hcl => ?_) (fun r u t H1 locs1 ht hvm hp hB hz hk hS => hp.elim)
  subst hE
  refine vx_catch (name := "java/lang/IndexOutOfBoundsException") hown [] ⟨0, 10, 13, 19⟩ [⟨0, 10, 17, 25⟩, ⟨0, 10, 21, 13⟩] htab (fun z h => by cases h) (by decide) (by decide) (hts (.classLink RL 19 "java/lang/IndexOutOfBoundsException") (by decide +kernel)) (va_Nw.use rfl (hG.1.2.2.1 _ (by decide))) hcell hv hcl ?_
  refine W.eq (g2 := F0 m 13 ls [.ref q9]) rfl ?_
  have hP : va_P (dC, dI) vwCl [] H1 := fun k q h => by simp at h
  have hD : va_D A [] := ⟨fun i j p q h => by simp at h, fun k q h => by simp at h⟩
  generalize H1 = H at hP hS ⊢
  refine lv_astore (lv' := [(4, .ref q9), (0, .ref x), (1, .int p0), (2, .int p1), (3, .ref ho)]) hx hb dL_poke_13 hl (by decide) rfl (fun ls hl => ?_)
  refine lv_iconst (v := 1) hx hb dL_poke_15 (by decide) ?_
  have hP := hP.sub (ws' := []) [] rfl
  have hD := hD.sub (ws' := []) [] (by decide) rfl
  have hK := hK.sub (tys' := []) [] rfl
  exact W.iret hx hb hr (fun t ht hW => ⟨⟨_, (), rfl, rfl, by rw [ht]; exact hP, va_K.moved hW.alike hK, hD⟩, hS.F ht⟩) hS.2.2 dL_poke_16

set_option maxHeartbeats 4000000 in
set_option maxRecDepth 100000 in
theorem k_X9_poke_2 (l : Launch) (dC : Nat → ClassId) (dI : Nat → Nat → Nat) (mo : Nat) (p0 : Int32) (p1 : Int32) (m_disk : Nat) (P : Nat) (m_tape : Nat) (m_slots : Nat) (m_leaves : Nat) (m_fresh : Nat) (m_digestAt : Nat) (m_isGroup : Nat) (m_counts : Nat) (m_versionRow : Nat) (m_state : Nat) (m_names : Nat) (m_keptRow : Nat) (m_inSlot : Nat) (m_inAt : Nat) (m_inSize : Nat) (m_inDigest : Nat) (sz : Nat) (hf0 : 0 ≤ p0) (hf1 : (8224 + (26 * (nI P))) - 1 < p0) : Met l yX9_poke wsX9_poke ({ frames := 1, cells := 0, slots := 0, locals := 22 }) (va_Pc [.ref mo, .int p0, .int p1] (fun U => U.heap.size = sz ∧ va_P (dC, dI) vwCl [(mo, .inr (11, [.ref m_disk, .int (nI P), .int ((8224 : Int32) + ((26 : Int32) * (nI P))), .int (1 : Int32), .int 0, .int (-1 : Int32), .int 0, .int (0 : Int32), .ref m_tape, .int 0, .ref m_slots, .ref m_leaves, .int 0, .int 0, .ref m_fresh, .int 0, .int 0, .int 0, .ref m_digestAt, .ref m_isGroup, .ref m_counts, .int 0, .int 0, .long 0, .int 0, .ref m_versionRow, .int 0, .long 0, .ref m_state, .ref m_names, .int 0, .ref m_keptRow, .int 0, .ref m_inSlot, .ref m_inAt, .ref m_inSize, .ref m_inDigest, .int 0]))] U.heap ∧ va_K (dC, dI) vwCl [] U ∧ va_D (fun _ => True) [(mo, .inr (11, [.ref m_disk, .int (nI P), .int ((8224 : Int32) + ((26 : Int32) * (nI P))), .int (1 : Int32), .int 0, .int (-1 : Int32), .int 0, .int (0 : Int32), .ref m_tape, .int 0, .ref m_slots, .ref m_leaves, .int 0, .int 0, .ref m_fresh, .int 0, .int 0, .int 0, .ref m_digestAt, .ref m_isGroup, .ref m_counts, .int 0, .int 0, .long 0, .int 0, .ref m_versionRow, .int 0, .long 0, .ref m_state, .ref m_names, .int 0, .ref m_keptRow, .int 0, .ref m_inSlot, .ref m_inAt, .ref m_inSize, .ref m_inDigest, .int 0]))])) (va_Qi (fun r (_ : Unit) => r = (0 : Int32)) (fun (_ : Unit) t => va_P (dC, dI) vwCl [(mo, .inr (11, [.ref m_disk, .int (nI P), .int ((8224 : Int32) + ((26 : Int32) * (nI P))), .int (1 : Int32), .int 0, .int (-1 : Int32), .int 0, .int (0 : Int32), .ref m_tape, .int 0, .ref m_slots, .ref m_leaves, .int 0, .int (1 : Int32), .ref m_fresh, .int 0, .int 0, .int 0, .ref m_digestAt, .ref m_isGroup, .ref m_counts, .int 0, .int 0, .long 0, .int 0, .ref m_versionRow, .int 0, .long 0, .ref m_state, .ref m_names, .int 0, .ref m_keptRow, .int 0, .ref m_inSlot, .ref m_inAt, .ref m_inSize, .ref m_inDigest, .int 0]))] t.heap ∧ va_K (dC, dI) vwCl [] t ∧ va_D (va_A [(mo, .inr (11, [.ref m_disk, .int (nI P), .int ((8224 : Int32) + ((26 : Int32) * (nI P))), .int (1 : Int32), .int 0, .int (-1 : Int32), .int 0, .int (0 : Int32), .ref m_tape, .int 0, .ref m_slots, .ref m_leaves, .int 0, .int 0, .ref m_fresh, .int 0, .int 0, .int 0, .ref m_digestAt, .ref m_isGroup, .ref m_counts, .int 0, .int 0, .long 0, .int 0, .ref m_versionRow, .int 0, .long 0, .ref m_state, .ref m_names, .int 0, .ref m_keptRow, .int 0, .ref m_inSlot, .ref m_inAt, .ref m_inSize, .ref m_inDigest, .int 0]))] sz) [(mo, .inr (11, [.ref m_disk, .int (nI P), .int ((8224 : Int32) + ((26 : Int32) * (nI P))), .int (1 : Int32), .int 0, .int (-1 : Int32), .int 0, .int (0 : Int32), .ref m_tape, .int 0, .ref m_slots, .ref m_leaves, .int 0, .int (1 : Int32), .ref m_fresh, .int 0, .int 0, .int 0, .ref m_digestAt, .ref m_isGroup, .ref m_counts, .int 0, .int 0, .long 0, .int 0, .ref m_versionRow, .int 0, .long 0, .ref m_state, .ref m_names, .int 0, .ref m_keptRow, .int 0, .ref m_inSlot, .ref m_inAt, .ref m_inSize, .ref m_inDigest, .int 0]))]) (va_A [(mo, .inr (11, [.ref m_disk, .int (nI P), .int ((8224 : Int32) + ((26 : Int32) * (nI P))), .int (1 : Int32), .int 0, .int (-1 : Int32), .int 0, .int (0 : Int32), .ref m_tape, .int 0, .ref m_slots, .ref m_leaves, .int 0, .int 0, .ref m_fresh, .int 0, .int 0, .int 0, .ref m_digestAt, .ref m_isGroup, .ref m_counts, .int 0, .int 0, .long 0, .int 0, .ref m_versionRow, .int 0, .long 0, .ref m_state, .ref m_names, .int 0, .ref m_keptRow, .int 0, .ref m_inSlot, .ref m_inAt, .ref m_inSize, .ref m_inDigest, .int 0]))] sz)) 0 0 (va_A [(mo, .inr (11, [.ref m_disk, .int (nI P), .int ((8224 : Int32) + ((26 : Int32) * (nI P))), .int (1 : Int32), .int 0, .int (-1 : Int32), .int 0, .int (0 : Int32), .ref m_tape, .int 0, .ref m_slots, .ref m_leaves, .int 0, .int 0, .ref m_fresh, .int 0, .int 0, .int 0, .ref m_digestAt, .ref m_isGroup, .ref m_counts, .int 0, .int 0, .long 0, .int 0, .ref m_versionRow, .int 0, .long 0, .ref m_state, .ref m_names, .int 0, .ref m_keptRow, .int 0, .ref m_inSlot, .ref m_inAt, .ref m_inSize, .ref m_inDigest, .int 0]))] sz) := by
  refine Met.ofW (cc := cX9_poke) (maxL := 3) (ret := (some .int)) (by decide) rfl ?_
  intro p e s m args below meth c s₁ B hml hv
  obtain ⟨rfl, hsz, hP, hK, hD0⟩ := hv
  have hx := B.exec
  have hb := B.bytes
  have hr := B.returns
  have hts := atoms_spec (ws := wsX9_poke) B.pre
  have hown : s.vm.findClass RX9 = some m.cls := findClass_of_methodNamed B.named
  have hlocks := B.notSynchronized
  subst hsz
  have hD := hD0.self (sz := s.heap.size)
  generalize hAe : va_A [(mo, .inr (11, [.ref m_disk, .int (nI P), .int ((8224 : Int32) + ((26 : Int32) * (nI P))), .int (1 : Int32), .int 0, .int (-1 : Int32), .int 0, .int (0 : Int32), .ref m_tape, .int 0, .ref m_slots, .ref m_leaves, .int 0, .int 0, .ref m_fresh, .int 0, .int 0, .int 0, .ref m_digestAt, .ref m_isGroup, .ref m_counts, .int 0, .int 0, .long 0, .int 0, .ref m_versionRow, .int 0, .long 0, .ref m_state, .ref m_names, .int 0, .ref m_keptRow, .int 0, .ref m_inSlot, .ref m_inAt, .ref m_inSize, .ref m_inDigest, .int 0]))] s.heap.size = A at hD ⊢
  have hA : ∀ q : Nat, s.heap.size ≤ q → A q := fun q h => by rw [← hAe]; exact Or.inr h
  have hS : va_S A s.heap s.heap [] := va_S.rf
  have hl := lv_entry ([.ref mo, .int p0, .int p1]) (n := 3) (Nat.le_of_ble_eq_true rfl)
  rw [lg_entry_eq]
  generalize (lg_sl ([.ref mo, .int p0, .int p1]) ++ List.replicate (3 - (lg_sl ([.ref mo, .int p0, .int p1])).length) Slot.unset).toArray = ls at hl ⊢
  have hl : lv_has ls 3 [(0, .ref mo), (1, .int p0), (2, .int p1)] := hl
  refine lv_aload_n hx hb dX9_poke_0 rfl (lv_at hl 0 rfl) ?_
  refine lv_iload_n hx hb dX9_poke_1 rfl (lv_at hl 1 rfl) ?_
  refine lv_iconst (v := 0) hx hb dX9_poke_2 (by decide) ?_
  refine lv_aload_n hx hb dX9_poke_3 rfl (lv_at hl 0 rfl) ?_
  refine va_get (D := (dC, dI)) (ci := 11) (v := .int ((8224 : Int32) + ((26 : Int32) * (nI P)))) (C := RX9) (T := TX9) (N := 38) hx hb hts (by decide +kernel) hown hK hP 0 rfl rfl 2 (by decide) (hts (.fieldLink RX9 66 "BlockLogModel" "size" "I") (by decide +kernel)) (fun _ h9 => h9) rfl dX9_poke_4 ?_
  refine lv_iconst (v := 1) hx hb dX9_poke_7 (by decide) ?_
  refine lv_isub hx hb dX9_poke_8 ?_
  have hPc := hP.sub (ws' := []) [] rfl
  have hKc := hK.sub (tys' := []) [] rfl
  refine vp_callSi (va_Run.run (va_runS (As := [.int p0, .int (0 : Int32), .int (((8224 : Int32) + ((26 : Int32) * (nI P))) - (1 : Int32))]) (rest := [.ref mo]) ⟨hx, hb, hml, hown, hts⟩ (k_X9_within_2 l dC dI p0 (0 : Int32) (((8224 : Int32) + ((26 : Int32) * (nI P))) - (1 : Int32)) hf0 hf1) (va_cwS 3 hts gX9_poke_X9_within rfl rfl rfl (by decide +kernel) ⟨Nat.le_of_ble_eq_true rfl, Nat.le_of_ble_eq_true rfl⟩) ⟨fun a U g mk q => by obtain ⟨q0, qP, qK⟩ := q; exact ⟨q0, qP, va_K.moved (u := U) (U := U.calling g mk a) (Vm.Alike.refl U.vm) qK⟩, fun U hU hW => ⟨rfl, by rw [hU]; exact hPc, va_K.moved hW.alike hKc⟩⟩ rfl rfl hl.1 rfl (lv_room (Nat.le_of_ble_eq_true rfl)) dX9_poke_9 ⟨Nat.le_of_ble_eq_true rfl, Nat.le_of_ble_eq_true rfl⟩)) (fun r_1 er_1 => ?_)
  subst er_1
  refine lv_if_ne (tgt := 19) hx hb dX9_poke_12 (by decide) (fun c_2 => ?_) (fun c_2 => ?_)
  · skip
    exact absurd (by decide) c_2
  · skip
    refine lv_iconst (v := 1) hx hb dX9_poke_15 (by decide) ?_
    refine lv_goto (tgt := 46) hx hb dX9_poke_16 (by decide) ?_
    refine va_put (D := (dC, dI)) (ci := 11) (v := .int (1 : Int32)) (ty := .int) (C := RX9) (T := TX9) (N := 38) hx hb hts (by decide +kernel) tyX9 tyX9_ok nmX9 hown hK hP hD hS 0 rfl rfl 13 (by decide) (hts (.fieldLink RX9 91 "BlockLogModel" "thrown" "I") (by decide +kernel)) (fun _ h9 => h9) rfl (by decide +kernel) rfl rfl (Nat.le_of_ble_eq_true rfl) dX9_poke_46 (fun H locs hP hD hS => ?_)
    have hP : va_P (dC, dI) vwCl [(mo, .inr (11, [.ref m_disk, .int (nI P), .int ((8224 : Int32) + ((26 : Int32) * (nI P))), .int (1 : Int32), .int 0, .int (-1 : Int32), .int 0, .int (0 : Int32), .ref m_tape, .int 0, .ref m_slots, .ref m_leaves, .int 0, .int (1 : Int32), .ref m_fresh, .int 0, .int 0, .int 0, .ref m_digestAt, .ref m_isGroup, .ref m_counts, .int 0, .int 0, .long 0, .int 0, .ref m_versionRow, .int 0, .long 0, .ref m_state, .ref m_names, .int 0, .ref m_keptRow, .int 0, .ref m_inSlot, .ref m_inAt, .ref m_inSize, .ref m_inDigest, .int 0]))] H := hP
    have hD : va_D A [(mo, .inr (11, [.ref m_disk, .int (nI P), .int ((8224 : Int32) + ((26 : Int32) * (nI P))), .int (1 : Int32), .int 0, .int (-1 : Int32), .int 0, .int (0 : Int32), .ref m_tape, .int 0, .ref m_slots, .ref m_leaves, .int 0, .int (1 : Int32), .ref m_fresh, .int 0, .int 0, .int 0, .ref m_digestAt, .ref m_isGroup, .ref m_counts, .int 0, .int 0, .long 0, .int 0, .ref m_versionRow, .int 0, .long 0, .ref m_state, .ref m_names, .int 0, .ref m_keptRow, .int 0, .ref m_inSlot, .ref m_inAt, .ref m_inSize, .ref m_inDigest, .int 0]))] := hD
    refine lv_aload_n hx hb dX9_poke_49 rfl (lv_at hl 0 rfl) ?_
    refine va_get (D := (dC, dI)) (ci := 11) (v := .int (1 : Int32)) (C := RX9) (T := TX9) (N := 38) hx hb hts (by decide +kernel) hown hK hP 0 rfl rfl 13 (by decide) (hts (.fieldLink RX9 91 "BlockLogModel" "thrown" "I") (by decide +kernel)) (fun _ h9 => h9) rfl dX9_poke_50 ?_
    refine lv_if_le (tgt := 58) hx hb dX9_poke_53 (by decide) (fun c_3 => ?_) (fun c_3 => ?_)
    · skip
      exact absurd c_3 (by decide)
    · skip
      refine lv_iconst (v := 0) hx hb dX9_poke_56 (by decide) ?_
      have hP := hP.sub (ws' := [(mo, .inr (11, [.ref m_disk, .int (nI P), .int ((8224 : Int32) + ((26 : Int32) * (nI P))), .int (1 : Int32), .int 0, .int (-1 : Int32), .int 0, .int (0 : Int32), .ref m_tape, .int 0, .ref m_slots, .ref m_leaves, .int 0, .int (1 : Int32), .ref m_fresh, .int 0, .int 0, .int 0, .ref m_digestAt, .ref m_isGroup, .ref m_counts, .int 0, .int 0, .long 0, .int 0, .ref m_versionRow, .int 0, .long 0, .ref m_state, .ref m_names, .int 0, .ref m_keptRow, .int 0, .ref m_inSlot, .ref m_inAt, .ref m_inSize, .ref m_inDigest, .int 0]))]) [0] rfl
      have hD := hD.sub (ws' := [(mo, .inr (11, [.ref m_disk, .int (nI P), .int ((8224 : Int32) + ((26 : Int32) * (nI P))), .int (1 : Int32), .int 0, .int (-1 : Int32), .int 0, .int (0 : Int32), .ref m_tape, .int 0, .ref m_slots, .ref m_leaves, .int 0, .int (1 : Int32), .ref m_fresh, .int 0, .int 0, .int 0, .ref m_digestAt, .ref m_isGroup, .ref m_counts, .int 0, .int 0, .long 0, .int 0, .ref m_versionRow, .int 0, .long 0, .ref m_state, .ref m_names, .int 0, .ref m_keptRow, .int 0, .ref m_inSlot, .ref m_inAt, .ref m_inSize, .ref m_inDigest, .int 0]))]) [0] (by decide) rfl
      have hK := hK.sub (tys' := []) [] rfl
      exact W.iret hx hb hr (fun t ht hW => ⟨⟨_, (), rfl, rfl, by rw [ht]; exact hP, va_K.moved hW.alike hK, hD⟩, hS.F ht⟩) hS.2.2 dX9_poke_57

set_option maxHeartbeats 4000000 in
set_option maxRecDepth 100000 in
theorem k_X8_demandPlace_3 (l : Launch) (dC : Nat → ClassId) (dI : Nat → Nat → Nat) (x : Nat) (p0 : Int32) (ds : Nat) (tp : Nat) (rr : Nat) (so : Nat) (pu : Nat) (sn : Nat) (im : Nat) (cs : Nat) (cl : Nat) (pg : Int32) (dl : Nat) (dr : Nat) (dt : Nat) (hf0 : 0 ≤ p0) (hf1 : p0 < 8224 + (26 * pg)) : Met l yX8_demandPlace wsX8_demandPlace ({ frames := 0, cells := 0, slots := 0, locals := 0 }) (va_Pc [.ref x, .int p0] (fun U => va_P (dC, dI) vwCl [(x, .inr (10, [.ref tp, .ref ds, .ref rr, .ref so, .ref pu, .ref sn, .ref im, .ref cs, .ref cl, .int (0 : Int32)])), (ds, .inr (3, [.int pg, .ref dl, .ref dr, .ref dt, .int (1 : Int32), .int (-1 : Int32), .int (0 : Int32)]))] U.heap ∧ va_K (dC, dI) vwCl [] U ∧ gx_W U)) (va_Sv (fun r => True)) 0 0 (fun _ => False) := by
  refine Met.ofW (cc := cX8_demandPlace) (maxL := 2) (ret := none) (by decide) rfl ?_
  intro p e s m args below meth c s₁ B hml hv
  obtain ⟨rfl, hP, hK, hG⟩ := hv
  have hx := B.exec
  have hb := B.bytes
  have hr := B.returns
  have hts := atoms_spec (ws := wsX8_demandPlace) B.pre
  have hown : s.vm.findClass RX8 = some m.cls := findClass_of_methodNamed B.named
  have hlocks := B.notSynchronized
  have hl := lv_entry ([.ref x, .int p0]) (n := 2) (Nat.le_of_ble_eq_true rfl)
  rw [lg_entry_eq]
  generalize (lg_sl ([.ref x, .int p0]) ++ List.replicate (2 - (lg_sl ([.ref x, .int p0])).length) Slot.unset).toArray = ls at hl ⊢
  have hl : lv_has ls 2 [(0, .ref x), (1, .int p0)] := hl
  refine lv_iload_n hx hb dX8_demandPlace_0 rfl (lv_at hl 1 rfl) ?_
  refine lv_if_lt (tgt := 22) hx hb dX8_demandPlace_1 (by decide) (fun c_1 => ?_) (fun c_1 => ?_)
  · skip
    exact absurd c_1 (Int32.not_lt.mpr hf0)
  · skip
    refine lv_iload_n hx hb dX8_demandPlace_4 rfl (lv_at hl 1 rfl) ?_
    refine lv_sipush (v := 8224) hx hb dX8_demandPlace_5 (by decide) ?_
    refine lv_bipush (v := 26) hx hb dX8_demandPlace_8 (by decide) ?_
    refine lv_aload_n hx hb dX8_demandPlace_10 rfl (lv_at hl 0 rfl) ?_
    refine va_get (D := (dC, dI)) (ci := 10) (v := .ref ds) (C := RX8) (T := TX8) (N := 10) hx hb hts (by decide +kernel) hown hK hP 0 rfl rfl 1 (by decide) (hts (.fieldLink RX8 22 "BlockLog" "disk" "LBlockLog$Disk;") (by decide +kernel)) (fun _ h9 => h9) rfl dX8_demandPlace_11 ?_
    refine va_getN (D := (dC, dI)) (ci := 3) (v := .int pg) (C := RX1) (T := TX1) (N := 7) hx hb hts (by decide +kernel) hown hK hP 1 rfl rfl 0 (by decide) (va_Nw.use rfl (hG.1 ("BlockLog", 118, "BlockLog$Disk", "pageCount", "I", "BlockLog") (by decide +kernel))) (fun _ h9 => h9) rfl dX8_demandPlace_14 ?_
    refine lv_imul hx hb dX8_demandPlace_17 ?_
    refine lv_iadd hx hb dX8_demandPlace_18 ?_
    refine lv_icmp_lt (tgt := 33) hx hb dX8_demandPlace_19 (by decide) (fun c_2 => ?_) (fun c_2 => ?_)
    · skip
      exact W.vret hx hb hr (fun t ht hW => ⟨rfl, trivial, ht⟩) (fun q h => by cases h) dX8_demandPlace_33
    · skip
      exact absurd hf1 c_2

set_option maxHeartbeats 4000000 in
set_option maxRecDepth 100000 in
theorem k_X8_poke_3 (l : Launch) (hl0 : l.stackTraces = false) (dC : Nat → ClassId) (dI : Nat → Nat → Nat) (x : Nat) (p0 : Int32) (p1 : Int32) (ds : Nat) (tp : Nat) (rr : Nat) (so : Nat) (pu : Nat) (sn : Nat) (im : Nat) (cs : Nat) (cl : Nat) (pg : Int32) (dl : Nat) (dr : Nat) (dt : Nat) (sz : Nat) (hf0 : 0 ≤ p0) (hf1 : p0 < 8224 + (26 * pg)) : vx_Met l yX8_poke wsX8_poke ({ frames := 6, cells := 1, slots := 6, locals := 90 }) (va_Pc [.ref x, .int p0, .int p1] (fun U => U.heap.size = sz ∧ va_P (dC, dI) vwCl [(x, .inr (10, [.ref tp, .ref ds, .ref rr, .ref so, .ref pu, .ref sn, .ref im, .ref cs, .ref cl, .int (0 : Int32)])), (ds, .inr (3, [.int pg, .ref dl, .ref dr, .ref dt, .int (1 : Int32), .int (-1 : Int32), .int (0 : Int32)]))] U.heap ∧ va_K (dC, dI) vwCl [] U ∧ va_D (fun _ => True) [(x, .inr (10, [.ref tp, .ref ds, .ref rr, .ref so, .ref pu, .ref sn, .ref im, .ref cs, .ref cl, .int (0 : Int32)])), (ds, .inr (3, [.int pg, .ref dl, .ref dr, .ref dt, .int (1 : Int32), .int (-1 : Int32), .int (0 : Int32)]))] ∧ gx_E (va_A [(x, .inr (10, [.ref tp, .ref ds, .ref rr, .ref so, .ref pu, .ref sn, .ref im, .ref cs, .ref cl, .int (0 : Int32)])), (ds, .inr (3, [.int pg, .ref dl, .ref dr, .ref dt, .int (1 : Int32), .int (-1 : Int32), .int (0 : Int32)]))] sz) U)) (va_Qi (fun (_ : Int32) (_ : Unit) => False) (fun _ _ => True) (va_A [(x, .inr (10, [.ref tp, .ref ds, .ref rr, .ref so, .ref pu, .ref sn, .ref im, .ref cs, .ref cl, .int (0 : Int32)])), (ds, .inr (3, [.int pg, .ref dl, .ref dr, .ref dt, .int (1 : Int32), .int (-1 : Int32), .int (0 : Int32)]))] sz)) (vx_X (fun _ : Unit => True) (fun E _ _ => E = "java/lang/IllegalStateException") (va_A [(x, .inr (10, [.ref tp, .ref ds, .ref rr, .ref so, .ref pu, .ref sn, .ref im, .ref cs, .ref cl, .int (0 : Int32)])), (ds, .inr (3, [.int pg, .ref dl, .ref dr, .ref dt, .int (1 : Int32), .int (-1 : Int32), .int (0 : Int32)]))] sz)) 1 6 (va_A [(x, .inr (10, [.ref tp, .ref ds, .ref rr, .ref so, .ref pu, .ref sn, .ref im, .ref cs, .ref cl, .int (0 : Int32)])), (ds, .inr (3, [.int pg, .ref dl, .ref dr, .ref dt, .int (1 : Int32), .int (-1 : Int32), .int (0 : Int32)]))] sz) := by
  refine vx_ofW (cc := cX8_poke) (maxL := 4) (ret := (some .int)) (by decide) rfl ?_
  intro p e s m args below meth c s₁ B hml hno hv
  obtain ⟨rfl, hsz, hP, hK, hD0, hG⟩ := hv
  have hx := B.exec
  have hb := B.bytes
  have hr := B.returns
  have hts := atoms_spec (ws := wsX8_poke) B.pre
  have hown : s.vm.findClass RX8 = some m.cls := findClass_of_methodNamed B.named
  have hlocks := B.notSynchronized
  subst hsz
  have hD := hD0.self (sz := s.heap.size)
  generalize hAe : va_A [(x, .inr (10, [.ref tp, .ref ds, .ref rr, .ref so, .ref pu, .ref sn, .ref im, .ref cs, .ref cl, .int (0 : Int32)])), (ds, .inr (3, [.int pg, .ref dl, .ref dr, .ref dt, .int (1 : Int32), .int (-1 : Int32), .int (0 : Int32)]))] s.heap.size = A at hD hG ⊢
  have hA : ∀ q : Nat, s.heap.size ≤ q → A q := fun q h => by rw [← hAe]; exact Or.inr h
  have hS : va_S A s.heap s.heap [] := va_S.rf
  have hl := lv_entry ([.ref x, .int p0, .int p1]) (n := 4) (Nat.le_of_ble_eq_true rfl)
  rw [lg_entry_eq]
  generalize (lg_sl ([.ref x, .int p0, .int p1]) ++ List.replicate (4 - (lg_sl ([.ref x, .int p0, .int p1])).length) Slot.unset).toArray = ls at hl ⊢
  have hl : lv_has ls 4 [(0, .ref x), (1, .int p0), (2, .int p1)] := hl
  refine lv_aload_n hx hb dX8_poke_0 rfl (lv_at hl 0 rfl) ?_
  refine lv_iload_n hx hb dX8_poke_1 rfl (lv_at hl 1 rfl) ?_
  have hPc := hP.sub (ws' := [(x, .inr (10, [.ref tp, .ref ds, .ref rr, .ref so, .ref pu, .ref sn, .ref im, .ref cs, .ref cl, .int (0 : Int32)])), (ds, .inr (3, [.int pg, .ref dl, .ref dr, .ref dt, .int (1 : Int32), .int (-1 : Int32), .int (0 : Int32)]))]) [0, 1] rfl
  have hKc := hK.sub (tys' := []) [] rfl
  refine va_csv (va_Run.run (va_runV (As := [.int p0]) (rest := []) ⟨hx, hb, hml, hown, hts⟩ (k_X8_demandPlace_3 l dC dI x p0 ds tp rr so pu sn im cs cl pg dl dr dt hf0 hf1) (cwV 1 hts gX8_poke_X8_demandPlace rfl rfl rfl (by decide +kernel) ⟨Nat.le_of_ble_eq_true rfl, Nat.le_of_ble_eq_true rfl⟩) ⟨fun a U g mk q => by obtain ⟨q0, qP, qK, qG⟩ := q; exact ⟨q0, qP, va_K.moved (u := U) (U := U.calling g mk a) (Vm.Alike.refl U.vm) qK, qG.same rfl⟩, va_recv hK hP (ci := 10) (q := (RX8, TX8, 10)) rfl (q0 := 0) rfl, fun U hU hW => ⟨rfl, by rw [hU]; exact hPc, va_K.moved hW.alike hKc, hG.1.warm hW⟩⟩ rfl rfl hl.1 rfl (lv_room (Nat.le_of_ble_eq_true rfl)) dX8_poke_2 ⟨Nat.le_of_ble_eq_true rfl, Nat.le_of_ble_eq_true rfl⟩)) (fun _ => ?_)
  refine lv_aload_n hx hb dX8_poke_5 rfl (lv_at hl 0 rfl) ?_
  refine va_get (D := (dC, dI)) (ci := 10) (v := .ref ds) (C := RX8) (T := TX8) (N := 10) hx hb hts (by decide +kernel) hown hK hP 0 rfl rfl 1 (by decide) (hts (.fieldLink RX8 22 "BlockLog" "disk" "LBlockLog$Disk;") (by decide +kernel)) (fun _ h9 => h9) rfl dX8_poke_6 ?_
  refine va_getN (D := (dC, dI)) (ci := 3) (v := .int (1 : Int32)) (C := RX1) (T := TX1) (N := 7) hx hb hts (by decide +kernel) hown hK hP 1 rfl rfl 4 (by decide) (va_Nw.use rfl (hG.1.1 ("BlockLog", 287, "BlockLog$Disk", "powered", "Z", "BlockLog") (by decide +kernel))) (fun _ h9 => h9) rfl dX8_poke_9 ?_
  refine lv_if_eq (tgt := 26) hx hb dX8_poke_12 (by decide) (fun c_2 => ?_) (fun c_2 => ?_)
  · skip
    exact absurd c_2 (by decide)
  · skip
    obtain ⟨sa, hstr⟩ := hG.1.2.1 ("BlockLog", 302, "the power is on") (by decide +kernel)
    exact vx_throwSW (names := ["java/lang/RuntimeException", "java/lang/Exception"]) hx hb hl0 hown (by decide +kernel) (by decide +kernel) (hts (.classLink RX8 300 "java/lang/IllegalStateException") (by decide +kernel)) (hts (.initialized "java/lang/IllegalStateException") (by decide +kernel)) hstr (vx_hat (B := gx_bad "java/lang/IllegalStateException") (fun w h => hts w (List.mem_cons_of_mem _ (List.mem_append_left _ (List.mem_append_left _ (List.mem_append_right _ h))))) (by decide +kernel) (hG.1.bad (by decide))) (by decide +kernel) hG.2.1 hG.2.2.1 hS (hl.1.trans hml.symm) dX8_poke_15 dX8_poke_18 dX8_poke_19 dX8_poke_22 dX8_poke_25 (fun x h => (hno x h).elim) (Nat.le_of_ble_eq_true rfl) (Nat.le_of_ble_eq_true rfl) (Nat.le_of_ble_eq_true rfl) (Nat.le_of_ble_eq_true rfl) hlocks (fun t _ h1 h2 => ⟨(), trivial, rfl, Nat.le_trans hS.1 h1, fun q hq hn => (h2 q (Nat.lt_of_lt_of_le hq hS.1)).trans (hS.2.1 q hq hn)⟩) hS.2.2 (Nat.le_refl _) (Nat.le_refl _)

set_option maxHeartbeats 4000000 in
set_option maxRecDepth 100000 in
theorem k_L_poke_3 (l : Launch) (hl0 : l.stackTraces = false) (dC : Nat → ClassId) (dI : Nat → Nat → Nat) (x : Nat) (p0 : Int32) (p1 : Int32) (ho : Nat) (ds : Nat) (tp : Nat) (rr : Nat) (so : Nat) (pu : Nat) (sn : Nat) (im : Nat) (cs : Nat) (cl : Nat) (pg : Int32) (dl : Nat) (dr : Nat) (dt : Nat) (sz : Nat) (hf0 : 0 ≤ p0) (hf1 : p0 < 8224 + (26 * pg)) : Met l yL_poke wsL_poke ({ frames := 7, cells := 1, slots := 6, locals := 113 }) (va_Pc [.ref x, .int p0, .int p1, .ref ho] (fun U => U.heap.size = sz ∧ va_P (dC, dI) vwCl [(x, .inr (10, [.ref tp, .ref ds, .ref rr, .ref so, .ref pu, .ref sn, .ref im, .ref cs, .ref cl, .int (0 : Int32)])), (ds, .inr (3, [.int pg, .ref dl, .ref dr, .ref dt, .int (1 : Int32), .int (-1 : Int32), .int (0 : Int32)]))] U.heap ∧ va_K (dC, dI) vwCl [] U ∧ va_D (fun _ => True) [(x, .inr (10, [.ref tp, .ref ds, .ref rr, .ref so, .ref pu, .ref sn, .ref im, .ref cs, .ref cl, .int (0 : Int32)])), (ds, .inr (3, [.int pg, .ref dl, .ref dr, .ref dt, .int (1 : Int32), .int (-1 : Int32), .int (0 : Int32)]))] ∧ gx_E (va_A [(x, .inr (10, [.ref tp, .ref ds, .ref rr, .ref so, .ref pu, .ref sn, .ref im, .ref cs, .ref cl, .int (0 : Int32)])), (ds, .inr (3, [.int pg, .ref dl, .ref dr, .ref dt, .int (1 : Int32), .int (-1 : Int32), .int (0 : Int32)]))] sz) U)) (va_Qi (fun r (_ : Unit) => r = (2 : Int32)) (fun (_ : Unit) t => va_P (dC, dI) vwCl [] t.heap ∧ va_K (dC, dI) vwCl [] t ∧ va_D (va_A [(x, .inr (10, [.ref tp, .ref ds, .ref rr, .ref so, .ref pu, .ref sn, .ref im, .ref cs, .ref cl, .int (0 : Int32)])), (ds, .inr (3, [.int pg, .ref dl, .ref dr, .ref dt, .int (1 : Int32), .int (-1 : Int32), .int (0 : Int32)]))] sz) []) (va_A [(x, .inr (10, [.ref tp, .ref ds, .ref rr, .ref so, .ref pu, .ref sn, .ref im, .ref cs, .ref cl, .int (0 : Int32)])), (ds, .inr (3, [.int pg, .ref dl, .ref dr, .ref dt, .int (1 : Int32), .int (-1 : Int32), .int (0 : Int32)]))] sz)) 1 6 (va_A [(x, .inr (10, [.ref tp, .ref ds, .ref rr, .ref so, .ref pu, .ref sn, .ref im, .ref cs, .ref cl, .int (0 : Int32)])), (ds, .inr (3, [.int pg, .ref dl, .ref dr, .ref dt, .int (1 : Int32), .int (-1 : Int32), .int (0 : Int32)]))] sz) := by
  refine va_MetW (cc := cL_poke) (maxL := 5) (ret := (some .int)) (hh := [(0, 10, 13, 19), (0, 10, 17, 25), (0, 10, 21, 13)]) (by decide) rfl ?_
  intro p e s m args below meth c s₁ B hml hv
  obtain ⟨rfl, hsz, hP, hK, hD0, hG⟩ := hv
  have hx := B.exec
  have hb := B.bytes
  have hr := B.returns
  have hts := atoms_spec (ws := wsL_poke) B.pre
  have hown : s.vm.findClass RL = some m.cls := findClass_of_methodNamed B.named
  have hlocks := B.notSynchronized
  have htab := vx_table (x := yL_poke) B (hts (.codeWith yL_poke cL_poke 5 (some .int) [(0, 10, 13, 19), (0, 10, 17, 25), (0, 10, 21, 13)]) List.mem_cons_self)
  subst hsz
  have hD := hD0.self (sz := s.heap.size)
  generalize hAe : va_A [(x, .inr (10, [.ref tp, .ref ds, .ref rr, .ref so, .ref pu, .ref sn, .ref im, .ref cs, .ref cl, .int (0 : Int32)])), (ds, .inr (3, [.int pg, .ref dl, .ref dr, .ref dt, .int (1 : Int32), .int (-1 : Int32), .int (0 : Int32)]))] s.heap.size = A at hD hG ⊢
  have hA : ∀ q : Nat, s.heap.size ≤ q → A q := fun q h => by rw [← hAe]; exact Or.inr h
  have hS : va_S A s.heap s.heap [] := va_S.rf
  have hl := lv_entry ([.ref x, .int p0, .int p1, .ref ho]) (n := 5) (Nat.le_of_ble_eq_true rfl)
  rw [lg_entry_eq]
  generalize (lg_sl ([.ref x, .int p0, .int p1, .ref ho]) ++ List.replicate (5 - (lg_sl ([.ref x, .int p0, .int p1, .ref ho])).length) Slot.unset).toArray = ls at hl ⊢
  have hl : lv_has ls 5 [(0, .ref x), (1, .int p0), (2, .int p1), (3, .ref ho)] := hl
  refine lv_aload_n hx hb dL_poke_0 rfl (lv_at hl 3 rfl) ?_
  refine lv_iconst (v := 0) hx hb dL_poke_1 (by decide) ?_
  refine lv_aload_n hx hb dL_poke_2 rfl (lv_at hl 0 rfl) ?_
  refine lv_iload_n hx hb dL_poke_3 rfl (lv_at hl 1 rfl) ?_
  refine lv_iload_n hx hb dL_poke_4 rfl (lv_at hl 2 rfl) ?_
  have hPc := hP.sub (ws' := [(x, .inr (10, [.ref tp, .ref ds, .ref rr, .ref so, .ref pu, .ref sn, .ref im, .ref cs, .ref cl, .int (0 : Int32)])), (ds, .inr (3, [.int pg, .ref dl, .ref dr, .ref dt, .int (1 : Int32), .int (-1 : Int32), .int (0 : Int32)]))]) [0, 1] rfl
  have hKc := hK.sub (tys' := []) [] rfl
  have hDc := hD.sub (ws' := [(x, .inr (10, [.ref tp, .ref ds, .ref rr, .ref so, .ref pu, .ref sn, .ref im, .ref cs, .ref cl, .int (0 : Int32)])), (ds, .inr (3, [.int pg, .ref dl, .ref dr, .ref dt, .int (1 : Int32), .int (-1 : Int32), .int (0 : Int32)]))]) [0, 1] (by decide) rfl
  have hFc := va_free (wc := [(x, .inr (10, [.ref tp, .ref ds, .ref rr, .ref so, .ref pu, .ref sn, .ref im, .ref cs, .ref cl, .int (0 : Int32)])), (ds, .inr (3, [.int pg, .ref dl, .ref dr, .ref dt, .int (1 : Int32), .int (-1 : Int32), .int (0 : Int32)]))]) hD hS hA [0, 1] rfl
  refine vx_calli (vx_runV (As := [.int p0, .int p1]) (rest := [.int (0 : Int32), .ref ho]) ⟨hx, hb, hml, hown, hts⟩ (k_X8_poke_3 l hl0 dC dI x p0 p1 ds tp rr so pu sn im cs cl pg dl dr dt _ hf0 hf1) (cwV 2 hts gL_poke_X8_poke rfl rfl rfl (by decide +kernel) ⟨Nat.le_of_ble_eq_true rfl, Nat.le_of_ble_eq_true rfl⟩) ⟨fun a U g mk q => by obtain ⟨q0, q1, qP, qK, qD, qG⟩ := q; exact ⟨q0, q1, qP, va_K.moved (u := U) (U := U.calling g mk a) (Vm.Alike.refl U.vm) qK, qD, qG.same rfl rfl⟩, va_recv hK hP (ci := 10) (q := (RX8, TX8, 10)) rfl (q0 := 0) rfl, fun U hU hW => ⟨rfl, by rw [hU], by rw [hU]; exact hPc, va_K.moved hW.alike hKc, hDc.weaken (fun _ _ _ _ => trivial), hG.go hW hU hS hFc⟩⟩ rfl rfl hl.1 rfl (lv_room (Nat.le_of_ble_eq_true rfl)) dL_poke_5 ⟨Nat.le_of_ble_eq_true rfl, Nat.le_of_ble_eq_true rfl⟩) hS (fun q _ h => hFc q h) hFc (fun q _ h => hFc q h) (fun E9 ce q9 u t H1 locs1 ht hvm hp hE hz hk hS hcell hv hcl => ?_) (fun r u t H1 locs1 ht hvm hp hB hz hk hS => hp.elim)
  subst hE
  refine vx_catch (name := "java/lang/IllegalStateException") hown [⟨0, 10, 13, 19⟩] ⟨0, 10, 17, 25⟩ [⟨0, 10, 21, 13⟩] htab (fun z h => by simp only [List.mem_cons, List.not_mem_nil, or_false] at h; rcases h with rfl <;> first | exact Or.inr ⟨by decide, "java/lang/IndexOutOfBoundsException", (hts (.classLink RL 19 "java/lang/IndexOutOfBoundsException") (by decide +kernel)), hG.1.2.2.2.1 _ (by decide) _ (by decide) (by decide)⟩) (by decide) (by decide) (va_Nw.use rfl (hG.1.2.2.2.2.2.2 (25, "java/lang/IllegalStateException") (by decide +kernel))) (va_Nw.use rfl (hG.1.2.2.1 _ (by decide))) hcell hv hcl ?_
  refine W.eq (g2 := F0 m 17 ls [.ref q9]) rfl ?_
  have hP : va_P (dC, dI) vwCl [] H1 := fun k q h => by simp at h
  have hD : va_D A [] := ⟨fun i j p q h => by simp at h, fun k q h => by simp at h⟩
  generalize H1 = H at hP hS ⊢
  refine lv_astore (lv' := [(4, .ref q9), (0, .ref x), (1, .int p0), (2, .int p1), (3, .ref ho)]) hx hb dL_poke_17 hl (by decide) rfl (fun ls hl => ?_)
  refine lv_iconst (v := 2) hx hb dL_poke_19 (by decide) ?_
  have hP := hP.sub (ws' := []) [] rfl
  have hD := hD.sub (ws' := []) [] (by decide) rfl
  have hK := hK.sub (tys' := []) [] rfl
  exact W.iret hx hb hr (fun t ht hW => ⟨⟨_, (), rfl, rfl, by rw [ht]; exact hP, va_K.moved hW.alike hK, hD⟩, hS.F ht⟩) hS.2.2 dL_poke_20

set_option maxHeartbeats 4000000 in
set_option maxRecDepth 100000 in
theorem k_X9_poke_3 (l : Launch) (dC : Nat → ClassId) (dI : Nat → Nat → Nat) (mo : Nat) (p0 : Int32) (p1 : Int32) (m_disk : Nat) (P : Nat) (m_tape : Nat) (m_slots : Nat) (m_leaves : Nat) (m_fresh : Nat) (m_digestAt : Nat) (m_isGroup : Nat) (m_counts : Nat) (m_versionRow : Nat) (m_state : Nat) (m_names : Nat) (m_keptRow : Nat) (m_inSlot : Nat) (m_inAt : Nat) (m_inSize : Nat) (m_inDigest : Nat) (sz : Nat) (hf0 : 0 ≤ p0) (hf1 : p0 ≤ (8224 + (26 * (nI P))) - 1) : Met l yX9_poke wsX9_poke ({ frames := 1, cells := 0, slots := 0, locals := 22 }) (va_Pc [.ref mo, .int p0, .int p1] (fun U => U.heap.size = sz ∧ va_P (dC, dI) vwCl [(mo, .inr (11, [.ref m_disk, .int (nI P), .int ((8224 : Int32) + ((26 : Int32) * (nI P))), .int (1 : Int32), .int 0, .int (-1 : Int32), .int 0, .int (0 : Int32), .ref m_tape, .int 0, .ref m_slots, .ref m_leaves, .int 0, .int 0, .ref m_fresh, .int 0, .int 0, .int 0, .ref m_digestAt, .ref m_isGroup, .ref m_counts, .int 0, .int 0, .long 0, .int 0, .ref m_versionRow, .int 0, .long 0, .ref m_state, .ref m_names, .int 0, .ref m_keptRow, .int 0, .ref m_inSlot, .ref m_inAt, .ref m_inSize, .ref m_inDigest, .int 0]))] U.heap ∧ va_K (dC, dI) vwCl [] U ∧ va_D (fun _ => True) [(mo, .inr (11, [.ref m_disk, .int (nI P), .int ((8224 : Int32) + ((26 : Int32) * (nI P))), .int (1 : Int32), .int 0, .int (-1 : Int32), .int 0, .int (0 : Int32), .ref m_tape, .int 0, .ref m_slots, .ref m_leaves, .int 0, .int 0, .ref m_fresh, .int 0, .int 0, .int 0, .ref m_digestAt, .ref m_isGroup, .ref m_counts, .int 0, .int 0, .long 0, .int 0, .ref m_versionRow, .int 0, .long 0, .ref m_state, .ref m_names, .int 0, .ref m_keptRow, .int 0, .ref m_inSlot, .ref m_inAt, .ref m_inSize, .ref m_inDigest, .int 0]))])) (va_Qi (fun r (_ : Unit) => r = (0 : Int32)) (fun (_ : Unit) t => va_P (dC, dI) vwCl [(mo, .inr (11, [.ref m_disk, .int (nI P), .int ((8224 : Int32) + ((26 : Int32) * (nI P))), .int (1 : Int32), .int 0, .int (-1 : Int32), .int 0, .int (0 : Int32), .ref m_tape, .int 0, .ref m_slots, .ref m_leaves, .int 0, .int (2 : Int32), .ref m_fresh, .int 0, .int 0, .int 0, .ref m_digestAt, .ref m_isGroup, .ref m_counts, .int 0, .int 0, .long 0, .int 0, .ref m_versionRow, .int 0, .long 0, .ref m_state, .ref m_names, .int 0, .ref m_keptRow, .int 0, .ref m_inSlot, .ref m_inAt, .ref m_inSize, .ref m_inDigest, .int 0]))] t.heap ∧ va_K (dC, dI) vwCl [] t ∧ va_D (va_A [(mo, .inr (11, [.ref m_disk, .int (nI P), .int ((8224 : Int32) + ((26 : Int32) * (nI P))), .int (1 : Int32), .int 0, .int (-1 : Int32), .int 0, .int (0 : Int32), .ref m_tape, .int 0, .ref m_slots, .ref m_leaves, .int 0, .int 0, .ref m_fresh, .int 0, .int 0, .int 0, .ref m_digestAt, .ref m_isGroup, .ref m_counts, .int 0, .int 0, .long 0, .int 0, .ref m_versionRow, .int 0, .long 0, .ref m_state, .ref m_names, .int 0, .ref m_keptRow, .int 0, .ref m_inSlot, .ref m_inAt, .ref m_inSize, .ref m_inDigest, .int 0]))] sz) [(mo, .inr (11, [.ref m_disk, .int (nI P), .int ((8224 : Int32) + ((26 : Int32) * (nI P))), .int (1 : Int32), .int 0, .int (-1 : Int32), .int 0, .int (0 : Int32), .ref m_tape, .int 0, .ref m_slots, .ref m_leaves, .int 0, .int (2 : Int32), .ref m_fresh, .int 0, .int 0, .int 0, .ref m_digestAt, .ref m_isGroup, .ref m_counts, .int 0, .int 0, .long 0, .int 0, .ref m_versionRow, .int 0, .long 0, .ref m_state, .ref m_names, .int 0, .ref m_keptRow, .int 0, .ref m_inSlot, .ref m_inAt, .ref m_inSize, .ref m_inDigest, .int 0]))]) (va_A [(mo, .inr (11, [.ref m_disk, .int (nI P), .int ((8224 : Int32) + ((26 : Int32) * (nI P))), .int (1 : Int32), .int 0, .int (-1 : Int32), .int 0, .int (0 : Int32), .ref m_tape, .int 0, .ref m_slots, .ref m_leaves, .int 0, .int 0, .ref m_fresh, .int 0, .int 0, .int 0, .ref m_digestAt, .ref m_isGroup, .ref m_counts, .int 0, .int 0, .long 0, .int 0, .ref m_versionRow, .int 0, .long 0, .ref m_state, .ref m_names, .int 0, .ref m_keptRow, .int 0, .ref m_inSlot, .ref m_inAt, .ref m_inSize, .ref m_inDigest, .int 0]))] sz)) 0 0 (va_A [(mo, .inr (11, [.ref m_disk, .int (nI P), .int ((8224 : Int32) + ((26 : Int32) * (nI P))), .int (1 : Int32), .int 0, .int (-1 : Int32), .int 0, .int (0 : Int32), .ref m_tape, .int 0, .ref m_slots, .ref m_leaves, .int 0, .int 0, .ref m_fresh, .int 0, .int 0, .int 0, .ref m_digestAt, .ref m_isGroup, .ref m_counts, .int 0, .int 0, .long 0, .int 0, .ref m_versionRow, .int 0, .long 0, .ref m_state, .ref m_names, .int 0, .ref m_keptRow, .int 0, .ref m_inSlot, .ref m_inAt, .ref m_inSize, .ref m_inDigest, .int 0]))] sz) := by
  refine Met.ofW (cc := cX9_poke) (maxL := 3) (ret := (some .int)) (by decide) rfl ?_
  intro p e s m args below meth c s₁ B hml hv
  obtain ⟨rfl, hsz, hP, hK, hD0⟩ := hv
  have hx := B.exec
  have hb := B.bytes
  have hr := B.returns
  have hts := atoms_spec (ws := wsX9_poke) B.pre
  have hown : s.vm.findClass RX9 = some m.cls := findClass_of_methodNamed B.named
  have hlocks := B.notSynchronized
  subst hsz
  have hD := hD0.self (sz := s.heap.size)
  generalize hAe : va_A [(mo, .inr (11, [.ref m_disk, .int (nI P), .int ((8224 : Int32) + ((26 : Int32) * (nI P))), .int (1 : Int32), .int 0, .int (-1 : Int32), .int 0, .int (0 : Int32), .ref m_tape, .int 0, .ref m_slots, .ref m_leaves, .int 0, .int 0, .ref m_fresh, .int 0, .int 0, .int 0, .ref m_digestAt, .ref m_isGroup, .ref m_counts, .int 0, .int 0, .long 0, .int 0, .ref m_versionRow, .int 0, .long 0, .ref m_state, .ref m_names, .int 0, .ref m_keptRow, .int 0, .ref m_inSlot, .ref m_inAt, .ref m_inSize, .ref m_inDigest, .int 0]))] s.heap.size = A at hD ⊢
  have hA : ∀ q : Nat, s.heap.size ≤ q → A q := fun q h => by rw [← hAe]; exact Or.inr h
  have hS : va_S A s.heap s.heap [] := va_S.rf
  have hl := lv_entry ([.ref mo, .int p0, .int p1]) (n := 3) (Nat.le_of_ble_eq_true rfl)
  rw [lg_entry_eq]
  generalize (lg_sl ([.ref mo, .int p0, .int p1]) ++ List.replicate (3 - (lg_sl ([.ref mo, .int p0, .int p1])).length) Slot.unset).toArray = ls at hl ⊢
  have hl : lv_has ls 3 [(0, .ref mo), (1, .int p0), (2, .int p1)] := hl
  refine lv_aload_n hx hb dX9_poke_0 rfl (lv_at hl 0 rfl) ?_
  refine lv_iload_n hx hb dX9_poke_1 rfl (lv_at hl 1 rfl) ?_
  refine lv_iconst (v := 0) hx hb dX9_poke_2 (by decide) ?_
  refine lv_aload_n hx hb dX9_poke_3 rfl (lv_at hl 0 rfl) ?_
  refine va_get (D := (dC, dI)) (ci := 11) (v := .int ((8224 : Int32) + ((26 : Int32) * (nI P)))) (C := RX9) (T := TX9) (N := 38) hx hb hts (by decide +kernel) hown hK hP 0 rfl rfl 2 (by decide) (hts (.fieldLink RX9 66 "BlockLogModel" "size" "I") (by decide +kernel)) (fun _ h9 => h9) rfl dX9_poke_4 ?_
  refine lv_iconst (v := 1) hx hb dX9_poke_7 (by decide) ?_
  refine lv_isub hx hb dX9_poke_8 ?_
  have hPc := hP.sub (ws' := []) [] rfl
  have hKc := hK.sub (tys' := []) [] rfl
  refine vp_callSi (va_Run.run (va_runS (As := [.int p0, .int (0 : Int32), .int (((8224 : Int32) + ((26 : Int32) * (nI P))) - (1 : Int32))]) (rest := [.ref mo]) ⟨hx, hb, hml, hown, hts⟩ (k_X9_within_3 l dC dI p0 (0 : Int32) (((8224 : Int32) + ((26 : Int32) * (nI P))) - (1 : Int32)) hf0 hf1) (va_cwS 3 hts gX9_poke_X9_within rfl rfl rfl (by decide +kernel) ⟨Nat.le_of_ble_eq_true rfl, Nat.le_of_ble_eq_true rfl⟩) ⟨fun a U g mk q => by obtain ⟨q0, qP, qK⟩ := q; exact ⟨q0, qP, va_K.moved (u := U) (U := U.calling g mk a) (Vm.Alike.refl U.vm) qK⟩, fun U hU hW => ⟨rfl, by rw [hU]; exact hPc, va_K.moved hW.alike hKc⟩⟩ rfl rfl hl.1 rfl (lv_room (Nat.le_of_ble_eq_true rfl)) dX9_poke_9 ⟨Nat.le_of_ble_eq_true rfl, Nat.le_of_ble_eq_true rfl⟩)) (fun r_1 er_1 => ?_)
  subst er_1
  refine lv_if_ne (tgt := 19) hx hb dX9_poke_12 (by decide) (fun c_2 => ?_) (fun c_2 => ?_)
  · skip
    refine lv_aload_n hx hb dX9_poke_19 rfl (lv_at hl 0 rfl) ?_
    refine va_get (D := (dC, dI)) (ci := 11) (v := .int (1 : Int32)) (C := RX9) (T := TX9) (N := 38) hx hb hts (by decide +kernel) hown hK hP 0 rfl rfl 3 (by decide) (hts (.fieldLink RX9 72 "BlockLogModel" "on" "Z") (by decide +kernel)) (fun _ h9 => h9) rfl dX9_poke_20 ?_
    refine lv_if_eq (tgt := 30) hx hb dX9_poke_23 (by decide) (fun c_3 => ?_) (fun c_3 => ?_)
    · skip
      exact absurd c_3 (by decide)
    · skip
      refine lv_iconst (v := 2) hx hb dX9_poke_26 (by decide) ?_
      refine lv_goto (tgt := 46) hx hb dX9_poke_27 (by decide) ?_
      refine va_put (D := (dC, dI)) (ci := 11) (v := .int (2 : Int32)) (ty := .int) (C := RX9) (T := TX9) (N := 38) hx hb hts (by decide +kernel) tyX9 tyX9_ok nmX9 hown hK hP hD hS 0 rfl rfl 13 (by decide) (hts (.fieldLink RX9 91 "BlockLogModel" "thrown" "I") (by decide +kernel)) (fun _ h9 => h9) rfl (by decide +kernel) rfl rfl (Nat.le_of_ble_eq_true rfl) dX9_poke_46 (fun H locs hP hD hS => ?_)
      have hP : va_P (dC, dI) vwCl [(mo, .inr (11, [.ref m_disk, .int (nI P), .int ((8224 : Int32) + ((26 : Int32) * (nI P))), .int (1 : Int32), .int 0, .int (-1 : Int32), .int 0, .int (0 : Int32), .ref m_tape, .int 0, .ref m_slots, .ref m_leaves, .int 0, .int (2 : Int32), .ref m_fresh, .int 0, .int 0, .int 0, .ref m_digestAt, .ref m_isGroup, .ref m_counts, .int 0, .int 0, .long 0, .int 0, .ref m_versionRow, .int 0, .long 0, .ref m_state, .ref m_names, .int 0, .ref m_keptRow, .int 0, .ref m_inSlot, .ref m_inAt, .ref m_inSize, .ref m_inDigest, .int 0]))] H := hP
      have hD : va_D A [(mo, .inr (11, [.ref m_disk, .int (nI P), .int ((8224 : Int32) + ((26 : Int32) * (nI P))), .int (1 : Int32), .int 0, .int (-1 : Int32), .int 0, .int (0 : Int32), .ref m_tape, .int 0, .ref m_slots, .ref m_leaves, .int 0, .int (2 : Int32), .ref m_fresh, .int 0, .int 0, .int 0, .ref m_digestAt, .ref m_isGroup, .ref m_counts, .int 0, .int 0, .long 0, .int 0, .ref m_versionRow, .int 0, .long 0, .ref m_state, .ref m_names, .int 0, .ref m_keptRow, .int 0, .ref m_inSlot, .ref m_inAt, .ref m_inSize, .ref m_inDigest, .int 0]))] := hD
      refine lv_aload_n hx hb dX9_poke_49 rfl (lv_at hl 0 rfl) ?_
      refine va_get (D := (dC, dI)) (ci := 11) (v := .int (2 : Int32)) (C := RX9) (T := TX9) (N := 38) hx hb hts (by decide +kernel) hown hK hP 0 rfl rfl 13 (by decide) (hts (.fieldLink RX9 91 "BlockLogModel" "thrown" "I") (by decide +kernel)) (fun _ h9 => h9) rfl dX9_poke_50 ?_
      refine lv_if_le (tgt := 58) hx hb dX9_poke_53 (by decide) (fun c_4 => ?_) (fun c_4 => ?_)
      · skip
        exact absurd c_4 (by decide)
      · skip
        refine lv_iconst (v := 0) hx hb dX9_poke_56 (by decide) ?_
        have hP := hP.sub (ws' := [(mo, .inr (11, [.ref m_disk, .int (nI P), .int ((8224 : Int32) + ((26 : Int32) * (nI P))), .int (1 : Int32), .int 0, .int (-1 : Int32), .int 0, .int (0 : Int32), .ref m_tape, .int 0, .ref m_slots, .ref m_leaves, .int 0, .int (2 : Int32), .ref m_fresh, .int 0, .int 0, .int 0, .ref m_digestAt, .ref m_isGroup, .ref m_counts, .int 0, .int 0, .long 0, .int 0, .ref m_versionRow, .int 0, .long 0, .ref m_state, .ref m_names, .int 0, .ref m_keptRow, .int 0, .ref m_inSlot, .ref m_inAt, .ref m_inSize, .ref m_inDigest, .int 0]))]) [0] rfl
        have hD := hD.sub (ws' := [(mo, .inr (11, [.ref m_disk, .int (nI P), .int ((8224 : Int32) + ((26 : Int32) * (nI P))), .int (1 : Int32), .int 0, .int (-1 : Int32), .int 0, .int (0 : Int32), .ref m_tape, .int 0, .ref m_slots, .ref m_leaves, .int 0, .int (2 : Int32), .ref m_fresh, .int 0, .int 0, .int 0, .ref m_digestAt, .ref m_isGroup, .ref m_counts, .int 0, .int 0, .long 0, .int 0, .ref m_versionRow, .int 0, .long 0, .ref m_state, .ref m_names, .int 0, .ref m_keptRow, .int 0, .ref m_inSlot, .ref m_inAt, .ref m_inSize, .ref m_inDigest, .int 0]))]) [0] (by decide) rfl
        have hK := hK.sub (tys' := []) [] rfl
        exact W.iret hx hb hr (fun t ht hW => ⟨⟨_, (), rfl, rfl, by rw [ht]; exact hP, va_K.moved hW.alike hK, hD⟩, hS.F ht⟩) hS.2.2 dX9_poke_57
  · skip
    exact absurd c_2 (by decide)

set_option maxHeartbeats 4000000 in
set_option maxRecDepth 100000 in
theorem k_X8_byteAt_1 (l : Launch) (hl0 : l.stackTraces = false) (dC : Nat → ClassId) (dI : Nat → Nat → Nat) (x : Nat) (p0 : Int32) (tp : Nat) (ds : Nat) (rr : Nat) (so : Nat) (pu : Nat) (sn : Nat) (im : Nat) (cs : Nat) (cl : Nat) (sz : Nat) (hf0 : p0 < 0) : vx_Met l yX8_byteAt wsX8_byteAt ({ frames := 7, cells := 1, slots := 6, locals := 111 }) (va_Pc [.ref x, .int p0] (fun U => U.heap.size = sz ∧ va_P (dC, dI) vwCl [(x, .inr (10, [.ref tp, .ref ds, .ref rr, .ref so, .ref pu, .ref sn, .ref im, .ref cs, .ref cl, .int (0 : Int32)]))] U.heap ∧ va_K (dC, dI) vwCl [] U ∧ va_D (fun _ => True) [(x, .inr (10, [.ref tp, .ref ds, .ref rr, .ref so, .ref pu, .ref sn, .ref im, .ref cs, .ref cl, .int (0 : Int32)]))] ∧ gx_E (va_A [(x, .inr (10, [.ref tp, .ref ds, .ref rr, .ref so, .ref pu, .ref sn, .ref im, .ref cs, .ref cl, .int (0 : Int32)]))] sz) U)) (va_Qi (fun (_ : Int32) (_ : Unit) => False) (fun _ _ => True) (va_A [(x, .inr (10, [.ref tp, .ref ds, .ref rr, .ref so, .ref pu, .ref sn, .ref im, .ref cs, .ref cl, .int (0 : Int32)]))] sz)) (vx_X (fun _ : Unit => True) (fun E _ _ => E = "java/lang/IndexOutOfBoundsException") (va_A [(x, .inr (10, [.ref tp, .ref ds, .ref rr, .ref so, .ref pu, .ref sn, .ref im, .ref cs, .ref cl, .int (0 : Int32)]))] sz)) 1 6 (va_A [(x, .inr (10, [.ref tp, .ref ds, .ref rr, .ref so, .ref pu, .ref sn, .ref im, .ref cs, .ref cl, .int (0 : Int32)]))] sz) := by
  refine vx_ofW (cc := cX8_byteAt) (maxL := 2) (ret := (some .int)) (by decide) rfl ?_
  intro p e s m args below meth c s₁ B hml hno hv
  obtain ⟨rfl, hsz, hP, hK, hD0, hG⟩ := hv
  have hx := B.exec
  have hb := B.bytes
  have hr := B.returns
  have hts := atoms_spec (ws := wsX8_byteAt) B.pre
  have hown : s.vm.findClass RX8 = some m.cls := findClass_of_methodNamed B.named
  have hlocks := B.notSynchronized
  subst hsz
  have hD := hD0.self (sz := s.heap.size)
  generalize hAe : va_A [(x, .inr (10, [.ref tp, .ref ds, .ref rr, .ref so, .ref pu, .ref sn, .ref im, .ref cs, .ref cl, .int (0 : Int32)]))] s.heap.size = A at hD hG ⊢
  have hA : ∀ q : Nat, s.heap.size ≤ q → A q := fun q h => by rw [← hAe]; exact Or.inr h
  have hS : va_S A s.heap s.heap [] := va_S.rf
  have hl := lv_entry ([.ref x, .int p0]) (n := 2) (Nat.le_of_ble_eq_true rfl)
  rw [lg_entry_eq]
  generalize (lg_sl ([.ref x, .int p0]) ++ List.replicate (2 - (lg_sl ([.ref x, .int p0])).length) Slot.unset).toArray = ls at hl ⊢
  have hl : lv_has ls 2 [(0, .ref x), (1, .int p0)] := hl
  refine lv_aload_n hx hb dX8_byteAt_0 rfl (lv_at hl 0 rfl) ?_
  refine lv_iload_n hx hb dX8_byteAt_1 rfl (lv_at hl 1 rfl) ?_
  have hPc := hP.sub (ws' := []) [] rfl
  have hKc := hK.sub (tys' := []) [] rfl
  have hDc := hD.sub (ws' := []) [] (by decide) rfl
  have hFc := va_free (wc := []) hD hS hA [] rfl
  refine vx_callv (vx_runV (As := [.int p0]) (rest := []) ⟨hx, hb, hml, hown, hts⟩ (k_X8_demandPlace_1 l hl0 dC dI x p0 _ hf0) (cwV 1 hts gX8_byteAt_X8_demandPlace rfl rfl rfl (by decide +kernel) ⟨Nat.le_of_ble_eq_true rfl, Nat.le_of_ble_eq_true rfl⟩) ⟨fun a U g mk q => by obtain ⟨q0, q1, qP, qK, qD, qG⟩ := q; exact ⟨q0, q1, qP, va_K.moved (u := U) (U := U.calling g mk a) (Vm.Alike.refl U.vm) qK, qD, qG.same rfl rfl⟩, va_recv hK hP (ci := 10) (q := (RX8, TX8, 10)) rfl (q0 := 0) rfl, fun U hU hW => ⟨rfl, by rw [hU], by rw [hU]; exact hPc, va_K.moved hW.alike hKc, hDc.weaken (fun _ _ _ _ => trivial), hG.go hW hU hS hFc⟩⟩ rfl rfl hl.1 rfl (lv_room (Nat.le_of_ble_eq_true rfl)) dX8_byteAt_2 ⟨Nat.le_of_ble_eq_true rfl, Nat.le_of_ble_eq_true rfl⟩) hS (fun q _ h => hFc q h) hFc (fun q _ h => hFc q h) (fun E9 ce q9 u t H1 locs1 ht hvm hp hE hz hk hS hcell hv hcl => ?_) (fun u t H1 locs1 ht hvm hp hB hz hk hS => hp.elim)
  subst hE
  exact vx_out (fun x h => (hno x h).elim) hlocks hcell hv hcl (fun t ht hW => ⟨(), trivial, rfl, hS.F ht⟩) hS.2.2 (Nat.le_refl _) (Nat.le_refl _)

set_option maxHeartbeats 4000000 in
set_option maxRecDepth 100000 in
theorem k_L_byteAt_1 (l : Launch) (hl0 : l.stackTraces = false) (dC : Nat → ClassId) (dI : Nat → Nat → Nat) (x : Nat) (p0 : Int32) (ho : Nat) (tp : Nat) (ds : Nat) (rr : Nat) (so : Nat) (pu : Nat) (sn : Nat) (im : Nat) (cs : Nat) (cl : Nat) (sz : Nat) (hf0 : p0 < 0) : Met l yL_byteAt wsL_byteAt ({ frames := 8, cells := 1, slots := 6, locals := 132 }) (va_Pc [.ref x, .int p0, .ref ho] (fun U => U.heap.size = sz ∧ va_P (dC, dI) vwCl [(x, .inr (10, [.ref tp, .ref ds, .ref rr, .ref so, .ref pu, .ref sn, .ref im, .ref cs, .ref cl, .int (0 : Int32)]))] U.heap ∧ va_K (dC, dI) vwCl [] U ∧ va_D (fun _ => True) [(x, .inr (10, [.ref tp, .ref ds, .ref rr, .ref so, .ref pu, .ref sn, .ref im, .ref cs, .ref cl, .int (0 : Int32)]))] ∧ gx_E (va_A [(x, .inr (10, [.ref tp, .ref ds, .ref rr, .ref so, .ref pu, .ref sn, .ref im, .ref cs, .ref cl, .int (0 : Int32)]))] sz) U)) (va_Qi (fun r (_ : Unit) => r = (1 : Int32)) (fun (_ : Unit) t => va_P (dC, dI) vwCl [] t.heap ∧ va_K (dC, dI) vwCl [] t ∧ va_D (va_A [(x, .inr (10, [.ref tp, .ref ds, .ref rr, .ref so, .ref pu, .ref sn, .ref im, .ref cs, .ref cl, .int (0 : Int32)]))] sz) []) (va_A [(x, .inr (10, [.ref tp, .ref ds, .ref rr, .ref so, .ref pu, .ref sn, .ref im, .ref cs, .ref cl, .int (0 : Int32)]))] sz)) 1 6 (va_A [(x, .inr (10, [.ref tp, .ref ds, .ref rr, .ref so, .ref pu, .ref sn, .ref im, .ref cs, .ref cl, .int (0 : Int32)]))] sz) := by
  refine va_MetW (cc := cL_byteAt) (maxL := 4) (ret := (some .int)) (hh := [(0, 9, 12, 19)]) (by decide) rfl ?_
  intro p e s m args below meth c s₁ B hml hv
  obtain ⟨rfl, hsz, hP, hK, hD0, hG⟩ := hv
  have hx := B.exec
  have hb := B.bytes
  have hr := B.returns
  have hts := atoms_spec (ws := wsL_byteAt) B.pre
  have hown : s.vm.findClass RL = some m.cls := findClass_of_methodNamed B.named
  have hlocks := B.notSynchronized
  have htab := vx_table (x := yL_byteAt) B (hts (.codeWith yL_byteAt cL_byteAt 4 (some .int) [(0, 9, 12, 19)]) List.mem_cons_self)
  subst hsz
  have hD := hD0.self (sz := s.heap.size)
  generalize hAe : va_A [(x, .inr (10, [.ref tp, .ref ds, .ref rr, .ref so, .ref pu, .ref sn, .ref im, .ref cs, .ref cl, .int (0 : Int32)]))] s.heap.size = A at hD hG ⊢
  have hA : ∀ q : Nat, s.heap.size ≤ q → A q := fun q h => by rw [← hAe]; exact Or.inr h
  have hS : va_S A s.heap s.heap [] := va_S.rf
  have hl := lv_entry ([.ref x, .int p0, .ref ho]) (n := 4) (Nat.le_of_ble_eq_true rfl)
  rw [lg_entry_eq]
  generalize (lg_sl ([.ref x, .int p0, .ref ho]) ++ List.replicate (4 - (lg_sl ([.ref x, .int p0, .ref ho])).length) Slot.unset).toArray = ls at hl ⊢
  have hl : lv_has ls 4 [(0, .ref x), (1, .int p0), (2, .ref ho)] := hl
  refine lv_aload_n hx hb dL_byteAt_0 rfl (lv_at hl 2 rfl) ?_
  refine lv_iconst (v := 0) hx hb dL_byteAt_1 (by decide) ?_
  refine lv_aload_n hx hb dL_byteAt_2 rfl (lv_at hl 0 rfl) ?_
  refine lv_iload_n hx hb dL_byteAt_3 rfl (lv_at hl 1 rfl) ?_
  have hPc := hP.sub (ws' := [(x, .inr (10, [.ref tp, .ref ds, .ref rr, .ref so, .ref pu, .ref sn, .ref im, .ref cs, .ref cl, .int (0 : Int32)]))]) [0] rfl
  have hKc := hK.sub (tys' := []) [] rfl
  have hDc := hD.sub (ws' := [(x, .inr (10, [.ref tp, .ref ds, .ref rr, .ref so, .ref pu, .ref sn, .ref im, .ref cs, .ref cl, .int (0 : Int32)]))]) [0] (by decide) rfl
  have hFc := va_free (wc := [(x, .inr (10, [.ref tp, .ref ds, .ref rr, .ref so, .ref pu, .ref sn, .ref im, .ref cs, .ref cl, .int (0 : Int32)]))]) hD hS hA [0] rfl
  refine vx_calli (vx_runV (As := [.int p0]) (rest := [.int (0 : Int32), .ref ho]) ⟨hx, hb, hml, hown, hts⟩ (k_X8_byteAt_1 l hl0 dC dI x p0 tp ds rr so pu sn im cs cl _ hf0) (cwV 1 hts gL_byteAt_X8_byteAt rfl rfl rfl (by decide +kernel) ⟨Nat.le_of_ble_eq_true rfl, Nat.le_of_ble_eq_true rfl⟩) ⟨fun a U g mk q => by obtain ⟨q0, q1, qP, qK, qD, qG⟩ := q; exact ⟨q0, q1, qP, va_K.moved (u := U) (U := U.calling g mk a) (Vm.Alike.refl U.vm) qK, qD, qG.same rfl rfl⟩, va_recv hK hP (ci := 10) (q := (RX8, TX8, 10)) rfl (q0 := 0) rfl, fun U hU hW => ⟨rfl, by rw [hU], by rw [hU]; exact hPc, va_K.moved hW.alike hKc, hDc.weaken (fun _ _ _ _ => trivial), hG.go hW hU hS hFc⟩⟩ rfl rfl hl.1 rfl (lv_room (Nat.le_of_ble_eq_true rfl)) dL_byteAt_4 ⟨Nat.le_of_ble_eq_true rfl, Nat.le_of_ble_eq_true rfl⟩) hS (fun q _ h => hFc q h) hFc (fun q _ h => hFc q h) (fun E9 ce q9 u t H1 locs1 ht hvm hp hE hz hk hS hcell hv hcl => ?_) (fun r u t H1 locs1 ht hvm hp hB hz hk hS => hp.elim)
  subst hE
  refine vx_catch (name := "java/lang/IndexOutOfBoundsException") hown [] ⟨0, 9, 12, 19⟩ [] htab (fun z h => by cases h) (by decide) (by decide) (hts (.classLink RL 19 "java/lang/IndexOutOfBoundsException") (by decide +kernel)) (va_Nw.use rfl (hG.1.2.2.1 _ (by decide))) hcell hv hcl ?_
  refine W.eq (g2 := F0 m 12 ls [.ref q9]) rfl ?_
  have hP : va_P (dC, dI) vwCl [] H1 := fun k q h => by simp at h
  have hD : va_D A [] := ⟨fun i j p q h => by simp at h, fun k q h => by simp at h⟩
  generalize H1 = H at hP hS ⊢
  refine lv_astore_n (lv' := [(3, .ref q9), (0, .ref x), (1, .int p0), (2, .ref ho)]) hx hb dL_byteAt_12 rfl hl (by decide) rfl (fun ls hl => ?_)
  refine lv_iconst (v := 1) hx hb dL_byteAt_13 (by decide) ?_
  have hP := hP.sub (ws' := []) [] rfl
  have hD := hD.sub (ws' := []) [] (by decide) rfl
  have hK := hK.sub (tys' := []) [] rfl
  exact W.iret hx hb hr (fun t ht hW => ⟨⟨_, (), rfl, rfl, by rw [ht]; exact hP, va_K.moved hW.alike hK, hD⟩, hS.F ht⟩) hS.2.2 dL_byteAt_14
