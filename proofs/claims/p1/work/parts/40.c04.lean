set_option maxHeartbeats 4000000 in
set_option maxRecDepth 100000 in
theorem k_X9_block_2 (l : Launch) (dC : Nat → ClassId) (dI : Nat → Nat → Nat) (mo : Nat) (p0 : Int32) (w1 : Int64) (m_disk : Nat) (P : Nat) (m_tape : Nat) (m_slots : Nat) (m_leaves : Nat) (m_fresh : Nat) (m_digestAt : Nat) (m_isGroup : Nat) (m_counts : Nat) (m_versionRow : Nat) (m_state : Nat) (m_names : Nat) (m_keptRow : Nat) (m_inSlot : Nat) (m_inAt : Nat) (m_inSize : Nat) (m_inDigest : Nat) (sz : Nat) (hf0 : 1 ≤ p0) (hf1 : 1000000 < p0) : Met l yX9_block wsX9_block ({ frames := 1, cells := 0, slots := 0, locals := 22 }) (va_Pc [.ref mo, .int p0, .long w1] (fun U => U.heap.size = sz ∧ va_P (dC, dI) vwCl [(mo, .inr (11, [.ref m_disk, .int (nI P), .int ((8224 : Int32) + ((26 : Int32) * (nI P))), .int (1 : Int32), .int 0, .int (-1 : Int32), .int 0, .int (0 : Int32), .ref m_tape, .int 0, .ref m_slots, .ref m_leaves, .int 0, .int 0, .ref m_fresh, .int 0, .int 0, .int 0, .ref m_digestAt, .ref m_isGroup, .ref m_counts, .int 0, .int 0, .long 0, .int 0, .ref m_versionRow, .int 0, .long 0, .ref m_state, .ref m_names, .int 0, .ref m_keptRow, .int 0, .ref m_inSlot, .ref m_inAt, .ref m_inSize, .ref m_inDigest, .int 0]))] U.heap ∧ va_K (dC, dI) vwCl [] U ∧ va_D (fun _ => True) [(mo, .inr (11, [.ref m_disk, .int (nI P), .int ((8224 : Int32) + ((26 : Int32) * (nI P))), .int (1 : Int32), .int 0, .int (-1 : Int32), .int 0, .int (0 : Int32), .ref m_tape, .int 0, .ref m_slots, .ref m_leaves, .int 0, .int 0, .ref m_fresh, .int 0, .int 0, .int 0, .ref m_digestAt, .ref m_isGroup, .ref m_counts, .int 0, .int 0, .long 0, .int 0, .ref m_versionRow, .int 0, .long 0, .ref m_state, .ref m_names, .int 0, .ref m_keptRow, .int 0, .ref m_inSlot, .ref m_inAt, .ref m_inSize, .ref m_inDigest, .int 0]))])) (va_Qi (fun r (_ : Unit) => r = (0 : Int32)) (fun (_ : Unit) t => va_P (dC, dI) vwCl [(mo, .inr (11, [.ref m_disk, .int (nI P), .int ((8224 : Int32) + ((26 : Int32) * (nI P))), .int (1 : Int32), .int 0, .int (-1 : Int32), .int 0, .int (0 : Int32), .ref m_tape, .int 0, .ref m_slots, .ref m_leaves, .int 0, .int (2 : Int32), .ref m_fresh, .int 0, .int 0, .int 0, .ref m_digestAt, .ref m_isGroup, .ref m_counts, .int 0, .int 0, .long 0, .int 0, .ref m_versionRow, .int 0, .long 0, .ref m_state, .ref m_names, .int 0, .ref m_keptRow, .int 0, .ref m_inSlot, .ref m_inAt, .ref m_inSize, .ref m_inDigest, .int 0]))] t.heap ∧ va_K (dC, dI) vwCl [] t ∧ va_D (va_A [(mo, .inr (11, [.ref m_disk, .int (nI P), .int ((8224 : Int32) + ((26 : Int32) * (nI P))), .int (1 : Int32), .int 0, .int (-1 : Int32), .int 0, .int (0 : Int32), .ref m_tape, .int 0, .ref m_slots, .ref m_leaves, .int 0, .int 0, .ref m_fresh, .int 0, .int 0, .int 0, .ref m_digestAt, .ref m_isGroup, .ref m_counts, .int 0, .int 0, .long 0, .int 0, .ref m_versionRow, .int 0, .long 0, .ref m_state, .ref m_names, .int 0, .ref m_keptRow, .int 0, .ref m_inSlot, .ref m_inAt, .ref m_inSize, .ref m_inDigest, .int 0]))] sz) [(mo, .inr (11, [.ref m_disk, .int (nI P), .int ((8224 : Int32) + ((26 : Int32) * (nI P))), .int (1 : Int32), .int 0, .int (-1 : Int32), .int 0, .int (0 : Int32), .ref m_tape, .int 0, .ref m_slots, .ref m_leaves, .int 0, .int (2 : Int32), .ref m_fresh, .int 0, .int 0, .int 0, .ref m_digestAt, .ref m_isGroup, .ref m_counts, .int 0, .int 0, .long 0, .int 0, .ref m_versionRow, .int 0, .long 0, .ref m_state, .ref m_names, .int 0, .ref m_keptRow, .int 0, .ref m_inSlot, .ref m_inAt, .ref m_inSize, .ref m_inDigest, .int 0]))]) (va_A [(mo, .inr (11, [.ref m_disk, .int (nI P), .int ((8224 : Int32) + ((26 : Int32) * (nI P))), .int (1 : Int32), .int 0, .int (-1 : Int32), .int 0, .int (0 : Int32), .ref m_tape, .int 0, .ref m_slots, .ref m_leaves, .int 0, .int 0, .ref m_fresh, .int 0, .int 0, .int 0, .ref m_digestAt, .ref m_isGroup, .ref m_counts, .int 0, .int 0, .long 0, .int 0, .ref m_versionRow, .int 0, .long 0, .ref m_state, .ref m_names, .int 0, .ref m_keptRow, .int 0, .ref m_inSlot, .ref m_inAt, .ref m_inSize, .ref m_inDigest, .int 0]))] sz)) 0 0 (va_A [(mo, .inr (11, [.ref m_disk, .int (nI P), .int ((8224 : Int32) + ((26 : Int32) * (nI P))), .int (1 : Int32), .int 0, .int (-1 : Int32), .int 0, .int (0 : Int32), .ref m_tape, .int 0, .ref m_slots, .ref m_leaves, .int 0, .int 0, .ref m_fresh, .int 0, .int 0, .int 0, .ref m_digestAt, .ref m_isGroup, .ref m_counts, .int 0, .int 0, .long 0, .int 0, .ref m_versionRow, .int 0, .long 0, .ref m_state, .ref m_names, .int 0, .ref m_keptRow, .int 0, .ref m_inSlot, .ref m_inAt, .ref m_inSize, .ref m_inDigest, .int 0]))] sz) := by
  refine Met.ofW (cc := cX9_block) (maxL := 15) (ret := (some .int)) (by decide) rfl ?_
  intro p e s m args below meth c s₁ B hml hv
  obtain ⟨rfl, hsz, hP, hK, hD0⟩ := hv
  have hx := B.exec
  have hb := B.bytes
  have hr := B.returns
  have hts := atoms_spec (ws := wsX9_block) B.pre
  have hown : s.vm.findClass RX9 = some m.cls := findClass_of_methodNamed B.named
  have hlocks := B.notSynchronized
  subst hsz
  have hD := hD0.self (sz := s.heap.size)
  generalize hAe : va_A [(mo, .inr (11, [.ref m_disk, .int (nI P), .int ((8224 : Int32) + ((26 : Int32) * (nI P))), .int (1 : Int32), .int 0, .int (-1 : Int32), .int 0, .int (0 : Int32), .ref m_tape, .int 0, .ref m_slots, .ref m_leaves, .int 0, .int 0, .ref m_fresh, .int 0, .int 0, .int 0, .ref m_digestAt, .ref m_isGroup, .ref m_counts, .int 0, .int 0, .long 0, .int 0, .ref m_versionRow, .int 0, .long 0, .ref m_state, .ref m_names, .int 0, .ref m_keptRow, .int 0, .ref m_inSlot, .ref m_inAt, .ref m_inSize, .ref m_inDigest, .int 0]))] s.heap.size = A at hD ⊢
  have hA : ∀ q : Nat, s.heap.size ≤ q → A q := fun q h => by rw [← hAe]; exact Or.inr h
  have hS : va_S A s.heap s.heap [] := va_S.rf
  have hl := lv_entry ([.ref mo, .int p0, .long w1]) (n := 15) (Nat.le_of_ble_eq_true rfl)
  rw [lg_entry_eq]
  generalize (lg_sl ([.ref mo, .int p0, .long w1]) ++ List.replicate (15 - (lg_sl ([.ref mo, .int p0, .long w1])).length) Slot.unset).toArray = ls at hl ⊢
  have hl : lv_has ls 15 [(0, .ref mo), (1, .int p0), (2, .long w1)] := hl
  refine lv_aload_n hx hb dX9_block_0 rfl (lv_at hl 0 rfl) ?_
  refine lv_aload_n hx hb dX9_block_1 rfl (lv_at hl 0 rfl) ?_
  refine va_get (D := (dC, dI)) (ci := 11) (v := .int (1 : Int32)) (C := RX9) (T := TX9) (N := 38) hx hb hts (by decide +kernel) hown hK hP 0 rfl rfl 3 (by decide) (hts (.fieldLink RX9 72 "BlockLogModel" "on" "Z") (by decide +kernel)) (fun _ h9 => h9) rfl dX9_block_2 ?_
  refine lv_if_ne (tgt := 12) hx hb dX9_block_5 (by decide) (fun c_1 => ?_) (fun c_1 => ?_)
  · skip
    refine lv_iload_n hx hb dX9_block_12 rfl (lv_at hl 1 rfl) ?_
    refine lv_iconst (v := 1) hx hb dX9_block_13 (by decide) ?_
    refine lv_ldc hx hb hown (hts (.constant RX9 208 (1000000)) (by decide +kernel)) dX9_block_14 ?_
    have hPc := hP.sub (ws' := []) [] rfl
    have hKc := hK.sub (tys' := []) [] rfl
    refine vp_callSi (va_Run.run (va_runS (As := [.int p0, .int (1 : Int32), .int (1000000 : Int32)]) (rest := [.ref mo]) ⟨hx, hb, hml, hown, hts⟩ (k_X9_within_2 l dC dI p0 (1 : Int32) (1000000 : Int32) hf0 hf1) (va_cwS 3 hts gX9_block_X9_within rfl rfl rfl (by decide +kernel) ⟨Nat.le_of_ble_eq_true rfl, Nat.le_of_ble_eq_true rfl⟩) ⟨fun a U g mk q => by obtain ⟨q0, qP, qK⟩ := q; exact ⟨q0, qP, va_K.moved (u := U) (U := U.calling g mk a) (Vm.Alike.refl U.vm) qK⟩, fun U hU hW => ⟨rfl, by rw [hU]; exact hPc, va_K.moved hW.alike hKc⟩⟩ rfl rfl hl.1 rfl (lv_room (Nat.le_of_ble_eq_true rfl)) dX9_block_16 ⟨Nat.le_of_ble_eq_true rfl, Nat.le_of_ble_eq_true rfl⟩)) (fun r_2 er_2 => ?_)
    subst er_2
    refine lv_if_ne (tgt := 26) hx hb dX9_block_19 (by decide) (fun c_3 => ?_) (fun c_3 => ?_)
    · skip
      exact absurd (by decide) c_3
    · skip
      refine lv_iconst (v := 2) hx hb dX9_block_22 (by decide) ?_
      refine lv_goto (tgt := 27) hx hb dX9_block_23 (by decide) ?_
      refine va_put (D := (dC, dI)) (ci := 11) (v := .int (2 : Int32)) (ty := .int) (C := RX9) (T := TX9) (N := 38) hx hb hts (by decide +kernel) tyX9 tyX9_ok nmX9 hown hK hP hD hS 0 rfl rfl 13 (by decide) (hts (.fieldLink RX9 91 "BlockLogModel" "thrown" "I") (by decide +kernel)) (fun _ h9 => h9) rfl (by decide +kernel) rfl rfl (Nat.le_of_ble_eq_true rfl) dX9_block_27 (fun H locs hP hD hS => ?_)
      have hP : va_P (dC, dI) vwCl [(mo, .inr (11, [.ref m_disk, .int (nI P), .int ((8224 : Int32) + ((26 : Int32) * (nI P))), .int (1 : Int32), .int 0, .int (-1 : Int32), .int 0, .int (0 : Int32), .ref m_tape, .int 0, .ref m_slots, .ref m_leaves, .int 0, .int (2 : Int32), .ref m_fresh, .int 0, .int 0, .int 0, .ref m_digestAt, .ref m_isGroup, .ref m_counts, .int 0, .int 0, .long 0, .int 0, .ref m_versionRow, .int 0, .long 0, .ref m_state, .ref m_names, .int 0, .ref m_keptRow, .int 0, .ref m_inSlot, .ref m_inAt, .ref m_inSize, .ref m_inDigest, .int 0]))] H := hP
      have hD : va_D A [(mo, .inr (11, [.ref m_disk, .int (nI P), .int ((8224 : Int32) + ((26 : Int32) * (nI P))), .int (1 : Int32), .int 0, .int (-1 : Int32), .int 0, .int (0 : Int32), .ref m_tape, .int 0, .ref m_slots, .ref m_leaves, .int 0, .int (2 : Int32), .ref m_fresh, .int 0, .int 0, .int 0, .ref m_digestAt, .ref m_isGroup, .ref m_counts, .int 0, .int 0, .long 0, .int 0, .ref m_versionRow, .int 0, .long 0, .ref m_state, .ref m_names, .int 0, .ref m_keptRow, .int 0, .ref m_inSlot, .ref m_inAt, .ref m_inSize, .ref m_inDigest, .int 0]))] := hD
      refine lv_aload_n hx hb dX9_block_30 rfl (lv_at hl 0 rfl) ?_
      refine va_get (D := (dC, dI)) (ci := 11) (v := .int (2 : Int32)) (C := RX9) (T := TX9) (N := 38) hx hb hts (by decide +kernel) hown hK hP 0 rfl rfl 13 (by decide) (hts (.fieldLink RX9 91 "BlockLogModel" "thrown" "I") (by decide +kernel)) (fun _ h9 => h9) rfl dX9_block_31 ?_
      refine lv_if_le (tgt := 39) hx hb dX9_block_34 (by decide) (fun c_4 => ?_) (fun c_4 => ?_)
      · skip
        exact absurd c_4 (by decide)
      · skip
        refine lv_iconst (v := 0) hx hb dX9_block_37 (by decide) ?_
        have hP := hP.sub (ws' := [(mo, .inr (11, [.ref m_disk, .int (nI P), .int ((8224 : Int32) + ((26 : Int32) * (nI P))), .int (1 : Int32), .int 0, .int (-1 : Int32), .int 0, .int (0 : Int32), .ref m_tape, .int 0, .ref m_slots, .ref m_leaves, .int 0, .int (2 : Int32), .ref m_fresh, .int 0, .int 0, .int 0, .ref m_digestAt, .ref m_isGroup, .ref m_counts, .int 0, .int 0, .long 0, .int 0, .ref m_versionRow, .int 0, .long 0, .ref m_state, .ref m_names, .int 0, .ref m_keptRow, .int 0, .ref m_inSlot, .ref m_inAt, .ref m_inSize, .ref m_inDigest, .int 0]))]) [0] rfl
        have hD := hD.sub (ws' := [(mo, .inr (11, [.ref m_disk, .int (nI P), .int ((8224 : Int32) + ((26 : Int32) * (nI P))), .int (1 : Int32), .int 0, .int (-1 : Int32), .int 0, .int (0 : Int32), .ref m_tape, .int 0, .ref m_slots, .ref m_leaves, .int 0, .int (2 : Int32), .ref m_fresh, .int 0, .int 0, .int 0, .ref m_digestAt, .ref m_isGroup, .ref m_counts, .int 0, .int 0, .long 0, .int 0, .ref m_versionRow, .int 0, .long 0, .ref m_state, .ref m_names, .int 0, .ref m_keptRow, .int 0, .ref m_inSlot, .ref m_inAt, .ref m_inSize, .ref m_inDigest, .int 0]))]) [0] (by decide) rfl
        have hK := hK.sub (tys' := []) [] rfl
        exact W.iret hx hb hr (fun t ht hW => ⟨⟨_, (), rfl, rfl, by rw [ht]; exact hP, va_K.moved hW.alike hK, hD⟩, hS.F ht⟩) hS.2.2 dX9_block_38
  · skip
    exact absurd c_1 (by decide)

set_option maxHeartbeats 4000000 in
set_option maxRecDepth 100000 in
theorem k_X8_demandRow_1 (l : Launch) (hl0 : l.stackTraces = false) (dC : Nat → ClassId) (dI : Nat → Nat → Nat) (x : Nat) (p0 : Int32) (rr : Nat) (ds : Nat) (tp : Nat) (so : Nat) (pu : Nat) (sn : Nat) (im : Nat) (cs : Nat) (cl : Nat) (ri : Nat) (pg : Int32) (dl : Nat) (dr : Nat) (dt : Nat) (sz : Nat) (hf0 : p0 < 0) : vx_Met l yX8_demandRow wsX8_demandRow ({ frames := 6, cells := 1, slots := 6, locals := 90 }) (va_Pc [.ref x, .int p0] (fun U => U.heap.size = sz ∧ va_P (dC, dI) vwCl [(x, .inr (10, [.ref tp, .ref ds, .ref rr, .ref so, .ref pu, .ref sn, .ref im, .ref cs, .ref cl, .int (0 : Int32)])), (rr, .inr (6, [.ref ds, .ref ri, .int 0, .int 1, .int 0, .int 0])), (ds, .inr (3, [.int pg, .ref dl, .ref dr, .ref dt, .int (1 : Int32), .int (-1 : Int32), .int (0 : Int32)]))] U.heap ∧ va_K (dC, dI) vwCl [] U ∧ va_D (fun _ => True) [(x, .inr (10, [.ref tp, .ref ds, .ref rr, .ref so, .ref pu, .ref sn, .ref im, .ref cs, .ref cl, .int (0 : Int32)])), (rr, .inr (6, [.ref ds, .ref ri, .int 0, .int 1, .int 0, .int 0])), (ds, .inr (3, [.int pg, .ref dl, .ref dr, .ref dt, .int (1 : Int32), .int (-1 : Int32), .int (0 : Int32)]))] ∧ gx_E (va_A [(x, .inr (10, [.ref tp, .ref ds, .ref rr, .ref so, .ref pu, .ref sn, .ref im, .ref cs, .ref cl, .int (0 : Int32)])), (rr, .inr (6, [.ref ds, .ref ri, .int 0, .int 1, .int 0, .int 0])), (ds, .inr (3, [.int pg, .ref dl, .ref dr, .ref dt, .int (1 : Int32), .int (-1 : Int32), .int (0 : Int32)]))] sz) U)) (va_Qv (fun (_ : Unit) => False) (fun _ _ => True) (va_A [(x, .inr (10, [.ref tp, .ref ds, .ref rr, .ref so, .ref pu, .ref sn, .ref im, .ref cs, .ref cl, .int (0 : Int32)])), (rr, .inr (6, [.ref ds, .ref ri, .int 0, .int 1, .int 0, .int 0])), (ds, .inr (3, [.int pg, .ref dl, .ref dr, .ref dt, .int (1 : Int32), .int (-1 : Int32), .int (0 : Int32)]))] sz)) (vx_X (fun _ : Unit => True) (fun E _ _ => E = "java/lang/IndexOutOfBoundsException") (va_A [(x, .inr (10, [.ref tp, .ref ds, .ref rr, .ref so, .ref pu, .ref sn, .ref im, .ref cs, .ref cl, .int (0 : Int32)])), (rr, .inr (6, [.ref ds, .ref ri, .int 0, .int 1, .int 0, .int 0])), (ds, .inr (3, [.int pg, .ref dl, .ref dr, .ref dt, .int (1 : Int32), .int (-1 : Int32), .int (0 : Int32)]))] sz)) 1 6 (va_A [(x, .inr (10, [.ref tp, .ref ds, .ref rr, .ref so, .ref pu, .ref sn, .ref im, .ref cs, .ref cl, .int (0 : Int32)])), (rr, .inr (6, [.ref ds, .ref ri, .int 0, .int 1, .int 0, .int 0])), (ds, .inr (3, [.int pg, .ref dl, .ref dr, .ref dt, .int (1 : Int32), .int (-1 : Int32), .int (0 : Int32)]))] sz) := by
  refine vx_ofW (cc := cX8_demandRow) (maxL := 3) (ret := none) (by decide) rfl ?_
  intro p e s m args below meth c s₁ B hml hno hv
  obtain ⟨rfl, hsz, hP, hK, hD0, hG⟩ := hv
  have hx := B.exec
  have hb := B.bytes
  have hr := B.returns
  have hts := atoms_spec (ws := wsX8_demandRow) B.pre
  have hown : s.vm.findClass RX8 = some m.cls := findClass_of_methodNamed B.named
  have hlocks := B.notSynchronized
  subst hsz
  have hD := hD0.self (sz := s.heap.size)
  generalize hAe : va_A [(x, .inr (10, [.ref tp, .ref ds, .ref rr, .ref so, .ref pu, .ref sn, .ref im, .ref cs, .ref cl, .int (0 : Int32)])), (rr, .inr (6, [.ref ds, .ref ri, .int 0, .int 1, .int 0, .int 0])), (ds, .inr (3, [.int pg, .ref dl, .ref dr, .ref dt, .int (1 : Int32), .int (-1 : Int32), .int (0 : Int32)]))] s.heap.size = A at hD hG ⊢
  have hA : ∀ q : Nat, s.heap.size ≤ q → A q := fun q h => by rw [← hAe]; exact Or.inr h
  have hS : va_S A s.heap s.heap [] := va_S.rf
  have hl := lv_entry ([.ref x, .int p0]) (n := 3) (Nat.le_of_ble_eq_true rfl)
  rw [lg_entry_eq]
  generalize (lg_sl ([.ref x, .int p0]) ++ List.replicate (3 - (lg_sl ([.ref x, .int p0])).length) Slot.unset).toArray = ls at hl ⊢
  have hl : lv_has ls 3 [(0, .ref x), (1, .int p0)] := hl
  refine lv_aload_n hx hb dX8_demandRow_0 rfl (lv_at hl 0 rfl) ?_
  refine va_get (D := (dC, dI)) (ci := 10) (v := .ref ds) (C := RX8) (T := TX8) (N := 10) hx hb hts (by decide +kernel) hown hK hP 0 rfl rfl 1 (by decide) (hts (.fieldLink RX8 22 "BlockLog" "disk" "LBlockLog$Disk;") (by decide +kernel)) (fun _ h9 => h9) rfl dX8_demandRow_1 ?_
  refine va_getN (D := (dC, dI)) (ci := 3) (v := .int (1 : Int32)) (C := RX1) (T := TX1) (N := 7) hx hb hts (by decide +kernel) hown hK hP 2 rfl rfl 4 (by decide) (va_Nw.use rfl (hG.1.1 ("BlockLog", 287, "BlockLog$Disk", "powered", "Z", "BlockLog") (by decide +kernel))) (fun _ h9 => h9) rfl dX8_demandRow_4 ?_
  refine lv_if_eq (tgt := 20) hx hb dX8_demandRow_7 (by decide) (fun c_1 => ?_) (fun c_1 => ?_)
  · skip
    exact absurd c_1 (by decide)
  · skip
    refine lv_aload_n hx hb dX8_demandRow_10 rfl (lv_at hl 0 rfl) ?_
    refine va_get (D := (dC, dI)) (ci := 10) (v := .ref rr) (C := RX8) (T := TX8) (N := 10) hx hb hts (by decide +kernel) hown hK hP 0 rfl rfl 2 (by decide) (hts (.fieldLink RX8 31 "BlockLog" "rows" "LBlockLog$Rows;") (by decide +kernel)) (fun _ h9 => h9) rfl dX8_demandRow_11 ?_
    refine va_getN (D := (dC, dI)) (ci := 6) (v := .int 0) (C := RX4) (T := TX4) (N := 6) hx hb hts (by decide +kernel) hown hK hP 1 rfl rfl 4 (by decide) (va_Nw.use rfl (hG.1.1 ("BlockLog", 151, "BlockLog$Rows", "count", "I", "BlockLog") (by decide +kernel))) (fun _ h9 => h9) rfl dX8_demandRow_14 ?_
    refine lv_goto (tgt := 23) hx hb dX8_demandRow_17 (by decide) ?_
    refine lv_istore_n (lv' := [(2, .int 0), (0, .ref x), (1, .int p0)]) hx hb dX8_demandRow_23 rfl hl (by decide) rfl (fun ls hl => ?_)
    refine lv_iload_n hx hb dX8_demandRow_24 rfl (lv_at hl 2 rfl) ?_
    refine lv_if_lt (tgt := 33) hx hb dX8_demandRow_25 (by decide) (fun c_2 => ?_) (fun c_2 => ?_)
    · skip
      obtain ⟨sa, hstr⟩ := hG.1.2.1 ("BlockLog", 358, "no such row") (by decide +kernel)
      exact vx_throwSW (names := ["java/lang/RuntimeException", "java/lang/Exception"]) hx hb hl0 hown (by decide +kernel) (by decide +kernel) (hts (.classLink RX8 91 "java/lang/IndexOutOfBoundsException") (by decide +kernel)) (hts (.initialized "java/lang/IndexOutOfBoundsException") (by decide +kernel)) hstr (vx_hat (B := gx_bad "java/lang/IndexOutOfBoundsException") (fun w h => hts w (List.mem_cons_of_mem _ (List.mem_append_right _ h))) (by decide +kernel) (hG.1.bad (by decide))) (by decide +kernel) hG.2.1 hG.2.2.1 hS (hl.1.trans hml.symm) dX8_demandRow_33 dX8_demandRow_36 dX8_demandRow_37 dX8_demandRow_40 dX8_demandRow_43 (fun x h => (hno x h).elim) (Nat.le_of_ble_eq_true rfl) (Nat.le_of_ble_eq_true rfl) (Nat.le_of_ble_eq_true rfl) (Nat.le_of_ble_eq_true rfl) hlocks (fun t _ h1 h2 => ⟨(), trivial, rfl, Nat.le_trans hS.1 h1, fun q hq hn => (h2 q (Nat.lt_of_lt_of_le hq hS.1)).trans (hS.2.1 q hq hn)⟩) hS.2.2 (Nat.le_refl _) (Nat.le_refl _)
    · skip
      exact absurd hf0 c_2

set_option maxHeartbeats 4000000 in
set_option maxRecDepth 100000 in
theorem k_X8_digest_1 (l : Launch) (hl0 : l.stackTraces = false) (dC : Nat → ClassId) (dI : Nat → Nat → Nat) (x : Nat) (p0 : Int32) (rr : Nat) (ds : Nat) (tp : Nat) (so : Nat) (pu : Nat) (sn : Nat) (im : Nat) (cs : Nat) (cl : Nat) (ri : Nat) (pg : Int32) (dl : Nat) (dr : Nat) (dt : Nat) (sz : Nat) (hf0 : p0 < 0) : vx_Met l yX8_digest wsX8_digest ({ frames := 7, cells := 1, slots := 6, locals := 112 }) (va_Pc [.ref x, .int p0] (fun U => U.heap.size = sz ∧ va_P (dC, dI) vwCl [(x, .inr (10, [.ref tp, .ref ds, .ref rr, .ref so, .ref pu, .ref sn, .ref im, .ref cs, .ref cl, .int (0 : Int32)])), (rr, .inr (6, [.ref ds, .ref ri, .int 0, .int 1, .int 0, .int 0])), (ds, .inr (3, [.int pg, .ref dl, .ref dr, .ref dt, .int (1 : Int32), .int (-1 : Int32), .int (0 : Int32)]))] U.heap ∧ va_K (dC, dI) vwCl [] U ∧ va_D (fun _ => True) [(x, .inr (10, [.ref tp, .ref ds, .ref rr, .ref so, .ref pu, .ref sn, .ref im, .ref cs, .ref cl, .int (0 : Int32)])), (rr, .inr (6, [.ref ds, .ref ri, .int 0, .int 1, .int 0, .int 0])), (ds, .inr (3, [.int pg, .ref dl, .ref dr, .ref dt, .int (1 : Int32), .int (-1 : Int32), .int (0 : Int32)]))] ∧ gx_E (va_A [(x, .inr (10, [.ref tp, .ref ds, .ref rr, .ref so, .ref pu, .ref sn, .ref im, .ref cs, .ref cl, .int (0 : Int32)])), (rr, .inr (6, [.ref ds, .ref ri, .int 0, .int 1, .int 0, .int 0])), (ds, .inr (3, [.int pg, .ref dl, .ref dr, .ref dt, .int (1 : Int32), .int (-1 : Int32), .int (0 : Int32)]))] sz) U)) (va_Ql (fun (_ : Int64) (_ : Unit) => False) (fun _ _ => True) (va_A [(x, .inr (10, [.ref tp, .ref ds, .ref rr, .ref so, .ref pu, .ref sn, .ref im, .ref cs, .ref cl, .int (0 : Int32)])), (rr, .inr (6, [.ref ds, .ref ri, .int 0, .int 1, .int 0, .int 0])), (ds, .inr (3, [.int pg, .ref dl, .ref dr, .ref dt, .int (1 : Int32), .int (-1 : Int32), .int (0 : Int32)]))] sz)) (vx_X (fun _ : Unit => True) (fun E _ _ => E = "java/lang/IndexOutOfBoundsException") (va_A [(x, .inr (10, [.ref tp, .ref ds, .ref rr, .ref so, .ref pu, .ref sn, .ref im, .ref cs, .ref cl, .int (0 : Int32)])), (rr, .inr (6, [.ref ds, .ref ri, .int 0, .int 1, .int 0, .int 0])), (ds, .inr (3, [.int pg, .ref dl, .ref dr, .ref dt, .int (1 : Int32), .int (-1 : Int32), .int (0 : Int32)]))] sz)) 1 6 (va_A [(x, .inr (10, [.ref tp, .ref ds, .ref rr, .ref so, .ref pu, .ref sn, .ref im, .ref cs, .ref cl, .int (0 : Int32)])), (rr, .inr (6, [.ref ds, .ref ri, .int 0, .int 1, .int 0, .int 0])), (ds, .inr (3, [.int pg, .ref dl, .ref dr, .ref dt, .int (1 : Int32), .int (-1 : Int32), .int (0 : Int32)]))] sz) := by
  refine vx_ofW (cc := cX8_digest) (maxL := 2) (ret := (some .long)) (by decide) rfl ?_
  intro p e s m args below meth c s₁ B hml hno hv
  obtain ⟨rfl, hsz, hP, hK, hD0, hG⟩ := hv
  have hx := B.exec
  have hb := B.bytes
  have hr := B.returns
  have hts := atoms_spec (ws := wsX8_digest) B.pre
  have hown : s.vm.findClass RX8 = some m.cls := findClass_of_methodNamed B.named
  have hlocks := B.notSynchronized
  subst hsz
  have hD := hD0.self (sz := s.heap.size)
  generalize hAe : va_A [(x, .inr (10, [.ref tp, .ref ds, .ref rr, .ref so, .ref pu, .ref sn, .ref im, .ref cs, .ref cl, .int (0 : Int32)])), (rr, .inr (6, [.ref ds, .ref ri, .int 0, .int 1, .int 0, .int 0])), (ds, .inr (3, [.int pg, .ref dl, .ref dr, .ref dt, .int (1 : Int32), .int (-1 : Int32), .int (0 : Int32)]))] s.heap.size = A at hD hG ⊢
  have hA : ∀ q : Nat, s.heap.size ≤ q → A q := fun q h => by rw [← hAe]; exact Or.inr h
  have hS : va_S A s.heap s.heap [] := va_S.rf
  have hl := lv_entry ([.ref x, .int p0]) (n := 2) (Nat.le_of_ble_eq_true rfl)
  rw [lg_entry_eq]
  generalize (lg_sl ([.ref x, .int p0]) ++ List.replicate (2 - (lg_sl ([.ref x, .int p0])).length) Slot.unset).toArray = ls at hl ⊢
  have hl : lv_has ls 2 [(0, .ref x), (1, .int p0)] := hl
  refine lv_aload_n hx hb dX8_digest_0 rfl (lv_at hl 0 rfl) ?_
  refine lv_iload_n hx hb dX8_digest_1 rfl (lv_at hl 1 rfl) ?_
  have hPc := hP.sub (ws' := [(x, .inr (10, [.ref tp, .ref ds, .ref rr, .ref so, .ref pu, .ref sn, .ref im, .ref cs, .ref cl, .int (0 : Int32)])), (rr, .inr (6, [.ref ds, .ref ri, .int 0, .int 1, .int 0, .int 0])), (ds, .inr (3, [.int pg, .ref dl, .ref dr, .ref dt, .int (1 : Int32), .int (-1 : Int32), .int (0 : Int32)]))]) [0, 1, 2] rfl
  have hKc := hK.sub (tys' := []) [] rfl
  have hDc := hD.sub (ws' := [(x, .inr (10, [.ref tp, .ref ds, .ref rr, .ref so, .ref pu, .ref sn, .ref im, .ref cs, .ref cl, .int (0 : Int32)])), (rr, .inr (6, [.ref ds, .ref ri, .int 0, .int 1, .int 0, .int 0])), (ds, .inr (3, [.int pg, .ref dl, .ref dr, .ref dt, .int (1 : Int32), .int (-1 : Int32), .int (0 : Int32)]))]) [0, 1, 2] (by decide) rfl
  have hFc := va_free (wc := [(x, .inr (10, [.ref tp, .ref ds, .ref rr, .ref so, .ref pu, .ref sn, .ref im, .ref cs, .ref cl, .int (0 : Int32)])), (rr, .inr (6, [.ref ds, .ref ri, .int 0, .int 1, .int 0, .int 0])), (ds, .inr (3, [.int pg, .ref dl, .ref dr, .ref dt, .int (1 : Int32), .int (-1 : Int32), .int (0 : Int32)]))]) hD hS hA [0, 1, 2] rfl
  refine vx_callv (vx_runV (As := [.int p0]) (rest := []) ⟨hx, hb, hml, hown, hts⟩ (k_X8_demandRow_1 l hl0 dC dI x p0 rr ds tp so pu sn im cs cl ri pg dl dr dt _ hf0) (cwV 1 hts gX8_digest_X8_demandRow rfl rfl rfl (by decide +kernel) ⟨Nat.le_of_ble_eq_true rfl, Nat.le_of_ble_eq_true rfl⟩) ⟨fun a U g mk q => by obtain ⟨q0, q1, qP, qK, qD, qG⟩ := q; exact ⟨q0, q1, qP, va_K.moved (u := U) (U := U.calling g mk a) (Vm.Alike.refl U.vm) qK, qD, qG.same rfl rfl⟩, va_recv hK hP (ci := 10) (q := (RX8, TX8, 10)) rfl (q0 := 0) rfl, fun U hU hW => ⟨rfl, by rw [hU], by rw [hU]; exact hPc, va_K.moved hW.alike hKc, hDc.weaken (fun _ _ _ _ => trivial), hG.go hW hU hS hFc⟩⟩ rfl rfl hl.1 rfl (lv_room (Nat.le_of_ble_eq_true rfl)) dX8_digest_2 ⟨Nat.le_of_ble_eq_true rfl, Nat.le_of_ble_eq_true rfl⟩) hS (fun q _ h => hFc q h) hFc (fun q _ h => hFc q h) (fun E9 ce q9 u t H1 locs1 ht hvm hp hE hz hk hS hcell hv hcl => ?_) (fun u t H1 locs1 ht hvm hp hB hz hk hS => hp.elim)
  subst hE
  exact vx_out (fun x h => (hno x h).elim) hlocks hcell hv hcl (fun t ht hW => ⟨(), trivial, rfl, hS.F ht⟩) hS.2.2 (Nat.le_refl _) (Nat.le_refl _)

set_option maxHeartbeats 4000000 in
set_option maxRecDepth 100000 in
theorem k_L_digest_1 (l : Launch) (hl0 : l.stackTraces = false) (dC : Nat → ClassId) (dI : Nat → Nat → Nat) (x : Nat) (p0 : Int32) (ho : Nat) (rr : Nat) (ds : Nat) (tp : Nat) (so : Nat) (pu : Nat) (sn : Nat) (im : Nat) (cs : Nat) (cl : Nat) (ri : Nat) (pg : Int32) (dl : Nat) (dr : Nat) (dt : Nat) (sz : Nat) (hf0 : p0 < 0) : Met l yL_digest wsL_digest ({ frames := 8, cells := 1, slots := 6, locals := 133 }) (va_Pc [.ref x, .int p0, .ref ho] (fun U => U.heap.size = sz ∧ va_P (dC, dI) vwCl [(x, .inr (10, [.ref tp, .ref ds, .ref rr, .ref so, .ref pu, .ref sn, .ref im, .ref cs, .ref cl, .int (0 : Int32)])), (rr, .inr (6, [.ref ds, .ref ri, .int 0, .int 1, .int 0, .int 0])), (ds, .inr (3, [.int pg, .ref dl, .ref dr, .ref dt, .int (1 : Int32), .int (-1 : Int32), .int (0 : Int32)]))] U.heap ∧ va_K (dC, dI) vwCl [] U ∧ va_D (fun _ => True) [(x, .inr (10, [.ref tp, .ref ds, .ref rr, .ref so, .ref pu, .ref sn, .ref im, .ref cs, .ref cl, .int (0 : Int32)])), (rr, .inr (6, [.ref ds, .ref ri, .int 0, .int 1, .int 0, .int 0])), (ds, .inr (3, [.int pg, .ref dl, .ref dr, .ref dt, .int (1 : Int32), .int (-1 : Int32), .int (0 : Int32)]))] ∧ gx_E (va_A [(x, .inr (10, [.ref tp, .ref ds, .ref rr, .ref so, .ref pu, .ref sn, .ref im, .ref cs, .ref cl, .int (0 : Int32)])), (rr, .inr (6, [.ref ds, .ref ri, .int 0, .int 1, .int 0, .int 0])), (ds, .inr (3, [.int pg, .ref dl, .ref dr, .ref dt, .int (1 : Int32), .int (-1 : Int32), .int (0 : Int32)]))] sz) U)) (va_Qi (fun r (_ : Unit) => r = (1 : Int32)) (fun (_ : Unit) t => va_P (dC, dI) vwCl [] t.heap ∧ va_K (dC, dI) vwCl [] t ∧ va_D (va_A [(x, .inr (10, [.ref tp, .ref ds, .ref rr, .ref so, .ref pu, .ref sn, .ref im, .ref cs, .ref cl, .int (0 : Int32)])), (rr, .inr (6, [.ref ds, .ref ri, .int 0, .int 1, .int 0, .int 0])), (ds, .inr (3, [.int pg, .ref dl, .ref dr, .ref dt, .int (1 : Int32), .int (-1 : Int32), .int (0 : Int32)]))] sz) []) (va_A [(x, .inr (10, [.ref tp, .ref ds, .ref rr, .ref so, .ref pu, .ref sn, .ref im, .ref cs, .ref cl, .int (0 : Int32)])), (rr, .inr (6, [.ref ds, .ref ri, .int 0, .int 1, .int 0, .int 0])), (ds, .inr (3, [.int pg, .ref dl, .ref dr, .ref dt, .int (1 : Int32), .int (-1 : Int32), .int (0 : Int32)]))] sz)) 1 6 (va_A [(x, .inr (10, [.ref tp, .ref ds, .ref rr, .ref so, .ref pu, .ref sn, .ref im, .ref cs, .ref cl, .int (0 : Int32)])), (rr, .inr (6, [.ref ds, .ref ri, .int 0, .int 1, .int 0, .int 0])), (ds, .inr (3, [.int pg, .ref dl, .ref dr, .ref dt, .int (1 : Int32), .int (-1 : Int32), .int (0 : Int32)]))] sz) := by
  refine va_MetW (cc := cL_digest) (maxL := 4) (ret := (some .int)) (hh := [(0, 8, 11, 19), (0, 8, 14, 25)]) (by decide) rfl ?_
  intro p e s m args below meth c s₁ B hml hv
  obtain ⟨rfl, hsz, hP, hK, hD0, hG⟩ := hv
  have hx := B.exec
  have hb := B.bytes
  have hr := B.returns
  have hts := atoms_spec (ws := wsL_digest) B.pre
  have hown : s.vm.findClass RL = some m.cls := findClass_of_methodNamed B.named
  have hlocks := B.notSynchronized
  have htab := vx_table (x := yL_digest) B (hts (.codeWith yL_digest cL_digest 4 (some .int) [(0, 8, 11, 19), (0, 8, 14, 25)]) List.mem_cons_self)
  subst hsz
  have hD := hD0.self (sz := s.heap.size)
  generalize hAe : va_A [(x, .inr (10, [.ref tp, .ref ds, .ref rr, .ref so, .ref pu, .ref sn, .ref im, .ref cs, .ref cl, .int (0 : Int32)])), (rr, .inr (6, [.ref ds, .ref ri, .int 0, .int 1, .int 0, .int 0])), (ds, .inr (3, [.int pg, .ref dl, .ref dr, .ref dt, .int (1 : Int32), .int (-1 : Int32), .int (0 : Int32)]))] s.heap.size = A at hD hG ⊢
  have hA : ∀ q : Nat, s.heap.size ≤ q → A q := fun q h => by rw [← hAe]; exact Or.inr h
  have hS : va_S A s.heap s.heap [] := va_S.rf
  have hl := lv_entry ([.ref x, .int p0, .ref ho]) (n := 4) (Nat.le_of_ble_eq_true rfl)
  rw [lg_entry_eq]
  generalize (lg_sl ([.ref x, .int p0, .ref ho]) ++ List.replicate (4 - (lg_sl ([.ref x, .int p0, .ref ho])).length) Slot.unset).toArray = ls at hl ⊢
  have hl : lv_has ls 4 [(0, .ref x), (1, .int p0), (2, .ref ho)] := hl
  refine lv_aload_n hx hb dL_digest_0 rfl (lv_at hl 2 rfl) ?_
  refine lv_iconst (v := 0) hx hb dL_digest_1 (by decide) ?_
  refine lv_aload_n hx hb dL_digest_2 rfl (lv_at hl 0 rfl) ?_
  refine lv_iload_n hx hb dL_digest_3 rfl (lv_at hl 1 rfl) ?_
  have hPc := hP.sub (ws' := [(x, .inr (10, [.ref tp, .ref ds, .ref rr, .ref so, .ref pu, .ref sn, .ref im, .ref cs, .ref cl, .int (0 : Int32)])), (rr, .inr (6, [.ref ds, .ref ri, .int 0, .int 1, .int 0, .int 0])), (ds, .inr (3, [.int pg, .ref dl, .ref dr, .ref dt, .int (1 : Int32), .int (-1 : Int32), .int (0 : Int32)]))]) [0, 1, 2] rfl
  have hKc := hK.sub (tys' := []) [] rfl
  have hDc := hD.sub (ws' := [(x, .inr (10, [.ref tp, .ref ds, .ref rr, .ref so, .ref pu, .ref sn, .ref im, .ref cs, .ref cl, .int (0 : Int32)])), (rr, .inr (6, [.ref ds, .ref ri, .int 0, .int 1, .int 0, .int 0])), (ds, .inr (3, [.int pg, .ref dl, .ref dr, .ref dt, .int (1 : Int32), .int (-1 : Int32), .int (0 : Int32)]))]) [0, 1, 2] (by decide) rfl
  have hFc := va_free (wc := [(x, .inr (10, [.ref tp, .ref ds, .ref rr, .ref so, .ref pu, .ref sn, .ref im, .ref cs, .ref cl, .int (0 : Int32)])), (rr, .inr (6, [.ref ds, .ref ri, .int 0, .int 1, .int 0, .int 0])), (ds, .inr (3, [.int pg, .ref dl, .ref dr, .ref dt, .int (1 : Int32), .int (-1 : Int32), .int (0 : Int32)]))]) hD hS hA [0, 1, 2] rfl
  refine vx_calll (vx_runV (As := [.int p0]) (rest := [.int (0 : Int32), .ref ho]) ⟨hx, hb, hml, hown, hts⟩ (k_X8_digest_1 l hl0 dC dI x p0 rr ds tp so pu sn im cs cl ri pg dl dr dt _ hf0) (cwV 1 hts gL_digest_X8_digest rfl rfl rfl (by decide +kernel) ⟨Nat.le_of_ble_eq_true rfl, Nat.le_of_ble_eq_true rfl⟩) ⟨fun a U g mk q => by obtain ⟨q0, q1, qP, qK, qD, qG⟩ := q; exact ⟨q0, q1, qP, va_K.moved (u := U) (U := U.calling g mk a) (Vm.Alike.refl U.vm) qK, qD, qG.same rfl rfl⟩, va_recv hK hP (ci := 10) (q := (RX8, TX8, 10)) rfl (q0 := 0) rfl, fun U hU hW => ⟨rfl, by rw [hU], by rw [hU]; exact hPc, va_K.moved hW.alike hKc, hDc.weaken (fun _ _ _ _ => trivial), hG.go hW hU hS hFc⟩⟩ rfl rfl hl.1 rfl (lv_room (Nat.le_of_ble_eq_true rfl)) dL_digest_4 ⟨Nat.le_of_ble_eq_true rfl, Nat.le_of_ble_eq_true rfl⟩) hS (fun q _ h => hFc q h) hFc (fun q _ h => hFc q h) (fun E9 ce q9 u t H1 locs1 ht hvm hp hE hz hk hS hcell hv hcl => ?_) (fun r u t H1 locs1 ht hvm hp hB hz hk hS => hp.elim)
  subst hE
  refine vx_catch (name := "java/lang/IndexOutOfBoundsException") hown [] ⟨0, 8, 11, 19⟩ [⟨0, 8, 14, 25⟩] htab (fun z h => by cases h) (by decide) (by decide) (hts (.classLink RL 19 "java/lang/IndexOutOfBoundsException") (by decide +kernel)) (va_Nw.use rfl (hG.1.2.2.1 _ (by decide))) hcell hv hcl ?_
  refine W.eq (g2 := F0 m 11 ls [.ref q9]) rfl ?_
  have hP : va_P (dC, dI) vwCl [] H1 := fun k q h => by simp at h
  have hD : va_D A [] := ⟨fun i j p q h => by simp at h, fun k q h => by simp at h⟩
  generalize H1 = H at hP hS ⊢
  refine lv_astore_n (lv' := [(3, .ref q9), (0, .ref x), (1, .int p0), (2, .ref ho)]) hx hb dL_digest_11 rfl hl (by decide) rfl (fun ls hl => ?_)
  refine lv_iconst (v := 1) hx hb dL_digest_12 (by decide) ?_
  have hP := hP.sub (ws' := []) [] rfl
  have hD := hD.sub (ws' := []) [] (by decide) rfl
  have hK := hK.sub (tys' := []) [] rfl
  exact W.iret hx hb hr (fun t ht hW => ⟨⟨_, (), rfl, rfl, by rw [ht]; exact hP, va_K.moved hW.alike hK, hD⟩, hS.F ht⟩) hS.2.2 dL_digest_13

set_option maxHeartbeats 4000000 in
set_option maxRecDepth 100000 in
theorem k_X9_isRow_1 (l : Launch) (dC : Nat → ClassId) (dI : Nat → Nat → Nat) (mo : Nat) (p0 : Int32) (hf0 : p0 < 0) : Met l yX9_isRow wsX9_isRow ({ frames := 0, cells := 0, slots := 0, locals := 0 }) (va_Pc [.ref mo, .int p0] (fun U => va_P (dC, dI) vwCl [] U.heap ∧ va_K (dC, dI) vwCl [] U)) (vp_Si (fun r => r = (0 : Int32))) 0 0 (fun _ => False) := by
  refine Met.ofW (cc := cX9_isRow) (maxL := 2) (ret := (some .boolean)) (by decide) rfl ?_
  intro p e s m args below meth c s₁ B hml hv
  obtain ⟨rfl, hP, hK⟩ := hv
  have hx := B.exec
  have hb := B.bytes
  have hr := B.returns
  have hts := atoms_spec (ws := wsX9_isRow) B.pre
  have hown : s.vm.findClass RX9 = some m.cls := findClass_of_methodNamed B.named
  have hlocks := B.notSynchronized
  have hl := lv_entry ([.ref mo, .int p0]) (n := 2) (Nat.le_of_ble_eq_true rfl)
  rw [lg_entry_eq]
  generalize (lg_sl ([.ref mo, .int p0]) ++ List.replicate (2 - (lg_sl ([.ref mo, .int p0])).length) Slot.unset).toArray = ls at hl ⊢
  have hl : lv_has ls 2 [(0, .ref mo), (1, .int p0)] := hl
  refine lv_iload_n hx hb dX9_isRow_0 rfl (lv_at hl 1 rfl) ?_
  refine lv_if_lt (tgt := 29) hx hb dX9_isRow_1 (by decide) (fun c_1 => ?_) (fun c_1 => ?_)
  · skip
    refine lv_iconst (v := 0) hx hb dX9_isRow_29 (by decide) ?_
    exact W.zret hx hb hr rfl (fun t ht hW => ⟨_, rfl, rfl, ht⟩) (fun q h => by cases h) dX9_isRow_30
  · skip
    exact absurd hf0 c_1

set_option maxHeartbeats 4000000 in
set_option maxRecDepth 100000 in
theorem k_X9_digest_1 (l : Launch) (dC : Nat → ClassId) (dI : Nat → Nat → Nat) (mo : Nat) (p0 : Int32) (m_disk : Nat) (P : Nat) (m_tape : Nat) (m_slots : Nat) (m_leaves : Nat) (m_fresh : Nat) (m_digestAt : Nat) (m_isGroup : Nat) (m_counts : Nat) (m_versionRow : Nat) (m_state : Nat) (m_names : Nat) (m_keptRow : Nat) (m_inSlot : Nat) (m_inAt : Nat) (m_inSize : Nat) (m_inDigest : Nat) (sz : Nat) (hf0 : p0 < 0) : Met l yX9_digest wsX9_digest ({ frames := 1, cells := 0, slots := 0, locals := 21 }) (va_Pc [.ref mo, .int p0] (fun U => U.heap.size = sz ∧ va_P (dC, dI) vwCl [(mo, .inr (11, [.ref m_disk, .int (nI P), .int ((8224 : Int32) + ((26 : Int32) * (nI P))), .int (1 : Int32), .int 0, .int (-1 : Int32), .int 0, .int (0 : Int32), .ref m_tape, .int 0, .ref m_slots, .ref m_leaves, .int 0, .int 0, .ref m_fresh, .int 0, .int 0, .int 0, .ref m_digestAt, .ref m_isGroup, .ref m_counts, .int 0, .int 0, .long 0, .int 0, .ref m_versionRow, .int 0, .long 0, .ref m_state, .ref m_names, .int 0, .ref m_keptRow, .int 0, .ref m_inSlot, .ref m_inAt, .ref m_inSize, .ref m_inDigest, .int 0]))] U.heap ∧ va_K (dC, dI) vwCl [] U ∧ va_D (fun _ => True) [(mo, .inr (11, [.ref m_disk, .int (nI P), .int ((8224 : Int32) + ((26 : Int32) * (nI P))), .int (1 : Int32), .int 0, .int (-1 : Int32), .int 0, .int (0 : Int32), .ref m_tape, .int 0, .ref m_slots, .ref m_leaves, .int 0, .int 0, .ref m_fresh, .int 0, .int 0, .int 0, .ref m_digestAt, .ref m_isGroup, .ref m_counts, .int 0, .int 0, .long 0, .int 0, .ref m_versionRow, .int 0, .long 0, .ref m_state, .ref m_names, .int 0, .ref m_keptRow, .int 0, .ref m_inSlot, .ref m_inAt, .ref m_inSize, .ref m_inDigest, .int 0]))])) (va_Ql (fun r (_ : Unit) => r = (0 : Int64)) (fun (_ : Unit) t => va_P (dC, dI) vwCl [(mo, .inr (11, [.ref m_disk, .int (nI P), .int ((8224 : Int32) + ((26 : Int32) * (nI P))), .int (1 : Int32), .int 0, .int (-1 : Int32), .int 0, .int (0 : Int32), .ref m_tape, .int 0, .ref m_slots, .ref m_leaves, .int 0, .int (1 : Int32), .ref m_fresh, .int 0, .int 0, .int 0, .ref m_digestAt, .ref m_isGroup, .ref m_counts, .int 0, .int 0, .long 0, .int 0, .ref m_versionRow, .int 0, .long 0, .ref m_state, .ref m_names, .int 0, .ref m_keptRow, .int 0, .ref m_inSlot, .ref m_inAt, .ref m_inSize, .ref m_inDigest, .int 0]))] t.heap ∧ va_K (dC, dI) vwCl [] t ∧ va_D (va_A [(mo, .inr (11, [.ref m_disk, .int (nI P), .int ((8224 : Int32) + ((26 : Int32) * (nI P))), .int (1 : Int32), .int 0, .int (-1 : Int32), .int 0, .int (0 : Int32), .ref m_tape, .int 0, .ref m_slots, .ref m_leaves, .int 0, .int 0, .ref m_fresh, .int 0, .int 0, .int 0, .ref m_digestAt, .ref m_isGroup, .ref m_counts, .int 0, .int 0, .long 0, .int 0, .ref m_versionRow, .int 0, .long 0, .ref m_state, .ref m_names, .int 0, .ref m_keptRow, .int 0, .ref m_inSlot, .ref m_inAt, .ref m_inSize, .ref m_inDigest, .int 0]))] sz) [(mo, .inr (11, [.ref m_disk, .int (nI P), .int ((8224 : Int32) + ((26 : Int32) * (nI P))), .int (1 : Int32), .int 0, .int (-1 : Int32), .int 0, .int (0 : Int32), .ref m_tape, .int 0, .ref m_slots, .ref m_leaves, .int 0, .int (1 : Int32), .ref m_fresh, .int 0, .int 0, .int 0, .ref m_digestAt, .ref m_isGroup, .ref m_counts, .int 0, .int 0, .long 0, .int 0, .ref m_versionRow, .int 0, .long 0, .ref m_state, .ref m_names, .int 0, .ref m_keptRow, .int 0, .ref m_inSlot, .ref m_inAt, .ref m_inSize, .ref m_inDigest, .int 0]))]) (va_A [(mo, .inr (11, [.ref m_disk, .int (nI P), .int ((8224 : Int32) + ((26 : Int32) * (nI P))), .int (1 : Int32), .int 0, .int (-1 : Int32), .int 0, .int (0 : Int32), .ref m_tape, .int 0, .ref m_slots, .ref m_leaves, .int 0, .int 0, .ref m_fresh, .int 0, .int 0, .int 0, .ref m_digestAt, .ref m_isGroup, .ref m_counts, .int 0, .int 0, .long 0, .int 0, .ref m_versionRow, .int 0, .long 0, .ref m_state, .ref m_names, .int 0, .ref m_keptRow, .int 0, .ref m_inSlot, .ref m_inAt, .ref m_inSize, .ref m_inDigest, .int 0]))] sz)) 0 0 (va_A [(mo, .inr (11, [.ref m_disk, .int (nI P), .int ((8224 : Int32) + ((26 : Int32) * (nI P))), .int (1 : Int32), .int 0, .int (-1 : Int32), .int 0, .int (0 : Int32), .ref m_tape, .int 0, .ref m_slots, .ref m_leaves, .int 0, .int 0, .ref m_fresh, .int 0, .int 0, .int 0, .ref m_digestAt, .ref m_isGroup, .ref m_counts, .int 0, .int 0, .long 0, .int 0, .ref m_versionRow, .int 0, .long 0, .ref m_state, .ref m_names, .int 0, .ref m_keptRow, .int 0, .ref m_inSlot, .ref m_inAt, .ref m_inSize, .ref m_inDigest, .int 0]))] sz) := by
  refine Met.ofW (cc := cX9_digest) (maxL := 2) (ret := (some .long)) (by decide) rfl ?_
  intro p e s m args below meth c s₁ B hml hv
  obtain ⟨rfl, hsz, hP, hK, hD0⟩ := hv
  have hx := B.exec
  have hb := B.bytes
  have hr := B.returns
  have hts := atoms_spec (ws := wsX9_digest) B.pre
  have hown : s.vm.findClass RX9 = some m.cls := findClass_of_methodNamed B.named
  have hlocks := B.notSynchronized
  subst hsz
  have hD := hD0.self (sz := s.heap.size)
  generalize hAe : va_A [(mo, .inr (11, [.ref m_disk, .int (nI P), .int ((8224 : Int32) + ((26 : Int32) * (nI P))), .int (1 : Int32), .int 0, .int (-1 : Int32), .int 0, .int (0 : Int32), .ref m_tape, .int 0, .ref m_slots, .ref m_leaves, .int 0, .int 0, .ref m_fresh, .int 0, .int 0, .int 0, .ref m_digestAt, .ref m_isGroup, .ref m_counts, .int 0, .int 0, .long 0, .int 0, .ref m_versionRow, .int 0, .long 0, .ref m_state, .ref m_names, .int 0, .ref m_keptRow, .int 0, .ref m_inSlot, .ref m_inAt, .ref m_inSize, .ref m_inDigest, .int 0]))] s.heap.size = A at hD ⊢
  have hA : ∀ q : Nat, s.heap.size ≤ q → A q := fun q h => by rw [← hAe]; exact Or.inr h
  have hS : va_S A s.heap s.heap [] := va_S.rf
  have hl := lv_entry ([.ref mo, .int p0]) (n := 2) (Nat.le_of_ble_eq_true rfl)
  rw [lg_entry_eq]
  generalize (lg_sl ([.ref mo, .int p0]) ++ List.replicate (2 - (lg_sl ([.ref mo, .int p0])).length) Slot.unset).toArray = ls at hl ⊢
  have hl : lv_has ls 2 [(0, .ref mo), (1, .int p0)] := hl
  refine lv_aload_n hx hb dX9_digest_0 rfl (lv_at hl 0 rfl) ?_
  refine lv_aload_n hx hb dX9_digest_1 rfl (lv_at hl 0 rfl) ?_
  refine lv_iload_n hx hb dX9_digest_2 rfl (lv_at hl 1 rfl) ?_
  have hPc := hP.sub (ws' := []) [] rfl
  have hKc := hK.sub (tys' := []) [] rfl
  refine vp_callSi (va_Run.run (va_runV (As := [.int p0]) (rest := [.ref mo]) ⟨hx, hb, hml, hown, hts⟩ (k_X9_isRow_1 l dC dI mo p0 hf0) (cwV 1 hts gX9_digest_X9_isRow rfl rfl rfl (by decide +kernel) ⟨Nat.le_of_ble_eq_true rfl, Nat.le_of_ble_eq_true rfl⟩) ⟨fun a U g mk q => by obtain ⟨q0, qP, qK⟩ := q; exact ⟨q0, qP, va_K.moved (u := U) (U := U.calling g mk a) (Vm.Alike.refl U.vm) qK⟩, va_recv hK hP (ci := 11) (q := (RX9, TX9, 38)) rfl (q0 := 0) rfl, fun U hU hW => ⟨rfl, by rw [hU]; exact hPc, va_K.moved hW.alike hKc⟩⟩ rfl rfl hl.1 rfl (lv_room (Nat.le_of_ble_eq_true rfl)) dX9_digest_3 ⟨Nat.le_of_ble_eq_true rfl, Nat.le_of_ble_eq_true rfl⟩)) (fun r_1 er_1 => ?_)
  subst er_1
  refine lv_if_ne (tgt := 13) hx hb dX9_digest_6 (by decide) (fun c_2 => ?_) (fun c_2 => ?_)
  · skip
    exact absurd (by decide) c_2
  · skip
    refine lv_iconst (v := 1) hx hb dX9_digest_9 (by decide) ?_
    refine lv_goto (tgt := 25) hx hb dX9_digest_10 (by decide) ?_
    refine va_put (D := (dC, dI)) (ci := 11) (v := .int (1 : Int32)) (ty := .int) (C := RX9) (T := TX9) (N := 38) hx hb hts (by decide +kernel) tyX9 tyX9_ok nmX9 hown hK hP hD hS 0 rfl rfl 13 (by decide) (hts (.fieldLink RX9 91 "BlockLogModel" "thrown" "I") (by decide +kernel)) (fun _ h9 => h9) rfl (by decide +kernel) rfl rfl (Nat.le_of_ble_eq_true rfl) dX9_digest_25 (fun H locs hP hD hS => ?_)
    have hP : va_P (dC, dI) vwCl [(mo, .inr (11, [.ref m_disk, .int (nI P), .int ((8224 : Int32) + ((26 : Int32) * (nI P))), .int (1 : Int32), .int 0, .int (-1 : Int32), .int 0, .int (0 : Int32), .ref m_tape, .int 0, .ref m_slots, .ref m_leaves, .int 0, .int (1 : Int32), .ref m_fresh, .int 0, .int 0, .int 0, .ref m_digestAt, .ref m_isGroup, .ref m_counts, .int 0, .int 0, .long 0, .int 0, .ref m_versionRow, .int 0, .long 0, .ref m_state, .ref m_names, .int 0, .ref m_keptRow, .int 0, .ref m_inSlot, .ref m_inAt, .ref m_inSize, .ref m_inDigest, .int 0]))] H := hP
    have hD : va_D A [(mo, .inr (11, [.ref m_disk, .int (nI P), .int ((8224 : Int32) + ((26 : Int32) * (nI P))), .int (1 : Int32), .int 0, .int (-1 : Int32), .int 0, .int (0 : Int32), .ref m_tape, .int 0, .ref m_slots, .ref m_leaves, .int 0, .int (1 : Int32), .ref m_fresh, .int 0, .int 0, .int 0, .ref m_digestAt, .ref m_isGroup, .ref m_counts, .int 0, .int 0, .long 0, .int 0, .ref m_versionRow, .int 0, .long 0, .ref m_state, .ref m_names, .int 0, .ref m_keptRow, .int 0, .ref m_inSlot, .ref m_inAt, .ref m_inSize, .ref m_inDigest, .int 0]))] := hD
    refine lv_aload_n hx hb dX9_digest_28 rfl (lv_at hl 0 rfl) ?_
    refine va_get (D := (dC, dI)) (ci := 11) (v := .int (1 : Int32)) (C := RX9) (T := TX9) (N := 38) hx hb hts (by decide +kernel) hown hK hP 0 rfl rfl 13 (by decide) (hts (.fieldLink RX9 91 "BlockLogModel" "thrown" "I") (by decide +kernel)) (fun _ h9 => h9) rfl dX9_digest_29 ?_
    refine lv_if_le (tgt := 37) hx hb dX9_digest_32 (by decide) (fun c_3 => ?_) (fun c_3 => ?_)
    · skip
      exact absurd c_3 (by decide)
    · skip
      refine lv_lconst (v := 0) hx hb dX9_digest_35 (by decide) ?_
      have hP := hP.sub (ws' := [(mo, .inr (11, [.ref m_disk, .int (nI P), .int ((8224 : Int32) + ((26 : Int32) * (nI P))), .int (1 : Int32), .int 0, .int (-1 : Int32), .int 0, .int (0 : Int32), .ref m_tape, .int 0, .ref m_slots, .ref m_leaves, .int 0, .int (1 : Int32), .ref m_fresh, .int 0, .int 0, .int 0, .ref m_digestAt, .ref m_isGroup, .ref m_counts, .int 0, .int 0, .long 0, .int 0, .ref m_versionRow, .int 0, .long 0, .ref m_state, .ref m_names, .int 0, .ref m_keptRow, .int 0, .ref m_inSlot, .ref m_inAt, .ref m_inSize, .ref m_inDigest, .int 0]))]) [0] rfl
      have hD := hD.sub (ws' := [(mo, .inr (11, [.ref m_disk, .int (nI P), .int ((8224 : Int32) + ((26 : Int32) * (nI P))), .int (1 : Int32), .int 0, .int (-1 : Int32), .int 0, .int (0 : Int32), .ref m_tape, .int 0, .ref m_slots, .ref m_leaves, .int 0, .int (1 : Int32), .ref m_fresh, .int 0, .int 0, .int 0, .ref m_digestAt, .ref m_isGroup, .ref m_counts, .int 0, .int 0, .long 0, .int 0, .ref m_versionRow, .int 0, .long 0, .ref m_state, .ref m_names, .int 0, .ref m_keptRow, .int 0, .ref m_inSlot, .ref m_inAt, .ref m_inSize, .ref m_inDigest, .int 0]))]) [0] (by decide) rfl
      have hK := hK.sub (tys' := []) [] rfl
      exact W.lret hx hb hr (fun t ht hW => ⟨⟨_, (), rfl, rfl, by rw [ht]; exact hP, va_K.moved hW.alike hK, hD⟩, hS.F ht⟩) hS.2.2 dX9_digest_36

set_option maxHeartbeats 4000000 in
set_option maxRecDepth 100000 in
theorem k_X8_demandRow_2 (l : Launch) (hl0 : l.stackTraces = false) (dC : Nat → ClassId) (dI : Nat → Nat → Nat) (x : Nat) (p0 : Int32) (rr : Nat) (ds : Nat) (tp : Nat) (so : Nat) (pu : Nat) (sn : Nat) (im : Nat) (cs : Nat) (cl : Nat) (ri : Nat) (pg : Int32) (dl : Nat) (dr : Nat) (dt : Nat) (sz : Nat) (hf0 : 0 ≤ p0) : vx_Met l yX8_demandRow wsX8_demandRow ({ frames := 6, cells := 1, slots := 6, locals := 90 }) (va_Pc [.ref x, .int p0] (fun U => U.heap.size = sz ∧ va_P (dC, dI) vwCl [(x, .inr (10, [.ref tp, .ref ds, .ref rr, .ref so, .ref pu, .ref sn, .ref im, .ref cs, .ref cl, .int (0 : Int32)])), (rr, .inr (6, [.ref ds, .ref ri, .int 0, .int 1, .int 0, .int 0])), (ds, .inr (3, [.int pg, .ref dl, .ref dr, .ref dt, .int (1 : Int32), .int (-1 : Int32), .int (0 : Int32)]))] U.heap ∧ va_K (dC, dI) vwCl [] U ∧ va_D (fun _ => True) [(x, .inr (10, [.ref tp, .ref ds, .ref rr, .ref so, .ref pu, .ref sn, .ref im, .ref cs, .ref cl, .int (0 : Int32)])), (rr, .inr (6, [.ref ds, .ref ri, .int 0, .int 1, .int 0, .int 0])), (ds, .inr (3, [.int pg, .ref dl, .ref dr, .ref dt, .int (1 : Int32), .int (-1 : Int32), .int (0 : Int32)]))] ∧ gx_E (va_A [(x, .inr (10, [.ref tp, .ref ds, .ref rr, .ref so, .ref pu, .ref sn, .ref im, .ref cs, .ref cl, .int (0 : Int32)])), (rr, .inr (6, [.ref ds, .ref ri, .int 0, .int 1, .int 0, .int 0])), (ds, .inr (3, [.int pg, .ref dl, .ref dr, .ref dt, .int (1 : Int32), .int (-1 : Int32), .int (0 : Int32)]))] sz) U)) (va_Qv (fun (_ : Unit) => False) (fun _ _ => True) (va_A [(x, .inr (10, [.ref tp, .ref ds, .ref rr, .ref so, .ref pu, .ref sn, .ref im, .ref cs, .ref cl, .int (0 : Int32)])), (rr, .inr (6, [.ref ds, .ref ri, .int 0, .int 1, .int 0, .int 0])), (ds, .inr (3, [.int pg, .ref dl, .ref dr, .ref dt, .int (1 : Int32), .int (-1 : Int32), .int (0 : Int32)]))] sz)) (vx_X (fun _ : Unit => True) (fun E _ _ => E = "java/lang/IndexOutOfBoundsException") (va_A [(x, .inr (10, [.ref tp, .ref ds, .ref rr, .ref so, .ref pu, .ref sn, .ref im, .ref cs, .ref cl, .int (0 : Int32)])), (rr, .inr (6, [.ref ds, .ref ri, .int 0, .int 1, .int 0, .int 0])), (ds, .inr (3, [.int pg, .ref dl, .ref dr, .ref dt, .int (1 : Int32), .int (-1 : Int32), .int (0 : Int32)]))] sz)) 1 6 (va_A [(x, .inr (10, [.ref tp, .ref ds, .ref rr, .ref so, .ref pu, .ref sn, .ref im, .ref cs, .ref cl, .int (0 : Int32)])), (rr, .inr (6, [.ref ds, .ref ri, .int 0, .int 1, .int 0, .int 0])), (ds, .inr (3, [.int pg, .ref dl, .ref dr, .ref dt, .int (1 : Int32), .int (-1 : Int32), .int (0 : Int32)]))] sz) := by
  refine vx_ofW (cc := cX8_demandRow) (maxL := 3) (ret := none) (by decide) rfl ?_
  intro p e s m args below meth c s₁ B hml hno hv
  obtain ⟨rfl, hsz, hP, hK, hD0, hG⟩ := hv
  have hx := B.exec
  have hb := B.bytes
  have hr := B.returns
  have hts := atoms_spec (ws := wsX8_demandRow) B.pre
  have hown : s.vm.findClass RX8 = some m.cls := findClass_of_methodNamed B.named
  have hlocks := B.notSynchronized
  subst hsz
  have hD := hD0.self (sz := s.heap.size)
  generalize hAe : va_A [(x, .inr (10, [.ref tp, .ref ds, .ref rr, .ref so, .ref pu, .ref sn, .ref im, .ref cs, .ref cl, .int (0 : Int32)])), (rr, .inr (6, [.ref ds, .ref ri, .int 0, .int 1, .int 0, .int 0])), (ds, .inr (3, [.int pg, .ref dl, .ref dr, .ref dt, .int (1 : Int32), .int (-1 : Int32), .int (0 : Int32)]))] s.heap.size = A at hD hG ⊢
  have hA : ∀ q : Nat, s.heap.size ≤ q → A q := fun q h => by rw [← hAe]; exact Or.inr h
  have hS : va_S A s.heap s.heap [] := va_S.rf
  have hl := lv_entry ([.ref x, .int p0]) (n := 3) (Nat.le_of_ble_eq_true rfl)
  rw [lg_entry_eq]
  generalize (lg_sl ([.ref x, .int p0]) ++ List.replicate (3 - (lg_sl ([.ref x, .int p0])).length) Slot.unset).toArray = ls at hl ⊢
  have hl : lv_has ls 3 [(0, .ref x), (1, .int p0)] := hl
  refine lv_aload_n hx hb dX8_demandRow_0 rfl (lv_at hl 0 rfl) ?_
  refine va_get (D := (dC, dI)) (ci := 10) (v := .ref ds) (C := RX8) (T := TX8) (N := 10) hx hb hts (by decide +kernel) hown hK hP 0 rfl rfl 1 (by decide) (hts (.fieldLink RX8 22 "BlockLog" "disk" "LBlockLog$Disk;") (by decide +kernel)) (fun _ h9 => h9) rfl dX8_demandRow_1 ?_
  refine va_getN (D := (dC, dI)) (ci := 3) (v := .int (1 : Int32)) (C := RX1) (T := TX1) (N := 7) hx hb hts (by decide +kernel) hown hK hP 2 rfl rfl 4 (by decide) (va_Nw.use rfl (hG.1.1 ("BlockLog", 287, "BlockLog$Disk", "powered", "Z", "BlockLog") (by decide +kernel))) (fun _ h9 => h9) rfl dX8_demandRow_4 ?_
  refine lv_if_eq (tgt := 20) hx hb dX8_demandRow_7 (by decide) (fun c_1 => ?_) (fun c_1 => ?_)
  · skip
    exact absurd c_1 (by decide)
  · skip
    refine lv_aload_n hx hb dX8_demandRow_10 rfl (lv_at hl 0 rfl) ?_
    refine va_get (D := (dC, dI)) (ci := 10) (v := .ref rr) (C := RX8) (T := TX8) (N := 10) hx hb hts (by decide +kernel) hown hK hP 0 rfl rfl 2 (by decide) (hts (.fieldLink RX8 31 "BlockLog" "rows" "LBlockLog$Rows;") (by decide +kernel)) (fun _ h9 => h9) rfl dX8_demandRow_11 ?_
    refine va_getN (D := (dC, dI)) (ci := 6) (v := .int 0) (C := RX4) (T := TX4) (N := 6) hx hb hts (by decide +kernel) hown hK hP 1 rfl rfl 4 (by decide) (va_Nw.use rfl (hG.1.1 ("BlockLog", 151, "BlockLog$Rows", "count", "I", "BlockLog") (by decide +kernel))) (fun _ h9 => h9) rfl dX8_demandRow_14 ?_
    refine lv_goto (tgt := 23) hx hb dX8_demandRow_17 (by decide) ?_
    refine lv_istore_n (lv' := [(2, .int 0), (0, .ref x), (1, .int p0)]) hx hb dX8_demandRow_23 rfl hl (by decide) rfl (fun ls hl => ?_)
    refine lv_iload_n hx hb dX8_demandRow_24 rfl (lv_at hl 2 rfl) ?_
    refine lv_if_lt (tgt := 33) hx hb dX8_demandRow_25 (by decide) (fun c_2 => ?_) (fun c_2 => ?_)
    · skip
      exact absurd c_2 (Int32.not_lt.mpr hf0)
    · skip
      refine lv_iload_n hx hb dX8_demandRow_28 rfl (lv_at hl 2 rfl) ?_
      refine lv_iload_n hx hb dX8_demandRow_29 rfl (lv_at hl 0 rfl) ?_
      refine lv_icmp_lt (tgt := 44) hx hb dX8_demandRow_30 (by decide) (fun c_3 => ?_) (fun c_3 => ?_)
      · skip
        exact absurd c_3 (Int32.not_lt.mpr hf0)
      · skip
        obtain ⟨sa, hstr⟩ := hG.1.2.1 ("BlockLog", 358, "no such row") (by decide +kernel)
        exact vx_throwSW (names := ["java/lang/RuntimeException", "java/lang/Exception"]) hx hb hl0 hown (by decide +kernel) (by decide +kernel) (hts (.classLink RX8 91 "java/lang/IndexOutOfBoundsException") (by decide +kernel)) (hts (.initialized "java/lang/IndexOutOfBoundsException") (by decide +kernel)) hstr (vx_hat (B := gx_bad "java/lang/IndexOutOfBoundsException") (fun w h => hts w (List.mem_cons_of_mem _ (List.mem_append_right _ h))) (by decide +kernel) (hG.1.bad (by decide))) (by decide +kernel) hG.2.1 hG.2.2.1 hS (hl.1.trans hml.symm) dX8_demandRow_33 dX8_demandRow_36 dX8_demandRow_37 dX8_demandRow_40 dX8_demandRow_43 (fun x h => (hno x h).elim) (Nat.le_of_ble_eq_true rfl) (Nat.le_of_ble_eq_true rfl) (Nat.le_of_ble_eq_true rfl) (Nat.le_of_ble_eq_true rfl) hlocks (fun t _ h1 h2 => ⟨(), trivial, rfl, Nat.le_trans hS.1 h1, fun q hq hn => (h2 q (Nat.lt_of_lt_of_le hq hS.1)).trans (hS.2.1 q hq hn)⟩) hS.2.2 (Nat.le_refl _) (Nat.le_refl _)

set_option maxHeartbeats 4000000 in
set_option maxRecDepth 100000 in
theorem k_X8_digest_2 (l : Launch) (hl0 : l.stackTraces = false) (dC : Nat → ClassId) (dI : Nat → Nat → Nat) (x : Nat) (p0 : Int32) (rr : Nat) (ds : Nat) (tp : Nat) (so : Nat) (pu : Nat) (sn : Nat) (im : Nat) (cs : Nat) (cl : Nat) (ri : Nat) (pg : Int32) (dl : Nat) (dr : Nat) (dt : Nat) (sz : Nat) (hf0 : 0 ≤ p0) : vx_Met l yX8_digest wsX8_digest ({ frames := 7, cells := 1, slots := 6, locals := 112 }) (va_Pc [.ref x, .int p0] (fun U => U.heap.size = sz ∧ va_P (dC, dI) vwCl [(x, .inr (10, [.ref tp, .ref ds, .ref rr, .ref so, .ref pu, .ref sn, .ref im, .ref cs, .ref cl, .int (0 : Int32)])), (rr, .inr (6, [.ref ds, .ref ri, .int 0, .int 1, .int 0, .int 0])), (ds, .inr (3, [.int pg, .ref dl, .ref dr, .ref dt, .int (1 : Int32), .int (-1 : Int32), .int (0 : Int32)]))] U.heap ∧ va_K (dC, dI) vwCl [] U ∧ va_D (fun _ => True) [(x, .inr (10, [.ref tp, .ref ds, .ref rr, .ref so, .ref pu, .ref sn, .ref im, .ref cs, .ref cl, .int (0 : Int32)])), (rr, .inr (6, [.ref ds, .ref ri, .int 0, .int 1, .int 0, .int 0])), (ds, .inr (3, [.int pg, .ref dl, .ref dr, .ref dt, .int (1 : Int32), .int (-1 : Int32), .int (0 : Int32)]))] ∧ gx_E (va_A [(x, .inr (10, [.ref tp, .ref ds, .ref rr, .ref so, .ref pu, .ref sn, .ref im, .ref cs, .ref cl, .int (0 : Int32)])), (rr, .inr (6, [.ref ds, .ref ri, .int 0, .int 1, .int 0, .int 0])), (ds, .inr (3, [.int pg, .ref dl, .ref dr, .ref dt, .int (1 : Int32), .int (-1 : Int32), .int (0 : Int32)]))] sz) U)) (va_Ql (fun (_ : Int64) (_ : Unit) => False) (fun _ _ => True) (va_A [(x, .inr (10, [.ref tp, .ref ds, .ref rr, .ref so, .ref pu, .ref sn, .ref im, .ref cs, .ref cl, .int (0 : Int32)])), (rr, .inr (6, [.ref ds, .ref ri, .int 0, .int 1, .int 0, .int 0])), (ds, .inr (3, [.int pg, .ref dl, .ref dr, .ref dt, .int (1 : Int32), .int (-1 : Int32), .int (0 : Int32)]))] sz)) (vx_X (fun _ : Unit => True) (fun E _ _ => E = "java/lang/IndexOutOfBoundsException") (va_A [(x, .inr (10, [.ref tp, .ref ds, .ref rr, .ref so, .ref pu, .ref sn, .ref im, .ref cs, .ref cl, .int (0 : Int32)])), (rr, .inr (6, [.ref ds, .ref ri, .int 0, .int 1, .int 0, .int 0])), (ds, .inr (3, [.int pg, .ref dl, .ref dr, .ref dt, .int (1 : Int32), .int (-1 : Int32), .int (0 : Int32)]))] sz)) 1 6 (va_A [(x, .inr (10, [.ref tp, .ref ds, .ref rr, .ref so, .ref pu, .ref sn, .ref im, .ref cs, .ref cl, .int (0 : Int32)])), (rr, .inr (6, [.ref ds, .ref ri, .int 0, .int 1, .int 0, .int 0])), (ds, .inr (3, [.int pg, .ref dl, .ref dr, .ref dt, .int (1 : Int32), .int (-1 : Int32), .int (0 : Int32)]))] sz) := by
  refine vx_ofW (cc := cX8_digest) (maxL := 2) (ret := (some .long)) (by decide) rfl ?_
  intro p e s m args below meth c s₁ B hml hno hv
  obtain ⟨rfl, hsz, hP, hK, hD0, hG⟩ := hv
  have hx := B.exec
  have hb := B.bytes
  have hr := B.returns
  have hts := atoms_spec (ws := wsX8_digest) B.pre
  have hown : s.vm.findClass RX8 = some m.cls := findClass_of_methodNamed B.named
  have hlocks := B.notSynchronized
  subst hsz
  have hD := hD0.self (sz := s.heap.size)
  generalize hAe : va_A [(x, .inr (10, [.ref tp, .ref ds, .ref rr, .ref so, .ref pu, .ref sn, .ref im, .ref cs, .ref cl, .int (0 : Int32)])), (rr, .inr (6, [.ref ds, .ref ri, .int 0, .int 1, .int 0, .int 0])), (ds, .inr (3, [.int pg, .ref dl, .ref dr, .ref dt, .int (1 : Int32), .int (-1 : Int32), .int (0 : Int32)]))] s.heap.size = A at hD hG ⊢
  have hA : ∀ q : Nat, s.heap.size ≤ q → A q := fun q h => by rw [← hAe]; exact Or.inr h
  have hS : va_S A s.heap s.heap [] := va_S.rf
  have hl := lv_entry ([.ref x, .int p0]) (n := 2) (Nat.le_of_ble_eq_true rfl)
  rw [lg_entry_eq]
  generalize (lg_sl ([.ref x, .int p0]) ++ List.replicate (2 - (lg_sl ([.ref x, .int p0])).length) Slot.unset).toArray = ls at hl ⊢
  have hl : lv_has ls 2 [(0, .ref x), (1, .int p0)] := hl
  refine lv_aload_n hx hb dX8_digest_0 rfl (lv_at hl 0 rfl) ?_
  refine lv_iload_n hx hb dX8_digest_1 rfl (lv_at hl 1 rfl) ?_
  have hPc := hP.sub (ws' := [(x, .inr (10, [.ref tp, .ref ds, .ref rr, .ref so, .ref pu, .ref sn, .ref im, .ref cs, .ref cl, .int (0 : Int32)])), (rr, .inr (6, [.ref ds, .ref ri, .int 0, .int 1, .int 0, .int 0])), (ds, .inr (3, [.int pg, .ref dl, .ref dr, .ref dt, .int (1 : Int32), .int (-1 : Int32), .int (0 : Int32)]))]) [0, 1, 2] rfl
  have hKc := hK.sub (tys' := []) [] rfl
  have hDc := hD.sub (ws' := [(x, .inr (10, [.ref tp, .ref ds, .ref rr, .ref so, .ref pu, .ref sn, .ref im, .ref cs, .ref cl, .int (0 : Int32)])), (rr, .inr (6, [.ref ds, .ref ri, .int 0, .int 1, .int 0, .int 0])), (ds, .inr (3, [.int pg, .ref dl, .ref dr, .ref dt, .int (1 : Int32), .int (-1 : Int32), .int (0 : Int32)]))]) [0, 1, 2] (by decide) rfl
  have hFc := va_free (wc := [(x, .inr (10, [.ref tp, .ref ds, .ref rr, .ref so, .ref pu, .ref sn, .ref im, .ref cs, .ref cl, .int (0 : Int32)])), (rr, .inr (6, [.ref ds, .ref ri, .int 0, .int 1, .int 0, .int 0])), (ds, .inr (3, [.int pg, .ref dl, .ref dr, .ref dt, .int (1 : Int32), .int (-1 : Int32), .int (0 : Int32)]))]) hD hS hA [0, 1, 2] rfl
  refine vx_callv (vx_runV (As := [.int p0]) (rest := []) ⟨hx, hb, hml, hown, hts⟩ (k_X8_demandRow_2 l hl0 dC dI x p0 rr ds tp so pu sn im cs cl ri pg dl dr dt _ hf0) (cwV 1 hts gX8_digest_X8_demandRow rfl rfl rfl (by decide +kernel) ⟨Nat.le_of_ble_eq_true rfl, Nat.le_of_ble_eq_true rfl⟩) ⟨fun a U g mk q => by obtain ⟨q0, q1, qP, qK, qD, qG⟩ := q; exact ⟨q0, q1, qP, va_K.moved (u := U) (U := U.calling g mk a) (Vm.Alike.refl U.vm) qK, qD, qG.same rfl rfl⟩, va_recv hK hP (ci := 10) (q := (RX8, TX8, 10)) rfl (q0 := 0) rfl, fun U hU hW => ⟨rfl, by rw [hU], by rw [hU]; exact hPc, va_K.moved hW.alike hKc, hDc.weaken (fun _ _ _ _ => trivial), hG.go hW hU hS hFc⟩⟩ rfl rfl hl.1 rfl (lv_room (Nat.le_of_ble_eq_true rfl)) dX8_digest_2 ⟨Nat.le_of_ble_eq_true rfl, Nat.le_of_ble_eq_true rfl⟩) hS (fun q _ h => hFc q h) hFc (fun q _ h => hFc q h) (fun E9 ce q9 u t H1 locs1 ht hvm hp hE hz hk hS hcell hv hcl => ?_) (fun u t H1 locs1 ht hvm hp hB hz hk hS => hp.elim)
  subst hE
  exact vx_out (fun x h => (hno x h).elim) hlocks hcell hv hcl (fun t ht hW => ⟨(), trivial, rfl, hS.F ht⟩) hS.2.2 (Nat.le_refl _) (Nat.le_refl _)

set_option maxHeartbeats 4000000 in
set_option maxRecDepth 100000 in
theorem k_L_digest_2 (l : Launch) (hl0 : l.stackTraces = false) (dC : Nat → ClassId) (dI : Nat → Nat → Nat) (x : Nat) (p0 : Int32) (ho : Nat) (rr : Nat) (ds : Nat) (tp : Nat) (so : Nat) (pu : Nat) (sn : Nat) (im : Nat) (cs : Nat) (cl : Nat) (ri : Nat) (pg : Int32) (dl : Nat) (dr : Nat) (dt : Nat) (sz : Nat) (hf0 : 0 ≤ p0) : Met l yL_digest wsL_digest ({ frames := 8, cells := 1, slots := 6, locals := 133 }) (va_Pc [.ref x, .int p0, .ref ho] (fun U => U.heap.size = sz ∧ va_P (dC, dI) vwCl [(x, .inr (10, [.ref tp, .ref ds, .ref rr, .ref so, .ref pu, .ref sn, .ref im, .ref cs, .ref cl, .int (0 : Int32)])), (rr, .inr (6, [.ref ds, .ref ri, .int 0, .int 1, .int 0, .int 0])), (ds, .inr (3, [.int pg, .ref dl, .ref dr, .ref dt, .int (1 : Int32), .int (-1 : Int32), .int (0 : Int32)]))] U.heap ∧ va_K (dC, dI) vwCl [] U ∧ va_D (fun _ => True) [(x, .inr (10, [.ref tp, .ref ds, .ref rr, .ref so, .ref pu, .ref sn, .ref im, .ref cs, .ref cl, .int (0 : Int32)])), (rr, .inr (6, [.ref ds, .ref ri, .int 0, .int 1, .int 0, .int 0])), (ds, .inr (3, [.int pg, .ref dl, .ref dr, .ref dt, .int (1 : Int32), .int (-1 : Int32), .int (0 : Int32)]))] ∧ gx_E (va_A [(x, .inr (10, [.ref tp, .ref ds, .ref rr, .ref so, .ref pu, .ref sn, .ref im, .ref cs, .ref cl, .int (0 : Int32)])), (rr, .inr (6, [.ref ds, .ref ri, .int 0, .int 1, .int 0, .int 0])), (ds, .inr (3, [.int pg, .ref dl, .ref dr, .ref dt, .int (1 : Int32), .int (-1 : Int32), .int (0 : Int32)]))] sz) U)) (va_Qi (fun r (_ : Unit) => r = (1 : Int32)) (fun (_ : Unit) t => va_P (dC, dI) vwCl [] t.heap ∧ va_K (dC, dI) vwCl [] t ∧ va_D (va_A [(x, .inr (10, [.ref tp, .ref ds, .ref rr, .ref so, .ref pu, .ref sn, .ref im, .ref cs, .ref cl, .int (0 : Int32)])), (rr, .inr (6, [.ref ds, .ref ri, .int 0, .int 1, .int 0, .int 0])), (ds, .inr (3, [.int pg, .ref dl, .ref dr, .ref dt, .int (1 : Int32), .int (-1 : Int32), .int (0 : Int32)]))] sz) []) (va_A [(x, .inr (10, [.ref tp, .ref ds, .ref rr, .ref so, .ref pu, .ref sn, .ref im, .ref cs, .ref cl, .int (0 : Int32)])), (rr, .inr (6, [.ref ds, .ref ri, .int 0, .int 1, .int 0, .int 0])), (ds, .inr (3, [.int pg, .ref dl, .ref dr, .ref dt, .int (1 : Int32), .int (-1 : Int32), .int (0 : Int32)]))] sz)) 1 6 (va_A [(x, .inr (10, [.ref tp, .ref ds, .ref rr, .ref so, .ref pu, .ref sn, .ref im, .ref cs, .ref cl, .int (0 : Int32)])), (rr, .inr (6, [.ref ds, .ref ri, .int 0, .int 1, .int 0, .int 0])), (ds, .inr (3, [.int pg, .ref dl, .ref dr, .ref dt, .int (1 : Int32), .int (-1 : Int32), .int (0 : Int32)]))] sz) := by
  refine va_MetW (cc := cL_digest) (maxL := 4) (ret := (some .int)) (hh := [(0, 8, 11, 19), (0, 8, 14, 25)]) (by decide) rfl ?_
  intro p e s m args below meth c s₁ B hml hv
  obtain ⟨rfl, hsz, hP, hK, hD0, hG⟩ := hv
  have hx := B.exec
  have hb := B.bytes
  have hr := B.returns
  have hts := atoms_spec (ws := wsL_digest) B.pre
  have hown : s.vm.findClass RL = some m.cls := findClass_of_methodNamed B.named
  have hlocks := B.notSynchronized
  have htab := vx_table (x := yL_digest) B (hts (.codeWith yL_digest cL_digest 4 (some .int) [(0, 8, 11, 19), (0, 8, 14, 25)]) List.mem_cons_self)
  subst hsz
  have hD := hD0.self (sz := s.heap.size)
  generalize hAe : va_A [(x, .inr (10, [.ref tp, .ref ds, .ref rr, .ref so, .ref pu, .ref sn, .ref im, .ref cs, .ref cl, .int (0 : Int32)])), (rr, .inr (6, [.ref ds, .ref ri, .int 0, .int 1, .int 0, .int 0])), (ds, .inr (3, [.int pg, .ref dl, .ref dr, .ref dt, .int (1 : Int32), .int (-1 : Int32), .int (0 : Int32)]))] s.heap.size = A at hD hG ⊢
  have hA : ∀ q : Nat, s.heap.size ≤ q → A q := fun q h => by rw [← hAe]; exact Or.inr h
  have hS : va_S A s.heap s.heap [] := va_S.rf
  have hl := lv_entry ([.ref x, .int p0, .ref ho]) (n := 4) (Nat.le_of_ble_eq_true rfl)
  rw [lg_entry_eq]
  generalize (lg_sl ([.ref x, .int p0, .ref ho]) ++ List.replicate (4 - (lg_sl ([.ref x, .int p0, .ref ho])).length) Slot.unset).toArray = ls at hl ⊢
  have hl : lv_has ls 4 [(0, .ref x), (1, .int p0), (2, .ref ho)] := hl
  refine lv_aload_n hx hb dL_digest_0 rfl (lv_at hl 2 rfl) ?_
  refine lv_iconst (v := 0) hx hb dL_digest_1 (by decide) ?_
  refine lv_aload_n hx hb dL_digest_2 rfl (lv_at hl 0 rfl) ?_
  refine lv_iload_n hx hb dL_digest_3 rfl (lv_at hl 1 rfl) ?_
  have hPc := hP.sub (ws' := [(x, .inr (10, [.ref tp, .ref ds, .ref rr, .ref so, .ref pu, .ref sn, .ref im, .ref cs, .ref cl, .int (0 : Int32)])), (rr, .inr (6, [.ref ds, .ref ri, .int 0, .int 1, .int 0, .int 0])), (ds, .inr (3, [.int pg, .ref dl, .ref dr, .ref dt, .int (1 : Int32), .int (-1 : Int32), .int (0 : Int32)]))]) [0, 1, 2] rfl
  have hKc := hK.sub (tys' := []) [] rfl
  have hDc := hD.sub (ws' := [(x, .inr (10, [.ref tp, .ref ds, .ref rr, .ref so, .ref pu, .ref sn, .ref im, .ref cs, .ref cl, .int (0 : Int32)])), (rr, .inr (6, [.ref ds, .ref ri, .int 0, .int 1, .int 0, .int 0])), (ds, .inr (3, [.int pg, .ref dl, .ref dr, .ref dt, .int (1 : Int32), .int (-1 : Int32), .int (0 : Int32)]))]) [0, 1, 2] (by decide) rfl
  have hFc := va_free (wc := [(x, .inr (10, [.ref tp, .ref ds, .ref rr, .ref so, .ref pu, .ref sn, .ref im, .ref cs, .ref cl, .int (0 : Int32)])), (rr, .inr (6, [.ref ds, .ref ri, .int 0, .int 1, .int 0, .int 0])), (ds, .inr (3, [.int pg, .ref dl, .ref dr, .ref dt, .int (1 : Int32), .int (-1 : Int32), .int (0 : Int32)]))]) hD hS hA [0, 1, 2] rfl
  refine vx_calll (vx_runV (As := [.int p0]) (rest := [.int (0 : Int32), .ref ho]) ⟨hx, hb, hml, hown, hts⟩ (k_X8_digest_2 l hl0 dC dI x p0 rr ds tp so pu sn im cs cl ri pg dl dr dt _ hf0) (cwV 1 hts gL_digest_X8_digest rfl rfl rfl (by decide +kernel) ⟨Nat.le_of_ble_eq_true rfl, Nat.le_of_ble_eq_true rfl⟩) ⟨fun a U g mk q => by obtain ⟨q0, q1, qP, qK, qD, qG⟩ := q; exact ⟨q0, q1, qP, va_K.moved (u := U) (U := U.calling g mk a) (Vm.Alike.refl U.vm) qK, qD, qG.same rfl rfl⟩, va_recv hK hP (ci := 10) (q := (RX8, TX8, 10)) rfl (q0 := 0) rfl, fun U hU hW => ⟨rfl, by rw [hU], by rw [hU]; exact hPc, va_K.moved hW.alike hKc, hDc.weaken (fun _ _ _ _ => trivial), hG.go hW hU hS hFc⟩⟩ rfl rfl hl.1 rfl (lv_room (Nat.le_of_ble_eq_true rfl)) dL_digest_4 ⟨Nat.le_of_ble_eq_true rfl, Nat.le_of_ble_eq_true rfl⟩) hS (fun q _ h => hFc q h) hFc (fun q _ h => hFc q h) (fun E9 ce q9 u t H1 locs1 ht hvm hp hE hz hk hS hcell hv hcl => ?_) (fun r u t H1 locs1 ht hvm hp hB hz hk hS => hp.elim)
  subst hE
  refine vx_catch (name := "java/lang/IndexOutOfBoundsException") hown [] ⟨0, 8, 11, 19⟩ [⟨0, 8, 14, 25⟩] htab (fun z h => by cases h) (by decide) (by decide) (hts (.classLink RL 19 "java/lang/IndexOutOfBoundsException") (by decide +kernel)) (va_Nw.use rfl (hG.1.2.2.1 _ (by decide))) hcell hv hcl ?_
  refine W.eq (g2 := F0 m 11 ls [.ref q9]) rfl ?_
  have hP : va_P (dC, dI) vwCl [] H1 := fun k q h => by simp at h
  have hD : va_D A [] := ⟨fun i j p q h => by simp at h, fun k q h => by simp at h⟩
  generalize H1 = H at hP hS ⊢
  refine lv_astore_n (lv' := [(3, .ref q9), (0, .ref x), (1, .int p0), (2, .ref ho)]) hx hb dL_digest_11 rfl hl (by decide) rfl (fun ls hl => ?_)
  refine lv_iconst (v := 1) hx hb dL_digest_12 (by decide) ?_
  have hP := hP.sub (ws' := []) [] rfl
  have hD := hD.sub (ws' := []) [] (by decide) rfl
  have hK := hK.sub (tys' := []) [] rfl
  exact W.iret hx hb hr (fun t ht hW => ⟨⟨_, (), rfl, rfl, by rw [ht]; exact hP, va_K.moved hW.alike hK, hD⟩, hS.F ht⟩) hS.2.2 dL_digest_13

set_option maxHeartbeats 4000000 in
set_option maxRecDepth 100000 in
theorem k_X9_isRow_2 (l : Launch) (dC : Nat → ClassId) (dI : Nat → Nat → Nat) (mo : Nat) (p0 : Int32) (m_disk : Nat) (P : Nat) (m_tape : Nat) (m_slots : Nat) (m_leaves : Nat) (m_fresh : Nat) (m_digestAt : Nat) (m_isGroup : Nat) (m_counts : Nat) (m_versionRow : Nat) (m_state : Nat) (m_names : Nat) (m_keptRow : Nat) (m_inSlot : Nat) (m_inAt : Nat) (m_inSize : Nat) (m_inDigest : Nat) (hf0 : 0 ≤ p0) : Met l yX9_isRow wsX9_isRow ({ frames := 1, cells := 0, slots := 0, locals := 20 }) (va_Pc [.ref mo, .int p0] (fun U => va_P (dC, dI) vwCl [(mo, .inr (11, [.ref m_disk, .int (nI P), .int ((8224 : Int32) + ((26 : Int32) * (nI P))), .int (1 : Int32), .int 0, .int (-1 : Int32), .int 0, .int (0 : Int32), .ref m_tape, .int 0, .ref m_slots, .ref m_leaves, .int 0, .int 0, .ref m_fresh, .int 0, .int 0, .int 0, .ref m_digestAt, .ref m_isGroup, .ref m_counts, .int 0, .int 0, .long 0, .int 0, .ref m_versionRow, .int 0, .long 0, .ref m_state, .ref m_names, .int 0, .ref m_keptRow, .int 0, .ref m_inSlot, .ref m_inAt, .ref m_inSize, .ref m_inDigest, .int 0]))] U.heap ∧ va_K (dC, dI) vwCl [] U)) (vp_Si (fun r => r = (0 : Int32))) 0 0 (fun _ => False) := by
  refine Met.ofW (cc := cX9_isRow) (maxL := 2) (ret := (some .boolean)) (by decide) rfl ?_
  intro p e s m args below meth c s₁ B hml hv
  obtain ⟨rfl, hP, hK⟩ := hv
  have hx := B.exec
  have hb := B.bytes
  have hr := B.returns
  have hts := atoms_spec (ws := wsX9_isRow) B.pre
  have hown : s.vm.findClass RX9 = some m.cls := findClass_of_methodNamed B.named
  have hlocks := B.notSynchronized
  have hl := lv_entry ([.ref mo, .int p0]) (n := 2) (Nat.le_of_ble_eq_true rfl)
  rw [lg_entry_eq]
  generalize (lg_sl ([.ref mo, .int p0]) ++ List.replicate (2 - (lg_sl ([.ref mo, .int p0])).length) Slot.unset).toArray = ls at hl ⊢
  have hl : lv_has ls 2 [(0, .ref mo), (1, .int p0)] := hl
  refine lv_iload_n hx hb dX9_isRow_0 rfl (lv_at hl 1 rfl) ?_
  refine lv_if_lt (tgt := 29) hx hb dX9_isRow_1 (by decide) (fun c_1 => ?_) (fun c_1 => ?_)
  · skip
    exact absurd c_1 (Int32.not_lt.mpr hf0)
  · skip
    refine lv_iload_n hx hb dX9_isRow_4 rfl (lv_at hl 1 rfl) ?_
    refine lv_aload_n hx hb dX9_isRow_5 rfl (lv_at hl 0 rfl) ?_
    refine va_get (D := (dC, dI)) (ci := 11) (v := .int (1 : Int32)) (C := RX9) (T := TX9) (N := 38) hx hb hts (by decide +kernel) hown hK hP 0 rfl rfl 3 (by decide) (hts (.fieldLink RX9 72 "BlockLogModel" "on" "Z") (by decide +kernel)) (fun _ h9 => h9) rfl dX9_isRow_6 ?_
    refine lv_if_eq (tgt := 19) hx hb dX9_isRow_9 (by decide) (fun c_2 => ?_) (fun c_2 => ?_)
    · skip
      exact absurd c_2 (by decide)
    · skip
      refine lv_aload_n hx hb dX9_isRow_12 rfl (lv_at hl 0 rfl) ?_
      have hPc := hP.sub (ws' := [(mo, .inr (11, [.ref m_disk, .int (nI P), .int ((8224 : Int32) + ((26 : Int32) * (nI P))), .int (1 : Int32), .int 0, .int (-1 : Int32), .int 0, .int (0 : Int32), .ref m_tape, .int 0, .ref m_slots, .ref m_leaves, .int 0, .int 0, .ref m_fresh, .int 0, .int 0, .int 0, .ref m_digestAt, .ref m_isGroup, .ref m_counts, .int 0, .int 0, .long 0, .int 0, .ref m_versionRow, .int 0, .long 0, .ref m_state, .ref m_names, .int 0, .ref m_keptRow, .int 0, .ref m_inSlot, .ref m_inAt, .ref m_inSize, .ref m_inDigest, .int 0]))]) [0] rfl
      have hKc := hK.sub (tys' := []) [] rfl
      refine vp_callSi (va_Run.run (va_runV (As := []) (rest := [.int p0]) ⟨hx, hb, hml, hown, hts⟩ (k_X9_rows_1 l dC dI mo m_disk P m_tape m_slots m_leaves m_fresh m_digestAt m_isGroup m_counts m_versionRow m_state m_names m_keptRow m_inSlot m_inAt m_inSize m_inDigest) (cwV 0 hts gX9_isRow_X9_rows rfl rfl rfl (by decide +kernel) ⟨Nat.le_of_ble_eq_true rfl, Nat.le_of_ble_eq_true rfl⟩) ⟨fun a U g mk q => by obtain ⟨q0, qP, qK⟩ := q; exact ⟨q0, qP, va_K.moved (u := U) (U := U.calling g mk a) (Vm.Alike.refl U.vm) qK⟩, va_recv hK hP (ci := 11) (q := (RX9, TX9, 38)) rfl (q0 := 0) rfl, fun U hU hW => ⟨rfl, by rw [hU]; exact hPc, va_K.moved hW.alike hKc⟩⟩ rfl rfl hl.1 rfl (lv_room (Nat.le_of_ble_eq_true rfl)) dX9_isRow_13 ⟨Nat.le_of_ble_eq_true rfl, Nat.le_of_ble_eq_true rfl⟩)) (fun r_3 er_3 => ?_)
      replace er_3 := er_3.trans (show _ = (0 : Int32) by decide +kernel)
      subst er_3
      refine lv_goto (tgt := 22) hx hb dX9_isRow_16 (by decide) ?_
      refine lv_icmp_ge (tgt := 29) hx hb dX9_isRow_22 (by decide) (fun c_4 => ?_) (fun c_4 => ?_)
      · skip
        refine lv_iconst (v := 0) hx hb dX9_isRow_29 (by decide) ?_
        exact W.zret hx hb hr rfl (fun t ht hW => ⟨_, rfl, rfl, ht⟩) (fun q h => by cases h) dX9_isRow_30
      · skip
        exact absurd hf0 c_4

set_option maxHeartbeats 4000000 in
set_option maxRecDepth 100000 in
theorem k_X9_digest_2 (l : Launch) (dC : Nat → ClassId) (dI : Nat → Nat → Nat) (mo : Nat) (p0 : Int32) (m_disk : Nat) (P : Nat) (m_tape : Nat) (m_slots : Nat) (m_leaves : Nat) (m_fresh : Nat) (m_digestAt : Nat) (m_isGroup : Nat) (m_counts : Nat) (m_versionRow : Nat) (m_state : Nat) (m_names : Nat) (m_keptRow : Nat) (m_inSlot : Nat) (m_inAt : Nat) (m_inSize : Nat) (m_inDigest : Nat) (sz : Nat) (hf0 : 0 ≤ p0) : Met l yX9_digest wsX9_digest ({ frames := 2, cells := 0, slots := 0, locals := 41 }) (va_Pc [.ref mo, .int p0] (fun U => U.heap.size = sz ∧ va_P (dC, dI) vwCl [(mo, .inr (11, [.ref m_disk, .int (nI P), .int ((8224 : Int32) + ((26 : Int32) * (nI P))), .int (1 : Int32), .int 0, .int (-1 : Int32), .int 0, .int (0 : Int32), .ref m_tape, .int 0, .ref m_slots, .ref m_leaves, .int 0, .int 0, .ref m_fresh, .int 0, .int 0, .int 0, .ref m_digestAt, .ref m_isGroup, .ref m_counts, .int 0, .int 0, .long 0, .int 0, .ref m_versionRow, .int 0, .long 0, .ref m_state, .ref m_names, .int 0, .ref m_keptRow, .int 0, .ref m_inSlot, .ref m_inAt, .ref m_inSize, .ref m_inDigest, .int 0]))] U.heap ∧ va_K (dC, dI) vwCl [] U ∧ va_D (fun _ => True) [(mo, .inr (11, [.ref m_disk, .int (nI P), .int ((8224 : Int32) + ((26 : Int32) * (nI P))), .int (1 : Int32), .int 0, .int (-1 : Int32), .int 0, .int (0 : Int32), .ref m_tape, .int 0, .ref m_slots, .ref m_leaves, .int 0, .int 0, .ref m_fresh, .int 0, .int 0, .int 0, .ref m_digestAt, .ref m_isGroup, .ref m_counts, .int 0, .int 0, .long 0, .int 0, .ref m_versionRow, .int 0, .long 0, .ref m_state, .ref m_names, .int 0, .ref m_keptRow, .int 0, .ref m_inSlot, .ref m_inAt, .ref m_inSize, .ref m_inDigest, .int 0]))])) (va_Ql (fun r (_ : Unit) => r = (0 : Int64)) (fun (_ : Unit) t => va_P (dC, dI) vwCl [(mo, .inr (11, [.ref m_disk, .int (nI P), .int ((8224 : Int32) + ((26 : Int32) * (nI P))), .int (1 : Int32), .int 0, .int (-1 : Int32), .int 0, .int (0 : Int32), .ref m_tape, .int 0, .ref m_slots, .ref m_leaves, .int 0, .int (1 : Int32), .ref m_fresh, .int 0, .int 0, .int 0, .ref m_digestAt, .ref m_isGroup, .ref m_counts, .int 0, .int 0, .long 0, .int 0, .ref m_versionRow, .int 0, .long 0, .ref m_state, .ref m_names, .int 0, .ref m_keptRow, .int 0, .ref m_inSlot, .ref m_inAt, .ref m_inSize, .ref m_inDigest, .int 0]))] t.heap ∧ va_K (dC, dI) vwCl [] t ∧ va_D (va_A [(mo, .inr (11, [.ref m_disk, .int (nI P), .int ((8224 : Int32) + ((26 : Int32) * (nI P))), .int (1 : Int32), .int 0, .int (-1 : Int32), .int 0, .int (0 : Int32), .ref m_tape, .int 0, .ref m_slots, .ref m_leaves, .int 0, .int 0, .ref m_fresh, .int 0, .int 0, .int 0, .ref m_digestAt, .ref m_isGroup, .ref m_counts, .int 0, .int 0, .long 0, .int 0, .ref m_versionRow, .int 0, .long 0, .ref m_state, .ref m_names, .int 0, .ref m_keptRow, .int 0, .ref m_inSlot, .ref m_inAt, .ref m_inSize, .ref m_inDigest, .int 0]))] sz) [(mo, .inr (11, [.ref m_disk, .int (nI P), .int ((8224 : Int32) + ((26 : Int32) * (nI P))), .int (1 : Int32), .int 0, .int (-1 : Int32), .int 0, .int (0 : Int32), .ref m_tape, .int 0, .ref m_slots, .ref m_leaves, .int 0, .int (1 : Int32), .ref m_fresh, .int 0, .int 0, .int 0, .ref m_digestAt, .ref m_isGroup, .ref m_counts, .int 0, .int 0, .long 0, .int 0, .ref m_versionRow, .int 0, .long 0, .ref m_state, .ref m_names, .int 0, .ref m_keptRow, .int 0, .ref m_inSlot, .ref m_inAt, .ref m_inSize, .ref m_inDigest, .int 0]))]) (va_A [(mo, .inr (11, [.ref m_disk, .int (nI P), .int ((8224 : Int32) + ((26 : Int32) * (nI P))), .int (1 : Int32), .int 0, .int (-1 : Int32), .int 0, .int (0 : Int32), .ref m_tape, .int 0, .ref m_slots, .ref m_leaves, .int 0, .int 0, .ref m_fresh, .int 0, .int 0, .int 0, .ref m_digestAt, .ref m_isGroup, .ref m_counts, .int 0, .int 0, .long 0, .int 0, .ref m_versionRow, .int 0, .long 0, .ref m_state, .ref m_names, .int 0, .ref m_keptRow, .int 0, .ref m_inSlot, .ref m_inAt, .ref m_inSize, .ref m_inDigest, .int 0]))] sz)) 0 0 (va_A [(mo, .inr (11, [.ref m_disk, .int (nI P), .int ((8224 : Int32) + ((26 : Int32) * (nI P))), .int (1 : Int32), .int 0, .int (-1 : Int32), .int 0, .int (0 : Int32), .ref m_tape, .int 0, .ref m_slots, .ref m_leaves, .int 0, .int 0, .ref m_fresh, .int 0, .int 0, .int 0, .ref m_digestAt, .ref m_isGroup, .ref m_counts, .int 0, .int 0, .long 0, .int 0, .ref m_versionRow, .int 0, .long 0, .ref m_state, .ref m_names, .int 0, .ref m_keptRow, .int 0, .ref m_inSlot, .ref m_inAt, .ref m_inSize, .ref m_inDigest, .int 0]))] sz) := by
  refine Met.ofW (cc := cX9_digest) (maxL := 2) (ret := (some .long)) (by decide) rfl ?_
  intro p e s m args below meth c s₁ B hml hv
  obtain ⟨rfl, hsz, hP, hK, hD0⟩ := hv
  have hx := B.exec
  have hb := B.bytes
  have hr := B.returns
  have hts := atoms_spec (ws := wsX9_digest) B.pre
  have hown : s.vm.findClass RX9 = some m.cls := findClass_of_methodNamed B.named
  have hlocks := B.notSynchronized
  subst hsz
  have hD := hD0.self (sz := s.heap.size)
  generalize hAe : va_A [(mo, .inr (11, [.ref m_disk, .int (nI P), .int ((8224 : Int32) + ((26 : Int32) * (nI P))), .int (1 : Int32), .int 0, .int (-1 : Int32), .int 0, .int (0 : Int32), .ref m_tape, .int 0, .ref m_slots, .ref m_leaves, .int 0, .int 0, .ref m_fresh, .int 0, .int 0, .int 0, .ref m_digestAt, .ref m_isGroup, .ref m_counts, .int 0, .int 0, .long 0, .int 0, .ref m_versionRow, .int 0, .long 0, .ref m_state, .ref m_names, .int 0, .ref m_keptRow, .int 0, .ref m_inSlot, .ref m_inAt, .ref m_inSize, .ref m_inDigest, .int 0]))] s.heap.size = A at hD ⊢
  have hA : ∀ q : Nat, s.heap.size ≤ q → A q := fun q h => by rw [← hAe]; exact Or.inr h
  have hS : va_S A s.heap s.heap [] := va_S.rf
  have hl := lv_entry ([.ref mo, .int p0]) (n := 2) (Nat.le_of_ble_eq_true rfl)
  rw [lg_entry_eq]
  generalize (lg_sl ([.ref mo, .int p0]) ++ List.replicate (2 - (lg_sl ([.ref mo, .int p0])).length) Slot.unset).toArray = ls at hl ⊢
  have hl : lv_has ls 2 [(0, .ref mo), (1, .int p0)] := hl
  refine lv_aload_n hx hb dX9_digest_0 rfl (lv_at hl 0 rfl) ?_
  refine lv_aload_n hx hb dX9_digest_1 rfl (lv_at hl 0 rfl) ?_
  refine lv_iload_n hx hb dX9_digest_2 rfl (lv_at hl 1 rfl) ?_
  have hPc := hP.sub (ws' := [(mo, .inr (11, [.ref m_disk, .int (nI P), .int ((8224 : Int32) + ((26 : Int32) * (nI P))), .int (1 : Int32), .int 0, .int (-1 : Int32), .int 0, .int (0 : Int32), .ref m_tape, .int 0, .ref m_slots, .ref m_leaves, .int 0, .int 0, .ref m_fresh, .int 0, .int 0, .int 0, .ref m_digestAt, .ref m_isGroup, .ref m_counts, .int 0, .int 0, .long 0, .int 0, .ref m_versionRow, .int 0, .long 0, .ref m_state, .ref m_names, .int 0, .ref m_keptRow, .int 0, .ref m_inSlot, .ref m_inAt, .ref m_inSize, .ref m_inDigest, .int 0]))]) [0] rfl
  have hKc := hK.sub (tys' := []) [] rfl
  refine vp_callSi (va_Run.run (va_runV (As := [.int p0]) (rest := [.ref mo]) ⟨hx, hb, hml, hown, hts⟩ (k_X9_isRow_2 l dC dI mo p0 m_disk P m_tape m_slots m_leaves m_fresh m_digestAt m_isGroup m_counts m_versionRow m_state m_names m_keptRow m_inSlot m_inAt m_inSize m_inDigest hf0) (cwV 1 hts gX9_digest_X9_isRow rfl rfl rfl (by decide +kernel) ⟨Nat.le_of_ble_eq_true rfl, Nat.le_of_ble_eq_true rfl⟩) ⟨fun a U g mk q => by obtain ⟨q0, qP, qK⟩ := q; exact ⟨q0, qP, va_K.moved (u := U) (U := U.calling g mk a) (Vm.Alike.refl U.vm) qK⟩, va_recv hK hP (ci := 11) (q := (RX9, TX9, 38)) rfl (q0 := 0) rfl, fun U hU hW => ⟨rfl, by rw [hU]; exact hPc, va_K.moved hW.alike hKc⟩⟩ rfl rfl hl.1 rfl (lv_room (Nat.le_of_ble_eq_true rfl)) dX9_digest_3 ⟨Nat.le_of_ble_eq_true rfl, Nat.le_of_ble_eq_true rfl⟩)) (fun r_1 er_1 => ?_)
  subst er_1
  refine lv_if_ne (tgt := 13) hx hb dX9_digest_6 (by decide) (fun c_2 => ?_) (fun c_2 => ?_)
  · skip
    exact absurd (by decide) c_2
  · skip
    refine lv_iconst (v := 1) hx hb dX9_digest_9 (by decide) ?_
    refine lv_goto (tgt := 25) hx hb dX9_digest_10 (by decide) ?_
    refine va_put (D := (dC, dI)) (ci := 11) (v := .int (1 : Int32)) (ty := .int) (C := RX9) (T := TX9) (N := 38) hx hb hts (by decide +kernel) tyX9 tyX9_ok nmX9 hown hK hP hD hS 0 rfl rfl 13 (by decide) (hts (.fieldLink RX9 91 "BlockLogModel" "thrown" "I") (by decide +kernel)) (fun _ h9 => h9) rfl (by decide +kernel) rfl rfl (Nat.le_of_ble_eq_true rfl) dX9_digest_25 (fun H locs hP hD hS => ?_)
    have hP : va_P (dC, dI) vwCl [(mo, .inr (11, [.ref m_disk, .int (nI P), .int ((8224 : Int32) + ((26 : Int32) * (nI P))), .int (1 : Int32), .int 0, .int (-1 : Int32), .int 0, .int (0 : Int32), .ref m_tape, .int 0, .ref m_slots, .ref m_leaves, .int 0, .int (1 : Int32), .ref m_fresh, .int 0, .int 0, .int 0, .ref m_digestAt, .ref m_isGroup, .ref m_counts, .int 0, .int 0, .long 0, .int 0, .ref m_versionRow, .int 0, .long 0, .ref m_state, .ref m_names, .int 0, .ref m_keptRow, .int 0, .ref m_inSlot, .ref m_inAt, .ref m_inSize, .ref m_inDigest, .int 0]))] H := hP
    have hD : va_D A [(mo, .inr (11, [.ref m_disk, .int (nI P), .int ((8224 : Int32) + ((26 : Int32) * (nI P))), .int (1 : Int32), .int 0, .int (-1 : Int32), .int 0, .int (0 : Int32), .ref m_tape, .int 0, .ref m_slots, .ref m_leaves, .int 0, .int (1 : Int32), .ref m_fresh, .int 0, .int 0, .int 0, .ref m_digestAt, .ref m_isGroup, .ref m_counts, .int 0, .int 0, .long 0, .int 0, .ref m_versionRow, .int 0, .long 0, .ref m_state, .ref m_names, .int 0, .ref m_keptRow, .int 0, .ref m_inSlot, .ref m_inAt, .ref m_inSize, .ref m_inDigest, .int 0]))] := hD
    refine lv_aload_n hx hb dX9_digest_28 rfl (lv_at hl 0 rfl) ?_
    refine va_get (D := (dC, dI)) (ci := 11) (v := .int (1 : Int32)) (C := RX9) (T := TX9) (N := 38) hx hb hts (by decide +kernel) hown hK hP 0 rfl rfl 13 (by decide) (hts (.fieldLink RX9 91 "BlockLogModel" "thrown" "I") (by decide +kernel)) (fun _ h9 => h9) rfl dX9_digest_29 ?_
    refine lv_if_le (tgt := 37) hx hb dX9_digest_32 (by decide) (fun c_3 => ?_) (fun c_3 => ?_)
    · skip
      exact absurd c_3 (by decide)
    · skip
      refine lv_lconst (v := 0) hx hb dX9_digest_35 (by decide) ?_
      have hP := hP.sub (ws' := [(mo, .inr (11, [.ref m_disk, .int (nI P), .int ((8224 : Int32) + ((26 : Int32) * (nI P))), .int (1 : Int32), .int 0, .int (-1 : Int32), .int 0, .int (0 : Int32), .ref m_tape, .int 0, .ref m_slots, .ref m_leaves, .int 0, .int (1 : Int32), .ref m_fresh, .int 0, .int 0, .int 0, .ref m_digestAt, .ref m_isGroup, .ref m_counts, .int 0, .int 0, .long 0, .int 0, .ref m_versionRow, .int 0, .long 0, .ref m_state, .ref m_names, .int 0, .ref m_keptRow, .int 0, .ref m_inSlot, .ref m_inAt, .ref m_inSize, .ref m_inDigest, .int 0]))]) [0] rfl
      have hD := hD.sub (ws' := [(mo, .inr (11, [.ref m_disk, .int (nI P), .int ((8224 : Int32) + ((26 : Int32) * (nI P))), .int (1 : Int32), .int 0, .int (-1 : Int32), .int 0, .int (0 : Int32), .ref m_tape, .int 0, .ref m_slots, .ref m_leaves, .int 0, .int (1 : Int32), .ref m_fresh, .int 0, .int 0, .int 0, .ref m_digestAt, .ref m_isGroup, .ref m_counts, .int 0, .int 0, .long 0, .int 0, .ref m_versionRow, .int 0, .long 0, .ref m_state, .ref m_names, .int 0, .ref m_keptRow, .int 0, .ref m_inSlot, .ref m_inAt, .ref m_inSize, .ref m_inDigest, .int 0]))]) [0] (by decide) rfl
      have hK := hK.sub (tys' := []) [] rfl
      exact W.lret hx hb hr (fun t ht hW => ⟨⟨_, (), rfl, rfl, by rw [ht]; exact hP, va_K.moved hW.alike hK, hD⟩, hS.F ht⟩) hS.2.2 dX9_digest_36

set_option maxHeartbeats 4000000 in
set_option maxRecDepth 100000 in
theorem k_X8_vote_1 (l : Launch) (hl0 : l.stackTraces = false) (dC : Nat → ClassId) (dI : Nat → Nat → Nat) (x : Nat) (p0 : Int32) (p1 : Int32) (w2 : Int64) (ds : Nat) (tp : Nat) (rr : Nat) (so : Nat) (pu : Nat) (sn : Nat) (im : Nat) (cs : Nat) (cl : Nat) (pg : Int32) (dl : Nat) (dr : Nat) (dt : Nat) (sz : Nat) (hf0 : p0 < 1) : vx_Met l yX8_vote wsX8_vote ({ frames := 7, cells := 1, slots := 6, locals := 110 }) (va_Pc [.ref x, .int p0, .int p1, .long w2] (fun U => U.heap.size = sz ∧ va_P (dC, dI) vwCl [(x, .inr (10, [.ref tp, .ref ds, .ref rr, .ref so, .ref pu, .ref sn, .ref im, .ref cs, .ref cl, .int (0 : Int32)])), (ds, .inr (3, [.int pg, .ref dl, .ref dr, .ref dt, .int (1 : Int32), .int (-1 : Int32), .int (0 : Int32)]))] U.heap ∧ va_K (dC, dI) vwCl [] U ∧ va_D (fun _ => True) [(x, .inr (10, [.ref tp, .ref ds, .ref rr, .ref so, .ref pu, .ref sn, .ref im, .ref cs, .ref cl, .int (0 : Int32)])), (ds, .inr (3, [.int pg, .ref dl, .ref dr, .ref dt, .int (1 : Int32), .int (-1 : Int32), .int (0 : Int32)]))] ∧ gx_E (va_A [(x, .inr (10, [.ref tp, .ref ds, .ref rr, .ref so, .ref pu, .ref sn, .ref im, .ref cs, .ref cl, .int (0 : Int32)])), (ds, .inr (3, [.int pg, .ref dl, .ref dr, .ref dt, .int (1 : Int32), .int (-1 : Int32), .int (0 : Int32)]))] sz) U)) (va_Qi (fun (_ : Int32) (_ : Unit) => False) (fun _ _ => True) (va_A [(x, .inr (10, [.ref tp, .ref ds, .ref rr, .ref so, .ref pu, .ref sn, .ref im, .ref cs, .ref cl, .int (0 : Int32)])), (ds, .inr (3, [.int pg, .ref dl, .ref dr, .ref dt, .int (1 : Int32), .int (-1 : Int32), .int (0 : Int32)]))] sz)) (vx_X (fun _ : Unit => True) (fun E _ _ => E = "java/lang/IllegalArgumentException") (va_A [(x, .inr (10, [.ref tp, .ref ds, .ref rr, .ref so, .ref pu, .ref sn, .ref im, .ref cs, .ref cl, .int (0 : Int32)])), (ds, .inr (3, [.int pg, .ref dl, .ref dr, .ref dt, .int (1 : Int32), .int (-1 : Int32), .int (0 : Int32)]))] sz)) 1 6 (va_A [(x, .inr (10, [.ref tp, .ref ds, .ref rr, .ref so, .ref pu, .ref sn, .ref im, .ref cs, .ref cl, .int (0 : Int32)])), (ds, .inr (3, [.int pg, .ref dl, .ref dr, .ref dt, .int (1 : Int32), .int (-1 : Int32), .int (0 : Int32)]))] sz) := by
  refine vx_ofW (cc := cX8_vote) (maxL := 11) (ret := (some .int)) (by decide) rfl ?_
  intro p e s m args below meth c s₁ B hml hno hv
  obtain ⟨rfl, hsz, hP, hK, hD0, hG⟩ := hv
  have hx := B.exec
  have hb := B.bytes
  have hr := B.returns
  have hts := atoms_spec (ws := wsX8_vote) B.pre
  have hown : s.vm.findClass RX8 = some m.cls := findClass_of_methodNamed B.named
  have hlocks := B.notSynchronized
  subst hsz
  have hD := hD0.self (sz := s.heap.size)
  generalize hAe : va_A [(x, .inr (10, [.ref tp, .ref ds, .ref rr, .ref so, .ref pu, .ref sn, .ref im, .ref cs, .ref cl, .int (0 : Int32)])), (ds, .inr (3, [.int pg, .ref dl, .ref dr, .ref dt, .int (1 : Int32), .int (-1 : Int32), .int (0 : Int32)]))] s.heap.size = A at hD hG ⊢
  have hA : ∀ q : Nat, s.heap.size ≤ q → A q := fun q h => by rw [← hAe]; exact Or.inr h
  have hS : va_S A s.heap s.heap [] := va_S.rf
  have hl := lv_entry ([.ref x, .int p0, .int p1, .long w2]) (n := 11) (Nat.le_of_ble_eq_true rfl)
  rw [lg_entry_eq]
  generalize (lg_sl ([.ref x, .int p0, .int p1, .long w2]) ++ List.replicate (11 - (lg_sl ([.ref x, .int p0, .int p1, .long w2])).length) Slot.unset).toArray = ls at hl ⊢
  have hl : lv_has ls 11 [(0, .ref x), (1, .int p0), (2, .int p1), (3, .long w2)] := hl
  refine lv_aload_n hx hb dX8_vote_0 rfl (lv_at hl 0 rfl) ?_
  have hPc := hP.sub (ws' := [(x, .inr (10, [.ref tp, .ref ds, .ref rr, .ref so, .ref pu, .ref sn, .ref im, .ref cs, .ref cl, .int (0 : Int32)])), (ds, .inr (3, [.int pg, .ref dl, .ref dr, .ref dt, .int (1 : Int32), .int (-1 : Int32), .int (0 : Int32)]))]) [0, 1] rfl
  have hKc := hK.sub (tys' := []) [] rfl
  refine va_csv (va_Run.run (va_runV (As := []) (rest := []) ⟨hx, hb, hml, hown, hts⟩ (k_X8_demandPower_1 l dC dI x ds tp rr so pu sn im cs cl pg dl dr dt) (cwV 0 hts gX8_vote_X8_demandPower rfl rfl rfl (by decide +kernel) ⟨Nat.le_of_ble_eq_true rfl, Nat.le_of_ble_eq_true rfl⟩) ⟨fun a U g mk q => by obtain ⟨q0, qP, qK, qG⟩ := q; exact ⟨q0, qP, va_K.moved (u := U) (U := U.calling g mk a) (Vm.Alike.refl U.vm) qK, qG.same rfl⟩, va_recv hK hP (ci := 10) (q := (RX8, TX8, 10)) rfl (q0 := 0) rfl, fun U hU hW => ⟨rfl, by rw [hU]; exact hPc, va_K.moved hW.alike hKc, hG.1.warm hW⟩⟩ rfl rfl hl.1 rfl (lv_room (Nat.le_of_ble_eq_true rfl)) dX8_vote_1 ⟨Nat.le_of_ble_eq_true rfl, Nat.le_of_ble_eq_true rfl⟩)) (fun _ => ?_)
  refine lv_iload_n hx hb dX8_vote_4 rfl (lv_at hl 1 rfl) ?_
  have hPc := hP.sub (ws' := []) [] rfl
  have hKc := hK.sub (tys' := []) [] rfl
  have hDc := hD.sub (ws' := []) [] (by decide) rfl
  have hFc := va_free (wc := []) hD hS hA [] rfl
  refine vx_callv (vx_runS (As := [.int p0]) (rest := []) ⟨hx, hb, hml, hown, hts⟩ (k_X8_demandHeight_1 l hl0 dC dI p0 _ hf0) (va_cwS 1 hts gX8_vote_X8_demandHeight rfl rfl rfl (by decide +kernel) ⟨Nat.le_of_ble_eq_true rfl, Nat.le_of_ble_eq_true rfl⟩) ⟨fun a U g mk q => by obtain ⟨q0, q1, qP, qK, qD, qG⟩ := q; exact ⟨q0, q1, qP, va_K.moved (u := U) (U := U.calling g mk a) (Vm.Alike.refl U.vm) qK, qD, qG.same rfl rfl⟩, fun U hU hW => ⟨rfl, by rw [hU], by rw [hU]; exact hPc, va_K.moved hW.alike hKc, hDc.weaken (fun _ _ _ _ => trivial), hG.go hW hU hS hFc⟩⟩ rfl rfl hl.1 rfl (lv_room (Nat.le_of_ble_eq_true rfl)) dX8_vote_5 ⟨Nat.le_of_ble_eq_true rfl, Nat.le_of_ble_eq_true rfl⟩) hS (fun q _ h => hFc q h) hFc (fun q _ h => hFc q h) (fun E9 ce q9 u t H1 locs1 ht hvm hp hE hz hk hS hcell hv hcl => ?_) (fun u t H1 locs1 ht hvm hp hB hz hk hS => hp.elim)
  subst hE
  exact vx_out (fun x h => (hno x h).elim) hlocks hcell hv hcl (fun t ht hW => ⟨(), trivial, rfl, hS.F ht⟩) hS.2.2 (Nat.le_refl _) (Nat.le_refl _)

set_option maxHeartbeats 4000000 in
set_option maxRecDepth 100000 in
theorem k_L_vote_1 (l : Launch) (hl0 : l.stackTraces = false) (dC : Nat → ClassId) (dI : Nat → Nat → Nat) (x : Nat) (p0 : Int32) (p1 : Int32) (w2 : Int64) (ho : Nat) (ds : Nat) (tp : Nat) (rr : Nat) (so : Nat) (pu : Nat) (sn : Nat) (im : Nat) (cs : Nat) (cl : Nat) (pg : Int32) (dl : Nat) (dr : Nat) (dt : Nat) (sz : Nat) (hf0 : p0 < 1) : Met l yL_vote wsL_vote ({ frames := 8, cells := 1, slots := 6, locals := 140 }) (va_Pc [.ref x, .int p0, .int p1, .long w2, .ref ho] (fun U => U.heap.size = sz ∧ va_P (dC, dI) vwCl [(x, .inr (10, [.ref tp, .ref ds, .ref rr, .ref so, .ref pu, .ref sn, .ref im, .ref cs, .ref cl, .int (0 : Int32)])), (ds, .inr (3, [.int pg, .ref dl, .ref dr, .ref dt, .int (1 : Int32), .int (-1 : Int32), .int (0 : Int32)]))] U.heap ∧ va_K (dC, dI) vwCl [] U ∧ va_D (fun _ => True) [(x, .inr (10, [.ref tp, .ref ds, .ref rr, .ref so, .ref pu, .ref sn, .ref im, .ref cs, .ref cl, .int (0 : Int32)])), (ds, .inr (3, [.int pg, .ref dl, .ref dr, .ref dt, .int (1 : Int32), .int (-1 : Int32), .int (0 : Int32)]))] ∧ gx_E (va_A [(x, .inr (10, [.ref tp, .ref ds, .ref rr, .ref so, .ref pu, .ref sn, .ref im, .ref cs, .ref cl, .int (0 : Int32)])), (ds, .inr (3, [.int pg, .ref dl, .ref dr, .ref dt, .int (1 : Int32), .int (-1 : Int32), .int (0 : Int32)]))] sz) U)) (va_Qi (fun r (_ : Unit) => r = (2 : Int32)) (fun (_ : Unit) t => va_P (dC, dI) vwCl [] t.heap ∧ va_K (dC, dI) vwCl [] t ∧ va_D (va_A [(x, .inr (10, [.ref tp, .ref ds, .ref rr, .ref so, .ref pu, .ref sn, .ref im, .ref cs, .ref cl, .int (0 : Int32)])), (ds, .inr (3, [.int pg, .ref dl, .ref dr, .ref dt, .int (1 : Int32), .int (-1 : Int32), .int (0 : Int32)]))] sz) []) (va_A [(x, .inr (10, [.ref tp, .ref ds, .ref rr, .ref so, .ref pu, .ref sn, .ref im, .ref cs, .ref cl, .int (0 : Int32)])), (ds, .inr (3, [.int pg, .ref dl, .ref dr, .ref dt, .int (1 : Int32), .int (-1 : Int32), .int (0 : Int32)]))] sz)) 1 6 (va_A [(x, .inr (10, [.ref tp, .ref ds, .ref rr, .ref so, .ref pu, .ref sn, .ref im, .ref cs, .ref cl, .int (0 : Int32)])), (ds, .inr (3, [.int pg, .ref dl, .ref dr, .ref dt, .int (1 : Int32), .int (-1 : Int32), .int (0 : Int32)]))] sz) := by
  refine va_MetW (cc := cL_vote) (maxL := 7) (ret := (some .int)) (hh := [(0, 12, 15, 25), (0, 12, 19, 13)]) (by decide) rfl ?_
  intro p e s m args below meth c s₁ B hml hv
  obtain ⟨rfl, hsz, hP, hK, hD0, hG⟩ := hv
  have hx := B.exec
  have hb := B.bytes
  have hr := B.returns
  have hts := atoms_spec (ws := wsL_vote) B.pre
  have hown : s.vm.findClass RL = some m.cls := findClass_of_methodNamed B.named
  have hlocks := B.notSynchronized
  have htab := vx_table (x := yL_vote) B (hts (.codeWith yL_vote cL_vote 7 (some .int) [(0, 12, 15, 25), (0, 12, 19, 13)]) List.mem_cons_self)
  subst hsz
  have hD := hD0.self (sz := s.heap.size)
  generalize hAe : va_A [(x, .inr (10, [.ref tp, .ref ds, .ref rr, .ref so, .ref pu, .ref sn, .ref im, .ref cs, .ref cl, .int (0 : Int32)])), (ds, .inr (3, [.int pg, .ref dl, .ref dr, .ref dt, .int (1 : Int32), .int (-1 : Int32), .int (0 : Int32)]))] s.heap.size = A at hD hG ⊢
  have hA : ∀ q : Nat, s.heap.size ≤ q → A q := fun q h => by rw [← hAe]; exact Or.inr h
  have hS : va_S A s.heap s.heap [] := va_S.rf
  have hl := lv_entry ([.ref x, .int p0, .int p1, .long w2, .ref ho]) (n := 7) (Nat.le_of_ble_eq_true rfl)
  rw [lg_entry_eq]
  generalize (lg_sl ([.ref x, .int p0, .int p1, .long w2, .ref ho]) ++ List.replicate (7 - (lg_sl ([.ref x, .int p0, .int p1, .long w2, .ref ho])).length) Slot.unset).toArray = ls at hl ⊢
  have hl : lv_has ls 7 [(0, .ref x), (1, .int p0), (2, .int p1), (3, .long w2), (5, .ref ho)] := hl
  refine lv_aload hx hb dL_vote_0 (lv_at hl 4 rfl) ?_
  refine lv_iconst (v := 0) hx hb dL_vote_2 (by decide) ?_
  refine lv_aload_n hx hb dL_vote_3 rfl (lv_at hl 0 rfl) ?_
  refine lv_iload_n hx hb dL_vote_4 rfl (lv_at hl 1 rfl) ?_
  refine lv_iload_n hx hb dL_vote_5 rfl (lv_at hl 2 rfl) ?_
  refine lv_lload_n hx hb dL_vote_6 rfl (lv_at hl 3 rfl) ?_
  have hPc := hP.sub (ws' := [(x, .inr (10, [.ref tp, .ref ds, .ref rr, .ref so, .ref pu, .ref sn, .ref im, .ref cs, .ref cl, .int (0 : Int32)])), (ds, .inr (3, [.int pg, .ref dl, .ref dr, .ref dt, .int (1 : Int32), .int (-1 : Int32), .int (0 : Int32)]))]) [0, 1] rfl
  have hKc := hK.sub (tys' := []) [] rfl
  have hDc := hD.sub (ws' := [(x, .inr (10, [.ref tp, .ref ds, .ref rr, .ref so, .ref pu, .ref sn, .ref im, .ref cs, .ref cl, .int (0 : Int32)])), (ds, .inr (3, [.int pg, .ref dl, .ref dr, .ref dt, .int (1 : Int32), .int (-1 : Int32), .int (0 : Int32)]))]) [0, 1] (by decide) rfl
  have hFc := va_free (wc := [(x, .inr (10, [.ref tp, .ref ds, .ref rr, .ref so, .ref pu, .ref sn, .ref im, .ref cs, .ref cl, .int (0 : Int32)])), (ds, .inr (3, [.int pg, .ref dl, .ref dr, .ref dt, .int (1 : Int32), .int (-1 : Int32), .int (0 : Int32)]))]) hD hS hA [0, 1] rfl
  refine vx_calli (vx_runV (As := [.int p0, .int p1, .long w2]) (rest := [.int (0 : Int32), .ref ho]) ⟨hx, hb, hml, hown, hts⟩ (k_X8_vote_1 l hl0 dC dI x p0 p1 w2 ds tp rr so pu sn im cs cl pg dl dr dt _ hf0) (cwV 3 hts gL_vote_X8_vote rfl rfl rfl (by decide +kernel) ⟨Nat.le_of_ble_eq_true rfl, Nat.le_of_ble_eq_true rfl⟩) ⟨fun a U g mk q => by obtain ⟨q0, q1, qP, qK, qD, qG⟩ := q; exact ⟨q0, q1, qP, va_K.moved (u := U) (U := U.calling g mk a) (Vm.Alike.refl U.vm) qK, qD, qG.same rfl rfl⟩, va_recv hK hP (ci := 10) (q := (RX8, TX8, 10)) rfl (q0 := 0) rfl, fun U hU hW => ⟨rfl, by rw [hU], by rw [hU]; exact hPc, va_K.moved hW.alike hKc, hDc.weaken (fun _ _ _ _ => trivial), hG.go hW hU hS hFc⟩⟩ rfl rfl hl.1 rfl (lv_room (Nat.le_of_ble_eq_true rfl)) dL_vote_7 ⟨Nat.le_of_ble_eq_true rfl, Nat.le_of_ble_eq_true rfl⟩) hS (fun q _ h => hFc q h) hFc (fun q _ h => hFc q h) (fun E9 ce q9 u t H1 locs1 ht hvm hp hE hz hk hS hcell hv hcl => ?_) (fun r u t H1 locs1 ht hvm hp hB hz hk hS => hp.elim)
  subst hE
  refine vx_catch (name := "java/lang/IllegalArgumentException") hown [⟨0, 12, 15, 25⟩] ⟨0, 12, 19, 13⟩ [] htab (fun z h => by simp only [List.mem_cons, List.not_mem_nil, or_false] at h; rcases h with rfl <;> first | exact Or.inr ⟨by decide, "java/lang/IllegalStateException", (hts (.classLink RL 25 "java/lang/IllegalStateException") (by decide +kernel)), hG.1.2.2.2.1 _ (by decide) _ (by decide) (by decide)⟩) (by decide) (by decide) (va_Nw.use rfl (hG.1.2.2.2.2.2.2 (13, "java/lang/IllegalArgumentException") (by decide +kernel))) (va_Nw.use rfl (hG.1.2.2.1 _ (by decide))) hcell hv hcl ?_
  refine W.eq (g2 := F0 m 19 ls [.ref q9]) rfl ?_
  have hP : va_P (dC, dI) vwCl [] H1 := fun k q h => by simp at h
  have hD : va_D A [] := ⟨fun i j p q h => by simp at h, fun k q h => by simp at h⟩
  generalize H1 = H at hP hS ⊢
  refine lv_astore (lv' := [(6, .ref q9), (0, .ref x), (1, .int p0), (2, .int p1), (3, .long w2), (5, .ref ho)]) hx hb dL_vote_19 hl (by decide) rfl (fun ls hl => ?_)
  refine lv_iconst (v := 2) hx hb dL_vote_21 (by decide) ?_
  have hP := hP.sub (ws' := []) [] rfl
  have hD := hD.sub (ws' := []) [] (by decide) rfl
  have hK := hK.sub (tys' := []) [] rfl
  exact W.iret hx hb hr (fun t ht hW => ⟨⟨_, (), rfl, rfl, by rw [ht]; exact hP, va_K.moved hW.alike hK, hD⟩, hS.F ht⟩) hS.2.2 dL_vote_22

set_option maxHeartbeats 4000000 in
set_option maxRecDepth 100000 in
theorem k_X9_vote_1 (l : Launch) (dC : Nat → ClassId) (dI : Nat → Nat → Nat) (mo : Nat) (p0 : Int32) (p1 : Int32) (w2 : Int64) (m_disk : Nat) (P : Nat) (m_tape : Nat) (m_slots : Nat) (m_leaves : Nat) (m_fresh : Nat) (m_digestAt : Nat) (m_isGroup : Nat) (m_counts : Nat) (m_versionRow : Nat) (m_state : Nat) (m_names : Nat) (m_keptRow : Nat) (m_inSlot : Nat) (m_inAt : Nat) (m_inSize : Nat) (m_inDigest : Nat) (sz : Nat) (hf0 : p0 < 1) : Met l yX9_vote wsX9_vote ({ frames := 1, cells := 0, slots := 0, locals := 22 }) (va_Pc [.ref mo, .int p0, .int p1, .long w2] (fun U => U.heap.size = sz ∧ va_P (dC, dI) vwCl [(mo, .inr (11, [.ref m_disk, .int (nI P), .int ((8224 : Int32) + ((26 : Int32) * (nI P))), .int (1 : Int32), .int 0, .int (-1 : Int32), .int 0, .int (0 : Int32), .ref m_tape, .int 0, .ref m_slots, .ref m_leaves, .int 0, .int 0, .ref m_fresh, .int 0, .int 0, .int 0, .ref m_digestAt, .ref m_isGroup, .ref m_counts, .int 0, .int 0, .long 0, .int 0, .ref m_versionRow, .int 0, .long 0, .ref m_state, .ref m_names, .int 0, .ref m_keptRow, .int 0, .ref m_inSlot, .ref m_inAt, .ref m_inSize, .ref m_inDigest, .int 0]))] U.heap ∧ va_K (dC, dI) vwCl [] U ∧ va_D (fun _ => True) [(mo, .inr (11, [.ref m_disk, .int (nI P), .int ((8224 : Int32) + ((26 : Int32) * (nI P))), .int (1 : Int32), .int 0, .int (-1 : Int32), .int 0, .int (0 : Int32), .ref m_tape, .int 0, .ref m_slots, .ref m_leaves, .int 0, .int 0, .ref m_fresh, .int 0, .int 0, .int 0, .ref m_digestAt, .ref m_isGroup, .ref m_counts, .int 0, .int 0, .long 0, .int 0, .ref m_versionRow, .int 0, .long 0, .ref m_state, .ref m_names, .int 0, .ref m_keptRow, .int 0, .ref m_inSlot, .ref m_inAt, .ref m_inSize, .ref m_inDigest, .int 0]))])) (va_Qi (fun r (_ : Unit) => r = (0 : Int32)) (fun (_ : Unit) t => va_P (dC, dI) vwCl [(mo, .inr (11, [.ref m_disk, .int (nI P), .int ((8224 : Int32) + ((26 : Int32) * (nI P))), .int (1 : Int32), .int 0, .int (-1 : Int32), .int 0, .int (0 : Int32), .ref m_tape, .int 0, .ref m_slots, .ref m_leaves, .int 0, .int (2 : Int32), .ref m_fresh, .int 0, .int 0, .int 0, .ref m_digestAt, .ref m_isGroup, .ref m_counts, .int 0, .int 0, .long 0, .int 0, .ref m_versionRow, .int 0, .long 0, .ref m_state, .ref m_names, .int 0, .ref m_keptRow, .int 0, .ref m_inSlot, .ref m_inAt, .ref m_inSize, .ref m_inDigest, .int 0]))] t.heap ∧ va_K (dC, dI) vwCl [] t ∧ va_D (va_A [(mo, .inr (11, [.ref m_disk, .int (nI P), .int ((8224 : Int32) + ((26 : Int32) * (nI P))), .int (1 : Int32), .int 0, .int (-1 : Int32), .int 0, .int (0 : Int32), .ref m_tape, .int 0, .ref m_slots, .ref m_leaves, .int 0, .int 0, .ref m_fresh, .int 0, .int 0, .int 0, .ref m_digestAt, .ref m_isGroup, .ref m_counts, .int 0, .int 0, .long 0, .int 0, .ref m_versionRow, .int 0, .long 0, .ref m_state, .ref m_names, .int 0, .ref m_keptRow, .int 0, .ref m_inSlot, .ref m_inAt, .ref m_inSize, .ref m_inDigest, .int 0]))] sz) [(mo, .inr (11, [.ref m_disk, .int (nI P), .int ((8224 : Int32) + ((26 : Int32) * (nI P))), .int (1 : Int32), .int 0, .int (-1 : Int32), .int 0, .int (0 : Int32), .ref m_tape, .int 0, .ref m_slots, .ref m_leaves, .int 0, .int (2 : Int32), .ref m_fresh, .int 0, .int 0, .int 0, .ref m_digestAt, .ref m_isGroup, .ref m_counts, .int 0, .int 0, .long 0, .int 0, .ref m_versionRow, .int 0, .long 0, .ref m_state, .ref m_names, .int 0, .ref m_keptRow, .int 0, .ref m_inSlot, .ref m_inAt, .ref m_inSize, .ref m_inDigest, .int 0]))]) (va_A [(mo, .inr (11, [.ref m_disk, .int (nI P), .int ((8224 : Int32) + ((26 : Int32) * (nI P))), .int (1 : Int32), .int 0, .int (-1 : Int32), .int 0, .int (0 : Int32), .ref m_tape, .int 0, .ref m_slots, .ref m_leaves, .int 0, .int 0, .ref m_fresh, .int 0, .int 0, .int 0, .ref m_digestAt, .ref m_isGroup, .ref m_counts, .int 0, .int 0, .long 0, .int 0, .ref m_versionRow, .int 0, .long 0, .ref m_state, .ref m_names, .int 0, .ref m_keptRow, .int 0, .ref m_inSlot, .ref m_inAt, .ref m_inSize, .ref m_inDigest, .int 0]))] sz)) 0 0 (va_A [(mo, .inr (11, [.ref m_disk, .int (nI P), .int ((8224 : Int32) + ((26 : Int32) * (nI P))), .int (1 : Int32), .int 0, .int (-1 : Int32), .int 0, .int (0 : Int32), .ref m_tape, .int 0, .ref m_slots, .ref m_leaves, .int 0, .int 0, .ref m_fresh, .int 0, .int 0, .int 0, .ref m_digestAt, .ref m_isGroup, .ref m_counts, .int 0, .int 0, .long 0, .int 0, .ref m_versionRow, .int 0, .long 0, .ref m_state, .ref m_names, .int 0, .ref m_keptRow, .int 0, .ref m_inSlot, .ref m_inAt, .ref m_inSize, .ref m_inDigest, .int 0]))] sz) := by
  refine Met.ofW (cc := cX9_vote) (maxL := 10) (ret := (some .int)) (by decide) rfl ?_
  intro p e s m args below meth c s₁ B hml hv
  obtain ⟨rfl, hsz, hP, hK, hD0⟩ := hv
  have hx := B.exec
  have hb := B.bytes
  have hr := B.returns
  have hts := atoms_spec (ws := wsX9_vote) B.pre
  have hown : s.vm.findClass RX9 = some m.cls := findClass_of_methodNamed B.named
  have hlocks := B.notSynchronized
  subst hsz
  have hD := hD0.self (sz := s.heap.size)
  generalize hAe : va_A [(mo, .inr (11, [.ref m_disk, .int (nI P), .int ((8224 : Int32) + ((26 : Int32) * (nI P))), .int (1 : Int32), .int 0, .int (-1 : Int32), .int 0, .int (0 : Int32), .ref m_tape, .int 0, .ref m_slots, .ref m_leaves, .int 0, .int 0, .ref m_fresh, .int 0, .int 0, .int 0, .ref m_digestAt, .ref m_isGroup, .ref m_counts, .int 0, .int 0, .long 0, .int 0, .ref m_versionRow, .int 0, .long 0, .ref m_state, .ref m_names, .int 0, .ref m_keptRow, .int 0, .ref m_inSlot, .ref m_inAt, .ref m_inSize, .ref m_inDigest, .int 0]))] s.heap.size = A at hD ⊢
  have hA : ∀ q : Nat, s.heap.size ≤ q → A q := fun q h => by rw [← hAe]; exact Or.inr h
  have hS : va_S A s.heap s.heap [] := va_S.rf
  have hl := lv_entry ([.ref mo, .int p0, .int p1, .long w2]) (n := 10) (Nat.le_of_ble_eq_true rfl)
  rw [lg_entry_eq]
  generalize (lg_sl ([.ref mo, .int p0, .int p1, .long w2]) ++ List.replicate (10 - (lg_sl ([.ref mo, .int p0, .int p1, .long w2])).length) Slot.unset).toArray = ls at hl ⊢
  have hl : lv_has ls 10 [(0, .ref mo), (1, .int p0), (2, .int p1), (3, .long w2)] := hl
  refine lv_aload_n hx hb dX9_vote_0 rfl (lv_at hl 0 rfl) ?_
  refine lv_aload_n hx hb dX9_vote_1 rfl (lv_at hl 0 rfl) ?_
  refine va_get (D := (dC, dI)) (ci := 11) (v := .int (1 : Int32)) (C := RX9) (T := TX9) (N := 38) hx hb hts (by decide +kernel) hown hK hP 0 rfl rfl 3 (by decide) (hts (.fieldLink RX9 72 "BlockLogModel" "on" "Z") (by decide +kernel)) (fun _ h9 => h9) rfl dX9_vote_2 ?_
  refine lv_if_ne (tgt := 12) hx hb dX9_vote_5 (by decide) (fun c_1 => ?_) (fun c_1 => ?_)
  · skip
    refine lv_iload_n hx hb dX9_vote_12 rfl (lv_at hl 1 rfl) ?_
    refine lv_iconst (v := 1) hx hb dX9_vote_13 (by decide) ?_
    refine lv_ldc hx hb hown (hts (.constant RX9 208 (1000000)) (by decide +kernel)) dX9_vote_14 ?_
    have hPc := hP.sub (ws' := []) [] rfl
    have hKc := hK.sub (tys' := []) [] rfl
    refine vp_callSi (va_Run.run (va_runS (As := [.int p0, .int (1 : Int32), .int (1000000 : Int32)]) (rest := [.ref mo]) ⟨hx, hb, hml, hown, hts⟩ (k_X9_within_1 l dC dI p0 (1 : Int32) (1000000 : Int32) hf0) (va_cwS 3 hts gX9_vote_X9_within rfl rfl rfl (by decide +kernel) ⟨Nat.le_of_ble_eq_true rfl, Nat.le_of_ble_eq_true rfl⟩) ⟨fun a U g mk q => by obtain ⟨q0, qP, qK⟩ := q; exact ⟨q0, qP, va_K.moved (u := U) (U := U.calling g mk a) (Vm.Alike.refl U.vm) qK⟩, fun U hU hW => ⟨rfl, by rw [hU]; exact hPc, va_K.moved hW.alike hKc⟩⟩ rfl rfl hl.1 rfl (lv_room (Nat.le_of_ble_eq_true rfl)) dX9_vote_16 ⟨Nat.le_of_ble_eq_true rfl, Nat.le_of_ble_eq_true rfl⟩)) (fun r_2 er_2 => ?_)
    subst er_2
    refine lv_if_eq (tgt := 32) hx hb dX9_vote_19 (by decide) (fun c_3 => ?_) (fun c_3 => ?_)
    · skip
      refine lv_iconst (v := 2) hx hb dX9_vote_32 (by decide) ?_
      refine lv_goto (tgt := 37) hx hb dX9_vote_33 (by decide) ?_
      refine va_put (D := (dC, dI)) (ci := 11) (v := .int (2 : Int32)) (ty := .int) (C := RX9) (T := TX9) (N := 38) hx hb hts (by decide +kernel) tyX9 tyX9_ok nmX9 hown hK hP hD hS 0 rfl rfl 13 (by decide) (hts (.fieldLink RX9 91 "BlockLogModel" "thrown" "I") (by decide +kernel)) (fun _ h9 => h9) rfl (by decide +kernel) rfl rfl (Nat.le_of_ble_eq_true rfl) dX9_vote_37 (fun H locs hP hD hS => ?_)
      have hP : va_P (dC, dI) vwCl [(mo, .inr (11, [.ref m_disk, .int (nI P), .int ((8224 : Int32) + ((26 : Int32) * (nI P))), .int (1 : Int32), .int 0, .int (-1 : Int32), .int 0, .int (0 : Int32), .ref m_tape, .int 0, .ref m_slots, .ref m_leaves, .int 0, .int (2 : Int32), .ref m_fresh, .int 0, .int 0, .int 0, .ref m_digestAt, .ref m_isGroup, .ref m_counts, .int 0, .int 0, .long 0, .int 0, .ref m_versionRow, .int 0, .long 0, .ref m_state, .ref m_names, .int 0, .ref m_keptRow, .int 0, .ref m_inSlot, .ref m_inAt, .ref m_inSize, .ref m_inDigest, .int 0]))] H := hP
      have hD : va_D A [(mo, .inr (11, [.ref m_disk, .int (nI P), .int ((8224 : Int32) + ((26 : Int32) * (nI P))), .int (1 : Int32), .int 0, .int (-1 : Int32), .int 0, .int (0 : Int32), .ref m_tape, .int 0, .ref m_slots, .ref m_leaves, .int 0, .int (2 : Int32), .ref m_fresh, .int 0, .int 0, .int 0, .ref m_digestAt, .ref m_isGroup, .ref m_counts, .int 0, .int 0, .long 0, .int 0, .ref m_versionRow, .int 0, .long 0, .ref m_state, .ref m_names, .int 0, .ref m_keptRow, .int 0, .ref m_inSlot, .ref m_inAt, .ref m_inSize, .ref m_inDigest, .int 0]))] := hD
      refine lv_aload_n hx hb dX9_vote_40 rfl (lv_at hl 0 rfl) ?_
      refine va_get (D := (dC, dI)) (ci := 11) (v := .int (2 : Int32)) (C := RX9) (T := TX9) (N := 38) hx hb hts (by decide +kernel) hown hK hP 0 rfl rfl 13 (by decide) (hts (.fieldLink RX9 91 "BlockLogModel" "thrown" "I") (by decide +kernel)) (fun _ h9 => h9) rfl dX9_vote_41 ?_
      refine lv_if_le (tgt := 49) hx hb dX9_vote_44 (by decide) (fun c_4 => ?_) (fun c_4 => ?_)
      · skip
        exact absurd c_4 (by decide)
      · skip
        refine lv_iconst (v := 0) hx hb dX9_vote_47 (by decide) ?_
        have hP := hP.sub (ws' := [(mo, .inr (11, [.ref m_disk, .int (nI P), .int ((8224 : Int32) + ((26 : Int32) * (nI P))), .int (1 : Int32), .int 0, .int (-1 : Int32), .int 0, .int (0 : Int32), .ref m_tape, .int 0, .ref m_slots, .ref m_leaves, .int 0, .int (2 : Int32), .ref m_fresh, .int 0, .int 0, .int 0, .ref m_digestAt, .ref m_isGroup, .ref m_counts, .int 0, .int 0, .long 0, .int 0, .ref m_versionRow, .int 0, .long 0, .ref m_state, .ref m_names, .int 0, .ref m_keptRow, .int 0, .ref m_inSlot, .ref m_inAt, .ref m_inSize, .ref m_inDigest, .int 0]))]) [0] rfl
        have hD := hD.sub (ws' := [(mo, .inr (11, [.ref m_disk, .int (nI P), .int ((8224 : Int32) + ((26 : Int32) * (nI P))), .int (1 : Int32), .int 0, .int (-1 : Int32), .int 0, .int (0 : Int32), .ref m_tape, .int 0, .ref m_slots, .ref m_leaves, .int 0, .int (2 : Int32), .ref m_fresh, .int 0, .int 0, .int 0, .ref m_digestAt, .ref m_isGroup, .ref m_counts, .int 0, .int 0, .long 0, .int 0, .ref m_versionRow, .int 0, .long 0, .ref m_state, .ref m_names, .int 0, .ref m_keptRow, .int 0, .ref m_inSlot, .ref m_inAt, .ref m_inSize, .ref m_inDigest, .int 0]))]) [0] (by decide) rfl
        have hK := hK.sub (tys' := []) [] rfl
        exact W.iret hx hb hr (fun t ht hW => ⟨⟨_, (), rfl, rfl, by rw [ht]; exact hP, va_K.moved hW.alike hK, hD⟩, hS.F ht⟩) hS.2.2 dX9_vote_48
    · skip
      exact absurd (by decide) c_3
  · skip
    exact absurd c_1 (by decide)

set_option maxHeartbeats 4000000 in
set_option maxRecDepth 100000 in
theorem k_X8_vote_2 (l : Launch) (hl0 : l.stackTraces = false) (dC : Nat → ClassId) (dI : Nat → Nat → Nat) (x : Nat) (p0 : Int32) (p1 : Int32) (w2 : Int64) (ds : Nat) (tp : Nat) (rr : Nat) (so : Nat) (pu : Nat) (sn : Nat) (im : Nat) (cs : Nat) (cl : Nat) (pg : Int32) (dl : Nat) (dr : Nat) (dt : Nat) (sz : Nat) (hf0 : 1000000 < p0) : vx_Met l yX8_vote wsX8_vote ({ frames := 7, cells := 1, slots := 6, locals := 110 }) (va_Pc [.ref x, .int p0, .int p1, .long w2] (fun U => U.heap.size = sz ∧ va_P (dC, dI) vwCl [(x, .inr (10, [.ref tp, .ref ds, .ref rr, .ref so, .ref pu, .ref sn, .ref im, .ref cs, .ref cl, .int (0 : Int32)])), (ds, .inr (3, [.int pg, .ref dl, .ref dr, .ref dt, .int (1 : Int32), .int (-1 : Int32), .int (0 : Int32)]))] U.heap ∧ va_K (dC, dI) vwCl [] U ∧ va_D (fun _ => True) [(x, .inr (10, [.ref tp, .ref ds, .ref rr, .ref so, .ref pu, .ref sn, .ref im, .ref cs, .ref cl, .int (0 : Int32)])), (ds, .inr (3, [.int pg, .ref dl, .ref dr, .ref dt, .int (1 : Int32), .int (-1 : Int32), .int (0 : Int32)]))] ∧ gx_E (va_A [(x, .inr (10, [.ref tp, .ref ds, .ref rr, .ref so, .ref pu, .ref sn, .ref im, .ref cs, .ref cl, .int (0 : Int32)])), (ds, .inr (3, [.int pg, .ref dl, .ref dr, .ref dt, .int (1 : Int32), .int (-1 : Int32), .int (0 : Int32)]))] sz) U)) (va_Qi (fun (_ : Int32) (_ : Unit) => False) (fun _ _ => True) (va_A [(x, .inr (10, [.ref tp, .ref ds, .ref rr, .ref so, .ref pu, .ref sn, .ref im, .ref cs, .ref cl, .int (0 : Int32)])), (ds, .inr (3, [.int pg, .ref dl, .ref dr, .ref dt, .int (1 : Int32), .int (-1 : Int32), .int (0 : Int32)]))] sz)) (vx_X (fun _ : Unit => True) (fun E _ _ => E = "java/lang/IllegalArgumentException") (va_A [(x, .inr (10, [.ref tp, .ref ds, .ref rr, .ref so, .ref pu, .ref sn, .ref im, .ref cs, .ref cl, .int (0 : Int32)])), (ds, .inr (3, [.int pg, .ref dl, .ref dr, .ref dt, .int (1 : Int32), .int (-1 : Int32), .int (0 : Int32)]))] sz)) 1 6 (va_A [(x, .inr (10, [.ref tp, .ref ds, .ref rr, .ref so, .ref pu, .ref sn, .ref im, .ref cs, .ref cl, .int (0 : Int32)])), (ds, .inr (3, [.int pg, .ref dl, .ref dr, .ref dt, .int (1 : Int32), .int (-1 : Int32), .int (0 : Int32)]))] sz) := by
  refine vx_ofW (cc := cX8_vote) (maxL := 11) (ret := (some .int)) (by decide) rfl ?_
  intro p e s m args below meth c s₁ B hml hno hv
  obtain ⟨rfl, hsz, hP, hK, hD0, hG⟩ := hv
  have hx := B.exec
  have hb := B.bytes
  have hr := B.returns
  have hts := atoms_spec (ws := wsX8_vote) B.pre
  have hown : s.vm.findClass RX8 = some m.cls := findClass_of_methodNamed B.named
  have hlocks := B.notSynchronized
  subst hsz
  have hD := hD0.self (sz := s.heap.size)
  generalize hAe : va_A [(x, .inr (10, [.ref tp, .ref ds, .ref rr, .ref so, .ref pu, .ref sn, .ref im, .ref cs, .ref cl, .int (0 : Int32)])), (ds, .inr (3, [.int pg, .ref dl, .ref dr, .ref dt, .int (1 : Int32), .int (-1 : Int32), .int (0 : Int32)]))] s.heap.size = A at hD hG ⊢
  have hA : ∀ q : Nat, s.heap.size ≤ q → A q := fun q h => by rw [← hAe]; exact Or.inr h
  have hS : va_S A s.heap s.heap [] := va_S.rf
  have hl := lv_entry ([.ref x, .int p0, .int p1, .long w2]) (n := 11) (Nat.le_of_ble_eq_true rfl)
  rw [lg_entry_eq]
  generalize (lg_sl ([.ref x, .int p0, .int p1, .long w2]) ++ List.replicate (11 - (lg_sl ([.ref x, .int p0, .int p1, .long w2])).length) Slot.unset).toArray = ls at hl ⊢
  have hl : lv_has ls 11 [(0, .ref x), (1, .int p0), (2, .int p1), (3, .long w2)] := hl
  refine lv_aload_n hx hb dX8_vote_0 rfl (lv_at hl 0 rfl) ?_
  have hPc := hP.sub (ws' := [(x, .inr (10, [.ref tp, .ref ds, .ref rr, .ref so, .ref pu, .ref sn, .ref im, .ref cs, .ref cl, .int (0 : Int32)])), (ds, .inr (3, [.int pg, .ref dl, .ref dr, .ref dt, .int (1 : Int32), .int (-1 : Int32), .int (0 : Int32)]))]) [0, 1] rfl
  have hKc := hK.sub (tys' := []) [] rfl
  refine va_csv (va_Run.run (va_runV (As := []) (rest := []) ⟨hx, hb, hml, hown, hts⟩ (k_X8_demandPower_1 l dC dI x ds tp rr so pu sn im cs cl pg dl dr dt) (cwV 0 hts gX8_vote_X8_demandPower rfl rfl rfl (by decide +kernel) ⟨Nat.le_of_ble_eq_true rfl, Nat.le_of_ble_eq_true rfl⟩) ⟨fun a U g mk q => by obtain ⟨q0, qP, qK, qG⟩ := q; exact ⟨q0, qP, va_K.moved (u := U) (U := U.calling g mk a) (Vm.Alike.refl U.vm) qK, qG.same rfl⟩, va_recv hK hP (ci := 10) (q := (RX8, TX8, 10)) rfl (q0 := 0) rfl, fun U hU hW => ⟨rfl, by rw [hU]; exact hPc, va_K.moved hW.alike hKc, hG.1.warm hW⟩⟩ rfl rfl hl.1 rfl (lv_room (Nat.le_of_ble_eq_true rfl)) dX8_vote_1 ⟨Nat.le_of_ble_eq_true rfl, Nat.le_of_ble_eq_true rfl⟩)) (fun _ => ?_)
  refine lv_iload_n hx hb dX8_vote_4 rfl (lv_at hl 1 rfl) ?_
  have hPc := hP.sub (ws' := []) [] rfl
  have hKc := hK.sub (tys' := []) [] rfl
  have hDc := hD.sub (ws' := []) [] (by decide) rfl
  have hFc := va_free (wc := []) hD hS hA [] rfl
  refine vx_callv (vx_runS (As := [.int p0]) (rest := []) ⟨hx, hb, hml, hown, hts⟩ (k_X8_demandHeight_2 l hl0 dC dI p0 _ hf0) (va_cwS 1 hts gX8_vote_X8_demandHeight rfl rfl rfl (by decide +kernel) ⟨Nat.le_of_ble_eq_true rfl, Nat.le_of_ble_eq_true rfl⟩) ⟨fun a U g mk q => by obtain ⟨q0, q1, qP, qK, qD, qG⟩ := q; exact ⟨q0, q1, qP, va_K.moved (u := U) (U := U.calling g mk a) (Vm.Alike.refl U.vm) qK, qD, qG.same rfl rfl⟩, fun U hU hW => ⟨rfl, by rw [hU], by rw [hU]; exact hPc, va_K.moved hW.alike hKc, hDc.weaken (fun _ _ _ _ => trivial), hG.go hW hU hS hFc⟩⟩ rfl rfl hl.1 rfl (lv_room (Nat.le_of_ble_eq_true rfl)) dX8_vote_5 ⟨Nat.le_of_ble_eq_true rfl, Nat.le_of_ble_eq_true rfl⟩) hS (fun q _ h => hFc q h) hFc (fun q _ h => hFc q h) (fun E9 ce q9 u t H1 locs1 ht hvm hp hE hz hk hS hcell hv hcl => ?_) (fun u t H1 locs1 ht hvm hp hB hz hk hS => hp.elim)
  subst hE
  exact vx_out (fun x h => (hno x h).elim) hlocks hcell hv hcl (fun t ht hW => ⟨(), trivial, rfl, hS.F ht⟩) hS.2.2 (Nat.le_refl _) (Nat.le_refl _)

set_option maxHeartbeats 4000000 in
set_option maxRecDepth 100000 in
theorem k_L_vote_2 (l : Launch) (hl0 : l.stackTraces = false) (dC : Nat → ClassId) (dI : Nat → Nat → Nat) (x : Nat) (p0 : Int32) (p1 : Int32) (w2 : Int64) (ho : Nat) (ds : Nat) (tp : Nat) (rr : Nat) (so : Nat) (pu : Nat) (sn : Nat) (im : Nat) (cs : Nat) (cl : Nat) (pg : Int32) (dl : Nat) (dr : Nat) (dt : Nat) (sz : Nat) (hf0 : 1000000 < p0) : Met l yL_vote wsL_vote ({ frames := 8, cells := 1, slots := 6, locals := 140 }) (va_Pc [.ref x, .int p0, .int p1, .long w2, .ref ho] (fun U => U.heap.size = sz ∧ va_P (dC, dI) vwCl [(x, .inr (10, [.ref tp, .ref ds, .ref rr, .ref so, .ref pu, .ref sn, .ref im, .ref cs, .ref cl, .int (0 : Int32)])), (ds, .inr (3, [.int pg, .ref dl, .ref dr, .ref dt, .int (1 : Int32), .int (-1 : Int32), .int (0 : Int32)]))] U.heap ∧ va_K (dC, dI) vwCl [] U ∧ va_D (fun _ => True) [(x, .inr (10, [.ref tp, .ref ds, .ref rr, .ref so, .ref pu, .ref sn, .ref im, .ref cs, .ref cl, .int (0 : Int32)])), (ds, .inr (3, [.int pg, .ref dl, .ref dr, .ref dt, .int (1 : Int32), .int (-1 : Int32), .int (0 : Int32)]))] ∧ gx_E (va_A [(x, .inr (10, [.ref tp, .ref ds, .ref rr, .ref so, .ref pu, .ref sn, .ref im, .ref cs, .ref cl, .int (0 : Int32)])), (ds, .inr (3, [.int pg, .ref dl, .ref dr, .ref dt, .int (1 : Int32), .int (-1 : Int32), .int (0 : Int32)]))] sz) U)) (va_Qi (fun r (_ : Unit) => r = (2 : Int32)) (fun (_ : Unit) t => va_P (dC, dI) vwCl [] t.heap ∧ va_K (dC, dI) vwCl [] t ∧ va_D (va_A [(x, .inr (10, [.ref tp, .ref ds, .ref rr, .ref so, .ref pu, .ref sn, .ref im, .ref cs, .ref cl, .int (0 : Int32)])), (ds, .inr (3, [.int pg, .ref dl, .ref dr, .ref dt, .int (1 : Int32), .int (-1 : Int32), .int (0 : Int32)]))] sz) []) (va_A [(x, .inr (10, [.ref tp, .ref ds, .ref rr, .ref so, .ref pu, .ref sn, .ref im, .ref cs, .ref cl, .int (0 : Int32)])), (ds, .inr (3, [.int pg, .ref dl, .ref dr, .ref dt, .int (1 : Int32), .int (-1 : Int32), .int (0 : Int32)]))] sz)) 1 6 (va_A [(x, .inr (10, [.ref tp, .ref ds, .ref rr, .ref so, .ref pu, .ref sn, .ref im, .ref cs, .ref cl, .int (0 : Int32)])), (ds, .inr (3, [.int pg, .ref dl, .ref dr, .ref dt, .int (1 : Int32), .int (-1 : Int32), .int (0 : Int32)]))] sz) := by
  refine va_MetW (cc := cL_vote) (maxL := 7) (ret := (some .int)) (hh := [(0, 12, 15, 25), (0, 12, 19, 13)]) (by decide) rfl ?_
  intro p e s m args below meth c s₁ B hml hv
  obtain ⟨rfl, hsz, hP, hK, hD0, hG⟩ := hv
  have hx := B.exec
  have hb := B.bytes
  have hr := B.returns
  have hts := atoms_spec (ws := wsL_vote) B.pre
  have hown : s.vm.findClass RL = some m.cls := findClass_of_methodNamed B.named
  have hlocks := B.notSynchronized
  have htab := vx_table (x := yL_vote) B (hts (.codeWith yL_vote cL_vote 7 (some .int) [(0, 12, 15, 25), (0, 12, 19, 13)]) List.mem_cons_self)
  subst hsz
  have hD := hD0.self (sz := s.heap.size)
  generalize hAe : va_A [(x, .inr (10, [.ref tp, .ref ds, .ref rr, .ref so, .ref pu, .ref sn, .ref im, .ref cs, .ref cl, .int (0 : Int32)])), (ds, .inr (3, [.int pg, .ref dl, .ref dr, .ref dt, .int (1 : Int32), .int (-1 : Int32), .int (0 : Int32)]))] s.heap.size = A at hD hG ⊢
  have hA : ∀ q : Nat, s.heap.size ≤ q → A q := fun q h => by rw [← hAe]; exact Or.inr h
  have hS : va_S A s.heap s.heap [] := va_S.rf
  have hl := lv_entry ([.ref x, .int p0, .int p1, .long w2, .ref ho]) (n := 7) (Nat.le_of_ble_eq_true rfl)
  rw [lg_entry_eq]
  generalize (lg_sl ([.ref x, .int p0, .int p1, .long w2, .ref ho]) ++ List.replicate (7 - (lg_sl ([.ref x, .int p0, .int p1, .long w2, .ref ho])).length) Slot.unset).toArray = ls at hl ⊢
  have hl : lv_has ls 7 [(0, .ref x), (1, .int p0), (2, .int p1), (3, .long w2), (5, .ref ho)] := hl
  refine lv_aload hx hb dL_vote_0 (lv_at hl 4 rfl) ?_
  refine lv_iconst (v := 0) hx hb dL_vote_2 (by decide) ?_
  refine lv_aload_n hx hb dL_vote_3 rfl (lv_at hl 0 rfl) ?_
  refine lv_iload_n hx hb dL_vote_4 rfl (lv_at hl 1 rfl) ?_
  refine lv_iload_n hx hb dL_vote_5 rfl (lv_at hl 2 rfl) ?_
  refine lv_lload_n hx hb dL_vote_6 rfl (lv_at hl 3 rfl) ?_
  have hPc := hP.sub (ws' := [(x, .inr (10, [.ref tp, .ref ds, .ref rr, .ref so, .ref pu, .ref sn, .ref im, .ref cs, .ref cl, .int (0 : Int32)])), (ds, .inr (3, [.int pg, .ref dl, .ref dr, .ref dt, .int (1 : Int32), .int (-1 : Int32), .int (0 : Int32)]))]) [0, 1] rfl
  have hKc := hK.sub (tys' := []) [] rfl
  have hDc := hD.sub (ws' := [(x, .inr (10, [.ref tp, .ref ds, .ref rr, .ref so, .ref pu, .ref sn, .ref im, .ref cs, .ref cl, .int (0 : Int32)])), (ds, .inr (3, [.int pg, .ref dl, .ref dr, .ref dt, .int (1 : Int32), .int (-1 : Int32), .int (0 : Int32)]))]) [0, 1] (by decide) rfl
  have hFc := va_free (wc := [(x, .inr (10, [.ref tp, .ref ds, .ref rr, .ref so, .ref pu, .ref sn, .ref im, .ref cs, .ref cl, .int (0 : Int32)])), (ds, .inr (3, [.int pg, .ref dl, .ref dr, .ref dt, .int (1 : Int32), .int (-1 : Int32), .int (0 : Int32)]))]) hD hS hA [0, 1] rfl
  refine vx_calli (vx_runV (As := [.int p0, .int p1, .long w2]) (rest := [.int (0 : Int32), .ref ho]) ⟨hx, hb, hml, hown, hts⟩ (k_X8_vote_2 l hl0 dC dI x p0 p1 w2 ds tp rr so pu sn im cs cl pg dl dr dt _ hf0) (cwV 3 hts gL_vote_X8_vote rfl rfl rfl (by decide +kernel) ⟨Nat.le_of_ble_eq_true rfl, Nat.le_of_ble_eq_true rfl⟩) ⟨fun a U g mk q => by obtain ⟨q0, q1, qP, qK, qD, qG⟩ := q; exact ⟨q0, q1, qP, va_K.moved (u := U) (U := U.calling g mk a) (Vm.Alike.refl U.vm) qK, qD, qG.same rfl rfl⟩, va_recv hK hP (ci := 10) (q := (RX8, TX8, 10)) rfl (q0 := 0) rfl, fun U hU hW => ⟨rfl, by rw [hU], by rw [hU]; exact hPc, va_K.moved hW.alike hKc, hDc.weaken (fun _ _ _ _ => trivial), hG.go hW hU hS hFc⟩⟩ rfl rfl hl.1 rfl (lv_room (Nat.le_of_ble_eq_true rfl)) dL_vote_7 ⟨Nat.le_of_ble_eq_true rfl, Nat.le_of_ble_eq_true rfl⟩) hS (fun q _ h => hFc q h) hFc (fun q _ h => hFc q h) (fun E9 ce q9 u t H1 locs1 ht hvm hp hE hz hk hS hcell hv hcl => ?_) (fun r u t H1 locs1 ht hvm hp hB hz hk hS => hp.elim)
  subst hE
  refine vx_catch (name := "java/lang/IllegalArgumentException") hown [⟨0, 12, 15, 25⟩] ⟨0, 12, 19, 13⟩ [] htab (fun z h => by simp only [List.mem_cons, List.not_mem_nil, or_false] at h; rcases h with rfl <;> first | exact Or.inr ⟨by decide, "java/lang/IllegalStateException", (hts (.classLink RL 25 "java/lang/IllegalStateException") (by decide +kernel)), hG.1.2.2.2.1 _ (by decide) _ (by decide) (by decide)⟩) (by decide) (by decide) (va_Nw.use rfl (hG.1.2.2.2.2.2.2 (13, "java/lang/IllegalArgumentException") (by decide +kernel))) (va_Nw.use rfl (hG.1.2.2.1 _ (by decide))) hcell hv hcl ?_
  refine W.eq (g2 := F0 m 19 ls [.ref q9]) rfl ?_
  have hP : va_P (dC, dI) vwCl [] H1 := fun k q h => by simp at h
  have hD : va_D A [] := ⟨fun i j p q h => by simp at h, fun k q h => by simp at h⟩
  generalize H1 = H at hP hS ⊢
  refine lv_astore (lv' := [(6, .ref q9), (0, .ref x), (1, .int p0), (2, .int p1), (3, .long w2), (5, .ref ho)]) hx hb dL_vote_19 hl (by decide) rfl (fun ls hl => ?_)
  refine lv_iconst (v := 2) hx hb dL_vote_21 (by decide) ?_
  have hP := hP.sub (ws' := []) [] rfl
  have hD := hD.sub (ws' := []) [] (by decide) rfl
  have hK := hK.sub (tys' := []) [] rfl
  exact W.iret hx hb hr (fun t ht hW => ⟨⟨_, (), rfl, rfl, by rw [ht]; exact hP, va_K.moved hW.alike hK, hD⟩, hS.F ht⟩) hS.2.2 dL_vote_22

set_option maxHeartbeats 4000000 in
set_option maxRecDepth 100000 in
theorem k_X9_vote_2 (l : Launch) (dC : Nat → ClassId) (dI : Nat → Nat → Nat) (mo : Nat) (p0 : Int32) (p1 : Int32) (w2 : Int64) (m_disk : Nat) (P : Nat) (m_tape : Nat) (m_slots : Nat) (m_leaves : Nat) (m_fresh : Nat) (m_digestAt : Nat) (m_isGroup : Nat) (m_counts : Nat) (m_versionRow : Nat) (m_state : Nat) (m_names : Nat) (m_keptRow : Nat) (m_inSlot : Nat) (m_inAt : Nat) (m_inSize : Nat) (m_inDigest : Nat) (sz : Nat) (hf0 : 1 ≤ p0) (hf1 : 1000000 < p0) : Met l yX9_vote wsX9_vote ({ frames := 1, cells := 0, slots := 0, locals := 22 }) (va_Pc [.ref mo, .int p0, .int p1, .long w2] (fun U => U.heap.size = sz ∧ va_P (dC, dI) vwCl [(mo, .inr (11, [.ref m_disk, .int (nI P), .int ((8224 : Int32) + ((26 : Int32) * (nI P))), .int (1 : Int32), .int 0, .int (-1 : Int32), .int 0, .int (0 : Int32), .ref m_tape, .int 0, .ref m_slots, .ref m_leaves, .int 0, .int 0, .ref m_fresh, .int 0, .int 0, .int 0, .ref m_digestAt, .ref m_isGroup, .ref m_counts, .int 0, .int 0, .long 0, .int 0, .ref m_versionRow, .int 0, .long 0, .ref m_state, .ref m_names, .int 0, .ref m_keptRow, .int 0, .ref m_inSlot, .ref m_inAt, .ref m_inSize, .ref m_inDigest, .int 0]))] U.heap ∧ va_K (dC, dI) vwCl [] U ∧ va_D (fun _ => True) [(mo, .inr (11, [.ref m_disk, .int (nI P), .int ((8224 : Int32) + ((26 : Int32) * (nI P))), .int (1 : Int32), .int 0, .int (-1 : Int32), .int 0, .int (0 : Int32), .ref m_tape, .int 0, .ref m_slots, .ref m_leaves, .int 0, .int 0, .ref m_fresh, .int 0, .int 0, .int 0, .ref m_digestAt, .ref m_isGroup, .ref m_counts, .int 0, .int 0, .long 0, .int 0, .ref m_versionRow, .int 0, .long 0, .ref m_state, .ref m_names, .int 0, .ref m_keptRow, .int 0, .ref m_inSlot, .ref m_inAt, .ref m_inSize, .ref m_inDigest, .int 0]))])) (va_Qi (fun r (_ : Unit) => r = (0 : Int32)) (fun (_ : Unit) t => va_P (dC, dI) vwCl [(mo, .inr (11, [.ref m_disk, .int (nI P), .int ((8224 : Int32) + ((26 : Int32) * (nI P))), .int (1 : Int32), .int 0, .int (-1 : Int32), .int 0, .int (0 : Int32), .ref m_tape, .int 0, .ref m_slots, .ref m_leaves, .int 0, .int (2 : Int32), .ref m_fresh, .int 0, .int 0, .int 0, .ref m_digestAt, .ref m_isGroup, .ref m_counts, .int 0, .int 0, .long 0, .int 0, .ref m_versionRow, .int 0, .long 0, .ref m_state, .ref m_names, .int 0, .ref m_keptRow, .int 0, .ref m_inSlot, .ref m_inAt, .ref m_inSize, .ref m_inDigest, .int 0]))] t.heap ∧ va_K (dC, dI) vwCl [] t ∧ va_D (va_A [(mo, .inr (11, [.ref m_disk, .int (nI P), .int ((8224 : Int32) + ((26 : Int32) * (nI P))), .int (1 : Int32), .int 0, .int (-1 : Int32), .int 0, .int (0 : Int32), .ref m_tape, .int 0, .ref m_slots, .ref m_leaves, .int 0, .int 0, .ref m_fresh, .int 0, .int 0, .int 0, .ref m_digestAt, .ref m_isGroup, .ref m_counts, .int 0, .int 0, .long 0, .int 0, .ref m_versionRow, .int 0, .long 0, .ref m_state, .ref m_names, .int 0, .ref m_keptRow, .int 0, .ref m_inSlot, .ref m_inAt, .ref m_inSize, .ref m_inDigest, .int 0]))] sz) [(mo, .inr (11, [.ref m_disk, .int (nI P), .int ((8224 : Int32) + ((26 : Int32) * (nI P))), .int (1 : Int32), .int 0, .int (-1 : Int32), .int 0, .int (0 : Int32), .ref m_tape, .int 0, .ref m_slots, .ref m_leaves, .int 0, .int (2 : Int32), .ref m_fresh, .int 0, .int 0, .int 0, .ref m_digestAt, .ref m_isGroup, .ref m_counts, .int 0, .int 0, .long 0, .int 0, .ref m_versionRow, .int 0, .long 0, .ref m_state, .ref m_names, .int 0, .ref m_keptRow, .int 0, .ref m_inSlot, .ref m_inAt, .ref m_inSize, .ref m_inDigest, .int 0]))]) (va_A [(mo, .inr (11, [.ref m_disk, .int (nI P), .int ((8224 : Int32) + ((26 : Int32) * (nI P))), .int (1 : Int32), .int 0, .int (-1 : Int32), .int 0, .int (0 : Int32), .ref m_tape, .int 0, .ref m_slots, .ref m_leaves, .int 0, .int 0, .ref m_fresh, .int 0, .int 0, .int 0, .ref m_digestAt, .ref m_isGroup, .ref m_counts, .int 0, .int 0, .long 0, .int 0, .ref m_versionRow, .int 0, .long 0, .ref m_state, .ref m_names, .int 0, .ref m_keptRow, .int 0, .ref m_inSlot, .ref m_inAt, .ref m_inSize, .ref m_inDigest, .int 0]))] sz)) 0 0 (va_A [(mo, .inr (11, [.ref m_disk, .int (nI P), .int ((8224 : Int32) + ((26 : Int32) * (nI P))), .int (1 : Int32), .int 0, .int (-1 : Int32), .int 0, .int (0 : Int32), .ref m_tape, .int 0, .ref m_slots, .ref m_leaves, .int 0, .int 0, .ref m_fresh, .int 0, .int 0, .int 0, .ref m_digestAt, .ref m_isGroup, .ref m_counts, .int 0, .int 0, .long 0, .int 0, .ref m_versionRow, .int 0, .long 0, .ref m_state, .ref m_names, .int 0, .ref m_keptRow, .int 0, .ref m_inSlot, .ref m_inAt, .ref m_inSize, .ref m_inDigest, .int 0]))] sz) := by
  refine Met.ofW (cc := cX9_vote) (maxL := 10) (ret := (some .int)) (by decide) rfl ?_
  intro p e s m args below meth c s₁ B hml hv
  obtain ⟨rfl, hsz, hP, hK, hD0⟩ := hv
  have hx := B.exec
  have hb := B.bytes
  have hr := B.returns
  have hts := atoms_spec (ws := wsX9_vote) B.pre
  have hown : s.vm.findClass RX9 = some m.cls := findClass_of_methodNamed B.named
  have hlocks := B.notSynchronized
  subst hsz
  have hD := hD0.self (sz := s.heap.size)
  generalize hAe : va_A [(mo, .inr (11, [.ref m_disk, .int (nI P), .int ((8224 : Int32) + ((26 : Int32) * (nI P))), .int (1 : Int32), .int 0, .int (-1 : Int32), .int 0, .int (0 : Int32), .ref m_tape, .int 0, .ref m_slots, .ref m_leaves, .int 0, .int 0, .ref m_fresh, .int 0, .int 0, .int 0, .ref m_digestAt, .ref m_isGroup, .ref m_counts, .int 0, .int 0, .long 0, .int 0, .ref m_versionRow, .int 0, .long 0, .ref m_state, .ref m_names, .int 0, .ref m_keptRow, .int 0, .ref m_inSlot, .ref m_inAt, .ref m_inSize, .ref m_inDigest, .int 0]))] s.heap.size = A at hD ⊢
  have hA : ∀ q : Nat, s.heap.size ≤ q → A q := fun q h => by rw [← hAe]; exact Or.inr h
  have hS : va_S A s.heap s.heap [] := va_S.rf
  have hl := lv_entry ([.ref mo, .int p0, .int p1, .long w2]) (n := 10) (Nat.le_of_ble_eq_true rfl)
  rw [lg_entry_eq]
  generalize (lg_sl ([.ref mo, .int p0, .int p1, .long w2]) ++ List.replicate (10 - (lg_sl ([.ref mo, .int p0, .int p1, .long w2])).length) Slot.unset).toArray = ls at hl ⊢
  have hl : lv_has ls 10 [(0, .ref mo), (1, .int p0), (2, .int p1), (3, .long w2)] := hl
  refine lv_aload_n hx hb dX9_vote_0 rfl (lv_at hl 0 rfl) ?_
  refine lv_aload_n hx hb dX9_vote_1 rfl (lv_at hl 0 rfl) ?_
  refine va_get (D := (dC, dI)) (ci := 11) (v := .int (1 : Int32)) (C := RX9) (T := TX9) (N := 38) hx hb hts (by decide +kernel) hown hK hP 0 rfl rfl 3 (by decide) (hts (.fieldLink RX9 72 "BlockLogModel" "on" "Z") (by decide +kernel)) (fun _ h9 => h9) rfl dX9_vote_2 ?_
  refine lv_if_ne (tgt := 12) hx hb dX9_vote_5 (by decide) (fun c_1 => ?_) (fun c_1 => ?_)
  · skip
    refine lv_iload_n hx hb dX9_vote_12 rfl (lv_at hl 1 rfl) ?_
    refine lv_iconst (v := 1) hx hb dX9_vote_13 (by decide) ?_
    refine lv_ldc hx hb hown (hts (.constant RX9 208 (1000000)) (by decide +kernel)) dX9_vote_14 ?_
    have hPc := hP.sub (ws' := []) [] rfl
    have hKc := hK.sub (tys' := []) [] rfl
    refine vp_callSi (va_Run.run (va_runS (As := [.int p0, .int (1 : Int32), .int (1000000 : Int32)]) (rest := [.ref mo]) ⟨hx, hb, hml, hown, hts⟩ (k_X9_within_2 l dC dI p0 (1 : Int32) (1000000 : Int32) hf0 hf1) (va_cwS 3 hts gX9_vote_X9_within rfl rfl rfl (by decide +kernel) ⟨Nat.le_of_ble_eq_true rfl, Nat.le_of_ble_eq_true rfl⟩) ⟨fun a U g mk q => by obtain ⟨q0, qP, qK⟩ := q; exact ⟨q0, qP, va_K.moved (u := U) (U := U.calling g mk a) (Vm.Alike.refl U.vm) qK⟩, fun U hU hW => ⟨rfl, by rw [hU]; exact hPc, va_K.moved hW.alike hKc⟩⟩ rfl rfl hl.1 rfl (lv_room (Nat.le_of_ble_eq_true rfl)) dX9_vote_16 ⟨Nat.le_of_ble_eq_true rfl, Nat.le_of_ble_eq_true rfl⟩)) (fun r_2 er_2 => ?_)
    subst er_2
    refine lv_if_eq (tgt := 32) hx hb dX9_vote_19 (by decide) (fun c_3 => ?_) (fun c_3 => ?_)
    · skip
      refine lv_iconst (v := 2) hx hb dX9_vote_32 (by decide) ?_
      refine lv_goto (tgt := 37) hx hb dX9_vote_33 (by decide) ?_
      refine va_put (D := (dC, dI)) (ci := 11) (v := .int (2 : Int32)) (ty := .int) (C := RX9) (T := TX9) (N := 38) hx hb hts (by decide +kernel) tyX9 tyX9_ok nmX9 hown hK hP hD hS 0 rfl rfl 13 (by decide) (hts (.fieldLink RX9 91 "BlockLogModel" "thrown" "I") (by decide +kernel)) (fun _ h9 => h9) rfl (by decide +kernel) rfl rfl (Nat.le_of_ble_eq_true rfl) dX9_vote_37 (fun H locs hP hD hS => ?_)
      have hP : va_P (dC, dI) vwCl [(mo, .inr (11, [.ref m_disk, .int (nI P), .int ((8224 : Int32) + ((26 : Int32) * (nI P))), .int (1 : Int32), .int 0, .int (-1 : Int32), .int 0, .int (0 : Int32), .ref m_tape, .int 0, .ref m_slots, .ref m_leaves, .int 0, .int (2 : Int32), .ref m_fresh, .int 0, .int 0, .int 0, .ref m_digestAt, .ref m_isGroup, .ref m_counts, .int 0, .int 0, .long 0, .int 0, .ref m_versionRow, .int 0, .long 0, .ref m_state, .ref m_names, .int 0, .ref m_keptRow, .int 0, .ref m_inSlot, .ref m_inAt, .ref m_inSize, .ref m_inDigest, .int 0]))] H := hP
      have hD : va_D A [(mo, .inr (11, [.ref m_disk, .int (nI P), .int ((8224 : Int32) + ((26 : Int32) * (nI P))), .int (1 : Int32), .int 0, .int (-1 : Int32), .int 0, .int (0 : Int32), .ref m_tape, .int 0, .ref m_slots, .ref m_leaves, .int 0, .int (2 : Int32), .ref m_fresh, .int 0, .int 0, .int 0, .ref m_digestAt, .ref m_isGroup, .ref m_counts, .int 0, .int 0, .long 0, .int 0, .ref m_versionRow, .int 0, .long 0, .ref m_state, .ref m_names, .int 0, .ref m_keptRow, .int 0, .ref m_inSlot, .ref m_inAt, .ref m_inSize, .ref m_inDigest, .int 0]))] := hD
      refine lv_aload_n hx hb dX9_vote_40 rfl (lv_at hl 0 rfl) ?_
      refine va_get (D := (dC, dI)) (ci := 11) (v := .int (2 : Int32)) (C := RX9) (T := TX9) (N := 38) hx hb hts (by decide +kernel) hown hK hP 0 rfl rfl 13 (by decide) (hts (.fieldLink RX9 91 "BlockLogModel" "thrown" "I") (by decide +kernel)) (fun _ h9 => h9) rfl dX9_vote_41 ?_
      refine lv_if_le (tgt := 49) hx hb dX9_vote_44 (by decide) (fun c_4 => ?_) (fun c_4 => ?_)
      · skip
        exact absurd c_4 (by decide)
      · skip
        refine lv_iconst (v := 0) hx hb dX9_vote_47 (by decide) ?_
        have hP := hP.sub (ws' := [(mo, .inr (11, [.ref m_disk, .int (nI P), .int ((8224 : Int32) + ((26 : Int32) * (nI P))), .int (1 : Int32), .int 0, .int (-1 : Int32), .int 0, .int (0 : Int32), .ref m_tape, .int 0, .ref m_slots, .ref m_leaves, .int 0, .int (2 : Int32), .ref m_fresh, .int 0, .int 0, .int 0, .ref m_digestAt, .ref m_isGroup, .ref m_counts, .int 0, .int 0, .long 0, .int 0, .ref m_versionRow, .int 0, .long 0, .ref m_state, .ref m_names, .int 0, .ref m_keptRow, .int 0, .ref m_inSlot, .ref m_inAt, .ref m_inSize, .ref m_inDigest, .int 0]))]) [0] rfl
        have hD := hD.sub (ws' := [(mo, .inr (11, [.ref m_disk, .int (nI P), .int ((8224 : Int32) + ((26 : Int32) * (nI P))), .int (1 : Int32), .int 0, .int (-1 : Int32), .int 0, .int (0 : Int32), .ref m_tape, .int 0, .ref m_slots, .ref m_leaves, .int 0, .int (2 : Int32), .ref m_fresh, .int 0, .int 0, .int 0, .ref m_digestAt, .ref m_isGroup, .ref m_counts, .int 0, .int 0, .long 0, .int 0, .ref m_versionRow, .int 0, .long 0, .ref m_state, .ref m_names, .int 0, .ref m_keptRow, .int 0, .ref m_inSlot, .ref m_inAt, .ref m_inSize, .ref m_inDigest, .int 0]))]) [0] (by decide) rfl
        have hK := hK.sub (tys' := []) [] rfl
        exact W.iret hx hb hr (fun t ht hW => ⟨⟨_, (), rfl, rfl, by rw [ht]; exact hP, va_K.moved hW.alike hK, hD⟩, hS.F ht⟩) hS.2.2 dX9_vote_48
    · skip
      exact absurd (by decide) c_3
  · skip
    exact absurd c_1 (by decide)

set_option maxHeartbeats 4000000 in
set_option maxRecDepth 100000 in
theorem k_X8_isHeight_3 (l : Launch) (dC : Nat → ClassId) (dI : Nat → Nat → Nat) (p0 : Int32) (hf0 : 1 ≤ p0) (hf1 : p0 ≤ 1000000) : Met l yX8_isHeight wsX8_isHeight ({ frames := 0, cells := 0, slots := 0, locals := 0 }) (va_Pc [.int p0] (fun U => va_P (dC, dI) vwCl [] U.heap ∧ va_K (dC, dI) vwCl [] U)) (vp_Si (fun r => r = (1 : Int32))) 0 0 (fun _ => False) := by
  refine Met.ofW (cc := cX8_isHeight) (maxL := 1) (ret := (some .boolean)) (by decide) rfl ?_
  intro p e s m args below meth c s₁ B hml hv
  obtain ⟨rfl, hP, hK⟩ := hv
  have hx := B.exec
  have hb := B.bytes
  have hr := B.returns
  have hts := atoms_spec (ws := wsX8_isHeight) B.pre
  have hown : s.vm.findClass RX8 = some m.cls := findClass_of_methodNamed B.named
  have hlocks := B.notSynchronized
  have hl := lv_entry ([.int p0]) (n := 1) (Nat.le_of_ble_eq_true rfl)
  rw [lg_entry_eq]
  generalize (lg_sl ([.int p0]) ++ List.replicate (1 - (lg_sl ([.int p0])).length) Slot.unset).toArray = ls at hl ⊢
  have hl : lv_has ls 1 [(0, .int p0)] := hl
  refine lv_iload_n hx hb dX8_isHeight_0 rfl (lv_at hl 0 rfl) ?_
  refine lv_iconst (v := 1) hx hb dX8_isHeight_1 (by decide) ?_
  refine lv_icmp_lt (tgt := 15) hx hb dX8_isHeight_2 (by decide) (fun c_1 => ?_) (fun c_1 => ?_)
  · skip
    exact absurd c_1 (Int32.not_lt.mpr hf0)
  · skip
    refine lv_iload_n hx hb dX8_isHeight_5 rfl (lv_at hl 0 rfl) ?_
    refine lv_ldc hx hb hown (hts (.constant RX8 163 (1000000)) (by decide +kernel)) dX8_isHeight_6 ?_
    refine lv_icmp_gt (tgt := 15) hx hb dX8_isHeight_8 (by decide) (fun c_2 => ?_) (fun c_2 => ?_)
    · skip
      exact absurd c_2 (Int32.not_lt.mpr hf1)
    · skip
      refine lv_iconst (v := 1) hx hb dX8_isHeight_11 (by decide) ?_
      refine lv_goto (tgt := 16) hx hb dX8_isHeight_12 (by decide) ?_
      exact W.zret hx hb hr rfl (fun t ht hW => ⟨_, rfl, rfl, ht⟩) (fun q h => by cases h) dX8_isHeight_16

set_option maxHeartbeats 4000000 in
set_option maxRecDepth 100000 in
theorem k_X8_demandHeight_3 (l : Launch) (dC : Nat → ClassId) (dI : Nat → Nat → Nat) (p0 : Int32) (hf0 : 1 ≤ p0) (hf1 : p0 ≤ 1000000) : Met l yX8_demandHeight wsX8_demandHeight ({ frames := 1, cells := 0, slots := 0, locals := 20 }) (va_Pc [.int p0] (fun U => va_P (dC, dI) vwCl [] U.heap ∧ va_K (dC, dI) vwCl [] U)) (va_Sv (fun r => True)) 0 0 (fun _ => False) := by
  refine Met.ofW (cc := cX8_demandHeight) (maxL := 1) (ret := none) (by decide) rfl ?_
  intro p e s m args below meth c s₁ B hml hv
  obtain ⟨rfl, hP, hK⟩ := hv
  have hx := B.exec
  have hb := B.bytes
  have hr := B.returns
  have hts := atoms_spec (ws := wsX8_demandHeight) B.pre
  have hown : s.vm.findClass RX8 = some m.cls := findClass_of_methodNamed B.named
  have hlocks := B.notSynchronized
  have hl := lv_entry ([.int p0]) (n := 1) (Nat.le_of_ble_eq_true rfl)
  rw [lg_entry_eq]
  generalize (lg_sl ([.int p0]) ++ List.replicate (1 - (lg_sl ([.int p0])).length) Slot.unset).toArray = ls at hl ⊢
  have hl : lv_has ls 1 [(0, .int p0)] := hl
  refine lv_iload_n hx hb dX8_demandHeight_0 rfl (lv_at hl 0 rfl) ?_
  have hPc := hP.sub (ws' := []) [] rfl
  have hKc := hK.sub (tys' := []) [] rfl
  refine vp_callSi (va_Run.run (va_runS (As := [.int p0]) (rest := []) ⟨hx, hb, hml, hown, hts⟩ (k_X8_isHeight_3 l dC dI p0 hf0 hf1) (va_cwS 1 hts gX8_demandHeight_X8_isHeight rfl rfl rfl (by decide +kernel) ⟨Nat.le_of_ble_eq_true rfl, Nat.le_of_ble_eq_true rfl⟩) ⟨fun a U g mk q => by obtain ⟨q0, qP, qK⟩ := q; exact ⟨q0, qP, va_K.moved (u := U) (U := U.calling g mk a) (Vm.Alike.refl U.vm) qK⟩, fun U hU hW => ⟨rfl, by rw [hU]; exact hPc, va_K.moved hW.alike hKc⟩⟩ rfl rfl hl.1 rfl (lv_room (Nat.le_of_ble_eq_true rfl)) dX8_demandHeight_1 ⟨Nat.le_of_ble_eq_true rfl, Nat.le_of_ble_eq_true rfl⟩)) (fun r_1 er_1 => ?_)
  subst er_1
  refine lv_if_ne (tgt := 18) hx hb dX8_demandHeight_4 (by decide) (fun c_2 => ?_) (fun c_2 => ?_)
  · skip
    exact W.vret hx hb hr (fun t ht hW => ⟨rfl, trivial, ht⟩) (fun q h => by cases h) dX8_demandHeight_18
  · skip
    exact absurd c_2 (by decide)

set_option maxHeartbeats 4000000 in
set_option maxRecDepth 100000 in
theorem k_X8_vote_3 (l : Launch) (hl0 : l.stackTraces = false) (dC : Nat → ClassId) (dI : Nat → Nat → Nat) (x : Nat) (p0 : Int32) (p1 : Int32) (w2 : Int64) (ds : Nat) (tp : Nat) (rr : Nat) (so : Nat) (pu : Nat) (sn : Nat) (im : Nat) (cs : Nat) (cl : Nat) (pg : Int32) (dl : Nat) (dr : Nat) (dt : Nat) (sz : Nat) (hf0 : 1 ≤ p0) (hf1 : p0 ≤ 1000000) (hf2 : p1 < 0) : vx_Met l yX8_vote wsX8_vote ({ frames := 6, cells := 1, slots := 6, locals := 90 }) (va_Pc [.ref x, .int p0, .int p1, .long w2] (fun U => U.heap.size = sz ∧ va_P (dC, dI) vwCl [(x, .inr (10, [.ref tp, .ref ds, .ref rr, .ref so, .ref pu, .ref sn, .ref im, .ref cs, .ref cl, .int (0 : Int32)])), (ds, .inr (3, [.int pg, .ref dl, .ref dr, .ref dt, .int (1 : Int32), .int (-1 : Int32), .int (0 : Int32)]))] U.heap ∧ va_K (dC, dI) vwCl [] U ∧ va_D (fun _ => True) [(x, .inr (10, [.ref tp, .ref ds, .ref rr, .ref so, .ref pu, .ref sn, .ref im, .ref cs, .ref cl, .int (0 : Int32)])), (ds, .inr (3, [.int pg, .ref dl, .ref dr, .ref dt, .int (1 : Int32), .int (-1 : Int32), .int (0 : Int32)]))] ∧ gx_E (va_A [(x, .inr (10, [.ref tp, .ref ds, .ref rr, .ref so, .ref pu, .ref sn, .ref im, .ref cs, .ref cl, .int (0 : Int32)])), (ds, .inr (3, [.int pg, .ref dl, .ref dr, .ref dt, .int (1 : Int32), .int (-1 : Int32), .int (0 : Int32)]))] sz) U)) (va_Qi (fun (_ : Int32) (_ : Unit) => False) (fun _ _ => True) (va_A [(x, .inr (10, [.ref tp, .ref ds, .ref rr, .ref so, .ref pu, .ref sn, .ref im, .ref cs, .ref cl, .int (0 : Int32)])), (ds, .inr (3, [.int pg, .ref dl, .ref dr, .ref dt, .int (1 : Int32), .int (-1 : Int32), .int (0 : Int32)]))] sz)) (vx_X (fun _ : Unit => True) (fun E _ _ => E = "java/lang/IllegalArgumentException") (va_A [(x, .inr (10, [.ref tp, .ref ds, .ref rr, .ref so, .ref pu, .ref sn, .ref im, .ref cs, .ref cl, .int (0 : Int32)])), (ds, .inr (3, [.int pg, .ref dl, .ref dr, .ref dt, .int (1 : Int32), .int (-1 : Int32), .int (0 : Int32)]))] sz)) 1 6 (va_A [(x, .inr (10, [.ref tp, .ref ds, .ref rr, .ref so, .ref pu, .ref sn, .ref im, .ref cs, .ref cl, .int (0 : Int32)])), (ds, .inr (3, [.int pg, .ref dl, .ref dr, .ref dt, .int (1 : Int32), .int (-1 : Int32), .int (0 : Int32)]))] sz) := by
  refine vx_ofW (cc := cX8_vote) (maxL := 11) (ret := (some .int)) (by decide) rfl ?_
  intro p e s m args below meth c s₁ B hml hno hv
  obtain ⟨rfl, hsz, hP, hK, hD0, hG⟩ := hv
  have hx := B.exec
  have hb := B.bytes
  have hr := B.returns
  have hts := atoms_spec (ws := wsX8_vote) B.pre
  have hown : s.vm.findClass RX8 = some m.cls := findClass_of_methodNamed B.named
  have hlocks := B.notSynchronized
  subst hsz
  have hD := hD0.self (sz := s.heap.size)
  generalize hAe : va_A [(x, .inr (10, [.ref tp, .ref ds, .ref rr, .ref so, .ref pu, .ref sn, .ref im, .ref cs, .ref cl, .int (0 : Int32)])), (ds, .inr (3, [.int pg, .ref dl, .ref dr, .ref dt, .int (1 : Int32), .int (-1 : Int32), .int (0 : Int32)]))] s.heap.size = A at hD hG ⊢
  have hA : ∀ q : Nat, s.heap.size ≤ q → A q := fun q h => by rw [← hAe]; exact Or.inr h
  have hS : va_S A s.heap s.heap [] := va_S.rf
  have hl := lv_entry ([.ref x, .int p0, .int p1, .long w2]) (n := 11) (Nat.le_of_ble_eq_true rfl)
  rw [lg_entry_eq]
  generalize (lg_sl ([.ref x, .int p0, .int p1, .long w2]) ++ List.replicate (11 - (lg_sl ([.ref x, .int p0, .int p1, .long w2])).length) Slot.unset).toArray = ls at hl ⊢
  have hl : lv_has ls 11 [(0, .ref x), (1, .int p0), (2, .int p1), (3, .long w2)] := hl
  refine lv_aload_n hx hb dX8_vote_0 rfl (lv_at hl 0 rfl) ?_
  have hPc := hP.sub (ws' := [(x, .inr (10, [.ref tp, .ref ds, .ref rr, .ref so, .ref pu, .ref sn, .ref im, .ref cs, .ref cl, .int (0 : Int32)])), (ds, .inr (3, [.int pg, .ref dl, .ref dr, .ref dt, .int (1 : Int32), .int (-1 : Int32), .int (0 : Int32)]))]) [0, 1] rfl
  have hKc := hK.sub (tys' := []) [] rfl
  refine va_csv (va_Run.run (va_runV (As := []) (rest := []) ⟨hx, hb, hml, hown, hts⟩ (k_X8_demandPower_1 l dC dI x ds tp rr so pu sn im cs cl pg dl dr dt) (cwV 0 hts gX8_vote_X8_demandPower rfl rfl rfl (by decide +kernel) ⟨Nat.le_of_ble_eq_true rfl, Nat.le_of_ble_eq_true rfl⟩) ⟨fun a U g mk q => by obtain ⟨q0, qP, qK, qG⟩ := q; exact ⟨q0, qP, va_K.moved (u := U) (U := U.calling g mk a) (Vm.Alike.refl U.vm) qK, qG.same rfl⟩, va_recv hK hP (ci := 10) (q := (RX8, TX8, 10)) rfl (q0 := 0) rfl, fun U hU hW => ⟨rfl, by rw [hU]; exact hPc, va_K.moved hW.alike hKc, hG.1.warm hW⟩⟩ rfl rfl hl.1 rfl (lv_room (Nat.le_of_ble_eq_true rfl)) dX8_vote_1 ⟨Nat.le_of_ble_eq_true rfl, Nat.le_of_ble_eq_true rfl⟩)) (fun _ => ?_)
  refine lv_iload_n hx hb dX8_vote_4 rfl (lv_at hl 1 rfl) ?_
  have hPc := hP.sub (ws' := []) [] rfl
  have hKc := hK.sub (tys' := []) [] rfl
  refine va_csv (va_Run.run (va_runS (As := [.int p0]) (rest := []) ⟨hx, hb, hml, hown, hts⟩ (k_X8_demandHeight_3 l dC dI p0 hf0 hf1) (va_cwS 1 hts gX8_vote_X8_demandHeight rfl rfl rfl (by decide +kernel) ⟨Nat.le_of_ble_eq_true rfl, Nat.le_of_ble_eq_true rfl⟩) ⟨fun a U g mk q => by obtain ⟨q0, qP, qK⟩ := q; exact ⟨q0, qP, va_K.moved (u := U) (U := U.calling g mk a) (Vm.Alike.refl U.vm) qK⟩, fun U hU hW => ⟨rfl, by rw [hU]; exact hPc, va_K.moved hW.alike hKc⟩⟩ rfl rfl hl.1 rfl (lv_room (Nat.le_of_ble_eq_true rfl)) dX8_vote_5 ⟨Nat.le_of_ble_eq_true rfl, Nat.le_of_ble_eq_true rfl⟩)) (fun _ => ?_)
  refine lv_iload_n hx hb dX8_vote_8 rfl (lv_at hl 2 rfl) ?_
  refine lv_if_lt (tgt := 18) hx hb dX8_vote_9 (by decide) (fun c_3 => ?_) (fun c_3 => ?_)
  · skip
    obtain ⟨sa, hstr⟩ := hG.1.2.1 ("BlockLog", 164, "round is not 0 .. 1000000") (by decide +kernel)
    exact vx_throwS (names := ["java/lang/RuntimeException", "java/lang/Exception"]) hx hb hl0 hown (by decide +kernel) (by decide +kernel) (hts (.classLink RX8 76 "java/lang/IllegalArgumentException") (by decide +kernel)) (hts (.initialized "java/lang/IllegalArgumentException") (by decide +kernel)) hstr (vx_hat (B := gx_bad "java/lang/IllegalArgumentException") (fun w h => hts w (List.mem_cons_of_mem _ (List.mem_append_left _ (List.mem_append_right _ h)))) (by decide +kernel) (hG.1.bad (by decide))) (by decide +kernel) hG.2.1 hG.2.2.1 hS (hl.1.trans hml.symm) dX8_vote_18 dX8_vote_21 dX8_vote_22 dX8_vote_24 dX8_vote_27 (fun x h => (hno x h).elim) (Nat.le_of_ble_eq_true rfl) (Nat.le_of_ble_eq_true rfl) (Nat.le_of_ble_eq_true rfl) (Nat.le_of_ble_eq_true rfl) hlocks (fun t _ h1 h2 => ⟨(), trivial, rfl, Nat.le_trans hS.1 h1, fun q hq hn => (h2 q (Nat.lt_of_lt_of_le hq hS.1)).trans (hS.2.1 q hq hn)⟩) hS.2.2 (Nat.le_refl _) (Nat.le_refl _)
  · skip
    exact absurd hf2 c_3

set_option maxHeartbeats 4000000 in
set_option maxRecDepth 100000 in
theorem k_L_vote_3 (l : Launch) (hl0 : l.stackTraces = false) (dC : Nat → ClassId) (dI : Nat → Nat → Nat) (x : Nat) (p0 : Int32) (p1 : Int32) (w2 : Int64) (ho : Nat) (ds : Nat) (tp : Nat) (rr : Nat) (so : Nat) (pu : Nat) (sn : Nat) (im : Nat) (cs : Nat) (cl : Nat) (pg : Int32) (dl : Nat) (dr : Nat) (dt : Nat) (sz : Nat) (hf0 : 1 ≤ p0) (hf1 : p0 ≤ 1000000) (hf2 : p1 < 0) : Met l yL_vote wsL_vote ({ frames := 7, cells := 1, slots := 6, locals := 120 }) (va_Pc [.ref x, .int p0, .int p1, .long w2, .ref ho] (fun U => U.heap.size = sz ∧ va_P (dC, dI) vwCl [(x, .inr (10, [.ref tp, .ref ds, .ref rr, .ref so, .ref pu, .ref sn, .ref im, .ref cs, .ref cl, .int (0 : Int32)])), (ds, .inr (3, [.int pg, .ref dl, .ref dr, .ref dt, .int (1 : Int32), .int (-1 : Int32), .int (0 : Int32)]))] U.heap ∧ va_K (dC, dI) vwCl [] U ∧ va_D (fun _ => True) [(x, .inr (10, [.ref tp, .ref ds, .ref rr, .ref so, .ref pu, .ref sn, .ref im, .ref cs, .ref cl, .int (0 : Int32)])), (ds, .inr (3, [.int pg, .ref dl, .ref dr, .ref dt, .int (1 : Int32), .int (-1 : Int32), .int (0 : Int32)]))] ∧ gx_E (va_A [(x, .inr (10, [.ref tp, .ref ds, .ref rr, .ref so, .ref pu, .ref sn, .ref im, .ref cs, .ref cl, .int (0 : Int32)])), (ds, .inr (3, [.int pg, .ref dl, .ref dr, .ref dt, .int (1 : Int32), .int (-1 : Int32), .int (0 : Int32)]))] sz) U)) (va_Qi (fun r (_ : Unit) => r = (2 : Int32)) (fun (_ : Unit) t => va_P (dC, dI) vwCl [] t.heap ∧ va_K (dC, dI) vwCl [] t ∧ va_D (va_A [(x, .inr (10, [.ref tp, .ref ds, .ref rr, .ref so, .ref pu, .ref sn, .ref im, .ref cs, .ref cl, .int (0 : Int32)])), (ds, .inr (3, [.int pg, .ref dl, .ref dr, .ref dt, .int (1 : Int32), .int (-1 : Int32), .int (0 : Int32)]))] sz) []) (va_A [(x, .inr (10, [.ref tp, .ref ds, .ref rr, .ref so, .ref pu, .ref sn, .ref im, .ref cs, .ref cl, .int (0 : Int32)])), (ds, .inr (3, [.int pg, .ref dl, .ref dr, .ref dt, .int (1 : Int32), .int (-1 : Int32), .int (0 : Int32)]))] sz)) 1 6 (va_A [(x, .inr (10, [.ref tp, .ref ds, .ref rr, .ref so, .ref pu, .ref sn, .ref im, .ref cs, .ref cl, .int (0 : Int32)])), (ds, .inr (3, [.int pg, .ref dl, .ref dr, .ref dt, .int (1 : Int32), .int (-1 : Int32), .int (0 : Int32)]))] sz) := by
  refine va_MetW (cc := cL_vote) (maxL := 7) (ret := (some .int)) (hh := [(0, 12, 15, 25), (0, 12, 19, 13)]) (by decide) rfl ?_
  intro p e s m args below meth c s₁ B hml hv
  obtain ⟨rfl, hsz, hP, hK, hD0, hG⟩ := hv
  have hx := B.exec
  have hb := B.bytes
  have hr := B.returns
  have hts := atoms_spec (ws := wsL_vote) B.pre
  have hown : s.vm.findClass RL = some m.cls := findClass_of_methodNamed B.named
  have hlocks := B.notSynchronized
  have htab := vx_table (x := yL_vote) B (hts (.codeWith yL_vote cL_vote 7 (some .int) [(0, 12, 15, 25), (0, 12, 19, 13)]) List.mem_cons_self)
  subst hsz
  have hD := hD0.self (sz := s.heap.size)
  generalize hAe : va_A [(x, .inr (10, [.ref tp, .ref ds, .ref rr, .ref so, .ref pu, .ref sn, .ref im, .ref cs, .ref cl, .int (0 : Int32)])), (ds, .inr (3, [.int pg, .ref dl, .ref dr, .ref dt, .int (1 : Int32), .int (-1 : Int32), .int (0 : Int32)]))] s.heap.size = A at hD hG ⊢
  have hA : ∀ q : Nat, s.heap.size ≤ q → A q := fun q h => by rw [← hAe]; exact Or.inr h
  have hS : va_S A s.heap s.heap [] := va_S.rf
  have hl := lv_entry ([.ref x, .int p0, .int p1, .long w2, .ref ho]) (n := 7) (Nat.le_of_ble_eq_true rfl)
  rw [lg_entry_eq]
  generalize (lg_sl ([.ref x, .int p0, .int p1, .long w2, .ref ho]) ++ List.replicate (7 - (lg_sl ([.ref x, .int p0, .int p1, .long w2, .ref ho])).length) Slot.unset).toArray = ls at hl ⊢
  have hl : lv_has ls 7 [(0, .ref x), (1, .int p0), (2, .int p1), (3, .long w2), (5, .ref ho)] := hl
  refine lv_aload hx hb dL_vote_0 (lv_at hl 4 rfl) ?_
  refine lv_iconst (v := 0) hx hb dL_vote_2 (by decide) ?_
  refine lv_aload_n hx hb dL_vote_3 rfl (lv_at hl 0 rfl) ?_
  refine lv_iload_n hx hb dL_vote_4 rfl (lv_at hl 1 rfl) ?_
  refine lv_iload_n hx hb dL_vote_5 rfl (lv_at hl 2 rfl) ?_
  refine lv_lload_n hx hb dL_vote_6 rfl (lv_at hl 3 rfl) ?_
  have hPc := hP.sub (ws' := [(x, .inr (10, [.ref tp, .ref ds, .ref rr, .ref so, .ref pu, .ref sn, .ref im, .ref cs, .ref cl, .int (0 : Int32)])), (ds, .inr (3, [.int pg, .ref dl, .ref dr, .ref dt, .int (1 : Int32), .int (-1 : Int32), .int (0 : Int32)]))]) [0, 1] rfl
  have hKc := hK.sub (tys' := []) [] rfl
  have hDc := hD.sub (ws' := [(x, .inr (10, [.ref tp, .ref ds, .ref rr, .ref so, .ref pu, .ref sn, .ref im, .ref cs, .ref cl, .int (0 : Int32)])), (ds, .inr (3, [.int pg, .ref dl, .ref dr, .ref dt, .int (1 : Int32), .int (-1 : Int32), .int (0 : Int32)]))]) [0, 1] (by decide) rfl
  have hFc := va_free (wc := [(x, .inr (10, [.ref tp, .ref ds, .ref rr, .ref so, .ref pu, .ref sn, .ref im, .ref cs, .ref cl, .int (0 : Int32)])), (ds, .inr (3, [.int pg, .ref dl, .ref dr, .ref dt, .int (1 : Int32), .int (-1 : Int32), .int (0 : Int32)]))]) hD hS hA [0, 1] rfl
  refine vx_calli (vx_runV (As := [.int p0, .int p1, .long w2]) (rest := [.int (0 : Int32), .ref ho]) ⟨hx, hb, hml, hown, hts⟩ (k_X8_vote_3 l hl0 dC dI x p0 p1 w2 ds tp rr so pu sn im cs cl pg dl dr dt _ hf0 hf1 hf2) (cwV 3 hts gL_vote_X8_vote rfl rfl rfl (by decide +kernel) ⟨Nat.le_of_ble_eq_true rfl, Nat.le_of_ble_eq_true rfl⟩) ⟨fun a U g mk q => by obtain ⟨q0, q1, qP, qK, qD, qG⟩ := q; exact ⟨q0, q1, qP, va_K.moved (u := U) (U := U.calling g mk a) (Vm.Alike.refl U.vm) qK, qD, qG.same rfl rfl⟩, va_recv hK hP (ci := 10) (q := (RX8, TX8, 10)) rfl (q0 := 0) rfl, fun U hU hW => ⟨rfl, by rw [hU], by rw [hU]; exact hPc, va_K.moved hW.alike hKc, hDc.weaken (fun _ _ _ _ => trivial), hG.go hW hU hS hFc⟩⟩ rfl rfl hl.1 rfl (lv_room (Nat.le_of_ble_eq_true rfl)) dL_vote_7 ⟨Nat.le_of_ble_eq_true rfl, Nat.le_of_ble_eq_true rfl⟩) hS (fun q _ h => hFc q h) hFc (fun q _ h => hFc q h) (fun E9 ce q9 u t H1 locs1 ht hvm hp hE hz hk hS hcell hv hcl => ?_) (fun r u t H1 locs1 ht hvm hp hB hz hk hS => hp.elim)
  subst hE
  refine vx_catch (name := "java/lang/IllegalArgumentException") hown [⟨0, 12, 15, 25⟩] ⟨0, 12, 19, 13⟩ [] htab (fun z h => by simp only [List.mem_cons, List.not_mem_nil, or_false] at h; rcases h with rfl <;> first | exact Or.inr ⟨by decide, "java/lang/IllegalStateException", (hts (.classLink RL 25 "java/lang/IllegalStateException") (by decide +kernel)), hG.1.2.2.2.1 _ (by decide) _ (by decide) (by decide)⟩) (by decide) (by decide) (va_Nw.use rfl (hG.1.2.2.2.2.2.2 (13, "java/lang/IllegalArgumentException") (by decide +kernel))) (va_Nw.use rfl (hG.1.2.2.1 _ (by decide))) hcell hv hcl ?_
  refine W.eq (g2 := F0 m 19 ls [.ref q9]) rfl ?_
  have hP : va_P (dC, dI) vwCl [] H1 := fun k q h => by simp at h
  have hD : va_D A [] := ⟨fun i j p q h => by simp at h, fun k q h => by simp at h⟩
  generalize H1 = H at hP hS ⊢
  refine lv_astore (lv' := [(6, .ref q9), (0, .ref x), (1, .int p0), (2, .int p1), (3, .long w2), (5, .ref ho)]) hx hb dL_vote_19 hl (by decide) rfl (fun ls hl => ?_)
  refine lv_iconst (v := 2) hx hb dL_vote_21 (by decide) ?_
  have hP := hP.sub (ws' := []) [] rfl
  have hD := hD.sub (ws' := []) [] (by decide) rfl
  have hK := hK.sub (tys' := []) [] rfl
  exact W.iret hx hb hr (fun t ht hW => ⟨⟨_, (), rfl, rfl, by rw [ht]; exact hP, va_K.moved hW.alike hK, hD⟩, hS.F ht⟩) hS.2.2 dL_vote_22

set_option maxHeartbeats 4000000 in
set_option maxRecDepth 100000 in
theorem k_X9_vote_3 (l : Launch) (dC : Nat → ClassId) (dI : Nat → Nat → Nat) (mo : Nat) (p0 : Int32) (p1 : Int32) (w2 : Int64) (m_disk : Nat) (P : Nat) (m_tape : Nat) (m_slots : Nat) (m_leaves : Nat) (m_fresh : Nat) (m_digestAt : Nat) (m_isGroup : Nat) (m_counts : Nat) (m_versionRow : Nat) (m_state : Nat) (m_names : Nat) (m_keptRow : Nat) (m_inSlot : Nat) (m_inAt : Nat) (m_inSize : Nat) (m_inDigest : Nat) (sz : Nat) (hf0 : 1 ≤ p0) (hf1 : p0 ≤ 1000000) (hf2 : p1 < 0) : Met l yX9_vote wsX9_vote ({ frames := 1, cells := 0, slots := 0, locals := 22 }) (va_Pc [.ref mo, .int p0, .int p1, .long w2] (fun U => U.heap.size = sz ∧ va_P (dC, dI) vwCl [(mo, .inr (11, [.ref m_disk, .int (nI P), .int ((8224 : Int32) + ((26 : Int32) * (nI P))), .int (1 : Int32), .int 0, .int (-1 : Int32), .int 0, .int (0 : Int32), .ref m_tape, .int 0, .ref m_slots, .ref m_leaves, .int 0, .int 0, .ref m_fresh, .int 0, .int 0, .int 0, .ref m_digestAt, .ref m_isGroup, .ref m_counts, .int 0, .int 0, .long 0, .int 0, .ref m_versionRow, .int 0, .long 0, .ref m_state, .ref m_names, .int 0, .ref m_keptRow, .int 0, .ref m_inSlot, .ref m_inAt, .ref m_inSize, .ref m_inDigest, .int 0]))] U.heap ∧ va_K (dC, dI) vwCl [] U ∧ va_D (fun _ => True) [(mo, .inr (11, [.ref m_disk, .int (nI P), .int ((8224 : Int32) + ((26 : Int32) * (nI P))), .int (1 : Int32), .int 0, .int (-1 : Int32), .int 0, .int (0 : Int32), .ref m_tape, .int 0, .ref m_slots, .ref m_leaves, .int 0, .int 0, .ref m_fresh, .int 0, .int 0, .int 0, .ref m_digestAt, .ref m_isGroup, .ref m_counts, .int 0, .int 0, .long 0, .int 0, .ref m_versionRow, .int 0, .long 0, .ref m_state, .ref m_names, .int 0, .ref m_keptRow, .int 0, .ref m_inSlot, .ref m_inAt, .ref m_inSize, .ref m_inDigest, .int 0]))])) (va_Qi (fun r (_ : Unit) => r = (0 : Int32)) (fun (_ : Unit) t => va_P (dC, dI) vwCl [(mo, .inr (11, [.ref m_disk, .int (nI P), .int ((8224 : Int32) + ((26 : Int32) * (nI P))), .int (1 : Int32), .int 0, .int (-1 : Int32), .int 0, .int (0 : Int32), .ref m_tape, .int 0, .ref m_slots, .ref m_leaves, .int 0, .int (2 : Int32), .ref m_fresh, .int 0, .int 0, .int 0, .ref m_digestAt, .ref m_isGroup, .ref m_counts, .int 0, .int 0, .long 0, .int 0, .ref m_versionRow, .int 0, .long 0, .ref m_state, .ref m_names, .int 0, .ref m_keptRow, .int 0, .ref m_inSlot, .ref m_inAt, .ref m_inSize, .ref m_inDigest, .int 0]))] t.heap ∧ va_K (dC, dI) vwCl [] t ∧ va_D (va_A [(mo, .inr (11, [.ref m_disk, .int (nI P), .int ((8224 : Int32) + ((26 : Int32) * (nI P))), .int (1 : Int32), .int 0, .int (-1 : Int32), .int 0, .int (0 : Int32), .ref m_tape, .int 0, .ref m_slots, .ref m_leaves, .int 0, .int 0, .ref m_fresh, .int 0, .int 0, .int 0, .ref m_digestAt, .ref m_isGroup, .ref m_counts, .int 0, .int 0, .long 0, .int 0, .ref m_versionRow, .int 0, .long 0, .ref m_state, .ref m_names, .int 0, .ref m_keptRow, .int 0, .ref m_inSlot, .ref m_inAt, .ref m_inSize, .ref m_inDigest, .int 0]))] sz) [(mo, .inr (11, [.ref m_disk, .int (nI P), .int ((8224 : Int32) + ((26 : Int32) * (nI P))), .int (1 : Int32), .int 0, .int (-1 : Int32), .int 0, .int (0 : Int32), .ref m_tape, .int 0, .ref m_slots, .ref m_leaves, .int 0, .int (2 : Int32), .ref m_fresh, .int 0, .int 0, .int 0, .ref m_digestAt, .ref m_isGroup, .ref m_counts, .int 0, .int 0, .long 0, .int 0, .ref m_versionRow, .int 0, .long 0, .ref m_state, .ref m_names, .int 0, .ref m_keptRow, .int 0, .ref m_inSlot, .ref m_inAt, .ref m_inSize, .ref m_inDigest, .int 0]))]) (va_A [(mo, .inr (11, [.ref m_disk, .int (nI P), .int ((8224 : Int32) + ((26 : Int32) * (nI P))), .int (1 : Int32), .int 0, .int (-1 : Int32), .int 0, .int (0 : Int32), .ref m_tape, .int 0, .ref m_slots, .ref m_leaves, .int 0, .int 0, .ref m_fresh, .int 0, .int 0, .int 0, .ref m_digestAt, .ref m_isGroup, .ref m_counts, .int 0, .int 0, .long 0, .int 0, .ref m_versionRow, .int 0, .long 0, .ref m_state, .ref m_names, .int 0, .ref m_keptRow, .int 0, .ref m_inSlot, .ref m_inAt, .ref m_inSize, .ref m_inDigest, .int 0]))] sz)) 0 0 (va_A [(mo, .inr (11, [.ref m_disk, .int (nI P), .int ((8224 : Int32) + ((26 : Int32) * (nI P))), .int (1 : Int32), .int 0, .int (-1 : Int32), .int 0, .int (0 : Int32), .ref m_tape, .int 0, .ref m_slots, .ref m_leaves, .int 0, .int 0, .ref m_fresh, .int 0, .int 0, .int 0, .ref m_digestAt, .ref m_isGroup, .ref m_counts, .int 0, .int 0, .long 0, .int 0, .ref m_versionRow, .int 0, .long 0, .ref m_state, .ref m_names, .int 0, .ref m_keptRow, .int 0, .ref m_inSlot, .ref m_inAt, .ref m_inSize, .ref m_inDigest, .int 0]))] sz) := by
  refine Met.ofW (cc := cX9_vote) (maxL := 10) (ret := (some .int)) (by decide) rfl ?_
  intro p e s m args below meth c s₁ B hml hv
  obtain ⟨rfl, hsz, hP, hK, hD0⟩ := hv
  have hx := B.exec
  have hb := B.bytes
  have hr := B.returns
  have hts := atoms_spec (ws := wsX9_vote) B.pre
  have hown : s.vm.findClass RX9 = some m.cls := findClass_of_methodNamed B.named
  have hlocks := B.notSynchronized
  subst hsz
  have hD := hD0.self (sz := s.heap.size)
  generalize hAe : va_A [(mo, .inr (11, [.ref m_disk, .int (nI P), .int ((8224 : Int32) + ((26 : Int32) * (nI P))), .int (1 : Int32), .int 0, .int (-1 : Int32), .int 0, .int (0 : Int32), .ref m_tape, .int 0, .ref m_slots, .ref m_leaves, .int 0, .int 0, .ref m_fresh, .int 0, .int 0, .int 0, .ref m_digestAt, .ref m_isGroup, .ref m_counts, .int 0, .int 0, .long 0, .int 0, .ref m_versionRow, .int 0, .long 0, .ref m_state, .ref m_names, .int 0, .ref m_keptRow, .int 0, .ref m_inSlot, .ref m_inAt, .ref m_inSize, .ref m_inDigest, .int 0]))] s.heap.size = A at hD ⊢
  have hA : ∀ q : Nat, s.heap.size ≤ q → A q := fun q h => by rw [← hAe]; exact Or.inr h
  have hS : va_S A s.heap s.heap [] := va_S.rf
  have hl := lv_entry ([.ref mo, .int p0, .int p1, .long w2]) (n := 10) (Nat.le_of_ble_eq_true rfl)
  rw [lg_entry_eq]
  generalize (lg_sl ([.ref mo, .int p0, .int p1, .long w2]) ++ List.replicate (10 - (lg_sl ([.ref mo, .int p0, .int p1, .long w2])).length) Slot.unset).toArray = ls at hl ⊢
  have hl : lv_has ls 10 [(0, .ref mo), (1, .int p0), (2, .int p1), (3, .long w2)] := hl
  refine lv_aload_n hx hb dX9_vote_0 rfl (lv_at hl 0 rfl) ?_
  refine lv_aload_n hx hb dX9_vote_1 rfl (lv_at hl 0 rfl) ?_
  refine va_get (D := (dC, dI)) (ci := 11) (v := .int (1 : Int32)) (C := RX9) (T := TX9) (N := 38) hx hb hts (by decide +kernel) hown hK hP 0 rfl rfl 3 (by decide) (hts (.fieldLink RX9 72 "BlockLogModel" "on" "Z") (by decide +kernel)) (fun _ h9 => h9) rfl dX9_vote_2 ?_
  refine lv_if_ne (tgt := 12) hx hb dX9_vote_5 (by decide) (fun c_1 => ?_) (fun c_1 => ?_)
  · skip
    refine lv_iload_n hx hb dX9_vote_12 rfl (lv_at hl 1 rfl) ?_
    refine lv_iconst (v := 1) hx hb dX9_vote_13 (by decide) ?_
    refine lv_ldc hx hb hown (hts (.constant RX9 208 (1000000)) (by decide +kernel)) dX9_vote_14 ?_
    have hPc := hP.sub (ws' := []) [] rfl
    have hKc := hK.sub (tys' := []) [] rfl
    refine vp_callSi (va_Run.run (va_runS (As := [.int p0, .int (1 : Int32), .int (1000000 : Int32)]) (rest := [.ref mo]) ⟨hx, hb, hml, hown, hts⟩ (k_X9_within_3 l dC dI p0 (1 : Int32) (1000000 : Int32) hf0 hf1) (va_cwS 3 hts gX9_vote_X9_within rfl rfl rfl (by decide +kernel) ⟨Nat.le_of_ble_eq_true rfl, Nat.le_of_ble_eq_true rfl⟩) ⟨fun a U g mk q => by obtain ⟨q0, qP, qK⟩ := q; exact ⟨q0, qP, va_K.moved (u := U) (U := U.calling g mk a) (Vm.Alike.refl U.vm) qK⟩, fun U hU hW => ⟨rfl, by rw [hU]; exact hPc, va_K.moved hW.alike hKc⟩⟩ rfl rfl hl.1 rfl (lv_room (Nat.le_of_ble_eq_true rfl)) dX9_vote_16 ⟨Nat.le_of_ble_eq_true rfl, Nat.le_of_ble_eq_true rfl⟩)) (fun r_2 er_2 => ?_)
    subst er_2
    refine lv_if_eq (tgt := 32) hx hb dX9_vote_19 (by decide) (fun c_3 => ?_) (fun c_3 => ?_)
    · skip
      exact absurd c_3 (by decide)
    · skip
      refine lv_iload_n hx hb dX9_vote_22 rfl (lv_at hl 2 rfl) ?_
      refine lv_iconst (v := 0) hx hb dX9_vote_23 (by decide) ?_
      refine lv_ldc hx hb hown (hts (.constant RX9 208 (1000000)) (by decide +kernel)) dX9_vote_24 ?_
      have hPc := hP.sub (ws' := []) [] rfl
      have hKc := hK.sub (tys' := []) [] rfl
      refine vp_callSi (va_Run.run (va_runS (As := [.int p1, .int (0 : Int32), .int (1000000 : Int32)]) (rest := [.ref mo]) ⟨hx, hb, hml, hown, hts⟩ (k_X9_within_1 l dC dI p1 (0 : Int32) (1000000 : Int32) hf2) (va_cwS 3 hts gX9_vote_X9_within rfl rfl rfl (by decide +kernel) ⟨Nat.le_of_ble_eq_true rfl, Nat.le_of_ble_eq_true rfl⟩) ⟨fun a U g mk q => by obtain ⟨q0, qP, qK⟩ := q; exact ⟨q0, qP, va_K.moved (u := U) (U := U.calling g mk a) (Vm.Alike.refl U.vm) qK⟩, fun U hU hW => ⟨rfl, by rw [hU]; exact hPc, va_K.moved hW.alike hKc⟩⟩ rfl rfl hl.1 rfl (lv_room (Nat.le_of_ble_eq_true rfl)) dX9_vote_26 ⟨Nat.le_of_ble_eq_true rfl, Nat.le_of_ble_eq_true rfl⟩)) (fun r_4 er_4 => ?_)
      subst er_4
      refine lv_if_ne (tgt := 36) hx hb dX9_vote_29 (by decide) (fun c_5 => ?_) (fun c_5 => ?_)
      · skip
        exact absurd (by decide) c_5
      · skip
        refine lv_iconst (v := 2) hx hb dX9_vote_32 (by decide) ?_
        refine lv_goto (tgt := 37) hx hb dX9_vote_33 (by decide) ?_
        refine va_put (D := (dC, dI)) (ci := 11) (v := .int (2 : Int32)) (ty := .int) (C := RX9) (T := TX9) (N := 38) hx hb hts (by decide +kernel) tyX9 tyX9_ok nmX9 hown hK hP hD hS 0 rfl rfl 13 (by decide) (hts (.fieldLink RX9 91 "BlockLogModel" "thrown" "I") (by decide +kernel)) (fun _ h9 => h9) rfl (by decide +kernel) rfl rfl (Nat.le_of_ble_eq_true rfl) dX9_vote_37 (fun H locs hP hD hS => ?_)
        have hP : va_P (dC, dI) vwCl [(mo, .inr (11, [.ref m_disk, .int (nI P), .int ((8224 : Int32) + ((26 : Int32) * (nI P))), .int (1 : Int32), .int 0, .int (-1 : Int32), .int 0, .int (0 : Int32), .ref m_tape, .int 0, .ref m_slots, .ref m_leaves, .int 0, .int (2 : Int32), .ref m_fresh, .int 0, .int 0, .int 0, .ref m_digestAt, .ref m_isGroup, .ref m_counts, .int 0, .int 0, .long 0, .int 0, .ref m_versionRow, .int 0, .long 0, .ref m_state, .ref m_names, .int 0, .ref m_keptRow, .int 0, .ref m_inSlot, .ref m_inAt, .ref m_inSize, .ref m_inDigest, .int 0]))] H := hP
        have hD : va_D A [(mo, .inr (11, [.ref m_disk, .int (nI P), .int ((8224 : Int32) + ((26 : Int32) * (nI P))), .int (1 : Int32), .int 0, .int (-1 : Int32), .int 0, .int (0 : Int32), .ref m_tape, .int 0, .ref m_slots, .ref m_leaves, .int 0, .int (2 : Int32), .ref m_fresh, .int 0, .int 0, .int 0, .ref m_digestAt, .ref m_isGroup, .ref m_counts, .int 0, .int 0, .long 0, .int 0, .ref m_versionRow, .int 0, .long 0, .ref m_state, .ref m_names, .int 0, .ref m_keptRow, .int 0, .ref m_inSlot, .ref m_inAt, .ref m_inSize, .ref m_inDigest, .int 0]))] := hD
        refine lv_aload_n hx hb dX9_vote_40 rfl (lv_at hl 0 rfl) ?_
        refine va_get (D := (dC, dI)) (ci := 11) (v := .int (2 : Int32)) (C := RX9) (T := TX9) (N := 38) hx hb hts (by decide +kernel) hown hK hP 0 rfl rfl 13 (by decide) (hts (.fieldLink RX9 91 "BlockLogModel" "thrown" "I") (by decide +kernel)) (fun _ h9 => h9) rfl dX9_vote_41 ?_
        refine lv_if_le (tgt := 49) hx hb dX9_vote_44 (by decide) (fun c_6 => ?_) (fun c_6 => ?_)
        · skip
          exact absurd c_6 (by decide)
        · skip
          refine lv_iconst (v := 0) hx hb dX9_vote_47 (by decide) ?_
          have hP := hP.sub (ws' := [(mo, .inr (11, [.ref m_disk, .int (nI P), .int ((8224 : Int32) + ((26 : Int32) * (nI P))), .int (1 : Int32), .int 0, .int (-1 : Int32), .int 0, .int (0 : Int32), .ref m_tape, .int 0, .ref m_slots, .ref m_leaves, .int 0, .int (2 : Int32), .ref m_fresh, .int 0, .int 0, .int 0, .ref m_digestAt, .ref m_isGroup, .ref m_counts, .int 0, .int 0, .long 0, .int 0, .ref m_versionRow, .int 0, .long 0, .ref m_state, .ref m_names, .int 0, .ref m_keptRow, .int 0, .ref m_inSlot, .ref m_inAt, .ref m_inSize, .ref m_inDigest, .int 0]))]) [0] rfl
          have hD := hD.sub (ws' := [(mo, .inr (11, [.ref m_disk, .int (nI P), .int ((8224 : Int32) + ((26 : Int32) * (nI P))), .int (1 : Int32), .int 0, .int (-1 : Int32), .int 0, .int (0 : Int32), .ref m_tape, .int 0, .ref m_slots, .ref m_leaves, .int 0, .int (2 : Int32), .ref m_fresh, .int 0, .int 0, .int 0, .ref m_digestAt, .ref m_isGroup, .ref m_counts, .int 0, .int 0, .long 0, .int 0, .ref m_versionRow, .int 0, .long 0, .ref m_state, .ref m_names, .int 0, .ref m_keptRow, .int 0, .ref m_inSlot, .ref m_inAt, .ref m_inSize, .ref m_inDigest, .int 0]))]) [0] (by decide) rfl
          have hK := hK.sub (tys' := []) [] rfl
          exact W.iret hx hb hr (fun t ht hW => ⟨⟨_, (), rfl, rfl, by rw [ht]; exact hP, va_K.moved hW.alike hK, hD⟩, hS.F ht⟩) hS.2.2 dX9_vote_48
  · skip
    exact absurd c_1 (by decide)

set_option maxHeartbeats 4000000 in
set_option maxRecDepth 100000 in
theorem k_X8_vote_4 (l : Launch) (hl0 : l.stackTraces = false) (dC : Nat → ClassId) (dI : Nat → Nat → Nat) (x : Nat) (p0 : Int32) (p1 : Int32) (w2 : Int64) (ds : Nat) (tp : Nat) (rr : Nat) (so : Nat) (pu : Nat) (sn : Nat) (im : Nat) (cs : Nat) (cl : Nat) (pg : Int32) (dl : Nat) (dr : Nat) (dt : Nat) (sz : Nat) (hf0 : 1 ≤ p0) (hf1 : p0 ≤ 1000000) (hf2 : 1000000 < p1) : vx_Met l yX8_vote wsX8_vote ({ frames := 6, cells := 1, slots := 6, locals := 90 }) (va_Pc [.ref x, .int p0, .int p1, .long w2] (fun U => U.heap.size = sz ∧ va_P (dC, dI) vwCl [(x, .inr (10, [.ref tp, .ref ds, .ref rr, .ref so, .ref pu, .ref sn, .ref im, .ref cs, .ref cl, .int (0 : Int32)])), (ds, .inr (3, [.int pg, .ref dl, .ref dr, .ref dt, .int (1 : Int32), .int (-1 : Int32), .int (0 : Int32)]))] U.heap ∧ va_K (dC, dI) vwCl [] U ∧ va_D (fun _ => True) [(x, .inr (10, [.ref tp, .ref ds, .ref rr, .ref so, .ref pu, .ref sn, .ref im, .ref cs, .ref cl, .int (0 : Int32)])), (ds, .inr (3, [.int pg, .ref dl, .ref dr, .ref dt, .int (1 : Int32), .int (-1 : Int32), .int (0 : Int32)]))] ∧ gx_E (va_A [(x, .inr (10, [.ref tp, .ref ds, .ref rr, .ref so, .ref pu, .ref sn, .ref im, .ref cs, .ref cl, .int (0 : Int32)])), (ds, .inr (3, [.int pg, .ref dl, .ref dr, .ref dt, .int (1 : Int32), .int (-1 : Int32), .int (0 : Int32)]))] sz) U)) (va_Qi (fun (_ : Int32) (_ : Unit) => False) (fun _ _ => True) (va_A [(x, .inr (10, [.ref tp, .ref ds, .ref rr, .ref so, .ref pu, .ref sn, .ref im, .ref cs, .ref cl, .int (0 : Int32)])), (ds, .inr (3, [.int pg, .ref dl, .ref dr, .ref dt, .int (1 : Int32), .int (-1 : Int32), .int (0 : Int32)]))] sz)) (vx_X (fun _ : Unit => True) (fun E _ _ => E = "java/lang/IllegalArgumentException") (va_A [(x, .inr (10, [.ref tp, .ref ds, .ref rr, .ref so, .ref pu, .ref sn, .ref im, .ref cs, .ref cl, .int (0 : Int32)])), (ds, .inr (3, [.int pg, .ref dl, .ref dr, .ref dt, .int (1 : Int32), .int (-1 : Int32), .int (0 : Int32)]))] sz)) 1 6 (va_A [(x, .inr (10, [.ref tp, .ref ds, .ref rr, .ref so, .ref pu, .ref sn, .ref im, .ref cs, .ref cl, .int (0 : Int32)])), (ds, .inr (3, [.int pg, .ref dl, .ref dr, .ref dt, .int (1 : Int32), .int (-1 : Int32), .int (0 : Int32)]))] sz) := by
  refine vx_ofW (cc := cX8_vote) (maxL := 11) (ret := (some .int)) (by decide) rfl ?_
  intro p e s m args below meth c s₁ B hml hno hv
  obtain ⟨rfl, hsz, hP, hK, hD0, hG⟩ := hv
  have hx := B.exec
  have hb := B.bytes
  have hr := B.returns
  have hts := atoms_spec (ws := wsX8_vote) B.pre
  have hown : s.vm.findClass RX8 = some m.cls := findClass_of_methodNamed B.named
  have hlocks := B.notSynchronized
  subst hsz
  have hD := hD0.self (sz := s.heap.size)
  generalize hAe : va_A [(x, .inr (10, [.ref tp, .ref ds, .ref rr, .ref so, .ref pu, .ref sn, .ref im, .ref cs, .ref cl, .int (0 : Int32)])), (ds, .inr (3, [.int pg, .ref dl, .ref dr, .ref dt, .int (1 : Int32), .int (-1 : Int32), .int (0 : Int32)]))] s.heap.size = A at hD hG ⊢
  have hA : ∀ q : Nat, s.heap.size ≤ q → A q := fun q h => by rw [← hAe]; exact Or.inr h
  have hS : va_S A s.heap s.heap [] := va_S.rf
  have hl := lv_entry ([.ref x, .int p0, .int p1, .long w2]) (n := 11) (Nat.le_of_ble_eq_true rfl)
  rw [lg_entry_eq]
  generalize (lg_sl ([.ref x, .int p0, .int p1, .long w2]) ++ List.replicate (11 - (lg_sl ([.ref x, .int p0, .int p1, .long w2])).length) Slot.unset).toArray = ls at hl ⊢
  have hl : lv_has ls 11 [(0, .ref x), (1, .int p0), (2, .int p1), (3, .long w2)] := hl
  refine lv_aload_n hx hb dX8_vote_0 rfl (lv_at hl 0 rfl) ?_
  have hPc := hP.sub (ws' := [(x, .inr (10, [.ref tp, .ref ds, .ref rr, .ref so, .ref pu, .ref sn, .ref im, .ref cs, .ref cl, .int (0 : Int32)])), (ds, .inr (3, [.int pg, .ref dl, .ref dr, .ref dt, .int (1 : Int32), .int (-1 : Int32), .int (0 : Int32)]))]) [0, 1] rfl
  have hKc := hK.sub (tys' := []) [] rfl
  refine va_csv (va_Run.run (va_runV (As := []) (rest := []) ⟨hx, hb, hml, hown, hts⟩ (k_X8_demandPower_1 l dC dI x ds tp rr so pu sn im cs cl pg dl dr dt) (cwV 0 hts gX8_vote_X8_demandPower rfl rfl rfl (by decide +kernel) ⟨Nat.le_of_ble_eq_true rfl, Nat.le_of_ble_eq_true rfl⟩) ⟨fun a U g mk q => by obtain ⟨q0, qP, qK, qG⟩ := q; exact ⟨q0, qP, va_K.moved (u := U) (U := U.calling g mk a) (Vm.Alike.refl U.vm) qK, qG.same rfl⟩, va_recv hK hP (ci := 10) (q := (RX8, TX8, 10)) rfl (q0 := 0) rfl, fun U hU hW => ⟨rfl, by rw [hU]; exact hPc, va_K.moved hW.alike hKc, hG.1.warm hW⟩⟩ rfl rfl hl.1 rfl (lv_room (Nat.le_of_ble_eq_true rfl)) dX8_vote_1 ⟨Nat.le_of_ble_eq_true rfl, Nat.le_of_ble_eq_true rfl⟩)) (fun _ => ?_)
  refine lv_iload_n hx hb dX8_vote_4 rfl (lv_at hl 1 rfl) ?_
  have hPc := hP.sub (ws' := []) [] rfl
  have hKc := hK.sub (tys' := []) [] rfl
  refine va_csv (va_Run.run (va_runS (As := [.int p0]) (rest := []) ⟨hx, hb, hml, hown, hts⟩ (k_X8_demandHeight_3 l dC dI p0 hf0 hf1) (va_cwS 1 hts gX8_vote_X8_demandHeight rfl rfl rfl (by decide +kernel) ⟨Nat.le_of_ble_eq_true rfl, Nat.le_of_ble_eq_true rfl⟩) ⟨fun a U g mk q => by obtain ⟨q0, qP, qK⟩ := q; exact ⟨q0, qP, va_K.moved (u := U) (U := U.calling g mk a) (Vm.Alike.refl U.vm) qK⟩, fun U hU hW => ⟨rfl, by rw [hU]; exact hPc, va_K.moved hW.alike hKc⟩⟩ rfl rfl hl.1 rfl (lv_room (Nat.le_of_ble_eq_true rfl)) dX8_vote_5 ⟨Nat.le_of_ble_eq_true rfl, Nat.le_of_ble_eq_true rfl⟩)) (fun _ => ?_)
  refine lv_iload_n hx hb dX8_vote_8 rfl (lv_at hl 2 rfl) ?_
  refine lv_if_lt (tgt := 18) hx hb dX8_vote_9 (by decide) (fun c_3 => ?_) (fun c_3 => ?_)
  · skip
    exact absurd c_3 (Int32.not_lt.mpr (Int32.le_of_lt (Int32.lt_of_le_of_lt (by decide) hf2)))
  · skip
    refine lv_iload_n hx hb dX8_vote_12 rfl (lv_at hl 2 rfl) ?_
    refine lv_ldc hx hb hown (hts (.constant RX8 163 (1000000)) (by decide +kernel)) dX8_vote_13 ?_
    refine lv_icmp_le (tgt := 28) hx hb dX8_vote_15 (by decide) (fun c_4 => ?_) (fun c_4 => ?_)
    · skip
      exact absurd c_4 (Int32.not_le.mpr hf2)
    · skip
      obtain ⟨sa, hstr⟩ := hG.1.2.1 ("BlockLog", 164, "round is not 0 .. 1000000") (by decide +kernel)
      exact vx_throwS (names := ["java/lang/RuntimeException", "java/lang/Exception"]) hx hb hl0 hown (by decide +kernel) (by decide +kernel) (hts (.classLink RX8 76 "java/lang/IllegalArgumentException") (by decide +kernel)) (hts (.initialized "java/lang/IllegalArgumentException") (by decide +kernel)) hstr (vx_hat (B := gx_bad "java/lang/IllegalArgumentException") (fun w h => hts w (List.mem_cons_of_mem _ (List.mem_append_left _ (List.mem_append_right _ h)))) (by decide +kernel) (hG.1.bad (by decide))) (by decide +kernel) hG.2.1 hG.2.2.1 hS (hl.1.trans hml.symm) dX8_vote_18 dX8_vote_21 dX8_vote_22 dX8_vote_24 dX8_vote_27 (fun x h => (hno x h).elim) (Nat.le_of_ble_eq_true rfl) (Nat.le_of_ble_eq_true rfl) (Nat.le_of_ble_eq_true rfl) (Nat.le_of_ble_eq_true rfl) hlocks (fun t _ h1 h2 => ⟨(), trivial, rfl, Nat.le_trans hS.1 h1, fun q hq hn => (h2 q (Nat.lt_of_lt_of_le hq hS.1)).trans (hS.2.1 q hq hn)⟩) hS.2.2 (Nat.le_refl _) (Nat.le_refl _)

set_option maxHeartbeats 4000000 in
set_option maxRecDepth 100000 in
theorem k_L_vote_4 (l : Launch) (hl0 : l.stackTraces = false) (dC : Nat → ClassId) (dI : Nat → Nat → Nat) (x : Nat) (p0 : Int32) (p1 : Int32) (w2 : Int64) (ho : Nat) (ds : Nat) (tp : Nat) (rr : Nat) (so : Nat) (pu : Nat) (sn : Nat) (im : Nat) (cs : Nat) (cl : Nat) (pg : Int32) (dl : Nat) (dr : Nat) (dt : Nat) (sz : Nat) (hf0 : 1 ≤ p0) (hf1 : p0 ≤ 1000000) (hf2 : 1000000 < p1) : Met l yL_vote wsL_vote ({ frames := 7, cells := 1, slots := 6, locals := 120 }) (va_Pc [.ref x, .int p0, .int p1, .long w2, .ref ho] (fun U => U.heap.size = sz ∧ va_P (dC, dI) vwCl [(x, .inr (10, [.ref tp, .ref ds, .ref rr, .ref so, .ref pu, .ref sn, .ref im, .ref cs, .ref cl, .int (0 : Int32)])), (ds, .inr (3, [.int pg, .ref dl, .ref dr, .ref dt, .int (1 : Int32), .int (-1 : Int32), .int (0 : Int32)]))] U.heap ∧ va_K (dC, dI) vwCl [] U ∧ va_D (fun _ => True) [(x, .inr (10, [.ref tp, .ref ds, .ref rr, .ref so, .ref pu, .ref sn, .ref im, .ref cs, .ref cl, .int (0 : Int32)])), (ds, .inr (3, [.int pg, .ref dl, .ref dr, .ref dt, .int (1 : Int32), .int (-1 : Int32), .int (0 : Int32)]))] ∧ gx_E (va_A [(x, .inr (10, [.ref tp, .ref ds, .ref rr, .ref so, .ref pu, .ref sn, .ref im, .ref cs, .ref cl, .int (0 : Int32)])), (ds, .inr (3, [.int pg, .ref dl, .ref dr, .ref dt, .int (1 : Int32), .int (-1 : Int32), .int (0 : Int32)]))] sz) U)) (va_Qi (fun r (_ : Unit) => r = (2 : Int32)) (fun (_ : Unit) t => va_P (dC, dI) vwCl [] t.heap ∧ va_K (dC, dI) vwCl [] t ∧ va_D (va_A [(x, .inr (10, [.ref tp, .ref ds, .ref rr, .ref so, .ref pu, .ref sn, .ref im, .ref cs, .ref cl, .int (0 : Int32)])), (ds, .inr (3, [.int pg, .ref dl, .ref dr, .ref dt, .int (1 : Int32), .int (-1 : Int32), .int (0 : Int32)]))] sz) []) (va_A [(x, .inr (10, [.ref tp, .ref ds, .ref rr, .ref so, .ref pu, .ref sn, .ref im, .ref cs, .ref cl, .int (0 : Int32)])), (ds, .inr (3, [.int pg, .ref dl, .ref dr, .ref dt, .int (1 : Int32), .int (-1 : Int32), .int (0 : Int32)]))] sz)) 1 6 (va_A [(x, .inr (10, [.ref tp, .ref ds, .ref rr, .ref so, .ref pu, .ref sn, .ref im, .ref cs, .ref cl, .int (0 : Int32)])), (ds, .inr (3, [.int pg, .ref dl, .ref dr, .ref dt, .int (1 : Int32), .int (-1 : Int32), .int (0 : Int32)]))] sz) := by
  refine va_MetW (cc := cL_vote) (maxL := 7) (ret := (some .int)) (hh := [(0, 12, 15, 25), (0, 12, 19, 13)]) (by decide) rfl ?_
  intro p e s m args below meth c s₁ B hml hv
  obtain ⟨rfl, hsz, hP, hK, hD0, hG⟩ := hv
  have hx := B.exec
  have hb := B.bytes
  have hr := B.returns
  have hts := atoms_spec (ws := wsL_vote) B.pre
  have hown : s.vm.findClass RL = some m.cls := findClass_of_methodNamed B.named
  have hlocks := B.notSynchronized
  have htab := vx_table (x := yL_vote) B (hts (.codeWith yL_vote cL_vote 7 (some .int) [(0, 12, 15, 25), (0, 12, 19, 13)]) List.mem_cons_self)
  subst hsz
  have hD := hD0.self (sz := s.heap.size)
  generalize hAe : va_A [(x, .inr (10, [.ref tp, .ref ds, .ref rr, .ref so, .ref pu, .ref sn, .ref im, .ref cs, .ref cl, .int (0 : Int32)])), (ds, .inr (3, [.int pg, .ref dl, .ref dr, .ref dt, .int (1 : Int32), .int (-1 : Int32), .int (0 : Int32)]))] s.heap.size = A at hD hG ⊢
  have hA : ∀ q : Nat, s.heap.size ≤ q → A q := fun q h => by rw [← hAe]; exact Or.inr h
  have hS : va_S A s.heap s.heap [] := va_S.rf
  have hl := lv_entry ([.ref x, .int p0, .int p1, .long w2, .ref ho]) (n := 7) (Nat.le_of_ble_eq_true rfl)
  rw [lg_entry_eq]
  generalize (lg_sl ([.ref x, .int p0, .int p1, .long w2, .ref ho]) ++ List.replicate (7 - (lg_sl ([.ref x, .int p0, .int p1, .long w2, .ref ho])).length) Slot.unset).toArray = ls at hl ⊢
  have hl : lv_has ls 7 [(0, .ref x), (1, .int p0), (2, .int p1), (3, .long w2), (5, .ref ho)] := hl
  refine lv_aload hx hb dL_vote_0 (lv_at hl 4 rfl) ?_
  refine lv_iconst (v := 0) hx hb dL_vote_2 (by decide) ?_
  refine lv_aload_n hx hb dL_vote_3 rfl (lv_at hl 0 rfl) ?_
  refine lv_iload_n hx hb dL_vote_4 rfl (lv_at hl 1 rfl) ?_
  refine lv_iload_n hx hb dL_vote_5 rfl (lv_at hl 2 rfl) ?_
  refine lv_lload_n hx hb dL_vote_6 rfl (lv_at hl 3 rfl) ?_
  have hPc := hP.sub (ws' := [(x, .inr (10, [.ref tp, .ref ds, .ref rr, .ref so, .ref pu, .ref sn, .ref im, .ref cs, .ref cl, .int (0 : Int32)])), (ds, .inr (3, [.int pg, .ref dl, .ref dr, .ref dt, .int (1 : Int32), .int (-1 : Int32), .int (0 : Int32)]))]) [0, 1] rfl
  have hKc := hK.sub (tys' := []) [] rfl
  have hDc := hD.sub (ws' := [(x, .inr (10, [.ref tp, .ref ds, .ref rr, .ref so, .ref pu, .ref sn, .ref im, .ref cs, .ref cl, .int (0 : Int32)])), (ds, .inr (3, [.int pg, .ref dl, .ref dr, .ref dt, .int (1 : Int32), .int (-1 : Int32), .int (0 : Int32)]))]) [0, 1] (by decide) rfl
  have hFc := va_free (wc := [(x, .inr (10, [.ref tp, .ref ds, .ref rr, .ref so, .ref pu, .ref sn, .ref im, .ref cs, .ref cl, .int (0 : Int32)])), (ds, .inr (3, [.int pg, .ref dl, .ref dr, .ref dt, .int (1 : Int32), .int (-1 : Int32), .int (0 : Int32)]))]) hD hS hA [0, 1] rfl
  refine vx_calli (vx_runV (As := [.int p0, .int p1, .long w2]) (rest := [.int (0 : Int32), .ref ho]) ⟨hx, hb, hml, hown, hts⟩ (k_X8_vote_4 l hl0 dC dI x p0 p1 w2 ds tp rr so pu sn im cs cl pg dl dr dt _ hf0 hf1 hf2) (cwV 3 hts gL_vote_X8_vote rfl rfl rfl (by decide +kernel) ⟨Nat.le_of_ble_eq_true rfl, Nat.le_of_ble_eq_true rfl⟩) ⟨fun a U g mk q => by obtain ⟨q0, q1, qP, qK, qD, qG⟩ := q; exact ⟨q0, q1, qP, va_K.moved (u := U) (U := U.calling g mk a) (Vm.Alike.refl U.vm) qK, qD, qG.same rfl rfl⟩, va_recv hK hP (ci := 10) (q := (RX8, TX8, 10)) rfl (q0 := 0) rfl, fun U hU hW => ⟨rfl, by rw [hU], by rw [hU]; exact hPc, va_K.moved hW.alike hKc, hDc.weaken (fun _ _ _ _ => trivial), hG.go hW hU hS hFc⟩⟩ rfl rfl hl.1 rfl (lv_room (Nat.le_of_ble_eq_true rfl)) dL_vote_7 ⟨Nat.le_of_ble_eq_true rfl, Nat.le_of_ble_eq_true rfl⟩) hS (fun q _ h => hFc q h) hFc (fun q _ h => hFc q h) (fun E9 ce q9 u t H1 locs1 ht hvm hp hE hz hk hS hcell hv hcl => ?_) (fun r u t H1 locs1 ht hvm hp hB hz hk hS => hp.elim)
  subst hE
  refine vx_catch (name := "java/lang/IllegalArgumentException") hown [⟨0, 12, 15, 25⟩] ⟨0, 12, 19, 13⟩ [] htab (fun z h => by simp only [List.mem_cons, List.not_mem_nil, or_false] at h; rcases h with rfl <;> first | exact Or.inr ⟨by decide, "java/lang/IllegalStateException", (hts (.classLink RL 25 "java/lang/IllegalStateException") (by decide +kernel)), hG.1.2.2.2.1 _ (by decide) _ (by decide) (by decide)⟩) (by decide) (by decide) (va_Nw.use rfl (hG.1.2.2.2.2.2.2 (13, "java/lang/IllegalArgumentException") (by decide +kernel))) (va_Nw.use rfl (hG.1.2.2.1 _ (by decide))) hcell hv hcl ?_
  refine W.eq (g2 := F0 m 19 ls [.ref q9]) rfl ?_
  have hP : va_P (dC, dI) vwCl [] H1 := fun k q h => by simp at h
  have hD : va_D A [] := ⟨fun i j p q h => by simp at h, fun k q h => by simp at h⟩
  generalize H1 = H at hP hS ⊢
  refine lv_astore (lv' := [(6, .ref q9), (0, .ref x), (1, .int p0), (2, .int p1), (3, .long w2), (5, .ref ho)]) hx hb dL_vote_19 hl (by decide) rfl (fun ls hl => ?_)
  refine lv_iconst (v := 2) hx hb dL_vote_21 (by decide) ?_
  have hP := hP.sub (ws' := []) [] rfl
  have hD := hD.sub (ws' := []) [] (by decide) rfl
  have hK := hK.sub (tys' := []) [] rfl
  exact W.iret hx hb hr (fun t ht hW => ⟨⟨_, (), rfl, rfl, by rw [ht]; exact hP, va_K.moved hW.alike hK, hD⟩, hS.F ht⟩) hS.2.2 dL_vote_22

set_option maxHeartbeats 4000000 in
set_option maxRecDepth 100000 in
theorem k_X9_vote_4 (l : Launch) (dC : Nat → ClassId) (dI : Nat → Nat → Nat) (mo : Nat) (p0 : Int32) (p1 : Int32) (w2 : Int64) (m_disk : Nat) (P : Nat) (m_tape : Nat) (m_slots : Nat) (m_leaves : Nat) (m_fresh : Nat) (m_digestAt : Nat) (m_isGroup : Nat) (m_counts : Nat) (m_versionRow : Nat) (m_state : Nat) (m_names : Nat) (m_keptRow : Nat) (m_inSlot : Nat) (m_inAt : Nat) (m_inSize : Nat) (m_inDigest : Nat) (sz : Nat) (hf0 : 1 ≤ p0) (hf1 : p0 ≤ 1000000) (hf2 : 0 ≤ p1) (hf3 : 1000000 < p1) : Met l yX9_vote wsX9_vote ({ frames := 1, cells := 0, slots := 0, locals := 22 }) (va_Pc [.ref mo, .int p0, .int p1, .long w2] (fun U => U.heap.size = sz ∧ va_P (dC, dI) vwCl [(mo, .inr (11, [.ref m_disk, .int (nI P), .int ((8224 : Int32) + ((26 : Int32) * (nI P))), .int (1 : Int32), .int 0, .int (-1 : Int32), .int 0, .int (0 : Int32), .ref m_tape, .int 0, .ref m_slots, .ref m_leaves, .int 0, .int 0, .ref m_fresh, .int 0, .int 0, .int 0, .ref m_digestAt, .ref m_isGroup, .ref m_counts, .int 0, .int 0, .long 0, .int 0, .ref m_versionRow, .int 0, .long 0, .ref m_state, .ref m_names, .int 0, .ref m_keptRow, .int 0, .ref m_inSlot, .ref m_inAt, .ref m_inSize, .ref m_inDigest, .int 0]))] U.heap ∧ va_K (dC, dI) vwCl [] U ∧ va_D (fun _ => True) [(mo, .inr (11, [.ref m_disk, .int (nI P), .int ((8224 : Int32) + ((26 : Int32) * (nI P))), .int (1 : Int32), .int 0, .int (-1 : Int32), .int 0, .int (0 : Int32), .ref m_tape, .int 0, .ref m_slots, .ref m_leaves, .int 0, .int 0, .ref m_fresh, .int 0, .int 0, .int 0, .ref m_digestAt, .ref m_isGroup, .ref m_counts, .int 0, .int 0, .long 0, .int 0, .ref m_versionRow, .int 0, .long 0, .ref m_state, .ref m_names, .int 0, .ref m_keptRow, .int 0, .ref m_inSlot, .ref m_inAt, .ref m_inSize, .ref m_inDigest, .int 0]))])) (va_Qi (fun r (_ : Unit) => r = (0 : Int32)) (fun (_ : Unit) t => va_P (dC, dI) vwCl [(mo, .inr (11, [.ref m_disk, .int (nI P), .int ((8224 : Int32) + ((26 : Int32) * (nI P))), .int (1 : Int32), .int 0, .int (-1 : Int32), .int 0, .int (0 : Int32), .ref m_tape, .int 0, .ref m_slots, .ref m_leaves, .int 0, .int (2 : Int32), .ref m_fresh, .int 0, .int 0, .int 0, .ref m_digestAt, .ref m_isGroup, .ref m_counts, .int 0, .int 0, .long 0, .int 0, .ref m_versionRow, .int 0, .long 0, .ref m_state, .ref m_names, .int 0, .ref m_keptRow, .int 0, .ref m_inSlot, .ref m_inAt, .ref m_inSize, .ref m_inDigest, .int 0]))] t.heap ∧ va_K (dC, dI) vwCl [] t ∧ va_D (va_A [(mo, .inr (11, [.ref m_disk, .int (nI P), .int ((8224 : Int32) + ((26 : Int32) * (nI P))), .int (1 : Int32), .int 0, .int (-1 : Int32), .int 0, .int (0 : Int32), .ref m_tape, .int 0, .ref m_slots, .ref m_leaves, .int 0, .int 0, .ref m_fresh, .int 0, .int 0, .int 0, .ref m_digestAt, .ref m_isGroup, .ref m_counts, .int 0, .int 0, .long 0, .int 0, .ref m_versionRow, .int 0, .long 0, .ref m_state, .ref m_names, .int 0, .ref m_keptRow, .int 0, .ref m_inSlot, .ref m_inAt, .ref m_inSize, .ref m_inDigest, .int 0]))] sz) [(mo, .inr (11, [.ref m_disk, .int (nI P), .int ((8224 : Int32) + ((26 : Int32) * (nI P))), .int (1 : Int32), .int 0, .int (-1 : Int32), .int 0, .int (0 : Int32), .ref m_tape, .int 0, .ref m_slots, .ref m_leaves, .int 0, .int (2 : Int32), .ref m_fresh, .int 0, .int 0, .int 0, .ref m_digestAt, .ref m_isGroup, .ref m_counts, .int 0, .int 0, .long 0, .int 0, .ref m_versionRow, .int 0, .long 0, .ref m_state, .ref m_names, .int 0, .ref m_keptRow, .int 0, .ref m_inSlot, .ref m_inAt, .ref m_inSize, .ref m_inDigest, .int 0]))]) (va_A [(mo, .inr (11, [.ref m_disk, .int (nI P), .int ((8224 : Int32) + ((26 : Int32) * (nI P))), .int (1 : Int32), .int 0, .int (-1 : Int32), .int 0, .int (0 : Int32), .ref m_tape, .int 0, .ref m_slots, .ref m_leaves, .int 0, .int 0, .ref m_fresh, .int 0, .int 0, .int 0, .ref m_digestAt, .ref m_isGroup, .ref m_counts, .int 0, .int 0, .long 0, .int 0, .ref m_versionRow, .int 0, .long 0, .ref m_state, .ref m_names, .int 0, .ref m_keptRow, .int 0, .ref m_inSlot, .ref m_inAt, .ref m_inSize, .ref m_inDigest, .int 0]))] sz)) 0 0 (va_A [(mo, .inr (11, [.ref m_disk, .int (nI P), .int ((8224 : Int32) + ((26 : Int32) * (nI P))), .int (1 : Int32), .int 0, .int (-1 : Int32), .int 0, .int (0 : Int32), .ref m_tape, .int 0, .ref m_slots, .ref m_leaves, .int 0, .int 0, .ref m_fresh, .int 0, .int 0, .int 0, .ref m_digestAt, .ref m_isGroup, .ref m_counts, .int 0, .int 0, .long 0, .int 0, .ref m_versionRow, .int 0, .long 0, .ref m_state, .ref m_names, .int 0, .ref m_keptRow, .int 0, .ref m_inSlot, .ref m_inAt, .ref m_inSize, .ref m_inDigest, .int 0]))] sz) := by
  refine Met.ofW (cc := cX9_vote) (maxL := 10) (ret := (some .int)) (by decide) rfl ?_
  intro p e s m args below meth c s₁ B hml hv
  obtain ⟨rfl, hsz, hP, hK, hD0⟩ := hv
  have hx := B.exec
  have hb := B.bytes
  have hr := B.returns
  have hts := atoms_spec (ws := wsX9_vote) B.pre
  have hown : s.vm.findClass RX9 = some m.cls := findClass_of_methodNamed B.named
  have hlocks := B.notSynchronized
  subst hsz
  have hD := hD0.self (sz := s.heap.size)
  generalize hAe : va_A [(mo, .inr (11, [.ref m_disk, .int (nI P), .int ((8224 : Int32) + ((26 : Int32) * (nI P))), .int (1 : Int32), .int 0, .int (-1 : Int32), .int 0, .int (0 : Int32), .ref m_tape, .int 0, .ref m_slots, .ref m_leaves, .int 0, .int 0, .ref m_fresh, .int 0, .int 0, .int 0, .ref m_digestAt, .ref m_isGroup, .ref m_counts, .int 0, .int 0, .long 0, .int 0, .ref m_versionRow, .int 0, .long 0, .ref m_state, .ref m_names, .int 0, .ref m_keptRow, .int 0, .ref m_inSlot, .ref m_inAt, .ref m_inSize, .ref m_inDigest, .int 0]))] s.heap.size = A at hD ⊢
  have hA : ∀ q : Nat, s.heap.size ≤ q → A q := fun q h => by rw [← hAe]; exact Or.inr h
  have hS : va_S A s.heap s.heap [] := va_S.rf
  have hl := lv_entry ([.ref mo, .int p0, .int p1, .long w2]) (n := 10) (Nat.le_of_ble_eq_true rfl)
  rw [lg_entry_eq]
  generalize (lg_sl ([.ref mo, .int p0, .int p1, .long w2]) ++ List.replicate (10 - (lg_sl ([.ref mo, .int p0, .int p1, .long w2])).length) Slot.unset).toArray = ls at hl ⊢
  have hl : lv_has ls 10 [(0, .ref mo), (1, .int p0), (2, .int p1), (3, .long w2)] := hl
  refine lv_aload_n hx hb dX9_vote_0 rfl (lv_at hl 0 rfl) ?_
  refine lv_aload_n hx hb dX9_vote_1 rfl (lv_at hl 0 rfl) ?_
  refine va_get (D := (dC, dI)) (ci := 11) (v := .int (1 : Int32)) (C := RX9) (T := TX9) (N := 38) hx hb hts (by decide +kernel) hown hK hP 0 rfl rfl 3 (by decide) (hts (.fieldLink RX9 72 "BlockLogModel" "on" "Z") (by decide +kernel)) (fun _ h9 => h9) rfl dX9_vote_2 ?_
  refine lv_if_ne (tgt := 12) hx hb dX9_vote_5 (by decide) (fun c_1 => ?_) (fun c_1 => ?_)
  · skip
    refine lv_iload_n hx hb dX9_vote_12 rfl (lv_at hl 1 rfl) ?_
    refine lv_iconst (v := 1) hx hb dX9_vote_13 (by decide) ?_
    refine lv_ldc hx hb hown (hts (.constant RX9 208 (1000000)) (by decide +kernel)) dX9_vote_14 ?_
    have hPc := hP.sub (ws' := []) [] rfl
    have hKc := hK.sub (tys' := []) [] rfl
    refine vp_callSi (va_Run.run (va_runS (As := [.int p0, .int (1 : Int32), .int (1000000 : Int32)]) (rest := [.ref mo]) ⟨hx, hb, hml, hown, hts⟩ (k_X9_within_3 l dC dI p0 (1 : Int32) (1000000 : Int32) hf0 hf1) (va_cwS 3 hts gX9_vote_X9_within rfl rfl rfl (by decide +kernel) ⟨Nat.le_of_ble_eq_true rfl, Nat.le_of_ble_eq_true rfl⟩) ⟨fun a U g mk q => by obtain ⟨q0, qP, qK⟩ := q; exact ⟨q0, qP, va_K.moved (u := U) (U := U.calling g mk a) (Vm.Alike.refl U.vm) qK⟩, fun U hU hW => ⟨rfl, by rw [hU]; exact hPc, va_K.moved hW.alike hKc⟩⟩ rfl rfl hl.1 rfl (lv_room (Nat.le_of_ble_eq_true rfl)) dX9_vote_16 ⟨Nat.le_of_ble_eq_true rfl, Nat.le_of_ble_eq_true rfl⟩)) (fun r_2 er_2 => ?_)
    subst er_2
    refine lv_if_eq (tgt := 32) hx hb dX9_vote_19 (by decide) (fun c_3 => ?_) (fun c_3 => ?_)
    · skip
      exact absurd c_3 (by decide)
    · skip
      refine lv_iload_n hx hb dX9_vote_22 rfl (lv_at hl 2 rfl) ?_
      refine lv_iconst (v := 0) hx hb dX9_vote_23 (by decide) ?_
      refine lv_ldc hx hb hown (hts (.constant RX9 208 (1000000)) (by decide +kernel)) dX9_vote_24 ?_
      have hPc := hP.sub (ws' := []) [] rfl
      have hKc := hK.sub (tys' := []) [] rfl
      refine vp_callSi (va_Run.run (va_runS (As := [.int p1, .int (0 : Int32), .int (1000000 : Int32)]) (rest := [.ref mo]) ⟨hx, hb, hml, hown, hts⟩ (k_X9_within_2 l dC dI p1 (0 : Int32) (1000000 : Int32) hf2 hf3) (va_cwS 3 hts gX9_vote_X9_within rfl rfl rfl (by decide +kernel) ⟨Nat.le_of_ble_eq_true rfl, Nat.le_of_ble_eq_true rfl⟩) ⟨fun a U g mk q => by obtain ⟨q0, qP, qK⟩ := q; exact ⟨q0, qP, va_K.moved (u := U) (U := U.calling g mk a) (Vm.Alike.refl U.vm) qK⟩, fun U hU hW => ⟨rfl, by rw [hU]; exact hPc, va_K.moved hW.alike hKc⟩⟩ rfl rfl hl.1 rfl (lv_room (Nat.le_of_ble_eq_true rfl)) dX9_vote_26 ⟨Nat.le_of_ble_eq_true rfl, Nat.le_of_ble_eq_true rfl⟩)) (fun r_4 er_4 => ?_)
      subst er_4
      refine lv_if_ne (tgt := 36) hx hb dX9_vote_29 (by decide) (fun c_5 => ?_) (fun c_5 => ?_)
      · skip
        exact absurd (by decide) c_5
      · skip
        refine lv_iconst (v := 2) hx hb dX9_vote_32 (by decide) ?_
        refine lv_goto (tgt := 37) hx hb dX9_vote_33 (by decide) ?_
        refine va_put (D := (dC, dI)) (ci := 11) (v := .int (2 : Int32)) (ty := .int) (C := RX9) (T := TX9) (N := 38) hx hb hts (by decide +kernel) tyX9 tyX9_ok nmX9 hown hK hP hD hS 0 rfl rfl 13 (by decide) (hts (.fieldLink RX9 91 "BlockLogModel" "thrown" "I") (by decide +kernel)) (fun _ h9 => h9) rfl (by decide +kernel) rfl rfl (Nat.le_of_ble_eq_true rfl) dX9_vote_37 (fun H locs hP hD hS => ?_)
        have hP : va_P (dC, dI) vwCl [(mo, .inr (11, [.ref m_disk, .int (nI P), .int ((8224 : Int32) + ((26 : Int32) * (nI P))), .int (1 : Int32), .int 0, .int (-1 : Int32), .int 0, .int (0 : Int32), .ref m_tape, .int 0, .ref m_slots, .ref m_leaves, .int 0, .int (2 : Int32), .ref m_fresh, .int 0, .int 0, .int 0, .ref m_digestAt, .ref m_isGroup, .ref m_counts, .int 0, .int 0, .long 0, .int 0, .ref m_versionRow, .int 0, .long 0, .ref m_state, .ref m_names, .int 0, .ref m_keptRow, .int 0, .ref m_inSlot, .ref m_inAt, .ref m_inSize, .ref m_inDigest, .int 0]))] H := hP
        have hD : va_D A [(mo, .inr (11, [.ref m_disk, .int (nI P), .int ((8224 : Int32) + ((26 : Int32) * (nI P))), .int (1 : Int32), .int 0, .int (-1 : Int32), .int 0, .int (0 : Int32), .ref m_tape, .int 0, .ref m_slots, .ref m_leaves, .int 0, .int (2 : Int32), .ref m_fresh, .int 0, .int 0, .int 0, .ref m_digestAt, .ref m_isGroup, .ref m_counts, .int 0, .int 0, .long 0, .int 0, .ref m_versionRow, .int 0, .long 0, .ref m_state, .ref m_names, .int 0, .ref m_keptRow, .int 0, .ref m_inSlot, .ref m_inAt, .ref m_inSize, .ref m_inDigest, .int 0]))] := hD
        refine lv_aload_n hx hb dX9_vote_40 rfl (lv_at hl 0 rfl) ?_
        refine va_get (D := (dC, dI)) (ci := 11) (v := .int (2 : Int32)) (C := RX9) (T := TX9) (N := 38) hx hb hts (by decide +kernel) hown hK hP 0 rfl rfl 13 (by decide) (hts (.fieldLink RX9 91 "BlockLogModel" "thrown" "I") (by decide +kernel)) (fun _ h9 => h9) rfl dX9_vote_41 ?_
        refine lv_if_le (tgt := 49) hx hb dX9_vote_44 (by decide) (fun c_6 => ?_) (fun c_6 => ?_)
        · skip
          exact absurd c_6 (by decide)
        · skip
          refine lv_iconst (v := 0) hx hb dX9_vote_47 (by decide) ?_
          have hP := hP.sub (ws' := [(mo, .inr (11, [.ref m_disk, .int (nI P), .int ((8224 : Int32) + ((26 : Int32) * (nI P))), .int (1 : Int32), .int 0, .int (-1 : Int32), .int 0, .int (0 : Int32), .ref m_tape, .int 0, .ref m_slots, .ref m_leaves, .int 0, .int (2 : Int32), .ref m_fresh, .int 0, .int 0, .int 0, .ref m_digestAt, .ref m_isGroup, .ref m_counts, .int 0, .int 0, .long 0, .int 0, .ref m_versionRow, .int 0, .long 0, .ref m_state, .ref m_names, .int 0, .ref m_keptRow, .int 0, .ref m_inSlot, .ref m_inAt, .ref m_inSize, .ref m_inDigest, .int 0]))]) [0] rfl
          have hD := hD.sub (ws' := [(mo, .inr (11, [.ref m_disk, .int (nI P), .int ((8224 : Int32) + ((26 : Int32) * (nI P))), .int (1 : Int32), .int 0, .int (-1 : Int32), .int 0, .int (0 : Int32), .ref m_tape, .int 0, .ref m_slots, .ref m_leaves, .int 0, .int (2 : Int32), .ref m_fresh, .int 0, .int 0, .int 0, .ref m_digestAt, .ref m_isGroup, .ref m_counts, .int 0, .int 0, .long 0, .int 0, .ref m_versionRow, .int 0, .long 0, .ref m_state, .ref m_names, .int 0, .ref m_keptRow, .int 0, .ref m_inSlot, .ref m_inAt, .ref m_inSize, .ref m_inDigest, .int 0]))]) [0] (by decide) rfl
          have hK := hK.sub (tys' := []) [] rfl
          exact W.iret hx hb hr (fun t ht hW => ⟨⟨_, (), rfl, rfl, by rw [ht]; exact hP, va_K.moved hW.alike hK, hD⟩, hS.F ht⟩) hS.2.2 dX9_vote_48
  · skip
    exact absurd c_1 (by decide)

set_option maxHeartbeats 4000000 in
set_option maxRecDepth 100000 in
theorem k_X4_inNeed_1 (l : Launch) (dC : Nat → ClassId) (dI : Nat → Nat → Nat) (rr : Nat) (ds : Nat) (ri : Nat)  : Met l yX4_inNeed wsX4_inNeed ({ frames := 0, cells := 0, slots := 0, locals := 0 }) (va_Pc [.ref rr] (fun U => va_P (dC, dI) vwCl [(rr, .inr (6, [.ref ds, .ref ri, .int 0, .int 1, .int 0, .int 0]))] U.heap ∧ va_K (dC, dI) vwCl [] U)) (vp_Si (fun r => r = (0 : Int32))) 0 0 (fun _ => False) := by
  refine Met.ofW (cc := cX4_inNeed) (maxL := 1) (ret := (some .boolean)) (by decide) rfl ?_
  intro p e s m args below meth c s₁ B hml hv
  obtain ⟨rfl, hP, hK⟩ := hv
  have hx := B.exec
  have hb := B.bytes
  have hr := B.returns
  have hts := atoms_spec (ws := wsX4_inNeed) B.pre
  have hown : s.vm.findClass RX4 = some m.cls := findClass_of_methodNamed B.named
  have hlocks := B.notSynchronized
  have hl := lv_entry ([.ref rr]) (n := 1) (Nat.le_of_ble_eq_true rfl)
  rw [lg_entry_eq]
  generalize (lg_sl ([.ref rr]) ++ List.replicate (1 - (lg_sl ([.ref rr])).length) Slot.unset).toArray = ls at hl ⊢
  have hl : lv_has ls 1 [(0, .ref rr)] := hl
  refine lv_aload_n hx hb dX4_inNeed_0 rfl (lv_at hl 0 rfl) ?_
  refine va_get (D := (dC, dI)) (ci := 6) (v := .int 0) (C := RX4) (T := TX4) (N := 6) hx hb hts (by decide +kernel) hown hK hP 0 rfl rfl 5 (by decide) (hts (.fieldLink RX4 29 "BlockLog$Rows" "bad" "I") (by decide +kernel)) (fun _ h9 => h9) rfl dX4_inNeed_1 ?_
  refine lv_if_le (tgt := 11) hx hb dX4_inNeed_4 (by decide) (fun c_1 => ?_) (fun c_1 => ?_)
  · skip
    refine lv_iconst (v := 0) hx hb dX4_inNeed_11 (by decide) ?_
    exact W.zret hx hb hr rfl (fun t ht hW => ⟨_, rfl, rfl, ht⟩) (fun q h => by cases h) dX4_inNeed_12
  · skip
    exact absurd (by decide) c_1

set_option maxHeartbeats 4000000 in
set_option maxRecDepth 100000 in
theorem k_X6_digestAt_1 (l : Launch) (dC : Nat → ClassId) (dI : Nat → Nat → Nat) (so : Nat) (w2 : Int64) (rr : Nat) (s1 : Nat) (s2 : Nat) (s3 : Nat) (s4 : Nat) (s5 : Nat) (s6 : Nat)  : Met l yX6_digestAt wsX6_digestAt ({ frames := 0, cells := 0, slots := 0, locals := 0 }) (va_Pc [.ref so, .int (((-1 : Int64) - w2).toInt32)] (fun U => va_P (dC, dI) vwCl [(so, .inr (8, [.ref rr, .ref s1, .ref s2, .ref s3, .ref s4, .ref s5, .ref s6, .int (0 : Int32), .int (0 : Int32), .int (-1 : Int32), .int (0 : Int32), .int (0 : Int32)]))] U.heap ∧ va_K (dC, dI) vwCl [] U)) (vp_Sl (fun r => r = (0 : Int64))) 0 0 (fun _ => False) := by
  refine Met.ofW (cc := cX6_digestAt) (maxL := 2) (ret := (some .long)) (by decide) rfl ?_
  intro p e s m args below meth c s₁ B hml hv
  obtain ⟨rfl, hP, hK⟩ := hv
  have hx := B.exec
  have hb := B.bytes
  have hr := B.returns
  have hts := atoms_spec (ws := wsX6_digestAt) B.pre
  have hown : s.vm.findClass RX6 = some m.cls := findClass_of_methodNamed B.named
  have hlocks := B.notSynchronized
  have hl := lv_entry ([.ref so, .int (((-1 : Int64) - w2).toInt32)]) (n := 2) (Nat.le_of_ble_eq_true rfl)
  rw [lg_entry_eq]
  generalize (lg_sl ([.ref so, .int (((-1 : Int64) - w2).toInt32)]) ++ List.replicate (2 - (lg_sl ([.ref so, .int (((-1 : Int64) - w2).toInt32)])).length) Slot.unset).toArray = ls at hl ⊢
  have hl : lv_has ls 2 [(0, .ref so), (1, .int (((-1 : Int64) - w2).toInt32))] := hl
  refine lv_iload_n hx hb dX6_digestAt_0 rfl (lv_at hl 1 rfl) ?_
  refine lv_if_lt (tgt := 12) hx hb dX6_digestAt_1 (by decide) (fun c_1 => ?_) (fun c_1 => ?_)
  · skip
    refine lv_lconst (v := 0) hx hb dX6_digestAt_12 (by decide) ?_
    refine lv_goto (tgt := 22) hx hb dX6_digestAt_13 (by decide) ?_
    exact W.lret hx hb hr (fun t ht hW => ⟨_, rfl, rfl, ht⟩) (fun q h => by cases h) dX6_digestAt_22
  · skip
    refine lv_iload_n hx hb dX6_digestAt_4 rfl (lv_at hl 1 rfl) ?_
    refine lv_aload_n hx hb dX6_digestAt_5 rfl (lv_at hl 0 rfl) ?_
    refine va_get (D := (dC, dI)) (ci := 8) (v := .int (0 : Int32)) (C := RX6) (T := TX6) (N := 12) hx hb hts (by decide +kernel) hown hK hP 0 rfl rfl 7 (by decide) (hts (.fieldLink RX6 36 "BlockLog$Story" "heard" "I") (by decide +kernel)) (fun _ h9 => h9) rfl dX6_digestAt_6 ?_
    refine lv_icmp_lt (tgt := 16) hx hb dX6_digestAt_9 (by decide) (fun c_2 => ?_) (fun c_2 => ?_)
    · skip
      exact absurd c_2 (Int32.not_lt.mpr (Int32.not_lt.mp c_1))
    · skip
      refine lv_lconst (v := 0) hx hb dX6_digestAt_12 (by decide) ?_
      refine lv_goto (tgt := 22) hx hb dX6_digestAt_13 (by decide) ?_
      exact W.lret hx hb hr (fun t ht hW => ⟨_, rfl, rfl, ht⟩) (fun q h => by cases h) dX6_digestAt_22

set_option maxHeartbeats 4000000 in
set_option maxRecDepth 100000 in
theorem k_X6_meant_1 (l : Launch) (dC : Nat → ClassId) (dI : Nat → Nat → Nat) (so : Nat) (w2 : Int64) (rr : Nat) (s1 : Nat) (s2 : Nat) (s3 : Nat) (s4 : Nat) (s5 : Nat) (s6 : Nat) (hf0 : lg_cmp w2 (0) < 0) (hf1 : 0 ≤ lg_cmp w2 (-128)) : Met l yX6_meant wsX6_meant ({ frames := 1, cells := 0, slots := 0, locals := 21 }) (va_Pc [.ref so, .long w2] (fun U => va_P (dC, dI) vwCl [(so, .inr (8, [.ref rr, .ref s1, .ref s2, .ref s3, .ref s4, .ref s5, .ref s6, .int (0 : Int32), .int (0 : Int32), .int (-1 : Int32), .int (0 : Int32), .int (0 : Int32)]))] U.heap ∧ va_K (dC, dI) vwCl [] U)) (vp_Sl (fun r => r = (0 : Int64))) 0 0 (fun _ => False) := by
  refine Met.ofW (cc := cX6_meant) (maxL := 3) (ret := (some .long)) (by decide) rfl ?_
  intro p e s m args below meth c s₁ B hml hv
  obtain ⟨rfl, hP, hK⟩ := hv
  have hx := B.exec
  have hb := B.bytes
  have hr := B.returns
  have hts := atoms_spec (ws := wsX6_meant) B.pre
  have hown : s.vm.findClass RX6 = some m.cls := findClass_of_methodNamed B.named
  have hlocks := B.notSynchronized
  have hl := lv_entry ([.ref so, .long w2]) (n := 3) (Nat.le_of_ble_eq_true rfl)
  rw [lg_entry_eq]
  generalize (lg_sl ([.ref so, .long w2]) ++ List.replicate (3 - (lg_sl ([.ref so, .long w2])).length) Slot.unset).toArray = ls at hl ⊢
  have hl : lv_has ls 3 [(0, .ref so), (1, .long w2)] := hl
  refine lv_lload_n hx hb dX6_meant_0 rfl (lv_at hl 1 rfl) ?_
  refine lv_lconst (v := 0) hx hb dX6_meant_1 (by decide) ?_
  refine W.lcmp hx hb dX6_meant_2 ?_
  refine lv_if_ge (tgt := 27) hx hb dX6_meant_3 (by decide) (fun c_1 => ?_) (fun c_1 => ?_)
  · skip
    exact absurd c_1 (Int32.not_le.mpr hf0)
  · skip
    refine lv_lload_n hx hb dX6_meant_6 rfl (lv_at hl 1 rfl) ?_
    refine lv_ldc2 hx hb hown (hts (.constantLong RX6 119 (-128)) (by decide +kernel)) dX6_meant_7 ?_
    refine W.lcmp hx hb dX6_meant_10 ?_
    refine lv_if_lt (tgt := 27) hx hb dX6_meant_11 (by decide) (fun c_2 => ?_) (fun c_2 => ?_)
    · skip
      exact absurd c_2 (Int32.not_lt.mpr hf1)
    · skip
      refine lv_aload_n hx hb dX6_meant_14 rfl (lv_at hl 0 rfl) ?_
      refine lv_ldc2 hx hb hown (hts (.constantLong RX6 121 (-1)) (by decide +kernel)) dX6_meant_15 ?_
      refine lv_lload_n hx hb dX6_meant_18 rfl (lv_at hl 1 rfl) ?_
      refine lv_lsub hx hb dX6_meant_19 ?_
      refine lv_l2i hx hb dX6_meant_20 rfl ?_
      have hPc := hP.sub (ws' := [(so, .inr (8, [.ref rr, .ref s1, .ref s2, .ref s3, .ref s4, .ref s5, .ref s6, .int (0 : Int32), .int (0 : Int32), .int (-1 : Int32), .int (0 : Int32), .int (0 : Int32)]))]) [0] rfl
      have hKc := hK.sub (tys' := []) [] rfl
      refine vp_callSl (va_Run.run (va_runV (As := [.int (((-1 : Int64) - w2).toInt32)]) (rest := []) ⟨hx, hb, hml, hown, hts⟩ (k_X6_digestAt_1 l dC dI so w2 rr s1 s2 s3 s4 s5 s6) (cwV 1 hts gX6_meant_X6_digestAt rfl rfl rfl (by decide +kernel) ⟨Nat.le_of_ble_eq_true rfl, Nat.le_of_ble_eq_true rfl⟩) ⟨fun a U g mk q => by obtain ⟨q0, qP, qK⟩ := q; exact ⟨q0, qP, va_K.moved (u := U) (U := U.calling g mk a) (Vm.Alike.refl U.vm) qK⟩, va_recv hK hP (ci := 8) (q := (RX6, TX6, 12)) rfl (q0 := 0) rfl, fun U hU hW => ⟨rfl, by rw [hU]; exact hPc, va_K.moved hW.alike hKc⟩⟩ rfl rfl hl.1 rfl (lv_room (Nat.le_of_ble_eq_true rfl)) dX6_meant_21 ⟨Nat.le_of_ble_eq_true rfl, Nat.le_of_ble_eq_true rfl⟩)) (fun r_3 er_3 => ?_)
      subst er_3
      refine lv_goto (tgt := 28) hx hb dX6_meant_24 (by decide) ?_
      exact W.lret hx hb hr (fun t ht hW => ⟨_, rfl, rfl, ht⟩) (fun q h => by cases h) dX6_meant_28

set_option maxHeartbeats 4000000 in
set_option maxRecDepth 100000 in
theorem k_X6_blockRow_1 (l : Launch) (dC : Nat → ClassId) (dI : Nat → Nat → Nat) (so : Nat)  : Met l yX6_blockRow wsX6_blockRow ({ frames := 0, cells := 0, slots := 0, locals := 0 }) (va_Pc [.ref so, .long (0 : Int64)] (fun U => va_P (dC, dI) vwCl [] U.heap ∧ va_K (dC, dI) vwCl [] U)) (vp_Si (fun r => r = (-1 : Int32))) 0 0 (fun _ => False) := by
  refine Met.ofW (cc := cX6_blockRow) (maxL := 4) (ret := (some .int)) (by decide) rfl ?_
  intro p e s m args below meth c s₁ B hml hv
  obtain ⟨rfl, hP, hK⟩ := hv
  have hx := B.exec
  have hb := B.bytes
  have hr := B.returns
  have hts := atoms_spec (ws := wsX6_blockRow) B.pre
  have hown : s.vm.findClass RX6 = some m.cls := findClass_of_methodNamed B.named
  have hlocks := B.notSynchronized
  have hl := lv_entry ([.ref so, .long (0 : Int64)]) (n := 4) (Nat.le_of_ble_eq_true rfl)
  rw [lg_entry_eq]
  generalize (lg_sl ([.ref so, .long (0 : Int64)]) ++ List.replicate (4 - (lg_sl ([.ref so, .long (0 : Int64)])).length) Slot.unset).toArray = ls at hl ⊢
  have hl : lv_has ls 4 [(0, .ref so), (1, .long (0 : Int64))] := hl
  refine lv_lload_n hx hb dX6_blockRow_0 rfl (lv_at hl 1 rfl) ?_
  refine lv_lconst (v := 0) hx hb dX6_blockRow_1 (by decide) ?_
  refine W.lcmp hx hb dX6_blockRow_2 ?_
  refine lv_if_ne (tgt := 8) hx hb dX6_blockRow_3 (by decide) (fun c_1 => ?_) (fun c_1 => ?_)
  · skip
    exact absurd (by decide) c_1
  · skip
    refine lv_iconst (v := (-1)) hx hb dX6_blockRow_6 (by decide) ?_
    exact W.iret hx hb hr (fun t ht hW => ⟨_, rfl, rfl, ht⟩) (fun q h => by cases h) dX6_blockRow_7

set_option maxHeartbeats 4000000 in
set_option maxRecDepth 100000 in
theorem k_X8_vote_5 (l : Launch) (dC : Nat → ClassId) (dI : Nat → Nat → Nat) (x : Nat) (p0 : Int32) (p1 : Int32) (w2 : Int64) (rr : Nat) (ds : Nat) (so : Nat) (tp : Nat) (pu : Nat) (sn : Nat) (im : Nat) (cs : Nat) (cl : Nat) (ri : Nat) (pg : Int32) (dl : Nat) (dr : Nat) (dt : Nat) (s1 : Nat) (s2 : Nat) (s3 : Nat) (s4 : Nat) (s5 : Nat) (s6 : Nat) (hf0 : 1 ≤ p0) (hf1 : p0 ≤ 1000000) (hf2 : 0 ≤ p1) (hf3 : p1 ≤ 1000000) (hf4 : lg_cmp w2 (0) < 0) (hf5 : 0 ≤ lg_cmp w2 (-128)) : Met l yX8_vote wsX8_vote ({ frames := 2, cells := 0, slots := 0, locals := 43 }) (va_Pc [.ref x, .int p0, .int p1, .long w2] (fun U => va_P (dC, dI) vwCl [(x, .inr (10, [.ref tp, .ref ds, .ref rr, .ref so, .ref pu, .ref sn, .ref im, .ref cs, .ref cl, .int (0 : Int32)])), (rr, .inr (6, [.ref ds, .ref ri, .int 0, .int 1, .int 0, .int 0])), (ds, .inr (3, [.int pg, .ref dl, .ref dr, .ref dt, .int (1 : Int32), .int (-1 : Int32), .int (0 : Int32)])), (so, .inr (8, [.ref rr, .ref s1, .ref s2, .ref s3, .ref s4, .ref s5, .ref s6, .int (0 : Int32), .int (0 : Int32), .int (-1 : Int32), .int (0 : Int32), .int (0 : Int32)]))] U.heap ∧ va_K (dC, dI) vwCl [] U ∧ gx_W U)) (vp_Si (fun r => r = (-6 : Int32))) 0 0 (fun _ => False) := by
  refine Met.ofW (cc := cX8_vote) (maxL := 11) (ret := (some .int)) (by decide) rfl ?_
  intro p e s m args below meth c s₁ B hml hv
  obtain ⟨rfl, hP, hK, hG⟩ := hv
  have hx := B.exec
  have hb := B.bytes
  have hr := B.returns
  have hts := atoms_spec (ws := wsX8_vote) B.pre
  have hown : s.vm.findClass RX8 = some m.cls := findClass_of_methodNamed B.named
  have hlocks := B.notSynchronized
  have hl := lv_entry ([.ref x, .int p0, .int p1, .long w2]) (n := 11) (Nat.le_of_ble_eq_true rfl)
  rw [lg_entry_eq]
  generalize (lg_sl ([.ref x, .int p0, .int p1, .long w2]) ++ List.replicate (11 - (lg_sl ([.ref x, .int p0, .int p1, .long w2])).length) Slot.unset).toArray = ls at hl ⊢
  have hl : lv_has ls 11 [(0, .ref x), (1, .int p0), (2, .int p1), (3, .long w2)] := hl
  refine lv_aload_n hx hb dX8_vote_0 rfl (lv_at hl 0 rfl) ?_
  have hPc := hP.sub (ws' := [(x, .inr (10, [.ref tp, .ref ds, .ref rr, .ref so, .ref pu, .ref sn, .ref im, .ref cs, .ref cl, .int (0 : Int32)])), (ds, .inr (3, [.int pg, .ref dl, .ref dr, .ref dt, .int (1 : Int32), .int (-1 : Int32), .int (0 : Int32)]))]) [0, 2] rfl
  have hKc := hK.sub (tys' := []) [] rfl
  refine va_csv (va_Run.run (va_runV (As := []) (rest := []) ⟨hx, hb, hml, hown, hts⟩ (k_X8_demandPower_1 l dC dI x ds tp rr so pu sn im cs cl pg dl dr dt) (cwV 0 hts gX8_vote_X8_demandPower rfl rfl rfl (by decide +kernel) ⟨Nat.le_of_ble_eq_true rfl, Nat.le_of_ble_eq_true rfl⟩) ⟨fun a U g mk q => by obtain ⟨q0, qP, qK, qG⟩ := q; exact ⟨q0, qP, va_K.moved (u := U) (U := U.calling g mk a) (Vm.Alike.refl U.vm) qK, qG.same rfl⟩, va_recv hK hP (ci := 10) (q := (RX8, TX8, 10)) rfl (q0 := 0) rfl, fun U hU hW => ⟨rfl, by rw [hU]; exact hPc, va_K.moved hW.alike hKc, hG.warm hW⟩⟩ rfl rfl hl.1 rfl (lv_room (Nat.le_of_ble_eq_true rfl)) dX8_vote_1 ⟨Nat.le_of_ble_eq_true rfl, Nat.le_of_ble_eq_true rfl⟩)) (fun _ => ?_)
  refine lv_iload_n hx hb dX8_vote_4 rfl (lv_at hl 1 rfl) ?_
  have hPc := hP.sub (ws' := []) [] rfl
  have hKc := hK.sub (tys' := []) [] rfl
  refine va_csv (va_Run.run (va_runS (As := [.int p0]) (rest := []) ⟨hx, hb, hml, hown, hts⟩ (k_X8_demandHeight_3 l dC dI p0 hf0 hf1) (va_cwS 1 hts gX8_vote_X8_demandHeight rfl rfl rfl (by decide +kernel) ⟨Nat.le_of_ble_eq_true rfl, Nat.le_of_ble_eq_true rfl⟩) ⟨fun a U g mk q => by obtain ⟨q0, qP, qK⟩ := q; exact ⟨q0, qP, va_K.moved (u := U) (U := U.calling g mk a) (Vm.Alike.refl U.vm) qK⟩, fun U hU hW => ⟨rfl, by rw [hU]; exact hPc, va_K.moved hW.alike hKc⟩⟩ rfl rfl hl.1 rfl (lv_room (Nat.le_of_ble_eq_true rfl)) dX8_vote_5 ⟨Nat.le_of_ble_eq_true rfl, Nat.le_of_ble_eq_true rfl⟩)) (fun _ => ?_)
  refine lv_iload_n hx hb dX8_vote_8 rfl (lv_at hl 2 rfl) ?_
  refine lv_if_lt (tgt := 18) hx hb dX8_vote_9 (by decide) (fun c_3 => ?_) (fun c_3 => ?_)
  · skip
    exact absurd c_3 (Int32.not_lt.mpr hf2)
  · skip
    refine lv_iload_n hx hb dX8_vote_12 rfl (lv_at hl 2 rfl) ?_
    refine lv_ldc hx hb hown (hts (.constant RX8 163 (1000000)) (by decide +kernel)) dX8_vote_13 ?_
    refine lv_icmp_le (tgt := 28) hx hb dX8_vote_15 (by decide) (fun c_4 => ?_) (fun c_4 => ?_)
    · skip
      refine lv_aload_n hx hb dX8_vote_28 rfl (lv_at hl 0 rfl) ?_
      refine va_get (D := (dC, dI)) (ci := 10) (v := .ref rr) (C := RX8) (T := TX8) (N := 10) hx hb hts (by decide +kernel) hown hK hP 0 rfl rfl 2 (by decide) (hts (.fieldLink RX8 31 "BlockLog" "rows" "LBlockLog$Rows;") (by decide +kernel)) (fun _ h9 => h9) rfl dX8_vote_29 ?_
      have hPc := hP.sub (ws' := [(rr, .inr (6, [.ref ds, .ref ri, .int 0, .int 1, .int 0, .int 0]))]) [1] rfl
      have hKc := hK.sub (tys' := []) [] rfl
      refine vp_callSi (va_Run.run (va_runV (As := []) (rest := []) ⟨hx, hb, hml, hown, hts⟩ (k_X4_inNeed_1 l dC dI rr ds ri) (cwV 0 hts gX8_vote_X4_inNeed rfl rfl rfl (by decide +kernel) ⟨Nat.le_of_ble_eq_true rfl, Nat.le_of_ble_eq_true rfl⟩) ⟨fun a U g mk q => by obtain ⟨q0, qP, qK⟩ := q; exact ⟨q0, qP, va_K.moved (u := U) (U := U.calling g mk a) (Vm.Alike.refl U.vm) qK⟩, va_recv hK hP (ci := 6) (q := (RX4, TX4, 6)) rfl (q0 := 1) rfl, fun U hU hW => ⟨rfl, by rw [hU]; exact hPc, va_K.moved hW.alike hKc⟩⟩ rfl rfl hl.1 rfl (lv_room (Nat.le_of_ble_eq_true rfl)) dX8_vote_32 ⟨Nat.le_of_ble_eq_true rfl, Nat.le_of_ble_eq_true rfl⟩)) (fun r_5 er_5 => ?_)
      subst er_5
      refine lv_if_eq (tgt := 41) hx hb dX8_vote_35 (by decide) (fun c_6 => ?_) (fun c_6 => ?_)
      · skip
        refine lv_aload_n hx hb dX8_vote_41 rfl (lv_at hl 0 rfl) ?_
        refine va_get (D := (dC, dI)) (ci := 10) (v := .ref so) (C := RX8) (T := TX8) (N := 10) hx hb hts (by decide +kernel) hown hK hP 0 rfl rfl 3 (by decide) (hts (.fieldLink RX8 40 "BlockLog" "story" "LBlockLog$Story;") (by decide +kernel)) (fun _ h9 => h9) rfl dX8_vote_42 ?_
        refine lv_lload_n hx hb dX8_vote_45 rfl (lv_at hl 3 rfl) ?_
        have hPc := hP.sub (ws' := [(so, .inr (8, [.ref rr, .ref s1, .ref s2, .ref s3, .ref s4, .ref s5, .ref s6, .int (0 : Int32), .int (0 : Int32), .int (-1 : Int32), .int (0 : Int32), .int (0 : Int32)]))]) [3] rfl
        have hKc := hK.sub (tys' := []) [] rfl
        refine vp_callSl (va_Run.run (va_runV (As := [.long w2]) (rest := []) ⟨hx, hb, hml, hown, hts⟩ (k_X6_meant_1 l dC dI so w2 rr s1 s2 s3 s4 s5 s6 hf4 hf5) (cwV 1 hts gX8_vote_X6_meant rfl rfl rfl (by decide +kernel) ⟨Nat.le_of_ble_eq_true rfl, Nat.le_of_ble_eq_true rfl⟩) ⟨fun a U g mk q => by obtain ⟨q0, qP, qK⟩ := q; exact ⟨q0, qP, va_K.moved (u := U) (U := U.calling g mk a) (Vm.Alike.refl U.vm) qK⟩, va_recv hK hP (ci := 8) (q := (RX6, TX6, 12)) rfl (q0 := 3) rfl, fun U hU hW => ⟨rfl, by rw [hU]; exact hPc, va_K.moved hW.alike hKc⟩⟩ rfl rfl hl.1 rfl (lv_room (Nat.le_of_ble_eq_true rfl)) dX8_vote_46 ⟨Nat.le_of_ble_eq_true rfl, Nat.le_of_ble_eq_true rfl⟩)) (fun r_7 er_7 => ?_)
        subst er_7
        refine lv_lstore (lv' := [(5, .long (0 : Int64)), (0, .ref x), (1, .int p0), (2, .int p1), (3, .long w2)]) hx hb dX8_vote_49 hl (by decide) rfl (fun ls hl => ?_)
        refine lv_aload_n hx hb dX8_vote_51 rfl (lv_at hl 1 rfl) ?_
        refine va_get (D := (dC, dI)) (ci := 10) (v := .ref so) (C := RX8) (T := TX8) (N := 10) hx hb hts (by decide +kernel) hown hK hP 0 rfl rfl 3 (by decide) (hts (.fieldLink RX8 40 "BlockLog" "story" "LBlockLog$Story;") (by decide +kernel)) (fun _ h9 => h9) rfl dX8_vote_52 ?_
        refine lv_lload hx hb dX8_vote_55 (lv_at hl 0 rfl) ?_
        have hPc := hP.sub (ws' := []) [] rfl
        have hKc := hK.sub (tys' := []) [] rfl
        refine vp_callSi (va_Run.run (va_runV (As := [.long (0 : Int64)]) (rest := []) ⟨hx, hb, hml, hown, hts⟩ (k_X6_blockRow_1 l dC dI so) (cwV 1 hts gX8_vote_X6_blockRow rfl rfl rfl (by decide +kernel) ⟨Nat.le_of_ble_eq_true rfl, Nat.le_of_ble_eq_true rfl⟩) ⟨fun a U g mk q => by obtain ⟨q0, qP, qK⟩ := q; exact ⟨q0, qP, va_K.moved (u := U) (U := U.calling g mk a) (Vm.Alike.refl U.vm) qK⟩, va_recv hK hP (ci := 8) (q := (RX6, TX6, 12)) rfl (q0 := 3) rfl, fun U hU hW => ⟨rfl, by rw [hU]; exact hPc, va_K.moved hW.alike hKc⟩⟩ rfl rfl hl.1 rfl (lv_room (Nat.le_of_ble_eq_true rfl)) dX8_vote_57 ⟨Nat.le_of_ble_eq_true rfl, Nat.le_of_ble_eq_true rfl⟩)) (fun r_8 er_8 => ?_)
        subst er_8
        refine lv_istore (lv' := [(7, .int (-1 : Int32)), (5, .long (0 : Int64)), (0, .ref x), (1, .int p0), (2, .int p1), (3, .long w2)]) hx hb dX8_vote_60 hl (by decide) rfl (fun ls hl => ?_)
        refine lv_iload hx hb dX8_vote_62 (lv_at hl 0 rfl) ?_
        refine lv_iconst (v := (-1)) hx hb dX8_vote_64 (by decide) ?_
        refine lv_icmp_eq (tgt := 81) hx hb dX8_vote_65 (by decide) (fun c_9 => ?_) (fun c_9 => ?_)
        · skip
          refine lv_bipush (v := (-6)) hx hb dX8_vote_81 (by decide) ?_
          exact W.iret hx hb hr (fun t ht hW => ⟨_, rfl, rfl, ht⟩) (fun q h => by cases h) dX8_vote_83
        · skip
          exact absurd (by decide) c_9
      · skip
        exact absurd (by decide) c_6
    · skip
      exact absurd hf3 c_4

set_option maxHeartbeats 4000000 in
set_option maxRecDepth 100000 in
theorem k_L_vote_5 (l : Launch) (dC : Nat → ClassId) (dI : Nat → Nat → Nat) (x : Nat) (p0 : Int32) (p1 : Int32) (w2 : Int64) (ho : Nat) (rr : Nat) (ds : Nat) (so : Nat) (tp : Nat) (pu : Nat) (sn : Nat) (im : Nat) (cs : Nat) (cl : Nat) (ri : Nat) (pg : Int32) (dl : Nat) (dr : Nat) (dt : Nat) (s1 : Nat) (s2 : Nat) (s3 : Nat) (s4 : Nat) (s5 : Nat) (s6 : Nat) (cJ : ClassId) (g1 : Nat → Int64) (sz : Nat) (hf0 : 1 ≤ p0) (hf1 : p0 ≤ 1000000) (hf2 : 0 ≤ p1) (hf3 : p1 ≤ 1000000) (hf4 : lg_cmp w2 (0) < 0) (hf5 : 0 ≤ lg_cmp w2 (-128)) : Met l yL_vote wsL_vote ({ frames := 3, cells := 0, slots := 0, locals := 73 }) (va_Pc [.ref x, .int p0, .int p1, .long w2, .ref ho] (fun U => U.heap.size = sz ∧ va_P (dC, dI) vwCl [(x, .inr (10, [.ref tp, .ref ds, .ref rr, .ref so, .ref pu, .ref sn, .ref im, .ref cs, .ref cl, .int (0 : Int32)])), (rr, .inr (6, [.ref ds, .ref ri, .int 0, .int 1, .int 0, .int 0])), (ds, .inr (3, [.int pg, .ref dl, .ref dr, .ref dt, .int (1 : Int32), .int (-1 : Int32), .int (0 : Int32)])), (so, .inr (8, [.ref rr, .ref s1, .ref s2, .ref s3, .ref s4, .ref s5, .ref s6, .int (0 : Int32), .int (0 : Int32), .int (-1 : Int32), .int (0 : Int32), .int (0 : Int32)])), (ho, .inl (cJ, 1, .inr (.inl g1)))] U.heap ∧ va_K (dC, dI) vwCl [(cJ, .long)] U ∧ va_D (fun _ => True) [(x, .inr (10, [.ref tp, .ref ds, .ref rr, .ref so, .ref pu, .ref sn, .ref im, .ref cs, .ref cl, .int (0 : Int32)])), (rr, .inr (6, [.ref ds, .ref ri, .int 0, .int 1, .int 0, .int 0])), (ds, .inr (3, [.int pg, .ref dl, .ref dr, .ref dt, .int (1 : Int32), .int (-1 : Int32), .int (0 : Int32)])), (so, .inr (8, [.ref rr, .ref s1, .ref s2, .ref s3, .ref s4, .ref s5, .ref s6, .int (0 : Int32), .int (0 : Int32), .int (-1 : Int32), .int (0 : Int32), .int (0 : Int32)])), (ho, .inl (cJ, 1, .inr (.inl g1)))] ∧ gx_E (va_A [(x, .inr (10, [.ref tp, .ref ds, .ref rr, .ref so, .ref pu, .ref sn, .ref im, .ref cs, .ref cl, .int (0 : Int32)])), (rr, .inr (6, [.ref ds, .ref ri, .int 0, .int 1, .int 0, .int 0])), (ds, .inr (3, [.int pg, .ref dl, .ref dr, .ref dt, .int (1 : Int32), .int (-1 : Int32), .int (0 : Int32)])), (so, .inr (8, [.ref rr, .ref s1, .ref s2, .ref s3, .ref s4, .ref s5, .ref s6, .int (0 : Int32), .int (0 : Int32), .int (-1 : Int32), .int (0 : Int32), .int (0 : Int32)])), (ho, .inl (cJ, 1, .inr (.inl g1)))] sz) U)) (va_Qi (fun r (_ : Unit) => r = (0 : Int32)) (fun (_ : Unit) t => va_P (dC, dI) vwCl [(ho, .inl (cJ, 1, .inr (.inl (vp_updL g1 (0 : Int32).toNatClampNeg ((-6 : Int32).toInt64)))))] t.heap ∧ va_K (dC, dI) vwCl [(cJ, .long)] t ∧ va_D (va_A [(x, .inr (10, [.ref tp, .ref ds, .ref rr, .ref so, .ref pu, .ref sn, .ref im, .ref cs, .ref cl, .int (0 : Int32)])), (rr, .inr (6, [.ref ds, .ref ri, .int 0, .int 1, .int 0, .int 0])), (ds, .inr (3, [.int pg, .ref dl, .ref dr, .ref dt, .int (1 : Int32), .int (-1 : Int32), .int (0 : Int32)])), (so, .inr (8, [.ref rr, .ref s1, .ref s2, .ref s3, .ref s4, .ref s5, .ref s6, .int (0 : Int32), .int (0 : Int32), .int (-1 : Int32), .int (0 : Int32), .int (0 : Int32)])), (ho, .inl (cJ, 1, .inr (.inl g1)))] sz) [(ho, .inl (cJ, 1, .inr (.inl (vp_updL g1 (0 : Int32).toNatClampNeg ((-6 : Int32).toInt64)))))]) (va_A [(x, .inr (10, [.ref tp, .ref ds, .ref rr, .ref so, .ref pu, .ref sn, .ref im, .ref cs, .ref cl, .int (0 : Int32)])), (rr, .inr (6, [.ref ds, .ref ri, .int 0, .int 1, .int 0, .int 0])), (ds, .inr (3, [.int pg, .ref dl, .ref dr, .ref dt, .int (1 : Int32), .int (-1 : Int32), .int (0 : Int32)])), (so, .inr (8, [.ref rr, .ref s1, .ref s2, .ref s3, .ref s4, .ref s5, .ref s6, .int (0 : Int32), .int (0 : Int32), .int (-1 : Int32), .int (0 : Int32), .int (0 : Int32)])), (ho, .inl (cJ, 1, .inr (.inl g1)))] sz)) 0 0 (va_A [(x, .inr (10, [.ref tp, .ref ds, .ref rr, .ref so, .ref pu, .ref sn, .ref im, .ref cs, .ref cl, .int (0 : Int32)])), (rr, .inr (6, [.ref ds, .ref ri, .int 0, .int 1, .int 0, .int 0])), (ds, .inr (3, [.int pg, .ref dl, .ref dr, .ref dt, .int (1 : Int32), .int (-1 : Int32), .int (0 : Int32)])), (so, .inr (8, [.ref rr, .ref s1, .ref s2, .ref s3, .ref s4, .ref s5, .ref s6, .int (0 : Int32), .int (0 : Int32), .int (-1 : Int32), .int (0 : Int32), .int (0 : Int32)])), (ho, .inl (cJ, 1, .inr (.inl g1)))] sz) := by
  refine va_MetW (cc := cL_vote) (maxL := 7) (ret := (some .int)) (hh := [(0, 12, 15, 25), (0, 12, 19, 13)]) (by decide) rfl ?_
  intro p e s m args below meth c s₁ B hml hv
  obtain ⟨rfl, hsz, hP, hK, hD0, hG⟩ := hv
  have hx := B.exec
  have hb := B.bytes
  have hr := B.returns
  have hts := atoms_spec (ws := wsL_vote) B.pre
  have hown : s.vm.findClass RL = some m.cls := findClass_of_methodNamed B.named
  have hlocks := B.notSynchronized
  have htab := vx_table (x := yL_vote) B (hts (.codeWith yL_vote cL_vote 7 (some .int) [(0, 12, 15, 25), (0, 12, 19, 13)]) List.mem_cons_self)
  subst hsz
  have hD := hD0.self (sz := s.heap.size)
  generalize hAe : va_A [(x, .inr (10, [.ref tp, .ref ds, .ref rr, .ref so, .ref pu, .ref sn, .ref im, .ref cs, .ref cl, .int (0 : Int32)])), (rr, .inr (6, [.ref ds, .ref ri, .int 0, .int 1, .int 0, .int 0])), (ds, .inr (3, [.int pg, .ref dl, .ref dr, .ref dt, .int (1 : Int32), .int (-1 : Int32), .int (0 : Int32)])), (so, .inr (8, [.ref rr, .ref s1, .ref s2, .ref s3, .ref s4, .ref s5, .ref s6, .int (0 : Int32), .int (0 : Int32), .int (-1 : Int32), .int (0 : Int32), .int (0 : Int32)])), (ho, .inl (cJ, 1, .inr (.inl g1)))] s.heap.size = A at hD hG ⊢
  have hA : ∀ q : Nat, s.heap.size ≤ q → A q := fun q h => by rw [← hAe]; exact Or.inr h
  have hS : va_S A s.heap s.heap [] := va_S.rf
  have hl := lv_entry ([.ref x, .int p0, .int p1, .long w2, .ref ho]) (n := 7) (Nat.le_of_ble_eq_true rfl)
  rw [lg_entry_eq]
  generalize (lg_sl ([.ref x, .int p0, .int p1, .long w2, .ref ho]) ++ List.replicate (7 - (lg_sl ([.ref x, .int p0, .int p1, .long w2, .ref ho])).length) Slot.unset).toArray = ls at hl ⊢
  have hl : lv_has ls 7 [(0, .ref x), (1, .int p0), (2, .int p1), (3, .long w2), (5, .ref ho)] := hl
  refine lv_aload hx hb dL_vote_0 (lv_at hl 4 rfl) ?_
  refine lv_iconst (v := 0) hx hb dL_vote_2 (by decide) ?_
  refine lv_aload_n hx hb dL_vote_3 rfl (lv_at hl 0 rfl) ?_
  refine lv_iload_n hx hb dL_vote_4 rfl (lv_at hl 1 rfl) ?_
  refine lv_iload_n hx hb dL_vote_5 rfl (lv_at hl 2 rfl) ?_
  refine lv_lload_n hx hb dL_vote_6 rfl (lv_at hl 3 rfl) ?_
  have hPc := hP.sub (ws' := [(x, .inr (10, [.ref tp, .ref ds, .ref rr, .ref so, .ref pu, .ref sn, .ref im, .ref cs, .ref cl, .int (0 : Int32)])), (rr, .inr (6, [.ref ds, .ref ri, .int 0, .int 1, .int 0, .int 0])), (ds, .inr (3, [.int pg, .ref dl, .ref dr, .ref dt, .int (1 : Int32), .int (-1 : Int32), .int (0 : Int32)])), (so, .inr (8, [.ref rr, .ref s1, .ref s2, .ref s3, .ref s4, .ref s5, .ref s6, .int (0 : Int32), .int (0 : Int32), .int (-1 : Int32), .int (0 : Int32), .int (0 : Int32)]))]) [0, 1, 2, 3] rfl
  have hKc := hK.sub (tys' := []) [] rfl
  refine vp_callSi (va_Run.run (va_runV (As := [.int p0, .int p1, .long w2]) (rest := [.int (0 : Int32), .ref ho]) ⟨hx, hb, hml, hown, hts⟩ (k_X8_vote_5 l dC dI x p0 p1 w2 rr ds so tp pu sn im cs cl ri pg dl dr dt s1 s2 s3 s4 s5 s6 hf0 hf1 hf2 hf3 hf4 hf5) (cwV 3 hts gL_vote_X8_vote rfl rfl rfl (by decide +kernel) ⟨Nat.le_of_ble_eq_true rfl, Nat.le_of_ble_eq_true rfl⟩) ⟨fun a U g mk q => by obtain ⟨q0, qP, qK, qG⟩ := q; exact ⟨q0, qP, va_K.moved (u := U) (U := U.calling g mk a) (Vm.Alike.refl U.vm) qK, qG.same rfl⟩, va_recv hK hP (ci := 10) (q := (RX8, TX8, 10)) rfl (q0 := 0) rfl, fun U hU hW => ⟨rfl, by rw [hU]; exact hPc, va_K.moved hW.alike hKc, hG.1.warm hW⟩⟩ rfl rfl hl.1 rfl (lv_room (Nat.le_of_ble_eq_true rfl)) dL_vote_7 ⟨Nat.le_of_ble_eq_true rfl, Nat.le_of_ble_eq_true rfl⟩)) (fun r_1 er_1 => ?_)
  subst er_1
  refine lv_i2l hx hb dL_vote_10 rfl ?_
  refine va_last hx hb hK hP hD hS 4 0 rfl rfl (by unfold vp_in; decide +kernel) dL_vote_11 (fun H locs hP hD hS => ?_)
  have hP : va_P (dC, dI) vwCl [(x, .inr (10, [.ref tp, .ref ds, .ref rr, .ref so, .ref pu, .ref sn, .ref im, .ref cs, .ref cl, .int (0 : Int32)])), (rr, .inr (6, [.ref ds, .ref ri, .int 0, .int 1, .int 0, .int 0])), (ds, .inr (3, [.int pg, .ref dl, .ref dr, .ref dt, .int (1 : Int32), .int (-1 : Int32), .int (0 : Int32)])), (so, .inr (8, [.ref rr, .ref s1, .ref s2, .ref s3, .ref s4, .ref s5, .ref s6, .int (0 : Int32), .int (0 : Int32), .int (-1 : Int32), .int (0 : Int32), .int (0 : Int32)])), (ho, .inl (cJ, 1, .inr (.inl (vp_updL g1 (0 : Int32).toNatClampNeg ((-6 : Int32).toInt64)))))] H := hP
  have hD : va_D A [(x, .inr (10, [.ref tp, .ref ds, .ref rr, .ref so, .ref pu, .ref sn, .ref im, .ref cs, .ref cl, .int (0 : Int32)])), (rr, .inr (6, [.ref ds, .ref ri, .int 0, .int 1, .int 0, .int 0])), (ds, .inr (3, [.int pg, .ref dl, .ref dr, .ref dt, .int (1 : Int32), .int (-1 : Int32), .int (0 : Int32)])), (so, .inr (8, [.ref rr, .ref s1, .ref s2, .ref s3, .ref s4, .ref s5, .ref s6, .int (0 : Int32), .int (0 : Int32), .int (-1 : Int32), .int (0 : Int32), .int (0 : Int32)])), (ho, .inl (cJ, 1, .inr (.inl (vp_updL g1 (0 : Int32).toNatClampNeg ((-6 : Int32).toInt64)))))] := hD
  refine lv_goto (tgt := 23) hx hb dL_vote_12 (by decide) ?_
  refine lv_iconst (v := 0) hx hb dL_vote_23 (by decide) ?_
  have hP := hP.sub (ws' := [(ho, .inl (cJ, 1, .inr (.inl (vp_updL g1 (0 : Int32).toNatClampNeg ((-6 : Int32).toInt64)))))]) [4] rfl
  have hD := hD.sub (ws' := [(ho, .inl (cJ, 1, .inr (.inl (vp_updL g1 (0 : Int32).toNatClampNeg ((-6 : Int32).toInt64)))))]) [4] (by decide) rfl
  have hK := hK.sub (tys' := [(cJ, .long)]) [0] rfl
  exact W.iret hx hb hr (fun t ht hW => ⟨⟨_, (), rfl, rfl, by rw [ht]; exact hP, va_K.moved hW.alike hK, hD⟩, hS.F ht⟩) hS.2.2 dL_vote_24

set_option maxHeartbeats 4000000 in
set_option maxRecDepth 100000 in
theorem k_X9_meant_1 (l : Launch) (dC : Nat → ClassId) (dI : Nat → Nat → Nat) (mo : Nat) (w2 : Int64) (m_disk : Nat) (P : Nat) (m_tape : Nat) (m_slots : Nat) (m_leaves : Nat) (m_fresh : Nat) (m_digestAt : Nat) (m_isGroup : Nat) (m_counts : Nat) (m_versionRow : Nat) (m_state : Nat) (m_names : Nat) (m_keptRow : Nat) (m_inSlot : Nat) (m_inAt : Nat) (m_inSize : Nat) (m_inDigest : Nat) (hf0 : 0 ≤ lg_cmp w2 (-128)) (hf1 : lg_cmp w2 (-1) ≤ 0) (hf2 : 0 ≤ (-1 - w2).toInt32) : Met l yX9_meant wsX9_meant ({ frames := 0, cells := 0, slots := 0, locals := 0 }) (va_Pc [.ref mo, .long w2] (fun U => va_P (dC, dI) vwCl [(mo, .inr (11, [.ref m_disk, .int (nI P), .int ((8224 : Int32) + ((26 : Int32) * (nI P))), .int (1 : Int32), .int 0, .int (-1 : Int32), .int 0, .int (0 : Int32), .ref m_tape, .int 0, .ref m_slots, .ref m_leaves, .int 0, .int 0, .ref m_fresh, .int 0, .int (0 : Int32), .int (0 : Int32), .ref m_digestAt, .ref m_isGroup, .ref m_counts, .int (-1 : Int32), .int (0 : Int32), .long (0 : Int64), .int (0 : Int32), .ref m_versionRow, .int (0 : Int32), .long (0 : Int64), .ref m_state, .ref m_names, .int 0, .ref m_keptRow, .int 0, .ref m_inSlot, .ref m_inAt, .ref m_inSize, .ref m_inDigest, .int 0]))] U.heap ∧ va_K (dC, dI) vwCl [] U)) (vp_Sl (fun r => r = (0 : Int64))) 0 0 (fun _ => False) := by
  refine Met.ofW (cc := cX9_meant) (maxL := 4) (ret := (some .long)) (by decide) rfl ?_
  intro p e s m args below meth c s₁ B hml hv
  obtain ⟨rfl, hP, hK⟩ := hv
  have hx := B.exec
  have hb := B.bytes
  have hr := B.returns
  have hts := atoms_spec (ws := wsX9_meant) B.pre
  have hown : s.vm.findClass RX9 = some m.cls := findClass_of_methodNamed B.named
  have hlocks := B.notSynchronized
  have hl := lv_entry ([.ref mo, .long w2]) (n := 4) (Nat.le_of_ble_eq_true rfl)
  rw [lg_entry_eq]
  generalize (lg_sl ([.ref mo, .long w2]) ++ List.replicate (4 - (lg_sl ([.ref mo, .long w2])).length) Slot.unset).toArray = ls at hl ⊢
  have hl : lv_has ls 4 [(0, .ref mo), (1, .long w2)] := hl
  refine lv_lload_n hx hb dX9_meant_0 rfl (lv_at hl 1 rfl) ?_
  refine lv_ldc2 hx hb hown (hts (.constantLong RX9 296 (-128)) (by decide +kernel)) dX9_meant_1 ?_
  refine W.lcmp hx hb dX9_meant_4 ?_
  refine lv_if_lt (tgt := 51) hx hb dX9_meant_5 (by decide) (fun c_1 => ?_) (fun c_1 => ?_)
  · skip
    exact absurd c_1 (Int32.not_lt.mpr hf0)
  · skip
    refine lv_lload_n hx hb dX9_meant_8 rfl (lv_at hl 1 rfl) ?_
    refine lv_ldc2 hx hb hown (hts (.constantLong RX9 298 (-1)) (by decide +kernel)) dX9_meant_9 ?_
    refine W.lcmp hx hb dX9_meant_12 ?_
    refine lv_if_gt (tgt := 51) hx hb dX9_meant_13 (by decide) (fun c_2 => ?_) (fun c_2 => ?_)
    · skip
      exact absurd c_2 (Int32.not_lt.mpr hf1)
    · skip
      refine lv_ldc2 hx hb hown (hts (.constantLong RX9 298 (-1)) (by decide +kernel)) dX9_meant_16 ?_
      refine lv_lload_n hx hb dX9_meant_19 rfl (lv_at hl 1 rfl) ?_
      refine lv_lsub hx hb dX9_meant_20 ?_
      refine lv_l2i hx hb dX9_meant_21 rfl ?_
      refine lv_istore_n (lv' := [(3, .int (((-1 : Int64) - w2).toInt32)), (0, .ref mo), (1, .long w2)]) hx hb dX9_meant_22 rfl hl (by decide) rfl (fun ls hl => ?_)
      refine lv_iload_n hx hb dX9_meant_23 rfl (lv_at hl 0 rfl) ?_
      refine lv_aload_n hx hb dX9_meant_24 rfl (lv_at hl 1 rfl) ?_
      refine va_get (D := (dC, dI)) (ci := 11) (v := .int (0 : Int32)) (C := RX9) (T := TX9) (N := 38) hx hb hts (by decide +kernel) hown hK hP 0 rfl rfl 16 (by decide) (hts (.fieldLink RX9 167 "BlockLogModel" "many" "I") (by decide +kernel)) (fun _ h9 => h9) rfl dX9_meant_25 ?_
      refine lv_icmp_ge (tgt := 49) hx hb dX9_meant_28 (by decide) (fun c_3 => ?_) (fun c_3 => ?_)
      · skip
        refine lv_lconst (v := 0) hx hb dX9_meant_49 (by decide) ?_
        exact W.lret hx hb hr (fun t ht hW => ⟨_, rfl, rfl, ht⟩) (fun q h => by cases h) dX9_meant_50
      · skip
        exact absurd hf2 c_3

set_option maxHeartbeats 4000000 in
set_option maxRecDepth 100000 in
theorem k_X9_blockRow_1 (l : Launch) (dC : Nat → ClassId) (dI : Nat → Nat → Nat) (mo : Nat)  : Met l yX9_blockRow wsX9_blockRow ({ frames := 0, cells := 0, slots := 0, locals := 0 }) (va_Pc [.ref mo, .long (0 : Int64), .int (0 : Int32)] (fun U => va_P (dC, dI) vwCl [] U.heap ∧ va_K (dC, dI) vwCl [] U)) (vp_Si (fun r => r = (-1 : Int32))) 0 0 (fun _ => False) := by
  refine Met.ofW (cc := cX9_blockRow) (maxL := 5) (ret := (some .int)) (by decide) rfl ?_
  intro p e s m args below meth c s₁ B hml hv
  obtain ⟨rfl, hP, hK⟩ := hv
  have hx := B.exec
  have hb := B.bytes
  have hr := B.returns
  have hts := atoms_spec (ws := wsX9_blockRow) B.pre
  have hown : s.vm.findClass RX9 = some m.cls := findClass_of_methodNamed B.named
  have hlocks := B.notSynchronized
  have hl := lv_entry ([.ref mo, .long (0 : Int64), .int (0 : Int32)]) (n := 5) (Nat.le_of_ble_eq_true rfl)
  rw [lg_entry_eq]
  generalize (lg_sl ([.ref mo, .long (0 : Int64), .int (0 : Int32)]) ++ List.replicate (5 - (lg_sl ([.ref mo, .long (0 : Int64), .int (0 : Int32)])).length) Slot.unset).toArray = ls at hl ⊢
  have hl : lv_has ls 5 [(0, .ref mo), (1, .long (0 : Int64)), (3, .int (0 : Int32))] := hl
  refine lv_iconst (v := 0) hx hb dX9_blockRow_0 (by decide) ?_
  refine lv_istore (lv' := [(4, .int (0 : Int32)), (0, .ref mo), (1, .long (0 : Int64)), (3, .int (0 : Int32))]) hx hb dX9_blockRow_1 hl (by decide) rfl (fun ls hl => ?_)
  refine lv_iload hx hb dX9_blockRow_3 (lv_at hl 0 rfl) ?_
  refine lv_iload_n hx hb dX9_blockRow_5 rfl (lv_at hl 3 rfl) ?_
  refine lv_icmp_ge (tgt := 50) hx hb dX9_blockRow_6 (by decide) (fun c_1 => ?_) (fun c_1 => ?_)
  · skip
    refine lv_iconst (v := (-1)) hx hb dX9_blockRow_50 (by decide) ?_
    exact W.iret hx hb hr (fun t ht hW => ⟨_, rfl, rfl, ht⟩) (fun q h => by cases h) dX9_blockRow_51
  · skip
    exact absurd (by decide) c_1

set_option maxHeartbeats 4000000 in
set_option maxRecDepth 100000 in
theorem k_X9_vote_5 (l : Launch) (dC : Nat → ClassId) (dI : Nat → Nat → Nat) (mo : Nat) (p0 : Int32) (p1 : Int32) (w2 : Int64) (m_digestAt : Nat) (m_isGroup : Nat) (m_counts : Nat) (m_disk : Nat) (P : Nat) (m_tape : Nat) (m_slots : Nat) (m_leaves : Nat) (m_fresh : Nat) (m_versionRow : Nat) (m_state : Nat) (m_names : Nat) (m_keptRow : Nat) (m_inSlot : Nat) (m_inAt : Nat) (m_inSize : Nat) (m_inDigest : Nat) (d_digestAt : ClassId) (d_isGroup : ClassId) (d_counts : ClassId) (sz : Nat) (hf0 : 1 ≤ p0) (hf1 : p0 ≤ 1000000) (hf2 : 0 ≤ p1) (hf3 : p1 ≤ 1000000) (hf4 : 0 ≤ lg_cmp w2 (-128)) (hf5 : lg_cmp w2 (-1) ≤ 0) (hf6 : 0 ≤ (-1 - w2).toInt32) : Met l yX9_vote wsX9_vote ({ frames := 3, cells := 0, slots := 0, locals := 65 }) (va_Pc [.ref mo, .int p0, .int p1, .long w2] (fun U => U.heap.size = sz ∧ va_P (dC, dI) vwCl [(mo, .inr (11, [.ref m_disk, .int (nI P), .int ((8224 : Int32) + ((26 : Int32) * (nI P))), .int (1 : Int32), .int 0, .int (-1 : Int32), .int 0, .int (0 : Int32), .ref m_tape, .int 0, .ref m_slots, .ref m_leaves, .int 0, .int 0, .ref m_fresh, .int 0, .int 0, .int 0, .ref m_digestAt, .ref m_isGroup, .ref m_counts, .int 0, .int 0, .long 0, .int 0, .ref m_versionRow, .int 0, .long 0, .ref m_state, .ref m_names, .int 0, .ref m_keptRow, .int 0, .ref m_inSlot, .ref m_inAt, .ref m_inSize, .ref m_inDigest, .int 0])), (m_digestAt, .inl (d_digestAt, 128, .inr (.inl (fun _ => 0)))), (m_isGroup, .inl (d_isGroup, 128, .inl (fun _ => 0))), (m_counts, .inl (d_counts, 128, .inl (fun _ => 0)))] U.heap ∧ va_K (dC, dI) vwCl [(d_digestAt, .long), (d_isGroup, .boolean), (d_counts, .boolean)] U ∧ va_D (fun _ => True) [(mo, .inr (11, [.ref m_disk, .int (nI P), .int ((8224 : Int32) + ((26 : Int32) * (nI P))), .int (1 : Int32), .int 0, .int (-1 : Int32), .int 0, .int (0 : Int32), .ref m_tape, .int 0, .ref m_slots, .ref m_leaves, .int 0, .int 0, .ref m_fresh, .int 0, .int 0, .int 0, .ref m_digestAt, .ref m_isGroup, .ref m_counts, .int 0, .int 0, .long 0, .int 0, .ref m_versionRow, .int 0, .long 0, .ref m_state, .ref m_names, .int 0, .ref m_keptRow, .int 0, .ref m_inSlot, .ref m_inAt, .ref m_inSize, .ref m_inDigest, .int 0])), (m_digestAt, .inl (d_digestAt, 128, .inr (.inl (fun _ => 0)))), (m_isGroup, .inl (d_isGroup, 128, .inl (fun _ => 0))), (m_counts, .inl (d_counts, 128, .inl (fun _ => 0)))])) (va_Qi (fun r (_ : Unit) => r = (-6 : Int32)) (fun (_ : Unit) t => va_P (dC, dI) vwCl [(mo, .inr (11, [.ref m_disk, .int (nI P), .int ((8224 : Int32) + ((26 : Int32) * (nI P))), .int (1 : Int32), .int 0, .int (-1 : Int32), .int 0, .int (0 : Int32), .ref m_tape, .int 0, .ref m_slots, .ref m_leaves, .int 0, .int 0, .ref m_fresh, .int 0, .int (0 : Int32), .int (0 : Int32), .ref m_digestAt, .ref m_isGroup, .ref m_counts, .int (-1 : Int32), .int (0 : Int32), .long (0 : Int64), .int (0 : Int32), .ref m_versionRow, .int (0 : Int32), .long (0 : Int64), .ref m_state, .ref m_names, .int 0, .ref m_keptRow, .int 0, .ref m_inSlot, .ref m_inAt, .ref m_inSize, .ref m_inDigest, .int 0]))] t.heap ∧ va_K (dC, dI) vwCl [(d_digestAt, .long), (d_isGroup, .boolean), (d_counts, .boolean)] t ∧ va_D (va_A [(mo, .inr (11, [.ref m_disk, .int (nI P), .int ((8224 : Int32) + ((26 : Int32) * (nI P))), .int (1 : Int32), .int 0, .int (-1 : Int32), .int 0, .int (0 : Int32), .ref m_tape, .int 0, .ref m_slots, .ref m_leaves, .int 0, .int 0, .ref m_fresh, .int 0, .int 0, .int 0, .ref m_digestAt, .ref m_isGroup, .ref m_counts, .int 0, .int 0, .long 0, .int 0, .ref m_versionRow, .int 0, .long 0, .ref m_state, .ref m_names, .int 0, .ref m_keptRow, .int 0, .ref m_inSlot, .ref m_inAt, .ref m_inSize, .ref m_inDigest, .int 0])), (m_digestAt, .inl (d_digestAt, 128, .inr (.inl (fun _ => 0)))), (m_isGroup, .inl (d_isGroup, 128, .inl (fun _ => 0))), (m_counts, .inl (d_counts, 128, .inl (fun _ => 0)))] sz) [(mo, .inr (11, [.ref m_disk, .int (nI P), .int ((8224 : Int32) + ((26 : Int32) * (nI P))), .int (1 : Int32), .int 0, .int (-1 : Int32), .int 0, .int (0 : Int32), .ref m_tape, .int 0, .ref m_slots, .ref m_leaves, .int 0, .int 0, .ref m_fresh, .int 0, .int (0 : Int32), .int (0 : Int32), .ref m_digestAt, .ref m_isGroup, .ref m_counts, .int (-1 : Int32), .int (0 : Int32), .long (0 : Int64), .int (0 : Int32), .ref m_versionRow, .int (0 : Int32), .long (0 : Int64), .ref m_state, .ref m_names, .int 0, .ref m_keptRow, .int 0, .ref m_inSlot, .ref m_inAt, .ref m_inSize, .ref m_inDigest, .int 0]))]) (va_A [(mo, .inr (11, [.ref m_disk, .int (nI P), .int ((8224 : Int32) + ((26 : Int32) * (nI P))), .int (1 : Int32), .int 0, .int (-1 : Int32), .int 0, .int (0 : Int32), .ref m_tape, .int 0, .ref m_slots, .ref m_leaves, .int 0, .int 0, .ref m_fresh, .int 0, .int 0, .int 0, .ref m_digestAt, .ref m_isGroup, .ref m_counts, .int 0, .int 0, .long 0, .int 0, .ref m_versionRow, .int 0, .long 0, .ref m_state, .ref m_names, .int 0, .ref m_keptRow, .int 0, .ref m_inSlot, .ref m_inAt, .ref m_inSize, .ref m_inDigest, .int 0])), (m_digestAt, .inl (d_digestAt, 128, .inr (.inl (fun _ => 0)))), (m_isGroup, .inl (d_isGroup, 128, .inl (fun _ => 0))), (m_counts, .inl (d_counts, 128, .inl (fun _ => 0)))] sz)) 0 0 (va_A [(mo, .inr (11, [.ref m_disk, .int (nI P), .int ((8224 : Int32) + ((26 : Int32) * (nI P))), .int (1 : Int32), .int 0, .int (-1 : Int32), .int 0, .int (0 : Int32), .ref m_tape, .int 0, .ref m_slots, .ref m_leaves, .int 0, .int 0, .ref m_fresh, .int 0, .int 0, .int 0, .ref m_digestAt, .ref m_isGroup, .ref m_counts, .int 0, .int 0, .long 0, .int 0, .ref m_versionRow, .int 0, .long 0, .ref m_state, .ref m_names, .int 0, .ref m_keptRow, .int 0, .ref m_inSlot, .ref m_inAt, .ref m_inSize, .ref m_inDigest, .int 0])), (m_digestAt, .inl (d_digestAt, 128, .inr (.inl (fun _ => 0)))), (m_isGroup, .inl (d_isGroup, 128, .inl (fun _ => 0))), (m_counts, .inl (d_counts, 128, .inl (fun _ => 0)))] sz) := by
  refine Met.ofW (cc := cX9_vote) (maxL := 10) (ret := (some .int)) (by decide) rfl ?_
  intro p e s m args below meth c s₁ B hml hv
  obtain ⟨rfl, hsz, hP, hK, hD0⟩ := hv
  have hx := B.exec
  have hb := B.bytes
  have hr := B.returns
  have hts := atoms_spec (ws := wsX9_vote) B.pre
  have hown : s.vm.findClass RX9 = some m.cls := findClass_of_methodNamed B.named
  have hlocks := B.notSynchronized
  subst hsz
  have hD := hD0.self (sz := s.heap.size)
  generalize hAe : va_A [(mo, .inr (11, [.ref m_disk, .int (nI P), .int ((8224 : Int32) + ((26 : Int32) * (nI P))), .int (1 : Int32), .int 0, .int (-1 : Int32), .int 0, .int (0 : Int32), .ref m_tape, .int 0, .ref m_slots, .ref m_leaves, .int 0, .int 0, .ref m_fresh, .int 0, .int 0, .int 0, .ref m_digestAt, .ref m_isGroup, .ref m_counts, .int 0, .int 0, .long 0, .int 0, .ref m_versionRow, .int 0, .long 0, .ref m_state, .ref m_names, .int 0, .ref m_keptRow, .int 0, .ref m_inSlot, .ref m_inAt, .ref m_inSize, .ref m_inDigest, .int 0])), (m_digestAt, .inl (d_digestAt, 128, .inr (.inl (fun _ => 0)))), (m_isGroup, .inl (d_isGroup, 128, .inl (fun _ => 0))), (m_counts, .inl (d_counts, 128, .inl (fun _ => 0)))] s.heap.size = A at hD ⊢
  have hA : ∀ q : Nat, s.heap.size ≤ q → A q := fun q h => by rw [← hAe]; exact Or.inr h
  have hS : va_S A s.heap s.heap [] := va_S.rf
  have hl := lv_entry ([.ref mo, .int p0, .int p1, .long w2]) (n := 10) (Nat.le_of_ble_eq_true rfl)
  rw [lg_entry_eq]
  generalize (lg_sl ([.ref mo, .int p0, .int p1, .long w2]) ++ List.replicate (10 - (lg_sl ([.ref mo, .int p0, .int p1, .long w2])).length) Slot.unset).toArray = ls at hl ⊢
  have hl : lv_has ls 10 [(0, .ref mo), (1, .int p0), (2, .int p1), (3, .long w2)] := hl
  refine lv_aload_n hx hb dX9_vote_0 rfl (lv_at hl 0 rfl) ?_
  refine lv_aload_n hx hb dX9_vote_1 rfl (lv_at hl 0 rfl) ?_
  refine va_get (D := (dC, dI)) (ci := 11) (v := .int (1 : Int32)) (C := RX9) (T := TX9) (N := 38) hx hb hts (by decide +kernel) hown hK hP 0 rfl rfl 3 (by decide) (hts (.fieldLink RX9 72 "BlockLogModel" "on" "Z") (by decide +kernel)) (fun _ h9 => h9) rfl dX9_vote_2 ?_
  refine lv_if_ne (tgt := 12) hx hb dX9_vote_5 (by decide) (fun c_1 => ?_) (fun c_1 => ?_)
  · skip
    refine lv_iload_n hx hb dX9_vote_12 rfl (lv_at hl 1 rfl) ?_
    refine lv_iconst (v := 1) hx hb dX9_vote_13 (by decide) ?_
    refine lv_ldc hx hb hown (hts (.constant RX9 208 (1000000)) (by decide +kernel)) dX9_vote_14 ?_
    have hPc := hP.sub (ws' := []) [] rfl
    have hKc := hK.sub (tys' := []) [] rfl
    refine vp_callSi (va_Run.run (va_runS (As := [.int p0, .int (1 : Int32), .int (1000000 : Int32)]) (rest := [.ref mo]) ⟨hx, hb, hml, hown, hts⟩ (k_X9_within_3 l dC dI p0 (1 : Int32) (1000000 : Int32) hf0 hf1) (va_cwS 3 hts gX9_vote_X9_within rfl rfl rfl (by decide +kernel) ⟨Nat.le_of_ble_eq_true rfl, Nat.le_of_ble_eq_true rfl⟩) ⟨fun a U g mk q => by obtain ⟨q0, qP, qK⟩ := q; exact ⟨q0, qP, va_K.moved (u := U) (U := U.calling g mk a) (Vm.Alike.refl U.vm) qK⟩, fun U hU hW => ⟨rfl, by rw [hU]; exact hPc, va_K.moved hW.alike hKc⟩⟩ rfl rfl hl.1 rfl (lv_room (Nat.le_of_ble_eq_true rfl)) dX9_vote_16 ⟨Nat.le_of_ble_eq_true rfl, Nat.le_of_ble_eq_true rfl⟩)) (fun r_2 er_2 => ?_)
    subst er_2
    refine lv_if_eq (tgt := 32) hx hb dX9_vote_19 (by decide) (fun c_3 => ?_) (fun c_3 => ?_)
    · skip
      exact absurd c_3 (by decide)
    · skip
      refine lv_iload_n hx hb dX9_vote_22 rfl (lv_at hl 2 rfl) ?_
      refine lv_iconst (v := 0) hx hb dX9_vote_23 (by decide) ?_
      refine lv_ldc hx hb hown (hts (.constant RX9 208 (1000000)) (by decide +kernel)) dX9_vote_24 ?_
      have hPc := hP.sub (ws' := []) [] rfl
      have hKc := hK.sub (tys' := []) [] rfl
      refine vp_callSi (va_Run.run (va_runS (As := [.int p1, .int (0 : Int32), .int (1000000 : Int32)]) (rest := [.ref mo]) ⟨hx, hb, hml, hown, hts⟩ (k_X9_within_3 l dC dI p1 (0 : Int32) (1000000 : Int32) hf2 hf3) (va_cwS 3 hts gX9_vote_X9_within rfl rfl rfl (by decide +kernel) ⟨Nat.le_of_ble_eq_true rfl, Nat.le_of_ble_eq_true rfl⟩) ⟨fun a U g mk q => by obtain ⟨q0, qP, qK⟩ := q; exact ⟨q0, qP, va_K.moved (u := U) (U := U.calling g mk a) (Vm.Alike.refl U.vm) qK⟩, fun U hU hW => ⟨rfl, by rw [hU]; exact hPc, va_K.moved hW.alike hKc⟩⟩ rfl rfl hl.1 rfl (lv_room (Nat.le_of_ble_eq_true rfl)) dX9_vote_26 ⟨Nat.le_of_ble_eq_true rfl, Nat.le_of_ble_eq_true rfl⟩)) (fun r_4 er_4 => ?_)
      subst er_4
      refine lv_if_ne (tgt := 36) hx hb dX9_vote_29 (by decide) (fun c_5 => ?_) (fun c_5 => ?_)
      · skip
        refine lv_iconst (v := 0) hx hb dX9_vote_36 (by decide) ?_
        refine va_put (D := (dC, dI)) (ci := 11) (v := .int (0 : Int32)) (ty := .int) (C := RX9) (T := TX9) (N := 38) hx hb hts (by decide +kernel) tyX9 tyX9_ok nmX9 hown hK hP hD hS 0 rfl rfl 13 (by decide) (hts (.fieldLink RX9 91 "BlockLogModel" "thrown" "I") (by decide +kernel)) (fun _ h9 => h9) rfl (by decide +kernel) rfl rfl (Nat.le_of_ble_eq_true rfl) dX9_vote_37 (fun H locs hP hD hS => ?_)
        have hP : va_P (dC, dI) vwCl [(mo, .inr (11, [.ref m_disk, .int (nI P), .int ((8224 : Int32) + ((26 : Int32) * (nI P))), .int (1 : Int32), .int 0, .int (-1 : Int32), .int 0, .int (0 : Int32), .ref m_tape, .int 0, .ref m_slots, .ref m_leaves, .int 0, .int (0 : Int32), .ref m_fresh, .int 0, .int 0, .int 0, .ref m_digestAt, .ref m_isGroup, .ref m_counts, .int 0, .int 0, .long 0, .int 0, .ref m_versionRow, .int 0, .long 0, .ref m_state, .ref m_names, .int 0, .ref m_keptRow, .int 0, .ref m_inSlot, .ref m_inAt, .ref m_inSize, .ref m_inDigest, .int 0])), (m_digestAt, .inl (d_digestAt, 128, .inr (.inl (fun _ => 0)))), (m_isGroup, .inl (d_isGroup, 128, .inl (fun _ => 0))), (m_counts, .inl (d_counts, 128, .inl (fun _ => 0)))] H := hP
        have hD : va_D A [(mo, .inr (11, [.ref m_disk, .int (nI P), .int ((8224 : Int32) + ((26 : Int32) * (nI P))), .int (1 : Int32), .int 0, .int (-1 : Int32), .int 0, .int (0 : Int32), .ref m_tape, .int 0, .ref m_slots, .ref m_leaves, .int 0, .int (0 : Int32), .ref m_fresh, .int 0, .int 0, .int 0, .ref m_digestAt, .ref m_isGroup, .ref m_counts, .int 0, .int 0, .long 0, .int 0, .ref m_versionRow, .int 0, .long 0, .ref m_state, .ref m_names, .int 0, .ref m_keptRow, .int 0, .ref m_inSlot, .ref m_inAt, .ref m_inSize, .ref m_inDigest, .int 0])), (m_digestAt, .inl (d_digestAt, 128, .inr (.inl (fun _ => 0)))), (m_isGroup, .inl (d_isGroup, 128, .inl (fun _ => 0))), (m_counts, .inl (d_counts, 128, .inl (fun _ => 0)))] := hD
        refine lv_aload_n hx hb dX9_vote_40 rfl (lv_at hl 0 rfl) ?_
        refine va_get (D := (dC, dI)) (ci := 11) (v := .int (0 : Int32)) (C := RX9) (T := TX9) (N := 38) hx hb hts (by decide +kernel) hown hK hP 0 rfl rfl 13 (by decide) (hts (.fieldLink RX9 91 "BlockLogModel" "thrown" "I") (by decide +kernel)) (fun _ h9 => h9) rfl dX9_vote_41 ?_
        refine lv_if_le (tgt := 49) hx hb dX9_vote_44 (by decide) (fun c_6 => ?_) (fun c_6 => ?_)
        · skip
          refine lv_aload_n hx hb dX9_vote_49 rfl (lv_at hl 0 rfl) ?_
          have hPc := hP.sub (ws' := [(mo, .inr (11, [.ref m_disk, .int (nI P), .int ((8224 : Int32) + ((26 : Int32) * (nI P))), .int (1 : Int32), .int 0, .int (-1 : Int32), .int 0, .int (0 : Int32), .ref m_tape, .int 0, .ref m_slots, .ref m_leaves, .int 0, .int (0 : Int32), .ref m_fresh, .int 0, .int 0, .int 0, .ref m_digestAt, .ref m_isGroup, .ref m_counts, .int 0, .int 0, .long 0, .int 0, .ref m_versionRow, .int 0, .long 0, .ref m_state, .ref m_names, .int 0, .ref m_keptRow, .int 0, .ref m_inSlot, .ref m_inAt, .ref m_inSize, .ref m_inDigest, .int 0])), (m_digestAt, .inl (d_digestAt, 128, .inr (.inl (fun _ => 0)))), (m_isGroup, .inl (d_isGroup, 128, .inl (fun _ => 0))), (m_counts, .inl (d_counts, 128, .inl (fun _ => 0)))]) [0, 1, 2, 3] rfl
          have hKc := hK.sub (tys' := [(d_digestAt, .long), (d_isGroup, .boolean), (d_counts, .boolean)]) [0, 1, 2] rfl
          have hDc := hD.sub (ws' := [(mo, .inr (11, [.ref m_disk, .int (nI P), .int ((8224 : Int32) + ((26 : Int32) * (nI P))), .int (1 : Int32), .int 0, .int (-1 : Int32), .int 0, .int (0 : Int32), .ref m_tape, .int 0, .ref m_slots, .ref m_leaves, .int 0, .int (0 : Int32), .ref m_fresh, .int 0, .int 0, .int 0, .ref m_digestAt, .ref m_isGroup, .ref m_counts, .int 0, .int 0, .long 0, .int 0, .ref m_versionRow, .int 0, .long 0, .ref m_state, .ref m_names, .int 0, .ref m_keptRow, .int 0, .ref m_inSlot, .ref m_inAt, .ref m_inSize, .ref m_inDigest, .int 0])), (m_digestAt, .inl (d_digestAt, 128, .inr (.inl (fun _ => 0)))), (m_isGroup, .inl (d_isGroup, 128, .inl (fun _ => 0))), (m_counts, .inl (d_counts, 128, .inl (fun _ => 0)))]) [0, 1, 2, 3] (by decide) rfl
          have hFc := va_free (wc := [(mo, .inr (11, [.ref m_disk, .int (nI P), .int ((8224 : Int32) + ((26 : Int32) * (nI P))), .int (1 : Int32), .int 0, .int (-1 : Int32), .int 0, .int (0 : Int32), .ref m_tape, .int 0, .ref m_slots, .ref m_leaves, .int 0, .int (0 : Int32), .ref m_fresh, .int 0, .int 0, .int 0, .ref m_digestAt, .ref m_isGroup, .ref m_counts, .int 0, .int 0, .long 0, .int 0, .ref m_versionRow, .int 0, .long 0, .ref m_state, .ref m_names, .int 0, .ref m_keptRow, .int 0, .ref m_inSlot, .ref m_inAt, .ref m_inSize, .ref m_inDigest, .int 0])), (m_digestAt, .inl (d_digestAt, 128, .inr (.inl (fun _ => 0)))), (m_isGroup, .inl (d_isGroup, 128, .inl (fun _ => 0))), (m_counts, .inl (d_counts, 128, .inl (fun _ => 0)))]) hD hS hA [0, 1, 2, 3] rfl
          refine va_callv (va_runV (As := []) (rest := []) ⟨hx, hb, hml, hown, hts⟩ (k_X9_read_1 l dC dI mo m_digestAt m_isGroup m_counts m_disk P m_tape m_slots m_leaves m_fresh m_versionRow m_state m_names m_keptRow m_inSlot m_inAt m_inSize m_inDigest d_digestAt d_isGroup d_counts _) (cwV 0 hts gX9_vote_X9_read rfl rfl rfl (by decide +kernel) ⟨Nat.le_of_ble_eq_true rfl, Nat.le_of_ble_eq_true rfl⟩) ⟨fun a U g mk q => by obtain ⟨q0, q1, qP, qK, qD⟩ := q; exact ⟨q0, q1, qP, va_K.moved (u := U) (U := U.calling g mk a) (Vm.Alike.refl U.vm) qK, qD⟩, va_recv hK hP (ci := 11) (q := (RX9, TX9, 38)) rfl (q0 := 0) rfl, fun U hU hW => ⟨rfl, by rw [hU], by rw [hU]; exact hPc, va_K.moved hW.alike hKc, hDc.weaken (fun _ _ _ _ => trivial)⟩⟩ rfl rfl hl.1 rfl (lv_room (Nat.le_of_ble_eq_true rfl)) dX9_vote_50 ⟨Nat.le_of_ble_eq_true rfl, Nat.le_of_ble_eq_true rfl⟩) hS (fun q _ h => hFc q h) hFc (fun u t H1 locs ht hvm er_7 hB hz1 hk1 hS => ?_)
          obtain ⟨hP1, hK1, hD1⟩ := hB
          rw [ht] at hP1
          obtain ⟨hP, hD⟩ := va_join (wr := []) (w1 := [(mo, .inr (11, [.ref m_disk, .int (nI P), .int ((8224 : Int32) + ((26 : Int32) * (nI P))), .int (1 : Int32), .int 0, .int (-1 : Int32), .int 0, .int (0 : Int32), .ref m_tape, .int 0, .ref m_slots, .ref m_leaves, .int 0, .int 0, .ref m_fresh, .int 0, .int (0 : Int32), .int (0 : Int32), .ref m_digestAt, .ref m_isGroup, .ref m_counts, .int (-1 : Int32), .int (0 : Int32), .long (0 : Int64), .int (0 : Int32), .ref m_versionRow, .int (0 : Int32), .long (0 : Int64), .ref m_state, .ref m_names, .int 0, .ref m_keptRow, .int 0, .ref m_inSlot, .ref m_inAt, .ref m_inSize, .ref m_inDigest, .int 0])), (m_digestAt, .inl (d_digestAt, 128, .inr (.inl (zr_L 128)))), (m_isGroup, .inl (d_isGroup, 128, .inl (zr_Z 128))), (m_counts, .inl (d_counts, 128, .inl (zr_Z 128)))]) hP hD [0, 1, 2, 3] [] rfl rfl (by decide) (by decide) hk1 hFc hP1 hD1
          clear hPc hDc hFc hP1 hD1 hk1 hz1
          generalize H1 = H at hP hS ⊢
          have hP : va_P (dC, dI) vwCl [(mo, .inr (11, [.ref m_disk, .int (nI P), .int ((8224 : Int32) + ((26 : Int32) * (nI P))), .int (1 : Int32), .int 0, .int (-1 : Int32), .int 0, .int (0 : Int32), .ref m_tape, .int 0, .ref m_slots, .ref m_leaves, .int 0, .int 0, .ref m_fresh, .int 0, .int (0 : Int32), .int (0 : Int32), .ref m_digestAt, .ref m_isGroup, .ref m_counts, .int (-1 : Int32), .int (0 : Int32), .long (0 : Int64), .int (0 : Int32), .ref m_versionRow, .int (0 : Int32), .long (0 : Int64), .ref m_state, .ref m_names, .int 0, .ref m_keptRow, .int 0, .ref m_inSlot, .ref m_inAt, .ref m_inSize, .ref m_inDigest, .int 0])), (m_digestAt, .inl (d_digestAt, 128, .inr (.inl (zr_L 128)))), (m_isGroup, .inl (d_isGroup, 128, .inl (zr_Z 128))), (m_counts, .inl (d_counts, 128, .inl (zr_Z 128)))] H := hP
          have hD : va_D A [(mo, .inr (11, [.ref m_disk, .int (nI P), .int ((8224 : Int32) + ((26 : Int32) * (nI P))), .int (1 : Int32), .int 0, .int (-1 : Int32), .int 0, .int (0 : Int32), .ref m_tape, .int 0, .ref m_slots, .ref m_leaves, .int 0, .int 0, .ref m_fresh, .int 0, .int (0 : Int32), .int (0 : Int32), .ref m_digestAt, .ref m_isGroup, .ref m_counts, .int (-1 : Int32), .int (0 : Int32), .long (0 : Int64), .int (0 : Int32), .ref m_versionRow, .int (0 : Int32), .long (0 : Int64), .ref m_state, .ref m_names, .int 0, .ref m_keptRow, .int 0, .ref m_inSlot, .ref m_inAt, .ref m_inSize, .ref m_inDigest, .int 0])), (m_digestAt, .inl (d_digestAt, 128, .inr (.inl (zr_L 128)))), (m_isGroup, .inl (d_isGroup, 128, .inl (zr_Z 128))), (m_counts, .inl (d_counts, 128, .inl (zr_Z 128)))] := hD
          refine lv_aload_n hx hb dX9_vote_53 rfl (lv_at hl 0 rfl) ?_
          refine va_get (D := (dC, dI)) (ci := 11) (v := .int (0 : Int32)) (C := RX9) (T := TX9) (N := 38) hx hb hts (by decide +kernel) hown hK hP 0 rfl rfl 17 (by decide) (hts (.fieldLink RX9 176 "BlockLogModel" "needs" "Z") (by decide +kernel)) (fun _ h9 => h9) rfl dX9_vote_54 ?_
          refine lv_if_eq (tgt := 63) hx hb dX9_vote_57 (by decide) (fun c_8 => ?_) (fun c_8 => ?_)
          · skip
            refine lv_aload_n hx hb dX9_vote_63 rfl (lv_at hl 0 rfl) ?_
            refine lv_lload_n hx hb dX9_vote_64 rfl (lv_at hl 3 rfl) ?_
            have hPc := hP.sub (ws' := [(mo, .inr (11, [.ref m_disk, .int (nI P), .int ((8224 : Int32) + ((26 : Int32) * (nI P))), .int (1 : Int32), .int 0, .int (-1 : Int32), .int 0, .int (0 : Int32), .ref m_tape, .int 0, .ref m_slots, .ref m_leaves, .int 0, .int 0, .ref m_fresh, .int 0, .int (0 : Int32), .int (0 : Int32), .ref m_digestAt, .ref m_isGroup, .ref m_counts, .int (-1 : Int32), .int (0 : Int32), .long (0 : Int64), .int (0 : Int32), .ref m_versionRow, .int (0 : Int32), .long (0 : Int64), .ref m_state, .ref m_names, .int 0, .ref m_keptRow, .int 0, .ref m_inSlot, .ref m_inAt, .ref m_inSize, .ref m_inDigest, .int 0]))]) [0] rfl
            have hKc := hK.sub (tys' := []) [] rfl
            refine vp_callSl (va_Run.run (va_runV (As := [.long w2]) (rest := []) ⟨hx, hb, hml, hown, hts⟩ (k_X9_meant_1 l dC dI mo w2 m_disk P m_tape m_slots m_leaves m_fresh m_digestAt m_isGroup m_counts m_versionRow m_state m_names m_keptRow m_inSlot m_inAt m_inSize m_inDigest hf4 hf5 hf6) (cwV 1 hts gX9_vote_X9_meant rfl rfl rfl (by decide +kernel) ⟨Nat.le_of_ble_eq_true rfl, Nat.le_of_ble_eq_true rfl⟩) ⟨fun a U g mk q => by obtain ⟨q0, qP, qK⟩ := q; exact ⟨q0, qP, va_K.moved (u := U) (U := U.calling g mk a) (Vm.Alike.refl U.vm) qK⟩, va_recv hK hP (ci := 11) (q := (RX9, TX9, 38)) rfl (q0 := 0) rfl, fun U hU hW => ⟨rfl, by rw [hU]; exact hPc, va_K.moved hW.alike hKc⟩⟩ rfl rfl hl.1 rfl (lv_room (Nat.le_of_ble_eq_true rfl)) dX9_vote_65 ⟨Nat.le_of_ble_eq_true rfl, Nat.le_of_ble_eq_true rfl⟩)) (fun r_9 er_9 => ?_)
            subst er_9
            refine lv_lstore (lv' := [(5, .long (0 : Int64)), (0, .ref mo), (1, .int p0), (2, .int p1), (3, .long w2)]) hx hb dX9_vote_68 hl (by decide) rfl (fun ls hl => ?_)
            refine lv_aload_n hx hb dX9_vote_70 rfl (lv_at hl 1 rfl) ?_
            refine lv_lload hx hb dX9_vote_71 (lv_at hl 0 rfl) ?_
            refine lv_aload_n hx hb dX9_vote_73 rfl (lv_at hl 1 rfl) ?_
            refine va_get (D := (dC, dI)) (ci := 11) (v := .int (0 : Int32)) (C := RX9) (T := TX9) (N := 38) hx hb hts (by decide +kernel) hown hK hP 0 rfl rfl 16 (by decide) (hts (.fieldLink RX9 167 "BlockLogModel" "many" "I") (by decide +kernel)) (fun _ h9 => h9) rfl dX9_vote_74 ?_
            have hPc := hP.sub (ws' := []) [] rfl
            have hKc := hK.sub (tys' := []) [] rfl
            refine vp_callSi (va_Run.run (va_runV (As := [.long (0 : Int64), .int (0 : Int32)]) (rest := []) ⟨hx, hb, hml, hown, hts⟩ (k_X9_blockRow_1 l dC dI mo) (cwV 2 hts gX9_vote_X9_blockRow rfl rfl rfl (by decide +kernel) ⟨Nat.le_of_ble_eq_true rfl, Nat.le_of_ble_eq_true rfl⟩) ⟨fun a U g mk q => by obtain ⟨q0, qP, qK⟩ := q; exact ⟨q0, qP, va_K.moved (u := U) (U := U.calling g mk a) (Vm.Alike.refl U.vm) qK⟩, va_recv hK hP (ci := 11) (q := (RX9, TX9, 38)) rfl (q0 := 0) rfl, fun U hU hW => ⟨rfl, by rw [hU]; exact hPc, va_K.moved hW.alike hKc⟩⟩ rfl rfl hl.1 rfl (lv_room (Nat.le_of_ble_eq_true rfl)) dX9_vote_77 ⟨Nat.le_of_ble_eq_true rfl, Nat.le_of_ble_eq_true rfl⟩)) (fun r_10 er_10 => ?_)
            subst er_10
            refine lv_istore (lv' := [(7, .int (-1 : Int32)), (5, .long (0 : Int64)), (0, .ref mo), (1, .int p0), (2, .int p1), (3, .long w2)]) hx hb dX9_vote_80 hl (by decide) rfl (fun ls hl => ?_)
            refine lv_iload hx hb dX9_vote_82 (lv_at hl 0 rfl) ?_
            refine lv_iconst (v := (-1)) hx hb dX9_vote_84 (by decide) ?_
            refine lv_icmp_eq (tgt := 98) hx hb dX9_vote_85 (by decide) (fun c_11 => ?_) (fun c_11 => ?_)
            · skip
              refine lv_bipush (v := (-6)) hx hb dX9_vote_98 (by decide) ?_
              have hP := hP.sub (ws' := [(mo, .inr (11, [.ref m_disk, .int (nI P), .int ((8224 : Int32) + ((26 : Int32) * (nI P))), .int (1 : Int32), .int 0, .int (-1 : Int32), .int 0, .int (0 : Int32), .ref m_tape, .int 0, .ref m_slots, .ref m_leaves, .int 0, .int 0, .ref m_fresh, .int 0, .int (0 : Int32), .int (0 : Int32), .ref m_digestAt, .ref m_isGroup, .ref m_counts, .int (-1 : Int32), .int (0 : Int32), .long (0 : Int64), .int (0 : Int32), .ref m_versionRow, .int (0 : Int32), .long (0 : Int64), .ref m_state, .ref m_names, .int 0, .ref m_keptRow, .int 0, .ref m_inSlot, .ref m_inAt, .ref m_inSize, .ref m_inDigest, .int 0]))]) [0] rfl
              have hD := hD.sub (ws' := [(mo, .inr (11, [.ref m_disk, .int (nI P), .int ((8224 : Int32) + ((26 : Int32) * (nI P))), .int (1 : Int32), .int 0, .int (-1 : Int32), .int 0, .int (0 : Int32), .ref m_tape, .int 0, .ref m_slots, .ref m_leaves, .int 0, .int 0, .ref m_fresh, .int 0, .int (0 : Int32), .int (0 : Int32), .ref m_digestAt, .ref m_isGroup, .ref m_counts, .int (-1 : Int32), .int (0 : Int32), .long (0 : Int64), .int (0 : Int32), .ref m_versionRow, .int (0 : Int32), .long (0 : Int64), .ref m_state, .ref m_names, .int 0, .ref m_keptRow, .int 0, .ref m_inSlot, .ref m_inAt, .ref m_inSize, .ref m_inDigest, .int 0]))]) [0] (by decide) rfl
              have hK := hK.sub (tys' := [(d_digestAt, .long), (d_isGroup, .boolean), (d_counts, .boolean)]) [0, 1, 2] rfl
              exact W.iret hx hb hr (fun t ht hW => ⟨⟨_, (), rfl, rfl, by rw [ht]; exact hP, va_K.moved hW.alike hK, hD⟩, hS.F ht⟩) hS.2.2 dX9_vote_100
            · skip
              exact absurd (by decide) c_11
          · skip
            exact absurd (by decide) c_8
        · skip
          exact absurd (by decide) c_6
      · skip
        exact absurd c_5 (by decide)
  · skip
    exact absurd c_1 (by decide)

set_option maxHeartbeats 4000000 in
set_option maxRecDepth 100000 in
theorem k_X6_meant_2 (l : Launch) (dC : Nat → ClassId) (dI : Nat → Nat → Nat) (so : Nat) (w2 : Int64) (hf0 : 0 ≤ lg_cmp w2 (0)) : Met l yX6_meant wsX6_meant ({ frames := 0, cells := 0, slots := 0, locals := 0 }) (va_Pc [.ref so, .long w2] (fun U => va_P (dC, dI) vwCl [] U.heap ∧ va_K (dC, dI) vwCl [] U)) (vp_Sl (fun r => r = w2)) 0 0 (fun _ => False) := by
  refine Met.ofW (cc := cX6_meant) (maxL := 3) (ret := (some .long)) (by decide) rfl ?_
  intro p e s m args below meth c s₁ B hml hv
  obtain ⟨rfl, hP, hK⟩ := hv
  have hx := B.exec
  have hb := B.bytes
  have hr := B.returns
  have hts := atoms_spec (ws := wsX6_meant) B.pre
  have hown : s.vm.findClass RX6 = some m.cls := findClass_of_methodNamed B.named
  have hlocks := B.notSynchronized
  have hl := lv_entry ([.ref so, .long w2]) (n := 3) (Nat.le_of_ble_eq_true rfl)
  rw [lg_entry_eq]
  generalize (lg_sl ([.ref so, .long w2]) ++ List.replicate (3 - (lg_sl ([.ref so, .long w2])).length) Slot.unset).toArray = ls at hl ⊢
  have hl : lv_has ls 3 [(0, .ref so), (1, .long w2)] := hl
  refine lv_lload_n hx hb dX6_meant_0 rfl (lv_at hl 1 rfl) ?_
  refine lv_lconst (v := 0) hx hb dX6_meant_1 (by decide) ?_
  refine W.lcmp hx hb dX6_meant_2 ?_
  refine lv_if_ge (tgt := 27) hx hb dX6_meant_3 (by decide) (fun c_1 => ?_) (fun c_1 => ?_)
  · skip
    refine lv_lload_n hx hb dX6_meant_27 rfl (lv_at hl 1 rfl) ?_
    exact W.lret hx hb hr (fun t ht hW => ⟨_, rfl, rfl, ht⟩) (fun q h => by cases h) dX6_meant_28
  · skip
    exact absurd hf0 c_1

set_option maxHeartbeats 4000000 in
set_option maxRecDepth 100000 in
theorem k_X6_blockRow_2 (l : Launch) (dC : Nat → ClassId) (dI : Nat → Nat → Nat) (so : Nat) (w2 : Int64) (rr : Nat) (s1 : Nat) (s2 : Nat) (s3 : Nat) (s4 : Nat) (s5 : Nat) (s6 : Nat)  : Met l yX6_blockRow wsX6_blockRow ({ frames := 0, cells := 0, slots := 0, locals := 0 }) (va_Pc [.ref so, .long w2] (fun U => va_P (dC, dI) vwCl [(so, .inr (8, [.ref rr, .ref s1, .ref s2, .ref s3, .ref s4, .ref s5, .ref s6, .int (0 : Int32), .int (0 : Int32), .int (-1 : Int32), .int (0 : Int32), .int (0 : Int32)]))] U.heap ∧ va_K (dC, dI) vwCl [] U)) (vp_Si (fun r => r = (-1 : Int32))) 0 0 (fun _ => False) := by
  refine Met.ofW (cc := cX6_blockRow) (maxL := 4) (ret := (some .int)) (by decide) rfl ?_
  intro p e s m args below meth c s₁ B hml hv
  obtain ⟨rfl, hP, hK⟩ := hv
  have hx := B.exec
  have hb := B.bytes
  have hr := B.returns
  have hts := atoms_spec (ws := wsX6_blockRow) B.pre
  have hown : s.vm.findClass RX6 = some m.cls := findClass_of_methodNamed B.named
  have hlocks := B.notSynchronized
  have hl := lv_entry ([.ref so, .long w2]) (n := 4) (Nat.le_of_ble_eq_true rfl)
  rw [lg_entry_eq]
  generalize (lg_sl ([.ref so, .long w2]) ++ List.replicate (4 - (lg_sl ([.ref so, .long w2])).length) Slot.unset).toArray = ls at hl ⊢
  have hl : lv_has ls 4 [(0, .ref so), (1, .long w2)] := hl
  refine lv_lload_n hx hb dX6_blockRow_0 rfl (lv_at hl 1 rfl) ?_
  refine lv_lconst (v := 0) hx hb dX6_blockRow_1 (by decide) ?_
  refine W.lcmp hx hb dX6_blockRow_2 ?_
  refine lv_if_ne (tgt := 8) hx hb dX6_blockRow_3 (by decide) (fun c_1 => ?_) (fun c_1 => ?_)
  · skip
    refine lv_iconst (v := 0) hx hb dX6_blockRow_8 (by decide) ?_
    refine lv_istore_n (lv' := [(3, .int (0 : Int32)), (0, .ref so), (1, .long w2)]) hx hb dX6_blockRow_9 rfl hl (by decide) rfl (fun ls hl => ?_)
    refine lv_iload_n hx hb dX6_blockRow_10 rfl (lv_at hl 0 rfl) ?_
    refine lv_aload_n hx hb dX6_blockRow_11 rfl (lv_at hl 1 rfl) ?_
    refine va_get (D := (dC, dI)) (ci := 8) (v := .int (0 : Int32)) (C := RX6) (T := TX6) (N := 12) hx hb hts (by decide +kernel) hown hK hP 0 rfl rfl 7 (by decide) (hts (.fieldLink RX6 36 "BlockLog$Story" "heard" "I") (by decide +kernel)) (fun _ h9 => h9) rfl dX6_blockRow_12 ?_
    refine lv_icmp_ge (tgt := 46) hx hb dX6_blockRow_15 (by decide) (fun c_2 => ?_) (fun c_2 => ?_)
    · skip
      refine lv_iconst (v := (-1)) hx hb dX6_blockRow_46 (by decide) ?_
      exact W.iret hx hb hr (fun t ht hW => ⟨_, rfl, rfl, ht⟩) (fun q h => by cases h) dX6_blockRow_47
    · skip
      exact absurd (by decide) c_2
  · skip
    refine lv_iconst (v := (-1)) hx hb dX6_blockRow_6 (by decide) ?_
    exact W.iret hx hb hr (fun t ht hW => ⟨_, rfl, rfl, ht⟩) (fun q h => by cases h) dX6_blockRow_7

set_option maxHeartbeats 4000000 in
set_option maxRecDepth 100000 in
theorem k_X8_vote_6 (l : Launch) (dC : Nat → ClassId) (dI : Nat → Nat → Nat) (x : Nat) (p0 : Int32) (p1 : Int32) (w2 : Int64) (rr : Nat) (ds : Nat) (so : Nat) (tp : Nat) (pu : Nat) (sn : Nat) (im : Nat) (cs : Nat) (cl : Nat) (ri : Nat) (pg : Int32) (dl : Nat) (dr : Nat) (dt : Nat) (s1 : Nat) (s2 : Nat) (s3 : Nat) (s4 : Nat) (s5 : Nat) (s6 : Nat) (hf0 : 1 ≤ p0) (hf1 : p0 ≤ 1000000) (hf2 : 0 ≤ p1) (hf3 : p1 ≤ 1000000) (hf4 : 0 ≤ lg_cmp w2 (0)) : Met l yX8_vote wsX8_vote ({ frames := 2, cells := 0, slots := 0, locals := 40 }) (va_Pc [.ref x, .int p0, .int p1, .long w2] (fun U => va_P (dC, dI) vwCl [(x, .inr (10, [.ref tp, .ref ds, .ref rr, .ref so, .ref pu, .ref sn, .ref im, .ref cs, .ref cl, .int (0 : Int32)])), (rr, .inr (6, [.ref ds, .ref ri, .int 0, .int 1, .int 0, .int 0])), (ds, .inr (3, [.int pg, .ref dl, .ref dr, .ref dt, .int (1 : Int32), .int (-1 : Int32), .int (0 : Int32)])), (so, .inr (8, [.ref rr, .ref s1, .ref s2, .ref s3, .ref s4, .ref s5, .ref s6, .int (0 : Int32), .int (0 : Int32), .int (-1 : Int32), .int (0 : Int32), .int (0 : Int32)]))] U.heap ∧ va_K (dC, dI) vwCl [] U ∧ gx_W U)) (vp_Si (fun r => r = (-6 : Int32))) 0 0 (fun _ => False) := by
  refine Met.ofW (cc := cX8_vote) (maxL := 11) (ret := (some .int)) (by decide) rfl ?_
  intro p e s m args below meth c s₁ B hml hv
  obtain ⟨rfl, hP, hK, hG⟩ := hv
  have hx := B.exec
  have hb := B.bytes
  have hr := B.returns
  have hts := atoms_spec (ws := wsX8_vote) B.pre
  have hown : s.vm.findClass RX8 = some m.cls := findClass_of_methodNamed B.named
  have hlocks := B.notSynchronized
  have hl := lv_entry ([.ref x, .int p0, .int p1, .long w2]) (n := 11) (Nat.le_of_ble_eq_true rfl)
  rw [lg_entry_eq]
  generalize (lg_sl ([.ref x, .int p0, .int p1, .long w2]) ++ List.replicate (11 - (lg_sl ([.ref x, .int p0, .int p1, .long w2])).length) Slot.unset).toArray = ls at hl ⊢
  have hl : lv_has ls 11 [(0, .ref x), (1, .int p0), (2, .int p1), (3, .long w2)] := hl
  refine lv_aload_n hx hb dX8_vote_0 rfl (lv_at hl 0 rfl) ?_
  have hPc := hP.sub (ws' := [(x, .inr (10, [.ref tp, .ref ds, .ref rr, .ref so, .ref pu, .ref sn, .ref im, .ref cs, .ref cl, .int (0 : Int32)])), (ds, .inr (3, [.int pg, .ref dl, .ref dr, .ref dt, .int (1 : Int32), .int (-1 : Int32), .int (0 : Int32)]))]) [0, 2] rfl
  have hKc := hK.sub (tys' := []) [] rfl
  refine va_csv (va_Run.run (va_runV (As := []) (rest := []) ⟨hx, hb, hml, hown, hts⟩ (k_X8_demandPower_1 l dC dI x ds tp rr so pu sn im cs cl pg dl dr dt) (cwV 0 hts gX8_vote_X8_demandPower rfl rfl rfl (by decide +kernel) ⟨Nat.le_of_ble_eq_true rfl, Nat.le_of_ble_eq_true rfl⟩) ⟨fun a U g mk q => by obtain ⟨q0, qP, qK, qG⟩ := q; exact ⟨q0, qP, va_K.moved (u := U) (U := U.calling g mk a) (Vm.Alike.refl U.vm) qK, qG.same rfl⟩, va_recv hK hP (ci := 10) (q := (RX8, TX8, 10)) rfl (q0 := 0) rfl, fun U hU hW => ⟨rfl, by rw [hU]; exact hPc, va_K.moved hW.alike hKc, hG.warm hW⟩⟩ rfl rfl hl.1 rfl (lv_room (Nat.le_of_ble_eq_true rfl)) dX8_vote_1 ⟨Nat.le_of_ble_eq_true rfl, Nat.le_of_ble_eq_true rfl⟩)) (fun _ => ?_)
  refine lv_iload_n hx hb dX8_vote_4 rfl (lv_at hl 1 rfl) ?_
  have hPc := hP.sub (ws' := []) [] rfl
  have hKc := hK.sub (tys' := []) [] rfl
  refine va_csv (va_Run.run (va_runS (As := [.int p0]) (rest := []) ⟨hx, hb, hml, hown, hts⟩ (k_X8_demandHeight_3 l dC dI p0 hf0 hf1) (va_cwS 1 hts gX8_vote_X8_demandHeight rfl rfl rfl (by decide +kernel) ⟨Nat.le_of_ble_eq_true rfl, Nat.le_of_ble_eq_true rfl⟩) ⟨fun a U g mk q => by obtain ⟨q0, qP, qK⟩ := q; exact ⟨q0, qP, va_K.moved (u := U) (U := U.calling g mk a) (Vm.Alike.refl U.vm) qK⟩, fun U hU hW => ⟨rfl, by rw [hU]; exact hPc, va_K.moved hW.alike hKc⟩⟩ rfl rfl hl.1 rfl (lv_room (Nat.le_of_ble_eq_true rfl)) dX8_vote_5 ⟨Nat.le_of_ble_eq_true rfl, Nat.le_of_ble_eq_true rfl⟩)) (fun _ => ?_)
  refine lv_iload_n hx hb dX8_vote_8 rfl (lv_at hl 2 rfl) ?_
  refine lv_if_lt (tgt := 18) hx hb dX8_vote_9 (by decide) (fun c_3 => ?_) (fun c_3 => ?_)
  · skip
    exact absurd c_3 (Int32.not_lt.mpr hf2)
  · skip
    refine lv_iload_n hx hb dX8_vote_12 rfl (lv_at hl 2 rfl) ?_
    refine lv_ldc hx hb hown (hts (.constant RX8 163 (1000000)) (by decide +kernel)) dX8_vote_13 ?_
    refine lv_icmp_le (tgt := 28) hx hb dX8_vote_15 (by decide) (fun c_4 => ?_) (fun c_4 => ?_)
    · skip
      refine lv_aload_n hx hb dX8_vote_28 rfl (lv_at hl 0 rfl) ?_
      refine va_get (D := (dC, dI)) (ci := 10) (v := .ref rr) (C := RX8) (T := TX8) (N := 10) hx hb hts (by decide +kernel) hown hK hP 0 rfl rfl 2 (by decide) (hts (.fieldLink RX8 31 "BlockLog" "rows" "LBlockLog$Rows;") (by decide +kernel)) (fun _ h9 => h9) rfl dX8_vote_29 ?_
      have hPc := hP.sub (ws' := [(rr, .inr (6, [.ref ds, .ref ri, .int 0, .int 1, .int 0, .int 0]))]) [1] rfl
      have hKc := hK.sub (tys' := []) [] rfl
      refine vp_callSi (va_Run.run (va_runV (As := []) (rest := []) ⟨hx, hb, hml, hown, hts⟩ (k_X4_inNeed_1 l dC dI rr ds ri) (cwV 0 hts gX8_vote_X4_inNeed rfl rfl rfl (by decide +kernel) ⟨Nat.le_of_ble_eq_true rfl, Nat.le_of_ble_eq_true rfl⟩) ⟨fun a U g mk q => by obtain ⟨q0, qP, qK⟩ := q; exact ⟨q0, qP, va_K.moved (u := U) (U := U.calling g mk a) (Vm.Alike.refl U.vm) qK⟩, va_recv hK hP (ci := 6) (q := (RX4, TX4, 6)) rfl (q0 := 1) rfl, fun U hU hW => ⟨rfl, by rw [hU]; exact hPc, va_K.moved hW.alike hKc⟩⟩ rfl rfl hl.1 rfl (lv_room (Nat.le_of_ble_eq_true rfl)) dX8_vote_32 ⟨Nat.le_of_ble_eq_true rfl, Nat.le_of_ble_eq_true rfl⟩)) (fun r_5 er_5 => ?_)
      subst er_5
      refine lv_if_eq (tgt := 41) hx hb dX8_vote_35 (by decide) (fun c_6 => ?_) (fun c_6 => ?_)
      · skip
        refine lv_aload_n hx hb dX8_vote_41 rfl (lv_at hl 0 rfl) ?_
        refine va_get (D := (dC, dI)) (ci := 10) (v := .ref so) (C := RX8) (T := TX8) (N := 10) hx hb hts (by decide +kernel) hown hK hP 0 rfl rfl 3 (by decide) (hts (.fieldLink RX8 40 "BlockLog" "story" "LBlockLog$Story;") (by decide +kernel)) (fun _ h9 => h9) rfl dX8_vote_42 ?_
        refine lv_lload_n hx hb dX8_vote_45 rfl (lv_at hl 3 rfl) ?_
        have hPc := hP.sub (ws' := []) [] rfl
        have hKc := hK.sub (tys' := []) [] rfl
        refine vp_callSl (va_Run.run (va_runV (As := [.long w2]) (rest := []) ⟨hx, hb, hml, hown, hts⟩ (k_X6_meant_2 l dC dI so w2 hf4) (cwV 1 hts gX8_vote_X6_meant rfl rfl rfl (by decide +kernel) ⟨Nat.le_of_ble_eq_true rfl, Nat.le_of_ble_eq_true rfl⟩) ⟨fun a U g mk q => by obtain ⟨q0, qP, qK⟩ := q; exact ⟨q0, qP, va_K.moved (u := U) (U := U.calling g mk a) (Vm.Alike.refl U.vm) qK⟩, va_recv hK hP (ci := 8) (q := (RX6, TX6, 12)) rfl (q0 := 3) rfl, fun U hU hW => ⟨rfl, by rw [hU]; exact hPc, va_K.moved hW.alike hKc⟩⟩ rfl rfl hl.1 rfl (lv_room (Nat.le_of_ble_eq_true rfl)) dX8_vote_46 ⟨Nat.le_of_ble_eq_true rfl, Nat.le_of_ble_eq_true rfl⟩)) (fun r_7 er_7 => ?_)
        replace er_7 := er_7.symm
        subst er_7
        refine lv_lstore (lv' := [(5, .long w2), (0, .ref x), (1, .int p0), (2, .int p1), (3, .long w2)]) hx hb dX8_vote_49 hl (by decide) rfl (fun ls hl => ?_)
        refine lv_aload_n hx hb dX8_vote_51 rfl (lv_at hl 1 rfl) ?_
        refine va_get (D := (dC, dI)) (ci := 10) (v := .ref so) (C := RX8) (T := TX8) (N := 10) hx hb hts (by decide +kernel) hown hK hP 0 rfl rfl 3 (by decide) (hts (.fieldLink RX8 40 "BlockLog" "story" "LBlockLog$Story;") (by decide +kernel)) (fun _ h9 => h9) rfl dX8_vote_52 ?_
        refine lv_lload hx hb dX8_vote_55 (lv_at hl 0 rfl) ?_
        have hPc := hP.sub (ws' := [(so, .inr (8, [.ref rr, .ref s1, .ref s2, .ref s3, .ref s4, .ref s5, .ref s6, .int (0 : Int32), .int (0 : Int32), .int (-1 : Int32), .int (0 : Int32), .int (0 : Int32)]))]) [3] rfl
        have hKc := hK.sub (tys' := []) [] rfl
        refine vp_callSi (va_Run.run (va_runV (As := [.long w2]) (rest := []) ⟨hx, hb, hml, hown, hts⟩ (k_X6_blockRow_2 l dC dI so w2 rr s1 s2 s3 s4 s5 s6) (cwV 1 hts gX8_vote_X6_blockRow rfl rfl rfl (by decide +kernel) ⟨Nat.le_of_ble_eq_true rfl, Nat.le_of_ble_eq_true rfl⟩) ⟨fun a U g mk q => by obtain ⟨q0, qP, qK⟩ := q; exact ⟨q0, qP, va_K.moved (u := U) (U := U.calling g mk a) (Vm.Alike.refl U.vm) qK⟩, va_recv hK hP (ci := 8) (q := (RX6, TX6, 12)) rfl (q0 := 3) rfl, fun U hU hW => ⟨rfl, by rw [hU]; exact hPc, va_K.moved hW.alike hKc⟩⟩ rfl rfl hl.1 rfl (lv_room (Nat.le_of_ble_eq_true rfl)) dX8_vote_57 ⟨Nat.le_of_ble_eq_true rfl, Nat.le_of_ble_eq_true rfl⟩)) (fun r_8 er_8 => ?_)
        subst er_8
        refine lv_istore (lv' := [(7, .int (-1 : Int32)), (5, .long w2), (0, .ref x), (1, .int p0), (2, .int p1), (3, .long w2)]) hx hb dX8_vote_60 hl (by decide) rfl (fun ls hl => ?_)
        refine lv_iload hx hb dX8_vote_62 (lv_at hl 0 rfl) ?_
        refine lv_iconst (v := (-1)) hx hb dX8_vote_64 (by decide) ?_
        refine lv_icmp_eq (tgt := 81) hx hb dX8_vote_65 (by decide) (fun c_9 => ?_) (fun c_9 => ?_)
        · skip
          refine lv_bipush (v := (-6)) hx hb dX8_vote_81 (by decide) ?_
          exact W.iret hx hb hr (fun t ht hW => ⟨_, rfl, rfl, ht⟩) (fun q h => by cases h) dX8_vote_83
        · skip
          exact absurd (by decide) c_9
      · skip
        exact absurd (by decide) c_6
    · skip
      exact absurd hf3 c_4

set_option maxHeartbeats 4000000 in
set_option maxRecDepth 100000 in
theorem k_L_vote_6 (l : Launch) (dC : Nat → ClassId) (dI : Nat → Nat → Nat) (x : Nat) (p0 : Int32) (p1 : Int32) (w2 : Int64) (ho : Nat) (rr : Nat) (ds : Nat) (so : Nat) (tp : Nat) (pu : Nat) (sn : Nat) (im : Nat) (cs : Nat) (cl : Nat) (ri : Nat) (pg : Int32) (dl : Nat) (dr : Nat) (dt : Nat) (s1 : Nat) (s2 : Nat) (s3 : Nat) (s4 : Nat) (s5 : Nat) (s6 : Nat) (cJ : ClassId) (g1 : Nat → Int64) (sz : Nat) (hf0 : 1 ≤ p0) (hf1 : p0 ≤ 1000000) (hf2 : 0 ≤ p1) (hf3 : p1 ≤ 1000000) (hf4 : 0 ≤ lg_cmp w2 (0)) : Met l yL_vote wsL_vote ({ frames := 3, cells := 0, slots := 0, locals := 70 }) (va_Pc [.ref x, .int p0, .int p1, .long w2, .ref ho] (fun U => U.heap.size = sz ∧ va_P (dC, dI) vwCl [(x, .inr (10, [.ref tp, .ref ds, .ref rr, .ref so, .ref pu, .ref sn, .ref im, .ref cs, .ref cl, .int (0 : Int32)])), (rr, .inr (6, [.ref ds, .ref ri, .int 0, .int 1, .int 0, .int 0])), (ds, .inr (3, [.int pg, .ref dl, .ref dr, .ref dt, .int (1 : Int32), .int (-1 : Int32), .int (0 : Int32)])), (so, .inr (8, [.ref rr, .ref s1, .ref s2, .ref s3, .ref s4, .ref s5, .ref s6, .int (0 : Int32), .int (0 : Int32), .int (-1 : Int32), .int (0 : Int32), .int (0 : Int32)])), (ho, .inl (cJ, 1, .inr (.inl g1)))] U.heap ∧ va_K (dC, dI) vwCl [(cJ, .long)] U ∧ va_D (fun _ => True) [(x, .inr (10, [.ref tp, .ref ds, .ref rr, .ref so, .ref pu, .ref sn, .ref im, .ref cs, .ref cl, .int (0 : Int32)])), (rr, .inr (6, [.ref ds, .ref ri, .int 0, .int 1, .int 0, .int 0])), (ds, .inr (3, [.int pg, .ref dl, .ref dr, .ref dt, .int (1 : Int32), .int (-1 : Int32), .int (0 : Int32)])), (so, .inr (8, [.ref rr, .ref s1, .ref s2, .ref s3, .ref s4, .ref s5, .ref s6, .int (0 : Int32), .int (0 : Int32), .int (-1 : Int32), .int (0 : Int32), .int (0 : Int32)])), (ho, .inl (cJ, 1, .inr (.inl g1)))] ∧ gx_E (va_A [(x, .inr (10, [.ref tp, .ref ds, .ref rr, .ref so, .ref pu, .ref sn, .ref im, .ref cs, .ref cl, .int (0 : Int32)])), (rr, .inr (6, [.ref ds, .ref ri, .int 0, .int 1, .int 0, .int 0])), (ds, .inr (3, [.int pg, .ref dl, .ref dr, .ref dt, .int (1 : Int32), .int (-1 : Int32), .int (0 : Int32)])), (so, .inr (8, [.ref rr, .ref s1, .ref s2, .ref s3, .ref s4, .ref s5, .ref s6, .int (0 : Int32), .int (0 : Int32), .int (-1 : Int32), .int (0 : Int32), .int (0 : Int32)])), (ho, .inl (cJ, 1, .inr (.inl g1)))] sz) U)) (va_Qi (fun r (_ : Unit) => r = (0 : Int32)) (fun (_ : Unit) t => va_P (dC, dI) vwCl [(ho, .inl (cJ, 1, .inr (.inl (vp_updL g1 (0 : Int32).toNatClampNeg ((-6 : Int32).toInt64)))))] t.heap ∧ va_K (dC, dI) vwCl [(cJ, .long)] t ∧ va_D (va_A [(x, .inr (10, [.ref tp, .ref ds, .ref rr, .ref so, .ref pu, .ref sn, .ref im, .ref cs, .ref cl, .int (0 : Int32)])), (rr, .inr (6, [.ref ds, .ref ri, .int 0, .int 1, .int 0, .int 0])), (ds, .inr (3, [.int pg, .ref dl, .ref dr, .ref dt, .int (1 : Int32), .int (-1 : Int32), .int (0 : Int32)])), (so, .inr (8, [.ref rr, .ref s1, .ref s2, .ref s3, .ref s4, .ref s5, .ref s6, .int (0 : Int32), .int (0 : Int32), .int (-1 : Int32), .int (0 : Int32), .int (0 : Int32)])), (ho, .inl (cJ, 1, .inr (.inl g1)))] sz) [(ho, .inl (cJ, 1, .inr (.inl (vp_updL g1 (0 : Int32).toNatClampNeg ((-6 : Int32).toInt64)))))]) (va_A [(x, .inr (10, [.ref tp, .ref ds, .ref rr, .ref so, .ref pu, .ref sn, .ref im, .ref cs, .ref cl, .int (0 : Int32)])), (rr, .inr (6, [.ref ds, .ref ri, .int 0, .int 1, .int 0, .int 0])), (ds, .inr (3, [.int pg, .ref dl, .ref dr, .ref dt, .int (1 : Int32), .int (-1 : Int32), .int (0 : Int32)])), (so, .inr (8, [.ref rr, .ref s1, .ref s2, .ref s3, .ref s4, .ref s5, .ref s6, .int (0 : Int32), .int (0 : Int32), .int (-1 : Int32), .int (0 : Int32), .int (0 : Int32)])), (ho, .inl (cJ, 1, .inr (.inl g1)))] sz)) 0 0 (va_A [(x, .inr (10, [.ref tp, .ref ds, .ref rr, .ref so, .ref pu, .ref sn, .ref im, .ref cs, .ref cl, .int (0 : Int32)])), (rr, .inr (6, [.ref ds, .ref ri, .int 0, .int 1, .int 0, .int 0])), (ds, .inr (3, [.int pg, .ref dl, .ref dr, .ref dt, .int (1 : Int32), .int (-1 : Int32), .int (0 : Int32)])), (so, .inr (8, [.ref rr, .ref s1, .ref s2, .ref s3, .ref s4, .ref s5, .ref s6, .int (0 : Int32), .int (0 : Int32), .int (-1 : Int32), .int (0 : Int32), .int (0 : Int32)])), (ho, .inl (cJ, 1, .inr (.inl g1)))] sz) := by
  refine va_MetW (cc := cL_vote) (maxL := 7) (ret := (some .int)) (hh := [(0, 12, 15, 25), (0, 12, 19, 13)]) (by decide) rfl ?_
  intro p e s m args below meth c s₁ B hml hv
  obtain ⟨rfl, hsz, hP, hK, hD0, hG⟩ := hv
  have hx := B.exec
  have hb := B.bytes
  have hr := B.returns
  have hts := atoms_spec (ws := wsL_vote) B.pre
  have hown : s.vm.findClass RL = some m.cls := findClass_of_methodNamed B.named
  have hlocks := B.notSynchronized
  have htab := vx_table (x := yL_vote) B (hts (.codeWith yL_vote cL_vote 7 (some .int) [(0, 12, 15, 25), (0, 12, 19, 13)]) List.mem_cons_self)
  subst hsz
  have hD := hD0.self (sz := s.heap.size)
  generalize hAe : va_A [(x, .inr (10, [.ref tp, .ref ds, .ref rr, .ref so, .ref pu, .ref sn, .ref im, .ref cs, .ref cl, .int (0 : Int32)])), (rr, .inr (6, [.ref ds, .ref ri, .int 0, .int 1, .int 0, .int 0])), (ds, .inr (3, [.int pg, .ref dl, .ref dr, .ref dt, .int (1 : Int32), .int (-1 : Int32), .int (0 : Int32)])), (so, .inr (8, [.ref rr, .ref s1, .ref s2, .ref s3, .ref s4, .ref s5, .ref s6, .int (0 : Int32), .int (0 : Int32), .int (-1 : Int32), .int (0 : Int32), .int (0 : Int32)])), (ho, .inl (cJ, 1, .inr (.inl g1)))] s.heap.size = A at hD hG ⊢
  have hA : ∀ q : Nat, s.heap.size ≤ q → A q := fun q h => by rw [← hAe]; exact Or.inr h
  have hS : va_S A s.heap s.heap [] := va_S.rf
  have hl := lv_entry ([.ref x, .int p0, .int p1, .long w2, .ref ho]) (n := 7) (Nat.le_of_ble_eq_true rfl)
  rw [lg_entry_eq]
  generalize (lg_sl ([.ref x, .int p0, .int p1, .long w2, .ref ho]) ++ List.replicate (7 - (lg_sl ([.ref x, .int p0, .int p1, .long w2, .ref ho])).length) Slot.unset).toArray = ls at hl ⊢
  have hl : lv_has ls 7 [(0, .ref x), (1, .int p0), (2, .int p1), (3, .long w2), (5, .ref ho)] := hl
  refine lv_aload hx hb dL_vote_0 (lv_at hl 4 rfl) ?_
  refine lv_iconst (v := 0) hx hb dL_vote_2 (by decide) ?_
  refine lv_aload_n hx hb dL_vote_3 rfl (lv_at hl 0 rfl) ?_
  refine lv_iload_n hx hb dL_vote_4 rfl (lv_at hl 1 rfl) ?_
  refine lv_iload_n hx hb dL_vote_5 rfl (lv_at hl 2 rfl) ?_
  refine lv_lload_n hx hb dL_vote_6 rfl (lv_at hl 3 rfl) ?_
  have hPc := hP.sub (ws' := [(x, .inr (10, [.ref tp, .ref ds, .ref rr, .ref so, .ref pu, .ref sn, .ref im, .ref cs, .ref cl, .int (0 : Int32)])), (rr, .inr (6, [.ref ds, .ref ri, .int 0, .int 1, .int 0, .int 0])), (ds, .inr (3, [.int pg, .ref dl, .ref dr, .ref dt, .int (1 : Int32), .int (-1 : Int32), .int (0 : Int32)])), (so, .inr (8, [.ref rr, .ref s1, .ref s2, .ref s3, .ref s4, .ref s5, .ref s6, .int (0 : Int32), .int (0 : Int32), .int (-1 : Int32), .int (0 : Int32), .int (0 : Int32)]))]) [0, 1, 2, 3] rfl
  have hKc := hK.sub (tys' := []) [] rfl
  refine vp_callSi (va_Run.run (va_runV (As := [.int p0, .int p1, .long w2]) (rest := [.int (0 : Int32), .ref ho]) ⟨hx, hb, hml, hown, hts⟩ (k_X8_vote_6 l dC dI x p0 p1 w2 rr ds so tp pu sn im cs cl ri pg dl dr dt s1 s2 s3 s4 s5 s6 hf0 hf1 hf2 hf3 hf4) (cwV 3 hts gL_vote_X8_vote rfl rfl rfl (by decide +kernel) ⟨Nat.le_of_ble_eq_true rfl, Nat.le_of_ble_eq_true rfl⟩) ⟨fun a U g mk q => by obtain ⟨q0, qP, qK, qG⟩ := q; exact ⟨q0, qP, va_K.moved (u := U) (U := U.calling g mk a) (Vm.Alike.refl U.vm) qK, qG.same rfl⟩, va_recv hK hP (ci := 10) (q := (RX8, TX8, 10)) rfl (q0 := 0) rfl, fun U hU hW => ⟨rfl, by rw [hU]; exact hPc, va_K.moved hW.alike hKc, hG.1.warm hW⟩⟩ rfl rfl hl.1 rfl (lv_room (Nat.le_of_ble_eq_true rfl)) dL_vote_7 ⟨Nat.le_of_ble_eq_true rfl, Nat.le_of_ble_eq_true rfl⟩)) (fun r_1 er_1 => ?_)
  subst er_1
  refine lv_i2l hx hb dL_vote_10 rfl ?_
  refine va_last hx hb hK hP hD hS 4 0 rfl rfl (by unfold vp_in; decide +kernel) dL_vote_11 (fun H locs hP hD hS => ?_)
  have hP : va_P (dC, dI) vwCl [(x, .inr (10, [.ref tp, .ref ds, .ref rr, .ref so, .ref pu, .ref sn, .ref im, .ref cs, .ref cl, .int (0 : Int32)])), (rr, .inr (6, [.ref ds, .ref ri, .int 0, .int 1, .int 0, .int 0])), (ds, .inr (3, [.int pg, .ref dl, .ref dr, .ref dt, .int (1 : Int32), .int (-1 : Int32), .int (0 : Int32)])), (so, .inr (8, [.ref rr, .ref s1, .ref s2, .ref s3, .ref s4, .ref s5, .ref s6, .int (0 : Int32), .int (0 : Int32), .int (-1 : Int32), .int (0 : Int32), .int (0 : Int32)])), (ho, .inl (cJ, 1, .inr (.inl (vp_updL g1 (0 : Int32).toNatClampNeg ((-6 : Int32).toInt64)))))] H := hP
  have hD : va_D A [(x, .inr (10, [.ref tp, .ref ds, .ref rr, .ref so, .ref pu, .ref sn, .ref im, .ref cs, .ref cl, .int (0 : Int32)])), (rr, .inr (6, [.ref ds, .ref ri, .int 0, .int 1, .int 0, .int 0])), (ds, .inr (3, [.int pg, .ref dl, .ref dr, .ref dt, .int (1 : Int32), .int (-1 : Int32), .int (0 : Int32)])), (so, .inr (8, [.ref rr, .ref s1, .ref s2, .ref s3, .ref s4, .ref s5, .ref s6, .int (0 : Int32), .int (0 : Int32), .int (-1 : Int32), .int (0 : Int32), .int (0 : Int32)])), (ho, .inl (cJ, 1, .inr (.inl (vp_updL g1 (0 : Int32).toNatClampNeg ((-6 : Int32).toInt64)))))] := hD
  refine lv_goto (tgt := 23) hx hb dL_vote_12 (by decide) ?_
  refine lv_iconst (v := 0) hx hb dL_vote_23 (by decide) ?_
  have hP := hP.sub (ws' := [(ho, .inl (cJ, 1, .inr (.inl (vp_updL g1 (0 : Int32).toNatClampNeg ((-6 : Int32).toInt64)))))]) [4] rfl
  have hD := hD.sub (ws' := [(ho, .inl (cJ, 1, .inr (.inl (vp_updL g1 (0 : Int32).toNatClampNeg ((-6 : Int32).toInt64)))))]) [4] (by decide) rfl
  have hK := hK.sub (tys' := [(cJ, .long)]) [0] rfl
  exact W.iret hx hb hr (fun t ht hW => ⟨⟨_, (), rfl, rfl, by rw [ht]; exact hP, va_K.moved hW.alike hK, hD⟩, hS.F ht⟩) hS.2.2 dL_vote_24

set_option maxHeartbeats 4000000 in
set_option maxRecDepth 100000 in
theorem k_X9_meant_2 (l : Launch) (dC : Nat → ClassId) (dI : Nat → Nat → Nat) (mo : Nat) (w2 : Int64) (hf0 : 0 ≤ lg_cmp w2 (-128)) (hf1 : 0 < lg_cmp w2 (-1)) : Met l yX9_meant wsX9_meant ({ frames := 0, cells := 0, slots := 0, locals := 0 }) (va_Pc [.ref mo, .long w2] (fun U => va_P (dC, dI) vwCl [] U.heap ∧ va_K (dC, dI) vwCl [] U)) (vp_Sl (fun r => r = w2)) 0 0 (fun _ => False) := by
  refine Met.ofW (cc := cX9_meant) (maxL := 4) (ret := (some .long)) (by decide) rfl ?_
  intro p e s m args below meth c s₁ B hml hv
  obtain ⟨rfl, hP, hK⟩ := hv
  have hx := B.exec
  have hb := B.bytes
  have hr := B.returns
  have hts := atoms_spec (ws := wsX9_meant) B.pre
  have hown : s.vm.findClass RX9 = some m.cls := findClass_of_methodNamed B.named
  have hlocks := B.notSynchronized
  have hl := lv_entry ([.ref mo, .long w2]) (n := 4) (Nat.le_of_ble_eq_true rfl)
  rw [lg_entry_eq]
  generalize (lg_sl ([.ref mo, .long w2]) ++ List.replicate (4 - (lg_sl ([.ref mo, .long w2])).length) Slot.unset).toArray = ls at hl ⊢
  have hl : lv_has ls 4 [(0, .ref mo), (1, .long w2)] := hl
  refine lv_lload_n hx hb dX9_meant_0 rfl (lv_at hl 1 rfl) ?_
  refine lv_ldc2 hx hb hown (hts (.constantLong RX9 296 (-128)) (by decide +kernel)) dX9_meant_1 ?_
  refine W.lcmp hx hb dX9_meant_4 ?_
  refine lv_if_lt (tgt := 51) hx hb dX9_meant_5 (by decide) (fun c_1 => ?_) (fun c_1 => ?_)
  · skip
    exact absurd c_1 (Int32.not_lt.mpr hf0)
  · skip
    refine lv_lload_n hx hb dX9_meant_8 rfl (lv_at hl 1 rfl) ?_
    refine lv_ldc2 hx hb hown (hts (.constantLong RX9 298 (-1)) (by decide +kernel)) dX9_meant_9 ?_
    refine W.lcmp hx hb dX9_meant_12 ?_
    refine lv_if_gt (tgt := 51) hx hb dX9_meant_13 (by decide) (fun c_2 => ?_) (fun c_2 => ?_)
    · skip
      refine lv_lload_n hx hb dX9_meant_51 rfl (lv_at hl 1 rfl) ?_
      exact W.lret hx hb hr (fun t ht hW => ⟨_, rfl, rfl, ht⟩) (fun q h => by cases h) dX9_meant_52
    · skip
      exact absurd hf1 c_2

set_option maxHeartbeats 4000000 in
set_option maxRecDepth 100000 in
theorem k_X9_blockRow_2 (l : Launch) (dC : Nat → ClassId) (dI : Nat → Nat → Nat) (mo : Nat) (w2 : Int64)  : Met l yX9_blockRow wsX9_blockRow ({ frames := 0, cells := 0, slots := 0, locals := 0 }) (va_Pc [.ref mo, .long w2, .int (0 : Int32)] (fun U => va_P (dC, dI) vwCl [] U.heap ∧ va_K (dC, dI) vwCl [] U)) (vp_Si (fun r => r = (-1 : Int32))) 0 0 (fun _ => False) := by
  refine Met.ofW (cc := cX9_blockRow) (maxL := 5) (ret := (some .int)) (by decide) rfl ?_
  intro p e s m args below meth c s₁ B hml hv
  obtain ⟨rfl, hP, hK⟩ := hv
  have hx := B.exec
  have hb := B.bytes
  have hr := B.returns
  have hts := atoms_spec (ws := wsX9_blockRow) B.pre
  have hown : s.vm.findClass RX9 = some m.cls := findClass_of_methodNamed B.named
  have hlocks := B.notSynchronized
  have hl := lv_entry ([.ref mo, .long w2, .int (0 : Int32)]) (n := 5) (Nat.le_of_ble_eq_true rfl)
  rw [lg_entry_eq]
  generalize (lg_sl ([.ref mo, .long w2, .int (0 : Int32)]) ++ List.replicate (5 - (lg_sl ([.ref mo, .long w2, .int (0 : Int32)])).length) Slot.unset).toArray = ls at hl ⊢
  have hl : lv_has ls 5 [(0, .ref mo), (1, .long w2), (3, .int (0 : Int32))] := hl
  refine lv_iconst (v := 0) hx hb dX9_blockRow_0 (by decide) ?_
  refine lv_istore (lv' := [(4, .int (0 : Int32)), (0, .ref mo), (1, .long w2), (3, .int (0 : Int32))]) hx hb dX9_blockRow_1 hl (by decide) rfl (fun ls hl => ?_)
  refine lv_iload hx hb dX9_blockRow_3 (lv_at hl 0 rfl) ?_
  refine lv_iload_n hx hb dX9_blockRow_5 rfl (lv_at hl 3 rfl) ?_
  refine lv_icmp_ge (tgt := 50) hx hb dX9_blockRow_6 (by decide) (fun c_1 => ?_) (fun c_1 => ?_)
  · skip
    refine lv_iconst (v := (-1)) hx hb dX9_blockRow_50 (by decide) ?_
    exact W.iret hx hb hr (fun t ht hW => ⟨_, rfl, rfl, ht⟩) (fun q h => by cases h) dX9_blockRow_51
  · skip
    exact absurd (by decide) c_1

set_option maxHeartbeats 4000000 in
set_option maxRecDepth 100000 in
theorem k_X9_vote_6 (l : Launch) (dC : Nat → ClassId) (dI : Nat → Nat → Nat) (mo : Nat) (p0 : Int32) (p1 : Int32) (w2 : Int64) (m_digestAt : Nat) (m_isGroup : Nat) (m_counts : Nat) (m_disk : Nat) (P : Nat) (m_tape : Nat) (m_slots : Nat) (m_leaves : Nat) (m_fresh : Nat) (m_versionRow : Nat) (m_state : Nat) (m_names : Nat) (m_keptRow : Nat) (m_inSlot : Nat) (m_inAt : Nat) (m_inSize : Nat) (m_inDigest : Nat) (d_digestAt : ClassId) (d_isGroup : ClassId) (d_counts : ClassId) (sz : Nat) (hf0 : 1 ≤ p0) (hf1 : p0 ≤ 1000000) (hf2 : 0 ≤ p1) (hf3 : p1 ≤ 1000000) (hf4 : 0 ≤ lg_cmp w2 (-128)) (hf5 : 0 < lg_cmp w2 (-1)) : Met l yX9_vote wsX9_vote ({ frames := 3, cells := 0, slots := 0, locals := 65 }) (va_Pc [.ref mo, .int p0, .int p1, .long w2] (fun U => U.heap.size = sz ∧ va_P (dC, dI) vwCl [(mo, .inr (11, [.ref m_disk, .int (nI P), .int ((8224 : Int32) + ((26 : Int32) * (nI P))), .int (1 : Int32), .int 0, .int (-1 : Int32), .int 0, .int (0 : Int32), .ref m_tape, .int 0, .ref m_slots, .ref m_leaves, .int 0, .int 0, .ref m_fresh, .int 0, .int 0, .int 0, .ref m_digestAt, .ref m_isGroup, .ref m_counts, .int 0, .int 0, .long 0, .int 0, .ref m_versionRow, .int 0, .long 0, .ref m_state, .ref m_names, .int 0, .ref m_keptRow, .int 0, .ref m_inSlot, .ref m_inAt, .ref m_inSize, .ref m_inDigest, .int 0])), (m_digestAt, .inl (d_digestAt, 128, .inr (.inl (fun _ => 0)))), (m_isGroup, .inl (d_isGroup, 128, .inl (fun _ => 0))), (m_counts, .inl (d_counts, 128, .inl (fun _ => 0)))] U.heap ∧ va_K (dC, dI) vwCl [(d_digestAt, .long), (d_isGroup, .boolean), (d_counts, .boolean)] U ∧ va_D (fun _ => True) [(mo, .inr (11, [.ref m_disk, .int (nI P), .int ((8224 : Int32) + ((26 : Int32) * (nI P))), .int (1 : Int32), .int 0, .int (-1 : Int32), .int 0, .int (0 : Int32), .ref m_tape, .int 0, .ref m_slots, .ref m_leaves, .int 0, .int 0, .ref m_fresh, .int 0, .int 0, .int 0, .ref m_digestAt, .ref m_isGroup, .ref m_counts, .int 0, .int 0, .long 0, .int 0, .ref m_versionRow, .int 0, .long 0, .ref m_state, .ref m_names, .int 0, .ref m_keptRow, .int 0, .ref m_inSlot, .ref m_inAt, .ref m_inSize, .ref m_inDigest, .int 0])), (m_digestAt, .inl (d_digestAt, 128, .inr (.inl (fun _ => 0)))), (m_isGroup, .inl (d_isGroup, 128, .inl (fun _ => 0))), (m_counts, .inl (d_counts, 128, .inl (fun _ => 0)))])) (va_Qi (fun r (_ : Unit) => r = (-6 : Int32)) (fun (_ : Unit) t => va_P (dC, dI) vwCl [(mo, .inr (11, [.ref m_disk, .int (nI P), .int ((8224 : Int32) + ((26 : Int32) * (nI P))), .int (1 : Int32), .int 0, .int (-1 : Int32), .int 0, .int (0 : Int32), .ref m_tape, .int 0, .ref m_slots, .ref m_leaves, .int 0, .int 0, .ref m_fresh, .int 0, .int (0 : Int32), .int (0 : Int32), .ref m_digestAt, .ref m_isGroup, .ref m_counts, .int (-1 : Int32), .int (0 : Int32), .long (0 : Int64), .int (0 : Int32), .ref m_versionRow, .int (0 : Int32), .long (0 : Int64), .ref m_state, .ref m_names, .int 0, .ref m_keptRow, .int 0, .ref m_inSlot, .ref m_inAt, .ref m_inSize, .ref m_inDigest, .int 0]))] t.heap ∧ va_K (dC, dI) vwCl [(d_digestAt, .long), (d_isGroup, .boolean), (d_counts, .boolean)] t ∧ va_D (va_A [(mo, .inr (11, [.ref m_disk, .int (nI P), .int ((8224 : Int32) + ((26 : Int32) * (nI P))), .int (1 : Int32), .int 0, .int (-1 : Int32), .int 0, .int (0 : Int32), .ref m_tape, .int 0, .ref m_slots, .ref m_leaves, .int 0, .int 0, .ref m_fresh, .int 0, .int 0, .int 0, .ref m_digestAt, .ref m_isGroup, .ref m_counts, .int 0, .int 0, .long 0, .int 0, .ref m_versionRow, .int 0, .long 0, .ref m_state, .ref m_names, .int 0, .ref m_keptRow, .int 0, .ref m_inSlot, .ref m_inAt, .ref m_inSize, .ref m_inDigest, .int 0])), (m_digestAt, .inl (d_digestAt, 128, .inr (.inl (fun _ => 0)))), (m_isGroup, .inl (d_isGroup, 128, .inl (fun _ => 0))), (m_counts, .inl (d_counts, 128, .inl (fun _ => 0)))] sz) [(mo, .inr (11, [.ref m_disk, .int (nI P), .int ((8224 : Int32) + ((26 : Int32) * (nI P))), .int (1 : Int32), .int 0, .int (-1 : Int32), .int 0, .int (0 : Int32), .ref m_tape, .int 0, .ref m_slots, .ref m_leaves, .int 0, .int 0, .ref m_fresh, .int 0, .int (0 : Int32), .int (0 : Int32), .ref m_digestAt, .ref m_isGroup, .ref m_counts, .int (-1 : Int32), .int (0 : Int32), .long (0 : Int64), .int (0 : Int32), .ref m_versionRow, .int (0 : Int32), .long (0 : Int64), .ref m_state, .ref m_names, .int 0, .ref m_keptRow, .int 0, .ref m_inSlot, .ref m_inAt, .ref m_inSize, .ref m_inDigest, .int 0]))]) (va_A [(mo, .inr (11, [.ref m_disk, .int (nI P), .int ((8224 : Int32) + ((26 : Int32) * (nI P))), .int (1 : Int32), .int 0, .int (-1 : Int32), .int 0, .int (0 : Int32), .ref m_tape, .int 0, .ref m_slots, .ref m_leaves, .int 0, .int 0, .ref m_fresh, .int 0, .int 0, .int 0, .ref m_digestAt, .ref m_isGroup, .ref m_counts, .int 0, .int 0, .long 0, .int 0, .ref m_versionRow, .int 0, .long 0, .ref m_state, .ref m_names, .int 0, .ref m_keptRow, .int 0, .ref m_inSlot, .ref m_inAt, .ref m_inSize, .ref m_inDigest, .int 0])), (m_digestAt, .inl (d_digestAt, 128, .inr (.inl (fun _ => 0)))), (m_isGroup, .inl (d_isGroup, 128, .inl (fun _ => 0))), (m_counts, .inl (d_counts, 128, .inl (fun _ => 0)))] sz)) 0 0 (va_A [(mo, .inr (11, [.ref m_disk, .int (nI P), .int ((8224 : Int32) + ((26 : Int32) * (nI P))), .int (1 : Int32), .int 0, .int (-1 : Int32), .int 0, .int (0 : Int32), .ref m_tape, .int 0, .ref m_slots, .ref m_leaves, .int 0, .int 0, .ref m_fresh, .int 0, .int 0, .int 0, .ref m_digestAt, .ref m_isGroup, .ref m_counts, .int 0, .int 0, .long 0, .int 0, .ref m_versionRow, .int 0, .long 0, .ref m_state, .ref m_names, .int 0, .ref m_keptRow, .int 0, .ref m_inSlot, .ref m_inAt, .ref m_inSize, .ref m_inDigest, .int 0])), (m_digestAt, .inl (d_digestAt, 128, .inr (.inl (fun _ => 0)))), (m_isGroup, .inl (d_isGroup, 128, .inl (fun _ => 0))), (m_counts, .inl (d_counts, 128, .inl (fun _ => 0)))] sz) := by
  refine Met.ofW (cc := cX9_vote) (maxL := 10) (ret := (some .int)) (by decide) rfl ?_
  intro p e s m args below meth c s₁ B hml hv
  obtain ⟨rfl, hsz, hP, hK, hD0⟩ := hv
  have hx := B.exec
  have hb := B.bytes
  have hr := B.returns
  have hts := atoms_spec (ws := wsX9_vote) B.pre
  have hown : s.vm.findClass RX9 = some m.cls := findClass_of_methodNamed B.named
  have hlocks := B.notSynchronized
  subst hsz
  have hD := hD0.self (sz := s.heap.size)
  generalize hAe : va_A [(mo, .inr (11, [.ref m_disk, .int (nI P), .int ((8224 : Int32) + ((26 : Int32) * (nI P))), .int (1 : Int32), .int 0, .int (-1 : Int32), .int 0, .int (0 : Int32), .ref m_tape, .int 0, .ref m_slots, .ref m_leaves, .int 0, .int 0, .ref m_fresh, .int 0, .int 0, .int 0, .ref m_digestAt, .ref m_isGroup, .ref m_counts, .int 0, .int 0, .long 0, .int 0, .ref m_versionRow, .int 0, .long 0, .ref m_state, .ref m_names, .int 0, .ref m_keptRow, .int 0, .ref m_inSlot, .ref m_inAt, .ref m_inSize, .ref m_inDigest, .int 0])), (m_digestAt, .inl (d_digestAt, 128, .inr (.inl (fun _ => 0)))), (m_isGroup, .inl (d_isGroup, 128, .inl (fun _ => 0))), (m_counts, .inl (d_counts, 128, .inl (fun _ => 0)))] s.heap.size = A at hD ⊢
  have hA : ∀ q : Nat, s.heap.size ≤ q → A q := fun q h => by rw [← hAe]; exact Or.inr h
  have hS : va_S A s.heap s.heap [] := va_S.rf
  have hl := lv_entry ([.ref mo, .int p0, .int p1, .long w2]) (n := 10) (Nat.le_of_ble_eq_true rfl)
  rw [lg_entry_eq]
  generalize (lg_sl ([.ref mo, .int p0, .int p1, .long w2]) ++ List.replicate (10 - (lg_sl ([.ref mo, .int p0, .int p1, .long w2])).length) Slot.unset).toArray = ls at hl ⊢
  have hl : lv_has ls 10 [(0, .ref mo), (1, .int p0), (2, .int p1), (3, .long w2)] := hl
  refine lv_aload_n hx hb dX9_vote_0 rfl (lv_at hl 0 rfl) ?_
  refine lv_aload_n hx hb dX9_vote_1 rfl (lv_at hl 0 rfl) ?_
  refine va_get (D := (dC, dI)) (ci := 11) (v := .int (1 : Int32)) (C := RX9) (T := TX9) (N := 38) hx hb hts (by decide +kernel) hown hK hP 0 rfl rfl 3 (by decide) (hts (.fieldLink RX9 72 "BlockLogModel" "on" "Z") (by decide +kernel)) (fun _ h9 => h9) rfl dX9_vote_2 ?_
  refine lv_if_ne (tgt := 12) hx hb dX9_vote_5 (by decide) (fun c_1 => ?_) (fun c_1 => ?_)
  · skip
    refine lv_iload_n hx hb dX9_vote_12 rfl (lv_at hl 1 rfl) ?_
    refine lv_iconst (v := 1) hx hb dX9_vote_13 (by decide) ?_
    refine lv_ldc hx hb hown (hts (.constant RX9 208 (1000000)) (by decide +kernel)) dX9_vote_14 ?_
    have hPc := hP.sub (ws' := []) [] rfl
    have hKc := hK.sub (tys' := []) [] rfl
    refine vp_callSi (va_Run.run (va_runS (As := [.int p0, .int (1 : Int32), .int (1000000 : Int32)]) (rest := [.ref mo]) ⟨hx, hb, hml, hown, hts⟩ (k_X9_within_3 l dC dI p0 (1 : Int32) (1000000 : Int32) hf0 hf1) (va_cwS 3 hts gX9_vote_X9_within rfl rfl rfl (by decide +kernel) ⟨Nat.le_of_ble_eq_true rfl, Nat.le_of_ble_eq_true rfl⟩) ⟨fun a U g mk q => by obtain ⟨q0, qP, qK⟩ := q; exact ⟨q0, qP, va_K.moved (u := U) (U := U.calling g mk a) (Vm.Alike.refl U.vm) qK⟩, fun U hU hW => ⟨rfl, by rw [hU]; exact hPc, va_K.moved hW.alike hKc⟩⟩ rfl rfl hl.1 rfl (lv_room (Nat.le_of_ble_eq_true rfl)) dX9_vote_16 ⟨Nat.le_of_ble_eq_true rfl, Nat.le_of_ble_eq_true rfl⟩)) (fun r_2 er_2 => ?_)
    subst er_2
    refine lv_if_eq (tgt := 32) hx hb dX9_vote_19 (by decide) (fun c_3 => ?_) (fun c_3 => ?_)
    · skip
      exact absurd c_3 (by decide)
    · skip
      refine lv_iload_n hx hb dX9_vote_22 rfl (lv_at hl 2 rfl) ?_
      refine lv_iconst (v := 0) hx hb dX9_vote_23 (by decide) ?_
      refine lv_ldc hx hb hown (hts (.constant RX9 208 (1000000)) (by decide +kernel)) dX9_vote_24 ?_
      have hPc := hP.sub (ws' := []) [] rfl
      have hKc := hK.sub (tys' := []) [] rfl
      refine vp_callSi (va_Run.run (va_runS (As := [.int p1, .int (0 : Int32), .int (1000000 : Int32)]) (rest := [.ref mo]) ⟨hx, hb, hml, hown, hts⟩ (k_X9_within_3 l dC dI p1 (0 : Int32) (1000000 : Int32) hf2 hf3) (va_cwS 3 hts gX9_vote_X9_within rfl rfl rfl (by decide +kernel) ⟨Nat.le_of_ble_eq_true rfl, Nat.le_of_ble_eq_true rfl⟩) ⟨fun a U g mk q => by obtain ⟨q0, qP, qK⟩ := q; exact ⟨q0, qP, va_K.moved (u := U) (U := U.calling g mk a) (Vm.Alike.refl U.vm) qK⟩, fun U hU hW => ⟨rfl, by rw [hU]; exact hPc, va_K.moved hW.alike hKc⟩⟩ rfl rfl hl.1 rfl (lv_room (Nat.le_of_ble_eq_true rfl)) dX9_vote_26 ⟨Nat.le_of_ble_eq_true rfl, Nat.le_of_ble_eq_true rfl⟩)) (fun r_4 er_4 => ?_)
      subst er_4
      refine lv_if_ne (tgt := 36) hx hb dX9_vote_29 (by decide) (fun c_5 => ?_) (fun c_5 => ?_)
      · skip
        refine lv_iconst (v := 0) hx hb dX9_vote_36 (by decide) ?_
        refine va_put (D := (dC, dI)) (ci := 11) (v := .int (0 : Int32)) (ty := .int) (C := RX9) (T := TX9) (N := 38) hx hb hts (by decide +kernel) tyX9 tyX9_ok nmX9 hown hK hP hD hS 0 rfl rfl 13 (by decide) (hts (.fieldLink RX9 91 "BlockLogModel" "thrown" "I") (by decide +kernel)) (fun _ h9 => h9) rfl (by decide +kernel) rfl rfl (Nat.le_of_ble_eq_true rfl) dX9_vote_37 (fun H locs hP hD hS => ?_)
        have hP : va_P (dC, dI) vwCl [(mo, .inr (11, [.ref m_disk, .int (nI P), .int ((8224 : Int32) + ((26 : Int32) * (nI P))), .int (1 : Int32), .int 0, .int (-1 : Int32), .int 0, .int (0 : Int32), .ref m_tape, .int 0, .ref m_slots, .ref m_leaves, .int 0, .int (0 : Int32), .ref m_fresh, .int 0, .int 0, .int 0, .ref m_digestAt, .ref m_isGroup, .ref m_counts, .int 0, .int 0, .long 0, .int 0, .ref m_versionRow, .int 0, .long 0, .ref m_state, .ref m_names, .int 0, .ref m_keptRow, .int 0, .ref m_inSlot, .ref m_inAt, .ref m_inSize, .ref m_inDigest, .int 0])), (m_digestAt, .inl (d_digestAt, 128, .inr (.inl (fun _ => 0)))), (m_isGroup, .inl (d_isGroup, 128, .inl (fun _ => 0))), (m_counts, .inl (d_counts, 128, .inl (fun _ => 0)))] H := hP
        have hD : va_D A [(mo, .inr (11, [.ref m_disk, .int (nI P), .int ((8224 : Int32) + ((26 : Int32) * (nI P))), .int (1 : Int32), .int 0, .int (-1 : Int32), .int 0, .int (0 : Int32), .ref m_tape, .int 0, .ref m_slots, .ref m_leaves, .int 0, .int (0 : Int32), .ref m_fresh, .int 0, .int 0, .int 0, .ref m_digestAt, .ref m_isGroup, .ref m_counts, .int 0, .int 0, .long 0, .int 0, .ref m_versionRow, .int 0, .long 0, .ref m_state, .ref m_names, .int 0, .ref m_keptRow, .int 0, .ref m_inSlot, .ref m_inAt, .ref m_inSize, .ref m_inDigest, .int 0])), (m_digestAt, .inl (d_digestAt, 128, .inr (.inl (fun _ => 0)))), (m_isGroup, .inl (d_isGroup, 128, .inl (fun _ => 0))), (m_counts, .inl (d_counts, 128, .inl (fun _ => 0)))] := hD
        refine lv_aload_n hx hb dX9_vote_40 rfl (lv_at hl 0 rfl) ?_
        refine va_get (D := (dC, dI)) (ci := 11) (v := .int (0 : Int32)) (C := RX9) (T := TX9) (N := 38) hx hb hts (by decide +kernel) hown hK hP 0 rfl rfl 13 (by decide) (hts (.fieldLink RX9 91 "BlockLogModel" "thrown" "I") (by decide +kernel)) (fun _ h9 => h9) rfl dX9_vote_41 ?_
        refine lv_if_le (tgt := 49) hx hb dX9_vote_44 (by decide) (fun c_6 => ?_) (fun c_6 => ?_)
        · skip
          refine lv_aload_n hx hb dX9_vote_49 rfl (lv_at hl 0 rfl) ?_
          have hPc := hP.sub (ws' := [(mo, .inr (11, [.ref m_disk, .int (nI P), .int ((8224 : Int32) + ((26 : Int32) * (nI P))), .int (1 : Int32), .int 0, .int (-1 : Int32), .int 0, .int (0 : Int32), .ref m_tape, .int 0, .ref m_slots, .ref m_leaves, .int 0, .int (0 : Int32), .ref m_fresh, .int 0, .int 0, .int 0, .ref m_digestAt, .ref m_isGroup, .ref m_counts, .int 0, .int 0, .long 0, .int 0, .ref m_versionRow, .int 0, .long 0, .ref m_state, .ref m_names, .int 0, .ref m_keptRow, .int 0, .ref m_inSlot, .ref m_inAt, .ref m_inSize, .ref m_inDigest, .int 0])), (m_digestAt, .inl (d_digestAt, 128, .inr (.inl (fun _ => 0)))), (m_isGroup, .inl (d_isGroup, 128, .inl (fun _ => 0))), (m_counts, .inl (d_counts, 128, .inl (fun _ => 0)))]) [0, 1, 2, 3] rfl
          have hKc := hK.sub (tys' := [(d_digestAt, .long), (d_isGroup, .boolean), (d_counts, .boolean)]) [0, 1, 2] rfl
          have hDc := hD.sub (ws' := [(mo, .inr (11, [.ref m_disk, .int (nI P), .int ((8224 : Int32) + ((26 : Int32) * (nI P))), .int (1 : Int32), .int 0, .int (-1 : Int32), .int 0, .int (0 : Int32), .ref m_tape, .int 0, .ref m_slots, .ref m_leaves, .int 0, .int (0 : Int32), .ref m_fresh, .int 0, .int 0, .int 0, .ref m_digestAt, .ref m_isGroup, .ref m_counts, .int 0, .int 0, .long 0, .int 0, .ref m_versionRow, .int 0, .long 0, .ref m_state, .ref m_names, .int 0, .ref m_keptRow, .int 0, .ref m_inSlot, .ref m_inAt, .ref m_inSize, .ref m_inDigest, .int 0])), (m_digestAt, .inl (d_digestAt, 128, .inr (.inl (fun _ => 0)))), (m_isGroup, .inl (d_isGroup, 128, .inl (fun _ => 0))), (m_counts, .inl (d_counts, 128, .inl (fun _ => 0)))]) [0, 1, 2, 3] (by decide) rfl
          have hFc := va_free (wc := [(mo, .inr (11, [.ref m_disk, .int (nI P), .int ((8224 : Int32) + ((26 : Int32) * (nI P))), .int (1 : Int32), .int 0, .int (-1 : Int32), .int 0, .int (0 : Int32), .ref m_tape, .int 0, .ref m_slots, .ref m_leaves, .int 0, .int (0 : Int32), .ref m_fresh, .int 0, .int 0, .int 0, .ref m_digestAt, .ref m_isGroup, .ref m_counts, .int 0, .int 0, .long 0, .int 0, .ref m_versionRow, .int 0, .long 0, .ref m_state, .ref m_names, .int 0, .ref m_keptRow, .int 0, .ref m_inSlot, .ref m_inAt, .ref m_inSize, .ref m_inDigest, .int 0])), (m_digestAt, .inl (d_digestAt, 128, .inr (.inl (fun _ => 0)))), (m_isGroup, .inl (d_isGroup, 128, .inl (fun _ => 0))), (m_counts, .inl (d_counts, 128, .inl (fun _ => 0)))]) hD hS hA [0, 1, 2, 3] rfl
          refine va_callv (va_runV (As := []) (rest := []) ⟨hx, hb, hml, hown, hts⟩ (k_X9_read_1 l dC dI mo m_digestAt m_isGroup m_counts m_disk P m_tape m_slots m_leaves m_fresh m_versionRow m_state m_names m_keptRow m_inSlot m_inAt m_inSize m_inDigest d_digestAt d_isGroup d_counts _) (cwV 0 hts gX9_vote_X9_read rfl rfl rfl (by decide +kernel) ⟨Nat.le_of_ble_eq_true rfl, Nat.le_of_ble_eq_true rfl⟩) ⟨fun a U g mk q => by obtain ⟨q0, q1, qP, qK, qD⟩ := q; exact ⟨q0, q1, qP, va_K.moved (u := U) (U := U.calling g mk a) (Vm.Alike.refl U.vm) qK, qD⟩, va_recv hK hP (ci := 11) (q := (RX9, TX9, 38)) rfl (q0 := 0) rfl, fun U hU hW => ⟨rfl, by rw [hU], by rw [hU]; exact hPc, va_K.moved hW.alike hKc, hDc.weaken (fun _ _ _ _ => trivial)⟩⟩ rfl rfl hl.1 rfl (lv_room (Nat.le_of_ble_eq_true rfl)) dX9_vote_50 ⟨Nat.le_of_ble_eq_true rfl, Nat.le_of_ble_eq_true rfl⟩) hS (fun q _ h => hFc q h) hFc (fun u t H1 locs ht hvm er_7 hB hz1 hk1 hS => ?_)
          obtain ⟨hP1, hK1, hD1⟩ := hB
          rw [ht] at hP1
          obtain ⟨hP, hD⟩ := va_join (wr := []) (w1 := [(mo, .inr (11, [.ref m_disk, .int (nI P), .int ((8224 : Int32) + ((26 : Int32) * (nI P))), .int (1 : Int32), .int 0, .int (-1 : Int32), .int 0, .int (0 : Int32), .ref m_tape, .int 0, .ref m_slots, .ref m_leaves, .int 0, .int 0, .ref m_fresh, .int 0, .int (0 : Int32), .int (0 : Int32), .ref m_digestAt, .ref m_isGroup, .ref m_counts, .int (-1 : Int32), .int (0 : Int32), .long (0 : Int64), .int (0 : Int32), .ref m_versionRow, .int (0 : Int32), .long (0 : Int64), .ref m_state, .ref m_names, .int 0, .ref m_keptRow, .int 0, .ref m_inSlot, .ref m_inAt, .ref m_inSize, .ref m_inDigest, .int 0])), (m_digestAt, .inl (d_digestAt, 128, .inr (.inl (zr_L 128)))), (m_isGroup, .inl (d_isGroup, 128, .inl (zr_Z 128))), (m_counts, .inl (d_counts, 128, .inl (zr_Z 128)))]) hP hD [0, 1, 2, 3] [] rfl rfl (by decide) (by decide) hk1 hFc hP1 hD1
          clear hPc hDc hFc hP1 hD1 hk1 hz1
          generalize H1 = H at hP hS ⊢
          have hP : va_P (dC, dI) vwCl [(mo, .inr (11, [.ref m_disk, .int (nI P), .int ((8224 : Int32) + ((26 : Int32) * (nI P))), .int (1 : Int32), .int 0, .int (-1 : Int32), .int 0, .int (0 : Int32), .ref m_tape, .int 0, .ref m_slots, .ref m_leaves, .int 0, .int 0, .ref m_fresh, .int 0, .int (0 : Int32), .int (0 : Int32), .ref m_digestAt, .ref m_isGroup, .ref m_counts, .int (-1 : Int32), .int (0 : Int32), .long (0 : Int64), .int (0 : Int32), .ref m_versionRow, .int (0 : Int32), .long (0 : Int64), .ref m_state, .ref m_names, .int 0, .ref m_keptRow, .int 0, .ref m_inSlot, .ref m_inAt, .ref m_inSize, .ref m_inDigest, .int 0])), (m_digestAt, .inl (d_digestAt, 128, .inr (.inl (zr_L 128)))), (m_isGroup, .inl (d_isGroup, 128, .inl (zr_Z 128))), (m_counts, .inl (d_counts, 128, .inl (zr_Z 128)))] H := hP
          have hD : va_D A [(mo, .inr (11, [.ref m_disk, .int (nI P), .int ((8224 : Int32) + ((26 : Int32) * (nI P))), .int (1 : Int32), .int 0, .int (-1 : Int32), .int 0, .int (0 : Int32), .ref m_tape, .int 0, .ref m_slots, .ref m_leaves, .int 0, .int 0, .ref m_fresh, .int 0, .int (0 : Int32), .int (0 : Int32), .ref m_digestAt, .ref m_isGroup, .ref m_counts, .int (-1 : Int32), .int (0 : Int32), .long (0 : Int64), .int (0 : Int32), .ref m_versionRow, .int (0 : Int32), .long (0 : Int64), .ref m_state, .ref m_names, .int 0, .ref m_keptRow, .int 0, .ref m_inSlot, .ref m_inAt, .ref m_inSize, .ref m_inDigest, .int 0])), (m_digestAt, .inl (d_digestAt, 128, .inr (.inl (zr_L 128)))), (m_isGroup, .inl (d_isGroup, 128, .inl (zr_Z 128))), (m_counts, .inl (d_counts, 128, .inl (zr_Z 128)))] := hD
          refine lv_aload_n hx hb dX9_vote_53 rfl (lv_at hl 0 rfl) ?_
          refine va_get (D := (dC, dI)) (ci := 11) (v := .int (0 : Int32)) (C := RX9) (T := TX9) (N := 38) hx hb hts (by decide +kernel) hown hK hP 0 rfl rfl 17 (by decide) (hts (.fieldLink RX9 176 "BlockLogModel" "needs" "Z") (by decide +kernel)) (fun _ h9 => h9) rfl dX9_vote_54 ?_
          refine lv_if_eq (tgt := 63) hx hb dX9_vote_57 (by decide) (fun c_8 => ?_) (fun c_8 => ?_)
          · skip
            refine lv_aload_n hx hb dX9_vote_63 rfl (lv_at hl 0 rfl) ?_
            refine lv_lload_n hx hb dX9_vote_64 rfl (lv_at hl 3 rfl) ?_
            have hPc := hP.sub (ws' := []) [] rfl
            have hKc := hK.sub (tys' := []) [] rfl
            refine vp_callSl (va_Run.run (va_runV (As := [.long w2]) (rest := []) ⟨hx, hb, hml, hown, hts⟩ (k_X9_meant_2 l dC dI mo w2 hf4 hf5) (cwV 1 hts gX9_vote_X9_meant rfl rfl rfl (by decide +kernel) ⟨Nat.le_of_ble_eq_true rfl, Nat.le_of_ble_eq_true rfl⟩) ⟨fun a U g mk q => by obtain ⟨q0, qP, qK⟩ := q; exact ⟨q0, qP, va_K.moved (u := U) (U := U.calling g mk a) (Vm.Alike.refl U.vm) qK⟩, va_recv hK hP (ci := 11) (q := (RX9, TX9, 38)) rfl (q0 := 0) rfl, fun U hU hW => ⟨rfl, by rw [hU]; exact hPc, va_K.moved hW.alike hKc⟩⟩ rfl rfl hl.1 rfl (lv_room (Nat.le_of_ble_eq_true rfl)) dX9_vote_65 ⟨Nat.le_of_ble_eq_true rfl, Nat.le_of_ble_eq_true rfl⟩)) (fun r_9 er_9 => ?_)
            replace er_9 := er_9.symm
            subst er_9
            refine lv_lstore (lv' := [(5, .long w2), (0, .ref mo), (1, .int p0), (2, .int p1), (3, .long w2)]) hx hb dX9_vote_68 hl (by decide) rfl (fun ls hl => ?_)
            refine lv_aload_n hx hb dX9_vote_70 rfl (lv_at hl 1 rfl) ?_
            refine lv_lload hx hb dX9_vote_71 (lv_at hl 0 rfl) ?_
            refine lv_aload_n hx hb dX9_vote_73 rfl (lv_at hl 1 rfl) ?_
            refine va_get (D := (dC, dI)) (ci := 11) (v := .int (0 : Int32)) (C := RX9) (T := TX9) (N := 38) hx hb hts (by decide +kernel) hown hK hP 0 rfl rfl 16 (by decide) (hts (.fieldLink RX9 167 "BlockLogModel" "many" "I") (by decide +kernel)) (fun _ h9 => h9) rfl dX9_vote_74 ?_
            have hPc := hP.sub (ws' := []) [] rfl
            have hKc := hK.sub (tys' := []) [] rfl
            refine vp_callSi (va_Run.run (va_runV (As := [.long w2, .int (0 : Int32)]) (rest := []) ⟨hx, hb, hml, hown, hts⟩ (k_X9_blockRow_2 l dC dI mo w2) (cwV 2 hts gX9_vote_X9_blockRow rfl rfl rfl (by decide +kernel) ⟨Nat.le_of_ble_eq_true rfl, Nat.le_of_ble_eq_true rfl⟩) ⟨fun a U g mk q => by obtain ⟨q0, qP, qK⟩ := q; exact ⟨q0, qP, va_K.moved (u := U) (U := U.calling g mk a) (Vm.Alike.refl U.vm) qK⟩, va_recv hK hP (ci := 11) (q := (RX9, TX9, 38)) rfl (q0 := 0) rfl, fun U hU hW => ⟨rfl, by rw [hU]; exact hPc, va_K.moved hW.alike hKc⟩⟩ rfl rfl hl.1 rfl (lv_room (Nat.le_of_ble_eq_true rfl)) dX9_vote_77 ⟨Nat.le_of_ble_eq_true rfl, Nat.le_of_ble_eq_true rfl⟩)) (fun r_10 er_10 => ?_)
            subst er_10
            refine lv_istore (lv' := [(7, .int (-1 : Int32)), (5, .long w2), (0, .ref mo), (1, .int p0), (2, .int p1), (3, .long w2)]) hx hb dX9_vote_80 hl (by decide) rfl (fun ls hl => ?_)
            refine lv_iload hx hb dX9_vote_82 (lv_at hl 0 rfl) ?_
            refine lv_iconst (v := (-1)) hx hb dX9_vote_84 (by decide) ?_
            refine lv_icmp_eq (tgt := 98) hx hb dX9_vote_85 (by decide) (fun c_11 => ?_) (fun c_11 => ?_)
            · skip
              refine lv_bipush (v := (-6)) hx hb dX9_vote_98 (by decide) ?_
              have hP := hP.sub (ws' := [(mo, .inr (11, [.ref m_disk, .int (nI P), .int ((8224 : Int32) + ((26 : Int32) * (nI P))), .int (1 : Int32), .int 0, .int (-1 : Int32), .int 0, .int (0 : Int32), .ref m_tape, .int 0, .ref m_slots, .ref m_leaves, .int 0, .int 0, .ref m_fresh, .int 0, .int (0 : Int32), .int (0 : Int32), .ref m_digestAt, .ref m_isGroup, .ref m_counts, .int (-1 : Int32), .int (0 : Int32), .long (0 : Int64), .int (0 : Int32), .ref m_versionRow, .int (0 : Int32), .long (0 : Int64), .ref m_state, .ref m_names, .int 0, .ref m_keptRow, .int 0, .ref m_inSlot, .ref m_inAt, .ref m_inSize, .ref m_inDigest, .int 0]))]) [0] rfl
              have hD := hD.sub (ws' := [(mo, .inr (11, [.ref m_disk, .int (nI P), .int ((8224 : Int32) + ((26 : Int32) * (nI P))), .int (1 : Int32), .int 0, .int (-1 : Int32), .int 0, .int (0 : Int32), .ref m_tape, .int 0, .ref m_slots, .ref m_leaves, .int 0, .int 0, .ref m_fresh, .int 0, .int (0 : Int32), .int (0 : Int32), .ref m_digestAt, .ref m_isGroup, .ref m_counts, .int (-1 : Int32), .int (0 : Int32), .long (0 : Int64), .int (0 : Int32), .ref m_versionRow, .int (0 : Int32), .long (0 : Int64), .ref m_state, .ref m_names, .int 0, .ref m_keptRow, .int 0, .ref m_inSlot, .ref m_inAt, .ref m_inSize, .ref m_inDigest, .int 0]))]) [0] (by decide) rfl
              have hK := hK.sub (tys' := [(d_digestAt, .long), (d_isGroup, .boolean), (d_counts, .boolean)]) [0, 1, 2] rfl
              exact W.iret hx hb hr (fun t ht hW => ⟨⟨_, (), rfl, rfl, by rw [ht]; exact hP, va_K.moved hW.alike hK, hD⟩, hS.F ht⟩) hS.2.2 dX9_vote_100
            · skip
              exact absurd (by decide) c_11
          · skip
            exact absurd (by decide) c_8
        · skip
          exact absurd (by decide) c_6
      · skip
        exact absurd c_5 (by decide)
  · skip
    exact absurd c_1 (by decide)

set_option maxHeartbeats 4000000 in
set_option maxRecDepth 100000 in
theorem k_X6_meant_3 (l : Launch) (dC : Nat → ClassId) (dI : Nat → Nat → Nat) (so : Nat) (w2 : Int64) (hf0 : lg_cmp w2 (0) < 0) (hf1 : lg_cmp w2 (-128) < 0) : Met l yX6_meant wsX6_meant ({ frames := 0, cells := 0, slots := 0, locals := 0 }) (va_Pc [.ref so, .long w2] (fun U => va_P (dC, dI) vwCl [] U.heap ∧ va_K (dC, dI) vwCl [] U)) (vp_Sl (fun r => r = w2)) 0 0 (fun _ => False) := by
  refine Met.ofW (cc := cX6_meant) (maxL := 3) (ret := (some .long)) (by decide) rfl ?_
  intro p e s m args below meth c s₁ B hml hv
  obtain ⟨rfl, hP, hK⟩ := hv
  have hx := B.exec
  have hb := B.bytes
  have hr := B.returns
  have hts := atoms_spec (ws := wsX6_meant) B.pre
  have hown : s.vm.findClass RX6 = some m.cls := findClass_of_methodNamed B.named
  have hlocks := B.notSynchronized
  have hl := lv_entry ([.ref so, .long w2]) (n := 3) (Nat.le_of_ble_eq_true rfl)
  rw [lg_entry_eq]
  generalize (lg_sl ([.ref so, .long w2]) ++ List.replicate (3 - (lg_sl ([.ref so, .long w2])).length) Slot.unset).toArray = ls at hl ⊢
  have hl : lv_has ls 3 [(0, .ref so), (1, .long w2)] := hl
  refine lv_lload_n hx hb dX6_meant_0 rfl (lv_at hl 1 rfl) ?_
  refine lv_lconst (v := 0) hx hb dX6_meant_1 (by decide) ?_
  refine W.lcmp hx hb dX6_meant_2 ?_
  refine lv_if_ge (tgt := 27) hx hb dX6_meant_3 (by decide) (fun c_1 => ?_) (fun c_1 => ?_)
  · skip
    exact absurd c_1 (Int32.not_le.mpr hf0)
  · skip
    refine lv_lload_n hx hb dX6_meant_6 rfl (lv_at hl 1 rfl) ?_
    refine lv_ldc2 hx hb hown (hts (.constantLong RX6 119 (-128)) (by decide +kernel)) dX6_meant_7 ?_
    refine W.lcmp hx hb dX6_meant_10 ?_
    refine lv_if_lt (tgt := 27) hx hb dX6_meant_11 (by decide) (fun c_2 => ?_) (fun c_2 => ?_)
    · skip
      refine lv_lload_n hx hb dX6_meant_27 rfl (lv_at hl 1 rfl) ?_
      exact W.lret hx hb hr (fun t ht hW => ⟨_, rfl, rfl, ht⟩) (fun q h => by cases h) dX6_meant_28
    · skip
      exact absurd hf1 c_2

set_option maxHeartbeats 4000000 in
set_option maxRecDepth 100000 in
theorem k_X8_vote_7 (l : Launch) (dC : Nat → ClassId) (dI : Nat → Nat → Nat) (x : Nat) (p0 : Int32) (p1 : Int32) (w2 : Int64) (rr : Nat) (ds : Nat) (so : Nat) (tp : Nat) (pu : Nat) (sn : Nat) (im : Nat) (cs : Nat) (cl : Nat) (ri : Nat) (pg : Int32) (dl : Nat) (dr : Nat) (dt : Nat) (s1 : Nat) (s2 : Nat) (s3 : Nat) (s4 : Nat) (s5 : Nat) (s6 : Nat) (hf0 : 1 ≤ p0) (hf1 : p0 ≤ 1000000) (hf2 : 0 ≤ p1) (hf3 : p1 ≤ 1000000) (hf4 : lg_cmp w2 (0) < 0) (hf5 : lg_cmp w2 (-128) < 0) : Met l yX8_vote wsX8_vote ({ frames := 2, cells := 0, slots := 0, locals := 40 }) (va_Pc [.ref x, .int p0, .int p1, .long w2] (fun U => va_P (dC, dI) vwCl [(x, .inr (10, [.ref tp, .ref ds, .ref rr, .ref so, .ref pu, .ref sn, .ref im, .ref cs, .ref cl, .int (0 : Int32)])), (rr, .inr (6, [.ref ds, .ref ri, .int 0, .int 1, .int 0, .int 0])), (ds, .inr (3, [.int pg, .ref dl, .ref dr, .ref dt, .int (1 : Int32), .int (-1 : Int32), .int (0 : Int32)])), (so, .inr (8, [.ref rr, .ref s1, .ref s2, .ref s3, .ref s4, .ref s5, .ref s6, .int (0 : Int32), .int (0 : Int32), .int (-1 : Int32), .int (0 : Int32), .int (0 : Int32)]))] U.heap ∧ va_K (dC, dI) vwCl [] U ∧ gx_W U)) (vp_Si (fun r => r = (-6 : Int32))) 0 0 (fun _ => False) := by
  refine Met.ofW (cc := cX8_vote) (maxL := 11) (ret := (some .int)) (by decide) rfl ?_
  intro p e s m args below meth c s₁ B hml hv
  obtain ⟨rfl, hP, hK, hG⟩ := hv
  have hx := B.exec
  have hb := B.bytes
  have hr := B.returns
  have hts := atoms_spec (ws := wsX8_vote) B.pre
  have hown : s.vm.findClass RX8 = some m.cls := findClass_of_methodNamed B.named
  have hlocks := B.notSynchronized
  have hl := lv_entry ([.ref x, .int p0, .int p1, .long w2]) (n := 11) (Nat.le_of_ble_eq_true rfl)
  rw [lg_entry_eq]
  generalize (lg_sl ([.ref x, .int p0, .int p1, .long w2]) ++ List.replicate (11 - (lg_sl ([.ref x, .int p0, .int p1, .long w2])).length) Slot.unset).toArray = ls at hl ⊢
  have hl : lv_has ls 11 [(0, .ref x), (1, .int p0), (2, .int p1), (3, .long w2)] := hl
  refine lv_aload_n hx hb dX8_vote_0 rfl (lv_at hl 0 rfl) ?_
  have hPc := hP.sub (ws' := [(x, .inr (10, [.ref tp, .ref ds, .ref rr, .ref so, .ref pu, .ref sn, .ref im, .ref cs, .ref cl, .int (0 : Int32)])), (ds, .inr (3, [.int pg, .ref dl, .ref dr, .ref dt, .int (1 : Int32), .int (-1 : Int32), .int (0 : Int32)]))]) [0, 2] rfl
  have hKc := hK.sub (tys' := []) [] rfl
  refine va_csv (va_Run.run (va_runV (As := []) (rest := []) ⟨hx, hb, hml, hown, hts⟩ (k_X8_demandPower_1 l dC dI x ds tp rr so pu sn im cs cl pg dl dr dt) (cwV 0 hts gX8_vote_X8_demandPower rfl rfl rfl (by decide +kernel) ⟨Nat.le_of_ble_eq_true rfl, Nat.le_of_ble_eq_true rfl⟩) ⟨fun a U g mk q => by obtain ⟨q0, qP, qK, qG⟩ := q; exact ⟨q0, qP, va_K.moved (u := U) (U := U.calling g mk a) (Vm.Alike.refl U.vm) qK, qG.same rfl⟩, va_recv hK hP (ci := 10) (q := (RX8, TX8, 10)) rfl (q0 := 0) rfl, fun U hU hW => ⟨rfl, by rw [hU]; exact hPc, va_K.moved hW.alike hKc, hG.warm hW⟩⟩ rfl rfl hl.1 rfl (lv_room (Nat.le_of_ble_eq_true rfl)) dX8_vote_1 ⟨Nat.le_of_ble_eq_true rfl, Nat.le_of_ble_eq_true rfl⟩)) (fun _ => ?_)
  refine lv_iload_n hx hb dX8_vote_4 rfl (lv_at hl 1 rfl) ?_
  have hPc := hP.sub (ws' := []) [] rfl
  have hKc := hK.sub (tys' := []) [] rfl
  refine va_csv (va_Run.run (va_runS (As := [.int p0]) (rest := []) ⟨hx, hb, hml, hown, hts⟩ (k_X8_demandHeight_3 l dC dI p0 hf0 hf1) (va_cwS 1 hts gX8_vote_X8_demandHeight rfl rfl rfl (by decide +kernel) ⟨Nat.le_of_ble_eq_true rfl, Nat.le_of_ble_eq_true rfl⟩) ⟨fun a U g mk q => by obtain ⟨q0, qP, qK⟩ := q; exact ⟨q0, qP, va_K.moved (u := U) (U := U.calling g mk a) (Vm.Alike.refl U.vm) qK⟩, fun U hU hW => ⟨rfl, by rw [hU]; exact hPc, va_K.moved hW.alike hKc⟩⟩ rfl rfl hl.1 rfl (lv_room (Nat.le_of_ble_eq_true rfl)) dX8_vote_5 ⟨Nat.le_of_ble_eq_true rfl, Nat.le_of_ble_eq_true rfl⟩)) (fun _ => ?_)
  refine lv_iload_n hx hb dX8_vote_8 rfl (lv_at hl 2 rfl) ?_
  refine lv_if_lt (tgt := 18) hx hb dX8_vote_9 (by decide) (fun c_3 => ?_) (fun c_3 => ?_)
  · skip
    exact absurd c_3 (Int32.not_lt.mpr hf2)
  · skip
    refine lv_iload_n hx hb dX8_vote_12 rfl (lv_at hl 2 rfl) ?_
    refine lv_ldc hx hb hown (hts (.constant RX8 163 (1000000)) (by decide +kernel)) dX8_vote_13 ?_
    refine lv_icmp_le (tgt := 28) hx hb dX8_vote_15 (by decide) (fun c_4 => ?_) (fun c_4 => ?_)
    · skip
      refine lv_aload_n hx hb dX8_vote_28 rfl (lv_at hl 0 rfl) ?_
      refine va_get (D := (dC, dI)) (ci := 10) (v := .ref rr) (C := RX8) (T := TX8) (N := 10) hx hb hts (by decide +kernel) hown hK hP 0 rfl rfl 2 (by decide) (hts (.fieldLink RX8 31 "BlockLog" "rows" "LBlockLog$Rows;") (by decide +kernel)) (fun _ h9 => h9) rfl dX8_vote_29 ?_
      have hPc := hP.sub (ws' := [(rr, .inr (6, [.ref ds, .ref ri, .int 0, .int 1, .int 0, .int 0]))]) [1] rfl
      have hKc := hK.sub (tys' := []) [] rfl
      refine vp_callSi (va_Run.run (va_runV (As := []) (rest := []) ⟨hx, hb, hml, hown, hts⟩ (k_X4_inNeed_1 l dC dI rr ds ri) (cwV 0 hts gX8_vote_X4_inNeed rfl rfl rfl (by decide +kernel) ⟨Nat.le_of_ble_eq_true rfl, Nat.le_of_ble_eq_true rfl⟩) ⟨fun a U g mk q => by obtain ⟨q0, qP, qK⟩ := q; exact ⟨q0, qP, va_K.moved (u := U) (U := U.calling g mk a) (Vm.Alike.refl U.vm) qK⟩, va_recv hK hP (ci := 6) (q := (RX4, TX4, 6)) rfl (q0 := 1) rfl, fun U hU hW => ⟨rfl, by rw [hU]; exact hPc, va_K.moved hW.alike hKc⟩⟩ rfl rfl hl.1 rfl (lv_room (Nat.le_of_ble_eq_true rfl)) dX8_vote_32 ⟨Nat.le_of_ble_eq_true rfl, Nat.le_of_ble_eq_true rfl⟩)) (fun r_5 er_5 => ?_)
      subst er_5
      refine lv_if_eq (tgt := 41) hx hb dX8_vote_35 (by decide) (fun c_6 => ?_) (fun c_6 => ?_)
      · skip
        refine lv_aload_n hx hb dX8_vote_41 rfl (lv_at hl 0 rfl) ?_
        refine va_get (D := (dC, dI)) (ci := 10) (v := .ref so) (C := RX8) (T := TX8) (N := 10) hx hb hts (by decide +kernel) hown hK hP 0 rfl rfl 3 (by decide) (hts (.fieldLink RX8 40 "BlockLog" "story" "LBlockLog$Story;") (by decide +kernel)) (fun _ h9 => h9) rfl dX8_vote_42 ?_
        refine lv_lload_n hx hb dX8_vote_45 rfl (lv_at hl 3 rfl) ?_
        have hPc := hP.sub (ws' := []) [] rfl
        have hKc := hK.sub (tys' := []) [] rfl
        refine vp_callSl (va_Run.run (va_runV (As := [.long w2]) (rest := []) ⟨hx, hb, hml, hown, hts⟩ (k_X6_meant_3 l dC dI so w2 hf4 hf5) (cwV 1 hts gX8_vote_X6_meant rfl rfl rfl (by decide +kernel) ⟨Nat.le_of_ble_eq_true rfl, Nat.le_of_ble_eq_true rfl⟩) ⟨fun a U g mk q => by obtain ⟨q0, qP, qK⟩ := q; exact ⟨q0, qP, va_K.moved (u := U) (U := U.calling g mk a) (Vm.Alike.refl U.vm) qK⟩, va_recv hK hP (ci := 8) (q := (RX6, TX6, 12)) rfl (q0 := 3) rfl, fun U hU hW => ⟨rfl, by rw [hU]; exact hPc, va_K.moved hW.alike hKc⟩⟩ rfl rfl hl.1 rfl (lv_room (Nat.le_of_ble_eq_true rfl)) dX8_vote_46 ⟨Nat.le_of_ble_eq_true rfl, Nat.le_of_ble_eq_true rfl⟩)) (fun r_7 er_7 => ?_)
        replace er_7 := er_7.symm
        subst er_7
        refine lv_lstore (lv' := [(5, .long w2), (0, .ref x), (1, .int p0), (2, .int p1), (3, .long w2)]) hx hb dX8_vote_49 hl (by decide) rfl (fun ls hl => ?_)
        refine lv_aload_n hx hb dX8_vote_51 rfl (lv_at hl 1 rfl) ?_
        refine va_get (D := (dC, dI)) (ci := 10) (v := .ref so) (C := RX8) (T := TX8) (N := 10) hx hb hts (by decide +kernel) hown hK hP 0 rfl rfl 3 (by decide) (hts (.fieldLink RX8 40 "BlockLog" "story" "LBlockLog$Story;") (by decide +kernel)) (fun _ h9 => h9) rfl dX8_vote_52 ?_
        refine lv_lload hx hb dX8_vote_55 (lv_at hl 0 rfl) ?_
        have hPc := hP.sub (ws' := [(so, .inr (8, [.ref rr, .ref s1, .ref s2, .ref s3, .ref s4, .ref s5, .ref s6, .int (0 : Int32), .int (0 : Int32), .int (-1 : Int32), .int (0 : Int32), .int (0 : Int32)]))]) [3] rfl
        have hKc := hK.sub (tys' := []) [] rfl
        refine vp_callSi (va_Run.run (va_runV (As := [.long w2]) (rest := []) ⟨hx, hb, hml, hown, hts⟩ (k_X6_blockRow_2 l dC dI so w2 rr s1 s2 s3 s4 s5 s6) (cwV 1 hts gX8_vote_X6_blockRow rfl rfl rfl (by decide +kernel) ⟨Nat.le_of_ble_eq_true rfl, Nat.le_of_ble_eq_true rfl⟩) ⟨fun a U g mk q => by obtain ⟨q0, qP, qK⟩ := q; exact ⟨q0, qP, va_K.moved (u := U) (U := U.calling g mk a) (Vm.Alike.refl U.vm) qK⟩, va_recv hK hP (ci := 8) (q := (RX6, TX6, 12)) rfl (q0 := 3) rfl, fun U hU hW => ⟨rfl, by rw [hU]; exact hPc, va_K.moved hW.alike hKc⟩⟩ rfl rfl hl.1 rfl (lv_room (Nat.le_of_ble_eq_true rfl)) dX8_vote_57 ⟨Nat.le_of_ble_eq_true rfl, Nat.le_of_ble_eq_true rfl⟩)) (fun r_8 er_8 => ?_)
        subst er_8
        refine lv_istore (lv' := [(7, .int (-1 : Int32)), (5, .long w2), (0, .ref x), (1, .int p0), (2, .int p1), (3, .long w2)]) hx hb dX8_vote_60 hl (by decide) rfl (fun ls hl => ?_)
        refine lv_iload hx hb dX8_vote_62 (lv_at hl 0 rfl) ?_
        refine lv_iconst (v := (-1)) hx hb dX8_vote_64 (by decide) ?_
        refine lv_icmp_eq (tgt := 81) hx hb dX8_vote_65 (by decide) (fun c_9 => ?_) (fun c_9 => ?_)
        · skip
          refine lv_bipush (v := (-6)) hx hb dX8_vote_81 (by decide) ?_
          exact W.iret hx hb hr (fun t ht hW => ⟨_, rfl, rfl, ht⟩) (fun q h => by cases h) dX8_vote_83
        · skip
          exact absurd (by decide) c_9
      · skip
        exact absurd (by decide) c_6
    · skip
      exact absurd hf3 c_4

set_option maxHeartbeats 4000000 in
set_option maxRecDepth 100000 in
theorem k_L_vote_7 (l : Launch) (dC : Nat → ClassId) (dI : Nat → Nat → Nat) (x : Nat) (p0 : Int32) (p1 : Int32) (w2 : Int64) (ho : Nat) (rr : Nat) (ds : Nat) (so : Nat) (tp : Nat) (pu : Nat) (sn : Nat) (im : Nat) (cs : Nat) (cl : Nat) (ri : Nat) (pg : Int32) (dl : Nat) (dr : Nat) (dt : Nat) (s1 : Nat) (s2 : Nat) (s3 : Nat) (s4 : Nat) (s5 : Nat) (s6 : Nat) (cJ : ClassId) (g1 : Nat → Int64) (sz : Nat) (hf0 : 1 ≤ p0) (hf1 : p0 ≤ 1000000) (hf2 : 0 ≤ p1) (hf3 : p1 ≤ 1000000) (hf4 : lg_cmp w2 (0) < 0) (hf5 : lg_cmp w2 (-128) < 0) : Met l yL_vote wsL_vote ({ frames := 3, cells := 0, slots := 0, locals := 70 }) (va_Pc [.ref x, .int p0, .int p1, .long w2, .ref ho] (fun U => U.heap.size = sz ∧ va_P (dC, dI) vwCl [(x, .inr (10, [.ref tp, .ref ds, .ref rr, .ref so, .ref pu, .ref sn, .ref im, .ref cs, .ref cl, .int (0 : Int32)])), (rr, .inr (6, [.ref ds, .ref ri, .int 0, .int 1, .int 0, .int 0])), (ds, .inr (3, [.int pg, .ref dl, .ref dr, .ref dt, .int (1 : Int32), .int (-1 : Int32), .int (0 : Int32)])), (so, .inr (8, [.ref rr, .ref s1, .ref s2, .ref s3, .ref s4, .ref s5, .ref s6, .int (0 : Int32), .int (0 : Int32), .int (-1 : Int32), .int (0 : Int32), .int (0 : Int32)])), (ho, .inl (cJ, 1, .inr (.inl g1)))] U.heap ∧ va_K (dC, dI) vwCl [(cJ, .long)] U ∧ va_D (fun _ => True) [(x, .inr (10, [.ref tp, .ref ds, .ref rr, .ref so, .ref pu, .ref sn, .ref im, .ref cs, .ref cl, .int (0 : Int32)])), (rr, .inr (6, [.ref ds, .ref ri, .int 0, .int 1, .int 0, .int 0])), (ds, .inr (3, [.int pg, .ref dl, .ref dr, .ref dt, .int (1 : Int32), .int (-1 : Int32), .int (0 : Int32)])), (so, .inr (8, [.ref rr, .ref s1, .ref s2, .ref s3, .ref s4, .ref s5, .ref s6, .int (0 : Int32), .int (0 : Int32), .int (-1 : Int32), .int (0 : Int32), .int (0 : Int32)])), (ho, .inl (cJ, 1, .inr (.inl g1)))] ∧ gx_E (va_A [(x, .inr (10, [.ref tp, .ref ds, .ref rr, .ref so, .ref pu, .ref sn, .ref im, .ref cs, .ref cl, .int (0 : Int32)])), (rr, .inr (6, [.ref ds, .ref ri, .int 0, .int 1, .int 0, .int 0])), (ds, .inr (3, [.int pg, .ref dl, .ref dr, .ref dt, .int (1 : Int32), .int (-1 : Int32), .int (0 : Int32)])), (so, .inr (8, [.ref rr, .ref s1, .ref s2, .ref s3, .ref s4, .ref s5, .ref s6, .int (0 : Int32), .int (0 : Int32), .int (-1 : Int32), .int (0 : Int32), .int (0 : Int32)])), (ho, .inl (cJ, 1, .inr (.inl g1)))] sz) U)) (va_Qi (fun r (_ : Unit) => r = (0 : Int32)) (fun (_ : Unit) t => va_P (dC, dI) vwCl [(ho, .inl (cJ, 1, .inr (.inl (vp_updL g1 (0 : Int32).toNatClampNeg ((-6 : Int32).toInt64)))))] t.heap ∧ va_K (dC, dI) vwCl [(cJ, .long)] t ∧ va_D (va_A [(x, .inr (10, [.ref tp, .ref ds, .ref rr, .ref so, .ref pu, .ref sn, .ref im, .ref cs, .ref cl, .int (0 : Int32)])), (rr, .inr (6, [.ref ds, .ref ri, .int 0, .int 1, .int 0, .int 0])), (ds, .inr (3, [.int pg, .ref dl, .ref dr, .ref dt, .int (1 : Int32), .int (-1 : Int32), .int (0 : Int32)])), (so, .inr (8, [.ref rr, .ref s1, .ref s2, .ref s3, .ref s4, .ref s5, .ref s6, .int (0 : Int32), .int (0 : Int32), .int (-1 : Int32), .int (0 : Int32), .int (0 : Int32)])), (ho, .inl (cJ, 1, .inr (.inl g1)))] sz) [(ho, .inl (cJ, 1, .inr (.inl (vp_updL g1 (0 : Int32).toNatClampNeg ((-6 : Int32).toInt64)))))]) (va_A [(x, .inr (10, [.ref tp, .ref ds, .ref rr, .ref so, .ref pu, .ref sn, .ref im, .ref cs, .ref cl, .int (0 : Int32)])), (rr, .inr (6, [.ref ds, .ref ri, .int 0, .int 1, .int 0, .int 0])), (ds, .inr (3, [.int pg, .ref dl, .ref dr, .ref dt, .int (1 : Int32), .int (-1 : Int32), .int (0 : Int32)])), (so, .inr (8, [.ref rr, .ref s1, .ref s2, .ref s3, .ref s4, .ref s5, .ref s6, .int (0 : Int32), .int (0 : Int32), .int (-1 : Int32), .int (0 : Int32), .int (0 : Int32)])), (ho, .inl (cJ, 1, .inr (.inl g1)))] sz)) 0 0 (va_A [(x, .inr (10, [.ref tp, .ref ds, .ref rr, .ref so, .ref pu, .ref sn, .ref im, .ref cs, .ref cl, .int (0 : Int32)])), (rr, .inr (6, [.ref ds, .ref ri, .int 0, .int 1, .int 0, .int 0])), (ds, .inr (3, [.int pg, .ref dl, .ref dr, .ref dt, .int (1 : Int32), .int (-1 : Int32), .int (0 : Int32)])), (so, .inr (8, [.ref rr, .ref s1, .ref s2, .ref s3, .ref s4, .ref s5, .ref s6, .int (0 : Int32), .int (0 : Int32), .int (-1 : Int32), .int (0 : Int32), .int (0 : Int32)])), (ho, .inl (cJ, 1, .inr (.inl g1)))] sz) := by
  refine va_MetW (cc := cL_vote) (maxL := 7) (ret := (some .int)) (hh := [(0, 12, 15, 25), (0, 12, 19, 13)]) (by decide) rfl ?_
  intro p e s m args below meth c s₁ B hml hv
  obtain ⟨rfl, hsz, hP, hK, hD0, hG⟩ := hv
  have hx := B.exec
  have hb := B.bytes
  have hr := B.returns
  have hts := atoms_spec (ws := wsL_vote) B.pre
  have hown : s.vm.findClass RL = some m.cls := findClass_of_methodNamed B.named
  have hlocks := B.notSynchronized
  have htab := vx_table (x := yL_vote) B (hts (.codeWith yL_vote cL_vote 7 (some .int) [(0, 12, 15, 25), (0, 12, 19, 13)]) List.mem_cons_self)
  subst hsz
  have hD := hD0.self (sz := s.heap.size)
  generalize hAe : va_A [(x, .inr (10, [.ref tp, .ref ds, .ref rr, .ref so, .ref pu, .ref sn, .ref im, .ref cs, .ref cl, .int (0 : Int32)])), (rr, .inr (6, [.ref ds, .ref ri, .int 0, .int 1, .int 0, .int 0])), (ds, .inr (3, [.int pg, .ref dl, .ref dr, .ref dt, .int (1 : Int32), .int (-1 : Int32), .int (0 : Int32)])), (so, .inr (8, [.ref rr, .ref s1, .ref s2, .ref s3, .ref s4, .ref s5, .ref s6, .int (0 : Int32), .int (0 : Int32), .int (-1 : Int32), .int (0 : Int32), .int (0 : Int32)])), (ho, .inl (cJ, 1, .inr (.inl g1)))] s.heap.size = A at hD hG ⊢
  have hA : ∀ q : Nat, s.heap.size ≤ q → A q := fun q h => by rw [← hAe]; exact Or.inr h
  have hS : va_S A s.heap s.heap [] := va_S.rf
  have hl := lv_entry ([.ref x, .int p0, .int p1, .long w2, .ref ho]) (n := 7) (Nat.le_of_ble_eq_true rfl)
  rw [lg_entry_eq]
  generalize (lg_sl ([.ref x, .int p0, .int p1, .long w2, .ref ho]) ++ List.replicate (7 - (lg_sl ([.ref x, .int p0, .int p1, .long w2, .ref ho])).length) Slot.unset).toArray = ls at hl ⊢
  have hl : lv_has ls 7 [(0, .ref x), (1, .int p0), (2, .int p1), (3, .long w2), (5, .ref ho)] := hl
  refine lv_aload hx hb dL_vote_0 (lv_at hl 4 rfl) ?_
  refine lv_iconst (v := 0) hx hb dL_vote_2 (by decide) ?_
  refine lv_aload_n hx hb dL_vote_3 rfl (lv_at hl 0 rfl) ?_
  refine lv_iload_n hx hb dL_vote_4 rfl (lv_at hl 1 rfl) ?_
  refine lv_iload_n hx hb dL_vote_5 rfl (lv_at hl 2 rfl) ?_
  refine lv_lload_n hx hb dL_vote_6 rfl (lv_at hl 3 rfl) ?_
  have hPc := hP.sub (ws' := [(x, .inr (10, [.ref tp, .ref ds, .ref rr, .ref so, .ref pu, .ref sn, .ref im, .ref cs, .ref cl, .int (0 : Int32)])), (rr, .inr (6, [.ref ds, .ref ri, .int 0, .int 1, .int 0, .int 0])), (ds, .inr (3, [.int pg, .ref dl, .ref dr, .ref dt, .int (1 : Int32), .int (-1 : Int32), .int (0 : Int32)])), (so, .inr (8, [.ref rr, .ref s1, .ref s2, .ref s3, .ref s4, .ref s5, .ref s6, .int (0 : Int32), .int (0 : Int32), .int (-1 : Int32), .int (0 : Int32), .int (0 : Int32)]))]) [0, 1, 2, 3] rfl
  have hKc := hK.sub (tys' := []) [] rfl
  refine vp_callSi (va_Run.run (va_runV (As := [.int p0, .int p1, .long w2]) (rest := [.int (0 : Int32), .ref ho]) ⟨hx, hb, hml, hown, hts⟩ (k_X8_vote_7 l dC dI x p0 p1 w2 rr ds so tp pu sn im cs cl ri pg dl dr dt s1 s2 s3 s4 s5 s6 hf0 hf1 hf2 hf3 hf4 hf5) (cwV 3 hts gL_vote_X8_vote rfl rfl rfl (by decide +kernel) ⟨Nat.le_of_ble_eq_true rfl, Nat.le_of_ble_eq_true rfl⟩) ⟨fun a U g mk q => by obtain ⟨q0, qP, qK, qG⟩ := q; exact ⟨q0, qP, va_K.moved (u := U) (U := U.calling g mk a) (Vm.Alike.refl U.vm) qK, qG.same rfl⟩, va_recv hK hP (ci := 10) (q := (RX8, TX8, 10)) rfl (q0 := 0) rfl, fun U hU hW => ⟨rfl, by rw [hU]; exact hPc, va_K.moved hW.alike hKc, hG.1.warm hW⟩⟩ rfl rfl hl.1 rfl (lv_room (Nat.le_of_ble_eq_true rfl)) dL_vote_7 ⟨Nat.le_of_ble_eq_true rfl, Nat.le_of_ble_eq_true rfl⟩)) (fun r_1 er_1 => ?_)
  subst er_1
  refine lv_i2l hx hb dL_vote_10 rfl ?_
  refine va_last hx hb hK hP hD hS 4 0 rfl rfl (by unfold vp_in; decide +kernel) dL_vote_11 (fun H locs hP hD hS => ?_)
  have hP : va_P (dC, dI) vwCl [(x, .inr (10, [.ref tp, .ref ds, .ref rr, .ref so, .ref pu, .ref sn, .ref im, .ref cs, .ref cl, .int (0 : Int32)])), (rr, .inr (6, [.ref ds, .ref ri, .int 0, .int 1, .int 0, .int 0])), (ds, .inr (3, [.int pg, .ref dl, .ref dr, .ref dt, .int (1 : Int32), .int (-1 : Int32), .int (0 : Int32)])), (so, .inr (8, [.ref rr, .ref s1, .ref s2, .ref s3, .ref s4, .ref s5, .ref s6, .int (0 : Int32), .int (0 : Int32), .int (-1 : Int32), .int (0 : Int32), .int (0 : Int32)])), (ho, .inl (cJ, 1, .inr (.inl (vp_updL g1 (0 : Int32).toNatClampNeg ((-6 : Int32).toInt64)))))] H := hP
  have hD : va_D A [(x, .inr (10, [.ref tp, .ref ds, .ref rr, .ref so, .ref pu, .ref sn, .ref im, .ref cs, .ref cl, .int (0 : Int32)])), (rr, .inr (6, [.ref ds, .ref ri, .int 0, .int 1, .int 0, .int 0])), (ds, .inr (3, [.int pg, .ref dl, .ref dr, .ref dt, .int (1 : Int32), .int (-1 : Int32), .int (0 : Int32)])), (so, .inr (8, [.ref rr, .ref s1, .ref s2, .ref s3, .ref s4, .ref s5, .ref s6, .int (0 : Int32), .int (0 : Int32), .int (-1 : Int32), .int (0 : Int32), .int (0 : Int32)])), (ho, .inl (cJ, 1, .inr (.inl (vp_updL g1 (0 : Int32).toNatClampNeg ((-6 : Int32).toInt64)))))] := hD
  refine lv_goto (tgt := 23) hx hb dL_vote_12 (by decide) ?_
  refine lv_iconst (v := 0) hx hb dL_vote_23 (by decide) ?_
  have hP := hP.sub (ws' := [(ho, .inl (cJ, 1, .inr (.inl (vp_updL g1 (0 : Int32).toNatClampNeg ((-6 : Int32).toInt64)))))]) [4] rfl
  have hD := hD.sub (ws' := [(ho, .inl (cJ, 1, .inr (.inl (vp_updL g1 (0 : Int32).toNatClampNeg ((-6 : Int32).toInt64)))))]) [4] (by decide) rfl
  have hK := hK.sub (tys' := [(cJ, .long)]) [0] rfl
  exact W.iret hx hb hr (fun t ht hW => ⟨⟨_, (), rfl, rfl, by rw [ht]; exact hP, va_K.moved hW.alike hK, hD⟩, hS.F ht⟩) hS.2.2 dL_vote_24

set_option maxHeartbeats 4000000 in
set_option maxRecDepth 100000 in
theorem k_X9_meant_3 (l : Launch) (dC : Nat → ClassId) (dI : Nat → Nat → Nat) (mo : Nat) (w2 : Int64) (hf0 : lg_cmp w2 (-128) < 0) : Met l yX9_meant wsX9_meant ({ frames := 0, cells := 0, slots := 0, locals := 0 }) (va_Pc [.ref mo, .long w2] (fun U => va_P (dC, dI) vwCl [] U.heap ∧ va_K (dC, dI) vwCl [] U)) (vp_Sl (fun r => r = w2)) 0 0 (fun _ => False) := by
  refine Met.ofW (cc := cX9_meant) (maxL := 4) (ret := (some .long)) (by decide) rfl ?_
  intro p e s m args below meth c s₁ B hml hv
  obtain ⟨rfl, hP, hK⟩ := hv
  have hx := B.exec
  have hb := B.bytes
  have hr := B.returns
  have hts := atoms_spec (ws := wsX9_meant) B.pre
  have hown : s.vm.findClass RX9 = some m.cls := findClass_of_methodNamed B.named
  have hlocks := B.notSynchronized
  have hl := lv_entry ([.ref mo, .long w2]) (n := 4) (Nat.le_of_ble_eq_true rfl)
  rw [lg_entry_eq]
  generalize (lg_sl ([.ref mo, .long w2]) ++ List.replicate (4 - (lg_sl ([.ref mo, .long w2])).length) Slot.unset).toArray = ls at hl ⊢
  have hl : lv_has ls 4 [(0, .ref mo), (1, .long w2)] := hl
  refine lv_lload_n hx hb dX9_meant_0 rfl (lv_at hl 1 rfl) ?_
  refine lv_ldc2 hx hb hown (hts (.constantLong RX9 296 (-128)) (by decide +kernel)) dX9_meant_1 ?_
  refine W.lcmp hx hb dX9_meant_4 ?_
  refine lv_if_lt (tgt := 51) hx hb dX9_meant_5 (by decide) (fun c_1 => ?_) (fun c_1 => ?_)
  · skip
    refine lv_lload_n hx hb dX9_meant_51 rfl (lv_at hl 1 rfl) ?_
    exact W.lret hx hb hr (fun t ht hW => ⟨_, rfl, rfl, ht⟩) (fun q h => by cases h) dX9_meant_52
  · skip
    exact absurd hf0 c_1
