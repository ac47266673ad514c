set_option maxHeartbeats 4000000 in
set_option maxRecDepth 100000 in
theorem k_X9_told_3 (l : Launch) (dC : Nat → ClassId) (dI : Nat → Nat → Nat) (mo : Nat) (m_disk : Nat) (P : Nat) (m_tape : Nat) (m_slots : Nat) (m_leaves : Nat) (m_fresh : Nat) (m_digestAt : Nat) (m_isGroup : Nat) (m_counts : Nat) (m_versionRow : Nat) (m_state : Nat) (m_names : Nat) (m_keptRow : Nat) (m_inSlot : Nat) (m_inAt : Nat) (m_inSize : Nat) (m_inDigest : Nat) (sz : Nat)  : Met l yX9_told wsX9_told ({ frames := 1, cells := 0, slots := 0, locals := 22 }) (va_Pc [.ref mo, .int (0 : Int32)] (fun U => U.heap.size = sz ∧ va_P (dC, dI) vwCl [(mo, .inr (11, [.ref m_disk, .int (nI P), .int ((8224 : Int32) + ((26 : Int32) * (nI P))), .int (1 : Int32), .int 0, .int (-1 : Int32), .int 0, .int (0 : Int32), .ref m_tape, .int 0, .ref m_slots, .ref m_leaves, .int 0, .int 0, .ref m_fresh, .int 0, .int 0, .int 0, .ref m_digestAt, .ref m_isGroup, .ref m_counts, .int 0, .int 0, .long 0, .int 0, .ref m_versionRow, .int 0, .long 0, .ref m_state, .ref m_names, .int 0, .ref m_keptRow, .int 0, .ref m_inSlot, .ref m_inAt, .ref m_inSize, .ref m_inDigest, .int 0]))] U.heap ∧ va_K (dC, dI) vwCl [] U ∧ va_D (fun _ => True) [(mo, .inr (11, [.ref m_disk, .int (nI P), .int ((8224 : Int32) + ((26 : Int32) * (nI P))), .int (1 : Int32), .int 0, .int (-1 : Int32), .int 0, .int (0 : Int32), .ref m_tape, .int 0, .ref m_slots, .ref m_leaves, .int 0, .int 0, .ref m_fresh, .int 0, .int 0, .int 0, .ref m_digestAt, .ref m_isGroup, .ref m_counts, .int 0, .int 0, .long 0, .int 0, .ref m_versionRow, .int 0, .long 0, .ref m_state, .ref m_names, .int 0, .ref m_keptRow, .int 0, .ref m_inSlot, .ref m_inAt, .ref m_inSize, .ref m_inDigest, .int 0]))])) (va_Qi (fun r (_ : Unit) => r = (1 : Int32)) (fun (_ : Unit) t => va_P (dC, dI) vwCl [(mo, .inr (11, [.ref m_disk, .int (nI P), .int ((8224 : Int32) + ((26 : Int32) * (nI P))), .int (1 : Int32), .int 0, .int (-1 : Int32), .int 0, .int (0 : Int32), .ref m_tape, .int 0, .ref m_slots, .ref m_leaves, .int 0, .int (0 : Int32), .ref m_fresh, .int 0, .int 0, .int 0, .ref m_digestAt, .ref m_isGroup, .ref m_counts, .int 0, .int 0, .long 0, .int 0, .ref m_versionRow, .int 0, .long 0, .ref m_state, .ref m_names, .int 0, .ref m_keptRow, .int 0, .ref m_inSlot, .ref m_inAt, .ref m_inSize, .ref m_inDigest, .int 0]))] t.heap ∧ va_K (dC, dI) vwCl [] t ∧ va_D (va_A [(mo, .inr (11, [.ref m_disk, .int (nI P), .int ((8224 : Int32) + ((26 : Int32) * (nI P))), .int (1 : Int32), .int 0, .int (-1 : Int32), .int 0, .int (0 : Int32), .ref m_tape, .int 0, .ref m_slots, .ref m_leaves, .int 0, .int 0, .ref m_fresh, .int 0, .int 0, .int 0, .ref m_digestAt, .ref m_isGroup, .ref m_counts, .int 0, .int 0, .long 0, .int 0, .ref m_versionRow, .int 0, .long 0, .ref m_state, .ref m_names, .int 0, .ref m_keptRow, .int 0, .ref m_inSlot, .ref m_inAt, .ref m_inSize, .ref m_inDigest, .int 0]))] sz) [(mo, .inr (11, [.ref m_disk, .int (nI P), .int ((8224 : Int32) + ((26 : Int32) * (nI P))), .int (1 : Int32), .int 0, .int (-1 : Int32), .int 0, .int (0 : Int32), .ref m_tape, .int 0, .ref m_slots, .ref m_leaves, .int 0, .int (0 : Int32), .ref m_fresh, .int 0, .int 0, .int 0, .ref m_digestAt, .ref m_isGroup, .ref m_counts, .int 0, .int 0, .long 0, .int 0, .ref m_versionRow, .int 0, .long 0, .ref m_state, .ref m_names, .int 0, .ref m_keptRow, .int 0, .ref m_inSlot, .ref m_inAt, .ref m_inSize, .ref m_inDigest, .int 0]))]) (va_A [(mo, .inr (11, [.ref m_disk, .int (nI P), .int ((8224 : Int32) + ((26 : Int32) * (nI P))), .int (1 : Int32), .int 0, .int (-1 : Int32), .int 0, .int (0 : Int32), .ref m_tape, .int 0, .ref m_slots, .ref m_leaves, .int 0, .int 0, .ref m_fresh, .int 0, .int 0, .int 0, .ref m_digestAt, .ref m_isGroup, .ref m_counts, .int 0, .int 0, .long 0, .int 0, .ref m_versionRow, .int 0, .long 0, .ref m_state, .ref m_names, .int 0, .ref m_keptRow, .int 0, .ref m_inSlot, .ref m_inAt, .ref m_inSize, .ref m_inDigest, .int 0]))] sz)) 0 0 (va_A [(mo, .inr (11, [.ref m_disk, .int (nI P), .int ((8224 : Int32) + ((26 : Int32) * (nI P))), .int (1 : Int32), .int 0, .int (-1 : Int32), .int 0, .int (0 : Int32), .ref m_tape, .int 0, .ref m_slots, .ref m_leaves, .int 0, .int 0, .ref m_fresh, .int 0, .int 0, .int 0, .ref m_digestAt, .ref m_isGroup, .ref m_counts, .int 0, .int 0, .long 0, .int 0, .ref m_versionRow, .int 0, .long 0, .ref m_state, .ref m_names, .int 0, .ref m_keptRow, .int 0, .ref m_inSlot, .ref m_inAt, .ref m_inSize, .ref m_inDigest, .int 0]))] sz) := by
  refine Met.ofW (cc := cX9_told) (maxL := 2) (ret := (some .int)) (by decide) rfl ?_
  intro p e s m args below meth c s₁ B hml hv
  obtain ⟨rfl, hsz, hP, hK, hD0⟩ := hv
  have hx := B.exec
  have hb := B.bytes
  have hr := B.returns
  have hts := atoms_spec (ws := wsX9_told) B.pre
  have hown : s.vm.findClass RX9 = some m.cls := findClass_of_methodNamed B.named
  have hlocks := B.notSynchronized
  subst hsz
  have hD := hD0.self (sz := s.heap.size)
  generalize hAe : va_A [(mo, .inr (11, [.ref m_disk, .int (nI P), .int ((8224 : Int32) + ((26 : Int32) * (nI P))), .int (1 : Int32), .int 0, .int (-1 : Int32), .int 0, .int (0 : Int32), .ref m_tape, .int 0, .ref m_slots, .ref m_leaves, .int 0, .int 0, .ref m_fresh, .int 0, .int 0, .int 0, .ref m_digestAt, .ref m_isGroup, .ref m_counts, .int 0, .int 0, .long 0, .int 0, .ref m_versionRow, .int 0, .long 0, .ref m_state, .ref m_names, .int 0, .ref m_keptRow, .int 0, .ref m_inSlot, .ref m_inAt, .ref m_inSize, .ref m_inDigest, .int 0]))] s.heap.size = A at hD ⊢
  have hA : ∀ q : Nat, s.heap.size ≤ q → A q := fun q h => by rw [← hAe]; exact Or.inr h
  have hS : va_S A s.heap s.heap [] := va_S.rf
  have hl := lv_entry ([.ref mo, .int (0 : Int32)]) (n := 2) (Nat.le_of_ble_eq_true rfl)
  rw [lg_entry_eq]
  generalize (lg_sl ([.ref mo, .int (0 : Int32)]) ++ List.replicate (2 - (lg_sl ([.ref mo, .int (0 : Int32)])).length) Slot.unset).toArray = ls at hl ⊢
  have hl : lv_has ls 2 [(0, .ref mo), (1, .int (0 : Int32))] := hl
  refine lv_aload_n hx hb dX9_told_0 rfl (lv_at hl 0 rfl) ?_
  refine lv_iload_n hx hb dX9_told_1 rfl (lv_at hl 1 rfl) ?_
  refine lv_iconst (v := 0) hx hb dX9_told_2 (by decide) ?_
  refine lv_bipush (v := 8) hx hb dX9_told_3 (by decide) ?_
  have hPc := hP.sub (ws' := []) [] rfl
  have hKc := hK.sub (tys' := []) [] rfl
  refine vp_callSi (va_Run.run (va_runS (As := [.int (0 : Int32), .int (0 : Int32), .int (8 : Int32)]) (rest := [.ref mo]) ⟨hx, hb, hml, hown, hts⟩ (k_X9_within_3 l dC dI (0 : Int32) (0 : Int32) (8 : Int32) (by decide) (by decide)) (va_cwS 3 hts gX9_told_X9_within rfl rfl rfl (by decide +kernel) ⟨Nat.le_of_ble_eq_true rfl, Nat.le_of_ble_eq_true rfl⟩) ⟨fun a U g mk q => by obtain ⟨q0, qP, qK⟩ := q; exact ⟨q0, qP, va_K.moved (u := U) (U := U.calling g mk a) (Vm.Alike.refl U.vm) qK⟩, fun U hU hW => ⟨rfl, by rw [hU]; exact hPc, va_K.moved hW.alike hKc⟩⟩ rfl rfl hl.1 rfl (lv_room (Nat.le_of_ble_eq_true rfl)) dX9_told_5 ⟨Nat.le_of_ble_eq_true rfl, Nat.le_of_ble_eq_true rfl⟩)) (fun r_1 er_1 => ?_)
  subst er_1
  refine lv_if_eq (tgt := 15) hx hb dX9_told_8 (by decide) (fun c_2 => ?_) (fun c_2 => ?_)
  · skip
    exact absurd c_2 (by decide)
  · skip
    refine lv_iconst (v := 0) hx hb dX9_told_11 (by decide) ?_
    refine lv_goto (tgt := 16) hx hb dX9_told_12 (by decide) ?_
    refine va_put (D := (dC, dI)) (ci := 11) (v := .int (0 : Int32)) (ty := .int) (C := RX9) (T := TX9) (N := 38) hx hb hts (by decide +kernel) tyX9 tyX9_ok nmX9 hown hK hP hD hS 0 rfl rfl 13 (by decide) (hts (.fieldLink RX9 91 "BlockLogModel" "thrown" "I") (by decide +kernel)) (fun _ h9 => h9) rfl (by decide +kernel) rfl rfl (Nat.le_of_ble_eq_true rfl) dX9_told_16 (fun H locs hP hD hS => ?_)
    have hP : va_P (dC, dI) vwCl [(mo, .inr (11, [.ref m_disk, .int (nI P), .int ((8224 : Int32) + ((26 : Int32) * (nI P))), .int (1 : Int32), .int 0, .int (-1 : Int32), .int 0, .int (0 : Int32), .ref m_tape, .int 0, .ref m_slots, .ref m_leaves, .int 0, .int (0 : Int32), .ref m_fresh, .int 0, .int 0, .int 0, .ref m_digestAt, .ref m_isGroup, .ref m_counts, .int 0, .int 0, .long 0, .int 0, .ref m_versionRow, .int 0, .long 0, .ref m_state, .ref m_names, .int 0, .ref m_keptRow, .int 0, .ref m_inSlot, .ref m_inAt, .ref m_inSize, .ref m_inDigest, .int 0]))] H := hP
    have hD : va_D A [(mo, .inr (11, [.ref m_disk, .int (nI P), .int ((8224 : Int32) + ((26 : Int32) * (nI P))), .int (1 : Int32), .int 0, .int (-1 : Int32), .int 0, .int (0 : Int32), .ref m_tape, .int 0, .ref m_slots, .ref m_leaves, .int 0, .int (0 : Int32), .ref m_fresh, .int 0, .int 0, .int 0, .ref m_digestAt, .ref m_isGroup, .ref m_counts, .int 0, .int 0, .long 0, .int 0, .ref m_versionRow, .int 0, .long 0, .ref m_state, .ref m_names, .int 0, .ref m_keptRow, .int 0, .ref m_inSlot, .ref m_inAt, .ref m_inSize, .ref m_inDigest, .int 0]))] := hD
    refine lv_aload_n hx hb dX9_told_19 rfl (lv_at hl 0 rfl) ?_
    refine va_get (D := (dC, dI)) (ci := 11) (v := .int (0 : Int32)) (C := RX9) (T := TX9) (N := 38) hx hb hts (by decide +kernel) hown hK hP 0 rfl rfl 13 (by decide) (hts (.fieldLink RX9 91 "BlockLogModel" "thrown" "I") (by decide +kernel)) (fun _ h9 => h9) rfl dX9_told_20 ?_
    refine lv_if_le (tgt := 28) hx hb dX9_told_23 (by decide) (fun c_3 => ?_) (fun c_3 => ?_)
    · skip
      refine lv_iload_n hx hb dX9_told_28 rfl (lv_at hl 1 rfl) ?_
      refine lv_if_ne (tgt := 45) hx hb dX9_told_29 (by decide) (fun c_4 => ?_) (fun c_4 => ?_)
      · skip
        exact absurd (by decide) c_4
      · skip
        refine lv_aload_n hx hb dX9_told_32 rfl (lv_at hl 0 rfl) ?_
        refine va_get (D := (dC, dI)) (ci := 11) (v := .int (1 : Int32)) (C := RX9) (T := TX9) (N := 38) hx hb hts (by decide +kernel) hown hK hP 0 rfl rfl 3 (by decide) (hts (.fieldLink RX9 72 "BlockLogModel" "on" "Z") (by decide +kernel)) (fun _ h9 => h9) rfl dX9_told_33 ?_
        refine lv_if_eq (tgt := 43) hx hb dX9_told_36 (by decide) (fun c_5 => ?_) (fun c_5 => ?_)
        · skip
          exact absurd c_5 (by decide)
        · skip
          refine lv_iconst (v := 1) hx hb dX9_told_39 (by decide) ?_
          refine lv_goto (tgt := 44) hx hb dX9_told_40 (by decide) ?_
          have hP := hP.sub (ws' := [(mo, .inr (11, [.ref m_disk, .int (nI P), .int ((8224 : Int32) + ((26 : Int32) * (nI P))), .int (1 : Int32), .int 0, .int (-1 : Int32), .int 0, .int (0 : Int32), .ref m_tape, .int 0, .ref m_slots, .ref m_leaves, .int 0, .int (0 : Int32), .ref m_fresh, .int 0, .int 0, .int 0, .ref m_digestAt, .ref m_isGroup, .ref m_counts, .int 0, .int 0, .long 0, .int 0, .ref m_versionRow, .int 0, .long 0, .ref m_state, .ref m_names, .int 0, .ref m_keptRow, .int 0, .ref m_inSlot, .ref m_inAt, .ref m_inSize, .ref m_inDigest, .int 0]))]) [0] rfl
          have hD := hD.sub (ws' := [(mo, .inr (11, [.ref m_disk, .int (nI P), .int ((8224 : Int32) + ((26 : Int32) * (nI P))), .int (1 : Int32), .int 0, .int (-1 : Int32), .int 0, .int (0 : Int32), .ref m_tape, .int 0, .ref m_slots, .ref m_leaves, .int 0, .int (0 : Int32), .ref m_fresh, .int 0, .int 0, .int 0, .ref m_digestAt, .ref m_isGroup, .ref m_counts, .int 0, .int 0, .long 0, .int 0, .ref m_versionRow, .int 0, .long 0, .ref m_state, .ref m_names, .int 0, .ref m_keptRow, .int 0, .ref m_inSlot, .ref m_inAt, .ref m_inSize, .ref m_inDigest, .int 0]))]) [0] (by decide) rfl
          have hK := hK.sub (tys' := []) [] rfl
          exact W.iret hx hb hr (fun t ht hW => ⟨⟨_, (), rfl, rfl, by rw [ht]; exact hP, va_K.moved hW.alike hK, hD⟩, hS.F ht⟩) hS.2.2 dX9_told_44
    · skip
      exact absurd (by decide) c_3

set_option maxHeartbeats 4000000 in
set_option maxRecDepth 100000 in
theorem k_X8_told_4 (l : Launch) (dC : Nat → ClassId) (dI : Nat → Nat → Nat) (x : Nat) (ds : Nat) (tp : Nat) (rr : Nat) (so : Nat) (pu : Nat) (sn : Nat) (im : Nat) (cs : Nat) (cl : Nat) (pg : Int32) (dl : Nat) (dr : Nat) (dt : Nat)  : Met l yX8_told wsX8_told ({ frames := 0, cells := 0, slots := 0, locals := 0 }) (va_Pc [.ref x, .int (1 : Int32)] (fun U => va_P (dC, dI) vwCl [(x, .inr (10, [.ref tp, .ref ds, .ref rr, .ref so, .ref pu, .ref sn, .ref im, .ref cs, .ref cl, .int (0 : Int32)])), (ds, .inr (3, [.int pg, .ref dl, .ref dr, .ref dt, .int (1 : Int32), .int (-1 : Int32), .int (0 : Int32)]))] U.heap ∧ va_K (dC, dI) vwCl [] U ∧ gx_W U)) (vp_Si (fun r => r = (0 : Int32))) 0 0 (fun _ => False) := by
  refine Met.ofW (cc := cX8_told) (maxL := 2) (ret := (some .int)) (by decide) rfl ?_
  intro p e s m args below meth c s₁ B hml hv
  obtain ⟨rfl, hP, hK, hG⟩ := hv
  have hx := B.exec
  have hb := B.bytes
  have hr := B.returns
  have hts := atoms_spec (ws := wsX8_told) B.pre
  have hown : s.vm.findClass RX8 = some m.cls := findClass_of_methodNamed B.named
  have hlocks := B.notSynchronized
  have hl := lv_entry ([.ref x, .int (1 : Int32)]) (n := 2) (Nat.le_of_ble_eq_true rfl)
  rw [lg_entry_eq]
  generalize (lg_sl ([.ref x, .int (1 : Int32)]) ++ List.replicate (2 - (lg_sl ([.ref x, .int (1 : Int32)])).length) Slot.unset).toArray = ls at hl ⊢
  have hl : lv_has ls 2 [(0, .ref x), (1, .int (1 : Int32))] := hl
  refine lv_iload_n hx hb dX8_told_0 rfl (lv_at hl 1 rfl) ?_
  refine lv_if_lt (tgt := 10) hx hb dX8_told_1 (by decide) (fun c_1 => ?_) (fun c_1 => ?_)
  · skip
    exact absurd c_1 (by decide)
  · skip
    refine lv_iload_n hx hb dX8_told_4 rfl (lv_at hl 1 rfl) ?_
    refine lv_bipush (v := 8) hx hb dX8_told_5 (by decide) ?_
    refine lv_icmp_le (tgt := 21) hx hb dX8_told_7 (by decide) (fun c_2 => ?_) (fun c_2 => ?_)
    · skip
      refine lv_iload_n hx hb dX8_told_21 rfl (lv_at hl 1 rfl) ?_
      refine lv_iconst (v := 1) hx hb dX8_told_22 (by decide) ?_
      refine lv_icmp_ne (tgt := 34) hx hb dX8_told_23 (by decide) (fun c_3 => ?_) (fun c_3 => ?_)
      · skip
        exact absurd (by decide) c_3
      · skip
        refine lv_aload_n hx hb dX8_told_26 rfl (lv_at hl 0 rfl) ?_
        refine va_get (D := (dC, dI)) (ci := 10) (v := .ref ds) (C := RX8) (T := TX8) (N := 10) hx hb hts (by decide +kernel) hown hK hP 0 rfl rfl 1 (by decide) (hts (.fieldLink RX8 22 "BlockLog" "disk" "LBlockLog$Disk;") (by decide +kernel)) (fun _ h9 => h9) rfl dX8_told_27 ?_
        refine va_getN (D := (dC, dI)) (ci := 3) (v := .int (0 : Int32)) (C := RX1) (T := TX1) (N := 7) hx hb hts (by decide +kernel) hown hK hP 1 rfl rfl 6 (by decide) (va_Nw.use rfl (hG.1 ("BlockLog", 345, "BlockLog$Disk", "actsDone", "I", "BlockLog") (by decide +kernel))) (fun _ h9 => h9) rfl dX8_told_30 ?_
        exact W.iret hx hb hr (fun t ht hW => ⟨_, rfl, rfl, ht⟩) (fun q h => by cases h) dX8_told_33
    · skip
      exact absurd (by decide) c_2

set_option maxHeartbeats 4000000 in
set_option maxRecDepth 100000 in
theorem k_L_told_4 (l : Launch) (dC : Nat → ClassId) (dI : Nat → Nat → Nat) (x : Nat) (ho : Nat) (ds : Nat) (tp : Nat) (rr : Nat) (so : Nat) (pu : Nat) (sn : Nat) (im : Nat) (cs : Nat) (cl : Nat) (pg : Int32) (dl : Nat) (dr : Nat) (dt : Nat) (cJ : ClassId) (g1 : Nat → Int64) (sz : Nat)  : Met l yL_told wsL_told ({ frames := 1, cells := 0, slots := 0, locals := 21 }) (va_Pc [.ref x, .int (1 : Int32), .ref ho] (fun U => U.heap.size = sz ∧ va_P (dC, dI) vwCl [(x, .inr (10, [.ref tp, .ref ds, .ref rr, .ref so, .ref pu, .ref sn, .ref im, .ref cs, .ref cl, .int (0 : Int32)])), (ds, .inr (3, [.int pg, .ref dl, .ref dr, .ref dt, .int (1 : Int32), .int (-1 : Int32), .int (0 : Int32)])), (ho, .inl (cJ, 1, .inr (.inl g1)))] U.heap ∧ va_K (dC, dI) vwCl [(cJ, .long)] U ∧ va_D (fun _ => True) [(x, .inr (10, [.ref tp, .ref ds, .ref rr, .ref so, .ref pu, .ref sn, .ref im, .ref cs, .ref cl, .int (0 : Int32)])), (ds, .inr (3, [.int pg, .ref dl, .ref dr, .ref dt, .int (1 : Int32), .int (-1 : Int32), .int (0 : Int32)])), (ho, .inl (cJ, 1, .inr (.inl g1)))] ∧ gx_E (va_A [(x, .inr (10, [.ref tp, .ref ds, .ref rr, .ref so, .ref pu, .ref sn, .ref im, .ref cs, .ref cl, .int (0 : Int32)])), (ds, .inr (3, [.int pg, .ref dl, .ref dr, .ref dt, .int (1 : Int32), .int (-1 : Int32), .int (0 : Int32)])), (ho, .inl (cJ, 1, .inr (.inl g1)))] sz) U)) (va_Qi (fun r (_ : Unit) => r = (0 : Int32)) (fun (_ : Unit) t => va_P (dC, dI) vwCl [(ho, .inl (cJ, 1, .inr (.inl (vp_updL g1 (0 : Int32).toNatClampNeg ((0 : Int32).toInt64)))))] t.heap ∧ va_K (dC, dI) vwCl [(cJ, .long)] t ∧ va_D (va_A [(x, .inr (10, [.ref tp, .ref ds, .ref rr, .ref so, .ref pu, .ref sn, .ref im, .ref cs, .ref cl, .int (0 : Int32)])), (ds, .inr (3, [.int pg, .ref dl, .ref dr, .ref dt, .int (1 : Int32), .int (-1 : Int32), .int (0 : Int32)])), (ho, .inl (cJ, 1, .inr (.inl g1)))] sz) [(ho, .inl (cJ, 1, .inr (.inl (vp_updL g1 (0 : Int32).toNatClampNeg ((0 : Int32).toInt64)))))]) (va_A [(x, .inr (10, [.ref tp, .ref ds, .ref rr, .ref so, .ref pu, .ref sn, .ref im, .ref cs, .ref cl, .int (0 : Int32)])), (ds, .inr (3, [.int pg, .ref dl, .ref dr, .ref dt, .int (1 : Int32), .int (-1 : Int32), .int (0 : Int32)])), (ho, .inl (cJ, 1, .inr (.inl g1)))] sz)) 0 0 (va_A [(x, .inr (10, [.ref tp, .ref ds, .ref rr, .ref so, .ref pu, .ref sn, .ref im, .ref cs, .ref cl, .int (0 : Int32)])), (ds, .inr (3, [.int pg, .ref dl, .ref dr, .ref dt, .int (1 : Int32), .int (-1 : Int32), .int (0 : Int32)])), (ho, .inl (cJ, 1, .inr (.inl g1)))] sz) := by
  refine va_MetW (cc := cL_told) (maxL := 4) (ret := (some .int)) (hh := [(0, 9, 12, 13)]) (by decide) rfl ?_
  intro p e s m args below meth c s₁ B hml hv
  obtain ⟨rfl, hsz, hP, hK, hD0, hG⟩ := hv
  have hx := B.exec
  have hb := B.bytes
  have hr := B.returns
  have hts := atoms_spec (ws := wsL_told) B.pre
  have hown : s.vm.findClass RL = some m.cls := findClass_of_methodNamed B.named
  have hlocks := B.notSynchronized
  have htab := vx_table (x := yL_told) B (hts (.codeWith yL_told cL_told 4 (some .int) [(0, 9, 12, 13)]) List.mem_cons_self)
  subst hsz
  have hD := hD0.self (sz := s.heap.size)
  generalize hAe : va_A [(x, .inr (10, [.ref tp, .ref ds, .ref rr, .ref so, .ref pu, .ref sn, .ref im, .ref cs, .ref cl, .int (0 : Int32)])), (ds, .inr (3, [.int pg, .ref dl, .ref dr, .ref dt, .int (1 : Int32), .int (-1 : Int32), .int (0 : Int32)])), (ho, .inl (cJ, 1, .inr (.inl g1)))] s.heap.size = A at hD hG ⊢
  have hA : ∀ q : Nat, s.heap.size ≤ q → A q := fun q h => by rw [← hAe]; exact Or.inr h
  have hS : va_S A s.heap s.heap [] := va_S.rf
  have hl := lv_entry ([.ref x, .int (1 : Int32), .ref ho]) (n := 4) (Nat.le_of_ble_eq_true rfl)
  rw [lg_entry_eq]
  generalize (lg_sl ([.ref x, .int (1 : Int32), .ref ho]) ++ List.replicate (4 - (lg_sl ([.ref x, .int (1 : Int32), .ref ho])).length) Slot.unset).toArray = ls at hl ⊢
  have hl : lv_has ls 4 [(0, .ref x), (1, .int (1 : Int32)), (2, .ref ho)] := hl
  refine lv_aload_n hx hb dL_told_0 rfl (lv_at hl 2 rfl) ?_
  refine lv_iconst (v := 0) hx hb dL_told_1 (by decide) ?_
  refine lv_aload_n hx hb dL_told_2 rfl (lv_at hl 0 rfl) ?_
  refine lv_iload_n hx hb dL_told_3 rfl (lv_at hl 1 rfl) ?_
  have hPc := hP.sub (ws' := [(x, .inr (10, [.ref tp, .ref ds, .ref rr, .ref so, .ref pu, .ref sn, .ref im, .ref cs, .ref cl, .int (0 : Int32)])), (ds, .inr (3, [.int pg, .ref dl, .ref dr, .ref dt, .int (1 : Int32), .int (-1 : Int32), .int (0 : Int32)]))]) [0, 1] rfl
  have hKc := hK.sub (tys' := []) [] rfl
  refine vp_callSi (va_Run.run (va_runV (As := [.int (1 : Int32)]) (rest := [.int (0 : Int32), .ref ho]) ⟨hx, hb, hml, hown, hts⟩ (k_X8_told_4 l dC dI x ds tp rr so pu sn im cs cl pg dl dr dt) (cwV 1 hts gL_told_X8_told rfl rfl rfl (by decide +kernel) ⟨Nat.le_of_ble_eq_true rfl, Nat.le_of_ble_eq_true rfl⟩) ⟨fun a U g mk q => by obtain ⟨q0, qP, qK, qG⟩ := q; exact ⟨q0, qP, va_K.moved (u := U) (U := U.calling g mk a) (Vm.Alike.refl U.vm) qK, qG.same rfl⟩, va_recv hK hP (ci := 10) (q := (RX8, TX8, 10)) rfl (q0 := 0) rfl, fun U hU hW => ⟨rfl, by rw [hU]; exact hPc, va_K.moved hW.alike hKc, hG.1.warm hW⟩⟩ rfl rfl hl.1 rfl (lv_room (Nat.le_of_ble_eq_true rfl)) dL_told_4 ⟨Nat.le_of_ble_eq_true rfl, Nat.le_of_ble_eq_true rfl⟩)) (fun r_1 er_1 => ?_)
  subst er_1
  refine lv_i2l hx hb dL_told_7 rfl ?_
  refine va_last hx hb hK hP hD hS 2 0 rfl rfl (by unfold vp_in; decide +kernel) dL_told_8 (fun H locs hP hD hS => ?_)
  have hP : va_P (dC, dI) vwCl [(x, .inr (10, [.ref tp, .ref ds, .ref rr, .ref so, .ref pu, .ref sn, .ref im, .ref cs, .ref cl, .int (0 : Int32)])), (ds, .inr (3, [.int pg, .ref dl, .ref dr, .ref dt, .int (1 : Int32), .int (-1 : Int32), .int (0 : Int32)])), (ho, .inl (cJ, 1, .inr (.inl (vp_updL g1 (0 : Int32).toNatClampNeg ((0 : Int32).toInt64)))))] H := hP
  have hD : va_D A [(x, .inr (10, [.ref tp, .ref ds, .ref rr, .ref so, .ref pu, .ref sn, .ref im, .ref cs, .ref cl, .int (0 : Int32)])), (ds, .inr (3, [.int pg, .ref dl, .ref dr, .ref dt, .int (1 : Int32), .int (-1 : Int32), .int (0 : Int32)])), (ho, .inl (cJ, 1, .inr (.inl (vp_updL g1 (0 : Int32).toNatClampNeg ((0 : Int32).toInt64)))))] := hD
  refine lv_goto (tgt := 15) hx hb dL_told_9 (by decide) ?_
  refine lv_iconst (v := 0) hx hb dL_told_15 (by decide) ?_
  have hP := hP.sub (ws' := [(ho, .inl (cJ, 1, .inr (.inl (vp_updL g1 (0 : Int32).toNatClampNeg ((0 : Int32).toInt64)))))]) [2] rfl
  have hD := hD.sub (ws' := [(ho, .inl (cJ, 1, .inr (.inl (vp_updL g1 (0 : Int32).toNatClampNeg ((0 : Int32).toInt64)))))]) [2] (by decide) rfl
  have hK := hK.sub (tys' := [(cJ, .long)]) [0] rfl
  exact W.iret hx hb hr (fun t ht hW => ⟨⟨_, (), rfl, rfl, by rw [ht]; exact hP, va_K.moved hW.alike hK, hD⟩, hS.F ht⟩) hS.2.2 dL_told_16

set_option maxHeartbeats 4000000 in
set_option maxRecDepth 100000 in
theorem k_X9_told_4 (l : Launch) (dC : Nat → ClassId) (dI : Nat → Nat → Nat) (mo : Nat) (m_disk : Nat) (P : Nat) (m_tape : Nat) (m_slots : Nat) (m_leaves : Nat) (m_fresh : Nat) (m_digestAt : Nat) (m_isGroup : Nat) (m_counts : Nat) (m_versionRow : Nat) (m_state : Nat) (m_names : Nat) (m_keptRow : Nat) (m_inSlot : Nat) (m_inAt : Nat) (m_inSize : Nat) (m_inDigest : Nat) (sz : Nat)  : Met l yX9_told wsX9_told ({ frames := 1, cells := 0, slots := 0, locals := 22 }) (va_Pc [.ref mo, .int (1 : Int32)] (fun U => U.heap.size = sz ∧ va_P (dC, dI) vwCl [(mo, .inr (11, [.ref m_disk, .int (nI P), .int ((8224 : Int32) + ((26 : Int32) * (nI P))), .int (1 : Int32), .int 0, .int (-1 : Int32), .int 0, .int (0 : Int32), .ref m_tape, .int 0, .ref m_slots, .ref m_leaves, .int 0, .int 0, .ref m_fresh, .int 0, .int 0, .int 0, .ref m_digestAt, .ref m_isGroup, .ref m_counts, .int 0, .int 0, .long 0, .int 0, .ref m_versionRow, .int 0, .long 0, .ref m_state, .ref m_names, .int 0, .ref m_keptRow, .int 0, .ref m_inSlot, .ref m_inAt, .ref m_inSize, .ref m_inDigest, .int 0]))] U.heap ∧ va_K (dC, dI) vwCl [] U ∧ va_D (fun _ => True) [(mo, .inr (11, [.ref m_disk, .int (nI P), .int ((8224 : Int32) + ((26 : Int32) * (nI P))), .int (1 : Int32), .int 0, .int (-1 : Int32), .int 0, .int (0 : Int32), .ref m_tape, .int 0, .ref m_slots, .ref m_leaves, .int 0, .int 0, .ref m_fresh, .int 0, .int 0, .int 0, .ref m_digestAt, .ref m_isGroup, .ref m_counts, .int 0, .int 0, .long 0, .int 0, .ref m_versionRow, .int 0, .long 0, .ref m_state, .ref m_names, .int 0, .ref m_keptRow, .int 0, .ref m_inSlot, .ref m_inAt, .ref m_inSize, .ref m_inDigest, .int 0]))])) (va_Qi (fun r (_ : Unit) => r = 0) (fun (_ : Unit) t => va_P (dC, dI) vwCl [(mo, .inr (11, [.ref m_disk, .int (nI P), .int ((8224 : Int32) + ((26 : Int32) * (nI P))), .int (1 : Int32), .int 0, .int (-1 : Int32), .int 0, .int (0 : Int32), .ref m_tape, .int 0, .ref m_slots, .ref m_leaves, .int 0, .int (0 : Int32), .ref m_fresh, .int 0, .int 0, .int 0, .ref m_digestAt, .ref m_isGroup, .ref m_counts, .int 0, .int 0, .long 0, .int 0, .ref m_versionRow, .int 0, .long 0, .ref m_state, .ref m_names, .int 0, .ref m_keptRow, .int 0, .ref m_inSlot, .ref m_inAt, .ref m_inSize, .ref m_inDigest, .int 0]))] t.heap ∧ va_K (dC, dI) vwCl [] t ∧ va_D (va_A [(mo, .inr (11, [.ref m_disk, .int (nI P), .int ((8224 : Int32) + ((26 : Int32) * (nI P))), .int (1 : Int32), .int 0, .int (-1 : Int32), .int 0, .int (0 : Int32), .ref m_tape, .int 0, .ref m_slots, .ref m_leaves, .int 0, .int 0, .ref m_fresh, .int 0, .int 0, .int 0, .ref m_digestAt, .ref m_isGroup, .ref m_counts, .int 0, .int 0, .long 0, .int 0, .ref m_versionRow, .int 0, .long 0, .ref m_state, .ref m_names, .int 0, .ref m_keptRow, .int 0, .ref m_inSlot, .ref m_inAt, .ref m_inSize, .ref m_inDigest, .int 0]))] sz) [(mo, .inr (11, [.ref m_disk, .int (nI P), .int ((8224 : Int32) + ((26 : Int32) * (nI P))), .int (1 : Int32), .int 0, .int (-1 : Int32), .int 0, .int (0 : Int32), .ref m_tape, .int 0, .ref m_slots, .ref m_leaves, .int 0, .int (0 : Int32), .ref m_fresh, .int 0, .int 0, .int 0, .ref m_digestAt, .ref m_isGroup, .ref m_counts, .int 0, .int 0, .long 0, .int 0, .ref m_versionRow, .int 0, .long 0, .ref m_state, .ref m_names, .int 0, .ref m_keptRow, .int 0, .ref m_inSlot, .ref m_inAt, .ref m_inSize, .ref m_inDigest, .int 0]))]) (va_A [(mo, .inr (11, [.ref m_disk, .int (nI P), .int ((8224 : Int32) + ((26 : Int32) * (nI P))), .int (1 : Int32), .int 0, .int (-1 : Int32), .int 0, .int (0 : Int32), .ref m_tape, .int 0, .ref m_slots, .ref m_leaves, .int 0, .int 0, .ref m_fresh, .int 0, .int 0, .int 0, .ref m_digestAt, .ref m_isGroup, .ref m_counts, .int 0, .int 0, .long 0, .int 0, .ref m_versionRow, .int 0, .long 0, .ref m_state, .ref m_names, .int 0, .ref m_keptRow, .int 0, .ref m_inSlot, .ref m_inAt, .ref m_inSize, .ref m_inDigest, .int 0]))] sz)) 0 0 (va_A [(mo, .inr (11, [.ref m_disk, .int (nI P), .int ((8224 : Int32) + ((26 : Int32) * (nI P))), .int (1 : Int32), .int 0, .int (-1 : Int32), .int 0, .int (0 : Int32), .ref m_tape, .int 0, .ref m_slots, .ref m_leaves, .int 0, .int 0, .ref m_fresh, .int 0, .int 0, .int 0, .ref m_digestAt, .ref m_isGroup, .ref m_counts, .int 0, .int 0, .long 0, .int 0, .ref m_versionRow, .int 0, .long 0, .ref m_state, .ref m_names, .int 0, .ref m_keptRow, .int 0, .ref m_inSlot, .ref m_inAt, .ref m_inSize, .ref m_inDigest, .int 0]))] sz) := by
  refine Met.ofW (cc := cX9_told) (maxL := 2) (ret := (some .int)) (by decide) rfl ?_
  intro p e s m args below meth c s₁ B hml hv
  obtain ⟨rfl, hsz, hP, hK, hD0⟩ := hv
  have hx := B.exec
  have hb := B.bytes
  have hr := B.returns
  have hts := atoms_spec (ws := wsX9_told) B.pre
  have hown : s.vm.findClass RX9 = some m.cls := findClass_of_methodNamed B.named
  have hlocks := B.notSynchronized
  subst hsz
  have hD := hD0.self (sz := s.heap.size)
  generalize hAe : va_A [(mo, .inr (11, [.ref m_disk, .int (nI P), .int ((8224 : Int32) + ((26 : Int32) * (nI P))), .int (1 : Int32), .int 0, .int (-1 : Int32), .int 0, .int (0 : Int32), .ref m_tape, .int 0, .ref m_slots, .ref m_leaves, .int 0, .int 0, .ref m_fresh, .int 0, .int 0, .int 0, .ref m_digestAt, .ref m_isGroup, .ref m_counts, .int 0, .int 0, .long 0, .int 0, .ref m_versionRow, .int 0, .long 0, .ref m_state, .ref m_names, .int 0, .ref m_keptRow, .int 0, .ref m_inSlot, .ref m_inAt, .ref m_inSize, .ref m_inDigest, .int 0]))] s.heap.size = A at hD ⊢
  have hA : ∀ q : Nat, s.heap.size ≤ q → A q := fun q h => by rw [← hAe]; exact Or.inr h
  have hS : va_S A s.heap s.heap [] := va_S.rf
  have hl := lv_entry ([.ref mo, .int (1 : Int32)]) (n := 2) (Nat.le_of_ble_eq_true rfl)
  rw [lg_entry_eq]
  generalize (lg_sl ([.ref mo, .int (1 : Int32)]) ++ List.replicate (2 - (lg_sl ([.ref mo, .int (1 : Int32)])).length) Slot.unset).toArray = ls at hl ⊢
  have hl : lv_has ls 2 [(0, .ref mo), (1, .int (1 : Int32))] := hl
  refine lv_aload_n hx hb dX9_told_0 rfl (lv_at hl 0 rfl) ?_
  refine lv_iload_n hx hb dX9_told_1 rfl (lv_at hl 1 rfl) ?_
  refine lv_iconst (v := 0) hx hb dX9_told_2 (by decide) ?_
  refine lv_bipush (v := 8) hx hb dX9_told_3 (by decide) ?_
  have hPc := hP.sub (ws' := []) [] rfl
  have hKc := hK.sub (tys' := []) [] rfl
  refine vp_callSi (va_Run.run (va_runS (As := [.int (1 : Int32), .int (0 : Int32), .int (8 : Int32)]) (rest := [.ref mo]) ⟨hx, hb, hml, hown, hts⟩ (k_X9_within_3 l dC dI (1 : Int32) (0 : Int32) (8 : Int32) (by decide) (by decide)) (va_cwS 3 hts gX9_told_X9_within rfl rfl rfl (by decide +kernel) ⟨Nat.le_of_ble_eq_true rfl, Nat.le_of_ble_eq_true rfl⟩) ⟨fun a U g mk q => by obtain ⟨q0, qP, qK⟩ := q; exact ⟨q0, qP, va_K.moved (u := U) (U := U.calling g mk a) (Vm.Alike.refl U.vm) qK⟩, fun U hU hW => ⟨rfl, by rw [hU]; exact hPc, va_K.moved hW.alike hKc⟩⟩ rfl rfl hl.1 rfl (lv_room (Nat.le_of_ble_eq_true rfl)) dX9_told_5 ⟨Nat.le_of_ble_eq_true rfl, Nat.le_of_ble_eq_true rfl⟩)) (fun r_1 er_1 => ?_)
  subst er_1
  refine lv_if_eq (tgt := 15) hx hb dX9_told_8 (by decide) (fun c_2 => ?_) (fun c_2 => ?_)
  · skip
    exact absurd c_2 (by decide)
  · skip
    refine lv_iconst (v := 0) hx hb dX9_told_11 (by decide) ?_
    refine lv_goto (tgt := 16) hx hb dX9_told_12 (by decide) ?_
    refine va_put (D := (dC, dI)) (ci := 11) (v := .int (0 : Int32)) (ty := .int) (C := RX9) (T := TX9) (N := 38) hx hb hts (by decide +kernel) tyX9 tyX9_ok nmX9 hown hK hP hD hS 0 rfl rfl 13 (by decide) (hts (.fieldLink RX9 91 "BlockLogModel" "thrown" "I") (by decide +kernel)) (fun _ h9 => h9) rfl (by decide +kernel) rfl rfl (Nat.le_of_ble_eq_true rfl) dX9_told_16 (fun H locs hP hD hS => ?_)
    have hP : va_P (dC, dI) vwCl [(mo, .inr (11, [.ref m_disk, .int (nI P), .int ((8224 : Int32) + ((26 : Int32) * (nI P))), .int (1 : Int32), .int 0, .int (-1 : Int32), .int 0, .int (0 : Int32), .ref m_tape, .int 0, .ref m_slots, .ref m_leaves, .int 0, .int (0 : Int32), .ref m_fresh, .int 0, .int 0, .int 0, .ref m_digestAt, .ref m_isGroup, .ref m_counts, .int 0, .int 0, .long 0, .int 0, .ref m_versionRow, .int 0, .long 0, .ref m_state, .ref m_names, .int 0, .ref m_keptRow, .int 0, .ref m_inSlot, .ref m_inAt, .ref m_inSize, .ref m_inDigest, .int 0]))] H := hP
    have hD : va_D A [(mo, .inr (11, [.ref m_disk, .int (nI P), .int ((8224 : Int32) + ((26 : Int32) * (nI P))), .int (1 : Int32), .int 0, .int (-1 : Int32), .int 0, .int (0 : Int32), .ref m_tape, .int 0, .ref m_slots, .ref m_leaves, .int 0, .int (0 : Int32), .ref m_fresh, .int 0, .int 0, .int 0, .ref m_digestAt, .ref m_isGroup, .ref m_counts, .int 0, .int 0, .long 0, .int 0, .ref m_versionRow, .int 0, .long 0, .ref m_state, .ref m_names, .int 0, .ref m_keptRow, .int 0, .ref m_inSlot, .ref m_inAt, .ref m_inSize, .ref m_inDigest, .int 0]))] := hD
    refine lv_aload_n hx hb dX9_told_19 rfl (lv_at hl 0 rfl) ?_
    refine va_get (D := (dC, dI)) (ci := 11) (v := .int (0 : Int32)) (C := RX9) (T := TX9) (N := 38) hx hb hts (by decide +kernel) hown hK hP 0 rfl rfl 13 (by decide) (hts (.fieldLink RX9 91 "BlockLogModel" "thrown" "I") (by decide +kernel)) (fun _ h9 => h9) rfl dX9_told_20 ?_
    refine lv_if_le (tgt := 28) hx hb dX9_told_23 (by decide) (fun c_3 => ?_) (fun c_3 => ?_)
    · skip
      refine lv_iload_n hx hb dX9_told_28 rfl (lv_at hl 1 rfl) ?_
      refine lv_if_ne (tgt := 45) hx hb dX9_told_29 (by decide) (fun c_4 => ?_) (fun c_4 => ?_)
      · skip
        refine lv_iload_n hx hb dX9_told_45 rfl (lv_at hl 1 rfl) ?_
        refine lv_iconst (v := 1) hx hb dX9_told_46 (by decide) ?_
        refine lv_icmp_ne (tgt := 55) hx hb dX9_told_47 (by decide) (fun c_5 => ?_) (fun c_5 => ?_)
        · skip
          exact absurd (by decide) c_5
        · skip
          refine lv_aload_n hx hb dX9_told_50 rfl (lv_at hl 0 rfl) ?_
          refine va_get (D := (dC, dI)) (ci := 11) (v := .int 0) (C := RX9) (T := TX9) (N := 38) hx hb hts (by decide +kernel) hown hK hP 0 rfl rfl 4 (by decide) (hts (.fieldLink RX9 114 "BlockLogModel" "acts" "I") (by decide +kernel)) (fun _ h9 => h9) rfl dX9_told_51 ?_
          have hP := hP.sub (ws' := [(mo, .inr (11, [.ref m_disk, .int (nI P), .int ((8224 : Int32) + ((26 : Int32) * (nI P))), .int (1 : Int32), .int 0, .int (-1 : Int32), .int 0, .int (0 : Int32), .ref m_tape, .int 0, .ref m_slots, .ref m_leaves, .int 0, .int (0 : Int32), .ref m_fresh, .int 0, .int 0, .int 0, .ref m_digestAt, .ref m_isGroup, .ref m_counts, .int 0, .int 0, .long 0, .int 0, .ref m_versionRow, .int 0, .long 0, .ref m_state, .ref m_names, .int 0, .ref m_keptRow, .int 0, .ref m_inSlot, .ref m_inAt, .ref m_inSize, .ref m_inDigest, .int 0]))]) [0] rfl
          have hD := hD.sub (ws' := [(mo, .inr (11, [.ref m_disk, .int (nI P), .int ((8224 : Int32) + ((26 : Int32) * (nI P))), .int (1 : Int32), .int 0, .int (-1 : Int32), .int 0, .int (0 : Int32), .ref m_tape, .int 0, .ref m_slots, .ref m_leaves, .int 0, .int (0 : Int32), .ref m_fresh, .int 0, .int 0, .int 0, .ref m_digestAt, .ref m_isGroup, .ref m_counts, .int 0, .int 0, .long 0, .int 0, .ref m_versionRow, .int 0, .long 0, .ref m_state, .ref m_names, .int 0, .ref m_keptRow, .int 0, .ref m_inSlot, .ref m_inAt, .ref m_inSize, .ref m_inDigest, .int 0]))]) [0] (by decide) rfl
          have hK := hK.sub (tys' := []) [] rfl
          exact W.iret hx hb hr (fun t ht hW => ⟨⟨_, (), rfl, rfl, by rw [ht]; exact hP, va_K.moved hW.alike hK, hD⟩, hS.F ht⟩) hS.2.2 dX9_told_54
      · skip
        exact absurd c_4 (by decide)
    · skip
      exact absurd (by decide) c_3

set_option maxHeartbeats 4000000 in
set_option maxRecDepth 100000 in
theorem k_X8_told_5 (l : Launch) (dC : Nat → ClassId) (dI : Nat → Nat → Nat) (x : Nat) (rr : Nat) (ds : Nat) (tp : Nat) (so : Nat) (pu : Nat) (sn : Nat) (im : Nat) (cs : Nat) (cl : Nat) (ri : Nat) (pg : Int32) (dl : Nat) (dr : Nat) (dt : Nat)  : Met l yX8_told wsX8_told ({ frames := 0, cells := 0, slots := 0, locals := 0 }) (va_Pc [.ref x, .int (2 : Int32)] (fun U => va_P (dC, dI) vwCl [(x, .inr (10, [.ref tp, .ref ds, .ref rr, .ref so, .ref pu, .ref sn, .ref im, .ref cs, .ref cl, .int (0 : Int32)])), (rr, .inr (6, [.ref ds, .ref ri, .int 0, .int 1, .int 0, .int 0])), (ds, .inr (3, [.int pg, .ref dl, .ref dr, .ref dt, .int (1 : Int32), .int (-1 : Int32), .int (0 : Int32)]))] U.heap ∧ va_K (dC, dI) vwCl [] U ∧ gx_W U)) (vp_Si (fun r => r = 0)) 0 0 (fun _ => False) := by
  refine Met.ofW (cc := cX8_told) (maxL := 2) (ret := (some .int)) (by decide) rfl ?_
  intro p e s m args below meth c s₁ B hml hv
  obtain ⟨rfl, hP, hK, hG⟩ := hv
  have hx := B.exec
  have hb := B.bytes
  have hr := B.returns
  have hts := atoms_spec (ws := wsX8_told) B.pre
  have hown : s.vm.findClass RX8 = some m.cls := findClass_of_methodNamed B.named
  have hlocks := B.notSynchronized
  have hl := lv_entry ([.ref x, .int (2 : Int32)]) (n := 2) (Nat.le_of_ble_eq_true rfl)
  rw [lg_entry_eq]
  generalize (lg_sl ([.ref x, .int (2 : Int32)]) ++ List.replicate (2 - (lg_sl ([.ref x, .int (2 : Int32)])).length) Slot.unset).toArray = ls at hl ⊢
  have hl : lv_has ls 2 [(0, .ref x), (1, .int (2 : Int32))] := hl
  refine lv_iload_n hx hb dX8_told_0 rfl (lv_at hl 1 rfl) ?_
  refine lv_if_lt (tgt := 10) hx hb dX8_told_1 (by decide) (fun c_1 => ?_) (fun c_1 => ?_)
  · skip
    exact absurd c_1 (by decide)
  · skip
    refine lv_iload_n hx hb dX8_told_4 rfl (lv_at hl 1 rfl) ?_
    refine lv_bipush (v := 8) hx hb dX8_told_5 (by decide) ?_
    refine lv_icmp_le (tgt := 21) hx hb dX8_told_7 (by decide) (fun c_2 => ?_) (fun c_2 => ?_)
    · skip
      refine lv_iload_n hx hb dX8_told_21 rfl (lv_at hl 1 rfl) ?_
      refine lv_iconst (v := 1) hx hb dX8_told_22 (by decide) ?_
      refine lv_icmp_ne (tgt := 34) hx hb dX8_told_23 (by decide) (fun c_3 => ?_) (fun c_3 => ?_)
      · skip
        refine lv_aload_n hx hb dX8_told_34 rfl (lv_at hl 0 rfl) ?_
        refine va_get (D := (dC, dI)) (ci := 10) (v := .ref ds) (C := RX8) (T := TX8) (N := 10) hx hb hts (by decide +kernel) hown hK hP 0 rfl rfl 1 (by decide) (hts (.fieldLink RX8 22 "BlockLog" "disk" "LBlockLog$Disk;") (by decide +kernel)) (fun _ h9 => h9) rfl dX8_told_35 ?_
        refine va_getN (D := (dC, dI)) (ci := 3) (v := .int (1 : Int32)) (C := RX1) (T := TX1) (N := 7) hx hb hts (by decide +kernel) hown hK hP 2 rfl rfl 4 (by decide) (va_Nw.use rfl (hG.1 ("BlockLog", 287, "BlockLog$Disk", "powered", "Z", "BlockLog") (by decide +kernel))) (fun _ h9 => h9) rfl dX8_told_38 ?_
        refine lv_if_ne (tgt := 46) hx hb dX8_told_41 (by decide) (fun c_4 => ?_) (fun c_4 => ?_)
        · skip
          refine lv_iload_n hx hb dX8_told_46 rfl (lv_at hl 1 rfl) ?_
          refine lv_tableIn (off := 41) (tgt := 88) hx hb dX8_told_47 (by decide +kernel) (by decide +kernel) (by decide +kernel) (by decide) ?_
          refine lv_aload_n hx hb dX8_told_88 rfl (lv_at hl 0 rfl) ?_
          refine va_get (D := (dC, dI)) (ci := 10) (v := .ref rr) (C := RX8) (T := TX8) (N := 10) hx hb hts (by decide +kernel) hown hK hP 0 rfl rfl 2 (by decide) (hts (.fieldLink RX8 31 "BlockLog" "rows" "LBlockLog$Rows;") (by decide +kernel)) (fun _ h9 => h9) rfl dX8_told_89 ?_
          refine va_getN (D := (dC, dI)) (ci := 6) (v := .int 0) (C := RX4) (T := TX4) (N := 6) hx hb hts (by decide +kernel) hown hK hP 1 rfl rfl 2 (by decide) (va_Nw.use rfl (hG.1 ("BlockLog", 252, "BlockLog$Rows", "area", "I", "BlockLog") (by decide +kernel))) (fun _ h9 => h9) rfl dX8_told_92 ?_
          exact W.iret hx hb hr (fun t ht hW => ⟨_, rfl, rfl, ht⟩) (fun q h => by cases h) dX8_told_95
        · skip
          exact absurd c_4 (by decide)
      · skip
        exact absurd c_3 (by decide)
    · skip
      exact absurd (by decide) c_2

set_option maxHeartbeats 4000000 in
set_option maxRecDepth 100000 in
theorem k_L_told_5 (l : Launch) (dC : Nat → ClassId) (dI : Nat → Nat → Nat) (x : Nat) (ho : Nat) (rr : Nat) (ds : Nat) (tp : Nat) (so : Nat) (pu : Nat) (sn : Nat) (im : Nat) (cs : Nat) (cl : Nat) (ri : Nat) (pg : Int32) (dl : Nat) (dr : Nat) (dt : Nat) (cJ : ClassId) (g1 : Nat → Int64) (sz : Nat)  : Met l yL_told wsL_told ({ frames := 1, cells := 0, slots := 0, locals := 21 }) (va_Pc [.ref x, .int (2 : Int32), .ref ho] (fun U => U.heap.size = sz ∧ va_P (dC, dI) vwCl [(x, .inr (10, [.ref tp, .ref ds, .ref rr, .ref so, .ref pu, .ref sn, .ref im, .ref cs, .ref cl, .int (0 : Int32)])), (rr, .inr (6, [.ref ds, .ref ri, .int 0, .int 1, .int 0, .int 0])), (ds, .inr (3, [.int pg, .ref dl, .ref dr, .ref dt, .int (1 : Int32), .int (-1 : Int32), .int (0 : Int32)])), (ho, .inl (cJ, 1, .inr (.inl g1)))] U.heap ∧ va_K (dC, dI) vwCl [(cJ, .long)] U ∧ va_D (fun _ => True) [(x, .inr (10, [.ref tp, .ref ds, .ref rr, .ref so, .ref pu, .ref sn, .ref im, .ref cs, .ref cl, .int (0 : Int32)])), (rr, .inr (6, [.ref ds, .ref ri, .int 0, .int 1, .int 0, .int 0])), (ds, .inr (3, [.int pg, .ref dl, .ref dr, .ref dt, .int (1 : Int32), .int (-1 : Int32), .int (0 : Int32)])), (ho, .inl (cJ, 1, .inr (.inl g1)))] ∧ gx_E (va_A [(x, .inr (10, [.ref tp, .ref ds, .ref rr, .ref so, .ref pu, .ref sn, .ref im, .ref cs, .ref cl, .int (0 : Int32)])), (rr, .inr (6, [.ref ds, .ref ri, .int 0, .int 1, .int 0, .int 0])), (ds, .inr (3, [.int pg, .ref dl, .ref dr, .ref dt, .int (1 : Int32), .int (-1 : Int32), .int (0 : Int32)])), (ho, .inl (cJ, 1, .inr (.inl g1)))] sz) U)) (va_Qi (fun r (_ : Unit) => r = (0 : Int32)) (fun (_ : Unit) t => va_P (dC, dI) vwCl [(ho, .inl (cJ, 1, .inr (.inl (vp_updL g1 (0 : Int32).toNatClampNeg ((0 : Int32).toInt64)))))] t.heap ∧ va_K (dC, dI) vwCl [(cJ, .long)] t ∧ va_D (va_A [(x, .inr (10, [.ref tp, .ref ds, .ref rr, .ref so, .ref pu, .ref sn, .ref im, .ref cs, .ref cl, .int (0 : Int32)])), (rr, .inr (6, [.ref ds, .ref ri, .int 0, .int 1, .int 0, .int 0])), (ds, .inr (3, [.int pg, .ref dl, .ref dr, .ref dt, .int (1 : Int32), .int (-1 : Int32), .int (0 : Int32)])), (ho, .inl (cJ, 1, .inr (.inl g1)))] sz) [(ho, .inl (cJ, 1, .inr (.inl (vp_updL g1 (0 : Int32).toNatClampNeg ((0 : Int32).toInt64)))))]) (va_A [(x, .inr (10, [.ref tp, .ref ds, .ref rr, .ref so, .ref pu, .ref sn, .ref im, .ref cs, .ref cl, .int (0 : Int32)])), (rr, .inr (6, [.ref ds, .ref ri, .int 0, .int 1, .int 0, .int 0])), (ds, .inr (3, [.int pg, .ref dl, .ref dr, .ref dt, .int (1 : Int32), .int (-1 : Int32), .int (0 : Int32)])), (ho, .inl (cJ, 1, .inr (.inl g1)))] sz)) 0 0 (va_A [(x, .inr (10, [.ref tp, .ref ds, .ref rr, .ref so, .ref pu, .ref sn, .ref im, .ref cs, .ref cl, .int (0 : Int32)])), (rr, .inr (6, [.ref ds, .ref ri, .int 0, .int 1, .int 0, .int 0])), (ds, .inr (3, [.int pg, .ref dl, .ref dr, .ref dt, .int (1 : Int32), .int (-1 : Int32), .int (0 : Int32)])), (ho, .inl (cJ, 1, .inr (.inl g1)))] sz) := by
  refine va_MetW (cc := cL_told) (maxL := 4) (ret := (some .int)) (hh := [(0, 9, 12, 13)]) (by decide) rfl ?_
  intro p e s m args below meth c s₁ B hml hv
  obtain ⟨rfl, hsz, hP, hK, hD0, hG⟩ := hv
  have hx := B.exec
  have hb := B.bytes
  have hr := B.returns
  have hts := atoms_spec (ws := wsL_told) B.pre
  have hown : s.vm.findClass RL = some m.cls := findClass_of_methodNamed B.named
  have hlocks := B.notSynchronized
  have htab := vx_table (x := yL_told) B (hts (.codeWith yL_told cL_told 4 (some .int) [(0, 9, 12, 13)]) List.mem_cons_self)
  subst hsz
  have hD := hD0.self (sz := s.heap.size)
  generalize hAe : va_A [(x, .inr (10, [.ref tp, .ref ds, .ref rr, .ref so, .ref pu, .ref sn, .ref im, .ref cs, .ref cl, .int (0 : Int32)])), (rr, .inr (6, [.ref ds, .ref ri, .int 0, .int 1, .int 0, .int 0])), (ds, .inr (3, [.int pg, .ref dl, .ref dr, .ref dt, .int (1 : Int32), .int (-1 : Int32), .int (0 : Int32)])), (ho, .inl (cJ, 1, .inr (.inl g1)))] s.heap.size = A at hD hG ⊢
  have hA : ∀ q : Nat, s.heap.size ≤ q → A q := fun q h => by rw [← hAe]; exact Or.inr h
  have hS : va_S A s.heap s.heap [] := va_S.rf
  have hl := lv_entry ([.ref x, .int (2 : Int32), .ref ho]) (n := 4) (Nat.le_of_ble_eq_true rfl)
  rw [lg_entry_eq]
  generalize (lg_sl ([.ref x, .int (2 : Int32), .ref ho]) ++ List.replicate (4 - (lg_sl ([.ref x, .int (2 : Int32), .ref ho])).length) Slot.unset).toArray = ls at hl ⊢
  have hl : lv_has ls 4 [(0, .ref x), (1, .int (2 : Int32)), (2, .ref ho)] := hl
  refine lv_aload_n hx hb dL_told_0 rfl (lv_at hl 2 rfl) ?_
  refine lv_iconst (v := 0) hx hb dL_told_1 (by decide) ?_
  refine lv_aload_n hx hb dL_told_2 rfl (lv_at hl 0 rfl) ?_
  refine lv_iload_n hx hb dL_told_3 rfl (lv_at hl 1 rfl) ?_
  have hPc := hP.sub (ws' := [(x, .inr (10, [.ref tp, .ref ds, .ref rr, .ref so, .ref pu, .ref sn, .ref im, .ref cs, .ref cl, .int (0 : Int32)])), (rr, .inr (6, [.ref ds, .ref ri, .int 0, .int 1, .int 0, .int 0])), (ds, .inr (3, [.int pg, .ref dl, .ref dr, .ref dt, .int (1 : Int32), .int (-1 : Int32), .int (0 : Int32)]))]) [0, 1, 2] rfl
  have hKc := hK.sub (tys' := []) [] rfl
  refine vp_callSi (va_Run.run (va_runV (As := [.int (2 : Int32)]) (rest := [.int (0 : Int32), .ref ho]) ⟨hx, hb, hml, hown, hts⟩ (k_X8_told_5 l dC dI x rr ds tp so pu sn im cs cl ri pg dl dr dt) (cwV 1 hts gL_told_X8_told rfl rfl rfl (by decide +kernel) ⟨Nat.le_of_ble_eq_true rfl, Nat.le_of_ble_eq_true rfl⟩) ⟨fun a U g mk q => by obtain ⟨q0, qP, qK, qG⟩ := q; exact ⟨q0, qP, va_K.moved (u := U) (U := U.calling g mk a) (Vm.Alike.refl U.vm) qK, qG.same rfl⟩, va_recv hK hP (ci := 10) (q := (RX8, TX8, 10)) rfl (q0 := 0) rfl, fun U hU hW => ⟨rfl, by rw [hU]; exact hPc, va_K.moved hW.alike hKc, hG.1.warm hW⟩⟩ rfl rfl hl.1 rfl (lv_room (Nat.le_of_ble_eq_true rfl)) dL_told_4 ⟨Nat.le_of_ble_eq_true rfl, Nat.le_of_ble_eq_true rfl⟩)) (fun r_1 er_1 => ?_)
  replace er_1 := er_1.trans (show _ = (0 : Int32) by decide +kernel)
  subst er_1
  refine lv_i2l hx hb dL_told_7 rfl ?_
  refine va_last hx hb hK hP hD hS 3 0 rfl rfl (by unfold vp_in; decide +kernel) dL_told_8 (fun H locs hP hD hS => ?_)
  have hP : va_P (dC, dI) vwCl [(x, .inr (10, [.ref tp, .ref ds, .ref rr, .ref so, .ref pu, .ref sn, .ref im, .ref cs, .ref cl, .int (0 : Int32)])), (rr, .inr (6, [.ref ds, .ref ri, .int 0, .int 1, .int 0, .int 0])), (ds, .inr (3, [.int pg, .ref dl, .ref dr, .ref dt, .int (1 : Int32), .int (-1 : Int32), .int (0 : Int32)])), (ho, .inl (cJ, 1, .inr (.inl (vp_updL g1 (0 : Int32).toNatClampNeg ((0 : Int32).toInt64)))))] H := hP
  have hD : va_D A [(x, .inr (10, [.ref tp, .ref ds, .ref rr, .ref so, .ref pu, .ref sn, .ref im, .ref cs, .ref cl, .int (0 : Int32)])), (rr, .inr (6, [.ref ds, .ref ri, .int 0, .int 1, .int 0, .int 0])), (ds, .inr (3, [.int pg, .ref dl, .ref dr, .ref dt, .int (1 : Int32), .int (-1 : Int32), .int (0 : Int32)])), (ho, .inl (cJ, 1, .inr (.inl (vp_updL g1 (0 : Int32).toNatClampNeg ((0 : Int32).toInt64)))))] := hD
  refine lv_goto (tgt := 15) hx hb dL_told_9 (by decide) ?_
  refine lv_iconst (v := 0) hx hb dL_told_15 (by decide) ?_
  have hP := hP.sub (ws' := [(ho, .inl (cJ, 1, .inr (.inl (vp_updL g1 (0 : Int32).toNatClampNeg ((0 : Int32).toInt64)))))]) [3] rfl
  have hD := hD.sub (ws' := [(ho, .inl (cJ, 1, .inr (.inl (vp_updL g1 (0 : Int32).toNatClampNeg ((0 : Int32).toInt64)))))]) [3] (by decide) rfl
  have hK := hK.sub (tys' := [(cJ, .long)]) [0] rfl
  exact W.iret hx hb hr (fun t ht hW => ⟨⟨_, (), rfl, rfl, by rw [ht]; exact hP, va_K.moved hW.alike hK, hD⟩, hS.F ht⟩) hS.2.2 dL_told_16

set_option maxHeartbeats 4000000 in
set_option maxRecDepth 100000 in
theorem k_X9_told_5 (l : Launch) (dC : Nat → ClassId) (dI : Nat → Nat → Nat) (mo : Nat) (m_disk : Nat) (P : Nat) (m_tape : Nat) (m_slots : Nat) (m_leaves : Nat) (m_fresh : Nat) (m_digestAt : Nat) (m_isGroup : Nat) (m_counts : Nat) (m_versionRow : Nat) (m_state : Nat) (m_names : Nat) (m_keptRow : Nat) (m_inSlot : Nat) (m_inAt : Nat) (m_inSize : Nat) (m_inDigest : Nat) (sz : Nat)  : Met l yX9_told wsX9_told ({ frames := 1, cells := 0, slots := 0, locals := 22 }) (va_Pc [.ref mo, .int (2 : Int32)] (fun U => U.heap.size = sz ∧ va_P (dC, dI) vwCl [(mo, .inr (11, [.ref m_disk, .int (nI P), .int ((8224 : Int32) + ((26 : Int32) * (nI P))), .int (1 : Int32), .int 0, .int (-1 : Int32), .int 0, .int (0 : Int32), .ref m_tape, .int 0, .ref m_slots, .ref m_leaves, .int 0, .int 0, .ref m_fresh, .int 0, .int 0, .int 0, .ref m_digestAt, .ref m_isGroup, .ref m_counts, .int 0, .int 0, .long 0, .int 0, .ref m_versionRow, .int 0, .long 0, .ref m_state, .ref m_names, .int 0, .ref m_keptRow, .int 0, .ref m_inSlot, .ref m_inAt, .ref m_inSize, .ref m_inDigest, .int 0]))] U.heap ∧ va_K (dC, dI) vwCl [] U ∧ va_D (fun _ => True) [(mo, .inr (11, [.ref m_disk, .int (nI P), .int ((8224 : Int32) + ((26 : Int32) * (nI P))), .int (1 : Int32), .int 0, .int (-1 : Int32), .int 0, .int (0 : Int32), .ref m_tape, .int 0, .ref m_slots, .ref m_leaves, .int 0, .int 0, .ref m_fresh, .int 0, .int 0, .int 0, .ref m_digestAt, .ref m_isGroup, .ref m_counts, .int 0, .int 0, .long 0, .int 0, .ref m_versionRow, .int 0, .long 0, .ref m_state, .ref m_names, .int 0, .ref m_keptRow, .int 0, .ref m_inSlot, .ref m_inAt, .ref m_inSize, .ref m_inDigest, .int 0]))])) (va_Qi (fun r (_ : Unit) => r = (0 : Int32)) (fun (_ : Unit) t => va_P (dC, dI) vwCl [(mo, .inr (11, [.ref m_disk, .int (nI P), .int ((8224 : Int32) + ((26 : Int32) * (nI P))), .int (1 : Int32), .int 0, .int (-1 : Int32), .int 0, .int (0 : Int32), .ref m_tape, .int 0, .ref m_slots, .ref m_leaves, .int 0, .int (0 : Int32), .ref m_fresh, .int 0, .int 0, .int 0, .ref m_digestAt, .ref m_isGroup, .ref m_counts, .int 0, .int 0, .long 0, .int 0, .ref m_versionRow, .int 0, .long 0, .ref m_state, .ref m_names, .int 0, .ref m_keptRow, .int 0, .ref m_inSlot, .ref m_inAt, .ref m_inSize, .ref m_inDigest, .int 0]))] t.heap ∧ va_K (dC, dI) vwCl [] t ∧ va_D (va_A [(mo, .inr (11, [.ref m_disk, .int (nI P), .int ((8224 : Int32) + ((26 : Int32) * (nI P))), .int (1 : Int32), .int 0, .int (-1 : Int32), .int 0, .int (0 : Int32), .ref m_tape, .int 0, .ref m_slots, .ref m_leaves, .int 0, .int 0, .ref m_fresh, .int 0, .int 0, .int 0, .ref m_digestAt, .ref m_isGroup, .ref m_counts, .int 0, .int 0, .long 0, .int 0, .ref m_versionRow, .int 0, .long 0, .ref m_state, .ref m_names, .int 0, .ref m_keptRow, .int 0, .ref m_inSlot, .ref m_inAt, .ref m_inSize, .ref m_inDigest, .int 0]))] sz) [(mo, .inr (11, [.ref m_disk, .int (nI P), .int ((8224 : Int32) + ((26 : Int32) * (nI P))), .int (1 : Int32), .int 0, .int (-1 : Int32), .int 0, .int (0 : Int32), .ref m_tape, .int 0, .ref m_slots, .ref m_leaves, .int 0, .int (0 : Int32), .ref m_fresh, .int 0, .int 0, .int 0, .ref m_digestAt, .ref m_isGroup, .ref m_counts, .int 0, .int 0, .long 0, .int 0, .ref m_versionRow, .int 0, .long 0, .ref m_state, .ref m_names, .int 0, .ref m_keptRow, .int 0, .ref m_inSlot, .ref m_inAt, .ref m_inSize, .ref m_inDigest, .int 0]))]) (va_A [(mo, .inr (11, [.ref m_disk, .int (nI P), .int ((8224 : Int32) + ((26 : Int32) * (nI P))), .int (1 : Int32), .int 0, .int (-1 : Int32), .int 0, .int (0 : Int32), .ref m_tape, .int 0, .ref m_slots, .ref m_leaves, .int 0, .int 0, .ref m_fresh, .int 0, .int 0, .int 0, .ref m_digestAt, .ref m_isGroup, .ref m_counts, .int 0, .int 0, .long 0, .int 0, .ref m_versionRow, .int 0, .long 0, .ref m_state, .ref m_names, .int 0, .ref m_keptRow, .int 0, .ref m_inSlot, .ref m_inAt, .ref m_inSize, .ref m_inDigest, .int 0]))] sz)) 0 0 (va_A [(mo, .inr (11, [.ref m_disk, .int (nI P), .int ((8224 : Int32) + ((26 : Int32) * (nI P))), .int (1 : Int32), .int 0, .int (-1 : Int32), .int 0, .int (0 : Int32), .ref m_tape, .int 0, .ref m_slots, .ref m_leaves, .int 0, .int 0, .ref m_fresh, .int 0, .int 0, .int 0, .ref m_digestAt, .ref m_isGroup, .ref m_counts, .int 0, .int 0, .long 0, .int 0, .ref m_versionRow, .int 0, .long 0, .ref m_state, .ref m_names, .int 0, .ref m_keptRow, .int 0, .ref m_inSlot, .ref m_inAt, .ref m_inSize, .ref m_inDigest, .int 0]))] sz) := by
  refine Met.ofW (cc := cX9_told) (maxL := 2) (ret := (some .int)) (by decide) rfl ?_
  intro p e s m args below meth c s₁ B hml hv
  obtain ⟨rfl, hsz, hP, hK, hD0⟩ := hv
  have hx := B.exec
  have hb := B.bytes
  have hr := B.returns
  have hts := atoms_spec (ws := wsX9_told) B.pre
  have hown : s.vm.findClass RX9 = some m.cls := findClass_of_methodNamed B.named
  have hlocks := B.notSynchronized
  subst hsz
  have hD := hD0.self (sz := s.heap.size)
  generalize hAe : va_A [(mo, .inr (11, [.ref m_disk, .int (nI P), .int ((8224 : Int32) + ((26 : Int32) * (nI P))), .int (1 : Int32), .int 0, .int (-1 : Int32), .int 0, .int (0 : Int32), .ref m_tape, .int 0, .ref m_slots, .ref m_leaves, .int 0, .int 0, .ref m_fresh, .int 0, .int 0, .int 0, .ref m_digestAt, .ref m_isGroup, .ref m_counts, .int 0, .int 0, .long 0, .int 0, .ref m_versionRow, .int 0, .long 0, .ref m_state, .ref m_names, .int 0, .ref m_keptRow, .int 0, .ref m_inSlot, .ref m_inAt, .ref m_inSize, .ref m_inDigest, .int 0]))] s.heap.size = A at hD ⊢
  have hA : ∀ q : Nat, s.heap.size ≤ q → A q := fun q h => by rw [← hAe]; exact Or.inr h
  have hS : va_S A s.heap s.heap [] := va_S.rf
  have hl := lv_entry ([.ref mo, .int (2 : Int32)]) (n := 2) (Nat.le_of_ble_eq_true rfl)
  rw [lg_entry_eq]
  generalize (lg_sl ([.ref mo, .int (2 : Int32)]) ++ List.replicate (2 - (lg_sl ([.ref mo, .int (2 : Int32)])).length) Slot.unset).toArray = ls at hl ⊢
  have hl : lv_has ls 2 [(0, .ref mo), (1, .int (2 : Int32))] := hl
  refine lv_aload_n hx hb dX9_told_0 rfl (lv_at hl 0 rfl) ?_
  refine lv_iload_n hx hb dX9_told_1 rfl (lv_at hl 1 rfl) ?_
  refine lv_iconst (v := 0) hx hb dX9_told_2 (by decide) ?_
  refine lv_bipush (v := 8) hx hb dX9_told_3 (by decide) ?_
  have hPc := hP.sub (ws' := []) [] rfl
  have hKc := hK.sub (tys' := []) [] rfl
  refine vp_callSi (va_Run.run (va_runS (As := [.int (2 : Int32), .int (0 : Int32), .int (8 : Int32)]) (rest := [.ref mo]) ⟨hx, hb, hml, hown, hts⟩ (k_X9_within_3 l dC dI (2 : Int32) (0 : Int32) (8 : Int32) (by decide) (by decide)) (va_cwS 3 hts gX9_told_X9_within rfl rfl rfl (by decide +kernel) ⟨Nat.le_of_ble_eq_true rfl, Nat.le_of_ble_eq_true rfl⟩) ⟨fun a U g mk q => by obtain ⟨q0, qP, qK⟩ := q; exact ⟨q0, qP, va_K.moved (u := U) (U := U.calling g mk a) (Vm.Alike.refl U.vm) qK⟩, fun U hU hW => ⟨rfl, by rw [hU]; exact hPc, va_K.moved hW.alike hKc⟩⟩ rfl rfl hl.1 rfl (lv_room (Nat.le_of_ble_eq_true rfl)) dX9_told_5 ⟨Nat.le_of_ble_eq_true rfl, Nat.le_of_ble_eq_true rfl⟩)) (fun r_1 er_1 => ?_)
  subst er_1
  refine lv_if_eq (tgt := 15) hx hb dX9_told_8 (by decide) (fun c_2 => ?_) (fun c_2 => ?_)
  · skip
    exact absurd c_2 (by decide)
  · skip
    refine lv_iconst (v := 0) hx hb dX9_told_11 (by decide) ?_
    refine lv_goto (tgt := 16) hx hb dX9_told_12 (by decide) ?_
    refine va_put (D := (dC, dI)) (ci := 11) (v := .int (0 : Int32)) (ty := .int) (C := RX9) (T := TX9) (N := 38) hx hb hts (by decide +kernel) tyX9 tyX9_ok nmX9 hown hK hP hD hS 0 rfl rfl 13 (by decide) (hts (.fieldLink RX9 91 "BlockLogModel" "thrown" "I") (by decide +kernel)) (fun _ h9 => h9) rfl (by decide +kernel) rfl rfl (Nat.le_of_ble_eq_true rfl) dX9_told_16 (fun H locs hP hD hS => ?_)
    have hP : va_P (dC, dI) vwCl [(mo, .inr (11, [.ref m_disk, .int (nI P), .int ((8224 : Int32) + ((26 : Int32) * (nI P))), .int (1 : Int32), .int 0, .int (-1 : Int32), .int 0, .int (0 : Int32), .ref m_tape, .int 0, .ref m_slots, .ref m_leaves, .int 0, .int (0 : Int32), .ref m_fresh, .int 0, .int 0, .int 0, .ref m_digestAt, .ref m_isGroup, .ref m_counts, .int 0, .int 0, .long 0, .int 0, .ref m_versionRow, .int 0, .long 0, .ref m_state, .ref m_names, .int 0, .ref m_keptRow, .int 0, .ref m_inSlot, .ref m_inAt, .ref m_inSize, .ref m_inDigest, .int 0]))] H := hP
    have hD : va_D A [(mo, .inr (11, [.ref m_disk, .int (nI P), .int ((8224 : Int32) + ((26 : Int32) * (nI P))), .int (1 : Int32), .int 0, .int (-1 : Int32), .int 0, .int (0 : Int32), .ref m_tape, .int 0, .ref m_slots, .ref m_leaves, .int 0, .int (0 : Int32), .ref m_fresh, .int 0, .int 0, .int 0, .ref m_digestAt, .ref m_isGroup, .ref m_counts, .int 0, .int 0, .long 0, .int 0, .ref m_versionRow, .int 0, .long 0, .ref m_state, .ref m_names, .int 0, .ref m_keptRow, .int 0, .ref m_inSlot, .ref m_inAt, .ref m_inSize, .ref m_inDigest, .int 0]))] := hD
    refine lv_aload_n hx hb dX9_told_19 rfl (lv_at hl 0 rfl) ?_
    refine va_get (D := (dC, dI)) (ci := 11) (v := .int (0 : Int32)) (C := RX9) (T := TX9) (N := 38) hx hb hts (by decide +kernel) hown hK hP 0 rfl rfl 13 (by decide) (hts (.fieldLink RX9 91 "BlockLogModel" "thrown" "I") (by decide +kernel)) (fun _ h9 => h9) rfl dX9_told_20 ?_
    refine lv_if_le (tgt := 28) hx hb dX9_told_23 (by decide) (fun c_3 => ?_) (fun c_3 => ?_)
    · skip
      refine lv_iload_n hx hb dX9_told_28 rfl (lv_at hl 1 rfl) ?_
      refine lv_if_ne (tgt := 45) hx hb dX9_told_29 (by decide) (fun c_4 => ?_) (fun c_4 => ?_)
      · skip
        refine lv_iload_n hx hb dX9_told_45 rfl (lv_at hl 1 rfl) ?_
        refine lv_iconst (v := 1) hx hb dX9_told_46 (by decide) ?_
        refine lv_icmp_ne (tgt := 55) hx hb dX9_told_47 (by decide) (fun c_5 => ?_) (fun c_5 => ?_)
        · skip
          refine lv_aload_n hx hb dX9_told_55 rfl (lv_at hl 0 rfl) ?_
          refine va_get (D := (dC, dI)) (ci := 11) (v := .int (1 : Int32)) (C := RX9) (T := TX9) (N := 38) hx hb hts (by decide +kernel) hown hK hP 0 rfl rfl 3 (by decide) (hts (.fieldLink RX9 72 "BlockLogModel" "on" "Z") (by decide +kernel)) (fun _ h9 => h9) rfl dX9_told_56 ?_
          refine lv_if_ne (tgt := 64) hx hb dX9_told_59 (by decide) (fun c_6 => ?_) (fun c_6 => ?_)
          · skip
            refine lv_iload_n hx hb dX9_told_64 rfl (lv_at hl 1 rfl) ?_
            refine lv_tableIn (off := 39) (tgt := 104) hx hb dX9_told_65 (by decide +kernel) (by decide +kernel) (by decide +kernel) (by decide) ?_
            refine lv_aload_n hx hb dX9_told_104 rfl (lv_at hl 0 rfl) ?_
            refine va_get (D := (dC, dI)) (ci := 11) (v := .int (0 : Int32)) (C := RX9) (T := TX9) (N := 38) hx hb hts (by decide +kernel) hown hK hP 0 rfl rfl 7 (by decide) (hts (.fieldLink RX9 76 "BlockLogModel" "area" "I") (by decide +kernel)) (fun _ h9 => h9) rfl dX9_told_105 ?_
            have hP := hP.sub (ws' := [(mo, .inr (11, [.ref m_disk, .int (nI P), .int ((8224 : Int32) + ((26 : Int32) * (nI P))), .int (1 : Int32), .int 0, .int (-1 : Int32), .int 0, .int (0 : Int32), .ref m_tape, .int 0, .ref m_slots, .ref m_leaves, .int 0, .int (0 : Int32), .ref m_fresh, .int 0, .int 0, .int 0, .ref m_digestAt, .ref m_isGroup, .ref m_counts, .int 0, .int 0, .long 0, .int 0, .ref m_versionRow, .int 0, .long 0, .ref m_state, .ref m_names, .int 0, .ref m_keptRow, .int 0, .ref m_inSlot, .ref m_inAt, .ref m_inSize, .ref m_inDigest, .int 0]))]) [0] rfl
            have hD := hD.sub (ws' := [(mo, .inr (11, [.ref m_disk, .int (nI P), .int ((8224 : Int32) + ((26 : Int32) * (nI P))), .int (1 : Int32), .int 0, .int (-1 : Int32), .int 0, .int (0 : Int32), .ref m_tape, .int 0, .ref m_slots, .ref m_leaves, .int 0, .int (0 : Int32), .ref m_fresh, .int 0, .int 0, .int 0, .ref m_digestAt, .ref m_isGroup, .ref m_counts, .int 0, .int 0, .long 0, .int 0, .ref m_versionRow, .int 0, .long 0, .ref m_state, .ref m_names, .int 0, .ref m_keptRow, .int 0, .ref m_inSlot, .ref m_inAt, .ref m_inSize, .ref m_inDigest, .int 0]))]) [0] (by decide) rfl
            have hK := hK.sub (tys' := []) [] rfl
            exact W.iret hx hb hr (fun t ht hW => ⟨⟨_, (), rfl, rfl, by rw [ht]; exact hP, va_K.moved hW.alike hK, hD⟩, hS.F ht⟩) hS.2.2 dX9_told_108
          · skip
            exact absurd c_6 (by decide)
        · skip
          exact absurd c_5 (by decide)
      · skip
        exact absurd c_4 (by decide)
    · skip
      exact absurd (by decide) c_3

set_option maxHeartbeats 4000000 in
set_option maxRecDepth 100000 in
theorem k_X8_told_6 (l : Launch) (dC : Nat → ClassId) (dI : Nat → Nat → Nat) (x : Nat) (rr : Nat) (ds : Nat) (tp : Nat) (so : Nat) (pu : Nat) (sn : Nat) (im : Nat) (cs : Nat) (cl : Nat) (ri : Nat) (pg : Int32) (dl : Nat) (dr : Nat) (dt : Nat)  : Met l yX8_told wsX8_told ({ frames := 0, cells := 0, slots := 0, locals := 0 }) (va_Pc [.ref x, .int (3 : Int32)] (fun U => va_P (dC, dI) vwCl [(x, .inr (10, [.ref tp, .ref ds, .ref rr, .ref so, .ref pu, .ref sn, .ref im, .ref cs, .ref cl, .int (0 : Int32)])), (rr, .inr (6, [.ref ds, .ref ri, .int 0, .int 1, .int 0, .int 0])), (ds, .inr (3, [.int pg, .ref dl, .ref dr, .ref dt, .int (1 : Int32), .int (-1 : Int32), .int (0 : Int32)]))] U.heap ∧ va_K (dC, dI) vwCl [] U ∧ gx_W U)) (vp_Si (fun r => r = 1)) 0 0 (fun _ => False) := by
  refine Met.ofW (cc := cX8_told) (maxL := 2) (ret := (some .int)) (by decide) rfl ?_
  intro p e s m args below meth c s₁ B hml hv
  obtain ⟨rfl, hP, hK, hG⟩ := hv
  have hx := B.exec
  have hb := B.bytes
  have hr := B.returns
  have hts := atoms_spec (ws := wsX8_told) B.pre
  have hown : s.vm.findClass RX8 = some m.cls := findClass_of_methodNamed B.named
  have hlocks := B.notSynchronized
  have hl := lv_entry ([.ref x, .int (3 : Int32)]) (n := 2) (Nat.le_of_ble_eq_true rfl)
  rw [lg_entry_eq]
  generalize (lg_sl ([.ref x, .int (3 : Int32)]) ++ List.replicate (2 - (lg_sl ([.ref x, .int (3 : Int32)])).length) Slot.unset).toArray = ls at hl ⊢
  have hl : lv_has ls 2 [(0, .ref x), (1, .int (3 : Int32))] := hl
  refine lv_iload_n hx hb dX8_told_0 rfl (lv_at hl 1 rfl) ?_
  refine lv_if_lt (tgt := 10) hx hb dX8_told_1 (by decide) (fun c_1 => ?_) (fun c_1 => ?_)
  · skip
    exact absurd c_1 (by decide)
  · skip
    refine lv_iload_n hx hb dX8_told_4 rfl (lv_at hl 1 rfl) ?_
    refine lv_bipush (v := 8) hx hb dX8_told_5 (by decide) ?_
    refine lv_icmp_le (tgt := 21) hx hb dX8_told_7 (by decide) (fun c_2 => ?_) (fun c_2 => ?_)
    · skip
      refine lv_iload_n hx hb dX8_told_21 rfl (lv_at hl 1 rfl) ?_
      refine lv_iconst (v := 1) hx hb dX8_told_22 (by decide) ?_
      refine lv_icmp_ne (tgt := 34) hx hb dX8_told_23 (by decide) (fun c_3 => ?_) (fun c_3 => ?_)
      · skip
        refine lv_aload_n hx hb dX8_told_34 rfl (lv_at hl 0 rfl) ?_
        refine va_get (D := (dC, dI)) (ci := 10) (v := .ref ds) (C := RX8) (T := TX8) (N := 10) hx hb hts (by decide +kernel) hown hK hP 0 rfl rfl 1 (by decide) (hts (.fieldLink RX8 22 "BlockLog" "disk" "LBlockLog$Disk;") (by decide +kernel)) (fun _ h9 => h9) rfl dX8_told_35 ?_
        refine va_getN (D := (dC, dI)) (ci := 3) (v := .int (1 : Int32)) (C := RX1) (T := TX1) (N := 7) hx hb hts (by decide +kernel) hown hK hP 2 rfl rfl 4 (by decide) (va_Nw.use rfl (hG.1 ("BlockLog", 287, "BlockLog$Disk", "powered", "Z", "BlockLog") (by decide +kernel))) (fun _ h9 => h9) rfl dX8_told_38 ?_
        refine lv_if_ne (tgt := 46) hx hb dX8_told_41 (by decide) (fun c_4 => ?_) (fun c_4 => ?_)
        · skip
          refine lv_iload_n hx hb dX8_told_46 rfl (lv_at hl 1 rfl) ?_
          refine lv_tableIn (off := 49) (tgt := 96) hx hb dX8_told_47 (by decide +kernel) (by decide +kernel) (by decide +kernel) (by decide) ?_
          refine lv_aload_n hx hb dX8_told_96 rfl (lv_at hl 0 rfl) ?_
          refine va_get (D := (dC, dI)) (ci := 10) (v := .ref rr) (C := RX8) (T := TX8) (N := 10) hx hb hts (by decide +kernel) hown hK hP 0 rfl rfl 2 (by decide) (hts (.fieldLink RX8 31 "BlockLog" "rows" "LBlockLog$Rows;") (by decide +kernel)) (fun _ h9 => h9) rfl dX8_told_97 ?_
          refine va_getN (D := (dC, dI)) (ci := 6) (v := .int 1) (C := RX4) (T := TX4) (N := 6) hx hb hts (by decide +kernel) hown hK hP 1 rfl rfl 3 (by decide) (va_Nw.use rfl (hG.1 ("BlockLog", 348, "BlockLog$Rows", "generation", "I", "BlockLog") (by decide +kernel))) (fun _ h9 => h9) rfl dX8_told_100 ?_
          exact W.iret hx hb hr (fun t ht hW => ⟨_, rfl, rfl, ht⟩) (fun q h => by cases h) dX8_told_103
        · skip
          exact absurd c_4 (by decide)
      · skip
        exact absurd c_3 (by decide)
    · skip
      exact absurd (by decide) c_2

set_option maxHeartbeats 4000000 in
set_option maxRecDepth 100000 in
theorem k_L_told_6 (l : Launch) (dC : Nat → ClassId) (dI : Nat → Nat → Nat) (x : Nat) (ho : Nat) (rr : Nat) (ds : Nat) (tp : Nat) (so : Nat) (pu : Nat) (sn : Nat) (im : Nat) (cs : Nat) (cl : Nat) (ri : Nat) (pg : Int32) (dl : Nat) (dr : Nat) (dt : Nat) (cJ : ClassId) (g1 : Nat → Int64) (sz : Nat)  : Met l yL_told wsL_told ({ frames := 1, cells := 0, slots := 0, locals := 21 }) (va_Pc [.ref x, .int (3 : Int32), .ref ho] (fun U => U.heap.size = sz ∧ va_P (dC, dI) vwCl [(x, .inr (10, [.ref tp, .ref ds, .ref rr, .ref so, .ref pu, .ref sn, .ref im, .ref cs, .ref cl, .int (0 : Int32)])), (rr, .inr (6, [.ref ds, .ref ri, .int 0, .int 1, .int 0, .int 0])), (ds, .inr (3, [.int pg, .ref dl, .ref dr, .ref dt, .int (1 : Int32), .int (-1 : Int32), .int (0 : Int32)])), (ho, .inl (cJ, 1, .inr (.inl g1)))] U.heap ∧ va_K (dC, dI) vwCl [(cJ, .long)] U ∧ va_D (fun _ => True) [(x, .inr (10, [.ref tp, .ref ds, .ref rr, .ref so, .ref pu, .ref sn, .ref im, .ref cs, .ref cl, .int (0 : Int32)])), (rr, .inr (6, [.ref ds, .ref ri, .int 0, .int 1, .int 0, .int 0])), (ds, .inr (3, [.int pg, .ref dl, .ref dr, .ref dt, .int (1 : Int32), .int (-1 : Int32), .int (0 : Int32)])), (ho, .inl (cJ, 1, .inr (.inl g1)))] ∧ gx_E (va_A [(x, .inr (10, [.ref tp, .ref ds, .ref rr, .ref so, .ref pu, .ref sn, .ref im, .ref cs, .ref cl, .int (0 : Int32)])), (rr, .inr (6, [.ref ds, .ref ri, .int 0, .int 1, .int 0, .int 0])), (ds, .inr (3, [.int pg, .ref dl, .ref dr, .ref dt, .int (1 : Int32), .int (-1 : Int32), .int (0 : Int32)])), (ho, .inl (cJ, 1, .inr (.inl g1)))] sz) U)) (va_Qi (fun r (_ : Unit) => r = (0 : Int32)) (fun (_ : Unit) t => va_P (dC, dI) vwCl [(ho, .inl (cJ, 1, .inr (.inl (vp_updL g1 (0 : Int32).toNatClampNeg ((1 : Int32).toInt64)))))] t.heap ∧ va_K (dC, dI) vwCl [(cJ, .long)] t ∧ va_D (va_A [(x, .inr (10, [.ref tp, .ref ds, .ref rr, .ref so, .ref pu, .ref sn, .ref im, .ref cs, .ref cl, .int (0 : Int32)])), (rr, .inr (6, [.ref ds, .ref ri, .int 0, .int 1, .int 0, .int 0])), (ds, .inr (3, [.int pg, .ref dl, .ref dr, .ref dt, .int (1 : Int32), .int (-1 : Int32), .int (0 : Int32)])), (ho, .inl (cJ, 1, .inr (.inl g1)))] sz) [(ho, .inl (cJ, 1, .inr (.inl (vp_updL g1 (0 : Int32).toNatClampNeg ((1 : Int32).toInt64)))))]) (va_A [(x, .inr (10, [.ref tp, .ref ds, .ref rr, .ref so, .ref pu, .ref sn, .ref im, .ref cs, .ref cl, .int (0 : Int32)])), (rr, .inr (6, [.ref ds, .ref ri, .int 0, .int 1, .int 0, .int 0])), (ds, .inr (3, [.int pg, .ref dl, .ref dr, .ref dt, .int (1 : Int32), .int (-1 : Int32), .int (0 : Int32)])), (ho, .inl (cJ, 1, .inr (.inl g1)))] sz)) 0 0 (va_A [(x, .inr (10, [.ref tp, .ref ds, .ref rr, .ref so, .ref pu, .ref sn, .ref im, .ref cs, .ref cl, .int (0 : Int32)])), (rr, .inr (6, [.ref ds, .ref ri, .int 0, .int 1, .int 0, .int 0])), (ds, .inr (3, [.int pg, .ref dl, .ref dr, .ref dt, .int (1 : Int32), .int (-1 : Int32), .int (0 : Int32)])), (ho, .inl (cJ, 1, .inr (.inl g1)))] sz) := by
  refine va_MetW (cc := cL_told) (maxL := 4) (ret := (some .int)) (hh := [(0, 9, 12, 13)]) (by decide) rfl ?_
  intro p e s m args below meth c s₁ B hml hv
  obtain ⟨rfl, hsz, hP, hK, hD0, hG⟩ := hv
  have hx := B.exec
  have hb := B.bytes
  have hr := B.returns
  have hts := atoms_spec (ws := wsL_told) B.pre
  have hown : s.vm.findClass RL = some m.cls := findClass_of_methodNamed B.named
  have hlocks := B.notSynchronized
  have htab := vx_table (x := yL_told) B (hts (.codeWith yL_told cL_told 4 (some .int) [(0, 9, 12, 13)]) List.mem_cons_self)
  subst hsz
  have hD := hD0.self (sz := s.heap.size)
  generalize hAe : va_A [(x, .inr (10, [.ref tp, .ref ds, .ref rr, .ref so, .ref pu, .ref sn, .ref im, .ref cs, .ref cl, .int (0 : Int32)])), (rr, .inr (6, [.ref ds, .ref ri, .int 0, .int 1, .int 0, .int 0])), (ds, .inr (3, [.int pg, .ref dl, .ref dr, .ref dt, .int (1 : Int32), .int (-1 : Int32), .int (0 : Int32)])), (ho, .inl (cJ, 1, .inr (.inl g1)))] s.heap.size = A at hD hG ⊢
  have hA : ∀ q : Nat, s.heap.size ≤ q → A q := fun q h => by rw [← hAe]; exact Or.inr h
  have hS : va_S A s.heap s.heap [] := va_S.rf
  have hl := lv_entry ([.ref x, .int (3 : Int32), .ref ho]) (n := 4) (Nat.le_of_ble_eq_true rfl)
  rw [lg_entry_eq]
  generalize (lg_sl ([.ref x, .int (3 : Int32), .ref ho]) ++ List.replicate (4 - (lg_sl ([.ref x, .int (3 : Int32), .ref ho])).length) Slot.unset).toArray = ls at hl ⊢
  have hl : lv_has ls 4 [(0, .ref x), (1, .int (3 : Int32)), (2, .ref ho)] := hl
  refine lv_aload_n hx hb dL_told_0 rfl (lv_at hl 2 rfl) ?_
  refine lv_iconst (v := 0) hx hb dL_told_1 (by decide) ?_
  refine lv_aload_n hx hb dL_told_2 rfl (lv_at hl 0 rfl) ?_
  refine lv_iload_n hx hb dL_told_3 rfl (lv_at hl 1 rfl) ?_
  have hPc := hP.sub (ws' := [(x, .inr (10, [.ref tp, .ref ds, .ref rr, .ref so, .ref pu, .ref sn, .ref im, .ref cs, .ref cl, .int (0 : Int32)])), (rr, .inr (6, [.ref ds, .ref ri, .int 0, .int 1, .int 0, .int 0])), (ds, .inr (3, [.int pg, .ref dl, .ref dr, .ref dt, .int (1 : Int32), .int (-1 : Int32), .int (0 : Int32)]))]) [0, 1, 2] rfl
  have hKc := hK.sub (tys' := []) [] rfl
  refine vp_callSi (va_Run.run (va_runV (As := [.int (3 : Int32)]) (rest := [.int (0 : Int32), .ref ho]) ⟨hx, hb, hml, hown, hts⟩ (k_X8_told_6 l dC dI x rr ds tp so pu sn im cs cl ri pg dl dr dt) (cwV 1 hts gL_told_X8_told rfl rfl rfl (by decide +kernel) ⟨Nat.le_of_ble_eq_true rfl, Nat.le_of_ble_eq_true rfl⟩) ⟨fun a U g mk q => by obtain ⟨q0, qP, qK, qG⟩ := q; exact ⟨q0, qP, va_K.moved (u := U) (U := U.calling g mk a) (Vm.Alike.refl U.vm) qK, qG.same rfl⟩, va_recv hK hP (ci := 10) (q := (RX8, TX8, 10)) rfl (q0 := 0) rfl, fun U hU hW => ⟨rfl, by rw [hU]; exact hPc, va_K.moved hW.alike hKc, hG.1.warm hW⟩⟩ rfl rfl hl.1 rfl (lv_room (Nat.le_of_ble_eq_true rfl)) dL_told_4 ⟨Nat.le_of_ble_eq_true rfl, Nat.le_of_ble_eq_true rfl⟩)) (fun r_1 er_1 => ?_)
  replace er_1 := er_1.trans (show _ = (1 : Int32) by decide +kernel)
  subst er_1
  refine lv_i2l hx hb dL_told_7 rfl ?_
  refine va_last hx hb hK hP hD hS 3 0 rfl rfl (by unfold vp_in; decide +kernel) dL_told_8 (fun H locs hP hD hS => ?_)
  have hP : va_P (dC, dI) vwCl [(x, .inr (10, [.ref tp, .ref ds, .ref rr, .ref so, .ref pu, .ref sn, .ref im, .ref cs, .ref cl, .int (0 : Int32)])), (rr, .inr (6, [.ref ds, .ref ri, .int 0, .int 1, .int 0, .int 0])), (ds, .inr (3, [.int pg, .ref dl, .ref dr, .ref dt, .int (1 : Int32), .int (-1 : Int32), .int (0 : Int32)])), (ho, .inl (cJ, 1, .inr (.inl (vp_updL g1 (0 : Int32).toNatClampNeg ((1 : Int32).toInt64)))))] H := hP
  have hD : va_D A [(x, .inr (10, [.ref tp, .ref ds, .ref rr, .ref so, .ref pu, .ref sn, .ref im, .ref cs, .ref cl, .int (0 : Int32)])), (rr, .inr (6, [.ref ds, .ref ri, .int 0, .int 1, .int 0, .int 0])), (ds, .inr (3, [.int pg, .ref dl, .ref dr, .ref dt, .int (1 : Int32), .int (-1 : Int32), .int (0 : Int32)])), (ho, .inl (cJ, 1, .inr (.inl (vp_updL g1 (0 : Int32).toNatClampNeg ((1 : Int32).toInt64)))))] := hD
  refine lv_goto (tgt := 15) hx hb dL_told_9 (by decide) ?_
  refine lv_iconst (v := 0) hx hb dL_told_15 (by decide) ?_
  have hP := hP.sub (ws' := [(ho, .inl (cJ, 1, .inr (.inl (vp_updL g1 (0 : Int32).toNatClampNeg ((1 : Int32).toInt64)))))]) [3] rfl
  have hD := hD.sub (ws' := [(ho, .inl (cJ, 1, .inr (.inl (vp_updL g1 (0 : Int32).toNatClampNeg ((1 : Int32).toInt64)))))]) [3] (by decide) rfl
  have hK := hK.sub (tys' := [(cJ, .long)]) [0] rfl
  exact W.iret hx hb hr (fun t ht hW => ⟨⟨_, (), rfl, rfl, by rw [ht]; exact hP, va_K.moved hW.alike hK, hD⟩, hS.F ht⟩) hS.2.2 dL_told_16

set_option maxHeartbeats 4000000 in
set_option maxRecDepth 100000 in
theorem k_X9_told_6 (l : Launch) (dC : Nat → ClassId) (dI : Nat → Nat → Nat) (mo : Nat) (m_disk : Nat) (P : Nat) (m_tape : Nat) (m_slots : Nat) (m_leaves : Nat) (m_fresh : Nat) (m_digestAt : Nat) (m_isGroup : Nat) (m_counts : Nat) (m_versionRow : Nat) (m_state : Nat) (m_names : Nat) (m_keptRow : Nat) (m_inSlot : Nat) (m_inAt : Nat) (m_inSize : Nat) (m_inDigest : Nat) (d_disk : ClassId) (sz : Nat)  : Met l yX9_told wsX9_told ({ frames := 2, cells := 0, slots := 0, locals := 49 }) (va_Pc [.ref mo, .int (3 : Int32)] (fun U => U.heap.size = sz ∧ va_P (dC, dI) vwCl [(mo, .inr (11, [.ref m_disk, .int (nI P), .int ((8224 : Int32) + ((26 : Int32) * (nI P))), .int (1 : Int32), .int 0, .int (-1 : Int32), .int 0, .int (0 : Int32), .ref m_tape, .int 0, .ref m_slots, .ref m_leaves, .int 0, .int 0, .ref m_fresh, .int 0, .int 0, .int 0, .ref m_digestAt, .ref m_isGroup, .ref m_counts, .int 0, .int 0, .long 0, .int 0, .ref m_versionRow, .int 0, .long 0, .ref m_state, .ref m_names, .int 0, .ref m_keptRow, .int 0, .ref m_inSlot, .ref m_inAt, .ref m_inSize, .ref m_inDigest, .int 0])), (m_disk, .inl (d_disk, 428040, .inl md_fresh))] U.heap ∧ va_K (dC, dI) vwCl [(d_disk, .int)] U ∧ va_D (fun _ => True) [(mo, .inr (11, [.ref m_disk, .int (nI P), .int ((8224 : Int32) + ((26 : Int32) * (nI P))), .int (1 : Int32), .int 0, .int (-1 : Int32), .int 0, .int (0 : Int32), .ref m_tape, .int 0, .ref m_slots, .ref m_leaves, .int 0, .int 0, .ref m_fresh, .int 0, .int 0, .int 0, .ref m_digestAt, .ref m_isGroup, .ref m_counts, .int 0, .int 0, .long 0, .int 0, .ref m_versionRow, .int 0, .long 0, .ref m_state, .ref m_names, .int 0, .ref m_keptRow, .int 0, .ref m_inSlot, .ref m_inAt, .ref m_inSize, .ref m_inDigest, .int 0])), (m_disk, .inl (d_disk, 428040, .inl md_fresh))])) (va_Qi (fun r (_ : Unit) => r = (1 : Int64).toInt32) (fun (_ : Unit) t => va_P (dC, dI) vwCl [(mo, .inr (11, [.ref m_disk, .int (nI P), .int ((8224 : Int32) + ((26 : Int32) * (nI P))), .int (1 : Int32), .int 0, .int (-1 : Int32), .int 0, .int (0 : Int32), .ref m_tape, .int 0, .ref m_slots, .ref m_leaves, .int 0, .int (0 : Int32), .ref m_fresh, .int 0, .int 0, .int 0, .ref m_digestAt, .ref m_isGroup, .ref m_counts, .int 0, .int 0, .long 0, .int 0, .ref m_versionRow, .int 0, .long 0, .ref m_state, .ref m_names, .int 0, .ref m_keptRow, .int 0, .ref m_inSlot, .ref m_inAt, .ref m_inSize, .ref m_inDigest, .int 0]))] t.heap ∧ va_K (dC, dI) vwCl [(d_disk, .int)] t ∧ va_D (va_A [(mo, .inr (11, [.ref m_disk, .int (nI P), .int ((8224 : Int32) + ((26 : Int32) * (nI P))), .int (1 : Int32), .int 0, .int (-1 : Int32), .int 0, .int (0 : Int32), .ref m_tape, .int 0, .ref m_slots, .ref m_leaves, .int 0, .int 0, .ref m_fresh, .int 0, .int 0, .int 0, .ref m_digestAt, .ref m_isGroup, .ref m_counts, .int 0, .int 0, .long 0, .int 0, .ref m_versionRow, .int 0, .long 0, .ref m_state, .ref m_names, .int 0, .ref m_keptRow, .int 0, .ref m_inSlot, .ref m_inAt, .ref m_inSize, .ref m_inDigest, .int 0])), (m_disk, .inl (d_disk, 428040, .inl md_fresh))] sz) [(mo, .inr (11, [.ref m_disk, .int (nI P), .int ((8224 : Int32) + ((26 : Int32) * (nI P))), .int (1 : Int32), .int 0, .int (-1 : Int32), .int 0, .int (0 : Int32), .ref m_tape, .int 0, .ref m_slots, .ref m_leaves, .int 0, .int (0 : Int32), .ref m_fresh, .int 0, .int 0, .int 0, .ref m_digestAt, .ref m_isGroup, .ref m_counts, .int 0, .int 0, .long 0, .int 0, .ref m_versionRow, .int 0, .long 0, .ref m_state, .ref m_names, .int 0, .ref m_keptRow, .int 0, .ref m_inSlot, .ref m_inAt, .ref m_inSize, .ref m_inDigest, .int 0]))]) (va_A [(mo, .inr (11, [.ref m_disk, .int (nI P), .int ((8224 : Int32) + ((26 : Int32) * (nI P))), .int (1 : Int32), .int 0, .int (-1 : Int32), .int 0, .int (0 : Int32), .ref m_tape, .int 0, .ref m_slots, .ref m_leaves, .int 0, .int 0, .ref m_fresh, .int 0, .int 0, .int 0, .ref m_digestAt, .ref m_isGroup, .ref m_counts, .int 0, .int 0, .long 0, .int 0, .ref m_versionRow, .int 0, .long 0, .ref m_state, .ref m_names, .int 0, .ref m_keptRow, .int 0, .ref m_inSlot, .ref m_inAt, .ref m_inSize, .ref m_inDigest, .int 0])), (m_disk, .inl (d_disk, 428040, .inl md_fresh))] sz)) 0 0 (va_A [(mo, .inr (11, [.ref m_disk, .int (nI P), .int ((8224 : Int32) + ((26 : Int32) * (nI P))), .int (1 : Int32), .int 0, .int (-1 : Int32), .int 0, .int (0 : Int32), .ref m_tape, .int 0, .ref m_slots, .ref m_leaves, .int 0, .int 0, .ref m_fresh, .int 0, .int 0, .int 0, .ref m_digestAt, .ref m_isGroup, .ref m_counts, .int 0, .int 0, .long 0, .int 0, .ref m_versionRow, .int 0, .long 0, .ref m_state, .ref m_names, .int 0, .ref m_keptRow, .int 0, .ref m_inSlot, .ref m_inAt, .ref m_inSize, .ref m_inDigest, .int 0])), (m_disk, .inl (d_disk, 428040, .inl md_fresh))] sz) := by
  refine Met.ofW (cc := cX9_told) (maxL := 2) (ret := (some .int)) (by decide) rfl ?_
  intro p e s m args below meth c s₁ B hml hv
  obtain ⟨rfl, hsz, hP, hK, hD0⟩ := hv
  have hx := B.exec
  have hb := B.bytes
  have hr := B.returns
  have hts := atoms_spec (ws := wsX9_told) B.pre
  have hown : s.vm.findClass RX9 = some m.cls := findClass_of_methodNamed B.named
  have hlocks := B.notSynchronized
  subst hsz
  have hD := hD0.self (sz := s.heap.size)
  generalize hAe : va_A [(mo, .inr (11, [.ref m_disk, .int (nI P), .int ((8224 : Int32) + ((26 : Int32) * (nI P))), .int (1 : Int32), .int 0, .int (-1 : Int32), .int 0, .int (0 : Int32), .ref m_tape, .int 0, .ref m_slots, .ref m_leaves, .int 0, .int 0, .ref m_fresh, .int 0, .int 0, .int 0, .ref m_digestAt, .ref m_isGroup, .ref m_counts, .int 0, .int 0, .long 0, .int 0, .ref m_versionRow, .int 0, .long 0, .ref m_state, .ref m_names, .int 0, .ref m_keptRow, .int 0, .ref m_inSlot, .ref m_inAt, .ref m_inSize, .ref m_inDigest, .int 0])), (m_disk, .inl (d_disk, 428040, .inl md_fresh))] s.heap.size = A at hD ⊢
  have hA : ∀ q : Nat, s.heap.size ≤ q → A q := fun q h => by rw [← hAe]; exact Or.inr h
  have hS : va_S A s.heap s.heap [] := va_S.rf
  have hl := lv_entry ([.ref mo, .int (3 : Int32)]) (n := 2) (Nat.le_of_ble_eq_true rfl)
  rw [lg_entry_eq]
  generalize (lg_sl ([.ref mo, .int (3 : Int32)]) ++ List.replicate (2 - (lg_sl ([.ref mo, .int (3 : Int32)])).length) Slot.unset).toArray = ls at hl ⊢
  have hl : lv_has ls 2 [(0, .ref mo), (1, .int (3 : Int32))] := hl
  refine lv_aload_n hx hb dX9_told_0 rfl (lv_at hl 0 rfl) ?_
  refine lv_iload_n hx hb dX9_told_1 rfl (lv_at hl 1 rfl) ?_
  refine lv_iconst (v := 0) hx hb dX9_told_2 (by decide) ?_
  refine lv_bipush (v := 8) hx hb dX9_told_3 (by decide) ?_
  have hPc := hP.sub (ws' := []) [] rfl
  have hKc := hK.sub (tys' := []) [] rfl
  refine vp_callSi (va_Run.run (va_runS (As := [.int (3 : Int32), .int (0 : Int32), .int (8 : Int32)]) (rest := [.ref mo]) ⟨hx, hb, hml, hown, hts⟩ (k_X9_within_3 l dC dI (3 : Int32) (0 : Int32) (8 : Int32) (by decide) (by decide)) (va_cwS 3 hts gX9_told_X9_within rfl rfl rfl (by decide +kernel) ⟨Nat.le_of_ble_eq_true rfl, Nat.le_of_ble_eq_true rfl⟩) ⟨fun a U g mk q => by obtain ⟨q0, qP, qK⟩ := q; exact ⟨q0, qP, va_K.moved (u := U) (U := U.calling g mk a) (Vm.Alike.refl U.vm) qK⟩, fun U hU hW => ⟨rfl, by rw [hU]; exact hPc, va_K.moved hW.alike hKc⟩⟩ rfl rfl hl.1 rfl (lv_room (Nat.le_of_ble_eq_true rfl)) dX9_told_5 ⟨Nat.le_of_ble_eq_true rfl, Nat.le_of_ble_eq_true rfl⟩)) (fun r_1 er_1 => ?_)
  subst er_1
  refine lv_if_eq (tgt := 15) hx hb dX9_told_8 (by decide) (fun c_2 => ?_) (fun c_2 => ?_)
  · skip
    exact absurd c_2 (by decide)
  · skip
    refine lv_iconst (v := 0) hx hb dX9_told_11 (by decide) ?_
    refine lv_goto (tgt := 16) hx hb dX9_told_12 (by decide) ?_
    refine va_put (D := (dC, dI)) (ci := 11) (v := .int (0 : Int32)) (ty := .int) (C := RX9) (T := TX9) (N := 38) hx hb hts (by decide +kernel) tyX9 tyX9_ok nmX9 hown hK hP hD hS 0 rfl rfl 13 (by decide) (hts (.fieldLink RX9 91 "BlockLogModel" "thrown" "I") (by decide +kernel)) (fun _ h9 => h9) rfl (by decide +kernel) rfl rfl (Nat.le_of_ble_eq_true rfl) dX9_told_16 (fun H locs hP hD hS => ?_)
    have hP : va_P (dC, dI) vwCl [(mo, .inr (11, [.ref m_disk, .int (nI P), .int ((8224 : Int32) + ((26 : Int32) * (nI P))), .int (1 : Int32), .int 0, .int (-1 : Int32), .int 0, .int (0 : Int32), .ref m_tape, .int 0, .ref m_slots, .ref m_leaves, .int 0, .int (0 : Int32), .ref m_fresh, .int 0, .int 0, .int 0, .ref m_digestAt, .ref m_isGroup, .ref m_counts, .int 0, .int 0, .long 0, .int 0, .ref m_versionRow, .int 0, .long 0, .ref m_state, .ref m_names, .int 0, .ref m_keptRow, .int 0, .ref m_inSlot, .ref m_inAt, .ref m_inSize, .ref m_inDigest, .int 0])), (m_disk, .inl (d_disk, 428040, .inl md_fresh))] H := hP
    have hD : va_D A [(mo, .inr (11, [.ref m_disk, .int (nI P), .int ((8224 : Int32) + ((26 : Int32) * (nI P))), .int (1 : Int32), .int 0, .int (-1 : Int32), .int 0, .int (0 : Int32), .ref m_tape, .int 0, .ref m_slots, .ref m_leaves, .int 0, .int (0 : Int32), .ref m_fresh, .int 0, .int 0, .int 0, .ref m_digestAt, .ref m_isGroup, .ref m_counts, .int 0, .int 0, .long 0, .int 0, .ref m_versionRow, .int 0, .long 0, .ref m_state, .ref m_names, .int 0, .ref m_keptRow, .int 0, .ref m_inSlot, .ref m_inAt, .ref m_inSize, .ref m_inDigest, .int 0])), (m_disk, .inl (d_disk, 428040, .inl md_fresh))] := hD
    refine lv_aload_n hx hb dX9_told_19 rfl (lv_at hl 0 rfl) ?_
    refine va_get (D := (dC, dI)) (ci := 11) (v := .int (0 : Int32)) (C := RX9) (T := TX9) (N := 38) hx hb hts (by decide +kernel) hown hK hP 0 rfl rfl 13 (by decide) (hts (.fieldLink RX9 91 "BlockLogModel" "thrown" "I") (by decide +kernel)) (fun _ h9 => h9) rfl dX9_told_20 ?_
    refine lv_if_le (tgt := 28) hx hb dX9_told_23 (by decide) (fun c_3 => ?_) (fun c_3 => ?_)
    · skip
      refine lv_iload_n hx hb dX9_told_28 rfl (lv_at hl 1 rfl) ?_
      refine lv_if_ne (tgt := 45) hx hb dX9_told_29 (by decide) (fun c_4 => ?_) (fun c_4 => ?_)
      · skip
        refine lv_iload_n hx hb dX9_told_45 rfl (lv_at hl 1 rfl) ?_
        refine lv_iconst (v := 1) hx hb dX9_told_46 (by decide) ?_
        refine lv_icmp_ne (tgt := 55) hx hb dX9_told_47 (by decide) (fun c_5 => ?_) (fun c_5 => ?_)
        · skip
          refine lv_aload_n hx hb dX9_told_55 rfl (lv_at hl 0 rfl) ?_
          refine va_get (D := (dC, dI)) (ci := 11) (v := .int (1 : Int32)) (C := RX9) (T := TX9) (N := 38) hx hb hts (by decide +kernel) hown hK hP 0 rfl rfl 3 (by decide) (hts (.fieldLink RX9 72 "BlockLogModel" "on" "Z") (by decide +kernel)) (fun _ h9 => h9) rfl dX9_told_56 ?_
          refine lv_if_ne (tgt := 64) hx hb dX9_told_59 (by decide) (fun c_6 => ?_) (fun c_6 => ?_)
          · skip
            refine lv_iload_n hx hb dX9_told_64 rfl (lv_at hl 1 rfl) ?_
            refine lv_tableIn (off := 44) (tgt := 109) hx hb dX9_told_65 (by decide +kernel) (by decide +kernel) (by decide +kernel) (by decide) ?_
            refine lv_aload_n hx hb dX9_told_109 rfl (lv_at hl 0 rfl) ?_
            refine lv_bipush (v := 16) hx hb dX9_told_110 (by decide) ?_
            refine lv_aload_n hx hb dX9_told_112 rfl (lv_at hl 0 rfl) ?_
            refine va_get (D := (dC, dI)) (ci := 11) (v := .int (0 : Int32)) (C := RX9) (T := TX9) (N := 38) hx hb hts (by decide +kernel) hown hK hP 0 rfl rfl 7 (by decide) (hts (.fieldLink RX9 76 "BlockLogModel" "area" "I") (by decide +kernel)) (fun _ h9 => h9) rfl dX9_told_113 ?_
            refine lv_imul hx hb dX9_told_116 ?_
            refine lv_iconst (v := 4) hx hb dX9_told_117 (by decide) ?_
            have e9 : (16 : Int32) * (0 : Int32) = (0 : Int32) := by decide +kernel
            rw [e9]
            clear e9
            have hPc := hP.sub (ws' := [(mo, .inr (11, [.ref m_disk, .int (nI P), .int ((8224 : Int32) + ((26 : Int32) * (nI P))), .int (1 : Int32), .int 0, .int (-1 : Int32), .int 0, .int (0 : Int32), .ref m_tape, .int 0, .ref m_slots, .ref m_leaves, .int 0, .int (0 : Int32), .ref m_fresh, .int 0, .int 0, .int 0, .ref m_digestAt, .ref m_isGroup, .ref m_counts, .int 0, .int 0, .long 0, .int 0, .ref m_versionRow, .int 0, .long 0, .ref m_state, .ref m_names, .int 0, .ref m_keptRow, .int 0, .ref m_inSlot, .ref m_inAt, .ref m_inSize, .ref m_inDigest, .int 0])), (m_disk, .inl (d_disk, 428040, .inl md_fresh))]) [0, 1] rfl
            have hKc := hK.sub (tys' := [(d_disk, .int)]) [0] rfl
            refine vp_callSl (va_Run.run (va_runV (As := [.int (0 : Int32), .int (4 : Int32)]) (rest := []) ⟨hx, hb, hml, hown, hts⟩ (k_X9_number l dC dI mo m_disk 428040 d_disk ([.int (nI P), .int ((8224 : Int32) + ((26 : Int32) * (nI P))), .int (1 : Int32), .int 0, .int (-1 : Int32), .int 0, .int (0 : Int32), .ref m_tape, .int 0, .ref m_slots, .ref m_leaves, .int 0, .int (0 : Int32), .ref m_fresh, .int 0, .int 0, .int 0, .ref m_digestAt, .ref m_isGroup, .ref m_counts, .int 0, .int 0, .long 0, .int 0, .ref m_versionRow, .int 0, .long 0, .ref m_state, .ref m_names, .int 0, .ref m_keptRow, .int 0, .ref m_inSlot, .ref m_inAt, .ref m_inSize, .ref m_inDigest, .int 0]) md_fresh (0 : Int32) 4 (by decide) (by unfold vp_in; decide +kernel)) (cwV 2 hts gX9_told_X9_number rfl rfl rfl (by decide +kernel) ⟨Nat.le_of_ble_eq_true rfl, Nat.le_of_ble_eq_true rfl⟩) ⟨fun a U g mk q => by obtain ⟨q0, qP, qK⟩ := q; exact ⟨q0, qP, va_K.moved (u := U) (U := U.calling g mk a) (Vm.Alike.refl U.vm) qK⟩, va_recv hK hP (ci := 11) (q := (RX9, TX9, 38)) rfl (q0 := 0) rfl, fun U hU hW => ⟨rfl, by rw [hU]; exact hPc, va_K.moved hW.alike hKc⟩⟩ rfl rfl hl.1 rfl (lv_room (Nat.le_of_ble_eq_true rfl)) dX9_told_118 ⟨Nat.le_of_ble_eq_true rfl, Nat.le_of_ble_eq_true rfl⟩)) (fun r_7 er_7 => ?_)
            replace er_7 := er_7.trans (show _ = (1 : Int64) by decide +kernel)
            subst er_7
            refine lv_l2i hx hb dX9_told_121 rfl ?_
            have hP := hP.sub (ws' := [(mo, .inr (11, [.ref m_disk, .int (nI P), .int ((8224 : Int32) + ((26 : Int32) * (nI P))), .int (1 : Int32), .int 0, .int (-1 : Int32), .int 0, .int (0 : Int32), .ref m_tape, .int 0, .ref m_slots, .ref m_leaves, .int 0, .int (0 : Int32), .ref m_fresh, .int 0, .int 0, .int 0, .ref m_digestAt, .ref m_isGroup, .ref m_counts, .int 0, .int 0, .long 0, .int 0, .ref m_versionRow, .int 0, .long 0, .ref m_state, .ref m_names, .int 0, .ref m_keptRow, .int 0, .ref m_inSlot, .ref m_inAt, .ref m_inSize, .ref m_inDigest, .int 0]))]) [0] rfl
            have hD := hD.sub (ws' := [(mo, .inr (11, [.ref m_disk, .int (nI P), .int ((8224 : Int32) + ((26 : Int32) * (nI P))), .int (1 : Int32), .int 0, .int (-1 : Int32), .int 0, .int (0 : Int32), .ref m_tape, .int 0, .ref m_slots, .ref m_leaves, .int 0, .int (0 : Int32), .ref m_fresh, .int 0, .int 0, .int 0, .ref m_digestAt, .ref m_isGroup, .ref m_counts, .int 0, .int 0, .long 0, .int 0, .ref m_versionRow, .int 0, .long 0, .ref m_state, .ref m_names, .int 0, .ref m_keptRow, .int 0, .ref m_inSlot, .ref m_inAt, .ref m_inSize, .ref m_inDigest, .int 0]))]) [0] (by decide) rfl
            have hK := hK.sub (tys' := [(d_disk, .int)]) [0] rfl
            exact W.iret hx hb hr (fun t ht hW => ⟨⟨_, (), rfl, rfl, by rw [ht]; exact hP, va_K.moved hW.alike hK, hD⟩, hS.F ht⟩) hS.2.2 dX9_told_122
          · skip
            exact absurd c_6 (by decide)
        · skip
          exact absurd c_5 (by decide)
      · skip
        exact absurd c_4 (by decide)
    · skip
      exact absurd (by decide) c_3

set_option maxHeartbeats 4000000 in
set_option maxRecDepth 100000 in
theorem k_X8_told_7 (l : Launch) (dC : Nat → ClassId) (dI : Nat → Nat → Nat) (x : Nat) (rr : Nat) (ds : Nat) (tp : Nat) (so : Nat) (pu : Nat) (sn : Nat) (im : Nat) (cs : Nat) (cl : Nat) (ri : Nat) (pg : Int32) (dl : Nat) (dr : Nat) (dt : Nat)  : Met l yX8_told wsX8_told ({ frames := 0, cells := 0, slots := 0, locals := 0 }) (va_Pc [.ref x, .int (4 : Int32)] (fun U => va_P (dC, dI) vwCl [(x, .inr (10, [.ref tp, .ref ds, .ref rr, .ref so, .ref pu, .ref sn, .ref im, .ref cs, .ref cl, .int (0 : Int32)])), (rr, .inr (6, [.ref ds, .ref ri, .int 0, .int 1, .int 0, .int 0])), (ds, .inr (3, [.int pg, .ref dl, .ref dr, .ref dt, .int (1 : Int32), .int (-1 : Int32), .int (0 : Int32)]))] U.heap ∧ va_K (dC, dI) vwCl [] U ∧ gx_W U)) (vp_Si (fun r => r = 0)) 0 0 (fun _ => False) := by
  refine Met.ofW (cc := cX8_told) (maxL := 2) (ret := (some .int)) (by decide) rfl ?_
  intro p e s m args below meth c s₁ B hml hv
  obtain ⟨rfl, hP, hK, hG⟩ := hv
  have hx := B.exec
  have hb := B.bytes
  have hr := B.returns
  have hts := atoms_spec (ws := wsX8_told) B.pre
  have hown : s.vm.findClass RX8 = some m.cls := findClass_of_methodNamed B.named
  have hlocks := B.notSynchronized
  have hl := lv_entry ([.ref x, .int (4 : Int32)]) (n := 2) (Nat.le_of_ble_eq_true rfl)
  rw [lg_entry_eq]
  generalize (lg_sl ([.ref x, .int (4 : Int32)]) ++ List.replicate (2 - (lg_sl ([.ref x, .int (4 : Int32)])).length) Slot.unset).toArray = ls at hl ⊢
  have hl : lv_has ls 2 [(0, .ref x), (1, .int (4 : Int32))] := hl
  refine lv_iload_n hx hb dX8_told_0 rfl (lv_at hl 1 rfl) ?_
  refine lv_if_lt (tgt := 10) hx hb dX8_told_1 (by decide) (fun c_1 => ?_) (fun c_1 => ?_)
  · skip
    exact absurd c_1 (by decide)
  · skip
    refine lv_iload_n hx hb dX8_told_4 rfl (lv_at hl 1 rfl) ?_
    refine lv_bipush (v := 8) hx hb dX8_told_5 (by decide) ?_
    refine lv_icmp_le (tgt := 21) hx hb dX8_told_7 (by decide) (fun c_2 => ?_) (fun c_2 => ?_)
    · skip
      refine lv_iload_n hx hb dX8_told_21 rfl (lv_at hl 1 rfl) ?_
      refine lv_iconst (v := 1) hx hb dX8_told_22 (by decide) ?_
      refine lv_icmp_ne (tgt := 34) hx hb dX8_told_23 (by decide) (fun c_3 => ?_) (fun c_3 => ?_)
      · skip
        refine lv_aload_n hx hb dX8_told_34 rfl (lv_at hl 0 rfl) ?_
        refine va_get (D := (dC, dI)) (ci := 10) (v := .ref ds) (C := RX8) (T := TX8) (N := 10) hx hb hts (by decide +kernel) hown hK hP 0 rfl rfl 1 (by decide) (hts (.fieldLink RX8 22 "BlockLog" "disk" "LBlockLog$Disk;") (by decide +kernel)) (fun _ h9 => h9) rfl dX8_told_35 ?_
        refine va_getN (D := (dC, dI)) (ci := 3) (v := .int (1 : Int32)) (C := RX1) (T := TX1) (N := 7) hx hb hts (by decide +kernel) hown hK hP 2 rfl rfl 4 (by decide) (va_Nw.use rfl (hG.1 ("BlockLog", 287, "BlockLog$Disk", "powered", "Z", "BlockLog") (by decide +kernel))) (fun _ h9 => h9) rfl dX8_told_38 ?_
        refine lv_if_ne (tgt := 46) hx hb dX8_told_41 (by decide) (fun c_4 => ?_) (fun c_4 => ?_)
        · skip
          refine lv_iload_n hx hb dX8_told_46 rfl (lv_at hl 1 rfl) ?_
          refine lv_tableIn (off := 57) (tgt := 104) hx hb dX8_told_47 (by decide +kernel) (by decide +kernel) (by decide +kernel) (by decide) ?_
          refine lv_aload_n hx hb dX8_told_104 rfl (lv_at hl 0 rfl) ?_
          refine va_get (D := (dC, dI)) (ci := 10) (v := .ref rr) (C := RX8) (T := TX8) (N := 10) hx hb hts (by decide +kernel) hown hK hP 0 rfl rfl 2 (by decide) (hts (.fieldLink RX8 31 "BlockLog" "rows" "LBlockLog$Rows;") (by decide +kernel)) (fun _ h9 => h9) rfl dX8_told_105 ?_
          refine va_getN (D := (dC, dI)) (ci := 6) (v := .int 0) (C := RX4) (T := TX4) (N := 6) hx hb hts (by decide +kernel) hown hK hP 1 rfl rfl 4 (by decide) (va_Nw.use rfl (hG.1 ("BlockLog", 151, "BlockLog$Rows", "count", "I", "BlockLog") (by decide +kernel))) (fun _ h9 => h9) rfl dX8_told_108 ?_
          exact W.iret hx hb hr (fun t ht hW => ⟨_, rfl, rfl, ht⟩) (fun q h => by cases h) dX8_told_111
        · skip
          exact absurd c_4 (by decide)
      · skip
        exact absurd c_3 (by decide)
    · skip
      exact absurd (by decide) c_2

set_option maxHeartbeats 4000000 in
set_option maxRecDepth 100000 in
theorem k_L_told_7 (l : Launch) (dC : Nat → ClassId) (dI : Nat → Nat → Nat) (x : Nat) (ho : Nat) (rr : Nat) (ds : Nat) (tp : Nat) (so : Nat) (pu : Nat) (sn : Nat) (im : Nat) (cs : Nat) (cl : Nat) (ri : Nat) (pg : Int32) (dl : Nat) (dr : Nat) (dt : Nat) (cJ : ClassId) (g1 : Nat → Int64) (sz : Nat)  : Met l yL_told wsL_told ({ frames := 1, cells := 0, slots := 0, locals := 21 }) (va_Pc [.ref x, .int (4 : Int32), .ref ho] (fun U => U.heap.size = sz ∧ va_P (dC, dI) vwCl [(x, .inr (10, [.ref tp, .ref ds, .ref rr, .ref so, .ref pu, .ref sn, .ref im, .ref cs, .ref cl, .int (0 : Int32)])), (rr, .inr (6, [.ref ds, .ref ri, .int 0, .int 1, .int 0, .int 0])), (ds, .inr (3, [.int pg, .ref dl, .ref dr, .ref dt, .int (1 : Int32), .int (-1 : Int32), .int (0 : Int32)])), (ho, .inl (cJ, 1, .inr (.inl g1)))] U.heap ∧ va_K (dC, dI) vwCl [(cJ, .long)] U ∧ va_D (fun _ => True) [(x, .inr (10, [.ref tp, .ref ds, .ref rr, .ref so, .ref pu, .ref sn, .ref im, .ref cs, .ref cl, .int (0 : Int32)])), (rr, .inr (6, [.ref ds, .ref ri, .int 0, .int 1, .int 0, .int 0])), (ds, .inr (3, [.int pg, .ref dl, .ref dr, .ref dt, .int (1 : Int32), .int (-1 : Int32), .int (0 : Int32)])), (ho, .inl (cJ, 1, .inr (.inl g1)))] ∧ gx_E (va_A [(x, .inr (10, [.ref tp, .ref ds, .ref rr, .ref so, .ref pu, .ref sn, .ref im, .ref cs, .ref cl, .int (0 : Int32)])), (rr, .inr (6, [.ref ds, .ref ri, .int 0, .int 1, .int 0, .int 0])), (ds, .inr (3, [.int pg, .ref dl, .ref dr, .ref dt, .int (1 : Int32), .int (-1 : Int32), .int (0 : Int32)])), (ho, .inl (cJ, 1, .inr (.inl g1)))] sz) U)) (va_Qi (fun r (_ : Unit) => r = (0 : Int32)) (fun (_ : Unit) t => va_P (dC, dI) vwCl [(ho, .inl (cJ, 1, .inr (.inl (vp_updL g1 (0 : Int32).toNatClampNeg ((0 : Int32).toInt64)))))] t.heap ∧ va_K (dC, dI) vwCl [(cJ, .long)] t ∧ va_D (va_A [(x, .inr (10, [.ref tp, .ref ds, .ref rr, .ref so, .ref pu, .ref sn, .ref im, .ref cs, .ref cl, .int (0 : Int32)])), (rr, .inr (6, [.ref ds, .ref ri, .int 0, .int 1, .int 0, .int 0])), (ds, .inr (3, [.int pg, .ref dl, .ref dr, .ref dt, .int (1 : Int32), .int (-1 : Int32), .int (0 : Int32)])), (ho, .inl (cJ, 1, .inr (.inl g1)))] sz) [(ho, .inl (cJ, 1, .inr (.inl (vp_updL g1 (0 : Int32).toNatClampNeg ((0 : Int32).toInt64)))))]) (va_A [(x, .inr (10, [.ref tp, .ref ds, .ref rr, .ref so, .ref pu, .ref sn, .ref im, .ref cs, .ref cl, .int (0 : Int32)])), (rr, .inr (6, [.ref ds, .ref ri, .int 0, .int 1, .int 0, .int 0])), (ds, .inr (3, [.int pg, .ref dl, .ref dr, .ref dt, .int (1 : Int32), .int (-1 : Int32), .int (0 : Int32)])), (ho, .inl (cJ, 1, .inr (.inl g1)))] sz)) 0 0 (va_A [(x, .inr (10, [.ref tp, .ref ds, .ref rr, .ref so, .ref pu, .ref sn, .ref im, .ref cs, .ref cl, .int (0 : Int32)])), (rr, .inr (6, [.ref ds, .ref ri, .int 0, .int 1, .int 0, .int 0])), (ds, .inr (3, [.int pg, .ref dl, .ref dr, .ref dt, .int (1 : Int32), .int (-1 : Int32), .int (0 : Int32)])), (ho, .inl (cJ, 1, .inr (.inl g1)))] sz) := by
  refine va_MetW (cc := cL_told) (maxL := 4) (ret := (some .int)) (hh := [(0, 9, 12, 13)]) (by decide) rfl ?_
  intro p e s m args below meth c s₁ B hml hv
  obtain ⟨rfl, hsz, hP, hK, hD0, hG⟩ := hv
  have hx := B.exec
  have hb := B.bytes
  have hr := B.returns
  have hts := atoms_spec (ws := wsL_told) B.pre
  have hown : s.vm.findClass RL = some m.cls := findClass_of_methodNamed B.named
  have hlocks := B.notSynchronized
  have htab := vx_table (x := yL_told) B (hts (.codeWith yL_told cL_told 4 (some .int) [(0, 9, 12, 13)]) List.mem_cons_self)
  subst hsz
  have hD := hD0.self (sz := s.heap.size)
  generalize hAe : va_A [(x, .inr (10, [.ref tp, .ref ds, .ref rr, .ref so, .ref pu, .ref sn, .ref im, .ref cs, .ref cl, .int (0 : Int32)])), (rr, .inr (6, [.ref ds, .ref ri, .int 0, .int 1, .int 0, .int 0])), (ds, .inr (3, [.int pg, .ref dl, .ref dr, .ref dt, .int (1 : Int32), .int (-1 : Int32), .int (0 : Int32)])), (ho, .inl (cJ, 1, .inr (.inl g1)))] s.heap.size = A at hD hG ⊢
  have hA : ∀ q : Nat, s.heap.size ≤ q → A q := fun q h => by rw [← hAe]; exact Or.inr h
  have hS : va_S A s.heap s.heap [] := va_S.rf
  have hl := lv_entry ([.ref x, .int (4 : Int32), .ref ho]) (n := 4) (Nat.le_of_ble_eq_true rfl)
  rw [lg_entry_eq]
  generalize (lg_sl ([.ref x, .int (4 : Int32), .ref ho]) ++ List.replicate (4 - (lg_sl ([.ref x, .int (4 : Int32), .ref ho])).length) Slot.unset).toArray = ls at hl ⊢
  have hl : lv_has ls 4 [(0, .ref x), (1, .int (4 : Int32)), (2, .ref ho)] := hl
  refine lv_aload_n hx hb dL_told_0 rfl (lv_at hl 2 rfl) ?_
  refine lv_iconst (v := 0) hx hb dL_told_1 (by decide) ?_
  refine lv_aload_n hx hb dL_told_2 rfl (lv_at hl 0 rfl) ?_
  refine lv_iload_n hx hb dL_told_3 rfl (lv_at hl 1 rfl) ?_
  have hPc := hP.sub (ws' := [(x, .inr (10, [.ref tp, .ref ds, .ref rr, .ref so, .ref pu, .ref sn, .ref im, .ref cs, .ref cl, .int (0 : Int32)])), (rr, .inr (6, [.ref ds, .ref ri, .int 0, .int 1, .int 0, .int 0])), (ds, .inr (3, [.int pg, .ref dl, .ref dr, .ref dt, .int (1 : Int32), .int (-1 : Int32), .int (0 : Int32)]))]) [0, 1, 2] rfl
  have hKc := hK.sub (tys' := []) [] rfl
  refine vp_callSi (va_Run.run (va_runV (As := [.int (4 : Int32)]) (rest := [.int (0 : Int32), .ref ho]) ⟨hx, hb, hml, hown, hts⟩ (k_X8_told_7 l dC dI x rr ds tp so pu sn im cs cl ri pg dl dr dt) (cwV 1 hts gL_told_X8_told rfl rfl rfl (by decide +kernel) ⟨Nat.le_of_ble_eq_true rfl, Nat.le_of_ble_eq_true rfl⟩) ⟨fun a U g mk q => by obtain ⟨q0, qP, qK, qG⟩ := q; exact ⟨q0, qP, va_K.moved (u := U) (U := U.calling g mk a) (Vm.Alike.refl U.vm) qK, qG.same rfl⟩, va_recv hK hP (ci := 10) (q := (RX8, TX8, 10)) rfl (q0 := 0) rfl, fun U hU hW => ⟨rfl, by rw [hU]; exact hPc, va_K.moved hW.alike hKc, hG.1.warm hW⟩⟩ rfl rfl hl.1 rfl (lv_room (Nat.le_of_ble_eq_true rfl)) dL_told_4 ⟨Nat.le_of_ble_eq_true rfl, Nat.le_of_ble_eq_true rfl⟩)) (fun r_1 er_1 => ?_)
  replace er_1 := er_1.trans (show _ = (0 : Int32) by decide +kernel)
  subst er_1
  refine lv_i2l hx hb dL_told_7 rfl ?_
  refine va_last hx hb hK hP hD hS 3 0 rfl rfl (by unfold vp_in; decide +kernel) dL_told_8 (fun H locs hP hD hS => ?_)
  have hP : va_P (dC, dI) vwCl [(x, .inr (10, [.ref tp, .ref ds, .ref rr, .ref so, .ref pu, .ref sn, .ref im, .ref cs, .ref cl, .int (0 : Int32)])), (rr, .inr (6, [.ref ds, .ref ri, .int 0, .int 1, .int 0, .int 0])), (ds, .inr (3, [.int pg, .ref dl, .ref dr, .ref dt, .int (1 : Int32), .int (-1 : Int32), .int (0 : Int32)])), (ho, .inl (cJ, 1, .inr (.inl (vp_updL g1 (0 : Int32).toNatClampNeg ((0 : Int32).toInt64)))))] H := hP
  have hD : va_D A [(x, .inr (10, [.ref tp, .ref ds, .ref rr, .ref so, .ref pu, .ref sn, .ref im, .ref cs, .ref cl, .int (0 : Int32)])), (rr, .inr (6, [.ref ds, .ref ri, .int 0, .int 1, .int 0, .int 0])), (ds, .inr (3, [.int pg, .ref dl, .ref dr, .ref dt, .int (1 : Int32), .int (-1 : Int32), .int (0 : Int32)])), (ho, .inl (cJ, 1, .inr (.inl (vp_updL g1 (0 : Int32).toNatClampNeg ((0 : Int32).toInt64)))))] := hD
  refine lv_goto (tgt := 15) hx hb dL_told_9 (by decide) ?_
  refine lv_iconst (v := 0) hx hb dL_told_15 (by decide) ?_
  have hP := hP.sub (ws' := [(ho, .inl (cJ, 1, .inr (.inl (vp_updL g1 (0 : Int32).toNatClampNeg ((0 : Int32).toInt64)))))]) [3] rfl
  have hD := hD.sub (ws' := [(ho, .inl (cJ, 1, .inr (.inl (vp_updL g1 (0 : Int32).toNatClampNeg ((0 : Int32).toInt64)))))]) [3] (by decide) rfl
  have hK := hK.sub (tys' := [(cJ, .long)]) [0] rfl
  exact W.iret hx hb hr (fun t ht hW => ⟨⟨_, (), rfl, rfl, by rw [ht]; exact hP, va_K.moved hW.alike hK, hD⟩, hS.F ht⟩) hS.2.2 dL_told_16

set_option maxHeartbeats 4000000 in
set_option maxRecDepth 100000 in
theorem k_X9_told_7 (l : Launch) (dC : Nat → ClassId) (dI : Nat → Nat → Nat) (mo : Nat) (m_disk : Nat) (P : Nat) (m_tape : Nat) (m_slots : Nat) (m_leaves : Nat) (m_fresh : Nat) (m_digestAt : Nat) (m_isGroup : Nat) (m_counts : Nat) (m_versionRow : Nat) (m_state : Nat) (m_names : Nat) (m_keptRow : Nat) (m_inSlot : Nat) (m_inAt : Nat) (m_inSize : Nat) (m_inDigest : Nat) (sz : Nat)  : Met l yX9_told wsX9_told ({ frames := 1, cells := 0, slots := 0, locals := 22 }) (va_Pc [.ref mo, .int (4 : Int32)] (fun U => U.heap.size = sz ∧ va_P (dC, dI) vwCl [(mo, .inr (11, [.ref m_disk, .int (nI P), .int ((8224 : Int32) + ((26 : Int32) * (nI P))), .int (1 : Int32), .int 0, .int (-1 : Int32), .int 0, .int (0 : Int32), .ref m_tape, .int 0, .ref m_slots, .ref m_leaves, .int 0, .int 0, .ref m_fresh, .int 0, .int 0, .int 0, .ref m_digestAt, .ref m_isGroup, .ref m_counts, .int 0, .int 0, .long 0, .int 0, .ref m_versionRow, .int 0, .long 0, .ref m_state, .ref m_names, .int 0, .ref m_keptRow, .int 0, .ref m_inSlot, .ref m_inAt, .ref m_inSize, .ref m_inDigest, .int 0]))] U.heap ∧ va_K (dC, dI) vwCl [] U ∧ va_D (fun _ => True) [(mo, .inr (11, [.ref m_disk, .int (nI P), .int ((8224 : Int32) + ((26 : Int32) * (nI P))), .int (1 : Int32), .int 0, .int (-1 : Int32), .int 0, .int (0 : Int32), .ref m_tape, .int 0, .ref m_slots, .ref m_leaves, .int 0, .int 0, .ref m_fresh, .int 0, .int 0, .int 0, .ref m_digestAt, .ref m_isGroup, .ref m_counts, .int 0, .int 0, .long 0, .int 0, .ref m_versionRow, .int 0, .long 0, .ref m_state, .ref m_names, .int 0, .ref m_keptRow, .int 0, .ref m_inSlot, .ref m_inAt, .ref m_inSize, .ref m_inDigest, .int 0]))])) (va_Qi (fun r (_ : Unit) => r = (0 : Int32)) (fun (_ : Unit) t => va_P (dC, dI) vwCl [(mo, .inr (11, [.ref m_disk, .int (nI P), .int ((8224 : Int32) + ((26 : Int32) * (nI P))), .int (1 : Int32), .int 0, .int (-1 : Int32), .int 0, .int (0 : Int32), .ref m_tape, .int 0, .ref m_slots, .ref m_leaves, .int 0, .int (0 : Int32), .ref m_fresh, .int 0, .int 0, .int 0, .ref m_digestAt, .ref m_isGroup, .ref m_counts, .int 0, .int 0, .long 0, .int 0, .ref m_versionRow, .int 0, .long 0, .ref m_state, .ref m_names, .int 0, .ref m_keptRow, .int 0, .ref m_inSlot, .ref m_inAt, .ref m_inSize, .ref m_inDigest, .int 0]))] t.heap ∧ va_K (dC, dI) vwCl [] t ∧ va_D (va_A [(mo, .inr (11, [.ref m_disk, .int (nI P), .int ((8224 : Int32) + ((26 : Int32) * (nI P))), .int (1 : Int32), .int 0, .int (-1 : Int32), .int 0, .int (0 : Int32), .ref m_tape, .int 0, .ref m_slots, .ref m_leaves, .int 0, .int 0, .ref m_fresh, .int 0, .int 0, .int 0, .ref m_digestAt, .ref m_isGroup, .ref m_counts, .int 0, .int 0, .long 0, .int 0, .ref m_versionRow, .int 0, .long 0, .ref m_state, .ref m_names, .int 0, .ref m_keptRow, .int 0, .ref m_inSlot, .ref m_inAt, .ref m_inSize, .ref m_inDigest, .int 0]))] sz) [(mo, .inr (11, [.ref m_disk, .int (nI P), .int ((8224 : Int32) + ((26 : Int32) * (nI P))), .int (1 : Int32), .int 0, .int (-1 : Int32), .int 0, .int (0 : Int32), .ref m_tape, .int 0, .ref m_slots, .ref m_leaves, .int 0, .int (0 : Int32), .ref m_fresh, .int 0, .int 0, .int 0, .ref m_digestAt, .ref m_isGroup, .ref m_counts, .int 0, .int 0, .long 0, .int 0, .ref m_versionRow, .int 0, .long 0, .ref m_state, .ref m_names, .int 0, .ref m_keptRow, .int 0, .ref m_inSlot, .ref m_inAt, .ref m_inSize, .ref m_inDigest, .int 0]))]) (va_A [(mo, .inr (11, [.ref m_disk, .int (nI P), .int ((8224 : Int32) + ((26 : Int32) * (nI P))), .int (1 : Int32), .int 0, .int (-1 : Int32), .int 0, .int (0 : Int32), .ref m_tape, .int 0, .ref m_slots, .ref m_leaves, .int 0, .int 0, .ref m_fresh, .int 0, .int 0, .int 0, .ref m_digestAt, .ref m_isGroup, .ref m_counts, .int 0, .int 0, .long 0, .int 0, .ref m_versionRow, .int 0, .long 0, .ref m_state, .ref m_names, .int 0, .ref m_keptRow, .int 0, .ref m_inSlot, .ref m_inAt, .ref m_inSize, .ref m_inDigest, .int 0]))] sz)) 0 0 (va_A [(mo, .inr (11, [.ref m_disk, .int (nI P), .int ((8224 : Int32) + ((26 : Int32) * (nI P))), .int (1 : Int32), .int 0, .int (-1 : Int32), .int 0, .int (0 : Int32), .ref m_tape, .int 0, .ref m_slots, .ref m_leaves, .int 0, .int 0, .ref m_fresh, .int 0, .int 0, .int 0, .ref m_digestAt, .ref m_isGroup, .ref m_counts, .int 0, .int 0, .long 0, .int 0, .ref m_versionRow, .int 0, .long 0, .ref m_state, .ref m_names, .int 0, .ref m_keptRow, .int 0, .ref m_inSlot, .ref m_inAt, .ref m_inSize, .ref m_inDigest, .int 0]))] sz) := by
  refine Met.ofW (cc := cX9_told) (maxL := 2) (ret := (some .int)) (by decide) rfl ?_
  intro p e s m args below meth c s₁ B hml hv
  obtain ⟨rfl, hsz, hP, hK, hD0⟩ := hv
  have hx := B.exec
  have hb := B.bytes
  have hr := B.returns
  have hts := atoms_spec (ws := wsX9_told) B.pre
  have hown : s.vm.findClass RX9 = some m.cls := findClass_of_methodNamed B.named
  have hlocks := B.notSynchronized
  subst hsz
  have hD := hD0.self (sz := s.heap.size)
  generalize hAe : va_A [(mo, .inr (11, [.ref m_disk, .int (nI P), .int ((8224 : Int32) + ((26 : Int32) * (nI P))), .int (1 : Int32), .int 0, .int (-1 : Int32), .int 0, .int (0 : Int32), .ref m_tape, .int 0, .ref m_slots, .ref m_leaves, .int 0, .int 0, .ref m_fresh, .int 0, .int 0, .int 0, .ref m_digestAt, .ref m_isGroup, .ref m_counts, .int 0, .int 0, .long 0, .int 0, .ref m_versionRow, .int 0, .long 0, .ref m_state, .ref m_names, .int 0, .ref m_keptRow, .int 0, .ref m_inSlot, .ref m_inAt, .ref m_inSize, .ref m_inDigest, .int 0]))] s.heap.size = A at hD ⊢
  have hA : ∀ q : Nat, s.heap.size ≤ q → A q := fun q h => by rw [← hAe]; exact Or.inr h
  have hS : va_S A s.heap s.heap [] := va_S.rf
  have hl := lv_entry ([.ref mo, .int (4 : Int32)]) (n := 2) (Nat.le_of_ble_eq_true rfl)
  rw [lg_entry_eq]
  generalize (lg_sl ([.ref mo, .int (4 : Int32)]) ++ List.replicate (2 - (lg_sl ([.ref mo, .int (4 : Int32)])).length) Slot.unset).toArray = ls at hl ⊢
  have hl : lv_has ls 2 [(0, .ref mo), (1, .int (4 : Int32))] := hl
  refine lv_aload_n hx hb dX9_told_0 rfl (lv_at hl 0 rfl) ?_
  refine lv_iload_n hx hb dX9_told_1 rfl (lv_at hl 1 rfl) ?_
  refine lv_iconst (v := 0) hx hb dX9_told_2 (by decide) ?_
  refine lv_bipush (v := 8) hx hb dX9_told_3 (by decide) ?_
  have hPc := hP.sub (ws' := []) [] rfl
  have hKc := hK.sub (tys' := []) [] rfl
  refine vp_callSi (va_Run.run (va_runS (As := [.int (4 : Int32), .int (0 : Int32), .int (8 : Int32)]) (rest := [.ref mo]) ⟨hx, hb, hml, hown, hts⟩ (k_X9_within_3 l dC dI (4 : Int32) (0 : Int32) (8 : Int32) (by decide) (by decide)) (va_cwS 3 hts gX9_told_X9_within rfl rfl rfl (by decide +kernel) ⟨Nat.le_of_ble_eq_true rfl, Nat.le_of_ble_eq_true rfl⟩) ⟨fun a U g mk q => by obtain ⟨q0, qP, qK⟩ := q; exact ⟨q0, qP, va_K.moved (u := U) (U := U.calling g mk a) (Vm.Alike.refl U.vm) qK⟩, fun U hU hW => ⟨rfl, by rw [hU]; exact hPc, va_K.moved hW.alike hKc⟩⟩ rfl rfl hl.1 rfl (lv_room (Nat.le_of_ble_eq_true rfl)) dX9_told_5 ⟨Nat.le_of_ble_eq_true rfl, Nat.le_of_ble_eq_true rfl⟩)) (fun r_1 er_1 => ?_)
  subst er_1
  refine lv_if_eq (tgt := 15) hx hb dX9_told_8 (by decide) (fun c_2 => ?_) (fun c_2 => ?_)
  · skip
    exact absurd c_2 (by decide)
  · skip
    refine lv_iconst (v := 0) hx hb dX9_told_11 (by decide) ?_
    refine lv_goto (tgt := 16) hx hb dX9_told_12 (by decide) ?_
    refine va_put (D := (dC, dI)) (ci := 11) (v := .int (0 : Int32)) (ty := .int) (C := RX9) (T := TX9) (N := 38) hx hb hts (by decide +kernel) tyX9 tyX9_ok nmX9 hown hK hP hD hS 0 rfl rfl 13 (by decide) (hts (.fieldLink RX9 91 "BlockLogModel" "thrown" "I") (by decide +kernel)) (fun _ h9 => h9) rfl (by decide +kernel) rfl rfl (Nat.le_of_ble_eq_true rfl) dX9_told_16 (fun H locs hP hD hS => ?_)
    have hP : va_P (dC, dI) vwCl [(mo, .inr (11, [.ref m_disk, .int (nI P), .int ((8224 : Int32) + ((26 : Int32) * (nI P))), .int (1 : Int32), .int 0, .int (-1 : Int32), .int 0, .int (0 : Int32), .ref m_tape, .int 0, .ref m_slots, .ref m_leaves, .int 0, .int (0 : Int32), .ref m_fresh, .int 0, .int 0, .int 0, .ref m_digestAt, .ref m_isGroup, .ref m_counts, .int 0, .int 0, .long 0, .int 0, .ref m_versionRow, .int 0, .long 0, .ref m_state, .ref m_names, .int 0, .ref m_keptRow, .int 0, .ref m_inSlot, .ref m_inAt, .ref m_inSize, .ref m_inDigest, .int 0]))] H := hP
    have hD : va_D A [(mo, .inr (11, [.ref m_disk, .int (nI P), .int ((8224 : Int32) + ((26 : Int32) * (nI P))), .int (1 : Int32), .int 0, .int (-1 : Int32), .int 0, .int (0 : Int32), .ref m_tape, .int 0, .ref m_slots, .ref m_leaves, .int 0, .int (0 : Int32), .ref m_fresh, .int 0, .int 0, .int 0, .ref m_digestAt, .ref m_isGroup, .ref m_counts, .int 0, .int 0, .long 0, .int 0, .ref m_versionRow, .int 0, .long 0, .ref m_state, .ref m_names, .int 0, .ref m_keptRow, .int 0, .ref m_inSlot, .ref m_inAt, .ref m_inSize, .ref m_inDigest, .int 0]))] := hD
    refine lv_aload_n hx hb dX9_told_19 rfl (lv_at hl 0 rfl) ?_
    refine va_get (D := (dC, dI)) (ci := 11) (v := .int (0 : Int32)) (C := RX9) (T := TX9) (N := 38) hx hb hts (by decide +kernel) hown hK hP 0 rfl rfl 13 (by decide) (hts (.fieldLink RX9 91 "BlockLogModel" "thrown" "I") (by decide +kernel)) (fun _ h9 => h9) rfl dX9_told_20 ?_
    refine lv_if_le (tgt := 28) hx hb dX9_told_23 (by decide) (fun c_3 => ?_) (fun c_3 => ?_)
    · skip
      refine lv_iload_n hx hb dX9_told_28 rfl (lv_at hl 1 rfl) ?_
      refine lv_if_ne (tgt := 45) hx hb dX9_told_29 (by decide) (fun c_4 => ?_) (fun c_4 => ?_)
      · skip
        refine lv_iload_n hx hb dX9_told_45 rfl (lv_at hl 1 rfl) ?_
        refine lv_iconst (v := 1) hx hb dX9_told_46 (by decide) ?_
        refine lv_icmp_ne (tgt := 55) hx hb dX9_told_47 (by decide) (fun c_5 => ?_) (fun c_5 => ?_)
        · skip
          refine lv_aload_n hx hb dX9_told_55 rfl (lv_at hl 0 rfl) ?_
          refine va_get (D := (dC, dI)) (ci := 11) (v := .int (1 : Int32)) (C := RX9) (T := TX9) (N := 38) hx hb hts (by decide +kernel) hown hK hP 0 rfl rfl 3 (by decide) (hts (.fieldLink RX9 72 "BlockLogModel" "on" "Z") (by decide +kernel)) (fun _ h9 => h9) rfl dX9_told_56 ?_
          refine lv_if_ne (tgt := 64) hx hb dX9_told_59 (by decide) (fun c_6 => ?_) (fun c_6 => ?_)
          · skip
            refine lv_iload_n hx hb dX9_told_64 rfl (lv_at hl 1 rfl) ?_
            refine lv_tableIn (off := 58) (tgt := 123) hx hb dX9_told_65 (by decide +kernel) (by decide +kernel) (by decide +kernel) (by decide) ?_
            refine lv_aload_n hx hb dX9_told_123 rfl (lv_at hl 0 rfl) ?_
            have hPc := hP.sub (ws' := [(mo, .inr (11, [.ref m_disk, .int (nI P), .int ((8224 : Int32) + ((26 : Int32) * (nI P))), .int (1 : Int32), .int 0, .int (-1 : Int32), .int 0, .int (0 : Int32), .ref m_tape, .int 0, .ref m_slots, .ref m_leaves, .int 0, .int (0 : Int32), .ref m_fresh, .int 0, .int 0, .int 0, .ref m_digestAt, .ref m_isGroup, .ref m_counts, .int 0, .int 0, .long 0, .int 0, .ref m_versionRow, .int 0, .long 0, .ref m_state, .ref m_names, .int 0, .ref m_keptRow, .int 0, .ref m_inSlot, .ref m_inAt, .ref m_inSize, .ref m_inDigest, .int 0]))]) [0] rfl
            have hKc := hK.sub (tys' := []) [] rfl
            refine vp_callSi (va_Run.run (va_runV (As := []) (rest := []) ⟨hx, hb, hml, hown, hts⟩ (k_X9_rows_1 l dC dI mo m_disk P m_tape m_slots m_leaves m_fresh m_digestAt m_isGroup m_counts m_versionRow m_state m_names m_keptRow m_inSlot m_inAt m_inSize m_inDigest) (cwV 0 hts gX9_told_X9_rows rfl rfl rfl (by decide +kernel) ⟨Nat.le_of_ble_eq_true rfl, Nat.le_of_ble_eq_true rfl⟩) ⟨fun a U g mk q => by obtain ⟨q0, qP, qK⟩ := q; exact ⟨q0, qP, va_K.moved (u := U) (U := U.calling g mk a) (Vm.Alike.refl U.vm) qK⟩, va_recv hK hP (ci := 11) (q := (RX9, TX9, 38)) rfl (q0 := 0) rfl, fun U hU hW => ⟨rfl, by rw [hU]; exact hPc, va_K.moved hW.alike hKc⟩⟩ rfl rfl hl.1 rfl (lv_room (Nat.le_of_ble_eq_true rfl)) dX9_told_124 ⟨Nat.le_of_ble_eq_true rfl, Nat.le_of_ble_eq_true rfl⟩)) (fun r_7 er_7 => ?_)
            replace er_7 := er_7.trans (show _ = (0 : Int32) by decide +kernel)
            subst er_7
            have hP := hP.sub (ws' := [(mo, .inr (11, [.ref m_disk, .int (nI P), .int ((8224 : Int32) + ((26 : Int32) * (nI P))), .int (1 : Int32), .int 0, .int (-1 : Int32), .int 0, .int (0 : Int32), .ref m_tape, .int 0, .ref m_slots, .ref m_leaves, .int 0, .int (0 : Int32), .ref m_fresh, .int 0, .int 0, .int 0, .ref m_digestAt, .ref m_isGroup, .ref m_counts, .int 0, .int 0, .long 0, .int 0, .ref m_versionRow, .int 0, .long 0, .ref m_state, .ref m_names, .int 0, .ref m_keptRow, .int 0, .ref m_inSlot, .ref m_inAt, .ref m_inSize, .ref m_inDigest, .int 0]))]) [0] rfl
            have hD := hD.sub (ws' := [(mo, .inr (11, [.ref m_disk, .int (nI P), .int ((8224 : Int32) + ((26 : Int32) * (nI P))), .int (1 : Int32), .int 0, .int (-1 : Int32), .int 0, .int (0 : Int32), .ref m_tape, .int 0, .ref m_slots, .ref m_leaves, .int 0, .int (0 : Int32), .ref m_fresh, .int 0, .int 0, .int 0, .ref m_digestAt, .ref m_isGroup, .ref m_counts, .int 0, .int 0, .long 0, .int 0, .ref m_versionRow, .int 0, .long 0, .ref m_state, .ref m_names, .int 0, .ref m_keptRow, .int 0, .ref m_inSlot, .ref m_inAt, .ref m_inSize, .ref m_inDigest, .int 0]))]) [0] (by decide) rfl
            have hK := hK.sub (tys' := []) [] rfl
            exact W.iret hx hb hr (fun t ht hW => ⟨⟨_, (), rfl, rfl, by rw [ht]; exact hP, va_K.moved hW.alike hK, hD⟩, hS.F ht⟩) hS.2.2 dX9_told_127
          · skip
            exact absurd c_6 (by decide)
        · skip
          exact absurd c_5 (by decide)
      · skip
        exact absurd c_4 (by decide)
    · skip
      exact absurd (by decide) c_3

set_option maxHeartbeats 4000000 in
set_option maxRecDepth 100000 in
theorem k_X1_countPages_1 (l : Launch) (dC : Nat → ClassId) (dI : Nat → Nat → Nat) (ds : Nat) (dt : Nat) (te : Nat) (pg : Int32) (dl : Nat) (dr : Nat)  : Met l yX1_countPages wsX1_countPages ({ frames := 1, cells := 0, slots := 0, locals := 20 }) (va_Pc [.ref ds, .int (1 : Int32)] (fun U => va_P (dC, dI) vwCl [(dt, .inr (2, [.int (0 : Int32), .ref te, .int 0])), (ds, .inr (3, [.int pg, .ref dl, .ref dr, .ref dt, .int (1 : Int32), .int (-1 : Int32), .int (0 : Int32)]))] U.heap ∧ va_K (dC, dI) vwCl [] U)) (vp_Si (fun r => r = (0 : Int32))) 0 0 (fun _ => False) := by
  refine Met.ofW (cc := cX1_countPages) (maxL := 4) (ret := (some .int)) (by decide) rfl ?_
  intro p e s m args below meth c s₁ B hml hv
  obtain ⟨rfl, hP, hK⟩ := hv
  have hx := B.exec
  have hb := B.bytes
  have hr := B.returns
  have hts := atoms_spec (ws := wsX1_countPages) B.pre
  have hown : s.vm.findClass RX1 = some m.cls := findClass_of_methodNamed B.named
  have hlocks := B.notSynchronized
  have hl := lv_entry ([.ref ds, .int (1 : Int32)]) (n := 4) (Nat.le_of_ble_eq_true rfl)
  rw [lg_entry_eq]
  generalize (lg_sl ([.ref ds, .int (1 : Int32)]) ++ List.replicate (4 - (lg_sl ([.ref ds, .int (1 : Int32)])).length) Slot.unset).toArray = ls at hl ⊢
  have hl : lv_has ls 4 [(0, .ref ds), (1, .int (1 : Int32))] := hl
  refine lv_iconst (v := 0) hx hb dX1_countPages_0 (by decide) ?_
  refine lv_istore_n (lv' := [(2, .int (0 : Int32)), (0, .ref ds), (1, .int (1 : Int32))]) hx hb dX1_countPages_1 rfl hl (by decide) rfl (fun ls hl => ?_)
  refine lv_iconst (v := 0) hx hb dX1_countPages_2 (by decide) ?_
  refine lv_istore_n (lv' := [(3, .int (0 : Int32)), (2, .int (0 : Int32)), (0, .ref ds), (1, .int (1 : Int32))]) hx hb dX1_countPages_3 rfl hl (by decide) rfl (fun ls hl => ?_)
  refine lv_iload_n hx hb dX1_countPages_4 rfl (lv_at hl 0 rfl) ?_
  refine lv_aload_n hx hb dX1_countPages_5 rfl (lv_at hl 2 rfl) ?_
  refine va_get (D := (dC, dI)) (ci := 3) (v := .ref dt) (C := RX1) (T := TX1) (N := 7) hx hb hts (by decide +kernel) hown hK hP 1 rfl rfl 3 (by decide) (hts (.fieldLink RX1 25 "BlockLog$Disk" "touched" "Ljava/util/ArrayList;") (by decide +kernel)) (fun _ h9 => h9) rfl dX1_countPages_6 ?_
  have hPc := hP.sub (ws' := [(dt, .inr (2, [.int (0 : Int32), .ref te, .int 0]))]) [0] rfl
  have hKc := hK.sub (tys' := []) [] rfl
  refine vp_callSi (va_Run.run (va_runV (As := []) (rest := [.int (0 : Int32)]) ⟨hx, hb, hml, hown, hts⟩ (k_Jx4a65c_size_8abf5_1 l dC dI dt te) (cwV 0 hts gX1_countPages_Jx4a65c_size_8abf5 rfl rfl rfl (by decide +kernel) ⟨Nat.le_of_ble_eq_true rfl, Nat.le_of_ble_eq_true rfl⟩) ⟨fun a U g mk q => by obtain ⟨q0, qP, qK⟩ := q; exact ⟨q0, qP, va_K.moved (u := U) (U := U.calling g mk a) (Vm.Alike.refl U.vm) qK⟩, va_recv hK hP (ci := 2) (q := (RJx4a65c, TJx4a65c, 3)) rfl (q0 := 0) rfl, fun U hU hW => ⟨rfl, by rw [hU]; exact hPc, va_K.moved hW.alike hKc⟩⟩ rfl rfl hl.1 rfl (lv_room (Nat.le_of_ble_eq_true rfl)) dX1_countPages_9 ⟨Nat.le_of_ble_eq_true rfl, Nat.le_of_ble_eq_true rfl⟩)) (fun r_1 er_1 => ?_)
  replace er_1 := er_1.trans (show _ = (0 : Int32) by decide +kernel)
  subst er_1
  refine lv_icmp_ge (tgt := 42) hx hb dX1_countPages_12 (by decide) (fun c_2 => ?_) (fun c_2 => ?_)
  · skip
    refine lv_iload_n hx hb dX1_countPages_42 rfl (lv_at hl 1 rfl) ?_
    exact W.iret hx hb hr (fun t ht hW => ⟨_, rfl, rfl, ht⟩) (fun q h => by cases h) dX1_countPages_43
  · skip
    exact absurd (by decide) c_2

set_option maxHeartbeats 4000000 in
set_option maxRecDepth 100000 in
theorem k_X1_freePages_1 (l : Launch) (dC : Nat → ClassId) (dI : Nat → Nat → Nat) (ds : Nat) (dt : Nat) (te : Nat) (pg : Int32) (dl : Nat) (dr : Nat)  : Met l yX1_freePages wsX1_freePages ({ frames := 2, cells := 0, slots := 0, locals := 43 }) (va_Pc [.ref ds] (fun U => va_P (dC, dI) vwCl [(dt, .inr (2, [.int (0 : Int32), .ref te, .int 0])), (ds, .inr (3, [.int pg, .ref dl, .ref dr, .ref dt, .int (1 : Int32), .int (-1 : Int32), .int (0 : Int32)]))] U.heap ∧ va_K (dC, dI) vwCl [] U)) (vp_Si (fun r => r = (pg - (0 : Int32)) + (0 : Int32))) 0 0 (fun _ => False) := by
  refine Met.ofW (cc := cX1_freePages) (maxL := 1) (ret := (some .int)) (by decide) rfl ?_
  intro p e s m args below meth c s₁ B hml hv
  obtain ⟨rfl, hP, hK⟩ := hv
  have hx := B.exec
  have hb := B.bytes
  have hr := B.returns
  have hts := atoms_spec (ws := wsX1_freePages) B.pre
  have hown : s.vm.findClass RX1 = some m.cls := findClass_of_methodNamed B.named
  have hlocks := B.notSynchronized
  have hl := lv_entry ([.ref ds]) (n := 1) (Nat.le_of_ble_eq_true rfl)
  rw [lg_entry_eq]
  generalize (lg_sl ([.ref ds]) ++ List.replicate (1 - (lg_sl ([.ref ds])).length) Slot.unset).toArray = ls at hl ⊢
  have hl : lv_has ls 1 [(0, .ref ds)] := hl
  refine lv_aload_n hx hb dX1_freePages_0 rfl (lv_at hl 0 rfl) ?_
  refine va_get (D := (dC, dI)) (ci := 3) (v := .int pg) (C := RX1) (T := TX1) (N := 7) hx hb hts (by decide +kernel) hown hK hP 1 rfl rfl 0 (by decide) (hts (.fieldLink RX1 9 "BlockLog$Disk" "pageCount" "I") (by decide +kernel)) (fun _ h9 => h9) rfl dX1_freePages_1 ?_
  refine lv_aload_n hx hb dX1_freePages_4 rfl (lv_at hl 0 rfl) ?_
  refine va_get (D := (dC, dI)) (ci := 3) (v := .ref dt) (C := RX1) (T := TX1) (N := 7) hx hb hts (by decide +kernel) hown hK hP 1 rfl rfl 3 (by decide) (hts (.fieldLink RX1 25 "BlockLog$Disk" "touched" "Ljava/util/ArrayList;") (by decide +kernel)) (fun _ h9 => h9) rfl dX1_freePages_5 ?_
  have hPc := hP.sub (ws' := [(dt, .inr (2, [.int (0 : Int32), .ref te, .int 0]))]) [0] rfl
  have hKc := hK.sub (tys' := []) [] rfl
  refine vp_callSi (va_Run.run (va_runV (As := []) (rest := [.int pg]) ⟨hx, hb, hml, hown, hts⟩ (k_Jx4a65c_size_8abf5_1 l dC dI dt te) (cwV 0 hts gX1_freePages_Jx4a65c_size_8abf5 rfl rfl rfl (by decide +kernel) ⟨Nat.le_of_ble_eq_true rfl, Nat.le_of_ble_eq_true rfl⟩) ⟨fun a U g mk q => by obtain ⟨q0, qP, qK⟩ := q; exact ⟨q0, qP, va_K.moved (u := U) (U := U.calling g mk a) (Vm.Alike.refl U.vm) qK⟩, va_recv hK hP (ci := 2) (q := (RJx4a65c, TJx4a65c, 3)) rfl (q0 := 0) rfl, fun U hU hW => ⟨rfl, by rw [hU]; exact hPc, va_K.moved hW.alike hKc⟩⟩ rfl rfl hl.1 rfl (lv_room (Nat.le_of_ble_eq_true rfl)) dX1_freePages_8 ⟨Nat.le_of_ble_eq_true rfl, Nat.le_of_ble_eq_true rfl⟩)) (fun r_1 er_1 => ?_)
  replace er_1 := er_1.trans (show _ = (0 : Int32) by decide +kernel)
  subst er_1
  refine lv_isub hx hb dX1_freePages_11 ?_
  refine lv_aload_n hx hb dX1_freePages_12 rfl (lv_at hl 0 rfl) ?_
  refine lv_iconst (v := 1) hx hb dX1_freePages_13 (by decide) ?_
  have hPc := hP.sub (ws' := [(dt, .inr (2, [.int (0 : Int32), .ref te, .int 0])), (ds, .inr (3, [.int pg, .ref dl, .ref dr, .ref dt, .int (1 : Int32), .int (-1 : Int32), .int (0 : Int32)]))]) [0, 1] rfl
  have hKc := hK.sub (tys' := []) [] rfl
  refine vp_callSi (va_Run.run (va_runV (As := [.int (1 : Int32)]) (rest := [.int (pg - (0 : Int32))]) ⟨hx, hb, hml, hown, hts⟩ (k_X1_countPages_1 l dC dI ds dt te pg dl dr) (cwV 1 hts gX1_freePages_X1_countPages rfl rfl rfl (by decide +kernel) ⟨Nat.le_of_ble_eq_true rfl, Nat.le_of_ble_eq_true rfl⟩) ⟨fun a U g mk q => by obtain ⟨q0, qP, qK⟩ := q; exact ⟨q0, qP, va_K.moved (u := U) (U := U.calling g mk a) (Vm.Alike.refl U.vm) qK⟩, va_recv hK hP (ci := 3) (q := (RX1, TX1, 7)) rfl (q0 := 1) rfl, fun U hU hW => ⟨rfl, by rw [hU]; exact hPc, va_K.moved hW.alike hKc⟩⟩ rfl rfl hl.1 rfl (lv_room (Nat.le_of_ble_eq_true rfl)) dX1_freePages_14 ⟨Nat.le_of_ble_eq_true rfl, Nat.le_of_ble_eq_true rfl⟩)) (fun r_2 er_2 => ?_)
  subst er_2
  refine lv_iadd hx hb dX1_freePages_17 ?_
  exact W.iret hx hb hr (fun t ht hW => ⟨_, rfl, rfl, ht⟩) (fun q h => by cases h) dX1_freePages_18

set_option maxHeartbeats 4000000 in
set_option maxRecDepth 100000 in
theorem k_X8_told_8 (l : Launch) (dC : Nat → ClassId) (dI : Nat → Nat → Nat) (x : Nat) (dt : Nat) (ds : Nat) (tp : Nat) (rr : Nat) (so : Nat) (pu : Nat) (sn : Nat) (im : Nat) (cs : Nat) (cl : Nat) (te : Nat) (pg : Int32) (dl : Nat) (dr : Nat)  : Met l yX8_told wsX8_told ({ frames := 3, cells := 0, slots := 0, locals := 63 }) (va_Pc [.ref x, .int (5 : Int32)] (fun U => va_P (dC, dI) vwCl [(x, .inr (10, [.ref tp, .ref ds, .ref rr, .ref so, .ref pu, .ref sn, .ref im, .ref cs, .ref cl, .int (0 : Int32)])), (dt, .inr (2, [.int (0 : Int32), .ref te, .int 0])), (ds, .inr (3, [.int pg, .ref dl, .ref dr, .ref dt, .int (1 : Int32), .int (-1 : Int32), .int (0 : Int32)]))] U.heap ∧ va_K (dC, dI) vwCl [] U ∧ gx_W U)) (vp_Si (fun r => r = (pg - (0 : Int32)) + (0 : Int32))) 0 0 (fun _ => False) := by
  refine Met.ofW (cc := cX8_told) (maxL := 2) (ret := (some .int)) (by decide) rfl ?_
  intro p e s m args below meth c s₁ B hml hv
  obtain ⟨rfl, hP, hK, hG⟩ := hv
  have hx := B.exec
  have hb := B.bytes
  have hr := B.returns
  have hts := atoms_spec (ws := wsX8_told) B.pre
  have hown : s.vm.findClass RX8 = some m.cls := findClass_of_methodNamed B.named
  have hlocks := B.notSynchronized
  have hl := lv_entry ([.ref x, .int (5 : Int32)]) (n := 2) (Nat.le_of_ble_eq_true rfl)
  rw [lg_entry_eq]
  generalize (lg_sl ([.ref x, .int (5 : Int32)]) ++ List.replicate (2 - (lg_sl ([.ref x, .int (5 : Int32)])).length) Slot.unset).toArray = ls at hl ⊢
  have hl : lv_has ls 2 [(0, .ref x), (1, .int (5 : Int32))] := hl
  refine lv_iload_n hx hb dX8_told_0 rfl (lv_at hl 1 rfl) ?_
  refine lv_if_lt (tgt := 10) hx hb dX8_told_1 (by decide) (fun c_1 => ?_) (fun c_1 => ?_)
  · skip
    exact absurd c_1 (by decide)
  · skip
    refine lv_iload_n hx hb dX8_told_4 rfl (lv_at hl 1 rfl) ?_
    refine lv_bipush (v := 8) hx hb dX8_told_5 (by decide) ?_
    refine lv_icmp_le (tgt := 21) hx hb dX8_told_7 (by decide) (fun c_2 => ?_) (fun c_2 => ?_)
    · skip
      refine lv_iload_n hx hb dX8_told_21 rfl (lv_at hl 1 rfl) ?_
      refine lv_iconst (v := 1) hx hb dX8_told_22 (by decide) ?_
      refine lv_icmp_ne (tgt := 34) hx hb dX8_told_23 (by decide) (fun c_3 => ?_) (fun c_3 => ?_)
      · skip
        refine lv_aload_n hx hb dX8_told_34 rfl (lv_at hl 0 rfl) ?_
        refine va_get (D := (dC, dI)) (ci := 10) (v := .ref ds) (C := RX8) (T := TX8) (N := 10) hx hb hts (by decide +kernel) hown hK hP 0 rfl rfl 1 (by decide) (hts (.fieldLink RX8 22 "BlockLog" "disk" "LBlockLog$Disk;") (by decide +kernel)) (fun _ h9 => h9) rfl dX8_told_35 ?_
        refine va_getN (D := (dC, dI)) (ci := 3) (v := .int (1 : Int32)) (C := RX1) (T := TX1) (N := 7) hx hb hts (by decide +kernel) hown hK hP 2 rfl rfl 4 (by decide) (va_Nw.use rfl (hG.1 ("BlockLog", 287, "BlockLog$Disk", "powered", "Z", "BlockLog") (by decide +kernel))) (fun _ h9 => h9) rfl dX8_told_38 ?_
        refine lv_if_ne (tgt := 46) hx hb dX8_told_41 (by decide) (fun c_4 => ?_) (fun c_4 => ?_)
        · skip
          refine lv_iload_n hx hb dX8_told_46 rfl (lv_at hl 1 rfl) ?_
          refine lv_tableIn (off := 65) (tgt := 112) hx hb dX8_told_47 (by decide +kernel) (by decide +kernel) (by decide +kernel) (by decide) ?_
          refine lv_aload_n hx hb dX8_told_112 rfl (lv_at hl 0 rfl) ?_
          refine va_get (D := (dC, dI)) (ci := 10) (v := .ref ds) (C := RX8) (T := TX8) (N := 10) hx hb hts (by decide +kernel) hown hK hP 0 rfl rfl 1 (by decide) (hts (.fieldLink RX8 22 "BlockLog" "disk" "LBlockLog$Disk;") (by decide +kernel)) (fun _ h9 => h9) rfl dX8_told_113 ?_
          have hPc := hP.sub (ws' := [(dt, .inr (2, [.int (0 : Int32), .ref te, .int 0])), (ds, .inr (3, [.int pg, .ref dl, .ref dr, .ref dt, .int (1 : Int32), .int (-1 : Int32), .int (0 : Int32)]))]) [1, 2] rfl
          have hKc := hK.sub (tys' := []) [] rfl
          refine vp_callSi (va_Run.run (va_runV (As := []) (rest := []) ⟨hx, hb, hml, hown, hts⟩ (k_X1_freePages_1 l dC dI ds dt te pg dl dr) (cwV 0 hts gX8_told_X1_freePages rfl rfl rfl (by decide +kernel) ⟨Nat.le_of_ble_eq_true rfl, Nat.le_of_ble_eq_true rfl⟩) ⟨fun a U g mk q => by obtain ⟨q0, qP, qK⟩ := q; exact ⟨q0, qP, va_K.moved (u := U) (U := U.calling g mk a) (Vm.Alike.refl U.vm) qK⟩, va_recv hK hP (ci := 3) (q := (RX1, TX1, 7)) rfl (q0 := 2) rfl, fun U hU hW => ⟨rfl, by rw [hU]; exact hPc, va_K.moved hW.alike hKc⟩⟩ rfl rfl hl.1 rfl (lv_room (Nat.le_of_ble_eq_true rfl)) dX8_told_116 ⟨Nat.le_of_ble_eq_true rfl, Nat.le_of_ble_eq_true rfl⟩)) (fun r_5 er_5 => ?_)
          subst er_5
          exact W.iret hx hb hr (fun t ht hW => ⟨_, rfl, rfl, ht⟩) (fun q h => by cases h) dX8_told_119
        · skip
          exact absurd c_4 (by decide)
      · skip
        exact absurd c_3 (by decide)
    · skip
      exact absurd (by decide) c_2

set_option maxHeartbeats 4000000 in
set_option maxRecDepth 100000 in
theorem k_L_told_8 (l : Launch) (dC : Nat → ClassId) (dI : Nat → Nat → Nat) (x : Nat) (ho : Nat) (dt : Nat) (ds : Nat) (tp : Nat) (rr : Nat) (so : Nat) (pu : Nat) (sn : Nat) (im : Nat) (cs : Nat) (cl : Nat) (te : Nat) (pg : Int32) (dl : Nat) (dr : Nat) (cJ : ClassId) (g1 : Nat → Int64) (sz : Nat)  : Met l yL_told wsL_told ({ frames := 4, cells := 0, slots := 0, locals := 84 }) (va_Pc [.ref x, .int (5 : Int32), .ref ho] (fun U => U.heap.size = sz ∧ va_P (dC, dI) vwCl [(x, .inr (10, [.ref tp, .ref ds, .ref rr, .ref so, .ref pu, .ref sn, .ref im, .ref cs, .ref cl, .int (0 : Int32)])), (dt, .inr (2, [.int (0 : Int32), .ref te, .int 0])), (ds, .inr (3, [.int pg, .ref dl, .ref dr, .ref dt, .int (1 : Int32), .int (-1 : Int32), .int (0 : Int32)])), (ho, .inl (cJ, 1, .inr (.inl g1)))] U.heap ∧ va_K (dC, dI) vwCl [(cJ, .long)] U ∧ va_D (fun _ => True) [(x, .inr (10, [.ref tp, .ref ds, .ref rr, .ref so, .ref pu, .ref sn, .ref im, .ref cs, .ref cl, .int (0 : Int32)])), (dt, .inr (2, [.int (0 : Int32), .ref te, .int 0])), (ds, .inr (3, [.int pg, .ref dl, .ref dr, .ref dt, .int (1 : Int32), .int (-1 : Int32), .int (0 : Int32)])), (ho, .inl (cJ, 1, .inr (.inl g1)))] ∧ gx_E (va_A [(x, .inr (10, [.ref tp, .ref ds, .ref rr, .ref so, .ref pu, .ref sn, .ref im, .ref cs, .ref cl, .int (0 : Int32)])), (dt, .inr (2, [.int (0 : Int32), .ref te, .int 0])), (ds, .inr (3, [.int pg, .ref dl, .ref dr, .ref dt, .int (1 : Int32), .int (-1 : Int32), .int (0 : Int32)])), (ho, .inl (cJ, 1, .inr (.inl g1)))] sz) U)) (va_Qi (fun r (_ : Unit) => r = (0 : Int32)) (fun (_ : Unit) t => va_P (dC, dI) vwCl [(ho, .inl (cJ, 1, .inr (.inl (vp_updL g1 (0 : Int32).toNatClampNeg (((pg - (0 : Int32)) + (0 : Int32)).toInt64)))))] t.heap ∧ va_K (dC, dI) vwCl [(cJ, .long)] t ∧ va_D (va_A [(x, .inr (10, [.ref tp, .ref ds, .ref rr, .ref so, .ref pu, .ref sn, .ref im, .ref cs, .ref cl, .int (0 : Int32)])), (dt, .inr (2, [.int (0 : Int32), .ref te, .int 0])), (ds, .inr (3, [.int pg, .ref dl, .ref dr, .ref dt, .int (1 : Int32), .int (-1 : Int32), .int (0 : Int32)])), (ho, .inl (cJ, 1, .inr (.inl g1)))] sz) [(ho, .inl (cJ, 1, .inr (.inl (vp_updL g1 (0 : Int32).toNatClampNeg (((pg - (0 : Int32)) + (0 : Int32)).toInt64)))))]) (va_A [(x, .inr (10, [.ref tp, .ref ds, .ref rr, .ref so, .ref pu, .ref sn, .ref im, .ref cs, .ref cl, .int (0 : Int32)])), (dt, .inr (2, [.int (0 : Int32), .ref te, .int 0])), (ds, .inr (3, [.int pg, .ref dl, .ref dr, .ref dt, .int (1 : Int32), .int (-1 : Int32), .int (0 : Int32)])), (ho, .inl (cJ, 1, .inr (.inl g1)))] sz)) 0 0 (va_A [(x, .inr (10, [.ref tp, .ref ds, .ref rr, .ref so, .ref pu, .ref sn, .ref im, .ref cs, .ref cl, .int (0 : Int32)])), (dt, .inr (2, [.int (0 : Int32), .ref te, .int 0])), (ds, .inr (3, [.int pg, .ref dl, .ref dr, .ref dt, .int (1 : Int32), .int (-1 : Int32), .int (0 : Int32)])), (ho, .inl (cJ, 1, .inr (.inl g1)))] sz) := by
  refine va_MetW (cc := cL_told) (maxL := 4) (ret := (some .int)) (hh := [(0, 9, 12, 13)]) (by decide) rfl ?_
  intro p e s m args below meth c s₁ B hml hv
  obtain ⟨rfl, hsz, hP, hK, hD0, hG⟩ := hv
  have hx := B.exec
  have hb := B.bytes
  have hr := B.returns
  have hts := atoms_spec (ws := wsL_told) B.pre
  have hown : s.vm.findClass RL = some m.cls := findClass_of_methodNamed B.named
  have hlocks := B.notSynchronized
  have htab := vx_table (x := yL_told) B (hts (.codeWith yL_told cL_told 4 (some .int) [(0, 9, 12, 13)]) List.mem_cons_self)
  subst hsz
  have hD := hD0.self (sz := s.heap.size)
  generalize hAe : va_A [(x, .inr (10, [.ref tp, .ref ds, .ref rr, .ref so, .ref pu, .ref sn, .ref im, .ref cs, .ref cl, .int (0 : Int32)])), (dt, .inr (2, [.int (0 : Int32), .ref te, .int 0])), (ds, .inr (3, [.int pg, .ref dl, .ref dr, .ref dt, .int (1 : Int32), .int (-1 : Int32), .int (0 : Int32)])), (ho, .inl (cJ, 1, .inr (.inl g1)))] s.heap.size = A at hD hG ⊢
  have hA : ∀ q : Nat, s.heap.size ≤ q → A q := fun q h => by rw [← hAe]; exact Or.inr h
  have hS : va_S A s.heap s.heap [] := va_S.rf
  have hl := lv_entry ([.ref x, .int (5 : Int32), .ref ho]) (n := 4) (Nat.le_of_ble_eq_true rfl)
  rw [lg_entry_eq]
  generalize (lg_sl ([.ref x, .int (5 : Int32), .ref ho]) ++ List.replicate (4 - (lg_sl ([.ref x, .int (5 : Int32), .ref ho])).length) Slot.unset).toArray = ls at hl ⊢
  have hl : lv_has ls 4 [(0, .ref x), (1, .int (5 : Int32)), (2, .ref ho)] := hl
  refine lv_aload_n hx hb dL_told_0 rfl (lv_at hl 2 rfl) ?_
  refine lv_iconst (v := 0) hx hb dL_told_1 (by decide) ?_
  refine lv_aload_n hx hb dL_told_2 rfl (lv_at hl 0 rfl) ?_
  refine lv_iload_n hx hb dL_told_3 rfl (lv_at hl 1 rfl) ?_
  have hPc := hP.sub (ws' := [(x, .inr (10, [.ref tp, .ref ds, .ref rr, .ref so, .ref pu, .ref sn, .ref im, .ref cs, .ref cl, .int (0 : Int32)])), (dt, .inr (2, [.int (0 : Int32), .ref te, .int 0])), (ds, .inr (3, [.int pg, .ref dl, .ref dr, .ref dt, .int (1 : Int32), .int (-1 : Int32), .int (0 : Int32)]))]) [0, 1, 2] rfl
  have hKc := hK.sub (tys' := []) [] rfl
  refine vp_callSi (va_Run.run (va_runV (As := [.int (5 : Int32)]) (rest := [.int (0 : Int32), .ref ho]) ⟨hx, hb, hml, hown, hts⟩ (k_X8_told_8 l dC dI x dt ds tp rr so pu sn im cs cl te pg dl dr) (cwV 1 hts gL_told_X8_told rfl rfl rfl (by decide +kernel) ⟨Nat.le_of_ble_eq_true rfl, Nat.le_of_ble_eq_true rfl⟩) ⟨fun a U g mk q => by obtain ⟨q0, qP, qK, qG⟩ := q; exact ⟨q0, qP, va_K.moved (u := U) (U := U.calling g mk a) (Vm.Alike.refl U.vm) qK, qG.same rfl⟩, va_recv hK hP (ci := 10) (q := (RX8, TX8, 10)) rfl (q0 := 0) rfl, fun U hU hW => ⟨rfl, by rw [hU]; exact hPc, va_K.moved hW.alike hKc, hG.1.warm hW⟩⟩ rfl rfl hl.1 rfl (lv_room (Nat.le_of_ble_eq_true rfl)) dL_told_4 ⟨Nat.le_of_ble_eq_true rfl, Nat.le_of_ble_eq_true rfl⟩)) (fun r_1 er_1 => ?_)
  subst er_1
  refine lv_i2l hx hb dL_told_7 rfl ?_
  refine va_last hx hb hK hP hD hS 3 0 rfl rfl (by unfold vp_in; decide +kernel) dL_told_8 (fun H locs hP hD hS => ?_)
  have hP : va_P (dC, dI) vwCl [(x, .inr (10, [.ref tp, .ref ds, .ref rr, .ref so, .ref pu, .ref sn, .ref im, .ref cs, .ref cl, .int (0 : Int32)])), (dt, .inr (2, [.int (0 : Int32), .ref te, .int 0])), (ds, .inr (3, [.int pg, .ref dl, .ref dr, .ref dt, .int (1 : Int32), .int (-1 : Int32), .int (0 : Int32)])), (ho, .inl (cJ, 1, .inr (.inl (vp_updL g1 (0 : Int32).toNatClampNeg (((pg - (0 : Int32)) + (0 : Int32)).toInt64)))))] H := hP
  have hD : va_D A [(x, .inr (10, [.ref tp, .ref ds, .ref rr, .ref so, .ref pu, .ref sn, .ref im, .ref cs, .ref cl, .int (0 : Int32)])), (dt, .inr (2, [.int (0 : Int32), .ref te, .int 0])), (ds, .inr (3, [.int pg, .ref dl, .ref dr, .ref dt, .int (1 : Int32), .int (-1 : Int32), .int (0 : Int32)])), (ho, .inl (cJ, 1, .inr (.inl (vp_updL g1 (0 : Int32).toNatClampNeg (((pg - (0 : Int32)) + (0 : Int32)).toInt64)))))] := hD
  refine lv_goto (tgt := 15) hx hb dL_told_9 (by decide) ?_
  refine lv_iconst (v := 0) hx hb dL_told_15 (by decide) ?_
  have hP := hP.sub (ws' := [(ho, .inl (cJ, 1, .inr (.inl (vp_updL g1 (0 : Int32).toNatClampNeg (((pg - (0 : Int32)) + (0 : Int32)).toInt64)))))]) [3] rfl
  have hD := hD.sub (ws' := [(ho, .inl (cJ, 1, .inr (.inl (vp_updL g1 (0 : Int32).toNatClampNeg (((pg - (0 : Int32)) + (0 : Int32)).toInt64)))))]) [3] (by decide) rfl
  have hK := hK.sub (tys' := [(cJ, .long)]) [0] rfl
  exact W.iret hx hb hr (fun t ht hW => ⟨⟨_, (), rfl, rfl, by rw [ht]; exact hP, va_K.moved hW.alike hK, hD⟩, hS.F ht⟩) hS.2.2 dL_told_16

set_option maxHeartbeats 4000000 in
set_option maxRecDepth 100000 in
theorem k_X9_freePages_1 (l : Launch) (dC : Nat → ClassId) (dI : Nat → Nat → Nat) (mo : Nat) (m_disk : Nat) (P : Nat) (m_tape : Nat) (m_slots : Nat) (m_leaves : Nat) (m_fresh : Nat) (m_digestAt : Nat) (m_isGroup : Nat) (m_counts : Nat) (m_versionRow : Nat) (m_state : Nat) (m_names : Nat) (m_keptRow : Nat) (m_inSlot : Nat) (m_inAt : Nat) (m_inSize : Nat) (m_inDigest : Nat) (d_disk : ClassId) (hg0 : P ≤ 65536) : Met l yX9_freePages wsX9_freePages ({ frames := 3, cells := 0, slots := 0, locals := 69 }) (va_Pc [.ref mo] (fun U => va_P (dC, dI) vwCl [(mo, .inr (11, [.ref m_disk, .int (nI P), .int ((8224 : Int32) + ((26 : Int32) * (nI P))), .int (1 : Int32), .int 0, .int (-1 : Int32), .int 0, .int (0 : Int32), .ref m_tape, .int 0, .ref m_slots, .ref m_leaves, .int 0, .int (0 : Int32), .ref m_fresh, .int 0, .int 0, .int 0, .ref m_digestAt, .ref m_isGroup, .ref m_counts, .int 0, .int 0, .long 0, .int 0, .ref m_versionRow, .int 0, .long 0, .ref m_state, .ref m_names, .int 0, .ref m_keptRow, .int 0, .ref m_inSlot, .ref m_inAt, .ref m_inSize, .ref m_inDigest, .int 0])), (m_disk, .inl (d_disk, 428040, .inl md_fresh))] U.heap ∧ va_K (dC, dI) vwCl [(d_disk, .int)] U)) (vp_Si (fun r => r = nI P)) 0 0 (fun _ => False) := by
  refine Met.ofW (cc := cX9_freePages) (maxL := 3) (ret := (some .int)) (by decide) rfl ?_
  intro p e s m args below meth c s₁ B hml hv
  obtain ⟨rfl, hP, hK⟩ := hv
  have hx := B.exec
  have hb := B.bytes
  have hr := B.returns
  have hts := atoms_spec (ws := wsX9_freePages) B.pre
  have hown : s.vm.findClass RX9 = some m.cls := findClass_of_methodNamed B.named
  have hlocks := B.notSynchronized
  have hl := lv_entry ([.ref mo]) (n := 3) (Nat.le_of_ble_eq_true rfl)
  rw [lg_entry_eq]
  generalize (lg_sl ([.ref mo]) ++ List.replicate (3 - (lg_sl ([.ref mo])).length) Slot.unset).toArray = ls at hl ⊢
  have hl : lv_has ls 3 [(0, .ref mo)] := hl
  refine lv_iconst (v := 0) hx hb dX9_freePages_0 (by decide) ?_
  refine lv_istore_n (lv' := [(1, .int (0 : Int32)), (0, .ref mo)]) hx hb dX9_freePages_1 rfl hl (by decide) rfl (fun ls hl => ?_)
  refine lv_iconst (v := 0) hx hb dX9_freePages_2 (by decide) ?_
  refine lv_istore_n (lv' := [(2, .int (0 : Int32)), (1, .int (0 : Int32)), (0, .ref mo)]) hx hb dX9_freePages_3 rfl hl (by decide) rfl (fun ls hl => ?_)
  have loop : ∀ (n k : Nat) (ls : Array Slot), k ≤ P → P - k < n → lv_has ls 3 [(2, .int (nI k)), (1, .int (nI k)), (0, .ref mo)] → W p l e (headSpec wsX9_freePages ({ frames := 3, cells := 0, slots := 0, locals := 69 })).room s m ([.ref mo] : List Value).toArray below meth c s.heap [] 0 0 (MQ below (vp_Si (fun r => r = nI P)) ([.ref mo] : List Value).toArray s 0 0 (fun _ => False)) (F0 m 4 ls []) := by
    intro n
    induction n with
    | zero => intro k ls h1 h2; omega
    | succ n ih =>
      intro k ls h1 h2 hl
      refine lv_iload_n hx hb dX9_freePages_4 rfl (lv_at hl 0 rfl) ?_
      refine lv_aload_n hx hb dX9_freePages_5 rfl (lv_at hl 2 rfl) ?_
      refine va_get (D := (dC, dI)) (ci := 11) (v := .int (nI P)) (C := RX9) (T := TX9) (N := 38) hx hb hts (by decide +kernel) hown hK hP 0 rfl rfl 1 (by decide) (hts (.fieldLink RX9 62 "BlockLogModel" "pages" "I") (by decide +kernel)) (fun _ h9 => h9) rfl dX9_freePages_6 ?_
      refine lv_icmp_ge (tgt := 34) hx hb dX9_freePages_9 (by decide) (fun c_1 => ?_) (fun c_1 => ?_)
      · skip
        have hk : P = k := by
          rcases Nat.lt_or_ge k P with q | q
          · exact absurd c_1 (nI_ge (b := P) q (by omega))
          · omega
        subst hk
        refine lv_iload_n hx hb dX9_freePages_34 rfl (lv_at hl 1 rfl) ?_
        exact W.iret hx hb hr (fun t ht hW => ⟨_, rfl, rfl, ht⟩) (fun q h => by cases h) dX9_freePages_35
      · skip
        have hk : k < P := by
          rcases Nat.lt_or_ge k P with q | q
          · exact q
          · exact absurd (nI_le (a := P) q (by omega)) c_1
        refine lv_iload_n hx hb dX9_freePages_12 rfl (lv_at hl 1 rfl) ?_
        refine lv_aload_n hx hb dX9_freePages_13 rfl (lv_at hl 2 rfl) ?_
        refine lv_iload_n hx hb dX9_freePages_14 rfl (lv_at hl 0 rfl) ?_
        have hPc := hP.sub (ws' := [(mo, .inr (11, [.ref m_disk, .int (nI P), .int ((8224 : Int32) + ((26 : Int32) * (nI P))), .int (1 : Int32), .int 0, .int (-1 : Int32), .int 0, .int (0 : Int32), .ref m_tape, .int 0, .ref m_slots, .ref m_leaves, .int 0, .int (0 : Int32), .ref m_fresh, .int 0, .int 0, .int 0, .ref m_digestAt, .ref m_isGroup, .ref m_counts, .int 0, .int 0, .long 0, .int 0, .ref m_versionRow, .int 0, .long 0, .ref m_state, .ref m_names, .int 0, .ref m_keptRow, .int 0, .ref m_inSlot, .ref m_inAt, .ref m_inSize, .ref m_inDigest, .int 0])), (m_disk, .inl (d_disk, 428040, .inl md_fresh))]) [0, 1] rfl
        have hKc := hK.sub (tys' := [(d_disk, .int)]) [0] rfl
        refine vp_callSi (va_Run.run (va_runV (As := [.int (nI k)]) (rest := [.int (nI k)]) ⟨hx, hb, hml, hown, hts⟩ (k_X9_pageState_1 l dC dI mo k m_disk ([.int (nI P), .int ((8224 : Int32) + ((26 : Int32) * (nI P))), .int (1 : Int32), .int 0, .int (-1 : Int32), .int 0, .int (0 : Int32), .ref m_tape, .int 0, .ref m_slots, .ref m_leaves, .int 0, .int (0 : Int32), .ref m_fresh, .int 0, .int 0, .int 0, .ref m_digestAt, .ref m_isGroup, .ref m_counts, .int 0, .int 0, .long 0, .int 0, .ref m_versionRow, .int 0, .long 0, .ref m_state, .ref m_names, .int 0, .ref m_keptRow, .int 0, .ref m_inSlot, .ref m_inAt, .ref m_inSize, .ref m_inDigest, .int 0]) d_disk (Nat.lt_of_lt_of_le hk hg0)) (cwV 1 hts gX9_freePages_X9_pageState rfl rfl rfl (by decide +kernel) ⟨Nat.le_of_ble_eq_true rfl, Nat.le_of_ble_eq_true rfl⟩) ⟨fun a U g mk q => by obtain ⟨q0, qP, qK⟩ := q; exact ⟨q0, qP, va_K.moved (u := U) (U := U.calling g mk a) (Vm.Alike.refl U.vm) qK⟩, va_recv hK hP (ci := 11) (q := (RX9, TX9, 38)) rfl (q0 := 0) rfl, fun U hU hW => ⟨rfl, by rw [hU]; exact hPc, va_K.moved hW.alike hKc⟩⟩ rfl rfl hl.1 rfl (lv_room (Nat.le_of_ble_eq_true rfl)) dX9_freePages_15 ⟨Nat.le_of_ble_eq_true rfl, Nat.le_of_ble_eq_true rfl⟩)) (fun r_2 er_2 => ?_)
        subst er_2
        refine lv_if_ne (tgt := 25) hx hb dX9_freePages_18 (by decide) (fun c_3 => ?_) (fun c_3 => ?_)
        · skip
          exact absurd (by decide) c_3
        · skip
          refine lv_iconst (v := 1) hx hb dX9_freePages_21 (by decide) ?_
          refine lv_goto (tgt := 26) hx hb dX9_freePages_22 (by decide) ?_
          refine lv_iadd hx hb dX9_freePages_26 ?_
          refine lv_istore_n (lv' := [(1, .int ((nI k) + (1 : Int32))), (2, .int (nI k)), (0, .ref mo)]) hx hb dX9_freePages_27 rfl hl (by decide) rfl (fun ls hl => ?_)
          refine lv_iinc (v := nI (k + 1)) (lv' := [(2, .int (nI (k + 1))), (1, .int ((nI k) + (1 : Int32))), (0, .ref mo)]) hx hb dX9_freePages_28 hl (k := 1) rfl (nI_succ _).symm (by decide) rfl (fun ls hl => ?_)
          refine lv_goto (tgt := 4) hx hb dX9_freePages_31 (by decide) ?_
          rw [nI_1] at hl
          exact ih (k + 1) _ hk (by omega) (lv_sub hl [0, 1, 2] rfl)
  exact loop (P + 1) 0 _ (Nat.zero_le _) (by omega) (lv_sub hl [0, 1, 2] rfl)

set_option maxHeartbeats 4000000 in
set_option maxRecDepth 100000 in
theorem k_X9_told_8 (l : Launch) (dC : Nat → ClassId) (dI : Nat → Nat → Nat) (mo : Nat) (m_disk : Nat) (P : Nat) (m_tape : Nat) (m_slots : Nat) (m_leaves : Nat) (m_fresh : Nat) (m_digestAt : Nat) (m_isGroup : Nat) (m_counts : Nat) (m_versionRow : Nat) (m_state : Nat) (m_names : Nat) (m_keptRow : Nat) (m_inSlot : Nat) (m_inAt : Nat) (m_inSize : Nat) (m_inDigest : Nat) (d_disk : ClassId) (sz : Nat) (hg0 : P ≤ 65536) : Met l yX9_told wsX9_told ({ frames := 4, cells := 0, slots := 0, locals := 91 }) (va_Pc [.ref mo, .int (5 : Int32)] (fun U => U.heap.size = sz ∧ va_P (dC, dI) vwCl [(mo, .inr (11, [.ref m_disk, .int (nI P), .int ((8224 : Int32) + ((26 : Int32) * (nI P))), .int (1 : Int32), .int 0, .int (-1 : Int32), .int 0, .int (0 : Int32), .ref m_tape, .int 0, .ref m_slots, .ref m_leaves, .int 0, .int 0, .ref m_fresh, .int 0, .int 0, .int 0, .ref m_digestAt, .ref m_isGroup, .ref m_counts, .int 0, .int 0, .long 0, .int 0, .ref m_versionRow, .int 0, .long 0, .ref m_state, .ref m_names, .int 0, .ref m_keptRow, .int 0, .ref m_inSlot, .ref m_inAt, .ref m_inSize, .ref m_inDigest, .int 0])), (m_disk, .inl (d_disk, 428040, .inl md_fresh))] U.heap ∧ va_K (dC, dI) vwCl [(d_disk, .int)] U ∧ va_D (fun _ => True) [(mo, .inr (11, [.ref m_disk, .int (nI P), .int ((8224 : Int32) + ((26 : Int32) * (nI P))), .int (1 : Int32), .int 0, .int (-1 : Int32), .int 0, .int (0 : Int32), .ref m_tape, .int 0, .ref m_slots, .ref m_leaves, .int 0, .int 0, .ref m_fresh, .int 0, .int 0, .int 0, .ref m_digestAt, .ref m_isGroup, .ref m_counts, .int 0, .int 0, .long 0, .int 0, .ref m_versionRow, .int 0, .long 0, .ref m_state, .ref m_names, .int 0, .ref m_keptRow, .int 0, .ref m_inSlot, .ref m_inAt, .ref m_inSize, .ref m_inDigest, .int 0])), (m_disk, .inl (d_disk, 428040, .inl md_fresh))])) (va_Qi (fun r (_ : Unit) => r = nI P) (fun (_ : Unit) t => va_P (dC, dI) vwCl [(mo, .inr (11, [.ref m_disk, .int (nI P), .int ((8224 : Int32) + ((26 : Int32) * (nI P))), .int (1 : Int32), .int 0, .int (-1 : Int32), .int 0, .int (0 : Int32), .ref m_tape, .int 0, .ref m_slots, .ref m_leaves, .int 0, .int (0 : Int32), .ref m_fresh, .int 0, .int 0, .int 0, .ref m_digestAt, .ref m_isGroup, .ref m_counts, .int 0, .int 0, .long 0, .int 0, .ref m_versionRow, .int 0, .long 0, .ref m_state, .ref m_names, .int 0, .ref m_keptRow, .int 0, .ref m_inSlot, .ref m_inAt, .ref m_inSize, .ref m_inDigest, .int 0]))] t.heap ∧ va_K (dC, dI) vwCl [(d_disk, .int)] t ∧ va_D (va_A [(mo, .inr (11, [.ref m_disk, .int (nI P), .int ((8224 : Int32) + ((26 : Int32) * (nI P))), .int (1 : Int32), .int 0, .int (-1 : Int32), .int 0, .int (0 : Int32), .ref m_tape, .int 0, .ref m_slots, .ref m_leaves, .int 0, .int 0, .ref m_fresh, .int 0, .int 0, .int 0, .ref m_digestAt, .ref m_isGroup, .ref m_counts, .int 0, .int 0, .long 0, .int 0, .ref m_versionRow, .int 0, .long 0, .ref m_state, .ref m_names, .int 0, .ref m_keptRow, .int 0, .ref m_inSlot, .ref m_inAt, .ref m_inSize, .ref m_inDigest, .int 0])), (m_disk, .inl (d_disk, 428040, .inl md_fresh))] sz) [(mo, .inr (11, [.ref m_disk, .int (nI P), .int ((8224 : Int32) + ((26 : Int32) * (nI P))), .int (1 : Int32), .int 0, .int (-1 : Int32), .int 0, .int (0 : Int32), .ref m_tape, .int 0, .ref m_slots, .ref m_leaves, .int 0, .int (0 : Int32), .ref m_fresh, .int 0, .int 0, .int 0, .ref m_digestAt, .ref m_isGroup, .ref m_counts, .int 0, .int 0, .long 0, .int 0, .ref m_versionRow, .int 0, .long 0, .ref m_state, .ref m_names, .int 0, .ref m_keptRow, .int 0, .ref m_inSlot, .ref m_inAt, .ref m_inSize, .ref m_inDigest, .int 0]))]) (va_A [(mo, .inr (11, [.ref m_disk, .int (nI P), .int ((8224 : Int32) + ((26 : Int32) * (nI P))), .int (1 : Int32), .int 0, .int (-1 : Int32), .int 0, .int (0 : Int32), .ref m_tape, .int 0, .ref m_slots, .ref m_leaves, .int 0, .int 0, .ref m_fresh, .int 0, .int 0, .int 0, .ref m_digestAt, .ref m_isGroup, .ref m_counts, .int 0, .int 0, .long 0, .int 0, .ref m_versionRow, .int 0, .long 0, .ref m_state, .ref m_names, .int 0, .ref m_keptRow, .int 0, .ref m_inSlot, .ref m_inAt, .ref m_inSize, .ref m_inDigest, .int 0])), (m_disk, .inl (d_disk, 428040, .inl md_fresh))] sz)) 0 0 (va_A [(mo, .inr (11, [.ref m_disk, .int (nI P), .int ((8224 : Int32) + ((26 : Int32) * (nI P))), .int (1 : Int32), .int 0, .int (-1 : Int32), .int 0, .int (0 : Int32), .ref m_tape, .int 0, .ref m_slots, .ref m_leaves, .int 0, .int 0, .ref m_fresh, .int 0, .int 0, .int 0, .ref m_digestAt, .ref m_isGroup, .ref m_counts, .int 0, .int 0, .long 0, .int 0, .ref m_versionRow, .int 0, .long 0, .ref m_state, .ref m_names, .int 0, .ref m_keptRow, .int 0, .ref m_inSlot, .ref m_inAt, .ref m_inSize, .ref m_inDigest, .int 0])), (m_disk, .inl (d_disk, 428040, .inl md_fresh))] sz) := by
  refine Met.ofW (cc := cX9_told) (maxL := 2) (ret := (some .int)) (by decide) rfl ?_
  intro p e s m args below meth c s₁ B hml hv
  obtain ⟨rfl, hsz, hP, hK, hD0⟩ := hv
  have hx := B.exec
  have hb := B.bytes
  have hr := B.returns
  have hts := atoms_spec (ws := wsX9_told) B.pre
  have hown : s.vm.findClass RX9 = some m.cls := findClass_of_methodNamed B.named
  have hlocks := B.notSynchronized
  subst hsz
  have hD := hD0.self (sz := s.heap.size)
  generalize hAe : va_A [(mo, .inr (11, [.ref m_disk, .int (nI P), .int ((8224 : Int32) + ((26 : Int32) * (nI P))), .int (1 : Int32), .int 0, .int (-1 : Int32), .int 0, .int (0 : Int32), .ref m_tape, .int 0, .ref m_slots, .ref m_leaves, .int 0, .int 0, .ref m_fresh, .int 0, .int 0, .int 0, .ref m_digestAt, .ref m_isGroup, .ref m_counts, .int 0, .int 0, .long 0, .int 0, .ref m_versionRow, .int 0, .long 0, .ref m_state, .ref m_names, .int 0, .ref m_keptRow, .int 0, .ref m_inSlot, .ref m_inAt, .ref m_inSize, .ref m_inDigest, .int 0])), (m_disk, .inl (d_disk, 428040, .inl md_fresh))] s.heap.size = A at hD ⊢
  have hA : ∀ q : Nat, s.heap.size ≤ q → A q := fun q h => by rw [← hAe]; exact Or.inr h
  have hS : va_S A s.heap s.heap [] := va_S.rf
  have hl := lv_entry ([.ref mo, .int (5 : Int32)]) (n := 2) (Nat.le_of_ble_eq_true rfl)
  rw [lg_entry_eq]
  generalize (lg_sl ([.ref mo, .int (5 : Int32)]) ++ List.replicate (2 - (lg_sl ([.ref mo, .int (5 : Int32)])).length) Slot.unset).toArray = ls at hl ⊢
  have hl : lv_has ls 2 [(0, .ref mo), (1, .int (5 : Int32))] := hl
  refine lv_aload_n hx hb dX9_told_0 rfl (lv_at hl 0 rfl) ?_
  refine lv_iload_n hx hb dX9_told_1 rfl (lv_at hl 1 rfl) ?_
  refine lv_iconst (v := 0) hx hb dX9_told_2 (by decide) ?_
  refine lv_bipush (v := 8) hx hb dX9_told_3 (by decide) ?_
  have hPc := hP.sub (ws' := []) [] rfl
  have hKc := hK.sub (tys' := []) [] rfl
  refine vp_callSi (va_Run.run (va_runS (As := [.int (5 : Int32), .int (0 : Int32), .int (8 : Int32)]) (rest := [.ref mo]) ⟨hx, hb, hml, hown, hts⟩ (k_X9_within_3 l dC dI (5 : Int32) (0 : Int32) (8 : Int32) (by decide) (by decide)) (va_cwS 3 hts gX9_told_X9_within rfl rfl rfl (by decide +kernel) ⟨Nat.le_of_ble_eq_true rfl, Nat.le_of_ble_eq_true rfl⟩) ⟨fun a U g mk q => by obtain ⟨q0, qP, qK⟩ := q; exact ⟨q0, qP, va_K.moved (u := U) (U := U.calling g mk a) (Vm.Alike.refl U.vm) qK⟩, fun U hU hW => ⟨rfl, by rw [hU]; exact hPc, va_K.moved hW.alike hKc⟩⟩ rfl rfl hl.1 rfl (lv_room (Nat.le_of_ble_eq_true rfl)) dX9_told_5 ⟨Nat.le_of_ble_eq_true rfl, Nat.le_of_ble_eq_true rfl⟩)) (fun r_1 er_1 => ?_)
  subst er_1
  refine lv_if_eq (tgt := 15) hx hb dX9_told_8 (by decide) (fun c_2 => ?_) (fun c_2 => ?_)
  · skip
    exact absurd c_2 (by decide)
  · skip
    refine lv_iconst (v := 0) hx hb dX9_told_11 (by decide) ?_
    refine lv_goto (tgt := 16) hx hb dX9_told_12 (by decide) ?_
    refine va_put (D := (dC, dI)) (ci := 11) (v := .int (0 : Int32)) (ty := .int) (C := RX9) (T := TX9) (N := 38) hx hb hts (by decide +kernel) tyX9 tyX9_ok nmX9 hown hK hP hD hS 0 rfl rfl 13 (by decide) (hts (.fieldLink RX9 91 "BlockLogModel" "thrown" "I") (by decide +kernel)) (fun _ h9 => h9) rfl (by decide +kernel) rfl rfl (Nat.le_of_ble_eq_true rfl) dX9_told_16 (fun H locs hP hD hS => ?_)
    have hP : va_P (dC, dI) vwCl [(mo, .inr (11, [.ref m_disk, .int (nI P), .int ((8224 : Int32) + ((26 : Int32) * (nI P))), .int (1 : Int32), .int 0, .int (-1 : Int32), .int 0, .int (0 : Int32), .ref m_tape, .int 0, .ref m_slots, .ref m_leaves, .int 0, .int (0 : Int32), .ref m_fresh, .int 0, .int 0, .int 0, .ref m_digestAt, .ref m_isGroup, .ref m_counts, .int 0, .int 0, .long 0, .int 0, .ref m_versionRow, .int 0, .long 0, .ref m_state, .ref m_names, .int 0, .ref m_keptRow, .int 0, .ref m_inSlot, .ref m_inAt, .ref m_inSize, .ref m_inDigest, .int 0])), (m_disk, .inl (d_disk, 428040, .inl md_fresh))] H := hP
    have hD : va_D A [(mo, .inr (11, [.ref m_disk, .int (nI P), .int ((8224 : Int32) + ((26 : Int32) * (nI P))), .int (1 : Int32), .int 0, .int (-1 : Int32), .int 0, .int (0 : Int32), .ref m_tape, .int 0, .ref m_slots, .ref m_leaves, .int 0, .int (0 : Int32), .ref m_fresh, .int 0, .int 0, .int 0, .ref m_digestAt, .ref m_isGroup, .ref m_counts, .int 0, .int 0, .long 0, .int 0, .ref m_versionRow, .int 0, .long 0, .ref m_state, .ref m_names, .int 0, .ref m_keptRow, .int 0, .ref m_inSlot, .ref m_inAt, .ref m_inSize, .ref m_inDigest, .int 0])), (m_disk, .inl (d_disk, 428040, .inl md_fresh))] := hD
    refine lv_aload_n hx hb dX9_told_19 rfl (lv_at hl 0 rfl) ?_
    refine va_get (D := (dC, dI)) (ci := 11) (v := .int (0 : Int32)) (C := RX9) (T := TX9) (N := 38) hx hb hts (by decide +kernel) hown hK hP 0 rfl rfl 13 (by decide) (hts (.fieldLink RX9 91 "BlockLogModel" "thrown" "I") (by decide +kernel)) (fun _ h9 => h9) rfl dX9_told_20 ?_
    refine lv_if_le (tgt := 28) hx hb dX9_told_23 (by decide) (fun c_3 => ?_) (fun c_3 => ?_)
    · skip
      refine lv_iload_n hx hb dX9_told_28 rfl (lv_at hl 1 rfl) ?_
      refine lv_if_ne (tgt := 45) hx hb dX9_told_29 (by decide) (fun c_4 => ?_) (fun c_4 => ?_)
      · skip
        refine lv_iload_n hx hb dX9_told_45 rfl (lv_at hl 1 rfl) ?_
        refine lv_iconst (v := 1) hx hb dX9_told_46 (by decide) ?_
        refine lv_icmp_ne (tgt := 55) hx hb dX9_told_47 (by decide) (fun c_5 => ?_) (fun c_5 => ?_)
        · skip
          refine lv_aload_n hx hb dX9_told_55 rfl (lv_at hl 0 rfl) ?_
          refine va_get (D := (dC, dI)) (ci := 11) (v := .int (1 : Int32)) (C := RX9) (T := TX9) (N := 38) hx hb hts (by decide +kernel) hown hK hP 0 rfl rfl 3 (by decide) (hts (.fieldLink RX9 72 "BlockLogModel" "on" "Z") (by decide +kernel)) (fun _ h9 => h9) rfl dX9_told_56 ?_
          refine lv_if_ne (tgt := 64) hx hb dX9_told_59 (by decide) (fun c_6 => ?_) (fun c_6 => ?_)
          · skip
            refine lv_iload_n hx hb dX9_told_64 rfl (lv_at hl 1 rfl) ?_
            refine lv_tableIn (off := 63) (tgt := 128) hx hb dX9_told_65 (by decide +kernel) (by decide +kernel) (by decide +kernel) (by decide) ?_
            refine lv_aload_n hx hb dX9_told_128 rfl (lv_at hl 0 rfl) ?_
            have hPc := hP.sub (ws' := [(mo, .inr (11, [.ref m_disk, .int (nI P), .int ((8224 : Int32) + ((26 : Int32) * (nI P))), .int (1 : Int32), .int 0, .int (-1 : Int32), .int 0, .int (0 : Int32), .ref m_tape, .int 0, .ref m_slots, .ref m_leaves, .int 0, .int (0 : Int32), .ref m_fresh, .int 0, .int 0, .int 0, .ref m_digestAt, .ref m_isGroup, .ref m_counts, .int 0, .int 0, .long 0, .int 0, .ref m_versionRow, .int 0, .long 0, .ref m_state, .ref m_names, .int 0, .ref m_keptRow, .int 0, .ref m_inSlot, .ref m_inAt, .ref m_inSize, .ref m_inDigest, .int 0])), (m_disk, .inl (d_disk, 428040, .inl md_fresh))]) [0, 1] rfl
            have hKc := hK.sub (tys' := [(d_disk, .int)]) [0] rfl
            refine vp_callSi (va_Run.run (va_runV (As := []) (rest := []) ⟨hx, hb, hml, hown, hts⟩ (k_X9_freePages_1 l dC dI mo m_disk P m_tape m_slots m_leaves m_fresh m_digestAt m_isGroup m_counts m_versionRow m_state m_names m_keptRow m_inSlot m_inAt m_inSize m_inDigest d_disk hg0) (cwV 0 hts gX9_told_X9_freePages rfl rfl rfl (by decide +kernel) ⟨Nat.le_of_ble_eq_true rfl, Nat.le_of_ble_eq_true rfl⟩) ⟨fun a U g mk q => by obtain ⟨q0, qP, qK⟩ := q; exact ⟨q0, qP, va_K.moved (u := U) (U := U.calling g mk a) (Vm.Alike.refl U.vm) qK⟩, va_recv hK hP (ci := 11) (q := (RX9, TX9, 38)) rfl (q0 := 0) rfl, fun U hU hW => ⟨rfl, by rw [hU]; exact hPc, va_K.moved hW.alike hKc⟩⟩ rfl rfl hl.1 rfl (lv_room (Nat.le_of_ble_eq_true rfl)) dX9_told_129 ⟨Nat.le_of_ble_eq_true rfl, Nat.le_of_ble_eq_true rfl⟩)) (fun r_7 er_7 => ?_)
            subst er_7
            have hP := hP.sub (ws' := [(mo, .inr (11, [.ref m_disk, .int (nI P), .int ((8224 : Int32) + ((26 : Int32) * (nI P))), .int (1 : Int32), .int 0, .int (-1 : Int32), .int 0, .int (0 : Int32), .ref m_tape, .int 0, .ref m_slots, .ref m_leaves, .int 0, .int (0 : Int32), .ref m_fresh, .int 0, .int 0, .int 0, .ref m_digestAt, .ref m_isGroup, .ref m_counts, .int 0, .int 0, .long 0, .int 0, .ref m_versionRow, .int 0, .long 0, .ref m_state, .ref m_names, .int 0, .ref m_keptRow, .int 0, .ref m_inSlot, .ref m_inAt, .ref m_inSize, .ref m_inDigest, .int 0]))]) [0] rfl
            have hD := hD.sub (ws' := [(mo, .inr (11, [.ref m_disk, .int (nI P), .int ((8224 : Int32) + ((26 : Int32) * (nI P))), .int (1 : Int32), .int 0, .int (-1 : Int32), .int 0, .int (0 : Int32), .ref m_tape, .int 0, .ref m_slots, .ref m_leaves, .int 0, .int (0 : Int32), .ref m_fresh, .int 0, .int 0, .int 0, .ref m_digestAt, .ref m_isGroup, .ref m_counts, .int 0, .int 0, .long 0, .int 0, .ref m_versionRow, .int 0, .long 0, .ref m_state, .ref m_names, .int 0, .ref m_keptRow, .int 0, .ref m_inSlot, .ref m_inAt, .ref m_inSize, .ref m_inDigest, .int 0]))]) [0] (by decide) rfl
            have hK := hK.sub (tys' := [(d_disk, .int)]) [0] rfl
            exact W.iret hx hb hr (fun t ht hW => ⟨⟨_, (), rfl, rfl, by rw [ht]; exact hP, va_K.moved hW.alike hK, hD⟩, hS.F ht⟩) hS.2.2 dX9_told_132
          · skip
            exact absurd c_6 (by decide)
        · skip
          exact absurd c_5 (by decide)
      · skip
        exact absurd c_4 (by decide)
    · skip
      exact absurd (by decide) c_3

set_option maxHeartbeats 4000000 in
set_option maxRecDepth 100000 in
theorem k_X8_told_9 (l : Launch) (dC : Nat → ClassId) (dI : Nat → Nat → Nat) (x : Nat) (rr : Nat) (ds : Nat) (tp : Nat) (so : Nat) (pu : Nat) (sn : Nat) (im : Nat) (cs : Nat) (cl : Nat) (ri : Nat) (pg : Int32) (dl : Nat) (dr : Nat) (dt : Nat)  : Met l yX8_told wsX8_told ({ frames := 0, cells := 0, slots := 0, locals := 0 }) (va_Pc [.ref x, .int (6 : Int32)] (fun U => va_P (dC, dI) vwCl [(x, .inr (10, [.ref tp, .ref ds, .ref rr, .ref so, .ref pu, .ref sn, .ref im, .ref cs, .ref cl, .int (0 : Int32)])), (rr, .inr (6, [.ref ds, .ref ri, .int 0, .int 1, .int 0, .int 0])), (ds, .inr (3, [.int pg, .ref dl, .ref dr, .ref dt, .int (1 : Int32), .int (-1 : Int32), .int (0 : Int32)]))] U.heap ∧ va_K (dC, dI) vwCl [] U ∧ gx_W U)) (vp_Si (fun r => r = 0)) 0 0 (fun _ => False) := by
  refine Met.ofW (cc := cX8_told) (maxL := 2) (ret := (some .int)) (by decide) rfl ?_
  intro p e s m args below meth c s₁ B hml hv
  obtain ⟨rfl, hP, hK, hG⟩ := hv
  have hx := B.exec
  have hb := B.bytes
  have hr := B.returns
  have hts := atoms_spec (ws := wsX8_told) B.pre
  have hown : s.vm.findClass RX8 = some m.cls := findClass_of_methodNamed B.named
  have hlocks := B.notSynchronized
  have hl := lv_entry ([.ref x, .int (6 : Int32)]) (n := 2) (Nat.le_of_ble_eq_true rfl)
  rw [lg_entry_eq]
  generalize (lg_sl ([.ref x, .int (6 : Int32)]) ++ List.replicate (2 - (lg_sl ([.ref x, .int (6 : Int32)])).length) Slot.unset).toArray = ls at hl ⊢
  have hl : lv_has ls 2 [(0, .ref x), (1, .int (6 : Int32))] := hl
  refine lv_iload_n hx hb dX8_told_0 rfl (lv_at hl 1 rfl) ?_
  refine lv_if_lt (tgt := 10) hx hb dX8_told_1 (by decide) (fun c_1 => ?_) (fun c_1 => ?_)
  · skip
    exact absurd c_1 (by decide)
  · skip
    refine lv_iload_n hx hb dX8_told_4 rfl (lv_at hl 1 rfl) ?_
    refine lv_bipush (v := 8) hx hb dX8_told_5 (by decide) ?_
    refine lv_icmp_le (tgt := 21) hx hb dX8_told_7 (by decide) (fun c_2 => ?_) (fun c_2 => ?_)
    · skip
      refine lv_iload_n hx hb dX8_told_21 rfl (lv_at hl 1 rfl) ?_
      refine lv_iconst (v := 1) hx hb dX8_told_22 (by decide) ?_
      refine lv_icmp_ne (tgt := 34) hx hb dX8_told_23 (by decide) (fun c_3 => ?_) (fun c_3 => ?_)
      · skip
        refine lv_aload_n hx hb dX8_told_34 rfl (lv_at hl 0 rfl) ?_
        refine va_get (D := (dC, dI)) (ci := 10) (v := .ref ds) (C := RX8) (T := TX8) (N := 10) hx hb hts (by decide +kernel) hown hK hP 0 rfl rfl 1 (by decide) (hts (.fieldLink RX8 22 "BlockLog" "disk" "LBlockLog$Disk;") (by decide +kernel)) (fun _ h9 => h9) rfl dX8_told_35 ?_
        refine va_getN (D := (dC, dI)) (ci := 3) (v := .int (1 : Int32)) (C := RX1) (T := TX1) (N := 7) hx hb hts (by decide +kernel) hown hK hP 2 rfl rfl 4 (by decide) (va_Nw.use rfl (hG.1 ("BlockLog", 287, "BlockLog$Disk", "powered", "Z", "BlockLog") (by decide +kernel))) (fun _ h9 => h9) rfl dX8_told_38 ?_
        refine lv_if_ne (tgt := 46) hx hb dX8_told_41 (by decide) (fun c_4 => ?_) (fun c_4 => ?_)
        · skip
          refine lv_iload_n hx hb dX8_told_46 rfl (lv_at hl 1 rfl) ?_
          refine lv_tableIn (off := 73) (tgt := 120) hx hb dX8_told_47 (by decide +kernel) (by decide +kernel) (by decide +kernel) (by decide) ?_
          refine lv_aload_n hx hb dX8_told_120 rfl (lv_at hl 0 rfl) ?_
          refine va_get (D := (dC, dI)) (ci := 10) (v := .ref rr) (C := RX8) (T := TX8) (N := 10) hx hb hts (by decide +kernel) hown hK hP 0 rfl rfl 2 (by decide) (hts (.fieldLink RX8 31 "BlockLog" "rows" "LBlockLog$Rows;") (by decide +kernel)) (fun _ h9 => h9) rfl dX8_told_121 ?_
          refine va_getN (D := (dC, dI)) (ci := 6) (v := .int 0) (C := RX4) (T := TX4) (N := 6) hx hb hts (by decide +kernel) hown hK hP 1 rfl rfl 5 (by decide) (va_Nw.use rfl (hG.1 ("BlockLog", 312, "BlockLog$Rows", "bad", "I", "BlockLog") (by decide +kernel))) (fun _ h9 => h9) rfl dX8_told_124 ?_
          exact W.iret hx hb hr (fun t ht hW => ⟨_, rfl, rfl, ht⟩) (fun q h => by cases h) dX8_told_127
        · skip
          exact absurd c_4 (by decide)
      · skip
        exact absurd c_3 (by decide)
    · skip
      exact absurd (by decide) c_2

set_option maxHeartbeats 4000000 in
set_option maxRecDepth 100000 in
theorem k_L_told_9 (l : Launch) (dC : Nat → ClassId) (dI : Nat → Nat → Nat) (x : Nat) (ho : Nat) (rr : Nat) (ds : Nat) (tp : Nat) (so : Nat) (pu : Nat) (sn : Nat) (im : Nat) (cs : Nat) (cl : Nat) (ri : Nat) (pg : Int32) (dl : Nat) (dr : Nat) (dt : Nat) (cJ : ClassId) (g1 : Nat → Int64) (sz : Nat)  : Met l yL_told wsL_told ({ frames := 1, cells := 0, slots := 0, locals := 21 }) (va_Pc [.ref x, .int (6 : Int32), .ref ho] (fun U => U.heap.size = sz ∧ va_P (dC, dI) vwCl [(x, .inr (10, [.ref tp, .ref ds, .ref rr, .ref so, .ref pu, .ref sn, .ref im, .ref cs, .ref cl, .int (0 : Int32)])), (rr, .inr (6, [.ref ds, .ref ri, .int 0, .int 1, .int 0, .int 0])), (ds, .inr (3, [.int pg, .ref dl, .ref dr, .ref dt, .int (1 : Int32), .int (-1 : Int32), .int (0 : Int32)])), (ho, .inl (cJ, 1, .inr (.inl g1)))] U.heap ∧ va_K (dC, dI) vwCl [(cJ, .long)] U ∧ va_D (fun _ => True) [(x, .inr (10, [.ref tp, .ref ds, .ref rr, .ref so, .ref pu, .ref sn, .ref im, .ref cs, .ref cl, .int (0 : Int32)])), (rr, .inr (6, [.ref ds, .ref ri, .int 0, .int 1, .int 0, .int 0])), (ds, .inr (3, [.int pg, .ref dl, .ref dr, .ref dt, .int (1 : Int32), .int (-1 : Int32), .int (0 : Int32)])), (ho, .inl (cJ, 1, .inr (.inl g1)))] ∧ gx_E (va_A [(x, .inr (10, [.ref tp, .ref ds, .ref rr, .ref so, .ref pu, .ref sn, .ref im, .ref cs, .ref cl, .int (0 : Int32)])), (rr, .inr (6, [.ref ds, .ref ri, .int 0, .int 1, .int 0, .int 0])), (ds, .inr (3, [.int pg, .ref dl, .ref dr, .ref dt, .int (1 : Int32), .int (-1 : Int32), .int (0 : Int32)])), (ho, .inl (cJ, 1, .inr (.inl g1)))] sz) U)) (va_Qi (fun r (_ : Unit) => r = (0 : Int32)) (fun (_ : Unit) t => va_P (dC, dI) vwCl [(ho, .inl (cJ, 1, .inr (.inl (vp_updL g1 (0 : Int32).toNatClampNeg ((0 : Int32).toInt64)))))] t.heap ∧ va_K (dC, dI) vwCl [(cJ, .long)] t ∧ va_D (va_A [(x, .inr (10, [.ref tp, .ref ds, .ref rr, .ref so, .ref pu, .ref sn, .ref im, .ref cs, .ref cl, .int (0 : Int32)])), (rr, .inr (6, [.ref ds, .ref ri, .int 0, .int 1, .int 0, .int 0])), (ds, .inr (3, [.int pg, .ref dl, .ref dr, .ref dt, .int (1 : Int32), .int (-1 : Int32), .int (0 : Int32)])), (ho, .inl (cJ, 1, .inr (.inl g1)))] sz) [(ho, .inl (cJ, 1, .inr (.inl (vp_updL g1 (0 : Int32).toNatClampNeg ((0 : Int32).toInt64)))))]) (va_A [(x, .inr (10, [.ref tp, .ref ds, .ref rr, .ref so, .ref pu, .ref sn, .ref im, .ref cs, .ref cl, .int (0 : Int32)])), (rr, .inr (6, [.ref ds, .ref ri, .int 0, .int 1, .int 0, .int 0])), (ds, .inr (3, [.int pg, .ref dl, .ref dr, .ref dt, .int (1 : Int32), .int (-1 : Int32), .int (0 : Int32)])), (ho, .inl (cJ, 1, .inr (.inl g1)))] sz)) 0 0 (va_A [(x, .inr (10, [.ref tp, .ref ds, .ref rr, .ref so, .ref pu, .ref sn, .ref im, .ref cs, .ref cl, .int (0 : Int32)])), (rr, .inr (6, [.ref ds, .ref ri, .int 0, .int 1, .int 0, .int 0])), (ds, .inr (3, [.int pg, .ref dl, .ref dr, .ref dt, .int (1 : Int32), .int (-1 : Int32), .int (0 : Int32)])), (ho, .inl (cJ, 1, .inr (.inl g1)))] sz) := by
  refine va_MetW (cc := cL_told) (maxL := 4) (ret := (some .int)) (hh := [(0, 9, 12, 13)]) (by decide) rfl ?_
  intro p e s m args below meth c s₁ B hml hv
  obtain ⟨rfl, hsz, hP, hK, hD0, hG⟩ := hv
  have hx := B.exec
  have hb := B.bytes
  have hr := B.returns
  have hts := atoms_spec (ws := wsL_told) B.pre
  have hown : s.vm.findClass RL = some m.cls := findClass_of_methodNamed B.named
  have hlocks := B.notSynchronized
  have htab := vx_table (x := yL_told) B (hts (.codeWith yL_told cL_told 4 (some .int) [(0, 9, 12, 13)]) List.mem_cons_self)
  subst hsz
  have hD := hD0.self (sz := s.heap.size)
  generalize hAe : va_A [(x, .inr (10, [.ref tp, .ref ds, .ref rr, .ref so, .ref pu, .ref sn, .ref im, .ref cs, .ref cl, .int (0 : Int32)])), (rr, .inr (6, [.ref ds, .ref ri, .int 0, .int 1, .int 0, .int 0])), (ds, .inr (3, [.int pg, .ref dl, .ref dr, .ref dt, .int (1 : Int32), .int (-1 : Int32), .int (0 : Int32)])), (ho, .inl (cJ, 1, .inr (.inl g1)))] s.heap.size = A at hD hG ⊢
  have hA : ∀ q : Nat, s.heap.size ≤ q → A q := fun q h => by rw [← hAe]; exact Or.inr h
  have hS : va_S A s.heap s.heap [] := va_S.rf
  have hl := lv_entry ([.ref x, .int (6 : Int32), .ref ho]) (n := 4) (Nat.le_of_ble_eq_true rfl)
  rw [lg_entry_eq]
  generalize (lg_sl ([.ref x, .int (6 : Int32), .ref ho]) ++ List.replicate (4 - (lg_sl ([.ref x, .int (6 : Int32), .ref ho])).length) Slot.unset).toArray = ls at hl ⊢
  have hl : lv_has ls 4 [(0, .ref x), (1, .int (6 : Int32)), (2, .ref ho)] := hl
  refine lv_aload_n hx hb dL_told_0 rfl (lv_at hl 2 rfl) ?_
  refine lv_iconst (v := 0) hx hb dL_told_1 (by decide) ?_
  refine lv_aload_n hx hb dL_told_2 rfl (lv_at hl 0 rfl) ?_
  refine lv_iload_n hx hb dL_told_3 rfl (lv_at hl 1 rfl) ?_
  have hPc := hP.sub (ws' := [(x, .inr (10, [.ref tp, .ref ds, .ref rr, .ref so, .ref pu, .ref sn, .ref im, .ref cs, .ref cl, .int (0 : Int32)])), (rr, .inr (6, [.ref ds, .ref ri, .int 0, .int 1, .int 0, .int 0])), (ds, .inr (3, [.int pg, .ref dl, .ref dr, .ref dt, .int (1 : Int32), .int (-1 : Int32), .int (0 : Int32)]))]) [0, 1, 2] rfl
  have hKc := hK.sub (tys' := []) [] rfl
  refine vp_callSi (va_Run.run (va_runV (As := [.int (6 : Int32)]) (rest := [.int (0 : Int32), .ref ho]) ⟨hx, hb, hml, hown, hts⟩ (k_X8_told_9 l dC dI x rr ds tp so pu sn im cs cl ri pg dl dr dt) (cwV 1 hts gL_told_X8_told rfl rfl rfl (by decide +kernel) ⟨Nat.le_of_ble_eq_true rfl, Nat.le_of_ble_eq_true rfl⟩) ⟨fun a U g mk q => by obtain ⟨q0, qP, qK, qG⟩ := q; exact ⟨q0, qP, va_K.moved (u := U) (U := U.calling g mk a) (Vm.Alike.refl U.vm) qK, qG.same rfl⟩, va_recv hK hP (ci := 10) (q := (RX8, TX8, 10)) rfl (q0 := 0) rfl, fun U hU hW => ⟨rfl, by rw [hU]; exact hPc, va_K.moved hW.alike hKc, hG.1.warm hW⟩⟩ rfl rfl hl.1 rfl (lv_room (Nat.le_of_ble_eq_true rfl)) dL_told_4 ⟨Nat.le_of_ble_eq_true rfl, Nat.le_of_ble_eq_true rfl⟩)) (fun r_1 er_1 => ?_)
  replace er_1 := er_1.trans (show _ = (0 : Int32) by decide +kernel)
  subst er_1
  refine lv_i2l hx hb dL_told_7 rfl ?_
  refine va_last hx hb hK hP hD hS 3 0 rfl rfl (by unfold vp_in; decide +kernel) dL_told_8 (fun H locs hP hD hS => ?_)
  have hP : va_P (dC, dI) vwCl [(x, .inr (10, [.ref tp, .ref ds, .ref rr, .ref so, .ref pu, .ref sn, .ref im, .ref cs, .ref cl, .int (0 : Int32)])), (rr, .inr (6, [.ref ds, .ref ri, .int 0, .int 1, .int 0, .int 0])), (ds, .inr (3, [.int pg, .ref dl, .ref dr, .ref dt, .int (1 : Int32), .int (-1 : Int32), .int (0 : Int32)])), (ho, .inl (cJ, 1, .inr (.inl (vp_updL g1 (0 : Int32).toNatClampNeg ((0 : Int32).toInt64)))))] H := hP
  have hD : va_D A [(x, .inr (10, [.ref tp, .ref ds, .ref rr, .ref so, .ref pu, .ref sn, .ref im, .ref cs, .ref cl, .int (0 : Int32)])), (rr, .inr (6, [.ref ds, .ref ri, .int 0, .int 1, .int 0, .int 0])), (ds, .inr (3, [.int pg, .ref dl, .ref dr, .ref dt, .int (1 : Int32), .int (-1 : Int32), .int (0 : Int32)])), (ho, .inl (cJ, 1, .inr (.inl (vp_updL g1 (0 : Int32).toNatClampNeg ((0 : Int32).toInt64)))))] := hD
  refine lv_goto (tgt := 15) hx hb dL_told_9 (by decide) ?_
  refine lv_iconst (v := 0) hx hb dL_told_15 (by decide) ?_
  have hP := hP.sub (ws' := [(ho, .inl (cJ, 1, .inr (.inl (vp_updL g1 (0 : Int32).toNatClampNeg ((0 : Int32).toInt64)))))]) [3] rfl
  have hD := hD.sub (ws' := [(ho, .inl (cJ, 1, .inr (.inl (vp_updL g1 (0 : Int32).toNatClampNeg ((0 : Int32).toInt64)))))]) [3] (by decide) rfl
  have hK := hK.sub (tys' := [(cJ, .long)]) [0] rfl
  exact W.iret hx hb hr (fun t ht hW => ⟨⟨_, (), rfl, rfl, by rw [ht]; exact hP, va_K.moved hW.alike hK, hD⟩, hS.F ht⟩) hS.2.2 dL_told_16

set_option maxHeartbeats 4000000 in
set_option maxRecDepth 100000 in
theorem k_X9_told_9 (l : Launch) (dC : Nat → ClassId) (dI : Nat → Nat → Nat) (mo : Nat) (m_disk : Nat) (P : Nat) (m_tape : Nat) (m_slots : Nat) (m_leaves : Nat) (m_fresh : Nat) (m_digestAt : Nat) (m_isGroup : Nat) (m_counts : Nat) (m_versionRow : Nat) (m_state : Nat) (m_names : Nat) (m_keptRow : Nat) (m_inSlot : Nat) (m_inAt : Nat) (m_inSize : Nat) (m_inDigest : Nat) (sz : Nat)  : Met l yX9_told wsX9_told ({ frames := 2, cells := 0, slots := 0, locals := 43 }) (va_Pc [.ref mo, .int (6 : Int32)] (fun U => U.heap.size = sz ∧ va_P (dC, dI) vwCl [(mo, .inr (11, [.ref m_disk, .int (nI P), .int ((8224 : Int32) + ((26 : Int32) * (nI P))), .int (1 : Int32), .int 0, .int (-1 : Int32), .int 0, .int (0 : Int32), .ref m_tape, .int 0, .ref m_slots, .ref m_leaves, .int 0, .int 0, .ref m_fresh, .int 0, .int 0, .int 0, .ref m_digestAt, .ref m_isGroup, .ref m_counts, .int 0, .int 0, .long 0, .int 0, .ref m_versionRow, .int 0, .long 0, .ref m_state, .ref m_names, .int 0, .ref m_keptRow, .int 0, .ref m_inSlot, .ref m_inAt, .ref m_inSize, .ref m_inDigest, .int 0]))] U.heap ∧ va_K (dC, dI) vwCl [] U ∧ va_D (fun _ => True) [(mo, .inr (11, [.ref m_disk, .int (nI P), .int ((8224 : Int32) + ((26 : Int32) * (nI P))), .int (1 : Int32), .int 0, .int (-1 : Int32), .int 0, .int (0 : Int32), .ref m_tape, .int 0, .ref m_slots, .ref m_leaves, .int 0, .int 0, .ref m_fresh, .int 0, .int 0, .int 0, .ref m_digestAt, .ref m_isGroup, .ref m_counts, .int 0, .int 0, .long 0, .int 0, .ref m_versionRow, .int 0, .long 0, .ref m_state, .ref m_names, .int 0, .ref m_keptRow, .int 0, .ref m_inSlot, .ref m_inAt, .ref m_inSize, .ref m_inDigest, .int 0]))])) (va_Qi (fun r (_ : Unit) => r = (0 : Int32)) (fun (_ : Unit) t => va_P (dC, dI) vwCl [(mo, .inr (11, [.ref m_disk, .int (nI P), .int ((8224 : Int32) + ((26 : Int32) * (nI P))), .int (1 : Int32), .int 0, .int (-1 : Int32), .int 0, .int (0 : Int32), .ref m_tape, .int 0, .ref m_slots, .ref m_leaves, .int 0, .int (0 : Int32), .ref m_fresh, .int 0, .int 0, .int 0, .ref m_digestAt, .ref m_isGroup, .ref m_counts, .int 0, .int 0, .long 0, .int 0, .ref m_versionRow, .int 0, .long 0, .ref m_state, .ref m_names, .int 0, .ref m_keptRow, .int 0, .ref m_inSlot, .ref m_inAt, .ref m_inSize, .ref m_inDigest, .int 0]))] t.heap ∧ va_K (dC, dI) vwCl [] t ∧ va_D (va_A [(mo, .inr (11, [.ref m_disk, .int (nI P), .int ((8224 : Int32) + ((26 : Int32) * (nI P))), .int (1 : Int32), .int 0, .int (-1 : Int32), .int 0, .int (0 : Int32), .ref m_tape, .int 0, .ref m_slots, .ref m_leaves, .int 0, .int 0, .ref m_fresh, .int 0, .int 0, .int 0, .ref m_digestAt, .ref m_isGroup, .ref m_counts, .int 0, .int 0, .long 0, .int 0, .ref m_versionRow, .int 0, .long 0, .ref m_state, .ref m_names, .int 0, .ref m_keptRow, .int 0, .ref m_inSlot, .ref m_inAt, .ref m_inSize, .ref m_inDigest, .int 0]))] sz) [(mo, .inr (11, [.ref m_disk, .int (nI P), .int ((8224 : Int32) + ((26 : Int32) * (nI P))), .int (1 : Int32), .int 0, .int (-1 : Int32), .int 0, .int (0 : Int32), .ref m_tape, .int 0, .ref m_slots, .ref m_leaves, .int 0, .int (0 : Int32), .ref m_fresh, .int 0, .int 0, .int 0, .ref m_digestAt, .ref m_isGroup, .ref m_counts, .int 0, .int 0, .long 0, .int 0, .ref m_versionRow, .int 0, .long 0, .ref m_state, .ref m_names, .int 0, .ref m_keptRow, .int 0, .ref m_inSlot, .ref m_inAt, .ref m_inSize, .ref m_inDigest, .int 0]))]) (va_A [(mo, .inr (11, [.ref m_disk, .int (nI P), .int ((8224 : Int32) + ((26 : Int32) * (nI P))), .int (1 : Int32), .int 0, .int (-1 : Int32), .int 0, .int (0 : Int32), .ref m_tape, .int 0, .ref m_slots, .ref m_leaves, .int 0, .int 0, .ref m_fresh, .int 0, .int 0, .int 0, .ref m_digestAt, .ref m_isGroup, .ref m_counts, .int 0, .int 0, .long 0, .int 0, .ref m_versionRow, .int 0, .long 0, .ref m_state, .ref m_names, .int 0, .ref m_keptRow, .int 0, .ref m_inSlot, .ref m_inAt, .ref m_inSize, .ref m_inDigest, .int 0]))] sz)) 0 0 (va_A [(mo, .inr (11, [.ref m_disk, .int (nI P), .int ((8224 : Int32) + ((26 : Int32) * (nI P))), .int (1 : Int32), .int 0, .int (-1 : Int32), .int 0, .int (0 : Int32), .ref m_tape, .int 0, .ref m_slots, .ref m_leaves, .int 0, .int 0, .ref m_fresh, .int 0, .int 0, .int 0, .ref m_digestAt, .ref m_isGroup, .ref m_counts, .int 0, .int 0, .long 0, .int 0, .ref m_versionRow, .int 0, .long 0, .ref m_state, .ref m_names, .int 0, .ref m_keptRow, .int 0, .ref m_inSlot, .ref m_inAt, .ref m_inSize, .ref m_inDigest, .int 0]))] sz) := by
  refine Met.ofW (cc := cX9_told) (maxL := 2) (ret := (some .int)) (by decide) rfl ?_
  intro p e s m args below meth c s₁ B hml hv
  obtain ⟨rfl, hsz, hP, hK, hD0⟩ := hv
  have hx := B.exec
  have hb := B.bytes
  have hr := B.returns
  have hts := atoms_spec (ws := wsX9_told) B.pre
  have hown : s.vm.findClass RX9 = some m.cls := findClass_of_methodNamed B.named
  have hlocks := B.notSynchronized
  subst hsz
  have hD := hD0.self (sz := s.heap.size)
  generalize hAe : va_A [(mo, .inr (11, [.ref m_disk, .int (nI P), .int ((8224 : Int32) + ((26 : Int32) * (nI P))), .int (1 : Int32), .int 0, .int (-1 : Int32), .int 0, .int (0 : Int32), .ref m_tape, .int 0, .ref m_slots, .ref m_leaves, .int 0, .int 0, .ref m_fresh, .int 0, .int 0, .int 0, .ref m_digestAt, .ref m_isGroup, .ref m_counts, .int 0, .int 0, .long 0, .int 0, .ref m_versionRow, .int 0, .long 0, .ref m_state, .ref m_names, .int 0, .ref m_keptRow, .int 0, .ref m_inSlot, .ref m_inAt, .ref m_inSize, .ref m_inDigest, .int 0]))] s.heap.size = A at hD ⊢
  have hA : ∀ q : Nat, s.heap.size ≤ q → A q := fun q h => by rw [← hAe]; exact Or.inr h
  have hS : va_S A s.heap s.heap [] := va_S.rf
  have hl := lv_entry ([.ref mo, .int (6 : Int32)]) (n := 2) (Nat.le_of_ble_eq_true rfl)
  rw [lg_entry_eq]
  generalize (lg_sl ([.ref mo, .int (6 : Int32)]) ++ List.replicate (2 - (lg_sl ([.ref mo, .int (6 : Int32)])).length) Slot.unset).toArray = ls at hl ⊢
  have hl : lv_has ls 2 [(0, .ref mo), (1, .int (6 : Int32))] := hl
  refine lv_aload_n hx hb dX9_told_0 rfl (lv_at hl 0 rfl) ?_
  refine lv_iload_n hx hb dX9_told_1 rfl (lv_at hl 1 rfl) ?_
  refine lv_iconst (v := 0) hx hb dX9_told_2 (by decide) ?_
  refine lv_bipush (v := 8) hx hb dX9_told_3 (by decide) ?_
  have hPc := hP.sub (ws' := []) [] rfl
  have hKc := hK.sub (tys' := []) [] rfl
  refine vp_callSi (va_Run.run (va_runS (As := [.int (6 : Int32), .int (0 : Int32), .int (8 : Int32)]) (rest := [.ref mo]) ⟨hx, hb, hml, hown, hts⟩ (k_X9_within_3 l dC dI (6 : Int32) (0 : Int32) (8 : Int32) (by decide) (by decide)) (va_cwS 3 hts gX9_told_X9_within rfl rfl rfl (by decide +kernel) ⟨Nat.le_of_ble_eq_true rfl, Nat.le_of_ble_eq_true rfl⟩) ⟨fun a U g mk q => by obtain ⟨q0, qP, qK⟩ := q; exact ⟨q0, qP, va_K.moved (u := U) (U := U.calling g mk a) (Vm.Alike.refl U.vm) qK⟩, fun U hU hW => ⟨rfl, by rw [hU]; exact hPc, va_K.moved hW.alike hKc⟩⟩ rfl rfl hl.1 rfl (lv_room (Nat.le_of_ble_eq_true rfl)) dX9_told_5 ⟨Nat.le_of_ble_eq_true rfl, Nat.le_of_ble_eq_true rfl⟩)) (fun r_1 er_1 => ?_)
  subst er_1
  refine lv_if_eq (tgt := 15) hx hb dX9_told_8 (by decide) (fun c_2 => ?_) (fun c_2 => ?_)
  · skip
    exact absurd c_2 (by decide)
  · skip
    refine lv_iconst (v := 0) hx hb dX9_told_11 (by decide) ?_
    refine lv_goto (tgt := 16) hx hb dX9_told_12 (by decide) ?_
    refine va_put (D := (dC, dI)) (ci := 11) (v := .int (0 : Int32)) (ty := .int) (C := RX9) (T := TX9) (N := 38) hx hb hts (by decide +kernel) tyX9 tyX9_ok nmX9 hown hK hP hD hS 0 rfl rfl 13 (by decide) (hts (.fieldLink RX9 91 "BlockLogModel" "thrown" "I") (by decide +kernel)) (fun _ h9 => h9) rfl (by decide +kernel) rfl rfl (Nat.le_of_ble_eq_true rfl) dX9_told_16 (fun H locs hP hD hS => ?_)
    have hP : va_P (dC, dI) vwCl [(mo, .inr (11, [.ref m_disk, .int (nI P), .int ((8224 : Int32) + ((26 : Int32) * (nI P))), .int (1 : Int32), .int 0, .int (-1 : Int32), .int 0, .int (0 : Int32), .ref m_tape, .int 0, .ref m_slots, .ref m_leaves, .int 0, .int (0 : Int32), .ref m_fresh, .int 0, .int 0, .int 0, .ref m_digestAt, .ref m_isGroup, .ref m_counts, .int 0, .int 0, .long 0, .int 0, .ref m_versionRow, .int 0, .long 0, .ref m_state, .ref m_names, .int 0, .ref m_keptRow, .int 0, .ref m_inSlot, .ref m_inAt, .ref m_inSize, .ref m_inDigest, .int 0]))] H := hP
    have hD : va_D A [(mo, .inr (11, [.ref m_disk, .int (nI P), .int ((8224 : Int32) + ((26 : Int32) * (nI P))), .int (1 : Int32), .int 0, .int (-1 : Int32), .int 0, .int (0 : Int32), .ref m_tape, .int 0, .ref m_slots, .ref m_leaves, .int 0, .int (0 : Int32), .ref m_fresh, .int 0, .int 0, .int 0, .ref m_digestAt, .ref m_isGroup, .ref m_counts, .int 0, .int 0, .long 0, .int 0, .ref m_versionRow, .int 0, .long 0, .ref m_state, .ref m_names, .int 0, .ref m_keptRow, .int 0, .ref m_inSlot, .ref m_inAt, .ref m_inSize, .ref m_inDigest, .int 0]))] := hD
    refine lv_aload_n hx hb dX9_told_19 rfl (lv_at hl 0 rfl) ?_
    refine va_get (D := (dC, dI)) (ci := 11) (v := .int (0 : Int32)) (C := RX9) (T := TX9) (N := 38) hx hb hts (by decide +kernel) hown hK hP 0 rfl rfl 13 (by decide) (hts (.fieldLink RX9 91 "BlockLogModel" "thrown" "I") (by decide +kernel)) (fun _ h9 => h9) rfl dX9_told_20 ?_
    refine lv_if_le (tgt := 28) hx hb dX9_told_23 (by decide) (fun c_3 => ?_) (fun c_3 => ?_)
    · skip
      refine lv_iload_n hx hb dX9_told_28 rfl (lv_at hl 1 rfl) ?_
      refine lv_if_ne (tgt := 45) hx hb dX9_told_29 (by decide) (fun c_4 => ?_) (fun c_4 => ?_)
      · skip
        refine lv_iload_n hx hb dX9_told_45 rfl (lv_at hl 1 rfl) ?_
        refine lv_iconst (v := 1) hx hb dX9_told_46 (by decide) ?_
        refine lv_icmp_ne (tgt := 55) hx hb dX9_told_47 (by decide) (fun c_5 => ?_) (fun c_5 => ?_)
        · skip
          refine lv_aload_n hx hb dX9_told_55 rfl (lv_at hl 0 rfl) ?_
          refine va_get (D := (dC, dI)) (ci := 11) (v := .int (1 : Int32)) (C := RX9) (T := TX9) (N := 38) hx hb hts (by decide +kernel) hown hK hP 0 rfl rfl 3 (by decide) (hts (.fieldLink RX9 72 "BlockLogModel" "on" "Z") (by decide +kernel)) (fun _ h9 => h9) rfl dX9_told_56 ?_
          refine lv_if_ne (tgt := 64) hx hb dX9_told_59 (by decide) (fun c_6 => ?_) (fun c_6 => ?_)
          · skip
            refine lv_iload_n hx hb dX9_told_64 rfl (lv_at hl 1 rfl) ?_
            refine lv_tableIn (off := 68) (tgt := 133) hx hb dX9_told_65 (by decide +kernel) (by decide +kernel) (by decide +kernel) (by decide) ?_
            refine lv_aload_n hx hb dX9_told_133 rfl (lv_at hl 0 rfl) ?_
            have hPc := hP.sub (ws' := [(mo, .inr (11, [.ref m_disk, .int (nI P), .int ((8224 : Int32) + ((26 : Int32) * (nI P))), .int (1 : Int32), .int 0, .int (-1 : Int32), .int 0, .int (0 : Int32), .ref m_tape, .int 0, .ref m_slots, .ref m_leaves, .int 0, .int (0 : Int32), .ref m_fresh, .int 0, .int 0, .int 0, .ref m_digestAt, .ref m_isGroup, .ref m_counts, .int 0, .int 0, .long 0, .int 0, .ref m_versionRow, .int 0, .long 0, .ref m_state, .ref m_names, .int 0, .ref m_keptRow, .int 0, .ref m_inSlot, .ref m_inAt, .ref m_inSize, .ref m_inDigest, .int 0]))]) [0] rfl
            have hKc := hK.sub (tys' := []) [] rfl
            refine vp_callSi (va_Run.run (va_runV (As := []) (rest := []) ⟨hx, hb, hml, hown, hts⟩ (k_X9_badRows_1 l dC dI mo m_disk P m_tape m_slots m_leaves m_fresh m_digestAt m_isGroup m_counts m_versionRow m_state m_names m_keptRow m_inSlot m_inAt m_inSize m_inDigest) (cwV 0 hts gX9_told_X9_badRows rfl rfl rfl (by decide +kernel) ⟨Nat.le_of_ble_eq_true rfl, Nat.le_of_ble_eq_true rfl⟩) ⟨fun a U g mk q => by obtain ⟨q0, qP, qK⟩ := q; exact ⟨q0, qP, va_K.moved (u := U) (U := U.calling g mk a) (Vm.Alike.refl U.vm) qK⟩, va_recv hK hP (ci := 11) (q := (RX9, TX9, 38)) rfl (q0 := 0) rfl, fun U hU hW => ⟨rfl, by rw [hU]; exact hPc, va_K.moved hW.alike hKc⟩⟩ rfl rfl hl.1 rfl (lv_room (Nat.le_of_ble_eq_true rfl)) dX9_told_134 ⟨Nat.le_of_ble_eq_true rfl, Nat.le_of_ble_eq_true rfl⟩)) (fun r_7 er_7 => ?_)
            subst er_7
            have hP := hP.sub (ws' := [(mo, .inr (11, [.ref m_disk, .int (nI P), .int ((8224 : Int32) + ((26 : Int32) * (nI P))), .int (1 : Int32), .int 0, .int (-1 : Int32), .int 0, .int (0 : Int32), .ref m_tape, .int 0, .ref m_slots, .ref m_leaves, .int 0, .int (0 : Int32), .ref m_fresh, .int 0, .int 0, .int 0, .ref m_digestAt, .ref m_isGroup, .ref m_counts, .int 0, .int 0, .long 0, .int 0, .ref m_versionRow, .int 0, .long 0, .ref m_state, .ref m_names, .int 0, .ref m_keptRow, .int 0, .ref m_inSlot, .ref m_inAt, .ref m_inSize, .ref m_inDigest, .int 0]))]) [0] rfl
            have hD := hD.sub (ws' := [(mo, .inr (11, [.ref m_disk, .int (nI P), .int ((8224 : Int32) + ((26 : Int32) * (nI P))), .int (1 : Int32), .int 0, .int (-1 : Int32), .int 0, .int (0 : Int32), .ref m_tape, .int 0, .ref m_slots, .ref m_leaves, .int 0, .int (0 : Int32), .ref m_fresh, .int 0, .int 0, .int 0, .ref m_digestAt, .ref m_isGroup, .ref m_counts, .int 0, .int 0, .long 0, .int 0, .ref m_versionRow, .int 0, .long 0, .ref m_state, .ref m_names, .int 0, .ref m_keptRow, .int 0, .ref m_inSlot, .ref m_inAt, .ref m_inSize, .ref m_inDigest, .int 0]))]) [0] (by decide) rfl
            have hK := hK.sub (tys' := []) [] rfl
            exact W.iret hx hb hr (fun t ht hW => ⟨⟨_, (), rfl, rfl, by rw [ht]; exact hP, va_K.moved hW.alike hK, hD⟩, hS.F ht⟩) hS.2.2 dX9_told_137
          · skip
            exact absurd c_6 (by decide)
        · skip
          exact absurd c_5 (by decide)
      · skip
        exact absurd c_4 (by decide)
    · skip
      exact absurd (by decide) c_3

set_option maxHeartbeats 4000000 in
set_option maxRecDepth 100000 in
theorem k_X1_countPages_2 (l : Launch) (dC : Nat → ClassId) (dI : Nat → Nat → Nat) (ds : Nat) (dt : Nat) (te : Nat) (pg : Int32) (dl : Nat) (dr : Nat)  : Met l yX1_countPages wsX1_countPages ({ frames := 1, cells := 0, slots := 0, locals := 20 }) (va_Pc [.ref ds, .int (4 : Int32)] (fun U => va_P (dC, dI) vwCl [(dt, .inr (2, [.int (0 : Int32), .ref te, .int 0])), (ds, .inr (3, [.int pg, .ref dl, .ref dr, .ref dt, .int (1 : Int32), .int (-1 : Int32), .int (0 : Int32)]))] U.heap ∧ va_K (dC, dI) vwCl [] U)) (vp_Si (fun r => r = (0 : Int32))) 0 0 (fun _ => False) := by
  refine Met.ofW (cc := cX1_countPages) (maxL := 4) (ret := (some .int)) (by decide) rfl ?_
  intro p e s m args below meth c s₁ B hml hv
  obtain ⟨rfl, hP, hK⟩ := hv
  have hx := B.exec
  have hb := B.bytes
  have hr := B.returns
  have hts := atoms_spec (ws := wsX1_countPages) B.pre
  have hown : s.vm.findClass RX1 = some m.cls := findClass_of_methodNamed B.named
  have hlocks := B.notSynchronized
  have hl := lv_entry ([.ref ds, .int (4 : Int32)]) (n := 4) (Nat.le_of_ble_eq_true rfl)
  rw [lg_entry_eq]
  generalize (lg_sl ([.ref ds, .int (4 : Int32)]) ++ List.replicate (4 - (lg_sl ([.ref ds, .int (4 : Int32)])).length) Slot.unset).toArray = ls at hl ⊢
  have hl : lv_has ls 4 [(0, .ref ds), (1, .int (4 : Int32))] := hl
  refine lv_iconst (v := 0) hx hb dX1_countPages_0 (by decide) ?_
  refine lv_istore_n (lv' := [(2, .int (0 : Int32)), (0, .ref ds), (1, .int (4 : Int32))]) hx hb dX1_countPages_1 rfl hl (by decide) rfl (fun ls hl => ?_)
  refine lv_iconst (v := 0) hx hb dX1_countPages_2 (by decide) ?_
  refine lv_istore_n (lv' := [(3, .int (0 : Int32)), (2, .int (0 : Int32)), (0, .ref ds), (1, .int (4 : Int32))]) hx hb dX1_countPages_3 rfl hl (by decide) rfl (fun ls hl => ?_)
  refine lv_iload_n hx hb dX1_countPages_4 rfl (lv_at hl 0 rfl) ?_
  refine lv_aload_n hx hb dX1_countPages_5 rfl (lv_at hl 2 rfl) ?_
  refine va_get (D := (dC, dI)) (ci := 3) (v := .ref dt) (C := RX1) (T := TX1) (N := 7) hx hb hts (by decide +kernel) hown hK hP 1 rfl rfl 3 (by decide) (hts (.fieldLink RX1 25 "BlockLog$Disk" "touched" "Ljava/util/ArrayList;") (by decide +kernel)) (fun _ h9 => h9) rfl dX1_countPages_6 ?_
  have hPc := hP.sub (ws' := [(dt, .inr (2, [.int (0 : Int32), .ref te, .int 0]))]) [0] rfl
  have hKc := hK.sub (tys' := []) [] rfl
  refine vp_callSi (va_Run.run (va_runV (As := []) (rest := [.int (0 : Int32)]) ⟨hx, hb, hml, hown, hts⟩ (k_Jx4a65c_size_8abf5_1 l dC dI dt te) (cwV 0 hts gX1_countPages_Jx4a65c_size_8abf5 rfl rfl rfl (by decide +kernel) ⟨Nat.le_of_ble_eq_true rfl, Nat.le_of_ble_eq_true rfl⟩) ⟨fun a U g mk q => by obtain ⟨q0, qP, qK⟩ := q; exact ⟨q0, qP, va_K.moved (u := U) (U := U.calling g mk a) (Vm.Alike.refl U.vm) qK⟩, va_recv hK hP (ci := 2) (q := (RJx4a65c, TJx4a65c, 3)) rfl (q0 := 0) rfl, fun U hU hW => ⟨rfl, by rw [hU]; exact hPc, va_K.moved hW.alike hKc⟩⟩ rfl rfl hl.1 rfl (lv_room (Nat.le_of_ble_eq_true rfl)) dX1_countPages_9 ⟨Nat.le_of_ble_eq_true rfl, Nat.le_of_ble_eq_true rfl⟩)) (fun r_1 er_1 => ?_)
  replace er_1 := er_1.trans (show _ = (0 : Int32) by decide +kernel)
  subst er_1
  refine lv_icmp_ge (tgt := 42) hx hb dX1_countPages_12 (by decide) (fun c_2 => ?_) (fun c_2 => ?_)
  · skip
    refine lv_iload_n hx hb dX1_countPages_42 rfl (lv_at hl 1 rfl) ?_
    exact W.iret hx hb hr (fun t ht hW => ⟨_, rfl, rfl, ht⟩) (fun q h => by cases h) dX1_countPages_43
  · skip
    exact absurd (by decide) c_2

set_option maxHeartbeats 4000000 in
set_option maxRecDepth 100000 in
theorem k_X1_badPages_1 (l : Launch) (dC : Nat → ClassId) (dI : Nat → Nat → Nat) (ds : Nat) (dt : Nat) (te : Nat) (pg : Int32) (dl : Nat) (dr : Nat)  : Met l yX1_badPages wsX1_badPages ({ frames := 2, cells := 0, slots := 0, locals := 43 }) (va_Pc [.ref ds] (fun U => va_P (dC, dI) vwCl [(dt, .inr (2, [.int (0 : Int32), .ref te, .int 0])), (ds, .inr (3, [.int pg, .ref dl, .ref dr, .ref dt, .int (1 : Int32), .int (-1 : Int32), .int (0 : Int32)]))] U.heap ∧ va_K (dC, dI) vwCl [] U)) (vp_Si (fun r => r = (0 : Int32))) 0 0 (fun _ => False) := by
  refine Met.ofW (cc := cX1_badPages) (maxL := 1) (ret := (some .int)) (by decide) rfl ?_
  intro p e s m args below meth c s₁ B hml hv
  obtain ⟨rfl, hP, hK⟩ := hv
  have hx := B.exec
  have hb := B.bytes
  have hr := B.returns
  have hts := atoms_spec (ws := wsX1_badPages) B.pre
  have hown : s.vm.findClass RX1 = some m.cls := findClass_of_methodNamed B.named
  have hlocks := B.notSynchronized
  have hl := lv_entry ([.ref ds]) (n := 1) (Nat.le_of_ble_eq_true rfl)
  rw [lg_entry_eq]
  generalize (lg_sl ([.ref ds]) ++ List.replicate (1 - (lg_sl ([.ref ds])).length) Slot.unset).toArray = ls at hl ⊢
  have hl : lv_has ls 1 [(0, .ref ds)] := hl
  refine lv_aload_n hx hb dX1_badPages_0 rfl (lv_at hl 0 rfl) ?_
  refine lv_iconst (v := 4) hx hb dX1_badPages_1 (by decide) ?_
  have hPc := hP.sub (ws' := [(dt, .inr (2, [.int (0 : Int32), .ref te, .int 0])), (ds, .inr (3, [.int pg, .ref dl, .ref dr, .ref dt, .int (1 : Int32), .int (-1 : Int32), .int (0 : Int32)]))]) [0, 1] rfl
  have hKc := hK.sub (tys' := []) [] rfl
  refine vp_callSi (va_Run.run (va_runV (As := [.int (4 : Int32)]) (rest := []) ⟨hx, hb, hml, hown, hts⟩ (k_X1_countPages_2 l dC dI ds dt te pg dl dr) (cwV 1 hts gX1_badPages_X1_countPages rfl rfl rfl (by decide +kernel) ⟨Nat.le_of_ble_eq_true rfl, Nat.le_of_ble_eq_true rfl⟩) ⟨fun a U g mk q => by obtain ⟨q0, qP, qK⟩ := q; exact ⟨q0, qP, va_K.moved (u := U) (U := U.calling g mk a) (Vm.Alike.refl U.vm) qK⟩, va_recv hK hP (ci := 3) (q := (RX1, TX1, 7)) rfl (q0 := 1) rfl, fun U hU hW => ⟨rfl, by rw [hU]; exact hPc, va_K.moved hW.alike hKc⟩⟩ rfl rfl hl.1 rfl (lv_room (Nat.le_of_ble_eq_true rfl)) dX1_badPages_2 ⟨Nat.le_of_ble_eq_true rfl, Nat.le_of_ble_eq_true rfl⟩)) (fun r_1 er_1 => ?_)
  subst er_1
  exact W.iret hx hb hr (fun t ht hW => ⟨_, rfl, rfl, ht⟩) (fun q h => by cases h) dX1_badPages_5

set_option maxHeartbeats 4000000 in
set_option maxRecDepth 100000 in
theorem k_X8_told_10 (l : Launch) (dC : Nat → ClassId) (dI : Nat → Nat → Nat) (x : Nat) (dt : Nat) (ds : Nat) (tp : Nat) (rr : Nat) (so : Nat) (pu : Nat) (sn : Nat) (im : Nat) (cs : Nat) (cl : Nat) (te : Nat) (pg : Int32) (dl : Nat) (dr : Nat)  : Met l yX8_told wsX8_told ({ frames := 3, cells := 0, slots := 0, locals := 63 }) (va_Pc [.ref x, .int (7 : Int32)] (fun U => va_P (dC, dI) vwCl [(x, .inr (10, [.ref tp, .ref ds, .ref rr, .ref so, .ref pu, .ref sn, .ref im, .ref cs, .ref cl, .int (0 : Int32)])), (dt, .inr (2, [.int (0 : Int32), .ref te, .int 0])), (ds, .inr (3, [.int pg, .ref dl, .ref dr, .ref dt, .int (1 : Int32), .int (-1 : Int32), .int (0 : Int32)]))] U.heap ∧ va_K (dC, dI) vwCl [] U ∧ gx_W U)) (vp_Si (fun r => r = (0 : Int32))) 0 0 (fun _ => False) := by
  refine Met.ofW (cc := cX8_told) (maxL := 2) (ret := (some .int)) (by decide) rfl ?_
  intro p e s m args below meth c s₁ B hml hv
  obtain ⟨rfl, hP, hK, hG⟩ := hv
  have hx := B.exec
  have hb := B.bytes
  have hr := B.returns
  have hts := atoms_spec (ws := wsX8_told) B.pre
  have hown : s.vm.findClass RX8 = some m.cls := findClass_of_methodNamed B.named
  have hlocks := B.notSynchronized
  have hl := lv_entry ([.ref x, .int (7 : Int32)]) (n := 2) (Nat.le_of_ble_eq_true rfl)
  rw [lg_entry_eq]
  generalize (lg_sl ([.ref x, .int (7 : Int32)]) ++ List.replicate (2 - (lg_sl ([.ref x, .int (7 : Int32)])).length) Slot.unset).toArray = ls at hl ⊢
  have hl : lv_has ls 2 [(0, .ref x), (1, .int (7 : Int32))] := hl
  refine lv_iload_n hx hb dX8_told_0 rfl (lv_at hl 1 rfl) ?_
  refine lv_if_lt (tgt := 10) hx hb dX8_told_1 (by decide) (fun c_1 => ?_) (fun c_1 => ?_)
  · skip
    exact absurd c_1 (by decide)
  · skip
    refine lv_iload_n hx hb dX8_told_4 rfl (lv_at hl 1 rfl) ?_
    refine lv_bipush (v := 8) hx hb dX8_told_5 (by decide) ?_
    refine lv_icmp_le (tgt := 21) hx hb dX8_told_7 (by decide) (fun c_2 => ?_) (fun c_2 => ?_)
    · skip
      refine lv_iload_n hx hb dX8_told_21 rfl (lv_at hl 1 rfl) ?_
      refine lv_iconst (v := 1) hx hb dX8_told_22 (by decide) ?_
      refine lv_icmp_ne (tgt := 34) hx hb dX8_told_23 (by decide) (fun c_3 => ?_) (fun c_3 => ?_)
      · skip
        refine lv_aload_n hx hb dX8_told_34 rfl (lv_at hl 0 rfl) ?_
        refine va_get (D := (dC, dI)) (ci := 10) (v := .ref ds) (C := RX8) (T := TX8) (N := 10) hx hb hts (by decide +kernel) hown hK hP 0 rfl rfl 1 (by decide) (hts (.fieldLink RX8 22 "BlockLog" "disk" "LBlockLog$Disk;") (by decide +kernel)) (fun _ h9 => h9) rfl dX8_told_35 ?_
        refine va_getN (D := (dC, dI)) (ci := 3) (v := .int (1 : Int32)) (C := RX1) (T := TX1) (N := 7) hx hb hts (by decide +kernel) hown hK hP 2 rfl rfl 4 (by decide) (va_Nw.use rfl (hG.1 ("BlockLog", 287, "BlockLog$Disk", "powered", "Z", "BlockLog") (by decide +kernel))) (fun _ h9 => h9) rfl dX8_told_38 ?_
        refine lv_if_ne (tgt := 46) hx hb dX8_told_41 (by decide) (fun c_4 => ?_) (fun c_4 => ?_)
        · skip
          refine lv_iload_n hx hb dX8_told_46 rfl (lv_at hl 1 rfl) ?_
          refine lv_tableIn (off := 81) (tgt := 128) hx hb dX8_told_47 (by decide +kernel) (by decide +kernel) (by decide +kernel) (by decide) ?_
          refine lv_aload_n hx hb dX8_told_128 rfl (lv_at hl 0 rfl) ?_
          refine va_get (D := (dC, dI)) (ci := 10) (v := .ref ds) (C := RX8) (T := TX8) (N := 10) hx hb hts (by decide +kernel) hown hK hP 0 rfl rfl 1 (by decide) (hts (.fieldLink RX8 22 "BlockLog" "disk" "LBlockLog$Disk;") (by decide +kernel)) (fun _ h9 => h9) rfl dX8_told_129 ?_
          have hPc := hP.sub (ws' := [(dt, .inr (2, [.int (0 : Int32), .ref te, .int 0])), (ds, .inr (3, [.int pg, .ref dl, .ref dr, .ref dt, .int (1 : Int32), .int (-1 : Int32), .int (0 : Int32)]))]) [1, 2] rfl
          have hKc := hK.sub (tys' := []) [] rfl
          refine vp_callSi (va_Run.run (va_runV (As := []) (rest := []) ⟨hx, hb, hml, hown, hts⟩ (k_X1_badPages_1 l dC dI ds dt te pg dl dr) (cwV 0 hts gX8_told_X1_badPages rfl rfl rfl (by decide +kernel) ⟨Nat.le_of_ble_eq_true rfl, Nat.le_of_ble_eq_true rfl⟩) ⟨fun a U g mk q => by obtain ⟨q0, qP, qK⟩ := q; exact ⟨q0, qP, va_K.moved (u := U) (U := U.calling g mk a) (Vm.Alike.refl U.vm) qK⟩, va_recv hK hP (ci := 3) (q := (RX1, TX1, 7)) rfl (q0 := 2) rfl, fun U hU hW => ⟨rfl, by rw [hU]; exact hPc, va_K.moved hW.alike hKc⟩⟩ rfl rfl hl.1 rfl (lv_room (Nat.le_of_ble_eq_true rfl)) dX8_told_132 ⟨Nat.le_of_ble_eq_true rfl, Nat.le_of_ble_eq_true rfl⟩)) (fun r_5 er_5 => ?_)
          subst er_5
          exact W.iret hx hb hr (fun t ht hW => ⟨_, rfl, rfl, ht⟩) (fun q h => by cases h) dX8_told_135
        · skip
          exact absurd c_4 (by decide)
      · skip
        exact absurd c_3 (by decide)
    · skip
      exact absurd (by decide) c_2

set_option maxHeartbeats 4000000 in
set_option maxRecDepth 100000 in
theorem k_L_told_10 (l : Launch) (dC : Nat → ClassId) (dI : Nat → Nat → Nat) (x : Nat) (ho : Nat) (dt : Nat) (ds : Nat) (tp : Nat) (rr : Nat) (so : Nat) (pu : Nat) (sn : Nat) (im : Nat) (cs : Nat) (cl : Nat) (te : Nat) (pg : Int32) (dl : Nat) (dr : Nat) (cJ : ClassId) (g1 : Nat → Int64) (sz : Nat)  : Met l yL_told wsL_told ({ frames := 4, cells := 0, slots := 0, locals := 84 }) (va_Pc [.ref x, .int (7 : Int32), .ref ho] (fun U => U.heap.size = sz ∧ va_P (dC, dI) vwCl [(x, .inr (10, [.ref tp, .ref ds, .ref rr, .ref so, .ref pu, .ref sn, .ref im, .ref cs, .ref cl, .int (0 : Int32)])), (dt, .inr (2, [.int (0 : Int32), .ref te, .int 0])), (ds, .inr (3, [.int pg, .ref dl, .ref dr, .ref dt, .int (1 : Int32), .int (-1 : Int32), .int (0 : Int32)])), (ho, .inl (cJ, 1, .inr (.inl g1)))] U.heap ∧ va_K (dC, dI) vwCl [(cJ, .long)] U ∧ va_D (fun _ => True) [(x, .inr (10, [.ref tp, .ref ds, .ref rr, .ref so, .ref pu, .ref sn, .ref im, .ref cs, .ref cl, .int (0 : Int32)])), (dt, .inr (2, [.int (0 : Int32), .ref te, .int 0])), (ds, .inr (3, [.int pg, .ref dl, .ref dr, .ref dt, .int (1 : Int32), .int (-1 : Int32), .int (0 : Int32)])), (ho, .inl (cJ, 1, .inr (.inl g1)))] ∧ gx_E (va_A [(x, .inr (10, [.ref tp, .ref ds, .ref rr, .ref so, .ref pu, .ref sn, .ref im, .ref cs, .ref cl, .int (0 : Int32)])), (dt, .inr (2, [.int (0 : Int32), .ref te, .int 0])), (ds, .inr (3, [.int pg, .ref dl, .ref dr, .ref dt, .int (1 : Int32), .int (-1 : Int32), .int (0 : Int32)])), (ho, .inl (cJ, 1, .inr (.inl g1)))] sz) U)) (va_Qi (fun r (_ : Unit) => r = (0 : Int32)) (fun (_ : Unit) t => va_P (dC, dI) vwCl [(ho, .inl (cJ, 1, .inr (.inl (vp_updL g1 (0 : Int32).toNatClampNeg ((0 : Int32).toInt64)))))] t.heap ∧ va_K (dC, dI) vwCl [(cJ, .long)] t ∧ va_D (va_A [(x, .inr (10, [.ref tp, .ref ds, .ref rr, .ref so, .ref pu, .ref sn, .ref im, .ref cs, .ref cl, .int (0 : Int32)])), (dt, .inr (2, [.int (0 : Int32), .ref te, .int 0])), (ds, .inr (3, [.int pg, .ref dl, .ref dr, .ref dt, .int (1 : Int32), .int (-1 : Int32), .int (0 : Int32)])), (ho, .inl (cJ, 1, .inr (.inl g1)))] sz) [(ho, .inl (cJ, 1, .inr (.inl (vp_updL g1 (0 : Int32).toNatClampNeg ((0 : Int32).toInt64)))))]) (va_A [(x, .inr (10, [.ref tp, .ref ds, .ref rr, .ref so, .ref pu, .ref sn, .ref im, .ref cs, .ref cl, .int (0 : Int32)])), (dt, .inr (2, [.int (0 : Int32), .ref te, .int 0])), (ds, .inr (3, [.int pg, .ref dl, .ref dr, .ref dt, .int (1 : Int32), .int (-1 : Int32), .int (0 : Int32)])), (ho, .inl (cJ, 1, .inr (.inl g1)))] sz)) 0 0 (va_A [(x, .inr (10, [.ref tp, .ref ds, .ref rr, .ref so, .ref pu, .ref sn, .ref im, .ref cs, .ref cl, .int (0 : Int32)])), (dt, .inr (2, [.int (0 : Int32), .ref te, .int 0])), (ds, .inr (3, [.int pg, .ref dl, .ref dr, .ref dt, .int (1 : Int32), .int (-1 : Int32), .int (0 : Int32)])), (ho, .inl (cJ, 1, .inr (.inl g1)))] sz) := by
  refine va_MetW (cc := cL_told) (maxL := 4) (ret := (some .int)) (hh := [(0, 9, 12, 13)]) (by decide) rfl ?_
  intro p e s m args below meth c s₁ B hml hv
  obtain ⟨rfl, hsz, hP, hK, hD0, hG⟩ := hv
  have hx := B.exec
  have hb := B.bytes
  have hr := B.returns
  have hts := atoms_spec (ws := wsL_told) B.pre
  have hown : s.vm.findClass RL = some m.cls := findClass_of_methodNamed B.named
  have hlocks := B.notSynchronized
  have htab := vx_table (x := yL_told) B (hts (.codeWith yL_told cL_told 4 (some .int) [(0, 9, 12, 13)]) List.mem_cons_self)
  subst hsz
  have hD := hD0.self (sz := s.heap.size)
  generalize hAe : va_A [(x, .inr (10, [.ref tp, .ref ds, .ref rr, .ref so, .ref pu, .ref sn, .ref im, .ref cs, .ref cl, .int (0 : Int32)])), (dt, .inr (2, [.int (0 : Int32), .ref te, .int 0])), (ds, .inr (3, [.int pg, .ref dl, .ref dr, .ref dt, .int (1 : Int32), .int (-1 : Int32), .int (0 : Int32)])), (ho, .inl (cJ, 1, .inr (.inl g1)))] s.heap.size = A at hD hG ⊢
  have hA : ∀ q : Nat, s.heap.size ≤ q → A q := fun q h => by rw [← hAe]; exact Or.inr h
  have hS : va_S A s.heap s.heap [] := va_S.rf
  have hl := lv_entry ([.ref x, .int (7 : Int32), .ref ho]) (n := 4) (Nat.le_of_ble_eq_true rfl)
  rw [lg_entry_eq]
  generalize (lg_sl ([.ref x, .int (7 : Int32), .ref ho]) ++ List.replicate (4 - (lg_sl ([.ref x, .int (7 : Int32), .ref ho])).length) Slot.unset).toArray = ls at hl ⊢
  have hl : lv_has ls 4 [(0, .ref x), (1, .int (7 : Int32)), (2, .ref ho)] := hl
  refine lv_aload_n hx hb dL_told_0 rfl (lv_at hl 2 rfl) ?_
  refine lv_iconst (v := 0) hx hb dL_told_1 (by decide) ?_
  refine lv_aload_n hx hb dL_told_2 rfl (lv_at hl 0 rfl) ?_
  refine lv_iload_n hx hb dL_told_3 rfl (lv_at hl 1 rfl) ?_
  have hPc := hP.sub (ws' := [(x, .inr (10, [.ref tp, .ref ds, .ref rr, .ref so, .ref pu, .ref sn, .ref im, .ref cs, .ref cl, .int (0 : Int32)])), (dt, .inr (2, [.int (0 : Int32), .ref te, .int 0])), (ds, .inr (3, [.int pg, .ref dl, .ref dr, .ref dt, .int (1 : Int32), .int (-1 : Int32), .int (0 : Int32)]))]) [0, 1, 2] rfl
  have hKc := hK.sub (tys' := []) [] rfl
  refine vp_callSi (va_Run.run (va_runV (As := [.int (7 : Int32)]) (rest := [.int (0 : Int32), .ref ho]) ⟨hx, hb, hml, hown, hts⟩ (k_X8_told_10 l dC dI x dt ds tp rr so pu sn im cs cl te pg dl dr) (cwV 1 hts gL_told_X8_told rfl rfl rfl (by decide +kernel) ⟨Nat.le_of_ble_eq_true rfl, Nat.le_of_ble_eq_true rfl⟩) ⟨fun a U g mk q => by obtain ⟨q0, qP, qK, qG⟩ := q; exact ⟨q0, qP, va_K.moved (u := U) (U := U.calling g mk a) (Vm.Alike.refl U.vm) qK, qG.same rfl⟩, va_recv hK hP (ci := 10) (q := (RX8, TX8, 10)) rfl (q0 := 0) rfl, fun U hU hW => ⟨rfl, by rw [hU]; exact hPc, va_K.moved hW.alike hKc, hG.1.warm hW⟩⟩ rfl rfl hl.1 rfl (lv_room (Nat.le_of_ble_eq_true rfl)) dL_told_4 ⟨Nat.le_of_ble_eq_true rfl, Nat.le_of_ble_eq_true rfl⟩)) (fun r_1 er_1 => ?_)
  subst er_1
  refine lv_i2l hx hb dL_told_7 rfl ?_
  refine va_last hx hb hK hP hD hS 3 0 rfl rfl (by unfold vp_in; decide +kernel) dL_told_8 (fun H locs hP hD hS => ?_)
  have hP : va_P (dC, dI) vwCl [(x, .inr (10, [.ref tp, .ref ds, .ref rr, .ref so, .ref pu, .ref sn, .ref im, .ref cs, .ref cl, .int (0 : Int32)])), (dt, .inr (2, [.int (0 : Int32), .ref te, .int 0])), (ds, .inr (3, [.int pg, .ref dl, .ref dr, .ref dt, .int (1 : Int32), .int (-1 : Int32), .int (0 : Int32)])), (ho, .inl (cJ, 1, .inr (.inl (vp_updL g1 (0 : Int32).toNatClampNeg ((0 : Int32).toInt64)))))] H := hP
  have hD : va_D A [(x, .inr (10, [.ref tp, .ref ds, .ref rr, .ref so, .ref pu, .ref sn, .ref im, .ref cs, .ref cl, .int (0 : Int32)])), (dt, .inr (2, [.int (0 : Int32), .ref te, .int 0])), (ds, .inr (3, [.int pg, .ref dl, .ref dr, .ref dt, .int (1 : Int32), .int (-1 : Int32), .int (0 : Int32)])), (ho, .inl (cJ, 1, .inr (.inl (vp_updL g1 (0 : Int32).toNatClampNeg ((0 : Int32).toInt64)))))] := hD
  refine lv_goto (tgt := 15) hx hb dL_told_9 (by decide) ?_
  refine lv_iconst (v := 0) hx hb dL_told_15 (by decide) ?_
  have hP := hP.sub (ws' := [(ho, .inl (cJ, 1, .inr (.inl (vp_updL g1 (0 : Int32).toNatClampNeg ((0 : Int32).toInt64)))))]) [3] rfl
  have hD := hD.sub (ws' := [(ho, .inl (cJ, 1, .inr (.inl (vp_updL g1 (0 : Int32).toNatClampNeg ((0 : Int32).toInt64)))))]) [3] (by decide) rfl
  have hK := hK.sub (tys' := [(cJ, .long)]) [0] rfl
  exact W.iret hx hb hr (fun t ht hW => ⟨⟨_, (), rfl, rfl, by rw [ht]; exact hP, va_K.moved hW.alike hK, hD⟩, hS.F ht⟩) hS.2.2 dL_told_16

set_option maxHeartbeats 4000000 in
set_option maxRecDepth 100000 in
theorem k_X9_badPages_1 (l : Launch) (dC : Nat → ClassId) (dI : Nat → Nat → Nat) (mo : Nat) (m_disk : Nat) (P : Nat) (m_tape : Nat) (m_slots : Nat) (m_leaves : Nat) (m_fresh : Nat) (m_digestAt : Nat) (m_isGroup : Nat) (m_counts : Nat) (m_versionRow : Nat) (m_state : Nat) (m_names : Nat) (m_keptRow : Nat) (m_inSlot : Nat) (m_inAt : Nat) (m_inSize : Nat) (m_inDigest : Nat) (d_disk : ClassId) (hg0 : P ≤ 65536) : Met l yX9_badPages wsX9_badPages ({ frames := 3, cells := 0, slots := 0, locals := 69 }) (va_Pc [.ref mo] (fun U => va_P (dC, dI) vwCl [(mo, .inr (11, [.ref m_disk, .int (nI P), .int ((8224 : Int32) + ((26 : Int32) * (nI P))), .int (1 : Int32), .int 0, .int (-1 : Int32), .int 0, .int (0 : Int32), .ref m_tape, .int 0, .ref m_slots, .ref m_leaves, .int 0, .int (0 : Int32), .ref m_fresh, .int 0, .int 0, .int 0, .ref m_digestAt, .ref m_isGroup, .ref m_counts, .int 0, .int 0, .long 0, .int 0, .ref m_versionRow, .int 0, .long 0, .ref m_state, .ref m_names, .int 0, .ref m_keptRow, .int 0, .ref m_inSlot, .ref m_inAt, .ref m_inSize, .ref m_inDigest, .int 0])), (m_disk, .inl (d_disk, 428040, .inl md_fresh))] U.heap ∧ va_K (dC, dI) vwCl [(d_disk, .int)] U)) (vp_Si (fun r => r = (0 : Int32))) 0 0 (fun _ => False) := by
  refine Met.ofW (cc := cX9_badPages) (maxL := 3) (ret := (some .int)) (by decide) rfl ?_
  intro p e s m args below meth c s₁ B hml hv
  obtain ⟨rfl, hP, hK⟩ := hv
  have hx := B.exec
  have hb := B.bytes
  have hr := B.returns
  have hts := atoms_spec (ws := wsX9_badPages) B.pre
  have hown : s.vm.findClass RX9 = some m.cls := findClass_of_methodNamed B.named
  have hlocks := B.notSynchronized
  have hl := lv_entry ([.ref mo]) (n := 3) (Nat.le_of_ble_eq_true rfl)
  rw [lg_entry_eq]
  generalize (lg_sl ([.ref mo]) ++ List.replicate (3 - (lg_sl ([.ref mo])).length) Slot.unset).toArray = ls at hl ⊢
  have hl : lv_has ls 3 [(0, .ref mo)] := hl
  refine lv_iconst (v := 0) hx hb dX9_badPages_0 (by decide) ?_
  refine lv_istore_n (lv' := [(1, .int (0 : Int32)), (0, .ref mo)]) hx hb dX9_badPages_1 rfl hl (by decide) rfl (fun ls hl => ?_)
  refine lv_iconst (v := 0) hx hb dX9_badPages_2 (by decide) ?_
  refine lv_istore_n (lv' := [(2, .int (0 : Int32)), (1, .int (0 : Int32)), (0, .ref mo)]) hx hb dX9_badPages_3 rfl hl (by decide) rfl (fun ls hl => ?_)
  have loop : ∀ (n k : Nat) (ls : Array Slot), k ≤ P → P - k < n → lv_has ls 3 [(2, .int (nI k)), (1, .int (0 : Int32)), (0, .ref mo)] → W p l e (headSpec wsX9_badPages ({ frames := 3, cells := 0, slots := 0, locals := 69 })).room s m ([.ref mo] : List Value).toArray below meth c s.heap [] 0 0 (MQ below (vp_Si (fun r => r = (0 : Int32))) ([.ref mo] : List Value).toArray s 0 0 (fun _ => False)) (F0 m 4 ls []) := by
    intro n
    induction n with
    | zero => intro k ls h1 h2; omega
    | succ n ih =>
      intro k ls h1 h2 hl
      refine lv_iload_n hx hb dX9_badPages_4 rfl (lv_at hl 0 rfl) ?_
      refine lv_aload_n hx hb dX9_badPages_5 rfl (lv_at hl 2 rfl) ?_
      refine va_get (D := (dC, dI)) (ci := 11) (v := .int (nI P)) (C := RX9) (T := TX9) (N := 38) hx hb hts (by decide +kernel) hown hK hP 0 rfl rfl 1 (by decide) (hts (.fieldLink RX9 62 "BlockLogModel" "pages" "I") (by decide +kernel)) (fun _ h9 => h9) rfl dX9_badPages_6 ?_
      refine lv_icmp_ge (tgt := 35) hx hb dX9_badPages_9 (by decide) (fun c_1 => ?_) (fun c_1 => ?_)
      · skip
        have hk : P = k := by
          rcases Nat.lt_or_ge k P with q | q
          · exact absurd c_1 (nI_ge (b := P) q (by omega))
          · omega
        subst hk
        refine lv_iload_n hx hb dX9_badPages_35 rfl (lv_at hl 1 rfl) ?_
        exact W.iret hx hb hr (fun t ht hW => ⟨_, rfl, rfl, ht⟩) (fun q h => by cases h) dX9_badPages_36
      · skip
        have hk : k < P := by
          rcases Nat.lt_or_ge k P with q | q
          · exact q
          · exact absurd (nI_le (a := P) q (by omega)) c_1
        refine lv_iload_n hx hb dX9_badPages_12 rfl (lv_at hl 1 rfl) ?_
        refine lv_aload_n hx hb dX9_badPages_13 rfl (lv_at hl 2 rfl) ?_
        refine lv_iload_n hx hb dX9_badPages_14 rfl (lv_at hl 0 rfl) ?_
        have hPc := hP.sub (ws' := [(mo, .inr (11, [.ref m_disk, .int (nI P), .int ((8224 : Int32) + ((26 : Int32) * (nI P))), .int (1 : Int32), .int 0, .int (-1 : Int32), .int 0, .int (0 : Int32), .ref m_tape, .int 0, .ref m_slots, .ref m_leaves, .int 0, .int (0 : Int32), .ref m_fresh, .int 0, .int 0, .int 0, .ref m_digestAt, .ref m_isGroup, .ref m_counts, .int 0, .int 0, .long 0, .int 0, .ref m_versionRow, .int 0, .long 0, .ref m_state, .ref m_names, .int 0, .ref m_keptRow, .int 0, .ref m_inSlot, .ref m_inAt, .ref m_inSize, .ref m_inDigest, .int 0])), (m_disk, .inl (d_disk, 428040, .inl md_fresh))]) [0, 1] rfl
        have hKc := hK.sub (tys' := [(d_disk, .int)]) [0] rfl
        refine vp_callSi (va_Run.run (va_runV (As := [.int (nI k)]) (rest := [.int (0 : Int32)]) ⟨hx, hb, hml, hown, hts⟩ (k_X9_pageState_1 l dC dI mo k m_disk ([.int (nI P), .int ((8224 : Int32) + ((26 : Int32) * (nI P))), .int (1 : Int32), .int 0, .int (-1 : Int32), .int 0, .int (0 : Int32), .ref m_tape, .int 0, .ref m_slots, .ref m_leaves, .int 0, .int (0 : Int32), .ref m_fresh, .int 0, .int 0, .int 0, .ref m_digestAt, .ref m_isGroup, .ref m_counts, .int 0, .int 0, .long 0, .int 0, .ref m_versionRow, .int 0, .long 0, .ref m_state, .ref m_names, .int 0, .ref m_keptRow, .int 0, .ref m_inSlot, .ref m_inAt, .ref m_inSize, .ref m_inDigest, .int 0]) d_disk (Nat.lt_of_lt_of_le hk hg0)) (cwV 1 hts gX9_badPages_X9_pageState rfl rfl rfl (by decide +kernel) ⟨Nat.le_of_ble_eq_true rfl, Nat.le_of_ble_eq_true rfl⟩) ⟨fun a U g mk q => by obtain ⟨q0, qP, qK⟩ := q; exact ⟨q0, qP, va_K.moved (u := U) (U := U.calling g mk a) (Vm.Alike.refl U.vm) qK⟩, va_recv hK hP (ci := 11) (q := (RX9, TX9, 38)) rfl (q0 := 0) rfl, fun U hU hW => ⟨rfl, by rw [hU]; exact hPc, va_K.moved hW.alike hKc⟩⟩ rfl rfl hl.1 rfl (lv_room (Nat.le_of_ble_eq_true rfl)) dX9_badPages_15 ⟨Nat.le_of_ble_eq_true rfl, Nat.le_of_ble_eq_true rfl⟩)) (fun r_2 er_2 => ?_)
        subst er_2
        refine lv_iconst (v := 3) hx hb dX9_badPages_18 (by decide) ?_
        refine lv_icmp_ne (tgt := 26) hx hb dX9_badPages_19 (by decide) (fun c_3 => ?_) (fun c_3 => ?_)
        · skip
          refine lv_iconst (v := 0) hx hb dX9_badPages_26 (by decide) ?_
          refine lv_iadd hx hb dX9_badPages_27 ?_
          refine lv_istore_n (lv' := [(1, .int ((0 : Int32) + (0 : Int32))), (2, .int (nI k)), (0, .ref mo)]) hx hb dX9_badPages_28 rfl hl (by decide) rfl (fun ls hl => ?_)
          refine lv_iinc (v := nI (k + 1)) (lv' := [(2, .int (nI (k + 1))), (1, .int ((0 : Int32) + (0 : Int32))), (0, .ref mo)]) hx hb dX9_badPages_29 hl (k := 1) rfl (nI_succ _).symm (by decide) rfl (fun ls hl => ?_)
          refine lv_goto (tgt := 4) hx hb dX9_badPages_32 (by decide) ?_
          exact ih (k + 1) _ hk (by omega) (lv_sub hl [0, 1, 2] rfl)
        · skip
          exact absurd c_3 (by decide)
  exact loop (P + 1) 0 _ (Nat.zero_le _) (by omega) (lv_sub hl [0, 1, 2] rfl)

set_option maxHeartbeats 4000000 in
set_option maxRecDepth 100000 in
theorem k_X9_told_10 (l : Launch) (dC : Nat → ClassId) (dI : Nat → Nat → Nat) (mo : Nat) (m_disk : Nat) (P : Nat) (m_tape : Nat) (m_slots : Nat) (m_leaves : Nat) (m_fresh : Nat) (m_digestAt : Nat) (m_isGroup : Nat) (m_counts : Nat) (m_versionRow : Nat) (m_state : Nat) (m_names : Nat) (m_keptRow : Nat) (m_inSlot : Nat) (m_inAt : Nat) (m_inSize : Nat) (m_inDigest : Nat) (d_disk : ClassId) (sz : Nat) (hg0 : P ≤ 65536) : Met l yX9_told wsX9_told ({ frames := 4, cells := 0, slots := 0, locals := 91 }) (va_Pc [.ref mo, .int (7 : Int32)] (fun U => U.heap.size = sz ∧ va_P (dC, dI) vwCl [(mo, .inr (11, [.ref m_disk, .int (nI P), .int ((8224 : Int32) + ((26 : Int32) * (nI P))), .int (1 : Int32), .int 0, .int (-1 : Int32), .int 0, .int (0 : Int32), .ref m_tape, .int 0, .ref m_slots, .ref m_leaves, .int 0, .int 0, .ref m_fresh, .int 0, .int 0, .int 0, .ref m_digestAt, .ref m_isGroup, .ref m_counts, .int 0, .int 0, .long 0, .int 0, .ref m_versionRow, .int 0, .long 0, .ref m_state, .ref m_names, .int 0, .ref m_keptRow, .int 0, .ref m_inSlot, .ref m_inAt, .ref m_inSize, .ref m_inDigest, .int 0])), (m_disk, .inl (d_disk, 428040, .inl md_fresh))] U.heap ∧ va_K (dC, dI) vwCl [(d_disk, .int)] U ∧ va_D (fun _ => True) [(mo, .inr (11, [.ref m_disk, .int (nI P), .int ((8224 : Int32) + ((26 : Int32) * (nI P))), .int (1 : Int32), .int 0, .int (-1 : Int32), .int 0, .int (0 : Int32), .ref m_tape, .int 0, .ref m_slots, .ref m_leaves, .int 0, .int 0, .ref m_fresh, .int 0, .int 0, .int 0, .ref m_digestAt, .ref m_isGroup, .ref m_counts, .int 0, .int 0, .long 0, .int 0, .ref m_versionRow, .int 0, .long 0, .ref m_state, .ref m_names, .int 0, .ref m_keptRow, .int 0, .ref m_inSlot, .ref m_inAt, .ref m_inSize, .ref m_inDigest, .int 0])), (m_disk, .inl (d_disk, 428040, .inl md_fresh))])) (va_Qi (fun r (_ : Unit) => r = (0 : Int32)) (fun (_ : Unit) t => va_P (dC, dI) vwCl [(mo, .inr (11, [.ref m_disk, .int (nI P), .int ((8224 : Int32) + ((26 : Int32) * (nI P))), .int (1 : Int32), .int 0, .int (-1 : Int32), .int 0, .int (0 : Int32), .ref m_tape, .int 0, .ref m_slots, .ref m_leaves, .int 0, .int (0 : Int32), .ref m_fresh, .int 0, .int 0, .int 0, .ref m_digestAt, .ref m_isGroup, .ref m_counts, .int 0, .int 0, .long 0, .int 0, .ref m_versionRow, .int 0, .long 0, .ref m_state, .ref m_names, .int 0, .ref m_keptRow, .int 0, .ref m_inSlot, .ref m_inAt, .ref m_inSize, .ref m_inDigest, .int 0]))] t.heap ∧ va_K (dC, dI) vwCl [(d_disk, .int)] t ∧ va_D (va_A [(mo, .inr (11, [.ref m_disk, .int (nI P), .int ((8224 : Int32) + ((26 : Int32) * (nI P))), .int (1 : Int32), .int 0, .int (-1 : Int32), .int 0, .int (0 : Int32), .ref m_tape, .int 0, .ref m_slots, .ref m_leaves, .int 0, .int 0, .ref m_fresh, .int 0, .int 0, .int 0, .ref m_digestAt, .ref m_isGroup, .ref m_counts, .int 0, .int 0, .long 0, .int 0, .ref m_versionRow, .int 0, .long 0, .ref m_state, .ref m_names, .int 0, .ref m_keptRow, .int 0, .ref m_inSlot, .ref m_inAt, .ref m_inSize, .ref m_inDigest, .int 0])), (m_disk, .inl (d_disk, 428040, .inl md_fresh))] sz) [(mo, .inr (11, [.ref m_disk, .int (nI P), .int ((8224 : Int32) + ((26 : Int32) * (nI P))), .int (1 : Int32), .int 0, .int (-1 : Int32), .int 0, .int (0 : Int32), .ref m_tape, .int 0, .ref m_slots, .ref m_leaves, .int 0, .int (0 : Int32), .ref m_fresh, .int 0, .int 0, .int 0, .ref m_digestAt, .ref m_isGroup, .ref m_counts, .int 0, .int 0, .long 0, .int 0, .ref m_versionRow, .int 0, .long 0, .ref m_state, .ref m_names, .int 0, .ref m_keptRow, .int 0, .ref m_inSlot, .ref m_inAt, .ref m_inSize, .ref m_inDigest, .int 0]))]) (va_A [(mo, .inr (11, [.ref m_disk, .int (nI P), .int ((8224 : Int32) + ((26 : Int32) * (nI P))), .int (1 : Int32), .int 0, .int (-1 : Int32), .int 0, .int (0 : Int32), .ref m_tape, .int 0, .ref m_slots, .ref m_leaves, .int 0, .int 0, .ref m_fresh, .int 0, .int 0, .int 0, .ref m_digestAt, .ref m_isGroup, .ref m_counts, .int 0, .int 0, .long 0, .int 0, .ref m_versionRow, .int 0, .long 0, .ref m_state, .ref m_names, .int 0, .ref m_keptRow, .int 0, .ref m_inSlot, .ref m_inAt, .ref m_inSize, .ref m_inDigest, .int 0])), (m_disk, .inl (d_disk, 428040, .inl md_fresh))] sz)) 0 0 (va_A [(mo, .inr (11, [.ref m_disk, .int (nI P), .int ((8224 : Int32) + ((26 : Int32) * (nI P))), .int (1 : Int32), .int 0, .int (-1 : Int32), .int 0, .int (0 : Int32), .ref m_tape, .int 0, .ref m_slots, .ref m_leaves, .int 0, .int 0, .ref m_fresh, .int 0, .int 0, .int 0, .ref m_digestAt, .ref m_isGroup, .ref m_counts, .int 0, .int 0, .long 0, .int 0, .ref m_versionRow, .int 0, .long 0, .ref m_state, .ref m_names, .int 0, .ref m_keptRow, .int 0, .ref m_inSlot, .ref m_inAt, .ref m_inSize, .ref m_inDigest, .int 0])), (m_disk, .inl (d_disk, 428040, .inl md_fresh))] sz) := by
  refine Met.ofW (cc := cX9_told) (maxL := 2) (ret := (some .int)) (by decide) rfl ?_
  intro p e s m args below meth c s₁ B hml hv
  obtain ⟨rfl, hsz, hP, hK, hD0⟩ := hv
  have hx := B.exec
  have hb := B.bytes
  have hr := B.returns
  have hts := atoms_spec (ws := wsX9_told) B.pre
  have hown : s.vm.findClass RX9 = some m.cls := findClass_of_methodNamed B.named
  have hlocks := B.notSynchronized
  subst hsz
  have hD := hD0.self (sz := s.heap.size)
  generalize hAe : va_A [(mo, .inr (11, [.ref m_disk, .int (nI P), .int ((8224 : Int32) + ((26 : Int32) * (nI P))), .int (1 : Int32), .int 0, .int (-1 : Int32), .int 0, .int (0 : Int32), .ref m_tape, .int 0, .ref m_slots, .ref m_leaves, .int 0, .int 0, .ref m_fresh, .int 0, .int 0, .int 0, .ref m_digestAt, .ref m_isGroup, .ref m_counts, .int 0, .int 0, .long 0, .int 0, .ref m_versionRow, .int 0, .long 0, .ref m_state, .ref m_names, .int 0, .ref m_keptRow, .int 0, .ref m_inSlot, .ref m_inAt, .ref m_inSize, .ref m_inDigest, .int 0])), (m_disk, .inl (d_disk, 428040, .inl md_fresh))] s.heap.size = A at hD ⊢
  have hA : ∀ q : Nat, s.heap.size ≤ q → A q := fun q h => by rw [← hAe]; exact Or.inr h
  have hS : va_S A s.heap s.heap [] := va_S.rf
  have hl := lv_entry ([.ref mo, .int (7 : Int32)]) (n := 2) (Nat.le_of_ble_eq_true rfl)
  rw [lg_entry_eq]
  generalize (lg_sl ([.ref mo, .int (7 : Int32)]) ++ List.replicate (2 - (lg_sl ([.ref mo, .int (7 : Int32)])).length) Slot.unset).toArray = ls at hl ⊢
  have hl : lv_has ls 2 [(0, .ref mo), (1, .int (7 : Int32))] := hl
  refine lv_aload_n hx hb dX9_told_0 rfl (lv_at hl 0 rfl) ?_
  refine lv_iload_n hx hb dX9_told_1 rfl (lv_at hl 1 rfl) ?_
  refine lv_iconst (v := 0) hx hb dX9_told_2 (by decide) ?_
  refine lv_bipush (v := 8) hx hb dX9_told_3 (by decide) ?_
  have hPc := hP.sub (ws' := []) [] rfl
  have hKc := hK.sub (tys' := []) [] rfl
  refine vp_callSi (va_Run.run (va_runS (As := [.int (7 : Int32), .int (0 : Int32), .int (8 : Int32)]) (rest := [.ref mo]) ⟨hx, hb, hml, hown, hts⟩ (k_X9_within_3 l dC dI (7 : Int32) (0 : Int32) (8 : Int32) (by decide) (by decide)) (va_cwS 3 hts gX9_told_X9_within rfl rfl rfl (by decide +kernel) ⟨Nat.le_of_ble_eq_true rfl, Nat.le_of_ble_eq_true rfl⟩) ⟨fun a U g mk q => by obtain ⟨q0, qP, qK⟩ := q; exact ⟨q0, qP, va_K.moved (u := U) (U := U.calling g mk a) (Vm.Alike.refl U.vm) qK⟩, fun U hU hW => ⟨rfl, by rw [hU]; exact hPc, va_K.moved hW.alike hKc⟩⟩ rfl rfl hl.1 rfl (lv_room (Nat.le_of_ble_eq_true rfl)) dX9_told_5 ⟨Nat.le_of_ble_eq_true rfl, Nat.le_of_ble_eq_true rfl⟩)) (fun r_1 er_1 => ?_)
  subst er_1
  refine lv_if_eq (tgt := 15) hx hb dX9_told_8 (by decide) (fun c_2 => ?_) (fun c_2 => ?_)
  · skip
    exact absurd c_2 (by decide)
  · skip
    refine lv_iconst (v := 0) hx hb dX9_told_11 (by decide) ?_
    refine lv_goto (tgt := 16) hx hb dX9_told_12 (by decide) ?_
    refine va_put (D := (dC, dI)) (ci := 11) (v := .int (0 : Int32)) (ty := .int) (C := RX9) (T := TX9) (N := 38) hx hb hts (by decide +kernel) tyX9 tyX9_ok nmX9 hown hK hP hD hS 0 rfl rfl 13 (by decide) (hts (.fieldLink RX9 91 "BlockLogModel" "thrown" "I") (by decide +kernel)) (fun _ h9 => h9) rfl (by decide +kernel) rfl rfl (Nat.le_of_ble_eq_true rfl) dX9_told_16 (fun H locs hP hD hS => ?_)
    have hP : va_P (dC, dI) vwCl [(mo, .inr (11, [.ref m_disk, .int (nI P), .int ((8224 : Int32) + ((26 : Int32) * (nI P))), .int (1 : Int32), .int 0, .int (-1 : Int32), .int 0, .int (0 : Int32), .ref m_tape, .int 0, .ref m_slots, .ref m_leaves, .int 0, .int (0 : Int32), .ref m_fresh, .int 0, .int 0, .int 0, .ref m_digestAt, .ref m_isGroup, .ref m_counts, .int 0, .int 0, .long 0, .int 0, .ref m_versionRow, .int 0, .long 0, .ref m_state, .ref m_names, .int 0, .ref m_keptRow, .int 0, .ref m_inSlot, .ref m_inAt, .ref m_inSize, .ref m_inDigest, .int 0])), (m_disk, .inl (d_disk, 428040, .inl md_fresh))] H := hP
    have hD : va_D A [(mo, .inr (11, [.ref m_disk, .int (nI P), .int ((8224 : Int32) + ((26 : Int32) * (nI P))), .int (1 : Int32), .int 0, .int (-1 : Int32), .int 0, .int (0 : Int32), .ref m_tape, .int 0, .ref m_slots, .ref m_leaves, .int 0, .int (0 : Int32), .ref m_fresh, .int 0, .int 0, .int 0, .ref m_digestAt, .ref m_isGroup, .ref m_counts, .int 0, .int 0, .long 0, .int 0, .ref m_versionRow, .int 0, .long 0, .ref m_state, .ref m_names, .int 0, .ref m_keptRow, .int 0, .ref m_inSlot, .ref m_inAt, .ref m_inSize, .ref m_inDigest, .int 0])), (m_disk, .inl (d_disk, 428040, .inl md_fresh))] := hD
    refine lv_aload_n hx hb dX9_told_19 rfl (lv_at hl 0 rfl) ?_
    refine va_get (D := (dC, dI)) (ci := 11) (v := .int (0 : Int32)) (C := RX9) (T := TX9) (N := 38) hx hb hts (by decide +kernel) hown hK hP 0 rfl rfl 13 (by decide) (hts (.fieldLink RX9 91 "BlockLogModel" "thrown" "I") (by decide +kernel)) (fun _ h9 => h9) rfl dX9_told_20 ?_
    refine lv_if_le (tgt := 28) hx hb dX9_told_23 (by decide) (fun c_3 => ?_) (fun c_3 => ?_)
    · skip
      refine lv_iload_n hx hb dX9_told_28 rfl (lv_at hl 1 rfl) ?_
      refine lv_if_ne (tgt := 45) hx hb dX9_told_29 (by decide) (fun c_4 => ?_) (fun c_4 => ?_)
      · skip
        refine lv_iload_n hx hb dX9_told_45 rfl (lv_at hl 1 rfl) ?_
        refine lv_iconst (v := 1) hx hb dX9_told_46 (by decide) ?_
        refine lv_icmp_ne (tgt := 55) hx hb dX9_told_47 (by decide) (fun c_5 => ?_) (fun c_5 => ?_)
        · skip
          refine lv_aload_n hx hb dX9_told_55 rfl (lv_at hl 0 rfl) ?_
          refine va_get (D := (dC, dI)) (ci := 11) (v := .int (1 : Int32)) (C := RX9) (T := TX9) (N := 38) hx hb hts (by decide +kernel) hown hK hP 0 rfl rfl 3 (by decide) (hts (.fieldLink RX9 72 "BlockLogModel" "on" "Z") (by decide +kernel)) (fun _ h9 => h9) rfl dX9_told_56 ?_
          refine lv_if_ne (tgt := 64) hx hb dX9_told_59 (by decide) (fun c_6 => ?_) (fun c_6 => ?_)
          · skip
            refine lv_iload_n hx hb dX9_told_64 rfl (lv_at hl 1 rfl) ?_
            refine lv_tableIn (off := 73) (tgt := 138) hx hb dX9_told_65 (by decide +kernel) (by decide +kernel) (by decide +kernel) (by decide) ?_
            refine lv_aload_n hx hb dX9_told_138 rfl (lv_at hl 0 rfl) ?_
            have hPc := hP.sub (ws' := [(mo, .inr (11, [.ref m_disk, .int (nI P), .int ((8224 : Int32) + ((26 : Int32) * (nI P))), .int (1 : Int32), .int 0, .int (-1 : Int32), .int 0, .int (0 : Int32), .ref m_tape, .int 0, .ref m_slots, .ref m_leaves, .int 0, .int (0 : Int32), .ref m_fresh, .int 0, .int 0, .int 0, .ref m_digestAt, .ref m_isGroup, .ref m_counts, .int 0, .int 0, .long 0, .int 0, .ref m_versionRow, .int 0, .long 0, .ref m_state, .ref m_names, .int 0, .ref m_keptRow, .int 0, .ref m_inSlot, .ref m_inAt, .ref m_inSize, .ref m_inDigest, .int 0])), (m_disk, .inl (d_disk, 428040, .inl md_fresh))]) [0, 1] rfl
            have hKc := hK.sub (tys' := [(d_disk, .int)]) [0] rfl
            refine vp_callSi (va_Run.run (va_runV (As := []) (rest := []) ⟨hx, hb, hml, hown, hts⟩ (k_X9_badPages_1 l dC dI mo m_disk P m_tape m_slots m_leaves m_fresh m_digestAt m_isGroup m_counts m_versionRow m_state m_names m_keptRow m_inSlot m_inAt m_inSize m_inDigest d_disk hg0) (cwV 0 hts gX9_told_X9_badPages rfl rfl rfl (by decide +kernel) ⟨Nat.le_of_ble_eq_true rfl, Nat.le_of_ble_eq_true rfl⟩) ⟨fun a U g mk q => by obtain ⟨q0, qP, qK⟩ := q; exact ⟨q0, qP, va_K.moved (u := U) (U := U.calling g mk a) (Vm.Alike.refl U.vm) qK⟩, va_recv hK hP (ci := 11) (q := (RX9, TX9, 38)) rfl (q0 := 0) rfl, fun U hU hW => ⟨rfl, by rw [hU]; exact hPc, va_K.moved hW.alike hKc⟩⟩ rfl rfl hl.1 rfl (lv_room (Nat.le_of_ble_eq_true rfl)) dX9_told_139 ⟨Nat.le_of_ble_eq_true rfl, Nat.le_of_ble_eq_true rfl⟩)) (fun r_7 er_7 => ?_)
            subst er_7
            have hP := hP.sub (ws' := [(mo, .inr (11, [.ref m_disk, .int (nI P), .int ((8224 : Int32) + ((26 : Int32) * (nI P))), .int (1 : Int32), .int 0, .int (-1 : Int32), .int 0, .int (0 : Int32), .ref m_tape, .int 0, .ref m_slots, .ref m_leaves, .int 0, .int (0 : Int32), .ref m_fresh, .int 0, .int 0, .int 0, .ref m_digestAt, .ref m_isGroup, .ref m_counts, .int 0, .int 0, .long 0, .int 0, .ref m_versionRow, .int 0, .long 0, .ref m_state, .ref m_names, .int 0, .ref m_keptRow, .int 0, .ref m_inSlot, .ref m_inAt, .ref m_inSize, .ref m_inDigest, .int 0]))]) [0] rfl
            have hD := hD.sub (ws' := [(mo, .inr (11, [.ref m_disk, .int (nI P), .int ((8224 : Int32) + ((26 : Int32) * (nI P))), .int (1 : Int32), .int 0, .int (-1 : Int32), .int 0, .int (0 : Int32), .ref m_tape, .int 0, .ref m_slots, .ref m_leaves, .int 0, .int (0 : Int32), .ref m_fresh, .int 0, .int 0, .int 0, .ref m_digestAt, .ref m_isGroup, .ref m_counts, .int 0, .int 0, .long 0, .int 0, .ref m_versionRow, .int 0, .long 0, .ref m_state, .ref m_names, .int 0, .ref m_keptRow, .int 0, .ref m_inSlot, .ref m_inAt, .ref m_inSize, .ref m_inDigest, .int 0]))]) [0] (by decide) rfl
            have hK := hK.sub (tys' := [(d_disk, .int)]) [0] rfl
            exact W.iret hx hb hr (fun t ht hW => ⟨⟨_, (), rfl, rfl, by rw [ht]; exact hP, va_K.moved hW.alike hK, hD⟩, hS.F ht⟩) hS.2.2 dX9_told_142
          · skip
            exact absurd c_6 (by decide)
        · skip
          exact absurd c_5 (by decide)
      · skip
        exact absurd c_4 (by decide)
    · skip
      exact absurd (by decide) c_3

set_option maxHeartbeats 4000000 in
set_option maxRecDepth 100000 in
theorem k_X8_told_11 (l : Launch) (dC : Nat → ClassId) (dI : Nat → Nat → Nat) (x : Nat) (ds : Nat) (tp : Nat) (rr : Nat) (so : Nat) (pu : Nat) (sn : Nat) (im : Nat) (cs : Nat) (cl : Nat) (pg : Int32) (dl : Nat) (dr : Nat) (dt : Nat)  : Met l yX8_told wsX8_told ({ frames := 0, cells := 0, slots := 0, locals := 0 }) (va_Pc [.ref x, .int (8 : Int32)] (fun U => va_P (dC, dI) vwCl [(x, .inr (10, [.ref tp, .ref ds, .ref rr, .ref so, .ref pu, .ref sn, .ref im, .ref cs, .ref cl, .int (0 : Int32)])), (ds, .inr (3, [.int pg, .ref dl, .ref dr, .ref dt, .int (1 : Int32), .int (-1 : Int32), .int (0 : Int32)]))] U.heap ∧ va_K (dC, dI) vwCl [] U ∧ gx_W U)) (vp_Si (fun r => r = (0 : Int32))) 0 0 (fun _ => False) := by
  refine Met.ofW (cc := cX8_told) (maxL := 2) (ret := (some .int)) (by decide) rfl ?_
  intro p e s m args below meth c s₁ B hml hv
  obtain ⟨rfl, hP, hK, hG⟩ := hv
  have hx := B.exec
  have hb := B.bytes
  have hr := B.returns
  have hts := atoms_spec (ws := wsX8_told) B.pre
  have hown : s.vm.findClass RX8 = some m.cls := findClass_of_methodNamed B.named
  have hlocks := B.notSynchronized
  have hl := lv_entry ([.ref x, .int (8 : Int32)]) (n := 2) (Nat.le_of_ble_eq_true rfl)
  rw [lg_entry_eq]
  generalize (lg_sl ([.ref x, .int (8 : Int32)]) ++ List.replicate (2 - (lg_sl ([.ref x, .int (8 : Int32)])).length) Slot.unset).toArray = ls at hl ⊢
  have hl : lv_has ls 2 [(0, .ref x), (1, .int (8 : Int32))] := hl
  refine lv_iload_n hx hb dX8_told_0 rfl (lv_at hl 1 rfl) ?_
  refine lv_if_lt (tgt := 10) hx hb dX8_told_1 (by decide) (fun c_1 => ?_) (fun c_1 => ?_)
  · skip
    exact absurd c_1 (by decide)
  · skip
    refine lv_iload_n hx hb dX8_told_4 rfl (lv_at hl 1 rfl) ?_
    refine lv_bipush (v := 8) hx hb dX8_told_5 (by decide) ?_
    refine lv_icmp_le (tgt := 21) hx hb dX8_told_7 (by decide) (fun c_2 => ?_) (fun c_2 => ?_)
    · skip
      refine lv_iload_n hx hb dX8_told_21 rfl (lv_at hl 1 rfl) ?_
      refine lv_iconst (v := 1) hx hb dX8_told_22 (by decide) ?_
      refine lv_icmp_ne (tgt := 34) hx hb dX8_told_23 (by decide) (fun c_3 => ?_) (fun c_3 => ?_)
      · skip
        refine lv_aload_n hx hb dX8_told_34 rfl (lv_at hl 0 rfl) ?_
        refine va_get (D := (dC, dI)) (ci := 10) (v := .ref ds) (C := RX8) (T := TX8) (N := 10) hx hb hts (by decide +kernel) hown hK hP 0 rfl rfl 1 (by decide) (hts (.fieldLink RX8 22 "BlockLog" "disk" "LBlockLog$Disk;") (by decide +kernel)) (fun _ h9 => h9) rfl dX8_told_35 ?_
        refine va_getN (D := (dC, dI)) (ci := 3) (v := .int (1 : Int32)) (C := RX1) (T := TX1) (N := 7) hx hb hts (by decide +kernel) hown hK hP 1 rfl rfl 4 (by decide) (va_Nw.use rfl (hG.1 ("BlockLog", 287, "BlockLog$Disk", "powered", "Z", "BlockLog") (by decide +kernel))) (fun _ h9 => h9) rfl dX8_told_38 ?_
        refine lv_if_ne (tgt := 46) hx hb dX8_told_41 (by decide) (fun c_4 => ?_) (fun c_4 => ?_)
        · skip
          refine lv_iload_n hx hb dX8_told_46 rfl (lv_at hl 1 rfl) ?_
          refine lv_tableIn (off := 89) (tgt := 136) hx hb dX8_told_47 (by decide +kernel) (by decide +kernel) (by decide +kernel) (by decide) ?_
          refine lv_aload_n hx hb dX8_told_136 rfl (lv_at hl 0 rfl) ?_
          refine va_get (D := (dC, dI)) (ci := 10) (v := .int (0 : Int32)) (C := RX8) (T := TX8) (N := 10) hx hb hts (by decide +kernel) hown hK hP 0 rfl rfl 9 (by decide) (hts (.fieldLink RX8 72 "BlockLog" "collected" "I") (by decide +kernel)) (fun _ h9 => h9) rfl dX8_told_137 ?_
          exact W.iret hx hb hr (fun t ht hW => ⟨_, rfl, rfl, ht⟩) (fun q h => by cases h) dX8_told_140
        · skip
          exact absurd c_4 (by decide)
      · skip
        exact absurd c_3 (by decide)
    · skip
      exact absurd (by decide) c_2

set_option maxHeartbeats 4000000 in
set_option maxRecDepth 100000 in
theorem k_L_told_11 (l : Launch) (dC : Nat → ClassId) (dI : Nat → Nat → Nat) (x : Nat) (ho : Nat) (ds : Nat) (tp : Nat) (rr : Nat) (so : Nat) (pu : Nat) (sn : Nat) (im : Nat) (cs : Nat) (cl : Nat) (pg : Int32) (dl : Nat) (dr : Nat) (dt : Nat) (cJ : ClassId) (g1 : Nat → Int64) (sz : Nat)  : Met l yL_told wsL_told ({ frames := 1, cells := 0, slots := 0, locals := 21 }) (va_Pc [.ref x, .int (8 : Int32), .ref ho] (fun U => U.heap.size = sz ∧ va_P (dC, dI) vwCl [(x, .inr (10, [.ref tp, .ref ds, .ref rr, .ref so, .ref pu, .ref sn, .ref im, .ref cs, .ref cl, .int (0 : Int32)])), (ds, .inr (3, [.int pg, .ref dl, .ref dr, .ref dt, .int (1 : Int32), .int (-1 : Int32), .int (0 : Int32)])), (ho, .inl (cJ, 1, .inr (.inl g1)))] U.heap ∧ va_K (dC, dI) vwCl [(cJ, .long)] U ∧ va_D (fun _ => True) [(x, .inr (10, [.ref tp, .ref ds, .ref rr, .ref so, .ref pu, .ref sn, .ref im, .ref cs, .ref cl, .int (0 : Int32)])), (ds, .inr (3, [.int pg, .ref dl, .ref dr, .ref dt, .int (1 : Int32), .int (-1 : Int32), .int (0 : Int32)])), (ho, .inl (cJ, 1, .inr (.inl g1)))] ∧ gx_E (va_A [(x, .inr (10, [.ref tp, .ref ds, .ref rr, .ref so, .ref pu, .ref sn, .ref im, .ref cs, .ref cl, .int (0 : Int32)])), (ds, .inr (3, [.int pg, .ref dl, .ref dr, .ref dt, .int (1 : Int32), .int (-1 : Int32), .int (0 : Int32)])), (ho, .inl (cJ, 1, .inr (.inl g1)))] sz) U)) (va_Qi (fun r (_ : Unit) => r = (0 : Int32)) (fun (_ : Unit) t => va_P (dC, dI) vwCl [(ho, .inl (cJ, 1, .inr (.inl (vp_updL g1 (0 : Int32).toNatClampNeg ((0 : Int32).toInt64)))))] t.heap ∧ va_K (dC, dI) vwCl [(cJ, .long)] t ∧ va_D (va_A [(x, .inr (10, [.ref tp, .ref ds, .ref rr, .ref so, .ref pu, .ref sn, .ref im, .ref cs, .ref cl, .int (0 : Int32)])), (ds, .inr (3, [.int pg, .ref dl, .ref dr, .ref dt, .int (1 : Int32), .int (-1 : Int32), .int (0 : Int32)])), (ho, .inl (cJ, 1, .inr (.inl g1)))] sz) [(ho, .inl (cJ, 1, .inr (.inl (vp_updL g1 (0 : Int32).toNatClampNeg ((0 : Int32).toInt64)))))]) (va_A [(x, .inr (10, [.ref tp, .ref ds, .ref rr, .ref so, .ref pu, .ref sn, .ref im, .ref cs, .ref cl, .int (0 : Int32)])), (ds, .inr (3, [.int pg, .ref dl, .ref dr, .ref dt, .int (1 : Int32), .int (-1 : Int32), .int (0 : Int32)])), (ho, .inl (cJ, 1, .inr (.inl g1)))] sz)) 0 0 (va_A [(x, .inr (10, [.ref tp, .ref ds, .ref rr, .ref so, .ref pu, .ref sn, .ref im, .ref cs, .ref cl, .int (0 : Int32)])), (ds, .inr (3, [.int pg, .ref dl, .ref dr, .ref dt, .int (1 : Int32), .int (-1 : Int32), .int (0 : Int32)])), (ho, .inl (cJ, 1, .inr (.inl g1)))] sz) := by
  refine va_MetW (cc := cL_told) (maxL := 4) (ret := (some .int)) (hh := [(0, 9, 12, 13)]) (by decide) rfl ?_
  intro p e s m args below meth c s₁ B hml hv
  obtain ⟨rfl, hsz, hP, hK, hD0, hG⟩ := hv
  have hx := B.exec
  have hb := B.bytes
  have hr := B.returns
  have hts := atoms_spec (ws := wsL_told) B.pre
  have hown : s.vm.findClass RL = some m.cls := findClass_of_methodNamed B.named
  have hlocks := B.notSynchronized
  have htab := vx_table (x := yL_told) B (hts (.codeWith yL_told cL_told 4 (some .int) [(0, 9, 12, 13)]) List.mem_cons_self)
  subst hsz
  have hD := hD0.self (sz := s.heap.size)
  generalize hAe : va_A [(x, .inr (10, [.ref tp, .ref ds, .ref rr, .ref so, .ref pu, .ref sn, .ref im, .ref cs, .ref cl, .int (0 : Int32)])), (ds, .inr (3, [.int pg, .ref dl, .ref dr, .ref dt, .int (1 : Int32), .int (-1 : Int32), .int (0 : Int32)])), (ho, .inl (cJ, 1, .inr (.inl g1)))] s.heap.size = A at hD hG ⊢
  have hA : ∀ q : Nat, s.heap.size ≤ q → A q := fun q h => by rw [← hAe]; exact Or.inr h
  have hS : va_S A s.heap s.heap [] := va_S.rf
  have hl := lv_entry ([.ref x, .int (8 : Int32), .ref ho]) (n := 4) (Nat.le_of_ble_eq_true rfl)
  rw [lg_entry_eq]
  generalize (lg_sl ([.ref x, .int (8 : Int32), .ref ho]) ++ List.replicate (4 - (lg_sl ([.ref x, .int (8 : Int32), .ref ho])).length) Slot.unset).toArray = ls at hl ⊢
  have hl : lv_has ls 4 [(0, .ref x), (1, .int (8 : Int32)), (2, .ref ho)] := hl
  refine lv_aload_n hx hb dL_told_0 rfl (lv_at hl 2 rfl) ?_
  refine lv_iconst (v := 0) hx hb dL_told_1 (by decide) ?_
  refine lv_aload_n hx hb dL_told_2 rfl (lv_at hl 0 rfl) ?_
  refine lv_iload_n hx hb dL_told_3 rfl (lv_at hl 1 rfl) ?_
  have hPc := hP.sub (ws' := [(x, .inr (10, [.ref tp, .ref ds, .ref rr, .ref so, .ref pu, .ref sn, .ref im, .ref cs, .ref cl, .int (0 : Int32)])), (ds, .inr (3, [.int pg, .ref dl, .ref dr, .ref dt, .int (1 : Int32), .int (-1 : Int32), .int (0 : Int32)]))]) [0, 1] rfl
  have hKc := hK.sub (tys' := []) [] rfl
  refine vp_callSi (va_Run.run (va_runV (As := [.int (8 : Int32)]) (rest := [.int (0 : Int32), .ref ho]) ⟨hx, hb, hml, hown, hts⟩ (k_X8_told_11 l dC dI x ds tp rr so pu sn im cs cl pg dl dr dt) (cwV 1 hts gL_told_X8_told rfl rfl rfl (by decide +kernel) ⟨Nat.le_of_ble_eq_true rfl, Nat.le_of_ble_eq_true rfl⟩) ⟨fun a U g mk q => by obtain ⟨q0, qP, qK, qG⟩ := q; exact ⟨q0, qP, va_K.moved (u := U) (U := U.calling g mk a) (Vm.Alike.refl U.vm) qK, qG.same rfl⟩, va_recv hK hP (ci := 10) (q := (RX8, TX8, 10)) rfl (q0 := 0) rfl, fun U hU hW => ⟨rfl, by rw [hU]; exact hPc, va_K.moved hW.alike hKc, hG.1.warm hW⟩⟩ rfl rfl hl.1 rfl (lv_room (Nat.le_of_ble_eq_true rfl)) dL_told_4 ⟨Nat.le_of_ble_eq_true rfl, Nat.le_of_ble_eq_true rfl⟩)) (fun r_1 er_1 => ?_)
  subst er_1
  refine lv_i2l hx hb dL_told_7 rfl ?_
  refine va_last hx hb hK hP hD hS 2 0 rfl rfl (by unfold vp_in; decide +kernel) dL_told_8 (fun H locs hP hD hS => ?_)
  have hP : va_P (dC, dI) vwCl [(x, .inr (10, [.ref tp, .ref ds, .ref rr, .ref so, .ref pu, .ref sn, .ref im, .ref cs, .ref cl, .int (0 : Int32)])), (ds, .inr (3, [.int pg, .ref dl, .ref dr, .ref dt, .int (1 : Int32), .int (-1 : Int32), .int (0 : Int32)])), (ho, .inl (cJ, 1, .inr (.inl (vp_updL g1 (0 : Int32).toNatClampNeg ((0 : Int32).toInt64)))))] H := hP
  have hD : va_D A [(x, .inr (10, [.ref tp, .ref ds, .ref rr, .ref so, .ref pu, .ref sn, .ref im, .ref cs, .ref cl, .int (0 : Int32)])), (ds, .inr (3, [.int pg, .ref dl, .ref dr, .ref dt, .int (1 : Int32), .int (-1 : Int32), .int (0 : Int32)])), (ho, .inl (cJ, 1, .inr (.inl (vp_updL g1 (0 : Int32).toNatClampNeg ((0 : Int32).toInt64)))))] := hD
  refine lv_goto (tgt := 15) hx hb dL_told_9 (by decide) ?_
  refine lv_iconst (v := 0) hx hb dL_told_15 (by decide) ?_
  have hP := hP.sub (ws' := [(ho, .inl (cJ, 1, .inr (.inl (vp_updL g1 (0 : Int32).toNatClampNeg ((0 : Int32).toInt64)))))]) [2] rfl
  have hD := hD.sub (ws' := [(ho, .inl (cJ, 1, .inr (.inl (vp_updL g1 (0 : Int32).toNatClampNeg ((0 : Int32).toInt64)))))]) [2] (by decide) rfl
  have hK := hK.sub (tys' := [(cJ, .long)]) [0] rfl
  exact W.iret hx hb hr (fun t ht hW => ⟨⟨_, (), rfl, rfl, by rw [ht]; exact hP, va_K.moved hW.alike hK, hD⟩, hS.F ht⟩) hS.2.2 dL_told_16

set_option maxHeartbeats 4000000 in
set_option maxRecDepth 100000 in
theorem k_X9_told_11 (l : Launch) (dC : Nat → ClassId) (dI : Nat → Nat → Nat) (mo : Nat) (m_disk : Nat) (P : Nat) (m_tape : Nat) (m_slots : Nat) (m_leaves : Nat) (m_fresh : Nat) (m_digestAt : Nat) (m_isGroup : Nat) (m_counts : Nat) (m_versionRow : Nat) (m_state : Nat) (m_names : Nat) (m_keptRow : Nat) (m_inSlot : Nat) (m_inAt : Nat) (m_inSize : Nat) (m_inDigest : Nat) (sz : Nat)  : Met l yX9_told wsX9_told ({ frames := 1, cells := 0, slots := 0, locals := 22 }) (va_Pc [.ref mo, .int (8 : Int32)] (fun U => U.heap.size = sz ∧ va_P (dC, dI) vwCl [(mo, .inr (11, [.ref m_disk, .int (nI P), .int ((8224 : Int32) + ((26 : Int32) * (nI P))), .int (1 : Int32), .int 0, .int (-1 : Int32), .int 0, .int (0 : Int32), .ref m_tape, .int 0, .ref m_slots, .ref m_leaves, .int 0, .int 0, .ref m_fresh, .int 0, .int 0, .int 0, .ref m_digestAt, .ref m_isGroup, .ref m_counts, .int 0, .int 0, .long 0, .int 0, .ref m_versionRow, .int 0, .long 0, .ref m_state, .ref m_names, .int 0, .ref m_keptRow, .int 0, .ref m_inSlot, .ref m_inAt, .ref m_inSize, .ref m_inDigest, .int 0]))] U.heap ∧ va_K (dC, dI) vwCl [] U ∧ va_D (fun _ => True) [(mo, .inr (11, [.ref m_disk, .int (nI P), .int ((8224 : Int32) + ((26 : Int32) * (nI P))), .int (1 : Int32), .int 0, .int (-1 : Int32), .int 0, .int (0 : Int32), .ref m_tape, .int 0, .ref m_slots, .ref m_leaves, .int 0, .int 0, .ref m_fresh, .int 0, .int 0, .int 0, .ref m_digestAt, .ref m_isGroup, .ref m_counts, .int 0, .int 0, .long 0, .int 0, .ref m_versionRow, .int 0, .long 0, .ref m_state, .ref m_names, .int 0, .ref m_keptRow, .int 0, .ref m_inSlot, .ref m_inAt, .ref m_inSize, .ref m_inDigest, .int 0]))])) (va_Qi (fun r (_ : Unit) => r = 0) (fun (_ : Unit) t => va_P (dC, dI) vwCl [(mo, .inr (11, [.ref m_disk, .int (nI P), .int ((8224 : Int32) + ((26 : Int32) * (nI P))), .int (1 : Int32), .int 0, .int (-1 : Int32), .int 0, .int (0 : Int32), .ref m_tape, .int 0, .ref m_slots, .ref m_leaves, .int 0, .int (0 : Int32), .ref m_fresh, .int 0, .int 0, .int 0, .ref m_digestAt, .ref m_isGroup, .ref m_counts, .int 0, .int 0, .long 0, .int 0, .ref m_versionRow, .int 0, .long 0, .ref m_state, .ref m_names, .int 0, .ref m_keptRow, .int 0, .ref m_inSlot, .ref m_inAt, .ref m_inSize, .ref m_inDigest, .int 0]))] t.heap ∧ va_K (dC, dI) vwCl [] t ∧ va_D (va_A [(mo, .inr (11, [.ref m_disk, .int (nI P), .int ((8224 : Int32) + ((26 : Int32) * (nI P))), .int (1 : Int32), .int 0, .int (-1 : Int32), .int 0, .int (0 : Int32), .ref m_tape, .int 0, .ref m_slots, .ref m_leaves, .int 0, .int 0, .ref m_fresh, .int 0, .int 0, .int 0, .ref m_digestAt, .ref m_isGroup, .ref m_counts, .int 0, .int 0, .long 0, .int 0, .ref m_versionRow, .int 0, .long 0, .ref m_state, .ref m_names, .int 0, .ref m_keptRow, .int 0, .ref m_inSlot, .ref m_inAt, .ref m_inSize, .ref m_inDigest, .int 0]))] sz) [(mo, .inr (11, [.ref m_disk, .int (nI P), .int ((8224 : Int32) + ((26 : Int32) * (nI P))), .int (1 : Int32), .int 0, .int (-1 : Int32), .int 0, .int (0 : Int32), .ref m_tape, .int 0, .ref m_slots, .ref m_leaves, .int 0, .int (0 : Int32), .ref m_fresh, .int 0, .int 0, .int 0, .ref m_digestAt, .ref m_isGroup, .ref m_counts, .int 0, .int 0, .long 0, .int 0, .ref m_versionRow, .int 0, .long 0, .ref m_state, .ref m_names, .int 0, .ref m_keptRow, .int 0, .ref m_inSlot, .ref m_inAt, .ref m_inSize, .ref m_inDigest, .int 0]))]) (va_A [(mo, .inr (11, [.ref m_disk, .int (nI P), .int ((8224 : Int32) + ((26 : Int32) * (nI P))), .int (1 : Int32), .int 0, .int (-1 : Int32), .int 0, .int (0 : Int32), .ref m_tape, .int 0, .ref m_slots, .ref m_leaves, .int 0, .int 0, .ref m_fresh, .int 0, .int 0, .int 0, .ref m_digestAt, .ref m_isGroup, .ref m_counts, .int 0, .int 0, .long 0, .int 0, .ref m_versionRow, .int 0, .long 0, .ref m_state, .ref m_names, .int 0, .ref m_keptRow, .int 0, .ref m_inSlot, .ref m_inAt, .ref m_inSize, .ref m_inDigest, .int 0]))] sz)) 0 0 (va_A [(mo, .inr (11, [.ref m_disk, .int (nI P), .int ((8224 : Int32) + ((26 : Int32) * (nI P))), .int (1 : Int32), .int 0, .int (-1 : Int32), .int 0, .int (0 : Int32), .ref m_tape, .int 0, .ref m_slots, .ref m_leaves, .int 0, .int 0, .ref m_fresh, .int 0, .int 0, .int 0, .ref m_digestAt, .ref m_isGroup, .ref m_counts, .int 0, .int 0, .long 0, .int 0, .ref m_versionRow, .int 0, .long 0, .ref m_state, .ref m_names, .int 0, .ref m_keptRow, .int 0, .ref m_inSlot, .ref m_inAt, .ref m_inSize, .ref m_inDigest, .int 0]))] sz) := by
  refine Met.ofW (cc := cX9_told) (maxL := 2) (ret := (some .int)) (by decide) rfl ?_
  intro p e s m args below meth c s₁ B hml hv
  obtain ⟨rfl, hsz, hP, hK, hD0⟩ := hv
  have hx := B.exec
  have hb := B.bytes
  have hr := B.returns
  have hts := atoms_spec (ws := wsX9_told) B.pre
  have hown : s.vm.findClass RX9 = some m.cls := findClass_of_methodNamed B.named
  have hlocks := B.notSynchronized
  subst hsz
  have hD := hD0.self (sz := s.heap.size)
  generalize hAe : va_A [(mo, .inr (11, [.ref m_disk, .int (nI P), .int ((8224 : Int32) + ((26 : Int32) * (nI P))), .int (1 : Int32), .int 0, .int (-1 : Int32), .int 0, .int (0 : Int32), .ref m_tape, .int 0, .ref m_slots, .ref m_leaves, .int 0, .int 0, .ref m_fresh, .int 0, .int 0, .int 0, .ref m_digestAt, .ref m_isGroup, .ref m_counts, .int 0, .int 0, .long 0, .int 0, .ref m_versionRow, .int 0, .long 0, .ref m_state, .ref m_names, .int 0, .ref m_keptRow, .int 0, .ref m_inSlot, .ref m_inAt, .ref m_inSize, .ref m_inDigest, .int 0]))] s.heap.size = A at hD ⊢
  have hA : ∀ q : Nat, s.heap.size ≤ q → A q := fun q h => by rw [← hAe]; exact Or.inr h
  have hS : va_S A s.heap s.heap [] := va_S.rf
  have hl := lv_entry ([.ref mo, .int (8 : Int32)]) (n := 2) (Nat.le_of_ble_eq_true rfl)
  rw [lg_entry_eq]
  generalize (lg_sl ([.ref mo, .int (8 : Int32)]) ++ List.replicate (2 - (lg_sl ([.ref mo, .int (8 : Int32)])).length) Slot.unset).toArray = ls at hl ⊢
  have hl : lv_has ls 2 [(0, .ref mo), (1, .int (8 : Int32))] := hl
  refine lv_aload_n hx hb dX9_told_0 rfl (lv_at hl 0 rfl) ?_
  refine lv_iload_n hx hb dX9_told_1 rfl (lv_at hl 1 rfl) ?_
  refine lv_iconst (v := 0) hx hb dX9_told_2 (by decide) ?_
  refine lv_bipush (v := 8) hx hb dX9_told_3 (by decide) ?_
  have hPc := hP.sub (ws' := []) [] rfl
  have hKc := hK.sub (tys' := []) [] rfl
  refine vp_callSi (va_Run.run (va_runS (As := [.int (8 : Int32), .int (0 : Int32), .int (8 : Int32)]) (rest := [.ref mo]) ⟨hx, hb, hml, hown, hts⟩ (k_X9_within_3 l dC dI (8 : Int32) (0 : Int32) (8 : Int32) (by decide) (by decide)) (va_cwS 3 hts gX9_told_X9_within rfl rfl rfl (by decide +kernel) ⟨Nat.le_of_ble_eq_true rfl, Nat.le_of_ble_eq_true rfl⟩) ⟨fun a U g mk q => by obtain ⟨q0, qP, qK⟩ := q; exact ⟨q0, qP, va_K.moved (u := U) (U := U.calling g mk a) (Vm.Alike.refl U.vm) qK⟩, fun U hU hW => ⟨rfl, by rw [hU]; exact hPc, va_K.moved hW.alike hKc⟩⟩ rfl rfl hl.1 rfl (lv_room (Nat.le_of_ble_eq_true rfl)) dX9_told_5 ⟨Nat.le_of_ble_eq_true rfl, Nat.le_of_ble_eq_true rfl⟩)) (fun r_1 er_1 => ?_)
  subst er_1
  refine lv_if_eq (tgt := 15) hx hb dX9_told_8 (by decide) (fun c_2 => ?_) (fun c_2 => ?_)
  · skip
    exact absurd c_2 (by decide)
  · skip
    refine lv_iconst (v := 0) hx hb dX9_told_11 (by decide) ?_
    refine lv_goto (tgt := 16) hx hb dX9_told_12 (by decide) ?_
    refine va_put (D := (dC, dI)) (ci := 11) (v := .int (0 : Int32)) (ty := .int) (C := RX9) (T := TX9) (N := 38) hx hb hts (by decide +kernel) tyX9 tyX9_ok nmX9 hown hK hP hD hS 0 rfl rfl 13 (by decide) (hts (.fieldLink RX9 91 "BlockLogModel" "thrown" "I") (by decide +kernel)) (fun _ h9 => h9) rfl (by decide +kernel) rfl rfl (Nat.le_of_ble_eq_true rfl) dX9_told_16 (fun H locs hP hD hS => ?_)
    have hP : va_P (dC, dI) vwCl [(mo, .inr (11, [.ref m_disk, .int (nI P), .int ((8224 : Int32) + ((26 : Int32) * (nI P))), .int (1 : Int32), .int 0, .int (-1 : Int32), .int 0, .int (0 : Int32), .ref m_tape, .int 0, .ref m_slots, .ref m_leaves, .int 0, .int (0 : Int32), .ref m_fresh, .int 0, .int 0, .int 0, .ref m_digestAt, .ref m_isGroup, .ref m_counts, .int 0, .int 0, .long 0, .int 0, .ref m_versionRow, .int 0, .long 0, .ref m_state, .ref m_names, .int 0, .ref m_keptRow, .int 0, .ref m_inSlot, .ref m_inAt, .ref m_inSize, .ref m_inDigest, .int 0]))] H := hP
    have hD : va_D A [(mo, .inr (11, [.ref m_disk, .int (nI P), .int ((8224 : Int32) + ((26 : Int32) * (nI P))), .int (1 : Int32), .int 0, .int (-1 : Int32), .int 0, .int (0 : Int32), .ref m_tape, .int 0, .ref m_slots, .ref m_leaves, .int 0, .int (0 : Int32), .ref m_fresh, .int 0, .int 0, .int 0, .ref m_digestAt, .ref m_isGroup, .ref m_counts, .int 0, .int 0, .long 0, .int 0, .ref m_versionRow, .int 0, .long 0, .ref m_state, .ref m_names, .int 0, .ref m_keptRow, .int 0, .ref m_inSlot, .ref m_inAt, .ref m_inSize, .ref m_inDigest, .int 0]))] := hD
    refine lv_aload_n hx hb dX9_told_19 rfl (lv_at hl 0 rfl) ?_
    refine va_get (D := (dC, dI)) (ci := 11) (v := .int (0 : Int32)) (C := RX9) (T := TX9) (N := 38) hx hb hts (by decide +kernel) hown hK hP 0 rfl rfl 13 (by decide) (hts (.fieldLink RX9 91 "BlockLogModel" "thrown" "I") (by decide +kernel)) (fun _ h9 => h9) rfl dX9_told_20 ?_
    refine lv_if_le (tgt := 28) hx hb dX9_told_23 (by decide) (fun c_3 => ?_) (fun c_3 => ?_)
    · skip
      refine lv_iload_n hx hb dX9_told_28 rfl (lv_at hl 1 rfl) ?_
      refine lv_if_ne (tgt := 45) hx hb dX9_told_29 (by decide) (fun c_4 => ?_) (fun c_4 => ?_)
      · skip
        refine lv_iload_n hx hb dX9_told_45 rfl (lv_at hl 1 rfl) ?_
        refine lv_iconst (v := 1) hx hb dX9_told_46 (by decide) ?_
        refine lv_icmp_ne (tgt := 55) hx hb dX9_told_47 (by decide) (fun c_5 => ?_) (fun c_5 => ?_)
        · skip
          refine lv_aload_n hx hb dX9_told_55 rfl (lv_at hl 0 rfl) ?_
          refine va_get (D := (dC, dI)) (ci := 11) (v := .int (1 : Int32)) (C := RX9) (T := TX9) (N := 38) hx hb hts (by decide +kernel) hown hK hP 0 rfl rfl 3 (by decide) (hts (.fieldLink RX9 72 "BlockLogModel" "on" "Z") (by decide +kernel)) (fun _ h9 => h9) rfl dX9_told_56 ?_
          refine lv_if_ne (tgt := 64) hx hb dX9_told_59 (by decide) (fun c_6 => ?_) (fun c_6 => ?_)
          · skip
            refine lv_iload_n hx hb dX9_told_64 rfl (lv_at hl 1 rfl) ?_
            refine lv_tableOut (tgt := 143) hx hb dX9_told_65 (by decide +kernel) (by decide) ?_
            refine lv_aload_n hx hb dX9_told_143 rfl (lv_at hl 0 rfl) ?_
            refine va_get (D := (dC, dI)) (ci := 11) (v := .int 0) (C := RX9) (T := TX9) (N := 38) hx hb hts (by decide +kernel) hown hK hP 0 rfl rfl 12 (by decide) (hts (.fieldLink RX9 111 "BlockLogModel" "collected" "I") (by decide +kernel)) (fun _ h9 => h9) rfl dX9_told_144 ?_
            have hP := hP.sub (ws' := [(mo, .inr (11, [.ref m_disk, .int (nI P), .int ((8224 : Int32) + ((26 : Int32) * (nI P))), .int (1 : Int32), .int 0, .int (-1 : Int32), .int 0, .int (0 : Int32), .ref m_tape, .int 0, .ref m_slots, .ref m_leaves, .int 0, .int (0 : Int32), .ref m_fresh, .int 0, .int 0, .int 0, .ref m_digestAt, .ref m_isGroup, .ref m_counts, .int 0, .int 0, .long 0, .int 0, .ref m_versionRow, .int 0, .long 0, .ref m_state, .ref m_names, .int 0, .ref m_keptRow, .int 0, .ref m_inSlot, .ref m_inAt, .ref m_inSize, .ref m_inDigest, .int 0]))]) [0] rfl
            have hD := hD.sub (ws' := [(mo, .inr (11, [.ref m_disk, .int (nI P), .int ((8224 : Int32) + ((26 : Int32) * (nI P))), .int (1 : Int32), .int 0, .int (-1 : Int32), .int 0, .int (0 : Int32), .ref m_tape, .int 0, .ref m_slots, .ref m_leaves, .int 0, .int (0 : Int32), .ref m_fresh, .int 0, .int 0, .int 0, .ref m_digestAt, .ref m_isGroup, .ref m_counts, .int 0, .int 0, .long 0, .int 0, .ref m_versionRow, .int 0, .long 0, .ref m_state, .ref m_names, .int 0, .ref m_keptRow, .int 0, .ref m_inSlot, .ref m_inAt, .ref m_inSize, .ref m_inDigest, .int 0]))]) [0] (by decide) rfl
            have hK := hK.sub (tys' := []) [] rfl
            exact W.iret hx hb hr (fun t ht hW => ⟨⟨_, (), rfl, rfl, by rw [ht]; exact hP, va_K.moved hW.alike hK, hD⟩, hS.F ht⟩) hS.2.2 dX9_told_147
          · skip
            exact absurd c_6 (by decide)
        · skip
          exact absurd c_5 (by decide)
      · skip
        exact absurd c_4 (by decide)
    · skip
      exact absurd (by decide) c_3

set_option maxHeartbeats 4000000 in
set_option maxRecDepth 100000 in
theorem k_X6_heightOfParent_1 (l : Launch) (dC : Nat → ClassId) (dI : Nat → Nat → Nat) (so : Nat) (w1 : Int64) (rr : Nat) (s1 : Nat) (s2 : Nat) (s3 : Nat) (s4 : Nat) (s5 : Nat) (s6 : Nat) (hf0 : ¬ lg_cmp w1 (0) = 0) : Met l yX6_heightOfParent wsX6_heightOfParent ({ frames := 1, cells := 0, slots := 0, locals := 23 }) (va_Pc [.ref so, .long w1] (fun U => va_P (dC, dI) vwCl [(so, .inr (8, [.ref rr, .ref s1, .ref s2, .ref s3, .ref s4, .ref s5, .ref s6, .int (0 : Int32), .int (0 : Int32), .int (-1 : Int32), .int (0 : Int32), .int (0 : Int32)]))] U.heap ∧ va_K (dC, dI) vwCl [] U)) (vp_Si (fun r => r = (-1 : Int32))) 0 0 (fun _ => False) := by
  refine Met.ofW (cc := cX6_heightOfParent) (maxL := 4) (ret := (some .int)) (by decide) rfl ?_
  intro p e s m args below meth c s₁ B hml hv
  obtain ⟨rfl, hP, hK⟩ := hv
  have hx := B.exec
  have hb := B.bytes
  have hr := B.returns
  have hts := atoms_spec (ws := wsX6_heightOfParent) B.pre
  have hown : s.vm.findClass RX6 = some m.cls := findClass_of_methodNamed B.named
  have hlocks := B.notSynchronized
  have hl := lv_entry ([.ref so, .long w1]) (n := 4) (Nat.le_of_ble_eq_true rfl)
  rw [lg_entry_eq]
  generalize (lg_sl ([.ref so, .long w1]) ++ List.replicate (4 - (lg_sl ([.ref so, .long w1])).length) Slot.unset).toArray = ls at hl ⊢
  have hl : lv_has ls 4 [(0, .ref so), (1, .long w1)] := hl
  refine lv_lload_n hx hb dX6_heightOfParent_0 rfl (lv_at hl 1 rfl) ?_
  refine lv_aload_n hx hb dX6_heightOfParent_1 rfl (lv_at hl 0 rfl) ?_
  refine va_get (D := (dC, dI)) (ci := 8) (v := .int (0 : Int32)) (C := RX6) (T := TX6) (N := 12) hx hb hts (by decide +kernel) hown hK hP 0 rfl rfl 10 (by decide) (hts (.fieldLink RX6 46 "BlockLog$Story" "based" "Z") (by decide +kernel)) (fun _ h9 => h9) rfl dX6_heightOfParent_2 ?_
  refine lv_if_eq (tgt := 17) hx hb dX6_heightOfParent_5 (by decide) (fun c_1 => ?_) (fun c_1 => ?_)
  · skip
    refine lv_lconst (v := 0) hx hb dX6_heightOfParent_17 (by decide) ?_
    refine W.lcmp hx hb dX6_heightOfParent_18 ?_
    refine lv_if_ne (tgt := 27) hx hb dX6_heightOfParent_19 (by decide) (fun c_2 => ?_) (fun c_2 => ?_)
    · skip
      refine lv_aload_n hx hb dX6_heightOfParent_27 rfl (lv_at hl 0 rfl) ?_
      refine lv_lload_n hx hb dX6_heightOfParent_28 rfl (lv_at hl 1 rfl) ?_
      have hPc := hP.sub (ws' := [(so, .inr (8, [.ref rr, .ref s1, .ref s2, .ref s3, .ref s4, .ref s5, .ref s6, .int (0 : Int32), .int (0 : Int32), .int (-1 : Int32), .int (0 : Int32), .int (0 : Int32)]))]) [0] rfl
      have hKc := hK.sub (tys' := []) [] rfl
      refine vp_callSi (va_Run.run (va_runV (As := [.long w1]) (rest := []) ⟨hx, hb, hml, hown, hts⟩ (k_X6_blockRow_2 l dC dI so w1 rr s1 s2 s3 s4 s5 s6) (cwV 1 hts gX6_heightOfParent_X6_blockRow rfl rfl rfl (by decide +kernel) ⟨Nat.le_of_ble_eq_true rfl, Nat.le_of_ble_eq_true rfl⟩) ⟨fun a U g mk q => by obtain ⟨q0, qP, qK⟩ := q; exact ⟨q0, qP, va_K.moved (u := U) (U := U.calling g mk a) (Vm.Alike.refl U.vm) qK⟩, va_recv hK hP (ci := 8) (q := (RX6, TX6, 12)) rfl (q0 := 0) rfl, fun U hU hW => ⟨rfl, by rw [hU]; exact hPc, va_K.moved hW.alike hKc⟩⟩ rfl rfl hl.1 rfl (lv_room (Nat.le_of_ble_eq_true rfl)) dX6_heightOfParent_29 ⟨Nat.le_of_ble_eq_true rfl, Nat.le_of_ble_eq_true rfl⟩)) (fun r_3 er_3 => ?_)
      subst er_3
      refine lv_istore_n (lv' := [(3, .int (-1 : Int32)), (0, .ref so), (1, .long w1)]) hx hb dX6_heightOfParent_32 rfl hl (by decide) rfl (fun ls hl => ?_)
      refine lv_iload_n hx hb dX6_heightOfParent_33 rfl (lv_at hl 0 rfl) ?_
      refine lv_iconst (v := (-1)) hx hb dX6_heightOfParent_34 (by decide) ?_
      refine lv_icmp_ne (tgt := 42) hx hb dX6_heightOfParent_35 (by decide) (fun c_4 => ?_) (fun c_4 => ?_)
      · skip
        exact absurd (by decide) c_4
      · skip
        refine lv_iconst (v := (-1)) hx hb dX6_heightOfParent_38 (by decide) ?_
        refine lv_goto (tgt := 50) hx hb dX6_heightOfParent_39 (by decide) ?_
        exact W.iret hx hb hr (fun t ht hW => ⟨_, rfl, rfl, ht⟩) (fun q h => by cases h) dX6_heightOfParent_50
    · skip
      exact absurd c_2 hf0
  · skip
    exact absurd (by decide) c_1

set_option maxHeartbeats 4000000 in
set_option maxRecDepth 100000 in
theorem k_X8_block_3 (l : Launch) (dC : Nat → ClassId) (dI : Nat → Nat → Nat) (x : Nat) (p0 : Int32) (w1 : Int64) (rr : Nat) (ds : Nat) (so : Nat) (tp : Nat) (pu : Nat) (sn : Nat) (im : Nat) (cs : Nat) (cl : Nat) (ri : Nat) (pg : Int32) (dl : Nat) (dr : Nat) (dt : Nat) (s1 : Nat) (s2 : Nat) (s3 : Nat) (s4 : Nat) (s5 : Nat) (s6 : Nat) (hf0 : 1 ≤ p0) (hf1 : p0 ≤ 1000000) (hf2 : 0 ≤ lg_cmp w1 (0)) (hf3 : ¬ lg_cmp w1 (0) = 0) : Met l yX8_block wsX8_block ({ frames := 2, cells := 0, slots := 0, locals := 46 }) (va_Pc [.ref x, .int p0, .long w1] (fun U => va_P (dC, dI) vwCl [(x, .inr (10, [.ref tp, .ref ds, .ref rr, .ref so, .ref pu, .ref sn, .ref im, .ref cs, .ref cl, .int (0 : Int32)])), (rr, .inr (6, [.ref ds, .ref ri, .int 0, .int 1, .int 0, .int 0])), (ds, .inr (3, [.int pg, .ref dl, .ref dr, .ref dt, .int (1 : Int32), .int (-1 : Int32), .int (0 : Int32)])), (so, .inr (8, [.ref rr, .ref s1, .ref s2, .ref s3, .ref s4, .ref s5, .ref s6, .int (0 : Int32), .int (0 : Int32), .int (-1 : Int32), .int (0 : Int32), .int (0 : Int32)]))] U.heap ∧ va_K (dC, dI) vwCl [] U ∧ gx_W U)) (vp_Si (fun r => r = (-6 : Int32))) 0 0 (fun _ => False) := by
  refine Met.ofW (cc := cX8_block) (maxL := 9) (ret := (some .int)) (by decide) rfl ?_
  intro p e s m args below meth c s₁ B hml hv
  obtain ⟨rfl, hP, hK, hG⟩ := hv
  have hx := B.exec
  have hb := B.bytes
  have hr := B.returns
  have hts := atoms_spec (ws := wsX8_block) B.pre
  have hown : s.vm.findClass RX8 = some m.cls := findClass_of_methodNamed B.named
  have hlocks := B.notSynchronized
  have hl := lv_entry ([.ref x, .int p0, .long w1]) (n := 9) (Nat.le_of_ble_eq_true rfl)
  rw [lg_entry_eq]
  generalize (lg_sl ([.ref x, .int p0, .long w1]) ++ List.replicate (9 - (lg_sl ([.ref x, .int p0, .long w1])).length) Slot.unset).toArray = ls at hl ⊢
  have hl : lv_has ls 9 [(0, .ref x), (1, .int p0), (2, .long w1)] := hl
  refine lv_aload_n hx hb dX8_block_0 rfl (lv_at hl 0 rfl) ?_
  have hPc := hP.sub (ws' := [(x, .inr (10, [.ref tp, .ref ds, .ref rr, .ref so, .ref pu, .ref sn, .ref im, .ref cs, .ref cl, .int (0 : Int32)])), (ds, .inr (3, [.int pg, .ref dl, .ref dr, .ref dt, .int (1 : Int32), .int (-1 : Int32), .int (0 : Int32)]))]) [0, 2] rfl
  have hKc := hK.sub (tys' := []) [] rfl
  refine va_csv (va_Run.run (va_runV (As := []) (rest := []) ⟨hx, hb, hml, hown, hts⟩ (k_X8_demandPower_1 l dC dI x ds tp rr so pu sn im cs cl pg dl dr dt) (cwV 0 hts gX8_block_X8_demandPower rfl rfl rfl (by decide +kernel) ⟨Nat.le_of_ble_eq_true rfl, Nat.le_of_ble_eq_true rfl⟩) ⟨fun a U g mk q => by obtain ⟨q0, qP, qK, qG⟩ := q; exact ⟨q0, qP, va_K.moved (u := U) (U := U.calling g mk a) (Vm.Alike.refl U.vm) qK, qG.same rfl⟩, va_recv hK hP (ci := 10) (q := (RX8, TX8, 10)) rfl (q0 := 0) rfl, fun U hU hW => ⟨rfl, by rw [hU]; exact hPc, va_K.moved hW.alike hKc, hG.warm hW⟩⟩ rfl rfl hl.1 rfl (lv_room (Nat.le_of_ble_eq_true rfl)) dX8_block_1 ⟨Nat.le_of_ble_eq_true rfl, Nat.le_of_ble_eq_true rfl⟩)) (fun _ => ?_)
  refine lv_iload_n hx hb dX8_block_4 rfl (lv_at hl 1 rfl) ?_
  have hPc := hP.sub (ws' := []) [] rfl
  have hKc := hK.sub (tys' := []) [] rfl
  refine va_csv (va_Run.run (va_runS (As := [.int p0]) (rest := []) ⟨hx, hb, hml, hown, hts⟩ (k_X8_demandHeight_3 l dC dI p0 hf0 hf1) (va_cwS 1 hts gX8_block_X8_demandHeight rfl rfl rfl (by decide +kernel) ⟨Nat.le_of_ble_eq_true rfl, Nat.le_of_ble_eq_true rfl⟩) ⟨fun a U g mk q => by obtain ⟨q0, qP, qK⟩ := q; exact ⟨q0, qP, va_K.moved (u := U) (U := U.calling g mk a) (Vm.Alike.refl U.vm) qK⟩, fun U hU hW => ⟨rfl, by rw [hU]; exact hPc, va_K.moved hW.alike hKc⟩⟩ rfl rfl hl.1 rfl (lv_room (Nat.le_of_ble_eq_true rfl)) dX8_block_5 ⟨Nat.le_of_ble_eq_true rfl, Nat.le_of_ble_eq_true rfl⟩)) (fun _ => ?_)
  refine lv_aload_n hx hb dX8_block_8 rfl (lv_at hl 0 rfl) ?_
  refine va_get (D := (dC, dI)) (ci := 10) (v := .ref rr) (C := RX8) (T := TX8) (N := 10) hx hb hts (by decide +kernel) hown hK hP 0 rfl rfl 2 (by decide) (hts (.fieldLink RX8 31 "BlockLog" "rows" "LBlockLog$Rows;") (by decide +kernel)) (fun _ h9 => h9) rfl dX8_block_9 ?_
  have hPc := hP.sub (ws' := [(rr, .inr (6, [.ref ds, .ref ri, .int 0, .int 1, .int 0, .int 0]))]) [1] rfl
  have hKc := hK.sub (tys' := []) [] rfl
  refine vp_callSi (va_Run.run (va_runV (As := []) (rest := []) ⟨hx, hb, hml, hown, hts⟩ (k_X4_inNeed_1 l dC dI rr ds ri) (cwV 0 hts gX8_block_X4_inNeed rfl rfl rfl (by decide +kernel) ⟨Nat.le_of_ble_eq_true rfl, Nat.le_of_ble_eq_true rfl⟩) ⟨fun a U g mk q => by obtain ⟨q0, qP, qK⟩ := q; exact ⟨q0, qP, va_K.moved (u := U) (U := U.calling g mk a) (Vm.Alike.refl U.vm) qK⟩, va_recv hK hP (ci := 6) (q := (RX4, TX4, 6)) rfl (q0 := 1) rfl, fun U hU hW => ⟨rfl, by rw [hU]; exact hPc, va_K.moved hW.alike hKc⟩⟩ rfl rfl hl.1 rfl (lv_room (Nat.le_of_ble_eq_true rfl)) dX8_block_12 ⟨Nat.le_of_ble_eq_true rfl, Nat.le_of_ble_eq_true rfl⟩)) (fun r_3 er_3 => ?_)
  subst er_3
  refine lv_if_eq (tgt := 21) hx hb dX8_block_15 (by decide) (fun c_4 => ?_) (fun c_4 => ?_)
  · skip
    refine lv_aload_n hx hb dX8_block_21 rfl (lv_at hl 0 rfl) ?_
    refine va_get (D := (dC, dI)) (ci := 10) (v := .ref so) (C := RX8) (T := TX8) (N := 10) hx hb hts (by decide +kernel) hown hK hP 0 rfl rfl 3 (by decide) (hts (.fieldLink RX8 40 "BlockLog" "story" "LBlockLog$Story;") (by decide +kernel)) (fun _ h9 => h9) rfl dX8_block_22 ?_
    refine lv_lload_n hx hb dX8_block_25 rfl (lv_at hl 2 rfl) ?_
    have hPc := hP.sub (ws' := []) [] rfl
    have hKc := hK.sub (tys' := []) [] rfl
    refine vp_callSl (va_Run.run (va_runV (As := [.long w1]) (rest := []) ⟨hx, hb, hml, hown, hts⟩ (k_X6_meant_2 l dC dI so w1 hf2) (cwV 1 hts gX8_block_X6_meant rfl rfl rfl (by decide +kernel) ⟨Nat.le_of_ble_eq_true rfl, Nat.le_of_ble_eq_true rfl⟩) ⟨fun a U g mk q => by obtain ⟨q0, qP, qK⟩ := q; exact ⟨q0, qP, va_K.moved (u := U) (U := U.calling g mk a) (Vm.Alike.refl U.vm) qK⟩, va_recv hK hP (ci := 8) (q := (RX6, TX6, 12)) rfl (q0 := 3) rfl, fun U hU hW => ⟨rfl, by rw [hU]; exact hPc, va_K.moved hW.alike hKc⟩⟩ rfl rfl hl.1 rfl (lv_room (Nat.le_of_ble_eq_true rfl)) dX8_block_26 ⟨Nat.le_of_ble_eq_true rfl, Nat.le_of_ble_eq_true rfl⟩)) (fun r_5 er_5 => ?_)
    replace er_5 := er_5.symm
    subst er_5
    refine lv_lstore (lv' := [(4, .long w1), (0, .ref x), (1, .int p0), (2, .long w1)]) hx hb dX8_block_29 hl (by decide) rfl (fun ls hl => ?_)
    refine lv_aload_n hx hb dX8_block_31 rfl (lv_at hl 1 rfl) ?_
    refine va_get (D := (dC, dI)) (ci := 10) (v := .ref so) (C := RX8) (T := TX8) (N := 10) hx hb hts (by decide +kernel) hown hK hP 0 rfl rfl 3 (by decide) (hts (.fieldLink RX8 40 "BlockLog" "story" "LBlockLog$Story;") (by decide +kernel)) (fun _ h9 => h9) rfl dX8_block_32 ?_
    refine lv_lload hx hb dX8_block_35 (lv_at hl 0 rfl) ?_
    have hPc := hP.sub (ws' := [(so, .inr (8, [.ref rr, .ref s1, .ref s2, .ref s3, .ref s4, .ref s5, .ref s6, .int (0 : Int32), .int (0 : Int32), .int (-1 : Int32), .int (0 : Int32), .int (0 : Int32)]))]) [3] rfl
    have hKc := hK.sub (tys' := []) [] rfl
    refine vp_callSi (va_Run.run (va_runV (As := [.long w1]) (rest := []) ⟨hx, hb, hml, hown, hts⟩ (k_X6_heightOfParent_1 l dC dI so w1 rr s1 s2 s3 s4 s5 s6 hf3) (cwV 1 hts gX8_block_X6_heightOfParent rfl rfl rfl (by decide +kernel) ⟨Nat.le_of_ble_eq_true rfl, Nat.le_of_ble_eq_true rfl⟩) ⟨fun a U g mk q => by obtain ⟨q0, qP, qK⟩ := q; exact ⟨q0, qP, va_K.moved (u := U) (U := U.calling g mk a) (Vm.Alike.refl U.vm) qK⟩, va_recv hK hP (ci := 8) (q := (RX6, TX6, 12)) rfl (q0 := 3) rfl, fun U hU hW => ⟨rfl, by rw [hU]; exact hPc, va_K.moved hW.alike hKc⟩⟩ rfl rfl hl.1 rfl (lv_room (Nat.le_of_ble_eq_true rfl)) dX8_block_37 ⟨Nat.le_of_ble_eq_true rfl, Nat.le_of_ble_eq_true rfl⟩)) (fun r_6 er_6 => ?_)
    subst er_6
    refine lv_istore (lv' := [(6, .int (-1 : Int32)), (4, .long w1), (0, .ref x), (1, .int p0), (2, .long w1)]) hx hb dX8_block_40 hl (by decide) rfl (fun ls hl => ?_)
    refine lv_iload hx hb dX8_block_42 (lv_at hl 0 rfl) ?_
    refine lv_iconst (v := (-1)) hx hb dX8_block_44 (by decide) ?_
    refine lv_icmp_ne (tgt := 51) hx hb dX8_block_45 (by decide) (fun c_7 => ?_) (fun c_7 => ?_)
    · skip
      exact absurd (by decide) c_7
    · skip
      refine lv_bipush (v := (-6)) hx hb dX8_block_48 (by decide) ?_
      exact W.iret hx hb hr (fun t ht hW => ⟨_, rfl, rfl, ht⟩) (fun q h => by cases h) dX8_block_50
  · skip
    exact absurd (by decide) c_4

set_option maxHeartbeats 4000000 in
set_option maxRecDepth 100000 in
theorem k_L_block_3 (l : Launch) (dC : Nat → ClassId) (dI : Nat → Nat → Nat) (x : Nat) (p0 : Int32) (w1 : Int64) (ho : Nat) (rr : Nat) (ds : Nat) (so : Nat) (tp : Nat) (pu : Nat) (sn : Nat) (im : Nat) (cs : Nat) (cl : Nat) (ri : Nat) (pg : Int32) (dl : Nat) (dr : Nat) (dt : Nat) (s1 : Nat) (s2 : Nat) (s3 : Nat) (s4 : Nat) (s5 : Nat) (s6 : Nat) (cJ : ClassId) (g1 : Nat → Int64) (sz : Nat) (hf0 : 1 ≤ p0) (hf1 : p0 ≤ 1000000) (hf2 : 0 ≤ lg_cmp w1 (0)) (hf3 : ¬ lg_cmp w1 (0) = 0) : Met l yL_block wsL_block ({ frames := 3, cells := 0, slots := 0, locals := 74 }) (va_Pc [.ref x, .int p0, .long w1, .ref ho] (fun U => U.heap.size = sz ∧ va_P (dC, dI) vwCl [(x, .inr (10, [.ref tp, .ref ds, .ref rr, .ref so, .ref pu, .ref sn, .ref im, .ref cs, .ref cl, .int (0 : Int32)])), (rr, .inr (6, [.ref ds, .ref ri, .int 0, .int 1, .int 0, .int 0])), (ds, .inr (3, [.int pg, .ref dl, .ref dr, .ref dt, .int (1 : Int32), .int (-1 : Int32), .int (0 : Int32)])), (so, .inr (8, [.ref rr, .ref s1, .ref s2, .ref s3, .ref s4, .ref s5, .ref s6, .int (0 : Int32), .int (0 : Int32), .int (-1 : Int32), .int (0 : Int32), .int (0 : Int32)])), (ho, .inl (cJ, 1, .inr (.inl g1)))] U.heap ∧ va_K (dC, dI) vwCl [(cJ, .long)] U ∧ va_D (fun _ => True) [(x, .inr (10, [.ref tp, .ref ds, .ref rr, .ref so, .ref pu, .ref sn, .ref im, .ref cs, .ref cl, .int (0 : Int32)])), (rr, .inr (6, [.ref ds, .ref ri, .int 0, .int 1, .int 0, .int 0])), (ds, .inr (3, [.int pg, .ref dl, .ref dr, .ref dt, .int (1 : Int32), .int (-1 : Int32), .int (0 : Int32)])), (so, .inr (8, [.ref rr, .ref s1, .ref s2, .ref s3, .ref s4, .ref s5, .ref s6, .int (0 : Int32), .int (0 : Int32), .int (-1 : Int32), .int (0 : Int32), .int (0 : Int32)])), (ho, .inl (cJ, 1, .inr (.inl g1)))] ∧ gx_E (va_A [(x, .inr (10, [.ref tp, .ref ds, .ref rr, .ref so, .ref pu, .ref sn, .ref im, .ref cs, .ref cl, .int (0 : Int32)])), (rr, .inr (6, [.ref ds, .ref ri, .int 0, .int 1, .int 0, .int 0])), (ds, .inr (3, [.int pg, .ref dl, .ref dr, .ref dt, .int (1 : Int32), .int (-1 : Int32), .int (0 : Int32)])), (so, .inr (8, [.ref rr, .ref s1, .ref s2, .ref s3, .ref s4, .ref s5, .ref s6, .int (0 : Int32), .int (0 : Int32), .int (-1 : Int32), .int (0 : Int32), .int (0 : Int32)])), (ho, .inl (cJ, 1, .inr (.inl g1)))] sz) U)) (va_Qi (fun r (_ : Unit) => r = (0 : Int32)) (fun (_ : Unit) t => va_P (dC, dI) vwCl [(ho, .inl (cJ, 1, .inr (.inl (vp_updL g1 (0 : Int32).toNatClampNeg ((-6 : Int32).toInt64)))))] t.heap ∧ va_K (dC, dI) vwCl [(cJ, .long)] t ∧ va_D (va_A [(x, .inr (10, [.ref tp, .ref ds, .ref rr, .ref so, .ref pu, .ref sn, .ref im, .ref cs, .ref cl, .int (0 : Int32)])), (rr, .inr (6, [.ref ds, .ref ri, .int 0, .int 1, .int 0, .int 0])), (ds, .inr (3, [.int pg, .ref dl, .ref dr, .ref dt, .int (1 : Int32), .int (-1 : Int32), .int (0 : Int32)])), (so, .inr (8, [.ref rr, .ref s1, .ref s2, .ref s3, .ref s4, .ref s5, .ref s6, .int (0 : Int32), .int (0 : Int32), .int (-1 : Int32), .int (0 : Int32), .int (0 : Int32)])), (ho, .inl (cJ, 1, .inr (.inl g1)))] sz) [(ho, .inl (cJ, 1, .inr (.inl (vp_updL g1 (0 : Int32).toNatClampNeg ((-6 : Int32).toInt64)))))]) (va_A [(x, .inr (10, [.ref tp, .ref ds, .ref rr, .ref so, .ref pu, .ref sn, .ref im, .ref cs, .ref cl, .int (0 : Int32)])), (rr, .inr (6, [.ref ds, .ref ri, .int 0, .int 1, .int 0, .int 0])), (ds, .inr (3, [.int pg, .ref dl, .ref dr, .ref dt, .int (1 : Int32), .int (-1 : Int32), .int (0 : Int32)])), (so, .inr (8, [.ref rr, .ref s1, .ref s2, .ref s3, .ref s4, .ref s5, .ref s6, .int (0 : Int32), .int (0 : Int32), .int (-1 : Int32), .int (0 : Int32), .int (0 : Int32)])), (ho, .inl (cJ, 1, .inr (.inl g1)))] sz)) 0 0 (va_A [(x, .inr (10, [.ref tp, .ref ds, .ref rr, .ref so, .ref pu, .ref sn, .ref im, .ref cs, .ref cl, .int (0 : Int32)])), (rr, .inr (6, [.ref ds, .ref ri, .int 0, .int 1, .int 0, .int 0])), (ds, .inr (3, [.int pg, .ref dl, .ref dr, .ref dt, .int (1 : Int32), .int (-1 : Int32), .int (0 : Int32)])), (so, .inr (8, [.ref rr, .ref s1, .ref s2, .ref s3, .ref s4, .ref s5, .ref s6, .int (0 : Int32), .int (0 : Int32), .int (-1 : Int32), .int (0 : Int32), .int (0 : Int32)])), (ho, .inl (cJ, 1, .inr (.inl g1)))] sz) := by
  refine va_MetW (cc := cL_block) (maxL := 6) (ret := (some .int)) (hh := [(0, 11, 14, 25), (0, 11, 18, 13)]) (by decide) rfl ?_
  intro p e s m args below meth c s₁ B hml hv
  obtain ⟨rfl, hsz, hP, hK, hD0, hG⟩ := hv
  have hx := B.exec
  have hb := B.bytes
  have hr := B.returns
  have hts := atoms_spec (ws := wsL_block) B.pre
  have hown : s.vm.findClass RL = some m.cls := findClass_of_methodNamed B.named
  have hlocks := B.notSynchronized
  have htab := vx_table (x := yL_block) B (hts (.codeWith yL_block cL_block 6 (some .int) [(0, 11, 14, 25), (0, 11, 18, 13)]) List.mem_cons_self)
  subst hsz
  have hD := hD0.self (sz := s.heap.size)
  generalize hAe : va_A [(x, .inr (10, [.ref tp, .ref ds, .ref rr, .ref so, .ref pu, .ref sn, .ref im, .ref cs, .ref cl, .int (0 : Int32)])), (rr, .inr (6, [.ref ds, .ref ri, .int 0, .int 1, .int 0, .int 0])), (ds, .inr (3, [.int pg, .ref dl, .ref dr, .ref dt, .int (1 : Int32), .int (-1 : Int32), .int (0 : Int32)])), (so, .inr (8, [.ref rr, .ref s1, .ref s2, .ref s3, .ref s4, .ref s5, .ref s6, .int (0 : Int32), .int (0 : Int32), .int (-1 : Int32), .int (0 : Int32), .int (0 : Int32)])), (ho, .inl (cJ, 1, .inr (.inl g1)))] s.heap.size = A at hD hG ⊢
  have hA : ∀ q : Nat, s.heap.size ≤ q → A q := fun q h => by rw [← hAe]; exact Or.inr h
  have hS : va_S A s.heap s.heap [] := va_S.rf
  have hl := lv_entry ([.ref x, .int p0, .long w1, .ref ho]) (n := 6) (Nat.le_of_ble_eq_true rfl)
  rw [lg_entry_eq]
  generalize (lg_sl ([.ref x, .int p0, .long w1, .ref ho]) ++ List.replicate (6 - (lg_sl ([.ref x, .int p0, .long w1, .ref ho])).length) Slot.unset).toArray = ls at hl ⊢
  have hl : lv_has ls 6 [(0, .ref x), (1, .int p0), (2, .long w1), (4, .ref ho)] := hl
  refine lv_aload hx hb dL_block_0 (lv_at hl 3 rfl) ?_
  refine lv_iconst (v := 0) hx hb dL_block_2 (by decide) ?_
  refine lv_aload_n hx hb dL_block_3 rfl (lv_at hl 0 rfl) ?_
  refine lv_iload_n hx hb dL_block_4 rfl (lv_at hl 1 rfl) ?_
  refine lv_lload_n hx hb dL_block_5 rfl (lv_at hl 2 rfl) ?_
  have hPc := hP.sub (ws' := [(x, .inr (10, [.ref tp, .ref ds, .ref rr, .ref so, .ref pu, .ref sn, .ref im, .ref cs, .ref cl, .int (0 : Int32)])), (rr, .inr (6, [.ref ds, .ref ri, .int 0, .int 1, .int 0, .int 0])), (ds, .inr (3, [.int pg, .ref dl, .ref dr, .ref dt, .int (1 : Int32), .int (-1 : Int32), .int (0 : Int32)])), (so, .inr (8, [.ref rr, .ref s1, .ref s2, .ref s3, .ref s4, .ref s5, .ref s6, .int (0 : Int32), .int (0 : Int32), .int (-1 : Int32), .int (0 : Int32), .int (0 : Int32)]))]) [0, 1, 2, 3] rfl
  have hKc := hK.sub (tys' := []) [] rfl
  refine vp_callSi (va_Run.run (va_runV (As := [.int p0, .long w1]) (rest := [.int (0 : Int32), .ref ho]) ⟨hx, hb, hml, hown, hts⟩ (k_X8_block_3 l dC dI x p0 w1 rr ds so tp pu sn im cs cl ri pg dl dr dt s1 s2 s3 s4 s5 s6 hf0 hf1 hf2 hf3) (cwV 2 hts gL_block_X8_block rfl rfl rfl (by decide +kernel) ⟨Nat.le_of_ble_eq_true rfl, Nat.le_of_ble_eq_true rfl⟩) ⟨fun a U g mk q => by obtain ⟨q0, qP, qK, qG⟩ := q; exact ⟨q0, qP, va_K.moved (u := U) (U := U.calling g mk a) (Vm.Alike.refl U.vm) qK, qG.same rfl⟩, va_recv hK hP (ci := 10) (q := (RX8, TX8, 10)) rfl (q0 := 0) rfl, fun U hU hW => ⟨rfl, by rw [hU]; exact hPc, va_K.moved hW.alike hKc, hG.1.warm hW⟩⟩ rfl rfl hl.1 rfl (lv_room (Nat.le_of_ble_eq_true rfl)) dL_block_6 ⟨Nat.le_of_ble_eq_true rfl, Nat.le_of_ble_eq_true rfl⟩)) (fun r_1 er_1 => ?_)
  subst er_1
  refine lv_i2l hx hb dL_block_9 rfl ?_
  refine va_last hx hb hK hP hD hS 4 0 rfl rfl (by unfold vp_in; decide +kernel) dL_block_10 (fun H locs hP hD hS => ?_)
  have hP : va_P (dC, dI) vwCl [(x, .inr (10, [.ref tp, .ref ds, .ref rr, .ref so, .ref pu, .ref sn, .ref im, .ref cs, .ref cl, .int (0 : Int32)])), (rr, .inr (6, [.ref ds, .ref ri, .int 0, .int 1, .int 0, .int 0])), (ds, .inr (3, [.int pg, .ref dl, .ref dr, .ref dt, .int (1 : Int32), .int (-1 : Int32), .int (0 : Int32)])), (so, .inr (8, [.ref rr, .ref s1, .ref s2, .ref s3, .ref s4, .ref s5, .ref s6, .int (0 : Int32), .int (0 : Int32), .int (-1 : Int32), .int (0 : Int32), .int (0 : Int32)])), (ho, .inl (cJ, 1, .inr (.inl (vp_updL g1 (0 : Int32).toNatClampNeg ((-6 : Int32).toInt64)))))] H := hP
  have hD : va_D A [(x, .inr (10, [.ref tp, .ref ds, .ref rr, .ref so, .ref pu, .ref sn, .ref im, .ref cs, .ref cl, .int (0 : Int32)])), (rr, .inr (6, [.ref ds, .ref ri, .int 0, .int 1, .int 0, .int 0])), (ds, .inr (3, [.int pg, .ref dl, .ref dr, .ref dt, .int (1 : Int32), .int (-1 : Int32), .int (0 : Int32)])), (so, .inr (8, [.ref rr, .ref s1, .ref s2, .ref s3, .ref s4, .ref s5, .ref s6, .int (0 : Int32), .int (0 : Int32), .int (-1 : Int32), .int (0 : Int32), .int (0 : Int32)])), (ho, .inl (cJ, 1, .inr (.inl (vp_updL g1 (0 : Int32).toNatClampNeg ((-6 : Int32).toInt64)))))] := hD
  refine lv_goto (tgt := 22) hx hb dL_block_11 (by decide) ?_
  refine lv_iconst (v := 0) hx hb dL_block_22 (by decide) ?_
  have hP := hP.sub (ws' := [(ho, .inl (cJ, 1, .inr (.inl (vp_updL g1 (0 : Int32).toNatClampNeg ((-6 : Int32).toInt64)))))]) [4] rfl
  have hD := hD.sub (ws' := [(ho, .inl (cJ, 1, .inr (.inl (vp_updL g1 (0 : Int32).toNatClampNeg ((-6 : Int32).toInt64)))))]) [4] (by decide) rfl
  have hK := hK.sub (tys' := [(cJ, .long)]) [0] rfl
  exact W.iret hx hb hr (fun t ht hW => ⟨⟨_, (), rfl, rfl, by rw [ht]; exact hP, va_K.moved hW.alike hK, hD⟩, hS.F ht⟩) hS.2.2 dL_block_23

set_option maxHeartbeats 4000000 in
set_option maxRecDepth 100000 in
theorem k_X9_block_3 (l : Launch) (dC : Nat → ClassId) (dI : Nat → Nat → Nat) (mo : Nat) (p0 : Int32) (w1 : Int64) (m_digestAt : Nat) (m_isGroup : Nat) (m_counts : Nat) (m_disk : Nat) (P : Nat) (m_tape : Nat) (m_slots : Nat) (m_leaves : Nat) (m_fresh : Nat) (m_versionRow : Nat) (m_state : Nat) (m_names : Nat) (m_keptRow : Nat) (m_inSlot : Nat) (m_inAt : Nat) (m_inSize : Nat) (m_inDigest : Nat) (d_digestAt : ClassId) (d_isGroup : ClassId) (d_counts : ClassId) (sz : Nat) (hf0 : 1 ≤ p0) (hf1 : p0 ≤ 1000000) (hf2 : 0 ≤ lg_cmp w1 (-128)) (hf3 : 0 < lg_cmp w1 (-1)) (hf4 : ¬ lg_cmp w1 (0) = 0) : Met l yX9_block wsX9_block ({ frames := 3, cells := 0, slots := 0, locals := 65 }) (va_Pc [.ref mo, .int p0, .long w1] (fun U => U.heap.size = sz ∧ va_P (dC, dI) vwCl [(mo, .inr (11, [.ref m_disk, .int (nI P), .int ((8224 : Int32) + ((26 : Int32) * (nI P))), .int (1 : Int32), .int 0, .int (-1 : Int32), .int 0, .int (0 : Int32), .ref m_tape, .int 0, .ref m_slots, .ref m_leaves, .int 0, .int 0, .ref m_fresh, .int 0, .int 0, .int 0, .ref m_digestAt, .ref m_isGroup, .ref m_counts, .int 0, .int 0, .long 0, .int 0, .ref m_versionRow, .int 0, .long 0, .ref m_state, .ref m_names, .int 0, .ref m_keptRow, .int 0, .ref m_inSlot, .ref m_inAt, .ref m_inSize, .ref m_inDigest, .int 0])), (m_digestAt, .inl (d_digestAt, 128, .inr (.inl (fun _ => 0)))), (m_isGroup, .inl (d_isGroup, 128, .inl (fun _ => 0))), (m_counts, .inl (d_counts, 128, .inl (fun _ => 0)))] U.heap ∧ va_K (dC, dI) vwCl [(d_digestAt, .long), (d_isGroup, .boolean), (d_counts, .boolean)] U ∧ va_D (fun _ => True) [(mo, .inr (11, [.ref m_disk, .int (nI P), .int ((8224 : Int32) + ((26 : Int32) * (nI P))), .int (1 : Int32), .int 0, .int (-1 : Int32), .int 0, .int (0 : Int32), .ref m_tape, .int 0, .ref m_slots, .ref m_leaves, .int 0, .int 0, .ref m_fresh, .int 0, .int 0, .int 0, .ref m_digestAt, .ref m_isGroup, .ref m_counts, .int 0, .int 0, .long 0, .int 0, .ref m_versionRow, .int 0, .long 0, .ref m_state, .ref m_names, .int 0, .ref m_keptRow, .int 0, .ref m_inSlot, .ref m_inAt, .ref m_inSize, .ref m_inDigest, .int 0])), (m_digestAt, .inl (d_digestAt, 128, .inr (.inl (fun _ => 0)))), (m_isGroup, .inl (d_isGroup, 128, .inl (fun _ => 0))), (m_counts, .inl (d_counts, 128, .inl (fun _ => 0)))])) (va_Qi (fun r (_ : Unit) => r = (-6 : Int32)) (fun (_ : Unit) t => va_P (dC, dI) vwCl [(mo, .inr (11, [.ref m_disk, .int (nI P), .int ((8224 : Int32) + ((26 : Int32) * (nI P))), .int (1 : Int32), .int 0, .int (-1 : Int32), .int 0, .int (0 : Int32), .ref m_tape, .int 0, .ref m_slots, .ref m_leaves, .int 0, .int 0, .ref m_fresh, .int 0, .int (0 : Int32), .int (0 : Int32), .ref m_digestAt, .ref m_isGroup, .ref m_counts, .int (-1 : Int32), .int (0 : Int32), .long (0 : Int64), .int (0 : Int32), .ref m_versionRow, .int (0 : Int32), .long (0 : Int64), .ref m_state, .ref m_names, .int 0, .ref m_keptRow, .int 0, .ref m_inSlot, .ref m_inAt, .ref m_inSize, .ref m_inDigest, .int 0]))] t.heap ∧ va_K (dC, dI) vwCl [(d_digestAt, .long), (d_isGroup, .boolean), (d_counts, .boolean)] t ∧ va_D (va_A [(mo, .inr (11, [.ref m_disk, .int (nI P), .int ((8224 : Int32) + ((26 : Int32) * (nI P))), .int (1 : Int32), .int 0, .int (-1 : Int32), .int 0, .int (0 : Int32), .ref m_tape, .int 0, .ref m_slots, .ref m_leaves, .int 0, .int 0, .ref m_fresh, .int 0, .int 0, .int 0, .ref m_digestAt, .ref m_isGroup, .ref m_counts, .int 0, .int 0, .long 0, .int 0, .ref m_versionRow, .int 0, .long 0, .ref m_state, .ref m_names, .int 0, .ref m_keptRow, .int 0, .ref m_inSlot, .ref m_inAt, .ref m_inSize, .ref m_inDigest, .int 0])), (m_digestAt, .inl (d_digestAt, 128, .inr (.inl (fun _ => 0)))), (m_isGroup, .inl (d_isGroup, 128, .inl (fun _ => 0))), (m_counts, .inl (d_counts, 128, .inl (fun _ => 0)))] sz) [(mo, .inr (11, [.ref m_disk, .int (nI P), .int ((8224 : Int32) + ((26 : Int32) * (nI P))), .int (1 : Int32), .int 0, .int (-1 : Int32), .int 0, .int (0 : Int32), .ref m_tape, .int 0, .ref m_slots, .ref m_leaves, .int 0, .int 0, .ref m_fresh, .int 0, .int (0 : Int32), .int (0 : Int32), .ref m_digestAt, .ref m_isGroup, .ref m_counts, .int (-1 : Int32), .int (0 : Int32), .long (0 : Int64), .int (0 : Int32), .ref m_versionRow, .int (0 : Int32), .long (0 : Int64), .ref m_state, .ref m_names, .int 0, .ref m_keptRow, .int 0, .ref m_inSlot, .ref m_inAt, .ref m_inSize, .ref m_inDigest, .int 0]))]) (va_A [(mo, .inr (11, [.ref m_disk, .int (nI P), .int ((8224 : Int32) + ((26 : Int32) * (nI P))), .int (1 : Int32), .int 0, .int (-1 : Int32), .int 0, .int (0 : Int32), .ref m_tape, .int 0, .ref m_slots, .ref m_leaves, .int 0, .int 0, .ref m_fresh, .int 0, .int 0, .int 0, .ref m_digestAt, .ref m_isGroup, .ref m_counts, .int 0, .int 0, .long 0, .int 0, .ref m_versionRow, .int 0, .long 0, .ref m_state, .ref m_names, .int 0, .ref m_keptRow, .int 0, .ref m_inSlot, .ref m_inAt, .ref m_inSize, .ref m_inDigest, .int 0])), (m_digestAt, .inl (d_digestAt, 128, .inr (.inl (fun _ => 0)))), (m_isGroup, .inl (d_isGroup, 128, .inl (fun _ => 0))), (m_counts, .inl (d_counts, 128, .inl (fun _ => 0)))] sz)) 0 0 (va_A [(mo, .inr (11, [.ref m_disk, .int (nI P), .int ((8224 : Int32) + ((26 : Int32) * (nI P))), .int (1 : Int32), .int 0, .int (-1 : Int32), .int 0, .int (0 : Int32), .ref m_tape, .int 0, .ref m_slots, .ref m_leaves, .int 0, .int 0, .ref m_fresh, .int 0, .int 0, .int 0, .ref m_digestAt, .ref m_isGroup, .ref m_counts, .int 0, .int 0, .long 0, .int 0, .ref m_versionRow, .int 0, .long 0, .ref m_state, .ref m_names, .int 0, .ref m_keptRow, .int 0, .ref m_inSlot, .ref m_inAt, .ref m_inSize, .ref m_inDigest, .int 0])), (m_digestAt, .inl (d_digestAt, 128, .inr (.inl (fun _ => 0)))), (m_isGroup, .inl (d_isGroup, 128, .inl (fun _ => 0))), (m_counts, .inl (d_counts, 128, .inl (fun _ => 0)))] sz) := by
  refine Met.ofW (cc := cX9_block) (maxL := 15) (ret := (some .int)) (by decide) rfl ?_
  intro p e s m args below meth c s₁ B hml hv
  obtain ⟨rfl, hsz, hP, hK, hD0⟩ := hv
  have hx := B.exec
  have hb := B.bytes
  have hr := B.returns
  have hts := atoms_spec (ws := wsX9_block) B.pre
  have hown : s.vm.findClass RX9 = some m.cls := findClass_of_methodNamed B.named
  have hlocks := B.notSynchronized
  subst hsz
  have hD := hD0.self (sz := s.heap.size)
  generalize hAe : va_A [(mo, .inr (11, [.ref m_disk, .int (nI P), .int ((8224 : Int32) + ((26 : Int32) * (nI P))), .int (1 : Int32), .int 0, .int (-1 : Int32), .int 0, .int (0 : Int32), .ref m_tape, .int 0, .ref m_slots, .ref m_leaves, .int 0, .int 0, .ref m_fresh, .int 0, .int 0, .int 0, .ref m_digestAt, .ref m_isGroup, .ref m_counts, .int 0, .int 0, .long 0, .int 0, .ref m_versionRow, .int 0, .long 0, .ref m_state, .ref m_names, .int 0, .ref m_keptRow, .int 0, .ref m_inSlot, .ref m_inAt, .ref m_inSize, .ref m_inDigest, .int 0])), (m_digestAt, .inl (d_digestAt, 128, .inr (.inl (fun _ => 0)))), (m_isGroup, .inl (d_isGroup, 128, .inl (fun _ => 0))), (m_counts, .inl (d_counts, 128, .inl (fun _ => 0)))] s.heap.size = A at hD ⊢
  have hA : ∀ q : Nat, s.heap.size ≤ q → A q := fun q h => by rw [← hAe]; exact Or.inr h
  have hS : va_S A s.heap s.heap [] := va_S.rf
  have hl := lv_entry ([.ref mo, .int p0, .long w1]) (n := 15) (Nat.le_of_ble_eq_true rfl)
  rw [lg_entry_eq]
  generalize (lg_sl ([.ref mo, .int p0, .long w1]) ++ List.replicate (15 - (lg_sl ([.ref mo, .int p0, .long w1])).length) Slot.unset).toArray = ls at hl ⊢
  have hl : lv_has ls 15 [(0, .ref mo), (1, .int p0), (2, .long w1)] := hl
  refine lv_aload_n hx hb dX9_block_0 rfl (lv_at hl 0 rfl) ?_
  refine lv_aload_n hx hb dX9_block_1 rfl (lv_at hl 0 rfl) ?_
  refine va_get (D := (dC, dI)) (ci := 11) (v := .int (1 : Int32)) (C := RX9) (T := TX9) (N := 38) hx hb hts (by decide +kernel) hown hK hP 0 rfl rfl 3 (by decide) (hts (.fieldLink RX9 72 "BlockLogModel" "on" "Z") (by decide +kernel)) (fun _ h9 => h9) rfl dX9_block_2 ?_
  refine lv_if_ne (tgt := 12) hx hb dX9_block_5 (by decide) (fun c_1 => ?_) (fun c_1 => ?_)
  · skip
    refine lv_iload_n hx hb dX9_block_12 rfl (lv_at hl 1 rfl) ?_
    refine lv_iconst (v := 1) hx hb dX9_block_13 (by decide) ?_
    refine lv_ldc hx hb hown (hts (.constant RX9 208 (1000000)) (by decide +kernel)) dX9_block_14 ?_
    have hPc := hP.sub (ws' := []) [] rfl
    have hKc := hK.sub (tys' := []) [] rfl
    refine vp_callSi (va_Run.run (va_runS (As := [.int p0, .int (1 : Int32), .int (1000000 : Int32)]) (rest := [.ref mo]) ⟨hx, hb, hml, hown, hts⟩ (k_X9_within_3 l dC dI p0 (1 : Int32) (1000000 : Int32) hf0 hf1) (va_cwS 3 hts gX9_block_X9_within rfl rfl rfl (by decide +kernel) ⟨Nat.le_of_ble_eq_true rfl, Nat.le_of_ble_eq_true rfl⟩) ⟨fun a U g mk q => by obtain ⟨q0, qP, qK⟩ := q; exact ⟨q0, qP, va_K.moved (u := U) (U := U.calling g mk a) (Vm.Alike.refl U.vm) qK⟩, fun U hU hW => ⟨rfl, by rw [hU]; exact hPc, va_K.moved hW.alike hKc⟩⟩ rfl rfl hl.1 rfl (lv_room (Nat.le_of_ble_eq_true rfl)) dX9_block_16 ⟨Nat.le_of_ble_eq_true rfl, Nat.le_of_ble_eq_true rfl⟩)) (fun r_2 er_2 => ?_)
    subst er_2
    refine lv_if_ne (tgt := 26) hx hb dX9_block_19 (by decide) (fun c_3 => ?_) (fun c_3 => ?_)
    · skip
      refine lv_iconst (v := 0) hx hb dX9_block_26 (by decide) ?_
      refine va_put (D := (dC, dI)) (ci := 11) (v := .int (0 : Int32)) (ty := .int) (C := RX9) (T := TX9) (N := 38) hx hb hts (by decide +kernel) tyX9 tyX9_ok nmX9 hown hK hP hD hS 0 rfl rfl 13 (by decide) (hts (.fieldLink RX9 91 "BlockLogModel" "thrown" "I") (by decide +kernel)) (fun _ h9 => h9) rfl (by decide +kernel) rfl rfl (Nat.le_of_ble_eq_true rfl) dX9_block_27 (fun H locs hP hD hS => ?_)
      have hP : va_P (dC, dI) vwCl [(mo, .inr (11, [.ref m_disk, .int (nI P), .int ((8224 : Int32) + ((26 : Int32) * (nI P))), .int (1 : Int32), .int 0, .int (-1 : Int32), .int 0, .int (0 : Int32), .ref m_tape, .int 0, .ref m_slots, .ref m_leaves, .int 0, .int (0 : Int32), .ref m_fresh, .int 0, .int 0, .int 0, .ref m_digestAt, .ref m_isGroup, .ref m_counts, .int 0, .int 0, .long 0, .int 0, .ref m_versionRow, .int 0, .long 0, .ref m_state, .ref m_names, .int 0, .ref m_keptRow, .int 0, .ref m_inSlot, .ref m_inAt, .ref m_inSize, .ref m_inDigest, .int 0])), (m_digestAt, .inl (d_digestAt, 128, .inr (.inl (fun _ => 0)))), (m_isGroup, .inl (d_isGroup, 128, .inl (fun _ => 0))), (m_counts, .inl (d_counts, 128, .inl (fun _ => 0)))] H := hP
      have hD : va_D A [(mo, .inr (11, [.ref m_disk, .int (nI P), .int ((8224 : Int32) + ((26 : Int32) * (nI P))), .int (1 : Int32), .int 0, .int (-1 : Int32), .int 0, .int (0 : Int32), .ref m_tape, .int 0, .ref m_slots, .ref m_leaves, .int 0, .int (0 : Int32), .ref m_fresh, .int 0, .int 0, .int 0, .ref m_digestAt, .ref m_isGroup, .ref m_counts, .int 0, .int 0, .long 0, .int 0, .ref m_versionRow, .int 0, .long 0, .ref m_state, .ref m_names, .int 0, .ref m_keptRow, .int 0, .ref m_inSlot, .ref m_inAt, .ref m_inSize, .ref m_inDigest, .int 0])), (m_digestAt, .inl (d_digestAt, 128, .inr (.inl (fun _ => 0)))), (m_isGroup, .inl (d_isGroup, 128, .inl (fun _ => 0))), (m_counts, .inl (d_counts, 128, .inl (fun _ => 0)))] := hD
      refine lv_aload_n hx hb dX9_block_30 rfl (lv_at hl 0 rfl) ?_
      refine va_get (D := (dC, dI)) (ci := 11) (v := .int (0 : Int32)) (C := RX9) (T := TX9) (N := 38) hx hb hts (by decide +kernel) hown hK hP 0 rfl rfl 13 (by decide) (hts (.fieldLink RX9 91 "BlockLogModel" "thrown" "I") (by decide +kernel)) (fun _ h9 => h9) rfl dX9_block_31 ?_
      refine lv_if_le (tgt := 39) hx hb dX9_block_34 (by decide) (fun c_4 => ?_) (fun c_4 => ?_)
      · skip
        refine lv_aload_n hx hb dX9_block_39 rfl (lv_at hl 0 rfl) ?_
        have hPc := hP.sub (ws' := [(mo, .inr (11, [.ref m_disk, .int (nI P), .int ((8224 : Int32) + ((26 : Int32) * (nI P))), .int (1 : Int32), .int 0, .int (-1 : Int32), .int 0, .int (0 : Int32), .ref m_tape, .int 0, .ref m_slots, .ref m_leaves, .int 0, .int (0 : Int32), .ref m_fresh, .int 0, .int 0, .int 0, .ref m_digestAt, .ref m_isGroup, .ref m_counts, .int 0, .int 0, .long 0, .int 0, .ref m_versionRow, .int 0, .long 0, .ref m_state, .ref m_names, .int 0, .ref m_keptRow, .int 0, .ref m_inSlot, .ref m_inAt, .ref m_inSize, .ref m_inDigest, .int 0])), (m_digestAt, .inl (d_digestAt, 128, .inr (.inl (fun _ => 0)))), (m_isGroup, .inl (d_isGroup, 128, .inl (fun _ => 0))), (m_counts, .inl (d_counts, 128, .inl (fun _ => 0)))]) [0, 1, 2, 3] rfl
        have hKc := hK.sub (tys' := [(d_digestAt, .long), (d_isGroup, .boolean), (d_counts, .boolean)]) [0, 1, 2] rfl
        have hDc := hD.sub (ws' := [(mo, .inr (11, [.ref m_disk, .int (nI P), .int ((8224 : Int32) + ((26 : Int32) * (nI P))), .int (1 : Int32), .int 0, .int (-1 : Int32), .int 0, .int (0 : Int32), .ref m_tape, .int 0, .ref m_slots, .ref m_leaves, .int 0, .int (0 : Int32), .ref m_fresh, .int 0, .int 0, .int 0, .ref m_digestAt, .ref m_isGroup, .ref m_counts, .int 0, .int 0, .long 0, .int 0, .ref m_versionRow, .int 0, .long 0, .ref m_state, .ref m_names, .int 0, .ref m_keptRow, .int 0, .ref m_inSlot, .ref m_inAt, .ref m_inSize, .ref m_inDigest, .int 0])), (m_digestAt, .inl (d_digestAt, 128, .inr (.inl (fun _ => 0)))), (m_isGroup, .inl (d_isGroup, 128, .inl (fun _ => 0))), (m_counts, .inl (d_counts, 128, .inl (fun _ => 0)))]) [0, 1, 2, 3] (by decide) rfl
        have hFc := va_free (wc := [(mo, .inr (11, [.ref m_disk, .int (nI P), .int ((8224 : Int32) + ((26 : Int32) * (nI P))), .int (1 : Int32), .int 0, .int (-1 : Int32), .int 0, .int (0 : Int32), .ref m_tape, .int 0, .ref m_slots, .ref m_leaves, .int 0, .int (0 : Int32), .ref m_fresh, .int 0, .int 0, .int 0, .ref m_digestAt, .ref m_isGroup, .ref m_counts, .int 0, .int 0, .long 0, .int 0, .ref m_versionRow, .int 0, .long 0, .ref m_state, .ref m_names, .int 0, .ref m_keptRow, .int 0, .ref m_inSlot, .ref m_inAt, .ref m_inSize, .ref m_inDigest, .int 0])), (m_digestAt, .inl (d_digestAt, 128, .inr (.inl (fun _ => 0)))), (m_isGroup, .inl (d_isGroup, 128, .inl (fun _ => 0))), (m_counts, .inl (d_counts, 128, .inl (fun _ => 0)))]) hD hS hA [0, 1, 2, 3] rfl
        refine va_callv (va_runV (As := []) (rest := []) ⟨hx, hb, hml, hown, hts⟩ (k_X9_read_1 l dC dI mo m_digestAt m_isGroup m_counts m_disk P m_tape m_slots m_leaves m_fresh m_versionRow m_state m_names m_keptRow m_inSlot m_inAt m_inSize m_inDigest d_digestAt d_isGroup d_counts _) (cwV 0 hts gX9_block_X9_read rfl rfl rfl (by decide +kernel) ⟨Nat.le_of_ble_eq_true rfl, Nat.le_of_ble_eq_true rfl⟩) ⟨fun a U g mk q => by obtain ⟨q0, q1, qP, qK, qD⟩ := q; exact ⟨q0, q1, qP, va_K.moved (u := U) (U := U.calling g mk a) (Vm.Alike.refl U.vm) qK, qD⟩, va_recv hK hP (ci := 11) (q := (RX9, TX9, 38)) rfl (q0 := 0) rfl, fun U hU hW => ⟨rfl, by rw [hU], by rw [hU]; exact hPc, va_K.moved hW.alike hKc, hDc.weaken (fun _ _ _ _ => trivial)⟩⟩ rfl rfl hl.1 rfl (lv_room (Nat.le_of_ble_eq_true rfl)) dX9_block_40 ⟨Nat.le_of_ble_eq_true rfl, Nat.le_of_ble_eq_true rfl⟩) hS (fun q _ h => hFc q h) hFc (fun u t H1 locs ht hvm er_5 hB hz1 hk1 hS => ?_)
        obtain ⟨hP1, hK1, hD1⟩ := hB
        rw [ht] at hP1
        obtain ⟨hP, hD⟩ := va_join (wr := []) (w1 := [(mo, .inr (11, [.ref m_disk, .int (nI P), .int ((8224 : Int32) + ((26 : Int32) * (nI P))), .int (1 : Int32), .int 0, .int (-1 : Int32), .int 0, .int (0 : Int32), .ref m_tape, .int 0, .ref m_slots, .ref m_leaves, .int 0, .int 0, .ref m_fresh, .int 0, .int (0 : Int32), .int (0 : Int32), .ref m_digestAt, .ref m_isGroup, .ref m_counts, .int (-1 : Int32), .int (0 : Int32), .long (0 : Int64), .int (0 : Int32), .ref m_versionRow, .int (0 : Int32), .long (0 : Int64), .ref m_state, .ref m_names, .int 0, .ref m_keptRow, .int 0, .ref m_inSlot, .ref m_inAt, .ref m_inSize, .ref m_inDigest, .int 0])), (m_digestAt, .inl (d_digestAt, 128, .inr (.inl (zr_L 128)))), (m_isGroup, .inl (d_isGroup, 128, .inl (zr_Z 128))), (m_counts, .inl (d_counts, 128, .inl (zr_Z 128)))]) hP hD [0, 1, 2, 3] [] rfl rfl (by decide) (by decide) hk1 hFc hP1 hD1
        clear hPc hDc hFc hP1 hD1 hk1 hz1
        generalize H1 = H at hP hS ⊢
        have hP : va_P (dC, dI) vwCl [(mo, .inr (11, [.ref m_disk, .int (nI P), .int ((8224 : Int32) + ((26 : Int32) * (nI P))), .int (1 : Int32), .int 0, .int (-1 : Int32), .int 0, .int (0 : Int32), .ref m_tape, .int 0, .ref m_slots, .ref m_leaves, .int 0, .int 0, .ref m_fresh, .int 0, .int (0 : Int32), .int (0 : Int32), .ref m_digestAt, .ref m_isGroup, .ref m_counts, .int (-1 : Int32), .int (0 : Int32), .long (0 : Int64), .int (0 : Int32), .ref m_versionRow, .int (0 : Int32), .long (0 : Int64), .ref m_state, .ref m_names, .int 0, .ref m_keptRow, .int 0, .ref m_inSlot, .ref m_inAt, .ref m_inSize, .ref m_inDigest, .int 0])), (m_digestAt, .inl (d_digestAt, 128, .inr (.inl (zr_L 128)))), (m_isGroup, .inl (d_isGroup, 128, .inl (zr_Z 128))), (m_counts, .inl (d_counts, 128, .inl (zr_Z 128)))] H := hP
        have hD : va_D A [(mo, .inr (11, [.ref m_disk, .int (nI P), .int ((8224 : Int32) + ((26 : Int32) * (nI P))), .int (1 : Int32), .int 0, .int (-1 : Int32), .int 0, .int (0 : Int32), .ref m_tape, .int 0, .ref m_slots, .ref m_leaves, .int 0, .int 0, .ref m_fresh, .int 0, .int (0 : Int32), .int (0 : Int32), .ref m_digestAt, .ref m_isGroup, .ref m_counts, .int (-1 : Int32), .int (0 : Int32), .long (0 : Int64), .int (0 : Int32), .ref m_versionRow, .int (0 : Int32), .long (0 : Int64), .ref m_state, .ref m_names, .int 0, .ref m_keptRow, .int 0, .ref m_inSlot, .ref m_inAt, .ref m_inSize, .ref m_inDigest, .int 0])), (m_digestAt, .inl (d_digestAt, 128, .inr (.inl (zr_L 128)))), (m_isGroup, .inl (d_isGroup, 128, .inl (zr_Z 128))), (m_counts, .inl (d_counts, 128, .inl (zr_Z 128)))] := hD
        refine lv_aload_n hx hb dX9_block_43 rfl (lv_at hl 0 rfl) ?_
        refine va_get (D := (dC, dI)) (ci := 11) (v := .int (0 : Int32)) (C := RX9) (T := TX9) (N := 38) hx hb hts (by decide +kernel) hown hK hP 0 rfl rfl 17 (by decide) (hts (.fieldLink RX9 176 "BlockLogModel" "needs" "Z") (by decide +kernel)) (fun _ h9 => h9) rfl dX9_block_44 ?_
        refine lv_if_eq (tgt := 53) hx hb dX9_block_47 (by decide) (fun c_6 => ?_) (fun c_6 => ?_)
        · skip
          refine lv_aload_n hx hb dX9_block_53 rfl (lv_at hl 0 rfl) ?_
          refine lv_lload_n hx hb dX9_block_54 rfl (lv_at hl 2 rfl) ?_
          have hPc := hP.sub (ws' := []) [] rfl
          have hKc := hK.sub (tys' := []) [] rfl
          refine vp_callSl (va_Run.run (va_runV (As := [.long w1]) (rest := []) ⟨hx, hb, hml, hown, hts⟩ (k_X9_meant_2 l dC dI mo w1 hf2 hf3) (cwV 1 hts gX9_block_X9_meant rfl rfl rfl (by decide +kernel) ⟨Nat.le_of_ble_eq_true rfl, Nat.le_of_ble_eq_true rfl⟩) ⟨fun a U g mk q => by obtain ⟨q0, qP, qK⟩ := q; exact ⟨q0, qP, va_K.moved (u := U) (U := U.calling g mk a) (Vm.Alike.refl U.vm) qK⟩, va_recv hK hP (ci := 11) (q := (RX9, TX9, 38)) rfl (q0 := 0) rfl, fun U hU hW => ⟨rfl, by rw [hU]; exact hPc, va_K.moved hW.alike hKc⟩⟩ rfl rfl hl.1 rfl (lv_room (Nat.le_of_ble_eq_true rfl)) dX9_block_55 ⟨Nat.le_of_ble_eq_true rfl, Nat.le_of_ble_eq_true rfl⟩)) (fun r_7 er_7 => ?_)
          replace er_7 := er_7.symm
          subst er_7
          refine lv_lstore (lv' := [(4, .long w1), (0, .ref mo), (1, .int p0), (2, .long w1)]) hx hb dX9_block_58 hl (by decide) rfl (fun ls hl => ?_)
          refine lv_lload hx hb dX9_block_60 (lv_at hl 0 rfl) ?_
          refine lv_lconst (v := 0) hx hb dX9_block_62 (by decide) ?_
          refine W.lcmp hx hb dX9_block_63 ?_
          refine lv_if_ne (tgt := 71) hx hb dX9_block_64 (by decide) (fun c_8 => ?_) (fun c_8 => ?_)
          · skip
            refine lv_aload_n hx hb dX9_block_71 rfl (lv_at hl 1 rfl) ?_
            refine lv_lload hx hb dX9_block_72 (lv_at hl 0 rfl) ?_
            refine lv_aload_n hx hb dX9_block_74 rfl (lv_at hl 1 rfl) ?_
            refine va_get (D := (dC, dI)) (ci := 11) (v := .int (0 : Int32)) (C := RX9) (T := TX9) (N := 38) hx hb hts (by decide +kernel) hown hK hP 0 rfl rfl 16 (by decide) (hts (.fieldLink RX9 167 "BlockLogModel" "many" "I") (by decide +kernel)) (fun _ h9 => h9) rfl dX9_block_75 ?_
            have hPc := hP.sub (ws' := []) [] rfl
            have hKc := hK.sub (tys' := []) [] rfl
            refine vp_callSi (va_Run.run (va_runV (As := [.long w1, .int (0 : Int32)]) (rest := []) ⟨hx, hb, hml, hown, hts⟩ (k_X9_blockRow_2 l dC dI mo w1) (cwV 2 hts gX9_block_X9_blockRow rfl rfl rfl (by decide +kernel) ⟨Nat.le_of_ble_eq_true rfl, Nat.le_of_ble_eq_true rfl⟩) ⟨fun a U g mk q => by obtain ⟨q0, qP, qK⟩ := q; exact ⟨q0, qP, va_K.moved (u := U) (U := U.calling g mk a) (Vm.Alike.refl U.vm) qK⟩, va_recv hK hP (ci := 11) (q := (RX9, TX9, 38)) rfl (q0 := 0) rfl, fun U hU hW => ⟨rfl, by rw [hU]; exact hPc, va_K.moved hW.alike hKc⟩⟩ rfl rfl hl.1 rfl (lv_room (Nat.le_of_ble_eq_true rfl)) dX9_block_78 ⟨Nat.le_of_ble_eq_true rfl, Nat.le_of_ble_eq_true rfl⟩)) (fun r_9 er_9 => ?_)
            subst er_9
            refine lv_istore (lv' := [(6, .int (-1 : Int32)), (4, .long w1), (0, .ref mo), (1, .int p0), (2, .long w1)]) hx hb dX9_block_81 hl (by decide) rfl (fun ls hl => ?_)
            refine lv_iload hx hb dX9_block_83 (lv_at hl 0 rfl) ?_
            refine lv_iconst (v := (-1)) hx hb dX9_block_85 (by decide) ?_
            refine lv_icmp_ne (tgt := 110) hx hb dX9_block_86 (by decide) (fun c_10 => ?_) (fun c_10 => ?_)
            · skip
              exact absurd (by decide) c_10
            · skip
              refine lv_aload_n hx hb dX9_block_89 rfl (lv_at hl 2 rfl) ?_
              refine va_get (D := (dC, dI)) (ci := 11) (v := .int (0 : Int32)) (C := RX9) (T := TX9) (N := 38) hx hb hts (by decide +kernel) hown hK hP 0 rfl rfl 24 (by decide) (hts (.fieldLink RX9 189 "BlockLogModel" "hasBase" "Z") (by decide +kernel)) (fun _ h9 => h9) rfl dX9_block_90 ?_
              refine lv_if_eq (tgt := 110) hx hb dX9_block_93 (by decide) (fun c_11 => ?_) (fun c_11 => ?_)
              · skip
                refine lv_iconst (v := 0) hx hb dX9_block_110 (by decide) ?_
                refine lv_istore (lv' := [(7, .int (0 : Int32)), (6, .int (-1 : Int32)), (4, .long w1), (0, .ref mo), (1, .int p0), (2, .long w1)]) hx hb dX9_block_111 hl (by decide) rfl (fun ls hl => ?_)
                refine lv_lload hx hb dX9_block_113 (lv_at hl 2 rfl) ?_
                refine lv_lconst (v := 0) hx hb dX9_block_115 (by decide) ?_
                refine W.lcmp hx hb dX9_block_116 ?_
                refine lv_if_ne (tgt := 131) hx hb dX9_block_117 (by decide) (fun c_12 => ?_) (fun c_12 => ?_)
                · skip
                  refine lv_iconst (v := 0) hx hb dX9_block_131 (by decide) ?_
                  refine lv_istore (lv' := [(8, .int (0 : Int32)), (7, .int (0 : Int32)), (6, .int (-1 : Int32)), (4, .long w1), (0, .ref mo), (1, .int p0), (2, .long w1)]) hx hb dX9_block_132 hl (by decide) rfl (fun ls hl => ?_)
                  refine lv_iload hx hb dX9_block_134 (lv_at hl 2 rfl) ?_
                  refine lv_iconst (v := (-1)) hx hb dX9_block_136 (by decide) ?_
                  refine lv_icmp_ne (tgt := 153) hx hb dX9_block_137 (by decide) (fun c_13 => ?_) (fun c_13 => ?_)
                  · skip
                    exact absurd (by decide) c_13
                  · skip
                    refine lv_iload hx hb dX9_block_140 (lv_at hl 1 rfl) ?_
                    refine lv_if_ne (tgt := 153) hx hb dX9_block_142 (by decide) (fun c_14 => ?_) (fun c_14 => ?_)
                    · skip
                      exact absurd (by decide) c_14
                    · skip
                      refine lv_iload hx hb dX9_block_145 (lv_at hl 0 rfl) ?_
                      refine lv_if_ne (tgt := 153) hx hb dX9_block_147 (by decide) (fun c_15 => ?_) (fun c_15 => ?_)
                      · skip
                        exact absurd (by decide) c_15
                      · skip
                        refine lv_bipush (v := (-6)) hx hb dX9_block_150 (by decide) ?_
                        have hP := hP.sub (ws' := [(mo, .inr (11, [.ref m_disk, .int (nI P), .int ((8224 : Int32) + ((26 : Int32) * (nI P))), .int (1 : Int32), .int 0, .int (-1 : Int32), .int 0, .int (0 : Int32), .ref m_tape, .int 0, .ref m_slots, .ref m_leaves, .int 0, .int 0, .ref m_fresh, .int 0, .int (0 : Int32), .int (0 : Int32), .ref m_digestAt, .ref m_isGroup, .ref m_counts, .int (-1 : Int32), .int (0 : Int32), .long (0 : Int64), .int (0 : Int32), .ref m_versionRow, .int (0 : Int32), .long (0 : Int64), .ref m_state, .ref m_names, .int 0, .ref m_keptRow, .int 0, .ref m_inSlot, .ref m_inAt, .ref m_inSize, .ref m_inDigest, .int 0]))]) [0] rfl
                        have hD := hD.sub (ws' := [(mo, .inr (11, [.ref m_disk, .int (nI P), .int ((8224 : Int32) + ((26 : Int32) * (nI P))), .int (1 : Int32), .int 0, .int (-1 : Int32), .int 0, .int (0 : Int32), .ref m_tape, .int 0, .ref m_slots, .ref m_leaves, .int 0, .int 0, .ref m_fresh, .int 0, .int (0 : Int32), .int (0 : Int32), .ref m_digestAt, .ref m_isGroup, .ref m_counts, .int (-1 : Int32), .int (0 : Int32), .long (0 : Int64), .int (0 : Int32), .ref m_versionRow, .int (0 : Int32), .long (0 : Int64), .ref m_state, .ref m_names, .int 0, .ref m_keptRow, .int 0, .ref m_inSlot, .ref m_inAt, .ref m_inSize, .ref m_inDigest, .int 0]))]) [0] (by decide) rfl
                        have hK := hK.sub (tys' := [(d_digestAt, .long), (d_isGroup, .boolean), (d_counts, .boolean)]) [0, 1, 2] rfl
                        exact W.iret hx hb hr (fun t ht hW => ⟨⟨_, (), rfl, rfl, by rw [ht]; exact hP, va_K.moved hW.alike hK, hD⟩, hS.F ht⟩) hS.2.2 dX9_block_152
                · skip
                  exact absurd c_12 hf4
              · skip
                exact absurd (by decide) c_11
          · skip
            exact absurd c_8 hf4
        · skip
          exact absurd (by decide) c_6
      · skip
        exact absurd (by decide) c_4
    · skip
      exact absurd c_3 (by decide)
  · skip
    exact absurd c_1 (by decide)

set_option maxHeartbeats 4000000 in
set_option maxRecDepth 100000 in
theorem k_X8_block_4 (l : Launch) (dC : Nat → ClassId) (dI : Nat → Nat → Nat) (x : Nat) (p0 : Int32) (w1 : Int64) (rr : Nat) (ds : Nat) (so : Nat) (tp : Nat) (pu : Nat) (sn : Nat) (im : Nat) (cs : Nat) (cl : Nat) (ri : Nat) (pg : Int32) (dl : Nat) (dr : Nat) (dt : Nat) (s1 : Nat) (s2 : Nat) (s3 : Nat) (s4 : Nat) (s5 : Nat) (s6 : Nat) (hf0 : 1 ≤ p0) (hf1 : p0 ≤ 1000000) (hf2 : lg_cmp w1 (0) < 0) (hf3 : lg_cmp w1 (-128) < 0) : Met l yX8_block wsX8_block ({ frames := 2, cells := 0, slots := 0, locals := 46 }) (va_Pc [.ref x, .int p0, .long w1] (fun U => va_P (dC, dI) vwCl [(x, .inr (10, [.ref tp, .ref ds, .ref rr, .ref so, .ref pu, .ref sn, .ref im, .ref cs, .ref cl, .int (0 : Int32)])), (rr, .inr (6, [.ref ds, .ref ri, .int 0, .int 1, .int 0, .int 0])), (ds, .inr (3, [.int pg, .ref dl, .ref dr, .ref dt, .int (1 : Int32), .int (-1 : Int32), .int (0 : Int32)])), (so, .inr (8, [.ref rr, .ref s1, .ref s2, .ref s3, .ref s4, .ref s5, .ref s6, .int (0 : Int32), .int (0 : Int32), .int (-1 : Int32), .int (0 : Int32), .int (0 : Int32)]))] U.heap ∧ va_K (dC, dI) vwCl [] U ∧ gx_W U)) (vp_Si (fun r => r = (-6 : Int32))) 0 0 (fun _ => False) := by
  refine Met.ofW (cc := cX8_block) (maxL := 9) (ret := (some .int)) (by decide) rfl ?_
  intro p e s m args below meth c s₁ B hml hv
  obtain ⟨rfl, hP, hK, hG⟩ := hv
  have hx := B.exec
  have hb := B.bytes
  have hr := B.returns
  have hts := atoms_spec (ws := wsX8_block) B.pre
  have hown : s.vm.findClass RX8 = some m.cls := findClass_of_methodNamed B.named
  have hlocks := B.notSynchronized
  have hl := lv_entry ([.ref x, .int p0, .long w1]) (n := 9) (Nat.le_of_ble_eq_true rfl)
  rw [lg_entry_eq]
  generalize (lg_sl ([.ref x, .int p0, .long w1]) ++ List.replicate (9 - (lg_sl ([.ref x, .int p0, .long w1])).length) Slot.unset).toArray = ls at hl ⊢
  have hl : lv_has ls 9 [(0, .ref x), (1, .int p0), (2, .long w1)] := hl
  refine lv_aload_n hx hb dX8_block_0 rfl (lv_at hl 0 rfl) ?_
  have hPc := hP.sub (ws' := [(x, .inr (10, [.ref tp, .ref ds, .ref rr, .ref so, .ref pu, .ref sn, .ref im, .ref cs, .ref cl, .int (0 : Int32)])), (ds, .inr (3, [.int pg, .ref dl, .ref dr, .ref dt, .int (1 : Int32), .int (-1 : Int32), .int (0 : Int32)]))]) [0, 2] rfl
  have hKc := hK.sub (tys' := []) [] rfl
  refine va_csv (va_Run.run (va_runV (As := []) (rest := []) ⟨hx, hb, hml, hown, hts⟩ (k_X8_demandPower_1 l dC dI x ds tp rr so pu sn im cs cl pg dl dr dt) (cwV 0 hts gX8_block_X8_demandPower rfl rfl rfl (by decide +kernel) ⟨Nat.le_of_ble_eq_true rfl, Nat.le_of_ble_eq_true rfl⟩) ⟨fun a U g mk q => by obtain ⟨q0, qP, qK, qG⟩ := q; exact ⟨q0, qP, va_K.moved (u := U) (U := U.calling g mk a) (Vm.Alike.refl U.vm) qK, qG.same rfl⟩, va_recv hK hP (ci := 10) (q := (RX8, TX8, 10)) rfl (q0 := 0) rfl, fun U hU hW => ⟨rfl, by rw [hU]; exact hPc, va_K.moved hW.alike hKc, hG.warm hW⟩⟩ rfl rfl hl.1 rfl (lv_room (Nat.le_of_ble_eq_true rfl)) dX8_block_1 ⟨Nat.le_of_ble_eq_true rfl, Nat.le_of_ble_eq_true rfl⟩)) (fun _ => ?_)
  refine lv_iload_n hx hb dX8_block_4 rfl (lv_at hl 1 rfl) ?_
  have hPc := hP.sub (ws' := []) [] rfl
  have hKc := hK.sub (tys' := []) [] rfl
  refine va_csv (va_Run.run (va_runS (As := [.int p0]) (rest := []) ⟨hx, hb, hml, hown, hts⟩ (k_X8_demandHeight_3 l dC dI p0 hf0 hf1) (va_cwS 1 hts gX8_block_X8_demandHeight rfl rfl rfl (by decide +kernel) ⟨Nat.le_of_ble_eq_true rfl, Nat.le_of_ble_eq_true rfl⟩) ⟨fun a U g mk q => by obtain ⟨q0, qP, qK⟩ := q; exact ⟨q0, qP, va_K.moved (u := U) (U := U.calling g mk a) (Vm.Alike.refl U.vm) qK⟩, fun U hU hW => ⟨rfl, by rw [hU]; exact hPc, va_K.moved hW.alike hKc⟩⟩ rfl rfl hl.1 rfl (lv_room (Nat.le_of_ble_eq_true rfl)) dX8_block_5 ⟨Nat.le_of_ble_eq_true rfl, Nat.le_of_ble_eq_true rfl⟩)) (fun _ => ?_)
  refine lv_aload_n hx hb dX8_block_8 rfl (lv_at hl 0 rfl) ?_
  refine va_get (D := (dC, dI)) (ci := 10) (v := .ref rr) (C := RX8) (T := TX8) (N := 10) hx hb hts (by decide +kernel) hown hK hP 0 rfl rfl 2 (by decide) (hts (.fieldLink RX8 31 "BlockLog" "rows" "LBlockLog$Rows;") (by decide +kernel)) (fun _ h9 => h9) rfl dX8_block_9 ?_
  have hPc := hP.sub (ws' := [(rr, .inr (6, [.ref ds, .ref ri, .int 0, .int 1, .int 0, .int 0]))]) [1] rfl
  have hKc := hK.sub (tys' := []) [] rfl
  refine vp_callSi (va_Run.run (va_runV (As := []) (rest := []) ⟨hx, hb, hml, hown, hts⟩ (k_X4_inNeed_1 l dC dI rr ds ri) (cwV 0 hts gX8_block_X4_inNeed rfl rfl rfl (by decide +kernel) ⟨Nat.le_of_ble_eq_true rfl, Nat.le_of_ble_eq_true rfl⟩) ⟨fun a U g mk q => by obtain ⟨q0, qP, qK⟩ := q; exact ⟨q0, qP, va_K.moved (u := U) (U := U.calling g mk a) (Vm.Alike.refl U.vm) qK⟩, va_recv hK hP (ci := 6) (q := (RX4, TX4, 6)) rfl (q0 := 1) rfl, fun U hU hW => ⟨rfl, by rw [hU]; exact hPc, va_K.moved hW.alike hKc⟩⟩ rfl rfl hl.1 rfl (lv_room (Nat.le_of_ble_eq_true rfl)) dX8_block_12 ⟨Nat.le_of_ble_eq_true rfl, Nat.le_of_ble_eq_true rfl⟩)) (fun r_3 er_3 => ?_)
  subst er_3
  refine lv_if_eq (tgt := 21) hx hb dX8_block_15 (by decide) (fun c_4 => ?_) (fun c_4 => ?_)
  · skip
    refine lv_aload_n hx hb dX8_block_21 rfl (lv_at hl 0 rfl) ?_
    refine va_get (D := (dC, dI)) (ci := 10) (v := .ref so) (C := RX8) (T := TX8) (N := 10) hx hb hts (by decide +kernel) hown hK hP 0 rfl rfl 3 (by decide) (hts (.fieldLink RX8 40 "BlockLog" "story" "LBlockLog$Story;") (by decide +kernel)) (fun _ h9 => h9) rfl dX8_block_22 ?_
    refine lv_lload_n hx hb dX8_block_25 rfl (lv_at hl 2 rfl) ?_
    have hPc := hP.sub (ws' := []) [] rfl
    have hKc := hK.sub (tys' := []) [] rfl
    refine vp_callSl (va_Run.run (va_runV (As := [.long w1]) (rest := []) ⟨hx, hb, hml, hown, hts⟩ (k_X6_meant_3 l dC dI so w1 hf2 hf3) (cwV 1 hts gX8_block_X6_meant rfl rfl rfl (by decide +kernel) ⟨Nat.le_of_ble_eq_true rfl, Nat.le_of_ble_eq_true rfl⟩) ⟨fun a U g mk q => by obtain ⟨q0, qP, qK⟩ := q; exact ⟨q0, qP, va_K.moved (u := U) (U := U.calling g mk a) (Vm.Alike.refl U.vm) qK⟩, va_recv hK hP (ci := 8) (q := (RX6, TX6, 12)) rfl (q0 := 3) rfl, fun U hU hW => ⟨rfl, by rw [hU]; exact hPc, va_K.moved hW.alike hKc⟩⟩ rfl rfl hl.1 rfl (lv_room (Nat.le_of_ble_eq_true rfl)) dX8_block_26 ⟨Nat.le_of_ble_eq_true rfl, Nat.le_of_ble_eq_true rfl⟩)) (fun r_5 er_5 => ?_)
    replace er_5 := er_5.symm
    subst er_5
    refine lv_lstore (lv' := [(4, .long w1), (0, .ref x), (1, .int p0), (2, .long w1)]) hx hb dX8_block_29 hl (by decide) rfl (fun ls hl => ?_)
    refine lv_aload_n hx hb dX8_block_31 rfl (lv_at hl 1 rfl) ?_
    refine va_get (D := (dC, dI)) (ci := 10) (v := .ref so) (C := RX8) (T := TX8) (N := 10) hx hb hts (by decide +kernel) hown hK hP 0 rfl rfl 3 (by decide) (hts (.fieldLink RX8 40 "BlockLog" "story" "LBlockLog$Story;") (by decide +kernel)) (fun _ h9 => h9) rfl dX8_block_32 ?_
    refine lv_lload hx hb dX8_block_35 (lv_at hl 0 rfl) ?_
    have hPc := hP.sub (ws' := [(so, .inr (8, [.ref rr, .ref s1, .ref s2, .ref s3, .ref s4, .ref s5, .ref s6, .int (0 : Int32), .int (0 : Int32), .int (-1 : Int32), .int (0 : Int32), .int (0 : Int32)]))]) [3] rfl
    have hKc := hK.sub (tys' := []) [] rfl
    refine vp_callSi (va_Run.run (va_runV (As := [.long w1]) (rest := []) ⟨hx, hb, hml, hown, hts⟩ (k_X6_heightOfParent_1 l dC dI so w1 rr s1 s2 s3 s4 s5 s6 (Int32.ne_of_lt hf2)) (cwV 1 hts gX8_block_X6_heightOfParent rfl rfl rfl (by decide +kernel) ⟨Nat.le_of_ble_eq_true rfl, Nat.le_of_ble_eq_true rfl⟩) ⟨fun a U g mk q => by obtain ⟨q0, qP, qK⟩ := q; exact ⟨q0, qP, va_K.moved (u := U) (U := U.calling g mk a) (Vm.Alike.refl U.vm) qK⟩, va_recv hK hP (ci := 8) (q := (RX6, TX6, 12)) rfl (q0 := 3) rfl, fun U hU hW => ⟨rfl, by rw [hU]; exact hPc, va_K.moved hW.alike hKc⟩⟩ rfl rfl hl.1 rfl (lv_room (Nat.le_of_ble_eq_true rfl)) dX8_block_37 ⟨Nat.le_of_ble_eq_true rfl, Nat.le_of_ble_eq_true rfl⟩)) (fun r_6 er_6 => ?_)
    subst er_6
    refine lv_istore (lv' := [(6, .int (-1 : Int32)), (4, .long w1), (0, .ref x), (1, .int p0), (2, .long w1)]) hx hb dX8_block_40 hl (by decide) rfl (fun ls hl => ?_)
    refine lv_iload hx hb dX8_block_42 (lv_at hl 0 rfl) ?_
    refine lv_iconst (v := (-1)) hx hb dX8_block_44 (by decide) ?_
    refine lv_icmp_ne (tgt := 51) hx hb dX8_block_45 (by decide) (fun c_7 => ?_) (fun c_7 => ?_)
    · skip
      exact absurd (by decide) c_7
    · skip
      refine lv_bipush (v := (-6)) hx hb dX8_block_48 (by decide) ?_
      exact W.iret hx hb hr (fun t ht hW => ⟨_, rfl, rfl, ht⟩) (fun q h => by cases h) dX8_block_50
  · skip
    exact absurd (by decide) c_4

set_option maxHeartbeats 4000000 in
set_option maxRecDepth 100000 in
theorem k_L_block_4 (l : Launch) (dC : Nat → ClassId) (dI : Nat → Nat → Nat) (x : Nat) (p0 : Int32) (w1 : Int64) (ho : Nat) (rr : Nat) (ds : Nat) (so : Nat) (tp : Nat) (pu : Nat) (sn : Nat) (im : Nat) (cs : Nat) (cl : Nat) (ri : Nat) (pg : Int32) (dl : Nat) (dr : Nat) (dt : Nat) (s1 : Nat) (s2 : Nat) (s3 : Nat) (s4 : Nat) (s5 : Nat) (s6 : Nat) (cJ : ClassId) (g1 : Nat → Int64) (sz : Nat) (hf0 : 1 ≤ p0) (hf1 : p0 ≤ 1000000) (hf2 : lg_cmp w1 (0) < 0) (hf3 : lg_cmp w1 (-128) < 0) : Met l yL_block wsL_block ({ frames := 3, cells := 0, slots := 0, locals := 74 }) (va_Pc [.ref x, .int p0, .long w1, .ref ho] (fun U => U.heap.size = sz ∧ va_P (dC, dI) vwCl [(x, .inr (10, [.ref tp, .ref ds, .ref rr, .ref so, .ref pu, .ref sn, .ref im, .ref cs, .ref cl, .int (0 : Int32)])), (rr, .inr (6, [.ref ds, .ref ri, .int 0, .int 1, .int 0, .int 0])), (ds, .inr (3, [.int pg, .ref dl, .ref dr, .ref dt, .int (1 : Int32), .int (-1 : Int32), .int (0 : Int32)])), (so, .inr (8, [.ref rr, .ref s1, .ref s2, .ref s3, .ref s4, .ref s5, .ref s6, .int (0 : Int32), .int (0 : Int32), .int (-1 : Int32), .int (0 : Int32), .int (0 : Int32)])), (ho, .inl (cJ, 1, .inr (.inl g1)))] U.heap ∧ va_K (dC, dI) vwCl [(cJ, .long)] U ∧ va_D (fun _ => True) [(x, .inr (10, [.ref tp, .ref ds, .ref rr, .ref so, .ref pu, .ref sn, .ref im, .ref cs, .ref cl, .int (0 : Int32)])), (rr, .inr (6, [.ref ds, .ref ri, .int 0, .int 1, .int 0, .int 0])), (ds, .inr (3, [.int pg, .ref dl, .ref dr, .ref dt, .int (1 : Int32), .int (-1 : Int32), .int (0 : Int32)])), (so, .inr (8, [.ref rr, .ref s1, .ref s2, .ref s3, .ref s4, .ref s5, .ref s6, .int (0 : Int32), .int (0 : Int32), .int (-1 : Int32), .int (0 : Int32), .int (0 : Int32)])), (ho, .inl (cJ, 1, .inr (.inl g1)))] ∧ gx_E (va_A [(x, .inr (10, [.ref tp, .ref ds, .ref rr, .ref so, .ref pu, .ref sn, .ref im, .ref cs, .ref cl, .int (0 : Int32)])), (rr, .inr (6, [.ref ds, .ref ri, .int 0, .int 1, .int 0, .int 0])), (ds, .inr (3, [.int pg, .ref dl, .ref dr, .ref dt, .int (1 : Int32), .int (-1 : Int32), .int (0 : Int32)])), (so, .inr (8, [.ref rr, .ref s1, .ref s2, .ref s3, .ref s4, .ref s5, .ref s6, .int (0 : Int32), .int (0 : Int32), .int (-1 : Int32), .int (0 : Int32), .int (0 : Int32)])), (ho, .inl (cJ, 1, .inr (.inl g1)))] sz) U)) (va_Qi (fun r (_ : Unit) => r = (0 : Int32)) (fun (_ : Unit) t => va_P (dC, dI) vwCl [(ho, .inl (cJ, 1, .inr (.inl (vp_updL g1 (0 : Int32).toNatClampNeg ((-6 : Int32).toInt64)))))] t.heap ∧ va_K (dC, dI) vwCl [(cJ, .long)] t ∧ va_D (va_A [(x, .inr (10, [.ref tp, .ref ds, .ref rr, .ref so, .ref pu, .ref sn, .ref im, .ref cs, .ref cl, .int (0 : Int32)])), (rr, .inr (6, [.ref ds, .ref ri, .int 0, .int 1, .int 0, .int 0])), (ds, .inr (3, [.int pg, .ref dl, .ref dr, .ref dt, .int (1 : Int32), .int (-1 : Int32), .int (0 : Int32)])), (so, .inr (8, [.ref rr, .ref s1, .ref s2, .ref s3, .ref s4, .ref s5, .ref s6, .int (0 : Int32), .int (0 : Int32), .int (-1 : Int32), .int (0 : Int32), .int (0 : Int32)])), (ho, .inl (cJ, 1, .inr (.inl g1)))] sz) [(ho, .inl (cJ, 1, .inr (.inl (vp_updL g1 (0 : Int32).toNatClampNeg ((-6 : Int32).toInt64)))))]) (va_A [(x, .inr (10, [.ref tp, .ref ds, .ref rr, .ref so, .ref pu, .ref sn, .ref im, .ref cs, .ref cl, .int (0 : Int32)])), (rr, .inr (6, [.ref ds, .ref ri, .int 0, .int 1, .int 0, .int 0])), (ds, .inr (3, [.int pg, .ref dl, .ref dr, .ref dt, .int (1 : Int32), .int (-1 : Int32), .int (0 : Int32)])), (so, .inr (8, [.ref rr, .ref s1, .ref s2, .ref s3, .ref s4, .ref s5, .ref s6, .int (0 : Int32), .int (0 : Int32), .int (-1 : Int32), .int (0 : Int32), .int (0 : Int32)])), (ho, .inl (cJ, 1, .inr (.inl g1)))] sz)) 0 0 (va_A [(x, .inr (10, [.ref tp, .ref ds, .ref rr, .ref so, .ref pu, .ref sn, .ref im, .ref cs, .ref cl, .int (0 : Int32)])), (rr, .inr (6, [.ref ds, .ref ri, .int 0, .int 1, .int 0, .int 0])), (ds, .inr (3, [.int pg, .ref dl, .ref dr, .ref dt, .int (1 : Int32), .int (-1 : Int32), .int (0 : Int32)])), (so, .inr (8, [.ref rr, .ref s1, .ref s2, .ref s3, .ref s4, .ref s5, .ref s6, .int (0 : Int32), .int (0 : Int32), .int (-1 : Int32), .int (0 : Int32), .int (0 : Int32)])), (ho, .inl (cJ, 1, .inr (.inl g1)))] sz) := by
  refine va_MetW (cc := cL_block) (maxL := 6) (ret := (some .int)) (hh := [(0, 11, 14, 25), (0, 11, 18, 13)]) (by decide) rfl ?_
  intro p e s m args below meth c s₁ B hml hv
  obtain ⟨rfl, hsz, hP, hK, hD0, hG⟩ := hv
  have hx := B.exec
  have hb := B.bytes
  have hr := B.returns
  have hts := atoms_spec (ws := wsL_block) B.pre
  have hown : s.vm.findClass RL = some m.cls := findClass_of_methodNamed B.named
  have hlocks := B.notSynchronized
  have htab := vx_table (x := yL_block) B (hts (.codeWith yL_block cL_block 6 (some .int) [(0, 11, 14, 25), (0, 11, 18, 13)]) List.mem_cons_self)
  subst hsz
  have hD := hD0.self (sz := s.heap.size)
  generalize hAe : va_A [(x, .inr (10, [.ref tp, .ref ds, .ref rr, .ref so, .ref pu, .ref sn, .ref im, .ref cs, .ref cl, .int (0 : Int32)])), (rr, .inr (6, [.ref ds, .ref ri, .int 0, .int 1, .int 0, .int 0])), (ds, .inr (3, [.int pg, .ref dl, .ref dr, .ref dt, .int (1 : Int32), .int (-1 : Int32), .int (0 : Int32)])), (so, .inr (8, [.ref rr, .ref s1, .ref s2, .ref s3, .ref s4, .ref s5, .ref s6, .int (0 : Int32), .int (0 : Int32), .int (-1 : Int32), .int (0 : Int32), .int (0 : Int32)])), (ho, .inl (cJ, 1, .inr (.inl g1)))] s.heap.size = A at hD hG ⊢
  have hA : ∀ q : Nat, s.heap.size ≤ q → A q := fun q h => by rw [← hAe]; exact Or.inr h
  have hS : va_S A s.heap s.heap [] := va_S.rf
  have hl := lv_entry ([.ref x, .int p0, .long w1, .ref ho]) (n := 6) (Nat.le_of_ble_eq_true rfl)
  rw [lg_entry_eq]
  generalize (lg_sl ([.ref x, .int p0, .long w1, .ref ho]) ++ List.replicate (6 - (lg_sl ([.ref x, .int p0, .long w1, .ref ho])).length) Slot.unset).toArray = ls at hl ⊢
  have hl : lv_has ls 6 [(0, .ref x), (1, .int p0), (2, .long w1), (4, .ref ho)] := hl
  refine lv_aload hx hb dL_block_0 (lv_at hl 3 rfl) ?_
  refine lv_iconst (v := 0) hx hb dL_block_2 (by decide) ?_
  refine lv_aload_n hx hb dL_block_3 rfl (lv_at hl 0 rfl) ?_
  refine lv_iload_n hx hb dL_block_4 rfl (lv_at hl 1 rfl) ?_
  refine lv_lload_n hx hb dL_block_5 rfl (lv_at hl 2 rfl) ?_
  have hPc := hP.sub (ws' := [(x, .inr (10, [.ref tp, .ref ds, .ref rr, .ref so, .ref pu, .ref sn, .ref im, .ref cs, .ref cl, .int (0 : Int32)])), (rr, .inr (6, [.ref ds, .ref ri, .int 0, .int 1, .int 0, .int 0])), (ds, .inr (3, [.int pg, .ref dl, .ref dr, .ref dt, .int (1 : Int32), .int (-1 : Int32), .int (0 : Int32)])), (so, .inr (8, [.ref rr, .ref s1, .ref s2, .ref s3, .ref s4, .ref s5, .ref s6, .int (0 : Int32), .int (0 : Int32), .int (-1 : Int32), .int (0 : Int32), .int (0 : Int32)]))]) [0, 1, 2, 3] rfl
  have hKc := hK.sub (tys' := []) [] rfl
  refine vp_callSi (va_Run.run (va_runV (As := [.int p0, .long w1]) (rest := [.int (0 : Int32), .ref ho]) ⟨hx, hb, hml, hown, hts⟩ (k_X8_block_4 l dC dI x p0 w1 rr ds so tp pu sn im cs cl ri pg dl dr dt s1 s2 s3 s4 s5 s6 hf0 hf1 hf2 hf3) (cwV 2 hts gL_block_X8_block rfl rfl rfl (by decide +kernel) ⟨Nat.le_of_ble_eq_true rfl, Nat.le_of_ble_eq_true rfl⟩) ⟨fun a U g mk q => by obtain ⟨q0, qP, qK, qG⟩ := q; exact ⟨q0, qP, va_K.moved (u := U) (U := U.calling g mk a) (Vm.Alike.refl U.vm) qK, qG.same rfl⟩, va_recv hK hP (ci := 10) (q := (RX8, TX8, 10)) rfl (q0 := 0) rfl, fun U hU hW => ⟨rfl, by rw [hU]; exact hPc, va_K.moved hW.alike hKc, hG.1.warm hW⟩⟩ rfl rfl hl.1 rfl (lv_room (Nat.le_of_ble_eq_true rfl)) dL_block_6 ⟨Nat.le_of_ble_eq_true rfl, Nat.le_of_ble_eq_true rfl⟩)) (fun r_1 er_1 => ?_)
  subst er_1
  refine lv_i2l hx hb dL_block_9 rfl ?_
  refine va_last hx hb hK hP hD hS 4 0 rfl rfl (by unfold vp_in; decide +kernel) dL_block_10 (fun H locs hP hD hS => ?_)
  have hP : va_P (dC, dI) vwCl [(x, .inr (10, [.ref tp, .ref ds, .ref rr, .ref so, .ref pu, .ref sn, .ref im, .ref cs, .ref cl, .int (0 : Int32)])), (rr, .inr (6, [.ref ds, .ref ri, .int 0, .int 1, .int 0, .int 0])), (ds, .inr (3, [.int pg, .ref dl, .ref dr, .ref dt, .int (1 : Int32), .int (-1 : Int32), .int (0 : Int32)])), (so, .inr (8, [.ref rr, .ref s1, .ref s2, .ref s3, .ref s4, .ref s5, .ref s6, .int (0 : Int32), .int (0 : Int32), .int (-1 : Int32), .int (0 : Int32), .int (0 : Int32)])), (ho, .inl (cJ, 1, .inr (.inl (vp_updL g1 (0 : Int32).toNatClampNeg ((-6 : Int32).toInt64)))))] H := hP
  have hD : va_D A [(x, .inr (10, [.ref tp, .ref ds, .ref rr, .ref so, .ref pu, .ref sn, .ref im, .ref cs, .ref cl, .int (0 : Int32)])), (rr, .inr (6, [.ref ds, .ref ri, .int 0, .int 1, .int 0, .int 0])), (ds, .inr (3, [.int pg, .ref dl, .ref dr, .ref dt, .int (1 : Int32), .int (-1 : Int32), .int (0 : Int32)])), (so, .inr (8, [.ref rr, .ref s1, .ref s2, .ref s3, .ref s4, .ref s5, .ref s6, .int (0 : Int32), .int (0 : Int32), .int (-1 : Int32), .int (0 : Int32), .int (0 : Int32)])), (ho, .inl (cJ, 1, .inr (.inl (vp_updL g1 (0 : Int32).toNatClampNeg ((-6 : Int32).toInt64)))))] := hD
  refine lv_goto (tgt := 22) hx hb dL_block_11 (by decide) ?_
  refine lv_iconst (v := 0) hx hb dL_block_22 (by decide) ?_
  have hP := hP.sub (ws' := [(ho, .inl (cJ, 1, .inr (.inl (vp_updL g1 (0 : Int32).toNatClampNeg ((-6 : Int32).toInt64)))))]) [4] rfl
  have hD := hD.sub (ws' := [(ho, .inl (cJ, 1, .inr (.inl (vp_updL g1 (0 : Int32).toNatClampNeg ((-6 : Int32).toInt64)))))]) [4] (by decide) rfl
  have hK := hK.sub (tys' := [(cJ, .long)]) [0] rfl
  exact W.iret hx hb hr (fun t ht hW => ⟨⟨_, (), rfl, rfl, by rw [ht]; exact hP, va_K.moved hW.alike hK, hD⟩, hS.F ht⟩) hS.2.2 dL_block_23

set_option maxHeartbeats 4000000 in
set_option maxRecDepth 100000 in
theorem k_X9_block_4 (l : Launch) (dC : Nat → ClassId) (dI : Nat → Nat → Nat) (mo : Nat) (p0 : Int32) (w1 : Int64) (m_digestAt : Nat) (m_isGroup : Nat) (m_counts : Nat) (m_disk : Nat) (P : Nat) (m_tape : Nat) (m_slots : Nat) (m_leaves : Nat) (m_fresh : Nat) (m_versionRow : Nat) (m_state : Nat) (m_names : Nat) (m_keptRow : Nat) (m_inSlot : Nat) (m_inAt : Nat) (m_inSize : Nat) (m_inDigest : Nat) (d_digestAt : ClassId) (d_isGroup : ClassId) (d_counts : ClassId) (sz : Nat) (hf0 : 1 ≤ p0) (hf1 : p0 ≤ 1000000) (hf2 : lg_cmp w1 (-128) < 0) (hf3 : lg_cmp w1 (0) < 0) : Met l yX9_block wsX9_block ({ frames := 3, cells := 0, slots := 0, locals := 65 }) (va_Pc [.ref mo, .int p0, .long w1] (fun U => U.heap.size = sz ∧ va_P (dC, dI) vwCl [(mo, .inr (11, [.ref m_disk, .int (nI P), .int ((8224 : Int32) + ((26 : Int32) * (nI P))), .int (1 : Int32), .int 0, .int (-1 : Int32), .int 0, .int (0 : Int32), .ref m_tape, .int 0, .ref m_slots, .ref m_leaves, .int 0, .int 0, .ref m_fresh, .int 0, .int 0, .int 0, .ref m_digestAt, .ref m_isGroup, .ref m_counts, .int 0, .int 0, .long 0, .int 0, .ref m_versionRow, .int 0, .long 0, .ref m_state, .ref m_names, .int 0, .ref m_keptRow, .int 0, .ref m_inSlot, .ref m_inAt, .ref m_inSize, .ref m_inDigest, .int 0])), (m_digestAt, .inl (d_digestAt, 128, .inr (.inl (fun _ => 0)))), (m_isGroup, .inl (d_isGroup, 128, .inl (fun _ => 0))), (m_counts, .inl (d_counts, 128, .inl (fun _ => 0)))] U.heap ∧ va_K (dC, dI) vwCl [(d_digestAt, .long), (d_isGroup, .boolean), (d_counts, .boolean)] U ∧ va_D (fun _ => True) [(mo, .inr (11, [.ref m_disk, .int (nI P), .int ((8224 : Int32) + ((26 : Int32) * (nI P))), .int (1 : Int32), .int 0, .int (-1 : Int32), .int 0, .int (0 : Int32), .ref m_tape, .int 0, .ref m_slots, .ref m_leaves, .int 0, .int 0, .ref m_fresh, .int 0, .int 0, .int 0, .ref m_digestAt, .ref m_isGroup, .ref m_counts, .int 0, .int 0, .long 0, .int 0, .ref m_versionRow, .int 0, .long 0, .ref m_state, .ref m_names, .int 0, .ref m_keptRow, .int 0, .ref m_inSlot, .ref m_inAt, .ref m_inSize, .ref m_inDigest, .int 0])), (m_digestAt, .inl (d_digestAt, 128, .inr (.inl (fun _ => 0)))), (m_isGroup, .inl (d_isGroup, 128, .inl (fun _ => 0))), (m_counts, .inl (d_counts, 128, .inl (fun _ => 0)))])) (va_Qi (fun r (_ : Unit) => r = (-6 : Int32)) (fun (_ : Unit) t => va_P (dC, dI) vwCl [(mo, .inr (11, [.ref m_disk, .int (nI P), .int ((8224 : Int32) + ((26 : Int32) * (nI P))), .int (1 : Int32), .int 0, .int (-1 : Int32), .int 0, .int (0 : Int32), .ref m_tape, .int 0, .ref m_slots, .ref m_leaves, .int 0, .int 0, .ref m_fresh, .int 0, .int (0 : Int32), .int (0 : Int32), .ref m_digestAt, .ref m_isGroup, .ref m_counts, .int (-1 : Int32), .int (0 : Int32), .long (0 : Int64), .int (0 : Int32), .ref m_versionRow, .int (0 : Int32), .long (0 : Int64), .ref m_state, .ref m_names, .int 0, .ref m_keptRow, .int 0, .ref m_inSlot, .ref m_inAt, .ref m_inSize, .ref m_inDigest, .int 0]))] t.heap ∧ va_K (dC, dI) vwCl [(d_digestAt, .long), (d_isGroup, .boolean), (d_counts, .boolean)] t ∧ va_D (va_A [(mo, .inr (11, [.ref m_disk, .int (nI P), .int ((8224 : Int32) + ((26 : Int32) * (nI P))), .int (1 : Int32), .int 0, .int (-1 : Int32), .int 0, .int (0 : Int32), .ref m_tape, .int 0, .ref m_slots, .ref m_leaves, .int 0, .int 0, .ref m_fresh, .int 0, .int 0, .int 0, .ref m_digestAt, .ref m_isGroup, .ref m_counts, .int 0, .int 0, .long 0, .int 0, .ref m_versionRow, .int 0, .long 0, .ref m_state, .ref m_names, .int 0, .ref m_keptRow, .int 0, .ref m_inSlot, .ref m_inAt, .ref m_inSize, .ref m_inDigest, .int 0])), (m_digestAt, .inl (d_digestAt, 128, .inr (.inl (fun _ => 0)))), (m_isGroup, .inl (d_isGroup, 128, .inl (fun _ => 0))), (m_counts, .inl (d_counts, 128, .inl (fun _ => 0)))] sz) [(mo, .inr (11, [.ref m_disk, .int (nI P), .int ((8224 : Int32) + ((26 : Int32) * (nI P))), .int (1 : Int32), .int 0, .int (-1 : Int32), .int 0, .int (0 : Int32), .ref m_tape, .int 0, .ref m_slots, .ref m_leaves, .int 0, .int 0, .ref m_fresh, .int 0, .int (0 : Int32), .int (0 : Int32), .ref m_digestAt, .ref m_isGroup, .ref m_counts, .int (-1 : Int32), .int (0 : Int32), .long (0 : Int64), .int (0 : Int32), .ref m_versionRow, .int (0 : Int32), .long (0 : Int64), .ref m_state, .ref m_names, .int 0, .ref m_keptRow, .int 0, .ref m_inSlot, .ref m_inAt, .ref m_inSize, .ref m_inDigest, .int 0]))]) (va_A [(mo, .inr (11, [.ref m_disk, .int (nI P), .int ((8224 : Int32) + ((26 : Int32) * (nI P))), .int (1 : Int32), .int 0, .int (-1 : Int32), .int 0, .int (0 : Int32), .ref m_tape, .int 0, .ref m_slots, .ref m_leaves, .int 0, .int 0, .ref m_fresh, .int 0, .int 0, .int 0, .ref m_digestAt, .ref m_isGroup, .ref m_counts, .int 0, .int 0, .long 0, .int 0, .ref m_versionRow, .int 0, .long 0, .ref m_state, .ref m_names, .int 0, .ref m_keptRow, .int 0, .ref m_inSlot, .ref m_inAt, .ref m_inSize, .ref m_inDigest, .int 0])), (m_digestAt, .inl (d_digestAt, 128, .inr (.inl (fun _ => 0)))), (m_isGroup, .inl (d_isGroup, 128, .inl (fun _ => 0))), (m_counts, .inl (d_counts, 128, .inl (fun _ => 0)))] sz)) 0 0 (va_A [(mo, .inr (11, [.ref m_disk, .int (nI P), .int ((8224 : Int32) + ((26 : Int32) * (nI P))), .int (1 : Int32), .int 0, .int (-1 : Int32), .int 0, .int (0 : Int32), .ref m_tape, .int 0, .ref m_slots, .ref m_leaves, .int 0, .int 0, .ref m_fresh, .int 0, .int 0, .int 0, .ref m_digestAt, .ref m_isGroup, .ref m_counts, .int 0, .int 0, .long 0, .int 0, .ref m_versionRow, .int 0, .long 0, .ref m_state, .ref m_names, .int 0, .ref m_keptRow, .int 0, .ref m_inSlot, .ref m_inAt, .ref m_inSize, .ref m_inDigest, .int 0])), (m_digestAt, .inl (d_digestAt, 128, .inr (.inl (fun _ => 0)))), (m_isGroup, .inl (d_isGroup, 128, .inl (fun _ => 0))), (m_counts, .inl (d_counts, 128, .inl (fun _ => 0)))] sz) := by
  refine Met.ofW (cc := cX9_block) (maxL := 15) (ret := (some .int)) (by decide) rfl ?_
  intro p e s m args below meth c s₁ B hml hv
  obtain ⟨rfl, hsz, hP, hK, hD0⟩ := hv
  have hx := B.exec
  have hb := B.bytes
  have hr := B.returns
  have hts := atoms_spec (ws := wsX9_block) B.pre
  have hown : s.vm.findClass RX9 = some m.cls := findClass_of_methodNamed B.named
  have hlocks := B.notSynchronized
  subst hsz
  have hD := hD0.self (sz := s.heap.size)
  generalize hAe : va_A [(mo, .inr (11, [.ref m_disk, .int (nI P), .int ((8224 : Int32) + ((26 : Int32) * (nI P))), .int (1 : Int32), .int 0, .int (-1 : Int32), .int 0, .int (0 : Int32), .ref m_tape, .int 0, .ref m_slots, .ref m_leaves, .int 0, .int 0, .ref m_fresh, .int 0, .int 0, .int 0, .ref m_digestAt, .ref m_isGroup, .ref m_counts, .int 0, .int 0, .long 0, .int 0, .ref m_versionRow, .int 0, .long 0, .ref m_state, .ref m_names, .int 0, .ref m_keptRow, .int 0, .ref m_inSlot, .ref m_inAt, .ref m_inSize, .ref m_inDigest, .int 0])), (m_digestAt, .inl (d_digestAt, 128, .inr (.inl (fun _ => 0)))), (m_isGroup, .inl (d_isGroup, 128, .inl (fun _ => 0))), (m_counts, .inl (d_counts, 128, .inl (fun _ => 0)))] s.heap.size = A at hD ⊢
  have hA : ∀ q : Nat, s.heap.size ≤ q → A q := fun q h => by rw [← hAe]; exact Or.inr h
  have hS : va_S A s.heap s.heap [] := va_S.rf
  have hl := lv_entry ([.ref mo, .int p0, .long w1]) (n := 15) (Nat.le_of_ble_eq_true rfl)
  rw [lg_entry_eq]
  generalize (lg_sl ([.ref mo, .int p0, .long w1]) ++ List.replicate (15 - (lg_sl ([.ref mo, .int p0, .long w1])).length) Slot.unset).toArray = ls at hl ⊢
  have hl : lv_has ls 15 [(0, .ref mo), (1, .int p0), (2, .long w1)] := hl
  refine lv_aload_n hx hb dX9_block_0 rfl (lv_at hl 0 rfl) ?_
  refine lv_aload_n hx hb dX9_block_1 rfl (lv_at hl 0 rfl) ?_
  refine va_get (D := (dC, dI)) (ci := 11) (v := .int (1 : Int32)) (C := RX9) (T := TX9) (N := 38) hx hb hts (by decide +kernel) hown hK hP 0 rfl rfl 3 (by decide) (hts (.fieldLink RX9 72 "BlockLogModel" "on" "Z") (by decide +kernel)) (fun _ h9 => h9) rfl dX9_block_2 ?_
  refine lv_if_ne (tgt := 12) hx hb dX9_block_5 (by decide) (fun c_1 => ?_) (fun c_1 => ?_)
  · skip
    refine lv_iload_n hx hb dX9_block_12 rfl (lv_at hl 1 rfl) ?_
    refine lv_iconst (v := 1) hx hb dX9_block_13 (by decide) ?_
    refine lv_ldc hx hb hown (hts (.constant RX9 208 (1000000)) (by decide +kernel)) dX9_block_14 ?_
    have hPc := hP.sub (ws' := []) [] rfl
    have hKc := hK.sub (tys' := []) [] rfl
    refine vp_callSi (va_Run.run (va_runS (As := [.int p0, .int (1 : Int32), .int (1000000 : Int32)]) (rest := [.ref mo]) ⟨hx, hb, hml, hown, hts⟩ (k_X9_within_3 l dC dI p0 (1 : Int32) (1000000 : Int32) hf0 hf1) (va_cwS 3 hts gX9_block_X9_within rfl rfl rfl (by decide +kernel) ⟨Nat.le_of_ble_eq_true rfl, Nat.le_of_ble_eq_true rfl⟩) ⟨fun a U g mk q => by obtain ⟨q0, qP, qK⟩ := q; exact ⟨q0, qP, va_K.moved (u := U) (U := U.calling g mk a) (Vm.Alike.refl U.vm) qK⟩, fun U hU hW => ⟨rfl, by rw [hU]; exact hPc, va_K.moved hW.alike hKc⟩⟩ rfl rfl hl.1 rfl (lv_room (Nat.le_of_ble_eq_true rfl)) dX9_block_16 ⟨Nat.le_of_ble_eq_true rfl, Nat.le_of_ble_eq_true rfl⟩)) (fun r_2 er_2 => ?_)
    subst er_2
    refine lv_if_ne (tgt := 26) hx hb dX9_block_19 (by decide) (fun c_3 => ?_) (fun c_3 => ?_)
    · skip
      refine lv_iconst (v := 0) hx hb dX9_block_26 (by decide) ?_
      refine va_put (D := (dC, dI)) (ci := 11) (v := .int (0 : Int32)) (ty := .int) (C := RX9) (T := TX9) (N := 38) hx hb hts (by decide +kernel) tyX9 tyX9_ok nmX9 hown hK hP hD hS 0 rfl rfl 13 (by decide) (hts (.fieldLink RX9 91 "BlockLogModel" "thrown" "I") (by decide +kernel)) (fun _ h9 => h9) rfl (by decide +kernel) rfl rfl (Nat.le_of_ble_eq_true rfl) dX9_block_27 (fun H locs hP hD hS => ?_)
      have hP : va_P (dC, dI) vwCl [(mo, .inr (11, [.ref m_disk, .int (nI P), .int ((8224 : Int32) + ((26 : Int32) * (nI P))), .int (1 : Int32), .int 0, .int (-1 : Int32), .int 0, .int (0 : Int32), .ref m_tape, .int 0, .ref m_slots, .ref m_leaves, .int 0, .int (0 : Int32), .ref m_fresh, .int 0, .int 0, .int 0, .ref m_digestAt, .ref m_isGroup, .ref m_counts, .int 0, .int 0, .long 0, .int 0, .ref m_versionRow, .int 0, .long 0, .ref m_state, .ref m_names, .int 0, .ref m_keptRow, .int 0, .ref m_inSlot, .ref m_inAt, .ref m_inSize, .ref m_inDigest, .int 0])), (m_digestAt, .inl (d_digestAt, 128, .inr (.inl (fun _ => 0)))), (m_isGroup, .inl (d_isGroup, 128, .inl (fun _ => 0))), (m_counts, .inl (d_counts, 128, .inl (fun _ => 0)))] H := hP
      have hD : va_D A [(mo, .inr (11, [.ref m_disk, .int (nI P), .int ((8224 : Int32) + ((26 : Int32) * (nI P))), .int (1 : Int32), .int 0, .int (-1 : Int32), .int 0, .int (0 : Int32), .ref m_tape, .int 0, .ref m_slots, .ref m_leaves, .int 0, .int (0 : Int32), .ref m_fresh, .int 0, .int 0, .int 0, .ref m_digestAt, .ref m_isGroup, .ref m_counts, .int 0, .int 0, .long 0, .int 0, .ref m_versionRow, .int 0, .long 0, .ref m_state, .ref m_names, .int 0, .ref m_keptRow, .int 0, .ref m_inSlot, .ref m_inAt, .ref m_inSize, .ref m_inDigest, .int 0])), (m_digestAt, .inl (d_digestAt, 128, .inr (.inl (fun _ => 0)))), (m_isGroup, .inl (d_isGroup, 128, .inl (fun _ => 0))), (m_counts, .inl (d_counts, 128, .inl (fun _ => 0)))] := hD
      refine lv_aload_n hx hb dX9_block_30 rfl (lv_at hl 0 rfl) ?_
      refine va_get (D := (dC, dI)) (ci := 11) (v := .int (0 : Int32)) (C := RX9) (T := TX9) (N := 38) hx hb hts (by decide +kernel) hown hK hP 0 rfl rfl 13 (by decide) (hts (.fieldLink RX9 91 "BlockLogModel" "thrown" "I") (by decide +kernel)) (fun _ h9 => h9) rfl dX9_block_31 ?_
      refine lv_if_le (tgt := 39) hx hb dX9_block_34 (by decide) (fun c_4 => ?_) (fun c_4 => ?_)
      · skip
        refine lv_aload_n hx hb dX9_block_39 rfl (lv_at hl 0 rfl) ?_
        have hPc := hP.sub (ws' := [(mo, .inr (11, [.ref m_disk, .int (nI P), .int ((8224 : Int32) + ((26 : Int32) * (nI P))), .int (1 : Int32), .int 0, .int (-1 : Int32), .int 0, .int (0 : Int32), .ref m_tape, .int 0, .ref m_slots, .ref m_leaves, .int 0, .int (0 : Int32), .ref m_fresh, .int 0, .int 0, .int 0, .ref m_digestAt, .ref m_isGroup, .ref m_counts, .int 0, .int 0, .long 0, .int 0, .ref m_versionRow, .int 0, .long 0, .ref m_state, .ref m_names, .int 0, .ref m_keptRow, .int 0, .ref m_inSlot, .ref m_inAt, .ref m_inSize, .ref m_inDigest, .int 0])), (m_digestAt, .inl (d_digestAt, 128, .inr (.inl (fun _ => 0)))), (m_isGroup, .inl (d_isGroup, 128, .inl (fun _ => 0))), (m_counts, .inl (d_counts, 128, .inl (fun _ => 0)))]) [0, 1, 2, 3] rfl
        have hKc := hK.sub (tys' := [(d_digestAt, .long), (d_isGroup, .boolean), (d_counts, .boolean)]) [0, 1, 2] rfl
        have hDc := hD.sub (ws' := [(mo, .inr (11, [.ref m_disk, .int (nI P), .int ((8224 : Int32) + ((26 : Int32) * (nI P))), .int (1 : Int32), .int 0, .int (-1 : Int32), .int 0, .int (0 : Int32), .ref m_tape, .int 0, .ref m_slots, .ref m_leaves, .int 0, .int (0 : Int32), .ref m_fresh, .int 0, .int 0, .int 0, .ref m_digestAt, .ref m_isGroup, .ref m_counts, .int 0, .int 0, .long 0, .int 0, .ref m_versionRow, .int 0, .long 0, .ref m_state, .ref m_names, .int 0, .ref m_keptRow, .int 0, .ref m_inSlot, .ref m_inAt, .ref m_inSize, .ref m_inDigest, .int 0])), (m_digestAt, .inl (d_digestAt, 128, .inr (.inl (fun _ => 0)))), (m_isGroup, .inl (d_isGroup, 128, .inl (fun _ => 0))), (m_counts, .inl (d_counts, 128, .inl (fun _ => 0)))]) [0, 1, 2, 3] (by decide) rfl
        have hFc := va_free (wc := [(mo, .inr (11, [.ref m_disk, .int (nI P), .int ((8224 : Int32) + ((26 : Int32) * (nI P))), .int (1 : Int32), .int 0, .int (-1 : Int32), .int 0, .int (0 : Int32), .ref m_tape, .int 0, .ref m_slots, .ref m_leaves, .int 0, .int (0 : Int32), .ref m_fresh, .int 0, .int 0, .int 0, .ref m_digestAt, .ref m_isGroup, .ref m_counts, .int 0, .int 0, .long 0, .int 0, .ref m_versionRow, .int 0, .long 0, .ref m_state, .ref m_names, .int 0, .ref m_keptRow, .int 0, .ref m_inSlot, .ref m_inAt, .ref m_inSize, .ref m_inDigest, .int 0])), (m_digestAt, .inl (d_digestAt, 128, .inr (.inl (fun _ => 0)))), (m_isGroup, .inl (d_isGroup, 128, .inl (fun _ => 0))), (m_counts, .inl (d_counts, 128, .inl (fun _ => 0)))]) hD hS hA [0, 1, 2, 3] rfl
        refine va_callv (va_runV (As := []) (rest := []) ⟨hx, hb, hml, hown, hts⟩ (k_X9_read_1 l dC dI mo m_digestAt m_isGroup m_counts m_disk P m_tape m_slots m_leaves m_fresh m_versionRow m_state m_names m_keptRow m_inSlot m_inAt m_inSize m_inDigest d_digestAt d_isGroup d_counts _) (cwV 0 hts gX9_block_X9_read rfl rfl rfl (by decide +kernel) ⟨Nat.le_of_ble_eq_true rfl, Nat.le_of_ble_eq_true rfl⟩) ⟨fun a U g mk q => by obtain ⟨q0, q1, qP, qK, qD⟩ := q; exact ⟨q0, q1, qP, va_K.moved (u := U) (U := U.calling g mk a) (Vm.Alike.refl U.vm) qK, qD⟩, va_recv hK hP (ci := 11) (q := (RX9, TX9, 38)) rfl (q0 := 0) rfl, fun U hU hW => ⟨rfl, by rw [hU], by rw [hU]; exact hPc, va_K.moved hW.alike hKc, hDc.weaken (fun _ _ _ _ => trivial)⟩⟩ rfl rfl hl.1 rfl (lv_room (Nat.le_of_ble_eq_true rfl)) dX9_block_40 ⟨Nat.le_of_ble_eq_true rfl, Nat.le_of_ble_eq_true rfl⟩) hS (fun q _ h => hFc q h) hFc (fun u t H1 locs ht hvm er_5 hB hz1 hk1 hS => ?_)
        obtain ⟨hP1, hK1, hD1⟩ := hB
        rw [ht] at hP1
        obtain ⟨hP, hD⟩ := va_join (wr := []) (w1 := [(mo, .inr (11, [.ref m_disk, .int (nI P), .int ((8224 : Int32) + ((26 : Int32) * (nI P))), .int (1 : Int32), .int 0, .int (-1 : Int32), .int 0, .int (0 : Int32), .ref m_tape, .int 0, .ref m_slots, .ref m_leaves, .int 0, .int 0, .ref m_fresh, .int 0, .int (0 : Int32), .int (0 : Int32), .ref m_digestAt, .ref m_isGroup, .ref m_counts, .int (-1 : Int32), .int (0 : Int32), .long (0 : Int64), .int (0 : Int32), .ref m_versionRow, .int (0 : Int32), .long (0 : Int64), .ref m_state, .ref m_names, .int 0, .ref m_keptRow, .int 0, .ref m_inSlot, .ref m_inAt, .ref m_inSize, .ref m_inDigest, .int 0])), (m_digestAt, .inl (d_digestAt, 128, .inr (.inl (zr_L 128)))), (m_isGroup, .inl (d_isGroup, 128, .inl (zr_Z 128))), (m_counts, .inl (d_counts, 128, .inl (zr_Z 128)))]) hP hD [0, 1, 2, 3] [] rfl rfl (by decide) (by decide) hk1 hFc hP1 hD1
        clear hPc hDc hFc hP1 hD1 hk1 hz1
        generalize H1 = H at hP hS ⊢
        have hP : va_P (dC, dI) vwCl [(mo, .inr (11, [.ref m_disk, .int (nI P), .int ((8224 : Int32) + ((26 : Int32) * (nI P))), .int (1 : Int32), .int 0, .int (-1 : Int32), .int 0, .int (0 : Int32), .ref m_tape, .int 0, .ref m_slots, .ref m_leaves, .int 0, .int 0, .ref m_fresh, .int 0, .int (0 : Int32), .int (0 : Int32), .ref m_digestAt, .ref m_isGroup, .ref m_counts, .int (-1 : Int32), .int (0 : Int32), .long (0 : Int64), .int (0 : Int32), .ref m_versionRow, .int (0 : Int32), .long (0 : Int64), .ref m_state, .ref m_names, .int 0, .ref m_keptRow, .int 0, .ref m_inSlot, .ref m_inAt, .ref m_inSize, .ref m_inDigest, .int 0])), (m_digestAt, .inl (d_digestAt, 128, .inr (.inl (zr_L 128)))), (m_isGroup, .inl (d_isGroup, 128, .inl (zr_Z 128))), (m_counts, .inl (d_counts, 128, .inl (zr_Z 128)))] H := hP
        have hD : va_D A [(mo, .inr (11, [.ref m_disk, .int (nI P), .int ((8224 : Int32) + ((26 : Int32) * (nI P))), .int (1 : Int32), .int 0, .int (-1 : Int32), .int 0, .int (0 : Int32), .ref m_tape, .int 0, .ref m_slots, .ref m_leaves, .int 0, .int 0, .ref m_fresh, .int 0, .int (0 : Int32), .int (0 : Int32), .ref m_digestAt, .ref m_isGroup, .ref m_counts, .int (-1 : Int32), .int (0 : Int32), .long (0 : Int64), .int (0 : Int32), .ref m_versionRow, .int (0 : Int32), .long (0 : Int64), .ref m_state, .ref m_names, .int 0, .ref m_keptRow, .int 0, .ref m_inSlot, .ref m_inAt, .ref m_inSize, .ref m_inDigest, .int 0])), (m_digestAt, .inl (d_digestAt, 128, .inr (.inl (zr_L 128)))), (m_isGroup, .inl (d_isGroup, 128, .inl (zr_Z 128))), (m_counts, .inl (d_counts, 128, .inl (zr_Z 128)))] := hD
        refine lv_aload_n hx hb dX9_block_43 rfl (lv_at hl 0 rfl) ?_
        refine va_get (D := (dC, dI)) (ci := 11) (v := .int (0 : Int32)) (C := RX9) (T := TX9) (N := 38) hx hb hts (by decide +kernel) hown hK hP 0 rfl rfl 17 (by decide) (hts (.fieldLink RX9 176 "BlockLogModel" "needs" "Z") (by decide +kernel)) (fun _ h9 => h9) rfl dX9_block_44 ?_
        refine lv_if_eq (tgt := 53) hx hb dX9_block_47 (by decide) (fun c_6 => ?_) (fun c_6 => ?_)
        · skip
          refine lv_aload_n hx hb dX9_block_53 rfl (lv_at hl 0 rfl) ?_
          refine lv_lload_n hx hb dX9_block_54 rfl (lv_at hl 2 rfl) ?_
          have hPc := hP.sub (ws' := []) [] rfl
          have hKc := hK.sub (tys' := []) [] rfl
          refine vp_callSl (va_Run.run (va_runV (As := [.long w1]) (rest := []) ⟨hx, hb, hml, hown, hts⟩ (k_X9_meant_3 l dC dI mo w1 hf2) (cwV 1 hts gX9_block_X9_meant rfl rfl rfl (by decide +kernel) ⟨Nat.le_of_ble_eq_true rfl, Nat.le_of_ble_eq_true rfl⟩) ⟨fun a U g mk q => by obtain ⟨q0, qP, qK⟩ := q; exact ⟨q0, qP, va_K.moved (u := U) (U := U.calling g mk a) (Vm.Alike.refl U.vm) qK⟩, va_recv hK hP (ci := 11) (q := (RX9, TX9, 38)) rfl (q0 := 0) rfl, fun U hU hW => ⟨rfl, by rw [hU]; exact hPc, va_K.moved hW.alike hKc⟩⟩ rfl rfl hl.1 rfl (lv_room (Nat.le_of_ble_eq_true rfl)) dX9_block_55 ⟨Nat.le_of_ble_eq_true rfl, Nat.le_of_ble_eq_true rfl⟩)) (fun r_7 er_7 => ?_)
          replace er_7 := er_7.symm
          subst er_7
          refine lv_lstore (lv' := [(4, .long w1), (0, .ref mo), (1, .int p0), (2, .long w1)]) hx hb dX9_block_58 hl (by decide) rfl (fun ls hl => ?_)
          refine lv_lload hx hb dX9_block_60 (lv_at hl 0 rfl) ?_
          refine lv_lconst (v := 0) hx hb dX9_block_62 (by decide) ?_
          refine W.lcmp hx hb dX9_block_63 ?_
          refine lv_if_ne (tgt := 71) hx hb dX9_block_64 (by decide) (fun c_8 => ?_) (fun c_8 => ?_)
          · skip
            refine lv_aload_n hx hb dX9_block_71 rfl (lv_at hl 1 rfl) ?_
            refine lv_lload hx hb dX9_block_72 (lv_at hl 0 rfl) ?_
            refine lv_aload_n hx hb dX9_block_74 rfl (lv_at hl 1 rfl) ?_
            refine va_get (D := (dC, dI)) (ci := 11) (v := .int (0 : Int32)) (C := RX9) (T := TX9) (N := 38) hx hb hts (by decide +kernel) hown hK hP 0 rfl rfl 16 (by decide) (hts (.fieldLink RX9 167 "BlockLogModel" "many" "I") (by decide +kernel)) (fun _ h9 => h9) rfl dX9_block_75 ?_
            have hPc := hP.sub (ws' := []) [] rfl
            have hKc := hK.sub (tys' := []) [] rfl
            refine vp_callSi (va_Run.run (va_runV (As := [.long w1, .int (0 : Int32)]) (rest := []) ⟨hx, hb, hml, hown, hts⟩ (k_X9_blockRow_2 l dC dI mo w1) (cwV 2 hts gX9_block_X9_blockRow rfl rfl rfl (by decide +kernel) ⟨Nat.le_of_ble_eq_true rfl, Nat.le_of_ble_eq_true rfl⟩) ⟨fun a U g mk q => by obtain ⟨q0, qP, qK⟩ := q; exact ⟨q0, qP, va_K.moved (u := U) (U := U.calling g mk a) (Vm.Alike.refl U.vm) qK⟩, va_recv hK hP (ci := 11) (q := (RX9, TX9, 38)) rfl (q0 := 0) rfl, fun U hU hW => ⟨rfl, by rw [hU]; exact hPc, va_K.moved hW.alike hKc⟩⟩ rfl rfl hl.1 rfl (lv_room (Nat.le_of_ble_eq_true rfl)) dX9_block_78 ⟨Nat.le_of_ble_eq_true rfl, Nat.le_of_ble_eq_true rfl⟩)) (fun r_9 er_9 => ?_)
            subst er_9
            refine lv_istore (lv' := [(6, .int (-1 : Int32)), (4, .long w1), (0, .ref mo), (1, .int p0), (2, .long w1)]) hx hb dX9_block_81 hl (by decide) rfl (fun ls hl => ?_)
            refine lv_iload hx hb dX9_block_83 (lv_at hl 0 rfl) ?_
            refine lv_iconst (v := (-1)) hx hb dX9_block_85 (by decide) ?_
            refine lv_icmp_ne (tgt := 110) hx hb dX9_block_86 (by decide) (fun c_10 => ?_) (fun c_10 => ?_)
            · skip
              exact absurd (by decide) c_10
            · skip
              refine lv_aload_n hx hb dX9_block_89 rfl (lv_at hl 2 rfl) ?_
              refine va_get (D := (dC, dI)) (ci := 11) (v := .int (0 : Int32)) (C := RX9) (T := TX9) (N := 38) hx hb hts (by decide +kernel) hown hK hP 0 rfl rfl 24 (by decide) (hts (.fieldLink RX9 189 "BlockLogModel" "hasBase" "Z") (by decide +kernel)) (fun _ h9 => h9) rfl dX9_block_90 ?_
              refine lv_if_eq (tgt := 110) hx hb dX9_block_93 (by decide) (fun c_11 => ?_) (fun c_11 => ?_)
              · skip
                refine lv_iconst (v := 0) hx hb dX9_block_110 (by decide) ?_
                refine lv_istore (lv' := [(7, .int (0 : Int32)), (6, .int (-1 : Int32)), (4, .long w1), (0, .ref mo), (1, .int p0), (2, .long w1)]) hx hb dX9_block_111 hl (by decide) rfl (fun ls hl => ?_)
                refine lv_lload hx hb dX9_block_113 (lv_at hl 2 rfl) ?_
                refine lv_lconst (v := 0) hx hb dX9_block_115 (by decide) ?_
                refine W.lcmp hx hb dX9_block_116 ?_
                refine lv_if_ne (tgt := 131) hx hb dX9_block_117 (by decide) (fun c_12 => ?_) (fun c_12 => ?_)
                · skip
                  refine lv_iconst (v := 0) hx hb dX9_block_131 (by decide) ?_
                  refine lv_istore (lv' := [(8, .int (0 : Int32)), (7, .int (0 : Int32)), (6, .int (-1 : Int32)), (4, .long w1), (0, .ref mo), (1, .int p0), (2, .long w1)]) hx hb dX9_block_132 hl (by decide) rfl (fun ls hl => ?_)
                  refine lv_iload hx hb dX9_block_134 (lv_at hl 2 rfl) ?_
                  refine lv_iconst (v := (-1)) hx hb dX9_block_136 (by decide) ?_
                  refine lv_icmp_ne (tgt := 153) hx hb dX9_block_137 (by decide) (fun c_13 => ?_) (fun c_13 => ?_)
                  · skip
                    exact absurd (by decide) c_13
                  · skip
                    refine lv_iload hx hb dX9_block_140 (lv_at hl 1 rfl) ?_
                    refine lv_if_ne (tgt := 153) hx hb dX9_block_142 (by decide) (fun c_14 => ?_) (fun c_14 => ?_)
                    · skip
                      exact absurd (by decide) c_14
                    · skip
                      refine lv_iload hx hb dX9_block_145 (lv_at hl 0 rfl) ?_
                      refine lv_if_ne (tgt := 153) hx hb dX9_block_147 (by decide) (fun c_15 => ?_) (fun c_15 => ?_)
                      · skip
                        exact absurd (by decide) c_15
                      · skip
                        refine lv_bipush (v := (-6)) hx hb dX9_block_150 (by decide) ?_
                        have hP := hP.sub (ws' := [(mo, .inr (11, [.ref m_disk, .int (nI P), .int ((8224 : Int32) + ((26 : Int32) * (nI P))), .int (1 : Int32), .int 0, .int (-1 : Int32), .int 0, .int (0 : Int32), .ref m_tape, .int 0, .ref m_slots, .ref m_leaves, .int 0, .int 0, .ref m_fresh, .int 0, .int (0 : Int32), .int (0 : Int32), .ref m_digestAt, .ref m_isGroup, .ref m_counts, .int (-1 : Int32), .int (0 : Int32), .long (0 : Int64), .int (0 : Int32), .ref m_versionRow, .int (0 : Int32), .long (0 : Int64), .ref m_state, .ref m_names, .int 0, .ref m_keptRow, .int 0, .ref m_inSlot, .ref m_inAt, .ref m_inSize, .ref m_inDigest, .int 0]))]) [0] rfl
                        have hD := hD.sub (ws' := [(mo, .inr (11, [.ref m_disk, .int (nI P), .int ((8224 : Int32) + ((26 : Int32) * (nI P))), .int (1 : Int32), .int 0, .int (-1 : Int32), .int 0, .int (0 : Int32), .ref m_tape, .int 0, .ref m_slots, .ref m_leaves, .int 0, .int 0, .ref m_fresh, .int 0, .int (0 : Int32), .int (0 : Int32), .ref m_digestAt, .ref m_isGroup, .ref m_counts, .int (-1 : Int32), .int (0 : Int32), .long (0 : Int64), .int (0 : Int32), .ref m_versionRow, .int (0 : Int32), .long (0 : Int64), .ref m_state, .ref m_names, .int 0, .ref m_keptRow, .int 0, .ref m_inSlot, .ref m_inAt, .ref m_inSize, .ref m_inDigest, .int 0]))]) [0] (by decide) rfl
                        have hK := hK.sub (tys' := [(d_digestAt, .long), (d_isGroup, .boolean), (d_counts, .boolean)]) [0, 1, 2] rfl
                        exact W.iret hx hb hr (fun t ht hW => ⟨⟨_, (), rfl, rfl, by rw [ht]; exact hP, va_K.moved hW.alike hK, hD⟩, hS.F ht⟩) hS.2.2 dX9_block_152
                · skip
                  exact absurd c_12 (Int32.ne_of_lt hf3)
              · skip
                exact absurd (by decide) c_11
          · skip
            exact absurd c_8 (Int32.ne_of_lt hf3)
        · skip
          exact absurd (by decide) c_6
      · skip
        exact absurd (by decide) c_4
    · skip
      exact absurd c_3 (by decide)
  · skip
    exact absurd c_1 (by decide)
