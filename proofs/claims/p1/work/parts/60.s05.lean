set_option maxHeartbeats 4000000 in
set_option maxRecDepth 100000 in
theorem sg_91 {p : Program} {e : Env} {s : State} {m : MethodId} {below : List Frame} {meth : Method} {c : Code} (l : Launch) (hl0 : l.stackTraces = false) {A : Nat → Prop} {dC : Nat → ClassId} {dI : Nat → Nat → Nat} {b : Nat} {xs : Nat → Int32} (ho : Nat) (mo : Nat) (x : Nat) (rr : Nat) (ds : Nat) (so : Nat) (m_digestAt : Nat) (m_isGroup : Nat) (m_counts : Nat) (tp : Nat) (pu : Nat) (sn : Nat) (im : Nat) (cs : Nat) (cl : Nat) (ri : Nat) (P : Nat) (dl : Nat) (dr : Nat) (dt : Nat) (s1 : Nat) (s2 : Nat) (s3 : Nat) (s4 : Nat) (s5 : Nat) (s6 : Nat) (m_disk : Nat) (m_tape : Nat) (m_slots : Nat) (m_leaves : Nat) (m_fresh : Nat) (m_versionRow : Nat) (m_state : Nat) (m_names : Nat) (m_keptRow : Nat) (m_inSlot : Nat) (m_inAt : Nat) (m_inSize : Nat) (m_inDigest : Nat) (d_digestAt : ClassId) (d_isGroup : ClassId) (d_counts : ClassId) (cJ : ClassId) (C0 : lw_B p s m meth c b 6 xs A) (hf0 : 1 ≤ (xs 2)) (hf1 : (xs 2) ≤ 1000000) (hf2 : 0 ≤ lg_cmp (((xs 3).toInt64 <<< ((32 : Int32).toInt64 &&& 63)) ||| ((xs 4).toInt64 &&& (4294967295 : Int64))) (0)) (hf3 : ¬ lg_cmp (((xs 3).toInt64 <<< ((32 : Int32).toInt64 &&& 63)) ||| ((xs 4).toInt64 &&& (4294967295 : Int64))) (0) = 0) (hf4 : 0 ≤ lg_cmp (((xs 3).toInt64 <<< ((32 : Int32).toInt64 &&& 63)) ||| ((xs 4).toInt64 &&& (4294967295 : Int64))) (-128)) (hf5 : 0 < lg_cmp (((xs 3).toInt64 <<< ((32 : Int32).toInt64 &&& 63)) ||| ((xs 4).toInt64 &&& (4294967295 : Int64))) (-1)) {H : Heap} {locs : List Loc} {ls : Array Slot} (hP : va_P (dC, dI) vwCl [(x, .inr (10, [.ref tp, .ref ds, .ref rr, .ref so, .ref pu, .ref sn, .ref im, .ref cs, .ref cl, .int (0 : Int32)])), (rr, .inr (6, [.ref ds, .ref ri, .int 0, .int 1, .int 0, .int 0])), (ds, .inr (3, [.int (nI P), .ref dl, .ref dr, .ref dt, .int (1 : Int32), .int (-1 : Int32), .int (0 : Int32)])), (so, .inr (8, [.ref rr, .ref s1, .ref s2, .ref s3, .ref s4, .ref s5, .ref s6, .int (0 : Int32), .int (0 : Int32), .int (-1 : Int32), .int (0 : Int32), .int (0 : Int32)])), (mo, .inr (11, [.ref m_disk, .int (nI P), .int ((8224 : Int32) + ((26 : Int32) * (nI P))), .int (1 : Int32), .int 0, .int (-1 : Int32), .int 0, .int (0 : Int32), .ref m_tape, .int 0, .ref m_slots, .ref m_leaves, .int 0, .int 0, .ref m_fresh, .int 0, .int 0, .int 0, .ref m_digestAt, .ref m_isGroup, .ref m_counts, .int 0, .int 0, .long 0, .int 0, .ref m_versionRow, .int 0, .long 0, .ref m_state, .ref m_names, .int 0, .ref m_keptRow, .int 0, .ref m_inSlot, .ref m_inAt, .ref m_inSize, .ref m_inDigest, .int 0])), (m_digestAt, .inl (d_digestAt, 128, .inr (.inl (fun _ => 0)))), (m_isGroup, .inl (d_isGroup, 128, .inl (fun _ => 0))), (m_counts, .inl (d_counts, 128, .inl (fun _ => 0))), (ho, .inl (cJ, 1, .inr (.inl (fun _ => 0))))] H) (hK : va_K (dC, dI) vwCl [(d_digestAt, .long), (d_isGroup, .boolean), (d_counts, .boolean), (cJ, .long)] s) (hD : va_D A [(x, .inr (10, [.ref tp, .ref ds, .ref rr, .ref so, .ref pu, .ref sn, .ref im, .ref cs, .ref cl, .int (0 : Int32)])), (rr, .inr (6, [.ref ds, .ref ri, .int 0, .int 1, .int 0, .int 0])), (ds, .inr (3, [.int (nI P), .ref dl, .ref dr, .ref dt, .int (1 : Int32), .int (-1 : Int32), .int (0 : Int32)])), (so, .inr (8, [.ref rr, .ref s1, .ref s2, .ref s3, .ref s4, .ref s5, .ref s6, .int (0 : Int32), .int (0 : Int32), .int (-1 : Int32), .int (0 : Int32), .int (0 : Int32)])), (mo, .inr (11, [.ref m_disk, .int (nI P), .int ((8224 : Int32) + ((26 : Int32) * (nI P))), .int (1 : Int32), .int 0, .int (-1 : Int32), .int 0, .int (0 : Int32), .ref m_tape, .int 0, .ref m_slots, .ref m_leaves, .int 0, .int 0, .ref m_fresh, .int 0, .int 0, .int 0, .ref m_digestAt, .ref m_isGroup, .ref m_counts, .int 0, .int 0, .long 0, .int 0, .ref m_versionRow, .int 0, .long 0, .ref m_state, .ref m_names, .int 0, .ref m_keptRow, .int 0, .ref m_inSlot, .ref m_inAt, .ref m_inSize, .ref m_inDigest, .int 0])), (m_digestAt, .inl (d_digestAt, 128, .inr (.inl (fun _ => 0)))), (m_isGroup, .inl (d_isGroup, 128, .inl (fun _ => 0))), (m_counts, .inl (d_counts, 128, .inl (fun _ => 0))), (ho, .inl (cJ, 1, .inr (.inl (fun _ => 0))))]) (hS : va_S A s.heap H locs) (hl : lv_has ls 8 [(4, .int (1 : Int32)), (3, .ref ho), (2, .ref mo), (1, .ref x), (0, .ref b)]) : W p l e room_1 s m #[Value.ref b] below meth c H locs 44 439502 (lw_Z below #[Value.ref b] s) (F0 m 449 ls []) := by
  obtain ⟨hx, hb, hr, hml, hown, hts, hX, hbl, hlocks, hA, hA9, hbA, hG⟩ := C0
  refine lv_aload_n hx hb dL_law_449 rfl (lv_at hl 3 rfl) ?_
  refine lv_aload_n hx hb dL_law_450 rfl (lv_at hl 4 rfl) ?_
  refine lv_iload hx hb dL_law_451 (lv_at hl 0 rfl) ?_
  refine lv_iconst (v := 1) hx hb dL_law_453 (by decide) ?_
  refine lv_iadd hx hb dL_law_454 ?_
  refine va_sld hx hb hX hbl hbA hS (by unfold vp_in; decide +kernel : vp_in ((1 : Int32) + (1 : Int32)) 6) dL_law_455 ?_
  have e9 : ((1 : Int32) + (1 : Int32)).toNatClampNeg = 2 := by decide +kernel
  rw [e9]
  clear e9
  refine lv_aload_n hx hb dL_law_456 rfl (lv_at hl 4 rfl) ?_
  refine lv_iload hx hb dL_law_457 (lv_at hl 0 rfl) ?_
  refine lv_iconst (v := 2) hx hb dL_law_459 (by decide) ?_
  refine lv_iadd hx hb dL_law_460 ?_
  refine va_sld hx hb hX hbl hbA hS (by unfold vp_in; decide +kernel : vp_in ((1 : Int32) + (2 : Int32)) 6) dL_law_461 ?_
  have e9 : ((1 : Int32) + (2 : Int32)).toNatClampNeg = 3 := by decide +kernel
  rw [e9]
  clear e9
  refine lv_i2l hx hb dL_law_462 rfl ?_
  refine lv_bipush (v := 32) hx hb dL_law_463 (by decide) ?_
  refine lv_lshl hx hb dL_law_465 rfl ?_
  refine lv_aload_n hx hb dL_law_466 rfl (lv_at hl 4 rfl) ?_
  refine lv_iload hx hb dL_law_467 (lv_at hl 0 rfl) ?_
  refine lv_iconst (v := 3) hx hb dL_law_469 (by decide) ?_
  refine lv_iadd hx hb dL_law_470 ?_
  refine va_sld hx hb hX hbl hbA hS (by unfold vp_in; decide +kernel : vp_in ((1 : Int32) + (3 : Int32)) 6) dL_law_471 ?_
  have e9 : ((1 : Int32) + (3 : Int32)).toNatClampNeg = 4 := by decide +kernel
  rw [e9]
  clear e9
  refine lv_i2l hx hb dL_law_472 rfl ?_
  refine lv_ldc2 hx hb hown (hts (.constantLong RL 106 (4294967295)) (by decide +kernel)) dL_law_473 ?_
  refine lv_land hx hb dL_law_476 ?_
  refine lv_lor hx hb dL_law_477 ?_
  refine lv_aload_n hx hb dL_law_478 rfl (lv_at hl 1 rfl) ?_
  have hPc := hP.sub (ws' := [(x, .inr (10, [.ref tp, .ref ds, .ref rr, .ref so, .ref pu, .ref sn, .ref im, .ref cs, .ref cl, .int (0 : Int32)])), (rr, .inr (6, [.ref ds, .ref ri, .int 0, .int 1, .int 0, .int 0])), (ds, .inr (3, [.int (nI P), .ref dl, .ref dr, .ref dt, .int (1 : Int32), .int (-1 : Int32), .int (0 : Int32)])), (so, .inr (8, [.ref rr, .ref s1, .ref s2, .ref s3, .ref s4, .ref s5, .ref s6, .int (0 : Int32), .int (0 : Int32), .int (-1 : Int32), .int (0 : Int32), .int (0 : Int32)])), (ho, .inl (cJ, 1, .inr (.inl (fun _ => 0))))]) [0, 1, 2, 3, 8] rfl
  have hKc := hK.sub (tys' := [(cJ, .long)]) [3] rfl
  have hDc := hD.sub (ws' := [(x, .inr (10, [.ref tp, .ref ds, .ref rr, .ref so, .ref pu, .ref sn, .ref im, .ref cs, .ref cl, .int (0 : Int32)])), (rr, .inr (6, [.ref ds, .ref ri, .int 0, .int 1, .int 0, .int 0])), (ds, .inr (3, [.int (nI P), .ref dl, .ref dr, .ref dt, .int (1 : Int32), .int (-1 : Int32), .int (0 : Int32)])), (so, .inr (8, [.ref rr, .ref s1, .ref s2, .ref s3, .ref s4, .ref s5, .ref s6, .int (0 : Int32), .int (0 : Int32), .int (-1 : Int32), .int (0 : Int32), .int (0 : Int32)])), (ho, .inl (cJ, 1, .inr (.inl (fun _ => 0))))]) [0, 1, 2, 3, 8] (by decide) rfl
  have hFc := va_free (wc := [(x, .inr (10, [.ref tp, .ref ds, .ref rr, .ref so, .ref pu, .ref sn, .ref im, .ref cs, .ref cl, .int (0 : Int32)])), (rr, .inr (6, [.ref ds, .ref ri, .int 0, .int 1, .int 0, .int 0])), (ds, .inr (3, [.int (nI P), .ref dl, .ref dr, .ref dt, .int (1 : Int32), .int (-1 : Int32), .int (0 : Int32)])), (so, .inr (8, [.ref rr, .ref s1, .ref s2, .ref s3, .ref s4, .ref s5, .ref s6, .int (0 : Int32), .int (0 : Int32), .int (-1 : Int32), .int (0 : Int32), .int (0 : Int32)])), (ho, .inl (cJ, 1, .inr (.inl (fun _ => 0))))]) hD hS hA [0, 1, 2, 3, 8] rfl
  refine va_calli (vx_runSW (As := [.ref x, .int (xs 2), .long ((((xs 3).toInt64) <<< ((32 : Int32).toInt64 &&& 63)) ||| (((xs 4).toInt64) &&& (4294967295 : Int64))), .ref ho]) (rest := []) ⟨hx, hb, hml, hown, hts⟩ (k_L_block_3 l dC dI x (xs 2) ((((xs 3).toInt64) <<< ((32 : Int32).toInt64 &&& 63)) ||| (((xs 4).toInt64) &&& (4294967295 : Int64))) ho rr ds so tp pu sn im cs cl ri (nI P) dl dr dt s1 s2 s3 s4 s5 s6 cJ (fun _ => 0) _ hf0 hf1 hf2 hf3) (vx_cwSW 4 hts gL_law_L_block rfl rfl rfl (by decide +kernel) ⟨Nat.le_of_ble_eq_true rfl, Nat.le_of_ble_eq_true rfl⟩) ⟨fun a U g mk q => by obtain ⟨q0, q1, qP, qK, qD, qG⟩ := q; exact ⟨q0, q1, qP, va_K.moved (u := U) (U := U.calling g mk a) (Vm.Alike.refl U.vm) qK, qD, qG.same rfl rfl⟩, fun U hU hW => ⟨rfl, by rw [hU], by rw [hU]; exact hPc, va_K.moved hW.alike hKc, hDc.weaken (fun _ _ _ _ => trivial), hG.go hW hU hS hFc⟩⟩ rfl rfl hl.1 rfl (lv_room (Nat.le_of_ble_eq_true rfl)) dL_law_479 ⟨Nat.le_of_ble_eq_true rfl, Nat.le_of_ble_eq_true rfl⟩) hS (fun q _ h => hFc q h) hFc (fun r_1 u t H1 locs ht hvm er_1 hB hz1 hk1 hS => ?_)
  obtain ⟨hP1, hK1, hD1⟩ := hB
  rw [ht] at hP1
  obtain ⟨hP, hD⟩ := va_join (wr := [(mo, .inr (11, [.ref m_disk, .int (nI P), .int ((8224 : Int32) + ((26 : Int32) * (nI P))), .int (1 : Int32), .int 0, .int (-1 : Int32), .int 0, .int (0 : Int32), .ref m_tape, .int 0, .ref m_slots, .ref m_leaves, .int 0, .int 0, .ref m_fresh, .int 0, .int 0, .int 0, .ref m_digestAt, .ref m_isGroup, .ref m_counts, .int 0, .int 0, .long 0, .int 0, .ref m_versionRow, .int 0, .long 0, .ref m_state, .ref m_names, .int 0, .ref m_keptRow, .int 0, .ref m_inSlot, .ref m_inAt, .ref m_inSize, .ref m_inDigest, .int 0])), (m_digestAt, .inl (d_digestAt, 128, .inr (.inl (fun _ => 0)))), (m_isGroup, .inl (d_isGroup, 128, .inl (fun _ => 0))), (m_counts, .inl (d_counts, 128, .inl (fun _ => 0)))]) (w1 := [(ho, .inl (cJ, 1, .inr (.inl (vp_updL (fun _ => 0) (0 : Int32).toNatClampNeg ((-6 : Int32).toInt64)))))]) hP hD [0, 1, 2, 3, 8] [4, 5, 6, 7] rfl rfl (by decide) (by decide) hk1 hFc hP1 hD1
  clear hPc hDc hFc hP1 hD1 hk1 hz1
  generalize H1 = H at hP hS ⊢
  have hP : va_P (dC, dI) vwCl [(mo, .inr (11, [.ref m_disk, .int (nI P), .int ((8224 : Int32) + ((26 : Int32) * (nI P))), .int (1 : Int32), .int 0, .int (-1 : Int32), .int 0, .int (0 : Int32), .ref m_tape, .int 0, .ref m_slots, .ref m_leaves, .int 0, .int 0, .ref m_fresh, .int 0, .int 0, .int 0, .ref m_digestAt, .ref m_isGroup, .ref m_counts, .int 0, .int 0, .long 0, .int 0, .ref m_versionRow, .int 0, .long 0, .ref m_state, .ref m_names, .int 0, .ref m_keptRow, .int 0, .ref m_inSlot, .ref m_inAt, .ref m_inSize, .ref m_inDigest, .int 0])), (m_digestAt, .inl (d_digestAt, 128, .inr (.inl (fun _ => 0)))), (m_isGroup, .inl (d_isGroup, 128, .inl (fun _ => 0))), (m_counts, .inl (d_counts, 128, .inl (fun _ => 0))), (ho, .inl (cJ, 1, .inr (.inl (vp_updL (fun _ => 0) (0 : Int32).toNatClampNeg ((-6 : Int32).toInt64)))))] H := hP
  have hD : va_D A [(mo, .inr (11, [.ref m_disk, .int (nI P), .int ((8224 : Int32) + ((26 : Int32) * (nI P))), .int (1 : Int32), .int 0, .int (-1 : Int32), .int 0, .int (0 : Int32), .ref m_tape, .int 0, .ref m_slots, .ref m_leaves, .int 0, .int 0, .ref m_fresh, .int 0, .int 0, .int 0, .ref m_digestAt, .ref m_isGroup, .ref m_counts, .int 0, .int 0, .long 0, .int 0, .ref m_versionRow, .int 0, .long 0, .ref m_state, .ref m_names, .int 0, .ref m_keptRow, .int 0, .ref m_inSlot, .ref m_inAt, .ref m_inSize, .ref m_inDigest, .int 0])), (m_digestAt, .inl (d_digestAt, 128, .inr (.inl (fun _ => 0)))), (m_isGroup, .inl (d_isGroup, 128, .inl (fun _ => 0))), (m_counts, .inl (d_counts, 128, .inl (fun _ => 0))), (ho, .inl (cJ, 1, .inr (.inl (vp_updL (fun _ => 0) (0 : Int32).toNatClampNeg ((-6 : Int32).toInt64)))))] := hD
  subst er_1
  refine lv_istore (lv' := [(5, .int (0 : Int32)), (4, .int (1 : Int32)), (3, .ref ho), (2, .ref mo), (1, .ref x), (0, .ref b)]) hx hb dL_law_482 hl (by decide) rfl (fun ls hl => ?_)
  refine lv_aload_n hx hb dL_law_484 rfl (lv_at hl 3 rfl) ?_
  refine lv_aload_n hx hb dL_law_485 rfl (lv_at hl 5 rfl) ?_
  refine lv_iload hx hb dL_law_486 (lv_at hl 1 rfl) ?_
  refine lv_iconst (v := 1) hx hb dL_law_488 (by decide) ?_
  refine lv_iadd hx hb dL_law_489 ?_
  refine va_sld hx hb hX hbl hbA hS (by unfold vp_in; decide +kernel : vp_in ((1 : Int32) + (1 : Int32)) 6) dL_law_490 ?_
  have e9 : ((1 : Int32) + (1 : Int32)).toNatClampNeg = 2 := by decide +kernel
  rw [e9]
  clear e9
  refine lv_aload_n hx hb dL_law_491 rfl (lv_at hl 5 rfl) ?_
  refine lv_iload hx hb dL_law_492 (lv_at hl 1 rfl) ?_
  refine lv_iconst (v := 2) hx hb dL_law_494 (by decide) ?_
  refine lv_iadd hx hb dL_law_495 ?_
  refine va_sld hx hb hX hbl hbA hS (by unfold vp_in; decide +kernel : vp_in ((1 : Int32) + (2 : Int32)) 6) dL_law_496 ?_
  have e9 : ((1 : Int32) + (2 : Int32)).toNatClampNeg = 3 := by decide +kernel
  rw [e9]
  clear e9
  refine lv_i2l hx hb dL_law_497 rfl ?_
  refine lv_bipush (v := 32) hx hb dL_law_498 (by decide) ?_
  refine lv_lshl hx hb dL_law_500 rfl ?_
  refine lv_aload_n hx hb dL_law_501 rfl (lv_at hl 5 rfl) ?_
  refine lv_iload hx hb dL_law_502 (lv_at hl 1 rfl) ?_
  refine lv_iconst (v := 3) hx hb dL_law_504 (by decide) ?_
  refine lv_iadd hx hb dL_law_505 ?_
  refine va_sld hx hb hX hbl hbA hS (by unfold vp_in; decide +kernel : vp_in ((1 : Int32) + (3 : Int32)) 6) dL_law_506 ?_
  have e9 : ((1 : Int32) + (3 : Int32)).toNatClampNeg = 4 := by decide +kernel
  rw [e9]
  clear e9
  refine lv_i2l hx hb dL_law_507 rfl ?_
  refine lv_ldc2 hx hb hown (hts (.constantLong RL 106 (4294967295)) (by decide +kernel)) dL_law_508 ?_
  refine lv_land hx hb dL_law_511 ?_
  refine lv_lor hx hb dL_law_512 ?_
  have hPc := hP.sub (ws' := [(mo, .inr (11, [.ref m_disk, .int (nI P), .int ((8224 : Int32) + ((26 : Int32) * (nI P))), .int (1 : Int32), .int 0, .int (-1 : Int32), .int 0, .int (0 : Int32), .ref m_tape, .int 0, .ref m_slots, .ref m_leaves, .int 0, .int 0, .ref m_fresh, .int 0, .int 0, .int 0, .ref m_digestAt, .ref m_isGroup, .ref m_counts, .int 0, .int 0, .long 0, .int 0, .ref m_versionRow, .int 0, .long 0, .ref m_state, .ref m_names, .int 0, .ref m_keptRow, .int 0, .ref m_inSlot, .ref m_inAt, .ref m_inSize, .ref m_inDigest, .int 0])), (m_digestAt, .inl (d_digestAt, 128, .inr (.inl (fun _ => 0)))), (m_isGroup, .inl (d_isGroup, 128, .inl (fun _ => 0))), (m_counts, .inl (d_counts, 128, .inl (fun _ => 0)))]) [0, 1, 2, 3] rfl
  have hKc := hK.sub (tys' := [(d_digestAt, .long), (d_isGroup, .boolean), (d_counts, .boolean)]) [0, 1, 2] rfl
  have hDc := hD.sub (ws' := [(mo, .inr (11, [.ref m_disk, .int (nI P), .int ((8224 : Int32) + ((26 : Int32) * (nI P))), .int (1 : Int32), .int 0, .int (-1 : Int32), .int 0, .int (0 : Int32), .ref m_tape, .int 0, .ref m_slots, .ref m_leaves, .int 0, .int 0, .ref m_fresh, .int 0, .int 0, .int 0, .ref m_digestAt, .ref m_isGroup, .ref m_counts, .int 0, .int 0, .long 0, .int 0, .ref m_versionRow, .int 0, .long 0, .ref m_state, .ref m_names, .int 0, .ref m_keptRow, .int 0, .ref m_inSlot, .ref m_inAt, .ref m_inSize, .ref m_inDigest, .int 0])), (m_digestAt, .inl (d_digestAt, 128, .inr (.inl (fun _ => 0)))), (m_isGroup, .inl (d_isGroup, 128, .inl (fun _ => 0))), (m_counts, .inl (d_counts, 128, .inl (fun _ => 0)))]) [0, 1, 2, 3] (by decide) rfl
  have hFc := va_free (wc := [(mo, .inr (11, [.ref m_disk, .int (nI P), .int ((8224 : Int32) + ((26 : Int32) * (nI P))), .int (1 : Int32), .int 0, .int (-1 : Int32), .int 0, .int (0 : Int32), .ref m_tape, .int 0, .ref m_slots, .ref m_leaves, .int 0, .int 0, .ref m_fresh, .int 0, .int 0, .int 0, .ref m_digestAt, .ref m_isGroup, .ref m_counts, .int 0, .int 0, .long 0, .int 0, .ref m_versionRow, .int 0, .long 0, .ref m_state, .ref m_names, .int 0, .ref m_keptRow, .int 0, .ref m_inSlot, .ref m_inAt, .ref m_inSize, .ref m_inDigest, .int 0])), (m_digestAt, .inl (d_digestAt, 128, .inr (.inl (fun _ => 0)))), (m_isGroup, .inl (d_isGroup, 128, .inl (fun _ => 0))), (m_counts, .inl (d_counts, 128, .inl (fun _ => 0)))]) hD hS hA [0, 1, 2, 3] rfl
  refine va_calli (va_runV (As := [.int (xs 2), .long ((((xs 3).toInt64) <<< ((32 : Int32).toInt64 &&& 63)) ||| (((xs 4).toInt64) &&& (4294967295 : Int64)))]) (rest := []) ⟨hx, hb, hml, hown, hts⟩ (k_X9_block_3 l dC dI mo (xs 2) ((((xs 3).toInt64) <<< ((32 : Int32).toInt64 &&& 63)) ||| (((xs 4).toInt64) &&& (4294967295 : Int64))) m_digestAt m_isGroup m_counts m_disk P m_tape m_slots m_leaves m_fresh m_versionRow m_state m_names m_keptRow m_inSlot m_inAt m_inSize m_inDigest d_digestAt d_isGroup d_counts _ hf0 hf1 hf4 hf5 hf3) (cwV 2 hts gL_law_X9_block rfl rfl rfl (by decide +kernel) ⟨Nat.le_of_ble_eq_true rfl, Nat.le_of_ble_eq_true rfl⟩) ⟨fun a U g mk q => by obtain ⟨q0, q1, qP, qK, qD⟩ := q; exact ⟨q0, q1, qP, va_K.moved (u := U) (U := U.calling g mk a) (Vm.Alike.refl U.vm) qK, qD⟩, va_recv hK hP (ci := 11) (q := (RX9, TX9, 38)) rfl (q0 := 0) rfl, fun U hU hW => ⟨rfl, by rw [hU], by rw [hU]; exact hPc, va_K.moved hW.alike hKc, hDc.weaken (fun _ _ _ _ => trivial)⟩⟩ rfl rfl hl.1 rfl (lv_room (Nat.le_of_ble_eq_true rfl)) dL_law_513 ⟨Nat.le_of_ble_eq_true rfl, Nat.le_of_ble_eq_true rfl⟩) hS (fun q _ h => hFc q h) hFc (fun r_2 u t H1 locs ht hvm er_2 hB hz1 hk1 hS => ?_)
  obtain ⟨hP1, hK1, hD1⟩ := hB
  rw [ht] at hP1
  obtain ⟨hP, hD⟩ := va_join (wr := [(ho, .inl (cJ, 1, .inr (.inl (vp_updL (fun _ => 0) (0 : Int32).toNatClampNeg ((-6 : Int32).toInt64)))))]) (w1 := [(mo, .inr (11, [.ref m_disk, .int (nI P), .int ((8224 : Int32) + ((26 : Int32) * (nI P))), .int (1 : Int32), .int 0, .int (-1 : Int32), .int 0, .int (0 : Int32), .ref m_tape, .int 0, .ref m_slots, .ref m_leaves, .int 0, .int 0, .ref m_fresh, .int 0, .int (0 : Int32), .int (0 : Int32), .ref m_digestAt, .ref m_isGroup, .ref m_counts, .int (-1 : Int32), .int (0 : Int32), .long (0 : Int64), .int (0 : Int32), .ref m_versionRow, .int (0 : Int32), .long (0 : Int64), .ref m_state, .ref m_names, .int 0, .ref m_keptRow, .int 0, .ref m_inSlot, .ref m_inAt, .ref m_inSize, .ref m_inDigest, .int 0]))]) hP hD [0, 1, 2, 3] [4] rfl rfl (by decide) (by decide) hk1 hFc hP1 hD1
  clear hPc hDc hFc hP1 hD1 hk1 hz1
  generalize H1 = H at hP hS ⊢
  have hP : va_P (dC, dI) vwCl [(ho, .inl (cJ, 1, .inr (.inl (vp_updL (fun _ => 0) (0 : Int32).toNatClampNeg ((-6 : Int32).toInt64))))), (mo, .inr (11, [.ref m_disk, .int (nI P), .int ((8224 : Int32) + ((26 : Int32) * (nI P))), .int (1 : Int32), .int 0, .int (-1 : Int32), .int 0, .int (0 : Int32), .ref m_tape, .int 0, .ref m_slots, .ref m_leaves, .int 0, .int 0, .ref m_fresh, .int 0, .int (0 : Int32), .int (0 : Int32), .ref m_digestAt, .ref m_isGroup, .ref m_counts, .int (-1 : Int32), .int (0 : Int32), .long (0 : Int64), .int (0 : Int32), .ref m_versionRow, .int (0 : Int32), .long (0 : Int64), .ref m_state, .ref m_names, .int 0, .ref m_keptRow, .int 0, .ref m_inSlot, .ref m_inAt, .ref m_inSize, .ref m_inDigest, .int 0]))] H := hP
  have hD : va_D A [(ho, .inl (cJ, 1, .inr (.inl (vp_updL (fun _ => 0) (0 : Int32).toNatClampNeg ((-6 : Int32).toInt64))))), (mo, .inr (11, [.ref m_disk, .int (nI P), .int ((8224 : Int32) + ((26 : Int32) * (nI P))), .int (1 : Int32), .int 0, .int (-1 : Int32), .int 0, .int (0 : Int32), .ref m_tape, .int 0, .ref m_slots, .ref m_leaves, .int 0, .int 0, .ref m_fresh, .int 0, .int (0 : Int32), .int (0 : Int32), .ref m_digestAt, .ref m_isGroup, .ref m_counts, .int (-1 : Int32), .int (0 : Int32), .long (0 : Int64), .int (0 : Int32), .ref m_versionRow, .int (0 : Int32), .long (0 : Int64), .ref m_state, .ref m_names, .int 0, .ref m_keptRow, .int 0, .ref m_inSlot, .ref m_inAt, .ref m_inSize, .ref m_inDigest, .int 0]))] := hD
  subst er_2
  refine lv_istore (lv' := [(6, .int (-6 : Int32)), (5, .int (0 : Int32)), (4, .int (1 : Int32)), (3, .ref ho), (2, .ref mo), (1, .ref x), (0, .ref b)]) hx hb dL_law_516 hl (by decide) rfl (fun ls hl => ?_)
  refine lv_aload_n hx hb dL_law_518 rfl (lv_at hl 4 rfl) ?_
  have hPc := hP.sub (ws' := [(mo, .inr (11, [.ref m_disk, .int (nI P), .int ((8224 : Int32) + ((26 : Int32) * (nI P))), .int (1 : Int32), .int 0, .int (-1 : Int32), .int 0, .int (0 : Int32), .ref m_tape, .int 0, .ref m_slots, .ref m_leaves, .int 0, .int 0, .ref m_fresh, .int 0, .int (0 : Int32), .int (0 : Int32), .ref m_digestAt, .ref m_isGroup, .ref m_counts, .int (-1 : Int32), .int (0 : Int32), .long (0 : Int64), .int (0 : Int32), .ref m_versionRow, .int (0 : Int32), .long (0 : Int64), .ref m_state, .ref m_names, .int 0, .ref m_keptRow, .int 0, .ref m_inSlot, .ref m_inAt, .ref m_inSize, .ref m_inDigest, .int 0]))]) [1] rfl
  have hKc := hK.sub (tys' := []) [] rfl
  refine vp_callSi (va_Run.run (va_runV (As := []) (rest := []) ⟨hx, hb, hml, hown, hts⟩ (k_X9_thrown_1 l dC dI mo (.ref m_disk) (.int (nI P)) (.int ((8224 : Int32) + ((26 : Int32) * (nI P)))) (.int (1 : Int32)) (.int 0) (.int (-1 : Int32)) (.int 0) (.int (0 : Int32)) (.ref m_tape) (.int 0) (.ref m_slots) (.ref m_leaves) (.int 0) 0 ([.ref m_fresh, .int 0, .int (0 : Int32), .int (0 : Int32), .ref m_digestAt, .ref m_isGroup, .ref m_counts, .int (-1 : Int32), .int (0 : Int32), .long (0 : Int64), .int (0 : Int32), .ref m_versionRow, .int (0 : Int32), .long (0 : Int64), .ref m_state, .ref m_names, .int 0, .ref m_keptRow, .int 0, .ref m_inSlot, .ref m_inAt, .ref m_inSize, .ref m_inDigest, .int 0])) (cwV 0 hts gL_law_X9_thrown rfl rfl rfl (by decide +kernel) ⟨Nat.le_of_ble_eq_true rfl, Nat.le_of_ble_eq_true rfl⟩) ⟨fun a U g mk q => by obtain ⟨q0, qP, qK⟩ := q; exact ⟨q0, qP, va_K.moved (u := U) (U := U.calling g mk a) (Vm.Alike.refl U.vm) qK⟩, va_recv hK hP (ci := 11) (q := (RX9, TX9, 38)) rfl (q0 := 1) rfl, fun U hU hW => ⟨rfl, by rw [hU]; exact hPc, va_K.moved hW.alike hKc⟩⟩ rfl rfl hl.1 rfl (lv_room (Nat.le_of_ble_eq_true rfl)) dL_law_519 ⟨Nat.le_of_ble_eq_true rfl, Nat.le_of_ble_eq_true rfl⟩)) (fun r_3 er_3 => ?_)
  replace er_3 := er_3.trans (show _ = (0 : Int32) by decide +kernel)
  subst er_3
  refine lv_iload hx hb dL_law_522 (lv_at hl 1 rfl) ?_
  refine lv_icmp_eq (tgt := 529) hx hb dL_law_524 (by decide) (fun c_4 => ?_) (fun c_4 => ?_)
  · skip
    refine lv_iload hx hb dL_law_529 (lv_at hl 1 rfl) ?_
    refine lv_if_ne (tgt := 546) hx hb dL_law_531 (by decide) (fun c_5 => ?_) (fun c_5 => ?_)
    · skip
      exact absurd (by decide) c_5
    · skip
      refine lv_aload_n hx hb dL_law_534 rfl (lv_at hl 3 rfl) ?_
      refine lv_iconst (v := 0) hx hb dL_law_535 (by decide) ?_
      refine va_lald hx hb hK hP 0 3 rfl rfl (by unfold vp_in; decide +kernel) dL_law_536 ?_
      have e9 : (vp_updL (fun _ => 0) (0 : Int32).toNatClampNeg ((-6 : Int32).toInt64)) (0 : Int32).toNatClampNeg = (-6 : Int32).toInt64 := if_pos rfl
      rw [e9]
      clear e9
      refine lv_iload hx hb dL_law_537 (lv_at hl 0 rfl) ?_
      refine lv_i2l hx hb dL_law_539 rfl ?_
      refine W.lcmp hx hb dL_law_540 ?_
      refine lv_if_eq (tgt := 546) hx hb dL_law_541 (by decide) (fun c_6 => ?_) (fun c_6 => ?_)
      · skip
        refine lv_goto (tgt := 1731) hx hb dL_law_546 (by decide) ?_
        refine lv_iinc (v := (6 : Int32)) (lv' := [(4, .int (6 : Int32)), (6, .int (-6 : Int32)), (5, .int (0 : Int32)), (3, .ref ho), (2, .ref mo), (1, .ref x), (0, .ref b)]) hx hb dL_law_1731 hl (k := 2) rfl (by decide) (by decide) rfl (fun ls hl => ?_)
        refine lv_goto (tgt := 33) hx hb dL_law_1734 (by decide) ?_
        refine lv_iload hx hb dL_law_33 (lv_at hl 0 rfl) ?_
        refine lv_aload_n hx hb dL_law_35 rfl (lv_at hl 6 rfl) ?_
        refine va_slen hx hb hX hbl hbA hS dL_law_36 ?_
        refine lv_iconst (v := 5) hx hb dL_law_37 (by decide) ?_
        refine lv_isub hx hb dL_law_38 ?_
        refine lv_icmp_gt (tgt := 1737) hx hb dL_law_39 (by decide) (fun c_7 => ?_) (fun c_7 => ?_)
        · skip
          refine lv_iconst (v := 1) hx hb dL_law_1737 (by decide) ?_
          refine va_forget (fun q hq => hA9 _ (hS.2.2 q hq)) ?_
          refine W.widen (k := 600002) (n := 7302198) (Nat.le_of_ble_eq_true rfl) (Nat.le_of_ble_eq_true rfl) ?_
          exact lw_ret hx hb hr hlocks dL_law_1738
        · skip
          exact absurd (by decide) c_7
      · skip
        exact absurd ((lg_cmp_eq _ _).mpr rfl) c_6
  · skip
    exact absurd (by decide) c_4

set_option maxHeartbeats 4000000 in
set_option maxRecDepth 100000 in
theorem sg_92 {p : Program} {e : Env} {s : State} {m : MethodId} {below : List Frame} {meth : Method} {c : Code} (l : Launch) (hl0 : l.stackTraces = false) {A : Nat → Prop} {dC : Nat → ClassId} {dI : Nat → Nat → Nat} {b : Nat} {xs : Nat → Int32} (ho : Nat) (mo : Nat) (x : Nat) (rr : Nat) (ds : Nat) (so : Nat) (m_digestAt : Nat) (m_isGroup : Nat) (m_counts : Nat) (tp : Nat) (pu : Nat) (sn : Nat) (im : Nat) (cs : Nat) (cl : Nat) (ri : Nat) (P : Nat) (dl : Nat) (dr : Nat) (dt : Nat) (s1 : Nat) (s2 : Nat) (s3 : Nat) (s4 : Nat) (s5 : Nat) (s6 : Nat) (m_disk : Nat) (m_tape : Nat) (m_slots : Nat) (m_leaves : Nat) (m_fresh : Nat) (m_versionRow : Nat) (m_state : Nat) (m_names : Nat) (m_keptRow : Nat) (m_inSlot : Nat) (m_inAt : Nat) (m_inSize : Nat) (m_inDigest : Nat) (d_digestAt : ClassId) (d_isGroup : ClassId) (d_counts : ClassId) (cJ : ClassId) (C0 : lw_B p s m meth c b 6 xs A) (hf0 : 1 ≤ (xs 2)) (hf1 : (xs 2) ≤ 1000000) (hf2 : lg_cmp (((xs 3).toInt64 <<< ((32 : Int32).toInt64 &&& 63)) ||| ((xs 4).toInt64 &&& (4294967295 : Int64))) (0) < 0) (hf3 : lg_cmp (((xs 3).toInt64 <<< ((32 : Int32).toInt64 &&& 63)) ||| ((xs 4).toInt64 &&& (4294967295 : Int64))) (-128) < 0) {H : Heap} {locs : List Loc} {ls : Array Slot} (hP : va_P (dC, dI) vwCl [(x, .inr (10, [.ref tp, .ref ds, .ref rr, .ref so, .ref pu, .ref sn, .ref im, .ref cs, .ref cl, .int (0 : Int32)])), (rr, .inr (6, [.ref ds, .ref ri, .int 0, .int 1, .int 0, .int 0])), (ds, .inr (3, [.int (nI P), .ref dl, .ref dr, .ref dt, .int (1 : Int32), .int (-1 : Int32), .int (0 : Int32)])), (so, .inr (8, [.ref rr, .ref s1, .ref s2, .ref s3, .ref s4, .ref s5, .ref s6, .int (0 : Int32), .int (0 : Int32), .int (-1 : Int32), .int (0 : Int32), .int (0 : Int32)])), (mo, .inr (11, [.ref m_disk, .int (nI P), .int ((8224 : Int32) + ((26 : Int32) * (nI P))), .int (1 : Int32), .int 0, .int (-1 : Int32), .int 0, .int (0 : Int32), .ref m_tape, .int 0, .ref m_slots, .ref m_leaves, .int 0, .int 0, .ref m_fresh, .int 0, .int 0, .int 0, .ref m_digestAt, .ref m_isGroup, .ref m_counts, .int 0, .int 0, .long 0, .int 0, .ref m_versionRow, .int 0, .long 0, .ref m_state, .ref m_names, .int 0, .ref m_keptRow, .int 0, .ref m_inSlot, .ref m_inAt, .ref m_inSize, .ref m_inDigest, .int 0])), (m_digestAt, .inl (d_digestAt, 128, .inr (.inl (fun _ => 0)))), (m_isGroup, .inl (d_isGroup, 128, .inl (fun _ => 0))), (m_counts, .inl (d_counts, 128, .inl (fun _ => 0))), (ho, .inl (cJ, 1, .inr (.inl (fun _ => 0))))] H) (hK : va_K (dC, dI) vwCl [(d_digestAt, .long), (d_isGroup, .boolean), (d_counts, .boolean), (cJ, .long)] s) (hD : va_D A [(x, .inr (10, [.ref tp, .ref ds, .ref rr, .ref so, .ref pu, .ref sn, .ref im, .ref cs, .ref cl, .int (0 : Int32)])), (rr, .inr (6, [.ref ds, .ref ri, .int 0, .int 1, .int 0, .int 0])), (ds, .inr (3, [.int (nI P), .ref dl, .ref dr, .ref dt, .int (1 : Int32), .int (-1 : Int32), .int (0 : Int32)])), (so, .inr (8, [.ref rr, .ref s1, .ref s2, .ref s3, .ref s4, .ref s5, .ref s6, .int (0 : Int32), .int (0 : Int32), .int (-1 : Int32), .int (0 : Int32), .int (0 : Int32)])), (mo, .inr (11, [.ref m_disk, .int (nI P), .int ((8224 : Int32) + ((26 : Int32) * (nI P))), .int (1 : Int32), .int 0, .int (-1 : Int32), .int 0, .int (0 : Int32), .ref m_tape, .int 0, .ref m_slots, .ref m_leaves, .int 0, .int 0, .ref m_fresh, .int 0, .int 0, .int 0, .ref m_digestAt, .ref m_isGroup, .ref m_counts, .int 0, .int 0, .long 0, .int 0, .ref m_versionRow, .int 0, .long 0, .ref m_state, .ref m_names, .int 0, .ref m_keptRow, .int 0, .ref m_inSlot, .ref m_inAt, .ref m_inSize, .ref m_inDigest, .int 0])), (m_digestAt, .inl (d_digestAt, 128, .inr (.inl (fun _ => 0)))), (m_isGroup, .inl (d_isGroup, 128, .inl (fun _ => 0))), (m_counts, .inl (d_counts, 128, .inl (fun _ => 0))), (ho, .inl (cJ, 1, .inr (.inl (fun _ => 0))))]) (hS : va_S A s.heap H locs) (hl : lv_has ls 8 [(4, .int (1 : Int32)), (3, .ref ho), (2, .ref mo), (1, .ref x), (0, .ref b)]) : W p l e room_1 s m #[Value.ref b] below meth c H locs 44 439502 (lw_Z below #[Value.ref b] s) (F0 m 449 ls []) := by
  obtain ⟨hx, hb, hr, hml, hown, hts, hX, hbl, hlocks, hA, hA9, hbA, hG⟩ := C0
  refine lv_aload_n hx hb dL_law_449 rfl (lv_at hl 3 rfl) ?_
  refine lv_aload_n hx hb dL_law_450 rfl (lv_at hl 4 rfl) ?_
  refine lv_iload hx hb dL_law_451 (lv_at hl 0 rfl) ?_
  refine lv_iconst (v := 1) hx hb dL_law_453 (by decide) ?_
  refine lv_iadd hx hb dL_law_454 ?_
  refine va_sld hx hb hX hbl hbA hS (by unfold vp_in; decide +kernel : vp_in ((1 : Int32) + (1 : Int32)) 6) dL_law_455 ?_
  have e9 : ((1 : Int32) + (1 : Int32)).toNatClampNeg = 2 := by decide +kernel
  rw [e9]
  clear e9
  refine lv_aload_n hx hb dL_law_456 rfl (lv_at hl 4 rfl) ?_
  refine lv_iload hx hb dL_law_457 (lv_at hl 0 rfl) ?_
  refine lv_iconst (v := 2) hx hb dL_law_459 (by decide) ?_
  refine lv_iadd hx hb dL_law_460 ?_
  refine va_sld hx hb hX hbl hbA hS (by unfold vp_in; decide +kernel : vp_in ((1 : Int32) + (2 : Int32)) 6) dL_law_461 ?_
  have e9 : ((1 : Int32) + (2 : Int32)).toNatClampNeg = 3 := by decide +kernel
  rw [e9]
  clear e9
  refine lv_i2l hx hb dL_law_462 rfl ?_
  refine lv_bipush (v := 32) hx hb dL_law_463 (by decide) ?_
  refine lv_lshl hx hb dL_law_465 rfl ?_
  refine lv_aload_n hx hb dL_law_466 rfl (lv_at hl 4 rfl) ?_
  refine lv_iload hx hb dL_law_467 (lv_at hl 0 rfl) ?_
  refine lv_iconst (v := 3) hx hb dL_law_469 (by decide) ?_
  refine lv_iadd hx hb dL_law_470 ?_
  refine va_sld hx hb hX hbl hbA hS (by unfold vp_in; decide +kernel : vp_in ((1 : Int32) + (3 : Int32)) 6) dL_law_471 ?_
  have e9 : ((1 : Int32) + (3 : Int32)).toNatClampNeg = 4 := by decide +kernel
  rw [e9]
  clear e9
  refine lv_i2l hx hb dL_law_472 rfl ?_
  refine lv_ldc2 hx hb hown (hts (.constantLong RL 106 (4294967295)) (by decide +kernel)) dL_law_473 ?_
  refine lv_land hx hb dL_law_476 ?_
  refine lv_lor hx hb dL_law_477 ?_
  refine lv_aload_n hx hb dL_law_478 rfl (lv_at hl 1 rfl) ?_
  have hPc := hP.sub (ws' := [(x, .inr (10, [.ref tp, .ref ds, .ref rr, .ref so, .ref pu, .ref sn, .ref im, .ref cs, .ref cl, .int (0 : Int32)])), (rr, .inr (6, [.ref ds, .ref ri, .int 0, .int 1, .int 0, .int 0])), (ds, .inr (3, [.int (nI P), .ref dl, .ref dr, .ref dt, .int (1 : Int32), .int (-1 : Int32), .int (0 : Int32)])), (so, .inr (8, [.ref rr, .ref s1, .ref s2, .ref s3, .ref s4, .ref s5, .ref s6, .int (0 : Int32), .int (0 : Int32), .int (-1 : Int32), .int (0 : Int32), .int (0 : Int32)])), (ho, .inl (cJ, 1, .inr (.inl (fun _ => 0))))]) [0, 1, 2, 3, 8] rfl
  have hKc := hK.sub (tys' := [(cJ, .long)]) [3] rfl
  have hDc := hD.sub (ws' := [(x, .inr (10, [.ref tp, .ref ds, .ref rr, .ref so, .ref pu, .ref sn, .ref im, .ref cs, .ref cl, .int (0 : Int32)])), (rr, .inr (6, [.ref ds, .ref ri, .int 0, .int 1, .int 0, .int 0])), (ds, .inr (3, [.int (nI P), .ref dl, .ref dr, .ref dt, .int (1 : Int32), .int (-1 : Int32), .int (0 : Int32)])), (so, .inr (8, [.ref rr, .ref s1, .ref s2, .ref s3, .ref s4, .ref s5, .ref s6, .int (0 : Int32), .int (0 : Int32), .int (-1 : Int32), .int (0 : Int32), .int (0 : Int32)])), (ho, .inl (cJ, 1, .inr (.inl (fun _ => 0))))]) [0, 1, 2, 3, 8] (by decide) rfl
  have hFc := va_free (wc := [(x, .inr (10, [.ref tp, .ref ds, .ref rr, .ref so, .ref pu, .ref sn, .ref im, .ref cs, .ref cl, .int (0 : Int32)])), (rr, .inr (6, [.ref ds, .ref ri, .int 0, .int 1, .int 0, .int 0])), (ds, .inr (3, [.int (nI P), .ref dl, .ref dr, .ref dt, .int (1 : Int32), .int (-1 : Int32), .int (0 : Int32)])), (so, .inr (8, [.ref rr, .ref s1, .ref s2, .ref s3, .ref s4, .ref s5, .ref s6, .int (0 : Int32), .int (0 : Int32), .int (-1 : Int32), .int (0 : Int32), .int (0 : Int32)])), (ho, .inl (cJ, 1, .inr (.inl (fun _ => 0))))]) hD hS hA [0, 1, 2, 3, 8] rfl
  refine va_calli (vx_runSW (As := [.ref x, .int (xs 2), .long ((((xs 3).toInt64) <<< ((32 : Int32).toInt64 &&& 63)) ||| (((xs 4).toInt64) &&& (4294967295 : Int64))), .ref ho]) (rest := []) ⟨hx, hb, hml, hown, hts⟩ (k_L_block_4 l dC dI x (xs 2) ((((xs 3).toInt64) <<< ((32 : Int32).toInt64 &&& 63)) ||| (((xs 4).toInt64) &&& (4294967295 : Int64))) ho rr ds so tp pu sn im cs cl ri (nI P) dl dr dt s1 s2 s3 s4 s5 s6 cJ (fun _ => 0) _ hf0 hf1 hf2 hf3) (vx_cwSW 4 hts gL_law_L_block rfl rfl rfl (by decide +kernel) ⟨Nat.le_of_ble_eq_true rfl, Nat.le_of_ble_eq_true rfl⟩) ⟨fun a U g mk q => by obtain ⟨q0, q1, qP, qK, qD, qG⟩ := q; exact ⟨q0, q1, qP, va_K.moved (u := U) (U := U.calling g mk a) (Vm.Alike.refl U.vm) qK, qD, qG.same rfl rfl⟩, fun U hU hW => ⟨rfl, by rw [hU], by rw [hU]; exact hPc, va_K.moved hW.alike hKc, hDc.weaken (fun _ _ _ _ => trivial), hG.go hW hU hS hFc⟩⟩ rfl rfl hl.1 rfl (lv_room (Nat.le_of_ble_eq_true rfl)) dL_law_479 ⟨Nat.le_of_ble_eq_true rfl, Nat.le_of_ble_eq_true rfl⟩) hS (fun q _ h => hFc q h) hFc (fun r_1 u t H1 locs ht hvm er_1 hB hz1 hk1 hS => ?_)
  obtain ⟨hP1, hK1, hD1⟩ := hB
  rw [ht] at hP1
  obtain ⟨hP, hD⟩ := va_join (wr := [(mo, .inr (11, [.ref m_disk, .int (nI P), .int ((8224 : Int32) + ((26 : Int32) * (nI P))), .int (1 : Int32), .int 0, .int (-1 : Int32), .int 0, .int (0 : Int32), .ref m_tape, .int 0, .ref m_slots, .ref m_leaves, .int 0, .int 0, .ref m_fresh, .int 0, .int 0, .int 0, .ref m_digestAt, .ref m_isGroup, .ref m_counts, .int 0, .int 0, .long 0, .int 0, .ref m_versionRow, .int 0, .long 0, .ref m_state, .ref m_names, .int 0, .ref m_keptRow, .int 0, .ref m_inSlot, .ref m_inAt, .ref m_inSize, .ref m_inDigest, .int 0])), (m_digestAt, .inl (d_digestAt, 128, .inr (.inl (fun _ => 0)))), (m_isGroup, .inl (d_isGroup, 128, .inl (fun _ => 0))), (m_counts, .inl (d_counts, 128, .inl (fun _ => 0)))]) (w1 := [(ho, .inl (cJ, 1, .inr (.inl (vp_updL (fun _ => 0) (0 : Int32).toNatClampNeg ((-6 : Int32).toInt64)))))]) hP hD [0, 1, 2, 3, 8] [4, 5, 6, 7] rfl rfl (by decide) (by decide) hk1 hFc hP1 hD1
  clear hPc hDc hFc hP1 hD1 hk1 hz1
  generalize H1 = H at hP hS ⊢
  have hP : va_P (dC, dI) vwCl [(mo, .inr (11, [.ref m_disk, .int (nI P), .int ((8224 : Int32) + ((26 : Int32) * (nI P))), .int (1 : Int32), .int 0, .int (-1 : Int32), .int 0, .int (0 : Int32), .ref m_tape, .int 0, .ref m_slots, .ref m_leaves, .int 0, .int 0, .ref m_fresh, .int 0, .int 0, .int 0, .ref m_digestAt, .ref m_isGroup, .ref m_counts, .int 0, .int 0, .long 0, .int 0, .ref m_versionRow, .int 0, .long 0, .ref m_state, .ref m_names, .int 0, .ref m_keptRow, .int 0, .ref m_inSlot, .ref m_inAt, .ref m_inSize, .ref m_inDigest, .int 0])), (m_digestAt, .inl (d_digestAt, 128, .inr (.inl (fun _ => 0)))), (m_isGroup, .inl (d_isGroup, 128, .inl (fun _ => 0))), (m_counts, .inl (d_counts, 128, .inl (fun _ => 0))), (ho, .inl (cJ, 1, .inr (.inl (vp_updL (fun _ => 0) (0 : Int32).toNatClampNeg ((-6 : Int32).toInt64)))))] H := hP
  have hD : va_D A [(mo, .inr (11, [.ref m_disk, .int (nI P), .int ((8224 : Int32) + ((26 : Int32) * (nI P))), .int (1 : Int32), .int 0, .int (-1 : Int32), .int 0, .int (0 : Int32), .ref m_tape, .int 0, .ref m_slots, .ref m_leaves, .int 0, .int 0, .ref m_fresh, .int 0, .int 0, .int 0, .ref m_digestAt, .ref m_isGroup, .ref m_counts, .int 0, .int 0, .long 0, .int 0, .ref m_versionRow, .int 0, .long 0, .ref m_state, .ref m_names, .int 0, .ref m_keptRow, .int 0, .ref m_inSlot, .ref m_inAt, .ref m_inSize, .ref m_inDigest, .int 0])), (m_digestAt, .inl (d_digestAt, 128, .inr (.inl (fun _ => 0)))), (m_isGroup, .inl (d_isGroup, 128, .inl (fun _ => 0))), (m_counts, .inl (d_counts, 128, .inl (fun _ => 0))), (ho, .inl (cJ, 1, .inr (.inl (vp_updL (fun _ => 0) (0 : Int32).toNatClampNeg ((-6 : Int32).toInt64)))))] := hD
  subst er_1
  refine lv_istore (lv' := [(5, .int (0 : Int32)), (4, .int (1 : Int32)), (3, .ref ho), (2, .ref mo), (1, .ref x), (0, .ref b)]) hx hb dL_law_482 hl (by decide) rfl (fun ls hl => ?_)
  refine lv_aload_n hx hb dL_law_484 rfl (lv_at hl 3 rfl) ?_
  refine lv_aload_n hx hb dL_law_485 rfl (lv_at hl 5 rfl) ?_
  refine lv_iload hx hb dL_law_486 (lv_at hl 1 rfl) ?_
  refine lv_iconst (v := 1) hx hb dL_law_488 (by decide) ?_
  refine lv_iadd hx hb dL_law_489 ?_
  refine va_sld hx hb hX hbl hbA hS (by unfold vp_in; decide +kernel : vp_in ((1 : Int32) + (1 : Int32)) 6) dL_law_490 ?_
  have e9 : ((1 : Int32) + (1 : Int32)).toNatClampNeg = 2 := by decide +kernel
  rw [e9]
  clear e9
  refine lv_aload_n hx hb dL_law_491 rfl (lv_at hl 5 rfl) ?_
  refine lv_iload hx hb dL_law_492 (lv_at hl 1 rfl) ?_
  refine lv_iconst (v := 2) hx hb dL_law_494 (by decide) ?_
  refine lv_iadd hx hb dL_law_495 ?_
  refine va_sld hx hb hX hbl hbA hS (by unfold vp_in; decide +kernel : vp_in ((1 : Int32) + (2 : Int32)) 6) dL_law_496 ?_
  have e9 : ((1 : Int32) + (2 : Int32)).toNatClampNeg = 3 := by decide +kernel
  rw [e9]
  clear e9
  refine lv_i2l hx hb dL_law_497 rfl ?_
  refine lv_bipush (v := 32) hx hb dL_law_498 (by decide) ?_
  refine lv_lshl hx hb dL_law_500 rfl ?_
  refine lv_aload_n hx hb dL_law_501 rfl (lv_at hl 5 rfl) ?_
  refine lv_iload hx hb dL_law_502 (lv_at hl 1 rfl) ?_
  refine lv_iconst (v := 3) hx hb dL_law_504 (by decide) ?_
  refine lv_iadd hx hb dL_law_505 ?_
  refine va_sld hx hb hX hbl hbA hS (by unfold vp_in; decide +kernel : vp_in ((1 : Int32) + (3 : Int32)) 6) dL_law_506 ?_
  have e9 : ((1 : Int32) + (3 : Int32)).toNatClampNeg = 4 := by decide +kernel
  rw [e9]
  clear e9
  refine lv_i2l hx hb dL_law_507 rfl ?_
  refine lv_ldc2 hx hb hown (hts (.constantLong RL 106 (4294967295)) (by decide +kernel)) dL_law_508 ?_
  refine lv_land hx hb dL_law_511 ?_
  refine lv_lor hx hb dL_law_512 ?_
  have hPc := hP.sub (ws' := [(mo, .inr (11, [.ref m_disk, .int (nI P), .int ((8224 : Int32) + ((26 : Int32) * (nI P))), .int (1 : Int32), .int 0, .int (-1 : Int32), .int 0, .int (0 : Int32), .ref m_tape, .int 0, .ref m_slots, .ref m_leaves, .int 0, .int 0, .ref m_fresh, .int 0, .int 0, .int 0, .ref m_digestAt, .ref m_isGroup, .ref m_counts, .int 0, .int 0, .long 0, .int 0, .ref m_versionRow, .int 0, .long 0, .ref m_state, .ref m_names, .int 0, .ref m_keptRow, .int 0, .ref m_inSlot, .ref m_inAt, .ref m_inSize, .ref m_inDigest, .int 0])), (m_digestAt, .inl (d_digestAt, 128, .inr (.inl (fun _ => 0)))), (m_isGroup, .inl (d_isGroup, 128, .inl (fun _ => 0))), (m_counts, .inl (d_counts, 128, .inl (fun _ => 0)))]) [0, 1, 2, 3] rfl
  have hKc := hK.sub (tys' := [(d_digestAt, .long), (d_isGroup, .boolean), (d_counts, .boolean)]) [0, 1, 2] rfl
  have hDc := hD.sub (ws' := [(mo, .inr (11, [.ref m_disk, .int (nI P), .int ((8224 : Int32) + ((26 : Int32) * (nI P))), .int (1 : Int32), .int 0, .int (-1 : Int32), .int 0, .int (0 : Int32), .ref m_tape, .int 0, .ref m_slots, .ref m_leaves, .int 0, .int 0, .ref m_fresh, .int 0, .int 0, .int 0, .ref m_digestAt, .ref m_isGroup, .ref m_counts, .int 0, .int 0, .long 0, .int 0, .ref m_versionRow, .int 0, .long 0, .ref m_state, .ref m_names, .int 0, .ref m_keptRow, .int 0, .ref m_inSlot, .ref m_inAt, .ref m_inSize, .ref m_inDigest, .int 0])), (m_digestAt, .inl (d_digestAt, 128, .inr (.inl (fun _ => 0)))), (m_isGroup, .inl (d_isGroup, 128, .inl (fun _ => 0))), (m_counts, .inl (d_counts, 128, .inl (fun _ => 0)))]) [0, 1, 2, 3] (by decide) rfl
  have hFc := va_free (wc := [(mo, .inr (11, [.ref m_disk, .int (nI P), .int ((8224 : Int32) + ((26 : Int32) * (nI P))), .int (1 : Int32), .int 0, .int (-1 : Int32), .int 0, .int (0 : Int32), .ref m_tape, .int 0, .ref m_slots, .ref m_leaves, .int 0, .int 0, .ref m_fresh, .int 0, .int 0, .int 0, .ref m_digestAt, .ref m_isGroup, .ref m_counts, .int 0, .int 0, .long 0, .int 0, .ref m_versionRow, .int 0, .long 0, .ref m_state, .ref m_names, .int 0, .ref m_keptRow, .int 0, .ref m_inSlot, .ref m_inAt, .ref m_inSize, .ref m_inDigest, .int 0])), (m_digestAt, .inl (d_digestAt, 128, .inr (.inl (fun _ => 0)))), (m_isGroup, .inl (d_isGroup, 128, .inl (fun _ => 0))), (m_counts, .inl (d_counts, 128, .inl (fun _ => 0)))]) hD hS hA [0, 1, 2, 3] rfl
  refine va_calli (va_runV (As := [.int (xs 2), .long ((((xs 3).toInt64) <<< ((32 : Int32).toInt64 &&& 63)) ||| (((xs 4).toInt64) &&& (4294967295 : Int64)))]) (rest := []) ⟨hx, hb, hml, hown, hts⟩ (k_X9_block_4 l dC dI mo (xs 2) ((((xs 3).toInt64) <<< ((32 : Int32).toInt64 &&& 63)) ||| (((xs 4).toInt64) &&& (4294967295 : Int64))) m_digestAt m_isGroup m_counts m_disk P m_tape m_slots m_leaves m_fresh m_versionRow m_state m_names m_keptRow m_inSlot m_inAt m_inSize m_inDigest d_digestAt d_isGroup d_counts _ hf0 hf1 hf3 hf2) (cwV 2 hts gL_law_X9_block rfl rfl rfl (by decide +kernel) ⟨Nat.le_of_ble_eq_true rfl, Nat.le_of_ble_eq_true rfl⟩) ⟨fun a U g mk q => by obtain ⟨q0, q1, qP, qK, qD⟩ := q; exact ⟨q0, q1, qP, va_K.moved (u := U) (U := U.calling g mk a) (Vm.Alike.refl U.vm) qK, qD⟩, va_recv hK hP (ci := 11) (q := (RX9, TX9, 38)) rfl (q0 := 0) rfl, fun U hU hW => ⟨rfl, by rw [hU], by rw [hU]; exact hPc, va_K.moved hW.alike hKc, hDc.weaken (fun _ _ _ _ => trivial)⟩⟩ rfl rfl hl.1 rfl (lv_room (Nat.le_of_ble_eq_true rfl)) dL_law_513 ⟨Nat.le_of_ble_eq_true rfl, Nat.le_of_ble_eq_true rfl⟩) hS (fun q _ h => hFc q h) hFc (fun r_2 u t H1 locs ht hvm er_2 hB hz1 hk1 hS => ?_)
  obtain ⟨hP1, hK1, hD1⟩ := hB
  rw [ht] at hP1
  obtain ⟨hP, hD⟩ := va_join (wr := [(ho, .inl (cJ, 1, .inr (.inl (vp_updL (fun _ => 0) (0 : Int32).toNatClampNeg ((-6 : Int32).toInt64)))))]) (w1 := [(mo, .inr (11, [.ref m_disk, .int (nI P), .int ((8224 : Int32) + ((26 : Int32) * (nI P))), .int (1 : Int32), .int 0, .int (-1 : Int32), .int 0, .int (0 : Int32), .ref m_tape, .int 0, .ref m_slots, .ref m_leaves, .int 0, .int 0, .ref m_fresh, .int 0, .int (0 : Int32), .int (0 : Int32), .ref m_digestAt, .ref m_isGroup, .ref m_counts, .int (-1 : Int32), .int (0 : Int32), .long (0 : Int64), .int (0 : Int32), .ref m_versionRow, .int (0 : Int32), .long (0 : Int64), .ref m_state, .ref m_names, .int 0, .ref m_keptRow, .int 0, .ref m_inSlot, .ref m_inAt, .ref m_inSize, .ref m_inDigest, .int 0]))]) hP hD [0, 1, 2, 3] [4] rfl rfl (by decide) (by decide) hk1 hFc hP1 hD1
  clear hPc hDc hFc hP1 hD1 hk1 hz1
  generalize H1 = H at hP hS ⊢
  have hP : va_P (dC, dI) vwCl [(ho, .inl (cJ, 1, .inr (.inl (vp_updL (fun _ => 0) (0 : Int32).toNatClampNeg ((-6 : Int32).toInt64))))), (mo, .inr (11, [.ref m_disk, .int (nI P), .int ((8224 : Int32) + ((26 : Int32) * (nI P))), .int (1 : Int32), .int 0, .int (-1 : Int32), .int 0, .int (0 : Int32), .ref m_tape, .int 0, .ref m_slots, .ref m_leaves, .int 0, .int 0, .ref m_fresh, .int 0, .int (0 : Int32), .int (0 : Int32), .ref m_digestAt, .ref m_isGroup, .ref m_counts, .int (-1 : Int32), .int (0 : Int32), .long (0 : Int64), .int (0 : Int32), .ref m_versionRow, .int (0 : Int32), .long (0 : Int64), .ref m_state, .ref m_names, .int 0, .ref m_keptRow, .int 0, .ref m_inSlot, .ref m_inAt, .ref m_inSize, .ref m_inDigest, .int 0]))] H := hP
  have hD : va_D A [(ho, .inl (cJ, 1, .inr (.inl (vp_updL (fun _ => 0) (0 : Int32).toNatClampNeg ((-6 : Int32).toInt64))))), (mo, .inr (11, [.ref m_disk, .int (nI P), .int ((8224 : Int32) + ((26 : Int32) * (nI P))), .int (1 : Int32), .int 0, .int (-1 : Int32), .int 0, .int (0 : Int32), .ref m_tape, .int 0, .ref m_slots, .ref m_leaves, .int 0, .int 0, .ref m_fresh, .int 0, .int (0 : Int32), .int (0 : Int32), .ref m_digestAt, .ref m_isGroup, .ref m_counts, .int (-1 : Int32), .int (0 : Int32), .long (0 : Int64), .int (0 : Int32), .ref m_versionRow, .int (0 : Int32), .long (0 : Int64), .ref m_state, .ref m_names, .int 0, .ref m_keptRow, .int 0, .ref m_inSlot, .ref m_inAt, .ref m_inSize, .ref m_inDigest, .int 0]))] := hD
  subst er_2
  refine lv_istore (lv' := [(6, .int (-6 : Int32)), (5, .int (0 : Int32)), (4, .int (1 : Int32)), (3, .ref ho), (2, .ref mo), (1, .ref x), (0, .ref b)]) hx hb dL_law_516 hl (by decide) rfl (fun ls hl => ?_)
  refine lv_aload_n hx hb dL_law_518 rfl (lv_at hl 4 rfl) ?_
  have hPc := hP.sub (ws' := [(mo, .inr (11, [.ref m_disk, .int (nI P), .int ((8224 : Int32) + ((26 : Int32) * (nI P))), .int (1 : Int32), .int 0, .int (-1 : Int32), .int 0, .int (0 : Int32), .ref m_tape, .int 0, .ref m_slots, .ref m_leaves, .int 0, .int 0, .ref m_fresh, .int 0, .int (0 : Int32), .int (0 : Int32), .ref m_digestAt, .ref m_isGroup, .ref m_counts, .int (-1 : Int32), .int (0 : Int32), .long (0 : Int64), .int (0 : Int32), .ref m_versionRow, .int (0 : Int32), .long (0 : Int64), .ref m_state, .ref m_names, .int 0, .ref m_keptRow, .int 0, .ref m_inSlot, .ref m_inAt, .ref m_inSize, .ref m_inDigest, .int 0]))]) [1] rfl
  have hKc := hK.sub (tys' := []) [] rfl
  refine vp_callSi (va_Run.run (va_runV (As := []) (rest := []) ⟨hx, hb, hml, hown, hts⟩ (k_X9_thrown_1 l dC dI mo (.ref m_disk) (.int (nI P)) (.int ((8224 : Int32) + ((26 : Int32) * (nI P)))) (.int (1 : Int32)) (.int 0) (.int (-1 : Int32)) (.int 0) (.int (0 : Int32)) (.ref m_tape) (.int 0) (.ref m_slots) (.ref m_leaves) (.int 0) 0 ([.ref m_fresh, .int 0, .int (0 : Int32), .int (0 : Int32), .ref m_digestAt, .ref m_isGroup, .ref m_counts, .int (-1 : Int32), .int (0 : Int32), .long (0 : Int64), .int (0 : Int32), .ref m_versionRow, .int (0 : Int32), .long (0 : Int64), .ref m_state, .ref m_names, .int 0, .ref m_keptRow, .int 0, .ref m_inSlot, .ref m_inAt, .ref m_inSize, .ref m_inDigest, .int 0])) (cwV 0 hts gL_law_X9_thrown rfl rfl rfl (by decide +kernel) ⟨Nat.le_of_ble_eq_true rfl, Nat.le_of_ble_eq_true rfl⟩) ⟨fun a U g mk q => by obtain ⟨q0, qP, qK⟩ := q; exact ⟨q0, qP, va_K.moved (u := U) (U := U.calling g mk a) (Vm.Alike.refl U.vm) qK⟩, va_recv hK hP (ci := 11) (q := (RX9, TX9, 38)) rfl (q0 := 1) rfl, fun U hU hW => ⟨rfl, by rw [hU]; exact hPc, va_K.moved hW.alike hKc⟩⟩ rfl rfl hl.1 rfl (lv_room (Nat.le_of_ble_eq_true rfl)) dL_law_519 ⟨Nat.le_of_ble_eq_true rfl, Nat.le_of_ble_eq_true rfl⟩)) (fun r_3 er_3 => ?_)
  replace er_3 := er_3.trans (show _ = (0 : Int32) by decide +kernel)
  subst er_3
  refine lv_iload hx hb dL_law_522 (lv_at hl 1 rfl) ?_
  refine lv_icmp_eq (tgt := 529) hx hb dL_law_524 (by decide) (fun c_4 => ?_) (fun c_4 => ?_)
  · skip
    refine lv_iload hx hb dL_law_529 (lv_at hl 1 rfl) ?_
    refine lv_if_ne (tgt := 546) hx hb dL_law_531 (by decide) (fun c_5 => ?_) (fun c_5 => ?_)
    · skip
      exact absurd (by decide) c_5
    · skip
      refine lv_aload_n hx hb dL_law_534 rfl (lv_at hl 3 rfl) ?_
      refine lv_iconst (v := 0) hx hb dL_law_535 (by decide) ?_
      refine va_lald hx hb hK hP 0 3 rfl rfl (by unfold vp_in; decide +kernel) dL_law_536 ?_
      have e9 : (vp_updL (fun _ => 0) (0 : Int32).toNatClampNeg ((-6 : Int32).toInt64)) (0 : Int32).toNatClampNeg = (-6 : Int32).toInt64 := if_pos rfl
      rw [e9]
      clear e9
      refine lv_iload hx hb dL_law_537 (lv_at hl 0 rfl) ?_
      refine lv_i2l hx hb dL_law_539 rfl ?_
      refine W.lcmp hx hb dL_law_540 ?_
      refine lv_if_eq (tgt := 546) hx hb dL_law_541 (by decide) (fun c_6 => ?_) (fun c_6 => ?_)
      · skip
        refine lv_goto (tgt := 1731) hx hb dL_law_546 (by decide) ?_
        refine lv_iinc (v := (6 : Int32)) (lv' := [(4, .int (6 : Int32)), (6, .int (-6 : Int32)), (5, .int (0 : Int32)), (3, .ref ho), (2, .ref mo), (1, .ref x), (0, .ref b)]) hx hb dL_law_1731 hl (k := 2) rfl (by decide) (by decide) rfl (fun ls hl => ?_)
        refine lv_goto (tgt := 33) hx hb dL_law_1734 (by decide) ?_
        refine lv_iload hx hb dL_law_33 (lv_at hl 0 rfl) ?_
        refine lv_aload_n hx hb dL_law_35 rfl (lv_at hl 6 rfl) ?_
        refine va_slen hx hb hX hbl hbA hS dL_law_36 ?_
        refine lv_iconst (v := 5) hx hb dL_law_37 (by decide) ?_
        refine lv_isub hx hb dL_law_38 ?_
        refine lv_icmp_gt (tgt := 1737) hx hb dL_law_39 (by decide) (fun c_7 => ?_) (fun c_7 => ?_)
        · skip
          refine lv_iconst (v := 1) hx hb dL_law_1737 (by decide) ?_
          refine va_forget (fun q hq => hA9 _ (hS.2.2 q hq)) ?_
          refine W.widen (k := 600002) (n := 7302198) (Nat.le_of_ble_eq_true rfl) (Nat.le_of_ble_eq_true rfl) ?_
          exact lw_ret hx hb hr hlocks dL_law_1738
        · skip
          exact absurd (by decide) c_7
      · skip
        exact absurd ((lg_cmp_eq _ _).mpr rfl) c_6
  · skip
    exact absurd (by decide) c_4

set_option maxHeartbeats 4000000 in
set_option maxRecDepth 100000 in
theorem sg_93 {p : Program} {e : Env} {s : State} {m : MethodId} {below : List Frame} {meth : Method} {c : Code} (l : Launch) (hl0 : l.stackTraces = false) {A : Nat → Prop} {dC : Nat → ClassId} {dI : Nat → Nat → Nat} {b : Nat} {xs : Nat → Int32} (ho : Nat) (mo : Nat) (x : Nat) (rr : Nat) (ds : Nat) (so : Nat) (m_digestAt : Nat) (m_isGroup : Nat) (m_counts : Nat) (tp : Nat) (pu : Nat) (sn : Nat) (im : Nat) (cs : Nat) (cl : Nat) (ri : Nat) (P : Nat) (dl : Nat) (dr : Nat) (dt : Nat) (s1 : Nat) (s2 : Nat) (s3 : Nat) (s4 : Nat) (s5 : Nat) (s6 : Nat) (m_disk : Nat) (m_tape : Nat) (m_slots : Nat) (m_leaves : Nat) (m_fresh : Nat) (m_versionRow : Nat) (m_state : Nat) (m_names : Nat) (m_keptRow : Nat) (m_inSlot : Nat) (m_inAt : Nat) (m_inSize : Nat) (m_inDigest : Nat) (d_digestAt : ClassId) (d_isGroup : ClassId) (d_counts : ClassId) (cJ : ClassId) (C0 : lw_B p s m meth c b 6 xs A) (hf0 : ((xs 3).toInt64 <<< ((32 : Int32).toInt64 &&& 63)) ||| ((xs 4).toInt64 &&& (4294967295 : Int64)) = (0 : Int64)) (hf1 : 1 ≤ (xs 2)) (hf2 : (xs 2) ≤ 1000000) (hf3 : ¬ (xs 2) = 1) {H : Heap} {locs : List Loc} {ls : Array Slot} (hP : va_P (dC, dI) vwCl [(x, .inr (10, [.ref tp, .ref ds, .ref rr, .ref so, .ref pu, .ref sn, .ref im, .ref cs, .ref cl, .int (0 : Int32)])), (rr, .inr (6, [.ref ds, .ref ri, .int 0, .int 1, .int 0, .int 0])), (ds, .inr (3, [.int (nI P), .ref dl, .ref dr, .ref dt, .int (1 : Int32), .int (-1 : Int32), .int (0 : Int32)])), (so, .inr (8, [.ref rr, .ref s1, .ref s2, .ref s3, .ref s4, .ref s5, .ref s6, .int (0 : Int32), .int (0 : Int32), .int (-1 : Int32), .int (0 : Int32), .int (0 : Int32)])), (mo, .inr (11, [.ref m_disk, .int (nI P), .int ((8224 : Int32) + ((26 : Int32) * (nI P))), .int (1 : Int32), .int 0, .int (-1 : Int32), .int 0, .int (0 : Int32), .ref m_tape, .int 0, .ref m_slots, .ref m_leaves, .int 0, .int 0, .ref m_fresh, .int 0, .int 0, .int 0, .ref m_digestAt, .ref m_isGroup, .ref m_counts, .int 0, .int 0, .long 0, .int 0, .ref m_versionRow, .int 0, .long 0, .ref m_state, .ref m_names, .int 0, .ref m_keptRow, .int 0, .ref m_inSlot, .ref m_inAt, .ref m_inSize, .ref m_inDigest, .int 0])), (m_digestAt, .inl (d_digestAt, 128, .inr (.inl (fun _ => 0)))), (m_isGroup, .inl (d_isGroup, 128, .inl (fun _ => 0))), (m_counts, .inl (d_counts, 128, .inl (fun _ => 0))), (ho, .inl (cJ, 1, .inr (.inl (fun _ => 0))))] H) (hK : va_K (dC, dI) vwCl [(d_digestAt, .long), (d_isGroup, .boolean), (d_counts, .boolean), (cJ, .long)] s) (hD : va_D A [(x, .inr (10, [.ref tp, .ref ds, .ref rr, .ref so, .ref pu, .ref sn, .ref im, .ref cs, .ref cl, .int (0 : Int32)])), (rr, .inr (6, [.ref ds, .ref ri, .int 0, .int 1, .int 0, .int 0])), (ds, .inr (3, [.int (nI P), .ref dl, .ref dr, .ref dt, .int (1 : Int32), .int (-1 : Int32), .int (0 : Int32)])), (so, .inr (8, [.ref rr, .ref s1, .ref s2, .ref s3, .ref s4, .ref s5, .ref s6, .int (0 : Int32), .int (0 : Int32), .int (-1 : Int32), .int (0 : Int32), .int (0 : Int32)])), (mo, .inr (11, [.ref m_disk, .int (nI P), .int ((8224 : Int32) + ((26 : Int32) * (nI P))), .int (1 : Int32), .int 0, .int (-1 : Int32), .int 0, .int (0 : Int32), .ref m_tape, .int 0, .ref m_slots, .ref m_leaves, .int 0, .int 0, .ref m_fresh, .int 0, .int 0, .int 0, .ref m_digestAt, .ref m_isGroup, .ref m_counts, .int 0, .int 0, .long 0, .int 0, .ref m_versionRow, .int 0, .long 0, .ref m_state, .ref m_names, .int 0, .ref m_keptRow, .int 0, .ref m_inSlot, .ref m_inAt, .ref m_inSize, .ref m_inDigest, .int 0])), (m_digestAt, .inl (d_digestAt, 128, .inr (.inl (fun _ => 0)))), (m_isGroup, .inl (d_isGroup, 128, .inl (fun _ => 0))), (m_counts, .inl (d_counts, 128, .inl (fun _ => 0))), (ho, .inl (cJ, 1, .inr (.inl (fun _ => 0))))]) (hS : va_S A s.heap H locs) (hl : lv_has ls 8 [(4, .int (1 : Int32)), (3, .ref ho), (2, .ref mo), (1, .ref x), (0, .ref b)]) : W p l e room_1 s m #[Value.ref b] below meth c H locs 44 439502 (lw_Z below #[Value.ref b] s) (F0 m 449 ls []) := by
  obtain ⟨hx, hb, hr, hml, hown, hts, hX, hbl, hlocks, hA, hA9, hbA, hG⟩ := C0
  refine lv_aload_n hx hb dL_law_449 rfl (lv_at hl 3 rfl) ?_
  refine lv_aload_n hx hb dL_law_450 rfl (lv_at hl 4 rfl) ?_
  refine lv_iload hx hb dL_law_451 (lv_at hl 0 rfl) ?_
  refine lv_iconst (v := 1) hx hb dL_law_453 (by decide) ?_
  refine lv_iadd hx hb dL_law_454 ?_
  refine va_sld hx hb hX hbl hbA hS (by unfold vp_in; decide +kernel : vp_in ((1 : Int32) + (1 : Int32)) 6) dL_law_455 ?_
  have e9 : ((1 : Int32) + (1 : Int32)).toNatClampNeg = 2 := by decide +kernel
  rw [e9]
  clear e9
  refine lv_aload_n hx hb dL_law_456 rfl (lv_at hl 4 rfl) ?_
  refine lv_iload hx hb dL_law_457 (lv_at hl 0 rfl) ?_
  refine lv_iconst (v := 2) hx hb dL_law_459 (by decide) ?_
  refine lv_iadd hx hb dL_law_460 ?_
  refine va_sld hx hb hX hbl hbA hS (by unfold vp_in; decide +kernel : vp_in ((1 : Int32) + (2 : Int32)) 6) dL_law_461 ?_
  have e9 : ((1 : Int32) + (2 : Int32)).toNatClampNeg = 3 := by decide +kernel
  rw [e9]
  clear e9
  refine lv_i2l hx hb dL_law_462 rfl ?_
  refine lv_bipush (v := 32) hx hb dL_law_463 (by decide) ?_
  refine lv_lshl hx hb dL_law_465 rfl ?_
  refine lv_aload_n hx hb dL_law_466 rfl (lv_at hl 4 rfl) ?_
  refine lv_iload hx hb dL_law_467 (lv_at hl 0 rfl) ?_
  refine lv_iconst (v := 3) hx hb dL_law_469 (by decide) ?_
  refine lv_iadd hx hb dL_law_470 ?_
  refine va_sld hx hb hX hbl hbA hS (by unfold vp_in; decide +kernel : vp_in ((1 : Int32) + (3 : Int32)) 6) dL_law_471 ?_
  have e9 : ((1 : Int32) + (3 : Int32)).toNatClampNeg = 4 := by decide +kernel
  rw [e9]
  clear e9
  refine lv_i2l hx hb dL_law_472 rfl ?_
  refine lv_ldc2 hx hb hown (hts (.constantLong RL 106 (4294967295)) (by decide +kernel)) dL_law_473 ?_
  refine lv_land hx hb dL_law_476 ?_
  refine lv_lor hx hb dL_law_477 ?_
  rw [hf0]
  refine lv_aload_n hx hb dL_law_478 rfl (lv_at hl 1 rfl) ?_
  have hPc := hP.sub (ws' := [(x, .inr (10, [.ref tp, .ref ds, .ref rr, .ref so, .ref pu, .ref sn, .ref im, .ref cs, .ref cl, .int (0 : Int32)])), (rr, .inr (6, [.ref ds, .ref ri, .int 0, .int 1, .int 0, .int 0])), (ds, .inr (3, [.int (nI P), .ref dl, .ref dr, .ref dt, .int (1 : Int32), .int (-1 : Int32), .int (0 : Int32)])), (so, .inr (8, [.ref rr, .ref s1, .ref s2, .ref s3, .ref s4, .ref s5, .ref s6, .int (0 : Int32), .int (0 : Int32), .int (-1 : Int32), .int (0 : Int32), .int (0 : Int32)])), (ho, .inl (cJ, 1, .inr (.inl (fun _ => 0))))]) [0, 1, 2, 3, 8] rfl
  have hKc := hK.sub (tys' := [(cJ, .long)]) [3] rfl
  have hDc := hD.sub (ws' := [(x, .inr (10, [.ref tp, .ref ds, .ref rr, .ref so, .ref pu, .ref sn, .ref im, .ref cs, .ref cl, .int (0 : Int32)])), (rr, .inr (6, [.ref ds, .ref ri, .int 0, .int 1, .int 0, .int 0])), (ds, .inr (3, [.int (nI P), .ref dl, .ref dr, .ref dt, .int (1 : Int32), .int (-1 : Int32), .int (0 : Int32)])), (so, .inr (8, [.ref rr, .ref s1, .ref s2, .ref s3, .ref s4, .ref s5, .ref s6, .int (0 : Int32), .int (0 : Int32), .int (-1 : Int32), .int (0 : Int32), .int (0 : Int32)])), (ho, .inl (cJ, 1, .inr (.inl (fun _ => 0))))]) [0, 1, 2, 3, 8] (by decide) rfl
  have hFc := va_free (wc := [(x, .inr (10, [.ref tp, .ref ds, .ref rr, .ref so, .ref pu, .ref sn, .ref im, .ref cs, .ref cl, .int (0 : Int32)])), (rr, .inr (6, [.ref ds, .ref ri, .int 0, .int 1, .int 0, .int 0])), (ds, .inr (3, [.int (nI P), .ref dl, .ref dr, .ref dt, .int (1 : Int32), .int (-1 : Int32), .int (0 : Int32)])), (so, .inr (8, [.ref rr, .ref s1, .ref s2, .ref s3, .ref s4, .ref s5, .ref s6, .int (0 : Int32), .int (0 : Int32), .int (-1 : Int32), .int (0 : Int32), .int (0 : Int32)])), (ho, .inl (cJ, 1, .inr (.inl (fun _ => 0))))]) hD hS hA [0, 1, 2, 3, 8] rfl
  refine va_calli (vx_runSW (As := [.ref x, .int (xs 2), .long (0 : Int64), .ref ho]) (rest := []) ⟨hx, hb, hml, hown, hts⟩ (k_L_block_5 l dC dI x (xs 2) ho rr ds so tp pu sn im cs cl ri (nI P) dl dr dt s1 s2 s3 s4 s5 s6 cJ (fun _ => 0) _ hf1 hf2 hf3) (vx_cwSW 4 hts gL_law_L_block rfl rfl rfl (by decide +kernel) ⟨Nat.le_of_ble_eq_true rfl, Nat.le_of_ble_eq_true rfl⟩) ⟨fun a U g mk q => by obtain ⟨q0, q1, qP, qK, qD, qG⟩ := q; exact ⟨q0, q1, qP, va_K.moved (u := U) (U := U.calling g mk a) (Vm.Alike.refl U.vm) qK, qD, qG.same rfl rfl⟩, fun U hU hW => ⟨rfl, by rw [hU], by rw [hU]; exact hPc, va_K.moved hW.alike hKc, hDc.weaken (fun _ _ _ _ => trivial), hG.go hW hU hS hFc⟩⟩ rfl rfl hl.1 rfl (lv_room (Nat.le_of_ble_eq_true rfl)) dL_law_479 ⟨Nat.le_of_ble_eq_true rfl, Nat.le_of_ble_eq_true rfl⟩) hS (fun q _ h => hFc q h) hFc (fun r_1 u t H1 locs ht hvm er_1 hB hz1 hk1 hS => ?_)
  obtain ⟨hP1, hK1, hD1⟩ := hB
  rw [ht] at hP1
  obtain ⟨hP, hD⟩ := va_join (wr := [(mo, .inr (11, [.ref m_disk, .int (nI P), .int ((8224 : Int32) + ((26 : Int32) * (nI P))), .int (1 : Int32), .int 0, .int (-1 : Int32), .int 0, .int (0 : Int32), .ref m_tape, .int 0, .ref m_slots, .ref m_leaves, .int 0, .int 0, .ref m_fresh, .int 0, .int 0, .int 0, .ref m_digestAt, .ref m_isGroup, .ref m_counts, .int 0, .int 0, .long 0, .int 0, .ref m_versionRow, .int 0, .long 0, .ref m_state, .ref m_names, .int 0, .ref m_keptRow, .int 0, .ref m_inSlot, .ref m_inAt, .ref m_inSize, .ref m_inDigest, .int 0])), (m_digestAt, .inl (d_digestAt, 128, .inr (.inl (fun _ => 0)))), (m_isGroup, .inl (d_isGroup, 128, .inl (fun _ => 0))), (m_counts, .inl (d_counts, 128, .inl (fun _ => 0)))]) (w1 := [(ho, .inl (cJ, 1, .inr (.inl (vp_updL (fun _ => 0) (0 : Int32).toNatClampNeg ((-10 : Int32).toInt64)))))]) hP hD [0, 1, 2, 3, 8] [4, 5, 6, 7] rfl rfl (by decide) (by decide) hk1 hFc hP1 hD1
  clear hPc hDc hFc hP1 hD1 hk1 hz1
  generalize H1 = H at hP hS ⊢
  have hP : va_P (dC, dI) vwCl [(mo, .inr (11, [.ref m_disk, .int (nI P), .int ((8224 : Int32) + ((26 : Int32) * (nI P))), .int (1 : Int32), .int 0, .int (-1 : Int32), .int 0, .int (0 : Int32), .ref m_tape, .int 0, .ref m_slots, .ref m_leaves, .int 0, .int 0, .ref m_fresh, .int 0, .int 0, .int 0, .ref m_digestAt, .ref m_isGroup, .ref m_counts, .int 0, .int 0, .long 0, .int 0, .ref m_versionRow, .int 0, .long 0, .ref m_state, .ref m_names, .int 0, .ref m_keptRow, .int 0, .ref m_inSlot, .ref m_inAt, .ref m_inSize, .ref m_inDigest, .int 0])), (m_digestAt, .inl (d_digestAt, 128, .inr (.inl (fun _ => 0)))), (m_isGroup, .inl (d_isGroup, 128, .inl (fun _ => 0))), (m_counts, .inl (d_counts, 128, .inl (fun _ => 0))), (ho, .inl (cJ, 1, .inr (.inl (vp_updL (fun _ => 0) (0 : Int32).toNatClampNeg ((-10 : Int32).toInt64)))))] H := hP
  have hD : va_D A [(mo, .inr (11, [.ref m_disk, .int (nI P), .int ((8224 : Int32) + ((26 : Int32) * (nI P))), .int (1 : Int32), .int 0, .int (-1 : Int32), .int 0, .int (0 : Int32), .ref m_tape, .int 0, .ref m_slots, .ref m_leaves, .int 0, .int 0, .ref m_fresh, .int 0, .int 0, .int 0, .ref m_digestAt, .ref m_isGroup, .ref m_counts, .int 0, .int 0, .long 0, .int 0, .ref m_versionRow, .int 0, .long 0, .ref m_state, .ref m_names, .int 0, .ref m_keptRow, .int 0, .ref m_inSlot, .ref m_inAt, .ref m_inSize, .ref m_inDigest, .int 0])), (m_digestAt, .inl (d_digestAt, 128, .inr (.inl (fun _ => 0)))), (m_isGroup, .inl (d_isGroup, 128, .inl (fun _ => 0))), (m_counts, .inl (d_counts, 128, .inl (fun _ => 0))), (ho, .inl (cJ, 1, .inr (.inl (vp_updL (fun _ => 0) (0 : Int32).toNatClampNeg ((-10 : Int32).toInt64)))))] := hD
  subst er_1
  refine lv_istore (lv' := [(5, .int (0 : Int32)), (4, .int (1 : Int32)), (3, .ref ho), (2, .ref mo), (1, .ref x), (0, .ref b)]) hx hb dL_law_482 hl (by decide) rfl (fun ls hl => ?_)
  refine lv_aload_n hx hb dL_law_484 rfl (lv_at hl 3 rfl) ?_
  refine lv_aload_n hx hb dL_law_485 rfl (lv_at hl 5 rfl) ?_
  refine lv_iload hx hb dL_law_486 (lv_at hl 1 rfl) ?_
  refine lv_iconst (v := 1) hx hb dL_law_488 (by decide) ?_
  refine lv_iadd hx hb dL_law_489 ?_
  refine va_sld hx hb hX hbl hbA hS (by unfold vp_in; decide +kernel : vp_in ((1 : Int32) + (1 : Int32)) 6) dL_law_490 ?_
  have e9 : ((1 : Int32) + (1 : Int32)).toNatClampNeg = 2 := by decide +kernel
  rw [e9]
  clear e9
  refine lv_aload_n hx hb dL_law_491 rfl (lv_at hl 5 rfl) ?_
  refine lv_iload hx hb dL_law_492 (lv_at hl 1 rfl) ?_
  refine lv_iconst (v := 2) hx hb dL_law_494 (by decide) ?_
  refine lv_iadd hx hb dL_law_495 ?_
  refine va_sld hx hb hX hbl hbA hS (by unfold vp_in; decide +kernel : vp_in ((1 : Int32) + (2 : Int32)) 6) dL_law_496 ?_
  have e9 : ((1 : Int32) + (2 : Int32)).toNatClampNeg = 3 := by decide +kernel
  rw [e9]
  clear e9
  refine lv_i2l hx hb dL_law_497 rfl ?_
  refine lv_bipush (v := 32) hx hb dL_law_498 (by decide) ?_
  refine lv_lshl hx hb dL_law_500 rfl ?_
  refine lv_aload_n hx hb dL_law_501 rfl (lv_at hl 5 rfl) ?_
  refine lv_iload hx hb dL_law_502 (lv_at hl 1 rfl) ?_
  refine lv_iconst (v := 3) hx hb dL_law_504 (by decide) ?_
  refine lv_iadd hx hb dL_law_505 ?_
  refine va_sld hx hb hX hbl hbA hS (by unfold vp_in; decide +kernel : vp_in ((1 : Int32) + (3 : Int32)) 6) dL_law_506 ?_
  have e9 : ((1 : Int32) + (3 : Int32)).toNatClampNeg = 4 := by decide +kernel
  rw [e9]
  clear e9
  refine lv_i2l hx hb dL_law_507 rfl ?_
  refine lv_ldc2 hx hb hown (hts (.constantLong RL 106 (4294967295)) (by decide +kernel)) dL_law_508 ?_
  refine lv_land hx hb dL_law_511 ?_
  refine lv_lor hx hb dL_law_512 ?_
  rw [hf0]
  have hPc := hP.sub (ws' := [(mo, .inr (11, [.ref m_disk, .int (nI P), .int ((8224 : Int32) + ((26 : Int32) * (nI P))), .int (1 : Int32), .int 0, .int (-1 : Int32), .int 0, .int (0 : Int32), .ref m_tape, .int 0, .ref m_slots, .ref m_leaves, .int 0, .int 0, .ref m_fresh, .int 0, .int 0, .int 0, .ref m_digestAt, .ref m_isGroup, .ref m_counts, .int 0, .int 0, .long 0, .int 0, .ref m_versionRow, .int 0, .long 0, .ref m_state, .ref m_names, .int 0, .ref m_keptRow, .int 0, .ref m_inSlot, .ref m_inAt, .ref m_inSize, .ref m_inDigest, .int 0])), (m_digestAt, .inl (d_digestAt, 128, .inr (.inl (fun _ => 0)))), (m_isGroup, .inl (d_isGroup, 128, .inl (fun _ => 0))), (m_counts, .inl (d_counts, 128, .inl (fun _ => 0)))]) [0, 1, 2, 3] rfl
  have hKc := hK.sub (tys' := [(d_digestAt, .long), (d_isGroup, .boolean), (d_counts, .boolean)]) [0, 1, 2] rfl
  have hDc := hD.sub (ws' := [(mo, .inr (11, [.ref m_disk, .int (nI P), .int ((8224 : Int32) + ((26 : Int32) * (nI P))), .int (1 : Int32), .int 0, .int (-1 : Int32), .int 0, .int (0 : Int32), .ref m_tape, .int 0, .ref m_slots, .ref m_leaves, .int 0, .int 0, .ref m_fresh, .int 0, .int 0, .int 0, .ref m_digestAt, .ref m_isGroup, .ref m_counts, .int 0, .int 0, .long 0, .int 0, .ref m_versionRow, .int 0, .long 0, .ref m_state, .ref m_names, .int 0, .ref m_keptRow, .int 0, .ref m_inSlot, .ref m_inAt, .ref m_inSize, .ref m_inDigest, .int 0])), (m_digestAt, .inl (d_digestAt, 128, .inr (.inl (fun _ => 0)))), (m_isGroup, .inl (d_isGroup, 128, .inl (fun _ => 0))), (m_counts, .inl (d_counts, 128, .inl (fun _ => 0)))]) [0, 1, 2, 3] (by decide) rfl
  have hFc := va_free (wc := [(mo, .inr (11, [.ref m_disk, .int (nI P), .int ((8224 : Int32) + ((26 : Int32) * (nI P))), .int (1 : Int32), .int 0, .int (-1 : Int32), .int 0, .int (0 : Int32), .ref m_tape, .int 0, .ref m_slots, .ref m_leaves, .int 0, .int 0, .ref m_fresh, .int 0, .int 0, .int 0, .ref m_digestAt, .ref m_isGroup, .ref m_counts, .int 0, .int 0, .long 0, .int 0, .ref m_versionRow, .int 0, .long 0, .ref m_state, .ref m_names, .int 0, .ref m_keptRow, .int 0, .ref m_inSlot, .ref m_inAt, .ref m_inSize, .ref m_inDigest, .int 0])), (m_digestAt, .inl (d_digestAt, 128, .inr (.inl (fun _ => 0)))), (m_isGroup, .inl (d_isGroup, 128, .inl (fun _ => 0))), (m_counts, .inl (d_counts, 128, .inl (fun _ => 0)))]) hD hS hA [0, 1, 2, 3] rfl
  refine va_calli (va_runV (As := [.int (xs 2), .long (0 : Int64)]) (rest := []) ⟨hx, hb, hml, hown, hts⟩ (k_X9_block_5 l dC dI mo (xs 2) m_digestAt m_isGroup m_counts m_disk P m_tape m_slots m_leaves m_fresh m_versionRow m_state m_names m_keptRow m_inSlot m_inAt m_inSize m_inDigest d_digestAt d_isGroup d_counts _ hf1 hf2 hf3) (cwV 2 hts gL_law_X9_block rfl rfl rfl (by decide +kernel) ⟨Nat.le_of_ble_eq_true rfl, Nat.le_of_ble_eq_true rfl⟩) ⟨fun a U g mk q => by obtain ⟨q0, q1, qP, qK, qD⟩ := q; exact ⟨q0, q1, qP, va_K.moved (u := U) (U := U.calling g mk a) (Vm.Alike.refl U.vm) qK, qD⟩, va_recv hK hP (ci := 11) (q := (RX9, TX9, 38)) rfl (q0 := 0) rfl, fun U hU hW => ⟨rfl, by rw [hU], by rw [hU]; exact hPc, va_K.moved hW.alike hKc, hDc.weaken (fun _ _ _ _ => trivial)⟩⟩ rfl rfl hl.1 rfl (lv_room (Nat.le_of_ble_eq_true rfl)) dL_law_513 ⟨Nat.le_of_ble_eq_true rfl, Nat.le_of_ble_eq_true rfl⟩) hS (fun q _ h => hFc q h) hFc (fun r_2 u t H1 locs ht hvm er_2 hB hz1 hk1 hS => ?_)
  obtain ⟨hP1, hK1, hD1⟩ := hB
  rw [ht] at hP1
  obtain ⟨hP, hD⟩ := va_join (wr := [(ho, .inl (cJ, 1, .inr (.inl (vp_updL (fun _ => 0) (0 : Int32).toNatClampNeg ((-10 : Int32).toInt64)))))]) (w1 := [(mo, .inr (11, [.ref m_disk, .int (nI P), .int ((8224 : Int32) + ((26 : Int32) * (nI P))), .int (1 : Int32), .int 0, .int (-1 : Int32), .int 0, .int (0 : Int32), .ref m_tape, .int 0, .ref m_slots, .ref m_leaves, .int 0, .int 0, .ref m_fresh, .int 0, .int (0 : Int32), .int (0 : Int32), .ref m_digestAt, .ref m_isGroup, .ref m_counts, .int (-1 : Int32), .int (0 : Int32), .long (0 : Int64), .int (0 : Int32), .ref m_versionRow, .int (0 : Int32), .long (0 : Int64), .ref m_state, .ref m_names, .int 0, .ref m_keptRow, .int 0, .ref m_inSlot, .ref m_inAt, .ref m_inSize, .ref m_inDigest, .int 0]))]) hP hD [0, 1, 2, 3] [4] rfl rfl (by decide) (by decide) hk1 hFc hP1 hD1
  clear hPc hDc hFc hP1 hD1 hk1 hz1
  generalize H1 = H at hP hS ⊢
  have hP : va_P (dC, dI) vwCl [(ho, .inl (cJ, 1, .inr (.inl (vp_updL (fun _ => 0) (0 : Int32).toNatClampNeg ((-10 : Int32).toInt64))))), (mo, .inr (11, [.ref m_disk, .int (nI P), .int ((8224 : Int32) + ((26 : Int32) * (nI P))), .int (1 : Int32), .int 0, .int (-1 : Int32), .int 0, .int (0 : Int32), .ref m_tape, .int 0, .ref m_slots, .ref m_leaves, .int 0, .int 0, .ref m_fresh, .int 0, .int (0 : Int32), .int (0 : Int32), .ref m_digestAt, .ref m_isGroup, .ref m_counts, .int (-1 : Int32), .int (0 : Int32), .long (0 : Int64), .int (0 : Int32), .ref m_versionRow, .int (0 : Int32), .long (0 : Int64), .ref m_state, .ref m_names, .int 0, .ref m_keptRow, .int 0, .ref m_inSlot, .ref m_inAt, .ref m_inSize, .ref m_inDigest, .int 0]))] H := hP
  have hD : va_D A [(ho, .inl (cJ, 1, .inr (.inl (vp_updL (fun _ => 0) (0 : Int32).toNatClampNeg ((-10 : Int32).toInt64))))), (mo, .inr (11, [.ref m_disk, .int (nI P), .int ((8224 : Int32) + ((26 : Int32) * (nI P))), .int (1 : Int32), .int 0, .int (-1 : Int32), .int 0, .int (0 : Int32), .ref m_tape, .int 0, .ref m_slots, .ref m_leaves, .int 0, .int 0, .ref m_fresh, .int 0, .int (0 : Int32), .int (0 : Int32), .ref m_digestAt, .ref m_isGroup, .ref m_counts, .int (-1 : Int32), .int (0 : Int32), .long (0 : Int64), .int (0 : Int32), .ref m_versionRow, .int (0 : Int32), .long (0 : Int64), .ref m_state, .ref m_names, .int 0, .ref m_keptRow, .int 0, .ref m_inSlot, .ref m_inAt, .ref m_inSize, .ref m_inDigest, .int 0]))] := hD
  subst er_2
  refine lv_istore (lv' := [(6, .int (-10 : Int32)), (5, .int (0 : Int32)), (4, .int (1 : Int32)), (3, .ref ho), (2, .ref mo), (1, .ref x), (0, .ref b)]) hx hb dL_law_516 hl (by decide) rfl (fun ls hl => ?_)
  refine lv_aload_n hx hb dL_law_518 rfl (lv_at hl 4 rfl) ?_
  have hPc := hP.sub (ws' := [(mo, .inr (11, [.ref m_disk, .int (nI P), .int ((8224 : Int32) + ((26 : Int32) * (nI P))), .int (1 : Int32), .int 0, .int (-1 : Int32), .int 0, .int (0 : Int32), .ref m_tape, .int 0, .ref m_slots, .ref m_leaves, .int 0, .int 0, .ref m_fresh, .int 0, .int (0 : Int32), .int (0 : Int32), .ref m_digestAt, .ref m_isGroup, .ref m_counts, .int (-1 : Int32), .int (0 : Int32), .long (0 : Int64), .int (0 : Int32), .ref m_versionRow, .int (0 : Int32), .long (0 : Int64), .ref m_state, .ref m_names, .int 0, .ref m_keptRow, .int 0, .ref m_inSlot, .ref m_inAt, .ref m_inSize, .ref m_inDigest, .int 0]))]) [1] rfl
  have hKc := hK.sub (tys' := []) [] rfl
  refine vp_callSi (va_Run.run (va_runV (As := []) (rest := []) ⟨hx, hb, hml, hown, hts⟩ (k_X9_thrown_1 l dC dI mo (.ref m_disk) (.int (nI P)) (.int ((8224 : Int32) + ((26 : Int32) * (nI P)))) (.int (1 : Int32)) (.int 0) (.int (-1 : Int32)) (.int 0) (.int (0 : Int32)) (.ref m_tape) (.int 0) (.ref m_slots) (.ref m_leaves) (.int 0) 0 ([.ref m_fresh, .int 0, .int (0 : Int32), .int (0 : Int32), .ref m_digestAt, .ref m_isGroup, .ref m_counts, .int (-1 : Int32), .int (0 : Int32), .long (0 : Int64), .int (0 : Int32), .ref m_versionRow, .int (0 : Int32), .long (0 : Int64), .ref m_state, .ref m_names, .int 0, .ref m_keptRow, .int 0, .ref m_inSlot, .ref m_inAt, .ref m_inSize, .ref m_inDigest, .int 0])) (cwV 0 hts gL_law_X9_thrown rfl rfl rfl (by decide +kernel) ⟨Nat.le_of_ble_eq_true rfl, Nat.le_of_ble_eq_true rfl⟩) ⟨fun a U g mk q => by obtain ⟨q0, qP, qK⟩ := q; exact ⟨q0, qP, va_K.moved (u := U) (U := U.calling g mk a) (Vm.Alike.refl U.vm) qK⟩, va_recv hK hP (ci := 11) (q := (RX9, TX9, 38)) rfl (q0 := 1) rfl, fun U hU hW => ⟨rfl, by rw [hU]; exact hPc, va_K.moved hW.alike hKc⟩⟩ rfl rfl hl.1 rfl (lv_room (Nat.le_of_ble_eq_true rfl)) dL_law_519 ⟨Nat.le_of_ble_eq_true rfl, Nat.le_of_ble_eq_true rfl⟩)) (fun r_3 er_3 => ?_)
  replace er_3 := er_3.trans (show _ = (0 : Int32) by decide +kernel)
  subst er_3
  refine lv_iload hx hb dL_law_522 (lv_at hl 1 rfl) ?_
  refine lv_icmp_eq (tgt := 529) hx hb dL_law_524 (by decide) (fun c_4 => ?_) (fun c_4 => ?_)
  · skip
    refine lv_iload hx hb dL_law_529 (lv_at hl 1 rfl) ?_
    refine lv_if_ne (tgt := 546) hx hb dL_law_531 (by decide) (fun c_5 => ?_) (fun c_5 => ?_)
    · skip
      exact absurd (by decide) c_5
    · skip
      refine lv_aload_n hx hb dL_law_534 rfl (lv_at hl 3 rfl) ?_
      refine lv_iconst (v := 0) hx hb dL_law_535 (by decide) ?_
      refine va_lald hx hb hK hP 0 3 rfl rfl (by unfold vp_in; decide +kernel) dL_law_536 ?_
      have e9 : (vp_updL (fun _ => 0) (0 : Int32).toNatClampNeg ((-10 : Int32).toInt64)) (0 : Int32).toNatClampNeg = (-10 : Int32).toInt64 := if_pos rfl
      rw [e9]
      clear e9
      refine lv_iload hx hb dL_law_537 (lv_at hl 0 rfl) ?_
      refine lv_i2l hx hb dL_law_539 rfl ?_
      refine W.lcmp hx hb dL_law_540 ?_
      refine lv_if_eq (tgt := 546) hx hb dL_law_541 (by decide) (fun c_6 => ?_) (fun c_6 => ?_)
      · skip
        refine lv_goto (tgt := 1731) hx hb dL_law_546 (by decide) ?_
        refine lv_iinc (v := (6 : Int32)) (lv' := [(4, .int (6 : Int32)), (6, .int (-10 : Int32)), (5, .int (0 : Int32)), (3, .ref ho), (2, .ref mo), (1, .ref x), (0, .ref b)]) hx hb dL_law_1731 hl (k := 2) rfl (by decide) (by decide) rfl (fun ls hl => ?_)
        refine lv_goto (tgt := 33) hx hb dL_law_1734 (by decide) ?_
        refine lv_iload hx hb dL_law_33 (lv_at hl 0 rfl) ?_
        refine lv_aload_n hx hb dL_law_35 rfl (lv_at hl 6 rfl) ?_
        refine va_slen hx hb hX hbl hbA hS dL_law_36 ?_
        refine lv_iconst (v := 5) hx hb dL_law_37 (by decide) ?_
        refine lv_isub hx hb dL_law_38 ?_
        refine lv_icmp_gt (tgt := 1737) hx hb dL_law_39 (by decide) (fun c_7 => ?_) (fun c_7 => ?_)
        · skip
          refine lv_iconst (v := 1) hx hb dL_law_1737 (by decide) ?_
          refine va_forget (fun q hq => hA9 _ (hS.2.2 q hq)) ?_
          refine W.widen (k := 600002) (n := 7302198) (Nat.le_of_ble_eq_true rfl) (Nat.le_of_ble_eq_true rfl) ?_
          exact lw_ret hx hb hr hlocks dL_law_1738
        · skip
          exact absurd (by decide) c_7
      · skip
        exact absurd ((lg_cmp_eq _ _).mpr rfl) c_6
  · skip
    exact absurd (by decide) c_4

set_option maxHeartbeats 4000000 in
set_option maxRecDepth 100000 in
theorem sg_94 {p : Program} {e : Env} {s : State} {m : MethodId} {below : List Frame} {meth : Method} {c : Code} (l : Launch) (hl0 : l.stackTraces = false) {A : Nat → Prop} {dC : Nat → ClassId} {dI : Nat → Nat → Nat} {b : Nat} {xs : Nat → Int32} (ho : Nat) (mo : Nat) (x : Nat) (rr : Nat) (ds : Nat) (so : Nat) (m_digestAt : Nat) (m_isGroup : Nat) (m_counts : Nat) (tp : Nat) (pu : Nat) (sn : Nat) (im : Nat) (cs : Nat) (cl : Nat) (ri : Nat) (P : Nat) (dl : Nat) (dr : Nat) (dt : Nat) (s1 : Nat) (s2 : Nat) (s3 : Nat) (s4 : Nat) (s5 : Nat) (s6 : Nat) (m_disk : Nat) (m_tape : Nat) (m_slots : Nat) (m_leaves : Nat) (m_fresh : Nat) (m_versionRow : Nat) (m_state : Nat) (m_names : Nat) (m_keptRow : Nat) (m_inSlot : Nat) (m_inAt : Nat) (m_inSize : Nat) (m_inDigest : Nat) (d_digestAt : ClassId) (d_isGroup : ClassId) (d_counts : ClassId) (cJ : ClassId) (C0 : lw_B p s m meth c b 6 xs A) (hf0 : 1 ≤ (xs 2)) (hf1 : (xs 2) ≤ 1000000) (hf2 : lg_cmp (((xs 3).toInt64 <<< ((32 : Int32).toInt64 &&& 63)) ||| ((xs 4).toInt64 &&& (4294967295 : Int64))) (0) < 0) (hf3 : 0 ≤ lg_cmp (((xs 3).toInt64 <<< ((32 : Int32).toInt64 &&& 63)) ||| ((xs 4).toInt64 &&& (4294967295 : Int64))) (-128)) (hf4 : ¬ (xs 2) = 1) (hf5 : lg_cmp (((xs 3).toInt64 <<< ((32 : Int32).toInt64 &&& 63)) ||| ((xs 4).toInt64 &&& (4294967295 : Int64))) (-1) ≤ 0) (hf6 : 0 ≤ (-1 - (((xs 3).toInt64 <<< ((32 : Int32).toInt64 &&& 63)) ||| ((xs 4).toInt64 &&& (4294967295 : Int64)))).toInt32) {H : Heap} {locs : List Loc} {ls : Array Slot} (hP : va_P (dC, dI) vwCl [(x, .inr (10, [.ref tp, .ref ds, .ref rr, .ref so, .ref pu, .ref sn, .ref im, .ref cs, .ref cl, .int (0 : Int32)])), (rr, .inr (6, [.ref ds, .ref ri, .int 0, .int 1, .int 0, .int 0])), (ds, .inr (3, [.int (nI P), .ref dl, .ref dr, .ref dt, .int (1 : Int32), .int (-1 : Int32), .int (0 : Int32)])), (so, .inr (8, [.ref rr, .ref s1, .ref s2, .ref s3, .ref s4, .ref s5, .ref s6, .int (0 : Int32), .int (0 : Int32), .int (-1 : Int32), .int (0 : Int32), .int (0 : Int32)])), (mo, .inr (11, [.ref m_disk, .int (nI P), .int ((8224 : Int32) + ((26 : Int32) * (nI P))), .int (1 : Int32), .int 0, .int (-1 : Int32), .int 0, .int (0 : Int32), .ref m_tape, .int 0, .ref m_slots, .ref m_leaves, .int 0, .int 0, .ref m_fresh, .int 0, .int 0, .int 0, .ref m_digestAt, .ref m_isGroup, .ref m_counts, .int 0, .int 0, .long 0, .int 0, .ref m_versionRow, .int 0, .long 0, .ref m_state, .ref m_names, .int 0, .ref m_keptRow, .int 0, .ref m_inSlot, .ref m_inAt, .ref m_inSize, .ref m_inDigest, .int 0])), (m_digestAt, .inl (d_digestAt, 128, .inr (.inl (fun _ => 0)))), (m_isGroup, .inl (d_isGroup, 128, .inl (fun _ => 0))), (m_counts, .inl (d_counts, 128, .inl (fun _ => 0))), (ho, .inl (cJ, 1, .inr (.inl (fun _ => 0))))] H) (hK : va_K (dC, dI) vwCl [(d_digestAt, .long), (d_isGroup, .boolean), (d_counts, .boolean), (cJ, .long)] s) (hD : va_D A [(x, .inr (10, [.ref tp, .ref ds, .ref rr, .ref so, .ref pu, .ref sn, .ref im, .ref cs, .ref cl, .int (0 : Int32)])), (rr, .inr (6, [.ref ds, .ref ri, .int 0, .int 1, .int 0, .int 0])), (ds, .inr (3, [.int (nI P), .ref dl, .ref dr, .ref dt, .int (1 : Int32), .int (-1 : Int32), .int (0 : Int32)])), (so, .inr (8, [.ref rr, .ref s1, .ref s2, .ref s3, .ref s4, .ref s5, .ref s6, .int (0 : Int32), .int (0 : Int32), .int (-1 : Int32), .int (0 : Int32), .int (0 : Int32)])), (mo, .inr (11, [.ref m_disk, .int (nI P), .int ((8224 : Int32) + ((26 : Int32) * (nI P))), .int (1 : Int32), .int 0, .int (-1 : Int32), .int 0, .int (0 : Int32), .ref m_tape, .int 0, .ref m_slots, .ref m_leaves, .int 0, .int 0, .ref m_fresh, .int 0, .int 0, .int 0, .ref m_digestAt, .ref m_isGroup, .ref m_counts, .int 0, .int 0, .long 0, .int 0, .ref m_versionRow, .int 0, .long 0, .ref m_state, .ref m_names, .int 0, .ref m_keptRow, .int 0, .ref m_inSlot, .ref m_inAt, .ref m_inSize, .ref m_inDigest, .int 0])), (m_digestAt, .inl (d_digestAt, 128, .inr (.inl (fun _ => 0)))), (m_isGroup, .inl (d_isGroup, 128, .inl (fun _ => 0))), (m_counts, .inl (d_counts, 128, .inl (fun _ => 0))), (ho, .inl (cJ, 1, .inr (.inl (fun _ => 0))))]) (hS : va_S A s.heap H locs) (hl : lv_has ls 8 [(4, .int (1 : Int32)), (3, .ref ho), (2, .ref mo), (1, .ref x), (0, .ref b)]) : W p l e room_1 s m #[Value.ref b] below meth c H locs 44 439502 (lw_Z below #[Value.ref b] s) (F0 m 449 ls []) := by
  obtain ⟨hx, hb, hr, hml, hown, hts, hX, hbl, hlocks, hA, hA9, hbA, hG⟩ := C0
  refine lv_aload_n hx hb dL_law_449 rfl (lv_at hl 3 rfl) ?_
  refine lv_aload_n hx hb dL_law_450 rfl (lv_at hl 4 rfl) ?_
  refine lv_iload hx hb dL_law_451 (lv_at hl 0 rfl) ?_
  refine lv_iconst (v := 1) hx hb dL_law_453 (by decide) ?_
  refine lv_iadd hx hb dL_law_454 ?_
  refine va_sld hx hb hX hbl hbA hS (by unfold vp_in; decide +kernel : vp_in ((1 : Int32) + (1 : Int32)) 6) dL_law_455 ?_
  have e9 : ((1 : Int32) + (1 : Int32)).toNatClampNeg = 2 := by decide +kernel
  rw [e9]
  clear e9
  refine lv_aload_n hx hb dL_law_456 rfl (lv_at hl 4 rfl) ?_
  refine lv_iload hx hb dL_law_457 (lv_at hl 0 rfl) ?_
  refine lv_iconst (v := 2) hx hb dL_law_459 (by decide) ?_
  refine lv_iadd hx hb dL_law_460 ?_
  refine va_sld hx hb hX hbl hbA hS (by unfold vp_in; decide +kernel : vp_in ((1 : Int32) + (2 : Int32)) 6) dL_law_461 ?_
  have e9 : ((1 : Int32) + (2 : Int32)).toNatClampNeg = 3 := by decide +kernel
  rw [e9]
  clear e9
  refine lv_i2l hx hb dL_law_462 rfl ?_
  refine lv_bipush (v := 32) hx hb dL_law_463 (by decide) ?_
  refine lv_lshl hx hb dL_law_465 rfl ?_
  refine lv_aload_n hx hb dL_law_466 rfl (lv_at hl 4 rfl) ?_
  refine lv_iload hx hb dL_law_467 (lv_at hl 0 rfl) ?_
  refine lv_iconst (v := 3) hx hb dL_law_469 (by decide) ?_
  refine lv_iadd hx hb dL_law_470 ?_
  refine va_sld hx hb hX hbl hbA hS (by unfold vp_in; decide +kernel : vp_in ((1 : Int32) + (3 : Int32)) 6) dL_law_471 ?_
  have e9 : ((1 : Int32) + (3 : Int32)).toNatClampNeg = 4 := by decide +kernel
  rw [e9]
  clear e9
  refine lv_i2l hx hb dL_law_472 rfl ?_
  refine lv_ldc2 hx hb hown (hts (.constantLong RL 106 (4294967295)) (by decide +kernel)) dL_law_473 ?_
  refine lv_land hx hb dL_law_476 ?_
  refine lv_lor hx hb dL_law_477 ?_
  refine lv_aload_n hx hb dL_law_478 rfl (lv_at hl 1 rfl) ?_
  have hPc := hP.sub (ws' := [(x, .inr (10, [.ref tp, .ref ds, .ref rr, .ref so, .ref pu, .ref sn, .ref im, .ref cs, .ref cl, .int (0 : Int32)])), (rr, .inr (6, [.ref ds, .ref ri, .int 0, .int 1, .int 0, .int 0])), (ds, .inr (3, [.int (nI P), .ref dl, .ref dr, .ref dt, .int (1 : Int32), .int (-1 : Int32), .int (0 : Int32)])), (so, .inr (8, [.ref rr, .ref s1, .ref s2, .ref s3, .ref s4, .ref s5, .ref s6, .int (0 : Int32), .int (0 : Int32), .int (-1 : Int32), .int (0 : Int32), .int (0 : Int32)])), (ho, .inl (cJ, 1, .inr (.inl (fun _ => 0))))]) [0, 1, 2, 3, 8] rfl
  have hKc := hK.sub (tys' := [(cJ, .long)]) [3] rfl
  have hDc := hD.sub (ws' := [(x, .inr (10, [.ref tp, .ref ds, .ref rr, .ref so, .ref pu, .ref sn, .ref im, .ref cs, .ref cl, .int (0 : Int32)])), (rr, .inr (6, [.ref ds, .ref ri, .int 0, .int 1, .int 0, .int 0])), (ds, .inr (3, [.int (nI P), .ref dl, .ref dr, .ref dt, .int (1 : Int32), .int (-1 : Int32), .int (0 : Int32)])), (so, .inr (8, [.ref rr, .ref s1, .ref s2, .ref s3, .ref s4, .ref s5, .ref s6, .int (0 : Int32), .int (0 : Int32), .int (-1 : Int32), .int (0 : Int32), .int (0 : Int32)])), (ho, .inl (cJ, 1, .inr (.inl (fun _ => 0))))]) [0, 1, 2, 3, 8] (by decide) rfl
  have hFc := va_free (wc := [(x, .inr (10, [.ref tp, .ref ds, .ref rr, .ref so, .ref pu, .ref sn, .ref im, .ref cs, .ref cl, .int (0 : Int32)])), (rr, .inr (6, [.ref ds, .ref ri, .int 0, .int 1, .int 0, .int 0])), (ds, .inr (3, [.int (nI P), .ref dl, .ref dr, .ref dt, .int (1 : Int32), .int (-1 : Int32), .int (0 : Int32)])), (so, .inr (8, [.ref rr, .ref s1, .ref s2, .ref s3, .ref s4, .ref s5, .ref s6, .int (0 : Int32), .int (0 : Int32), .int (-1 : Int32), .int (0 : Int32), .int (0 : Int32)])), (ho, .inl (cJ, 1, .inr (.inl (fun _ => 0))))]) hD hS hA [0, 1, 2, 3, 8] rfl
  refine va_calli (vx_runSW (As := [.ref x, .int (xs 2), .long ((((xs 3).toInt64) <<< ((32 : Int32).toInt64 &&& 63)) ||| (((xs 4).toInt64) &&& (4294967295 : Int64))), .ref ho]) (rest := []) ⟨hx, hb, hml, hown, hts⟩ (k_L_block_6 l dC dI x (xs 2) ((((xs 3).toInt64) <<< ((32 : Int32).toInt64 &&& 63)) ||| (((xs 4).toInt64) &&& (4294967295 : Int64))) ho rr ds so tp pu sn im cs cl ri (nI P) dl dr dt s1 s2 s3 s4 s5 s6 cJ (fun _ => 0) _ hf0 hf1 hf2 hf3 hf4) (vx_cwSW 4 hts gL_law_L_block rfl rfl rfl (by decide +kernel) ⟨Nat.le_of_ble_eq_true rfl, Nat.le_of_ble_eq_true rfl⟩) ⟨fun a U g mk q => by obtain ⟨q0, q1, qP, qK, qD, qG⟩ := q; exact ⟨q0, q1, qP, va_K.moved (u := U) (U := U.calling g mk a) (Vm.Alike.refl U.vm) qK, qD, qG.same rfl rfl⟩, fun U hU hW => ⟨rfl, by rw [hU], by rw [hU]; exact hPc, va_K.moved hW.alike hKc, hDc.weaken (fun _ _ _ _ => trivial), hG.go hW hU hS hFc⟩⟩ rfl rfl hl.1 rfl (lv_room (Nat.le_of_ble_eq_true rfl)) dL_law_479 ⟨Nat.le_of_ble_eq_true rfl, Nat.le_of_ble_eq_true rfl⟩) hS (fun q _ h => hFc q h) hFc (fun r_1 u t H1 locs ht hvm er_1 hB hz1 hk1 hS => ?_)
  obtain ⟨hP1, hK1, hD1⟩ := hB
  rw [ht] at hP1
  obtain ⟨hP, hD⟩ := va_join (wr := [(mo, .inr (11, [.ref m_disk, .int (nI P), .int ((8224 : Int32) + ((26 : Int32) * (nI P))), .int (1 : Int32), .int 0, .int (-1 : Int32), .int 0, .int (0 : Int32), .ref m_tape, .int 0, .ref m_slots, .ref m_leaves, .int 0, .int 0, .ref m_fresh, .int 0, .int 0, .int 0, .ref m_digestAt, .ref m_isGroup, .ref m_counts, .int 0, .int 0, .long 0, .int 0, .ref m_versionRow, .int 0, .long 0, .ref m_state, .ref m_names, .int 0, .ref m_keptRow, .int 0, .ref m_inSlot, .ref m_inAt, .ref m_inSize, .ref m_inDigest, .int 0])), (m_digestAt, .inl (d_digestAt, 128, .inr (.inl (fun _ => 0)))), (m_isGroup, .inl (d_isGroup, 128, .inl (fun _ => 0))), (m_counts, .inl (d_counts, 128, .inl (fun _ => 0)))]) (w1 := [(ho, .inl (cJ, 1, .inr (.inl (vp_updL (fun _ => 0) (0 : Int32).toNatClampNeg ((-10 : Int32).toInt64)))))]) hP hD [0, 1, 2, 3, 8] [4, 5, 6, 7] rfl rfl (by decide) (by decide) hk1 hFc hP1 hD1
  clear hPc hDc hFc hP1 hD1 hk1 hz1
  generalize H1 = H at hP hS ⊢
  have hP : va_P (dC, dI) vwCl [(mo, .inr (11, [.ref m_disk, .int (nI P), .int ((8224 : Int32) + ((26 : Int32) * (nI P))), .int (1 : Int32), .int 0, .int (-1 : Int32), .int 0, .int (0 : Int32), .ref m_tape, .int 0, .ref m_slots, .ref m_leaves, .int 0, .int 0, .ref m_fresh, .int 0, .int 0, .int 0, .ref m_digestAt, .ref m_isGroup, .ref m_counts, .int 0, .int 0, .long 0, .int 0, .ref m_versionRow, .int 0, .long 0, .ref m_state, .ref m_names, .int 0, .ref m_keptRow, .int 0, .ref m_inSlot, .ref m_inAt, .ref m_inSize, .ref m_inDigest, .int 0])), (m_digestAt, .inl (d_digestAt, 128, .inr (.inl (fun _ => 0)))), (m_isGroup, .inl (d_isGroup, 128, .inl (fun _ => 0))), (m_counts, .inl (d_counts, 128, .inl (fun _ => 0))), (ho, .inl (cJ, 1, .inr (.inl (vp_updL (fun _ => 0) (0 : Int32).toNatClampNeg ((-10 : Int32).toInt64)))))] H := hP
  have hD : va_D A [(mo, .inr (11, [.ref m_disk, .int (nI P), .int ((8224 : Int32) + ((26 : Int32) * (nI P))), .int (1 : Int32), .int 0, .int (-1 : Int32), .int 0, .int (0 : Int32), .ref m_tape, .int 0, .ref m_slots, .ref m_leaves, .int 0, .int 0, .ref m_fresh, .int 0, .int 0, .int 0, .ref m_digestAt, .ref m_isGroup, .ref m_counts, .int 0, .int 0, .long 0, .int 0, .ref m_versionRow, .int 0, .long 0, .ref m_state, .ref m_names, .int 0, .ref m_keptRow, .int 0, .ref m_inSlot, .ref m_inAt, .ref m_inSize, .ref m_inDigest, .int 0])), (m_digestAt, .inl (d_digestAt, 128, .inr (.inl (fun _ => 0)))), (m_isGroup, .inl (d_isGroup, 128, .inl (fun _ => 0))), (m_counts, .inl (d_counts, 128, .inl (fun _ => 0))), (ho, .inl (cJ, 1, .inr (.inl (vp_updL (fun _ => 0) (0 : Int32).toNatClampNeg ((-10 : Int32).toInt64)))))] := hD
  subst er_1
  refine lv_istore (lv' := [(5, .int (0 : Int32)), (4, .int (1 : Int32)), (3, .ref ho), (2, .ref mo), (1, .ref x), (0, .ref b)]) hx hb dL_law_482 hl (by decide) rfl (fun ls hl => ?_)
  refine lv_aload_n hx hb dL_law_484 rfl (lv_at hl 3 rfl) ?_
  refine lv_aload_n hx hb dL_law_485 rfl (lv_at hl 5 rfl) ?_
  refine lv_iload hx hb dL_law_486 (lv_at hl 1 rfl) ?_
  refine lv_iconst (v := 1) hx hb dL_law_488 (by decide) ?_
  refine lv_iadd hx hb dL_law_489 ?_
  refine va_sld hx hb hX hbl hbA hS (by unfold vp_in; decide +kernel : vp_in ((1 : Int32) + (1 : Int32)) 6) dL_law_490 ?_
  have e9 : ((1 : Int32) + (1 : Int32)).toNatClampNeg = 2 := by decide +kernel
  rw [e9]
  clear e9
  refine lv_aload_n hx hb dL_law_491 rfl (lv_at hl 5 rfl) ?_
  refine lv_iload hx hb dL_law_492 (lv_at hl 1 rfl) ?_
  refine lv_iconst (v := 2) hx hb dL_law_494 (by decide) ?_
  refine lv_iadd hx hb dL_law_495 ?_
  refine va_sld hx hb hX hbl hbA hS (by unfold vp_in; decide +kernel : vp_in ((1 : Int32) + (2 : Int32)) 6) dL_law_496 ?_
  have e9 : ((1 : Int32) + (2 : Int32)).toNatClampNeg = 3 := by decide +kernel
  rw [e9]
  clear e9
  refine lv_i2l hx hb dL_law_497 rfl ?_
  refine lv_bipush (v := 32) hx hb dL_law_498 (by decide) ?_
  refine lv_lshl hx hb dL_law_500 rfl ?_
  refine lv_aload_n hx hb dL_law_501 rfl (lv_at hl 5 rfl) ?_
  refine lv_iload hx hb dL_law_502 (lv_at hl 1 rfl) ?_
  refine lv_iconst (v := 3) hx hb dL_law_504 (by decide) ?_
  refine lv_iadd hx hb dL_law_505 ?_
  refine va_sld hx hb hX hbl hbA hS (by unfold vp_in; decide +kernel : vp_in ((1 : Int32) + (3 : Int32)) 6) dL_law_506 ?_
  have e9 : ((1 : Int32) + (3 : Int32)).toNatClampNeg = 4 := by decide +kernel
  rw [e9]
  clear e9
  refine lv_i2l hx hb dL_law_507 rfl ?_
  refine lv_ldc2 hx hb hown (hts (.constantLong RL 106 (4294967295)) (by decide +kernel)) dL_law_508 ?_
  refine lv_land hx hb dL_law_511 ?_
  refine lv_lor hx hb dL_law_512 ?_
  have hPc := hP.sub (ws' := [(mo, .inr (11, [.ref m_disk, .int (nI P), .int ((8224 : Int32) + ((26 : Int32) * (nI P))), .int (1 : Int32), .int 0, .int (-1 : Int32), .int 0, .int (0 : Int32), .ref m_tape, .int 0, .ref m_slots, .ref m_leaves, .int 0, .int 0, .ref m_fresh, .int 0, .int 0, .int 0, .ref m_digestAt, .ref m_isGroup, .ref m_counts, .int 0, .int 0, .long 0, .int 0, .ref m_versionRow, .int 0, .long 0, .ref m_state, .ref m_names, .int 0, .ref m_keptRow, .int 0, .ref m_inSlot, .ref m_inAt, .ref m_inSize, .ref m_inDigest, .int 0])), (m_digestAt, .inl (d_digestAt, 128, .inr (.inl (fun _ => 0)))), (m_isGroup, .inl (d_isGroup, 128, .inl (fun _ => 0))), (m_counts, .inl (d_counts, 128, .inl (fun _ => 0)))]) [0, 1, 2, 3] rfl
  have hKc := hK.sub (tys' := [(d_digestAt, .long), (d_isGroup, .boolean), (d_counts, .boolean)]) [0, 1, 2] rfl
  have hDc := hD.sub (ws' := [(mo, .inr (11, [.ref m_disk, .int (nI P), .int ((8224 : Int32) + ((26 : Int32) * (nI P))), .int (1 : Int32), .int 0, .int (-1 : Int32), .int 0, .int (0 : Int32), .ref m_tape, .int 0, .ref m_slots, .ref m_leaves, .int 0, .int 0, .ref m_fresh, .int 0, .int 0, .int 0, .ref m_digestAt, .ref m_isGroup, .ref m_counts, .int 0, .int 0, .long 0, .int 0, .ref m_versionRow, .int 0, .long 0, .ref m_state, .ref m_names, .int 0, .ref m_keptRow, .int 0, .ref m_inSlot, .ref m_inAt, .ref m_inSize, .ref m_inDigest, .int 0])), (m_digestAt, .inl (d_digestAt, 128, .inr (.inl (fun _ => 0)))), (m_isGroup, .inl (d_isGroup, 128, .inl (fun _ => 0))), (m_counts, .inl (d_counts, 128, .inl (fun _ => 0)))]) [0, 1, 2, 3] (by decide) rfl
  have hFc := va_free (wc := [(mo, .inr (11, [.ref m_disk, .int (nI P), .int ((8224 : Int32) + ((26 : Int32) * (nI P))), .int (1 : Int32), .int 0, .int (-1 : Int32), .int 0, .int (0 : Int32), .ref m_tape, .int 0, .ref m_slots, .ref m_leaves, .int 0, .int 0, .ref m_fresh, .int 0, .int 0, .int 0, .ref m_digestAt, .ref m_isGroup, .ref m_counts, .int 0, .int 0, .long 0, .int 0, .ref m_versionRow, .int 0, .long 0, .ref m_state, .ref m_names, .int 0, .ref m_keptRow, .int 0, .ref m_inSlot, .ref m_inAt, .ref m_inSize, .ref m_inDigest, .int 0])), (m_digestAt, .inl (d_digestAt, 128, .inr (.inl (fun _ => 0)))), (m_isGroup, .inl (d_isGroup, 128, .inl (fun _ => 0))), (m_counts, .inl (d_counts, 128, .inl (fun _ => 0)))]) hD hS hA [0, 1, 2, 3] rfl
  refine va_calli (va_runV (As := [.int (xs 2), .long ((((xs 3).toInt64) <<< ((32 : Int32).toInt64 &&& 63)) ||| (((xs 4).toInt64) &&& (4294967295 : Int64)))]) (rest := []) ⟨hx, hb, hml, hown, hts⟩ (k_X9_block_6 l dC dI mo (xs 2) ((((xs 3).toInt64) <<< ((32 : Int32).toInt64 &&& 63)) ||| (((xs 4).toInt64) &&& (4294967295 : Int64))) m_digestAt m_isGroup m_counts m_disk P m_tape m_slots m_leaves m_fresh m_versionRow m_state m_names m_keptRow m_inSlot m_inAt m_inSize m_inDigest d_digestAt d_isGroup d_counts _ hf0 hf1 hf3 hf5 hf6 hf4) (cwV 2 hts gL_law_X9_block rfl rfl rfl (by decide +kernel) ⟨Nat.le_of_ble_eq_true rfl, Nat.le_of_ble_eq_true rfl⟩) ⟨fun a U g mk q => by obtain ⟨q0, q1, qP, qK, qD⟩ := q; exact ⟨q0, q1, qP, va_K.moved (u := U) (U := U.calling g mk a) (Vm.Alike.refl U.vm) qK, qD⟩, va_recv hK hP (ci := 11) (q := (RX9, TX9, 38)) rfl (q0 := 0) rfl, fun U hU hW => ⟨rfl, by rw [hU], by rw [hU]; exact hPc, va_K.moved hW.alike hKc, hDc.weaken (fun _ _ _ _ => trivial)⟩⟩ rfl rfl hl.1 rfl (lv_room (Nat.le_of_ble_eq_true rfl)) dL_law_513 ⟨Nat.le_of_ble_eq_true rfl, Nat.le_of_ble_eq_true rfl⟩) hS (fun q _ h => hFc q h) hFc (fun r_2 u t H1 locs ht hvm er_2 hB hz1 hk1 hS => ?_)
  obtain ⟨hP1, hK1, hD1⟩ := hB
  rw [ht] at hP1
  obtain ⟨hP, hD⟩ := va_join (wr := [(ho, .inl (cJ, 1, .inr (.inl (vp_updL (fun _ => 0) (0 : Int32).toNatClampNeg ((-10 : Int32).toInt64)))))]) (w1 := [(mo, .inr (11, [.ref m_disk, .int (nI P), .int ((8224 : Int32) + ((26 : Int32) * (nI P))), .int (1 : Int32), .int 0, .int (-1 : Int32), .int 0, .int (0 : Int32), .ref m_tape, .int 0, .ref m_slots, .ref m_leaves, .int 0, .int 0, .ref m_fresh, .int 0, .int (0 : Int32), .int (0 : Int32), .ref m_digestAt, .ref m_isGroup, .ref m_counts, .int (-1 : Int32), .int (0 : Int32), .long (0 : Int64), .int (0 : Int32), .ref m_versionRow, .int (0 : Int32), .long (0 : Int64), .ref m_state, .ref m_names, .int 0, .ref m_keptRow, .int 0, .ref m_inSlot, .ref m_inAt, .ref m_inSize, .ref m_inDigest, .int 0]))]) hP hD [0, 1, 2, 3] [4] rfl rfl (by decide) (by decide) hk1 hFc hP1 hD1
  clear hPc hDc hFc hP1 hD1 hk1 hz1
  generalize H1 = H at hP hS ⊢
  have hP : va_P (dC, dI) vwCl [(ho, .inl (cJ, 1, .inr (.inl (vp_updL (fun _ => 0) (0 : Int32).toNatClampNeg ((-10 : Int32).toInt64))))), (mo, .inr (11, [.ref m_disk, .int (nI P), .int ((8224 : Int32) + ((26 : Int32) * (nI P))), .int (1 : Int32), .int 0, .int (-1 : Int32), .int 0, .int (0 : Int32), .ref m_tape, .int 0, .ref m_slots, .ref m_leaves, .int 0, .int 0, .ref m_fresh, .int 0, .int (0 : Int32), .int (0 : Int32), .ref m_digestAt, .ref m_isGroup, .ref m_counts, .int (-1 : Int32), .int (0 : Int32), .long (0 : Int64), .int (0 : Int32), .ref m_versionRow, .int (0 : Int32), .long (0 : Int64), .ref m_state, .ref m_names, .int 0, .ref m_keptRow, .int 0, .ref m_inSlot, .ref m_inAt, .ref m_inSize, .ref m_inDigest, .int 0]))] H := hP
  have hD : va_D A [(ho, .inl (cJ, 1, .inr (.inl (vp_updL (fun _ => 0) (0 : Int32).toNatClampNeg ((-10 : Int32).toInt64))))), (mo, .inr (11, [.ref m_disk, .int (nI P), .int ((8224 : Int32) + ((26 : Int32) * (nI P))), .int (1 : Int32), .int 0, .int (-1 : Int32), .int 0, .int (0 : Int32), .ref m_tape, .int 0, .ref m_slots, .ref m_leaves, .int 0, .int 0, .ref m_fresh, .int 0, .int (0 : Int32), .int (0 : Int32), .ref m_digestAt, .ref m_isGroup, .ref m_counts, .int (-1 : Int32), .int (0 : Int32), .long (0 : Int64), .int (0 : Int32), .ref m_versionRow, .int (0 : Int32), .long (0 : Int64), .ref m_state, .ref m_names, .int 0, .ref m_keptRow, .int 0, .ref m_inSlot, .ref m_inAt, .ref m_inSize, .ref m_inDigest, .int 0]))] := hD
  subst er_2
  refine lv_istore (lv' := [(6, .int (-10 : Int32)), (5, .int (0 : Int32)), (4, .int (1 : Int32)), (3, .ref ho), (2, .ref mo), (1, .ref x), (0, .ref b)]) hx hb dL_law_516 hl (by decide) rfl (fun ls hl => ?_)
  refine lv_aload_n hx hb dL_law_518 rfl (lv_at hl 4 rfl) ?_
  have hPc := hP.sub (ws' := [(mo, .inr (11, [.ref m_disk, .int (nI P), .int ((8224 : Int32) + ((26 : Int32) * (nI P))), .int (1 : Int32), .int 0, .int (-1 : Int32), .int 0, .int (0 : Int32), .ref m_tape, .int 0, .ref m_slots, .ref m_leaves, .int 0, .int 0, .ref m_fresh, .int 0, .int (0 : Int32), .int (0 : Int32), .ref m_digestAt, .ref m_isGroup, .ref m_counts, .int (-1 : Int32), .int (0 : Int32), .long (0 : Int64), .int (0 : Int32), .ref m_versionRow, .int (0 : Int32), .long (0 : Int64), .ref m_state, .ref m_names, .int 0, .ref m_keptRow, .int 0, .ref m_inSlot, .ref m_inAt, .ref m_inSize, .ref m_inDigest, .int 0]))]) [1] rfl
  have hKc := hK.sub (tys' := []) [] rfl
  refine vp_callSi (va_Run.run (va_runV (As := []) (rest := []) ⟨hx, hb, hml, hown, hts⟩ (k_X9_thrown_1 l dC dI mo (.ref m_disk) (.int (nI P)) (.int ((8224 : Int32) + ((26 : Int32) * (nI P)))) (.int (1 : Int32)) (.int 0) (.int (-1 : Int32)) (.int 0) (.int (0 : Int32)) (.ref m_tape) (.int 0) (.ref m_slots) (.ref m_leaves) (.int 0) 0 ([.ref m_fresh, .int 0, .int (0 : Int32), .int (0 : Int32), .ref m_digestAt, .ref m_isGroup, .ref m_counts, .int (-1 : Int32), .int (0 : Int32), .long (0 : Int64), .int (0 : Int32), .ref m_versionRow, .int (0 : Int32), .long (0 : Int64), .ref m_state, .ref m_names, .int 0, .ref m_keptRow, .int 0, .ref m_inSlot, .ref m_inAt, .ref m_inSize, .ref m_inDigest, .int 0])) (cwV 0 hts gL_law_X9_thrown rfl rfl rfl (by decide +kernel) ⟨Nat.le_of_ble_eq_true rfl, Nat.le_of_ble_eq_true rfl⟩) ⟨fun a U g mk q => by obtain ⟨q0, qP, qK⟩ := q; exact ⟨q0, qP, va_K.moved (u := U) (U := U.calling g mk a) (Vm.Alike.refl U.vm) qK⟩, va_recv hK hP (ci := 11) (q := (RX9, TX9, 38)) rfl (q0 := 1) rfl, fun U hU hW => ⟨rfl, by rw [hU]; exact hPc, va_K.moved hW.alike hKc⟩⟩ rfl rfl hl.1 rfl (lv_room (Nat.le_of_ble_eq_true rfl)) dL_law_519 ⟨Nat.le_of_ble_eq_true rfl, Nat.le_of_ble_eq_true rfl⟩)) (fun r_3 er_3 => ?_)
  replace er_3 := er_3.trans (show _ = (0 : Int32) by decide +kernel)
  subst er_3
  refine lv_iload hx hb dL_law_522 (lv_at hl 1 rfl) ?_
  refine lv_icmp_eq (tgt := 529) hx hb dL_law_524 (by decide) (fun c_4 => ?_) (fun c_4 => ?_)
  · skip
    refine lv_iload hx hb dL_law_529 (lv_at hl 1 rfl) ?_
    refine lv_if_ne (tgt := 546) hx hb dL_law_531 (by decide) (fun c_5 => ?_) (fun c_5 => ?_)
    · skip
      exact absurd (by decide) c_5
    · skip
      refine lv_aload_n hx hb dL_law_534 rfl (lv_at hl 3 rfl) ?_
      refine lv_iconst (v := 0) hx hb dL_law_535 (by decide) ?_
      refine va_lald hx hb hK hP 0 3 rfl rfl (by unfold vp_in; decide +kernel) dL_law_536 ?_
      have e9 : (vp_updL (fun _ => 0) (0 : Int32).toNatClampNeg ((-10 : Int32).toInt64)) (0 : Int32).toNatClampNeg = (-10 : Int32).toInt64 := if_pos rfl
      rw [e9]
      clear e9
      refine lv_iload hx hb dL_law_537 (lv_at hl 0 rfl) ?_
      refine lv_i2l hx hb dL_law_539 rfl ?_
      refine W.lcmp hx hb dL_law_540 ?_
      refine lv_if_eq (tgt := 546) hx hb dL_law_541 (by decide) (fun c_6 => ?_) (fun c_6 => ?_)
      · skip
        refine lv_goto (tgt := 1731) hx hb dL_law_546 (by decide) ?_
        refine lv_iinc (v := (6 : Int32)) (lv' := [(4, .int (6 : Int32)), (6, .int (-10 : Int32)), (5, .int (0 : Int32)), (3, .ref ho), (2, .ref mo), (1, .ref x), (0, .ref b)]) hx hb dL_law_1731 hl (k := 2) rfl (by decide) (by decide) rfl (fun ls hl => ?_)
        refine lv_goto (tgt := 33) hx hb dL_law_1734 (by decide) ?_
        refine lv_iload hx hb dL_law_33 (lv_at hl 0 rfl) ?_
        refine lv_aload_n hx hb dL_law_35 rfl (lv_at hl 6 rfl) ?_
        refine va_slen hx hb hX hbl hbA hS dL_law_36 ?_
        refine lv_iconst (v := 5) hx hb dL_law_37 (by decide) ?_
        refine lv_isub hx hb dL_law_38 ?_
        refine lv_icmp_gt (tgt := 1737) hx hb dL_law_39 (by decide) (fun c_7 => ?_) (fun c_7 => ?_)
        · skip
          refine lv_iconst (v := 1) hx hb dL_law_1737 (by decide) ?_
          refine va_forget (fun q hq => hA9 _ (hS.2.2 q hq)) ?_
          refine W.widen (k := 600002) (n := 7302198) (Nat.le_of_ble_eq_true rfl) (Nat.le_of_ble_eq_true rfl) ?_
          exact lw_ret hx hb hr hlocks dL_law_1738
        · skip
          exact absurd (by decide) c_7
      · skip
        exact absurd ((lg_cmp_eq _ _).mpr rfl) c_6
  · skip
    exact absurd (by decide) c_4

set_option maxHeartbeats 4000000 in
set_option maxRecDepth 100000 in
theorem sg_95 {p : Program} {e : Env} {s : State} {m : MethodId} {below : List Frame} {meth : Method} {c : Code} (l : Launch) (hl0 : l.stackTraces = false) {A : Nat → Prop} {dC : Nat → ClassId} {dI : Nat → Nat → Nat} {b : Nat} {xs : Nat → Int32} (ho : Nat) (mo : Nat) (x : Nat) (dr : Nat) (rr : Nat) (ds : Nat) (dl : Nat) (ri : Nat) (so : Nat) (s1 : Nat) (s2 : Nat) (s3 : Nat) (s4 : Nat) (m_disk : Nat) (m_fresh : Nat) (m_digestAt : Nat) (m_isGroup : Nat) (m_counts : Nat) (tp : Nat) (pu : Nat) (sn : Nat) (im : Nat) (cs : Nat) (cl : Nat) (c_dr : ClassId) (P : Nat) (dt : Nat) (c_dl : ClassId) (c_ri : ClassId) (s5 : Nat) (s6 : Nat) (c_s1 : ClassId) (c_s2 : ClassId) (c_s3 : ClassId) (c_s4 : ClassId) (m_tape : Nat) (m_slots : Nat) (m_leaves : Nat) (m_versionRow : Nat) (m_state : Nat) (m_names : Nat) (m_keptRow : Nat) (m_inSlot : Nat) (m_inAt : Nat) (m_inSize : Nat) (m_inDigest : Nat) (d_disk : ClassId) (d_fresh : ClassId) (d_digestAt : ClassId) (d_isGroup : ClassId) (d_counts : ClassId) (cJ : ClassId) (C0 : lw_B p s m meth c b 6 xs A) (hf0 : xs 2 = (1 : Int32)) (hf1 : ((xs 3).toInt64 <<< ((32 : Int32).toInt64 &&& 63)) ||| ((xs 4).toInt64 &&& (4294967295 : Int64)) = (0 : Int64)) {H : Heap} {locs : List Loc} {ls : Array Slot} (hP : va_P (dC, dI) vwCl [(x, .inr (10, [.ref tp, .ref ds, .ref rr, .ref so, .ref pu, .ref sn, .ref im, .ref cs, .ref cl, .int (0 : Int32)])), (dr, .inl (c_dr, 256, .inl (fun _ => 0))), (rr, .inr (6, [.ref ds, .ref ri, .int 0, .int 1, .int 0, .int 0])), (ds, .inr (3, [.int (nI P), .ref dl, .ref dr, .ref dt, .int (1 : Int32), .int (-1 : Int32), .int (0 : Int32)])), (dl, .inl (c_dl, 8224, .inl (va_cpy (pu_head (fun _ => 0) 1) (fun _ => 0) 0 0 16))), (ri, .inl (c_ri, 32, .inl (pu_head (fun _ => 0) 1))), (so, .inr (8, [.ref rr, .ref s1, .ref s2, .ref s3, .ref s4, .ref s5, .ref s6, .int (0 : Int32), .int (0 : Int32), .int (-1 : Int32), .int (0 : Int32), .int (0 : Int32)])), (s1, .inl (c_s1, 128, .inr (.inl (fun _ => 0)))), (s2, .inl (c_s2, 128, .inl (fun _ => 0))), (s3, .inl (c_s3, 128, .inl (fun _ => 0))), (s4, .inl (c_s4, 128, .inl (fun _ => 0))), (mo, .inr (11, [.ref m_disk, .int (nI P), .int ((8224 : Int32) + ((26 : Int32) * (nI P))), .int (1 : Int32), .int 0, .int (-1 : Int32), .int 0, .int (0 : Int32), .ref m_tape, .int 0, .ref m_slots, .ref m_leaves, .int 0, .int 0, .ref m_fresh, .int 0, .int 0, .int 0, .ref m_digestAt, .ref m_isGroup, .ref m_counts, .int 0, .int 0, .long 0, .int 0, .ref m_versionRow, .int 0, .long 0, .ref m_state, .ref m_names, .int 0, .ref m_keptRow, .int 0, .ref m_inSlot, .ref m_inAt, .ref m_inSize, .ref m_inDigest, .int 0])), (m_disk, .inl (d_disk, 428040, .inl md_fresh)), (m_fresh, .inl (d_fresh, 32, .inl (fun _ => 0))), (m_digestAt, .inl (d_digestAt, 128, .inr (.inl (fun _ => 0)))), (m_isGroup, .inl (d_isGroup, 128, .inl (fun _ => 0))), (m_counts, .inl (d_counts, 128, .inl (fun _ => 0))), (ho, .inl (cJ, 1, .inr (.inl (fun _ => 0))))] H) (hK : va_K (dC, dI) vwCl [(c_dr, .byte), (c_dl, .byte), (c_ri, .byte), (c_s1, .long), (c_s2, .boolean), (c_s3, .boolean), (c_s4, .boolean), (d_disk, .int), (d_fresh, .int), (d_digestAt, .long), (d_isGroup, .boolean), (d_counts, .boolean), (cJ, .long)] s) (hD : va_D A [(x, .inr (10, [.ref tp, .ref ds, .ref rr, .ref so, .ref pu, .ref sn, .ref im, .ref cs, .ref cl, .int (0 : Int32)])), (dr, .inl (c_dr, 256, .inl (fun _ => 0))), (rr, .inr (6, [.ref ds, .ref ri, .int 0, .int 1, .int 0, .int 0])), (ds, .inr (3, [.int (nI P), .ref dl, .ref dr, .ref dt, .int (1 : Int32), .int (-1 : Int32), .int (0 : Int32)])), (dl, .inl (c_dl, 8224, .inl (va_cpy (pu_head (fun _ => 0) 1) (fun _ => 0) 0 0 16))), (ri, .inl (c_ri, 32, .inl (pu_head (fun _ => 0) 1))), (so, .inr (8, [.ref rr, .ref s1, .ref s2, .ref s3, .ref s4, .ref s5, .ref s6, .int (0 : Int32), .int (0 : Int32), .int (-1 : Int32), .int (0 : Int32), .int (0 : Int32)])), (s1, .inl (c_s1, 128, .inr (.inl (fun _ => 0)))), (s2, .inl (c_s2, 128, .inl (fun _ => 0))), (s3, .inl (c_s3, 128, .inl (fun _ => 0))), (s4, .inl (c_s4, 128, .inl (fun _ => 0))), (mo, .inr (11, [.ref m_disk, .int (nI P), .int ((8224 : Int32) + ((26 : Int32) * (nI P))), .int (1 : Int32), .int 0, .int (-1 : Int32), .int 0, .int (0 : Int32), .ref m_tape, .int 0, .ref m_slots, .ref m_leaves, .int 0, .int 0, .ref m_fresh, .int 0, .int 0, .int 0, .ref m_digestAt, .ref m_isGroup, .ref m_counts, .int 0, .int 0, .long 0, .int 0, .ref m_versionRow, .int 0, .long 0, .ref m_state, .ref m_names, .int 0, .ref m_keptRow, .int 0, .ref m_inSlot, .ref m_inAt, .ref m_inSize, .ref m_inDigest, .int 0])), (m_disk, .inl (d_disk, 428040, .inl md_fresh)), (m_fresh, .inl (d_fresh, 32, .inl (fun _ => 0))), (m_digestAt, .inl (d_digestAt, 128, .inr (.inl (fun _ => 0)))), (m_isGroup, .inl (d_isGroup, 128, .inl (fun _ => 0))), (m_counts, .inl (d_counts, 128, .inl (fun _ => 0))), (ho, .inl (cJ, 1, .inr (.inl (fun _ => 0))))]) (hS : va_S A s.heap H locs) (hl : lv_has ls 8 [(4, .int (1 : Int32)), (3, .ref ho), (2, .ref mo), (1, .ref x), (0, .ref b)]) : W p l e room_1 s m #[Value.ref b] below meth c H locs 44 439502 (lw_Z below #[Value.ref b] s) (F0 m 449 ls []) := by
  obtain ⟨hx, hb, hr, hml, hown, hts, hX, hbl, hlocks, hA, hA9, hbA, hG⟩ := C0
  refine lv_aload_n hx hb dL_law_449 rfl (lv_at hl 3 rfl) ?_
  refine lv_aload_n hx hb dL_law_450 rfl (lv_at hl 4 rfl) ?_
  refine lv_iload hx hb dL_law_451 (lv_at hl 0 rfl) ?_
  refine lv_iconst (v := 1) hx hb dL_law_453 (by decide) ?_
  refine lv_iadd hx hb dL_law_454 ?_
  refine va_sld hx hb hX hbl hbA hS (by unfold vp_in; decide +kernel : vp_in ((1 : Int32) + (1 : Int32)) 6) dL_law_455 ?_
  have e9 : ((1 : Int32) + (1 : Int32)).toNatClampNeg = 2 := by decide +kernel
  rw [e9]
  clear e9
  rw [hf0]
  refine lv_aload_n hx hb dL_law_456 rfl (lv_at hl 4 rfl) ?_
  refine lv_iload hx hb dL_law_457 (lv_at hl 0 rfl) ?_
  refine lv_iconst (v := 2) hx hb dL_law_459 (by decide) ?_
  refine lv_iadd hx hb dL_law_460 ?_
  refine va_sld hx hb hX hbl hbA hS (by unfold vp_in; decide +kernel : vp_in ((1 : Int32) + (2 : Int32)) 6) dL_law_461 ?_
  have e9 : ((1 : Int32) + (2 : Int32)).toNatClampNeg = 3 := by decide +kernel
  rw [e9]
  clear e9
  refine lv_i2l hx hb dL_law_462 rfl ?_
  refine lv_bipush (v := 32) hx hb dL_law_463 (by decide) ?_
  refine lv_lshl hx hb dL_law_465 rfl ?_
  refine lv_aload_n hx hb dL_law_466 rfl (lv_at hl 4 rfl) ?_
  refine lv_iload hx hb dL_law_467 (lv_at hl 0 rfl) ?_
  refine lv_iconst (v := 3) hx hb dL_law_469 (by decide) ?_
  refine lv_iadd hx hb dL_law_470 ?_
  refine va_sld hx hb hX hbl hbA hS (by unfold vp_in; decide +kernel : vp_in ((1 : Int32) + (3 : Int32)) 6) dL_law_471 ?_
  have e9 : ((1 : Int32) + (3 : Int32)).toNatClampNeg = 4 := by decide +kernel
  rw [e9]
  clear e9
  refine lv_i2l hx hb dL_law_472 rfl ?_
  refine lv_ldc2 hx hb hown (hts (.constantLong RL 106 (4294967295)) (by decide +kernel)) dL_law_473 ?_
  refine lv_land hx hb dL_law_476 ?_
  refine lv_lor hx hb dL_law_477 ?_
  rw [hf1]
  refine lv_aload_n hx hb dL_law_478 rfl (lv_at hl 1 rfl) ?_
  have hPc := hP.sub (ws' := [(x, .inr (10, [.ref tp, .ref ds, .ref rr, .ref so, .ref pu, .ref sn, .ref im, .ref cs, .ref cl, .int (0 : Int32)])), (dr, .inl (c_dr, 256, .inl (fun _ => 0))), (rr, .inr (6, [.ref ds, .ref ri, .int 0, .int 1, .int 0, .int 0])), (ds, .inr (3, [.int (nI P), .ref dl, .ref dr, .ref dt, .int (1 : Int32), .int (-1 : Int32), .int (0 : Int32)])), (dl, .inl (c_dl, 8224, .inl (va_cpy (pu_head (fun _ => 0) 1) (fun _ => 0) 0 0 16))), (ri, .inl (c_ri, 32, .inl (pu_head (fun _ => 0) 1))), (so, .inr (8, [.ref rr, .ref s1, .ref s2, .ref s3, .ref s4, .ref s5, .ref s6, .int (0 : Int32), .int (0 : Int32), .int (-1 : Int32), .int (0 : Int32), .int (0 : Int32)])), (s1, .inl (c_s1, 128, .inr (.inl (fun _ => 0)))), (s2, .inl (c_s2, 128, .inl (fun _ => 0))), (s3, .inl (c_s3, 128, .inl (fun _ => 0))), (s4, .inl (c_s4, 128, .inl (fun _ => 0))), (ho, .inl (cJ, 1, .inr (.inl (fun _ => 0))))]) [0, 1, 2, 3, 4, 5, 6, 7, 8, 9, 10, 17] rfl
  have hKc := hK.sub (tys' := [(c_dr, .byte), (c_dl, .byte), (c_ri, .byte), (c_s1, .long), (c_s2, .boolean), (c_s3, .boolean), (c_s4, .boolean), (cJ, .long)]) [0, 1, 2, 3, 4, 5, 6, 12] rfl
  have hDc := hD.sub (ws' := [(x, .inr (10, [.ref tp, .ref ds, .ref rr, .ref so, .ref pu, .ref sn, .ref im, .ref cs, .ref cl, .int (0 : Int32)])), (dr, .inl (c_dr, 256, .inl (fun _ => 0))), (rr, .inr (6, [.ref ds, .ref ri, .int 0, .int 1, .int 0, .int 0])), (ds, .inr (3, [.int (nI P), .ref dl, .ref dr, .ref dt, .int (1 : Int32), .int (-1 : Int32), .int (0 : Int32)])), (dl, .inl (c_dl, 8224, .inl (va_cpy (pu_head (fun _ => 0) 1) (fun _ => 0) 0 0 16))), (ri, .inl (c_ri, 32, .inl (pu_head (fun _ => 0) 1))), (so, .inr (8, [.ref rr, .ref s1, .ref s2, .ref s3, .ref s4, .ref s5, .ref s6, .int (0 : Int32), .int (0 : Int32), .int (-1 : Int32), .int (0 : Int32), .int (0 : Int32)])), (s1, .inl (c_s1, 128, .inr (.inl (fun _ => 0)))), (s2, .inl (c_s2, 128, .inl (fun _ => 0))), (s3, .inl (c_s3, 128, .inl (fun _ => 0))), (s4, .inl (c_s4, 128, .inl (fun _ => 0))), (ho, .inl (cJ, 1, .inr (.inl (fun _ => 0))))]) [0, 1, 2, 3, 4, 5, 6, 7, 8, 9, 10, 17] (by decide) rfl
  have hFc := va_free (wc := [(x, .inr (10, [.ref tp, .ref ds, .ref rr, .ref so, .ref pu, .ref sn, .ref im, .ref cs, .ref cl, .int (0 : Int32)])), (dr, .inl (c_dr, 256, .inl (fun _ => 0))), (rr, .inr (6, [.ref ds, .ref ri, .int 0, .int 1, .int 0, .int 0])), (ds, .inr (3, [.int (nI P), .ref dl, .ref dr, .ref dt, .int (1 : Int32), .int (-1 : Int32), .int (0 : Int32)])), (dl, .inl (c_dl, 8224, .inl (va_cpy (pu_head (fun _ => 0) 1) (fun _ => 0) 0 0 16))), (ri, .inl (c_ri, 32, .inl (pu_head (fun _ => 0) 1))), (so, .inr (8, [.ref rr, .ref s1, .ref s2, .ref s3, .ref s4, .ref s5, .ref s6, .int (0 : Int32), .int (0 : Int32), .int (-1 : Int32), .int (0 : Int32), .int (0 : Int32)])), (s1, .inl (c_s1, 128, .inr (.inl (fun _ => 0)))), (s2, .inl (c_s2, 128, .inl (fun _ => 0))), (s3, .inl (c_s3, 128, .inl (fun _ => 0))), (s4, .inl (c_s4, 128, .inl (fun _ => 0))), (ho, .inl (cJ, 1, .inr (.inl (fun _ => 0))))]) hD hS hA [0, 1, 2, 3, 4, 5, 6, 7, 8, 9, 10, 17] rfl
  refine va_calli (vx_runSW (As := [.ref x, .int (1 : Int32), .long (0 : Int64), .ref ho]) (rest := []) ⟨hx, hb, hml, hown, hts⟩ (k_L_block_7 l dC dI x ho dr rr ds dl ri so s1 s2 s3 s4 tp pu sn im cs cl c_dr (nI P) dt c_dl c_ri s5 s6 c_s1 c_s2 c_s3 c_s4 cJ (fun _ => 0) _) (vx_cwSW 4 hts gL_law_L_block rfl rfl rfl (by decide +kernel) ⟨Nat.le_of_ble_eq_true rfl, Nat.le_of_ble_eq_true rfl⟩) ⟨fun a U g mk q => by obtain ⟨q0, q1, qP, qK, qD, qG⟩ := q; exact ⟨q0, q1, qP, va_K.moved (u := U) (U := U.calling g mk a) (Vm.Alike.refl U.vm) qK, qD, qG.same rfl rfl⟩, fun U hU hW => ⟨rfl, by rw [hU], by rw [hU]; exact hPc, va_K.moved hW.alike hKc, hDc.weaken (fun _ _ _ _ => trivial), hG.go hW hU hS hFc⟩⟩ rfl rfl hl.1 rfl (lv_room (Nat.le_of_ble_eq_true rfl)) dL_law_479 ⟨Nat.le_of_ble_eq_true rfl, Nat.le_of_ble_eq_true rfl⟩) hS (fun q _ h => hFc q h) hFc (fun r_1 u t H1 locs ht hvm er_1 hB hz1 hk1 hS => ?_)
  obtain ⟨hP1, hK1, hD1⟩ := hB
  rw [ht] at hP1
  obtain ⟨hP, hD⟩ := va_join (wr := [(mo, .inr (11, [.ref m_disk, .int (nI P), .int ((8224 : Int32) + ((26 : Int32) * (nI P))), .int (1 : Int32), .int 0, .int (-1 : Int32), .int 0, .int (0 : Int32), .ref m_tape, .int 0, .ref m_slots, .ref m_leaves, .int 0, .int 0, .ref m_fresh, .int 0, .int 0, .int 0, .ref m_digestAt, .ref m_isGroup, .ref m_counts, .int 0, .int 0, .long 0, .int 0, .ref m_versionRow, .int 0, .long 0, .ref m_state, .ref m_names, .int 0, .ref m_keptRow, .int 0, .ref m_inSlot, .ref m_inAt, .ref m_inSize, .ref m_inDigest, .int 0])), (m_disk, .inl (d_disk, 428040, .inl md_fresh)), (m_fresh, .inl (d_fresh, 32, .inl (fun _ => 0))), (m_digestAt, .inl (d_digestAt, 128, .inr (.inl (fun _ => 0)))), (m_isGroup, .inl (d_isGroup, 128, .inl (fun _ => 0))), (m_counts, .inl (d_counts, 128, .inl (fun _ => 0)))]) (w1 := [(ho, .inl (cJ, 1, .inr (.inl (vp_updL (fun _ => 0) (0 : Int32).toNatClampNeg ((0 : Int32).toInt64)))))]) hP hD [0, 1, 2, 3, 4, 5, 6, 7, 8, 9, 10, 17] [11, 12, 13, 14, 15, 16] rfl rfl (by decide) (by decide) hk1 hFc hP1 hD1
  clear hPc hDc hFc hP1 hD1 hk1 hz1
  generalize H1 = H at hP hS ⊢
  have hP : va_P (dC, dI) vwCl [(mo, .inr (11, [.ref m_disk, .int (nI P), .int ((8224 : Int32) + ((26 : Int32) * (nI P))), .int (1 : Int32), .int 0, .int (-1 : Int32), .int 0, .int (0 : Int32), .ref m_tape, .int 0, .ref m_slots, .ref m_leaves, .int 0, .int 0, .ref m_fresh, .int 0, .int 0, .int 0, .ref m_digestAt, .ref m_isGroup, .ref m_counts, .int 0, .int 0, .long 0, .int 0, .ref m_versionRow, .int 0, .long 0, .ref m_state, .ref m_names, .int 0, .ref m_keptRow, .int 0, .ref m_inSlot, .ref m_inAt, .ref m_inSize, .ref m_inDigest, .int 0])), (m_disk, .inl (d_disk, 428040, .inl md_fresh)), (m_fresh, .inl (d_fresh, 32, .inl (fun _ => 0))), (m_digestAt, .inl (d_digestAt, 128, .inr (.inl (fun _ => 0)))), (m_isGroup, .inl (d_isGroup, 128, .inl (fun _ => 0))), (m_counts, .inl (d_counts, 128, .inl (fun _ => 0))), (ho, .inl (cJ, 1, .inr (.inl (vp_updL (fun _ => 0) (0 : Int32).toNatClampNeg ((0 : Int32).toInt64)))))] H := hP
  have hD : va_D A [(mo, .inr (11, [.ref m_disk, .int (nI P), .int ((8224 : Int32) + ((26 : Int32) * (nI P))), .int (1 : Int32), .int 0, .int (-1 : Int32), .int 0, .int (0 : Int32), .ref m_tape, .int 0, .ref m_slots, .ref m_leaves, .int 0, .int 0, .ref m_fresh, .int 0, .int 0, .int 0, .ref m_digestAt, .ref m_isGroup, .ref m_counts, .int 0, .int 0, .long 0, .int 0, .ref m_versionRow, .int 0, .long 0, .ref m_state, .ref m_names, .int 0, .ref m_keptRow, .int 0, .ref m_inSlot, .ref m_inAt, .ref m_inSize, .ref m_inDigest, .int 0])), (m_disk, .inl (d_disk, 428040, .inl md_fresh)), (m_fresh, .inl (d_fresh, 32, .inl (fun _ => 0))), (m_digestAt, .inl (d_digestAt, 128, .inr (.inl (fun _ => 0)))), (m_isGroup, .inl (d_isGroup, 128, .inl (fun _ => 0))), (m_counts, .inl (d_counts, 128, .inl (fun _ => 0))), (ho, .inl (cJ, 1, .inr (.inl (vp_updL (fun _ => 0) (0 : Int32).toNatClampNeg ((0 : Int32).toInt64)))))] := hD
  subst er_1
  refine lv_istore (lv' := [(5, .int (0 : Int32)), (4, .int (1 : Int32)), (3, .ref ho), (2, .ref mo), (1, .ref x), (0, .ref b)]) hx hb dL_law_482 hl (by decide) rfl (fun ls hl => ?_)
  refine lv_aload_n hx hb dL_law_484 rfl (lv_at hl 3 rfl) ?_
  refine lv_aload_n hx hb dL_law_485 rfl (lv_at hl 5 rfl) ?_
  refine lv_iload hx hb dL_law_486 (lv_at hl 1 rfl) ?_
  refine lv_iconst (v := 1) hx hb dL_law_488 (by decide) ?_
  refine lv_iadd hx hb dL_law_489 ?_
  refine va_sld hx hb hX hbl hbA hS (by unfold vp_in; decide +kernel : vp_in ((1 : Int32) + (1 : Int32)) 6) dL_law_490 ?_
  have e9 : ((1 : Int32) + (1 : Int32)).toNatClampNeg = 2 := by decide +kernel
  rw [e9]
  clear e9
  rw [hf0]
  refine lv_aload_n hx hb dL_law_491 rfl (lv_at hl 5 rfl) ?_
  refine lv_iload hx hb dL_law_492 (lv_at hl 1 rfl) ?_
  refine lv_iconst (v := 2) hx hb dL_law_494 (by decide) ?_
  refine lv_iadd hx hb dL_law_495 ?_
  refine va_sld hx hb hX hbl hbA hS (by unfold vp_in; decide +kernel : vp_in ((1 : Int32) + (2 : Int32)) 6) dL_law_496 ?_
  have e9 : ((1 : Int32) + (2 : Int32)).toNatClampNeg = 3 := by decide +kernel
  rw [e9]
  clear e9
  refine lv_i2l hx hb dL_law_497 rfl ?_
  refine lv_bipush (v := 32) hx hb dL_law_498 (by decide) ?_
  refine lv_lshl hx hb dL_law_500 rfl ?_
  refine lv_aload_n hx hb dL_law_501 rfl (lv_at hl 5 rfl) ?_
  refine lv_iload hx hb dL_law_502 (lv_at hl 1 rfl) ?_
  refine lv_iconst (v := 3) hx hb dL_law_504 (by decide) ?_
  refine lv_iadd hx hb dL_law_505 ?_
  refine va_sld hx hb hX hbl hbA hS (by unfold vp_in; decide +kernel : vp_in ((1 : Int32) + (3 : Int32)) 6) dL_law_506 ?_
  have e9 : ((1 : Int32) + (3 : Int32)).toNatClampNeg = 4 := by decide +kernel
  rw [e9]
  clear e9
  refine lv_i2l hx hb dL_law_507 rfl ?_
  refine lv_ldc2 hx hb hown (hts (.constantLong RL 106 (4294967295)) (by decide +kernel)) dL_law_508 ?_
  refine lv_land hx hb dL_law_511 ?_
  refine lv_lor hx hb dL_law_512 ?_
  rw [hf1]
  have hPc := hP.sub (ws' := [(mo, .inr (11, [.ref m_disk, .int (nI P), .int ((8224 : Int32) + ((26 : Int32) * (nI P))), .int (1 : Int32), .int 0, .int (-1 : Int32), .int 0, .int (0 : Int32), .ref m_tape, .int 0, .ref m_slots, .ref m_leaves, .int 0, .int 0, .ref m_fresh, .int 0, .int 0, .int 0, .ref m_digestAt, .ref m_isGroup, .ref m_counts, .int 0, .int 0, .long 0, .int 0, .ref m_versionRow, .int 0, .long 0, .ref m_state, .ref m_names, .int 0, .ref m_keptRow, .int 0, .ref m_inSlot, .ref m_inAt, .ref m_inSize, .ref m_inDigest, .int 0])), (m_disk, .inl (d_disk, 428040, .inl md_fresh)), (m_fresh, .inl (d_fresh, 32, .inl (fun _ => 0))), (m_digestAt, .inl (d_digestAt, 128, .inr (.inl (fun _ => 0)))), (m_isGroup, .inl (d_isGroup, 128, .inl (fun _ => 0))), (m_counts, .inl (d_counts, 128, .inl (fun _ => 0)))]) [0, 1, 2, 3, 4, 5] rfl
  have hKc := hK.sub (tys' := [(d_disk, .int), (d_fresh, .int), (d_digestAt, .long), (d_isGroup, .boolean), (d_counts, .boolean)]) [7, 8, 9, 10, 11] rfl
  have hDc := hD.sub (ws' := [(mo, .inr (11, [.ref m_disk, .int (nI P), .int ((8224 : Int32) + ((26 : Int32) * (nI P))), .int (1 : Int32), .int 0, .int (-1 : Int32), .int 0, .int (0 : Int32), .ref m_tape, .int 0, .ref m_slots, .ref m_leaves, .int 0, .int 0, .ref m_fresh, .int 0, .int 0, .int 0, .ref m_digestAt, .ref m_isGroup, .ref m_counts, .int 0, .int 0, .long 0, .int 0, .ref m_versionRow, .int 0, .long 0, .ref m_state, .ref m_names, .int 0, .ref m_keptRow, .int 0, .ref m_inSlot, .ref m_inAt, .ref m_inSize, .ref m_inDigest, .int 0])), (m_disk, .inl (d_disk, 428040, .inl md_fresh)), (m_fresh, .inl (d_fresh, 32, .inl (fun _ => 0))), (m_digestAt, .inl (d_digestAt, 128, .inr (.inl (fun _ => 0)))), (m_isGroup, .inl (d_isGroup, 128, .inl (fun _ => 0))), (m_counts, .inl (d_counts, 128, .inl (fun _ => 0)))]) [0, 1, 2, 3, 4, 5] (by decide) rfl
  have hFc := va_free (wc := [(mo, .inr (11, [.ref m_disk, .int (nI P), .int ((8224 : Int32) + ((26 : Int32) * (nI P))), .int (1 : Int32), .int 0, .int (-1 : Int32), .int 0, .int (0 : Int32), .ref m_tape, .int 0, .ref m_slots, .ref m_leaves, .int 0, .int 0, .ref m_fresh, .int 0, .int 0, .int 0, .ref m_digestAt, .ref m_isGroup, .ref m_counts, .int 0, .int 0, .long 0, .int 0, .ref m_versionRow, .int 0, .long 0, .ref m_state, .ref m_names, .int 0, .ref m_keptRow, .int 0, .ref m_inSlot, .ref m_inAt, .ref m_inSize, .ref m_inDigest, .int 0])), (m_disk, .inl (d_disk, 428040, .inl md_fresh)), (m_fresh, .inl (d_fresh, 32, .inl (fun _ => 0))), (m_digestAt, .inl (d_digestAt, 128, .inr (.inl (fun _ => 0)))), (m_isGroup, .inl (d_isGroup, 128, .inl (fun _ => 0))), (m_counts, .inl (d_counts, 128, .inl (fun _ => 0)))]) hD hS hA [0, 1, 2, 3, 4, 5] rfl
  refine va_calli (va_runV (As := [.int (1 : Int32), .long (0 : Int64)]) (rest := []) ⟨hx, hb, hml, hown, hts⟩ (k_X9_block_7 l dC dI mo m_disk m_fresh m_digestAt m_isGroup m_counts P m_tape m_slots m_leaves m_versionRow m_state m_names m_keptRow m_inSlot m_inAt m_inSize m_inDigest d_disk d_fresh d_digestAt d_isGroup d_counts _) (cwV 2 hts gL_law_X9_block rfl rfl rfl (by decide +kernel) ⟨Nat.le_of_ble_eq_true rfl, Nat.le_of_ble_eq_true rfl⟩) ⟨fun a U g mk q => by obtain ⟨q0, q1, qP, qK, qD⟩ := q; exact ⟨q0, q1, qP, va_K.moved (u := U) (U := U.calling g mk a) (Vm.Alike.refl U.vm) qK, qD⟩, va_recv hK hP (ci := 11) (q := (RX9, TX9, 38)) rfl (q0 := 0) rfl, fun U hU hW => ⟨rfl, by rw [hU], by rw [hU]; exact hPc, va_K.moved hW.alike hKc, hDc.weaken (fun _ _ _ _ => trivial)⟩⟩ rfl rfl hl.1 rfl (lv_room (Nat.le_of_ble_eq_true rfl)) dL_law_513 ⟨Nat.le_of_ble_eq_true rfl, Nat.le_of_ble_eq_true rfl⟩) hS (fun q _ h => hFc q h) hFc (fun r_2 u t H1 locs ht hvm er_2 hB hz1 hk1 hS => ?_)
  obtain ⟨hP1, hK1, hD1⟩ := hB
  rw [ht] at hP1
  obtain ⟨hP, hD⟩ := va_join (wr := [(ho, .inl (cJ, 1, .inr (.inl (vp_updL (fun _ => 0) (0 : Int32).toNatClampNeg ((0 : Int32).toInt64)))))]) (w1 := [(mo, .inr (11, [.ref m_disk, .int (nI P), .int ((8224 : Int32) + ((26 : Int32) * (nI P))), .int (1 : Int32), .int (bk_n 32), .int (-1 : Int32), .int 0, .int (0 : Int32), .ref m_tape, .int 0, .ref m_slots, .ref m_leaves, .int (0 : Int32), .int 0, .ref m_fresh, .int (1 : Int32), .int (0 : Int32), .int (0 : Int32), .ref m_digestAt, .ref m_isGroup, .ref m_counts, .int (-1 : Int32), .int (0 : Int32), .long (0 : Int64), .int (0 : Int32), .ref m_versionRow, .int (0 : Int32), .long (0 : Int64), .ref m_state, .ref m_names, .int 0, .ref m_keptRow, .int 0, .ref m_inSlot, .ref m_inAt, .ref m_inSize, .ref m_inDigest, .int 0]))]) hP hD [0, 1, 2, 3, 4, 5] [6] rfl rfl (by decide) (by decide) hk1 hFc hP1 hD1
  clear hPc hDc hFc hP1 hD1 hk1 hz1
  generalize H1 = H at hP hS ⊢
  have hP : va_P (dC, dI) vwCl [(ho, .inl (cJ, 1, .inr (.inl (vp_updL (fun _ => 0) (0 : Int32).toNatClampNeg ((0 : Int32).toInt64))))), (mo, .inr (11, [.ref m_disk, .int (nI P), .int ((8224 : Int32) + ((26 : Int32) * (nI P))), .int (1 : Int32), .int (bk_n 32), .int (-1 : Int32), .int 0, .int (0 : Int32), .ref m_tape, .int 0, .ref m_slots, .ref m_leaves, .int (0 : Int32), .int 0, .ref m_fresh, .int (1 : Int32), .int (0 : Int32), .int (0 : Int32), .ref m_digestAt, .ref m_isGroup, .ref m_counts, .int (-1 : Int32), .int (0 : Int32), .long (0 : Int64), .int (0 : Int32), .ref m_versionRow, .int (0 : Int32), .long (0 : Int64), .ref m_state, .ref m_names, .int 0, .ref m_keptRow, .int 0, .ref m_inSlot, .ref m_inAt, .ref m_inSize, .ref m_inDigest, .int 0]))] H := hP
  have hD : va_D A [(ho, .inl (cJ, 1, .inr (.inl (vp_updL (fun _ => 0) (0 : Int32).toNatClampNeg ((0 : Int32).toInt64))))), (mo, .inr (11, [.ref m_disk, .int (nI P), .int ((8224 : Int32) + ((26 : Int32) * (nI P))), .int (1 : Int32), .int (bk_n 32), .int (-1 : Int32), .int 0, .int (0 : Int32), .ref m_tape, .int 0, .ref m_slots, .ref m_leaves, .int (0 : Int32), .int 0, .ref m_fresh, .int (1 : Int32), .int (0 : Int32), .int (0 : Int32), .ref m_digestAt, .ref m_isGroup, .ref m_counts, .int (-1 : Int32), .int (0 : Int32), .long (0 : Int64), .int (0 : Int32), .ref m_versionRow, .int (0 : Int32), .long (0 : Int64), .ref m_state, .ref m_names, .int 0, .ref m_keptRow, .int 0, .ref m_inSlot, .ref m_inAt, .ref m_inSize, .ref m_inDigest, .int 0]))] := hD
  subst er_2
  refine lv_istore (lv' := [(6, .int (0 : Int32)), (5, .int (0 : Int32)), (4, .int (1 : Int32)), (3, .ref ho), (2, .ref mo), (1, .ref x), (0, .ref b)]) hx hb dL_law_516 hl (by decide) rfl (fun ls hl => ?_)
  refine lv_aload_n hx hb dL_law_518 rfl (lv_at hl 4 rfl) ?_
  have hPc := hP.sub (ws' := [(mo, .inr (11, [.ref m_disk, .int (nI P), .int ((8224 : Int32) + ((26 : Int32) * (nI P))), .int (1 : Int32), .int (bk_n 32), .int (-1 : Int32), .int 0, .int (0 : Int32), .ref m_tape, .int 0, .ref m_slots, .ref m_leaves, .int (0 : Int32), .int 0, .ref m_fresh, .int (1 : Int32), .int (0 : Int32), .int (0 : Int32), .ref m_digestAt, .ref m_isGroup, .ref m_counts, .int (-1 : Int32), .int (0 : Int32), .long (0 : Int64), .int (0 : Int32), .ref m_versionRow, .int (0 : Int32), .long (0 : Int64), .ref m_state, .ref m_names, .int 0, .ref m_keptRow, .int 0, .ref m_inSlot, .ref m_inAt, .ref m_inSize, .ref m_inDigest, .int 0]))]) [1] rfl
  have hKc := hK.sub (tys' := []) [] rfl
  refine vp_callSi (va_Run.run (va_runV (As := []) (rest := []) ⟨hx, hb, hml, hown, hts⟩ (k_X9_thrown_1 l dC dI mo (.ref m_disk) (.int (nI P)) (.int ((8224 : Int32) + ((26 : Int32) * (nI P)))) (.int (1 : Int32)) (.int (bk_n 32)) (.int (-1 : Int32)) (.int 0) (.int (0 : Int32)) (.ref m_tape) (.int 0) (.ref m_slots) (.ref m_leaves) (.int (0 : Int32)) 0 ([.ref m_fresh, .int (1 : Int32), .int (0 : Int32), .int (0 : Int32), .ref m_digestAt, .ref m_isGroup, .ref m_counts, .int (-1 : Int32), .int (0 : Int32), .long (0 : Int64), .int (0 : Int32), .ref m_versionRow, .int (0 : Int32), .long (0 : Int64), .ref m_state, .ref m_names, .int 0, .ref m_keptRow, .int 0, .ref m_inSlot, .ref m_inAt, .ref m_inSize, .ref m_inDigest, .int 0])) (cwV 0 hts gL_law_X9_thrown rfl rfl rfl (by decide +kernel) ⟨Nat.le_of_ble_eq_true rfl, Nat.le_of_ble_eq_true rfl⟩) ⟨fun a U g mk q => by obtain ⟨q0, qP, qK⟩ := q; exact ⟨q0, qP, va_K.moved (u := U) (U := U.calling g mk a) (Vm.Alike.refl U.vm) qK⟩, va_recv hK hP (ci := 11) (q := (RX9, TX9, 38)) rfl (q0 := 1) rfl, fun U hU hW => ⟨rfl, by rw [hU]; exact hPc, va_K.moved hW.alike hKc⟩⟩ rfl rfl hl.1 rfl (lv_room (Nat.le_of_ble_eq_true rfl)) dL_law_519 ⟨Nat.le_of_ble_eq_true rfl, Nat.le_of_ble_eq_true rfl⟩)) (fun r_3 er_3 => ?_)
  replace er_3 := er_3.trans (show _ = (0 : Int32) by decide +kernel)
  subst er_3
  refine lv_iload hx hb dL_law_522 (lv_at hl 1 rfl) ?_
  refine lv_icmp_eq (tgt := 529) hx hb dL_law_524 (by decide) (fun c_4 => ?_) (fun c_4 => ?_)
  · skip
    refine lv_iload hx hb dL_law_529 (lv_at hl 1 rfl) ?_
    refine lv_if_ne (tgt := 546) hx hb dL_law_531 (by decide) (fun c_5 => ?_) (fun c_5 => ?_)
    · skip
      exact absurd (by decide) c_5
    · skip
      refine lv_aload_n hx hb dL_law_534 rfl (lv_at hl 3 rfl) ?_
      refine lv_iconst (v := 0) hx hb dL_law_535 (by decide) ?_
      refine va_lald hx hb hK hP 0 12 rfl rfl (by unfold vp_in; decide +kernel) dL_law_536 ?_
      have e9 : (vp_updL (fun _ => 0) (0 : Int32).toNatClampNeg ((0 : Int32).toInt64)) (0 : Int32).toNatClampNeg = (0 : Int32).toInt64 := if_pos rfl
      rw [e9]
      clear e9
      refine lv_iload hx hb dL_law_537 (lv_at hl 0 rfl) ?_
      refine lv_i2l hx hb dL_law_539 rfl ?_
      refine W.lcmp hx hb dL_law_540 ?_
      refine lv_if_eq (tgt := 546) hx hb dL_law_541 (by decide) (fun c_6 => ?_) (fun c_6 => ?_)
      · skip
        refine lv_goto (tgt := 1731) hx hb dL_law_546 (by decide) ?_
        refine lv_iinc (v := (6 : Int32)) (lv' := [(4, .int (6 : Int32)), (6, .int (0 : Int32)), (5, .int (0 : Int32)), (3, .ref ho), (2, .ref mo), (1, .ref x), (0, .ref b)]) hx hb dL_law_1731 hl (k := 2) rfl (by decide) (by decide) rfl (fun ls hl => ?_)
        refine lv_goto (tgt := 33) hx hb dL_law_1734 (by decide) ?_
        refine lv_iload hx hb dL_law_33 (lv_at hl 0 rfl) ?_
        refine lv_aload_n hx hb dL_law_35 rfl (lv_at hl 6 rfl) ?_
        refine va_slen hx hb hX hbl hbA hS dL_law_36 ?_
        refine lv_iconst (v := 5) hx hb dL_law_37 (by decide) ?_
        refine lv_isub hx hb dL_law_38 ?_
        refine lv_icmp_gt (tgt := 1737) hx hb dL_law_39 (by decide) (fun c_7 => ?_) (fun c_7 => ?_)
        · skip
          refine lv_iconst (v := 1) hx hb dL_law_1737 (by decide) ?_
          refine va_forget (fun q hq => hA9 _ (hS.2.2 q hq)) ?_
          refine W.widen (k := 600002) (n := 7302198) (Nat.le_of_ble_eq_true rfl) (Nat.le_of_ble_eq_true rfl) ?_
          exact lw_ret hx hb hr hlocks dL_law_1738
        · skip
          exact absurd (by decide) c_7
      · skip
        exact absurd ((lg_cmp_eq _ _).mpr rfl) c_6
  · skip
    exact absurd (by decide) c_4

set_option maxHeartbeats 4000000 in
set_option maxRecDepth 100000 in
theorem sg_96 {p : Program} {e : Env} {s : State} {m : MethodId} {below : List Frame} {meth : Method} {c : Code} (l : Launch) (hl0 : l.stackTraces = false) {A : Nat → Prop} {dC : Nat → ClassId} {dI : Nat → Nat → Nat} {b : Nat} {xs : Nat → Int32} (ho : Nat) (mo : Nat) (x : Nat) (dr : Nat) (rr : Nat) (ds : Nat) (dl : Nat) (ri : Nat) (so : Nat) (s1 : Nat) (s2 : Nat) (s3 : Nat) (s4 : Nat) (m_disk : Nat) (m_fresh : Nat) (m_digestAt : Nat) (m_isGroup : Nat) (m_counts : Nat) (tp : Nat) (pu : Nat) (sn : Nat) (im : Nat) (cs : Nat) (cl : Nat) (c_dr : ClassId) (P : Nat) (dt : Nat) (c_dl : ClassId) (c_ri : ClassId) (s5 : Nat) (s6 : Nat) (c_s1 : ClassId) (c_s2 : ClassId) (c_s3 : ClassId) (c_s4 : ClassId) (m_tape : Nat) (m_slots : Nat) (m_leaves : Nat) (m_versionRow : Nat) (m_state : Nat) (m_names : Nat) (m_keptRow : Nat) (m_inSlot : Nat) (m_inAt : Nat) (m_inSize : Nat) (m_inDigest : Nat) (d_disk : ClassId) (d_fresh : ClassId) (d_digestAt : ClassId) (d_isGroup : ClassId) (d_counts : ClassId) (cJ : ClassId) (C0 : lw_B p s m meth c b 6 xs A) (hf0 : xs 2 = (1 : Int32)) (hf1 : lg_cmp (((xs 3).toInt64 <<< ((32 : Int32).toInt64 &&& 63)) ||| ((xs 4).toInt64 &&& (4294967295 : Int64))) (0) < 0) (hf2 : 0 ≤ lg_cmp (((xs 3).toInt64 <<< ((32 : Int32).toInt64 &&& 63)) ||| ((xs 4).toInt64 &&& (4294967295 : Int64))) (-128)) (hf3 : lg_cmp (((xs 3).toInt64 <<< ((32 : Int32).toInt64 &&& 63)) ||| ((xs 4).toInt64 &&& (4294967295 : Int64))) (-1) ≤ 0) (hf4 : 0 ≤ (-1 - (((xs 3).toInt64 <<< ((32 : Int32).toInt64 &&& 63)) ||| ((xs 4).toInt64 &&& (4294967295 : Int64)))).toInt32) {H : Heap} {locs : List Loc} {ls : Array Slot} (hP : va_P (dC, dI) vwCl [(x, .inr (10, [.ref tp, .ref ds, .ref rr, .ref so, .ref pu, .ref sn, .ref im, .ref cs, .ref cl, .int (0 : Int32)])), (dr, .inl (c_dr, 256, .inl (fun _ => 0))), (rr, .inr (6, [.ref ds, .ref ri, .int 0, .int 1, .int 0, .int 0])), (ds, .inr (3, [.int (nI P), .ref dl, .ref dr, .ref dt, .int (1 : Int32), .int (-1 : Int32), .int (0 : Int32)])), (dl, .inl (c_dl, 8224, .inl (va_cpy (pu_head (fun _ => 0) 1) (fun _ => 0) 0 0 16))), (ri, .inl (c_ri, 32, .inl (pu_head (fun _ => 0) 1))), (so, .inr (8, [.ref rr, .ref s1, .ref s2, .ref s3, .ref s4, .ref s5, .ref s6, .int (0 : Int32), .int (0 : Int32), .int (-1 : Int32), .int (0 : Int32), .int (0 : Int32)])), (s1, .inl (c_s1, 128, .inr (.inl (fun _ => 0)))), (s2, .inl (c_s2, 128, .inl (fun _ => 0))), (s3, .inl (c_s3, 128, .inl (fun _ => 0))), (s4, .inl (c_s4, 128, .inl (fun _ => 0))), (mo, .inr (11, [.ref m_disk, .int (nI P), .int ((8224 : Int32) + ((26 : Int32) * (nI P))), .int (1 : Int32), .int 0, .int (-1 : Int32), .int 0, .int (0 : Int32), .ref m_tape, .int 0, .ref m_slots, .ref m_leaves, .int 0, .int 0, .ref m_fresh, .int 0, .int 0, .int 0, .ref m_digestAt, .ref m_isGroup, .ref m_counts, .int 0, .int 0, .long 0, .int 0, .ref m_versionRow, .int 0, .long 0, .ref m_state, .ref m_names, .int 0, .ref m_keptRow, .int 0, .ref m_inSlot, .ref m_inAt, .ref m_inSize, .ref m_inDigest, .int 0])), (m_disk, .inl (d_disk, 428040, .inl md_fresh)), (m_fresh, .inl (d_fresh, 32, .inl (fun _ => 0))), (m_digestAt, .inl (d_digestAt, 128, .inr (.inl (fun _ => 0)))), (m_isGroup, .inl (d_isGroup, 128, .inl (fun _ => 0))), (m_counts, .inl (d_counts, 128, .inl (fun _ => 0))), (ho, .inl (cJ, 1, .inr (.inl (fun _ => 0))))] H) (hK : va_K (dC, dI) vwCl [(c_dr, .byte), (c_dl, .byte), (c_ri, .byte), (c_s1, .long), (c_s2, .boolean), (c_s3, .boolean), (c_s4, .boolean), (d_disk, .int), (d_fresh, .int), (d_digestAt, .long), (d_isGroup, .boolean), (d_counts, .boolean), (cJ, .long)] s) (hD : va_D A [(x, .inr (10, [.ref tp, .ref ds, .ref rr, .ref so, .ref pu, .ref sn, .ref im, .ref cs, .ref cl, .int (0 : Int32)])), (dr, .inl (c_dr, 256, .inl (fun _ => 0))), (rr, .inr (6, [.ref ds, .ref ri, .int 0, .int 1, .int 0, .int 0])), (ds, .inr (3, [.int (nI P), .ref dl, .ref dr, .ref dt, .int (1 : Int32), .int (-1 : Int32), .int (0 : Int32)])), (dl, .inl (c_dl, 8224, .inl (va_cpy (pu_head (fun _ => 0) 1) (fun _ => 0) 0 0 16))), (ri, .inl (c_ri, 32, .inl (pu_head (fun _ => 0) 1))), (so, .inr (8, [.ref rr, .ref s1, .ref s2, .ref s3, .ref s4, .ref s5, .ref s6, .int (0 : Int32), .int (0 : Int32), .int (-1 : Int32), .int (0 : Int32), .int (0 : Int32)])), (s1, .inl (c_s1, 128, .inr (.inl (fun _ => 0)))), (s2, .inl (c_s2, 128, .inl (fun _ => 0))), (s3, .inl (c_s3, 128, .inl (fun _ => 0))), (s4, .inl (c_s4, 128, .inl (fun _ => 0))), (mo, .inr (11, [.ref m_disk, .int (nI P), .int ((8224 : Int32) + ((26 : Int32) * (nI P))), .int (1 : Int32), .int 0, .int (-1 : Int32), .int 0, .int (0 : Int32), .ref m_tape, .int 0, .ref m_slots, .ref m_leaves, .int 0, .int 0, .ref m_fresh, .int 0, .int 0, .int 0, .ref m_digestAt, .ref m_isGroup, .ref m_counts, .int 0, .int 0, .long 0, .int 0, .ref m_versionRow, .int 0, .long 0, .ref m_state, .ref m_names, .int 0, .ref m_keptRow, .int 0, .ref m_inSlot, .ref m_inAt, .ref m_inSize, .ref m_inDigest, .int 0])), (m_disk, .inl (d_disk, 428040, .inl md_fresh)), (m_fresh, .inl (d_fresh, 32, .inl (fun _ => 0))), (m_digestAt, .inl (d_digestAt, 128, .inr (.inl (fun _ => 0)))), (m_isGroup, .inl (d_isGroup, 128, .inl (fun _ => 0))), (m_counts, .inl (d_counts, 128, .inl (fun _ => 0))), (ho, .inl (cJ, 1, .inr (.inl (fun _ => 0))))]) (hS : va_S A s.heap H locs) (hl : lv_has ls 8 [(4, .int (1 : Int32)), (3, .ref ho), (2, .ref mo), (1, .ref x), (0, .ref b)]) : W p l e room_1 s m #[Value.ref b] below meth c H locs 44 439502 (lw_Z below #[Value.ref b] s) (F0 m 449 ls []) := by
  obtain ⟨hx, hb, hr, hml, hown, hts, hX, hbl, hlocks, hA, hA9, hbA, hG⟩ := C0
  refine lv_aload_n hx hb dL_law_449 rfl (lv_at hl 3 rfl) ?_
  refine lv_aload_n hx hb dL_law_450 rfl (lv_at hl 4 rfl) ?_
  refine lv_iload hx hb dL_law_451 (lv_at hl 0 rfl) ?_
  refine lv_iconst (v := 1) hx hb dL_law_453 (by decide) ?_
  refine lv_iadd hx hb dL_law_454 ?_
  refine va_sld hx hb hX hbl hbA hS (by unfold vp_in; decide +kernel : vp_in ((1 : Int32) + (1 : Int32)) 6) dL_law_455 ?_
  have e9 : ((1 : Int32) + (1 : Int32)).toNatClampNeg = 2 := by decide +kernel
  rw [e9]
  clear e9
  rw [hf0]
  refine lv_aload_n hx hb dL_law_456 rfl (lv_at hl 4 rfl) ?_
  refine lv_iload hx hb dL_law_457 (lv_at hl 0 rfl) ?_
  refine lv_iconst (v := 2) hx hb dL_law_459 (by decide) ?_
  refine lv_iadd hx hb dL_law_460 ?_
  refine va_sld hx hb hX hbl hbA hS (by unfold vp_in; decide +kernel : vp_in ((1 : Int32) + (2 : Int32)) 6) dL_law_461 ?_
  have e9 : ((1 : Int32) + (2 : Int32)).toNatClampNeg = 3 := by decide +kernel
  rw [e9]
  clear e9
  refine lv_i2l hx hb dL_law_462 rfl ?_
  refine lv_bipush (v := 32) hx hb dL_law_463 (by decide) ?_
  refine lv_lshl hx hb dL_law_465 rfl ?_
  refine lv_aload_n hx hb dL_law_466 rfl (lv_at hl 4 rfl) ?_
  refine lv_iload hx hb dL_law_467 (lv_at hl 0 rfl) ?_
  refine lv_iconst (v := 3) hx hb dL_law_469 (by decide) ?_
  refine lv_iadd hx hb dL_law_470 ?_
  refine va_sld hx hb hX hbl hbA hS (by unfold vp_in; decide +kernel : vp_in ((1 : Int32) + (3 : Int32)) 6) dL_law_471 ?_
  have e9 : ((1 : Int32) + (3 : Int32)).toNatClampNeg = 4 := by decide +kernel
  rw [e9]
  clear e9
  refine lv_i2l hx hb dL_law_472 rfl ?_
  refine lv_ldc2 hx hb hown (hts (.constantLong RL 106 (4294967295)) (by decide +kernel)) dL_law_473 ?_
  refine lv_land hx hb dL_law_476 ?_
  refine lv_lor hx hb dL_law_477 ?_
  refine lv_aload_n hx hb dL_law_478 rfl (lv_at hl 1 rfl) ?_
  have hPc := hP.sub (ws' := [(x, .inr (10, [.ref tp, .ref ds, .ref rr, .ref so, .ref pu, .ref sn, .ref im, .ref cs, .ref cl, .int (0 : Int32)])), (dr, .inl (c_dr, 256, .inl (fun _ => 0))), (rr, .inr (6, [.ref ds, .ref ri, .int 0, .int 1, .int 0, .int 0])), (ds, .inr (3, [.int (nI P), .ref dl, .ref dr, .ref dt, .int (1 : Int32), .int (-1 : Int32), .int (0 : Int32)])), (dl, .inl (c_dl, 8224, .inl (va_cpy (pu_head (fun _ => 0) 1) (fun _ => 0) 0 0 16))), (ri, .inl (c_ri, 32, .inl (pu_head (fun _ => 0) 1))), (so, .inr (8, [.ref rr, .ref s1, .ref s2, .ref s3, .ref s4, .ref s5, .ref s6, .int (0 : Int32), .int (0 : Int32), .int (-1 : Int32), .int (0 : Int32), .int (0 : Int32)])), (s1, .inl (c_s1, 128, .inr (.inl (fun _ => 0)))), (s2, .inl (c_s2, 128, .inl (fun _ => 0))), (s3, .inl (c_s3, 128, .inl (fun _ => 0))), (s4, .inl (c_s4, 128, .inl (fun _ => 0))), (ho, .inl (cJ, 1, .inr (.inl (fun _ => 0))))]) [0, 1, 2, 3, 4, 5, 6, 7, 8, 9, 10, 17] rfl
  have hKc := hK.sub (tys' := [(c_dr, .byte), (c_dl, .byte), (c_ri, .byte), (c_s1, .long), (c_s2, .boolean), (c_s3, .boolean), (c_s4, .boolean), (cJ, .long)]) [0, 1, 2, 3, 4, 5, 6, 12] rfl
  have hDc := hD.sub (ws' := [(x, .inr (10, [.ref tp, .ref ds, .ref rr, .ref so, .ref pu, .ref sn, .ref im, .ref cs, .ref cl, .int (0 : Int32)])), (dr, .inl (c_dr, 256, .inl (fun _ => 0))), (rr, .inr (6, [.ref ds, .ref ri, .int 0, .int 1, .int 0, .int 0])), (ds, .inr (3, [.int (nI P), .ref dl, .ref dr, .ref dt, .int (1 : Int32), .int (-1 : Int32), .int (0 : Int32)])), (dl, .inl (c_dl, 8224, .inl (va_cpy (pu_head (fun _ => 0) 1) (fun _ => 0) 0 0 16))), (ri, .inl (c_ri, 32, .inl (pu_head (fun _ => 0) 1))), (so, .inr (8, [.ref rr, .ref s1, .ref s2, .ref s3, .ref s4, .ref s5, .ref s6, .int (0 : Int32), .int (0 : Int32), .int (-1 : Int32), .int (0 : Int32), .int (0 : Int32)])), (s1, .inl (c_s1, 128, .inr (.inl (fun _ => 0)))), (s2, .inl (c_s2, 128, .inl (fun _ => 0))), (s3, .inl (c_s3, 128, .inl (fun _ => 0))), (s4, .inl (c_s4, 128, .inl (fun _ => 0))), (ho, .inl (cJ, 1, .inr (.inl (fun _ => 0))))]) [0, 1, 2, 3, 4, 5, 6, 7, 8, 9, 10, 17] (by decide) rfl
  have hFc := va_free (wc := [(x, .inr (10, [.ref tp, .ref ds, .ref rr, .ref so, .ref pu, .ref sn, .ref im, .ref cs, .ref cl, .int (0 : Int32)])), (dr, .inl (c_dr, 256, .inl (fun _ => 0))), (rr, .inr (6, [.ref ds, .ref ri, .int 0, .int 1, .int 0, .int 0])), (ds, .inr (3, [.int (nI P), .ref dl, .ref dr, .ref dt, .int (1 : Int32), .int (-1 : Int32), .int (0 : Int32)])), (dl, .inl (c_dl, 8224, .inl (va_cpy (pu_head (fun _ => 0) 1) (fun _ => 0) 0 0 16))), (ri, .inl (c_ri, 32, .inl (pu_head (fun _ => 0) 1))), (so, .inr (8, [.ref rr, .ref s1, .ref s2, .ref s3, .ref s4, .ref s5, .ref s6, .int (0 : Int32), .int (0 : Int32), .int (-1 : Int32), .int (0 : Int32), .int (0 : Int32)])), (s1, .inl (c_s1, 128, .inr (.inl (fun _ => 0)))), (s2, .inl (c_s2, 128, .inl (fun _ => 0))), (s3, .inl (c_s3, 128, .inl (fun _ => 0))), (s4, .inl (c_s4, 128, .inl (fun _ => 0))), (ho, .inl (cJ, 1, .inr (.inl (fun _ => 0))))]) hD hS hA [0, 1, 2, 3, 4, 5, 6, 7, 8, 9, 10, 17] rfl
  refine va_calli (vx_runSW (As := [.ref x, .int (1 : Int32), .long ((((xs 3).toInt64) <<< ((32 : Int32).toInt64 &&& 63)) ||| (((xs 4).toInt64) &&& (4294967295 : Int64))), .ref ho]) (rest := []) ⟨hx, hb, hml, hown, hts⟩ (k_L_block_8 l dC dI x ((((xs 3).toInt64) <<< ((32 : Int32).toInt64 &&& 63)) ||| (((xs 4).toInt64) &&& (4294967295 : Int64))) ho dr rr ds dl ri so s1 s2 s3 s4 tp pu sn im cs cl c_dr (nI P) dt c_dl c_ri s5 s6 c_s1 c_s2 c_s3 c_s4 cJ (fun _ => 0) _ hf1 hf2) (vx_cwSW 4 hts gL_law_L_block rfl rfl rfl (by decide +kernel) ⟨Nat.le_of_ble_eq_true rfl, Nat.le_of_ble_eq_true rfl⟩) ⟨fun a U g mk q => by obtain ⟨q0, q1, qP, qK, qD, qG⟩ := q; exact ⟨q0, q1, qP, va_K.moved (u := U) (U := U.calling g mk a) (Vm.Alike.refl U.vm) qK, qD, qG.same rfl rfl⟩, fun U hU hW => ⟨rfl, by rw [hU], by rw [hU]; exact hPc, va_K.moved hW.alike hKc, hDc.weaken (fun _ _ _ _ => trivial), hG.go hW hU hS hFc⟩⟩ rfl rfl hl.1 rfl (lv_room (Nat.le_of_ble_eq_true rfl)) dL_law_479 ⟨Nat.le_of_ble_eq_true rfl, Nat.le_of_ble_eq_true rfl⟩) hS (fun q _ h => hFc q h) hFc (fun r_1 u t H1 locs ht hvm er_1 hB hz1 hk1 hS => ?_)
  obtain ⟨hP1, hK1, hD1⟩ := hB
  rw [ht] at hP1
  obtain ⟨hP, hD⟩ := va_join (wr := [(mo, .inr (11, [.ref m_disk, .int (nI P), .int ((8224 : Int32) + ((26 : Int32) * (nI P))), .int (1 : Int32), .int 0, .int (-1 : Int32), .int 0, .int (0 : Int32), .ref m_tape, .int 0, .ref m_slots, .ref m_leaves, .int 0, .int 0, .ref m_fresh, .int 0, .int 0, .int 0, .ref m_digestAt, .ref m_isGroup, .ref m_counts, .int 0, .int 0, .long 0, .int 0, .ref m_versionRow, .int 0, .long 0, .ref m_state, .ref m_names, .int 0, .ref m_keptRow, .int 0, .ref m_inSlot, .ref m_inAt, .ref m_inSize, .ref m_inDigest, .int 0])), (m_disk, .inl (d_disk, 428040, .inl md_fresh)), (m_fresh, .inl (d_fresh, 32, .inl (fun _ => 0))), (m_digestAt, .inl (d_digestAt, 128, .inr (.inl (fun _ => 0)))), (m_isGroup, .inl (d_isGroup, 128, .inl (fun _ => 0))), (m_counts, .inl (d_counts, 128, .inl (fun _ => 0)))]) (w1 := [(ho, .inl (cJ, 1, .inr (.inl (vp_updL (fun _ => 0) (0 : Int32).toNatClampNeg ((0 : Int32).toInt64)))))]) hP hD [0, 1, 2, 3, 4, 5, 6, 7, 8, 9, 10, 17] [11, 12, 13, 14, 15, 16] rfl rfl (by decide) (by decide) hk1 hFc hP1 hD1
  clear hPc hDc hFc hP1 hD1 hk1 hz1
  generalize H1 = H at hP hS ⊢
  have hP : va_P (dC, dI) vwCl [(mo, .inr (11, [.ref m_disk, .int (nI P), .int ((8224 : Int32) + ((26 : Int32) * (nI P))), .int (1 : Int32), .int 0, .int (-1 : Int32), .int 0, .int (0 : Int32), .ref m_tape, .int 0, .ref m_slots, .ref m_leaves, .int 0, .int 0, .ref m_fresh, .int 0, .int 0, .int 0, .ref m_digestAt, .ref m_isGroup, .ref m_counts, .int 0, .int 0, .long 0, .int 0, .ref m_versionRow, .int 0, .long 0, .ref m_state, .ref m_names, .int 0, .ref m_keptRow, .int 0, .ref m_inSlot, .ref m_inAt, .ref m_inSize, .ref m_inDigest, .int 0])), (m_disk, .inl (d_disk, 428040, .inl md_fresh)), (m_fresh, .inl (d_fresh, 32, .inl (fun _ => 0))), (m_digestAt, .inl (d_digestAt, 128, .inr (.inl (fun _ => 0)))), (m_isGroup, .inl (d_isGroup, 128, .inl (fun _ => 0))), (m_counts, .inl (d_counts, 128, .inl (fun _ => 0))), (ho, .inl (cJ, 1, .inr (.inl (vp_updL (fun _ => 0) (0 : Int32).toNatClampNeg ((0 : Int32).toInt64)))))] H := hP
  have hD : va_D A [(mo, .inr (11, [.ref m_disk, .int (nI P), .int ((8224 : Int32) + ((26 : Int32) * (nI P))), .int (1 : Int32), .int 0, .int (-1 : Int32), .int 0, .int (0 : Int32), .ref m_tape, .int 0, .ref m_slots, .ref m_leaves, .int 0, .int 0, .ref m_fresh, .int 0, .int 0, .int 0, .ref m_digestAt, .ref m_isGroup, .ref m_counts, .int 0, .int 0, .long 0, .int 0, .ref m_versionRow, .int 0, .long 0, .ref m_state, .ref m_names, .int 0, .ref m_keptRow, .int 0, .ref m_inSlot, .ref m_inAt, .ref m_inSize, .ref m_inDigest, .int 0])), (m_disk, .inl (d_disk, 428040, .inl md_fresh)), (m_fresh, .inl (d_fresh, 32, .inl (fun _ => 0))), (m_digestAt, .inl (d_digestAt, 128, .inr (.inl (fun _ => 0)))), (m_isGroup, .inl (d_isGroup, 128, .inl (fun _ => 0))), (m_counts, .inl (d_counts, 128, .inl (fun _ => 0))), (ho, .inl (cJ, 1, .inr (.inl (vp_updL (fun _ => 0) (0 : Int32).toNatClampNeg ((0 : Int32).toInt64)))))] := hD
  subst er_1
  refine lv_istore (lv' := [(5, .int (0 : Int32)), (4, .int (1 : Int32)), (3, .ref ho), (2, .ref mo), (1, .ref x), (0, .ref b)]) hx hb dL_law_482 hl (by decide) rfl (fun ls hl => ?_)
  refine lv_aload_n hx hb dL_law_484 rfl (lv_at hl 3 rfl) ?_
  refine lv_aload_n hx hb dL_law_485 rfl (lv_at hl 5 rfl) ?_
  refine lv_iload hx hb dL_law_486 (lv_at hl 1 rfl) ?_
  refine lv_iconst (v := 1) hx hb dL_law_488 (by decide) ?_
  refine lv_iadd hx hb dL_law_489 ?_
  refine va_sld hx hb hX hbl hbA hS (by unfold vp_in; decide +kernel : vp_in ((1 : Int32) + (1 : Int32)) 6) dL_law_490 ?_
  have e9 : ((1 : Int32) + (1 : Int32)).toNatClampNeg = 2 := by decide +kernel
  rw [e9]
  clear e9
  rw [hf0]
  refine lv_aload_n hx hb dL_law_491 rfl (lv_at hl 5 rfl) ?_
  refine lv_iload hx hb dL_law_492 (lv_at hl 1 rfl) ?_
  refine lv_iconst (v := 2) hx hb dL_law_494 (by decide) ?_
  refine lv_iadd hx hb dL_law_495 ?_
  refine va_sld hx hb hX hbl hbA hS (by unfold vp_in; decide +kernel : vp_in ((1 : Int32) + (2 : Int32)) 6) dL_law_496 ?_
  have e9 : ((1 : Int32) + (2 : Int32)).toNatClampNeg = 3 := by decide +kernel
  rw [e9]
  clear e9
  refine lv_i2l hx hb dL_law_497 rfl ?_
  refine lv_bipush (v := 32) hx hb dL_law_498 (by decide) ?_
  refine lv_lshl hx hb dL_law_500 rfl ?_
  refine lv_aload_n hx hb dL_law_501 rfl (lv_at hl 5 rfl) ?_
  refine lv_iload hx hb dL_law_502 (lv_at hl 1 rfl) ?_
  refine lv_iconst (v := 3) hx hb dL_law_504 (by decide) ?_
  refine lv_iadd hx hb dL_law_505 ?_
  refine va_sld hx hb hX hbl hbA hS (by unfold vp_in; decide +kernel : vp_in ((1 : Int32) + (3 : Int32)) 6) dL_law_506 ?_
  have e9 : ((1 : Int32) + (3 : Int32)).toNatClampNeg = 4 := by decide +kernel
  rw [e9]
  clear e9
  refine lv_i2l hx hb dL_law_507 rfl ?_
  refine lv_ldc2 hx hb hown (hts (.constantLong RL 106 (4294967295)) (by decide +kernel)) dL_law_508 ?_
  refine lv_land hx hb dL_law_511 ?_
  refine lv_lor hx hb dL_law_512 ?_
  have hPc := hP.sub (ws' := [(mo, .inr (11, [.ref m_disk, .int (nI P), .int ((8224 : Int32) + ((26 : Int32) * (nI P))), .int (1 : Int32), .int 0, .int (-1 : Int32), .int 0, .int (0 : Int32), .ref m_tape, .int 0, .ref m_slots, .ref m_leaves, .int 0, .int 0, .ref m_fresh, .int 0, .int 0, .int 0, .ref m_digestAt, .ref m_isGroup, .ref m_counts, .int 0, .int 0, .long 0, .int 0, .ref m_versionRow, .int 0, .long 0, .ref m_state, .ref m_names, .int 0, .ref m_keptRow, .int 0, .ref m_inSlot, .ref m_inAt, .ref m_inSize, .ref m_inDigest, .int 0])), (m_disk, .inl (d_disk, 428040, .inl md_fresh)), (m_fresh, .inl (d_fresh, 32, .inl (fun _ => 0))), (m_digestAt, .inl (d_digestAt, 128, .inr (.inl (fun _ => 0)))), (m_isGroup, .inl (d_isGroup, 128, .inl (fun _ => 0))), (m_counts, .inl (d_counts, 128, .inl (fun _ => 0)))]) [0, 1, 2, 3, 4, 5] rfl
  have hKc := hK.sub (tys' := [(d_disk, .int), (d_fresh, .int), (d_digestAt, .long), (d_isGroup, .boolean), (d_counts, .boolean)]) [7, 8, 9, 10, 11] rfl
  have hDc := hD.sub (ws' := [(mo, .inr (11, [.ref m_disk, .int (nI P), .int ((8224 : Int32) + ((26 : Int32) * (nI P))), .int (1 : Int32), .int 0, .int (-1 : Int32), .int 0, .int (0 : Int32), .ref m_tape, .int 0, .ref m_slots, .ref m_leaves, .int 0, .int 0, .ref m_fresh, .int 0, .int 0, .int 0, .ref m_digestAt, .ref m_isGroup, .ref m_counts, .int 0, .int 0, .long 0, .int 0, .ref m_versionRow, .int 0, .long 0, .ref m_state, .ref m_names, .int 0, .ref m_keptRow, .int 0, .ref m_inSlot, .ref m_inAt, .ref m_inSize, .ref m_inDigest, .int 0])), (m_disk, .inl (d_disk, 428040, .inl md_fresh)), (m_fresh, .inl (d_fresh, 32, .inl (fun _ => 0))), (m_digestAt, .inl (d_digestAt, 128, .inr (.inl (fun _ => 0)))), (m_isGroup, .inl (d_isGroup, 128, .inl (fun _ => 0))), (m_counts, .inl (d_counts, 128, .inl (fun _ => 0)))]) [0, 1, 2, 3, 4, 5] (by decide) rfl
  have hFc := va_free (wc := [(mo, .inr (11, [.ref m_disk, .int (nI P), .int ((8224 : Int32) + ((26 : Int32) * (nI P))), .int (1 : Int32), .int 0, .int (-1 : Int32), .int 0, .int (0 : Int32), .ref m_tape, .int 0, .ref m_slots, .ref m_leaves, .int 0, .int 0, .ref m_fresh, .int 0, .int 0, .int 0, .ref m_digestAt, .ref m_isGroup, .ref m_counts, .int 0, .int 0, .long 0, .int 0, .ref m_versionRow, .int 0, .long 0, .ref m_state, .ref m_names, .int 0, .ref m_keptRow, .int 0, .ref m_inSlot, .ref m_inAt, .ref m_inSize, .ref m_inDigest, .int 0])), (m_disk, .inl (d_disk, 428040, .inl md_fresh)), (m_fresh, .inl (d_fresh, 32, .inl (fun _ => 0))), (m_digestAt, .inl (d_digestAt, 128, .inr (.inl (fun _ => 0)))), (m_isGroup, .inl (d_isGroup, 128, .inl (fun _ => 0))), (m_counts, .inl (d_counts, 128, .inl (fun _ => 0)))]) hD hS hA [0, 1, 2, 3, 4, 5] rfl
  refine va_calli (va_runV (As := [.int (1 : Int32), .long ((((xs 3).toInt64) <<< ((32 : Int32).toInt64 &&& 63)) ||| (((xs 4).toInt64) &&& (4294967295 : Int64)))]) (rest := []) ⟨hx, hb, hml, hown, hts⟩ (k_X9_block_8 l dC dI mo ((((xs 3).toInt64) <<< ((32 : Int32).toInt64 &&& 63)) ||| (((xs 4).toInt64) &&& (4294967295 : Int64))) m_disk m_fresh m_digestAt m_isGroup m_counts P m_tape m_slots m_leaves m_versionRow m_state m_names m_keptRow m_inSlot m_inAt m_inSize m_inDigest d_disk d_fresh d_digestAt d_isGroup d_counts _ hf2 hf3 hf4) (cwV 2 hts gL_law_X9_block rfl rfl rfl (by decide +kernel) ⟨Nat.le_of_ble_eq_true rfl, Nat.le_of_ble_eq_true rfl⟩) ⟨fun a U g mk q => by obtain ⟨q0, q1, qP, qK, qD⟩ := q; exact ⟨q0, q1, qP, va_K.moved (u := U) (U := U.calling g mk a) (Vm.Alike.refl U.vm) qK, qD⟩, va_recv hK hP (ci := 11) (q := (RX9, TX9, 38)) rfl (q0 := 0) rfl, fun U hU hW => ⟨rfl, by rw [hU], by rw [hU]; exact hPc, va_K.moved hW.alike hKc, hDc.weaken (fun _ _ _ _ => trivial)⟩⟩ rfl rfl hl.1 rfl (lv_room (Nat.le_of_ble_eq_true rfl)) dL_law_513 ⟨Nat.le_of_ble_eq_true rfl, Nat.le_of_ble_eq_true rfl⟩) hS (fun q _ h => hFc q h) hFc (fun r_2 u t H1 locs ht hvm er_2 hB hz1 hk1 hS => ?_)
  obtain ⟨hP1, hK1, hD1⟩ := hB
  rw [ht] at hP1
  obtain ⟨hP, hD⟩ := va_join (wr := [(ho, .inl (cJ, 1, .inr (.inl (vp_updL (fun _ => 0) (0 : Int32).toNatClampNeg ((0 : Int32).toInt64)))))]) (w1 := [(mo, .inr (11, [.ref m_disk, .int (nI P), .int ((8224 : Int32) + ((26 : Int32) * (nI P))), .int (1 : Int32), .int (bk_n 32), .int (-1 : Int32), .int 0, .int (0 : Int32), .ref m_tape, .int 0, .ref m_slots, .ref m_leaves, .int (0 : Int32), .int 0, .ref m_fresh, .int (1 : Int32), .int (0 : Int32), .int (0 : Int32), .ref m_digestAt, .ref m_isGroup, .ref m_counts, .int (-1 : Int32), .int (0 : Int32), .long (0 : Int64), .int (0 : Int32), .ref m_versionRow, .int (0 : Int32), .long (0 : Int64), .ref m_state, .ref m_names, .int 0, .ref m_keptRow, .int 0, .ref m_inSlot, .ref m_inAt, .ref m_inSize, .ref m_inDigest, .int 0]))]) hP hD [0, 1, 2, 3, 4, 5] [6] rfl rfl (by decide) (by decide) hk1 hFc hP1 hD1
  clear hPc hDc hFc hP1 hD1 hk1 hz1
  generalize H1 = H at hP hS ⊢
  have hP : va_P (dC, dI) vwCl [(ho, .inl (cJ, 1, .inr (.inl (vp_updL (fun _ => 0) (0 : Int32).toNatClampNeg ((0 : Int32).toInt64))))), (mo, .inr (11, [.ref m_disk, .int (nI P), .int ((8224 : Int32) + ((26 : Int32) * (nI P))), .int (1 : Int32), .int (bk_n 32), .int (-1 : Int32), .int 0, .int (0 : Int32), .ref m_tape, .int 0, .ref m_slots, .ref m_leaves, .int (0 : Int32), .int 0, .ref m_fresh, .int (1 : Int32), .int (0 : Int32), .int (0 : Int32), .ref m_digestAt, .ref m_isGroup, .ref m_counts, .int (-1 : Int32), .int (0 : Int32), .long (0 : Int64), .int (0 : Int32), .ref m_versionRow, .int (0 : Int32), .long (0 : Int64), .ref m_state, .ref m_names, .int 0, .ref m_keptRow, .int 0, .ref m_inSlot, .ref m_inAt, .ref m_inSize, .ref m_inDigest, .int 0]))] H := hP
  have hD : va_D A [(ho, .inl (cJ, 1, .inr (.inl (vp_updL (fun _ => 0) (0 : Int32).toNatClampNeg ((0 : Int32).toInt64))))), (mo, .inr (11, [.ref m_disk, .int (nI P), .int ((8224 : Int32) + ((26 : Int32) * (nI P))), .int (1 : Int32), .int (bk_n 32), .int (-1 : Int32), .int 0, .int (0 : Int32), .ref m_tape, .int 0, .ref m_slots, .ref m_leaves, .int (0 : Int32), .int 0, .ref m_fresh, .int (1 : Int32), .int (0 : Int32), .int (0 : Int32), .ref m_digestAt, .ref m_isGroup, .ref m_counts, .int (-1 : Int32), .int (0 : Int32), .long (0 : Int64), .int (0 : Int32), .ref m_versionRow, .int (0 : Int32), .long (0 : Int64), .ref m_state, .ref m_names, .int 0, .ref m_keptRow, .int 0, .ref m_inSlot, .ref m_inAt, .ref m_inSize, .ref m_inDigest, .int 0]))] := hD
  subst er_2
  refine lv_istore (lv' := [(6, .int (0 : Int32)), (5, .int (0 : Int32)), (4, .int (1 : Int32)), (3, .ref ho), (2, .ref mo), (1, .ref x), (0, .ref b)]) hx hb dL_law_516 hl (by decide) rfl (fun ls hl => ?_)
  refine lv_aload_n hx hb dL_law_518 rfl (lv_at hl 4 rfl) ?_
  have hPc := hP.sub (ws' := [(mo, .inr (11, [.ref m_disk, .int (nI P), .int ((8224 : Int32) + ((26 : Int32) * (nI P))), .int (1 : Int32), .int (bk_n 32), .int (-1 : Int32), .int 0, .int (0 : Int32), .ref m_tape, .int 0, .ref m_slots, .ref m_leaves, .int (0 : Int32), .int 0, .ref m_fresh, .int (1 : Int32), .int (0 : Int32), .int (0 : Int32), .ref m_digestAt, .ref m_isGroup, .ref m_counts, .int (-1 : Int32), .int (0 : Int32), .long (0 : Int64), .int (0 : Int32), .ref m_versionRow, .int (0 : Int32), .long (0 : Int64), .ref m_state, .ref m_names, .int 0, .ref m_keptRow, .int 0, .ref m_inSlot, .ref m_inAt, .ref m_inSize, .ref m_inDigest, .int 0]))]) [1] rfl
  have hKc := hK.sub (tys' := []) [] rfl
  refine vp_callSi (va_Run.run (va_runV (As := []) (rest := []) ⟨hx, hb, hml, hown, hts⟩ (k_X9_thrown_1 l dC dI mo (.ref m_disk) (.int (nI P)) (.int ((8224 : Int32) + ((26 : Int32) * (nI P)))) (.int (1 : Int32)) (.int (bk_n 32)) (.int (-1 : Int32)) (.int 0) (.int (0 : Int32)) (.ref m_tape) (.int 0) (.ref m_slots) (.ref m_leaves) (.int (0 : Int32)) 0 ([.ref m_fresh, .int (1 : Int32), .int (0 : Int32), .int (0 : Int32), .ref m_digestAt, .ref m_isGroup, .ref m_counts, .int (-1 : Int32), .int (0 : Int32), .long (0 : Int64), .int (0 : Int32), .ref m_versionRow, .int (0 : Int32), .long (0 : Int64), .ref m_state, .ref m_names, .int 0, .ref m_keptRow, .int 0, .ref m_inSlot, .ref m_inAt, .ref m_inSize, .ref m_inDigest, .int 0])) (cwV 0 hts gL_law_X9_thrown rfl rfl rfl (by decide +kernel) ⟨Nat.le_of_ble_eq_true rfl, Nat.le_of_ble_eq_true rfl⟩) ⟨fun a U g mk q => by obtain ⟨q0, qP, qK⟩ := q; exact ⟨q0, qP, va_K.moved (u := U) (U := U.calling g mk a) (Vm.Alike.refl U.vm) qK⟩, va_recv hK hP (ci := 11) (q := (RX9, TX9, 38)) rfl (q0 := 1) rfl, fun U hU hW => ⟨rfl, by rw [hU]; exact hPc, va_K.moved hW.alike hKc⟩⟩ rfl rfl hl.1 rfl (lv_room (Nat.le_of_ble_eq_true rfl)) dL_law_519 ⟨Nat.le_of_ble_eq_true rfl, Nat.le_of_ble_eq_true rfl⟩)) (fun r_3 er_3 => ?_)
  replace er_3 := er_3.trans (show _ = (0 : Int32) by decide +kernel)
  subst er_3
  refine lv_iload hx hb dL_law_522 (lv_at hl 1 rfl) ?_
  refine lv_icmp_eq (tgt := 529) hx hb dL_law_524 (by decide) (fun c_4 => ?_) (fun c_4 => ?_)
  · skip
    refine lv_iload hx hb dL_law_529 (lv_at hl 1 rfl) ?_
    refine lv_if_ne (tgt := 546) hx hb dL_law_531 (by decide) (fun c_5 => ?_) (fun c_5 => ?_)
    · skip
      exact absurd (by decide) c_5
    · skip
      refine lv_aload_n hx hb dL_law_534 rfl (lv_at hl 3 rfl) ?_
      refine lv_iconst (v := 0) hx hb dL_law_535 (by decide) ?_
      refine va_lald hx hb hK hP 0 12 rfl rfl (by unfold vp_in; decide +kernel) dL_law_536 ?_
      have e9 : (vp_updL (fun _ => 0) (0 : Int32).toNatClampNeg ((0 : Int32).toInt64)) (0 : Int32).toNatClampNeg = (0 : Int32).toInt64 := if_pos rfl
      rw [e9]
      clear e9
      refine lv_iload hx hb dL_law_537 (lv_at hl 0 rfl) ?_
      refine lv_i2l hx hb dL_law_539 rfl ?_
      refine W.lcmp hx hb dL_law_540 ?_
      refine lv_if_eq (tgt := 546) hx hb dL_law_541 (by decide) (fun c_6 => ?_) (fun c_6 => ?_)
      · skip
        refine lv_goto (tgt := 1731) hx hb dL_law_546 (by decide) ?_
        refine lv_iinc (v := (6 : Int32)) (lv' := [(4, .int (6 : Int32)), (6, .int (0 : Int32)), (5, .int (0 : Int32)), (3, .ref ho), (2, .ref mo), (1, .ref x), (0, .ref b)]) hx hb dL_law_1731 hl (k := 2) rfl (by decide) (by decide) rfl (fun ls hl => ?_)
        refine lv_goto (tgt := 33) hx hb dL_law_1734 (by decide) ?_
        refine lv_iload hx hb dL_law_33 (lv_at hl 0 rfl) ?_
        refine lv_aload_n hx hb dL_law_35 rfl (lv_at hl 6 rfl) ?_
        refine va_slen hx hb hX hbl hbA hS dL_law_36 ?_
        refine lv_iconst (v := 5) hx hb dL_law_37 (by decide) ?_
        refine lv_isub hx hb dL_law_38 ?_
        refine lv_icmp_gt (tgt := 1737) hx hb dL_law_39 (by decide) (fun c_7 => ?_) (fun c_7 => ?_)
        · skip
          refine lv_iconst (v := 1) hx hb dL_law_1737 (by decide) ?_
          refine va_forget (fun q hq => hA9 _ (hS.2.2 q hq)) ?_
          refine W.widen (k := 600002) (n := 7302198) (Nat.le_of_ble_eq_true rfl) (Nat.le_of_ble_eq_true rfl) ?_
          exact lw_ret hx hb hr hlocks dL_law_1738
        · skip
          exact absurd (by decide) c_7
      · skip
        exact absurd ((lg_cmp_eq _ _).mpr rfl) c_6
  · skip
    exact absurd (by decide) c_4
