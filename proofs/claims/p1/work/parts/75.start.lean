set_option maxHeartbeats 4000000 in
set_option maxRecDepth 100000 in
theorem lw_switch {p : Program} {e : Env} {s : State} {m : MethodId} {below : List Frame} {meth : Method} {c : Code} (l : Launch) (hl0 : l.stackTraces = false) {A : Nat → Prop} {dC : Nat → ClassId} {dI : Nat → Nat → Nat} {b : Nat} {xs : Nat → Int32} (x : Nat) (tp : Nat) (tb : Nat) (dr : Nat) (dt : Nat) (rr : Nat) (ds : Nat) (dl : Nat) (ri : Nat) (so : Nat) (s1 : Nat) (s2 : Nat) (s3 : Nat) (s4 : Nat) (s5 : Nat) (s6 : Nat) (pu : Nat) (pk : Nat) (sn : Nat) (n1 : Nat) (n2 : Nat) (n3 : Nat) (n4 : Nat) (im : Nat) (cs : Nat) (cl : Nat) (mo : Nat) (m_disk : Nat) (m_tape : Nat) (m_slots : Nat) (m_leaves : Nat) (m_fresh : Nat) (m_digestAt : Nat) (m_isGroup : Nat) (m_counts : Nat) (m_versionRow : Nat) (m_state : Nat) (m_names : Nat) (m_keptRow : Nat) (m_inSlot : Nat) (m_inAt : Nat) (m_inSize : Nat) (m_inDigest : Nat) (ho : Nat) (c_tb : ClassId) (c_dr : ClassId) (te : Nat) (c_dl : ClassId) (c_ri : ClassId) (c_s1 : ClassId) (c_s2 : ClassId) (c_s3 : ClassId) (c_s4 : ClassId) (c_s5 : ClassId) (c_s6 : ClassId) (c_pk : ClassId) (c_n1 : ClassId) (c_n2 : ClassId) (c_n3 : ClassId) (c_n4 : ClassId) (c_im : ClassId) (c_cs : ClassId) (c_cl : ClassId) (d_disk : ClassId) (d_tape : ClassId) (d_slots : ClassId) (d_leaves : ClassId) (d_fresh : ClassId) (d_digestAt : ClassId) (d_isGroup : ClassId) (d_counts : ClassId) (d_versionRow : ClassId) (d_state : ClassId) (d_names : ClassId) (d_keptRow : ClassId) (d_inSlot : ClassId) (d_inAt : ClassId) (d_inSize : ClassId) (d_inDigest : ClassId) (cJ : ClassId) (P : Nat) (hP1 : 1 ≤ P) (hP2 : P ≤ 65536) (C0 : lw_B p s m meth c b 6 xs A) {H : Heap} {locs : List Loc} {ls : Array Slot} (hP : va_P (dC, dI) vwCl (lw_WL x tp tb dr dt rr ds dl ri so s1 s2 s3 s4 s5 s6 pu pk sn n1 n2 n3 n4 im cs cl mo m_disk m_tape m_slots m_leaves m_fresh m_digestAt m_isGroup m_counts m_versionRow m_state m_names m_keptRow m_inSlot m_inAt m_inSize m_inDigest ho c_tb c_dr te c_dl c_ri c_s1 c_s2 c_s3 c_s4 c_s5 c_s6 c_pk c_n1 c_n2 c_n3 c_n4 c_im c_cs c_cl d_disk d_tape d_slots d_leaves d_fresh d_digestAt d_isGroup d_counts d_versionRow d_state d_names d_keptRow d_inSlot d_inAt d_inSize d_inDigest cJ P) H) (hK : va_K (dC, dI) vwCl [(c_tb, .byte), (c_dr, .byte), (c_dl, .byte), (c_ri, .byte), (c_s1, .long), (c_s2, .boolean), (c_s3, .boolean), (c_s4, .boolean), (c_s5, .int), (c_s6, .long), (c_pk, .boolean), (c_n1, .int), (c_n2, .int), (c_n3, .int), (c_n4, .long), (c_im, .byte), (c_cs, .int), (c_cl, .long), (d_disk, .int), (d_tape, .int), (d_slots, .int), (d_leaves, .long), (d_fresh, .int), (d_digestAt, .long), (d_isGroup, .boolean), (d_counts, .boolean), (d_versionRow, .int), (d_state, .long), (d_names, .long), (d_keptRow, .int), (d_inSlot, .int), (d_inAt, .int), (d_inSize, .int), (d_inDigest, .long), (cJ, .long)] s) (hD : va_D A (lw_WL x tp tb dr dt rr ds dl ri so s1 s2 s3 s4 s5 s6 pu pk sn n1 n2 n3 n4 im cs cl mo m_disk m_tape m_slots m_leaves m_fresh m_digestAt m_isGroup m_counts m_versionRow m_state m_names m_keptRow m_inSlot m_inAt m_inSize m_inDigest ho c_tb c_dr te c_dl c_ri c_s1 c_s2 c_s3 c_s4 c_s5 c_s6 c_pk c_n1 c_n2 c_n3 c_n4 c_im c_cs c_cl d_disk d_tape d_slots d_leaves d_fresh d_digestAt d_isGroup d_counts d_versionRow d_state d_names d_keptRow d_inSlot d_inAt d_inSize d_inDigest cJ P)) (hS : va_S A s.heap H locs) (hl : lv_has ls 8 [(4, .int (1 : Int32)), (3, .ref ho), (2, .ref mo), (1, .ref x), (0, .ref b)]) : W p l e room_1 s m #[Value.ref b] below meth c H locs 44 439502 (lw_Z below #[Value.ref b] s) (F0 m 33 ls []) := by
  obtain ⟨hx, hb, hr, hml, hown, hts, hX, hbl, hlocks, hA, hA9, hbA, hG⟩ := id C0
  refine lv_iload hx hb dL_law_33 (lv_at hl 0 rfl) ?_
  refine lv_aload_n hx hb dL_law_35 rfl (lv_at hl 4 rfl) ?_
  refine va_slen hx hb hX hbl hbA hS dL_law_36 ?_
  refine lv_iconst (v := 5) hx hb dL_law_37 (by decide) ?_
  refine lv_isub hx hb dL_law_38 ?_
  refine lv_icmp_gt (tgt := 1737) hx hb dL_law_39 (by decide) (fun c_1 => absurd c_1 (by decide +kernel)) (fun c_1 => ?_)
  refine lv_aload_n hx hb dL_law_42 rfl (lv_at hl 4 rfl) ?_
  refine lv_iload hx hb dL_law_43 (lv_at hl 0 rfl) ?_
  refine va_sld hx hb hX hbl hbA hS (by unfold vp_in; decide +kernel : vp_in (1 : Int32) 6) dL_law_45 ?_
  have e9 : (1 : Int32).toNatClampNeg = 1 := by decide +kernel
  rw [e9]
  clear e9
  refine lv_bipush (v := 31) hx hb dL_law_46 (by decide) ?_
  refine lv_iand hx hb dL_law_48 ?_
  rcases lq_31 (xs 1) with q9 | q9 | q9 | q9 | q9 | q9 | q9 | q9 | q9 | q9 | q9 | q9 | q9 | q9 | q9 | q9 | q9 | q9 | q9 | q9 | q9 | q9 | q9 | q9 | q9 | q9 | q9 | q9 | q9 | q9 | q9 | q9
  · rw [q9]
    refine lv_tableIn (off := 119) (tgt := 168) hx hb dL_law_49 (by decide +kernel) (by decide +kernel) (by decide +kernel) (by decide) ?_
    exact cs_0 l hl0 x tp tb dr dt rr ds dl ri so s1 s2 s3 s4 s5 s6 pu pk sn n1 n2 n3 n4 im cs cl mo m_disk m_tape m_slots m_leaves m_fresh m_digestAt m_isGroup m_counts m_versionRow m_state m_names m_keptRow m_inSlot m_inAt m_inSize m_inDigest ho c_tb c_dr te c_dl c_ri c_s1 c_s2 c_s3 c_s4 c_s5 c_s6 c_pk c_n1 c_n2 c_n3 c_n4 c_im c_cs c_cl d_disk d_tape d_slots d_leaves d_fresh d_digestAt d_isGroup d_counts d_versionRow d_state d_names d_keptRow d_inSlot d_inAt d_inSize d_inDigest cJ P hP1 hP2 C0 hP hK hD hS hl
  · rw [q9]
    refine lv_tableIn (off := 219) (tgt := 268) hx hb dL_law_49 (by decide +kernel) (by decide +kernel) (by decide +kernel) (by decide) ?_
    exact cs_1 l hl0 x tp tb dr dt rr ds dl ri so s1 s2 s3 s4 s5 s6 pu pk sn n1 n2 n3 n4 im cs cl mo m_disk m_tape m_slots m_leaves m_fresh m_digestAt m_isGroup m_counts m_versionRow m_state m_names m_keptRow m_inSlot m_inAt m_inSize m_inDigest ho c_tb c_dr te c_dl c_ri c_s1 c_s2 c_s3 c_s4 c_s5 c_s6 c_pk c_n1 c_n2 c_n3 c_n4 c_im c_cs c_cl d_disk d_tape d_slots d_leaves d_fresh d_digestAt d_isGroup d_counts d_versionRow d_state d_names d_keptRow d_inSlot d_inAt d_inSize d_inDigest cJ P hP1 hP2 C0 hP hK hD hS hl
  · rw [q9]
    refine lv_tableIn (off := 232) (tgt := 281) hx hb dL_law_49 (by decide +kernel) (by decide +kernel) (by decide +kernel) (by decide) ?_
    exact cs_2 l hl0 x tp tb dr dt rr ds dl ri so s1 s2 s3 s4 s5 s6 pu pk sn n1 n2 n3 n4 im cs cl mo m_disk m_tape m_slots m_leaves m_fresh m_digestAt m_isGroup m_counts m_versionRow m_state m_names m_keptRow m_inSlot m_inAt m_inSize m_inDigest ho c_tb c_dr te c_dl c_ri c_s1 c_s2 c_s3 c_s4 c_s5 c_s6 c_pk c_n1 c_n2 c_n3 c_n4 c_im c_cs c_cl d_disk d_tape d_slots d_leaves d_fresh d_digestAt d_isGroup d_counts d_versionRow d_state d_names d_keptRow d_inSlot d_inAt d_inSize d_inDigest cJ P hP1 hP2 C0 hP hK hD hS hl
  · rw [q9]
    refine lv_tableIn (off := 288) (tgt := 337) hx hb dL_law_49 (by decide +kernel) (by decide +kernel) (by decide +kernel) (by decide) ?_
    exact cs_3 l hl0 x tp tb dr dt rr ds dl ri so s1 s2 s3 s4 s5 s6 pu pk sn n1 n2 n3 n4 im cs cl mo m_disk m_tape m_slots m_leaves m_fresh m_digestAt m_isGroup m_counts m_versionRow m_state m_names m_keptRow m_inSlot m_inAt m_inSize m_inDigest ho c_tb c_dr te c_dl c_ri c_s1 c_s2 c_s3 c_s4 c_s5 c_s6 c_pk c_n1 c_n2 c_n3 c_n4 c_im c_cs c_cl d_disk d_tape d_slots d_leaves d_fresh d_digestAt d_isGroup d_counts d_versionRow d_state d_names d_keptRow d_inSlot d_inAt d_inSize d_inDigest cJ P hP1 hP2 C0 hP hK hD hS hl
  · rw [q9]
    refine lv_tableIn (off := 332) (tgt := 381) hx hb dL_law_49 (by decide +kernel) (by decide +kernel) (by decide +kernel) (by decide) ?_
    exact cs_4 l hl0 x tp tb dr dt rr ds dl ri so s1 s2 s3 s4 s5 s6 pu pk sn n1 n2 n3 n4 im cs cl mo m_disk m_tape m_slots m_leaves m_fresh m_digestAt m_isGroup m_counts m_versionRow m_state m_names m_keptRow m_inSlot m_inAt m_inSize m_inDigest ho c_tb c_dr te c_dl c_ri c_s1 c_s2 c_s3 c_s4 c_s5 c_s6 c_pk c_n1 c_n2 c_n3 c_n4 c_im c_cs c_cl d_disk d_tape d_slots d_leaves d_fresh d_digestAt d_isGroup d_counts d_versionRow d_state d_names d_keptRow d_inSlot d_inAt d_inSize d_inDigest cJ P hP1 hP2 C0 hP hK hD hS hl
  · rw [q9]
    refine lv_tableIn (off := 400) (tgt := 449) hx hb dL_law_49 (by decide +kernel) (by decide +kernel) (by decide +kernel) (by decide) ?_
    exact cs_5 l hl0 x tp tb dr dt rr ds dl ri so s1 s2 s3 s4 s5 s6 pu pk sn n1 n2 n3 n4 im cs cl mo m_disk m_tape m_slots m_leaves m_fresh m_digestAt m_isGroup m_counts m_versionRow m_state m_names m_keptRow m_inSlot m_inAt m_inSize m_inDigest ho c_tb c_dr te c_dl c_ri c_s1 c_s2 c_s3 c_s4 c_s5 c_s6 c_pk c_n1 c_n2 c_n3 c_n4 c_im c_cs c_cl d_disk d_tape d_slots d_leaves d_fresh d_digestAt d_isGroup d_counts d_versionRow d_state d_names d_keptRow d_inSlot d_inAt d_inSize d_inDigest cJ P hP1 hP2 C0 hP hK hD hS hl
  · rw [q9]
    refine lv_tableIn (off := 500) (tgt := 549) hx hb dL_law_49 (by decide +kernel) (by decide +kernel) (by decide +kernel) (by decide) ?_
    exact cs_6 l hl0 x tp tb dr dt rr ds dl ri so s1 s2 s3 s4 s5 s6 pu pk sn n1 n2 n3 n4 im cs cl mo m_disk m_tape m_slots m_leaves m_fresh m_digestAt m_isGroup m_counts m_versionRow m_state m_names m_keptRow m_inSlot m_inAt m_inSize m_inDigest ho c_tb c_dr te c_dl c_ri c_s1 c_s2 c_s3 c_s4 c_s5 c_s6 c_pk c_n1 c_n2 c_n3 c_n4 c_im c_cs c_cl d_disk d_tape d_slots d_leaves d_fresh d_digestAt d_isGroup d_counts d_versionRow d_state d_names d_keptRow d_inSlot d_inAt d_inSize d_inDigest cJ P hP1 hP2 C0 hP hK hD hS hl
  · rw [q9]
    refine lv_tableIn (off := 555) (tgt := 604) hx hb dL_law_49 (by decide +kernel) (by decide +kernel) (by decide +kernel) (by decide) ?_
    exact cs_7 l hl0 x tp tb dr dt rr ds dl ri so s1 s2 s3 s4 s5 s6 pu pk sn n1 n2 n3 n4 im cs cl mo m_disk m_tape m_slots m_leaves m_fresh m_digestAt m_isGroup m_counts m_versionRow m_state m_names m_keptRow m_inSlot m_inAt m_inSize m_inDigest ho c_tb c_dr te c_dl c_ri c_s1 c_s2 c_s3 c_s4 c_s5 c_s6 c_pk c_n1 c_n2 c_n3 c_n4 c_im c_cs c_cl d_disk d_tape d_slots d_leaves d_fresh d_digestAt d_isGroup d_counts d_versionRow d_state d_names d_keptRow d_inSlot d_inAt d_inSize d_inDigest cJ P hP1 hP2 C0 hP hK hD hS hl
  · rw [q9]
    refine lv_tableIn (off := 667) (tgt := 716) hx hb dL_law_49 (by decide +kernel) (by decide +kernel) (by decide +kernel) (by decide) ?_
    exact cs_8 l hl0 x tp tb dr dt rr ds dl ri so s1 s2 s3 s4 s5 s6 pu pk sn n1 n2 n3 n4 im cs cl mo m_disk m_tape m_slots m_leaves m_fresh m_digestAt m_isGroup m_counts m_versionRow m_state m_names m_keptRow m_inSlot m_inAt m_inSize m_inDigest ho c_tb c_dr te c_dl c_ri c_s1 c_s2 c_s3 c_s4 c_s5 c_s6 c_pk c_n1 c_n2 c_n3 c_n4 c_im c_cs c_cl d_disk d_tape d_slots d_leaves d_fresh d_digestAt d_isGroup d_counts d_versionRow d_state d_names d_keptRow d_inSlot d_inAt d_inSize d_inDigest cJ P hP1 hP2 C0 hP hK hD hS hl
  · rw [q9]
    refine lv_tableIn (off := 730) (tgt := 779) hx hb dL_law_49 (by decide +kernel) (by decide +kernel) (by decide +kernel) (by decide) ?_
    exact cs_9 l hl0 x tp tb dr dt rr ds dl ri so s1 s2 s3 s4 s5 s6 pu pk sn n1 n2 n3 n4 im cs cl mo m_disk m_tape m_slots m_leaves m_fresh m_digestAt m_isGroup m_counts m_versionRow m_state m_names m_keptRow m_inSlot m_inAt m_inSize m_inDigest ho c_tb c_dr te c_dl c_ri c_s1 c_s2 c_s3 c_s4 c_s5 c_s6 c_pk c_n1 c_n2 c_n3 c_n4 c_im c_cs c_cl d_disk d_tape d_slots d_leaves d_fresh d_digestAt d_isGroup d_counts d_versionRow d_state d_names d_keptRow d_inSlot d_inAt d_inSize d_inDigest cJ P hP1 hP2 C0 hP hK hD hS hl
  · rw [q9]
    refine lv_tableIn (off := 830) (tgt := 879) hx hb dL_law_49 (by decide +kernel) (by decide +kernel) (by decide +kernel) (by decide) ?_
    exact cs_10 l hl0 x tp tb dr dt rr ds dl ri so s1 s2 s3 s4 s5 s6 pu pk sn n1 n2 n3 n4 im cs cl mo m_disk m_tape m_slots m_leaves m_fresh m_digestAt m_isGroup m_counts m_versionRow m_state m_names m_keptRow m_inSlot m_inAt m_inSize m_inDigest ho c_tb c_dr te c_dl c_ri c_s1 c_s2 c_s3 c_s4 c_s5 c_s6 c_pk c_n1 c_n2 c_n3 c_n4 c_im c_cs c_cl d_disk d_tape d_slots d_leaves d_fresh d_digestAt d_isGroup d_counts d_versionRow d_state d_names d_keptRow d_inSlot d_inAt d_inSize d_inDigest cJ P hP1 hP2 C0 hP hK hD hS hl
  · rw [q9]
    refine lv_tableIn (off := 886) (tgt := 935) hx hb dL_law_49 (by decide +kernel) (by decide +kernel) (by decide +kernel) (by decide) ?_
    exact cs_11 l hl0 x tp tb dr dt rr ds dl ri so s1 s2 s3 s4 s5 s6 pu pk sn n1 n2 n3 n4 im cs cl mo m_disk m_tape m_slots m_leaves m_fresh m_digestAt m_isGroup m_counts m_versionRow m_state m_names m_keptRow m_inSlot m_inAt m_inSize m_inDigest ho c_tb c_dr te c_dl c_ri c_s1 c_s2 c_s3 c_s4 c_s5 c_s6 c_pk c_n1 c_n2 c_n3 c_n4 c_im c_cs c_cl d_disk d_tape d_slots d_leaves d_fresh d_digestAt d_isGroup d_counts d_versionRow d_state d_names d_keptRow d_inSlot d_inAt d_inSize d_inDigest cJ P hP1 hP2 C0 hP hK hD hS hl
  · rw [q9]
    refine lv_tableIn (off := 953) (tgt := 1002) hx hb dL_law_49 (by decide +kernel) (by decide +kernel) (by decide +kernel) (by decide) ?_
    exact cs_12 l hl0 x tp tb dr dt rr ds dl ri so s1 s2 s3 s4 s5 s6 pu pk sn n1 n2 n3 n4 im cs cl mo m_disk m_tape m_slots m_leaves m_fresh m_digestAt m_isGroup m_counts m_versionRow m_state m_names m_keptRow m_inSlot m_inAt m_inSize m_inDigest ho c_tb c_dr te c_dl c_ri c_s1 c_s2 c_s3 c_s4 c_s5 c_s6 c_pk c_n1 c_n2 c_n3 c_n4 c_im c_cs c_cl d_disk d_tape d_slots d_leaves d_fresh d_digestAt d_isGroup d_counts d_versionRow d_state d_names d_keptRow d_inSlot d_inAt d_inSize d_inDigest cJ P hP1 hP2 C0 hP hK hD hS hl
  · rw [q9]
    refine lv_tableIn (off := 1041) (tgt := 1090) hx hb dL_law_49 (by decide +kernel) (by decide +kernel) (by decide +kernel) (by decide) ?_
    exact cs_13 l hl0 x tp tb dr dt rr ds dl ri so s1 s2 s3 s4 s5 s6 pu pk sn n1 n2 n3 n4 im cs cl mo m_disk m_tape m_slots m_leaves m_fresh m_digestAt m_isGroup m_counts m_versionRow m_state m_names m_keptRow m_inSlot m_inAt m_inSize m_inDigest ho c_tb c_dr te c_dl c_ri c_s1 c_s2 c_s3 c_s4 c_s5 c_s6 c_pk c_n1 c_n2 c_n3 c_n4 c_im c_cs c_cl d_disk d_tape d_slots d_leaves d_fresh d_digestAt d_isGroup d_counts d_versionRow d_state d_names d_keptRow d_inSlot d_inAt d_inSize d_inDigest cJ P hP1 hP2 C0 hP hK hD hS hl
  · rw [q9]
    refine lv_tableIn (off := 1109) (tgt := 1158) hx hb dL_law_49 (by decide +kernel) (by decide +kernel) (by decide +kernel) (by decide) ?_
    exact cs_14 l hl0 x tp tb dr dt rr ds dl ri so s1 s2 s3 s4 s5 s6 pu pk sn n1 n2 n3 n4 im cs cl mo m_disk m_tape m_slots m_leaves m_fresh m_digestAt m_isGroup m_counts m_versionRow m_state m_names m_keptRow m_inSlot m_inAt m_inSize m_inDigest ho c_tb c_dr te c_dl c_ri c_s1 c_s2 c_s3 c_s4 c_s5 c_s6 c_pk c_n1 c_n2 c_n3 c_n4 c_im c_cs c_cl d_disk d_tape d_slots d_leaves d_fresh d_digestAt d_isGroup d_counts d_versionRow d_state d_names d_keptRow d_inSlot d_inAt d_inSize d_inDigest cJ P hP1 hP2 C0 hP hK hD hS hl
  · rw [q9]
    refine lv_tableIn (off := 1172) (tgt := 1221) hx hb dL_law_49 (by decide +kernel) (by decide +kernel) (by decide +kernel) (by decide) ?_
    exact cs_15 l hl0 x tp tb dr dt rr ds dl ri so s1 s2 s3 s4 s5 s6 pu pk sn n1 n2 n3 n4 im cs cl mo m_disk m_tape m_slots m_leaves m_fresh m_digestAt m_isGroup m_counts m_versionRow m_state m_names m_keptRow m_inSlot m_inAt m_inSize m_inDigest ho c_tb c_dr te c_dl c_ri c_s1 c_s2 c_s3 c_s4 c_s5 c_s6 c_pk c_n1 c_n2 c_n3 c_n4 c_im c_cs c_cl d_disk d_tape d_slots d_leaves d_fresh d_digestAt d_isGroup d_counts d_versionRow d_state d_names d_keptRow d_inSlot d_inAt d_inSize d_inDigest cJ P hP1 hP2 C0 hP hK hD hS hl
  · rw [q9]
    refine lv_tableIn (off := 1228) (tgt := 1277) hx hb dL_law_49 (by decide +kernel) (by decide +kernel) (by decide +kernel) (by decide) ?_
    exact cs_16 l hl0 x tp tb dr dt rr ds dl ri so s1 s2 s3 s4 s5 s6 pu pk sn n1 n2 n3 n4 im cs cl mo m_disk m_tape m_slots m_leaves m_fresh m_digestAt m_isGroup m_counts m_versionRow m_state m_names m_keptRow m_inSlot m_inAt m_inSize m_inDigest ho c_tb c_dr te c_dl c_ri c_s1 c_s2 c_s3 c_s4 c_s5 c_s6 c_pk c_n1 c_n2 c_n3 c_n4 c_im c_cs c_cl d_disk d_tape d_slots d_leaves d_fresh d_digestAt d_isGroup d_counts d_versionRow d_state d_names d_keptRow d_inSlot d_inAt d_inSize d_inDigest cJ P hP1 hP2 C0 hP hK hD hS hl
  · rw [q9]
    refine lv_tableIn (off := 1284) (tgt := 1333) hx hb dL_law_49 (by decide +kernel) (by decide +kernel) (by decide +kernel) (by decide) ?_
    exact cs_17 l hl0 x tp tb dr dt rr ds dl ri so s1 s2 s3 s4 s5 s6 pu pk sn n1 n2 n3 n4 im cs cl mo m_disk m_tape m_slots m_leaves m_fresh m_digestAt m_isGroup m_counts m_versionRow m_state m_names m_keptRow m_inSlot m_inAt m_inSize m_inDigest ho c_tb c_dr te c_dl c_ri c_s1 c_s2 c_s3 c_s4 c_s5 c_s6 c_pk c_n1 c_n2 c_n3 c_n4 c_im c_cs c_cl d_disk d_tape d_slots d_leaves d_fresh d_digestAt d_isGroup d_counts d_versionRow d_state d_names d_keptRow d_inSlot d_inAt d_inSize d_inDigest cJ P hP1 hP2 C0 hP hK hD hS hl
  · rw [q9]
    refine lv_tableIn (off := 1328) (tgt := 1377) hx hb dL_law_49 (by decide +kernel) (by decide +kernel) (by decide +kernel) (by decide) ?_
    exact cs_18 l hl0 x tp tb dr dt rr ds dl ri so s1 s2 s3 s4 s5 s6 pu pk sn n1 n2 n3 n4 im cs cl mo m_disk m_tape m_slots m_leaves m_fresh m_digestAt m_isGroup m_counts m_versionRow m_state m_names m_keptRow m_inSlot m_inAt m_inSize m_inDigest ho c_tb c_dr te c_dl c_ri c_s1 c_s2 c_s3 c_s4 c_s5 c_s6 c_pk c_n1 c_n2 c_n3 c_n4 c_im c_cs c_cl d_disk d_tape d_slots d_leaves d_fresh d_digestAt d_isGroup d_counts d_versionRow d_state d_names d_keptRow d_inSlot d_inAt d_inSize d_inDigest cJ P hP1 hP2 C0 hP hK hD hS hl
  · rw [q9]
    refine lv_tableIn (off := 1364) (tgt := 1413) hx hb dL_law_49 (by decide +kernel) (by decide +kernel) (by decide +kernel) (by decide) ?_
    exact cs_19 l hl0 x tp tb dr dt rr ds dl ri so s1 s2 s3 s4 s5 s6 pu pk sn n1 n2 n3 n4 im cs cl mo m_disk m_tape m_slots m_leaves m_fresh m_digestAt m_isGroup m_counts m_versionRow m_state m_names m_keptRow m_inSlot m_inAt m_inSize m_inDigest ho c_tb c_dr te c_dl c_ri c_s1 c_s2 c_s3 c_s4 c_s5 c_s6 c_pk c_n1 c_n2 c_n3 c_n4 c_im c_cs c_cl d_disk d_tape d_slots d_leaves d_fresh d_digestAt d_isGroup d_counts d_versionRow d_state d_names d_keptRow d_inSlot d_inAt d_inSize d_inDigest cJ P hP1 hP2 C0 hP hK hD hS hl
  · rw [q9]
    refine lv_tableIn (off := 1377) (tgt := 1426) hx hb dL_law_49 (by decide +kernel) (by decide +kernel) (by decide +kernel) (by decide) ?_
    exact cs_20 l hl0 x tp tb dr dt rr ds dl ri so s1 s2 s3 s4 s5 s6 pu pk sn n1 n2 n3 n4 im cs cl mo m_disk m_tape m_slots m_leaves m_fresh m_digestAt m_isGroup m_counts m_versionRow m_state m_names m_keptRow m_inSlot m_inAt m_inSize m_inDigest ho c_tb c_dr te c_dl c_ri c_s1 c_s2 c_s3 c_s4 c_s5 c_s6 c_pk c_n1 c_n2 c_n3 c_n4 c_im c_cs c_cl d_disk d_tape d_slots d_leaves d_fresh d_digestAt d_isGroup d_counts d_versionRow d_state d_names d_keptRow d_inSlot d_inAt d_inSize d_inDigest cJ P hP1 hP2 C0 hP hK hD hS hl
  · rw [q9]
    refine lv_tableIn (off := 1390) (tgt := 1439) hx hb dL_law_49 (by decide +kernel) (by decide +kernel) (by decide +kernel) (by decide) ?_
    exact cs_21 l hl0 x tp tb dr dt rr ds dl ri so s1 s2 s3 s4 s5 s6 pu pk sn n1 n2 n3 n4 im cs cl mo m_disk m_tape m_slots m_leaves m_fresh m_digestAt m_isGroup m_counts m_versionRow m_state m_names m_keptRow m_inSlot m_inAt m_inSize m_inDigest ho c_tb c_dr te c_dl c_ri c_s1 c_s2 c_s3 c_s4 c_s5 c_s6 c_pk c_n1 c_n2 c_n3 c_n4 c_im c_cs c_cl d_disk d_tape d_slots d_leaves d_fresh d_digestAt d_isGroup d_counts d_versionRow d_state d_names d_keptRow d_inSlot d_inAt d_inSize d_inDigest cJ P hP1 hP2 C0 hP hK hD hS hl
  · rw [q9]
    refine lv_tableIn (off := 1458) (tgt := 1507) hx hb dL_law_49 (by decide +kernel) (by decide +kernel) (by decide +kernel) (by decide) ?_
    exact cs_22 l hl0 x tp tb dr dt rr ds dl ri so s1 s2 s3 s4 s5 s6 pu pk sn n1 n2 n3 n4 im cs cl mo m_disk m_tape m_slots m_leaves m_fresh m_digestAt m_isGroup m_counts m_versionRow m_state m_names m_keptRow m_inSlot m_inAt m_inSize m_inDigest ho c_tb c_dr te c_dl c_ri c_s1 c_s2 c_s3 c_s4 c_s5 c_s6 c_pk c_n1 c_n2 c_n3 c_n4 c_im c_cs c_cl d_disk d_tape d_slots d_leaves d_fresh d_digestAt d_isGroup d_counts d_versionRow d_state d_names d_keptRow d_inSlot d_inAt d_inSize d_inDigest cJ P hP1 hP2 C0 hP hK hD hS hl
  · rw [q9]
    refine lv_tableIn (off := 1514) (tgt := 1563) hx hb dL_law_49 (by decide +kernel) (by decide +kernel) (by decide +kernel) (by decide) ?_
    exact cs_23 l hl0 x tp tb dr dt rr ds dl ri so s1 s2 s3 s4 s5 s6 pu pk sn n1 n2 n3 n4 im cs cl mo m_disk m_tape m_slots m_leaves m_fresh m_digestAt m_isGroup m_counts m_versionRow m_state m_names m_keptRow m_inSlot m_inAt m_inSize m_inDigest ho c_tb c_dr te c_dl c_ri c_s1 c_s2 c_s3 c_s4 c_s5 c_s6 c_pk c_n1 c_n2 c_n3 c_n4 c_im c_cs c_cl d_disk d_tape d_slots d_leaves d_fresh d_digestAt d_isGroup d_counts d_versionRow d_state d_names d_keptRow d_inSlot d_inAt d_inSize d_inDigest cJ P hP1 hP2 C0 hP hK hD hS hl
  · rw [q9]
    refine lv_tableIn (off := 1570) (tgt := 1619) hx hb dL_law_49 (by decide +kernel) (by decide +kernel) (by decide +kernel) (by decide) ?_
    exact cs_24 l hl0 x tp tb dr dt rr ds dl ri so s1 s2 s3 s4 s5 s6 pu pk sn n1 n2 n3 n4 im cs cl mo m_disk m_tape m_slots m_leaves m_fresh m_digestAt m_isGroup m_counts m_versionRow m_state m_names m_keptRow m_inSlot m_inAt m_inSize m_inDigest ho c_tb c_dr te c_dl c_ri c_s1 c_s2 c_s3 c_s4 c_s5 c_s6 c_pk c_n1 c_n2 c_n3 c_n4 c_im c_cs c_cl d_disk d_tape d_slots d_leaves d_fresh d_digestAt d_isGroup d_counts d_versionRow d_state d_names d_keptRow d_inSlot d_inAt d_inSize d_inDigest cJ P hP1 hP2 C0 hP hK hD hS hl
  · rw [q9]
    refine lv_tableIn (off := 1626) (tgt := 1675) hx hb dL_law_49 (by decide +kernel) (by decide +kernel) (by decide +kernel) (by decide) ?_
    exact cs_25 l hl0 x tp tb dr dt rr ds dl ri so s1 s2 s3 s4 s5 s6 pu pk sn n1 n2 n3 n4 im cs cl mo m_disk m_tape m_slots m_leaves m_fresh m_digestAt m_isGroup m_counts m_versionRow m_state m_names m_keptRow m_inSlot m_inAt m_inSize m_inDigest ho c_tb c_dr te c_dl c_ri c_s1 c_s2 c_s3 c_s4 c_s5 c_s6 c_pk c_n1 c_n2 c_n3 c_n4 c_im c_cs c_cl d_disk d_tape d_slots d_leaves d_fresh d_digestAt d_isGroup d_counts d_versionRow d_state d_names d_keptRow d_inSlot d_inAt d_inSize d_inDigest cJ P hP1 hP2 C0 hP hK hD hS hl
  · rw [q9]
    refine lv_tableOut (tgt := 1731) hx hb dL_law_49 (by decide +kernel) (by decide) ?_
    exact sg_97 l hl0 ho mo x C0 (ww_22 hP hK hD).1 (ww_22 hP hK hD).2.1 (ww_22 hP hK hD).2.2 hS hl
  · rw [q9]
    refine lv_tableOut (tgt := 1731) hx hb dL_law_49 (by decide +kernel) (by decide) ?_
    exact sg_97 l hl0 ho mo x C0 (ww_22 hP hK hD).1 (ww_22 hP hK hD).2.1 (ww_22 hP hK hD).2.2 hS hl
  · rw [q9]
    refine lv_tableOut (tgt := 1731) hx hb dL_law_49 (by decide +kernel) (by decide) ?_
    exact sg_97 l hl0 ho mo x C0 (ww_22 hP hK hD).1 (ww_22 hP hK hD).2.1 (ww_22 hP hK hD).2.2 hS hl
  · rw [q9]
    refine lv_tableOut (tgt := 1731) hx hb dL_law_49 (by decide +kernel) (by decide) ?_
    exact sg_97 l hl0 ho mo x C0 (ww_22 hP hK hD).1 (ww_22 hP hK hD).2.1 (ww_22 hP hK hD).2.2 hS hl
  · rw [q9]
    refine lv_tableOut (tgt := 1731) hx hb dL_law_49 (by decide +kernel) (by decide) ?_
    exact sg_97 l hl0 ho mo x C0 (ww_22 hP hK hD).1 (ww_22 hP hK hD).2.1 (ww_22 hP hK hD).2.2 hS hl
  · rw [q9]
    refine lv_tableOut (tgt := 1731) hx hb dL_law_49 (by decide +kernel) (by decide) ?_
    exact sg_97 l hl0 ho mo x C0 (ww_22 hP hK hD).1 (ww_22 hP hK hD).2.1 (ww_22 hP hK hD).2.2 hS hl
set_option maxHeartbeats 4000000 in
set_option maxRecDepth 100000 in
theorem whole_start {p : Program} {e : Env} {s : State} {m : MethodId} {below : List Frame} {meth : Method} {c : Code} (l : Launch) (hl0 : l.stackTraces = false) {b L : Nat} {xs : Nat → Int32} (hL : L ≤ 6) (C0 : lw_At p s m meth c b L xs) : W p l e room_1 s m #[Value.ref b] below meth c s.heap [] 0 0 (lw_Z below #[Value.ref b] s) (entryFrame m ([Value.ref b] : List Value).toArray 8) := by
  obtain ⟨hx, hb, hr, hml, hown, hts, hX, hbl, hlocks, hgv⟩ := C0
  obtain ⟨dC, dI, hK⟩ := gx_known hts
  have hG := gx_start hts hgv
  have C1 : lw_B p s m meth c b L xs (fun q : Nat => s.heap.size ≤ q) := ⟨hx, hb, hr, hml, hown, fun w hw => hts w (wsL_law_in w hw), hX, hbl, hlocks, fun _ h => h, fun _ h => h, Nat.not_le.mpr hbl, hG⟩
  have hl := lv_entry ([.ref b]) (n := 8) (Nat.le_of_ble_eq_true rfl)
  rw [lg_entry_eq]
  generalize (lg_sl ([.ref b]) ++ List.replicate (8 - (lg_sl ([.ref b])).length) Slot.unset).toArray = ls at hl ⊢
  have hl : lv_has ls 8 [(0, .ref b)] := hl
  refine lw_first l hl0 (if 0 < L then xs 0 else 0) hL rfl C1 hK hl ?_
  intro x tp tb dr dt rr ds dl ri so s1 s2 s3 s4 s5 s6 pu pk sn n1 n2 n3 n4 im cs cl mo m_disk m_tape m_slots m_leaves m_fresh m_digestAt m_isGroup m_counts m_versionRow m_state m_names m_keptRow m_inSlot m_inAt m_inSize m_inDigest ho c_tb c_dr te c_dl c_ri c_s1 c_s2 c_s3 c_s4 c_s5 c_s6 c_pk c_n1 c_n2 c_n3 c_n4 c_im c_cs c_cl d_disk d_tape d_slots d_leaves d_fresh d_digestAt d_isGroup d_counts d_versionRow d_state d_names d_keptRow d_inSlot d_inAt d_inSize d_inDigest cJ P hP1 hP2 H locs ls hP hK hD hS hl
  rcases Nat.lt_or_ge L 6 with q6 | q6
  · obtain ⟨hx, hb, hr, hml, hown, hts, hX, hbl, hlocks, hA, hA9, hbA, hG⟩ := C1
    refine lv_iload hx hb dL_law_33 (lv_at hl 0 rfl) ?_
    refine lv_aload_n hx hb dL_law_35 rfl (lv_at hl 4 rfl) ?_
    refine va_slen hx hb hX hbl hbA hS dL_law_36 ?_
    refine lv_iconst (v := 5) hx hb dL_law_37 (by decide) ?_
    refine lv_isub hx hb dL_law_38 ?_
    refine lv_icmp_gt (tgt := 1737) hx hb dL_law_39 (by decide) (fun c_1 => ?_) (fun c_1 => absurd ((by decide +kernel : ∀ L, L < 6 → nI L - (5 : Int32) < 1) L q6) c_1)
    refine lv_iconst (v := 1) hx hb dL_law_1737 (by decide) ?_
    refine va_forget (fun q hq => hA9 _ (hS.2.2 q hq)) ?_
    refine W.widen (k := 600002) (n := 7302198) (Nat.le_of_ble_eq_true rfl) (Nat.le_of_ble_eq_true rfl) ?_
    exact lw_ret hx hb hr hlocks dL_law_1738
  · have e6 : L = 6 := Nat.le_antisymm hL q6
    subst e6
    exact lw_switch l hl0 x tp tb dr dt rr ds dl ri so s1 s2 s3 s4 s5 s6 pu pk sn n1 n2 n3 n4 im cs cl mo m_disk m_tape m_slots m_leaves m_fresh m_digestAt m_isGroup m_counts m_versionRow m_state m_names m_keptRow m_inSlot m_inAt m_inSize m_inDigest ho c_tb c_dr te c_dl c_ri c_s1 c_s2 c_s3 c_s4 c_s5 c_s6 c_pk c_n1 c_n2 c_n3 c_n4 c_im c_cs c_cl d_disk d_tape d_slots d_leaves d_fresh d_digestAt d_isGroup d_counts d_versionRow d_state d_names d_keptRow d_inSlot d_inAt d_inSize d_inDigest cJ P hP1 hP2 C1 hP hK hD hS hl
