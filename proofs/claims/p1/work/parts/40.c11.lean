set_option maxHeartbeats 4000000 in
set_option maxRecDepth 100000 in
theorem k_X6_heightOfParent_2 (l : Launch) (dC : Nat → ClassId) (dI : Nat → Nat → Nat) (so : Nat) (rr : Nat) (s1 : Nat) (s2 : Nat) (s3 : Nat) (s4 : Nat) (s5 : Nat) (s6 : Nat)  : Met l yX6_heightOfParent wsX6_heightOfParent ({ frames := 0, cells := 0, slots := 0, locals := 0 }) (va_Pc [.ref so, .long (0 : Int64)] (fun U => va_P (dC, dI) vwCl [(so, .inr (8, [.ref rr, .ref s1, .ref s2, .ref s3, .ref s4, .ref s5, .ref s6, .int (0 : Int32), .int (0 : Int32), .int (-1 : Int32), .int (0 : Int32), .int (0 : Int32)]))] U.heap ∧ va_K (dC, dI) vwCl [] U)) (vp_Si (fun r => r = (0 : Int32))) 0 0 (fun _ => False) := by
  refine Met.ofW (cc := cX6_heightOfParent) (maxL := 4) (ret := (some .int)) (by decide) rfl ?_
  intro p e s m args below meth c s₁ B hml hv
  obtain ⟨rfl, hP, hK⟩ := hv
  have hx := B.exec
  have hb := B.bytes
  have hr := B.returns
  have hts := atoms_spec (ws := wsX6_heightOfParent) B.pre
  have hown : s.vm.findClass RX6 = some m.cls := findClass_of_methodNamed B.named
  have hlocks := B.notSynchronized
  have hl := lv_entry ([.ref so, .long (0 : Int64)]) (n := 4) (Nat.le_of_ble_eq_true rfl)
  rw [lg_entry_eq]
  generalize (lg_sl ([.ref so, .long (0 : Int64)]) ++ List.replicate (4 - (lg_sl ([.ref so, .long (0 : Int64)])).length) Slot.unset).toArray = ls at hl ⊢
  have hl : lv_has ls 4 [(0, .ref so), (1, .long (0 : Int64))] := hl
  refine lv_lload_n hx hb dX6_heightOfParent_0 rfl (lv_at hl 1 rfl) ?_
  refine lv_aload_n hx hb dX6_heightOfParent_1 rfl (lv_at hl 0 rfl) ?_
  refine va_get (D := (dC, dI)) (ci := 8) (v := .int (0 : Int32)) (C := RX6) (T := TX6) (N := 12) hx hb hts (by decide +kernel) hown hK hP 0 rfl rfl 10 (by decide) (hts (.fieldLink RX6 46 "BlockLog$Story" "based" "Z") (by decide +kernel)) (fun _ h9 => h9) rfl dX6_heightOfParent_2 ?_
  refine lv_if_eq (tgt := 17) hx hb dX6_heightOfParent_5 (by decide) (fun c_1 => ?_) (fun c_1 => ?_)
  · skip
    refine lv_lconst (v := 0) hx hb dX6_heightOfParent_17 (by decide) ?_
    refine W.lcmp hx hb dX6_heightOfParent_18 ?_
    refine lv_if_ne (tgt := 27) hx hb dX6_heightOfParent_19 (by decide) (fun c_2 => ?_) (fun c_2 => ?_)
    · skip
      exact absurd (by decide) c_2
    · skip
      refine lv_aload_n hx hb dX6_heightOfParent_22 rfl (lv_at hl 0 rfl) ?_
      refine va_get (D := (dC, dI)) (ci := 8) (v := .int (0 : Int32)) (C := RX6) (T := TX6) (N := 12) hx hb hts (by decide +kernel) hown hK hP 0 rfl rfl 11 (by decide) (hts (.fieldLink RX6 50 "BlockLog$Story" "baseHeight" "I") (by decide +kernel)) (fun _ h9 => h9) rfl dX6_heightOfParent_23 ?_
      exact W.iret hx hb hr (fun t ht hW => ⟨_, rfl, rfl, ht⟩) (fun q h => by cases h) dX6_heightOfParent_26
  · skip
    exact absurd (by decide) c_1

set_option maxHeartbeats 4000000 in
set_option maxRecDepth 100000 in
theorem k_X8_block_5 (l : Launch) (dC : Nat → ClassId) (dI : Nat → Nat → Nat) (x : Nat) (p0 : Int32) (rr : Nat) (ds : Nat) (so : Nat) (tp : Nat) (pu : Nat) (sn : Nat) (im : Nat) (cs : Nat) (cl : Nat) (ri : Nat) (pg : Int32) (dl : Nat) (dr : Nat) (dt : Nat) (s1 : Nat) (s2 : Nat) (s3 : Nat) (s4 : Nat) (s5 : Nat) (s6 : Nat) (hf0 : 1 ≤ p0) (hf1 : p0 ≤ 1000000) (hf2 : ¬ p0 = 1) : Met l yX8_block wsX8_block ({ frames := 2, cells := 0, slots := 0, locals := 40 }) (va_Pc [.ref x, .int p0, .long (0 : Int64)] (fun U => va_P (dC, dI) vwCl [(x, .inr (10, [.ref tp, .ref ds, .ref rr, .ref so, .ref pu, .ref sn, .ref im, .ref cs, .ref cl, .int (0 : Int32)])), (rr, .inr (6, [.ref ds, .ref ri, .int 0, .int 1, .int 0, .int 0])), (ds, .inr (3, [.int pg, .ref dl, .ref dr, .ref dt, .int (1 : Int32), .int (-1 : Int32), .int (0 : Int32)])), (so, .inr (8, [.ref rr, .ref s1, .ref s2, .ref s3, .ref s4, .ref s5, .ref s6, .int (0 : Int32), .int (0 : Int32), .int (-1 : Int32), .int (0 : Int32), .int (0 : Int32)]))] U.heap ∧ va_K (dC, dI) vwCl [] U ∧ gx_W U)) (vp_Si (fun r => r = (-10 : Int32))) 0 0 (fun _ => False) := by
  refine Met.ofW (cc := cX8_block) (maxL := 9) (ret := (some .int)) (by decide) rfl ?_
  intro p e s m args below meth c s₁ B hml hv
  obtain ⟨rfl, hP, hK, hG⟩ := hv
  have hx := B.exec
  have hb := B.bytes
  have hr := B.returns
  have hts := atoms_spec (ws := wsX8_block) B.pre
  have hown : s.vm.findClass RX8 = some m.cls := findClass_of_methodNamed B.named
  have hlocks := B.notSynchronized
  have hl := lv_entry ([.ref x, .int p0, .long (0 : Int64)]) (n := 9) (Nat.le_of_ble_eq_true rfl)
  rw [lg_entry_eq]
  generalize (lg_sl ([.ref x, .int p0, .long (0 : Int64)]) ++ List.replicate (9 - (lg_sl ([.ref x, .int p0, .long (0 : Int64)])).length) Slot.unset).toArray = ls at hl ⊢
  have hl : lv_has ls 9 [(0, .ref x), (1, .int p0), (2, .long (0 : Int64))] := hl
  refine lv_aload_n hx hb dX8_block_0 rfl (lv_at hl 0 rfl) ?_
  have hPc := hP.sub (ws' := [(x, .inr (10, [.ref tp, .ref ds, .ref rr, .ref so, .ref pu, .ref sn, .ref im, .ref cs, .ref cl, .int (0 : Int32)])), (ds, .inr (3, [.int pg, .ref dl, .ref dr, .ref dt, .int (1 : Int32), .int (-1 : Int32), .int (0 : Int32)]))]) [0, 2] rfl
  have hKc := hK.sub (tys' := []) [] rfl
  refine va_csv (va_Run.run (va_runV (As := []) (rest := []) ⟨hx, hb, hml, hown, hts⟩ (k_X8_demandPower_1 l dC dI x ds tp rr so pu sn im cs cl pg dl dr dt) (cwV 0 hts gX8_block_X8_demandPower rfl rfl rfl (by decide +kernel) ⟨Nat.le_of_ble_eq_true rfl, Nat.le_of_ble_eq_true rfl⟩) ⟨fun a U g mk q => by obtain ⟨q0, qP, qK, qG⟩ := q; exact ⟨q0, qP, va_K.moved (u := U) (U := U.calling g mk a) (Vm.Alike.refl U.vm) qK, qG.same rfl⟩, va_recv hK hP (ci := 10) (q := (RX8, TX8, 10)) rfl (q0 := 0) rfl, fun U hU hW => ⟨rfl, by rw [hU]; exact hPc, va_K.moved hW.alike hKc, hG.warm hW⟩⟩ rfl rfl hl.1 rfl (lv_room (Nat.le_of_ble_eq_true rfl)) dX8_block_1 ⟨Nat.le_of_ble_eq_true rfl, Nat.le_of_ble_eq_true rfl⟩)) (fun _ => ?_)
  refine lv_iload_n hx hb dX8_block_4 rfl (lv_at hl 1 rfl) ?_
  have hPc := hP.sub (ws' := []) [] rfl
  have hKc := hK.sub (tys' := []) [] rfl
  refine va_csv (va_Run.run (va_runS (As := [.int p0]) (rest := []) ⟨hx, hb, hml, hown, hts⟩ (k_X8_demandHeight_3 l dC dI p0 hf0 hf1) (va_cwS 1 hts gX8_block_X8_demandHeight rfl rfl rfl (by decide +kernel) ⟨Nat.le_of_ble_eq_true rfl, Nat.le_of_ble_eq_true rfl⟩) ⟨fun a U g mk q => by obtain ⟨q0, qP, qK⟩ := q; exact ⟨q0, qP, va_K.moved (u := U) (U := U.calling g mk a) (Vm.Alike.refl U.vm) qK⟩, fun U hU hW => ⟨rfl, by rw [hU]; exact hPc, va_K.moved hW.alike hKc⟩⟩ rfl rfl hl.1 rfl (lv_room (Nat.le_of_ble_eq_true rfl)) dX8_block_5 ⟨Nat.le_of_ble_eq_true rfl, Nat.le_of_ble_eq_true rfl⟩)) (fun _ => ?_)
  refine lv_aload_n hx hb dX8_block_8 rfl (lv_at hl 0 rfl) ?_
  refine va_get (D := (dC, dI)) (ci := 10) (v := .ref rr) (C := RX8) (T := TX8) (N := 10) hx hb hts (by decide +kernel) hown hK hP 0 rfl rfl 2 (by decide) (hts (.fieldLink RX8 31 "BlockLog" "rows" "LBlockLog$Rows;") (by decide +kernel)) (fun _ h9 => h9) rfl dX8_block_9 ?_
  have hPc := hP.sub (ws' := [(rr, .inr (6, [.ref ds, .ref ri, .int 0, .int 1, .int 0, .int 0]))]) [1] rfl
  have hKc := hK.sub (tys' := []) [] rfl
  refine vp_callSi (va_Run.run (va_runV (As := []) (rest := []) ⟨hx, hb, hml, hown, hts⟩ (k_X4_inNeed_1 l dC dI rr ds ri) (cwV 0 hts gX8_block_X4_inNeed rfl rfl rfl (by decide +kernel) ⟨Nat.le_of_ble_eq_true rfl, Nat.le_of_ble_eq_true rfl⟩) ⟨fun a U g mk q => by obtain ⟨q0, qP, qK⟩ := q; exact ⟨q0, qP, va_K.moved (u := U) (U := U.calling g mk a) (Vm.Alike.refl U.vm) qK⟩, va_recv hK hP (ci := 6) (q := (RX4, TX4, 6)) rfl (q0 := 1) rfl, fun U hU hW => ⟨rfl, by rw [hU]; exact hPc, va_K.moved hW.alike hKc⟩⟩ rfl rfl hl.1 rfl (lv_room (Nat.le_of_ble_eq_true rfl)) dX8_block_12 ⟨Nat.le_of_ble_eq_true rfl, Nat.le_of_ble_eq_true rfl⟩)) (fun r_3 er_3 => ?_)
  subst er_3
  refine lv_if_eq (tgt := 21) hx hb dX8_block_15 (by decide) (fun c_4 => ?_) (fun c_4 => ?_)
  · skip
    refine lv_aload_n hx hb dX8_block_21 rfl (lv_at hl 0 rfl) ?_
    refine va_get (D := (dC, dI)) (ci := 10) (v := .ref so) (C := RX8) (T := TX8) (N := 10) hx hb hts (by decide +kernel) hown hK hP 0 rfl rfl 3 (by decide) (hts (.fieldLink RX8 40 "BlockLog" "story" "LBlockLog$Story;") (by decide +kernel)) (fun _ h9 => h9) rfl dX8_block_22 ?_
    refine lv_lload_n hx hb dX8_block_25 rfl (lv_at hl 2 rfl) ?_
    have hPc := hP.sub (ws' := []) [] rfl
    have hKc := hK.sub (tys' := []) [] rfl
    refine vp_callSl (va_Run.run (va_runV (As := [.long (0 : Int64)]) (rest := []) ⟨hx, hb, hml, hown, hts⟩ (k_X6_meant_2 l dC dI so (0 : Int64) (by decide)) (cwV 1 hts gX8_block_X6_meant rfl rfl rfl (by decide +kernel) ⟨Nat.le_of_ble_eq_true rfl, Nat.le_of_ble_eq_true rfl⟩) ⟨fun a U g mk q => by obtain ⟨q0, qP, qK⟩ := q; exact ⟨q0, qP, va_K.moved (u := U) (U := U.calling g mk a) (Vm.Alike.refl U.vm) qK⟩, va_recv hK hP (ci := 8) (q := (RX6, TX6, 12)) rfl (q0 := 3) rfl, fun U hU hW => ⟨rfl, by rw [hU]; exact hPc, va_K.moved hW.alike hKc⟩⟩ rfl rfl hl.1 rfl (lv_room (Nat.le_of_ble_eq_true rfl)) dX8_block_26 ⟨Nat.le_of_ble_eq_true rfl, Nat.le_of_ble_eq_true rfl⟩)) (fun r_5 er_5 => ?_)
    subst er_5
    refine lv_lstore (lv' := [(4, .long (0 : Int64)), (0, .ref x), (1, .int p0), (2, .long (0 : Int64))]) hx hb dX8_block_29 hl (by decide) rfl (fun ls hl => ?_)
    refine lv_aload_n hx hb dX8_block_31 rfl (lv_at hl 1 rfl) ?_
    refine va_get (D := (dC, dI)) (ci := 10) (v := .ref so) (C := RX8) (T := TX8) (N := 10) hx hb hts (by decide +kernel) hown hK hP 0 rfl rfl 3 (by decide) (hts (.fieldLink RX8 40 "BlockLog" "story" "LBlockLog$Story;") (by decide +kernel)) (fun _ h9 => h9) rfl dX8_block_32 ?_
    refine lv_lload hx hb dX8_block_35 (lv_at hl 0 rfl) ?_
    have hPc := hP.sub (ws' := [(so, .inr (8, [.ref rr, .ref s1, .ref s2, .ref s3, .ref s4, .ref s5, .ref s6, .int (0 : Int32), .int (0 : Int32), .int (-1 : Int32), .int (0 : Int32), .int (0 : Int32)]))]) [3] rfl
    have hKc := hK.sub (tys' := []) [] rfl
    refine vp_callSi (va_Run.run (va_runV (As := [.long (0 : Int64)]) (rest := []) ⟨hx, hb, hml, hown, hts⟩ (k_X6_heightOfParent_2 l dC dI so rr s1 s2 s3 s4 s5 s6) (cwV 1 hts gX8_block_X6_heightOfParent rfl rfl rfl (by decide +kernel) ⟨Nat.le_of_ble_eq_true rfl, Nat.le_of_ble_eq_true rfl⟩) ⟨fun a U g mk q => by obtain ⟨q0, qP, qK⟩ := q; exact ⟨q0, qP, va_K.moved (u := U) (U := U.calling g mk a) (Vm.Alike.refl U.vm) qK⟩, va_recv hK hP (ci := 8) (q := (RX6, TX6, 12)) rfl (q0 := 3) rfl, fun U hU hW => ⟨rfl, by rw [hU]; exact hPc, va_K.moved hW.alike hKc⟩⟩ rfl rfl hl.1 rfl (lv_room (Nat.le_of_ble_eq_true rfl)) dX8_block_37 ⟨Nat.le_of_ble_eq_true rfl, Nat.le_of_ble_eq_true rfl⟩)) (fun r_6 er_6 => ?_)
    subst er_6
    refine lv_istore (lv' := [(6, .int (0 : Int32)), (4, .long (0 : Int64)), (0, .ref x), (1, .int p0), (2, .long (0 : Int64))]) hx hb dX8_block_40 hl (by decide) rfl (fun ls hl => ?_)
    refine lv_iload hx hb dX8_block_42 (lv_at hl 0 rfl) ?_
    refine lv_iconst (v := (-1)) hx hb dX8_block_44 (by decide) ?_
    refine lv_icmp_ne (tgt := 51) hx hb dX8_block_45 (by decide) (fun c_7 => ?_) (fun c_7 => ?_)
    · skip
      refine lv_iload_n hx hb dX8_block_51 rfl (lv_at hl 3 rfl) ?_
      refine lv_iload hx hb dX8_block_52 (lv_at hl 0 rfl) ?_
      refine lv_iconst (v := 1) hx hb dX8_block_54 (by decide) ?_
      refine lv_iadd hx hb dX8_block_55 ?_
      refine lv_icmp_eq (tgt := 62) hx hb dX8_block_56 (by decide) (fun c_8 => ?_) (fun c_8 => ?_)
      · skip
        exact absurd c_8 hf2
      · skip
        refine lv_bipush (v := (-10)) hx hb dX8_block_59 (by decide) ?_
        exact W.iret hx hb hr (fun t ht hW => ⟨_, rfl, rfl, ht⟩) (fun q h => by cases h) dX8_block_61
    · skip
      exact absurd c_7 (by decide)
  · skip
    exact absurd (by decide) c_4

set_option maxHeartbeats 4000000 in
set_option maxRecDepth 100000 in
theorem k_L_block_5 (l : Launch) (dC : Nat → ClassId) (dI : Nat → Nat → Nat) (x : Nat) (p0 : Int32) (ho : Nat) (rr : Nat) (ds : Nat) (so : Nat) (tp : Nat) (pu : Nat) (sn : Nat) (im : Nat) (cs : Nat) (cl : Nat) (ri : Nat) (pg : Int32) (dl : Nat) (dr : Nat) (dt : Nat) (s1 : Nat) (s2 : Nat) (s3 : Nat) (s4 : Nat) (s5 : Nat) (s6 : Nat) (cJ : ClassId) (g1 : Nat → Int64) (sz : Nat) (hf0 : 1 ≤ p0) (hf1 : p0 ≤ 1000000) (hf2 : ¬ p0 = 1) : Met l yL_block wsL_block ({ frames := 3, cells := 0, slots := 0, locals := 68 }) (va_Pc [.ref x, .int p0, .long (0 : Int64), .ref ho] (fun U => U.heap.size = sz ∧ va_P (dC, dI) vwCl [(x, .inr (10, [.ref tp, .ref ds, .ref rr, .ref so, .ref pu, .ref sn, .ref im, .ref cs, .ref cl, .int (0 : Int32)])), (rr, .inr (6, [.ref ds, .ref ri, .int 0, .int 1, .int 0, .int 0])), (ds, .inr (3, [.int pg, .ref dl, .ref dr, .ref dt, .int (1 : Int32), .int (-1 : Int32), .int (0 : Int32)])), (so, .inr (8, [.ref rr, .ref s1, .ref s2, .ref s3, .ref s4, .ref s5, .ref s6, .int (0 : Int32), .int (0 : Int32), .int (-1 : Int32), .int (0 : Int32), .int (0 : Int32)])), (ho, .inl (cJ, 1, .inr (.inl g1)))] U.heap ∧ va_K (dC, dI) vwCl [(cJ, .long)] U ∧ va_D (fun _ => True) [(x, .inr (10, [.ref tp, .ref ds, .ref rr, .ref so, .ref pu, .ref sn, .ref im, .ref cs, .ref cl, .int (0 : Int32)])), (rr, .inr (6, [.ref ds, .ref ri, .int 0, .int 1, .int 0, .int 0])), (ds, .inr (3, [.int pg, .ref dl, .ref dr, .ref dt, .int (1 : Int32), .int (-1 : Int32), .int (0 : Int32)])), (so, .inr (8, [.ref rr, .ref s1, .ref s2, .ref s3, .ref s4, .ref s5, .ref s6, .int (0 : Int32), .int (0 : Int32), .int (-1 : Int32), .int (0 : Int32), .int (0 : Int32)])), (ho, .inl (cJ, 1, .inr (.inl g1)))] ∧ gx_E (va_A [(x, .inr (10, [.ref tp, .ref ds, .ref rr, .ref so, .ref pu, .ref sn, .ref im, .ref cs, .ref cl, .int (0 : Int32)])), (rr, .inr (6, [.ref ds, .ref ri, .int 0, .int 1, .int 0, .int 0])), (ds, .inr (3, [.int pg, .ref dl, .ref dr, .ref dt, .int (1 : Int32), .int (-1 : Int32), .int (0 : Int32)])), (so, .inr (8, [.ref rr, .ref s1, .ref s2, .ref s3, .ref s4, .ref s5, .ref s6, .int (0 : Int32), .int (0 : Int32), .int (-1 : Int32), .int (0 : Int32), .int (0 : Int32)])), (ho, .inl (cJ, 1, .inr (.inl g1)))] sz) U)) (va_Qi (fun r (_ : Unit) => r = (0 : Int32)) (fun (_ : Unit) t => va_P (dC, dI) vwCl [(ho, .inl (cJ, 1, .inr (.inl (vp_updL g1 (0 : Int32).toNatClampNeg ((-10 : Int32).toInt64)))))] t.heap ∧ va_K (dC, dI) vwCl [(cJ, .long)] t ∧ va_D (va_A [(x, .inr (10, [.ref tp, .ref ds, .ref rr, .ref so, .ref pu, .ref sn, .ref im, .ref cs, .ref cl, .int (0 : Int32)])), (rr, .inr (6, [.ref ds, .ref ri, .int 0, .int 1, .int 0, .int 0])), (ds, .inr (3, [.int pg, .ref dl, .ref dr, .ref dt, .int (1 : Int32), .int (-1 : Int32), .int (0 : Int32)])), (so, .inr (8, [.ref rr, .ref s1, .ref s2, .ref s3, .ref s4, .ref s5, .ref s6, .int (0 : Int32), .int (0 : Int32), .int (-1 : Int32), .int (0 : Int32), .int (0 : Int32)])), (ho, .inl (cJ, 1, .inr (.inl g1)))] sz) [(ho, .inl (cJ, 1, .inr (.inl (vp_updL g1 (0 : Int32).toNatClampNeg ((-10 : Int32).toInt64)))))]) (va_A [(x, .inr (10, [.ref tp, .ref ds, .ref rr, .ref so, .ref pu, .ref sn, .ref im, .ref cs, .ref cl, .int (0 : Int32)])), (rr, .inr (6, [.ref ds, .ref ri, .int 0, .int 1, .int 0, .int 0])), (ds, .inr (3, [.int pg, .ref dl, .ref dr, .ref dt, .int (1 : Int32), .int (-1 : Int32), .int (0 : Int32)])), (so, .inr (8, [.ref rr, .ref s1, .ref s2, .ref s3, .ref s4, .ref s5, .ref s6, .int (0 : Int32), .int (0 : Int32), .int (-1 : Int32), .int (0 : Int32), .int (0 : Int32)])), (ho, .inl (cJ, 1, .inr (.inl g1)))] sz)) 0 0 (va_A [(x, .inr (10, [.ref tp, .ref ds, .ref rr, .ref so, .ref pu, .ref sn, .ref im, .ref cs, .ref cl, .int (0 : Int32)])), (rr, .inr (6, [.ref ds, .ref ri, .int 0, .int 1, .int 0, .int 0])), (ds, .inr (3, [.int pg, .ref dl, .ref dr, .ref dt, .int (1 : Int32), .int (-1 : Int32), .int (0 : Int32)])), (so, .inr (8, [.ref rr, .ref s1, .ref s2, .ref s3, .ref s4, .ref s5, .ref s6, .int (0 : Int32), .int (0 : Int32), .int (-1 : Int32), .int (0 : Int32), .int (0 : Int32)])), (ho, .inl (cJ, 1, .inr (.inl g1)))] sz) := by
  refine va_MetW (cc := cL_block) (maxL := 6) (ret := (some .int)) (hh := [(0, 11, 14, 25), (0, 11, 18, 13)]) (by decide) rfl ?_
  intro p e s m args below meth c s₁ B hml hv
  obtain ⟨rfl, hsz, hP, hK, hD0, hG⟩ := hv
  have hx := B.exec
  have hb := B.bytes
  have hr := B.returns
  have hts := atoms_spec (ws := wsL_block) B.pre
  have hown : s.vm.findClass RL = some m.cls := findClass_of_methodNamed B.named
  have hlocks := B.notSynchronized
  have htab := vx_table (x := yL_block) B (hts (.codeWith yL_block cL_block 6 (some .int) [(0, 11, 14, 25), (0, 11, 18, 13)]) List.mem_cons_self)
  subst hsz
  have hD := hD0.self (sz := s.heap.size)
  generalize hAe : va_A [(x, .inr (10, [.ref tp, .ref ds, .ref rr, .ref so, .ref pu, .ref sn, .ref im, .ref cs, .ref cl, .int (0 : Int32)])), (rr, .inr (6, [.ref ds, .ref ri, .int 0, .int 1, .int 0, .int 0])), (ds, .inr (3, [.int pg, .ref dl, .ref dr, .ref dt, .int (1 : Int32), .int (-1 : Int32), .int (0 : Int32)])), (so, .inr (8, [.ref rr, .ref s1, .ref s2, .ref s3, .ref s4, .ref s5, .ref s6, .int (0 : Int32), .int (0 : Int32), .int (-1 : Int32), .int (0 : Int32), .int (0 : Int32)])), (ho, .inl (cJ, 1, .inr (.inl g1)))] s.heap.size = A at hD hG ⊢
  have hA : ∀ q : Nat, s.heap.size ≤ q → A q := fun q h => by rw [← hAe]; exact Or.inr h
  have hS : va_S A s.heap s.heap [] := va_S.rf
  have hl := lv_entry ([.ref x, .int p0, .long (0 : Int64), .ref ho]) (n := 6) (Nat.le_of_ble_eq_true rfl)
  rw [lg_entry_eq]
  generalize (lg_sl ([.ref x, .int p0, .long (0 : Int64), .ref ho]) ++ List.replicate (6 - (lg_sl ([.ref x, .int p0, .long (0 : Int64), .ref ho])).length) Slot.unset).toArray = ls at hl ⊢
  have hl : lv_has ls 6 [(0, .ref x), (1, .int p0), (2, .long (0 : Int64)), (4, .ref ho)] := hl
  refine lv_aload hx hb dL_block_0 (lv_at hl 3 rfl) ?_
  refine lv_iconst (v := 0) hx hb dL_block_2 (by decide) ?_
  refine lv_aload_n hx hb dL_block_3 rfl (lv_at hl 0 rfl) ?_
  refine lv_iload_n hx hb dL_block_4 rfl (lv_at hl 1 rfl) ?_
  refine lv_lload_n hx hb dL_block_5 rfl (lv_at hl 2 rfl) ?_
  have hPc := hP.sub (ws' := [(x, .inr (10, [.ref tp, .ref ds, .ref rr, .ref so, .ref pu, .ref sn, .ref im, .ref cs, .ref cl, .int (0 : Int32)])), (rr, .inr (6, [.ref ds, .ref ri, .int 0, .int 1, .int 0, .int 0])), (ds, .inr (3, [.int pg, .ref dl, .ref dr, .ref dt, .int (1 : Int32), .int (-1 : Int32), .int (0 : Int32)])), (so, .inr (8, [.ref rr, .ref s1, .ref s2, .ref s3, .ref s4, .ref s5, .ref s6, .int (0 : Int32), .int (0 : Int32), .int (-1 : Int32), .int (0 : Int32), .int (0 : Int32)]))]) [0, 1, 2, 3] rfl
  have hKc := hK.sub (tys' := []) [] rfl
  refine vp_callSi (va_Run.run (va_runV (As := [.int p0, .long (0 : Int64)]) (rest := [.int (0 : Int32), .ref ho]) ⟨hx, hb, hml, hown, hts⟩ (k_X8_block_5 l dC dI x p0 rr ds so tp pu sn im cs cl ri pg dl dr dt s1 s2 s3 s4 s5 s6 hf0 hf1 hf2) (cwV 2 hts gL_block_X8_block rfl rfl rfl (by decide +kernel) ⟨Nat.le_of_ble_eq_true rfl, Nat.le_of_ble_eq_true rfl⟩) ⟨fun a U g mk q => by obtain ⟨q0, qP, qK, qG⟩ := q; exact ⟨q0, qP, va_K.moved (u := U) (U := U.calling g mk a) (Vm.Alike.refl U.vm) qK, qG.same rfl⟩, va_recv hK hP (ci := 10) (q := (RX8, TX8, 10)) rfl (q0 := 0) rfl, fun U hU hW => ⟨rfl, by rw [hU]; exact hPc, va_K.moved hW.alike hKc, hG.1.warm hW⟩⟩ rfl rfl hl.1 rfl (lv_room (Nat.le_of_ble_eq_true rfl)) dL_block_6 ⟨Nat.le_of_ble_eq_true rfl, Nat.le_of_ble_eq_true rfl⟩)) (fun r_1 er_1 => ?_)
  subst er_1
  refine lv_i2l hx hb dL_block_9 rfl ?_
  refine va_last hx hb hK hP hD hS 4 0 rfl rfl (by unfold vp_in; decide +kernel) dL_block_10 (fun H locs hP hD hS => ?_)
  have hP : va_P (dC, dI) vwCl [(x, .inr (10, [.ref tp, .ref ds, .ref rr, .ref so, .ref pu, .ref sn, .ref im, .ref cs, .ref cl, .int (0 : Int32)])), (rr, .inr (6, [.ref ds, .ref ri, .int 0, .int 1, .int 0, .int 0])), (ds, .inr (3, [.int pg, .ref dl, .ref dr, .ref dt, .int (1 : Int32), .int (-1 : Int32), .int (0 : Int32)])), (so, .inr (8, [.ref rr, .ref s1, .ref s2, .ref s3, .ref s4, .ref s5, .ref s6, .int (0 : Int32), .int (0 : Int32), .int (-1 : Int32), .int (0 : Int32), .int (0 : Int32)])), (ho, .inl (cJ, 1, .inr (.inl (vp_updL g1 (0 : Int32).toNatClampNeg ((-10 : Int32).toInt64)))))] H := hP
  have hD : va_D A [(x, .inr (10, [.ref tp, .ref ds, .ref rr, .ref so, .ref pu, .ref sn, .ref im, .ref cs, .ref cl, .int (0 : Int32)])), (rr, .inr (6, [.ref ds, .ref ri, .int 0, .int 1, .int 0, .int 0])), (ds, .inr (3, [.int pg, .ref dl, .ref dr, .ref dt, .int (1 : Int32), .int (-1 : Int32), .int (0 : Int32)])), (so, .inr (8, [.ref rr, .ref s1, .ref s2, .ref s3, .ref s4, .ref s5, .ref s6, .int (0 : Int32), .int (0 : Int32), .int (-1 : Int32), .int (0 : Int32), .int (0 : Int32)])), (ho, .inl (cJ, 1, .inr (.inl (vp_updL g1 (0 : Int32).toNatClampNeg ((-10 : Int32).toInt64)))))] := hD
  refine lv_goto (tgt := 22) hx hb dL_block_11 (by decide) ?_
  refine lv_iconst (v := 0) hx hb dL_block_22 (by decide) ?_
  have hP := hP.sub (ws' := [(ho, .inl (cJ, 1, .inr (.inl (vp_updL g1 (0 : Int32).toNatClampNeg ((-10 : Int32).toInt64)))))]) [4] rfl
  have hD := hD.sub (ws' := [(ho, .inl (cJ, 1, .inr (.inl (vp_updL g1 (0 : Int32).toNatClampNeg ((-10 : Int32).toInt64)))))]) [4] (by decide) rfl
  have hK := hK.sub (tys' := [(cJ, .long)]) [0] rfl
  exact W.iret hx hb hr (fun t ht hW => ⟨⟨_, (), rfl, rfl, by rw [ht]; exact hP, va_K.moved hW.alike hK, hD⟩, hS.F ht⟩) hS.2.2 dL_block_23

set_option maxHeartbeats 4000000 in
set_option maxRecDepth 100000 in
theorem k_X9_block_5 (l : Launch) (dC : Nat → ClassId) (dI : Nat → Nat → Nat) (mo : Nat) (p0 : Int32) (m_digestAt : Nat) (m_isGroup : Nat) (m_counts : Nat) (m_disk : Nat) (P : Nat) (m_tape : Nat) (m_slots : Nat) (m_leaves : Nat) (m_fresh : Nat) (m_versionRow : Nat) (m_state : Nat) (m_names : Nat) (m_keptRow : Nat) (m_inSlot : Nat) (m_inAt : Nat) (m_inSize : Nat) (m_inDigest : Nat) (d_digestAt : ClassId) (d_isGroup : ClassId) (d_counts : ClassId) (sz : Nat) (hf0 : 1 ≤ p0) (hf1 : p0 ≤ 1000000) (hf2 : ¬ p0 = 1) : Met l yX9_block wsX9_block ({ frames := 3, cells := 0, slots := 0, locals := 65 }) (va_Pc [.ref mo, .int p0, .long (0 : Int64)] (fun U => U.heap.size = sz ∧ va_P (dC, dI) vwCl [(mo, .inr (11, [.ref m_disk, .int (nI P), .int ((8224 : Int32) + ((26 : Int32) * (nI P))), .int (1 : Int32), .int 0, .int (-1 : Int32), .int 0, .int (0 : Int32), .ref m_tape, .int 0, .ref m_slots, .ref m_leaves, .int 0, .int 0, .ref m_fresh, .int 0, .int 0, .int 0, .ref m_digestAt, .ref m_isGroup, .ref m_counts, .int 0, .int 0, .long 0, .int 0, .ref m_versionRow, .int 0, .long 0, .ref m_state, .ref m_names, .int 0, .ref m_keptRow, .int 0, .ref m_inSlot, .ref m_inAt, .ref m_inSize, .ref m_inDigest, .int 0])), (m_digestAt, .inl (d_digestAt, 128, .inr (.inl (fun _ => 0)))), (m_isGroup, .inl (d_isGroup, 128, .inl (fun _ => 0))), (m_counts, .inl (d_counts, 128, .inl (fun _ => 0)))] U.heap ∧ va_K (dC, dI) vwCl [(d_digestAt, .long), (d_isGroup, .boolean), (d_counts, .boolean)] U ∧ va_D (fun _ => True) [(mo, .inr (11, [.ref m_disk, .int (nI P), .int ((8224 : Int32) + ((26 : Int32) * (nI P))), .int (1 : Int32), .int 0, .int (-1 : Int32), .int 0, .int (0 : Int32), .ref m_tape, .int 0, .ref m_slots, .ref m_leaves, .int 0, .int 0, .ref m_fresh, .int 0, .int 0, .int 0, .ref m_digestAt, .ref m_isGroup, .ref m_counts, .int 0, .int 0, .long 0, .int 0, .ref m_versionRow, .int 0, .long 0, .ref m_state, .ref m_names, .int 0, .ref m_keptRow, .int 0, .ref m_inSlot, .ref m_inAt, .ref m_inSize, .ref m_inDigest, .int 0])), (m_digestAt, .inl (d_digestAt, 128, .inr (.inl (fun _ => 0)))), (m_isGroup, .inl (d_isGroup, 128, .inl (fun _ => 0))), (m_counts, .inl (d_counts, 128, .inl (fun _ => 0)))])) (va_Qi (fun r (_ : Unit) => r = (-10 : Int32)) (fun (_ : Unit) t => va_P (dC, dI) vwCl [(mo, .inr (11, [.ref m_disk, .int (nI P), .int ((8224 : Int32) + ((26 : Int32) * (nI P))), .int (1 : Int32), .int 0, .int (-1 : Int32), .int 0, .int (0 : Int32), .ref m_tape, .int 0, .ref m_slots, .ref m_leaves, .int 0, .int 0, .ref m_fresh, .int 0, .int (0 : Int32), .int (0 : Int32), .ref m_digestAt, .ref m_isGroup, .ref m_counts, .int (-1 : Int32), .int (0 : Int32), .long (0 : Int64), .int (0 : Int32), .ref m_versionRow, .int (0 : Int32), .long (0 : Int64), .ref m_state, .ref m_names, .int 0, .ref m_keptRow, .int 0, .ref m_inSlot, .ref m_inAt, .ref m_inSize, .ref m_inDigest, .int 0]))] t.heap ∧ va_K (dC, dI) vwCl [(d_digestAt, .long), (d_isGroup, .boolean), (d_counts, .boolean)] t ∧ va_D (va_A [(mo, .inr (11, [.ref m_disk, .int (nI P), .int ((8224 : Int32) + ((26 : Int32) * (nI P))), .int (1 : Int32), .int 0, .int (-1 : Int32), .int 0, .int (0 : Int32), .ref m_tape, .int 0, .ref m_slots, .ref m_leaves, .int 0, .int 0, .ref m_fresh, .int 0, .int 0, .int 0, .ref m_digestAt, .ref m_isGroup, .ref m_counts, .int 0, .int 0, .long 0, .int 0, .ref m_versionRow, .int 0, .long 0, .ref m_state, .ref m_names, .int 0, .ref m_keptRow, .int 0, .ref m_inSlot, .ref m_inAt, .ref m_inSize, .ref m_inDigest, .int 0])), (m_digestAt, .inl (d_digestAt, 128, .inr (.inl (fun _ => 0)))), (m_isGroup, .inl (d_isGroup, 128, .inl (fun _ => 0))), (m_counts, .inl (d_counts, 128, .inl (fun _ => 0)))] sz) [(mo, .inr (11, [.ref m_disk, .int (nI P), .int ((8224 : Int32) + ((26 : Int32) * (nI P))), .int (1 : Int32), .int 0, .int (-1 : Int32), .int 0, .int (0 : Int32), .ref m_tape, .int 0, .ref m_slots, .ref m_leaves, .int 0, .int 0, .ref m_fresh, .int 0, .int (0 : Int32), .int (0 : Int32), .ref m_digestAt, .ref m_isGroup, .ref m_counts, .int (-1 : Int32), .int (0 : Int32), .long (0 : Int64), .int (0 : Int32), .ref m_versionRow, .int (0 : Int32), .long (0 : Int64), .ref m_state, .ref m_names, .int 0, .ref m_keptRow, .int 0, .ref m_inSlot, .ref m_inAt, .ref m_inSize, .ref m_inDigest, .int 0]))]) (va_A [(mo, .inr (11, [.ref m_disk, .int (nI P), .int ((8224 : Int32) + ((26 : Int32) * (nI P))), .int (1 : Int32), .int 0, .int (-1 : Int32), .int 0, .int (0 : Int32), .ref m_tape, .int 0, .ref m_slots, .ref m_leaves, .int 0, .int 0, .ref m_fresh, .int 0, .int 0, .int 0, .ref m_digestAt, .ref m_isGroup, .ref m_counts, .int 0, .int 0, .long 0, .int 0, .ref m_versionRow, .int 0, .long 0, .ref m_state, .ref m_names, .int 0, .ref m_keptRow, .int 0, .ref m_inSlot, .ref m_inAt, .ref m_inSize, .ref m_inDigest, .int 0])), (m_digestAt, .inl (d_digestAt, 128, .inr (.inl (fun _ => 0)))), (m_isGroup, .inl (d_isGroup, 128, .inl (fun _ => 0))), (m_counts, .inl (d_counts, 128, .inl (fun _ => 0)))] sz)) 0 0 (va_A [(mo, .inr (11, [.ref m_disk, .int (nI P), .int ((8224 : Int32) + ((26 : Int32) * (nI P))), .int (1 : Int32), .int 0, .int (-1 : Int32), .int 0, .int (0 : Int32), .ref m_tape, .int 0, .ref m_slots, .ref m_leaves, .int 0, .int 0, .ref m_fresh, .int 0, .int 0, .int 0, .ref m_digestAt, .ref m_isGroup, .ref m_counts, .int 0, .int 0, .long 0, .int 0, .ref m_versionRow, .int 0, .long 0, .ref m_state, .ref m_names, .int 0, .ref m_keptRow, .int 0, .ref m_inSlot, .ref m_inAt, .ref m_inSize, .ref m_inDigest, .int 0])), (m_digestAt, .inl (d_digestAt, 128, .inr (.inl (fun _ => 0)))), (m_isGroup, .inl (d_isGroup, 128, .inl (fun _ => 0))), (m_counts, .inl (d_counts, 128, .inl (fun _ => 0)))] sz) := by
  refine Met.ofW (cc := cX9_block) (maxL := 15) (ret := (some .int)) (by decide) rfl ?_
  intro p e s m args below meth c s₁ B hml hv
  obtain ⟨rfl, hsz, hP, hK, hD0⟩ := hv
  have hx := B.exec
  have hb := B.bytes
  have hr := B.returns
  have hts := atoms_spec (ws := wsX9_block) B.pre
  have hown : s.vm.findClass RX9 = some m.cls := findClass_of_methodNamed B.named
  have hlocks := B.notSynchronized
  subst hsz
  have hD := hD0.self (sz := s.heap.size)
  generalize hAe : va_A [(mo, .inr (11, [.ref m_disk, .int (nI P), .int ((8224 : Int32) + ((26 : Int32) * (nI P))), .int (1 : Int32), .int 0, .int (-1 : Int32), .int 0, .int (0 : Int32), .ref m_tape, .int 0, .ref m_slots, .ref m_leaves, .int 0, .int 0, .ref m_fresh, .int 0, .int 0, .int 0, .ref m_digestAt, .ref m_isGroup, .ref m_counts, .int 0, .int 0, .long 0, .int 0, .ref m_versionRow, .int 0, .long 0, .ref m_state, .ref m_names, .int 0, .ref m_keptRow, .int 0, .ref m_inSlot, .ref m_inAt, .ref m_inSize, .ref m_inDigest, .int 0])), (m_digestAt, .inl (d_digestAt, 128, .inr (.inl (fun _ => 0)))), (m_isGroup, .inl (d_isGroup, 128, .inl (fun _ => 0))), (m_counts, .inl (d_counts, 128, .inl (fun _ => 0)))] s.heap.size = A at hD ⊢
  have hA : ∀ q : Nat, s.heap.size ≤ q → A q := fun q h => by rw [← hAe]; exact Or.inr h
  have hS : va_S A s.heap s.heap [] := va_S.rf
  have hl := lv_entry ([.ref mo, .int p0, .long (0 : Int64)]) (n := 15) (Nat.le_of_ble_eq_true rfl)
  rw [lg_entry_eq]
  generalize (lg_sl ([.ref mo, .int p0, .long (0 : Int64)]) ++ List.replicate (15 - (lg_sl ([.ref mo, .int p0, .long (0 : Int64)])).length) Slot.unset).toArray = ls at hl ⊢
  have hl : lv_has ls 15 [(0, .ref mo), (1, .int p0), (2, .long (0 : Int64))] := hl
  refine lv_aload_n hx hb dX9_block_0 rfl (lv_at hl 0 rfl) ?_
  refine lv_aload_n hx hb dX9_block_1 rfl (lv_at hl 0 rfl) ?_
  refine va_get (D := (dC, dI)) (ci := 11) (v := .int (1 : Int32)) (C := RX9) (T := TX9) (N := 38) hx hb hts (by decide +kernel) hown hK hP 0 rfl rfl 3 (by decide) (hts (.fieldLink RX9 72 "BlockLogModel" "on" "Z") (by decide +kernel)) (fun _ h9 => h9) rfl dX9_block_2 ?_
  refine lv_if_ne (tgt := 12) hx hb dX9_block_5 (by decide) (fun c_1 => ?_) (fun c_1 => ?_)
  · skip
    refine lv_iload_n hx hb dX9_block_12 rfl (lv_at hl 1 rfl) ?_
    refine lv_iconst (v := 1) hx hb dX9_block_13 (by decide) ?_
    refine lv_ldc hx hb hown (hts (.constant RX9 208 (1000000)) (by decide +kernel)) dX9_block_14 ?_
    have hPc := hP.sub (ws' := []) [] rfl
    have hKc := hK.sub (tys' := []) [] rfl
    refine vp_callSi (va_Run.run (va_runS (As := [.int p0, .int (1 : Int32), .int (1000000 : Int32)]) (rest := [.ref mo]) ⟨hx, hb, hml, hown, hts⟩ (k_X9_within_3 l dC dI p0 (1 : Int32) (1000000 : Int32) hf0 hf1) (va_cwS 3 hts gX9_block_X9_within rfl rfl rfl (by decide +kernel) ⟨Nat.le_of_ble_eq_true rfl, Nat.le_of_ble_eq_true rfl⟩) ⟨fun a U g mk q => by obtain ⟨q0, qP, qK⟩ := q; exact ⟨q0, qP, va_K.moved (u := U) (U := U.calling g mk a) (Vm.Alike.refl U.vm) qK⟩, fun U hU hW => ⟨rfl, by rw [hU]; exact hPc, va_K.moved hW.alike hKc⟩⟩ rfl rfl hl.1 rfl (lv_room (Nat.le_of_ble_eq_true rfl)) dX9_block_16 ⟨Nat.le_of_ble_eq_true rfl, Nat.le_of_ble_eq_true rfl⟩)) (fun r_2 er_2 => ?_)
    subst er_2
    refine lv_if_ne (tgt := 26) hx hb dX9_block_19 (by decide) (fun c_3 => ?_) (fun c_3 => ?_)
    · skip
      refine lv_iconst (v := 0) hx hb dX9_block_26 (by decide) ?_
      refine va_put (D := (dC, dI)) (ci := 11) (v := .int (0 : Int32)) (ty := .int) (C := RX9) (T := TX9) (N := 38) hx hb hts (by decide +kernel) tyX9 tyX9_ok nmX9 hown hK hP hD hS 0 rfl rfl 13 (by decide) (hts (.fieldLink RX9 91 "BlockLogModel" "thrown" "I") (by decide +kernel)) (fun _ h9 => h9) rfl (by decide +kernel) rfl rfl (Nat.le_of_ble_eq_true rfl) dX9_block_27 (fun H locs hP hD hS => ?_)
      have hP : va_P (dC, dI) vwCl [(mo, .inr (11, [.ref m_disk, .int (nI P), .int ((8224 : Int32) + ((26 : Int32) * (nI P))), .int (1 : Int32), .int 0, .int (-1 : Int32), .int 0, .int (0 : Int32), .ref m_tape, .int 0, .ref m_slots, .ref m_leaves, .int 0, .int (0 : Int32), .ref m_fresh, .int 0, .int 0, .int 0, .ref m_digestAt, .ref m_isGroup, .ref m_counts, .int 0, .int 0, .long 0, .int 0, .ref m_versionRow, .int 0, .long 0, .ref m_state, .ref m_names, .int 0, .ref m_keptRow, .int 0, .ref m_inSlot, .ref m_inAt, .ref m_inSize, .ref m_inDigest, .int 0])), (m_digestAt, .inl (d_digestAt, 128, .inr (.inl (fun _ => 0)))), (m_isGroup, .inl (d_isGroup, 128, .inl (fun _ => 0))), (m_counts, .inl (d_counts, 128, .inl (fun _ => 0)))] H := hP
      have hD : va_D A [(mo, .inr (11, [.ref m_disk, .int (nI P), .int ((8224 : Int32) + ((26 : Int32) * (nI P))), .int (1 : Int32), .int 0, .int (-1 : Int32), .int 0, .int (0 : Int32), .ref m_tape, .int 0, .ref m_slots, .ref m_leaves, .int 0, .int (0 : Int32), .ref m_fresh, .int 0, .int 0, .int 0, .ref m_digestAt, .ref m_isGroup, .ref m_counts, .int 0, .int 0, .long 0, .int 0, .ref m_versionRow, .int 0, .long 0, .ref m_state, .ref m_names, .int 0, .ref m_keptRow, .int 0, .ref m_inSlot, .ref m_inAt, .ref m_inSize, .ref m_inDigest, .int 0])), (m_digestAt, .inl (d_digestAt, 128, .inr (.inl (fun _ => 0)))), (m_isGroup, .inl (d_isGroup, 128, .inl (fun _ => 0))), (m_counts, .inl (d_counts, 128, .inl (fun _ => 0)))] := hD
      refine lv_aload_n hx hb dX9_block_30 rfl (lv_at hl 0 rfl) ?_
      refine va_get (D := (dC, dI)) (ci := 11) (v := .int (0 : Int32)) (C := RX9) (T := TX9) (N := 38) hx hb hts (by decide +kernel) hown hK hP 0 rfl rfl 13 (by decide) (hts (.fieldLink RX9 91 "BlockLogModel" "thrown" "I") (by decide +kernel)) (fun _ h9 => h9) rfl dX9_block_31 ?_
      refine lv_if_le (tgt := 39) hx hb dX9_block_34 (by decide) (fun c_4 => ?_) (fun c_4 => ?_)
      · skip
        refine lv_aload_n hx hb dX9_block_39 rfl (lv_at hl 0 rfl) ?_
        have hPc := hP.sub (ws' := [(mo, .inr (11, [.ref m_disk, .int (nI P), .int ((8224 : Int32) + ((26 : Int32) * (nI P))), .int (1 : Int32), .int 0, .int (-1 : Int32), .int 0, .int (0 : Int32), .ref m_tape, .int 0, .ref m_slots, .ref m_leaves, .int 0, .int (0 : Int32), .ref m_fresh, .int 0, .int 0, .int 0, .ref m_digestAt, .ref m_isGroup, .ref m_counts, .int 0, .int 0, .long 0, .int 0, .ref m_versionRow, .int 0, .long 0, .ref m_state, .ref m_names, .int 0, .ref m_keptRow, .int 0, .ref m_inSlot, .ref m_inAt, .ref m_inSize, .ref m_inDigest, .int 0])), (m_digestAt, .inl (d_digestAt, 128, .inr (.inl (fun _ => 0)))), (m_isGroup, .inl (d_isGroup, 128, .inl (fun _ => 0))), (m_counts, .inl (d_counts, 128, .inl (fun _ => 0)))]) [0, 1, 2, 3] rfl
        have hKc := hK.sub (tys' := [(d_digestAt, .long), (d_isGroup, .boolean), (d_counts, .boolean)]) [0, 1, 2] rfl
        have hDc := hD.sub (ws' := [(mo, .inr (11, [.ref m_disk, .int (nI P), .int ((8224 : Int32) + ((26 : Int32) * (nI P))), .int (1 : Int32), .int 0, .int (-1 : Int32), .int 0, .int (0 : Int32), .ref m_tape, .int 0, .ref m_slots, .ref m_leaves, .int 0, .int (0 : Int32), .ref m_fresh, .int 0, .int 0, .int 0, .ref m_digestAt, .ref m_isGroup, .ref m_counts, .int 0, .int 0, .long 0, .int 0, .ref m_versionRow, .int 0, .long 0, .ref m_state, .ref m_names, .int 0, .ref m_keptRow, .int 0, .ref m_inSlot, .ref m_inAt, .ref m_inSize, .ref m_inDigest, .int 0])), (m_digestAt, .inl (d_digestAt, 128, .inr (.inl (fun _ => 0)))), (m_isGroup, .inl (d_isGroup, 128, .inl (fun _ => 0))), (m_counts, .inl (d_counts, 128, .inl (fun _ => 0)))]) [0, 1, 2, 3] (by decide) rfl
        have hFc := va_free (wc := [(mo, .inr (11, [.ref m_disk, .int (nI P), .int ((8224 : Int32) + ((26 : Int32) * (nI P))), .int (1 : Int32), .int 0, .int (-1 : Int32), .int 0, .int (0 : Int32), .ref m_tape, .int 0, .ref m_slots, .ref m_leaves, .int 0, .int (0 : Int32), .ref m_fresh, .int 0, .int 0, .int 0, .ref m_digestAt, .ref m_isGroup, .ref m_counts, .int 0, .int 0, .long 0, .int 0, .ref m_versionRow, .int 0, .long 0, .ref m_state, .ref m_names, .int 0, .ref m_keptRow, .int 0, .ref m_inSlot, .ref m_inAt, .ref m_inSize, .ref m_inDigest, .int 0])), (m_digestAt, .inl (d_digestAt, 128, .inr (.inl (fun _ => 0)))), (m_isGroup, .inl (d_isGroup, 128, .inl (fun _ => 0))), (m_counts, .inl (d_counts, 128, .inl (fun _ => 0)))]) hD hS hA [0, 1, 2, 3] rfl
        refine va_callv (va_runV (As := []) (rest := []) ⟨hx, hb, hml, hown, hts⟩ (k_X9_read_1 l dC dI mo m_digestAt m_isGroup m_counts m_disk P m_tape m_slots m_leaves m_fresh m_versionRow m_state m_names m_keptRow m_inSlot m_inAt m_inSize m_inDigest d_digestAt d_isGroup d_counts _) (cwV 0 hts gX9_block_X9_read rfl rfl rfl (by decide +kernel) ⟨Nat.le_of_ble_eq_true rfl, Nat.le_of_ble_eq_true rfl⟩) ⟨fun a U g mk q => by obtain ⟨q0, q1, qP, qK, qD⟩ := q; exact ⟨q0, q1, qP, va_K.moved (u := U) (U := U.calling g mk a) (Vm.Alike.refl U.vm) qK, qD⟩, va_recv hK hP (ci := 11) (q := (RX9, TX9, 38)) rfl (q0 := 0) rfl, fun U hU hW => ⟨rfl, by rw [hU], by rw [hU]; exact hPc, va_K.moved hW.alike hKc, hDc.weaken (fun _ _ _ _ => trivial)⟩⟩ rfl rfl hl.1 rfl (lv_room (Nat.le_of_ble_eq_true rfl)) dX9_block_40 ⟨Nat.le_of_ble_eq_true rfl, Nat.le_of_ble_eq_true rfl⟩) hS (fun q _ h => hFc q h) hFc (fun u t H1 locs ht hvm er_5 hB hz1 hk1 hS => ?_)
        obtain ⟨hP1, hK1, hD1⟩ := hB
        rw [ht] at hP1
        obtain ⟨hP, hD⟩ := va_join (wr := []) (w1 := [(mo, .inr (11, [.ref m_disk, .int (nI P), .int ((8224 : Int32) + ((26 : Int32) * (nI P))), .int (1 : Int32), .int 0, .int (-1 : Int32), .int 0, .int (0 : Int32), .ref m_tape, .int 0, .ref m_slots, .ref m_leaves, .int 0, .int 0, .ref m_fresh, .int 0, .int (0 : Int32), .int (0 : Int32), .ref m_digestAt, .ref m_isGroup, .ref m_counts, .int (-1 : Int32), .int (0 : Int32), .long (0 : Int64), .int (0 : Int32), .ref m_versionRow, .int (0 : Int32), .long (0 : Int64), .ref m_state, .ref m_names, .int 0, .ref m_keptRow, .int 0, .ref m_inSlot, .ref m_inAt, .ref m_inSize, .ref m_inDigest, .int 0])), (m_digestAt, .inl (d_digestAt, 128, .inr (.inl (zr_L 128)))), (m_isGroup, .inl (d_isGroup, 128, .inl (zr_Z 128))), (m_counts, .inl (d_counts, 128, .inl (zr_Z 128)))]) hP hD [0, 1, 2, 3] [] rfl rfl (by decide) (by decide) hk1 hFc hP1 hD1
        clear hPc hDc hFc hP1 hD1 hk1 hz1
        generalize H1 = H at hP hS ⊢
        have hP : va_P (dC, dI) vwCl [(mo, .inr (11, [.ref m_disk, .int (nI P), .int ((8224 : Int32) + ((26 : Int32) * (nI P))), .int (1 : Int32), .int 0, .int (-1 : Int32), .int 0, .int (0 : Int32), .ref m_tape, .int 0, .ref m_slots, .ref m_leaves, .int 0, .int 0, .ref m_fresh, .int 0, .int (0 : Int32), .int (0 : Int32), .ref m_digestAt, .ref m_isGroup, .ref m_counts, .int (-1 : Int32), .int (0 : Int32), .long (0 : Int64), .int (0 : Int32), .ref m_versionRow, .int (0 : Int32), .long (0 : Int64), .ref m_state, .ref m_names, .int 0, .ref m_keptRow, .int 0, .ref m_inSlot, .ref m_inAt, .ref m_inSize, .ref m_inDigest, .int 0])), (m_digestAt, .inl (d_digestAt, 128, .inr (.inl (zr_L 128)))), (m_isGroup, .inl (d_isGroup, 128, .inl (zr_Z 128))), (m_counts, .inl (d_counts, 128, .inl (zr_Z 128)))] H := hP
        have hD : va_D A [(mo, .inr (11, [.ref m_disk, .int (nI P), .int ((8224 : Int32) + ((26 : Int32) * (nI P))), .int (1 : Int32), .int 0, .int (-1 : Int32), .int 0, .int (0 : Int32), .ref m_tape, .int 0, .ref m_slots, .ref m_leaves, .int 0, .int 0, .ref m_fresh, .int 0, .int (0 : Int32), .int (0 : Int32), .ref m_digestAt, .ref m_isGroup, .ref m_counts, .int (-1 : Int32), .int (0 : Int32), .long (0 : Int64), .int (0 : Int32), .ref m_versionRow, .int (0 : Int32), .long (0 : Int64), .ref m_state, .ref m_names, .int 0, .ref m_keptRow, .int 0, .ref m_inSlot, .ref m_inAt, .ref m_inSize, .ref m_inDigest, .int 0])), (m_digestAt, .inl (d_digestAt, 128, .inr (.inl (zr_L 128)))), (m_isGroup, .inl (d_isGroup, 128, .inl (zr_Z 128))), (m_counts, .inl (d_counts, 128, .inl (zr_Z 128)))] := hD
        refine lv_aload_n hx hb dX9_block_43 rfl (lv_at hl 0 rfl) ?_
        refine va_get (D := (dC, dI)) (ci := 11) (v := .int (0 : Int32)) (C := RX9) (T := TX9) (N := 38) hx hb hts (by decide +kernel) hown hK hP 0 rfl rfl 17 (by decide) (hts (.fieldLink RX9 176 "BlockLogModel" "needs" "Z") (by decide +kernel)) (fun _ h9 => h9) rfl dX9_block_44 ?_
        refine lv_if_eq (tgt := 53) hx hb dX9_block_47 (by decide) (fun c_6 => ?_) (fun c_6 => ?_)
        · skip
          refine lv_aload_n hx hb dX9_block_53 rfl (lv_at hl 0 rfl) ?_
          refine lv_lload_n hx hb dX9_block_54 rfl (lv_at hl 2 rfl) ?_
          have hPc := hP.sub (ws' := []) [] rfl
          have hKc := hK.sub (tys' := []) [] rfl
          refine vp_callSl (va_Run.run (va_runV (As := [.long (0 : Int64)]) (rest := []) ⟨hx, hb, hml, hown, hts⟩ (k_X9_meant_2 l dC dI mo (0 : Int64) (by decide) (by decide)) (cwV 1 hts gX9_block_X9_meant rfl rfl rfl (by decide +kernel) ⟨Nat.le_of_ble_eq_true rfl, Nat.le_of_ble_eq_true rfl⟩) ⟨fun a U g mk q => by obtain ⟨q0, qP, qK⟩ := q; exact ⟨q0, qP, va_K.moved (u := U) (U := U.calling g mk a) (Vm.Alike.refl U.vm) qK⟩, va_recv hK hP (ci := 11) (q := (RX9, TX9, 38)) rfl (q0 := 0) rfl, fun U hU hW => ⟨rfl, by rw [hU]; exact hPc, va_K.moved hW.alike hKc⟩⟩ rfl rfl hl.1 rfl (lv_room (Nat.le_of_ble_eq_true rfl)) dX9_block_55 ⟨Nat.le_of_ble_eq_true rfl, Nat.le_of_ble_eq_true rfl⟩)) (fun r_7 er_7 => ?_)
          subst er_7
          refine lv_lstore (lv' := [(4, .long (0 : Int64)), (0, .ref mo), (1, .int p0), (2, .long (0 : Int64))]) hx hb dX9_block_58 hl (by decide) rfl (fun ls hl => ?_)
          refine lv_lload hx hb dX9_block_60 (lv_at hl 0 rfl) ?_
          refine lv_lconst (v := 0) hx hb dX9_block_62 (by decide) ?_
          refine W.lcmp hx hb dX9_block_63 ?_
          refine lv_if_ne (tgt := 71) hx hb dX9_block_64 (by decide) (fun c_8 => ?_) (fun c_8 => ?_)
          · skip
            exact absurd (by decide) c_8
          · skip
            refine lv_iconst (v := (-1)) hx hb dX9_block_67 (by decide) ?_
            refine lv_goto (tgt := 81) hx hb dX9_block_68 (by decide) ?_
            refine lv_istore (lv' := [(6, .int (-1 : Int32)), (4, .long (0 : Int64)), (0, .ref mo), (1, .int p0), (2, .long (0 : Int64))]) hx hb dX9_block_81 hl (by decide) rfl (fun ls hl => ?_)
            refine lv_iload hx hb dX9_block_83 (lv_at hl 0 rfl) ?_
            refine lv_iconst (v := (-1)) hx hb dX9_block_85 (by decide) ?_
            refine lv_icmp_ne (tgt := 110) hx hb dX9_block_86 (by decide) (fun c_9 => ?_) (fun c_9 => ?_)
            · skip
              exact absurd (by decide) c_9
            · skip
              refine lv_aload_n hx hb dX9_block_89 rfl (lv_at hl 2 rfl) ?_
              refine va_get (D := (dC, dI)) (ci := 11) (v := .int (0 : Int32)) (C := RX9) (T := TX9) (N := 38) hx hb hts (by decide +kernel) hown hK hP 0 rfl rfl 24 (by decide) (hts (.fieldLink RX9 189 "BlockLogModel" "hasBase" "Z") (by decide +kernel)) (fun _ h9 => h9) rfl dX9_block_90 ?_
              refine lv_if_eq (tgt := 110) hx hb dX9_block_93 (by decide) (fun c_10 => ?_) (fun c_10 => ?_)
              · skip
                refine lv_iconst (v := 0) hx hb dX9_block_110 (by decide) ?_
                refine lv_istore (lv' := [(7, .int (0 : Int32)), (6, .int (-1 : Int32)), (4, .long (0 : Int64)), (0, .ref mo), (1, .int p0), (2, .long (0 : Int64))]) hx hb dX9_block_111 hl (by decide) rfl (fun ls hl => ?_)
                refine lv_lload hx hb dX9_block_113 (lv_at hl 2 rfl) ?_
                refine lv_lconst (v := 0) hx hb dX9_block_115 (by decide) ?_
                refine W.lcmp hx hb dX9_block_116 ?_
                refine lv_if_ne (tgt := 131) hx hb dX9_block_117 (by decide) (fun c_11 => ?_) (fun c_11 => ?_)
                · skip
                  exact absurd (by decide) c_11
                · skip
                  refine lv_aload_n hx hb dX9_block_120 rfl (lv_at hl 3 rfl) ?_
                  refine va_get (D := (dC, dI)) (ci := 11) (v := .int (0 : Int32)) (C := RX9) (T := TX9) (N := 38) hx hb hts (by decide +kernel) hown hK hP 0 rfl rfl 24 (by decide) (hts (.fieldLink RX9 189 "BlockLogModel" "hasBase" "Z") (by decide +kernel)) (fun _ h9 => h9) rfl dX9_block_121 ?_
                  refine lv_if_ne (tgt := 131) hx hb dX9_block_124 (by decide) (fun c_12 => ?_) (fun c_12 => ?_)
                  · skip
                    exact absurd (by decide) c_12
                  · skip
                    refine lv_iconst (v := 1) hx hb dX9_block_127 (by decide) ?_
                    refine lv_goto (tgt := 132) hx hb dX9_block_128 (by decide) ?_
                    refine lv_istore (lv' := [(8, .int (1 : Int32)), (7, .int (0 : Int32)), (6, .int (-1 : Int32)), (4, .long (0 : Int64)), (0, .ref mo), (1, .int p0), (2, .long (0 : Int64))]) hx hb dX9_block_132 hl (by decide) rfl (fun ls hl => ?_)
                    refine lv_iload hx hb dX9_block_134 (lv_at hl 2 rfl) ?_
                    refine lv_iconst (v := (-1)) hx hb dX9_block_136 (by decide) ?_
                    refine lv_icmp_ne (tgt := 153) hx hb dX9_block_137 (by decide) (fun c_13 => ?_) (fun c_13 => ?_)
                    · skip
                      exact absurd (by decide) c_13
                    · skip
                      refine lv_iload hx hb dX9_block_140 (lv_at hl 1 rfl) ?_
                      refine lv_if_ne (tgt := 153) hx hb dX9_block_142 (by decide) (fun c_14 => ?_) (fun c_14 => ?_)
                      · skip
                        exact absurd (by decide) c_14
                      · skip
                        refine lv_iload hx hb dX9_block_145 (lv_at hl 0 rfl) ?_
                        refine lv_if_ne (tgt := 153) hx hb dX9_block_147 (by decide) (fun c_15 => ?_) (fun c_15 => ?_)
                        · skip
                          refine lv_iload hx hb dX9_block_153 (lv_at hl 2 rfl) ?_
                          refine lv_iconst (v := (-1)) hx hb dX9_block_155 (by decide) ?_
                          refine lv_icmp_eq (tgt := 168) hx hb dX9_block_156 (by decide) (fun c_16 => ?_) (fun c_16 => ?_)
                          · skip
                            refine lv_iload hx hb dX9_block_168 (lv_at hl 1 rfl) ?_
                            refine lv_if_eq (tgt := 180) hx hb dX9_block_170 (by decide) (fun c_17 => ?_) (fun c_17 => ?_)
                            · skip
                              refine lv_iconst (v := 0) hx hb dX9_block_180 (by decide) ?_
                              refine lv_istore (lv' := [(9, .int (0 : Int32)), (8, .int (1 : Int32)), (7, .int (0 : Int32)), (6, .int (-1 : Int32)), (4, .long (0 : Int64)), (0, .ref mo), (1, .int p0), (2, .long (0 : Int64))]) hx hb dX9_block_181 hl (by decide) rfl (fun ls hl => ?_)
                              refine lv_iload_n hx hb dX9_block_183 rfl (lv_at hl 6 rfl) ?_
                              refine lv_iload hx hb dX9_block_184 (lv_at hl 0 rfl) ?_
                              refine lv_iconst (v := 1) hx hb dX9_block_186 (by decide) ?_
                              refine lv_iadd hx hb dX9_block_187 ?_
                              refine lv_icmp_eq (tgt := 194) hx hb dX9_block_188 (by decide) (fun c_18 => ?_) (fun c_18 => ?_)
                              · skip
                                exact absurd c_18 hf2
                              · skip
                                refine lv_bipush (v := (-10)) hx hb dX9_block_191 (by decide) ?_
                                have hP := hP.sub (ws' := [(mo, .inr (11, [.ref m_disk, .int (nI P), .int ((8224 : Int32) + ((26 : Int32) * (nI P))), .int (1 : Int32), .int 0, .int (-1 : Int32), .int 0, .int (0 : Int32), .ref m_tape, .int 0, .ref m_slots, .ref m_leaves, .int 0, .int 0, .ref m_fresh, .int 0, .int (0 : Int32), .int (0 : Int32), .ref m_digestAt, .ref m_isGroup, .ref m_counts, .int (-1 : Int32), .int (0 : Int32), .long (0 : Int64), .int (0 : Int32), .ref m_versionRow, .int (0 : Int32), .long (0 : Int64), .ref m_state, .ref m_names, .int 0, .ref m_keptRow, .int 0, .ref m_inSlot, .ref m_inAt, .ref m_inSize, .ref m_inDigest, .int 0]))]) [0] rfl
                                have hD := hD.sub (ws' := [(mo, .inr (11, [.ref m_disk, .int (nI P), .int ((8224 : Int32) + ((26 : Int32) * (nI P))), .int (1 : Int32), .int 0, .int (-1 : Int32), .int 0, .int (0 : Int32), .ref m_tape, .int 0, .ref m_slots, .ref m_leaves, .int 0, .int 0, .ref m_fresh, .int 0, .int (0 : Int32), .int (0 : Int32), .ref m_digestAt, .ref m_isGroup, .ref m_counts, .int (-1 : Int32), .int (0 : Int32), .long (0 : Int64), .int (0 : Int32), .ref m_versionRow, .int (0 : Int32), .long (0 : Int64), .ref m_state, .ref m_names, .int 0, .ref m_keptRow, .int 0, .ref m_inSlot, .ref m_inAt, .ref m_inSize, .ref m_inDigest, .int 0]))]) [0] (by decide) rfl
                                have hK := hK.sub (tys' := [(d_digestAt, .long), (d_isGroup, .boolean), (d_counts, .boolean)]) [0, 1, 2] rfl
                                exact W.iret hx hb hr (fun t ht hW => ⟨⟨_, (), rfl, rfl, by rw [ht]; exact hP, va_K.moved hW.alike hK, hD⟩, hS.F ht⟩) hS.2.2 dX9_block_193
                            · skip
                              exact absurd (by decide) c_17
                          · skip
                            exact absurd (by decide) c_16
                        · skip
                          exact absurd c_15 (by decide)
              · skip
                exact absurd (by decide) c_10
        · skip
          exact absurd (by decide) c_6
      · skip
        exact absurd (by decide) c_4
    · skip
      exact absurd c_3 (by decide)
  · skip
    exact absurd c_1 (by decide)

set_option maxHeartbeats 4000000 in
set_option maxRecDepth 100000 in
theorem k_X8_block_6 (l : Launch) (dC : Nat → ClassId) (dI : Nat → Nat → Nat) (x : Nat) (p0 : Int32) (w1 : Int64) (rr : Nat) (ds : Nat) (so : Nat) (tp : Nat) (pu : Nat) (sn : Nat) (im : Nat) (cs : Nat) (cl : Nat) (ri : Nat) (pg : Int32) (dl : Nat) (dr : Nat) (dt : Nat) (s1 : Nat) (s2 : Nat) (s3 : Nat) (s4 : Nat) (s5 : Nat) (s6 : Nat) (hf0 : 1 ≤ p0) (hf1 : p0 ≤ 1000000) (hf2 : lg_cmp w1 (0) < 0) (hf3 : 0 ≤ lg_cmp w1 (-128)) (hf4 : ¬ p0 = 1) : Met l yX8_block wsX8_block ({ frames := 2, cells := 0, slots := 0, locals := 43 }) (va_Pc [.ref x, .int p0, .long w1] (fun U => va_P (dC, dI) vwCl [(x, .inr (10, [.ref tp, .ref ds, .ref rr, .ref so, .ref pu, .ref sn, .ref im, .ref cs, .ref cl, .int (0 : Int32)])), (rr, .inr (6, [.ref ds, .ref ri, .int 0, .int 1, .int 0, .int 0])), (ds, .inr (3, [.int pg, .ref dl, .ref dr, .ref dt, .int (1 : Int32), .int (-1 : Int32), .int (0 : Int32)])), (so, .inr (8, [.ref rr, .ref s1, .ref s2, .ref s3, .ref s4, .ref s5, .ref s6, .int (0 : Int32), .int (0 : Int32), .int (-1 : Int32), .int (0 : Int32), .int (0 : Int32)]))] U.heap ∧ va_K (dC, dI) vwCl [] U ∧ gx_W U)) (vp_Si (fun r => r = (-10 : Int32))) 0 0 (fun _ => False) := by
  refine Met.ofW (cc := cX8_block) (maxL := 9) (ret := (some .int)) (by decide) rfl ?_
  intro p e s m args below meth c s₁ B hml hv
  obtain ⟨rfl, hP, hK, hG⟩ := hv
  have hx := B.exec
  have hb := B.bytes
  have hr := B.returns
  have hts := atoms_spec (ws := wsX8_block) B.pre
  have hown : s.vm.findClass RX8 = some m.cls := findClass_of_methodNamed B.named
  have hlocks := B.notSynchronized
  have hl := lv_entry ([.ref x, .int p0, .long w1]) (n := 9) (Nat.le_of_ble_eq_true rfl)
  rw [lg_entry_eq]
  generalize (lg_sl ([.ref x, .int p0, .long w1]) ++ List.replicate (9 - (lg_sl ([.ref x, .int p0, .long w1])).length) Slot.unset).toArray = ls at hl ⊢
  have hl : lv_has ls 9 [(0, .ref x), (1, .int p0), (2, .long w1)] := hl
  refine lv_aload_n hx hb dX8_block_0 rfl (lv_at hl 0 rfl) ?_
  have hPc := hP.sub (ws' := [(x, .inr (10, [.ref tp, .ref ds, .ref rr, .ref so, .ref pu, .ref sn, .ref im, .ref cs, .ref cl, .int (0 : Int32)])), (ds, .inr (3, [.int pg, .ref dl, .ref dr, .ref dt, .int (1 : Int32), .int (-1 : Int32), .int (0 : Int32)]))]) [0, 2] rfl
  have hKc := hK.sub (tys' := []) [] rfl
  refine va_csv (va_Run.run (va_runV (As := []) (rest := []) ⟨hx, hb, hml, hown, hts⟩ (k_X8_demandPower_1 l dC dI x ds tp rr so pu sn im cs cl pg dl dr dt) (cwV 0 hts gX8_block_X8_demandPower rfl rfl rfl (by decide +kernel) ⟨Nat.le_of_ble_eq_true rfl, Nat.le_of_ble_eq_true rfl⟩) ⟨fun a U g mk q => by obtain ⟨q0, qP, qK, qG⟩ := q; exact ⟨q0, qP, va_K.moved (u := U) (U := U.calling g mk a) (Vm.Alike.refl U.vm) qK, qG.same rfl⟩, va_recv hK hP (ci := 10) (q := (RX8, TX8, 10)) rfl (q0 := 0) rfl, fun U hU hW => ⟨rfl, by rw [hU]; exact hPc, va_K.moved hW.alike hKc, hG.warm hW⟩⟩ rfl rfl hl.1 rfl (lv_room (Nat.le_of_ble_eq_true rfl)) dX8_block_1 ⟨Nat.le_of_ble_eq_true rfl, Nat.le_of_ble_eq_true rfl⟩)) (fun _ => ?_)
  refine lv_iload_n hx hb dX8_block_4 rfl (lv_at hl 1 rfl) ?_
  have hPc := hP.sub (ws' := []) [] rfl
  have hKc := hK.sub (tys' := []) [] rfl
  refine va_csv (va_Run.run (va_runS (As := [.int p0]) (rest := []) ⟨hx, hb, hml, hown, hts⟩ (k_X8_demandHeight_3 l dC dI p0 hf0 hf1) (va_cwS 1 hts gX8_block_X8_demandHeight rfl rfl rfl (by decide +kernel) ⟨Nat.le_of_ble_eq_true rfl, Nat.le_of_ble_eq_true rfl⟩) ⟨fun a U g mk q => by obtain ⟨q0, qP, qK⟩ := q; exact ⟨q0, qP, va_K.moved (u := U) (U := U.calling g mk a) (Vm.Alike.refl U.vm) qK⟩, fun U hU hW => ⟨rfl, by rw [hU]; exact hPc, va_K.moved hW.alike hKc⟩⟩ rfl rfl hl.1 rfl (lv_room (Nat.le_of_ble_eq_true rfl)) dX8_block_5 ⟨Nat.le_of_ble_eq_true rfl, Nat.le_of_ble_eq_true rfl⟩)) (fun _ => ?_)
  refine lv_aload_n hx hb dX8_block_8 rfl (lv_at hl 0 rfl) ?_
  refine va_get (D := (dC, dI)) (ci := 10) (v := .ref rr) (C := RX8) (T := TX8) (N := 10) hx hb hts (by decide +kernel) hown hK hP 0 rfl rfl 2 (by decide) (hts (.fieldLink RX8 31 "BlockLog" "rows" "LBlockLog$Rows;") (by decide +kernel)) (fun _ h9 => h9) rfl dX8_block_9 ?_
  have hPc := hP.sub (ws' := [(rr, .inr (6, [.ref ds, .ref ri, .int 0, .int 1, .int 0, .int 0]))]) [1] rfl
  have hKc := hK.sub (tys' := []) [] rfl
  refine vp_callSi (va_Run.run (va_runV (As := []) (rest := []) ⟨hx, hb, hml, hown, hts⟩ (k_X4_inNeed_1 l dC dI rr ds ri) (cwV 0 hts gX8_block_X4_inNeed rfl rfl rfl (by decide +kernel) ⟨Nat.le_of_ble_eq_true rfl, Nat.le_of_ble_eq_true rfl⟩) ⟨fun a U g mk q => by obtain ⟨q0, qP, qK⟩ := q; exact ⟨q0, qP, va_K.moved (u := U) (U := U.calling g mk a) (Vm.Alike.refl U.vm) qK⟩, va_recv hK hP (ci := 6) (q := (RX4, TX4, 6)) rfl (q0 := 1) rfl, fun U hU hW => ⟨rfl, by rw [hU]; exact hPc, va_K.moved hW.alike hKc⟩⟩ rfl rfl hl.1 rfl (lv_room (Nat.le_of_ble_eq_true rfl)) dX8_block_12 ⟨Nat.le_of_ble_eq_true rfl, Nat.le_of_ble_eq_true rfl⟩)) (fun r_3 er_3 => ?_)
  subst er_3
  refine lv_if_eq (tgt := 21) hx hb dX8_block_15 (by decide) (fun c_4 => ?_) (fun c_4 => ?_)
  · skip
    refine lv_aload_n hx hb dX8_block_21 rfl (lv_at hl 0 rfl) ?_
    refine va_get (D := (dC, dI)) (ci := 10) (v := .ref so) (C := RX8) (T := TX8) (N := 10) hx hb hts (by decide +kernel) hown hK hP 0 rfl rfl 3 (by decide) (hts (.fieldLink RX8 40 "BlockLog" "story" "LBlockLog$Story;") (by decide +kernel)) (fun _ h9 => h9) rfl dX8_block_22 ?_
    refine lv_lload_n hx hb dX8_block_25 rfl (lv_at hl 2 rfl) ?_
    have hPc := hP.sub (ws' := [(so, .inr (8, [.ref rr, .ref s1, .ref s2, .ref s3, .ref s4, .ref s5, .ref s6, .int (0 : Int32), .int (0 : Int32), .int (-1 : Int32), .int (0 : Int32), .int (0 : Int32)]))]) [3] rfl
    have hKc := hK.sub (tys' := []) [] rfl
    refine vp_callSl (va_Run.run (va_runV (As := [.long w1]) (rest := []) ⟨hx, hb, hml, hown, hts⟩ (k_X6_meant_1 l dC dI so w1 rr s1 s2 s3 s4 s5 s6 hf2 hf3) (cwV 1 hts gX8_block_X6_meant rfl rfl rfl (by decide +kernel) ⟨Nat.le_of_ble_eq_true rfl, Nat.le_of_ble_eq_true rfl⟩) ⟨fun a U g mk q => by obtain ⟨q0, qP, qK⟩ := q; exact ⟨q0, qP, va_K.moved (u := U) (U := U.calling g mk a) (Vm.Alike.refl U.vm) qK⟩, va_recv hK hP (ci := 8) (q := (RX6, TX6, 12)) rfl (q0 := 3) rfl, fun U hU hW => ⟨rfl, by rw [hU]; exact hPc, va_K.moved hW.alike hKc⟩⟩ rfl rfl hl.1 rfl (lv_room (Nat.le_of_ble_eq_true rfl)) dX8_block_26 ⟨Nat.le_of_ble_eq_true rfl, Nat.le_of_ble_eq_true rfl⟩)) (fun r_5 er_5 => ?_)
    subst er_5
    refine lv_lstore (lv' := [(4, .long (0 : Int64)), (0, .ref x), (1, .int p0), (2, .long w1)]) hx hb dX8_block_29 hl (by decide) rfl (fun ls hl => ?_)
    refine lv_aload_n hx hb dX8_block_31 rfl (lv_at hl 1 rfl) ?_
    refine va_get (D := (dC, dI)) (ci := 10) (v := .ref so) (C := RX8) (T := TX8) (N := 10) hx hb hts (by decide +kernel) hown hK hP 0 rfl rfl 3 (by decide) (hts (.fieldLink RX8 40 "BlockLog" "story" "LBlockLog$Story;") (by decide +kernel)) (fun _ h9 => h9) rfl dX8_block_32 ?_
    refine lv_lload hx hb dX8_block_35 (lv_at hl 0 rfl) ?_
    have hPc := hP.sub (ws' := [(so, .inr (8, [.ref rr, .ref s1, .ref s2, .ref s3, .ref s4, .ref s5, .ref s6, .int (0 : Int32), .int (0 : Int32), .int (-1 : Int32), .int (0 : Int32), .int (0 : Int32)]))]) [3] rfl
    have hKc := hK.sub (tys' := []) [] rfl
    refine vp_callSi (va_Run.run (va_runV (As := [.long (0 : Int64)]) (rest := []) ⟨hx, hb, hml, hown, hts⟩ (k_X6_heightOfParent_2 l dC dI so rr s1 s2 s3 s4 s5 s6) (cwV 1 hts gX8_block_X6_heightOfParent rfl rfl rfl (by decide +kernel) ⟨Nat.le_of_ble_eq_true rfl, Nat.le_of_ble_eq_true rfl⟩) ⟨fun a U g mk q => by obtain ⟨q0, qP, qK⟩ := q; exact ⟨q0, qP, va_K.moved (u := U) (U := U.calling g mk a) (Vm.Alike.refl U.vm) qK⟩, va_recv hK hP (ci := 8) (q := (RX6, TX6, 12)) rfl (q0 := 3) rfl, fun U hU hW => ⟨rfl, by rw [hU]; exact hPc, va_K.moved hW.alike hKc⟩⟩ rfl rfl hl.1 rfl (lv_room (Nat.le_of_ble_eq_true rfl)) dX8_block_37 ⟨Nat.le_of_ble_eq_true rfl, Nat.le_of_ble_eq_true rfl⟩)) (fun r_6 er_6 => ?_)
    subst er_6
    refine lv_istore (lv' := [(6, .int (0 : Int32)), (4, .long (0 : Int64)), (0, .ref x), (1, .int p0), (2, .long w1)]) hx hb dX8_block_40 hl (by decide) rfl (fun ls hl => ?_)
    refine lv_iload hx hb dX8_block_42 (lv_at hl 0 rfl) ?_
    refine lv_iconst (v := (-1)) hx hb dX8_block_44 (by decide) ?_
    refine lv_icmp_ne (tgt := 51) hx hb dX8_block_45 (by decide) (fun c_7 => ?_) (fun c_7 => ?_)
    · skip
      refine lv_iload_n hx hb dX8_block_51 rfl (lv_at hl 3 rfl) ?_
      refine lv_iload hx hb dX8_block_52 (lv_at hl 0 rfl) ?_
      refine lv_iconst (v := 1) hx hb dX8_block_54 (by decide) ?_
      refine lv_iadd hx hb dX8_block_55 ?_
      refine lv_icmp_eq (tgt := 62) hx hb dX8_block_56 (by decide) (fun c_8 => ?_) (fun c_8 => ?_)
      · skip
        exact absurd c_8 hf4
      · skip
        refine lv_bipush (v := (-10)) hx hb dX8_block_59 (by decide) ?_
        exact W.iret hx hb hr (fun t ht hW => ⟨_, rfl, rfl, ht⟩) (fun q h => by cases h) dX8_block_61
    · skip
      exact absurd c_7 (by decide)
  · skip
    exact absurd (by decide) c_4

set_option maxHeartbeats 4000000 in
set_option maxRecDepth 100000 in
theorem k_L_block_6 (l : Launch) (dC : Nat → ClassId) (dI : Nat → Nat → Nat) (x : Nat) (p0 : Int32) (w1 : Int64) (ho : Nat) (rr : Nat) (ds : Nat) (so : Nat) (tp : Nat) (pu : Nat) (sn : Nat) (im : Nat) (cs : Nat) (cl : Nat) (ri : Nat) (pg : Int32) (dl : Nat) (dr : Nat) (dt : Nat) (s1 : Nat) (s2 : Nat) (s3 : Nat) (s4 : Nat) (s5 : Nat) (s6 : Nat) (cJ : ClassId) (g1 : Nat → Int64) (sz : Nat) (hf0 : 1 ≤ p0) (hf1 : p0 ≤ 1000000) (hf2 : lg_cmp w1 (0) < 0) (hf3 : 0 ≤ lg_cmp w1 (-128)) (hf4 : ¬ p0 = 1) : Met l yL_block wsL_block ({ frames := 3, cells := 0, slots := 0, locals := 71 }) (va_Pc [.ref x, .int p0, .long w1, .ref ho] (fun U => U.heap.size = sz ∧ va_P (dC, dI) vwCl [(x, .inr (10, [.ref tp, .ref ds, .ref rr, .ref so, .ref pu, .ref sn, .ref im, .ref cs, .ref cl, .int (0 : Int32)])), (rr, .inr (6, [.ref ds, .ref ri, .int 0, .int 1, .int 0, .int 0])), (ds, .inr (3, [.int pg, .ref dl, .ref dr, .ref dt, .int (1 : Int32), .int (-1 : Int32), .int (0 : Int32)])), (so, .inr (8, [.ref rr, .ref s1, .ref s2, .ref s3, .ref s4, .ref s5, .ref s6, .int (0 : Int32), .int (0 : Int32), .int (-1 : Int32), .int (0 : Int32), .int (0 : Int32)])), (ho, .inl (cJ, 1, .inr (.inl g1)))] U.heap ∧ va_K (dC, dI) vwCl [(cJ, .long)] U ∧ va_D (fun _ => True) [(x, .inr (10, [.ref tp, .ref ds, .ref rr, .ref so, .ref pu, .ref sn, .ref im, .ref cs, .ref cl, .int (0 : Int32)])), (rr, .inr (6, [.ref ds, .ref ri, .int 0, .int 1, .int 0, .int 0])), (ds, .inr (3, [.int pg, .ref dl, .ref dr, .ref dt, .int (1 : Int32), .int (-1 : Int32), .int (0 : Int32)])), (so, .inr (8, [.ref rr, .ref s1, .ref s2, .ref s3, .ref s4, .ref s5, .ref s6, .int (0 : Int32), .int (0 : Int32), .int (-1 : Int32), .int (0 : Int32), .int (0 : Int32)])), (ho, .inl (cJ, 1, .inr (.inl g1)))] ∧ gx_E (va_A [(x, .inr (10, [.ref tp, .ref ds, .ref rr, .ref so, .ref pu, .ref sn, .ref im, .ref cs, .ref cl, .int (0 : Int32)])), (rr, .inr (6, [.ref ds, .ref ri, .int 0, .int 1, .int 0, .int 0])), (ds, .inr (3, [.int pg, .ref dl, .ref dr, .ref dt, .int (1 : Int32), .int (-1 : Int32), .int (0 : Int32)])), (so, .inr (8, [.ref rr, .ref s1, .ref s2, .ref s3, .ref s4, .ref s5, .ref s6, .int (0 : Int32), .int (0 : Int32), .int (-1 : Int32), .int (0 : Int32), .int (0 : Int32)])), (ho, .inl (cJ, 1, .inr (.inl g1)))] sz) U)) (va_Qi (fun r (_ : Unit) => r = (0 : Int32)) (fun (_ : Unit) t => va_P (dC, dI) vwCl [(ho, .inl (cJ, 1, .inr (.inl (vp_updL g1 (0 : Int32).toNatClampNeg ((-10 : Int32).toInt64)))))] t.heap ∧ va_K (dC, dI) vwCl [(cJ, .long)] t ∧ va_D (va_A [(x, .inr (10, [.ref tp, .ref ds, .ref rr, .ref so, .ref pu, .ref sn, .ref im, .ref cs, .ref cl, .int (0 : Int32)])), (rr, .inr (6, [.ref ds, .ref ri, .int 0, .int 1, .int 0, .int 0])), (ds, .inr (3, [.int pg, .ref dl, .ref dr, .ref dt, .int (1 : Int32), .int (-1 : Int32), .int (0 : Int32)])), (so, .inr (8, [.ref rr, .ref s1, .ref s2, .ref s3, .ref s4, .ref s5, .ref s6, .int (0 : Int32), .int (0 : Int32), .int (-1 : Int32), .int (0 : Int32), .int (0 : Int32)])), (ho, .inl (cJ, 1, .inr (.inl g1)))] sz) [(ho, .inl (cJ, 1, .inr (.inl (vp_updL g1 (0 : Int32).toNatClampNeg ((-10 : Int32).toInt64)))))]) (va_A [(x, .inr (10, [.ref tp, .ref ds, .ref rr, .ref so, .ref pu, .ref sn, .ref im, .ref cs, .ref cl, .int (0 : Int32)])), (rr, .inr (6, [.ref ds, .ref ri, .int 0, .int 1, .int 0, .int 0])), (ds, .inr (3, [.int pg, .ref dl, .ref dr, .ref dt, .int (1 : Int32), .int (-1 : Int32), .int (0 : Int32)])), (so, .inr (8, [.ref rr, .ref s1, .ref s2, .ref s3, .ref s4, .ref s5, .ref s6, .int (0 : Int32), .int (0 : Int32), .int (-1 : Int32), .int (0 : Int32), .int (0 : Int32)])), (ho, .inl (cJ, 1, .inr (.inl g1)))] sz)) 0 0 (va_A [(x, .inr (10, [.ref tp, .ref ds, .ref rr, .ref so, .ref pu, .ref sn, .ref im, .ref cs, .ref cl, .int (0 : Int32)])), (rr, .inr (6, [.ref ds, .ref ri, .int 0, .int 1, .int 0, .int 0])), (ds, .inr (3, [.int pg, .ref dl, .ref dr, .ref dt, .int (1 : Int32), .int (-1 : Int32), .int (0 : Int32)])), (so, .inr (8, [.ref rr, .ref s1, .ref s2, .ref s3, .ref s4, .ref s5, .ref s6, .int (0 : Int32), .int (0 : Int32), .int (-1 : Int32), .int (0 : Int32), .int (0 : Int32)])), (ho, .inl (cJ, 1, .inr (.inl g1)))] sz) := by
  refine va_MetW (cc := cL_block) (maxL := 6) (ret := (some .int)) (hh := [(0, 11, 14, 25), (0, 11, 18, 13)]) (by decide) rfl ?_
  intro p e s m args below meth c s₁ B hml hv
  obtain ⟨rfl, hsz, hP, hK, hD0, hG⟩ := hv
  have hx := B.exec
  have hb := B.bytes
  have hr := B.returns
  have hts := atoms_spec (ws := wsL_block) B.pre
  have hown : s.vm.findClass RL = some m.cls := findClass_of_methodNamed B.named
  have hlocks := B.notSynchronized
  have htab := vx_table (x := yL_block) B (hts (.codeWith yL_block cL_block 6 (some .int) [(0, 11, 14, 25), (0, 11, 18, 13)]) List.mem_cons_self)
  subst hsz
  have hD := hD0.self (sz := s.heap.size)
  generalize hAe : va_A [(x, .inr (10, [.ref tp, .ref ds, .ref rr, .ref so, .ref pu, .ref sn, .ref im, .ref cs, .ref cl, .int (0 : Int32)])), (rr, .inr (6, [.ref ds, .ref ri, .int 0, .int 1, .int 0, .int 0])), (ds, .inr (3, [.int pg, .ref dl, .ref dr, .ref dt, .int (1 : Int32), .int (-1 : Int32), .int (0 : Int32)])), (so, .inr (8, [.ref rr, .ref s1, .ref s2, .ref s3, .ref s4, .ref s5, .ref s6, .int (0 : Int32), .int (0 : Int32), .int (-1 : Int32), .int (0 : Int32), .int (0 : Int32)])), (ho, .inl (cJ, 1, .inr (.inl g1)))] s.heap.size = A at hD hG ⊢
  have hA : ∀ q : Nat, s.heap.size ≤ q → A q := fun q h => by rw [← hAe]; exact Or.inr h
  have hS : va_S A s.heap s.heap [] := va_S.rf
  have hl := lv_entry ([.ref x, .int p0, .long w1, .ref ho]) (n := 6) (Nat.le_of_ble_eq_true rfl)
  rw [lg_entry_eq]
  generalize (lg_sl ([.ref x, .int p0, .long w1, .ref ho]) ++ List.replicate (6 - (lg_sl ([.ref x, .int p0, .long w1, .ref ho])).length) Slot.unset).toArray = ls at hl ⊢
  have hl : lv_has ls 6 [(0, .ref x), (1, .int p0), (2, .long w1), (4, .ref ho)] := hl
  refine lv_aload hx hb dL_block_0 (lv_at hl 3 rfl) ?_
  refine lv_iconst (v := 0) hx hb dL_block_2 (by decide) ?_
  refine lv_aload_n hx hb dL_block_3 rfl (lv_at hl 0 rfl) ?_
  refine lv_iload_n hx hb dL_block_4 rfl (lv_at hl 1 rfl) ?_
  refine lv_lload_n hx hb dL_block_5 rfl (lv_at hl 2 rfl) ?_
  have hPc := hP.sub (ws' := [(x, .inr (10, [.ref tp, .ref ds, .ref rr, .ref so, .ref pu, .ref sn, .ref im, .ref cs, .ref cl, .int (0 : Int32)])), (rr, .inr (6, [.ref ds, .ref ri, .int 0, .int 1, .int 0, .int 0])), (ds, .inr (3, [.int pg, .ref dl, .ref dr, .ref dt, .int (1 : Int32), .int (-1 : Int32), .int (0 : Int32)])), (so, .inr (8, [.ref rr, .ref s1, .ref s2, .ref s3, .ref s4, .ref s5, .ref s6, .int (0 : Int32), .int (0 : Int32), .int (-1 : Int32), .int (0 : Int32), .int (0 : Int32)]))]) [0, 1, 2, 3] rfl
  have hKc := hK.sub (tys' := []) [] rfl
  refine vp_callSi (va_Run.run (va_runV (As := [.int p0, .long w1]) (rest := [.int (0 : Int32), .ref ho]) ⟨hx, hb, hml, hown, hts⟩ (k_X8_block_6 l dC dI x p0 w1 rr ds so tp pu sn im cs cl ri pg dl dr dt s1 s2 s3 s4 s5 s6 hf0 hf1 hf2 hf3 hf4) (cwV 2 hts gL_block_X8_block rfl rfl rfl (by decide +kernel) ⟨Nat.le_of_ble_eq_true rfl, Nat.le_of_ble_eq_true rfl⟩) ⟨fun a U g mk q => by obtain ⟨q0, qP, qK, qG⟩ := q; exact ⟨q0, qP, va_K.moved (u := U) (U := U.calling g mk a) (Vm.Alike.refl U.vm) qK, qG.same rfl⟩, va_recv hK hP (ci := 10) (q := (RX8, TX8, 10)) rfl (q0 := 0) rfl, fun U hU hW => ⟨rfl, by rw [hU]; exact hPc, va_K.moved hW.alike hKc, hG.1.warm hW⟩⟩ rfl rfl hl.1 rfl (lv_room (Nat.le_of_ble_eq_true rfl)) dL_block_6 ⟨Nat.le_of_ble_eq_true rfl, Nat.le_of_ble_eq_true rfl⟩)) (fun r_1 er_1 => ?_)
  subst er_1
  refine lv_i2l hx hb dL_block_9 rfl ?_
  refine va_last hx hb hK hP hD hS 4 0 rfl rfl (by unfold vp_in; decide +kernel) dL_block_10 (fun H locs hP hD hS => ?_)
  have hP : va_P (dC, dI) vwCl [(x, .inr (10, [.ref tp, .ref ds, .ref rr, .ref so, .ref pu, .ref sn, .ref im, .ref cs, .ref cl, .int (0 : Int32)])), (rr, .inr (6, [.ref ds, .ref ri, .int 0, .int 1, .int 0, .int 0])), (ds, .inr (3, [.int pg, .ref dl, .ref dr, .ref dt, .int (1 : Int32), .int (-1 : Int32), .int (0 : Int32)])), (so, .inr (8, [.ref rr, .ref s1, .ref s2, .ref s3, .ref s4, .ref s5, .ref s6, .int (0 : Int32), .int (0 : Int32), .int (-1 : Int32), .int (0 : Int32), .int (0 : Int32)])), (ho, .inl (cJ, 1, .inr (.inl (vp_updL g1 (0 : Int32).toNatClampNeg ((-10 : Int32).toInt64)))))] H := hP
  have hD : va_D A [(x, .inr (10, [.ref tp, .ref ds, .ref rr, .ref so, .ref pu, .ref sn, .ref im, .ref cs, .ref cl, .int (0 : Int32)])), (rr, .inr (6, [.ref ds, .ref ri, .int 0, .int 1, .int 0, .int 0])), (ds, .inr (3, [.int pg, .ref dl, .ref dr, .ref dt, .int (1 : Int32), .int (-1 : Int32), .int (0 : Int32)])), (so, .inr (8, [.ref rr, .ref s1, .ref s2, .ref s3, .ref s4, .ref s5, .ref s6, .int (0 : Int32), .int (0 : Int32), .int (-1 : Int32), .int (0 : Int32), .int (0 : Int32)])), (ho, .inl (cJ, 1, .inr (.inl (vp_updL g1 (0 : Int32).toNatClampNeg ((-10 : Int32).toInt64)))))] := hD
  refine lv_goto (tgt := 22) hx hb dL_block_11 (by decide) ?_
  refine lv_iconst (v := 0) hx hb dL_block_22 (by decide) ?_
  have hP := hP.sub (ws' := [(ho, .inl (cJ, 1, .inr (.inl (vp_updL g1 (0 : Int32).toNatClampNeg ((-10 : Int32).toInt64)))))]) [4] rfl
  have hD := hD.sub (ws' := [(ho, .inl (cJ, 1, .inr (.inl (vp_updL g1 (0 : Int32).toNatClampNeg ((-10 : Int32).toInt64)))))]) [4] (by decide) rfl
  have hK := hK.sub (tys' := [(cJ, .long)]) [0] rfl
  exact W.iret hx hb hr (fun t ht hW => ⟨⟨_, (), rfl, rfl, by rw [ht]; exact hP, va_K.moved hW.alike hK, hD⟩, hS.F ht⟩) hS.2.2 dL_block_23

set_option maxHeartbeats 4000000 in
set_option maxRecDepth 100000 in
theorem k_X9_block_6 (l : Launch) (dC : Nat → ClassId) (dI : Nat → Nat → Nat) (mo : Nat) (p0 : Int32) (w1 : Int64) (m_digestAt : Nat) (m_isGroup : Nat) (m_counts : Nat) (m_disk : Nat) (P : Nat) (m_tape : Nat) (m_slots : Nat) (m_leaves : Nat) (m_fresh : Nat) (m_versionRow : Nat) (m_state : Nat) (m_names : Nat) (m_keptRow : Nat) (m_inSlot : Nat) (m_inAt : Nat) (m_inSize : Nat) (m_inDigest : Nat) (d_digestAt : ClassId) (d_isGroup : ClassId) (d_counts : ClassId) (sz : Nat) (hf0 : 1 ≤ p0) (hf1 : p0 ≤ 1000000) (hf2 : 0 ≤ lg_cmp w1 (-128)) (hf3 : lg_cmp w1 (-1) ≤ 0) (hf4 : 0 ≤ (-1 - w1).toInt32) (hf5 : ¬ p0 = 1) : Met l yX9_block wsX9_block ({ frames := 3, cells := 0, slots := 0, locals := 65 }) (va_Pc [.ref mo, .int p0, .long w1] (fun U => U.heap.size = sz ∧ va_P (dC, dI) vwCl [(mo, .inr (11, [.ref m_disk, .int (nI P), .int ((8224 : Int32) + ((26 : Int32) * (nI P))), .int (1 : Int32), .int 0, .int (-1 : Int32), .int 0, .int (0 : Int32), .ref m_tape, .int 0, .ref m_slots, .ref m_leaves, .int 0, .int 0, .ref m_fresh, .int 0, .int 0, .int 0, .ref m_digestAt, .ref m_isGroup, .ref m_counts, .int 0, .int 0, .long 0, .int 0, .ref m_versionRow, .int 0, .long 0, .ref m_state, .ref m_names, .int 0, .ref m_keptRow, .int 0, .ref m_inSlot, .ref m_inAt, .ref m_inSize, .ref m_inDigest, .int 0])), (m_digestAt, .inl (d_digestAt, 128, .inr (.inl (fun _ => 0)))), (m_isGroup, .inl (d_isGroup, 128, .inl (fun _ => 0))), (m_counts, .inl (d_counts, 128, .inl (fun _ => 0)))] U.heap ∧ va_K (dC, dI) vwCl [(d_digestAt, .long), (d_isGroup, .boolean), (d_counts, .boolean)] U ∧ va_D (fun _ => True) [(mo, .inr (11, [.ref m_disk, .int (nI P), .int ((8224 : Int32) + ((26 : Int32) * (nI P))), .int (1 : Int32), .int 0, .int (-1 : Int32), .int 0, .int (0 : Int32), .ref m_tape, .int 0, .ref m_slots, .ref m_leaves, .int 0, .int 0, .ref m_fresh, .int 0, .int 0, .int 0, .ref m_digestAt, .ref m_isGroup, .ref m_counts, .int 0, .int 0, .long 0, .int 0, .ref m_versionRow, .int 0, .long 0, .ref m_state, .ref m_names, .int 0, .ref m_keptRow, .int 0, .ref m_inSlot, .ref m_inAt, .ref m_inSize, .ref m_inDigest, .int 0])), (m_digestAt, .inl (d_digestAt, 128, .inr (.inl (fun _ => 0)))), (m_isGroup, .inl (d_isGroup, 128, .inl (fun _ => 0))), (m_counts, .inl (d_counts, 128, .inl (fun _ => 0)))])) (va_Qi (fun r (_ : Unit) => r = (-10 : Int32)) (fun (_ : Unit) t => va_P (dC, dI) vwCl [(mo, .inr (11, [.ref m_disk, .int (nI P), .int ((8224 : Int32) + ((26 : Int32) * (nI P))), .int (1 : Int32), .int 0, .int (-1 : Int32), .int 0, .int (0 : Int32), .ref m_tape, .int 0, .ref m_slots, .ref m_leaves, .int 0, .int 0, .ref m_fresh, .int 0, .int (0 : Int32), .int (0 : Int32), .ref m_digestAt, .ref m_isGroup, .ref m_counts, .int (-1 : Int32), .int (0 : Int32), .long (0 : Int64), .int (0 : Int32), .ref m_versionRow, .int (0 : Int32), .long (0 : Int64), .ref m_state, .ref m_names, .int 0, .ref m_keptRow, .int 0, .ref m_inSlot, .ref m_inAt, .ref m_inSize, .ref m_inDigest, .int 0]))] t.heap ∧ va_K (dC, dI) vwCl [(d_digestAt, .long), (d_isGroup, .boolean), (d_counts, .boolean)] t ∧ va_D (va_A [(mo, .inr (11, [.ref m_disk, .int (nI P), .int ((8224 : Int32) + ((26 : Int32) * (nI P))), .int (1 : Int32), .int 0, .int (-1 : Int32), .int 0, .int (0 : Int32), .ref m_tape, .int 0, .ref m_slots, .ref m_leaves, .int 0, .int 0, .ref m_fresh, .int 0, .int 0, .int 0, .ref m_digestAt, .ref m_isGroup, .ref m_counts, .int 0, .int 0, .long 0, .int 0, .ref m_versionRow, .int 0, .long 0, .ref m_state, .ref m_names, .int 0, .ref m_keptRow, .int 0, .ref m_inSlot, .ref m_inAt, .ref m_inSize, .ref m_inDigest, .int 0])), (m_digestAt, .inl (d_digestAt, 128, .inr (.inl (fun _ => 0)))), (m_isGroup, .inl (d_isGroup, 128, .inl (fun _ => 0))), (m_counts, .inl (d_counts, 128, .inl (fun _ => 0)))] sz) [(mo, .inr (11, [.ref m_disk, .int (nI P), .int ((8224 : Int32) + ((26 : Int32) * (nI P))), .int (1 : Int32), .int 0, .int (-1 : Int32), .int 0, .int (0 : Int32), .ref m_tape, .int 0, .ref m_slots, .ref m_leaves, .int 0, .int 0, .ref m_fresh, .int 0, .int (0 : Int32), .int (0 : Int32), .ref m_digestAt, .ref m_isGroup, .ref m_counts, .int (-1 : Int32), .int (0 : Int32), .long (0 : Int64), .int (0 : Int32), .ref m_versionRow, .int (0 : Int32), .long (0 : Int64), .ref m_state, .ref m_names, .int 0, .ref m_keptRow, .int 0, .ref m_inSlot, .ref m_inAt, .ref m_inSize, .ref m_inDigest, .int 0]))]) (va_A [(mo, .inr (11, [.ref m_disk, .int (nI P), .int ((8224 : Int32) + ((26 : Int32) * (nI P))), .int (1 : Int32), .int 0, .int (-1 : Int32), .int 0, .int (0 : Int32), .ref m_tape, .int 0, .ref m_slots, .ref m_leaves, .int 0, .int 0, .ref m_fresh, .int 0, .int 0, .int 0, .ref m_digestAt, .ref m_isGroup, .ref m_counts, .int 0, .int 0, .long 0, .int 0, .ref m_versionRow, .int 0, .long 0, .ref m_state, .ref m_names, .int 0, .ref m_keptRow, .int 0, .ref m_inSlot, .ref m_inAt, .ref m_inSize, .ref m_inDigest, .int 0])), (m_digestAt, .inl (d_digestAt, 128, .inr (.inl (fun _ => 0)))), (m_isGroup, .inl (d_isGroup, 128, .inl (fun _ => 0))), (m_counts, .inl (d_counts, 128, .inl (fun _ => 0)))] sz)) 0 0 (va_A [(mo, .inr (11, [.ref m_disk, .int (nI P), .int ((8224 : Int32) + ((26 : Int32) * (nI P))), .int (1 : Int32), .int 0, .int (-1 : Int32), .int 0, .int (0 : Int32), .ref m_tape, .int 0, .ref m_slots, .ref m_leaves, .int 0, .int 0, .ref m_fresh, .int 0, .int 0, .int 0, .ref m_digestAt, .ref m_isGroup, .ref m_counts, .int 0, .int 0, .long 0, .int 0, .ref m_versionRow, .int 0, .long 0, .ref m_state, .ref m_names, .int 0, .ref m_keptRow, .int 0, .ref m_inSlot, .ref m_inAt, .ref m_inSize, .ref m_inDigest, .int 0])), (m_digestAt, .inl (d_digestAt, 128, .inr (.inl (fun _ => 0)))), (m_isGroup, .inl (d_isGroup, 128, .inl (fun _ => 0))), (m_counts, .inl (d_counts, 128, .inl (fun _ => 0)))] sz) := by
  refine Met.ofW (cc := cX9_block) (maxL := 15) (ret := (some .int)) (by decide) rfl ?_
  intro p e s m args below meth c s₁ B hml hv
  obtain ⟨rfl, hsz, hP, hK, hD0⟩ := hv
  have hx := B.exec
  have hb := B.bytes
  have hr := B.returns
  have hts := atoms_spec (ws := wsX9_block) B.pre
  have hown : s.vm.findClass RX9 = some m.cls := findClass_of_methodNamed B.named
  have hlocks := B.notSynchronized
  subst hsz
  have hD := hD0.self (sz := s.heap.size)
  generalize hAe : va_A [(mo, .inr (11, [.ref m_disk, .int (nI P), .int ((8224 : Int32) + ((26 : Int32) * (nI P))), .int (1 : Int32), .int 0, .int (-1 : Int32), .int 0, .int (0 : Int32), .ref m_tape, .int 0, .ref m_slots, .ref m_leaves, .int 0, .int 0, .ref m_fresh, .int 0, .int 0, .int 0, .ref m_digestAt, .ref m_isGroup, .ref m_counts, .int 0, .int 0, .long 0, .int 0, .ref m_versionRow, .int 0, .long 0, .ref m_state, .ref m_names, .int 0, .ref m_keptRow, .int 0, .ref m_inSlot, .ref m_inAt, .ref m_inSize, .ref m_inDigest, .int 0])), (m_digestAt, .inl (d_digestAt, 128, .inr (.inl (fun _ => 0)))), (m_isGroup, .inl (d_isGroup, 128, .inl (fun _ => 0))), (m_counts, .inl (d_counts, 128, .inl (fun _ => 0)))] s.heap.size = A at hD ⊢
  have hA : ∀ q : Nat, s.heap.size ≤ q → A q := fun q h => by rw [← hAe]; exact Or.inr h
  have hS : va_S A s.heap s.heap [] := va_S.rf
  have hl := lv_entry ([.ref mo, .int p0, .long w1]) (n := 15) (Nat.le_of_ble_eq_true rfl)
  rw [lg_entry_eq]
  generalize (lg_sl ([.ref mo, .int p0, .long w1]) ++ List.replicate (15 - (lg_sl ([.ref mo, .int p0, .long w1])).length) Slot.unset).toArray = ls at hl ⊢
  have hl : lv_has ls 15 [(0, .ref mo), (1, .int p0), (2, .long w1)] := hl
  refine lv_aload_n hx hb dX9_block_0 rfl (lv_at hl 0 rfl) ?_
  refine lv_aload_n hx hb dX9_block_1 rfl (lv_at hl 0 rfl) ?_
  refine va_get (D := (dC, dI)) (ci := 11) (v := .int (1 : Int32)) (C := RX9) (T := TX9) (N := 38) hx hb hts (by decide +kernel) hown hK hP 0 rfl rfl 3 (by decide) (hts (.fieldLink RX9 72 "BlockLogModel" "on" "Z") (by decide +kernel)) (fun _ h9 => h9) rfl dX9_block_2 ?_
  refine lv_if_ne (tgt := 12) hx hb dX9_block_5 (by decide) (fun c_1 => ?_) (fun c_1 => ?_)
  · skip
    refine lv_iload_n hx hb dX9_block_12 rfl (lv_at hl 1 rfl) ?_
    refine lv_iconst (v := 1) hx hb dX9_block_13 (by decide) ?_
    refine lv_ldc hx hb hown (hts (.constant RX9 208 (1000000)) (by decide +kernel)) dX9_block_14 ?_
    have hPc := hP.sub (ws' := []) [] rfl
    have hKc := hK.sub (tys' := []) [] rfl
    refine vp_callSi (va_Run.run (va_runS (As := [.int p0, .int (1 : Int32), .int (1000000 : Int32)]) (rest := [.ref mo]) ⟨hx, hb, hml, hown, hts⟩ (k_X9_within_3 l dC dI p0 (1 : Int32) (1000000 : Int32) hf0 hf1) (va_cwS 3 hts gX9_block_X9_within rfl rfl rfl (by decide +kernel) ⟨Nat.le_of_ble_eq_true rfl, Nat.le_of_ble_eq_true rfl⟩) ⟨fun a U g mk q => by obtain ⟨q0, qP, qK⟩ := q; exact ⟨q0, qP, va_K.moved (u := U) (U := U.calling g mk a) (Vm.Alike.refl U.vm) qK⟩, fun U hU hW => ⟨rfl, by rw [hU]; exact hPc, va_K.moved hW.alike hKc⟩⟩ rfl rfl hl.1 rfl (lv_room (Nat.le_of_ble_eq_true rfl)) dX9_block_16 ⟨Nat.le_of_ble_eq_true rfl, Nat.le_of_ble_eq_true rfl⟩)) (fun r_2 er_2 => ?_)
    subst er_2
    refine lv_if_ne (tgt := 26) hx hb dX9_block_19 (by decide) (fun c_3 => ?_) (fun c_3 => ?_)
    · skip
      refine lv_iconst (v := 0) hx hb dX9_block_26 (by decide) ?_
      refine va_put (D := (dC, dI)) (ci := 11) (v := .int (0 : Int32)) (ty := .int) (C := RX9) (T := TX9) (N := 38) hx hb hts (by decide +kernel) tyX9 tyX9_ok nmX9 hown hK hP hD hS 0 rfl rfl 13 (by decide) (hts (.fieldLink RX9 91 "BlockLogModel" "thrown" "I") (by decide +kernel)) (fun _ h9 => h9) rfl (by decide +kernel) rfl rfl (Nat.le_of_ble_eq_true rfl) dX9_block_27 (fun H locs hP hD hS => ?_)
      have hP : va_P (dC, dI) vwCl [(mo, .inr (11, [.ref m_disk, .int (nI P), .int ((8224 : Int32) + ((26 : Int32) * (nI P))), .int (1 : Int32), .int 0, .int (-1 : Int32), .int 0, .int (0 : Int32), .ref m_tape, .int 0, .ref m_slots, .ref m_leaves, .int 0, .int (0 : Int32), .ref m_fresh, .int 0, .int 0, .int 0, .ref m_digestAt, .ref m_isGroup, .ref m_counts, .int 0, .int 0, .long 0, .int 0, .ref m_versionRow, .int 0, .long 0, .ref m_state, .ref m_names, .int 0, .ref m_keptRow, .int 0, .ref m_inSlot, .ref m_inAt, .ref m_inSize, .ref m_inDigest, .int 0])), (m_digestAt, .inl (d_digestAt, 128, .inr (.inl (fun _ => 0)))), (m_isGroup, .inl (d_isGroup, 128, .inl (fun _ => 0))), (m_counts, .inl (d_counts, 128, .inl (fun _ => 0)))] H := hP
      have hD : va_D A [(mo, .inr (11, [.ref m_disk, .int (nI P), .int ((8224 : Int32) + ((26 : Int32) * (nI P))), .int (1 : Int32), .int 0, .int (-1 : Int32), .int 0, .int (0 : Int32), .ref m_tape, .int 0, .ref m_slots, .ref m_leaves, .int 0, .int (0 : Int32), .ref m_fresh, .int 0, .int 0, .int 0, .ref m_digestAt, .ref m_isGroup, .ref m_counts, .int 0, .int 0, .long 0, .int 0, .ref m_versionRow, .int 0, .long 0, .ref m_state, .ref m_names, .int 0, .ref m_keptRow, .int 0, .ref m_inSlot, .ref m_inAt, .ref m_inSize, .ref m_inDigest, .int 0])), (m_digestAt, .inl (d_digestAt, 128, .inr (.inl (fun _ => 0)))), (m_isGroup, .inl (d_isGroup, 128, .inl (fun _ => 0))), (m_counts, .inl (d_counts, 128, .inl (fun _ => 0)))] := hD
      refine lv_aload_n hx hb dX9_block_30 rfl (lv_at hl 0 rfl) ?_
      refine va_get (D := (dC, dI)) (ci := 11) (v := .int (0 : Int32)) (C := RX9) (T := TX9) (N := 38) hx hb hts (by decide +kernel) hown hK hP 0 rfl rfl 13 (by decide) (hts (.fieldLink RX9 91 "BlockLogModel" "thrown" "I") (by decide +kernel)) (fun _ h9 => h9) rfl dX9_block_31 ?_
      refine lv_if_le (tgt := 39) hx hb dX9_block_34 (by decide) (fun c_4 => ?_) (fun c_4 => ?_)
      · skip
        refine lv_aload_n hx hb dX9_block_39 rfl (lv_at hl 0 rfl) ?_
        have hPc := hP.sub (ws' := [(mo, .inr (11, [.ref m_disk, .int (nI P), .int ((8224 : Int32) + ((26 : Int32) * (nI P))), .int (1 : Int32), .int 0, .int (-1 : Int32), .int 0, .int (0 : Int32), .ref m_tape, .int 0, .ref m_slots, .ref m_leaves, .int 0, .int (0 : Int32), .ref m_fresh, .int 0, .int 0, .int 0, .ref m_digestAt, .ref m_isGroup, .ref m_counts, .int 0, .int 0, .long 0, .int 0, .ref m_versionRow, .int 0, .long 0, .ref m_state, .ref m_names, .int 0, .ref m_keptRow, .int 0, .ref m_inSlot, .ref m_inAt, .ref m_inSize, .ref m_inDigest, .int 0])), (m_digestAt, .inl (d_digestAt, 128, .inr (.inl (fun _ => 0)))), (m_isGroup, .inl (d_isGroup, 128, .inl (fun _ => 0))), (m_counts, .inl (d_counts, 128, .inl (fun _ => 0)))]) [0, 1, 2, 3] rfl
        have hKc := hK.sub (tys' := [(d_digestAt, .long), (d_isGroup, .boolean), (d_counts, .boolean)]) [0, 1, 2] rfl
        have hDc := hD.sub (ws' := [(mo, .inr (11, [.ref m_disk, .int (nI P), .int ((8224 : Int32) + ((26 : Int32) * (nI P))), .int (1 : Int32), .int 0, .int (-1 : Int32), .int 0, .int (0 : Int32), .ref m_tape, .int 0, .ref m_slots, .ref m_leaves, .int 0, .int (0 : Int32), .ref m_fresh, .int 0, .int 0, .int 0, .ref m_digestAt, .ref m_isGroup, .ref m_counts, .int 0, .int 0, .long 0, .int 0, .ref m_versionRow, .int 0, .long 0, .ref m_state, .ref m_names, .int 0, .ref m_keptRow, .int 0, .ref m_inSlot, .ref m_inAt, .ref m_inSize, .ref m_inDigest, .int 0])), (m_digestAt, .inl (d_digestAt, 128, .inr (.inl (fun _ => 0)))), (m_isGroup, .inl (d_isGroup, 128, .inl (fun _ => 0))), (m_counts, .inl (d_counts, 128, .inl (fun _ => 0)))]) [0, 1, 2, 3] (by decide) rfl
        have hFc := va_free (wc := [(mo, .inr (11, [.ref m_disk, .int (nI P), .int ((8224 : Int32) + ((26 : Int32) * (nI P))), .int (1 : Int32), .int 0, .int (-1 : Int32), .int 0, .int (0 : Int32), .ref m_tape, .int 0, .ref m_slots, .ref m_leaves, .int 0, .int (0 : Int32), .ref m_fresh, .int 0, .int 0, .int 0, .ref m_digestAt, .ref m_isGroup, .ref m_counts, .int 0, .int 0, .long 0, .int 0, .ref m_versionRow, .int 0, .long 0, .ref m_state, .ref m_names, .int 0, .ref m_keptRow, .int 0, .ref m_inSlot, .ref m_inAt, .ref m_inSize, .ref m_inDigest, .int 0])), (m_digestAt, .inl (d_digestAt, 128, .inr (.inl (fun _ => 0)))), (m_isGroup, .inl (d_isGroup, 128, .inl (fun _ => 0))), (m_counts, .inl (d_counts, 128, .inl (fun _ => 0)))]) hD hS hA [0, 1, 2, 3] rfl
        refine va_callv (va_runV (As := []) (rest := []) ⟨hx, hb, hml, hown, hts⟩ (k_X9_read_1 l dC dI mo m_digestAt m_isGroup m_counts m_disk P m_tape m_slots m_leaves m_fresh m_versionRow m_state m_names m_keptRow m_inSlot m_inAt m_inSize m_inDigest d_digestAt d_isGroup d_counts _) (cwV 0 hts gX9_block_X9_read rfl rfl rfl (by decide +kernel) ⟨Nat.le_of_ble_eq_true rfl, Nat.le_of_ble_eq_true rfl⟩) ⟨fun a U g mk q => by obtain ⟨q0, q1, qP, qK, qD⟩ := q; exact ⟨q0, q1, qP, va_K.moved (u := U) (U := U.calling g mk a) (Vm.Alike.refl U.vm) qK, qD⟩, va_recv hK hP (ci := 11) (q := (RX9, TX9, 38)) rfl (q0 := 0) rfl, fun U hU hW => ⟨rfl, by rw [hU], by rw [hU]; exact hPc, va_K.moved hW.alike hKc, hDc.weaken (fun _ _ _ _ => trivial)⟩⟩ rfl rfl hl.1 rfl (lv_room (Nat.le_of_ble_eq_true rfl)) dX9_block_40 ⟨Nat.le_of_ble_eq_true rfl, Nat.le_of_ble_eq_true rfl⟩) hS (fun q _ h => hFc q h) hFc (fun u t H1 locs ht hvm er_5 hB hz1 hk1 hS => ?_)
        obtain ⟨hP1, hK1, hD1⟩ := hB
        rw [ht] at hP1
        obtain ⟨hP, hD⟩ := va_join (wr := []) (w1 := [(mo, .inr (11, [.ref m_disk, .int (nI P), .int ((8224 : Int32) + ((26 : Int32) * (nI P))), .int (1 : Int32), .int 0, .int (-1 : Int32), .int 0, .int (0 : Int32), .ref m_tape, .int 0, .ref m_slots, .ref m_leaves, .int 0, .int 0, .ref m_fresh, .int 0, .int (0 : Int32), .int (0 : Int32), .ref m_digestAt, .ref m_isGroup, .ref m_counts, .int (-1 : Int32), .int (0 : Int32), .long (0 : Int64), .int (0 : Int32), .ref m_versionRow, .int (0 : Int32), .long (0 : Int64), .ref m_state, .ref m_names, .int 0, .ref m_keptRow, .int 0, .ref m_inSlot, .ref m_inAt, .ref m_inSize, .ref m_inDigest, .int 0])), (m_digestAt, .inl (d_digestAt, 128, .inr (.inl (zr_L 128)))), (m_isGroup, .inl (d_isGroup, 128, .inl (zr_Z 128))), (m_counts, .inl (d_counts, 128, .inl (zr_Z 128)))]) hP hD [0, 1, 2, 3] [] rfl rfl (by decide) (by decide) hk1 hFc hP1 hD1
        clear hPc hDc hFc hP1 hD1 hk1 hz1
        generalize H1 = H at hP hS ⊢
        have hP : va_P (dC, dI) vwCl [(mo, .inr (11, [.ref m_disk, .int (nI P), .int ((8224 : Int32) + ((26 : Int32) * (nI P))), .int (1 : Int32), .int 0, .int (-1 : Int32), .int 0, .int (0 : Int32), .ref m_tape, .int 0, .ref m_slots, .ref m_leaves, .int 0, .int 0, .ref m_fresh, .int 0, .int (0 : Int32), .int (0 : Int32), .ref m_digestAt, .ref m_isGroup, .ref m_counts, .int (-1 : Int32), .int (0 : Int32), .long (0 : Int64), .int (0 : Int32), .ref m_versionRow, .int (0 : Int32), .long (0 : Int64), .ref m_state, .ref m_names, .int 0, .ref m_keptRow, .int 0, .ref m_inSlot, .ref m_inAt, .ref m_inSize, .ref m_inDigest, .int 0])), (m_digestAt, .inl (d_digestAt, 128, .inr (.inl (zr_L 128)))), (m_isGroup, .inl (d_isGroup, 128, .inl (zr_Z 128))), (m_counts, .inl (d_counts, 128, .inl (zr_Z 128)))] H := hP
        have hD : va_D A [(mo, .inr (11, [.ref m_disk, .int (nI P), .int ((8224 : Int32) + ((26 : Int32) * (nI P))), .int (1 : Int32), .int 0, .int (-1 : Int32), .int 0, .int (0 : Int32), .ref m_tape, .int 0, .ref m_slots, .ref m_leaves, .int 0, .int 0, .ref m_fresh, .int 0, .int (0 : Int32), .int (0 : Int32), .ref m_digestAt, .ref m_isGroup, .ref m_counts, .int (-1 : Int32), .int (0 : Int32), .long (0 : Int64), .int (0 : Int32), .ref m_versionRow, .int (0 : Int32), .long (0 : Int64), .ref m_state, .ref m_names, .int 0, .ref m_keptRow, .int 0, .ref m_inSlot, .ref m_inAt, .ref m_inSize, .ref m_inDigest, .int 0])), (m_digestAt, .inl (d_digestAt, 128, .inr (.inl (zr_L 128)))), (m_isGroup, .inl (d_isGroup, 128, .inl (zr_Z 128))), (m_counts, .inl (d_counts, 128, .inl (zr_Z 128)))] := hD
        refine lv_aload_n hx hb dX9_block_43 rfl (lv_at hl 0 rfl) ?_
        refine va_get (D := (dC, dI)) (ci := 11) (v := .int (0 : Int32)) (C := RX9) (T := TX9) (N := 38) hx hb hts (by decide +kernel) hown hK hP 0 rfl rfl 17 (by decide) (hts (.fieldLink RX9 176 "BlockLogModel" "needs" "Z") (by decide +kernel)) (fun _ h9 => h9) rfl dX9_block_44 ?_
        refine lv_if_eq (tgt := 53) hx hb dX9_block_47 (by decide) (fun c_6 => ?_) (fun c_6 => ?_)
        · skip
          refine lv_aload_n hx hb dX9_block_53 rfl (lv_at hl 0 rfl) ?_
          refine lv_lload_n hx hb dX9_block_54 rfl (lv_at hl 2 rfl) ?_
          have hPc := hP.sub (ws' := [(mo, .inr (11, [.ref m_disk, .int (nI P), .int ((8224 : Int32) + ((26 : Int32) * (nI P))), .int (1 : Int32), .int 0, .int (-1 : Int32), .int 0, .int (0 : Int32), .ref m_tape, .int 0, .ref m_slots, .ref m_leaves, .int 0, .int 0, .ref m_fresh, .int 0, .int (0 : Int32), .int (0 : Int32), .ref m_digestAt, .ref m_isGroup, .ref m_counts, .int (-1 : Int32), .int (0 : Int32), .long (0 : Int64), .int (0 : Int32), .ref m_versionRow, .int (0 : Int32), .long (0 : Int64), .ref m_state, .ref m_names, .int 0, .ref m_keptRow, .int 0, .ref m_inSlot, .ref m_inAt, .ref m_inSize, .ref m_inDigest, .int 0]))]) [0] rfl
          have hKc := hK.sub (tys' := []) [] rfl
          refine vp_callSl (va_Run.run (va_runV (As := [.long w1]) (rest := []) ⟨hx, hb, hml, hown, hts⟩ (k_X9_meant_1 l dC dI mo w1 m_disk P m_tape m_slots m_leaves m_fresh m_digestAt m_isGroup m_counts m_versionRow m_state m_names m_keptRow m_inSlot m_inAt m_inSize m_inDigest hf2 hf3 hf4) (cwV 1 hts gX9_block_X9_meant rfl rfl rfl (by decide +kernel) ⟨Nat.le_of_ble_eq_true rfl, Nat.le_of_ble_eq_true rfl⟩) ⟨fun a U g mk q => by obtain ⟨q0, qP, qK⟩ := q; exact ⟨q0, qP, va_K.moved (u := U) (U := U.calling g mk a) (Vm.Alike.refl U.vm) qK⟩, va_recv hK hP (ci := 11) (q := (RX9, TX9, 38)) rfl (q0 := 0) rfl, fun U hU hW => ⟨rfl, by rw [hU]; exact hPc, va_K.moved hW.alike hKc⟩⟩ rfl rfl hl.1 rfl (lv_room (Nat.le_of_ble_eq_true rfl)) dX9_block_55 ⟨Nat.le_of_ble_eq_true rfl, Nat.le_of_ble_eq_true rfl⟩)) (fun r_7 er_7 => ?_)
          subst er_7
          refine lv_lstore (lv' := [(4, .long (0 : Int64)), (0, .ref mo), (1, .int p0), (2, .long w1)]) hx hb dX9_block_58 hl (by decide) rfl (fun ls hl => ?_)
          refine lv_lload hx hb dX9_block_60 (lv_at hl 0 rfl) ?_
          refine lv_lconst (v := 0) hx hb dX9_block_62 (by decide) ?_
          refine W.lcmp hx hb dX9_block_63 ?_
          refine lv_if_ne (tgt := 71) hx hb dX9_block_64 (by decide) (fun c_8 => ?_) (fun c_8 => ?_)
          · skip
            exact absurd (by decide) c_8
          · skip
            refine lv_iconst (v := (-1)) hx hb dX9_block_67 (by decide) ?_
            refine lv_goto (tgt := 81) hx hb dX9_block_68 (by decide) ?_
            refine lv_istore (lv' := [(6, .int (-1 : Int32)), (4, .long (0 : Int64)), (0, .ref mo), (1, .int p0), (2, .long w1)]) hx hb dX9_block_81 hl (by decide) rfl (fun ls hl => ?_)
            refine lv_iload hx hb dX9_block_83 (lv_at hl 0 rfl) ?_
            refine lv_iconst (v := (-1)) hx hb dX9_block_85 (by decide) ?_
            refine lv_icmp_ne (tgt := 110) hx hb dX9_block_86 (by decide) (fun c_9 => ?_) (fun c_9 => ?_)
            · skip
              exact absurd (by decide) c_9
            · skip
              refine lv_aload_n hx hb dX9_block_89 rfl (lv_at hl 2 rfl) ?_
              refine va_get (D := (dC, dI)) (ci := 11) (v := .int (0 : Int32)) (C := RX9) (T := TX9) (N := 38) hx hb hts (by decide +kernel) hown hK hP 0 rfl rfl 24 (by decide) (hts (.fieldLink RX9 189 "BlockLogModel" "hasBase" "Z") (by decide +kernel)) (fun _ h9 => h9) rfl dX9_block_90 ?_
              refine lv_if_eq (tgt := 110) hx hb dX9_block_93 (by decide) (fun c_10 => ?_) (fun c_10 => ?_)
              · skip
                refine lv_iconst (v := 0) hx hb dX9_block_110 (by decide) ?_
                refine lv_istore (lv' := [(7, .int (0 : Int32)), (6, .int (-1 : Int32)), (4, .long (0 : Int64)), (0, .ref mo), (1, .int p0), (2, .long w1)]) hx hb dX9_block_111 hl (by decide) rfl (fun ls hl => ?_)
                refine lv_lload hx hb dX9_block_113 (lv_at hl 2 rfl) ?_
                refine lv_lconst (v := 0) hx hb dX9_block_115 (by decide) ?_
                refine W.lcmp hx hb dX9_block_116 ?_
                refine lv_if_ne (tgt := 131) hx hb dX9_block_117 (by decide) (fun c_11 => ?_) (fun c_11 => ?_)
                · skip
                  exact absurd (by decide) c_11
                · skip
                  refine lv_aload_n hx hb dX9_block_120 rfl (lv_at hl 3 rfl) ?_
                  refine va_get (D := (dC, dI)) (ci := 11) (v := .int (0 : Int32)) (C := RX9) (T := TX9) (N := 38) hx hb hts (by decide +kernel) hown hK hP 0 rfl rfl 24 (by decide) (hts (.fieldLink RX9 189 "BlockLogModel" "hasBase" "Z") (by decide +kernel)) (fun _ h9 => h9) rfl dX9_block_121 ?_
                  refine lv_if_ne (tgt := 131) hx hb dX9_block_124 (by decide) (fun c_12 => ?_) (fun c_12 => ?_)
                  · skip
                    exact absurd (by decide) c_12
                  · skip
                    refine lv_iconst (v := 1) hx hb dX9_block_127 (by decide) ?_
                    refine lv_goto (tgt := 132) hx hb dX9_block_128 (by decide) ?_
                    refine lv_istore (lv' := [(8, .int (1 : Int32)), (7, .int (0 : Int32)), (6, .int (-1 : Int32)), (4, .long (0 : Int64)), (0, .ref mo), (1, .int p0), (2, .long w1)]) hx hb dX9_block_132 hl (by decide) rfl (fun ls hl => ?_)
                    refine lv_iload hx hb dX9_block_134 (lv_at hl 2 rfl) ?_
                    refine lv_iconst (v := (-1)) hx hb dX9_block_136 (by decide) ?_
                    refine lv_icmp_ne (tgt := 153) hx hb dX9_block_137 (by decide) (fun c_13 => ?_) (fun c_13 => ?_)
                    · skip
                      exact absurd (by decide) c_13
                    · skip
                      refine lv_iload hx hb dX9_block_140 (lv_at hl 1 rfl) ?_
                      refine lv_if_ne (tgt := 153) hx hb dX9_block_142 (by decide) (fun c_14 => ?_) (fun c_14 => ?_)
                      · skip
                        exact absurd (by decide) c_14
                      · skip
                        refine lv_iload hx hb dX9_block_145 (lv_at hl 0 rfl) ?_
                        refine lv_if_ne (tgt := 153) hx hb dX9_block_147 (by decide) (fun c_15 => ?_) (fun c_15 => ?_)
                        · skip
                          refine lv_iload hx hb dX9_block_153 (lv_at hl 2 rfl) ?_
                          refine lv_iconst (v := (-1)) hx hb dX9_block_155 (by decide) ?_
                          refine lv_icmp_eq (tgt := 168) hx hb dX9_block_156 (by decide) (fun c_16 => ?_) (fun c_16 => ?_)
                          · skip
                            refine lv_iload hx hb dX9_block_168 (lv_at hl 1 rfl) ?_
                            refine lv_if_eq (tgt := 180) hx hb dX9_block_170 (by decide) (fun c_17 => ?_) (fun c_17 => ?_)
                            · skip
                              refine lv_iconst (v := 0) hx hb dX9_block_180 (by decide) ?_
                              refine lv_istore (lv' := [(9, .int (0 : Int32)), (8, .int (1 : Int32)), (7, .int (0 : Int32)), (6, .int (-1 : Int32)), (4, .long (0 : Int64)), (0, .ref mo), (1, .int p0), (2, .long w1)]) hx hb dX9_block_181 hl (by decide) rfl (fun ls hl => ?_)
                              refine lv_iload_n hx hb dX9_block_183 rfl (lv_at hl 6 rfl) ?_
                              refine lv_iload hx hb dX9_block_184 (lv_at hl 0 rfl) ?_
                              refine lv_iconst (v := 1) hx hb dX9_block_186 (by decide) ?_
                              refine lv_iadd hx hb dX9_block_187 ?_
                              refine lv_icmp_eq (tgt := 194) hx hb dX9_block_188 (by decide) (fun c_18 => ?_) (fun c_18 => ?_)
                              · skip
                                exact absurd c_18 hf5
                              · skip
                                refine lv_bipush (v := (-10)) hx hb dX9_block_191 (by decide) ?_
                                have hP := hP.sub (ws' := [(mo, .inr (11, [.ref m_disk, .int (nI P), .int ((8224 : Int32) + ((26 : Int32) * (nI P))), .int (1 : Int32), .int 0, .int (-1 : Int32), .int 0, .int (0 : Int32), .ref m_tape, .int 0, .ref m_slots, .ref m_leaves, .int 0, .int 0, .ref m_fresh, .int 0, .int (0 : Int32), .int (0 : Int32), .ref m_digestAt, .ref m_isGroup, .ref m_counts, .int (-1 : Int32), .int (0 : Int32), .long (0 : Int64), .int (0 : Int32), .ref m_versionRow, .int (0 : Int32), .long (0 : Int64), .ref m_state, .ref m_names, .int 0, .ref m_keptRow, .int 0, .ref m_inSlot, .ref m_inAt, .ref m_inSize, .ref m_inDigest, .int 0]))]) [0] rfl
                                have hD := hD.sub (ws' := [(mo, .inr (11, [.ref m_disk, .int (nI P), .int ((8224 : Int32) + ((26 : Int32) * (nI P))), .int (1 : Int32), .int 0, .int (-1 : Int32), .int 0, .int (0 : Int32), .ref m_tape, .int 0, .ref m_slots, .ref m_leaves, .int 0, .int 0, .ref m_fresh, .int 0, .int (0 : Int32), .int (0 : Int32), .ref m_digestAt, .ref m_isGroup, .ref m_counts, .int (-1 : Int32), .int (0 : Int32), .long (0 : Int64), .int (0 : Int32), .ref m_versionRow, .int (0 : Int32), .long (0 : Int64), .ref m_state, .ref m_names, .int 0, .ref m_keptRow, .int 0, .ref m_inSlot, .ref m_inAt, .ref m_inSize, .ref m_inDigest, .int 0]))]) [0] (by decide) rfl
                                have hK := hK.sub (tys' := [(d_digestAt, .long), (d_isGroup, .boolean), (d_counts, .boolean)]) [0, 1, 2] rfl
                                exact W.iret hx hb hr (fun t ht hW => ⟨⟨_, (), rfl, rfl, by rw [ht]; exact hP, va_K.moved hW.alike hK, hD⟩, hS.F ht⟩) hS.2.2 dX9_block_193
                            · skip
                              exact absurd (by decide) c_17
                          · skip
                            exact absurd (by decide) c_16
                        · skip
                          exact absurd c_15 (by decide)
              · skip
                exact absurd (by decide) c_10
        · skip
          exact absurd (by decide) c_6
      · skip
        exact absurd (by decide) c_4
    · skip
      exact absurd c_3 (by decide)
  · skip
    exact absurd c_1 (by decide)

set_option maxHeartbeats 4000000 in
set_option maxRecDepth 100000 in
theorem k_X0_addInt_1 (l : Launch) (dC : Nat → ClassId) (dI : Nat → Nat → Nat)   : Met l yX0_addInt wsX0_addInt ({ frames := 1, cells := 0, slots := 0, locals := 24 }) (va_Pc [.long (4000012 : Int64), .int (1 : Int32)] (fun U => va_P (dC, dI) vwCl [] U.heap ∧ va_K (dC, dI) vwCl [] U)) (vp_Sl (fun r => r = (1770212831045931200 : Int64))) 0 0 (fun _ => False) := by
  refine Met.ofW (cc := cX0_addInt) (maxL := 6) (ret := (some .long)) (by decide) rfl ?_
  intro p e s m args below meth c s₁ B hml hv
  obtain ⟨rfl, hP, hK⟩ := hv
  have hx := B.exec
  have hb := B.bytes
  have hr := B.returns
  have hts := atoms_spec (ws := wsX0_addInt) B.pre
  have hown : s.vm.findClass RX0 = some m.cls := findClass_of_methodNamed B.named
  have hlocks := B.notSynchronized
  have hl := lv_entry ([.long (4000012 : Int64), .int (1 : Int32)]) (n := 6) (Nat.le_of_ble_eq_true rfl)
  rw [lg_entry_eq]
  generalize (lg_sl ([.long (4000012 : Int64), .int (1 : Int32)]) ++ List.replicate (6 - (lg_sl ([.long (4000012 : Int64), .int (1 : Int32)])).length) Slot.unset).toArray = ls at hl ⊢
  have hl : lv_has ls 6 [(0, .long (4000012 : Int64)), (2, .int (1 : Int32))] := hl
  refine lv_lload_n hx hb dX0_addInt_0 rfl (lv_at hl 0 rfl) ?_
  refine lv_lstore_n (lv' := [(3, .long (4000012 : Int64)), (0, .long (4000012 : Int64)), (2, .int (1 : Int32))]) hx hb dX0_addInt_1 rfl hl (by decide) rfl (fun ls hl => ?_)
  refine lv_bipush (v := 24) hx hb dX0_addInt_2 (by decide) ?_
  refine lv_istore (lv' := [(5, .int (24 : Int32)), (3, .long (4000012 : Int64)), (0, .long (4000012 : Int64)), (2, .int (1 : Int32))]) hx hb dX0_addInt_4 hl (by decide) rfl (fun ls hl => ?_)
  refine lv_iload hx hb dX0_addInt_6 (lv_at hl 0 rfl) ?_
  refine lv_if_lt (tgt := 26) hx hb dX0_addInt_8 (by decide) (fun c_1 => ?_) (fun c_1 => ?_)
  · skip
    exact absurd c_1 (by decide)
  · skip
    refine lv_lload_n hx hb dX0_addInt_11 rfl (lv_at hl 1 rfl) ?_
    refine lv_iload_n hx hb dX0_addInt_12 rfl (lv_at hl 3 rfl) ?_
    refine lv_iload hx hb dX0_addInt_13 (lv_at hl 0 rfl) ?_
    refine lv_iushr hx hb dX0_addInt_15 rfl ?_
    have e9 : ((1 : Int32).toUInt32 >>> ((24 : Int32).toUInt32 &&& Int32.toUInt32 31)).toInt32 = (0 : Int32) := by decide +kernel
    rw [e9]
    clear e9
    refine vp_callSl (va_Run.run (va_runS (As := [.long (4000012 : Int64), .int (0 : Int32)]) (rest := []) ⟨hx, hb, hml, hown, hts⟩ (k_X0_add l (4000012 : Int64) (0 : Int32)) (va_cwS 2 hts gX0_addInt_X0_add rfl rfl rfl (by decide +kernel) ⟨Nat.le_of_ble_eq_true rfl, Nat.le_of_ble_eq_true rfl⟩) ⟨fun a U g mk q => q, fun U hU hW => ⟨rfl, trivial⟩⟩ rfl rfl hl.1 rfl (lv_room (Nat.le_of_ble_eq_true rfl)) dX0_addInt_16 ⟨Nat.le_of_ble_eq_true rfl, Nat.le_of_ble_eq_true rfl⟩)) (fun r_2 er_2 => ?_)
    replace er_2 := er_2.trans (show _ = (-2302040374715088896 : Int64) by decide +kernel)
    subst er_2
    refine lv_lstore_n (lv' := [(3, .long (-2302040374715088896 : Int64)), (5, .int (24 : Int32)), (0, .long (4000012 : Int64)), (2, .int (1 : Int32))]) hx hb dX0_addInt_19 rfl hl (by decide) rfl (fun ls hl => ?_)
    refine lv_iinc (v := (16 : Int32)) (lv' := [(5, .int (16 : Int32)), (3, .long (-2302040374715088896 : Int64)), (0, .long (4000012 : Int64)), (2, .int (1 : Int32))]) hx hb dX0_addInt_20 hl (k := 1) rfl (by decide) (by decide) rfl (fun ls hl => ?_)
    refine lv_goto (tgt := 6) hx hb dX0_addInt_23 (by decide) ?_
    refine lv_iload hx hb dX0_addInt_6 (lv_at hl 0 rfl) ?_
    refine lv_if_lt (tgt := 26) hx hb dX0_addInt_8 (by decide) (fun c_3 => ?_) (fun c_3 => ?_)
    · skip
      exact absurd c_3 (by decide)
    · skip
      refine lv_lload_n hx hb dX0_addInt_11 rfl (lv_at hl 1 rfl) ?_
      refine lv_iload_n hx hb dX0_addInt_12 rfl (lv_at hl 3 rfl) ?_
      refine lv_iload hx hb dX0_addInt_13 (lv_at hl 0 rfl) ?_
      refine lv_iushr hx hb dX0_addInt_15 rfl ?_
      have e9 : ((1 : Int32).toUInt32 >>> ((16 : Int32).toUInt32 &&& Int32.toUInt32 31)).toInt32 = (0 : Int32) := by decide +kernel
      rw [e9]
      clear e9
      refine vp_callSl (va_Run.run (va_runS (As := [.long (-2302040374715088896 : Int64), .int (0 : Int32)]) (rest := []) ⟨hx, hb, hml, hown, hts⟩ (k_X0_add l (-2302040374715088896 : Int64) (0 : Int32)) (va_cwS 2 hts gX0_addInt_X0_add rfl rfl rfl (by decide +kernel) ⟨Nat.le_of_ble_eq_true rfl, Nat.le_of_ble_eq_true rfl⟩) ⟨fun a U g mk q => q, fun U hU hW => ⟨rfl, trivial⟩⟩ rfl rfl hl.1 rfl (lv_room (Nat.le_of_ble_eq_true rfl)) dX0_addInt_16 ⟨Nat.le_of_ble_eq_true rfl, Nat.le_of_ble_eq_true rfl⟩)) (fun r_4 er_4 => ?_)
      replace er_4 := er_4.trans (show _ = (5497930310478796112 : Int64) by decide +kernel)
      subst er_4
      refine lv_lstore_n (lv' := [(3, .long (5497930310478796112 : Int64)), (5, .int (16 : Int32)), (0, .long (4000012 : Int64)), (2, .int (1 : Int32))]) hx hb dX0_addInt_19 rfl hl (by decide) rfl (fun ls hl => ?_)
      refine lv_iinc (v := (8 : Int32)) (lv' := [(5, .int (8 : Int32)), (3, .long (5497930310478796112 : Int64)), (0, .long (4000012 : Int64)), (2, .int (1 : Int32))]) hx hb dX0_addInt_20 hl (k := 1) rfl (by decide) (by decide) rfl (fun ls hl => ?_)
      refine lv_goto (tgt := 6) hx hb dX0_addInt_23 (by decide) ?_
      refine lv_iload hx hb dX0_addInt_6 (lv_at hl 0 rfl) ?_
      refine lv_if_lt (tgt := 26) hx hb dX0_addInt_8 (by decide) (fun c_5 => ?_) (fun c_5 => ?_)
      · skip
        exact absurd c_5 (by decide)
      · skip
        refine lv_lload_n hx hb dX0_addInt_11 rfl (lv_at hl 1 rfl) ?_
        refine lv_iload_n hx hb dX0_addInt_12 rfl (lv_at hl 3 rfl) ?_
        refine lv_iload hx hb dX0_addInt_13 (lv_at hl 0 rfl) ?_
        refine lv_iushr hx hb dX0_addInt_15 rfl ?_
        have e9 : ((1 : Int32).toUInt32 >>> ((8 : Int32).toUInt32 &&& Int32.toUInt32 31)).toInt32 = (0 : Int32) := by decide +kernel
        rw [e9]
        clear e9
        refine vp_callSl (va_Run.run (va_runS (As := [.long (5497930310478796112 : Int64), .int (0 : Int32)]) (rest := []) ⟨hx, hb, hml, hown, hts⟩ (k_X0_add l (5497930310478796112 : Int64) (0 : Int32)) (va_cwS 2 hts gX0_addInt_X0_add rfl rfl rfl (by decide +kernel) ⟨Nat.le_of_ble_eq_true rfl, Nat.le_of_ble_eq_true rfl⟩) ⟨fun a U g mk q => q, fun U hU hW => ⟨rfl, trivial⟩⟩ rfl rfl hl.1 rfl (lv_room (Nat.le_of_ble_eq_true rfl)) dX0_addInt_16 ⟨Nat.le_of_ble_eq_true rfl, Nat.le_of_ble_eq_true rfl⟩)) (fun r_6 er_6 => ?_)
        replace er_6 := er_6.trans (show _ = (1700678880498711054 : Int64) by decide +kernel)
        subst er_6
        refine lv_lstore_n (lv' := [(3, .long (1700678880498711054 : Int64)), (5, .int (8 : Int32)), (0, .long (4000012 : Int64)), (2, .int (1 : Int32))]) hx hb dX0_addInt_19 rfl hl (by decide) rfl (fun ls hl => ?_)
        refine lv_iinc (v := (0 : Int32)) (lv' := [(5, .int (0 : Int32)), (3, .long (1700678880498711054 : Int64)), (0, .long (4000012 : Int64)), (2, .int (1 : Int32))]) hx hb dX0_addInt_20 hl (k := 1) rfl (by decide) (by decide) rfl (fun ls hl => ?_)
        refine lv_goto (tgt := 6) hx hb dX0_addInt_23 (by decide) ?_
        refine lv_iload hx hb dX0_addInt_6 (lv_at hl 0 rfl) ?_
        refine lv_if_lt (tgt := 26) hx hb dX0_addInt_8 (by decide) (fun c_7 => ?_) (fun c_7 => ?_)
        · skip
          exact absurd c_7 (by decide)
        · skip
          refine lv_lload_n hx hb dX0_addInt_11 rfl (lv_at hl 1 rfl) ?_
          refine lv_iload_n hx hb dX0_addInt_12 rfl (lv_at hl 3 rfl) ?_
          refine lv_iload hx hb dX0_addInt_13 (lv_at hl 0 rfl) ?_
          refine lv_iushr hx hb dX0_addInt_15 rfl ?_
          have e9 : ((1 : Int32).toUInt32 >>> ((0 : Int32).toUInt32 &&& Int32.toUInt32 31)).toInt32 = (1 : Int32) := by decide +kernel
          rw [e9]
          clear e9
          refine vp_callSl (va_Run.run (va_runS (As := [.long (1700678880498711054 : Int64), .int (1 : Int32)]) (rest := []) ⟨hx, hb, hml, hown, hts⟩ (k_X0_add l (1700678880498711054 : Int64) (1 : Int32)) (va_cwS 2 hts gX0_addInt_X0_add rfl rfl rfl (by decide +kernel) ⟨Nat.le_of_ble_eq_true rfl, Nat.le_of_ble_eq_true rfl⟩) ⟨fun a U g mk q => q, fun U hU hW => ⟨rfl, trivial⟩⟩ rfl rfl hl.1 rfl (lv_room (Nat.le_of_ble_eq_true rfl)) dX0_addInt_16 ⟨Nat.le_of_ble_eq_true rfl, Nat.le_of_ble_eq_true rfl⟩)) (fun r_8 er_8 => ?_)
          replace er_8 := er_8.trans (show _ = (1770212831045931200 : Int64) by decide +kernel)
          subst er_8
          refine lv_lstore_n (lv' := [(3, .long (1770212831045931200 : Int64)), (5, .int (0 : Int32)), (0, .long (4000012 : Int64)), (2, .int (1 : Int32))]) hx hb dX0_addInt_19 rfl hl (by decide) rfl (fun ls hl => ?_)
          refine lv_iinc (v := (-8 : Int32)) (lv' := [(5, .int (-8 : Int32)), (3, .long (1770212831045931200 : Int64)), (0, .long (4000012 : Int64)), (2, .int (1 : Int32))]) hx hb dX0_addInt_20 hl (k := 1) rfl (by decide) (by decide) rfl (fun ls hl => ?_)
          refine lv_goto (tgt := 6) hx hb dX0_addInt_23 (by decide) ?_
          refine lv_iload hx hb dX0_addInt_6 (lv_at hl 0 rfl) ?_
          refine lv_if_lt (tgt := 26) hx hb dX0_addInt_8 (by decide) (fun c_9 => ?_) (fun c_9 => ?_)
          · skip
            refine lv_lload_n hx hb dX0_addInt_26 rfl (lv_at hl 1 rfl) ?_
            exact W.lret hx hb hr (fun t ht hW => ⟨_, rfl, rfl, ht⟩) (fun q h => by cases h) dX0_addInt_27
          · skip
            exact absurd (by decide) c_9

set_option maxHeartbeats 4000000 in
set_option maxRecDepth 100000 in
theorem k_X0_addLong_1 (l : Launch) (dC : Nat → ClassId) (dI : Nat → Nat → Nat)   : Met l yX0_addLong wsX0_addLong ({ frames := 1, cells := 0, slots := 0, locals := 24 }) (va_Pc [.long (1770212831045931200 : Int64), .long (0 : Int64)] (fun U => va_P (dC, dI) vwCl [] U.heap ∧ va_K (dC, dI) vwCl [] U)) (vp_Sl (fun r => r = pu_add (pu_add (pu_add (pu_add (pu_add (pu_add (pu_add (pu_add (1770212831045931200 : Int64) ((((0 : Int64).toUInt64 >>> ((56 : Int32).toInt64.toUInt64 &&& Int64.toUInt64 63)).toInt64).toInt32)) ((((0 : Int64).toUInt64 >>> ((48 : Int32).toInt64.toUInt64 &&& Int64.toUInt64 63)).toInt64).toInt32)) ((((0 : Int64).toUInt64 >>> ((40 : Int32).toInt64.toUInt64 &&& Int64.toUInt64 63)).toInt64).toInt32)) ((((0 : Int64).toUInt64 >>> ((32 : Int32).toInt64.toUInt64 &&& Int64.toUInt64 63)).toInt64).toInt32)) ((((0 : Int64).toUInt64 >>> ((24 : Int32).toInt64.toUInt64 &&& Int64.toUInt64 63)).toInt64).toInt32)) ((((0 : Int64).toUInt64 >>> ((16 : Int32).toInt64.toUInt64 &&& Int64.toUInt64 63)).toInt64).toInt32)) ((((0 : Int64).toUInt64 >>> ((8 : Int32).toInt64.toUInt64 &&& Int64.toUInt64 63)).toInt64).toInt32)) ((((0 : Int64).toUInt64 >>> ((0 : Int32).toInt64.toUInt64 &&& Int64.toUInt64 63)).toInt64).toInt32))) 0 0 (fun _ => False) := by
  refine Met.ofW (cc := cX0_addLong) (maxL := 7) (ret := (some .long)) (by decide) rfl ?_
  intro p e s m args below meth c s₁ B hml hv
  obtain ⟨rfl, hP, hK⟩ := hv
  have hx := B.exec
  have hb := B.bytes
  have hr := B.returns
  have hts := atoms_spec (ws := wsX0_addLong) B.pre
  have hown : s.vm.findClass RX0 = some m.cls := findClass_of_methodNamed B.named
  have hlocks := B.notSynchronized
  have hl := lv_entry ([.long (1770212831045931200 : Int64), .long (0 : Int64)]) (n := 7) (Nat.le_of_ble_eq_true rfl)
  rw [lg_entry_eq]
  generalize (lg_sl ([.long (1770212831045931200 : Int64), .long (0 : Int64)]) ++ List.replicate (7 - (lg_sl ([.long (1770212831045931200 : Int64), .long (0 : Int64)])).length) Slot.unset).toArray = ls at hl ⊢
  have hl : lv_has ls 7 [(0, .long (1770212831045931200 : Int64)), (2, .long (0 : Int64))] := hl
  refine lv_lload_n hx hb dX0_addLong_0 rfl (lv_at hl 0 rfl) ?_
  refine lv_lstore (lv' := [(4, .long (1770212831045931200 : Int64)), (0, .long (1770212831045931200 : Int64)), (2, .long (0 : Int64))]) hx hb dX0_addLong_1 hl (by decide) rfl (fun ls hl => ?_)
  refine lv_bipush (v := 56) hx hb dX0_addLong_3 (by decide) ?_
  refine lv_istore (lv' := [(6, .int (56 : Int32)), (4, .long (1770212831045931200 : Int64)), (0, .long (1770212831045931200 : Int64)), (2, .long (0 : Int64))]) hx hb dX0_addLong_5 hl (by decide) rfl (fun ls hl => ?_)
  refine lv_iload hx hb dX0_addLong_7 (lv_at hl 0 rfl) ?_
  refine lv_if_lt (tgt := 30) hx hb dX0_addLong_9 (by decide) (fun c_1 => ?_) (fun c_1 => ?_)
  · skip
    exact absurd c_1 (by decide)
  · skip
    refine lv_lload hx hb dX0_addLong_12 (lv_at hl 1 rfl) ?_
    refine lv_lload_n hx hb dX0_addLong_14 rfl (lv_at hl 3 rfl) ?_
    refine lv_iload hx hb dX0_addLong_15 (lv_at hl 0 rfl) ?_
    refine lv_lushr hx hb dX0_addLong_17 rfl ?_
    refine lv_l2i hx hb dX0_addLong_18 rfl ?_
    refine vp_callSl (va_Run.run (va_runS (As := [.long (1770212831045931200 : Int64), .int ((((0 : Int64).toUInt64 >>> ((56 : Int32).toInt64.toUInt64 &&& Int64.toUInt64 63)).toInt64).toInt32)]) (rest := []) ⟨hx, hb, hml, hown, hts⟩ (k_X0_add l (1770212831045931200 : Int64) ((((0 : Int64).toUInt64 >>> ((56 : Int32).toInt64.toUInt64 &&& Int64.toUInt64 63)).toInt64).toInt32)) (va_cwS 2 hts gX0_addLong_X0_add rfl rfl rfl (by decide +kernel) ⟨Nat.le_of_ble_eq_true rfl, Nat.le_of_ble_eq_true rfl⟩) ⟨fun a U g mk q => q, fun U hU hW => ⟨rfl, trivial⟩⟩ rfl rfl hl.1 rfl (lv_room (Nat.le_of_ble_eq_true rfl)) dX0_addLong_19 ⟨Nat.le_of_ble_eq_true rfl, Nat.le_of_ble_eq_true rfl⟩)) (fun r_2 er_2 => ?_)
    subst er_2
    refine lv_lstore (lv' := [(4, .long (pu_add (1770212831045931200 : Int64) ((((0 : Int64).toUInt64 >>> ((56 : Int32).toInt64.toUInt64 &&& Int64.toUInt64 63)).toInt64).toInt32))), (6, .int (56 : Int32)), (0, .long (1770212831045931200 : Int64)), (2, .long (0 : Int64))]) hx hb dX0_addLong_22 hl (by decide) rfl (fun ls hl => ?_)
    refine lv_iinc (v := (48 : Int32)) (lv' := [(6, .int (48 : Int32)), (4, .long (pu_add (1770212831045931200 : Int64) ((((0 : Int64).toUInt64 >>> ((56 : Int32).toInt64.toUInt64 &&& Int64.toUInt64 63)).toInt64).toInt32))), (0, .long (1770212831045931200 : Int64)), (2, .long (0 : Int64))]) hx hb dX0_addLong_24 hl (k := 1) rfl (by decide) (by decide) rfl (fun ls hl => ?_)
    refine lv_goto (tgt := 7) hx hb dX0_addLong_27 (by decide) ?_
    refine lv_iload hx hb dX0_addLong_7 (lv_at hl 0 rfl) ?_
    refine lv_if_lt (tgt := 30) hx hb dX0_addLong_9 (by decide) (fun c_3 => ?_) (fun c_3 => ?_)
    · skip
      exact absurd c_3 (by decide)
    · skip
      refine lv_lload hx hb dX0_addLong_12 (lv_at hl 1 rfl) ?_
      refine lv_lload_n hx hb dX0_addLong_14 rfl (lv_at hl 3 rfl) ?_
      refine lv_iload hx hb dX0_addLong_15 (lv_at hl 0 rfl) ?_
      refine lv_lushr hx hb dX0_addLong_17 rfl ?_
      refine lv_l2i hx hb dX0_addLong_18 rfl ?_
      refine vp_callSl (va_Run.run (va_runS (As := [.long (pu_add (1770212831045931200 : Int64) ((((0 : Int64).toUInt64 >>> ((56 : Int32).toInt64.toUInt64 &&& Int64.toUInt64 63)).toInt64).toInt32)), .int ((((0 : Int64).toUInt64 >>> ((48 : Int32).toInt64.toUInt64 &&& Int64.toUInt64 63)).toInt64).toInt32)]) (rest := []) ⟨hx, hb, hml, hown, hts⟩ (k_X0_add l (pu_add (1770212831045931200 : Int64) ((((0 : Int64).toUInt64 >>> ((56 : Int32).toInt64.toUInt64 &&& Int64.toUInt64 63)).toInt64).toInt32)) ((((0 : Int64).toUInt64 >>> ((48 : Int32).toInt64.toUInt64 &&& Int64.toUInt64 63)).toInt64).toInt32)) (va_cwS 2 hts gX0_addLong_X0_add rfl rfl rfl (by decide +kernel) ⟨Nat.le_of_ble_eq_true rfl, Nat.le_of_ble_eq_true rfl⟩) ⟨fun a U g mk q => q, fun U hU hW => ⟨rfl, trivial⟩⟩ rfl rfl hl.1 rfl (lv_room (Nat.le_of_ble_eq_true rfl)) dX0_addLong_19 ⟨Nat.le_of_ble_eq_true rfl, Nat.le_of_ble_eq_true rfl⟩)) (fun r_4 er_4 => ?_)
      subst er_4
      refine lv_lstore (lv' := [(4, .long (pu_add (pu_add (1770212831045931200 : Int64) ((((0 : Int64).toUInt64 >>> ((56 : Int32).toInt64.toUInt64 &&& Int64.toUInt64 63)).toInt64).toInt32)) ((((0 : Int64).toUInt64 >>> ((48 : Int32).toInt64.toUInt64 &&& Int64.toUInt64 63)).toInt64).toInt32))), (6, .int (48 : Int32)), (0, .long (1770212831045931200 : Int64)), (2, .long (0 : Int64))]) hx hb dX0_addLong_22 hl (by decide) rfl (fun ls hl => ?_)
      refine lv_iinc (v := (40 : Int32)) (lv' := [(6, .int (40 : Int32)), (4, .long (pu_add (pu_add (1770212831045931200 : Int64) ((((0 : Int64).toUInt64 >>> ((56 : Int32).toInt64.toUInt64 &&& Int64.toUInt64 63)).toInt64).toInt32)) ((((0 : Int64).toUInt64 >>> ((48 : Int32).toInt64.toUInt64 &&& Int64.toUInt64 63)).toInt64).toInt32))), (0, .long (1770212831045931200 : Int64)), (2, .long (0 : Int64))]) hx hb dX0_addLong_24 hl (k := 1) rfl (by decide) (by decide) rfl (fun ls hl => ?_)
      refine lv_goto (tgt := 7) hx hb dX0_addLong_27 (by decide) ?_
      refine lv_iload hx hb dX0_addLong_7 (lv_at hl 0 rfl) ?_
      refine lv_if_lt (tgt := 30) hx hb dX0_addLong_9 (by decide) (fun c_5 => ?_) (fun c_5 => ?_)
      · skip
        exact absurd c_5 (by decide)
      · skip
        refine lv_lload hx hb dX0_addLong_12 (lv_at hl 1 rfl) ?_
        refine lv_lload_n hx hb dX0_addLong_14 rfl (lv_at hl 3 rfl) ?_
        refine lv_iload hx hb dX0_addLong_15 (lv_at hl 0 rfl) ?_
        refine lv_lushr hx hb dX0_addLong_17 rfl ?_
        refine lv_l2i hx hb dX0_addLong_18 rfl ?_
        refine vp_callSl (va_Run.run (va_runS (As := [.long (pu_add (pu_add (1770212831045931200 : Int64) ((((0 : Int64).toUInt64 >>> ((56 : Int32).toInt64.toUInt64 &&& Int64.toUInt64 63)).toInt64).toInt32)) ((((0 : Int64).toUInt64 >>> ((48 : Int32).toInt64.toUInt64 &&& Int64.toUInt64 63)).toInt64).toInt32)), .int ((((0 : Int64).toUInt64 >>> ((40 : Int32).toInt64.toUInt64 &&& Int64.toUInt64 63)).toInt64).toInt32)]) (rest := []) ⟨hx, hb, hml, hown, hts⟩ (k_X0_add l (pu_add (pu_add (1770212831045931200 : Int64) ((((0 : Int64).toUInt64 >>> ((56 : Int32).toInt64.toUInt64 &&& Int64.toUInt64 63)).toInt64).toInt32)) ((((0 : Int64).toUInt64 >>> ((48 : Int32).toInt64.toUInt64 &&& Int64.toUInt64 63)).toInt64).toInt32)) ((((0 : Int64).toUInt64 >>> ((40 : Int32).toInt64.toUInt64 &&& Int64.toUInt64 63)).toInt64).toInt32)) (va_cwS 2 hts gX0_addLong_X0_add rfl rfl rfl (by decide +kernel) ⟨Nat.le_of_ble_eq_true rfl, Nat.le_of_ble_eq_true rfl⟩) ⟨fun a U g mk q => q, fun U hU hW => ⟨rfl, trivial⟩⟩ rfl rfl hl.1 rfl (lv_room (Nat.le_of_ble_eq_true rfl)) dX0_addLong_19 ⟨Nat.le_of_ble_eq_true rfl, Nat.le_of_ble_eq_true rfl⟩)) (fun r_6 er_6 => ?_)
        subst er_6
        refine lv_lstore (lv' := [(4, .long (pu_add (pu_add (pu_add (1770212831045931200 : Int64) ((((0 : Int64).toUInt64 >>> ((56 : Int32).toInt64.toUInt64 &&& Int64.toUInt64 63)).toInt64).toInt32)) ((((0 : Int64).toUInt64 >>> ((48 : Int32).toInt64.toUInt64 &&& Int64.toUInt64 63)).toInt64).toInt32)) ((((0 : Int64).toUInt64 >>> ((40 : Int32).toInt64.toUInt64 &&& Int64.toUInt64 63)).toInt64).toInt32))), (6, .int (40 : Int32)), (0, .long (1770212831045931200 : Int64)), (2, .long (0 : Int64))]) hx hb dX0_addLong_22 hl (by decide) rfl (fun ls hl => ?_)
        refine lv_iinc (v := (32 : Int32)) (lv' := [(6, .int (32 : Int32)), (4, .long (pu_add (pu_add (pu_add (1770212831045931200 : Int64) ((((0 : Int64).toUInt64 >>> ((56 : Int32).toInt64.toUInt64 &&& Int64.toUInt64 63)).toInt64).toInt32)) ((((0 : Int64).toUInt64 >>> ((48 : Int32).toInt64.toUInt64 &&& Int64.toUInt64 63)).toInt64).toInt32)) ((((0 : Int64).toUInt64 >>> ((40 : Int32).toInt64.toUInt64 &&& Int64.toUInt64 63)).toInt64).toInt32))), (0, .long (1770212831045931200 : Int64)), (2, .long (0 : Int64))]) hx hb dX0_addLong_24 hl (k := 1) rfl (by decide) (by decide) rfl (fun ls hl => ?_)
        refine lv_goto (tgt := 7) hx hb dX0_addLong_27 (by decide) ?_
        refine lv_iload hx hb dX0_addLong_7 (lv_at hl 0 rfl) ?_
        refine lv_if_lt (tgt := 30) hx hb dX0_addLong_9 (by decide) (fun c_7 => ?_) (fun c_7 => ?_)
        · skip
          exact absurd c_7 (by decide)
        · skip
          refine lv_lload hx hb dX0_addLong_12 (lv_at hl 1 rfl) ?_
          refine lv_lload_n hx hb dX0_addLong_14 rfl (lv_at hl 3 rfl) ?_
          refine lv_iload hx hb dX0_addLong_15 (lv_at hl 0 rfl) ?_
          refine lv_lushr hx hb dX0_addLong_17 rfl ?_
          refine lv_l2i hx hb dX0_addLong_18 rfl ?_
          refine vp_callSl (va_Run.run (va_runS (As := [.long (pu_add (pu_add (pu_add (1770212831045931200 : Int64) ((((0 : Int64).toUInt64 >>> ((56 : Int32).toInt64.toUInt64 &&& Int64.toUInt64 63)).toInt64).toInt32)) ((((0 : Int64).toUInt64 >>> ((48 : Int32).toInt64.toUInt64 &&& Int64.toUInt64 63)).toInt64).toInt32)) ((((0 : Int64).toUInt64 >>> ((40 : Int32).toInt64.toUInt64 &&& Int64.toUInt64 63)).toInt64).toInt32)), .int ((((0 : Int64).toUInt64 >>> ((32 : Int32).toInt64.toUInt64 &&& Int64.toUInt64 63)).toInt64).toInt32)]) (rest := []) ⟨hx, hb, hml, hown, hts⟩ (k_X0_add l (pu_add (pu_add (pu_add (1770212831045931200 : Int64) ((((0 : Int64).toUInt64 >>> ((56 : Int32).toInt64.toUInt64 &&& Int64.toUInt64 63)).toInt64).toInt32)) ((((0 : Int64).toUInt64 >>> ((48 : Int32).toInt64.toUInt64 &&& Int64.toUInt64 63)).toInt64).toInt32)) ((((0 : Int64).toUInt64 >>> ((40 : Int32).toInt64.toUInt64 &&& Int64.toUInt64 63)).toInt64).toInt32)) ((((0 : Int64).toUInt64 >>> ((32 : Int32).toInt64.toUInt64 &&& Int64.toUInt64 63)).toInt64).toInt32)) (va_cwS 2 hts gX0_addLong_X0_add rfl rfl rfl (by decide +kernel) ⟨Nat.le_of_ble_eq_true rfl, Nat.le_of_ble_eq_true rfl⟩) ⟨fun a U g mk q => q, fun U hU hW => ⟨rfl, trivial⟩⟩ rfl rfl hl.1 rfl (lv_room (Nat.le_of_ble_eq_true rfl)) dX0_addLong_19 ⟨Nat.le_of_ble_eq_true rfl, Nat.le_of_ble_eq_true rfl⟩)) (fun r_8 er_8 => ?_)
          subst er_8
          refine lv_lstore (lv' := [(4, .long (pu_add (pu_add (pu_add (pu_add (1770212831045931200 : Int64) ((((0 : Int64).toUInt64 >>> ((56 : Int32).toInt64.toUInt64 &&& Int64.toUInt64 63)).toInt64).toInt32)) ((((0 : Int64).toUInt64 >>> ((48 : Int32).toInt64.toUInt64 &&& Int64.toUInt64 63)).toInt64).toInt32)) ((((0 : Int64).toUInt64 >>> ((40 : Int32).toInt64.toUInt64 &&& Int64.toUInt64 63)).toInt64).toInt32)) ((((0 : Int64).toUInt64 >>> ((32 : Int32).toInt64.toUInt64 &&& Int64.toUInt64 63)).toInt64).toInt32))), (6, .int (32 : Int32)), (0, .long (1770212831045931200 : Int64)), (2, .long (0 : Int64))]) hx hb dX0_addLong_22 hl (by decide) rfl (fun ls hl => ?_)
          refine lv_iinc (v := (24 : Int32)) (lv' := [(6, .int (24 : Int32)), (4, .long (pu_add (pu_add (pu_add (pu_add (1770212831045931200 : Int64) ((((0 : Int64).toUInt64 >>> ((56 : Int32).toInt64.toUInt64 &&& Int64.toUInt64 63)).toInt64).toInt32)) ((((0 : Int64).toUInt64 >>> ((48 : Int32).toInt64.toUInt64 &&& Int64.toUInt64 63)).toInt64).toInt32)) ((((0 : Int64).toUInt64 >>> ((40 : Int32).toInt64.toUInt64 &&& Int64.toUInt64 63)).toInt64).toInt32)) ((((0 : Int64).toUInt64 >>> ((32 : Int32).toInt64.toUInt64 &&& Int64.toUInt64 63)).toInt64).toInt32))), (0, .long (1770212831045931200 : Int64)), (2, .long (0 : Int64))]) hx hb dX0_addLong_24 hl (k := 1) rfl (by decide) (by decide) rfl (fun ls hl => ?_)
          refine lv_goto (tgt := 7) hx hb dX0_addLong_27 (by decide) ?_
          refine lv_iload hx hb dX0_addLong_7 (lv_at hl 0 rfl) ?_
          refine lv_if_lt (tgt := 30) hx hb dX0_addLong_9 (by decide) (fun c_9 => ?_) (fun c_9 => ?_)
          · skip
            exact absurd c_9 (by decide)
          · skip
            refine lv_lload hx hb dX0_addLong_12 (lv_at hl 1 rfl) ?_
            refine lv_lload_n hx hb dX0_addLong_14 rfl (lv_at hl 3 rfl) ?_
            refine lv_iload hx hb dX0_addLong_15 (lv_at hl 0 rfl) ?_
            refine lv_lushr hx hb dX0_addLong_17 rfl ?_
            refine lv_l2i hx hb dX0_addLong_18 rfl ?_
            refine vp_callSl (va_Run.run (va_runS (As := [.long (pu_add (pu_add (pu_add (pu_add (1770212831045931200 : Int64) ((((0 : Int64).toUInt64 >>> ((56 : Int32).toInt64.toUInt64 &&& Int64.toUInt64 63)).toInt64).toInt32)) ((((0 : Int64).toUInt64 >>> ((48 : Int32).toInt64.toUInt64 &&& Int64.toUInt64 63)).toInt64).toInt32)) ((((0 : Int64).toUInt64 >>> ((40 : Int32).toInt64.toUInt64 &&& Int64.toUInt64 63)).toInt64).toInt32)) ((((0 : Int64).toUInt64 >>> ((32 : Int32).toInt64.toUInt64 &&& Int64.toUInt64 63)).toInt64).toInt32)), .int ((((0 : Int64).toUInt64 >>> ((24 : Int32).toInt64.toUInt64 &&& Int64.toUInt64 63)).toInt64).toInt32)]) (rest := []) ⟨hx, hb, hml, hown, hts⟩ (k_X0_add l (pu_add (pu_add (pu_add (pu_add (1770212831045931200 : Int64) ((((0 : Int64).toUInt64 >>> ((56 : Int32).toInt64.toUInt64 &&& Int64.toUInt64 63)).toInt64).toInt32)) ((((0 : Int64).toUInt64 >>> ((48 : Int32).toInt64.toUInt64 &&& Int64.toUInt64 63)).toInt64).toInt32)) ((((0 : Int64).toUInt64 >>> ((40 : Int32).toInt64.toUInt64 &&& Int64.toUInt64 63)).toInt64).toInt32)) ((((0 : Int64).toUInt64 >>> ((32 : Int32).toInt64.toUInt64 &&& Int64.toUInt64 63)).toInt64).toInt32)) ((((0 : Int64).toUInt64 >>> ((24 : Int32).toInt64.toUInt64 &&& Int64.toUInt64 63)).toInt64).toInt32)) (va_cwS 2 hts gX0_addLong_X0_add rfl rfl rfl (by decide +kernel) ⟨Nat.le_of_ble_eq_true rfl, Nat.le_of_ble_eq_true rfl⟩) ⟨fun a U g mk q => q, fun U hU hW => ⟨rfl, trivial⟩⟩ rfl rfl hl.1 rfl (lv_room (Nat.le_of_ble_eq_true rfl)) dX0_addLong_19 ⟨Nat.le_of_ble_eq_true rfl, Nat.le_of_ble_eq_true rfl⟩)) (fun r_10 er_10 => ?_)
            subst er_10
            refine lv_lstore (lv' := [(4, .long (pu_add (pu_add (pu_add (pu_add (pu_add (1770212831045931200 : Int64) ((((0 : Int64).toUInt64 >>> ((56 : Int32).toInt64.toUInt64 &&& Int64.toUInt64 63)).toInt64).toInt32)) ((((0 : Int64).toUInt64 >>> ((48 : Int32).toInt64.toUInt64 &&& Int64.toUInt64 63)).toInt64).toInt32)) ((((0 : Int64).toUInt64 >>> ((40 : Int32).toInt64.toUInt64 &&& Int64.toUInt64 63)).toInt64).toInt32)) ((((0 : Int64).toUInt64 >>> ((32 : Int32).toInt64.toUInt64 &&& Int64.toUInt64 63)).toInt64).toInt32)) ((((0 : Int64).toUInt64 >>> ((24 : Int32).toInt64.toUInt64 &&& Int64.toUInt64 63)).toInt64).toInt32))), (6, .int (24 : Int32)), (0, .long (1770212831045931200 : Int64)), (2, .long (0 : Int64))]) hx hb dX0_addLong_22 hl (by decide) rfl (fun ls hl => ?_)
            refine lv_iinc (v := (16 : Int32)) (lv' := [(6, .int (16 : Int32)), (4, .long (pu_add (pu_add (pu_add (pu_add (pu_add (1770212831045931200 : Int64) ((((0 : Int64).toUInt64 >>> ((56 : Int32).toInt64.toUInt64 &&& Int64.toUInt64 63)).toInt64).toInt32)) ((((0 : Int64).toUInt64 >>> ((48 : Int32).toInt64.toUInt64 &&& Int64.toUInt64 63)).toInt64).toInt32)) ((((0 : Int64).toUInt64 >>> ((40 : Int32).toInt64.toUInt64 &&& Int64.toUInt64 63)).toInt64).toInt32)) ((((0 : Int64).toUInt64 >>> ((32 : Int32).toInt64.toUInt64 &&& Int64.toUInt64 63)).toInt64).toInt32)) ((((0 : Int64).toUInt64 >>> ((24 : Int32).toInt64.toUInt64 &&& Int64.toUInt64 63)).toInt64).toInt32))), (0, .long (1770212831045931200 : Int64)), (2, .long (0 : Int64))]) hx hb dX0_addLong_24 hl (k := 1) rfl (by decide) (by decide) rfl (fun ls hl => ?_)
            refine lv_goto (tgt := 7) hx hb dX0_addLong_27 (by decide) ?_
            refine lv_iload hx hb dX0_addLong_7 (lv_at hl 0 rfl) ?_
            refine lv_if_lt (tgt := 30) hx hb dX0_addLong_9 (by decide) (fun c_11 => ?_) (fun c_11 => ?_)
            · skip
              exact absurd c_11 (by decide)
            · skip
              refine lv_lload hx hb dX0_addLong_12 (lv_at hl 1 rfl) ?_
              refine lv_lload_n hx hb dX0_addLong_14 rfl (lv_at hl 3 rfl) ?_
              refine lv_iload hx hb dX0_addLong_15 (lv_at hl 0 rfl) ?_
              refine lv_lushr hx hb dX0_addLong_17 rfl ?_
              refine lv_l2i hx hb dX0_addLong_18 rfl ?_
              refine vp_callSl (va_Run.run (va_runS (As := [.long (pu_add (pu_add (pu_add (pu_add (pu_add (1770212831045931200 : Int64) ((((0 : Int64).toUInt64 >>> ((56 : Int32).toInt64.toUInt64 &&& Int64.toUInt64 63)).toInt64).toInt32)) ((((0 : Int64).toUInt64 >>> ((48 : Int32).toInt64.toUInt64 &&& Int64.toUInt64 63)).toInt64).toInt32)) ((((0 : Int64).toUInt64 >>> ((40 : Int32).toInt64.toUInt64 &&& Int64.toUInt64 63)).toInt64).toInt32)) ((((0 : Int64).toUInt64 >>> ((32 : Int32).toInt64.toUInt64 &&& Int64.toUInt64 63)).toInt64).toInt32)) ((((0 : Int64).toUInt64 >>> ((24 : Int32).toInt64.toUInt64 &&& Int64.toUInt64 63)).toInt64).toInt32)), .int ((((0 : Int64).toUInt64 >>> ((16 : Int32).toInt64.toUInt64 &&& Int64.toUInt64 63)).toInt64).toInt32)]) (rest := []) ⟨hx, hb, hml, hown, hts⟩ (k_X0_add l (pu_add (pu_add (pu_add (pu_add (pu_add (1770212831045931200 : Int64) ((((0 : Int64).toUInt64 >>> ((56 : Int32).toInt64.toUInt64 &&& Int64.toUInt64 63)).toInt64).toInt32)) ((((0 : Int64).toUInt64 >>> ((48 : Int32).toInt64.toUInt64 &&& Int64.toUInt64 63)).toInt64).toInt32)) ((((0 : Int64).toUInt64 >>> ((40 : Int32).toInt64.toUInt64 &&& Int64.toUInt64 63)).toInt64).toInt32)) ((((0 : Int64).toUInt64 >>> ((32 : Int32).toInt64.toUInt64 &&& Int64.toUInt64 63)).toInt64).toInt32)) ((((0 : Int64).toUInt64 >>> ((24 : Int32).toInt64.toUInt64 &&& Int64.toUInt64 63)).toInt64).toInt32)) ((((0 : Int64).toUInt64 >>> ((16 : Int32).toInt64.toUInt64 &&& Int64.toUInt64 63)).toInt64).toInt32)) (va_cwS 2 hts gX0_addLong_X0_add rfl rfl rfl (by decide +kernel) ⟨Nat.le_of_ble_eq_true rfl, Nat.le_of_ble_eq_true rfl⟩) ⟨fun a U g mk q => q, fun U hU hW => ⟨rfl, trivial⟩⟩ rfl rfl hl.1 rfl (lv_room (Nat.le_of_ble_eq_true rfl)) dX0_addLong_19 ⟨Nat.le_of_ble_eq_true rfl, Nat.le_of_ble_eq_true rfl⟩)) (fun r_12 er_12 => ?_)
              subst er_12
              refine lv_lstore (lv' := [(4, .long (pu_add (pu_add (pu_add (pu_add (pu_add (pu_add (1770212831045931200 : Int64) ((((0 : Int64).toUInt64 >>> ((56 : Int32).toInt64.toUInt64 &&& Int64.toUInt64 63)).toInt64).toInt32)) ((((0 : Int64).toUInt64 >>> ((48 : Int32).toInt64.toUInt64 &&& Int64.toUInt64 63)).toInt64).toInt32)) ((((0 : Int64).toUInt64 >>> ((40 : Int32).toInt64.toUInt64 &&& Int64.toUInt64 63)).toInt64).toInt32)) ((((0 : Int64).toUInt64 >>> ((32 : Int32).toInt64.toUInt64 &&& Int64.toUInt64 63)).toInt64).toInt32)) ((((0 : Int64).toUInt64 >>> ((24 : Int32).toInt64.toUInt64 &&& Int64.toUInt64 63)).toInt64).toInt32)) ((((0 : Int64).toUInt64 >>> ((16 : Int32).toInt64.toUInt64 &&& Int64.toUInt64 63)).toInt64).toInt32))), (6, .int (16 : Int32)), (0, .long (1770212831045931200 : Int64)), (2, .long (0 : Int64))]) hx hb dX0_addLong_22 hl (by decide) rfl (fun ls hl => ?_)
              refine lv_iinc (v := (8 : Int32)) (lv' := [(6, .int (8 : Int32)), (4, .long (pu_add (pu_add (pu_add (pu_add (pu_add (pu_add (1770212831045931200 : Int64) ((((0 : Int64).toUInt64 >>> ((56 : Int32).toInt64.toUInt64 &&& Int64.toUInt64 63)).toInt64).toInt32)) ((((0 : Int64).toUInt64 >>> ((48 : Int32).toInt64.toUInt64 &&& Int64.toUInt64 63)).toInt64).toInt32)) ((((0 : Int64).toUInt64 >>> ((40 : Int32).toInt64.toUInt64 &&& Int64.toUInt64 63)).toInt64).toInt32)) ((((0 : Int64).toUInt64 >>> ((32 : Int32).toInt64.toUInt64 &&& Int64.toUInt64 63)).toInt64).toInt32)) ((((0 : Int64).toUInt64 >>> ((24 : Int32).toInt64.toUInt64 &&& Int64.toUInt64 63)).toInt64).toInt32)) ((((0 : Int64).toUInt64 >>> ((16 : Int32).toInt64.toUInt64 &&& Int64.toUInt64 63)).toInt64).toInt32))), (0, .long (1770212831045931200 : Int64)), (2, .long (0 : Int64))]) hx hb dX0_addLong_24 hl (k := 1) rfl (by decide) (by decide) rfl (fun ls hl => ?_)
              refine lv_goto (tgt := 7) hx hb dX0_addLong_27 (by decide) ?_
              refine lv_iload hx hb dX0_addLong_7 (lv_at hl 0 rfl) ?_
              refine lv_if_lt (tgt := 30) hx hb dX0_addLong_9 (by decide) (fun c_13 => ?_) (fun c_13 => ?_)
              · skip
                exact absurd c_13 (by decide)
              · skip
                refine lv_lload hx hb dX0_addLong_12 (lv_at hl 1 rfl) ?_
                refine lv_lload_n hx hb dX0_addLong_14 rfl (lv_at hl 3 rfl) ?_
                refine lv_iload hx hb dX0_addLong_15 (lv_at hl 0 rfl) ?_
                refine lv_lushr hx hb dX0_addLong_17 rfl ?_
                refine lv_l2i hx hb dX0_addLong_18 rfl ?_
                refine vp_callSl (va_Run.run (va_runS (As := [.long (pu_add (pu_add (pu_add (pu_add (pu_add (pu_add (1770212831045931200 : Int64) ((((0 : Int64).toUInt64 >>> ((56 : Int32).toInt64.toUInt64 &&& Int64.toUInt64 63)).toInt64).toInt32)) ((((0 : Int64).toUInt64 >>> ((48 : Int32).toInt64.toUInt64 &&& Int64.toUInt64 63)).toInt64).toInt32)) ((((0 : Int64).toUInt64 >>> ((40 : Int32).toInt64.toUInt64 &&& Int64.toUInt64 63)).toInt64).toInt32)) ((((0 : Int64).toUInt64 >>> ((32 : Int32).toInt64.toUInt64 &&& Int64.toUInt64 63)).toInt64).toInt32)) ((((0 : Int64).toUInt64 >>> ((24 : Int32).toInt64.toUInt64 &&& Int64.toUInt64 63)).toInt64).toInt32)) ((((0 : Int64).toUInt64 >>> ((16 : Int32).toInt64.toUInt64 &&& Int64.toUInt64 63)).toInt64).toInt32)), .int ((((0 : Int64).toUInt64 >>> ((8 : Int32).toInt64.toUInt64 &&& Int64.toUInt64 63)).toInt64).toInt32)]) (rest := []) ⟨hx, hb, hml, hown, hts⟩ (k_X0_add l (pu_add (pu_add (pu_add (pu_add (pu_add (pu_add (1770212831045931200 : Int64) ((((0 : Int64).toUInt64 >>> ((56 : Int32).toInt64.toUInt64 &&& Int64.toUInt64 63)).toInt64).toInt32)) ((((0 : Int64).toUInt64 >>> ((48 : Int32).toInt64.toUInt64 &&& Int64.toUInt64 63)).toInt64).toInt32)) ((((0 : Int64).toUInt64 >>> ((40 : Int32).toInt64.toUInt64 &&& Int64.toUInt64 63)).toInt64).toInt32)) ((((0 : Int64).toUInt64 >>> ((32 : Int32).toInt64.toUInt64 &&& Int64.toUInt64 63)).toInt64).toInt32)) ((((0 : Int64).toUInt64 >>> ((24 : Int32).toInt64.toUInt64 &&& Int64.toUInt64 63)).toInt64).toInt32)) ((((0 : Int64).toUInt64 >>> ((16 : Int32).toInt64.toUInt64 &&& Int64.toUInt64 63)).toInt64).toInt32)) ((((0 : Int64).toUInt64 >>> ((8 : Int32).toInt64.toUInt64 &&& Int64.toUInt64 63)).toInt64).toInt32)) (va_cwS 2 hts gX0_addLong_X0_add rfl rfl rfl (by decide +kernel) ⟨Nat.le_of_ble_eq_true rfl, Nat.le_of_ble_eq_true rfl⟩) ⟨fun a U g mk q => q, fun U hU hW => ⟨rfl, trivial⟩⟩ rfl rfl hl.1 rfl (lv_room (Nat.le_of_ble_eq_true rfl)) dX0_addLong_19 ⟨Nat.le_of_ble_eq_true rfl, Nat.le_of_ble_eq_true rfl⟩)) (fun r_14 er_14 => ?_)
                subst er_14
                refine lv_lstore (lv' := [(4, .long (pu_add (pu_add (pu_add (pu_add (pu_add (pu_add (pu_add (1770212831045931200 : Int64) ((((0 : Int64).toUInt64 >>> ((56 : Int32).toInt64.toUInt64 &&& Int64.toUInt64 63)).toInt64).toInt32)) ((((0 : Int64).toUInt64 >>> ((48 : Int32).toInt64.toUInt64 &&& Int64.toUInt64 63)).toInt64).toInt32)) ((((0 : Int64).toUInt64 >>> ((40 : Int32).toInt64.toUInt64 &&& Int64.toUInt64 63)).toInt64).toInt32)) ((((0 : Int64).toUInt64 >>> ((32 : Int32).toInt64.toUInt64 &&& Int64.toUInt64 63)).toInt64).toInt32)) ((((0 : Int64).toUInt64 >>> ((24 : Int32).toInt64.toUInt64 &&& Int64.toUInt64 63)).toInt64).toInt32)) ((((0 : Int64).toUInt64 >>> ((16 : Int32).toInt64.toUInt64 &&& Int64.toUInt64 63)).toInt64).toInt32)) ((((0 : Int64).toUInt64 >>> ((8 : Int32).toInt64.toUInt64 &&& Int64.toUInt64 63)).toInt64).toInt32))), (6, .int (8 : Int32)), (0, .long (1770212831045931200 : Int64)), (2, .long (0 : Int64))]) hx hb dX0_addLong_22 hl (by decide) rfl (fun ls hl => ?_)
                refine lv_iinc (v := (0 : Int32)) (lv' := [(6, .int (0 : Int32)), (4, .long (pu_add (pu_add (pu_add (pu_add (pu_add (pu_add (pu_add (1770212831045931200 : Int64) ((((0 : Int64).toUInt64 >>> ((56 : Int32).toInt64.toUInt64 &&& Int64.toUInt64 63)).toInt64).toInt32)) ((((0 : Int64).toUInt64 >>> ((48 : Int32).toInt64.toUInt64 &&& Int64.toUInt64 63)).toInt64).toInt32)) ((((0 : Int64).toUInt64 >>> ((40 : Int32).toInt64.toUInt64 &&& Int64.toUInt64 63)).toInt64).toInt32)) ((((0 : Int64).toUInt64 >>> ((32 : Int32).toInt64.toUInt64 &&& Int64.toUInt64 63)).toInt64).toInt32)) ((((0 : Int64).toUInt64 >>> ((24 : Int32).toInt64.toUInt64 &&& Int64.toUInt64 63)).toInt64).toInt32)) ((((0 : Int64).toUInt64 >>> ((16 : Int32).toInt64.toUInt64 &&& Int64.toUInt64 63)).toInt64).toInt32)) ((((0 : Int64).toUInt64 >>> ((8 : Int32).toInt64.toUInt64 &&& Int64.toUInt64 63)).toInt64).toInt32))), (0, .long (1770212831045931200 : Int64)), (2, .long (0 : Int64))]) hx hb dX0_addLong_24 hl (k := 1) rfl (by decide) (by decide) rfl (fun ls hl => ?_)
                refine lv_goto (tgt := 7) hx hb dX0_addLong_27 (by decide) ?_
                refine lv_iload hx hb dX0_addLong_7 (lv_at hl 0 rfl) ?_
                refine lv_if_lt (tgt := 30) hx hb dX0_addLong_9 (by decide) (fun c_15 => ?_) (fun c_15 => ?_)
                · skip
                  exact absurd c_15 (by decide)
                · skip
                  refine lv_lload hx hb dX0_addLong_12 (lv_at hl 1 rfl) ?_
                  refine lv_lload_n hx hb dX0_addLong_14 rfl (lv_at hl 3 rfl) ?_
                  refine lv_iload hx hb dX0_addLong_15 (lv_at hl 0 rfl) ?_
                  refine lv_lushr hx hb dX0_addLong_17 rfl ?_
                  refine lv_l2i hx hb dX0_addLong_18 rfl ?_
                  refine vp_callSl (va_Run.run (va_runS (As := [.long (pu_add (pu_add (pu_add (pu_add (pu_add (pu_add (pu_add (1770212831045931200 : Int64) ((((0 : Int64).toUInt64 >>> ((56 : Int32).toInt64.toUInt64 &&& Int64.toUInt64 63)).toInt64).toInt32)) ((((0 : Int64).toUInt64 >>> ((48 : Int32).toInt64.toUInt64 &&& Int64.toUInt64 63)).toInt64).toInt32)) ((((0 : Int64).toUInt64 >>> ((40 : Int32).toInt64.toUInt64 &&& Int64.toUInt64 63)).toInt64).toInt32)) ((((0 : Int64).toUInt64 >>> ((32 : Int32).toInt64.toUInt64 &&& Int64.toUInt64 63)).toInt64).toInt32)) ((((0 : Int64).toUInt64 >>> ((24 : Int32).toInt64.toUInt64 &&& Int64.toUInt64 63)).toInt64).toInt32)) ((((0 : Int64).toUInt64 >>> ((16 : Int32).toInt64.toUInt64 &&& Int64.toUInt64 63)).toInt64).toInt32)) ((((0 : Int64).toUInt64 >>> ((8 : Int32).toInt64.toUInt64 &&& Int64.toUInt64 63)).toInt64).toInt32)), .int ((((0 : Int64).toUInt64 >>> ((0 : Int32).toInt64.toUInt64 &&& Int64.toUInt64 63)).toInt64).toInt32)]) (rest := []) ⟨hx, hb, hml, hown, hts⟩ (k_X0_add l (pu_add (pu_add (pu_add (pu_add (pu_add (pu_add (pu_add (1770212831045931200 : Int64) ((((0 : Int64).toUInt64 >>> ((56 : Int32).toInt64.toUInt64 &&& Int64.toUInt64 63)).toInt64).toInt32)) ((((0 : Int64).toUInt64 >>> ((48 : Int32).toInt64.toUInt64 &&& Int64.toUInt64 63)).toInt64).toInt32)) ((((0 : Int64).toUInt64 >>> ((40 : Int32).toInt64.toUInt64 &&& Int64.toUInt64 63)).toInt64).toInt32)) ((((0 : Int64).toUInt64 >>> ((32 : Int32).toInt64.toUInt64 &&& Int64.toUInt64 63)).toInt64).toInt32)) ((((0 : Int64).toUInt64 >>> ((24 : Int32).toInt64.toUInt64 &&& Int64.toUInt64 63)).toInt64).toInt32)) ((((0 : Int64).toUInt64 >>> ((16 : Int32).toInt64.toUInt64 &&& Int64.toUInt64 63)).toInt64).toInt32)) ((((0 : Int64).toUInt64 >>> ((8 : Int32).toInt64.toUInt64 &&& Int64.toUInt64 63)).toInt64).toInt32)) ((((0 : Int64).toUInt64 >>> ((0 : Int32).toInt64.toUInt64 &&& Int64.toUInt64 63)).toInt64).toInt32)) (va_cwS 2 hts gX0_addLong_X0_add rfl rfl rfl (by decide +kernel) ⟨Nat.le_of_ble_eq_true rfl, Nat.le_of_ble_eq_true rfl⟩) ⟨fun a U g mk q => q, fun U hU hW => ⟨rfl, trivial⟩⟩ rfl rfl hl.1 rfl (lv_room (Nat.le_of_ble_eq_true rfl)) dX0_addLong_19 ⟨Nat.le_of_ble_eq_true rfl, Nat.le_of_ble_eq_true rfl⟩)) (fun r_16 er_16 => ?_)
                  subst er_16
                  refine lv_lstore (lv' := [(4, .long (pu_add (pu_add (pu_add (pu_add (pu_add (pu_add (pu_add (pu_add (1770212831045931200 : Int64) ((((0 : Int64).toUInt64 >>> ((56 : Int32).toInt64.toUInt64 &&& Int64.toUInt64 63)).toInt64).toInt32)) ((((0 : Int64).toUInt64 >>> ((48 : Int32).toInt64.toUInt64 &&& Int64.toUInt64 63)).toInt64).toInt32)) ((((0 : Int64).toUInt64 >>> ((40 : Int32).toInt64.toUInt64 &&& Int64.toUInt64 63)).toInt64).toInt32)) ((((0 : Int64).toUInt64 >>> ((32 : Int32).toInt64.toUInt64 &&& Int64.toUInt64 63)).toInt64).toInt32)) ((((0 : Int64).toUInt64 >>> ((24 : Int32).toInt64.toUInt64 &&& Int64.toUInt64 63)).toInt64).toInt32)) ((((0 : Int64).toUInt64 >>> ((16 : Int32).toInt64.toUInt64 &&& Int64.toUInt64 63)).toInt64).toInt32)) ((((0 : Int64).toUInt64 >>> ((8 : Int32).toInt64.toUInt64 &&& Int64.toUInt64 63)).toInt64).toInt32)) ((((0 : Int64).toUInt64 >>> ((0 : Int32).toInt64.toUInt64 &&& Int64.toUInt64 63)).toInt64).toInt32))), (6, .int (0 : Int32)), (0, .long (1770212831045931200 : Int64)), (2, .long (0 : Int64))]) hx hb dX0_addLong_22 hl (by decide) rfl (fun ls hl => ?_)
                  refine lv_iinc (v := (-8 : Int32)) (lv' := [(6, .int (-8 : Int32)), (4, .long (pu_add (pu_add (pu_add (pu_add (pu_add (pu_add (pu_add (pu_add (1770212831045931200 : Int64) ((((0 : Int64).toUInt64 >>> ((56 : Int32).toInt64.toUInt64 &&& Int64.toUInt64 63)).toInt64).toInt32)) ((((0 : Int64).toUInt64 >>> ((48 : Int32).toInt64.toUInt64 &&& Int64.toUInt64 63)).toInt64).toInt32)) ((((0 : Int64).toUInt64 >>> ((40 : Int32).toInt64.toUInt64 &&& Int64.toUInt64 63)).toInt64).toInt32)) ((((0 : Int64).toUInt64 >>> ((32 : Int32).toInt64.toUInt64 &&& Int64.toUInt64 63)).toInt64).toInt32)) ((((0 : Int64).toUInt64 >>> ((24 : Int32).toInt64.toUInt64 &&& Int64.toUInt64 63)).toInt64).toInt32)) ((((0 : Int64).toUInt64 >>> ((16 : Int32).toInt64.toUInt64 &&& Int64.toUInt64 63)).toInt64).toInt32)) ((((0 : Int64).toUInt64 >>> ((8 : Int32).toInt64.toUInt64 &&& Int64.toUInt64 63)).toInt64).toInt32)) ((((0 : Int64).toUInt64 >>> ((0 : Int32).toInt64.toUInt64 &&& Int64.toUInt64 63)).toInt64).toInt32))), (0, .long (1770212831045931200 : Int64)), (2, .long (0 : Int64))]) hx hb dX0_addLong_24 hl (k := 1) rfl (by decide) (by decide) rfl (fun ls hl => ?_)
                  refine lv_goto (tgt := 7) hx hb dX0_addLong_27 (by decide) ?_
                  refine lv_iload hx hb dX0_addLong_7 (lv_at hl 0 rfl) ?_
                  refine lv_if_lt (tgt := 30) hx hb dX0_addLong_9 (by decide) (fun c_17 => ?_) (fun c_17 => ?_)
                  · skip
                    refine lv_lload hx hb dX0_addLong_30 (lv_at hl 1 rfl) ?_
                    exact W.lret hx hb hr (fun t ht hW => ⟨_, rfl, rfl, ht⟩) (fun q h => by cases h) dX0_addLong_32
                  · skip
                    exact absurd (by decide) c_17

set_option maxHeartbeats 4000000 in
set_option maxRecDepth 100000 in
theorem k_X8_collectedDigest_1 (l : Launch) (dC : Nat → ClassId) (dI : Nat → Nat → Nat) (x : Nat) (tp : Nat) (ds : Nat) (rr : Nat) (so : Nat) (pu : Nat) (sn : Nat) (im : Nat) (cs : Nat) (cl : Nat)  : Met l yX8_collectedDigest wsX8_collectedDigest ({ frames := 2, cells := 0, slots := 0, locals := 50 }) (va_Pc [.ref x, .int (1 : Int32), .long (0 : Int64)] (fun U => va_P (dC, dI) vwCl [(x, .inr (10, [.ref tp, .ref ds, .ref rr, .ref so, .ref pu, .ref sn, .ref im, .ref cs, .ref cl, .int (0 : Int32)]))] U.heap ∧ va_K (dC, dI) vwCl [] U)) (vp_Sl (fun r => r = pu_add (pu_add (pu_add (pu_add (pu_add (pu_add (pu_add (pu_add (1770212831045931200 : Int64) ((((0 : Int64).toUInt64 >>> ((56 : Int32).toInt64.toUInt64 &&& Int64.toUInt64 63)).toInt64).toInt32)) ((((0 : Int64).toUInt64 >>> ((48 : Int32).toInt64.toUInt64 &&& Int64.toUInt64 63)).toInt64).toInt32)) ((((0 : Int64).toUInt64 >>> ((40 : Int32).toInt64.toUInt64 &&& Int64.toUInt64 63)).toInt64).toInt32)) ((((0 : Int64).toUInt64 >>> ((32 : Int32).toInt64.toUInt64 &&& Int64.toUInt64 63)).toInt64).toInt32)) ((((0 : Int64).toUInt64 >>> ((24 : Int32).toInt64.toUInt64 &&& Int64.toUInt64 63)).toInt64).toInt32)) ((((0 : Int64).toUInt64 >>> ((16 : Int32).toInt64.toUInt64 &&& Int64.toUInt64 63)).toInt64).toInt32)) ((((0 : Int64).toUInt64 >>> ((8 : Int32).toInt64.toUInt64 &&& Int64.toUInt64 63)).toInt64).toInt32)) ((((0 : Int64).toUInt64 >>> ((0 : Int32).toInt64.toUInt64 &&& Int64.toUInt64 63)).toInt64).toInt32))) 0 0 (fun _ => False) := by
  refine Met.ofW (cc := cX8_collectedDigest) (maxL := 7) (ret := (some .long)) (by decide) rfl ?_
  intro p e s m args below meth c s₁ B hml hv
  obtain ⟨rfl, hP, hK⟩ := hv
  have hx := B.exec
  have hb := B.bytes
  have hr := B.returns
  have hts := atoms_spec (ws := wsX8_collectedDigest) B.pre
  have hown : s.vm.findClass RX8 = some m.cls := findClass_of_methodNamed B.named
  have hlocks := B.notSynchronized
  have hl := lv_entry ([.ref x, .int (1 : Int32), .long (0 : Int64)]) (n := 7) (Nat.le_of_ble_eq_true rfl)
  rw [lg_entry_eq]
  generalize (lg_sl ([.ref x, .int (1 : Int32), .long (0 : Int64)]) ++ List.replicate (7 - (lg_sl ([.ref x, .int (1 : Int32), .long (0 : Int64)])).length) Slot.unset).toArray = ls at hl ⊢
  have hl : lv_has ls 7 [(0, .ref x), (1, .int (1 : Int32)), (2, .long (0 : Int64))] := hl
  refine lv_iconst (v := 4) hx hb dX8_collectedDigest_0 (by decide) ?_
  refine vp_callSl (va_Run.run (va_runS (As := [.int (4 : Int32)]) (rest := []) ⟨hx, hb, hml, hown, hts⟩ (k_X0_start l (4 : Int32)) (va_cwS 1 hts gX8_collectedDigest_X0_start rfl rfl rfl (by decide +kernel) ⟨Nat.le_of_ble_eq_true rfl, Nat.le_of_ble_eq_true rfl⟩) ⟨fun a U g mk q => q, fun U hU hW => ⟨rfl, trivial⟩⟩ rfl rfl hl.1 rfl (lv_room (Nat.le_of_ble_eq_true rfl)) dX8_collectedDigest_1 ⟨Nat.le_of_ble_eq_true rfl, Nat.le_of_ble_eq_true rfl⟩)) (fun r_1 er_1 => ?_)
  replace er_1 := er_1.trans (show _ = (4000012 : Int64) by decide +kernel)
  subst er_1
  refine lv_iload_n hx hb dX8_collectedDigest_4 rfl (lv_at hl 1 rfl) ?_
  have hPc := hP.sub (ws' := []) [] rfl
  have hKc := hK.sub (tys' := []) [] rfl
  refine vp_callSl (va_Run.run (va_runS (As := [.long (4000012 : Int64), .int (1 : Int32)]) (rest := []) ⟨hx, hb, hml, hown, hts⟩ (k_X0_addInt_1 l dC dI) (va_cwS 2 hts gX8_collectedDigest_X0_addInt rfl rfl rfl (by decide +kernel) ⟨Nat.le_of_ble_eq_true rfl, Nat.le_of_ble_eq_true rfl⟩) ⟨fun a U g mk q => by obtain ⟨q0, qP, qK⟩ := q; exact ⟨q0, qP, va_K.moved (u := U) (U := U.calling g mk a) (Vm.Alike.refl U.vm) qK⟩, fun U hU hW => ⟨rfl, by rw [hU]; exact hPc, va_K.moved hW.alike hKc⟩⟩ rfl rfl hl.1 rfl (lv_room (Nat.le_of_ble_eq_true rfl)) dX8_collectedDigest_5 ⟨Nat.le_of_ble_eq_true rfl, Nat.le_of_ble_eq_true rfl⟩)) (fun r_2 er_2 => ?_)
  subst er_2
  refine lv_lload_n hx hb dX8_collectedDigest_8 rfl (lv_at hl 2 rfl) ?_
  have hPc := hP.sub (ws' := []) [] rfl
  have hKc := hK.sub (tys' := []) [] rfl
  refine vp_callSl (va_Run.run (va_runS (As := [.long (1770212831045931200 : Int64), .long (0 : Int64)]) (rest := []) ⟨hx, hb, hml, hown, hts⟩ (k_X0_addLong_1 l dC dI) (va_cwS 2 hts gX8_collectedDigest_X0_addLong rfl rfl rfl (by decide +kernel) ⟨Nat.le_of_ble_eq_true rfl, Nat.le_of_ble_eq_true rfl⟩) ⟨fun a U g mk q => by obtain ⟨q0, qP, qK⟩ := q; exact ⟨q0, qP, va_K.moved (u := U) (U := U.calling g mk a) (Vm.Alike.refl U.vm) qK⟩, fun U hU hW => ⟨rfl, by rw [hU]; exact hPc, va_K.moved hW.alike hKc⟩⟩ rfl rfl hl.1 rfl (lv_room (Nat.le_of_ble_eq_true rfl)) dX8_collectedDigest_9 ⟨Nat.le_of_ble_eq_true rfl, Nat.le_of_ble_eq_true rfl⟩)) (fun r_3 er_3 => ?_)
  subst er_3
  refine lv_lstore (lv' := [(4, .long (pu_add (pu_add (pu_add (pu_add (pu_add (pu_add (pu_add (pu_add (1770212831045931200 : Int64) ((((0 : Int64).toUInt64 >>> ((56 : Int32).toInt64.toUInt64 &&& Int64.toUInt64 63)).toInt64).toInt32)) ((((0 : Int64).toUInt64 >>> ((48 : Int32).toInt64.toUInt64 &&& Int64.toUInt64 63)).toInt64).toInt32)) ((((0 : Int64).toUInt64 >>> ((40 : Int32).toInt64.toUInt64 &&& Int64.toUInt64 63)).toInt64).toInt32)) ((((0 : Int64).toUInt64 >>> ((32 : Int32).toInt64.toUInt64 &&& Int64.toUInt64 63)).toInt64).toInt32)) ((((0 : Int64).toUInt64 >>> ((24 : Int32).toInt64.toUInt64 &&& Int64.toUInt64 63)).toInt64).toInt32)) ((((0 : Int64).toUInt64 >>> ((16 : Int32).toInt64.toUInt64 &&& Int64.toUInt64 63)).toInt64).toInt32)) ((((0 : Int64).toUInt64 >>> ((8 : Int32).toInt64.toUInt64 &&& Int64.toUInt64 63)).toInt64).toInt32)) ((((0 : Int64).toUInt64 >>> ((0 : Int32).toInt64.toUInt64 &&& Int64.toUInt64 63)).toInt64).toInt32))), (0, .ref x), (1, .int (1 : Int32)), (2, .long (0 : Int64))]) hx hb dX8_collectedDigest_12 hl (by decide) rfl (fun ls hl => ?_)
  refine lv_iconst (v := 0) hx hb dX8_collectedDigest_14 (by decide) ?_
  refine lv_istore (lv' := [(6, .int (0 : Int32)), (4, .long (pu_add (pu_add (pu_add (pu_add (pu_add (pu_add (pu_add (pu_add (1770212831045931200 : Int64) ((((0 : Int64).toUInt64 >>> ((56 : Int32).toInt64.toUInt64 &&& Int64.toUInt64 63)).toInt64).toInt32)) ((((0 : Int64).toUInt64 >>> ((48 : Int32).toInt64.toUInt64 &&& Int64.toUInt64 63)).toInt64).toInt32)) ((((0 : Int64).toUInt64 >>> ((40 : Int32).toInt64.toUInt64 &&& Int64.toUInt64 63)).toInt64).toInt32)) ((((0 : Int64).toUInt64 >>> ((32 : Int32).toInt64.toUInt64 &&& Int64.toUInt64 63)).toInt64).toInt32)) ((((0 : Int64).toUInt64 >>> ((24 : Int32).toInt64.toUInt64 &&& Int64.toUInt64 63)).toInt64).toInt32)) ((((0 : Int64).toUInt64 >>> ((16 : Int32).toInt64.toUInt64 &&& Int64.toUInt64 63)).toInt64).toInt32)) ((((0 : Int64).toUInt64 >>> ((8 : Int32).toInt64.toUInt64 &&& Int64.toUInt64 63)).toInt64).toInt32)) ((((0 : Int64).toUInt64 >>> ((0 : Int32).toInt64.toUInt64 &&& Int64.toUInt64 63)).toInt64).toInt32))), (0, .ref x), (1, .int (1 : Int32)), (2, .long (0 : Int64))]) hx hb dX8_collectedDigest_15 hl (by decide) rfl (fun ls hl => ?_)
  refine lv_iload hx hb dX8_collectedDigest_17 (lv_at hl 0 rfl) ?_
  refine lv_aload_n hx hb dX8_collectedDigest_19 rfl (lv_at hl 2 rfl) ?_
  refine va_get (D := (dC, dI)) (ci := 10) (v := .int (0 : Int32)) (C := RX8) (T := TX8) (N := 10) hx hb hts (by decide +kernel) hown hK hP 0 rfl rfl 9 (by decide) (hts (.fieldLink RX8 72 "BlockLog" "collected" "I") (by decide +kernel)) (fun _ h9 => h9) rfl dX8_collectedDigest_20 ?_
  refine lv_icmp_ge (tgt := 56) hx hb dX8_collectedDigest_23 (by decide) (fun c_4 => ?_) (fun c_4 => ?_)
  · skip
    refine lv_lload hx hb dX8_collectedDigest_56 (lv_at hl 1 rfl) ?_
    exact W.lret hx hb hr (fun t ht hW => ⟨_, rfl, rfl, ht⟩) (fun q h => by cases h) dX8_collectedDigest_58
  · skip
    exact absurd (by decide) c_4

set_option maxHeartbeats 4000000 in
set_option maxRecDepth 100000 in
theorem k_X0_close_1 (l : Launch) (dC : Nat → ClassId) (dI : Nat → Nat → Nat) (ri : Nat) (c_ri : ClassId) (sz : Nat)  : Met l yX0_close wsX0_close ({ frames := 2, cells := 0, slots := 0, locals := 50 }) (va_Pc [.ref ri, .int (23 : Int32), .int (2 : Int32)] (fun U => U.heap.size = sz ∧ va_P (dC, dI) vwCl [(ri, .inl (c_ri, 32, .inl (pu_putL (pu_putI (pu_putI (upd (bk_z 23) (0 : Int32).toNatClampNeg (vp_nar .byte ((2 : Int32).toInt8.toInt32))) (1 : Int32) (1 : Int32) 4) (5 : Int32) (0 : Int32) 4) (9 : Int32) (0 : Int64) 8)))] U.heap ∧ va_K (dC, dI) vwCl [(c_ri, .byte)] U ∧ va_D (fun _ => True) [(ri, .inl (c_ri, 32, .inl (pu_putL (pu_putI (pu_putI (upd (bk_z 23) (0 : Int32).toNatClampNeg (vp_nar .byte ((2 : Int32).toInt8.toInt32))) (1 : Int32) (1 : Int32) 4) (5 : Int32) (0 : Int32) 4) (9 : Int32) (0 : Int64) 8)))])) (va_Qv (fun (_ : Unit) => True) (fun (_ : Unit) t => va_P (dC, dI) vwCl [(ri, .inl (c_ri, 32, .inl (upd (pu_putL (pu_putL (pu_putI (pu_putI (upd (bk_z 23) (0 : Int32).toNatClampNeg (vp_nar .byte ((2 : Int32).toInt8.toInt32))) (1 : Int32) (1 : Int32) 4) (5 : Int32) (0 : Int32) 4) (9 : Int32) (0 : Int64) 8) (23 : Int32) (pu_sumN (pu_putL (pu_putI (pu_putI (upd (bk_z 23) (0 : Int32).toNatClampNeg (vp_nar .byte ((2 : Int32).toInt8.toInt32))) (1 : Int32) (1 : Int32) 4) (5 : Int32) (0 : Int32) 4) (9 : Int32) (0 : Int64) 8) 0 (pu_start (2 : Int32)) 23) 8) ((23 : Int32) + (8 : Int32)).toNatClampNeg (vp_nar .byte (-91 : Int32)))))] t.heap ∧ va_K (dC, dI) vwCl [(c_ri, .byte)] t ∧ va_D (va_A [(ri, .inl (c_ri, 32, .inl (pu_putL (pu_putI (pu_putI (upd (bk_z 23) (0 : Int32).toNatClampNeg (vp_nar .byte ((2 : Int32).toInt8.toInt32))) (1 : Int32) (1 : Int32) 4) (5 : Int32) (0 : Int32) 4) (9 : Int32) (0 : Int64) 8)))] sz) [(ri, .inl (c_ri, 32, .inl (upd (pu_putL (pu_putL (pu_putI (pu_putI (upd (bk_z 23) (0 : Int32).toNatClampNeg (vp_nar .byte ((2 : Int32).toInt8.toInt32))) (1 : Int32) (1 : Int32) 4) (5 : Int32) (0 : Int32) 4) (9 : Int32) (0 : Int64) 8) (23 : Int32) (pu_sumN (pu_putL (pu_putI (pu_putI (upd (bk_z 23) (0 : Int32).toNatClampNeg (vp_nar .byte ((2 : Int32).toInt8.toInt32))) (1 : Int32) (1 : Int32) 4) (5 : Int32) (0 : Int32) 4) (9 : Int32) (0 : Int64) 8) 0 (pu_start (2 : Int32)) 23) 8) ((23 : Int32) + (8 : Int32)).toNatClampNeg (vp_nar .byte (-91 : Int32)))))]) (va_A [(ri, .inl (c_ri, 32, .inl (pu_putL (pu_putI (pu_putI (upd (bk_z 23) (0 : Int32).toNatClampNeg (vp_nar .byte ((2 : Int32).toInt8.toInt32))) (1 : Int32) (1 : Int32) 4) (5 : Int32) (0 : Int32) 4) (9 : Int32) (0 : Int64) 8)))] sz)) 0 0 (va_A [(ri, .inl (c_ri, 32, .inl (pu_putL (pu_putI (pu_putI (upd (bk_z 23) (0 : Int32).toNatClampNeg (vp_nar .byte ((2 : Int32).toInt8.toInt32))) (1 : Int32) (1 : Int32) 4) (5 : Int32) (0 : Int32) 4) (9 : Int32) (0 : Int64) 8)))] sz) := by
  refine Met.ofW (cc := cX0_close) (maxL := 3) (ret := none) (by decide) rfl ?_
  intro p e s m args below meth c s₁ B hml hv
  obtain ⟨rfl, hsz, hP, hK, hD0⟩ := hv
  have hx := B.exec
  have hb := B.bytes
  have hr := B.returns
  have hts := atoms_spec (ws := wsX0_close) B.pre
  have hown : s.vm.findClass RX0 = some m.cls := findClass_of_methodNamed B.named
  have hlocks := B.notSynchronized
  subst hsz
  have hD := hD0.self (sz := s.heap.size)
  generalize hAe : va_A [(ri, .inl (c_ri, 32, .inl (pu_putL (pu_putI (pu_putI (upd (bk_z 23) (0 : Int32).toNatClampNeg (vp_nar .byte ((2 : Int32).toInt8.toInt32))) (1 : Int32) (1 : Int32) 4) (5 : Int32) (0 : Int32) 4) (9 : Int32) (0 : Int64) 8)))] s.heap.size = A at hD ⊢
  have hA : ∀ q : Nat, s.heap.size ≤ q → A q := fun q h => by rw [← hAe]; exact Or.inr h
  have hS : va_S A s.heap s.heap [] := va_S.rf
  have hl := lv_entry ([.ref ri, .int (23 : Int32), .int (2 : Int32)]) (n := 3) (Nat.le_of_ble_eq_true rfl)
  rw [lg_entry_eq]
  generalize (lg_sl ([.ref ri, .int (23 : Int32), .int (2 : Int32)]) ++ List.replicate (3 - (lg_sl ([.ref ri, .int (23 : Int32), .int (2 : Int32)])).length) Slot.unset).toArray = ls at hl ⊢
  have hl : lv_has ls 3 [(0, .ref ri), (1, .int (23 : Int32)), (2, .int (2 : Int32))] := hl
  refine lv_aload_n hx hb dX0_close_0 rfl (lv_at hl 0 rfl) ?_
  refine lv_iload_n hx hb dX0_close_1 rfl (lv_at hl 1 rfl) ?_
  refine lv_aload_n hx hb dX0_close_2 rfl (lv_at hl 0 rfl) ?_
  refine lv_iconst (v := 0) hx hb dX0_close_3 (by decide) ?_
  refine lv_iload_n hx hb dX0_close_4 rfl (lv_at hl 1 rfl) ?_
  refine lv_iload_n hx hb dX0_close_5 rfl (lv_at hl 2 rfl) ?_
  have hPc := hP.sub (ws' := [(ri, .inl (c_ri, 32, .inl (pu_putL (pu_putI (pu_putI (upd (bk_z 23) (0 : Int32).toNatClampNeg (vp_nar .byte ((2 : Int32).toInt8.toInt32))) (1 : Int32) (1 : Int32) 4) (5 : Int32) (0 : Int32) 4) (9 : Int32) (0 : Int64) 8)))]) [0] rfl
  have hKc := hK.sub (tys' := [(c_ri, .byte)]) [0] rfl
  refine vp_callSl (va_Run.run (va_runS (As := [.ref ri, .int (0 : Int32), .int (23 : Int32), .int (2 : Int32)]) (rest := [.int (23 : Int32), .ref ri]) ⟨hx, hb, hml, hown, hts⟩ (k_X0_sum l dC dI c_ri ri 32 0 23 (2 : Int32) (pu_putL (pu_putI (pu_putI (upd (bk_z 23) (0 : Int32).toNatClampNeg (vp_nar .byte ((2 : Int32).toInt8.toInt32))) (1 : Int32) (1 : Int32) 4) (5 : Int32) (0 : Int32) 4) (9 : Int32) (0 : Int64) 8) (by decide) (by decide)) (va_cwS 4 hts gX0_close_X0_sum rfl rfl rfl (by decide +kernel) ⟨Nat.le_of_ble_eq_true rfl, Nat.le_of_ble_eq_true rfl⟩) ⟨fun a U g mk q => by obtain ⟨q0, qP, qK⟩ := q; exact ⟨q0, qP, va_K.moved (u := U) (U := U.calling g mk a) (Vm.Alike.refl U.vm) qK⟩, fun U hU hW => ⟨rfl, by rw [hU]; exact hPc, va_K.moved hW.alike hKc⟩⟩ rfl rfl hl.1 rfl (lv_room (Nat.le_of_ble_eq_true rfl)) dX0_close_6 ⟨Nat.le_of_ble_eq_true rfl, Nat.le_of_ble_eq_true rfl⟩)) (fun r_1 er_1 => ?_)
  subst er_1
  have hPc := hP.sub (ws' := [(ri, .inl (c_ri, 32, .inl (pu_putL (pu_putI (pu_putI (upd (bk_z 23) (0 : Int32).toNatClampNeg (vp_nar .byte ((2 : Int32).toInt8.toInt32))) (1 : Int32) (1 : Int32) 4) (5 : Int32) (0 : Int32) 4) (9 : Int32) (0 : Int64) 8)))]) [0] rfl
  have hKc := hK.sub (tys' := [(c_ri, .byte)]) [0] rfl
  have hDc := hD.sub (ws' := [(ri, .inl (c_ri, 32, .inl (pu_putL (pu_putI (pu_putI (upd (bk_z 23) (0 : Int32).toNatClampNeg (vp_nar .byte ((2 : Int32).toInt8.toInt32))) (1 : Int32) (1 : Int32) 4) (5 : Int32) (0 : Int32) 4) (9 : Int32) (0 : Int64) 8)))]) [0] (by decide) rfl
  have hFc := va_free (wc := [(ri, .inl (c_ri, 32, .inl (pu_putL (pu_putI (pu_putI (upd (bk_z 23) (0 : Int32).toNatClampNeg (vp_nar .byte ((2 : Int32).toInt8.toInt32))) (1 : Int32) (1 : Int32) 4) (5 : Int32) (0 : Int32) 4) (9 : Int32) (0 : Int64) 8)))]) hD hS hA [0] rfl
  refine va_callv (va_runS (As := [.ref ri, .int (23 : Int32), .long (pu_sumN (pu_putL (pu_putI (pu_putI (upd (bk_z 23) (0 : Int32).toNatClampNeg (vp_nar .byte ((2 : Int32).toInt8.toInt32))) (1 : Int32) (1 : Int32) 4) (5 : Int32) (0 : Int32) 4) (9 : Int32) (0 : Int64) 8) 0 (pu_start (2 : Int32)) 23)]) (rest := []) ⟨hx, hb, hml, hown, hts⟩ (k_X0_putLong l dC dI ri 32 c_ri (pu_putL (pu_putI (pu_putI (upd (bk_z 23) (0 : Int32).toNatClampNeg (vp_nar .byte ((2 : Int32).toInt8.toInt32))) (1 : Int32) (1 : Int32) 4) (5 : Int32) (0 : Int32) 4) (9 : Int32) (0 : Int64) 8) (23 : Int32) (pu_sumN (pu_putL (pu_putI (pu_putI (upd (bk_z 23) (0 : Int32).toNatClampNeg (vp_nar .byte ((2 : Int32).toInt8.toInt32))) (1 : Int32) (1 : Int32) 4) (5 : Int32) (0 : Int32) 4) (9 : Int32) (0 : Int64) 8) 0 (pu_start (2 : Int32)) 23) _ (by unfold vp_in; decide +kernel)) (va_cwS 3 hts gX0_close_X0_putLong rfl rfl rfl (by decide +kernel) ⟨Nat.le_of_ble_eq_true rfl, Nat.le_of_ble_eq_true rfl⟩) ⟨fun a U g mk q => by obtain ⟨q0, q1, qP, qK, qD⟩ := q; exact ⟨q0, q1, qP, va_K.moved (u := U) (U := U.calling g mk a) (Vm.Alike.refl U.vm) qK, qD⟩, fun U hU hW => ⟨rfl, by rw [hU], by rw [hU]; exact hPc, va_K.moved hW.alike hKc, hDc.weaken (fun _ _ _ _ => trivial)⟩⟩ rfl rfl hl.1 rfl (lv_room (Nat.le_of_ble_eq_true rfl)) dX0_close_9 ⟨Nat.le_of_ble_eq_true rfl, Nat.le_of_ble_eq_true rfl⟩) hS (fun q _ h => hFc q h) hFc (fun u t H1 locs ht hvm er_2 hB hz1 hk1 hS => ?_)
  obtain ⟨hP1, hK1, hD1⟩ := hB
  rw [ht] at hP1
  obtain ⟨hP, hD⟩ := va_join (wr := []) (w1 := [(ri, .inl (c_ri, 32, .inl (pu_putL (pu_putL (pu_putI (pu_putI (upd (bk_z 23) (0 : Int32).toNatClampNeg (vp_nar .byte ((2 : Int32).toInt8.toInt32))) (1 : Int32) (1 : Int32) 4) (5 : Int32) (0 : Int32) 4) (9 : Int32) (0 : Int64) 8) (23 : Int32) (pu_sumN (pu_putL (pu_putI (pu_putI (upd (bk_z 23) (0 : Int32).toNatClampNeg (vp_nar .byte ((2 : Int32).toInt8.toInt32))) (1 : Int32) (1 : Int32) 4) (5 : Int32) (0 : Int32) 4) (9 : Int32) (0 : Int64) 8) 0 (pu_start (2 : Int32)) 23) 8)))]) hP hD [0] [] rfl rfl (by decide) (by decide) hk1 hFc hP1 hD1
  clear hPc hDc hFc hP1 hD1 hk1 hz1
  generalize H1 = H at hP hS ⊢
  have hP : va_P (dC, dI) vwCl [(ri, .inl (c_ri, 32, .inl (pu_putL (pu_putL (pu_putI (pu_putI (upd (bk_z 23) (0 : Int32).toNatClampNeg (vp_nar .byte ((2 : Int32).toInt8.toInt32))) (1 : Int32) (1 : Int32) 4) (5 : Int32) (0 : Int32) 4) (9 : Int32) (0 : Int64) 8) (23 : Int32) (pu_sumN (pu_putL (pu_putI (pu_putI (upd (bk_z 23) (0 : Int32).toNatClampNeg (vp_nar .byte ((2 : Int32).toInt8.toInt32))) (1 : Int32) (1 : Int32) 4) (5 : Int32) (0 : Int32) 4) (9 : Int32) (0 : Int64) 8) 0 (pu_start (2 : Int32)) 23) 8)))] H := hP
  have hD : va_D A [(ri, .inl (c_ri, 32, .inl (pu_putL (pu_putL (pu_putI (pu_putI (upd (bk_z 23) (0 : Int32).toNatClampNeg (vp_nar .byte ((2 : Int32).toInt8.toInt32))) (1 : Int32) (1 : Int32) 4) (5 : Int32) (0 : Int32) 4) (9 : Int32) (0 : Int64) 8) (23 : Int32) (pu_sumN (pu_putL (pu_putI (pu_putI (upd (bk_z 23) (0 : Int32).toNatClampNeg (vp_nar .byte ((2 : Int32).toInt8.toInt32))) (1 : Int32) (1 : Int32) 4) (5 : Int32) (0 : Int32) 4) (9 : Int32) (0 : Int64) 8) 0 (pu_start (2 : Int32)) 23) 8)))] := hD
  refine lv_aload_n hx hb dX0_close_12 rfl (lv_at hl 0 rfl) ?_
  refine lv_iload_n hx hb dX0_close_13 rfl (lv_at hl 1 rfl) ?_
  refine lv_bipush (v := 8) hx hb dX0_close_14 (by decide) ?_
  refine lv_iadd hx hb dX0_close_16 ?_
  refine lv_bipush (v := (-91)) hx hb dX0_close_17 (by decide) ?_
  refine va_bast hx hb hK hP hD hS 0 0 rfl rfl (by unfold vp_in; decide +kernel) dX0_close_19 (fun H locs hP hD hS => ?_)
  have hP : va_P (dC, dI) vwCl [(ri, .inl (c_ri, 32, .inl (upd (pu_putL (pu_putL (pu_putI (pu_putI (upd (bk_z 23) (0 : Int32).toNatClampNeg (vp_nar .byte ((2 : Int32).toInt8.toInt32))) (1 : Int32) (1 : Int32) 4) (5 : Int32) (0 : Int32) 4) (9 : Int32) (0 : Int64) 8) (23 : Int32) (pu_sumN (pu_putL (pu_putI (pu_putI (upd (bk_z 23) (0 : Int32).toNatClampNeg (vp_nar .byte ((2 : Int32).toInt8.toInt32))) (1 : Int32) (1 : Int32) 4) (5 : Int32) (0 : Int32) 4) (9 : Int32) (0 : Int64) 8) 0 (pu_start (2 : Int32)) 23) 8) ((23 : Int32) + (8 : Int32)).toNatClampNeg (vp_nar .byte (-91 : Int32)))))] H := hP
  have hD : va_D A [(ri, .inl (c_ri, 32, .inl (upd (pu_putL (pu_putL (pu_putI (pu_putI (upd (bk_z 23) (0 : Int32).toNatClampNeg (vp_nar .byte ((2 : Int32).toInt8.toInt32))) (1 : Int32) (1 : Int32) 4) (5 : Int32) (0 : Int32) 4) (9 : Int32) (0 : Int64) 8) (23 : Int32) (pu_sumN (pu_putL (pu_putI (pu_putI (upd (bk_z 23) (0 : Int32).toNatClampNeg (vp_nar .byte ((2 : Int32).toInt8.toInt32))) (1 : Int32) (1 : Int32) 4) (5 : Int32) (0 : Int32) 4) (9 : Int32) (0 : Int64) 8) 0 (pu_start (2 : Int32)) 23) 8) ((23 : Int32) + (8 : Int32)).toNatClampNeg (vp_nar .byte (-91 : Int32)))))] := hD
  have hP := hP.sub (ws' := [(ri, .inl (c_ri, 32, .inl (upd (pu_putL (pu_putL (pu_putI (pu_putI (upd (bk_z 23) (0 : Int32).toNatClampNeg (vp_nar .byte ((2 : Int32).toInt8.toInt32))) (1 : Int32) (1 : Int32) 4) (5 : Int32) (0 : Int32) 4) (9 : Int32) (0 : Int64) 8) (23 : Int32) (pu_sumN (pu_putL (pu_putI (pu_putI (upd (bk_z 23) (0 : Int32).toNatClampNeg (vp_nar .byte ((2 : Int32).toInt8.toInt32))) (1 : Int32) (1 : Int32) 4) (5 : Int32) (0 : Int32) 4) (9 : Int32) (0 : Int64) 8) 0 (pu_start (2 : Int32)) 23) 8) ((23 : Int32) + (8 : Int32)).toNatClampNeg (vp_nar .byte (-91 : Int32)))))]) [0] rfl
  have hD := hD.sub (ws' := [(ri, .inl (c_ri, 32, .inl (upd (pu_putL (pu_putL (pu_putI (pu_putI (upd (bk_z 23) (0 : Int32).toNatClampNeg (vp_nar .byte ((2 : Int32).toInt8.toInt32))) (1 : Int32) (1 : Int32) 4) (5 : Int32) (0 : Int32) 4) (9 : Int32) (0 : Int64) 8) (23 : Int32) (pu_sumN (pu_putL (pu_putI (pu_putI (upd (bk_z 23) (0 : Int32).toNatClampNeg (vp_nar .byte ((2 : Int32).toInt8.toInt32))) (1 : Int32) (1 : Int32) 4) (5 : Int32) (0 : Int32) 4) (9 : Int32) (0 : Int64) 8) 0 (pu_start (2 : Int32)) 23) 8) ((23 : Int32) + (8 : Int32)).toNatClampNeg (vp_nar .byte (-91 : Int32)))))]) [0] (by decide) rfl
  have hK := hK.sub (tys' := [(c_ri, .byte)]) [0] rfl
  exact W.vret hx hb hr (fun t ht hW => ⟨⟨(), rfl, trivial, by rw [ht]; exact hP, va_K.moved hW.alike hK, hD⟩, hS.F ht⟩) hS.2.2 dX0_close_20

set_option maxHeartbeats 4000000 in
set_option maxRecDepth 100000 in
theorem k_X4_draw_1 (l : Launch) (dC : Nat → ClassId) (dI : Nat → Nat → Nat) (rr : Nat) (ri : Nat) (ds : Nat) (c_ri : ClassId) (sz : Nat)  : Met l yX4_draw wsX4_draw ({ frames := 3, cells := 0, slots := 0, locals := 72 }) (va_Pc [.ref rr, .int (2 : Int32), .int (1 : Int32), .int (0 : Int32), .long (0 : Int64)] (fun U => U.heap.size = sz ∧ va_P (dC, dI) vwCl [(rr, .inr (6, [.ref ds, .ref ri, .int 0, .int 1, .int 0, .int 0])), (ri, .inl (c_ri, 32, .inl (pu_head (fun _ => 0) 1)))] U.heap ∧ va_K (dC, dI) vwCl [(c_ri, .byte)] U ∧ va_D (fun _ => True) [(rr, .inr (6, [.ref ds, .ref ri, .int 0, .int 1, .int 0, .int 0])), (ri, .inl (c_ri, 32, .inl (pu_head (fun _ => 0) 1)))])) (va_Qv (fun (_ : Unit) => True) (fun (_ : Unit) t => va_P (dC, dI) vwCl [(rr, .inr (6, [.ref ds, .ref ri, .int 0, .int 1, .int 0, .int 0])), (ri, .inl (c_ri, 32, .inl (upd (pu_putL (pu_putL (pu_putI (pu_putI (upd (bk_z 23) (0 : Int32).toNatClampNeg (vp_nar .byte ((2 : Int32).toInt8.toInt32))) (1 : Int32) (1 : Int32) 4) (5 : Int32) (0 : Int32) 4) (9 : Int32) (0 : Int64) 8) (23 : Int32) (pu_sumN (pu_putL (pu_putI (pu_putI (upd (bk_z 23) (0 : Int32).toNatClampNeg (vp_nar .byte ((2 : Int32).toInt8.toInt32))) (1 : Int32) (1 : Int32) 4) (5 : Int32) (0 : Int32) 4) (9 : Int32) (0 : Int64) 8) 0 (pu_start (2 : Int32)) 23) 8) ((23 : Int32) + (8 : Int32)).toNatClampNeg (vp_nar .byte (-91 : Int32)))))] t.heap ∧ va_K (dC, dI) vwCl [(c_ri, .byte)] t ∧ va_D (va_A [(rr, .inr (6, [.ref ds, .ref ri, .int 0, .int 1, .int 0, .int 0])), (ri, .inl (c_ri, 32, .inl (pu_head (fun _ => 0) 1)))] sz) [(rr, .inr (6, [.ref ds, .ref ri, .int 0, .int 1, .int 0, .int 0])), (ri, .inl (c_ri, 32, .inl (upd (pu_putL (pu_putL (pu_putI (pu_putI (upd (bk_z 23) (0 : Int32).toNatClampNeg (vp_nar .byte ((2 : Int32).toInt8.toInt32))) (1 : Int32) (1 : Int32) 4) (5 : Int32) (0 : Int32) 4) (9 : Int32) (0 : Int64) 8) (23 : Int32) (pu_sumN (pu_putL (pu_putI (pu_putI (upd (bk_z 23) (0 : Int32).toNatClampNeg (vp_nar .byte ((2 : Int32).toInt8.toInt32))) (1 : Int32) (1 : Int32) 4) (5 : Int32) (0 : Int32) 4) (9 : Int32) (0 : Int64) 8) 0 (pu_start (2 : Int32)) 23) 8) ((23 : Int32) + (8 : Int32)).toNatClampNeg (vp_nar .byte (-91 : Int32)))))]) (va_A [(rr, .inr (6, [.ref ds, .ref ri, .int 0, .int 1, .int 0, .int 0])), (ri, .inl (c_ri, 32, .inl (pu_head (fun _ => 0) 1)))] sz)) 0 0 (va_A [(rr, .inr (6, [.ref ds, .ref ri, .int 0, .int 1, .int 0, .int 0])), (ri, .inl (c_ri, 32, .inl (pu_head (fun _ => 0) 1)))] sz) := by
  refine Met.ofW (cc := cX4_draw) (maxL := 7) (ret := none) (by decide) rfl ?_
  intro p e s m args below meth c s₁ B hml hv
  obtain ⟨rfl, hsz, hP, hK, hD0⟩ := hv
  have hx := B.exec
  have hb := B.bytes
  have hr := B.returns
  have hts := atoms_spec (ws := wsX4_draw) B.pre
  have hown : s.vm.findClass RX4 = some m.cls := findClass_of_methodNamed B.named
  have hlocks := B.notSynchronized
  subst hsz
  have hD := hD0.self (sz := s.heap.size)
  generalize hAe : va_A [(rr, .inr (6, [.ref ds, .ref ri, .int 0, .int 1, .int 0, .int 0])), (ri, .inl (c_ri, 32, .inl (pu_head (fun _ => 0) 1)))] s.heap.size = A at hD ⊢
  have hA : ∀ q : Nat, s.heap.size ≤ q → A q := fun q h => by rw [← hAe]; exact Or.inr h
  have hS : va_S A s.heap s.heap [] := va_S.rf
  have hl := lv_entry ([.ref rr, .int (2 : Int32), .int (1 : Int32), .int (0 : Int32), .long (0 : Int64)]) (n := 7) (Nat.le_of_ble_eq_true rfl)
  rw [lg_entry_eq]
  generalize (lg_sl ([.ref rr, .int (2 : Int32), .int (1 : Int32), .int (0 : Int32), .long (0 : Int64)]) ++ List.replicate (7 - (lg_sl ([.ref rr, .int (2 : Int32), .int (1 : Int32), .int (0 : Int32), .long (0 : Int64)])).length) Slot.unset).toArray = ls at hl ⊢
  have hl : lv_has ls 7 [(0, .ref rr), (1, .int (2 : Int32)), (2, .int (1 : Int32)), (3, .int (0 : Int32)), (4, .long (0 : Int64))] := hl
  refine lv_iconst (v := 0) hx hb dX4_draw_0 (by decide) ?_
  refine lv_istore (lv' := [(6, .int (0 : Int32)), (0, .ref rr), (1, .int (2 : Int32)), (2, .int (1 : Int32)), (3, .int (0 : Int32)), (4, .long (0 : Int64))]) hx hb dX4_draw_1 hl (by decide) rfl (fun ls hl => ?_)
  have loop : ∀ (n k : Nat) (H : Heap) (locs : List Loc) (ls : Array Slot), k ≤ 23 → 23 - k < n → va_P (dC, dI) vwCl [(rr, .inr (6, [.ref ds, .ref ri, .int 0, .int 1, .int 0, .int 0])), (ri, .inl (c_ri, 32, .inl (bk_z k)))] H → va_D A [(rr, .inr (6, [.ref ds, .ref ri, .int 0, .int 1, .int 0, .int 0])), (ri, .inl (c_ri, 32, .inl (bk_z k)))] → va_S A s.heap H locs → lv_has ls 7 [(6, .int (nI k)), (0, .ref rr), (1, .int (2 : Int32)), (2, .int (1 : Int32)), (3, .int (0 : Int32)), (4, .long (0 : Int64))] → W p l e (headSpec wsX4_draw ({ frames := 3, cells := 0, slots := 0, locals := 72 })).room s m ([.ref rr, .int (2 : Int32), .int (1 : Int32), .int (0 : Int32), .long (0 : Int64)] : List Value).toArray below meth c H locs 0 0 (MQ below (va_Qv (fun (_ : Unit) => True) (fun (_ : Unit) t => va_P (dC, dI) vwCl [(rr, .inr (6, [.ref ds, .ref ri, .int 0, .int 1, .int 0, .int 0])), (ri, .inl (c_ri, 32, .inl (upd (pu_putL (pu_putL (pu_putI (pu_putI (upd (bk_z 23) (0 : Int32).toNatClampNeg (vp_nar .byte ((2 : Int32).toInt8.toInt32))) (1 : Int32) (1 : Int32) 4) (5 : Int32) (0 : Int32) 4) (9 : Int32) (0 : Int64) 8) (23 : Int32) (pu_sumN (pu_putL (pu_putI (pu_putI (upd (bk_z 23) (0 : Int32).toNatClampNeg (vp_nar .byte ((2 : Int32).toInt8.toInt32))) (1 : Int32) (1 : Int32) 4) (5 : Int32) (0 : Int32) 4) (9 : Int32) (0 : Int64) 8) 0 (pu_start (2 : Int32)) 23) 8) ((23 : Int32) + (8 : Int32)).toNatClampNeg (vp_nar .byte (-91 : Int32)))))] t.heap ∧ va_K (dC, dI) vwCl [(c_ri, .byte)] t ∧ va_D A [(rr, .inr (6, [.ref ds, .ref ri, .int 0, .int 1, .int 0, .int 0])), (ri, .inl (c_ri, 32, .inl (upd (pu_putL (pu_putL (pu_putI (pu_putI (upd (bk_z 23) (0 : Int32).toNatClampNeg (vp_nar .byte ((2 : Int32).toInt8.toInt32))) (1 : Int32) (1 : Int32) 4) (5 : Int32) (0 : Int32) 4) (9 : Int32) (0 : Int64) 8) (23 : Int32) (pu_sumN (pu_putL (pu_putI (pu_putI (upd (bk_z 23) (0 : Int32).toNatClampNeg (vp_nar .byte ((2 : Int32).toInt8.toInt32))) (1 : Int32) (1 : Int32) 4) (5 : Int32) (0 : Int32) 4) (9 : Int32) (0 : Int64) 8) 0 (pu_start (2 : Int32)) 23) 8) ((23 : Int32) + (8 : Int32)).toNatClampNeg (vp_nar .byte (-91 : Int32)))))]) A) ([.ref rr, .int (2 : Int32), .int (1 : Int32), .int (0 : Int32), .long (0 : Int64)] : List Value).toArray s 0 0 A) (F0 m 3 ls []) := by
    intro n
    induction n with
    | zero => intro k H locs ls h1 h2; omega
    | succ n ih =>
      intro k H locs ls h1 h2 hP hD hS hl
      refine lv_iload hx hb dX4_draw_3 (lv_at hl 0 rfl) ?_
      refine lv_bipush (v := 23) hx hb dX4_draw_5 (by decide) ?_
      refine lv_icmp_ge (tgt := 24) hx hb dX4_draw_7 (by decide) (fun c_1 => ?_) (fun c_1 => ?_)
      · skip
        have hk : 23 = k := by
          rcases Nat.lt_or_ge k 23 with q | q
          · exact absurd c_1 (nI_ge (b := 23) q (by decide))
          · omega
        subst hk
        refine lv_aload_n hx hb dX4_draw_24 rfl (lv_at hl 1 rfl) ?_
        refine va_get (D := (dC, dI)) (ci := 6) (v := .ref ri) (C := RX4) (T := TX4) (N := 6) hx hb hts (by decide +kernel) hown hK hP 0 rfl rfl 1 (by decide) (hts (.fieldLink RX4 15 "BlockLog$Rows" "image" "[B") (by decide +kernel)) (fun _ h9 => h9) rfl dX4_draw_25 ?_
        refine lv_iconst (v := 0) hx hb dX4_draw_28 (by decide) ?_
        refine lv_iload_n hx hb dX4_draw_29 rfl (lv_at hl 2 rfl) ?_
        refine lv_i2b hx hb dX4_draw_30 rfl ?_
        refine va_bast hx hb hK hP hD hS 1 0 rfl rfl (by unfold vp_in; decide +kernel) dX4_draw_31 (fun H locs hP hD hS => ?_)
        have hP : va_P (dC, dI) vwCl [(rr, .inr (6, [.ref ds, .ref ri, .int 0, .int 1, .int 0, .int 0])), (ri, .inl (c_ri, 32, .inl (upd (bk_z 23) (0 : Int32).toNatClampNeg (vp_nar .byte ((2 : Int32).toInt8.toInt32)))))] H := hP
        have hD : va_D A [(rr, .inr (6, [.ref ds, .ref ri, .int 0, .int 1, .int 0, .int 0])), (ri, .inl (c_ri, 32, .inl (upd (bk_z 23) (0 : Int32).toNatClampNeg (vp_nar .byte ((2 : Int32).toInt8.toInt32)))))] := hD
        refine lv_aload_n hx hb dX4_draw_32 rfl (lv_at hl 1 rfl) ?_
        refine va_get (D := (dC, dI)) (ci := 6) (v := .ref ri) (C := RX4) (T := TX4) (N := 6) hx hb hts (by decide +kernel) hown hK hP 0 rfl rfl 1 (by decide) (hts (.fieldLink RX4 15 "BlockLog$Rows" "image" "[B") (by decide +kernel)) (fun _ h9 => h9) rfl dX4_draw_33 ?_
        refine lv_iconst (v := 1) hx hb dX4_draw_36 (by decide) ?_
        refine lv_iload_n hx hb dX4_draw_37 rfl (lv_at hl 3 rfl) ?_
        have hPc := hP.sub (ws' := [(ri, .inl (c_ri, 32, .inl (upd (bk_z 23) (0 : Int32).toNatClampNeg (vp_nar .byte ((2 : Int32).toInt8.toInt32)))))]) [1] rfl
        have hKc := hK.sub (tys' := [(c_ri, .byte)]) [0] rfl
        have hDc := hD.sub (ws' := [(ri, .inl (c_ri, 32, .inl (upd (bk_z 23) (0 : Int32).toNatClampNeg (vp_nar .byte ((2 : Int32).toInt8.toInt32)))))]) [1] (by decide) rfl
        have hFc := va_free (wc := [(ri, .inl (c_ri, 32, .inl (upd (bk_z 23) (0 : Int32).toNatClampNeg (vp_nar .byte ((2 : Int32).toInt8.toInt32)))))]) hD hS hA [1] rfl
        refine va_callv (va_runS (As := [.ref ri, .int (1 : Int32), .int (1 : Int32)]) (rest := []) ⟨hx, hb, hml, hown, hts⟩ (k_X0_putInt l dC dI ri 32 c_ri (upd (bk_z 23) (0 : Int32).toNatClampNeg (vp_nar .byte ((2 : Int32).toInt8.toInt32))) (1 : Int32) (1 : Int32) _ (by unfold vp_in; decide +kernel)) (va_cwS 3 hts gX4_draw_X0_putInt rfl rfl rfl (by decide +kernel) ⟨Nat.le_of_ble_eq_true rfl, Nat.le_of_ble_eq_true rfl⟩) ⟨fun a U g mk q => by obtain ⟨q0, q1, qP, qK, qD⟩ := q; exact ⟨q0, q1, qP, va_K.moved (u := U) (U := U.calling g mk a) (Vm.Alike.refl U.vm) qK, qD⟩, fun U hU hW => ⟨rfl, by rw [hU], by rw [hU]; exact hPc, va_K.moved hW.alike hKc, hDc.weaken (fun _ _ _ _ => trivial)⟩⟩ rfl rfl hl.1 rfl (lv_room (Nat.le_of_ble_eq_true rfl)) dX4_draw_38 ⟨Nat.le_of_ble_eq_true rfl, Nat.le_of_ble_eq_true rfl⟩) hS (fun q _ h => hFc q h) hFc (fun u t H1 locs ht hvm er_2 hB hz1 hk1 hS => ?_)
        obtain ⟨hP1, hK1, hD1⟩ := hB
        rw [ht] at hP1
        obtain ⟨hP, hD⟩ := va_join (wr := [(rr, .inr (6, [.ref ds, .ref ri, .int 0, .int 1, .int 0, .int 0]))]) (w1 := [(ri, .inl (c_ri, 32, .inl (pu_putI (upd (bk_z 23) (0 : Int32).toNatClampNeg (vp_nar .byte ((2 : Int32).toInt8.toInt32))) (1 : Int32) (1 : Int32) 4)))]) hP hD [1] [0] rfl rfl (by decide) (by decide) hk1 hFc hP1 hD1
        clear hPc hDc hFc hP1 hD1 hk1 hz1
        generalize H1 = H at hP hS ⊢
        have hP : va_P (dC, dI) vwCl [(rr, .inr (6, [.ref ds, .ref ri, .int 0, .int 1, .int 0, .int 0])), (ri, .inl (c_ri, 32, .inl (pu_putI (upd (bk_z 23) (0 : Int32).toNatClampNeg (vp_nar .byte ((2 : Int32).toInt8.toInt32))) (1 : Int32) (1 : Int32) 4)))] H := hP
        have hD : va_D A [(rr, .inr (6, [.ref ds, .ref ri, .int 0, .int 1, .int 0, .int 0])), (ri, .inl (c_ri, 32, .inl (pu_putI (upd (bk_z 23) (0 : Int32).toNatClampNeg (vp_nar .byte ((2 : Int32).toInt8.toInt32))) (1 : Int32) (1 : Int32) 4)))] := hD
        refine lv_aload_n hx hb dX4_draw_41 rfl (lv_at hl 1 rfl) ?_
        refine va_get (D := (dC, dI)) (ci := 6) (v := .ref ri) (C := RX4) (T := TX4) (N := 6) hx hb hts (by decide +kernel) hown hK hP 0 rfl rfl 1 (by decide) (hts (.fieldLink RX4 15 "BlockLog$Rows" "image" "[B") (by decide +kernel)) (fun _ h9 => h9) rfl dX4_draw_42 ?_
        refine lv_iconst (v := 5) hx hb dX4_draw_45 (by decide) ?_
        refine lv_iload_n hx hb dX4_draw_46 rfl (lv_at hl 4 rfl) ?_
        have hPc := hP.sub (ws' := [(ri, .inl (c_ri, 32, .inl (pu_putI (upd (bk_z 23) (0 : Int32).toNatClampNeg (vp_nar .byte ((2 : Int32).toInt8.toInt32))) (1 : Int32) (1 : Int32) 4)))]) [1] rfl
        have hKc := hK.sub (tys' := [(c_ri, .byte)]) [0] rfl
        have hDc := hD.sub (ws' := [(ri, .inl (c_ri, 32, .inl (pu_putI (upd (bk_z 23) (0 : Int32).toNatClampNeg (vp_nar .byte ((2 : Int32).toInt8.toInt32))) (1 : Int32) (1 : Int32) 4)))]) [1] (by decide) rfl
        have hFc := va_free (wc := [(ri, .inl (c_ri, 32, .inl (pu_putI (upd (bk_z 23) (0 : Int32).toNatClampNeg (vp_nar .byte ((2 : Int32).toInt8.toInt32))) (1 : Int32) (1 : Int32) 4)))]) hD hS hA [1] rfl
        refine va_callv (va_runS (As := [.ref ri, .int (5 : Int32), .int (0 : Int32)]) (rest := []) ⟨hx, hb, hml, hown, hts⟩ (k_X0_putInt l dC dI ri 32 c_ri (pu_putI (upd (bk_z 23) (0 : Int32).toNatClampNeg (vp_nar .byte ((2 : Int32).toInt8.toInt32))) (1 : Int32) (1 : Int32) 4) (5 : Int32) (0 : Int32) _ (by unfold vp_in; decide +kernel)) (va_cwS 3 hts gX4_draw_X0_putInt rfl rfl rfl (by decide +kernel) ⟨Nat.le_of_ble_eq_true rfl, Nat.le_of_ble_eq_true rfl⟩) ⟨fun a U g mk q => by obtain ⟨q0, q1, qP, qK, qD⟩ := q; exact ⟨q0, q1, qP, va_K.moved (u := U) (U := U.calling g mk a) (Vm.Alike.refl U.vm) qK, qD⟩, fun U hU hW => ⟨rfl, by rw [hU], by rw [hU]; exact hPc, va_K.moved hW.alike hKc, hDc.weaken (fun _ _ _ _ => trivial)⟩⟩ rfl rfl hl.1 rfl (lv_room (Nat.le_of_ble_eq_true rfl)) dX4_draw_47 ⟨Nat.le_of_ble_eq_true rfl, Nat.le_of_ble_eq_true rfl⟩) hS (fun q _ h => hFc q h) hFc (fun u t H1 locs ht hvm er_3 hB hz1 hk1 hS => ?_)
        obtain ⟨hP1, hK1, hD1⟩ := hB
        rw [ht] at hP1
        obtain ⟨hP, hD⟩ := va_join (wr := [(rr, .inr (6, [.ref ds, .ref ri, .int 0, .int 1, .int 0, .int 0]))]) (w1 := [(ri, .inl (c_ri, 32, .inl (pu_putI (pu_putI (upd (bk_z 23) (0 : Int32).toNatClampNeg (vp_nar .byte ((2 : Int32).toInt8.toInt32))) (1 : Int32) (1 : Int32) 4) (5 : Int32) (0 : Int32) 4)))]) hP hD [1] [0] rfl rfl (by decide) (by decide) hk1 hFc hP1 hD1
        clear hPc hDc hFc hP1 hD1 hk1 hz1
        generalize H1 = H at hP hS ⊢
        have hP : va_P (dC, dI) vwCl [(rr, .inr (6, [.ref ds, .ref ri, .int 0, .int 1, .int 0, .int 0])), (ri, .inl (c_ri, 32, .inl (pu_putI (pu_putI (upd (bk_z 23) (0 : Int32).toNatClampNeg (vp_nar .byte ((2 : Int32).toInt8.toInt32))) (1 : Int32) (1 : Int32) 4) (5 : Int32) (0 : Int32) 4)))] H := hP
        have hD : va_D A [(rr, .inr (6, [.ref ds, .ref ri, .int 0, .int 1, .int 0, .int 0])), (ri, .inl (c_ri, 32, .inl (pu_putI (pu_putI (upd (bk_z 23) (0 : Int32).toNatClampNeg (vp_nar .byte ((2 : Int32).toInt8.toInt32))) (1 : Int32) (1 : Int32) 4) (5 : Int32) (0 : Int32) 4)))] := hD
        refine lv_aload_n hx hb dX4_draw_50 rfl (lv_at hl 1 rfl) ?_
        refine va_get (D := (dC, dI)) (ci := 6) (v := .ref ri) (C := RX4) (T := TX4) (N := 6) hx hb hts (by decide +kernel) hown hK hP 0 rfl rfl 1 (by decide) (hts (.fieldLink RX4 15 "BlockLog$Rows" "image" "[B") (by decide +kernel)) (fun _ h9 => h9) rfl dX4_draw_51 ?_
        refine lv_bipush (v := 9) hx hb dX4_draw_54 (by decide) ?_
        refine lv_lload hx hb dX4_draw_56 (lv_at hl 5 rfl) ?_
        have hPc := hP.sub (ws' := [(ri, .inl (c_ri, 32, .inl (pu_putI (pu_putI (upd (bk_z 23) (0 : Int32).toNatClampNeg (vp_nar .byte ((2 : Int32).toInt8.toInt32))) (1 : Int32) (1 : Int32) 4) (5 : Int32) (0 : Int32) 4)))]) [1] rfl
        have hKc := hK.sub (tys' := [(c_ri, .byte)]) [0] rfl
        have hDc := hD.sub (ws' := [(ri, .inl (c_ri, 32, .inl (pu_putI (pu_putI (upd (bk_z 23) (0 : Int32).toNatClampNeg (vp_nar .byte ((2 : Int32).toInt8.toInt32))) (1 : Int32) (1 : Int32) 4) (5 : Int32) (0 : Int32) 4)))]) [1] (by decide) rfl
        have hFc := va_free (wc := [(ri, .inl (c_ri, 32, .inl (pu_putI (pu_putI (upd (bk_z 23) (0 : Int32).toNatClampNeg (vp_nar .byte ((2 : Int32).toInt8.toInt32))) (1 : Int32) (1 : Int32) 4) (5 : Int32) (0 : Int32) 4)))]) hD hS hA [1] rfl
        refine va_callv (va_runS (As := [.ref ri, .int (9 : Int32), .long (0 : Int64)]) (rest := []) ⟨hx, hb, hml, hown, hts⟩ (k_X0_putLong l dC dI ri 32 c_ri (pu_putI (pu_putI (upd (bk_z 23) (0 : Int32).toNatClampNeg (vp_nar .byte ((2 : Int32).toInt8.toInt32))) (1 : Int32) (1 : Int32) 4) (5 : Int32) (0 : Int32) 4) (9 : Int32) (0 : Int64) _ (by unfold vp_in; decide +kernel)) (va_cwS 3 hts gX4_draw_X0_putLong rfl rfl rfl (by decide +kernel) ⟨Nat.le_of_ble_eq_true rfl, Nat.le_of_ble_eq_true rfl⟩) ⟨fun a U g mk q => by obtain ⟨q0, q1, qP, qK, qD⟩ := q; exact ⟨q0, q1, qP, va_K.moved (u := U) (U := U.calling g mk a) (Vm.Alike.refl U.vm) qK, qD⟩, fun U hU hW => ⟨rfl, by rw [hU], by rw [hU]; exact hPc, va_K.moved hW.alike hKc, hDc.weaken (fun _ _ _ _ => trivial)⟩⟩ rfl rfl hl.1 rfl (lv_room (Nat.le_of_ble_eq_true rfl)) dX4_draw_58 ⟨Nat.le_of_ble_eq_true rfl, Nat.le_of_ble_eq_true rfl⟩) hS (fun q _ h => hFc q h) hFc (fun u t H1 locs ht hvm er_4 hB hz1 hk1 hS => ?_)
        obtain ⟨hP1, hK1, hD1⟩ := hB
        rw [ht] at hP1
        obtain ⟨hP, hD⟩ := va_join (wr := [(rr, .inr (6, [.ref ds, .ref ri, .int 0, .int 1, .int 0, .int 0]))]) (w1 := [(ri, .inl (c_ri, 32, .inl (pu_putL (pu_putI (pu_putI (upd (bk_z 23) (0 : Int32).toNatClampNeg (vp_nar .byte ((2 : Int32).toInt8.toInt32))) (1 : Int32) (1 : Int32) 4) (5 : Int32) (0 : Int32) 4) (9 : Int32) (0 : Int64) 8)))]) hP hD [1] [0] rfl rfl (by decide) (by decide) hk1 hFc hP1 hD1
        clear hPc hDc hFc hP1 hD1 hk1 hz1
        generalize H1 = H at hP hS ⊢
        have hP : va_P (dC, dI) vwCl [(rr, .inr (6, [.ref ds, .ref ri, .int 0, .int 1, .int 0, .int 0])), (ri, .inl (c_ri, 32, .inl (pu_putL (pu_putI (pu_putI (upd (bk_z 23) (0 : Int32).toNatClampNeg (vp_nar .byte ((2 : Int32).toInt8.toInt32))) (1 : Int32) (1 : Int32) 4) (5 : Int32) (0 : Int32) 4) (9 : Int32) (0 : Int64) 8)))] H := hP
        have hD : va_D A [(rr, .inr (6, [.ref ds, .ref ri, .int 0, .int 1, .int 0, .int 0])), (ri, .inl (c_ri, 32, .inl (pu_putL (pu_putI (pu_putI (upd (bk_z 23) (0 : Int32).toNatClampNeg (vp_nar .byte ((2 : Int32).toInt8.toInt32))) (1 : Int32) (1 : Int32) 4) (5 : Int32) (0 : Int32) 4) (9 : Int32) (0 : Int64) 8)))] := hD
        refine lv_aload_n hx hb dX4_draw_61 rfl (lv_at hl 1 rfl) ?_
        refine va_get (D := (dC, dI)) (ci := 6) (v := .ref ri) (C := RX4) (T := TX4) (N := 6) hx hb hts (by decide +kernel) hown hK hP 0 rfl rfl 1 (by decide) (hts (.fieldLink RX4 15 "BlockLog$Rows" "image" "[B") (by decide +kernel)) (fun _ h9 => h9) rfl dX4_draw_62 ?_
        refine lv_bipush (v := 23) hx hb dX4_draw_65 (by decide) ?_
        refine lv_iconst (v := 2) hx hb dX4_draw_67 (by decide) ?_
        have hPc := hP.sub (ws' := [(ri, .inl (c_ri, 32, .inl (pu_putL (pu_putI (pu_putI (upd (bk_z 23) (0 : Int32).toNatClampNeg (vp_nar .byte ((2 : Int32).toInt8.toInt32))) (1 : Int32) (1 : Int32) 4) (5 : Int32) (0 : Int32) 4) (9 : Int32) (0 : Int64) 8)))]) [1] rfl
        have hKc := hK.sub (tys' := [(c_ri, .byte)]) [0] rfl
        have hDc := hD.sub (ws' := [(ri, .inl (c_ri, 32, .inl (pu_putL (pu_putI (pu_putI (upd (bk_z 23) (0 : Int32).toNatClampNeg (vp_nar .byte ((2 : Int32).toInt8.toInt32))) (1 : Int32) (1 : Int32) 4) (5 : Int32) (0 : Int32) 4) (9 : Int32) (0 : Int64) 8)))]) [1] (by decide) rfl
        have hFc := va_free (wc := [(ri, .inl (c_ri, 32, .inl (pu_putL (pu_putI (pu_putI (upd (bk_z 23) (0 : Int32).toNatClampNeg (vp_nar .byte ((2 : Int32).toInt8.toInt32))) (1 : Int32) (1 : Int32) 4) (5 : Int32) (0 : Int32) 4) (9 : Int32) (0 : Int64) 8)))]) hD hS hA [1] rfl
        refine va_callv (va_runS (As := [.ref ri, .int (23 : Int32), .int (2 : Int32)]) (rest := []) ⟨hx, hb, hml, hown, hts⟩ (k_X0_close_1 l dC dI ri c_ri _) (va_cwS 3 hts gX4_draw_X0_close rfl rfl rfl (by decide +kernel) ⟨Nat.le_of_ble_eq_true rfl, Nat.le_of_ble_eq_true rfl⟩) ⟨fun a U g mk q => by obtain ⟨q0, q1, qP, qK, qD⟩ := q; exact ⟨q0, q1, qP, va_K.moved (u := U) (U := U.calling g mk a) (Vm.Alike.refl U.vm) qK, qD⟩, fun U hU hW => ⟨rfl, by rw [hU], by rw [hU]; exact hPc, va_K.moved hW.alike hKc, hDc.weaken (fun _ _ _ _ => trivial)⟩⟩ rfl rfl hl.1 rfl (lv_room (Nat.le_of_ble_eq_true rfl)) dX4_draw_68 ⟨Nat.le_of_ble_eq_true rfl, Nat.le_of_ble_eq_true rfl⟩) hS (fun q _ h => hFc q h) hFc (fun u t H1 locs ht hvm er_5 hB hz1 hk1 hS => ?_)
        obtain ⟨hP1, hK1, hD1⟩ := hB
        rw [ht] at hP1
        obtain ⟨hP, hD⟩ := va_join (wr := [(rr, .inr (6, [.ref ds, .ref ri, .int 0, .int 1, .int 0, .int 0]))]) (w1 := [(ri, .inl (c_ri, 32, .inl (upd (pu_putL (pu_putL (pu_putI (pu_putI (upd (bk_z 23) (0 : Int32).toNatClampNeg (vp_nar .byte ((2 : Int32).toInt8.toInt32))) (1 : Int32) (1 : Int32) 4) (5 : Int32) (0 : Int32) 4) (9 : Int32) (0 : Int64) 8) (23 : Int32) (pu_sumN (pu_putL (pu_putI (pu_putI (upd (bk_z 23) (0 : Int32).toNatClampNeg (vp_nar .byte ((2 : Int32).toInt8.toInt32))) (1 : Int32) (1 : Int32) 4) (5 : Int32) (0 : Int32) 4) (9 : Int32) (0 : Int64) 8) 0 (pu_start (2 : Int32)) 23) 8) ((23 : Int32) + (8 : Int32)).toNatClampNeg (vp_nar .byte (-91 : Int32)))))]) hP hD [1] [0] rfl rfl (by decide) (by decide) hk1 hFc hP1 hD1
        clear hPc hDc hFc hP1 hD1 hk1 hz1
        generalize H1 = H at hP hS ⊢
        have hP : va_P (dC, dI) vwCl [(rr, .inr (6, [.ref ds, .ref ri, .int 0, .int 1, .int 0, .int 0])), (ri, .inl (c_ri, 32, .inl (upd (pu_putL (pu_putL (pu_putI (pu_putI (upd (bk_z 23) (0 : Int32).toNatClampNeg (vp_nar .byte ((2 : Int32).toInt8.toInt32))) (1 : Int32) (1 : Int32) 4) (5 : Int32) (0 : Int32) 4) (9 : Int32) (0 : Int64) 8) (23 : Int32) (pu_sumN (pu_putL (pu_putI (pu_putI (upd (bk_z 23) (0 : Int32).toNatClampNeg (vp_nar .byte ((2 : Int32).toInt8.toInt32))) (1 : Int32) (1 : Int32) 4) (5 : Int32) (0 : Int32) 4) (9 : Int32) (0 : Int64) 8) 0 (pu_start (2 : Int32)) 23) 8) ((23 : Int32) + (8 : Int32)).toNatClampNeg (vp_nar .byte (-91 : Int32)))))] H := hP
        have hD : va_D A [(rr, .inr (6, [.ref ds, .ref ri, .int 0, .int 1, .int 0, .int 0])), (ri, .inl (c_ri, 32, .inl (upd (pu_putL (pu_putL (pu_putI (pu_putI (upd (bk_z 23) (0 : Int32).toNatClampNeg (vp_nar .byte ((2 : Int32).toInt8.toInt32))) (1 : Int32) (1 : Int32) 4) (5 : Int32) (0 : Int32) 4) (9 : Int32) (0 : Int64) 8) (23 : Int32) (pu_sumN (pu_putL (pu_putI (pu_putI (upd (bk_z 23) (0 : Int32).toNatClampNeg (vp_nar .byte ((2 : Int32).toInt8.toInt32))) (1 : Int32) (1 : Int32) 4) (5 : Int32) (0 : Int32) 4) (9 : Int32) (0 : Int64) 8) 0 (pu_start (2 : Int32)) 23) 8) ((23 : Int32) + (8 : Int32)).toNatClampNeg (vp_nar .byte (-91 : Int32)))))] := hD
        have hP := hP.sub (ws' := [(rr, .inr (6, [.ref ds, .ref ri, .int 0, .int 1, .int 0, .int 0])), (ri, .inl (c_ri, 32, .inl (upd (pu_putL (pu_putL (pu_putI (pu_putI (upd (bk_z 23) (0 : Int32).toNatClampNeg (vp_nar .byte ((2 : Int32).toInt8.toInt32))) (1 : Int32) (1 : Int32) 4) (5 : Int32) (0 : Int32) 4) (9 : Int32) (0 : Int64) 8) (23 : Int32) (pu_sumN (pu_putL (pu_putI (pu_putI (upd (bk_z 23) (0 : Int32).toNatClampNeg (vp_nar .byte ((2 : Int32).toInt8.toInt32))) (1 : Int32) (1 : Int32) 4) (5 : Int32) (0 : Int32) 4) (9 : Int32) (0 : Int64) 8) 0 (pu_start (2 : Int32)) 23) 8) ((23 : Int32) + (8 : Int32)).toNatClampNeg (vp_nar .byte (-91 : Int32)))))]) [0, 1] rfl
        have hD := hD.sub (ws' := [(rr, .inr (6, [.ref ds, .ref ri, .int 0, .int 1, .int 0, .int 0])), (ri, .inl (c_ri, 32, .inl (upd (pu_putL (pu_putL (pu_putI (pu_putI (upd (bk_z 23) (0 : Int32).toNatClampNeg (vp_nar .byte ((2 : Int32).toInt8.toInt32))) (1 : Int32) (1 : Int32) 4) (5 : Int32) (0 : Int32) 4) (9 : Int32) (0 : Int64) 8) (23 : Int32) (pu_sumN (pu_putL (pu_putI (pu_putI (upd (bk_z 23) (0 : Int32).toNatClampNeg (vp_nar .byte ((2 : Int32).toInt8.toInt32))) (1 : Int32) (1 : Int32) 4) (5 : Int32) (0 : Int32) 4) (9 : Int32) (0 : Int64) 8) 0 (pu_start (2 : Int32)) 23) 8) ((23 : Int32) + (8 : Int32)).toNatClampNeg (vp_nar .byte (-91 : Int32)))))]) [0, 1] (by decide) rfl
        have hK := hK.sub (tys' := [(c_ri, .byte)]) [0] rfl
        exact W.vret hx hb hr (fun t ht hW => ⟨⟨(), rfl, trivial, by rw [ht]; exact hP, va_K.moved hW.alike hK, hD⟩, hS.F ht⟩) hS.2.2 dX4_draw_71
      · skip
        have hk : k < 23 := by
          rcases Nat.lt_or_ge k 23 with q | q
          · exact q
          · exact absurd (nI_le (a := 23) q (by omega)) c_1
        refine lv_aload_n hx hb dX4_draw_10 rfl (lv_at hl 1 rfl) ?_
        refine va_get (D := (dC, dI)) (ci := 6) (v := .ref ri) (C := RX4) (T := TX4) (N := 6) hx hb hts (by decide +kernel) hown hK hP 0 rfl rfl 1 (by decide) (hts (.fieldLink RX4 15 "BlockLog$Rows" "image" "[B") (by decide +kernel)) (fun _ h9 => h9) rfl dX4_draw_11 ?_
        refine lv_iload hx hb dX4_draw_14 (lv_at hl 0 rfl) ?_
        refine lv_iconst (v := 0) hx hb dX4_draw_16 (by decide) ?_
        refine va_bast hx hb hK hP hD hS 1 0 rfl rfl (vp_in_nI (by omega) (by decide)) dX4_draw_17 (fun H locs hP hD hS => ?_)
        have hP : va_P (dC, dI) vwCl [(rr, .inr (6, [.ref ds, .ref ri, .int 0, .int 1, .int 0, .int 0])), (ri, .inl (c_ri, 32, .inl (upd (bk_z k) (nI k).toNatClampNeg (vp_nar .byte (0 : Int32)))))] H := hP
        have hD : va_D A [(rr, .inr (6, [.ref ds, .ref ri, .int 0, .int 1, .int 0, .int 0])), (ri, .inl (c_ri, 32, .inl (upd (bk_z k) (nI k).toNatClampNeg (vp_nar .byte (0 : Int32)))))] := hD
        refine lv_iinc (v := nI (k + 1)) (lv' := [(6, .int (nI (k + 1))), (0, .ref rr), (1, .int (2 : Int32)), (2, .int (1 : Int32)), (3, .int (0 : Int32)), (4, .long (0 : Int64))]) hx hb dX4_draw_18 hl (k := 0) rfl (nI_succ _).symm (by decide) rfl (fun ls hl => ?_)
        refine lv_goto (tgt := 3) hx hb dX4_draw_21 (by decide) ?_
        exact ih (k + 1) _ _ _ hk (by omega) hP hD hS (lv_sub hl [0, 1, 2, 3, 4, 5] rfl)
  exact loop (23 + 1) 0 _ _ _ (Nat.zero_le _) (by omega) hP hD hS (lv_sub hl [0, 1, 2, 3, 4, 5] rfl)

set_option maxHeartbeats 4000000 in
set_option maxRecDepth 100000 in
theorem k_X1_act_1 (l : Launch) (dC : Nat → ClassId) (dI : Nat → Nat → Nat) (ds : Nat) (pg : Int32) (dl : Nat) (dr : Nat) (dt : Nat) (k : Nat) (sz : Nat)  : Met l yX1_act wsX1_act ({ frames := 0, cells := 0, slots := 0, locals := 0 }) (va_Pc [.ref ds] (fun U => U.heap.size = sz ∧ va_P (dC, dI) vwCl [(ds, .inr (3, [.int pg, .ref dl, .ref dr, .ref dt, .int (1 : Int32), .int (-1 : Int32), .int (bk_n k)]))] U.heap ∧ va_K (dC, dI) vwCl [] U ∧ va_D (fun _ => True) [(ds, .inr (3, [.int pg, .ref dl, .ref dr, .ref dt, .int (1 : Int32), .int (-1 : Int32), .int (bk_n k)]))])) (va_Qi (fun r (_ : Unit) => r = (1 : Int32)) (fun (_ : Unit) t => va_P (dC, dI) vwCl [(ds, .inr (3, [.int pg, .ref dl, .ref dr, .ref dt, .int (1 : Int32), .int (-1 : Int32), .int ((bk_n k) + (1 : Int32))]))] t.heap ∧ va_K (dC, dI) vwCl [] t ∧ va_D (va_A [(ds, .inr (3, [.int pg, .ref dl, .ref dr, .ref dt, .int (1 : Int32), .int (-1 : Int32), .int (bk_n k)]))] sz) [(ds, .inr (3, [.int pg, .ref dl, .ref dr, .ref dt, .int (1 : Int32), .int (-1 : Int32), .int ((bk_n k) + (1 : Int32))]))]) (va_A [(ds, .inr (3, [.int pg, .ref dl, .ref dr, .ref dt, .int (1 : Int32), .int (-1 : Int32), .int (bk_n k)]))] sz)) 0 0 (va_A [(ds, .inr (3, [.int pg, .ref dl, .ref dr, .ref dt, .int (1 : Int32), .int (-1 : Int32), .int (bk_n k)]))] sz) := by
  refine Met.ofW (cc := cX1_act) (maxL := 1) (ret := (some .boolean)) (by decide) rfl ?_
  intro p e s m args below meth c s₁ B hml hv
  obtain ⟨rfl, hsz, hP, hK, hD0⟩ := hv
  have hx := B.exec
  have hb := B.bytes
  have hr := B.returns
  have hts := atoms_spec (ws := wsX1_act) B.pre
  have hown : s.vm.findClass RX1 = some m.cls := findClass_of_methodNamed B.named
  have hlocks := B.notSynchronized
  subst hsz
  have hD := hD0.self (sz := s.heap.size)
  generalize hAe : va_A [(ds, .inr (3, [.int pg, .ref dl, .ref dr, .ref dt, .int (1 : Int32), .int (-1 : Int32), .int (bk_n k)]))] s.heap.size = A at hD ⊢
  have hA : ∀ q : Nat, s.heap.size ≤ q → A q := fun q h => by rw [← hAe]; exact Or.inr h
  have hS : va_S A s.heap s.heap [] := va_S.rf
  have hl := lv_entry ([.ref ds]) (n := 1) (Nat.le_of_ble_eq_true rfl)
  rw [lg_entry_eq]
  generalize (lg_sl ([.ref ds]) ++ List.replicate (1 - (lg_sl ([.ref ds])).length) Slot.unset).toArray = ls at hl ⊢
  have hl : lv_has ls 1 [(0, .ref ds)] := hl
  refine lv_aload_n hx hb dX1_act_0 rfl (lv_at hl 0 rfl) ?_
  refine va_get (D := (dC, dI)) (ci := 3) (v := .int (1 : Int32)) (C := RX1) (T := TX1) (N := 7) hx hb hts (by decide +kernel) hown hK hP 0 rfl rfl 4 (by decide) (hts (.fieldLink RX1 29 "BlockLog$Disk" "powered" "Z") (by decide +kernel)) (fun _ h9 => h9) rfl dX1_act_1 ?_
  refine lv_if_ne (tgt := 9) hx hb dX1_act_4 (by decide) (fun c_1 => ?_) (fun c_1 => ?_)
  · skip
    refine lv_aload_n hx hb dX1_act_9 rfl (lv_at hl 0 rfl) ?_
    refine va_get (D := (dC, dI)) (ci := 3) (v := .int (-1 : Int32)) (C := RX1) (T := TX1) (N := 7) hx hb hts (by decide +kernel) hown hK hP 0 rfl rfl 5 (by decide) (hts (.fieldLink RX1 33 "BlockLog$Disk" "actsLeft" "I") (by decide +kernel)) (fun _ h9 => h9) rfl dX1_act_10 ?_
    refine lv_if_ne (tgt := 28) hx hb dX1_act_13 (by decide) (fun c_2 => ?_) (fun c_2 => ?_)
    · skip
      refine lv_aload_n hx hb dX1_act_28 rfl (lv_at hl 0 rfl) ?_
      refine va_get (D := (dC, dI)) (ci := 3) (v := .int (-1 : Int32)) (C := RX1) (T := TX1) (N := 7) hx hb hts (by decide +kernel) hown hK hP 0 rfl rfl 5 (by decide) (hts (.fieldLink RX1 33 "BlockLog$Disk" "actsLeft" "I") (by decide +kernel)) (fun _ h9 => h9) rfl dX1_act_29 ?_
      refine lv_if_le (tgt := 45) hx hb dX1_act_32 (by decide) (fun c_3 => ?_) (fun c_3 => ?_)
      · skip
        refine lv_aload_n hx hb dX1_act_45 rfl (lv_at hl 0 rfl) ?_
        refine lv_dup hx hb dX1_act_46 rfl ?_
        refine va_get (D := (dC, dI)) (ci := 3) (v := .int (bk_n k)) (C := RX1) (T := TX1) (N := 7) hx hb hts (by decide +kernel) hown hK hP 0 rfl rfl 6 (by decide) (hts (.fieldLink RX1 36 "BlockLog$Disk" "actsDone" "I") (by decide +kernel)) (fun _ h9 => h9) rfl dX1_act_47 ?_
        refine lv_iconst (v := 1) hx hb dX1_act_50 (by decide) ?_
        refine lv_iadd hx hb dX1_act_51 ?_
        refine va_put (D := (dC, dI)) (ci := 3) (v := .int ((bk_n k) + (1 : Int32))) (ty := .int) (C := RX1) (T := TX1) (N := 7) hx hb hts (by decide +kernel) tyX1 tyX1_ok nmX1 hown hK hP hD hS 0 rfl rfl 6 (by decide) (hts (.fieldLink RX1 36 "BlockLog$Disk" "actsDone" "I") (by decide +kernel)) (fun _ h9 => h9) rfl (by decide +kernel) rfl rfl (Nat.le_of_ble_eq_true rfl) dX1_act_52 (fun H locs hP hD hS => ?_)
        have hP : va_P (dC, dI) vwCl [(ds, .inr (3, [.int pg, .ref dl, .ref dr, .ref dt, .int (1 : Int32), .int (-1 : Int32), .int ((bk_n k) + (1 : Int32))]))] H := hP
        have hD : va_D A [(ds, .inr (3, [.int pg, .ref dl, .ref dr, .ref dt, .int (1 : Int32), .int (-1 : Int32), .int ((bk_n k) + (1 : Int32))]))] := hD
        refine lv_iconst (v := 1) hx hb dX1_act_55 (by decide) ?_
        have hP := hP.sub (ws' := [(ds, .inr (3, [.int pg, .ref dl, .ref dr, .ref dt, .int (1 : Int32), .int (-1 : Int32), .int ((bk_n k) + (1 : Int32))]))]) [0] rfl
        have hD := hD.sub (ws' := [(ds, .inr (3, [.int pg, .ref dl, .ref dr, .ref dt, .int (1 : Int32), .int (-1 : Int32), .int ((bk_n k) + (1 : Int32))]))]) [0] (by decide) rfl
        have hK := hK.sub (tys' := []) [] rfl
        exact W.zret hx hb hr rfl (fun t ht hW => ⟨⟨_, (), rfl, rfl, by rw [ht]; exact hP, va_K.moved hW.alike hK, hD⟩, hS.F ht⟩) hS.2.2 dX1_act_56
      · skip
        exact absurd (by decide) c_3
    · skip
      exact absurd c_2 (by decide)
  · skip
    exact absurd c_1 (by decide)

set_option maxHeartbeats 4000000 in
set_option maxRecDepth 100000 in
theorem k_X1_setLow_1 (l : Launch) (dC : Nat → ClassId) (dI : Nat → Nat → Nat) (ds : Nat) (k : Nat) (dr : Nat) (dl : Nat) (c_dr : ClassId) (c_dl : ClassId) (pg : Int32) (dt : Nat) (sz : Nat) (hf0 : 32 ≤ 32 + nI k) (hg0 : vp_in ((32 : Int32) + nI k) 8224) (hg1 : vp_in ((((32 : Int32) + nI k) - (32 : Int32)) / (32 : Int32)) 256) : Met l yX1_setLow wsX1_setLow ({ frames := 0, cells := 0, slots := 0, locals := 0 }) (va_Pc [.ref ds, .int ((32 : Int32) + (nI k)), .int (bk_img (nI k).toNatClampNeg)] (fun U => U.heap.size = sz ∧ va_P (dC, dI) vwCl [(dr, .inl (c_dr, 256, .inl (bk_rs k))), (dl, .inl (c_dl, 8224, .inl (bk_wl k))), (ds, .inr (3, [.int pg, .ref dl, .ref dr, .ref dt, .int (1 : Int32), .int (-1 : Int32), .int ((bk_n k) + (1 : Int32))]))] U.heap ∧ va_K (dC, dI) vwCl [(c_dr, .byte), (c_dl, .byte)] U ∧ va_D (fun _ => True) [(dr, .inl (c_dr, 256, .inl (bk_rs k))), (dl, .inl (c_dl, 8224, .inl (bk_wl k))), (ds, .inr (3, [.int pg, .ref dl, .ref dr, .ref dt, .int (1 : Int32), .int (-1 : Int32), .int ((bk_n k) + (1 : Int32))]))])) (va_Qv (fun (_ : Unit) => True) (fun (_ : Unit) t => va_P (dC, dI) vwCl [(dr, .inl (c_dr, 256, .inl (upd (bk_rs k) ((((32 : Int32) + (nI k)) - (32 : Int32)) / (32 : Int32)).toNatClampNeg (vp_nar .byte (0 : Int32))))), (dl, .inl (c_dl, 8224, .inl (upd (bk_wl k) ((32 : Int32) + (nI k)).toNatClampNeg (vp_nar .byte ((bk_img (nI k).toNatClampNeg).toInt8.toInt32))))), (ds, .inr (3, [.int pg, .ref dl, .ref dr, .ref dt, .int (1 : Int32), .int (-1 : Int32), .int ((bk_n k) + (1 : Int32))]))] t.heap ∧ va_K (dC, dI) vwCl [(c_dr, .byte), (c_dl, .byte)] t ∧ va_D (va_A [(dr, .inl (c_dr, 256, .inl (bk_rs k))), (dl, .inl (c_dl, 8224, .inl (bk_wl k))), (ds, .inr (3, [.int pg, .ref dl, .ref dr, .ref dt, .int (1 : Int32), .int (-1 : Int32), .int ((bk_n k) + (1 : Int32))]))] sz) [(dr, .inl (c_dr, 256, .inl (upd (bk_rs k) ((((32 : Int32) + (nI k)) - (32 : Int32)) / (32 : Int32)).toNatClampNeg (vp_nar .byte (0 : Int32))))), (dl, .inl (c_dl, 8224, .inl (upd (bk_wl k) ((32 : Int32) + (nI k)).toNatClampNeg (vp_nar .byte ((bk_img (nI k).toNatClampNeg).toInt8.toInt32))))), (ds, .inr (3, [.int pg, .ref dl, .ref dr, .ref dt, .int (1 : Int32), .int (-1 : Int32), .int ((bk_n k) + (1 : Int32))]))]) (va_A [(dr, .inl (c_dr, 256, .inl (bk_rs k))), (dl, .inl (c_dl, 8224, .inl (bk_wl k))), (ds, .inr (3, [.int pg, .ref dl, .ref dr, .ref dt, .int (1 : Int32), .int (-1 : Int32), .int ((bk_n k) + (1 : Int32))]))] sz)) 0 0 (va_A [(dr, .inl (c_dr, 256, .inl (bk_rs k))), (dl, .inl (c_dl, 8224, .inl (bk_wl k))), (ds, .inr (3, [.int pg, .ref dl, .ref dr, .ref dt, .int (1 : Int32), .int (-1 : Int32), .int ((bk_n k) + (1 : Int32))]))] sz) := by
  refine Met.ofW (cc := cX1_setLow) (maxL := 3) (ret := none) (by decide) rfl ?_
  intro p e s m args below meth c s₁ B hml hv
  obtain ⟨rfl, hsz, hP, hK, hD0⟩ := hv
  have hx := B.exec
  have hb := B.bytes
  have hr := B.returns
  have hts := atoms_spec (ws := wsX1_setLow) B.pre
  have hown : s.vm.findClass RX1 = some m.cls := findClass_of_methodNamed B.named
  have hlocks := B.notSynchronized
  subst hsz
  have hD := hD0.self (sz := s.heap.size)
  generalize hAe : va_A [(dr, .inl (c_dr, 256, .inl (bk_rs k))), (dl, .inl (c_dl, 8224, .inl (bk_wl k))), (ds, .inr (3, [.int pg, .ref dl, .ref dr, .ref dt, .int (1 : Int32), .int (-1 : Int32), .int ((bk_n k) + (1 : Int32))]))] s.heap.size = A at hD ⊢
  have hA : ∀ q : Nat, s.heap.size ≤ q → A q := fun q h => by rw [← hAe]; exact Or.inr h
  have hS : va_S A s.heap s.heap [] := va_S.rf
  have hl := lv_entry ([.ref ds, .int ((32 : Int32) + (nI k)), .int (bk_img (nI k).toNatClampNeg)]) (n := 3) (Nat.le_of_ble_eq_true rfl)
  rw [lg_entry_eq]
  generalize (lg_sl ([.ref ds, .int ((32 : Int32) + (nI k)), .int (bk_img (nI k).toNatClampNeg)]) ++ List.replicate (3 - (lg_sl ([.ref ds, .int ((32 : Int32) + (nI k)), .int (bk_img (nI k).toNatClampNeg)])).length) Slot.unset).toArray = ls at hl ⊢
  have hl : lv_has ls 3 [(0, .ref ds), (1, .int ((32 : Int32) + (nI k))), (2, .int (bk_img (nI k).toNatClampNeg))] := hl
  refine lv_aload_n hx hb dX1_setLow_0 rfl (lv_at hl 0 rfl) ?_
  refine va_get (D := (dC, dI)) (ci := 3) (v := .ref dl) (C := RX1) (T := TX1) (N := 7) hx hb hts (by decide +kernel) hown hK hP 2 rfl rfl 1 (by decide) (hts (.fieldLink RX1 15 "BlockLog$Disk" "low" "[B") (by decide +kernel)) (fun _ h9 => h9) rfl dX1_setLow_1 ?_
  refine lv_iload_n hx hb dX1_setLow_4 rfl (lv_at hl 1 rfl) ?_
  refine lv_iload_n hx hb dX1_setLow_5 rfl (lv_at hl 2 rfl) ?_
  refine lv_i2b hx hb dX1_setLow_6 rfl ?_
  refine va_bast hx hb hK hP hD hS 1 1 rfl rfl hg0 dX1_setLow_7 (fun H locs hP hD hS => ?_)
  have hP : va_P (dC, dI) vwCl [(dr, .inl (c_dr, 256, .inl (bk_rs k))), (dl, .inl (c_dl, 8224, .inl (upd (bk_wl k) ((32 : Int32) + (nI k)).toNatClampNeg (vp_nar .byte ((bk_img (nI k).toNatClampNeg).toInt8.toInt32))))), (ds, .inr (3, [.int pg, .ref dl, .ref dr, .ref dt, .int (1 : Int32), .int (-1 : Int32), .int ((bk_n k) + (1 : Int32))]))] H := hP
  have hD : va_D A [(dr, .inl (c_dr, 256, .inl (bk_rs k))), (dl, .inl (c_dl, 8224, .inl (upd (bk_wl k) ((32 : Int32) + (nI k)).toNatClampNeg (vp_nar .byte ((bk_img (nI k).toNatClampNeg).toInt8.toInt32))))), (ds, .inr (3, [.int pg, .ref dl, .ref dr, .ref dt, .int (1 : Int32), .int (-1 : Int32), .int ((bk_n k) + (1 : Int32))]))] := hD
  refine lv_iload_n hx hb dX1_setLow_8 rfl (lv_at hl 1 rfl) ?_
  refine lv_bipush (v := 32) hx hb dX1_setLow_9 (by decide) ?_
  refine lv_icmp_lt (tgt := 27) hx hb dX1_setLow_11 (by decide) (fun c_1 => ?_) (fun c_1 => ?_)
  · skip
    exact absurd c_1 (Int32.not_lt.mpr hf0)
  · skip
    refine lv_aload_n hx hb dX1_setLow_14 rfl (lv_at hl 0 rfl) ?_
    refine va_get (D := (dC, dI)) (ci := 3) (v := .ref dr) (C := RX1) (T := TX1) (N := 7) hx hb hts (by decide +kernel) hown hK hP 2 rfl rfl 2 (by decide) (hts (.fieldLink RX1 19 "BlockLog$Disk" "rowStates" "[B") (by decide +kernel)) (fun _ h9 => h9) rfl dX1_setLow_15 ?_
    refine lv_iload_n hx hb dX1_setLow_18 rfl (lv_at hl 1 rfl) ?_
    refine lv_bipush (v := 32) hx hb dX1_setLow_19 (by decide) ?_
    refine lv_isub hx hb dX1_setLow_21 ?_
    refine lv_bipush (v := 32) hx hb dX1_setLow_22 (by decide) ?_
    refine lv_idiv hx hb dX1_setLow_24 (by decide) ?_
    refine lv_iconst (v := 0) hx hb dX1_setLow_25 (by decide) ?_
    refine va_bast hx hb hK hP hD hS 0 0 rfl rfl hg1 dX1_setLow_26 (fun H locs hP hD hS => ?_)
    have hP : va_P (dC, dI) vwCl [(dr, .inl (c_dr, 256, .inl (upd (bk_rs k) ((((32 : Int32) + (nI k)) - (32 : Int32)) / (32 : Int32)).toNatClampNeg (vp_nar .byte (0 : Int32))))), (dl, .inl (c_dl, 8224, .inl (upd (bk_wl k) ((32 : Int32) + (nI k)).toNatClampNeg (vp_nar .byte ((bk_img (nI k).toNatClampNeg).toInt8.toInt32))))), (ds, .inr (3, [.int pg, .ref dl, .ref dr, .ref dt, .int (1 : Int32), .int (-1 : Int32), .int ((bk_n k) + (1 : Int32))]))] H := hP
    have hD : va_D A [(dr, .inl (c_dr, 256, .inl (upd (bk_rs k) ((((32 : Int32) + (nI k)) - (32 : Int32)) / (32 : Int32)).toNatClampNeg (vp_nar .byte (0 : Int32))))), (dl, .inl (c_dl, 8224, .inl (upd (bk_wl k) ((32 : Int32) + (nI k)).toNatClampNeg (vp_nar .byte ((bk_img (nI k).toNatClampNeg).toInt8.toInt32))))), (ds, .inr (3, [.int pg, .ref dl, .ref dr, .ref dt, .int (1 : Int32), .int (-1 : Int32), .int ((bk_n k) + (1 : Int32))]))] := hD
    have hP := hP.sub (ws' := [(dr, .inl (c_dr, 256, .inl (upd (bk_rs k) ((((32 : Int32) + (nI k)) - (32 : Int32)) / (32 : Int32)).toNatClampNeg (vp_nar .byte (0 : Int32))))), (dl, .inl (c_dl, 8224, .inl (upd (bk_wl k) ((32 : Int32) + (nI k)).toNatClampNeg (vp_nar .byte ((bk_img (nI k).toNatClampNeg).toInt8.toInt32))))), (ds, .inr (3, [.int pg, .ref dl, .ref dr, .ref dt, .int (1 : Int32), .int (-1 : Int32), .int ((bk_n k) + (1 : Int32))]))]) [0, 1, 2] rfl
    have hD := hD.sub (ws' := [(dr, .inl (c_dr, 256, .inl (upd (bk_rs k) ((((32 : Int32) + (nI k)) - (32 : Int32)) / (32 : Int32)).toNatClampNeg (vp_nar .byte (0 : Int32))))), (dl, .inl (c_dl, 8224, .inl (upd (bk_wl k) ((32 : Int32) + (nI k)).toNatClampNeg (vp_nar .byte ((bk_img (nI k).toNatClampNeg).toInt8.toInt32))))), (ds, .inr (3, [.int pg, .ref dl, .ref dr, .ref dt, .int (1 : Int32), .int (-1 : Int32), .int ((bk_n k) + (1 : Int32))]))]) [0, 1, 2] (by decide) rfl
    have hK := hK.sub (tys' := [(c_dr, .byte), (c_dl, .byte)]) [0, 1] rfl
    exact W.vret hx hb hr (fun t ht hW => ⟨⟨(), rfl, trivial, by rw [ht]; exact hP, va_K.moved hW.alike hK, hD⟩, hS.F ht⟩) hS.2.2 dX1_setLow_27

set_option maxHeartbeats 4000000 in
set_option maxRecDepth 100000 in
theorem k_X1_writeLow_1 (l : Launch) (dC : Nat → ClassId) (dI : Nat → Nat → Nat) (ds : Nat) (ri : Nat) (dr : Nat) (dl : Nat) (c_dr : ClassId) (pg : Int32) (dt : Nat) (c_dl : ClassId) (c_ri : ClassId) (sz : Nat)  : Met l yX1_writeLow wsX1_writeLow ({ frames := 1, cells := 0, slots := 0, locals := 22 }) (va_Pc [.ref ds, .int (32 : Int32), .ref ri, .int (32 : Int32)] (fun U => U.heap.size = sz ∧ va_P (dC, dI) vwCl [(dr, .inl (c_dr, 256, .inl (fun _ => 0))), (ds, .inr (3, [.int pg, .ref dl, .ref dr, .ref dt, .int (1 : Int32), .int (-1 : Int32), .int (0 : Int32)])), (dl, .inl (c_dl, 8224, .inl (va_cpy (pu_head (fun _ => 0) 1) (fun _ => 0) 0 0 16))), (ri, .inl (c_ri, 32, .inl bk_img))] U.heap ∧ va_K (dC, dI) vwCl [(c_dr, .byte), (c_dl, .byte), (c_ri, .byte)] U ∧ va_D (fun _ => True) [(dr, .inl (c_dr, 256, .inl (fun _ => 0))), (ds, .inr (3, [.int pg, .ref dl, .ref dr, .ref dt, .int (1 : Int32), .int (-1 : Int32), .int (0 : Int32)])), (dl, .inl (c_dl, 8224, .inl (va_cpy (pu_head (fun _ => 0) 1) (fun _ => 0) 0 0 16))), (ri, .inl (c_ri, 32, .inl bk_img))])) (va_Qi (fun r (_ : Unit) => r = (1 : Int32)) (fun (_ : Unit) t => va_P (dC, dI) vwCl [(dr, .inl (c_dr, 256, .inl (bk_rs 32))), (ds, .inr (3, [.int pg, .ref dl, .ref dr, .ref dt, .int (1 : Int32), .int (-1 : Int32), .int (bk_n 32)])), (dl, .inl (c_dl, 8224, .inl (bk_wl 32))), (ri, .inl (c_ri, 32, .inl bk_img))] t.heap ∧ va_K (dC, dI) vwCl [(c_dr, .byte), (c_dl, .byte), (c_ri, .byte)] t ∧ va_D (va_A [(dr, .inl (c_dr, 256, .inl (fun _ => 0))), (ds, .inr (3, [.int pg, .ref dl, .ref dr, .ref dt, .int (1 : Int32), .int (-1 : Int32), .int (0 : Int32)])), (dl, .inl (c_dl, 8224, .inl (va_cpy (pu_head (fun _ => 0) 1) (fun _ => 0) 0 0 16))), (ri, .inl (c_ri, 32, .inl bk_img))] sz) [(dr, .inl (c_dr, 256, .inl (bk_rs 32))), (ds, .inr (3, [.int pg, .ref dl, .ref dr, .ref dt, .int (1 : Int32), .int (-1 : Int32), .int (bk_n 32)])), (dl, .inl (c_dl, 8224, .inl (bk_wl 32))), (ri, .inl (c_ri, 32, .inl bk_img))]) (va_A [(dr, .inl (c_dr, 256, .inl (fun _ => 0))), (ds, .inr (3, [.int pg, .ref dl, .ref dr, .ref dt, .int (1 : Int32), .int (-1 : Int32), .int (0 : Int32)])), (dl, .inl (c_dl, 8224, .inl (va_cpy (pu_head (fun _ => 0) 1) (fun _ => 0) 0 0 16))), (ri, .inl (c_ri, 32, .inl bk_img))] sz)) 0 0 (va_A [(dr, .inl (c_dr, 256, .inl (fun _ => 0))), (ds, .inr (3, [.int pg, .ref dl, .ref dr, .ref dt, .int (1 : Int32), .int (-1 : Int32), .int (0 : Int32)])), (dl, .inl (c_dl, 8224, .inl (va_cpy (pu_head (fun _ => 0) 1) (fun _ => 0) 0 0 16))), (ri, .inl (c_ri, 32, .inl bk_img))] sz) := by
  refine Met.ofW (cc := cX1_writeLow) (maxL := 5) (ret := (some .boolean)) (by decide) rfl ?_
  intro p e s m args below meth c s₁ B hml hv
  obtain ⟨rfl, hsz, hP, hK, hD0⟩ := hv
  have hx := B.exec
  have hb := B.bytes
  have hr := B.returns
  have hts := atoms_spec (ws := wsX1_writeLow) B.pre
  have hown : s.vm.findClass RX1 = some m.cls := findClass_of_methodNamed B.named
  have hlocks := B.notSynchronized
  subst hsz
  have hD := hD0.self (sz := s.heap.size)
  generalize hAe : va_A [(dr, .inl (c_dr, 256, .inl (fun _ => 0))), (ds, .inr (3, [.int pg, .ref dl, .ref dr, .ref dt, .int (1 : Int32), .int (-1 : Int32), .int (0 : Int32)])), (dl, .inl (c_dl, 8224, .inl (va_cpy (pu_head (fun _ => 0) 1) (fun _ => 0) 0 0 16))), (ri, .inl (c_ri, 32, .inl bk_img))] s.heap.size = A at hD ⊢
  have hA : ∀ q : Nat, s.heap.size ≤ q → A q := fun q h => by rw [← hAe]; exact Or.inr h
  have hS : va_S A s.heap s.heap [] := va_S.rf
  have hl := lv_entry ([.ref ds, .int (32 : Int32), .ref ri, .int (32 : Int32)]) (n := 5) (Nat.le_of_ble_eq_true rfl)
  rw [lg_entry_eq]
  generalize (lg_sl ([.ref ds, .int (32 : Int32), .ref ri, .int (32 : Int32)]) ++ List.replicate (5 - (lg_sl ([.ref ds, .int (32 : Int32), .ref ri, .int (32 : Int32)])).length) Slot.unset).toArray = ls at hl ⊢
  have hl : lv_has ls 5 [(0, .ref ds), (1, .int (32 : Int32)), (2, .ref ri), (3, .int (32 : Int32))] := hl
  refine lv_iconst (v := 0) hx hb dX1_writeLow_0 (by decide) ?_
  refine lv_istore (lv' := [(4, .int (0 : Int32)), (0, .ref ds), (1, .int (32 : Int32)), (2, .ref ri), (3, .int (32 : Int32))]) hx hb dX1_writeLow_1 hl (by decide) rfl (fun ls hl => ?_)
  have loop : ∀ (n k : Nat) (H : Heap) (locs : List Loc) (ls : Array Slot), k ≤ 32 → 32 - k < n → va_P (dC, dI) vwCl [(dr, .inl (c_dr, 256, .inl (bk_rs k))), (ds, .inr (3, [.int pg, .ref dl, .ref dr, .ref dt, .int (1 : Int32), .int (-1 : Int32), .int (bk_n k)])), (dl, .inl (c_dl, 8224, .inl (bk_wl k))), (ri, .inl (c_ri, 32, .inl bk_img))] H → va_D A [(dr, .inl (c_dr, 256, .inl (bk_rs k))), (ds, .inr (3, [.int pg, .ref dl, .ref dr, .ref dt, .int (1 : Int32), .int (-1 : Int32), .int (bk_n k)])), (dl, .inl (c_dl, 8224, .inl (bk_wl k))), (ri, .inl (c_ri, 32, .inl bk_img))] → va_S A s.heap H locs → lv_has ls 5 [(4, .int (nI k)), (0, .ref ds), (1, .int (32 : Int32)), (2, .ref ri), (3, .int (32 : Int32))] → W p l e (headSpec wsX1_writeLow ({ frames := 1, cells := 0, slots := 0, locals := 22 })).room s m ([.ref ds, .int (32 : Int32), .ref ri, .int (32 : Int32)] : List Value).toArray below meth c H locs 0 0 (MQ below (va_Qi (fun r (_ : Unit) => r = (1 : Int32)) (fun (_ : Unit) t => va_P (dC, dI) vwCl [(dr, .inl (c_dr, 256, .inl (bk_rs 32))), (ds, .inr (3, [.int pg, .ref dl, .ref dr, .ref dt, .int (1 : Int32), .int (-1 : Int32), .int (bk_n 32)])), (dl, .inl (c_dl, 8224, .inl (bk_wl 32))), (ri, .inl (c_ri, 32, .inl bk_img))] t.heap ∧ va_K (dC, dI) vwCl [(c_dr, .byte), (c_dl, .byte), (c_ri, .byte)] t ∧ va_D A [(dr, .inl (c_dr, 256, .inl (bk_rs 32))), (ds, .inr (3, [.int pg, .ref dl, .ref dr, .ref dt, .int (1 : Int32), .int (-1 : Int32), .int (bk_n 32)])), (dl, .inl (c_dl, 8224, .inl (bk_wl 32))), (ri, .inl (c_ri, 32, .inl bk_img))]) A) ([.ref ds, .int (32 : Int32), .ref ri, .int (32 : Int32)] : List Value).toArray s 0 0 A) (F0 m 3 ls []) := by
    intro n
    induction n with
    | zero => intro k H locs ls h1 h2; omega
    | succ n ih =>
      intro k H locs ls h1 h2 hP hD hS hl
      refine lv_iload hx hb dX1_writeLow_3 (lv_at hl 0 rfl) ?_
      refine lv_iload_n hx hb dX1_writeLow_5 rfl (lv_at hl 4 rfl) ?_
      refine lv_icmp_ge (tgt := 36) hx hb dX1_writeLow_6 (by decide) (fun c_1 => ?_) (fun c_1 => ?_)
      · skip
        have hk : 32 = k := by
          rcases Nat.lt_or_ge k 32 with q | q
          · exact absurd c_1 (nI_ge (b := 32) q (by decide))
          · omega
        subst hk
        refine lv_iconst (v := 1) hx hb dX1_writeLow_36 (by decide) ?_
        have hP := hP.sub (ws' := [(dr, .inl (c_dr, 256, .inl (bk_rs 32))), (ds, .inr (3, [.int pg, .ref dl, .ref dr, .ref dt, .int (1 : Int32), .int (-1 : Int32), .int (bk_n 32)])), (dl, .inl (c_dl, 8224, .inl (bk_wl 32))), (ri, .inl (c_ri, 32, .inl bk_img))]) [0, 1, 2, 3] rfl
        have hD := hD.sub (ws' := [(dr, .inl (c_dr, 256, .inl (bk_rs 32))), (ds, .inr (3, [.int pg, .ref dl, .ref dr, .ref dt, .int (1 : Int32), .int (-1 : Int32), .int (bk_n 32)])), (dl, .inl (c_dl, 8224, .inl (bk_wl 32))), (ri, .inl (c_ri, 32, .inl bk_img))]) [0, 1, 2, 3] (by decide) rfl
        have hK := hK.sub (tys' := [(c_dr, .byte), (c_dl, .byte), (c_ri, .byte)]) [0, 1, 2] rfl
        exact W.zret hx hb hr rfl (fun t ht hW => ⟨⟨_, (), rfl, rfl, by rw [ht]; exact hP, va_K.moved hW.alike hK, hD⟩, hS.F ht⟩) hS.2.2 dX1_writeLow_37
      · skip
        have hk : k < 32 := by
          rcases Nat.lt_or_ge k 32 with q | q
          · exact q
          · exact absurd (nI_le (a := 32) q (by omega)) c_1
        refine lv_aload_n hx hb dX1_writeLow_9 rfl (lv_at hl 1 rfl) ?_
        have hPc := hP.sub (ws' := [(ds, .inr (3, [.int pg, .ref dl, .ref dr, .ref dt, .int (1 : Int32), .int (-1 : Int32), .int (bk_n k)]))]) [1] rfl
        have hKc := hK.sub (tys' := []) [] rfl
        have hDc := hD.sub (ws' := [(ds, .inr (3, [.int pg, .ref dl, .ref dr, .ref dt, .int (1 : Int32), .int (-1 : Int32), .int (bk_n k)]))]) [1] (by decide) rfl
        have hFc := va_free (wc := [(ds, .inr (3, [.int pg, .ref dl, .ref dr, .ref dt, .int (1 : Int32), .int (-1 : Int32), .int (bk_n k)]))]) hD hS hA [1] rfl
        refine va_calli (va_runV (As := []) (rest := []) ⟨hx, hb, hml, hown, hts⟩ (k_X1_act_1 l dC dI ds pg dl dr dt k _) (cwV 0 hts gX1_writeLow_X1_act rfl rfl rfl (by decide +kernel) ⟨Nat.le_of_ble_eq_true rfl, Nat.le_of_ble_eq_true rfl⟩) ⟨fun a U g mk q => by obtain ⟨q0, q1, qP, qK, qD⟩ := q; exact ⟨q0, q1, qP, va_K.moved (u := U) (U := U.calling g mk a) (Vm.Alike.refl U.vm) qK, qD⟩, va_recv hK hP (ci := 3) (q := (RX1, TX1, 7)) rfl (q0 := 1) rfl, fun U hU hW => ⟨rfl, by rw [hU], by rw [hU]; exact hPc, va_K.moved hW.alike hKc, hDc.weaken (fun _ _ _ _ => trivial)⟩⟩ rfl rfl hl.1 rfl (lv_room (Nat.le_of_ble_eq_true rfl)) dX1_writeLow_10 ⟨Nat.le_of_ble_eq_true rfl, Nat.le_of_ble_eq_true rfl⟩) hS (fun q _ h => hFc q h) hFc (fun r_2 u t H1 locs ht hvm er_2 hB hz1 hk1 hS => ?_)
        obtain ⟨hP1, hK1, hD1⟩ := hB
        rw [ht] at hP1
        obtain ⟨hP, hD⟩ := va_join (wr := [(dr, .inl (c_dr, 256, .inl (bk_rs k))), (dl, .inl (c_dl, 8224, .inl (bk_wl k))), (ri, .inl (c_ri, 32, .inl bk_img))]) (w1 := [(ds, .inr (3, [.int pg, .ref dl, .ref dr, .ref dt, .int (1 : Int32), .int (-1 : Int32), .int ((bk_n k) + (1 : Int32))]))]) hP hD [1] [0, 2, 3] rfl rfl (by decide) (by decide) hk1 hFc hP1 hD1
        clear hPc hDc hFc hP1 hD1 hk1 hz1
        generalize H1 = H at hP hS ⊢
        have hP : va_P (dC, dI) vwCl [(dr, .inl (c_dr, 256, .inl (bk_rs k))), (dl, .inl (c_dl, 8224, .inl (bk_wl k))), (ri, .inl (c_ri, 32, .inl bk_img)), (ds, .inr (3, [.int pg, .ref dl, .ref dr, .ref dt, .int (1 : Int32), .int (-1 : Int32), .int ((bk_n k) + (1 : Int32))]))] H := hP
        have hD : va_D A [(dr, .inl (c_dr, 256, .inl (bk_rs k))), (dl, .inl (c_dl, 8224, .inl (bk_wl k))), (ri, .inl (c_ri, 32, .inl bk_img)), (ds, .inr (3, [.int pg, .ref dl, .ref dr, .ref dt, .int (1 : Int32), .int (-1 : Int32), .int ((bk_n k) + (1 : Int32))]))] := hD
        subst er_2
        refine lv_if_ne (tgt := 18) hx hb dX1_writeLow_13 (by decide) (fun c_3 => ?_) (fun c_3 => ?_)
        · skip
          refine lv_aload_n hx hb dX1_writeLow_18 rfl (lv_at hl 1 rfl) ?_
          refine lv_iload_n hx hb dX1_writeLow_19 rfl (lv_at hl 2 rfl) ?_
          refine lv_iload hx hb dX1_writeLow_20 (lv_at hl 0 rfl) ?_
          refine lv_iadd hx hb dX1_writeLow_22 ?_
          refine lv_aload_n hx hb dX1_writeLow_23 rfl (lv_at hl 3 rfl) ?_
          refine lv_iload hx hb dX1_writeLow_24 (lv_at hl 0 rfl) ?_
          refine va_bald hx hb hK hP 2 2 rfl rfl (vp_in_nI (by omega) (by decide)) dX1_writeLow_26 ?_
          have hPc := hP.sub (ws' := [(dr, .inl (c_dr, 256, .inl (bk_rs k))), (dl, .inl (c_dl, 8224, .inl (bk_wl k))), (ds, .inr (3, [.int pg, .ref dl, .ref dr, .ref dt, .int (1 : Int32), .int (-1 : Int32), .int ((bk_n k) + (1 : Int32))]))]) [0, 1, 3] rfl
          have hKc := hK.sub (tys' := [(c_dr, .byte), (c_dl, .byte)]) [0, 1] rfl
          have hDc := hD.sub (ws' := [(dr, .inl (c_dr, 256, .inl (bk_rs k))), (dl, .inl (c_dl, 8224, .inl (bk_wl k))), (ds, .inr (3, [.int pg, .ref dl, .ref dr, .ref dt, .int (1 : Int32), .int (-1 : Int32), .int ((bk_n k) + (1 : Int32))]))]) [0, 1, 3] (by decide) rfl
          have hFc := va_free (wc := [(dr, .inl (c_dr, 256, .inl (bk_rs k))), (dl, .inl (c_dl, 8224, .inl (bk_wl k))), (ds, .inr (3, [.int pg, .ref dl, .ref dr, .ref dt, .int (1 : Int32), .int (-1 : Int32), .int ((bk_n k) + (1 : Int32))]))]) hD hS hA [0, 1, 3] rfl
          refine va_callv (va_runV (As := [.int ((32 : Int32) + (nI k)), .int (bk_img (nI k).toNatClampNeg)]) (rest := []) ⟨hx, hb, hml, hown, hts⟩ (k_X1_setLow_1 l dC dI ds k dr dl c_dr c_dl pg dt _ (bk_1 k hk) (bk_2 k hk) (bk_3 k hk)) (cwV 2 hts gX1_writeLow_X1_setLow rfl rfl rfl (by decide +kernel) ⟨Nat.le_of_ble_eq_true rfl, Nat.le_of_ble_eq_true rfl⟩) ⟨fun a U g mk q => by obtain ⟨q0, q1, qP, qK, qD⟩ := q; exact ⟨q0, q1, qP, va_K.moved (u := U) (U := U.calling g mk a) (Vm.Alike.refl U.vm) qK, qD⟩, va_recv hK hP (ci := 3) (q := (RX1, TX1, 7)) rfl (q0 := 3) rfl, fun U hU hW => ⟨rfl, by rw [hU], by rw [hU]; exact hPc, va_K.moved hW.alike hKc, hDc.weaken (fun _ _ _ _ => trivial)⟩⟩ rfl rfl hl.1 rfl (lv_room (Nat.le_of_ble_eq_true rfl)) dX1_writeLow_27 ⟨Nat.le_of_ble_eq_true rfl, Nat.le_of_ble_eq_true rfl⟩) hS (fun q _ h => hFc q h) hFc (fun u t H1 locs ht hvm er_4 hB hz1 hk1 hS => ?_)
          obtain ⟨hP1, hK1, hD1⟩ := hB
          rw [ht] at hP1
          obtain ⟨hP, hD⟩ := va_join (wr := [(ri, .inl (c_ri, 32, .inl bk_img))]) (w1 := [(dr, .inl (c_dr, 256, .inl (upd (bk_rs k) ((((32 : Int32) + (nI k)) - (32 : Int32)) / (32 : Int32)).toNatClampNeg (vp_nar .byte (0 : Int32))))), (dl, .inl (c_dl, 8224, .inl (upd (bk_wl k) ((32 : Int32) + (nI k)).toNatClampNeg (vp_nar .byte ((bk_img (nI k).toNatClampNeg).toInt8.toInt32))))), (ds, .inr (3, [.int pg, .ref dl, .ref dr, .ref dt, .int (1 : Int32), .int (-1 : Int32), .int ((bk_n k) + (1 : Int32))]))]) hP hD [0, 1, 3] [2] rfl rfl (by decide) (by decide) hk1 hFc hP1 hD1
          clear hPc hDc hFc hP1 hD1 hk1 hz1
          generalize H1 = H at hP hS ⊢
          have hP : va_P (dC, dI) vwCl [(ri, .inl (c_ri, 32, .inl bk_img)), (dr, .inl (c_dr, 256, .inl (upd (bk_rs k) ((((32 : Int32) + (nI k)) - (32 : Int32)) / (32 : Int32)).toNatClampNeg (vp_nar .byte (0 : Int32))))), (dl, .inl (c_dl, 8224, .inl (upd (bk_wl k) ((32 : Int32) + (nI k)).toNatClampNeg (vp_nar .byte ((bk_img (nI k).toNatClampNeg).toInt8.toInt32))))), (ds, .inr (3, [.int pg, .ref dl, .ref dr, .ref dt, .int (1 : Int32), .int (-1 : Int32), .int ((bk_n k) + (1 : Int32))]))] H := hP
          have hD : va_D A [(ri, .inl (c_ri, 32, .inl bk_img)), (dr, .inl (c_dr, 256, .inl (upd (bk_rs k) ((((32 : Int32) + (nI k)) - (32 : Int32)) / (32 : Int32)).toNatClampNeg (vp_nar .byte (0 : Int32))))), (dl, .inl (c_dl, 8224, .inl (upd (bk_wl k) ((32 : Int32) + (nI k)).toNatClampNeg (vp_nar .byte ((bk_img (nI k).toNatClampNeg).toInt8.toInt32))))), (ds, .inr (3, [.int pg, .ref dl, .ref dr, .ref dt, .int (1 : Int32), .int (-1 : Int32), .int ((bk_n k) + (1 : Int32))]))] := hD
          refine lv_iinc (v := nI (k + 1)) (lv' := [(4, .int (nI (k + 1))), (0, .ref ds), (1, .int (32 : Int32)), (2, .ref ri), (3, .int (32 : Int32))]) hx hb dX1_writeLow_30 hl (k := 0) rfl (nI_succ _).symm (by decide) rfl (fun ls hl => ?_)
          refine lv_goto (tgt := 3) hx hb dX1_writeLow_33 (by decide) ?_
          have hP := hP.sub (ws' := [(dr, .inl (c_dr, 256, .inl (upd (bk_rs k) ((((32 : Int32) + (nI k)) - (32 : Int32)) / (32 : Int32)).toNatClampNeg (vp_nar .byte (0 : Int32))))), (ds, .inr (3, [.int pg, .ref dl, .ref dr, .ref dt, .int (1 : Int32), .int (-1 : Int32), .int ((bk_n k) + (1 : Int32))])), (dl, .inl (c_dl, 8224, .inl (upd (bk_wl k) ((32 : Int32) + (nI k)).toNatClampNeg (vp_nar .byte ((bk_img (nI k).toNatClampNeg).toInt8.toInt32))))), (ri, .inl (c_ri, 32, .inl bk_img))]) [1, 3, 2, 0] rfl
          have hD := hD.sub (ws' := [(dr, .inl (c_dr, 256, .inl (upd (bk_rs k) ((((32 : Int32) + (nI k)) - (32 : Int32)) / (32 : Int32)).toNatClampNeg (vp_nar .byte (0 : Int32))))), (ds, .inr (3, [.int pg, .ref dl, .ref dr, .ref dt, .int (1 : Int32), .int (-1 : Int32), .int ((bk_n k) + (1 : Int32))])), (dl, .inl (c_dl, 8224, .inl (upd (bk_wl k) ((32 : Int32) + (nI k)).toNatClampNeg (vp_nar .byte ((bk_img (nI k).toNatClampNeg).toInt8.toInt32))))), (ri, .inl (c_ri, 32, .inl bk_img))]) [1, 3, 2, 0] (by decide) rfl
          exact ih (k + 1) _ _ _ hk (by omega) hP hD hS (lv_sub hl [0, 1, 2, 3, 4] rfl)
        · skip
          exact absurd c_3 (by decide)
  exact loop (32 + 1) 0 _ _ _ (Nat.zero_le _) (by omega) hP hD hS (lv_sub hl [0, 1, 2, 3, 4] rfl)

set_option maxHeartbeats 4000000 in
set_option maxRecDepth 100000 in
theorem k_X4_writeImage_1 (l : Launch) (dC : Nat → ClassId) (dI : Nat → Nat → Nat) (rr : Nat) (dr : Nat) (ds : Nat) (dl : Nat) (ri : Nat) (c_dr : ClassId) (pg : Int32) (dt : Nat) (c_dl : ClassId) (c_ri : ClassId) (sz : Nat)  : Met l yX4_writeImage wsX4_writeImage ({ frames := 2, cells := 0, slots := 0, locals := 46 }) (va_Pc [.ref rr, .int 0, .int 0] (fun U => U.heap.size = sz ∧ va_P (dC, dI) vwCl [(dr, .inl (c_dr, 256, .inl (fun _ => 0))), (ds, .inr (3, [.int pg, .ref dl, .ref dr, .ref dt, .int (1 : Int32), .int (-1 : Int32), .int (0 : Int32)])), (dl, .inl (c_dl, 8224, .inl (va_cpy (pu_head (fun _ => 0) 1) (fun _ => 0) 0 0 16))), (rr, .inr (6, [.ref ds, .ref ri, .int 0, .int 1, .int 0, .int 0])), (ri, .inl (c_ri, 32, .inl bk_img))] U.heap ∧ va_K (dC, dI) vwCl [(c_dr, .byte), (c_dl, .byte), (c_ri, .byte)] U ∧ va_D (fun _ => True) [(dr, .inl (c_dr, 256, .inl (fun _ => 0))), (ds, .inr (3, [.int pg, .ref dl, .ref dr, .ref dt, .int (1 : Int32), .int (-1 : Int32), .int (0 : Int32)])), (dl, .inl (c_dl, 8224, .inl (va_cpy (pu_head (fun _ => 0) 1) (fun _ => 0) 0 0 16))), (rr, .inr (6, [.ref ds, .ref ri, .int 0, .int 1, .int 0, .int 0])), (ri, .inl (c_ri, 32, .inl bk_img))])) (va_Qi (fun r (_ : Unit) => r = (1 : Int32)) (fun (_ : Unit) t => va_P (dC, dI) vwCl [(rr, .inr (6, [.ref ds, .ref ri, .int 0, .int 1, .int 0, .int 0])), (dr, .inl (c_dr, 256, .inl (bk_rs 32))), (ds, .inr (3, [.int pg, .ref dl, .ref dr, .ref dt, .int (1 : Int32), .int (-1 : Int32), .int (bk_n 32)])), (dl, .inl (c_dl, 8224, .inl (bk_wl 32))), (ri, .inl (c_ri, 32, .inl bk_img))] t.heap ∧ va_K (dC, dI) vwCl [(c_dr, .byte), (c_dl, .byte), (c_ri, .byte)] t ∧ va_D (va_A [(dr, .inl (c_dr, 256, .inl (fun _ => 0))), (ds, .inr (3, [.int pg, .ref dl, .ref dr, .ref dt, .int (1 : Int32), .int (-1 : Int32), .int (0 : Int32)])), (dl, .inl (c_dl, 8224, .inl (va_cpy (pu_head (fun _ => 0) 1) (fun _ => 0) 0 0 16))), (rr, .inr (6, [.ref ds, .ref ri, .int 0, .int 1, .int 0, .int 0])), (ri, .inl (c_ri, 32, .inl bk_img))] sz) [(rr, .inr (6, [.ref ds, .ref ri, .int 0, .int 1, .int 0, .int 0])), (dr, .inl (c_dr, 256, .inl (bk_rs 32))), (ds, .inr (3, [.int pg, .ref dl, .ref dr, .ref dt, .int (1 : Int32), .int (-1 : Int32), .int (bk_n 32)])), (dl, .inl (c_dl, 8224, .inl (bk_wl 32))), (ri, .inl (c_ri, 32, .inl bk_img))]) (va_A [(dr, .inl (c_dr, 256, .inl (fun _ => 0))), (ds, .inr (3, [.int pg, .ref dl, .ref dr, .ref dt, .int (1 : Int32), .int (-1 : Int32), .int (0 : Int32)])), (dl, .inl (c_dl, 8224, .inl (va_cpy (pu_head (fun _ => 0) 1) (fun _ => 0) 0 0 16))), (rr, .inr (6, [.ref ds, .ref ri, .int 0, .int 1, .int 0, .int 0])), (ri, .inl (c_ri, 32, .inl bk_img))] sz)) 0 0 (va_A [(dr, .inl (c_dr, 256, .inl (fun _ => 0))), (ds, .inr (3, [.int pg, .ref dl, .ref dr, .ref dt, .int (1 : Int32), .int (-1 : Int32), .int (0 : Int32)])), (dl, .inl (c_dl, 8224, .inl (va_cpy (pu_head (fun _ => 0) 1) (fun _ => 0) 0 0 16))), (rr, .inr (6, [.ref ds, .ref ri, .int 0, .int 1, .int 0, .int 0])), (ri, .inl (c_ri, 32, .inl bk_img))] sz) := by
  refine Met.ofW (cc := cX4_writeImage) (maxL := 3) (ret := (some .boolean)) (by decide) rfl ?_
  intro p e s m args below meth c s₁ B hml hv
  obtain ⟨rfl, hsz, hP, hK, hD0⟩ := hv
  have hx := B.exec
  have hb := B.bytes
  have hr := B.returns
  have hts := atoms_spec (ws := wsX4_writeImage) B.pre
  have hown : s.vm.findClass RX4 = some m.cls := findClass_of_methodNamed B.named
  have hlocks := B.notSynchronized
  subst hsz
  have hD := hD0.self (sz := s.heap.size)
  generalize hAe : va_A [(dr, .inl (c_dr, 256, .inl (fun _ => 0))), (ds, .inr (3, [.int pg, .ref dl, .ref dr, .ref dt, .int (1 : Int32), .int (-1 : Int32), .int (0 : Int32)])), (dl, .inl (c_dl, 8224, .inl (va_cpy (pu_head (fun _ => 0) 1) (fun _ => 0) 0 0 16))), (rr, .inr (6, [.ref ds, .ref ri, .int 0, .int 1, .int 0, .int 0])), (ri, .inl (c_ri, 32, .inl bk_img))] s.heap.size = A at hD ⊢
  have hA : ∀ q : Nat, s.heap.size ≤ q → A q := fun q h => by rw [← hAe]; exact Or.inr h
  have hS : va_S A s.heap s.heap [] := va_S.rf
  have hl := lv_entry ([.ref rr, .int 0, .int 0]) (n := 3) (Nat.le_of_ble_eq_true rfl)
  rw [lg_entry_eq]
  generalize (lg_sl ([.ref rr, .int 0, .int 0]) ++ List.replicate (3 - (lg_sl ([.ref rr, .int 0, .int 0])).length) Slot.unset).toArray = ls at hl ⊢
  have hl : lv_has ls 3 [(0, .ref rr), (1, .int 0), (2, .int 0)] := hl
  refine lv_aload_n hx hb dX4_writeImage_0 rfl (lv_at hl 0 rfl) ?_
  refine va_get (D := (dC, dI)) (ci := 6) (v := .ref ds) (C := RX4) (T := TX4) (N := 6) hx hb hts (by decide +kernel) hown hK hP 3 rfl rfl 0 (by decide) (hts (.fieldLink RX4 9 "BlockLog$Rows" "disk" "LBlockLog$Disk;") (by decide +kernel)) (fun _ h9 => h9) rfl dX4_writeImage_1 ?_
  refine lv_bipush (v := 32) hx hb dX4_writeImage_4 (by decide) ?_
  refine lv_sipush (v := 4096) hx hb dX4_writeImage_6 (by decide) ?_
  refine lv_iload_n hx hb dX4_writeImage_9 rfl (lv_at hl 1 rfl) ?_
  refine lv_imul hx hb dX4_writeImage_10 ?_
  refine lv_iadd hx hb dX4_writeImage_11 ?_
  refine lv_bipush (v := 32) hx hb dX4_writeImage_12 (by decide) ?_
  refine lv_iload_n hx hb dX4_writeImage_14 rfl (lv_at hl 2 rfl) ?_
  refine lv_imul hx hb dX4_writeImage_15 ?_
  refine lv_iadd hx hb dX4_writeImage_16 ?_
  refine lv_aload_n hx hb dX4_writeImage_17 rfl (lv_at hl 0 rfl) ?_
  refine va_get (D := (dC, dI)) (ci := 6) (v := .ref ri) (C := RX4) (T := TX4) (N := 6) hx hb hts (by decide +kernel) hown hK hP 3 rfl rfl 1 (by decide) (hts (.fieldLink RX4 15 "BlockLog$Rows" "image" "[B") (by decide +kernel)) (fun _ h9 => h9) rfl dX4_writeImage_18 ?_
  refine lv_bipush (v := 32) hx hb dX4_writeImage_21 (by decide) ?_
  have e9 : ((32 : Int32) + ((4096 : Int32) * 0)) + ((32 : Int32) * 0) = (32 : Int32) := by decide +kernel
  rw [e9]
  clear e9
  have hPc := hP.sub (ws' := [(dr, .inl (c_dr, 256, .inl (fun _ => 0))), (ds, .inr (3, [.int pg, .ref dl, .ref dr, .ref dt, .int (1 : Int32), .int (-1 : Int32), .int (0 : Int32)])), (dl, .inl (c_dl, 8224, .inl (va_cpy (pu_head (fun _ => 0) 1) (fun _ => 0) 0 0 16))), (ri, .inl (c_ri, 32, .inl bk_img))]) [0, 1, 2, 4] rfl
  have hKc := hK.sub (tys' := [(c_dr, .byte), (c_dl, .byte), (c_ri, .byte)]) [0, 1, 2] rfl
  have hDc := hD.sub (ws' := [(dr, .inl (c_dr, 256, .inl (fun _ => 0))), (ds, .inr (3, [.int pg, .ref dl, .ref dr, .ref dt, .int (1 : Int32), .int (-1 : Int32), .int (0 : Int32)])), (dl, .inl (c_dl, 8224, .inl (va_cpy (pu_head (fun _ => 0) 1) (fun _ => 0) 0 0 16))), (ri, .inl (c_ri, 32, .inl bk_img))]) [0, 1, 2, 4] (by decide) rfl
  have hFc := va_free (wc := [(dr, .inl (c_dr, 256, .inl (fun _ => 0))), (ds, .inr (3, [.int pg, .ref dl, .ref dr, .ref dt, .int (1 : Int32), .int (-1 : Int32), .int (0 : Int32)])), (dl, .inl (c_dl, 8224, .inl (va_cpy (pu_head (fun _ => 0) 1) (fun _ => 0) 0 0 16))), (ri, .inl (c_ri, 32, .inl bk_img))]) hD hS hA [0, 1, 2, 4] rfl
  refine va_calli (va_runV (As := [.int (32 : Int32), .ref ri, .int (32 : Int32)]) (rest := []) ⟨hx, hb, hml, hown, hts⟩ (k_X1_writeLow_1 l dC dI ds ri dr dl c_dr pg dt c_dl c_ri _) (cwV 3 hts gX4_writeImage_X1_writeLow rfl rfl rfl (by decide +kernel) ⟨Nat.le_of_ble_eq_true rfl, Nat.le_of_ble_eq_true rfl⟩) ⟨fun a U g mk q => by obtain ⟨q0, q1, qP, qK, qD⟩ := q; exact ⟨q0, q1, qP, va_K.moved (u := U) (U := U.calling g mk a) (Vm.Alike.refl U.vm) qK, qD⟩, va_recv hK hP (ci := 3) (q := (RX1, TX1, 7)) rfl (q0 := 1) rfl, fun U hU hW => ⟨rfl, by rw [hU], by rw [hU]; exact hPc, va_K.moved hW.alike hKc, hDc.weaken (fun _ _ _ _ => trivial)⟩⟩ rfl rfl hl.1 rfl (lv_room (Nat.le_of_ble_eq_true rfl)) dX4_writeImage_23 ⟨Nat.le_of_ble_eq_true rfl, Nat.le_of_ble_eq_true rfl⟩) hS (fun q _ h => hFc q h) hFc (fun r_1 u t H1 locs ht hvm er_1 hB hz1 hk1 hS => ?_)
  obtain ⟨hP1, hK1, hD1⟩ := hB
  rw [ht] at hP1
  obtain ⟨hP, hD⟩ := va_join (wr := [(rr, .inr (6, [.ref ds, .ref ri, .int 0, .int 1, .int 0, .int 0]))]) (w1 := [(dr, .inl (c_dr, 256, .inl (bk_rs 32))), (ds, .inr (3, [.int pg, .ref dl, .ref dr, .ref dt, .int (1 : Int32), .int (-1 : Int32), .int (bk_n 32)])), (dl, .inl (c_dl, 8224, .inl (bk_wl 32))), (ri, .inl (c_ri, 32, .inl bk_img))]) hP hD [0, 1, 2, 4] [3] rfl rfl (by decide) (by decide) hk1 hFc hP1 hD1
  clear hPc hDc hFc hP1 hD1 hk1 hz1
  generalize H1 = H at hP hS ⊢
  have hP : va_P (dC, dI) vwCl [(rr, .inr (6, [.ref ds, .ref ri, .int 0, .int 1, .int 0, .int 0])), (dr, .inl (c_dr, 256, .inl (bk_rs 32))), (ds, .inr (3, [.int pg, .ref dl, .ref dr, .ref dt, .int (1 : Int32), .int (-1 : Int32), .int (bk_n 32)])), (dl, .inl (c_dl, 8224, .inl (bk_wl 32))), (ri, .inl (c_ri, 32, .inl bk_img))] H := hP
  have hD : va_D A [(rr, .inr (6, [.ref ds, .ref ri, .int 0, .int 1, .int 0, .int 0])), (dr, .inl (c_dr, 256, .inl (bk_rs 32))), (ds, .inr (3, [.int pg, .ref dl, .ref dr, .ref dt, .int (1 : Int32), .int (-1 : Int32), .int (bk_n 32)])), (dl, .inl (c_dl, 8224, .inl (bk_wl 32))), (ri, .inl (c_ri, 32, .inl bk_img))] := hD
  subst er_1
  have hP := hP.sub (ws' := [(rr, .inr (6, [.ref ds, .ref ri, .int 0, .int 1, .int 0, .int 0])), (dr, .inl (c_dr, 256, .inl (bk_rs 32))), (ds, .inr (3, [.int pg, .ref dl, .ref dr, .ref dt, .int (1 : Int32), .int (-1 : Int32), .int (bk_n 32)])), (dl, .inl (c_dl, 8224, .inl (bk_wl 32))), (ri, .inl (c_ri, 32, .inl bk_img))]) [0, 1, 2, 3, 4] rfl
  have hD := hD.sub (ws' := [(rr, .inr (6, [.ref ds, .ref ri, .int 0, .int 1, .int 0, .int 0])), (dr, .inl (c_dr, 256, .inl (bk_rs 32))), (ds, .inr (3, [.int pg, .ref dl, .ref dr, .ref dt, .int (1 : Int32), .int (-1 : Int32), .int (bk_n 32)])), (dl, .inl (c_dl, 8224, .inl (bk_wl 32))), (ri, .inl (c_ri, 32, .inl bk_img))]) [0, 1, 2, 3, 4] (by decide) rfl
  have hK := hK.sub (tys' := [(c_dr, .byte), (c_dl, .byte), (c_ri, .byte)]) [0, 1, 2] rfl
  exact W.zret hx hb hr rfl (fun t ht hW => ⟨⟨_, (), rfl, rfl, by rw [ht]; exact hP, va_K.moved hW.alike hK, hD⟩, hS.F ht⟩) hS.2.2 dX4_writeImage_26

set_option maxHeartbeats 4000000 in
set_option maxRecDepth 100000 in
theorem k_X4_write_1 (l : Launch) (dC : Nat → ClassId) (dI : Nat → Nat → Nat) (rr : Nat) (dr : Nat) (ds : Nat) (dl : Nat) (ri : Nat) (c_dr : ClassId) (pg : Int32) (dt : Nat) (c_dl : ClassId) (c_ri : ClassId) (sz : Nat)  : Met l yX4_write wsX4_write ({ frames := 4, cells := 0, slots := 0, locals := 98 }) (va_Pc [.ref rr, .int (2 : Int32), .int (1 : Int32), .int (0 : Int32), .long (0 : Int64)] (fun U => U.heap.size = sz ∧ va_P (dC, dI) vwCl [(dr, .inl (c_dr, 256, .inl (fun _ => 0))), (rr, .inr (6, [.ref ds, .ref ri, .int 0, .int 1, .int 0, .int 0])), (ds, .inr (3, [.int pg, .ref dl, .ref dr, .ref dt, .int (1 : Int32), .int (-1 : Int32), .int (0 : Int32)])), (dl, .inl (c_dl, 8224, .inl (va_cpy (pu_head (fun _ => 0) 1) (fun _ => 0) 0 0 16))), (ri, .inl (c_ri, 32, .inl (pu_head (fun _ => 0) 1)))] U.heap ∧ va_K (dC, dI) vwCl [(c_dr, .byte), (c_dl, .byte), (c_ri, .byte)] U ∧ va_D (fun _ => True) [(dr, .inl (c_dr, 256, .inl (fun _ => 0))), (rr, .inr (6, [.ref ds, .ref ri, .int 0, .int 1, .int 0, .int 0])), (ds, .inr (3, [.int pg, .ref dl, .ref dr, .ref dt, .int (1 : Int32), .int (-1 : Int32), .int (0 : Int32)])), (dl, .inl (c_dl, 8224, .inl (va_cpy (pu_head (fun _ => 0) 1) (fun _ => 0) 0 0 16))), (ri, .inl (c_ri, 32, .inl (pu_head (fun _ => 0) 1)))])) (va_Qi (fun r (_ : Unit) => r = (1 : Int32)) (fun (_ : Unit) t => va_P (dC, dI) vwCl [(rr, .inr (6, [.ref ds, .ref ri, .int 0, .int 1, .int (1 : Int32), .int 0])), (dr, .inl (c_dr, 256, .inl (bk_rs 32))), (ds, .inr (3, [.int pg, .ref dl, .ref dr, .ref dt, .int (1 : Int32), .int (-1 : Int32), .int (bk_n 32)])), (dl, .inl (c_dl, 8224, .inl (bk_wl 32))), (ri, .inl (c_ri, 32, .inl bk_img))] t.heap ∧ va_K (dC, dI) vwCl [(c_dr, .byte), (c_dl, .byte), (c_ri, .byte)] t ∧ va_D (va_A [(dr, .inl (c_dr, 256, .inl (fun _ => 0))), (rr, .inr (6, [.ref ds, .ref ri, .int 0, .int 1, .int 0, .int 0])), (ds, .inr (3, [.int pg, .ref dl, .ref dr, .ref dt, .int (1 : Int32), .int (-1 : Int32), .int (0 : Int32)])), (dl, .inl (c_dl, 8224, .inl (va_cpy (pu_head (fun _ => 0) 1) (fun _ => 0) 0 0 16))), (ri, .inl (c_ri, 32, .inl (pu_head (fun _ => 0) 1)))] sz) [(rr, .inr (6, [.ref ds, .ref ri, .int 0, .int 1, .int (1 : Int32), .int 0])), (dr, .inl (c_dr, 256, .inl (bk_rs 32))), (ds, .inr (3, [.int pg, .ref dl, .ref dr, .ref dt, .int (1 : Int32), .int (-1 : Int32), .int (bk_n 32)])), (dl, .inl (c_dl, 8224, .inl (bk_wl 32))), (ri, .inl (c_ri, 32, .inl bk_img))]) (va_A [(dr, .inl (c_dr, 256, .inl (fun _ => 0))), (rr, .inr (6, [.ref ds, .ref ri, .int 0, .int 1, .int 0, .int 0])), (ds, .inr (3, [.int pg, .ref dl, .ref dr, .ref dt, .int (1 : Int32), .int (-1 : Int32), .int (0 : Int32)])), (dl, .inl (c_dl, 8224, .inl (va_cpy (pu_head (fun _ => 0) 1) (fun _ => 0) 0 0 16))), (ri, .inl (c_ri, 32, .inl (pu_head (fun _ => 0) 1)))] sz)) 0 0 (va_A [(dr, .inl (c_dr, 256, .inl (fun _ => 0))), (rr, .inr (6, [.ref ds, .ref ri, .int 0, .int 1, .int 0, .int 0])), (ds, .inr (3, [.int pg, .ref dl, .ref dr, .ref dt, .int (1 : Int32), .int (-1 : Int32), .int (0 : Int32)])), (dl, .inl (c_dl, 8224, .inl (va_cpy (pu_head (fun _ => 0) 1) (fun _ => 0) 0 0 16))), (ri, .inl (c_ri, 32, .inl (pu_head (fun _ => 0) 1)))] sz) := by
  refine Met.ofW (cc := cX4_write) (maxL := 6) (ret := (some .boolean)) (by decide) rfl ?_
  intro p e s m args below meth c s₁ B hml hv
  obtain ⟨rfl, hsz, hP, hK, hD0⟩ := hv
  have hx := B.exec
  have hb := B.bytes
  have hr := B.returns
  have hts := atoms_spec (ws := wsX4_write) B.pre
  have hown : s.vm.findClass RX4 = some m.cls := findClass_of_methodNamed B.named
  have hlocks := B.notSynchronized
  subst hsz
  have hD := hD0.self (sz := s.heap.size)
  generalize hAe : va_A [(dr, .inl (c_dr, 256, .inl (fun _ => 0))), (rr, .inr (6, [.ref ds, .ref ri, .int 0, .int 1, .int 0, .int 0])), (ds, .inr (3, [.int pg, .ref dl, .ref dr, .ref dt, .int (1 : Int32), .int (-1 : Int32), .int (0 : Int32)])), (dl, .inl (c_dl, 8224, .inl (va_cpy (pu_head (fun _ => 0) 1) (fun _ => 0) 0 0 16))), (ri, .inl (c_ri, 32, .inl (pu_head (fun _ => 0) 1)))] s.heap.size = A at hD ⊢
  have hA : ∀ q : Nat, s.heap.size ≤ q → A q := fun q h => by rw [← hAe]; exact Or.inr h
  have hS : va_S A s.heap s.heap [] := va_S.rf
  have hl := lv_entry ([.ref rr, .int (2 : Int32), .int (1 : Int32), .int (0 : Int32), .long (0 : Int64)]) (n := 6) (Nat.le_of_ble_eq_true rfl)
  rw [lg_entry_eq]
  generalize (lg_sl ([.ref rr, .int (2 : Int32), .int (1 : Int32), .int (0 : Int32), .long (0 : Int64)]) ++ List.replicate (6 - (lg_sl ([.ref rr, .int (2 : Int32), .int (1 : Int32), .int (0 : Int32), .long (0 : Int64)])).length) Slot.unset).toArray = ls at hl ⊢
  have hl : lv_has ls 6 [(0, .ref rr), (1, .int (2 : Int32)), (2, .int (1 : Int32)), (3, .int (0 : Int32)), (4, .long (0 : Int64))] := hl
  refine lv_aload_n hx hb dX4_write_0 rfl (lv_at hl 0 rfl) ?_
  refine lv_iload_n hx hb dX4_write_1 rfl (lv_at hl 1 rfl) ?_
  refine lv_iload_n hx hb dX4_write_2 rfl (lv_at hl 2 rfl) ?_
  refine lv_iload_n hx hb dX4_write_3 rfl (lv_at hl 3 rfl) ?_
  refine lv_lload hx hb dX4_write_4 (lv_at hl 4 rfl) ?_
  have hPc := hP.sub (ws' := [(rr, .inr (6, [.ref ds, .ref ri, .int 0, .int 1, .int 0, .int 0])), (ri, .inl (c_ri, 32, .inl (pu_head (fun _ => 0) 1)))]) [1, 4] rfl
  have hKc := hK.sub (tys' := [(c_ri, .byte)]) [2] rfl
  have hDc := hD.sub (ws' := [(rr, .inr (6, [.ref ds, .ref ri, .int 0, .int 1, .int 0, .int 0])), (ri, .inl (c_ri, 32, .inl (pu_head (fun _ => 0) 1)))]) [1, 4] (by decide) rfl
  have hFc := va_free (wc := [(rr, .inr (6, [.ref ds, .ref ri, .int 0, .int 1, .int 0, .int 0])), (ri, .inl (c_ri, 32, .inl (pu_head (fun _ => 0) 1)))]) hD hS hA [1, 4] rfl
  refine va_callv (va_runV (As := [.int (2 : Int32), .int (1 : Int32), .int (0 : Int32), .long (0 : Int64)]) (rest := []) ⟨hx, hb, hml, hown, hts⟩ (k_X4_draw_1 l dC dI rr ri ds c_ri _) (cwV 4 hts gX4_write_X4_draw rfl rfl rfl (by decide +kernel) ⟨Nat.le_of_ble_eq_true rfl, Nat.le_of_ble_eq_true rfl⟩) ⟨fun a U g mk q => by obtain ⟨q0, q1, qP, qK, qD⟩ := q; exact ⟨q0, q1, qP, va_K.moved (u := U) (U := U.calling g mk a) (Vm.Alike.refl U.vm) qK, qD⟩, va_recv hK hP (ci := 6) (q := (RX4, TX4, 6)) rfl (q0 := 1) rfl, fun U hU hW => ⟨rfl, by rw [hU], by rw [hU]; exact hPc, va_K.moved hW.alike hKc, hDc.weaken (fun _ _ _ _ => trivial)⟩⟩ rfl rfl hl.1 rfl (lv_room (Nat.le_of_ble_eq_true rfl)) dX4_write_6 ⟨Nat.le_of_ble_eq_true rfl, Nat.le_of_ble_eq_true rfl⟩) hS (fun q _ h => hFc q h) hFc (fun u t H1 locs ht hvm er_1 hB hz1 hk1 hS => ?_)
  obtain ⟨hP1, hK1, hD1⟩ := hB
  rw [ht] at hP1
  obtain ⟨hP, hD⟩ := va_join (wr := [(dr, .inl (c_dr, 256, .inl (fun _ => 0))), (ds, .inr (3, [.int pg, .ref dl, .ref dr, .ref dt, .int (1 : Int32), .int (-1 : Int32), .int (0 : Int32)])), (dl, .inl (c_dl, 8224, .inl (va_cpy (pu_head (fun _ => 0) 1) (fun _ => 0) 0 0 16)))]) (w1 := [(rr, .inr (6, [.ref ds, .ref ri, .int 0, .int 1, .int 0, .int 0])), (ri, .inl (c_ri, 32, .inl (upd (pu_putL (pu_putL (pu_putI (pu_putI (upd (bk_z 23) (0 : Int32).toNatClampNeg (vp_nar .byte ((2 : Int32).toInt8.toInt32))) (1 : Int32) (1 : Int32) 4) (5 : Int32) (0 : Int32) 4) (9 : Int32) (0 : Int64) 8) (23 : Int32) (pu_sumN (pu_putL (pu_putI (pu_putI (upd (bk_z 23) (0 : Int32).toNatClampNeg (vp_nar .byte ((2 : Int32).toInt8.toInt32))) (1 : Int32) (1 : Int32) 4) (5 : Int32) (0 : Int32) 4) (9 : Int32) (0 : Int64) 8) 0 (pu_start (2 : Int32)) 23) 8) ((23 : Int32) + (8 : Int32)).toNatClampNeg (vp_nar .byte (-91 : Int32)))))]) hP hD [1, 4] [0, 2, 3] rfl rfl (by decide) (by decide) hk1 hFc hP1 hD1
  clear hPc hDc hFc hP1 hD1 hk1 hz1
  generalize H1 = H at hP hS ⊢
  have hP : va_P (dC, dI) vwCl [(dr, .inl (c_dr, 256, .inl (fun _ => 0))), (ds, .inr (3, [.int pg, .ref dl, .ref dr, .ref dt, .int (1 : Int32), .int (-1 : Int32), .int (0 : Int32)])), (dl, .inl (c_dl, 8224, .inl (va_cpy (pu_head (fun _ => 0) 1) (fun _ => 0) 0 0 16))), (rr, .inr (6, [.ref ds, .ref ri, .int 0, .int 1, .int 0, .int 0])), (ri, .inl (c_ri, 32, .inl (upd (pu_putL (pu_putL (pu_putI (pu_putI (upd (bk_z 23) (0 : Int32).toNatClampNeg (vp_nar .byte ((2 : Int32).toInt8.toInt32))) (1 : Int32) (1 : Int32) 4) (5 : Int32) (0 : Int32) 4) (9 : Int32) (0 : Int64) 8) (23 : Int32) (pu_sumN (pu_putL (pu_putI (pu_putI (upd (bk_z 23) (0 : Int32).toNatClampNeg (vp_nar .byte ((2 : Int32).toInt8.toInt32))) (1 : Int32) (1 : Int32) 4) (5 : Int32) (0 : Int32) 4) (9 : Int32) (0 : Int64) 8) 0 (pu_start (2 : Int32)) 23) 8) ((23 : Int32) + (8 : Int32)).toNatClampNeg (vp_nar .byte (-91 : Int32)))))] H := hP
  have hD : va_D A [(dr, .inl (c_dr, 256, .inl (fun _ => 0))), (ds, .inr (3, [.int pg, .ref dl, .ref dr, .ref dt, .int (1 : Int32), .int (-1 : Int32), .int (0 : Int32)])), (dl, .inl (c_dl, 8224, .inl (va_cpy (pu_head (fun _ => 0) 1) (fun _ => 0) 0 0 16))), (rr, .inr (6, [.ref ds, .ref ri, .int 0, .int 1, .int 0, .int 0])), (ri, .inl (c_ri, 32, .inl (upd (pu_putL (pu_putL (pu_putI (pu_putI (upd (bk_z 23) (0 : Int32).toNatClampNeg (vp_nar .byte ((2 : Int32).toInt8.toInt32))) (1 : Int32) (1 : Int32) 4) (5 : Int32) (0 : Int32) 4) (9 : Int32) (0 : Int64) 8) (23 : Int32) (pu_sumN (pu_putL (pu_putI (pu_putI (upd (bk_z 23) (0 : Int32).toNatClampNeg (vp_nar .byte ((2 : Int32).toInt8.toInt32))) (1 : Int32) (1 : Int32) 4) (5 : Int32) (0 : Int32) 4) (9 : Int32) (0 : Int64) 8) 0 (pu_start (2 : Int32)) 23) 8) ((23 : Int32) + (8 : Int32)).toNatClampNeg (vp_nar .byte (-91 : Int32)))))] := hD
  have hP : va_P (dC, dI) vwCl [(dr, .inl (c_dr, 256, .inl (fun _ => 0))), (ds, .inr (3, [.int pg, .ref dl, .ref dr, .ref dt, .int (1 : Int32), .int (-1 : Int32), .int (0 : Int32)])), (dl, .inl (c_dl, 8224, .inl (va_cpy (pu_head (fun _ => 0) 1) (fun _ => 0) 0 0 16))), (rr, .inr (6, [.ref ds, .ref ri, .int 0, .int 1, .int 0, .int 0])), (ri, .inl (c_ri, 32, .inl bk_img))] H := hP
  have hD : va_D A [(dr, .inl (c_dr, 256, .inl (fun _ => 0))), (ds, .inr (3, [.int pg, .ref dl, .ref dr, .ref dt, .int (1 : Int32), .int (-1 : Int32), .int (0 : Int32)])), (dl, .inl (c_dl, 8224, .inl (va_cpy (pu_head (fun _ => 0) 1) (fun _ => 0) 0 0 16))), (rr, .inr (6, [.ref ds, .ref ri, .int 0, .int 1, .int 0, .int 0])), (ri, .inl (c_ri, 32, .inl bk_img))] := hD
  refine lv_aload_n hx hb dX4_write_9 rfl (lv_at hl 0 rfl) ?_
  refine va_get (D := (dC, dI)) (ci := 6) (v := .int 0) (C := RX4) (T := TX4) (N := 6) hx hb hts (by decide +kernel) hown hK hP 3 rfl rfl 4 (by decide) (hts (.fieldLink RX4 26 "BlockLog$Rows" "count" "I") (by decide +kernel)) (fun _ h9 => h9) rfl dX4_write_10 ?_
  refine lv_sipush (v := 128) hx hb dX4_write_13 (by decide) ?_
  refine lv_icmp_ge (tgt := 34) hx hb dX4_write_16 (by decide) (fun c_2 => ?_) (fun c_2 => ?_)
  · skip
    exact absurd c_2 (by decide)
  · skip
    refine lv_aload_n hx hb dX4_write_19 rfl (lv_at hl 0 rfl) ?_
    refine lv_aload_n hx hb dX4_write_20 rfl (lv_at hl 0 rfl) ?_
    refine va_get (D := (dC, dI)) (ci := 6) (v := .int 0) (C := RX4) (T := TX4) (N := 6) hx hb hts (by decide +kernel) hown hK hP 3 rfl rfl 2 (by decide) (hts (.fieldLink RX4 19 "BlockLog$Rows" "area" "I") (by decide +kernel)) (fun _ h9 => h9) rfl dX4_write_21 ?_
    refine lv_aload_n hx hb dX4_write_24 rfl (lv_at hl 0 rfl) ?_
    refine va_get (D := (dC, dI)) (ci := 6) (v := .int 0) (C := RX4) (T := TX4) (N := 6) hx hb hts (by decide +kernel) hown hK hP 3 rfl rfl 4 (by decide) (hts (.fieldLink RX4 26 "BlockLog$Rows" "count" "I") (by decide +kernel)) (fun _ h9 => h9) rfl dX4_write_25 ?_
    have hPc := hP.sub (ws' := [(dr, .inl (c_dr, 256, .inl (fun _ => 0))), (ds, .inr (3, [.int pg, .ref dl, .ref dr, .ref dt, .int (1 : Int32), .int (-1 : Int32), .int (0 : Int32)])), (dl, .inl (c_dl, 8224, .inl (va_cpy (pu_head (fun _ => 0) 1) (fun _ => 0) 0 0 16))), (rr, .inr (6, [.ref ds, .ref ri, .int 0, .int 1, .int 0, .int 0])), (ri, .inl (c_ri, 32, .inl bk_img))]) [0, 1, 2, 3, 4] rfl
    have hKc := hK.sub (tys' := [(c_dr, .byte), (c_dl, .byte), (c_ri, .byte)]) [0, 1, 2] rfl
    have hDc := hD.sub (ws' := [(dr, .inl (c_dr, 256, .inl (fun _ => 0))), (ds, .inr (3, [.int pg, .ref dl, .ref dr, .ref dt, .int (1 : Int32), .int (-1 : Int32), .int (0 : Int32)])), (dl, .inl (c_dl, 8224, .inl (va_cpy (pu_head (fun _ => 0) 1) (fun _ => 0) 0 0 16))), (rr, .inr (6, [.ref ds, .ref ri, .int 0, .int 1, .int 0, .int 0])), (ri, .inl (c_ri, 32, .inl bk_img))]) [0, 1, 2, 3, 4] (by decide) rfl
    have hFc := va_free (wc := [(dr, .inl (c_dr, 256, .inl (fun _ => 0))), (ds, .inr (3, [.int pg, .ref dl, .ref dr, .ref dt, .int (1 : Int32), .int (-1 : Int32), .int (0 : Int32)])), (dl, .inl (c_dl, 8224, .inl (va_cpy (pu_head (fun _ => 0) 1) (fun _ => 0) 0 0 16))), (rr, .inr (6, [.ref ds, .ref ri, .int 0, .int 1, .int 0, .int 0])), (ri, .inl (c_ri, 32, .inl bk_img))]) hD hS hA [0, 1, 2, 3, 4] rfl
    refine va_calli (va_runV (As := [.int 0, .int 0]) (rest := []) ⟨hx, hb, hml, hown, hts⟩ (k_X4_writeImage_1 l dC dI rr dr ds dl ri c_dr pg dt c_dl c_ri _) (cwV 2 hts gX4_write_X4_writeImage rfl rfl rfl (by decide +kernel) ⟨Nat.le_of_ble_eq_true rfl, Nat.le_of_ble_eq_true rfl⟩) ⟨fun a U g mk q => by obtain ⟨q0, q1, qP, qK, qD⟩ := q; exact ⟨q0, q1, qP, va_K.moved (u := U) (U := U.calling g mk a) (Vm.Alike.refl U.vm) qK, qD⟩, va_recv hK hP (ci := 6) (q := (RX4, TX4, 6)) rfl (q0 := 3) rfl, fun U hU hW => ⟨rfl, by rw [hU], by rw [hU]; exact hPc, va_K.moved hW.alike hKc, hDc.weaken (fun _ _ _ _ => trivial)⟩⟩ rfl rfl hl.1 rfl (lv_room (Nat.le_of_ble_eq_true rfl)) dX4_write_28 ⟨Nat.le_of_ble_eq_true rfl, Nat.le_of_ble_eq_true rfl⟩) hS (fun q _ h => hFc q h) hFc (fun r_3 u t H1 locs ht hvm er_3 hB hz1 hk1 hS => ?_)
    obtain ⟨hP1, hK1, hD1⟩ := hB
    rw [ht] at hP1
    obtain ⟨hP, hD⟩ := va_join (wr := []) (w1 := [(rr, .inr (6, [.ref ds, .ref ri, .int 0, .int 1, .int 0, .int 0])), (dr, .inl (c_dr, 256, .inl (bk_rs 32))), (ds, .inr (3, [.int pg, .ref dl, .ref dr, .ref dt, .int (1 : Int32), .int (-1 : Int32), .int (bk_n 32)])), (dl, .inl (c_dl, 8224, .inl (bk_wl 32))), (ri, .inl (c_ri, 32, .inl bk_img))]) hP hD [0, 1, 2, 3, 4] [] rfl rfl (by decide) (by decide) hk1 hFc hP1 hD1
    clear hPc hDc hFc hP1 hD1 hk1 hz1
    generalize H1 = H at hP hS ⊢
    have hP : va_P (dC, dI) vwCl [(rr, .inr (6, [.ref ds, .ref ri, .int 0, .int 1, .int 0, .int 0])), (dr, .inl (c_dr, 256, .inl (bk_rs 32))), (ds, .inr (3, [.int pg, .ref dl, .ref dr, .ref dt, .int (1 : Int32), .int (-1 : Int32), .int (bk_n 32)])), (dl, .inl (c_dl, 8224, .inl (bk_wl 32))), (ri, .inl (c_ri, 32, .inl bk_img))] H := hP
    have hD : va_D A [(rr, .inr (6, [.ref ds, .ref ri, .int 0, .int 1, .int 0, .int 0])), (dr, .inl (c_dr, 256, .inl (bk_rs 32))), (ds, .inr (3, [.int pg, .ref dl, .ref dr, .ref dt, .int (1 : Int32), .int (-1 : Int32), .int (bk_n 32)])), (dl, .inl (c_dl, 8224, .inl (bk_wl 32))), (ri, .inl (c_ri, 32, .inl bk_img))] := hD
    subst er_3
    refine lv_if_ne (tgt := 36) hx hb dX4_write_31 (by decide) (fun c_4 => ?_) (fun c_4 => ?_)
    · skip
      refine lv_aload_n hx hb dX4_write_36 rfl (lv_at hl 0 rfl) ?_
      refine lv_dup hx hb dX4_write_37 rfl ?_
      refine va_get (D := (dC, dI)) (ci := 6) (v := .int 0) (C := RX4) (T := TX4) (N := 6) hx hb hts (by decide +kernel) hown hK hP 0 rfl rfl 4 (by decide) (hts (.fieldLink RX4 26 "BlockLog$Rows" "count" "I") (by decide +kernel)) (fun _ h9 => h9) rfl dX4_write_38 ?_
      refine lv_iconst (v := 1) hx hb dX4_write_41 (by decide) ?_
      refine lv_iadd hx hb dX4_write_42 ?_
      have e9 : 0 + (1 : Int32) = (1 : Int32) := by decide +kernel
      rw [e9]
      clear e9
      refine va_put (D := (dC, dI)) (ci := 6) (v := .int (1 : Int32)) (ty := .int) (C := RX4) (T := TX4) (N := 6) hx hb hts (by decide +kernel) tyX4 tyX4_ok nmX4 hown hK hP hD hS 0 rfl rfl 4 (by decide) (hts (.fieldLink RX4 26 "BlockLog$Rows" "count" "I") (by decide +kernel)) (fun _ h9 => h9) rfl (by decide +kernel) rfl rfl (Nat.le_of_ble_eq_true rfl) dX4_write_43 (fun H locs hP hD hS => ?_)
      have hP : va_P (dC, dI) vwCl [(rr, .inr (6, [.ref ds, .ref ri, .int 0, .int 1, .int (1 : Int32), .int 0])), (dr, .inl (c_dr, 256, .inl (bk_rs 32))), (ds, .inr (3, [.int pg, .ref dl, .ref dr, .ref dt, .int (1 : Int32), .int (-1 : Int32), .int (bk_n 32)])), (dl, .inl (c_dl, 8224, .inl (bk_wl 32))), (ri, .inl (c_ri, 32, .inl bk_img))] H := hP
      have hD : va_D A [(rr, .inr (6, [.ref ds, .ref ri, .int 0, .int 1, .int (1 : Int32), .int 0])), (dr, .inl (c_dr, 256, .inl (bk_rs 32))), (ds, .inr (3, [.int pg, .ref dl, .ref dr, .ref dt, .int (1 : Int32), .int (-1 : Int32), .int (bk_n 32)])), (dl, .inl (c_dl, 8224, .inl (bk_wl 32))), (ri, .inl (c_ri, 32, .inl bk_img))] := hD
      refine lv_iconst (v := 1) hx hb dX4_write_46 (by decide) ?_
      have hP := hP.sub (ws' := [(rr, .inr (6, [.ref ds, .ref ri, .int 0, .int 1, .int (1 : Int32), .int 0])), (dr, .inl (c_dr, 256, .inl (bk_rs 32))), (ds, .inr (3, [.int pg, .ref dl, .ref dr, .ref dt, .int (1 : Int32), .int (-1 : Int32), .int (bk_n 32)])), (dl, .inl (c_dl, 8224, .inl (bk_wl 32))), (ri, .inl (c_ri, 32, .inl bk_img))]) [0, 1, 2, 3, 4] rfl
      have hD := hD.sub (ws' := [(rr, .inr (6, [.ref ds, .ref ri, .int 0, .int 1, .int (1 : Int32), .int 0])), (dr, .inl (c_dr, 256, .inl (bk_rs 32))), (ds, .inr (3, [.int pg, .ref dl, .ref dr, .ref dt, .int (1 : Int32), .int (-1 : Int32), .int (bk_n 32)])), (dl, .inl (c_dl, 8224, .inl (bk_wl 32))), (ri, .inl (c_ri, 32, .inl bk_img))]) [0, 1, 2, 3, 4] (by decide) rfl
      have hK := hK.sub (tys' := [(c_dr, .byte), (c_dl, .byte), (c_ri, .byte)]) [0, 1, 2] rfl
      exact W.zret hx hb hr rfl (fun t ht hW => ⟨⟨_, (), rfl, rfl, by rw [ht]; exact hP, va_K.moved hW.alike hK, hD⟩, hS.F ht⟩) hS.2.2 dX4_write_47
    · skip
      exact absurd c_4 (by decide)

set_option maxHeartbeats 4000000 in
set_option maxRecDepth 100000 in
theorem k_X4_place_1 (l : Launch) (dC : Nat → ClassId) (dI : Nat → Nat → Nat) (rr : Nat) (ds : Nat) (ri : Nat)  : Met l yX4_place wsX4_place ({ frames := 0, cells := 0, slots := 0, locals := 0 }) (va_Pc [.ref rr, .int (0 : Int32)] (fun U => va_P (dC, dI) vwCl [(rr, .inr (6, [.ref ds, .ref ri, .int 0, .int 1, .int (1 : Int32), .int 0]))] U.heap ∧ va_K (dC, dI) vwCl [] U)) (vp_Si (fun r => r = ((32 : Int32) + ((4096 : Int32) * 0)) + ((32 : Int32) * (0 : Int32)))) 0 0 (fun _ => False) := by
  refine Met.ofW (cc := cX4_place) (maxL := 2) (ret := (some .int)) (by decide) rfl ?_
  intro p e s m args below meth c s₁ B hml hv
  obtain ⟨rfl, hP, hK⟩ := hv
  have hx := B.exec
  have hb := B.bytes
  have hr := B.returns
  have hts := atoms_spec (ws := wsX4_place) B.pre
  have hown : s.vm.findClass RX4 = some m.cls := findClass_of_methodNamed B.named
  have hlocks := B.notSynchronized
  have hl := lv_entry ([.ref rr, .int (0 : Int32)]) (n := 2) (Nat.le_of_ble_eq_true rfl)
  rw [lg_entry_eq]
  generalize (lg_sl ([.ref rr, .int (0 : Int32)]) ++ List.replicate (2 - (lg_sl ([.ref rr, .int (0 : Int32)])).length) Slot.unset).toArray = ls at hl ⊢
  have hl : lv_has ls 2 [(0, .ref rr), (1, .int (0 : Int32))] := hl
  refine lv_bipush (v := 32) hx hb dX4_place_0 (by decide) ?_
  refine lv_sipush (v := 4096) hx hb dX4_place_2 (by decide) ?_
  refine lv_aload_n hx hb dX4_place_5 rfl (lv_at hl 0 rfl) ?_
  refine va_get (D := (dC, dI)) (ci := 6) (v := .int 0) (C := RX4) (T := TX4) (N := 6) hx hb hts (by decide +kernel) hown hK hP 0 rfl rfl 2 (by decide) (hts (.fieldLink RX4 19 "BlockLog$Rows" "area" "I") (by decide +kernel)) (fun _ h9 => h9) rfl dX4_place_6 ?_
  refine lv_imul hx hb dX4_place_9 ?_
  refine lv_iadd hx hb dX4_place_10 ?_
  refine lv_bipush (v := 32) hx hb dX4_place_11 (by decide) ?_
  refine lv_iload_n hx hb dX4_place_13 rfl (lv_at hl 1 rfl) ?_
  refine lv_imul hx hb dX4_place_14 ?_
  refine lv_iadd hx hb dX4_place_15 ?_
  exact W.iret hx hb hr (fun t ht hW => ⟨_, rfl, rfl, ht⟩) (fun q h => by cases h) dX4_place_16

set_option maxHeartbeats 4000000 in
set_option maxRecDepth 100000 in
theorem k_X4_kind_1 (l : Launch) (dC : Nat → ClassId) (dI : Nat → Nat → Nat) (rr : Nat) (ds : Nat) (dl : Nat) (ri : Nat) (pg : Int32) (dr : Nat) (dt : Nat) (c_dl : ClassId)  : Met l yX4_kind wsX4_kind ({ frames := 1, cells := 0, slots := 0, locals := 21 }) (va_Pc [.ref rr, .int (0 : Int32)] (fun U => va_P (dC, dI) vwCl [(rr, .inr (6, [.ref ds, .ref ri, .int 0, .int 1, .int (1 : Int32), .int 0])), (ds, .inr (3, [.int pg, .ref dl, .ref dr, .ref dt, .int (1 : Int32), .int (-1 : Int32), .int (bk_n 32)])), (dl, .inl (c_dl, 8224, .inl (bk_wl 32)))] U.heap ∧ va_K (dC, dI) vwCl [(c_dl, .byte)] U ∧ gx_W U)) (vp_Si (fun r => r = (2 : Int32) &&& (255 : Int32))) 0 0 (fun _ => False) := by
  refine Met.ofW (cc := cX4_kind) (maxL := 2) (ret := (some .int)) (by decide) rfl ?_
  intro p e s m args below meth c s₁ B hml hv
  obtain ⟨rfl, hP, hK, hG⟩ := hv
  have hx := B.exec
  have hb := B.bytes
  have hr := B.returns
  have hts := atoms_spec (ws := wsX4_kind) B.pre
  have hown : s.vm.findClass RX4 = some m.cls := findClass_of_methodNamed B.named
  have hlocks := B.notSynchronized
  have hl := lv_entry ([.ref rr, .int (0 : Int32)]) (n := 2) (Nat.le_of_ble_eq_true rfl)
  rw [lg_entry_eq]
  generalize (lg_sl ([.ref rr, .int (0 : Int32)]) ++ List.replicate (2 - (lg_sl ([.ref rr, .int (0 : Int32)])).length) Slot.unset).toArray = ls at hl ⊢
  have hl : lv_has ls 2 [(0, .ref rr), (1, .int (0 : Int32))] := hl
  refine lv_aload_n hx hb dX4_kind_0 rfl (lv_at hl 0 rfl) ?_
  refine va_get (D := (dC, dI)) (ci := 6) (v := .ref ds) (C := RX4) (T := TX4) (N := 6) hx hb hts (by decide +kernel) hown hK hP 0 rfl rfl 0 (by decide) (hts (.fieldLink RX4 9 "BlockLog$Rows" "disk" "LBlockLog$Disk;") (by decide +kernel)) (fun _ h9 => h9) rfl dX4_kind_1 ?_
  refine va_getN (D := (dC, dI)) (ci := 3) (v := .ref dl) (C := RX1) (T := TX1) (N := 7) hx hb hts (by decide +kernel) hown hK hP 1 rfl rfl 1 (by decide) (va_Nw.use rfl (hG.1 ("BlockLog$Rows", 36, "BlockLog$Disk", "low", "[B", "BlockLog") (by decide +kernel))) (fun _ h9 => h9) rfl dX4_kind_4 ?_
  refine lv_aload_n hx hb dX4_kind_7 rfl (lv_at hl 0 rfl) ?_
  refine lv_iload_n hx hb dX4_kind_8 rfl (lv_at hl 1 rfl) ?_
  have hPc := hP.sub (ws' := [(rr, .inr (6, [.ref ds, .ref ri, .int 0, .int 1, .int (1 : Int32), .int 0]))]) [0] rfl
  have hKc := hK.sub (tys' := []) [] rfl
  refine vp_callSi (va_Run.run (va_runV (As := [.int (0 : Int32)]) (rest := [.ref dl]) ⟨hx, hb, hml, hown, hts⟩ (k_X4_place_1 l dC dI rr ds ri) (cwV 1 hts gX4_kind_X4_place rfl rfl rfl (by decide +kernel) ⟨Nat.le_of_ble_eq_true rfl, Nat.le_of_ble_eq_true rfl⟩) ⟨fun a U g mk q => by obtain ⟨q0, qP, qK⟩ := q; exact ⟨q0, qP, va_K.moved (u := U) (U := U.calling g mk a) (Vm.Alike.refl U.vm) qK⟩, va_recv hK hP (ci := 6) (q := (RX4, TX4, 6)) rfl (q0 := 0) rfl, fun U hU hW => ⟨rfl, by rw [hU]; exact hPc, va_K.moved hW.alike hKc⟩⟩ rfl rfl hl.1 rfl (lv_room (Nat.le_of_ble_eq_true rfl)) dX4_kind_9 ⟨Nat.le_of_ble_eq_true rfl, Nat.le_of_ble_eq_true rfl⟩)) (fun r_1 er_1 => ?_)
  replace er_1 := er_1.trans (show _ = (32 : Int32) by decide +kernel)
  subst er_1
  refine va_bald hx hb hK hP 2 0 rfl rfl (by unfold vp_in; decide +kernel) dX4_kind_12 ?_
  have e9 : (bk_wl 32) (32 : Int32).toNatClampNeg = (2 : Int32) := by decide +kernel
  rw [e9]
  clear e9
  refine lv_sipush (v := 255) hx hb dX4_kind_13 (by decide) ?_
  refine lv_iand hx hb dX4_kind_16 ?_
  exact W.iret hx hb hr (fun t ht hW => ⟨_, rfl, rfl, ht⟩) (fun q h => by cases h) dX4_kind_17

set_option maxHeartbeats 4000000 in
set_option maxRecDepth 100000 in
theorem k_X0_intAt_1 (l : Launch) (dC : Nat → ClassId) (dI : Nat → Nat → Nat) (dl : Nat) (c_dl : ClassId)  : Met l yX0_intAt wsX0_intAt ({ frames := 0, cells := 0, slots := 0, locals := 0 }) (va_Pc [.ref dl, .int (37 : Int32)] (fun U => va_P (dC, dI) vwCl [(dl, .inl (c_dl, 8224, .inl (bk_wl 32)))] U.heap ∧ va_K (dC, dI) vwCl [(c_dl, .byte)] U)) (vp_Si (fun r => r = ((((((((0 : Int32) <<< ((8 : Int32) &&& 31)) ||| ((0 : Int32) &&& (255 : Int32))) <<< ((8 : Int32) &&& 31)) ||| ((0 : Int32) &&& (255 : Int32))) <<< ((8 : Int32) &&& 31)) ||| ((0 : Int32) &&& (255 : Int32))) <<< ((8 : Int32) &&& 31)) ||| ((0 : Int32) &&& (255 : Int32)))) 0 0 (fun _ => False) := by
  refine Met.ofW (cc := cX0_intAt) (maxL := 4) (ret := (some .int)) (by decide) rfl ?_
  intro p e s m args below meth c s₁ B hml hv
  obtain ⟨rfl, hP, hK⟩ := hv
  have hx := B.exec
  have hb := B.bytes
  have hr := B.returns
  have hts := atoms_spec (ws := wsX0_intAt) B.pre
  have hown : s.vm.findClass RX0 = some m.cls := findClass_of_methodNamed B.named
  have hlocks := B.notSynchronized
  have hl := lv_entry ([.ref dl, .int (37 : Int32)]) (n := 4) (Nat.le_of_ble_eq_true rfl)
  rw [lg_entry_eq]
  generalize (lg_sl ([.ref dl, .int (37 : Int32)]) ++ List.replicate (4 - (lg_sl ([.ref dl, .int (37 : Int32)])).length) Slot.unset).toArray = ls at hl ⊢
  have hl : lv_has ls 4 [(0, .ref dl), (1, .int (37 : Int32))] := hl
  refine lv_iconst (v := 0) hx hb dX0_intAt_0 (by decide) ?_
  refine lv_istore_n (lv' := [(2, .int (0 : Int32)), (0, .ref dl), (1, .int (37 : Int32))]) hx hb dX0_intAt_1 rfl hl (by decide) rfl (fun ls hl => ?_)
  refine lv_iload_n hx hb dX0_intAt_2 rfl (lv_at hl 2 rfl) ?_
  refine lv_istore_n (lv' := [(3, .int (37 : Int32)), (2, .int (0 : Int32)), (0, .ref dl), (1, .int (37 : Int32))]) hx hb dX0_intAt_3 rfl hl (by decide) rfl (fun ls hl => ?_)
  refine lv_iload_n hx hb dX0_intAt_4 rfl (lv_at hl 0 rfl) ?_
  refine lv_iload_n hx hb dX0_intAt_5 rfl (lv_at hl 3 rfl) ?_
  refine lv_iconst (v := 4) hx hb dX0_intAt_6 (by decide) ?_
  refine lv_iadd hx hb dX0_intAt_7 ?_
  refine lv_icmp_ge (tgt := 30) hx hb dX0_intAt_8 (by decide) (fun c_1 => ?_) (fun c_1 => ?_)
  · skip
    exact absurd c_1 (by decide)
  · skip
    refine lv_iload_n hx hb dX0_intAt_11 rfl (lv_at hl 1 rfl) ?_
    refine lv_bipush (v := 8) hx hb dX0_intAt_12 (by decide) ?_
    refine lv_ishl hx hb dX0_intAt_14 ?_
    refine lv_aload_n hx hb dX0_intAt_15 rfl (lv_at hl 2 rfl) ?_
    refine lv_iload_n hx hb dX0_intAt_16 rfl (lv_at hl 0 rfl) ?_
    refine va_bald hx hb hK hP 0 0 rfl rfl (by unfold vp_in; decide +kernel) dX0_intAt_17 ?_
    have e9 : (bk_wl 32) (37 : Int32).toNatClampNeg = (0 : Int32) := by decide +kernel
    rw [e9]
    clear e9
    refine lv_sipush (v := 255) hx hb dX0_intAt_18 (by decide) ?_
    refine lv_iand hx hb dX0_intAt_21 ?_
    refine lv_ior hx hb dX0_intAt_22 ?_
    refine lv_istore_n (lv' := [(2, .int (((0 : Int32) <<< ((8 : Int32) &&& 31)) ||| ((0 : Int32) &&& (255 : Int32)))), (3, .int (37 : Int32)), (0, .ref dl), (1, .int (37 : Int32))]) hx hb dX0_intAt_23 rfl hl (by decide) rfl (fun ls hl => ?_)
    refine lv_iinc (v := (38 : Int32)) (lv' := [(3, .int (38 : Int32)), (2, .int (((0 : Int32) <<< ((8 : Int32) &&& 31)) ||| ((0 : Int32) &&& (255 : Int32)))), (0, .ref dl), (1, .int (37 : Int32))]) hx hb dX0_intAt_24 hl (k := 1) rfl (by decide) (by decide) rfl (fun ls hl => ?_)
    refine lv_goto (tgt := 4) hx hb dX0_intAt_27 (by decide) ?_
    refine lv_iload_n hx hb dX0_intAt_4 rfl (lv_at hl 0 rfl) ?_
    refine lv_iload_n hx hb dX0_intAt_5 rfl (lv_at hl 3 rfl) ?_
    refine lv_iconst (v := 4) hx hb dX0_intAt_6 (by decide) ?_
    refine lv_iadd hx hb dX0_intAt_7 ?_
    refine lv_icmp_ge (tgt := 30) hx hb dX0_intAt_8 (by decide) (fun c_2 => ?_) (fun c_2 => ?_)
    · skip
      exact absurd c_2 (by decide)
    · skip
      refine lv_iload_n hx hb dX0_intAt_11 rfl (lv_at hl 1 rfl) ?_
      refine lv_bipush (v := 8) hx hb dX0_intAt_12 (by decide) ?_
      refine lv_ishl hx hb dX0_intAt_14 ?_
      refine lv_aload_n hx hb dX0_intAt_15 rfl (lv_at hl 2 rfl) ?_
      refine lv_iload_n hx hb dX0_intAt_16 rfl (lv_at hl 0 rfl) ?_
      refine va_bald hx hb hK hP 0 0 rfl rfl (by unfold vp_in; decide +kernel) dX0_intAt_17 ?_
      have e9 : (bk_wl 32) (38 : Int32).toNatClampNeg = (0 : Int32) := by decide +kernel
      rw [e9]
      clear e9
      refine lv_sipush (v := 255) hx hb dX0_intAt_18 (by decide) ?_
      refine lv_iand hx hb dX0_intAt_21 ?_
      refine lv_ior hx hb dX0_intAt_22 ?_
      refine lv_istore_n (lv' := [(2, .int (((((0 : Int32) <<< ((8 : Int32) &&& 31)) ||| ((0 : Int32) &&& (255 : Int32))) <<< ((8 : Int32) &&& 31)) ||| ((0 : Int32) &&& (255 : Int32)))), (3, .int (38 : Int32)), (0, .ref dl), (1, .int (37 : Int32))]) hx hb dX0_intAt_23 rfl hl (by decide) rfl (fun ls hl => ?_)
      refine lv_iinc (v := (39 : Int32)) (lv' := [(3, .int (39 : Int32)), (2, .int (((((0 : Int32) <<< ((8 : Int32) &&& 31)) ||| ((0 : Int32) &&& (255 : Int32))) <<< ((8 : Int32) &&& 31)) ||| ((0 : Int32) &&& (255 : Int32)))), (0, .ref dl), (1, .int (37 : Int32))]) hx hb dX0_intAt_24 hl (k := 1) rfl (by decide) (by decide) rfl (fun ls hl => ?_)
      refine lv_goto (tgt := 4) hx hb dX0_intAt_27 (by decide) ?_
      refine lv_iload_n hx hb dX0_intAt_4 rfl (lv_at hl 0 rfl) ?_
      refine lv_iload_n hx hb dX0_intAt_5 rfl (lv_at hl 3 rfl) ?_
      refine lv_iconst (v := 4) hx hb dX0_intAt_6 (by decide) ?_
      refine lv_iadd hx hb dX0_intAt_7 ?_
      refine lv_icmp_ge (tgt := 30) hx hb dX0_intAt_8 (by decide) (fun c_3 => ?_) (fun c_3 => ?_)
      · skip
        exact absurd c_3 (by decide)
      · skip
        refine lv_iload_n hx hb dX0_intAt_11 rfl (lv_at hl 1 rfl) ?_
        refine lv_bipush (v := 8) hx hb dX0_intAt_12 (by decide) ?_
        refine lv_ishl hx hb dX0_intAt_14 ?_
        refine lv_aload_n hx hb dX0_intAt_15 rfl (lv_at hl 2 rfl) ?_
        refine lv_iload_n hx hb dX0_intAt_16 rfl (lv_at hl 0 rfl) ?_
        refine va_bald hx hb hK hP 0 0 rfl rfl (by unfold vp_in; decide +kernel) dX0_intAt_17 ?_
        have e9 : (bk_wl 32) (39 : Int32).toNatClampNeg = (0 : Int32) := by decide +kernel
        rw [e9]
        clear e9
        refine lv_sipush (v := 255) hx hb dX0_intAt_18 (by decide) ?_
        refine lv_iand hx hb dX0_intAt_21 ?_
        refine lv_ior hx hb dX0_intAt_22 ?_
        refine lv_istore_n (lv' := [(2, .int (((((((0 : Int32) <<< ((8 : Int32) &&& 31)) ||| ((0 : Int32) &&& (255 : Int32))) <<< ((8 : Int32) &&& 31)) ||| ((0 : Int32) &&& (255 : Int32))) <<< ((8 : Int32) &&& 31)) ||| ((0 : Int32) &&& (255 : Int32)))), (3, .int (39 : Int32)), (0, .ref dl), (1, .int (37 : Int32))]) hx hb dX0_intAt_23 rfl hl (by decide) rfl (fun ls hl => ?_)
        refine lv_iinc (v := (40 : Int32)) (lv' := [(3, .int (40 : Int32)), (2, .int (((((((0 : Int32) <<< ((8 : Int32) &&& 31)) ||| ((0 : Int32) &&& (255 : Int32))) <<< ((8 : Int32) &&& 31)) ||| ((0 : Int32) &&& (255 : Int32))) <<< ((8 : Int32) &&& 31)) ||| ((0 : Int32) &&& (255 : Int32)))), (0, .ref dl), (1, .int (37 : Int32))]) hx hb dX0_intAt_24 hl (k := 1) rfl (by decide) (by decide) rfl (fun ls hl => ?_)
        refine lv_goto (tgt := 4) hx hb dX0_intAt_27 (by decide) ?_
        refine lv_iload_n hx hb dX0_intAt_4 rfl (lv_at hl 0 rfl) ?_
        refine lv_iload_n hx hb dX0_intAt_5 rfl (lv_at hl 3 rfl) ?_
        refine lv_iconst (v := 4) hx hb dX0_intAt_6 (by decide) ?_
        refine lv_iadd hx hb dX0_intAt_7 ?_
        refine lv_icmp_ge (tgt := 30) hx hb dX0_intAt_8 (by decide) (fun c_4 => ?_) (fun c_4 => ?_)
        · skip
          exact absurd c_4 (by decide)
        · skip
          refine lv_iload_n hx hb dX0_intAt_11 rfl (lv_at hl 1 rfl) ?_
          refine lv_bipush (v := 8) hx hb dX0_intAt_12 (by decide) ?_
          refine lv_ishl hx hb dX0_intAt_14 ?_
          refine lv_aload_n hx hb dX0_intAt_15 rfl (lv_at hl 2 rfl) ?_
          refine lv_iload_n hx hb dX0_intAt_16 rfl (lv_at hl 0 rfl) ?_
          refine va_bald hx hb hK hP 0 0 rfl rfl (by unfold vp_in; decide +kernel) dX0_intAt_17 ?_
          have e9 : (bk_wl 32) (40 : Int32).toNatClampNeg = (0 : Int32) := by decide +kernel
          rw [e9]
          clear e9
          refine lv_sipush (v := 255) hx hb dX0_intAt_18 (by decide) ?_
          refine lv_iand hx hb dX0_intAt_21 ?_
          refine lv_ior hx hb dX0_intAt_22 ?_
          refine lv_istore_n (lv' := [(2, .int (((((((((0 : Int32) <<< ((8 : Int32) &&& 31)) ||| ((0 : Int32) &&& (255 : Int32))) <<< ((8 : Int32) &&& 31)) ||| ((0 : Int32) &&& (255 : Int32))) <<< ((8 : Int32) &&& 31)) ||| ((0 : Int32) &&& (255 : Int32))) <<< ((8 : Int32) &&& 31)) ||| ((0 : Int32) &&& (255 : Int32)))), (3, .int (40 : Int32)), (0, .ref dl), (1, .int (37 : Int32))]) hx hb dX0_intAt_23 rfl hl (by decide) rfl (fun ls hl => ?_)
          refine lv_iinc (v := (41 : Int32)) (lv' := [(3, .int (41 : Int32)), (2, .int (((((((((0 : Int32) <<< ((8 : Int32) &&& 31)) ||| ((0 : Int32) &&& (255 : Int32))) <<< ((8 : Int32) &&& 31)) ||| ((0 : Int32) &&& (255 : Int32))) <<< ((8 : Int32) &&& 31)) ||| ((0 : Int32) &&& (255 : Int32))) <<< ((8 : Int32) &&& 31)) ||| ((0 : Int32) &&& (255 : Int32)))), (0, .ref dl), (1, .int (37 : Int32))]) hx hb dX0_intAt_24 hl (k := 1) rfl (by decide) (by decide) rfl (fun ls hl => ?_)
          refine lv_goto (tgt := 4) hx hb dX0_intAt_27 (by decide) ?_
          refine lv_iload_n hx hb dX0_intAt_4 rfl (lv_at hl 0 rfl) ?_
          refine lv_iload_n hx hb dX0_intAt_5 rfl (lv_at hl 3 rfl) ?_
          refine lv_iconst (v := 4) hx hb dX0_intAt_6 (by decide) ?_
          refine lv_iadd hx hb dX0_intAt_7 ?_
          refine lv_icmp_ge (tgt := 30) hx hb dX0_intAt_8 (by decide) (fun c_5 => ?_) (fun c_5 => ?_)
          · skip
            refine lv_iload_n hx hb dX0_intAt_30 rfl (lv_at hl 1 rfl) ?_
            exact W.iret hx hb hr (fun t ht hW => ⟨_, rfl, rfl, ht⟩) (fun q h => by cases h) dX0_intAt_31
          · skip
            exact absurd (by decide) c_5

set_option maxHeartbeats 4000000 in
set_option maxRecDepth 100000 in
theorem k_X4_b_1 (l : Launch) (dC : Nat → ClassId) (dI : Nat → Nat → Nat) (rr : Nat) (ds : Nat) (dl : Nat) (ri : Nat) (pg : Int32) (dr : Nat) (dt : Nat) (c_dl : ClassId)  : Met l yX4_b wsX4_b ({ frames := 1, cells := 0, slots := 0, locals := 23 }) (va_Pc [.ref rr, .int (0 : Int32)] (fun U => va_P (dC, dI) vwCl [(rr, .inr (6, [.ref ds, .ref ri, .int 0, .int 1, .int (1 : Int32), .int 0])), (ds, .inr (3, [.int pg, .ref dl, .ref dr, .ref dt, .int (1 : Int32), .int (-1 : Int32), .int (bk_n 32)])), (dl, .inl (c_dl, 8224, .inl (bk_wl 32)))] U.heap ∧ va_K (dC, dI) vwCl [(c_dl, .byte)] U ∧ gx_W U)) (vp_Si (fun r => r = (0 : Int32))) 0 0 (fun _ => False) := by
  refine Met.ofW (cc := cX4_b) (maxL := 2) (ret := (some .int)) (by decide) rfl ?_
  intro p e s m args below meth c s₁ B hml hv
  obtain ⟨rfl, hP, hK, hG⟩ := hv
  have hx := B.exec
  have hb := B.bytes
  have hr := B.returns
  have hts := atoms_spec (ws := wsX4_b) B.pre
  have hown : s.vm.findClass RX4 = some m.cls := findClass_of_methodNamed B.named
  have hlocks := B.notSynchronized
  have hl := lv_entry ([.ref rr, .int (0 : Int32)]) (n := 2) (Nat.le_of_ble_eq_true rfl)
  rw [lg_entry_eq]
  generalize (lg_sl ([.ref rr, .int (0 : Int32)]) ++ List.replicate (2 - (lg_sl ([.ref rr, .int (0 : Int32)])).length) Slot.unset).toArray = ls at hl ⊢
  have hl : lv_has ls 2 [(0, .ref rr), (1, .int (0 : Int32))] := hl
  refine lv_aload_n hx hb dX4_b_0 rfl (lv_at hl 0 rfl) ?_
  refine va_get (D := (dC, dI)) (ci := 6) (v := .ref ds) (C := RX4) (T := TX4) (N := 6) hx hb hts (by decide +kernel) hown hK hP 0 rfl rfl 0 (by decide) (hts (.fieldLink RX4 9 "BlockLog$Rows" "disk" "LBlockLog$Disk;") (by decide +kernel)) (fun _ h9 => h9) rfl dX4_b_1 ?_
  refine va_getN (D := (dC, dI)) (ci := 3) (v := .ref dl) (C := RX1) (T := TX1) (N := 7) hx hb hts (by decide +kernel) hown hK hP 1 rfl rfl 1 (by decide) (va_Nw.use rfl (hG.1 ("BlockLog$Rows", 36, "BlockLog$Disk", "low", "[B", "BlockLog") (by decide +kernel))) (fun _ h9 => h9) rfl dX4_b_4 ?_
  refine lv_aload_n hx hb dX4_b_7 rfl (lv_at hl 0 rfl) ?_
  refine lv_iload_n hx hb dX4_b_8 rfl (lv_at hl 1 rfl) ?_
  have hPc := hP.sub (ws' := [(rr, .inr (6, [.ref ds, .ref ri, .int 0, .int 1, .int (1 : Int32), .int 0]))]) [0] rfl
  have hKc := hK.sub (tys' := []) [] rfl
  refine vp_callSi (va_Run.run (va_runV (As := [.int (0 : Int32)]) (rest := [.ref dl]) ⟨hx, hb, hml, hown, hts⟩ (k_X4_place_1 l dC dI rr ds ri) (cwV 1 hts gX4_b_X4_place rfl rfl rfl (by decide +kernel) ⟨Nat.le_of_ble_eq_true rfl, Nat.le_of_ble_eq_true rfl⟩) ⟨fun a U g mk q => by obtain ⟨q0, qP, qK⟩ := q; exact ⟨q0, qP, va_K.moved (u := U) (U := U.calling g mk a) (Vm.Alike.refl U.vm) qK⟩, va_recv hK hP (ci := 6) (q := (RX4, TX4, 6)) rfl (q0 := 0) rfl, fun U hU hW => ⟨rfl, by rw [hU]; exact hPc, va_K.moved hW.alike hKc⟩⟩ rfl rfl hl.1 rfl (lv_room (Nat.le_of_ble_eq_true rfl)) dX4_b_9 ⟨Nat.le_of_ble_eq_true rfl, Nat.le_of_ble_eq_true rfl⟩)) (fun r_1 er_1 => ?_)
  replace er_1 := er_1.trans (show _ = (32 : Int32) by decide +kernel)
  subst er_1
  refine lv_iconst (v := 5) hx hb dX4_b_12 (by decide) ?_
  refine lv_iadd hx hb dX4_b_13 ?_
  have e9 : (32 : Int32) + (5 : Int32) = (37 : Int32) := by decide +kernel
  rw [e9]
  clear e9
  have hPc := hP.sub (ws' := [(dl, .inl (c_dl, 8224, .inl (bk_wl 32)))]) [2] rfl
  have hKc := hK.sub (tys' := [(c_dl, .byte)]) [0] rfl
  refine vp_callSi (va_Run.run (va_runS (As := [.ref dl, .int (37 : Int32)]) (rest := []) ⟨hx, hb, hml, hown, hts⟩ (k_X0_intAt_1 l dC dI dl c_dl) (va_cwS 2 hts gX4_b_X0_intAt rfl rfl rfl (by decide +kernel) ⟨Nat.le_of_ble_eq_true rfl, Nat.le_of_ble_eq_true rfl⟩) ⟨fun a U g mk q => by obtain ⟨q0, qP, qK⟩ := q; exact ⟨q0, qP, va_K.moved (u := U) (U := U.calling g mk a) (Vm.Alike.refl U.vm) qK⟩, fun U hU hW => ⟨rfl, by rw [hU]; exact hPc, va_K.moved hW.alike hKc⟩⟩ rfl rfl hl.1 rfl (lv_room (Nat.le_of_ble_eq_true rfl)) dX4_b_14 ⟨Nat.le_of_ble_eq_true rfl, Nat.le_of_ble_eq_true rfl⟩)) (fun r_2 er_2 => ?_)
  replace er_2 := er_2.trans (show _ = (0 : Int32) by decide +kernel)
  subst er_2
  exact W.iret hx hb hr (fun t ht hW => ⟨_, rfl, rfl, ht⟩) (fun q h => by cases h) dX4_b_17

set_option maxHeartbeats 4000000 in
set_option maxRecDepth 100000 in
theorem k_X0_intAt_2 (l : Launch) (dC : Nat → ClassId) (dI : Nat → Nat → Nat) (dl : Nat) (c_dl : ClassId)  : Met l yX0_intAt wsX0_intAt ({ frames := 0, cells := 0, slots := 0, locals := 0 }) (va_Pc [.ref dl, .int (33 : Int32)] (fun U => va_P (dC, dI) vwCl [(dl, .inl (c_dl, 8224, .inl (bk_wl 32)))] U.heap ∧ va_K (dC, dI) vwCl [(c_dl, .byte)] U)) (vp_Si (fun r => r = ((((((((0 : Int32) <<< ((8 : Int32) &&& 31)) ||| ((0 : Int32) &&& (255 : Int32))) <<< ((8 : Int32) &&& 31)) ||| ((0 : Int32) &&& (255 : Int32))) <<< ((8 : Int32) &&& 31)) ||| ((0 : Int32) &&& (255 : Int32))) <<< ((8 : Int32) &&& 31)) ||| ((1 : Int32) &&& (255 : Int32)))) 0 0 (fun _ => False) := by
  refine Met.ofW (cc := cX0_intAt) (maxL := 4) (ret := (some .int)) (by decide) rfl ?_
  intro p e s m args below meth c s₁ B hml hv
  obtain ⟨rfl, hP, hK⟩ := hv
  have hx := B.exec
  have hb := B.bytes
  have hr := B.returns
  have hts := atoms_spec (ws := wsX0_intAt) B.pre
  have hown : s.vm.findClass RX0 = some m.cls := findClass_of_methodNamed B.named
  have hlocks := B.notSynchronized
  have hl := lv_entry ([.ref dl, .int (33 : Int32)]) (n := 4) (Nat.le_of_ble_eq_true rfl)
  rw [lg_entry_eq]
  generalize (lg_sl ([.ref dl, .int (33 : Int32)]) ++ List.replicate (4 - (lg_sl ([.ref dl, .int (33 : Int32)])).length) Slot.unset).toArray = ls at hl ⊢
  have hl : lv_has ls 4 [(0, .ref dl), (1, .int (33 : Int32))] := hl
  refine lv_iconst (v := 0) hx hb dX0_intAt_0 (by decide) ?_
  refine lv_istore_n (lv' := [(2, .int (0 : Int32)), (0, .ref dl), (1, .int (33 : Int32))]) hx hb dX0_intAt_1 rfl hl (by decide) rfl (fun ls hl => ?_)
  refine lv_iload_n hx hb dX0_intAt_2 rfl (lv_at hl 2 rfl) ?_
  refine lv_istore_n (lv' := [(3, .int (33 : Int32)), (2, .int (0 : Int32)), (0, .ref dl), (1, .int (33 : Int32))]) hx hb dX0_intAt_3 rfl hl (by decide) rfl (fun ls hl => ?_)
  refine lv_iload_n hx hb dX0_intAt_4 rfl (lv_at hl 0 rfl) ?_
  refine lv_iload_n hx hb dX0_intAt_5 rfl (lv_at hl 3 rfl) ?_
  refine lv_iconst (v := 4) hx hb dX0_intAt_6 (by decide) ?_
  refine lv_iadd hx hb dX0_intAt_7 ?_
  refine lv_icmp_ge (tgt := 30) hx hb dX0_intAt_8 (by decide) (fun c_1 => ?_) (fun c_1 => ?_)
  · skip
    exact absurd c_1 (by decide)
  · skip
    refine lv_iload_n hx hb dX0_intAt_11 rfl (lv_at hl 1 rfl) ?_
    refine lv_bipush (v := 8) hx hb dX0_intAt_12 (by decide) ?_
    refine lv_ishl hx hb dX0_intAt_14 ?_
    refine lv_aload_n hx hb dX0_intAt_15 rfl (lv_at hl 2 rfl) ?_
    refine lv_iload_n hx hb dX0_intAt_16 rfl (lv_at hl 0 rfl) ?_
    refine va_bald hx hb hK hP 0 0 rfl rfl (by unfold vp_in; decide +kernel) dX0_intAt_17 ?_
    have e9 : (bk_wl 32) (33 : Int32).toNatClampNeg = (0 : Int32) := by decide +kernel
    rw [e9]
    clear e9
    refine lv_sipush (v := 255) hx hb dX0_intAt_18 (by decide) ?_
    refine lv_iand hx hb dX0_intAt_21 ?_
    refine lv_ior hx hb dX0_intAt_22 ?_
    refine lv_istore_n (lv' := [(2, .int (((0 : Int32) <<< ((8 : Int32) &&& 31)) ||| ((0 : Int32) &&& (255 : Int32)))), (3, .int (33 : Int32)), (0, .ref dl), (1, .int (33 : Int32))]) hx hb dX0_intAt_23 rfl hl (by decide) rfl (fun ls hl => ?_)
    refine lv_iinc (v := (34 : Int32)) (lv' := [(3, .int (34 : Int32)), (2, .int (((0 : Int32) <<< ((8 : Int32) &&& 31)) ||| ((0 : Int32) &&& (255 : Int32)))), (0, .ref dl), (1, .int (33 : Int32))]) hx hb dX0_intAt_24 hl (k := 1) rfl (by decide) (by decide) rfl (fun ls hl => ?_)
    refine lv_goto (tgt := 4) hx hb dX0_intAt_27 (by decide) ?_
    refine lv_iload_n hx hb dX0_intAt_4 rfl (lv_at hl 0 rfl) ?_
    refine lv_iload_n hx hb dX0_intAt_5 rfl (lv_at hl 3 rfl) ?_
    refine lv_iconst (v := 4) hx hb dX0_intAt_6 (by decide) ?_
    refine lv_iadd hx hb dX0_intAt_7 ?_
    refine lv_icmp_ge (tgt := 30) hx hb dX0_intAt_8 (by decide) (fun c_2 => ?_) (fun c_2 => ?_)
    · skip
      exact absurd c_2 (by decide)
    · skip
      refine lv_iload_n hx hb dX0_intAt_11 rfl (lv_at hl 1 rfl) ?_
      refine lv_bipush (v := 8) hx hb dX0_intAt_12 (by decide) ?_
      refine lv_ishl hx hb dX0_intAt_14 ?_
      refine lv_aload_n hx hb dX0_intAt_15 rfl (lv_at hl 2 rfl) ?_
      refine lv_iload_n hx hb dX0_intAt_16 rfl (lv_at hl 0 rfl) ?_
      refine va_bald hx hb hK hP 0 0 rfl rfl (by unfold vp_in; decide +kernel) dX0_intAt_17 ?_
      have e9 : (bk_wl 32) (34 : Int32).toNatClampNeg = (0 : Int32) := by decide +kernel
      rw [e9]
      clear e9
      refine lv_sipush (v := 255) hx hb dX0_intAt_18 (by decide) ?_
      refine lv_iand hx hb dX0_intAt_21 ?_
      refine lv_ior hx hb dX0_intAt_22 ?_
      refine lv_istore_n (lv' := [(2, .int (((((0 : Int32) <<< ((8 : Int32) &&& 31)) ||| ((0 : Int32) &&& (255 : Int32))) <<< ((8 : Int32) &&& 31)) ||| ((0 : Int32) &&& (255 : Int32)))), (3, .int (34 : Int32)), (0, .ref dl), (1, .int (33 : Int32))]) hx hb dX0_intAt_23 rfl hl (by decide) rfl (fun ls hl => ?_)
      refine lv_iinc (v := (35 : Int32)) (lv' := [(3, .int (35 : Int32)), (2, .int (((((0 : Int32) <<< ((8 : Int32) &&& 31)) ||| ((0 : Int32) &&& (255 : Int32))) <<< ((8 : Int32) &&& 31)) ||| ((0 : Int32) &&& (255 : Int32)))), (0, .ref dl), (1, .int (33 : Int32))]) hx hb dX0_intAt_24 hl (k := 1) rfl (by decide) (by decide) rfl (fun ls hl => ?_)
      refine lv_goto (tgt := 4) hx hb dX0_intAt_27 (by decide) ?_
      refine lv_iload_n hx hb dX0_intAt_4 rfl (lv_at hl 0 rfl) ?_
      refine lv_iload_n hx hb dX0_intAt_5 rfl (lv_at hl 3 rfl) ?_
      refine lv_iconst (v := 4) hx hb dX0_intAt_6 (by decide) ?_
      refine lv_iadd hx hb dX0_intAt_7 ?_
      refine lv_icmp_ge (tgt := 30) hx hb dX0_intAt_8 (by decide) (fun c_3 => ?_) (fun c_3 => ?_)
      · skip
        exact absurd c_3 (by decide)
      · skip
        refine lv_iload_n hx hb dX0_intAt_11 rfl (lv_at hl 1 rfl) ?_
        refine lv_bipush (v := 8) hx hb dX0_intAt_12 (by decide) ?_
        refine lv_ishl hx hb dX0_intAt_14 ?_
        refine lv_aload_n hx hb dX0_intAt_15 rfl (lv_at hl 2 rfl) ?_
        refine lv_iload_n hx hb dX0_intAt_16 rfl (lv_at hl 0 rfl) ?_
        refine va_bald hx hb hK hP 0 0 rfl rfl (by unfold vp_in; decide +kernel) dX0_intAt_17 ?_
        have e9 : (bk_wl 32) (35 : Int32).toNatClampNeg = (0 : Int32) := by decide +kernel
        rw [e9]
        clear e9
        refine lv_sipush (v := 255) hx hb dX0_intAt_18 (by decide) ?_
        refine lv_iand hx hb dX0_intAt_21 ?_
        refine lv_ior hx hb dX0_intAt_22 ?_
        refine lv_istore_n (lv' := [(2, .int (((((((0 : Int32) <<< ((8 : Int32) &&& 31)) ||| ((0 : Int32) &&& (255 : Int32))) <<< ((8 : Int32) &&& 31)) ||| ((0 : Int32) &&& (255 : Int32))) <<< ((8 : Int32) &&& 31)) ||| ((0 : Int32) &&& (255 : Int32)))), (3, .int (35 : Int32)), (0, .ref dl), (1, .int (33 : Int32))]) hx hb dX0_intAt_23 rfl hl (by decide) rfl (fun ls hl => ?_)
        refine lv_iinc (v := (36 : Int32)) (lv' := [(3, .int (36 : Int32)), (2, .int (((((((0 : Int32) <<< ((8 : Int32) &&& 31)) ||| ((0 : Int32) &&& (255 : Int32))) <<< ((8 : Int32) &&& 31)) ||| ((0 : Int32) &&& (255 : Int32))) <<< ((8 : Int32) &&& 31)) ||| ((0 : Int32) &&& (255 : Int32)))), (0, .ref dl), (1, .int (33 : Int32))]) hx hb dX0_intAt_24 hl (k := 1) rfl (by decide) (by decide) rfl (fun ls hl => ?_)
        refine lv_goto (tgt := 4) hx hb dX0_intAt_27 (by decide) ?_
        refine lv_iload_n hx hb dX0_intAt_4 rfl (lv_at hl 0 rfl) ?_
        refine lv_iload_n hx hb dX0_intAt_5 rfl (lv_at hl 3 rfl) ?_
        refine lv_iconst (v := 4) hx hb dX0_intAt_6 (by decide) ?_
        refine lv_iadd hx hb dX0_intAt_7 ?_
        refine lv_icmp_ge (tgt := 30) hx hb dX0_intAt_8 (by decide) (fun c_4 => ?_) (fun c_4 => ?_)
        · skip
          exact absurd c_4 (by decide)
        · skip
          refine lv_iload_n hx hb dX0_intAt_11 rfl (lv_at hl 1 rfl) ?_
          refine lv_bipush (v := 8) hx hb dX0_intAt_12 (by decide) ?_
          refine lv_ishl hx hb dX0_intAt_14 ?_
          refine lv_aload_n hx hb dX0_intAt_15 rfl (lv_at hl 2 rfl) ?_
          refine lv_iload_n hx hb dX0_intAt_16 rfl (lv_at hl 0 rfl) ?_
          refine va_bald hx hb hK hP 0 0 rfl rfl (by unfold vp_in; decide +kernel) dX0_intAt_17 ?_
          have e9 : (bk_wl 32) (36 : Int32).toNatClampNeg = (1 : Int32) := by decide +kernel
          rw [e9]
          clear e9
          refine lv_sipush (v := 255) hx hb dX0_intAt_18 (by decide) ?_
          refine lv_iand hx hb dX0_intAt_21 ?_
          refine lv_ior hx hb dX0_intAt_22 ?_
          refine lv_istore_n (lv' := [(2, .int (((((((((0 : Int32) <<< ((8 : Int32) &&& 31)) ||| ((0 : Int32) &&& (255 : Int32))) <<< ((8 : Int32) &&& 31)) ||| ((0 : Int32) &&& (255 : Int32))) <<< ((8 : Int32) &&& 31)) ||| ((0 : Int32) &&& (255 : Int32))) <<< ((8 : Int32) &&& 31)) ||| ((1 : Int32) &&& (255 : Int32)))), (3, .int (36 : Int32)), (0, .ref dl), (1, .int (33 : Int32))]) hx hb dX0_intAt_23 rfl hl (by decide) rfl (fun ls hl => ?_)
          refine lv_iinc (v := (37 : Int32)) (lv' := [(3, .int (37 : Int32)), (2, .int (((((((((0 : Int32) <<< ((8 : Int32) &&& 31)) ||| ((0 : Int32) &&& (255 : Int32))) <<< ((8 : Int32) &&& 31)) ||| ((0 : Int32) &&& (255 : Int32))) <<< ((8 : Int32) &&& 31)) ||| ((0 : Int32) &&& (255 : Int32))) <<< ((8 : Int32) &&& 31)) ||| ((1 : Int32) &&& (255 : Int32)))), (0, .ref dl), (1, .int (33 : Int32))]) hx hb dX0_intAt_24 hl (k := 1) rfl (by decide) (by decide) rfl (fun ls hl => ?_)
          refine lv_goto (tgt := 4) hx hb dX0_intAt_27 (by decide) ?_
          refine lv_iload_n hx hb dX0_intAt_4 rfl (lv_at hl 0 rfl) ?_
          refine lv_iload_n hx hb dX0_intAt_5 rfl (lv_at hl 3 rfl) ?_
          refine lv_iconst (v := 4) hx hb dX0_intAt_6 (by decide) ?_
          refine lv_iadd hx hb dX0_intAt_7 ?_
          refine lv_icmp_ge (tgt := 30) hx hb dX0_intAt_8 (by decide) (fun c_5 => ?_) (fun c_5 => ?_)
          · skip
            refine lv_iload_n hx hb dX0_intAt_30 rfl (lv_at hl 1 rfl) ?_
            exact W.iret hx hb hr (fun t ht hW => ⟨_, rfl, rfl, ht⟩) (fun q h => by cases h) dX0_intAt_31
          · skip
            exact absurd (by decide) c_5

set_option maxHeartbeats 4000000 in
set_option maxRecDepth 100000 in
theorem k_X4_a_1 (l : Launch) (dC : Nat → ClassId) (dI : Nat → Nat → Nat) (rr : Nat) (ds : Nat) (dl : Nat) (ri : Nat) (pg : Int32) (dr : Nat) (dt : Nat) (c_dl : ClassId)  : Met l yX4_a wsX4_a ({ frames := 1, cells := 0, slots := 0, locals := 23 }) (va_Pc [.ref rr, .int (0 : Int32)] (fun U => va_P (dC, dI) vwCl [(rr, .inr (6, [.ref ds, .ref ri, .int 0, .int 1, .int (1 : Int32), .int 0])), (ds, .inr (3, [.int pg, .ref dl, .ref dr, .ref dt, .int (1 : Int32), .int (-1 : Int32), .int (bk_n 32)])), (dl, .inl (c_dl, 8224, .inl (bk_wl 32)))] U.heap ∧ va_K (dC, dI) vwCl [(c_dl, .byte)] U ∧ gx_W U)) (vp_Si (fun r => r = (1 : Int32))) 0 0 (fun _ => False) := by
  refine Met.ofW (cc := cX4_a) (maxL := 2) (ret := (some .int)) (by decide) rfl ?_
  intro p e s m args below meth c s₁ B hml hv
  obtain ⟨rfl, hP, hK, hG⟩ := hv
  have hx := B.exec
  have hb := B.bytes
  have hr := B.returns
  have hts := atoms_spec (ws := wsX4_a) B.pre
  have hown : s.vm.findClass RX4 = some m.cls := findClass_of_methodNamed B.named
  have hlocks := B.notSynchronized
  have hl := lv_entry ([.ref rr, .int (0 : Int32)]) (n := 2) (Nat.le_of_ble_eq_true rfl)
  rw [lg_entry_eq]
  generalize (lg_sl ([.ref rr, .int (0 : Int32)]) ++ List.replicate (2 - (lg_sl ([.ref rr, .int (0 : Int32)])).length) Slot.unset).toArray = ls at hl ⊢
  have hl : lv_has ls 2 [(0, .ref rr), (1, .int (0 : Int32))] := hl
  refine lv_aload_n hx hb dX4_a_0 rfl (lv_at hl 0 rfl) ?_
  refine va_get (D := (dC, dI)) (ci := 6) (v := .ref ds) (C := RX4) (T := TX4) (N := 6) hx hb hts (by decide +kernel) hown hK hP 0 rfl rfl 0 (by decide) (hts (.fieldLink RX4 9 "BlockLog$Rows" "disk" "LBlockLog$Disk;") (by decide +kernel)) (fun _ h9 => h9) rfl dX4_a_1 ?_
  refine va_getN (D := (dC, dI)) (ci := 3) (v := .ref dl) (C := RX1) (T := TX1) (N := 7) hx hb hts (by decide +kernel) hown hK hP 1 rfl rfl 1 (by decide) (va_Nw.use rfl (hG.1 ("BlockLog$Rows", 36, "BlockLog$Disk", "low", "[B", "BlockLog") (by decide +kernel))) (fun _ h9 => h9) rfl dX4_a_4 ?_
  refine lv_aload_n hx hb dX4_a_7 rfl (lv_at hl 0 rfl) ?_
  refine lv_iload_n hx hb dX4_a_8 rfl (lv_at hl 1 rfl) ?_
  have hPc := hP.sub (ws' := [(rr, .inr (6, [.ref ds, .ref ri, .int 0, .int 1, .int (1 : Int32), .int 0]))]) [0] rfl
  have hKc := hK.sub (tys' := []) [] rfl
  refine vp_callSi (va_Run.run (va_runV (As := [.int (0 : Int32)]) (rest := [.ref dl]) ⟨hx, hb, hml, hown, hts⟩ (k_X4_place_1 l dC dI rr ds ri) (cwV 1 hts gX4_a_X4_place rfl rfl rfl (by decide +kernel) ⟨Nat.le_of_ble_eq_true rfl, Nat.le_of_ble_eq_true rfl⟩) ⟨fun a U g mk q => by obtain ⟨q0, qP, qK⟩ := q; exact ⟨q0, qP, va_K.moved (u := U) (U := U.calling g mk a) (Vm.Alike.refl U.vm) qK⟩, va_recv hK hP (ci := 6) (q := (RX4, TX4, 6)) rfl (q0 := 0) rfl, fun U hU hW => ⟨rfl, by rw [hU]; exact hPc, va_K.moved hW.alike hKc⟩⟩ rfl rfl hl.1 rfl (lv_room (Nat.le_of_ble_eq_true rfl)) dX4_a_9 ⟨Nat.le_of_ble_eq_true rfl, Nat.le_of_ble_eq_true rfl⟩)) (fun r_1 er_1 => ?_)
  replace er_1 := er_1.trans (show _ = (32 : Int32) by decide +kernel)
  subst er_1
  refine lv_iconst (v := 1) hx hb dX4_a_12 (by decide) ?_
  refine lv_iadd hx hb dX4_a_13 ?_
  have e9 : (32 : Int32) + (1 : Int32) = (33 : Int32) := by decide +kernel
  rw [e9]
  clear e9
  have hPc := hP.sub (ws' := [(dl, .inl (c_dl, 8224, .inl (bk_wl 32)))]) [2] rfl
  have hKc := hK.sub (tys' := [(c_dl, .byte)]) [0] rfl
  refine vp_callSi (va_Run.run (va_runS (As := [.ref dl, .int (33 : Int32)]) (rest := []) ⟨hx, hb, hml, hown, hts⟩ (k_X0_intAt_2 l dC dI dl c_dl) (va_cwS 2 hts gX4_a_X0_intAt rfl rfl rfl (by decide +kernel) ⟨Nat.le_of_ble_eq_true rfl, Nat.le_of_ble_eq_true rfl⟩) ⟨fun a U g mk q => by obtain ⟨q0, qP, qK⟩ := q; exact ⟨q0, qP, va_K.moved (u := U) (U := U.calling g mk a) (Vm.Alike.refl U.vm) qK⟩, fun U hU hW => ⟨rfl, by rw [hU]; exact hPc, va_K.moved hW.alike hKc⟩⟩ rfl rfl hl.1 rfl (lv_room (Nat.le_of_ble_eq_true rfl)) dX4_a_14 ⟨Nat.le_of_ble_eq_true rfl, Nat.le_of_ble_eq_true rfl⟩)) (fun r_2 er_2 => ?_)
  replace er_2 := er_2.trans (show _ = (1 : Int32) by decide +kernel)
  subst er_2
  exact W.iret hx hb hr (fun t ht hW => ⟨_, rfl, rfl, ht⟩) (fun q h => by cases h) dX4_a_17

set_option maxHeartbeats 4000000 in
set_option maxRecDepth 100000 in
theorem k_X6_isWhole_1 (l : Launch) (dC : Nat → ClassId) (dI : Nat → Nat → Nat) (so : Nat) (rr : Nat) (ds : Nat) (dl : Nat) (s1 : Nat) (s2 : Nat) (s3 : Nat) (s4 : Nat) (s5 : Nat) (s6 : Nat) (ri : Nat) (pg : Int32) (dr : Nat) (dt : Nat) (c_dl : ClassId)  : Met l yX6_isWhole wsX6_isWhole ({ frames := 2, cells := 0, slots := 0, locals := 44 }) (va_Pc [.ref so, .int (0 : Int32)] (fun U => va_P (dC, dI) vwCl [(so, .inr (8, [.ref rr, .ref s1, .ref s2, .ref s3, .ref s4, .ref s5, .ref s6, .int (1 : Int32), .int (0 : Int32), .int (-1 : Int32), .int (0 : Int32), .int (0 : Int32)])), (rr, .inr (6, [.ref ds, .ref ri, .int 0, .int 1, .int (1 : Int32), .int 0])), (ds, .inr (3, [.int pg, .ref dl, .ref dr, .ref dt, .int (1 : Int32), .int (-1 : Int32), .int (bk_n 32)])), (dl, .inl (c_dl, 8224, .inl (bk_wl 32)))] U.heap ∧ va_K (dC, dI) vwCl [(c_dl, .byte)] U ∧ gx_W U)) (vp_Si (fun r => r = (1 : Int32))) 0 0 (fun _ => False) := by
  refine Met.ofW (cc := cX6_isWhole) (maxL := 5) (ret := (some .boolean)) (by decide) rfl ?_
  intro p e s m args below meth c s₁ B hml hv
  obtain ⟨rfl, hP, hK, hG⟩ := hv
  have hx := B.exec
  have hb := B.bytes
  have hr := B.returns
  have hts := atoms_spec (ws := wsX6_isWhole) B.pre
  have hown : s.vm.findClass RX6 = some m.cls := findClass_of_methodNamed B.named
  have hlocks := B.notSynchronized
  have hl := lv_entry ([.ref so, .int (0 : Int32)]) (n := 5) (Nat.le_of_ble_eq_true rfl)
  rw [lg_entry_eq]
  generalize (lg_sl ([.ref so, .int (0 : Int32)]) ++ List.replicate (5 - (lg_sl ([.ref so, .int (0 : Int32)])).length) Slot.unset).toArray = ls at hl ⊢
  have hl : lv_has ls 5 [(0, .ref so), (1, .int (0 : Int32))] := hl
  refine lv_aload_n hx hb dX6_isWhole_0 rfl (lv_at hl 0 rfl) ?_
  refine va_get (D := (dC, dI)) (ci := 8) (v := .ref rr) (C := RX6) (T := TX6) (N := 12) hx hb hts (by decide +kernel) hown hK hP 0 rfl rfl 0 (by decide) (hts (.fieldLink RX6 9 "BlockLog$Story" "rows" "LBlockLog$Rows;") (by decide +kernel)) (fun _ h9 => h9) rfl dX6_isWhole_1 ?_
  refine lv_iload_n hx hb dX6_isWhole_4 rfl (lv_at hl 1 rfl) ?_
  have hPc := hP.sub (ws' := [(rr, .inr (6, [.ref ds, .ref ri, .int 0, .int 1, .int (1 : Int32), .int 0])), (ds, .inr (3, [.int pg, .ref dl, .ref dr, .ref dt, .int (1 : Int32), .int (-1 : Int32), .int (bk_n 32)])), (dl, .inl (c_dl, 8224, .inl (bk_wl 32)))]) [1, 2, 3] rfl
  have hKc := hK.sub (tys' := [(c_dl, .byte)]) [0] rfl
  refine vp_callSi (va_Run.run (va_runV (As := [.int (0 : Int32)]) (rest := []) ⟨hx, hb, hml, hown, hts⟩ (k_X4_b_1 l dC dI rr ds dl ri pg dr dt c_dl) (cwV 1 hts gX6_isWhole_X4_b rfl rfl rfl (by decide +kernel) ⟨Nat.le_of_ble_eq_true rfl, Nat.le_of_ble_eq_true rfl⟩) ⟨fun a U g mk q => by obtain ⟨q0, qP, qK, qG⟩ := q; exact ⟨q0, qP, va_K.moved (u := U) (U := U.calling g mk a) (Vm.Alike.refl U.vm) qK, qG.same rfl⟩, va_recv hK hP (ci := 6) (q := (RX4, TX4, 6)) rfl (q0 := 1) rfl, fun U hU hW => ⟨rfl, by rw [hU]; exact hPc, va_K.moved hW.alike hKc, hG.warm hW⟩⟩ rfl rfl hl.1 rfl (lv_room (Nat.le_of_ble_eq_true rfl)) dX6_isWhole_5 ⟨Nat.le_of_ble_eq_true rfl, Nat.le_of_ble_eq_true rfl⟩)) (fun r_1 er_1 => ?_)
  subst er_1
  refine lv_istore_n (lv' := [(2, .int (0 : Int32)), (0, .ref so), (1, .int (0 : Int32))]) hx hb dX6_isWhole_8 rfl hl (by decide) rfl (fun ls hl => ?_)
  refine lv_aload_n hx hb dX6_isWhole_9 rfl (lv_at hl 1 rfl) ?_
  refine va_get (D := (dC, dI)) (ci := 8) (v := .ref rr) (C := RX6) (T := TX6) (N := 12) hx hb hts (by decide +kernel) hown hK hP 0 rfl rfl 0 (by decide) (hts (.fieldLink RX6 9 "BlockLog$Story" "rows" "LBlockLog$Rows;") (by decide +kernel)) (fun _ h9 => h9) rfl dX6_isWhole_10 ?_
  refine lv_iload_n hx hb dX6_isWhole_13 rfl (lv_at hl 2 rfl) ?_
  have hPc := hP.sub (ws' := [(rr, .inr (6, [.ref ds, .ref ri, .int 0, .int 1, .int (1 : Int32), .int 0])), (ds, .inr (3, [.int pg, .ref dl, .ref dr, .ref dt, .int (1 : Int32), .int (-1 : Int32), .int (bk_n 32)])), (dl, .inl (c_dl, 8224, .inl (bk_wl 32)))]) [1, 2, 3] rfl
  have hKc := hK.sub (tys' := [(c_dl, .byte)]) [0] rfl
  refine vp_callSi (va_Run.run (va_runV (As := [.int (0 : Int32)]) (rest := []) ⟨hx, hb, hml, hown, hts⟩ (k_X4_a_1 l dC dI rr ds dl ri pg dr dt c_dl) (cwV 1 hts gX6_isWhole_X4_a rfl rfl rfl (by decide +kernel) ⟨Nat.le_of_ble_eq_true rfl, Nat.le_of_ble_eq_true rfl⟩) ⟨fun a U g mk q => by obtain ⟨q0, qP, qK, qG⟩ := q; exact ⟨q0, qP, va_K.moved (u := U) (U := U.calling g mk a) (Vm.Alike.refl U.vm) qK, qG.same rfl⟩, va_recv hK hP (ci := 6) (q := (RX4, TX4, 6)) rfl (q0 := 1) rfl, fun U hU hW => ⟨rfl, by rw [hU]; exact hPc, va_K.moved hW.alike hKc, hG.warm hW⟩⟩ rfl rfl hl.1 rfl (lv_room (Nat.le_of_ble_eq_true rfl)) dX6_isWhole_14 ⟨Nat.le_of_ble_eq_true rfl, Nat.le_of_ble_eq_true rfl⟩)) (fun r_2 er_2 => ?_)
  subst er_2
  have hPc := hP.sub (ws' := []) [] rfl
  have hKc := hK.sub (tys' := []) [] rfl
  refine vp_callSi (va_Run.run (va_runSN (As := [.int (1 : Int32)]) (rest := []) ⟨hx, hb, hml, hown, hts⟩ (k_X8_isHeight_3 l dC dI (1 : Int32) (by decide) (by decide)) ⟨va_cnB 1 hts ggX6_isWhole_X8_isHeight rfl rfl rfl (hG.2.2.2.2.2.1 ("BlockLog$Story", 103, yX8_isHeight, "BlockLog") (by decide +kernel)) (hts (.initialized RX8) (by decide +kernel)) (by decide +kernel) ⟨Nat.le_of_ble_eq_true rfl, Nat.le_of_ble_eq_true rfl⟩, hts (.static yX8_isHeight) (by decide +kernel), trivial⟩ ⟨fun a U g mk q => by obtain ⟨q0, qP, qK⟩ := q; exact ⟨q0, qP, va_K.moved (u := U) (U := U.calling g mk a) (Vm.Alike.refl U.vm) qK⟩, fun U hU hW => ⟨rfl, by rw [hU]; exact hPc, va_K.moved hW.alike hKc⟩⟩ rfl rfl hl.1 rfl (lv_room (Nat.le_of_ble_eq_true rfl)) dX6_isWhole_17 ⟨Nat.le_of_ble_eq_true rfl, Nat.le_of_ble_eq_true rfl⟩)) (fun r_3 er_3 => ?_)
  subst er_3
  refine lv_if_eq (tgt := 43) hx hb dX6_isWhole_20 (by decide) (fun c_4 => ?_) (fun c_4 => ?_)
  · skip
    exact absurd c_4 (by decide)
  · skip
    refine lv_iload_n hx hb dX6_isWhole_23 rfl (lv_at hl 0 rfl) ?_
    refine lv_if_lt (tgt := 43) hx hb dX6_isWhole_24 (by decide) (fun c_5 => ?_) (fun c_5 => ?_)
    · skip
      exact absurd c_5 (by decide)
    · skip
      refine lv_iload_n hx hb dX6_isWhole_27 rfl (lv_at hl 0 rfl) ?_
      refine lv_bipush (v := 16) hx hb dX6_isWhole_28 (by decide) ?_
      refine lv_icmp_gt (tgt := 43) hx hb dX6_isWhole_30 (by decide) (fun c_6 => ?_) (fun c_6 => ?_)
      · skip
        exact absurd c_6 (by decide)
      · skip
        refine lv_iload_n hx hb dX6_isWhole_33 rfl (lv_at hl 2 rfl) ?_
        refine lv_iload_n hx hb dX6_isWhole_34 rfl (lv_at hl 0 rfl) ?_
        refine lv_iadd hx hb dX6_isWhole_35 ?_
        refine lv_aload_n hx hb dX6_isWhole_36 rfl (lv_at hl 1 rfl) ?_
        refine va_get (D := (dC, dI)) (ci := 8) (v := .int (1 : Int32)) (C := RX6) (T := TX6) (N := 12) hx hb hts (by decide +kernel) hown hK hP 0 rfl rfl 7 (by decide) (hts (.fieldLink RX6 36 "BlockLog$Story" "heard" "I") (by decide +kernel)) (fun _ h9 => h9) rfl dX6_isWhole_37 ?_
        refine lv_icmp_lt (tgt := 45) hx hb dX6_isWhole_40 (by decide) (fun c_7 => ?_) (fun c_7 => ?_)
        · skip
          refine lv_iload_n hx hb dX6_isWhole_45 rfl (lv_at hl 2 rfl) ?_
          refine lv_iconst (v := 1) hx hb dX6_isWhole_46 (by decide) ?_
          refine lv_iadd hx hb dX6_isWhole_47 ?_
          refine lv_istore_n (lv' := [(3, .int ((0 : Int32) + (1 : Int32))), (2, .int (0 : Int32)), (0, .ref so), (1, .int (0 : Int32))]) hx hb dX6_isWhole_48 rfl hl (by decide) rfl (fun ls hl => ?_)
          refine lv_iload_n hx hb dX6_isWhole_49 rfl (lv_at hl 0 rfl) ?_
          refine lv_iload_n hx hb dX6_isWhole_50 rfl (lv_at hl 3 rfl) ?_
          refine lv_iload_n hx hb dX6_isWhole_51 rfl (lv_at hl 1 rfl) ?_
          refine lv_iadd hx hb dX6_isWhole_52 ?_
          refine lv_icmp_gt (tgt := 98) hx hb dX6_isWhole_53 (by decide) (fun c_8 => ?_) (fun c_8 => ?_)
          · skip
            refine lv_iconst (v := 1) hx hb dX6_isWhole_98 (by decide) ?_
            exact W.zret hx hb hr rfl (fun t ht hW => ⟨_, rfl, rfl, ht⟩) (fun q h => by cases h) dX6_isWhole_99
          · skip
            exact absurd (by decide) c_8
        · skip
          exact absurd (by decide) c_7

set_option maxHeartbeats 4000000 in
set_option maxRecDepth 100000 in
theorem k_X0_longAt_1 (l : Launch) (dC : Nat → ClassId) (dI : Nat → Nat → Nat) (dl : Nat) (c_dl : ClassId)  : Met l yX0_longAt wsX0_longAt ({ frames := 0, cells := 0, slots := 0, locals := 0 }) (va_Pc [.ref dl, .int (41 : Int32)] (fun U => va_P (dC, dI) vwCl [(dl, .inl (c_dl, 8224, .inl (bk_wl 32)))] U.heap ∧ va_K (dC, dI) vwCl [(c_dl, .byte)] U)) (vp_Sl (fun r => r = ((((((((((((((((0 : Int64) <<< ((8 : Int32).toInt64 &&& 63)) ||| (((0 : Int32) &&& (255 : Int32)).toInt64)) <<< ((8 : Int32).toInt64 &&& 63)) ||| (((0 : Int32) &&& (255 : Int32)).toInt64)) <<< ((8 : Int32).toInt64 &&& 63)) ||| (((0 : Int32) &&& (255 : Int32)).toInt64)) <<< ((8 : Int32).toInt64 &&& 63)) ||| (((0 : Int32) &&& (255 : Int32)).toInt64)) <<< ((8 : Int32).toInt64 &&& 63)) ||| (((0 : Int32) &&& (255 : Int32)).toInt64)) <<< ((8 : Int32).toInt64 &&& 63)) ||| (((0 : Int32) &&& (255 : Int32)).toInt64)) <<< ((8 : Int32).toInt64 &&& 63)) ||| (((0 : Int32) &&& (255 : Int32)).toInt64)) <<< ((8 : Int32).toInt64 &&& 63)) ||| (((0 : Int32) &&& (255 : Int32)).toInt64))) 0 0 (fun _ => False) := by
  refine Met.ofW (cc := cX0_longAt) (maxL := 5) (ret := (some .long)) (by decide) rfl ?_
  intro p e s m args below meth c s₁ B hml hv
  obtain ⟨rfl, hP, hK⟩ := hv
  have hx := B.exec
  have hb := B.bytes
  have hr := B.returns
  have hts := atoms_spec (ws := wsX0_longAt) B.pre
  have hown : s.vm.findClass RX0 = some m.cls := findClass_of_methodNamed B.named
  have hlocks := B.notSynchronized
  have hl := lv_entry ([.ref dl, .int (41 : Int32)]) (n := 5) (Nat.le_of_ble_eq_true rfl)
  rw [lg_entry_eq]
  generalize (lg_sl ([.ref dl, .int (41 : Int32)]) ++ List.replicate (5 - (lg_sl ([.ref dl, .int (41 : Int32)])).length) Slot.unset).toArray = ls at hl ⊢
  have hl : lv_has ls 5 [(0, .ref dl), (1, .int (41 : Int32))] := hl
  refine lv_lconst (v := 0) hx hb dX0_longAt_0 (by decide) ?_
  refine lv_lstore_n (lv' := [(2, .long (0 : Int64)), (0, .ref dl), (1, .int (41 : Int32))]) hx hb dX0_longAt_1 rfl hl (by decide) rfl (fun ls hl => ?_)
  refine lv_iload_n hx hb dX0_longAt_2 rfl (lv_at hl 2 rfl) ?_
  refine lv_istore (lv' := [(4, .int (41 : Int32)), (2, .long (0 : Int64)), (0, .ref dl), (1, .int (41 : Int32))]) hx hb dX0_longAt_3 hl (by decide) rfl (fun ls hl => ?_)
  refine lv_iload hx hb dX0_longAt_5 (lv_at hl 0 rfl) ?_
  refine lv_iload_n hx hb dX0_longAt_7 rfl (lv_at hl 3 rfl) ?_
  refine lv_bipush (v := 8) hx hb dX0_longAt_8 (by decide) ?_
  refine lv_iadd hx hb dX0_longAt_10 ?_
  refine lv_icmp_ge (tgt := 35) hx hb dX0_longAt_11 (by decide) (fun c_1 => ?_) (fun c_1 => ?_)
  · skip
    exact absurd c_1 (by decide)
  · skip
    refine lv_lload_n hx hb dX0_longAt_14 rfl (lv_at hl 1 rfl) ?_
    refine lv_bipush (v := 8) hx hb dX0_longAt_15 (by decide) ?_
    refine lv_lshl hx hb dX0_longAt_17 rfl ?_
    refine lv_aload_n hx hb dX0_longAt_18 rfl (lv_at hl 2 rfl) ?_
    refine lv_iload hx hb dX0_longAt_19 (lv_at hl 0 rfl) ?_
    refine va_bald hx hb hK hP 0 0 rfl rfl (by unfold vp_in; decide +kernel) dX0_longAt_21 ?_
    have e9 : (bk_wl 32) (41 : Int32).toNatClampNeg = (0 : Int32) := by decide +kernel
    rw [e9]
    clear e9
    refine lv_sipush (v := 255) hx hb dX0_longAt_22 (by decide) ?_
    refine lv_iand hx hb dX0_longAt_25 ?_
    refine lv_i2l hx hb dX0_longAt_26 rfl ?_
    refine lv_lor hx hb dX0_longAt_27 ?_
    refine lv_lstore_n (lv' := [(2, .long (((0 : Int64) <<< ((8 : Int32).toInt64 &&& 63)) ||| (((0 : Int32) &&& (255 : Int32)).toInt64))), (4, .int (41 : Int32)), (0, .ref dl), (1, .int (41 : Int32))]) hx hb dX0_longAt_28 rfl hl (by decide) rfl (fun ls hl => ?_)
    refine lv_iinc (v := (42 : Int32)) (lv' := [(4, .int (42 : Int32)), (2, .long (((0 : Int64) <<< ((8 : Int32).toInt64 &&& 63)) ||| (((0 : Int32) &&& (255 : Int32)).toInt64))), (0, .ref dl), (1, .int (41 : Int32))]) hx hb dX0_longAt_29 hl (k := 1) rfl (by decide) (by decide) rfl (fun ls hl => ?_)
    refine lv_goto (tgt := 5) hx hb dX0_longAt_32 (by decide) ?_
    refine lv_iload hx hb dX0_longAt_5 (lv_at hl 0 rfl) ?_
    refine lv_iload_n hx hb dX0_longAt_7 rfl (lv_at hl 3 rfl) ?_
    refine lv_bipush (v := 8) hx hb dX0_longAt_8 (by decide) ?_
    refine lv_iadd hx hb dX0_longAt_10 ?_
    refine lv_icmp_ge (tgt := 35) hx hb dX0_longAt_11 (by decide) (fun c_2 => ?_) (fun c_2 => ?_)
    · skip
      exact absurd c_2 (by decide)
    · skip
      refine lv_lload_n hx hb dX0_longAt_14 rfl (lv_at hl 1 rfl) ?_
      refine lv_bipush (v := 8) hx hb dX0_longAt_15 (by decide) ?_
      refine lv_lshl hx hb dX0_longAt_17 rfl ?_
      refine lv_aload_n hx hb dX0_longAt_18 rfl (lv_at hl 2 rfl) ?_
      refine lv_iload hx hb dX0_longAt_19 (lv_at hl 0 rfl) ?_
      refine va_bald hx hb hK hP 0 0 rfl rfl (by unfold vp_in; decide +kernel) dX0_longAt_21 ?_
      have e9 : (bk_wl 32) (42 : Int32).toNatClampNeg = (0 : Int32) := by decide +kernel
      rw [e9]
      clear e9
      refine lv_sipush (v := 255) hx hb dX0_longAt_22 (by decide) ?_
      refine lv_iand hx hb dX0_longAt_25 ?_
      refine lv_i2l hx hb dX0_longAt_26 rfl ?_
      refine lv_lor hx hb dX0_longAt_27 ?_
      refine lv_lstore_n (lv' := [(2, .long (((((0 : Int64) <<< ((8 : Int32).toInt64 &&& 63)) ||| (((0 : Int32) &&& (255 : Int32)).toInt64)) <<< ((8 : Int32).toInt64 &&& 63)) ||| (((0 : Int32) &&& (255 : Int32)).toInt64))), (4, .int (42 : Int32)), (0, .ref dl), (1, .int (41 : Int32))]) hx hb dX0_longAt_28 rfl hl (by decide) rfl (fun ls hl => ?_)
      refine lv_iinc (v := (43 : Int32)) (lv' := [(4, .int (43 : Int32)), (2, .long (((((0 : Int64) <<< ((8 : Int32).toInt64 &&& 63)) ||| (((0 : Int32) &&& (255 : Int32)).toInt64)) <<< ((8 : Int32).toInt64 &&& 63)) ||| (((0 : Int32) &&& (255 : Int32)).toInt64))), (0, .ref dl), (1, .int (41 : Int32))]) hx hb dX0_longAt_29 hl (k := 1) rfl (by decide) (by decide) rfl (fun ls hl => ?_)
      refine lv_goto (tgt := 5) hx hb dX0_longAt_32 (by decide) ?_
      refine lv_iload hx hb dX0_longAt_5 (lv_at hl 0 rfl) ?_
      refine lv_iload_n hx hb dX0_longAt_7 rfl (lv_at hl 3 rfl) ?_
      refine lv_bipush (v := 8) hx hb dX0_longAt_8 (by decide) ?_
      refine lv_iadd hx hb dX0_longAt_10 ?_
      refine lv_icmp_ge (tgt := 35) hx hb dX0_longAt_11 (by decide) (fun c_3 => ?_) (fun c_3 => ?_)
      · skip
        exact absurd c_3 (by decide)
      · skip
        refine lv_lload_n hx hb dX0_longAt_14 rfl (lv_at hl 1 rfl) ?_
        refine lv_bipush (v := 8) hx hb dX0_longAt_15 (by decide) ?_
        refine lv_lshl hx hb dX0_longAt_17 rfl ?_
        refine lv_aload_n hx hb dX0_longAt_18 rfl (lv_at hl 2 rfl) ?_
        refine lv_iload hx hb dX0_longAt_19 (lv_at hl 0 rfl) ?_
        refine va_bald hx hb hK hP 0 0 rfl rfl (by unfold vp_in; decide +kernel) dX0_longAt_21 ?_
        have e9 : (bk_wl 32) (43 : Int32).toNatClampNeg = (0 : Int32) := by decide +kernel
        rw [e9]
        clear e9
        refine lv_sipush (v := 255) hx hb dX0_longAt_22 (by decide) ?_
        refine lv_iand hx hb dX0_longAt_25 ?_
        refine lv_i2l hx hb dX0_longAt_26 rfl ?_
        refine lv_lor hx hb dX0_longAt_27 ?_
        refine lv_lstore_n (lv' := [(2, .long (((((((0 : Int64) <<< ((8 : Int32).toInt64 &&& 63)) ||| (((0 : Int32) &&& (255 : Int32)).toInt64)) <<< ((8 : Int32).toInt64 &&& 63)) ||| (((0 : Int32) &&& (255 : Int32)).toInt64)) <<< ((8 : Int32).toInt64 &&& 63)) ||| (((0 : Int32) &&& (255 : Int32)).toInt64))), (4, .int (43 : Int32)), (0, .ref dl), (1, .int (41 : Int32))]) hx hb dX0_longAt_28 rfl hl (by decide) rfl (fun ls hl => ?_)
        refine lv_iinc (v := (44 : Int32)) (lv' := [(4, .int (44 : Int32)), (2, .long (((((((0 : Int64) <<< ((8 : Int32).toInt64 &&& 63)) ||| (((0 : Int32) &&& (255 : Int32)).toInt64)) <<< ((8 : Int32).toInt64 &&& 63)) ||| (((0 : Int32) &&& (255 : Int32)).toInt64)) <<< ((8 : Int32).toInt64 &&& 63)) ||| (((0 : Int32) &&& (255 : Int32)).toInt64))), (0, .ref dl), (1, .int (41 : Int32))]) hx hb dX0_longAt_29 hl (k := 1) rfl (by decide) (by decide) rfl (fun ls hl => ?_)
        refine lv_goto (tgt := 5) hx hb dX0_longAt_32 (by decide) ?_
        refine lv_iload hx hb dX0_longAt_5 (lv_at hl 0 rfl) ?_
        refine lv_iload_n hx hb dX0_longAt_7 rfl (lv_at hl 3 rfl) ?_
        refine lv_bipush (v := 8) hx hb dX0_longAt_8 (by decide) ?_
        refine lv_iadd hx hb dX0_longAt_10 ?_
        refine lv_icmp_ge (tgt := 35) hx hb dX0_longAt_11 (by decide) (fun c_4 => ?_) (fun c_4 => ?_)
        · skip
          exact absurd c_4 (by decide)
        · skip
          refine lv_lload_n hx hb dX0_longAt_14 rfl (lv_at hl 1 rfl) ?_
          refine lv_bipush (v := 8) hx hb dX0_longAt_15 (by decide) ?_
          refine lv_lshl hx hb dX0_longAt_17 rfl ?_
          refine lv_aload_n hx hb dX0_longAt_18 rfl (lv_at hl 2 rfl) ?_
          refine lv_iload hx hb dX0_longAt_19 (lv_at hl 0 rfl) ?_
          refine va_bald hx hb hK hP 0 0 rfl rfl (by unfold vp_in; decide +kernel) dX0_longAt_21 ?_
          have e9 : (bk_wl 32) (44 : Int32).toNatClampNeg = (0 : Int32) := by decide +kernel
          rw [e9]
          clear e9
          refine lv_sipush (v := 255) hx hb dX0_longAt_22 (by decide) ?_
          refine lv_iand hx hb dX0_longAt_25 ?_
          refine lv_i2l hx hb dX0_longAt_26 rfl ?_
          refine lv_lor hx hb dX0_longAt_27 ?_
          refine lv_lstore_n (lv' := [(2, .long (((((((((0 : Int64) <<< ((8 : Int32).toInt64 &&& 63)) ||| (((0 : Int32) &&& (255 : Int32)).toInt64)) <<< ((8 : Int32).toInt64 &&& 63)) ||| (((0 : Int32) &&& (255 : Int32)).toInt64)) <<< ((8 : Int32).toInt64 &&& 63)) ||| (((0 : Int32) &&& (255 : Int32)).toInt64)) <<< ((8 : Int32).toInt64 &&& 63)) ||| (((0 : Int32) &&& (255 : Int32)).toInt64))), (4, .int (44 : Int32)), (0, .ref dl), (1, .int (41 : Int32))]) hx hb dX0_longAt_28 rfl hl (by decide) rfl (fun ls hl => ?_)
          refine lv_iinc (v := (45 : Int32)) (lv' := [(4, .int (45 : Int32)), (2, .long (((((((((0 : Int64) <<< ((8 : Int32).toInt64 &&& 63)) ||| (((0 : Int32) &&& (255 : Int32)).toInt64)) <<< ((8 : Int32).toInt64 &&& 63)) ||| (((0 : Int32) &&& (255 : Int32)).toInt64)) <<< ((8 : Int32).toInt64 &&& 63)) ||| (((0 : Int32) &&& (255 : Int32)).toInt64)) <<< ((8 : Int32).toInt64 &&& 63)) ||| (((0 : Int32) &&& (255 : Int32)).toInt64))), (0, .ref dl), (1, .int (41 : Int32))]) hx hb dX0_longAt_29 hl (k := 1) rfl (by decide) (by decide) rfl (fun ls hl => ?_)
          refine lv_goto (tgt := 5) hx hb dX0_longAt_32 (by decide) ?_
          refine lv_iload hx hb dX0_longAt_5 (lv_at hl 0 rfl) ?_
          refine lv_iload_n hx hb dX0_longAt_7 rfl (lv_at hl 3 rfl) ?_
          refine lv_bipush (v := 8) hx hb dX0_longAt_8 (by decide) ?_
          refine lv_iadd hx hb dX0_longAt_10 ?_
          refine lv_icmp_ge (tgt := 35) hx hb dX0_longAt_11 (by decide) (fun c_5 => ?_) (fun c_5 => ?_)
          · skip
            exact absurd c_5 (by decide)
          · skip
            refine lv_lload_n hx hb dX0_longAt_14 rfl (lv_at hl 1 rfl) ?_
            refine lv_bipush (v := 8) hx hb dX0_longAt_15 (by decide) ?_
            refine lv_lshl hx hb dX0_longAt_17 rfl ?_
            refine lv_aload_n hx hb dX0_longAt_18 rfl (lv_at hl 2 rfl) ?_
            refine lv_iload hx hb dX0_longAt_19 (lv_at hl 0 rfl) ?_
            refine va_bald hx hb hK hP 0 0 rfl rfl (by unfold vp_in; decide +kernel) dX0_longAt_21 ?_
            have e9 : (bk_wl 32) (45 : Int32).toNatClampNeg = (0 : Int32) := by decide +kernel
            rw [e9]
            clear e9
            refine lv_sipush (v := 255) hx hb dX0_longAt_22 (by decide) ?_
            refine lv_iand hx hb dX0_longAt_25 ?_
            refine lv_i2l hx hb dX0_longAt_26 rfl ?_
            refine lv_lor hx hb dX0_longAt_27 ?_
            refine lv_lstore_n (lv' := [(2, .long (((((((((((0 : Int64) <<< ((8 : Int32).toInt64 &&& 63)) ||| (((0 : Int32) &&& (255 : Int32)).toInt64)) <<< ((8 : Int32).toInt64 &&& 63)) ||| (((0 : Int32) &&& (255 : Int32)).toInt64)) <<< ((8 : Int32).toInt64 &&& 63)) ||| (((0 : Int32) &&& (255 : Int32)).toInt64)) <<< ((8 : Int32).toInt64 &&& 63)) ||| (((0 : Int32) &&& (255 : Int32)).toInt64)) <<< ((8 : Int32).toInt64 &&& 63)) ||| (((0 : Int32) &&& (255 : Int32)).toInt64))), (4, .int (45 : Int32)), (0, .ref dl), (1, .int (41 : Int32))]) hx hb dX0_longAt_28 rfl hl (by decide) rfl (fun ls hl => ?_)
            refine lv_iinc (v := (46 : Int32)) (lv' := [(4, .int (46 : Int32)), (2, .long (((((((((((0 : Int64) <<< ((8 : Int32).toInt64 &&& 63)) ||| (((0 : Int32) &&& (255 : Int32)).toInt64)) <<< ((8 : Int32).toInt64 &&& 63)) ||| (((0 : Int32) &&& (255 : Int32)).toInt64)) <<< ((8 : Int32).toInt64 &&& 63)) ||| (((0 : Int32) &&& (255 : Int32)).toInt64)) <<< ((8 : Int32).toInt64 &&& 63)) ||| (((0 : Int32) &&& (255 : Int32)).toInt64)) <<< ((8 : Int32).toInt64 &&& 63)) ||| (((0 : Int32) &&& (255 : Int32)).toInt64))), (0, .ref dl), (1, .int (41 : Int32))]) hx hb dX0_longAt_29 hl (k := 1) rfl (by decide) (by decide) rfl (fun ls hl => ?_)
            refine lv_goto (tgt := 5) hx hb dX0_longAt_32 (by decide) ?_
            refine lv_iload hx hb dX0_longAt_5 (lv_at hl 0 rfl) ?_
            refine lv_iload_n hx hb dX0_longAt_7 rfl (lv_at hl 3 rfl) ?_
            refine lv_bipush (v := 8) hx hb dX0_longAt_8 (by decide) ?_
            refine lv_iadd hx hb dX0_longAt_10 ?_
            refine lv_icmp_ge (tgt := 35) hx hb dX0_longAt_11 (by decide) (fun c_6 => ?_) (fun c_6 => ?_)
            · skip
              exact absurd c_6 (by decide)
            · skip
              refine lv_lload_n hx hb dX0_longAt_14 rfl (lv_at hl 1 rfl) ?_
              refine lv_bipush (v := 8) hx hb dX0_longAt_15 (by decide) ?_
              refine lv_lshl hx hb dX0_longAt_17 rfl ?_
              refine lv_aload_n hx hb dX0_longAt_18 rfl (lv_at hl 2 rfl) ?_
              refine lv_iload hx hb dX0_longAt_19 (lv_at hl 0 rfl) ?_
              refine va_bald hx hb hK hP 0 0 rfl rfl (by unfold vp_in; decide +kernel) dX0_longAt_21 ?_
              have e9 : (bk_wl 32) (46 : Int32).toNatClampNeg = (0 : Int32) := by decide +kernel
              rw [e9]
              clear e9
              refine lv_sipush (v := 255) hx hb dX0_longAt_22 (by decide) ?_
              refine lv_iand hx hb dX0_longAt_25 ?_
              refine lv_i2l hx hb dX0_longAt_26 rfl ?_
              refine lv_lor hx hb dX0_longAt_27 ?_
              refine lv_lstore_n (lv' := [(2, .long (((((((((((((0 : Int64) <<< ((8 : Int32).toInt64 &&& 63)) ||| (((0 : Int32) &&& (255 : Int32)).toInt64)) <<< ((8 : Int32).toInt64 &&& 63)) ||| (((0 : Int32) &&& (255 : Int32)).toInt64)) <<< ((8 : Int32).toInt64 &&& 63)) ||| (((0 : Int32) &&& (255 : Int32)).toInt64)) <<< ((8 : Int32).toInt64 &&& 63)) ||| (((0 : Int32) &&& (255 : Int32)).toInt64)) <<< ((8 : Int32).toInt64 &&& 63)) ||| (((0 : Int32) &&& (255 : Int32)).toInt64)) <<< ((8 : Int32).toInt64 &&& 63)) ||| (((0 : Int32) &&& (255 : Int32)).toInt64))), (4, .int (46 : Int32)), (0, .ref dl), (1, .int (41 : Int32))]) hx hb dX0_longAt_28 rfl hl (by decide) rfl (fun ls hl => ?_)
              refine lv_iinc (v := (47 : Int32)) (lv' := [(4, .int (47 : Int32)), (2, .long (((((((((((((0 : Int64) <<< ((8 : Int32).toInt64 &&& 63)) ||| (((0 : Int32) &&& (255 : Int32)).toInt64)) <<< ((8 : Int32).toInt64 &&& 63)) ||| (((0 : Int32) &&& (255 : Int32)).toInt64)) <<< ((8 : Int32).toInt64 &&& 63)) ||| (((0 : Int32) &&& (255 : Int32)).toInt64)) <<< ((8 : Int32).toInt64 &&& 63)) ||| (((0 : Int32) &&& (255 : Int32)).toInt64)) <<< ((8 : Int32).toInt64 &&& 63)) ||| (((0 : Int32) &&& (255 : Int32)).toInt64)) <<< ((8 : Int32).toInt64 &&& 63)) ||| (((0 : Int32) &&& (255 : Int32)).toInt64))), (0, .ref dl), (1, .int (41 : Int32))]) hx hb dX0_longAt_29 hl (k := 1) rfl (by decide) (by decide) rfl (fun ls hl => ?_)
              refine lv_goto (tgt := 5) hx hb dX0_longAt_32 (by decide) ?_
              refine lv_iload hx hb dX0_longAt_5 (lv_at hl 0 rfl) ?_
              refine lv_iload_n hx hb dX0_longAt_7 rfl (lv_at hl 3 rfl) ?_
              refine lv_bipush (v := 8) hx hb dX0_longAt_8 (by decide) ?_
              refine lv_iadd hx hb dX0_longAt_10 ?_
              refine lv_icmp_ge (tgt := 35) hx hb dX0_longAt_11 (by decide) (fun c_7 => ?_) (fun c_7 => ?_)
              · skip
                exact absurd c_7 (by decide)
              · skip
                refine lv_lload_n hx hb dX0_longAt_14 rfl (lv_at hl 1 rfl) ?_
                refine lv_bipush (v := 8) hx hb dX0_longAt_15 (by decide) ?_
                refine lv_lshl hx hb dX0_longAt_17 rfl ?_
                refine lv_aload_n hx hb dX0_longAt_18 rfl (lv_at hl 2 rfl) ?_
                refine lv_iload hx hb dX0_longAt_19 (lv_at hl 0 rfl) ?_
                refine va_bald hx hb hK hP 0 0 rfl rfl (by unfold vp_in; decide +kernel) dX0_longAt_21 ?_
                have e9 : (bk_wl 32) (47 : Int32).toNatClampNeg = (0 : Int32) := by decide +kernel
                rw [e9]
                clear e9
                refine lv_sipush (v := 255) hx hb dX0_longAt_22 (by decide) ?_
                refine lv_iand hx hb dX0_longAt_25 ?_
                refine lv_i2l hx hb dX0_longAt_26 rfl ?_
                refine lv_lor hx hb dX0_longAt_27 ?_
                refine lv_lstore_n (lv' := [(2, .long (((((((((((((((0 : Int64) <<< ((8 : Int32).toInt64 &&& 63)) ||| (((0 : Int32) &&& (255 : Int32)).toInt64)) <<< ((8 : Int32).toInt64 &&& 63)) ||| (((0 : Int32) &&& (255 : Int32)).toInt64)) <<< ((8 : Int32).toInt64 &&& 63)) ||| (((0 : Int32) &&& (255 : Int32)).toInt64)) <<< ((8 : Int32).toInt64 &&& 63)) ||| (((0 : Int32) &&& (255 : Int32)).toInt64)) <<< ((8 : Int32).toInt64 &&& 63)) ||| (((0 : Int32) &&& (255 : Int32)).toInt64)) <<< ((8 : Int32).toInt64 &&& 63)) ||| (((0 : Int32) &&& (255 : Int32)).toInt64)) <<< ((8 : Int32).toInt64 &&& 63)) ||| (((0 : Int32) &&& (255 : Int32)).toInt64))), (4, .int (47 : Int32)), (0, .ref dl), (1, .int (41 : Int32))]) hx hb dX0_longAt_28 rfl hl (by decide) rfl (fun ls hl => ?_)
                refine lv_iinc (v := (48 : Int32)) (lv' := [(4, .int (48 : Int32)), (2, .long (((((((((((((((0 : Int64) <<< ((8 : Int32).toInt64 &&& 63)) ||| (((0 : Int32) &&& (255 : Int32)).toInt64)) <<< ((8 : Int32).toInt64 &&& 63)) ||| (((0 : Int32) &&& (255 : Int32)).toInt64)) <<< ((8 : Int32).toInt64 &&& 63)) ||| (((0 : Int32) &&& (255 : Int32)).toInt64)) <<< ((8 : Int32).toInt64 &&& 63)) ||| (((0 : Int32) &&& (255 : Int32)).toInt64)) <<< ((8 : Int32).toInt64 &&& 63)) ||| (((0 : Int32) &&& (255 : Int32)).toInt64)) <<< ((8 : Int32).toInt64 &&& 63)) ||| (((0 : Int32) &&& (255 : Int32)).toInt64)) <<< ((8 : Int32).toInt64 &&& 63)) ||| (((0 : Int32) &&& (255 : Int32)).toInt64))), (0, .ref dl), (1, .int (41 : Int32))]) hx hb dX0_longAt_29 hl (k := 1) rfl (by decide) (by decide) rfl (fun ls hl => ?_)
                refine lv_goto (tgt := 5) hx hb dX0_longAt_32 (by decide) ?_
                refine lv_iload hx hb dX0_longAt_5 (lv_at hl 0 rfl) ?_
                refine lv_iload_n hx hb dX0_longAt_7 rfl (lv_at hl 3 rfl) ?_
                refine lv_bipush (v := 8) hx hb dX0_longAt_8 (by decide) ?_
                refine lv_iadd hx hb dX0_longAt_10 ?_
                refine lv_icmp_ge (tgt := 35) hx hb dX0_longAt_11 (by decide) (fun c_8 => ?_) (fun c_8 => ?_)
                · skip
                  exact absurd c_8 (by decide)
                · skip
                  refine lv_lload_n hx hb dX0_longAt_14 rfl (lv_at hl 1 rfl) ?_
                  refine lv_bipush (v := 8) hx hb dX0_longAt_15 (by decide) ?_
                  refine lv_lshl hx hb dX0_longAt_17 rfl ?_
                  refine lv_aload_n hx hb dX0_longAt_18 rfl (lv_at hl 2 rfl) ?_
                  refine lv_iload hx hb dX0_longAt_19 (lv_at hl 0 rfl) ?_
                  refine va_bald hx hb hK hP 0 0 rfl rfl (by unfold vp_in; decide +kernel) dX0_longAt_21 ?_
                  have e9 : (bk_wl 32) (48 : Int32).toNatClampNeg = (0 : Int32) := by decide +kernel
                  rw [e9]
                  clear e9
                  refine lv_sipush (v := 255) hx hb dX0_longAt_22 (by decide) ?_
                  refine lv_iand hx hb dX0_longAt_25 ?_
                  refine lv_i2l hx hb dX0_longAt_26 rfl ?_
                  refine lv_lor hx hb dX0_longAt_27 ?_
                  refine lv_lstore_n (lv' := [(2, .long (((((((((((((((((0 : Int64) <<< ((8 : Int32).toInt64 &&& 63)) ||| (((0 : Int32) &&& (255 : Int32)).toInt64)) <<< ((8 : Int32).toInt64 &&& 63)) ||| (((0 : Int32) &&& (255 : Int32)).toInt64)) <<< ((8 : Int32).toInt64 &&& 63)) ||| (((0 : Int32) &&& (255 : Int32)).toInt64)) <<< ((8 : Int32).toInt64 &&& 63)) ||| (((0 : Int32) &&& (255 : Int32)).toInt64)) <<< ((8 : Int32).toInt64 &&& 63)) ||| (((0 : Int32) &&& (255 : Int32)).toInt64)) <<< ((8 : Int32).toInt64 &&& 63)) ||| (((0 : Int32) &&& (255 : Int32)).toInt64)) <<< ((8 : Int32).toInt64 &&& 63)) ||| (((0 : Int32) &&& (255 : Int32)).toInt64)) <<< ((8 : Int32).toInt64 &&& 63)) ||| (((0 : Int32) &&& (255 : Int32)).toInt64))), (4, .int (48 : Int32)), (0, .ref dl), (1, .int (41 : Int32))]) hx hb dX0_longAt_28 rfl hl (by decide) rfl (fun ls hl => ?_)
                  refine lv_iinc (v := (49 : Int32)) (lv' := [(4, .int (49 : Int32)), (2, .long (((((((((((((((((0 : Int64) <<< ((8 : Int32).toInt64 &&& 63)) ||| (((0 : Int32) &&& (255 : Int32)).toInt64)) <<< ((8 : Int32).toInt64 &&& 63)) ||| (((0 : Int32) &&& (255 : Int32)).toInt64)) <<< ((8 : Int32).toInt64 &&& 63)) ||| (((0 : Int32) &&& (255 : Int32)).toInt64)) <<< ((8 : Int32).toInt64 &&& 63)) ||| (((0 : Int32) &&& (255 : Int32)).toInt64)) <<< ((8 : Int32).toInt64 &&& 63)) ||| (((0 : Int32) &&& (255 : Int32)).toInt64)) <<< ((8 : Int32).toInt64 &&& 63)) ||| (((0 : Int32) &&& (255 : Int32)).toInt64)) <<< ((8 : Int32).toInt64 &&& 63)) ||| (((0 : Int32) &&& (255 : Int32)).toInt64)) <<< ((8 : Int32).toInt64 &&& 63)) ||| (((0 : Int32) &&& (255 : Int32)).toInt64))), (0, .ref dl), (1, .int (41 : Int32))]) hx hb dX0_longAt_29 hl (k := 1) rfl (by decide) (by decide) rfl (fun ls hl => ?_)
                  refine lv_goto (tgt := 5) hx hb dX0_longAt_32 (by decide) ?_
                  refine lv_iload hx hb dX0_longAt_5 (lv_at hl 0 rfl) ?_
                  refine lv_iload_n hx hb dX0_longAt_7 rfl (lv_at hl 3 rfl) ?_
                  refine lv_bipush (v := 8) hx hb dX0_longAt_8 (by decide) ?_
                  refine lv_iadd hx hb dX0_longAt_10 ?_
                  refine lv_icmp_ge (tgt := 35) hx hb dX0_longAt_11 (by decide) (fun c_9 => ?_) (fun c_9 => ?_)
                  · skip
                    refine lv_lload_n hx hb dX0_longAt_35 rfl (lv_at hl 1 rfl) ?_
                    exact W.lret hx hb hr (fun t ht hW => ⟨_, rfl, rfl, ht⟩) (fun q h => by cases h) dX0_longAt_36
                  · skip
                    exact absurd (by decide) c_9

set_option maxHeartbeats 4000000 in
set_option maxRecDepth 100000 in
theorem k_X4_c_1 (l : Launch) (dC : Nat → ClassId) (dI : Nat → Nat → Nat) (rr : Nat) (ds : Nat) (dl : Nat) (ri : Nat) (pg : Int32) (dr : Nat) (dt : Nat) (c_dl : ClassId)  : Met l yX4_c wsX4_c ({ frames := 1, cells := 0, slots := 0, locals := 24 }) (va_Pc [.ref rr, .int (0 : Int32)] (fun U => va_P (dC, dI) vwCl [(rr, .inr (6, [.ref ds, .ref ri, .int 0, .int 1, .int (1 : Int32), .int 0])), (ds, .inr (3, [.int pg, .ref dl, .ref dr, .ref dt, .int (1 : Int32), .int (-1 : Int32), .int (bk_n 32)])), (dl, .inl (c_dl, 8224, .inl (bk_wl 32)))] U.heap ∧ va_K (dC, dI) vwCl [(c_dl, .byte)] U ∧ gx_W U)) (vp_Sl (fun r => r = (0 : Int64))) 0 0 (fun _ => False) := by
  refine Met.ofW (cc := cX4_c) (maxL := 2) (ret := (some .long)) (by decide) rfl ?_
  intro p e s m args below meth c s₁ B hml hv
  obtain ⟨rfl, hP, hK, hG⟩ := hv
  have hx := B.exec
  have hb := B.bytes
  have hr := B.returns
  have hts := atoms_spec (ws := wsX4_c) B.pre
  have hown : s.vm.findClass RX4 = some m.cls := findClass_of_methodNamed B.named
  have hlocks := B.notSynchronized
  have hl := lv_entry ([.ref rr, .int (0 : Int32)]) (n := 2) (Nat.le_of_ble_eq_true rfl)
  rw [lg_entry_eq]
  generalize (lg_sl ([.ref rr, .int (0 : Int32)]) ++ List.replicate (2 - (lg_sl ([.ref rr, .int (0 : Int32)])).length) Slot.unset).toArray = ls at hl ⊢
  have hl : lv_has ls 2 [(0, .ref rr), (1, .int (0 : Int32))] := hl
  refine lv_aload_n hx hb dX4_c_0 rfl (lv_at hl 0 rfl) ?_
  refine va_get (D := (dC, dI)) (ci := 6) (v := .ref ds) (C := RX4) (T := TX4) (N := 6) hx hb hts (by decide +kernel) hown hK hP 0 rfl rfl 0 (by decide) (hts (.fieldLink RX4 9 "BlockLog$Rows" "disk" "LBlockLog$Disk;") (by decide +kernel)) (fun _ h9 => h9) rfl dX4_c_1 ?_
  refine va_getN (D := (dC, dI)) (ci := 3) (v := .ref dl) (C := RX1) (T := TX1) (N := 7) hx hb hts (by decide +kernel) hown hK hP 1 rfl rfl 1 (by decide) (va_Nw.use rfl (hG.1 ("BlockLog$Rows", 36, "BlockLog$Disk", "low", "[B", "BlockLog") (by decide +kernel))) (fun _ h9 => h9) rfl dX4_c_4 ?_
  refine lv_aload_n hx hb dX4_c_7 rfl (lv_at hl 0 rfl) ?_
  refine lv_iload_n hx hb dX4_c_8 rfl (lv_at hl 1 rfl) ?_
  have hPc := hP.sub (ws' := [(rr, .inr (6, [.ref ds, .ref ri, .int 0, .int 1, .int (1 : Int32), .int 0]))]) [0] rfl
  have hKc := hK.sub (tys' := []) [] rfl
  refine vp_callSi (va_Run.run (va_runV (As := [.int (0 : Int32)]) (rest := [.ref dl]) ⟨hx, hb, hml, hown, hts⟩ (k_X4_place_1 l dC dI rr ds ri) (cwV 1 hts gX4_c_X4_place rfl rfl rfl (by decide +kernel) ⟨Nat.le_of_ble_eq_true rfl, Nat.le_of_ble_eq_true rfl⟩) ⟨fun a U g mk q => by obtain ⟨q0, qP, qK⟩ := q; exact ⟨q0, qP, va_K.moved (u := U) (U := U.calling g mk a) (Vm.Alike.refl U.vm) qK⟩, va_recv hK hP (ci := 6) (q := (RX4, TX4, 6)) rfl (q0 := 0) rfl, fun U hU hW => ⟨rfl, by rw [hU]; exact hPc, va_K.moved hW.alike hKc⟩⟩ rfl rfl hl.1 rfl (lv_room (Nat.le_of_ble_eq_true rfl)) dX4_c_9 ⟨Nat.le_of_ble_eq_true rfl, Nat.le_of_ble_eq_true rfl⟩)) (fun r_1 er_1 => ?_)
  replace er_1 := er_1.trans (show _ = (32 : Int32) by decide +kernel)
  subst er_1
  refine lv_bipush (v := 9) hx hb dX4_c_12 (by decide) ?_
  refine lv_iadd hx hb dX4_c_14 ?_
  have e9 : (32 : Int32) + (9 : Int32) = (41 : Int32) := by decide +kernel
  rw [e9]
  clear e9
  have hPc := hP.sub (ws' := [(dl, .inl (c_dl, 8224, .inl (bk_wl 32)))]) [2] rfl
  have hKc := hK.sub (tys' := [(c_dl, .byte)]) [0] rfl
  refine vp_callSl (va_Run.run (va_runS (As := [.ref dl, .int (41 : Int32)]) (rest := []) ⟨hx, hb, hml, hown, hts⟩ (k_X0_longAt_1 l dC dI dl c_dl) (va_cwS 2 hts gX4_c_X0_longAt rfl rfl rfl (by decide +kernel) ⟨Nat.le_of_ble_eq_true rfl, Nat.le_of_ble_eq_true rfl⟩) ⟨fun a U g mk q => by obtain ⟨q0, qP, qK⟩ := q; exact ⟨q0, qP, va_K.moved (u := U) (U := U.calling g mk a) (Vm.Alike.refl U.vm) qK⟩, fun U hU hW => ⟨rfl, by rw [hU]; exact hPc, va_K.moved hW.alike hKc⟩⟩ rfl rfl hl.1 rfl (lv_room (Nat.le_of_ble_eq_true rfl)) dX4_c_15 ⟨Nat.le_of_ble_eq_true rfl, Nat.le_of_ble_eq_true rfl⟩)) (fun r_2 er_2 => ?_)
  replace er_2 := er_2.trans (show _ = (0 : Int64) by decide +kernel)
  subst er_2
  exact W.lret hx hb hr (fun t ht hW => ⟨_, rfl, rfl, ht⟩) (fun q h => by cases h) dX4_c_18

set_option maxHeartbeats 4000000 in
set_option maxRecDepth 100000 in
theorem k_X6_sumOfBlock_1 (l : Launch) (dC : Nat → ClassId) (dI : Nat → Nat → Nat) (so : Nat) (rr : Nat) (ds : Nat) (dl : Nat) (s1 : Nat) (s2 : Nat) (s3 : Nat) (s4 : Nat) (s5 : Nat) (s6 : Nat) (ri : Nat) (pg : Int32) (dr : Nat) (dt : Nat) (c_dl : ClassId)  : Met l yX6_sumOfBlock wsX6_sumOfBlock ({ frames := 2, cells := 0, slots := 0, locals := 50 }) (va_Pc [.ref so, .int (0 : Int32)] (fun U => va_P (dC, dI) vwCl [(so, .inr (8, [.ref rr, .ref s1, .ref s2, .ref s3, .ref s4, .ref s5, .ref s6, .int (1 : Int32), .int (0 : Int32), .int (-1 : Int32), .int (0 : Int32), .int (0 : Int32)])), (rr, .inr (6, [.ref ds, .ref ri, .int 0, .int 1, .int (1 : Int32), .int 0])), (ds, .inr (3, [.int pg, .ref dl, .ref dr, .ref dt, .int (1 : Int32), .int (-1 : Int32), .int (bk_n 32)])), (dl, .inl (c_dl, 8224, .inl (bk_wl 32)))] U.heap ∧ va_K (dC, dI) vwCl [(c_dl, .byte)] U ∧ gx_W U)) (vp_Sl (fun r => r = pu_add (pu_add (pu_add (pu_add (pu_add (pu_add (pu_add (pu_add (1770212831045931200 : Int64) ((((0 : Int64).toUInt64 >>> ((56 : Int32).toInt64.toUInt64 &&& Int64.toUInt64 63)).toInt64).toInt32)) ((((0 : Int64).toUInt64 >>> ((48 : Int32).toInt64.toUInt64 &&& Int64.toUInt64 63)).toInt64).toInt32)) ((((0 : Int64).toUInt64 >>> ((40 : Int32).toInt64.toUInt64 &&& Int64.toUInt64 63)).toInt64).toInt32)) ((((0 : Int64).toUInt64 >>> ((32 : Int32).toInt64.toUInt64 &&& Int64.toUInt64 63)).toInt64).toInt32)) ((((0 : Int64).toUInt64 >>> ((24 : Int32).toInt64.toUInt64 &&& Int64.toUInt64 63)).toInt64).toInt32)) ((((0 : Int64).toUInt64 >>> ((16 : Int32).toInt64.toUInt64 &&& Int64.toUInt64 63)).toInt64).toInt32)) ((((0 : Int64).toUInt64 >>> ((8 : Int32).toInt64.toUInt64 &&& Int64.toUInt64 63)).toInt64).toInt32)) ((((0 : Int64).toUInt64 >>> ((0 : Int32).toInt64.toUInt64 &&& Int64.toUInt64 63)).toInt64).toInt32))) 0 0 (fun _ => False) := by
  refine Met.ofW (cc := cX6_sumOfBlock) (maxL := 6) (ret := (some .long)) (by decide) rfl ?_
  intro p e s m args below meth c s₁ B hml hv
  obtain ⟨rfl, hP, hK, hG⟩ := hv
  have hx := B.exec
  have hb := B.bytes
  have hr := B.returns
  have hts := atoms_spec (ws := wsX6_sumOfBlock) B.pre
  have hown : s.vm.findClass RX6 = some m.cls := findClass_of_methodNamed B.named
  have hlocks := B.notSynchronized
  have hl := lv_entry ([.ref so, .int (0 : Int32)]) (n := 6) (Nat.le_of_ble_eq_true rfl)
  rw [lg_entry_eq]
  generalize (lg_sl ([.ref so, .int (0 : Int32)]) ++ List.replicate (6 - (lg_sl ([.ref so, .int (0 : Int32)])).length) Slot.unset).toArray = ls at hl ⊢
  have hl : lv_has ls 6 [(0, .ref so), (1, .int (0 : Int32))] := hl
  refine lv_iconst (v := 4) hx hb dX6_sumOfBlock_0 (by decide) ?_
  refine vp_callSl (va_Run.run (va_runS (As := [.int (4 : Int32)]) (rest := []) ⟨hx, hb, hml, hown, hts⟩ (k_X0_start l (4 : Int32)) (va_cwS 1 hts gX6_sumOfBlock_X0_start rfl rfl rfl (by decide +kernel) ⟨Nat.le_of_ble_eq_true rfl, Nat.le_of_ble_eq_true rfl⟩) ⟨fun a U g mk q => q, fun U hU hW => ⟨rfl, trivial⟩⟩ rfl rfl hl.1 rfl (lv_room (Nat.le_of_ble_eq_true rfl)) dX6_sumOfBlock_1 ⟨Nat.le_of_ble_eq_true rfl, Nat.le_of_ble_eq_true rfl⟩)) (fun r_1 er_1 => ?_)
  replace er_1 := er_1.trans (show _ = (4000012 : Int64) by decide +kernel)
  subst er_1
  refine lv_aload_n hx hb dX6_sumOfBlock_4 rfl (lv_at hl 0 rfl) ?_
  refine va_get (D := (dC, dI)) (ci := 8) (v := .ref rr) (C := RX6) (T := TX6) (N := 12) hx hb hts (by decide +kernel) hown hK hP 0 rfl rfl 0 (by decide) (hts (.fieldLink RX6 9 "BlockLog$Story" "rows" "LBlockLog$Rows;") (by decide +kernel)) (fun _ h9 => h9) rfl dX6_sumOfBlock_5 ?_
  refine lv_iload_n hx hb dX6_sumOfBlock_8 rfl (lv_at hl 1 rfl) ?_
  have hPc := hP.sub (ws' := [(rr, .inr (6, [.ref ds, .ref ri, .int 0, .int 1, .int (1 : Int32), .int 0])), (ds, .inr (3, [.int pg, .ref dl, .ref dr, .ref dt, .int (1 : Int32), .int (-1 : Int32), .int (bk_n 32)])), (dl, .inl (c_dl, 8224, .inl (bk_wl 32)))]) [1, 2, 3] rfl
  have hKc := hK.sub (tys' := [(c_dl, .byte)]) [0] rfl
  refine vp_callSi (va_Run.run (va_runV (As := [.int (0 : Int32)]) (rest := [.long (4000012 : Int64)]) ⟨hx, hb, hml, hown, hts⟩ (k_X4_a_1 l dC dI rr ds dl ri pg dr dt c_dl) (cwV 1 hts gX6_sumOfBlock_X4_a rfl rfl rfl (by decide +kernel) ⟨Nat.le_of_ble_eq_true rfl, Nat.le_of_ble_eq_true rfl⟩) ⟨fun a U g mk q => by obtain ⟨q0, qP, qK, qG⟩ := q; exact ⟨q0, qP, va_K.moved (u := U) (U := U.calling g mk a) (Vm.Alike.refl U.vm) qK, qG.same rfl⟩, va_recv hK hP (ci := 6) (q := (RX4, TX4, 6)) rfl (q0 := 1) rfl, fun U hU hW => ⟨rfl, by rw [hU]; exact hPc, va_K.moved hW.alike hKc, hG.warm hW⟩⟩ rfl rfl hl.1 rfl (lv_room (Nat.le_of_ble_eq_true rfl)) dX6_sumOfBlock_9 ⟨Nat.le_of_ble_eq_true rfl, Nat.le_of_ble_eq_true rfl⟩)) (fun r_2 er_2 => ?_)
  subst er_2
  have hPc := hP.sub (ws' := []) [] rfl
  have hKc := hK.sub (tys' := []) [] rfl
  refine vp_callSl (va_Run.run (va_runS (As := [.long (4000012 : Int64), .int (1 : Int32)]) (rest := []) ⟨hx, hb, hml, hown, hts⟩ (k_X0_addInt_1 l dC dI) (va_cwS 2 hts gX6_sumOfBlock_X0_addInt rfl rfl rfl (by decide +kernel) ⟨Nat.le_of_ble_eq_true rfl, Nat.le_of_ble_eq_true rfl⟩) ⟨fun a U g mk q => by obtain ⟨q0, qP, qK⟩ := q; exact ⟨q0, qP, va_K.moved (u := U) (U := U.calling g mk a) (Vm.Alike.refl U.vm) qK⟩, fun U hU hW => ⟨rfl, by rw [hU]; exact hPc, va_K.moved hW.alike hKc⟩⟩ rfl rfl hl.1 rfl (lv_room (Nat.le_of_ble_eq_true rfl)) dX6_sumOfBlock_12 ⟨Nat.le_of_ble_eq_true rfl, Nat.le_of_ble_eq_true rfl⟩)) (fun r_3 er_3 => ?_)
  subst er_3
  refine lv_aload_n hx hb dX6_sumOfBlock_15 rfl (lv_at hl 0 rfl) ?_
  refine va_get (D := (dC, dI)) (ci := 8) (v := .ref rr) (C := RX6) (T := TX6) (N := 12) hx hb hts (by decide +kernel) hown hK hP 0 rfl rfl 0 (by decide) (hts (.fieldLink RX6 9 "BlockLog$Story" "rows" "LBlockLog$Rows;") (by decide +kernel)) (fun _ h9 => h9) rfl dX6_sumOfBlock_16 ?_
  refine lv_iload_n hx hb dX6_sumOfBlock_19 rfl (lv_at hl 1 rfl) ?_
  have hPc := hP.sub (ws' := [(rr, .inr (6, [.ref ds, .ref ri, .int 0, .int 1, .int (1 : Int32), .int 0])), (ds, .inr (3, [.int pg, .ref dl, .ref dr, .ref dt, .int (1 : Int32), .int (-1 : Int32), .int (bk_n 32)])), (dl, .inl (c_dl, 8224, .inl (bk_wl 32)))]) [1, 2, 3] rfl
  have hKc := hK.sub (tys' := [(c_dl, .byte)]) [0] rfl
  refine vp_callSl (va_Run.run (va_runV (As := [.int (0 : Int32)]) (rest := [.long (1770212831045931200 : Int64)]) ⟨hx, hb, hml, hown, hts⟩ (k_X4_c_1 l dC dI rr ds dl ri pg dr dt c_dl) (cwV 1 hts gX6_sumOfBlock_X4_c rfl rfl rfl (by decide +kernel) ⟨Nat.le_of_ble_eq_true rfl, Nat.le_of_ble_eq_true rfl⟩) ⟨fun a U g mk q => by obtain ⟨q0, qP, qK, qG⟩ := q; exact ⟨q0, qP, va_K.moved (u := U) (U := U.calling g mk a) (Vm.Alike.refl U.vm) qK, qG.same rfl⟩, va_recv hK hP (ci := 6) (q := (RX4, TX4, 6)) rfl (q0 := 1) rfl, fun U hU hW => ⟨rfl, by rw [hU]; exact hPc, va_K.moved hW.alike hKc, hG.warm hW⟩⟩ rfl rfl hl.1 rfl (lv_room (Nat.le_of_ble_eq_true rfl)) dX6_sumOfBlock_20 ⟨Nat.le_of_ble_eq_true rfl, Nat.le_of_ble_eq_true rfl⟩)) (fun r_4 er_4 => ?_)
  subst er_4
  have hPc := hP.sub (ws' := []) [] rfl
  have hKc := hK.sub (tys' := []) [] rfl
  refine vp_callSl (va_Run.run (va_runS (As := [.long (1770212831045931200 : Int64), .long (0 : Int64)]) (rest := []) ⟨hx, hb, hml, hown, hts⟩ (k_X0_addLong_1 l dC dI) (va_cwS 2 hts gX6_sumOfBlock_X0_addLong rfl rfl rfl (by decide +kernel) ⟨Nat.le_of_ble_eq_true rfl, Nat.le_of_ble_eq_true rfl⟩) ⟨fun a U g mk q => by obtain ⟨q0, qP, qK⟩ := q; exact ⟨q0, qP, va_K.moved (u := U) (U := U.calling g mk a) (Vm.Alike.refl U.vm) qK⟩, fun U hU hW => ⟨rfl, by rw [hU]; exact hPc, va_K.moved hW.alike hKc⟩⟩ rfl rfl hl.1 rfl (lv_room (Nat.le_of_ble_eq_true rfl)) dX6_sumOfBlock_23 ⟨Nat.le_of_ble_eq_true rfl, Nat.le_of_ble_eq_true rfl⟩)) (fun r_5 er_5 => ?_)
  subst er_5
  refine lv_lstore_n (lv' := [(2, .long (pu_add (pu_add (pu_add (pu_add (pu_add (pu_add (pu_add (pu_add (1770212831045931200 : Int64) ((((0 : Int64).toUInt64 >>> ((56 : Int32).toInt64.toUInt64 &&& Int64.toUInt64 63)).toInt64).toInt32)) ((((0 : Int64).toUInt64 >>> ((48 : Int32).toInt64.toUInt64 &&& Int64.toUInt64 63)).toInt64).toInt32)) ((((0 : Int64).toUInt64 >>> ((40 : Int32).toInt64.toUInt64 &&& Int64.toUInt64 63)).toInt64).toInt32)) ((((0 : Int64).toUInt64 >>> ((32 : Int32).toInt64.toUInt64 &&& Int64.toUInt64 63)).toInt64).toInt32)) ((((0 : Int64).toUInt64 >>> ((24 : Int32).toInt64.toUInt64 &&& Int64.toUInt64 63)).toInt64).toInt32)) ((((0 : Int64).toUInt64 >>> ((16 : Int32).toInt64.toUInt64 &&& Int64.toUInt64 63)).toInt64).toInt32)) ((((0 : Int64).toUInt64 >>> ((8 : Int32).toInt64.toUInt64 &&& Int64.toUInt64 63)).toInt64).toInt32)) ((((0 : Int64).toUInt64 >>> ((0 : Int32).toInt64.toUInt64 &&& Int64.toUInt64 63)).toInt64).toInt32))), (0, .ref so), (1, .int (0 : Int32))]) hx hb dX6_sumOfBlock_26 rfl hl (by decide) rfl (fun ls hl => ?_)
  refine lv_iload_n hx hb dX6_sumOfBlock_27 rfl (lv_at hl 2 rfl) ?_
  refine lv_aload_n hx hb dX6_sumOfBlock_28 rfl (lv_at hl 1 rfl) ?_
  refine va_get (D := (dC, dI)) (ci := 8) (v := .ref rr) (C := RX6) (T := TX6) (N := 12) hx hb hts (by decide +kernel) hown hK hP 0 rfl rfl 0 (by decide) (hts (.fieldLink RX6 9 "BlockLog$Story" "rows" "LBlockLog$Rows;") (by decide +kernel)) (fun _ h9 => h9) rfl dX6_sumOfBlock_29 ?_
  refine lv_iload_n hx hb dX6_sumOfBlock_32 rfl (lv_at hl 2 rfl) ?_
  have hPc := hP.sub (ws' := [(rr, .inr (6, [.ref ds, .ref ri, .int 0, .int 1, .int (1 : Int32), .int 0])), (ds, .inr (3, [.int pg, .ref dl, .ref dr, .ref dt, .int (1 : Int32), .int (-1 : Int32), .int (bk_n 32)])), (dl, .inl (c_dl, 8224, .inl (bk_wl 32)))]) [1, 2, 3] rfl
  have hKc := hK.sub (tys' := [(c_dl, .byte)]) [0] rfl
  refine vp_callSi (va_Run.run (va_runV (As := [.int (0 : Int32)]) (rest := [.int (0 : Int32)]) ⟨hx, hb, hml, hown, hts⟩ (k_X4_b_1 l dC dI rr ds dl ri pg dr dt c_dl) (cwV 1 hts gX6_sumOfBlock_X4_b rfl rfl rfl (by decide +kernel) ⟨Nat.le_of_ble_eq_true rfl, Nat.le_of_ble_eq_true rfl⟩) ⟨fun a U g mk q => by obtain ⟨q0, qP, qK, qG⟩ := q; exact ⟨q0, qP, va_K.moved (u := U) (U := U.calling g mk a) (Vm.Alike.refl U.vm) qK, qG.same rfl⟩, va_recv hK hP (ci := 6) (q := (RX4, TX4, 6)) rfl (q0 := 1) rfl, fun U hU hW => ⟨rfl, by rw [hU]; exact hPc, va_K.moved hW.alike hKc, hG.warm hW⟩⟩ rfl rfl hl.1 rfl (lv_room (Nat.le_of_ble_eq_true rfl)) dX6_sumOfBlock_33 ⟨Nat.le_of_ble_eq_true rfl, Nat.le_of_ble_eq_true rfl⟩)) (fun r_6 er_6 => ?_)
  subst er_6
  refine lv_iadd hx hb dX6_sumOfBlock_36 ?_
  refine lv_istore (lv' := [(4, .int ((0 : Int32) + (0 : Int32))), (2, .long (pu_add (pu_add (pu_add (pu_add (pu_add (pu_add (pu_add (pu_add (1770212831045931200 : Int64) ((((0 : Int64).toUInt64 >>> ((56 : Int32).toInt64.toUInt64 &&& Int64.toUInt64 63)).toInt64).toInt32)) ((((0 : Int64).toUInt64 >>> ((48 : Int32).toInt64.toUInt64 &&& Int64.toUInt64 63)).toInt64).toInt32)) ((((0 : Int64).toUInt64 >>> ((40 : Int32).toInt64.toUInt64 &&& Int64.toUInt64 63)).toInt64).toInt32)) ((((0 : Int64).toUInt64 >>> ((32 : Int32).toInt64.toUInt64 &&& Int64.toUInt64 63)).toInt64).toInt32)) ((((0 : Int64).toUInt64 >>> ((24 : Int32).toInt64.toUInt64 &&& Int64.toUInt64 63)).toInt64).toInt32)) ((((0 : Int64).toUInt64 >>> ((16 : Int32).toInt64.toUInt64 &&& Int64.toUInt64 63)).toInt64).toInt32)) ((((0 : Int64).toUInt64 >>> ((8 : Int32).toInt64.toUInt64 &&& Int64.toUInt64 63)).toInt64).toInt32)) ((((0 : Int64).toUInt64 >>> ((0 : Int32).toInt64.toUInt64 &&& Int64.toUInt64 63)).toInt64).toInt32))), (0, .ref so), (1, .int (0 : Int32))]) hx hb dX6_sumOfBlock_37 hl (by decide) rfl (fun ls hl => ?_)
  refine lv_iload_n hx hb dX6_sumOfBlock_39 rfl (lv_at hl 3 rfl) ?_
  refine lv_iconst (v := 1) hx hb dX6_sumOfBlock_40 (by decide) ?_
  refine lv_iadd hx hb dX6_sumOfBlock_41 ?_
  refine lv_istore (lv' := [(5, .int ((0 : Int32) + (1 : Int32))), (4, .int ((0 : Int32) + (0 : Int32))), (2, .long (pu_add (pu_add (pu_add (pu_add (pu_add (pu_add (pu_add (pu_add (1770212831045931200 : Int64) ((((0 : Int64).toUInt64 >>> ((56 : Int32).toInt64.toUInt64 &&& Int64.toUInt64 63)).toInt64).toInt32)) ((((0 : Int64).toUInt64 >>> ((48 : Int32).toInt64.toUInt64 &&& Int64.toUInt64 63)).toInt64).toInt32)) ((((0 : Int64).toUInt64 >>> ((40 : Int32).toInt64.toUInt64 &&& Int64.toUInt64 63)).toInt64).toInt32)) ((((0 : Int64).toUInt64 >>> ((32 : Int32).toInt64.toUInt64 &&& Int64.toUInt64 63)).toInt64).toInt32)) ((((0 : Int64).toUInt64 >>> ((24 : Int32).toInt64.toUInt64 &&& Int64.toUInt64 63)).toInt64).toInt32)) ((((0 : Int64).toUInt64 >>> ((16 : Int32).toInt64.toUInt64 &&& Int64.toUInt64 63)).toInt64).toInt32)) ((((0 : Int64).toUInt64 >>> ((8 : Int32).toInt64.toUInt64 &&& Int64.toUInt64 63)).toInt64).toInt32)) ((((0 : Int64).toUInt64 >>> ((0 : Int32).toInt64.toUInt64 &&& Int64.toUInt64 63)).toInt64).toInt32))), (0, .ref so), (1, .int (0 : Int32))]) hx hb dX6_sumOfBlock_42 hl (by decide) rfl (fun ls hl => ?_)
  refine lv_iload hx hb dX6_sumOfBlock_44 (lv_at hl 0 rfl) ?_
  refine lv_iload hx hb dX6_sumOfBlock_46 (lv_at hl 1 rfl) ?_
  refine lv_icmp_gt (tgt := 83) hx hb dX6_sumOfBlock_48 (by decide) (fun c_7 => ?_) (fun c_7 => ?_)
  · skip
    refine lv_lload_n hx hb dX6_sumOfBlock_83 rfl (lv_at hl 2 rfl) ?_
    exact W.lret hx hb hr (fun t ht hW => ⟨_, rfl, rfl, ht⟩) (fun q h => by cases h) dX6_sumOfBlock_84
  · skip
    exact absurd (by decide) c_7
