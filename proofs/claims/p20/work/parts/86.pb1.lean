set_option maxHeartbeats 4000000 in
set_option maxRecDepth 100000 in
theorem v_X8_eraseUnnamed (l : Launch) (dC : Nat → ClassId) (dI : Nat → Nat → Nat) (c : Nat → Nat) (kc : Nat → ClassId) (st : Nat → Int32) (lg : Nat → Int64) (ai : Nat → Nat → Int32) (al : Nat → Nat → Int64) (R : va_W) (cap : Nat) (num : Nat → Int32)  (sz : Nat) (hPI : PI (kc 98) (kc 0) (c 99) (st 13) cap num none R) (hf9a : 0 ≤ (st 9).toInt) (hf9b : (st 9).toInt ≤ 1) (hf13a : 0 ≤ (st 13).toInt) (hf13b : (st 13).toInt ≤ 65536) (hf15a : 0 ≤ (st 15).toInt) (hf15b : (st 15).toInt ≤ 1) (hf25a : 0 ≤ (st 25).toInt) (hf25b : (st 25).toInt ≤ 128) (hf26a : 0 ≤ (st 26).toInt) (hf26b : (st 26).toInt ≤ 128) (hf28a : 0 ≤ (st 28).toInt) (hf28b : (st 28).toInt ≤ 1) (hR23 : aR (ai 23) 128 (0) 127) : Met l yX8_eraseUnnamed wsX8_eraseUnnamed ({ frames := 5, cells := 0, slots := 0, locals := 114 }) (va_Pc [.ref (c 100)] (fun U => U.heap.size = sz ∧ va_P (dC, dI) vwCl (cw_W c kc st lg ai al R) U.heap ∧ va_K (dC, dI) vwCl (cw_T kc) U ∧ va_D (fun _ => True) (cw_W c kc st lg ai al R) ∧ gx_E (va_A (cw_W c kc st lg ai al R) sz) U)) (va_Qi (fun r (u : Int32) => r = u) (fun u t => ∃ (x9 : Int32) (x10 : Int32) (x11 : Int32) (g24 : Nat → Int64) (R9 : va_W), (0 ≤ x9.toInt) ∧ (x9.toInt ≤ 1) ∧ (PI (kc 98) (kc 0) (c 99) (st 13) cap num none R9) ∧ (∀ y m, pgM (kc 0) R y m → pgM (kc 0) R9 y m) ∧ (va_D (va_A (cw_W c kc st lg ai al R) sz) (cw_W c kc (rU (rU (rU st 9 x9) 10 x10) 11 x11) lg ai (rU al 24 g24) R9)) ∧ va_P (dC, dI) vwCl (cw_W c kc (rU (rU (rU st 9 x9) 10 x10) 11 x11) lg ai (rU al 24 g24) R9) t.heap) (va_A (cw_W c kc st lg ai al R) sz)) 0 0 (va_A (cw_W c kc st lg ai al R) sz) := by
  refine Met.ofW (cc := cX8_eraseUnnamed) (maxL := 4) (ret := (some .int)) (by decide) rfl ?_
  intro p e s m args below meth cM s₁ B hml hv
  obtain ⟨rfl, hsz, hP, hK, hD0, hG⟩ := hv
  have hx := B.exec
  have hb := B.bytes
  have hr := B.returns
  have hts := atoms_spec (ws := wsX8_eraseUnnamed) B.pre
  have hown : s.vm.findClass RX8 = some m.cls := findClass_of_methodNamed B.named
  have hGW := hG.1
  subst hsz
  have hD := hD0.self (sz := s.heap.size)
  generalize hAe : va_A (cw_W c kc st lg ai al R) s.heap.size = A at hD hG ⊢
  have hA : ∀ q : Nat, s.heap.size ≤ q → A q := fun q h => by rw [← hAe]; exact Or.inr h
  have hS : va_S A s.heap s.heap [] := va_S.rf
  clear hAe hD0
  have hl := lv_entry ([.ref (c 100)]) (n := 4) (Nat.le_of_ble_eq_true rfl)
  rw [lg_entry_eq]
  generalize (lg_sl ([.ref (c 100)]) ++ List.replicate (4 - (lg_sl ([.ref (c 100)])).length) Slot.unset).toArray = ls at hl ⊢
  have hl : lv_has ls 4 [(0, .ref (c 100))] := hl
  have z_m4 : (-4 : Int32).toInt = -4 := by decide
  have z_0 : (0 : Int32).toInt = 0 := by decide
  have z_1 : (1 : Int32).toInt = 1 := by decide
  have z_2 : (2 : Int32).toInt = 2 := by decide
  have hin_X1 : ∀ w ∈ u_ws RX1 TX1 7, w ∈ wsX8_eraseUnnamed := by decide +kernel
  have hin_X8 : ∀ w ∈ u_ws RX8 TX8 10, w ∈ wsX8_eraseUnnamed := by decide +kernel
  have hmono : ∀ y m, pgM (kc 0) R y m → pgM (kc 0) R y m := fun y m h => h
  have main : ∀ (H : Heap) (locs : List Loc), va_P (dC, dI) vwCl (cw_W c kc st lg ai al R) H → va_S A s.heap H locs → W p l e (headSpec wsX8_eraseUnnamed ({ frames := 5, cells := 0, slots := 0, locals := 114 })).room s m ([.ref (c 100)] : List Value).toArray below meth cM H locs 0 0 (MQ below (va_Qi (fun r (u : Int32) => r = u) (fun u t => ∃ (x9 : Int32) (x10 : Int32) (x11 : Int32) (g24 : Nat → Int64) (R9 : va_W), (0 ≤ x9.toInt) ∧ (x9.toInt ≤ 1) ∧ (PI (kc 98) (kc 0) (c 99) (st 13) cap num none R9) ∧ (∀ y m, pgM (kc 0) R y m → pgM (kc 0) R9 y m) ∧ (va_D A (cw_W c kc (rU (rU (rU st 9 x9) 10 x10) 11 x11) lg ai (rU al 24 g24) R9)) ∧ va_P (dC, dI) vwCl (cw_W c kc (rU (rU (rU st 9 x9) 10 x10) 11 x11) lg ai (rU al 24 g24) R9) t.heap) A) ([.ref (c 100)] : List Value).toArray s 0 0 A) (F0 m 0 ls []) := by
    intro H locs hP hS
    refine lv_iconst (v := 0) hx hb dX8_eraseUnnamed_0 (by decide) ?_
    refine lv_istore_n (lv' := [(1, .int (0 : Int32)), (0, .ref (c 100))]) hx hb dX8_eraseUnnamed_1 rfl hl (by decide) rfl (fun ls hl => ?_)
    refine lv_iconst (v := 0) hx hb dX8_eraseUnnamed_2 (by decide) ?_
    refine lv_istore_n (lv' := [(2, .int (0 : Int32)), (1, .int (0 : Int32)), (0, .ref (c 100))]) hx hb dX8_eraseUnnamed_3 rfl hl (by decide) rfl (fun ls hl => ?_)
    have loop4 : ∀ (n : Nat) (l2_4 : Int32) (l1_4 : Int32) (s9_4 : Int32) (s10_4 : Int32) (s11_4 : Int32) (b24_4 : Nat → Int64) (R9_4 : va_W) (H : Heap) (locs : List Loc) (ls : Array Slot), (0 ≤ l2_4.toInt) → (l2_4.toInt ≤ (st 13).toInt) → (0 ≤ l1_4.toInt) → (l1_4.toInt ≤ l2_4.toInt) → (0 ≤ s9_4.toInt) → (s9_4.toInt ≤ 1) → (PI (kc 98) (kc 0) (c 99) (st 13) cap num none R9_4) → (va_D A (cw_W c kc st lg ai al R9_4)) → (∀ y m, pgM (kc 0) R y m → pgM (kc 0) R9_4 y m) → ((st 13).toInt - l2_4.toInt : Int).toNat < n → va_P (dC, dI) vwCl (cw_W c kc (rU (rU (rU st 9 s9_4) 10 s10_4) 11 s11_4) lg ai (rU al 24 b24_4) R9_4) H → va_S A s.heap H locs → lv_has ls 4 [(2, .int l2_4), (1, .int l1_4), (0, .ref (c 100))] → W p l e (headSpec wsX8_eraseUnnamed ({ frames := 5, cells := 0, slots := 0, locals := 114 })).room s m ([.ref (c 100)] : List Value).toArray below meth cM H locs 0 0 (MQ below (va_Qi (fun r (u : Int32) => r = u) (fun u t => ∃ (x9 : Int32) (x10 : Int32) (x11 : Int32) (g24 : Nat → Int64) (R9 : va_W), (0 ≤ x9.toInt) ∧ (x9.toInt ≤ 1) ∧ (PI (kc 98) (kc 0) (c 99) (st 13) cap num none R9) ∧ (∀ y m, pgM (kc 0) R y m → pgM (kc 0) R9 y m) ∧ (va_D A (cw_W c kc (rU (rU (rU st 9 x9) 10 x10) 11 x11) lg ai (rU al 24 g24) R9)) ∧ va_P (dC, dI) vwCl (cw_W c kc (rU (rU (rU st 9 x9) 10 x10) 11 x11) lg ai (rU al 24 g24) R9) t.heap) A) ([.ref (c 100)] : List Value).toArray s 0 0 A) (F0 m 4 ls []) := by
      intro n
      induction n with
      | zero => intro l2_4 l1_4 s9_4 s10_4 s11_4 b24_4 R9_4 H locs ls if0_4 if1_4 if2_4 if3_4 if4_4 if5_4 hPI hD hmono hm; exact absurd hm (Nat.not_lt_zero _)
      | succ n ih4 =>
        intro l2_4 l1_4 s9_4 s10_4 s11_4 b24_4 R9_4 H locs ls if0_4 if1_4 if2_4 if3_4 if4_4 if5_4 hPI hD hmono hm4 hP hS hl
        refine lv_iload_n hx hb dX8_eraseUnnamed_4 rfl (lv_at hl 0 rfl) ?_
        refine lv_aload_n hx hb dX8_eraseUnnamed_5 rfl (lv_at hl 2 rfl) ?_
        refine va_get (D := (dC, dI)) (ci := 10) (v := .ref (c 102)) (C := RX8) (T := TX8) (N := 10) hx hb hts hin_X8 hown hK hP 0 rfl rfl 1 (by decide) (hts (.fieldLink RX8 22 "BlockLog" "disk" "LBlockLog$Disk;") (by decide +kernel)) (fun _ h9 => h9) rfl dX8_eraseUnnamed_6 ?_
        refine va_getN (D := (dC, dI)) (ci := 3) (v := .ref (c 103)) (C := RX1) (T := TX1) (N := 7) hx hb hts hin_X1 hown hK hP 2 rfl rfl 3 (by decide) (va_Nw.use rfl (hGW.1 ("BlockLog", 407, "BlockLog$Disk", "touched", "Ljava/util/ArrayList;", "BlockLog") (by decide +kernel))) (fun _ h9 => h9) rfl dX8_eraseUnnamed_9 ?_
        refine vp_callSi (va_Run.run (va_runV (As := []) (rest := [.int l2_4]) ⟨hx, hb, hml, hown, hts⟩ (v_Jx4a65c_size_8abf5 l dC dI c kc (rU (rU (rU st 9 s9_4) 10 s10_4) 11 s11_4) lg ai (rU al 24 b24_4) R9_4  (show 0 ≤ (st 13).toInt by omega) (show (st 13).toInt ≤ 65536 by omega)) (cwV 0 hts gX8_eraseUnnamed_Jx4a65c_size_8abf5 rfl rfl rfl (by decide +kernel) ⟨Nat.le_of_ble_eq_true rfl, Nat.le_of_ble_eq_true rfl⟩) ⟨fun a U g mk q => by obtain ⟨q0, qP, qK⟩ := q; exact ⟨q0, qP, va_K.moved (u := U) (U := U.calling g mk a) (Vm.Alike.refl U.vm) qK⟩, va_recv hK hP (ci := 2) (q := (RJx4a65c, TJx4a65c, 3)) rfl (q0 := 3) rfl, fun U hU hW => ⟨rfl, by rw [hU]; exact hP, va_K.moved hW.alike hK⟩⟩ rfl rfl hl.1 rfl (lv_room (Nat.le_of_ble_eq_true rfl)) dX8_eraseUnnamed_12 ⟨Nat.le_of_ble_eq_true rfl, Nat.le_of_ble_eq_true rfl⟩)) (fun r_1 er_1 => ?_)
        have k_2 := er_1
        have k_2 : r_1.toInt = (st 13).toInt := k_2
        refine lv_icmp_ge (tgt := 78) hx hb dX8_eraseUnnamed_15 (by decide) (fun c_3 => ?_) (fun c_3 => ?_)
        · skip
          have ic_3 := iv_le c_3
          refine lv_iload_n hx hb dX8_eraseUnnamed_78 rfl (lv_at hl 1 rfl) ?_
          exact W.iret hx hb hr (fun t ht hW => ⟨⟨_, _, rfl, rfl, s9_4, s10_4, s11_4, b24_4, R9_4, (by omega), (by omega), hPI, hmono, (cw_D hD), by rw [ht]; exact hP⟩, hS.F ht⟩) hS.2.2 dX8_eraseUnnamed_79
        · skip
          have ic_3 := iv_nle c_3
          refine lv_aload_n hx hb dX8_eraseUnnamed_18 rfl (lv_at hl 2 rfl) ?_
          refine va_get (D := (dC, dI)) (ci := 10) (v := .ref (c 102)) (C := RX8) (T := TX8) (N := 10) hx hb hts hin_X8 hown hK hP 0 rfl rfl 1 (by decide) (hts (.fieldLink RX8 22 "BlockLog" "disk" "LBlockLog$Disk;") (by decide +kernel)) (fun _ h9 => h9) rfl dX8_eraseUnnamed_19 ?_
          refine va_getN (D := (dC, dI)) (ci := 3) (v := .ref (c 103)) (C := RX1) (T := TX1) (N := 7) hx hb hts hin_X1 hown hK hP 2 rfl rfl 3 (by decide) (va_Nw.use rfl (hGW.1 ("BlockLog", 407, "BlockLog$Disk", "touched", "Ljava/util/ArrayList;", "BlockLog") (by decide +kernel))) (fun _ h9 => h9) rfl dX8_eraseUnnamed_22 ?_
          refine lv_iload_n hx hb dX8_eraseUnnamed_25 rfl (lv_at hl 0 rfl) ?_
          refine va_csq (va_Run.run (va_runV (As := [.int l2_4]) (rest := []) ⟨hx, hb, hml, hown, hts⟩ (v_Jx4a65c_get_915e3 l dC dI c kc (rU (rU (rU st 9 s9_4) 10 s10_4) 11 s11_4) lg ai (rU al 24 b24_4) R9_4 cap num l2_4 hPI (show 0 ≤ (st 13).toInt by omega) (show (st 13).toInt ≤ 65536 by omega) (by omega) (show l2_4.toInt < (st 13).toInt by omega)) (cwV 1 hts gX8_eraseUnnamed_Jx4a65c_get_915e3 rfl rfl rfl (by decide +kernel) ⟨Nat.le_of_ble_eq_true rfl, Nat.le_of_ble_eq_true rfl⟩) ⟨fun a U g mk q => by obtain ⟨q0, qP, qK⟩ := q; exact ⟨q0, qP, va_K.moved (u := U) (U := U.calling g mk a) (Vm.Alike.refl U.vm) qK⟩, va_recv hK hP (ci := 2) (q := (RJx4a65c, TJx4a65c, 3)) rfl (q0 := 3) rfl, fun U hU hW => ⟨rfl, by rw [hU]; exact hP, va_K.moved hW.alike hK⟩⟩ rfl rfl hl.1 rfl (lv_room (Nat.le_of_ble_eq_true rfl)) dX8_eraseUnnamed_26 ⟨Nat.le_of_ble_eq_true rfl, Nat.le_of_ble_eq_true rfl⟩)) (fun r_4 er_4 => ?_)
          obtain ⟨hq, hnn⟩ := er_4
          have hq : ∀ x, r_4 = some x → ∃ m, pgM (kc 0) R9_4 x m ∧ m = num l2_4.toNatClampNeg := hq
          have hnn : r_4 ≠ none := hnn
          rcases r_4 with _ | x_5
          · skip
            exact absurd rfl hnn
          · skip
            refine W.eq (g2 := F0 m 29 ls [.ref x_5]) rfl ?_
            obtain ⟨m_6, hM_x_5, hQ⟩ := hq x_5 rfl
            have hMo := hM_x_5
            obtain ⟨b_7, k9_7, f9_7, ⟨j_7, hj_7⟩, i_7, hi_7⟩ := hMo
            refine va_castY hx hb hown (hts (.classLink RX8 128 "BlockLog$Page") (by decide +kernel)) (hGW.2.2.1 "BlockLog$Page" (by decide)) (va_recv hK hP (ci := 4) (q := (RX2, TX2, 3)) rfl (q0 := 26 + j_7) (cw_at hj_7)) dX8_eraseUnnamed_29 ?_
            refine lv_astore_n (lv' := [(3, .ref x_5), (2, .int l2_4), (1, .int l1_4), (0, .ref (c 100))]) hx hb dX8_eraseUnnamed_32 rfl hl (by decide) rfl (fun ls hl => ?_)
            refine lv_aload_n hx hb dX8_eraseUnnamed_33 rfl (lv_at hl 0 rfl) ?_
            have hFc := vfree ((cw_D hD : va_D A (cw_W c kc (rU (rU (rU st 9 s9_4) 10 s10_4) 11 s11_4) lg ai (rU al 24 b24_4) R9_4)) : va_D A (cw_W c kc (rU (rU (rU st 9 s9_4) 10 s10_4) 11 s11_4) lg ai (rU al 24 b24_4) R9_4)) hS hA
            refine va_calli (va_runV (As := []) (rest := []) ⟨hx, hb, hml, hown, hts⟩ (v_X2_state l dC dI c kc (rU (rU (rU st 9 s9_4) 10 s10_4) 11 s11_4) lg ai (rU al 24 b24_4) R9_4 cap num x_5 b_7 j_7 i_7 m_6 k9_7 f9_7  _ hPI hj_7 hi_7 ) (cwV 0 hts gX8_eraseUnnamed_X2_state rfl rfl rfl (by decide +kernel) ⟨Nat.le_of_ble_eq_true rfl, Nat.le_of_ble_eq_true rfl⟩) ⟨fun a U g mk q => by obtain ⟨q0, q1, qP, qK, qD⟩ := q; exact ⟨q0, q1, qP, va_K.moved (u := U) (U := U.calling g mk a) (Vm.Alike.refl U.vm) qK, qD⟩, va_recv hK hP (ci := 4) (q := (RX2, TX2, 3)) rfl (q0 := 26 + j_7) (cw_at hj_7), fun U hU hW => ⟨rfl, by rw [hU], by rw [hU]; exact hP, va_K.moved hW.alike hK, ((cw_D hD : va_D A (cw_W c kc (rU (rU (rU st 9 s9_4) 10 s10_4) 11 s11_4) lg ai (rU al 24 b24_4) R9_4))).weaken (fun _ _ _ _ => trivial)⟩⟩ rfl rfl hl.1 rfl (lv_room (Nat.le_of_ble_eq_true rfl)) dX8_eraseUnnamed_34 ⟨Nat.le_of_ble_eq_true rfl, Nat.le_of_ble_eq_true rfl⟩) hS (fun q _ h => hFc q h) hFc (fun r_8 ur_8 t H1 locs ht hvm er_8 hB hz1 hk1 hS => ?_)
            subst er_8
            obtain ⟨R_8, hrt, hPI, hmo, hD1, hP1⟩ := hB
            rw [ht] at hP1
            clear hz1 hk1 hvm hP
            subst ht
            have hP := hP1
            clear hP1
            generalize t.heap = H at hP hS ⊢
            have hP : va_P (dC, dI) vwCl (cw_W c kc (rU (rU (rU st 9 s9_4) 10 s10_4) 11 s11_4) lg ai (rU al 24 b24_4) R_8) H := hP
            have hD : va_D A (cw_W c kc st lg ai al R_8) := cw_D (hD1.weaken (fun _ _ _ h => hFc _ h))
            have hPI : PI (kc 98) (kc 0) (c 99) (st 13) cap num none R_8 := hPI
            clear hFc hD1
            have hM_x_5 := hmo _ _ hM_x_5
            have hmono : ∀ y m, pgM (kc 0) R y m → pgM (kc 0) R_8 y m := fun y m h => hmo y m (hmono y m h)
            have hrt : r_8.toInt = 2 → pgRt (kc 0) R_8 x_5 := hrt
            refine lv_iconst (v := 2) hx hb dX8_eraseUnnamed_37 (by decide) ?_
            refine lv_icmp_ne (tgt := 72) hx hb dX8_eraseUnnamed_38 (by decide) (fun c_9 => ?_) (fun c_9 => ?_)
            · skip
              have ic_9 := iv_ne c_9
              obtain ⟨x_10, ex_10⟩ : ∃ z : Int32, z = l2_4 + (1) := ⟨_, rfl⟩
              refine lv_iinc (v := x_10) (lv' := [(2, .int x_10), (3, .ref x_5), (1, .int l1_4), (0, .ref (c 100))]) hx hb dX8_eraseUnnamed_72 hl (k := 1) rfl (by rw [ex_10]; rfl) (by decide) rfl (fun ls hl => ?_)
              have rg1 := iv_rng l2_4
              have hx_10 : x_10.toInt = l2_4.toInt + (1) := by rw [ex_10]; exact (iv_add (by omega) (by omega)).trans (by omega)
              clear ex_10
              refine lv_goto (tgt := 4) hx hb dX8_eraseUnnamed_75 (by decide) ?_
              exact ih4 x_10 l1_4 s9_4 s10_4 s11_4 b24_4 R_8 _ _ _ (by omega) (by omega) (by omega) (by omega) (by omega) (by omega) hPI (cw_D hD) hmono (by omega) hP hS (lv_sub hl [0, 2, 3] rfl)
            · skip
              have ic_9 := iv_eq c_9
              refine lv_aload_n hx hb dX8_eraseUnnamed_41 rfl (lv_at hl 3 rfl) ?_
              refine va_get (D := (dC, dI)) (ci := 10) (v := .ref (c 105)) (C := RX8) (T := TX8) (N := 10) hx hb hts hin_X8 hown hK hP 0 rfl rfl 3 (by decide) (hts (.fieldLink RX8 40 "BlockLog" "story" "LBlockLog$Story;") (by decide +kernel)) (fun _ h9 => h9) rfl dX8_eraseUnnamed_42 ?_
              refine lv_aload_n hx hb dX8_eraseUnnamed_45 rfl (lv_at hl 0 rfl) ?_
              have hMo := hM_x_5
              obtain ⟨b_11, k9_11, f9_11, ⟨j_11, hj_11⟩, i_11, hi_11⟩ := hMo
              refine vp_callSl (va_Run.run (va_runV (As := []) (rest := [.ref (c 105)]) ⟨hx, hb, hml, hown, hts⟩ (v_X2_sum l dC dI c kc (rU (rU (rU st 9 s9_4) 10 s10_4) 11 s11_4) lg ai (rU al 24 b24_4) R_8 x_5 b_11 j_11 i_11 m_6 k9_11 f9_11  hj_11 hi_11 ) (cwV 0 hts gX8_eraseUnnamed_X2_sum rfl rfl rfl (by decide +kernel) ⟨Nat.le_of_ble_eq_true rfl, Nat.le_of_ble_eq_true rfl⟩) ⟨fun a U g mk q => by obtain ⟨q0, qP, qK⟩ := q; exact ⟨q0, qP, va_K.moved (u := U) (U := U.calling g mk a) (Vm.Alike.refl U.vm) qK⟩, va_recv hK hP (ci := 4) (q := (RX2, TX2, 3)) rfl (q0 := 26 + j_11) (cw_at hj_11), fun U hU hW => ⟨rfl, by rw [hU]; exact hP, va_K.moved hW.alike hK⟩⟩ rfl rfl hl.1 rfl (lv_room (Nat.le_of_ble_eq_true rfl)) dX8_eraseUnnamed_46 ⟨Nat.le_of_ble_eq_true rfl, Nat.le_of_ble_eq_true rfl⟩)) (fun r_12 er_12 => ?_)
              have hFc := vfree ((cw_D hD : va_D A (cw_W c kc (rU (rU (rU st 9 s9_4) 10 s10_4) 11 s11_4) lg ai (rU al 24 b24_4) R_8)) : va_D A (cw_W c kc (rU (rU (rU st 9 s9_4) 10 s10_4) 11 s11_4) lg ai (rU al 24 b24_4) R_8)) hS hA
              refine va_calli (va_runV (As := [.long r_12]) (rest := []) ⟨hx, hb, hml, hown, hts⟩ (v_X6_names l dC dI c kc (rU (rU (rU st 9 s9_4) 10 s10_4) 11 s11_4) lg ai (rU al 24 b24_4) R_8 r_12 _ (show 0 ≤ (st 15).toInt by omega) (show (st 15).toInt ≤ 1 by omega) (show 0 ≤ (st 25).toInt by omega) (show (st 25).toInt ≤ 128 by omega) (show 0 ≤ (st 26).toInt by omega) (show (st 26).toInt ≤ 128 by omega) (show 0 ≤ (st 28).toInt by omega) (show (st 28).toInt ≤ 1 by omega) (show aR (ai 23) 128 (0) 127 from hR23)) (cwV 1 hts gX8_eraseUnnamed_X6_names rfl rfl rfl (by decide +kernel) ⟨Nat.le_of_ble_eq_true rfl, Nat.le_of_ble_eq_true rfl⟩) ⟨fun a U g mk q => by obtain ⟨q0, q1, qP, qK, qD, qG⟩ := q; exact ⟨q0, q1, qP, va_K.moved (u := U) (U := U.calling g mk a) (Vm.Alike.refl U.vm) qK, qD, qG.same rfl rfl⟩, va_recv hK hP (ci := 8) (q := (RX6, TX6, 12)) rfl (q0 := 5) rfl, fun U hU hW => ⟨rfl, by rw [hU], by rw [hU]; exact hP, va_K.moved hW.alike hK, ((cw_D hD : va_D A (cw_W c kc (rU (rU (rU st 9 s9_4) 10 s10_4) 11 s11_4) lg ai (rU al 24 b24_4) R_8))).weaken (fun _ _ _ _ => trivial), hG.go hW hU hS hFc⟩⟩ rfl rfl hl.1 rfl (lv_room (Nat.le_of_ble_eq_true rfl)) dX8_eraseUnnamed_49 ⟨Nat.le_of_ble_eq_true rfl, Nat.le_of_ble_eq_true rfl⟩) hS (fun q _ h => hFc q h) hFc (fun r_13 ur_13 t H1 locs ht hvm er_13 hB hz1 hk1 hS => ?_)
              subst er_13
              obtain ⟨g24_13, k_14, k_15, hP1⟩ := hB
              rw [ht] at hP1
              clear hFc hz1 hk1 hvm hP
              subst ht
              have hP := hP1
              clear hP1
              generalize t.heap = H at hP hS ⊢
              have hP : va_P (dC, dI) vwCl (cw_W c kc (rU (rU (rU st 9 s9_4) 10 s10_4) 11 s11_4) lg ai (rU al 24 g24_13) R_8) H := hP
              rcases iv_01 (a := r_13) (by omega) (by omega) with b_16 | b_16
              · skip
                have ib_16 := iv_eq b_16
                rw [b_16]
                refine lv_if_ne (tgt := 72) hx hb dX8_eraseUnnamed_52 (by decide) (fun c_17 => ?_) (fun c_17 => ?_)
                · skip
                  have ic_17 := iv_ne c_17
                  exfalso
                  omega
                · skip
                  have ic_17 := iv_eq c_17
                  refine lv_aload_n hx hb dX8_eraseUnnamed_55 rfl (lv_at hl 3 rfl) ?_
                  refine va_get (D := (dC, dI)) (ci := 10) (v := .ref (c 102)) (C := RX8) (T := TX8) (N := 10) hx hb hts hin_X8 hown hK hP 0 rfl rfl 1 (by decide) (hts (.fieldLink RX8 22 "BlockLog" "disk" "LBlockLog$Disk;") (by decide +kernel)) (fun _ h9 => h9) rfl dX8_eraseUnnamed_56 ?_
                  refine lv_aload_n hx hb dX8_eraseUnnamed_59 rfl (lv_at hl 0 rfl) ?_
                  have hFc := vfree ((cw_D hD : va_D A (cw_W c kc (rU (rU (rU st 9 s9_4) 10 s10_4) 11 s11_4) lg ai (rU al 24 g24_13) R_8)) : va_D A (cw_W c kc (rU (rU (rU st 9 s9_4) 10 s10_4) 11 s11_4) lg ai (rU al 24 g24_13) R_8)) hS hA
                  refine va_calli (va_runV (As := [.ref x_5]) (rest := []) ⟨hx, hb, hml, hown, hts⟩ (v_X1_erasePage l dC dI c kc (rU (rU (rU st 9 s9_4) 10 s10_4) 11 s11_4) lg ai (rU al 24 g24_13) R_8 cap num x_5 b_11 j_11 i_11 m_6 k9_11 f9_11  _ hPI hj_11 hi_11 (show 0 ≤ s9_4.toInt by omega) (show s9_4.toInt ≤ 1 by omega)) (cwV 1 hts gX8_eraseUnnamed_X1_erasePage rfl rfl rfl (by decide +kernel) ⟨Nat.le_of_ble_eq_true rfl, Nat.le_of_ble_eq_true rfl⟩) ⟨fun a U g mk q => by obtain ⟨q0, q1, qP, qK, qD, qG⟩ := q; exact ⟨q0, q1, qP, va_K.moved (u := U) (U := U.calling g mk a) (Vm.Alike.refl U.vm) qK, qD, qG.same rfl rfl⟩, va_recv hK hP (ci := 3) (q := (RX1, TX1, 7)) rfl (q0 := 2) rfl, fun U hU hW => ⟨rfl, by rw [hU], by rw [hU]; exact hP, va_K.moved hW.alike hK, ((cw_D hD : va_D A (cw_W c kc (rU (rU (rU st 9 s9_4) 10 s10_4) 11 s11_4) lg ai (rU al 24 g24_13) R_8))).weaken (fun _ _ _ _ => trivial), hG.go hW hU hS hFc⟩⟩ rfl rfl hl.1 rfl (lv_room (Nat.le_of_ble_eq_true rfl)) dX8_eraseUnnamed_60 ⟨Nat.le_of_ble_eq_true rfl, Nat.le_of_ble_eq_true rfl⟩) hS (fun q _ h => hFc q h) hFc (fun r_18 ur_18 t H1 locs ht hvm er_18 hB hz1 hk1 hS => ?_)
                  subst er_18
                  obtain ⟨x9_18, x10_18, x11_18, R_18, k_19, k_20, k_21, k_22, hPI, hmo, hD1, hP1⟩ := hB
                  rw [ht] at hP1
                  clear hz1 hk1 hvm hP
                  subst ht
                  have hP := hP1
                  clear hP1
                  generalize t.heap = H at hP hS ⊢
                  have hP : va_P (dC, dI) vwCl (cw_W c kc (rU (rU (rU st 9 x9_18) 10 x10_18) 11 x11_18) lg ai (rU al 24 g24_13) R_18) H := hP
                  have hD : va_D A (cw_W c kc st lg ai al R_18) := cw_D (hD1.weaken (fun _ _ _ h => hFc _ h))
                  have hPI : PI (kc 98) (kc 0) (c 99) (st 13) cap num none R_18 := hPI
                  clear hFc hD1
                  have hM_x_5 := hmo _ _ hM_x_5
                  have hmono : ∀ y m, pgM (kc 0) R y m → pgM (kc 0) R_18 y m := fun y m h => hmo y m (hmono y m h)
                  have k_21 : 0 ≤ x9_18.toInt := k_21
                  have k_22 : x9_18.toInt ≤ 1 := k_22
                  rcases iv_01 (a := r_18) (by omega) (by omega) with b_23 | b_23
                  · skip
                    have ib_23 := iv_eq b_23
                    rw [b_23]
                    refine lv_if_ne (tgt := 69) hx hb dX8_eraseUnnamed_63 (by decide) (fun c_24 => ?_) (fun c_24 => ?_)
                    · skip
                      have ic_24 := iv_ne c_24
                      exfalso
                      omega
                    · skip
                      have ic_24 := iv_eq c_24
                      refine lv_bipush (v := (-4)) hx hb dX8_eraseUnnamed_66 (by decide) ?_
                      exact W.iret hx hb hr (fun t ht hW => ⟨⟨_, _, rfl, rfl, x9_18, x10_18, x11_18, g24_13, R_18, (by omega), (by omega), hPI, hmono, (cw_D hD), by rw [ht]; exact hP⟩, hS.F ht⟩) hS.2.2 dX8_eraseUnnamed_68
                  · skip
                    have ib_23 := iv_eq b_23
                    rw [b_23]
                    refine lv_if_ne (tgt := 69) hx hb dX8_eraseUnnamed_63 (by decide) (fun c_25 => ?_) (fun c_25 => ?_)
                    · skip
                      have ic_25 := iv_ne c_25
                      obtain ⟨x_26, ex_26⟩ : ∃ z : Int32, z = l1_4 + (1) := ⟨_, rfl⟩
                      refine lv_iinc (v := x_26) (lv' := [(1, .int x_26), (3, .ref x_5), (2, .int l2_4), (0, .ref (c 100))]) hx hb dX8_eraseUnnamed_69 hl (k := 2) rfl (by rw [ex_26]; rfl) (by decide) rfl (fun ls hl => ?_)
                      have rg2 := iv_rng l1_4
                      have hx_26 : x_26.toInt = l1_4.toInt + (1) := by rw [ex_26]; exact (iv_add (by omega) (by omega)).trans (by omega)
                      clear ex_26
                      obtain ⟨x_27, ex_27⟩ : ∃ z : Int32, z = l2_4 + (1) := ⟨_, rfl⟩
                      refine lv_iinc (v := x_27) (lv' := [(2, .int x_27), (1, .int x_26), (3, .ref x_5), (0, .ref (c 100))]) hx hb dX8_eraseUnnamed_72 hl (k := 2) rfl (by rw [ex_27]; rfl) (by decide) rfl (fun ls hl => ?_)
                      have rg3 := iv_rng l2_4
                      have hx_27 : x_27.toInt = l2_4.toInt + (1) := by rw [ex_27]; exact (iv_add (by omega) (by omega)).trans (by omega)
                      clear ex_27
                      refine lv_goto (tgt := 4) hx hb dX8_eraseUnnamed_75 (by decide) ?_
                      exact ih4 x_27 x_26 x9_18 x10_18 x11_18 g24_13 R_18 _ _ _ (by omega) (by omega) (by omega) (by omega) (by omega) (by omega) hPI (cw_D hD) hmono (by omega) hP hS (lv_sub hl [0, 1, 3] rfl)
                    · skip
                      have ic_25 := iv_eq c_25
                      exfalso
                      omega
              · skip
                have ib_16 := iv_eq b_16
                rw [b_16]
                refine lv_if_ne (tgt := 72) hx hb dX8_eraseUnnamed_52 (by decide) (fun c_28 => ?_) (fun c_28 => ?_)
                · skip
                  have ic_28 := iv_ne c_28
                  obtain ⟨x_29, ex_29⟩ : ∃ z : Int32, z = l2_4 + (1) := ⟨_, rfl⟩
                  refine lv_iinc (v := x_29) (lv' := [(2, .int x_29), (3, .ref x_5), (1, .int l1_4), (0, .ref (c 100))]) hx hb dX8_eraseUnnamed_72 hl (k := 1) rfl (by rw [ex_29]; rfl) (by decide) rfl (fun ls hl => ?_)
                  have rg4 := iv_rng l2_4
                  have hx_29 : x_29.toInt = l2_4.toInt + (1) := by rw [ex_29]; exact (iv_add (by omega) (by omega)).trans (by omega)
                  clear ex_29
                  refine lv_goto (tgt := 4) hx hb dX8_eraseUnnamed_75 (by decide) ?_
                  exact ih4 x_29 l1_4 s9_4 s10_4 s11_4 g24_13 R_8 _ _ _ (by omega) (by omega) (by omega) (by omega) (by omega) (by omega) hPI (cw_D hD) hmono (by omega) hP hS (lv_sub hl [0, 2, 3] rfl)
                · skip
                  have ic_28 := iv_eq c_28
                  exfalso
                  omega
    exact loop4 (((st 13).toInt - 0 : Int).toNat + 1) (0 : Int32) (0 : Int32) (st 9) (st 10) (st 11) (al 24) R _ _ _ (by omega) (by omega) (by omega) (by omega) (by omega) (by omega) hPI (cw_D hD) hmono (by omega) hP hS (lv_sub hl [0, 1, 2] rfl)
  exact main s.heap [] hP hS

set_option maxHeartbeats 4000000 in
set_option maxRecDepth 100000 in
theorem v_X8_recover (l : Launch) (dC : Nat → ClassId) (dI : Nat → Nat → Nat) (c : Nat → Nat) (kc : Nat → ClassId) (st : Nat → Int32) (lg : Nat → Int64) (ai : Nat → Nat → Int32) (al : Nat → Nat → Int64) (R : va_W) (cap : Nat) (num : Nat → Int32)  (sz : Nat) (hPI : PI (kc 98) (kc 0) (c 99) (st 13) cap num none R) (hf9a : 0 ≤ (st 9).toInt) (hf9b : (st 9).toInt ≤ 1) (hf13a : 0 ≤ (st 13).toInt) (hf13b : (st 13).toInt ≤ 65536) (hf15a : 0 ≤ (st 15).toInt) (hf15b : (st 15).toInt ≤ 1) (hf17a : 0 ≤ (st 17).toInt) (hf17b : (st 17).toInt ≤ 128) (hR7 : aR (ai 7) 8224 (-128) 127) : Met l yX8_recover wsX8_recover ({ frames := 6, cells := 0, slots := 0, locals := 143 }) (va_Pc [.ref (c 100)] (fun U => U.heap.size = sz ∧ va_P (dC, dI) vwCl (cw_W c kc st lg ai al R) U.heap ∧ va_K (dC, dI) vwCl (cw_T kc) U ∧ va_D (fun _ => True) (cw_W c kc st lg ai al R) ∧ gx_E (va_A (cw_W c kc st lg ai al R) sz) U)) (va_Qi (fun r (u : Int32) => r = u) (fun u t => ∃ (x9 : Int32) (x10 : Int32) (x11 : Int32) (x17 : Int32) (x18 : Int32) (f7 : Nat → Int32) (f8 : Nat → Int32) (R9 : va_W), (0 ≤ u.toInt) ∧ (u.toInt ≤ 1) ∧ (0 ≤ x9.toInt) ∧ (x9.toInt ≤ 1) ∧ (0 ≤ x17.toInt) ∧ (x17.toInt ≤ 128) ∧ (aR f7 8224 (-128) 127) ∧ (PI (kc 98) (kc 0) (c 99) (st 13) cap num none R9) ∧ (∀ y m, pgM (kc 0) R y m → pgM (kc 0) R9 y m) ∧ (va_D (va_A (cw_W c kc st lg ai al R) sz) (cw_W c kc (rU (rU (rU (rU (rU st 9 x9) 10 x10) 11 x11) 17 x17) 18 x18) lg (rU (rU ai 7 f7) 8 f8) al R9)) ∧ va_P (dC, dI) vwCl (cw_W c kc (rU (rU (rU (rU (rU st 9 x9) 10 x10) 11 x11) 17 x17) 18 x18) lg (rU (rU ai 7 f7) 8 f8) al R9) t.heap) (va_A (cw_W c kc st lg ai al R) sz)) 0 0 (va_A (cw_W c kc st lg ai al R) sz) := by
  refine Met.ofW (cc := cX8_recover) (maxL := 1) (ret := (some .boolean)) (by decide) rfl ?_
  intro p e s m args below meth cM s₁ B hml hv
  obtain ⟨rfl, hsz, hP, hK, hD0, hG⟩ := hv
  have hx := B.exec
  have hb := B.bytes
  have hr := B.returns
  have hts := atoms_spec (ws := wsX8_recover) B.pre
  have hown : s.vm.findClass RX8 = some m.cls := findClass_of_methodNamed B.named
  have hGW := hG.1
  subst hsz
  have hD := hD0.self (sz := s.heap.size)
  generalize hAe : va_A (cw_W c kc st lg ai al R) s.heap.size = A at hD hG ⊢
  have hA : ∀ q : Nat, s.heap.size ≤ q → A q := fun q h => by rw [← hAe]; exact Or.inr h
  have hS : va_S A s.heap s.heap [] := va_S.rf
  clear hAe hD0
  have hl := lv_entry ([.ref (c 100)]) (n := 1) (Nat.le_of_ble_eq_true rfl)
  rw [lg_entry_eq]
  generalize (lg_sl ([.ref (c 100)]) ++ List.replicate (1 - (lg_sl ([.ref (c 100)])).length) Slot.unset).toArray = ls at hl ⊢
  have hl : lv_has ls 1 [(0, .ref (c 100))] := hl
  have z_0 : (0 : Int32).toInt = 0 := by decide
  have z_1 : (1 : Int32).toInt = 1 := by decide
  have hin_X8 : ∀ w ∈ u_ws RX8 TX8 10, w ∈ wsX8_recover := by decide +kernel
  have hmono : ∀ y m, pgM (kc 0) R y m → pgM (kc 0) R y m := fun y m h => h
  have main : ∀ (H : Heap) (locs : List Loc), va_P (dC, dI) vwCl (cw_W c kc st lg ai al R) H → va_S A s.heap H locs → W p l e (headSpec wsX8_recover ({ frames := 6, cells := 0, slots := 0, locals := 143 })).room s m ([.ref (c 100)] : List Value).toArray below meth cM H locs 0 0 (MQ below (va_Qi (fun r (u : Int32) => r = u) (fun u t => ∃ (x9 : Int32) (x10 : Int32) (x11 : Int32) (x17 : Int32) (x18 : Int32) (f7 : Nat → Int32) (f8 : Nat → Int32) (R9 : va_W), (0 ≤ u.toInt) ∧ (u.toInt ≤ 1) ∧ (0 ≤ x9.toInt) ∧ (x9.toInt ≤ 1) ∧ (0 ≤ x17.toInt) ∧ (x17.toInt ≤ 128) ∧ (aR f7 8224 (-128) 127) ∧ (PI (kc 98) (kc 0) (c 99) (st 13) cap num none R9) ∧ (∀ y m, pgM (kc 0) R y m → pgM (kc 0) R9 y m) ∧ (va_D A (cw_W c kc (rU (rU (rU (rU (rU st 9 x9) 10 x10) 11 x11) 17 x17) 18 x18) lg (rU (rU ai 7 f7) 8 f8) al R9)) ∧ va_P (dC, dI) vwCl (cw_W c kc (rU (rU (rU (rU (rU st 9 x9) 10 x10) 11 x11) 17 x17) 18 x18) lg (rU (rU ai 7 f7) 8 f8) al R9) t.heap) A) ([.ref (c 100)] : List Value).toArray s 0 0 A) (F0 m 0 ls []) := by
    intro H locs hP hS
    refine lv_aload_n hx hb dX8_recover_0 rfl (lv_at hl 0 rfl) ?_
    refine va_get (D := (dC, dI)) (ci := 10) (v := .ref (c 104)) (C := RX8) (T := TX8) (N := 10) hx hb hts hin_X8 hown hK hP 0 rfl rfl 2 (by decide) (hts (.fieldLink RX8 31 "BlockLog" "rows" "LBlockLog$Rows;") (by decide +kernel)) (fun _ h9 => h9) rfl dX8_recover_1 ?_
    have hFc := vfree ((cw_D hD : va_D A (cw_W c kc st lg ai al R)) : va_D A (cw_W c kc st lg ai al R)) hS hA
    refine va_calli (va_runV (As := []) (rest := []) ⟨hx, hb, hml, hown, hts⟩ (v_X4_clear l dC dI c kc st lg ai al R  _ (show 0 ≤ (st 9).toInt by omega) (show (st 9).toInt ≤ 1 by omega) (show 0 ≤ (st 15).toInt by omega) (show (st 15).toInt ≤ 1 by omega) (show 0 ≤ (st 17).toInt by omega) (show (st 17).toInt ≤ 128 by omega) (show aR (ai 7) 8224 (-128) 127 from hR7)) (cwV 0 hts gX8_recover_X4_clear rfl rfl rfl (by decide +kernel) ⟨Nat.le_of_ble_eq_true rfl, Nat.le_of_ble_eq_true rfl⟩) ⟨fun a U g mk q => by obtain ⟨q0, q1, qP, qK, qD, qG⟩ := q; exact ⟨q0, q1, qP, va_K.moved (u := U) (U := U.calling g mk a) (Vm.Alike.refl U.vm) qK, qD, qG.same rfl rfl⟩, va_recv hK hP (ci := 6) (q := (RX4, TX4, 6)) rfl (q0 := 4) rfl, fun U hU hW => ⟨rfl, by rw [hU], by rw [hU]; exact hP, va_K.moved hW.alike hK, ((cw_D hD : va_D A (cw_W c kc st lg ai al R))).weaken (fun _ _ _ _ => trivial), hG.go hW hU hS hFc⟩⟩ rfl rfl hl.1 rfl (lv_room (Nat.le_of_ble_eq_true rfl)) dX8_recover_4 ⟨Nat.le_of_ble_eq_true rfl, Nat.le_of_ble_eq_true rfl⟩) hS (fun q _ h => hFc q h) hFc (fun r_1 ur_1 t H1 locs ht hvm er_1 hB hz1 hk1 hS => ?_)
    subst er_1
    obtain ⟨x9_1, x10_1, x11_1, x17_1, x18_1, f7_1, f8_1, k_2, k_3, k_4, k_5, k_6, k_7, hR7, hP1⟩ := hB
    rw [ht] at hP1
    clear hFc hz1 hk1 hvm hP
    subst ht
    have hP := hP1
    clear hP1
    generalize t.heap = H at hP hS ⊢
    have hP : va_P (dC, dI) vwCl (cw_W c kc (rU (rU (rU (rU (rU st 9 x9_1) 10 x10_1) 11 x11_1) 17 x17_1) 18 x18_1) lg (rU (rU ai 7 f7_1) 8 f8_1) al R) H := hP
    have k_4 : 0 ≤ x9_1.toInt := k_4
    have k_5 : x9_1.toInt ≤ 1 := k_5
    have k_6 : 0 ≤ x17_1.toInt := k_6
    have k_7 : x17_1.toInt ≤ 128 := k_7
    have hR7 : aR f7_1 8224 (-128) 127 := hR7
    rcases iv_01 (a := r_1) (by omega) (by omega) with b_8 | b_8
    · skip
      have ib_8 := iv_eq b_8
      rw [b_8]
      refine lv_if_eq (tgt := 30) hx hb dX8_recover_7 (by decide) (fun c_9 => ?_) (fun c_9 => ?_)
      · skip
        have ic_9 := iv_eq c_9
        refine lv_iconst (v := 0) hx hb dX8_recover_30 (by decide) ?_
        exact W.zret hx hb hr rfl (fun t ht hW => ⟨⟨_, _, rfl, rfl, x9_1, x10_1, x11_1, x17_1, x18_1, f7_1, f8_1, R, (by omega), (by omega), (by omega), (by omega), (by omega), (by omega), hR7, hPI, hmono, (cw_D hD), by rw [ht]; exact hP⟩, hS.F ht⟩) hS.2.2 dX8_recover_31
      · skip
        have ic_9 := iv_ne c_9
        exfalso
        omega
    · skip
      have ib_8 := iv_eq b_8
      rw [b_8]
      refine lv_if_eq (tgt := 30) hx hb dX8_recover_7 (by decide) (fun c_10 => ?_) (fun c_10 => ?_)
      · skip
        have ic_10 := iv_eq c_10
        exfalso
        omega
      · skip
        have ic_10 := iv_ne c_10
        refine lv_aload_n hx hb dX8_recover_10 rfl (lv_at hl 0 rfl) ?_
        refine va_get (D := (dC, dI)) (ci := 10) (v := .ref (c 104)) (C := RX8) (T := TX8) (N := 10) hx hb hts hin_X8 hown hK hP 0 rfl rfl 2 (by decide) (hts (.fieldLink RX8 31 "BlockLog" "rows" "LBlockLog$Rows;") (by decide +kernel)) (fun _ h9 => h9) rfl dX8_recover_11 ?_
        refine vp_callSi (va_Run.run (va_runV (As := []) (rest := []) ⟨hx, hb, hml, hown, hts⟩ (v_X4_inNeed l dC dI c kc (rU (rU (rU (rU (rU st 9 x9_1) 10 x10_1) 11 x11_1) 17 x17_1) 18 x18_1) lg (rU (rU ai 7 f7_1) 8 f8_1) al R  ) (cwV 0 hts gX8_recover_X4_inNeed rfl rfl rfl (by decide +kernel) ⟨Nat.le_of_ble_eq_true rfl, Nat.le_of_ble_eq_true rfl⟩) ⟨fun a U g mk q => by obtain ⟨q0, qP, qK⟩ := q; exact ⟨q0, qP, va_K.moved (u := U) (U := U.calling g mk a) (Vm.Alike.refl U.vm) qK⟩, va_recv hK hP (ci := 6) (q := (RX4, TX4, 6)) rfl (q0 := 4) rfl, fun U hU hW => ⟨rfl, by rw [hU]; exact hP, va_K.moved hW.alike hK⟩⟩ rfl rfl hl.1 rfl (lv_room (Nat.le_of_ble_eq_true rfl)) dX8_recover_14 ⟨Nat.le_of_ble_eq_true rfl, Nat.le_of_ble_eq_true rfl⟩)) (fun r_11 er_11 => ?_)
        obtain ⟨k_12, k_13⟩ := er_11
        rcases iv_01 (a := r_11) (by omega) (by omega) with b_14 | b_14
        · skip
          have ib_14 := iv_eq b_14
          rw [b_14]
          refine lv_if_ne (tgt := 32) hx hb dX8_recover_17 (by decide) (fun c_15 => ?_) (fun c_15 => ?_)
          · skip
            have ic_15 := iv_ne c_15
            exfalso
            omega
          · skip
            have ic_15 := iv_eq c_15
            refine lv_aload_n hx hb dX8_recover_20 rfl (lv_at hl 0 rfl) ?_
            refine va_get (D := (dC, dI)) (ci := 10) (v := .ref (c 104)) (C := RX8) (T := TX8) (N := 10) hx hb hts hin_X8 hown hK hP 0 rfl rfl 2 (by decide) (hts (.fieldLink RX8 31 "BlockLog" "rows" "LBlockLog$Rows;") (by decide +kernel)) (fun _ h9 => h9) rfl dX8_recover_21 ?_
            have hFc := vfree ((cw_D hD : va_D A (cw_W c kc (rU (rU (rU (rU (rU st 9 x9_1) 10 x10_1) 11 x11_1) 17 x17_1) 18 x18_1) lg (rU (rU ai 7 f7_1) 8 f8_1) al R)) : va_D A (cw_W c kc (rU (rU (rU (rU (rU st 9 x9_1) 10 x10_1) 11 x11_1) 17 x17_1) 18 x18_1) lg (rU (rU ai 7 f7_1) 8 f8_1) al R)) hS hA
            refine va_calli (va_runV (As := []) (rest := []) ⟨hx, hb, hml, hown, hts⟩ (v_X4_dropLacking l dC dI c kc (rU (rU (rU (rU (rU st 9 x9_1) 10 x10_1) 11 x11_1) 17 x17_1) 18 x18_1) lg (rU (rU ai 7 f7_1) 8 f8_1) al R  _ (show 0 ≤ x9_1.toInt by omega) (show x9_1.toInt ≤ 1 by omega) (show 0 ≤ (st 15).toInt by omega) (show (st 15).toInt ≤ 1 by omega) (show 0 ≤ x17_1.toInt by omega) (show x17_1.toInt ≤ 128 by omega) (show aR f7_1 8224 (-128) 127 from hR7)) (cwV 0 hts gX8_recover_X4_dropLacking rfl rfl rfl (by decide +kernel) ⟨Nat.le_of_ble_eq_true rfl, Nat.le_of_ble_eq_true rfl⟩) ⟨fun a U g mk q => by obtain ⟨q0, q1, qP, qK, qD, qG⟩ := q; exact ⟨q0, q1, qP, va_K.moved (u := U) (U := U.calling g mk a) (Vm.Alike.refl U.vm) qK, qD, qG.same rfl rfl⟩, va_recv hK hP (ci := 6) (q := (RX4, TX4, 6)) rfl (q0 := 4) rfl, fun U hU hW => ⟨rfl, by rw [hU], by rw [hU]; exact hP, va_K.moved hW.alike hK, ((cw_D hD : va_D A (cw_W c kc (rU (rU (rU (rU (rU st 9 x9_1) 10 x10_1) 11 x11_1) 17 x17_1) 18 x18_1) lg (rU (rU ai 7 f7_1) 8 f8_1) al R))).weaken (fun _ _ _ _ => trivial), hG.go hW hU hS hFc⟩⟩ rfl rfl hl.1 rfl (lv_room (Nat.le_of_ble_eq_true rfl)) dX8_recover_24 ⟨Nat.le_of_ble_eq_true rfl, Nat.le_of_ble_eq_true rfl⟩) hS (fun q _ h => hFc q h) hFc (fun r_16 ur_16 t H1 locs ht hvm er_16 hB hz1 hk1 hS => ?_)
            subst er_16
            obtain ⟨x9_16, x10_16, x11_16, x17_16, f7_16, f8_16, k_17, k_18, k_19, k_20, k_21, k_22, hR7, hP1⟩ := hB
            rw [ht] at hP1
            clear hFc hz1 hk1 hvm hP
            subst ht
            have hP := hP1
            clear hP1
            generalize t.heap = H at hP hS ⊢
            have hP : va_P (dC, dI) vwCl (cw_W c kc (rU (rU (rU (rU (rU st 9 x9_16) 10 x10_16) 11 x11_16) 17 x17_16) 18 x18_1) lg (rU (rU ai 7 f7_16) 8 f8_16) al R) H := hP
            have k_19 : 0 ≤ x9_16.toInt := k_19
            have k_20 : x9_16.toInt ≤ 1 := k_20
            have k_21 : 0 ≤ x17_16.toInt := k_21
            have k_22 : x17_16.toInt ≤ 128 := k_22
            have hR7 : aR f7_16 8224 (-128) 127 := hR7
            rcases iv_01 (a := r_16) (by omega) (by omega) with b_23 | b_23
            · skip
              have ib_23 := iv_eq b_23
              rw [b_23]
              refine lv_if_ne (tgt := 32) hx hb dX8_recover_27 (by decide) (fun c_24 => ?_) (fun c_24 => ?_)
              · skip
                have ic_24 := iv_ne c_24
                exfalso
                omega
              · skip
                have ic_24 := iv_eq c_24
                refine lv_iconst (v := 0) hx hb dX8_recover_30 (by decide) ?_
                exact W.zret hx hb hr rfl (fun t ht hW => ⟨⟨_, _, rfl, rfl, x9_16, x10_16, x11_16, x17_16, x18_1, f7_16, f8_16, R, (by omega), (by omega), (by omega), (by omega), (by omega), (by omega), hR7, hPI, hmono, (cw_D hD), by rw [ht]; exact hP⟩, hS.F ht⟩) hS.2.2 dX8_recover_31
            · skip
              have ib_23 := iv_eq b_23
              rw [b_23]
              refine lv_if_ne (tgt := 32) hx hb dX8_recover_27 (by decide) (fun c_25 => ?_) (fun c_25 => ?_)
              · skip
                have ic_25 := iv_ne c_25
                refine lv_aload_n hx hb dX8_recover_32 rfl (lv_at hl 0 rfl) ?_
                refine va_get (D := (dC, dI)) (ci := 10) (v := .ref (c 102)) (C := RX8) (T := TX8) (N := 10) hx hb hts hin_X8 hown hK hP 0 rfl rfl 1 (by decide) (hts (.fieldLink RX8 22 "BlockLog" "disk" "LBlockLog$Disk;") (by decide +kernel)) (fun _ h9 => h9) rfl dX8_recover_33 ?_
                have hFc := vfree ((cw_D hD : va_D A (cw_W c kc (rU (rU (rU (rU (rU st 9 x9_16) 10 x10_16) 11 x11_16) 17 x17_16) 18 x18_1) lg (rU (rU ai 7 f7_16) 8 f8_16) al R)) : va_D A (cw_W c kc (rU (rU (rU (rU (rU st 9 x9_16) 10 x10_16) 11 x11_16) 17 x17_16) 18 x18_1) lg (rU (rU ai 7 f7_16) 8 f8_16) al R)) hS hA
                refine va_calli (va_runV (As := []) (rest := []) ⟨hx, hb, hml, hown, hts⟩ (v_X1_eraseTornPages l dC dI c kc (rU (rU (rU (rU (rU st 9 x9_16) 10 x10_16) 11 x11_16) 17 x17_16) 18 x18_1) lg (rU (rU ai 7 f7_16) 8 f8_16) al R cap num  _ hPI (show 0 ≤ x9_16.toInt by omega) (show x9_16.toInt ≤ 1 by omega) (show 0 ≤ (st 13).toInt by omega) (show (st 13).toInt ≤ 65536 by omega)) (cwV 0 hts gX8_recover_X1_eraseTornPages rfl rfl rfl (by decide +kernel) ⟨Nat.le_of_ble_eq_true rfl, Nat.le_of_ble_eq_true rfl⟩) ⟨fun a U g mk q => by obtain ⟨q0, q1, qP, qK, qD, qG⟩ := q; exact ⟨q0, q1, qP, va_K.moved (u := U) (U := U.calling g mk a) (Vm.Alike.refl U.vm) qK, qD, qG.same rfl rfl⟩, va_recv hK hP (ci := 3) (q := (RX1, TX1, 7)) rfl (q0 := 2) rfl, fun U hU hW => ⟨rfl, by rw [hU], by rw [hU]; exact hP, va_K.moved hW.alike hK, ((cw_D hD : va_D A (cw_W c kc (rU (rU (rU (rU (rU st 9 x9_16) 10 x10_16) 11 x11_16) 17 x17_16) 18 x18_1) lg (rU (rU ai 7 f7_16) 8 f8_16) al R))).weaken (fun _ _ _ _ => trivial), hG.go hW hU hS hFc⟩⟩ rfl rfl hl.1 rfl (lv_room (Nat.le_of_ble_eq_true rfl)) dX8_recover_36 ⟨Nat.le_of_ble_eq_true rfl, Nat.le_of_ble_eq_true rfl⟩) hS (fun q _ h => hFc q h) hFc (fun r_26 ur_26 t H1 locs ht hvm er_26 hB hz1 hk1 hS => ?_)
                subst er_26
                obtain ⟨x9_26, x10_26, x11_26, R_26, k_27, k_28, k_29, k_30, hPI, hmo, hD1, hP1⟩ := hB
                rw [ht] at hP1
                clear hz1 hk1 hvm hP
                subst ht
                have hP := hP1
                clear hP1
                generalize t.heap = H at hP hS ⊢
                have hP : va_P (dC, dI) vwCl (cw_W c kc (rU (rU (rU (rU (rU st 9 x9_26) 10 x10_26) 11 x11_26) 17 x17_16) 18 x18_1) lg (rU (rU ai 7 f7_16) 8 f8_16) al R_26) H := hP
                have hD : va_D A (cw_W c kc st lg ai al R_26) := cw_D (hD1.weaken (fun _ _ _ h => hFc _ h))
                have hPI : PI (kc 98) (kc 0) (c 99) (st 13) cap num none R_26 := hPI
                clear hFc hD1
                have hmono : ∀ y m, pgM (kc 0) R y m → pgM (kc 0) R_26 y m := fun y m h => hmo y m (hmono y m h)
                have k_29 : 0 ≤ x9_26.toInt := k_29
                have k_30 : x9_26.toInt ≤ 1 := k_30
                rcases iv_01 (a := r_26) (by omega) (by omega) with b_31 | b_31
                · skip
                  have ib_31 := iv_eq b_31
                  rw [b_31]
                  refine lv_if_eq (tgt := 66) hx hb dX8_recover_39 (by decide) (fun c_32 => ?_) (fun c_32 => ?_)
                  · skip
                    have ic_32 := iv_eq c_32
                    refine lv_iconst (v := 0) hx hb dX8_recover_66 (by decide) ?_
                    exact W.zret hx hb hr rfl (fun t ht hW => ⟨⟨_, _, rfl, rfl, x9_26, x10_26, x11_26, x17_16, x18_1, f7_16, f8_16, R_26, (by omega), (by omega), (by omega), (by omega), (by omega), (by omega), hR7, hPI, hmono, (cw_D hD), by rw [ht]; exact hP⟩, hS.F ht⟩) hS.2.2 dX8_recover_67
                  · skip
                    have ic_32 := iv_ne c_32
                    exfalso
                    omega
                · skip
                  have ib_31 := iv_eq b_31
                  rw [b_31]
                  refine lv_if_eq (tgt := 66) hx hb dX8_recover_39 (by decide) (fun c_33 => ?_) (fun c_33 => ?_)
                  · skip
                    have ic_33 := iv_eq c_33
                    exfalso
                    omega
                  · skip
                    have ic_33 := iv_ne c_33
                    refine lv_aload_n hx hb dX8_recover_42 rfl (lv_at hl 0 rfl) ?_
                    refine va_get (D := (dC, dI)) (ci := 10) (v := .ref (c 104)) (C := RX8) (T := TX8) (N := 10) hx hb hts hin_X8 hown hK hP 0 rfl rfl 2 (by decide) (hts (.fieldLink RX8 31 "BlockLog" "rows" "LBlockLog$Rows;") (by decide +kernel)) (fun _ h9 => h9) rfl dX8_recover_43 ?_
                    have hFc := vfree ((cw_D hD : va_D A (cw_W c kc (rU (rU (rU (rU (rU st 9 x9_26) 10 x10_26) 11 x11_26) 17 x17_16) 18 x18_1) lg (rU (rU ai 7 f7_16) 8 f8_16) al R_26)) : va_D A (cw_W c kc (rU (rU (rU (rU (rU st 9 x9_26) 10 x10_26) 11 x11_26) 17 x17_16) 18 x18_1) lg (rU (rU ai 7 f7_16) 8 f8_16) al R_26)) hS hA
                    refine va_calli (va_runV (As := []) (rest := []) ⟨hx, hb, hml, hown, hts⟩ (v_X4_seal l dC dI c kc (rU (rU (rU (rU (rU st 9 x9_26) 10 x10_26) 11 x11_26) 17 x17_16) 18 x18_1) lg (rU (rU ai 7 f7_16) 8 f8_16) al R_26  _ (show 0 ≤ x9_26.toInt by omega) (show x9_26.toInt ≤ 1 by omega) (show 0 ≤ (st 15).toInt by omega) (show (st 15).toInt ≤ 1 by omega) (show 0 ≤ x17_16.toInt by omega) (show x17_16.toInt ≤ 128 by omega) (show aR f7_16 8224 (-128) 127 from hR7)) (cwV 0 hts gX8_recover_X4_seal rfl rfl rfl (by decide +kernel) ⟨Nat.le_of_ble_eq_true rfl, Nat.le_of_ble_eq_true rfl⟩) ⟨fun a U g mk q => by obtain ⟨q0, q1, qP, qK, qD, qG⟩ := q; exact ⟨q0, q1, qP, va_K.moved (u := U) (U := U.calling g mk a) (Vm.Alike.refl U.vm) qK, qD, qG.same rfl rfl⟩, va_recv hK hP (ci := 6) (q := (RX4, TX4, 6)) rfl (q0 := 4) rfl, fun U hU hW => ⟨rfl, by rw [hU], by rw [hU]; exact hP, va_K.moved hW.alike hK, ((cw_D hD : va_D A (cw_W c kc (rU (rU (rU (rU (rU st 9 x9_26) 10 x10_26) 11 x11_26) 17 x17_16) 18 x18_1) lg (rU (rU ai 7 f7_16) 8 f8_16) al R_26))).weaken (fun _ _ _ _ => trivial), hG.go hW hU hS hFc⟩⟩ rfl rfl hl.1 rfl (lv_room (Nat.le_of_ble_eq_true rfl)) dX8_recover_46 ⟨Nat.le_of_ble_eq_true rfl, Nat.le_of_ble_eq_true rfl⟩) hS (fun q _ h => hFc q h) hFc (fun r_34 ur_34 t H1 locs ht hvm er_34 hB hz1 hk1 hS => ?_)
                    subst er_34
                    obtain ⟨x9_34, x10_34, x11_34, f7_34, f8_34, k_35, k_36, k_37, k_38, hR7, hP1⟩ := hB
                    rw [ht] at hP1
                    clear hFc hz1 hk1 hvm hP
                    subst ht
                    have hP := hP1
                    clear hP1
                    generalize t.heap = H at hP hS ⊢
                    have hP : va_P (dC, dI) vwCl (cw_W c kc (rU (rU (rU (rU (rU st 9 x9_34) 10 x10_34) 11 x11_34) 17 x17_16) 18 x18_1) lg (rU (rU ai 7 f7_34) 8 f8_34) al R_26) H := hP
                    have k_37 : 0 ≤ x9_34.toInt := k_37
                    have k_38 : x9_34.toInt ≤ 1 := k_38
                    have hR7 : aR f7_34 8224 (-128) 127 := hR7
                    rcases iv_01 (a := r_34) (by omega) (by omega) with b_39 | b_39
                    · skip
                      have ib_39 := iv_eq b_39
                      rw [b_39]
                      refine lv_if_eq (tgt := 66) hx hb dX8_recover_49 (by decide) (fun c_40 => ?_) (fun c_40 => ?_)
                      · skip
                        have ic_40 := iv_eq c_40
                        refine lv_iconst (v := 0) hx hb dX8_recover_66 (by decide) ?_
                        exact W.zret hx hb hr rfl (fun t ht hW => ⟨⟨_, _, rfl, rfl, x9_34, x10_34, x11_34, x17_16, x18_1, f7_34, f8_34, R_26, (by omega), (by omega), (by omega), (by omega), (by omega), (by omega), hR7, hPI, hmono, (cw_D hD), by rw [ht]; exact hP⟩, hS.F ht⟩) hS.2.2 dX8_recover_67
                      · skip
                        have ic_40 := iv_ne c_40
                        exfalso
                        omega
                    · skip
                      have ib_39 := iv_eq b_39
                      rw [b_39]
                      refine lv_if_eq (tgt := 66) hx hb dX8_recover_49 (by decide) (fun c_41 => ?_) (fun c_41 => ?_)
                      · skip
                        have ic_41 := iv_eq c_41
                        exfalso
                        omega
                      · skip
                        have ic_41 := iv_ne c_41
                        refine lv_aload_n hx hb dX8_recover_52 rfl (lv_at hl 0 rfl) ?_
                        refine va_get (D := (dC, dI)) (ci := 10) (v := .ref (c 102)) (C := RX8) (T := TX8) (N := 10) hx hb hts hin_X8 hown hK hP 0 rfl rfl 1 (by decide) (hts (.fieldLink RX8 22 "BlockLog" "disk" "LBlockLog$Disk;") (by decide +kernel)) (fun _ h9 => h9) rfl dX8_recover_53 ?_
                        have hFc := vfree ((cw_D hD : va_D A (cw_W c kc (rU (rU (rU (rU (rU st 9 x9_34) 10 x10_34) 11 x11_34) 17 x17_16) 18 x18_1) lg (rU (rU ai 7 f7_34) 8 f8_34) al R_26)) : va_D A (cw_W c kc (rU (rU (rU (rU (rU st 9 x9_34) 10 x10_34) 11 x11_34) 17 x17_16) 18 x18_1) lg (rU (rU ai 7 f7_34) 8 f8_34) al R_26)) hS hA
                        refine va_calli (va_runV (As := []) (rest := []) ⟨hx, hb, hml, hown, hts⟩ (v_X1_sealPages l dC dI c kc (rU (rU (rU (rU (rU st 9 x9_34) 10 x10_34) 11 x11_34) 17 x17_16) 18 x18_1) lg (rU (rU ai 7 f7_34) 8 f8_34) al R_26 cap num  _ hPI (show 0 ≤ x9_34.toInt by omega) (show x9_34.toInt ≤ 1 by omega) (show 0 ≤ (st 13).toInt by omega) (show (st 13).toInt ≤ 65536 by omega)) (cwV 0 hts gX8_recover_X1_sealPages rfl rfl rfl (by decide +kernel) ⟨Nat.le_of_ble_eq_true rfl, Nat.le_of_ble_eq_true rfl⟩) ⟨fun a U g mk q => by obtain ⟨q0, q1, qP, qK, qD, qG⟩ := q; exact ⟨q0, q1, qP, va_K.moved (u := U) (U := U.calling g mk a) (Vm.Alike.refl U.vm) qK, qD, qG.same rfl rfl⟩, va_recv hK hP (ci := 3) (q := (RX1, TX1, 7)) rfl (q0 := 2) rfl, fun U hU hW => ⟨rfl, by rw [hU], by rw [hU]; exact hP, va_K.moved hW.alike hK, ((cw_D hD : va_D A (cw_W c kc (rU (rU (rU (rU (rU st 9 x9_34) 10 x10_34) 11 x11_34) 17 x17_16) 18 x18_1) lg (rU (rU ai 7 f7_34) 8 f8_34) al R_26))).weaken (fun _ _ _ _ => trivial), hG.go hW hU hS hFc⟩⟩ rfl rfl hl.1 rfl (lv_room (Nat.le_of_ble_eq_true rfl)) dX8_recover_56 ⟨Nat.le_of_ble_eq_true rfl, Nat.le_of_ble_eq_true rfl⟩) hS (fun q _ h => hFc q h) hFc (fun r_42 ur_42 t H1 locs ht hvm er_42 hB hz1 hk1 hS => ?_)
                        subst er_42
                        obtain ⟨x9_42, x10_42, x11_42, R_42, k_43, k_44, k_45, k_46, hPI, hmo, hD1, hP1⟩ := hB
                        rw [ht] at hP1
                        clear hz1 hk1 hvm hP
                        subst ht
                        have hP := hP1
                        clear hP1
                        generalize t.heap = H at hP hS ⊢
                        have hP : va_P (dC, dI) vwCl (cw_W c kc (rU (rU (rU (rU (rU st 9 x9_42) 10 x10_42) 11 x11_42) 17 x17_16) 18 x18_1) lg (rU (rU ai 7 f7_34) 8 f8_34) al R_42) H := hP
                        have hD : va_D A (cw_W c kc st lg ai al R_42) := cw_D (hD1.weaken (fun _ _ _ h => hFc _ h))
                        have hPI : PI (kc 98) (kc 0) (c 99) (st 13) cap num none R_42 := hPI
                        clear hFc hD1
                        have hmono : ∀ y m, pgM (kc 0) R y m → pgM (kc 0) R_42 y m := fun y m h => hmo y m (hmono y m h)
                        have k_45 : 0 ≤ x9_42.toInt := k_45
                        have k_46 : x9_42.toInt ≤ 1 := k_46
                        rcases iv_01 (a := r_42) (by omega) (by omega) with b_47 | b_47
                        · skip
                          have ib_47 := iv_eq b_47
                          rw [b_47]
                          refine lv_if_eq (tgt := 66) hx hb dX8_recover_59 (by decide) (fun c_48 => ?_) (fun c_48 => ?_)
                          · skip
                            have ic_48 := iv_eq c_48
                            refine lv_iconst (v := 0) hx hb dX8_recover_66 (by decide) ?_
                            exact W.zret hx hb hr rfl (fun t ht hW => ⟨⟨_, _, rfl, rfl, x9_42, x10_42, x11_42, x17_16, x18_1, f7_34, f8_34, R_42, (by omega), (by omega), (by omega), (by omega), (by omega), (by omega), hR7, hPI, hmono, (cw_D hD), by rw [ht]; exact hP⟩, hS.F ht⟩) hS.2.2 dX8_recover_67
                          · skip
                            have ic_48 := iv_ne c_48
                            exfalso
                            omega
                        · skip
                          have ib_47 := iv_eq b_47
                          rw [b_47]
                          refine lv_if_eq (tgt := 66) hx hb dX8_recover_59 (by decide) (fun c_49 => ?_) (fun c_49 => ?_)
                          · skip
                            have ic_49 := iv_eq c_49
                            exfalso
                            omega
                          · skip
                            have ic_49 := iv_ne c_49
                            refine lv_iconst (v := 1) hx hb dX8_recover_62 (by decide) ?_
                            refine lv_goto (tgt := 67) hx hb dX8_recover_63 (by decide) ?_
                            exact W.zret hx hb hr rfl (fun t ht hW => ⟨⟨_, _, rfl, rfl, x9_42, x10_42, x11_42, x17_16, x18_1, f7_34, f8_34, R_42, (by omega), (by omega), (by omega), (by omega), (by omega), (by omega), hR7, hPI, hmono, (cw_D hD), by rw [ht]; exact hP⟩, hS.F ht⟩) hS.2.2 dX8_recover_67
              · skip
                have ic_25 := iv_eq c_25
                exfalso
                omega
        · skip
          have ib_14 := iv_eq b_14
          rw [b_14]
          refine lv_if_ne (tgt := 32) hx hb dX8_recover_17 (by decide) (fun c_50 => ?_) (fun c_50 => ?_)
          · skip
            have ic_50 := iv_ne c_50
            refine lv_aload_n hx hb dX8_recover_32 rfl (lv_at hl 0 rfl) ?_
            refine va_get (D := (dC, dI)) (ci := 10) (v := .ref (c 102)) (C := RX8) (T := TX8) (N := 10) hx hb hts hin_X8 hown hK hP 0 rfl rfl 1 (by decide) (hts (.fieldLink RX8 22 "BlockLog" "disk" "LBlockLog$Disk;") (by decide +kernel)) (fun _ h9 => h9) rfl dX8_recover_33 ?_
            have hFc := vfree ((cw_D hD : va_D A (cw_W c kc (rU (rU (rU (rU (rU st 9 x9_1) 10 x10_1) 11 x11_1) 17 x17_1) 18 x18_1) lg (rU (rU ai 7 f7_1) 8 f8_1) al R)) : va_D A (cw_W c kc (rU (rU (rU (rU (rU st 9 x9_1) 10 x10_1) 11 x11_1) 17 x17_1) 18 x18_1) lg (rU (rU ai 7 f7_1) 8 f8_1) al R)) hS hA
            refine va_calli (va_runV (As := []) (rest := []) ⟨hx, hb, hml, hown, hts⟩ (v_X1_eraseTornPages l dC dI c kc (rU (rU (rU (rU (rU st 9 x9_1) 10 x10_1) 11 x11_1) 17 x17_1) 18 x18_1) lg (rU (rU ai 7 f7_1) 8 f8_1) al R cap num  _ hPI (show 0 ≤ x9_1.toInt by omega) (show x9_1.toInt ≤ 1 by omega) (show 0 ≤ (st 13).toInt by omega) (show (st 13).toInt ≤ 65536 by omega)) (cwV 0 hts gX8_recover_X1_eraseTornPages rfl rfl rfl (by decide +kernel) ⟨Nat.le_of_ble_eq_true rfl, Nat.le_of_ble_eq_true rfl⟩) ⟨fun a U g mk q => by obtain ⟨q0, q1, qP, qK, qD, qG⟩ := q; exact ⟨q0, q1, qP, va_K.moved (u := U) (U := U.calling g mk a) (Vm.Alike.refl U.vm) qK, qD, qG.same rfl rfl⟩, va_recv hK hP (ci := 3) (q := (RX1, TX1, 7)) rfl (q0 := 2) rfl, fun U hU hW => ⟨rfl, by rw [hU], by rw [hU]; exact hP, va_K.moved hW.alike hK, ((cw_D hD : va_D A (cw_W c kc (rU (rU (rU (rU (rU st 9 x9_1) 10 x10_1) 11 x11_1) 17 x17_1) 18 x18_1) lg (rU (rU ai 7 f7_1) 8 f8_1) al R))).weaken (fun _ _ _ _ => trivial), hG.go hW hU hS hFc⟩⟩ rfl rfl hl.1 rfl (lv_room (Nat.le_of_ble_eq_true rfl)) dX8_recover_36 ⟨Nat.le_of_ble_eq_true rfl, Nat.le_of_ble_eq_true rfl⟩) hS (fun q _ h => hFc q h) hFc (fun r_51 ur_51 t H1 locs ht hvm er_51 hB hz1 hk1 hS => ?_)
            subst er_51
            obtain ⟨x9_51, x10_51, x11_51, R_51, k_52, k_53, k_54, k_55, hPI, hmo, hD1, hP1⟩ := hB
            rw [ht] at hP1
            clear hz1 hk1 hvm hP
            subst ht
            have hP := hP1
            clear hP1
            generalize t.heap = H at hP hS ⊢
            have hP : va_P (dC, dI) vwCl (cw_W c kc (rU (rU (rU (rU (rU st 9 x9_51) 10 x10_51) 11 x11_51) 17 x17_1) 18 x18_1) lg (rU (rU ai 7 f7_1) 8 f8_1) al R_51) H := hP
            have hD : va_D A (cw_W c kc st lg ai al R_51) := cw_D (hD1.weaken (fun _ _ _ h => hFc _ h))
            have hPI : PI (kc 98) (kc 0) (c 99) (st 13) cap num none R_51 := hPI
            clear hFc hD1
            have hmono : ∀ y m, pgM (kc 0) R y m → pgM (kc 0) R_51 y m := fun y m h => hmo y m (hmono y m h)
            have k_54 : 0 ≤ x9_51.toInt := k_54
            have k_55 : x9_51.toInt ≤ 1 := k_55
            rcases iv_01 (a := r_51) (by omega) (by omega) with b_56 | b_56
            · skip
              have ib_56 := iv_eq b_56
              rw [b_56]
              refine lv_if_eq (tgt := 66) hx hb dX8_recover_39 (by decide) (fun c_57 => ?_) (fun c_57 => ?_)
              · skip
                have ic_57 := iv_eq c_57
                refine lv_iconst (v := 0) hx hb dX8_recover_66 (by decide) ?_
                exact W.zret hx hb hr rfl (fun t ht hW => ⟨⟨_, _, rfl, rfl, x9_51, x10_51, x11_51, x17_1, x18_1, f7_1, f8_1, R_51, (by omega), (by omega), (by omega), (by omega), (by omega), (by omega), hR7, hPI, hmono, (cw_D hD), by rw [ht]; exact hP⟩, hS.F ht⟩) hS.2.2 dX8_recover_67
              · skip
                have ic_57 := iv_ne c_57
                exfalso
                omega
            · skip
              have ib_56 := iv_eq b_56
              rw [b_56]
              refine lv_if_eq (tgt := 66) hx hb dX8_recover_39 (by decide) (fun c_58 => ?_) (fun c_58 => ?_)
              · skip
                have ic_58 := iv_eq c_58
                exfalso
                omega
              · skip
                have ic_58 := iv_ne c_58
                refine lv_aload_n hx hb dX8_recover_42 rfl (lv_at hl 0 rfl) ?_
                refine va_get (D := (dC, dI)) (ci := 10) (v := .ref (c 104)) (C := RX8) (T := TX8) (N := 10) hx hb hts hin_X8 hown hK hP 0 rfl rfl 2 (by decide) (hts (.fieldLink RX8 31 "BlockLog" "rows" "LBlockLog$Rows;") (by decide +kernel)) (fun _ h9 => h9) rfl dX8_recover_43 ?_
                have hFc := vfree ((cw_D hD : va_D A (cw_W c kc (rU (rU (rU (rU (rU st 9 x9_51) 10 x10_51) 11 x11_51) 17 x17_1) 18 x18_1) lg (rU (rU ai 7 f7_1) 8 f8_1) al R_51)) : va_D A (cw_W c kc (rU (rU (rU (rU (rU st 9 x9_51) 10 x10_51) 11 x11_51) 17 x17_1) 18 x18_1) lg (rU (rU ai 7 f7_1) 8 f8_1) al R_51)) hS hA
                refine va_calli (va_runV (As := []) (rest := []) ⟨hx, hb, hml, hown, hts⟩ (v_X4_seal l dC dI c kc (rU (rU (rU (rU (rU st 9 x9_51) 10 x10_51) 11 x11_51) 17 x17_1) 18 x18_1) lg (rU (rU ai 7 f7_1) 8 f8_1) al R_51  _ (show 0 ≤ x9_51.toInt by omega) (show x9_51.toInt ≤ 1 by omega) (show 0 ≤ (st 15).toInt by omega) (show (st 15).toInt ≤ 1 by omega) (show 0 ≤ x17_1.toInt by omega) (show x17_1.toInt ≤ 128 by omega) (show aR f7_1 8224 (-128) 127 from hR7)) (cwV 0 hts gX8_recover_X4_seal rfl rfl rfl (by decide +kernel) ⟨Nat.le_of_ble_eq_true rfl, Nat.le_of_ble_eq_true rfl⟩) ⟨fun a U g mk q => by obtain ⟨q0, q1, qP, qK, qD, qG⟩ := q; exact ⟨q0, q1, qP, va_K.moved (u := U) (U := U.calling g mk a) (Vm.Alike.refl U.vm) qK, qD, qG.same rfl rfl⟩, va_recv hK hP (ci := 6) (q := (RX4, TX4, 6)) rfl (q0 := 4) rfl, fun U hU hW => ⟨rfl, by rw [hU], by rw [hU]; exact hP, va_K.moved hW.alike hK, ((cw_D hD : va_D A (cw_W c kc (rU (rU (rU (rU (rU st 9 x9_51) 10 x10_51) 11 x11_51) 17 x17_1) 18 x18_1) lg (rU (rU ai 7 f7_1) 8 f8_1) al R_51))).weaken (fun _ _ _ _ => trivial), hG.go hW hU hS hFc⟩⟩ rfl rfl hl.1 rfl (lv_room (Nat.le_of_ble_eq_true rfl)) dX8_recover_46 ⟨Nat.le_of_ble_eq_true rfl, Nat.le_of_ble_eq_true rfl⟩) hS (fun q _ h => hFc q h) hFc (fun r_59 ur_59 t H1 locs ht hvm er_59 hB hz1 hk1 hS => ?_)
                subst er_59
                obtain ⟨x9_59, x10_59, x11_59, f7_59, f8_59, k_60, k_61, k_62, k_63, hR7, hP1⟩ := hB
                rw [ht] at hP1
                clear hFc hz1 hk1 hvm hP
                subst ht
                have hP := hP1
                clear hP1
                generalize t.heap = H at hP hS ⊢
                have hP : va_P (dC, dI) vwCl (cw_W c kc (rU (rU (rU (rU (rU st 9 x9_59) 10 x10_59) 11 x11_59) 17 x17_1) 18 x18_1) lg (rU (rU ai 7 f7_59) 8 f8_59) al R_51) H := hP
                have k_62 : 0 ≤ x9_59.toInt := k_62
                have k_63 : x9_59.toInt ≤ 1 := k_63
                have hR7 : aR f7_59 8224 (-128) 127 := hR7
                rcases iv_01 (a := r_59) (by omega) (by omega) with b_64 | b_64
                · skip
                  have ib_64 := iv_eq b_64
                  rw [b_64]
                  refine lv_if_eq (tgt := 66) hx hb dX8_recover_49 (by decide) (fun c_65 => ?_) (fun c_65 => ?_)
                  · skip
                    have ic_65 := iv_eq c_65
                    refine lv_iconst (v := 0) hx hb dX8_recover_66 (by decide) ?_
                    exact W.zret hx hb hr rfl (fun t ht hW => ⟨⟨_, _, rfl, rfl, x9_59, x10_59, x11_59, x17_1, x18_1, f7_59, f8_59, R_51, (by omega), (by omega), (by omega), (by omega), (by omega), (by omega), hR7, hPI, hmono, (cw_D hD), by rw [ht]; exact hP⟩, hS.F ht⟩) hS.2.2 dX8_recover_67
                  · skip
                    have ic_65 := iv_ne c_65
                    exfalso
                    omega
                · skip
                  have ib_64 := iv_eq b_64
                  rw [b_64]
                  refine lv_if_eq (tgt := 66) hx hb dX8_recover_49 (by decide) (fun c_66 => ?_) (fun c_66 => ?_)
                  · skip
                    have ic_66 := iv_eq c_66
                    exfalso
                    omega
                  · skip
                    have ic_66 := iv_ne c_66
                    refine lv_aload_n hx hb dX8_recover_52 rfl (lv_at hl 0 rfl) ?_
                    refine va_get (D := (dC, dI)) (ci := 10) (v := .ref (c 102)) (C := RX8) (T := TX8) (N := 10) hx hb hts hin_X8 hown hK hP 0 rfl rfl 1 (by decide) (hts (.fieldLink RX8 22 "BlockLog" "disk" "LBlockLog$Disk;") (by decide +kernel)) (fun _ h9 => h9) rfl dX8_recover_53 ?_
                    have hFc := vfree ((cw_D hD : va_D A (cw_W c kc (rU (rU (rU (rU (rU st 9 x9_59) 10 x10_59) 11 x11_59) 17 x17_1) 18 x18_1) lg (rU (rU ai 7 f7_59) 8 f8_59) al R_51)) : va_D A (cw_W c kc (rU (rU (rU (rU (rU st 9 x9_59) 10 x10_59) 11 x11_59) 17 x17_1) 18 x18_1) lg (rU (rU ai 7 f7_59) 8 f8_59) al R_51)) hS hA
                    refine va_calli (va_runV (As := []) (rest := []) ⟨hx, hb, hml, hown, hts⟩ (v_X1_sealPages l dC dI c kc (rU (rU (rU (rU (rU st 9 x9_59) 10 x10_59) 11 x11_59) 17 x17_1) 18 x18_1) lg (rU (rU ai 7 f7_59) 8 f8_59) al R_51 cap num  _ hPI (show 0 ≤ x9_59.toInt by omega) (show x9_59.toInt ≤ 1 by omega) (show 0 ≤ (st 13).toInt by omega) (show (st 13).toInt ≤ 65536 by omega)) (cwV 0 hts gX8_recover_X1_sealPages rfl rfl rfl (by decide +kernel) ⟨Nat.le_of_ble_eq_true rfl, Nat.le_of_ble_eq_true rfl⟩) ⟨fun a U g mk q => by obtain ⟨q0, q1, qP, qK, qD, qG⟩ := q; exact ⟨q0, q1, qP, va_K.moved (u := U) (U := U.calling g mk a) (Vm.Alike.refl U.vm) qK, qD, qG.same rfl rfl⟩, va_recv hK hP (ci := 3) (q := (RX1, TX1, 7)) rfl (q0 := 2) rfl, fun U hU hW => ⟨rfl, by rw [hU], by rw [hU]; exact hP, va_K.moved hW.alike hK, ((cw_D hD : va_D A (cw_W c kc (rU (rU (rU (rU (rU st 9 x9_59) 10 x10_59) 11 x11_59) 17 x17_1) 18 x18_1) lg (rU (rU ai 7 f7_59) 8 f8_59) al R_51))).weaken (fun _ _ _ _ => trivial), hG.go hW hU hS hFc⟩⟩ rfl rfl hl.1 rfl (lv_room (Nat.le_of_ble_eq_true rfl)) dX8_recover_56 ⟨Nat.le_of_ble_eq_true rfl, Nat.le_of_ble_eq_true rfl⟩) hS (fun q _ h => hFc q h) hFc (fun r_67 ur_67 t H1 locs ht hvm er_67 hB hz1 hk1 hS => ?_)
                    subst er_67
                    obtain ⟨x9_67, x10_67, x11_67, R_67, k_68, k_69, k_70, k_71, hPI, hmo, hD1, hP1⟩ := hB
                    rw [ht] at hP1
                    clear hz1 hk1 hvm hP
                    subst ht
                    have hP := hP1
                    clear hP1
                    generalize t.heap = H at hP hS ⊢
                    have hP : va_P (dC, dI) vwCl (cw_W c kc (rU (rU (rU (rU (rU st 9 x9_67) 10 x10_67) 11 x11_67) 17 x17_1) 18 x18_1) lg (rU (rU ai 7 f7_59) 8 f8_59) al R_67) H := hP
                    have hD : va_D A (cw_W c kc st lg ai al R_67) := cw_D (hD1.weaken (fun _ _ _ h => hFc _ h))
                    have hPI : PI (kc 98) (kc 0) (c 99) (st 13) cap num none R_67 := hPI
                    clear hFc hD1
                    have hmono : ∀ y m, pgM (kc 0) R y m → pgM (kc 0) R_67 y m := fun y m h => hmo y m (hmono y m h)
                    have k_70 : 0 ≤ x9_67.toInt := k_70
                    have k_71 : x9_67.toInt ≤ 1 := k_71
                    rcases iv_01 (a := r_67) (by omega) (by omega) with b_72 | b_72
                    · skip
                      have ib_72 := iv_eq b_72
                      rw [b_72]
                      refine lv_if_eq (tgt := 66) hx hb dX8_recover_59 (by decide) (fun c_73 => ?_) (fun c_73 => ?_)
                      · skip
                        have ic_73 := iv_eq c_73
                        refine lv_iconst (v := 0) hx hb dX8_recover_66 (by decide) ?_
                        exact W.zret hx hb hr rfl (fun t ht hW => ⟨⟨_, _, rfl, rfl, x9_67, x10_67, x11_67, x17_1, x18_1, f7_59, f8_59, R_67, (by omega), (by omega), (by omega), (by omega), (by omega), (by omega), hR7, hPI, hmono, (cw_D hD), by rw [ht]; exact hP⟩, hS.F ht⟩) hS.2.2 dX8_recover_67
                      · skip
                        have ic_73 := iv_ne c_73
                        exfalso
                        omega
                    · skip
                      have ib_72 := iv_eq b_72
                      rw [b_72]
                      refine lv_if_eq (tgt := 66) hx hb dX8_recover_59 (by decide) (fun c_74 => ?_) (fun c_74 => ?_)
                      · skip
                        have ic_74 := iv_eq c_74
                        exfalso
                        omega
                      · skip
                        have ic_74 := iv_ne c_74
                        refine lv_iconst (v := 1) hx hb dX8_recover_62 (by decide) ?_
                        refine lv_goto (tgt := 67) hx hb dX8_recover_63 (by decide) ?_
                        exact W.zret hx hb hr rfl (fun t ht hW => ⟨⟨_, _, rfl, rfl, x9_67, x10_67, x11_67, x17_1, x18_1, f7_59, f8_59, R_67, (by omega), (by omega), (by omega), (by omega), (by omega), (by omega), hR7, hPI, hmono, (cw_D hD), by rw [ht]; exact hP⟩, hS.F ht⟩) hS.2.2 dX8_recover_67
          · skip
            have ic_50 := iv_eq c_50
            exfalso
            omega
  exact main s.heap [] hP hS

set_option maxHeartbeats 4000000 in
set_option maxRecDepth 100000 in
theorem v_X8_open (l : Launch) (dC : Nat → ClassId) (dI : Nat → Nat → Nat) (c : Nat → Nat) (kc : Nat → ClassId) (st : Nat → Int32) (lg : Nat → Int64) (ai : Nat → Nat → Int32) (al : Nat → Nat → Int64) (R : va_W) (cap : Nat) (num : Nat → Int32)  (sz : Nat) (hPI : PI (kc 98) (kc 0) (c 99) (st 13) cap num none R) (hf9a : 0 ≤ (st 9).toInt) (hf9b : (st 9).toInt ≤ 1) (hf13a : 0 ≤ (st 13).toInt) (hf13b : (st 13).toInt ≤ 65536) (hf15a : 0 ≤ (st 15).toInt) (hf15b : (st 15).toInt ≤ 1) (hf17a : 0 ≤ (st 17).toInt) (hf17b : (st 17).toInt ≤ 128) (hf25a : 0 ≤ (st 25).toInt) (hf25b : (st 25).toInt ≤ 128) (hf26a : 0 ≤ (st 26).toInt) (hf26b : (st 26).toInt ≤ 128) (hf27a : -1 ≤ (st 27).toInt) (hf27b : (st 27).toInt ≤ 127) (hf28a : 0 ≤ (st 28).toInt) (hf28b : (st 28).toInt ≤ 1) (hR7 : aR (ai 7) 8224 (-128) 127) (hR23 : aR (ai 23) 128 (0) 127) : Met l yX8_open wsX8_open ({ frames := 7, cells := 0, slots := 0, locals := 163 }) (va_Pc [.ref (c 100)] (fun U => U.heap.size = sz ∧ va_P (dC, dI) vwCl (cw_W c kc st lg ai al R) U.heap ∧ va_K (dC, dI) vwCl (cw_T kc) U ∧ va_D (fun _ => True) (cw_W c kc st lg ai al R) ∧ gx_E (va_A (cw_W c kc st lg ai al R) sz) U)) (va_Qi (fun r (u : Int32) => r = u) (fun u t => ∃ (x9 : Int32) (x10 : Int32) (x11 : Int32) (x15 : Int32) (x16 : Int32) (x17 : Int32) (x18 : Int32) (x25 : Int32) (x26 : Int32) (x27 : Int32) (x28 : Int32) (x29 : Int32) (f7 : Nat → Int32) (f8 : Nat → Int32) (f20 : Nat → Int32) (f21 : Nat → Int32) (f22 : Nat → Int32) (f23 : Nat → Int32) (g19 : Nat → Int64) (R9 : va_W), (0 ≤ x9.toInt) ∧ (x9.toInt ≤ 1) ∧ (0 ≤ x15.toInt) ∧ (x15.toInt ≤ 1) ∧ (0 ≤ x17.toInt) ∧ (x17.toInt ≤ 128) ∧ (0 ≤ x25.toInt) ∧ (x25.toInt ≤ 128) ∧ (0 ≤ x26.toInt) ∧ (x26.toInt ≤ 128) ∧ (-1 ≤ x27.toInt) ∧ (x27.toInt ≤ 127) ∧ (0 ≤ x28.toInt) ∧ (x28.toInt ≤ 1) ∧ (aR f7 8224 (-128) 127) ∧ (aR f23 128 (0) 127) ∧ (PI (kc 98) (kc 0) (c 99) (st 13) cap num none R9) ∧ (∀ y m, pgM (kc 0) R y m → pgM (kc 0) R9 y m) ∧ (va_D (va_A (cw_W c kc st lg ai al R) sz) (cw_W c kc (rU (rU (rU (rU (rU (rU (rU (rU (rU (rU (rU (rU st 9 x9) 10 x10) 11 x11) 15 x15) 16 x16) 17 x17) 18 x18) 25 x25) 26 x26) 27 x27) 28 x28) 29 x29) lg (rU (rU (rU (rU (rU (rU ai 7 f7) 8 f8) 20 f20) 21 f21) 22 f22) 23 f23) (rU al 19 g19) R9)) ∧ va_P (dC, dI) vwCl (cw_W c kc (rU (rU (rU (rU (rU (rU (rU (rU (rU (rU (rU (rU st 9 x9) 10 x10) 11 x11) 15 x15) 16 x16) 17 x17) 18 x18) 25 x25) 26 x26) 27 x27) 28 x28) 29 x29) lg (rU (rU (rU (rU (rU (rU ai 7 f7) 8 f8) 20 f20) 21 f21) 22 f22) 23 f23) (rU al 19 g19) R9) t.heap) (va_A (cw_W c kc st lg ai al R) sz)) 0 0 (va_A (cw_W c kc st lg ai al R) sz) := by
  refine Met.ofW (cc := cX8_open) (maxL := 1) (ret := (some .int)) (by decide) rfl ?_
  intro p e s m args below meth cM s₁ B hml hv
  obtain ⟨rfl, hsz, hP, hK, hD0, hG⟩ := hv
  have hx := B.exec
  have hb := B.bytes
  have hr := B.returns
  have hts := atoms_spec (ws := wsX8_open) B.pre
  have hown : s.vm.findClass RX8 = some m.cls := findClass_of_methodNamed B.named
  have hGW := hG.1
  subst hsz
  have hD := hD0.self (sz := s.heap.size)
  generalize hAe : va_A (cw_W c kc st lg ai al R) s.heap.size = A at hD hG ⊢
  have hA : ∀ q : Nat, s.heap.size ≤ q → A q := fun q h => by rw [← hAe]; exact Or.inr h
  have hS : va_S A s.heap s.heap [] := va_S.rf
  clear hAe hD0
  have hl := lv_entry ([.ref (c 100)]) (n := 1) (Nat.le_of_ble_eq_true rfl)
  rw [lg_entry_eq]
  generalize (lg_sl ([.ref (c 100)]) ++ List.replicate (1 - (lg_sl ([.ref (c 100)])).length) Slot.unset).toArray = ls at hl ⊢
  have hl : lv_has ls 1 [(0, .ref (c 100))] := hl
  have z_m5 : (-5 : Int32).toInt = -5 := by decide
  have z_m4 : (-4 : Int32).toInt = -4 := by decide
  have z_0 : (0 : Int32).toInt = 0 := by decide
  have z_1 : (1 : Int32).toInt = 1 := by decide
  have hin_X1 : ∀ w ∈ u_ws RX1 TX1 7, w ∈ wsX8_open := by decide +kernel
  have hin_X4 : ∀ w ∈ u_ws RX4 TX4 6, w ∈ wsX8_open := by decide +kernel
  have hin_X8 : ∀ w ∈ u_ws RX8 TX8 10, w ∈ wsX8_open := by decide +kernel
  have hmono : ∀ y m, pgM (kc 0) R y m → pgM (kc 0) R y m := fun y m h => h
  have main : ∀ (H : Heap) (locs : List Loc), va_P (dC, dI) vwCl (cw_W c kc st lg ai al R) H → va_S A s.heap H locs → W p l e (headSpec wsX8_open ({ frames := 7, cells := 0, slots := 0, locals := 163 })).room s m ([.ref (c 100)] : List Value).toArray below meth cM H locs 0 0 (MQ below (va_Qi (fun r (u : Int32) => r = u) (fun u t => ∃ (x9 : Int32) (x10 : Int32) (x11 : Int32) (x15 : Int32) (x16 : Int32) (x17 : Int32) (x18 : Int32) (x25 : Int32) (x26 : Int32) (x27 : Int32) (x28 : Int32) (x29 : Int32) (f7 : Nat → Int32) (f8 : Nat → Int32) (f20 : Nat → Int32) (f21 : Nat → Int32) (f22 : Nat → Int32) (f23 : Nat → Int32) (g19 : Nat → Int64) (R9 : va_W), (0 ≤ x9.toInt) ∧ (x9.toInt ≤ 1) ∧ (0 ≤ x15.toInt) ∧ (x15.toInt ≤ 1) ∧ (0 ≤ x17.toInt) ∧ (x17.toInt ≤ 128) ∧ (0 ≤ x25.toInt) ∧ (x25.toInt ≤ 128) ∧ (0 ≤ x26.toInt) ∧ (x26.toInt ≤ 128) ∧ (-1 ≤ x27.toInt) ∧ (x27.toInt ≤ 127) ∧ (0 ≤ x28.toInt) ∧ (x28.toInt ≤ 1) ∧ (aR f7 8224 (-128) 127) ∧ (aR f23 128 (0) 127) ∧ (PI (kc 98) (kc 0) (c 99) (st 13) cap num none R9) ∧ (∀ y m, pgM (kc 0) R y m → pgM (kc 0) R9 y m) ∧ (va_D A (cw_W c kc (rU (rU (rU (rU (rU (rU (rU (rU (rU (rU (rU (rU st 9 x9) 10 x10) 11 x11) 15 x15) 16 x16) 17 x17) 18 x18) 25 x25) 26 x26) 27 x27) 28 x28) 29 x29) lg (rU (rU (rU (rU (rU (rU ai 7 f7) 8 f8) 20 f20) 21 f21) 22 f22) 23 f23) (rU al 19 g19) R9)) ∧ va_P (dC, dI) vwCl (cw_W c kc (rU (rU (rU (rU (rU (rU (rU (rU (rU (rU (rU (rU st 9 x9) 10 x10) 11 x11) 15 x15) 16 x16) 17 x17) 18 x18) 25 x25) 26 x26) 27 x27) 28 x28) 29 x29) lg (rU (rU (rU (rU (rU (rU ai 7 f7) 8 f8) 20 f20) 21 f21) 22 f22) 23 f23) (rU al 19 g19) R9) t.heap) A) ([.ref (c 100)] : List Value).toArray s 0 0 A) (F0 m 0 ls []) := by
    intro H locs hP hS
    refine lv_aload_n hx hb dX8_open_0 rfl (lv_at hl 0 rfl) ?_
    refine va_get (D := (dC, dI)) (ci := 10) (v := .ref (c 102)) (C := RX8) (T := TX8) (N := 10) hx hb hts hin_X8 hown hK hP 0 rfl rfl 1 (by decide) (hts (.fieldLink RX8 22 "BlockLog" "disk" "LBlockLog$Disk;") (by decide +kernel)) (fun _ h9 => h9) rfl dX8_open_1 ?_
    refine va_getN (D := (dC, dI)) (ci := 3) (v := .int (st 9)) (C := RX1) (T := TX1) (N := 7) hx hb hts hin_X1 hown hK hP 2 rfl rfl 4 (by decide) (va_Nw.use rfl (hGW.1 ("BlockLog", 287, "BlockLog$Disk", "powered", "Z", "BlockLog") (by decide +kernel))) (fun _ h9 => h9) rfl dX8_open_4 ?_
    refine lv_if_eq (tgt := 18) hx hb dX8_open_7 (by decide) (fun c_1 => ?_) (fun c_1 => ?_)
    · skip
      have ic_1 := iv_eq c_1
      refine lv_aload_n hx hb dX8_open_18 rfl (lv_at hl 0 rfl) ?_
      refine va_get (D := (dC, dI)) (ci := 10) (v := .ref (c 104)) (C := RX8) (T := TX8) (N := 10) hx hb hts hin_X8 hown hK hP 0 rfl rfl 2 (by decide) (hts (.fieldLink RX8 31 "BlockLog" "rows" "LBlockLog$Rows;") (by decide +kernel)) (fun _ h9 => h9) rfl dX8_open_19 ?_
      have hFc := vfree ((cw_D hD : va_D A (cw_W c kc st lg ai al R)) : va_D A (cw_W c kc st lg ai al R)) hS hA
      refine va_calli (va_runV (As := []) (rest := []) ⟨hx, hb, hml, hown, hts⟩ (v_X4_choose l dC dI c kc st lg ai al R  _ (show 0 ≤ (st 15).toInt by omega) (show (st 15).toInt ≤ 1 by omega)) (cwV 0 hts gX8_open_X4_choose rfl rfl rfl (by decide +kernel) ⟨Nat.le_of_ble_eq_true rfl, Nat.le_of_ble_eq_true rfl⟩) ⟨fun a U g mk q => by obtain ⟨q0, q1, qP, qK, qD, qG⟩ := q; exact ⟨q0, q1, qP, va_K.moved (u := U) (U := U.calling g mk a) (Vm.Alike.refl U.vm) qK, qD, qG.same rfl rfl⟩, va_recv hK hP (ci := 6) (q := (RX4, TX4, 6)) rfl (q0 := 4) rfl, fun U hU hW => ⟨rfl, by rw [hU], by rw [hU]; exact hP, va_K.moved hW.alike hK, ((cw_D hD : va_D A (cw_W c kc st lg ai al R))).weaken (fun _ _ _ _ => trivial), hG.go hW hU hS hFc⟩⟩ rfl rfl hl.1 rfl (lv_room (Nat.le_of_ble_eq_true rfl)) dX8_open_22 ⟨Nat.le_of_ble_eq_true rfl, Nat.le_of_ble_eq_true rfl⟩) hS (fun q _ h => hFc q h) hFc (fun r_2 ur_2 t H1 locs ht hvm er_2 hB hz1 hk1 hS => ?_)
      subst er_2
      obtain ⟨x15_2, x16_2, k_3, k_4, k_5, k_6, hP1⟩ := hB
      rw [ht] at hP1
      clear hFc hz1 hk1 hvm hP
      subst ht
      have hP := hP1
      clear hP1
      generalize t.heap = H at hP hS ⊢
      have hP : va_P (dC, dI) vwCl (cw_W c kc (rU (rU st 15 x15_2) 16 x16_2) lg ai al R) H := hP
      have k_5 : 0 ≤ x15_2.toInt := k_5
      have k_6 : x15_2.toInt ≤ 1 := k_6
      rcases iv_01 (a := r_2) (by omega) (by omega) with b_7 | b_7
      · skip
        have ib_7 := iv_eq b_7
        rw [b_7]
        refine lv_if_ne (tgt := 31) hx hb dX8_open_25 (by decide) (fun c_8 => ?_) (fun c_8 => ?_)
        · skip
          have ic_8 := iv_ne c_8
          exfalso
          omega
        · skip
          have ic_8 := iv_eq c_8
          refine lv_bipush (v := (-5)) hx hb dX8_open_28 (by decide) ?_
          exact W.iret hx hb hr (fun t ht hW => ⟨⟨_, _, rfl, rfl, st 9, st 10, st 11, x15_2, x16_2, st 17, st 18, st 25, st 26, st 27, st 28, st 29, ai 7, ai 8, ai 20, ai 21, ai 22, ai 23, al 19, R, (by omega), (by omega), (by omega), (by omega), (by omega), (by omega), (by omega), (by omega), (by omega), (by omega), (by omega), (by omega), (by omega), (by omega), hR7, hR23, hPI, hmono, (cw_D hD), by rw [ht]; exact hP⟩, hS.F ht⟩) hS.2.2 dX8_open_30
      · skip
        have ib_7 := iv_eq b_7
        rw [b_7]
        refine lv_if_ne (tgt := 31) hx hb dX8_open_25 (by decide) (fun c_9 => ?_) (fun c_9 => ?_)
        · skip
          have ic_9 := iv_ne c_9
          refine lv_aload_n hx hb dX8_open_31 rfl (lv_at hl 0 rfl) ?_
          refine va_get (D := (dC, dI)) (ci := 10) (v := .ref (c 102)) (C := RX8) (T := TX8) (N := 10) hx hb hts hin_X8 hown hK hP 0 rfl rfl 1 (by decide) (hts (.fieldLink RX8 22 "BlockLog" "disk" "LBlockLog$Disk;") (by decide +kernel)) (fun _ h9 => h9) rfl dX8_open_32 ?_
          refine lv_iconst (v := 1) hx hb dX8_open_35 (by decide) ?_
          refine va_putN (D := (dC, dI)) (ci := 3) (v := .int (1 : Int32)) (ty := .boolean) (C := RX1) (T := TX1) (N := 7) hx hb hts hin_X1 tyX1 tyX1_ok nmX1 hown hK hP (cw_D hD) hS 2 rfl rfl 4 (by decide) (va_Nw.use rfl (hGW.1 ("BlockLog", 287, "BlockLog$Disk", "powered", "Z", "BlockLog") (by decide +kernel))) (fun _ h9 => h9) rfl (by decide +kernel) rfl rfl (Nat.le_of_ble_eq_true rfl) dX8_open_36 (fun H locs hP _ hS => ?_)
          have hP : va_P (dC, dI) vwCl (cw_W c kc (rU (rU (rU st 9 (1 : Int32)) 15 x15_2) 16 x16_2) lg ai al R) H := hP
          refine lv_aload_n hx hb dX8_open_39 rfl (lv_at hl 0 rfl) ?_
          have hFc := vfree ((cw_D hD : va_D A (cw_W c kc (rU (rU (rU st 9 (1 : Int32)) 15 x15_2) 16 x16_2) lg ai al R)) : va_D A (cw_W c kc (rU (rU (rU st 9 (1 : Int32)) 15 x15_2) 16 x16_2) lg ai al R)) hS hA
          refine va_calli (va_runV (As := []) (rest := []) ⟨hx, hb, hml, hown, hts⟩ (v_X8_recover l dC dI c kc (rU (rU (rU st 9 (1 : Int32)) 15 x15_2) 16 x16_2) lg ai al R cap num  _ hPI (show 0 ≤ (1 : Int32).toInt by decide) (show (1 : Int32).toInt ≤ 1 by decide) (show 0 ≤ (st 13).toInt by omega) (show (st 13).toInt ≤ 65536 by omega) (show 0 ≤ x15_2.toInt by omega) (show x15_2.toInt ≤ 1 by omega) (show 0 ≤ (st 17).toInt by omega) (show (st 17).toInt ≤ 128 by omega) (show aR (ai 7) 8224 (-128) 127 from hR7)) (cwV 0 hts gX8_open_X8_recover rfl rfl rfl (by decide +kernel) ⟨Nat.le_of_ble_eq_true rfl, Nat.le_of_ble_eq_true rfl⟩) ⟨fun a U g mk q => by obtain ⟨q0, q1, qP, qK, qD, qG⟩ := q; exact ⟨q0, q1, qP, va_K.moved (u := U) (U := U.calling g mk a) (Vm.Alike.refl U.vm) qK, qD, qG.same rfl rfl⟩, va_recv hK hP (ci := 10) (q := (RX8, TX8, 10)) rfl (q0 := 0) rfl, fun U hU hW => ⟨rfl, by rw [hU], by rw [hU]; exact hP, va_K.moved hW.alike hK, ((cw_D hD : va_D A (cw_W c kc (rU (rU (rU st 9 (1 : Int32)) 15 x15_2) 16 x16_2) lg ai al R))).weaken (fun _ _ _ _ => trivial), hG.go hW hU hS hFc⟩⟩ rfl rfl hl.1 rfl (lv_room (Nat.le_of_ble_eq_true rfl)) dX8_open_40 ⟨Nat.le_of_ble_eq_true rfl, Nat.le_of_ble_eq_true rfl⟩) hS (fun q _ h => hFc q h) hFc (fun r_10 ur_10 t H1 locs ht hvm er_10 hB hz1 hk1 hS => ?_)
          subst er_10
          obtain ⟨x9_10, x10_10, x11_10, x17_10, x18_10, f7_10, f8_10, R_10, k_11, k_12, k_13, k_14, k_15, k_16, hR7, hPI, hmo, hD1, hP1⟩ := hB
          rw [ht] at hP1
          clear hz1 hk1 hvm hP
          subst ht
          have hP := hP1
          clear hP1
          generalize t.heap = H at hP hS ⊢
          have hP : va_P (dC, dI) vwCl (cw_W c kc (rU (rU (rU (rU (rU (rU (rU st 9 x9_10) 10 x10_10) 11 x11_10) 15 x15_2) 16 x16_2) 17 x17_10) 18 x18_10) lg (rU (rU ai 7 f7_10) 8 f8_10) al R_10) H := hP
          have hD : va_D A (cw_W c kc st lg ai al R_10) := cw_D (hD1.weaken (fun _ _ _ h => hFc _ h))
          have hPI : PI (kc 98) (kc 0) (c 99) (st 13) cap num none R_10 := hPI
          clear hFc hD1
          have hmono : ∀ y m, pgM (kc 0) R y m → pgM (kc 0) R_10 y m := fun y m h => hmo y m (hmono y m h)
          have k_13 : 0 ≤ x9_10.toInt := k_13
          have k_14 : x9_10.toInt ≤ 1 := k_14
          have k_15 : 0 ≤ x17_10.toInt := k_15
          have k_16 : x17_10.toInt ≤ 128 := k_16
          have hR7 : aR f7_10 8224 (-128) 127 := hR7
          rcases iv_01 (a := r_10) (by omega) (by omega) with b_17 | b_17
          · skip
            have ib_17 := iv_eq b_17
            rw [b_17]
            refine lv_if_ne (tgt := 49) hx hb dX8_open_43 (by decide) (fun c_18 => ?_) (fun c_18 => ?_)
            · skip
              have ic_18 := iv_ne c_18
              exfalso
              omega
            · skip
              have ic_18 := iv_eq c_18
              refine lv_bipush (v := (-4)) hx hb dX8_open_46 (by decide) ?_
              exact W.iret hx hb hr (fun t ht hW => ⟨⟨_, _, rfl, rfl, x9_10, x10_10, x11_10, x15_2, x16_2, x17_10, x18_10, st 25, st 26, st 27, st 28, st 29, f7_10, f8_10, ai 20, ai 21, ai 22, ai 23, al 19, R_10, (by omega), (by omega), (by omega), (by omega), (by omega), (by omega), (by omega), (by omega), (by omega), (by omega), (by omega), (by omega), (by omega), (by omega), hR7, hR23, hPI, hmono, (cw_D hD), by rw [ht]; exact hP⟩, hS.F ht⟩) hS.2.2 dX8_open_48
          · skip
            have ib_17 := iv_eq b_17
            rw [b_17]
            refine lv_if_ne (tgt := 49) hx hb dX8_open_43 (by decide) (fun c_19 => ?_) (fun c_19 => ?_)
            · skip
              have ic_19 := iv_ne c_19
              refine lv_aload_n hx hb dX8_open_49 rfl (lv_at hl 0 rfl) ?_
              refine va_get (D := (dC, dI)) (ci := 10) (v := .ref (c 105)) (C := RX8) (T := TX8) (N := 10) hx hb hts hin_X8 hown hK hP 0 rfl rfl 3 (by decide) (hts (.fieldLink RX8 40 "BlockLog" "story" "LBlockLog$Story;") (by decide +kernel)) (fun _ h9 => h9) rfl dX8_open_50 ?_
              have hFc := vfree ((cw_D hD : va_D A (cw_W c kc (rU (rU (rU (rU (rU (rU (rU st 9 x9_10) 10 x10_10) 11 x11_10) 15 x15_2) 16 x16_2) 17 x17_10) 18 x18_10) lg (rU (rU ai 7 f7_10) 8 f8_10) al R_10)) : va_D A (cw_W c kc (rU (rU (rU (rU (rU (rU (rU st 9 x9_10) 10 x10_10) 11 x11_10) 15 x15_2) 16 x16_2) 17 x17_10) 18 x18_10) lg (rU (rU ai 7 f7_10) 8 f8_10) al R_10)) hS hA
              refine va_callv (va_runV (As := []) (rest := []) ⟨hx, hb, hml, hown, hts⟩ (v_X6_hearAnew l dC dI c kc (rU (rU (rU (rU (rU (rU (rU st 9 x9_10) 10 x10_10) 11 x11_10) 15 x15_2) 16 x16_2) 17 x17_10) 18 x18_10) lg (rU (rU ai 7 f7_10) 8 f8_10) al R_10  _ (show 0 ≤ x15_2.toInt by omega) (show x15_2.toInt ≤ 1 by omega) (show 0 ≤ x17_10.toInt by omega) (show x17_10.toInt ≤ 128 by omega) (show 0 ≤ (st 25).toInt by omega) (show (st 25).toInt ≤ 128 by omega) (show 0 ≤ (st 26).toInt by omega) (show (st 26).toInt ≤ 128 by omega) (show -1 ≤ (st 27).toInt by omega) (show (st 27).toInt ≤ 127 by omega) (show 0 ≤ (st 28).toInt by omega) (show (st 28).toInt ≤ 1 by omega) (show aR f7_10 8224 (-128) 127 from hR7) (show aR (ai 23) 128 (0) 127 from hR23)) (cwV 0 hts gX8_open_X6_hearAnew rfl rfl rfl (by decide +kernel) ⟨Nat.le_of_ble_eq_true rfl, Nat.le_of_ble_eq_true rfl⟩) ⟨fun a U g mk q => by obtain ⟨q0, q1, qP, qK, qD, qG⟩ := q; exact ⟨q0, q1, qP, va_K.moved (u := U) (U := U.calling g mk a) (Vm.Alike.refl U.vm) qK, qD, qG.same rfl rfl⟩, va_recv hK hP (ci := 8) (q := (RX6, TX6, 12)) rfl (q0 := 5) rfl, fun U hU hW => ⟨rfl, by rw [hU], by rw [hU]; exact hP, va_K.moved hW.alike hK, ((cw_D hD : va_D A (cw_W c kc (rU (rU (rU (rU (rU (rU (rU st 9 x9_10) 10 x10_10) 11 x11_10) 15 x15_2) 16 x16_2) 17 x17_10) 18 x18_10) lg (rU (rU ai 7 f7_10) 8 f8_10) al R_10))).weaken (fun _ _ _ _ => trivial), hG.go hW hU hS hFc⟩⟩ rfl rfl hl.1 rfl (lv_room (Nat.le_of_ble_eq_true rfl)) dX8_open_53 ⟨Nat.le_of_ble_eq_true rfl, Nat.le_of_ble_eq_true rfl⟩) hS (fun q _ h => hFc q h) hFc (fun ur_20 t H1 locs ht hvm er_20 hB hz1 hk1 hS => ?_)
              obtain ⟨x25_20, x26_20, x27_20, x28_20, x29_20, f20_20, f21_20, f22_20, f23_20, g19_20, k_21, k_22, k_23, k_24, k_25, k_26, k_27, k_28, hR23, hP1⟩ := hB
              rw [ht] at hP1
              clear hFc hz1 hk1 hvm hP
              subst ht
              have hP := hP1
              clear hP1
              generalize t.heap = H at hP hS ⊢
              have hP : va_P (dC, dI) vwCl (cw_W c kc (rU (rU (rU (rU (rU (rU (rU (rU (rU (rU (rU (rU st 9 x9_10) 10 x10_10) 11 x11_10) 15 x15_2) 16 x16_2) 17 x17_10) 18 x18_10) 25 x25_20) 26 x26_20) 27 x27_20) 28 x28_20) 29 x29_20) lg (rU (rU (rU (rU (rU (rU ai 7 f7_10) 8 f8_10) 20 f20_20) 21 f21_20) 22 f22_20) 23 f23_20) (rU al 19 g19_20) R_10) H := hP
              have k_21 : 0 ≤ x25_20.toInt := k_21
              have k_22 : x25_20.toInt ≤ 128 := k_22
              have k_23 : 0 ≤ x26_20.toInt := k_23
              have k_24 : x26_20.toInt ≤ 128 := k_24
              have k_25 : -1 ≤ x27_20.toInt := k_25
              have k_26 : x27_20.toInt ≤ 127 := k_26
              have k_27 : 0 ≤ x28_20.toInt := k_27
              have k_28 : x28_20.toInt ≤ 1 := k_28
              have hR23 : aR f23_20 128 (0) 127 := hR23
              refine lv_aload_n hx hb dX8_open_56 rfl (lv_at hl 0 rfl) ?_
              refine va_get (D := (dC, dI)) (ci := 10) (v := .ref (c 104)) (C := RX8) (T := TX8) (N := 10) hx hb hts hin_X8 hown hK hP 0 rfl rfl 2 (by decide) (hts (.fieldLink RX8 31 "BlockLog" "rows" "LBlockLog$Rows;") (by decide +kernel)) (fun _ h9 => h9) rfl dX8_open_57 ?_
              refine va_getN (D := (dC, dI)) (ci := 6) (v := .int x17_10) (C := RX4) (T := TX4) (N := 6) hx hb hts hin_X4 hown hK hP 4 rfl rfl 4 (by decide) (va_Nw.use rfl (hGW.1 ("BlockLog", 151, "BlockLog$Rows", "count", "I", "BlockLog") (by decide +kernel))) (fun _ h9 => h9) rfl dX8_open_60 ?_
              exact W.iret hx hb hr (fun t ht hW => ⟨⟨_, _, rfl, rfl, x9_10, x10_10, x11_10, x15_2, x16_2, x17_10, x18_10, x25_20, x26_20, x27_20, x28_20, x29_20, f7_10, f8_10, f20_20, f21_20, f22_20, f23_20, g19_20, R_10, (by omega), (by omega), (by omega), (by omega), (by omega), (by omega), (by omega), (by omega), (by omega), (by omega), (by omega), (by omega), (by omega), (by omega), hR7, hR23, hPI, hmono, (cw_D hD), by rw [ht]; exact hP⟩, hS.F ht⟩) hS.2.2 dX8_open_63
            · skip
              have ic_19 := iv_eq c_19
              exfalso
              omega
        · skip
          have ic_9 := iv_eq c_9
          exfalso
          omega
    · skip
      have ic_1 := iv_ne c_1
      refine lv_aload_n hx hb dX8_open_10 rfl (lv_at hl 0 rfl) ?_
      refine va_get (D := (dC, dI)) (ci := 10) (v := .ref (c 104)) (C := RX8) (T := TX8) (N := 10) hx hb hts hin_X8 hown hK hP 0 rfl rfl 2 (by decide) (hts (.fieldLink RX8 31 "BlockLog" "rows" "LBlockLog$Rows;") (by decide +kernel)) (fun _ h9 => h9) rfl dX8_open_11 ?_
      refine va_getN (D := (dC, dI)) (ci := 6) (v := .int (st 17)) (C := RX4) (T := TX4) (N := 6) hx hb hts hin_X4 hown hK hP 4 rfl rfl 4 (by decide) (va_Nw.use rfl (hGW.1 ("BlockLog", 151, "BlockLog$Rows", "count", "I", "BlockLog") (by decide +kernel))) (fun _ h9 => h9) rfl dX8_open_14 ?_
      exact W.iret hx hb hr (fun t ht hW => ⟨⟨_, _, rfl, rfl, st 9, st 10, st 11, st 15, st 16, st 17, st 18, st 25, st 26, st 27, st 28, st 29, ai 7, ai 8, ai 20, ai 21, ai 22, ai 23, al 19, R, (by omega), (by omega), (by omega), (by omega), (by omega), (by omega), (by omega), (by omega), (by omega), (by omega), (by omega), (by omega), (by omega), (by omega), hR7, hR23, hPI, hmono, (cw_D hD), by rw [ht]; exact hP⟩, hS.F ht⟩) hS.2.2 dX8_open_17
  exact main s.heap [] hP hS

set_option maxHeartbeats 4000000 in
set_option maxRecDepth 100000 in
theorem v_X8_prune (l : Launch) (hl0 : l.stackTraces = false) (dC : Nat → ClassId) (dI : Nat → Nat → Nat) (c : Nat → Nat) (kc : Nat → ClassId) (st : Nat → Int32) (lg : Nat → Int64) (ai : Nat → Nat → Int32) (al : Nat → Nat → Int64) (R : va_W) (cap : Nat) (num : Nat → Int32) (p0 : Int32) (sz : Nat) (hPI : PI (kc 98) (kc 0) (c 99) (st 13) cap num none R) (hf9a : 0 ≤ (st 9).toInt) (hf9b : (st 9).toInt ≤ 1) (hf13a : 0 ≤ (st 13).toInt) (hf13b : (st 13).toInt ≤ 65536) (hf15a : 0 ≤ (st 15).toInt) (hf15b : (st 15).toInt ≤ 1) (hf17a : 0 ≤ (st 17).toInt) (hf17b : (st 17).toInt ≤ 128) (hf25a : 0 ≤ (st 25).toInt) (hf25b : (st 25).toInt ≤ 128) (hf26a : 0 ≤ (st 26).toInt) (hf26b : (st 26).toInt ≤ 128) (hf27a : -1 ≤ (st 27).toInt) (hf27b : (st 27).toInt ≤ 127) (hf28a : 0 ≤ (st 28).toInt) (hf28b : (st 28).toInt ≤ 1) (hR7 : aR (ai 7) 8224 (-128) 127) (hR23 : aR (ai 23) 128 (0) 127) : vx_Met l yX8_prune wsX8_prune ({ frames := 7, cells := 2, slots := 12, locals := 147 }) (va_Pc [.ref (c 100), .int p0] (fun U => U.heap.size = sz ∧ va_P (dC, dI) vwCl (cw_W c kc st lg ai al R) U.heap ∧ va_K (dC, dI) vwCl (cw_T kc) U ∧ va_D (fun _ => True) (cw_W c kc st lg ai al R) ∧ gx_E (va_A (cw_W c kc st lg ai al R) sz) U)) (va_Qi (fun r (u : Int32) => r = u) (fun u t => ∃ (x9 : Int32) (x10 : Int32) (x11 : Int32) (x15 : Int32) (x16 : Int32) (x17 : Int32) (x25 : Int32) (x26 : Int32) (x27 : Int32) (x28 : Int32) (x29 : Int32) (f7 : Nat → Int32) (f8 : Nat → Int32) (f14 : Nat → Int32) (f20 : Nat → Int32) (f21 : Nat → Int32) (f22 : Nat → Int32) (f23 : Nat → Int32) (f30 : Nat → Int32) (g19 : Nat → Int64) (g24 : Nat → Int64) (R9 : va_W), (0 ≤ x9.toInt) ∧ (x9.toInt ≤ 1) ∧ (0 ≤ x15.toInt) ∧ (x15.toInt ≤ 1) ∧ (0 ≤ x17.toInt) ∧ (x17.toInt ≤ 128) ∧ (0 ≤ x25.toInt) ∧ (x25.toInt ≤ 128) ∧ (0 ≤ x26.toInt) ∧ (x26.toInt ≤ 128) ∧ (-1 ≤ x27.toInt) ∧ (x27.toInt ≤ 127) ∧ (0 ≤ x28.toInt) ∧ (x28.toInt ≤ 1) ∧ (aR f7 8224 (-128) 127) ∧ (aR f23 128 (0) 127) ∧ (PI (kc 98) (kc 0) (c 99) (st 13) cap num none R9) ∧ (∀ y m, pgM (kc 0) R y m → pgM (kc 0) R9 y m) ∧ (va_D (va_A (cw_W c kc st lg ai al R) sz) (cw_W c kc (rU (rU (rU (rU (rU (rU (rU (rU (rU (rU (rU st 9 x9) 10 x10) 11 x11) 15 x15) 16 x16) 17 x17) 25 x25) 26 x26) 27 x27) 28 x28) 29 x29) lg (rU (rU (rU (rU (rU (rU (rU (rU ai 7 f7) 8 f8) 14 f14) 20 f20) 21 f21) 22 f22) 23 f23) 30 f30) (rU (rU al 19 g19) 24 g24) R9)) ∧ va_P (dC, dI) vwCl (cw_W c kc (rU (rU (rU (rU (rU (rU (rU (rU (rU (rU (rU st 9 x9) 10 x10) 11 x11) 15 x15) 16 x16) 17 x17) 25 x25) 26 x26) 27 x27) 28 x28) 29 x29) lg (rU (rU (rU (rU (rU (rU (rU (rU ai 7 f7) 8 f8) 14 f14) 20 f20) 21 f21) 22 f22) 23 f23) 30 f30) (rU (rU al 19 g19) 24 g24) R9) t.heap) (va_A (cw_W c kc st lg ai al R) sz)) (vx_X (fun _ : Unit => True) (fun E _ t => E ∈ (["java/lang/IllegalArgumentException", "java/lang/IllegalStateException"] : List String) ∧ ∃ (x9 : Int32) (x10 : Int32) (x11 : Int32) (x15 : Int32) (x16 : Int32) (x17 : Int32) (x25 : Int32) (x26 : Int32) (x27 : Int32) (x28 : Int32) (x29 : Int32) (f7 : Nat → Int32) (f8 : Nat → Int32) (f14 : Nat → Int32) (f20 : Nat → Int32) (f21 : Nat → Int32) (f22 : Nat → Int32) (f23 : Nat → Int32) (f30 : Nat → Int32) (g19 : Nat → Int64) (g24 : Nat → Int64) (R9 : va_W), (0 ≤ x9.toInt) ∧ (x9.toInt ≤ 1) ∧ (0 ≤ x15.toInt) ∧ (x15.toInt ≤ 1) ∧ (0 ≤ x17.toInt) ∧ (x17.toInt ≤ 128) ∧ (0 ≤ x25.toInt) ∧ (x25.toInt ≤ 128) ∧ (0 ≤ x26.toInt) ∧ (x26.toInt ≤ 128) ∧ (-1 ≤ x27.toInt) ∧ (x27.toInt ≤ 127) ∧ (0 ≤ x28.toInt) ∧ (x28.toInt ≤ 1) ∧ (aR f7 8224 (-128) 127) ∧ (aR f23 128 (0) 127) ∧ (PI (kc 98) (kc 0) (c 99) (st 13) cap num none R9) ∧ (∀ y m, pgM (kc 0) R y m → pgM (kc 0) R9 y m) ∧ (va_D (va_A (cw_W c kc st lg ai al R) sz) (cw_W c kc (rU (rU (rU (rU (rU (rU (rU (rU (rU (rU (rU st 9 x9) 10 x10) 11 x11) 15 x15) 16 x16) 17 x17) 25 x25) 26 x26) 27 x27) 28 x28) 29 x29) lg (rU (rU (rU (rU (rU (rU (rU (rU ai 7 f7) 8 f8) 14 f14) 20 f20) 21 f21) 22 f22) 23 f23) 30 f30) (rU (rU al 19 g19) 24 g24) R9)) ∧ va_P (dC, dI) vwCl (cw_W c kc (rU (rU (rU (rU (rU (rU (rU (rU (rU (rU (rU st 9 x9) 10 x10) 11 x11) 15 x15) 16 x16) 17 x17) 25 x25) 26 x26) 27 x27) 28 x28) 29 x29) lg (rU (rU (rU (rU (rU (rU (rU (rU ai 7 f7) 8 f8) 14 f14) 20 f20) 21 f21) 22 f22) 23 f23) 30 f30) (rU (rU al 19 g19) 24 g24) R9) t.heap) (va_A (cw_W c kc st lg ai al R) sz)) 2 12 (va_A (cw_W c kc st lg ai al R) sz) := by
  refine vx_ofW (cc := cX8_prune) (maxL := 2) (ret := (some .int)) (by decide) rfl ?_
  intro p e s m args below meth cM s₁ B hml hno hv
  obtain ⟨rfl, hsz, hP, hK, hD0, hG⟩ := hv
  have hx := B.exec
  have hb := B.bytes
  have hr := B.returns
  have hts := atoms_spec (ws := wsX8_prune) B.pre
  have hown : s.vm.findClass RX8 = some m.cls := findClass_of_methodNamed B.named
  have hGW := hG.1
  have hlocks := B.notSynchronized
  subst hsz
  have hD := hD0.self (sz := s.heap.size)
  generalize hAe : va_A (cw_W c kc st lg ai al R) s.heap.size = A at hD hG ⊢
  have hA : ∀ q : Nat, s.heap.size ≤ q → A q := fun q h => by rw [← hAe]; exact Or.inr h
  have hS : va_S A s.heap s.heap [] := va_S.rf
  clear hAe hD0
  have hl := lv_entry ([.ref (c 100), .int p0]) (n := 2) (Nat.le_of_ble_eq_true rfl)
  rw [lg_entry_eq]
  generalize (lg_sl ([.ref (c 100), .int p0]) ++ List.replicate (2 - (lg_sl ([.ref (c 100), .int p0])).length) Slot.unset).toArray = ls at hl ⊢
  have hl : lv_has ls 2 [(0, .ref (c 100)), (1, .int p0)] := hl
  have z_m4 : (-4 : Int32).toInt = -4 := by decide
  have z_m3 : (-3 : Int32).toInt = -3 := by decide
  have z_m2 : (-2 : Int32).toInt = -2 := by decide
  have z_0 : (0 : Int32).toInt = 0 := by decide
  have z_1 : (1 : Int32).toInt = 1 := by decide
  have z_128 : (128 : Int32).toInt = 128 := by decide
  have hin_X4 : ∀ w ∈ u_ws RX4 TX4 6, w ∈ wsX8_prune := by decide +kernel
  have hin_X6 : ∀ w ∈ u_ws RX6 TX6 12, w ∈ wsX8_prune := by decide +kernel
  have hin_X8 : ∀ w ∈ u_ws RX8 TX8 10, w ∈ wsX8_prune := by decide +kernel
  have hmono : ∀ y m, pgM (kc 0) R y m → pgM (kc 0) R y m := fun y m h => h
  have main : ∀ (H : Heap) (locs : List Loc), va_P (dC, dI) vwCl (cw_W c kc st lg ai al R) H → va_S A s.heap H locs → W p l e (headSpec wsX8_prune ({ frames := 7, cells := 2, slots := 12, locals := 147 })).room s m ([.ref (c 100), .int p0] : List Value).toArray below meth cM H locs 0 0 (vx_MQ below (va_Qi (fun r (u : Int32) => r = u) (fun u t => ∃ (x9 : Int32) (x10 : Int32) (x11 : Int32) (x15 : Int32) (x16 : Int32) (x17 : Int32) (x25 : Int32) (x26 : Int32) (x27 : Int32) (x28 : Int32) (x29 : Int32) (f7 : Nat → Int32) (f8 : Nat → Int32) (f14 : Nat → Int32) (f20 : Nat → Int32) (f21 : Nat → Int32) (f22 : Nat → Int32) (f23 : Nat → Int32) (f30 : Nat → Int32) (g19 : Nat → Int64) (g24 : Nat → Int64) (R9 : va_W), (0 ≤ x9.toInt) ∧ (x9.toInt ≤ 1) ∧ (0 ≤ x15.toInt) ∧ (x15.toInt ≤ 1) ∧ (0 ≤ x17.toInt) ∧ (x17.toInt ≤ 128) ∧ (0 ≤ x25.toInt) ∧ (x25.toInt ≤ 128) ∧ (0 ≤ x26.toInt) ∧ (x26.toInt ≤ 128) ∧ (-1 ≤ x27.toInt) ∧ (x27.toInt ≤ 127) ∧ (0 ≤ x28.toInt) ∧ (x28.toInt ≤ 1) ∧ (aR f7 8224 (-128) 127) ∧ (aR f23 128 (0) 127) ∧ (PI (kc 98) (kc 0) (c 99) (st 13) cap num none R9) ∧ (∀ y m, pgM (kc 0) R y m → pgM (kc 0) R9 y m) ∧ (va_D A (cw_W c kc (rU (rU (rU (rU (rU (rU (rU (rU (rU (rU (rU st 9 x9) 10 x10) 11 x11) 15 x15) 16 x16) 17 x17) 25 x25) 26 x26) 27 x27) 28 x28) 29 x29) lg (rU (rU (rU (rU (rU (rU (rU (rU ai 7 f7) 8 f8) 14 f14) 20 f20) 21 f21) 22 f22) 23 f23) 30 f30) (rU (rU al 19 g19) 24 g24) R9)) ∧ va_P (dC, dI) vwCl (cw_W c kc (rU (rU (rU (rU (rU (rU (rU (rU (rU (rU (rU st 9 x9) 10 x10) 11 x11) 15 x15) 16 x16) 17 x17) 25 x25) 26 x26) 27 x27) 28 x28) 29 x29) lg (rU (rU (rU (rU (rU (rU (rU (rU ai 7 f7) 8 f8) 14 f14) 20 f20) 21 f21) 22 f22) 23 f23) 30 f30) (rU (rU al 19 g19) 24 g24) R9) t.heap) A) (vx_X (fun _ : Unit => True) (fun E _ t => E ∈ (["java/lang/IllegalArgumentException", "java/lang/IllegalStateException"] : List String) ∧ ∃ (x9 : Int32) (x10 : Int32) (x11 : Int32) (x15 : Int32) (x16 : Int32) (x17 : Int32) (x25 : Int32) (x26 : Int32) (x27 : Int32) (x28 : Int32) (x29 : Int32) (f7 : Nat → Int32) (f8 : Nat → Int32) (f14 : Nat → Int32) (f20 : Nat → Int32) (f21 : Nat → Int32) (f22 : Nat → Int32) (f23 : Nat → Int32) (f30 : Nat → Int32) (g19 : Nat → Int64) (g24 : Nat → Int64) (R9 : va_W), (0 ≤ x9.toInt) ∧ (x9.toInt ≤ 1) ∧ (0 ≤ x15.toInt) ∧ (x15.toInt ≤ 1) ∧ (0 ≤ x17.toInt) ∧ (x17.toInt ≤ 128) ∧ (0 ≤ x25.toInt) ∧ (x25.toInt ≤ 128) ∧ (0 ≤ x26.toInt) ∧ (x26.toInt ≤ 128) ∧ (-1 ≤ x27.toInt) ∧ (x27.toInt ≤ 127) ∧ (0 ≤ x28.toInt) ∧ (x28.toInt ≤ 1) ∧ (aR f7 8224 (-128) 127) ∧ (aR f23 128 (0) 127) ∧ (PI (kc 98) (kc 0) (c 99) (st 13) cap num none R9) ∧ (∀ y m, pgM (kc 0) R y m → pgM (kc 0) R9 y m) ∧ (va_D A (cw_W c kc (rU (rU (rU (rU (rU (rU (rU (rU (rU (rU (rU st 9 x9) 10 x10) 11 x11) 15 x15) 16 x16) 17 x17) 25 x25) 26 x26) 27 x27) 28 x28) 29 x29) lg (rU (rU (rU (rU (rU (rU (rU (rU ai 7 f7) 8 f8) 14 f14) 20 f20) 21 f21) 22 f22) 23 f23) 30 f30) (rU (rU al 19 g19) 24 g24) R9)) ∧ va_P (dC, dI) vwCl (cw_W c kc (rU (rU (rU (rU (rU (rU (rU (rU (rU (rU (rU st 9 x9) 10 x10) 11 x11) 15 x15) 16 x16) 17 x17) 25 x25) 26 x26) 27 x27) 28 x28) 29 x29) lg (rU (rU (rU (rU (rU (rU (rU (rU ai 7 f7) 8 f8) 14 f14) 20 f20) 21 f21) 22 f22) 23 f23) 30 f30) (rU (rU al 19 g19) 24 g24) R9) t.heap) A) ([.ref (c 100), .int p0] : List Value).toArray s 2 12 A) (F0 m 0 ls []) := by
    intro H locs hP hS
    refine lv_aload_n hx hb dX8_prune_0 rfl (lv_at hl 0 rfl) ?_
    have hFc := vfree ((cw_D hD : va_D A (cw_W c kc st lg ai al R)) : va_D A (cw_W c kc st lg ai al R)) hS hA
    refine vx_callv (vx_runV (As := []) (rest := []) ⟨hx, hb, hml, hown, hts⟩ (v_X8_demandPower l hl0 dC dI c kc st lg ai al R  _ (show 0 ≤ (st 9).toInt by omega) (show (st 9).toInt ≤ 1 by omega)) (cwV 0 hts gX8_prune_X8_demandPower rfl rfl rfl (by decide +kernel) ⟨Nat.le_of_ble_eq_true rfl, Nat.le_of_ble_eq_true rfl⟩) ⟨fun a U g mk q => by obtain ⟨q0, q1, qP, qK, qD, qG⟩ := q; exact ⟨q0, q1, qP, va_K.moved (u := U) (U := U.calling g mk a) (Vm.Alike.refl U.vm) qK, qD, qG.same rfl rfl⟩, va_recv hK hP (ci := 10) (q := (RX8, TX8, 10)) rfl (q0 := 0) rfl, fun U hU hW => ⟨rfl, by rw [hU], by rw [hU]; exact hP, va_K.moved hW.alike hK, ((cw_D hD : va_D A (cw_W c kc st lg ai al R))).weaken (fun _ _ _ _ => trivial), hG.go hW hU hS hFc⟩⟩ rfl rfl hl.1 rfl (lv_room (Nat.le_of_ble_eq_true rfl)) dX8_prune_1 ⟨Nat.le_of_ble_eq_true rfl, Nat.le_of_ble_eq_true rfl⟩) hS (fun q _ h => hFc q h) hFc (fun q _ h => hFc q h) (fun E9 ce q9 u t H1 locs ht hvm hp hE hz hk hS hcell hv hcl => ?_) (fun ur_1 t H1 locs ht hvm er_1 hB hz1 hk1 hS => ?_)
    · skip
      obtain ⟨hE, hP1⟩ := hE
      rw [ht] at hP1
      have hP : va_P (dC, dI) vwCl (cw_W c kc st lg ai al R) H1 := hP1
      exact vx_out (fun x h => (hno x h).elim) hlocks hcell hv hcl (fun t ht hW => ⟨(), trivial, ⟨(show ∀ x ∈ (["java/lang/IllegalStateException"] : List String), x ∈ (["java/lang/IllegalArgumentException", "java/lang/IllegalStateException"] : List String) by decide +kernel) _ hE, st 9, st 10, st 11, st 15, st 16, st 17, st 25, st 26, st 27, st 28, st 29, ai 7, ai 8, ai 14, ai 20, ai 21, ai 22, ai 23, ai 30, al 19, al 24, R, (by omega), (by omega), (by omega), (by omega), (by omega), (by omega), (by omega), (by omega), (by omega), (by omega), (by omega), (by omega), (by omega), (by omega), hR7, hR23, hPI, hmono, (cw_D hD), by rw [ht]; exact hP⟩, hS.F ht⟩) hS.2.2 (Nat.le_of_ble_eq_true rfl) (Nat.le_of_ble_eq_true rfl)
    · skip
      have hP1 : va_P (dC, dI) vwCl (cw_W c kc st lg ai al R) t.heap := hB
      rw [ht] at hP1
      clear hFc hz1 hk1 hvm hP
      subst ht
      have hP := hP1
      clear hP1
      generalize t.heap = H at hP hS ⊢
      have hP : va_P (dC, dI) vwCl (cw_W c kc st lg ai al R) H := hP
      refine lv_aload_n hx hb dX8_prune_4 rfl (lv_at hl 0 rfl) ?_
      refine va_get (D := (dC, dI)) (ci := 10) (v := .ref (c 104)) (C := RX8) (T := TX8) (N := 10) hx hb hts hin_X8 hown hK hP 0 rfl rfl 2 (by decide) (hts (.fieldLink RX8 31 "BlockLog" "rows" "LBlockLog$Rows;") (by decide +kernel)) (fun _ h9 => h9) rfl dX8_prune_5 ?_
      refine vp_callSi (va_Run.run (va_runV (As := []) (rest := []) ⟨hx, hb, hml, hown, hts⟩ (v_X4_inNeed l dC dI c kc st lg ai al R  ) (cwV 0 hts gX8_prune_X4_inNeed rfl rfl rfl (by decide +kernel) ⟨Nat.le_of_ble_eq_true rfl, Nat.le_of_ble_eq_true rfl⟩) ⟨fun a U g mk q => by obtain ⟨q0, qP, qK⟩ := q; exact ⟨q0, qP, va_K.moved (u := U) (U := U.calling g mk a) (Vm.Alike.refl U.vm) qK⟩, va_recv hK hP (ci := 6) (q := (RX4, TX4, 6)) rfl (q0 := 4) rfl, fun U hU hW => ⟨rfl, by rw [hU]; exact hP, va_K.moved hW.alike hK⟩⟩ rfl rfl hl.1 rfl (lv_room (Nat.le_of_ble_eq_true rfl)) dX8_prune_8 ⟨Nat.le_of_ble_eq_true rfl, Nat.le_of_ble_eq_true rfl⟩)) (fun r_2 er_2 => ?_)
      obtain ⟨k_3, k_4⟩ := er_2
      rcases iv_01 (a := r_2) (by omega) (by omega) with b_5 | b_5
      · skip
        have ib_5 := iv_eq b_5
        rw [b_5]
        refine lv_if_eq (tgt := 17) hx hb dX8_prune_11 (by decide) (fun c_6 => ?_) (fun c_6 => ?_)
        · skip
          have ic_6 := iv_eq c_6
          refine lv_iload_n hx hb dX8_prune_17 rfl (lv_at hl 1 rfl) ?_
          refine lv_aload_n hx hb dX8_prune_18 rfl (lv_at hl 0 rfl) ?_
          refine va_get (D := (dC, dI)) (ci := 10) (v := .ref (c 105)) (C := RX8) (T := TX8) (N := 10) hx hb hts hin_X8 hown hK hP 0 rfl rfl 3 (by decide) (hts (.fieldLink RX8 40 "BlockLog" "story" "LBlockLog$Story;") (by decide +kernel)) (fun _ h9 => h9) rfl dX8_prune_19 ?_
          refine va_getN (D := (dC, dI)) (ci := 8) (v := .int (st 29)) (C := RX6) (T := TX6) (N := 12) hx hb hts hin_X6 hown hK hP 5 rfl rfl 11 (by decide) (va_Nw.use rfl (hGW.1 ("BlockLog", 207, "BlockLog$Story", "baseHeight", "I", "BlockLog") (by decide +kernel))) (fun _ h9 => h9) rfl dX8_prune_22 ?_
          refine lv_icmp_le (tgt := 39) hx hb dX8_prune_25 (by decide) (fun c_7 => ?_) (fun c_7 => ?_)
          · skip
            have ic_7 := iv_le c_7
            obtain ⟨sa, hstr⟩ := hGW.2.1 ("BlockLog", 241, "the height is not above THE BASE'S, or above the last version's") (by decide +kernel)
            exact vx_throwS (names := ["java/lang/RuntimeException", "java/lang/Exception"]) hx hb hl0 hown (by decide +kernel) (by decide +kernel) (hts (.classLink RX8 76 "java/lang/IllegalArgumentException") (by decide +kernel)) (hts (.initialized "java/lang/IllegalArgumentException") (by decide +kernel)) hstr (vx_hat (B := gx_bad "java/lang/IllegalArgumentException") (fun w h => hts w (List.mem_cons_of_mem _ (List.mem_append_left _ (List.mem_append_right _ h)))) (by decide +kernel) (hGW.bad (by decide))) (by decide +kernel) hG.2.1 hG.2.2.1 hS (hl.1.trans hml.symm) dX8_prune_39 dX8_prune_42 dX8_prune_43 dX8_prune_45 dX8_prune_48 (fun x h => (hno x h).elim) (Nat.le_of_ble_eq_true rfl) (Nat.le_of_ble_eq_true rfl) (Nat.le_of_ble_eq_true rfl) (Nat.le_of_ble_eq_true rfl) hlocks (fun t _ h1 h2 => ⟨(), trivial, ⟨(by decide +kernel), st 9, st 10, st 11, st 15, st 16, st 17, st 25, st 26, st 27, st 28, st 29, ai 7, ai 8, ai 14, ai 20, ai 21, ai 22, ai 23, ai 30, al 19, al 24, R, (by omega), (by omega), (by omega), (by omega), (by omega), (by omega), (by omega), (by omega), (by omega), (by omega), (by omega), (by omega), (by omega), (by omega), hR7, hR23, hPI, hmono, (cw_D hD), hP.kept (fun k q hk => h2 _ (hP k q hk).lt)⟩, Nat.le_trans hS.1 h1, fun q hq hn => (h2 q (Nat.lt_of_lt_of_le hq hS.1)).trans (hS.2.1 q hq hn)⟩) hS.2.2 (Nat.le_of_ble_eq_true rfl) (Nat.le_of_ble_eq_true rfl)
          · skip
            have ic_7 := iv_nle c_7
            refine lv_iload_n hx hb dX8_prune_28 rfl (lv_at hl 1 rfl) ?_
            refine lv_aload_n hx hb dX8_prune_29 rfl (lv_at hl 0 rfl) ?_
            refine va_get (D := (dC, dI)) (ci := 10) (v := .ref (c 105)) (C := RX8) (T := TX8) (N := 10) hx hb hts hin_X8 hown hK hP 0 rfl rfl 3 (by decide) (hts (.fieldLink RX8 40 "BlockLog" "story" "LBlockLog$Story;") (by decide +kernel)) (fun _ h9 => h9) rfl dX8_prune_30 ?_
            refine vp_callSi (va_Run.run (va_runV (As := []) (rest := [.int p0]) ⟨hx, hb, hml, hown, hts⟩ (v_X6_lastVersion l dC dI c kc st lg ai al R  (show 0 ≤ (st 26).toInt by omega) (show (st 26).toInt ≤ 128 by omega)) (cwV 0 hts gX8_prune_X6_lastVersion rfl rfl rfl (by decide +kernel) ⟨Nat.le_of_ble_eq_true rfl, Nat.le_of_ble_eq_true rfl⟩) ⟨fun a U g mk q => by obtain ⟨q0, qP, qK⟩ := q; exact ⟨q0, qP, va_K.moved (u := U) (U := U.calling g mk a) (Vm.Alike.refl U.vm) qK⟩, va_recv hK hP (ci := 8) (q := (RX6, TX6, 12)) rfl (q0 := 5) rfl, fun U hU hW => ⟨rfl, by rw [hU]; exact hP, va_K.moved hW.alike hK⟩⟩ rfl rfl hl.1 rfl (lv_room (Nat.le_of_ble_eq_true rfl)) dX8_prune_33 ⟨Nat.le_of_ble_eq_true rfl, Nat.le_of_ble_eq_true rfl⟩)) (fun r_8 er_8 => ?_)
            refine lv_icmp_le (tgt := 49) hx hb dX8_prune_36 (by decide) (fun c_9 => ?_) (fun c_9 => ?_)
            · skip
              have ic_9 := iv_le c_9
              refine lv_aload_n hx hb dX8_prune_49 rfl (lv_at hl 0 rfl) ?_
              refine va_get (D := (dC, dI)) (ci := 10) (v := .ref (c 106)) (C := RX8) (T := TX8) (N := 10) hx hb hts hin_X8 hown hK hP 0 rfl rfl 4 (by decide) (hts (.fieldLink RX8 49 "BlockLog" "pruning" "LBlockLog$Pruning;") (by decide +kernel)) (fun _ h9 => h9) rfl dX8_prune_50 ?_
              refine lv_iload_n hx hb dX8_prune_53 rfl (lv_at hl 1 rfl) ?_
              have hFc := vfree ((cw_D hD : va_D A (cw_W c kc st lg ai al R)) : va_D A (cw_W c kc st lg ai al R)) hS hA
              refine va_calli (va_runV (As := [.int p0]) (rest := []) ⟨hx, hb, hml, hown, hts⟩ (v_X3_mark l dC dI c kc st lg ai al R p0 _ (show 0 ≤ (st 15).toInt by omega) (show (st 15).toInt ≤ 1 by omega) (show 0 ≤ (st 17).toInt by omega) (show (st 17).toInt ≤ 128 by omega) (show 0 ≤ (st 25).toInt by omega) (show (st 25).toInt ≤ 128 by omega) (show 0 ≤ (st 26).toInt by omega) (show (st 26).toInt ≤ 128 by omega) (show -1 ≤ (st 27).toInt by omega) (show (st 27).toInt ≤ 127 by omega) (show 0 ≤ (st 28).toInt by omega) (show (st 28).toInt ≤ 1 by omega) (show aR (ai 23) 128 (0) 127 from hR23)) (cwV 1 hts gX8_prune_X3_mark rfl rfl rfl (by decide +kernel) ⟨Nat.le_of_ble_eq_true rfl, Nat.le_of_ble_eq_true rfl⟩) ⟨fun a U g mk q => by obtain ⟨q0, q1, qP, qK, qD, qG⟩ := q; exact ⟨q0, q1, qP, va_K.moved (u := U) (U := U.calling g mk a) (Vm.Alike.refl U.vm) qK, qD, qG.same rfl rfl⟩, va_recv hK hP (ci := 5) (q := (RX3, TX3, 4)) rfl (q0 := 6) rfl, fun U hU hW => ⟨rfl, by rw [hU], by rw [hU]; exact hP, va_K.moved hW.alike hK, ((cw_D hD : va_D A (cw_W c kc st lg ai al R))).weaken (fun _ _ _ _ => trivial), hG.go hW hU hS hFc⟩⟩ rfl rfl hl.1 rfl (lv_room (Nat.le_of_ble_eq_true rfl)) dX8_prune_54 ⟨Nat.le_of_ble_eq_true rfl, Nat.le_of_ble_eq_true rfl⟩) hS (fun q _ h => hFc q h) hFc (fun r_10 ur_10 t H1 locs ht hvm er_10 hB hz1 hk1 hS => ?_)
              subst er_10
              obtain ⟨f30_10, g24_10, hmk, hP1⟩ := hB
              rw [ht] at hP1
              clear hFc hz1 hk1 hvm hP
              subst ht
              have hP := hP1
              clear hP1
              generalize t.heap = H at hP hS ⊢
              have hP : va_P (dC, dI) vwCl (cw_W c kc st lg (rU ai 30 f30_10) (rU al 24 g24_10) R) H := hP
              have hmk : r_10.toInt = 1 + (cntL g24_10 16 : Int) + (cntZ f30_10 (st 17).toInt.toNat : Int) := hmk
              refine lv_sipush (v := 128) hx hb dX8_prune_57 (by decide) ?_
              refine lv_icmp_le (tgt := 66) hx hb dX8_prune_60 (by decide) (fun c_11 => ?_) (fun c_11 => ?_)
              · skip
                have ic_11 := iv_le c_11
                refine lv_aload_n hx hb dX8_prune_66 rfl (lv_at hl 0 rfl) ?_
                refine va_get (D := (dC, dI)) (ci := 10) (v := .ref (c 106)) (C := RX8) (T := TX8) (N := 10) hx hb hts hin_X8 hown hK hP 0 rfl rfl 4 (by decide) (hts (.fieldLink RX8 49 "BlockLog" "pruning" "LBlockLog$Pruning;") (by decide +kernel)) (fun _ h9 => h9) rfl dX8_prune_67 ?_
                refine lv_iload_n hx hb dX8_prune_70 rfl (lv_at hl 1 rfl) ?_
                have hFc := vfree ((cw_D hD : va_D A (cw_W c kc st lg (rU ai 30 f30_10) (rU al 24 g24_10) R)) : va_D A (cw_W c kc st lg (rU ai 30 f30_10) (rU al 24 g24_10) R)) hS hA
                refine va_calli (va_runV (As := [.int p0]) (rest := []) ⟨hx, hb, hml, hown, hts⟩ (v_X3_move l dC dI c kc st lg (rU ai 30 f30_10) (rU al 24 g24_10) R p0 _ (show 0 ≤ (st 9).toInt by omega) (show (st 9).toInt ≤ 1 by omega) (show 0 ≤ (st 15).toInt by omega) (show (st 15).toInt ≤ 1 by omega) (show 0 ≤ (st 17).toInt by omega) (show (st 17).toInt ≤ 128 by omega) (show 0 ≤ (st 26).toInt by omega) (show (st 26).toInt ≤ 128 by omega) (show 0 ≤ (st 28).toInt by omega) (show (st 28).toInt ≤ 1 by omega) (show aR (ai 7) 8224 (-128) 127 from hR7) (show aR (ai 23) 128 (0) 127 from hR23) (show 1 + (cntL g24_10 16 : Int) + (cntZ f30_10 (st 17).toInt.toNat : Int) ≤ 128 from (by omega))) (cwV 1 hts gX8_prune_X3_move rfl rfl rfl (by decide +kernel) ⟨Nat.le_of_ble_eq_true rfl, Nat.le_of_ble_eq_true rfl⟩) ⟨fun a U g mk q => by obtain ⟨q0, q1, qP, qK, qD, qG⟩ := q; exact ⟨q0, q1, qP, va_K.moved (u := U) (U := U.calling g mk a) (Vm.Alike.refl U.vm) qK, qD, qG.same rfl rfl⟩, va_recv hK hP (ci := 5) (q := (RX3, TX3, 4)) rfl (q0 := 6) rfl, fun U hU hW => ⟨rfl, by rw [hU], by rw [hU]; exact hP, va_K.moved hW.alike hK, ((cw_D hD : va_D A (cw_W c kc st lg (rU ai 30 f30_10) (rU al 24 g24_10) R))).weaken (fun _ _ _ _ => trivial), hG.go hW hU hS hFc⟩⟩ rfl rfl hl.1 rfl (lv_room (Nat.le_of_ble_eq_true rfl)) dX8_prune_71 ⟨Nat.le_of_ble_eq_true rfl, Nat.le_of_ble_eq_true rfl⟩) hS (fun q _ h => hFc q h) hFc (fun r_12 ur_12 t H1 locs ht hvm er_12 hB hz1 hk1 hS => ?_)
                subst er_12
                obtain ⟨x9_12, x10_12, x11_12, x15_12, x16_12, x17_12, f7_12, f8_12, f14_12, k_13, k_14, k_15, k_16, k_17, k_18, k_19, k_20, hR7, hP1⟩ := hB
                rw [ht] at hP1
                clear hFc hz1 hk1 hvm hP
                subst ht
                have hP := hP1
                clear hP1
                generalize t.heap = H at hP hS ⊢
                have hP : va_P (dC, dI) vwCl (cw_W c kc (rU (rU (rU (rU (rU (rU st 9 x9_12) 10 x10_12) 11 x11_12) 15 x15_12) 16 x16_12) 17 x17_12) lg (rU (rU (rU (rU ai 7 f7_12) 8 f8_12) 14 f14_12) 30 f30_10) (rU al 24 g24_10) R) H := hP
                have k_15 : 0 ≤ x9_12.toInt := k_15
                have k_16 : x9_12.toInt ≤ 1 := k_16
                have k_17 : 0 ≤ x15_12.toInt := k_17
                have k_18 : x15_12.toInt ≤ 1 := k_18
                have k_19 : 0 ≤ x17_12.toInt := k_19
                have k_20 : x17_12.toInt ≤ 128 := k_20
                have hR7 : aR f7_12 8224 (-128) 127 := hR7
                rcases iv_01 (a := r_12) (by omega) (by omega) with b_21 | b_21
                · skip
                  have ib_21 := iv_eq b_21
                  rw [b_21]
                  refine lv_if_ne (tgt := 80) hx hb dX8_prune_74 (by decide) (fun c_22 => ?_) (fun c_22 => ?_)
                  · skip
                    have ic_22 := iv_ne c_22
                    exfalso
                    omega
                  · skip
                    have ic_22 := iv_eq c_22
                    refine lv_bipush (v := (-4)) hx hb dX8_prune_77 (by decide) ?_
                    refine W.widen (k := 2) (n := 12) (Nat.le_of_ble_eq_true rfl) (Nat.le_of_ble_eq_true rfl) ?_
                    refine vx_ret ?_
                    exact W.iret hx hb hr (fun t ht hW => ⟨⟨_, _, rfl, rfl, x9_12, x10_12, x11_12, x15_12, x16_12, x17_12, st 25, st 26, st 27, st 28, st 29, f7_12, f8_12, f14_12, ai 20, ai 21, ai 22, ai 23, f30_10, al 19, g24_10, R, (by omega), (by omega), (by omega), (by omega), (by omega), (by omega), (by omega), (by omega), (by omega), (by omega), (by omega), (by omega), (by omega), (by omega), hR7, hR23, hPI, hmono, (cw_D hD), by rw [ht]; exact hP⟩, hS.F ht⟩) hS.2.2 dX8_prune_79
                · skip
                  have ib_21 := iv_eq b_21
                  rw [b_21]
                  refine lv_if_ne (tgt := 80) hx hb dX8_prune_74 (by decide) (fun c_23 => ?_) (fun c_23 => ?_)
                  · skip
                    have ic_23 := iv_ne c_23
                    refine lv_aload_n hx hb dX8_prune_80 rfl (lv_at hl 0 rfl) ?_
                    refine va_get (D := (dC, dI)) (ci := 10) (v := .ref (c 105)) (C := RX8) (T := TX8) (N := 10) hx hb hts hin_X8 hown hK hP 0 rfl rfl 3 (by decide) (hts (.fieldLink RX8 40 "BlockLog" "story" "LBlockLog$Story;") (by decide +kernel)) (fun _ h9 => h9) rfl dX8_prune_81 ?_
                    have hFc := vfree ((cw_D hD : va_D A (cw_W c kc (rU (rU (rU (rU (rU (rU st 9 x9_12) 10 x10_12) 11 x11_12) 15 x15_12) 16 x16_12) 17 x17_12) lg (rU (rU (rU (rU ai 7 f7_12) 8 f8_12) 14 f14_12) 30 f30_10) (rU al 24 g24_10) R)) : va_D A (cw_W c kc (rU (rU (rU (rU (rU (rU st 9 x9_12) 10 x10_12) 11 x11_12) 15 x15_12) 16 x16_12) 17 x17_12) lg (rU (rU (rU (rU ai 7 f7_12) 8 f8_12) 14 f14_12) 30 f30_10) (rU al 24 g24_10) R)) hS hA
                    refine va_callv (va_runV (As := []) (rest := []) ⟨hx, hb, hml, hown, hts⟩ (v_X6_hearAnew l dC dI c kc (rU (rU (rU (rU (rU (rU st 9 x9_12) 10 x10_12) 11 x11_12) 15 x15_12) 16 x16_12) 17 x17_12) lg (rU (rU (rU (rU ai 7 f7_12) 8 f8_12) 14 f14_12) 30 f30_10) (rU al 24 g24_10) R  _ (show 0 ≤ x15_12.toInt by omega) (show x15_12.toInt ≤ 1 by omega) (show 0 ≤ x17_12.toInt by omega) (show x17_12.toInt ≤ 128 by omega) (show 0 ≤ (st 25).toInt by omega) (show (st 25).toInt ≤ 128 by omega) (show 0 ≤ (st 26).toInt by omega) (show (st 26).toInt ≤ 128 by omega) (show -1 ≤ (st 27).toInt by omega) (show (st 27).toInt ≤ 127 by omega) (show 0 ≤ (st 28).toInt by omega) (show (st 28).toInt ≤ 1 by omega) (show aR f7_12 8224 (-128) 127 from hR7) (show aR (ai 23) 128 (0) 127 from hR23)) (cwV 0 hts gX8_prune_X6_hearAnew rfl rfl rfl (by decide +kernel) ⟨Nat.le_of_ble_eq_true rfl, Nat.le_of_ble_eq_true rfl⟩) ⟨fun a U g mk q => by obtain ⟨q0, q1, qP, qK, qD, qG⟩ := q; exact ⟨q0, q1, qP, va_K.moved (u := U) (U := U.calling g mk a) (Vm.Alike.refl U.vm) qK, qD, qG.same rfl rfl⟩, va_recv hK hP (ci := 8) (q := (RX6, TX6, 12)) rfl (q0 := 5) rfl, fun U hU hW => ⟨rfl, by rw [hU], by rw [hU]; exact hP, va_K.moved hW.alike hK, ((cw_D hD : va_D A (cw_W c kc (rU (rU (rU (rU (rU (rU st 9 x9_12) 10 x10_12) 11 x11_12) 15 x15_12) 16 x16_12) 17 x17_12) lg (rU (rU (rU (rU ai 7 f7_12) 8 f8_12) 14 f14_12) 30 f30_10) (rU al 24 g24_10) R))).weaken (fun _ _ _ _ => trivial), hG.go hW hU hS hFc⟩⟩ rfl rfl hl.1 rfl (lv_room (Nat.le_of_ble_eq_true rfl)) dX8_prune_84 ⟨Nat.le_of_ble_eq_true rfl, Nat.le_of_ble_eq_true rfl⟩) hS (fun q _ h => hFc q h) hFc (fun ur_24 t H1 locs ht hvm er_24 hB hz1 hk1 hS => ?_)
                    obtain ⟨x25_24, x26_24, x27_24, x28_24, x29_24, f20_24, f21_24, f22_24, f23_24, g19_24, k_25, k_26, k_27, k_28, k_29, k_30, k_31, k_32, hR23, hP1⟩ := hB
                    rw [ht] at hP1
                    clear hFc hz1 hk1 hvm hP
                    subst ht
                    have hP := hP1
                    clear hP1
                    generalize t.heap = H at hP hS ⊢
                    have hP : va_P (dC, dI) vwCl (cw_W c kc (rU (rU (rU (rU (rU (rU (rU (rU (rU (rU (rU st 9 x9_12) 10 x10_12) 11 x11_12) 15 x15_12) 16 x16_12) 17 x17_12) 25 x25_24) 26 x26_24) 27 x27_24) 28 x28_24) 29 x29_24) lg (rU (rU (rU (rU (rU (rU (rU (rU ai 7 f7_12) 8 f8_12) 14 f14_12) 20 f20_24) 21 f21_24) 22 f22_24) 23 f23_24) 30 f30_10) (rU (rU al 19 g19_24) 24 g24_10) R) H := hP
                    have k_25 : 0 ≤ x25_24.toInt := k_25
                    have k_26 : x25_24.toInt ≤ 128 := k_26
                    have k_27 : 0 ≤ x26_24.toInt := k_27
                    have k_28 : x26_24.toInt ≤ 128 := k_28
                    have k_29 : -1 ≤ x27_24.toInt := k_29
                    have k_30 : x27_24.toInt ≤ 127 := k_30
                    have k_31 : 0 ≤ x28_24.toInt := k_31
                    have k_32 : x28_24.toInt ≤ 1 := k_32
                    have hR23 : aR f23_24 128 (0) 127 := hR23
                    refine lv_aload_n hx hb dX8_prune_87 rfl (lv_at hl 0 rfl) ?_
                    refine va_get (D := (dC, dI)) (ci := 10) (v := .ref (c 102)) (C := RX8) (T := TX8) (N := 10) hx hb hts hin_X8 hown hK hP 0 rfl rfl 1 (by decide) (hts (.fieldLink RX8 22 "BlockLog" "disk" "LBlockLog$Disk;") (by decide +kernel)) (fun _ h9 => h9) rfl dX8_prune_88 ?_
                    refine lv_iconst (v := 1) hx hb dX8_prune_91 (by decide) ?_
                    refine lv_aload_n hx hb dX8_prune_92 rfl (lv_at hl 0 rfl) ?_
                    refine va_get (D := (dC, dI)) (ci := 10) (v := .ref (c 104)) (C := RX8) (T := TX8) (N := 10) hx hb hts hin_X8 hown hK hP 0 rfl rfl 2 (by decide) (hts (.fieldLink RX8 31 "BlockLog" "rows" "LBlockLog$Rows;") (by decide +kernel)) (fun _ h9 => h9) rfl dX8_prune_93 ?_
                    refine va_getN (D := (dC, dI)) (ci := 6) (v := .int x15_12) (C := RX4) (T := TX4) (N := 6) hx hb hts hin_X4 hown hK hP 4 rfl rfl 2 (by decide) (va_Nw.use rfl (hGW.1 ("BlockLog", 252, "BlockLog$Rows", "area", "I", "BlockLog") (by decide +kernel))) (fun _ h9 => h9) rfl dX8_prune_96 ?_
                    refine lv_isub hx hb dX8_prune_99 ?_
                    refine lv_topi (fun v_33 ev_33 => ?_)
                    have rg1 := iv_rng x15_12
                    have hv_33 : v_33.toInt = 1 - x15_12.toInt := by rw [ev_33]; exact (iv_sub (by omega) (by omega)).trans (by omega)
                    clear ev_33
                    have hFc := vfree ((cw_D hD : va_D A (cw_W c kc (rU (rU (rU (rU (rU (rU (rU (rU (rU (rU (rU st 9 x9_12) 10 x10_12) 11 x11_12) 15 x15_12) 16 x16_12) 17 x17_12) 25 x25_24) 26 x26_24) 27 x27_24) 28 x28_24) 29 x29_24) lg (rU (rU (rU (rU (rU (rU (rU (rU ai 7 f7_12) 8 f8_12) 14 f14_12) 20 f20_24) 21 f21_24) 22 f22_24) 23 f23_24) 30 f30_10) (rU (rU al 19 g19_24) 24 g24_10) R)) : va_D A (cw_W c kc (rU (rU (rU (rU (rU (rU (rU (rU (rU (rU (rU st 9 x9_12) 10 x10_12) 11 x11_12) 15 x15_12) 16 x16_12) 17 x17_12) 25 x25_24) 26 x26_24) 27 x27_24) 28 x28_24) 29 x29_24) lg (rU (rU (rU (rU (rU (rU (rU (rU ai 7 f7_12) 8 f8_12) 14 f14_12) 20 f20_24) 21 f21_24) 22 f22_24) 23 f23_24) 30 f30_10) (rU (rU al 19 g19_24) 24 g24_10) R)) hS hA
                    refine va_calli (va_runV (As := [.int v_33]) (rest := []) ⟨hx, hb, hml, hown, hts⟩ (v_X1_eraseHead l dC dI c kc (rU (rU (rU (rU (rU (rU (rU (rU (rU (rU (rU st 9 x9_12) 10 x10_12) 11 x11_12) 15 x15_12) 16 x16_12) 17 x17_12) 25 x25_24) 26 x26_24) 27 x27_24) 28 x28_24) 29 x29_24) lg (rU (rU (rU (rU (rU (rU (rU (rU ai 7 f7_12) 8 f8_12) 14 f14_12) 20 f20_24) 21 f21_24) 22 f22_24) 23 f23_24) 30 f30_10) (rU (rU al 19 g19_24) 24 g24_10) R v_33 _ (show 0 ≤ x9_12.toInt by omega) (show x9_12.toInt ≤ 1 by omega) (by omega) (by omega) (show aR f7_12 8224 (-128) 127 from hR7)) (cwV 1 hts gX8_prune_X1_eraseHead rfl rfl rfl (by decide +kernel) ⟨Nat.le_of_ble_eq_true rfl, Nat.le_of_ble_eq_true rfl⟩) ⟨fun a U g mk q => by obtain ⟨q0, q1, qP, qK, qD⟩ := q; exact ⟨q0, q1, qP, va_K.moved (u := U) (U := U.calling g mk a) (Vm.Alike.refl U.vm) qK, qD⟩, va_recv hK hP (ci := 3) (q := (RX1, TX1, 7)) rfl (q0 := 2) rfl, fun U hU hW => ⟨rfl, by rw [hU], by rw [hU]; exact hP, va_K.moved hW.alike hK, ((cw_D hD : va_D A (cw_W c kc (rU (rU (rU (rU (rU (rU (rU (rU (rU (rU (rU st 9 x9_12) 10 x10_12) 11 x11_12) 15 x15_12) 16 x16_12) 17 x17_12) 25 x25_24) 26 x26_24) 27 x27_24) 28 x28_24) 29 x29_24) lg (rU (rU (rU (rU (rU (rU (rU (rU ai 7 f7_12) 8 f8_12) 14 f14_12) 20 f20_24) 21 f21_24) 22 f22_24) 23 f23_24) 30 f30_10) (rU (rU al 19 g19_24) 24 g24_10) R))).weaken (fun _ _ _ _ => trivial)⟩⟩ rfl rfl hl.1 rfl (lv_room (Nat.le_of_ble_eq_true rfl)) dX8_prune_100 ⟨Nat.le_of_ble_eq_true rfl, Nat.le_of_ble_eq_true rfl⟩) hS (fun q _ h => hFc q h) hFc (fun r_34 ur_34 t H1 locs ht hvm er_34 hB hz1 hk1 hS => ?_)
                    subst er_34
                    obtain ⟨x9_34, x10_34, x11_34, f7_34, k_35, k_36, k_37, k_38, hR7, hP1⟩ := hB
                    rw [ht] at hP1
                    clear hFc hz1 hk1 hvm hP
                    subst ht
                    have hP := hP1
                    clear hP1
                    generalize t.heap = H at hP hS ⊢
                    have hP : va_P (dC, dI) vwCl (cw_W c kc (rU (rU (rU (rU (rU (rU (rU (rU (rU (rU (rU st 9 x9_34) 10 x10_34) 11 x11_34) 15 x15_12) 16 x16_12) 17 x17_12) 25 x25_24) 26 x26_24) 27 x27_24) 28 x28_24) 29 x29_24) lg (rU (rU (rU (rU (rU (rU (rU (rU ai 7 f7_34) 8 f8_12) 14 f14_12) 20 f20_24) 21 f21_24) 22 f22_24) 23 f23_24) 30 f30_10) (rU (rU al 19 g19_24) 24 g24_10) R) H := hP
                    have k_37 : 0 ≤ x9_34.toInt := k_37
                    have k_38 : x9_34.toInt ≤ 1 := k_38
                    have hR7 : aR f7_34 8224 (-128) 127 := hR7
                    rcases iv_01 (a := r_34) (by omega) (by omega) with b_39 | b_39
                    · skip
                      have ib_39 := iv_eq b_39
                      rw [b_39]
                      refine lv_if_eq (tgt := 113) hx hb dX8_prune_103 (by decide) (fun c_40 => ?_) (fun c_40 => ?_)
                      · skip
                        have ic_40 := iv_eq c_40
                        refine lv_bipush (v := (-4)) hx hb dX8_prune_113 (by decide) ?_
                        refine W.widen (k := 2) (n := 12) (Nat.le_of_ble_eq_true rfl) (Nat.le_of_ble_eq_true rfl) ?_
                        refine vx_ret ?_
                        exact W.iret hx hb hr (fun t ht hW => ⟨⟨_, _, rfl, rfl, x9_34, x10_34, x11_34, x15_12, x16_12, x17_12, x25_24, x26_24, x27_24, x28_24, x29_24, f7_34, f8_12, f14_12, f20_24, f21_24, f22_24, f23_24, f30_10, g19_24, g24_10, R, (by omega), (by omega), (by omega), (by omega), (by omega), (by omega), (by omega), (by omega), (by omega), (by omega), (by omega), (by omega), (by omega), (by omega), hR7, hR23, hPI, hmono, (cw_D hD), by rw [ht]; exact hP⟩, hS.F ht⟩) hS.2.2 dX8_prune_115
                      · skip
                        have ic_40 := iv_ne c_40
                        exfalso
                        omega
                    · skip
                      have ib_39 := iv_eq b_39
                      rw [b_39]
                      refine lv_if_eq (tgt := 113) hx hb dX8_prune_103 (by decide) (fun c_41 => ?_) (fun c_41 => ?_)
                      · skip
                        have ic_41 := iv_eq c_41
                        exfalso
                        omega
                      · skip
                        have ic_41 := iv_ne c_41
                        refine lv_aload_n hx hb dX8_prune_106 rfl (lv_at hl 0 rfl) ?_
                        have hFc := vfree ((cw_D hD : va_D A (cw_W c kc (rU (rU (rU (rU (rU (rU (rU (rU (rU (rU (rU st 9 x9_34) 10 x10_34) 11 x11_34) 15 x15_12) 16 x16_12) 17 x17_12) 25 x25_24) 26 x26_24) 27 x27_24) 28 x28_24) 29 x29_24) lg (rU (rU (rU (rU (rU (rU (rU (rU ai 7 f7_34) 8 f8_12) 14 f14_12) 20 f20_24) 21 f21_24) 22 f22_24) 23 f23_24) 30 f30_10) (rU (rU al 19 g19_24) 24 g24_10) R)) : va_D A (cw_W c kc (rU (rU (rU (rU (rU (rU (rU (rU (rU (rU (rU st 9 x9_34) 10 x10_34) 11 x11_34) 15 x15_12) 16 x16_12) 17 x17_12) 25 x25_24) 26 x26_24) 27 x27_24) 28 x28_24) 29 x29_24) lg (rU (rU (rU (rU (rU (rU (rU (rU ai 7 f7_34) 8 f8_12) 14 f14_12) 20 f20_24) 21 f21_24) 22 f22_24) 23 f23_24) 30 f30_10) (rU (rU al 19 g19_24) 24 g24_10) R)) hS hA
                        refine va_calli (va_runV (As := []) (rest := []) ⟨hx, hb, hml, hown, hts⟩ (v_X8_eraseUnnamed l dC dI c kc (rU (rU (rU (rU (rU (rU (rU (rU (rU (rU (rU st 9 x9_34) 10 x10_34) 11 x11_34) 15 x15_12) 16 x16_12) 17 x17_12) 25 x25_24) 26 x26_24) 27 x27_24) 28 x28_24) 29 x29_24) lg (rU (rU (rU (rU (rU (rU (rU (rU ai 7 f7_34) 8 f8_12) 14 f14_12) 20 f20_24) 21 f21_24) 22 f22_24) 23 f23_24) 30 f30_10) (rU (rU al 19 g19_24) 24 g24_10) R cap num  _ hPI (show 0 ≤ x9_34.toInt by omega) (show x9_34.toInt ≤ 1 by omega) (show 0 ≤ (st 13).toInt by omega) (show (st 13).toInt ≤ 65536 by omega) (show 0 ≤ x15_12.toInt by omega) (show x15_12.toInt ≤ 1 by omega) (show 0 ≤ x25_24.toInt by omega) (show x25_24.toInt ≤ 128 by omega) (show 0 ≤ x26_24.toInt by omega) (show x26_24.toInt ≤ 128 by omega) (show 0 ≤ x28_24.toInt by omega) (show x28_24.toInt ≤ 1 by omega) (show aR f23_24 128 (0) 127 from hR23)) (cwV 0 hts gX8_prune_X8_eraseUnnamed rfl rfl rfl (by decide +kernel) ⟨Nat.le_of_ble_eq_true rfl, Nat.le_of_ble_eq_true rfl⟩) ⟨fun a U g mk q => by obtain ⟨q0, q1, qP, qK, qD, qG⟩ := q; exact ⟨q0, q1, qP, va_K.moved (u := U) (U := U.calling g mk a) (Vm.Alike.refl U.vm) qK, qD, qG.same rfl rfl⟩, va_recv hK hP (ci := 10) (q := (RX8, TX8, 10)) rfl (q0 := 0) rfl, fun U hU hW => ⟨rfl, by rw [hU], by rw [hU]; exact hP, va_K.moved hW.alike hK, ((cw_D hD : va_D A (cw_W c kc (rU (rU (rU (rU (rU (rU (rU (rU (rU (rU (rU st 9 x9_34) 10 x10_34) 11 x11_34) 15 x15_12) 16 x16_12) 17 x17_12) 25 x25_24) 26 x26_24) 27 x27_24) 28 x28_24) 29 x29_24) lg (rU (rU (rU (rU (rU (rU (rU (rU ai 7 f7_34) 8 f8_12) 14 f14_12) 20 f20_24) 21 f21_24) 22 f22_24) 23 f23_24) 30 f30_10) (rU (rU al 19 g19_24) 24 g24_10) R))).weaken (fun _ _ _ _ => trivial), hG.go hW hU hS hFc⟩⟩ rfl rfl hl.1 rfl (lv_room (Nat.le_of_ble_eq_true rfl)) dX8_prune_107 ⟨Nat.le_of_ble_eq_true rfl, Nat.le_of_ble_eq_true rfl⟩) hS (fun q _ h => hFc q h) hFc (fun r_42 ur_42 t H1 locs ht hvm er_42 hB hz1 hk1 hS => ?_)
                        subst er_42
                        obtain ⟨x9_42, x10_42, x11_42, g24_42, R_42, k_43, k_44, hPI, hmo, hD1, hP1⟩ := hB
                        rw [ht] at hP1
                        clear hz1 hk1 hvm hP
                        subst ht
                        have hP := hP1
                        clear hP1
                        generalize t.heap = H at hP hS ⊢
                        have hP : va_P (dC, dI) vwCl (cw_W c kc (rU (rU (rU (rU (rU (rU (rU (rU (rU (rU (rU st 9 x9_42) 10 x10_42) 11 x11_42) 15 x15_12) 16 x16_12) 17 x17_12) 25 x25_24) 26 x26_24) 27 x27_24) 28 x28_24) 29 x29_24) lg (rU (rU (rU (rU (rU (rU (rU (rU ai 7 f7_34) 8 f8_12) 14 f14_12) 20 f20_24) 21 f21_24) 22 f22_24) 23 f23_24) 30 f30_10) (rU (rU al 19 g19_24) 24 g24_42) R_42) H := hP
                        have hD : va_D A (cw_W c kc st lg ai al R_42) := cw_D (hD1.weaken (fun _ _ _ h => hFc _ h))
                        have hPI : PI (kc 98) (kc 0) (c 99) (st 13) cap num none R_42 := hPI
                        clear hFc hD1
                        have hmono : ∀ y m, pgM (kc 0) R y m → pgM (kc 0) R_42 y m := fun y m h => hmo y m (hmono y m h)
                        have k_43 : 0 ≤ x9_42.toInt := k_43
                        have k_44 : x9_42.toInt ≤ 1 := k_44
                        refine lv_goto (tgt := 115) hx hb dX8_prune_110 (by decide) ?_
                        refine W.widen (k := 2) (n := 12) (Nat.le_of_ble_eq_true rfl) (Nat.le_of_ble_eq_true rfl) ?_
                        refine vx_ret ?_
                        exact W.iret hx hb hr (fun t ht hW => ⟨⟨_, _, rfl, rfl, x9_42, x10_42, x11_42, x15_12, x16_12, x17_12, x25_24, x26_24, x27_24, x28_24, x29_24, f7_34, f8_12, f14_12, f20_24, f21_24, f22_24, f23_24, f30_10, g19_24, g24_42, R_42, (by omega), (by omega), (by omega), (by omega), (by omega), (by omega), (by omega), (by omega), (by omega), (by omega), (by omega), (by omega), (by omega), (by omega), hR7, hR23, hPI, hmono, (cw_D hD), by rw [ht]; exact hP⟩, hS.F ht⟩) hS.2.2 dX8_prune_115
                  · skip
                    have ic_23 := iv_eq c_23
                    exfalso
                    omega
              · skip
                have ic_11 := iv_nle c_11
                refine lv_bipush (v := (-2)) hx hb dX8_prune_63 (by decide) ?_
                refine W.widen (k := 2) (n := 12) (Nat.le_of_ble_eq_true rfl) (Nat.le_of_ble_eq_true rfl) ?_
                refine vx_ret ?_
                exact W.iret hx hb hr (fun t ht hW => ⟨⟨_, _, rfl, rfl, st 9, st 10, st 11, st 15, st 16, st 17, st 25, st 26, st 27, st 28, st 29, ai 7, ai 8, ai 14, ai 20, ai 21, ai 22, ai 23, f30_10, al 19, g24_10, R, (by omega), (by omega), (by omega), (by omega), (by omega), (by omega), (by omega), (by omega), (by omega), (by omega), (by omega), (by omega), (by omega), (by omega), hR7, hR23, hPI, hmono, (cw_D hD), by rw [ht]; exact hP⟩, hS.F ht⟩) hS.2.2 dX8_prune_65
            · skip
              have ic_9 := iv_nle c_9
              obtain ⟨sa, hstr⟩ := hGW.2.1 ("BlockLog", 241, "the height is not above THE BASE'S, or above the last version's") (by decide +kernel)
              exact vx_throwS (names := ["java/lang/RuntimeException", "java/lang/Exception"]) hx hb hl0 hown (by decide +kernel) (by decide +kernel) (hts (.classLink RX8 76 "java/lang/IllegalArgumentException") (by decide +kernel)) (hts (.initialized "java/lang/IllegalArgumentException") (by decide +kernel)) hstr (vx_hat (B := gx_bad "java/lang/IllegalArgumentException") (fun w h => hts w (List.mem_cons_of_mem _ (List.mem_append_left _ (List.mem_append_right _ h)))) (by decide +kernel) (hGW.bad (by decide))) (by decide +kernel) hG.2.1 hG.2.2.1 hS (hl.1.trans hml.symm) dX8_prune_39 dX8_prune_42 dX8_prune_43 dX8_prune_45 dX8_prune_48 (fun x h => (hno x h).elim) (Nat.le_of_ble_eq_true rfl) (Nat.le_of_ble_eq_true rfl) (Nat.le_of_ble_eq_true rfl) (Nat.le_of_ble_eq_true rfl) hlocks (fun t _ h1 h2 => ⟨(), trivial, ⟨(by decide +kernel), st 9, st 10, st 11, st 15, st 16, st 17, st 25, st 26, st 27, st 28, st 29, ai 7, ai 8, ai 14, ai 20, ai 21, ai 22, ai 23, ai 30, al 19, al 24, R, (by omega), (by omega), (by omega), (by omega), (by omega), (by omega), (by omega), (by omega), (by omega), (by omega), (by omega), (by omega), (by omega), (by omega), hR7, hR23, hPI, hmono, (cw_D hD), hP.kept (fun k q hk => h2 _ (hP k q hk).lt)⟩, Nat.le_trans hS.1 h1, fun q hq hn => (h2 q (Nat.lt_of_lt_of_le hq hS.1)).trans (hS.2.1 q hq hn)⟩) hS.2.2 (Nat.le_of_ble_eq_true rfl) (Nat.le_of_ble_eq_true rfl)
        · skip
          have ic_6 := iv_ne c_6
          exfalso
          omega
      · skip
        have ib_5 := iv_eq b_5
        rw [b_5]
        refine lv_if_eq (tgt := 17) hx hb dX8_prune_11 (by decide) (fun c_45 => ?_) (fun c_45 => ?_)
        · skip
          have ic_45 := iv_eq c_45
          exfalso
          omega
        · skip
          have ic_45 := iv_ne c_45
          refine lv_bipush (v := (-3)) hx hb dX8_prune_14 (by decide) ?_
          refine W.widen (k := 2) (n := 12) (Nat.le_of_ble_eq_true rfl) (Nat.le_of_ble_eq_true rfl) ?_
          refine vx_ret ?_
          exact W.iret hx hb hr (fun t ht hW => ⟨⟨_, _, rfl, rfl, st 9, st 10, st 11, st 15, st 16, st 17, st 25, st 26, st 27, st 28, st 29, ai 7, ai 8, ai 14, ai 20, ai 21, ai 22, ai 23, ai 30, al 19, al 24, R, (by omega), (by omega), (by omega), (by omega), (by omega), (by omega), (by omega), (by omega), (by omega), (by omega), (by omega), (by omega), (by omega), (by omega), hR7, hR23, hPI, hmono, (cw_D hD), by rw [ht]; exact hP⟩, hS.F ht⟩) hS.2.2 dX8_prune_16
  exact main s.heap [] hP hS

set_option maxHeartbeats 4000000 in
set_option maxRecDepth 100000 in
theorem v_X8_drawMendedPage (l : Launch) (dC : Nat → ClassId) (dI : Nat → Nat → Nat) (c : Nat → Nat) (kc : Nat → ClassId) (st : Nat → Int32) (lg : Nat → Int64) (ai : Nat → Nat → Int32) (al : Nat → Nat → Int64) (R : va_W) (cap : Nat) (num : Nat → Int32) (p0 : Int32) (sz : Nat) (hPI : PI (kc 98) (kc 0) (c 99) (st 13) cap num none R) (hf5a : 0 ≤ (st 5).toInt) (hf5b : (st 5).toInt ≤ 400) (hf13a : 0 ≤ (st 13).toInt) (hf13b : (st 13).toInt ≤ 65536) (hR4 : aR (ai 4) 400 (-128) 127) : Met l yX8_drawMendedPage wsX8_drawMendedPage ({ frames := 5, cells := 0, slots := 0, locals := 111 }) (va_Pc [.ref (c 100), .int p0] (fun U => U.heap.size = sz ∧ va_P (dC, dI) vwCl (cw_W c kc st lg ai al R) U.heap ∧ va_K (dC, dI) vwCl (cw_T kc) U ∧ va_D (fun _ => True) (cw_W c kc st lg ai al R) ∧ gx_E (va_A (cw_W c kc st lg ai al R) sz) U)) (va_Qi (fun r (u : Int32) => r = u) (fun u t => ∃ (f0 : Nat → Int32), (0 ≤ u.toInt) ∧ (u.toInt ≤ 1) ∧ va_P (dC, dI) vwCl (cw_W c kc st lg (rU ai 0 f0) al R) t.heap) (va_A (cw_W c kc st lg ai al R) sz)) 0 0 (va_A (cw_W c kc st lg ai al R) sz) := by
  refine Met.ofW (cc := cX8_drawMendedPage) (maxL := 4) (ret := (some .boolean)) (by decide) rfl ?_
  intro p e s m args below meth cM s₁ B hml hv
  obtain ⟨rfl, hsz, hP, hK, hD0, hG⟩ := hv
  have hx := B.exec
  have hb := B.bytes
  have hr := B.returns
  have hts := atoms_spec (ws := wsX8_drawMendedPage) B.pre
  have hown : s.vm.findClass RX8 = some m.cls := findClass_of_methodNamed B.named
  have hGW := hG.1
  subst hsz
  have hD := hD0.self (sz := s.heap.size)
  generalize hAe : va_A (cw_W c kc st lg ai al R) s.heap.size = A at hD hG ⊢
  have hA : ∀ q : Nat, s.heap.size ≤ q → A q := fun q h => by rw [← hAe]; exact Or.inr h
  have hS : va_S A s.heap s.heap [] := va_S.rf
  clear hAe hD0
  have hl := lv_entry ([.ref (c 100), .int p0]) (n := 4) (Nat.le_of_ble_eq_true rfl)
  rw [lg_entry_eq]
  generalize (lg_sl ([.ref (c 100), .int p0]) ++ List.replicate (4 - (lg_sl ([.ref (c 100), .int p0])).length) Slot.unset).toArray = ls at hl ⊢
  have hl : lv_has ls 4 [(0, .ref (c 100)), (1, .int p0)] := hl
  have z_0 : (0 : Int32).toInt = 0 := by decide
  have z_1 : (1 : Int32).toInt = 1 := by decide
  have z_16 : (16 : Int32).toInt = 16 := by decide
  have z_17 : (17 : Int32).toInt = 17 := by decide
  have hin_X2 : ∀ w ∈ u_ws RX2 TX2 3, w ∈ wsX8_drawMendedPage := by decide +kernel
  have hin_X7 : ∀ w ∈ u_ws RX7 TX7 2, w ∈ wsX8_drawMendedPage := by decide +kernel
  have hin_X8 : ∀ w ∈ u_ws RX8 TX8 10, w ∈ wsX8_drawMendedPage := by decide +kernel
  have main : ∀ (H : Heap) (locs : List Loc), va_P (dC, dI) vwCl (cw_W c kc st lg ai al R) H → va_S A s.heap H locs → W p l e (headSpec wsX8_drawMendedPage ({ frames := 5, cells := 0, slots := 0, locals := 111 })).room s m ([.ref (c 100), .int p0] : List Value).toArray below meth cM H locs 0 0 (MQ below (va_Qi (fun r (u : Int32) => r = u) (fun u t => ∃ (f0 : Nat → Int32), (0 ≤ u.toInt) ∧ (u.toInt ≤ 1) ∧ va_P (dC, dI) vwCl (cw_W c kc st lg (rU ai 0 f0) al R) t.heap) A) ([.ref (c 100), .int p0] : List Value).toArray s 0 0 A) (F0 m 0 ls []) := by
    intro H locs hP hS
    refine lv_aload_n hx hb dX8_drawMendedPage_0 rfl (lv_at hl 0 rfl) ?_
    refine va_get (D := (dC, dI)) (ci := 10) (v := .ref (c 101)) (C := RX8) (T := TX8) (N := 10) hx hb hts hin_X8 hown hK hP 0 rfl rfl 0 (by decide) (hts (.fieldLink RX8 13 "BlockLog" "tape" "LBlockLog$Tape;") (by decide +kernel)) (fun _ h9 => h9) rfl dX8_drawMendedPage_1 ?_
    refine va_getN (D := (dC, dI)) (ci := 9) (v := .int (st 5)) (C := RX7) (T := TX7) (N := 2) hx hb hts hin_X7 hown hK hP 1 rfl rfl 1 (by decide) (va_Nw.use rfl (hGW.1 ("BlockLog", 83, "BlockLog$Tape", "count", "I", "BlockLog") (by decide +kernel))) (fun _ h9 => h9) rfl dX8_drawMendedPage_4 ?_
    refine lv_istore_n (lv' := [(2, .int (st 5)), (0, .ref (c 100)), (1, .int p0)]) hx hb dX8_drawMendedPage_7 rfl hl (by decide) rfl (fun ls hl => ?_)
    refine lv_aload_n hx hb dX8_drawMendedPage_8 rfl (lv_at hl 1 rfl) ?_
    refine va_get (D := (dC, dI)) (ci := 10) (v := .ref (c 102)) (C := RX8) (T := TX8) (N := 10) hx hb hts hin_X8 hown hK hP 0 rfl rfl 1 (by decide) (hts (.fieldLink RX8 22 "BlockLog" "disk" "LBlockLog$Disk;") (by decide +kernel)) (fun _ h9 => h9) rfl dX8_drawMendedPage_9 ?_
    refine lv_iload_n hx hb dX8_drawMendedPage_12 rfl (lv_at hl 2 rfl) ?_
    refine va_csq (va_Run.run (va_runV (As := [.int p0]) (rest := []) ⟨hx, hb, hml, hown, hts⟩ (v_X1_find l dC dI c kc st lg ai al R cap num p0 hPI (show 0 ≤ (st 13).toInt by omega) (show (st 13).toInt ≤ 65536 by omega)) (cwV 1 hts gX8_drawMendedPage_X1_find rfl rfl rfl (by decide +kernel) ⟨Nat.le_of_ble_eq_true rfl, Nat.le_of_ble_eq_true rfl⟩) ⟨fun a U g mk q => by obtain ⟨q0, qP, qK, qG⟩ := q; exact ⟨q0, qP, va_K.moved (u := U) (U := U.calling g mk a) (Vm.Alike.refl U.vm) qK, qG.same rfl⟩, va_recv hK hP (ci := 3) (q := (RX1, TX1, 7)) rfl (q0 := 2) rfl, fun U hU hW => ⟨rfl, by rw [hU]; exact hP, va_K.moved hW.alike hK, hGW.warm hW⟩⟩ rfl rfl hl.1 rfl (lv_room (Nat.le_of_ble_eq_true rfl)) dX8_drawMendedPage_13 ⟨Nat.le_of_ble_eq_true rfl, Nat.le_of_ble_eq_true rfl⟩)) (fun r_1 er_1 => ?_)
    have hq := er_1
    have hq : ∀ x, r_1 = some x → ∃ m, pgM (kc 0) R x m ∧ m.toInt = p0.toInt ∧ m.toInt < 65536 := hq
    rcases r_1 with _ | x_2
    · skip
      refine W.eq (g2 := F0 m 16 ls [.null]) rfl ?_
      refine lv_astore_nN (lv' := [(3, .null), (2, .int (st 5)), (0, .ref (c 100)), (1, .int p0)]) hx hb dX8_drawMendedPage_16 rfl hl (by decide) rfl (fun ls hl => ?_)
      refine lv_iload_n hx hb dX8_drawMendedPage_17 rfl (lv_at hl 1 rfl) ?_
      refine lv_iconst (v := 1) hx hb dX8_drawMendedPage_18 (by decide) ?_
      refine lv_icmp_lt (tgt := 32) hx hb dX8_drawMendedPage_19 (by decide) (fun c_4 => ?_) (fun c_4 => ?_)
      · skip
        have ic_4 := iv_lt c_4
        refine lv_iconst (v := 0) hx hb dX8_drawMendedPage_32 (by decide) ?_
        exact W.zret hx hb hr rfl (fun t ht hW => ⟨⟨_, _, rfl, rfl, ai 0, (by omega), (by omega), by rw [ht]; exact hP⟩, hS.F ht⟩) hS.2.2 dX8_drawMendedPage_33
      · skip
        have ic_4 := iv_nlt c_4
        refine lv_iload_n hx hb dX8_drawMendedPage_22 rfl (lv_at hl 1 rfl) ?_
        refine lv_bipush (v := 16) hx hb dX8_drawMendedPage_23 (by decide) ?_
        refine lv_icmp_gt (tgt := 32) hx hb dX8_drawMendedPage_25 (by decide) (fun c_5 => ?_) (fun c_5 => ?_)
        · skip
          have ic_5 := iv_lt c_5
          refine lv_iconst (v := 0) hx hb dX8_drawMendedPage_32 (by decide) ?_
          exact W.zret hx hb hr rfl (fun t ht hW => ⟨⟨_, _, rfl, rfl, ai 0, (by omega), (by omega), by rw [ht]; exact hP⟩, hS.F ht⟩) hS.2.2 dX8_drawMendedPage_33
        · skip
          have ic_5 := iv_nlt c_5
          refine lv_aload_nN hx hb dX8_drawMendedPage_28 rfl (lv_at hl 0 rfl) ?_
          refine lv_ifnonnullN hx hb dX8_drawMendedPage_29 ?_
          refine lv_iconst (v := 0) hx hb dX8_drawMendedPage_32 (by decide) ?_
          exact W.zret hx hb hr rfl (fun t ht hW => ⟨⟨_, _, rfl, rfl, ai 0, (by omega), (by omega), by rw [ht]; exact hP⟩, hS.F ht⟩) hS.2.2 dX8_drawMendedPage_33
    · skip
      refine W.eq (g2 := F0 m 16 ls [.ref x_2]) rfl ?_
      obtain ⟨m_3, hM_x_2, hQ⟩ := hq x_2 rfl
      refine lv_astore_n (lv' := [(3, .ref x_2), (2, .int (st 5)), (0, .ref (c 100)), (1, .int p0)]) hx hb dX8_drawMendedPage_16 rfl hl (by decide) rfl (fun ls hl => ?_)
      refine lv_iload_n hx hb dX8_drawMendedPage_17 rfl (lv_at hl 1 rfl) ?_
      refine lv_iconst (v := 1) hx hb dX8_drawMendedPage_18 (by decide) ?_
      refine lv_icmp_lt (tgt := 32) hx hb dX8_drawMendedPage_19 (by decide) (fun c_6 => ?_) (fun c_6 => ?_)
      · skip
        have ic_6 := iv_lt c_6
        refine lv_iconst (v := 0) hx hb dX8_drawMendedPage_32 (by decide) ?_
        exact W.zret hx hb hr rfl (fun t ht hW => ⟨⟨_, _, rfl, rfl, ai 0, (by omega), (by omega), by rw [ht]; exact hP⟩, hS.F ht⟩) hS.2.2 dX8_drawMendedPage_33
      · skip
        have ic_6 := iv_nlt c_6
        refine lv_iload_n hx hb dX8_drawMendedPage_22 rfl (lv_at hl 1 rfl) ?_
        refine lv_bipush (v := 16) hx hb dX8_drawMendedPage_23 (by decide) ?_
        refine lv_icmp_gt (tgt := 32) hx hb dX8_drawMendedPage_25 (by decide) (fun c_7 => ?_) (fun c_7 => ?_)
        · skip
          have ic_7 := iv_lt c_7
          refine lv_iconst (v := 0) hx hb dX8_drawMendedPage_32 (by decide) ?_
          exact W.zret hx hb hr rfl (fun t ht hW => ⟨⟨_, _, rfl, rfl, ai 0, (by omega), (by omega), by rw [ht]; exact hP⟩, hS.F ht⟩) hS.2.2 dX8_drawMendedPage_33
        · skip
          have ic_7 := iv_nlt c_7
          refine lv_aload_n hx hb dX8_drawMendedPage_28 rfl (lv_at hl 0 rfl) ?_
          refine lv_ifnonnull (tgt := 34) hx hb dX8_drawMendedPage_29 (by decide) ?_
          refine lv_aload_n hx hb dX8_drawMendedPage_34 rfl (lv_at hl 2 rfl) ?_
          refine lv_iconst (v := 0) hx hb dX8_drawMendedPage_35 (by decide) ?_
          refine lv_iload_n hx hb dX8_drawMendedPage_36 rfl (lv_at hl 1 rfl) ?_
          have hFc := vfree ((cw_D hD : va_D A (cw_W c kc st lg ai al R)) : va_D A (cw_W c kc st lg ai al R)) hS hA
          refine va_callv (va_runV (As := [.int (0 : Int32), .int (st 5)]) (rest := []) ⟨hx, hb, hml, hown, hts⟩ (v_X8_drawPage l dC dI c kc st lg ai al R (0 : Int32) (st 5) _ (by omega) (by omega) (show aR (ai 4) 400 (-128) 127 from hR4)) (cwV 2 hts gX8_drawMendedPage_X8_drawPage rfl rfl rfl (by decide +kernel) ⟨Nat.le_of_ble_eq_true rfl, Nat.le_of_ble_eq_true rfl⟩) ⟨fun a U g mk q => by obtain ⟨q0, q1, qP, qK, qD, qG⟩ := q; exact ⟨q0, q1, qP, va_K.moved (u := U) (U := U.calling g mk a) (Vm.Alike.refl U.vm) qK, qD, qG.same rfl rfl⟩, va_recv hK hP (ci := 10) (q := (RX8, TX8, 10)) rfl (q0 := 0) rfl, fun U hU hW => ⟨rfl, by rw [hU], by rw [hU]; exact hP, va_K.moved hW.alike hK, ((cw_D hD : va_D A (cw_W c kc st lg ai al R))).weaken (fun _ _ _ _ => trivial), hG.go hW hU hS hFc⟩⟩ rfl rfl hl.1 rfl (lv_room (Nat.le_of_ble_eq_true rfl)) dX8_drawMendedPage_37 ⟨Nat.le_of_ble_eq_true rfl, Nat.le_of_ble_eq_true rfl⟩) hS (fun q _ h => hFc q h) hFc (fun ur_8 t H1 locs ht hvm er_8 hB hz1 hk1 hS => ?_)
          obtain ⟨f0_8, hP1⟩ := hB
          rw [ht] at hP1
          clear hFc hz1 hk1 hvm hP
          subst ht
          have hP := hP1
          clear hP1
          generalize t.heap = H at hP hS ⊢
          have hP : va_P (dC, dI) vwCl (cw_W c kc st lg (rU ai 0 f0_8) al R) H := hP
          refine lv_aload_n hx hb dX8_drawMendedPage_40 rfl (lv_at hl 2 rfl) ?_
          refine va_get (D := (dC, dI)) (ci := 10) (v := .ref (c 0)) (C := RX8) (T := TX8) (N := 10) hx hb hts hin_X8 hown hK hP 0 rfl rfl 6 (by decide) (hts (.fieldLink RX8 60 "BlockLog" "pageImage" "[B") (by decide +kernel)) (fun _ h9 => h9) rfl dX8_drawMendedPage_41 ?_
          refine lv_aload_n hx hb dX8_drawMendedPage_44 rfl (lv_at hl 0 rfl) ?_
          have hMo := hM_x_2
          obtain ⟨b_9, k9_9, f9_9, ⟨j_9, hj_9⟩, i_9, hi_9⟩ := hMo
          refine va_getN (D := (dC, dI)) (ci := 4) (v := .ref b_9) (C := RX2) (T := TX2) (N := 3) hx hb hts hin_X2 hown hK hP (26 + j_9) (cw_at hj_9) rfl 1 (by decide) (va_Nw.use rfl (hGW.1 ("BlockLog", 236, "BlockLog$Page", "bytes", "[B", "BlockLog") (by decide +kernel))) (fun _ h9 => h9) rfl dX8_drawMendedPage_45 ?_
          refine lv_iconst (v := 0) hx hb dX8_drawMendedPage_48 (by decide) ?_
          refine lv_bipush (v := 17) hx hb dX8_drawMendedPage_49 (by decide) ?_
          refine vp_callSi (va_Run.run (va_runS (As := [.ref (c 0), .ref b_9, .int (0 : Int32), .int (17 : Int32)]) (rest := []) ⟨hx, hb, hml, hown, hts⟩ (v_X0_mends l dC dI (cw_W c kc st lg (rU ai 0 f0_8) al R) (cw_T kc) (c 0) 26 (kc 0) f0_8 8 0 b_9 26 (kc 0) f9_9 (26 + i_9) 0 (0 : Int32) (17 : Int32) rfl rfl (cw_at hi_9) rfl (by omega) (by omega) (by omega) (by omega) (by omega) (by omega) (by omega)) (va_cwS 4 hts gX8_drawMendedPage_X0_mends rfl rfl rfl (by decide +kernel) ⟨Nat.le_of_ble_eq_true rfl, Nat.le_of_ble_eq_true rfl⟩) ⟨fun a U g mk q => by obtain ⟨q0, qP, qK⟩ := q; exact ⟨q0, qP, va_K.moved (u := U) (U := U.calling g mk a) (Vm.Alike.refl U.vm) qK⟩, fun U hU hW => ⟨rfl, by rw [hU]; exact hP, va_K.moved hW.alike hK⟩⟩ rfl rfl hl.1 rfl (lv_room (Nat.le_of_ble_eq_true rfl)) dX8_drawMendedPage_51 ⟨Nat.le_of_ble_eq_true rfl, Nat.le_of_ble_eq_true rfl⟩)) (fun r_10 er_10 => ?_)
          obtain ⟨k_11, k_12⟩ := er_10
          rcases iv_01 (a := r_10) (by omega) (by omega) with b_13 | b_13
          · skip
            have ib_13 := iv_eq b_13
            rw [b_13]
            exact W.zret hx hb hr rfl (fun t ht hW => ⟨⟨_, _, rfl, rfl, f0_8, (by omega), (by omega), by rw [ht]; exact hP⟩, hS.F ht⟩) hS.2.2 dX8_drawMendedPage_54
          · skip
            have ib_13 := iv_eq b_13
            rw [b_13]
            exact W.zret hx hb hr rfl (fun t ht hW => ⟨⟨_, _, rfl, rfl, f0_8, (by omega), (by omega), by rw [ht]; exact hP⟩, hS.F ht⟩) hS.2.2 dX8_drawMendedPage_54
  exact main s.heap [] hP hS
