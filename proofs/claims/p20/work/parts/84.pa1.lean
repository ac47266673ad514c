set_option maxHeartbeats 4000000 in
set_option maxRecDepth 100000 in
theorem v_X1_badPage (l : Launch) (dC : Nat → ClassId) (dI : Nat → Nat → Nat) (c : Nat → Nat) (kc : Nat → ClassId) (st : Nat → Int32) (lg : Nat → Int64) (ai : Nat → Nat → Int32) (al : Nat → Nat → Int64) (R : va_W) (cap : Nat) (num : Nat → Int32) (p0 : Int32) (sz : Nat) (hPI : PI (kc 98) (kc 0) (c 99) (st 13) cap num none R) (hf13a : 0 ≤ (st 13).toInt) (hf13b : (st 13).toInt ≤ 65536) : Met l yX1_badPage wsX1_badPage ({ frames := 4, cells := 0, slots := 0, locals := 96 }) (va_Pc [.ref (c 102), .int p0] (fun U => U.heap.size = sz ∧ va_P (dC, dI) vwCl (cw_W c kc st lg ai al R) U.heap ∧ va_K (dC, dI) vwCl (cw_T kc) U ∧ va_D (fun _ => True) (cw_W c kc st lg ai al R) ∧ gx_E (va_A (cw_W c kc st lg ai al R) sz) U)) (va_Qq (fun r (u : Option Nat) => r = u) (fun u t => ∃ (R9 : va_W), (∀ x, u = some x → ∃ m, pgM (kc 0) R9 x m ∧ True) ∧ (PI (kc 98) (kc 0) (c 99) (st 13) cap num none R9) ∧ (∀ y m, pgM (kc 0) R y m → pgM (kc 0) R9 y m) ∧ (va_D (va_A (cw_W c kc st lg ai al R) sz) (cw_W c kc st lg ai al R9)) ∧ va_P (dC, dI) vwCl (cw_W c kc st lg ai al R9) t.heap) (va_A (cw_W c kc st lg ai al R) sz)) 0 0 (va_A (cw_W c kc st lg ai al R) sz) := by
  refine Met.ofW (cc := cX1_badPage) (maxL := 5) (ret := (some (.object "BlockLog$Page"))) (by decide) rfl ?_
  intro p e s m args below meth cM s₁ B hml hv
  obtain ⟨rfl, hsz, hP, hK, hD0, hG⟩ := hv
  have hx := B.exec
  have hb := B.bytes
  have hr := B.returns
  have hts := atoms_spec (ws := wsX1_badPage) B.pre
  have hown : s.vm.findClass RX1 = some m.cls := findClass_of_methodNamed B.named
  have hGW := hG.1
  subst hsz
  have hD := hD0.self (sz := s.heap.size)
  generalize hAe : va_A (cw_W c kc st lg ai al R) s.heap.size = A at hD hG ⊢
  have hA : ∀ q : Nat, s.heap.size ≤ q → A q := fun q h => by rw [← hAe]; exact Or.inr h
  have hS : va_S A s.heap s.heap [] := va_S.rf
  clear hAe hD0
  have hl := lv_entry ([.ref (c 102), .int p0]) (n := 5) (Nat.le_of_ble_eq_true rfl)
  rw [lg_entry_eq]
  generalize (lg_sl ([.ref (c 102), .int p0]) ++ List.replicate (5 - (lg_sl ([.ref (c 102), .int p0])).length) Slot.unset).toArray = ls at hl ⊢
  have hl : lv_has ls 5 [(0, .ref (c 102)), (1, .int p0)] := hl
  have z_0 : (0 : Int32).toInt = 0 := by decide
  have z_1 : (1 : Int32).toInt = 1 := by decide
  have z_4 : (4 : Int32).toInt = 4 := by decide
  have hin_X1 : ∀ w ∈ u_ws RX1 TX1 7, w ∈ wsX1_badPage := by decide +kernel
  have hmono : ∀ y m, pgM (kc 0) R y m → pgM (kc 0) R y m := fun y m h => h
  have main : ∀ (H : Heap) (locs : List Loc), va_P (dC, dI) vwCl (cw_W c kc st lg ai al R) H → va_S A s.heap H locs → W p l e (headSpec wsX1_badPage ({ frames := 4, cells := 0, slots := 0, locals := 96 })).room s m ([.ref (c 102), .int p0] : List Value).toArray below meth cM H locs 0 0 (MQ below (va_Qq (fun r (u : Option Nat) => r = u) (fun u t => ∃ (R9 : va_W), (∀ x, u = some x → ∃ m, pgM (kc 0) R9 x m ∧ True) ∧ (PI (kc 98) (kc 0) (c 99) (st 13) cap num none R9) ∧ (∀ y m, pgM (kc 0) R y m → pgM (kc 0) R9 y m) ∧ (va_D A (cw_W c kc st lg ai al R9)) ∧ va_P (dC, dI) vwCl (cw_W c kc st lg ai al R9) t.heap) A) ([.ref (c 102), .int p0] : List Value).toArray s 0 0 A) (F0 m 0 ls []) := by
    intro H locs hP hS
    refine lv_iconst (v := 0) hx hb dX1_badPage_0 (by decide) ?_
    refine lv_istore_n (lv' := [(2, .int (0 : Int32)), (0, .ref (c 102)), (1, .int p0)]) hx hb dX1_badPage_1 rfl hl (by decide) rfl (fun ls hl => ?_)
    refine lv_iconst (v := 0) hx hb dX1_badPage_2 (by decide) ?_
    refine lv_istore_n (lv' := [(3, .int (0 : Int32)), (2, .int (0 : Int32)), (0, .ref (c 102)), (1, .int p0)]) hx hb dX1_badPage_3 rfl hl (by decide) rfl (fun ls hl => ?_)
    have loop4 : ∀ (n : Nat) (l3_4 : Int32) (l2_4 : Int32) (R9_4 : va_W) (H : Heap) (locs : List Loc) (ls : Array Slot), (0 ≤ l3_4.toInt) → (l3_4.toInt ≤ (st 13).toInt) → (0 ≤ l2_4.toInt) → (l2_4.toInt ≤ l3_4.toInt) → (PI (kc 98) (kc 0) (c 99) (st 13) cap num none R9_4) → (va_D A (cw_W c kc st lg ai al R9_4)) → (∀ y m, pgM (kc 0) R y m → pgM (kc 0) R9_4 y m) → ((st 13).toInt - l3_4.toInt : Int).toNat < n → va_P (dC, dI) vwCl (cw_W c kc st lg ai al R9_4) H → va_S A s.heap H locs → lv_has ls 5 [(3, .int l3_4), (2, .int l2_4), (0, .ref (c 102)), (1, .int p0)] → W p l e (headSpec wsX1_badPage ({ frames := 4, cells := 0, slots := 0, locals := 96 })).room s m ([.ref (c 102), .int p0] : List Value).toArray below meth cM H locs 0 0 (MQ below (va_Qq (fun r (u : Option Nat) => r = u) (fun u t => ∃ (R9 : va_W), (∀ x, u = some x → ∃ m, pgM (kc 0) R9 x m ∧ True) ∧ (PI (kc 98) (kc 0) (c 99) (st 13) cap num none R9) ∧ (∀ y m, pgM (kc 0) R y m → pgM (kc 0) R9 y m) ∧ (va_D A (cw_W c kc st lg ai al R9)) ∧ va_P (dC, dI) vwCl (cw_W c kc st lg ai al R9) t.heap) A) ([.ref (c 102), .int p0] : List Value).toArray s 0 0 A) (F0 m 4 ls []) := by
      intro n
      induction n with
      | zero => intro l3_4 l2_4 R9_4 H locs ls if0_4 if1_4 if2_4 if3_4 hPI hD hmono hm; exact absurd hm (Nat.not_lt_zero _)
      | succ n ih4 =>
        intro l3_4 l2_4 R9_4 H locs ls if0_4 if1_4 if2_4 if3_4 hPI hD hmono hm4 hP hS hl
        refine lv_iload_n hx hb dX1_badPage_4 rfl (lv_at hl 0 rfl) ?_
        refine lv_aload_n hx hb dX1_badPage_5 rfl (lv_at hl 2 rfl) ?_
        refine va_get (D := (dC, dI)) (ci := 3) (v := .ref (c 103)) (C := RX1) (T := TX1) (N := 7) hx hb hts hin_X1 hown hK hP 2 rfl rfl 3 (by decide) (hts (.fieldLink RX1 25 "BlockLog$Disk" "touched" "Ljava/util/ArrayList;") (by decide +kernel)) (fun _ h9 => h9) rfl dX1_badPage_6 ?_
        refine vp_callSi (va_Run.run (va_runV (As := []) (rest := [.int l3_4]) ⟨hx, hb, hml, hown, hts⟩ (v_Jx4a65c_size_8abf5 l dC dI c kc st lg ai al R9_4  (show 0 ≤ (st 13).toInt by omega) (show (st 13).toInt ≤ 65536 by omega)) (cwV 0 hts gX1_badPage_Jx4a65c_size_8abf5 rfl rfl rfl (by decide +kernel) ⟨Nat.le_of_ble_eq_true rfl, Nat.le_of_ble_eq_true rfl⟩) ⟨fun a U g mk q => by obtain ⟨q0, qP, qK⟩ := q; exact ⟨q0, qP, va_K.moved (u := U) (U := U.calling g mk a) (Vm.Alike.refl U.vm) qK⟩, va_recv hK hP (ci := 2) (q := (RJx4a65c, TJx4a65c, 3)) rfl (q0 := 3) rfl, fun U hU hW => ⟨rfl, by rw [hU]; exact hP, va_K.moved hW.alike hK⟩⟩ rfl rfl hl.1 rfl (lv_room (Nat.le_of_ble_eq_true rfl)) dX1_badPage_9 ⟨Nat.le_of_ble_eq_true rfl, Nat.le_of_ble_eq_true rfl⟩)) (fun r_1 er_1 => ?_)
        have k_2 := er_1
        have k_2 : r_1.toInt = (st 13).toInt := k_2
        refine lv_icmp_ge (tgt := 54) hx hb dX1_badPage_12 (by decide) (fun c_3 => ?_) (fun c_3 => ?_)
        · skip
          have ic_3 := iv_le c_3
          refine lv_null hx hb dX1_badPage_54 ?_
          exact W.aret hx hb hr (Or.inl ⟨_, rfl⟩) (Or.inl rfl) (fun t ht hW => ⟨⟨none, _, rfl, rfl, R9_4, (fun x h => by cases h), hPI, hmono, (cw_D hD), by rw [ht]; exact hP⟩, hS.F ht⟩) hS.2.2 dX1_badPage_55
        · skip
          have ic_3 := iv_nle c_3
          refine lv_aload_n hx hb dX1_badPage_15 rfl (lv_at hl 2 rfl) ?_
          refine va_get (D := (dC, dI)) (ci := 3) (v := .ref (c 103)) (C := RX1) (T := TX1) (N := 7) hx hb hts hin_X1 hown hK hP 2 rfl rfl 3 (by decide) (hts (.fieldLink RX1 25 "BlockLog$Disk" "touched" "Ljava/util/ArrayList;") (by decide +kernel)) (fun _ h9 => h9) rfl dX1_badPage_16 ?_
          refine lv_iload_n hx hb dX1_badPage_19 rfl (lv_at hl 0 rfl) ?_
          refine va_csq (va_Run.run (va_runV (As := [.int l3_4]) (rest := []) ⟨hx, hb, hml, hown, hts⟩ (v_Jx4a65c_get_915e3 l dC dI c kc st lg ai al R9_4 cap num l3_4 hPI (show 0 ≤ (st 13).toInt by omega) (show (st 13).toInt ≤ 65536 by omega) (by omega) (show l3_4.toInt < (st 13).toInt by omega)) (cwV 1 hts gX1_badPage_Jx4a65c_get_915e3 rfl rfl rfl (by decide +kernel) ⟨Nat.le_of_ble_eq_true rfl, Nat.le_of_ble_eq_true rfl⟩) ⟨fun a U g mk q => by obtain ⟨q0, qP, qK⟩ := q; exact ⟨q0, qP, va_K.moved (u := U) (U := U.calling g mk a) (Vm.Alike.refl U.vm) qK⟩, va_recv hK hP (ci := 2) (q := (RJx4a65c, TJx4a65c, 3)) rfl (q0 := 3) rfl, fun U hU hW => ⟨rfl, by rw [hU]; exact hP, va_K.moved hW.alike hK⟩⟩ rfl rfl hl.1 rfl (lv_room (Nat.le_of_ble_eq_true rfl)) dX1_badPage_20 ⟨Nat.le_of_ble_eq_true rfl, Nat.le_of_ble_eq_true rfl⟩)) (fun r_4 er_4 => ?_)
          obtain ⟨hq, hnn⟩ := er_4
          have hq : ∀ x, r_4 = some x → ∃ m, pgM (kc 0) R9_4 x m ∧ m = num l3_4.toNatClampNeg := hq
          have hnn : r_4 ≠ none := hnn
          rcases r_4 with _ | x_5
          · skip
            exact absurd rfl hnn
          · skip
            refine W.eq (g2 := F0 m 23 ls [.ref x_5]) rfl ?_
            obtain ⟨m_6, hM_x_5, hQ⟩ := hq x_5 rfl
            have hMo := hM_x_5
            obtain ⟨b_7, k9_7, f9_7, ⟨j_7, hj_7⟩, i_7, hi_7⟩ := hMo
            refine va_castY hx hb hown (hts (.classLink RX1 44 "BlockLog$Page") (by decide +kernel)) (hGW.2.2.1 "BlockLog$Page" (by decide)) (va_recv hK hP (ci := 4) (q := (RX2, TX2, 3)) rfl (q0 := 26 + j_7) (cw_at hj_7)) dX1_badPage_23 ?_
            refine lv_astore (lv' := [(4, .ref x_5), (3, .int l3_4), (2, .int l2_4), (0, .ref (c 102)), (1, .int p0)]) hx hb dX1_badPage_26 hl (by decide) rfl (fun ls hl => ?_)
            refine lv_aload hx hb dX1_badPage_28 (lv_at hl 0 rfl) ?_
            have hFc := vfree ((cw_D hD : va_D A (cw_W c kc st lg ai al R9_4)) : va_D A (cw_W c kc st lg ai al R9_4)) hS hA
            refine va_calli (va_runV (As := []) (rest := []) ⟨hx, hb, hml, hown, hts⟩ (v_X2_state l dC dI c kc st lg ai al R9_4 cap num x_5 b_7 j_7 i_7 m_6 k9_7 f9_7  _ hPI hj_7 hi_7 ) (cwV 0 hts gX1_badPage_X2_state rfl rfl rfl (by decide +kernel) ⟨Nat.le_of_ble_eq_true rfl, Nat.le_of_ble_eq_true rfl⟩) ⟨fun a U g mk q => by obtain ⟨q0, q1, qP, qK, qD⟩ := q; exact ⟨q0, q1, qP, va_K.moved (u := U) (U := U.calling g mk a) (Vm.Alike.refl U.vm) qK, qD⟩, va_recv hK hP (ci := 4) (q := (RX2, TX2, 3)) rfl (q0 := 26 + j_7) (cw_at hj_7), fun U hU hW => ⟨rfl, by rw [hU], by rw [hU]; exact hP, va_K.moved hW.alike hK, ((cw_D hD : va_D A (cw_W c kc st lg ai al R9_4))).weaken (fun _ _ _ _ => trivial)⟩⟩ rfl rfl hl.1 rfl (lv_room (Nat.le_of_ble_eq_true rfl)) dX1_badPage_30 ⟨Nat.le_of_ble_eq_true rfl, Nat.le_of_ble_eq_true rfl⟩) hS (fun q _ h => hFc q h) hFc (fun r_8 ur_8 t H1 locs ht hvm er_8 hB hz1 hk1 hS => ?_)
            subst er_8
            obtain ⟨R_8, hrt, hPI, hmo, hD1, hP1⟩ := hB
            rw [ht] at hP1
            clear hz1 hk1 hvm hP
            subst ht
            have hP := hP1
            clear hP1
            generalize t.heap = H at hP hS ⊢
            have hP : va_P (dC, dI) vwCl (cw_W c kc st lg ai al R_8) H := hP
            have hD : va_D A (cw_W c kc st lg ai al R_8) := cw_D (hD1.weaken (fun _ _ _ h => hFc _ h))
            have hPI : PI (kc 98) (kc 0) (c 99) (st 13) cap num none R_8 := hPI
            clear hFc hD1
            have hM_x_5 := hmo _ _ hM_x_5
            have hmono : ∀ y m, pgM (kc 0) R y m → pgM (kc 0) R_8 y m := fun y m h => hmo y m (hmono y m h)
            have hrt : r_8.toInt = 2 → pgRt (kc 0) R_8 x_5 := hrt
            refine lv_iconst (v := 4) hx hb dX1_badPage_33 (by decide) ?_
            refine lv_icmp_ne (tgt := 48) hx hb dX1_badPage_34 (by decide) (fun c_9 => ?_) (fun c_9 => ?_)
            · skip
              have ic_9 := iv_ne c_9
              obtain ⟨x_10, ex_10⟩ : ∃ z : Int32, z = l3_4 + (1) := ⟨_, rfl⟩
              refine lv_iinc (v := x_10) (lv' := [(3, .int x_10), (4, .ref x_5), (2, .int l2_4), (0, .ref (c 102)), (1, .int p0)]) hx hb dX1_badPage_48 hl (k := 1) rfl (by rw [ex_10]; rfl) (by decide) rfl (fun ls hl => ?_)
              have rg1 := iv_rng l3_4
              have hx_10 : x_10.toInt = l3_4.toInt + (1) := by rw [ex_10]; exact (iv_add (by omega) (by omega)).trans (by omega)
              clear ex_10
              refine lv_goto (tgt := 4) hx hb dX1_badPage_51 (by decide) ?_
              exact ih4 x_10 l2_4 R_8 _ _ _ (by omega) (by omega) (by omega) (by omega) hPI (cw_D hD) hmono (by omega) hP hS (lv_sub hl [0, 2, 3, 4] rfl)
            · skip
              have ic_9 := iv_eq c_9
              refine lv_iload_n hx hb dX1_badPage_37 rfl (lv_at hl 2 rfl) ?_
              refine lv_iload_n hx hb dX1_badPage_38 rfl (lv_at hl 4 rfl) ?_
              refine lv_icmp_ne (tgt := 45) hx hb dX1_badPage_39 (by decide) (fun c_11 => ?_) (fun c_11 => ?_)
              · skip
                have ic_11 := iv_ne c_11
                obtain ⟨x_12, ex_12⟩ : ∃ z : Int32, z = l2_4 + (1) := ⟨_, rfl⟩
                refine lv_iinc (v := x_12) (lv' := [(2, .int x_12), (4, .ref x_5), (3, .int l3_4), (0, .ref (c 102)), (1, .int p0)]) hx hb dX1_badPage_45 hl (k := 2) rfl (by rw [ex_12]; rfl) (by decide) rfl (fun ls hl => ?_)
                have rg2 := iv_rng l2_4
                have hx_12 : x_12.toInt = l2_4.toInt + (1) := by rw [ex_12]; exact (iv_add (by omega) (by omega)).trans (by omega)
                clear ex_12
                obtain ⟨x_13, ex_13⟩ : ∃ z : Int32, z = l3_4 + (1) := ⟨_, rfl⟩
                refine lv_iinc (v := x_13) (lv' := [(3, .int x_13), (2, .int x_12), (4, .ref x_5), (0, .ref (c 102)), (1, .int p0)]) hx hb dX1_badPage_48 hl (k := 2) rfl (by rw [ex_13]; rfl) (by decide) rfl (fun ls hl => ?_)
                have rg3 := iv_rng l3_4
                have hx_13 : x_13.toInt = l3_4.toInt + (1) := by rw [ex_13]; exact (iv_add (by omega) (by omega)).trans (by omega)
                clear ex_13
                refine lv_goto (tgt := 4) hx hb dX1_badPage_51 (by decide) ?_
                exact ih4 x_13 x_12 R_8 _ _ _ (by omega) (by omega) (by omega) (by omega) hPI (cw_D hD) hmono (by omega) hP hS (lv_sub hl [0, 1, 3, 4] rfl)
              · skip
                have ic_11 := iv_eq c_11
                refine lv_aload hx hb dX1_badPage_42 (lv_at hl 0 rfl) ?_
                exact W.aret hx hb hr (Or.inl ⟨_, rfl⟩) (Or.inr ⟨_, rfl⟩) (fun t ht hW => ⟨⟨some x_5, _, rfl, rfl, R_8, (fun x h => by cases h; exact ⟨_, hM_x_5, trivial⟩), hPI, hmono, (cw_D hD), by rw [ht]; exact hP⟩, hS.F ht⟩) hS.2.2 dX1_badPage_44
    exact loop4 (((st 13).toInt - 0 : Int).toNat + 1) (0 : Int32) (0 : Int32) R _ _ _ (by omega) (by omega) (by omega) (by omega) hPI (cw_D hD) hmono (by omega) hP hS (lv_sub hl [0, 1, 2, 3] rfl)
  exact main s.heap [] hP hS

set_option maxHeartbeats 4000000 in
set_option maxRecDepth 100000 in
theorem v_X1_erasePage (l : Launch) (dC : Nat → ClassId) (dI : Nat → Nat → Nat) (c : Nat → Nat) (kc : Nat → ClassId) (st : Nat → Int32) (lg : Nat → Int64) (ai : Nat → Nat → Int32) (al : Nat → Nat → Int64) (R : va_W) (cap : Nat) (num : Nat → Int32) (x0 b0 j0 i0 : Nat) (m0 k0 : Int32) (f0 : Nat → Int32)  (sz : Nat) (hPI : PI (kc 98) (kc 0) (c 99) (st 13) cap num none R) (hj0 : R[j0]? = some (pgO x0 m0 b0 k0)) (hi0 : R[i0]? = some (pgB (kc 0) b0 f0)) (hf9a : 0 ≤ (st 9).toInt) (hf9b : (st 9).toInt ≤ 1) : Met l yX1_erasePage wsX1_erasePage ({ frames := 1, cells := 0, slots := 0, locals := 20 }) (va_Pc [.ref (c 102), .ref x0] (fun U => U.heap.size = sz ∧ va_P (dC, dI) vwCl (cw_W c kc st lg ai al R) U.heap ∧ va_K (dC, dI) vwCl (cw_T kc) U ∧ va_D (fun _ => True) (cw_W c kc st lg ai al R) ∧ gx_E (va_A (cw_W c kc st lg ai al R) sz) U)) (va_Qi (fun r (u : Int32) => r = u) (fun u t => ∃ (x9 : Int32) (x10 : Int32) (x11 : Int32) (R9 : va_W), (0 ≤ u.toInt) ∧ (u.toInt ≤ 1) ∧ (0 ≤ x9.toInt) ∧ (x9.toInt ≤ 1) ∧ (PI (kc 98) (kc 0) (c 99) (st 13) cap num none R9) ∧ (∀ y m, pgM (kc 0) R y m → pgM (kc 0) R9 y m) ∧ (va_D (va_A (cw_W c kc st lg ai al R) sz) (cw_W c kc (rU (rU (rU st 9 x9) 10 x10) 11 x11) lg ai al R9)) ∧ va_P (dC, dI) vwCl (cw_W c kc (rU (rU (rU st 9 x9) 10 x10) 11 x11) lg ai al R9) t.heap) (va_A (cw_W c kc st lg ai al R) sz)) 0 0 (va_A (cw_W c kc st lg ai al R) sz) := by
  refine Met.ofW (cc := cX1_erasePage) (maxL := 3) (ret := (some .boolean)) (by decide) rfl ?_
  intro p e s m args below meth cM s₁ B hml hv
  obtain ⟨rfl, hsz, hP, hK, hD0, hG⟩ := hv
  have hx := B.exec
  have hb := B.bytes
  have hr := B.returns
  have hts := atoms_spec (ws := wsX1_erasePage) B.pre
  have hown : s.vm.findClass RX1 = some m.cls := findClass_of_methodNamed B.named
  have hGW := hG.1
  subst hsz
  have hD := hD0.self (sz := s.heap.size)
  generalize hAe : va_A (cw_W c kc st lg ai al R) s.heap.size = A at hD hG ⊢
  have hA : ∀ q : Nat, s.heap.size ≤ q → A q := fun q h => by rw [← hAe]; exact Or.inr h
  have hS : va_S A s.heap s.heap [] := va_S.rf
  clear hAe hD0
  have hl := lv_entry ([.ref (c 102), .ref x0]) (n := 3) (Nat.le_of_ble_eq_true rfl)
  rw [lg_entry_eq]
  generalize (lg_sl ([.ref (c 102), .ref x0]) ++ List.replicate (3 - (lg_sl ([.ref (c 102), .ref x0])).length) Slot.unset).toArray = ls at hl ⊢
  have hl : lv_has ls 3 [(0, .ref (c 102)), (1, .ref x0)] := hl
  have z_0 : (0 : Int32).toInt = 0 := by decide
  have z_1 : (1 : Int32).toInt = 1 := by decide
  have z_26 : (26 : Int32).toInt = 26 := by decide
  have hin_X2 : ∀ w ∈ u_ws RX2 TX2 3, w ∈ wsX1_erasePage := by decide +kernel
  have hM_x0 : pgM (kc 0) R x0 m0 := ⟨b0, k0, f0, ⟨j0, hj0⟩, i0, hi0⟩
  have hmono : ∀ y m, pgM (kc 0) R y m → pgM (kc 0) R y m := fun y m h => h
  have main : ∀ (H : Heap) (locs : List Loc), va_P (dC, dI) vwCl (cw_W c kc st lg ai al R) H → va_S A s.heap H locs → W p l e (headSpec wsX1_erasePage ({ frames := 1, cells := 0, slots := 0, locals := 20 })).room s m ([.ref (c 102), .ref x0] : List Value).toArray below meth cM H locs 0 0 (MQ below (va_Qi (fun r (u : Int32) => r = u) (fun u t => ∃ (x9 : Int32) (x10 : Int32) (x11 : Int32) (R9 : va_W), (0 ≤ u.toInt) ∧ (u.toInt ≤ 1) ∧ (0 ≤ x9.toInt) ∧ (x9.toInt ≤ 1) ∧ (PI (kc 98) (kc 0) (c 99) (st 13) cap num none R9) ∧ (∀ y m, pgM (kc 0) R y m → pgM (kc 0) R9 y m) ∧ (va_D A (cw_W c kc (rU (rU (rU st 9 x9) 10 x10) 11 x11) lg ai al R9)) ∧ va_P (dC, dI) vwCl (cw_W c kc (rU (rU (rU st 9 x9) 10 x10) 11 x11) lg ai al R9) t.heap) A) ([.ref (c 102), .ref x0] : List Value).toArray s 0 0 A) (F0 m 0 ls []) := by
    intro H locs hP hS
    refine lv_aload_n hx hb dX1_erasePage_0 rfl (lv_at hl 0 rfl) ?_
    have hFc := vfree ((cw_D hD : va_D A (cw_W c kc st lg ai al R)) : va_D A (cw_W c kc st lg ai al R)) hS hA
    refine va_calli (va_runV (As := []) (rest := []) ⟨hx, hb, hml, hown, hts⟩ (v_X1_act l dC dI c kc st lg ai al R  _ (show 0 ≤ (st 9).toInt by omega) (show (st 9).toInt ≤ 1 by omega)) (cwV 0 hts gX1_erasePage_X1_act rfl rfl rfl (by decide +kernel) ⟨Nat.le_of_ble_eq_true rfl, Nat.le_of_ble_eq_true rfl⟩) ⟨fun a U g mk q => by obtain ⟨q0, q1, qP, qK, qD⟩ := q; exact ⟨q0, q1, qP, va_K.moved (u := U) (U := U.calling g mk a) (Vm.Alike.refl U.vm) qK, qD⟩, va_recv hK hP (ci := 3) (q := (RX1, TX1, 7)) rfl (q0 := 2) rfl, fun U hU hW => ⟨rfl, by rw [hU], by rw [hU]; exact hP, va_K.moved hW.alike hK, ((cw_D hD : va_D A (cw_W c kc st lg ai al R))).weaken (fun _ _ _ _ => trivial)⟩⟩ rfl rfl hl.1 rfl (lv_room (Nat.le_of_ble_eq_true rfl)) dX1_erasePage_1 ⟨Nat.le_of_ble_eq_true rfl, Nat.le_of_ble_eq_true rfl⟩) hS (fun q _ h => hFc q h) hFc (fun r_1 ur_1 t H1 locs ht hvm er_1 hB hz1 hk1 hS => ?_)
    subst er_1
    obtain ⟨x9_1, x10_1, x11_1, k_2, k_3, k_4, k_5, hP1⟩ := hB
    rw [ht] at hP1
    clear hFc hz1 hk1 hvm hP
    subst ht
    have hP := hP1
    clear hP1
    generalize t.heap = H at hP hS ⊢
    have hP : va_P (dC, dI) vwCl (cw_W c kc (rU (rU (rU st 9 x9_1) 10 x10_1) 11 x11_1) lg ai al R) H := hP
    have k_4 : 0 ≤ x9_1.toInt := k_4
    have k_5 : x9_1.toInt ≤ 1 := k_5
    rcases iv_01 (a := r_1) (by omega) (by omega) with b_6 | b_6
    · skip
      have ib_6 := iv_eq b_6
      rw [b_6]
      refine lv_if_ne (tgt := 9) hx hb dX1_erasePage_4 (by decide) (fun c_7 => ?_) (fun c_7 => ?_)
      · skip
        have ic_7 := iv_ne c_7
        exfalso
        omega
      · skip
        have ic_7 := iv_eq c_7
        refine lv_iconst (v := 0) hx hb dX1_erasePage_7 (by decide) ?_
        exact W.zret hx hb hr rfl (fun t ht hW => ⟨⟨_, _, rfl, rfl, x9_1, x10_1, x11_1, R, (by omega), (by omega), (by omega), (by omega), hPI, hmono, (cw_D hD), by rw [ht]; exact hP⟩, hS.F ht⟩) hS.2.2 dX1_erasePage_8
    · skip
      have ib_6 := iv_eq b_6
      rw [b_6]
      refine lv_if_ne (tgt := 9) hx hb dX1_erasePage_4 (by decide) (fun c_8 => ?_) (fun c_8 => ?_)
      · skip
        have ic_8 := iv_ne c_8
        refine lv_iconst (v := 0) hx hb dX1_erasePage_9 (by decide) ?_
        refine lv_istore_n (lv' := [(2, .int (0 : Int32)), (0, .ref (c 102)), (1, .ref x0)]) hx hb dX1_erasePage_10 rfl hl (by decide) rfl (fun ls hl => ?_)
        have loop11 : ∀ (n : Nat) (l2_11 : Int32) (R9_11 : va_W) (H : Heap) (locs : List Loc) (ls : Array Slot), (0 ≤ l2_11.toInt) → (l2_11.toInt ≤ 26) → (PI (kc 98) (kc 0) (c 99) (st 13) cap num (some x0) R9_11) → (va_D A (cw_W c kc st lg ai al R9_11)) → (∀ y m, pgM (kc 0) R y m → pgM (kc 0) R9_11 y m) → (pgM (kc 0) R9_11 x0 m0) → (26 - l2_11.toInt : Int).toNat < n → va_P (dC, dI) vwCl (cw_W c kc (rU (rU (rU st 9 x9_1) 10 x10_1) 11 x11_1) lg ai al R9_11) H → va_S A s.heap H locs → lv_has ls 3 [(2, .int l2_11), (0, .ref (c 102)), (1, .ref x0)] → W p l e (headSpec wsX1_erasePage ({ frames := 1, cells := 0, slots := 0, locals := 20 })).room s m ([.ref (c 102), .ref x0] : List Value).toArray below meth cM H locs 0 0 (MQ below (va_Qi (fun r (u : Int32) => r = u) (fun u t => ∃ (x9 : Int32) (x10 : Int32) (x11 : Int32) (R9 : va_W), (0 ≤ u.toInt) ∧ (u.toInt ≤ 1) ∧ (0 ≤ x9.toInt) ∧ (x9.toInt ≤ 1) ∧ (PI (kc 98) (kc 0) (c 99) (st 13) cap num none R9) ∧ (∀ y m, pgM (kc 0) R y m → pgM (kc 0) R9 y m) ∧ (va_D A (cw_W c kc (rU (rU (rU st 9 x9) 10 x10) 11 x11) lg ai al R9)) ∧ va_P (dC, dI) vwCl (cw_W c kc (rU (rU (rU st 9 x9) 10 x10) 11 x11) lg ai al R9) t.heap) A) ([.ref (c 102), .ref x0] : List Value).toArray s 0 0 A) (F0 m 11 ls []) := by
          intro n
          induction n with
          | zero => intro l2_11 R9_11 H locs ls if0_11 if1_11 hPI hD hmono hM_x0 hm; exact absurd hm (Nat.not_lt_zero _)
          | succ n ih11 =>
            intro l2_11 R9_11 H locs ls if0_11 if1_11 hPI hD hmono hM_x0 hm11 hP hS hl
            refine lv_iload_n hx hb dX1_erasePage_11 rfl (lv_at hl 0 rfl) ?_
            refine lv_bipush (v := 26) hx hb dX1_erasePage_12 (by decide) ?_
            refine lv_icmp_ge (tgt := 30) hx hb dX1_erasePage_14 (by decide) (fun c_9 => ?_) (fun c_9 => ?_)
            · skip
              have ic_9 := iv_le c_9
              refine lv_aload_n hx hb dX1_erasePage_30 rfl (lv_at hl 2 rfl) ?_
              refine lv_iconst (v := 1) hx hb dX1_erasePage_31 (by decide) ?_
              have hMo := hM_x0
              obtain ⟨b_10, k9_10, f9_10, ⟨j_10, hj_10⟩, i_10, hi_10⟩ := hMo
              refine va_putN (D := (dC, dI)) (ci := 4) (v := .int (1 : Int32)) (ty := .int) (C := RX2) (T := TX2) (N := 3) hx hb hts hin_X2 tyX2 tyX2_ok nmX2 hown hK hP (cw_D hD) hS (26 + j_10) (cw_at hj_10) rfl 2 (by decide) (va_Nw.use rfl (hGW.1 ("BlockLog$Disk", 55, "BlockLog$Page", "known", "I", "BlockLog") (by decide +kernel))) (fun _ h9 => h9) rfl (by decide +kernel) rfl rfl (Nat.le_of_ble_eq_true rfl) dX1_erasePage_32 (fun H locs hP hD9 hS => ?_)
              obtain ⟨R_11, hP, hD, hPI1, hPI2, hmo, hj_11, hi_11⟩ := pg_setk (k' := (1 : Int32)) hP hD9 hPI hj_10 hi_10 (Or.inr rfl)
              have hPI := hPI2 (by decide)
              have hM_x0 := hmo _ _ hM_x0
              have hmono : ∀ y m, pgM (kc 0) R y m → pgM (kc 0) R_11 y m := fun y m h => hmo y m (hmono y m h)
              have hP : va_P (dC, dI) vwCl (cw_W c kc (rU (rU (rU st 9 x9_1) 10 x10_1) 11 x11_1) lg ai al R_11) H := hP
              refine lv_iconst (v := 1) hx hb dX1_erasePage_35 (by decide) ?_
              exact W.zret hx hb hr rfl (fun t ht hW => ⟨⟨_, _, rfl, rfl, x9_1, x10_1, x11_1, R_11, (by omega), (by omega), (by omega), (by omega), hPI, hmono, (cw_D hD), by rw [ht]; exact hP⟩, hS.F ht⟩) hS.2.2 dX1_erasePage_36
            · skip
              have ic_9 := iv_nle c_9
              refine lv_aload_n hx hb dX1_erasePage_17 rfl (lv_at hl 2 rfl) ?_
              have hMo := hM_x0
              obtain ⟨b_12, k9_12, f9_12, ⟨j_12, hj_12⟩, i_12, hi_12⟩ := hMo
              refine va_getN (D := (dC, dI)) (ci := 4) (v := .ref b_12) (C := RX2) (T := TX2) (N := 3) hx hb hts hin_X2 hown hK hP (26 + j_12) (cw_at hj_12) rfl 1 (by decide) (va_Nw.use rfl (hGW.1 ("BlockLog$Disk", 43, "BlockLog$Page", "bytes", "[B", "BlockLog") (by decide +kernel))) (fun _ h9 => h9) rfl dX1_erasePage_18 ?_
              refine lv_iload_n hx hb dX1_erasePage_21 rfl (lv_at hl 0 rfl) ?_
              refine lv_iconst (v := 0) hx hb dX1_erasePage_22 (by decide) ?_
              refine va_bast (f := f9_12) hx hb hK hP (cw_D hD) hS (26 + i_12) 0 (cw_at hi_12) rfl (iv_in (i := l2_11) (by omega) (by omega)) dX1_erasePage_23 (fun H locs hP hD9 hS => ?_)
              generalize hUp : upd f9_12 l2_11.toNatClampNeg (vp_nar .byte (0 : Int32)) = f9_13 at hP hD9
              obtain ⟨R_13, hP, hD, hPI1, hPI2, hmo, hj_13, hi_13⟩ := pg_setb (f' := f9_13) hP hD9 hPI hj_12 hi_12 (Or.inr rfl)
              have hPI := hPI1
              clear hUp
              have hM_x0 := hmo _ _ hM_x0
              have hmono : ∀ y m, pgM (kc 0) R y m → pgM (kc 0) R_13 y m := fun y m h => hmo y m (hmono y m h)
              have hP : va_P (dC, dI) vwCl (cw_W c kc (rU (rU (rU st 9 x9_1) 10 x10_1) 11 x11_1) lg ai al R_13) H := hP
              obtain ⟨x_14, ex_14⟩ : ∃ z : Int32, z = l2_11 + (1) := ⟨_, rfl⟩
              refine lv_iinc (v := x_14) (lv' := [(2, .int x_14), (0, .ref (c 102)), (1, .ref x0)]) hx hb dX1_erasePage_24 hl (k := 0) rfl (by rw [ex_14]; rfl) (by decide) rfl (fun ls hl => ?_)
              have rg1 := iv_rng l2_11
              have hx_14 : x_14.toInt = l2_11.toInt + (1) := by rw [ex_14]; exact (iv_add (by omega) (by omega)).trans (by omega)
              clear ex_14
              refine lv_goto (tgt := 11) hx hb dX1_erasePage_27 (by decide) ?_
              exact ih11 x_14 R_13 _ _ _ (by omega) (by omega) (by first | exact hPI | exact PI_out hPI) (cw_D hD) hmono hM_x0 (by omega) hP hS (lv_sub hl [0, 1, 2] rfl)
        exact loop11 ((26 - 0 : Int).toNat + 1) (0 : Int32) R _ _ _ (by omega) (by omega) (by first | exact hPI | exact PI_out hPI) (cw_D hD) hmono hM_x0 (by omega) hP hS (lv_sub hl [0, 1, 2] rfl)
      · skip
        have ic_8 := iv_eq c_8
        exfalso
        omega
  exact main s.heap [] hP hS

set_option maxHeartbeats 4000000 in
set_option maxRecDepth 100000 in
theorem v_X1_eraseTornPages (l : Launch) (dC : Nat → ClassId) (dI : Nat → Nat → Nat) (c : Nat → Nat) (kc : Nat → ClassId) (st : Nat → Int32) (lg : Nat → Int64) (ai : Nat → Nat → Int32) (al : Nat → Nat → Int64) (R : va_W) (cap : Nat) (num : Nat → Int32)  (sz : Nat) (hPI : PI (kc 98) (kc 0) (c 99) (st 13) cap num none R) (hf9a : 0 ≤ (st 9).toInt) (hf9b : (st 9).toInt ≤ 1) (hf13a : 0 ≤ (st 13).toInt) (hf13b : (st 13).toInt ≤ 65536) : Met l yX1_eraseTornPages wsX1_eraseTornPages ({ frames := 4, cells := 0, slots := 0, locals := 96 }) (va_Pc [.ref (c 102)] (fun U => U.heap.size = sz ∧ va_P (dC, dI) vwCl (cw_W c kc st lg ai al R) U.heap ∧ va_K (dC, dI) vwCl (cw_T kc) U ∧ va_D (fun _ => True) (cw_W c kc st lg ai al R) ∧ gx_E (va_A (cw_W c kc st lg ai al R) sz) U)) (va_Qi (fun r (u : Int32) => r = u) (fun u t => ∃ (x9 : Int32) (x10 : Int32) (x11 : Int32) (R9 : va_W), (0 ≤ u.toInt) ∧ (u.toInt ≤ 1) ∧ (0 ≤ x9.toInt) ∧ (x9.toInt ≤ 1) ∧ (PI (kc 98) (kc 0) (c 99) (st 13) cap num none R9) ∧ (∀ y m, pgM (kc 0) R y m → pgM (kc 0) R9 y m) ∧ (va_D (va_A (cw_W c kc st lg ai al R) sz) (cw_W c kc (rU (rU (rU st 9 x9) 10 x10) 11 x11) lg ai al R9)) ∧ va_P (dC, dI) vwCl (cw_W c kc (rU (rU (rU st 9 x9) 10 x10) 11 x11) lg ai al R9) t.heap) (va_A (cw_W c kc st lg ai al R) sz)) 0 0 (va_A (cw_W c kc st lg ai al R) sz) := by
  refine Met.ofW (cc := cX1_eraseTornPages) (maxL := 3) (ret := (some .boolean)) (by decide) rfl ?_
  intro p e s m args below meth cM s₁ B hml hv
  obtain ⟨rfl, hsz, hP, hK, hD0, hG⟩ := hv
  have hx := B.exec
  have hb := B.bytes
  have hr := B.returns
  have hts := atoms_spec (ws := wsX1_eraseTornPages) B.pre
  have hown : s.vm.findClass RX1 = some m.cls := findClass_of_methodNamed B.named
  have hGW := hG.1
  subst hsz
  have hD := hD0.self (sz := s.heap.size)
  generalize hAe : va_A (cw_W c kc st lg ai al R) s.heap.size = A at hD hG ⊢
  have hA : ∀ q : Nat, s.heap.size ≤ q → A q := fun q h => by rw [← hAe]; exact Or.inr h
  have hS : va_S A s.heap s.heap [] := va_S.rf
  clear hAe hD0
  have hl := lv_entry ([.ref (c 102)]) (n := 3) (Nat.le_of_ble_eq_true rfl)
  rw [lg_entry_eq]
  generalize (lg_sl ([.ref (c 102)]) ++ List.replicate (3 - (lg_sl ([.ref (c 102)])).length) Slot.unset).toArray = ls at hl ⊢
  have hl : lv_has ls 3 [(0, .ref (c 102))] := hl
  have z_0 : (0 : Int32).toInt = 0 := by decide
  have z_1 : (1 : Int32).toInt = 1 := by decide
  have z_3 : (3 : Int32).toInt = 3 := by decide
  have hin_X1 : ∀ w ∈ u_ws RX1 TX1 7, w ∈ wsX1_eraseTornPages := by decide +kernel
  have hmono : ∀ y m, pgM (kc 0) R y m → pgM (kc 0) R y m := fun y m h => h
  have main : ∀ (H : Heap) (locs : List Loc), va_P (dC, dI) vwCl (cw_W c kc st lg ai al R) H → va_S A s.heap H locs → W p l e (headSpec wsX1_eraseTornPages ({ frames := 4, cells := 0, slots := 0, locals := 96 })).room s m ([.ref (c 102)] : List Value).toArray below meth cM H locs 0 0 (MQ below (va_Qi (fun r (u : Int32) => r = u) (fun u t => ∃ (x9 : Int32) (x10 : Int32) (x11 : Int32) (R9 : va_W), (0 ≤ u.toInt) ∧ (u.toInt ≤ 1) ∧ (0 ≤ x9.toInt) ∧ (x9.toInt ≤ 1) ∧ (PI (kc 98) (kc 0) (c 99) (st 13) cap num none R9) ∧ (∀ y m, pgM (kc 0) R y m → pgM (kc 0) R9 y m) ∧ (va_D A (cw_W c kc (rU (rU (rU st 9 x9) 10 x10) 11 x11) lg ai al R9)) ∧ va_P (dC, dI) vwCl (cw_W c kc (rU (rU (rU st 9 x9) 10 x10) 11 x11) lg ai al R9) t.heap) A) ([.ref (c 102)] : List Value).toArray s 0 0 A) (F0 m 0 ls []) := by
    intro H locs hP hS
    refine lv_iconst (v := 0) hx hb dX1_eraseTornPages_0 (by decide) ?_
    refine lv_istore_n (lv' := [(1, .int (0 : Int32)), (0, .ref (c 102))]) hx hb dX1_eraseTornPages_1 rfl hl (by decide) rfl (fun ls hl => ?_)
    have loop2 : ∀ (n : Nat) (l1_2 : Int32) (s9_2 : Int32) (s10_2 : Int32) (s11_2 : Int32) (R9_2 : va_W) (H : Heap) (locs : List Loc) (ls : Array Slot), (0 ≤ l1_2.toInt) → (l1_2.toInt ≤ (st 13).toInt) → (0 ≤ s9_2.toInt) → (s9_2.toInt ≤ 1) → (PI (kc 98) (kc 0) (c 99) (st 13) cap num none R9_2) → (va_D A (cw_W c kc st lg ai al R9_2)) → (∀ y m, pgM (kc 0) R y m → pgM (kc 0) R9_2 y m) → ((st 13).toInt - l1_2.toInt : Int).toNat < n → va_P (dC, dI) vwCl (cw_W c kc (rU (rU (rU st 9 s9_2) 10 s10_2) 11 s11_2) lg ai al R9_2) H → va_S A s.heap H locs → lv_has ls 3 [(1, .int l1_2), (0, .ref (c 102))] → W p l e (headSpec wsX1_eraseTornPages ({ frames := 4, cells := 0, slots := 0, locals := 96 })).room s m ([.ref (c 102)] : List Value).toArray below meth cM H locs 0 0 (MQ below (va_Qi (fun r (u : Int32) => r = u) (fun u t => ∃ (x9 : Int32) (x10 : Int32) (x11 : Int32) (R9 : va_W), (0 ≤ u.toInt) ∧ (u.toInt ≤ 1) ∧ (0 ≤ x9.toInt) ∧ (x9.toInt ≤ 1) ∧ (PI (kc 98) (kc 0) (c 99) (st 13) cap num none R9) ∧ (∀ y m, pgM (kc 0) R y m → pgM (kc 0) R9 y m) ∧ (va_D A (cw_W c kc (rU (rU (rU st 9 x9) 10 x10) 11 x11) lg ai al R9)) ∧ va_P (dC, dI) vwCl (cw_W c kc (rU (rU (rU st 9 x9) 10 x10) 11 x11) lg ai al R9) t.heap) A) ([.ref (c 102)] : List Value).toArray s 0 0 A) (F0 m 2 ls []) := by
      intro n
      induction n with
      | zero => intro l1_2 s9_2 s10_2 s11_2 R9_2 H locs ls if0_2 if1_2 if2_2 if3_2 hPI hD hmono hm; exact absurd hm (Nat.not_lt_zero _)
      | succ n ih2 =>
        intro l1_2 s9_2 s10_2 s11_2 R9_2 H locs ls if0_2 if1_2 if2_2 if3_2 hPI hD hmono hm2 hP hS hl
        refine lv_iload_n hx hb dX1_eraseTornPages_2 rfl (lv_at hl 0 rfl) ?_
        refine lv_aload_n hx hb dX1_eraseTornPages_3 rfl (lv_at hl 1 rfl) ?_
        refine va_get (D := (dC, dI)) (ci := 3) (v := .ref (c 103)) (C := RX1) (T := TX1) (N := 7) hx hb hts hin_X1 hown hK hP 2 rfl rfl 3 (by decide) (hts (.fieldLink RX1 25 "BlockLog$Disk" "touched" "Ljava/util/ArrayList;") (by decide +kernel)) (fun _ h9 => h9) rfl dX1_eraseTornPages_4 ?_
        refine vp_callSi (va_Run.run (va_runV (As := []) (rest := [.int l1_2]) ⟨hx, hb, hml, hown, hts⟩ (v_Jx4a65c_size_8abf5 l dC dI c kc (rU (rU (rU st 9 s9_2) 10 s10_2) 11 s11_2) lg ai al R9_2  (show 0 ≤ (st 13).toInt by omega) (show (st 13).toInt ≤ 65536 by omega)) (cwV 0 hts gX1_eraseTornPages_Jx4a65c_size_8abf5 rfl rfl rfl (by decide +kernel) ⟨Nat.le_of_ble_eq_true rfl, Nat.le_of_ble_eq_true rfl⟩) ⟨fun a U g mk q => by obtain ⟨q0, qP, qK⟩ := q; exact ⟨q0, qP, va_K.moved (u := U) (U := U.calling g mk a) (Vm.Alike.refl U.vm) qK⟩, va_recv hK hP (ci := 2) (q := (RJx4a65c, TJx4a65c, 3)) rfl (q0 := 3) rfl, fun U hU hW => ⟨rfl, by rw [hU]; exact hP, va_K.moved hW.alike hK⟩⟩ rfl rfl hl.1 rfl (lv_room (Nat.le_of_ble_eq_true rfl)) dX1_eraseTornPages_7 ⟨Nat.le_of_ble_eq_true rfl, Nat.le_of_ble_eq_true rfl⟩)) (fun r_1 er_1 => ?_)
        have k_2 := er_1
        have k_2 : r_1.toInt = (st 13).toInt := k_2
        refine lv_icmp_ge (tgt := 49) hx hb dX1_eraseTornPages_10 (by decide) (fun c_3 => ?_) (fun c_3 => ?_)
        · skip
          have ic_3 := iv_le c_3
          refine lv_iconst (v := 1) hx hb dX1_eraseTornPages_49 (by decide) ?_
          exact W.zret hx hb hr rfl (fun t ht hW => ⟨⟨_, _, rfl, rfl, s9_2, s10_2, s11_2, R9_2, (by omega), (by omega), (by omega), (by omega), hPI, hmono, (cw_D hD), by rw [ht]; exact hP⟩, hS.F ht⟩) hS.2.2 dX1_eraseTornPages_50
        · skip
          have ic_3 := iv_nle c_3
          refine lv_aload_n hx hb dX1_eraseTornPages_13 rfl (lv_at hl 1 rfl) ?_
          refine va_get (D := (dC, dI)) (ci := 3) (v := .ref (c 103)) (C := RX1) (T := TX1) (N := 7) hx hb hts hin_X1 hown hK hP 2 rfl rfl 3 (by decide) (hts (.fieldLink RX1 25 "BlockLog$Disk" "touched" "Ljava/util/ArrayList;") (by decide +kernel)) (fun _ h9 => h9) rfl dX1_eraseTornPages_14 ?_
          refine lv_iload_n hx hb dX1_eraseTornPages_17 rfl (lv_at hl 0 rfl) ?_
          refine va_csq (va_Run.run (va_runV (As := [.int l1_2]) (rest := []) ⟨hx, hb, hml, hown, hts⟩ (v_Jx4a65c_get_915e3 l dC dI c kc (rU (rU (rU st 9 s9_2) 10 s10_2) 11 s11_2) lg ai al R9_2 cap num l1_2 hPI (show 0 ≤ (st 13).toInt by omega) (show (st 13).toInt ≤ 65536 by omega) (by omega) (show l1_2.toInt < (st 13).toInt by omega)) (cwV 1 hts gX1_eraseTornPages_Jx4a65c_get_915e3 rfl rfl rfl (by decide +kernel) ⟨Nat.le_of_ble_eq_true rfl, Nat.le_of_ble_eq_true rfl⟩) ⟨fun a U g mk q => by obtain ⟨q0, qP, qK⟩ := q; exact ⟨q0, qP, va_K.moved (u := U) (U := U.calling g mk a) (Vm.Alike.refl U.vm) qK⟩, va_recv hK hP (ci := 2) (q := (RJx4a65c, TJx4a65c, 3)) rfl (q0 := 3) rfl, fun U hU hW => ⟨rfl, by rw [hU]; exact hP, va_K.moved hW.alike hK⟩⟩ rfl rfl hl.1 rfl (lv_room (Nat.le_of_ble_eq_true rfl)) dX1_eraseTornPages_18 ⟨Nat.le_of_ble_eq_true rfl, Nat.le_of_ble_eq_true rfl⟩)) (fun r_4 er_4 => ?_)
          obtain ⟨hq, hnn⟩ := er_4
          have hq : ∀ x, r_4 = some x → ∃ m, pgM (kc 0) R9_2 x m ∧ m = num l1_2.toNatClampNeg := hq
          have hnn : r_4 ≠ none := hnn
          rcases r_4 with _ | x_5
          · skip
            exact absurd rfl hnn
          · skip
            refine W.eq (g2 := F0 m 21 ls [.ref x_5]) rfl ?_
            obtain ⟨m_6, hM_x_5, hQ⟩ := hq x_5 rfl
            have hMo := hM_x_5
            obtain ⟨b_7, k9_7, f9_7, ⟨j_7, hj_7⟩, i_7, hi_7⟩ := hMo
            refine va_castY hx hb hown (hts (.classLink RX1 44 "BlockLog$Page") (by decide +kernel)) (hGW.2.2.1 "BlockLog$Page" (by decide)) (va_recv hK hP (ci := 4) (q := (RX2, TX2, 3)) rfl (q0 := 26 + j_7) (cw_at hj_7)) dX1_eraseTornPages_21 ?_
            refine lv_astore_n (lv' := [(2, .ref x_5), (1, .int l1_2), (0, .ref (c 102))]) hx hb dX1_eraseTornPages_24 rfl hl (by decide) rfl (fun ls hl => ?_)
            refine lv_aload_n hx hb dX1_eraseTornPages_25 rfl (lv_at hl 0 rfl) ?_
            have hFc := vfree ((cw_D hD : va_D A (cw_W c kc (rU (rU (rU st 9 s9_2) 10 s10_2) 11 s11_2) lg ai al R9_2)) : va_D A (cw_W c kc (rU (rU (rU st 9 s9_2) 10 s10_2) 11 s11_2) lg ai al R9_2)) hS hA
            refine va_calli (va_runV (As := []) (rest := []) ⟨hx, hb, hml, hown, hts⟩ (v_X2_state l dC dI c kc (rU (rU (rU st 9 s9_2) 10 s10_2) 11 s11_2) lg ai al R9_2 cap num x_5 b_7 j_7 i_7 m_6 k9_7 f9_7  _ hPI hj_7 hi_7 ) (cwV 0 hts gX1_eraseTornPages_X2_state rfl rfl rfl (by decide +kernel) ⟨Nat.le_of_ble_eq_true rfl, Nat.le_of_ble_eq_true rfl⟩) ⟨fun a U g mk q => by obtain ⟨q0, q1, qP, qK, qD⟩ := q; exact ⟨q0, q1, qP, va_K.moved (u := U) (U := U.calling g mk a) (Vm.Alike.refl U.vm) qK, qD⟩, va_recv hK hP (ci := 4) (q := (RX2, TX2, 3)) rfl (q0 := 26 + j_7) (cw_at hj_7), fun U hU hW => ⟨rfl, by rw [hU], by rw [hU]; exact hP, va_K.moved hW.alike hK, ((cw_D hD : va_D A (cw_W c kc (rU (rU (rU st 9 s9_2) 10 s10_2) 11 s11_2) lg ai al R9_2))).weaken (fun _ _ _ _ => trivial)⟩⟩ rfl rfl hl.1 rfl (lv_room (Nat.le_of_ble_eq_true rfl)) dX1_eraseTornPages_26 ⟨Nat.le_of_ble_eq_true rfl, Nat.le_of_ble_eq_true rfl⟩) hS (fun q _ h => hFc q h) hFc (fun r_8 ur_8 t H1 locs ht hvm er_8 hB hz1 hk1 hS => ?_)
            subst er_8
            obtain ⟨R_8, hrt, hPI, hmo, hD1, hP1⟩ := hB
            rw [ht] at hP1
            clear hz1 hk1 hvm hP
            subst ht
            have hP := hP1
            clear hP1
            generalize t.heap = H at hP hS ⊢
            have hP : va_P (dC, dI) vwCl (cw_W c kc (rU (rU (rU st 9 s9_2) 10 s10_2) 11 s11_2) lg ai al R_8) H := hP
            have hD : va_D A (cw_W c kc st lg ai al R_8) := cw_D (hD1.weaken (fun _ _ _ h => hFc _ h))
            have hPI : PI (kc 98) (kc 0) (c 99) (st 13) cap num none R_8 := hPI
            clear hFc hD1
            have hM_x_5 := hmo _ _ hM_x_5
            have hmono : ∀ y m, pgM (kc 0) R y m → pgM (kc 0) R_8 y m := fun y m h => hmo y m (hmono y m h)
            have hrt : r_8.toInt = 2 → pgRt (kc 0) R_8 x_5 := hrt
            refine lv_iconst (v := 3) hx hb dX1_eraseTornPages_29 (by decide) ?_
            refine lv_icmp_ne (tgt := 43) hx hb dX1_eraseTornPages_30 (by decide) (fun c_9 => ?_) (fun c_9 => ?_)
            · skip
              have ic_9 := iv_ne c_9
              obtain ⟨x_10, ex_10⟩ : ∃ z : Int32, z = l1_2 + (1) := ⟨_, rfl⟩
              refine lv_iinc (v := x_10) (lv' := [(1, .int x_10), (2, .ref x_5), (0, .ref (c 102))]) hx hb dX1_eraseTornPages_43 hl (k := 1) rfl (by rw [ex_10]; rfl) (by decide) rfl (fun ls hl => ?_)
              have rg1 := iv_rng l1_2
              have hx_10 : x_10.toInt = l1_2.toInt + (1) := by rw [ex_10]; exact (iv_add (by omega) (by omega)).trans (by omega)
              clear ex_10
              refine lv_goto (tgt := 2) hx hb dX1_eraseTornPages_46 (by decide) ?_
              exact ih2 x_10 s9_2 s10_2 s11_2 R_8 _ _ _ (by omega) (by omega) (by omega) (by omega) hPI (cw_D hD) hmono (by omega) hP hS (lv_sub hl [0, 2] rfl)
            · skip
              have ic_9 := iv_eq c_9
              refine lv_aload_n hx hb dX1_eraseTornPages_33 rfl (lv_at hl 2 rfl) ?_
              refine lv_aload_n hx hb dX1_eraseTornPages_34 rfl (lv_at hl 0 rfl) ?_
              have hMo := hM_x_5
              obtain ⟨b_11, k9_11, f9_11, ⟨j_11, hj_11⟩, i_11, hi_11⟩ := hMo
              have hFc := vfree ((cw_D hD : va_D A (cw_W c kc (rU (rU (rU st 9 s9_2) 10 s10_2) 11 s11_2) lg ai al R_8)) : va_D A (cw_W c kc (rU (rU (rU st 9 s9_2) 10 s10_2) 11 s11_2) lg ai al R_8)) hS hA
              refine va_calli (va_runV (As := [.ref x_5]) (rest := []) ⟨hx, hb, hml, hown, hts⟩ (v_X1_erasePage l dC dI c kc (rU (rU (rU st 9 s9_2) 10 s10_2) 11 s11_2) lg ai al R_8 cap num x_5 b_11 j_11 i_11 m_6 k9_11 f9_11  _ hPI hj_11 hi_11 (show 0 ≤ s9_2.toInt by omega) (show s9_2.toInt ≤ 1 by omega)) (cwV 1 hts gX1_eraseTornPages_X1_erasePage rfl rfl rfl (by decide +kernel) ⟨Nat.le_of_ble_eq_true rfl, Nat.le_of_ble_eq_true rfl⟩) ⟨fun a U g mk q => by obtain ⟨q0, q1, qP, qK, qD, qG⟩ := q; exact ⟨q0, q1, qP, va_K.moved (u := U) (U := U.calling g mk a) (Vm.Alike.refl U.vm) qK, qD, qG.same rfl rfl⟩, va_recv hK hP (ci := 3) (q := (RX1, TX1, 7)) rfl (q0 := 2) rfl, fun U hU hW => ⟨rfl, by rw [hU], by rw [hU]; exact hP, va_K.moved hW.alike hK, ((cw_D hD : va_D A (cw_W c kc (rU (rU (rU st 9 s9_2) 10 s10_2) 11 s11_2) lg ai al R_8))).weaken (fun _ _ _ _ => trivial), hG.go hW hU hS hFc⟩⟩ rfl rfl hl.1 rfl (lv_room (Nat.le_of_ble_eq_true rfl)) dX1_eraseTornPages_35 ⟨Nat.le_of_ble_eq_true rfl, Nat.le_of_ble_eq_true rfl⟩) hS (fun q _ h => hFc q h) hFc (fun r_12 ur_12 t H1 locs ht hvm er_12 hB hz1 hk1 hS => ?_)
              subst er_12
              obtain ⟨x9_12, x10_12, x11_12, R_12, k_13, k_14, k_15, k_16, hPI, hmo, hD1, hP1⟩ := hB
              rw [ht] at hP1
              clear hz1 hk1 hvm hP
              subst ht
              have hP := hP1
              clear hP1
              generalize t.heap = H at hP hS ⊢
              have hP : va_P (dC, dI) vwCl (cw_W c kc (rU (rU (rU st 9 x9_12) 10 x10_12) 11 x11_12) lg ai al R_12) H := hP
              have hD : va_D A (cw_W c kc st lg ai al R_12) := cw_D (hD1.weaken (fun _ _ _ h => hFc _ h))
              have hPI : PI (kc 98) (kc 0) (c 99) (st 13) cap num none R_12 := hPI
              clear hFc hD1
              have hM_x_5 := hmo _ _ hM_x_5
              have hmono : ∀ y m, pgM (kc 0) R y m → pgM (kc 0) R_12 y m := fun y m h => hmo y m (hmono y m h)
              have k_15 : 0 ≤ x9_12.toInt := k_15
              have k_16 : x9_12.toInt ≤ 1 := k_16
              rcases iv_01 (a := r_12) (by omega) (by omega) with b_17 | b_17
              · skip
                have ib_17 := iv_eq b_17
                rw [b_17]
                refine lv_if_ne (tgt := 43) hx hb dX1_eraseTornPages_38 (by decide) (fun c_18 => ?_) (fun c_18 => ?_)
                · skip
                  have ic_18 := iv_ne c_18
                  exfalso
                  omega
                · skip
                  have ic_18 := iv_eq c_18
                  refine lv_iconst (v := 0) hx hb dX1_eraseTornPages_41 (by decide) ?_
                  exact W.zret hx hb hr rfl (fun t ht hW => ⟨⟨_, _, rfl, rfl, x9_12, x10_12, x11_12, R_12, (by omega), (by omega), (by omega), (by omega), hPI, hmono, (cw_D hD), by rw [ht]; exact hP⟩, hS.F ht⟩) hS.2.2 dX1_eraseTornPages_42
              · skip
                have ib_17 := iv_eq b_17
                rw [b_17]
                refine lv_if_ne (tgt := 43) hx hb dX1_eraseTornPages_38 (by decide) (fun c_19 => ?_) (fun c_19 => ?_)
                · skip
                  have ic_19 := iv_ne c_19
                  obtain ⟨x_20, ex_20⟩ : ∃ z : Int32, z = l1_2 + (1) := ⟨_, rfl⟩
                  refine lv_iinc (v := x_20) (lv' := [(1, .int x_20), (2, .ref x_5), (0, .ref (c 102))]) hx hb dX1_eraseTornPages_43 hl (k := 1) rfl (by rw [ex_20]; rfl) (by decide) rfl (fun ls hl => ?_)
                  have rg2 := iv_rng l1_2
                  have hx_20 : x_20.toInt = l1_2.toInt + (1) := by rw [ex_20]; exact (iv_add (by omega) (by omega)).trans (by omega)
                  clear ex_20
                  refine lv_goto (tgt := 2) hx hb dX1_eraseTornPages_46 (by decide) ?_
                  exact ih2 x_20 x9_12 x10_12 x11_12 R_12 _ _ _ (by omega) (by omega) (by omega) (by omega) hPI (cw_D hD) hmono (by omega) hP hS (lv_sub hl [0, 2] rfl)
                · skip
                  have ic_19 := iv_eq c_19
                  exfalso
                  omega
    exact loop2 (((st 13).toInt - 0 : Int).toNat + 1) (0 : Int32) (st 9) (st 10) (st 11) R _ _ _ (by omega) (by omega) (by omega) (by omega) hPI (cw_D hD) hmono (by omega) hP hS (lv_sub hl [0, 1] rfl)
  exact main s.heap [] hP hS

set_option maxHeartbeats 4000000 in
set_option maxRecDepth 100000 in
theorem v_X1_sealPages (l : Launch) (dC : Nat → ClassId) (dI : Nat → Nat → Nat) (c : Nat → Nat) (kc : Nat → ClassId) (st : Nat → Int32) (lg : Nat → Int64) (ai : Nat → Nat → Int32) (al : Nat → Nat → Int64) (R : va_W) (cap : Nat) (num : Nat → Int32)  (sz : Nat) (hPI : PI (kc 98) (kc 0) (c 99) (st 13) cap num none R) (hf9a : 0 ≤ (st 9).toInt) (hf9b : (st 9).toInt ≤ 1) (hf13a : 0 ≤ (st 13).toInt) (hf13b : (st 13).toInt ≤ 65536) : Met l yX1_sealPages wsX1_sealPages ({ frames := 4, cells := 0, slots := 0, locals := 96 }) (va_Pc [.ref (c 102)] (fun U => U.heap.size = sz ∧ va_P (dC, dI) vwCl (cw_W c kc st lg ai al R) U.heap ∧ va_K (dC, dI) vwCl (cw_T kc) U ∧ va_D (fun _ => True) (cw_W c kc st lg ai al R) ∧ gx_E (va_A (cw_W c kc st lg ai al R) sz) U)) (va_Qi (fun r (u : Int32) => r = u) (fun u t => ∃ (x9 : Int32) (x10 : Int32) (x11 : Int32) (R9 : va_W), (0 ≤ u.toInt) ∧ (u.toInt ≤ 1) ∧ (0 ≤ x9.toInt) ∧ (x9.toInt ≤ 1) ∧ (PI (kc 98) (kc 0) (c 99) (st 13) cap num none R9) ∧ (∀ y m, pgM (kc 0) R y m → pgM (kc 0) R9 y m) ∧ (va_D (va_A (cw_W c kc st lg ai al R) sz) (cw_W c kc (rU (rU (rU st 9 x9) 10 x10) 11 x11) lg ai al R9)) ∧ va_P (dC, dI) vwCl (cw_W c kc (rU (rU (rU st 9 x9) 10 x10) 11 x11) lg ai al R9) t.heap) (va_A (cw_W c kc st lg ai al R) sz)) 0 0 (va_A (cw_W c kc st lg ai al R) sz) := by
  refine Met.ofW (cc := cX1_sealPages) (maxL := 3) (ret := (some .boolean)) (by decide) rfl ?_
  intro p e s m args below meth cM s₁ B hml hv
  obtain ⟨rfl, hsz, hP, hK, hD0, hG⟩ := hv
  have hx := B.exec
  have hb := B.bytes
  have hr := B.returns
  have hts := atoms_spec (ws := wsX1_sealPages) B.pre
  have hown : s.vm.findClass RX1 = some m.cls := findClass_of_methodNamed B.named
  have hGW := hG.1
  subst hsz
  have hD := hD0.self (sz := s.heap.size)
  generalize hAe : va_A (cw_W c kc st lg ai al R) s.heap.size = A at hD hG ⊢
  have hA : ∀ q : Nat, s.heap.size ≤ q → A q := fun q h => by rw [← hAe]; exact Or.inr h
  have hS : va_S A s.heap s.heap [] := va_S.rf
  clear hAe hD0
  have hl := lv_entry ([.ref (c 102)]) (n := 3) (Nat.le_of_ble_eq_true rfl)
  rw [lg_entry_eq]
  generalize (lg_sl ([.ref (c 102)]) ++ List.replicate (3 - (lg_sl ([.ref (c 102)])).length) Slot.unset).toArray = ls at hl ⊢
  have hl : lv_has ls 3 [(0, .ref (c 102))] := hl
  have z_m91 : (-91 : Int32).toInt = -91 := by decide
  have z_0 : (0 : Int32).toInt = 0 := by decide
  have z_1 : (1 : Int32).toInt = 1 := by decide
  have z_2 : (2 : Int32).toInt = 2 := by decide
  have z_25 : (25 : Int32).toInt = 25 := by decide
  have z_165 : (165 : Int32).toInt = 165 := by decide
  have z_255 : (255 : Int32).toInt = 255 := by decide
  have hin_X1 : ∀ w ∈ u_ws RX1 TX1 7, w ∈ wsX1_sealPages := by decide +kernel
  have hin_X2 : ∀ w ∈ u_ws RX2 TX2 3, w ∈ wsX1_sealPages := by decide +kernel
  have hmono : ∀ y m, pgM (kc 0) R y m → pgM (kc 0) R y m := fun y m h => h
  have main : ∀ (H : Heap) (locs : List Loc), va_P (dC, dI) vwCl (cw_W c kc st lg ai al R) H → va_S A s.heap H locs → W p l e (headSpec wsX1_sealPages ({ frames := 4, cells := 0, slots := 0, locals := 96 })).room s m ([.ref (c 102)] : List Value).toArray below meth cM H locs 0 0 (MQ below (va_Qi (fun r (u : Int32) => r = u) (fun u t => ∃ (x9 : Int32) (x10 : Int32) (x11 : Int32) (R9 : va_W), (0 ≤ u.toInt) ∧ (u.toInt ≤ 1) ∧ (0 ≤ x9.toInt) ∧ (x9.toInt ≤ 1) ∧ (PI (kc 98) (kc 0) (c 99) (st 13) cap num none R9) ∧ (∀ y m, pgM (kc 0) R y m → pgM (kc 0) R9 y m) ∧ (va_D A (cw_W c kc (rU (rU (rU st 9 x9) 10 x10) 11 x11) lg ai al R9)) ∧ va_P (dC, dI) vwCl (cw_W c kc (rU (rU (rU st 9 x9) 10 x10) 11 x11) lg ai al R9) t.heap) A) ([.ref (c 102)] : List Value).toArray s 0 0 A) (F0 m 0 ls []) := by
    intro H locs hP hS
    refine lv_iconst (v := 0) hx hb dX1_sealPages_0 (by decide) ?_
    refine lv_istore_n (lv' := [(1, .int (0 : Int32)), (0, .ref (c 102))]) hx hb dX1_sealPages_1 rfl hl (by decide) rfl (fun ls hl => ?_)
    have loop2 : ∀ (n : Nat) (l1_2 : Int32) (s9_2 : Int32) (s10_2 : Int32) (s11_2 : Int32) (R9_2 : va_W) (H : Heap) (locs : List Loc) (ls : Array Slot), (0 ≤ l1_2.toInt) → (l1_2.toInt ≤ (st 13).toInt) → (0 ≤ s9_2.toInt) → (s9_2.toInt ≤ 1) → (PI (kc 98) (kc 0) (c 99) (st 13) cap num none R9_2) → (va_D A (cw_W c kc st lg ai al R9_2)) → (∀ y m, pgM (kc 0) R y m → pgM (kc 0) R9_2 y m) → ((st 13).toInt - l1_2.toInt : Int).toNat < n → va_P (dC, dI) vwCl (cw_W c kc (rU (rU (rU st 9 s9_2) 10 s10_2) 11 s11_2) lg ai al R9_2) H → va_S A s.heap H locs → lv_has ls 3 [(1, .int l1_2), (0, .ref (c 102))] → W p l e (headSpec wsX1_sealPages ({ frames := 4, cells := 0, slots := 0, locals := 96 })).room s m ([.ref (c 102)] : List Value).toArray below meth cM H locs 0 0 (MQ below (va_Qi (fun r (u : Int32) => r = u) (fun u t => ∃ (x9 : Int32) (x10 : Int32) (x11 : Int32) (R9 : va_W), (0 ≤ u.toInt) ∧ (u.toInt ≤ 1) ∧ (0 ≤ x9.toInt) ∧ (x9.toInt ≤ 1) ∧ (PI (kc 98) (kc 0) (c 99) (st 13) cap num none R9) ∧ (∀ y m, pgM (kc 0) R y m → pgM (kc 0) R9 y m) ∧ (va_D A (cw_W c kc (rU (rU (rU st 9 x9) 10 x10) 11 x11) lg ai al R9)) ∧ va_P (dC, dI) vwCl (cw_W c kc (rU (rU (rU st 9 x9) 10 x10) 11 x11) lg ai al R9) t.heap) A) ([.ref (c 102)] : List Value).toArray s 0 0 A) (F0 m 2 ls []) := by
      intro n
      induction n with
      | zero => intro l1_2 s9_2 s10_2 s11_2 R9_2 H locs ls if0_2 if1_2 if2_2 if3_2 hPI hD hmono hm; exact absurd hm (Nat.not_lt_zero _)
      | succ n ih2 =>
        intro l1_2 s9_2 s10_2 s11_2 R9_2 H locs ls if0_2 if1_2 if2_2 if3_2 hPI hD hmono hm2 hP hS hl
        refine lv_iload_n hx hb dX1_sealPages_2 rfl (lv_at hl 0 rfl) ?_
        refine lv_aload_n hx hb dX1_sealPages_3 rfl (lv_at hl 1 rfl) ?_
        refine va_get (D := (dC, dI)) (ci := 3) (v := .ref (c 103)) (C := RX1) (T := TX1) (N := 7) hx hb hts hin_X1 hown hK hP 2 rfl rfl 3 (by decide) (hts (.fieldLink RX1 25 "BlockLog$Disk" "touched" "Ljava/util/ArrayList;") (by decide +kernel)) (fun _ h9 => h9) rfl dX1_sealPages_4 ?_
        refine vp_callSi (va_Run.run (va_runV (As := []) (rest := [.int l1_2]) ⟨hx, hb, hml, hown, hts⟩ (v_Jx4a65c_size_8abf5 l dC dI c kc (rU (rU (rU st 9 s9_2) 10 s10_2) 11 s11_2) lg ai al R9_2  (show 0 ≤ (st 13).toInt by omega) (show (st 13).toInt ≤ 65536 by omega)) (cwV 0 hts gX1_sealPages_Jx4a65c_size_8abf5 rfl rfl rfl (by decide +kernel) ⟨Nat.le_of_ble_eq_true rfl, Nat.le_of_ble_eq_true rfl⟩) ⟨fun a U g mk q => by obtain ⟨q0, qP, qK⟩ := q; exact ⟨q0, qP, va_K.moved (u := U) (U := U.calling g mk a) (Vm.Alike.refl U.vm) qK⟩, va_recv hK hP (ci := 2) (q := (RJx4a65c, TJx4a65c, 3)) rfl (q0 := 3) rfl, fun U hU hW => ⟨rfl, by rw [hU]; exact hP, va_K.moved hW.alike hK⟩⟩ rfl rfl hl.1 rfl (lv_room (Nat.le_of_ble_eq_true rfl)) dX1_sealPages_7 ⟨Nat.le_of_ble_eq_true rfl, Nat.le_of_ble_eq_true rfl⟩)) (fun r_1 er_1 => ?_)
        have k_2 := er_1
        have k_2 : r_1.toInt = (st 13).toInt := k_2
        refine lv_icmp_ge (tgt := 74) hx hb dX1_sealPages_10 (by decide) (fun c_3 => ?_) (fun c_3 => ?_)
        · skip
          have ic_3 := iv_le c_3
          refine lv_iconst (v := 1) hx hb dX1_sealPages_74 (by decide) ?_
          exact W.zret hx hb hr rfl (fun t ht hW => ⟨⟨_, _, rfl, rfl, s9_2, s10_2, s11_2, R9_2, (by omega), (by omega), (by omega), (by omega), hPI, hmono, (cw_D hD), by rw [ht]; exact hP⟩, hS.F ht⟩) hS.2.2 dX1_sealPages_75
        · skip
          have ic_3 := iv_nle c_3
          refine lv_aload_n hx hb dX1_sealPages_13 rfl (lv_at hl 1 rfl) ?_
          refine va_get (D := (dC, dI)) (ci := 3) (v := .ref (c 103)) (C := RX1) (T := TX1) (N := 7) hx hb hts hin_X1 hown hK hP 2 rfl rfl 3 (by decide) (hts (.fieldLink RX1 25 "BlockLog$Disk" "touched" "Ljava/util/ArrayList;") (by decide +kernel)) (fun _ h9 => h9) rfl dX1_sealPages_14 ?_
          refine lv_iload_n hx hb dX1_sealPages_17 rfl (lv_at hl 0 rfl) ?_
          refine va_csq (va_Run.run (va_runV (As := [.int l1_2]) (rest := []) ⟨hx, hb, hml, hown, hts⟩ (v_Jx4a65c_get_915e3 l dC dI c kc (rU (rU (rU st 9 s9_2) 10 s10_2) 11 s11_2) lg ai al R9_2 cap num l1_2 hPI (show 0 ≤ (st 13).toInt by omega) (show (st 13).toInt ≤ 65536 by omega) (by omega) (show l1_2.toInt < (st 13).toInt by omega)) (cwV 1 hts gX1_sealPages_Jx4a65c_get_915e3 rfl rfl rfl (by decide +kernel) ⟨Nat.le_of_ble_eq_true rfl, Nat.le_of_ble_eq_true rfl⟩) ⟨fun a U g mk q => by obtain ⟨q0, qP, qK⟩ := q; exact ⟨q0, qP, va_K.moved (u := U) (U := U.calling g mk a) (Vm.Alike.refl U.vm) qK⟩, va_recv hK hP (ci := 2) (q := (RJx4a65c, TJx4a65c, 3)) rfl (q0 := 3) rfl, fun U hU hW => ⟨rfl, by rw [hU]; exact hP, va_K.moved hW.alike hK⟩⟩ rfl rfl hl.1 rfl (lv_room (Nat.le_of_ble_eq_true rfl)) dX1_sealPages_18 ⟨Nat.le_of_ble_eq_true rfl, Nat.le_of_ble_eq_true rfl⟩)) (fun r_4 er_4 => ?_)
          obtain ⟨hq, hnn⟩ := er_4
          have hq : ∀ x, r_4 = some x → ∃ m, pgM (kc 0) R9_2 x m ∧ m = num l1_2.toNatClampNeg := hq
          have hnn : r_4 ≠ none := hnn
          rcases r_4 with _ | x_5
          · skip
            exact absurd rfl hnn
          · skip
            refine W.eq (g2 := F0 m 21 ls [.ref x_5]) rfl ?_
            obtain ⟨m_6, hM_x_5, hQ⟩ := hq x_5 rfl
            have hMo := hM_x_5
            obtain ⟨b_7, k9_7, f9_7, ⟨j_7, hj_7⟩, i_7, hi_7⟩ := hMo
            refine va_castY hx hb hown (hts (.classLink RX1 44 "BlockLog$Page") (by decide +kernel)) (hGW.2.2.1 "BlockLog$Page" (by decide)) (va_recv hK hP (ci := 4) (q := (RX2, TX2, 3)) rfl (q0 := 26 + j_7) (cw_at hj_7)) dX1_sealPages_21 ?_
            refine lv_astore_n (lv' := [(2, .ref x_5), (1, .int l1_2), (0, .ref (c 102))]) hx hb dX1_sealPages_24 rfl hl (by decide) rfl (fun ls hl => ?_)
            refine lv_aload_n hx hb dX1_sealPages_25 rfl (lv_at hl 0 rfl) ?_
            have hFc := vfree ((cw_D hD : va_D A (cw_W c kc (rU (rU (rU st 9 s9_2) 10 s10_2) 11 s11_2) lg ai al R9_2)) : va_D A (cw_W c kc (rU (rU (rU st 9 s9_2) 10 s10_2) 11 s11_2) lg ai al R9_2)) hS hA
            refine va_calli (va_runV (As := []) (rest := []) ⟨hx, hb, hml, hown, hts⟩ (v_X2_state l dC dI c kc (rU (rU (rU st 9 s9_2) 10 s10_2) 11 s11_2) lg ai al R9_2 cap num x_5 b_7 j_7 i_7 m_6 k9_7 f9_7  _ hPI hj_7 hi_7 ) (cwV 0 hts gX1_sealPages_X2_state rfl rfl rfl (by decide +kernel) ⟨Nat.le_of_ble_eq_true rfl, Nat.le_of_ble_eq_true rfl⟩) ⟨fun a U g mk q => by obtain ⟨q0, q1, qP, qK, qD⟩ := q; exact ⟨q0, q1, qP, va_K.moved (u := U) (U := U.calling g mk a) (Vm.Alike.refl U.vm) qK, qD⟩, va_recv hK hP (ci := 4) (q := (RX2, TX2, 3)) rfl (q0 := 26 + j_7) (cw_at hj_7), fun U hU hW => ⟨rfl, by rw [hU], by rw [hU]; exact hP, va_K.moved hW.alike hK, ((cw_D hD : va_D A (cw_W c kc (rU (rU (rU st 9 s9_2) 10 s10_2) 11 s11_2) lg ai al R9_2))).weaken (fun _ _ _ _ => trivial)⟩⟩ rfl rfl hl.1 rfl (lv_room (Nat.le_of_ble_eq_true rfl)) dX1_sealPages_26 ⟨Nat.le_of_ble_eq_true rfl, Nat.le_of_ble_eq_true rfl⟩) hS (fun q _ h => hFc q h) hFc (fun r_8 ur_8 t H1 locs ht hvm er_8 hB hz1 hk1 hS => ?_)
            subst er_8
            obtain ⟨R_8, hrt, hPI, hmo, hD1, hP1⟩ := hB
            rw [ht] at hP1
            clear hz1 hk1 hvm hP
            subst ht
            have hP := hP1
            clear hP1
            generalize t.heap = H at hP hS ⊢
            have hP : va_P (dC, dI) vwCl (cw_W c kc (rU (rU (rU st 9 s9_2) 10 s10_2) 11 s11_2) lg ai al R_8) H := hP
            have hD : va_D A (cw_W c kc st lg ai al R_8) := cw_D (hD1.weaken (fun _ _ _ h => hFc _ h))
            have hPI : PI (kc 98) (kc 0) (c 99) (st 13) cap num none R_8 := hPI
            clear hFc hD1
            have hM_x_5 := hmo _ _ hM_x_5
            have hmono : ∀ y m, pgM (kc 0) R y m → pgM (kc 0) R_8 y m := fun y m h => hmo y m (hmono y m h)
            have hrt : r_8.toInt = 2 → pgRt (kc 0) R_8 x_5 := hrt
            refine lv_iconst (v := 2) hx hb dX1_sealPages_29 (by decide) ?_
            refine lv_icmp_ne (tgt := 68) hx hb dX1_sealPages_30 (by decide) (fun c_9 => ?_) (fun c_9 => ?_)
            · skip
              have ic_9 := iv_ne c_9
              obtain ⟨x_10, ex_10⟩ : ∃ z : Int32, z = l1_2 + (1) := ⟨_, rfl⟩
              refine lv_iinc (v := x_10) (lv' := [(1, .int x_10), (2, .ref x_5), (0, .ref (c 102))]) hx hb dX1_sealPages_68 hl (k := 1) rfl (by rw [ex_10]; rfl) (by decide) rfl (fun ls hl => ?_)
              have rg1 := iv_rng l1_2
              have hx_10 : x_10.toInt = l1_2.toInt + (1) := by rw [ex_10]; exact (iv_add (by omega) (by omega)).trans (by omega)
              clear ex_10
              refine lv_goto (tgt := 2) hx hb dX1_sealPages_71 (by decide) ?_
              exact ih2 x_10 s9_2 s10_2 s11_2 R_8 _ _ _ (by omega) (by omega) (by omega) (by omega) hPI (cw_D hD) hmono (by omega) hP hS (lv_sub hl [0, 2] rfl)
            · skip
              have ic_9 := iv_eq c_9
              refine lv_aload_n hx hb dX1_sealPages_33 rfl (lv_at hl 0 rfl) ?_
              have hMo := hM_x_5
              obtain ⟨b_11, k9_11, f9_11, ⟨j_11, hj_11⟩, i_11, hi_11⟩ := hMo
              refine va_getN (D := (dC, dI)) (ci := 4) (v := .ref b_11) (C := RX2) (T := TX2) (N := 3) hx hb hts hin_X2 hown hK hP (26 + j_11) (cw_at hj_11) rfl 1 (by decide) (va_Nw.use rfl (hGW.1 ("BlockLog$Disk", 43, "BlockLog$Page", "bytes", "[B", "BlockLog") (by decide +kernel))) (fun _ h9 => h9) rfl dX1_sealPages_34 ?_
              refine lv_bipush (v := 25) hx hb dX1_sealPages_37 (by decide) ?_
              refine va_bald (f := f9_11) hx hb hK hP (26 + i_11) 0 (cw_at hi_11) rfl (iv_in (i := (25 : Int32)) (by omega) (by omega)) dX1_sealPages_39 ?_
              refine lv_topi (fun v_12 ev_12 => ?_)
              clear ev_12
              refine lv_sipush (v := 255) hx hb dX1_sealPages_40 (by decide) ?_
              refine lv_iand hx hb dX1_sealPages_43 ?_
              refine lv_topi (fun v_13 ev_13 => ?_)
              have hv_13 : 0 ≤ v_13.toInt ∧ v_13.toInt ≤ 255 := by rw [ev_13]; exact iv_and255 _
              clear ev_13
              refine lv_sipush (v := 165) hx hb dX1_sealPages_44 (by decide) ?_
              refine lv_icmp_eq (tgt := 68) hx hb dX1_sealPages_47 (by decide) (fun c_14 => ?_) (fun c_14 => ?_)
              · skip
                have ic_14 := iv_eq c_14
                obtain ⟨x_15, ex_15⟩ : ∃ z : Int32, z = l1_2 + (1) := ⟨_, rfl⟩
                refine lv_iinc (v := x_15) (lv' := [(1, .int x_15), (2, .ref x_5), (0, .ref (c 102))]) hx hb dX1_sealPages_68 hl (k := 1) rfl (by rw [ex_15]; rfl) (by decide) rfl (fun ls hl => ?_)
                have rg2 := iv_rng l1_2
                have hx_15 : x_15.toInt = l1_2.toInt + (1) := by rw [ex_15]; exact (iv_add (by omega) (by omega)).trans (by omega)
                clear ex_15
                refine lv_goto (tgt := 2) hx hb dX1_sealPages_71 (by decide) ?_
                exact ih2 x_15 s9_2 s10_2 s11_2 R_8 _ _ _ (by omega) (by omega) (by omega) (by omega) hPI (cw_D hD) hmono (by omega) hP hS (lv_sub hl [0, 2] rfl)
              · skip
                have ic_14 := iv_ne c_14
                refine lv_aload_n hx hb dX1_sealPages_50 rfl (lv_at hl 2 rfl) ?_
                have hFc := vfree ((cw_D hD : va_D A (cw_W c kc (rU (rU (rU st 9 s9_2) 10 s10_2) 11 s11_2) lg ai al R_8)) : va_D A (cw_W c kc (rU (rU (rU st 9 s9_2) 10 s10_2) 11 s11_2) lg ai al R_8)) hS hA
                refine va_calli (va_runV (As := []) (rest := []) ⟨hx, hb, hml, hown, hts⟩ (v_X1_act l dC dI c kc (rU (rU (rU st 9 s9_2) 10 s10_2) 11 s11_2) lg ai al R_8  _ (show 0 ≤ s9_2.toInt by omega) (show s9_2.toInt ≤ 1 by omega)) (cwV 0 hts gX1_sealPages_X1_act rfl rfl rfl (by decide +kernel) ⟨Nat.le_of_ble_eq_true rfl, Nat.le_of_ble_eq_true rfl⟩) ⟨fun a U g mk q => by obtain ⟨q0, q1, qP, qK, qD⟩ := q; exact ⟨q0, q1, qP, va_K.moved (u := U) (U := U.calling g mk a) (Vm.Alike.refl U.vm) qK, qD⟩, va_recv hK hP (ci := 3) (q := (RX1, TX1, 7)) rfl (q0 := 2) rfl, fun U hU hW => ⟨rfl, by rw [hU], by rw [hU]; exact hP, va_K.moved hW.alike hK, ((cw_D hD : va_D A (cw_W c kc (rU (rU (rU st 9 s9_2) 10 s10_2) 11 s11_2) lg ai al R_8))).weaken (fun _ _ _ _ => trivial)⟩⟩ rfl rfl hl.1 rfl (lv_room (Nat.le_of_ble_eq_true rfl)) dX1_sealPages_51 ⟨Nat.le_of_ble_eq_true rfl, Nat.le_of_ble_eq_true rfl⟩) hS (fun q _ h => hFc q h) hFc (fun r_16 ur_16 t H1 locs ht hvm er_16 hB hz1 hk1 hS => ?_)
                subst er_16
                obtain ⟨x9_16, x10_16, x11_16, k_17, k_18, k_19, k_20, hP1⟩ := hB
                rw [ht] at hP1
                clear hFc hz1 hk1 hvm hP
                subst ht
                have hP := hP1
                clear hP1
                generalize t.heap = H at hP hS ⊢
                have hP : va_P (dC, dI) vwCl (cw_W c kc (rU (rU (rU st 9 x9_16) 10 x10_16) 11 x11_16) lg ai al R_8) H := hP
                have k_19 : 0 ≤ x9_16.toInt := k_19
                have k_20 : x9_16.toInt ≤ 1 := k_20
                rcases iv_01 (a := r_16) (by omega) (by omega) with b_21 | b_21
                · skip
                  have ib_21 := iv_eq b_21
                  rw [b_21]
                  refine lv_if_ne (tgt := 59) hx hb dX1_sealPages_54 (by decide) (fun c_22 => ?_) (fun c_22 => ?_)
                  · skip
                    have ic_22 := iv_ne c_22
                    exfalso
                    omega
                  · skip
                    have ic_22 := iv_eq c_22
                    refine lv_iconst (v := 0) hx hb dX1_sealPages_57 (by decide) ?_
                    exact W.zret hx hb hr rfl (fun t ht hW => ⟨⟨_, _, rfl, rfl, x9_16, x10_16, x11_16, R_8, (by omega), (by omega), (by omega), (by omega), hPI, hmono, (cw_D hD), by rw [ht]; exact hP⟩, hS.F ht⟩) hS.2.2 dX1_sealPages_58
                · skip
                  have ib_21 := iv_eq b_21
                  rw [b_21]
                  refine lv_if_ne (tgt := 59) hx hb dX1_sealPages_54 (by decide) (fun c_23 => ?_) (fun c_23 => ?_)
                  · skip
                    have ic_23 := iv_ne c_23
                    refine lv_aload_n hx hb dX1_sealPages_59 rfl (lv_at hl 0 rfl) ?_
                    refine va_getN (D := (dC, dI)) (ci := 4) (v := .ref b_11) (C := RX2) (T := TX2) (N := 3) hx hb hts hin_X2 hown hK hP (26 + j_11) (cw_at hj_11) rfl 1 (by decide) (va_Nw.use rfl (hGW.1 ("BlockLog$Disk", 43, "BlockLog$Page", "bytes", "[B", "BlockLog") (by decide +kernel))) (fun _ h9 => h9) rfl dX1_sealPages_60 ?_
                    refine lv_bipush (v := 25) hx hb dX1_sealPages_63 (by decide) ?_
                    refine lv_bipush (v := (-91)) hx hb dX1_sealPages_65 (by decide) ?_
                    refine va_bast (f := f9_11) hx hb hK hP (cw_D hD) hS (26 + i_11) 0 (cw_at hi_11) rfl (iv_in (i := (25 : Int32)) (by omega) (by omega)) dX1_sealPages_67 (fun H locs hP hD9 hS => ?_)
                    generalize hUp : upd f9_11 (25 : Int32).toNatClampNeg (vp_nar .byte (-91 : Int32)) = f9_24 at hP hD9
                    obtain ⟨R_24, hP, hD, hPI1, hPI2, hmo, hj_24, hi_24⟩ := pg_setb (f' := f9_24) hP hD9 hPI hj_11 hi_11 (Or.inl rfl)
                    have hPI := hPI2 (by rw [← hUp]; exact upd_0 (by omega)) rfl
                    clear hUp
                    have hM_x_5 := hmo _ _ hM_x_5
                    have hmono : ∀ y m, pgM (kc 0) R y m → pgM (kc 0) R_24 y m := fun y m h => hmo y m (hmono y m h)
                    have hP : va_P (dC, dI) vwCl (cw_W c kc (rU (rU (rU st 9 x9_16) 10 x10_16) 11 x11_16) lg ai al R_24) H := hP
                    obtain ⟨x_25, ex_25⟩ : ∃ z : Int32, z = l1_2 + (1) := ⟨_, rfl⟩
                    refine lv_iinc (v := x_25) (lv' := [(1, .int x_25), (2, .ref x_5), (0, .ref (c 102))]) hx hb dX1_sealPages_68 hl (k := 1) rfl (by rw [ex_25]; rfl) (by decide) rfl (fun ls hl => ?_)
                    have rg3 := iv_rng l1_2
                    have hx_25 : x_25.toInt = l1_2.toInt + (1) := by rw [ex_25]; exact (iv_add (by omega) (by omega)).trans (by omega)
                    clear ex_25
                    refine lv_goto (tgt := 2) hx hb dX1_sealPages_71 (by decide) ?_
                    exact ih2 x_25 x9_16 x10_16 x11_16 R_24 _ _ _ (by omega) (by omega) (by omega) (by omega) hPI (cw_D hD) hmono (by omega) hP hS (lv_sub hl [0, 2] rfl)
                  · skip
                    have ic_23 := iv_eq c_23
                    exfalso
                    omega
    exact loop2 (((st 13).toInt - 0 : Int).toNat + 1) (0 : Int32) (st 9) (st 10) (st 11) R _ _ _ (by omega) (by omega) (by omega) (by omega) hPI (cw_D hD) hmono (by omega) hP hS (lv_sub hl [0, 1] rfl)
  exact main s.heap [] hP hS

set_option maxHeartbeats 4000000 in
set_option maxRecDepth 100000 in
theorem v_X1_read (l : Launch) (dC : Nat → ClassId) (dI : Nat → Nat → Nat) (c : Nat → Nat) (kc : Nat → ClassId) (st : Nat → Int32) (lg : Nat → Int64) (ai : Nat → Nat → Int32) (al : Nat → Nat → Int64) (R : va_W) (cap : Nat) (num : Nat → Int32) (p0 : Int32) (hPI : PI (kc 98) (kc 0) (c 99) (st 13) cap num none R) (hf13a : 0 ≤ (st 13).toInt) (hf13b : (st 13).toInt ≤ 65536) (hq0 : 0 ≤ p0.toInt) (hR7 : aR (ai 7) 8224 (-128) 127) : Met l yX1_read wsX1_read ({ frames := 5, cells := 0, slots := 0, locals := 111 }) (va_Pc [.ref (c 102), .int p0] (fun U => va_P (dC, dI) vwCl (cw_W c kc st lg ai al R) U.heap ∧ va_K (dC, dI) vwCl (cw_T kc) U ∧ gx_W U)) (vp_Si (fun r => True)) 0 0 (fun _ => False) := by
  refine Met.ofW (cc := cX1_read) (maxL := 3) (ret := (some .int)) (by decide) rfl ?_
  intro p e s m args below meth cM s₁ B hml hv
  obtain ⟨rfl, hP, hK, hG⟩ := hv
  have hx := B.exec
  have hb := B.bytes
  have hr := B.returns
  have hts := atoms_spec (ws := wsX1_read) B.pre
  have hown : s.vm.findClass RX1 = some m.cls := findClass_of_methodNamed B.named
  have hGW := hG
  have hl := lv_entry ([.ref (c 102), .int p0]) (n := 3) (Nat.le_of_ble_eq_true rfl)
  rw [lg_entry_eq]
  generalize (lg_sl ([.ref (c 102), .int p0]) ++ List.replicate (3 - (lg_sl ([.ref (c 102), .int p0])).length) Slot.unset).toArray = ls at hl ⊢
  have hl : lv_has ls 3 [(0, .ref (c 102)), (1, .int p0)] := hl
  have z_0 : (0 : Int32).toInt = 0 := by decide
  have z_26 : (26 : Int32).toInt = 26 := by decide
  have z_255 : (255 : Int32).toInt = 255 := by decide
  have z_8224 : (8224 : Int32).toInt = 8224 := by decide
  have hin_X1 : ∀ w ∈ u_ws RX1 TX1 7, w ∈ wsX1_read := by decide +kernel
  have hin_X2 : ∀ w ∈ u_ws RX2 TX2 3, w ∈ wsX1_read := by decide +kernel
  refine lv_iload_n hx hb dX1_read_0 rfl (lv_at hl 1 rfl) ?_
  refine lv_sipush (v := 8224) hx hb dX1_read_1 (by decide) ?_
  refine lv_icmp_ge (tgt := 18) hx hb dX1_read_4 (by decide) (fun c_1 => ?_) (fun c_1 => ?_)
  · skip
    have ic_1 := iv_le c_1
    refine lv_aload_n hx hb dX1_read_18 rfl (lv_at hl 0 rfl) ?_
    refine lv_iload_n hx hb dX1_read_19 rfl (lv_at hl 1 rfl) ?_
    refine lv_sipush (v := 8224) hx hb dX1_read_20 (by decide) ?_
    refine lv_isub hx hb dX1_read_23 ?_
    refine lv_topi (fun v_2 ev_2 => ?_)
    have rg1 := iv_rng p0
    have hv_2 : v_2.toInt = p0.toInt - 8224 := by rw [ev_2]; exact (iv_sub (by omega) (by omega)).trans (by omega)
    clear ev_2
    refine lv_bipush (v := 26) hx hb dX1_read_24 (by decide) ?_
    refine lv_idiv hx hb dX1_read_26 (by decide) ?_
    refine lv_topi (fun v_3 ev_3 => ?_)
    have hv_3 : v_3.toInt = v_2.toInt / 26 := by rw [ev_3]; exact iv_div (by omega) (by decide) (by omega)
    clear ev_3
    refine va_csq (va_Run.run (va_runV (As := [.int v_3]) (rest := []) ⟨hx, hb, hml, hown, hts⟩ (v_X1_find l dC dI c kc st lg ai al R cap num v_3 hPI (show 0 ≤ (st 13).toInt by omega) (show (st 13).toInt ≤ 65536 by omega)) (cwV 1 hts gX1_read_X1_find rfl rfl rfl (by decide +kernel) ⟨Nat.le_of_ble_eq_true rfl, Nat.le_of_ble_eq_true rfl⟩) ⟨fun a U g mk q => by obtain ⟨q0, qP, qK, qG⟩ := q; exact ⟨q0, qP, va_K.moved (u := U) (U := U.calling g mk a) (Vm.Alike.refl U.vm) qK, qG.same rfl⟩, va_recv hK hP (ci := 3) (q := (RX1, TX1, 7)) rfl (q0 := 2) rfl, fun U hU hW => ⟨rfl, by rw [hU]; exact hP, va_K.moved hW.alike hK, hGW.warm hW⟩⟩ rfl rfl hl.1 rfl (lv_room (Nat.le_of_ble_eq_true rfl)) dX1_read_27 ⟨Nat.le_of_ble_eq_true rfl, Nat.le_of_ble_eq_true rfl⟩)) (fun r_4 er_4 => ?_)
    have hq := er_4
    have hq : ∀ x, r_4 = some x → ∃ m, pgM (kc 0) R x m ∧ m.toInt = v_3.toInt ∧ m.toInt < 65536 := hq
    rcases r_4 with _ | x_5
    · skip
      refine W.eq (g2 := F0 m 30 ls [.null]) rfl ?_
      refine lv_astore_nN (lv' := [(2, .null), (0, .ref (c 102)), (1, .int p0)]) hx hb dX1_read_30 rfl hl (by decide) rfl (fun ls hl => ?_)
      refine lv_aload_nN hx hb dX1_read_31 rfl (lv_at hl 0 rfl) ?_
      refine lv_ifnonnullN hx hb dX1_read_32 ?_
      refine lv_iconst (v := 0) hx hb dX1_read_35 (by decide) ?_
      refine lv_goto (tgt := 56) hx hb dX1_read_36 (by decide) ?_
      exact W.iret hx hb hr (fun t ht hW => ⟨_, rfl, trivial, ht⟩) (fun q h => by cases h) dX1_read_56
    · skip
      refine W.eq (g2 := F0 m 30 ls [.ref x_5]) rfl ?_
      obtain ⟨m_6, hM_x_5, hQ⟩ := hq x_5 rfl
      refine lv_astore_n (lv' := [(2, .ref x_5), (0, .ref (c 102)), (1, .int p0)]) hx hb dX1_read_30 rfl hl (by decide) rfl (fun ls hl => ?_)
      refine lv_aload_n hx hb dX1_read_31 rfl (lv_at hl 0 rfl) ?_
      refine lv_ifnonnull (tgt := 39) hx hb dX1_read_32 (by decide) ?_
      refine lv_aload_n hx hb dX1_read_39 rfl (lv_at hl 0 rfl) ?_
      have hMo := hM_x_5
      obtain ⟨b_7, k9_7, f9_7, ⟨j_7, hj_7⟩, i_7, hi_7⟩ := hMo
      refine va_getN (D := (dC, dI)) (ci := 4) (v := .ref b_7) (C := RX2) (T := TX2) (N := 3) hx hb hts hin_X2 hown hK hP (26 + j_7) (cw_at hj_7) rfl 1 (by decide) (va_Nw.use rfl (hGW.1 ("BlockLog$Disk", 43, "BlockLog$Page", "bytes", "[B", "BlockLog") (by decide +kernel))) (fun _ h9 => h9) rfl dX1_read_40 ?_
      refine lv_iload_n hx hb dX1_read_43 rfl (lv_at hl 2 rfl) ?_
      refine lv_sipush (v := 8224) hx hb dX1_read_44 (by decide) ?_
      refine lv_isub hx hb dX1_read_47 ?_
      refine lv_topi (fun v_8 ev_8 => ?_)
      have hv_8 : v_8.toInt = p0.toInt - 8224 := by rw [ev_8]; exact (iv_sub (by omega) (by omega)).trans (by omega)
      clear ev_8
      refine lv_bipush (v := 26) hx hb dX1_read_48 (by decide) ?_
      refine lv_irem hx hb dX1_read_50 (by decide) ?_
      refine lv_topi (fun v_9 ev_9 => ?_)
      have hv_9 : 0 ≤ v_9.toInt ∧ v_9.toInt < 26 := by rw [ev_9]; exact iv_rem (by omega) (by decide) (by omega)
      clear ev_9
      refine va_bald (f := f9_7) hx hb hK hP (26 + i_7) 0 (cw_at hi_7) rfl (iv_in (i := v_9) (by omega) (by omega)) dX1_read_51 ?_
      refine lv_topi (fun v_10 ev_10 => ?_)
      clear ev_10
      refine lv_sipush (v := 255) hx hb dX1_read_52 (by decide) ?_
      refine lv_iand hx hb dX1_read_55 ?_
      refine lv_topi (fun v_11 ev_11 => ?_)
      have hv_11 : 0 ≤ v_11.toInt ∧ v_11.toInt ≤ 255 := by rw [ev_11]; exact iv_and255 _
      clear ev_11
      exact W.iret hx hb hr (fun t ht hW => ⟨_, rfl, trivial, ht⟩) (fun q h => by cases h) dX1_read_56
  · skip
    have ic_1 := iv_nle c_1
    refine lv_aload_n hx hb dX1_read_7 rfl (lv_at hl 0 rfl) ?_
    refine va_get (D := (dC, dI)) (ci := 3) (v := .ref (c 7)) (C := RX1) (T := TX1) (N := 7) hx hb hts hin_X1 hown hK hP 2 rfl rfl 1 (by decide) (hts (.fieldLink RX1 15 "BlockLog$Disk" "low" "[B") (by decide +kernel)) (fun _ h9 => h9) rfl dX1_read_8 ?_
    refine lv_iload_n hx hb dX1_read_11 rfl (lv_at hl 1 rfl) ?_
    refine va_bald (f := ai 7) hx hb hK hP 12 4 rfl rfl (iv_in (i := p0) (by omega) (by omega)) dX1_read_12 ?_
    refine lv_topi (fun v_12 ev_12 => ?_)
    have k_13 : -128 ≤ v_12.toInt ∧ v_12.toInt ≤ 127 := aR_get hR7 (by omega) (by omega) ev_12
    clear ev_12
    refine lv_sipush (v := 255) hx hb dX1_read_13 (by decide) ?_
    refine lv_iand hx hb dX1_read_16 ?_
    refine lv_topi (fun v_14 ev_14 => ?_)
    have hv_14 : 0 ≤ v_14.toInt ∧ v_14.toInt ≤ 255 := by rw [ev_14]; exact iv_and255 _
    clear ev_14
    exact W.iret hx hb hr (fun t ht hW => ⟨_, rfl, trivial, ht⟩) (fun q h => by cases h) dX1_read_17
