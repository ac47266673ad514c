set_option maxHeartbeats 4000000 in
set_option maxRecDepth 100000 in
theorem v_X8_poke (l : Launch) (hl0 : l.stackTraces = false) (dC : Nat → ClassId) (dI : Nat → Nat → Nat) (c : Nat → Nat) (kc : Nat → ClassId) (st : Nat → Int32) (lg : Nat → Int64) (ai : Nat → Nat → Int32) (al : Nat → Nat → Int64) (R : va_W) (cap : Nat) (num : Nat → Int32) (p0 : Int32) (p1 : Int32) (sz tz : Nat) (hPI : PI (kc 98) (kc 0) (c 99) (st 13) cap num none R) (hN : NI cap (st 13)) (hf6a : 1 ≤ (st 6).toInt) (hf6b : (st 6).toInt ≤ 65536) (hf9a : 0 ≤ (st 9).toInt) (hf9b : (st 9).toInt ≤ 1) (hf13a : 0 ≤ (st 13).toInt) (hf13b : (st 13).toInt ≤ 65536) (hR7 : aR (ai 7) 8224 (-128) 127) : vx_Met l yX8_poke wsX8_poke ({ frames := 9, cells := 8, slots := 640100, locals := 446 }) (va_Pc [.ref (c 100), .int p0, .int p1] (fun U => U.heap.size = sz ∧ tot U.heap = tz ∧ va_P (dC, dI) vwCl (cw_W c kc st lg ai al R) U.heap ∧ va_K (dC, dI) vwCl (cw_T kc) U ∧ va_D (fun _ => True) (cw_W c kc st lg ai al R) ∧ gy_E cap (c 99) (va_A (cw_W c kc st lg ai al R) sz) U)) (va_Qi (fun r (u : Int32) => r = u) (fun u t => ∃ (x12 : Int32) (x13 : Int32) (f7 : Nat → Int32) (f8 : Nat → Int32) (e9 cap9 : Nat) (num9 : Nat → Int32) (R9 : va_W), (0 ≤ x13.toInt) ∧ (x13.toInt ≤ 65536) ∧ (aR f7 8224 (-128) 127) ∧ (PI (kc 98) (kc 0) e9 x13 cap9 num9 none R9) ∧ (∀ y m, pgM (kc 0) R y m → pgM (kc 0) R9 y m) ∧ (va_D (va_A (cw_W c kc st lg ai al R) sz) (cw_W (rU c 99 e9) kc (rU (rU st 12 x12) 13 x13) lg (rU (rU ai 7 f7) 8 f8) al R9)) ∧ (NI cap9 x13) ∧ (cap9 = 0 → cap = 0 ∧ e9 = c 99) ∧ (cap ≤ cap9) ∧ ((st 13).toInt ≤ x13.toInt) ∧ (x13.toInt ≤ (st 13).toInt + 1) ∧ (((t.heap.size : Nat) : Int) ≤ ((sz : Nat) : Int) + 2 + 3 * (x13.toInt - (st 13).toInt)) ∧ (((tot t.heap : Nat) : Int) ≤ ((tz : Nat) : Int) + 12 + 29 * (x13.toInt - (st 13).toInt) + 4 * (((cap9 : Nat) : Int) - ((cap : Nat) : Int))) ∧ va_P (dC, dI) vwCl (cw_W (rU c 99 e9) kc (rU (rU st 12 x12) 13 x13) lg (rU (rU ai 7 f7) 8 f8) al R9) t.heap) (va_A (cw_W c kc st lg ai al R) sz)) (vx_X (fun _ : Unit => True) (fun E _ t => E ∈ (["java/lang/IllegalArgumentException", "java/lang/IllegalStateException", "java/lang/IndexOutOfBoundsException"] : List String) ∧ ∃ (x12 : Int32) (x13 : Int32) (f7 : Nat → Int32) (f8 : Nat → Int32) (e9 cap9 : Nat) (num9 : Nat → Int32) (R9 : va_W), (0 ≤ x13.toInt) ∧ (x13.toInt ≤ 65536) ∧ (aR f7 8224 (-128) 127) ∧ (PI (kc 98) (kc 0) e9 x13 cap9 num9 none R9) ∧ (∀ y m, pgM (kc 0) R y m → pgM (kc 0) R9 y m) ∧ (va_D (va_A (cw_W c kc st lg ai al R) sz) (cw_W (rU c 99 e9) kc (rU (rU st 12 x12) 13 x13) lg (rU (rU ai 7 f7) 8 f8) al R9)) ∧ (NI cap9 x13) ∧ (cap9 = 0 → cap = 0 ∧ e9 = c 99) ∧ (cap ≤ cap9) ∧ ((st 13).toInt ≤ x13.toInt) ∧ (x13.toInt ≤ (st 13).toInt + 1) ∧ (((t.heap.size : Nat) : Int) ≤ ((sz : Nat) : Int) + 2 + 3 * (x13.toInt - (st 13).toInt)) ∧ (((tot t.heap : Nat) : Int) ≤ ((tz : Nat) : Int) + 12 + 29 * (x13.toInt - (st 13).toInt) + 4 * (((cap9 : Nat) : Int) - ((cap : Nat) : Int))) ∧ va_P (dC, dI) vwCl (cw_W (rU c 99 e9) kc (rU (rU st 12 x12) 13 x13) lg (rU (rU ai 7 f7) 8 f8) al R9) t.heap) (va_A (cw_W c kc st lg ai al R) sz)) 8 640100 (va_A (cw_W c kc st lg ai al R) sz) := by
  refine vx_ofW (cc := cX8_poke) (maxL := 4) (ret := (some .int)) (by decide) rfl ?_
  intro p e s m args below meth cM s₁ B hml hno hv
  obtain ⟨rfl, hsz, htz, hP, hK, hD0, hY⟩ := hv
  have hx := B.exec
  have hb := B.bytes
  have hr := B.returns
  have hts := atoms_spec (ws := wsX8_poke) B.pre
  have hown : s.vm.findClass RX8 = some m.cls := findClass_of_methodNamed B.named
  have hG0 := hY.1
  have hGW := hG0.1
  have hlocks := B.notSynchronized
  subst hsz
  subst htz
  clear hG0
  have hD := hD0.self (sz := s.heap.size)
  generalize hAe : va_A (cw_W c kc st lg ai al R) s.heap.size = A at hD hY ⊢
  have hA : ∀ q : Nat, s.heap.size ≤ q → A q := fun q h => by rw [← hAe]; exact Or.inr h
  have hS : va_S A s.heap s.heap [] := va_S.rf
  clear hAe hD0
  have hl := lv_entry ([.ref (c 100), .int p0, .int p1]) (n := 4) (Nat.le_of_ble_eq_true rfl)
  rw [lg_entry_eq]
  generalize (lg_sl ([.ref (c 100), .int p0, .int p1]) ++ List.replicate (4 - (lg_sl ([.ref (c 100), .int p0, .int p1])).length) Slot.unset).toArray = ls at hl ⊢
  have hl : lv_has ls 4 [(0, .ref (c 100)), (1, .int p0), (2, .int p1)] := hl
  have z_0 : (0 : Int32).toInt = 0 := by decide
  have z_255 : (255 : Int32).toInt = 255 := by decide
  have hin_X1 : ∀ w ∈ u_ws RX1 TX1 7, w ∈ wsX8_poke := by decide +kernel
  have hin_X8 : ∀ w ∈ u_ws RX8 TX8 10, w ∈ wsX8_poke := by decide +kernel
  have hmono : ∀ y m, pgM (kc 0) R y m → pgM (kc 0) R y m := fun y m h => h
  have hG := hY.1
  have hP : va_P (dC, dI) vwCl (cw_W (rU c 99 (c 99)) kc st lg ai al R) s.heap := by rw [rU_self]; exact hP
  have hD : va_D A (cw_W (rU c 99 (c 99)) kc st lg ai al R) := by rw [rU_self]; exact hD
  have hc0 : cap = 0 → cap = 0 ∧ c 99 = c 99 := fun h => ⟨h, rfl⟩
  have hcp : cap ≤ cap := Nat.le_refl _
  have hN1 : ((cap : Nat) : Int) ≤ 10 + 2 * (st 13).toInt := hN.1
  have main : ∀ (H : Heap) (locs : List Loc), va_P (dC, dI) vwCl (cw_W (rU c 99 (c 99)) kc st lg ai al R) H → va_S A s.heap H locs → W p l e (headSpec wsX8_poke ({ frames := 9, cells := 8, slots := 640100, locals := 446 })).room s m ([.ref (c 100), .int p0, .int p1] : List Value).toArray below meth cM H locs 0 0 (vx_MQ below (va_Qi (fun r (u : Int32) => r = u) (fun u t => ∃ (x12 : Int32) (x13 : Int32) (f7 : Nat → Int32) (f8 : Nat → Int32) (e9 cap9 : Nat) (num9 : Nat → Int32) (R9 : va_W), (0 ≤ x13.toInt) ∧ (x13.toInt ≤ 65536) ∧ (aR f7 8224 (-128) 127) ∧ (PI (kc 98) (kc 0) e9 x13 cap9 num9 none R9) ∧ (∀ y m, pgM (kc 0) R y m → pgM (kc 0) R9 y m) ∧ (va_D A (cw_W (rU c 99 e9) kc (rU (rU st 12 x12) 13 x13) lg (rU (rU ai 7 f7) 8 f8) al R9)) ∧ (NI cap9 x13) ∧ (cap9 = 0 → cap = 0 ∧ e9 = c 99) ∧ (cap ≤ cap9) ∧ ((st 13).toInt ≤ x13.toInt) ∧ (x13.toInt ≤ (st 13).toInt + 1) ∧ (((t.heap.size : Nat) : Int) ≤ ((s.heap.size : Nat) : Int) + 2 + 3 * (x13.toInt - (st 13).toInt)) ∧ (((tot t.heap : Nat) : Int) ≤ ((tot s.heap : Nat) : Int) + 12 + 29 * (x13.toInt - (st 13).toInt) + 4 * (((cap9 : Nat) : Int) - ((cap : Nat) : Int))) ∧ va_P (dC, dI) vwCl (cw_W (rU c 99 e9) kc (rU (rU st 12 x12) 13 x13) lg (rU (rU ai 7 f7) 8 f8) al R9) t.heap) A) (vx_X (fun _ : Unit => True) (fun E _ t => E ∈ (["java/lang/IllegalArgumentException", "java/lang/IllegalStateException", "java/lang/IndexOutOfBoundsException"] : List String) ∧ ∃ (x12 : Int32) (x13 : Int32) (f7 : Nat → Int32) (f8 : Nat → Int32) (e9 cap9 : Nat) (num9 : Nat → Int32) (R9 : va_W), (0 ≤ x13.toInt) ∧ (x13.toInt ≤ 65536) ∧ (aR f7 8224 (-128) 127) ∧ (PI (kc 98) (kc 0) e9 x13 cap9 num9 none R9) ∧ (∀ y m, pgM (kc 0) R y m → pgM (kc 0) R9 y m) ∧ (va_D A (cw_W (rU c 99 e9) kc (rU (rU st 12 x12) 13 x13) lg (rU (rU ai 7 f7) 8 f8) al R9)) ∧ (NI cap9 x13) ∧ (cap9 = 0 → cap = 0 ∧ e9 = c 99) ∧ (cap ≤ cap9) ∧ ((st 13).toInt ≤ x13.toInt) ∧ (x13.toInt ≤ (st 13).toInt + 1) ∧ (((t.heap.size : Nat) : Int) ≤ ((s.heap.size : Nat) : Int) + 2 + 3 * (x13.toInt - (st 13).toInt)) ∧ (((tot t.heap : Nat) : Int) ≤ ((tot s.heap : Nat) : Int) + 12 + 29 * (x13.toInt - (st 13).toInt) + 4 * (((cap9 : Nat) : Int) - ((cap : Nat) : Int))) ∧ va_P (dC, dI) vwCl (cw_W (rU c 99 e9) kc (rU (rU st 12 x12) 13 x13) lg (rU (rU ai 7 f7) 8 f8) al R9) t.heap) A) ([.ref (c 100), .int p0, .int p1] : List Value).toArray s 8 640100 A) (F0 m 0 ls []) := by
    intro H locs hP hS
    refine lv_aload_n hx hb dX8_poke_0 rfl (lv_at hl 0 rfl) ?_
    refine lv_iload_n hx hb dX8_poke_1 rfl (lv_at hl 1 rfl) ?_
    have hFc := vfree ((cw_D hD : va_D A (cw_W (rU c 99 (c 99)) kc st lg ai al R)) : va_D A (cw_W (rU c 99 (c 99)) kc st lg ai al R)) hS hA
    refine vx_callv (vx_runV (As := [.int p0]) (rest := []) ⟨hx, hb, hml, hown, hts⟩ (v_X8_demandPlace l hl0 dC dI (rU c 99 (c 99)) kc st lg ai al R p0 _ (show 1 ≤ (st 6).toInt by omega) (show (st 6).toInt ≤ 65536 by omega)) (cwV 1 hts gX8_poke_X8_demandPlace rfl rfl rfl (by decide +kernel) ⟨Nat.le_of_ble_eq_true rfl, Nat.le_of_ble_eq_true rfl⟩) ⟨fun a U g mk q => by obtain ⟨q0, q1, qP, qK, qD, qG⟩ := q; exact ⟨q0, q1, qP, va_K.moved (u := U) (U := U.calling g mk a) (Vm.Alike.refl U.vm) qK, qD, qG.same rfl rfl⟩, va_recv hK hP (ci := 10) (q := (RX8, TX8, 10)) rfl (q0 := 0) rfl, fun U hU hW => ⟨rfl, by rw [hU], by rw [hU]; exact hP, va_K.moved hW.alike hK, ((cw_D hD : va_D A (cw_W (rU c 99 (c 99)) kc st lg ai al R))).weaken (fun _ _ _ _ => trivial), hG.go hW hU hS hFc⟩⟩ rfl rfl hl.1 rfl (lv_room (Nat.le_of_ble_eq_true rfl)) dX8_poke_2 ⟨by show 0 + 1 ≤ 8; omega, by show 0 + 6 ≤ 640100; omega⟩) hS (fun q _ h => hFc q h) hFc (fun q _ h => hFc q h) (fun E9 ce q9 u t H1 locs ht hvm hp hE hz hk hS hcell hv hcl => ?_) (fun ur_1 t H1 locs ht hvm er_1 hB hz1 hk1 hS => ?_)
    · skip
      obtain ⟨hE, hP1⟩ := hE
      rw [ht] at hP1
      have hP : va_P (dC, dI) vwCl (cw_W (rU c 99 (c 99)) kc st lg ai al R) H1 := hP1
      refine vxW_read (fun hu1 hu2 => ?_)
      exact vx_out (fun x h => (hno x h).elim) hlocks hcell hv hcl (fun t ht hW => ⟨(), trivial, ⟨(show ∀ x ∈ (["java/lang/IndexOutOfBoundsException"] : List String), x ∈ (["java/lang/IllegalArgumentException", "java/lang/IllegalStateException", "java/lang/IndexOutOfBoundsException"] : List String) by decide +kernel) _ hE, st 12, st 13, ai 7, ai 8, c 99, cap, num, R, (by omega), (by omega), hR7, hPI, hmono, (cw_D hD), hN, hc0, hcp, (by omega), (by omega), (by rw [ht]; omega), (by rw [ht]; omega), by rw [ht]; exact hP⟩, hS.F ht⟩) hS.2.2 (Nat.le_of_ble_eq_true rfl) (Nat.le_of_ble_eq_true rfl)
    · skip
      obtain ⟨k_2, k_3, hP1⟩ := hB
      rw [ht] at hP1
      clear hFc hz1 hk1 hvm hP
      subst ht
      have hP := hP1
      clear hP1
      generalize t.heap = H at hP hS ⊢
      have hP : va_P (dC, dI) vwCl (cw_W (rU c 99 (c 99)) kc st lg ai al R) H := hP
      have k_3 : p0.toInt < 8224 + 26 * (st 6).toInt := k_3
      refine lv_aload_n hx hb dX8_poke_5 rfl (lv_at hl 0 rfl) ?_
      refine va_get (D := (dC, dI)) (ci := 10) (v := .ref (c 102)) (C := RX8) (T := TX8) (N := 10) hx hb hts hin_X8 hown hK hP 0 rfl rfl 1 (by decide) (hts (.fieldLink RX8 22 "BlockLog" "disk" "LBlockLog$Disk;") (by decide +kernel)) (fun _ h9 => h9) rfl dX8_poke_6 ?_
      refine va_getN (D := (dC, dI)) (ci := 3) (v := .int (st 9)) (C := RX1) (T := TX1) (N := 7) hx hb hts hin_X1 hown hK hP 2 rfl rfl 4 (by decide) (va_Nw.use rfl (hGW.1 ("BlockLog", 287, "BlockLog$Disk", "powered", "Z", "BlockLog") (by decide +kernel))) (fun _ h9 => h9) rfl dX8_poke_9 ?_
      refine lv_if_eq (tgt := 26) hx hb dX8_poke_12 (by decide) (fun c_4 => ?_) (fun c_4 => ?_)
      · skip
        have ic_4 := iv_eq c_4
        refine lv_iload_n hx hb dX8_poke_26 rfl (lv_at hl 2 rfl) ?_
        refine lv_if_lt (tgt := 37) hx hb dX8_poke_27 (by decide) (fun c_5 => ?_) (fun c_5 => ?_)
        · skip
          have ic_5 := iv_lt c_5
          obtain ⟨sa, hstr⟩ := hGW.2.1 ("BlockLog", 305, "mask is not 0 .. 255") (by decide +kernel)
          refine vx_useX (k := 2) (n := 12) (XC0 := (vx_X (fun _ : Unit => True) (fun E _ t => E ∈ (["java/lang/IllegalArgumentException", "java/lang/IllegalStateException", "java/lang/IndexOutOfBoundsException"] : List String) ∧ ∃ (x12 : Int32) (x13 : Int32) (f7 : Nat → Int32) (f8 : Nat → Int32) (e9 cap9 : Nat) (num9 : Nat → Int32) (R9 : va_W), (0 ≤ x13.toInt) ∧ (x13.toInt ≤ 65536) ∧ (aR f7 8224 (-128) 127) ∧ (PI (kc 98) (kc 0) e9 x13 cap9 num9 none R9) ∧ (∀ y m, pgM (kc 0) R y m → pgM (kc 0) R9 y m) ∧ (va_D A (cw_W (rU c 99 e9) kc (rU (rU st 12 x12) 13 x13) lg (rU (rU ai 7 f7) 8 f8) al R9)) ∧ (NI cap9 x13) ∧ (cap9 = 0 → cap = 0 ∧ e9 = c 99) ∧ (cap ≤ cap9) ∧ ((st 13).toInt ≤ x13.toInt) ∧ (x13.toInt ≤ (st 13).toInt + 1) ∧ va_P (dC, dI) vwCl (cw_W (rU c 99 e9) kc (rU (rU st 12 x12) 13 x13) lg (rU (rU ai 7 f7) 8 f8) al R9) t.heap) A)) ?_ (fun E9 t9 h9 hu1 hu2 => by obtain ⟨u9, hu9, ⟨hE9, z0, z1, z2, z3, z4, z5, z6, z7, y0, y1, y2, y3, y4, y5, y6, y7, y8, y9, y10, hP9⟩, hF9⟩ := h9; exact ⟨u9, hu9, ⟨hE9, z0, z1, z2, z3, z4, z5, z6, z7, y0, y1, y2, y3, y4, y5, y6, y7, y8, y9, y10, (by omega), (by omega), hP9⟩, hF9⟩) (Nat.le_of_ble_eq_true rfl) (Nat.le_of_ble_eq_true rfl)
          exact vx_throwSW (names := ["java/lang/RuntimeException", "java/lang/Exception"]) hx hb hl0 hown (by decide +kernel) (by decide +kernel) (hts (.classLink RX8 76 "java/lang/IllegalArgumentException") (by decide +kernel)) (hts (.initialized "java/lang/IllegalArgumentException") (by decide +kernel)) hstr (vx_hat (B := gx_bad "java/lang/IllegalArgumentException") (fun w h => hts w (List.mem_cons_of_mem _ (List.mem_append_left _ (List.mem_append_right _ h)))) (by decide +kernel) (hGW.bad (by decide))) (by decide +kernel) hG.2.1 hG.2.2.1 hS (hl.1.trans hml.symm) dX8_poke_37 dX8_poke_40 dX8_poke_41 dX8_poke_44 dX8_poke_47 (fun x h => (hno x h).elim) (Nat.le_of_ble_eq_true rfl) (Nat.le_of_ble_eq_true rfl) (Nat.le_of_ble_eq_true rfl) (Nat.le_of_ble_eq_true rfl) hlocks (fun t _ h1 h2 => ⟨(), trivial, ⟨(by decide +kernel), st 12, st 13, ai 7, ai 8, c 99, cap, num, R, (by omega), (by omega), hR7, hPI, hmono, (cw_D hD), hN, hc0, hcp, (by omega), (by omega), hP.kept (fun k q hk => h2 _ (hP k q hk).lt)⟩, Nat.le_trans hS.1 h1, fun q hq hn => (h2 q (Nat.lt_of_lt_of_le hq hS.1)).trans (hS.2.1 q hq hn)⟩) hS.2.2 (Nat.le_of_ble_eq_true rfl) (Nat.le_of_ble_eq_true rfl)
        · skip
          have ic_5 := iv_nlt c_5
          refine lv_iload_n hx hb dX8_poke_30 rfl (lv_at hl 2 rfl) ?_
          refine lv_sipush (v := 255) hx hb dX8_poke_31 (by decide) ?_
          refine lv_icmp_le (tgt := 48) hx hb dX8_poke_34 (by decide) (fun c_6 => ?_) (fun c_6 => ?_)
          · skip
            have ic_6 := iv_le c_6
            refine lv_aload_n hx hb dX8_poke_48 rfl (lv_at hl 0 rfl) ?_
            refine va_get (D := (dC, dI)) (ci := 10) (v := .ref (c 102)) (C := RX8) (T := TX8) (N := 10) hx hb hts hin_X8 hown hK hP 0 rfl rfl 1 (by decide) (hts (.fieldLink RX8 22 "BlockLog" "disk" "LBlockLog$Disk;") (by decide +kernel)) (fun _ h9 => h9) rfl dX8_poke_49 ?_
            refine lv_iload_n hx hb dX8_poke_52 rfl (lv_at hl 1 rfl) ?_
            refine vp_callSi (va_Run.run (va_runV (As := [.int p0]) (rest := []) ⟨hx, hb, hml, hown, hts⟩ (v_X1_read l dC dI (rU c 99 (c 99)) kc st lg ai al R cap num p0 hPI (show 0 ≤ (st 13).toInt by omega) (show (st 13).toInt ≤ 65536 by omega) (by omega) (show aR (ai 7) 8224 (-128) 127 from hR7)) (cwV 1 hts gX8_poke_X1_read rfl rfl rfl (by decide +kernel) ⟨Nat.le_of_ble_eq_true rfl, Nat.le_of_ble_eq_true rfl⟩) ⟨fun a U g mk q => by obtain ⟨q0, qP, qK, qG⟩ := q; exact ⟨q0, qP, va_K.moved (u := U) (U := U.calling g mk a) (Vm.Alike.refl U.vm) qK, qG.same rfl⟩, va_recv hK hP (ci := 3) (q := (RX1, TX1, 7)) rfl (q0 := 2) rfl, fun U hU hW => ⟨rfl, by rw [hU]; exact hP, va_K.moved hW.alike hK, hGW.warm hW⟩⟩ rfl rfl hl.1 rfl (lv_room (Nat.le_of_ble_eq_true rfl)) dX8_poke_53 ⟨by show 1 + 0 ≤ 8; omega, by show 6 + 0 ≤ 640100; omega⟩)) (fun r_7 er_7 => ?_)
            refine lv_iload_n hx hb dX8_poke_56 rfl (lv_at hl 2 rfl) ?_
            refine lv_ixor hx hb dX8_poke_57 ?_
            refine lv_topi (fun v_8 ev_8 => ?_)
            clear ev_8
            refine lv_istore_n (lv' := [(3, .int v_8), (0, .ref (c 100)), (1, .int p0), (2, .int p1)]) hx hb dX8_poke_58 rfl hl (by decide) rfl (fun ls hl => ?_)
            refine lv_aload_n hx hb dX8_poke_59 rfl (lv_at hl 1 rfl) ?_
            refine va_get (D := (dC, dI)) (ci := 10) (v := .ref (c 102)) (C := RX8) (T := TX8) (N := 10) hx hb hts hin_X8 hown hK hP 0 rfl rfl 1 (by decide) (hts (.fieldLink RX8 22 "BlockLog" "disk" "LBlockLog$Disk;") (by decide +kernel)) (fun _ h9 => h9) rfl dX8_poke_60 ?_
            refine lv_iload_n hx hb dX8_poke_63 rfl (lv_at hl 2 rfl) ?_
            refine lv_iload_n hx hb dX8_poke_64 rfl (lv_at hl 0 rfl) ?_
            refine W_read (fun hu1 hu2 => ?_)
            have hFc := vfree ((cw_D hD : va_D A (cw_W (rU c 99 (c 99)) kc st lg ai al R)) : va_D A (cw_W (rU c 99 (c 99)) kc st lg ai al R)) hS hA
            refine va_callv (va_runV (As := [.int p0, .int v_8]) (rest := []) ⟨hx, hb, hml, hown, hts⟩ (v_X1_set l dC dI (rU c 99 (c 99)) kc st lg ai al R cap num p0 v_8 _ _ hPI hN (show 0 ≤ (st 13).toInt by omega) (show (st 13).toInt ≤ 65536 by omega) (by omega) (by omega) (show aR (ai 7) 8224 (-128) 127 from hR7)) (cwV 2 hts gX8_poke_X1_set rfl rfl rfl (by decide +kernel) ⟨Nat.le_of_ble_eq_true rfl, Nat.le_of_ble_eq_true rfl⟩) ⟨fun a U g mk q => by obtain ⟨q0, q1, q2, qP, qK, qD, qG⟩ := q; exact ⟨q0, q1, q2, qP, va_K.moved (u := U) (U := U.calling g mk a) (Vm.Alike.refl U.vm) qK, qD, qG.same rfl rfl⟩, va_recv hK hP (ci := 3) (q := (RX1, TX1, 7)) rfl (q0 := 2) rfl, fun U hU hW => ⟨rfl, by rw [hU], by rw [hU], by rw [hU]; exact hP, va_K.moved hW.alike hK, ((cw_D hD : va_D A (cw_W (rU c 99 (c 99)) kc st lg ai al R))).weaken (fun _ _ _ _ => trivial), hY.go hW hU hS hFc hc0⟩⟩ rfl rfl hl.1 rfl (lv_room (Nat.le_of_ble_eq_true rfl)) dX8_poke_65 ⟨by show 1 + 3 ≤ 8; omega, by show 6 + 640000 ≤ 640100; omega⟩) hS (fun q _ h => hFc q h) hFc (fun ur_9 t H1 locs ht hvm er_9 hB hz1 hk1 hS => ?_)
            obtain ⟨x12_9, x13_9, f7_9, f8_9, e_9, cap_9, num_9, R_9, k_10, k_11, hR7, hPI, hmo, hD1, hN, hc1, hcp1, hnn1, hnn2, hus1, hus2, hP1⟩ := hB
            rw [ht] at hP1
            clear hz1 hk1 hvm hP
            subst ht
            have hP := hP1
            clear hP1
            generalize t.heap = H at hP hS hus1 hus2 ⊢
            rw [rU_rU (f := c) (k := 99) (a := (c 99)) (b := e_9)] at hP
            have hP : va_P (dC, dI) vwCl (cw_W (rU c 99 e_9) kc (rU (rU st 12 x12_9) 13 x13_9) lg (rU (rU ai 7 f7_9) 8 f8_9) al R_9) H := hP
            rw [rU_rU (f := c) (k := 99) (a := (c 99)) (b := e_9)] at hD1
            have hD : va_D A (cw_W (rU c 99 e_9) kc st lg ai al R_9) := cw_D (hD1.weaken (fun _ _ _ h => hFc _ h))
            have hc0 : cap_9 = 0 → cap = 0 ∧ e_9 = c 99 := fun h => ⟨(hc0 (hc1 h).1).1, (show e_9 = c 99 from (hc1 h).2).trans (hc0 (hc1 h).1).2⟩
            have hcp : cap ≤ cap_9 := Nat.le_trans hcp hcp1
            have hN1 : ((cap_9 : Nat) : Int) ≤ 10 + 2 * x13_9.toInt := hN.1
            have hnn1 : (st 13).toInt ≤ x13_9.toInt := hnn1
            have hnn2 : x13_9.toInt ≤ (st 13).toInt + 1 := hnn2
            have hus1 : ((H.size : Nat) : Int) ≤ _ + 0 + 3 * (x13_9.toInt - (st 13).toInt) := hus1
            have hus2 : ((tot H : Nat) : Int) ≤ _ + 0 + 29 * (x13_9.toInt - (st 13).toInt) + 4 * (((cap_9 : Nat) : Int) - ((cap : Nat) : Int)) := hus2
            obtain ⟨k_12, hk_12⟩ : ∃ k9 : Nat, (k9 : Int) = ((1 : Nat) : Int) + 0 + 3 * (x13_9.toInt - (st 13).toInt) := ⟨(((1 : Nat) : Int) + 0 + 3 * (x13_9.toInt - (st 13).toInt)).toNat, by omega⟩
            obtain ⟨m_12, hm_12⟩ : ∃ m9 : Nat, (m9 : Int) = ((6 : Nat) : Int) + 0 + 29 * (x13_9.toInt - (st 13).toInt) + 4 * (((cap_9 : Nat) : Int) - ((cap : Nat) : Int)) := ⟨(((6 : Nat) : Int) + 0 + 29 * (x13_9.toInt - (st 13).toInt) + 4 * (((cap_9 : Nat) : Int) - ((cap : Nat) : Int))).toNat, by omega⟩
            refine W_tight (k' := k_12) (m' := m_12) (by omega) (by omega) ?_
            clear hus1 hus2 hu1 hu2
            have hPI : PI (kc 98) (kc 0) e_9 x13_9 cap_9 num_9 none R_9 := hPI
            clear hFc hD1
            have hmono : ∀ y m, pgM (kc 0) R y m → pgM (kc 0) R_9 y m := fun y m h => hmo y m (hmono y m h)
            have k_10 : 0 ≤ x13_9.toInt := k_10
            have k_11 : x13_9.toInt ≤ 65536 := k_11
            have hR7 : aR f7_9 8224 (-128) 127 := hR7
            refine lv_iload_n hx hb dX8_poke_68 rfl (lv_at hl 0 rfl) ?_
            refine W_read (fun hu1 hu2 => ?_)
            refine W.widen (k := 8) (n := 640100) (by omega) (by omega) ?_
            refine vx_ret ?_
            exact W.iret hx hb hr (fun t ht hW => ⟨⟨_, _, rfl, rfl, x12_9, x13_9, f7_9, f8_9, e_9, cap_9, num_9, R_9, (by omega), (by omega), hR7, hPI, hmono, (cw_D hD), hN, hc0, hcp, (by omega), (by omega), (by rw [ht]; omega), (by rw [ht]; omega), by rw [ht]; exact hP⟩, hS.F ht⟩) hS.2.2 dX8_poke_69
          · skip
            have ic_6 := iv_nle c_6
            obtain ⟨sa, hstr⟩ := hGW.2.1 ("BlockLog", 305, "mask is not 0 .. 255") (by decide +kernel)
            refine vx_useX (k := 2) (n := 12) (XC0 := (vx_X (fun _ : Unit => True) (fun E _ t => E ∈ (["java/lang/IllegalArgumentException", "java/lang/IllegalStateException", "java/lang/IndexOutOfBoundsException"] : List String) ∧ ∃ (x12 : Int32) (x13 : Int32) (f7 : Nat → Int32) (f8 : Nat → Int32) (e9 cap9 : Nat) (num9 : Nat → Int32) (R9 : va_W), (0 ≤ x13.toInt) ∧ (x13.toInt ≤ 65536) ∧ (aR f7 8224 (-128) 127) ∧ (PI (kc 98) (kc 0) e9 x13 cap9 num9 none R9) ∧ (∀ y m, pgM (kc 0) R y m → pgM (kc 0) R9 y m) ∧ (va_D A (cw_W (rU c 99 e9) kc (rU (rU st 12 x12) 13 x13) lg (rU (rU ai 7 f7) 8 f8) al R9)) ∧ (NI cap9 x13) ∧ (cap9 = 0 → cap = 0 ∧ e9 = c 99) ∧ (cap ≤ cap9) ∧ ((st 13).toInt ≤ x13.toInt) ∧ (x13.toInt ≤ (st 13).toInt + 1) ∧ va_P (dC, dI) vwCl (cw_W (rU c 99 e9) kc (rU (rU st 12 x12) 13 x13) lg (rU (rU ai 7 f7) 8 f8) al R9) t.heap) A)) ?_ (fun E9 t9 h9 hu1 hu2 => by obtain ⟨u9, hu9, ⟨hE9, z0, z1, z2, z3, z4, z5, z6, z7, y0, y1, y2, y3, y4, y5, y6, y7, y8, y9, y10, hP9⟩, hF9⟩ := h9; exact ⟨u9, hu9, ⟨hE9, z0, z1, z2, z3, z4, z5, z6, z7, y0, y1, y2, y3, y4, y5, y6, y7, y8, y9, y10, (by omega), (by omega), hP9⟩, hF9⟩) (Nat.le_of_ble_eq_true rfl) (Nat.le_of_ble_eq_true rfl)
            exact vx_throwSW (names := ["java/lang/RuntimeException", "java/lang/Exception"]) hx hb hl0 hown (by decide +kernel) (by decide +kernel) (hts (.classLink RX8 76 "java/lang/IllegalArgumentException") (by decide +kernel)) (hts (.initialized "java/lang/IllegalArgumentException") (by decide +kernel)) hstr (vx_hat (B := gx_bad "java/lang/IllegalArgumentException") (fun w h => hts w (List.mem_cons_of_mem _ (List.mem_append_left _ (List.mem_append_right _ h)))) (by decide +kernel) (hGW.bad (by decide))) (by decide +kernel) hG.2.1 hG.2.2.1 hS (hl.1.trans hml.symm) dX8_poke_37 dX8_poke_40 dX8_poke_41 dX8_poke_44 dX8_poke_47 (fun x h => (hno x h).elim) (Nat.le_of_ble_eq_true rfl) (Nat.le_of_ble_eq_true rfl) (Nat.le_of_ble_eq_true rfl) (Nat.le_of_ble_eq_true rfl) hlocks (fun t _ h1 h2 => ⟨(), trivial, ⟨(by decide +kernel), st 12, st 13, ai 7, ai 8, c 99, cap, num, R, (by omega), (by omega), hR7, hPI, hmono, (cw_D hD), hN, hc0, hcp, (by omega), (by omega), hP.kept (fun k q hk => h2 _ (hP k q hk).lt)⟩, Nat.le_trans hS.1 h1, fun q hq hn => (h2 q (Nat.lt_of_lt_of_le hq hS.1)).trans (hS.2.1 q hq hn)⟩) hS.2.2 (Nat.le_of_ble_eq_true rfl) (Nat.le_of_ble_eq_true rfl)
      · skip
        have ic_4 := iv_ne c_4
        obtain ⟨sa, hstr⟩ := hGW.2.1 ("BlockLog", 302, "the power is on") (by decide +kernel)
        refine vx_useX (k := 2) (n := 12) (XC0 := (vx_X (fun _ : Unit => True) (fun E _ t => E ∈ (["java/lang/IllegalArgumentException", "java/lang/IllegalStateException", "java/lang/IndexOutOfBoundsException"] : List String) ∧ ∃ (x12 : Int32) (x13 : Int32) (f7 : Nat → Int32) (f8 : Nat → Int32) (e9 cap9 : Nat) (num9 : Nat → Int32) (R9 : va_W), (0 ≤ x13.toInt) ∧ (x13.toInt ≤ 65536) ∧ (aR f7 8224 (-128) 127) ∧ (PI (kc 98) (kc 0) e9 x13 cap9 num9 none R9) ∧ (∀ y m, pgM (kc 0) R y m → pgM (kc 0) R9 y m) ∧ (va_D A (cw_W (rU c 99 e9) kc (rU (rU st 12 x12) 13 x13) lg (rU (rU ai 7 f7) 8 f8) al R9)) ∧ (NI cap9 x13) ∧ (cap9 = 0 → cap = 0 ∧ e9 = c 99) ∧ (cap ≤ cap9) ∧ ((st 13).toInt ≤ x13.toInt) ∧ (x13.toInt ≤ (st 13).toInt + 1) ∧ va_P (dC, dI) vwCl (cw_W (rU c 99 e9) kc (rU (rU st 12 x12) 13 x13) lg (rU (rU ai 7 f7) 8 f8) al R9) t.heap) A)) ?_ (fun E9 t9 h9 hu1 hu2 => by obtain ⟨u9, hu9, ⟨hE9, z0, z1, z2, z3, z4, z5, z6, z7, y0, y1, y2, y3, y4, y5, y6, y7, y8, y9, y10, hP9⟩, hF9⟩ := h9; exact ⟨u9, hu9, ⟨hE9, z0, z1, z2, z3, z4, z5, z6, z7, y0, y1, y2, y3, y4, y5, y6, y7, y8, y9, y10, (by omega), (by omega), hP9⟩, hF9⟩) (Nat.le_of_ble_eq_true rfl) (Nat.le_of_ble_eq_true rfl)
        exact vx_throwSW (names := ["java/lang/RuntimeException", "java/lang/Exception"]) hx hb hl0 hown (by decide +kernel) (by decide +kernel) (hts (.classLink RX8 300 "java/lang/IllegalStateException") (by decide +kernel)) (hts (.initialized "java/lang/IllegalStateException") (by decide +kernel)) hstr (vx_hat (B := gx_bad "java/lang/IllegalStateException") (fun w h => hts w (List.mem_cons_of_mem _ (List.mem_append_left _ (List.mem_append_left _ (List.mem_append_right _ h))))) (by decide +kernel) (hGW.bad (by decide))) (by decide +kernel) hG.2.1 hG.2.2.1 hS (hl.1.trans hml.symm) dX8_poke_15 dX8_poke_18 dX8_poke_19 dX8_poke_22 dX8_poke_25 (fun x h => (hno x h).elim) (Nat.le_of_ble_eq_true rfl) (Nat.le_of_ble_eq_true rfl) (Nat.le_of_ble_eq_true rfl) (Nat.le_of_ble_eq_true rfl) hlocks (fun t _ h1 h2 => ⟨(), trivial, ⟨(by decide +kernel), st 12, st 13, ai 7, ai 8, c 99, cap, num, R, (by omega), (by omega), hR7, hPI, hmono, (cw_D hD), hN, hc0, hcp, (by omega), (by omega), hP.kept (fun k q hk => h2 _ (hP k q hk).lt)⟩, Nat.le_trans hS.1 h1, fun q hq hn => (h2 q (Nat.lt_of_lt_of_le hq hS.1)).trans (hS.2.1 q hq hn)⟩) hS.2.2 (Nat.le_of_ble_eq_true rfl) (Nat.le_of_ble_eq_true rfl)
  exact main s.heap [] hP hS

set_option maxHeartbeats 4000000 in
set_option maxRecDepth 100000 in
theorem v_X8_mend (l : Launch) (hl0 : l.stackTraces = false) (dC : Nat → ClassId) (dI : Nat → Nat → Nat) (c : Nat → Nat) (kc : Nat → ClassId) (st : Nat → Int32) (lg : Nat → Int64) (ai : Nat → Nat → Int32) (al : Nat → Nat → Int64) (R : va_W) (cap : Nat) (num : Nat → Int32) (p0 : Int32) (sz tz : Nat) (hPI : PI (kc 98) (kc 0) (c 99) (st 13) cap num none R) (hN : NI cap (st 13)) (hf5a : 0 ≤ (st 5).toInt) (hf5b : (st 5).toInt ≤ 400) (hf9a : 0 ≤ (st 9).toInt) (hf9b : (st 9).toInt ≤ 1) (hf13a : 0 ≤ (st 13).toInt) (hf13b : (st 13).toInt ≤ 65536) (hf15a : 0 ≤ (st 15).toInt) (hf15b : (st 15).toInt ≤ 1) (hf17a : 0 ≤ (st 17).toInt) (hf17b : (st 17).toInt ≤ 128) (hf25a : 0 ≤ (st 25).toInt) (hf25b : (st 25).toInt ≤ 128) (hf26a : 0 ≤ (st 26).toInt) (hf26b : (st 26).toInt ≤ 128) (hf27a : -1 ≤ (st 27).toInt) (hf27b : (st 27).toInt ≤ 127) (hf28a : 0 ≤ (st 28).toInt) (hf28b : (st 28).toInt ≤ 1) (hR4 : aR (ai 4) 400 (-128) 127) (hR7 : aR (ai 7) 8224 (-128) 127) (hR23 : aR (ai 23) 128 (0) 127) : vx_Met l yX8_mend wsX8_mend ({ frames := 9, cells := 8, slots := 640100, locals := 447 }) (va_Pc [.ref (c 100), .int p0] (fun U => U.heap.size = sz ∧ tot U.heap = tz ∧ va_P (dC, dI) vwCl (cw_W c kc st lg ai al R) U.heap ∧ va_K (dC, dI) vwCl (cw_T kc) U ∧ va_D (fun _ => True) (cw_W c kc st lg ai al R) ∧ gy_E cap (c 99) (va_A (cw_W c kc st lg ai al R) sz) U)) (va_Qi (fun r (u : Int32) => r = u) (fun u t => ∃ (x5 : Int32) (x9 : Int32) (x10 : Int32) (x11 : Int32) (x12 : Int32) (x13 : Int32) (x17 : Int32) (x18 : Int32) (x25 : Int32) (x26 : Int32) (x27 : Int32) (x28 : Int32) (x29 : Int32) (f0 : Nat → Int32) (f7 : Nat → Int32) (f8 : Nat → Int32) (f14 : Nat → Int32) (f20 : Nat → Int32) (f21 : Nat → Int32) (f22 : Nat → Int32) (f23 : Nat → Int32) (g19 : Nat → Int64) (e9 cap9 : Nat) (num9 : Nat → Int32) (R9 : va_W), (0 ≤ x5.toInt) ∧ (x5.toInt ≤ 400) ∧ (0 ≤ x9.toInt) ∧ (x9.toInt ≤ 1) ∧ (0 ≤ x13.toInt) ∧ (x13.toInt ≤ 65536) ∧ (0 ≤ x17.toInt) ∧ (x17.toInt ≤ 128) ∧ (0 ≤ x25.toInt) ∧ (x25.toInt ≤ 128) ∧ (0 ≤ x26.toInt) ∧ (x26.toInt ≤ 128) ∧ (-1 ≤ x27.toInt) ∧ (x27.toInt ≤ 127) ∧ (0 ≤ x28.toInt) ∧ (x28.toInt ≤ 1) ∧ (aR f7 8224 (-128) 127) ∧ (aR f23 128 (0) 127) ∧ (PI (kc 98) (kc 0) e9 x13 cap9 num9 none R9) ∧ (∀ y m, pgM (kc 0) R y m → pgM (kc 0) R9 y m) ∧ (va_D (va_A (cw_W c kc st lg ai al R) sz) (cw_W (rU c 99 e9) kc (rU (rU (rU (rU (rU (rU (rU (rU (rU (rU (rU (rU (rU st 5 x5) 9 x9) 10 x10) 11 x11) 12 x12) 13 x13) 17 x17) 18 x18) 25 x25) 26 x26) 27 x27) 28 x28) 29 x29) lg (rU (rU (rU (rU (rU (rU (rU (rU ai 0 f0) 7 f7) 8 f8) 14 f14) 20 f20) 21 f21) 22 f22) 23 f23) (rU al 19 g19) R9)) ∧ (NI cap9 x13) ∧ (cap9 = 0 → cap = 0 ∧ e9 = c 99) ∧ (cap ≤ cap9) ∧ ((st 13).toInt ≤ x13.toInt) ∧ (x13.toInt ≤ (st 13).toInt + 1) ∧ (((t.heap.size : Nat) : Int) ≤ ((sz : Nat) : Int) + 2 + 3 * (x13.toInt - (st 13).toInt)) ∧ (((tot t.heap : Nat) : Int) ≤ ((tz : Nat) : Int) + 12 + 29 * (x13.toInt - (st 13).toInt) + 4 * (((cap9 : Nat) : Int) - ((cap : Nat) : Int))) ∧ va_P (dC, dI) vwCl (cw_W (rU c 99 e9) kc (rU (rU (rU (rU (rU (rU (rU (rU (rU (rU (rU (rU (rU st 5 x5) 9 x9) 10 x10) 11 x11) 12 x12) 13 x13) 17 x17) 18 x18) 25 x25) 26 x26) 27 x27) 28 x28) 29 x29) lg (rU (rU (rU (rU (rU (rU (rU (rU ai 0 f0) 7 f7) 8 f8) 14 f14) 20 f20) 21 f21) 22 f22) 23 f23) (rU al 19 g19) R9) t.heap) (va_A (cw_W c kc st lg ai al R) sz)) (vx_X (fun _ : Unit => True) (fun E _ t => E ∈ (["java/lang/IllegalArgumentException", "java/lang/IllegalStateException"] : List String) ∧ ∃ (x5 : Int32) (x9 : Int32) (x10 : Int32) (x11 : Int32) (x12 : Int32) (x13 : Int32) (x17 : Int32) (x18 : Int32) (x25 : Int32) (x26 : Int32) (x27 : Int32) (x28 : Int32) (x29 : Int32) (f0 : Nat → Int32) (f7 : Nat → Int32) (f8 : Nat → Int32) (f14 : Nat → Int32) (f20 : Nat → Int32) (f21 : Nat → Int32) (f22 : Nat → Int32) (f23 : Nat → Int32) (g19 : Nat → Int64) (e9 cap9 : Nat) (num9 : Nat → Int32) (R9 : va_W), (0 ≤ x5.toInt) ∧ (x5.toInt ≤ 400) ∧ (0 ≤ x9.toInt) ∧ (x9.toInt ≤ 1) ∧ (0 ≤ x13.toInt) ∧ (x13.toInt ≤ 65536) ∧ (0 ≤ x17.toInt) ∧ (x17.toInt ≤ 128) ∧ (0 ≤ x25.toInt) ∧ (x25.toInt ≤ 128) ∧ (0 ≤ x26.toInt) ∧ (x26.toInt ≤ 128) ∧ (-1 ≤ x27.toInt) ∧ (x27.toInt ≤ 127) ∧ (0 ≤ x28.toInt) ∧ (x28.toInt ≤ 1) ∧ (aR f7 8224 (-128) 127) ∧ (aR f23 128 (0) 127) ∧ (PI (kc 98) (kc 0) e9 x13 cap9 num9 none R9) ∧ (∀ y m, pgM (kc 0) R y m → pgM (kc 0) R9 y m) ∧ (va_D (va_A (cw_W c kc st lg ai al R) sz) (cw_W (rU c 99 e9) kc (rU (rU (rU (rU (rU (rU (rU (rU (rU (rU (rU (rU (rU st 5 x5) 9 x9) 10 x10) 11 x11) 12 x12) 13 x13) 17 x17) 18 x18) 25 x25) 26 x26) 27 x27) 28 x28) 29 x29) lg (rU (rU (rU (rU (rU (rU (rU (rU ai 0 f0) 7 f7) 8 f8) 14 f14) 20 f20) 21 f21) 22 f22) 23 f23) (rU al 19 g19) R9)) ∧ (NI cap9 x13) ∧ (cap9 = 0 → cap = 0 ∧ e9 = c 99) ∧ (cap ≤ cap9) ∧ ((st 13).toInt ≤ x13.toInt) ∧ (x13.toInt ≤ (st 13).toInt + 1) ∧ (((t.heap.size : Nat) : Int) ≤ ((sz : Nat) : Int) + 2 + 3 * (x13.toInt - (st 13).toInt)) ∧ (((tot t.heap : Nat) : Int) ≤ ((tz : Nat) : Int) + 12 + 29 * (x13.toInt - (st 13).toInt) + 4 * (((cap9 : Nat) : Int) - ((cap : Nat) : Int))) ∧ va_P (dC, dI) vwCl (cw_W (rU c 99 e9) kc (rU (rU (rU (rU (rU (rU (rU (rU (rU (rU (rU (rU (rU st 5 x5) 9 x9) 10 x10) 11 x11) 12 x12) 13 x13) 17 x17) 18 x18) 25 x25) 26 x26) 27 x27) 28 x28) 29 x29) lg (rU (rU (rU (rU (rU (rU (rU (rU ai 0 f0) 7 f7) 8 f8) 14 f14) 20 f20) 21 f21) 22 f22) 23 f23) (rU al 19 g19) R9) t.heap) (va_A (cw_W c kc st lg ai al R) sz)) 8 640100 (va_A (cw_W c kc st lg ai al R) sz) := by
  refine vx_ofW (cc := cX8_mend) (maxL := 5) (ret := (some .int)) (by decide) rfl ?_
  intro p e s m args below meth cM s₁ B hml hno hv
  obtain ⟨rfl, hsz, htz, hP, hK, hD0, hY⟩ := hv
  have hx := B.exec
  have hb := B.bytes
  have hr := B.returns
  have hts := atoms_spec (ws := wsX8_mend) B.pre
  have hown : s.vm.findClass RX8 = some m.cls := findClass_of_methodNamed B.named
  have hG0 := hY.1
  have hGW := hG0.1
  have hlocks := B.notSynchronized
  subst hsz
  subst htz
  clear hG0
  have hD := hD0.self (sz := s.heap.size)
  generalize hAe : va_A (cw_W c kc st lg ai al R) s.heap.size = A at hD hY ⊢
  have hA : ∀ q : Nat, s.heap.size ≤ q → A q := fun q h => by rw [← hAe]; exact Or.inr h
  have hS : va_S A s.heap s.heap [] := va_S.rf
  clear hAe hD0
  have hl := lv_entry ([.ref (c 100), .int p0]) (n := 5) (Nat.le_of_ble_eq_true rfl)
  rw [lg_entry_eq]
  generalize (lg_sl ([.ref (c 100), .int p0]) ++ List.replicate (5 - (lg_sl ([.ref (c 100), .int p0])).length) Slot.unset).toArray = ls at hl ⊢
  have hl : lv_has ls 5 [(0, .ref (c 100)), (1, .int p0)] := hl
  have z_m10 : (-10 : Int32).toInt = -10 := by decide
  have z_m4 : (-4 : Int32).toInt = -4 := by decide
  have z_0 : (0 : Int32).toInt = 0 := by decide
  have z_1 : (1 : Int32).toInt = 1 := by decide
  have z_128 : (128 : Int32).toInt = 128 := by decide
  have hin_X4 : ∀ w ∈ u_ws RX4 TX4 6, w ∈ wsX8_mend := by decide +kernel
  have hin_X7 : ∀ w ∈ u_ws RX7 TX7 2, w ∈ wsX8_mend := by decide +kernel
  have hin_X8 : ∀ w ∈ u_ws RX8 TX8 10, w ∈ wsX8_mend := by decide +kernel
  have hmono : ∀ y m, pgM (kc 0) R y m → pgM (kc 0) R y m := fun y m h => h
  have hG := hY.1
  have hP : va_P (dC, dI) vwCl (cw_W (rU c 99 (c 99)) kc st lg ai al R) s.heap := by rw [rU_self]; exact hP
  have hD : va_D A (cw_W (rU c 99 (c 99)) kc st lg ai al R) := by rw [rU_self]; exact hD
  have hc0 : cap = 0 → cap = 0 ∧ c 99 = c 99 := fun h => ⟨h, rfl⟩
  have hcp : cap ≤ cap := Nat.le_refl _
  have hN1 : ((cap : Nat) : Int) ≤ 10 + 2 * (st 13).toInt := hN.1
  have main : ∀ (H : Heap) (locs : List Loc), va_P (dC, dI) vwCl (cw_W (rU c 99 (c 99)) kc st lg ai al R) H → va_S A s.heap H locs → W p l e (headSpec wsX8_mend ({ frames := 9, cells := 8, slots := 640100, locals := 447 })).room s m ([.ref (c 100), .int p0] : List Value).toArray below meth cM H locs 0 0 (vx_MQ below (va_Qi (fun r (u : Int32) => r = u) (fun u t => ∃ (x5 : Int32) (x9 : Int32) (x10 : Int32) (x11 : Int32) (x12 : Int32) (x13 : Int32) (x17 : Int32) (x18 : Int32) (x25 : Int32) (x26 : Int32) (x27 : Int32) (x28 : Int32) (x29 : Int32) (f0 : Nat → Int32) (f7 : Nat → Int32) (f8 : Nat → Int32) (f14 : Nat → Int32) (f20 : Nat → Int32) (f21 : Nat → Int32) (f22 : Nat → Int32) (f23 : Nat → Int32) (g19 : Nat → Int64) (e9 cap9 : Nat) (num9 : Nat → Int32) (R9 : va_W), (0 ≤ x5.toInt) ∧ (x5.toInt ≤ 400) ∧ (0 ≤ x9.toInt) ∧ (x9.toInt ≤ 1) ∧ (0 ≤ x13.toInt) ∧ (x13.toInt ≤ 65536) ∧ (0 ≤ x17.toInt) ∧ (x17.toInt ≤ 128) ∧ (0 ≤ x25.toInt) ∧ (x25.toInt ≤ 128) ∧ (0 ≤ x26.toInt) ∧ (x26.toInt ≤ 128) ∧ (-1 ≤ x27.toInt) ∧ (x27.toInt ≤ 127) ∧ (0 ≤ x28.toInt) ∧ (x28.toInt ≤ 1) ∧ (aR f7 8224 (-128) 127) ∧ (aR f23 128 (0) 127) ∧ (PI (kc 98) (kc 0) e9 x13 cap9 num9 none R9) ∧ (∀ y m, pgM (kc 0) R y m → pgM (kc 0) R9 y m) ∧ (va_D A (cw_W (rU c 99 e9) kc (rU (rU (rU (rU (rU (rU (rU (rU (rU (rU (rU (rU (rU st 5 x5) 9 x9) 10 x10) 11 x11) 12 x12) 13 x13) 17 x17) 18 x18) 25 x25) 26 x26) 27 x27) 28 x28) 29 x29) lg (rU (rU (rU (rU (rU (rU (rU (rU ai 0 f0) 7 f7) 8 f8) 14 f14) 20 f20) 21 f21) 22 f22) 23 f23) (rU al 19 g19) R9)) ∧ (NI cap9 x13) ∧ (cap9 = 0 → cap = 0 ∧ e9 = c 99) ∧ (cap ≤ cap9) ∧ ((st 13).toInt ≤ x13.toInt) ∧ (x13.toInt ≤ (st 13).toInt + 1) ∧ (((t.heap.size : Nat) : Int) ≤ ((s.heap.size : Nat) : Int) + 2 + 3 * (x13.toInt - (st 13).toInt)) ∧ (((tot t.heap : Nat) : Int) ≤ ((tot s.heap : Nat) : Int) + 12 + 29 * (x13.toInt - (st 13).toInt) + 4 * (((cap9 : Nat) : Int) - ((cap : Nat) : Int))) ∧ va_P (dC, dI) vwCl (cw_W (rU c 99 e9) kc (rU (rU (rU (rU (rU (rU (rU (rU (rU (rU (rU (rU (rU st 5 x5) 9 x9) 10 x10) 11 x11) 12 x12) 13 x13) 17 x17) 18 x18) 25 x25) 26 x26) 27 x27) 28 x28) 29 x29) lg (rU (rU (rU (rU (rU (rU (rU (rU ai 0 f0) 7 f7) 8 f8) 14 f14) 20 f20) 21 f21) 22 f22) 23 f23) (rU al 19 g19) R9) t.heap) A) (vx_X (fun _ : Unit => True) (fun E _ t => E ∈ (["java/lang/IllegalArgumentException", "java/lang/IllegalStateException"] : List String) ∧ ∃ (x5 : Int32) (x9 : Int32) (x10 : Int32) (x11 : Int32) (x12 : Int32) (x13 : Int32) (x17 : Int32) (x18 : Int32) (x25 : Int32) (x26 : Int32) (x27 : Int32) (x28 : Int32) (x29 : Int32) (f0 : Nat → Int32) (f7 : Nat → Int32) (f8 : Nat → Int32) (f14 : Nat → Int32) (f20 : Nat → Int32) (f21 : Nat → Int32) (f22 : Nat → Int32) (f23 : Nat → Int32) (g19 : Nat → Int64) (e9 cap9 : Nat) (num9 : Nat → Int32) (R9 : va_W), (0 ≤ x5.toInt) ∧ (x5.toInt ≤ 400) ∧ (0 ≤ x9.toInt) ∧ (x9.toInt ≤ 1) ∧ (0 ≤ x13.toInt) ∧ (x13.toInt ≤ 65536) ∧ (0 ≤ x17.toInt) ∧ (x17.toInt ≤ 128) ∧ (0 ≤ x25.toInt) ∧ (x25.toInt ≤ 128) ∧ (0 ≤ x26.toInt) ∧ (x26.toInt ≤ 128) ∧ (-1 ≤ x27.toInt) ∧ (x27.toInt ≤ 127) ∧ (0 ≤ x28.toInt) ∧ (x28.toInt ≤ 1) ∧ (aR f7 8224 (-128) 127) ∧ (aR f23 128 (0) 127) ∧ (PI (kc 98) (kc 0) e9 x13 cap9 num9 none R9) ∧ (∀ y m, pgM (kc 0) R y m → pgM (kc 0) R9 y m) ∧ (va_D A (cw_W (rU c 99 e9) kc (rU (rU (rU (rU (rU (rU (rU (rU (rU (rU (rU (rU (rU st 5 x5) 9 x9) 10 x10) 11 x11) 12 x12) 13 x13) 17 x17) 18 x18) 25 x25) 26 x26) 27 x27) 28 x28) 29 x29) lg (rU (rU (rU (rU (rU (rU (rU (rU ai 0 f0) 7 f7) 8 f8) 14 f14) 20 f20) 21 f21) 22 f22) 23 f23) (rU al 19 g19) R9)) ∧ (NI cap9 x13) ∧ (cap9 = 0 → cap = 0 ∧ e9 = c 99) ∧ (cap ≤ cap9) ∧ ((st 13).toInt ≤ x13.toInt) ∧ (x13.toInt ≤ (st 13).toInt + 1) ∧ (((t.heap.size : Nat) : Int) ≤ ((s.heap.size : Nat) : Int) + 2 + 3 * (x13.toInt - (st 13).toInt)) ∧ (((tot t.heap : Nat) : Int) ≤ ((tot s.heap : Nat) : Int) + 12 + 29 * (x13.toInt - (st 13).toInt) + 4 * (((cap9 : Nat) : Int) - ((cap : Nat) : Int))) ∧ va_P (dC, dI) vwCl (cw_W (rU c 99 e9) kc (rU (rU (rU (rU (rU (rU (rU (rU (rU (rU (rU (rU (rU st 5 x5) 9 x9) 10 x10) 11 x11) 12 x12) 13 x13) 17 x17) 18 x18) 25 x25) 26 x26) 27 x27) 28 x28) 29 x29) lg (rU (rU (rU (rU (rU (rU (rU (rU ai 0 f0) 7 f7) 8 f8) 14 f14) 20 f20) 21 f21) 22 f22) 23 f23) (rU al 19 g19) R9) t.heap) A) ([.ref (c 100), .int p0] : List Value).toArray s 8 640100 A) (F0 m 0 ls []) := by
    intro H locs hP hS
    refine lv_aload_n hx hb dX8_mend_0 rfl (lv_at hl 0 rfl) ?_
    have hFc := vfree ((cw_D hD : va_D A (cw_W (rU c 99 (c 99)) kc st lg ai al R)) : va_D A (cw_W (rU c 99 (c 99)) kc st lg ai al R)) hS hA
    refine vx_callv (vx_runV (As := []) (rest := []) ⟨hx, hb, hml, hown, hts⟩ (v_X8_demandPower l hl0 dC dI (rU c 99 (c 99)) kc st lg ai al R  _ (show 0 ≤ (st 9).toInt by omega) (show (st 9).toInt ≤ 1 by omega)) (cwV 0 hts gX8_mend_X8_demandPower rfl rfl rfl (by decide +kernel) ⟨Nat.le_of_ble_eq_true rfl, Nat.le_of_ble_eq_true rfl⟩) ⟨fun a U g mk q => by obtain ⟨q0, q1, qP, qK, qD, qG⟩ := q; exact ⟨q0, q1, qP, va_K.moved (u := U) (U := U.calling g mk a) (Vm.Alike.refl U.vm) qK, qD, qG.same rfl rfl⟩, va_recv hK hP (ci := 10) (q := (RX8, TX8, 10)) rfl (q0 := 0) rfl, fun U hU hW => ⟨rfl, by rw [hU], by rw [hU]; exact hP, va_K.moved hW.alike hK, ((cw_D hD : va_D A (cw_W (rU c 99 (c 99)) kc st lg ai al R))).weaken (fun _ _ _ _ => trivial), hG.go hW hU hS hFc⟩⟩ rfl rfl hl.1 rfl (lv_room (Nat.le_of_ble_eq_true rfl)) dX8_mend_1 ⟨by show 0 + 1 ≤ 8; omega, by show 0 + 6 ≤ 640100; omega⟩) hS (fun q _ h => hFc q h) hFc (fun q _ h => hFc q h) (fun E9 ce q9 u t H1 locs ht hvm hp hE hz hk hS hcell hv hcl => ?_) (fun ur_1 t H1 locs ht hvm er_1 hB hz1 hk1 hS => ?_)
    · skip
      obtain ⟨hE, hP1⟩ := hE
      rw [ht] at hP1
      have hP : va_P (dC, dI) vwCl (cw_W (rU c 99 (c 99)) kc st lg ai al R) H1 := hP1
      refine vxW_read (fun hu1 hu2 => ?_)
      exact vx_out (fun x h => (hno x h).elim) hlocks hcell hv hcl (fun t ht hW => ⟨(), trivial, ⟨(show ∀ x ∈ (["java/lang/IllegalStateException"] : List String), x ∈ (["java/lang/IllegalArgumentException", "java/lang/IllegalStateException"] : List String) by decide +kernel) _ hE, st 5, st 9, st 10, st 11, st 12, st 13, st 17, st 18, st 25, st 26, st 27, st 28, st 29, ai 0, ai 7, ai 8, ai 14, ai 20, ai 21, ai 22, ai 23, al 19, c 99, cap, num, R, (by omega), (by omega), (by omega), (by omega), (by omega), (by omega), (by omega), (by omega), (by omega), (by omega), (by omega), (by omega), (by omega), (by omega), (by omega), (by omega), hR7, hR23, hPI, hmono, (cw_D hD), hN, hc0, hcp, (by omega), (by omega), (by rw [ht]; omega), (by rw [ht]; omega), by rw [ht]; exact hP⟩, hS.F ht⟩) hS.2.2 (Nat.le_of_ble_eq_true rfl) (Nat.le_of_ble_eq_true rfl)
    · skip
      have hP1 : va_P (dC, dI) vwCl (cw_W (rU c 99 (c 99)) kc st lg ai al R) t.heap := hB
      rw [ht] at hP1
      clear hFc hz1 hk1 hvm hP
      subst ht
      have hP := hP1
      clear hP1
      generalize t.heap = H at hP hS ⊢
      have hP : va_P (dC, dI) vwCl (cw_W (rU c 99 (c 99)) kc st lg ai al R) H := hP
      refine lv_aload_n hx hb dX8_mend_4 rfl (lv_at hl 0 rfl) ?_
      refine lv_iload_n hx hb dX8_mend_5 rfl (lv_at hl 1 rfl) ?_
      have hFc := vfree ((cw_D hD : va_D A (cw_W (rU c 99 (c 99)) kc st lg ai al R)) : va_D A (cw_W (rU c 99 (c 99)) kc st lg ai al R)) hS hA
      refine va_calli (va_runV (As := [.int p0]) (rest := []) ⟨hx, hb, hml, hown, hts⟩ (v_X8_isAsked l dC dI (rU c 99 (c 99)) kc st lg ai al R cap num p0 _ hPI (show 0 ≤ (st 13).toInt by omega) (show (st 13).toInt ≤ 65536 by omega) (show 0 ≤ (st 15).toInt by omega) (show (st 15).toInt ≤ 1 by omega) (show 0 ≤ (st 17).toInt by omega) (show (st 17).toInt ≤ 128 by omega)) (cwV 1 hts gX8_mend_X8_isAsked rfl rfl rfl (by decide +kernel) ⟨Nat.le_of_ble_eq_true rfl, Nat.le_of_ble_eq_true rfl⟩) ⟨fun a U g mk q => by obtain ⟨q0, q1, qP, qK, qD, qG⟩ := q; exact ⟨q0, q1, qP, va_K.moved (u := U) (U := U.calling g mk a) (Vm.Alike.refl U.vm) qK, qD, qG.same rfl rfl⟩, va_recv hK hP (ci := 10) (q := (RX8, TX8, 10)) rfl (q0 := 0) rfl, fun U hU hW => ⟨rfl, by rw [hU], by rw [hU]; exact hP, va_K.moved hW.alike hK, ((cw_D hD : va_D A (cw_W (rU c 99 (c 99)) kc st lg ai al R))).weaken (fun _ _ _ _ => trivial), hG.go hW hU hS hFc⟩⟩ rfl rfl hl.1 rfl (lv_room (Nat.le_of_ble_eq_true rfl)) dX8_mend_6 ⟨by show 1 + 0 ≤ 8; omega, by show 6 + 0 ≤ 640100; omega⟩) hS (fun q _ h => hFc q h) hFc (fun r_2 ur_2 t H1 locs ht hvm er_2 hB hz1 hk1 hS => ?_)
      subst er_2
      obtain ⟨f8_2, R_2, k_3, k_4, k_5, hPI, hmo, hD1, hP1⟩ := hB
      rw [ht] at hP1
      clear hz1 hk1 hvm hP
      subst ht
      have hP := hP1
      clear hP1
      generalize t.heap = H at hP hS ⊢
      have hP : va_P (dC, dI) vwCl (cw_W (rU c 99 (c 99)) kc st lg (rU ai 8 f8_2) al R_2) H := hP
      have hD : va_D A (cw_W (rU c 99 (c 99)) kc st lg ai al R_2) := cw_D (hD1.weaken (fun _ _ _ h => hFc _ h))
      have hPI : PI (kc 98) (kc 0) (c 99) (st 13) cap num none R_2 := hPI
      clear hFc hD1
      have hmono : ∀ y m, pgM (kc 0) R y m → pgM (kc 0) R_2 y m := fun y m h => hmo y m (hmono y m h)
      rcases iv_01 (a := r_2) (by omega) (by omega) with b_6 | b_6
      · skip
        have ib_6 := iv_eq b_6
        rw [b_6]
        refine lv_if_ne (tgt := 23) hx hb dX8_mend_9 (by decide) (fun c_7 => ?_) (fun c_7 => ?_)
        · skip
          have ic_7 := iv_ne c_7
          exfalso
          omega
        · skip
          have ic_7 := iv_eq c_7
          obtain ⟨sa, hstr⟩ := hGW.2.1 ("BlockLog", 324, "it is not asked for") (by decide +kernel)
          refine vx_useX (k := 2) (n := 12) (XC0 := (vx_X (fun _ : Unit => True) (fun E _ t => E ∈ (["java/lang/IllegalArgumentException", "java/lang/IllegalStateException"] : List String) ∧ ∃ (x5 : Int32) (x9 : Int32) (x10 : Int32) (x11 : Int32) (x12 : Int32) (x13 : Int32) (x17 : Int32) (x18 : Int32) (x25 : Int32) (x26 : Int32) (x27 : Int32) (x28 : Int32) (x29 : Int32) (f0 : Nat → Int32) (f7 : Nat → Int32) (f8 : Nat → Int32) (f14 : Nat → Int32) (f20 : Nat → Int32) (f21 : Nat → Int32) (f22 : Nat → Int32) (f23 : Nat → Int32) (g19 : Nat → Int64) (e9 cap9 : Nat) (num9 : Nat → Int32) (R9 : va_W), (0 ≤ x5.toInt) ∧ (x5.toInt ≤ 400) ∧ (0 ≤ x9.toInt) ∧ (x9.toInt ≤ 1) ∧ (0 ≤ x13.toInt) ∧ (x13.toInt ≤ 65536) ∧ (0 ≤ x17.toInt) ∧ (x17.toInt ≤ 128) ∧ (0 ≤ x25.toInt) ∧ (x25.toInt ≤ 128) ∧ (0 ≤ x26.toInt) ∧ (x26.toInt ≤ 128) ∧ (-1 ≤ x27.toInt) ∧ (x27.toInt ≤ 127) ∧ (0 ≤ x28.toInt) ∧ (x28.toInt ≤ 1) ∧ (aR f7 8224 (-128) 127) ∧ (aR f23 128 (0) 127) ∧ (PI (kc 98) (kc 0) e9 x13 cap9 num9 none R9) ∧ (∀ y m, pgM (kc 0) R y m → pgM (kc 0) R9 y m) ∧ (va_D A (cw_W (rU c 99 e9) kc (rU (rU (rU (rU (rU (rU (rU (rU (rU (rU (rU (rU (rU st 5 x5) 9 x9) 10 x10) 11 x11) 12 x12) 13 x13) 17 x17) 18 x18) 25 x25) 26 x26) 27 x27) 28 x28) 29 x29) lg (rU (rU (rU (rU (rU (rU (rU (rU ai 0 f0) 7 f7) 8 f8) 14 f14) 20 f20) 21 f21) 22 f22) 23 f23) (rU al 19 g19) R9)) ∧ (NI cap9 x13) ∧ (cap9 = 0 → cap = 0 ∧ e9 = c 99) ∧ (cap ≤ cap9) ∧ ((st 13).toInt ≤ x13.toInt) ∧ (x13.toInt ≤ (st 13).toInt + 1) ∧ va_P (dC, dI) vwCl (cw_W (rU c 99 e9) kc (rU (rU (rU (rU (rU (rU (rU (rU (rU (rU (rU (rU (rU st 5 x5) 9 x9) 10 x10) 11 x11) 12 x12) 13 x13) 17 x17) 18 x18) 25 x25) 26 x26) 27 x27) 28 x28) 29 x29) lg (rU (rU (rU (rU (rU (rU (rU (rU ai 0 f0) 7 f7) 8 f8) 14 f14) 20 f20) 21 f21) 22 f22) 23 f23) (rU al 19 g19) R9) t.heap) A)) ?_ (fun E9 t9 h9 hu1 hu2 => by obtain ⟨u9, hu9, ⟨hE9, z0, z1, z2, z3, z4, z5, z6, z7, z8, z9, z10, z11, z12, z13, z14, z15, z16, z17, z18, z19, z20, z21, z22, z23, z24, z25, y0, y1, y2, y3, y4, y5, y6, y7, y8, y9, y10, y11, y12, y13, y14, y15, y16, y17, y18, y19, y20, y21, y22, y23, y24, y25, hP9⟩, hF9⟩ := h9; exact ⟨u9, hu9, ⟨hE9, z0, z1, z2, z3, z4, z5, z6, z7, z8, z9, z10, z11, z12, z13, z14, z15, z16, z17, z18, z19, z20, z21, z22, z23, z24, z25, y0, y1, y2, y3, y4, y5, y6, y7, y8, y9, y10, y11, y12, y13, y14, y15, y16, y17, y18, y19, y20, y21, y22, y23, y24, y25, (by omega), (by omega), hP9⟩, hF9⟩) (Nat.le_of_ble_eq_true rfl) (Nat.le_of_ble_eq_true rfl)
          exact vx_throwSW (names := ["java/lang/RuntimeException", "java/lang/Exception"]) hx hb hl0 hown (by decide +kernel) (by decide +kernel) (hts (.classLink RX8 76 "java/lang/IllegalArgumentException") (by decide +kernel)) (hts (.initialized "java/lang/IllegalArgumentException") (by decide +kernel)) hstr (vx_hat (B := gx_bad "java/lang/IllegalArgumentException") (fun w h => hts w (List.mem_cons_of_mem _ (List.mem_append_left _ (List.mem_append_right _ h)))) (by decide +kernel) (hGW.bad (by decide))) (by decide +kernel) hG.2.1 hG.2.2.1 hS (hl.1.trans hml.symm) dX8_mend_12 dX8_mend_15 dX8_mend_16 dX8_mend_19 dX8_mend_22 (fun x h => (hno x h).elim) (Nat.le_of_ble_eq_true rfl) (Nat.le_of_ble_eq_true rfl) (Nat.le_of_ble_eq_true rfl) (Nat.le_of_ble_eq_true rfl) hlocks (fun t _ h1 h2 => ⟨(), trivial, ⟨(by decide +kernel), st 5, st 9, st 10, st 11, st 12, st 13, st 17, st 18, st 25, st 26, st 27, st 28, st 29, ai 0, ai 7, f8_2, ai 14, ai 20, ai 21, ai 22, ai 23, al 19, c 99, cap, num, R_2, (by omega), (by omega), (by omega), (by omega), (by omega), (by omega), (by omega), (by omega), (by omega), (by omega), (by omega), (by omega), (by omega), (by omega), (by omega), (by omega), hR7, hR23, hPI, hmono, (cw_D hD), hN, hc0, hcp, (by omega), (by omega), hP.kept (fun k q hk => h2 _ (hP k q hk).lt)⟩, Nat.le_trans hS.1 h1, fun q hq hn => (h2 q (Nat.lt_of_lt_of_le hq hS.1)).trans (hS.2.1 q hq hn)⟩) hS.2.2 (Nat.le_of_ble_eq_true rfl) (Nat.le_of_ble_eq_true rfl)
      · skip
        have ib_6 := iv_eq b_6
        rw [b_6]
        refine lv_if_ne (tgt := 23) hx hb dX8_mend_9 (by decide) (fun c_8 => ?_) (fun c_8 => ?_)
        · skip
          have ic_8 := iv_ne c_8
          refine lv_iload_n hx hb dX8_mend_23 rfl (lv_at hl 1 rfl) ?_
          refine lv_sipush (v := 128) hx hb dX8_mend_24 (by decide) ?_
          refine lv_icmp_ge (tgt := 34) hx hb dX8_mend_27 (by decide) (fun c_9 => ?_) (fun c_9 => ?_)
          · skip
            have ic_9 := iv_le c_9
            refine lv_iconst (v := 0) hx hb dX8_mend_34 (by decide) ?_
            refine lv_istore_n (lv' := [(2, .int (0 : Int32)), (0, .ref (c 100)), (1, .int p0)]) hx hb dX8_mend_35 rfl hl (by decide) rfl (fun ls hl => ?_)
            refine lv_iload_n hx hb dX8_mend_36 rfl (lv_at hl 0 rfl) ?_
            refine lv_if_eq (tgt := 55) hx hb dX8_mend_37 (by decide) (fun c_10 => ?_) (fun c_10 => ?_)
            · skip
              have ic_10 := iv_eq c_10
              refine lv_aload_n hx hb dX8_mend_55 rfl (lv_at hl 1 rfl) ?_
              refine lv_iload_n hx hb dX8_mend_56 rfl (lv_at hl 2 rfl) ?_
              refine lv_sipush (v := 128) hx hb dX8_mend_57 (by decide) ?_
              refine lv_isub hx hb dX8_mend_60 ?_
              refine lv_topi (fun v_11 ev_11 => ?_)
              have rg1 := iv_rng p0
              have hv_11 : v_11.toInt = p0.toInt - 128 := by rw [ev_11]; exact (iv_sub (by omega) (by omega)).trans (by omega)
              clear ev_11
              have hFc := vfree ((cw_D hD : va_D A (cw_W (rU c 99 (c 99)) kc st lg (rU ai 8 f8_2) al R_2)) : va_D A (cw_W (rU c 99 (c 99)) kc st lg (rU ai 8 f8_2) al R_2)) hS hA
              refine va_calli (va_runV (As := [.int v_11]) (rest := []) ⟨hx, hb, hml, hown, hts⟩ (v_X8_drawMendedPage l dC dI (rU c 99 (c 99)) kc st lg (rU ai 8 f8_2) al R_2 cap num v_11 _ hPI (show 0 ≤ (st 5).toInt by omega) (show (st 5).toInt ≤ 400 by omega) (show 0 ≤ (st 13).toInt by omega) (show (st 13).toInt ≤ 65536 by omega) (show aR (ai 4) 400 (-128) 127 from hR4)) (cwV 1 hts gX8_mend_X8_drawMendedPage rfl rfl rfl (by decide +kernel) ⟨Nat.le_of_ble_eq_true rfl, Nat.le_of_ble_eq_true rfl⟩) ⟨fun a U g mk q => by obtain ⟨q0, q1, qP, qK, qD, qG⟩ := q; exact ⟨q0, q1, qP, va_K.moved (u := U) (U := U.calling g mk a) (Vm.Alike.refl U.vm) qK, qD, qG.same rfl rfl⟩, va_recv hK hP (ci := 10) (q := (RX8, TX8, 10)) rfl (q0 := 0) rfl, fun U hU hW => ⟨rfl, by rw [hU], by rw [hU]; exact hP, va_K.moved hW.alike hK, ((cw_D hD : va_D A (cw_W (rU c 99 (c 99)) kc st lg (rU ai 8 f8_2) al R_2))).weaken (fun _ _ _ _ => trivial), hG.go hW hU hS hFc⟩⟩ rfl rfl hl.1 rfl (lv_room (Nat.le_of_ble_eq_true rfl)) dX8_mend_61 ⟨by show 1 + 0 ≤ 8; omega, by show 6 + 0 ≤ 640100; omega⟩) hS (fun q _ h => hFc q h) hFc (fun r_12 ur_12 t H1 locs ht hvm er_12 hB hz1 hk1 hS => ?_)
              subst er_12
              obtain ⟨f0_12, k_13, k_14, hP1⟩ := hB
              rw [ht] at hP1
              clear hFc hz1 hk1 hvm hP
              subst ht
              have hP := hP1
              clear hP1
              generalize t.heap = H at hP hS ⊢
              have hP : va_P (dC, dI) vwCl (cw_W (rU c 99 (c 99)) kc st lg (rU (rU ai 0 f0_12) 8 f8_2) al R_2) H := hP
              rcases iv_01 (a := r_12) (by omega) (by omega) with b_15 | b_15
              · skip
                have ib_15 := iv_eq b_15
                rw [b_15]
                refine lv_istore_n (lv' := [(3, .int (0 : Int32)), (2, .int (0 : Int32)), (0, .ref (c 100)), (1, .int p0)]) hx hb dX8_mend_64 rfl hl (by decide) rfl (fun ls hl => ?_)
                refine lv_iload_n hx hb dX8_mend_65 rfl (lv_at hl 0 rfl) ?_
                refine lv_if_ne (tgt := 72) hx hb dX8_mend_66 (by decide) (fun c_16 => ?_) (fun c_16 => ?_)
                · skip
                  have ic_16 := iv_ne c_16
                  exfalso
                  omega
                · skip
                  have ic_16 := iv_eq c_16
                  refine lv_bipush (v := (-10)) hx hb dX8_mend_69 (by decide) ?_
                  refine W_read (fun hu1 hu2 => ?_)
                  refine W.widen (k := 8) (n := 640100) (by omega) (by omega) ?_
                  refine vx_ret ?_
                  exact W.iret hx hb hr (fun t ht hW => ⟨⟨_, _, rfl, rfl, st 5, st 9, st 10, st 11, st 12, st 13, st 17, st 18, st 25, st 26, st 27, st 28, st 29, f0_12, ai 7, f8_2, ai 14, ai 20, ai 21, ai 22, ai 23, al 19, c 99, cap, num, R_2, (by omega), (by omega), (by omega), (by omega), (by omega), (by omega), (by omega), (by omega), (by omega), (by omega), (by omega), (by omega), (by omega), (by omega), (by omega), (by omega), hR7, hR23, hPI, hmono, (cw_D hD), hN, hc0, hcp, (by omega), (by omega), (by rw [ht]; omega), (by rw [ht]; omega), by rw [ht]; exact hP⟩, hS.F ht⟩) hS.2.2 dX8_mend_71
              · skip
                have ib_15 := iv_eq b_15
                rw [b_15]
                refine lv_istore_n (lv' := [(3, .int (1 : Int32)), (2, .int (0 : Int32)), (0, .ref (c 100)), (1, .int p0)]) hx hb dX8_mend_64 rfl hl (by decide) rfl (fun ls hl => ?_)
                refine lv_iload_n hx hb dX8_mend_65 rfl (lv_at hl 0 rfl) ?_
                refine lv_if_ne (tgt := 72) hx hb dX8_mend_66 (by decide) (fun c_17 => ?_) (fun c_17 => ?_)
                · skip
                  have ic_17 := iv_ne c_17
                  refine lv_aload_n hx hb dX8_mend_72 rfl (lv_at hl 2 rfl) ?_
                  refine va_get (D := (dC, dI)) (ci := 10) (v := .ref (c 101)) (C := RX8) (T := TX8) (N := 10) hx hb hts hin_X8 hown hK hP 0 rfl rfl 0 (by decide) (hts (.fieldLink RX8 13 "BlockLog" "tape" "LBlockLog$Tape;") (by decide +kernel)) (fun _ h9 => h9) rfl dX8_mend_73 ?_
                  refine lv_iconst (v := 0) hx hb dX8_mend_76 (by decide) ?_
                  refine va_putN (D := (dC, dI)) (ci := 9) (v := .int (0 : Int32)) (ty := .int) (C := RX7) (T := TX7) (N := 2) hx hb hts hin_X7 tyX7 tyX7_ok nmX7 hown hK hP (cw_D hD) hS 1 rfl rfl 1 (by decide) (va_Nw.use rfl (hGW.1 ("BlockLog", 83, "BlockLog$Tape", "count", "I", "BlockLog") (by decide +kernel))) (fun _ h9 => h9) rfl (by decide +kernel) rfl rfl (Nat.le_of_ble_eq_true rfl) dX8_mend_77 (fun H locs hP _ hS => ?_)
                  have hP : va_P (dC, dI) vwCl (cw_W (rU c 99 (c 99)) kc (rU st 5 (0 : Int32)) lg (rU (rU ai 0 f0_12) 8 f8_2) al R_2) H := hP
                  refine lv_iload_n hx hb dX8_mend_80 rfl (lv_at hl 1 rfl) ?_
                  refine lv_if_eq (tgt := 95) hx hb dX8_mend_81 (by decide) (fun c_18 => ?_) (fun c_18 => ?_)
                  · skip
                    have ic_18 := iv_eq c_18
                    refine lv_aload_n hx hb dX8_mend_95 rfl (lv_at hl 2 rfl) ?_
                    refine va_get (D := (dC, dI)) (ci := 10) (v := .ref (c 102)) (C := RX8) (T := TX8) (N := 10) hx hb hts hin_X8 hown hK hP 0 rfl rfl 1 (by decide) (hts (.fieldLink RX8 22 "BlockLog" "disk" "LBlockLog$Disk;") (by decide +kernel)) (fun _ h9 => h9) rfl dX8_mend_96 ?_
                    refine lv_iload_n hx hb dX8_mend_99 rfl (lv_at hl 3 rfl) ?_
                    refine lv_sipush (v := 128) hx hb dX8_mend_100 (by decide) ?_
                    refine lv_isub hx hb dX8_mend_103 ?_
                    refine lv_topi (fun v_19 ev_19 => ?_)
                    have hv_19 : v_19.toInt = p0.toInt - 128 := by rw [ev_19]; exact (iv_sub (by omega) (by omega)).trans (by omega)
                    clear ev_19
                    refine lv_aload_n hx hb dX8_mend_104 rfl (lv_at hl 2 rfl) ?_
                    refine va_get (D := (dC, dI)) (ci := 10) (v := .ref (c 0)) (C := RX8) (T := TX8) (N := 10) hx hb hts hin_X8 hown hK hP 0 rfl rfl 6 (by decide) (hts (.fieldLink RX8 60 "BlockLog" "pageImage" "[B") (by decide +kernel)) (fun _ h9 => h9) rfl dX8_mend_105 ?_
                    refine W_read (fun hu1 hu2 => ?_)
                    have hFc := vfree ((cw_D hD : va_D A (cw_W (rU c 99 (c 99)) kc (rU st 5 (0 : Int32)) lg (rU (rU ai 0 f0_12) 8 f8_2) al R_2)) : va_D A (cw_W (rU c 99 (c 99)) kc (rU st 5 (0 : Int32)) lg (rU (rU ai 0 f0_12) 8 f8_2) al R_2)) hS hA
                    refine va_calli (va_runV (As := [.int v_19, .ref (c 0)]) (rest := []) ⟨hx, hb, hml, hown, hts⟩ (v_X1_writePage l dC dI (rU c 99 (c 99)) kc (rU st 5 (0 : Int32)) lg (rU (rU ai 0 f0_12) 8 f8_2) al R_2 cap num v_19 _ _ hPI hN (show 0 ≤ (st 9).toInt by omega) (show (st 9).toInt ≤ 1 by omega) (show 0 ≤ (st 13).toInt by omega) (show (st 13).toInt ≤ 65536 by omega) (by omega) (by omega)) (cwV 2 hts gX8_mend_X1_writePage rfl rfl rfl (by decide +kernel) ⟨Nat.le_of_ble_eq_true rfl, Nat.le_of_ble_eq_true rfl⟩) ⟨fun a U g mk q => by obtain ⟨q0, q1, q2, qP, qK, qD, qG⟩ := q; exact ⟨q0, q1, q2, qP, va_K.moved (u := U) (U := U.calling g mk a) (Vm.Alike.refl U.vm) qK, qD, qG.same rfl rfl⟩, va_recv hK hP (ci := 3) (q := (RX1, TX1, 7)) rfl (q0 := 2) rfl, fun U hU hW => ⟨rfl, by rw [hU], by rw [hU], by rw [hU]; exact hP, va_K.moved hW.alike hK, ((cw_D hD : va_D A (cw_W (rU c 99 (c 99)) kc (rU st 5 (0 : Int32)) lg (rU (rU ai 0 f0_12) 8 f8_2) al R_2))).weaken (fun _ _ _ _ => trivial), hY.go hW hU hS hFc hc0⟩⟩ rfl rfl hl.1 rfl (lv_room (Nat.le_of_ble_eq_true rfl)) dX8_mend_108 ⟨by show 1 + 6 ≤ 8; omega, by show 6 + 640000 ≤ 640100; omega⟩) hS (fun q _ h => hFc q h) hFc (fun r_20 ur_20 t H1 locs ht hvm er_20 hB hz1 hk1 hS => ?_)
                    subst er_20
                    obtain ⟨x9_20, x10_20, x11_20, x12_20, x13_20, e_20, cap_20, num_20, R_20, k_21, k_22, k_23, k_24, k_25, k_26, hPI, hmo, hD1, hN, hc1, hcp1, hnn1, hnn2, hus1, hus2, hP1⟩ := hB
                    rw [ht] at hP1
                    clear hz1 hk1 hvm hP
                    subst ht
                    have hP := hP1
                    clear hP1
                    generalize t.heap = H at hP hS hus1 hus2 ⊢
                    rw [rU_rU (f := c) (k := 99) (a := (c 99)) (b := e_20)] at hP
                    have hP : va_P (dC, dI) vwCl (cw_W (rU c 99 e_20) kc (rU (rU (rU (rU (rU (rU st 5 (0 : Int32)) 9 x9_20) 10 x10_20) 11 x11_20) 12 x12_20) 13 x13_20) lg (rU (rU ai 0 f0_12) 8 f8_2) al R_20) H := hP
                    rw [rU_rU (f := c) (k := 99) (a := (c 99)) (b := e_20)] at hD1
                    have hD : va_D A (cw_W (rU c 99 e_20) kc st lg ai al R_20) := cw_D (hD1.weaken (fun _ _ _ h => hFc _ h))
                    have hc0 : cap_20 = 0 → cap = 0 ∧ e_20 = c 99 := fun h => ⟨(hc0 (hc1 h).1).1, (show e_20 = c 99 from (hc1 h).2).trans (hc0 (hc1 h).1).2⟩
                    have hcp : cap ≤ cap_20 := Nat.le_trans hcp hcp1
                    have hN1 : ((cap_20 : Nat) : Int) ≤ 10 + 2 * x13_20.toInt := hN.1
                    have hnn1 : (st 13).toInt ≤ x13_20.toInt := hnn1
                    have hnn2 : x13_20.toInt ≤ (st 13).toInt + 1 := hnn2
                    have hus1 : ((H.size : Nat) : Int) ≤ _ + 0 + 3 * (x13_20.toInt - (st 13).toInt) := hus1
                    have hus2 : ((tot H : Nat) : Int) ≤ _ + 0 + 29 * (x13_20.toInt - (st 13).toInt) + 4 * (((cap_20 : Nat) : Int) - ((cap : Nat) : Int)) := hus2
                    obtain ⟨k_27, hk_27⟩ : ∃ k9 : Nat, (k9 : Int) = ((1 : Nat) : Int) + 0 + 3 * (x13_20.toInt - (st 13).toInt) := ⟨(((1 : Nat) : Int) + 0 + 3 * (x13_20.toInt - (st 13).toInt)).toNat, by omega⟩
                    obtain ⟨m_27, hm_27⟩ : ∃ m9 : Nat, (m9 : Int) = ((6 : Nat) : Int) + 0 + 29 * (x13_20.toInt - (st 13).toInt) + 4 * (((cap_20 : Nat) : Int) - ((cap : Nat) : Int)) := ⟨(((6 : Nat) : Int) + 0 + 29 * (x13_20.toInt - (st 13).toInt) + 4 * (((cap_20 : Nat) : Int) - ((cap : Nat) : Int))).toNat, by omega⟩
                    refine W_tight (k' := k_27) (m' := m_27) (by omega) (by omega) ?_
                    clear hus1 hus2 hu1 hu2
                    have hPI : PI (kc 98) (kc 0) e_20 x13_20 cap_20 num_20 none R_20 := hPI
                    clear hFc hD1
                    have hmono : ∀ y m, pgM (kc 0) R y m → pgM (kc 0) R_20 y m := fun y m h => hmo y m (hmono y m h)
                    have k_23 : 0 ≤ x9_20.toInt := k_23
                    have k_24 : x9_20.toInt ≤ 1 := k_24
                    have k_25 : 0 ≤ x13_20.toInt := k_25
                    have k_26 : x13_20.toInt ≤ 65536 := k_26
                    rcases iv_01 (a := r_20) (by omega) (by omega) with b_28 | b_28
                    · skip
                      have ib_28 := iv_eq b_28
                      rw [b_28]
                      refine lv_istore (lv' := [(4, .int (0 : Int32)), (3, .int (1 : Int32)), (2, .int (0 : Int32)), (0, .ref (c 100)), (1, .int p0)]) hx hb dX8_mend_111 hl (by decide) rfl (fun ls hl => ?_)
                      refine lv_iload hx hb dX8_mend_113 (lv_at hl 0 rfl) ?_
                      refine lv_if_ne (tgt := 121) hx hb dX8_mend_115 (by decide) (fun c_29 => ?_) (fun c_29 => ?_)
                      · skip
                        have ic_29 := iv_ne c_29
                        exfalso
                        omega
                      · skip
                        have ic_29 := iv_eq c_29
                        refine lv_bipush (v := (-4)) hx hb dX8_mend_118 (by decide) ?_
                        refine W_read (fun hu1 hu2 => ?_)
                        refine W.widen (k := 8) (n := 640100) (by omega) (by omega) ?_
                        refine vx_ret ?_
                        exact W.iret hx hb hr (fun t ht hW => ⟨⟨_, _, rfl, rfl, (0 : Int32), x9_20, x10_20, x11_20, x12_20, x13_20, st 17, st 18, st 25, st 26, st 27, st 28, st 29, f0_12, ai 7, f8_2, ai 14, ai 20, ai 21, ai 22, ai 23, al 19, e_20, cap_20, num_20, R_20, (by omega), (by omega), (by omega), (by omega), (by omega), (by omega), (by omega), (by omega), (by omega), (by omega), (by omega), (by omega), (by omega), (by omega), (by omega), (by omega), hR7, hR23, hPI, hmono, (cw_D hD), hN, hc0, hcp, (by omega), (by omega), (by rw [ht]; omega), (by rw [ht]; omega), by rw [ht]; exact hP⟩, hS.F ht⟩) hS.2.2 dX8_mend_120
                    · skip
                      have ib_28 := iv_eq b_28
                      rw [b_28]
                      refine lv_istore (lv' := [(4, .int (1 : Int32)), (3, .int (1 : Int32)), (2, .int (0 : Int32)), (0, .ref (c 100)), (1, .int p0)]) hx hb dX8_mend_111 hl (by decide) rfl (fun ls hl => ?_)
                      refine lv_iload hx hb dX8_mend_113 (lv_at hl 0 rfl) ?_
                      refine lv_if_ne (tgt := 121) hx hb dX8_mend_115 (by decide) (fun c_30 => ?_) (fun c_30 => ?_)
                      · skip
                        have ic_30 := iv_ne c_30
                        refine lv_iload_n hx hb dX8_mend_121 rfl (lv_at hl 2 rfl) ?_
                        refine lv_if_eq (tgt := 132) hx hb dX8_mend_122 (by decide) (fun c_31 => ?_) (fun c_31 => ?_)
                        · skip
                          have ic_31 := iv_eq c_31
                          refine lv_aload_n hx hb dX8_mend_132 rfl (lv_at hl 3 rfl) ?_
                          refine va_get (D := (dC, dI)) (ci := 10) (v := .ref (c 104)) (C := RX8) (T := TX8) (N := 10) hx hb hts hin_X8 hown hK hP 0 rfl rfl 2 (by decide) (hts (.fieldLink RX8 31 "BlockLog" "rows" "LBlockLog$Rows;") (by decide +kernel)) (fun _ h9 => h9) rfl dX8_mend_133 ?_
                          refine va_getN (D := (dC, dI)) (ci := 6) (v := .int (st 18)) (C := RX4) (T := TX4) (N := 6) hx hb hts hin_X4 hown hK hP 4 rfl rfl 5 (by decide) (va_Nw.use rfl (hGW.1 ("BlockLog", 312, "BlockLog$Rows", "bad", "I", "BlockLog") (by decide +kernel))) (fun _ h9 => h9) rfl dX8_mend_136 ?_
                          refine lv_aload_n hx hb dX8_mend_139 rfl (lv_at hl 3 rfl) ?_
                          refine va_get (D := (dC, dI)) (ci := 10) (v := .ref (c 102)) (C := RX8) (T := TX8) (N := 10) hx hb hts hin_X8 hown hK hP 0 rfl rfl 1 (by decide) (hts (.fieldLink RX8 22 "BlockLog" "disk" "LBlockLog$Disk;") (by decide +kernel)) (fun _ h9 => h9) rfl dX8_mend_140 ?_
                          have hFc := vfree ((cw_D hD : va_D A (cw_W (rU c 99 e_20) kc (rU (rU (rU (rU (rU (rU st 5 (0 : Int32)) 9 x9_20) 10 x10_20) 11 x11_20) 12 x12_20) 13 x13_20) lg (rU (rU ai 0 f0_12) 8 f8_2) al R_20)) : va_D A (cw_W (rU c 99 e_20) kc (rU (rU (rU (rU (rU (rU st 5 (0 : Int32)) 9 x9_20) 10 x10_20) 11 x11_20) 12 x12_20) 13 x13_20) lg (rU (rU ai 0 f0_12) 8 f8_2) al R_20)) hS hA
                          refine va_calli (va_runV (As := []) (rest := [.int (st 18)]) ⟨hx, hb, hml, hown, hts⟩ (v_X1_badPages l dC dI (rU c 99 e_20) kc (rU (rU (rU (rU (rU (rU st 5 (0 : Int32)) 9 x9_20) 10 x10_20) 11 x11_20) 12 x12_20) 13 x13_20) lg (rU (rU ai 0 f0_12) 8 f8_2) al R_20 cap_20 num_20  _ hPI (show 0 ≤ x13_20.toInt by omega) (show x13_20.toInt ≤ 65536 by omega)) (cwV 0 hts gX8_mend_X1_badPages rfl rfl rfl (by decide +kernel) ⟨Nat.le_of_ble_eq_true rfl, Nat.le_of_ble_eq_true rfl⟩) ⟨fun a U g mk q => by obtain ⟨q0, q1, qP, qK, qD, qG⟩ := q; exact ⟨q0, q1, qP, va_K.moved (u := U) (U := U.calling g mk a) (Vm.Alike.refl U.vm) qK, qD, qG.same rfl rfl⟩, va_recv hK hP (ci := 3) (q := (RX1, TX1, 7)) rfl (q0 := 2) rfl, fun U hU hW => ⟨rfl, by rw [hU], by rw [hU]; exact hP, va_K.moved hW.alike hK, ((cw_D hD : va_D A (cw_W (rU c 99 e_20) kc (rU (rU (rU (rU (rU (rU st 5 (0 : Int32)) 9 x9_20) 10 x10_20) 11 x11_20) 12 x12_20) 13 x13_20) lg (rU (rU ai 0 f0_12) 8 f8_2) al R_20))).weaken (fun _ _ _ _ => trivial), hG.go hW hU hS hFc⟩⟩ rfl rfl hl.1 rfl (lv_room (Nat.le_of_ble_eq_true rfl)) dX8_mend_143 ⟨by show k_27 + 0 ≤ 8; omega, by show m_27 + 0 ≤ 640100; omega⟩) hS (fun q _ h => hFc q h) hFc (fun r_32 ur_32 t H1 locs ht hvm er_32 hB hz1 hk1 hS => ?_)
                          subst er_32
                          obtain ⟨R_32, hPI, hmo, hD1, hP1⟩ := hB
                          rw [ht] at hP1
                          clear hz1 hk1 hvm hP
                          subst ht
                          have hP := hP1
                          clear hP1
                          generalize t.heap = H at hP hS ⊢
                          have hP : va_P (dC, dI) vwCl (cw_W (rU c 99 e_20) kc (rU (rU (rU (rU (rU (rU st 5 (0 : Int32)) 9 x9_20) 10 x10_20) 11 x11_20) 12 x12_20) 13 x13_20) lg (rU (rU ai 0 f0_12) 8 f8_2) al R_32) H := hP
                          have hD : va_D A (cw_W (rU c 99 e_20) kc st lg ai al R_32) := cw_D (hD1.weaken (fun _ _ _ h => hFc _ h))
                          have hPI : PI (kc 98) (kc 0) e_20 x13_20 cap_20 num_20 none R_32 := hPI
                          clear hFc hD1
                          have hmono : ∀ y m, pgM (kc 0) R y m → pgM (kc 0) R_32 y m := fun y m h => hmo y m (hmono y m h)
                          refine lv_iadd hx hb dX8_mend_146 ?_
                          refine lv_topi (fun v_33 ev_33 => ?_)
                          clear ev_33
                          refine W_read (fun hu1 hu2 => ?_)
                          refine W.widen (k := 8) (n := 640100) (by omega) (by omega) ?_
                          refine vx_ret ?_
                          exact W.iret hx hb hr (fun t ht hW => ⟨⟨_, _, rfl, rfl, (0 : Int32), x9_20, x10_20, x11_20, x12_20, x13_20, st 17, st 18, st 25, st 26, st 27, st 28, st 29, f0_12, ai 7, f8_2, ai 14, ai 20, ai 21, ai 22, ai 23, al 19, e_20, cap_20, num_20, R_32, (by omega), (by omega), (by omega), (by omega), (by omega), (by omega), (by omega), (by omega), (by omega), (by omega), (by omega), (by omega), (by omega), (by omega), (by omega), (by omega), hR7, hR23, hPI, hmono, (cw_D hD), hN, hc0, hcp, (by omega), (by omega), (by rw [ht]; omega), (by rw [ht]; omega), by rw [ht]; exact hP⟩, hS.F ht⟩) hS.2.2 dX8_mend_147
                        · skip
                          have ic_31 := iv_ne c_31
                          exfalso
                          omega
                      · skip
                        have ic_30 := iv_eq c_30
                        exfalso
                        omega
                  · skip
                    have ic_18 := iv_ne c_18
                    exfalso
                    omega
                · skip
                  have ic_17 := iv_eq c_17
                  exfalso
                  omega
            · skip
              have ic_10 := iv_ne c_10
              exfalso
              omega
          · skip
            have ic_9 := iv_nle c_9
            refine lv_iconst (v := 1) hx hb dX8_mend_30 (by decide) ?_
            refine lv_goto (tgt := 35) hx hb dX8_mend_31 (by decide) ?_
            refine lv_istore_n (lv' := [(2, .int (1 : Int32)), (0, .ref (c 100)), (1, .int p0)]) hx hb dX8_mend_35 rfl hl (by decide) rfl (fun ls hl => ?_)
            refine lv_iload_n hx hb dX8_mend_36 rfl (lv_at hl 0 rfl) ?_
            refine lv_if_eq (tgt := 55) hx hb dX8_mend_37 (by decide) (fun c_34 => ?_) (fun c_34 => ?_)
            · skip
              have ic_34 := iv_eq c_34
              exfalso
              omega
            · skip
              have ic_34 := iv_ne c_34
              refine lv_aload_n hx hb dX8_mend_40 rfl (lv_at hl 1 rfl) ?_
              refine va_get (D := (dC, dI)) (ci := 10) (v := .ref (c 104)) (C := RX8) (T := TX8) (N := 10) hx hb hts hin_X8 hown hK hP 0 rfl rfl 2 (by decide) (hts (.fieldLink RX8 31 "BlockLog" "rows" "LBlockLog$Rows;") (by decide +kernel)) (fun _ h9 => h9) rfl dX8_mend_41 ?_
              refine lv_iload_n hx hb dX8_mend_44 rfl (lv_at hl 2 rfl) ?_
              refine lv_aload_n hx hb dX8_mend_45 rfl (lv_at hl 1 rfl) ?_
              refine va_get (D := (dC, dI)) (ci := 10) (v := .ref (c 101)) (C := RX8) (T := TX8) (N := 10) hx hb hts hin_X8 hown hK hP 0 rfl rfl 0 (by decide) (hts (.fieldLink RX8 13 "BlockLog" "tape" "LBlockLog$Tape;") (by decide +kernel)) (fun _ h9 => h9) rfl dX8_mend_46 ?_
              have hFc := vfree ((cw_D hD : va_D A (cw_W (rU c 99 (c 99)) kc st lg (rU ai 8 f8_2) al R_2)) : va_D A (cw_W (rU c 99 (c 99)) kc st lg (rU ai 8 f8_2) al R_2)) hS hA
              refine va_calli (va_runV (As := [.int p0, .ref (c 101)]) (rest := []) ⟨hx, hb, hml, hown, hts⟩ (v_X4_drawMended l dC dI (rU c 99 (c 99)) kc st lg (rU ai 8 f8_2) al R_2 p0 _ (show 0 ≤ (st 5).toInt by omega) (show (st 5).toInt ≤ 400 by omega) (show 0 ≤ (st 15).toInt by omega) (show (st 15).toInt ≤ 1 by omega) (by omega) (by omega) (show aR (ai 4) 400 (-128) 127 from hR4)) (cwV 2 hts gX8_mend_X4_drawMended rfl rfl rfl (by decide +kernel) ⟨Nat.le_of_ble_eq_true rfl, Nat.le_of_ble_eq_true rfl⟩) ⟨fun a U g mk q => by obtain ⟨q0, q1, qP, qK, qD, qG⟩ := q; exact ⟨q0, q1, qP, va_K.moved (u := U) (U := U.calling g mk a) (Vm.Alike.refl U.vm) qK, qD, qG.same rfl rfl⟩, va_recv hK hP (ci := 6) (q := (RX4, TX4, 6)) rfl (q0 := 4) rfl, fun U hU hW => ⟨rfl, by rw [hU], by rw [hU]; exact hP, va_K.moved hW.alike hK, ((cw_D hD : va_D A (cw_W (rU c 99 (c 99)) kc st lg (rU ai 8 f8_2) al R_2))).weaken (fun _ _ _ _ => trivial), hG.go hW hU hS hFc⟩⟩ rfl rfl hl.1 rfl (lv_room (Nat.le_of_ble_eq_true rfl)) dX8_mend_49 ⟨by show 1 + 0 ≤ 8; omega, by show 6 + 0 ≤ 640100; omega⟩) hS (fun q _ h => hFc q h) hFc (fun r_35 ur_35 t H1 locs ht hvm er_35 hB hz1 hk1 hS => ?_)
              subst er_35
              obtain ⟨f14_35, k_36, k_37, hP1⟩ := hB
              rw [ht] at hP1
              clear hFc hz1 hk1 hvm hP
              subst ht
              have hP := hP1
              clear hP1
              generalize t.heap = H at hP hS ⊢
              have hP : va_P (dC, dI) vwCl (cw_W (rU c 99 (c 99)) kc st lg (rU (rU ai 8 f8_2) 14 f14_35) al R_2) H := hP
              rcases iv_01 (a := r_35) (by omega) (by omega) with b_38 | b_38
              · skip
                have ib_38 := iv_eq b_38
                rw [b_38]
                refine lv_goto (tgt := 64) hx hb dX8_mend_52 (by decide) ?_
                refine lv_istore_n (lv' := [(3, .int (0 : Int32)), (2, .int (1 : Int32)), (0, .ref (c 100)), (1, .int p0)]) hx hb dX8_mend_64 rfl hl (by decide) rfl (fun ls hl => ?_)
                refine lv_iload_n hx hb dX8_mend_65 rfl (lv_at hl 0 rfl) ?_
                refine lv_if_ne (tgt := 72) hx hb dX8_mend_66 (by decide) (fun c_39 => ?_) (fun c_39 => ?_)
                · skip
                  have ic_39 := iv_ne c_39
                  exfalso
                  omega
                · skip
                  have ic_39 := iv_eq c_39
                  refine lv_bipush (v := (-10)) hx hb dX8_mend_69 (by decide) ?_
                  refine W_read (fun hu1 hu2 => ?_)
                  refine W.widen (k := 8) (n := 640100) (by omega) (by omega) ?_
                  refine vx_ret ?_
                  exact W.iret hx hb hr (fun t ht hW => ⟨⟨_, _, rfl, rfl, st 5, st 9, st 10, st 11, st 12, st 13, st 17, st 18, st 25, st 26, st 27, st 28, st 29, ai 0, ai 7, f8_2, f14_35, ai 20, ai 21, ai 22, ai 23, al 19, c 99, cap, num, R_2, (by omega), (by omega), (by omega), (by omega), (by omega), (by omega), (by omega), (by omega), (by omega), (by omega), (by omega), (by omega), (by omega), (by omega), (by omega), (by omega), hR7, hR23, hPI, hmono, (cw_D hD), hN, hc0, hcp, (by omega), (by omega), (by rw [ht]; omega), (by rw [ht]; omega), by rw [ht]; exact hP⟩, hS.F ht⟩) hS.2.2 dX8_mend_71
              · skip
                have ib_38 := iv_eq b_38
                rw [b_38]
                refine lv_goto (tgt := 64) hx hb dX8_mend_52 (by decide) ?_
                refine lv_istore_n (lv' := [(3, .int (1 : Int32)), (2, .int (1 : Int32)), (0, .ref (c 100)), (1, .int p0)]) hx hb dX8_mend_64 rfl hl (by decide) rfl (fun ls hl => ?_)
                refine lv_iload_n hx hb dX8_mend_65 rfl (lv_at hl 0 rfl) ?_
                refine lv_if_ne (tgt := 72) hx hb dX8_mend_66 (by decide) (fun c_40 => ?_) (fun c_40 => ?_)
                · skip
                  have ic_40 := iv_ne c_40
                  refine lv_aload_n hx hb dX8_mend_72 rfl (lv_at hl 2 rfl) ?_
                  refine va_get (D := (dC, dI)) (ci := 10) (v := .ref (c 101)) (C := RX8) (T := TX8) (N := 10) hx hb hts hin_X8 hown hK hP 0 rfl rfl 0 (by decide) (hts (.fieldLink RX8 13 "BlockLog" "tape" "LBlockLog$Tape;") (by decide +kernel)) (fun _ h9 => h9) rfl dX8_mend_73 ?_
                  refine lv_iconst (v := 0) hx hb dX8_mend_76 (by decide) ?_
                  refine va_putN (D := (dC, dI)) (ci := 9) (v := .int (0 : Int32)) (ty := .int) (C := RX7) (T := TX7) (N := 2) hx hb hts hin_X7 tyX7 tyX7_ok nmX7 hown hK hP (cw_D hD) hS 1 rfl rfl 1 (by decide) (va_Nw.use rfl (hGW.1 ("BlockLog", 83, "BlockLog$Tape", "count", "I", "BlockLog") (by decide +kernel))) (fun _ h9 => h9) rfl (by decide +kernel) rfl rfl (Nat.le_of_ble_eq_true rfl) dX8_mend_77 (fun H locs hP _ hS => ?_)
                  have hP : va_P (dC, dI) vwCl (cw_W (rU c 99 (c 99)) kc (rU st 5 (0 : Int32)) lg (rU (rU ai 8 f8_2) 14 f14_35) al R_2) H := hP
                  refine lv_iload_n hx hb dX8_mend_80 rfl (lv_at hl 1 rfl) ?_
                  refine lv_if_eq (tgt := 95) hx hb dX8_mend_81 (by decide) (fun c_41 => ?_) (fun c_41 => ?_)
                  · skip
                    have ic_41 := iv_eq c_41
                    exfalso
                    omega
                  · skip
                    have ic_41 := iv_ne c_41
                    refine lv_aload_n hx hb dX8_mend_84 rfl (lv_at hl 2 rfl) ?_
                    refine va_get (D := (dC, dI)) (ci := 10) (v := .ref (c 104)) (C := RX8) (T := TX8) (N := 10) hx hb hts hin_X8 hown hK hP 0 rfl rfl 2 (by decide) (hts (.fieldLink RX8 31 "BlockLog" "rows" "LBlockLog$Rows;") (by decide +kernel)) (fun _ h9 => h9) rfl dX8_mend_85 ?_
                    refine lv_iload_n hx hb dX8_mend_88 rfl (lv_at hl 3 rfl) ?_
                    have hFc := vfree ((cw_D hD : va_D A (cw_W (rU c 99 (c 99)) kc (rU st 5 (0 : Int32)) lg (rU (rU ai 8 f8_2) 14 f14_35) al R_2)) : va_D A (cw_W (rU c 99 (c 99)) kc (rU st 5 (0 : Int32)) lg (rU (rU ai 8 f8_2) 14 f14_35) al R_2)) hS hA
                    refine va_calli (va_runV (As := [.int p0]) (rest := []) ⟨hx, hb, hml, hown, hts⟩ (v_X4_rewrite l dC dI (rU c 99 (c 99)) kc (rU st 5 (0 : Int32)) lg (rU (rU ai 8 f8_2) 14 f14_35) al R_2 p0 _ (show 0 ≤ (st 9).toInt by omega) (show (st 9).toInt ≤ 1 by omega) (show 0 ≤ (st 15).toInt by omega) (show (st 15).toInt ≤ 1 by omega) (show 0 ≤ (st 17).toInt by omega) (show (st 17).toInt ≤ 128 by omega) (by omega) (by omega) (show aR (ai 7) 8224 (-128) 127 from hR7)) (cwV 1 hts gX8_mend_X4_rewrite rfl rfl rfl (by decide +kernel) ⟨Nat.le_of_ble_eq_true rfl, Nat.le_of_ble_eq_true rfl⟩) ⟨fun a U g mk q => by obtain ⟨q0, q1, qP, qK, qD, qG⟩ := q; exact ⟨q0, q1, qP, va_K.moved (u := U) (U := U.calling g mk a) (Vm.Alike.refl U.vm) qK, qD, qG.same rfl rfl⟩, va_recv hK hP (ci := 6) (q := (RX4, TX4, 6)) rfl (q0 := 4) rfl, fun U hU hW => ⟨rfl, by rw [hU], by rw [hU]; exact hP, va_K.moved hW.alike hK, ((cw_D hD : va_D A (cw_W (rU c 99 (c 99)) kc (rU st 5 (0 : Int32)) lg (rU (rU ai 8 f8_2) 14 f14_35) al R_2))).weaken (fun _ _ _ _ => trivial), hG.go hW hU hS hFc⟩⟩ rfl rfl hl.1 rfl (lv_room (Nat.le_of_ble_eq_true rfl)) dX8_mend_89 ⟨by show 1 + 0 ≤ 8; omega, by show 6 + 0 ≤ 640100; omega⟩) hS (fun q _ h => hFc q h) hFc (fun r_42 ur_42 t H1 locs ht hvm er_42 hB hz1 hk1 hS => ?_)
                    subst er_42
                    obtain ⟨x9_42, x10_42, x11_42, x17_42, x18_42, f7_42, f8_42, k_43, k_44, k_45, k_46, k_47, k_48, hR7, hP1⟩ := hB
                    rw [ht] at hP1
                    clear hFc hz1 hk1 hvm hP
                    subst ht
                    have hP := hP1
                    clear hP1
                    generalize t.heap = H at hP hS ⊢
                    have hP : va_P (dC, dI) vwCl (cw_W (rU c 99 (c 99)) kc (rU (rU (rU (rU (rU (rU st 5 (0 : Int32)) 9 x9_42) 10 x10_42) 11 x11_42) 17 x17_42) 18 x18_42) lg (rU (rU (rU ai 7 f7_42) 8 f8_42) 14 f14_35) al R_2) H := hP
                    have k_45 : 0 ≤ x9_42.toInt := k_45
                    have k_46 : x9_42.toInt ≤ 1 := k_46
                    have k_47 : 0 ≤ x17_42.toInt := k_47
                    have k_48 : x17_42.toInt ≤ 128 := k_48
                    have hR7 : aR f7_42 8224 (-128) 127 := hR7
                    rcases iv_01 (a := r_42) (by omega) (by omega) with b_49 | b_49
                    · skip
                      have ib_49 := iv_eq b_49
                      rw [b_49]
                      refine lv_goto (tgt := 111) hx hb dX8_mend_92 (by decide) ?_
                      refine lv_istore (lv' := [(4, .int (0 : Int32)), (3, .int (1 : Int32)), (2, .int (1 : Int32)), (0, .ref (c 100)), (1, .int p0)]) hx hb dX8_mend_111 hl (by decide) rfl (fun ls hl => ?_)
                      refine lv_iload hx hb dX8_mend_113 (lv_at hl 0 rfl) ?_
                      refine lv_if_ne (tgt := 121) hx hb dX8_mend_115 (by decide) (fun c_50 => ?_) (fun c_50 => ?_)
                      · skip
                        have ic_50 := iv_ne c_50
                        exfalso
                        omega
                      · skip
                        have ic_50 := iv_eq c_50
                        refine lv_bipush (v := (-4)) hx hb dX8_mend_118 (by decide) ?_
                        refine W_read (fun hu1 hu2 => ?_)
                        refine W.widen (k := 8) (n := 640100) (by omega) (by omega) ?_
                        refine vx_ret ?_
                        exact W.iret hx hb hr (fun t ht hW => ⟨⟨_, _, rfl, rfl, (0 : Int32), x9_42, x10_42, x11_42, st 12, st 13, x17_42, x18_42, st 25, st 26, st 27, st 28, st 29, ai 0, f7_42, f8_42, f14_35, ai 20, ai 21, ai 22, ai 23, al 19, c 99, cap, num, R_2, (by omega), (by omega), (by omega), (by omega), (by omega), (by omega), (by omega), (by omega), (by omega), (by omega), (by omega), (by omega), (by omega), (by omega), (by omega), (by omega), hR7, hR23, hPI, hmono, (cw_D hD), hN, hc0, hcp, (by omega), (by omega), (by rw [ht]; omega), (by rw [ht]; omega), by rw [ht]; exact hP⟩, hS.F ht⟩) hS.2.2 dX8_mend_120
                    · skip
                      have ib_49 := iv_eq b_49
                      rw [b_49]
                      refine lv_goto (tgt := 111) hx hb dX8_mend_92 (by decide) ?_
                      refine lv_istore (lv' := [(4, .int (1 : Int32)), (3, .int (1 : Int32)), (2, .int (1 : Int32)), (0, .ref (c 100)), (1, .int p0)]) hx hb dX8_mend_111 hl (by decide) rfl (fun ls hl => ?_)
                      refine lv_iload hx hb dX8_mend_113 (lv_at hl 0 rfl) ?_
                      refine lv_if_ne (tgt := 121) hx hb dX8_mend_115 (by decide) (fun c_51 => ?_) (fun c_51 => ?_)
                      · skip
                        have ic_51 := iv_ne c_51
                        refine lv_iload_n hx hb dX8_mend_121 rfl (lv_at hl 2 rfl) ?_
                        refine lv_if_eq (tgt := 132) hx hb dX8_mend_122 (by decide) (fun c_52 => ?_) (fun c_52 => ?_)
                        · skip
                          have ic_52 := iv_eq c_52
                          exfalso
                          omega
                        · skip
                          have ic_52 := iv_ne c_52
                          refine lv_aload_n hx hb dX8_mend_125 rfl (lv_at hl 3 rfl) ?_
                          refine va_get (D := (dC, dI)) (ci := 10) (v := .ref (c 105)) (C := RX8) (T := TX8) (N := 10) hx hb hts hin_X8 hown hK hP 0 rfl rfl 3 (by decide) (hts (.fieldLink RX8 40 "BlockLog" "story" "LBlockLog$Story;") (by decide +kernel)) (fun _ h9 => h9) rfl dX8_mend_126 ?_
                          have hFc := vfree ((cw_D hD : va_D A (cw_W (rU c 99 (c 99)) kc (rU (rU (rU (rU (rU (rU st 5 (0 : Int32)) 9 x9_42) 10 x10_42) 11 x11_42) 17 x17_42) 18 x18_42) lg (rU (rU (rU ai 7 f7_42) 8 f8_42) 14 f14_35) al R_2)) : va_D A (cw_W (rU c 99 (c 99)) kc (rU (rU (rU (rU (rU (rU st 5 (0 : Int32)) 9 x9_42) 10 x10_42) 11 x11_42) 17 x17_42) 18 x18_42) lg (rU (rU (rU ai 7 f7_42) 8 f8_42) 14 f14_35) al R_2)) hS hA
                          refine va_callv (va_runV (As := []) (rest := []) ⟨hx, hb, hml, hown, hts⟩ (v_X6_hearAnew l dC dI (rU c 99 (c 99)) kc (rU (rU (rU (rU (rU (rU st 5 (0 : Int32)) 9 x9_42) 10 x10_42) 11 x11_42) 17 x17_42) 18 x18_42) lg (rU (rU (rU ai 7 f7_42) 8 f8_42) 14 f14_35) al R_2  _ (show 0 ≤ (st 15).toInt by omega) (show (st 15).toInt ≤ 1 by omega) (show 0 ≤ x17_42.toInt by omega) (show x17_42.toInt ≤ 128 by omega) (show 0 ≤ (st 25).toInt by omega) (show (st 25).toInt ≤ 128 by omega) (show 0 ≤ (st 26).toInt by omega) (show (st 26).toInt ≤ 128 by omega) (show -1 ≤ (st 27).toInt by omega) (show (st 27).toInt ≤ 127 by omega) (show 0 ≤ (st 28).toInt by omega) (show (st 28).toInt ≤ 1 by omega) (show aR f7_42 8224 (-128) 127 from hR7) (show aR (ai 23) 128 (0) 127 from hR23)) (cwV 0 hts gX8_mend_X6_hearAnew rfl rfl rfl (by decide +kernel) ⟨Nat.le_of_ble_eq_true rfl, Nat.le_of_ble_eq_true rfl⟩) ⟨fun a U g mk q => by obtain ⟨q0, q1, qP, qK, qD, qG⟩ := q; exact ⟨q0, q1, qP, va_K.moved (u := U) (U := U.calling g mk a) (Vm.Alike.refl U.vm) qK, qD, qG.same rfl rfl⟩, va_recv hK hP (ci := 8) (q := (RX6, TX6, 12)) rfl (q0 := 5) rfl, fun U hU hW => ⟨rfl, by rw [hU], by rw [hU]; exact hP, va_K.moved hW.alike hK, ((cw_D hD : va_D A (cw_W (rU c 99 (c 99)) kc (rU (rU (rU (rU (rU (rU st 5 (0 : Int32)) 9 x9_42) 10 x10_42) 11 x11_42) 17 x17_42) 18 x18_42) lg (rU (rU (rU ai 7 f7_42) 8 f8_42) 14 f14_35) al R_2))).weaken (fun _ _ _ _ => trivial), hG.go hW hU hS hFc⟩⟩ rfl rfl hl.1 rfl (lv_room (Nat.le_of_ble_eq_true rfl)) dX8_mend_129 ⟨by show 1 + 0 ≤ 8; omega, by show 6 + 0 ≤ 640100; omega⟩) hS (fun q _ h => hFc q h) hFc (fun ur_53 t H1 locs ht hvm er_53 hB hz1 hk1 hS => ?_)
                          obtain ⟨x25_53, x26_53, x27_53, x28_53, x29_53, f20_53, f21_53, f22_53, f23_53, g19_53, k_54, k_55, k_56, k_57, k_58, k_59, k_60, k_61, hR23, hP1⟩ := hB
                          rw [ht] at hP1
                          clear hFc hz1 hk1 hvm hP
                          subst ht
                          have hP := hP1
                          clear hP1
                          generalize t.heap = H at hP hS ⊢
                          have hP : va_P (dC, dI) vwCl (cw_W (rU c 99 (c 99)) kc (rU (rU (rU (rU (rU (rU (rU (rU (rU (rU (rU st 5 (0 : Int32)) 9 x9_42) 10 x10_42) 11 x11_42) 17 x17_42) 18 x18_42) 25 x25_53) 26 x26_53) 27 x27_53) 28 x28_53) 29 x29_53) lg (rU (rU (rU (rU (rU (rU (rU ai 7 f7_42) 8 f8_42) 14 f14_35) 20 f20_53) 21 f21_53) 22 f22_53) 23 f23_53) (rU al 19 g19_53) R_2) H := hP
                          have k_54 : 0 ≤ x25_53.toInt := k_54
                          have k_55 : x25_53.toInt ≤ 128 := k_55
                          have k_56 : 0 ≤ x26_53.toInt := k_56
                          have k_57 : x26_53.toInt ≤ 128 := k_57
                          have k_58 : -1 ≤ x27_53.toInt := k_58
                          have k_59 : x27_53.toInt ≤ 127 := k_59
                          have k_60 : 0 ≤ x28_53.toInt := k_60
                          have k_61 : x28_53.toInt ≤ 1 := k_61
                          have hR23 : aR f23_53 128 (0) 127 := hR23
                          refine lv_aload_n hx hb dX8_mend_132 rfl (lv_at hl 3 rfl) ?_
                          refine va_get (D := (dC, dI)) (ci := 10) (v := .ref (c 104)) (C := RX8) (T := TX8) (N := 10) hx hb hts hin_X8 hown hK hP 0 rfl rfl 2 (by decide) (hts (.fieldLink RX8 31 "BlockLog" "rows" "LBlockLog$Rows;") (by decide +kernel)) (fun _ h9 => h9) rfl dX8_mend_133 ?_
                          refine va_getN (D := (dC, dI)) (ci := 6) (v := .int x18_42) (C := RX4) (T := TX4) (N := 6) hx hb hts hin_X4 hown hK hP 4 rfl rfl 5 (by decide) (va_Nw.use rfl (hGW.1 ("BlockLog", 312, "BlockLog$Rows", "bad", "I", "BlockLog") (by decide +kernel))) (fun _ h9 => h9) rfl dX8_mend_136 ?_
                          refine lv_aload_n hx hb dX8_mend_139 rfl (lv_at hl 3 rfl) ?_
                          refine va_get (D := (dC, dI)) (ci := 10) (v := .ref (c 102)) (C := RX8) (T := TX8) (N := 10) hx hb hts hin_X8 hown hK hP 0 rfl rfl 1 (by decide) (hts (.fieldLink RX8 22 "BlockLog" "disk" "LBlockLog$Disk;") (by decide +kernel)) (fun _ h9 => h9) rfl dX8_mend_140 ?_
                          have hFc := vfree ((cw_D hD : va_D A (cw_W (rU c 99 (c 99)) kc (rU (rU (rU (rU (rU (rU (rU (rU (rU (rU (rU st 5 (0 : Int32)) 9 x9_42) 10 x10_42) 11 x11_42) 17 x17_42) 18 x18_42) 25 x25_53) 26 x26_53) 27 x27_53) 28 x28_53) 29 x29_53) lg (rU (rU (rU (rU (rU (rU (rU ai 7 f7_42) 8 f8_42) 14 f14_35) 20 f20_53) 21 f21_53) 22 f22_53) 23 f23_53) (rU al 19 g19_53) R_2)) : va_D A (cw_W (rU c 99 (c 99)) kc (rU (rU (rU (rU (rU (rU (rU (rU (rU (rU (rU st 5 (0 : Int32)) 9 x9_42) 10 x10_42) 11 x11_42) 17 x17_42) 18 x18_42) 25 x25_53) 26 x26_53) 27 x27_53) 28 x28_53) 29 x29_53) lg (rU (rU (rU (rU (rU (rU (rU ai 7 f7_42) 8 f8_42) 14 f14_35) 20 f20_53) 21 f21_53) 22 f22_53) 23 f23_53) (rU al 19 g19_53) R_2)) hS hA
                          refine va_calli (va_runV (As := []) (rest := [.int x18_42]) ⟨hx, hb, hml, hown, hts⟩ (v_X1_badPages l dC dI (rU c 99 (c 99)) kc (rU (rU (rU (rU (rU (rU (rU (rU (rU (rU (rU st 5 (0 : Int32)) 9 x9_42) 10 x10_42) 11 x11_42) 17 x17_42) 18 x18_42) 25 x25_53) 26 x26_53) 27 x27_53) 28 x28_53) 29 x29_53) lg (rU (rU (rU (rU (rU (rU (rU ai 7 f7_42) 8 f8_42) 14 f14_35) 20 f20_53) 21 f21_53) 22 f22_53) 23 f23_53) (rU al 19 g19_53) R_2 cap num  _ hPI (show 0 ≤ (st 13).toInt by omega) (show (st 13).toInt ≤ 65536 by omega)) (cwV 0 hts gX8_mend_X1_badPages rfl rfl rfl (by decide +kernel) ⟨Nat.le_of_ble_eq_true rfl, Nat.le_of_ble_eq_true rfl⟩) ⟨fun a U g mk q => by obtain ⟨q0, q1, qP, qK, qD, qG⟩ := q; exact ⟨q0, q1, qP, va_K.moved (u := U) (U := U.calling g mk a) (Vm.Alike.refl U.vm) qK, qD, qG.same rfl rfl⟩, va_recv hK hP (ci := 3) (q := (RX1, TX1, 7)) rfl (q0 := 2) rfl, fun U hU hW => ⟨rfl, by rw [hU], by rw [hU]; exact hP, va_K.moved hW.alike hK, ((cw_D hD : va_D A (cw_W (rU c 99 (c 99)) kc (rU (rU (rU (rU (rU (rU (rU (rU (rU (rU (rU st 5 (0 : Int32)) 9 x9_42) 10 x10_42) 11 x11_42) 17 x17_42) 18 x18_42) 25 x25_53) 26 x26_53) 27 x27_53) 28 x28_53) 29 x29_53) lg (rU (rU (rU (rU (rU (rU (rU ai 7 f7_42) 8 f8_42) 14 f14_35) 20 f20_53) 21 f21_53) 22 f22_53) 23 f23_53) (rU al 19 g19_53) R_2))).weaken (fun _ _ _ _ => trivial), hG.go hW hU hS hFc⟩⟩ rfl rfl hl.1 rfl (lv_room (Nat.le_of_ble_eq_true rfl)) dX8_mend_143 ⟨by show 1 + 0 ≤ 8; omega, by show 6 + 0 ≤ 640100; omega⟩) hS (fun q _ h => hFc q h) hFc (fun r_62 ur_62 t H1 locs ht hvm er_62 hB hz1 hk1 hS => ?_)
                          subst er_62
                          obtain ⟨R_62, hPI, hmo, hD1, hP1⟩ := hB
                          rw [ht] at hP1
                          clear hz1 hk1 hvm hP
                          subst ht
                          have hP := hP1
                          clear hP1
                          generalize t.heap = H at hP hS ⊢
                          have hP : va_P (dC, dI) vwCl (cw_W (rU c 99 (c 99)) kc (rU (rU (rU (rU (rU (rU (rU (rU (rU (rU (rU st 5 (0 : Int32)) 9 x9_42) 10 x10_42) 11 x11_42) 17 x17_42) 18 x18_42) 25 x25_53) 26 x26_53) 27 x27_53) 28 x28_53) 29 x29_53) lg (rU (rU (rU (rU (rU (rU (rU ai 7 f7_42) 8 f8_42) 14 f14_35) 20 f20_53) 21 f21_53) 22 f22_53) 23 f23_53) (rU al 19 g19_53) R_62) H := hP
                          have hD : va_D A (cw_W (rU c 99 (c 99)) kc st lg ai al R_62) := cw_D (hD1.weaken (fun _ _ _ h => hFc _ h))
                          have hPI : PI (kc 98) (kc 0) (c 99) (st 13) cap num none R_62 := hPI
                          clear hFc hD1
                          have hmono : ∀ y m, pgM (kc 0) R y m → pgM (kc 0) R_62 y m := fun y m h => hmo y m (hmono y m h)
                          refine lv_iadd hx hb dX8_mend_146 ?_
                          refine lv_topi (fun v_63 ev_63 => ?_)
                          clear ev_63
                          refine W_read (fun hu1 hu2 => ?_)
                          refine W.widen (k := 8) (n := 640100) (by omega) (by omega) ?_
                          refine vx_ret ?_
                          exact W.iret hx hb hr (fun t ht hW => ⟨⟨_, _, rfl, rfl, (0 : Int32), x9_42, x10_42, x11_42, st 12, st 13, x17_42, x18_42, x25_53, x26_53, x27_53, x28_53, x29_53, ai 0, f7_42, f8_42, f14_35, f20_53, f21_53, f22_53, f23_53, g19_53, c 99, cap, num, R_62, (by omega), (by omega), (by omega), (by omega), (by omega), (by omega), (by omega), (by omega), (by omega), (by omega), (by omega), (by omega), (by omega), (by omega), (by omega), (by omega), hR7, hR23, hPI, hmono, (cw_D hD), hN, hc0, hcp, (by omega), (by omega), (by rw [ht]; omega), (by rw [ht]; omega), by rw [ht]; exact hP⟩, hS.F ht⟩) hS.2.2 dX8_mend_147
                      · skip
                        have ic_51 := iv_eq c_51
                        exfalso
                        omega
                · skip
                  have ic_40 := iv_eq c_40
                  exfalso
                  omega
        · skip
          have ic_8 := iv_eq c_8
          exfalso
          omega
  exact main s.heap [] hP hS

set_option maxHeartbeats 4000000 in
set_option maxRecDepth 100000 in
theorem v_X8_putSnapshot (l : Launch) (dC : Nat → ClassId) (dI : Nat → Nat → Nat) (c : Nat → Nat) (kc : Nat → ClassId) (st : Nat → Int32) (lg : Nat → Int64) (ai : Nat → Nat → Int32) (al : Nat → Nat → Int64) (R : va_W) (cap : Nat) (num : Nat → Int32)  (sz tz : Nat) (hPI : PI (kc 98) (kc 0) (c 99) (st 13) cap num none R) (hN : NI cap (st 13)) (hf6a : 1 ≤ (st 6).toInt) (hf6b : (st 6).toInt ≤ 65536) (hf9a : 0 ≤ (st 9).toInt) (hf9b : (st 9).toInt ≤ 1) (hf13a : 0 ≤ (st 13).toInt) (hf13b : (st 13).toInt ≤ 65536) (hf15a : 0 ≤ (st 15).toInt) (hf15b : (st 15).toInt ≤ 1) (hf17a : 0 ≤ (st 17).toInt) (hf17b : (st 17).toInt ≤ 128) (hf25a : 0 ≤ (st 25).toInt) (hf25b : (st 25).toInt ≤ 128) (hf26a : 0 ≤ (st 26).toInt) (hf26b : (st 26).toInt ≤ 128) (hf27a : -1 ≤ (st 27).toInt) (hf27b : (st 27).toInt ≤ 127) (hf28a : 0 ≤ (st 28).toInt) (hf28b : (st 28).toInt ≤ 1) (hf37a : 0 ≤ (st 37).toInt) (hf37b : (st 37).toInt ≤ 255) (hq0 : (st 37).toInt ≤ 16) (hR4 : aR (ai 4) 400 (-128) 127) (hR7 : aR (ai 7) 8224 (-128) 127) (hR23 : aR (ai 23) 128 (0) 127) (hR32 : aR (ai 32) 16 (0) 400) (hR33 : aR (ai 33) 16 (0) 255) : Met l yX8_putSnapshot wsX8_putSnapshot ({ frames := 10, cells := 60, slots := 1170000, locals := 469 }) (va_Pc [.ref (c 100)] (fun U => U.heap.size = sz ∧ tot U.heap = tz ∧ va_P (dC, dI) vwCl (cw_W c kc st lg ai al R) U.heap ∧ va_K (dC, dI) vwCl (cw_T kc) U ∧ va_D (fun _ => True) (cw_W c kc st lg ai al R) ∧ gy_E cap (c 99) (va_A (cw_W c kc st lg ai al R) sz) U)) (va_Qi (fun r (u : Int32) => r = u) (fun u t => ∃ (x9 : Int32) (x10 : Int32) (x11 : Int32) (x12 : Int32) (x13 : Int32) (x17 : Int32) (x25 : Int32) (x26 : Int32) (x27 : Int32) (x28 : Int32) (x29 : Int32) (f0 : Nat → Int32) (f7 : Nat → Int32) (f8 : Nat → Int32) (f14 : Nat → Int32) (f20 : Nat → Int32) (f21 : Nat → Int32) (f22 : Nat → Int32) (f23 : Nat → Int32) (g19 : Nat → Int64) (g34 : Nat → Int64) (e9 cap9 : Nat) (num9 : Nat → Int32) (R9 : va_W), (0 ≤ u.toInt) ∧ (u.toInt ≤ 1) ∧ (0 ≤ x9.toInt) ∧ (x9.toInt ≤ 1) ∧ (0 ≤ x13.toInt) ∧ (x13.toInt ≤ 65536) ∧ (0 ≤ x17.toInt) ∧ (x17.toInt ≤ 128) ∧ (0 ≤ x25.toInt) ∧ (x25.toInt ≤ 128) ∧ (0 ≤ x26.toInt) ∧ (x26.toInt ≤ 128) ∧ (-1 ≤ x27.toInt) ∧ (x27.toInt ≤ 127) ∧ (0 ≤ x28.toInt) ∧ (x28.toInt ≤ 1) ∧ (aR f7 8224 (-128) 127) ∧ (aR f23 128 (0) 127) ∧ (PI (kc 98) (kc 0) e9 x13 cap9 num9 none R9) ∧ (∀ y m, pgM (kc 0) R y m → pgM (kc 0) R9 y m) ∧ (va_D (va_A (cw_W c kc st lg ai al R) sz) (cw_W (rU c 99 e9) kc (rU (rU (rU (rU (rU (rU (rU (rU (rU (rU (rU st 9 x9) 10 x10) 11 x11) 12 x12) 13 x13) 17 x17) 25 x25) 26 x26) 27 x27) 28 x28) 29 x29) lg (rU (rU (rU (rU (rU (rU (rU (rU ai 0 f0) 7 f7) 8 f8) 14 f14) 20 f20) 21 f21) 22 f22) 23 f23) (rU (rU al 19 g19) 34 g34) R9)) ∧ (NI cap9 x13) ∧ (cap9 = 0 → cap = 0 ∧ e9 = c 99) ∧ (cap ≤ cap9) ∧ ((st 13).toInt ≤ x13.toInt) ∧ (x13.toInt ≤ (st 13).toInt + 16) ∧ (((t.heap.size : Nat) : Int) ≤ ((sz : Nat) : Int) + 0 + 3 * (x13.toInt - (st 13).toInt)) ∧ (((tot t.heap : Nat) : Int) ≤ ((tz : Nat) : Int) + 0 + 29 * (x13.toInt - (st 13).toInt) + 4 * (((cap9 : Nat) : Int) - ((cap : Nat) : Int))) ∧ va_P (dC, dI) vwCl (cw_W (rU c 99 e9) kc (rU (rU (rU (rU (rU (rU (rU (rU (rU (rU (rU st 9 x9) 10 x10) 11 x11) 12 x12) 13 x13) 17 x17) 25 x25) 26 x26) 27 x27) 28 x28) 29 x29) lg (rU (rU (rU (rU (rU (rU (rU (rU ai 0 f0) 7 f7) 8 f8) 14 f14) 20 f20) 21 f21) 22 f22) 23 f23) (rU (rU al 19 g19) 34 g34) R9) t.heap) (va_A (cw_W c kc st lg ai al R) sz)) 60 1170000 (va_A (cw_W c kc st lg ai al R) sz) := by
  refine Met.ofW (cc := cX8_putSnapshot) (maxL := 2) (ret := (some .boolean)) (by decide) rfl ?_
  intro p e s m args below meth cM s₁ B hml hv
  obtain ⟨rfl, hsz, htz, hP, hK, hD0, hY⟩ := hv
  have hx := B.exec
  have hb := B.bytes
  have hr := B.returns
  have hts := atoms_spec (ws := wsX8_putSnapshot) B.pre
  have hown : s.vm.findClass RX8 = some m.cls := findClass_of_methodNamed B.named
  have hG0 := hY.1
  have hGW := hG0.1
  subst hsz
  subst htz
  clear hG0
  have hD := hD0.self (sz := s.heap.size)
  generalize hAe : va_A (cw_W c kc st lg ai al R) s.heap.size = A at hD hY ⊢
  have hA : ∀ q : Nat, s.heap.size ≤ q → A q := fun q h => by rw [← hAe]; exact Or.inr h
  have hS : va_S A s.heap s.heap [] := va_S.rf
  clear hAe hD0
  have hl := lv_entry ([.ref (c 100)]) (n := 2) (Nat.le_of_ble_eq_true rfl)
  rw [lg_entry_eq]
  generalize (lg_sl ([.ref (c 100)]) ++ List.replicate (2 - (lg_sl ([.ref (c 100)])).length) Slot.unset).toArray = ls at hl ⊢
  have hl : lv_has ls 2 [(0, .ref (c 100))] := hl
  have z_0 : (0 : Int32).toInt = 0 := by decide
  have z_1 : (1 : Int32).toInt = 1 := by decide
  have z_3 : (3 : Int32).toInt = 3 := by decide
  have z_5 : (5 : Int32).toInt = 5 := by decide
  have z_17 : (17 : Int32).toInt = 17 := by decide
  have hin_X5 : ∀ w ∈ u_ws RX5 TX5 7, w ∈ wsX8_putSnapshot := by decide +kernel
  have hin_X8 : ∀ w ∈ u_ws RX8 TX8 10, w ∈ wsX8_putSnapshot := by decide +kernel
  have hmono : ∀ y m, pgM (kc 0) R y m → pgM (kc 0) R y m := fun y m h => h
  have hG := hY.1
  have hP : va_P (dC, dI) vwCl (cw_W (rU c 99 (c 99)) kc st lg ai al R) s.heap := by rw [rU_self]; exact hP
  have hD : va_D A (cw_W (rU c 99 (c 99)) kc st lg ai al R) := by rw [rU_self]; exact hD
  have hc0 : cap = 0 → cap = 0 ∧ c 99 = c 99 := fun h => ⟨h, rfl⟩
  have hcp : cap ≤ cap := Nat.le_refl _
  have hN1 : ((cap : Nat) : Int) ≤ 10 + 2 * (st 13).toInt := hN.1
  have main : ∀ (H : Heap) (locs : List Loc), va_P (dC, dI) vwCl (cw_W (rU c 99 (c 99)) kc st lg ai al R) H → va_S A s.heap H locs → W p l e (headSpec wsX8_putSnapshot ({ frames := 10, cells := 60, slots := 1170000, locals := 469 })).room s m ([.ref (c 100)] : List Value).toArray below meth cM H locs 0 0 (MQ below (va_Qi (fun r (u : Int32) => r = u) (fun u t => ∃ (x9 : Int32) (x10 : Int32) (x11 : Int32) (x12 : Int32) (x13 : Int32) (x17 : Int32) (x25 : Int32) (x26 : Int32) (x27 : Int32) (x28 : Int32) (x29 : Int32) (f0 : Nat → Int32) (f7 : Nat → Int32) (f8 : Nat → Int32) (f14 : Nat → Int32) (f20 : Nat → Int32) (f21 : Nat → Int32) (f22 : Nat → Int32) (f23 : Nat → Int32) (g19 : Nat → Int64) (g34 : Nat → Int64) (e9 cap9 : Nat) (num9 : Nat → Int32) (R9 : va_W), (0 ≤ u.toInt) ∧ (u.toInt ≤ 1) ∧ (0 ≤ x9.toInt) ∧ (x9.toInt ≤ 1) ∧ (0 ≤ x13.toInt) ∧ (x13.toInt ≤ 65536) ∧ (0 ≤ x17.toInt) ∧ (x17.toInt ≤ 128) ∧ (0 ≤ x25.toInt) ∧ (x25.toInt ≤ 128) ∧ (0 ≤ x26.toInt) ∧ (x26.toInt ≤ 128) ∧ (-1 ≤ x27.toInt) ∧ (x27.toInt ≤ 127) ∧ (0 ≤ x28.toInt) ∧ (x28.toInt ≤ 1) ∧ (aR f7 8224 (-128) 127) ∧ (aR f23 128 (0) 127) ∧ (PI (kc 98) (kc 0) e9 x13 cap9 num9 none R9) ∧ (∀ y m, pgM (kc 0) R y m → pgM (kc 0) R9 y m) ∧ (va_D A (cw_W (rU c 99 e9) kc (rU (rU (rU (rU (rU (rU (rU (rU (rU (rU (rU st 9 x9) 10 x10) 11 x11) 12 x12) 13 x13) 17 x17) 25 x25) 26 x26) 27 x27) 28 x28) 29 x29) lg (rU (rU (rU (rU (rU (rU (rU (rU ai 0 f0) 7 f7) 8 f8) 14 f14) 20 f20) 21 f21) 22 f22) 23 f23) (rU (rU al 19 g19) 34 g34) R9)) ∧ (NI cap9 x13) ∧ (cap9 = 0 → cap = 0 ∧ e9 = c 99) ∧ (cap ≤ cap9) ∧ ((st 13).toInt ≤ x13.toInt) ∧ (x13.toInt ≤ (st 13).toInt + 16) ∧ (((t.heap.size : Nat) : Int) ≤ ((s.heap.size : Nat) : Int) + 0 + 3 * (x13.toInt - (st 13).toInt)) ∧ (((tot t.heap : Nat) : Int) ≤ ((tot s.heap : Nat) : Int) + 0 + 29 * (x13.toInt - (st 13).toInt) + 4 * (((cap9 : Nat) : Int) - ((cap : Nat) : Int))) ∧ va_P (dC, dI) vwCl (cw_W (rU c 99 e9) kc (rU (rU (rU (rU (rU (rU (rU (rU (rU (rU (rU st 9 x9) 10 x10) 11 x11) 12 x12) 13 x13) 17 x17) 25 x25) 26 x26) 27 x27) 28 x28) 29 x29) lg (rU (rU (rU (rU (rU (rU (rU (rU ai 0 f0) 7 f7) 8 f8) 14 f14) 20 f20) 21 f21) 22 f22) 23 f23) (rU (rU al 19 g19) 34 g34) R9) t.heap) A) ([.ref (c 100)] : List Value).toArray s 60 1170000 A) (F0 m 0 ls []) := by
    intro H locs hP hS
    refine lv_iconst (v := 0) hx hb dX8_putSnapshot_0 (by decide) ?_
    refine lv_istore_n (lv' := [(1, .int (0 : Int32)), (0, .ref (c 100))]) hx hb dX8_putSnapshot_1 rfl hl (by decide) rfl (fun ls hl => ?_)
    have loop2 : ∀ (n : Nat) (l1_2 : Int32) (s9_2 : Int32) (s10_2 : Int32) (s11_2 : Int32) (s12_2 : Int32) (s13_2 : Int32) (a0_2 : Nat → Int32) (b34_2 : Nat → Int64) (E9_2 : Nat) (C9_2 : Nat) (N9_2 : Nat → Int32) (K9_2 : Nat) (M9_2 : Nat) (R9_2 : va_W) (H : Heap) (locs : List Loc) (ls : Array Slot), (0 ≤ l1_2.toInt) → (l1_2.toInt ≤ (st 37).toInt) → ((st 13).toInt ≤ s13_2.toInt) → (s13_2.toInt ≤ (st 13).toInt + l1_2.toInt) → (0 ≤ s9_2.toInt) → (s9_2.toInt ≤ 1) → (0 ≤ s13_2.toInt) → (s13_2.toInt ≤ 65536) → (PI (kc 98) (kc 0) E9_2 s13_2 C9_2 N9_2 none R9_2) → (va_D A (cw_W (rU c 99 E9_2) kc st lg ai al R9_2)) → (∀ y m, pgM (kc 0) R y m → pgM (kc 0) R9_2 y m) → (NI C9_2 s13_2) → (((C9_2 : Nat) : Int) ≤ 10 + 2 * s13_2.toInt) → (C9_2 = 0 → cap = 0 ∧ E9_2 = c 99) → (cap ≤ C9_2) → (((K9_2 : Nat) : Int) ≤ 0 + 3 * (s13_2.toInt - (st 13).toInt)) → (((M9_2 : Nat) : Int) ≤ 0 + 29 * (s13_2.toInt - (st 13).toInt) + 4 * (((C9_2 : Nat) : Int) - ((cap : Nat) : Int))) → ((st 37).toInt - l1_2.toInt : Int).toNat < n → va_P (dC, dI) vwCl (cw_W (rU c 99 E9_2) kc (rU (rU (rU (rU (rU st 9 s9_2) 10 s10_2) 11 s11_2) 12 s12_2) 13 s13_2) lg (rU ai 0 a0_2) (rU al 34 b34_2) R9_2) H → va_S A s.heap H locs → lv_has ls 2 [(1, .int l1_2), (0, .ref (c 100))] → W p l e (headSpec wsX8_putSnapshot ({ frames := 10, cells := 60, slots := 1170000, locals := 469 })).room s m ([.ref (c 100)] : List Value).toArray below meth cM H locs K9_2 M9_2 (MQ below (va_Qi (fun r (u : Int32) => r = u) (fun u t => ∃ (x9 : Int32) (x10 : Int32) (x11 : Int32) (x12 : Int32) (x13 : Int32) (x17 : Int32) (x25 : Int32) (x26 : Int32) (x27 : Int32) (x28 : Int32) (x29 : Int32) (f0 : Nat → Int32) (f7 : Nat → Int32) (f8 : Nat → Int32) (f14 : Nat → Int32) (f20 : Nat → Int32) (f21 : Nat → Int32) (f22 : Nat → Int32) (f23 : Nat → Int32) (g19 : Nat → Int64) (g34 : Nat → Int64) (e9 cap9 : Nat) (num9 : Nat → Int32) (R9 : va_W), (0 ≤ u.toInt) ∧ (u.toInt ≤ 1) ∧ (0 ≤ x9.toInt) ∧ (x9.toInt ≤ 1) ∧ (0 ≤ x13.toInt) ∧ (x13.toInt ≤ 65536) ∧ (0 ≤ x17.toInt) ∧ (x17.toInt ≤ 128) ∧ (0 ≤ x25.toInt) ∧ (x25.toInt ≤ 128) ∧ (0 ≤ x26.toInt) ∧ (x26.toInt ≤ 128) ∧ (-1 ≤ x27.toInt) ∧ (x27.toInt ≤ 127) ∧ (0 ≤ x28.toInt) ∧ (x28.toInt ≤ 1) ∧ (aR f7 8224 (-128) 127) ∧ (aR f23 128 (0) 127) ∧ (PI (kc 98) (kc 0) e9 x13 cap9 num9 none R9) ∧ (∀ y m, pgM (kc 0) R y m → pgM (kc 0) R9 y m) ∧ (va_D A (cw_W (rU c 99 e9) kc (rU (rU (rU (rU (rU (rU (rU (rU (rU (rU (rU st 9 x9) 10 x10) 11 x11) 12 x12) 13 x13) 17 x17) 25 x25) 26 x26) 27 x27) 28 x28) 29 x29) lg (rU (rU (rU (rU (rU (rU (rU (rU ai 0 f0) 7 f7) 8 f8) 14 f14) 20 f20) 21 f21) 22 f22) 23 f23) (rU (rU al 19 g19) 34 g34) R9)) ∧ (NI cap9 x13) ∧ (cap9 = 0 → cap = 0 ∧ e9 = c 99) ∧ (cap ≤ cap9) ∧ ((st 13).toInt ≤ x13.toInt) ∧ (x13.toInt ≤ (st 13).toInt + 16) ∧ (((t.heap.size : Nat) : Int) ≤ ((s.heap.size : Nat) : Int) + 0 + 3 * (x13.toInt - (st 13).toInt)) ∧ (((tot t.heap : Nat) : Int) ≤ ((tot s.heap : Nat) : Int) + 0 + 29 * (x13.toInt - (st 13).toInt) + 4 * (((cap9 : Nat) : Int) - ((cap : Nat) : Int))) ∧ va_P (dC, dI) vwCl (cw_W (rU c 99 e9) kc (rU (rU (rU (rU (rU (rU (rU (rU (rU (rU (rU st 9 x9) 10 x10) 11 x11) 12 x12) 13 x13) 17 x17) 25 x25) 26 x26) 27 x27) 28 x28) 29 x29) lg (rU (rU (rU (rU (rU (rU (rU (rU ai 0 f0) 7 f7) 8 f8) 14 f14) 20 f20) 21 f21) 22 f22) 23 f23) (rU (rU al 19 g19) 34 g34) R9) t.heap) A) ([.ref (c 100)] : List Value).toArray s 60 1170000 A) (F0 m 2 ls []) := by
      intro n
      induction n with
      | zero => intro l1_2 s9_2 s10_2 s11_2 s12_2 s13_2 a0_2 b34_2 E9_2 C9_2 N9_2 K9_2 M9_2 R9_2 H locs ls if0_2 if1_2 if2_2 if3_2 if4_2 if5_2 if6_2 if7_2 hPI hD hmono hN hN1 hc0 hcp hK9 hM9 hm; exact absurd hm (Nat.not_lt_zero _)
      | succ n ih2 =>
        intro l1_2 s9_2 s10_2 s11_2 s12_2 s13_2 a0_2 b34_2 E9_2 C9_2 N9_2 K9_2 M9_2 R9_2 H locs ls if0_2 if1_2 if2_2 if3_2 if4_2 if5_2 if6_2 if7_2 hPI hD hmono hN hN1 hc0 hcp hK9 hM9 hm2 hP hS hl
        refine lv_iload_n hx hb dX8_putSnapshot_2 rfl (lv_at hl 0 rfl) ?_
        refine lv_aload_n hx hb dX8_putSnapshot_3 rfl (lv_at hl 1 rfl) ?_
        refine va_get (D := (dC, dI)) (ci := 10) (v := .ref (c 107)) (C := RX8) (T := TX8) (N := 10) hx hb hts hin_X8 hown hK hP 0 rfl rfl 5 (by decide) (hts (.fieldLink RX8 56 "BlockLog" "snapshot" "LBlockLog$Snapshot;") (by decide +kernel)) (fun _ h9 => h9) rfl dX8_putSnapshot_4 ?_
        refine va_getN (D := (dC, dI)) (ci := 7) (v := .int (st 37)) (C := RX5) (T := TX5) (N := 7) hx hb hts hin_X5 hown hK hP 7 rfl rfl 6 (by decide) (va_Nw.use rfl (hGW.1 ("BlockLog", 440, "BlockLog$Snapshot", "count", "I", "BlockLog") (by decide +kernel))) (fun _ h9 => h9) rfl dX8_putSnapshot_7 ?_
        refine lv_icmp_ge (tgt := 68) hx hb dX8_putSnapshot_10 (by decide) (fun c_1 => ?_) (fun c_1 => ?_)
        · skip
          have ic_1 := iv_le c_1
          refine lv_aload_n hx hb dX8_putSnapshot_68 rfl (lv_at hl 1 rfl) ?_
          refine va_get (D := (dC, dI)) (ci := 10) (v := .ref (c 104)) (C := RX8) (T := TX8) (N := 10) hx hb hts hin_X8 hown hK hP 0 rfl rfl 2 (by decide) (hts (.fieldLink RX8 31 "BlockLog" "rows" "LBlockLog$Rows;") (by decide +kernel)) (fun _ h9 => h9) rfl dX8_putSnapshot_69 ?_
          refine lv_iconst (v := 5) hx hb dX8_putSnapshot_72 (by decide) ?_
          refine lv_aload_n hx hb dX8_putSnapshot_73 rfl (lv_at hl 1 rfl) ?_
          refine va_get (D := (dC, dI)) (ci := 10) (v := .ref (c 107)) (C := RX8) (T := TX8) (N := 10) hx hb hts hin_X8 hown hK hP 0 rfl rfl 5 (by decide) (hts (.fieldLink RX8 56 "BlockLog" "snapshot" "LBlockLog$Snapshot;") (by decide +kernel)) (fun _ h9 => h9) rfl dX8_putSnapshot_74 ?_
          refine va_getN (D := (dC, dI)) (ci := 7) (v := .int (st 35)) (C := RX5) (T := TX5) (N := 7) hx hb hts hin_X5 hown hK hP 7 rfl rfl 4 (by decide) (va_Nw.use rfl (hGW.1 ("BlockLog", 279, "BlockLog$Snapshot", "height", "I", "BlockLog") (by decide +kernel))) (fun _ h9 => h9) rfl dX8_putSnapshot_77 ?_
          refine lv_aload_n hx hb dX8_putSnapshot_80 rfl (lv_at hl 1 rfl) ?_
          refine va_get (D := (dC, dI)) (ci := 10) (v := .ref (c 107)) (C := RX8) (T := TX8) (N := 10) hx hb hts hin_X8 hown hK hP 0 rfl rfl 5 (by decide) (hts (.fieldLink RX8 56 "BlockLog" "snapshot" "LBlockLog$Snapshot;") (by decide +kernel)) (fun _ h9 => h9) rfl dX8_putSnapshot_81 ?_
          refine va_getN (D := (dC, dI)) (ci := 7) (v := .int (st 37)) (C := RX5) (T := TX5) (N := 7) hx hb hts hin_X5 hown hK hP 7 rfl rfl 6 (by decide) (va_Nw.use rfl (hGW.1 ("BlockLog", 440, "BlockLog$Snapshot", "count", "I", "BlockLog") (by decide +kernel))) (fun _ h9 => h9) rfl dX8_putSnapshot_84 ?_
          refine lv_aload_n hx hb dX8_putSnapshot_87 rfl (lv_at hl 1 rfl) ?_
          refine va_get (D := (dC, dI)) (ci := 10) (v := .ref (c 107)) (C := RX8) (T := TX8) (N := 10) hx hb hts hin_X8 hown hK hP 0 rfl rfl 5 (by decide) (hts (.fieldLink RX8 56 "BlockLog" "snapshot" "LBlockLog$Snapshot;") (by decide +kernel)) (fun _ h9 => h9) rfl dX8_putSnapshot_88 ?_
          refine va_getN (D := (dC, dI)) (ci := 7) (v := .long (lg 36)) (C := RX5) (T := TX5) (N := 7) hx hb hts hin_X5 hown hK hP 7 rfl rfl 5 (by decide) (va_Nw.use rfl (hGW.1 ("BlockLog", 457, "BlockLog$Snapshot", "block", "J", "BlockLog") (by decide +kernel))) (fun _ h9 => h9) rfl dX8_putSnapshot_91 ?_
          have hFc := vfree ((cw_D hD : va_D A (cw_W (rU c 99 E9_2) kc (rU (rU (rU (rU (rU st 9 s9_2) 10 s10_2) 11 s11_2) 12 s12_2) 13 s13_2) lg (rU ai 0 a0_2) (rU al 34 b34_2) R9_2)) : va_D A (cw_W (rU c 99 E9_2) kc (rU (rU (rU (rU (rU st 9 s9_2) 10 s10_2) 11 s11_2) 12 s12_2) 13 s13_2) lg (rU ai 0 a0_2) (rU al 34 b34_2) R9_2)) hS hA
          refine va_calli (va_runV (As := [.int (5 : Int32), .int (st 35), .int (st 37), .long (lg 36)]) (rest := []) ⟨hx, hb, hml, hown, hts⟩ (v_X4_write l dC dI (rU c 99 E9_2) kc (rU (rU (rU (rU (rU st 9 s9_2) 10 s10_2) 11 s11_2) 12 s12_2) 13 s13_2) lg (rU ai 0 a0_2) (rU al 34 b34_2) R9_2 (5 : Int32) (st 35) (st 37) (lg 36) _ (show 0 ≤ s9_2.toInt by omega) (show s9_2.toInt ≤ 1 by omega) (show 0 ≤ (st 15).toInt by omega) (show (st 15).toInt ≤ 1 by omega) (show 0 ≤ (st 17).toInt by omega) (show (st 17).toInt ≤ 128 by omega) (show aR (ai 7) 8224 (-128) 127 from hR7)) (cwV 4 hts gX8_putSnapshot_X4_write rfl rfl rfl (by decide +kernel) ⟨Nat.le_of_ble_eq_true rfl, Nat.le_of_ble_eq_true rfl⟩) ⟨fun a U g mk q => by obtain ⟨q0, q1, qP, qK, qD⟩ := q; exact ⟨q0, q1, qP, va_K.moved (u := U) (U := U.calling g mk a) (Vm.Alike.refl U.vm) qK, qD⟩, va_recv hK hP (ci := 6) (q := (RX4, TX4, 6)) rfl (q0 := 4) rfl, fun U hU hW => ⟨rfl, by rw [hU], by rw [hU]; exact hP, va_K.moved hW.alike hK, ((cw_D hD : va_D A (cw_W (rU c 99 E9_2) kc (rU (rU (rU (rU (rU st 9 s9_2) 10 s10_2) 11 s11_2) 12 s12_2) 13 s13_2) lg (rU ai 0 a0_2) (rU al 34 b34_2) R9_2))).weaken (fun _ _ _ _ => trivial)⟩⟩ rfl rfl hl.1 rfl (lv_room (Nat.le_of_ble_eq_true rfl)) dX8_putSnapshot_94 ⟨by show K9_2 + 0 ≤ 60; omega, by show M9_2 + 0 ≤ 1170000; omega⟩) hS (fun q _ h => hFc q h) hFc (fun r_2 ur_2 t H1 locs ht hvm er_2 hB hz1 hk1 hS => ?_)
          subst er_2
          obtain ⟨x9_2, x10_2, x11_2, x17_2, f7_2, f8_2, f14_2, k_3, k_4, k_5, k_6, k_7, k_8, hR7, hP1⟩ := hB
          rw [ht] at hP1
          clear hFc hz1 hk1 hvm hP
          subst ht
          have hP := hP1
          clear hP1
          generalize t.heap = H at hP hS ⊢
          have hP : va_P (dC, dI) vwCl (cw_W (rU c 99 E9_2) kc (rU (rU (rU (rU (rU (rU st 9 x9_2) 10 x10_2) 11 x11_2) 12 s12_2) 13 s13_2) 17 x17_2) lg (rU (rU (rU (rU ai 0 a0_2) 7 f7_2) 8 f8_2) 14 f14_2) (rU al 34 b34_2) R9_2) H := hP
          have k_5 : 0 ≤ x9_2.toInt := k_5
          have k_6 : x9_2.toInt ≤ 1 := k_6
          have k_7 : 0 ≤ x17_2.toInt := k_7
          have k_8 : x17_2.toInt ≤ 128 := k_8
          have hR7 : aR f7_2 8224 (-128) 127 := hR7
          rcases iv_01 (a := r_2) (by omega) (by omega) with b_9 | b_9
          · skip
            have ib_9 := iv_eq b_9
            rw [b_9]
            refine lv_if_ne (tgt := 102) hx hb dX8_putSnapshot_97 (by decide) (fun c_10 => ?_) (fun c_10 => ?_)
            · skip
              have ic_10 := iv_ne c_10
              exfalso
              omega
            · skip
              have ic_10 := iv_eq c_10
              refine lv_iconst (v := 0) hx hb dX8_putSnapshot_100 (by decide) ?_
              refine W_read (fun hu1 hu2 => ?_)
              refine W.widen (k := 60) (n := 1170000) (by omega) (by omega) ?_
              exact W.zret hx hb hr rfl (fun t ht hW => ⟨⟨_, _, rfl, rfl, x9_2, x10_2, x11_2, s12_2, s13_2, x17_2, st 25, st 26, st 27, st 28, st 29, a0_2, f7_2, f8_2, f14_2, ai 20, ai 21, ai 22, ai 23, al 19, b34_2, E9_2, C9_2, N9_2, R9_2, (by omega), (by omega), (by omega), (by omega), (by omega), (by omega), (by omega), (by omega), (by omega), (by omega), (by omega), (by omega), (by omega), (by omega), (by omega), (by omega), hR7, hR23, hPI, hmono, (cw_D hD), hN, hc0, hcp, (by omega), (by omega), (by rw [ht]; omega), (by rw [ht]; omega), by rw [ht]; exact hP⟩, hS.F ht⟩) hS.2.2 dX8_putSnapshot_101
          · skip
            have ib_9 := iv_eq b_9
            rw [b_9]
            refine lv_if_ne (tgt := 102) hx hb dX8_putSnapshot_97 (by decide) (fun c_11 => ?_) (fun c_11 => ?_)
            · skip
              have ic_11 := iv_ne c_11
              refine lv_iconst (v := 0) hx hb dX8_putSnapshot_102 (by decide) ?_
              refine lv_istore_n (lv' := [(1, .int (0 : Int32)), (0, .ref (c 100))]) hx hb dX8_putSnapshot_103 rfl hl (by decide) rfl (fun ls hl => ?_)
              have loop104 : ∀ (n : Nat) (l1_104 : Int32) (s9_104 : Int32) (s10_104 : Int32) (s11_104 : Int32) (s17_104 : Int32) (a7_104 : Nat → Int32) (a8_104 : Nat → Int32) (a14_104 : Nat → Int32) (H : Heap) (locs : List Loc) (ls : Array Slot), (0 ≤ l1_104.toInt) → (l1_104.toInt ≤ (st 37).toInt) → (0 ≤ s9_104.toInt) → (s9_104.toInt ≤ 1) → (0 ≤ s17_104.toInt) → (s17_104.toInt ≤ 128) → (aR a7_104 8224 (-128) 127) → ((st 37).toInt - l1_104.toInt : Int).toNat < n → va_P (dC, dI) vwCl (cw_W (rU c 99 E9_2) kc (rU (rU (rU (rU (rU (rU st 9 s9_104) 10 s10_104) 11 s11_104) 12 s12_2) 13 s13_2) 17 s17_104) lg (rU (rU (rU (rU ai 0 a0_2) 7 a7_104) 8 a8_104) 14 a14_104) (rU al 34 b34_2) R9_2) H → va_S A s.heap H locs → lv_has ls 2 [(1, .int l1_104), (0, .ref (c 100))] → W p l e (headSpec wsX8_putSnapshot ({ frames := 10, cells := 60, slots := 1170000, locals := 469 })).room s m ([.ref (c 100)] : List Value).toArray below meth cM H locs K9_2 M9_2 (MQ below (va_Qi (fun r (u : Int32) => r = u) (fun u t => ∃ (x9 : Int32) (x10 : Int32) (x11 : Int32) (x12 : Int32) (x13 : Int32) (x17 : Int32) (x25 : Int32) (x26 : Int32) (x27 : Int32) (x28 : Int32) (x29 : Int32) (f0 : Nat → Int32) (f7 : Nat → Int32) (f8 : Nat → Int32) (f14 : Nat → Int32) (f20 : Nat → Int32) (f21 : Nat → Int32) (f22 : Nat → Int32) (f23 : Nat → Int32) (g19 : Nat → Int64) (g34 : Nat → Int64) (e9 cap9 : Nat) (num9 : Nat → Int32) (R9 : va_W), (0 ≤ u.toInt) ∧ (u.toInt ≤ 1) ∧ (0 ≤ x9.toInt) ∧ (x9.toInt ≤ 1) ∧ (0 ≤ x13.toInt) ∧ (x13.toInt ≤ 65536) ∧ (0 ≤ x17.toInt) ∧ (x17.toInt ≤ 128) ∧ (0 ≤ x25.toInt) ∧ (x25.toInt ≤ 128) ∧ (0 ≤ x26.toInt) ∧ (x26.toInt ≤ 128) ∧ (-1 ≤ x27.toInt) ∧ (x27.toInt ≤ 127) ∧ (0 ≤ x28.toInt) ∧ (x28.toInt ≤ 1) ∧ (aR f7 8224 (-128) 127) ∧ (aR f23 128 (0) 127) ∧ (PI (kc 98) (kc 0) e9 x13 cap9 num9 none R9) ∧ (∀ y m, pgM (kc 0) R y m → pgM (kc 0) R9 y m) ∧ (va_D A (cw_W (rU c 99 e9) kc (rU (rU (rU (rU (rU (rU (rU (rU (rU (rU (rU st 9 x9) 10 x10) 11 x11) 12 x12) 13 x13) 17 x17) 25 x25) 26 x26) 27 x27) 28 x28) 29 x29) lg (rU (rU (rU (rU (rU (rU (rU (rU ai 0 f0) 7 f7) 8 f8) 14 f14) 20 f20) 21 f21) 22 f22) 23 f23) (rU (rU al 19 g19) 34 g34) R9)) ∧ (NI cap9 x13) ∧ (cap9 = 0 → cap = 0 ∧ e9 = c 99) ∧ (cap ≤ cap9) ∧ ((st 13).toInt ≤ x13.toInt) ∧ (x13.toInt ≤ (st 13).toInt + 16) ∧ (((t.heap.size : Nat) : Int) ≤ ((s.heap.size : Nat) : Int) + 0 + 3 * (x13.toInt - (st 13).toInt)) ∧ (((tot t.heap : Nat) : Int) ≤ ((tot s.heap : Nat) : Int) + 0 + 29 * (x13.toInt - (st 13).toInt) + 4 * (((cap9 : Nat) : Int) - ((cap : Nat) : Int))) ∧ va_P (dC, dI) vwCl (cw_W (rU c 99 e9) kc (rU (rU (rU (rU (rU (rU (rU (rU (rU (rU (rU st 9 x9) 10 x10) 11 x11) 12 x12) 13 x13) 17 x17) 25 x25) 26 x26) 27 x27) 28 x28) 29 x29) lg (rU (rU (rU (rU (rU (rU (rU (rU ai 0 f0) 7 f7) 8 f8) 14 f14) 20 f20) 21 f21) 22 f22) 23 f23) (rU (rU al 19 g19) 34 g34) R9) t.heap) A) ([.ref (c 100)] : List Value).toArray s 60 1170000 A) (F0 m 104 ls []) := by
                intro n
                induction n with
                | zero => intro l1_104 s9_104 s10_104 s11_104 s17_104 a7_104 a8_104 a14_104 H locs ls if0_104 if1_104 if2_104 if3_104 if4_104 if5_104 hR7 hm; exact absurd hm (Nat.not_lt_zero _)
                | succ n ih104 =>
                  intro l1_104 s9_104 s10_104 s11_104 s17_104 a7_104 a8_104 a14_104 H locs ls if0_104 if1_104 if2_104 if3_104 if4_104 if5_104 hR7 hm104 hP hS hl
                  refine lv_iload_n hx hb dX8_putSnapshot_104 rfl (lv_at hl 0 rfl) ?_
                  refine lv_aload_n hx hb dX8_putSnapshot_105 rfl (lv_at hl 1 rfl) ?_
                  refine va_get (D := (dC, dI)) (ci := 10) (v := .ref (c 107)) (C := RX8) (T := TX8) (N := 10) hx hb hts hin_X8 hown hK hP 0 rfl rfl 5 (by decide) (hts (.fieldLink RX8 56 "BlockLog" "snapshot" "LBlockLog$Snapshot;") (by decide +kernel)) (fun _ h9 => h9) rfl dX8_putSnapshot_106 ?_
                  refine va_getN (D := (dC, dI)) (ci := 7) (v := .int (st 37)) (C := RX5) (T := TX5) (N := 7) hx hb hts hin_X5 hown hK hP 7 rfl rfl 6 (by decide) (va_Nw.use rfl (hGW.1 ("BlockLog", 440, "BlockLog$Snapshot", "count", "I", "BlockLog") (by decide +kernel))) (fun _ h9 => h9) rfl dX8_putSnapshot_109 ?_
                  refine lv_icmp_ge (tgt := 153) hx hb dX8_putSnapshot_112 (by decide) (fun c_12 => ?_) (fun c_12 => ?_)
                  · skip
                    have ic_12 := iv_le c_12
                    refine lv_aload_n hx hb dX8_putSnapshot_153 rfl (lv_at hl 1 rfl) ?_
                    refine va_get (D := (dC, dI)) (ci := 10) (v := .ref (c 105)) (C := RX8) (T := TX8) (N := 10) hx hb hts hin_X8 hown hK hP 0 rfl rfl 3 (by decide) (hts (.fieldLink RX8 40 "BlockLog" "story" "LBlockLog$Story;") (by decide +kernel)) (fun _ h9 => h9) rfl dX8_putSnapshot_154 ?_
                    have hFc := vfree ((cw_D hD : va_D A (cw_W (rU c 99 E9_2) kc (rU (rU (rU (rU (rU (rU st 9 s9_104) 10 s10_104) 11 s11_104) 12 s12_2) 13 s13_2) 17 s17_104) lg (rU (rU (rU (rU ai 0 a0_2) 7 a7_104) 8 a8_104) 14 a14_104) (rU al 34 b34_2) R9_2)) : va_D A (cw_W (rU c 99 E9_2) kc (rU (rU (rU (rU (rU (rU st 9 s9_104) 10 s10_104) 11 s11_104) 12 s12_2) 13 s13_2) 17 s17_104) lg (rU (rU (rU (rU ai 0 a0_2) 7 a7_104) 8 a8_104) 14 a14_104) (rU al 34 b34_2) R9_2)) hS hA
                    refine va_callv (va_runV (As := []) (rest := []) ⟨hx, hb, hml, hown, hts⟩ (v_X6_hear l dC dI (rU c 99 E9_2) kc (rU (rU (rU (rU (rU (rU st 9 s9_104) 10 s10_104) 11 s11_104) 12 s12_2) 13 s13_2) 17 s17_104) lg (rU (rU (rU (rU ai 0 a0_2) 7 a7_104) 8 a8_104) 14 a14_104) (rU al 34 b34_2) R9_2  _ (show 0 ≤ (st 15).toInt by omega) (show (st 15).toInt ≤ 1 by omega) (show 0 ≤ s17_104.toInt by omega) (show s17_104.toInt ≤ 128 by omega) (show 0 ≤ (st 25).toInt by omega) (show (st 25).toInt ≤ 128 by omega) (show 0 ≤ (st 26).toInt by omega) (show (st 26).toInt ≤ 128 by omega) (show -1 ≤ (st 27).toInt by omega) (show (st 27).toInt ≤ 127 by omega) (show 0 ≤ (st 28).toInt by omega) (show (st 28).toInt ≤ 1 by omega) (show aR a7_104 8224 (-128) 127 from hR7) (show aR (ai 23) 128 (0) 127 from hR23)) (cwV 0 hts gX8_putSnapshot_X6_hear rfl rfl rfl (by decide +kernel) ⟨Nat.le_of_ble_eq_true rfl, Nat.le_of_ble_eq_true rfl⟩) ⟨fun a U g mk q => by obtain ⟨q0, q1, qP, qK, qD, qG⟩ := q; exact ⟨q0, q1, qP, va_K.moved (u := U) (U := U.calling g mk a) (Vm.Alike.refl U.vm) qK, qD, qG.same rfl rfl⟩, va_recv hK hP (ci := 8) (q := (RX6, TX6, 12)) rfl (q0 := 5) rfl, fun U hU hW => ⟨rfl, by rw [hU], by rw [hU]; exact hP, va_K.moved hW.alike hK, ((cw_D hD : va_D A (cw_W (rU c 99 E9_2) kc (rU (rU (rU (rU (rU (rU st 9 s9_104) 10 s10_104) 11 s11_104) 12 s12_2) 13 s13_2) 17 s17_104) lg (rU (rU (rU (rU ai 0 a0_2) 7 a7_104) 8 a8_104) 14 a14_104) (rU al 34 b34_2) R9_2))).weaken (fun _ _ _ _ => trivial), hG.go hW hU hS hFc⟩⟩ rfl rfl hl.1 rfl (lv_room (Nat.le_of_ble_eq_true rfl)) dX8_putSnapshot_157 ⟨by show K9_2 + 0 ≤ 60; omega, by show M9_2 + 0 ≤ 1170000; omega⟩) hS (fun q _ h => hFc q h) hFc (fun ur_13 t H1 locs ht hvm er_13 hB hz1 hk1 hS => ?_)
                    obtain ⟨x25_13, x26_13, x27_13, x28_13, x29_13, f20_13, f21_13, f22_13, f23_13, g19_13, k_14, k_15, k_16, k_17, k_18, k_19, k_20, k_21, hR23, hP1⟩ := hB
                    rw [ht] at hP1
                    clear hFc hz1 hk1 hvm hP
                    subst ht
                    have hP := hP1
                    clear hP1
                    generalize t.heap = H at hP hS ⊢
                    have hP : va_P (dC, dI) vwCl (cw_W (rU c 99 E9_2) kc (rU (rU (rU (rU (rU (rU (rU (rU (rU (rU (rU st 9 s9_104) 10 s10_104) 11 s11_104) 12 s12_2) 13 s13_2) 17 s17_104) 25 x25_13) 26 x26_13) 27 x27_13) 28 x28_13) 29 x29_13) lg (rU (rU (rU (rU (rU (rU (rU (rU ai 0 a0_2) 7 a7_104) 8 a8_104) 14 a14_104) 20 f20_13) 21 f21_13) 22 f22_13) 23 f23_13) (rU (rU al 19 g19_13) 34 b34_2) R9_2) H := hP
                    have k_14 : 0 ≤ x25_13.toInt := k_14
                    have k_15 : x25_13.toInt ≤ 128 := k_15
                    have k_16 : 0 ≤ x26_13.toInt := k_16
                    have k_17 : x26_13.toInt ≤ 128 := k_17
                    have k_18 : -1 ≤ x27_13.toInt := k_18
                    have k_19 : x27_13.toInt ≤ 127 := k_19
                    have k_20 : 0 ≤ x28_13.toInt := k_20
                    have k_21 : x28_13.toInt ≤ 1 := k_21
                    have hR23 : aR f23_13 128 (0) 127 := hR23
                    refine lv_iconst (v := 1) hx hb dX8_putSnapshot_160 (by decide) ?_
                    refine W_read (fun hu1 hu2 => ?_)
                    refine W.widen (k := 60) (n := 1170000) (by omega) (by omega) ?_
                    exact W.zret hx hb hr rfl (fun t ht hW => ⟨⟨_, _, rfl, rfl, s9_104, s10_104, s11_104, s12_2, s13_2, s17_104, x25_13, x26_13, x27_13, x28_13, x29_13, a0_2, a7_104, a8_104, a14_104, f20_13, f21_13, f22_13, f23_13, g19_13, b34_2, E9_2, C9_2, N9_2, R9_2, (by omega), (by omega), (by omega), (by omega), (by omega), (by omega), (by omega), (by omega), (by omega), (by omega), (by omega), (by omega), (by omega), (by omega), (by omega), (by omega), hR7, hR23, hPI, hmono, (cw_D hD), hN, hc0, hcp, (by omega), (by omega), (by rw [ht]; omega), (by rw [ht]; omega), by rw [ht]; exact hP⟩, hS.F ht⟩) hS.2.2 dX8_putSnapshot_161
                  · skip
                    have ic_12 := iv_nle c_12
                    refine lv_aload_n hx hb dX8_putSnapshot_115 rfl (lv_at hl 1 rfl) ?_
                    refine va_get (D := (dC, dI)) (ci := 10) (v := .ref (c 104)) (C := RX8) (T := TX8) (N := 10) hx hb hts hin_X8 hown hK hP 0 rfl rfl 2 (by decide) (hts (.fieldLink RX8 31 "BlockLog" "rows" "LBlockLog$Rows;") (by decide +kernel)) (fun _ h9 => h9) rfl dX8_putSnapshot_116 ?_
                    refine lv_iconst (v := 3) hx hb dX8_putSnapshot_119 (by decide) ?_
                    refine lv_aload_n hx hb dX8_putSnapshot_120 rfl (lv_at hl 1 rfl) ?_
                    refine va_get (D := (dC, dI)) (ci := 10) (v := .ref (c 107)) (C := RX8) (T := TX8) (N := 10) hx hb hts hin_X8 hown hK hP 0 rfl rfl 5 (by decide) (hts (.fieldLink RX8 56 "BlockLog" "snapshot" "LBlockLog$Snapshot;") (by decide +kernel)) (fun _ h9 => h9) rfl dX8_putSnapshot_121 ?_
                    refine va_getN (D := (dC, dI)) (ci := 7) (v := .ref (c 31)) (C := RX5) (T := TX5) (N := 7) hx hb hts hin_X5 hown hK hP 7 rfl rfl 0 (by decide) (va_Nw.use rfl (hGW.1 ("BlockLog", 461, "BlockLog$Snapshot", "slots", "[I", "BlockLog") (by decide +kernel))) (fun _ h9 => h9) rfl dX8_putSnapshot_124 ?_
                    refine lv_iload_n hx hb dX8_putSnapshot_127 rfl (lv_at hl 0 rfl) ?_
                    refine va_iald (f := ai 31) hx hb hK hP 22 14 rfl rfl (iv_in (i := l1_104) (by omega) (by omega)) dX8_putSnapshot_128 ?_
                    refine lv_topi (fun v_22 ev_22 => ?_)
                    clear ev_22
                    refine lv_iconst (v := 0) hx hb dX8_putSnapshot_129 (by decide) ?_
                    refine lv_aload_n hx hb dX8_putSnapshot_130 rfl (lv_at hl 1 rfl) ?_
                    refine va_get (D := (dC, dI)) (ci := 10) (v := .ref (c 107)) (C := RX8) (T := TX8) (N := 10) hx hb hts hin_X8 hown hK hP 0 rfl rfl 5 (by decide) (hts (.fieldLink RX8 56 "BlockLog" "snapshot" "LBlockLog$Snapshot;") (by decide +kernel)) (fun _ h9 => h9) rfl dX8_putSnapshot_131 ?_
                    refine va_getN (D := (dC, dI)) (ci := 7) (v := .ref (c 34)) (C := RX5) (T := TX5) (N := 7) hx hb hts hin_X5 hown hK hP 7 rfl rfl 3 (by decide) (va_Nw.use rfl (hGW.1 ("BlockLog", 450, "BlockLog$Snapshot", "digests", "[J", "BlockLog") (by decide +kernel))) (fun _ h9 => h9) rfl dX8_putSnapshot_134 ?_
                    refine lv_iload_n hx hb dX8_putSnapshot_137 rfl (lv_at hl 0 rfl) ?_
                    refine va_lald (f := b34_2) hx hb hK hP 25 17 rfl rfl (iv_in (i := l1_104) (by omega) (by omega)) dX8_putSnapshot_138 ?_
                    refine lv_topl (fun w_23 ew_23 => ?_)
                    clear ew_23
                    have hFc := vfree ((cw_D hD : va_D A (cw_W (rU c 99 E9_2) kc (rU (rU (rU (rU (rU (rU st 9 s9_104) 10 s10_104) 11 s11_104) 12 s12_2) 13 s13_2) 17 s17_104) lg (rU (rU (rU (rU ai 0 a0_2) 7 a7_104) 8 a8_104) 14 a14_104) (rU al 34 b34_2) R9_2)) : va_D A (cw_W (rU c 99 E9_2) kc (rU (rU (rU (rU (rU (rU st 9 s9_104) 10 s10_104) 11 s11_104) 12 s12_2) 13 s13_2) 17 s17_104) lg (rU (rU (rU (rU ai 0 a0_2) 7 a7_104) 8 a8_104) 14 a14_104) (rU al 34 b34_2) R9_2)) hS hA
                    refine va_calli (va_runV (As := [.int (3 : Int32), .int v_22, .int (0 : Int32), .long w_23]) (rest := []) ⟨hx, hb, hml, hown, hts⟩ (v_X4_write l dC dI (rU c 99 E9_2) kc (rU (rU (rU (rU (rU (rU st 9 s9_104) 10 s10_104) 11 s11_104) 12 s12_2) 13 s13_2) 17 s17_104) lg (rU (rU (rU (rU ai 0 a0_2) 7 a7_104) 8 a8_104) 14 a14_104) (rU al 34 b34_2) R9_2 (3 : Int32) v_22 (0 : Int32) w_23 _ (show 0 ≤ s9_104.toInt by omega) (show s9_104.toInt ≤ 1 by omega) (show 0 ≤ (st 15).toInt by omega) (show (st 15).toInt ≤ 1 by omega) (show 0 ≤ s17_104.toInt by omega) (show s17_104.toInt ≤ 128 by omega) (show aR a7_104 8224 (-128) 127 from hR7)) (cwV 4 hts gX8_putSnapshot_X4_write rfl rfl rfl (by decide +kernel) ⟨Nat.le_of_ble_eq_true rfl, Nat.le_of_ble_eq_true rfl⟩) ⟨fun a U g mk q => by obtain ⟨q0, q1, qP, qK, qD⟩ := q; exact ⟨q0, q1, qP, va_K.moved (u := U) (U := U.calling g mk a) (Vm.Alike.refl U.vm) qK, qD⟩, va_recv hK hP (ci := 6) (q := (RX4, TX4, 6)) rfl (q0 := 4) rfl, fun U hU hW => ⟨rfl, by rw [hU], by rw [hU]; exact hP, va_K.moved hW.alike hK, ((cw_D hD : va_D A (cw_W (rU c 99 E9_2) kc (rU (rU (rU (rU (rU (rU st 9 s9_104) 10 s10_104) 11 s11_104) 12 s12_2) 13 s13_2) 17 s17_104) lg (rU (rU (rU (rU ai 0 a0_2) 7 a7_104) 8 a8_104) 14 a14_104) (rU al 34 b34_2) R9_2))).weaken (fun _ _ _ _ => trivial)⟩⟩ rfl rfl hl.1 rfl (lv_room (Nat.le_of_ble_eq_true rfl)) dX8_putSnapshot_139 ⟨by show K9_2 + 0 ≤ 60; omega, by show M9_2 + 0 ≤ 1170000; omega⟩) hS (fun q _ h => hFc q h) hFc (fun r_24 ur_24 t H1 locs ht hvm er_24 hB hz1 hk1 hS => ?_)
                    subst er_24
                    obtain ⟨x9_24, x10_24, x11_24, x17_24, f7_24, f8_24, f14_24, k_25, k_26, k_27, k_28, k_29, k_30, hR7, hP1⟩ := hB
                    rw [ht] at hP1
                    clear hFc hz1 hk1 hvm hP
                    subst ht
                    have hP := hP1
                    clear hP1
                    generalize t.heap = H at hP hS ⊢
                    have hP : va_P (dC, dI) vwCl (cw_W (rU c 99 E9_2) kc (rU (rU (rU (rU (rU (rU st 9 x9_24) 10 x10_24) 11 x11_24) 12 s12_2) 13 s13_2) 17 x17_24) lg (rU (rU (rU (rU ai 0 a0_2) 7 f7_24) 8 f8_24) 14 f14_24) (rU al 34 b34_2) R9_2) H := hP
                    have k_27 : 0 ≤ x9_24.toInt := k_27
                    have k_28 : x9_24.toInt ≤ 1 := k_28
                    have k_29 : 0 ≤ x17_24.toInt := k_29
                    have k_30 : x17_24.toInt ≤ 128 := k_30
                    have hR7 : aR f7_24 8224 (-128) 127 := hR7
                    rcases iv_01 (a := r_24) (by omega) (by omega) with b_31 | b_31
                    · skip
                      have ib_31 := iv_eq b_31
                      rw [b_31]
                      refine lv_if_ne (tgt := 147) hx hb dX8_putSnapshot_142 (by decide) (fun c_32 => ?_) (fun c_32 => ?_)
                      · skip
                        have ic_32 := iv_ne c_32
                        exfalso
                        omega
                      · skip
                        have ic_32 := iv_eq c_32
                        refine lv_iconst (v := 0) hx hb dX8_putSnapshot_145 (by decide) ?_
                        refine W_read (fun hu1 hu2 => ?_)
                        refine W.widen (k := 60) (n := 1170000) (by omega) (by omega) ?_
                        exact W.zret hx hb hr rfl (fun t ht hW => ⟨⟨_, _, rfl, rfl, x9_24, x10_24, x11_24, s12_2, s13_2, x17_24, st 25, st 26, st 27, st 28, st 29, a0_2, f7_24, f8_24, f14_24, ai 20, ai 21, ai 22, ai 23, al 19, b34_2, E9_2, C9_2, N9_2, R9_2, (by omega), (by omega), (by omega), (by omega), (by omega), (by omega), (by omega), (by omega), (by omega), (by omega), (by omega), (by omega), (by omega), (by omega), (by omega), (by omega), hR7, hR23, hPI, hmono, (cw_D hD), hN, hc0, hcp, (by omega), (by omega), (by rw [ht]; omega), (by rw [ht]; omega), by rw [ht]; exact hP⟩, hS.F ht⟩) hS.2.2 dX8_putSnapshot_146
                    · skip
                      have ib_31 := iv_eq b_31
                      rw [b_31]
                      refine lv_if_ne (tgt := 147) hx hb dX8_putSnapshot_142 (by decide) (fun c_33 => ?_) (fun c_33 => ?_)
                      · skip
                        have ic_33 := iv_ne c_33
                        obtain ⟨x_34, ex_34⟩ : ∃ z : Int32, z = l1_104 + (1) := ⟨_, rfl⟩
                        refine lv_iinc (v := x_34) (lv' := [(1, .int x_34), (0, .ref (c 100))]) hx hb dX8_putSnapshot_147 hl (k := 0) rfl (by rw [ex_34]; rfl) (by decide) rfl (fun ls hl => ?_)
                        have rg1 := iv_rng l1_104
                        have hx_34 : x_34.toInt = l1_104.toInt + (1) := by rw [ex_34]; exact (iv_add (by omega) (by omega)).trans (by omega)
                        clear ex_34
                        refine lv_goto (tgt := 104) hx hb dX8_putSnapshot_150 (by decide) ?_
                        exact ih104 x_34 x9_24 x10_24 x11_24 x17_24 f7_24 f8_24 f14_24 _ _ _ (by omega) (by omega) (by omega) (by omega) (by omega) (by omega) (by assumption) (by omega) hP hS (lv_sub hl [0, 1] rfl)
                      · skip
                        have ic_33 := iv_eq c_33
                        exfalso
                        omega
              exact loop104 (((st 37).toInt - 0 : Int).toNat + 1) (0 : Int32) x9_2 x10_2 x11_2 x17_2 f7_2 f8_2 f14_2 _ _ _ (by omega) (by omega) (by omega) (by omega) (by omega) (by omega) (by assumption) (by omega) hP hS (lv_sub hl [0, 1] rfl)
            · skip
              have ic_11 := iv_eq c_11
              exfalso
              omega
        · skip
          have ic_1 := iv_nle c_1
          refine lv_aload_n hx hb dX8_putSnapshot_13 rfl (lv_at hl 1 rfl) ?_
          refine lv_aload_n hx hb dX8_putSnapshot_14 rfl (lv_at hl 1 rfl) ?_
          refine va_get (D := (dC, dI)) (ci := 10) (v := .ref (c 107)) (C := RX8) (T := TX8) (N := 10) hx hb hts hin_X8 hown hK hP 0 rfl rfl 5 (by decide) (hts (.fieldLink RX8 56 "BlockLog" "snapshot" "LBlockLog$Snapshot;") (by decide +kernel)) (fun _ h9 => h9) rfl dX8_putSnapshot_15 ?_
          refine va_getN (D := (dC, dI)) (ci := 7) (v := .ref (c 32)) (C := RX5) (T := TX5) (N := 7) hx hb hts hin_X5 hown hK hP 7 rfl rfl 1 (by decide) (va_Nw.use rfl (hGW.1 ("BlockLog", 441, "BlockLog$Snapshot", "starts", "[I", "BlockLog") (by decide +kernel))) (fun _ h9 => h9) rfl dX8_putSnapshot_18 ?_
          refine lv_iload_n hx hb dX8_putSnapshot_21 rfl (lv_at hl 0 rfl) ?_
          refine va_iald (f := ai 32) hx hb hK hP 23 15 rfl rfl (iv_in (i := l1_2) (by omega) (by omega)) dX8_putSnapshot_22 ?_
          refine lv_topi (fun v_35 ev_35 => ?_)
          have k_36 : 0 ≤ v_35.toInt ∧ v_35.toInt ≤ 400 := aR_get hR32 (by omega) (by omega) ev_35
          have hX_snap_starts := ev_35
          have k_37 : v_35.toInt = ((ai 32) l1_2.toNatClampNeg).toInt := by rw [ev_35]
          clear ev_35
          refine lv_aload_n hx hb dX8_putSnapshot_23 rfl (lv_at hl 1 rfl) ?_
          refine va_get (D := (dC, dI)) (ci := 10) (v := .ref (c 107)) (C := RX8) (T := TX8) (N := 10) hx hb hts hin_X8 hown hK hP 0 rfl rfl 5 (by decide) (hts (.fieldLink RX8 56 "BlockLog" "snapshot" "LBlockLog$Snapshot;") (by decide +kernel)) (fun _ h9 => h9) rfl dX8_putSnapshot_24 ?_
          refine va_getN (D := (dC, dI)) (ci := 7) (v := .ref (c 33)) (C := RX5) (T := TX5) (N := 7) hx hb hts hin_X5 hown hK hP 7 rfl rfl 2 (by decide) (va_Nw.use rfl (hGW.1 ("BlockLog", 444, "BlockLog$Snapshot", "sizes", "[I", "BlockLog") (by decide +kernel))) (fun _ h9 => h9) rfl dX8_putSnapshot_27 ?_
          refine lv_iload_n hx hb dX8_putSnapshot_30 rfl (lv_at hl 0 rfl) ?_
          refine va_iald (f := ai 33) hx hb hK hP 24 16 rfl rfl (iv_in (i := l1_2) (by omega) (by omega)) dX8_putSnapshot_31 ?_
          refine lv_topi (fun v_38 ev_38 => ?_)
          have k_39 : 0 ≤ v_38.toInt ∧ v_38.toInt ≤ 255 := aR_get hR33 (by omega) (by omega) ev_38
          have hX_snap_sizes := ev_38
          have k_40 : v_38.toInt = ((ai 33) l1_2.toNatClampNeg).toInt := by rw [ev_38]
          clear ev_38
          have hFc := vfree ((cw_D hD : va_D A (cw_W (rU c 99 E9_2) kc (rU (rU (rU (rU (rU st 9 s9_2) 10 s10_2) 11 s11_2) 12 s12_2) 13 s13_2) lg (rU ai 0 a0_2) (rU al 34 b34_2) R9_2)) : va_D A (cw_W (rU c 99 E9_2) kc (rU (rU (rU (rU (rU st 9 s9_2) 10 s10_2) 11 s11_2) 12 s12_2) 13 s13_2) lg (rU ai 0 a0_2) (rU al 34 b34_2) R9_2)) hS hA
          refine va_callv (va_runV (As := [.int v_35, .int v_38]) (rest := []) ⟨hx, hb, hml, hown, hts⟩ (v_X8_drawPage l dC dI (rU c 99 E9_2) kc (rU (rU (rU (rU (rU st 9 s9_2) 10 s10_2) 11 s11_2) 12 s12_2) 13 s13_2) lg (rU ai 0 a0_2) (rU al 34 b34_2) R9_2 v_35 v_38 _ (by omega) (by omega) (show aR (ai 4) 400 (-128) 127 from hR4)) (cwV 2 hts gX8_putSnapshot_X8_drawPage rfl rfl rfl (by decide +kernel) ⟨Nat.le_of_ble_eq_true rfl, Nat.le_of_ble_eq_true rfl⟩) ⟨fun a U g mk q => by obtain ⟨q0, q1, qP, qK, qD, qG⟩ := q; exact ⟨q0, q1, qP, va_K.moved (u := U) (U := U.calling g mk a) (Vm.Alike.refl U.vm) qK, qD, qG.same rfl rfl⟩, va_recv hK hP (ci := 10) (q := (RX8, TX8, 10)) rfl (q0 := 0) rfl, fun U hU hW => ⟨rfl, by rw [hU], by rw [hU]; exact hP, va_K.moved hW.alike hK, ((cw_D hD : va_D A (cw_W (rU c 99 E9_2) kc (rU (rU (rU (rU (rU st 9 s9_2) 10 s10_2) 11 s11_2) 12 s12_2) 13 s13_2) lg (rU ai 0 a0_2) (rU al 34 b34_2) R9_2))).weaken (fun _ _ _ _ => trivial), hG.go hW hU hS hFc⟩⟩ rfl rfl hl.1 rfl (lv_room (Nat.le_of_ble_eq_true rfl)) dX8_putSnapshot_32 ⟨by show K9_2 + 0 ≤ 60; omega, by show M9_2 + 0 ≤ 1170000; omega⟩) hS (fun q _ h => hFc q h) hFc (fun ur_41 t H1 locs ht hvm er_41 hB hz1 hk1 hS => ?_)
          obtain ⟨f0_41, hP1⟩ := hB
          rw [ht] at hP1
          clear hFc hz1 hk1 hvm hP
          subst ht
          have hP := hP1
          clear hP1
          generalize t.heap = H at hP hS ⊢
          have hP : va_P (dC, dI) vwCl (cw_W (rU c 99 E9_2) kc (rU (rU (rU (rU (rU st 9 s9_2) 10 s10_2) 11 s11_2) 12 s12_2) 13 s13_2) lg (rU ai 0 f0_41) (rU al 34 b34_2) R9_2) H := hP
          refine lv_aload_n hx hb dX8_putSnapshot_35 rfl (lv_at hl 1 rfl) ?_
          refine va_get (D := (dC, dI)) (ci := 10) (v := .ref (c 107)) (C := RX8) (T := TX8) (N := 10) hx hb hts hin_X8 hown hK hP 0 rfl rfl 5 (by decide) (hts (.fieldLink RX8 56 "BlockLog" "snapshot" "LBlockLog$Snapshot;") (by decide +kernel)) (fun _ h9 => h9) rfl dX8_putSnapshot_36 ?_
          refine va_getN (D := (dC, dI)) (ci := 7) (v := .ref (c 34)) (C := RX5) (T := TX5) (N := 7) hx hb hts hin_X5 hown hK hP 7 rfl rfl 3 (by decide) (va_Nw.use rfl (hGW.1 ("BlockLog", 450, "BlockLog$Snapshot", "digests", "[J", "BlockLog") (by decide +kernel))) (fun _ h9 => h9) rfl dX8_putSnapshot_39 ?_
          refine lv_iload_n hx hb dX8_putSnapshot_42 rfl (lv_at hl 0 rfl) ?_
          refine lv_aload_n hx hb dX8_putSnapshot_43 rfl (lv_at hl 1 rfl) ?_
          refine va_get (D := (dC, dI)) (ci := 10) (v := .ref (c 0)) (C := RX8) (T := TX8) (N := 10) hx hb hts hin_X8 hown hK hP 0 rfl rfl 6 (by decide) (hts (.fieldLink RX8 60 "BlockLog" "pageImage" "[B") (by decide +kernel)) (fun _ h9 => h9) rfl dX8_putSnapshot_44 ?_
          refine lv_bipush (v := 17) hx hb dX8_putSnapshot_47 (by decide) ?_
          refine vp_callSl (va_Run.run (va_runS (As := [.ref (c 0), .int (17 : Int32)]) (rest := [.int l1_2, .ref (c 34)]) ⟨hx, hb, hml, hown, hts⟩ (v_X0_longAt l dC dI (cw_W (rU c 99 E9_2) kc (rU (rU (rU (rU (rU st 9 s9_2) 10 s10_2) 11 s11_2) 12 s12_2) 13 s13_2) lg (rU ai 0 f0_41) (rU al 34 b34_2) R9_2) (cw_T kc) (c 0) 26 (kc 0) f0_41 8 0 (17 : Int32) rfl rfl (by omega) (by omega) (by omega)) (va_cwS 2 hts gX8_putSnapshot_X0_longAt rfl rfl rfl (by decide +kernel) ⟨Nat.le_of_ble_eq_true rfl, Nat.le_of_ble_eq_true rfl⟩) ⟨fun a U g mk q => by obtain ⟨q0, qP, qK⟩ := q; exact ⟨q0, qP, va_K.moved (u := U) (U := U.calling g mk a) (Vm.Alike.refl U.vm) qK⟩, fun U hU hW => ⟨rfl, by rw [hU]; exact hP, va_K.moved hW.alike hK⟩⟩ rfl rfl hl.1 rfl (lv_room (Nat.le_of_ble_eq_true rfl)) dX8_putSnapshot_49 ⟨by show K9_2 + 0 ≤ 60; omega, by show M9_2 + 0 ≤ 1170000; omega⟩)) (fun r_42 er_42 => ?_)
          refine va_last (f := b34_2) hx hb hK hP (cw_D hD) hS 25 17 rfl rfl (iv_in (i := l1_2) (by omega) (by omega)) dX8_putSnapshot_52 (fun H locs hP _ hS => ?_)
          have hP : va_P (dC, dI) vwCl (cw_W (rU c 99 E9_2) kc (rU (rU (rU (rU (rU st 9 s9_2) 10 s10_2) 11 s11_2) 12 s12_2) 13 s13_2) lg (rU ai 0 f0_41) (rU al 34 (vp_updL b34_2 l1_2.toNatClampNeg r_42)) R9_2) H := cw_b34 hP
          generalize hU_snap_digests : vp_updL b34_2 l1_2.toNatClampNeg r_42 = g_43 at hP
          clear hU_snap_digests
          refine lv_aload_n hx hb dX8_putSnapshot_53 rfl (lv_at hl 1 rfl) ?_
          refine W_read (fun hu1 hu2 => ?_)
          have hFc := vfree ((cw_D hD : va_D A (cw_W (rU c 99 E9_2) kc (rU (rU (rU (rU (rU st 9 s9_2) 10 s10_2) 11 s11_2) 12 s12_2) 13 s13_2) lg (rU ai 0 f0_41) (rU al 34 g_43) R9_2)) : va_D A (cw_W (rU c 99 E9_2) kc (rU (rU (rU (rU (rU st 9 s9_2) 10 s10_2) 11 s11_2) 12 s12_2) 13 s13_2) lg (rU ai 0 f0_41) (rU al 34 g_43) R9_2)) hS hA
          refine va_calli (va_runV (As := []) (rest := []) ⟨hx, hb, hml, hown, hts⟩ (v_X8_putLeaf l dC dI (rU c 99 E9_2) kc (rU (rU (rU (rU (rU st 9 s9_2) 10 s10_2) 11 s11_2) 12 s12_2) 13 s13_2) lg (rU ai 0 f0_41) (rU al 34 g_43) R9_2 C9_2 N9_2  _ _ hPI hN (show 1 ≤ (st 6).toInt by omega) (show (st 6).toInt ≤ 65536 by omega) (show 0 ≤ s9_2.toInt by omega) (show s9_2.toInt ≤ 1 by omega) (show 0 ≤ s13_2.toInt by omega) (show s13_2.toInt ≤ 65536 by omega)) (cwV 0 hts gX8_putSnapshot_X8_putLeaf rfl rfl rfl (by decide +kernel) ⟨Nat.le_of_ble_eq_true rfl, Nat.le_of_ble_eq_true rfl⟩) ⟨fun a U g mk q => by obtain ⟨q0, q1, q2, qP, qK, qD, qG⟩ := q; exact ⟨q0, q1, q2, qP, va_K.moved (u := U) (U := U.calling g mk a) (Vm.Alike.refl U.vm) qK, qD, qG.same rfl rfl⟩, va_recv hK hP (ci := 10) (q := (RX8, TX8, 10)) rfl (q0 := 0) rfl, fun U hU hW => ⟨rfl, by rw [hU], by rw [hU], by rw [hU]; exact hP, va_K.moved hW.alike hK, ((cw_D hD : va_D A (cw_W (rU c 99 E9_2) kc (rU (rU (rU (rU (rU st 9 s9_2) 10 s10_2) 11 s11_2) 12 s12_2) 13 s13_2) lg (rU ai 0 f0_41) (rU al 34 g_43) R9_2))).weaken (fun _ _ _ _ => trivial), hY.go hW hU hS hFc hc0⟩⟩ rfl rfl hl.1 rfl (lv_room (Nat.le_of_ble_eq_true rfl)) dX8_putSnapshot_54 ⟨by show K9_2 + 6 ≤ 60; omega, by show M9_2 + 640000 ≤ 1170000; omega⟩) hS (fun q _ h => hFc q h) hFc (fun r_44 ur_44 t H1 locs ht hvm er_44 hB hz1 hk1 hS => ?_)
          subst er_44
          obtain ⟨x9_44, x10_44, x11_44, x12_44, x13_44, e_44, cap_44, num_44, R_44, k_45, k_46, k_47, k_48, hPI, hmo, hD1, hN, hc1, hcp1, hnn1, hnn2, hus1, hus2, hP1⟩ := hB
          rw [ht] at hP1
          clear hz1 hk1 hvm hP
          subst ht
          have hP := hP1
          clear hP1
          generalize t.heap = H at hP hS hus1 hus2 ⊢
          rw [rU_rU (f := c) (k := 99) (a := E9_2) (b := e_44)] at hP
          have hP : va_P (dC, dI) vwCl (cw_W (rU c 99 e_44) kc (rU (rU (rU (rU (rU st 9 x9_44) 10 x10_44) 11 x11_44) 12 x12_44) 13 x13_44) lg (rU ai 0 f0_41) (rU al 34 g_43) R_44) H := hP
          rw [rU_rU (f := c) (k := 99) (a := E9_2) (b := e_44)] at hD1
          have hD : va_D A (cw_W (rU c 99 e_44) kc st lg ai al R_44) := cw_D (hD1.weaken (fun _ _ _ h => hFc _ h))
          have hc0 : cap_44 = 0 → cap = 0 ∧ e_44 = c 99 := fun h => ⟨(hc0 (hc1 h).1).1, (show e_44 = E9_2 from (hc1 h).2).trans (hc0 (hc1 h).1).2⟩
          have hcp : cap ≤ cap_44 := Nat.le_trans hcp hcp1
          have hN1 : ((cap_44 : Nat) : Int) ≤ 10 + 2 * x13_44.toInt := hN.1
          have hnn1 : s13_2.toInt ≤ x13_44.toInt := hnn1
          have hnn2 : x13_44.toInt ≤ s13_2.toInt + 1 := hnn2
          have hus1 : ((H.size : Nat) : Int) ≤ _ + 0 + 3 * (x13_44.toInt - s13_2.toInt) := hus1
          have hus2 : ((tot H : Nat) : Int) ≤ _ + 0 + 29 * (x13_44.toInt - s13_2.toInt) + 4 * (((cap_44 : Nat) : Int) - ((C9_2 : Nat) : Int)) := hus2
          obtain ⟨k_49, hk_49⟩ : ∃ k9 : Nat, (k9 : Int) = ((K9_2 : Nat) : Int) + 0 + 3 * (x13_44.toInt - s13_2.toInt) := ⟨(((K9_2 : Nat) : Int) + 0 + 3 * (x13_44.toInt - s13_2.toInt)).toNat, by omega⟩
          obtain ⟨m_49, hm_49⟩ : ∃ m9 : Nat, (m9 : Int) = ((M9_2 : Nat) : Int) + 0 + 29 * (x13_44.toInt - s13_2.toInt) + 4 * (((cap_44 : Nat) : Int) - ((C9_2 : Nat) : Int)) := ⟨(((M9_2 : Nat) : Int) + 0 + 29 * (x13_44.toInt - s13_2.toInt) + 4 * (((cap_44 : Nat) : Int) - ((C9_2 : Nat) : Int))).toNat, by omega⟩
          refine W_tight (k' := k_49) (m' := m_49) (by omega) (by omega) ?_
          clear hus1 hus2 hu1 hu2
          have hPI : PI (kc 98) (kc 0) e_44 x13_44 cap_44 num_44 none R_44 := hPI
          clear hFc hD1
          have hmono : ∀ y m, pgM (kc 0) R y m → pgM (kc 0) R_44 y m := fun y m h => hmo y m (hmono y m h)
          have k_45 : 0 ≤ x9_44.toInt := k_45
          have k_46 : x9_44.toInt ≤ 1 := k_46
          have k_47 : 0 ≤ x13_44.toInt := k_47
          have k_48 : x13_44.toInt ≤ 65536 := k_48
          refine lv_if_ge (tgt := 62) hx hb dX8_putSnapshot_57 (by decide) (fun c_50 => ?_) (fun c_50 => ?_)
          · skip
            have ic_50 := iv_le c_50
            obtain ⟨x_51, ex_51⟩ : ∃ z : Int32, z = l1_2 + (1) := ⟨_, rfl⟩
            refine lv_iinc (v := x_51) (lv' := [(1, .int x_51), (0, .ref (c 100))]) hx hb dX8_putSnapshot_62 hl (k := 0) rfl (by rw [ex_51]; rfl) (by decide) rfl (fun ls hl => ?_)
            have rg2 := iv_rng l1_2
            have hx_51 : x_51.toInt = l1_2.toInt + (1) := by rw [ex_51]; exact (iv_add (by omega) (by omega)).trans (by omega)
            clear ex_51
            refine lv_goto (tgt := 2) hx hb dX8_putSnapshot_65 (by decide) ?_
            exact ih2 x_51 x9_44 x10_44 x11_44 x12_44 x13_44 f0_41 g_43 e_44 cap_44 num_44 k_49 m_49 R_44 _ _ _ (by omega) (by omega) (by omega) (by omega) (by omega) (by omega) (by omega) (by omega) hPI (cw_D hD) hmono hN hN.1 hc0 hcp (by omega) (by omega) (by omega) hP hS (lv_sub hl [0, 1] rfl)
          · skip
            have ic_50 := iv_nle c_50
            refine lv_iconst (v := 0) hx hb dX8_putSnapshot_60 (by decide) ?_
            refine W_read (fun hu1 hu2 => ?_)
            refine W.widen (k := 60) (n := 1170000) (by omega) (by omega) ?_
            exact W.zret hx hb hr rfl (fun t ht hW => ⟨⟨_, _, rfl, rfl, x9_44, x10_44, x11_44, x12_44, x13_44, st 17, st 25, st 26, st 27, st 28, st 29, f0_41, ai 7, ai 8, ai 14, ai 20, ai 21, ai 22, ai 23, al 19, g_43, e_44, cap_44, num_44, R_44, (by omega), (by omega), (by omega), (by omega), (by omega), (by omega), (by omega), (by omega), (by omega), (by omega), (by omega), (by omega), (by omega), (by omega), (by omega), (by omega), hR7, hR23, hPI, hmono, (cw_D hD), hN, hc0, hcp, (by omega), (by omega), (by rw [ht]; omega), (by rw [ht]; omega), by rw [ht]; exact hP⟩, hS.F ht⟩) hS.2.2 dX8_putSnapshot_61
    exact loop2 (((st 37).toInt - 0 : Int).toNat + 1) (0 : Int32) (st 9) (st 10) (st 11) (st 12) (st 13) (ai 0) (al 34) (c 99) cap num 0 0 R _ _ _ (by omega) (by omega) (by omega) (by omega) (by omega) (by omega) (by omega) (by omega) hPI (cw_D hD) hmono hN hN.1 hc0 hcp (by omega) (by omega) (by omega) hP hS (lv_sub hl [0, 1] rfl)
  exact main s.heap [] hP hS
