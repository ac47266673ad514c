set_option maxHeartbeats 4000000 in
set_option maxRecDepth 100000 in
theorem v_X8_page (l : Launch) (hl0 : l.stackTraces = false) (dC : Nat → ClassId) (dI : Nat → Nat → Nat) (c : Nat → Nat) (kc : Nat → ClassId) (st : Nat → Int32) (lg : Nat → Int64) (ai : Nat → Nat → Int32) (al : Nat → Nat → Int64) (R : va_W) (cap : Nat) (num : Nat → Int32) (p0 : Int64) (sz : Nat) (hPI : PI (kc 98) (kc 0) (c 99) (st 13) cap num none R) (hf9a : 0 ≤ (st 9).toInt) (hf9b : (st 9).toInt ≤ 1) (hf13a : 0 ≤ (st 13).toInt) (hf13b : (st 13).toInt ≤ 65536) : vx_Met l yX8_page wsX8_page ({ frames := 7, cells := 1, slots := 6, locals := 120 }) (va_Pc [.ref (c 100), .long p0] (fun U => U.heap.size = sz ∧ va_P (dC, dI) vwCl (cw_W c kc st lg ai al R) U.heap ∧ va_K (dC, dI) vwCl (cw_T kc) U ∧ va_D (fun _ => True) (cw_W c kc st lg ai al R) ∧ gx_E (va_A (cw_W c kc st lg ai al R) sz) U)) (va_Qi (fun r (u : Int32) => r = u) (fun u t => ∃ (R9 : va_W), (PI (kc 98) (kc 0) (c 99) (st 13) cap num none R9) ∧ (∀ y m, pgM (kc 0) R y m → pgM (kc 0) R9 y m) ∧ (va_D (va_A (cw_W c kc st lg ai al R) sz) (cw_W c kc st lg ai al R9)) ∧ va_P (dC, dI) vwCl (cw_W c kc st lg ai al R9) t.heap) (va_A (cw_W c kc st lg ai al R) sz)) (vx_X (fun _ : Unit => True) (fun E _ t => E ∈ (["java/lang/IllegalStateException"] : List String) ∧ ∃ (R9 : va_W), (PI (kc 98) (kc 0) (c 99) (st 13) cap num none R9) ∧ (∀ y m, pgM (kc 0) R y m → pgM (kc 0) R9 y m) ∧ (va_D (va_A (cw_W c kc st lg ai al R) sz) (cw_W c kc st lg ai al R9)) ∧ va_P (dC, dI) vwCl (cw_W c kc st lg ai al R9) t.heap) (va_A (cw_W c kc st lg ai al R) sz)) 1 6 (va_A (cw_W c kc st lg ai al R) sz) := by
  refine vx_ofW (cc := cX8_page) (maxL := 4) (ret := (some .int)) (by decide) rfl ?_
  intro p e s m args below meth cM s₁ B hml hno hv
  obtain ⟨rfl, hsz, hP, hK, hD0, hG⟩ := hv
  have hx := B.exec
  have hb := B.bytes
  have hr := B.returns
  have hts := atoms_spec (ws := wsX8_page) B.pre
  have hown : s.vm.findClass RX8 = some m.cls := findClass_of_methodNamed B.named
  have hGW := hG.1
  have hlocks := B.notSynchronized
  subst hsz
  have hD := hD0.self (sz := s.heap.size)
  generalize hAe : va_A (cw_W c kc st lg ai al R) s.heap.size = A at hD hG ⊢
  have hA : ∀ q : Nat, s.heap.size ≤ q → A q := fun q h => by rw [← hAe]; exact Or.inr h
  have hS : va_S A s.heap s.heap [] := va_S.rf
  clear hAe hD0
  have hl := lv_entry ([.ref (c 100), .long p0]) (n := 4) (Nat.le_of_ble_eq_true rfl)
  rw [lg_entry_eq]
  generalize (lg_sl ([.ref (c 100), .long p0]) ++ List.replicate (4 - (lg_sl ([.ref (c 100), .long p0])).length) Slot.unset).toArray = ls at hl ⊢
  have hl : lv_has ls 4 [(0, .ref (c 100)), (1, .long p0)] := hl
  have z_m1 : (-1 : Int32).toInt = -1 := by decide
  have hin_X2 : ∀ w ∈ u_ws RX2 TX2 3, w ∈ wsX8_page := by decide +kernel
  have hin_X8 : ∀ w ∈ u_ws RX8 TX8 10, w ∈ wsX8_page := by decide +kernel
  have hmono : ∀ y m, pgM (kc 0) R y m → pgM (kc 0) R y m := fun y m h => h
  have main : ∀ (H : Heap) (locs : List Loc), va_P (dC, dI) vwCl (cw_W c kc st lg ai al R) H → va_S A s.heap H locs → W p l e (headSpec wsX8_page ({ frames := 7, cells := 1, slots := 6, locals := 120 })).room s m ([.ref (c 100), .long p0] : List Value).toArray below meth cM H locs 0 0 (vx_MQ below (va_Qi (fun r (u : Int32) => r = u) (fun u t => ∃ (R9 : va_W), (PI (kc 98) (kc 0) (c 99) (st 13) cap num none R9) ∧ (∀ y m, pgM (kc 0) R y m → pgM (kc 0) R9 y m) ∧ (va_D A (cw_W c kc st lg ai al R9)) ∧ va_P (dC, dI) vwCl (cw_W c kc st lg ai al R9) t.heap) A) (vx_X (fun _ : Unit => True) (fun E _ t => E ∈ (["java/lang/IllegalStateException"] : List String) ∧ ∃ (R9 : va_W), (PI (kc 98) (kc 0) (c 99) (st 13) cap num none R9) ∧ (∀ y m, pgM (kc 0) R y m → pgM (kc 0) R9 y m) ∧ (va_D A (cw_W c kc st lg ai al R9)) ∧ va_P (dC, dI) vwCl (cw_W c kc st lg ai al R9) t.heap) A) ([.ref (c 100), .long p0] : List Value).toArray s 1 6 A) (F0 m 0 ls []) := by
    intro H locs hP hS
    refine lv_aload_n hx hb dX8_page_0 rfl (lv_at hl 0 rfl) ?_
    have hFc := vfree ((cw_D hD : va_D A (cw_W c kc st lg ai al R)) : va_D A (cw_W c kc st lg ai al R)) hS hA
    refine vx_callv (vx_runV (As := []) (rest := []) ⟨hx, hb, hml, hown, hts⟩ (v_X8_demandPower l hl0 dC dI c kc st lg ai al R  _ (show 0 ≤ (st 9).toInt by omega) (show (st 9).toInt ≤ 1 by omega)) (cwV 0 hts gX8_page_X8_demandPower rfl rfl rfl (by decide +kernel) ⟨Nat.le_of_ble_eq_true rfl, Nat.le_of_ble_eq_true rfl⟩) ⟨fun a U g mk q => by obtain ⟨q0, q1, qP, qK, qD, qG⟩ := q; exact ⟨q0, q1, qP, va_K.moved (u := U) (U := U.calling g mk a) (Vm.Alike.refl U.vm) qK, qD, qG.same rfl rfl⟩, va_recv hK hP (ci := 10) (q := (RX8, TX8, 10)) rfl (q0 := 0) rfl, fun U hU hW => ⟨rfl, by rw [hU], by rw [hU]; exact hP, va_K.moved hW.alike hK, ((cw_D hD : va_D A (cw_W c kc st lg ai al R))).weaken (fun _ _ _ _ => trivial), hG.go hW hU hS hFc⟩⟩ rfl rfl hl.1 rfl (lv_room (Nat.le_of_ble_eq_true rfl)) dX8_page_1 ⟨Nat.le_of_ble_eq_true rfl, Nat.le_of_ble_eq_true rfl⟩) hS (fun q _ h => hFc q h) hFc (fun q _ h => hFc q h) (fun E9 ce q9 u t H1 locs ht hvm hp hE hz hk hS hcell hv hcl => ?_) (fun ur_1 t H1 locs ht hvm er_1 hB hz1 hk1 hS => ?_)
    · skip
      obtain ⟨hE, hP1⟩ := hE
      rw [ht] at hP1
      have hP : va_P (dC, dI) vwCl (cw_W c kc st lg ai al R) H1 := hP1
      exact vx_out (fun x h => (hno x h).elim) hlocks hcell hv hcl (fun t ht hW => ⟨(), trivial, ⟨(show ∀ x ∈ (["java/lang/IllegalStateException"] : List String), x ∈ (["java/lang/IllegalStateException"] : List String) by decide +kernel) _ hE, R, hPI, hmono, (cw_D hD), by rw [ht]; exact hP⟩, hS.F ht⟩) hS.2.2 (Nat.le_of_ble_eq_true rfl) (Nat.le_of_ble_eq_true rfl)
    · skip
      have hP1 : va_P (dC, dI) vwCl (cw_W c kc st lg ai al R) t.heap := hB
      rw [ht] at hP1
      clear hFc hz1 hk1 hvm hP
      subst ht
      have hP := hP1
      clear hP1
      generalize t.heap = H at hP hS ⊢
      have hP : va_P (dC, dI) vwCl (cw_W c kc st lg ai al R) H := hP
      refine lv_aload_n hx hb dX8_page_4 rfl (lv_at hl 0 rfl) ?_
      refine va_get (D := (dC, dI)) (ci := 10) (v := .ref (c 102)) (C := RX8) (T := TX8) (N := 10) hx hb hts hin_X8 hown hK hP 0 rfl rfl 1 (by decide) (hts (.fieldLink RX8 22 "BlockLog" "disk" "LBlockLog$Disk;") (by decide +kernel)) (fun _ h9 => h9) rfl dX8_page_5 ?_
      refine lv_lload_n hx hb dX8_page_8 rfl (lv_at hl 1 rfl) ?_
      have hFc := vfree ((cw_D hD : va_D A (cw_W c kc st lg ai al R)) : va_D A (cw_W c kc st lg ai al R)) hS hA
      refine va_callq (va_runV (As := [.long p0]) (rest := []) ⟨hx, hb, hml, hown, hts⟩ (v_X1_pageOf l dC dI c kc st lg ai al R cap num p0 _ hPI (show 0 ≤ (st 13).toInt by omega) (show (st 13).toInt ≤ 65536 by omega)) (cwV 1 hts gX8_page_X1_pageOf rfl rfl rfl (by decide +kernel) ⟨Nat.le_of_ble_eq_true rfl, Nat.le_of_ble_eq_true rfl⟩) ⟨fun a U g mk q => by obtain ⟨q0, q1, qP, qK, qD, qG⟩ := q; exact ⟨q0, q1, qP, va_K.moved (u := U) (U := U.calling g mk a) (Vm.Alike.refl U.vm) qK, qD, qG.same rfl rfl⟩, va_recv hK hP (ci := 3) (q := (RX1, TX1, 7)) rfl (q0 := 2) rfl, fun U hU hW => ⟨rfl, by rw [hU], by rw [hU]; exact hP, va_K.moved hW.alike hK, ((cw_D hD : va_D A (cw_W c kc st lg ai al R))).weaken (fun _ _ _ _ => trivial), hG.go hW hU hS hFc⟩⟩ rfl rfl hl.1 rfl (lv_room (Nat.le_of_ble_eq_true rfl)) dX8_page_9 ⟨Nat.le_of_ble_eq_true rfl, Nat.le_of_ble_eq_true rfl⟩) hS (fun q _ h => hFc q h) hFc (fun r_2 ur_2 t H1 locs ht hvm er_2 hB hz1 hk1 hS => ?_)
      subst er_2
      obtain ⟨R_2, hq, hPI, hmo, hD1, hP1⟩ := hB
      rw [ht] at hP1
      clear hz1 hk1 hvm hP
      subst ht
      have hP := hP1
      clear hP1
      generalize t.heap = H at hP hS ⊢
      have hP : va_P (dC, dI) vwCl (cw_W c kc st lg ai al R_2) H := hP
      have hD : va_D A (cw_W c kc st lg ai al R_2) := cw_D (hD1.weaken (fun _ _ _ h => hFc _ h))
      have hPI : PI (kc 98) (kc 0) (c 99) (st 13) cap num none R_2 := hPI
      clear hFc hD1
      have hmono : ∀ y m, pgM (kc 0) R y m → pgM (kc 0) R_2 y m := fun y m h => hmo y m (hmono y m h)
      have hq : ∀ x, r_2 = some x → ∃ m, pgM (kc 0) R_2 x m ∧ pgRt (kc 0) R_2 x := hq
      rcases r_2 with _ | x_3
      · skip
        refine W.eq (g2 := F0 m 12 ls [.null]) rfl ?_
        refine lv_astore_nN (lv' := [(3, .null), (0, .ref (c 100)), (1, .long p0)]) hx hb dX8_page_12 rfl hl (by decide) rfl (fun ls hl => ?_)
        refine lv_aload_nN hx hb dX8_page_13 rfl (lv_at hl 0 rfl) ?_
        refine lv_ifnonnullN hx hb dX8_page_14 ?_
        refine lv_iconst (v := (-1)) hx hb dX8_page_17 (by decide) ?_
        refine lv_goto (tgt := 25) hx hb dX8_page_18 (by decide) ?_
        refine W.widen (k := 1) (n := 6) (Nat.le_of_ble_eq_true rfl) (Nat.le_of_ble_eq_true rfl) ?_
        refine vx_ret ?_
        exact W.iret hx hb hr (fun t ht hW => ⟨⟨_, _, rfl, rfl, R_2, hPI, hmono, (cw_D hD), by rw [ht]; exact hP⟩, hS.F ht⟩) hS.2.2 dX8_page_25
      · skip
        refine W.eq (g2 := F0 m 12 ls [.ref x_3]) rfl ?_
        obtain ⟨m_4, hM_x_3, hQ⟩ := hq x_3 rfl
        refine lv_astore_n (lv' := [(3, .ref x_3), (0, .ref (c 100)), (1, .long p0)]) hx hb dX8_page_12 rfl hl (by decide) rfl (fun ls hl => ?_)
        refine lv_aload_n hx hb dX8_page_13 rfl (lv_at hl 0 rfl) ?_
        refine lv_ifnonnull (tgt := 21) hx hb dX8_page_14 (by decide) ?_
        refine lv_aload_n hx hb dX8_page_21 rfl (lv_at hl 0 rfl) ?_
        have hMo := hM_x_3
        obtain ⟨b_5, k9_5, f9_5, ⟨j_5, hj_5⟩, i_5, hi_5⟩ := hMo
        refine va_getN (D := (dC, dI)) (ci := 4) (v := .int m_4) (C := RX2) (T := TX2) (N := 3) hx hb hts hin_X2 hown hK hP (26 + j_5) (cw_at hj_5) rfl 0 (by decide) (va_Nw.use rfl (hGW.1 ("BlockLog", 225, "BlockLog$Page", "number", "I", "BlockLog") (by decide +kernel))) (fun _ h9 => h9) rfl dX8_page_22 ?_
        refine W.widen (k := 1) (n := 6) (Nat.le_of_ble_eq_true rfl) (Nat.le_of_ble_eq_true rfl) ?_
        refine vx_ret ?_
        exact W.iret hx hb hr (fun t ht hW => ⟨⟨_, _, rfl, rfl, R_2, hPI, hmono, (cw_D hD), by rw [ht]; exact hP⟩, hS.F ht⟩) hS.2.2 dX8_page_25
  exact main s.heap [] hP hS

set_option maxHeartbeats 4000000 in
set_option maxRecDepth 100000 in
theorem v_X8_byteOf (l : Launch) (hl0 : l.stackTraces = false) (dC : Nat → ClassId) (dI : Nat → Nat → Nat) (c : Nat → Nat) (kc : Nat → ClassId) (st : Nat → Int32) (lg : Nat → Int64) (ai : Nat → Nat → Int32) (al : Nat → Nat → Int64) (R : va_W) (cap : Nat) (num : Nat → Int32) (p0 : Int32) (p1 : Int32) (sz : Nat) (hPI : PI (kc 98) (kc 0) (c 99) (st 13) cap num none R) (hf6a : 1 ≤ (st 6).toInt) (hf6b : (st 6).toInt ≤ 65536) (hf9a : 0 ≤ (st 9).toInt) (hf9b : (st 9).toInt ≤ 1) (hf13a : 0 ≤ (st 13).toInt) (hf13b : (st 13).toInt ≤ 65536) : vx_Met l yX8_byteOf wsX8_byteOf ({ frames := 7, cells := 2, slots := 12, locals := 133 }) (va_Pc [.ref (c 100), .int p0, .int p1] (fun U => U.heap.size = sz ∧ va_P (dC, dI) vwCl (cw_W c kc st lg ai al R) U.heap ∧ va_K (dC, dI) vwCl (cw_T kc) U ∧ va_D (fun _ => True) (cw_W c kc st lg ai al R) ∧ gx_E (va_A (cw_W c kc st lg ai al R) sz) U)) (va_Qi (fun r (u : Int32) => r = u) (fun u t => ∃ (R9 : va_W), (PI (kc 98) (kc 0) (c 99) (st 13) cap num none R9) ∧ (∀ y m, pgM (kc 0) R y m → pgM (kc 0) R9 y m) ∧ (va_D (va_A (cw_W c kc st lg ai al R) sz) (cw_W c kc st lg ai al R9)) ∧ va_P (dC, dI) vwCl (cw_W c kc st lg ai al R9) t.heap) (va_A (cw_W c kc st lg ai al R) sz)) (vx_X (fun _ : Unit => True) (fun E _ t => E ∈ (["java/lang/IllegalStateException", "java/lang/IndexOutOfBoundsException"] : List String) ∧ ∃ (R9 : va_W), (PI (kc 98) (kc 0) (c 99) (st 13) cap num none R9) ∧ (∀ y m, pgM (kc 0) R y m → pgM (kc 0) R9 y m) ∧ (va_D (va_A (cw_W c kc st lg ai al R) sz) (cw_W c kc st lg ai al R9)) ∧ va_P (dC, dI) vwCl (cw_W c kc st lg ai al R9) t.heap) (va_A (cw_W c kc st lg ai al R) sz)) 2 12 (va_A (cw_W c kc st lg ai al R) sz) := by
  refine vx_ofW (cc := cX8_byteOf) (maxL := 4) (ret := (some .int)) (by decide) rfl ?_
  intro p e s m args below meth cM s₁ B hml hno hv
  obtain ⟨rfl, hsz, hP, hK, hD0, hG⟩ := hv
  have hx := B.exec
  have hb := B.bytes
  have hr := B.returns
  have hts := atoms_spec (ws := wsX8_byteOf) B.pre
  have hown : s.vm.findClass RX8 = some m.cls := findClass_of_methodNamed B.named
  have hGW := hG.1
  have hlocks := B.notSynchronized
  subst hsz
  have hD := hD0.self (sz := s.heap.size)
  generalize hAe : va_A (cw_W c kc st lg ai al R) s.heap.size = A at hD hG ⊢
  have hA : ∀ q : Nat, s.heap.size ≤ q → A q := fun q h => by rw [← hAe]; exact Or.inr h
  have hS : va_S A s.heap s.heap [] := va_S.rf
  clear hAe hD0
  have hl := lv_entry ([.ref (c 100), .int p0, .int p1]) (n := 4) (Nat.le_of_ble_eq_true rfl)
  rw [lg_entry_eq]
  generalize (lg_sl ([.ref (c 100), .int p0, .int p1]) ++ List.replicate (4 - (lg_sl ([.ref (c 100), .int p0, .int p1])).length) Slot.unset).toArray = ls at hl ⊢
  have hl : lv_has ls 4 [(0, .ref (c 100)), (1, .int p0), (2, .int p1)] := hl
  have z_m1 : (-1 : Int32).toInt = -1 := by decide
  have z_0 : (0 : Int32).toInt = 0 := by decide
  have z_1 : (1 : Int32).toInt = 1 := by decide
  have z_16 : (16 : Int32).toInt = 16 := by decide
  have z_255 : (255 : Int32).toInt = 255 := by decide
  have hin_X2 : ∀ w ∈ u_ws RX2 TX2 3, w ∈ wsX8_byteOf := by decide +kernel
  have hin_X8 : ∀ w ∈ u_ws RX8 TX8 10, w ∈ wsX8_byteOf := by decide +kernel
  have hmono : ∀ y m, pgM (kc 0) R y m → pgM (kc 0) R y m := fun y m h => h
  have main : ∀ (H : Heap) (locs : List Loc), va_P (dC, dI) vwCl (cw_W c kc st lg ai al R) H → va_S A s.heap H locs → W p l e (headSpec wsX8_byteOf ({ frames := 7, cells := 2, slots := 12, locals := 133 })).room s m ([.ref (c 100), .int p0, .int p1] : List Value).toArray below meth cM H locs 0 0 (vx_MQ below (va_Qi (fun r (u : Int32) => r = u) (fun u t => ∃ (R9 : va_W), (PI (kc 98) (kc 0) (c 99) (st 13) cap num none R9) ∧ (∀ y m, pgM (kc 0) R y m → pgM (kc 0) R9 y m) ∧ (va_D A (cw_W c kc st lg ai al R9)) ∧ va_P (dC, dI) vwCl (cw_W c kc st lg ai al R9) t.heap) A) (vx_X (fun _ : Unit => True) (fun E _ t => E ∈ (["java/lang/IllegalStateException", "java/lang/IndexOutOfBoundsException"] : List String) ∧ ∃ (R9 : va_W), (PI (kc 98) (kc 0) (c 99) (st 13) cap num none R9) ∧ (∀ y m, pgM (kc 0) R y m → pgM (kc 0) R9 y m) ∧ (va_D A (cw_W c kc st lg ai al R9)) ∧ va_P (dC, dI) vwCl (cw_W c kc st lg ai al R9) t.heap) A) ([.ref (c 100), .int p0, .int p1] : List Value).toArray s 2 12 A) (F0 m 0 ls []) := by
    intro H locs hP hS
    refine lv_aload_n hx hb dX8_byteOf_0 rfl (lv_at hl 0 rfl) ?_
    refine lv_iload_n hx hb dX8_byteOf_1 rfl (lv_at hl 1 rfl) ?_
    have hFc := vfree ((cw_D hD : va_D A (cw_W c kc st lg ai al R)) : va_D A (cw_W c kc st lg ai al R)) hS hA
    refine vx_callv (vx_runV (As := [.int p0]) (rest := []) ⟨hx, hb, hml, hown, hts⟩ (v_X8_demandPage l hl0 dC dI c kc st lg ai al R p0 _ (show 1 ≤ (st 6).toInt by omega) (show (st 6).toInt ≤ 65536 by omega)) (cwV 1 hts gX8_byteOf_X8_demandPage rfl rfl rfl (by decide +kernel) ⟨Nat.le_of_ble_eq_true rfl, Nat.le_of_ble_eq_true rfl⟩) ⟨fun a U g mk q => by obtain ⟨q0, q1, qP, qK, qD, qG⟩ := q; exact ⟨q0, q1, qP, va_K.moved (u := U) (U := U.calling g mk a) (Vm.Alike.refl U.vm) qK, qD, qG.same rfl rfl⟩, va_recv hK hP (ci := 10) (q := (RX8, TX8, 10)) rfl (q0 := 0) rfl, fun U hU hW => ⟨rfl, by rw [hU], by rw [hU]; exact hP, va_K.moved hW.alike hK, ((cw_D hD : va_D A (cw_W c kc st lg ai al R))).weaken (fun _ _ _ _ => trivial), hG.go hW hU hS hFc⟩⟩ rfl rfl hl.1 rfl (lv_room (Nat.le_of_ble_eq_true rfl)) dX8_byteOf_2 ⟨Nat.le_of_ble_eq_true rfl, Nat.le_of_ble_eq_true rfl⟩) hS (fun q _ h => hFc q h) hFc (fun q _ h => hFc q h) (fun E9 ce q9 u t H1 locs ht hvm hp hE hz hk hS hcell hv hcl => ?_) (fun ur_1 t H1 locs ht hvm er_1 hB hz1 hk1 hS => ?_)
    · skip
      obtain ⟨hE, hP1⟩ := hE
      rw [ht] at hP1
      have hP : va_P (dC, dI) vwCl (cw_W c kc st lg ai al R) H1 := hP1
      exact vx_out (fun x h => (hno x h).elim) hlocks hcell hv hcl (fun t ht hW => ⟨(), trivial, ⟨(show ∀ x ∈ (["java/lang/IndexOutOfBoundsException"] : List String), x ∈ (["java/lang/IllegalStateException", "java/lang/IndexOutOfBoundsException"] : List String) by decide +kernel) _ hE, R, hPI, hmono, (cw_D hD), by rw [ht]; exact hP⟩, hS.F ht⟩) hS.2.2 (Nat.le_of_ble_eq_true rfl) (Nat.le_of_ble_eq_true rfl)
    · skip
      obtain ⟨k_2, k_3, hP1⟩ := hB
      rw [ht] at hP1
      clear hFc hz1 hk1 hvm hP
      subst ht
      have hP := hP1
      clear hP1
      generalize t.heap = H at hP hS ⊢
      have hP : va_P (dC, dI) vwCl (cw_W c kc st lg ai al R) H := hP
      have k_3 : p0.toInt < (st 6).toInt := k_3
      refine lv_iload_n hx hb dX8_byteOf_5 rfl (lv_at hl 2 rfl) ?_
      refine lv_if_lt (tgt := 15) hx hb dX8_byteOf_6 (by decide) (fun c_4 => ?_) (fun c_4 => ?_)
      · skip
        have ic_4 := iv_lt c_4
        obtain ⟨sa, hstr⟩ := hGW.2.1 ("BlockLog", 231, "i is not 0 .. 15") (by decide +kernel)
        exact vx_throwS (names := ["java/lang/RuntimeException", "java/lang/Exception"]) hx hb hl0 hown (by decide +kernel) (by decide +kernel) (hts (.classLink RX8 91 "java/lang/IndexOutOfBoundsException") (by decide +kernel)) (hts (.initialized "java/lang/IndexOutOfBoundsException") (by decide +kernel)) hstr (vx_hat (B := gx_bad "java/lang/IndexOutOfBoundsException") (fun w h => hts w (List.mem_cons_of_mem _ (List.mem_append_left _ (List.mem_append_right _ h)))) (by decide +kernel) (hGW.bad (by decide))) (by decide +kernel) hG.2.1 hG.2.2.1 hS (hl.1.trans hml.symm) dX8_byteOf_15 dX8_byteOf_18 dX8_byteOf_19 dX8_byteOf_21 dX8_byteOf_24 (fun x h => (hno x h).elim) (Nat.le_of_ble_eq_true rfl) (Nat.le_of_ble_eq_true rfl) (Nat.le_of_ble_eq_true rfl) (Nat.le_of_ble_eq_true rfl) hlocks (fun t _ h1 h2 => ⟨(), trivial, ⟨(by decide +kernel), R, hPI, hmono, (cw_D hD), hP.kept (fun k q hk => h2 _ (hP k q hk).lt)⟩, Nat.le_trans hS.1 h1, fun q hq hn => (h2 q (Nat.lt_of_lt_of_le hq hS.1)).trans (hS.2.1 q hq hn)⟩) hS.2.2 (Nat.le_of_ble_eq_true rfl) (Nat.le_of_ble_eq_true rfl)
      · skip
        have ic_4 := iv_nlt c_4
        refine lv_iload_n hx hb dX8_byteOf_9 rfl (lv_at hl 2 rfl) ?_
        refine lv_bipush (v := 16) hx hb dX8_byteOf_10 (by decide) ?_
        refine lv_icmp_lt (tgt := 25) hx hb dX8_byteOf_12 (by decide) (fun c_5 => ?_) (fun c_5 => ?_)
        · skip
          have ic_5 := iv_lt c_5
          refine lv_aload_n hx hb dX8_byteOf_25 rfl (lv_at hl 0 rfl) ?_
          have hFc := vfree ((cw_D hD : va_D A (cw_W c kc st lg ai al R)) : va_D A (cw_W c kc st lg ai al R)) hS hA
          refine vx_callv (vx_runV (As := []) (rest := []) ⟨hx, hb, hml, hown, hts⟩ (v_X8_demandPower l hl0 dC dI c kc st lg ai al R  _ (show 0 ≤ (st 9).toInt by omega) (show (st 9).toInt ≤ 1 by omega)) (cwV 0 hts gX8_byteOf_X8_demandPower rfl rfl rfl (by decide +kernel) ⟨Nat.le_of_ble_eq_true rfl, Nat.le_of_ble_eq_true rfl⟩) ⟨fun a U g mk q => by obtain ⟨q0, q1, qP, qK, qD, qG⟩ := q; exact ⟨q0, q1, qP, va_K.moved (u := U) (U := U.calling g mk a) (Vm.Alike.refl U.vm) qK, qD, qG.same rfl rfl⟩, va_recv hK hP (ci := 10) (q := (RX8, TX8, 10)) rfl (q0 := 0) rfl, fun U hU hW => ⟨rfl, by rw [hU], by rw [hU]; exact hP, va_K.moved hW.alike hK, ((cw_D hD : va_D A (cw_W c kc st lg ai al R))).weaken (fun _ _ _ _ => trivial), hG.go hW hU hS hFc⟩⟩ rfl rfl hl.1 rfl (lv_room (Nat.le_of_ble_eq_true rfl)) dX8_byteOf_26 ⟨Nat.le_of_ble_eq_true rfl, Nat.le_of_ble_eq_true rfl⟩) hS (fun q _ h => hFc q h) hFc (fun q _ h => hFc q h) (fun E9 ce q9 u t H1 locs ht hvm hp hE hz hk hS hcell hv hcl => ?_) (fun ur_6 t H1 locs ht hvm er_6 hB hz1 hk1 hS => ?_)
          · skip
            obtain ⟨hE, hP1⟩ := hE
            rw [ht] at hP1
            have hP : va_P (dC, dI) vwCl (cw_W c kc st lg ai al R) H1 := hP1
            exact vx_out (fun x h => (hno x h).elim) hlocks hcell hv hcl (fun t ht hW => ⟨(), trivial, ⟨(show ∀ x ∈ (["java/lang/IllegalStateException"] : List String), x ∈ (["java/lang/IllegalStateException", "java/lang/IndexOutOfBoundsException"] : List String) by decide +kernel) _ hE, R, hPI, hmono, (cw_D hD), by rw [ht]; exact hP⟩, hS.F ht⟩) hS.2.2 (Nat.le_of_ble_eq_true rfl) (Nat.le_of_ble_eq_true rfl)
          · skip
            have hP1 : va_P (dC, dI) vwCl (cw_W c kc st lg ai al R) t.heap := hB
            rw [ht] at hP1
            clear hFc hz1 hk1 hvm hP
            subst ht
            have hP := hP1
            clear hP1
            generalize t.heap = H at hP hS ⊢
            have hP : va_P (dC, dI) vwCl (cw_W c kc st lg ai al R) H := hP
            refine lv_aload_n hx hb dX8_byteOf_29 rfl (lv_at hl 0 rfl) ?_
            refine va_get (D := (dC, dI)) (ci := 10) (v := .ref (c 102)) (C := RX8) (T := TX8) (N := 10) hx hb hts hin_X8 hown hK hP 0 rfl rfl 1 (by decide) (hts (.fieldLink RX8 22 "BlockLog" "disk" "LBlockLog$Disk;") (by decide +kernel)) (fun _ h9 => h9) rfl dX8_byteOf_30 ?_
            refine lv_iload_n hx hb dX8_byteOf_33 rfl (lv_at hl 1 rfl) ?_
            have hFc := vfree ((cw_D hD : va_D A (cw_W c kc st lg ai al R)) : va_D A (cw_W c kc st lg ai al R)) hS hA
            refine va_callq (va_runV (As := [.int p0]) (rest := []) ⟨hx, hb, hml, hown, hts⟩ (v_X1_rightPage l dC dI c kc st lg ai al R cap num p0 _ hPI (show 0 ≤ (st 13).toInt by omega) (show (st 13).toInt ≤ 65536 by omega)) (cwV 1 hts gX8_byteOf_X1_rightPage rfl rfl rfl (by decide +kernel) ⟨Nat.le_of_ble_eq_true rfl, Nat.le_of_ble_eq_true rfl⟩) ⟨fun a U g mk q => by obtain ⟨q0, q1, qP, qK, qD, qG⟩ := q; exact ⟨q0, q1, qP, va_K.moved (u := U) (U := U.calling g mk a) (Vm.Alike.refl U.vm) qK, qD, qG.same rfl rfl⟩, va_recv hK hP (ci := 3) (q := (RX1, TX1, 7)) rfl (q0 := 2) rfl, fun U hU hW => ⟨rfl, by rw [hU], by rw [hU]; exact hP, va_K.moved hW.alike hK, ((cw_D hD : va_D A (cw_W c kc st lg ai al R))).weaken (fun _ _ _ _ => trivial), hG.go hW hU hS hFc⟩⟩ rfl rfl hl.1 rfl (lv_room (Nat.le_of_ble_eq_true rfl)) dX8_byteOf_34 ⟨Nat.le_of_ble_eq_true rfl, Nat.le_of_ble_eq_true rfl⟩) hS (fun q _ h => hFc q h) hFc (fun r_7 ur_7 t H1 locs ht hvm er_7 hB hz1 hk1 hS => ?_)
            subst er_7
            obtain ⟨R_7, hq, hPI, hmo, hD1, hP1⟩ := hB
            rw [ht] at hP1
            clear hz1 hk1 hvm hP
            subst ht
            have hP := hP1
            clear hP1
            generalize t.heap = H at hP hS ⊢
            have hP : va_P (dC, dI) vwCl (cw_W c kc st lg ai al R_7) H := hP
            have hD : va_D A (cw_W c kc st lg ai al R_7) := cw_D (hD1.weaken (fun _ _ _ h => hFc _ h))
            have hPI : PI (kc 98) (kc 0) (c 99) (st 13) cap num none R_7 := hPI
            clear hFc hD1
            have hmono : ∀ y m, pgM (kc 0) R y m → pgM (kc 0) R_7 y m := fun y m h => hmo y m (hmono y m h)
            have hq : ∀ x, r_7 = some x → ∃ m, pgM (kc 0) R_7 x m ∧ True := hq
            rcases r_7 with _ | x_8
            · skip
              refine W.eq (g2 := F0 m 37 ls [.null]) rfl ?_
              refine lv_astore_nN (lv' := [(3, .null), (0, .ref (c 100)), (1, .int p0), (2, .int p1)]) hx hb dX8_byteOf_37 rfl hl (by decide) rfl (fun ls hl => ?_)
              refine lv_aload_nN hx hb dX8_byteOf_38 rfl (lv_at hl 0 rfl) ?_
              refine lv_ifnullN (tgt := 50) hx hb dX8_byteOf_39 (by decide) ?_
              refine lv_iconst (v := (-1)) hx hb dX8_byteOf_50 (by decide) ?_
              refine lv_goto (tgt := 66) hx hb dX8_byteOf_51 (by decide) ?_
              refine W.widen (k := 2) (n := 12) (Nat.le_of_ble_eq_true rfl) (Nat.le_of_ble_eq_true rfl) ?_
              refine vx_ret ?_
              exact W.iret hx hb hr (fun t ht hW => ⟨⟨_, _, rfl, rfl, R_7, hPI, hmono, (cw_D hD), by rw [ht]; exact hP⟩, hS.F ht⟩) hS.2.2 dX8_byteOf_66
            · skip
              refine W.eq (g2 := F0 m 37 ls [.ref x_8]) rfl ?_
              obtain ⟨m_9, hM_x_8, hQ⟩ := hq x_8 rfl
              refine lv_astore_n (lv' := [(3, .ref x_8), (0, .ref (c 100)), (1, .int p0), (2, .int p1)]) hx hb dX8_byteOf_37 rfl hl (by decide) rfl (fun ls hl => ?_)
              refine lv_aload_n hx hb dX8_byteOf_38 rfl (lv_at hl 0 rfl) ?_
              refine lv_ifnull hx hb dX8_byteOf_39 ?_
              refine lv_iload_n hx hb dX8_byteOf_42 rfl (lv_at hl 3 rfl) ?_
              refine lv_aload_n hx hb dX8_byteOf_43 rfl (lv_at hl 0 rfl) ?_
              have hMo := hM_x_8
              obtain ⟨b_10, k9_10, f9_10, ⟨j_10, hj_10⟩, i_10, hi_10⟩ := hMo
              refine vp_callSi (va_Run.run (va_runV (As := []) (rest := [.int p1]) ⟨hx, hb, hml, hown, hts⟩ (v_X2_size l dC dI c kc st lg ai al R_7 x_8 b_10 j_10 i_10 m_9 k9_10 f9_10  hj_10 hi_10 ) (cwV 0 hts gX8_byteOf_X2_size rfl rfl rfl (by decide +kernel) ⟨Nat.le_of_ble_eq_true rfl, Nat.le_of_ble_eq_true rfl⟩) ⟨fun a U g mk q => by obtain ⟨q0, qP, qK⟩ := q; exact ⟨q0, qP, va_K.moved (u := U) (U := U.calling g mk a) (Vm.Alike.refl U.vm) qK⟩, va_recv hK hP (ci := 4) (q := (RX2, TX2, 3)) rfl (q0 := 26 + j_10) (cw_at hj_10), fun U hU hW => ⟨rfl, by rw [hU]; exact hP, va_K.moved hW.alike hK⟩⟩ rfl rfl hl.1 rfl (lv_room (Nat.le_of_ble_eq_true rfl)) dX8_byteOf_44 ⟨Nat.le_of_ble_eq_true rfl, Nat.le_of_ble_eq_true rfl⟩)) (fun r_11 er_11 => ?_)
              have hz := er_11
              have hz : r_11 = f9_10 0 := hz
              refine lv_icmp_lt (tgt := 54) hx hb dX8_byteOf_47 (by decide) (fun c_12 => ?_) (fun c_12 => ?_)
              · skip
                have ic_12 := iv_lt c_12
                refine lv_aload_n hx hb dX8_byteOf_54 rfl (lv_at hl 0 rfl) ?_
                refine va_getN (D := (dC, dI)) (ci := 4) (v := .ref b_10) (C := RX2) (T := TX2) (N := 3) hx hb hts hin_X2 hown hK hP (26 + j_10) (cw_at hj_10) rfl 1 (by decide) (va_Nw.use rfl (hGW.1 ("BlockLog", 236, "BlockLog$Page", "bytes", "[B", "BlockLog") (by decide +kernel))) (fun _ h9 => h9) rfl dX8_byteOf_55 ?_
                refine lv_iconst (v := 1) hx hb dX8_byteOf_58 (by decide) ?_
                refine lv_iload_n hx hb dX8_byteOf_59 rfl (lv_at hl 3 rfl) ?_
                refine lv_iadd hx hb dX8_byteOf_60 ?_
                refine lv_topi (fun v_13 ev_13 => ?_)
                have rg1 := iv_rng p1
                have hv_13 : v_13.toInt = 1 + p1.toInt := by rw [ev_13]; exact (iv_add (by omega) (by omega)).trans (by omega)
                clear ev_13
                refine va_bald (f := f9_10) hx hb hK hP (26 + i_10) 0 (cw_at hi_10) rfl (iv_in (i := v_13) (by omega) (by omega)) dX8_byteOf_61 ?_
                refine lv_topi (fun v_14 ev_14 => ?_)
                clear ev_14
                refine lv_sipush (v := 255) hx hb dX8_byteOf_62 (by decide) ?_
                refine lv_iand hx hb dX8_byteOf_65 ?_
                refine lv_topi (fun v_15 ev_15 => ?_)
                have hv_15 : 0 ≤ v_15.toInt ∧ v_15.toInt ≤ 255 := by rw [ev_15]; exact iv_and255 _
                clear ev_15
                refine W.widen (k := 2) (n := 12) (Nat.le_of_ble_eq_true rfl) (Nat.le_of_ble_eq_true rfl) ?_
                refine vx_ret ?_
                exact W.iret hx hb hr (fun t ht hW => ⟨⟨_, _, rfl, rfl, R_7, hPI, hmono, (cw_D hD), by rw [ht]; exact hP⟩, hS.F ht⟩) hS.2.2 dX8_byteOf_66
              · skip
                have ic_12 := iv_nlt c_12
                refine lv_iconst (v := (-1)) hx hb dX8_byteOf_50 (by decide) ?_
                refine lv_goto (tgt := 66) hx hb dX8_byteOf_51 (by decide) ?_
                refine W.widen (k := 2) (n := 12) (Nat.le_of_ble_eq_true rfl) (Nat.le_of_ble_eq_true rfl) ?_
                refine vx_ret ?_
                exact W.iret hx hb hr (fun t ht hW => ⟨⟨_, _, rfl, rfl, R_7, hPI, hmono, (cw_D hD), by rw [ht]; exact hP⟩, hS.F ht⟩) hS.2.2 dX8_byteOf_66
        · skip
          have ic_5 := iv_nlt c_5
          obtain ⟨sa, hstr⟩ := hGW.2.1 ("BlockLog", 231, "i is not 0 .. 15") (by decide +kernel)
          exact vx_throwS (names := ["java/lang/RuntimeException", "java/lang/Exception"]) hx hb hl0 hown (by decide +kernel) (by decide +kernel) (hts (.classLink RX8 91 "java/lang/IndexOutOfBoundsException") (by decide +kernel)) (hts (.initialized "java/lang/IndexOutOfBoundsException") (by decide +kernel)) hstr (vx_hat (B := gx_bad "java/lang/IndexOutOfBoundsException") (fun w h => hts w (List.mem_cons_of_mem _ (List.mem_append_left _ (List.mem_append_right _ h)))) (by decide +kernel) (hGW.bad (by decide))) (by decide +kernel) hG.2.1 hG.2.2.1 hS (hl.1.trans hml.symm) dX8_byteOf_15 dX8_byteOf_18 dX8_byteOf_19 dX8_byteOf_21 dX8_byteOf_24 (fun x h => (hno x h).elim) (Nat.le_of_ble_eq_true rfl) (Nat.le_of_ble_eq_true rfl) (Nat.le_of_ble_eq_true rfl) (Nat.le_of_ble_eq_true rfl) hlocks (fun t _ h1 h2 => ⟨(), trivial, ⟨(by decide +kernel), R, hPI, hmono, (cw_D hD), hP.kept (fun k q hk => h2 _ (hP k q hk).lt)⟩, Nat.le_trans hS.1 h1, fun q hq hn => (h2 q (Nat.lt_of_lt_of_le hq hS.1)).trans (hS.2.1 q hq hn)⟩) hS.2.2 (Nat.le_of_ble_eq_true rfl) (Nat.le_of_ble_eq_true rfl)
  exact main s.heap [] hP hS

set_option maxHeartbeats 4000000 in
set_option maxRecDepth 100000 in
theorem v_X8_change (l : Launch) (hl0 : l.stackTraces = false) (dC : Nat → ClassId) (dI : Nat → Nat → Nat) (c : Nat → Nat) (kc : Nat → ClassId) (st : Nat → Int32) (lg : Nat → Int64) (ai : Nat → Nat → Int32) (al : Nat → Nat → Int64) (R : va_W) (cap : Nat) (num : Nat → Int32) (p0 : Int32) (p1 : Int32) (sz : Nat) (hPI : PI (kc 98) (kc 0) (c 99) (st 13) cap num none R) (hf3a : 0 ≤ (st 3).toInt) (hf3b : (st 3).toInt ≤ 8) (hf6a : 1 ≤ (st 6).toInt) (hf6b : (st 6).toInt ≤ 65536) (hf9a : 0 ≤ (st 9).toInt) (hf9b : (st 9).toInt ≤ 1) (hf13a : 0 ≤ (st 13).toInt) (hf13b : (st 13).toInt ≤ 65536) : vx_Met l yX8_change wsX8_change ({ frames := 7, cells := 2, slots := 12, locals := 133 }) (va_Pc [.ref (c 100), .int p0, .int p1] (fun U => U.heap.size = sz ∧ va_P (dC, dI) vwCl (cw_W c kc st lg ai al R) U.heap ∧ va_K (dC, dI) vwCl (cw_T kc) U ∧ va_D (fun _ => True) (cw_W c kc st lg ai al R) ∧ gx_E (va_A (cw_W c kc st lg ai al R) sz) U)) (va_Qi (fun r (u : Int32) => r = u) (fun u t => ∃ (x3 : Int32) (f1 : Nat → Int32) (g2 : Nat → Int64) (R9 : va_W), (0 ≤ x3.toInt) ∧ (x3.toInt ≤ 8) ∧ (PI (kc 98) (kc 0) (c 99) (st 13) cap num none R9) ∧ (∀ y m, pgM (kc 0) R y m → pgM (kc 0) R9 y m) ∧ (va_D (va_A (cw_W c kc st lg ai al R) sz) (cw_W c kc (rU st 3 x3) lg (rU ai 1 f1) (rU al 2 g2) R9)) ∧ va_P (dC, dI) vwCl (cw_W c kc (rU st 3 x3) lg (rU ai 1 f1) (rU al 2 g2) R9) t.heap) (va_A (cw_W c kc st lg ai al R) sz)) (vx_X (fun _ : Unit => True) (fun E _ t => E ∈ (["java/lang/IllegalArgumentException", "java/lang/IllegalStateException"] : List String) ∧ ∃ (x3 : Int32) (f1 : Nat → Int32) (g2 : Nat → Int64) (R9 : va_W), (0 ≤ x3.toInt) ∧ (x3.toInt ≤ 8) ∧ (PI (kc 98) (kc 0) (c 99) (st 13) cap num none R9) ∧ (∀ y m, pgM (kc 0) R y m → pgM (kc 0) R9 y m) ∧ (va_D (va_A (cw_W c kc st lg ai al R) sz) (cw_W c kc (rU st 3 x3) lg (rU ai 1 f1) (rU al 2 g2) R9)) ∧ va_P (dC, dI) vwCl (cw_W c kc (rU st 3 x3) lg (rU ai 1 f1) (rU al 2 g2) R9) t.heap) (va_A (cw_W c kc st lg ai al R) sz)) 2 12 (va_A (cw_W c kc st lg ai al R) sz) := by
  refine vx_ofW (cc := cX8_change) (maxL := 6) (ret := (some .int)) (by decide) rfl ?_
  intro p e s m args below meth cM s₁ B hml hno hv
  obtain ⟨rfl, hsz, hP, hK, hD0, hG⟩ := hv
  have hx := B.exec
  have hb := B.bytes
  have hr := B.returns
  have hts := atoms_spec (ws := wsX8_change) B.pre
  have hown : s.vm.findClass RX8 = some m.cls := findClass_of_methodNamed B.named
  have hGW := hG.1
  have hlocks := B.notSynchronized
  subst hsz
  have hD := hD0.self (sz := s.heap.size)
  generalize hAe : va_A (cw_W c kc st lg ai al R) s.heap.size = A at hD hG ⊢
  have hA : ∀ q : Nat, s.heap.size ≤ q → A q := fun q h => by rw [← hAe]; exact Or.inr h
  have hS : va_S A s.heap s.heap [] := va_S.rf
  clear hAe hD0
  have hl := lv_entry ([.ref (c 100), .int p0, .int p1]) (n := 6) (Nat.le_of_ble_eq_true rfl)
  rw [lg_entry_eq]
  generalize (lg_sl ([.ref (c 100), .int p0, .int p1]) ++ List.replicate (6 - (lg_sl ([.ref (c 100), .int p0, .int p1])).length) Slot.unset).toArray = ls at hl ⊢
  have hl : lv_has ls 6 [(0, .ref (c 100)), (1, .int p0), (2, .int p1)] := hl
  have z_m6 : (-6 : Int32).toInt = -6 := by decide
  have z_m2 : (-2 : Int32).toInt = -2 := by decide
  have z_m1 : (-1 : Int32).toInt = -1 := by decide
  have z_0 : (0 : Int32).toInt = 0 := by decide
  have z_1 : (1 : Int32).toInt = 1 := by decide
  have z_8 : (8 : Int32).toInt = 8 := by decide
  have z_16 : (16 : Int32).toInt = 16 := by decide
  have hin_X1 : ∀ w ∈ u_ws RX1 TX1 7, w ∈ wsX8_change := by decide +kernel
  have hin_X8 : ∀ w ∈ u_ws RX8 TX8 10, w ∈ wsX8_change := by decide +kernel
  have hmono : ∀ y m, pgM (kc 0) R y m → pgM (kc 0) R y m := fun y m h => h
  have main : ∀ (H : Heap) (locs : List Loc), va_P (dC, dI) vwCl (cw_W c kc st lg ai al R) H → va_S A s.heap H locs → W p l e (headSpec wsX8_change ({ frames := 7, cells := 2, slots := 12, locals := 133 })).room s m ([.ref (c 100), .int p0, .int p1] : List Value).toArray below meth cM H locs 0 0 (vx_MQ below (va_Qi (fun r (u : Int32) => r = u) (fun u t => ∃ (x3 : Int32) (f1 : Nat → Int32) (g2 : Nat → Int64) (R9 : va_W), (0 ≤ x3.toInt) ∧ (x3.toInt ≤ 8) ∧ (PI (kc 98) (kc 0) (c 99) (st 13) cap num none R9) ∧ (∀ y m, pgM (kc 0) R y m → pgM (kc 0) R9 y m) ∧ (va_D A (cw_W c kc (rU st 3 x3) lg (rU ai 1 f1) (rU al 2 g2) R9)) ∧ va_P (dC, dI) vwCl (cw_W c kc (rU st 3 x3) lg (rU ai 1 f1) (rU al 2 g2) R9) t.heap) A) (vx_X (fun _ : Unit => True) (fun E _ t => E ∈ (["java/lang/IllegalArgumentException", "java/lang/IllegalStateException"] : List String) ∧ ∃ (x3 : Int32) (f1 : Nat → Int32) (g2 : Nat → Int64) (R9 : va_W), (0 ≤ x3.toInt) ∧ (x3.toInt ≤ 8) ∧ (PI (kc 98) (kc 0) (c 99) (st 13) cap num none R9) ∧ (∀ y m, pgM (kc 0) R y m → pgM (kc 0) R9 y m) ∧ (va_D A (cw_W c kc (rU st 3 x3) lg (rU ai 1 f1) (rU al 2 g2) R9)) ∧ va_P (dC, dI) vwCl (cw_W c kc (rU st 3 x3) lg (rU ai 1 f1) (rU al 2 g2) R9) t.heap) A) ([.ref (c 100), .int p0, .int p1] : List Value).toArray s 2 12 A) (F0 m 0 ls []) := by
    intro H locs hP hS
    refine lv_aload_n hx hb dX8_change_0 rfl (lv_at hl 0 rfl) ?_
    have hFc := vfree ((cw_D hD : va_D A (cw_W c kc st lg ai al R)) : va_D A (cw_W c kc st lg ai al R)) hS hA
    refine vx_callv (vx_runV (As := []) (rest := []) ⟨hx, hb, hml, hown, hts⟩ (v_X8_demandPower l hl0 dC dI c kc st lg ai al R  _ (show 0 ≤ (st 9).toInt by omega) (show (st 9).toInt ≤ 1 by omega)) (cwV 0 hts gX8_change_X8_demandPower rfl rfl rfl (by decide +kernel) ⟨Nat.le_of_ble_eq_true rfl, Nat.le_of_ble_eq_true rfl⟩) ⟨fun a U g mk q => by obtain ⟨q0, q1, qP, qK, qD, qG⟩ := q; exact ⟨q0, q1, qP, va_K.moved (u := U) (U := U.calling g mk a) (Vm.Alike.refl U.vm) qK, qD, qG.same rfl rfl⟩, va_recv hK hP (ci := 10) (q := (RX8, TX8, 10)) rfl (q0 := 0) rfl, fun U hU hW => ⟨rfl, by rw [hU], by rw [hU]; exact hP, va_K.moved hW.alike hK, ((cw_D hD : va_D A (cw_W c kc st lg ai al R))).weaken (fun _ _ _ _ => trivial), hG.go hW hU hS hFc⟩⟩ rfl rfl hl.1 rfl (lv_room (Nat.le_of_ble_eq_true rfl)) dX8_change_1 ⟨Nat.le_of_ble_eq_true rfl, Nat.le_of_ble_eq_true rfl⟩) hS (fun q _ h => hFc q h) hFc (fun q _ h => hFc q h) (fun E9 ce q9 u t H1 locs ht hvm hp hE hz hk hS hcell hv hcl => ?_) (fun ur_1 t H1 locs ht hvm er_1 hB hz1 hk1 hS => ?_)
    · skip
      obtain ⟨hE, hP1⟩ := hE
      rw [ht] at hP1
      have hP : va_P (dC, dI) vwCl (cw_W c kc st lg ai al R) H1 := hP1
      exact vx_out (fun x h => (hno x h).elim) hlocks hcell hv hcl (fun t ht hW => ⟨(), trivial, ⟨(show ∀ x ∈ (["java/lang/IllegalStateException"] : List String), x ∈ (["java/lang/IllegalArgumentException", "java/lang/IllegalStateException"] : List String) by decide +kernel) _ hE, st 3, ai 1, al 2, R, (by omega), (by omega), hPI, hmono, (cw_D hD), by rw [ht]; exact hP⟩, hS.F ht⟩) hS.2.2 (Nat.le_of_ble_eq_true rfl) (Nat.le_of_ble_eq_true rfl)
    · skip
      have hP1 : va_P (dC, dI) vwCl (cw_W c kc st lg ai al R) t.heap := hB
      rw [ht] at hP1
      clear hFc hz1 hk1 hvm hP
      subst ht
      have hP := hP1
      clear hP1
      generalize t.heap = H at hP hS ⊢
      have hP : va_P (dC, dI) vwCl (cw_W c kc st lg ai al R) H := hP
      refine lv_iload_n hx hb dX8_change_4 rfl (lv_at hl 1 rfl) ?_
      refine lv_if_lt (tgt := 14) hx hb dX8_change_5 (by decide) (fun c_2 => ?_) (fun c_2 => ?_)
      · skip
        have ic_2 := iv_lt c_2
        obtain ⟨sa, hstr⟩ := hGW.2.1 ("BlockLog", 116, "no such slot") (by decide +kernel)
        exact vx_throwS (names := ["java/lang/RuntimeException", "java/lang/Exception"]) hx hb hl0 hown (by decide +kernel) (by decide +kernel) (hts (.classLink RX8 76 "java/lang/IllegalArgumentException") (by decide +kernel)) (hts (.initialized "java/lang/IllegalArgumentException") (by decide +kernel)) hstr (vx_hat (B := gx_bad "java/lang/IllegalArgumentException") (fun w h => hts w (List.mem_cons_of_mem _ (List.mem_append_left _ (List.mem_append_right _ h)))) (by decide +kernel) (hGW.bad (by decide))) (by decide +kernel) hG.2.1 hG.2.2.1 hS (hl.1.trans hml.symm) dX8_change_14 dX8_change_17 dX8_change_18 dX8_change_20 dX8_change_23 (fun x h => (hno x h).elim) (Nat.le_of_ble_eq_true rfl) (Nat.le_of_ble_eq_true rfl) (Nat.le_of_ble_eq_true rfl) (Nat.le_of_ble_eq_true rfl) hlocks (fun t _ h1 h2 => ⟨(), trivial, ⟨(by decide +kernel), st 3, ai 1, al 2, R, (by omega), (by omega), hPI, hmono, (cw_D hD), hP.kept (fun k q hk => h2 _ (hP k q hk).lt)⟩, Nat.le_trans hS.1 h1, fun q hq hn => (h2 q (Nat.lt_of_lt_of_le hq hS.1)).trans (hS.2.1 q hq hn)⟩) hS.2.2 (Nat.le_of_ble_eq_true rfl) (Nat.le_of_ble_eq_true rfl)
      · skip
        have ic_2 := iv_nlt c_2
        refine lv_iload_n hx hb dX8_change_8 rfl (lv_at hl 1 rfl) ?_
        refine lv_bipush (v := 16) hx hb dX8_change_9 (by decide) ?_
        refine lv_icmp_lt (tgt := 24) hx hb dX8_change_11 (by decide) (fun c_3 => ?_) (fun c_3 => ?_)
        · skip
          have ic_3 := iv_lt c_3
          refine lv_iload_n hx hb dX8_change_24 rfl (lv_at hl 2 rfl) ?_
          refine lv_iconst (v := (-1)) hx hb dX8_change_25 (by decide) ?_
          refine lv_icmp_eq (tgt := 54) hx hb dX8_change_26 (by decide) (fun c_4 => ?_) (fun c_4 => ?_)
          · skip
            have ic_4 := iv_eq c_4
            refine lv_lconst (v := 0) hx hb dX8_change_54 (by decide) ?_
            refine lv_lstore_n (lv' := [(3, .long (0 : Int64)), (0, .ref (c 100)), (1, .int p0), (2, .int p1)]) hx hb dX8_change_55 rfl hl (by decide) rfl (fun ls hl => ?_)
            refine lv_iload_n hx hb dX8_change_56 rfl (lv_at hl 3 rfl) ?_
            refine lv_iconst (v := (-1)) hx hb dX8_change_57 (by decide) ?_
            refine lv_icmp_eq (tgt := 85) hx hb dX8_change_58 (by decide) (fun c_5 => ?_) (fun c_5 => ?_)
            · skip
              have ic_5 := iv_eq c_5
              refine lv_aload_n hx hb dX8_change_85 rfl (lv_at hl 1 rfl) ?_
              refine va_get (D := (dC, dI)) (ci := 10) (v := .int (st 3)) (C := RX8) (T := TX8) (N := 10) hx hb hts hin_X8 hown hK hP 0 rfl rfl 9 (by decide) (hts (.fieldLink RX8 72 "BlockLog" "collected" "I") (by decide +kernel)) (fun _ h9 => h9) rfl dX8_change_86 ?_
              refine lv_bipush (v := 8) hx hb dX8_change_89 (by decide) ?_
              refine lv_icmp_lt (tgt := 97) hx hb dX8_change_91 (by decide) (fun c_6 => ?_) (fun c_6 => ?_)
              · skip
                have ic_6 := iv_lt c_6
                refine lv_aload_n hx hb dX8_change_97 rfl (lv_at hl 1 rfl) ?_
                refine va_get (D := (dC, dI)) (ci := 10) (v := .ref (c 1)) (C := RX8) (T := TX8) (N := 10) hx hb hts hin_X8 hown hK hP 0 rfl rfl 7 (by decide) (hts (.fieldLink RX8 64 "BlockLog" "collectedSlots" "[I") (by decide +kernel)) (fun _ h9 => h9) rfl dX8_change_98 ?_
                refine lv_aload_n hx hb dX8_change_101 rfl (lv_at hl 1 rfl) ?_
                refine va_get (D := (dC, dI)) (ci := 10) (v := .int (st 3)) (C := RX8) (T := TX8) (N := 10) hx hb hts hin_X8 hown hK hP 0 rfl rfl 9 (by decide) (hts (.fieldLink RX8 72 "BlockLog" "collected" "I") (by decide +kernel)) (fun _ h9 => h9) rfl dX8_change_102 ?_
                refine lv_iload_n hx hb dX8_change_105 rfl (lv_at hl 2 rfl) ?_
                refine va_iast (f := ai 1) hx hb hK hP (cw_D hD) hS 9 1 rfl rfl (iv_in (i := st 3) (by omega) (by omega)) dX8_change_106 (fun H locs hP _ hS => ?_)
                have hP : va_P (dC, dI) vwCl (cw_W c kc st lg (rU ai 1 (upd (ai 1) (st 3).toNatClampNeg p0)) al R) H := cw_a1 hP
                generalize hU_log_collectedSlots : upd (ai 1) (st 3).toNatClampNeg p0 = g_7 at hP
                clear hU_log_collectedSlots
                refine lv_aload_n hx hb dX8_change_107 rfl (lv_at hl 1 rfl) ?_
                refine va_get (D := (dC, dI)) (ci := 10) (v := .ref (c 2)) (C := RX8) (T := TX8) (N := 10) hx hb hts hin_X8 hown hK hP 0 rfl rfl 8 (by decide) (hts (.fieldLink RX8 68 "BlockLog" "collectedLeaves" "[J") (by decide +kernel)) (fun _ h9 => h9) rfl dX8_change_108 ?_
                refine lv_aload_n hx hb dX8_change_111 rfl (lv_at hl 1 rfl) ?_
                refine va_get (D := (dC, dI)) (ci := 10) (v := .int (st 3)) (C := RX8) (T := TX8) (N := 10) hx hb hts hin_X8 hown hK hP 0 rfl rfl 9 (by decide) (hts (.fieldLink RX8 72 "BlockLog" "collected" "I") (by decide +kernel)) (fun _ h9 => h9) rfl dX8_change_112 ?_
                refine lv_lload_n hx hb dX8_change_115 rfl (lv_at hl 0 rfl) ?_
                refine va_last (f := al 2) hx hb hK hP (cw_D hD) hS 10 2 rfl rfl (iv_in (i := st 3) (by omega) (by omega)) dX8_change_116 (fun H locs hP _ hS => ?_)
                have hP : va_P (dC, dI) vwCl (cw_W c kc st lg (rU ai 1 g_7) (rU al 2 (vp_updL (al 2) (st 3).toNatClampNeg (0 : Int64))) R) H := cw_a2 hP
                generalize hU_log_collectedLeaves : vp_updL (al 2) (st 3).toNatClampNeg (0 : Int64) = g_8 at hP
                clear hU_log_collectedLeaves
                refine lv_aload_n hx hb dX8_change_117 rfl (lv_at hl 1 rfl) ?_
                refine lv_dup hx hb dX8_change_118 rfl ?_
                refine va_get (D := (dC, dI)) (ci := 10) (v := .int (st 3)) (C := RX8) (T := TX8) (N := 10) hx hb hts hin_X8 hown hK hP 0 rfl rfl 9 (by decide) (hts (.fieldLink RX8 72 "BlockLog" "collected" "I") (by decide +kernel)) (fun _ h9 => h9) rfl dX8_change_119 ?_
                refine lv_iconst (v := 1) hx hb dX8_change_122 (by decide) ?_
                refine lv_iadd hx hb dX8_change_123 ?_
                refine lv_topi (fun v_9 ev_9 => ?_)
                have rg1 := iv_rng (st 3)
                have hv_9 : v_9.toInt = (st 3).toInt + 1 := by rw [ev_9]; exact (iv_add (by omega) (by omega)).trans (by omega)
                clear ev_9
                refine va_put (D := (dC, dI)) (ci := 10) (v := .int v_9) (ty := .int) (C := RX8) (T := TX8) (N := 10) hx hb hts hin_X8 tyX8 tyX8_ok nmX8 hown hK hP (cw_D hD) hS 0 rfl rfl 9 (by decide) (hts (.fieldLink RX8 72 "BlockLog" "collected" "I") (by decide +kernel)) (fun _ h9 => h9) rfl (by decide +kernel) rfl rfl (Nat.le_of_ble_eq_true rfl) dX8_change_124 (fun H locs hP _ hS => ?_)
                have hP : va_P (dC, dI) vwCl (cw_W c kc (rU st 3 v_9) lg (rU ai 1 g_7) (rU al 2 g_8) R) H := hP
                refine lv_aload_n hx hb dX8_change_127 rfl (lv_at hl 1 rfl) ?_
                refine va_get (D := (dC, dI)) (ci := 10) (v := .int v_9) (C := RX8) (T := TX8) (N := 10) hx hb hts hin_X8 hown hK hP 0 rfl rfl 9 (by decide) (hts (.fieldLink RX8 72 "BlockLog" "collected" "I") (by decide +kernel)) (fun _ h9 => h9) rfl dX8_change_128 ?_
                refine W.widen (k := 2) (n := 12) (Nat.le_of_ble_eq_true rfl) (Nat.le_of_ble_eq_true rfl) ?_
                refine vx_ret ?_
                exact W.iret hx hb hr (fun t ht hW => ⟨⟨_, _, rfl, rfl, v_9, g_7, g_8, R, (by omega), (by omega), hPI, hmono, (cw_D hD), by rw [ht]; exact hP⟩, hS.F ht⟩) hS.2.2 dX8_change_131
              · skip
                have ic_6 := iv_nlt c_6
                refine lv_bipush (v := (-2)) hx hb dX8_change_94 (by decide) ?_
                refine W.widen (k := 2) (n := 12) (Nat.le_of_ble_eq_true rfl) (Nat.le_of_ble_eq_true rfl) ?_
                refine vx_ret ?_
                exact W.iret hx hb hr (fun t ht hW => ⟨⟨_, _, rfl, rfl, st 3, ai 1, al 2, R, (by omega), (by omega), hPI, hmono, (cw_D hD), by rw [ht]; exact hP⟩, hS.F ht⟩) hS.2.2 dX8_change_96
            · skip
              have ic_5 := iv_ne c_5
              exfalso
              omega
          · skip
            have ic_4 := iv_ne c_4
            refine lv_iload_n hx hb dX8_change_29 rfl (lv_at hl 2 rfl) ?_
            refine lv_if_lt (tgt := 44) hx hb dX8_change_30 (by decide) (fun c_10 => ?_) (fun c_10 => ?_)
            · skip
              have ic_10 := iv_lt c_10
              obtain ⟨sa, hstr⟩ := hGW.2.1 ("BlockLog", 121, "no such page") (by decide +kernel)
              exact vx_throwS (names := ["java/lang/RuntimeException", "java/lang/Exception"]) hx hb hl0 hown (by decide +kernel) (by decide +kernel) (hts (.classLink RX8 76 "java/lang/IllegalArgumentException") (by decide +kernel)) (hts (.initialized "java/lang/IllegalArgumentException") (by decide +kernel)) hstr (vx_hat (B := gx_bad "java/lang/IllegalArgumentException") (fun w h => hts w (List.mem_cons_of_mem _ (List.mem_append_left _ (List.mem_append_right _ h)))) (by decide +kernel) (hGW.bad (by decide))) (by decide +kernel) hG.2.1 hG.2.2.1 hS (hl.1.trans hml.symm) dX8_change_44 dX8_change_47 dX8_change_48 dX8_change_50 dX8_change_53 (fun x h => (hno x h).elim) (Nat.le_of_ble_eq_true rfl) (Nat.le_of_ble_eq_true rfl) (Nat.le_of_ble_eq_true rfl) (Nat.le_of_ble_eq_true rfl) hlocks (fun t _ h1 h2 => ⟨(), trivial, ⟨(by decide +kernel), st 3, ai 1, al 2, R, (by omega), (by omega), hPI, hmono, (cw_D hD), hP.kept (fun k q hk => h2 _ (hP k q hk).lt)⟩, Nat.le_trans hS.1 h1, fun q hq hn => (h2 q (Nat.lt_of_lt_of_le hq hS.1)).trans (hS.2.1 q hq hn)⟩) hS.2.2 (Nat.le_of_ble_eq_true rfl) (Nat.le_of_ble_eq_true rfl)
            · skip
              have ic_10 := iv_nlt c_10
              refine lv_iload_n hx hb dX8_change_33 rfl (lv_at hl 2 rfl) ?_
              refine lv_aload_n hx hb dX8_change_34 rfl (lv_at hl 0 rfl) ?_
              refine va_get (D := (dC, dI)) (ci := 10) (v := .ref (c 102)) (C := RX8) (T := TX8) (N := 10) hx hb hts hin_X8 hown hK hP 0 rfl rfl 1 (by decide) (hts (.fieldLink RX8 22 "BlockLog" "disk" "LBlockLog$Disk;") (by decide +kernel)) (fun _ h9 => h9) rfl dX8_change_35 ?_
              refine va_getN (D := (dC, dI)) (ci := 3) (v := .int (st 6)) (C := RX1) (T := TX1) (N := 7) hx hb hts hin_X1 hown hK hP 2 rfl rfl 0 (by decide) (va_Nw.use rfl (hGW.1 ("BlockLog", 118, "BlockLog$Disk", "pageCount", "I", "BlockLog") (by decide +kernel))) (fun _ h9 => h9) rfl dX8_change_38 ?_
              refine lv_icmp_lt (tgt := 54) hx hb dX8_change_41 (by decide) (fun c_11 => ?_) (fun c_11 => ?_)
              · skip
                have ic_11 := iv_lt c_11
                refine lv_lconst (v := 0) hx hb dX8_change_54 (by decide) ?_
                refine lv_lstore_n (lv' := [(3, .long (0 : Int64)), (0, .ref (c 100)), (1, .int p0), (2, .int p1)]) hx hb dX8_change_55 rfl hl (by decide) rfl (fun ls hl => ?_)
                refine lv_iload_n hx hb dX8_change_56 rfl (lv_at hl 3 rfl) ?_
                refine lv_iconst (v := (-1)) hx hb dX8_change_57 (by decide) ?_
                refine lv_icmp_eq (tgt := 85) hx hb dX8_change_58 (by decide) (fun c_12 => ?_) (fun c_12 => ?_)
                · skip
                  have ic_12 := iv_eq c_12
                  exfalso
                  omega
                · skip
                  have ic_12 := iv_ne c_12
                  refine lv_aload_n hx hb dX8_change_61 rfl (lv_at hl 1 rfl) ?_
                  refine va_get (D := (dC, dI)) (ci := 10) (v := .ref (c 102)) (C := RX8) (T := TX8) (N := 10) hx hb hts hin_X8 hown hK hP 0 rfl rfl 1 (by decide) (hts (.fieldLink RX8 22 "BlockLog" "disk" "LBlockLog$Disk;") (by decide +kernel)) (fun _ h9 => h9) rfl dX8_change_62 ?_
                  refine lv_iload_n hx hb dX8_change_65 rfl (lv_at hl 3 rfl) ?_
                  have hFc := vfree ((cw_D hD : va_D A (cw_W c kc st lg ai al R)) : va_D A (cw_W c kc st lg ai al R)) hS hA
                  refine va_callq (va_runV (As := [.int p1]) (rest := []) ⟨hx, hb, hml, hown, hts⟩ (v_X1_rightPage l dC dI c kc st lg ai al R cap num p1 _ hPI (show 0 ≤ (st 13).toInt by omega) (show (st 13).toInt ≤ 65536 by omega)) (cwV 1 hts gX8_change_X1_rightPage rfl rfl rfl (by decide +kernel) ⟨Nat.le_of_ble_eq_true rfl, Nat.le_of_ble_eq_true rfl⟩) ⟨fun a U g mk q => by obtain ⟨q0, q1, qP, qK, qD, qG⟩ := q; exact ⟨q0, q1, qP, va_K.moved (u := U) (U := U.calling g mk a) (Vm.Alike.refl U.vm) qK, qD, qG.same rfl rfl⟩, va_recv hK hP (ci := 3) (q := (RX1, TX1, 7)) rfl (q0 := 2) rfl, fun U hU hW => ⟨rfl, by rw [hU], by rw [hU]; exact hP, va_K.moved hW.alike hK, ((cw_D hD : va_D A (cw_W c kc st lg ai al R))).weaken (fun _ _ _ _ => trivial), hG.go hW hU hS hFc⟩⟩ rfl rfl hl.1 rfl (lv_room (Nat.le_of_ble_eq_true rfl)) dX8_change_66 ⟨Nat.le_of_ble_eq_true rfl, Nat.le_of_ble_eq_true rfl⟩) hS (fun q _ h => hFc q h) hFc (fun r_13 ur_13 t H1 locs ht hvm er_13 hB hz1 hk1 hS => ?_)
                  subst er_13
                  obtain ⟨R_13, hq, hPI, hmo, hD1, hP1⟩ := hB
                  rw [ht] at hP1
                  clear hz1 hk1 hvm hP
                  subst ht
                  have hP := hP1
                  clear hP1
                  generalize t.heap = H at hP hS ⊢
                  have hP : va_P (dC, dI) vwCl (cw_W c kc st lg ai al R_13) H := hP
                  have hD : va_D A (cw_W c kc st lg ai al R_13) := cw_D (hD1.weaken (fun _ _ _ h => hFc _ h))
                  have hPI : PI (kc 98) (kc 0) (c 99) (st 13) cap num none R_13 := hPI
                  clear hFc hD1
                  have hmono : ∀ y m, pgM (kc 0) R y m → pgM (kc 0) R_13 y m := fun y m h => hmo y m (hmono y m h)
                  have hq : ∀ x, r_13 = some x → ∃ m, pgM (kc 0) R_13 x m ∧ True := hq
                  rcases r_13 with _ | x_14
                  · skip
                    refine W.eq (g2 := F0 m 69 ls [.null]) rfl ?_
                    refine lv_astoreN (lv' := [(5, .null), (3, .long (0 : Int64)), (0, .ref (c 100)), (1, .int p0), (2, .int p1)]) hx hb dX8_change_69 hl (by decide) rfl (fun ls hl => ?_)
                    refine lv_aloadN hx hb dX8_change_71 (lv_at hl 0 rfl) ?_
                    refine lv_ifnonnullN hx hb dX8_change_73 ?_
                    refine lv_bipush (v := (-6)) hx hb dX8_change_76 (by decide) ?_
                    refine W.widen (k := 2) (n := 12) (Nat.le_of_ble_eq_true rfl) (Nat.le_of_ble_eq_true rfl) ?_
                    refine vx_ret ?_
                    exact W.iret hx hb hr (fun t ht hW => ⟨⟨_, _, rfl, rfl, st 3, ai 1, al 2, R_13, (by omega), (by omega), hPI, hmono, (cw_D hD), by rw [ht]; exact hP⟩, hS.F ht⟩) hS.2.2 dX8_change_78
                  · skip
                    refine W.eq (g2 := F0 m 69 ls [.ref x_14]) rfl ?_
                    obtain ⟨m_15, hM_x_14, hQ⟩ := hq x_14 rfl
                    refine lv_astore (lv' := [(5, .ref x_14), (3, .long (0 : Int64)), (0, .ref (c 100)), (1, .int p0), (2, .int p1)]) hx hb dX8_change_69 hl (by decide) rfl (fun ls hl => ?_)
                    refine lv_aload hx hb dX8_change_71 (lv_at hl 0 rfl) ?_
                    refine lv_ifnonnull (tgt := 79) hx hb dX8_change_73 (by decide) ?_
                    refine lv_aload hx hb dX8_change_79 (lv_at hl 0 rfl) ?_
                    have hMo := hM_x_14
                    obtain ⟨b_16, k9_16, f9_16, ⟨j_16, hj_16⟩, i_16, hi_16⟩ := hMo
                    refine vp_callSl (va_Run.run (va_runV (As := []) (rest := []) ⟨hx, hb, hml, hown, hts⟩ (v_X2_sum l dC dI c kc st lg ai al R_13 x_14 b_16 j_16 i_16 m_15 k9_16 f9_16  hj_16 hi_16 ) (cwV 0 hts gX8_change_X2_sum rfl rfl rfl (by decide +kernel) ⟨Nat.le_of_ble_eq_true rfl, Nat.le_of_ble_eq_true rfl⟩) ⟨fun a U g mk q => by obtain ⟨q0, qP, qK⟩ := q; exact ⟨q0, qP, va_K.moved (u := U) (U := U.calling g mk a) (Vm.Alike.refl U.vm) qK⟩, va_recv hK hP (ci := 4) (q := (RX2, TX2, 3)) rfl (q0 := 26 + j_16) (cw_at hj_16), fun U hU hW => ⟨rfl, by rw [hU]; exact hP, va_K.moved hW.alike hK⟩⟩ rfl rfl hl.1 rfl (lv_room (Nat.le_of_ble_eq_true rfl)) dX8_change_81 ⟨Nat.le_of_ble_eq_true rfl, Nat.le_of_ble_eq_true rfl⟩)) (fun r_17 er_17 => ?_)
                    refine lv_lstore_n (lv' := [(3, .long r_17), (5, .ref x_14), (0, .ref (c 100)), (1, .int p0), (2, .int p1)]) hx hb dX8_change_84 rfl hl (by decide) rfl (fun ls hl => ?_)
                    refine lv_aload_n hx hb dX8_change_85 rfl (lv_at hl 2 rfl) ?_
                    refine va_get (D := (dC, dI)) (ci := 10) (v := .int (st 3)) (C := RX8) (T := TX8) (N := 10) hx hb hts hin_X8 hown hK hP 0 rfl rfl 9 (by decide) (hts (.fieldLink RX8 72 "BlockLog" "collected" "I") (by decide +kernel)) (fun _ h9 => h9) rfl dX8_change_86 ?_
                    refine lv_bipush (v := 8) hx hb dX8_change_89 (by decide) ?_
                    refine lv_icmp_lt (tgt := 97) hx hb dX8_change_91 (by decide) (fun c_18 => ?_) (fun c_18 => ?_)
                    · skip
                      have ic_18 := iv_lt c_18
                      refine lv_aload_n hx hb dX8_change_97 rfl (lv_at hl 2 rfl) ?_
                      refine va_get (D := (dC, dI)) (ci := 10) (v := .ref (c 1)) (C := RX8) (T := TX8) (N := 10) hx hb hts hin_X8 hown hK hP 0 rfl rfl 7 (by decide) (hts (.fieldLink RX8 64 "BlockLog" "collectedSlots" "[I") (by decide +kernel)) (fun _ h9 => h9) rfl dX8_change_98 ?_
                      refine lv_aload_n hx hb dX8_change_101 rfl (lv_at hl 2 rfl) ?_
                      refine va_get (D := (dC, dI)) (ci := 10) (v := .int (st 3)) (C := RX8) (T := TX8) (N := 10) hx hb hts hin_X8 hown hK hP 0 rfl rfl 9 (by decide) (hts (.fieldLink RX8 72 "BlockLog" "collected" "I") (by decide +kernel)) (fun _ h9 => h9) rfl dX8_change_102 ?_
                      refine lv_iload_n hx hb dX8_change_105 rfl (lv_at hl 3 rfl) ?_
                      refine va_iast (f := ai 1) hx hb hK hP (cw_D hD) hS 9 1 rfl rfl (iv_in (i := st 3) (by omega) (by omega)) dX8_change_106 (fun H locs hP _ hS => ?_)
                      have hP : va_P (dC, dI) vwCl (cw_W c kc st lg (rU ai 1 (upd (ai 1) (st 3).toNatClampNeg p0)) al R_13) H := cw_a1 hP
                      generalize hU_log_collectedSlots : upd (ai 1) (st 3).toNatClampNeg p0 = g_19 at hP
                      clear hU_log_collectedSlots
                      refine lv_aload_n hx hb dX8_change_107 rfl (lv_at hl 2 rfl) ?_
                      refine va_get (D := (dC, dI)) (ci := 10) (v := .ref (c 2)) (C := RX8) (T := TX8) (N := 10) hx hb hts hin_X8 hown hK hP 0 rfl rfl 8 (by decide) (hts (.fieldLink RX8 68 "BlockLog" "collectedLeaves" "[J") (by decide +kernel)) (fun _ h9 => h9) rfl dX8_change_108 ?_
                      refine lv_aload_n hx hb dX8_change_111 rfl (lv_at hl 2 rfl) ?_
                      refine va_get (D := (dC, dI)) (ci := 10) (v := .int (st 3)) (C := RX8) (T := TX8) (N := 10) hx hb hts hin_X8 hown hK hP 0 rfl rfl 9 (by decide) (hts (.fieldLink RX8 72 "BlockLog" "collected" "I") (by decide +kernel)) (fun _ h9 => h9) rfl dX8_change_112 ?_
                      refine lv_lload_n hx hb dX8_change_115 rfl (lv_at hl 0 rfl) ?_
                      refine va_last (f := al 2) hx hb hK hP (cw_D hD) hS 10 2 rfl rfl (iv_in (i := st 3) (by omega) (by omega)) dX8_change_116 (fun H locs hP _ hS => ?_)
                      have hP : va_P (dC, dI) vwCl (cw_W c kc st lg (rU ai 1 g_19) (rU al 2 (vp_updL (al 2) (st 3).toNatClampNeg r_17)) R_13) H := cw_a2 hP
                      generalize hU_log_collectedLeaves : vp_updL (al 2) (st 3).toNatClampNeg r_17 = g_20 at hP
                      clear hU_log_collectedLeaves
                      refine lv_aload_n hx hb dX8_change_117 rfl (lv_at hl 2 rfl) ?_
                      refine lv_dup hx hb dX8_change_118 rfl ?_
                      refine va_get (D := (dC, dI)) (ci := 10) (v := .int (st 3)) (C := RX8) (T := TX8) (N := 10) hx hb hts hin_X8 hown hK hP 0 rfl rfl 9 (by decide) (hts (.fieldLink RX8 72 "BlockLog" "collected" "I") (by decide +kernel)) (fun _ h9 => h9) rfl dX8_change_119 ?_
                      refine lv_iconst (v := 1) hx hb dX8_change_122 (by decide) ?_
                      refine lv_iadd hx hb dX8_change_123 ?_
                      refine lv_topi (fun v_21 ev_21 => ?_)
                      have rg2 := iv_rng (st 3)
                      have hv_21 : v_21.toInt = (st 3).toInt + 1 := by rw [ev_21]; exact (iv_add (by omega) (by omega)).trans (by omega)
                      clear ev_21
                      refine va_put (D := (dC, dI)) (ci := 10) (v := .int v_21) (ty := .int) (C := RX8) (T := TX8) (N := 10) hx hb hts hin_X8 tyX8 tyX8_ok nmX8 hown hK hP (cw_D hD) hS 0 rfl rfl 9 (by decide) (hts (.fieldLink RX8 72 "BlockLog" "collected" "I") (by decide +kernel)) (fun _ h9 => h9) rfl (by decide +kernel) rfl rfl (Nat.le_of_ble_eq_true rfl) dX8_change_124 (fun H locs hP _ hS => ?_)
                      have hP : va_P (dC, dI) vwCl (cw_W c kc (rU st 3 v_21) lg (rU ai 1 g_19) (rU al 2 g_20) R_13) H := hP
                      refine lv_aload_n hx hb dX8_change_127 rfl (lv_at hl 2 rfl) ?_
                      refine va_get (D := (dC, dI)) (ci := 10) (v := .int v_21) (C := RX8) (T := TX8) (N := 10) hx hb hts hin_X8 hown hK hP 0 rfl rfl 9 (by decide) (hts (.fieldLink RX8 72 "BlockLog" "collected" "I") (by decide +kernel)) (fun _ h9 => h9) rfl dX8_change_128 ?_
                      refine W.widen (k := 2) (n := 12) (Nat.le_of_ble_eq_true rfl) (Nat.le_of_ble_eq_true rfl) ?_
                      refine vx_ret ?_
                      exact W.iret hx hb hr (fun t ht hW => ⟨⟨_, _, rfl, rfl, v_21, g_19, g_20, R_13, (by omega), (by omega), hPI, hmono, (cw_D hD), by rw [ht]; exact hP⟩, hS.F ht⟩) hS.2.2 dX8_change_131
                    · skip
                      have ic_18 := iv_nlt c_18
                      refine lv_bipush (v := (-2)) hx hb dX8_change_94 (by decide) ?_
                      refine W.widen (k := 2) (n := 12) (Nat.le_of_ble_eq_true rfl) (Nat.le_of_ble_eq_true rfl) ?_
                      refine vx_ret ?_
                      exact W.iret hx hb hr (fun t ht hW => ⟨⟨_, _, rfl, rfl, st 3, ai 1, al 2, R_13, (by omega), (by omega), hPI, hmono, (cw_D hD), by rw [ht]; exact hP⟩, hS.F ht⟩) hS.2.2 dX8_change_96
              · skip
                have ic_11 := iv_nlt c_11
                obtain ⟨sa, hstr⟩ := hGW.2.1 ("BlockLog", 121, "no such page") (by decide +kernel)
                exact vx_throwS (names := ["java/lang/RuntimeException", "java/lang/Exception"]) hx hb hl0 hown (by decide +kernel) (by decide +kernel) (hts (.classLink RX8 76 "java/lang/IllegalArgumentException") (by decide +kernel)) (hts (.initialized "java/lang/IllegalArgumentException") (by decide +kernel)) hstr (vx_hat (B := gx_bad "java/lang/IllegalArgumentException") (fun w h => hts w (List.mem_cons_of_mem _ (List.mem_append_left _ (List.mem_append_right _ h)))) (by decide +kernel) (hGW.bad (by decide))) (by decide +kernel) hG.2.1 hG.2.2.1 hS (hl.1.trans hml.symm) dX8_change_44 dX8_change_47 dX8_change_48 dX8_change_50 dX8_change_53 (fun x h => (hno x h).elim) (Nat.le_of_ble_eq_true rfl) (Nat.le_of_ble_eq_true rfl) (Nat.le_of_ble_eq_true rfl) (Nat.le_of_ble_eq_true rfl) hlocks (fun t _ h1 h2 => ⟨(), trivial, ⟨(by decide +kernel), st 3, ai 1, al 2, R, (by omega), (by omega), hPI, hmono, (cw_D hD), hP.kept (fun k q hk => h2 _ (hP k q hk).lt)⟩, Nat.le_trans hS.1 h1, fun q hq hn => (h2 q (Nat.lt_of_lt_of_le hq hS.1)).trans (hS.2.1 q hq hn)⟩) hS.2.2 (Nat.le_of_ble_eq_true rfl) (Nat.le_of_ble_eq_true rfl)
        · skip
          have ic_3 := iv_nlt c_3
          obtain ⟨sa, hstr⟩ := hGW.2.1 ("BlockLog", 116, "no such slot") (by decide +kernel)
          exact vx_throwS (names := ["java/lang/RuntimeException", "java/lang/Exception"]) hx hb hl0 hown (by decide +kernel) (by decide +kernel) (hts (.classLink RX8 76 "java/lang/IllegalArgumentException") (by decide +kernel)) (hts (.initialized "java/lang/IllegalArgumentException") (by decide +kernel)) hstr (vx_hat (B := gx_bad "java/lang/IllegalArgumentException") (fun w h => hts w (List.mem_cons_of_mem _ (List.mem_append_left _ (List.mem_append_right _ h)))) (by decide +kernel) (hGW.bad (by decide))) (by decide +kernel) hG.2.1 hG.2.2.1 hS (hl.1.trans hml.symm) dX8_change_14 dX8_change_17 dX8_change_18 dX8_change_20 dX8_change_23 (fun x h => (hno x h).elim) (Nat.le_of_ble_eq_true rfl) (Nat.le_of_ble_eq_true rfl) (Nat.le_of_ble_eq_true rfl) (Nat.le_of_ble_eq_true rfl) hlocks (fun t _ h1 h2 => ⟨(), trivial, ⟨(by decide +kernel), st 3, ai 1, al 2, R, (by omega), (by omega), hPI, hmono, (cw_D hD), hP.kept (fun k q hk => h2 _ (hP k q hk).lt)⟩, Nat.le_trans hS.1 h1, fun q hq hn => (h2 q (Nat.lt_of_lt_of_le hq hS.1)).trans (hS.2.1 q hq hn)⟩) hS.2.2 (Nat.le_of_ble_eq_true rfl) (Nat.le_of_ble_eq_true rfl)
  exact main s.heap [] hP hS

set_option maxHeartbeats 4000000 in
set_option maxRecDepth 100000 in
theorem v_X8_named (l : Launch) (hl0 : l.stackTraces = false) (dC : Nat → ClassId) (dI : Nat → Nat → Nat) (c : Nat → Nat) (kc : Nat → ClassId) (st : Nat → Int32) (lg : Nat → Int64) (ai : Nat → Nat → Int32) (al : Nat → Nat → Int64) (R : va_W) (cap : Nat) (num : Nat → Int32) (p0 : Int32) (sz : Nat) (hPI : PI (kc 98) (kc 0) (c 99) (st 13) cap num none R) (hf6a : 1 ≤ (st 6).toInt) (hf6b : (st 6).toInt ≤ 65536) (hf9a : 0 ≤ (st 9).toInt) (hf9b : (st 9).toInt ≤ 1) (hf13a : 0 ≤ (st 13).toInt) (hf13b : (st 13).toInt ≤ 65536) (hf15a : 0 ≤ (st 15).toInt) (hf15b : (st 15).toInt ≤ 1) (hf25a : 0 ≤ (st 25).toInt) (hf25b : (st 25).toInt ≤ 128) (hf26a : 0 ≤ (st 26).toInt) (hf26b : (st 26).toInt ≤ 128) (hf28a : 0 ≤ (st 28).toInt) (hf28b : (st 28).toInt ≤ 1) (hR23 : aR (ai 23) 128 (0) 127) : vx_Met l yX8_named wsX8_named ({ frames := 7, cells := 2, slots := 12, locals := 133 }) (va_Pc [.ref (c 100), .int p0] (fun U => U.heap.size = sz ∧ va_P (dC, dI) vwCl (cw_W c kc st lg ai al R) U.heap ∧ va_K (dC, dI) vwCl (cw_T kc) U ∧ va_D (fun _ => True) (cw_W c kc st lg ai al R) ∧ gx_E (va_A (cw_W c kc st lg ai al R) sz) U)) (va_Qi (fun r (u : Int32) => r = u) (fun u t => ∃ (g24 : Nat → Int64) (R9 : va_W), (0 ≤ u.toInt) ∧ (u.toInt ≤ 1) ∧ (PI (kc 98) (kc 0) (c 99) (st 13) cap num none R9) ∧ (∀ y m, pgM (kc 0) R y m → pgM (kc 0) R9 y m) ∧ (va_D (va_A (cw_W c kc st lg ai al R) sz) (cw_W c kc st lg ai (rU al 24 g24) R9)) ∧ va_P (dC, dI) vwCl (cw_W c kc st lg ai (rU al 24 g24) R9) t.heap) (va_A (cw_W c kc st lg ai al R) sz)) (vx_X (fun _ : Unit => True) (fun E _ t => E ∈ (["java/lang/IllegalStateException", "java/lang/IndexOutOfBoundsException"] : List String) ∧ ∃ (g24 : Nat → Int64) (R9 : va_W), (PI (kc 98) (kc 0) (c 99) (st 13) cap num none R9) ∧ (∀ y m, pgM (kc 0) R y m → pgM (kc 0) R9 y m) ∧ (va_D (va_A (cw_W c kc st lg ai al R) sz) (cw_W c kc st lg ai (rU al 24 g24) R9)) ∧ va_P (dC, dI) vwCl (cw_W c kc st lg ai (rU al 24 g24) R9) t.heap) (va_A (cw_W c kc st lg ai al R) sz)) 2 12 (va_A (cw_W c kc st lg ai al R) sz) := by
  refine vx_ofW (cc := cX8_named) (maxL := 3) (ret := (some .boolean)) (by decide) rfl ?_
  intro p e s m args below meth cM s₁ B hml hno hv
  obtain ⟨rfl, hsz, hP, hK, hD0, hG⟩ := hv
  have hx := B.exec
  have hb := B.bytes
  have hr := B.returns
  have hts := atoms_spec (ws := wsX8_named) B.pre
  have hown : s.vm.findClass RX8 = some m.cls := findClass_of_methodNamed B.named
  have hGW := hG.1
  have hlocks := B.notSynchronized
  subst hsz
  have hD := hD0.self (sz := s.heap.size)
  generalize hAe : va_A (cw_W c kc st lg ai al R) s.heap.size = A at hD hG ⊢
  have hA : ∀ q : Nat, s.heap.size ≤ q → A q := fun q h => by rw [← hAe]; exact Or.inr h
  have hS : va_S A s.heap s.heap [] := va_S.rf
  clear hAe hD0
  have hl := lv_entry ([.ref (c 100), .int p0]) (n := 3) (Nat.le_of_ble_eq_true rfl)
  rw [lg_entry_eq]
  generalize (lg_sl ([.ref (c 100), .int p0]) ++ List.replicate (3 - (lg_sl ([.ref (c 100), .int p0])).length) Slot.unset).toArray = ls at hl ⊢
  have hl : lv_has ls 3 [(0, .ref (c 100)), (1, .int p0)] := hl
  have z_0 : (0 : Int32).toInt = 0 := by decide
  have z_1 : (1 : Int32).toInt = 1 := by decide
  have hin_X8 : ∀ w ∈ u_ws RX8 TX8 10, w ∈ wsX8_named := by decide +kernel
  have hmono : ∀ y m, pgM (kc 0) R y m → pgM (kc 0) R y m := fun y m h => h
  have main : ∀ (H : Heap) (locs : List Loc), va_P (dC, dI) vwCl (cw_W c kc st lg ai al R) H → va_S A s.heap H locs → W p l e (headSpec wsX8_named ({ frames := 7, cells := 2, slots := 12, locals := 133 })).room s m ([.ref (c 100), .int p0] : List Value).toArray below meth cM H locs 0 0 (vx_MQ below (va_Qi (fun r (u : Int32) => r = u) (fun u t => ∃ (g24 : Nat → Int64) (R9 : va_W), (0 ≤ u.toInt) ∧ (u.toInt ≤ 1) ∧ (PI (kc 98) (kc 0) (c 99) (st 13) cap num none R9) ∧ (∀ y m, pgM (kc 0) R y m → pgM (kc 0) R9 y m) ∧ (va_D A (cw_W c kc st lg ai (rU al 24 g24) R9)) ∧ va_P (dC, dI) vwCl (cw_W c kc st lg ai (rU al 24 g24) R9) t.heap) A) (vx_X (fun _ : Unit => True) (fun E _ t => E ∈ (["java/lang/IllegalStateException", "java/lang/IndexOutOfBoundsException"] : List String) ∧ ∃ (g24 : Nat → Int64) (R9 : va_W), (PI (kc 98) (kc 0) (c 99) (st 13) cap num none R9) ∧ (∀ y m, pgM (kc 0) R y m → pgM (kc 0) R9 y m) ∧ (va_D A (cw_W c kc st lg ai (rU al 24 g24) R9)) ∧ va_P (dC, dI) vwCl (cw_W c kc st lg ai (rU al 24 g24) R9) t.heap) A) ([.ref (c 100), .int p0] : List Value).toArray s 2 12 A) (F0 m 0 ls []) := by
    intro H locs hP hS
    refine lv_aload_n hx hb dX8_named_0 rfl (lv_at hl 0 rfl) ?_
    refine lv_iload_n hx hb dX8_named_1 rfl (lv_at hl 1 rfl) ?_
    have hFc := vfree ((cw_D hD : va_D A (cw_W c kc st lg ai al R)) : va_D A (cw_W c kc st lg ai al R)) hS hA
    refine vx_callv (vx_runV (As := [.int p0]) (rest := []) ⟨hx, hb, hml, hown, hts⟩ (v_X8_demandPage l hl0 dC dI c kc st lg ai al R p0 _ (show 1 ≤ (st 6).toInt by omega) (show (st 6).toInt ≤ 65536 by omega)) (cwV 1 hts gX8_named_X8_demandPage rfl rfl rfl (by decide +kernel) ⟨Nat.le_of_ble_eq_true rfl, Nat.le_of_ble_eq_true rfl⟩) ⟨fun a U g mk q => by obtain ⟨q0, q1, qP, qK, qD, qG⟩ := q; exact ⟨q0, q1, qP, va_K.moved (u := U) (U := U.calling g mk a) (Vm.Alike.refl U.vm) qK, qD, qG.same rfl rfl⟩, va_recv hK hP (ci := 10) (q := (RX8, TX8, 10)) rfl (q0 := 0) rfl, fun U hU hW => ⟨rfl, by rw [hU], by rw [hU]; exact hP, va_K.moved hW.alike hK, ((cw_D hD : va_D A (cw_W c kc st lg ai al R))).weaken (fun _ _ _ _ => trivial), hG.go hW hU hS hFc⟩⟩ rfl rfl hl.1 rfl (lv_room (Nat.le_of_ble_eq_true rfl)) dX8_named_2 ⟨Nat.le_of_ble_eq_true rfl, Nat.le_of_ble_eq_true rfl⟩) hS (fun q _ h => hFc q h) hFc (fun q _ h => hFc q h) (fun E9 ce q9 u t H1 locs ht hvm hp hE hz hk hS hcell hv hcl => ?_) (fun ur_1 t H1 locs ht hvm er_1 hB hz1 hk1 hS => ?_)
    · skip
      obtain ⟨hE, hP1⟩ := hE
      rw [ht] at hP1
      have hP : va_P (dC, dI) vwCl (cw_W c kc st lg ai al R) H1 := hP1
      exact vx_out (fun x h => (hno x h).elim) hlocks hcell hv hcl (fun t ht hW => ⟨(), trivial, ⟨(show ∀ x ∈ (["java/lang/IndexOutOfBoundsException"] : List String), x ∈ (["java/lang/IllegalStateException", "java/lang/IndexOutOfBoundsException"] : List String) by decide +kernel) _ hE, al 24, R, hPI, hmono, (cw_D hD), by rw [ht]; exact hP⟩, hS.F ht⟩) hS.2.2 (Nat.le_of_ble_eq_true rfl) (Nat.le_of_ble_eq_true rfl)
    · skip
      obtain ⟨k_2, k_3, hP1⟩ := hB
      rw [ht] at hP1
      clear hFc hz1 hk1 hvm hP
      subst ht
      have hP := hP1
      clear hP1
      generalize t.heap = H at hP hS ⊢
      have hP : va_P (dC, dI) vwCl (cw_W c kc st lg ai al R) H := hP
      have k_3 : p0.toInt < (st 6).toInt := k_3
      refine lv_aload_n hx hb dX8_named_5 rfl (lv_at hl 0 rfl) ?_
      have hFc := vfree ((cw_D hD : va_D A (cw_W c kc st lg ai al R)) : va_D A (cw_W c kc st lg ai al R)) hS hA
      refine vx_callv (vx_runV (As := []) (rest := []) ⟨hx, hb, hml, hown, hts⟩ (v_X8_demandPower l hl0 dC dI c kc st lg ai al R  _ (show 0 ≤ (st 9).toInt by omega) (show (st 9).toInt ≤ 1 by omega)) (cwV 0 hts gX8_named_X8_demandPower rfl rfl rfl (by decide +kernel) ⟨Nat.le_of_ble_eq_true rfl, Nat.le_of_ble_eq_true rfl⟩) ⟨fun a U g mk q => by obtain ⟨q0, q1, qP, qK, qD, qG⟩ := q; exact ⟨q0, q1, qP, va_K.moved (u := U) (U := U.calling g mk a) (Vm.Alike.refl U.vm) qK, qD, qG.same rfl rfl⟩, va_recv hK hP (ci := 10) (q := (RX8, TX8, 10)) rfl (q0 := 0) rfl, fun U hU hW => ⟨rfl, by rw [hU], by rw [hU]; exact hP, va_K.moved hW.alike hK, ((cw_D hD : va_D A (cw_W c kc st lg ai al R))).weaken (fun _ _ _ _ => trivial), hG.go hW hU hS hFc⟩⟩ rfl rfl hl.1 rfl (lv_room (Nat.le_of_ble_eq_true rfl)) dX8_named_6 ⟨Nat.le_of_ble_eq_true rfl, Nat.le_of_ble_eq_true rfl⟩) hS (fun q _ h => hFc q h) hFc (fun q _ h => hFc q h) (fun E9 ce q9 u t H1 locs ht hvm hp hE hz hk hS hcell hv hcl => ?_) (fun ur_4 t H1 locs ht hvm er_4 hB hz1 hk1 hS => ?_)
      · skip
        obtain ⟨hE, hP1⟩ := hE
        rw [ht] at hP1
        have hP : va_P (dC, dI) vwCl (cw_W c kc st lg ai al R) H1 := hP1
        exact vx_out (fun x h => (hno x h).elim) hlocks hcell hv hcl (fun t ht hW => ⟨(), trivial, ⟨(show ∀ x ∈ (["java/lang/IllegalStateException"] : List String), x ∈ (["java/lang/IllegalStateException", "java/lang/IndexOutOfBoundsException"] : List String) by decide +kernel) _ hE, al 24, R, hPI, hmono, (cw_D hD), by rw [ht]; exact hP⟩, hS.F ht⟩) hS.2.2 (Nat.le_of_ble_eq_true rfl) (Nat.le_of_ble_eq_true rfl)
      · skip
        have hP1 : va_P (dC, dI) vwCl (cw_W c kc st lg ai al R) t.heap := hB
        rw [ht] at hP1
        clear hFc hz1 hk1 hvm hP
        subst ht
        have hP := hP1
        clear hP1
        generalize t.heap = H at hP hS ⊢
        have hP : va_P (dC, dI) vwCl (cw_W c kc st lg ai al R) H := hP
        refine lv_aload_n hx hb dX8_named_9 rfl (lv_at hl 0 rfl) ?_
        refine va_get (D := (dC, dI)) (ci := 10) (v := .ref (c 102)) (C := RX8) (T := TX8) (N := 10) hx hb hts hin_X8 hown hK hP 0 rfl rfl 1 (by decide) (hts (.fieldLink RX8 22 "BlockLog" "disk" "LBlockLog$Disk;") (by decide +kernel)) (fun _ h9 => h9) rfl dX8_named_10 ?_
        refine lv_iload_n hx hb dX8_named_13 rfl (lv_at hl 1 rfl) ?_
        have hFc := vfree ((cw_D hD : va_D A (cw_W c kc st lg ai al R)) : va_D A (cw_W c kc st lg ai al R)) hS hA
        refine va_callq (va_runV (As := [.int p0]) (rest := []) ⟨hx, hb, hml, hown, hts⟩ (v_X1_rightPage l dC dI c kc st lg ai al R cap num p0 _ hPI (show 0 ≤ (st 13).toInt by omega) (show (st 13).toInt ≤ 65536 by omega)) (cwV 1 hts gX8_named_X1_rightPage rfl rfl rfl (by decide +kernel) ⟨Nat.le_of_ble_eq_true rfl, Nat.le_of_ble_eq_true rfl⟩) ⟨fun a U g mk q => by obtain ⟨q0, q1, qP, qK, qD, qG⟩ := q; exact ⟨q0, q1, qP, va_K.moved (u := U) (U := U.calling g mk a) (Vm.Alike.refl U.vm) qK, qD, qG.same rfl rfl⟩, va_recv hK hP (ci := 3) (q := (RX1, TX1, 7)) rfl (q0 := 2) rfl, fun U hU hW => ⟨rfl, by rw [hU], by rw [hU]; exact hP, va_K.moved hW.alike hK, ((cw_D hD : va_D A (cw_W c kc st lg ai al R))).weaken (fun _ _ _ _ => trivial), hG.go hW hU hS hFc⟩⟩ rfl rfl hl.1 rfl (lv_room (Nat.le_of_ble_eq_true rfl)) dX8_named_14 ⟨Nat.le_of_ble_eq_true rfl, Nat.le_of_ble_eq_true rfl⟩) hS (fun q _ h => hFc q h) hFc (fun r_5 ur_5 t H1 locs ht hvm er_5 hB hz1 hk1 hS => ?_)
        subst er_5
        obtain ⟨R_5, hq, hPI, hmo, hD1, hP1⟩ := hB
        rw [ht] at hP1
        clear hz1 hk1 hvm hP
        subst ht
        have hP := hP1
        clear hP1
        generalize t.heap = H at hP hS ⊢
        have hP : va_P (dC, dI) vwCl (cw_W c kc st lg ai al R_5) H := hP
        have hD : va_D A (cw_W c kc st lg ai al R_5) := cw_D (hD1.weaken (fun _ _ _ h => hFc _ h))
        have hPI : PI (kc 98) (kc 0) (c 99) (st 13) cap num none R_5 := hPI
        clear hFc hD1
        have hmono : ∀ y m, pgM (kc 0) R y m → pgM (kc 0) R_5 y m := fun y m h => hmo y m (hmono y m h)
        have hq : ∀ x, r_5 = some x → ∃ m, pgM (kc 0) R_5 x m ∧ True := hq
        rcases r_5 with _ | x_6
        · skip
          refine W.eq (g2 := F0 m 17 ls [.null]) rfl ?_
          refine lv_astore_nN (lv' := [(2, .null), (0, .ref (c 100)), (1, .int p0)]) hx hb dX8_named_17 rfl hl (by decide) rfl (fun ls hl => ?_)
          refine lv_aload_nN hx hb dX8_named_18 rfl (lv_at hl 0 rfl) ?_
          refine lv_ifnullN (tgt := 40) hx hb dX8_named_19 (by decide) ?_
          refine lv_iconst (v := 0) hx hb dX8_named_40 (by decide) ?_
          refine W.widen (k := 2) (n := 12) (Nat.le_of_ble_eq_true rfl) (Nat.le_of_ble_eq_true rfl) ?_
          refine vx_ret ?_
          exact W.zret hx hb hr rfl (fun t ht hW => ⟨⟨_, _, rfl, rfl, al 24, R_5, (by omega), (by omega), hPI, hmono, (cw_D hD), by rw [ht]; exact hP⟩, hS.F ht⟩) hS.2.2 dX8_named_41
        · skip
          refine W.eq (g2 := F0 m 17 ls [.ref x_6]) rfl ?_
          obtain ⟨m_7, hM_x_6, hQ⟩ := hq x_6 rfl
          refine lv_astore_n (lv' := [(2, .ref x_6), (0, .ref (c 100)), (1, .int p0)]) hx hb dX8_named_17 rfl hl (by decide) rfl (fun ls hl => ?_)
          refine lv_aload_n hx hb dX8_named_18 rfl (lv_at hl 0 rfl) ?_
          refine lv_ifnull hx hb dX8_named_19 ?_
          refine lv_aload_n hx hb dX8_named_22 rfl (lv_at hl 1 rfl) ?_
          refine va_get (D := (dC, dI)) (ci := 10) (v := .ref (c 105)) (C := RX8) (T := TX8) (N := 10) hx hb hts hin_X8 hown hK hP 0 rfl rfl 3 (by decide) (hts (.fieldLink RX8 40 "BlockLog" "story" "LBlockLog$Story;") (by decide +kernel)) (fun _ h9 => h9) rfl dX8_named_23 ?_
          refine lv_aload_n hx hb dX8_named_26 rfl (lv_at hl 0 rfl) ?_
          have hMo := hM_x_6
          obtain ⟨b_8, k9_8, f9_8, ⟨j_8, hj_8⟩, i_8, hi_8⟩ := hMo
          refine vp_callSl (va_Run.run (va_runV (As := []) (rest := [.ref (c 105)]) ⟨hx, hb, hml, hown, hts⟩ (v_X2_sum l dC dI c kc st lg ai al R_5 x_6 b_8 j_8 i_8 m_7 k9_8 f9_8  hj_8 hi_8 ) (cwV 0 hts gX8_named_X2_sum rfl rfl rfl (by decide +kernel) ⟨Nat.le_of_ble_eq_true rfl, Nat.le_of_ble_eq_true rfl⟩) ⟨fun a U g mk q => by obtain ⟨q0, qP, qK⟩ := q; exact ⟨q0, qP, va_K.moved (u := U) (U := U.calling g mk a) (Vm.Alike.refl U.vm) qK⟩, va_recv hK hP (ci := 4) (q := (RX2, TX2, 3)) rfl (q0 := 26 + j_8) (cw_at hj_8), fun U hU hW => ⟨rfl, by rw [hU]; exact hP, va_K.moved hW.alike hK⟩⟩ rfl rfl hl.1 rfl (lv_room (Nat.le_of_ble_eq_true rfl)) dX8_named_27 ⟨Nat.le_of_ble_eq_true rfl, Nat.le_of_ble_eq_true rfl⟩)) (fun r_9 er_9 => ?_)
          have hFc := vfree ((cw_D hD : va_D A (cw_W c kc st lg ai al R_5)) : va_D A (cw_W c kc st lg ai al R_5)) hS hA
          refine va_calli (va_runV (As := [.long r_9]) (rest := []) ⟨hx, hb, hml, hown, hts⟩ (v_X6_names l dC dI c kc st lg ai al R_5 r_9 _ (show 0 ≤ (st 15).toInt by omega) (show (st 15).toInt ≤ 1 by omega) (show 0 ≤ (st 25).toInt by omega) (show (st 25).toInt ≤ 128 by omega) (show 0 ≤ (st 26).toInt by omega) (show (st 26).toInt ≤ 128 by omega) (show 0 ≤ (st 28).toInt by omega) (show (st 28).toInt ≤ 1 by omega) (show aR (ai 23) 128 (0) 127 from hR23)) (cwV 1 hts gX8_named_X6_names rfl rfl rfl (by decide +kernel) ⟨Nat.le_of_ble_eq_true rfl, Nat.le_of_ble_eq_true rfl⟩) ⟨fun a U g mk q => by obtain ⟨q0, q1, qP, qK, qD, qG⟩ := q; exact ⟨q0, q1, qP, va_K.moved (u := U) (U := U.calling g mk a) (Vm.Alike.refl U.vm) qK, qD, qG.same rfl rfl⟩, va_recv hK hP (ci := 8) (q := (RX6, TX6, 12)) rfl (q0 := 5) rfl, fun U hU hW => ⟨rfl, by rw [hU], by rw [hU]; exact hP, va_K.moved hW.alike hK, ((cw_D hD : va_D A (cw_W c kc st lg ai al R_5))).weaken (fun _ _ _ _ => trivial), hG.go hW hU hS hFc⟩⟩ rfl rfl hl.1 rfl (lv_room (Nat.le_of_ble_eq_true rfl)) dX8_named_30 ⟨Nat.le_of_ble_eq_true rfl, Nat.le_of_ble_eq_true rfl⟩) hS (fun q _ h => hFc q h) hFc (fun r_10 ur_10 t H1 locs ht hvm er_10 hB hz1 hk1 hS => ?_)
          subst er_10
          obtain ⟨g24_10, k_11, k_12, hP1⟩ := hB
          rw [ht] at hP1
          clear hFc hz1 hk1 hvm hP
          subst ht
          have hP := hP1
          clear hP1
          generalize t.heap = H at hP hS ⊢
          have hP : va_P (dC, dI) vwCl (cw_W c kc st lg ai (rU al 24 g24_10) R_5) H := hP
          rcases iv_01 (a := r_10) (by omega) (by omega) with b_13 | b_13
          · skip
            have ib_13 := iv_eq b_13
            rw [b_13]
            refine lv_if_eq (tgt := 40) hx hb dX8_named_33 (by decide) (fun c_14 => ?_) (fun c_14 => ?_)
            · skip
              have ic_14 := iv_eq c_14
              refine lv_iconst (v := 0) hx hb dX8_named_40 (by decide) ?_
              refine W.widen (k := 2) (n := 12) (Nat.le_of_ble_eq_true rfl) (Nat.le_of_ble_eq_true rfl) ?_
              refine vx_ret ?_
              exact W.zret hx hb hr rfl (fun t ht hW => ⟨⟨_, _, rfl, rfl, g24_10, R_5, (by omega), (by omega), hPI, hmono, (cw_D hD), by rw [ht]; exact hP⟩, hS.F ht⟩) hS.2.2 dX8_named_41
            · skip
              have ic_14 := iv_ne c_14
              exfalso
              omega
          · skip
            have ib_13 := iv_eq b_13
            rw [b_13]
            refine lv_if_eq (tgt := 40) hx hb dX8_named_33 (by decide) (fun c_15 => ?_) (fun c_15 => ?_)
            · skip
              have ic_15 := iv_eq c_15
              exfalso
              omega
            · skip
              have ic_15 := iv_ne c_15
              refine lv_iconst (v := 1) hx hb dX8_named_36 (by decide) ?_
              refine lv_goto (tgt := 41) hx hb dX8_named_37 (by decide) ?_
              refine W.widen (k := 2) (n := 12) (Nat.le_of_ble_eq_true rfl) (Nat.le_of_ble_eq_true rfl) ?_
              refine vx_ret ?_
              exact W.zret hx hb hr rfl (fun t ht hW => ⟨⟨_, _, rfl, rfl, g24_10, R_5, (by omega), (by omega), hPI, hmono, (cw_D hD), by rw [ht]; exact hP⟩, hS.F ht⟩) hS.2.2 dX8_named_41
  exact main s.heap [] hP hS

set_option maxHeartbeats 4000000 in
set_option maxRecDepth 100000 in
theorem v_X8_byteAt (l : Launch) (hl0 : l.stackTraces = false) (dC : Nat → ClassId) (dI : Nat → Nat → Nat) (c : Nat → Nat) (kc : Nat → ClassId) (st : Nat → Int32) (lg : Nat → Int64) (ai : Nat → Nat → Int32) (al : Nat → Nat → Int64) (R : va_W) (cap : Nat) (num : Nat → Int32) (p0 : Int32) (sz : Nat) (hPI : PI (kc 98) (kc 0) (c 99) (st 13) cap num none R) (hf6a : 1 ≤ (st 6).toInt) (hf6b : (st 6).toInt ≤ 65536) (hf13a : 0 ≤ (st 13).toInt) (hf13b : (st 13).toInt ≤ 65536) (hR7 : aR (ai 7) 8224 (-128) 127) : vx_Met l yX8_byteAt wsX8_byteAt ({ frames := 7, cells := 1, slots := 6, locals := 133 }) (va_Pc [.ref (c 100), .int p0] (fun U => U.heap.size = sz ∧ va_P (dC, dI) vwCl (cw_W c kc st lg ai al R) U.heap ∧ va_K (dC, dI) vwCl (cw_T kc) U ∧ va_D (fun _ => True) (cw_W c kc st lg ai al R) ∧ gx_E (va_A (cw_W c kc st lg ai al R) sz) U)) (va_Qi (fun r (u : Int32) => r = u) (fun u t => va_P (dC, dI) vwCl (cw_W c kc st lg ai al R) t.heap) (va_A (cw_W c kc st lg ai al R) sz)) (vx_X (fun _ : Unit => True) (fun E _ t => E ∈ (["java/lang/IndexOutOfBoundsException"] : List String) ∧ va_P (dC, dI) vwCl (cw_W c kc st lg ai al R) t.heap) (va_A (cw_W c kc st lg ai al R) sz)) 1 6 (va_A (cw_W c kc st lg ai al R) sz) := by
  refine vx_ofW (cc := cX8_byteAt) (maxL := 2) (ret := (some .int)) (by decide) rfl ?_
  intro p e s m args below meth cM s₁ B hml hno hv
  obtain ⟨rfl, hsz, hP, hK, hD0, hG⟩ := hv
  have hx := B.exec
  have hb := B.bytes
  have hr := B.returns
  have hts := atoms_spec (ws := wsX8_byteAt) B.pre
  have hown : s.vm.findClass RX8 = some m.cls := findClass_of_methodNamed B.named
  have hGW := hG.1
  have hlocks := B.notSynchronized
  subst hsz
  have hD := hD0.self (sz := s.heap.size)
  generalize hAe : va_A (cw_W c kc st lg ai al R) s.heap.size = A at hD hG ⊢
  have hA : ∀ q : Nat, s.heap.size ≤ q → A q := fun q h => by rw [← hAe]; exact Or.inr h
  have hS : va_S A s.heap s.heap [] := va_S.rf
  clear hAe hD0
  have hl := lv_entry ([.ref (c 100), .int p0]) (n := 2) (Nat.le_of_ble_eq_true rfl)
  rw [lg_entry_eq]
  generalize (lg_sl ([.ref (c 100), .int p0]) ++ List.replicate (2 - (lg_sl ([.ref (c 100), .int p0])).length) Slot.unset).toArray = ls at hl ⊢
  have hl : lv_has ls 2 [(0, .ref (c 100)), (1, .int p0)] := hl
  have hin_X8 : ∀ w ∈ u_ws RX8 TX8 10, w ∈ wsX8_byteAt := by decide +kernel
  have main : ∀ (H : Heap) (locs : List Loc), va_P (dC, dI) vwCl (cw_W c kc st lg ai al R) H → va_S A s.heap H locs → W p l e (headSpec wsX8_byteAt ({ frames := 7, cells := 1, slots := 6, locals := 133 })).room s m ([.ref (c 100), .int p0] : List Value).toArray below meth cM H locs 0 0 (vx_MQ below (va_Qi (fun r (u : Int32) => r = u) (fun u t => va_P (dC, dI) vwCl (cw_W c kc st lg ai al R) t.heap) A) (vx_X (fun _ : Unit => True) (fun E _ t => E ∈ (["java/lang/IndexOutOfBoundsException"] : List String) ∧ va_P (dC, dI) vwCl (cw_W c kc st lg ai al R) t.heap) A) ([.ref (c 100), .int p0] : List Value).toArray s 1 6 A) (F0 m 0 ls []) := by
    intro H locs hP hS
    refine lv_aload_n hx hb dX8_byteAt_0 rfl (lv_at hl 0 rfl) ?_
    refine lv_iload_n hx hb dX8_byteAt_1 rfl (lv_at hl 1 rfl) ?_
    have hFc := vfree ((cw_D hD : va_D A (cw_W c kc st lg ai al R)) : va_D A (cw_W c kc st lg ai al R)) hS hA
    refine vx_callv (vx_runV (As := [.int p0]) (rest := []) ⟨hx, hb, hml, hown, hts⟩ (v_X8_demandPlace l hl0 dC dI c kc st lg ai al R p0 _ (show 1 ≤ (st 6).toInt by omega) (show (st 6).toInt ≤ 65536 by omega)) (cwV 1 hts gX8_byteAt_X8_demandPlace rfl rfl rfl (by decide +kernel) ⟨Nat.le_of_ble_eq_true rfl, Nat.le_of_ble_eq_true rfl⟩) ⟨fun a U g mk q => by obtain ⟨q0, q1, qP, qK, qD, qG⟩ := q; exact ⟨q0, q1, qP, va_K.moved (u := U) (U := U.calling g mk a) (Vm.Alike.refl U.vm) qK, qD, qG.same rfl rfl⟩, va_recv hK hP (ci := 10) (q := (RX8, TX8, 10)) rfl (q0 := 0) rfl, fun U hU hW => ⟨rfl, by rw [hU], by rw [hU]; exact hP, va_K.moved hW.alike hK, ((cw_D hD : va_D A (cw_W c kc st lg ai al R))).weaken (fun _ _ _ _ => trivial), hG.go hW hU hS hFc⟩⟩ rfl rfl hl.1 rfl (lv_room (Nat.le_of_ble_eq_true rfl)) dX8_byteAt_2 ⟨Nat.le_of_ble_eq_true rfl, Nat.le_of_ble_eq_true rfl⟩) hS (fun q _ h => hFc q h) hFc (fun q _ h => hFc q h) (fun E9 ce q9 u t H1 locs ht hvm hp hE hz hk hS hcell hv hcl => ?_) (fun ur_1 t H1 locs ht hvm er_1 hB hz1 hk1 hS => ?_)
    · skip
      obtain ⟨hE, hP1⟩ := hE
      rw [ht] at hP1
      have hP : va_P (dC, dI) vwCl (cw_W c kc st lg ai al R) H1 := hP1
      exact vx_out (fun x h => (hno x h).elim) hlocks hcell hv hcl (fun t ht hW => ⟨(), trivial, ⟨(show ∀ x ∈ (["java/lang/IndexOutOfBoundsException"] : List String), x ∈ (["java/lang/IndexOutOfBoundsException"] : List String) by decide +kernel) _ hE, by rw [ht]; exact hP⟩, hS.F ht⟩) hS.2.2 (Nat.le_of_ble_eq_true rfl) (Nat.le_of_ble_eq_true rfl)
    · skip
      obtain ⟨k_2, k_3, hP1⟩ := hB
      rw [ht] at hP1
      clear hFc hz1 hk1 hvm hP
      subst ht
      have hP := hP1
      clear hP1
      generalize t.heap = H at hP hS ⊢
      have hP : va_P (dC, dI) vwCl (cw_W c kc st lg ai al R) H := hP
      have k_3 : p0.toInt < 8224 + 26 * (st 6).toInt := k_3
      refine lv_aload_n hx hb dX8_byteAt_5 rfl (lv_at hl 0 rfl) ?_
      refine va_get (D := (dC, dI)) (ci := 10) (v := .ref (c 102)) (C := RX8) (T := TX8) (N := 10) hx hb hts hin_X8 hown hK hP 0 rfl rfl 1 (by decide) (hts (.fieldLink RX8 22 "BlockLog" "disk" "LBlockLog$Disk;") (by decide +kernel)) (fun _ h9 => h9) rfl dX8_byteAt_6 ?_
      refine lv_iload_n hx hb dX8_byteAt_9 rfl (lv_at hl 1 rfl) ?_
      refine vp_callSi (va_Run.run (va_runV (As := [.int p0]) (rest := []) ⟨hx, hb, hml, hown, hts⟩ (v_X1_read l dC dI c kc st lg ai al R cap num p0 hPI (show 0 ≤ (st 13).toInt by omega) (show (st 13).toInt ≤ 65536 by omega) (by omega) (show aR (ai 7) 8224 (-128) 127 from hR7)) (cwV 1 hts gX8_byteAt_X1_read rfl rfl rfl (by decide +kernel) ⟨Nat.le_of_ble_eq_true rfl, Nat.le_of_ble_eq_true rfl⟩) ⟨fun a U g mk q => by obtain ⟨q0, qP, qK, qG⟩ := q; exact ⟨q0, qP, va_K.moved (u := U) (U := U.calling g mk a) (Vm.Alike.refl U.vm) qK, qG.same rfl⟩, va_recv hK hP (ci := 3) (q := (RX1, TX1, 7)) rfl (q0 := 2) rfl, fun U hU hW => ⟨rfl, by rw [hU]; exact hP, va_K.moved hW.alike hK, hGW.warm hW⟩⟩ rfl rfl hl.1 rfl (lv_room (Nat.le_of_ble_eq_true rfl)) dX8_byteAt_10 ⟨Nat.le_of_ble_eq_true rfl, Nat.le_of_ble_eq_true rfl⟩)) (fun r_4 er_4 => ?_)
      refine W.widen (k := 1) (n := 6) (Nat.le_of_ble_eq_true rfl) (Nat.le_of_ble_eq_true rfl) ?_
      refine vx_ret ?_
      exact W.iret hx hb hr (fun t ht hW => ⟨⟨_, _, rfl, rfl, show va_P (dC, dI) vwCl (cw_W c kc st lg ai al R) t.heap by rw [ht]; exact hP⟩, hS.F ht⟩) hS.2.2 dX8_byteAt_13
  exact main s.heap [] hP hS

set_option maxHeartbeats 4000000 in
set_option maxRecDepth 100000 in
theorem v_X8_asked (l : Launch) (hl0 : l.stackTraces = false) (dC : Nat → ClassId) (dI : Nat → Nat → Nat) (c : Nat → Nat) (kc : Nat → ClassId) (st : Nat → Int32) (lg : Nat → Int64) (ai : Nat → Nat → Int32) (al : Nat → Nat → Int64) (R : va_W) (cap : Nat) (num : Nat → Int32) (p0 : Int32) (sz : Nat) (hPI : PI (kc 98) (kc 0) (c 99) (st 13) cap num none R) (hf9a : 0 ≤ (st 9).toInt) (hf9b : (st 9).toInt ≤ 1) (hf13a : 0 ≤ (st 13).toInt) (hf13b : (st 13).toInt ≤ 65536) (hf15a : 0 ≤ (st 15).toInt) (hf15b : (st 15).toInt ≤ 1) (hf17a : 0 ≤ (st 17).toInt) (hf17b : (st 17).toInt ≤ 128) : vx_Met l yX8_asked wsX8_asked ({ frames := 7, cells := 1, slots := 6, locals := 143 }) (va_Pc [.ref (c 100), .int p0] (fun U => U.heap.size = sz ∧ va_P (dC, dI) vwCl (cw_W c kc st lg ai al R) U.heap ∧ va_K (dC, dI) vwCl (cw_T kc) U ∧ va_D (fun _ => True) (cw_W c kc st lg ai al R) ∧ gx_E (va_A (cw_W c kc st lg ai al R) sz) U)) (va_Qi (fun r (u : Int32) => r = u) (fun u t => ∃ (f8 : Nat → Int32) (R9 : va_W), (PI (kc 98) (kc 0) (c 99) (st 13) cap num none R9) ∧ (∀ y m, pgM (kc 0) R y m → pgM (kc 0) R9 y m) ∧ (va_D (va_A (cw_W c kc st lg ai al R) sz) (cw_W c kc st lg (rU ai 8 f8) al R9)) ∧ va_P (dC, dI) vwCl (cw_W c kc st lg (rU ai 8 f8) al R9) t.heap) (va_A (cw_W c kc st lg ai al R) sz)) (vx_X (fun _ : Unit => True) (fun E _ t => E ∈ (["java/lang/IllegalStateException"] : List String) ∧ ∃ (f8 : Nat → Int32) (R9 : va_W), (PI (kc 98) (kc 0) (c 99) (st 13) cap num none R9) ∧ (∀ y m, pgM (kc 0) R y m → pgM (kc 0) R9 y m) ∧ (va_D (va_A (cw_W c kc st lg ai al R) sz) (cw_W c kc st lg (rU ai 8 f8) al R9)) ∧ va_P (dC, dI) vwCl (cw_W c kc st lg (rU ai 8 f8) al R9) t.heap) (va_A (cw_W c kc st lg ai al R) sz)) 1 6 (va_A (cw_W c kc st lg ai al R) sz) := by
  refine vx_ofW (cc := cX8_asked) (maxL := 3) (ret := (some .int)) (by decide) rfl ?_
  intro p e s m args below meth cM s₁ B hml hno hv
  obtain ⟨rfl, hsz, hP, hK, hD0, hG⟩ := hv
  have hx := B.exec
  have hb := B.bytes
  have hr := B.returns
  have hts := atoms_spec (ws := wsX8_asked) B.pre
  have hown : s.vm.findClass RX8 = some m.cls := findClass_of_methodNamed B.named
  have hGW := hG.1
  have hlocks := B.notSynchronized
  subst hsz
  have hD := hD0.self (sz := s.heap.size)
  generalize hAe : va_A (cw_W c kc st lg ai al R) s.heap.size = A at hD hG ⊢
  have hA : ∀ q : Nat, s.heap.size ≤ q → A q := fun q h => by rw [← hAe]; exact Or.inr h
  have hS : va_S A s.heap s.heap [] := va_S.rf
  clear hAe hD0
  have hl := lv_entry ([.ref (c 100), .int p0]) (n := 3) (Nat.le_of_ble_eq_true rfl)
  rw [lg_entry_eq]
  generalize (lg_sl ([.ref (c 100), .int p0]) ++ List.replicate (3 - (lg_sl ([.ref (c 100), .int p0])).length) Slot.unset).toArray = ls at hl ⊢
  have hl : lv_has ls 3 [(0, .ref (c 100)), (1, .int p0)] := hl
  have z_m1 : (-1 : Int32).toInt = -1 := by decide
  have z_0 : (0 : Int32).toInt = 0 := by decide
  have z_128 : (128 : Int32).toInt = 128 := by decide
  have hin_X2 : ∀ w ∈ u_ws RX2 TX2 3, w ∈ wsX8_asked := by decide +kernel
  have hin_X4 : ∀ w ∈ u_ws RX4 TX4 6, w ∈ wsX8_asked := by decide +kernel
  have hin_X8 : ∀ w ∈ u_ws RX8 TX8 10, w ∈ wsX8_asked := by decide +kernel
  have hmono : ∀ y m, pgM (kc 0) R y m → pgM (kc 0) R y m := fun y m h => h
  have main : ∀ (H : Heap) (locs : List Loc), va_P (dC, dI) vwCl (cw_W c kc st lg ai al R) H → va_S A s.heap H locs → W p l e (headSpec wsX8_asked ({ frames := 7, cells := 1, slots := 6, locals := 143 })).room s m ([.ref (c 100), .int p0] : List Value).toArray below meth cM H locs 0 0 (vx_MQ below (va_Qi (fun r (u : Int32) => r = u) (fun u t => ∃ (f8 : Nat → Int32) (R9 : va_W), (PI (kc 98) (kc 0) (c 99) (st 13) cap num none R9) ∧ (∀ y m, pgM (kc 0) R y m → pgM (kc 0) R9 y m) ∧ (va_D A (cw_W c kc st lg (rU ai 8 f8) al R9)) ∧ va_P (dC, dI) vwCl (cw_W c kc st lg (rU ai 8 f8) al R9) t.heap) A) (vx_X (fun _ : Unit => True) (fun E _ t => E ∈ (["java/lang/IllegalStateException"] : List String) ∧ ∃ (f8 : Nat → Int32) (R9 : va_W), (PI (kc 98) (kc 0) (c 99) (st 13) cap num none R9) ∧ (∀ y m, pgM (kc 0) R y m → pgM (kc 0) R9 y m) ∧ (va_D A (cw_W c kc st lg (rU ai 8 f8) al R9)) ∧ va_P (dC, dI) vwCl (cw_W c kc st lg (rU ai 8 f8) al R9) t.heap) A) ([.ref (c 100), .int p0] : List Value).toArray s 1 6 A) (F0 m 0 ls []) := by
    intro H locs hP hS
    refine lv_aload_n hx hb dX8_asked_0 rfl (lv_at hl 0 rfl) ?_
    have hFc := vfree ((cw_D hD : va_D A (cw_W c kc st lg ai al R)) : va_D A (cw_W c kc st lg ai al R)) hS hA
    refine vx_callv (vx_runV (As := []) (rest := []) ⟨hx, hb, hml, hown, hts⟩ (v_X8_demandPower l hl0 dC dI c kc st lg ai al R  _ (show 0 ≤ (st 9).toInt by omega) (show (st 9).toInt ≤ 1 by omega)) (cwV 0 hts gX8_asked_X8_demandPower rfl rfl rfl (by decide +kernel) ⟨Nat.le_of_ble_eq_true rfl, Nat.le_of_ble_eq_true rfl⟩) ⟨fun a U g mk q => by obtain ⟨q0, q1, qP, qK, qD, qG⟩ := q; exact ⟨q0, q1, qP, va_K.moved (u := U) (U := U.calling g mk a) (Vm.Alike.refl U.vm) qK, qD, qG.same rfl rfl⟩, va_recv hK hP (ci := 10) (q := (RX8, TX8, 10)) rfl (q0 := 0) rfl, fun U hU hW => ⟨rfl, by rw [hU], by rw [hU]; exact hP, va_K.moved hW.alike hK, ((cw_D hD : va_D A (cw_W c kc st lg ai al R))).weaken (fun _ _ _ _ => trivial), hG.go hW hU hS hFc⟩⟩ rfl rfl hl.1 rfl (lv_room (Nat.le_of_ble_eq_true rfl)) dX8_asked_1 ⟨Nat.le_of_ble_eq_true rfl, Nat.le_of_ble_eq_true rfl⟩) hS (fun q _ h => hFc q h) hFc (fun q _ h => hFc q h) (fun E9 ce q9 u t H1 locs ht hvm hp hE hz hk hS hcell hv hcl => ?_) (fun ur_1 t H1 locs ht hvm er_1 hB hz1 hk1 hS => ?_)
    · skip
      obtain ⟨hE, hP1⟩ := hE
      rw [ht] at hP1
      have hP : va_P (dC, dI) vwCl (cw_W c kc st lg ai al R) H1 := hP1
      exact vx_out (fun x h => (hno x h).elim) hlocks hcell hv hcl (fun t ht hW => ⟨(), trivial, ⟨(show ∀ x ∈ (["java/lang/IllegalStateException"] : List String), x ∈ (["java/lang/IllegalStateException"] : List String) by decide +kernel) _ hE, ai 8, R, hPI, hmono, (cw_D hD), by rw [ht]; exact hP⟩, hS.F ht⟩) hS.2.2 (Nat.le_of_ble_eq_true rfl) (Nat.le_of_ble_eq_true rfl)
    · skip
      have hP1 : va_P (dC, dI) vwCl (cw_W c kc st lg ai al R) t.heap := hB
      rw [ht] at hP1
      clear hFc hz1 hk1 hvm hP
      subst ht
      have hP := hP1
      clear hP1
      generalize t.heap = H at hP hS ⊢
      have hP : va_P (dC, dI) vwCl (cw_W c kc st lg ai al R) H := hP
      refine lv_iload_n hx hb dX8_asked_4 rfl (lv_at hl 1 rfl) ?_
      refine lv_if_ge (tgt := 10) hx hb dX8_asked_5 (by decide) (fun c_2 => ?_) (fun c_2 => ?_)
      · skip
        have ic_2 := iv_le c_2
        refine lv_iload_n hx hb dX8_asked_10 rfl (lv_at hl 1 rfl) ?_
        refine lv_aload_n hx hb dX8_asked_11 rfl (lv_at hl 0 rfl) ?_
        refine va_get (D := (dC, dI)) (ci := 10) (v := .ref (c 104)) (C := RX8) (T := TX8) (N := 10) hx hb hts hin_X8 hown hK hP 0 rfl rfl 2 (by decide) (hts (.fieldLink RX8 31 "BlockLog" "rows" "LBlockLog$Rows;") (by decide +kernel)) (fun _ h9 => h9) rfl dX8_asked_12 ?_
        refine va_getN (D := (dC, dI)) (ci := 6) (v := .int (st 18)) (C := RX4) (T := TX4) (N := 6) hx hb hts hin_X4 hown hK hP 4 rfl rfl 5 (by decide) (va_Nw.use rfl (hGW.1 ("BlockLog", 312, "BlockLog$Rows", "bad", "I", "BlockLog") (by decide +kernel))) (fun _ h9 => h9) rfl dX8_asked_15 ?_
        refine lv_icmp_ge (tgt := 30) hx hb dX8_asked_18 (by decide) (fun c_3 => ?_) (fun c_3 => ?_)
        · skip
          have ic_3 := iv_le c_3
          refine lv_aload_n hx hb dX8_asked_30 rfl (lv_at hl 0 rfl) ?_
          refine va_get (D := (dC, dI)) (ci := 10) (v := .ref (c 102)) (C := RX8) (T := TX8) (N := 10) hx hb hts hin_X8 hown hK hP 0 rfl rfl 1 (by decide) (hts (.fieldLink RX8 22 "BlockLog" "disk" "LBlockLog$Disk;") (by decide +kernel)) (fun _ h9 => h9) rfl dX8_asked_31 ?_
          refine lv_iload_n hx hb dX8_asked_34 rfl (lv_at hl 1 rfl) ?_
          refine lv_aload_n hx hb dX8_asked_35 rfl (lv_at hl 0 rfl) ?_
          refine va_get (D := (dC, dI)) (ci := 10) (v := .ref (c 104)) (C := RX8) (T := TX8) (N := 10) hx hb hts hin_X8 hown hK hP 0 rfl rfl 2 (by decide) (hts (.fieldLink RX8 31 "BlockLog" "rows" "LBlockLog$Rows;") (by decide +kernel)) (fun _ h9 => h9) rfl dX8_asked_36 ?_
          refine va_getN (D := (dC, dI)) (ci := 6) (v := .int (st 18)) (C := RX4) (T := TX4) (N := 6) hx hb hts hin_X4 hown hK hP 4 rfl rfl 5 (by decide) (va_Nw.use rfl (hGW.1 ("BlockLog", 312, "BlockLog$Rows", "bad", "I", "BlockLog") (by decide +kernel))) (fun _ h9 => h9) rfl dX8_asked_39 ?_
          refine lv_isub hx hb dX8_asked_42 ?_
          refine lv_topi (fun v_4 ev_4 => ?_)
          clear ev_4
          have hFc := vfree ((cw_D hD : va_D A (cw_W c kc st lg ai al R)) : va_D A (cw_W c kc st lg ai al R)) hS hA
          refine va_callq (va_runV (As := [.int v_4]) (rest := []) ⟨hx, hb, hml, hown, hts⟩ (v_X1_badPage l dC dI c kc st lg ai al R cap num v_4 _ hPI (show 0 ≤ (st 13).toInt by omega) (show (st 13).toInt ≤ 65536 by omega)) (cwV 1 hts gX8_asked_X1_badPage rfl rfl rfl (by decide +kernel) ⟨Nat.le_of_ble_eq_true rfl, Nat.le_of_ble_eq_true rfl⟩) ⟨fun a U g mk q => by obtain ⟨q0, q1, qP, qK, qD, qG⟩ := q; exact ⟨q0, q1, qP, va_K.moved (u := U) (U := U.calling g mk a) (Vm.Alike.refl U.vm) qK, qD, qG.same rfl rfl⟩, va_recv hK hP (ci := 3) (q := (RX1, TX1, 7)) rfl (q0 := 2) rfl, fun U hU hW => ⟨rfl, by rw [hU], by rw [hU]; exact hP, va_K.moved hW.alike hK, ((cw_D hD : va_D A (cw_W c kc st lg ai al R))).weaken (fun _ _ _ _ => trivial), hG.go hW hU hS hFc⟩⟩ rfl rfl hl.1 rfl (lv_room (Nat.le_of_ble_eq_true rfl)) dX8_asked_43 ⟨Nat.le_of_ble_eq_true rfl, Nat.le_of_ble_eq_true rfl⟩) hS (fun q _ h => hFc q h) hFc (fun r_5 ur_5 t H1 locs ht hvm er_5 hB hz1 hk1 hS => ?_)
          subst er_5
          obtain ⟨R_5, hq, hPI, hmo, hD1, hP1⟩ := hB
          rw [ht] at hP1
          clear hz1 hk1 hvm hP
          subst ht
          have hP := hP1
          clear hP1
          generalize t.heap = H at hP hS ⊢
          have hP : va_P (dC, dI) vwCl (cw_W c kc st lg ai al R_5) H := hP
          have hD : va_D A (cw_W c kc st lg ai al R_5) := cw_D (hD1.weaken (fun _ _ _ h => hFc _ h))
          have hPI : PI (kc 98) (kc 0) (c 99) (st 13) cap num none R_5 := hPI
          clear hFc hD1
          have hmono : ∀ y m, pgM (kc 0) R y m → pgM (kc 0) R_5 y m := fun y m h => hmo y m (hmono y m h)
          have hq : ∀ x, r_5 = some x → ∃ m, pgM (kc 0) R_5 x m ∧ True := hq
          rcases r_5 with _ | x_6
          · skip
            refine W.eq (g2 := F0 m 46 ls [.null]) rfl ?_
            refine lv_astore_nN (lv' := [(2, .null), (0, .ref (c 100)), (1, .int p0)]) hx hb dX8_asked_46 rfl hl (by decide) rfl (fun ls hl => ?_)
            refine lv_aload_nN hx hb dX8_asked_47 rfl (lv_at hl 0 rfl) ?_
            refine lv_ifnonnullN hx hb dX8_asked_48 ?_
            refine lv_iconst (v := (-1)) hx hb dX8_asked_51 (by decide) ?_
            refine lv_goto (tgt := 63) hx hb dX8_asked_52 (by decide) ?_
            refine W.widen (k := 1) (n := 6) (Nat.le_of_ble_eq_true rfl) (Nat.le_of_ble_eq_true rfl) ?_
            refine vx_ret ?_
            exact W.iret hx hb hr (fun t ht hW => ⟨⟨_, _, rfl, rfl, ai 8, R_5, hPI, hmono, (cw_D hD), by rw [ht]; exact hP⟩, hS.F ht⟩) hS.2.2 dX8_asked_63
          · skip
            refine W.eq (g2 := F0 m 46 ls [.ref x_6]) rfl ?_
            obtain ⟨m_7, hM_x_6, hQ⟩ := hq x_6 rfl
            refine lv_astore_n (lv' := [(2, .ref x_6), (0, .ref (c 100)), (1, .int p0)]) hx hb dX8_asked_46 rfl hl (by decide) rfl (fun ls hl => ?_)
            refine lv_aload_n hx hb dX8_asked_47 rfl (lv_at hl 0 rfl) ?_
            refine lv_ifnonnull (tgt := 55) hx hb dX8_asked_48 (by decide) ?_
            refine lv_sipush (v := 128) hx hb dX8_asked_55 (by decide) ?_
            refine lv_aload_n hx hb dX8_asked_58 rfl (lv_at hl 0 rfl) ?_
            have hMo := hM_x_6
            obtain ⟨b_8, k9_8, f9_8, ⟨j_8, hj_8⟩, i_8, hi_8⟩ := hMo
            refine va_getN (D := (dC, dI)) (ci := 4) (v := .int m_7) (C := RX2) (T := TX2) (N := 3) hx hb hts hin_X2 hown hK hP (26 + j_8) (cw_at hj_8) rfl 0 (by decide) (va_Nw.use rfl (hGW.1 ("BlockLog", 225, "BlockLog$Page", "number", "I", "BlockLog") (by decide +kernel))) (fun _ h9 => h9) rfl dX8_asked_59 ?_
            refine lv_iadd hx hb dX8_asked_62 ?_
            refine lv_topi (fun v_9 ev_9 => ?_)
            clear ev_9
            refine W.widen (k := 1) (n := 6) (Nat.le_of_ble_eq_true rfl) (Nat.le_of_ble_eq_true rfl) ?_
            refine vx_ret ?_
            exact W.iret hx hb hr (fun t ht hW => ⟨⟨_, _, rfl, rfl, ai 8, R_5, hPI, hmono, (cw_D hD), by rw [ht]; exact hP⟩, hS.F ht⟩) hS.2.2 dX8_asked_63
        · skip
          have ic_3 := iv_nle c_3
          refine lv_aload_n hx hb dX8_asked_21 rfl (lv_at hl 0 rfl) ?_
          refine va_get (D := (dC, dI)) (ci := 10) (v := .ref (c 104)) (C := RX8) (T := TX8) (N := 10) hx hb hts hin_X8 hown hK hP 0 rfl rfl 2 (by decide) (hts (.fieldLink RX8 31 "BlockLog" "rows" "LBlockLog$Rows;") (by decide +kernel)) (fun _ h9 => h9) rfl dX8_asked_22 ?_
          refine lv_iload_n hx hb dX8_asked_25 rfl (lv_at hl 1 rfl) ?_
          have hFc := vfree ((cw_D hD : va_D A (cw_W c kc st lg ai al R)) : va_D A (cw_W c kc st lg ai al R)) hS hA
          refine va_calli (va_runV (As := [.int p0]) (rest := []) ⟨hx, hb, hml, hown, hts⟩ (v_X4_badRow l dC dI c kc st lg ai al R p0 _ (show 0 ≤ (st 15).toInt by omega) (show (st 15).toInt ≤ 1 by omega) (show 0 ≤ (st 17).toInt by omega) (show (st 17).toInt ≤ 128 by omega)) (cwV 1 hts gX8_asked_X4_badRow rfl rfl rfl (by decide +kernel) ⟨Nat.le_of_ble_eq_true rfl, Nat.le_of_ble_eq_true rfl⟩) ⟨fun a U g mk q => by obtain ⟨q0, q1, qP, qK, qD⟩ := q; exact ⟨q0, q1, qP, va_K.moved (u := U) (U := U.calling g mk a) (Vm.Alike.refl U.vm) qK, qD⟩, va_recv hK hP (ci := 6) (q := (RX4, TX4, 6)) rfl (q0 := 4) rfl, fun U hU hW => ⟨rfl, by rw [hU], by rw [hU]; exact hP, va_K.moved hW.alike hK, ((cw_D hD : va_D A (cw_W c kc st lg ai al R))).weaken (fun _ _ _ _ => trivial)⟩⟩ rfl rfl hl.1 rfl (lv_room (Nat.le_of_ble_eq_true rfl)) dX8_asked_26 ⟨Nat.le_of_ble_eq_true rfl, Nat.le_of_ble_eq_true rfl⟩) hS (fun q _ h => hFc q h) hFc (fun r_10 ur_10 t H1 locs ht hvm er_10 hB hz1 hk1 hS => ?_)
          subst er_10
          obtain ⟨f8_10, k_11, k_12, hP1⟩ := hB
          rw [ht] at hP1
          clear hFc hz1 hk1 hvm hP
          subst ht
          have hP := hP1
          clear hP1
          generalize t.heap = H at hP hS ⊢
          have hP : va_P (dC, dI) vwCl (cw_W c kc st lg (rU ai 8 f8_10) al R) H := hP
          refine W.widen (k := 1) (n := 6) (Nat.le_of_ble_eq_true rfl) (Nat.le_of_ble_eq_true rfl) ?_
          refine vx_ret ?_
          exact W.iret hx hb hr (fun t ht hW => ⟨⟨_, _, rfl, rfl, f8_10, R, hPI, hmono, (cw_D hD), by rw [ht]; exact hP⟩, hS.F ht⟩) hS.2.2 dX8_asked_29
      · skip
        have ic_2 := iv_nle c_2
        refine lv_iconst (v := (-1)) hx hb dX8_asked_8 (by decide) ?_
        refine W.widen (k := 1) (n := 6) (Nat.le_of_ble_eq_true rfl) (Nat.le_of_ble_eq_true rfl) ?_
        refine vx_ret ?_
        exact W.iret hx hb hr (fun t ht hW => ⟨⟨_, _, rfl, rfl, ai 8, R, hPI, hmono, (cw_D hD), by rw [ht]; exact hP⟩, hS.F ht⟩) hS.2.2 dX8_asked_9
  exact main s.heap [] hP hS

set_option maxHeartbeats 4000000 in
set_option maxRecDepth 100000 in
theorem v_X8_isAsked (l : Launch) (dC : Nat → ClassId) (dI : Nat → Nat → Nat) (c : Nat → Nat) (kc : Nat → ClassId) (st : Nat → Int32) (lg : Nat → Int64) (ai : Nat → Nat → Int32) (al : Nat → Nat → Int64) (R : va_W) (cap : Nat) (num : Nat → Int32) (p0 : Int32) (sz : Nat) (hPI : PI (kc 98) (kc 0) (c 99) (st 13) cap num none R) (hf13a : 0 ≤ (st 13).toInt) (hf13b : (st 13).toInt ≤ 65536) (hf15a : 0 ≤ (st 15).toInt) (hf15b : (st 15).toInt ≤ 1) (hf17a : 0 ≤ (st 17).toInt) (hf17b : (st 17).toInt ≤ 128) : Met l yX8_isAsked wsX8_isAsked ({ frames := 5, cells := 0, slots := 0, locals := 120 }) (va_Pc [.ref (c 100), .int p0] (fun U => U.heap.size = sz ∧ va_P (dC, dI) vwCl (cw_W c kc st lg ai al R) U.heap ∧ va_K (dC, dI) vwCl (cw_T kc) U ∧ va_D (fun _ => True) (cw_W c kc st lg ai al R) ∧ gx_E (va_A (cw_W c kc st lg ai al R) sz) U)) (va_Qi (fun r (u : Int32) => r = u) (fun u t => ∃ (f8 : Nat → Int32) (R9 : va_W), (u.toInt = 1 → (0 ≤ p0.toInt ∧ p0.toInt < 65664)) ∧ (0 ≤ u.toInt) ∧ (u.toInt ≤ 1) ∧ (PI (kc 98) (kc 0) (c 99) (st 13) cap num none R9) ∧ (∀ y m, pgM (kc 0) R y m → pgM (kc 0) R9 y m) ∧ (va_D (va_A (cw_W c kc st lg ai al R) sz) (cw_W c kc st lg (rU ai 8 f8) al R9)) ∧ va_P (dC, dI) vwCl (cw_W c kc st lg (rU ai 8 f8) al R9) t.heap) (va_A (cw_W c kc st lg ai al R) sz)) 0 0 (va_A (cw_W c kc st lg ai al R) sz) := by
  refine Met.ofW (cc := cX8_isAsked) (maxL := 3) (ret := (some .boolean)) (by decide) rfl ?_
  intro p e s m args below meth cM s₁ B hml hv
  obtain ⟨rfl, hsz, hP, hK, hD0, hG⟩ := hv
  have hx := B.exec
  have hb := B.bytes
  have hr := B.returns
  have hts := atoms_spec (ws := wsX8_isAsked) B.pre
  have hown : s.vm.findClass RX8 = some m.cls := findClass_of_methodNamed B.named
  have hGW := hG.1
  subst hsz
  have hD := hD0.self (sz := s.heap.size)
  generalize hAe : va_A (cw_W c kc st lg ai al R) s.heap.size = A at hD hG ⊢
  have hA : ∀ q : Nat, s.heap.size ≤ q → A q := fun q h => by rw [← hAe]; exact Or.inr h
  have hS : va_S A s.heap s.heap [] := va_S.rf
  clear hAe hD0
  have hl := lv_entry ([.ref (c 100), .int p0]) (n := 3) (Nat.le_of_ble_eq_true rfl)
  rw [lg_entry_eq]
  generalize (lg_sl ([.ref (c 100), .int p0]) ++ List.replicate (3 - (lg_sl ([.ref (c 100), .int p0])).length) Slot.unset).toArray = ls at hl ⊢
  have hl : lv_has ls 3 [(0, .ref (c 100)), (1, .int p0)] := hl
  have z_0 : (0 : Int32).toInt = 0 := by decide
  have z_1 : (1 : Int32).toInt = 1 := by decide
  have z_4 : (4 : Int32).toInt = 4 := by decide
  have z_128 : (128 : Int32).toInt = 128 := by decide
  have hin_X4 : ∀ w ∈ u_ws RX4 TX4 6, w ∈ wsX8_isAsked := by decide +kernel
  have hin_X8 : ∀ w ∈ u_ws RX8 TX8 10, w ∈ wsX8_isAsked := by decide +kernel
  have hmono : ∀ y m, pgM (kc 0) R y m → pgM (kc 0) R y m := fun y m h => h
  have main : ∀ (H : Heap) (locs : List Loc), va_P (dC, dI) vwCl (cw_W c kc st lg ai al R) H → va_S A s.heap H locs → W p l e (headSpec wsX8_isAsked ({ frames := 5, cells := 0, slots := 0, locals := 120 })).room s m ([.ref (c 100), .int p0] : List Value).toArray below meth cM H locs 0 0 (MQ below (va_Qi (fun r (u : Int32) => r = u) (fun u t => ∃ (f8 : Nat → Int32) (R9 : va_W), (u.toInt = 1 → (0 ≤ p0.toInt ∧ p0.toInt < 65664)) ∧ (0 ≤ u.toInt) ∧ (u.toInt ≤ 1) ∧ (PI (kc 98) (kc 0) (c 99) (st 13) cap num none R9) ∧ (∀ y m, pgM (kc 0) R y m → pgM (kc 0) R9 y m) ∧ (va_D A (cw_W c kc st lg (rU ai 8 f8) al R9)) ∧ va_P (dC, dI) vwCl (cw_W c kc st lg (rU ai 8 f8) al R9) t.heap) A) ([.ref (c 100), .int p0] : List Value).toArray s 0 0 A) (F0 m 0 ls []) := by
    intro H locs hP hS
    refine lv_iload_n hx hb dX8_isAsked_0 rfl (lv_at hl 1 rfl) ?_
    refine lv_if_ge (tgt := 6) hx hb dX8_isAsked_1 (by decide) (fun c_1 => ?_) (fun c_1 => ?_)
    · skip
      have ic_1 := iv_le c_1
      refine lv_iload_n hx hb dX8_isAsked_6 rfl (lv_at hl 1 rfl) ?_
      refine lv_sipush (v := 128) hx hb dX8_isAsked_7 (by decide) ?_
      refine lv_icmp_ge (tgt := 42) hx hb dX8_isAsked_10 (by decide) (fun c_2 => ?_) (fun c_2 => ?_)
      · skip
        have ic_2 := iv_le c_2
        refine lv_aload_n hx hb dX8_isAsked_42 rfl (lv_at hl 0 rfl) ?_
        refine va_get (D := (dC, dI)) (ci := 10) (v := .ref (c 102)) (C := RX8) (T := TX8) (N := 10) hx hb hts hin_X8 hown hK hP 0 rfl rfl 1 (by decide) (hts (.fieldLink RX8 22 "BlockLog" "disk" "LBlockLog$Disk;") (by decide +kernel)) (fun _ h9 => h9) rfl dX8_isAsked_43 ?_
        refine lv_iload_n hx hb dX8_isAsked_46 rfl (lv_at hl 1 rfl) ?_
        refine lv_sipush (v := 128) hx hb dX8_isAsked_47 (by decide) ?_
        refine lv_isub hx hb dX8_isAsked_50 ?_
        refine lv_topi (fun v_3 ev_3 => ?_)
        have rg1 := iv_rng p0
        have hv_3 : v_3.toInt = p0.toInt - 128 := by rw [ev_3]; exact (iv_sub (by omega) (by omega)).trans (by omega)
        clear ev_3
        refine va_csq (va_Run.run (va_runV (As := [.int v_3]) (rest := []) ⟨hx, hb, hml, hown, hts⟩ (v_X1_find l dC dI c kc st lg ai al R cap num v_3 hPI (show 0 ≤ (st 13).toInt by omega) (show (st 13).toInt ≤ 65536 by omega)) (cwV 1 hts gX8_isAsked_X1_find rfl rfl rfl (by decide +kernel) ⟨Nat.le_of_ble_eq_true rfl, Nat.le_of_ble_eq_true rfl⟩) ⟨fun a U g mk q => by obtain ⟨q0, qP, qK, qG⟩ := q; exact ⟨q0, qP, va_K.moved (u := U) (U := U.calling g mk a) (Vm.Alike.refl U.vm) qK, qG.same rfl⟩, va_recv hK hP (ci := 3) (q := (RX1, TX1, 7)) rfl (q0 := 2) rfl, fun U hU hW => ⟨rfl, by rw [hU]; exact hP, va_K.moved hW.alike hK, hGW.warm hW⟩⟩ rfl rfl hl.1 rfl (lv_room (Nat.le_of_ble_eq_true rfl)) dX8_isAsked_51 ⟨Nat.le_of_ble_eq_true rfl, Nat.le_of_ble_eq_true rfl⟩)) (fun r_4 er_4 => ?_)
        have hq := er_4
        have hq : ∀ x, r_4 = some x → ∃ m, pgM (kc 0) R x m ∧ m.toInt = v_3.toInt ∧ m.toInt < 65536 := hq
        rcases r_4 with _ | x_5
        · skip
          refine W.eq (g2 := F0 m 54 ls [.null]) rfl ?_
          refine lv_astore_nN (lv' := [(2, .null), (0, .ref (c 100)), (1, .int p0)]) hx hb dX8_isAsked_54 rfl hl (by decide) rfl (fun ls hl => ?_)
          refine lv_aload_nN hx hb dX8_isAsked_55 rfl (lv_at hl 0 rfl) ?_
          refine lv_ifnullN (tgt := 71) hx hb dX8_isAsked_56 (by decide) ?_
          refine lv_iconst (v := 0) hx hb dX8_isAsked_71 (by decide) ?_
          exact W.zret hx hb hr rfl (fun t ht hW => ⟨⟨_, _, rfl, rfl, ai 8, R, (by omega), (by omega), (by omega), hPI, hmono, (cw_D hD), by rw [ht]; exact hP⟩, hS.F ht⟩) hS.2.2 dX8_isAsked_72
        · skip
          refine W.eq (g2 := F0 m 54 ls [.ref x_5]) rfl ?_
          obtain ⟨m_6, hM_x_5, hQ⟩ := hq x_5 rfl
          refine lv_astore_n (lv' := [(2, .ref x_5), (0, .ref (c 100)), (1, .int p0)]) hx hb dX8_isAsked_54 rfl hl (by decide) rfl (fun ls hl => ?_)
          refine lv_aload_n hx hb dX8_isAsked_55 rfl (lv_at hl 0 rfl) ?_
          refine lv_ifnull hx hb dX8_isAsked_56 ?_
          have k_7 : p0.toInt < 65664 := (by have q1 := hQ.1; have q2 := hQ.2; omega)
          refine lv_aload_n hx hb dX8_isAsked_59 rfl (lv_at hl 0 rfl) ?_
          have hMo := hM_x_5
          obtain ⟨b_8, k9_8, f9_8, ⟨j_8, hj_8⟩, i_8, hi_8⟩ := hMo
          have hFc := vfree ((cw_D hD : va_D A (cw_W c kc st lg ai al R)) : va_D A (cw_W c kc st lg ai al R)) hS hA
          refine va_calli (va_runV (As := []) (rest := []) ⟨hx, hb, hml, hown, hts⟩ (v_X2_state l dC dI c kc st lg ai al R cap num x_5 b_8 j_8 i_8 m_6 k9_8 f9_8  _ hPI hj_8 hi_8 ) (cwV 0 hts gX8_isAsked_X2_state rfl rfl rfl (by decide +kernel) ⟨Nat.le_of_ble_eq_true rfl, Nat.le_of_ble_eq_true rfl⟩) ⟨fun a U g mk q => by obtain ⟨q0, q1, qP, qK, qD⟩ := q; exact ⟨q0, q1, qP, va_K.moved (u := U) (U := U.calling g mk a) (Vm.Alike.refl U.vm) qK, qD⟩, va_recv hK hP (ci := 4) (q := (RX2, TX2, 3)) rfl (q0 := 26 + j_8) (cw_at hj_8), fun U hU hW => ⟨rfl, by rw [hU], by rw [hU]; exact hP, va_K.moved hW.alike hK, ((cw_D hD : va_D A (cw_W c kc st lg ai al R))).weaken (fun _ _ _ _ => trivial)⟩⟩ rfl rfl hl.1 rfl (lv_room (Nat.le_of_ble_eq_true rfl)) dX8_isAsked_60 ⟨Nat.le_of_ble_eq_true rfl, Nat.le_of_ble_eq_true rfl⟩) hS (fun q _ h => hFc q h) hFc (fun r_9 ur_9 t H1 locs ht hvm er_9 hB hz1 hk1 hS => ?_)
          subst er_9
          obtain ⟨R_9, hrt, hPI, hmo, hD1, hP1⟩ := hB
          rw [ht] at hP1
          clear hz1 hk1 hvm hP
          subst ht
          have hP := hP1
          clear hP1
          generalize t.heap = H at hP hS ⊢
          have hP : va_P (dC, dI) vwCl (cw_W c kc st lg ai al R_9) H := hP
          have hD : va_D A (cw_W c kc st lg ai al R_9) := cw_D (hD1.weaken (fun _ _ _ h => hFc _ h))
          have hPI : PI (kc 98) (kc 0) (c 99) (st 13) cap num none R_9 := hPI
          clear hFc hD1
          have hM_x_5 := hmo _ _ hM_x_5
          have hmono : ∀ y m, pgM (kc 0) R y m → pgM (kc 0) R_9 y m := fun y m h => hmo y m (hmono y m h)
          have hrt : r_9.toInt = 2 → pgRt (kc 0) R_9 x_5 := hrt
          refine lv_iconst (v := 4) hx hb dX8_isAsked_63 (by decide) ?_
          refine lv_icmp_ne (tgt := 71) hx hb dX8_isAsked_64 (by decide) (fun c_10 => ?_) (fun c_10 => ?_)
          · skip
            have ic_10 := iv_ne c_10
            refine lv_iconst (v := 0) hx hb dX8_isAsked_71 (by decide) ?_
            exact W.zret hx hb hr rfl (fun t ht hW => ⟨⟨_, _, rfl, rfl, ai 8, R_9, (by omega), (by omega), (by omega), hPI, hmono, (cw_D hD), by rw [ht]; exact hP⟩, hS.F ht⟩) hS.2.2 dX8_isAsked_72
          · skip
            have ic_10 := iv_eq c_10
            refine lv_iconst (v := 1) hx hb dX8_isAsked_67 (by decide) ?_
            refine lv_goto (tgt := 72) hx hb dX8_isAsked_68 (by decide) ?_
            exact W.zret hx hb hr rfl (fun t ht hW => ⟨⟨_, _, rfl, rfl, ai 8, R_9, (by omega), (by omega), (by omega), hPI, hmono, (cw_D hD), by rw [ht]; exact hP⟩, hS.F ht⟩) hS.2.2 dX8_isAsked_72
      · skip
        have ic_2 := iv_nle c_2
        refine lv_iload_n hx hb dX8_isAsked_13 rfl (lv_at hl 1 rfl) ?_
        refine lv_aload_n hx hb dX8_isAsked_14 rfl (lv_at hl 0 rfl) ?_
        refine va_get (D := (dC, dI)) (ci := 10) (v := .ref (c 104)) (C := RX8) (T := TX8) (N := 10) hx hb hts hin_X8 hown hK hP 0 rfl rfl 2 (by decide) (hts (.fieldLink RX8 31 "BlockLog" "rows" "LBlockLog$Rows;") (by decide +kernel)) (fun _ h9 => h9) rfl dX8_isAsked_15 ?_
        refine va_getN (D := (dC, dI)) (ci := 6) (v := .int (st 17)) (C := RX4) (T := TX4) (N := 6) hx hb hts hin_X4 hown hK hP 4 rfl rfl 4 (by decide) (va_Nw.use rfl (hGW.1 ("BlockLog", 151, "BlockLog$Rows", "count", "I", "BlockLog") (by decide +kernel))) (fun _ h9 => h9) rfl dX8_isAsked_18 ?_
        refine lv_icmp_ge (tgt := 40) hx hb dX8_isAsked_21 (by decide) (fun c_11 => ?_) (fun c_11 => ?_)
        · skip
          have ic_11 := iv_le c_11
          refine lv_iconst (v := 0) hx hb dX8_isAsked_40 (by decide) ?_
          exact W.zret hx hb hr rfl (fun t ht hW => ⟨⟨_, _, rfl, rfl, ai 8, R, (by omega), (by omega), (by omega), hPI, hmono, (cw_D hD), by rw [ht]; exact hP⟩, hS.F ht⟩) hS.2.2 dX8_isAsked_41
        · skip
          have ic_11 := iv_nle c_11
          refine lv_aload_n hx hb dX8_isAsked_24 rfl (lv_at hl 0 rfl) ?_
          refine va_get (D := (dC, dI)) (ci := 10) (v := .ref (c 104)) (C := RX8) (T := TX8) (N := 10) hx hb hts hin_X8 hown hK hP 0 rfl rfl 2 (by decide) (hts (.fieldLink RX8 31 "BlockLog" "rows" "LBlockLog$Rows;") (by decide +kernel)) (fun _ h9 => h9) rfl dX8_isAsked_25 ?_
          refine lv_iload_n hx hb dX8_isAsked_28 rfl (lv_at hl 1 rfl) ?_
          have hFc := vfree ((cw_D hD : va_D A (cw_W c kc st lg ai al R)) : va_D A (cw_W c kc st lg ai al R)) hS hA
          refine va_calli (va_runV (As := [.int p0]) (rest := []) ⟨hx, hb, hml, hown, hts⟩ (v_X4_state l dC dI c kc st lg ai al R p0 _ (show 0 ≤ (st 15).toInt by omega) (show (st 15).toInt ≤ 1 by omega) (by omega) (by omega)) (cwV 1 hts gX8_isAsked_X4_state rfl rfl rfl (by decide +kernel) ⟨Nat.le_of_ble_eq_true rfl, Nat.le_of_ble_eq_true rfl⟩) ⟨fun a U g mk q => by obtain ⟨q0, q1, qP, qK, qD⟩ := q; exact ⟨q0, q1, qP, va_K.moved (u := U) (U := U.calling g mk a) (Vm.Alike.refl U.vm) qK, qD⟩, va_recv hK hP (ci := 6) (q := (RX4, TX4, 6)) rfl (q0 := 4) rfl, fun U hU hW => ⟨rfl, by rw [hU], by rw [hU]; exact hP, va_K.moved hW.alike hK, ((cw_D hD : va_D A (cw_W c kc st lg ai al R))).weaken (fun _ _ _ _ => trivial)⟩⟩ rfl rfl hl.1 rfl (lv_room (Nat.le_of_ble_eq_true rfl)) dX8_isAsked_29 ⟨Nat.le_of_ble_eq_true rfl, Nat.le_of_ble_eq_true rfl⟩) hS (fun q _ h => hFc q h) hFc (fun r_12 ur_12 t H1 locs ht hvm er_12 hB hz1 hk1 hS => ?_)
          subst er_12
          obtain ⟨f8_12, hP1⟩ := hB
          rw [ht] at hP1
          clear hFc hz1 hk1 hvm hP
          subst ht
          have hP := hP1
          clear hP1
          generalize t.heap = H at hP hS ⊢
          have hP : va_P (dC, dI) vwCl (cw_W c kc st lg (rU ai 8 f8_12) al R) H := hP
          refine lv_iconst (v := 4) hx hb dX8_isAsked_32 (by decide) ?_
          refine lv_icmp_ne (tgt := 40) hx hb dX8_isAsked_33 (by decide) (fun c_13 => ?_) (fun c_13 => ?_)
          · skip
            have ic_13 := iv_ne c_13
            refine lv_iconst (v := 0) hx hb dX8_isAsked_40 (by decide) ?_
            exact W.zret hx hb hr rfl (fun t ht hW => ⟨⟨_, _, rfl, rfl, f8_12, R, (by omega), (by omega), (by omega), hPI, hmono, (cw_D hD), by rw [ht]; exact hP⟩, hS.F ht⟩) hS.2.2 dX8_isAsked_41
          · skip
            have ic_13 := iv_eq c_13
            refine lv_iconst (v := 1) hx hb dX8_isAsked_36 (by decide) ?_
            refine lv_goto (tgt := 41) hx hb dX8_isAsked_37 (by decide) ?_
            exact W.zret hx hb hr rfl (fun t ht hW => ⟨⟨_, _, rfl, rfl, f8_12, R, (by omega), (by omega), (by omega), hPI, hmono, (cw_D hD), by rw [ht]; exact hP⟩, hS.F ht⟩) hS.2.2 dX8_isAsked_41
    · skip
      have ic_1 := iv_nle c_1
      refine lv_iconst (v := 0) hx hb dX8_isAsked_4 (by decide) ?_
      exact W.zret hx hb hr rfl (fun t ht hW => ⟨⟨_, _, rfl, rfl, ai 8, R, (by omega), (by omega), (by omega), hPI, hmono, (cw_D hD), by rw [ht]; exact hP⟩, hS.F ht⟩) hS.2.2 dX8_isAsked_5
  exact main s.heap [] hP hS

set_option maxHeartbeats 4000000 in
set_option maxRecDepth 100000 in
theorem v_X8_told (l : Launch) (hl0 : l.stackTraces = false) (dC : Nat → ClassId) (dI : Nat → Nat → Nat) (c : Nat → Nat) (kc : Nat → ClassId) (st : Nat → Int32) (lg : Nat → Int64) (ai : Nat → Nat → Int32) (al : Nat → Nat → Int64) (R : va_W) (cap : Nat) (num : Nat → Int32) (p0 : Int32) (sz : Nat) (hPI : PI (kc 98) (kc 0) (c 99) (st 13) cap num none R) (hf3a : 0 ≤ (st 3).toInt) (hf3b : (st 3).toInt ≤ 8) (hf6a : 1 ≤ (st 6).toInt) (hf6b : (st 6).toInt ≤ 65536) (hf9a : 0 ≤ (st 9).toInt) (hf9b : (st 9).toInt ≤ 1) (hf13a : 0 ≤ (st 13).toInt) (hf13b : (st 13).toInt ≤ 65536) (hf15a : 0 ≤ (st 15).toInt) (hf15b : (st 15).toInt ≤ 1) (hf17a : 0 ≤ (st 17).toInt) (hf17b : (st 17).toInt ≤ 128) : vx_Met l yX8_told wsX8_told ({ frames := 6, cells := 1, slots := 6, locals := 139 }) (va_Pc [.ref (c 100), .int p0] (fun U => U.heap.size = sz ∧ va_P (dC, dI) vwCl (cw_W c kc st lg ai al R) U.heap ∧ va_K (dC, dI) vwCl (cw_T kc) U ∧ va_D (fun _ => True) (cw_W c kc st lg ai al R) ∧ gx_E (va_A (cw_W c kc st lg ai al R) sz) U)) (va_Qi (fun r (u : Int32) => r = u) (fun u t => ∃ (R9 : va_W), (PI (kc 98) (kc 0) (c 99) (st 13) cap num none R9) ∧ (∀ y m, pgM (kc 0) R y m → pgM (kc 0) R9 y m) ∧ (va_D (va_A (cw_W c kc st lg ai al R) sz) (cw_W c kc st lg ai al R9)) ∧ va_P (dC, dI) vwCl (cw_W c kc st lg ai al R9) t.heap) (va_A (cw_W c kc st lg ai al R) sz)) (vx_X (fun _ : Unit => True) (fun E _ t => E ∈ (["java/lang/IllegalArgumentException"] : List String) ∧ ∃ (R9 : va_W), (PI (kc 98) (kc 0) (c 99) (st 13) cap num none R9) ∧ (∀ y m, pgM (kc 0) R y m → pgM (kc 0) R9 y m) ∧ (va_D (va_A (cw_W c kc st lg ai al R) sz) (cw_W c kc st lg ai al R9)) ∧ va_P (dC, dI) vwCl (cw_W c kc st lg ai al R9) t.heap) (va_A (cw_W c kc st lg ai al R) sz)) 1 6 (va_A (cw_W c kc st lg ai al R) sz) := by
  refine vx_ofW (cc := cX8_told) (maxL := 2) (ret := (some .int)) (by decide) rfl ?_
  intro p e s m args below meth cM s₁ B hml hno hv
  obtain ⟨rfl, hsz, hP, hK, hD0, hG⟩ := hv
  have hx := B.exec
  have hb := B.bytes
  have hr := B.returns
  have hts := atoms_spec (ws := wsX8_told) B.pre
  have hown : s.vm.findClass RX8 = some m.cls := findClass_of_methodNamed B.named
  have hGW := hG.1
  have hlocks := B.notSynchronized
  subst hsz
  have hD := hD0.self (sz := s.heap.size)
  generalize hAe : va_A (cw_W c kc st lg ai al R) s.heap.size = A at hD hG ⊢
  have hA : ∀ q : Nat, s.heap.size ≤ q → A q := fun q h => by rw [← hAe]; exact Or.inr h
  have hS : va_S A s.heap s.heap [] := va_S.rf
  clear hAe hD0
  have hl := lv_entry ([.ref (c 100), .int p0]) (n := 2) (Nat.le_of_ble_eq_true rfl)
  rw [lg_entry_eq]
  generalize (lg_sl ([.ref (c 100), .int p0]) ++ List.replicate (2 - (lg_sl ([.ref (c 100), .int p0])).length) Slot.unset).toArray = ls at hl ⊢
  have hl : lv_has ls 2 [(0, .ref (c 100)), (1, .int p0)] := hl
  have z_0 : (0 : Int32).toInt = 0 := by decide
  have z_1 : (1 : Int32).toInt = 1 := by decide
  have z_2 : (2 : Int32).toInt = 2 := by decide
  have z_3 : (3 : Int32).toInt = 3 := by decide
  have z_4 : (4 : Int32).toInt = 4 := by decide
  have z_5 : (5 : Int32).toInt = 5 := by decide
  have z_6 : (6 : Int32).toInt = 6 := by decide
  have z_7 : (7 : Int32).toInt = 7 := by decide
  have z_8 : (8 : Int32).toInt = 8 := by decide
  have hin_X1 : ∀ w ∈ u_ws RX1 TX1 7, w ∈ wsX8_told := by decide +kernel
  have hin_X4 : ∀ w ∈ u_ws RX4 TX4 6, w ∈ wsX8_told := by decide +kernel
  have hin_X8 : ∀ w ∈ u_ws RX8 TX8 10, w ∈ wsX8_told := by decide +kernel
  have hmono : ∀ y m, pgM (kc 0) R y m → pgM (kc 0) R y m := fun y m h => h
  have main : ∀ (H : Heap) (locs : List Loc), va_P (dC, dI) vwCl (cw_W c kc st lg ai al R) H → va_S A s.heap H locs → W p l e (headSpec wsX8_told ({ frames := 6, cells := 1, slots := 6, locals := 139 })).room s m ([.ref (c 100), .int p0] : List Value).toArray below meth cM H locs 0 0 (vx_MQ below (va_Qi (fun r (u : Int32) => r = u) (fun u t => ∃ (R9 : va_W), (PI (kc 98) (kc 0) (c 99) (st 13) cap num none R9) ∧ (∀ y m, pgM (kc 0) R y m → pgM (kc 0) R9 y m) ∧ (va_D A (cw_W c kc st lg ai al R9)) ∧ va_P (dC, dI) vwCl (cw_W c kc st lg ai al R9) t.heap) A) (vx_X (fun _ : Unit => True) (fun E _ t => E ∈ (["java/lang/IllegalArgumentException"] : List String) ∧ ∃ (R9 : va_W), (PI (kc 98) (kc 0) (c 99) (st 13) cap num none R9) ∧ (∀ y m, pgM (kc 0) R y m → pgM (kc 0) R9 y m) ∧ (va_D A (cw_W c kc st lg ai al R9)) ∧ va_P (dC, dI) vwCl (cw_W c kc st lg ai al R9) t.heap) A) ([.ref (c 100), .int p0] : List Value).toArray s 1 6 A) (F0 m 0 ls []) := by
    intro H locs hP hS
    refine lv_iload_n hx hb dX8_told_0 rfl (lv_at hl 1 rfl) ?_
    refine lv_if_lt (tgt := 10) hx hb dX8_told_1 (by decide) (fun c_1 => ?_) (fun c_1 => ?_)
    · skip
      have ic_1 := iv_lt c_1
      obtain ⟨sa, hstr⟩ := hGW.2.1 ("BlockLog", 343, "what is not 0 .. 8") (by decide +kernel)
      exact vx_throwSW (names := ["java/lang/RuntimeException", "java/lang/Exception"]) hx hb hl0 hown (by decide +kernel) (by decide +kernel) (hts (.classLink RX8 76 "java/lang/IllegalArgumentException") (by decide +kernel)) (hts (.initialized "java/lang/IllegalArgumentException") (by decide +kernel)) hstr (vx_hat (B := gx_bad "java/lang/IllegalArgumentException") (fun w h => hts w (List.mem_cons_of_mem _ (List.mem_append_right _ h))) (by decide +kernel) (hGW.bad (by decide))) (by decide +kernel) hG.2.1 hG.2.2.1 hS (hl.1.trans hml.symm) dX8_told_10 dX8_told_13 dX8_told_14 dX8_told_17 dX8_told_20 (fun x h => (hno x h).elim) (Nat.le_of_ble_eq_true rfl) (Nat.le_of_ble_eq_true rfl) (Nat.le_of_ble_eq_true rfl) (Nat.le_of_ble_eq_true rfl) hlocks (fun t _ h1 h2 => ⟨(), trivial, ⟨(by decide +kernel), R, hPI, hmono, (cw_D hD), hP.kept (fun k q hk => h2 _ (hP k q hk).lt)⟩, Nat.le_trans hS.1 h1, fun q hq hn => (h2 q (Nat.lt_of_lt_of_le hq hS.1)).trans (hS.2.1 q hq hn)⟩) hS.2.2 (Nat.le_of_ble_eq_true rfl) (Nat.le_of_ble_eq_true rfl)
    · skip
      have ic_1 := iv_nlt c_1
      refine lv_iload_n hx hb dX8_told_4 rfl (lv_at hl 1 rfl) ?_
      refine lv_bipush (v := 8) hx hb dX8_told_5 (by decide) ?_
      refine lv_icmp_le (tgt := 21) hx hb dX8_told_7 (by decide) (fun c_2 => ?_) (fun c_2 => ?_)
      · skip
        have ic_2 := iv_le c_2
        refine lv_iload_n hx hb dX8_told_21 rfl (lv_at hl 1 rfl) ?_
        refine lv_iconst (v := 1) hx hb dX8_told_22 (by decide) ?_
        refine lv_icmp_ne (tgt := 34) hx hb dX8_told_23 (by decide) (fun c_3 => ?_) (fun c_3 => ?_)
        · skip
          have ic_3 := iv_ne c_3
          refine lv_aload_n hx hb dX8_told_34 rfl (lv_at hl 0 rfl) ?_
          refine va_get (D := (dC, dI)) (ci := 10) (v := .ref (c 102)) (C := RX8) (T := TX8) (N := 10) hx hb hts hin_X8 hown hK hP 0 rfl rfl 1 (by decide) (hts (.fieldLink RX8 22 "BlockLog" "disk" "LBlockLog$Disk;") (by decide +kernel)) (fun _ h9 => h9) rfl dX8_told_35 ?_
          refine va_getN (D := (dC, dI)) (ci := 3) (v := .int (st 9)) (C := RX1) (T := TX1) (N := 7) hx hb hts hin_X1 hown hK hP 2 rfl rfl 4 (by decide) (va_Nw.use rfl (hGW.1 ("BlockLog", 287, "BlockLog$Disk", "powered", "Z", "BlockLog") (by decide +kernel))) (fun _ h9 => h9) rfl dX8_told_38 ?_
          refine lv_if_ne (tgt := 46) hx hb dX8_told_41 (by decide) (fun c_4 => ?_) (fun c_4 => ?_)
          · skip
            have ic_4 := iv_ne c_4
            refine lv_iload_n hx hb dX8_told_46 rfl (lv_at hl 1 rfl) ?_
            rcases Decidable.em (p0 = (2 : Int32)) with t_5 | t_5
            · skip
              have it_5 := iv_eq t_5
              refine lv_tableIn (off := 41) (tgt := 88) hx hb dX8_told_47 (by omega) (by omega) (by rw [show (p0.toInt - 2).toNat = 0 by omega]; decide +kernel) (by decide) ?_
              refine lv_aload_n hx hb dX8_told_88 rfl (lv_at hl 0 rfl) ?_
              refine va_get (D := (dC, dI)) (ci := 10) (v := .ref (c 104)) (C := RX8) (T := TX8) (N := 10) hx hb hts hin_X8 hown hK hP 0 rfl rfl 2 (by decide) (hts (.fieldLink RX8 31 "BlockLog" "rows" "LBlockLog$Rows;") (by decide +kernel)) (fun _ h9 => h9) rfl dX8_told_89 ?_
              refine va_getN (D := (dC, dI)) (ci := 6) (v := .int (st 15)) (C := RX4) (T := TX4) (N := 6) hx hb hts hin_X4 hown hK hP 4 rfl rfl 2 (by decide) (va_Nw.use rfl (hGW.1 ("BlockLog", 252, "BlockLog$Rows", "area", "I", "BlockLog") (by decide +kernel))) (fun _ h9 => h9) rfl dX8_told_92 ?_
              refine W.widen (k := 1) (n := 6) (Nat.le_of_ble_eq_true rfl) (Nat.le_of_ble_eq_true rfl) ?_
              refine vx_ret ?_
              exact W.iret hx hb hr (fun t ht hW => ⟨⟨_, _, rfl, rfl, R, hPI, hmono, (cw_D hD), by rw [ht]; exact hP⟩, hS.F ht⟩) hS.2.2 dX8_told_95
            · skip
              have it_5 := iv_ne t_5
              rcases Decidable.em (p0 = (3 : Int32)) with t_6 | t_6
              · skip
                have it_6 := iv_eq t_6
                refine lv_tableIn (off := 49) (tgt := 96) hx hb dX8_told_47 (by omega) (by omega) (by rw [show (p0.toInt - 2).toNat = 1 by omega]; decide +kernel) (by decide) ?_
                refine lv_aload_n hx hb dX8_told_96 rfl (lv_at hl 0 rfl) ?_
                refine va_get (D := (dC, dI)) (ci := 10) (v := .ref (c 104)) (C := RX8) (T := TX8) (N := 10) hx hb hts hin_X8 hown hK hP 0 rfl rfl 2 (by decide) (hts (.fieldLink RX8 31 "BlockLog" "rows" "LBlockLog$Rows;") (by decide +kernel)) (fun _ h9 => h9) rfl dX8_told_97 ?_
                refine va_getN (D := (dC, dI)) (ci := 6) (v := .int (st 16)) (C := RX4) (T := TX4) (N := 6) hx hb hts hin_X4 hown hK hP 4 rfl rfl 3 (by decide) (va_Nw.use rfl (hGW.1 ("BlockLog", 348, "BlockLog$Rows", "generation", "I", "BlockLog") (by decide +kernel))) (fun _ h9 => h9) rfl dX8_told_100 ?_
                refine W.widen (k := 1) (n := 6) (Nat.le_of_ble_eq_true rfl) (Nat.le_of_ble_eq_true rfl) ?_
                refine vx_ret ?_
                exact W.iret hx hb hr (fun t ht hW => ⟨⟨_, _, rfl, rfl, R, hPI, hmono, (cw_D hD), by rw [ht]; exact hP⟩, hS.F ht⟩) hS.2.2 dX8_told_103
              · skip
                have it_6 := iv_ne t_6
                rcases Decidable.em (p0 = (4 : Int32)) with t_7 | t_7
                · skip
                  have it_7 := iv_eq t_7
                  refine lv_tableIn (off := 57) (tgt := 104) hx hb dX8_told_47 (by omega) (by omega) (by rw [show (p0.toInt - 2).toNat = 2 by omega]; decide +kernel) (by decide) ?_
                  refine lv_aload_n hx hb dX8_told_104 rfl (lv_at hl 0 rfl) ?_
                  refine va_get (D := (dC, dI)) (ci := 10) (v := .ref (c 104)) (C := RX8) (T := TX8) (N := 10) hx hb hts hin_X8 hown hK hP 0 rfl rfl 2 (by decide) (hts (.fieldLink RX8 31 "BlockLog" "rows" "LBlockLog$Rows;") (by decide +kernel)) (fun _ h9 => h9) rfl dX8_told_105 ?_
                  refine va_getN (D := (dC, dI)) (ci := 6) (v := .int (st 17)) (C := RX4) (T := TX4) (N := 6) hx hb hts hin_X4 hown hK hP 4 rfl rfl 4 (by decide) (va_Nw.use rfl (hGW.1 ("BlockLog", 151, "BlockLog$Rows", "count", "I", "BlockLog") (by decide +kernel))) (fun _ h9 => h9) rfl dX8_told_108 ?_
                  refine W.widen (k := 1) (n := 6) (Nat.le_of_ble_eq_true rfl) (Nat.le_of_ble_eq_true rfl) ?_
                  refine vx_ret ?_
                  exact W.iret hx hb hr (fun t ht hW => ⟨⟨_, _, rfl, rfl, R, hPI, hmono, (cw_D hD), by rw [ht]; exact hP⟩, hS.F ht⟩) hS.2.2 dX8_told_111
                · skip
                  have it_7 := iv_ne t_7
                  rcases Decidable.em (p0 = (5 : Int32)) with t_8 | t_8
                  · skip
                    have it_8 := iv_eq t_8
                    refine lv_tableIn (off := 65) (tgt := 112) hx hb dX8_told_47 (by omega) (by omega) (by rw [show (p0.toInt - 2).toNat = 3 by omega]; decide +kernel) (by decide) ?_
                    refine lv_aload_n hx hb dX8_told_112 rfl (lv_at hl 0 rfl) ?_
                    refine va_get (D := (dC, dI)) (ci := 10) (v := .ref (c 102)) (C := RX8) (T := TX8) (N := 10) hx hb hts hin_X8 hown hK hP 0 rfl rfl 1 (by decide) (hts (.fieldLink RX8 22 "BlockLog" "disk" "LBlockLog$Disk;") (by decide +kernel)) (fun _ h9 => h9) rfl dX8_told_113 ?_
                    have hFc := vfree ((cw_D hD : va_D A (cw_W c kc st lg ai al R)) : va_D A (cw_W c kc st lg ai al R)) hS hA
                    refine va_calli (va_runV (As := []) (rest := []) ⟨hx, hb, hml, hown, hts⟩ (v_X1_freePages l dC dI c kc st lg ai al R cap num  _ hPI (show 1 ≤ (st 6).toInt by omega) (show (st 6).toInt ≤ 65536 by omega) (show 0 ≤ (st 13).toInt by omega) (show (st 13).toInt ≤ 65536 by omega)) (cwV 0 hts gX8_told_X1_freePages rfl rfl rfl (by decide +kernel) ⟨Nat.le_of_ble_eq_true rfl, Nat.le_of_ble_eq_true rfl⟩) ⟨fun a U g mk q => by obtain ⟨q0, q1, qP, qK, qD, qG⟩ := q; exact ⟨q0, q1, qP, va_K.moved (u := U) (U := U.calling g mk a) (Vm.Alike.refl U.vm) qK, qD, qG.same rfl rfl⟩, va_recv hK hP (ci := 3) (q := (RX1, TX1, 7)) rfl (q0 := 2) rfl, fun U hU hW => ⟨rfl, by rw [hU], by rw [hU]; exact hP, va_K.moved hW.alike hK, ((cw_D hD : va_D A (cw_W c kc st lg ai al R))).weaken (fun _ _ _ _ => trivial), hG.go hW hU hS hFc⟩⟩ rfl rfl hl.1 rfl (lv_room (Nat.le_of_ble_eq_true rfl)) dX8_told_116 ⟨Nat.le_of_ble_eq_true rfl, Nat.le_of_ble_eq_true rfl⟩) hS (fun q _ h => hFc q h) hFc (fun r_9 ur_9 t H1 locs ht hvm er_9 hB hz1 hk1 hS => ?_)
                    subst er_9
                    obtain ⟨R_9, hPI, hmo, hD1, hP1⟩ := hB
                    rw [ht] at hP1
                    clear hz1 hk1 hvm hP
                    subst ht
                    have hP := hP1
                    clear hP1
                    generalize t.heap = H at hP hS ⊢
                    have hP : va_P (dC, dI) vwCl (cw_W c kc st lg ai al R_9) H := hP
                    have hD : va_D A (cw_W c kc st lg ai al R_9) := cw_D (hD1.weaken (fun _ _ _ h => hFc _ h))
                    have hPI : PI (kc 98) (kc 0) (c 99) (st 13) cap num none R_9 := hPI
                    clear hFc hD1
                    have hmono : ∀ y m, pgM (kc 0) R y m → pgM (kc 0) R_9 y m := fun y m h => hmo y m (hmono y m h)
                    refine W.widen (k := 1) (n := 6) (Nat.le_of_ble_eq_true rfl) (Nat.le_of_ble_eq_true rfl) ?_
                    refine vx_ret ?_
                    exact W.iret hx hb hr (fun t ht hW => ⟨⟨_, _, rfl, rfl, R_9, hPI, hmono, (cw_D hD), by rw [ht]; exact hP⟩, hS.F ht⟩) hS.2.2 dX8_told_119
                  · skip
                    have it_8 := iv_ne t_8
                    rcases Decidable.em (p0 = (6 : Int32)) with t_10 | t_10
                    · skip
                      have it_10 := iv_eq t_10
                      refine lv_tableIn (off := 73) (tgt := 120) hx hb dX8_told_47 (by omega) (by omega) (by rw [show (p0.toInt - 2).toNat = 4 by omega]; decide +kernel) (by decide) ?_
                      refine lv_aload_n hx hb dX8_told_120 rfl (lv_at hl 0 rfl) ?_
                      refine va_get (D := (dC, dI)) (ci := 10) (v := .ref (c 104)) (C := RX8) (T := TX8) (N := 10) hx hb hts hin_X8 hown hK hP 0 rfl rfl 2 (by decide) (hts (.fieldLink RX8 31 "BlockLog" "rows" "LBlockLog$Rows;") (by decide +kernel)) (fun _ h9 => h9) rfl dX8_told_121 ?_
                      refine va_getN (D := (dC, dI)) (ci := 6) (v := .int (st 18)) (C := RX4) (T := TX4) (N := 6) hx hb hts hin_X4 hown hK hP 4 rfl rfl 5 (by decide) (va_Nw.use rfl (hGW.1 ("BlockLog", 312, "BlockLog$Rows", "bad", "I", "BlockLog") (by decide +kernel))) (fun _ h9 => h9) rfl dX8_told_124 ?_
                      refine W.widen (k := 1) (n := 6) (Nat.le_of_ble_eq_true rfl) (Nat.le_of_ble_eq_true rfl) ?_
                      refine vx_ret ?_
                      exact W.iret hx hb hr (fun t ht hW => ⟨⟨_, _, rfl, rfl, R, hPI, hmono, (cw_D hD), by rw [ht]; exact hP⟩, hS.F ht⟩) hS.2.2 dX8_told_127
                    · skip
                      have it_10 := iv_ne t_10
                      rcases Decidable.em (p0 = (7 : Int32)) with t_11 | t_11
                      · skip
                        have it_11 := iv_eq t_11
                        refine lv_tableIn (off := 81) (tgt := 128) hx hb dX8_told_47 (by omega) (by omega) (by rw [show (p0.toInt - 2).toNat = 5 by omega]; decide +kernel) (by decide) ?_
                        refine lv_aload_n hx hb dX8_told_128 rfl (lv_at hl 0 rfl) ?_
                        refine va_get (D := (dC, dI)) (ci := 10) (v := .ref (c 102)) (C := RX8) (T := TX8) (N := 10) hx hb hts hin_X8 hown hK hP 0 rfl rfl 1 (by decide) (hts (.fieldLink RX8 22 "BlockLog" "disk" "LBlockLog$Disk;") (by decide +kernel)) (fun _ h9 => h9) rfl dX8_told_129 ?_
                        have hFc := vfree ((cw_D hD : va_D A (cw_W c kc st lg ai al R)) : va_D A (cw_W c kc st lg ai al R)) hS hA
                        refine va_calli (va_runV (As := []) (rest := []) ⟨hx, hb, hml, hown, hts⟩ (v_X1_badPages l dC dI c kc st lg ai al R cap num  _ hPI (show 0 ≤ (st 13).toInt by omega) (show (st 13).toInt ≤ 65536 by omega)) (cwV 0 hts gX8_told_X1_badPages rfl rfl rfl (by decide +kernel) ⟨Nat.le_of_ble_eq_true rfl, Nat.le_of_ble_eq_true rfl⟩) ⟨fun a U g mk q => by obtain ⟨q0, q1, qP, qK, qD, qG⟩ := q; exact ⟨q0, q1, qP, va_K.moved (u := U) (U := U.calling g mk a) (Vm.Alike.refl U.vm) qK, qD, qG.same rfl rfl⟩, va_recv hK hP (ci := 3) (q := (RX1, TX1, 7)) rfl (q0 := 2) rfl, fun U hU hW => ⟨rfl, by rw [hU], by rw [hU]; exact hP, va_K.moved hW.alike hK, ((cw_D hD : va_D A (cw_W c kc st lg ai al R))).weaken (fun _ _ _ _ => trivial), hG.go hW hU hS hFc⟩⟩ rfl rfl hl.1 rfl (lv_room (Nat.le_of_ble_eq_true rfl)) dX8_told_132 ⟨Nat.le_of_ble_eq_true rfl, Nat.le_of_ble_eq_true rfl⟩) hS (fun q _ h => hFc q h) hFc (fun r_12 ur_12 t H1 locs ht hvm er_12 hB hz1 hk1 hS => ?_)
                        subst er_12
                        obtain ⟨R_12, hPI, hmo, hD1, hP1⟩ := hB
                        rw [ht] at hP1
                        clear hz1 hk1 hvm hP
                        subst ht
                        have hP := hP1
                        clear hP1
                        generalize t.heap = H at hP hS ⊢
                        have hP : va_P (dC, dI) vwCl (cw_W c kc st lg ai al R_12) H := hP
                        have hD : va_D A (cw_W c kc st lg ai al R_12) := cw_D (hD1.weaken (fun _ _ _ h => hFc _ h))
                        have hPI : PI (kc 98) (kc 0) (c 99) (st 13) cap num none R_12 := hPI
                        clear hFc hD1
                        have hmono : ∀ y m, pgM (kc 0) R y m → pgM (kc 0) R_12 y m := fun y m h => hmo y m (hmono y m h)
                        refine W.widen (k := 1) (n := 6) (Nat.le_of_ble_eq_true rfl) (Nat.le_of_ble_eq_true rfl) ?_
                        refine vx_ret ?_
                        exact W.iret hx hb hr (fun t ht hW => ⟨⟨_, _, rfl, rfl, R_12, hPI, hmono, (cw_D hD), by rw [ht]; exact hP⟩, hS.F ht⟩) hS.2.2 dX8_told_135
                      · skip
                        have it_11 := iv_ne t_11
                        rcases Decidable.em (p0 = (8 : Int32)) with t_13 | t_13
                        · skip
                          have it_13 := iv_eq t_13
                          refine lv_tableIn (off := 89) (tgt := 136) hx hb dX8_told_47 (by omega) (by omega) (by rw [show (p0.toInt - 2).toNat = 6 by omega]; decide +kernel) (by decide) ?_
                          refine lv_aload_n hx hb dX8_told_136 rfl (lv_at hl 0 rfl) ?_
                          refine va_get (D := (dC, dI)) (ci := 10) (v := .int (st 3)) (C := RX8) (T := TX8) (N := 10) hx hb hts hin_X8 hown hK hP 0 rfl rfl 9 (by decide) (hts (.fieldLink RX8 72 "BlockLog" "collected" "I") (by decide +kernel)) (fun _ h9 => h9) rfl dX8_told_137 ?_
                          refine W.widen (k := 1) (n := 6) (Nat.le_of_ble_eq_true rfl) (Nat.le_of_ble_eq_true rfl) ?_
                          refine vx_ret ?_
                          exact W.iret hx hb hr (fun t ht hW => ⟨⟨_, _, rfl, rfl, R, hPI, hmono, (cw_D hD), by rw [ht]; exact hP⟩, hS.F ht⟩) hS.2.2 dX8_told_140
                        · skip
                          have it_13 := iv_ne t_13
                          refine lv_tableOut (tgt := 141) hx hb dX8_told_47 (by omega) (by decide) ?_
                          refine lv_iconst (v := 1) hx hb dX8_told_141 (by decide) ?_
                          refine W.widen (k := 1) (n := 6) (Nat.le_of_ble_eq_true rfl) (Nat.le_of_ble_eq_true rfl) ?_
                          refine vx_ret ?_
                          exact W.iret hx hb hr (fun t ht hW => ⟨⟨_, _, rfl, rfl, R, hPI, hmono, (cw_D hD), by rw [ht]; exact hP⟩, hS.F ht⟩) hS.2.2 dX8_told_142
          · skip
            have ic_4 := iv_eq c_4
            refine lv_iconst (v := 0) hx hb dX8_told_44 (by decide) ?_
            refine W.widen (k := 1) (n := 6) (Nat.le_of_ble_eq_true rfl) (Nat.le_of_ble_eq_true rfl) ?_
            refine vx_ret ?_
            exact W.iret hx hb hr (fun t ht hW => ⟨⟨_, _, rfl, rfl, R, hPI, hmono, (cw_D hD), by rw [ht]; exact hP⟩, hS.F ht⟩) hS.2.2 dX8_told_45
        · skip
          have ic_3 := iv_eq c_3
          refine lv_aload_n hx hb dX8_told_26 rfl (lv_at hl 0 rfl) ?_
          refine va_get (D := (dC, dI)) (ci := 10) (v := .ref (c 102)) (C := RX8) (T := TX8) (N := 10) hx hb hts hin_X8 hown hK hP 0 rfl rfl 1 (by decide) (hts (.fieldLink RX8 22 "BlockLog" "disk" "LBlockLog$Disk;") (by decide +kernel)) (fun _ h9 => h9) rfl dX8_told_27 ?_
          refine va_getN (D := (dC, dI)) (ci := 3) (v := .int (st 11)) (C := RX1) (T := TX1) (N := 7) hx hb hts hin_X1 hown hK hP 2 rfl rfl 6 (by decide) (va_Nw.use rfl (hGW.1 ("BlockLog", 345, "BlockLog$Disk", "actsDone", "I", "BlockLog") (by decide +kernel))) (fun _ h9 => h9) rfl dX8_told_30 ?_
          refine W.widen (k := 1) (n := 6) (Nat.le_of_ble_eq_true rfl) (Nat.le_of_ble_eq_true rfl) ?_
          refine vx_ret ?_
          exact W.iret hx hb hr (fun t ht hW => ⟨⟨_, _, rfl, rfl, R, hPI, hmono, (cw_D hD), by rw [ht]; exact hP⟩, hS.F ht⟩) hS.2.2 dX8_told_33
      · skip
        have ic_2 := iv_nle c_2
        obtain ⟨sa, hstr⟩ := hGW.2.1 ("BlockLog", 343, "what is not 0 .. 8") (by decide +kernel)
        exact vx_throwSW (names := ["java/lang/RuntimeException", "java/lang/Exception"]) hx hb hl0 hown (by decide +kernel) (by decide +kernel) (hts (.classLink RX8 76 "java/lang/IllegalArgumentException") (by decide +kernel)) (hts (.initialized "java/lang/IllegalArgumentException") (by decide +kernel)) hstr (vx_hat (B := gx_bad "java/lang/IllegalArgumentException") (fun w h => hts w (List.mem_cons_of_mem _ (List.mem_append_right _ h))) (by decide +kernel) (hGW.bad (by decide))) (by decide +kernel) hG.2.1 hG.2.2.1 hS (hl.1.trans hml.symm) dX8_told_10 dX8_told_13 dX8_told_14 dX8_told_17 dX8_told_20 (fun x h => (hno x h).elim) (Nat.le_of_ble_eq_true rfl) (Nat.le_of_ble_eq_true rfl) (Nat.le_of_ble_eq_true rfl) (Nat.le_of_ble_eq_true rfl) hlocks (fun t _ h1 h2 => ⟨(), trivial, ⟨(by decide +kernel), R, hPI, hmono, (cw_D hD), hP.kept (fun k q hk => h2 _ (hP k q hk).lt)⟩, Nat.le_trans hS.1 h1, fun q hq hn => (h2 q (Nat.lt_of_lt_of_le hq hS.1)).trans (hS.2.1 q hq hn)⟩) hS.2.2 (Nat.le_of_ble_eq_true rfl) (Nat.le_of_ble_eq_true rfl)
  exact main s.heap [] hP hS
