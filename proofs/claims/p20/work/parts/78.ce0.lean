set_option maxHeartbeats 4000000 in
set_option maxRecDepth 100000 in
theorem v_X8_demandPower (l : Launch) (hl0 : l.stackTraces = false) (dC : Nat → ClassId) (dI : Nat → Nat → Nat) (c : Nat → Nat) (kc : Nat → ClassId) (st : Nat → Int32) (lg : Nat → Int64) (ai : Nat → Nat → Int32) (al : Nat → Nat → Int64) (R : va_W)  (sz : Nat) (hf9a : 0 ≤ (st 9).toInt) (hf9b : (st 9).toInt ≤ 1) : vx_Met l yX8_demandPower wsX8_demandPower ({ frames := 6, cells := 1, slots := 6, locals := 90 }) (va_Pc [.ref (c 100)] (fun U => U.heap.size = sz ∧ va_P (dC, dI) vwCl (cw_W c kc st lg ai al R) U.heap ∧ va_K (dC, dI) vwCl (cw_T kc) U ∧ va_D (fun _ => True) (cw_W c kc st lg ai al R) ∧ gx_E (va_A (cw_W c kc st lg ai al R) sz) U)) (va_Qv (fun (_ : Unit) => True) (fun _ t => va_P (dC, dI) vwCl (cw_W c kc st lg ai al R) t.heap) (va_A (cw_W c kc st lg ai al R) sz)) (vx_X (fun _ : Unit => True) (fun E _ t => E ∈ (["java/lang/IllegalStateException"] : List String) ∧ va_P (dC, dI) vwCl (cw_W c kc st lg ai al R) t.heap) (va_A (cw_W c kc st lg ai al R) sz)) 1 6 (va_A (cw_W c kc st lg ai al R) sz) := by
  refine vx_ofW (cc := cX8_demandPower) (maxL := 1) (ret := none) (by decide) rfl ?_
  intro p e s m args below meth cM s₁ B hml hno hv
  obtain ⟨rfl, hsz, hP, hK, hD0, hG⟩ := hv
  have hx := B.exec
  have hb := B.bytes
  have hr := B.returns
  have hts := atoms_spec (ws := wsX8_demandPower) B.pre
  have hown : s.vm.findClass RX8 = some m.cls := findClass_of_methodNamed B.named
  have hGW := hG.1
  have hlocks := B.notSynchronized
  subst hsz
  have hD := hD0.self (sz := s.heap.size)
  generalize hAe : va_A (cw_W c kc st lg ai al R) s.heap.size = A at hD hG ⊢
  have hA : ∀ q : Nat, s.heap.size ≤ q → A q := fun q h => by rw [← hAe]; exact Or.inr h
  have hS : va_S A s.heap s.heap [] := va_S.rf
  clear hAe hD0
  have hl := lv_entry ([.ref (c 100)]) (n := 1) (Nat.le_of_ble_eq_true rfl)
  rw [lg_entry_eq]
  generalize (lg_sl ([.ref (c 100)]) ++ List.replicate (1 - (lg_sl ([.ref (c 100)])).length) Slot.unset).toArray = ls at hl ⊢
  have hl : lv_has ls 1 [(0, .ref (c 100))] := hl
  have z_0 : (0 : Int32).toInt = 0 := by decide
  have hin_X1 : ∀ w ∈ u_ws RX1 TX1 7, w ∈ wsX8_demandPower := by decide +kernel
  have hin_X8 : ∀ w ∈ u_ws RX8 TX8 10, w ∈ wsX8_demandPower := by decide +kernel
  have main : ∀ (H : Heap) (locs : List Loc), va_P (dC, dI) vwCl (cw_W c kc st lg ai al R) H → va_S A s.heap H locs → W p l e (headSpec wsX8_demandPower ({ frames := 6, cells := 1, slots := 6, locals := 90 })).room s m ([.ref (c 100)] : List Value).toArray below meth cM H locs 0 0 (vx_MQ below (va_Qv (fun (_ : Unit) => True) (fun _ t => va_P (dC, dI) vwCl (cw_W c kc st lg ai al R) t.heap) A) (vx_X (fun _ : Unit => True) (fun E _ t => E ∈ (["java/lang/IllegalStateException"] : List String) ∧ va_P (dC, dI) vwCl (cw_W c kc st lg ai al R) t.heap) A) ([.ref (c 100)] : List Value).toArray s 1 6 A) (F0 m 0 ls []) := by
    intro H locs hP hS
    refine lv_aload_n hx hb dX8_demandPower_0 rfl (lv_at hl 0 rfl) ?_
    refine va_get (D := (dC, dI)) (ci := 10) (v := .ref (c 102)) (C := RX8) (T := TX8) (N := 10) hx hb hts hin_X8 hown hK hP 0 rfl rfl 1 (by decide) (hts (.fieldLink RX8 22 "BlockLog" "disk" "LBlockLog$Disk;") (by decide +kernel)) (fun _ h9 => h9) rfl dX8_demandPower_1 ?_
    refine va_getN (D := (dC, dI)) (ci := 3) (v := .int (st 9)) (C := RX1) (T := TX1) (N := 7) hx hb hts hin_X1 hown hK hP 2 rfl rfl 4 (by decide) (va_Nw.use rfl (hGW.1 ("BlockLog", 287, "BlockLog$Disk", "powered", "Z", "BlockLog") (by decide +kernel))) (fun _ h9 => h9) rfl dX8_demandPower_4 ?_
    refine lv_if_ne (tgt := 21) hx hb dX8_demandPower_7 (by decide) (fun c_1 => ?_) (fun c_1 => ?_)
    · skip
      have ic_1 := iv_ne c_1
      refine W.widen (k := 1) (n := 6) (Nat.le_of_ble_eq_true rfl) (Nat.le_of_ble_eq_true rfl) ?_
      refine vx_ret ?_
      exact W.vret hx hb hr (fun t ht hW => ⟨⟨(), rfl, trivial, show va_P (dC, dI) vwCl (cw_W c kc st lg ai al R) t.heap by rw [ht]; exact hP⟩, hS.F ht⟩) hS.2.2 dX8_demandPower_21
    · skip
      have ic_1 := iv_eq c_1
      obtain ⟨sa, hstr⟩ := hGW.2.1 ("BlockLog", 351, "the power is off") (by decide +kernel)
      exact vx_throwSW (names := ["java/lang/RuntimeException", "java/lang/Exception"]) hx hb hl0 hown (by decide +kernel) (by decide +kernel) (hts (.classLink RX8 300 "java/lang/IllegalStateException") (by decide +kernel)) (hts (.initialized "java/lang/IllegalStateException") (by decide +kernel)) hstr (vx_hat (B := gx_bad "java/lang/IllegalStateException") (fun w h => hts w (List.mem_cons_of_mem _ (List.mem_append_right _ h))) (by decide +kernel) (hGW.bad (by decide))) (by decide +kernel) hG.2.1 hG.2.2.1 hS (hl.1.trans hml.symm) dX8_demandPower_10 dX8_demandPower_13 dX8_demandPower_14 dX8_demandPower_17 dX8_demandPower_20 (fun x h => (hno x h).elim) (Nat.le_of_ble_eq_true rfl) (Nat.le_of_ble_eq_true rfl) (Nat.le_of_ble_eq_true rfl) (Nat.le_of_ble_eq_true rfl) hlocks (fun t _ h1 h2 => ⟨(), trivial, ⟨(by decide +kernel), hP.kept (fun k q hk => h2 _ (hP k q hk).lt)⟩, Nat.le_trans hS.1 h1, fun q hq hn => (h2 q (Nat.lt_of_lt_of_le hq hS.1)).trans (hS.2.1 q hq hn)⟩) hS.2.2 (Nat.le_of_ble_eq_true rfl) (Nat.le_of_ble_eq_true rfl)
  exact main s.heap [] hP hS

set_option maxHeartbeats 4000000 in
set_option maxRecDepth 100000 in
theorem v_X8_demandHeight (l : Launch) (hl0 : l.stackTraces = false) (dC : Nat → ClassId) (dI : Nat → Nat → Nat) (c : Nat → Nat) (kc : Nat → ClassId) (st : Nat → Int32) (lg : Nat → Int64) (ai : Nat → Nat → Int32) (al : Nat → Nat → Int64) (R : va_W) (p0 : Int32) (sz : Nat)  : vx_Met l yX8_demandHeight wsX8_demandHeight ({ frames := 6, cells := 1, slots := 6, locals := 90 }) (va_Pc [.int p0] (fun U => U.heap.size = sz ∧ va_P (dC, dI) vwCl (cw_W c kc st lg ai al R) U.heap ∧ va_K (dC, dI) vwCl (cw_T kc) U ∧ va_D (fun _ => True) (cw_W c kc st lg ai al R) ∧ gx_E (va_A (cw_W c kc st lg ai al R) sz) U)) (va_Qv (fun (_ : Unit) => True) (fun _ t => va_P (dC, dI) vwCl (cw_W c kc st lg ai al R) t.heap) (va_A (cw_W c kc st lg ai al R) sz)) (vx_X (fun _ : Unit => True) (fun E _ t => E ∈ (["java/lang/IllegalArgumentException"] : List String) ∧ va_P (dC, dI) vwCl (cw_W c kc st lg ai al R) t.heap) (va_A (cw_W c kc st lg ai al R) sz)) 1 6 (va_A (cw_W c kc st lg ai al R) sz) := by
  refine vx_ofW (cc := cX8_demandHeight) (maxL := 1) (ret := none) (by decide) rfl ?_
  intro p e s m args below meth cM s₁ B hml hno hv
  obtain ⟨rfl, hsz, hP, hK, hD0, hG⟩ := hv
  have hx := B.exec
  have hb := B.bytes
  have hr := B.returns
  have hts := atoms_spec (ws := wsX8_demandHeight) B.pre
  have hown : s.vm.findClass RX8 = some m.cls := findClass_of_methodNamed B.named
  have hGW := hG.1
  have hlocks := B.notSynchronized
  subst hsz
  have hD := hD0.self (sz := s.heap.size)
  generalize hAe : va_A (cw_W c kc st lg ai al R) s.heap.size = A at hD hG ⊢
  have hA : ∀ q : Nat, s.heap.size ≤ q → A q := fun q h => by rw [← hAe]; exact Or.inr h
  have hS : va_S A s.heap s.heap [] := va_S.rf
  clear hAe hD0
  have hl := lv_entry ([.int p0]) (n := 1) (Nat.le_of_ble_eq_true rfl)
  rw [lg_entry_eq]
  generalize (lg_sl ([.int p0]) ++ List.replicate (1 - (lg_sl ([.int p0])).length) Slot.unset).toArray = ls at hl ⊢
  have hl : lv_has ls 1 [(0, .int p0)] := hl
  have z_0 : (0 : Int32).toInt = 0 := by decide
  have z_1 : (1 : Int32).toInt = 1 := by decide
  have main : ∀ (H : Heap) (locs : List Loc), va_P (dC, dI) vwCl (cw_W c kc st lg ai al R) H → va_S A s.heap H locs → W p l e (headSpec wsX8_demandHeight ({ frames := 6, cells := 1, slots := 6, locals := 90 })).room s m ([.int p0] : List Value).toArray below meth cM H locs 0 0 (vx_MQ below (va_Qv (fun (_ : Unit) => True) (fun _ t => va_P (dC, dI) vwCl (cw_W c kc st lg ai al R) t.heap) A) (vx_X (fun _ : Unit => True) (fun E _ t => E ∈ (["java/lang/IllegalArgumentException"] : List String) ∧ va_P (dC, dI) vwCl (cw_W c kc st lg ai al R) t.heap) A) ([.int p0] : List Value).toArray s 1 6 A) (F0 m 0 ls []) := by
    intro H locs hP hS
    refine lv_iload_n hx hb dX8_demandHeight_0 rfl (lv_at hl 0 rfl) ?_
    refine vp_callSi (va_Run.run (va_runS (As := [.int p0]) (rest := []) ⟨hx, hb, hml, hown, hts⟩ (v_X8_isHeight l dC dI p0 ) (va_cwS 1 hts gX8_demandHeight_X8_isHeight rfl rfl rfl (by decide +kernel) ⟨Nat.le_of_ble_eq_true rfl, Nat.le_of_ble_eq_true rfl⟩) ⟨fun a U g mk q => q, fun U hU hW => ⟨rfl, trivial⟩⟩ rfl rfl hl.1 rfl (lv_room (Nat.le_of_ble_eq_true rfl)) dX8_demandHeight_1 ⟨Nat.le_of_ble_eq_true rfl, Nat.le_of_ble_eq_true rfl⟩)) (fun r_1 er_1 => ?_)
    obtain ⟨k_2, k_3⟩ := er_1
    rcases iv_01 (a := r_1) (by omega) (by omega) with b_4 | b_4
    · skip
      have ib_4 := iv_eq b_4
      rw [b_4]
      refine lv_if_ne (tgt := 18) hx hb dX8_demandHeight_4 (by decide) (fun c_5 => ?_) (fun c_5 => ?_)
      · skip
        have ic_5 := iv_ne c_5
        exfalso
        omega
      · skip
        have ic_5 := iv_eq c_5
        obtain ⟨sa, hstr⟩ := hGW.2.1 ("BlockLog", 356, "height is not 1 .. 1000000") (by decide +kernel)
        exact vx_throwSW (names := ["java/lang/RuntimeException", "java/lang/Exception"]) hx hb hl0 hown (by decide +kernel) (by decide +kernel) (hts (.classLink RX8 76 "java/lang/IllegalArgumentException") (by decide +kernel)) (hts (.initialized "java/lang/IllegalArgumentException") (by decide +kernel)) hstr (vx_hat (B := gx_bad "java/lang/IllegalArgumentException") (fun w h => hts w (List.mem_cons_of_mem _ (List.mem_append_right _ h))) (by decide +kernel) (hGW.bad (by decide))) (by decide +kernel) hG.2.1 hG.2.2.1 hS (hl.1.trans hml.symm) dX8_demandHeight_7 dX8_demandHeight_10 dX8_demandHeight_11 dX8_demandHeight_14 dX8_demandHeight_17 (fun x h => (hno x h).elim) (Nat.le_of_ble_eq_true rfl) (Nat.le_of_ble_eq_true rfl) (Nat.le_of_ble_eq_true rfl) (Nat.le_of_ble_eq_true rfl) hlocks (fun t _ h1 h2 => ⟨(), trivial, ⟨(by decide +kernel), hP.kept (fun k q hk => h2 _ (hP k q hk).lt)⟩, Nat.le_trans hS.1 h1, fun q hq hn => (h2 q (Nat.lt_of_lt_of_le hq hS.1)).trans (hS.2.1 q hq hn)⟩) hS.2.2 (Nat.le_of_ble_eq_true rfl) (Nat.le_of_ble_eq_true rfl)
    · skip
      have ib_4 := iv_eq b_4
      rw [b_4]
      refine lv_if_ne (tgt := 18) hx hb dX8_demandHeight_4 (by decide) (fun c_6 => ?_) (fun c_6 => ?_)
      · skip
        have ic_6 := iv_ne c_6
        refine W.widen (k := 1) (n := 6) (Nat.le_of_ble_eq_true rfl) (Nat.le_of_ble_eq_true rfl) ?_
        refine vx_ret ?_
        exact W.vret hx hb hr (fun t ht hW => ⟨⟨(), rfl, trivial, show va_P (dC, dI) vwCl (cw_W c kc st lg ai al R) t.heap by rw [ht]; exact hP⟩, hS.F ht⟩) hS.2.2 dX8_demandHeight_18
      · skip
        have ic_6 := iv_eq c_6
        exfalso
        omega
  exact main s.heap [] hP hS

set_option maxHeartbeats 4000000 in
set_option maxRecDepth 100000 in
theorem v_X8_demandRow (l : Launch) (hl0 : l.stackTraces = false) (dC : Nat → ClassId) (dI : Nat → Nat → Nat) (c : Nat → Nat) (kc : Nat → ClassId) (st : Nat → Int32) (lg : Nat → Int64) (ai : Nat → Nat → Int32) (al : Nat → Nat → Int64) (R : va_W) (p0 : Int32) (sz : Nat) (hf9a : 0 ≤ (st 9).toInt) (hf9b : (st 9).toInt ≤ 1) (hf17a : 0 ≤ (st 17).toInt) (hf17b : (st 17).toInt ≤ 128) : vx_Met l yX8_demandRow wsX8_demandRow ({ frames := 6, cells := 1, slots := 6, locals := 90 }) (va_Pc [.ref (c 100), .int p0] (fun U => U.heap.size = sz ∧ va_P (dC, dI) vwCl (cw_W c kc st lg ai al R) U.heap ∧ va_K (dC, dI) vwCl (cw_T kc) U ∧ va_D (fun _ => True) (cw_W c kc st lg ai al R) ∧ gx_E (va_A (cw_W c kc st lg ai al R) sz) U)) (va_Qv (fun (_ : Unit) => True) (fun _ t => (0 ≤ p0.toInt) ∧ (p0.toInt ≤ 127) ∧ va_P (dC, dI) vwCl (cw_W c kc st lg ai al R) t.heap) (va_A (cw_W c kc st lg ai al R) sz)) (vx_X (fun _ : Unit => True) (fun E _ t => E ∈ (["java/lang/IndexOutOfBoundsException"] : List String) ∧ va_P (dC, dI) vwCl (cw_W c kc st lg ai al R) t.heap) (va_A (cw_W c kc st lg ai al R) sz)) 1 6 (va_A (cw_W c kc st lg ai al R) sz) := by
  refine vx_ofW (cc := cX8_demandRow) (maxL := 3) (ret := none) (by decide) rfl ?_
  intro p e s m args below meth cM s₁ B hml hno hv
  obtain ⟨rfl, hsz, hP, hK, hD0, hG⟩ := hv
  have hx := B.exec
  have hb := B.bytes
  have hr := B.returns
  have hts := atoms_spec (ws := wsX8_demandRow) B.pre
  have hown : s.vm.findClass RX8 = some m.cls := findClass_of_methodNamed B.named
  have hGW := hG.1
  have hlocks := B.notSynchronized
  subst hsz
  have hD := hD0.self (sz := s.heap.size)
  generalize hAe : va_A (cw_W c kc st lg ai al R) s.heap.size = A at hD hG ⊢
  have hA : ∀ q : Nat, s.heap.size ≤ q → A q := fun q h => by rw [← hAe]; exact Or.inr h
  have hS : va_S A s.heap s.heap [] := va_S.rf
  clear hAe hD0
  have hl := lv_entry ([.ref (c 100), .int p0]) (n := 3) (Nat.le_of_ble_eq_true rfl)
  rw [lg_entry_eq]
  generalize (lg_sl ([.ref (c 100), .int p0]) ++ List.replicate (3 - (lg_sl ([.ref (c 100), .int p0])).length) Slot.unset).toArray = ls at hl ⊢
  have hl : lv_has ls 3 [(0, .ref (c 100)), (1, .int p0)] := hl
  have z_0 : (0 : Int32).toInt = 0 := by decide
  have z_128 : (128 : Int32).toInt = 128 := by decide
  have hin_X1 : ∀ w ∈ u_ws RX1 TX1 7, w ∈ wsX8_demandRow := by decide +kernel
  have hin_X4 : ∀ w ∈ u_ws RX4 TX4 6, w ∈ wsX8_demandRow := by decide +kernel
  have hin_X8 : ∀ w ∈ u_ws RX8 TX8 10, w ∈ wsX8_demandRow := by decide +kernel
  have main : ∀ (H : Heap) (locs : List Loc), va_P (dC, dI) vwCl (cw_W c kc st lg ai al R) H → va_S A s.heap H locs → W p l e (headSpec wsX8_demandRow ({ frames := 6, cells := 1, slots := 6, locals := 90 })).room s m ([.ref (c 100), .int p0] : List Value).toArray below meth cM H locs 0 0 (vx_MQ below (va_Qv (fun (_ : Unit) => True) (fun _ t => (0 ≤ p0.toInt) ∧ (p0.toInt ≤ 127) ∧ va_P (dC, dI) vwCl (cw_W c kc st lg ai al R) t.heap) A) (vx_X (fun _ : Unit => True) (fun E _ t => E ∈ (["java/lang/IndexOutOfBoundsException"] : List String) ∧ va_P (dC, dI) vwCl (cw_W c kc st lg ai al R) t.heap) A) ([.ref (c 100), .int p0] : List Value).toArray s 1 6 A) (F0 m 0 ls []) := by
    intro H locs hP hS
    refine lv_aload_n hx hb dX8_demandRow_0 rfl (lv_at hl 0 rfl) ?_
    refine va_get (D := (dC, dI)) (ci := 10) (v := .ref (c 102)) (C := RX8) (T := TX8) (N := 10) hx hb hts hin_X8 hown hK hP 0 rfl rfl 1 (by decide) (hts (.fieldLink RX8 22 "BlockLog" "disk" "LBlockLog$Disk;") (by decide +kernel)) (fun _ h9 => h9) rfl dX8_demandRow_1 ?_
    refine va_getN (D := (dC, dI)) (ci := 3) (v := .int (st 9)) (C := RX1) (T := TX1) (N := 7) hx hb hts hin_X1 hown hK hP 2 rfl rfl 4 (by decide) (va_Nw.use rfl (hGW.1 ("BlockLog", 287, "BlockLog$Disk", "powered", "Z", "BlockLog") (by decide +kernel))) (fun _ h9 => h9) rfl dX8_demandRow_4 ?_
    refine lv_if_eq (tgt := 20) hx hb dX8_demandRow_7 (by decide) (fun c_1 => ?_) (fun c_1 => ?_)
    · skip
      have ic_1 := iv_eq c_1
      refine lv_sipush (v := 128) hx hb dX8_demandRow_20 (by decide) ?_
      refine lv_istore_n (lv' := [(2, .int (128 : Int32)), (0, .ref (c 100)), (1, .int p0)]) hx hb dX8_demandRow_23 rfl hl (by decide) rfl (fun ls hl => ?_)
      refine lv_iload_n hx hb dX8_demandRow_24 rfl (lv_at hl 2 rfl) ?_
      refine lv_if_lt (tgt := 33) hx hb dX8_demandRow_25 (by decide) (fun c_2 => ?_) (fun c_2 => ?_)
      · skip
        have ic_2 := iv_lt c_2
        obtain ⟨sa, hstr⟩ := hGW.2.1 ("BlockLog", 358, "no such row") (by decide +kernel)
        exact vx_throwSW (names := ["java/lang/RuntimeException", "java/lang/Exception"]) hx hb hl0 hown (by decide +kernel) (by decide +kernel) (hts (.classLink RX8 91 "java/lang/IndexOutOfBoundsException") (by decide +kernel)) (hts (.initialized "java/lang/IndexOutOfBoundsException") (by decide +kernel)) hstr (vx_hat (B := gx_bad "java/lang/IndexOutOfBoundsException") (fun w h => hts w (List.mem_cons_of_mem _ (List.mem_append_right _ h))) (by decide +kernel) (hGW.bad (by decide))) (by decide +kernel) hG.2.1 hG.2.2.1 hS (hl.1.trans hml.symm) dX8_demandRow_33 dX8_demandRow_36 dX8_demandRow_37 dX8_demandRow_40 dX8_demandRow_43 (fun x h => (hno x h).elim) (Nat.le_of_ble_eq_true rfl) (Nat.le_of_ble_eq_true rfl) (Nat.le_of_ble_eq_true rfl) (Nat.le_of_ble_eq_true rfl) hlocks (fun t _ h1 h2 => ⟨(), trivial, ⟨(by decide +kernel), hP.kept (fun k q hk => h2 _ (hP k q hk).lt)⟩, Nat.le_trans hS.1 h1, fun q hq hn => (h2 q (Nat.lt_of_lt_of_le hq hS.1)).trans (hS.2.1 q hq hn)⟩) hS.2.2 (Nat.le_of_ble_eq_true rfl) (Nat.le_of_ble_eq_true rfl)
      · skip
        have ic_2 := iv_nlt c_2
        refine lv_iload_n hx hb dX8_demandRow_28 rfl (lv_at hl 2 rfl) ?_
        refine lv_iload_n hx hb dX8_demandRow_29 rfl (lv_at hl 0 rfl) ?_
        refine lv_icmp_lt (tgt := 44) hx hb dX8_demandRow_30 (by decide) (fun c_3 => ?_) (fun c_3 => ?_)
        · skip
          have ic_3 := iv_lt c_3
          refine W.widen (k := 1) (n := 6) (Nat.le_of_ble_eq_true rfl) (Nat.le_of_ble_eq_true rfl) ?_
          refine vx_ret ?_
          exact W.vret hx hb hr (fun t ht hW => ⟨⟨(), rfl, trivial, (by omega), (by omega), by rw [ht]; exact hP⟩, hS.F ht⟩) hS.2.2 dX8_demandRow_44
        · skip
          have ic_3 := iv_nlt c_3
          obtain ⟨sa, hstr⟩ := hGW.2.1 ("BlockLog", 358, "no such row") (by decide +kernel)
          exact vx_throwSW (names := ["java/lang/RuntimeException", "java/lang/Exception"]) hx hb hl0 hown (by decide +kernel) (by decide +kernel) (hts (.classLink RX8 91 "java/lang/IndexOutOfBoundsException") (by decide +kernel)) (hts (.initialized "java/lang/IndexOutOfBoundsException") (by decide +kernel)) hstr (vx_hat (B := gx_bad "java/lang/IndexOutOfBoundsException") (fun w h => hts w (List.mem_cons_of_mem _ (List.mem_append_right _ h))) (by decide +kernel) (hGW.bad (by decide))) (by decide +kernel) hG.2.1 hG.2.2.1 hS (hl.1.trans hml.symm) dX8_demandRow_33 dX8_demandRow_36 dX8_demandRow_37 dX8_demandRow_40 dX8_demandRow_43 (fun x h => (hno x h).elim) (Nat.le_of_ble_eq_true rfl) (Nat.le_of_ble_eq_true rfl) (Nat.le_of_ble_eq_true rfl) (Nat.le_of_ble_eq_true rfl) hlocks (fun t _ h1 h2 => ⟨(), trivial, ⟨(by decide +kernel), hP.kept (fun k q hk => h2 _ (hP k q hk).lt)⟩, Nat.le_trans hS.1 h1, fun q hq hn => (h2 q (Nat.lt_of_lt_of_le hq hS.1)).trans (hS.2.1 q hq hn)⟩) hS.2.2 (Nat.le_of_ble_eq_true rfl) (Nat.le_of_ble_eq_true rfl)
    · skip
      have ic_1 := iv_ne c_1
      refine lv_aload_n hx hb dX8_demandRow_10 rfl (lv_at hl 0 rfl) ?_
      refine va_get (D := (dC, dI)) (ci := 10) (v := .ref (c 104)) (C := RX8) (T := TX8) (N := 10) hx hb hts hin_X8 hown hK hP 0 rfl rfl 2 (by decide) (hts (.fieldLink RX8 31 "BlockLog" "rows" "LBlockLog$Rows;") (by decide +kernel)) (fun _ h9 => h9) rfl dX8_demandRow_11 ?_
      refine va_getN (D := (dC, dI)) (ci := 6) (v := .int (st 17)) (C := RX4) (T := TX4) (N := 6) hx hb hts hin_X4 hown hK hP 4 rfl rfl 4 (by decide) (va_Nw.use rfl (hGW.1 ("BlockLog", 151, "BlockLog$Rows", "count", "I", "BlockLog") (by decide +kernel))) (fun _ h9 => h9) rfl dX8_demandRow_14 ?_
      refine lv_goto (tgt := 23) hx hb dX8_demandRow_17 (by decide) ?_
      refine lv_istore_n (lv' := [(2, .int (st 17)), (0, .ref (c 100)), (1, .int p0)]) hx hb dX8_demandRow_23 rfl hl (by decide) rfl (fun ls hl => ?_)
      refine lv_iload_n hx hb dX8_demandRow_24 rfl (lv_at hl 2 rfl) ?_
      refine lv_if_lt (tgt := 33) hx hb dX8_demandRow_25 (by decide) (fun c_4 => ?_) (fun c_4 => ?_)
      · skip
        have ic_4 := iv_lt c_4
        obtain ⟨sa, hstr⟩ := hGW.2.1 ("BlockLog", 358, "no such row") (by decide +kernel)
        exact vx_throwSW (names := ["java/lang/RuntimeException", "java/lang/Exception"]) hx hb hl0 hown (by decide +kernel) (by decide +kernel) (hts (.classLink RX8 91 "java/lang/IndexOutOfBoundsException") (by decide +kernel)) (hts (.initialized "java/lang/IndexOutOfBoundsException") (by decide +kernel)) hstr (vx_hat (B := gx_bad "java/lang/IndexOutOfBoundsException") (fun w h => hts w (List.mem_cons_of_mem _ (List.mem_append_right _ h))) (by decide +kernel) (hGW.bad (by decide))) (by decide +kernel) hG.2.1 hG.2.2.1 hS (hl.1.trans hml.symm) dX8_demandRow_33 dX8_demandRow_36 dX8_demandRow_37 dX8_demandRow_40 dX8_demandRow_43 (fun x h => (hno x h).elim) (Nat.le_of_ble_eq_true rfl) (Nat.le_of_ble_eq_true rfl) (Nat.le_of_ble_eq_true rfl) (Nat.le_of_ble_eq_true rfl) hlocks (fun t _ h1 h2 => ⟨(), trivial, ⟨(by decide +kernel), hP.kept (fun k q hk => h2 _ (hP k q hk).lt)⟩, Nat.le_trans hS.1 h1, fun q hq hn => (h2 q (Nat.lt_of_lt_of_le hq hS.1)).trans (hS.2.1 q hq hn)⟩) hS.2.2 (Nat.le_of_ble_eq_true rfl) (Nat.le_of_ble_eq_true rfl)
      · skip
        have ic_4 := iv_nlt c_4
        refine lv_iload_n hx hb dX8_demandRow_28 rfl (lv_at hl 2 rfl) ?_
        refine lv_iload_n hx hb dX8_demandRow_29 rfl (lv_at hl 0 rfl) ?_
        refine lv_icmp_lt (tgt := 44) hx hb dX8_demandRow_30 (by decide) (fun c_5 => ?_) (fun c_5 => ?_)
        · skip
          have ic_5 := iv_lt c_5
          refine W.widen (k := 1) (n := 6) (Nat.le_of_ble_eq_true rfl) (Nat.le_of_ble_eq_true rfl) ?_
          refine vx_ret ?_
          exact W.vret hx hb hr (fun t ht hW => ⟨⟨(), rfl, trivial, (by omega), (by omega), by rw [ht]; exact hP⟩, hS.F ht⟩) hS.2.2 dX8_demandRow_44
        · skip
          have ic_5 := iv_nlt c_5
          obtain ⟨sa, hstr⟩ := hGW.2.1 ("BlockLog", 358, "no such row") (by decide +kernel)
          exact vx_throwSW (names := ["java/lang/RuntimeException", "java/lang/Exception"]) hx hb hl0 hown (by decide +kernel) (by decide +kernel) (hts (.classLink RX8 91 "java/lang/IndexOutOfBoundsException") (by decide +kernel)) (hts (.initialized "java/lang/IndexOutOfBoundsException") (by decide +kernel)) hstr (vx_hat (B := gx_bad "java/lang/IndexOutOfBoundsException") (fun w h => hts w (List.mem_cons_of_mem _ (List.mem_append_right _ h))) (by decide +kernel) (hGW.bad (by decide))) (by decide +kernel) hG.2.1 hG.2.2.1 hS (hl.1.trans hml.symm) dX8_demandRow_33 dX8_demandRow_36 dX8_demandRow_37 dX8_demandRow_40 dX8_demandRow_43 (fun x h => (hno x h).elim) (Nat.le_of_ble_eq_true rfl) (Nat.le_of_ble_eq_true rfl) (Nat.le_of_ble_eq_true rfl) (Nat.le_of_ble_eq_true rfl) hlocks (fun t _ h1 h2 => ⟨(), trivial, ⟨(by decide +kernel), hP.kept (fun k q hk => h2 _ (hP k q hk).lt)⟩, Nat.le_trans hS.1 h1, fun q hq hn => (h2 q (Nat.lt_of_lt_of_le hq hS.1)).trans (hS.2.1 q hq hn)⟩) hS.2.2 (Nat.le_of_ble_eq_true rfl) (Nat.le_of_ble_eq_true rfl)
  exact main s.heap [] hP hS

set_option maxHeartbeats 4000000 in
set_option maxRecDepth 100000 in
theorem v_X8_demandPage (l : Launch) (hl0 : l.stackTraces = false) (dC : Nat → ClassId) (dI : Nat → Nat → Nat) (c : Nat → Nat) (kc : Nat → ClassId) (st : Nat → Int32) (lg : Nat → Int64) (ai : Nat → Nat → Int32) (al : Nat → Nat → Int64) (R : va_W) (p0 : Int32) (sz : Nat) (hf6a : 1 ≤ (st 6).toInt) (hf6b : (st 6).toInt ≤ 65536) : vx_Met l yX8_demandPage wsX8_demandPage ({ frames := 6, cells := 1, slots := 6, locals := 90 }) (va_Pc [.ref (c 100), .int p0] (fun U => U.heap.size = sz ∧ va_P (dC, dI) vwCl (cw_W c kc st lg ai al R) U.heap ∧ va_K (dC, dI) vwCl (cw_T kc) U ∧ va_D (fun _ => True) (cw_W c kc st lg ai al R) ∧ gx_E (va_A (cw_W c kc st lg ai al R) sz) U)) (va_Qv (fun (_ : Unit) => True) (fun _ t => (0 ≤ p0.toInt) ∧ (p0.toInt < (st 6).toInt) ∧ va_P (dC, dI) vwCl (cw_W c kc st lg ai al R) t.heap) (va_A (cw_W c kc st lg ai al R) sz)) (vx_X (fun _ : Unit => True) (fun E _ t => E ∈ (["java/lang/IndexOutOfBoundsException"] : List String) ∧ va_P (dC, dI) vwCl (cw_W c kc st lg ai al R) t.heap) (va_A (cw_W c kc st lg ai al R) sz)) 1 6 (va_A (cw_W c kc st lg ai al R) sz) := by
  refine vx_ofW (cc := cX8_demandPage) (maxL := 2) (ret := none) (by decide) rfl ?_
  intro p e s m args below meth cM s₁ B hml hno hv
  obtain ⟨rfl, hsz, hP, hK, hD0, hG⟩ := hv
  have hx := B.exec
  have hb := B.bytes
  have hr := B.returns
  have hts := atoms_spec (ws := wsX8_demandPage) B.pre
  have hown : s.vm.findClass RX8 = some m.cls := findClass_of_methodNamed B.named
  have hGW := hG.1
  have hlocks := B.notSynchronized
  subst hsz
  have hD := hD0.self (sz := s.heap.size)
  generalize hAe : va_A (cw_W c kc st lg ai al R) s.heap.size = A at hD hG ⊢
  have hA : ∀ q : Nat, s.heap.size ≤ q → A q := fun q h => by rw [← hAe]; exact Or.inr h
  have hS : va_S A s.heap s.heap [] := va_S.rf
  clear hAe hD0
  have hl := lv_entry ([.ref (c 100), .int p0]) (n := 2) (Nat.le_of_ble_eq_true rfl)
  rw [lg_entry_eq]
  generalize (lg_sl ([.ref (c 100), .int p0]) ++ List.replicate (2 - (lg_sl ([.ref (c 100), .int p0])).length) Slot.unset).toArray = ls at hl ⊢
  have hl : lv_has ls 2 [(0, .ref (c 100)), (1, .int p0)] := hl
  have z_0 : (0 : Int32).toInt = 0 := by decide
  have hin_X1 : ∀ w ∈ u_ws RX1 TX1 7, w ∈ wsX8_demandPage := by decide +kernel
  have hin_X8 : ∀ w ∈ u_ws RX8 TX8 10, w ∈ wsX8_demandPage := by decide +kernel
  have main : ∀ (H : Heap) (locs : List Loc), va_P (dC, dI) vwCl (cw_W c kc st lg ai al R) H → va_S A s.heap H locs → W p l e (headSpec wsX8_demandPage ({ frames := 6, cells := 1, slots := 6, locals := 90 })).room s m ([.ref (c 100), .int p0] : List Value).toArray below meth cM H locs 0 0 (vx_MQ below (va_Qv (fun (_ : Unit) => True) (fun _ t => (0 ≤ p0.toInt) ∧ (p0.toInt < (st 6).toInt) ∧ va_P (dC, dI) vwCl (cw_W c kc st lg ai al R) t.heap) A) (vx_X (fun _ : Unit => True) (fun E _ t => E ∈ (["java/lang/IndexOutOfBoundsException"] : List String) ∧ va_P (dC, dI) vwCl (cw_W c kc st lg ai al R) t.heap) A) ([.ref (c 100), .int p0] : List Value).toArray s 1 6 A) (F0 m 0 ls []) := by
    intro H locs hP hS
    refine lv_iload_n hx hb dX8_demandPage_0 rfl (lv_at hl 1 rfl) ?_
    refine lv_if_lt (tgt := 15) hx hb dX8_demandPage_1 (by decide) (fun c_1 => ?_) (fun c_1 => ?_)
    · skip
      have ic_1 := iv_lt c_1
      obtain ⟨sa, hstr⟩ := hGW.2.1 ("BlockLog", 121, "no such page") (by decide +kernel)
      exact vx_throwS (names := ["java/lang/RuntimeException", "java/lang/Exception"]) hx hb hl0 hown (by decide +kernel) (by decide +kernel) (hts (.classLink RX8 91 "java/lang/IndexOutOfBoundsException") (by decide +kernel)) (hts (.initialized "java/lang/IndexOutOfBoundsException") (by decide +kernel)) hstr (vx_hat (B := gx_bad "java/lang/IndexOutOfBoundsException") (fun w h => hts w (List.mem_cons_of_mem _ (List.mem_append_right _ h))) (by decide +kernel) (hGW.bad (by decide))) (by decide +kernel) hG.2.1 hG.2.2.1 hS (hl.1.trans hml.symm) dX8_demandPage_15 dX8_demandPage_18 dX8_demandPage_19 dX8_demandPage_21 dX8_demandPage_24 (fun x h => (hno x h).elim) (Nat.le_of_ble_eq_true rfl) (Nat.le_of_ble_eq_true rfl) (Nat.le_of_ble_eq_true rfl) (Nat.le_of_ble_eq_true rfl) hlocks (fun t _ h1 h2 => ⟨(), trivial, ⟨(by decide +kernel), hP.kept (fun k q hk => h2 _ (hP k q hk).lt)⟩, Nat.le_trans hS.1 h1, fun q hq hn => (h2 q (Nat.lt_of_lt_of_le hq hS.1)).trans (hS.2.1 q hq hn)⟩) hS.2.2 (Nat.le_of_ble_eq_true rfl) (Nat.le_of_ble_eq_true rfl)
    · skip
      have ic_1 := iv_nlt c_1
      refine lv_iload_n hx hb dX8_demandPage_4 rfl (lv_at hl 1 rfl) ?_
      refine lv_aload_n hx hb dX8_demandPage_5 rfl (lv_at hl 0 rfl) ?_
      refine va_get (D := (dC, dI)) (ci := 10) (v := .ref (c 102)) (C := RX8) (T := TX8) (N := 10) hx hb hts hin_X8 hown hK hP 0 rfl rfl 1 (by decide) (hts (.fieldLink RX8 22 "BlockLog" "disk" "LBlockLog$Disk;") (by decide +kernel)) (fun _ h9 => h9) rfl dX8_demandPage_6 ?_
      refine va_getN (D := (dC, dI)) (ci := 3) (v := .int (st 6)) (C := RX1) (T := TX1) (N := 7) hx hb hts hin_X1 hown hK hP 2 rfl rfl 0 (by decide) (va_Nw.use rfl (hGW.1 ("BlockLog", 118, "BlockLog$Disk", "pageCount", "I", "BlockLog") (by decide +kernel))) (fun _ h9 => h9) rfl dX8_demandPage_9 ?_
      refine lv_icmp_lt (tgt := 25) hx hb dX8_demandPage_12 (by decide) (fun c_2 => ?_) (fun c_2 => ?_)
      · skip
        have ic_2 := iv_lt c_2
        refine W.widen (k := 1) (n := 6) (Nat.le_of_ble_eq_true rfl) (Nat.le_of_ble_eq_true rfl) ?_
        refine vx_ret ?_
        exact W.vret hx hb hr (fun t ht hW => ⟨⟨(), rfl, trivial, (by omega), (by omega), by rw [ht]; exact hP⟩, hS.F ht⟩) hS.2.2 dX8_demandPage_25
      · skip
        have ic_2 := iv_nlt c_2
        obtain ⟨sa, hstr⟩ := hGW.2.1 ("BlockLog", 121, "no such page") (by decide +kernel)
        exact vx_throwS (names := ["java/lang/RuntimeException", "java/lang/Exception"]) hx hb hl0 hown (by decide +kernel) (by decide +kernel) (hts (.classLink RX8 91 "java/lang/IndexOutOfBoundsException") (by decide +kernel)) (hts (.initialized "java/lang/IndexOutOfBoundsException") (by decide +kernel)) hstr (vx_hat (B := gx_bad "java/lang/IndexOutOfBoundsException") (fun w h => hts w (List.mem_cons_of_mem _ (List.mem_append_right _ h))) (by decide +kernel) (hGW.bad (by decide))) (by decide +kernel) hG.2.1 hG.2.2.1 hS (hl.1.trans hml.symm) dX8_demandPage_15 dX8_demandPage_18 dX8_demandPage_19 dX8_demandPage_21 dX8_demandPage_24 (fun x h => (hno x h).elim) (Nat.le_of_ble_eq_true rfl) (Nat.le_of_ble_eq_true rfl) (Nat.le_of_ble_eq_true rfl) (Nat.le_of_ble_eq_true rfl) hlocks (fun t _ h1 h2 => ⟨(), trivial, ⟨(by decide +kernel), hP.kept (fun k q hk => h2 _ (hP k q hk).lt)⟩, Nat.le_trans hS.1 h1, fun q hq hn => (h2 q (Nat.lt_of_lt_of_le hq hS.1)).trans (hS.2.1 q hq hn)⟩) hS.2.2 (Nat.le_of_ble_eq_true rfl) (Nat.le_of_ble_eq_true rfl)
  exact main s.heap [] hP hS

set_option maxHeartbeats 4000000 in
set_option maxRecDepth 100000 in
theorem v_X8_demandPlace (l : Launch) (hl0 : l.stackTraces = false) (dC : Nat → ClassId) (dI : Nat → Nat → Nat) (c : Nat → Nat) (kc : Nat → ClassId) (st : Nat → Int32) (lg : Nat → Int64) (ai : Nat → Nat → Int32) (al : Nat → Nat → Int64) (R : va_W) (p0 : Int32) (sz : Nat) (hf6a : 1 ≤ (st 6).toInt) (hf6b : (st 6).toInt ≤ 65536) : vx_Met l yX8_demandPlace wsX8_demandPlace ({ frames := 6, cells := 1, slots := 6, locals := 90 }) (va_Pc [.ref (c 100), .int p0] (fun U => U.heap.size = sz ∧ va_P (dC, dI) vwCl (cw_W c kc st lg ai al R) U.heap ∧ va_K (dC, dI) vwCl (cw_T kc) U ∧ va_D (fun _ => True) (cw_W c kc st lg ai al R) ∧ gx_E (va_A (cw_W c kc st lg ai al R) sz) U)) (va_Qv (fun (_ : Unit) => True) (fun _ t => (0 ≤ p0.toInt) ∧ (p0.toInt < 8224 + 26 * (st 6).toInt) ∧ va_P (dC, dI) vwCl (cw_W c kc st lg ai al R) t.heap) (va_A (cw_W c kc st lg ai al R) sz)) (vx_X (fun _ : Unit => True) (fun E _ t => E ∈ (["java/lang/IndexOutOfBoundsException"] : List String) ∧ va_P (dC, dI) vwCl (cw_W c kc st lg ai al R) t.heap) (va_A (cw_W c kc st lg ai al R) sz)) 1 6 (va_A (cw_W c kc st lg ai al R) sz) := by
  refine vx_ofW (cc := cX8_demandPlace) (maxL := 2) (ret := none) (by decide) rfl ?_
  intro p e s m args below meth cM s₁ B hml hno hv
  obtain ⟨rfl, hsz, hP, hK, hD0, hG⟩ := hv
  have hx := B.exec
  have hb := B.bytes
  have hr := B.returns
  have hts := atoms_spec (ws := wsX8_demandPlace) B.pre
  have hown : s.vm.findClass RX8 = some m.cls := findClass_of_methodNamed B.named
  have hGW := hG.1
  have hlocks := B.notSynchronized
  subst hsz
  have hD := hD0.self (sz := s.heap.size)
  generalize hAe : va_A (cw_W c kc st lg ai al R) s.heap.size = A at hD hG ⊢
  have hA : ∀ q : Nat, s.heap.size ≤ q → A q := fun q h => by rw [← hAe]; exact Or.inr h
  have hS : va_S A s.heap s.heap [] := va_S.rf
  clear hAe hD0
  have hl := lv_entry ([.ref (c 100), .int p0]) (n := 2) (Nat.le_of_ble_eq_true rfl)
  rw [lg_entry_eq]
  generalize (lg_sl ([.ref (c 100), .int p0]) ++ List.replicate (2 - (lg_sl ([.ref (c 100), .int p0])).length) Slot.unset).toArray = ls at hl ⊢
  have hl : lv_has ls 2 [(0, .ref (c 100)), (1, .int p0)] := hl
  have z_0 : (0 : Int32).toInt = 0 := by decide
  have z_26 : (26 : Int32).toInt = 26 := by decide
  have z_8224 : (8224 : Int32).toInt = 8224 := by decide
  have hin_X1 : ∀ w ∈ u_ws RX1 TX1 7, w ∈ wsX8_demandPlace := by decide +kernel
  have hin_X8 : ∀ w ∈ u_ws RX8 TX8 10, w ∈ wsX8_demandPlace := by decide +kernel
  have main : ∀ (H : Heap) (locs : List Loc), va_P (dC, dI) vwCl (cw_W c kc st lg ai al R) H → va_S A s.heap H locs → W p l e (headSpec wsX8_demandPlace ({ frames := 6, cells := 1, slots := 6, locals := 90 })).room s m ([.ref (c 100), .int p0] : List Value).toArray below meth cM H locs 0 0 (vx_MQ below (va_Qv (fun (_ : Unit) => True) (fun _ t => (0 ≤ p0.toInt) ∧ (p0.toInt < 8224 + 26 * (st 6).toInt) ∧ va_P (dC, dI) vwCl (cw_W c kc st lg ai al R) t.heap) A) (vx_X (fun _ : Unit => True) (fun E _ t => E ∈ (["java/lang/IndexOutOfBoundsException"] : List String) ∧ va_P (dC, dI) vwCl (cw_W c kc st lg ai al R) t.heap) A) ([.ref (c 100), .int p0] : List Value).toArray s 1 6 A) (F0 m 0 ls []) := by
    intro H locs hP hS
    refine lv_iload_n hx hb dX8_demandPlace_0 rfl (lv_at hl 1 rfl) ?_
    refine lv_if_lt (tgt := 22) hx hb dX8_demandPlace_1 (by decide) (fun c_1 => ?_) (fun c_1 => ?_)
    · skip
      have ic_1 := iv_lt c_1
      obtain ⟨sa, hstr⟩ := hGW.2.1 ("BlockLog", 360, "no such place") (by decide +kernel)
      exact vx_throwSW (names := ["java/lang/RuntimeException", "java/lang/Exception"]) hx hb hl0 hown (by decide +kernel) (by decide +kernel) (hts (.classLink RX8 91 "java/lang/IndexOutOfBoundsException") (by decide +kernel)) (hts (.initialized "java/lang/IndexOutOfBoundsException") (by decide +kernel)) hstr (vx_hat (B := gx_bad "java/lang/IndexOutOfBoundsException") (fun w h => hts w (List.mem_cons_of_mem _ (List.mem_append_right _ h))) (by decide +kernel) (hGW.bad (by decide))) (by decide +kernel) hG.2.1 hG.2.2.1 hS (hl.1.trans hml.symm) dX8_demandPlace_22 dX8_demandPlace_25 dX8_demandPlace_26 dX8_demandPlace_29 dX8_demandPlace_32 (fun x h => (hno x h).elim) (Nat.le_of_ble_eq_true rfl) (Nat.le_of_ble_eq_true rfl) (Nat.le_of_ble_eq_true rfl) (Nat.le_of_ble_eq_true rfl) hlocks (fun t _ h1 h2 => ⟨(), trivial, ⟨(by decide +kernel), hP.kept (fun k q hk => h2 _ (hP k q hk).lt)⟩, Nat.le_trans hS.1 h1, fun q hq hn => (h2 q (Nat.lt_of_lt_of_le hq hS.1)).trans (hS.2.1 q hq hn)⟩) hS.2.2 (Nat.le_of_ble_eq_true rfl) (Nat.le_of_ble_eq_true rfl)
    · skip
      have ic_1 := iv_nlt c_1
      refine lv_iload_n hx hb dX8_demandPlace_4 rfl (lv_at hl 1 rfl) ?_
      refine lv_sipush (v := 8224) hx hb dX8_demandPlace_5 (by decide) ?_
      refine lv_bipush (v := 26) hx hb dX8_demandPlace_8 (by decide) ?_
      refine lv_aload_n hx hb dX8_demandPlace_10 rfl (lv_at hl 0 rfl) ?_
      refine va_get (D := (dC, dI)) (ci := 10) (v := .ref (c 102)) (C := RX8) (T := TX8) (N := 10) hx hb hts hin_X8 hown hK hP 0 rfl rfl 1 (by decide) (hts (.fieldLink RX8 22 "BlockLog" "disk" "LBlockLog$Disk;") (by decide +kernel)) (fun _ h9 => h9) rfl dX8_demandPlace_11 ?_
      refine va_getN (D := (dC, dI)) (ci := 3) (v := .int (st 6)) (C := RX1) (T := TX1) (N := 7) hx hb hts hin_X1 hown hK hP 2 rfl rfl 0 (by decide) (va_Nw.use rfl (hGW.1 ("BlockLog", 118, "BlockLog$Disk", "pageCount", "I", "BlockLog") (by decide +kernel))) (fun _ h9 => h9) rfl dX8_demandPlace_14 ?_
      refine lv_imul hx hb dX8_demandPlace_17 ?_
      refine lv_topi (fun v_2 ev_2 => ?_)
      have rg1 := iv_rng (st 6)
      have hv_2 : v_2.toInt = 26 * (st 6).toInt := by rw [ev_2]; exact (iv_mulc z_26 (by omega) (by omega)).trans (by omega)
      clear ev_2
      refine lv_iadd hx hb dX8_demandPlace_18 ?_
      refine lv_topi (fun v_3 ev_3 => ?_)
      have rg2 := iv_rng v_2
      have hv_3 : v_3.toInt = 8224 + v_2.toInt := by rw [ev_3]; exact (iv_add (by omega) (by omega)).trans (by omega)
      clear ev_3
      refine lv_icmp_lt (tgt := 33) hx hb dX8_demandPlace_19 (by decide) (fun c_4 => ?_) (fun c_4 => ?_)
      · skip
        have ic_4 := iv_lt c_4
        refine W.widen (k := 1) (n := 6) (Nat.le_of_ble_eq_true rfl) (Nat.le_of_ble_eq_true rfl) ?_
        refine vx_ret ?_
        exact W.vret hx hb hr (fun t ht hW => ⟨⟨(), rfl, trivial, (by omega), (by omega), by rw [ht]; exact hP⟩, hS.F ht⟩) hS.2.2 dX8_demandPlace_33
      · skip
        have ic_4 := iv_nlt c_4
        obtain ⟨sa, hstr⟩ := hGW.2.1 ("BlockLog", 360, "no such place") (by decide +kernel)
        exact vx_throwSW (names := ["java/lang/RuntimeException", "java/lang/Exception"]) hx hb hl0 hown (by decide +kernel) (by decide +kernel) (hts (.classLink RX8 91 "java/lang/IndexOutOfBoundsException") (by decide +kernel)) (hts (.initialized "java/lang/IndexOutOfBoundsException") (by decide +kernel)) hstr (vx_hat (B := gx_bad "java/lang/IndexOutOfBoundsException") (fun w h => hts w (List.mem_cons_of_mem _ (List.mem_append_right _ h))) (by decide +kernel) (hGW.bad (by decide))) (by decide +kernel) hG.2.1 hG.2.2.1 hS (hl.1.trans hml.symm) dX8_demandPlace_22 dX8_demandPlace_25 dX8_demandPlace_26 dX8_demandPlace_29 dX8_demandPlace_32 (fun x h => (hno x h).elim) (Nat.le_of_ble_eq_true rfl) (Nat.le_of_ble_eq_true rfl) (Nat.le_of_ble_eq_true rfl) (Nat.le_of_ble_eq_true rfl) hlocks (fun t _ h1 h2 => ⟨(), trivial, ⟨(by decide +kernel), hP.kept (fun k q hk => h2 _ (hP k q hk).lt)⟩, Nat.le_trans hS.1 h1, fun q hq hn => (h2 q (Nat.lt_of_lt_of_le hq hS.1)).trans (hS.2.1 q hq hn)⟩) hS.2.2 (Nat.le_of_ble_eq_true rfl) (Nat.le_of_ble_eq_true rfl)
  exact main s.heap [] hP hS

set_option maxHeartbeats 4000000 in
set_option maxRecDepth 100000 in
theorem v_X8_cut (l : Launch) (hl0 : l.stackTraces = false) (dC : Nat → ClassId) (dI : Nat → Nat → Nat) (c : Nat → Nat) (kc : Nat → ClassId) (st : Nat → Int32) (lg : Nat → Int64) (ai : Nat → Nat → Int32) (al : Nat → Nat → Int64) (R : va_W) (p0 : Int32) (sz : Nat)  : vx_Met l yX8_cut wsX8_cut ({ frames := 6, cells := 1, slots := 6, locals := 90 }) (va_Pc [.ref (c 100), .int p0] (fun U => U.heap.size = sz ∧ va_P (dC, dI) vwCl (cw_W c kc st lg ai al R) U.heap ∧ va_K (dC, dI) vwCl (cw_T kc) U ∧ va_D (fun _ => True) (cw_W c kc st lg ai al R) ∧ gx_E (va_A (cw_W c kc st lg ai al R) sz) U)) (va_Qv (fun (_ : Unit) => True) (fun _ t => ∃ (x10 : Int32), va_P (dC, dI) vwCl (cw_W c kc (rU st 10 x10) lg ai al R) t.heap) (va_A (cw_W c kc st lg ai al R) sz)) (vx_X (fun _ : Unit => True) (fun E _ t => E ∈ (["java/lang/IllegalArgumentException"] : List String) ∧ ∃ (x10 : Int32), va_P (dC, dI) vwCl (cw_W c kc (rU st 10 x10) lg ai al R) t.heap) (va_A (cw_W c kc st lg ai al R) sz)) 1 6 (va_A (cw_W c kc st lg ai al R) sz) := by
  refine vx_ofW (cc := cX8_cut) (maxL := 2) (ret := none) (by decide) rfl ?_
  intro p e s m args below meth cM s₁ B hml hno hv
  obtain ⟨rfl, hsz, hP, hK, hD0, hG⟩ := hv
  have hx := B.exec
  have hb := B.bytes
  have hr := B.returns
  have hts := atoms_spec (ws := wsX8_cut) B.pre
  have hown : s.vm.findClass RX8 = some m.cls := findClass_of_methodNamed B.named
  have hGW := hG.1
  have hlocks := B.notSynchronized
  subst hsz
  have hD := hD0.self (sz := s.heap.size)
  generalize hAe : va_A (cw_W c kc st lg ai al R) s.heap.size = A at hD hG ⊢
  have hA : ∀ q : Nat, s.heap.size ≤ q → A q := fun q h => by rw [← hAe]; exact Or.inr h
  have hS : va_S A s.heap s.heap [] := va_S.rf
  clear hAe hD0
  have hl := lv_entry ([.ref (c 100), .int p0]) (n := 2) (Nat.le_of_ble_eq_true rfl)
  rw [lg_entry_eq]
  generalize (lg_sl ([.ref (c 100), .int p0]) ++ List.replicate (2 - (lg_sl ([.ref (c 100), .int p0])).length) Slot.unset).toArray = ls at hl ⊢
  have hl : lv_has ls 2 [(0, .ref (c 100)), (1, .int p0)] := hl
  have z_m1 : (-1 : Int32).toInt = -1 := by decide
  have z_5000 : (5000 : Int32).toInt = 5000 := by decide
  have hin_X1 : ∀ w ∈ u_ws RX1 TX1 7, w ∈ wsX8_cut := by decide +kernel
  have hin_X8 : ∀ w ∈ u_ws RX8 TX8 10, w ∈ wsX8_cut := by decide +kernel
  have main : ∀ (H : Heap) (locs : List Loc), va_P (dC, dI) vwCl (cw_W c kc st lg ai al R) H → va_S A s.heap H locs → W p l e (headSpec wsX8_cut ({ frames := 6, cells := 1, slots := 6, locals := 90 })).room s m ([.ref (c 100), .int p0] : List Value).toArray below meth cM H locs 0 0 (vx_MQ below (va_Qv (fun (_ : Unit) => True) (fun _ t => ∃ (x10 : Int32), va_P (dC, dI) vwCl (cw_W c kc (rU st 10 x10) lg ai al R) t.heap) A) (vx_X (fun _ : Unit => True) (fun E _ t => E ∈ (["java/lang/IllegalArgumentException"] : List String) ∧ ∃ (x10 : Int32), va_P (dC, dI) vwCl (cw_W c kc (rU st 10 x10) lg ai al R) t.heap) A) ([.ref (c 100), .int p0] : List Value).toArray s 1 6 A) (F0 m 0 ls []) := by
    intro H locs hP hS
    refine lv_iload_n hx hb dX8_cut_0 rfl (lv_at hl 1 rfl) ?_
    refine lv_iconst (v := (-1)) hx hb dX8_cut_1 (by decide) ?_
    refine lv_icmp_lt (tgt := 12) hx hb dX8_cut_2 (by decide) (fun c_1 => ?_) (fun c_1 => ?_)
    · skip
      have ic_1 := iv_lt c_1
      obtain ⟨sa, hstr⟩ := hGW.2.1 ("BlockLog", 282, "acts is neither NONE nor 0 .. 5000") (by decide +kernel)
      exact vx_throwSW (names := ["java/lang/RuntimeException", "java/lang/Exception"]) hx hb hl0 hown (by decide +kernel) (by decide +kernel) (hts (.classLink RX8 76 "java/lang/IllegalArgumentException") (by decide +kernel)) (hts (.initialized "java/lang/IllegalArgumentException") (by decide +kernel)) hstr (vx_hat (B := gx_bad "java/lang/IllegalArgumentException") (fun w h => hts w (List.mem_cons_of_mem _ (List.mem_append_right _ h))) (by decide +kernel) (hGW.bad (by decide))) (by decide +kernel) hG.2.1 hG.2.2.1 hS (hl.1.trans hml.symm) dX8_cut_12 dX8_cut_15 dX8_cut_16 dX8_cut_19 dX8_cut_22 (fun x h => (hno x h).elim) (Nat.le_of_ble_eq_true rfl) (Nat.le_of_ble_eq_true rfl) (Nat.le_of_ble_eq_true rfl) (Nat.le_of_ble_eq_true rfl) hlocks (fun t _ h1 h2 => ⟨(), trivial, ⟨(by decide +kernel), st 10, hP.kept (fun k q hk => h2 _ (hP k q hk).lt)⟩, Nat.le_trans hS.1 h1, fun q hq hn => (h2 q (Nat.lt_of_lt_of_le hq hS.1)).trans (hS.2.1 q hq hn)⟩) hS.2.2 (Nat.le_of_ble_eq_true rfl) (Nat.le_of_ble_eq_true rfl)
    · skip
      have ic_1 := iv_nlt c_1
      refine lv_iload_n hx hb dX8_cut_5 rfl (lv_at hl 1 rfl) ?_
      refine lv_sipush (v := 5000) hx hb dX8_cut_6 (by decide) ?_
      refine lv_icmp_le (tgt := 23) hx hb dX8_cut_9 (by decide) (fun c_2 => ?_) (fun c_2 => ?_)
      · skip
        have ic_2 := iv_le c_2
        refine lv_aload_n hx hb dX8_cut_23 rfl (lv_at hl 0 rfl) ?_
        refine va_get (D := (dC, dI)) (ci := 10) (v := .ref (c 102)) (C := RX8) (T := TX8) (N := 10) hx hb hts hin_X8 hown hK hP 0 rfl rfl 1 (by decide) (hts (.fieldLink RX8 22 "BlockLog" "disk" "LBlockLog$Disk;") (by decide +kernel)) (fun _ h9 => h9) rfl dX8_cut_24 ?_
        refine lv_iload_n hx hb dX8_cut_27 rfl (lv_at hl 1 rfl) ?_
        refine va_putN (D := (dC, dI)) (ci := 3) (v := .int p0) (ty := .int) (C := RX1) (T := TX1) (N := 7) hx hb hts hin_X1 tyX1 tyX1_ok nmX1 hown hK hP (cw_D hD) hS 2 rfl rfl 5 (by decide) (va_Nw.use rfl (hGW.1 ("BlockLog", 284, "BlockLog$Disk", "actsLeft", "I", "BlockLog") (by decide +kernel))) (fun _ h9 => h9) rfl (by decide +kernel) rfl rfl (Nat.le_of_ble_eq_true rfl) dX8_cut_28 (fun H locs hP _ hS => ?_)
        have hP : va_P (dC, dI) vwCl (cw_W c kc (rU st 10 p0) lg ai al R) H := hP
        refine W.widen (k := 1) (n := 6) (Nat.le_of_ble_eq_true rfl) (Nat.le_of_ble_eq_true rfl) ?_
        refine vx_ret ?_
        exact W.vret hx hb hr (fun t ht hW => ⟨⟨(), rfl, trivial, p0, by rw [ht]; exact hP⟩, hS.F ht⟩) hS.2.2 dX8_cut_31
      · skip
        have ic_2 := iv_nle c_2
        obtain ⟨sa, hstr⟩ := hGW.2.1 ("BlockLog", 282, "acts is neither NONE nor 0 .. 5000") (by decide +kernel)
        exact vx_throwSW (names := ["java/lang/RuntimeException", "java/lang/Exception"]) hx hb hl0 hown (by decide +kernel) (by decide +kernel) (hts (.classLink RX8 76 "java/lang/IllegalArgumentException") (by decide +kernel)) (hts (.initialized "java/lang/IllegalArgumentException") (by decide +kernel)) hstr (vx_hat (B := gx_bad "java/lang/IllegalArgumentException") (fun w h => hts w (List.mem_cons_of_mem _ (List.mem_append_right _ h))) (by decide +kernel) (hGW.bad (by decide))) (by decide +kernel) hG.2.1 hG.2.2.1 hS (hl.1.trans hml.symm) dX8_cut_12 dX8_cut_15 dX8_cut_16 dX8_cut_19 dX8_cut_22 (fun x h => (hno x h).elim) (Nat.le_of_ble_eq_true rfl) (Nat.le_of_ble_eq_true rfl) (Nat.le_of_ble_eq_true rfl) (Nat.le_of_ble_eq_true rfl) hlocks (fun t _ h1 h2 => ⟨(), trivial, ⟨(by decide +kernel), st 10, hP.kept (fun k q hk => h2 _ (hP k q hk).lt)⟩, Nat.le_trans hS.1 h1, fun q hq hn => (h2 q (Nat.lt_of_lt_of_le hq hS.1)).trans (hS.2.1 q hq hn)⟩) hS.2.2 (Nat.le_of_ble_eq_true rfl) (Nat.le_of_ble_eq_true rfl)
  exact main s.heap [] hP hS

set_option maxHeartbeats 4000000 in
set_option maxRecDepth 100000 in
theorem v_X8_feed (l : Launch) (hl0 : l.stackTraces = false) (dC : Nat → ClassId) (dI : Nat → Nat → Nat) (c : Nat → Nat) (kc : Nat → ClassId) (st : Nat → Int32) (lg : Nat → Int64) (ai : Nat → Nat → Int32) (al : Nat → Nat → Int64) (R : va_W) (p0 : Int64) (p1 : Int32) (sz : Nat) (hf5a : 0 ≤ (st 5).toInt) (hf5b : (st 5).toInt ≤ 400) (hR4 : aR (ai 4) 400 (-128) 127) : vx_Met l yX8_feed wsX8_feed ({ frames := 6, cells := 1, slots := 6, locals := 90 }) (va_Pc [.ref (c 100), .long p0, .int p1] (fun U => U.heap.size = sz ∧ va_P (dC, dI) vwCl (cw_W c kc st lg ai al R) U.heap ∧ va_K (dC, dI) vwCl (cw_T kc) U ∧ va_D (fun _ => True) (cw_W c kc st lg ai al R) ∧ gx_E (va_A (cw_W c kc st lg ai al R) sz) U)) (va_Qi (fun r (u : Int32) => r = u) (fun u t => ∃ (x5 : Int32) (f4 : Nat → Int32), (0 ≤ x5.toInt) ∧ (x5.toInt ≤ 400) ∧ (aR f4 400 (-128) 127) ∧ va_P (dC, dI) vwCl (cw_W c kc (rU st 5 x5) lg (rU ai 4 f4) al R) t.heap) (va_A (cw_W c kc st lg ai al R) sz)) (vx_X (fun _ : Unit => True) (fun E _ t => E ∈ (["java/lang/IllegalArgumentException"] : List String) ∧ ∃ (x5 : Int32) (f4 : Nat → Int32), (0 ≤ x5.toInt) ∧ (x5.toInt ≤ 400) ∧ (aR f4 400 (-128) 127) ∧ va_P (dC, dI) vwCl (cw_W c kc (rU st 5 x5) lg (rU ai 4 f4) al R) t.heap) (va_A (cw_W c kc st lg ai al R) sz)) 1 6 (va_A (cw_W c kc st lg ai al R) sz) := by
  refine vx_ofW (cc := cX8_feed) (maxL := 5) (ret := (some .int)) (by decide) rfl ?_
  intro p e s m args below meth cM s₁ B hml hno hv
  obtain ⟨rfl, hsz, hP, hK, hD0, hG⟩ := hv
  have hx := B.exec
  have hb := B.bytes
  have hr := B.returns
  have hts := atoms_spec (ws := wsX8_feed) B.pre
  have hown : s.vm.findClass RX8 = some m.cls := findClass_of_methodNamed B.named
  have hGW := hG.1
  have hlocks := B.notSynchronized
  subst hsz
  have hD := hD0.self (sz := s.heap.size)
  generalize hAe : va_A (cw_W c kc st lg ai al R) s.heap.size = A at hD hG ⊢
  have hA : ∀ q : Nat, s.heap.size ≤ q → A q := fun q h => by rw [← hAe]; exact Or.inr h
  have hS : va_S A s.heap s.heap [] := va_S.rf
  clear hAe hD0
  have hl := lv_entry ([.ref (c 100), .long p0, .int p1]) (n := 5) (Nat.le_of_ble_eq_true rfl)
  rw [lg_entry_eq]
  generalize (lg_sl ([.ref (c 100), .long p0, .int p1]) ++ List.replicate (5 - (lg_sl ([.ref (c 100), .long p0, .int p1])).length) Slot.unset).toArray = ls at hl ⊢
  have hl : lv_has ls 5 [(0, .ref (c 100)), (1, .long p0), (3, .int p1)] := hl
  have z_m1 : (-1 : Int32).toInt = -1 := by decide
  have z_0 : (0 : Int32).toInt = 0 := by decide
  have z_1 : (1 : Int32).toInt = 1 := by decide
  have z_8 : (8 : Int32).toInt = 8 := by decide
  have z_400 : (400 : Int32).toInt = 400 := by decide
  have hin_X7 : ∀ w ∈ u_ws RX7 TX7 2, w ∈ wsX8_feed := by decide +kernel
  have hin_X8 : ∀ w ∈ u_ws RX8 TX8 10, w ∈ wsX8_feed := by decide +kernel
  have main : ∀ (H : Heap) (locs : List Loc), va_P (dC, dI) vwCl (cw_W c kc st lg ai al R) H → va_S A s.heap H locs → W p l e (headSpec wsX8_feed ({ frames := 6, cells := 1, slots := 6, locals := 90 })).room s m ([.ref (c 100), .long p0, .int p1] : List Value).toArray below meth cM H locs 0 0 (vx_MQ below (va_Qi (fun r (u : Int32) => r = u) (fun u t => ∃ (x5 : Int32) (f4 : Nat → Int32), (0 ≤ x5.toInt) ∧ (x5.toInt ≤ 400) ∧ (aR f4 400 (-128) 127) ∧ va_P (dC, dI) vwCl (cw_W c kc (rU st 5 x5) lg (rU ai 4 f4) al R) t.heap) A) (vx_X (fun _ : Unit => True) (fun E _ t => E ∈ (["java/lang/IllegalArgumentException"] : List String) ∧ ∃ (x5 : Int32) (f4 : Nat → Int32), (0 ≤ x5.toInt) ∧ (x5.toInt ≤ 400) ∧ (aR f4 400 (-128) 127) ∧ va_P (dC, dI) vwCl (cw_W c kc (rU st 5 x5) lg (rU ai 4 f4) al R) t.heap) A) ([.ref (c 100), .long p0, .int p1] : List Value).toArray s 1 6 A) (F0 m 0 ls []) := by
    intro H locs hP hS
    refine lv_iload_n hx hb dX8_feed_0 rfl (lv_at hl 2 rfl) ?_
    refine lv_iconst (v := 1) hx hb dX8_feed_1 (by decide) ?_
    refine lv_icmp_lt (tgt := 11) hx hb dX8_feed_2 (by decide) (fun c_1 => ?_) (fun c_1 => ?_)
    · skip
      have ic_1 := iv_lt c_1
      obtain ⟨sa, hstr⟩ := hGW.2.1 ("BlockLog", 78, "n is not 1 .. 8") (by decide +kernel)
      exact vx_throwS (names := ["java/lang/RuntimeException", "java/lang/Exception"]) hx hb hl0 hown (by decide +kernel) (by decide +kernel) (hts (.classLink RX8 76 "java/lang/IllegalArgumentException") (by decide +kernel)) (hts (.initialized "java/lang/IllegalArgumentException") (by decide +kernel)) hstr (vx_hat (B := gx_bad "java/lang/IllegalArgumentException") (fun w h => hts w (List.mem_cons_of_mem _ (List.mem_append_right _ h))) (by decide +kernel) (hGW.bad (by decide))) (by decide +kernel) hG.2.1 hG.2.2.1 hS (hl.1.trans hml.symm) dX8_feed_11 dX8_feed_14 dX8_feed_15 dX8_feed_17 dX8_feed_20 (fun x h => (hno x h).elim) (Nat.le_of_ble_eq_true rfl) (Nat.le_of_ble_eq_true rfl) (Nat.le_of_ble_eq_true rfl) (Nat.le_of_ble_eq_true rfl) hlocks (fun t _ h1 h2 => ⟨(), trivial, ⟨(by decide +kernel), st 5, ai 4, (by omega), (by omega), hR4, hP.kept (fun k q hk => h2 _ (hP k q hk).lt)⟩, Nat.le_trans hS.1 h1, fun q hq hn => (h2 q (Nat.lt_of_lt_of_le hq hS.1)).trans (hS.2.1 q hq hn)⟩) hS.2.2 (Nat.le_of_ble_eq_true rfl) (Nat.le_of_ble_eq_true rfl)
    · skip
      have ic_1 := iv_nlt c_1
      refine lv_iload_n hx hb dX8_feed_5 rfl (lv_at hl 2 rfl) ?_
      refine lv_bipush (v := 8) hx hb dX8_feed_6 (by decide) ?_
      refine lv_icmp_le (tgt := 21) hx hb dX8_feed_8 (by decide) (fun c_2 => ?_) (fun c_2 => ?_)
      · skip
        have ic_2 := iv_le c_2
        refine lv_aload_n hx hb dX8_feed_21 rfl (lv_at hl 0 rfl) ?_
        refine va_get (D := (dC, dI)) (ci := 10) (v := .ref (c 101)) (C := RX8) (T := TX8) (N := 10) hx hb hts hin_X8 hown hK hP 0 rfl rfl 0 (by decide) (hts (.fieldLink RX8 13 "BlockLog" "tape" "LBlockLog$Tape;") (by decide +kernel)) (fun _ h9 => h9) rfl dX8_feed_22 ?_
        refine va_getN (D := (dC, dI)) (ci := 9) (v := .int (st 5)) (C := RX7) (T := TX7) (N := 2) hx hb hts hin_X7 hown hK hP 1 rfl rfl 1 (by decide) (va_Nw.use rfl (hGW.1 ("BlockLog", 83, "BlockLog$Tape", "count", "I", "BlockLog") (by decide +kernel))) (fun _ h9 => h9) rfl dX8_feed_25 ?_
        refine lv_iload_n hx hb dX8_feed_28 rfl (lv_at hl 2 rfl) ?_
        refine lv_iadd hx hb dX8_feed_29 ?_
        refine lv_topi (fun v_3 ev_3 => ?_)
        have rg1 := iv_rng (st 5)
        have rg2 := iv_rng p1
        have hv_3 : v_3.toInt = (st 5).toInt + p1.toInt := by rw [ev_3]; exact (iv_add (by omega) (by omega)).trans (by omega)
        clear ev_3
        refine lv_sipush (v := 400) hx hb dX8_feed_30 (by decide) ?_
        refine lv_icmp_le (tgt := 46) hx hb dX8_feed_33 (by decide) (fun c_4 => ?_) (fun c_4 => ?_)
        · skip
          have ic_4 := iv_le c_4
          refine lv_iload_n hx hb dX8_feed_46 rfl (lv_at hl 2 rfl) ?_
          refine lv_iconst (v := 1) hx hb dX8_feed_47 (by decide) ?_
          refine lv_isub hx hb dX8_feed_48 ?_
          refine lv_topi (fun v_5 ev_5 => ?_)
          have hv_5 : v_5.toInt = p1.toInt - 1 := by rw [ev_5]; exact (iv_sub (by omega) (by omega)).trans (by omega)
          clear ev_5
          refine lv_istore (lv' := [(4, .int v_5), (0, .ref (c 100)), (1, .long p0), (3, .int p1)]) hx hb dX8_feed_49 hl (by decide) rfl (fun ls hl => ?_)
          have loop51 : ∀ (n : Nat) (l4_51 : Int32) (s5_51 : Int32) (a4_51 : Nat → Int32) (H : Heap) (locs : List Loc) (ls : Array Slot), (-1 ≤ l4_51.toInt) → (l4_51.toInt ≤ 7) → (0 ≤ s5_51.toInt) → (s5_51.toInt ≤ 400) → (aR a4_51 400 (-128) 127) → (l4_51.toInt + 1 : Int).toNat < n → va_P (dC, dI) vwCl (cw_W c kc (rU st 5 s5_51) lg (rU ai 4 a4_51) al R) H → va_S A s.heap H locs → lv_has ls 5 [(4, .int l4_51), (0, .ref (c 100)), (1, .long p0), (3, .int p1)] → W p l e (headSpec wsX8_feed ({ frames := 6, cells := 1, slots := 6, locals := 90 })).room s m ([.ref (c 100), .long p0, .int p1] : List Value).toArray below meth cM H locs 0 0 (vx_MQ below (va_Qi (fun r (u : Int32) => r = u) (fun u t => ∃ (x5 : Int32) (f4 : Nat → Int32), (0 ≤ x5.toInt) ∧ (x5.toInt ≤ 400) ∧ (aR f4 400 (-128) 127) ∧ va_P (dC, dI) vwCl (cw_W c kc (rU st 5 x5) lg (rU ai 4 f4) al R) t.heap) A) (vx_X (fun _ : Unit => True) (fun E _ t => E ∈ (["java/lang/IllegalArgumentException"] : List String) ∧ ∃ (x5 : Int32) (f4 : Nat → Int32), (0 ≤ x5.toInt) ∧ (x5.toInt ≤ 400) ∧ (aR f4 400 (-128) 127) ∧ va_P (dC, dI) vwCl (cw_W c kc (rU st 5 x5) lg (rU ai 4 f4) al R) t.heap) A) ([.ref (c 100), .long p0, .int p1] : List Value).toArray s 1 6 A) (F0 m 51 ls []) := by
            intro n
            induction n with
            | zero => intro l4_51 s5_51 a4_51 H locs ls if0_51 if1_51 if2_51 if3_51 hR4 hm; exact absurd hm (Nat.not_lt_zero _)
            | succ n ih51 =>
              intro l4_51 s5_51 a4_51 H locs ls if0_51 if1_51 if2_51 if3_51 hR4 hm51 hP hS hl
              refine lv_iload hx hb dX8_feed_51 (lv_at hl 0 rfl) ?_
              refine lv_if_lt (tgt := 77) hx hb dX8_feed_53 (by decide) (fun c_6 => ?_) (fun c_6 => ?_)
              · skip
                have ic_6 := iv_lt c_6
                refine lv_aload_n hx hb dX8_feed_77 rfl (lv_at hl 1 rfl) ?_
                refine va_get (D := (dC, dI)) (ci := 10) (v := .ref (c 101)) (C := RX8) (T := TX8) (N := 10) hx hb hts hin_X8 hown hK hP 0 rfl rfl 0 (by decide) (hts (.fieldLink RX8 13 "BlockLog" "tape" "LBlockLog$Tape;") (by decide +kernel)) (fun _ h9 => h9) rfl dX8_feed_78 ?_
                refine va_getN (D := (dC, dI)) (ci := 9) (v := .int s5_51) (C := RX7) (T := TX7) (N := 2) hx hb hts hin_X7 hown hK hP 1 rfl rfl 1 (by decide) (va_Nw.use rfl (hGW.1 ("BlockLog", 83, "BlockLog$Tape", "count", "I", "BlockLog") (by decide +kernel))) (fun _ h9 => h9) rfl dX8_feed_81 ?_
                refine W.widen (k := 1) (n := 6) (Nat.le_of_ble_eq_true rfl) (Nat.le_of_ble_eq_true rfl) ?_
                refine vx_ret ?_
                exact W.iret hx hb hr (fun t ht hW => ⟨⟨_, _, rfl, rfl, s5_51, a4_51, (by omega), (by omega), hR4, by rw [ht]; exact hP⟩, hS.F ht⟩) hS.2.2 dX8_feed_84
              · skip
                have ic_6 := iv_nlt c_6
                refine lv_aload_n hx hb dX8_feed_56 rfl (lv_at hl 1 rfl) ?_
                refine va_get (D := (dC, dI)) (ci := 10) (v := .ref (c 101)) (C := RX8) (T := TX8) (N := 10) hx hb hts hin_X8 hown hK hP 0 rfl rfl 0 (by decide) (hts (.fieldLink RX8 13 "BlockLog" "tape" "LBlockLog$Tape;") (by decide +kernel)) (fun _ h9 => h9) rfl dX8_feed_57 ?_
                refine lv_lload_n hx hb dX8_feed_60 rfl (lv_at hl 2 rfl) ?_
                refine lv_bipush (v := 8) hx hb dX8_feed_61 (by decide) ?_
                refine lv_iload hx hb dX8_feed_63 (lv_at hl 0 rfl) ?_
                refine lv_imul hx hb dX8_feed_65 ?_
                refine lv_topi (fun v_7 ev_7 => ?_)
                have rg3 := iv_rng l4_51
                have hv_7 : v_7.toInt = 8 * l4_51.toInt := by rw [ev_7]; exact (iv_mulc z_8 (by omega) (by omega)).trans (by omega)
                clear ev_7
                refine lv_lushr hx hb dX8_feed_66 rfl ?_
                refine lv_topl (fun w_8 ew_8 => ?_)
                clear ew_8
                refine lv_l2i hx hb dX8_feed_67 rfl ?_
                refine lv_topi (fun v_9 ev_9 => ?_)
                clear ev_9
                have hFc := vfree ((cw_D hD : va_D A (cw_W c kc (rU st 5 s5_51) lg (rU ai 4 a4_51) al R)) : va_D A (cw_W c kc (rU st 5 s5_51) lg (rU ai 4 a4_51) al R)) hS hA
                refine va_callv (va_runV (As := [.int v_9]) (rest := []) ⟨hx, hb, hml, hown, hts⟩ (v_X7_append l dC dI c kc (rU st 5 s5_51) lg (rU ai 4 a4_51) al R v_9 _ (show 0 ≤ s5_51.toInt by omega) (show s5_51.toInt ≤ 400 by omega) (show aR a4_51 400 (-128) 127 from hR4)) (cwV 1 hts gX8_feed_X7_append rfl rfl rfl (by decide +kernel) ⟨Nat.le_of_ble_eq_true rfl, Nat.le_of_ble_eq_true rfl⟩) ⟨fun a U g mk q => by obtain ⟨q0, q1, qP, qK, qD⟩ := q; exact ⟨q0, q1, qP, va_K.moved (u := U) (U := U.calling g mk a) (Vm.Alike.refl U.vm) qK, qD⟩, va_recv hK hP (ci := 9) (q := (RX7, TX7, 2)) rfl (q0 := 1) rfl, fun U hU hW => ⟨rfl, by rw [hU], by rw [hU]; exact hP, va_K.moved hW.alike hK, ((cw_D hD : va_D A (cw_W c kc (rU st 5 s5_51) lg (rU ai 4 a4_51) al R))).weaken (fun _ _ _ _ => trivial)⟩⟩ rfl rfl hl.1 rfl (lv_room (Nat.le_of_ble_eq_true rfl)) dX8_feed_68 ⟨Nat.le_of_ble_eq_true rfl, Nat.le_of_ble_eq_true rfl⟩) hS (fun q _ h => hFc q h) hFc (fun ur_10 t H1 locs ht hvm er_10 hB hz1 hk1 hS => ?_)
                obtain ⟨x5_10, f4_10, k_11, k_12, hR4, hP1⟩ := hB
                rw [ht] at hP1
                clear hFc hz1 hk1 hvm hP
                subst ht
                have hP := hP1
                clear hP1
                generalize t.heap = H at hP hS ⊢
                have hP : va_P (dC, dI) vwCl (cw_W c kc (rU st 5 x5_10) lg (rU ai 4 f4_10) al R) H := hP
                have k_11 : 0 ≤ x5_10.toInt := k_11
                have k_12 : x5_10.toInt ≤ 400 := k_12
                have hR4 : aR f4_10 400 (-128) 127 := hR4
                obtain ⟨x_13, ex_13⟩ : ∃ z : Int32, z = l4_51 + (-1) := ⟨_, rfl⟩
                refine lv_iinc (v := x_13) (lv' := [(4, .int x_13), (0, .ref (c 100)), (1, .long p0), (3, .int p1)]) hx hb dX8_feed_71 hl (k := 0) rfl (by rw [ex_13]; rfl) (by decide) rfl (fun ls hl => ?_)
                have hx_13 : x_13.toInt = l4_51.toInt + (-1) := by rw [ex_13]; exact (iv_add (by omega) (by omega)).trans (by omega)
                clear ex_13
                refine lv_goto (tgt := 51) hx hb dX8_feed_74 (by decide) ?_
                exact ih51 x_13 x5_10 f4_10 _ _ _ (by omega) (by omega) (by omega) (by omega) (by assumption) (by omega) hP hS (lv_sub hl [0, 1, 2, 3] rfl)
          exact loop51 ((v_5.toInt + 1 : Int).toNat + 1) v_5 (st 5) (ai 4) _ _ _ (by omega) (by omega) (by omega) (by omega) (by assumption) (by omega) hP hS (lv_sub hl [0, 1, 2, 3] rfl)
        · skip
          have ic_4 := iv_nle c_4
          obtain ⟨sa, hstr⟩ := hGW.2.1 ("BlockLog", 86, "the tape has no place for so many") (by decide +kernel)
          exact vx_throwS (names := ["java/lang/RuntimeException", "java/lang/Exception"]) hx hb hl0 hown (by decide +kernel) (by decide +kernel) (hts (.classLink RX8 76 "java/lang/IllegalArgumentException") (by decide +kernel)) (hts (.initialized "java/lang/IllegalArgumentException") (by decide +kernel)) hstr (vx_hat (B := gx_bad "java/lang/IllegalArgumentException") (fun w h => hts w (List.mem_cons_of_mem _ (List.mem_append_right _ h))) (by decide +kernel) (hGW.bad (by decide))) (by decide +kernel) hG.2.1 hG.2.2.1 hS (hl.1.trans hml.symm) dX8_feed_36 dX8_feed_39 dX8_feed_40 dX8_feed_42 dX8_feed_45 (fun x h => (hno x h).elim) (Nat.le_of_ble_eq_true rfl) (Nat.le_of_ble_eq_true rfl) (Nat.le_of_ble_eq_true rfl) (Nat.le_of_ble_eq_true rfl) hlocks (fun t _ h1 h2 => ⟨(), trivial, ⟨(by decide +kernel), st 5, ai 4, (by omega), (by omega), hR4, hP.kept (fun k q hk => h2 _ (hP k q hk).lt)⟩, Nat.le_trans hS.1 h1, fun q hq hn => (h2 q (Nat.lt_of_lt_of_le hq hS.1)).trans (hS.2.1 q hq hn)⟩) hS.2.2 (Nat.le_of_ble_eq_true rfl) (Nat.le_of_ble_eq_true rfl)
      · skip
        have ic_2 := iv_nle c_2
        obtain ⟨sa, hstr⟩ := hGW.2.1 ("BlockLog", 78, "n is not 1 .. 8") (by decide +kernel)
        exact vx_throwS (names := ["java/lang/RuntimeException", "java/lang/Exception"]) hx hb hl0 hown (by decide +kernel) (by decide +kernel) (hts (.classLink RX8 76 "java/lang/IllegalArgumentException") (by decide +kernel)) (hts (.initialized "java/lang/IllegalArgumentException") (by decide +kernel)) hstr (vx_hat (B := gx_bad "java/lang/IllegalArgumentException") (fun w h => hts w (List.mem_cons_of_mem _ (List.mem_append_right _ h))) (by decide +kernel) (hGW.bad (by decide))) (by decide +kernel) hG.2.1 hG.2.2.1 hS (hl.1.trans hml.symm) dX8_feed_11 dX8_feed_14 dX8_feed_15 dX8_feed_17 dX8_feed_20 (fun x h => (hno x h).elim) (Nat.le_of_ble_eq_true rfl) (Nat.le_of_ble_eq_true rfl) (Nat.le_of_ble_eq_true rfl) (Nat.le_of_ble_eq_true rfl) hlocks (fun t _ h1 h2 => ⟨(), trivial, ⟨(by decide +kernel), st 5, ai 4, (by omega), (by omega), hR4, hP.kept (fun k q hk => h2 _ (hP k q hk).lt)⟩, Nat.le_trans hS.1 h1, fun q hq hn => (h2 q (Nat.lt_of_lt_of_le hq hS.1)).trans (hS.2.1 q hq hn)⟩) hS.2.2 (Nat.le_of_ble_eq_true rfl) (Nat.le_of_ble_eq_true rfl)
  exact main s.heap [] hP hS

set_option maxHeartbeats 4000000 in
set_option maxRecDepth 100000 in
theorem v_X8_at (l : Launch) (hl0 : l.stackTraces = false) (dC : Nat → ClassId) (dI : Nat → Nat → Nat) (c : Nat → Nat) (kc : Nat → ClassId) (st : Nat → Int32) (lg : Nat → Int64) (ai : Nat → Nat → Int32) (al : Nat → Nat → Int64) (R : va_W) (p0 : Int32) (sz : Nat) (hf5a : 0 ≤ (st 5).toInt) (hf5b : (st 5).toInt ≤ 400) (hR4 : aR (ai 4) 400 (-128) 127) : vx_Met l yX8_at wsX8_at ({ frames := 6, cells := 1, slots := 6, locals := 90 }) (va_Pc [.ref (c 100), .int p0] (fun U => U.heap.size = sz ∧ va_P (dC, dI) vwCl (cw_W c kc st lg ai al R) U.heap ∧ va_K (dC, dI) vwCl (cw_T kc) U ∧ va_D (fun _ => True) (cw_W c kc st lg ai al R) ∧ gx_E (va_A (cw_W c kc st lg ai al R) sz) U)) (va_Qi (fun r (u : Int32) => r = u) (fun u t => va_P (dC, dI) vwCl (cw_W c kc st lg ai al R) t.heap) (va_A (cw_W c kc st lg ai al R) sz)) (vx_X (fun _ : Unit => True) (fun E _ t => E ∈ (["java/lang/IndexOutOfBoundsException"] : List String) ∧ va_P (dC, dI) vwCl (cw_W c kc st lg ai al R) t.heap) (va_A (cw_W c kc st lg ai al R) sz)) 1 6 (va_A (cw_W c kc st lg ai al R) sz) := by
  refine vx_ofW (cc := cX8_at) (maxL := 2) (ret := (some .int)) (by decide) rfl ?_
  intro p e s m args below meth cM s₁ B hml hno hv
  obtain ⟨rfl, hsz, hP, hK, hD0, hG⟩ := hv
  have hx := B.exec
  have hb := B.bytes
  have hr := B.returns
  have hts := atoms_spec (ws := wsX8_at) B.pre
  have hown : s.vm.findClass RX8 = some m.cls := findClass_of_methodNamed B.named
  have hGW := hG.1
  have hlocks := B.notSynchronized
  subst hsz
  have hD := hD0.self (sz := s.heap.size)
  generalize hAe : va_A (cw_W c kc st lg ai al R) s.heap.size = A at hD hG ⊢
  have hA : ∀ q : Nat, s.heap.size ≤ q → A q := fun q h => by rw [← hAe]; exact Or.inr h
  have hS : va_S A s.heap s.heap [] := va_S.rf
  clear hAe hD0
  have hl := lv_entry ([.ref (c 100), .int p0]) (n := 2) (Nat.le_of_ble_eq_true rfl)
  rw [lg_entry_eq]
  generalize (lg_sl ([.ref (c 100), .int p0]) ++ List.replicate (2 - (lg_sl ([.ref (c 100), .int p0])).length) Slot.unset).toArray = ls at hl ⊢
  have hl : lv_has ls 2 [(0, .ref (c 100)), (1, .int p0)] := hl
  have z_0 : (0 : Int32).toInt = 0 := by decide
  have z_255 : (255 : Int32).toInt = 255 := by decide
  have hin_X7 : ∀ w ∈ u_ws RX7 TX7 2, w ∈ wsX8_at := by decide +kernel
  have hin_X8 : ∀ w ∈ u_ws RX8 TX8 10, w ∈ wsX8_at := by decide +kernel
  have main : ∀ (H : Heap) (locs : List Loc), va_P (dC, dI) vwCl (cw_W c kc st lg ai al R) H → va_S A s.heap H locs → W p l e (headSpec wsX8_at ({ frames := 6, cells := 1, slots := 6, locals := 90 })).room s m ([.ref (c 100), .int p0] : List Value).toArray below meth cM H locs 0 0 (vx_MQ below (va_Qi (fun r (u : Int32) => r = u) (fun u t => va_P (dC, dI) vwCl (cw_W c kc st lg ai al R) t.heap) A) (vx_X (fun _ : Unit => True) (fun E _ t => E ∈ (["java/lang/IndexOutOfBoundsException"] : List String) ∧ va_P (dC, dI) vwCl (cw_W c kc st lg ai al R) t.heap) A) ([.ref (c 100), .int p0] : List Value).toArray s 1 6 A) (F0 m 0 ls []) := by
    intro H locs hP hS
    refine lv_iload_n hx hb dX8_at_0 rfl (lv_at hl 1 rfl) ?_
    refine lv_if_lt (tgt := 15) hx hb dX8_at_1 (by decide) (fun c_1 => ?_) (fun c_1 => ?_)
    · skip
      have ic_1 := iv_lt c_1
      obtain ⟨sa, hstr⟩ := hGW.2.1 ("BlockLog", 93, "no such byte of the tape") (by decide +kernel)
      exact vx_throwS (names := ["java/lang/RuntimeException", "java/lang/Exception"]) hx hb hl0 hown (by decide +kernel) (by decide +kernel) (hts (.classLink RX8 91 "java/lang/IndexOutOfBoundsException") (by decide +kernel)) (hts (.initialized "java/lang/IndexOutOfBoundsException") (by decide +kernel)) hstr (vx_hat (B := gx_bad "java/lang/IndexOutOfBoundsException") (fun w h => hts w (List.mem_cons_of_mem _ (List.mem_append_right _ h))) (by decide +kernel) (hGW.bad (by decide))) (by decide +kernel) hG.2.1 hG.2.2.1 hS (hl.1.trans hml.symm) dX8_at_15 dX8_at_18 dX8_at_19 dX8_at_21 dX8_at_24 (fun x h => (hno x h).elim) (Nat.le_of_ble_eq_true rfl) (Nat.le_of_ble_eq_true rfl) (Nat.le_of_ble_eq_true rfl) (Nat.le_of_ble_eq_true rfl) hlocks (fun t _ h1 h2 => ⟨(), trivial, ⟨(by decide +kernel), hP.kept (fun k q hk => h2 _ (hP k q hk).lt)⟩, Nat.le_trans hS.1 h1, fun q hq hn => (h2 q (Nat.lt_of_lt_of_le hq hS.1)).trans (hS.2.1 q hq hn)⟩) hS.2.2 (Nat.le_of_ble_eq_true rfl) (Nat.le_of_ble_eq_true rfl)
    · skip
      have ic_1 := iv_nlt c_1
      refine lv_iload_n hx hb dX8_at_4 rfl (lv_at hl 1 rfl) ?_
      refine lv_aload_n hx hb dX8_at_5 rfl (lv_at hl 0 rfl) ?_
      refine va_get (D := (dC, dI)) (ci := 10) (v := .ref (c 101)) (C := RX8) (T := TX8) (N := 10) hx hb hts hin_X8 hown hK hP 0 rfl rfl 0 (by decide) (hts (.fieldLink RX8 13 "BlockLog" "tape" "LBlockLog$Tape;") (by decide +kernel)) (fun _ h9 => h9) rfl dX8_at_6 ?_
      refine va_getN (D := (dC, dI)) (ci := 9) (v := .int (st 5)) (C := RX7) (T := TX7) (N := 2) hx hb hts hin_X7 hown hK hP 1 rfl rfl 1 (by decide) (va_Nw.use rfl (hGW.1 ("BlockLog", 83, "BlockLog$Tape", "count", "I", "BlockLog") (by decide +kernel))) (fun _ h9 => h9) rfl dX8_at_9 ?_
      refine lv_icmp_lt (tgt := 25) hx hb dX8_at_12 (by decide) (fun c_2 => ?_) (fun c_2 => ?_)
      · skip
        have ic_2 := iv_lt c_2
        refine lv_aload_n hx hb dX8_at_25 rfl (lv_at hl 0 rfl) ?_
        refine va_get (D := (dC, dI)) (ci := 10) (v := .ref (c 101)) (C := RX8) (T := TX8) (N := 10) hx hb hts hin_X8 hown hK hP 0 rfl rfl 0 (by decide) (hts (.fieldLink RX8 13 "BlockLog" "tape" "LBlockLog$Tape;") (by decide +kernel)) (fun _ h9 => h9) rfl dX8_at_26 ?_
        refine va_getN (D := (dC, dI)) (ci := 9) (v := .ref (c 4)) (C := RX7) (T := TX7) (N := 2) hx hb hts hin_X7 hown hK hP 1 rfl rfl 0 (by decide) (va_Nw.use rfl (hGW.1 ("BlockLog", 96, "BlockLog$Tape", "bytes", "[B", "BlockLog") (by decide +kernel))) (fun _ h9 => h9) rfl dX8_at_29 ?_
        refine lv_iload_n hx hb dX8_at_32 rfl (lv_at hl 1 rfl) ?_
        refine va_bald (f := ai 4) hx hb hK hP 11 3 rfl rfl (iv_in (i := p0) (by omega) (by omega)) dX8_at_33 ?_
        refine lv_topi (fun v_3 ev_3 => ?_)
        have k_4 : -128 ≤ v_3.toInt ∧ v_3.toInt ≤ 127 := aR_get hR4 (by omega) (by omega) ev_3
        clear ev_3
        refine lv_sipush (v := 255) hx hb dX8_at_34 (by decide) ?_
        refine lv_iand hx hb dX8_at_37 ?_
        refine lv_topi (fun v_5 ev_5 => ?_)
        have hv_5 : 0 ≤ v_5.toInt ∧ v_5.toInt ≤ 255 := by rw [ev_5]; exact iv_and255 _
        clear ev_5
        refine W.widen (k := 1) (n := 6) (Nat.le_of_ble_eq_true rfl) (Nat.le_of_ble_eq_true rfl) ?_
        refine vx_ret ?_
        exact W.iret hx hb hr (fun t ht hW => ⟨⟨_, _, rfl, rfl, show va_P (dC, dI) vwCl (cw_W c kc st lg ai al R) t.heap by rw [ht]; exact hP⟩, hS.F ht⟩) hS.2.2 dX8_at_38
      · skip
        have ic_2 := iv_nlt c_2
        obtain ⟨sa, hstr⟩ := hGW.2.1 ("BlockLog", 93, "no such byte of the tape") (by decide +kernel)
        exact vx_throwS (names := ["java/lang/RuntimeException", "java/lang/Exception"]) hx hb hl0 hown (by decide +kernel) (by decide +kernel) (hts (.classLink RX8 91 "java/lang/IndexOutOfBoundsException") (by decide +kernel)) (hts (.initialized "java/lang/IndexOutOfBoundsException") (by decide +kernel)) hstr (vx_hat (B := gx_bad "java/lang/IndexOutOfBoundsException") (fun w h => hts w (List.mem_cons_of_mem _ (List.mem_append_right _ h))) (by decide +kernel) (hGW.bad (by decide))) (by decide +kernel) hG.2.1 hG.2.2.1 hS (hl.1.trans hml.symm) dX8_at_15 dX8_at_18 dX8_at_19 dX8_at_21 dX8_at_24 (fun x h => (hno x h).elim) (Nat.le_of_ble_eq_true rfl) (Nat.le_of_ble_eq_true rfl) (Nat.le_of_ble_eq_true rfl) (Nat.le_of_ble_eq_true rfl) hlocks (fun t _ h1 h2 => ⟨(), trivial, ⟨(by decide +kernel), hP.kept (fun k q hk => h2 _ (hP k q hk).lt)⟩, Nat.le_trans hS.1 h1, fun q hq hn => (h2 q (Nat.lt_of_lt_of_le hq hS.1)).trans (hS.2.1 q hq hn)⟩) hS.2.2 (Nat.le_of_ble_eq_true rfl) (Nat.le_of_ble_eq_true rfl)
  exact main s.heap [] hP hS

set_option maxHeartbeats 4000000 in
set_option maxRecDepth 100000 in
theorem v_X8_digest (l : Launch) (hl0 : l.stackTraces = false) (dC : Nat → ClassId) (dI : Nat → Nat → Nat) (c : Nat → Nat) (kc : Nat → ClassId) (st : Nat → Int32) (lg : Nat → Int64) (ai : Nat → Nat → Int32) (al : Nat → Nat → Int64) (R : va_W) (p0 : Int32) (sz : Nat) (hf9a : 0 ≤ (st 9).toInt) (hf9b : (st 9).toInt ≤ 1) (hf17a : 0 ≤ (st 17).toInt) (hf17b : (st 17).toInt ≤ 128) (hf25a : 0 ≤ (st 25).toInt) (hf25b : (st 25).toInt ≤ 128) : vx_Met l yX8_digest wsX8_digest ({ frames := 7, cells := 2, slots := 12, locals := 112 }) (va_Pc [.ref (c 100), .int p0] (fun U => U.heap.size = sz ∧ va_P (dC, dI) vwCl (cw_W c kc st lg ai al R) U.heap ∧ va_K (dC, dI) vwCl (cw_T kc) U ∧ va_D (fun _ => True) (cw_W c kc st lg ai al R) ∧ gx_E (va_A (cw_W c kc st lg ai al R) sz) U)) (va_Ql (fun r (u : Int64) => r = u) (fun _ t => va_P (dC, dI) vwCl (cw_W c kc st lg ai al R) t.heap) (va_A (cw_W c kc st lg ai al R) sz)) (vx_X (fun _ : Unit => True) (fun E _ t => E ∈ (["java/lang/IllegalStateException", "java/lang/IndexOutOfBoundsException"] : List String) ∧ va_P (dC, dI) vwCl (cw_W c kc st lg ai al R) t.heap) (va_A (cw_W c kc st lg ai al R) sz)) 2 12 (va_A (cw_W c kc st lg ai al R) sz) := by
  refine vx_ofW (cc := cX8_digest) (maxL := 2) (ret := (some .long)) (by decide) rfl ?_
  intro p e s m args below meth cM s₁ B hml hno hv
  obtain ⟨rfl, hsz, hP, hK, hD0, hG⟩ := hv
  have hx := B.exec
  have hb := B.bytes
  have hr := B.returns
  have hts := atoms_spec (ws := wsX8_digest) B.pre
  have hown : s.vm.findClass RX8 = some m.cls := findClass_of_methodNamed B.named
  have hGW := hG.1
  have hlocks := B.notSynchronized
  subst hsz
  have hD := hD0.self (sz := s.heap.size)
  generalize hAe : va_A (cw_W c kc st lg ai al R) s.heap.size = A at hD hG ⊢
  have hA : ∀ q : Nat, s.heap.size ≤ q → A q := fun q h => by rw [← hAe]; exact Or.inr h
  have hS : va_S A s.heap s.heap [] := va_S.rf
  clear hAe hD0
  have hl := lv_entry ([.ref (c 100), .int p0]) (n := 2) (Nat.le_of_ble_eq_true rfl)
  rw [lg_entry_eq]
  generalize (lg_sl ([.ref (c 100), .int p0]) ++ List.replicate (2 - (lg_sl ([.ref (c 100), .int p0])).length) Slot.unset).toArray = ls at hl ⊢
  have hl : lv_has ls 2 [(0, .ref (c 100)), (1, .int p0)] := hl
  have hin_X8 : ∀ w ∈ u_ws RX8 TX8 10, w ∈ wsX8_digest := by decide +kernel
  have main : ∀ (H : Heap) (locs : List Loc), va_P (dC, dI) vwCl (cw_W c kc st lg ai al R) H → va_S A s.heap H locs → W p l e (headSpec wsX8_digest ({ frames := 7, cells := 2, slots := 12, locals := 112 })).room s m ([.ref (c 100), .int p0] : List Value).toArray below meth cM H locs 0 0 (vx_MQ below (va_Ql (fun r (u : Int64) => r = u) (fun _ t => va_P (dC, dI) vwCl (cw_W c kc st lg ai al R) t.heap) A) (vx_X (fun _ : Unit => True) (fun E _ t => E ∈ (["java/lang/IllegalStateException", "java/lang/IndexOutOfBoundsException"] : List String) ∧ va_P (dC, dI) vwCl (cw_W c kc st lg ai al R) t.heap) A) ([.ref (c 100), .int p0] : List Value).toArray s 2 12 A) (F0 m 0 ls []) := by
    intro H locs hP hS
    refine lv_aload_n hx hb dX8_digest_0 rfl (lv_at hl 0 rfl) ?_
    refine lv_iload_n hx hb dX8_digest_1 rfl (lv_at hl 1 rfl) ?_
    have hFc := vfree ((cw_D hD : va_D A (cw_W c kc st lg ai al R)) : va_D A (cw_W c kc st lg ai al R)) hS hA
    refine vx_callv (vx_runV (As := [.int p0]) (rest := []) ⟨hx, hb, hml, hown, hts⟩ (v_X8_demandRow l hl0 dC dI c kc st lg ai al R p0 _ (show 0 ≤ (st 9).toInt by omega) (show (st 9).toInt ≤ 1 by omega) (show 0 ≤ (st 17).toInt by omega) (show (st 17).toInt ≤ 128 by omega)) (cwV 1 hts gX8_digest_X8_demandRow rfl rfl rfl (by decide +kernel) ⟨Nat.le_of_ble_eq_true rfl, Nat.le_of_ble_eq_true rfl⟩) ⟨fun a U g mk q => by obtain ⟨q0, q1, qP, qK, qD, qG⟩ := q; exact ⟨q0, q1, qP, va_K.moved (u := U) (U := U.calling g mk a) (Vm.Alike.refl U.vm) qK, qD, qG.same rfl rfl⟩, va_recv hK hP (ci := 10) (q := (RX8, TX8, 10)) rfl (q0 := 0) rfl, fun U hU hW => ⟨rfl, by rw [hU], by rw [hU]; exact hP, va_K.moved hW.alike hK, ((cw_D hD : va_D A (cw_W c kc st lg ai al R))).weaken (fun _ _ _ _ => trivial), hG.go hW hU hS hFc⟩⟩ rfl rfl hl.1 rfl (lv_room (Nat.le_of_ble_eq_true rfl)) dX8_digest_2 ⟨Nat.le_of_ble_eq_true rfl, Nat.le_of_ble_eq_true rfl⟩) hS (fun q _ h => hFc q h) hFc (fun q _ h => hFc q h) (fun E9 ce q9 u t H1 locs ht hvm hp hE hz hk hS hcell hv hcl => ?_) (fun ur_1 t H1 locs ht hvm er_1 hB hz1 hk1 hS => ?_)
    · skip
      obtain ⟨hE, hP1⟩ := hE
      rw [ht] at hP1
      have hP : va_P (dC, dI) vwCl (cw_W c kc st lg ai al R) H1 := hP1
      exact vx_out (fun x h => (hno x h).elim) hlocks hcell hv hcl (fun t ht hW => ⟨(), trivial, ⟨(show ∀ x ∈ (["java/lang/IndexOutOfBoundsException"] : List String), x ∈ (["java/lang/IllegalStateException", "java/lang/IndexOutOfBoundsException"] : List String) by decide +kernel) _ hE, by rw [ht]; exact hP⟩, hS.F ht⟩) hS.2.2 (Nat.le_of_ble_eq_true rfl) (Nat.le_of_ble_eq_true rfl)
    · skip
      obtain ⟨k_2, k_3, hP1⟩ := hB
      rw [ht] at hP1
      clear hFc hz1 hk1 hvm hP
      subst ht
      have hP := hP1
      clear hP1
      generalize t.heap = H at hP hS ⊢
      have hP : va_P (dC, dI) vwCl (cw_W c kc st lg ai al R) H := hP
      refine lv_aload_n hx hb dX8_digest_5 rfl (lv_at hl 0 rfl) ?_
      have hFc := vfree ((cw_D hD : va_D A (cw_W c kc st lg ai al R)) : va_D A (cw_W c kc st lg ai al R)) hS hA
      refine vx_callv (vx_runV (As := []) (rest := []) ⟨hx, hb, hml, hown, hts⟩ (v_X8_demandPower l hl0 dC dI c kc st lg ai al R  _ (show 0 ≤ (st 9).toInt by omega) (show (st 9).toInt ≤ 1 by omega)) (cwV 0 hts gX8_digest_X8_demandPower rfl rfl rfl (by decide +kernel) ⟨Nat.le_of_ble_eq_true rfl, Nat.le_of_ble_eq_true rfl⟩) ⟨fun a U g mk q => by obtain ⟨q0, q1, qP, qK, qD, qG⟩ := q; exact ⟨q0, q1, qP, va_K.moved (u := U) (U := U.calling g mk a) (Vm.Alike.refl U.vm) qK, qD, qG.same rfl rfl⟩, va_recv hK hP (ci := 10) (q := (RX8, TX8, 10)) rfl (q0 := 0) rfl, fun U hU hW => ⟨rfl, by rw [hU], by rw [hU]; exact hP, va_K.moved hW.alike hK, ((cw_D hD : va_D A (cw_W c kc st lg ai al R))).weaken (fun _ _ _ _ => trivial), hG.go hW hU hS hFc⟩⟩ rfl rfl hl.1 rfl (lv_room (Nat.le_of_ble_eq_true rfl)) dX8_digest_6 ⟨Nat.le_of_ble_eq_true rfl, Nat.le_of_ble_eq_true rfl⟩) hS (fun q _ h => hFc q h) hFc (fun q _ h => hFc q h) (fun E9 ce q9 u t H1 locs ht hvm hp hE hz hk hS hcell hv hcl => ?_) (fun ur_4 t H1 locs ht hvm er_4 hB hz1 hk1 hS => ?_)
      · skip
        obtain ⟨hE, hP1⟩ := hE
        rw [ht] at hP1
        have hP : va_P (dC, dI) vwCl (cw_W c kc st lg ai al R) H1 := hP1
        exact vx_out (fun x h => (hno x h).elim) hlocks hcell hv hcl (fun t ht hW => ⟨(), trivial, ⟨(show ∀ x ∈ (["java/lang/IllegalStateException"] : List String), x ∈ (["java/lang/IllegalStateException", "java/lang/IndexOutOfBoundsException"] : List String) by decide +kernel) _ hE, by rw [ht]; exact hP⟩, hS.F ht⟩) hS.2.2 (Nat.le_of_ble_eq_true rfl) (Nat.le_of_ble_eq_true rfl)
      · skip
        have hP1 : va_P (dC, dI) vwCl (cw_W c kc st lg ai al R) t.heap := hB
        rw [ht] at hP1
        clear hFc hz1 hk1 hvm hP
        subst ht
        have hP := hP1
        clear hP1
        generalize t.heap = H at hP hS ⊢
        have hP : va_P (dC, dI) vwCl (cw_W c kc st lg ai al R) H := hP
        refine lv_aload_n hx hb dX8_digest_9 rfl (lv_at hl 0 rfl) ?_
        refine va_get (D := (dC, dI)) (ci := 10) (v := .ref (c 105)) (C := RX8) (T := TX8) (N := 10) hx hb hts hin_X8 hown hK hP 0 rfl rfl 3 (by decide) (hts (.fieldLink RX8 40 "BlockLog" "story" "LBlockLog$Story;") (by decide +kernel)) (fun _ h9 => h9) rfl dX8_digest_10 ?_
        refine lv_iload_n hx hb dX8_digest_13 rfl (lv_at hl 1 rfl) ?_
        refine vp_callSl (va_Run.run (va_runV (As := [.int p0]) (rest := []) ⟨hx, hb, hml, hown, hts⟩ (v_X6_digestAt l dC dI c kc st lg ai al R p0 (show 0 ≤ (st 25).toInt by omega) (show (st 25).toInt ≤ 128 by omega)) (cwV 1 hts gX8_digest_X6_digestAt rfl rfl rfl (by decide +kernel) ⟨Nat.le_of_ble_eq_true rfl, Nat.le_of_ble_eq_true rfl⟩) ⟨fun a U g mk q => by obtain ⟨q0, qP, qK⟩ := q; exact ⟨q0, qP, va_K.moved (u := U) (U := U.calling g mk a) (Vm.Alike.refl U.vm) qK⟩, va_recv hK hP (ci := 8) (q := (RX6, TX6, 12)) rfl (q0 := 5) rfl, fun U hU hW => ⟨rfl, by rw [hU]; exact hP, va_K.moved hW.alike hK⟩⟩ rfl rfl hl.1 rfl (lv_room (Nat.le_of_ble_eq_true rfl)) dX8_digest_14 ⟨Nat.le_of_ble_eq_true rfl, Nat.le_of_ble_eq_true rfl⟩)) (fun r_5 er_5 => ?_)
        refine W.widen (k := 2) (n := 12) (Nat.le_of_ble_eq_true rfl) (Nat.le_of_ble_eq_true rfl) ?_
        refine vx_ret ?_
        exact W.lret hx hb hr (fun t ht hW => ⟨⟨_, _, rfl, rfl, show va_P (dC, dI) vwCl (cw_W c kc st lg ai al R) t.heap by rw [ht]; exact hP⟩, hS.F ht⟩) hS.2.2 dX8_digest_17
  exact main s.heap [] hP hS

set_option maxHeartbeats 4000000 in
set_option maxRecDepth 100000 in
theorem v_X8_vote (l : Launch) (hl0 : l.stackTraces = false) (dC : Nat → ClassId) (dI : Nat → Nat → Nat) (c : Nat → Nat) (kc : Nat → ClassId) (st : Nat → Int32) (lg : Nat → Int64) (ai : Nat → Nat → Int32) (al : Nat → Nat → Int64) (R : va_W) (p0 : Int32) (p1 : Int32) (p2 : Int64) (sz : Nat) (hf9a : 0 ≤ (st 9).toInt) (hf9b : (st 9).toInt ≤ 1) (hf15a : 0 ≤ (st 15).toInt) (hf15b : (st 15).toInt ≤ 1) (hf17a : 0 ≤ (st 17).toInt) (hf17b : (st 17).toInt ≤ 128) (hf25a : 0 ≤ (st 25).toInt) (hf25b : (st 25).toInt ≤ 128) (hf26a : 0 ≤ (st 26).toInt) (hf26b : (st 26).toInt ≤ 128) (hf27a : -1 ≤ (st 27).toInt) (hf27b : (st 27).toInt ≤ 127) (hf28a : 0 ≤ (st 28).toInt) (hf28b : (st 28).toInt ≤ 1) (hR7 : aR (ai 7) 8224 (-128) 127) (hR23 : aR (ai 23) 128 (0) 127) : vx_Met l yX8_vote wsX8_vote ({ frames := 7, cells := 3, slots := 18, locals := 148 }) (va_Pc [.ref (c 100), .int p0, .int p1, .long p2] (fun U => U.heap.size = sz ∧ va_P (dC, dI) vwCl (cw_W c kc st lg ai al R) U.heap ∧ va_K (dC, dI) vwCl (cw_T kc) U ∧ va_D (fun _ => True) (cw_W c kc st lg ai al R) ∧ gx_E (va_A (cw_W c kc st lg ai al R) sz) U)) (va_Qi (fun r (u : Int32) => r = u) (fun u t => ∃ (x9 : Int32) (x10 : Int32) (x11 : Int32) (x17 : Int32) (x25 : Int32) (x26 : Int32) (x27 : Int32) (x28 : Int32) (x29 : Int32) (f7 : Nat → Int32) (f8 : Nat → Int32) (f14 : Nat → Int32) (f20 : Nat → Int32) (f21 : Nat → Int32) (f22 : Nat → Int32) (f23 : Nat → Int32) (g19 : Nat → Int64), (0 ≤ x9.toInt) ∧ (x9.toInt ≤ 1) ∧ (0 ≤ x17.toInt) ∧ (x17.toInt ≤ 128) ∧ (0 ≤ x25.toInt) ∧ (x25.toInt ≤ 128) ∧ (0 ≤ x26.toInt) ∧ (x26.toInt ≤ 128) ∧ (-1 ≤ x27.toInt) ∧ (x27.toInt ≤ 127) ∧ (0 ≤ x28.toInt) ∧ (x28.toInt ≤ 1) ∧ (aR f7 8224 (-128) 127) ∧ (aR f23 128 (0) 127) ∧ va_P (dC, dI) vwCl (cw_W c kc (rU (rU (rU (rU (rU (rU (rU (rU (rU st 9 x9) 10 x10) 11 x11) 17 x17) 25 x25) 26 x26) 27 x27) 28 x28) 29 x29) lg (rU (rU (rU (rU (rU (rU (rU ai 7 f7) 8 f8) 14 f14) 20 f20) 21 f21) 22 f22) 23 f23) (rU al 19 g19) R) t.heap) (va_A (cw_W c kc st lg ai al R) sz)) (vx_X (fun _ : Unit => True) (fun E _ t => E ∈ (["java/lang/IllegalArgumentException", "java/lang/IllegalStateException"] : List String) ∧ ∃ (x9 : Int32) (x10 : Int32) (x11 : Int32) (x17 : Int32) (x25 : Int32) (x26 : Int32) (x27 : Int32) (x28 : Int32) (x29 : Int32) (f7 : Nat → Int32) (f8 : Nat → Int32) (f14 : Nat → Int32) (f20 : Nat → Int32) (f21 : Nat → Int32) (f22 : Nat → Int32) (f23 : Nat → Int32) (g19 : Nat → Int64), (0 ≤ x9.toInt) ∧ (x9.toInt ≤ 1) ∧ (0 ≤ x17.toInt) ∧ (x17.toInt ≤ 128) ∧ (0 ≤ x25.toInt) ∧ (x25.toInt ≤ 128) ∧ (0 ≤ x26.toInt) ∧ (x26.toInt ≤ 128) ∧ (-1 ≤ x27.toInt) ∧ (x27.toInt ≤ 127) ∧ (0 ≤ x28.toInt) ∧ (x28.toInt ≤ 1) ∧ (aR f7 8224 (-128) 127) ∧ (aR f23 128 (0) 127) ∧ va_P (dC, dI) vwCl (cw_W c kc (rU (rU (rU (rU (rU (rU (rU (rU (rU st 9 x9) 10 x10) 11 x11) 17 x17) 25 x25) 26 x26) 27 x27) 28 x28) 29 x29) lg (rU (rU (rU (rU (rU (rU (rU ai 7 f7) 8 f8) 14 f14) 20 f20) 21 f21) 22 f22) 23 f23) (rU al 19 g19) R) t.heap) (va_A (cw_W c kc st lg ai al R) sz)) 3 18 (va_A (cw_W c kc st lg ai al R) sz) := by
  refine vx_ofW (cc := cX8_vote) (maxL := 11) (ret := (some .int)) (by decide) rfl ?_
  intro p e s m args below meth cM s₁ B hml hno hv
  obtain ⟨rfl, hsz, hP, hK, hD0, hG⟩ := hv
  have hx := B.exec
  have hb := B.bytes
  have hr := B.returns
  have hts := atoms_spec (ws := wsX8_vote) B.pre
  have hown : s.vm.findClass RX8 = some m.cls := findClass_of_methodNamed B.named
  have hGW := hG.1
  have hlocks := B.notSynchronized
  subst hsz
  have hD := hD0.self (sz := s.heap.size)
  generalize hAe : va_A (cw_W c kc st lg ai al R) s.heap.size = A at hD hG ⊢
  have hA : ∀ q : Nat, s.heap.size ≤ q → A q := fun q h => by rw [← hAe]; exact Or.inr h
  have hS : va_S A s.heap s.heap [] := va_S.rf
  clear hAe hD0
  have hl := lv_entry ([.ref (c 100), .int p0, .int p1, .long p2]) (n := 11) (Nat.le_of_ble_eq_true rfl)
  rw [lg_entry_eq]
  generalize (lg_sl ([.ref (c 100), .int p0, .int p1, .long p2]) ++ List.replicate (11 - (lg_sl ([.ref (c 100), .int p0, .int p1, .long p2])).length) Slot.unset).toArray = ls at hl ⊢
  have hl : lv_has ls 11 [(0, .ref (c 100)), (1, .int p0), (2, .int p1), (3, .long p2)] := hl
  have z_m7 : (-7 : Int32).toInt = -7 := by decide
  have z_m6 : (-6 : Int32).toInt = -6 := by decide
  have z_m4 : (-4 : Int32).toInt = -4 := by decide
  have z_m3 : (-3 : Int32).toInt = -3 := by decide
  have z_m2 : (-2 : Int32).toInt = -2 := by decide
  have z_m1 : (-1 : Int32).toInt = -1 := by decide
  have z_0 : (0 : Int32).toInt = 0 := by decide
  have z_1 : (1 : Int32).toInt = 1 := by decide
  have z_128 : (128 : Int32).toInt = 128 := by decide
  have z_1000000 : (1000000 : Int32).toInt = 1000000 := by decide
  have hin_X4 : ∀ w ∈ u_ws RX4 TX4 6, w ∈ wsX8_vote := by decide +kernel
  have hin_X6 : ∀ w ∈ u_ws RX6 TX6 12, w ∈ wsX8_vote := by decide +kernel
  have hin_X8 : ∀ w ∈ u_ws RX8 TX8 10, w ∈ wsX8_vote := by decide +kernel
  have main : ∀ (H : Heap) (locs : List Loc), va_P (dC, dI) vwCl (cw_W c kc st lg ai al R) H → va_S A s.heap H locs → W p l e (headSpec wsX8_vote ({ frames := 7, cells := 3, slots := 18, locals := 148 })).room s m ([.ref (c 100), .int p0, .int p1, .long p2] : List Value).toArray below meth cM H locs 0 0 (vx_MQ below (va_Qi (fun r (u : Int32) => r = u) (fun u t => ∃ (x9 : Int32) (x10 : Int32) (x11 : Int32) (x17 : Int32) (x25 : Int32) (x26 : Int32) (x27 : Int32) (x28 : Int32) (x29 : Int32) (f7 : Nat → Int32) (f8 : Nat → Int32) (f14 : Nat → Int32) (f20 : Nat → Int32) (f21 : Nat → Int32) (f22 : Nat → Int32) (f23 : Nat → Int32) (g19 : Nat → Int64), (0 ≤ x9.toInt) ∧ (x9.toInt ≤ 1) ∧ (0 ≤ x17.toInt) ∧ (x17.toInt ≤ 128) ∧ (0 ≤ x25.toInt) ∧ (x25.toInt ≤ 128) ∧ (0 ≤ x26.toInt) ∧ (x26.toInt ≤ 128) ∧ (-1 ≤ x27.toInt) ∧ (x27.toInt ≤ 127) ∧ (0 ≤ x28.toInt) ∧ (x28.toInt ≤ 1) ∧ (aR f7 8224 (-128) 127) ∧ (aR f23 128 (0) 127) ∧ va_P (dC, dI) vwCl (cw_W c kc (rU (rU (rU (rU (rU (rU (rU (rU (rU st 9 x9) 10 x10) 11 x11) 17 x17) 25 x25) 26 x26) 27 x27) 28 x28) 29 x29) lg (rU (rU (rU (rU (rU (rU (rU ai 7 f7) 8 f8) 14 f14) 20 f20) 21 f21) 22 f22) 23 f23) (rU al 19 g19) R) t.heap) A) (vx_X (fun _ : Unit => True) (fun E _ t => E ∈ (["java/lang/IllegalArgumentException", "java/lang/IllegalStateException"] : List String) ∧ ∃ (x9 : Int32) (x10 : Int32) (x11 : Int32) (x17 : Int32) (x25 : Int32) (x26 : Int32) (x27 : Int32) (x28 : Int32) (x29 : Int32) (f7 : Nat → Int32) (f8 : Nat → Int32) (f14 : Nat → Int32) (f20 : Nat → Int32) (f21 : Nat → Int32) (f22 : Nat → Int32) (f23 : Nat → Int32) (g19 : Nat → Int64), (0 ≤ x9.toInt) ∧ (x9.toInt ≤ 1) ∧ (0 ≤ x17.toInt) ∧ (x17.toInt ≤ 128) ∧ (0 ≤ x25.toInt) ∧ (x25.toInt ≤ 128) ∧ (0 ≤ x26.toInt) ∧ (x26.toInt ≤ 128) ∧ (-1 ≤ x27.toInt) ∧ (x27.toInt ≤ 127) ∧ (0 ≤ x28.toInt) ∧ (x28.toInt ≤ 1) ∧ (aR f7 8224 (-128) 127) ∧ (aR f23 128 (0) 127) ∧ va_P (dC, dI) vwCl (cw_W c kc (rU (rU (rU (rU (rU (rU (rU (rU (rU st 9 x9) 10 x10) 11 x11) 17 x17) 25 x25) 26 x26) 27 x27) 28 x28) 29 x29) lg (rU (rU (rU (rU (rU (rU (rU ai 7 f7) 8 f8) 14 f14) 20 f20) 21 f21) 22 f22) 23 f23) (rU al 19 g19) R) t.heap) A) ([.ref (c 100), .int p0, .int p1, .long p2] : List Value).toArray s 3 18 A) (F0 m 0 ls []) := by
    intro H locs hP hS
    refine lv_aload_n hx hb dX8_vote_0 rfl (lv_at hl 0 rfl) ?_
    have hFc := vfree ((cw_D hD : va_D A (cw_W c kc st lg ai al R)) : va_D A (cw_W c kc st lg ai al R)) hS hA
    refine vx_callv (vx_runV (As := []) (rest := []) ⟨hx, hb, hml, hown, hts⟩ (v_X8_demandPower l hl0 dC dI c kc st lg ai al R  _ (show 0 ≤ (st 9).toInt by omega) (show (st 9).toInt ≤ 1 by omega)) (cwV 0 hts gX8_vote_X8_demandPower rfl rfl rfl (by decide +kernel) ⟨Nat.le_of_ble_eq_true rfl, Nat.le_of_ble_eq_true rfl⟩) ⟨fun a U g mk q => by obtain ⟨q0, q1, qP, qK, qD, qG⟩ := q; exact ⟨q0, q1, qP, va_K.moved (u := U) (U := U.calling g mk a) (Vm.Alike.refl U.vm) qK, qD, qG.same rfl rfl⟩, va_recv hK hP (ci := 10) (q := (RX8, TX8, 10)) rfl (q0 := 0) rfl, fun U hU hW => ⟨rfl, by rw [hU], by rw [hU]; exact hP, va_K.moved hW.alike hK, ((cw_D hD : va_D A (cw_W c kc st lg ai al R))).weaken (fun _ _ _ _ => trivial), hG.go hW hU hS hFc⟩⟩ rfl rfl hl.1 rfl (lv_room (Nat.le_of_ble_eq_true rfl)) dX8_vote_1 ⟨Nat.le_of_ble_eq_true rfl, Nat.le_of_ble_eq_true rfl⟩) hS (fun q _ h => hFc q h) hFc (fun q _ h => hFc q h) (fun E9 ce q9 u t H1 locs ht hvm hp hE hz hk hS hcell hv hcl => ?_) (fun ur_1 t H1 locs ht hvm er_1 hB hz1 hk1 hS => ?_)
    · skip
      obtain ⟨hE, hP1⟩ := hE
      rw [ht] at hP1
      have hP : va_P (dC, dI) vwCl (cw_W c kc st lg ai al R) H1 := hP1
      exact vx_out (fun x h => (hno x h).elim) hlocks hcell hv hcl (fun t ht hW => ⟨(), trivial, ⟨(show ∀ x ∈ (["java/lang/IllegalStateException"] : List String), x ∈ (["java/lang/IllegalArgumentException", "java/lang/IllegalStateException"] : List String) by decide +kernel) _ hE, st 9, st 10, st 11, st 17, st 25, st 26, st 27, st 28, st 29, ai 7, ai 8, ai 14, ai 20, ai 21, ai 22, ai 23, al 19, (by omega), (by omega), (by omega), (by omega), (by omega), (by omega), (by omega), (by omega), (by omega), (by omega), (by omega), (by omega), hR7, hR23, by rw [ht]; exact hP⟩, hS.F ht⟩) hS.2.2 (Nat.le_of_ble_eq_true rfl) (Nat.le_of_ble_eq_true rfl)
    · skip
      have hP1 : va_P (dC, dI) vwCl (cw_W c kc st lg ai al R) t.heap := hB
      rw [ht] at hP1
      clear hFc hz1 hk1 hvm hP
      subst ht
      have hP := hP1
      clear hP1
      generalize t.heap = H at hP hS ⊢
      have hP : va_P (dC, dI) vwCl (cw_W c kc st lg ai al R) H := hP
      refine lv_iload_n hx hb dX8_vote_4 rfl (lv_at hl 1 rfl) ?_
      have hFc := vfree ((cw_D hD : va_D A (cw_W c kc st lg ai al R)) : va_D A (cw_W c kc st lg ai al R)) hS hA
      refine vx_callv (vx_runS (As := [.int p0]) (rest := []) ⟨hx, hb, hml, hown, hts⟩ (v_X8_demandHeight l hl0 dC dI c kc st lg ai al R p0 _ ) (va_cwS 1 hts gX8_vote_X8_demandHeight rfl rfl rfl (by decide +kernel) ⟨Nat.le_of_ble_eq_true rfl, Nat.le_of_ble_eq_true rfl⟩) ⟨fun a U g mk q => by obtain ⟨q0, q1, qP, qK, qD, qG⟩ := q; exact ⟨q0, q1, qP, va_K.moved (u := U) (U := U.calling g mk a) (Vm.Alike.refl U.vm) qK, qD, qG.same rfl rfl⟩, fun U hU hW => ⟨rfl, by rw [hU], by rw [hU]; exact hP, va_K.moved hW.alike hK, ((cw_D hD : va_D A (cw_W c kc st lg ai al R))).weaken (fun _ _ _ _ => trivial), hG.go hW hU hS hFc⟩⟩ rfl rfl hl.1 rfl (lv_room (Nat.le_of_ble_eq_true rfl)) dX8_vote_5 ⟨Nat.le_of_ble_eq_true rfl, Nat.le_of_ble_eq_true rfl⟩) hS (fun q _ h => hFc q h) hFc (fun q _ h => hFc q h) (fun E9 ce q9 u t H1 locs ht hvm hp hE hz hk hS hcell hv hcl => ?_) (fun ur_2 t H1 locs ht hvm er_2 hB hz1 hk1 hS => ?_)
      · skip
        obtain ⟨hE, hP1⟩ := hE
        rw [ht] at hP1
        have hP : va_P (dC, dI) vwCl (cw_W c kc st lg ai al R) H1 := hP1
        exact vx_out (fun x h => (hno x h).elim) hlocks hcell hv hcl (fun t ht hW => ⟨(), trivial, ⟨(show ∀ x ∈ (["java/lang/IllegalArgumentException"] : List String), x ∈ (["java/lang/IllegalArgumentException", "java/lang/IllegalStateException"] : List String) by decide +kernel) _ hE, st 9, st 10, st 11, st 17, st 25, st 26, st 27, st 28, st 29, ai 7, ai 8, ai 14, ai 20, ai 21, ai 22, ai 23, al 19, (by omega), (by omega), (by omega), (by omega), (by omega), (by omega), (by omega), (by omega), (by omega), (by omega), (by omega), (by omega), hR7, hR23, by rw [ht]; exact hP⟩, hS.F ht⟩) hS.2.2 (Nat.le_of_ble_eq_true rfl) (Nat.le_of_ble_eq_true rfl)
      · skip
        have hP1 : va_P (dC, dI) vwCl (cw_W c kc st lg ai al R) t.heap := hB
        rw [ht] at hP1
        clear hFc hz1 hk1 hvm hP
        subst ht
        have hP := hP1
        clear hP1
        generalize t.heap = H at hP hS ⊢
        have hP : va_P (dC, dI) vwCl (cw_W c kc st lg ai al R) H := hP
        refine lv_iload_n hx hb dX8_vote_8 rfl (lv_at hl 2 rfl) ?_
        refine lv_if_lt (tgt := 18) hx hb dX8_vote_9 (by decide) (fun c_3 => ?_) (fun c_3 => ?_)
        · skip
          have ic_3 := iv_lt c_3
          obtain ⟨sa, hstr⟩ := hGW.2.1 ("BlockLog", 164, "round is not 0 .. 1000000") (by decide +kernel)
          exact vx_throwS (names := ["java/lang/RuntimeException", "java/lang/Exception"]) hx hb hl0 hown (by decide +kernel) (by decide +kernel) (hts (.classLink RX8 76 "java/lang/IllegalArgumentException") (by decide +kernel)) (hts (.initialized "java/lang/IllegalArgumentException") (by decide +kernel)) hstr (vx_hat (B := gx_bad "java/lang/IllegalArgumentException") (fun w h => hts w (List.mem_cons_of_mem _ (List.mem_append_left _ (List.mem_append_right _ h)))) (by decide +kernel) (hGW.bad (by decide))) (by decide +kernel) hG.2.1 hG.2.2.1 hS (hl.1.trans hml.symm) dX8_vote_18 dX8_vote_21 dX8_vote_22 dX8_vote_24 dX8_vote_27 (fun x h => (hno x h).elim) (Nat.le_of_ble_eq_true rfl) (Nat.le_of_ble_eq_true rfl) (Nat.le_of_ble_eq_true rfl) (Nat.le_of_ble_eq_true rfl) hlocks (fun t _ h1 h2 => ⟨(), trivial, ⟨(by decide +kernel), st 9, st 10, st 11, st 17, st 25, st 26, st 27, st 28, st 29, ai 7, ai 8, ai 14, ai 20, ai 21, ai 22, ai 23, al 19, (by omega), (by omega), (by omega), (by omega), (by omega), (by omega), (by omega), (by omega), (by omega), (by omega), (by omega), (by omega), hR7, hR23, hP.kept (fun k q hk => h2 _ (hP k q hk).lt)⟩, Nat.le_trans hS.1 h1, fun q hq hn => (h2 q (Nat.lt_of_lt_of_le hq hS.1)).trans (hS.2.1 q hq hn)⟩) hS.2.2 (Nat.le_of_ble_eq_true rfl) (Nat.le_of_ble_eq_true rfl)
        · skip
          have ic_3 := iv_nlt c_3
          refine lv_iload_n hx hb dX8_vote_12 rfl (lv_at hl 2 rfl) ?_
          refine lv_ldc hx hb hown (hts (.constant RX8 163 (1000000)) (by decide +kernel)) dX8_vote_13 ?_
          refine lv_icmp_le (tgt := 28) hx hb dX8_vote_15 (by decide) (fun c_4 => ?_) (fun c_4 => ?_)
          · skip
            have ic_4 := iv_le c_4
            refine lv_aload_n hx hb dX8_vote_28 rfl (lv_at hl 0 rfl) ?_
            refine va_get (D := (dC, dI)) (ci := 10) (v := .ref (c 104)) (C := RX8) (T := TX8) (N := 10) hx hb hts hin_X8 hown hK hP 0 rfl rfl 2 (by decide) (hts (.fieldLink RX8 31 "BlockLog" "rows" "LBlockLog$Rows;") (by decide +kernel)) (fun _ h9 => h9) rfl dX8_vote_29 ?_
            refine vp_callSi (va_Run.run (va_runV (As := []) (rest := []) ⟨hx, hb, hml, hown, hts⟩ (v_X4_inNeed l dC dI c kc st lg ai al R  ) (cwV 0 hts gX8_vote_X4_inNeed rfl rfl rfl (by decide +kernel) ⟨Nat.le_of_ble_eq_true rfl, Nat.le_of_ble_eq_true rfl⟩) ⟨fun a U g mk q => by obtain ⟨q0, qP, qK⟩ := q; exact ⟨q0, qP, va_K.moved (u := U) (U := U.calling g mk a) (Vm.Alike.refl U.vm) qK⟩, va_recv hK hP (ci := 6) (q := (RX4, TX4, 6)) rfl (q0 := 4) rfl, fun U hU hW => ⟨rfl, by rw [hU]; exact hP, va_K.moved hW.alike hK⟩⟩ rfl rfl hl.1 rfl (lv_room (Nat.le_of_ble_eq_true rfl)) dX8_vote_32 ⟨Nat.le_of_ble_eq_true rfl, Nat.le_of_ble_eq_true rfl⟩)) (fun r_5 er_5 => ?_)
            obtain ⟨k_6, k_7⟩ := er_5
            rcases iv_01 (a := r_5) (by omega) (by omega) with b_8 | b_8
            · skip
              have ib_8 := iv_eq b_8
              rw [b_8]
              refine lv_if_eq (tgt := 41) hx hb dX8_vote_35 (by decide) (fun c_9 => ?_) (fun c_9 => ?_)
              · skip
                have ic_9 := iv_eq c_9
                refine lv_aload_n hx hb dX8_vote_41 rfl (lv_at hl 0 rfl) ?_
                refine va_get (D := (dC, dI)) (ci := 10) (v := .ref (c 105)) (C := RX8) (T := TX8) (N := 10) hx hb hts hin_X8 hown hK hP 0 rfl rfl 3 (by decide) (hts (.fieldLink RX8 40 "BlockLog" "story" "LBlockLog$Story;") (by decide +kernel)) (fun _ h9 => h9) rfl dX8_vote_42 ?_
                refine lv_lload_n hx hb dX8_vote_45 rfl (lv_at hl 3 rfl) ?_
                refine vp_callSl (va_Run.run (va_runV (As := [.long p2]) (rest := []) ⟨hx, hb, hml, hown, hts⟩ (v_X6_meant l dC dI c kc st lg ai al R p2 (show 0 ≤ (st 25).toInt by omega) (show (st 25).toInt ≤ 128 by omega)) (cwV 1 hts gX8_vote_X6_meant rfl rfl rfl (by decide +kernel) ⟨Nat.le_of_ble_eq_true rfl, Nat.le_of_ble_eq_true rfl⟩) ⟨fun a U g mk q => by obtain ⟨q0, qP, qK⟩ := q; exact ⟨q0, qP, va_K.moved (u := U) (U := U.calling g mk a) (Vm.Alike.refl U.vm) qK⟩, va_recv hK hP (ci := 8) (q := (RX6, TX6, 12)) rfl (q0 := 5) rfl, fun U hU hW => ⟨rfl, by rw [hU]; exact hP, va_K.moved hW.alike hK⟩⟩ rfl rfl hl.1 rfl (lv_room (Nat.le_of_ble_eq_true rfl)) dX8_vote_46 ⟨Nat.le_of_ble_eq_true rfl, Nat.le_of_ble_eq_true rfl⟩)) (fun r_10 er_10 => ?_)
                refine lv_lstore (lv' := [(5, .long r_10), (0, .ref (c 100)), (1, .int p0), (2, .int p1), (3, .long p2)]) hx hb dX8_vote_49 hl (by decide) rfl (fun ls hl => ?_)
                refine lv_aload_n hx hb dX8_vote_51 rfl (lv_at hl 1 rfl) ?_
                refine va_get (D := (dC, dI)) (ci := 10) (v := .ref (c 105)) (C := RX8) (T := TX8) (N := 10) hx hb hts hin_X8 hown hK hP 0 rfl rfl 3 (by decide) (hts (.fieldLink RX8 40 "BlockLog" "story" "LBlockLog$Story;") (by decide +kernel)) (fun _ h9 => h9) rfl dX8_vote_52 ?_
                refine lv_lload hx hb dX8_vote_55 (lv_at hl 0 rfl) ?_
                refine vp_callSi (va_Run.run (va_runV (As := [.long r_10]) (rest := []) ⟨hx, hb, hml, hown, hts⟩ (v_X6_blockRow l dC dI c kc st lg ai al R r_10 (show 0 ≤ (st 25).toInt by omega) (show (st 25).toInt ≤ 128 by omega)) (cwV 1 hts gX8_vote_X6_blockRow rfl rfl rfl (by decide +kernel) ⟨Nat.le_of_ble_eq_true rfl, Nat.le_of_ble_eq_true rfl⟩) ⟨fun a U g mk q => by obtain ⟨q0, qP, qK⟩ := q; exact ⟨q0, qP, va_K.moved (u := U) (U := U.calling g mk a) (Vm.Alike.refl U.vm) qK⟩, va_recv hK hP (ci := 8) (q := (RX6, TX6, 12)) rfl (q0 := 5) rfl, fun U hU hW => ⟨rfl, by rw [hU]; exact hP, va_K.moved hW.alike hK⟩⟩ rfl rfl hl.1 rfl (lv_room (Nat.le_of_ble_eq_true rfl)) dX8_vote_57 ⟨Nat.le_of_ble_eq_true rfl, Nat.le_of_ble_eq_true rfl⟩)) (fun r_11 er_11 => ?_)
                obtain ⟨k_12, k_13⟩ := er_11
                have k_13 : r_11.toInt < (st 25).toInt := k_13
                refine lv_istore (lv' := [(7, .int r_11), (5, .long r_10), (0, .ref (c 100)), (1, .int p0), (2, .int p1), (3, .long p2)]) hx hb dX8_vote_60 hl (by decide) rfl (fun ls hl => ?_)
                refine lv_iload hx hb dX8_vote_62 (lv_at hl 0 rfl) ?_
                refine lv_iconst (v := (-1)) hx hb dX8_vote_64 (by decide) ?_
                refine lv_icmp_eq (tgt := 81) hx hb dX8_vote_65 (by decide) (fun c_14 => ?_) (fun c_14 => ?_)
                · skip
                  have ic_14 := iv_eq c_14
                  refine lv_bipush (v := (-6)) hx hb dX8_vote_81 (by decide) ?_
                  refine W.widen (k := 3) (n := 18) (Nat.le_of_ble_eq_true rfl) (Nat.le_of_ble_eq_true rfl) ?_
                  refine vx_ret ?_
                  exact W.iret hx hb hr (fun t ht hW => ⟨⟨_, _, rfl, rfl, st 9, st 10, st 11, st 17, st 25, st 26, st 27, st 28, st 29, ai 7, ai 8, ai 14, ai 20, ai 21, ai 22, ai 23, al 19, (by omega), (by omega), (by omega), (by omega), (by omega), (by omega), (by omega), (by omega), (by omega), (by omega), (by omega), (by omega), hR7, hR23, by rw [ht]; exact hP⟩, hS.F ht⟩) hS.2.2 dX8_vote_83
                · skip
                  have ic_14 := iv_ne c_14
                  refine lv_aload_n hx hb dX8_vote_68 rfl (lv_at hl 2 rfl) ?_
                  refine va_get (D := (dC, dI)) (ci := 10) (v := .ref (c 104)) (C := RX8) (T := TX8) (N := 10) hx hb hts hin_X8 hown hK hP 0 rfl rfl 2 (by decide) (hts (.fieldLink RX8 31 "BlockLog" "rows" "LBlockLog$Rows;") (by decide +kernel)) (fun _ h9 => h9) rfl dX8_vote_69 ?_
                  refine lv_iload hx hb dX8_vote_72 (lv_at hl 0 rfl) ?_
                  refine vp_callSi (va_Run.run (va_runV (As := [.int r_11]) (rest := []) ⟨hx, hb, hml, hown, hts⟩ (v_X4_a l dC dI c kc st lg ai al R r_11 (show 0 ≤ (st 15).toInt by omega) (show (st 15).toInt ≤ 1 by omega) (by omega) (by omega)) (cwV 1 hts gX8_vote_X4_a rfl rfl rfl (by decide +kernel) ⟨Nat.le_of_ble_eq_true rfl, Nat.le_of_ble_eq_true rfl⟩) ⟨fun a U g mk q => by obtain ⟨q0, qP, qK, qG⟩ := q; exact ⟨q0, qP, va_K.moved (u := U) (U := U.calling g mk a) (Vm.Alike.refl U.vm) qK, qG.same rfl⟩, va_recv hK hP (ci := 6) (q := (RX4, TX4, 6)) rfl (q0 := 4) rfl, fun U hU hW => ⟨rfl, by rw [hU]; exact hP, va_K.moved hW.alike hK, hGW.warm hW⟩⟩ rfl rfl hl.1 rfl (lv_room (Nat.le_of_ble_eq_true rfl)) dX8_vote_74 ⟨Nat.le_of_ble_eq_true rfl, Nat.le_of_ble_eq_true rfl⟩)) (fun r_15 er_15 => ?_)
                  refine lv_iload_n hx hb dX8_vote_77 rfl (lv_at hl 3 rfl) ?_
                  refine lv_icmp_eq (tgt := 84) hx hb dX8_vote_78 (by decide) (fun c_16 => ?_) (fun c_16 => ?_)
                  · skip
                    have ic_16 := iv_eq c_16
                    refine lv_aload_n hx hb dX8_vote_84 rfl (lv_at hl 2 rfl) ?_
                    refine va_get (D := (dC, dI)) (ci := 10) (v := .ref (c 105)) (C := RX8) (T := TX8) (N := 10) hx hb hts hin_X8 hown hK hP 0 rfl rfl 3 (by decide) (hts (.fieldLink RX8 40 "BlockLog" "story" "LBlockLog$Story;") (by decide +kernel)) (fun _ h9 => h9) rfl dX8_vote_85 ?_
                    refine va_getN (D := (dC, dI)) (ci := 8) (v := .int (st 27)) (C := RX6) (T := TX6) (N := 12) hx hb hts hin_X6 hown hK hP 5 rfl rfl 9 (by decide) (va_Nw.use rfl (hGW.1 ("BlockLog", 170, "BlockLog$Story", "lastVote", "I", "BlockLog") (by decide +kernel))) (fun _ h9 => h9) rfl dX8_vote_88 ?_
                    refine lv_istore (lv' := [(8, .int (st 27)), (7, .int r_11), (5, .long r_10), (0, .ref (c 100)), (1, .int p0), (2, .int p1), (3, .long p2)]) hx hb dX8_vote_91 hl (by decide) rfl (fun ls hl => ?_)
                    refine lv_iload hx hb dX8_vote_93 (lv_at hl 0 rfl) ?_
                    refine lv_iconst (v := (-1)) hx hb dX8_vote_95 (by decide) ?_
                    refine lv_icmp_eq (tgt := 172) hx hb dX8_vote_96 (by decide) (fun c_17 => ?_) (fun c_17 => ?_)
                    · skip
                      have ic_17 := iv_eq c_17
                      refine lv_aload_n hx hb dX8_vote_172 rfl (lv_at hl 3 rfl) ?_
                      refine va_get (D := (dC, dI)) (ci := 10) (v := .ref (c 104)) (C := RX8) (T := TX8) (N := 10) hx hb hts hin_X8 hown hK hP 0 rfl rfl 2 (by decide) (hts (.fieldLink RX8 31 "BlockLog" "rows" "LBlockLog$Rows;") (by decide +kernel)) (fun _ h9 => h9) rfl dX8_vote_173 ?_
                      refine va_getN (D := (dC, dI)) (ci := 6) (v := .int (st 17)) (C := RX4) (T := TX4) (N := 6) hx hb hts hin_X4 hown hK hP 4 rfl rfl 4 (by decide) (va_Nw.use rfl (hGW.1 ("BlockLog", 151, "BlockLog$Rows", "count", "I", "BlockLog") (by decide +kernel))) (fun _ h9 => h9) rfl dX8_vote_176 ?_
                      refine lv_sipush (v := 128) hx hb dX8_vote_179 (by decide) ?_
                      refine lv_icmp_lt (tgt := 188) hx hb dX8_vote_182 (by decide) (fun c_18 => ?_) (fun c_18 => ?_)
                      · skip
                        have ic_18 := iv_lt c_18
                        refine lv_aload_n hx hb dX8_vote_188 rfl (lv_at hl 3 rfl) ?_
                        refine lv_iconst (v := 1) hx hb dX8_vote_189 (by decide) ?_
                        refine lv_iload_n hx hb dX8_vote_190 rfl (lv_at hl 4 rfl) ?_
                        refine lv_iload_n hx hb dX8_vote_191 rfl (lv_at hl 5 rfl) ?_
                        refine lv_lload hx hb dX8_vote_192 (lv_at hl 2 rfl) ?_
                        have hFc := vfree ((cw_D hD : va_D A (cw_W c kc st lg ai al R)) : va_D A (cw_W c kc st lg ai al R)) hS hA
                        refine va_calli (va_runV (As := [.int (1 : Int32), .int p0, .int p1, .long r_10]) (rest := []) ⟨hx, hb, hml, hown, hts⟩ (v_X8_append l dC dI c kc st lg ai al R (1 : Int32) p0 p1 r_10 _ (show 0 ≤ (st 9).toInt by omega) (show (st 9).toInt ≤ 1 by omega) (show 0 ≤ (st 15).toInt by omega) (show (st 15).toInt ≤ 1 by omega) (show 0 ≤ (st 17).toInt by omega) (show (st 17).toInt ≤ 128 by omega) (show 0 ≤ (st 25).toInt by omega) (show (st 25).toInt ≤ 128 by omega) (show 0 ≤ (st 26).toInt by omega) (show (st 26).toInt ≤ 128 by omega) (show -1 ≤ (st 27).toInt by omega) (show (st 27).toInt ≤ 127 by omega) (show 0 ≤ (st 28).toInt by omega) (show (st 28).toInt ≤ 1 by omega) (show aR (ai 7) 8224 (-128) 127 from hR7) (show aR (ai 23) 128 (0) 127 from hR23)) (cwV 4 hts gX8_vote_X8_append rfl rfl rfl (by decide +kernel) ⟨Nat.le_of_ble_eq_true rfl, Nat.le_of_ble_eq_true rfl⟩) ⟨fun a U g mk q => by obtain ⟨q0, q1, qP, qK, qD, qG⟩ := q; exact ⟨q0, q1, qP, va_K.moved (u := U) (U := U.calling g mk a) (Vm.Alike.refl U.vm) qK, qD, qG.same rfl rfl⟩, va_recv hK hP (ci := 10) (q := (RX8, TX8, 10)) rfl (q0 := 0) rfl, fun U hU hW => ⟨rfl, by rw [hU], by rw [hU]; exact hP, va_K.moved hW.alike hK, ((cw_D hD : va_D A (cw_W c kc st lg ai al R))).weaken (fun _ _ _ _ => trivial), hG.go hW hU hS hFc⟩⟩ rfl rfl hl.1 rfl (lv_room (Nat.le_of_ble_eq_true rfl)) dX8_vote_194 ⟨Nat.le_of_ble_eq_true rfl, Nat.le_of_ble_eq_true rfl⟩) hS (fun q _ h => hFc q h) hFc (fun r_19 ur_19 t H1 locs ht hvm er_19 hB hz1 hk1 hS => ?_)
                        subst er_19
                        obtain ⟨x9_19, x10_19, x11_19, x17_19, x25_19, x26_19, x27_19, x28_19, x29_19, f7_19, f8_19, f14_19, f20_19, f21_19, f22_19, f23_19, g19_19, k_20, k_21, k_22, k_23, k_24, k_25, k_26, k_27, k_28, k_29, k_30, k_31, k_32, k_33, hR7, hR23, hP1⟩ := hB
                        rw [ht] at hP1
                        clear hFc hz1 hk1 hvm hP
                        subst ht
                        have hP := hP1
                        clear hP1
                        generalize t.heap = H at hP hS ⊢
                        have hP : va_P (dC, dI) vwCl (cw_W c kc (rU (rU (rU (rU (rU (rU (rU (rU (rU st 9 x9_19) 10 x10_19) 11 x11_19) 17 x17_19) 25 x25_19) 26 x26_19) 27 x27_19) 28 x28_19) 29 x29_19) lg (rU (rU (rU (rU (rU (rU (rU ai 7 f7_19) 8 f8_19) 14 f14_19) 20 f20_19) 21 f21_19) 22 f22_19) 23 f23_19) (rU al 19 g19_19) R) H := hP
                        have k_22 : 0 ≤ x9_19.toInt := k_22
                        have k_23 : x9_19.toInt ≤ 1 := k_23
                        have k_24 : 0 ≤ x17_19.toInt := k_24
                        have k_25 : x17_19.toInt ≤ 128 := k_25
                        have k_26 : 0 ≤ x25_19.toInt := k_26
                        have k_27 : x25_19.toInt ≤ 128 := k_27
                        have k_28 : 0 ≤ x26_19.toInt := k_28
                        have k_29 : x26_19.toInt ≤ 128 := k_29
                        have k_30 : -1 ≤ x27_19.toInt := k_30
                        have k_31 : x27_19.toInt ≤ 127 := k_31
                        have k_32 : 0 ≤ x28_19.toInt := k_32
                        have k_33 : x28_19.toInt ≤ 1 := k_33
                        have hR7 : aR f7_19 8224 (-128) 127 := hR7
                        have hR23 : aR f23_19 128 (0) 127 := hR23
                        rcases iv_01 (a := r_19) (by omega) (by omega) with b_34 | b_34
                        · skip
                          have ib_34 := iv_eq b_34
                          rw [b_34]
                          refine lv_if_eq (tgt := 212) hx hb dX8_vote_197 (by decide) (fun c_35 => ?_) (fun c_35 => ?_)
                          · skip
                            have ic_35 := iv_eq c_35
                            refine lv_bipush (v := (-4)) hx hb dX8_vote_212 (by decide) ?_
                            refine W.widen (k := 3) (n := 18) (Nat.le_of_ble_eq_true rfl) (Nat.le_of_ble_eq_true rfl) ?_
                            refine vx_ret ?_
                            exact W.iret hx hb hr (fun t ht hW => ⟨⟨_, _, rfl, rfl, x9_19, x10_19, x11_19, x17_19, x25_19, x26_19, x27_19, x28_19, x29_19, f7_19, f8_19, f14_19, f20_19, f21_19, f22_19, f23_19, g19_19, (by omega), (by omega), (by omega), (by omega), (by omega), (by omega), (by omega), (by omega), (by omega), (by omega), (by omega), (by omega), hR7, hR23, by rw [ht]; exact hP⟩, hS.F ht⟩) hS.2.2 dX8_vote_214
                          · skip
                            have ic_35 := iv_ne c_35
                            exfalso
                            omega
                        · skip
                          have ib_34 := iv_eq b_34
                          rw [b_34]
                          refine lv_if_eq (tgt := 212) hx hb dX8_vote_197 (by decide) (fun c_36 => ?_) (fun c_36 => ?_)
                          · skip
                            have ic_36 := iv_eq c_36
                            exfalso
                            omega
                          · skip
                            have ic_36 := iv_ne c_36
                            refine lv_aload_n hx hb dX8_vote_200 rfl (lv_at hl 3 rfl) ?_
                            refine va_get (D := (dC, dI)) (ci := 10) (v := .ref (c 104)) (C := RX8) (T := TX8) (N := 10) hx hb hts hin_X8 hown hK hP 0 rfl rfl 2 (by decide) (hts (.fieldLink RX8 31 "BlockLog" "rows" "LBlockLog$Rows;") (by decide +kernel)) (fun _ h9 => h9) rfl dX8_vote_201 ?_
                            refine va_getN (D := (dC, dI)) (ci := 6) (v := .int x17_19) (C := RX4) (T := TX4) (N := 6) hx hb hts hin_X4 hown hK hP 4 rfl rfl 4 (by decide) (va_Nw.use rfl (hGW.1 ("BlockLog", 151, "BlockLog$Rows", "count", "I", "BlockLog") (by decide +kernel))) (fun _ h9 => h9) rfl dX8_vote_204 ?_
                            refine lv_iconst (v := 1) hx hb dX8_vote_207 (by decide) ?_
                            refine lv_isub hx hb dX8_vote_208 ?_
                            refine lv_topi (fun v_37 ev_37 => ?_)
                            have rg1 := iv_rng x17_19
                            have hv_37 : v_37.toInt = x17_19.toInt - 1 := by rw [ev_37]; exact (iv_sub (by omega) (by omega)).trans (by omega)
                            clear ev_37
                            refine lv_goto (tgt := 214) hx hb dX8_vote_209 (by decide) ?_
                            refine W.widen (k := 3) (n := 18) (Nat.le_of_ble_eq_true rfl) (Nat.le_of_ble_eq_true rfl) ?_
                            refine vx_ret ?_
                            exact W.iret hx hb hr (fun t ht hW => ⟨⟨_, _, rfl, rfl, x9_19, x10_19, x11_19, x17_19, x25_19, x26_19, x27_19, x28_19, x29_19, f7_19, f8_19, f14_19, f20_19, f21_19, f22_19, f23_19, g19_19, (by omega), (by omega), (by omega), (by omega), (by omega), (by omega), (by omega), (by omega), (by omega), (by omega), (by omega), (by omega), hR7, hR23, by rw [ht]; exact hP⟩, hS.F ht⟩) hS.2.2 dX8_vote_214
                      · skip
                        have ic_18 := iv_nlt c_18
                        refine lv_bipush (v := (-2)) hx hb dX8_vote_185 (by decide) ?_
                        refine W.widen (k := 3) (n := 18) (Nat.le_of_ble_eq_true rfl) (Nat.le_of_ble_eq_true rfl) ?_
                        refine vx_ret ?_
                        exact W.iret hx hb hr (fun t ht hW => ⟨⟨_, _, rfl, rfl, st 9, st 10, st 11, st 17, st 25, st 26, st 27, st 28, st 29, ai 7, ai 8, ai 14, ai 20, ai 21, ai 22, ai 23, al 19, (by omega), (by omega), (by omega), (by omega), (by omega), (by omega), (by omega), (by omega), (by omega), (by omega), (by omega), (by omega), hR7, hR23, by rw [ht]; exact hP⟩, hS.F ht⟩) hS.2.2 dX8_vote_187
                    · skip
                      have ic_17 := iv_ne c_17
                      refine lv_aload_n hx hb dX8_vote_99 rfl (lv_at hl 3 rfl) ?_
                      refine va_get (D := (dC, dI)) (ci := 10) (v := .ref (c 104)) (C := RX8) (T := TX8) (N := 10) hx hb hts hin_X8 hown hK hP 0 rfl rfl 2 (by decide) (hts (.fieldLink RX8 31 "BlockLog" "rows" "LBlockLog$Rows;") (by decide +kernel)) (fun _ h9 => h9) rfl dX8_vote_100 ?_
                      refine lv_iload hx hb dX8_vote_103 (lv_at hl 0 rfl) ?_
                      refine vp_callSi (va_Run.run (va_runV (As := [.int (st 27)]) (rest := []) ⟨hx, hb, hml, hown, hts⟩ (v_X4_a l dC dI c kc st lg ai al R (st 27) (show 0 ≤ (st 15).toInt by omega) (show (st 15).toInt ≤ 1 by omega) (by omega) (by omega)) (cwV 1 hts gX8_vote_X4_a rfl rfl rfl (by decide +kernel) ⟨Nat.le_of_ble_eq_true rfl, Nat.le_of_ble_eq_true rfl⟩) ⟨fun a U g mk q => by obtain ⟨q0, qP, qK, qG⟩ := q; exact ⟨q0, qP, va_K.moved (u := U) (U := U.calling g mk a) (Vm.Alike.refl U.vm) qK, qG.same rfl⟩, va_recv hK hP (ci := 6) (q := (RX4, TX4, 6)) rfl (q0 := 4) rfl, fun U hU hW => ⟨rfl, by rw [hU]; exact hP, va_K.moved hW.alike hK, hGW.warm hW⟩⟩ rfl rfl hl.1 rfl (lv_room (Nat.le_of_ble_eq_true rfl)) dX8_vote_105 ⟨Nat.le_of_ble_eq_true rfl, Nat.le_of_ble_eq_true rfl⟩)) (fun r_38 er_38 => ?_)
                      refine lv_istore (lv' := [(9, .int r_38), (8, .int (st 27)), (7, .int r_11), (5, .long r_10), (0, .ref (c 100)), (1, .int p0), (2, .int p1), (3, .long p2)]) hx hb dX8_vote_108 hl (by decide) rfl (fun ls hl => ?_)
                      refine lv_aload_n hx hb dX8_vote_110 rfl (lv_at hl 4 rfl) ?_
                      refine va_get (D := (dC, dI)) (ci := 10) (v := .ref (c 104)) (C := RX8) (T := TX8) (N := 10) hx hb hts hin_X8 hown hK hP 0 rfl rfl 2 (by decide) (hts (.fieldLink RX8 31 "BlockLog" "rows" "LBlockLog$Rows;") (by decide +kernel)) (fun _ h9 => h9) rfl dX8_vote_111 ?_
                      refine lv_iload hx hb dX8_vote_114 (lv_at hl 1 rfl) ?_
                      refine vp_callSi (va_Run.run (va_runV (As := [.int (st 27)]) (rest := []) ⟨hx, hb, hml, hown, hts⟩ (v_X4_b l dC dI c kc st lg ai al R (st 27) (show 0 ≤ (st 15).toInt by omega) (show (st 15).toInt ≤ 1 by omega) (by omega) (by omega)) (cwV 1 hts gX8_vote_X4_b rfl rfl rfl (by decide +kernel) ⟨Nat.le_of_ble_eq_true rfl, Nat.le_of_ble_eq_true rfl⟩) ⟨fun a U g mk q => by obtain ⟨q0, qP, qK, qG⟩ := q; exact ⟨q0, qP, va_K.moved (u := U) (U := U.calling g mk a) (Vm.Alike.refl U.vm) qK, qG.same rfl⟩, va_recv hK hP (ci := 6) (q := (RX4, TX4, 6)) rfl (q0 := 4) rfl, fun U hU hW => ⟨rfl, by rw [hU]; exact hP, va_K.moved hW.alike hK, hGW.warm hW⟩⟩ rfl rfl hl.1 rfl (lv_room (Nat.le_of_ble_eq_true rfl)) dX8_vote_116 ⟨Nat.le_of_ble_eq_true rfl, Nat.le_of_ble_eq_true rfl⟩)) (fun r_39 er_39 => ?_)
                      have k_40 := er_39
                      have k_40 : r_39.toInt = (cB (ai 7) (st 15) (st 27)).toInt := k_40
                      refine lv_istore (lv' := [(10, .int r_39), (9, .int r_38), (8, .int (st 27)), (7, .int r_11), (5, .long r_10), (0, .ref (c 100)), (1, .int p0), (2, .int p1), (3, .long p2)]) hx hb dX8_vote_119 hl (by decide) rfl (fun ls hl => ?_)
                      refine lv_iload hx hb dX8_vote_121 (lv_at hl 1 rfl) ?_
                      refine lv_iload_n hx hb dX8_vote_123 rfl (lv_at hl 6 rfl) ?_
                      refine lv_icmp_ne (tgt := 151) hx hb dX8_vote_124 (by decide) (fun c_41 => ?_) (fun c_41 => ?_)
                      · skip
                        have ic_41 := iv_ne c_41
                        refine lv_iload hx hb dX8_vote_151 (lv_at hl 1 rfl) ?_
                        refine lv_iload_n hx hb dX8_vote_153 rfl (lv_at hl 6 rfl) ?_
                        refine lv_icmp_gt (tgt := 169) hx hb dX8_vote_154 (by decide) (fun c_42 => ?_) (fun c_42 => ?_)
                        · skip
                          have ic_42 := iv_lt c_42
                          refine lv_bipush (v := (-7)) hx hb dX8_vote_169 (by decide) ?_
                          refine W.widen (k := 3) (n := 18) (Nat.le_of_ble_eq_true rfl) (Nat.le_of_ble_eq_true rfl) ?_
                          refine vx_ret ?_
                          exact W.iret hx hb hr (fun t ht hW => ⟨⟨_, _, rfl, rfl, st 9, st 10, st 11, st 17, st 25, st 26, st 27, st 28, st 29, ai 7, ai 8, ai 14, ai 20, ai 21, ai 22, ai 23, al 19, (by omega), (by omega), (by omega), (by omega), (by omega), (by omega), (by omega), (by omega), (by omega), (by omega), (by omega), (by omega), hR7, hR23, by rw [ht]; exact hP⟩, hS.F ht⟩) hS.2.2 dX8_vote_171
                        · skip
                          have ic_42 := iv_nlt c_42
                          refine lv_iload hx hb dX8_vote_157 (lv_at hl 1 rfl) ?_
                          refine lv_iload_n hx hb dX8_vote_159 rfl (lv_at hl 6 rfl) ?_
                          refine lv_icmp_ne (tgt := 172) hx hb dX8_vote_160 (by decide) (fun c_43 => ?_) (fun c_43 => ?_)
                          · skip
                            have ic_43 := iv_ne c_43
                            refine lv_aload_n hx hb dX8_vote_172 rfl (lv_at hl 5 rfl) ?_
                            refine va_get (D := (dC, dI)) (ci := 10) (v := .ref (c 104)) (C := RX8) (T := TX8) (N := 10) hx hb hts hin_X8 hown hK hP 0 rfl rfl 2 (by decide) (hts (.fieldLink RX8 31 "BlockLog" "rows" "LBlockLog$Rows;") (by decide +kernel)) (fun _ h9 => h9) rfl dX8_vote_173 ?_
                            refine va_getN (D := (dC, dI)) (ci := 6) (v := .int (st 17)) (C := RX4) (T := TX4) (N := 6) hx hb hts hin_X4 hown hK hP 4 rfl rfl 4 (by decide) (va_Nw.use rfl (hGW.1 ("BlockLog", 151, "BlockLog$Rows", "count", "I", "BlockLog") (by decide +kernel))) (fun _ h9 => h9) rfl dX8_vote_176 ?_
                            refine lv_sipush (v := 128) hx hb dX8_vote_179 (by decide) ?_
                            refine lv_icmp_lt (tgt := 188) hx hb dX8_vote_182 (by decide) (fun c_44 => ?_) (fun c_44 => ?_)
                            · skip
                              have ic_44 := iv_lt c_44
                              refine lv_aload_n hx hb dX8_vote_188 rfl (lv_at hl 5 rfl) ?_
                              refine lv_iconst (v := 1) hx hb dX8_vote_189 (by decide) ?_
                              refine lv_iload_n hx hb dX8_vote_190 rfl (lv_at hl 6 rfl) ?_
                              refine lv_iload_n hx hb dX8_vote_191 rfl (lv_at hl 7 rfl) ?_
                              refine lv_lload hx hb dX8_vote_192 (lv_at hl 4 rfl) ?_
                              have hFc := vfree ((cw_D hD : va_D A (cw_W c kc st lg ai al R)) : va_D A (cw_W c kc st lg ai al R)) hS hA
                              refine va_calli (va_runV (As := [.int (1 : Int32), .int p0, .int p1, .long r_10]) (rest := []) ⟨hx, hb, hml, hown, hts⟩ (v_X8_append l dC dI c kc st lg ai al R (1 : Int32) p0 p1 r_10 _ (show 0 ≤ (st 9).toInt by omega) (show (st 9).toInt ≤ 1 by omega) (show 0 ≤ (st 15).toInt by omega) (show (st 15).toInt ≤ 1 by omega) (show 0 ≤ (st 17).toInt by omega) (show (st 17).toInt ≤ 128 by omega) (show 0 ≤ (st 25).toInt by omega) (show (st 25).toInt ≤ 128 by omega) (show 0 ≤ (st 26).toInt by omega) (show (st 26).toInt ≤ 128 by omega) (show -1 ≤ (st 27).toInt by omega) (show (st 27).toInt ≤ 127 by omega) (show 0 ≤ (st 28).toInt by omega) (show (st 28).toInt ≤ 1 by omega) (show aR (ai 7) 8224 (-128) 127 from hR7) (show aR (ai 23) 128 (0) 127 from hR23)) (cwV 4 hts gX8_vote_X8_append rfl rfl rfl (by decide +kernel) ⟨Nat.le_of_ble_eq_true rfl, Nat.le_of_ble_eq_true rfl⟩) ⟨fun a U g mk q => by obtain ⟨q0, q1, qP, qK, qD, qG⟩ := q; exact ⟨q0, q1, qP, va_K.moved (u := U) (U := U.calling g mk a) (Vm.Alike.refl U.vm) qK, qD, qG.same rfl rfl⟩, va_recv hK hP (ci := 10) (q := (RX8, TX8, 10)) rfl (q0 := 0) rfl, fun U hU hW => ⟨rfl, by rw [hU], by rw [hU]; exact hP, va_K.moved hW.alike hK, ((cw_D hD : va_D A (cw_W c kc st lg ai al R))).weaken (fun _ _ _ _ => trivial), hG.go hW hU hS hFc⟩⟩ rfl rfl hl.1 rfl (lv_room (Nat.le_of_ble_eq_true rfl)) dX8_vote_194 ⟨Nat.le_of_ble_eq_true rfl, Nat.le_of_ble_eq_true rfl⟩) hS (fun q _ h => hFc q h) hFc (fun r_45 ur_45 t H1 locs ht hvm er_45 hB hz1 hk1 hS => ?_)
                              subst er_45
                              obtain ⟨x9_45, x10_45, x11_45, x17_45, x25_45, x26_45, x27_45, x28_45, x29_45, f7_45, f8_45, f14_45, f20_45, f21_45, f22_45, f23_45, g19_45, k_46, k_47, k_48, k_49, k_50, k_51, k_52, k_53, k_54, k_55, k_56, k_57, k_58, k_59, hR7, hR23, hP1⟩ := hB
                              rw [ht] at hP1
                              clear hFc hz1 hk1 hvm hP
                              subst ht
                              have hP := hP1
                              clear hP1
                              generalize t.heap = H at hP hS ⊢
                              have hP : va_P (dC, dI) vwCl (cw_W c kc (rU (rU (rU (rU (rU (rU (rU (rU (rU st 9 x9_45) 10 x10_45) 11 x11_45) 17 x17_45) 25 x25_45) 26 x26_45) 27 x27_45) 28 x28_45) 29 x29_45) lg (rU (rU (rU (rU (rU (rU (rU ai 7 f7_45) 8 f8_45) 14 f14_45) 20 f20_45) 21 f21_45) 22 f22_45) 23 f23_45) (rU al 19 g19_45) R) H := hP
                              have k_48 : 0 ≤ x9_45.toInt := k_48
                              have k_49 : x9_45.toInt ≤ 1 := k_49
                              have k_50 : 0 ≤ x17_45.toInt := k_50
                              have k_51 : x17_45.toInt ≤ 128 := k_51
                              have k_52 : 0 ≤ x25_45.toInt := k_52
                              have k_53 : x25_45.toInt ≤ 128 := k_53
                              have k_54 : 0 ≤ x26_45.toInt := k_54
                              have k_55 : x26_45.toInt ≤ 128 := k_55
                              have k_56 : -1 ≤ x27_45.toInt := k_56
                              have k_57 : x27_45.toInt ≤ 127 := k_57
                              have k_58 : 0 ≤ x28_45.toInt := k_58
                              have k_59 : x28_45.toInt ≤ 1 := k_59
                              have hR7 : aR f7_45 8224 (-128) 127 := hR7
                              have hR23 : aR f23_45 128 (0) 127 := hR23
                              rcases iv_01 (a := r_45) (by omega) (by omega) with b_60 | b_60
                              · skip
                                have ib_60 := iv_eq b_60
                                rw [b_60]
                                refine lv_if_eq (tgt := 212) hx hb dX8_vote_197 (by decide) (fun c_61 => ?_) (fun c_61 => ?_)
                                · skip
                                  have ic_61 := iv_eq c_61
                                  refine lv_bipush (v := (-4)) hx hb dX8_vote_212 (by decide) ?_
                                  refine W.widen (k := 3) (n := 18) (Nat.le_of_ble_eq_true rfl) (Nat.le_of_ble_eq_true rfl) ?_
                                  refine vx_ret ?_
                                  exact W.iret hx hb hr (fun t ht hW => ⟨⟨_, _, rfl, rfl, x9_45, x10_45, x11_45, x17_45, x25_45, x26_45, x27_45, x28_45, x29_45, f7_45, f8_45, f14_45, f20_45, f21_45, f22_45, f23_45, g19_45, (by omega), (by omega), (by omega), (by omega), (by omega), (by omega), (by omega), (by omega), (by omega), (by omega), (by omega), (by omega), hR7, hR23, by rw [ht]; exact hP⟩, hS.F ht⟩) hS.2.2 dX8_vote_214
                                · skip
                                  have ic_61 := iv_ne c_61
                                  exfalso
                                  omega
                              · skip
                                have ib_60 := iv_eq b_60
                                rw [b_60]
                                refine lv_if_eq (tgt := 212) hx hb dX8_vote_197 (by decide) (fun c_62 => ?_) (fun c_62 => ?_)
                                · skip
                                  have ic_62 := iv_eq c_62
                                  exfalso
                                  omega
                                · skip
                                  have ic_62 := iv_ne c_62
                                  refine lv_aload_n hx hb dX8_vote_200 rfl (lv_at hl 5 rfl) ?_
                                  refine va_get (D := (dC, dI)) (ci := 10) (v := .ref (c 104)) (C := RX8) (T := TX8) (N := 10) hx hb hts hin_X8 hown hK hP 0 rfl rfl 2 (by decide) (hts (.fieldLink RX8 31 "BlockLog" "rows" "LBlockLog$Rows;") (by decide +kernel)) (fun _ h9 => h9) rfl dX8_vote_201 ?_
                                  refine va_getN (D := (dC, dI)) (ci := 6) (v := .int x17_45) (C := RX4) (T := TX4) (N := 6) hx hb hts hin_X4 hown hK hP 4 rfl rfl 4 (by decide) (va_Nw.use rfl (hGW.1 ("BlockLog", 151, "BlockLog$Rows", "count", "I", "BlockLog") (by decide +kernel))) (fun _ h9 => h9) rfl dX8_vote_204 ?_
                                  refine lv_iconst (v := 1) hx hb dX8_vote_207 (by decide) ?_
                                  refine lv_isub hx hb dX8_vote_208 ?_
                                  refine lv_topi (fun v_63 ev_63 => ?_)
                                  have rg2 := iv_rng x17_45
                                  have hv_63 : v_63.toInt = x17_45.toInt - 1 := by rw [ev_63]; exact (iv_sub (by omega) (by omega)).trans (by omega)
                                  clear ev_63
                                  refine lv_goto (tgt := 214) hx hb dX8_vote_209 (by decide) ?_
                                  refine W.widen (k := 3) (n := 18) (Nat.le_of_ble_eq_true rfl) (Nat.le_of_ble_eq_true rfl) ?_
                                  refine vx_ret ?_
                                  exact W.iret hx hb hr (fun t ht hW => ⟨⟨_, _, rfl, rfl, x9_45, x10_45, x11_45, x17_45, x25_45, x26_45, x27_45, x28_45, x29_45, f7_45, f8_45, f14_45, f20_45, f21_45, f22_45, f23_45, g19_45, (by omega), (by omega), (by omega), (by omega), (by omega), (by omega), (by omega), (by omega), (by omega), (by omega), (by omega), (by omega), hR7, hR23, by rw [ht]; exact hP⟩, hS.F ht⟩) hS.2.2 dX8_vote_214
                            · skip
                              have ic_44 := iv_nlt c_44
                              refine lv_bipush (v := (-2)) hx hb dX8_vote_185 (by decide) ?_
                              refine W.widen (k := 3) (n := 18) (Nat.le_of_ble_eq_true rfl) (Nat.le_of_ble_eq_true rfl) ?_
                              refine vx_ret ?_
                              exact W.iret hx hb hr (fun t ht hW => ⟨⟨_, _, rfl, rfl, st 9, st 10, st 11, st 17, st 25, st 26, st 27, st 28, st 29, ai 7, ai 8, ai 14, ai 20, ai 21, ai 22, ai 23, al 19, (by omega), (by omega), (by omega), (by omega), (by omega), (by omega), (by omega), (by omega), (by omega), (by omega), (by omega), (by omega), hR7, hR23, by rw [ht]; exact hP⟩, hS.F ht⟩) hS.2.2 dX8_vote_187
                          · skip
                            have ic_43 := iv_eq c_43
                            exfalso
                            omega
                      · skip
                        have ic_41 := iv_eq c_41
                        refine lv_iload hx hb dX8_vote_127 (lv_at hl 0 rfl) ?_
                        refine lv_iload_n hx hb dX8_vote_129 rfl (lv_at hl 7 rfl) ?_
                        refine lv_icmp_ne (tgt := 151) hx hb dX8_vote_130 (by decide) (fun c_64 => ?_) (fun c_64 => ?_)
                        · skip
                          have ic_64 := iv_ne c_64
                          refine lv_iload hx hb dX8_vote_151 (lv_at hl 1 rfl) ?_
                          refine lv_iload_n hx hb dX8_vote_153 rfl (lv_at hl 6 rfl) ?_
                          refine lv_icmp_gt (tgt := 169) hx hb dX8_vote_154 (by decide) (fun c_65 => ?_) (fun c_65 => ?_)
                          · skip
                            have ic_65 := iv_lt c_65
                            exfalso
                            omega
                          · skip
                            have ic_65 := iv_nlt c_65
                            refine lv_iload hx hb dX8_vote_157 (lv_at hl 1 rfl) ?_
                            refine lv_iload_n hx hb dX8_vote_159 rfl (lv_at hl 6 rfl) ?_
                            refine lv_icmp_ne (tgt := 172) hx hb dX8_vote_160 (by decide) (fun c_66 => ?_) (fun c_66 => ?_)
                            · skip
                              have ic_66 := iv_ne c_66
                              exfalso
                              omega
                            · skip
                              have ic_66 := iv_eq c_66
                              refine lv_iload hx hb dX8_vote_163 (lv_at hl 0 rfl) ?_
                              refine lv_iload_n hx hb dX8_vote_165 rfl (lv_at hl 7 rfl) ?_
                              refine lv_icmp_lt (tgt := 172) hx hb dX8_vote_166 (by decide) (fun c_67 => ?_) (fun c_67 => ?_)
                              · skip
                                have ic_67 := iv_lt c_67
                                refine lv_aload_n hx hb dX8_vote_172 rfl (lv_at hl 5 rfl) ?_
                                refine va_get (D := (dC, dI)) (ci := 10) (v := .ref (c 104)) (C := RX8) (T := TX8) (N := 10) hx hb hts hin_X8 hown hK hP 0 rfl rfl 2 (by decide) (hts (.fieldLink RX8 31 "BlockLog" "rows" "LBlockLog$Rows;") (by decide +kernel)) (fun _ h9 => h9) rfl dX8_vote_173 ?_
                                refine va_getN (D := (dC, dI)) (ci := 6) (v := .int (st 17)) (C := RX4) (T := TX4) (N := 6) hx hb hts hin_X4 hown hK hP 4 rfl rfl 4 (by decide) (va_Nw.use rfl (hGW.1 ("BlockLog", 151, "BlockLog$Rows", "count", "I", "BlockLog") (by decide +kernel))) (fun _ h9 => h9) rfl dX8_vote_176 ?_
                                refine lv_sipush (v := 128) hx hb dX8_vote_179 (by decide) ?_
                                refine lv_icmp_lt (tgt := 188) hx hb dX8_vote_182 (by decide) (fun c_68 => ?_) (fun c_68 => ?_)
                                · skip
                                  have ic_68 := iv_lt c_68
                                  refine lv_aload_n hx hb dX8_vote_188 rfl (lv_at hl 5 rfl) ?_
                                  refine lv_iconst (v := 1) hx hb dX8_vote_189 (by decide) ?_
                                  refine lv_iload_n hx hb dX8_vote_190 rfl (lv_at hl 6 rfl) ?_
                                  refine lv_iload_n hx hb dX8_vote_191 rfl (lv_at hl 7 rfl) ?_
                                  refine lv_lload hx hb dX8_vote_192 (lv_at hl 4 rfl) ?_
                                  have hFc := vfree ((cw_D hD : va_D A (cw_W c kc st lg ai al R)) : va_D A (cw_W c kc st lg ai al R)) hS hA
                                  refine va_calli (va_runV (As := [.int (1 : Int32), .int p0, .int p1, .long r_10]) (rest := []) ⟨hx, hb, hml, hown, hts⟩ (v_X8_append l dC dI c kc st lg ai al R (1 : Int32) p0 p1 r_10 _ (show 0 ≤ (st 9).toInt by omega) (show (st 9).toInt ≤ 1 by omega) (show 0 ≤ (st 15).toInt by omega) (show (st 15).toInt ≤ 1 by omega) (show 0 ≤ (st 17).toInt by omega) (show (st 17).toInt ≤ 128 by omega) (show 0 ≤ (st 25).toInt by omega) (show (st 25).toInt ≤ 128 by omega) (show 0 ≤ (st 26).toInt by omega) (show (st 26).toInt ≤ 128 by omega) (show -1 ≤ (st 27).toInt by omega) (show (st 27).toInt ≤ 127 by omega) (show 0 ≤ (st 28).toInt by omega) (show (st 28).toInt ≤ 1 by omega) (show aR (ai 7) 8224 (-128) 127 from hR7) (show aR (ai 23) 128 (0) 127 from hR23)) (cwV 4 hts gX8_vote_X8_append rfl rfl rfl (by decide +kernel) ⟨Nat.le_of_ble_eq_true rfl, Nat.le_of_ble_eq_true rfl⟩) ⟨fun a U g mk q => by obtain ⟨q0, q1, qP, qK, qD, qG⟩ := q; exact ⟨q0, q1, qP, va_K.moved (u := U) (U := U.calling g mk a) (Vm.Alike.refl U.vm) qK, qD, qG.same rfl rfl⟩, va_recv hK hP (ci := 10) (q := (RX8, TX8, 10)) rfl (q0 := 0) rfl, fun U hU hW => ⟨rfl, by rw [hU], by rw [hU]; exact hP, va_K.moved hW.alike hK, ((cw_D hD : va_D A (cw_W c kc st lg ai al R))).weaken (fun _ _ _ _ => trivial), hG.go hW hU hS hFc⟩⟩ rfl rfl hl.1 rfl (lv_room (Nat.le_of_ble_eq_true rfl)) dX8_vote_194 ⟨Nat.le_of_ble_eq_true rfl, Nat.le_of_ble_eq_true rfl⟩) hS (fun q _ h => hFc q h) hFc (fun r_69 ur_69 t H1 locs ht hvm er_69 hB hz1 hk1 hS => ?_)
                                  subst er_69
                                  obtain ⟨x9_69, x10_69, x11_69, x17_69, x25_69, x26_69, x27_69, x28_69, x29_69, f7_69, f8_69, f14_69, f20_69, f21_69, f22_69, f23_69, g19_69, k_70, k_71, k_72, k_73, k_74, k_75, k_76, k_77, k_78, k_79, k_80, k_81, k_82, k_83, hR7, hR23, hP1⟩ := hB
                                  rw [ht] at hP1
                                  clear hFc hz1 hk1 hvm hP
                                  subst ht
                                  have hP := hP1
                                  clear hP1
                                  generalize t.heap = H at hP hS ⊢
                                  have hP : va_P (dC, dI) vwCl (cw_W c kc (rU (rU (rU (rU (rU (rU (rU (rU (rU st 9 x9_69) 10 x10_69) 11 x11_69) 17 x17_69) 25 x25_69) 26 x26_69) 27 x27_69) 28 x28_69) 29 x29_69) lg (rU (rU (rU (rU (rU (rU (rU ai 7 f7_69) 8 f8_69) 14 f14_69) 20 f20_69) 21 f21_69) 22 f22_69) 23 f23_69) (rU al 19 g19_69) R) H := hP
                                  have k_72 : 0 ≤ x9_69.toInt := k_72
                                  have k_73 : x9_69.toInt ≤ 1 := k_73
                                  have k_74 : 0 ≤ x17_69.toInt := k_74
                                  have k_75 : x17_69.toInt ≤ 128 := k_75
                                  have k_76 : 0 ≤ x25_69.toInt := k_76
                                  have k_77 : x25_69.toInt ≤ 128 := k_77
                                  have k_78 : 0 ≤ x26_69.toInt := k_78
                                  have k_79 : x26_69.toInt ≤ 128 := k_79
                                  have k_80 : -1 ≤ x27_69.toInt := k_80
                                  have k_81 : x27_69.toInt ≤ 127 := k_81
                                  have k_82 : 0 ≤ x28_69.toInt := k_82
                                  have k_83 : x28_69.toInt ≤ 1 := k_83
                                  have hR7 : aR f7_69 8224 (-128) 127 := hR7
                                  have hR23 : aR f23_69 128 (0) 127 := hR23
                                  rcases iv_01 (a := r_69) (by omega) (by omega) with b_84 | b_84
                                  · skip
                                    have ib_84 := iv_eq b_84
                                    rw [b_84]
                                    refine lv_if_eq (tgt := 212) hx hb dX8_vote_197 (by decide) (fun c_85 => ?_) (fun c_85 => ?_)
                                    · skip
                                      have ic_85 := iv_eq c_85
                                      refine lv_bipush (v := (-4)) hx hb dX8_vote_212 (by decide) ?_
                                      refine W.widen (k := 3) (n := 18) (Nat.le_of_ble_eq_true rfl) (Nat.le_of_ble_eq_true rfl) ?_
                                      refine vx_ret ?_
                                      exact W.iret hx hb hr (fun t ht hW => ⟨⟨_, _, rfl, rfl, x9_69, x10_69, x11_69, x17_69, x25_69, x26_69, x27_69, x28_69, x29_69, f7_69, f8_69, f14_69, f20_69, f21_69, f22_69, f23_69, g19_69, (by omega), (by omega), (by omega), (by omega), (by omega), (by omega), (by omega), (by omega), (by omega), (by omega), (by omega), (by omega), hR7, hR23, by rw [ht]; exact hP⟩, hS.F ht⟩) hS.2.2 dX8_vote_214
                                    · skip
                                      have ic_85 := iv_ne c_85
                                      exfalso
                                      omega
                                  · skip
                                    have ib_84 := iv_eq b_84
                                    rw [b_84]
                                    refine lv_if_eq (tgt := 212) hx hb dX8_vote_197 (by decide) (fun c_86 => ?_) (fun c_86 => ?_)
                                    · skip
                                      have ic_86 := iv_eq c_86
                                      exfalso
                                      omega
                                    · skip
                                      have ic_86 := iv_ne c_86
                                      refine lv_aload_n hx hb dX8_vote_200 rfl (lv_at hl 5 rfl) ?_
                                      refine va_get (D := (dC, dI)) (ci := 10) (v := .ref (c 104)) (C := RX8) (T := TX8) (N := 10) hx hb hts hin_X8 hown hK hP 0 rfl rfl 2 (by decide) (hts (.fieldLink RX8 31 "BlockLog" "rows" "LBlockLog$Rows;") (by decide +kernel)) (fun _ h9 => h9) rfl dX8_vote_201 ?_
                                      refine va_getN (D := (dC, dI)) (ci := 6) (v := .int x17_69) (C := RX4) (T := TX4) (N := 6) hx hb hts hin_X4 hown hK hP 4 rfl rfl 4 (by decide) (va_Nw.use rfl (hGW.1 ("BlockLog", 151, "BlockLog$Rows", "count", "I", "BlockLog") (by decide +kernel))) (fun _ h9 => h9) rfl dX8_vote_204 ?_
                                      refine lv_iconst (v := 1) hx hb dX8_vote_207 (by decide) ?_
                                      refine lv_isub hx hb dX8_vote_208 ?_
                                      refine lv_topi (fun v_87 ev_87 => ?_)
                                      have rg3 := iv_rng x17_69
                                      have hv_87 : v_87.toInt = x17_69.toInt - 1 := by rw [ev_87]; exact (iv_sub (by omega) (by omega)).trans (by omega)
                                      clear ev_87
                                      refine lv_goto (tgt := 214) hx hb dX8_vote_209 (by decide) ?_
                                      refine W.widen (k := 3) (n := 18) (Nat.le_of_ble_eq_true rfl) (Nat.le_of_ble_eq_true rfl) ?_
                                      refine vx_ret ?_
                                      exact W.iret hx hb hr (fun t ht hW => ⟨⟨_, _, rfl, rfl, x9_69, x10_69, x11_69, x17_69, x25_69, x26_69, x27_69, x28_69, x29_69, f7_69, f8_69, f14_69, f20_69, f21_69, f22_69, f23_69, g19_69, (by omega), (by omega), (by omega), (by omega), (by omega), (by omega), (by omega), (by omega), (by omega), (by omega), (by omega), (by omega), hR7, hR23, by rw [ht]; exact hP⟩, hS.F ht⟩) hS.2.2 dX8_vote_214
                                · skip
                                  have ic_68 := iv_nlt c_68
                                  refine lv_bipush (v := (-2)) hx hb dX8_vote_185 (by decide) ?_
                                  refine W.widen (k := 3) (n := 18) (Nat.le_of_ble_eq_true rfl) (Nat.le_of_ble_eq_true rfl) ?_
                                  refine vx_ret ?_
                                  exact W.iret hx hb hr (fun t ht hW => ⟨⟨_, _, rfl, rfl, st 9, st 10, st 11, st 17, st 25, st 26, st 27, st 28, st 29, ai 7, ai 8, ai 14, ai 20, ai 21, ai 22, ai 23, al 19, (by omega), (by omega), (by omega), (by omega), (by omega), (by omega), (by omega), (by omega), (by omega), (by omega), (by omega), (by omega), hR7, hR23, by rw [ht]; exact hP⟩, hS.F ht⟩) hS.2.2 dX8_vote_187
                              · skip
                                have ic_67 := iv_nlt c_67
                                refine lv_bipush (v := (-7)) hx hb dX8_vote_169 (by decide) ?_
                                refine W.widen (k := 3) (n := 18) (Nat.le_of_ble_eq_true rfl) (Nat.le_of_ble_eq_true rfl) ?_
                                refine vx_ret ?_
                                exact W.iret hx hb hr (fun t ht hW => ⟨⟨_, _, rfl, rfl, st 9, st 10, st 11, st 17, st 25, st 26, st 27, st 28, st 29, ai 7, ai 8, ai 14, ai 20, ai 21, ai 22, ai 23, al 19, (by omega), (by omega), (by omega), (by omega), (by omega), (by omega), (by omega), (by omega), (by omega), (by omega), (by omega), (by omega), hR7, hR23, by rw [ht]; exact hP⟩, hS.F ht⟩) hS.2.2 dX8_vote_171
                        · skip
                          have ic_64 := iv_eq c_64
                          refine lv_aload_n hx hb dX8_vote_133 rfl (lv_at hl 5 rfl) ?_
                          refine va_get (D := (dC, dI)) (ci := 10) (v := .ref (c 104)) (C := RX8) (T := TX8) (N := 10) hx hb hts hin_X8 hown hK hP 0 rfl rfl 2 (by decide) (hts (.fieldLink RX8 31 "BlockLog" "rows" "LBlockLog$Rows;") (by decide +kernel)) (fun _ h9 => h9) rfl dX8_vote_134 ?_
                          refine lv_iload hx hb dX8_vote_137 (lv_at hl 2 rfl) ?_
                          refine vp_callSl (va_Run.run (va_runV (As := [.int (st 27)]) (rest := []) ⟨hx, hb, hml, hown, hts⟩ (v_X4_c l dC dI c kc st lg ai al R (st 27) (show 0 ≤ (st 15).toInt by omega) (show (st 15).toInt ≤ 1 by omega) (by omega) (by omega)) (cwV 1 hts gX8_vote_X4_c rfl rfl rfl (by decide +kernel) ⟨Nat.le_of_ble_eq_true rfl, Nat.le_of_ble_eq_true rfl⟩) ⟨fun a U g mk q => by obtain ⟨q0, qP, qK, qG⟩ := q; exact ⟨q0, qP, va_K.moved (u := U) (U := U.calling g mk a) (Vm.Alike.refl U.vm) qK, qG.same rfl⟩, va_recv hK hP (ci := 6) (q := (RX4, TX4, 6)) rfl (q0 := 4) rfl, fun U hU hW => ⟨rfl, by rw [hU]; exact hP, va_K.moved hW.alike hK, hGW.warm hW⟩⟩ rfl rfl hl.1 rfl (lv_room (Nat.le_of_ble_eq_true rfl)) dX8_vote_139 ⟨Nat.le_of_ble_eq_true rfl, Nat.le_of_ble_eq_true rfl⟩)) (fun r_88 er_88 => ?_)
                          refine lv_lload hx hb dX8_vote_142 (lv_at hl 4 rfl) ?_
                          refine W.lcmp hx hb dX8_vote_144 ?_
                          refine lv_topi (fun v_89 ev_89 => ?_)
                          clear ev_89
                          refine lv_if_ne (tgt := 151) hx hb dX8_vote_145 (by decide) (fun c_90 => ?_) (fun c_90 => ?_)
                          · skip
                            have ic_90 := iv_ne c_90
                            refine lv_iload hx hb dX8_vote_151 (lv_at hl 1 rfl) ?_
                            refine lv_iload_n hx hb dX8_vote_153 rfl (lv_at hl 6 rfl) ?_
                            refine lv_icmp_gt (tgt := 169) hx hb dX8_vote_154 (by decide) (fun c_91 => ?_) (fun c_91 => ?_)
                            · skip
                              have ic_91 := iv_lt c_91
                              exfalso
                              omega
                            · skip
                              have ic_91 := iv_nlt c_91
                              refine lv_iload hx hb dX8_vote_157 (lv_at hl 1 rfl) ?_
                              refine lv_iload_n hx hb dX8_vote_159 rfl (lv_at hl 6 rfl) ?_
                              refine lv_icmp_ne (tgt := 172) hx hb dX8_vote_160 (by decide) (fun c_92 => ?_) (fun c_92 => ?_)
                              · skip
                                have ic_92 := iv_ne c_92
                                exfalso
                                omega
                              · skip
                                have ic_92 := iv_eq c_92
                                refine lv_iload hx hb dX8_vote_163 (lv_at hl 0 rfl) ?_
                                refine lv_iload_n hx hb dX8_vote_165 rfl (lv_at hl 7 rfl) ?_
                                refine lv_icmp_lt (tgt := 172) hx hb dX8_vote_166 (by decide) (fun c_93 => ?_) (fun c_93 => ?_)
                                · skip
                                  have ic_93 := iv_lt c_93
                                  exfalso
                                  omega
                                · skip
                                  have ic_93 := iv_nlt c_93
                                  refine lv_bipush (v := (-7)) hx hb dX8_vote_169 (by decide) ?_
                                  refine W.widen (k := 3) (n := 18) (Nat.le_of_ble_eq_true rfl) (Nat.le_of_ble_eq_true rfl) ?_
                                  refine vx_ret ?_
                                  exact W.iret hx hb hr (fun t ht hW => ⟨⟨_, _, rfl, rfl, st 9, st 10, st 11, st 17, st 25, st 26, st 27, st 28, st 29, ai 7, ai 8, ai 14, ai 20, ai 21, ai 22, ai 23, al 19, (by omega), (by omega), (by omega), (by omega), (by omega), (by omega), (by omega), (by omega), (by omega), (by omega), (by omega), (by omega), hR7, hR23, by rw [ht]; exact hP⟩, hS.F ht⟩) hS.2.2 dX8_vote_171
                          · skip
                            have ic_90 := iv_eq c_90
                            refine lv_iload hx hb dX8_vote_148 (lv_at hl 2 rfl) ?_
                            refine W.widen (k := 3) (n := 18) (Nat.le_of_ble_eq_true rfl) (Nat.le_of_ble_eq_true rfl) ?_
                            refine vx_ret ?_
                            exact W.iret hx hb hr (fun t ht hW => ⟨⟨_, _, rfl, rfl, st 9, st 10, st 11, st 17, st 25, st 26, st 27, st 28, st 29, ai 7, ai 8, ai 14, ai 20, ai 21, ai 22, ai 23, al 19, (by omega), (by omega), (by omega), (by omega), (by omega), (by omega), (by omega), (by omega), (by omega), (by omega), (by omega), (by omega), hR7, hR23, by rw [ht]; exact hP⟩, hS.F ht⟩) hS.2.2 dX8_vote_150
                  · skip
                    have ic_16 := iv_ne c_16
                    refine lv_bipush (v := (-6)) hx hb dX8_vote_81 (by decide) ?_
                    refine W.widen (k := 3) (n := 18) (Nat.le_of_ble_eq_true rfl) (Nat.le_of_ble_eq_true rfl) ?_
                    refine vx_ret ?_
                    exact W.iret hx hb hr (fun t ht hW => ⟨⟨_, _, rfl, rfl, st 9, st 10, st 11, st 17, st 25, st 26, st 27, st 28, st 29, ai 7, ai 8, ai 14, ai 20, ai 21, ai 22, ai 23, al 19, (by omega), (by omega), (by omega), (by omega), (by omega), (by omega), (by omega), (by omega), (by omega), (by omega), (by omega), (by omega), hR7, hR23, by rw [ht]; exact hP⟩, hS.F ht⟩) hS.2.2 dX8_vote_83
              · skip
                have ic_9 := iv_ne c_9
                exfalso
                omega
            · skip
              have ib_8 := iv_eq b_8
              rw [b_8]
              refine lv_if_eq (tgt := 41) hx hb dX8_vote_35 (by decide) (fun c_94 => ?_) (fun c_94 => ?_)
              · skip
                have ic_94 := iv_eq c_94
                exfalso
                omega
              · skip
                have ic_94 := iv_ne c_94
                refine lv_bipush (v := (-3)) hx hb dX8_vote_38 (by decide) ?_
                refine W.widen (k := 3) (n := 18) (Nat.le_of_ble_eq_true rfl) (Nat.le_of_ble_eq_true rfl) ?_
                refine vx_ret ?_
                exact W.iret hx hb hr (fun t ht hW => ⟨⟨_, _, rfl, rfl, st 9, st 10, st 11, st 17, st 25, st 26, st 27, st 28, st 29, ai 7, ai 8, ai 14, ai 20, ai 21, ai 22, ai 23, al 19, (by omega), (by omega), (by omega), (by omega), (by omega), (by omega), (by omega), (by omega), (by omega), (by omega), (by omega), (by omega), hR7, hR23, by rw [ht]; exact hP⟩, hS.F ht⟩) hS.2.2 dX8_vote_40
          · skip
            have ic_4 := iv_nle c_4
            obtain ⟨sa, hstr⟩ := hGW.2.1 ("BlockLog", 164, "round is not 0 .. 1000000") (by decide +kernel)
            exact vx_throwS (names := ["java/lang/RuntimeException", "java/lang/Exception"]) hx hb hl0 hown (by decide +kernel) (by decide +kernel) (hts (.classLink RX8 76 "java/lang/IllegalArgumentException") (by decide +kernel)) (hts (.initialized "java/lang/IllegalArgumentException") (by decide +kernel)) hstr (vx_hat (B := gx_bad "java/lang/IllegalArgumentException") (fun w h => hts w (List.mem_cons_of_mem _ (List.mem_append_left _ (List.mem_append_right _ h)))) (by decide +kernel) (hGW.bad (by decide))) (by decide +kernel) hG.2.1 hG.2.2.1 hS (hl.1.trans hml.symm) dX8_vote_18 dX8_vote_21 dX8_vote_22 dX8_vote_24 dX8_vote_27 (fun x h => (hno x h).elim) (Nat.le_of_ble_eq_true rfl) (Nat.le_of_ble_eq_true rfl) (Nat.le_of_ble_eq_true rfl) (Nat.le_of_ble_eq_true rfl) hlocks (fun t _ h1 h2 => ⟨(), trivial, ⟨(by decide +kernel), st 9, st 10, st 11, st 17, st 25, st 26, st 27, st 28, st 29, ai 7, ai 8, ai 14, ai 20, ai 21, ai 22, ai 23, al 19, (by omega), (by omega), (by omega), (by omega), (by omega), (by omega), (by omega), (by omega), (by omega), (by omega), (by omega), (by omega), hR7, hR23, hP.kept (fun k q hk => h2 _ (hP k q hk).lt)⟩, Nat.le_trans hS.1 h1, fun q hq hn => (h2 q (Nat.lt_of_lt_of_le hq hS.1)).trans (hS.2.1 q hq hn)⟩) hS.2.2 (Nat.le_of_ble_eq_true rfl) (Nat.le_of_ble_eq_true rfl)
  exact main s.heap [] hP hS
