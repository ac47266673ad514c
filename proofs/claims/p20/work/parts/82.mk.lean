set_option maxHeartbeats 4000000 in
set_option maxRecDepth 100000 in
theorem v_X2_init (l : Launch) (dC : Nat → ClassId) (dI : Nat → Nat → Nat) (ws : va_W) (tys : List (ClassId × FieldType)) (x0 q0 t0 : Nat) (kB : ClassId) (p0 : Int32) (sz : Nat) (e0 : ws[q0]? = some (x0, .inr (4, [.int 0, .null, .int 0]))) (g0 : tys[t0]? = some (kB, .byte)) : Met l yX2_init wsX2_init ({ frames := 1, cells := 1, slots := 26, locals := 21 }) (va_Pc [.ref x0, .int p0] (fun U => U.heap.size = sz ∧ va_P (dC, dI) vwCl ws U.heap ∧ va_K (dC, dI) vwCl tys U ∧ va_D (fun _ => True) ws)) (va_Qv (fun (_ : Unit) => True) (fun _ t => ∃ b : Nat, va_P (dC, dI) vwCl (ws.set q0 (pgO x0 p0 b 1) ++ [pgB kB b (fun _ => 0)]) t.heap ∧ va_D (va_A ws sz) (ws.set q0 (pgO x0 p0 b 1) ++ [pgB kB b (fun _ => 0)])) (va_A ws sz)) 1 26 (va_A ws sz) := by
  refine Met.ofW (cc := cX2_init) (maxL := 2) (ret := none) (by decide) rfl ?_
  intro p e s m args below meth cM s₁ B hml hv
  obtain ⟨rfl, hsz, hP, hK, hD0⟩ := hv
  have hx := B.exec
  have hb := B.bytes
  have hr := B.returns
  have hts := atoms_spec (ws := wsX2_init) B.pre
  have hown : s.vm.findClass RX2 = some m.cls := findClass_of_methodNamed B.named
  have hlocks := B.notSynchronized
  have hin : meth.name = "<init>" := (name_of_methodNamed B.named B.method).1
  have hin_X2 : ∀ w ∈ u_ws RX2 TX2 3, w ∈ wsX2_init := by decide +kernel
  subst hsz
  have hD := hD0.self (sz := s.heap.size)
  generalize hAe : va_A ws s.heap.size = A at hD ⊢
  have hA : ∀ q : Nat, s.heap.size ≤ q → A q := fun q h => by rw [← hAe]; exact Or.inr h
  have hS : va_S A s.heap s.heap [] := va_S.rf
  have hl := lv_entry ([.ref x0, .int p0]) (n := 2) (Nat.le_of_ble_eq_true rfl)
  rw [lg_entry_eq]
  generalize (lg_sl ([.ref x0, .int p0]) ++ List.replicate (2 - (lg_sl ([.ref x0, .int p0])).length) Slot.unset).toArray = ls at hl ⊢
  have hl : lv_has ls 2 [(0, .ref x0), (1, .int p0)] := hl
  refine lv_aload_n hx hb dX2_init_0 rfl (lv_at hl 0 rfl) ?_
  refine W.objInit hx hb hown (hts (.methodLink RX2 3 objectInit) (by decide +kernel)) (hts (.instanceMethod objectInit) (by decide +kernel)) (hts (.code objectInit ⟨#[0xb1]⟩ 1 none) (by decide +kernel)) rfl (by rw [hml]; exact hl.1) rfl dX2_init_1 (Nat.le_of_ble_eq_true rfl) (Nat.le_of_ble_eq_true rfl) ?_
  refine W.eq (g2 := F0 m 4 ls []) rfl ?_
  refine lv_aload_n hx hb dX2_init_4 rfl (lv_at hl 0 rfl) ?_
  refine lv_iload_n hx hb dX2_init_5 rfl (lv_at hl 1 rfl) ?_
  refine va_putF (D := (dC, dI)) (ci := 4) (v := .int p0) (ty := .int) (C := RX2) (T := TX2) (N := 3) hx hb hts hin_X2 tyX2 tyX2_ok nmX2 hown hK hP hD hS q0 e0 rfl 0 (by decide) (hts (.fieldLink RX2 9 "BlockLog$Page" "number" "I") (by decide +kernel)) (fun _ h9 => h9) rfl hin rfl (by decide +kernel) rfl rfl (Nat.le_of_ble_eq_true rfl) dX2_init_6 (fun H locs hP hD hS => ?_)
  have hP : va_P (dC, dI) vwCl (ws.set q0 (x0, .inr (4, [.int p0, .null, .int 0]))) H := hP
  have hD : va_D A (ws.set q0 (x0, .inr (4, [.int p0, .null, .int 0]))) := hD
  have e1 : (ws.set q0 (x0, .inr (4, [.int p0, .null, .int 0])))[q0]? = some (x0, .inr (4, [.int p0, .null, .int 0])) := set_eq e0
  refine lv_aload_n hx hb dX2_init_9 rfl (lv_at hl 0 rfl) ?_
  refine lv_bipush (v := 26) hx hb dX2_init_10 (by decide) ?_
  refine va_newa (atype := .byte) (ty := .byte) (n := 26) (N' := 26) (a0 := (26, .inl (fun _ => 0))) hx hb (hts (.arrayClass .byte) (by decide +kernel)) rfl hK hP hD hS hA (fun _ => rfl) (by decide +kernel) (by decide +kernel) (by decide +kernel) (Nat.le_of_ble_eq_true rfl) (Nat.le_of_ble_eq_true rfl) dX2_init_12 (fun b cb H hK1 hP hD hS => ?_)
  have hcb : cb = kB := by
    have h1 := (hK.2 t0 _ g0).2
    have h2 := (hK1.2 tys.length (cb, .byte) (by rw [List.getElem?_append_right (Nat.le_refl _), Nat.sub_self]; rfl)).2
    exact Option.some.inj (h2.symm.trans h1)
  subst hcb
  have hlt : q0 < (ws.set q0 (x0, .inr (4, [.int p0, .null, .int 0]))).length := (List.getElem?_eq_some_iff.mp e1).1
  have e2 : (ws.set q0 (x0, .inr (4, [.int p0, .null, .int 0])) ++ [pgB cb b (fun _ => 0)])[q0]? = some (x0, .inr (4, [.int p0, .null, .int 0])) := by rw [List.getElem?_append_left hlt]; exact e1
  refine va_putF (D := (dC, dI)) (ci := 4) (v := .ref b) (ty := .array .byte) (C := RX2) (T := TX2) (N := 3) hx hb hts hin_X2 tyX2 tyX2_ok nmX2 hown hK hP hD hS q0 e2 rfl 1 (by decide) (hts (.fieldLink RX2 15 "BlockLog$Page" "bytes" "[B") (by decide +kernel)) (fun _ h9 => h9) rfl hin rfl (by decide +kernel) rfl rfl (Nat.le_of_ble_eq_true rfl) dX2_init_14 (fun H locs hP hD hS => ?_)
  have hP : va_P (dC, dI) vwCl ((ws.set q0 (x0, .inr (4, [.int p0, .null, .int 0])) ++ [pgB cb b (fun _ => 0)]).set q0 (x0, .inr (4, [.int p0, .ref b, .int 0]))) H := hP
  have hD : va_D A ((ws.set q0 (x0, .inr (4, [.int p0, .null, .int 0])) ++ [pgB cb b (fun _ => 0)]).set q0 (x0, .inr (4, [.int p0, .ref b, .int 0]))) := hD
  have e3 : ((ws.set q0 (x0, .inr (4, [.int p0, .null, .int 0])) ++ [pgB cb b (fun _ => 0)]).set q0 (x0, .inr (4, [.int p0, .ref b, .int 0])))[q0]? = some (x0, .inr (4, [.int p0, .ref b, .int 0])) := set_eq e2
  refine lv_aload_n hx hb dX2_init_17 rfl (lv_at hl 0 rfl) ?_
  refine lv_iconst (v := 1) hx hb dX2_init_18 (by decide) ?_
  refine va_put (D := (dC, dI)) (ci := 4) (v := .int (1 : Int32)) (ty := .int) (C := RX2) (T := TX2) (N := 3) hx hb hts hin_X2 tyX2 tyX2_ok nmX2 hown hK hP hD hS q0 e3 rfl 2 (by decide) (hts (.fieldLink RX2 19 "BlockLog$Page" "known" "I") (by decide +kernel)) (fun _ h9 => h9) rfl (by decide +kernel) rfl rfl (Nat.le_of_ble_eq_true rfl) dX2_init_19 (fun H locs hP hD hS => ?_)
  have hP : va_P (dC, dI) vwCl (((ws.set q0 (x0, .inr (4, [.int p0, .null, .int 0])) ++ [pgB cb b (fun _ => 0)]).set q0 (x0, .inr (4, [.int p0, .ref b, .int 0]))).set q0 (pgO x0 p0 b 1)) H := hP
  have hD : va_D A (((ws.set q0 (x0, .inr (4, [.int p0, .null, .int 0])) ++ [pgB cb b (fun _ => 0)]).set q0 (x0, .inr (4, [.int p0, .ref b, .int 0]))).set q0 (pgO x0 p0 b 1)) := hD
  rw [List.set_set, List.set_append_left _ _ hlt, List.set_set] at hP hD
  exact W.vret hx hb hr (fun t ht hW => ⟨⟨(), rfl, trivial, b, by rw [ht]; exact hP, hD⟩, hS.F ht⟩) hS.2.2 dX2_init_22
set_option maxHeartbeats 4000000 in
set_option maxRecDepth 100000 in
theorem v_Jx4a65c_rangeCheckForAdd_d00df (l : Launch) (dC : Nat → ClassId) (dI : Nat → Nat → Nat) (c : Nat → Nat) (kc : Nat → ClassId) (st : Nat → Int32) (lg : Nat → Int64) (ai : Nat → Nat → Int32) (al : Nat → Nat → Int64) (R : va_W) (p0 : Int32) (hf13a : 0 ≤ (st 13).toInt) (hf13b : (st 13).toInt ≤ 65536) (hq0 : 0 ≤ p0.toInt) (hq1 : p0.toInt ≤ (st 13).toInt) : Met l yJx4a65c_rangeCheckForAdd_d00df wsJx4a65c_rangeCheckForAdd_d00df ({ frames := 0, cells := 0, slots := 0, locals := 0 }) (va_Pc [.ref (c 103), .int p0] (fun U => va_P (dC, dI) vwCl (cw_W c kc st lg ai al R) U.heap ∧ va_K (dC, dI) vwCl (cw_T kc) U)) (va_Sv (fun _ => True)) 0 0 (fun _ => False) := by
  refine Met.ofW (cc := cJx4a65c_rangeCheckForAdd_d00df) (maxL := 2) (ret := none) (by decide) rfl ?_
  intro p e s m args below meth cM s₁ B hml hv
  obtain ⟨rfl, hP, hK⟩ := hv
  have hx := B.exec
  have hb := B.bytes
  have hr := B.returns
  have hts := atoms_spec (ws := wsJx4a65c_rangeCheckForAdd_d00df) B.pre
  have hown : s.vm.findClass RJx4a65c = some m.cls := findClass_of_methodNamed B.named
  have hl := lv_entry ([.ref (c 103), .int p0]) (n := 2) (Nat.le_of_ble_eq_true rfl)
  rw [lg_entry_eq]
  generalize (lg_sl ([.ref (c 103), .int p0]) ++ List.replicate (2 - (lg_sl ([.ref (c 103), .int p0])).length) Slot.unset).toArray = ls at hl ⊢
  have hl : lv_has ls 2 [(0, .ref (c 103)), (1, .int p0)] := hl
  have z_0 : (0 : Int32).toInt = 0 := by decide
  have hin_Jx4a65c : ∀ w ∈ u_ws RJx4a65c TJx4a65c 3, w ∈ wsJx4a65c_rangeCheckForAdd_d00df := by decide +kernel
  refine lv_iload_n hx hb dJx4a65c_rangeCheckForAdd_d00df_0 rfl (lv_at hl 1 rfl) ?_
  refine lv_aload_n hx hb dJx4a65c_rangeCheckForAdd_d00df_1 rfl (lv_at hl 0 rfl) ?_
  refine va_get (D := (dC, dI)) (ci := 2) (v := .int (st 13)) (C := RJx4a65c) (T := TJx4a65c) (N := 3) hx hb hts hin_Jx4a65c hown hK hP 3 rfl rfl 2 (by decide) (hts (.fieldLink RJx4a65c 48 "java/util/ArrayList" "size" "I") (by decide +kernel)) (fun _ h9 => h9) rfl dJx4a65c_rangeCheckForAdd_d00df_2 ?_
  refine lv_icmp_gt (tgt := 12) hx hb dJx4a65c_rangeCheckForAdd_d00df_5 (by decide) (fun c_1 => ?_) (fun c_1 => ?_)
  · skip
    have ic_1 := iv_lt c_1
    exfalso
    omega
  · skip
    have ic_1 := iv_nlt c_1
    refine lv_iload_n hx hb dJx4a65c_rangeCheckForAdd_d00df_8 rfl (lv_at hl 1 rfl) ?_
    refine lv_if_ge (tgt := 25) hx hb dJx4a65c_rangeCheckForAdd_d00df_9 (by decide) (fun c_2 => ?_) (fun c_2 => ?_)
    · skip
      have ic_2 := iv_le c_2
      exact W.vret hx hb hr (fun t ht hW => ⟨rfl, trivial, ht⟩) (fun q h => by cases h) dJx4a65c_rangeCheckForAdd_d00df_25
    · skip
      have ic_2 := iv_nle c_2
      exfalso
      omega

set_option maxHeartbeats 4000000 in
set_option maxRecDepth 100000 in
theorem v_J8_newLength_cabcc (l : Launch) (dC : Nat → ClassId) (dI : Nat → Nat → Nat) (p0 : Int32) (p1 : Int32) (p2 : Int32) (hq0 : 0 ≤ p0.toInt) (hq1 : p0.toInt ≤ 100000) (hq2 : 1 ≤ p1.toInt) (hq3 : p1.toInt ≤ 100000) (hq4 : 0 ≤ p2.toInt) (hq5 : p2.toInt ≤ 100000) : Met l yJ8_newLength_cabcc wsJ8_newLength_cabcc ({ frames := 1, cells := 0, slots := 0, locals := 60 }) (va_Pc [.int p0, .int p1, .int p2] (fun U => True)) (vp_Si (fun r => (r.toInt ≥ p0.toInt + p1.toInt) ∧ (r.toInt ≥ p0.toInt + p2.toInt) ∧ (r.toInt = p0.toInt + p1.toInt ∨ r.toInt = p0.toInt + p2.toInt))) 0 0 (fun _ => False) := by
  refine Met.ofW (cc := cJ8_newLength_cabcc) (maxL := 4) (ret := (some .int)) (by decide) rfl ?_
  intro p e s m args below meth cM s₁ B hml hv
  obtain ⟨rfl, -⟩ := hv
  have hx := B.exec
  have hb := B.bytes
  have hr := B.returns
  have hts := atoms_spec (ws := wsJ8_newLength_cabcc) B.pre
  have hown : s.vm.findClass RJ8 = some m.cls := findClass_of_methodNamed B.named
  have hl := lv_entry ([.int p0, .int p1, .int p2]) (n := 4) (Nat.le_of_ble_eq_true rfl)
  rw [lg_entry_eq]
  generalize (lg_sl ([.int p0, .int p1, .int p2]) ++ List.replicate (4 - (lg_sl ([.int p0, .int p1, .int p2])).length) Slot.unset).toArray = ls at hl ⊢
  have hl : lv_has ls 4 [(0, .int p0), (1, .int p1), (2, .int p2)] := hl
  have z_0 : (0 : Int32).toInt = 0 := by decide
  have z_2147483639 : (2147483639 : Int32).toInt = 2147483639 := by decide
  refine lv_iload_n hx hb dJ8_newLength_cabcc_0 rfl (lv_at hl 0 rfl) ?_
  refine lv_iload_n hx hb dJ8_newLength_cabcc_1 rfl (lv_at hl 1 rfl) ?_
  refine lv_iload_n hx hb dJ8_newLength_cabcc_2 rfl (lv_at hl 2 rfl) ?_
  refine va_mmax hx hb (hml.trans hl.1.symm) hown (hts (.methodLink RJ8 194 Lib.Math.max.name) (by decide +kernel)) (hts (.static Lib.Math.max.name) (by decide +kernel)) (hts (.initialized "java/lang/Math") (by decide +kernel)) (hts (.code Lib.Math.max.name Lib.Math.max.code 2 (some .int)) (by decide +kernel)) (Nat.le_of_ble_eq_true rfl) (Nat.le_of_ble_eq_true rfl) (by show 0 ≤ 0; omega) (by show 0 ≤ 0; omega) dJ8_newLength_cabcc_3 ?_
  refine lv_topi (fun v_1 ev_1 => ?_)
  have hv_1 : p1.toInt ≤ v_1.toInt ∧ p2.toInt ≤ v_1.toInt ∧ (v_1.toInt = p1.toInt ∨ v_1.toInt = p2.toInt) := by have q := iv_max p1 p2; rw [← ev_1] at q; omega
  clear ev_1
  refine lv_iadd hx hb dJ8_newLength_cabcc_6 ?_
  refine lv_topi (fun v_2 ev_2 => ?_)
  have rg1 := iv_rng p0
  have rg2 := iv_rng v_1
  have hv_2 : v_2.toInt = p0.toInt + v_1.toInt := by rw [ev_2]; exact (iv_add (by omega) (by omega)).trans (by omega)
  clear ev_2
  refine lv_istore_n (lv' := [(3, .int v_2), (0, .int p0), (1, .int p1), (2, .int p2)]) hx hb dJ8_newLength_cabcc_7 rfl hl (by decide) rfl (fun ls hl => ?_)
  refine lv_iconst (v := 0) hx hb dJ8_newLength_cabcc_8 (by decide) ?_
  refine lv_iload_n hx hb dJ8_newLength_cabcc_9 rfl (lv_at hl 0 rfl) ?_
  refine lv_icmp_ge (tgt := 21) hx hb dJ8_newLength_cabcc_10 (by decide) (fun c_3 => ?_) (fun c_3 => ?_)
  · skip
    have ic_3 := iv_le c_3
    exfalso
    omega
  · skip
    have ic_3 := iv_nle c_3
    refine lv_iload_n hx hb dJ8_newLength_cabcc_13 rfl (lv_at hl 0 rfl) ?_
    refine lv_ldc hx hb hown (hts (.constant RJ8 200 (2147483639)) (by decide +kernel)) dJ8_newLength_cabcc_14 ?_
    refine lv_icmp_gt (tgt := 21) hx hb dJ8_newLength_cabcc_16 (by decide) (fun c_4 => ?_) (fun c_4 => ?_)
    · skip
      have ic_4 := iv_lt c_4
      exfalso
      omega
    · skip
      have ic_4 := iv_nlt c_4
      refine lv_iload_n hx hb dJ8_newLength_cabcc_19 rfl (lv_at hl 0 rfl) ?_
      exact W.iret hx hb hr (fun t ht hW => ⟨_, rfl, ⟨(by omega), (by omega), (by omega)⟩, ht⟩) (fun q h => by cases h) dJ8_newLength_cabcc_20

set_option maxHeartbeats 4000000 in
set_option maxRecDepth 100000 in
theorem v_copyOf6 (l : Launch) (dC : Nat → ClassId) (dI : Nat → Nat → Nat) (c : Nat → Nat) (kc : Nat → ClassId) (st : Nat → Int32) (lg : Nat → Int64) (ai : Nat → Nat → Int32) (al : Nat → Nat → Int64) (R : va_W) (ea cap N : Nat) (a : Nat → Option Nat) (mi : Nat) (p1 : Int32) (sz : Nat) (hN : p1.toInt = (N : Int)) (hc : cap ≤ N) (hN2 : N ≤ 100000) (j : Nat) (hj : R[j]? = some (pgR (kc 98) ea cap a)) (hel : ∀ i : Nat, i < cap → ∀ y : Nat, a i = some y → ∃ (k : Nat) (fs : List Value), R[k]? = some (y, .inr (4, fs))) : Met l yJ7_copyOf_6403c wsJ7_copyOf_6403c ({ frames := 1, cells := 1, slots := N, locals := 60 }) (va_Pc [.ref ea, .int p1, .ref mi] (fun U => U.heap.size = sz ∧ va_P (dC, dI) vwCl (cw_W c kc st lg ai al R) U.heap ∧ va_K (dC, dI) vwCl (cw_T kc) U ∧ va_D (fun _ => True) (cw_W c kc st lg ai al R) ∧ gz_E mi U)) (va_Qq (fun r (u : Option Nat) => r = u) (fun u t => ∃ (q : Nat) (a1 : Nat → Option Nat), u = some q ∧ (∀ i : Nat, i < cap → a1 i = a i) ∧ va_P (dC, dI) vwCl (cw_W c kc st lg ai al (R ++ [pgR (kc 98) q N a1])) t.heap ∧ va_D (va_A (cw_W c kc st lg ai al R) sz) (cw_W c kc st lg ai al (R ++ [pgR (kc 98) q N a1]))) (va_A (cw_W c kc st lg ai al R) sz)) 1 N (va_A (cw_W c kc st lg ai al R) sz) := by
  refine Met.ofW (cc := cJ7_copyOf_6403c) (maxL := 4) (ret := (some (.array (.object "java/lang/Object")))) (by decide) rfl ?_
  intro p e s m args below meth cM s₁ B hml hv
  obtain ⟨rfl, hsz, hP, hK, hD0, hY⟩ := hv
  have hx := B.exec
  have hb := B.bytes
  have hr := B.returns
  have hts := atoms_spec (ws := wsJ7_copyOf_6403c) B.pre
  have hown : s.vm.findClass RJ7 = some m.cls := findClass_of_methodNamed B.named
  subst hsz
  have hD := hD0.self (sz := s.heap.size)
  generalize hAe : va_A (cw_W c kc st lg ai al R) s.heap.size = A at hD hY ⊢
  have hA : ∀ q : Nat, s.heap.size ≤ q → A q := fun q h => by rw [← hAe]; exact Or.inr h
  have hS : va_S A s.heap s.heap [] := va_S.rf
  clear hAe hD0
  have hl := lv_entry ([.ref ea, .int p1, .ref mi]) (n := 4) (Nat.le_of_ble_eq_true rfl)
  rw [lg_entry_eq]
  generalize (lg_sl ([.ref ea, .int p1, .ref mi]) ++ List.replicate (4 - (lg_sl ([.ref ea, .int p1, .ref mi])).length) Slot.unset).toArray = ls at hl ⊢
  have hl : lv_has ls 4 [(0, .ref ea), (1, .int p1), (2, .ref mi)] := hl
  have z_0 : (0 : Int32).toInt = 0 := by decide
  have main : ∀ (H : Heap) (locs : List Loc), va_P (dC, dI) vwCl (cw_W c kc st lg ai al R) H → va_S A s.heap H locs → W p l e (headSpec wsJ7_copyOf_6403c ({ frames := 1, cells := 1, slots := N, locals := 60 })).room s m ([.ref ea, .int p1, .ref mi] : List Value).toArray below meth cM H locs 0 0 (MQ below (va_Qq (fun r (u : Option Nat) => r = u) (fun u t => ∃ (q : Nat) (a1 : Nat → Option Nat), u = some q ∧ (∀ i : Nat, i < cap → a1 i = a i) ∧ va_P (dC, dI) vwCl (cw_W c kc st lg ai al (R ++ [pgR (kc 98) q N a1])) t.heap ∧ va_D A (cw_W c kc st lg ai al (R ++ [pgR (kc 98) q N a1]))) A) ([.ref ea, .int p1, .ref mi] : List Value).toArray s 1 N A) (F0 m 0 ls []) := by
    intro H locs hP hS
    refine lv_aload_n hx hb dJ7_copyOf_6403c_0 rfl (lv_at hl 2 rfl) ?_
    have hZ := hY
    refine va_ldcM hx hb hown (hts (.classLink RJ7 110 "[Ljava/lang/Object;") (by decide +kernel)) hZ.2.2 dJ7_copyOf_6403c_1 ?_
    refine lv_acmp_ne (rx := some mi) (ry := some mi) (tgt := 13) hx hb dJ7_copyOf_6403c_3 (by decide) (fun h => absurd rfl h) (fun _ => ?_)
    refine lv_iload_n hx hb dJ7_copyOf_6403c_6 rfl (lv_at hl 1 rfl) ?_
    refine va_newq (n := p1) (N' := N) hx hb hown (hts (.classLink RJ7 2 "java/lang/Object") (by decide +kernel)) hZ.2.1 hK hP hD hS hA (cp_n (by omega)) (cl_of (by omega)) (by omega) (by show _ ≤ 1; exact Nat.le_refl _) (by show 0 + N ≤ N; omega) dJ7_copyOf_6403c_7 (fun q cA H hK1 hP hD hS => ?_)
    have hcA : cA = kc 98 := by
      obtain ⟨_, _, _, _, _, h4⟩ := (hK.2 18 (kc 98, .object "java/lang/Object") rfl).2
      obtain ⟨_, _, _, _, _, h5⟩ := (hK1.2 19 (cA, .object "java/lang/Object") rfl).2
      exact Option.some.inj (h5.symm.trans h4)
    subst hcA
    clear hK1
    rw [cw_push] at hP hD
    refine lv_goto (tgt := 24) hx hb dJ7_copyOf_6403c_10 (by decide) ?_
    refine lv_astore_n (lv' := [(3, .ref q), (0, .ref ea), (1, .int p1), (2, .ref mi)]) hx hb dJ7_copyOf_6403c_24 rfl hl (by decide) rfl (fun ls hl => ?_)
    refine lv_aload_n hx hb dJ7_copyOf_6403c_25 rfl (lv_at hl 1 rfl) ?_
    refine lv_iconst (v := 0) hx hb dJ7_copyOf_6403c_26 (by decide) ?_
    refine lv_aload_n hx hb dJ7_copyOf_6403c_27 rfl (lv_at hl 0 rfl) ?_
    refine lv_iconst (v := 0) hx hb dJ7_copyOf_6403c_28 (by decide) ?_
    refine lv_aload_n hx hb dJ7_copyOf_6403c_29 rfl (lv_at hl 1 rfl) ?_
    refine va_alen (v := Int32.ofNat cap) hx hb hK hP (26 + j) 18 (cw_at (ap_l hj)) rfl rfl dJ7_copyOf_6403c_30 ?_
    refine lv_topi (fun v_1 ev_1 => ?_)
    have hv_1 := ofn_i ev_1 (by omega)
    refine lv_iload_n hx hb dJ7_copyOf_6403c_31 rfl (lv_at hl 2 rfl) ?_
    refine va_mmin hx hb (hml.trans hl.1.symm) hown (hts (.methodLink RJ7 304 Lib.Math.min.name) (by decide +kernel)) (hts (.static Lib.Math.min.name) (by decide +kernel)) (hts (.initialized "java/lang/Math") (by decide +kernel)) (hts (.code Lib.Math.min.name Lib.Math.min.code 2 (some .int)) (by decide +kernel)) (Nat.le_of_ble_eq_true rfl) (Nat.le_of_ble_eq_true rfl) (by show 1 ≤ 1; omega) (by show (0 + N) ≤ N; omega) dJ7_copyOf_6403c_32 ?_
    refine lv_topi (fun v_2 ev_2 => ?_)
    have hv_2 : v_2.toInt ≤ v_1.toInt ∧ v_2.toInt ≤ p1.toInt ∧ (v_2.toInt = v_1.toInt ∨ v_2.toInt = p1.toInt) := by have q := iv_min v_1 p1; rw [← ev_2] at q; omega
    clear ev_2
    refine va_copyq (f := a) (g := fun _ => none) (C := RX2) hx hb (hml.trans hl.1.symm) hown (hts (.methodLink RJ7 150 arraycopyName) (by decide +kernel)) (hts (.native arraycopyName) (by decide +kernel)) (hts (.static arraycopyName) (by decide +kernel)) (hts (.initialized "java/lang/System") (by decide +kernel)) hK hP (cw_D hD) hS (26 + j) (26 + R.length) 18 18 (cw_at (ap_l hj)) (cw_at ap_0) rfl rfl (cp_n (by omega)) (cp_n (by omega)) (cp_n (by omega)) (cp_l (by omega) (by omega) (by omega)) (cp_l (by omega) (by omega) (by omega)) (fun i hi y hy => by rw [cl_of (v := v_2) (n := cap) (by omega)] at hi; rw [show (0 : Int32).toNatClampNeg = 0 from rfl, Nat.zero_add] at hy; obtain ⟨k9, fs, hk9⟩ := hel i hi y hy; exact va_recv hK hP (ci := 4) (q := (RX2, TX2, 3)) rfl (q0 := 26 + k9) (cw_at (ap_l hk9))) (fun comp c0 h1 h2 => vb_asgC hZ.1 comp c0 h1 h2) (Nat.le_of_ble_eq_true rfl) (show ((([] : List Value).map fun v => v.category).sum + (nativeFrameWords "java/lang/System" "arraycopy" 5 + 11) ≤ 60) by decide +kernel) dJ7_copyOf_6403c_35 (fun H locs hP hD hS => ?_)
    generalize hcp : va_cpy a (fun _ => none) (0 : Int32).toNatClampNeg (0 : Int32).toNatClampNeg v_2.toNatClampNeg = a1 at hP hD
    rw [cw_set, ap_set] at hP hD
    refine lv_aload_n hx hb dJ7_copyOf_6403c_38 rfl (lv_at hl 0 rfl) ?_
    refine W.widen (k := 1) (n := N) (by show _ ≤ 1; omega) (by show _ ≤ N; omega) ?_
    exact W.aret (v := .ref q) hx hb hr (Or.inr ⟨_, rfl⟩) (Or.inr ⟨_, rfl⟩) (fun t ht hW => ⟨⟨some q, _, rfl, rfl, q, a1, rfl, (fun i hi => by rw [← hcp]; exact cpy_0 (N := cap) (by omega) (by omega) (by omega) hi), by rw [ht]; exact hP, hD⟩, hS.F ht⟩) hS.2.2 dJ7_copyOf_6403c_39
  exact main s.heap [] hP hS

set_option maxHeartbeats 4000000 in
set_option maxRecDepth 100000 in
theorem v_copyOf1 (l : Launch) (dC : Nat → ClassId) (dI : Nat → Nat → Nat) (c : Nat → Nat) (kc : Nat → ClassId) (st : Nat → Int32) (lg : Nat → Int64) (ai : Nat → Nat → Int32) (al : Nat → Nat → Int64) (R : va_W) (ea cap N : Nat) (a : Nat → Option Nat) (mi : Nat) (p1 : Int32) (sz : Nat) (hN : p1.toInt = (N : Int)) (hc : cap ≤ N) (hN2 : N ≤ 100000) (j : Nat) (hj : R[j]? = some (pgR (kc 98) ea cap a)) (hel : ∀ i : Nat, i < cap → ∀ y : Nat, a i = some y → ∃ (k : Nat) (fs : List Value), R[k]? = some (y, .inr (4, fs))) : Met l yJ7_copyOf_1904c wsJ7_copyOf_1904c ({ frames := 2, cells := 1, slots := N, locals := 120 }) (va_Pc [.ref ea, .int p1] (fun U => U.heap.size = sz ∧ va_P (dC, dI) vwCl (cw_W c kc st lg ai al R) U.heap ∧ va_K (dC, dI) vwCl (cw_T kc) U ∧ va_D (fun _ => True) (cw_W c kc st lg ai al R) ∧ gz_E mi U ∧ va_Dc U)) (va_Qq (fun r (u : Option Nat) => r = u) (fun u t => ∃ (q : Nat) (a1 : Nat → Option Nat), u = some q ∧ (∀ i : Nat, i < cap → a1 i = a i) ∧ va_P (dC, dI) vwCl (cw_W c kc st lg ai al (R ++ [pgR (kc 98) q N a1])) t.heap ∧ va_D (va_A (cw_W c kc st lg ai al R) sz) (cw_W c kc st lg ai al (R ++ [pgR (kc 98) q N a1]))) (va_A (cw_W c kc st lg ai al R) sz)) 1 N (va_A (cw_W c kc st lg ai al R) sz) := by
  refine Met.ofW (cc := cJ7_copyOf_1904c) (maxL := 2) (ret := (some (.array (.object "java/lang/Object")))) (by decide) rfl ?_
  intro p e s m args below meth cM s₁ B hml hv
  obtain ⟨rfl, hsz, hP, hK, hD0, hY⟩ := hv
  have hx := B.exec
  have hb := B.bytes
  have hr := B.returns
  have hts := atoms_spec (ws := wsJ7_copyOf_1904c) B.pre
  have hown : s.vm.findClass RJ7 = some m.cls := findClass_of_methodNamed B.named
  subst hsz
  have hD := hD0.self (sz := s.heap.size)
  generalize hAe : va_A (cw_W c kc st lg ai al R) s.heap.size = A at hD hY ⊢
  have hA : ∀ q : Nat, s.heap.size ≤ q → A q := fun q h => by rw [← hAe]; exact Or.inr h
  have hS : va_S A s.heap s.heap [] := va_S.rf
  clear hAe hD0
  have hl := lv_entry ([.ref ea, .int p1]) (n := 2) (Nat.le_of_ble_eq_true rfl)
  rw [lg_entry_eq]
  generalize (lg_sl ([.ref ea, .int p1]) ++ List.replicate (2 - (lg_sl ([.ref ea, .int p1])).length) Slot.unset).toArray = ls at hl ⊢
  have hl : lv_has ls 2 [(0, .ref ea), (1, .int p1)] := hl
  have main : ∀ (H : Heap) (locs : List Loc), va_P (dC, dI) vwCl (cw_W c kc st lg ai al R) H → va_S A s.heap H locs → W p l e (headSpec wsJ7_copyOf_1904c ({ frames := 2, cells := 1, slots := N, locals := 120 })).room s m ([.ref ea, .int p1] : List Value).toArray below meth cM H locs 0 0 (MQ below (va_Qq (fun r (u : Option Nat) => r = u) (fun u t => ∃ (q : Nat) (a1 : Nat → Option Nat), u = some q ∧ (∀ i : Nat, i < cap → a1 i = a i) ∧ va_P (dC, dI) vwCl (cw_W c kc st lg ai al (R ++ [pgR (kc 98) q N a1])) t.heap ∧ va_D A (cw_W c kc st lg ai al (R ++ [pgR (kc 98) q N a1]))) A) ([.ref ea, .int p1] : List Value).toArray s 1 N A) (F0 m 0 ls []) := by
    intro H locs hP hS
    refine lv_aload_n hx hb dJ7_copyOf_1904c_0 rfl (lv_at hl 0 rfl) ?_
    refine lv_iload_n hx hb dJ7_copyOf_1904c_1 rfl (lv_at hl 1 rfl) ?_
    refine lv_aload_n hx hb dJ7_copyOf_1904c_2 rfl (lv_at hl 0 rfl) ?_
    have hZ := hY.1
    refine va_getC (C := "[Ljava/lang/Object;") hx hb (hml.trans hl.1.symm) hown (hts (.methodLink RJ7 86 ⟨"java/lang/Object", "getClass", "()Ljava/lang/Class;"⟩) (by decide +kernel)) hY.2.use (hts (.selects "[Ljava/lang/Object;" ⟨"java/lang/Object", "getClass", "()Ljava/lang/Class;"⟩ ⟨"java/lang/Object", "getClass", "()Ljava/lang/Class;"⟩) (by decide +kernel)) (hts (.instanceMethod ⟨"java/lang/Object", "getClass", "()Ljava/lang/Class;"⟩) (by decide +kernel)) (hts (.native ⟨"java/lang/Object", "getClass", "()Ljava/lang/Class;"⟩) (by decide +kernel)) hZ.2.2 ⟨_, hP (26 + j) _ (cw_at hj), rfl, va_nmO (hK.2 18 (kc 98, .object "java/lang/Object") rfl).2 (by decide +kernel)⟩ (Nat.le_of_ble_eq_true rfl) (Nat.le_of_ble_eq_true rfl) dJ7_copyOf_1904c_3 ?_
    have hFc := vfree ((cw_D hD : va_D A (cw_W c kc st lg ai al R))) hS hA
    refine va_callq (va_runS (As := [.ref ea, .int p1, .ref mi]) (rest := []) ⟨hx, hb, hml, hown, hts⟩ (v_copyOf6 l dC dI c kc st lg ai al R ea cap N a mi p1 _ hN hc hN2 j hj hel) (va_cwS 3 hts gJ7_copyOf_1904c_J7_copyOf_6403c rfl rfl rfl (by decide +kernel) ⟨(Nat.le_of_ble_eq_true rfl), (Nat.le_of_ble_eq_true rfl)⟩) ⟨fun a U g mk q => by obtain ⟨q0, q1, qP, qK, qD, qG⟩ := q; exact ⟨q0, q1, qP, va_K.moved (u := U) (U := U.calling g mk a) (Vm.Alike.refl U.vm) qK, qD, qG.same rfl⟩, fun U hU hW => ⟨rfl, by rw [hU], by rw [hU]; exact hP, va_K.moved hW.alike hK, (cw_D hD).weaken (fun _ _ _ _ => trivial), hZ.warm hW⟩⟩ rfl rfl hl.1 rfl (lv_room (Nat.le_of_ble_eq_true rfl)) dJ7_copyOf_1904c_6 ⟨by show 0 + 1 ≤ 1; omega, by show 0 + _ ≤ N; omega⟩) hS (fun q _ h => hFc q h) hFc (fun r u t H1 locs ht hvm er hB hz1 hk1 hS => ?_)
    subst er
    obtain ⟨q, a1, hu, ha1, hP1, hD1⟩ := hB
    subst hu
    rw [ht] at hP1
    clear hz1 hk1 hvm hP
    subst ht
    have hP := hP1
    have hD := hD1.weaken (fun _ _ _ h => hFc _ h)
    clear hP1 hD1 hFc
    generalize t.heap = H at hP hS ⊢
    refine W.eq (g2 := F0 m 9 ls [.ref q]) rfl ?_
    refine W.widen (k := 1) (n := N) (by show _ ≤ 1; omega) (by show _ ≤ N; omega) ?_
    exact W.aret (v := .ref q) hx hb hr (Or.inr ⟨_, rfl⟩) (Or.inr ⟨_, rfl⟩) (fun t ht hW => ⟨⟨some q, _, rfl, rfl, q, a1, rfl, ha1, by rw [ht]; exact hP, hD⟩, hS.F ht⟩) hS.2.2 dJ7_copyOf_1904c_9
  exact main s.heap [] hP hS

set_option maxHeartbeats 4000000 in
set_option maxRecDepth 100000 in
theorem v_grow1_0 (l : Launch) (dC : Nat → ClassId) (dI : Nat → Nat → Nat) (c : Nat → Nat) (kc : Nat → ClassId) (st : Nat → Int32) (lg : Nat → Int64) (ai : Nat → Nat → Int32) (al : Nat → Nat → Int64) (R : va_W) (cap N : Nat) (a : Nat → Option Nat) (p0 : Int32) (sz : Nat) (hp0 : p0.toInt = (cap : Int) + 1) (hcap : cap = 0) (hNN : N = 10) : Met l yJx4a65c_grow_92f84 wsJx4a65c_grow_92f84 ({ frames := 3, cells := 1, slots := N, locals := 200 }) (va_Pc [.ref (c 103), .int p0] (fun U => U.heap.size = sz ∧ va_P (dC, dI) vwCl (cw_W c kc st lg ai al R) U.heap ∧ va_K (dC, dI) vwCl (cw_T kc) U ∧ va_D (fun _ => True) (cw_W c kc st lg ai al R) ∧ gy_E cap (c 99) (va_A (cw_W c kc st lg ai al R) sz) U)) (va_Qq (fun r (u : Option Nat) => r = u) (fun u t => ∃ (q : Nat) (a1 : Nat → Option Nat), u = some q ∧ (∀ i : Nat, i < cap → a1 i = a i) ∧ va_P (dC, dI) vwCl (cw_W (rU c 99 q) kc st lg ai al (R ++ [pgR (kc 98) q N a1])) t.heap ∧ va_D (va_A (cw_W c kc st lg ai al R) sz) (cw_W (rU c 99 q) kc st lg ai al (R ++ [pgR (kc 98) q N a1]))) (va_A (cw_W c kc st lg ai al R) sz)) 1 N (va_A (cw_W c kc st lg ai al R) sz) := by
  refine Met.ofW (cc := cJx4a65c_grow_92f84) (maxL := 4) (ret := (some (.array (.object "java/lang/Object")))) (by decide) rfl ?_
  intro p e s m args below meth cM s₁ B hml hv
  obtain ⟨rfl, hsz, hP, hK, hD0, hY⟩ := hv
  have hx := B.exec
  have hb := B.bytes
  have hr := B.returns
  have hts := atoms_spec (ws := wsJx4a65c_grow_92f84) B.pre
  have hown : s.vm.findClass RJx4a65c = some m.cls := findClass_of_methodNamed B.named
  subst hsz
  have hD := hD0.self (sz := s.heap.size)
  generalize hAe : va_A (cw_W c kc st lg ai al R) s.heap.size = A at hD hY ⊢
  have hA : ∀ q : Nat, s.heap.size ≤ q → A q := fun q h => by rw [← hAe]; exact Or.inr h
  have hS : va_S A s.heap s.heap [] := va_S.rf
  clear hAe hD0
  have hl := lv_entry ([.ref (c 103), .int p0]) (n := 4) (Nat.le_of_ble_eq_true rfl)
  rw [lg_entry_eq]
  generalize (lg_sl ([.ref (c 103), .int p0]) ++ List.replicate (4 - (lg_sl ([.ref (c 103), .int p0])).length) Slot.unset).toArray = ls at hl ⊢
  have hl : lv_has ls 4 [(0, .ref (c 103)), (1, .int p0)] := hl
  have z_0 : (0 : Int32).toInt = 0 := by decide
  have z_10 : (10 : Int32).toInt = 10 := by decide
  have hin_Jx4a65c : ∀ w ∈ u_ws RJx4a65c TJx4a65c 3, w ∈ wsJx4a65c_grow_92f84 := by decide +kernel
  have main : ∀ (H : Heap) (locs : List Loc), va_P (dC, dI) vwCl (cw_W c kc st lg ai al R) H → va_S A s.heap H locs → W p l e (headSpec wsJx4a65c_grow_92f84 ({ frames := 3, cells := 1, slots := N, locals := 200 })).room s m ([.ref (c 103), .int p0] : List Value).toArray below meth cM H locs 0 0 (MQ below (va_Qq (fun r (u : Option Nat) => r = u) (fun u t => ∃ (q : Nat) (a1 : Nat → Option Nat), u = some q ∧ (∀ i : Nat, i < cap → a1 i = a i) ∧ va_P (dC, dI) vwCl (cw_W (rU c 99 q) kc st lg ai al (R ++ [pgR (kc 98) q N a1])) t.heap ∧ va_D A (cw_W (rU c 99 q) kc st lg ai al (R ++ [pgR (kc 98) q N a1]))) A) ([.ref (c 103), .int p0] : List Value).toArray s 1 N A) (F0 m 0 ls []) := by
    intro H locs hP hS
    obtain ⟨mi, hZ⟩ := hY.2.1
    refine lv_aload_n hx hb dJx4a65c_grow_92f84_0 rfl (lv_at hl 0 rfl) ?_
    refine va_get (D := (dC, dI)) (ci := 2) (v := .ref (c 99)) (C := RJx4a65c) (T := TJx4a65c) (N := 3) hx hb hts hin_Jx4a65c hown hK hP 3 rfl rfl 1 (by decide) (hts (.fieldLink RJx4a65c 9 "java/util/ArrayList" "elementData" "[Ljava/lang/Object;") (by decide +kernel)) (fun _ h9 => h9) rfl dJx4a65c_grow_92f84_1 ?_
    obtain ⟨f9, hT9⟩ := (hY.2.2.2 hcap).2
    refine va_tlen (v := 0) hx hb hT9 hS rfl dJx4a65c_grow_92f84_4 ?_
    refine lv_istore_n (lv' := [(2, .int (0 : Int32)), (0, .ref (c 103)), (1, .int p0)]) hx hb dJx4a65c_grow_92f84_5 rfl hl (by decide) rfl (fun ls hl => ?_)
    refine lv_iload_n hx hb dJx4a65c_grow_92f84_6 rfl (lv_at hl 0 rfl) ?_
    refine lv_if_gt (tgt := 20) hx hb dJx4a65c_grow_92f84_7 (by decide) (fun c_1 => ?_) (fun c_1 => ?_)
    · skip
      have ic_1 := iv_lt c_1
      exfalso
      omega
    · skip
      have ic_1 := iv_nlt c_1
      refine lv_aload_n hx hb dJx4a65c_grow_92f84_10 rfl (lv_at hl 1 rfl) ?_
      refine va_get (D := (dC, dI)) (ci := 2) (v := .ref (c 99)) (C := RJx4a65c) (T := TJx4a65c) (N := 3) hx hb hts hin_Jx4a65c hown hK hP 3 rfl rfl 1 (by decide) (hts (.fieldLink RJx4a65c 9 "java/util/ArrayList" "elementData" "[Ljava/lang/Object;") (by decide +kernel)) (fun _ h9 => h9) rfl dJx4a65c_grow_92f84_11 ?_
      refine va_gets hx hb (hY.2.2.2 hcap).1 hS hown (hts (.fieldLink RJx4a65c 39 "java/util/ArrayList" "DEFAULTCAPACITY_EMPTY_ELEMENTDATA" "[Ljava/lang/Object;") (by decide +kernel)) (fun _ h9 => h9) dJx4a65c_grow_92f84_14 ?_
      refine lv_acmp_eq (rx := some (c 99)) (ry := some (c 99)) (tgt := 45) hx hb dJx4a65c_grow_92f84_17 (by decide) (fun _ => ?_) (fun h => absurd rfl h)
      refine lv_aload_n hx hb dJx4a65c_grow_92f84_45 rfl (lv_at hl 1 rfl) ?_
      refine lv_bipush (v := 10) hx hb dJx4a65c_grow_92f84_46 (by decide) ?_
      refine lv_iload_n hx hb dJx4a65c_grow_92f84_48 rfl (lv_at hl 2 rfl) ?_
      refine va_mmax hx hb (hml.trans hl.1.symm) hown (hts (.methodLink RJx4a65c 79 Lib.Math.max.name) (by decide +kernel)) (hts (.static Lib.Math.max.name) (by decide +kernel)) (hts (.initialized "java/lang/Math") (by decide +kernel)) (hts (.code Lib.Math.max.name Lib.Math.max.code 2 (some .int)) (by decide +kernel)) (Nat.le_of_ble_eq_true rfl) (Nat.le_of_ble_eq_true rfl) (by show 0 ≤ 1; omega) (by show 0 ≤ N; omega) dJx4a65c_grow_92f84_49 ?_
      refine lv_topi (fun v_2 ev_2 => ?_)
      have hv_2 : 10 ≤ v_2.toInt ∧ p0.toInt ≤ v_2.toInt ∧ (v_2.toInt = 10 ∨ v_2.toInt = p0.toInt) := by have q := iv_max (10 : Int32) p0; rw [← ev_2] at q; omega
      clear ev_2
      refine va_newq (n := v_2) (N' := N) hx hb hown (hts (.classLink RJx4a65c 7 "java/lang/Object") (by decide +kernel)) hZ.2.1 hK hP hD hS hA (cp_n (by omega)) (cl_of (by omega)) (by omega) (by show _ ≤ 1; exact Nat.le_refl _) (by show 0 + N ≤ N; omega) dJx4a65c_grow_92f84_52 (fun q cA H hK1 hP hD hS => ?_)
      have hcA : cA = kc 98 := by
        obtain ⟨_, _, _, _, _, h4⟩ := (hK.2 18 (kc 98, .object "java/lang/Object") rfl).2
        obtain ⟨_, _, _, _, _, h5⟩ := (hK1.2 19 (cA, .object "java/lang/Object") rfl).2
        exact Option.some.inj (h5.symm.trans h4)
      subst hcA
      clear hK1
      rw [cw_push] at hP hD
      refine lv_dup_x1 hx hb dJx4a65c_grow_92f84_55 rfl rfl ?_
      refine va_put (D := (dC, dI)) (ci := 2) (v := .ref q) (ty := .array (.object "java/lang/Object")) (C := RJx4a65c) (T := TJx4a65c) (N := 3) hx hb hts hin_Jx4a65c tyJx4a65c tyJx4a65c_ok nmJx4a65c hown hK hP hD hS 3 rfl rfl 1 (by decide) (hts (.fieldLink RJx4a65c 9 "java/util/ArrayList" "elementData" "[Ljava/lang/Object;") (by decide +kernel)) (fun _ h9 => h9) rfl (by decide +kernel) rfl rfl (Nat.le_of_ble_eq_true rfl) dJx4a65c_grow_92f84_56 (fun H locs hP hD hS => ?_)
      have hP := cw_eP hP
      have hD := cw_eD hD
      refine W.widen (k := 1) (n := N) (by show _ ≤ 1; omega) (by show _ ≤ N; omega) ?_
      exact W.aret (v := .ref q) hx hb hr (Or.inr ⟨_, rfl⟩) (Or.inr ⟨_, rfl⟩) (fun t ht hW => ⟨⟨some q, _, rfl, rfl, q, _, rfl, (fun i hi => absurd hi (by omega)), by rw [ht]; exact hP, hD⟩, hS.F ht⟩) hS.2.2 dJx4a65c_grow_92f84_59
  exact main s.heap [] hP hS

set_option maxHeartbeats 4000000 in
set_option maxRecDepth 100000 in
theorem v_grow0_0 (l : Launch) (dC : Nat → ClassId) (dI : Nat → Nat → Nat) (c : Nat → Nat) (kc : Nat → ClassId) (st : Nat → Int32) (lg : Nat → Int64) (ai : Nat → Nat → Int32) (al : Nat → Nat → Int64) (R : va_W) (cap N : Nat) (a : Nat → Option Nat) (sz : Nat) (hn : (st 13).toInt = (cap : Int)) (hcap : cap = 0) (hNN : N = 10) : Met l yJx4a65c_grow_d5877 wsJx4a65c_grow_d5877 ({ frames := 4, cells := 1, slots := N, locals := 240 }) (va_Pc [.ref (c 103)] (fun U => U.heap.size = sz ∧ va_P (dC, dI) vwCl (cw_W c kc st lg ai al R) U.heap ∧ va_K (dC, dI) vwCl (cw_T kc) U ∧ va_D (fun _ => True) (cw_W c kc st lg ai al R) ∧ gy_E cap (c 99) (va_A (cw_W c kc st lg ai al R) sz) U)) (va_Qq (fun r (u : Option Nat) => r = u) (fun u t => ∃ (q : Nat) (a1 : Nat → Option Nat), u = some q ∧ (∀ i : Nat, i < cap → a1 i = a i) ∧ va_P (dC, dI) vwCl (cw_W (rU c 99 q) kc st lg ai al (R ++ [pgR (kc 98) q N a1])) t.heap ∧ va_D (va_A (cw_W c kc st lg ai al R) sz) (cw_W (rU c 99 q) kc st lg ai al (R ++ [pgR (kc 98) q N a1]))) (va_A (cw_W c kc st lg ai al R) sz)) 1 N (va_A (cw_W c kc st lg ai al R) sz) := by
  refine Met.ofW (cc := cJx4a65c_grow_d5877) (maxL := 1) (ret := (some (.array (.object "java/lang/Object")))) (by decide) rfl ?_
  intro p e s m args below meth cM s₁ B hml hv
  obtain ⟨rfl, hsz, hP, hK, hD0, hY⟩ := hv
  have hx := B.exec
  have hb := B.bytes
  have hr := B.returns
  have hts := atoms_spec (ws := wsJx4a65c_grow_d5877) B.pre
  have hown : s.vm.findClass RJx4a65c = some m.cls := findClass_of_methodNamed B.named
  subst hsz
  have hD := hD0.self (sz := s.heap.size)
  generalize hAe : va_A (cw_W c kc st lg ai al R) s.heap.size = A at hD hY ⊢
  have hA : ∀ q : Nat, s.heap.size ≤ q → A q := fun q h => by rw [← hAe]; exact Or.inr h
  have hS : va_S A s.heap s.heap [] := va_S.rf
  clear hAe hD0
  have hl := lv_entry ([.ref (c 103)]) (n := 1) (Nat.le_of_ble_eq_true rfl)
  rw [lg_entry_eq]
  generalize (lg_sl ([.ref (c 103)]) ++ List.replicate (1 - (lg_sl ([.ref (c 103)])).length) Slot.unset).toArray = ls at hl ⊢
  have hl : lv_has ls 1 [(0, .ref (c 103))] := hl
  have z_1 : (1 : Int32).toInt = 1 := by decide
  have hin_Jx4a65c : ∀ w ∈ u_ws RJx4a65c TJx4a65c 3, w ∈ wsJx4a65c_grow_d5877 := by decide +kernel
  have main : ∀ (H : Heap) (locs : List Loc), va_P (dC, dI) vwCl (cw_W c kc st lg ai al R) H → va_S A s.heap H locs → W p l e (headSpec wsJx4a65c_grow_d5877 ({ frames := 4, cells := 1, slots := N, locals := 240 })).room s m ([.ref (c 103)] : List Value).toArray below meth cM H locs 0 0 (MQ below (va_Qq (fun r (u : Option Nat) => r = u) (fun u t => ∃ (q : Nat) (a1 : Nat → Option Nat), u = some q ∧ (∀ i : Nat, i < cap → a1 i = a i) ∧ va_P (dC, dI) vwCl (cw_W (rU c 99 q) kc st lg ai al (R ++ [pgR (kc 98) q N a1])) t.heap ∧ va_D A (cw_W (rU c 99 q) kc st lg ai al (R ++ [pgR (kc 98) q N a1]))) A) ([.ref (c 103)] : List Value).toArray s 1 N A) (F0 m 0 ls []) := by
    intro H locs hP hS
    refine lv_aload_n hx hb dJx4a65c_grow_d5877_0 rfl (lv_at hl 0 rfl) ?_
    refine lv_aload_n hx hb dJx4a65c_grow_d5877_1 rfl (lv_at hl 0 rfl) ?_
    refine va_get (D := (dC, dI)) (ci := 2) (v := .int (st 13)) (C := RJx4a65c) (T := TJx4a65c) (N := 3) hx hb hts hin_Jx4a65c hown hK hP 3 rfl rfl 2 (by decide) (hts (.fieldLink RJx4a65c 48 "java/util/ArrayList" "size" "I") (by decide +kernel)) (fun _ h9 => h9) rfl dJx4a65c_grow_d5877_2 ?_
    refine lv_iconst (v := 1) hx hb dJx4a65c_grow_d5877_5 (by decide) ?_
    refine lv_iadd hx hb dJx4a65c_grow_d5877_6 ?_
    refine lv_topi (fun v_1 ev_1 => ?_)
    have rg1 := iv_rng (st 13)
    have hv_1 : v_1.toInt = (st 13).toInt + 1 := by rw [ev_1]; exact (iv_add (by omega) (by omega)).trans (by omega)
    clear ev_1
    have hFc := vfree ((cw_D hD : va_D A (cw_W c kc st lg ai al R))) hS hA
    refine va_callq (va_runV (As := [.int v_1]) (rest := []) ⟨hx, hb, hml, hown, hts⟩ (v_grow1_0 l dC dI c kc st lg ai al R cap N a v_1 _ (by omega) hcap hNN) (cwV 1 hts gJx4a65c_grow_d5877_Jx4a65c_grow_92f84 rfl rfl rfl (by decide +kernel) ⟨(Nat.le_of_ble_eq_true rfl), (Nat.le_of_ble_eq_true rfl)⟩) ⟨fun a U g mk q => by obtain ⟨q0, q1, qP, qK, qD, qG⟩ := q; exact ⟨q0, q1, qP, va_K.moved (u := U) (U := U.calling g mk a) (Vm.Alike.refl U.vm) qK, qD, qG.same rfl rfl⟩, va_recv hK hP (ci := 2) (q := (RJx4a65c, TJx4a65c, 3)) rfl (q0 := 3) rfl, fun U hU hW => ⟨rfl, by rw [hU], by rw [hU]; exact hP, va_K.moved hW.alike hK, (cw_D hD).weaken (fun _ _ _ _ => trivial), hY.go hW hU hS hFc (fun h => ⟨h, rfl⟩)⟩⟩ rfl rfl hl.1 rfl (lv_room (Nat.le_of_ble_eq_true rfl)) dJx4a65c_grow_d5877_7 ⟨by show 0 + 1 ≤ 1; omega, by show 0 + _ ≤ N; omega⟩) hS (fun q _ h => hFc q h) hFc (fun r u t H1 locs ht hvm er hB hz1 hk1 hS => ?_)
    subst er
    obtain ⟨q, a1, hu, ha1, hP1, hD1⟩ := hB
    subst hu
    rw [ht] at hP1
    clear hz1 hk1 hvm hP
    subst ht
    have hP := hP1
    have hD := hD1.weaken (fun _ _ _ h => hFc _ h)
    clear hP1 hD1 hFc
    generalize t.heap = H at hP hS ⊢
    refine W.eq (g2 := F0 m 10 ls [.ref q]) rfl ?_
    refine W.widen (k := 1) (n := N) (by show _ ≤ 1; omega) (by show _ ≤ N; omega) ?_
    exact W.aret (v := .ref q) hx hb hr (Or.inr ⟨_, rfl⟩) (Or.inr ⟨_, rfl⟩) (fun t ht hW => ⟨⟨some q, _, rfl, rfl, q, a1, rfl, ha1, by rw [ht]; exact hP, hD⟩, hS.F ht⟩) hS.2.2 dJx4a65c_grow_d5877_10
  exact main s.heap [] hP hS

set_option maxHeartbeats 4000000 in
set_option maxRecDepth 100000 in
theorem v_grow1_1 (l : Launch) (dC : Nat → ClassId) (dI : Nat → Nat → Nat) (c : Nat → Nat) (kc : Nat → ClassId) (st : Nat → Int32) (lg : Nat → Int64) (ai : Nat → Nat → Int32) (al : Nat → Nat → Int64) (R : va_W) (cap N : Nat) (a : Nat → Option Nat) (p0 : Int32) (sz : Nat) (hp0 : p0.toInt = (cap : Int) + 1) (hcap : 10 ≤ cap) (hcap2 : cap ≤ 65536) (hNN : N = cap + cap / 2) (j : Nat) (hj : R[j]? = some (pgR (kc 98) (c 99) cap a)) (hel : ∀ i : Nat, i < cap → ∀ y : Nat, a i = some y → ∃ (k : Nat) (fs : List Value), R[k]? = some (y, .inr (4, fs))) : Met l yJx4a65c_grow_92f84 wsJx4a65c_grow_92f84 ({ frames := 3, cells := 1, slots := N, locals := 200 }) (va_Pc [.ref (c 103), .int p0] (fun U => U.heap.size = sz ∧ va_P (dC, dI) vwCl (cw_W c kc st lg ai al R) U.heap ∧ va_K (dC, dI) vwCl (cw_T kc) U ∧ va_D (fun _ => True) (cw_W c kc st lg ai al R) ∧ gy_E cap (c 99) (va_A (cw_W c kc st lg ai al R) sz) U)) (va_Qq (fun r (u : Option Nat) => r = u) (fun u t => ∃ (q : Nat) (a1 : Nat → Option Nat), u = some q ∧ (∀ i : Nat, i < cap → a1 i = a i) ∧ va_P (dC, dI) vwCl (cw_W (rU c 99 q) kc st lg ai al (R ++ [pgR (kc 98) q N a1])) t.heap ∧ va_D (va_A (cw_W c kc st lg ai al R) sz) (cw_W (rU c 99 q) kc st lg ai al (R ++ [pgR (kc 98) q N a1]))) (va_A (cw_W c kc st lg ai al R) sz)) 1 N (va_A (cw_W c kc st lg ai al R) sz) := by
  refine Met.ofW (cc := cJx4a65c_grow_92f84) (maxL := 4) (ret := (some (.array (.object "java/lang/Object")))) (by decide) rfl ?_
  intro p e s m args below meth cM s₁ B hml hv
  obtain ⟨rfl, hsz, hP, hK, hD0, hY⟩ := hv
  have hx := B.exec
  have hb := B.bytes
  have hr := B.returns
  have hts := atoms_spec (ws := wsJx4a65c_grow_92f84) B.pre
  have hown : s.vm.findClass RJx4a65c = some m.cls := findClass_of_methodNamed B.named
  subst hsz
  have hD := hD0.self (sz := s.heap.size)
  generalize hAe : va_A (cw_W c kc st lg ai al R) s.heap.size = A at hD hY ⊢
  have hA : ∀ q : Nat, s.heap.size ≤ q → A q := fun q h => by rw [← hAe]; exact Or.inr h
  have hS : va_S A s.heap s.heap [] := va_S.rf
  clear hAe hD0
  have hl := lv_entry ([.ref (c 103), .int p0]) (n := 4) (Nat.le_of_ble_eq_true rfl)
  rw [lg_entry_eq]
  generalize (lg_sl ([.ref (c 103), .int p0]) ++ List.replicate (4 - (lg_sl ([.ref (c 103), .int p0])).length) Slot.unset).toArray = ls at hl ⊢
  have hl : lv_has ls 4 [(0, .ref (c 103)), (1, .int p0)] := hl
  have z_0 : (0 : Int32).toInt = 0 := by decide
  have z_1 : (1 : Int32).toInt = 1 := by decide
  have hin_Jx4a65c : ∀ w ∈ u_ws RJx4a65c TJx4a65c 3, w ∈ wsJx4a65c_grow_92f84 := by decide +kernel
  have main : ∀ (H : Heap) (locs : List Loc), va_P (dC, dI) vwCl (cw_W c kc st lg ai al R) H → va_S A s.heap H locs → W p l e (headSpec wsJx4a65c_grow_92f84 ({ frames := 3, cells := 1, slots := N, locals := 200 })).room s m ([.ref (c 103), .int p0] : List Value).toArray below meth cM H locs 0 0 (MQ below (va_Qq (fun r (u : Option Nat) => r = u) (fun u t => ∃ (q : Nat) (a1 : Nat → Option Nat), u = some q ∧ (∀ i : Nat, i < cap → a1 i = a i) ∧ va_P (dC, dI) vwCl (cw_W (rU c 99 q) kc st lg ai al (R ++ [pgR (kc 98) q N a1])) t.heap ∧ va_D A (cw_W (rU c 99 q) kc st lg ai al (R ++ [pgR (kc 98) q N a1]))) A) ([.ref (c 103), .int p0] : List Value).toArray s 1 N A) (F0 m 0 ls []) := by
    intro H locs hP hS
    obtain ⟨mi, hZ⟩ := hY.2.1
    refine lv_aload_n hx hb dJx4a65c_grow_92f84_0 rfl (lv_at hl 0 rfl) ?_
    refine va_get (D := (dC, dI)) (ci := 2) (v := .ref (c 99)) (C := RJx4a65c) (T := TJx4a65c) (N := 3) hx hb hts hin_Jx4a65c hown hK hP 3 rfl rfl 1 (by decide) (hts (.fieldLink RJx4a65c 9 "java/util/ArrayList" "elementData" "[Ljava/lang/Object;") (by decide +kernel)) (fun _ h9 => h9) rfl dJx4a65c_grow_92f84_1 ?_
    refine va_alen (v := Int32.ofNat cap) hx hb hK hP (26 + j) 18 (cw_at hj) rfl rfl dJx4a65c_grow_92f84_4 ?_
    refine lv_topi (fun v_1 ev_1 => ?_)
    have hv_1 := ofn_i ev_1 (by omega)
    refine lv_istore_n (lv' := [(2, .int v_1), (0, .ref (c 103)), (1, .int p0)]) hx hb dJx4a65c_grow_92f84_5 rfl hl (by decide) rfl (fun ls hl => ?_)
    refine lv_iload_n hx hb dJx4a65c_grow_92f84_6 rfl (lv_at hl 0 rfl) ?_
    refine lv_if_gt (tgt := 20) hx hb dJx4a65c_grow_92f84_7 (by decide) (fun c_2 => ?_) (fun c_2 => ?_)
    · skip
      have ic_2 := iv_lt c_2
      refine lv_iload_n hx hb dJx4a65c_grow_92f84_20 rfl (lv_at hl 0 rfl) ?_
      refine lv_iload_n hx hb dJx4a65c_grow_92f84_21 rfl (lv_at hl 2 rfl) ?_
      refine lv_iload_n hx hb dJx4a65c_grow_92f84_22 rfl (lv_at hl 0 rfl) ?_
      refine lv_isub hx hb dJx4a65c_grow_92f84_23 ?_
      refine lv_topi (fun v_3 ev_3 => ?_)
      have rg1 := iv_rng p0
      have rg2 := iv_rng v_1
      have hv_3 : v_3.toInt = p0.toInt - v_1.toInt := by rw [ev_3]; exact (iv_sub (by omega) (by omega)).trans (by omega)
      clear ev_3
      refine lv_iload_n hx hb dJx4a65c_grow_92f84_24 rfl (lv_at hl 0 rfl) ?_
      refine lv_iconst (v := 1) hx hb dJx4a65c_grow_92f84_25 (by decide) ?_
      refine lv_ishr hx hb dJx4a65c_grow_92f84_26 ?_
      refine lv_topi (fun v_4 ev_4 => ?_)
      have hv_4 : v_4.toInt = v_1.toInt / 2 := by rw [ev_4]; exact iv_shr1 _
      clear ev_4
      refine vp_callSi (va_Run.run (va_runS (As := [.int v_1, .int v_3, .int v_4]) (rest := []) ⟨hx, hb, hml, hown, hts⟩ (v_J8_newLength_cabcc l dC dI v_1 v_3 v_4 (by omega) (by omega) (by omega) (by omega) (by omega) (by omega)) (va_cwS 3 hts gJx4a65c_grow_92f84_J8_newLength_cabcc rfl rfl rfl (by decide +kernel) ⟨Nat.le_of_ble_eq_true rfl, Nat.le_of_ble_eq_true rfl⟩) ⟨fun a U g mk q => q, fun U hU hW => ⟨rfl, trivial⟩⟩ rfl rfl hl.1 rfl (lv_room (Nat.le_of_ble_eq_true rfl)) dJx4a65c_grow_92f84_27 ⟨by show 0 + 0 ≤ 1; omega, by show 0 + 0 ≤ N; omega⟩)) (fun r_5 er_5 => ?_)
      obtain ⟨k_6, k_7, k_8⟩ := er_5
      refine lv_istore_n (lv' := [(3, .int r_5), (2, .int v_1), (0, .ref (c 103)), (1, .int p0)]) hx hb dJx4a65c_grow_92f84_30 rfl hl (by decide) rfl (fun ls hl => ?_)
      refine lv_aload_n hx hb dJx4a65c_grow_92f84_31 rfl (lv_at hl 2 rfl) ?_
      refine lv_aload_n hx hb dJx4a65c_grow_92f84_32 rfl (lv_at hl 2 rfl) ?_
      refine va_get (D := (dC, dI)) (ci := 2) (v := .ref (c 99)) (C := RJx4a65c) (T := TJx4a65c) (N := 3) hx hb hts hin_Jx4a65c hown hK hP 3 rfl rfl 1 (by decide) (hts (.fieldLink RJx4a65c 9 "java/util/ArrayList" "elementData" "[Ljava/lang/Object;") (by decide +kernel)) (fun _ h9 => h9) rfl dJx4a65c_grow_92f84_33 ?_
      refine lv_iload_n hx hb dJx4a65c_grow_92f84_36 rfl (lv_at hl 0 rfl) ?_
      have hFc := vfree ((cw_D hD : va_D A (cw_W c kc st lg ai al R))) hS hA
      refine va_callq (va_runS (As := [.ref (c 99), .int r_5]) (rest := [.ref (c 103)]) ⟨hx, hb, hml, hown, hts⟩ (v_copyOf1 l dC dI c kc st lg ai al R (c 99) cap N a mi r_5 _ (by omega) (by omega) (by omega) j hj hel) (va_cwS 2 hts gJx4a65c_grow_92f84_J7_copyOf_1904c rfl rfl rfl (by decide +kernel) ⟨(Nat.le_of_ble_eq_true rfl), (Nat.le_of_ble_eq_true rfl)⟩) ⟨fun a U g mk q => by obtain ⟨q0, q1, qP, qK, qD, qG⟩ := q; exact ⟨q0, q1, qP, va_K.moved (u := U) (U := U.calling g mk a) (Vm.Alike.refl U.vm) qK, qD, ⟨qG.1.same rfl, qG.2.moved (Vm.Alike.refl _)⟩⟩, fun U hU hW => ⟨rfl, by rw [hU], by rw [hU]; exact hP, va_K.moved hW.alike hK, (cw_D hD).weaken (fun _ _ _ _ => trivial), ⟨hZ.warm hW, hY.2.2.1.moved hW.alike⟩⟩⟩ rfl rfl hl.1 rfl (lv_room (Nat.le_of_ble_eq_true rfl)) dJx4a65c_grow_92f84_37 ⟨by show 0 + 1 ≤ 1; omega, by show 0 + _ ≤ N; omega⟩) hS (fun q _ h => hFc q h) hFc (fun r u t H1 locs ht hvm er hB hz1 hk1 hS => ?_)
      subst er
      obtain ⟨q, a1, hu, ha1, hP1, hD1⟩ := hB
      subst hu
      rw [ht] at hP1
      clear hz1 hk1 hvm hP
      subst ht
      have hP := hP1
      have hD := hD1.weaken (fun _ _ _ h => hFc _ h)
      clear hP1 hD1 hFc
      generalize t.heap = H at hP hS ⊢
      refine W.eq (g2 := F0 m 40 ls [.ref q, .ref (c 103)]) rfl ?_
      refine lv_dup_x1 hx hb dJx4a65c_grow_92f84_40 rfl rfl ?_
      refine va_put (D := (dC, dI)) (ci := 2) (v := .ref q) (ty := .array (.object "java/lang/Object")) (C := RJx4a65c) (T := TJx4a65c) (N := 3) hx hb hts hin_Jx4a65c tyJx4a65c tyJx4a65c_ok nmJx4a65c hown hK hP hD hS 3 rfl rfl 1 (by decide) (hts (.fieldLink RJx4a65c 9 "java/util/ArrayList" "elementData" "[Ljava/lang/Object;") (by decide +kernel)) (fun _ h9 => h9) rfl (by decide +kernel) rfl rfl (Nat.le_of_ble_eq_true rfl) dJx4a65c_grow_92f84_41 (fun H locs hP hD hS => ?_)
      have hP := cw_eP hP
      have hD := cw_eD hD
      refine W.widen (k := 1) (n := N) (by show _ ≤ 1; omega) (by show _ ≤ N; omega) ?_
      exact W.aret (v := .ref q) hx hb hr (Or.inr ⟨_, rfl⟩) (Or.inr ⟨_, rfl⟩) (fun t ht hW => ⟨⟨some q, _, rfl, rfl, q, a1, rfl, ha1, by rw [ht]; exact hP, hD⟩, hS.F ht⟩) hS.2.2 dJx4a65c_grow_92f84_44
    · skip
      have ic_2 := iv_nlt c_2
      exfalso
      omega
  exact main s.heap [] hP hS

set_option maxHeartbeats 4000000 in
set_option maxRecDepth 100000 in
theorem v_grow0_1 (l : Launch) (dC : Nat → ClassId) (dI : Nat → Nat → Nat) (c : Nat → Nat) (kc : Nat → ClassId) (st : Nat → Int32) (lg : Nat → Int64) (ai : Nat → Nat → Int32) (al : Nat → Nat → Int64) (R : va_W) (cap N : Nat) (a : Nat → Option Nat) (sz : Nat) (hn : (st 13).toInt = (cap : Int)) (hcap : 10 ≤ cap) (hcap2 : cap ≤ 65536) (hNN : N = cap + cap / 2) (j : Nat) (hj : R[j]? = some (pgR (kc 98) (c 99) cap a)) (hel : ∀ i : Nat, i < cap → ∀ y : Nat, a i = some y → ∃ (k : Nat) (fs : List Value), R[k]? = some (y, .inr (4, fs))) : Met l yJx4a65c_grow_d5877 wsJx4a65c_grow_d5877 ({ frames := 4, cells := 1, slots := N, locals := 240 }) (va_Pc [.ref (c 103)] (fun U => U.heap.size = sz ∧ va_P (dC, dI) vwCl (cw_W c kc st lg ai al R) U.heap ∧ va_K (dC, dI) vwCl (cw_T kc) U ∧ va_D (fun _ => True) (cw_W c kc st lg ai al R) ∧ gy_E cap (c 99) (va_A (cw_W c kc st lg ai al R) sz) U)) (va_Qq (fun r (u : Option Nat) => r = u) (fun u t => ∃ (q : Nat) (a1 : Nat → Option Nat), u = some q ∧ (∀ i : Nat, i < cap → a1 i = a i) ∧ va_P (dC, dI) vwCl (cw_W (rU c 99 q) kc st lg ai al (R ++ [pgR (kc 98) q N a1])) t.heap ∧ va_D (va_A (cw_W c kc st lg ai al R) sz) (cw_W (rU c 99 q) kc st lg ai al (R ++ [pgR (kc 98) q N a1]))) (va_A (cw_W c kc st lg ai al R) sz)) 1 N (va_A (cw_W c kc st lg ai al R) sz) := by
  refine Met.ofW (cc := cJx4a65c_grow_d5877) (maxL := 1) (ret := (some (.array (.object "java/lang/Object")))) (by decide) rfl ?_
  intro p e s m args below meth cM s₁ B hml hv
  obtain ⟨rfl, hsz, hP, hK, hD0, hY⟩ := hv
  have hx := B.exec
  have hb := B.bytes
  have hr := B.returns
  have hts := atoms_spec (ws := wsJx4a65c_grow_d5877) B.pre
  have hown : s.vm.findClass RJx4a65c = some m.cls := findClass_of_methodNamed B.named
  subst hsz
  have hD := hD0.self (sz := s.heap.size)
  generalize hAe : va_A (cw_W c kc st lg ai al R) s.heap.size = A at hD hY ⊢
  have hA : ∀ q : Nat, s.heap.size ≤ q → A q := fun q h => by rw [← hAe]; exact Or.inr h
  have hS : va_S A s.heap s.heap [] := va_S.rf
  clear hAe hD0
  have hl := lv_entry ([.ref (c 103)]) (n := 1) (Nat.le_of_ble_eq_true rfl)
  rw [lg_entry_eq]
  generalize (lg_sl ([.ref (c 103)]) ++ List.replicate (1 - (lg_sl ([.ref (c 103)])).length) Slot.unset).toArray = ls at hl ⊢
  have hl : lv_has ls 1 [(0, .ref (c 103))] := hl
  have z_1 : (1 : Int32).toInt = 1 := by decide
  have hin_Jx4a65c : ∀ w ∈ u_ws RJx4a65c TJx4a65c 3, w ∈ wsJx4a65c_grow_d5877 := by decide +kernel
  have main : ∀ (H : Heap) (locs : List Loc), va_P (dC, dI) vwCl (cw_W c kc st lg ai al R) H → va_S A s.heap H locs → W p l e (headSpec wsJx4a65c_grow_d5877 ({ frames := 4, cells := 1, slots := N, locals := 240 })).room s m ([.ref (c 103)] : List Value).toArray below meth cM H locs 0 0 (MQ below (va_Qq (fun r (u : Option Nat) => r = u) (fun u t => ∃ (q : Nat) (a1 : Nat → Option Nat), u = some q ∧ (∀ i : Nat, i < cap → a1 i = a i) ∧ va_P (dC, dI) vwCl (cw_W (rU c 99 q) kc st lg ai al (R ++ [pgR (kc 98) q N a1])) t.heap ∧ va_D A (cw_W (rU c 99 q) kc st lg ai al (R ++ [pgR (kc 98) q N a1]))) A) ([.ref (c 103)] : List Value).toArray s 1 N A) (F0 m 0 ls []) := by
    intro H locs hP hS
    refine lv_aload_n hx hb dJx4a65c_grow_d5877_0 rfl (lv_at hl 0 rfl) ?_
    refine lv_aload_n hx hb dJx4a65c_grow_d5877_1 rfl (lv_at hl 0 rfl) ?_
    refine va_get (D := (dC, dI)) (ci := 2) (v := .int (st 13)) (C := RJx4a65c) (T := TJx4a65c) (N := 3) hx hb hts hin_Jx4a65c hown hK hP 3 rfl rfl 2 (by decide) (hts (.fieldLink RJx4a65c 48 "java/util/ArrayList" "size" "I") (by decide +kernel)) (fun _ h9 => h9) rfl dJx4a65c_grow_d5877_2 ?_
    refine lv_iconst (v := 1) hx hb dJx4a65c_grow_d5877_5 (by decide) ?_
    refine lv_iadd hx hb dJx4a65c_grow_d5877_6 ?_
    refine lv_topi (fun v_1 ev_1 => ?_)
    have rg1 := iv_rng (st 13)
    have hv_1 : v_1.toInt = (st 13).toInt + 1 := by rw [ev_1]; exact (iv_add (by omega) (by omega)).trans (by omega)
    clear ev_1
    have hFc := vfree ((cw_D hD : va_D A (cw_W c kc st lg ai al R))) hS hA
    refine va_callq (va_runV (As := [.int v_1]) (rest := []) ⟨hx, hb, hml, hown, hts⟩ (v_grow1_1 l dC dI c kc st lg ai al R cap N a v_1 _ (by omega) hcap hcap2 hNN j hj hel) (cwV 1 hts gJx4a65c_grow_d5877_Jx4a65c_grow_92f84 rfl rfl rfl (by decide +kernel) ⟨(Nat.le_of_ble_eq_true rfl), (Nat.le_of_ble_eq_true rfl)⟩) ⟨fun a U g mk q => by obtain ⟨q0, q1, qP, qK, qD, qG⟩ := q; exact ⟨q0, q1, qP, va_K.moved (u := U) (U := U.calling g mk a) (Vm.Alike.refl U.vm) qK, qD, qG.same rfl rfl⟩, va_recv hK hP (ci := 2) (q := (RJx4a65c, TJx4a65c, 3)) rfl (q0 := 3) rfl, fun U hU hW => ⟨rfl, by rw [hU], by rw [hU]; exact hP, va_K.moved hW.alike hK, (cw_D hD).weaken (fun _ _ _ _ => trivial), hY.go hW hU hS hFc (fun h => ⟨h, rfl⟩)⟩⟩ rfl rfl hl.1 rfl (lv_room (Nat.le_of_ble_eq_true rfl)) dJx4a65c_grow_d5877_7 ⟨by show 0 + 1 ≤ 1; omega, by show 0 + _ ≤ N; omega⟩) hS (fun q _ h => hFc q h) hFc (fun r u t H1 locs ht hvm er hB hz1 hk1 hS => ?_)
    subst er
    obtain ⟨q, a1, hu, ha1, hP1, hD1⟩ := hB
    subst hu
    rw [ht] at hP1
    clear hz1 hk1 hvm hP
    subst ht
    have hP := hP1
    have hD := hD1.weaken (fun _ _ _ h => hFc _ h)
    clear hP1 hD1 hFc
    generalize t.heap = H at hP hS ⊢
    refine W.eq (g2 := F0 m 10 ls [.ref q]) rfl ?_
    refine W.widen (k := 1) (n := N) (by show _ ≤ 1; omega) (by show _ ≤ N; omega) ?_
    exact W.aret (v := .ref q) hx hb hr (Or.inr ⟨_, rfl⟩) (Or.inr ⟨_, rfl⟩) (fun t ht hW => ⟨⟨some q, _, rfl, rfl, q, a1, rfl, ha1, by rw [ht]; exact hP, hD⟩, hS.F ht⟩) hS.2.2 dJx4a65c_grow_d5877_10
  exact main s.heap [] hP hS

set_option maxHeartbeats 4000000 in
set_option maxRecDepth 100000 in
theorem v_add_fit (l : Launch) (dC : Nat → ClassId) (dI : Nat → Nat → Nat) (c : Nat → Nat) (kc : Nat → ClassId) (st : Nat → Int32) (lg : Nat → Int64) (ai : Nat → Nat → Int32) (al : Nat → Nat → Int64) (R : va_W) (cap N : Nat) (a : Nat → Option Nat) (x jx : Nat) (fs : List Value) (p0 : Int32) (sz : Nat) (hjx : R[jx]? = some (x, .inr (4, fs))) (h0 : 0 ≤ p0.toInt) (h1 : p0.toInt ≤ (st 13).toInt) (hn2 : (st 13).toInt ≤ 65536) (hf : (st 13).toInt < (cap : Int)) (hcb : cap ≤ 200000) (j : Nat) (hj : R[j]? = some (pgR (kc 98) (c 99) cap a)) (hel : ∀ i : Nat, (i : Int) < (st 13).toInt → ∀ y : Nat, a i = some y → ∃ (k : Nat) (fs : List Value), R[k]? = some (y, .inr (4, fs))) : Met l yJx4a65c_add_7a177 wsJx4a65c_add_7a177 ({ frames := 5, cells := 0, slots := 0, locals := 300 }) (va_Pc [.ref (c 103), .int p0, .ref x] (fun U => U.heap.size = sz ∧ va_P (dC, dI) vwCl (cw_W c kc st lg ai al R) U.heap ∧ va_K (dC, dI) vwCl (cw_T kc) U ∧ va_D (fun _ => True) (cw_W c kc st lg ai al R) ∧ gy_E cap (c 99) (va_A (cw_W c kc st lg ai al R) sz) U)) (va_Qv (fun (_ : Unit) => True) (fun _ t => ∃ (x12 x13 : Int32) (a9 : Nat → Option Nat), x13.toInt = (st 13).toInt + 1 ∧ insR a a9 p0.toNatClampNeg (st 13).toInt.toNat x ∧ va_P (dC, dI) vwCl (cw_W c kc (rU (rU st 12 x12) 13 x13) lg ai al (R.set j (pgR (kc 98) (c 99) cap a9))) t.heap ∧ va_D (va_A (cw_W c kc st lg ai al R) sz) (cw_W c kc st lg ai al (R.set j (pgR (kc 98) (c 99) cap a9)))) (va_A (cw_W c kc st lg ai al R) sz)) 0 0 (va_A (cw_W c kc st lg ai al R) sz) := by
  refine Met.ofW (cc := cJx4a65c_add_7a177) (maxL := 5) (ret := none) (by decide) rfl ?_
  intro p e s m args below meth cM s₁ B hml hv
  obtain ⟨rfl, hsz, hP, hK, hD0, hY⟩ := hv
  have hx := B.exec
  have hb := B.bytes
  have hr := B.returns
  have hts := atoms_spec (ws := wsJx4a65c_add_7a177) B.pre
  have hown : s.vm.findClass RJx4a65c = some m.cls := findClass_of_methodNamed B.named
  subst hsz
  have hD := hD0.self (sz := s.heap.size)
  generalize hAe : va_A (cw_W c kc st lg ai al R) s.heap.size = A at hD hY ⊢
  have hA : ∀ q : Nat, s.heap.size ≤ q → A q := fun q h => by rw [← hAe]; exact Or.inr h
  have hS : va_S A s.heap s.heap [] := va_S.rf
  clear hAe hD0
  have hl := lv_entry ([.ref (c 103), .int p0, .ref x]) (n := 5) (Nat.le_of_ble_eq_true rfl)
  rw [lg_entry_eq]
  generalize (lg_sl ([.ref (c 103), .int p0, .ref x]) ++ List.replicate (5 - (lg_sl ([.ref (c 103), .int p0, .ref x])).length) Slot.unset).toArray = ls at hl ⊢
  have hl : lv_has ls 5 [(0, .ref (c 103)), (1, .int p0), (2, .ref x)] := hl
  have z_0 : (0 : Int32).toInt = 0 := by decide
  have z_1 : (1 : Int32).toInt = 1 := by decide
  have hin_Jx4a65c : ∀ w ∈ u_ws RJx4a65c TJx4a65c 3, w ∈ wsJx4a65c_add_7a177 := by decide +kernel
  have main : ∀ (H : Heap) (locs : List Loc), va_P (dC, dI) vwCl (cw_W c kc st lg ai al R) H → va_S A s.heap H locs → W p l e (headSpec wsJx4a65c_add_7a177 ({ frames := 5, cells := 0, slots := 0, locals := 300 })).room s m ([.ref (c 103), .int p0, .ref x] : List Value).toArray below meth cM H locs 0 0 (MQ below (va_Qv (fun (_ : Unit) => True) (fun _ t => ∃ (x12 x13 : Int32) (a9 : Nat → Option Nat), x13.toInt = (st 13).toInt + 1 ∧ insR a a9 p0.toNatClampNeg (st 13).toInt.toNat x ∧ va_P (dC, dI) vwCl (cw_W c kc (rU (rU st 12 x12) 13 x13) lg ai al (R.set j (pgR (kc 98) (c 99) cap a9))) t.heap ∧ va_D A (cw_W c kc st lg ai al (R.set j (pgR (kc 98) (c 99) cap a9)))) A) ([.ref (c 103), .int p0, .ref x] : List Value).toArray s 0 0 A) (F0 m 0 ls []) := by
    intro H locs hP hS
    obtain ⟨mi, hZ⟩ := hY.2.1
    refine lv_aload_n hx hb dJx4a65c_add_7a177_0 rfl (lv_at hl 0 rfl) ?_
    refine lv_iload_n hx hb dJx4a65c_add_7a177_1 rfl (lv_at hl 1 rfl) ?_
    refine va_csv (va_Run.run (va_runV (As := [.int p0]) (rest := []) ⟨hx, hb, hml, hown, hts⟩ (v_Jx4a65c_rangeCheckForAdd_d00df l dC dI c kc st lg ai al R p0 (show 0 ≤ (st 13).toInt by omega) (show (st 13).toInt ≤ 65536 by omega) (by omega) (show p0.toInt ≤ (st 13).toInt by omega)) (cwV 1 hts gJx4a65c_add_7a177_Jx4a65c_rangeCheckForAdd_d00df rfl rfl rfl (by decide +kernel) ⟨Nat.le_of_ble_eq_true rfl, Nat.le_of_ble_eq_true rfl⟩) ⟨fun a U g mk q => by obtain ⟨q0, qP, qK⟩ := q; exact ⟨q0, qP, va_K.moved (u := U) (U := U.calling g mk a) (Vm.Alike.refl U.vm) qK⟩, va_recv hK hP (ci := 2) (q := (RJx4a65c, TJx4a65c, 3)) rfl (q0 := 3) rfl, fun U hU hW => ⟨rfl, by rw [hU]; exact hP, va_K.moved hW.alike hK⟩⟩ rfl rfl hl.1 rfl (lv_room (Nat.le_of_ble_eq_true rfl)) dJx4a65c_add_7a177_2 ⟨by show 0 + 0 ≤ 0; omega, by show 0 + 0 ≤ 0; omega⟩)) (fun er_1 => ?_)
    refine lv_aload_n hx hb dJx4a65c_add_7a177_5 rfl (lv_at hl 0 rfl) ?_
    refine lv_dup hx hb dJx4a65c_add_7a177_6 rfl ?_
    refine va_get (D := (dC, dI)) (ci := 2) (v := .int (st 12)) (C := RJx4a65c) (T := TJx4a65c) (N := 3) hx hb hts hin_Jx4a65c hown hK hP 3 rfl rfl 0 (by decide) (hts (.fieldLink RJx4a65c 63 "java/util/ArrayList" "modCount" "I") (by decide +kernel)) (u_same (hts (.sameField "java/util/ArrayList" "java/util/AbstractList" "modCount" "I") (by decide +kernel))) rfl dJx4a65c_add_7a177_7 ?_
    refine lv_iconst (v := 1) hx hb dJx4a65c_add_7a177_10 (by decide) ?_
    refine lv_iadd hx hb dJx4a65c_add_7a177_11 ?_
    refine lv_topi (fun v_2 ev_2 => ?_)
    clear ev_2
    refine va_put (D := (dC, dI)) (ci := 2) (v := .int v_2) (ty := .int) (C := RJx4a65c) (T := TJx4a65c) (N := 3) hx hb hts hin_Jx4a65c tyJx4a65c tyJx4a65c_ok nmJx4a65c hown hK hP (cw_D hD) hS 3 rfl rfl 0 (by decide) (hts (.fieldLink RJx4a65c 63 "java/util/ArrayList" "modCount" "I") (by decide +kernel)) (u_same (hts (.sameField "java/util/ArrayList" "java/util/AbstractList" "modCount" "I") (by decide +kernel))) rfl (by decide +kernel) rfl rfl (Nat.le_of_ble_eq_true rfl) dJx4a65c_add_7a177_12 (fun H locs hP _ hS => ?_)
    have hP : va_P (dC, dI) vwCl (cw_W c kc (rU st 12 v_2) lg ai al R) H := hP
    refine lv_aload_n hx hb dJx4a65c_add_7a177_15 rfl (lv_at hl 0 rfl) ?_
    refine va_get (D := (dC, dI)) (ci := 2) (v := .int (st 13)) (C := RJx4a65c) (T := TJx4a65c) (N := 3) hx hb hts hin_Jx4a65c hown hK hP 3 rfl rfl 2 (by decide) (hts (.fieldLink RJx4a65c 48 "java/util/ArrayList" "size" "I") (by decide +kernel)) (fun _ h9 => h9) rfl dJx4a65c_add_7a177_16 ?_
    refine lv_dup hx hb dJx4a65c_add_7a177_19 rfl ?_
    refine lv_istore_n (lv' := [(3, .int (st 13)), (0, .ref (c 103)), (1, .int p0), (2, .ref x)]) hx hb dJx4a65c_add_7a177_20 rfl hl (by decide) rfl (fun ls hl => ?_)
    refine lv_aload_n hx hb dJx4a65c_add_7a177_21 rfl (lv_at hl 1 rfl) ?_
    refine va_get (D := (dC, dI)) (ci := 2) (v := .ref (c 99)) (C := RJx4a65c) (T := TJx4a65c) (N := 3) hx hb hts hin_Jx4a65c hown hK hP 3 rfl rfl 1 (by decide) (hts (.fieldLink RJx4a65c 9 "java/util/ArrayList" "elementData" "[Ljava/lang/Object;") (by decide +kernel)) (fun _ h9 => h9) rfl dJx4a65c_add_7a177_22 ?_
    refine lv_dup hx hb dJx4a65c_add_7a177_25 rfl ?_
    refine lv_astore (lv' := [(4, .ref (c 99)), (3, .int (st 13)), (0, .ref (c 103)), (1, .int p0), (2, .ref x)]) hx hb dJx4a65c_add_7a177_26 hl (by decide) rfl (fun ls hl => ?_)
    refine va_alen (v := Int32.ofNat cap) hx hb hK hP (26 + j) 18 (cw_at hj) rfl rfl dJx4a65c_add_7a177_28 ?_
    refine lv_topi (fun v_3 ev_3 => ?_)
    have hv_3 := ofn_i ev_3 (by omega)
    refine lv_icmp_ne (tgt := 38) hx hb dJx4a65c_add_7a177_29 (by decide) (fun c_4 => ?_) (fun c_4 => ?_)
    · skip
      have ic_4 := iv_ne c_4
      refine lv_aload hx hb dJx4a65c_add_7a177_38 (lv_at hl 0 rfl) ?_
      refine lv_iload_n hx hb dJx4a65c_add_7a177_40 rfl (lv_at hl 3 rfl) ?_
      refine lv_aload hx hb dJx4a65c_add_7a177_41 (lv_at hl 0 rfl) ?_
      refine lv_iload_n hx hb dJx4a65c_add_7a177_43 rfl (lv_at hl 3 rfl) ?_
      refine lv_iconst (v := 1) hx hb dJx4a65c_add_7a177_44 (by decide) ?_
      refine lv_iadd hx hb dJx4a65c_add_7a177_45 ?_
      refine lv_topi (fun v_5 ev_5 => ?_)
      have rg1 := iv_rng p0
      have hv_5 : v_5.toInt = p0.toInt + 1 := by rw [ev_5]; exact (iv_add (by omega) (by omega)).trans (by omega)
      clear ev_5
      refine lv_iload_n hx hb dJx4a65c_add_7a177_46 rfl (lv_at hl 1 rfl) ?_
      refine lv_iload_n hx hb dJx4a65c_add_7a177_47 rfl (lv_at hl 3 rfl) ?_
      refine lv_isub hx hb dJx4a65c_add_7a177_48 ?_
      refine lv_topi (fun v_6 ev_6 => ?_)
      have rg2 := iv_rng (st 13)
      have hv_6 : v_6.toInt = (st 13).toInt - p0.toInt := by rw [ev_6]; exact (iv_sub (by omega) (by omega)).trans (by omega)
      clear ev_6
      refine va_copyq (f := a) (g := a) (C := RX2) hx hb (hml.trans hl.1.symm) hown (hts (.methodLink RJx4a65c 112 arraycopyName) (by decide +kernel)) (hts (.native arraycopyName) (by decide +kernel)) (hts (.static arraycopyName) (by decide +kernel)) (hts (.initialized "java/lang/System") (by decide +kernel)) hK hP (cw_D hD) hS (26 + j) (26 + j) 18 18 (cw_at hj) (cw_at hj) rfl rfl (cp_n (by omega)) (cp_n (by omega)) (cp_n (by omega)) (cp_l (by omega) (by omega) (by omega)) (cp_l (by omega) (by omega) (by omega)) (fun i hi y hy => by have e1 : (p0.toNatClampNeg : Int) = p0.toInt := Int.toNat_of_nonneg (by omega); have e2 : (v_6.toNatClampNeg : Int) = v_6.toInt := Int.toNat_of_nonneg (by omega); obtain ⟨k9, fs9, hk9⟩ := hel (p0.toNatClampNeg + i) (by omega) y hy; exact va_recv hK hP (ci := 4) (q := (RX2, TX2, 3)) rfl (q0 := 26 + k9) (cw_at hk9)) (fun comp c0 h1 h2 => vb_asgC hZ.1 comp c0 h1 h2) (Nat.le_of_ble_eq_true rfl) (show ((([] : List Value).map fun v => v.category).sum + (nativeFrameWords "java/lang/System" "arraycopy" 5 + 11) ≤ 300) by decide +kernel) dJx4a65c_add_7a177_49 (fun H locs hP hD hS => ?_)
      generalize hcp : va_cpy a a p0.toNatClampNeg v_5.toNatClampNeg v_6.toNatClampNeg = a1 at hP hD
      rw [cw_set] at hP hD
      refine lv_aload hx hb dJx4a65c_add_7a177_52 (lv_at hl 0 rfl) ?_
      refine lv_iload_n hx hb dJx4a65c_add_7a177_54 rfl (lv_at hl 3 rfl) ?_
      refine lv_aload_n hx hb dJx4a65c_add_7a177_55 rfl (lv_at hl 4 rfl) ?_
      have hjx1 : (R.set j (pgR (kc 98) (c 99) cap a1))[jx]? = some (x, .inr (4, fs)) := by rw [List.getElem?_set_ne (fun w => by rw [w, hjx] at hj; cases hj)]; exact hjx
      refine va_astqO (f := a1) (n := cap) (r := (RX2, TX2, 3)) hx hb hK hP (cw_D hD) hS (26 + j) 18 (26 + jx) 4 (cw_at (set_eq hj)) rfl hZ.1 (cw_at hjx1) rfl (iv_in (i := p0) (by omega) (by omega)) dJx4a65c_add_7a177_56 (fun H locs hP hD hS => ?_)
      generalize hup : va_up a1 p0.toNatClampNeg (some x) = a9 at hP hD
      rw [cw_set, List.set_set] at hP hD
      refine lv_aload_n hx hb dJx4a65c_add_7a177_57 rfl (lv_at hl 2 rfl) ?_
      refine lv_iload_n hx hb dJx4a65c_add_7a177_58 rfl (lv_at hl 1 rfl) ?_
      refine lv_iconst (v := 1) hx hb dJx4a65c_add_7a177_59 (by decide) ?_
      refine lv_iadd hx hb dJx4a65c_add_7a177_60 ?_
      refine lv_topi (fun v_7 ev_7 => ?_)
      have hv_7 : v_7.toInt = (st 13).toInt + 1 := by rw [ev_7]; exact (iv_add (by omega) (by omega)).trans (by omega)
      clear ev_7
      refine va_put (D := (dC, dI)) (ci := 2) (v := .int v_7) (ty := .int) (C := RJx4a65c) (T := TJx4a65c) (N := 3) hx hb hts hin_Jx4a65c tyJx4a65c tyJx4a65c_ok nmJx4a65c hown hK hP (cw_D hD) hS 3 rfl rfl 2 (by decide) (hts (.fieldLink RJx4a65c 48 "java/util/ArrayList" "size" "I") (by decide +kernel)) (fun _ h9 => h9) rfl (by decide +kernel) rfl rfl (Nat.le_of_ble_eq_true rfl) dJx4a65c_add_7a177_61 (fun H locs hP _ hS => ?_)
      have hP : va_P (dC, dI) vwCl (cw_W c kc (rU (rU st 12 v_2) 13 v_7) lg ai al (R.set j (pgR (kc 98) (c 99) cap a9))) H := hP
      have hins := insR_i hcp hup (n := st 13) (by omega) (by omega) (by omega) (by omega)
      exact W.vret hx hb hr (fun t ht hW => ⟨⟨(), rfl, trivial, v_2, v_7, a9, by omega, hins, by rw [ht]; exact hP, cw_D hD⟩, hS.F ht⟩) hS.2.2 dJx4a65c_add_7a177_64
    · skip
      have ic_4 := iv_eq c_4
      exfalso
      omega
  exact main s.heap [] hP hS

set_option maxHeartbeats 4000000 in
set_option maxRecDepth 100000 in
theorem v_add_0 (l : Launch) (dC : Nat → ClassId) (dI : Nat → Nat → Nat) (c : Nat → Nat) (kc : Nat → ClassId) (st : Nat → Int32) (lg : Nat → Int64) (ai : Nat → Nat → Int32) (al : Nat → Nat → Int64) (R : va_W) (cap N : Nat) (a : Nat → Option Nat) (x jx : Nat) (fs : List Value) (p0 : Int32) (sz : Nat) (hjx : R[jx]? = some (x, .inr (4, fs))) (h0 : 0 ≤ p0.toInt) (h1 : p0.toInt ≤ (st 13).toInt) (hn2 : (st 13).toInt ≤ 65536) (hn : (st 13).toInt = (cap : Int)) (hcap : cap = 0) (hNN : N = 10) : Met l yJx4a65c_add_7a177 wsJx4a65c_add_7a177 ({ frames := 5, cells := 1, slots := N, locals := 300 }) (va_Pc [.ref (c 103), .int p0, .ref x] (fun U => U.heap.size = sz ∧ va_P (dC, dI) vwCl (cw_W c kc st lg ai al R) U.heap ∧ va_K (dC, dI) vwCl (cw_T kc) U ∧ va_D (fun _ => True) (cw_W c kc st lg ai al R) ∧ gy_E cap (c 99) (va_A (cw_W c kc st lg ai al R) sz) U)) (va_Qv (fun (_ : Unit) => True) (fun _ t => ∃ (q : Nat) (x12 x13 : Int32) (a9 : Nat → Option Nat), x13.toInt = (st 13).toInt + 1 ∧ insR a a9 p0.toNatClampNeg (st 13).toInt.toNat x ∧ va_P (dC, dI) vwCl (cw_W (rU c 99 q) kc (rU (rU st 12 x12) 13 x13) lg ai al (R ++ [pgR (kc 98) q N a9])) t.heap ∧ va_D (va_A (cw_W c kc st lg ai al R) sz) (cw_W (rU c 99 q) kc st lg ai al (R ++ [pgR (kc 98) q N a9]))) (va_A (cw_W c kc st lg ai al R) sz)) 1 N (va_A (cw_W c kc st lg ai al R) sz) := by
  refine Met.ofW (cc := cJx4a65c_add_7a177) (maxL := 5) (ret := none) (by decide) rfl ?_
  intro p e s m args below meth cM s₁ B hml hv
  obtain ⟨rfl, hsz, hP, hK, hD0, hY⟩ := hv
  have hx := B.exec
  have hb := B.bytes
  have hr := B.returns
  have hts := atoms_spec (ws := wsJx4a65c_add_7a177) B.pre
  have hown : s.vm.findClass RJx4a65c = some m.cls := findClass_of_methodNamed B.named
  subst hsz
  have hD := hD0.self (sz := s.heap.size)
  generalize hAe : va_A (cw_W c kc st lg ai al R) s.heap.size = A at hD hY ⊢
  have hA : ∀ q : Nat, s.heap.size ≤ q → A q := fun q h => by rw [← hAe]; exact Or.inr h
  have hS : va_S A s.heap s.heap [] := va_S.rf
  clear hAe hD0
  have hl := lv_entry ([.ref (c 103), .int p0, .ref x]) (n := 5) (Nat.le_of_ble_eq_true rfl)
  rw [lg_entry_eq]
  generalize (lg_sl ([.ref (c 103), .int p0, .ref x]) ++ List.replicate (5 - (lg_sl ([.ref (c 103), .int p0, .ref x])).length) Slot.unset).toArray = ls at hl ⊢
  have hl : lv_has ls 5 [(0, .ref (c 103)), (1, .int p0), (2, .ref x)] := hl
  have z_0 : (0 : Int32).toInt = 0 := by decide
  have z_1 : (1 : Int32).toInt = 1 := by decide
  have hin_Jx4a65c : ∀ w ∈ u_ws RJx4a65c TJx4a65c 3, w ∈ wsJx4a65c_add_7a177 := by decide +kernel
  have main : ∀ (H : Heap) (locs : List Loc), va_P (dC, dI) vwCl (cw_W c kc st lg ai al R) H → va_S A s.heap H locs → W p l e (headSpec wsJx4a65c_add_7a177 ({ frames := 5, cells := 1, slots := N, locals := 300 })).room s m ([.ref (c 103), .int p0, .ref x] : List Value).toArray below meth cM H locs 0 0 (MQ below (va_Qv (fun (_ : Unit) => True) (fun _ t => ∃ (q : Nat) (x12 x13 : Int32) (a9 : Nat → Option Nat), x13.toInt = (st 13).toInt + 1 ∧ insR a a9 p0.toNatClampNeg (st 13).toInt.toNat x ∧ va_P (dC, dI) vwCl (cw_W (rU c 99 q) kc (rU (rU st 12 x12) 13 x13) lg ai al (R ++ [pgR (kc 98) q N a9])) t.heap ∧ va_D A (cw_W (rU c 99 q) kc st lg ai al (R ++ [pgR (kc 98) q N a9]))) A) ([.ref (c 103), .int p0, .ref x] : List Value).toArray s 1 N A) (F0 m 0 ls []) := by
    intro H locs hP hS
    obtain ⟨mi, hZ⟩ := hY.2.1
    refine lv_aload_n hx hb dJx4a65c_add_7a177_0 rfl (lv_at hl 0 rfl) ?_
    refine lv_iload_n hx hb dJx4a65c_add_7a177_1 rfl (lv_at hl 1 rfl) ?_
    refine va_csv (va_Run.run (va_runV (As := [.int p0]) (rest := []) ⟨hx, hb, hml, hown, hts⟩ (v_Jx4a65c_rangeCheckForAdd_d00df l dC dI c kc st lg ai al R p0 (show 0 ≤ (st 13).toInt by omega) (show (st 13).toInt ≤ 65536 by omega) (by omega) (show p0.toInt ≤ (st 13).toInt by omega)) (cwV 1 hts gJx4a65c_add_7a177_Jx4a65c_rangeCheckForAdd_d00df rfl rfl rfl (by decide +kernel) ⟨Nat.le_of_ble_eq_true rfl, Nat.le_of_ble_eq_true rfl⟩) ⟨fun a U g mk q => by obtain ⟨q0, qP, qK⟩ := q; exact ⟨q0, qP, va_K.moved (u := U) (U := U.calling g mk a) (Vm.Alike.refl U.vm) qK⟩, va_recv hK hP (ci := 2) (q := (RJx4a65c, TJx4a65c, 3)) rfl (q0 := 3) rfl, fun U hU hW => ⟨rfl, by rw [hU]; exact hP, va_K.moved hW.alike hK⟩⟩ rfl rfl hl.1 rfl (lv_room (Nat.le_of_ble_eq_true rfl)) dJx4a65c_add_7a177_2 ⟨by show 0 + 0 ≤ 1; omega, by show 0 + 0 ≤ N; omega⟩)) (fun er_1 => ?_)
    refine lv_aload_n hx hb dJx4a65c_add_7a177_5 rfl (lv_at hl 0 rfl) ?_
    refine lv_dup hx hb dJx4a65c_add_7a177_6 rfl ?_
    refine va_get (D := (dC, dI)) (ci := 2) (v := .int (st 12)) (C := RJx4a65c) (T := TJx4a65c) (N := 3) hx hb hts hin_Jx4a65c hown hK hP 3 rfl rfl 0 (by decide) (hts (.fieldLink RJx4a65c 63 "java/util/ArrayList" "modCount" "I") (by decide +kernel)) (u_same (hts (.sameField "java/util/ArrayList" "java/util/AbstractList" "modCount" "I") (by decide +kernel))) rfl dJx4a65c_add_7a177_7 ?_
    refine lv_iconst (v := 1) hx hb dJx4a65c_add_7a177_10 (by decide) ?_
    refine lv_iadd hx hb dJx4a65c_add_7a177_11 ?_
    refine lv_topi (fun v_2 ev_2 => ?_)
    clear ev_2
    refine va_put (D := (dC, dI)) (ci := 2) (v := .int v_2) (ty := .int) (C := RJx4a65c) (T := TJx4a65c) (N := 3) hx hb hts hin_Jx4a65c tyJx4a65c tyJx4a65c_ok nmJx4a65c hown hK hP (cw_D hD) hS 3 rfl rfl 0 (by decide) (hts (.fieldLink RJx4a65c 63 "java/util/ArrayList" "modCount" "I") (by decide +kernel)) (u_same (hts (.sameField "java/util/ArrayList" "java/util/AbstractList" "modCount" "I") (by decide +kernel))) rfl (by decide +kernel) rfl rfl (Nat.le_of_ble_eq_true rfl) dJx4a65c_add_7a177_12 (fun H locs hP _ hS => ?_)
    have hP : va_P (dC, dI) vwCl (cw_W c kc (rU st 12 v_2) lg ai al R) H := hP
    refine lv_aload_n hx hb dJx4a65c_add_7a177_15 rfl (lv_at hl 0 rfl) ?_
    refine va_get (D := (dC, dI)) (ci := 2) (v := .int (st 13)) (C := RJx4a65c) (T := TJx4a65c) (N := 3) hx hb hts hin_Jx4a65c hown hK hP 3 rfl rfl 2 (by decide) (hts (.fieldLink RJx4a65c 48 "java/util/ArrayList" "size" "I") (by decide +kernel)) (fun _ h9 => h9) rfl dJx4a65c_add_7a177_16 ?_
    refine lv_dup hx hb dJx4a65c_add_7a177_19 rfl ?_
    refine lv_istore_n (lv' := [(3, .int (st 13)), (0, .ref (c 103)), (1, .int p0), (2, .ref x)]) hx hb dJx4a65c_add_7a177_20 rfl hl (by decide) rfl (fun ls hl => ?_)
    refine lv_aload_n hx hb dJx4a65c_add_7a177_21 rfl (lv_at hl 1 rfl) ?_
    refine va_get (D := (dC, dI)) (ci := 2) (v := .ref (c 99)) (C := RJx4a65c) (T := TJx4a65c) (N := 3) hx hb hts hin_Jx4a65c hown hK hP 3 rfl rfl 1 (by decide) (hts (.fieldLink RJx4a65c 9 "java/util/ArrayList" "elementData" "[Ljava/lang/Object;") (by decide +kernel)) (fun _ h9 => h9) rfl dJx4a65c_add_7a177_22 ?_
    refine lv_dup hx hb dJx4a65c_add_7a177_25 rfl ?_
    refine lv_astore (lv' := [(4, .ref (c 99)), (3, .int (st 13)), (0, .ref (c 103)), (1, .int p0), (2, .ref x)]) hx hb dJx4a65c_add_7a177_26 hl (by decide) rfl (fun ls hl => ?_)
    obtain ⟨f9, hT9⟩ := (hY.2.2.2 hcap).2
    refine va_tlen (v := 0) hx hb hT9 hS rfl dJx4a65c_add_7a177_28 ?_
    refine lv_icmp_ne (tgt := 38) hx hb dJx4a65c_add_7a177_29 (by decide) (fun c_3 => ?_) (fun c_3 => ?_)
    · skip
      have ic_3 := iv_ne c_3
      exfalso
      omega
    · skip
      have ic_3 := iv_eq c_3
      refine lv_aload_n hx hb dJx4a65c_add_7a177_32 rfl (lv_at hl 2 rfl) ?_
      have hFc := vfree ((cw_D hD : va_D A (cw_W c kc (rU st 12 v_2) lg ai al R))) hS hA
      refine va_callq (va_runV (As := []) (rest := []) ⟨hx, hb, hml, hown, hts⟩ (v_grow0_0 l dC dI c kc (rU st 12 v_2) lg ai al R cap N a _ hn hcap hNN) (cwV 0 hts gJx4a65c_add_7a177_Jx4a65c_grow_d5877 rfl rfl rfl (by decide +kernel) ⟨(Nat.le_of_ble_eq_true rfl), (Nat.le_of_ble_eq_true rfl)⟩) ⟨fun a U g mk q => by obtain ⟨q0, q1, qP, qK, qD, qG⟩ := q; exact ⟨q0, q1, qP, va_K.moved (u := U) (U := U.calling g mk a) (Vm.Alike.refl U.vm) qK, qD, qG.same rfl rfl⟩, va_recv hK hP (ci := 2) (q := (RJx4a65c, TJx4a65c, 3)) rfl (q0 := 3) rfl, fun U hU hW => ⟨rfl, by rw [hU], by rw [hU]; exact hP, va_K.moved hW.alike hK, (cw_D hD).weaken (fun _ _ _ _ => trivial), hY.go hW hU hS hFc (fun h => ⟨h, rfl⟩)⟩⟩ rfl rfl hl.1 rfl (lv_room (Nat.le_of_ble_eq_true rfl)) dJx4a65c_add_7a177_33 ⟨by show 0 + 1 ≤ 1; omega, by show 0 + _ ≤ N; omega⟩) hS (fun q _ h => hFc q h) hFc (fun r u t H1 locs ht hvm er hB hz1 hk1 hS => ?_)
      subst er
      obtain ⟨q, a1, hu, ha1, hP1, hD1⟩ := hB
      subst hu
      rw [ht] at hP1
      clear hz1 hk1 hvm hP
      subst ht
      have hP := hP1
      have hD := hD1.weaken (fun _ _ _ h => hFc _ h)
      clear hP1 hD1 hFc
      generalize t.heap = H at hP hS ⊢
      refine W.eq (g2 := F0 m 36 ls [.ref q]) rfl ?_
      refine lv_astore (lv' := [(4, .ref q), (3, .int (st 13)), (0, .ref (c 103)), (1, .int p0), (2, .ref x)]) hx hb dJx4a65c_add_7a177_36 hl (by decide) rfl (fun ls hl => ?_)
      refine lv_aload hx hb dJx4a65c_add_7a177_38 (lv_at hl 0 rfl) ?_
      refine lv_iload_n hx hb dJx4a65c_add_7a177_40 rfl (lv_at hl 3 rfl) ?_
      refine lv_aload hx hb dJx4a65c_add_7a177_41 (lv_at hl 0 rfl) ?_
      refine lv_iload_n hx hb dJx4a65c_add_7a177_43 rfl (lv_at hl 3 rfl) ?_
      refine lv_iconst (v := 1) hx hb dJx4a65c_add_7a177_44 (by decide) ?_
      refine lv_iadd hx hb dJx4a65c_add_7a177_45 ?_
      refine lv_topi (fun v_4 ev_4 => ?_)
      have rg1 := iv_rng p0
      have hv_4 : v_4.toInt = p0.toInt + 1 := by rw [ev_4]; exact (iv_add (by omega) (by omega)).trans (by omega)
      clear ev_4
      refine lv_iload_n hx hb dJx4a65c_add_7a177_46 rfl (lv_at hl 1 rfl) ?_
      refine lv_iload_n hx hb dJx4a65c_add_7a177_47 rfl (lv_at hl 3 rfl) ?_
      refine lv_isub hx hb dJx4a65c_add_7a177_48 ?_
      refine lv_topi (fun v_5 ev_5 => ?_)
      have rg2 := iv_rng (st 13)
      have hv_5 : v_5.toInt = (st 13).toInt - p0.toInt := by rw [ev_5]; exact (iv_sub (by omega) (by omega)).trans (by omega)
      clear ev_5
      refine va_copyq (f := a1) (g := a1) (C := RX2) hx hb (hml.trans hl.1.symm) hown (hts (.methodLink RJx4a65c 112 arraycopyName) (by decide +kernel)) (hts (.native arraycopyName) (by decide +kernel)) (hts (.static arraycopyName) (by decide +kernel)) (hts (.initialized "java/lang/System") (by decide +kernel)) hK hP (cw_D hD) hS (26 + R.length) (26 + R.length) 18 18 (cw_at ap_0) (cw_at ap_0) rfl rfl (cp_n (by omega)) (cp_n (by omega)) (cp_n (by omega)) (cp_l (by omega) (by omega) (by omega)) (cp_l (by omega) (by omega) (by omega)) (fun i hi y hy => by have e1 : (p0.toNatClampNeg : Int) = p0.toInt := Int.toNat_of_nonneg (by omega); have e2 : (v_5.toNatClampNeg : Int) = v_5.toInt := Int.toNat_of_nonneg (by omega); exfalso; omega) (fun comp c0 h1 h2 => vb_asgC hZ.1 comp c0 h1 h2) (Nat.le_of_ble_eq_true rfl) (show ((([] : List Value).map fun v => v.category).sum + (nativeFrameWords "java/lang/System" "arraycopy" 5 + 11) ≤ 300) by decide +kernel) dJx4a65c_add_7a177_49 (fun H locs hP hD hS => ?_)
      generalize hcp : va_cpy a1 a1 p0.toNatClampNeg v_4.toNatClampNeg v_5.toNatClampNeg = a2 at hP hD
      rw [cw_set, ap_set] at hP hD
      refine lv_aload hx hb dJx4a65c_add_7a177_52 (lv_at hl 0 rfl) ?_
      refine lv_iload_n hx hb dJx4a65c_add_7a177_54 rfl (lv_at hl 3 rfl) ?_
      refine lv_aload_n hx hb dJx4a65c_add_7a177_55 rfl (lv_at hl 4 rfl) ?_
      refine va_astqO (f := a2) (n := N) (r := (RX2, TX2, 3)) hx hb hK hP (cw_D hD) hS (26 + R.length) 18 (26 + jx) 4 (cw_at ap_0) rfl hZ.1 (cw_at (ap_l hjx)) rfl (iv_in (i := p0) (by omega) (by omega)) dJx4a65c_add_7a177_56 (fun H locs hP hD hS => ?_)
      generalize hup : va_up a2 p0.toNatClampNeg (some x) = a9 at hP hD
      rw [cw_set, ap_set] at hP hD
      refine lv_aload_n hx hb dJx4a65c_add_7a177_57 rfl (lv_at hl 2 rfl) ?_
      refine lv_iload_n hx hb dJx4a65c_add_7a177_58 rfl (lv_at hl 1 rfl) ?_
      refine lv_iconst (v := 1) hx hb dJx4a65c_add_7a177_59 (by decide) ?_
      refine lv_iadd hx hb dJx4a65c_add_7a177_60 ?_
      refine lv_topi (fun v_6 ev_6 => ?_)
      have hv_6 : v_6.toInt = (st 13).toInt + 1 := by rw [ev_6]; exact (iv_add (by omega) (by omega)).trans (by omega)
      clear ev_6
      refine va_put (D := (dC, dI)) (ci := 2) (v := .int v_6) (ty := .int) (C := RJx4a65c) (T := TJx4a65c) (N := 3) hx hb hts hin_Jx4a65c tyJx4a65c tyJx4a65c_ok nmJx4a65c hown hK hP (cw_D hD) hS 3 rfl rfl 2 (by decide) (hts (.fieldLink RJx4a65c 48 "java/util/ArrayList" "size" "I") (by decide +kernel)) (fun _ h9 => h9) rfl (by decide +kernel) rfl rfl (Nat.le_of_ble_eq_true rfl) dJx4a65c_add_7a177_61 (fun H locs hP _ hS => ?_)
      have hP : va_P (dC, dI) vwCl (cw_W (rU c 99 q) kc (rU (rU st 12 v_2) 13 v_6) lg ai al (R ++ [pgR (kc 98) q N a9])) H := hP
      have hins := insR_i hcp hup (n := st 13) (by omega) (by omega) (by omega) (by omega)
      have hins := insR_to (b := a) hins (by show p0.toInt.toNat ≤ _; omega) (fun i hi => absurd hi (by omega))
      refine W.widen (k := 1) (n := N) (by show _ ≤ 1; omega) (by show _ ≤ N; omega) ?_
      exact W.vret hx hb hr (fun t ht hW => ⟨⟨(), rfl, trivial, q, v_2, v_6, a9, by omega, hins, by rw [ht]; exact hP, cw_D hD⟩, hS.F ht⟩) hS.2.2 dJx4a65c_add_7a177_64
  exact main s.heap [] hP hS

set_option maxHeartbeats 4000000 in
set_option maxRecDepth 100000 in
theorem v_add_1 (l : Launch) (dC : Nat → ClassId) (dI : Nat → Nat → Nat) (c : Nat → Nat) (kc : Nat → ClassId) (st : Nat → Int32) (lg : Nat → Int64) (ai : Nat → Nat → Int32) (al : Nat → Nat → Int64) (R : va_W) (cap N : Nat) (a : Nat → Option Nat) (x jx : Nat) (fs : List Value) (p0 : Int32) (sz : Nat) (hjx : R[jx]? = some (x, .inr (4, fs))) (h0 : 0 ≤ p0.toInt) (h1 : p0.toInt ≤ (st 13).toInt) (hn2 : (st 13).toInt ≤ 65536) (hn : (st 13).toInt = (cap : Int)) (hcap : 10 ≤ cap) (hcap2 : cap ≤ 65536) (hNN : N = cap + cap / 2) (j : Nat) (hj : R[j]? = some (pgR (kc 98) (c 99) cap a)) (hel : ∀ i : Nat, i < cap → ∀ y : Nat, a i = some y → ∃ (k : Nat) (fs : List Value), R[k]? = some (y, .inr (4, fs))) : Met l yJx4a65c_add_7a177 wsJx4a65c_add_7a177 ({ frames := 5, cells := 1, slots := N, locals := 300 }) (va_Pc [.ref (c 103), .int p0, .ref x] (fun U => U.heap.size = sz ∧ va_P (dC, dI) vwCl (cw_W c kc st lg ai al R) U.heap ∧ va_K (dC, dI) vwCl (cw_T kc) U ∧ va_D (fun _ => True) (cw_W c kc st lg ai al R) ∧ gy_E cap (c 99) (va_A (cw_W c kc st lg ai al R) sz) U)) (va_Qv (fun (_ : Unit) => True) (fun _ t => ∃ (q : Nat) (x12 x13 : Int32) (a9 : Nat → Option Nat), x13.toInt = (st 13).toInt + 1 ∧ insR a a9 p0.toNatClampNeg (st 13).toInt.toNat x ∧ va_P (dC, dI) vwCl (cw_W (rU c 99 q) kc (rU (rU st 12 x12) 13 x13) lg ai al (R ++ [pgR (kc 98) q N a9])) t.heap ∧ va_D (va_A (cw_W c kc st lg ai al R) sz) (cw_W (rU c 99 q) kc st lg ai al (R ++ [pgR (kc 98) q N a9]))) (va_A (cw_W c kc st lg ai al R) sz)) 1 N (va_A (cw_W c kc st lg ai al R) sz) := by
  refine Met.ofW (cc := cJx4a65c_add_7a177) (maxL := 5) (ret := none) (by decide) rfl ?_
  intro p e s m args below meth cM s₁ B hml hv
  obtain ⟨rfl, hsz, hP, hK, hD0, hY⟩ := hv
  have hx := B.exec
  have hb := B.bytes
  have hr := B.returns
  have hts := atoms_spec (ws := wsJx4a65c_add_7a177) B.pre
  have hown : s.vm.findClass RJx4a65c = some m.cls := findClass_of_methodNamed B.named
  subst hsz
  have hD := hD0.self (sz := s.heap.size)
  generalize hAe : va_A (cw_W c kc st lg ai al R) s.heap.size = A at hD hY ⊢
  have hA : ∀ q : Nat, s.heap.size ≤ q → A q := fun q h => by rw [← hAe]; exact Or.inr h
  have hS : va_S A s.heap s.heap [] := va_S.rf
  clear hAe hD0
  have hl := lv_entry ([.ref (c 103), .int p0, .ref x]) (n := 5) (Nat.le_of_ble_eq_true rfl)
  rw [lg_entry_eq]
  generalize (lg_sl ([.ref (c 103), .int p0, .ref x]) ++ List.replicate (5 - (lg_sl ([.ref (c 103), .int p0, .ref x])).length) Slot.unset).toArray = ls at hl ⊢
  have hl : lv_has ls 5 [(0, .ref (c 103)), (1, .int p0), (2, .ref x)] := hl
  have z_0 : (0 : Int32).toInt = 0 := by decide
  have z_1 : (1 : Int32).toInt = 1 := by decide
  have hin_Jx4a65c : ∀ w ∈ u_ws RJx4a65c TJx4a65c 3, w ∈ wsJx4a65c_add_7a177 := by decide +kernel
  have main : ∀ (H : Heap) (locs : List Loc), va_P (dC, dI) vwCl (cw_W c kc st lg ai al R) H → va_S A s.heap H locs → W p l e (headSpec wsJx4a65c_add_7a177 ({ frames := 5, cells := 1, slots := N, locals := 300 })).room s m ([.ref (c 103), .int p0, .ref x] : List Value).toArray below meth cM H locs 0 0 (MQ below (va_Qv (fun (_ : Unit) => True) (fun _ t => ∃ (q : Nat) (x12 x13 : Int32) (a9 : Nat → Option Nat), x13.toInt = (st 13).toInt + 1 ∧ insR a a9 p0.toNatClampNeg (st 13).toInt.toNat x ∧ va_P (dC, dI) vwCl (cw_W (rU c 99 q) kc (rU (rU st 12 x12) 13 x13) lg ai al (R ++ [pgR (kc 98) q N a9])) t.heap ∧ va_D A (cw_W (rU c 99 q) kc st lg ai al (R ++ [pgR (kc 98) q N a9]))) A) ([.ref (c 103), .int p0, .ref x] : List Value).toArray s 1 N A) (F0 m 0 ls []) := by
    intro H locs hP hS
    obtain ⟨mi, hZ⟩ := hY.2.1
    refine lv_aload_n hx hb dJx4a65c_add_7a177_0 rfl (lv_at hl 0 rfl) ?_
    refine lv_iload_n hx hb dJx4a65c_add_7a177_1 rfl (lv_at hl 1 rfl) ?_
    refine va_csv (va_Run.run (va_runV (As := [.int p0]) (rest := []) ⟨hx, hb, hml, hown, hts⟩ (v_Jx4a65c_rangeCheckForAdd_d00df l dC dI c kc st lg ai al R p0 (show 0 ≤ (st 13).toInt by omega) (show (st 13).toInt ≤ 65536 by omega) (by omega) (show p0.toInt ≤ (st 13).toInt by omega)) (cwV 1 hts gJx4a65c_add_7a177_Jx4a65c_rangeCheckForAdd_d00df rfl rfl rfl (by decide +kernel) ⟨Nat.le_of_ble_eq_true rfl, Nat.le_of_ble_eq_true rfl⟩) ⟨fun a U g mk q => by obtain ⟨q0, qP, qK⟩ := q; exact ⟨q0, qP, va_K.moved (u := U) (U := U.calling g mk a) (Vm.Alike.refl U.vm) qK⟩, va_recv hK hP (ci := 2) (q := (RJx4a65c, TJx4a65c, 3)) rfl (q0 := 3) rfl, fun U hU hW => ⟨rfl, by rw [hU]; exact hP, va_K.moved hW.alike hK⟩⟩ rfl rfl hl.1 rfl (lv_room (Nat.le_of_ble_eq_true rfl)) dJx4a65c_add_7a177_2 ⟨by show 0 + 0 ≤ 1; omega, by show 0 + 0 ≤ N; omega⟩)) (fun er_1 => ?_)
    refine lv_aload_n hx hb dJx4a65c_add_7a177_5 rfl (lv_at hl 0 rfl) ?_
    refine lv_dup hx hb dJx4a65c_add_7a177_6 rfl ?_
    refine va_get (D := (dC, dI)) (ci := 2) (v := .int (st 12)) (C := RJx4a65c) (T := TJx4a65c) (N := 3) hx hb hts hin_Jx4a65c hown hK hP 3 rfl rfl 0 (by decide) (hts (.fieldLink RJx4a65c 63 "java/util/ArrayList" "modCount" "I") (by decide +kernel)) (u_same (hts (.sameField "java/util/ArrayList" "java/util/AbstractList" "modCount" "I") (by decide +kernel))) rfl dJx4a65c_add_7a177_7 ?_
    refine lv_iconst (v := 1) hx hb dJx4a65c_add_7a177_10 (by decide) ?_
    refine lv_iadd hx hb dJx4a65c_add_7a177_11 ?_
    refine lv_topi (fun v_2 ev_2 => ?_)
    clear ev_2
    refine va_put (D := (dC, dI)) (ci := 2) (v := .int v_2) (ty := .int) (C := RJx4a65c) (T := TJx4a65c) (N := 3) hx hb hts hin_Jx4a65c tyJx4a65c tyJx4a65c_ok nmJx4a65c hown hK hP (cw_D hD) hS 3 rfl rfl 0 (by decide) (hts (.fieldLink RJx4a65c 63 "java/util/ArrayList" "modCount" "I") (by decide +kernel)) (u_same (hts (.sameField "java/util/ArrayList" "java/util/AbstractList" "modCount" "I") (by decide +kernel))) rfl (by decide +kernel) rfl rfl (Nat.le_of_ble_eq_true rfl) dJx4a65c_add_7a177_12 (fun H locs hP _ hS => ?_)
    have hP : va_P (dC, dI) vwCl (cw_W c kc (rU st 12 v_2) lg ai al R) H := hP
    refine lv_aload_n hx hb dJx4a65c_add_7a177_15 rfl (lv_at hl 0 rfl) ?_
    refine va_get (D := (dC, dI)) (ci := 2) (v := .int (st 13)) (C := RJx4a65c) (T := TJx4a65c) (N := 3) hx hb hts hin_Jx4a65c hown hK hP 3 rfl rfl 2 (by decide) (hts (.fieldLink RJx4a65c 48 "java/util/ArrayList" "size" "I") (by decide +kernel)) (fun _ h9 => h9) rfl dJx4a65c_add_7a177_16 ?_
    refine lv_dup hx hb dJx4a65c_add_7a177_19 rfl ?_
    refine lv_istore_n (lv' := [(3, .int (st 13)), (0, .ref (c 103)), (1, .int p0), (2, .ref x)]) hx hb dJx4a65c_add_7a177_20 rfl hl (by decide) rfl (fun ls hl => ?_)
    refine lv_aload_n hx hb dJx4a65c_add_7a177_21 rfl (lv_at hl 1 rfl) ?_
    refine va_get (D := (dC, dI)) (ci := 2) (v := .ref (c 99)) (C := RJx4a65c) (T := TJx4a65c) (N := 3) hx hb hts hin_Jx4a65c hown hK hP 3 rfl rfl 1 (by decide) (hts (.fieldLink RJx4a65c 9 "java/util/ArrayList" "elementData" "[Ljava/lang/Object;") (by decide +kernel)) (fun _ h9 => h9) rfl dJx4a65c_add_7a177_22 ?_
    refine lv_dup hx hb dJx4a65c_add_7a177_25 rfl ?_
    refine lv_astore (lv' := [(4, .ref (c 99)), (3, .int (st 13)), (0, .ref (c 103)), (1, .int p0), (2, .ref x)]) hx hb dJx4a65c_add_7a177_26 hl (by decide) rfl (fun ls hl => ?_)
    refine va_alen (v := Int32.ofNat cap) hx hb hK hP (26 + j) 18 (cw_at hj) rfl rfl dJx4a65c_add_7a177_28 ?_
    refine lv_topi (fun v_3 ev_3 => ?_)
    have hv_3 := ofn_i ev_3 (by omega)
    refine lv_icmp_ne (tgt := 38) hx hb dJx4a65c_add_7a177_29 (by decide) (fun c_4 => ?_) (fun c_4 => ?_)
    · skip
      have ic_4 := iv_ne c_4
      exfalso
      omega
    · skip
      have ic_4 := iv_eq c_4
      refine lv_aload_n hx hb dJx4a65c_add_7a177_32 rfl (lv_at hl 2 rfl) ?_
      have hFc := vfree ((cw_D hD : va_D A (cw_W c kc (rU st 12 v_2) lg ai al R))) hS hA
      refine va_callq (va_runV (As := []) (rest := []) ⟨hx, hb, hml, hown, hts⟩ (v_grow0_1 l dC dI c kc (rU st 12 v_2) lg ai al R cap N a _ hn hcap hcap2 hNN j hj hel) (cwV 0 hts gJx4a65c_add_7a177_Jx4a65c_grow_d5877 rfl rfl rfl (by decide +kernel) ⟨(Nat.le_of_ble_eq_true rfl), (Nat.le_of_ble_eq_true rfl)⟩) ⟨fun a U g mk q => by obtain ⟨q0, q1, qP, qK, qD, qG⟩ := q; exact ⟨q0, q1, qP, va_K.moved (u := U) (U := U.calling g mk a) (Vm.Alike.refl U.vm) qK, qD, qG.same rfl rfl⟩, va_recv hK hP (ci := 2) (q := (RJx4a65c, TJx4a65c, 3)) rfl (q0 := 3) rfl, fun U hU hW => ⟨rfl, by rw [hU], by rw [hU]; exact hP, va_K.moved hW.alike hK, (cw_D hD).weaken (fun _ _ _ _ => trivial), hY.go hW hU hS hFc (fun h => ⟨h, rfl⟩)⟩⟩ rfl rfl hl.1 rfl (lv_room (Nat.le_of_ble_eq_true rfl)) dJx4a65c_add_7a177_33 ⟨by show 0 + 1 ≤ 1; omega, by show 0 + _ ≤ N; omega⟩) hS (fun q _ h => hFc q h) hFc (fun r u t H1 locs ht hvm er hB hz1 hk1 hS => ?_)
      subst er
      obtain ⟨q, a1, hu, ha1, hP1, hD1⟩ := hB
      subst hu
      rw [ht] at hP1
      clear hz1 hk1 hvm hP
      subst ht
      have hP := hP1
      have hD := hD1.weaken (fun _ _ _ h => hFc _ h)
      clear hP1 hD1 hFc
      generalize t.heap = H at hP hS ⊢
      refine W.eq (g2 := F0 m 36 ls [.ref q]) rfl ?_
      refine lv_astore (lv' := [(4, .ref q), (3, .int (st 13)), (0, .ref (c 103)), (1, .int p0), (2, .ref x)]) hx hb dJx4a65c_add_7a177_36 hl (by decide) rfl (fun ls hl => ?_)
      refine lv_aload hx hb dJx4a65c_add_7a177_38 (lv_at hl 0 rfl) ?_
      refine lv_iload_n hx hb dJx4a65c_add_7a177_40 rfl (lv_at hl 3 rfl) ?_
      refine lv_aload hx hb dJx4a65c_add_7a177_41 (lv_at hl 0 rfl) ?_
      refine lv_iload_n hx hb dJx4a65c_add_7a177_43 rfl (lv_at hl 3 rfl) ?_
      refine lv_iconst (v := 1) hx hb dJx4a65c_add_7a177_44 (by decide) ?_
      refine lv_iadd hx hb dJx4a65c_add_7a177_45 ?_
      refine lv_topi (fun v_5 ev_5 => ?_)
      have rg1 := iv_rng p0
      have hv_5 : v_5.toInt = p0.toInt + 1 := by rw [ev_5]; exact (iv_add (by omega) (by omega)).trans (by omega)
      clear ev_5
      refine lv_iload_n hx hb dJx4a65c_add_7a177_46 rfl (lv_at hl 1 rfl) ?_
      refine lv_iload_n hx hb dJx4a65c_add_7a177_47 rfl (lv_at hl 3 rfl) ?_
      refine lv_isub hx hb dJx4a65c_add_7a177_48 ?_
      refine lv_topi (fun v_6 ev_6 => ?_)
      have rg2 := iv_rng (st 13)
      have hv_6 : v_6.toInt = (st 13).toInt - p0.toInt := by rw [ev_6]; exact (iv_sub (by omega) (by omega)).trans (by omega)
      clear ev_6
      refine va_copyq (f := a1) (g := a1) (C := RX2) hx hb (hml.trans hl.1.symm) hown (hts (.methodLink RJx4a65c 112 arraycopyName) (by decide +kernel)) (hts (.native arraycopyName) (by decide +kernel)) (hts (.static arraycopyName) (by decide +kernel)) (hts (.initialized "java/lang/System") (by decide +kernel)) hK hP (cw_D hD) hS (26 + R.length) (26 + R.length) 18 18 (cw_at ap_0) (cw_at ap_0) rfl rfl (cp_n (by omega)) (cp_n (by omega)) (cp_n (by omega)) (cp_l (by omega) (by omega) (by omega)) (cp_l (by omega) (by omega) (by omega)) (fun i hi y hy => by have e1 : (p0.toNatClampNeg : Int) = p0.toInt := Int.toNat_of_nonneg (by omega); have e2 : (v_6.toNatClampNeg : Int) = v_6.toInt := Int.toNat_of_nonneg (by omega); rw [ha1 (p0.toNatClampNeg + i) (by omega)] at hy; obtain ⟨k9, fs9, hk9⟩ := hel (p0.toNatClampNeg + i) (by omega) y hy; exact va_recv hK hP (ci := 4) (q := (RX2, TX2, 3)) rfl (q0 := 26 + k9) (cw_at (ap_l hk9))) (fun comp c0 h1 h2 => vb_asgC hZ.1 comp c0 h1 h2) (Nat.le_of_ble_eq_true rfl) (show ((([] : List Value).map fun v => v.category).sum + (nativeFrameWords "java/lang/System" "arraycopy" 5 + 11) ≤ 300) by decide +kernel) dJx4a65c_add_7a177_49 (fun H locs hP hD hS => ?_)
      generalize hcp : va_cpy a1 a1 p0.toNatClampNeg v_5.toNatClampNeg v_6.toNatClampNeg = a2 at hP hD
      rw [cw_set, ap_set] at hP hD
      refine lv_aload hx hb dJx4a65c_add_7a177_52 (lv_at hl 0 rfl) ?_
      refine lv_iload_n hx hb dJx4a65c_add_7a177_54 rfl (lv_at hl 3 rfl) ?_
      refine lv_aload_n hx hb dJx4a65c_add_7a177_55 rfl (lv_at hl 4 rfl) ?_
      refine va_astqO (f := a2) (n := N) (r := (RX2, TX2, 3)) hx hb hK hP (cw_D hD) hS (26 + R.length) 18 (26 + jx) 4 (cw_at ap_0) rfl hZ.1 (cw_at (ap_l hjx)) rfl (iv_in (i := p0) (by omega) (by omega)) dJx4a65c_add_7a177_56 (fun H locs hP hD hS => ?_)
      generalize hup : va_up a2 p0.toNatClampNeg (some x) = a9 at hP hD
      rw [cw_set, ap_set] at hP hD
      refine lv_aload_n hx hb dJx4a65c_add_7a177_57 rfl (lv_at hl 2 rfl) ?_
      refine lv_iload_n hx hb dJx4a65c_add_7a177_58 rfl (lv_at hl 1 rfl) ?_
      refine lv_iconst (v := 1) hx hb dJx4a65c_add_7a177_59 (by decide) ?_
      refine lv_iadd hx hb dJx4a65c_add_7a177_60 ?_
      refine lv_topi (fun v_7 ev_7 => ?_)
      have hv_7 : v_7.toInt = (st 13).toInt + 1 := by rw [ev_7]; exact (iv_add (by omega) (by omega)).trans (by omega)
      clear ev_7
      refine va_put (D := (dC, dI)) (ci := 2) (v := .int v_7) (ty := .int) (C := RJx4a65c) (T := TJx4a65c) (N := 3) hx hb hts hin_Jx4a65c tyJx4a65c tyJx4a65c_ok nmJx4a65c hown hK hP (cw_D hD) hS 3 rfl rfl 2 (by decide) (hts (.fieldLink RJx4a65c 48 "java/util/ArrayList" "size" "I") (by decide +kernel)) (fun _ h9 => h9) rfl (by decide +kernel) rfl rfl (Nat.le_of_ble_eq_true rfl) dJx4a65c_add_7a177_61 (fun H locs hP _ hS => ?_)
      have hP : va_P (dC, dI) vwCl (cw_W (rU c 99 q) kc (rU (rU st 12 v_2) 13 v_7) lg ai al (R ++ [pgR (kc 98) q N a9])) H := hP
      have hins := insR_i hcp hup (n := st 13) (by omega) (by omega) (by omega) (by omega)
      have hins := insR_to hins (by show p0.toInt.toNat ≤ _; omega) (fun i hi => ha1 i (by omega))
      refine W.widen (k := 1) (n := N) (by show _ ≤ 1; omega) (by show _ ≤ N; omega) ?_
      exact W.vret hx hb hr (fun t ht hW => ⟨⟨(), rfl, trivial, q, v_2, v_7, a9, by omega, hins, by rw [ht]; exact hP, cw_D hD⟩, hS.F ht⟩) hS.2.2 dJx4a65c_add_7a177_64
  exact main s.heap [] hP hS
