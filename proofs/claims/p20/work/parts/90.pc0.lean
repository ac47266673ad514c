set_option maxHeartbeats 4000000 in
set_option maxRecDepth 100000 in
theorem v_X1_touch (l : Launch) (dC : Nat → ClassId) (dI : Nat → Nat → Nat) (c : Nat → Nat) (kc : Nat → ClassId) (st : Nat → Int32) (lg : Nat → Int64) (ai : Nat → Nat → Int32) (al : Nat → Nat → Int64) (R : va_W) (cap : Nat) (num : Nat → Int32) (p0 : Int32) (sz tz : Nat) (hPI : PI (kc 98) (kc 0) (c 99) (st 13) cap num none R) (hN : NI cap (st 13)) (hf13a : 0 ≤ (st 13).toInt) (hf13b : (st 13).toInt ≤ 65536) (hq0 : 0 ≤ p0.toInt) (hq1 : p0.toInt < 65536) : Met l yX1_touch wsX1_touch ({ frames := 7, cells := 3, slots := 98400, locals := 400 }) (va_Pc [.ref (c 102), .int p0] (fun U => U.heap.size = sz ∧ tot U.heap = tz ∧ va_P (dC, dI) vwCl (cw_W c kc st lg ai al R) U.heap ∧ va_K (dC, dI) vwCl (cw_T kc) U ∧ va_D (fun _ => True) (cw_W c kc st lg ai al R) ∧ gy_E cap (c 99) (va_A (cw_W c kc st lg ai al R) sz) U)) (va_Qq (fun r (u : Option Nat) => r = u) (fun u t => ∃ (x12 : Int32) (x13 : Int32) (e9 cap9 : Nat) (num9 : Nat → Int32) (R9 : va_W), (0 ≤ x13.toInt) ∧ (x13.toInt ≤ 65536) ∧ (∀ x, u = some x → ∃ m, pgM (kc 0) R9 x m ∧ m.toInt = p0.toInt) ∧ (u ≠ none) ∧ (thr num (st 13) p0 → x13.toInt = (st 13).toInt) ∧ (thr num9 x13 p0) ∧ (PI (kc 98) (kc 0) e9 x13 cap9 num9 none R9) ∧ (∀ y m, pgM (kc 0) R y m → pgM (kc 0) R9 y m) ∧ (va_D (va_A (cw_W c kc st lg ai al R) sz) (cw_W (rU c 99 e9) kc (rU (rU st 12 x12) 13 x13) lg ai al R9)) ∧ (NI cap9 x13) ∧ (cap9 = 0 → cap = 0 ∧ e9 = c 99) ∧ (cap ≤ cap9) ∧ ((st 13).toInt ≤ x13.toInt) ∧ (x13.toInt ≤ (st 13).toInt + 1) ∧ (((t.heap.size : Nat) : Int) ≤ ((sz : Nat) : Int) + 0 + 3 * (x13.toInt - (st 13).toInt)) ∧ (((tot t.heap : Nat) : Int) ≤ ((tz : Nat) : Int) + 0 + 29 * (x13.toInt - (st 13).toInt) + 4 * (((cap9 : Nat) : Int) - ((cap : Nat) : Int))) ∧ va_P (dC, dI) vwCl (cw_W (rU c 99 e9) kc (rU (rU st 12 x12) 13 x13) lg ai al R9) t.heap) (va_A (cw_W c kc st lg ai al R) sz)) 3 98400 (va_A (cw_W c kc st lg ai al R) sz) := by
  refine Met.ofW (cc := cX1_touch) (maxL := 4) (ret := (some (.object "BlockLog$Page"))) (by decide) rfl ?_
  intro p e s m args below meth cM s₁ B hml hv
  obtain ⟨rfl, hsz, htz, hP, hK, hD0, hY⟩ := hv
  have hx := B.exec
  have hb := B.bytes
  have hr := B.returns
  have hts := atoms_spec (ws := wsX1_touch) B.pre
  have hown : s.vm.findClass RX1 = some m.cls := findClass_of_methodNamed B.named
  have hG0 := hY.1
  have hGW := hG0.1
  subst hsz
  subst htz
  clear hG0
  have hD := hD0.self (sz := s.heap.size)
  generalize hAe : va_A (cw_W c kc st lg ai al R) s.heap.size = A at hD hY ⊢
  have hA : ∀ q : Nat, s.heap.size ≤ q → A q := fun q h => by rw [← hAe]; exact Or.inr h
  have hS : va_S A s.heap s.heap [] := va_S.rf
  clear hAe hD0
  have hl := lv_entry ([.ref (c 102), .int p0]) (n := 4) (Nat.le_of_ble_eq_true rfl)
  rw [lg_entry_eq]
  generalize (lg_sl ([.ref (c 102), .int p0]) ++ List.replicate (4 - (lg_sl ([.ref (c 102), .int p0])).length) Slot.unset).toArray = ls at hl ⊢
  have hl : lv_has ls 4 [(0, .ref (c 102)), (1, .int p0)] := hl
  have z_1 : (1 : Int32).toInt = 1 := by decide
  have hin_X1 : ∀ w ∈ u_ws RX1 TX1 7, w ∈ wsX1_touch := by decide +kernel
  have hin_X2 : ∀ w ∈ u_ws RX2 TX2 3, w ∈ wsX1_touch := by decide +kernel
  have hmono : ∀ y m, pgM (kc 0) R y m → pgM (kc 0) R y m := fun y m h => h
  have hG := hY.1
  have hP : va_P (dC, dI) vwCl (cw_W (rU c 99 (c 99)) kc st lg ai al R) s.heap := by rw [rU_self]; exact hP
  have hD : va_D A (cw_W (rU c 99 (c 99)) kc st lg ai al R) := by rw [rU_self]; exact hD
  have hc0 : cap = 0 → cap = 0 ∧ c 99 = c 99 := fun h => ⟨h, rfl⟩
  have hcp : cap ≤ cap := Nat.le_refl _
  have hN1 : ((cap : Nat) : Int) ≤ 10 + 2 * (st 13).toInt := hN.1
  have main : ∀ (H : Heap) (locs : List Loc), va_P (dC, dI) vwCl (cw_W (rU c 99 (c 99)) kc st lg ai al R) H → va_S A s.heap H locs → W p l e (headSpec wsX1_touch ({ frames := 7, cells := 3, slots := 98400, locals := 400 })).room s m ([.ref (c 102), .int p0] : List Value).toArray below meth cM H locs 0 0 (MQ below (va_Qq (fun r (u : Option Nat) => r = u) (fun u t => ∃ (x12 : Int32) (x13 : Int32) (e9 cap9 : Nat) (num9 : Nat → Int32) (R9 : va_W), (0 ≤ x13.toInt) ∧ (x13.toInt ≤ 65536) ∧ (∀ x, u = some x → ∃ m, pgM (kc 0) R9 x m ∧ m.toInt = p0.toInt) ∧ (u ≠ none) ∧ (thr num (st 13) p0 → x13.toInt = (st 13).toInt) ∧ (thr num9 x13 p0) ∧ (PI (kc 98) (kc 0) e9 x13 cap9 num9 none R9) ∧ (∀ y m, pgM (kc 0) R y m → pgM (kc 0) R9 y m) ∧ (va_D A (cw_W (rU c 99 e9) kc (rU (rU st 12 x12) 13 x13) lg ai al R9)) ∧ (NI cap9 x13) ∧ (cap9 = 0 → cap = 0 ∧ e9 = c 99) ∧ (cap ≤ cap9) ∧ ((st 13).toInt ≤ x13.toInt) ∧ (x13.toInt ≤ (st 13).toInt + 1) ∧ (((t.heap.size : Nat) : Int) ≤ ((s.heap.size : Nat) : Int) + 0 + 3 * (x13.toInt - (st 13).toInt)) ∧ (((tot t.heap : Nat) : Int) ≤ ((tot s.heap : Nat) : Int) + 0 + 29 * (x13.toInt - (st 13).toInt) + 4 * (((cap9 : Nat) : Int) - ((cap : Nat) : Int))) ∧ va_P (dC, dI) vwCl (cw_W (rU c 99 e9) kc (rU (rU st 12 x12) 13 x13) lg ai al R9) t.heap) A) ([.ref (c 102), .int p0] : List Value).toArray s 3 98400 A) (F0 m 0 ls []) := by
    intro H locs hP hS
    refine lv_aload_n hx hb dX1_touch_0 rfl (lv_at hl 0 rfl) ?_
    refine lv_iload_n hx hb dX1_touch_1 rfl (lv_at hl 1 rfl) ?_
    refine vp_callSi (va_Run.run (va_runV (As := [.int p0]) (rest := []) ⟨hx, hb, hml, hown, hts⟩ (v_X1_position l dC dI (rU c 99 (c 99)) kc st lg ai al R cap num p0 hPI (show 0 ≤ (st 13).toInt by omega) (show (st 13).toInt ≤ 65536 by omega)) (cwV 1 hts gX1_touch_X1_position rfl rfl rfl (by decide +kernel) ⟨Nat.le_of_ble_eq_true rfl, Nat.le_of_ble_eq_true rfl⟩) ⟨fun a U g mk q => by obtain ⟨q0, qP, qK, qG⟩ := q; exact ⟨q0, qP, va_K.moved (u := U) (U := U.calling g mk a) (Vm.Alike.refl U.vm) qK, qG.same rfl⟩, va_recv hK hP (ci := 3) (q := (RX1, TX1, 7)) rfl (q0 := 2) rfl, fun U hU hW => ⟨rfl, by rw [hU]; exact hP, va_K.moved hW.alike hK, hGW.warm hW⟩⟩ rfl rfl hl.1 rfl (lv_room (Nat.le_of_ble_eq_true rfl)) dX1_touch_2 ⟨by show 0 + 0 ≤ 3; omega, by show 0 + 0 ≤ 98400; omega⟩)) (fun r_1 er_1 => ?_)
    obtain ⟨k_2, k_3, hlo, hhi⟩ := er_1
    have k_3 : r_1.toInt ≤ (st 13).toInt := k_3
    have hlo : loI num r_1 p0 := hlo
    have hhi : hiI num r_1 (st 13) p0 := hhi
    refine lv_istore_n (lv' := [(2, .int r_1), (0, .ref (c 102)), (1, .int p0)]) hx hb dX1_touch_5 rfl hl (by decide) rfl (fun ls hl => ?_)
    refine lv_iload_n hx hb dX1_touch_6 rfl (lv_at hl 0 rfl) ?_
    refine lv_aload_n hx hb dX1_touch_7 rfl (lv_at hl 1 rfl) ?_
    refine va_get (D := (dC, dI)) (ci := 3) (v := .ref (c 103)) (C := RX1) (T := TX1) (N := 7) hx hb hts hin_X1 hown hK hP 2 rfl rfl 3 (by decide) (hts (.fieldLink RX1 25 "BlockLog$Disk" "touched" "Ljava/util/ArrayList;") (by decide +kernel)) (fun _ h9 => h9) rfl dX1_touch_8 ?_
    refine vp_callSi (va_Run.run (va_runV (As := []) (rest := [.int r_1]) ⟨hx, hb, hml, hown, hts⟩ (v_Jx4a65c_size_8abf5 l dC dI (rU c 99 (c 99)) kc st lg ai al R  (show 0 ≤ (st 13).toInt by omega) (show (st 13).toInt ≤ 65536 by omega)) (cwV 0 hts gX1_touch_Jx4a65c_size_8abf5 rfl rfl rfl (by decide +kernel) ⟨Nat.le_of_ble_eq_true rfl, Nat.le_of_ble_eq_true rfl⟩) ⟨fun a U g mk q => by obtain ⟨q0, qP, qK⟩ := q; exact ⟨q0, qP, va_K.moved (u := U) (U := U.calling g mk a) (Vm.Alike.refl U.vm) qK⟩, va_recv hK hP (ci := 2) (q := (RJx4a65c, TJx4a65c, 3)) rfl (q0 := 3) rfl, fun U hU hW => ⟨rfl, by rw [hU]; exact hP, va_K.moved hW.alike hK⟩⟩ rfl rfl hl.1 rfl (lv_room (Nat.le_of_ble_eq_true rfl)) dX1_touch_11 ⟨by show 0 + 0 ≤ 3; omega, by show 0 + 0 ≤ 98400; omega⟩)) (fun r_4 er_4 => ?_)
    have k_5 := er_4
    have k_5 : r_4.toInt = (st 13).toInt := k_5
    refine lv_icmp_ge (tgt := 47) hx hb dX1_touch_14 (by decide) (fun c_6 => ?_) (fun c_6 => ?_)
    · skip
      have ic_6 := iv_le c_6
      have hne : r_1.toInt < (st 13).toInt → (num r_1.toNatClampNeg).toInt ≠ p0.toInt := by first | exact fun h => absurd h (by omega) | exact fun _ => by rw [← hQ]; omega
      have hno := thr_no hPI.2.2.2.2.1 hlo hhi hne (by omega)
      obtain ⟨n1, hn1⟩ : ∃ z : Int32, z.toInt = (st 13).toInt + 1 := ⟨st 13 + 1, (iv_add (by omega) (by omega)).trans (by omega)⟩
      have hrise : ∀ n1 : Int32, n1.toInt = (st 13).toInt + 1 → ∀ a b : Nat, a < b → (b : Int) < n1.toInt → (ins num r_1.toNatClampNeg p0 a).toInt < (ins num r_1.toNatClampNeg p0 b).toInt := fun n1 hn1 => ins_rise hPI.2.2.2.2.1 hlo hhi hne (by omega) (by omega) hn1
      have hrg : ∀ n1 : Int32, n1.toInt = (st 13).toInt + 1 → ∀ j : Nat, (j : Int) < n1.toInt → 0 ≤ (ins num r_1.toNatClampNeg p0 j).toInt ∧ (ins num r_1.toNatClampNeg p0 j).toInt < 65536 := fun n1 hn1 => ins_rg hPI.2.2.2.2.2.2.2 (by omega) (by omega) hn1 (by omega) (by omega)
      have hn65 : (st 13).toInt < 65536 := by
        have a1 := rise_ge (hrise n1 hn1) (fun j hj => (hrg n1 hn1 j hj).1) (st 13).toInt.toNat (by omega)
        have a2 := (hrg n1 hn1 (st 13).toInt.toNat (by omega)).2
        omega
      refine va_new (D := (dC, dI)) (cl := vwCl) (ci := 4) (C := RX2) (T := TX2) (N := 3) (fs := [.int 0, .null, .int 0]) hx hb hts hin_X2 tyX2 tyX2_ok hown (hts (.classLink RX1 44 RX2) (by decide +kernel)) (hts (.instantiable RX2 3) (by decide +kernel)) (hts (.initialized RX2) (by decide +kernel)) hK hP hD hS hA rfl (by decide +kernel) (Nat.le_of_ble_eq_true rfl) (Nat.le_of_ble_eq_true rfl) dX1_touch_47 (fun x H hP hD hS => ?_)
      refine lv_dup hx hb dX1_touch_50 rfl ?_
      refine lv_iload_n hx hb dX1_touch_51 rfl (lv_at hl 2 rfl) ?_
      have hFc := vfree hD hS hA
      refine va_callv (va_runI (As := [.int p0]) (rest := [.ref x]) ⟨hx, hb, hml, hown, hts⟩ (v_X2_init l dC dI (cw_W (rU c 99 (c 99)) kc st lg ai al R ++ [(x, Sum.inr (4, [Value.int 0, Value.null, Value.int 0]))]) (cw_T kc) x (cw_W (rU c 99 (c 99)) kc st lg ai al R).length 0 (kc 0) p0 _ ap_0 rfl) (cwI 1 hts gX1_touch_X2_init rfl rfl rfl (hts (.initialized RX2) (by decide +kernel)) (hts (.methodLink RX1 83 yX2_init) (by decide +kernel)) (hts (.instanceMethod yX2_init) (by decide +kernel)) rfl (by decide +kernel) ⟨(Nat.le_of_ble_eq_true rfl), (Nat.le_of_ble_eq_true rfl)⟩) ⟨fun a U g mk q => by obtain ⟨q0, q1, qP, qK, qD⟩ := q; exact ⟨q0, q1, qP, va_K.moved (u := U) (U := U.calling g mk a) (Vm.Alike.refl U.vm) qK, qD⟩, fun U hU hW => ⟨rfl, by rw [hU], by rw [hU]; exact hP, va_K.moved hW.alike hK, hD.weaken (fun _ _ _ _ => trivial)⟩⟩ rfl rfl hl.1 rfl (lv_room (Nat.le_of_ble_eq_true rfl)) dX1_touch_52 ⟨(Nat.le_of_ble_eq_true rfl), (Nat.le_of_ble_eq_true rfl)⟩) hS (fun q _ h => hFc q h) hFc (fun u t H1 locs ht hvm er hB hz1 hk1 hS => ?_)
      obtain ⟨b, hP1, hD1⟩ := hB
      rw [ht] at hP1
      clear hz1 hk1 hvm hP
      subst ht
      have hP := hP1
      have hD := hD1.weaken (fun _ _ _ h => hFc _ h)
      clear hP1 hD1 hFc
      generalize t.heap = H at hP hS ⊢
      rw [ap_set, List.append_assoc, cw_push] at hP hD
      have hP : va_P (dC, dI) vwCl (cw_W (rU c 99 (c 99)) kc st lg ai al (R ++ [pgO x p0 b 1, pgB (kc 0) b (fun _ => 0)])) H := hP
      have hD : va_D A (cw_W (rU c 99 (c 99)) kc st lg ai al (R ++ [pgO x p0 b 1, pgB (kc 0) b (fun _ => 0)])) := hD
      refine W.eq (g2 := F0 m 55 ls [.ref x]) rfl ?_
      refine lv_astore_n (lv' := [(3, .ref x), (2, .int r_1), (0, .ref (c 102)), (1, .int p0)]) hx hb dX1_touch_55 rfl hl (by decide) rfl (fun ls hl => ?_)
      refine lv_aload_n hx hb dX1_touch_56 rfl (lv_at hl 2 rfl) ?_
      refine va_get (D := (dC, dI)) (ci := 3) (v := .ref (c 103)) (C := RX1) (T := TX1) (N := 7) hx hb hts hin_X1 hown hK hP 2 rfl rfl 3 (by decide) (hts (.fieldLink RX1 25 "BlockLog$Disk" "touched" "Ljava/util/ArrayList;") (by decide +kernel)) (fun _ h9 => h9) rfl dX1_touch_57 ?_
      refine lv_iload_n hx hb dX1_touch_60 rfl (lv_at hl 1 rfl) ?_
      refine lv_aload_n hx hb dX1_touch_61 rfl (lv_at hl 0 rfl) ?_
      rcases (show (st 13).toInt < (cap : Int) ∨ ((st 13).toInt = (cap : Int) ∧ cap = 0) ∨ ((st 13).toInt = (cap : Int) ∧ 10 ≤ cap) by have q1 := hPI.2.2.2.1; have q2 := hN.2.2; omega) with hfit | ⟨hful, hcap⟩ | ⟨hful, hcap⟩
      · skip
        have hn0 : 0 < (st 13).toInt := by
          rcases (show (st 13).toInt = 0 ∨ 0 < (st 13).toInt by omega) with w | w
          · have w2 := hN.2.1 w; omega
          · exact w
        obtain ⟨a, ⟨j, hj⟩, ha⟩ := hPI.2.2.2.2.2.2.1 hn0
        have hel : ∀ i : Nat, (i : Int) < (st 13).toInt → ∀ y : Nat, a i = some y → ∃ (k : Nat) (fs : List Value), (R ++ [pgO x p0 b 1, pgB (kc 0) b (fun _ => 0)])[k]? = some (y, .inr (4, fs)) := fun i hi y hy => by
          obtain ⟨y', hy', b', k', f', ⟨j1, q1⟩, _⟩ := ha i (by omega)
          cases hy'.symm.trans hy
          exact ⟨j1, _, ap_l q1⟩
        have hFc := vfree hD hS hA
        refine va_callv (va_runV (As := [.int r_1, .ref x]) (rest := []) ⟨hx, hb, hml, hown, hts⟩ (v_add_fit l dC dI (rU c 99 (c 99)) kc st lg ai al (R ++ [pgO x p0 b 1, pgB (kc 0) b (fun _ => 0)]) cap 0 a x R.length [.int p0, .ref b, .int 1] r_1 _ ap_0 (by omega) (by omega) (by omega) hfit (by omega) j (ap_l hj) hel) (cwV 2 hts gX1_touch_Jx4a65c_add_7a177 rfl rfl rfl (by decide +kernel) ⟨(Nat.le_of_ble_eq_true rfl), (Nat.le_of_ble_eq_true rfl)⟩) ⟨fun a U g mk q => by obtain ⟨q0, q1, qP, qK, qD, qG⟩ := q; exact ⟨q0, q1, qP, va_K.moved (u := U) (U := U.calling g mk a) (Vm.Alike.refl U.vm) qK, qD, qG.same rfl rfl⟩, va_recv hK hP (ci := 2) (q := (RJx4a65c, TJx4a65c, 3)) rfl (q0 := 3) rfl, fun U hU hW => ⟨rfl, by rw [hU], by rw [hU]; exact hP, va_K.moved hW.alike hK, hD.weaken (fun _ _ _ _ => trivial), hY.go hW hU hS hFc (fun h => ⟨h, rfl⟩)⟩⟩ rfl rfl hl.1 rfl (lv_room (Nat.le_of_ble_eq_true rfl)) dX1_touch_62 ⟨by show _ ≤ 3; omega, by show _ ≤ 98400; omega⟩) hS (fun q _ h => hFc q h) hFc (fun u t H1 locs ht hvm er hB hz1 hk1 hS => ?_)
        obtain ⟨x12, x13, a9, hx13, hins, hP1, hD1⟩ := hB
        rw [ht] at hP1
        clear hz1 hk1 hvm hP
        subst ht
        have hP := hP1
        have hD := hD1.weaken (fun _ _ _ h => hFc _ h)
        clear hP1 hD1 hFc
        generalize t.heap = H at hP hS ⊢
        have hP : va_P (dC, dI) vwCl (cw_W (rU c 99 (c 99)) kc (rU (rU st 12 x12) 13 x13) lg ai al ((R ++ [pgO x p0 b 1, pgB (kc 0) b (fun _ => 0)]).set j (pgR (kc 98) (c 99) cap a9))) H := hP
        have hD : va_D A (cw_W (rU c 99 (c 99)) kc st lg ai al ((R ++ [pgO x p0 b 1, pgB (kc 0) b (fun _ => 0)]).set j (pgR (kc 98) (c 99) cap a9))) := hD
        have hnd := cw_nd hD
        obtain ⟨g1, g2, hmono, hM_x, g5⟩ := PI_fit (fx := fun _ => 0) hPI hj (by decide) hnd
        have hPI := PI_new (n := st 13) (n' := x13) (i := r_1) (m := p0) (num := num) hnd g1 g2 ⟨j, g5⟩ hM_x hins (fun i hi => by obtain ⟨y, h1, h2⟩ := ha i hi; exact ⟨y, h1, hmono _ _ h2⟩) (by omega) (by omega) hx13 (by omega) (hrise x13 hx13) (hrg x13 hx13)
        have hN := NI_ins (n := st 13) (n' := x13) (cap' := cap) (by omega) hx13 (by omega) (by have w := hN.2.2; omega)
        obtain ⟨R_t, hRt⟩ : ∃ z : va_W, z = (R ++ [pgO x p0 b 1, pgB (kc 0) b (fun _ => 0)]).set j (pgR (kc 98) (c 99) cap a9) := ⟨_, rfl⟩
        rw [← hRt] at hP hD hPI hmono hM_x
        clear hRt hnd g1 g2 g5
        refine W.eq (g2 := F0 m 65 ls []) rfl ?_
        refine lv_aload_n hx hb dX1_touch_65 rfl (lv_at hl 0 rfl) ?_
        refine W_read (fun hu1 hu2 => ?_)
        refine W.widen (k := 3) (n := 98400) (by omega) (by omega) ?_
        exact W.aret hx hb hr (Or.inl ⟨_, rfl⟩) (Or.inr ⟨_, rfl⟩) (fun t ht hW => ⟨⟨some x, _, rfl, rfl, x12, x13, c 99, cap, (ins num r_1.toNatClampNeg p0), R_t, (by omega), (by omega), (fun x h => by cases h; exact ⟨_, hM_x, rfl⟩), (fun h => by cases h), (fun h => absurd h hno), (thr_ins (n := st 13) (by omega) (by omega) hx13), hPI, hmono, (cw_D hD), hN, hc0, hcp, (by omega), (by omega), (by rw [ht]; omega), (by rw [ht]; omega), by rw [ht]; exact hP⟩, hS.F ht⟩) hS.2.2 dX1_touch_66
      · skip
        have hFc := vfree hD hS hA
        refine va_callv (va_runV (As := [.int r_1, .ref x]) (rest := []) ⟨hx, hb, hml, hown, hts⟩ (v_add_0 l dC dI (rU c 99 (c 99)) kc st lg ai al (R ++ [pgO x p0 b 1, pgB (kc 0) b (fun _ => 0)]) cap 10 (fun _ => none) x R.length [.int p0, .ref b, .int 1] r_1 _ ap_0 (by omega) (by omega) (by omega) hful hcap rfl) (cwV 2 hts gX1_touch_Jx4a65c_add_7a177 rfl rfl rfl (by decide +kernel) ⟨(Nat.le_of_ble_eq_true rfl), (Nat.le_of_ble_eq_true rfl)⟩) ⟨fun a U g mk q => by obtain ⟨q0, q1, qP, qK, qD, qG⟩ := q; exact ⟨q0, q1, qP, va_K.moved (u := U) (U := U.calling g mk a) (Vm.Alike.refl U.vm) qK, qD, qG.same rfl rfl⟩, va_recv hK hP (ci := 2) (q := (RJx4a65c, TJx4a65c, 3)) rfl (q0 := 3) rfl, fun U hU hW => ⟨rfl, by rw [hU], by rw [hU]; exact hP, va_K.moved hW.alike hK, hD.weaken (fun _ _ _ _ => trivial), hY.go hW hU hS hFc (fun h => ⟨h, rfl⟩)⟩⟩ rfl rfl hl.1 rfl (lv_room (Nat.le_of_ble_eq_true rfl)) dX1_touch_62 ⟨by show _ ≤ 3; omega, by show _ ≤ 98400; omega⟩) hS (fun q _ h => hFc q h) hFc (fun u t H1 locs ht hvm er hB hz1 hk1 hS => ?_)
        obtain ⟨q, x12, x13, a9, hx13, hins, hP1, hD1⟩ := hB
        rw [ht] at hP1
        clear hz1 hk1 hvm hP
        subst ht
        have hP := hP1
        have hD := hD1.weaken (fun _ _ _ h => hFc _ h)
        clear hP1 hD1 hFc
        generalize t.heap = H at hP hS ⊢
        rw [rU_rU (f := c) (k := 99) (a := c 99) (b := q), List.append_assoc] at hP hD
        have hP : va_P (dC, dI) vwCl (cw_W (rU c 99 q) kc (rU (rU st 12 x12) 13 x13) lg ai al (R ++ [pgO x p0 b 1, pgB (kc 0) b (fun _ => 0), pgR (kc 98) q 10 a9])) H := hP
        have hD : va_D A (cw_W (rU c 99 q) kc st lg ai al (R ++ [pgO x p0 b 1, pgB (kc 0) b (fun _ => 0), pgR (kc 98) q 10 a9])) := hD
        have hnd := cw_nd hD
        obtain ⟨g1, g2, hmono, hM_x, g5⟩ := PI_grow (fx := fun _ => 0) hPI (by decide) hnd
        have hPI := PI_new (n := st 13) (n' := x13) (i := r_1) (m := p0) (num := num) hnd g1 g2 g5 hM_x hins (fun i hi => by exfalso; omega) (by omega) (by omega) hx13 (by omega) (hrise x13 hx13) (hrg x13 hx13)
        have hN := NI_ins (n := st 13) (n' := x13) (cap' := 10) (by omega) hx13 (by omega) (by omega)
        obtain ⟨R_t, hRt⟩ : ∃ z : va_W, z = R ++ [pgO x p0 b 1, pgB (kc 0) b (fun _ => 0), pgR (kc 98) q 10 a9] := ⟨_, rfl⟩
        rw [← hRt] at hP hD hPI hmono hM_x
        clear hRt hnd g1 g2 g5
        have hc0 : 10 = 0 → cap = 0 ∧ q = c 99 := fun h => absurd h (by omega)
        have hcp : cap ≤ 10 := by omega
        refine W.eq (g2 := F0 m 65 ls []) rfl ?_
        refine lv_aload_n hx hb dX1_touch_65 rfl (lv_at hl 0 rfl) ?_
        refine W_read (fun hu1 hu2 => ?_)
        refine W.widen (k := 3) (n := 98400) (by omega) (by omega) ?_
        exact W.aret hx hb hr (Or.inl ⟨_, rfl⟩) (Or.inr ⟨_, rfl⟩) (fun t ht hW => ⟨⟨some x, _, rfl, rfl, x12, x13, q, 10, (ins num r_1.toNatClampNeg p0), R_t, (by omega), (by omega), (fun x h => by cases h; exact ⟨_, hM_x, rfl⟩), (fun h => by cases h), (fun h => absurd h hno), (thr_ins (n := st 13) (by omega) (by omega) hx13), hPI, hmono, (cw_D hD), hN, hc0, hcp, (by omega), (by omega), (by rw [ht]; omega), (by rw [ht]; omega), by rw [ht]; exact hP⟩, hS.F ht⟩) hS.2.2 dX1_touch_66
      · skip
        have hn0 : 0 < (st 13).toInt := by
          rcases (show (st 13).toInt = 0 ∨ 0 < (st 13).toInt by omega) with w | w
          · have w2 := hN.2.1 w; omega
          · exact w
        obtain ⟨a, ⟨j, hj⟩, ha⟩ := hPI.2.2.2.2.2.2.1 hn0
        have hel : ∀ i : Nat, i < cap → ∀ y : Nat, a i = some y → ∃ (k : Nat) (fs : List Value), (R ++ [pgO x p0 b 1, pgB (kc 0) b (fun _ => 0)])[k]? = some (y, .inr (4, fs)) := fun i hi y hy => by
          obtain ⟨y', hy', b', k', f', ⟨j1, q1⟩, _⟩ := ha i (by omega)
          cases hy'.symm.trans hy
          exact ⟨j1, _, ap_l q1⟩
        have hFc := vfree hD hS hA
        refine va_callv (va_runV (As := [.int r_1, .ref x]) (rest := []) ⟨hx, hb, hml, hown, hts⟩ (v_add_1 l dC dI (rU c 99 (c 99)) kc st lg ai al (R ++ [pgO x p0 b 1, pgB (kc 0) b (fun _ => 0)]) cap (cap + cap / 2) a x R.length [.int p0, .ref b, .int 1] r_1 _ ap_0 (by omega) (by omega) (by omega) hful hcap (by omega) rfl j (ap_l hj) hel) (cwV 2 hts gX1_touch_Jx4a65c_add_7a177 rfl rfl rfl (by decide +kernel) ⟨(Nat.le_of_ble_eq_true rfl), (Nat.le_of_ble_eq_true rfl)⟩) ⟨fun a U g mk q => by obtain ⟨q0, q1, qP, qK, qD, qG⟩ := q; exact ⟨q0, q1, qP, va_K.moved (u := U) (U := U.calling g mk a) (Vm.Alike.refl U.vm) qK, qD, qG.same rfl rfl⟩, va_recv hK hP (ci := 2) (q := (RJx4a65c, TJx4a65c, 3)) rfl (q0 := 3) rfl, fun U hU hW => ⟨rfl, by rw [hU], by rw [hU]; exact hP, va_K.moved hW.alike hK, hD.weaken (fun _ _ _ _ => trivial), hY.go hW hU hS hFc (fun h => ⟨h, rfl⟩)⟩⟩ rfl rfl hl.1 rfl (lv_room (Nat.le_of_ble_eq_true rfl)) dX1_touch_62 ⟨by show _ ≤ 3; omega, by show _ ≤ 98400; omega⟩) hS (fun q _ h => hFc q h) hFc (fun u t H1 locs ht hvm er hB hz1 hk1 hS => ?_)
        obtain ⟨q, x12, x13, a9, hx13, hins, hP1, hD1⟩ := hB
        rw [ht] at hP1
        clear hz1 hk1 hvm hP
        subst ht
        have hP := hP1
        have hD := hD1.weaken (fun _ _ _ h => hFc _ h)
        clear hP1 hD1 hFc
        generalize t.heap = H at hP hS ⊢
        rw [rU_rU (f := c) (k := 99) (a := c 99) (b := q), List.append_assoc] at hP hD
        have hP : va_P (dC, dI) vwCl (cw_W (rU c 99 q) kc (rU (rU st 12 x12) 13 x13) lg ai al (R ++ [pgO x p0 b 1, pgB (kc 0) b (fun _ => 0), pgR (kc 98) q (cap + cap / 2) a9])) H := hP
        have hD : va_D A (cw_W (rU c 99 q) kc st lg ai al (R ++ [pgO x p0 b 1, pgB (kc 0) b (fun _ => 0), pgR (kc 98) q (cap + cap / 2) a9])) := hD
        have hnd := cw_nd hD
        obtain ⟨g1, g2, hmono, hM_x, g5⟩ := PI_grow (fx := fun _ => 0) hPI (by decide) hnd
        have hPI := PI_new (n := st 13) (n' := x13) (i := r_1) (m := p0) (num := num) hnd g1 g2 g5 hM_x hins (fun i hi => by obtain ⟨y, h1, h2⟩ := ha i hi; exact ⟨y, h1, hmono _ _ h2⟩) (by omega) (by omega) hx13 (by omega) (hrise x13 hx13) (hrg x13 hx13)
        have hN := NI_ins (n := st 13) (n' := x13) (cap' := (cap + cap / 2)) (by omega) hx13 (by omega) (by omega)
        obtain ⟨R_t, hRt⟩ : ∃ z : va_W, z = R ++ [pgO x p0 b 1, pgB (kc 0) b (fun _ => 0), pgR (kc 98) q (cap + cap / 2) a9] := ⟨_, rfl⟩
        rw [← hRt] at hP hD hPI hmono hM_x
        clear hRt hnd g1 g2 g5
        have hc0 : (cap + cap / 2) = 0 → cap = 0 ∧ q = c 99 := fun h => absurd h (by omega)
        have hcp : cap ≤ (cap + cap / 2) := by omega
        refine W.eq (g2 := F0 m 65 ls []) rfl ?_
        refine lv_aload_n hx hb dX1_touch_65 rfl (lv_at hl 0 rfl) ?_
        refine W_read (fun hu1 hu2 => ?_)
        refine W.widen (k := 3) (n := 98400) (by omega) (by omega) ?_
        exact W.aret hx hb hr (Or.inl ⟨_, rfl⟩) (Or.inr ⟨_, rfl⟩) (fun t ht hW => ⟨⟨some x, _, rfl, rfl, x12, x13, q, (cap + cap / 2), (ins num r_1.toNatClampNeg p0), R_t, (by omega), (by omega), (fun x h => by cases h; exact ⟨_, hM_x, rfl⟩), (fun h => by cases h), (fun h => absurd h hno), (thr_ins (n := st 13) (by omega) (by omega) hx13), hPI, hmono, (cw_D hD), hN, hc0, hcp, (by omega), (by omega), (by rw [ht]; omega), (by rw [ht]; omega), by rw [ht]; exact hP⟩, hS.F ht⟩) hS.2.2 dX1_touch_66
    · skip
      have ic_6 := iv_nle c_6
      refine lv_aload_n hx hb dX1_touch_17 rfl (lv_at hl 1 rfl) ?_
      refine va_get (D := (dC, dI)) (ci := 3) (v := .ref (c 103)) (C := RX1) (T := TX1) (N := 7) hx hb hts hin_X1 hown hK hP 2 rfl rfl 3 (by decide) (hts (.fieldLink RX1 25 "BlockLog$Disk" "touched" "Ljava/util/ArrayList;") (by decide +kernel)) (fun _ h9 => h9) rfl dX1_touch_18 ?_
      refine lv_iload_n hx hb dX1_touch_21 rfl (lv_at hl 0 rfl) ?_
      refine va_csq (va_Run.run (va_runV (As := [.int r_1]) (rest := []) ⟨hx, hb, hml, hown, hts⟩ (v_Jx4a65c_get_915e3 l dC dI (rU c 99 (c 99)) kc st lg ai al R cap num r_1 hPI (show 0 ≤ (st 13).toInt by omega) (show (st 13).toInt ≤ 65536 by omega) (by omega) (show r_1.toInt < (st 13).toInt by omega)) (cwV 1 hts gX1_touch_Jx4a65c_get_915e3 rfl rfl rfl (by decide +kernel) ⟨Nat.le_of_ble_eq_true rfl, Nat.le_of_ble_eq_true rfl⟩) ⟨fun a U g mk q => by obtain ⟨q0, qP, qK⟩ := q; exact ⟨q0, qP, va_K.moved (u := U) (U := U.calling g mk a) (Vm.Alike.refl U.vm) qK⟩, va_recv hK hP (ci := 2) (q := (RJx4a65c, TJx4a65c, 3)) rfl (q0 := 3) rfl, fun U hU hW => ⟨rfl, by rw [hU]; exact hP, va_K.moved hW.alike hK⟩⟩ rfl rfl hl.1 rfl (lv_room (Nat.le_of_ble_eq_true rfl)) dX1_touch_22 ⟨by show 0 + 0 ≤ 3; omega, by show 0 + 0 ≤ 98400; omega⟩)) (fun r_7 er_7 => ?_)
      obtain ⟨hq, hnn⟩ := er_7
      have hq : ∀ x, r_7 = some x → ∃ m, pgM (kc 0) R x m ∧ m = num r_1.toNatClampNeg := hq
      have hnn : r_7 ≠ none := hnn
      rcases r_7 with _ | x_8
      · skip
        exact absurd rfl hnn
      · skip
        refine W.eq (g2 := F0 m 25 ls [.ref x_8]) rfl ?_
        obtain ⟨m_9, hM_x_8, hQ⟩ := hq x_8 rfl
        have hMo := hM_x_8
        obtain ⟨b_10, k9_10, f9_10, ⟨j_10, hj_10⟩, i_10, hi_10⟩ := hMo
        refine va_castY hx hb hown (hts (.classLink RX1 44 "BlockLog$Page") (by decide +kernel)) (hGW.2.2.1 "BlockLog$Page" (by decide)) (va_recv hK hP (ci := 4) (q := (RX2, TX2, 3)) rfl (q0 := 26 + j_10) (cw_at hj_10)) dX1_touch_25 ?_
        refine va_getN (D := (dC, dI)) (ci := 4) (v := .int m_9) (C := RX2) (T := TX2) (N := 3) hx hb hts hin_X2 hown hK hP (26 + j_10) (cw_at hj_10) rfl 0 (by decide) (va_Nw.use rfl (hGW.1 ("BlockLog$Disk", 76, "BlockLog$Page", "number", "I", "BlockLog") (by decide +kernel))) (fun _ h9 => h9) rfl dX1_touch_28 ?_
        refine lv_iload_n hx hb dX1_touch_31 rfl (lv_at hl 2 rfl) ?_
        refine lv_icmp_ne (tgt := 47) hx hb dX1_touch_32 (by decide) (fun c_11 => ?_) (fun c_11 => ?_)
        · skip
          have ic_11 := iv_ne c_11
          have hne : r_1.toInt < (st 13).toInt → (num r_1.toNatClampNeg).toInt ≠ p0.toInt := by first | exact fun h => absurd h (by omega) | exact fun _ => by rw [← hQ]; omega
          have hno := thr_no hPI.2.2.2.2.1 hlo hhi hne (by omega)
          obtain ⟨n1, hn1⟩ : ∃ z : Int32, z.toInt = (st 13).toInt + 1 := ⟨st 13 + 1, (iv_add (by omega) (by omega)).trans (by omega)⟩
          have hrise : ∀ n1 : Int32, n1.toInt = (st 13).toInt + 1 → ∀ a b : Nat, a < b → (b : Int) < n1.toInt → (ins num r_1.toNatClampNeg p0 a).toInt < (ins num r_1.toNatClampNeg p0 b).toInt := fun n1 hn1 => ins_rise hPI.2.2.2.2.1 hlo hhi hne (by omega) (by omega) hn1
          have hrg : ∀ n1 : Int32, n1.toInt = (st 13).toInt + 1 → ∀ j : Nat, (j : Int) < n1.toInt → 0 ≤ (ins num r_1.toNatClampNeg p0 j).toInt ∧ (ins num r_1.toNatClampNeg p0 j).toInt < 65536 := fun n1 hn1 => ins_rg hPI.2.2.2.2.2.2.2 (by omega) (by omega) hn1 (by omega) (by omega)
          have hn65 : (st 13).toInt < 65536 := by
            have a1 := rise_ge (hrise n1 hn1) (fun j hj => (hrg n1 hn1 j hj).1) (st 13).toInt.toNat (by omega)
            have a2 := (hrg n1 hn1 (st 13).toInt.toNat (by omega)).2
            omega
          refine va_new (D := (dC, dI)) (cl := vwCl) (ci := 4) (C := RX2) (T := TX2) (N := 3) (fs := [.int 0, .null, .int 0]) hx hb hts hin_X2 tyX2 tyX2_ok hown (hts (.classLink RX1 44 RX2) (by decide +kernel)) (hts (.instantiable RX2 3) (by decide +kernel)) (hts (.initialized RX2) (by decide +kernel)) hK hP hD hS hA rfl (by decide +kernel) (Nat.le_of_ble_eq_true rfl) (Nat.le_of_ble_eq_true rfl) dX1_touch_47 (fun x H hP hD hS => ?_)
          refine lv_dup hx hb dX1_touch_50 rfl ?_
          refine lv_iload_n hx hb dX1_touch_51 rfl (lv_at hl 2 rfl) ?_
          have hFc := vfree hD hS hA
          refine va_callv (va_runI (As := [.int p0]) (rest := [.ref x]) ⟨hx, hb, hml, hown, hts⟩ (v_X2_init l dC dI (cw_W (rU c 99 (c 99)) kc st lg ai al R ++ [(x, Sum.inr (4, [Value.int 0, Value.null, Value.int 0]))]) (cw_T kc) x (cw_W (rU c 99 (c 99)) kc st lg ai al R).length 0 (kc 0) p0 _ ap_0 rfl) (cwI 1 hts gX1_touch_X2_init rfl rfl rfl (hts (.initialized RX2) (by decide +kernel)) (hts (.methodLink RX1 83 yX2_init) (by decide +kernel)) (hts (.instanceMethod yX2_init) (by decide +kernel)) rfl (by decide +kernel) ⟨(Nat.le_of_ble_eq_true rfl), (Nat.le_of_ble_eq_true rfl)⟩) ⟨fun a U g mk q => by obtain ⟨q0, q1, qP, qK, qD⟩ := q; exact ⟨q0, q1, qP, va_K.moved (u := U) (U := U.calling g mk a) (Vm.Alike.refl U.vm) qK, qD⟩, fun U hU hW => ⟨rfl, by rw [hU], by rw [hU]; exact hP, va_K.moved hW.alike hK, hD.weaken (fun _ _ _ _ => trivial)⟩⟩ rfl rfl hl.1 rfl (lv_room (Nat.le_of_ble_eq_true rfl)) dX1_touch_52 ⟨(Nat.le_of_ble_eq_true rfl), (Nat.le_of_ble_eq_true rfl)⟩) hS (fun q _ h => hFc q h) hFc (fun u t H1 locs ht hvm er hB hz1 hk1 hS => ?_)
          obtain ⟨b, hP1, hD1⟩ := hB
          rw [ht] at hP1
          clear hz1 hk1 hvm hP
          subst ht
          have hP := hP1
          have hD := hD1.weaken (fun _ _ _ h => hFc _ h)
          clear hP1 hD1 hFc
          generalize t.heap = H at hP hS ⊢
          rw [ap_set, List.append_assoc, cw_push] at hP hD
          have hP : va_P (dC, dI) vwCl (cw_W (rU c 99 (c 99)) kc st lg ai al (R ++ [pgO x p0 b 1, pgB (kc 0) b (fun _ => 0)])) H := hP
          have hD : va_D A (cw_W (rU c 99 (c 99)) kc st lg ai al (R ++ [pgO x p0 b 1, pgB (kc 0) b (fun _ => 0)])) := hD
          refine W.eq (g2 := F0 m 55 ls [.ref x]) rfl ?_
          refine lv_astore_n (lv' := [(3, .ref x), (2, .int r_1), (0, .ref (c 102)), (1, .int p0)]) hx hb dX1_touch_55 rfl hl (by decide) rfl (fun ls hl => ?_)
          refine lv_aload_n hx hb dX1_touch_56 rfl (lv_at hl 2 rfl) ?_
          refine va_get (D := (dC, dI)) (ci := 3) (v := .ref (c 103)) (C := RX1) (T := TX1) (N := 7) hx hb hts hin_X1 hown hK hP 2 rfl rfl 3 (by decide) (hts (.fieldLink RX1 25 "BlockLog$Disk" "touched" "Ljava/util/ArrayList;") (by decide +kernel)) (fun _ h9 => h9) rfl dX1_touch_57 ?_
          refine lv_iload_n hx hb dX1_touch_60 rfl (lv_at hl 1 rfl) ?_
          refine lv_aload_n hx hb dX1_touch_61 rfl (lv_at hl 0 rfl) ?_
          rcases (show (st 13).toInt < (cap : Int) ∨ ((st 13).toInt = (cap : Int) ∧ cap = 0) ∨ ((st 13).toInt = (cap : Int) ∧ 10 ≤ cap) by have q1 := hPI.2.2.2.1; have q2 := hN.2.2; omega) with hfit | ⟨hful, hcap⟩ | ⟨hful, hcap⟩
          · skip
            have hn0 : 0 < (st 13).toInt := by
              rcases (show (st 13).toInt = 0 ∨ 0 < (st 13).toInt by omega) with w | w
              · have w2 := hN.2.1 w; omega
              · exact w
            obtain ⟨a, ⟨j, hj⟩, ha⟩ := hPI.2.2.2.2.2.2.1 hn0
            have hel : ∀ i : Nat, (i : Int) < (st 13).toInt → ∀ y : Nat, a i = some y → ∃ (k : Nat) (fs : List Value), (R ++ [pgO x p0 b 1, pgB (kc 0) b (fun _ => 0)])[k]? = some (y, .inr (4, fs)) := fun i hi y hy => by
              obtain ⟨y', hy', b', k', f', ⟨j1, q1⟩, _⟩ := ha i (by omega)
              cases hy'.symm.trans hy
              exact ⟨j1, _, ap_l q1⟩
            have hFc := vfree hD hS hA
            refine va_callv (va_runV (As := [.int r_1, .ref x]) (rest := []) ⟨hx, hb, hml, hown, hts⟩ (v_add_fit l dC dI (rU c 99 (c 99)) kc st lg ai al (R ++ [pgO x p0 b 1, pgB (kc 0) b (fun _ => 0)]) cap 0 a x R.length [.int p0, .ref b, .int 1] r_1 _ ap_0 (by omega) (by omega) (by omega) hfit (by omega) j (ap_l hj) hel) (cwV 2 hts gX1_touch_Jx4a65c_add_7a177 rfl rfl rfl (by decide +kernel) ⟨(Nat.le_of_ble_eq_true rfl), (Nat.le_of_ble_eq_true rfl)⟩) ⟨fun a U g mk q => by obtain ⟨q0, q1, qP, qK, qD, qG⟩ := q; exact ⟨q0, q1, qP, va_K.moved (u := U) (U := U.calling g mk a) (Vm.Alike.refl U.vm) qK, qD, qG.same rfl rfl⟩, va_recv hK hP (ci := 2) (q := (RJx4a65c, TJx4a65c, 3)) rfl (q0 := 3) rfl, fun U hU hW => ⟨rfl, by rw [hU], by rw [hU]; exact hP, va_K.moved hW.alike hK, hD.weaken (fun _ _ _ _ => trivial), hY.go hW hU hS hFc (fun h => ⟨h, rfl⟩)⟩⟩ rfl rfl hl.1 rfl (lv_room (Nat.le_of_ble_eq_true rfl)) dX1_touch_62 ⟨by show _ ≤ 3; omega, by show _ ≤ 98400; omega⟩) hS (fun q _ h => hFc q h) hFc (fun u t H1 locs ht hvm er hB hz1 hk1 hS => ?_)
            obtain ⟨x12, x13, a9, hx13, hins, hP1, hD1⟩ := hB
            rw [ht] at hP1
            clear hz1 hk1 hvm hP
            subst ht
            have hP := hP1
            have hD := hD1.weaken (fun _ _ _ h => hFc _ h)
            clear hP1 hD1 hFc
            generalize t.heap = H at hP hS ⊢
            have hP : va_P (dC, dI) vwCl (cw_W (rU c 99 (c 99)) kc (rU (rU st 12 x12) 13 x13) lg ai al ((R ++ [pgO x p0 b 1, pgB (kc 0) b (fun _ => 0)]).set j (pgR (kc 98) (c 99) cap a9))) H := hP
            have hD : va_D A (cw_W (rU c 99 (c 99)) kc st lg ai al ((R ++ [pgO x p0 b 1, pgB (kc 0) b (fun _ => 0)]).set j (pgR (kc 98) (c 99) cap a9))) := hD
            have hnd := cw_nd hD
            obtain ⟨g1, g2, hmono, hM_x, g5⟩ := PI_fit (fx := fun _ => 0) hPI hj (by decide) hnd
            have hPI := PI_new (n := st 13) (n' := x13) (i := r_1) (m := p0) (num := num) hnd g1 g2 ⟨j, g5⟩ hM_x hins (fun i hi => by obtain ⟨y, h1, h2⟩ := ha i hi; exact ⟨y, h1, hmono _ _ h2⟩) (by omega) (by omega) hx13 (by omega) (hrise x13 hx13) (hrg x13 hx13)
            have hN := NI_ins (n := st 13) (n' := x13) (cap' := cap) (by omega) hx13 (by omega) (by have w := hN.2.2; omega)
            obtain ⟨R_t, hRt⟩ : ∃ z : va_W, z = (R ++ [pgO x p0 b 1, pgB (kc 0) b (fun _ => 0)]).set j (pgR (kc 98) (c 99) cap a9) := ⟨_, rfl⟩
            rw [← hRt] at hP hD hPI hmono hM_x
            clear hRt hnd g1 g2 g5
            refine W.eq (g2 := F0 m 65 ls []) rfl ?_
            refine lv_aload_n hx hb dX1_touch_65 rfl (lv_at hl 0 rfl) ?_
            refine W_read (fun hu1 hu2 => ?_)
            refine W.widen (k := 3) (n := 98400) (by omega) (by omega) ?_
            exact W.aret hx hb hr (Or.inl ⟨_, rfl⟩) (Or.inr ⟨_, rfl⟩) (fun t ht hW => ⟨⟨some x, _, rfl, rfl, x12, x13, c 99, cap, (ins num r_1.toNatClampNeg p0), R_t, (by omega), (by omega), (fun x h => by cases h; exact ⟨_, hM_x, rfl⟩), (fun h => by cases h), (fun h => absurd h hno), (thr_ins (n := st 13) (by omega) (by omega) hx13), hPI, hmono, (cw_D hD), hN, hc0, hcp, (by omega), (by omega), (by rw [ht]; omega), (by rw [ht]; omega), by rw [ht]; exact hP⟩, hS.F ht⟩) hS.2.2 dX1_touch_66
          · skip
            have hFc := vfree hD hS hA
            refine va_callv (va_runV (As := [.int r_1, .ref x]) (rest := []) ⟨hx, hb, hml, hown, hts⟩ (v_add_0 l dC dI (rU c 99 (c 99)) kc st lg ai al (R ++ [pgO x p0 b 1, pgB (kc 0) b (fun _ => 0)]) cap 10 (fun _ => none) x R.length [.int p0, .ref b, .int 1] r_1 _ ap_0 (by omega) (by omega) (by omega) hful hcap rfl) (cwV 2 hts gX1_touch_Jx4a65c_add_7a177 rfl rfl rfl (by decide +kernel) ⟨(Nat.le_of_ble_eq_true rfl), (Nat.le_of_ble_eq_true rfl)⟩) ⟨fun a U g mk q => by obtain ⟨q0, q1, qP, qK, qD, qG⟩ := q; exact ⟨q0, q1, qP, va_K.moved (u := U) (U := U.calling g mk a) (Vm.Alike.refl U.vm) qK, qD, qG.same rfl rfl⟩, va_recv hK hP (ci := 2) (q := (RJx4a65c, TJx4a65c, 3)) rfl (q0 := 3) rfl, fun U hU hW => ⟨rfl, by rw [hU], by rw [hU]; exact hP, va_K.moved hW.alike hK, hD.weaken (fun _ _ _ _ => trivial), hY.go hW hU hS hFc (fun h => ⟨h, rfl⟩)⟩⟩ rfl rfl hl.1 rfl (lv_room (Nat.le_of_ble_eq_true rfl)) dX1_touch_62 ⟨by show _ ≤ 3; omega, by show _ ≤ 98400; omega⟩) hS (fun q _ h => hFc q h) hFc (fun u t H1 locs ht hvm er hB hz1 hk1 hS => ?_)
            obtain ⟨q, x12, x13, a9, hx13, hins, hP1, hD1⟩ := hB
            rw [ht] at hP1
            clear hz1 hk1 hvm hP
            subst ht
            have hP := hP1
            have hD := hD1.weaken (fun _ _ _ h => hFc _ h)
            clear hP1 hD1 hFc
            generalize t.heap = H at hP hS ⊢
            rw [rU_rU (f := c) (k := 99) (a := c 99) (b := q), List.append_assoc] at hP hD
            have hP : va_P (dC, dI) vwCl (cw_W (rU c 99 q) kc (rU (rU st 12 x12) 13 x13) lg ai al (R ++ [pgO x p0 b 1, pgB (kc 0) b (fun _ => 0), pgR (kc 98) q 10 a9])) H := hP
            have hD : va_D A (cw_W (rU c 99 q) kc st lg ai al (R ++ [pgO x p0 b 1, pgB (kc 0) b (fun _ => 0), pgR (kc 98) q 10 a9])) := hD
            have hnd := cw_nd hD
            obtain ⟨g1, g2, hmono, hM_x, g5⟩ := PI_grow (fx := fun _ => 0) hPI (by decide) hnd
            have hPI := PI_new (n := st 13) (n' := x13) (i := r_1) (m := p0) (num := num) hnd g1 g2 g5 hM_x hins (fun i hi => by exfalso; omega) (by omega) (by omega) hx13 (by omega) (hrise x13 hx13) (hrg x13 hx13)
            have hN := NI_ins (n := st 13) (n' := x13) (cap' := 10) (by omega) hx13 (by omega) (by omega)
            obtain ⟨R_t, hRt⟩ : ∃ z : va_W, z = R ++ [pgO x p0 b 1, pgB (kc 0) b (fun _ => 0), pgR (kc 98) q 10 a9] := ⟨_, rfl⟩
            rw [← hRt] at hP hD hPI hmono hM_x
            clear hRt hnd g1 g2 g5
            have hc0 : 10 = 0 → cap = 0 ∧ q = c 99 := fun h => absurd h (by omega)
            have hcp : cap ≤ 10 := by omega
            refine W.eq (g2 := F0 m 65 ls []) rfl ?_
            refine lv_aload_n hx hb dX1_touch_65 rfl (lv_at hl 0 rfl) ?_
            refine W_read (fun hu1 hu2 => ?_)
            refine W.widen (k := 3) (n := 98400) (by omega) (by omega) ?_
            exact W.aret hx hb hr (Or.inl ⟨_, rfl⟩) (Or.inr ⟨_, rfl⟩) (fun t ht hW => ⟨⟨some x, _, rfl, rfl, x12, x13, q, 10, (ins num r_1.toNatClampNeg p0), R_t, (by omega), (by omega), (fun x h => by cases h; exact ⟨_, hM_x, rfl⟩), (fun h => by cases h), (fun h => absurd h hno), (thr_ins (n := st 13) (by omega) (by omega) hx13), hPI, hmono, (cw_D hD), hN, hc0, hcp, (by omega), (by omega), (by rw [ht]; omega), (by rw [ht]; omega), by rw [ht]; exact hP⟩, hS.F ht⟩) hS.2.2 dX1_touch_66
          · skip
            have hn0 : 0 < (st 13).toInt := by
              rcases (show (st 13).toInt = 0 ∨ 0 < (st 13).toInt by omega) with w | w
              · have w2 := hN.2.1 w; omega
              · exact w
            obtain ⟨a, ⟨j, hj⟩, ha⟩ := hPI.2.2.2.2.2.2.1 hn0
            have hel : ∀ i : Nat, i < cap → ∀ y : Nat, a i = some y → ∃ (k : Nat) (fs : List Value), (R ++ [pgO x p0 b 1, pgB (kc 0) b (fun _ => 0)])[k]? = some (y, .inr (4, fs)) := fun i hi y hy => by
              obtain ⟨y', hy', b', k', f', ⟨j1, q1⟩, _⟩ := ha i (by omega)
              cases hy'.symm.trans hy
              exact ⟨j1, _, ap_l q1⟩
            have hFc := vfree hD hS hA
            refine va_callv (va_runV (As := [.int r_1, .ref x]) (rest := []) ⟨hx, hb, hml, hown, hts⟩ (v_add_1 l dC dI (rU c 99 (c 99)) kc st lg ai al (R ++ [pgO x p0 b 1, pgB (kc 0) b (fun _ => 0)]) cap (cap + cap / 2) a x R.length [.int p0, .ref b, .int 1] r_1 _ ap_0 (by omega) (by omega) (by omega) hful hcap (by omega) rfl j (ap_l hj) hel) (cwV 2 hts gX1_touch_Jx4a65c_add_7a177 rfl rfl rfl (by decide +kernel) ⟨(Nat.le_of_ble_eq_true rfl), (Nat.le_of_ble_eq_true rfl)⟩) ⟨fun a U g mk q => by obtain ⟨q0, q1, qP, qK, qD, qG⟩ := q; exact ⟨q0, q1, qP, va_K.moved (u := U) (U := U.calling g mk a) (Vm.Alike.refl U.vm) qK, qD, qG.same rfl rfl⟩, va_recv hK hP (ci := 2) (q := (RJx4a65c, TJx4a65c, 3)) rfl (q0 := 3) rfl, fun U hU hW => ⟨rfl, by rw [hU], by rw [hU]; exact hP, va_K.moved hW.alike hK, hD.weaken (fun _ _ _ _ => trivial), hY.go hW hU hS hFc (fun h => ⟨h, rfl⟩)⟩⟩ rfl rfl hl.1 rfl (lv_room (Nat.le_of_ble_eq_true rfl)) dX1_touch_62 ⟨by show _ ≤ 3; omega, by show _ ≤ 98400; omega⟩) hS (fun q _ h => hFc q h) hFc (fun u t H1 locs ht hvm er hB hz1 hk1 hS => ?_)
            obtain ⟨q, x12, x13, a9, hx13, hins, hP1, hD1⟩ := hB
            rw [ht] at hP1
            clear hz1 hk1 hvm hP
            subst ht
            have hP := hP1
            have hD := hD1.weaken (fun _ _ _ h => hFc _ h)
            clear hP1 hD1 hFc
            generalize t.heap = H at hP hS ⊢
            rw [rU_rU (f := c) (k := 99) (a := c 99) (b := q), List.append_assoc] at hP hD
            have hP : va_P (dC, dI) vwCl (cw_W (rU c 99 q) kc (rU (rU st 12 x12) 13 x13) lg ai al (R ++ [pgO x p0 b 1, pgB (kc 0) b (fun _ => 0), pgR (kc 98) q (cap + cap / 2) a9])) H := hP
            have hD : va_D A (cw_W (rU c 99 q) kc st lg ai al (R ++ [pgO x p0 b 1, pgB (kc 0) b (fun _ => 0), pgR (kc 98) q (cap + cap / 2) a9])) := hD
            have hnd := cw_nd hD
            obtain ⟨g1, g2, hmono, hM_x, g5⟩ := PI_grow (fx := fun _ => 0) hPI (by decide) hnd
            have hPI := PI_new (n := st 13) (n' := x13) (i := r_1) (m := p0) (num := num) hnd g1 g2 g5 hM_x hins (fun i hi => by obtain ⟨y, h1, h2⟩ := ha i hi; exact ⟨y, h1, hmono _ _ h2⟩) (by omega) (by omega) hx13 (by omega) (hrise x13 hx13) (hrg x13 hx13)
            have hN := NI_ins (n := st 13) (n' := x13) (cap' := (cap + cap / 2)) (by omega) hx13 (by omega) (by omega)
            obtain ⟨R_t, hRt⟩ : ∃ z : va_W, z = R ++ [pgO x p0 b 1, pgB (kc 0) b (fun _ => 0), pgR (kc 98) q (cap + cap / 2) a9] := ⟨_, rfl⟩
            rw [← hRt] at hP hD hPI hmono hM_x
            clear hRt hnd g1 g2 g5
            have hc0 : (cap + cap / 2) = 0 → cap = 0 ∧ q = c 99 := fun h => absurd h (by omega)
            have hcp : cap ≤ (cap + cap / 2) := by omega
            refine W.eq (g2 := F0 m 65 ls []) rfl ?_
            refine lv_aload_n hx hb dX1_touch_65 rfl (lv_at hl 0 rfl) ?_
            refine W_read (fun hu1 hu2 => ?_)
            refine W.widen (k := 3) (n := 98400) (by omega) (by omega) ?_
            exact W.aret hx hb hr (Or.inl ⟨_, rfl⟩) (Or.inr ⟨_, rfl⟩) (fun t ht hW => ⟨⟨some x, _, rfl, rfl, x12, x13, q, (cap + cap / 2), (ins num r_1.toNatClampNeg p0), R_t, (by omega), (by omega), (fun x h => by cases h; exact ⟨_, hM_x, rfl⟩), (fun h => by cases h), (fun h => absurd h hno), (thr_ins (n := st 13) (by omega) (by omega) hx13), hPI, hmono, (cw_D hD), hN, hc0, hcp, (by omega), (by omega), (by rw [ht]; omega), (by rw [ht]; omega), by rw [ht]; exact hP⟩, hS.F ht⟩) hS.2.2 dX1_touch_66
        · skip
          have ic_11 := iv_eq c_11
          have hQ1 := hQ
          refine lv_aload_n hx hb dX1_touch_35 rfl (lv_at hl 1 rfl) ?_
          refine va_get (D := (dC, dI)) (ci := 3) (v := .ref (c 103)) (C := RX1) (T := TX1) (N := 7) hx hb hts hin_X1 hown hK hP 2 rfl rfl 3 (by decide) (hts (.fieldLink RX1 25 "BlockLog$Disk" "touched" "Ljava/util/ArrayList;") (by decide +kernel)) (fun _ h9 => h9) rfl dX1_touch_36 ?_
          refine lv_iload_n hx hb dX1_touch_39 rfl (lv_at hl 0 rfl) ?_
          refine va_csq (va_Run.run (va_runV (As := [.int r_1]) (rest := []) ⟨hx, hb, hml, hown, hts⟩ (v_Jx4a65c_get_915e3 l dC dI (rU c 99 (c 99)) kc st lg ai al R cap num r_1 hPI (show 0 ≤ (st 13).toInt by omega) (show (st 13).toInt ≤ 65536 by omega) (by omega) (show r_1.toInt < (st 13).toInt by omega)) (cwV 1 hts gX1_touch_Jx4a65c_get_915e3 rfl rfl rfl (by decide +kernel) ⟨Nat.le_of_ble_eq_true rfl, Nat.le_of_ble_eq_true rfl⟩) ⟨fun a U g mk q => by obtain ⟨q0, qP, qK⟩ := q; exact ⟨q0, qP, va_K.moved (u := U) (U := U.calling g mk a) (Vm.Alike.refl U.vm) qK⟩, va_recv hK hP (ci := 2) (q := (RJx4a65c, TJx4a65c, 3)) rfl (q0 := 3) rfl, fun U hU hW => ⟨rfl, by rw [hU]; exact hP, va_K.moved hW.alike hK⟩⟩ rfl rfl hl.1 rfl (lv_room (Nat.le_of_ble_eq_true rfl)) dX1_touch_40 ⟨by show 0 + 0 ≤ 3; omega, by show 0 + 0 ≤ 98400; omega⟩)) (fun r_12 er_12 => ?_)
          obtain ⟨hq, hnn⟩ := er_12
          have hq : ∀ x, r_12 = some x → ∃ m, pgM (kc 0) R x m ∧ m = num r_1.toNatClampNeg := hq
          have hnn : r_12 ≠ none := hnn
          rcases r_12 with _ | x_13
          · skip
            exact absurd rfl hnn
          · skip
            refine W.eq (g2 := F0 m 43 ls [.ref x_13]) rfl ?_
            obtain ⟨m_14, hM_x_13, hQ⟩ := hq x_13 rfl
            have hMo := hM_x_13
            obtain ⟨b_15, k9_15, f9_15, ⟨j_15, hj_15⟩, i_15, hi_15⟩ := hMo
            refine va_castY hx hb hown (hts (.classLink RX1 44 "BlockLog$Page") (by decide +kernel)) (hGW.2.2.1 "BlockLog$Page" (by decide)) (va_recv hK hP (ci := 4) (q := (RX2, TX2, 3)) rfl (q0 := 26 + j_15) (cw_at hj_15)) dX1_touch_43 ?_
            refine W_read (fun hu1 hu2 => ?_)
            refine W.widen (k := 3) (n := 98400) (by omega) (by omega) ?_
            exact W.aret hx hb hr (Or.inl ⟨_, rfl⟩) (Or.inr ⟨_, rfl⟩) (fun t ht hW => ⟨⟨some x_13, _, rfl, rfl, st 12, st 13, c 99, cap, num, R, (by omega), (by omega), (fun x h => by cases h; exact ⟨_, hM_x_13, (by rw [hQ, ← hQ1]; omega)⟩), (fun h => by cases h), (fun _ => rfl), (thr_of (i := r_1) (by omega) (by omega) hQ1 (by omega)), hPI, hmono, (cw_D hD), hN, hc0, hcp, (by omega), (by omega), (by rw [ht]; omega), (by rw [ht]; omega), by rw [ht]; exact hP⟩, hS.F ht⟩) hS.2.2 dX1_touch_46
  exact main s.heap [] hP hS

set_option maxHeartbeats 4000000 in
set_option maxRecDepth 100000 in
theorem v_X1_set (l : Launch) (dC : Nat → ClassId) (dI : Nat → Nat → Nat) (c : Nat → Nat) (kc : Nat → ClassId) (st : Nat → Int32) (lg : Nat → Int64) (ai : Nat → Nat → Int32) (al : Nat → Nat → Int64) (R : va_W) (cap : Nat) (num : Nat → Int32) (p0 : Int32) (p1 : Int32) (sz tz : Nat) (hPI : PI (kc 98) (kc 0) (c 99) (st 13) cap num none R) (hN : NI cap (st 13)) (hf13a : 0 ≤ (st 13).toInt) (hf13b : (st 13).toInt ≤ 65536) (hq0 : 0 ≤ p0.toInt) (hq1 : p0.toInt < 1712160) (hR7 : aR (ai 7) 8224 (-128) 127) : Met l yX1_set wsX1_set ({ frames := 8, cells := 3, slots := 640000, locals := 423 }) (va_Pc [.ref (c 102), .int p0, .int p1] (fun U => U.heap.size = sz ∧ tot U.heap = tz ∧ va_P (dC, dI) vwCl (cw_W c kc st lg ai al R) U.heap ∧ va_K (dC, dI) vwCl (cw_T kc) U ∧ va_D (fun _ => True) (cw_W c kc st lg ai al R) ∧ gy_E cap (c 99) (va_A (cw_W c kc st lg ai al R) sz) U)) (va_Qv (fun (_ : Unit) => True) (fun _ t => ∃ (x12 : Int32) (x13 : Int32) (f7 : Nat → Int32) (f8 : Nat → Int32) (e9 cap9 : Nat) (num9 : Nat → Int32) (R9 : va_W), (0 ≤ x13.toInt) ∧ (x13.toInt ≤ 65536) ∧ (aR f7 8224 (-128) 127) ∧ (PI (kc 98) (kc 0) e9 x13 cap9 num9 none R9) ∧ (∀ y m, pgM (kc 0) R y m → pgM (kc 0) R9 y m) ∧ (va_D (va_A (cw_W c kc st lg ai al R) sz) (cw_W (rU c 99 e9) kc (rU (rU st 12 x12) 13 x13) lg (rU (rU ai 7 f7) 8 f8) al R9)) ∧ (NI cap9 x13) ∧ (cap9 = 0 → cap = 0 ∧ e9 = c 99) ∧ (cap ≤ cap9) ∧ ((st 13).toInt ≤ x13.toInt) ∧ (x13.toInt ≤ (st 13).toInt + 1) ∧ (((t.heap.size : Nat) : Int) ≤ ((sz : Nat) : Int) + 0 + 3 * (x13.toInt - (st 13).toInt)) ∧ (((tot t.heap : Nat) : Int) ≤ ((tz : Nat) : Int) + 0 + 29 * (x13.toInt - (st 13).toInt) + 4 * (((cap9 : Nat) : Int) - ((cap : Nat) : Int))) ∧ va_P (dC, dI) vwCl (cw_W (rU c 99 e9) kc (rU (rU st 12 x12) 13 x13) lg (rU (rU ai 7 f7) 8 f8) al R9) t.heap) (va_A (cw_W c kc st lg ai al R) sz)) 3 640000 (va_A (cw_W c kc st lg ai al R) sz) := by
  refine Met.ofW (cc := cX1_set) (maxL := 4) (ret := none) (by decide) rfl ?_
  intro p e s m args below meth cM s₁ B hml hv
  obtain ⟨rfl, hsz, htz, hP, hK, hD0, hY⟩ := hv
  have hx := B.exec
  have hb := B.bytes
  have hr := B.returns
  have hts := atoms_spec (ws := wsX1_set) B.pre
  have hown : s.vm.findClass RX1 = some m.cls := findClass_of_methodNamed B.named
  have hG0 := hY.1
  have hGW := hG0.1
  subst hsz
  subst htz
  clear hG0
  have hD := hD0.self (sz := s.heap.size)
  generalize hAe : va_A (cw_W c kc st lg ai al R) s.heap.size = A at hD hY ⊢
  have hA : ∀ q : Nat, s.heap.size ≤ q → A q := fun q h => by rw [← hAe]; exact Or.inr h
  have hS : va_S A s.heap s.heap [] := va_S.rf
  clear hAe hD0
  have hl := lv_entry ([.ref (c 102), .int p0, .int p1]) (n := 4) (Nat.le_of_ble_eq_true rfl)
  rw [lg_entry_eq]
  generalize (lg_sl ([.ref (c 102), .int p0, .int p1]) ++ List.replicate (4 - (lg_sl ([.ref (c 102), .int p0, .int p1])).length) Slot.unset).toArray = ls at hl ⊢
  have hl : lv_has ls 4 [(0, .ref (c 102)), (1, .int p0), (2, .int p1)] := hl
  have z_0 : (0 : Int32).toInt = 0 := by decide
  have z_26 : (26 : Int32).toInt = 26 := by decide
  have z_8224 : (8224 : Int32).toInt = 8224 := by decide
  have hin_X2 : ∀ w ∈ u_ws RX2 TX2 3, w ∈ wsX1_set := by decide +kernel
  have hmono : ∀ y m, pgM (kc 0) R y m → pgM (kc 0) R y m := fun y m h => h
  have hG := hY.1
  have hP : va_P (dC, dI) vwCl (cw_W (rU c 99 (c 99)) kc st lg ai al R) s.heap := by rw [rU_self]; exact hP
  have hD : va_D A (cw_W (rU c 99 (c 99)) kc st lg ai al R) := by rw [rU_self]; exact hD
  have hc0 : cap = 0 → cap = 0 ∧ c 99 = c 99 := fun h => ⟨h, rfl⟩
  have hcp : cap ≤ cap := Nat.le_refl _
  have hN1 : ((cap : Nat) : Int) ≤ 10 + 2 * (st 13).toInt := hN.1
  have main : ∀ (H : Heap) (locs : List Loc), va_P (dC, dI) vwCl (cw_W (rU c 99 (c 99)) kc st lg ai al R) H → va_S A s.heap H locs → W p l e (headSpec wsX1_set ({ frames := 8, cells := 3, slots := 640000, locals := 423 })).room s m ([.ref (c 102), .int p0, .int p1] : List Value).toArray below meth cM H locs 0 0 (MQ below (va_Qv (fun (_ : Unit) => True) (fun _ t => ∃ (x12 : Int32) (x13 : Int32) (f7 : Nat → Int32) (f8 : Nat → Int32) (e9 cap9 : Nat) (num9 : Nat → Int32) (R9 : va_W), (0 ≤ x13.toInt) ∧ (x13.toInt ≤ 65536) ∧ (aR f7 8224 (-128) 127) ∧ (PI (kc 98) (kc 0) e9 x13 cap9 num9 none R9) ∧ (∀ y m, pgM (kc 0) R y m → pgM (kc 0) R9 y m) ∧ (va_D A (cw_W (rU c 99 e9) kc (rU (rU st 12 x12) 13 x13) lg (rU (rU ai 7 f7) 8 f8) al R9)) ∧ (NI cap9 x13) ∧ (cap9 = 0 → cap = 0 ∧ e9 = c 99) ∧ (cap ≤ cap9) ∧ ((st 13).toInt ≤ x13.toInt) ∧ (x13.toInt ≤ (st 13).toInt + 1) ∧ (((t.heap.size : Nat) : Int) ≤ ((s.heap.size : Nat) : Int) + 0 + 3 * (x13.toInt - (st 13).toInt)) ∧ (((tot t.heap : Nat) : Int) ≤ ((tot s.heap : Nat) : Int) + 0 + 29 * (x13.toInt - (st 13).toInt) + 4 * (((cap9 : Nat) : Int) - ((cap : Nat) : Int))) ∧ va_P (dC, dI) vwCl (cw_W (rU c 99 e9) kc (rU (rU st 12 x12) 13 x13) lg (rU (rU ai 7 f7) 8 f8) al R9) t.heap) A) ([.ref (c 102), .int p0, .int p1] : List Value).toArray s 3 640000 A) (F0 m 0 ls []) := by
    intro H locs hP hS
    refine lv_iload_n hx hb dX1_set_0 rfl (lv_at hl 1 rfl) ?_
    refine lv_sipush (v := 8224) hx hb dX1_set_1 (by decide) ?_
    refine lv_icmp_ge (tgt := 14) hx hb dX1_set_4 (by decide) (fun c_1 => ?_) (fun c_1 => ?_)
    · skip
      have ic_1 := iv_le c_1
      refine lv_aload_n hx hb dX1_set_14 rfl (lv_at hl 0 rfl) ?_
      refine lv_iload_n hx hb dX1_set_15 rfl (lv_at hl 1 rfl) ?_
      refine lv_sipush (v := 8224) hx hb dX1_set_16 (by decide) ?_
      refine lv_isub hx hb dX1_set_19 ?_
      refine lv_topi (fun v_2 ev_2 => ?_)
      have rg1 := iv_rng p0
      have hv_2 : v_2.toInt = p0.toInt - 8224 := by rw [ev_2]; exact (iv_sub (by omega) (by omega)).trans (by omega)
      clear ev_2
      refine lv_bipush (v := 26) hx hb dX1_set_20 (by decide) ?_
      refine lv_idiv hx hb dX1_set_22 (by decide) ?_
      refine lv_topi (fun v_3 ev_3 => ?_)
      have hv_3 : v_3.toInt = v_2.toInt / 26 := by rw [ev_3]; exact iv_div (by omega) (by decide) (by omega)
      clear ev_3
      refine W_read (fun hu1 hu2 => ?_)
      have hFc := vfree ((cw_D hD : va_D A (cw_W (rU c 99 (c 99)) kc st lg ai al R)) : va_D A (cw_W (rU c 99 (c 99)) kc st lg ai al R)) hS hA
      refine va_callq (va_runV (As := [.int v_3]) (rest := []) ⟨hx, hb, hml, hown, hts⟩ (v_X1_touch l dC dI (rU c 99 (c 99)) kc st lg ai al R cap num v_3 _ _ hPI hN (show 0 ≤ (st 13).toInt by omega) (show (st 13).toInt ≤ 65536 by omega) (by omega) (by omega)) (cwV 1 hts gX1_set_X1_touch rfl rfl rfl (by decide +kernel) ⟨Nat.le_of_ble_eq_true rfl, Nat.le_of_ble_eq_true rfl⟩) ⟨fun a U g mk q => by obtain ⟨q0, q1, q2, qP, qK, qD, qG⟩ := q; exact ⟨q0, q1, q2, qP, va_K.moved (u := U) (U := U.calling g mk a) (Vm.Alike.refl U.vm) qK, qD, qG.same rfl rfl⟩, va_recv hK hP (ci := 3) (q := (RX1, TX1, 7)) rfl (q0 := 2) rfl, fun U hU hW => ⟨rfl, by rw [hU], by rw [hU], by rw [hU]; exact hP, va_K.moved hW.alike hK, ((cw_D hD : va_D A (cw_W (rU c 99 (c 99)) kc st lg ai al R))).weaken (fun _ _ _ _ => trivial), hY.go hW hU hS hFc hc0⟩⟩ rfl rfl hl.1 rfl (lv_room (Nat.le_of_ble_eq_true rfl)) dX1_set_23 ⟨by show 0 + 3 ≤ 3; omega, by show 0 + 98400 ≤ 640000; omega⟩) hS (fun q _ h => hFc q h) hFc (fun r_4 ur_4 t H1 locs ht hvm er_4 hB hz1 hk1 hS => ?_)
      subst er_4
      obtain ⟨x12_4, x13_4, e_4, cap_4, num_4, R_4, k_5, k_6, hq, hnn, hth, hthn, hPI, hmo, hD1, hN, hc1, hcp1, hnn1, hnn2, hus1, hus2, hP1⟩ := hB
      rw [ht] at hP1
      clear hz1 hk1 hvm hP
      subst ht
      have hP := hP1
      clear hP1
      generalize t.heap = H at hP hS hus1 hus2 ⊢
      rw [rU_rU (f := c) (k := 99) (a := (c 99)) (b := e_4)] at hP
      have hP : va_P (dC, dI) vwCl (cw_W (rU c 99 e_4) kc (rU (rU st 12 x12_4) 13 x13_4) lg ai al R_4) H := hP
      rw [rU_rU (f := c) (k := 99) (a := (c 99)) (b := e_4)] at hD1
      have hD : va_D A (cw_W (rU c 99 e_4) kc st lg ai al R_4) := cw_D (hD1.weaken (fun _ _ _ h => hFc _ h))
      have hc0 : cap_4 = 0 → cap = 0 ∧ e_4 = c 99 := fun h => ⟨(hc0 (hc1 h).1).1, (show e_4 = c 99 from (hc1 h).2).trans (hc0 (hc1 h).1).2⟩
      have hcp : cap ≤ cap_4 := Nat.le_trans hcp hcp1
      have hN1 : ((cap_4 : Nat) : Int) ≤ 10 + 2 * x13_4.toInt := hN.1
      have hnn1 : (st 13).toInt ≤ x13_4.toInt := hnn1
      have hnn2 : x13_4.toInt ≤ (st 13).toInt + 1 := hnn2
      have hus1 : ((H.size : Nat) : Int) ≤ _ + 0 + 3 * (x13_4.toInt - (st 13).toInt) := hus1
      have hus2 : ((tot H : Nat) : Int) ≤ _ + 0 + 29 * (x13_4.toInt - (st 13).toInt) + 4 * (((cap_4 : Nat) : Int) - ((cap : Nat) : Int)) := hus2
      obtain ⟨k_7, hk_7⟩ : ∃ k9 : Nat, (k9 : Int) = ((0 : Nat) : Int) + 0 + 3 * (x13_4.toInt - (st 13).toInt) := ⟨(((0 : Nat) : Int) + 0 + 3 * (x13_4.toInt - (st 13).toInt)).toNat, by omega⟩
      obtain ⟨m_7, hm_7⟩ : ∃ m9 : Nat, (m9 : Int) = ((0 : Nat) : Int) + 0 + 29 * (x13_4.toInt - (st 13).toInt) + 4 * (((cap_4 : Nat) : Int) - ((cap : Nat) : Int)) := ⟨(((0 : Nat) : Int) + 0 + 29 * (x13_4.toInt - (st 13).toInt) + 4 * (((cap_4 : Nat) : Int) - ((cap : Nat) : Int))).toNat, by omega⟩
      refine W_tight (k' := k_7) (m' := m_7) (by omega) (by omega) ?_
      clear hus1 hus2 hu1 hu2
      have hPI : PI (kc 98) (kc 0) e_4 x13_4 cap_4 num_4 none R_4 := hPI
      clear hFc hD1
      have hmono : ∀ y m, pgM (kc 0) R y m → pgM (kc 0) R_4 y m := fun y m h => hmo y m (hmono y m h)
      have k_5 : 0 ≤ x13_4.toInt := k_5
      have k_6 : x13_4.toInt ≤ 65536 := k_6
      have hq : ∀ x, r_4 = some x → ∃ m, pgM (kc 0) R_4 x m ∧ m.toInt = v_3.toInt := hq
      have hnn : r_4 ≠ none := hnn
      have hth : thr num (st 13) v_3 → x13_4.toInt = (st 13).toInt := hth
      have hthn : thr num_4 x13_4 v_3 := hthn
      rcases r_4 with _ | x_8
      · skip
        exact absurd rfl hnn
      · skip
        refine W.eq (g2 := F0 m 26 ls [.ref x_8]) rfl ?_
        obtain ⟨m_9, hM_x_8, hQ⟩ := hq x_8 rfl
        refine lv_astore_n (lv' := [(3, .ref x_8), (0, .ref (c 102)), (1, .int p0), (2, .int p1)]) hx hb dX1_set_26 rfl hl (by decide) rfl (fun ls hl => ?_)
        refine lv_aload_n hx hb dX1_set_27 rfl (lv_at hl 0 rfl) ?_
        have hMo := hM_x_8
        obtain ⟨b_10, k9_10, f9_10, ⟨j_10, hj_10⟩, i_10, hi_10⟩ := hMo
        refine va_getN (D := (dC, dI)) (ci := 4) (v := .ref b_10) (C := RX2) (T := TX2) (N := 3) hx hb hts hin_X2 hown hK hP (26 + j_10) (cw_at hj_10) rfl 1 (by decide) (va_Nw.use rfl (hGW.1 ("BlockLog$Disk", 43, "BlockLog$Page", "bytes", "[B", "BlockLog") (by decide +kernel))) (fun _ h9 => h9) rfl dX1_set_28 ?_
        refine lv_iload_n hx hb dX1_set_31 rfl (lv_at hl 2 rfl) ?_
        refine lv_sipush (v := 8224) hx hb dX1_set_32 (by decide) ?_
        refine lv_isub hx hb dX1_set_35 ?_
        refine lv_topi (fun v_11 ev_11 => ?_)
        have hv_11 : v_11.toInt = p0.toInt - 8224 := by rw [ev_11]; exact (iv_sub (by omega) (by omega)).trans (by omega)
        clear ev_11
        refine lv_bipush (v := 26) hx hb dX1_set_36 (by decide) ?_
        refine lv_irem hx hb dX1_set_38 (by decide) ?_
        refine lv_topi (fun v_12 ev_12 => ?_)
        have hv_12 : 0 ≤ v_12.toInt ∧ v_12.toInt < 26 := by rw [ev_12]; exact iv_rem (by omega) (by decide) (by omega)
        clear ev_12
        refine lv_iload_n hx hb dX1_set_39 rfl (lv_at hl 3 rfl) ?_
        refine lv_i2b hx hb dX1_set_40 rfl ?_
        refine lv_topi (fun v_13 ev_13 => ?_)
        clear ev_13
        refine va_bast (f := f9_10) hx hb hK hP (cw_D hD) hS (26 + i_10) 0 (cw_at hi_10) rfl (iv_in (i := v_12) (by omega) (by omega)) dX1_set_41 (fun H locs hP hD9 hS => ?_)
        generalize hUp : upd f9_10 v_12.toNatClampNeg (vp_nar .byte v_13) = f9_14 at hP hD9
        obtain ⟨R_14, hP, hD, hPI1, hPI2, hmo, hj_14, hi_14⟩ := pg_setb (f' := f9_14) hP hD9 hPI hj_10 hi_10 (Or.inl rfl)
        have hPI := hPI1
        clear hUp
        have hM_x_8 := hmo _ _ hM_x_8
        have hmono : ∀ y m, pgM (kc 0) R y m → pgM (kc 0) R_14 y m := fun y m h => hmo y m (hmono y m h)
        have hP : va_P (dC, dI) vwCl (cw_W (rU c 99 e_4) kc (rU (rU st 12 x12_4) 13 x13_4) lg ai al R_14) H := hP
        refine lv_aload_n hx hb dX1_set_42 rfl (lv_at hl 0 rfl) ?_
        refine lv_iconst (v := 0) hx hb dX1_set_43 (by decide) ?_
        refine va_putN (D := (dC, dI)) (ci := 4) (v := .int (0 : Int32)) (ty := .int) (C := RX2) (T := TX2) (N := 3) hx hb hts hin_X2 tyX2 tyX2_ok nmX2 hown hK hP (cw_D hD) hS (26 + j_10) (cw_at hj_14) rfl 2 (by decide) (va_Nw.use rfl (hGW.1 ("BlockLog$Disk", 55, "BlockLog$Page", "known", "I", "BlockLog") (by decide +kernel))) (fun _ h9 => h9) rfl (by decide +kernel) rfl rfl (Nat.le_of_ble_eq_true rfl) dX1_set_44 (fun H locs hP hD9 hS => ?_)
        obtain ⟨R_15, hP, hD, hPI1, hPI2, hmo, hj_15, hi_15⟩ := pg_setk (k' := (0 : Int32)) hP hD9 hPI hj_14 hi_14 (Or.inr rfl)
        have hPI := hPI2 (by decide)
        have hM_x_8 := hmo _ _ hM_x_8
        have hmono : ∀ y m, pgM (kc 0) R y m → pgM (kc 0) R_15 y m := fun y m h => hmo y m (hmono y m h)
        have hP : va_P (dC, dI) vwCl (cw_W (rU c 99 e_4) kc (rU (rU st 12 x12_4) 13 x13_4) lg ai al R_15) H := hP
        refine W_read (fun hu1 hu2 => ?_)
        refine W.widen (k := 3) (n := 640000) (by omega) (by omega) ?_
        exact W.vret hx hb hr (fun t ht hW => ⟨⟨(), rfl, trivial, x12_4, x13_4, ai 7, ai 8, e_4, cap_4, num_4, R_15, (by omega), (by omega), hR7, hPI, hmono, (cw_D hD), hN, hc0, hcp, (by omega), (by omega), (by rw [ht]; omega), (by rw [ht]; omega), by rw [ht]; exact hP⟩, hS.F ht⟩) hS.2.2 dX1_set_47
    · skip
      have ic_1 := iv_nle c_1
      refine lv_aload_n hx hb dX1_set_7 rfl (lv_at hl 0 rfl) ?_
      refine lv_iload_n hx hb dX1_set_8 rfl (lv_at hl 1 rfl) ?_
      refine lv_iload_n hx hb dX1_set_9 rfl (lv_at hl 2 rfl) ?_
      have hFc := vfree ((cw_D hD : va_D A (cw_W (rU c 99 (c 99)) kc st lg ai al R)) : va_D A (cw_W (rU c 99 (c 99)) kc st lg ai al R)) hS hA
      refine va_callv (va_runV (As := [.int p0, .int p1]) (rest := []) ⟨hx, hb, hml, hown, hts⟩ (v_X1_setLow l dC dI (rU c 99 (c 99)) kc st lg ai al R p0 p1 _ (by omega) (by omega) (show aR (ai 7) 8224 (-128) 127 from hR7)) (cwV 2 hts gX1_set_X1_setLow rfl rfl rfl (by decide +kernel) ⟨Nat.le_of_ble_eq_true rfl, Nat.le_of_ble_eq_true rfl⟩) ⟨fun a U g mk q => by obtain ⟨q0, q1, qP, qK, qD⟩ := q; exact ⟨q0, q1, qP, va_K.moved (u := U) (U := U.calling g mk a) (Vm.Alike.refl U.vm) qK, qD⟩, va_recv hK hP (ci := 3) (q := (RX1, TX1, 7)) rfl (q0 := 2) rfl, fun U hU hW => ⟨rfl, by rw [hU], by rw [hU]; exact hP, va_K.moved hW.alike hK, ((cw_D hD : va_D A (cw_W (rU c 99 (c 99)) kc st lg ai al R))).weaken (fun _ _ _ _ => trivial)⟩⟩ rfl rfl hl.1 rfl (lv_room (Nat.le_of_ble_eq_true rfl)) dX1_set_10 ⟨by show 0 + 0 ≤ 3; omega, by show 0 + 0 ≤ 640000; omega⟩) hS (fun q _ h => hFc q h) hFc (fun ur_16 t H1 locs ht hvm er_16 hB hz1 hk1 hS => ?_)
      obtain ⟨f7_16, f8_16, hR7, hP1⟩ := hB
      rw [ht] at hP1
      clear hFc hz1 hk1 hvm hP
      subst ht
      have hP := hP1
      clear hP1
      generalize t.heap = H at hP hS ⊢
      have hP : va_P (dC, dI) vwCl (cw_W (rU c 99 (c 99)) kc st lg (rU (rU ai 7 f7_16) 8 f8_16) al R) H := hP
      have hR7 : aR f7_16 8224 (-128) 127 := hR7
      refine W_read (fun hu1 hu2 => ?_)
      refine W.widen (k := 3) (n := 640000) (by omega) (by omega) ?_
      exact W.vret hx hb hr (fun t ht hW => ⟨⟨(), rfl, trivial, st 12, st 13, f7_16, f8_16, c 99, cap, num, R, (by omega), (by omega), hR7, hPI, hmono, (cw_D hD), hN, hc0, hcp, (by omega), (by omega), (by rw [ht]; omega), (by rw [ht]; omega), by rw [ht]; exact hP⟩, hS.F ht⟩) hS.2.2 dX1_set_13
  exact main s.heap [] hP hS

set_option maxHeartbeats 4000000 in
set_option maxRecDepth 100000 in
theorem v_X1_writePage (l : Launch) (dC : Nat → ClassId) (dI : Nat → Nat → Nat) (c : Nat → Nat) (kc : Nat → ClassId) (st : Nat → Int32) (lg : Nat → Int64) (ai : Nat → Nat → Int32) (al : Nat → Nat → Int64) (R : va_W) (cap : Nat) (num : Nat → Int32) (p0 : Int32) (sz tz : Nat) (hPI : PI (kc 98) (kc 0) (c 99) (st 13) cap num none R) (hN : NI cap (st 13)) (hf9a : 0 ≤ (st 9).toInt) (hf9b : (st 9).toInt ≤ 1) (hf13a : 0 ≤ (st 13).toInt) (hf13b : (st 13).toInt ≤ 65536) (hq0 : 0 ≤ p0.toInt) (hq1 : p0.toInt < 65536) : Met l yX1_writePage wsX1_writePage ({ frames := 8, cells := 6, slots := 640000, locals := 423 }) (va_Pc [.ref (c 102), .int p0, .ref (c 0)] (fun U => U.heap.size = sz ∧ tot U.heap = tz ∧ va_P (dC, dI) vwCl (cw_W c kc st lg ai al R) U.heap ∧ va_K (dC, dI) vwCl (cw_T kc) U ∧ va_D (fun _ => True) (cw_W c kc st lg ai al R) ∧ gy_E cap (c 99) (va_A (cw_W c kc st lg ai al R) sz) U)) (va_Qi (fun r (u : Int32) => r = u) (fun u t => ∃ (x9 : Int32) (x10 : Int32) (x11 : Int32) (x12 : Int32) (x13 : Int32) (e9 cap9 : Nat) (num9 : Nat → Int32) (R9 : va_W), (0 ≤ u.toInt) ∧ (u.toInt ≤ 1) ∧ (0 ≤ x9.toInt) ∧ (x9.toInt ≤ 1) ∧ (0 ≤ x13.toInt) ∧ (x13.toInt ≤ 65536) ∧ (PI (kc 98) (kc 0) e9 x13 cap9 num9 none R9) ∧ (∀ y m, pgM (kc 0) R y m → pgM (kc 0) R9 y m) ∧ (va_D (va_A (cw_W c kc st lg ai al R) sz) (cw_W (rU c 99 e9) kc (rU (rU (rU (rU (rU st 9 x9) 10 x10) 11 x11) 12 x12) 13 x13) lg ai al R9)) ∧ (NI cap9 x13) ∧ (cap9 = 0 → cap = 0 ∧ e9 = c 99) ∧ (cap ≤ cap9) ∧ ((st 13).toInt ≤ x13.toInt) ∧ (x13.toInt ≤ (st 13).toInt + 1) ∧ (((t.heap.size : Nat) : Int) ≤ ((sz : Nat) : Int) + 0 + 3 * (x13.toInt - (st 13).toInt)) ∧ (((tot t.heap : Nat) : Int) ≤ ((tz : Nat) : Int) + 0 + 29 * (x13.toInt - (st 13).toInt) + 4 * (((cap9 : Nat) : Int) - ((cap : Nat) : Int))) ∧ va_P (dC, dI) vwCl (cw_W (rU c 99 e9) kc (rU (rU (rU (rU (rU st 9 x9) 10 x10) 11 x11) 12 x12) 13 x13) lg ai al R9) t.heap) (va_A (cw_W c kc st lg ai al R) sz)) 6 640000 (va_A (cw_W c kc st lg ai al R) sz) := by
  refine Met.ofW (cc := cX1_writePage) (maxL := 5) (ret := (some .boolean)) (by decide) rfl ?_
  intro p e s m args below meth cM s₁ B hml hv
  obtain ⟨rfl, hsz, htz, hP, hK, hD0, hY⟩ := hv
  have hx := B.exec
  have hb := B.bytes
  have hr := B.returns
  have hts := atoms_spec (ws := wsX1_writePage) B.pre
  have hown : s.vm.findClass RX1 = some m.cls := findClass_of_methodNamed B.named
  have hG0 := hY.1
  have hGW := hG0.1
  subst hsz
  subst htz
  clear hG0
  have hD := hD0.self (sz := s.heap.size)
  generalize hAe : va_A (cw_W c kc st lg ai al R) s.heap.size = A at hD hY ⊢
  have hA : ∀ q : Nat, s.heap.size ≤ q → A q := fun q h => by rw [← hAe]; exact Or.inr h
  have hS : va_S A s.heap s.heap [] := va_S.rf
  clear hAe hD0
  have hl := lv_entry ([.ref (c 102), .int p0, .ref (c 0)]) (n := 5) (Nat.le_of_ble_eq_true rfl)
  rw [lg_entry_eq]
  generalize (lg_sl ([.ref (c 102), .int p0, .ref (c 0)]) ++ List.replicate (5 - (lg_sl ([.ref (c 102), .int p0, .ref (c 0)])).length) Slot.unset).toArray = ls at hl ⊢
  have hl : lv_has ls 5 [(0, .ref (c 102)), (1, .int p0), (2, .ref (c 0))] := hl
  have z_0 : (0 : Int32).toInt = 0 := by decide
  have z_1 : (1 : Int32).toInt = 1 := by decide
  have z_26 : (26 : Int32).toInt = 26 := by decide
  have hin_X2 : ∀ w ∈ u_ws RX2 TX2 3, w ∈ wsX1_writePage := by decide +kernel
  have hmono : ∀ y m, pgM (kc 0) R y m → pgM (kc 0) R y m := fun y m h => h
  have hG := hY.1
  have hP : va_P (dC, dI) vwCl (cw_W (rU c 99 (c 99)) kc st lg ai al R) s.heap := by rw [rU_self]; exact hP
  have hD : va_D A (cw_W (rU c 99 (c 99)) kc st lg ai al R) := by rw [rU_self]; exact hD
  have hc0 : cap = 0 → cap = 0 ∧ c 99 = c 99 := fun h => ⟨h, rfl⟩
  have hcp : cap ≤ cap := Nat.le_refl _
  have hN1 : ((cap : Nat) : Int) ≤ 10 + 2 * (st 13).toInt := hN.1
  have main : ∀ (H : Heap) (locs : List Loc), va_P (dC, dI) vwCl (cw_W (rU c 99 (c 99)) kc st lg ai al R) H → va_S A s.heap H locs → W p l e (headSpec wsX1_writePage ({ frames := 8, cells := 6, slots := 640000, locals := 423 })).room s m ([.ref (c 102), .int p0, .ref (c 0)] : List Value).toArray below meth cM H locs 0 0 (MQ below (va_Qi (fun r (u : Int32) => r = u) (fun u t => ∃ (x9 : Int32) (x10 : Int32) (x11 : Int32) (x12 : Int32) (x13 : Int32) (e9 cap9 : Nat) (num9 : Nat → Int32) (R9 : va_W), (0 ≤ u.toInt) ∧ (u.toInt ≤ 1) ∧ (0 ≤ x9.toInt) ∧ (x9.toInt ≤ 1) ∧ (0 ≤ x13.toInt) ∧ (x13.toInt ≤ 65536) ∧ (PI (kc 98) (kc 0) e9 x13 cap9 num9 none R9) ∧ (∀ y m, pgM (kc 0) R y m → pgM (kc 0) R9 y m) ∧ (va_D A (cw_W (rU c 99 e9) kc (rU (rU (rU (rU (rU st 9 x9) 10 x10) 11 x11) 12 x12) 13 x13) lg ai al R9)) ∧ (NI cap9 x13) ∧ (cap9 = 0 → cap = 0 ∧ e9 = c 99) ∧ (cap ≤ cap9) ∧ ((st 13).toInt ≤ x13.toInt) ∧ (x13.toInt ≤ (st 13).toInt + 1) ∧ (((t.heap.size : Nat) : Int) ≤ ((s.heap.size : Nat) : Int) + 0 + 3 * (x13.toInt - (st 13).toInt)) ∧ (((tot t.heap : Nat) : Int) ≤ ((tot s.heap : Nat) : Int) + 0 + 29 * (x13.toInt - (st 13).toInt) + 4 * (((cap9 : Nat) : Int) - ((cap : Nat) : Int))) ∧ va_P (dC, dI) vwCl (cw_W (rU c 99 e9) kc (rU (rU (rU (rU (rU st 9 x9) 10 x10) 11 x11) 12 x12) 13 x13) lg ai al R9) t.heap) A) ([.ref (c 102), .int p0, .ref (c 0)] : List Value).toArray s 6 640000 A) (F0 m 0 ls []) := by
    intro H locs hP hS
    refine lv_iconst (v := 0) hx hb dX1_writePage_0 (by decide) ?_
    refine lv_istore_n (lv' := [(3, .int (0 : Int32)), (0, .ref (c 102)), (1, .int p0), (2, .ref (c 0))]) hx hb dX1_writePage_1 rfl hl (by decide) rfl (fun ls hl => ?_)
    have loop2 : ∀ (n : Nat) (l3_2 : Int32) (s9_2 : Int32) (s10_2 : Int32) (s11_2 : Int32) (s12_2 : Int32) (s13_2 : Int32) (E9_2 : Nat) (C9_2 : Nat) (N9_2 : Nat → Int32) (K9_2 : Nat) (M9_2 : Nat) (R9_2 : va_W) (H : Heap) (locs : List Loc) (ls : Array Slot), (0 ≤ l3_2.toInt) → (l3_2.toInt ≤ 26) → ((st 13).toInt ≤ s13_2.toInt) → (s13_2.toInt ≤ (st 13).toInt + 1) → (0 ≤ s9_2.toInt) → (s9_2.toInt ≤ 1) → (0 ≤ s13_2.toInt) → (s13_2.toInt ≤ 65536) → ((l3_2.toInt = 0 ∧ s13_2.toInt = (st 13).toInt) ∨ thr N9_2 s13_2 p0) → (PI (kc 98) (kc 0) E9_2 s13_2 C9_2 N9_2 none R9_2) → (va_D A (cw_W (rU c 99 E9_2) kc st lg ai al R9_2)) → (∀ y m, pgM (kc 0) R y m → pgM (kc 0) R9_2 y m) → (NI C9_2 s13_2) → (((C9_2 : Nat) : Int) ≤ 10 + 2 * s13_2.toInt) → (C9_2 = 0 → cap = 0 ∧ E9_2 = c 99) → (cap ≤ C9_2) → (((K9_2 : Nat) : Int) ≤ 0 + 3 * (s13_2.toInt - (st 13).toInt)) → (((M9_2 : Nat) : Int) ≤ 0 + 29 * (s13_2.toInt - (st 13).toInt) + 4 * (((C9_2 : Nat) : Int) - ((cap : Nat) : Int))) → (26 - l3_2.toInt : Int).toNat < n → va_P (dC, dI) vwCl (cw_W (rU c 99 E9_2) kc (rU (rU (rU (rU (rU st 9 s9_2) 10 s10_2) 11 s11_2) 12 s12_2) 13 s13_2) lg ai al R9_2) H → va_S A s.heap H locs → lv_has ls 5 [(3, .int l3_2), (0, .ref (c 102)), (1, .int p0), (2, .ref (c 0))] → W p l e (headSpec wsX1_writePage ({ frames := 8, cells := 6, slots := 640000, locals := 423 })).room s m ([.ref (c 102), .int p0, .ref (c 0)] : List Value).toArray below meth cM H locs K9_2 M9_2 (MQ below (va_Qi (fun r (u : Int32) => r = u) (fun u t => ∃ (x9 : Int32) (x10 : Int32) (x11 : Int32) (x12 : Int32) (x13 : Int32) (e9 cap9 : Nat) (num9 : Nat → Int32) (R9 : va_W), (0 ≤ u.toInt) ∧ (u.toInt ≤ 1) ∧ (0 ≤ x9.toInt) ∧ (x9.toInt ≤ 1) ∧ (0 ≤ x13.toInt) ∧ (x13.toInt ≤ 65536) ∧ (PI (kc 98) (kc 0) e9 x13 cap9 num9 none R9) ∧ (∀ y m, pgM (kc 0) R y m → pgM (kc 0) R9 y m) ∧ (va_D A (cw_W (rU c 99 e9) kc (rU (rU (rU (rU (rU st 9 x9) 10 x10) 11 x11) 12 x12) 13 x13) lg ai al R9)) ∧ (NI cap9 x13) ∧ (cap9 = 0 → cap = 0 ∧ e9 = c 99) ∧ (cap ≤ cap9) ∧ ((st 13).toInt ≤ x13.toInt) ∧ (x13.toInt ≤ (st 13).toInt + 1) ∧ (((t.heap.size : Nat) : Int) ≤ ((s.heap.size : Nat) : Int) + 0 + 3 * (x13.toInt - (st 13).toInt)) ∧ (((tot t.heap : Nat) : Int) ≤ ((tot s.heap : Nat) : Int) + 0 + 29 * (x13.toInt - (st 13).toInt) + 4 * (((cap9 : Nat) : Int) - ((cap : Nat) : Int))) ∧ va_P (dC, dI) vwCl (cw_W (rU c 99 e9) kc (rU (rU (rU (rU (rU st 9 x9) 10 x10) 11 x11) 12 x12) 13 x13) lg ai al R9) t.heap) A) ([.ref (c 102), .int p0, .ref (c 0)] : List Value).toArray s 6 640000 A) (F0 m 2 ls []) := by
      intro n
      induction n with
      | zero => intro l3_2 s9_2 s10_2 s11_2 s12_2 s13_2 E9_2 C9_2 N9_2 K9_2 M9_2 R9_2 H locs ls if0_2 if1_2 if2_2 if3_2 if4_2 if5_2 if6_2 if7_2 hlp hPI hD hmono hN hN1 hc0 hcp hK9 hM9 hm; exact absurd hm (Nat.not_lt_zero _)
      | succ n ih2 =>
        intro l3_2 s9_2 s10_2 s11_2 s12_2 s13_2 E9_2 C9_2 N9_2 K9_2 M9_2 R9_2 H locs ls if0_2 if1_2 if2_2 if3_2 if4_2 if5_2 if6_2 if7_2 hlp hPI hD hmono hN hN1 hc0 hcp hK9 hM9 hm2 hP hS hl
        refine lv_iload_n hx hb dX1_writePage_2 rfl (lv_at hl 0 rfl) ?_
        refine lv_bipush (v := 26) hx hb dX1_writePage_3 (by decide) ?_
        refine lv_icmp_ge (tgt := 46) hx hb dX1_writePage_5 (by decide) (fun c_1 => ?_) (fun c_1 => ?_)
        · skip
          have ic_1 := iv_le c_1
          refine lv_iconst (v := 1) hx hb dX1_writePage_46 (by decide) ?_
          refine W_read (fun hu1 hu2 => ?_)
          refine W.widen (k := 6) (n := 640000) (by omega) (by omega) ?_
          exact W.zret hx hb hr rfl (fun t ht hW => ⟨⟨_, _, rfl, rfl, s9_2, s10_2, s11_2, s12_2, s13_2, E9_2, C9_2, N9_2, R9_2, (by omega), (by omega), (by omega), (by omega), (by omega), (by omega), hPI, hmono, (cw_D hD), hN, hc0, hcp, (by omega), (by omega), (by rw [ht]; omega), (by rw [ht]; omega), by rw [ht]; exact hP⟩, hS.F ht⟩) hS.2.2 dX1_writePage_47
        · skip
          have ic_1 := iv_nle c_1
          refine lv_aload_n hx hb dX1_writePage_8 rfl (lv_at hl 1 rfl) ?_
          have hFc := vfree ((cw_D hD : va_D A (cw_W (rU c 99 E9_2) kc (rU (rU (rU (rU (rU st 9 s9_2) 10 s10_2) 11 s11_2) 12 s12_2) 13 s13_2) lg ai al R9_2)) : va_D A (cw_W (rU c 99 E9_2) kc (rU (rU (rU (rU (rU st 9 s9_2) 10 s10_2) 11 s11_2) 12 s12_2) 13 s13_2) lg ai al R9_2)) hS hA
          refine va_calli (va_runV (As := []) (rest := []) ⟨hx, hb, hml, hown, hts⟩ (v_X1_act l dC dI (rU c 99 E9_2) kc (rU (rU (rU (rU (rU st 9 s9_2) 10 s10_2) 11 s11_2) 12 s12_2) 13 s13_2) lg ai al R9_2  _ (show 0 ≤ s9_2.toInt by omega) (show s9_2.toInt ≤ 1 by omega)) (cwV 0 hts gX1_writePage_X1_act rfl rfl rfl (by decide +kernel) ⟨Nat.le_of_ble_eq_true rfl, Nat.le_of_ble_eq_true rfl⟩) ⟨fun a U g mk q => by obtain ⟨q0, q1, qP, qK, qD⟩ := q; exact ⟨q0, q1, qP, va_K.moved (u := U) (U := U.calling g mk a) (Vm.Alike.refl U.vm) qK, qD⟩, va_recv hK hP (ci := 3) (q := (RX1, TX1, 7)) rfl (q0 := 2) rfl, fun U hU hW => ⟨rfl, by rw [hU], by rw [hU]; exact hP, va_K.moved hW.alike hK, ((cw_D hD : va_D A (cw_W (rU c 99 E9_2) kc (rU (rU (rU (rU (rU st 9 s9_2) 10 s10_2) 11 s11_2) 12 s12_2) 13 s13_2) lg ai al R9_2))).weaken (fun _ _ _ _ => trivial)⟩⟩ rfl rfl hl.1 rfl (lv_room (Nat.le_of_ble_eq_true rfl)) dX1_writePage_9 ⟨by show K9_2 + 0 ≤ 6; omega, by show M9_2 + 0 ≤ 640000; omega⟩) hS (fun q _ h => hFc q h) hFc (fun r_2 ur_2 t H1 locs ht hvm er_2 hB hz1 hk1 hS => ?_)
          subst er_2
          obtain ⟨x9_2, x10_2, x11_2, k_3, k_4, k_5, k_6, hP1⟩ := hB
          rw [ht] at hP1
          clear hFc hz1 hk1 hvm hP
          subst ht
          have hP := hP1
          clear hP1
          generalize t.heap = H at hP hS ⊢
          have hP : va_P (dC, dI) vwCl (cw_W (rU c 99 E9_2) kc (rU (rU (rU (rU (rU st 9 x9_2) 10 x10_2) 11 x11_2) 12 s12_2) 13 s13_2) lg ai al R9_2) H := hP
          have k_5 : 0 ≤ x9_2.toInt := k_5
          have k_6 : x9_2.toInt ≤ 1 := k_6
          rcases iv_01 (a := r_2) (by omega) (by omega) with b_7 | b_7
          · skip
            have ib_7 := iv_eq b_7
            rw [b_7]
            refine lv_if_ne (tgt := 17) hx hb dX1_writePage_12 (by decide) (fun c_8 => ?_) (fun c_8 => ?_)
            · skip
              have ic_8 := iv_ne c_8
              exfalso
              omega
            · skip
              have ic_8 := iv_eq c_8
              refine lv_iconst (v := 0) hx hb dX1_writePage_15 (by decide) ?_
              refine W_read (fun hu1 hu2 => ?_)
              refine W.widen (k := 6) (n := 640000) (by omega) (by omega) ?_
              exact W.zret hx hb hr rfl (fun t ht hW => ⟨⟨_, _, rfl, rfl, x9_2, x10_2, x11_2, s12_2, s13_2, E9_2, C9_2, N9_2, R9_2, (by omega), (by omega), (by omega), (by omega), (by omega), (by omega), hPI, hmono, (cw_D hD), hN, hc0, hcp, (by omega), (by omega), (by rw [ht]; omega), (by rw [ht]; omega), by rw [ht]; exact hP⟩, hS.F ht⟩) hS.2.2 dX1_writePage_16
          · skip
            have ib_7 := iv_eq b_7
            rw [b_7]
            refine lv_if_ne (tgt := 17) hx hb dX1_writePage_12 (by decide) (fun c_9 => ?_) (fun c_9 => ?_)
            · skip
              have ic_9 := iv_ne c_9
              refine lv_aload_n hx hb dX1_writePage_17 rfl (lv_at hl 1 rfl) ?_
              refine lv_iload_n hx hb dX1_writePage_18 rfl (lv_at hl 2 rfl) ?_
              refine W_read (fun hu1 hu2 => ?_)
              have hFc := vfree ((cw_D hD : va_D A (cw_W (rU c 99 E9_2) kc (rU (rU (rU (rU (rU st 9 x9_2) 10 x10_2) 11 x11_2) 12 s12_2) 13 s13_2) lg ai al R9_2)) : va_D A (cw_W (rU c 99 E9_2) kc (rU (rU (rU (rU (rU st 9 x9_2) 10 x10_2) 11 x11_2) 12 s12_2) 13 s13_2) lg ai al R9_2)) hS hA
              refine va_callq (va_runV (As := [.int p0]) (rest := []) ⟨hx, hb, hml, hown, hts⟩ (v_X1_touch l dC dI (rU c 99 E9_2) kc (rU (rU (rU (rU (rU st 9 x9_2) 10 x10_2) 11 x11_2) 12 s12_2) 13 s13_2) lg ai al R9_2 C9_2 N9_2 p0 _ _ hPI hN (show 0 ≤ s13_2.toInt by omega) (show s13_2.toInt ≤ 65536 by omega) (by omega) (by omega)) (cwV 1 hts gX1_writePage_X1_touch rfl rfl rfl (by decide +kernel) ⟨Nat.le_of_ble_eq_true rfl, Nat.le_of_ble_eq_true rfl⟩) ⟨fun a U g mk q => by obtain ⟨q0, q1, q2, qP, qK, qD, qG⟩ := q; exact ⟨q0, q1, q2, qP, va_K.moved (u := U) (U := U.calling g mk a) (Vm.Alike.refl U.vm) qK, qD, qG.same rfl rfl⟩, va_recv hK hP (ci := 3) (q := (RX1, TX1, 7)) rfl (q0 := 2) rfl, fun U hU hW => ⟨rfl, by rw [hU], by rw [hU], by rw [hU]; exact hP, va_K.moved hW.alike hK, ((cw_D hD : va_D A (cw_W (rU c 99 E9_2) kc (rU (rU (rU (rU (rU st 9 x9_2) 10 x10_2) 11 x11_2) 12 s12_2) 13 s13_2) lg ai al R9_2))).weaken (fun _ _ _ _ => trivial), hY.go hW hU hS hFc hc0⟩⟩ rfl rfl hl.1 rfl (lv_room (Nat.le_of_ble_eq_true rfl)) dX1_writePage_19 ⟨by show K9_2 + 3 ≤ 6; omega, by show M9_2 + 98400 ≤ 640000; omega⟩) hS (fun q _ h => hFc q h) hFc (fun r_10 ur_10 t H1 locs ht hvm er_10 hB hz1 hk1 hS => ?_)
              subst er_10
              obtain ⟨x12_10, x13_10, e_10, cap_10, num_10, R_10, k_11, k_12, hq, hnn, hth, hthn, hPI, hmo, hD1, hN, hc1, hcp1, hnn1, hnn2, hus1, hus2, hP1⟩ := hB
              rw [ht] at hP1
              clear hz1 hk1 hvm hP
              subst ht
              have hP := hP1
              clear hP1
              generalize t.heap = H at hP hS hus1 hus2 ⊢
              rw [rU_rU (f := c) (k := 99) (a := E9_2) (b := e_10)] at hP
              have hP : va_P (dC, dI) vwCl (cw_W (rU c 99 e_10) kc (rU (rU (rU (rU (rU st 9 x9_2) 10 x10_2) 11 x11_2) 12 x12_10) 13 x13_10) lg ai al R_10) H := hP
              rw [rU_rU (f := c) (k := 99) (a := E9_2) (b := e_10)] at hD1
              have hD : va_D A (cw_W (rU c 99 e_10) kc st lg ai al R_10) := cw_D (hD1.weaken (fun _ _ _ h => hFc _ h))
              have hc0 : cap_10 = 0 → cap = 0 ∧ e_10 = c 99 := fun h => ⟨(hc0 (hc1 h).1).1, (show e_10 = E9_2 from (hc1 h).2).trans (hc0 (hc1 h).1).2⟩
              have hcp : cap ≤ cap_10 := Nat.le_trans hcp hcp1
              have hN1 : ((cap_10 : Nat) : Int) ≤ 10 + 2 * x13_10.toInt := hN.1
              have hnn1 : s13_2.toInt ≤ x13_10.toInt := hnn1
              have hnn2 : x13_10.toInt ≤ s13_2.toInt + 1 := hnn2
              have hus1 : ((H.size : Nat) : Int) ≤ _ + 0 + 3 * (x13_10.toInt - s13_2.toInt) := hus1
              have hus2 : ((tot H : Nat) : Int) ≤ _ + 0 + 29 * (x13_10.toInt - s13_2.toInt) + 4 * (((cap_10 : Nat) : Int) - ((C9_2 : Nat) : Int)) := hus2
              obtain ⟨k_13, hk_13⟩ : ∃ k9 : Nat, (k9 : Int) = ((K9_2 : Nat) : Int) + 0 + 3 * (x13_10.toInt - s13_2.toInt) := ⟨(((K9_2 : Nat) : Int) + 0 + 3 * (x13_10.toInt - s13_2.toInt)).toNat, by omega⟩
              obtain ⟨m_13, hm_13⟩ : ∃ m9 : Nat, (m9 : Int) = ((M9_2 : Nat) : Int) + 0 + 29 * (x13_10.toInt - s13_2.toInt) + 4 * (((cap_10 : Nat) : Int) - ((C9_2 : Nat) : Int)) := ⟨(((M9_2 : Nat) : Int) + 0 + 29 * (x13_10.toInt - s13_2.toInt) + 4 * (((cap_10 : Nat) : Int) - ((C9_2 : Nat) : Int))).toNat, by omega⟩
              refine W_tight (k' := k_13) (m' := m_13) (by omega) (by omega) ?_
              clear hus1 hus2 hu1 hu2
              have hPI : PI (kc 98) (kc 0) e_10 x13_10 cap_10 num_10 none R_10 := hPI
              clear hFc hD1
              have hmono : ∀ y m, pgM (kc 0) R y m → pgM (kc 0) R_10 y m := fun y m h => hmo y m (hmono y m h)
              have k_11 : 0 ≤ x13_10.toInt := k_11
              have k_12 : x13_10.toInt ≤ 65536 := k_12
              have hq : ∀ x, r_10 = some x → ∃ m, pgM (kc 0) R_10 x m ∧ m.toInt = p0.toInt := hq
              have hnn : r_10 ≠ none := hnn
              have hth : thr N9_2 s13_2 p0 → x13_10.toInt = s13_2.toInt := hth
              have hthn : thr num_10 x13_10 p0 := hthn
              rcases r_10 with _ | x_14
              · skip
                exact absurd rfl hnn
              · skip
                refine W.eq (g2 := F0 m 22 ls [.ref x_14]) rfl ?_
                obtain ⟨m_15, hM_x_14, hQ⟩ := hq x_14 rfl
                have k_16 : x13_10.toInt ≤ (st 13).toInt + 1 := (by rcases hlp with ⟨q1, q2⟩ | q1; omega; have q2 := hth q1; omega)
                refine lv_astore (lv' := [(4, .ref x_14), (3, .int l3_2), (0, .ref (c 102)), (1, .int p0), (2, .ref (c 0))]) hx hb dX1_writePage_22 hl (by decide) rfl (fun ls hl => ?_)
                refine lv_aload hx hb dX1_writePage_24 (lv_at hl 0 rfl) ?_
                have hMo := hM_x_14
                obtain ⟨b_17, k9_17, f9_17, ⟨j_17, hj_17⟩, i_17, hi_17⟩ := hMo
                refine va_getN (D := (dC, dI)) (ci := 4) (v := .ref b_17) (C := RX2) (T := TX2) (N := 3) hx hb hts hin_X2 hown hK hP (26 + j_17) (cw_at hj_17) rfl 1 (by decide) (va_Nw.use rfl (hGW.1 ("BlockLog$Disk", 43, "BlockLog$Page", "bytes", "[B", "BlockLog") (by decide +kernel))) (fun _ h9 => h9) rfl dX1_writePage_26 ?_
                refine lv_iload_n hx hb dX1_writePage_29 rfl (lv_at hl 1 rfl) ?_
                refine lv_aload_n hx hb dX1_writePage_30 rfl (lv_at hl 4 rfl) ?_
                refine lv_iload_n hx hb dX1_writePage_31 rfl (lv_at hl 1 rfl) ?_
                refine va_bald (f := ai 0) hx hb hK hP 8 0 rfl rfl (iv_in (i := l3_2) (by omega) (by omega)) dX1_writePage_32 ?_
                refine lv_topi (fun v_18 ev_18 => ?_)
                clear ev_18
                refine va_bast (f := f9_17) hx hb hK hP (cw_D hD) hS (26 + i_17) 0 (cw_at hi_17) rfl (iv_in (i := l3_2) (by omega) (by omega)) dX1_writePage_33 (fun H locs hP hD9 hS => ?_)
                generalize hUp : upd f9_17 l3_2.toNatClampNeg (vp_nar .byte v_18) = f9_19 at hP hD9
                obtain ⟨R_19, hP, hD, hPI1, hPI2, hmo, hj_19, hi_19⟩ := pg_setb (f' := f9_19) hP hD9 hPI hj_17 hi_17 (Or.inl rfl)
                have hPI := hPI1
                clear hUp
                have hM_x_14 := hmo _ _ hM_x_14
                have hmono : ∀ y m, pgM (kc 0) R y m → pgM (kc 0) R_19 y m := fun y m h => hmo y m (hmono y m h)
                have hP : va_P (dC, dI) vwCl (cw_W (rU c 99 e_10) kc (rU (rU (rU (rU (rU st 9 x9_2) 10 x10_2) 11 x11_2) 12 x12_10) 13 x13_10) lg ai al R_19) H := hP
                refine lv_aload hx hb dX1_writePage_34 (lv_at hl 0 rfl) ?_
                refine lv_iconst (v := 0) hx hb dX1_writePage_36 (by decide) ?_
                refine va_putN (D := (dC, dI)) (ci := 4) (v := .int (0 : Int32)) (ty := .int) (C := RX2) (T := TX2) (N := 3) hx hb hts hin_X2 tyX2 tyX2_ok nmX2 hown hK hP (cw_D hD) hS (26 + j_17) (cw_at hj_19) rfl 2 (by decide) (va_Nw.use rfl (hGW.1 ("BlockLog$Disk", 55, "BlockLog$Page", "known", "I", "BlockLog") (by decide +kernel))) (fun _ h9 => h9) rfl (by decide +kernel) rfl rfl (Nat.le_of_ble_eq_true rfl) dX1_writePage_37 (fun H locs hP hD9 hS => ?_)
                obtain ⟨R_20, hP, hD, hPI1, hPI2, hmo, hj_20, hi_20⟩ := pg_setk (k' := (0 : Int32)) hP hD9 hPI hj_19 hi_19 (Or.inr rfl)
                have hPI := hPI2 (by decide)
                have hM_x_14 := hmo _ _ hM_x_14
                have hmono : ∀ y m, pgM (kc 0) R y m → pgM (kc 0) R_20 y m := fun y m h => hmo y m (hmono y m h)
                have hP : va_P (dC, dI) vwCl (cw_W (rU c 99 e_10) kc (rU (rU (rU (rU (rU st 9 x9_2) 10 x10_2) 11 x11_2) 12 x12_10) 13 x13_10) lg ai al R_20) H := hP
                obtain ⟨x_21, ex_21⟩ : ∃ z : Int32, z = l3_2 + (1) := ⟨_, rfl⟩
                refine lv_iinc (v := x_21) (lv' := [(3, .int x_21), (4, .ref x_14), (0, .ref (c 102)), (1, .int p0), (2, .ref (c 0))]) hx hb dX1_writePage_40 hl (k := 1) rfl (by rw [ex_21]; rfl) (by decide) rfl (fun ls hl => ?_)
                have rg1 := iv_rng l3_2
                have hx_21 : x_21.toInt = l3_2.toInt + (1) := by rw [ex_21]; exact (iv_add (by omega) (by omega)).trans (by omega)
                clear ex_21
                refine lv_goto (tgt := 2) hx hb dX1_writePage_43 (by decide) ?_
                exact ih2 x_21 x9_2 x10_2 x11_2 x12_10 x13_10 e_10 cap_10 num_10 k_13 m_13 R_20 _ _ _ (by omega) (by omega) (by omega) (by omega) (by omega) (by omega) (by omega) (by omega) (Or.inr hthn) hPI (cw_D hD) hmono hN hN.1 hc0 hcp (by omega) (by omega) (by omega) hP hS (lv_sub hl [0, 2, 3, 4] rfl)
            · skip
              have ic_9 := iv_eq c_9
              exfalso
              omega
    exact loop2 ((26 - 0 : Int).toNat + 1) (0 : Int32) (st 9) (st 10) (st 11) (st 12) (st 13) (c 99) cap num 0 0 R _ _ _ (by omega) (by omega) (by omega) (by omega) (by omega) (by omega) (by omega) (by omega) (Or.inl ⟨by omega, by omega⟩) hPI (cw_D hD) hmono hN hN.1 hc0 hcp (by omega) (by omega) (by omega) hP hS (lv_sub hl [0, 1, 2, 3] rfl)
  exact main s.heap [] hP hS

set_option maxHeartbeats 4000000 in
set_option maxRecDepth 100000 in
theorem v_X8_putLeaf (l : Launch) (dC : Nat → ClassId) (dI : Nat → Nat → Nat) (c : Nat → Nat) (kc : Nat → ClassId) (st : Nat → Int32) (lg : Nat → Int64) (ai : Nat → Nat → Int32) (al : Nat → Nat → Int64) (R : va_W) (cap : Nat) (num : Nat → Int32)  (sz tz : Nat) (hPI : PI (kc 98) (kc 0) (c 99) (st 13) cap num none R) (hN : NI cap (st 13)) (hf6a : 1 ≤ (st 6).toInt) (hf6b : (st 6).toInt ≤ 65536) (hf9a : 0 ≤ (st 9).toInt) (hf9b : (st 9).toInt ≤ 1) (hf13a : 0 ≤ (st 13).toInt) (hf13b : (st 13).toInt ≤ 65536) : Met l yX8_putLeaf wsX8_putLeaf ({ frames := 9, cells := 6, slots := 640000, locals := 447 }) (va_Pc [.ref (c 100)] (fun U => U.heap.size = sz ∧ tot U.heap = tz ∧ va_P (dC, dI) vwCl (cw_W c kc st lg ai al R) U.heap ∧ va_K (dC, dI) vwCl (cw_T kc) U ∧ va_D (fun _ => True) (cw_W c kc st lg ai al R) ∧ gy_E cap (c 99) (va_A (cw_W c kc st lg ai al R) sz) U)) (va_Qi (fun r (u : Int32) => r = u) (fun u t => ∃ (x9 : Int32) (x10 : Int32) (x11 : Int32) (x12 : Int32) (x13 : Int32) (e9 cap9 : Nat) (num9 : Nat → Int32) (R9 : va_W), (0 ≤ x9.toInt) ∧ (x9.toInt ≤ 1) ∧ (0 ≤ x13.toInt) ∧ (x13.toInt ≤ 65536) ∧ (PI (kc 98) (kc 0) e9 x13 cap9 num9 none R9) ∧ (∀ y m, pgM (kc 0) R y m → pgM (kc 0) R9 y m) ∧ (va_D (va_A (cw_W c kc st lg ai al R) sz) (cw_W (rU c 99 e9) kc (rU (rU (rU (rU (rU st 9 x9) 10 x10) 11 x11) 12 x12) 13 x13) lg ai al R9)) ∧ (NI cap9 x13) ∧ (cap9 = 0 → cap = 0 ∧ e9 = c 99) ∧ (cap ≤ cap9) ∧ ((st 13).toInt ≤ x13.toInt) ∧ (x13.toInt ≤ (st 13).toInt + 1) ∧ (((t.heap.size : Nat) : Int) ≤ ((sz : Nat) : Int) + 0 + 3 * (x13.toInt - (st 13).toInt)) ∧ (((tot t.heap : Nat) : Int) ≤ ((tz : Nat) : Int) + 0 + 29 * (x13.toInt - (st 13).toInt) + 4 * (((cap9 : Nat) : Int) - ((cap : Nat) : Int))) ∧ va_P (dC, dI) vwCl (cw_W (rU c 99 e9) kc (rU (rU (rU (rU (rU st 9 x9) 10 x10) 11 x11) 12 x12) 13 x13) lg ai al R9) t.heap) (va_A (cw_W c kc st lg ai al R) sz)) 6 640000 (va_A (cw_W c kc st lg ai al R) sz) := by
  refine Met.ofW (cc := cX8_putLeaf) (maxL := 3) (ret := (some .int)) (by decide) rfl ?_
  intro p e s m args below meth cM s₁ B hml hv
  obtain ⟨rfl, hsz, htz, hP, hK, hD0, hY⟩ := hv
  have hx := B.exec
  have hb := B.bytes
  have hr := B.returns
  have hts := atoms_spec (ws := wsX8_putLeaf) B.pre
  have hown : s.vm.findClass RX8 = some m.cls := findClass_of_methodNamed B.named
  have hG0 := hY.1
  have hGW := hG0.1
  subst hsz
  subst htz
  clear hG0
  have hD := hD0.self (sz := s.heap.size)
  generalize hAe : va_A (cw_W c kc st lg ai al R) s.heap.size = A at hD hY ⊢
  have hA : ∀ q : Nat, s.heap.size ≤ q → A q := fun q h => by rw [← hAe]; exact Or.inr h
  have hS : va_S A s.heap s.heap [] := va_S.rf
  clear hAe hD0
  have hl := lv_entry ([.ref (c 100)]) (n := 3) (Nat.le_of_ble_eq_true rfl)
  rw [lg_entry_eq]
  generalize (lg_sl ([.ref (c 100)]) ++ List.replicate (3 - (lg_sl ([.ref (c 100)])).length) Slot.unset).toArray = ls at hl ⊢
  have hl : lv_has ls 3 [(0, .ref (c 100))] := hl
  have z_m4 : (-4 : Int32).toInt = -4 := by decide
  have z_m2 : (-2 : Int32).toInt = -2 := by decide
  have z_m1 : (-1 : Int32).toInt = -1 := by decide
  have z_0 : (0 : Int32).toInt = 0 := by decide
  have z_1 : (1 : Int32).toInt = 1 := by decide
  have hin_X8 : ∀ w ∈ u_ws RX8 TX8 10, w ∈ wsX8_putLeaf := by decide +kernel
  have hmono : ∀ y m, pgM (kc 0) R y m → pgM (kc 0) R y m := fun y m h => h
  have hG := hY.1
  have hP : va_P (dC, dI) vwCl (cw_W (rU c 99 (c 99)) kc st lg ai al R) s.heap := by rw [rU_self]; exact hP
  have hD : va_D A (cw_W (rU c 99 (c 99)) kc st lg ai al R) := by rw [rU_self]; exact hD
  have hc0 : cap = 0 → cap = 0 ∧ c 99 = c 99 := fun h => ⟨h, rfl⟩
  have hcp : cap ≤ cap := Nat.le_refl _
  have hN1 : ((cap : Nat) : Int) ≤ 10 + 2 * (st 13).toInt := hN.1
  have main : ∀ (H : Heap) (locs : List Loc), va_P (dC, dI) vwCl (cw_W (rU c 99 (c 99)) kc st lg ai al R) H → va_S A s.heap H locs → W p l e (headSpec wsX8_putLeaf ({ frames := 9, cells := 6, slots := 640000, locals := 447 })).room s m ([.ref (c 100)] : List Value).toArray below meth cM H locs 0 0 (MQ below (va_Qi (fun r (u : Int32) => r = u) (fun u t => ∃ (x9 : Int32) (x10 : Int32) (x11 : Int32) (x12 : Int32) (x13 : Int32) (e9 cap9 : Nat) (num9 : Nat → Int32) (R9 : va_W), (0 ≤ x9.toInt) ∧ (x9.toInt ≤ 1) ∧ (0 ≤ x13.toInt) ∧ (x13.toInt ≤ 65536) ∧ (PI (kc 98) (kc 0) e9 x13 cap9 num9 none R9) ∧ (∀ y m, pgM (kc 0) R y m → pgM (kc 0) R9 y m) ∧ (va_D A (cw_W (rU c 99 e9) kc (rU (rU (rU (rU (rU st 9 x9) 10 x10) 11 x11) 12 x12) 13 x13) lg ai al R9)) ∧ (NI cap9 x13) ∧ (cap9 = 0 → cap = 0 ∧ e9 = c 99) ∧ (cap ≤ cap9) ∧ ((st 13).toInt ≤ x13.toInt) ∧ (x13.toInt ≤ (st 13).toInt + 1) ∧ (((t.heap.size : Nat) : Int) ≤ ((s.heap.size : Nat) : Int) + 0 + 3 * (x13.toInt - (st 13).toInt)) ∧ (((tot t.heap : Nat) : Int) ≤ ((tot s.heap : Nat) : Int) + 0 + 29 * (x13.toInt - (st 13).toInt) + 4 * (((cap9 : Nat) : Int) - ((cap : Nat) : Int))) ∧ va_P (dC, dI) vwCl (cw_W (rU c 99 e9) kc (rU (rU (rU (rU (rU st 9 x9) 10 x10) 11 x11) 12 x12) 13 x13) lg ai al R9) t.heap) A) ([.ref (c 100)] : List Value).toArray s 6 640000 A) (F0 m 0 ls []) := by
    intro H locs hP hS
    refine lv_aload_n hx hb dX8_putLeaf_0 rfl (lv_at hl 0 rfl) ?_
    refine va_get (D := (dC, dI)) (ci := 10) (v := .ref (c 102)) (C := RX8) (T := TX8) (N := 10) hx hb hts hin_X8 hown hK hP 0 rfl rfl 1 (by decide) (hts (.fieldLink RX8 22 "BlockLog" "disk" "LBlockLog$Disk;") (by decide +kernel)) (fun _ h9 => h9) rfl dX8_putLeaf_1 ?_
    refine lv_aload_n hx hb dX8_putLeaf_4 rfl (lv_at hl 0 rfl) ?_
    refine va_get (D := (dC, dI)) (ci := 10) (v := .ref (c 0)) (C := RX8) (T := TX8) (N := 10) hx hb hts hin_X8 hown hK hP 0 rfl rfl 6 (by decide) (hts (.fieldLink RX8 60 "BlockLog" "pageImage" "[B") (by decide +kernel)) (fun _ h9 => h9) rfl dX8_putLeaf_5 ?_
    have hFc := vfree ((cw_D hD : va_D A (cw_W (rU c 99 (c 99)) kc st lg ai al R)) : va_D A (cw_W (rU c 99 (c 99)) kc st lg ai al R)) hS hA
    refine va_calli (va_runV (As := [.ref (c 0)]) (rest := []) ⟨hx, hb, hml, hown, hts⟩ (v_X1_sameLeaf l dC dI (rU c 99 (c 99)) kc st lg ai al R cap num  _ hPI (show 0 ≤ (st 13).toInt by omega) (show (st 13).toInt ≤ 65536 by omega)) (cwV 1 hts gX8_putLeaf_X1_sameLeaf rfl rfl rfl (by decide +kernel) ⟨Nat.le_of_ble_eq_true rfl, Nat.le_of_ble_eq_true rfl⟩) ⟨fun a U g mk q => by obtain ⟨q0, q1, qP, qK, qD, qG⟩ := q; exact ⟨q0, q1, qP, va_K.moved (u := U) (U := U.calling g mk a) (Vm.Alike.refl U.vm) qK, qD, qG.same rfl rfl⟩, va_recv hK hP (ci := 3) (q := (RX1, TX1, 7)) rfl (q0 := 2) rfl, fun U hU hW => ⟨rfl, by rw [hU], by rw [hU]; exact hP, va_K.moved hW.alike hK, ((cw_D hD : va_D A (cw_W (rU c 99 (c 99)) kc st lg ai al R))).weaken (fun _ _ _ _ => trivial), hG.go hW hU hS hFc⟩⟩ rfl rfl hl.1 rfl (lv_room (Nat.le_of_ble_eq_true rfl)) dX8_putLeaf_8 ⟨by show 0 + 0 ≤ 6; omega, by show 0 + 0 ≤ 640000; omega⟩) hS (fun q _ h => hFc q h) hFc (fun r_1 ur_1 t H1 locs ht hvm er_1 hB hz1 hk1 hS => ?_)
    subst er_1
    obtain ⟨R_1, hPI, hmo, hD1, hP1⟩ := hB
    rw [ht] at hP1
    clear hz1 hk1 hvm hP
    subst ht
    have hP := hP1
    clear hP1
    generalize t.heap = H at hP hS ⊢
    have hP : va_P (dC, dI) vwCl (cw_W (rU c 99 (c 99)) kc st lg ai al R_1) H := hP
    have hD : va_D A (cw_W (rU c 99 (c 99)) kc st lg ai al R_1) := cw_D (hD1.weaken (fun _ _ _ h => hFc _ h))
    have hPI : PI (kc 98) (kc 0) (c 99) (st 13) cap num none R_1 := hPI
    clear hFc hD1
    have hmono : ∀ y m, pgM (kc 0) R y m → pgM (kc 0) R_1 y m := fun y m h => hmo y m (hmono y m h)
    refine lv_istore_n (lv' := [(1, .int r_1), (0, .ref (c 100))]) hx hb dX8_putLeaf_11 rfl hl (by decide) rfl (fun ls hl => ?_)
    refine lv_iload_n hx hb dX8_putLeaf_12 rfl (lv_at hl 0 rfl) ?_
    refine lv_iconst (v := (-1)) hx hb dX8_putLeaf_13 (by decide) ?_
    refine lv_icmp_eq (tgt := 19) hx hb dX8_putLeaf_14 (by decide) (fun c_2 => ?_) (fun c_2 => ?_)
    · skip
      have ic_2 := iv_eq c_2
      refine lv_aload_n hx hb dX8_putLeaf_19 rfl (lv_at hl 1 rfl) ?_
      refine va_get (D := (dC, dI)) (ci := 10) (v := .ref (c 102)) (C := RX8) (T := TX8) (N := 10) hx hb hts hin_X8 hown hK hP 0 rfl rfl 1 (by decide) (hts (.fieldLink RX8 22 "BlockLog" "disk" "LBlockLog$Disk;") (by decide +kernel)) (fun _ h9 => h9) rfl dX8_putLeaf_20 ?_
      have hFc := vfree ((cw_D hD : va_D A (cw_W (rU c 99 (c 99)) kc st lg ai al R_1)) : va_D A (cw_W (rU c 99 (c 99)) kc st lg ai al R_1)) hS hA
      refine va_calli (va_runV (As := []) (rest := []) ⟨hx, hb, hml, hown, hts⟩ (v_X1_firstFree l dC dI (rU c 99 (c 99)) kc st lg ai al R_1 cap num  _ hPI (show 1 ≤ (st 6).toInt by omega) (show (st 6).toInt ≤ 65536 by omega) (show 0 ≤ (st 13).toInt by omega) (show (st 13).toInt ≤ 65536 by omega)) (cwV 0 hts gX8_putLeaf_X1_firstFree rfl rfl rfl (by decide +kernel) ⟨Nat.le_of_ble_eq_true rfl, Nat.le_of_ble_eq_true rfl⟩) ⟨fun a U g mk q => by obtain ⟨q0, q1, qP, qK, qD, qG⟩ := q; exact ⟨q0, q1, qP, va_K.moved (u := U) (U := U.calling g mk a) (Vm.Alike.refl U.vm) qK, qD, qG.same rfl rfl⟩, va_recv hK hP (ci := 3) (q := (RX1, TX1, 7)) rfl (q0 := 2) rfl, fun U hU hW => ⟨rfl, by rw [hU], by rw [hU]; exact hP, va_K.moved hW.alike hK, ((cw_D hD : va_D A (cw_W (rU c 99 (c 99)) kc st lg ai al R_1))).weaken (fun _ _ _ _ => trivial), hG.go hW hU hS hFc⟩⟩ rfl rfl hl.1 rfl (lv_room (Nat.le_of_ble_eq_true rfl)) dX8_putLeaf_23 ⟨by show 0 + 0 ≤ 6; omega, by show 0 + 0 ≤ 640000; omega⟩) hS (fun q _ h => hFc q h) hFc (fun r_3 ur_3 t H1 locs ht hvm er_3 hB hz1 hk1 hS => ?_)
      subst er_3
      obtain ⟨R_3, k_4, hPI, hmo, hD1, hP1⟩ := hB
      rw [ht] at hP1
      clear hz1 hk1 hvm hP
      subst ht
      have hP := hP1
      clear hP1
      generalize t.heap = H at hP hS ⊢
      have hP : va_P (dC, dI) vwCl (cw_W (rU c 99 (c 99)) kc st lg ai al R_3) H := hP
      have hD : va_D A (cw_W (rU c 99 (c 99)) kc st lg ai al R_3) := cw_D (hD1.weaken (fun _ _ _ h => hFc _ h))
      have hPI : PI (kc 98) (kc 0) (c 99) (st 13) cap num none R_3 := hPI
      clear hFc hD1
      have hmono : ∀ y m, pgM (kc 0) R y m → pgM (kc 0) R_3 y m := fun y m h => hmo y m (hmono y m h)
      refine lv_istore_n (lv' := [(2, .int r_3), (1, .int r_1), (0, .ref (c 100))]) hx hb dX8_putLeaf_26 rfl hl (by decide) rfl (fun ls hl => ?_)
      refine lv_iload_n hx hb dX8_putLeaf_27 rfl (lv_at hl 0 rfl) ?_
      refine lv_iconst (v := (-1)) hx hb dX8_putLeaf_28 (by decide) ?_
      refine lv_icmp_ne (tgt := 35) hx hb dX8_putLeaf_29 (by decide) (fun c_5 => ?_) (fun c_5 => ?_)
      · skip
        have ic_5 := iv_ne c_5
        refine lv_aload_n hx hb dX8_putLeaf_35 rfl (lv_at hl 2 rfl) ?_
        refine va_get (D := (dC, dI)) (ci := 10) (v := .ref (c 102)) (C := RX8) (T := TX8) (N := 10) hx hb hts hin_X8 hown hK hP 0 rfl rfl 1 (by decide) (hts (.fieldLink RX8 22 "BlockLog" "disk" "LBlockLog$Disk;") (by decide +kernel)) (fun _ h9 => h9) rfl dX8_putLeaf_36 ?_
        refine lv_iload_n hx hb dX8_putLeaf_39 rfl (lv_at hl 0 rfl) ?_
        refine lv_aload_n hx hb dX8_putLeaf_40 rfl (lv_at hl 2 rfl) ?_
        refine va_get (D := (dC, dI)) (ci := 10) (v := .ref (c 0)) (C := RX8) (T := TX8) (N := 10) hx hb hts hin_X8 hown hK hP 0 rfl rfl 6 (by decide) (hts (.fieldLink RX8 60 "BlockLog" "pageImage" "[B") (by decide +kernel)) (fun _ h9 => h9) rfl dX8_putLeaf_41 ?_
        refine W_read (fun hu1 hu2 => ?_)
        have hFc := vfree ((cw_D hD : va_D A (cw_W (rU c 99 (c 99)) kc st lg ai al R_3)) : va_D A (cw_W (rU c 99 (c 99)) kc st lg ai al R_3)) hS hA
        refine va_calli (va_runV (As := [.int r_3, .ref (c 0)]) (rest := []) ⟨hx, hb, hml, hown, hts⟩ (v_X1_writePage l dC dI (rU c 99 (c 99)) kc st lg ai al R_3 cap num r_3 _ _ hPI hN (show 0 ≤ (st 9).toInt by omega) (show (st 9).toInt ≤ 1 by omega) (show 0 ≤ (st 13).toInt by omega) (show (st 13).toInt ≤ 65536 by omega) (by omega) (by omega)) (cwV 2 hts gX8_putLeaf_X1_writePage rfl rfl rfl (by decide +kernel) ⟨Nat.le_of_ble_eq_true rfl, Nat.le_of_ble_eq_true rfl⟩) ⟨fun a U g mk q => by obtain ⟨q0, q1, q2, qP, qK, qD, qG⟩ := q; exact ⟨q0, q1, q2, qP, va_K.moved (u := U) (U := U.calling g mk a) (Vm.Alike.refl U.vm) qK, qD, qG.same rfl rfl⟩, va_recv hK hP (ci := 3) (q := (RX1, TX1, 7)) rfl (q0 := 2) rfl, fun U hU hW => ⟨rfl, by rw [hU], by rw [hU], by rw [hU]; exact hP, va_K.moved hW.alike hK, ((cw_D hD : va_D A (cw_W (rU c 99 (c 99)) kc st lg ai al R_3))).weaken (fun _ _ _ _ => trivial), hY.go hW hU hS hFc hc0⟩⟩ rfl rfl hl.1 rfl (lv_room (Nat.le_of_ble_eq_true rfl)) dX8_putLeaf_44 ⟨by show 0 + 6 ≤ 6; omega, by show 0 + 640000 ≤ 640000; omega⟩) hS (fun q _ h => hFc q h) hFc (fun r_6 ur_6 t H1 locs ht hvm er_6 hB hz1 hk1 hS => ?_)
        subst er_6
        obtain ⟨x9_6, x10_6, x11_6, x12_6, x13_6, e_6, cap_6, num_6, R_6, k_7, k_8, k_9, k_10, k_11, k_12, hPI, hmo, hD1, hN, hc1, hcp1, hnn1, hnn2, hus1, hus2, hP1⟩ := hB
        rw [ht] at hP1
        clear hz1 hk1 hvm hP
        subst ht
        have hP := hP1
        clear hP1
        generalize t.heap = H at hP hS hus1 hus2 ⊢
        rw [rU_rU (f := c) (k := 99) (a := (c 99)) (b := e_6)] at hP
        have hP : va_P (dC, dI) vwCl (cw_W (rU c 99 e_6) kc (rU (rU (rU (rU (rU st 9 x9_6) 10 x10_6) 11 x11_6) 12 x12_6) 13 x13_6) lg ai al R_6) H := hP
        rw [rU_rU (f := c) (k := 99) (a := (c 99)) (b := e_6)] at hD1
        have hD : va_D A (cw_W (rU c 99 e_6) kc st lg ai al R_6) := cw_D (hD1.weaken (fun _ _ _ h => hFc _ h))
        have hc0 : cap_6 = 0 → cap = 0 ∧ e_6 = c 99 := fun h => ⟨(hc0 (hc1 h).1).1, (show e_6 = c 99 from (hc1 h).2).trans (hc0 (hc1 h).1).2⟩
        have hcp : cap ≤ cap_6 := Nat.le_trans hcp hcp1
        have hN1 : ((cap_6 : Nat) : Int) ≤ 10 + 2 * x13_6.toInt := hN.1
        have hnn1 : (st 13).toInt ≤ x13_6.toInt := hnn1
        have hnn2 : x13_6.toInt ≤ (st 13).toInt + 1 := hnn2
        have hus1 : ((H.size : Nat) : Int) ≤ _ + 0 + 3 * (x13_6.toInt - (st 13).toInt) := hus1
        have hus2 : ((tot H : Nat) : Int) ≤ _ + 0 + 29 * (x13_6.toInt - (st 13).toInt) + 4 * (((cap_6 : Nat) : Int) - ((cap : Nat) : Int)) := hus2
        obtain ⟨k_13, hk_13⟩ : ∃ k9 : Nat, (k9 : Int) = ((0 : Nat) : Int) + 0 + 3 * (x13_6.toInt - (st 13).toInt) := ⟨(((0 : Nat) : Int) + 0 + 3 * (x13_6.toInt - (st 13).toInt)).toNat, by omega⟩
        obtain ⟨m_13, hm_13⟩ : ∃ m9 : Nat, (m9 : Int) = ((0 : Nat) : Int) + 0 + 29 * (x13_6.toInt - (st 13).toInt) + 4 * (((cap_6 : Nat) : Int) - ((cap : Nat) : Int)) := ⟨(((0 : Nat) : Int) + 0 + 29 * (x13_6.toInt - (st 13).toInt) + 4 * (((cap_6 : Nat) : Int) - ((cap : Nat) : Int))).toNat, by omega⟩
        refine W_tight (k' := k_13) (m' := m_13) (by omega) (by omega) ?_
        clear hus1 hus2 hu1 hu2
        have hPI : PI (kc 98) (kc 0) e_6 x13_6 cap_6 num_6 none R_6 := hPI
        clear hFc hD1
        have hmono : ∀ y m, pgM (kc 0) R y m → pgM (kc 0) R_6 y m := fun y m h => hmo y m (hmono y m h)
        have k_9 : 0 ≤ x9_6.toInt := k_9
        have k_10 : x9_6.toInt ≤ 1 := k_10
        have k_11 : 0 ≤ x13_6.toInt := k_11
        have k_12 : x13_6.toInt ≤ 65536 := k_12
        rcases iv_01 (a := r_6) (by omega) (by omega) with b_14 | b_14
        · skip
          have ib_14 := iv_eq b_14
          rw [b_14]
          refine lv_if_eq (tgt := 54) hx hb dX8_putLeaf_47 (by decide) (fun c_15 => ?_) (fun c_15 => ?_)
          · skip
            have ic_15 := iv_eq c_15
            refine lv_bipush (v := (-4)) hx hb dX8_putLeaf_54 (by decide) ?_
            refine W_read (fun hu1 hu2 => ?_)
            refine W.widen (k := 6) (n := 640000) (by omega) (by omega) ?_
            exact W.iret hx hb hr (fun t ht hW => ⟨⟨_, _, rfl, rfl, x9_6, x10_6, x11_6, x12_6, x13_6, e_6, cap_6, num_6, R_6, (by omega), (by omega), (by omega), (by omega), hPI, hmono, (cw_D hD), hN, hc0, hcp, (by omega), (by omega), (by rw [ht]; omega), (by rw [ht]; omega), by rw [ht]; exact hP⟩, hS.F ht⟩) hS.2.2 dX8_putLeaf_56
          · skip
            have ic_15 := iv_ne c_15
            exfalso
            omega
        · skip
          have ib_14 := iv_eq b_14
          rw [b_14]
          refine lv_if_eq (tgt := 54) hx hb dX8_putLeaf_47 (by decide) (fun c_16 => ?_) (fun c_16 => ?_)
          · skip
            have ic_16 := iv_eq c_16
            exfalso
            omega
          · skip
            have ic_16 := iv_ne c_16
            refine lv_iload_n hx hb dX8_putLeaf_50 rfl (lv_at hl 0 rfl) ?_
            refine lv_goto (tgt := 56) hx hb dX8_putLeaf_51 (by decide) ?_
            refine W_read (fun hu1 hu2 => ?_)
            refine W.widen (k := 6) (n := 640000) (by omega) (by omega) ?_
            exact W.iret hx hb hr (fun t ht hW => ⟨⟨_, _, rfl, rfl, x9_6, x10_6, x11_6, x12_6, x13_6, e_6, cap_6, num_6, R_6, (by omega), (by omega), (by omega), (by omega), hPI, hmono, (cw_D hD), hN, hc0, hcp, (by omega), (by omega), (by rw [ht]; omega), (by rw [ht]; omega), by rw [ht]; exact hP⟩, hS.F ht⟩) hS.2.2 dX8_putLeaf_56
      · skip
        have ic_5 := iv_eq c_5
        refine lv_bipush (v := (-2)) hx hb dX8_putLeaf_32 (by decide) ?_
        refine W_read (fun hu1 hu2 => ?_)
        refine W.widen (k := 6) (n := 640000) (by omega) (by omega) ?_
        exact W.iret hx hb hr (fun t ht hW => ⟨⟨_, _, rfl, rfl, st 9, st 10, st 11, st 12, st 13, c 99, cap, num, R_3, (by omega), (by omega), (by omega), (by omega), hPI, hmono, (cw_D hD), hN, hc0, hcp, (by omega), (by omega), (by rw [ht]; omega), (by rw [ht]; omega), by rw [ht]; exact hP⟩, hS.F ht⟩) hS.2.2 dX8_putLeaf_34
    · skip
      have ic_2 := iv_ne c_2
      refine lv_iload_n hx hb dX8_putLeaf_17 rfl (lv_at hl 0 rfl) ?_
      refine W_read (fun hu1 hu2 => ?_)
      refine W.widen (k := 6) (n := 640000) (by omega) (by omega) ?_
      exact W.iret hx hb hr (fun t ht hW => ⟨⟨_, _, rfl, rfl, st 9, st 10, st 11, st 12, st 13, c 99, cap, num, R_1, (by omega), (by omega), (by omega), (by omega), hPI, hmono, (cw_D hD), hN, hc0, hcp, (by omega), (by omega), (by rw [ht]; omega), (by rw [ht]; omega), by rw [ht]; exact hP⟩, hS.F ht⟩) hS.2.2 dX8_putLeaf_18
  exact main s.heap [] hP hS

set_option maxHeartbeats 4000000 in
set_option maxRecDepth 100000 in
theorem v_X8_leaf (l : Launch) (hl0 : l.stackTraces = false) (dC : Nat → ClassId) (dI : Nat → Nat → Nat) (c : Nat → Nat) (kc : Nat → ClassId) (st : Nat → Int32) (lg : Nat → Int64) (ai : Nat → Nat → Int32) (al : Nat → Nat → Int64) (R : va_W) (cap : Nat) (num : Nat → Int32)  (sz tz : Nat) (hPI : PI (kc 98) (kc 0) (c 99) (st 13) cap num none R) (hN : NI cap (st 13)) (hf5a : 0 ≤ (st 5).toInt) (hf5b : (st 5).toInt ≤ 400) (hf6a : 1 ≤ (st 6).toInt) (hf6b : (st 6).toInt ≤ 65536) (hf9a : 0 ≤ (st 9).toInt) (hf9b : (st 9).toInt ≤ 1) (hf13a : 0 ≤ (st 13).toInt) (hf13b : (st 13).toInt ≤ 65536) (hR4 : aR (ai 4) 400 (-128) 127) : vx_Met l yX8_leaf wsX8_leaf ({ frames := 10, cells := 8, slots := 640100, locals := 469 }) (va_Pc [.ref (c 100)] (fun U => U.heap.size = sz ∧ tot U.heap = tz ∧ va_P (dC, dI) vwCl (cw_W c kc st lg ai al R) U.heap ∧ va_K (dC, dI) vwCl (cw_T kc) U ∧ va_D (fun _ => True) (cw_W c kc st lg ai al R) ∧ gy_E cap (c 99) (va_A (cw_W c kc st lg ai al R) sz) U)) (va_Qi (fun r (u : Int32) => r = u) (fun u t => ∃ (x5 : Int32) (x9 : Int32) (x10 : Int32) (x11 : Int32) (x12 : Int32) (x13 : Int32) (f0 : Nat → Int32) (e9 cap9 : Nat) (num9 : Nat → Int32) (R9 : va_W), (0 ≤ x5.toInt) ∧ (x5.toInt ≤ 400) ∧ (0 ≤ x9.toInt) ∧ (x9.toInt ≤ 1) ∧ (0 ≤ x13.toInt) ∧ (x13.toInt ≤ 65536) ∧ (PI (kc 98) (kc 0) e9 x13 cap9 num9 none R9) ∧ (∀ y m, pgM (kc 0) R y m → pgM (kc 0) R9 y m) ∧ (va_D (va_A (cw_W c kc st lg ai al R) sz) (cw_W (rU c 99 e9) kc (rU (rU (rU (rU (rU (rU st 5 x5) 9 x9) 10 x10) 11 x11) 12 x12) 13 x13) lg (rU ai 0 f0) al R9)) ∧ (NI cap9 x13) ∧ (cap9 = 0 → cap = 0 ∧ e9 = c 99) ∧ (cap ≤ cap9) ∧ ((st 13).toInt ≤ x13.toInt) ∧ (x13.toInt ≤ (st 13).toInt + 1) ∧ (((t.heap.size : Nat) : Int) ≤ ((sz : Nat) : Int) + 2 + 3 * (x13.toInt - (st 13).toInt)) ∧ (((tot t.heap : Nat) : Int) ≤ ((tz : Nat) : Int) + 12 + 29 * (x13.toInt - (st 13).toInt) + 4 * (((cap9 : Nat) : Int) - ((cap : Nat) : Int))) ∧ va_P (dC, dI) vwCl (cw_W (rU c 99 e9) kc (rU (rU (rU (rU (rU (rU st 5 x5) 9 x9) 10 x10) 11 x11) 12 x12) 13 x13) lg (rU ai 0 f0) al R9) t.heap) (va_A (cw_W c kc st lg ai al R) sz)) (vx_X (fun _ : Unit => True) (fun E _ t => E ∈ (["java/lang/IllegalArgumentException", "java/lang/IllegalStateException"] : List String) ∧ ∃ (x5 : Int32) (x9 : Int32) (x10 : Int32) (x11 : Int32) (x12 : Int32) (x13 : Int32) (f0 : Nat → Int32) (e9 cap9 : Nat) (num9 : Nat → Int32) (R9 : va_W), (0 ≤ x5.toInt) ∧ (x5.toInt ≤ 400) ∧ (0 ≤ x9.toInt) ∧ (x9.toInt ≤ 1) ∧ (0 ≤ x13.toInt) ∧ (x13.toInt ≤ 65536) ∧ (PI (kc 98) (kc 0) e9 x13 cap9 num9 none R9) ∧ (∀ y m, pgM (kc 0) R y m → pgM (kc 0) R9 y m) ∧ (va_D (va_A (cw_W c kc st lg ai al R) sz) (cw_W (rU c 99 e9) kc (rU (rU (rU (rU (rU (rU st 5 x5) 9 x9) 10 x10) 11 x11) 12 x12) 13 x13) lg (rU ai 0 f0) al R9)) ∧ (NI cap9 x13) ∧ (cap9 = 0 → cap = 0 ∧ e9 = c 99) ∧ (cap ≤ cap9) ∧ ((st 13).toInt ≤ x13.toInt) ∧ (x13.toInt ≤ (st 13).toInt + 1) ∧ (((t.heap.size : Nat) : Int) ≤ ((sz : Nat) : Int) + 2 + 3 * (x13.toInt - (st 13).toInt)) ∧ (((tot t.heap : Nat) : Int) ≤ ((tz : Nat) : Int) + 12 + 29 * (x13.toInt - (st 13).toInt) + 4 * (((cap9 : Nat) : Int) - ((cap : Nat) : Int))) ∧ va_P (dC, dI) vwCl (cw_W (rU c 99 e9) kc (rU (rU (rU (rU (rU (rU st 5 x5) 9 x9) 10 x10) 11 x11) 12 x12) 13 x13) lg (rU ai 0 f0) al R9) t.heap) (va_A (cw_W c kc st lg ai al R) sz)) 8 640100 (va_A (cw_W c kc st lg ai al R) sz) := by
  refine vx_ofW (cc := cX8_leaf) (maxL := 3) (ret := (some .int)) (by decide) rfl ?_
  intro p e s m args below meth cM s₁ B hml hno hv
  obtain ⟨rfl, hsz, htz, hP, hK, hD0, hY⟩ := hv
  have hx := B.exec
  have hb := B.bytes
  have hr := B.returns
  have hts := atoms_spec (ws := wsX8_leaf) B.pre
  have hown : s.vm.findClass RX8 = some m.cls := findClass_of_methodNamed B.named
  have hG0 := hY.1
  have hGW := hG0.1
  have hlocks := B.notSynchronized
  subst hsz
  subst htz
  clear hG0
  have hD := hD0.self (sz := s.heap.size)
  generalize hAe : va_A (cw_W c kc st lg ai al R) s.heap.size = A at hD hY ⊢
  have hA : ∀ q : Nat, s.heap.size ≤ q → A q := fun q h => by rw [← hAe]; exact Or.inr h
  have hS : va_S A s.heap s.heap [] := va_S.rf
  clear hAe hD0
  have hl := lv_entry ([.ref (c 100)]) (n := 3) (Nat.le_of_ble_eq_true rfl)
  rw [lg_entry_eq]
  generalize (lg_sl ([.ref (c 100)]) ++ List.replicate (3 - (lg_sl ([.ref (c 100)])).length) Slot.unset).toArray = ls at hl ⊢
  have hl : lv_has ls 3 [(0, .ref (c 100))] := hl
  have z_m3 : (-3 : Int32).toInt = -3 := by decide
  have z_m2 : (-2 : Int32).toInt = -2 := by decide
  have z_0 : (0 : Int32).toInt = 0 := by decide
  have z_1 : (1 : Int32).toInt = 1 := by decide
  have z_16 : (16 : Int32).toInt = 16 := by decide
  have hin_X7 : ∀ w ∈ u_ws RX7 TX7 2, w ∈ wsX8_leaf := by decide +kernel
  have hin_X8 : ∀ w ∈ u_ws RX8 TX8 10, w ∈ wsX8_leaf := by decide +kernel
  have hmono : ∀ y m, pgM (kc 0) R y m → pgM (kc 0) R y m := fun y m h => h
  have hG := hY.1
  have hP : va_P (dC, dI) vwCl (cw_W (rU c 99 (c 99)) kc st lg ai al R) s.heap := by rw [rU_self]; exact hP
  have hD : va_D A (cw_W (rU c 99 (c 99)) kc st lg ai al R) := by rw [rU_self]; exact hD
  have hc0 : cap = 0 → cap = 0 ∧ c 99 = c 99 := fun h => ⟨h, rfl⟩
  have hcp : cap ≤ cap := Nat.le_refl _
  have hN1 : ((cap : Nat) : Int) ≤ 10 + 2 * (st 13).toInt := hN.1
  have main : ∀ (H : Heap) (locs : List Loc), va_P (dC, dI) vwCl (cw_W (rU c 99 (c 99)) kc st lg ai al R) H → va_S A s.heap H locs → W p l e (headSpec wsX8_leaf ({ frames := 10, cells := 8, slots := 640100, locals := 469 })).room s m ([.ref (c 100)] : List Value).toArray below meth cM H locs 0 0 (vx_MQ below (va_Qi (fun r (u : Int32) => r = u) (fun u t => ∃ (x5 : Int32) (x9 : Int32) (x10 : Int32) (x11 : Int32) (x12 : Int32) (x13 : Int32) (f0 : Nat → Int32) (e9 cap9 : Nat) (num9 : Nat → Int32) (R9 : va_W), (0 ≤ x5.toInt) ∧ (x5.toInt ≤ 400) ∧ (0 ≤ x9.toInt) ∧ (x9.toInt ≤ 1) ∧ (0 ≤ x13.toInt) ∧ (x13.toInt ≤ 65536) ∧ (PI (kc 98) (kc 0) e9 x13 cap9 num9 none R9) ∧ (∀ y m, pgM (kc 0) R y m → pgM (kc 0) R9 y m) ∧ (va_D A (cw_W (rU c 99 e9) kc (rU (rU (rU (rU (rU (rU st 5 x5) 9 x9) 10 x10) 11 x11) 12 x12) 13 x13) lg (rU ai 0 f0) al R9)) ∧ (NI cap9 x13) ∧ (cap9 = 0 → cap = 0 ∧ e9 = c 99) ∧ (cap ≤ cap9) ∧ ((st 13).toInt ≤ x13.toInt) ∧ (x13.toInt ≤ (st 13).toInt + 1) ∧ (((t.heap.size : Nat) : Int) ≤ ((s.heap.size : Nat) : Int) + 2 + 3 * (x13.toInt - (st 13).toInt)) ∧ (((tot t.heap : Nat) : Int) ≤ ((tot s.heap : Nat) : Int) + 12 + 29 * (x13.toInt - (st 13).toInt) + 4 * (((cap9 : Nat) : Int) - ((cap : Nat) : Int))) ∧ va_P (dC, dI) vwCl (cw_W (rU c 99 e9) kc (rU (rU (rU (rU (rU (rU st 5 x5) 9 x9) 10 x10) 11 x11) 12 x12) 13 x13) lg (rU ai 0 f0) al R9) t.heap) A) (vx_X (fun _ : Unit => True) (fun E _ t => E ∈ (["java/lang/IllegalArgumentException", "java/lang/IllegalStateException"] : List String) ∧ ∃ (x5 : Int32) (x9 : Int32) (x10 : Int32) (x11 : Int32) (x12 : Int32) (x13 : Int32) (f0 : Nat → Int32) (e9 cap9 : Nat) (num9 : Nat → Int32) (R9 : va_W), (0 ≤ x5.toInt) ∧ (x5.toInt ≤ 400) ∧ (0 ≤ x9.toInt) ∧ (x9.toInt ≤ 1) ∧ (0 ≤ x13.toInt) ∧ (x13.toInt ≤ 65536) ∧ (PI (kc 98) (kc 0) e9 x13 cap9 num9 none R9) ∧ (∀ y m, pgM (kc 0) R y m → pgM (kc 0) R9 y m) ∧ (va_D A (cw_W (rU c 99 e9) kc (rU (rU (rU (rU (rU (rU st 5 x5) 9 x9) 10 x10) 11 x11) 12 x12) 13 x13) lg (rU ai 0 f0) al R9)) ∧ (NI cap9 x13) ∧ (cap9 = 0 → cap = 0 ∧ e9 = c 99) ∧ (cap ≤ cap9) ∧ ((st 13).toInt ≤ x13.toInt) ∧ (x13.toInt ≤ (st 13).toInt + 1) ∧ (((t.heap.size : Nat) : Int) ≤ ((s.heap.size : Nat) : Int) + 2 + 3 * (x13.toInt - (st 13).toInt)) ∧ (((tot t.heap : Nat) : Int) ≤ ((tot s.heap : Nat) : Int) + 12 + 29 * (x13.toInt - (st 13).toInt) + 4 * (((cap9 : Nat) : Int) - ((cap : Nat) : Int))) ∧ va_P (dC, dI) vwCl (cw_W (rU c 99 e9) kc (rU (rU (rU (rU (rU (rU st 5 x5) 9 x9) 10 x10) 11 x11) 12 x12) 13 x13) lg (rU ai 0 f0) al R9) t.heap) A) ([.ref (c 100)] : List Value).toArray s 8 640100 A) (F0 m 0 ls []) := by
    intro H locs hP hS
    refine lv_aload_n hx hb dX8_leaf_0 rfl (lv_at hl 0 rfl) ?_
    have hFc := vfree ((cw_D hD : va_D A (cw_W (rU c 99 (c 99)) kc st lg ai al R)) : va_D A (cw_W (rU c 99 (c 99)) kc st lg ai al R)) hS hA
    refine vx_callv (vx_runV (As := []) (rest := []) ⟨hx, hb, hml, hown, hts⟩ (v_X8_demandPower l hl0 dC dI (rU c 99 (c 99)) kc st lg ai al R  _ (show 0 ≤ (st 9).toInt by omega) (show (st 9).toInt ≤ 1 by omega)) (cwV 0 hts gX8_leaf_X8_demandPower rfl rfl rfl (by decide +kernel) ⟨Nat.le_of_ble_eq_true rfl, Nat.le_of_ble_eq_true rfl⟩) ⟨fun a U g mk q => by obtain ⟨q0, q1, qP, qK, qD, qG⟩ := q; exact ⟨q0, q1, qP, va_K.moved (u := U) (U := U.calling g mk a) (Vm.Alike.refl U.vm) qK, qD, qG.same rfl rfl⟩, va_recv hK hP (ci := 10) (q := (RX8, TX8, 10)) rfl (q0 := 0) rfl, fun U hU hW => ⟨rfl, by rw [hU], by rw [hU]; exact hP, va_K.moved hW.alike hK, ((cw_D hD : va_D A (cw_W (rU c 99 (c 99)) kc st lg ai al R))).weaken (fun _ _ _ _ => trivial), hG.go hW hU hS hFc⟩⟩ rfl rfl hl.1 rfl (lv_room (Nat.le_of_ble_eq_true rfl)) dX8_leaf_1 ⟨by show 0 + 1 ≤ 8; omega, by show 0 + 6 ≤ 640100; omega⟩) hS (fun q _ h => hFc q h) hFc (fun q _ h => hFc q h) (fun E9 ce q9 u t H1 locs ht hvm hp hE hz hk hS hcell hv hcl => ?_) (fun ur_1 t H1 locs ht hvm er_1 hB hz1 hk1 hS => ?_)
    · skip
      obtain ⟨hE, hP1⟩ := hE
      rw [ht] at hP1
      have hP : va_P (dC, dI) vwCl (cw_W (rU c 99 (c 99)) kc st lg ai al R) H1 := hP1
      refine vxW_read (fun hu1 hu2 => ?_)
      exact vx_out (fun x h => (hno x h).elim) hlocks hcell hv hcl (fun t ht hW => ⟨(), trivial, ⟨(show ∀ x ∈ (["java/lang/IllegalStateException"] : List String), x ∈ (["java/lang/IllegalArgumentException", "java/lang/IllegalStateException"] : List String) by decide +kernel) _ hE, st 5, st 9, st 10, st 11, st 12, st 13, ai 0, c 99, cap, num, R, (by omega), (by omega), (by omega), (by omega), (by omega), (by omega), hPI, hmono, (cw_D hD), hN, hc0, hcp, (by omega), (by omega), (by rw [ht]; omega), (by rw [ht]; omega), by rw [ht]; exact hP⟩, hS.F ht⟩) hS.2.2 (Nat.le_of_ble_eq_true rfl) (Nat.le_of_ble_eq_true rfl)
    · skip
      have hP1 : va_P (dC, dI) vwCl (cw_W (rU c 99 (c 99)) kc st lg ai al R) t.heap := hB
      rw [ht] at hP1
      clear hFc hz1 hk1 hvm hP
      subst ht
      have hP := hP1
      clear hP1
      generalize t.heap = H at hP hS ⊢
      have hP : va_P (dC, dI) vwCl (cw_W (rU c 99 (c 99)) kc st lg ai al R) H := hP
      refine lv_aload_n hx hb dX8_leaf_4 rfl (lv_at hl 0 rfl) ?_
      refine va_get (D := (dC, dI)) (ci := 10) (v := .ref (c 101)) (C := RX8) (T := TX8) (N := 10) hx hb hts hin_X8 hown hK hP 0 rfl rfl 0 (by decide) (hts (.fieldLink RX8 13 "BlockLog" "tape" "LBlockLog$Tape;") (by decide +kernel)) (fun _ h9 => h9) rfl dX8_leaf_5 ?_
      refine va_getN (D := (dC, dI)) (ci := 9) (v := .int (st 5)) (C := RX7) (T := TX7) (N := 2) hx hb hts hin_X7 hown hK hP 1 rfl rfl 1 (by decide) (va_Nw.use rfl (hGW.1 ("BlockLog", 83, "BlockLog$Tape", "count", "I", "BlockLog") (by decide +kernel))) (fun _ h9 => h9) rfl dX8_leaf_8 ?_
      refine lv_istore_n (lv' := [(1, .int (st 5)), (0, .ref (c 100))]) hx hb dX8_leaf_11 rfl hl (by decide) rfl (fun ls hl => ?_)
      refine lv_iload_n hx hb dX8_leaf_12 rfl (lv_at hl 0 rfl) ?_
      refine lv_iconst (v := 1) hx hb dX8_leaf_13 (by decide) ?_
      refine lv_icmp_lt (tgt := 23) hx hb dX8_leaf_14 (by decide) (fun c_2 => ?_) (fun c_2 => ?_)
      · skip
        have ic_2 := iv_lt c_2
        obtain ⟨sa, hstr⟩ := hGW.2.1 ("BlockLog", 102, "the tape has not 1 .. 16 bytes") (by decide +kernel)
        refine vx_useX (k := 2) (n := 12) (XC0 := (vx_X (fun _ : Unit => True) (fun E _ t => E ∈ (["java/lang/IllegalArgumentException", "java/lang/IllegalStateException"] : List String) ∧ ∃ (x5 : Int32) (x9 : Int32) (x10 : Int32) (x11 : Int32) (x12 : Int32) (x13 : Int32) (f0 : Nat → Int32) (e9 cap9 : Nat) (num9 : Nat → Int32) (R9 : va_W), (0 ≤ x5.toInt) ∧ (x5.toInt ≤ 400) ∧ (0 ≤ x9.toInt) ∧ (x9.toInt ≤ 1) ∧ (0 ≤ x13.toInt) ∧ (x13.toInt ≤ 65536) ∧ (PI (kc 98) (kc 0) e9 x13 cap9 num9 none R9) ∧ (∀ y m, pgM (kc 0) R y m → pgM (kc 0) R9 y m) ∧ (va_D A (cw_W (rU c 99 e9) kc (rU (rU (rU (rU (rU (rU st 5 x5) 9 x9) 10 x10) 11 x11) 12 x12) 13 x13) lg (rU ai 0 f0) al R9)) ∧ (NI cap9 x13) ∧ (cap9 = 0 → cap = 0 ∧ e9 = c 99) ∧ (cap ≤ cap9) ∧ ((st 13).toInt ≤ x13.toInt) ∧ (x13.toInt ≤ (st 13).toInt + 1) ∧ va_P (dC, dI) vwCl (cw_W (rU c 99 e9) kc (rU (rU (rU (rU (rU (rU st 5 x5) 9 x9) 10 x10) 11 x11) 12 x12) 13 x13) lg (rU ai 0 f0) al R9) t.heap) A)) ?_ (fun E9 t9 h9 hu1 hu2 => by obtain ⟨u9, hu9, ⟨hE9, z0, z1, z2, z3, z4, z5, z6, z7, z8, z9, z10, y0, y1, y2, y3, y4, y5, y6, y7, y8, y9, y10, y11, y12, y13, hP9⟩, hF9⟩ := h9; exact ⟨u9, hu9, ⟨hE9, z0, z1, z2, z3, z4, z5, z6, z7, z8, z9, z10, y0, y1, y2, y3, y4, y5, y6, y7, y8, y9, y10, y11, y12, y13, (by omega), (by omega), hP9⟩, hF9⟩) (Nat.le_of_ble_eq_true rfl) (Nat.le_of_ble_eq_true rfl)
        exact vx_throwS (names := ["java/lang/RuntimeException", "java/lang/Exception"]) hx hb hl0 hown (by decide +kernel) (by decide +kernel) (hts (.classLink RX8 76 "java/lang/IllegalArgumentException") (by decide +kernel)) (hts (.initialized "java/lang/IllegalArgumentException") (by decide +kernel)) hstr (vx_hat (B := gx_bad "java/lang/IllegalArgumentException") (fun w h => hts w (List.mem_cons_of_mem _ (List.mem_append_left _ (List.mem_append_right _ h)))) (by decide +kernel) (hGW.bad (by decide))) (by decide +kernel) hG.2.1 hG.2.2.1 hS (hl.1.trans hml.symm) dX8_leaf_23 dX8_leaf_26 dX8_leaf_27 dX8_leaf_29 dX8_leaf_32 (fun x h => (hno x h).elim) (Nat.le_of_ble_eq_true rfl) (Nat.le_of_ble_eq_true rfl) (Nat.le_of_ble_eq_true rfl) (Nat.le_of_ble_eq_true rfl) hlocks (fun t _ h1 h2 => ⟨(), trivial, ⟨(by decide +kernel), st 5, st 9, st 10, st 11, st 12, st 13, ai 0, c 99, cap, num, R, (by omega), (by omega), (by omega), (by omega), (by omega), (by omega), hPI, hmono, (cw_D hD), hN, hc0, hcp, (by omega), (by omega), hP.kept (fun k q hk => h2 _ (hP k q hk).lt)⟩, Nat.le_trans hS.1 h1, fun q hq hn => (h2 q (Nat.lt_of_lt_of_le hq hS.1)).trans (hS.2.1 q hq hn)⟩) hS.2.2 (Nat.le_of_ble_eq_true rfl) (Nat.le_of_ble_eq_true rfl)
      · skip
        have ic_2 := iv_nlt c_2
        refine lv_iload_n hx hb dX8_leaf_17 rfl (lv_at hl 0 rfl) ?_
        refine lv_bipush (v := 16) hx hb dX8_leaf_18 (by decide) ?_
        refine lv_icmp_le (tgt := 33) hx hb dX8_leaf_20 (by decide) (fun c_3 => ?_) (fun c_3 => ?_)
        · skip
          have ic_3 := iv_le c_3
          refine lv_aload_n hx hb dX8_leaf_33 rfl (lv_at hl 1 rfl) ?_
          refine va_get (D := (dC, dI)) (ci := 10) (v := .ref (c 104)) (C := RX8) (T := TX8) (N := 10) hx hb hts hin_X8 hown hK hP 0 rfl rfl 2 (by decide) (hts (.fieldLink RX8 31 "BlockLog" "rows" "LBlockLog$Rows;") (by decide +kernel)) (fun _ h9 => h9) rfl dX8_leaf_34 ?_
          refine vp_callSi (va_Run.run (va_runV (As := []) (rest := []) ⟨hx, hb, hml, hown, hts⟩ (v_X4_inNeed l dC dI (rU c 99 (c 99)) kc st lg ai al R  ) (cwV 0 hts gX8_leaf_X4_inNeed rfl rfl rfl (by decide +kernel) ⟨Nat.le_of_ble_eq_true rfl, Nat.le_of_ble_eq_true rfl⟩) ⟨fun a U g mk q => by obtain ⟨q0, qP, qK⟩ := q; exact ⟨q0, qP, va_K.moved (u := U) (U := U.calling g mk a) (Vm.Alike.refl U.vm) qK⟩, va_recv hK hP (ci := 6) (q := (RX4, TX4, 6)) rfl (q0 := 4) rfl, fun U hU hW => ⟨rfl, by rw [hU]; exact hP, va_K.moved hW.alike hK⟩⟩ rfl rfl hl.1 rfl (lv_room (Nat.le_of_ble_eq_true rfl)) dX8_leaf_37 ⟨by show 1 + 0 ≤ 8; omega, by show 6 + 0 ≤ 640100; omega⟩)) (fun r_4 er_4 => ?_)
          obtain ⟨k_5, k_6⟩ := er_4
          rcases iv_01 (a := r_4) (by omega) (by omega) with b_7 | b_7
          · skip
            have ib_7 := iv_eq b_7
            rw [b_7]
            refine lv_if_eq (tgt := 46) hx hb dX8_leaf_40 (by decide) (fun c_8 => ?_) (fun c_8 => ?_)
            · skip
              have ic_8 := iv_eq c_8
              refine lv_aload_n hx hb dX8_leaf_46 rfl (lv_at hl 1 rfl) ?_
              refine lv_iconst (v := 0) hx hb dX8_leaf_47 (by decide) ?_
              refine lv_iload_n hx hb dX8_leaf_48 rfl (lv_at hl 0 rfl) ?_
              have hFc := vfree ((cw_D hD : va_D A (cw_W (rU c 99 (c 99)) kc st lg ai al R)) : va_D A (cw_W (rU c 99 (c 99)) kc st lg ai al R)) hS hA
              refine va_callv (va_runV (As := [.int (0 : Int32), .int (st 5)]) (rest := []) ⟨hx, hb, hml, hown, hts⟩ (v_X8_drawPage l dC dI (rU c 99 (c 99)) kc st lg ai al R (0 : Int32) (st 5) _ (by omega) (by omega) (show aR (ai 4) 400 (-128) 127 from hR4)) (cwV 2 hts gX8_leaf_X8_drawPage rfl rfl rfl (by decide +kernel) ⟨Nat.le_of_ble_eq_true rfl, Nat.le_of_ble_eq_true rfl⟩) ⟨fun a U g mk q => by obtain ⟨q0, q1, qP, qK, qD, qG⟩ := q; exact ⟨q0, q1, qP, va_K.moved (u := U) (U := U.calling g mk a) (Vm.Alike.refl U.vm) qK, qD, qG.same rfl rfl⟩, va_recv hK hP (ci := 10) (q := (RX8, TX8, 10)) rfl (q0 := 0) rfl, fun U hU hW => ⟨rfl, by rw [hU], by rw [hU]; exact hP, va_K.moved hW.alike hK, ((cw_D hD : va_D A (cw_W (rU c 99 (c 99)) kc st lg ai al R))).weaken (fun _ _ _ _ => trivial), hG.go hW hU hS hFc⟩⟩ rfl rfl hl.1 rfl (lv_room (Nat.le_of_ble_eq_true rfl)) dX8_leaf_49 ⟨by show 1 + 0 ≤ 8; omega, by show 6 + 0 ≤ 640100; omega⟩) hS (fun q _ h => hFc q h) hFc (fun ur_9 t H1 locs ht hvm er_9 hB hz1 hk1 hS => ?_)
              obtain ⟨f0_9, hP1⟩ := hB
              rw [ht] at hP1
              clear hFc hz1 hk1 hvm hP
              subst ht
              have hP := hP1
              clear hP1
              generalize t.heap = H at hP hS ⊢
              have hP : va_P (dC, dI) vwCl (cw_W (rU c 99 (c 99)) kc st lg (rU ai 0 f0_9) al R) H := hP
              refine lv_aload_n hx hb dX8_leaf_52 rfl (lv_at hl 1 rfl) ?_
              refine W_read (fun hu1 hu2 => ?_)
              have hFc := vfree ((cw_D hD : va_D A (cw_W (rU c 99 (c 99)) kc st lg (rU ai 0 f0_9) al R)) : va_D A (cw_W (rU c 99 (c 99)) kc st lg (rU ai 0 f0_9) al R)) hS hA
              refine va_calli (va_runV (As := []) (rest := []) ⟨hx, hb, hml, hown, hts⟩ (v_X8_putLeaf l dC dI (rU c 99 (c 99)) kc st lg (rU ai 0 f0_9) al R cap num  _ _ hPI hN (show 1 ≤ (st 6).toInt by omega) (show (st 6).toInt ≤ 65536 by omega) (show 0 ≤ (st 9).toInt by omega) (show (st 9).toInt ≤ 1 by omega) (show 0 ≤ (st 13).toInt by omega) (show (st 13).toInt ≤ 65536 by omega)) (cwV 0 hts gX8_leaf_X8_putLeaf rfl rfl rfl (by decide +kernel) ⟨Nat.le_of_ble_eq_true rfl, Nat.le_of_ble_eq_true rfl⟩) ⟨fun a U g mk q => by obtain ⟨q0, q1, q2, qP, qK, qD, qG⟩ := q; exact ⟨q0, q1, q2, qP, va_K.moved (u := U) (U := U.calling g mk a) (Vm.Alike.refl U.vm) qK, qD, qG.same rfl rfl⟩, va_recv hK hP (ci := 10) (q := (RX8, TX8, 10)) rfl (q0 := 0) rfl, fun U hU hW => ⟨rfl, by rw [hU], by rw [hU], by rw [hU]; exact hP, va_K.moved hW.alike hK, ((cw_D hD : va_D A (cw_W (rU c 99 (c 99)) kc st lg (rU ai 0 f0_9) al R))).weaken (fun _ _ _ _ => trivial), hY.go hW hU hS hFc hc0⟩⟩ rfl rfl hl.1 rfl (lv_room (Nat.le_of_ble_eq_true rfl)) dX8_leaf_53 ⟨by show 1 + 6 ≤ 8; omega, by show 6 + 640000 ≤ 640100; omega⟩) hS (fun q _ h => hFc q h) hFc (fun r_10 ur_10 t H1 locs ht hvm er_10 hB hz1 hk1 hS => ?_)
              subst er_10
              obtain ⟨x9_10, x10_10, x11_10, x12_10, x13_10, e_10, cap_10, num_10, R_10, k_11, k_12, k_13, k_14, hPI, hmo, hD1, hN, hc1, hcp1, hnn1, hnn2, hus1, hus2, hP1⟩ := hB
              rw [ht] at hP1
              clear hz1 hk1 hvm hP
              subst ht
              have hP := hP1
              clear hP1
              generalize t.heap = H at hP hS hus1 hus2 ⊢
              rw [rU_rU (f := c) (k := 99) (a := (c 99)) (b := e_10)] at hP
              have hP : va_P (dC, dI) vwCl (cw_W (rU c 99 e_10) kc (rU (rU (rU (rU (rU st 9 x9_10) 10 x10_10) 11 x11_10) 12 x12_10) 13 x13_10) lg (rU ai 0 f0_9) al R_10) H := hP
              rw [rU_rU (f := c) (k := 99) (a := (c 99)) (b := e_10)] at hD1
              have hD : va_D A (cw_W (rU c 99 e_10) kc st lg ai al R_10) := cw_D (hD1.weaken (fun _ _ _ h => hFc _ h))
              have hc0 : cap_10 = 0 → cap = 0 ∧ e_10 = c 99 := fun h => ⟨(hc0 (hc1 h).1).1, (show e_10 = c 99 from (hc1 h).2).trans (hc0 (hc1 h).1).2⟩
              have hcp : cap ≤ cap_10 := Nat.le_trans hcp hcp1
              have hN1 : ((cap_10 : Nat) : Int) ≤ 10 + 2 * x13_10.toInt := hN.1
              have hnn1 : (st 13).toInt ≤ x13_10.toInt := hnn1
              have hnn2 : x13_10.toInt ≤ (st 13).toInt + 1 := hnn2
              have hus1 : ((H.size : Nat) : Int) ≤ _ + 0 + 3 * (x13_10.toInt - (st 13).toInt) := hus1
              have hus2 : ((tot H : Nat) : Int) ≤ _ + 0 + 29 * (x13_10.toInt - (st 13).toInt) + 4 * (((cap_10 : Nat) : Int) - ((cap : Nat) : Int)) := hus2
              obtain ⟨k_15, hk_15⟩ : ∃ k9 : Nat, (k9 : Int) = ((1 : Nat) : Int) + 0 + 3 * (x13_10.toInt - (st 13).toInt) := ⟨(((1 : Nat) : Int) + 0 + 3 * (x13_10.toInt - (st 13).toInt)).toNat, by omega⟩
              obtain ⟨m_15, hm_15⟩ : ∃ m9 : Nat, (m9 : Int) = ((6 : Nat) : Int) + 0 + 29 * (x13_10.toInt - (st 13).toInt) + 4 * (((cap_10 : Nat) : Int) - ((cap : Nat) : Int)) := ⟨(((6 : Nat) : Int) + 0 + 29 * (x13_10.toInt - (st 13).toInt) + 4 * (((cap_10 : Nat) : Int) - ((cap : Nat) : Int))).toNat, by omega⟩
              refine W_tight (k' := k_15) (m' := m_15) (by omega) (by omega) ?_
              clear hus1 hus2 hu1 hu2
              have hPI : PI (kc 98) (kc 0) e_10 x13_10 cap_10 num_10 none R_10 := hPI
              clear hFc hD1
              have hmono : ∀ y m, pgM (kc 0) R y m → pgM (kc 0) R_10 y m := fun y m h => hmo y m (hmono y m h)
              have k_11 : 0 ≤ x9_10.toInt := k_11
              have k_12 : x9_10.toInt ≤ 1 := k_12
              have k_13 : 0 ≤ x13_10.toInt := k_13
              have k_14 : x13_10.toInt ≤ 65536 := k_14
              refine lv_istore_n (lv' := [(2, .int r_10), (1, .int (st 5)), (0, .ref (c 100))]) hx hb dX8_leaf_56 rfl hl (by decide) rfl (fun ls hl => ?_)
              refine lv_iload_n hx hb dX8_leaf_57 rfl (lv_at hl 0 rfl) ?_
              refine lv_bipush (v := (-2)) hx hb dX8_leaf_58 (by decide) ?_
              refine lv_icmp_eq (tgt := 71) hx hb dX8_leaf_60 (by decide) (fun c_16 => ?_) (fun c_16 => ?_)
              · skip
                have ic_16 := iv_eq c_16
                refine lv_iload_n hx hb dX8_leaf_71 rfl (lv_at hl 0 rfl) ?_
                refine W_read (fun hu1 hu2 => ?_)
                refine W.widen (k := 8) (n := 640100) (by omega) (by omega) ?_
                refine vx_ret ?_
                exact W.iret hx hb hr (fun t ht hW => ⟨⟨_, _, rfl, rfl, st 5, x9_10, x10_10, x11_10, x12_10, x13_10, f0_9, e_10, cap_10, num_10, R_10, (by omega), (by omega), (by omega), (by omega), (by omega), (by omega), hPI, hmono, (cw_D hD), hN, hc0, hcp, (by omega), (by omega), (by rw [ht]; omega), (by rw [ht]; omega), by rw [ht]; exact hP⟩, hS.F ht⟩) hS.2.2 dX8_leaf_72
              · skip
                have ic_16 := iv_ne c_16
                refine lv_aload_n hx hb dX8_leaf_63 rfl (lv_at hl 2 rfl) ?_
                refine va_get (D := (dC, dI)) (ci := 10) (v := .ref (c 101)) (C := RX8) (T := TX8) (N := 10) hx hb hts hin_X8 hown hK hP 0 rfl rfl 0 (by decide) (hts (.fieldLink RX8 13 "BlockLog" "tape" "LBlockLog$Tape;") (by decide +kernel)) (fun _ h9 => h9) rfl dX8_leaf_64 ?_
                refine lv_iconst (v := 0) hx hb dX8_leaf_67 (by decide) ?_
                refine va_putN (D := (dC, dI)) (ci := 9) (v := .int (0 : Int32)) (ty := .int) (C := RX7) (T := TX7) (N := 2) hx hb hts hin_X7 tyX7 tyX7_ok nmX7 hown hK hP (cw_D hD) hS 1 rfl rfl 1 (by decide) (va_Nw.use rfl (hGW.1 ("BlockLog", 83, "BlockLog$Tape", "count", "I", "BlockLog") (by decide +kernel))) (fun _ h9 => h9) rfl (by decide +kernel) rfl rfl (Nat.le_of_ble_eq_true rfl) dX8_leaf_68 (fun H locs hP _ hS => ?_)
                have hP : va_P (dC, dI) vwCl (cw_W (rU c 99 e_10) kc (rU (rU (rU (rU (rU (rU st 5 (0 : Int32)) 9 x9_10) 10 x10_10) 11 x11_10) 12 x12_10) 13 x13_10) lg (rU ai 0 f0_9) al R_10) H := hP
                refine lv_iload_n hx hb dX8_leaf_71 rfl (lv_at hl 0 rfl) ?_
                refine W_read (fun hu1 hu2 => ?_)
                refine W.widen (k := 8) (n := 640100) (by omega) (by omega) ?_
                refine vx_ret ?_
                exact W.iret hx hb hr (fun t ht hW => ⟨⟨_, _, rfl, rfl, (0 : Int32), x9_10, x10_10, x11_10, x12_10, x13_10, f0_9, e_10, cap_10, num_10, R_10, (by omega), (by omega), (by omega), (by omega), (by omega), (by omega), hPI, hmono, (cw_D hD), hN, hc0, hcp, (by omega), (by omega), (by rw [ht]; omega), (by rw [ht]; omega), by rw [ht]; exact hP⟩, hS.F ht⟩) hS.2.2 dX8_leaf_72
            · skip
              have ic_8 := iv_ne c_8
              exfalso
              omega
          · skip
            have ib_7 := iv_eq b_7
            rw [b_7]
            refine lv_if_eq (tgt := 46) hx hb dX8_leaf_40 (by decide) (fun c_17 => ?_) (fun c_17 => ?_)
            · skip
              have ic_17 := iv_eq c_17
              exfalso
              omega
            · skip
              have ic_17 := iv_ne c_17
              refine lv_bipush (v := (-3)) hx hb dX8_leaf_43 (by decide) ?_
              refine W_read (fun hu1 hu2 => ?_)
              refine W.widen (k := 8) (n := 640100) (by omega) (by omega) ?_
              refine vx_ret ?_
              exact W.iret hx hb hr (fun t ht hW => ⟨⟨_, _, rfl, rfl, st 5, st 9, st 10, st 11, st 12, st 13, ai 0, c 99, cap, num, R, (by omega), (by omega), (by omega), (by omega), (by omega), (by omega), hPI, hmono, (cw_D hD), hN, hc0, hcp, (by omega), (by omega), (by rw [ht]; omega), (by rw [ht]; omega), by rw [ht]; exact hP⟩, hS.F ht⟩) hS.2.2 dX8_leaf_45
        · skip
          have ic_3 := iv_nle c_3
          obtain ⟨sa, hstr⟩ := hGW.2.1 ("BlockLog", 102, "the tape has not 1 .. 16 bytes") (by decide +kernel)
          refine vx_useX (k := 2) (n := 12) (XC0 := (vx_X (fun _ : Unit => True) (fun E _ t => E ∈ (["java/lang/IllegalArgumentException", "java/lang/IllegalStateException"] : List String) ∧ ∃ (x5 : Int32) (x9 : Int32) (x10 : Int32) (x11 : Int32) (x12 : Int32) (x13 : Int32) (f0 : Nat → Int32) (e9 cap9 : Nat) (num9 : Nat → Int32) (R9 : va_W), (0 ≤ x5.toInt) ∧ (x5.toInt ≤ 400) ∧ (0 ≤ x9.toInt) ∧ (x9.toInt ≤ 1) ∧ (0 ≤ x13.toInt) ∧ (x13.toInt ≤ 65536) ∧ (PI (kc 98) (kc 0) e9 x13 cap9 num9 none R9) ∧ (∀ y m, pgM (kc 0) R y m → pgM (kc 0) R9 y m) ∧ (va_D A (cw_W (rU c 99 e9) kc (rU (rU (rU (rU (rU (rU st 5 x5) 9 x9) 10 x10) 11 x11) 12 x12) 13 x13) lg (rU ai 0 f0) al R9)) ∧ (NI cap9 x13) ∧ (cap9 = 0 → cap = 0 ∧ e9 = c 99) ∧ (cap ≤ cap9) ∧ ((st 13).toInt ≤ x13.toInt) ∧ (x13.toInt ≤ (st 13).toInt + 1) ∧ va_P (dC, dI) vwCl (cw_W (rU c 99 e9) kc (rU (rU (rU (rU (rU (rU st 5 x5) 9 x9) 10 x10) 11 x11) 12 x12) 13 x13) lg (rU ai 0 f0) al R9) t.heap) A)) ?_ (fun E9 t9 h9 hu1 hu2 => by obtain ⟨u9, hu9, ⟨hE9, z0, z1, z2, z3, z4, z5, z6, z7, z8, z9, z10, y0, y1, y2, y3, y4, y5, y6, y7, y8, y9, y10, y11, y12, y13, hP9⟩, hF9⟩ := h9; exact ⟨u9, hu9, ⟨hE9, z0, z1, z2, z3, z4, z5, z6, z7, z8, z9, z10, y0, y1, y2, y3, y4, y5, y6, y7, y8, y9, y10, y11, y12, y13, (by omega), (by omega), hP9⟩, hF9⟩) (Nat.le_of_ble_eq_true rfl) (Nat.le_of_ble_eq_true rfl)
          exact vx_throwS (names := ["java/lang/RuntimeException", "java/lang/Exception"]) hx hb hl0 hown (by decide +kernel) (by decide +kernel) (hts (.classLink RX8 76 "java/lang/IllegalArgumentException") (by decide +kernel)) (hts (.initialized "java/lang/IllegalArgumentException") (by decide +kernel)) hstr (vx_hat (B := gx_bad "java/lang/IllegalArgumentException") (fun w h => hts w (List.mem_cons_of_mem _ (List.mem_append_left _ (List.mem_append_right _ h)))) (by decide +kernel) (hGW.bad (by decide))) (by decide +kernel) hG.2.1 hG.2.2.1 hS (hl.1.trans hml.symm) dX8_leaf_23 dX8_leaf_26 dX8_leaf_27 dX8_leaf_29 dX8_leaf_32 (fun x h => (hno x h).elim) (Nat.le_of_ble_eq_true rfl) (Nat.le_of_ble_eq_true rfl) (Nat.le_of_ble_eq_true rfl) (Nat.le_of_ble_eq_true rfl) hlocks (fun t _ h1 h2 => ⟨(), trivial, ⟨(by decide +kernel), st 5, st 9, st 10, st 11, st 12, st 13, ai 0, c 99, cap, num, R, (by omega), (by omega), (by omega), (by omega), (by omega), (by omega), hPI, hmono, (cw_D hD), hN, hc0, hcp, (by omega), (by omega), hP.kept (fun k q hk => h2 _ (hP k q hk).lt)⟩, Nat.le_trans hS.1 h1, fun q hq hn => (h2 q (Nat.lt_of_lt_of_le hq hS.1)).trans (hS.2.1 q hq hn)⟩) hS.2.2 (Nat.le_of_ble_eq_true rfl) (Nat.le_of_ble_eq_true rfl)
  exact main s.heap [] hP hS
