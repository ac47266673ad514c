set_option maxHeartbeats 4000000 in
set_option maxRecDepth 100000 in
theorem v_X9_lastBytes (l : Launch) (dC : Nat → ClassId) (dI : Nat → Nat → Nat) (o : Nat) (c : Nat → Nat) (kc : Nat → ClassId) (st : Nat → Int32) (lg : Nat → Int64) (ai : Nat → Nat → Int32) (al : Nat → Nat → Int64)  (sz : Nat) (hf1a : 1 ≤ (st 1).toInt) (hf1b : (st 1).toInt ≤ 65536) (hf3a : 0 ≤ (st 3).toInt) (hf3b : (st 3).toInt ≤ 1) (hf6a : 0 ≤ (st 6).toInt) (hf6b : (st 6).toInt ≤ 1) (hf7a : 0 ≤ (st 7).toInt) (hf7b : (st 7).toInt ≤ 1) (hf12a : 0 ≤ (st 12).toInt) (hf12b : (st 12).toInt ≤ 8) (hf15a : 0 ≤ (st 15).toInt) (hf15b : (st 15).toInt ≤ 128) : Met l yX9_lastBytes wsX9_lastBytes ({ frames := 5, cells := 0, slots := 0, locals := 114 }) (va_Pc [.ref o] (fun U => U.heap.size = sz ∧ va_P (dC, dI) vwCl (rw_W o c kc st lg ai al) U.heap ∧ va_K (dC, dI) vwCl (rw_T kc) U ∧ va_D (fun _ => True) (rw_W o c kc st lg ai al))) (va_Qv (fun (_ : Unit) => True) (fun _ t => ∃ (x3 : Int32) (x4 : Int32) (x5 : Int32) (x6 : Int32) (x12 : Int32) (f0 : Nat → Int32), (0 ≤ x3.toInt) ∧ (x3.toInt ≤ 1) ∧ (0 ≤ x6.toInt) ∧ (x6.toInt ≤ 1) ∧ (0 ≤ x12.toInt) ∧ (x12.toInt ≤ 8) ∧ va_P (dC, dI) vwCl (rw_W o c kc (rU (rU (rU (rU (rU st 3 x3) 4 x4) 5 x5) 6 x6) 12 x12) lg (rU ai 0 f0) al) t.heap) (va_A (rw_W o c kc st lg ai al) sz)) 0 0 (va_A (rw_W o c kc st lg ai al) sz) := by
  refine Met.ofW (cc := cX9_lastBytes) (maxL := 4) (ret := none) (by decide) rfl ?_
  intro p e s m args below meth cM s₁ B hml hv
  obtain ⟨rfl, hsz, hP, hK, hD0⟩ := hv
  have hx := B.exec
  have hb := B.bytes
  have hr := B.returns
  have hts := atoms_spec (ws := wsX9_lastBytes) B.pre
  have hown : s.vm.findClass RX9 = some m.cls := findClass_of_methodNamed B.named
  subst hsz
  have hD := hD0.self (sz := s.heap.size)
  generalize hAe : va_A (rw_W o c kc st lg ai al) s.heap.size = A at hD ⊢
  have hA : ∀ q : Nat, s.heap.size ≤ q → A q := fun q h => by rw [← hAe]; exact Or.inr h
  have hS : va_S A s.heap s.heap [] := va_S.rf
  clear hAe hD0
  have hl := lv_entry ([.ref o]) (n := 4) (Nat.le_of_ble_eq_true rfl)
  rw [lg_entry_eq]
  generalize (lg_sl ([.ref o]) ++ List.replicate (4 - (lg_sl ([.ref o])).length) Slot.unset).toArray = ls at hl ⊢
  have hl : lv_has ls 4 [(0, .ref o)] := hl
  have z_0 : (0 : Int32).toInt = 0 := by decide
  have z_1 : (1 : Int32).toInt = 1 := by decide
  have z_25 : (25 : Int32).toInt = 25 := by decide
  have z_31 : (31 : Int32).toInt = 31 := by decide
  have z_165 : (165 : Int32).toInt = 165 := by decide
  have hin9 : ∀ w ∈ u_ws RX9 TX9 38, w ∈ wsX9_lastBytes := by decide +kernel
  have main : ∀ (H : Heap) (locs : List Loc), va_P (dC, dI) vwCl (rw_W o c kc st lg ai al) H → va_S A s.heap H locs → W p l e (headSpec wsX9_lastBytes ({ frames := 5, cells := 0, slots := 0, locals := 114 })).room s m ([.ref o] : List Value).toArray below meth cM H locs 0 0 (MQ below (va_Qv (fun (_ : Unit) => True) (fun _ t => ∃ (x3 : Int32) (x4 : Int32) (x5 : Int32) (x6 : Int32) (x12 : Int32) (f0 : Nat → Int32), (0 ≤ x3.toInt) ∧ (x3.toInt ≤ 1) ∧ (0 ≤ x6.toInt) ∧ (x6.toInt ≤ 1) ∧ (0 ≤ x12.toInt) ∧ (x12.toInt ≤ 8) ∧ va_P (dC, dI) vwCl (rw_W o c kc (rU (rU (rU (rU (rU st 3 x3) 4 x4) 5 x5) 6 x6) 12 x12) lg (rU ai 0 f0) al) t.heap) A) ([.ref o] : List Value).toArray s 0 0 A) (F0 m 0 ls []) := by
    intro H locs hP hS
    refine lv_aload_n hx hb dX9_lastBytes_0 rfl (lv_at hl 0 rfl) ?_
    refine vp_callSi (va_Run.run (va_runV (As := []) (rest := []) ⟨hx, hb, hml, hown, hts⟩ (v_X9_rows l dC dI o c kc st lg ai al  (show 0 ≤ (st 15).toInt by omega) (show (st 15).toInt ≤ 128 by omega)) (cwV 0 hts gX9_lastBytes_X9_rows rfl rfl rfl (by decide +kernel) ⟨Nat.le_of_ble_eq_true rfl, Nat.le_of_ble_eq_true rfl⟩) ⟨fun a U g mk q => by obtain ⟨q0, qP, qK⟩ := q; exact ⟨q0, qP, va_K.moved (u := U) (U := U.calling g mk a) (Vm.Alike.refl U.vm) qK⟩, va_recv hK hP (ci := 11) (q := (RX9, TX9, 38)) rfl (q0 := 0) rfl, fun U hU hW => ⟨rfl, by rw [hU]; exact hP, va_K.moved hW.alike hK⟩⟩ rfl rfl hl.1 rfl (lv_room (Nat.le_of_ble_eq_true rfl)) dX9_lastBytes_1 ⟨Nat.le_of_ble_eq_true rfl, Nat.le_of_ble_eq_true rfl⟩)) (fun r_1 er_1 => ?_)
    have k_2 := er_1
    have k_2 : r_1.toInt = (st 15).toInt := k_2
    refine lv_istore_n (lv' := [(1, .int r_1), (0, .ref o)]) hx hb dX9_lastBytes_4 rfl hl (by decide) rfl (fun ls hl => ?_)
    refine lv_iconst (v := 0) hx hb dX9_lastBytes_5 (by decide) ?_
    refine lv_istore_n (lv' := [(2, .int (0 : Int32)), (1, .int r_1), (0, .ref o)]) hx hb dX9_lastBytes_6 rfl hl (by decide) rfl (fun ls hl => ?_)
    have loop7 : ∀ (n : Nat) (l2_7 : Int32) (s3_7 : Int32) (s4_7 : Int32) (s5_7 : Int32) (s6_7 : Int32) (s12_7 : Int32) (a0_7 : Nat → Int32) (H : Heap) (locs : List Loc) (ls : Array Slot), (0 ≤ l2_7.toInt) → (l2_7.toInt ≤ r_1.toInt) → (r_1.toInt ≤ 128) → (0 ≤ s3_7.toInt) → (s3_7.toInt ≤ 1) → (0 ≤ s6_7.toInt) → (s6_7.toInt ≤ 1) → (0 ≤ s12_7.toInt) → (s12_7.toInt ≤ 8) → (r_1.toInt - l2_7.toInt : Int).toNat < n → va_P (dC, dI) vwCl (rw_W o c kc (rU (rU (rU (rU (rU st 3 s3_7) 4 s4_7) 5 s5_7) 6 s6_7) 12 s12_7) lg (rU ai 0 a0_7) al) H → va_S A s.heap H locs → lv_has ls 4 [(2, .int l2_7), (1, .int r_1), (0, .ref o)] → W p l e (headSpec wsX9_lastBytes ({ frames := 5, cells := 0, slots := 0, locals := 114 })).room s m ([.ref o] : List Value).toArray below meth cM H locs 0 0 (MQ below (va_Qv (fun (_ : Unit) => True) (fun _ t => ∃ (x3 : Int32) (x4 : Int32) (x5 : Int32) (x6 : Int32) (x12 : Int32) (f0 : Nat → Int32), (0 ≤ x3.toInt) ∧ (x3.toInt ≤ 1) ∧ (0 ≤ x6.toInt) ∧ (x6.toInt ≤ 1) ∧ (0 ≤ x12.toInt) ∧ (x12.toInt ≤ 8) ∧ va_P (dC, dI) vwCl (rw_W o c kc (rU (rU (rU (rU (rU st 3 x3) 4 x4) 5 x5) 6 x6) 12 x12) lg (rU ai 0 f0) al) t.heap) A) ([.ref o] : List Value).toArray s 0 0 A) (F0 m 7 ls []) := by
      intro n
      induction n with
      | zero => intro l2_7 s3_7 s4_7 s5_7 s6_7 s12_7 a0_7 H locs ls if0_7 if1_7 if2_7 if3_7 if4_7 if5_7 if6_7 if7_7 if8_7 hm; exact absurd hm (Nat.not_lt_zero _)
      | succ n ih7 =>
        intro l2_7 s3_7 s4_7 s5_7 s6_7 s12_7 a0_7 H locs ls if0_7 if1_7 if2_7 if3_7 if4_7 if5_7 if6_7 if7_7 if8_7 hm7 hP hS hl
        refine lv_iload_n hx hb dX9_lastBytes_7 rfl (lv_at hl 0 rfl) ?_
        refine lv_iload_n hx hb dX9_lastBytes_8 rfl (lv_at hl 1 rfl) ?_
        refine lv_icmp_ge (tgt := 66) hx hb dX9_lastBytes_9 (by decide) (fun c_3 => ?_) (fun c_3 => ?_)
        · skip
          have ic_3 := iv_le c_3
          refine lv_iconst (v := 0) hx hb dX9_lastBytes_66 (by decide) ?_
          refine lv_istore_n (lv' := [(2, .int (0 : Int32)), (1, .int r_1), (0, .ref o)]) hx hb dX9_lastBytes_67 rfl hl (by decide) rfl (fun ls hl => ?_)
          have loop68 : ∀ (n : Nat) (l2_68 : Int32) (s3_68 : Int32) (s4_68 : Int32) (s5_68 : Int32) (s6_68 : Int32) (s12_68 : Int32) (a0_68 : Nat → Int32) (H : Heap) (locs : List Loc) (ls : Array Slot), (0 ≤ l2_68.toInt) → (l2_68.toInt ≤ (st 1).toInt) → (0 ≤ s3_68.toInt) → (s3_68.toInt ≤ 1) → (0 ≤ s6_68.toInt) → (s6_68.toInt ≤ 1) → (0 ≤ s12_68.toInt) → (s12_68.toInt ≤ 8) → ((st 1).toInt - l2_68.toInt : Int).toNat < n → va_P (dC, dI) vwCl (rw_W o c kc (rU (rU (rU (rU (rU st 3 s3_68) 4 s4_68) 5 s5_68) 6 s6_68) 12 s12_68) lg (rU ai 0 a0_68) al) H → va_S A s.heap H locs → lv_has ls 4 [(2, .int l2_68), (1, .int r_1), (0, .ref o)] → W p l e (headSpec wsX9_lastBytes ({ frames := 5, cells := 0, slots := 0, locals := 114 })).room s m ([.ref o] : List Value).toArray below meth cM H locs 0 0 (MQ below (va_Qv (fun (_ : Unit) => True) (fun _ t => ∃ (x3 : Int32) (x4 : Int32) (x5 : Int32) (x6 : Int32) (x12 : Int32) (f0 : Nat → Int32), (0 ≤ x3.toInt) ∧ (x3.toInt ≤ 1) ∧ (0 ≤ x6.toInt) ∧ (x6.toInt ≤ 1) ∧ (0 ≤ x12.toInt) ∧ (x12.toInt ≤ 8) ∧ va_P (dC, dI) vwCl (rw_W o c kc (rU (rU (rU (rU (rU st 3 x3) 4 x4) 5 x5) 6 x6) 12 x12) lg (rU ai 0 f0) al) t.heap) A) ([.ref o] : List Value).toArray s 0 0 A) (F0 m 68 ls []) := by
            intro n
            induction n with
            | zero => intro l2_68 s3_68 s4_68 s5_68 s6_68 s12_68 a0_68 H locs ls if0_68 if1_68 if2_68 if3_68 if4_68 if5_68 if6_68 if7_68 hm; exact absurd hm (Nat.not_lt_zero _)
            | succ n ih68 =>
              intro l2_68 s3_68 s4_68 s5_68 s6_68 s12_68 a0_68 H locs ls if0_68 if1_68 if2_68 if3_68 if4_68 if5_68 if6_68 if7_68 hm68 hP hS hl
              refine lv_iload_n hx hb dX9_lastBytes_68 rfl (lv_at hl 0 rfl) ?_
              refine lv_aload_n hx hb dX9_lastBytes_69 rfl (lv_at hl 2 rfl) ?_
              refine va_get (D := (dC, dI)) (ci := 11) (v := .int (st 1)) (C := RX9) (T := TX9) (N := 38) hx hb hts hin9 hown hK hP 0 rfl rfl 1 (by decide) (hts (.fieldLink RX9 62 "BlockLogModel" "pages" "I") (by decide +kernel)) (fun _ h9 => h9) rfl dX9_lastBytes_70 ?_
              refine lv_icmp_ge (tgt := 126) hx hb dX9_lastBytes_73 (by decide) (fun c_4 => ?_) (fun c_4 => ?_)
              · skip
                have ic_4 := iv_le c_4
                exact W.vret hx hb hr (fun t ht hW => ⟨⟨(), rfl, trivial, s3_68, s4_68, s5_68, s6_68, s12_68, a0_68, (by omega), (by omega), (by omega), (by omega), (by omega), (by omega), by rw [ht]; exact hP⟩, hS.F ht⟩) hS.2.2 dX9_lastBytes_126
              · skip
                have ic_4 := iv_nle c_4
                refine lv_aload_n hx hb dX9_lastBytes_76 rfl (lv_at hl 2 rfl) ?_
                refine va_get (D := (dC, dI)) (ci := 11) (v := .int s6_68) (C := RX9) (T := TX9) (N := 38) hx hb hts hin9 hown hK hP 0 rfl rfl 6 (by decide) (hts (.fieldLink RX9 108 "BlockLogModel" "dark" "Z") (by decide +kernel)) (fun _ h9 => h9) rfl dX9_lastBytes_77 ?_
                refine lv_if_ne (tgt := 126) hx hb dX9_lastBytes_80 (by decide) (fun c_5 => ?_) (fun c_5 => ?_)
                · skip
                  have ic_5 := iv_ne c_5
                  exact W.vret hx hb hr (fun t ht hW => ⟨⟨(), rfl, trivial, s3_68, s4_68, s5_68, s6_68, s12_68, a0_68, (by omega), (by omega), (by omega), (by omega), (by omega), (by omega), by rw [ht]; exact hP⟩, hS.F ht⟩) hS.2.2 dX9_lastBytes_126
                · skip
                  have ic_5 := iv_eq c_5
                  refine lv_aload_n hx hb dX9_lastBytes_83 rfl (lv_at hl 2 rfl) ?_
                  refine lv_iload_n hx hb dX9_lastBytes_84 rfl (lv_at hl 0 rfl) ?_
                  refine vp_callSi (va_Run.run (va_runV (As := [.int l2_68]) (rest := []) ⟨hx, hb, hml, hown, hts⟩ (v_X9_pagePlace l dC dI o c kc (rU (rU (rU (rU (rU st 3 s3_68) 4 s4_68) 5 s5_68) 6 s6_68) 12 s12_68) lg (rU ai 0 a0_68) al l2_68 (by omega) (by omega)) (cwV 1 hts gX9_lastBytes_X9_pagePlace rfl rfl rfl (by decide +kernel) ⟨Nat.le_of_ble_eq_true rfl, Nat.le_of_ble_eq_true rfl⟩) ⟨fun a U g mk q => by obtain ⟨q0, qP, qK⟩ := q; exact ⟨q0, qP, va_K.moved (u := U) (U := U.calling g mk a) (Vm.Alike.refl U.vm) qK⟩, va_recv hK hP (ci := 11) (q := (RX9, TX9, 38)) rfl (q0 := 0) rfl, fun U hU hW => ⟨rfl, by rw [hU]; exact hP, va_K.moved hW.alike hK⟩⟩ rfl rfl hl.1 rfl (lv_room (Nat.le_of_ble_eq_true rfl)) dX9_lastBytes_85 ⟨Nat.le_of_ble_eq_true rfl, Nat.le_of_ble_eq_true rfl⟩)) (fun r_6 er_6 => ?_)
                  have k_7 := er_6
                  refine lv_bipush (v := 25) hx hb dX9_lastBytes_88 (by decide) ?_
                  refine lv_iadd hx hb dX9_lastBytes_90 ?_
                  refine lv_topi (fun v_8 ev_8 => ?_)
                  have rg1 := iv_rng r_6
                  have hv_8 : v_8.toInt = r_6.toInt + 25 := by rw [ev_8]; exact (iv_add (by omega) (by omega)).trans (by omega)
                  clear ev_8
                  refine lv_istore_n (lv' := [(3, .int v_8), (2, .int l2_68), (1, .int r_1), (0, .ref o)]) hx hb dX9_lastBytes_91 rfl hl (by decide) rfl (fun ls hl => ?_)
                  refine lv_aload_n hx hb dX9_lastBytes_92 rfl (lv_at hl 3 rfl) ?_
                  refine lv_iload_n hx hb dX9_lastBytes_93 rfl (lv_at hl 0 rfl) ?_
                  refine vp_callSi (va_Run.run (va_runV (As := [.int v_8]) (rest := []) ⟨hx, hb, hml, hown, hts⟩ (v_X9_byteIn l dC dI o c kc (rU (rU (rU (rU (rU st 3 s3_68) 4 s4_68) 5 s5_68) 6 s6_68) 12 s12_68) lg (rU ai 0 a0_68) al v_8 (by omega) (by omega)) (cwV 1 hts gX9_lastBytes_X9_byteIn rfl rfl rfl (by decide +kernel) ⟨Nat.le_of_ble_eq_true rfl, Nat.le_of_ble_eq_true rfl⟩) ⟨fun a U g mk q => by obtain ⟨q0, qP, qK⟩ := q; exact ⟨q0, qP, va_K.moved (u := U) (U := U.calling g mk a) (Vm.Alike.refl U.vm) qK⟩, va_recv hK hP (ci := 11) (q := (RX9, TX9, 38)) rfl (q0 := 0) rfl, fun U hU hW => ⟨rfl, by rw [hU]; exact hP, va_K.moved hW.alike hK⟩⟩ rfl rfl hl.1 rfl (lv_room (Nat.le_of_ble_eq_true rfl)) dX9_lastBytes_94 ⟨Nat.le_of_ble_eq_true rfl, Nat.le_of_ble_eq_true rfl⟩)) (fun r_9 er_9 => ?_)
                  obtain ⟨k_10, k_11, k_12⟩ := er_9
                  have k_10 : r_9.toInt = (md_get a0_68 v_8).toInt := k_10
                  refine lv_sipush (v := 165) hx hb dX9_lastBytes_97 (by decide) ?_
                  refine lv_icmp_eq (tgt := 120) hx hb dX9_lastBytes_100 (by decide) (fun c_13 => ?_) (fun c_13 => ?_)
                  · skip
                    have ic_13 := iv_eq c_13
                    obtain ⟨x_14, ex_14⟩ : ∃ z : Int32, z = l2_68 + (1) := ⟨_, rfl⟩
                    refine lv_iinc (v := x_14) (lv' := [(2, .int x_14), (3, .int v_8), (1, .int r_1), (0, .ref o)]) hx hb dX9_lastBytes_120 hl (k := 1) rfl (by rw [ex_14]; rfl) (by decide) rfl (fun ls hl => ?_)
                    have rg2 := iv_rng l2_68
                    have hx_14 : x_14.toInt = l2_68.toInt + (1) := by rw [ex_14]; exact (iv_add (by omega) (by omega)).trans (by omega)
                    clear ex_14
                    refine lv_goto (tgt := 68) hx hb dX9_lastBytes_123 (by decide) ?_
                    exact ih68 x_14 s3_68 s4_68 s5_68 s6_68 s12_68 a0_68 _ _ _ (by omega) (by omega) (by omega) (by omega) (by omega) (by omega) (by omega) (by omega) (by omega) hP hS (lv_sub hl [0, 2, 3] rfl)
                  · skip
                    have ic_13 := iv_ne c_13
                    refine lv_aload_n hx hb dX9_lastBytes_103 rfl (lv_at hl 3 rfl) ?_
                    refine lv_iload_n hx hb dX9_lastBytes_104 rfl (lv_at hl 1 rfl) ?_
                    refine vp_callSi (va_Run.run (va_runV (As := [.int l2_68]) (rest := []) ⟨hx, hb, hml, hown, hts⟩ (v_X9_pageState l dC dI o c kc (rU (rU (rU (rU (rU st 3 s3_68) 4 s4_68) 5 s5_68) 6 s6_68) 12 s12_68) lg (rU ai 0 a0_68) al l2_68 (by omega) (by omega)) (cwV 1 hts gX9_lastBytes_X9_pageState rfl rfl rfl (by decide +kernel) ⟨Nat.le_of_ble_eq_true rfl, Nat.le_of_ble_eq_true rfl⟩) ⟨fun a U g mk q => by obtain ⟨q0, qP, qK⟩ := q; exact ⟨q0, qP, va_K.moved (u := U) (U := U.calling g mk a) (Vm.Alike.refl U.vm) qK⟩, va_recv hK hP (ci := 11) (q := (RX9, TX9, 38)) rfl (q0 := 0) rfl, fun U hU hW => ⟨rfl, by rw [hU]; exact hP, va_K.moved hW.alike hK⟩⟩ rfl rfl hl.1 rfl (lv_room (Nat.le_of_ble_eq_true rfl)) dX9_lastBytes_105 ⟨Nat.le_of_ble_eq_true rfl, Nat.le_of_ble_eq_true rfl⟩)) (fun r_15 er_15 => ?_)
                    obtain ⟨k_16, k_17, hrt⟩ := er_15
                    have hrt : (r_15.toInt = 1 → rtQ a0_68 l2_68) ∧ (r_15.toInt ≠ 1 → ¬ rtQ a0_68 l2_68) := hrt
                    refine lv_iconst (v := 1) hx hb dX9_lastBytes_108 (by decide) ?_
                    refine lv_icmp_ne (tgt := 120) hx hb dX9_lastBytes_109 (by decide) (fun c_18 => ?_) (fun c_18 => ?_)
                    · skip
                      have ic_18 := iv_ne c_18
                      obtain ⟨x_19, ex_19⟩ : ∃ z : Int32, z = l2_68 + (1) := ⟨_, rfl⟩
                      refine lv_iinc (v := x_19) (lv' := [(2, .int x_19), (3, .int v_8), (1, .int r_1), (0, .ref o)]) hx hb dX9_lastBytes_120 hl (k := 1) rfl (by rw [ex_19]; rfl) (by decide) rfl (fun ls hl => ?_)
                      have rg3 := iv_rng l2_68
                      have hx_19 : x_19.toInt = l2_68.toInt + (1) := by rw [ex_19]; exact (iv_add (by omega) (by omega)).trans (by omega)
                      clear ex_19
                      refine lv_goto (tgt := 68) hx hb dX9_lastBytes_123 (by decide) ?_
                      exact ih68 x_19 s3_68 s4_68 s5_68 s6_68 s12_68 a0_68 _ _ _ (by omega) (by omega) (by omega) (by omega) (by omega) (by omega) (by omega) (by omega) (by omega) hP hS (lv_sub hl [0, 2, 3] rfl)
                    · skip
                      have ic_18 := iv_eq c_18
                      refine lv_aload_n hx hb dX9_lastBytes_112 rfl (lv_at hl 3 rfl) ?_
                      refine lv_iload_n hx hb dX9_lastBytes_113 rfl (lv_at hl 0 rfl) ?_
                      refine lv_sipush (v := 165) hx hb dX9_lastBytes_114 (by decide) ?_
                      have hFc := vfree (rw_D hD : va_D A (rw_W o c kc (rU (rU (rU (rU (rU st 3 s3_68) 4 s4_68) 5 s5_68) 6 s6_68) 12 s12_68) lg (rU ai 0 a0_68) al)) hS hA
                      refine va_callv (va_runV (As := [.int v_8, .int (165 : Int32)]) (rest := []) ⟨hx, hb, hml, hown, hts⟩ (v_X9_write l dC dI o c kc (rU (rU (rU (rU (rU st 3 s3_68) 4 s4_68) 5 s5_68) 6 s6_68) 12 s12_68) lg (rU ai 0 a0_68) al v_8 (165 : Int32) _ (show 0 ≤ s3_68.toInt by omega) (show s3_68.toInt ≤ 1 by omega) (show 0 ≤ s6_68.toInt by omega) (show s6_68.toInt ≤ 1 by omega) (show 0 ≤ s12_68.toInt by omega) (show s12_68.toInt ≤ 8 by omega) (by omega) (by omega)) (cwV 2 hts gX9_lastBytes_X9_write rfl rfl rfl (by decide +kernel) ⟨Nat.le_of_ble_eq_true rfl, Nat.le_of_ble_eq_true rfl⟩) ⟨fun a U g mk q => by obtain ⟨q0, q1, qP, qK, qD⟩ := q; exact ⟨q0, q1, qP, va_K.moved (u := U) (U := U.calling g mk a) (Vm.Alike.refl U.vm) qK, qD⟩, va_recv hK hP (ci := 11) (q := (RX9, TX9, 38)) rfl (q0 := 0) rfl, fun U hU hW => ⟨rfl, by rw [hU], by rw [hU]; exact hP, va_K.moved hW.alike hK, rw_D (hD.weaken (fun _ _ _ _ => trivial))⟩⟩ rfl rfl hl.1 rfl (lv_room (Nat.le_of_ble_eq_true rfl)) dX9_lastBytes_117 ⟨Nat.le_of_ble_eq_true rfl, Nat.le_of_ble_eq_true rfl⟩) hS (fun q _ h => hFc q h) hFc (fun ur_20 t H1 locs ht hvm er_20 hB hz1 hk1 hS => ?_)
                      obtain ⟨x3_20, x4_20, x5_20, x6_20, x12_20, f0_20, k_21, k_22, k_23, k_24, k_25, k_26, hP1⟩ := hB
                      rw [ht] at hP1
                      clear hFc hz1 hk1 hvm hP
                      subst ht
                      have hP := hP1
                      clear hP1
                      generalize t.heap = H at hP hS ⊢
                      have hP : va_P (dC, dI) vwCl (rw_W o c kc (rU (rU (rU (rU (rU st 3 x3_20) 4 x4_20) 5 x5_20) 6 x6_20) 12 x12_20) lg (rU ai 0 f0_20) al) H := hP
                      have k_21 : 0 ≤ x3_20.toInt := k_21
                      have k_22 : x3_20.toInt ≤ 1 := k_22
                      have k_23 : 0 ≤ x6_20.toInt := k_23
                      have k_24 : x6_20.toInt ≤ 1 := k_24
                      have k_25 : 0 ≤ x12_20.toInt := k_25
                      have k_26 : x12_20.toInt ≤ 8 := k_26
                      obtain ⟨x_27, ex_27⟩ : ∃ z : Int32, z = l2_68 + (1) := ⟨_, rfl⟩
                      refine lv_iinc (v := x_27) (lv' := [(2, .int x_27), (3, .int v_8), (1, .int r_1), (0, .ref o)]) hx hb dX9_lastBytes_120 hl (k := 1) rfl (by rw [ex_27]; rfl) (by decide) rfl (fun ls hl => ?_)
                      have rg4 := iv_rng l2_68
                      have hx_27 : x_27.toInt = l2_68.toInt + (1) := by rw [ex_27]; exact (iv_add (by omega) (by omega)).trans (by omega)
                      clear ex_27
                      refine lv_goto (tgt := 68) hx hb dX9_lastBytes_123 (by decide) ?_
                      exact ih68 x_27 x3_20 x4_20 x5_20 x6_20 x12_20 f0_20 _ _ _ (by omega) (by omega) (by omega) (by omega) (by omega) (by omega) (by omega) (by omega) (by omega) hP hS (lv_sub hl [0, 2, 3] rfl)
          exact loop68 (((st 1).toInt - 0 : Int).toNat + 1) (0 : Int32) s3_7 s4_7 s5_7 s6_7 s12_7 a0_7 _ _ _ (by omega) (by omega) (by omega) (by omega) (by omega) (by omega) (by omega) (by omega) (by omega) hP hS (lv_sub hl [0, 1, 2] rfl)
        · skip
          have ic_3 := iv_nle c_3
          refine lv_aload_n hx hb dX9_lastBytes_12 rfl (lv_at hl 2 rfl) ?_
          refine va_get (D := (dC, dI)) (ci := 11) (v := .int s6_7) (C := RX9) (T := TX9) (N := 38) hx hb hts hin9 hown hK hP 0 rfl rfl 6 (by decide) (hts (.fieldLink RX9 108 "BlockLogModel" "dark" "Z") (by decide +kernel)) (fun _ h9 => h9) rfl dX9_lastBytes_13 ?_
          refine lv_if_ne (tgt := 66) hx hb dX9_lastBytes_16 (by decide) (fun c_28 => ?_) (fun c_28 => ?_)
          · skip
            have ic_28 := iv_ne c_28
            refine lv_iconst (v := 0) hx hb dX9_lastBytes_66 (by decide) ?_
            refine lv_istore_n (lv' := [(2, .int (0 : Int32)), (1, .int r_1), (0, .ref o)]) hx hb dX9_lastBytes_67 rfl hl (by decide) rfl (fun ls hl => ?_)
            have loop68 : ∀ (n : Nat) (l2_68 : Int32) (s3_68 : Int32) (s4_68 : Int32) (s5_68 : Int32) (s6_68 : Int32) (s12_68 : Int32) (a0_68 : Nat → Int32) (H : Heap) (locs : List Loc) (ls : Array Slot), (0 ≤ l2_68.toInt) → (l2_68.toInt ≤ (st 1).toInt) → (0 ≤ s3_68.toInt) → (s3_68.toInt ≤ 1) → (0 ≤ s6_68.toInt) → (s6_68.toInt ≤ 1) → (0 ≤ s12_68.toInt) → (s12_68.toInt ≤ 8) → ((st 1).toInt - l2_68.toInt : Int).toNat < n → va_P (dC, dI) vwCl (rw_W o c kc (rU (rU (rU (rU (rU st 3 s3_68) 4 s4_68) 5 s5_68) 6 s6_68) 12 s12_68) lg (rU ai 0 a0_68) al) H → va_S A s.heap H locs → lv_has ls 4 [(2, .int l2_68), (1, .int r_1), (0, .ref o)] → W p l e (headSpec wsX9_lastBytes ({ frames := 5, cells := 0, slots := 0, locals := 114 })).room s m ([.ref o] : List Value).toArray below meth cM H locs 0 0 (MQ below (va_Qv (fun (_ : Unit) => True) (fun _ t => ∃ (x3 : Int32) (x4 : Int32) (x5 : Int32) (x6 : Int32) (x12 : Int32) (f0 : Nat → Int32), (0 ≤ x3.toInt) ∧ (x3.toInt ≤ 1) ∧ (0 ≤ x6.toInt) ∧ (x6.toInt ≤ 1) ∧ (0 ≤ x12.toInt) ∧ (x12.toInt ≤ 8) ∧ va_P (dC, dI) vwCl (rw_W o c kc (rU (rU (rU (rU (rU st 3 x3) 4 x4) 5 x5) 6 x6) 12 x12) lg (rU ai 0 f0) al) t.heap) A) ([.ref o] : List Value).toArray s 0 0 A) (F0 m 68 ls []) := by
              intro n
              induction n with
              | zero => intro l2_68 s3_68 s4_68 s5_68 s6_68 s12_68 a0_68 H locs ls if0_68 if1_68 if2_68 if3_68 if4_68 if5_68 if6_68 if7_68 hm; exact absurd hm (Nat.not_lt_zero _)
              | succ n ih68 =>
                intro l2_68 s3_68 s4_68 s5_68 s6_68 s12_68 a0_68 H locs ls if0_68 if1_68 if2_68 if3_68 if4_68 if5_68 if6_68 if7_68 hm68 hP hS hl
                refine lv_iload_n hx hb dX9_lastBytes_68 rfl (lv_at hl 0 rfl) ?_
                refine lv_aload_n hx hb dX9_lastBytes_69 rfl (lv_at hl 2 rfl) ?_
                refine va_get (D := (dC, dI)) (ci := 11) (v := .int (st 1)) (C := RX9) (T := TX9) (N := 38) hx hb hts hin9 hown hK hP 0 rfl rfl 1 (by decide) (hts (.fieldLink RX9 62 "BlockLogModel" "pages" "I") (by decide +kernel)) (fun _ h9 => h9) rfl dX9_lastBytes_70 ?_
                refine lv_icmp_ge (tgt := 126) hx hb dX9_lastBytes_73 (by decide) (fun c_29 => ?_) (fun c_29 => ?_)
                · skip
                  have ic_29 := iv_le c_29
                  exact W.vret hx hb hr (fun t ht hW => ⟨⟨(), rfl, trivial, s3_68, s4_68, s5_68, s6_68, s12_68, a0_68, (by omega), (by omega), (by omega), (by omega), (by omega), (by omega), by rw [ht]; exact hP⟩, hS.F ht⟩) hS.2.2 dX9_lastBytes_126
                · skip
                  have ic_29 := iv_nle c_29
                  refine lv_aload_n hx hb dX9_lastBytes_76 rfl (lv_at hl 2 rfl) ?_
                  refine va_get (D := (dC, dI)) (ci := 11) (v := .int s6_68) (C := RX9) (T := TX9) (N := 38) hx hb hts hin9 hown hK hP 0 rfl rfl 6 (by decide) (hts (.fieldLink RX9 108 "BlockLogModel" "dark" "Z") (by decide +kernel)) (fun _ h9 => h9) rfl dX9_lastBytes_77 ?_
                  refine lv_if_ne (tgt := 126) hx hb dX9_lastBytes_80 (by decide) (fun c_30 => ?_) (fun c_30 => ?_)
                  · skip
                    have ic_30 := iv_ne c_30
                    exact W.vret hx hb hr (fun t ht hW => ⟨⟨(), rfl, trivial, s3_68, s4_68, s5_68, s6_68, s12_68, a0_68, (by omega), (by omega), (by omega), (by omega), (by omega), (by omega), by rw [ht]; exact hP⟩, hS.F ht⟩) hS.2.2 dX9_lastBytes_126
                  · skip
                    have ic_30 := iv_eq c_30
                    refine lv_aload_n hx hb dX9_lastBytes_83 rfl (lv_at hl 2 rfl) ?_
                    refine lv_iload_n hx hb dX9_lastBytes_84 rfl (lv_at hl 0 rfl) ?_
                    refine vp_callSi (va_Run.run (va_runV (As := [.int l2_68]) (rest := []) ⟨hx, hb, hml, hown, hts⟩ (v_X9_pagePlace l dC dI o c kc (rU (rU (rU (rU (rU st 3 s3_68) 4 s4_68) 5 s5_68) 6 s6_68) 12 s12_68) lg (rU ai 0 a0_68) al l2_68 (by omega) (by omega)) (cwV 1 hts gX9_lastBytes_X9_pagePlace rfl rfl rfl (by decide +kernel) ⟨Nat.le_of_ble_eq_true rfl, Nat.le_of_ble_eq_true rfl⟩) ⟨fun a U g mk q => by obtain ⟨q0, qP, qK⟩ := q; exact ⟨q0, qP, va_K.moved (u := U) (U := U.calling g mk a) (Vm.Alike.refl U.vm) qK⟩, va_recv hK hP (ci := 11) (q := (RX9, TX9, 38)) rfl (q0 := 0) rfl, fun U hU hW => ⟨rfl, by rw [hU]; exact hP, va_K.moved hW.alike hK⟩⟩ rfl rfl hl.1 rfl (lv_room (Nat.le_of_ble_eq_true rfl)) dX9_lastBytes_85 ⟨Nat.le_of_ble_eq_true rfl, Nat.le_of_ble_eq_true rfl⟩)) (fun r_31 er_31 => ?_)
                    have k_32 := er_31
                    refine lv_bipush (v := 25) hx hb dX9_lastBytes_88 (by decide) ?_
                    refine lv_iadd hx hb dX9_lastBytes_90 ?_
                    refine lv_topi (fun v_33 ev_33 => ?_)
                    have rg5 := iv_rng r_31
                    have hv_33 : v_33.toInt = r_31.toInt + 25 := by rw [ev_33]; exact (iv_add (by omega) (by omega)).trans (by omega)
                    clear ev_33
                    refine lv_istore_n (lv' := [(3, .int v_33), (2, .int l2_68), (1, .int r_1), (0, .ref o)]) hx hb dX9_lastBytes_91 rfl hl (by decide) rfl (fun ls hl => ?_)
                    refine lv_aload_n hx hb dX9_lastBytes_92 rfl (lv_at hl 3 rfl) ?_
                    refine lv_iload_n hx hb dX9_lastBytes_93 rfl (lv_at hl 0 rfl) ?_
                    refine vp_callSi (va_Run.run (va_runV (As := [.int v_33]) (rest := []) ⟨hx, hb, hml, hown, hts⟩ (v_X9_byteIn l dC dI o c kc (rU (rU (rU (rU (rU st 3 s3_68) 4 s4_68) 5 s5_68) 6 s6_68) 12 s12_68) lg (rU ai 0 a0_68) al v_33 (by omega) (by omega)) (cwV 1 hts gX9_lastBytes_X9_byteIn rfl rfl rfl (by decide +kernel) ⟨Nat.le_of_ble_eq_true rfl, Nat.le_of_ble_eq_true rfl⟩) ⟨fun a U g mk q => by obtain ⟨q0, qP, qK⟩ := q; exact ⟨q0, qP, va_K.moved (u := U) (U := U.calling g mk a) (Vm.Alike.refl U.vm) qK⟩, va_recv hK hP (ci := 11) (q := (RX9, TX9, 38)) rfl (q0 := 0) rfl, fun U hU hW => ⟨rfl, by rw [hU]; exact hP, va_K.moved hW.alike hK⟩⟩ rfl rfl hl.1 rfl (lv_room (Nat.le_of_ble_eq_true rfl)) dX9_lastBytes_94 ⟨Nat.le_of_ble_eq_true rfl, Nat.le_of_ble_eq_true rfl⟩)) (fun r_34 er_34 => ?_)
                    obtain ⟨k_35, k_36, k_37⟩ := er_34
                    have k_35 : r_34.toInt = (md_get a0_68 v_33).toInt := k_35
                    refine lv_sipush (v := 165) hx hb dX9_lastBytes_97 (by decide) ?_
                    refine lv_icmp_eq (tgt := 120) hx hb dX9_lastBytes_100 (by decide) (fun c_38 => ?_) (fun c_38 => ?_)
                    · skip
                      have ic_38 := iv_eq c_38
                      obtain ⟨x_39, ex_39⟩ : ∃ z : Int32, z = l2_68 + (1) := ⟨_, rfl⟩
                      refine lv_iinc (v := x_39) (lv' := [(2, .int x_39), (3, .int v_33), (1, .int r_1), (0, .ref o)]) hx hb dX9_lastBytes_120 hl (k := 1) rfl (by rw [ex_39]; rfl) (by decide) rfl (fun ls hl => ?_)
                      have rg6 := iv_rng l2_68
                      have hx_39 : x_39.toInt = l2_68.toInt + (1) := by rw [ex_39]; exact (iv_add (by omega) (by omega)).trans (by omega)
                      clear ex_39
                      refine lv_goto (tgt := 68) hx hb dX9_lastBytes_123 (by decide) ?_
                      exact ih68 x_39 s3_68 s4_68 s5_68 s6_68 s12_68 a0_68 _ _ _ (by omega) (by omega) (by omega) (by omega) (by omega) (by omega) (by omega) (by omega) (by omega) hP hS (lv_sub hl [0, 2, 3] rfl)
                    · skip
                      have ic_38 := iv_ne c_38
                      refine lv_aload_n hx hb dX9_lastBytes_103 rfl (lv_at hl 3 rfl) ?_
                      refine lv_iload_n hx hb dX9_lastBytes_104 rfl (lv_at hl 1 rfl) ?_
                      refine vp_callSi (va_Run.run (va_runV (As := [.int l2_68]) (rest := []) ⟨hx, hb, hml, hown, hts⟩ (v_X9_pageState l dC dI o c kc (rU (rU (rU (rU (rU st 3 s3_68) 4 s4_68) 5 s5_68) 6 s6_68) 12 s12_68) lg (rU ai 0 a0_68) al l2_68 (by omega) (by omega)) (cwV 1 hts gX9_lastBytes_X9_pageState rfl rfl rfl (by decide +kernel) ⟨Nat.le_of_ble_eq_true rfl, Nat.le_of_ble_eq_true rfl⟩) ⟨fun a U g mk q => by obtain ⟨q0, qP, qK⟩ := q; exact ⟨q0, qP, va_K.moved (u := U) (U := U.calling g mk a) (Vm.Alike.refl U.vm) qK⟩, va_recv hK hP (ci := 11) (q := (RX9, TX9, 38)) rfl (q0 := 0) rfl, fun U hU hW => ⟨rfl, by rw [hU]; exact hP, va_K.moved hW.alike hK⟩⟩ rfl rfl hl.1 rfl (lv_room (Nat.le_of_ble_eq_true rfl)) dX9_lastBytes_105 ⟨Nat.le_of_ble_eq_true rfl, Nat.le_of_ble_eq_true rfl⟩)) (fun r_40 er_40 => ?_)
                      obtain ⟨k_41, k_42, hrt⟩ := er_40
                      have hrt : (r_40.toInt = 1 → rtQ a0_68 l2_68) ∧ (r_40.toInt ≠ 1 → ¬ rtQ a0_68 l2_68) := hrt
                      refine lv_iconst (v := 1) hx hb dX9_lastBytes_108 (by decide) ?_
                      refine lv_icmp_ne (tgt := 120) hx hb dX9_lastBytes_109 (by decide) (fun c_43 => ?_) (fun c_43 => ?_)
                      · skip
                        have ic_43 := iv_ne c_43
                        obtain ⟨x_44, ex_44⟩ : ∃ z : Int32, z = l2_68 + (1) := ⟨_, rfl⟩
                        refine lv_iinc (v := x_44) (lv' := [(2, .int x_44), (3, .int v_33), (1, .int r_1), (0, .ref o)]) hx hb dX9_lastBytes_120 hl (k := 1) rfl (by rw [ex_44]; rfl) (by decide) rfl (fun ls hl => ?_)
                        have rg7 := iv_rng l2_68
                        have hx_44 : x_44.toInt = l2_68.toInt + (1) := by rw [ex_44]; exact (iv_add (by omega) (by omega)).trans (by omega)
                        clear ex_44
                        refine lv_goto (tgt := 68) hx hb dX9_lastBytes_123 (by decide) ?_
                        exact ih68 x_44 s3_68 s4_68 s5_68 s6_68 s12_68 a0_68 _ _ _ (by omega) (by omega) (by omega) (by omega) (by omega) (by omega) (by omega) (by omega) (by omega) hP hS (lv_sub hl [0, 2, 3] rfl)
                      · skip
                        have ic_43 := iv_eq c_43
                        refine lv_aload_n hx hb dX9_lastBytes_112 rfl (lv_at hl 3 rfl) ?_
                        refine lv_iload_n hx hb dX9_lastBytes_113 rfl (lv_at hl 0 rfl) ?_
                        refine lv_sipush (v := 165) hx hb dX9_lastBytes_114 (by decide) ?_
                        have hFc := vfree (rw_D hD : va_D A (rw_W o c kc (rU (rU (rU (rU (rU st 3 s3_68) 4 s4_68) 5 s5_68) 6 s6_68) 12 s12_68) lg (rU ai 0 a0_68) al)) hS hA
                        refine va_callv (va_runV (As := [.int v_33, .int (165 : Int32)]) (rest := []) ⟨hx, hb, hml, hown, hts⟩ (v_X9_write l dC dI o c kc (rU (rU (rU (rU (rU st 3 s3_68) 4 s4_68) 5 s5_68) 6 s6_68) 12 s12_68) lg (rU ai 0 a0_68) al v_33 (165 : Int32) _ (show 0 ≤ s3_68.toInt by omega) (show s3_68.toInt ≤ 1 by omega) (show 0 ≤ s6_68.toInt by omega) (show s6_68.toInt ≤ 1 by omega) (show 0 ≤ s12_68.toInt by omega) (show s12_68.toInt ≤ 8 by omega) (by omega) (by omega)) (cwV 2 hts gX9_lastBytes_X9_write rfl rfl rfl (by decide +kernel) ⟨Nat.le_of_ble_eq_true rfl, Nat.le_of_ble_eq_true rfl⟩) ⟨fun a U g mk q => by obtain ⟨q0, q1, qP, qK, qD⟩ := q; exact ⟨q0, q1, qP, va_K.moved (u := U) (U := U.calling g mk a) (Vm.Alike.refl U.vm) qK, qD⟩, va_recv hK hP (ci := 11) (q := (RX9, TX9, 38)) rfl (q0 := 0) rfl, fun U hU hW => ⟨rfl, by rw [hU], by rw [hU]; exact hP, va_K.moved hW.alike hK, rw_D (hD.weaken (fun _ _ _ _ => trivial))⟩⟩ rfl rfl hl.1 rfl (lv_room (Nat.le_of_ble_eq_true rfl)) dX9_lastBytes_117 ⟨Nat.le_of_ble_eq_true rfl, Nat.le_of_ble_eq_true rfl⟩) hS (fun q _ h => hFc q h) hFc (fun ur_45 t H1 locs ht hvm er_45 hB hz1 hk1 hS => ?_)
                        obtain ⟨x3_45, x4_45, x5_45, x6_45, x12_45, f0_45, k_46, k_47, k_48, k_49, k_50, k_51, hP1⟩ := hB
                        rw [ht] at hP1
                        clear hFc hz1 hk1 hvm hP
                        subst ht
                        have hP := hP1
                        clear hP1
                        generalize t.heap = H at hP hS ⊢
                        have hP : va_P (dC, dI) vwCl (rw_W o c kc (rU (rU (rU (rU (rU st 3 x3_45) 4 x4_45) 5 x5_45) 6 x6_45) 12 x12_45) lg (rU ai 0 f0_45) al) H := hP
                        have k_46 : 0 ≤ x3_45.toInt := k_46
                        have k_47 : x3_45.toInt ≤ 1 := k_47
                        have k_48 : 0 ≤ x6_45.toInt := k_48
                        have k_49 : x6_45.toInt ≤ 1 := k_49
                        have k_50 : 0 ≤ x12_45.toInt := k_50
                        have k_51 : x12_45.toInt ≤ 8 := k_51
                        obtain ⟨x_52, ex_52⟩ : ∃ z : Int32, z = l2_68 + (1) := ⟨_, rfl⟩
                        refine lv_iinc (v := x_52) (lv' := [(2, .int x_52), (3, .int v_33), (1, .int r_1), (0, .ref o)]) hx hb dX9_lastBytes_120 hl (k := 1) rfl (by rw [ex_52]; rfl) (by decide) rfl (fun ls hl => ?_)
                        have rg8 := iv_rng l2_68
                        have hx_52 : x_52.toInt = l2_68.toInt + (1) := by rw [ex_52]; exact (iv_add (by omega) (by omega)).trans (by omega)
                        clear ex_52
                        refine lv_goto (tgt := 68) hx hb dX9_lastBytes_123 (by decide) ?_
                        exact ih68 x_52 x3_45 x4_45 x5_45 x6_45 x12_45 f0_45 _ _ _ (by omega) (by omega) (by omega) (by omega) (by omega) (by omega) (by omega) (by omega) (by omega) hP hS (lv_sub hl [0, 2, 3] rfl)
            exact loop68 (((st 1).toInt - 0 : Int).toNat + 1) (0 : Int32) s3_7 s4_7 s5_7 s6_7 s12_7 a0_7 _ _ _ (by omega) (by omega) (by omega) (by omega) (by omega) (by omega) (by omega) (by omega) (by omega) hP hS (lv_sub hl [0, 1, 2] rfl)
          · skip
            have ic_28 := iv_eq c_28
            refine lv_aload_n hx hb dX9_lastBytes_19 rfl (lv_at hl 2 rfl) ?_
            refine lv_aload_n hx hb dX9_lastBytes_20 rfl (lv_at hl 2 rfl) ?_
            refine va_get (D := (dC, dI)) (ci := 11) (v := .int (st 7)) (C := RX9) (T := TX9) (N := 38) hx hb hts hin9 hown hK hP 0 rfl rfl 7 (by decide) (hts (.fieldLink RX9 76 "BlockLogModel" "area" "I") (by decide +kernel)) (fun _ h9 => h9) rfl dX9_lastBytes_21 ?_
            refine lv_iload_n hx hb dX9_lastBytes_24 rfl (lv_at hl 0 rfl) ?_
            refine vp_callSi (va_Run.run (va_runV (As := [.int (st 7), .int l2_7]) (rest := []) ⟨hx, hb, hml, hown, hts⟩ (v_X9_rowPlace l dC dI o c kc (rU (rU (rU (rU (rU st 3 s3_7) 4 s4_7) 5 s5_7) 6 s6_7) 12 s12_7) lg (rU ai 0 a0_7) al (st 7) l2_7 (by omega) (by omega) (by omega) (by omega)) (cwV 2 hts gX9_lastBytes_X9_rowPlace rfl rfl rfl (by decide +kernel) ⟨Nat.le_of_ble_eq_true rfl, Nat.le_of_ble_eq_true rfl⟩) ⟨fun a U g mk q => by obtain ⟨q0, qP, qK⟩ := q; exact ⟨q0, qP, va_K.moved (u := U) (U := U.calling g mk a) (Vm.Alike.refl U.vm) qK⟩, va_recv hK hP (ci := 11) (q := (RX9, TX9, 38)) rfl (q0 := 0) rfl, fun U hU hW => ⟨rfl, by rw [hU]; exact hP, va_K.moved hW.alike hK⟩⟩ rfl rfl hl.1 rfl (lv_room (Nat.le_of_ble_eq_true rfl)) dX9_lastBytes_25 ⟨Nat.le_of_ble_eq_true rfl, Nat.le_of_ble_eq_true rfl⟩)) (fun r_53 er_53 => ?_)
            have k_54 := er_53
            refine lv_bipush (v := 31) hx hb dX9_lastBytes_28 (by decide) ?_
            refine lv_iadd hx hb dX9_lastBytes_30 ?_
            refine lv_topi (fun v_55 ev_55 => ?_)
            have rg9 := iv_rng r_53
            have hv_55 : v_55.toInt = r_53.toInt + 31 := by rw [ev_55]; exact (iv_add (by omega) (by omega)).trans (by omega)
            clear ev_55
            refine lv_istore_n (lv' := [(3, .int v_55), (2, .int l2_7), (1, .int r_1), (0, .ref o)]) hx hb dX9_lastBytes_31 rfl hl (by decide) rfl (fun ls hl => ?_)
            refine lv_aload_n hx hb dX9_lastBytes_32 rfl (lv_at hl 3 rfl) ?_
            refine lv_iload_n hx hb dX9_lastBytes_33 rfl (lv_at hl 0 rfl) ?_
            refine vp_callSi (va_Run.run (va_runV (As := [.int v_55]) (rest := []) ⟨hx, hb, hml, hown, hts⟩ (v_X9_byteIn l dC dI o c kc (rU (rU (rU (rU (rU st 3 s3_7) 4 s4_7) 5 s5_7) 6 s6_7) 12 s12_7) lg (rU ai 0 a0_7) al v_55 (by omega) (by omega)) (cwV 1 hts gX9_lastBytes_X9_byteIn rfl rfl rfl (by decide +kernel) ⟨Nat.le_of_ble_eq_true rfl, Nat.le_of_ble_eq_true rfl⟩) ⟨fun a U g mk q => by obtain ⟨q0, qP, qK⟩ := q; exact ⟨q0, qP, va_K.moved (u := U) (U := U.calling g mk a) (Vm.Alike.refl U.vm) qK⟩, va_recv hK hP (ci := 11) (q := (RX9, TX9, 38)) rfl (q0 := 0) rfl, fun U hU hW => ⟨rfl, by rw [hU]; exact hP, va_K.moved hW.alike hK⟩⟩ rfl rfl hl.1 rfl (lv_room (Nat.le_of_ble_eq_true rfl)) dX9_lastBytes_34 ⟨Nat.le_of_ble_eq_true rfl, Nat.le_of_ble_eq_true rfl⟩)) (fun r_56 er_56 => ?_)
            obtain ⟨k_57, k_58, k_59⟩ := er_56
            have k_57 : r_56.toInt = (md_get a0_7 v_55).toInt := k_57
            refine lv_sipush (v := 165) hx hb dX9_lastBytes_37 (by decide) ?_
            refine lv_icmp_eq (tgt := 60) hx hb dX9_lastBytes_40 (by decide) (fun c_60 => ?_) (fun c_60 => ?_)
            · skip
              have ic_60 := iv_eq c_60
              obtain ⟨x_61, ex_61⟩ : ∃ z : Int32, z = l2_7 + (1) := ⟨_, rfl⟩
              refine lv_iinc (v := x_61) (lv' := [(2, .int x_61), (3, .int v_55), (1, .int r_1), (0, .ref o)]) hx hb dX9_lastBytes_60 hl (k := 1) rfl (by rw [ex_61]; rfl) (by decide) rfl (fun ls hl => ?_)
              have rg10 := iv_rng l2_7
              have hx_61 : x_61.toInt = l2_7.toInt + (1) := by rw [ex_61]; exact (iv_add (by omega) (by omega)).trans (by omega)
              clear ex_61
              refine lv_goto (tgt := 7) hx hb dX9_lastBytes_63 (by decide) ?_
              exact ih7 x_61 s3_7 s4_7 s5_7 s6_7 s12_7 a0_7 _ _ _ (by omega) (by omega) (by omega) (by omega) (by omega) (by omega) (by omega) (by omega) (by omega) (by omega) hP hS (lv_sub hl [0, 2, 3] rfl)
            · skip
              have ic_60 := iv_ne c_60
              refine lv_aload_n hx hb dX9_lastBytes_43 rfl (lv_at hl 3 rfl) ?_
              refine lv_iload_n hx hb dX9_lastBytes_44 rfl (lv_at hl 1 rfl) ?_
              refine vp_callSi (va_Run.run (va_runV (As := [.int l2_7]) (rest := []) ⟨hx, hb, hml, hown, hts⟩ (v_X9_rowState l dC dI o c kc (rU (rU (rU (rU (rU st 3 s3_7) 4 s4_7) 5 s5_7) 6 s6_7) 12 s12_7) lg (rU ai 0 a0_7) al l2_7 (show 0 ≤ (st 7).toInt by omega) (show (st 7).toInt ≤ 1 by omega) (by omega) (by omega)) (cwV 1 hts gX9_lastBytes_X9_rowState rfl rfl rfl (by decide +kernel) ⟨Nat.le_of_ble_eq_true rfl, Nat.le_of_ble_eq_true rfl⟩) ⟨fun a U g mk q => by obtain ⟨q0, qP, qK⟩ := q; exact ⟨q0, qP, va_K.moved (u := U) (U := U.calling g mk a) (Vm.Alike.refl U.vm) qK⟩, va_recv hK hP (ci := 11) (q := (RX9, TX9, 38)) rfl (q0 := 0) rfl, fun U hU hW => ⟨rfl, by rw [hU]; exact hP, va_K.moved hW.alike hK⟩⟩ rfl rfl hl.1 rfl (lv_room (Nat.le_of_ble_eq_true rfl)) dX9_lastBytes_45 ⟨Nat.le_of_ble_eq_true rfl, Nat.le_of_ble_eq_true rfl⟩)) (fun r_62 er_62 => ?_)
              obtain ⟨k_63, k_64⟩ := er_62
              refine lv_iconst (v := 1) hx hb dX9_lastBytes_48 (by decide) ?_
              refine lv_icmp_ne (tgt := 60) hx hb dX9_lastBytes_49 (by decide) (fun c_65 => ?_) (fun c_65 => ?_)
              · skip
                have ic_65 := iv_ne c_65
                obtain ⟨x_66, ex_66⟩ : ∃ z : Int32, z = l2_7 + (1) := ⟨_, rfl⟩
                refine lv_iinc (v := x_66) (lv' := [(2, .int x_66), (3, .int v_55), (1, .int r_1), (0, .ref o)]) hx hb dX9_lastBytes_60 hl (k := 1) rfl (by rw [ex_66]; rfl) (by decide) rfl (fun ls hl => ?_)
                have rg11 := iv_rng l2_7
                have hx_66 : x_66.toInt = l2_7.toInt + (1) := by rw [ex_66]; exact (iv_add (by omega) (by omega)).trans (by omega)
                clear ex_66
                refine lv_goto (tgt := 7) hx hb dX9_lastBytes_63 (by decide) ?_
                exact ih7 x_66 s3_7 s4_7 s5_7 s6_7 s12_7 a0_7 _ _ _ (by omega) (by omega) (by omega) (by omega) (by omega) (by omega) (by omega) (by omega) (by omega) (by omega) hP hS (lv_sub hl [0, 2, 3] rfl)
              · skip
                have ic_65 := iv_eq c_65
                refine lv_aload_n hx hb dX9_lastBytes_52 rfl (lv_at hl 3 rfl) ?_
                refine lv_iload_n hx hb dX9_lastBytes_53 rfl (lv_at hl 0 rfl) ?_
                refine lv_sipush (v := 165) hx hb dX9_lastBytes_54 (by decide) ?_
                have hFc := vfree (rw_D hD : va_D A (rw_W o c kc (rU (rU (rU (rU (rU st 3 s3_7) 4 s4_7) 5 s5_7) 6 s6_7) 12 s12_7) lg (rU ai 0 a0_7) al)) hS hA
                refine va_callv (va_runV (As := [.int v_55, .int (165 : Int32)]) (rest := []) ⟨hx, hb, hml, hown, hts⟩ (v_X9_write l dC dI o c kc (rU (rU (rU (rU (rU st 3 s3_7) 4 s4_7) 5 s5_7) 6 s6_7) 12 s12_7) lg (rU ai 0 a0_7) al v_55 (165 : Int32) _ (show 0 ≤ s3_7.toInt by omega) (show s3_7.toInt ≤ 1 by omega) (show 0 ≤ s6_7.toInt by omega) (show s6_7.toInt ≤ 1 by omega) (show 0 ≤ s12_7.toInt by omega) (show s12_7.toInt ≤ 8 by omega) (by omega) (by omega)) (cwV 2 hts gX9_lastBytes_X9_write rfl rfl rfl (by decide +kernel) ⟨Nat.le_of_ble_eq_true rfl, Nat.le_of_ble_eq_true rfl⟩) ⟨fun a U g mk q => by obtain ⟨q0, q1, qP, qK, qD⟩ := q; exact ⟨q0, q1, qP, va_K.moved (u := U) (U := U.calling g mk a) (Vm.Alike.refl U.vm) qK, qD⟩, va_recv hK hP (ci := 11) (q := (RX9, TX9, 38)) rfl (q0 := 0) rfl, fun U hU hW => ⟨rfl, by rw [hU], by rw [hU]; exact hP, va_K.moved hW.alike hK, rw_D (hD.weaken (fun _ _ _ _ => trivial))⟩⟩ rfl rfl hl.1 rfl (lv_room (Nat.le_of_ble_eq_true rfl)) dX9_lastBytes_57 ⟨Nat.le_of_ble_eq_true rfl, Nat.le_of_ble_eq_true rfl⟩) hS (fun q _ h => hFc q h) hFc (fun ur_67 t H1 locs ht hvm er_67 hB hz1 hk1 hS => ?_)
                obtain ⟨x3_67, x4_67, x5_67, x6_67, x12_67, f0_67, k_68, k_69, k_70, k_71, k_72, k_73, hP1⟩ := hB
                rw [ht] at hP1
                clear hFc hz1 hk1 hvm hP
                subst ht
                have hP := hP1
                clear hP1
                generalize t.heap = H at hP hS ⊢
                have hP : va_P (dC, dI) vwCl (rw_W o c kc (rU (rU (rU (rU (rU st 3 x3_67) 4 x4_67) 5 x5_67) 6 x6_67) 12 x12_67) lg (rU ai 0 f0_67) al) H := hP
                have k_68 : 0 ≤ x3_67.toInt := k_68
                have k_69 : x3_67.toInt ≤ 1 := k_69
                have k_70 : 0 ≤ x6_67.toInt := k_70
                have k_71 : x6_67.toInt ≤ 1 := k_71
                have k_72 : 0 ≤ x12_67.toInt := k_72
                have k_73 : x12_67.toInt ≤ 8 := k_73
                obtain ⟨x_74, ex_74⟩ : ∃ z : Int32, z = l2_7 + (1) := ⟨_, rfl⟩
                refine lv_iinc (v := x_74) (lv' := [(2, .int x_74), (3, .int v_55), (1, .int r_1), (0, .ref o)]) hx hb dX9_lastBytes_60 hl (k := 1) rfl (by rw [ex_74]; rfl) (by decide) rfl (fun ls hl => ?_)
                have rg12 := iv_rng l2_7
                have hx_74 : x_74.toInt = l2_7.toInt + (1) := by rw [ex_74]; exact (iv_add (by omega) (by omega)).trans (by omega)
                clear ex_74
                refine lv_goto (tgt := 7) hx hb dX9_lastBytes_63 (by decide) ?_
                exact ih7 x_74 x3_67 x4_67 x5_67 x6_67 x12_67 f0_67 _ _ _ (by omega) (by omega) (by omega) (by omega) (by omega) (by omega) (by omega) (by omega) (by omega) (by omega) hP hS (lv_sub hl [0, 2, 3] rfl)
    exact loop7 ((r_1.toInt - 0 : Int).toNat + 1) (0 : Int32) (st 3) (st 4) (st 5) (st 6) (st 12) (ai 0) _ _ _ (by omega) (by omega) (by omega) (by omega) (by omega) (by omega) (by omega) (by omega) (by omega) (by omega) hP hS (lv_sub hl [0, 1, 2] rfl)
  exact main s.heap [] hP hS

set_option maxHeartbeats 4000000 in
set_option maxRecDepth 100000 in
theorem v_X9_layLeaf (l : Launch) (dC : Nat → ClassId) (dI : Nat → Nat → Nat) (o : Nat) (c : Nat → Nat) (kc : Nat → ClassId) (st : Nat → Int32) (lg : Nat → Int64) (ai : Nat → Nat → Int32) (al : Nat → Nat → Int64)  (sz : Nat) (hf9a : 0 ≤ (st 9).toInt) (hf9b : (st 9).toInt ≤ 400) (hR8 : aR (ai 8) 400 (0) 255) : Met l yX9_layLeaf wsX9_layLeaf ({ frames := 2, cells := 0, slots := 0, locals := 49 }) (va_Pc [.ref o] (fun U => U.heap.size = sz ∧ va_P (dC, dI) vwCl (rw_W o c kc st lg ai al) U.heap ∧ va_K (dC, dI) vwCl (rw_T kc) U ∧ va_D (fun _ => True) (rw_W o c kc st lg ai al))) (va_Qv (fun (_ : Unit) => True) (fun _ t => ∃ (f14 : Nat → Int32), va_P (dC, dI) vwCl (rw_W o c kc st lg (rU ai 14 f14) al) t.heap) (va_A (rw_W o c kc st lg ai al) sz)) 0 0 (va_A (rw_W o c kc st lg ai al) sz) := by
  refine Met.ofW (cc := cX9_layLeaf) (maxL := 2) (ret := none) (by decide) rfl ?_
  intro p e s m args below meth cM s₁ B hml hv
  obtain ⟨rfl, hsz, hP, hK, hD0⟩ := hv
  have hx := B.exec
  have hb := B.bytes
  have hr := B.returns
  have hts := atoms_spec (ws := wsX9_layLeaf) B.pre
  have hown : s.vm.findClass RX9 = some m.cls := findClass_of_methodNamed B.named
  subst hsz
  have hD := hD0.self (sz := s.heap.size)
  generalize hAe : va_A (rw_W o c kc st lg ai al) s.heap.size = A at hD ⊢
  have hA : ∀ q : Nat, s.heap.size ≤ q → A q := fun q h => by rw [← hAe]; exact Or.inr h
  have hS : va_S A s.heap s.heap [] := va_S.rf
  clear hAe hD0
  have hl := lv_entry ([.ref o]) (n := 2) (Nat.le_of_ble_eq_true rfl)
  rw [lg_entry_eq]
  generalize (lg_sl ([.ref o]) ++ List.replicate (2 - (lg_sl ([.ref o])).length) Slot.unset).toArray = ls at hl ⊢
  have hl : lv_has ls 2 [(0, .ref o)] := hl
  have z_0 : (0 : Int32).toInt = 0 := by decide
  have z_1 : (1 : Int32).toInt = 1 := by decide
  have z_3 : (3 : Int32).toInt = 3 := by decide
  have z_8 : (8 : Int32).toInt = 8 := by decide
  have z_16 : (16 : Int32).toInt = 16 := by decide
  have z_17 : (17 : Int32).toInt = 17 := by decide
  have z_25 : (25 : Int32).toInt = 25 := by decide
  have z_165 : (165 : Int32).toInt = 165 := by decide
  have hin9 : ∀ w ∈ u_ws RX9 TX9 38, w ∈ wsX9_layLeaf := by decide +kernel
  have main : ∀ (H : Heap) (locs : List Loc), va_P (dC, dI) vwCl (rw_W o c kc st lg ai al) H → va_S A s.heap H locs → W p l e (headSpec wsX9_layLeaf ({ frames := 2, cells := 0, slots := 0, locals := 49 })).room s m ([.ref o] : List Value).toArray below meth cM H locs 0 0 (MQ below (va_Qv (fun (_ : Unit) => True) (fun _ t => ∃ (f14 : Nat → Int32), va_P (dC, dI) vwCl (rw_W o c kc st lg (rU ai 14 f14) al) t.heap) A) ([.ref o] : List Value).toArray s 0 0 A) (F0 m 0 ls []) := by
    intro H locs hP hS
    refine lv_aload_n hx hb dX9_layLeaf_0 rfl (lv_at hl 0 rfl) ?_
    refine va_get (D := (dC, dI)) (ci := 11) (v := .ref (c 14)) (C := RX9) (T := TX9) (N := 38) hx hb hts hin9 hown hK hP 0 rfl rfl 14 (by decide) (hts (.fieldLink RX9 24 "BlockLogModel" "fresh" "[I") (by decide +kernel)) (fun _ h9 => h9) rfl dX9_layLeaf_1 ?_
    refine lv_iconst (v := 0) hx hb dX9_layLeaf_4 (by decide) ?_
    refine lv_aload_n hx hb dX9_layLeaf_5 rfl (lv_at hl 0 rfl) ?_
    refine va_get (D := (dC, dI)) (ci := 11) (v := .int (st 9)) (C := RX9) (T := TX9) (N := 38) hx hb hts hin9 hown hK hP 0 rfl rfl 9 (by decide) (hts (.fieldLink RX9 271 "BlockLogModel" "tapeSize" "I") (by decide +kernel)) (fun _ h9 => h9) rfl dX9_layLeaf_6 ?_
    refine va_iast (f := ai 14) hx hb hK hP (rw_D hD) hS 5 4 rfl rfl (iv_in (i := (0 : Int32)) (by omega) (by omega)) dX9_layLeaf_9 (fun H locs hP _ hS => ?_)
    have hP : va_P (dC, dI) vwCl (rw_W o c kc st lg (rU ai 14 (upd (ai 14) (0 : Int32).toNatClampNeg (st 9))) al) H := hP
    generalize hU_fresh : upd (ai 14) (0 : Int32).toNatClampNeg (st 9) = g_1 at hP
    clear hU_fresh
    refine lv_iconst (v := 0) hx hb dX9_layLeaf_10 (by decide) ?_
    refine lv_istore_n (lv' := [(1, .int (0 : Int32)), (0, .ref o)]) hx hb dX9_layLeaf_11 rfl hl (by decide) rfl (fun ls hl => ?_)
    have loop12 : ∀ (n : Nat) (l1_12 : Int32) (a14_12 : Nat → Int32) (H : Heap) (locs : List Loc) (ls : Array Slot), (0 ≤ l1_12.toInt) → (l1_12.toInt ≤ 16) → (16 - l1_12.toInt : Int).toNat < n → va_P (dC, dI) vwCl (rw_W o c kc st lg (rU ai 14 a14_12) al) H → va_S A s.heap H locs → lv_has ls 2 [(1, .int l1_12), (0, .ref o)] → W p l e (headSpec wsX9_layLeaf ({ frames := 2, cells := 0, slots := 0, locals := 49 })).room s m ([.ref o] : List Value).toArray below meth cM H locs 0 0 (MQ below (va_Qv (fun (_ : Unit) => True) (fun _ t => ∃ (f14 : Nat → Int32), va_P (dC, dI) vwCl (rw_W o c kc st lg (rU ai 14 f14) al) t.heap) A) ([.ref o] : List Value).toArray s 0 0 A) (F0 m 12 ls []) := by
      intro n
      induction n with
      | zero => intro l1_12 a14_12 H locs ls if0_12 if1_12 hm; exact absurd hm (Nat.not_lt_zero _)
      | succ n ih12 =>
        intro l1_12 a14_12 H locs ls if0_12 if1_12 hm12 hP hS hl
        refine lv_iload_n hx hb dX9_layLeaf_12 rfl (lv_at hl 0 rfl) ?_
        refine lv_bipush (v := 16) hx hb dX9_layLeaf_13 (by decide) ?_
        refine lv_icmp_ge (tgt := 50) hx hb dX9_layLeaf_15 (by decide) (fun c_2 => ?_) (fun c_2 => ?_)
        · skip
          have ic_2 := iv_le c_2
          refine lv_aload_n hx hb dX9_layLeaf_50 rfl (lv_at hl 1 rfl) ?_
          refine lv_bipush (v := 17) hx hb dX9_layLeaf_51 (by decide) ?_
          refine lv_aload_n hx hb dX9_layLeaf_53 rfl (lv_at hl 1 rfl) ?_
          refine lv_iconst (v := 3) hx hb dX9_layLeaf_54 (by decide) ?_
          refine lv_bipush (v := 17) hx hb dX9_layLeaf_55 (by decide) ?_
          refine vp_callSl (va_Run.run (va_runV (As := [.int (3 : Int32), .int (17 : Int32)]) (rest := [.int (17 : Int32), .ref o]) ⟨hx, hb, hml, hown, hts⟩ (v_X9_freshSum l dC dI o c kc st lg (rU ai 14 a14_12) al (3 : Int32) (17 : Int32) (by omega) (by omega)) (cwV 2 hts gX9_layLeaf_X9_freshSum rfl rfl rfl (by decide +kernel) ⟨Nat.le_of_ble_eq_true rfl, Nat.le_of_ble_eq_true rfl⟩) ⟨fun a U g mk q => by obtain ⟨q0, qP, qK⟩ := q; exact ⟨q0, qP, va_K.moved (u := U) (U := U.calling g mk a) (Vm.Alike.refl U.vm) qK⟩, va_recv hK hP (ci := 11) (q := (RX9, TX9, 38)) rfl (q0 := 0) rfl, fun U hU hW => ⟨rfl, by rw [hU]; exact hP, va_K.moved hW.alike hK⟩⟩ rfl rfl hl.1 rfl (lv_room (Nat.le_of_ble_eq_true rfl)) dX9_layLeaf_57 ⟨Nat.le_of_ble_eq_true rfl, Nat.le_of_ble_eq_true rfl⟩)) (fun r_3 er_3 => ?_)
          refine lv_bipush (v := 8) hx hb dX9_layLeaf_60 (by decide) ?_
          have hFc := vfree (rw_D hD : va_D A (rw_W o c kc st lg (rU ai 14 a14_12) al)) hS hA
          refine va_callv (va_runV (As := [.int (17 : Int32), .long r_3, .int (8 : Int32)]) (rest := []) ⟨hx, hb, hml, hown, hts⟩ (v_X9_put l dC dI o c kc st lg (rU ai 14 a14_12) al (17 : Int32) r_3 (8 : Int32) _ (by omega) (by omega) (by omega)) (cwV 3 hts gX9_layLeaf_X9_put rfl rfl rfl (by decide +kernel) ⟨Nat.le_of_ble_eq_true rfl, Nat.le_of_ble_eq_true rfl⟩) ⟨fun a U g mk q => by obtain ⟨q0, q1, qP, qK, qD⟩ := q; exact ⟨q0, q1, qP, va_K.moved (u := U) (U := U.calling g mk a) (Vm.Alike.refl U.vm) qK, qD⟩, va_recv hK hP (ci := 11) (q := (RX9, TX9, 38)) rfl (q0 := 0) rfl, fun U hU hW => ⟨rfl, by rw [hU], by rw [hU]; exact hP, va_K.moved hW.alike hK, rw_D (hD.weaken (fun _ _ _ _ => trivial))⟩⟩ rfl rfl hl.1 rfl (lv_room (Nat.le_of_ble_eq_true rfl)) dX9_layLeaf_62 ⟨Nat.le_of_ble_eq_true rfl, Nat.le_of_ble_eq_true rfl⟩) hS (fun q _ h => hFc q h) hFc (fun ur_4 t H1 locs ht hvm er_4 hB hz1 hk1 hS => ?_)
          obtain ⟨f14_4, hP1⟩ := hB
          rw [ht] at hP1
          clear hFc hz1 hk1 hvm hP
          subst ht
          have hP := hP1
          clear hP1
          generalize t.heap = H at hP hS ⊢
          have hP : va_P (dC, dI) vwCl (rw_W o c kc st lg (rU ai 14 f14_4) al) H := hP
          refine lv_aload_n hx hb dX9_layLeaf_65 rfl (lv_at hl 1 rfl) ?_
          refine va_get (D := (dC, dI)) (ci := 11) (v := .ref (c 14)) (C := RX9) (T := TX9) (N := 38) hx hb hts hin9 hown hK hP 0 rfl rfl 14 (by decide) (hts (.fieldLink RX9 24 "BlockLogModel" "fresh" "[I") (by decide +kernel)) (fun _ h9 => h9) rfl dX9_layLeaf_66 ?_
          refine lv_bipush (v := 25) hx hb dX9_layLeaf_69 (by decide) ?_
          refine lv_sipush (v := 165) hx hb dX9_layLeaf_71 (by decide) ?_
          refine va_iast (f := f14_4) hx hb hK hP (rw_D hD) hS 5 4 rfl rfl (iv_in (i := (25 : Int32)) (by omega) (by omega)) dX9_layLeaf_74 (fun H locs hP _ hS => ?_)
          have hP : va_P (dC, dI) vwCl (rw_W o c kc st lg (rU ai 14 (upd f14_4 (25 : Int32).toNatClampNeg (165 : Int32))) al) H := hP
          generalize hU_fresh : upd f14_4 (25 : Int32).toNatClampNeg (165 : Int32) = g_5 at hP
          clear hU_fresh
          exact W.vret hx hb hr (fun t ht hW => ⟨⟨(), rfl, trivial, g_5, by rw [ht]; exact hP⟩, hS.F ht⟩) hS.2.2 dX9_layLeaf_75
        · skip
          have ic_2 := iv_nle c_2
          refine lv_aload_n hx hb dX9_layLeaf_18 rfl (lv_at hl 1 rfl) ?_
          refine va_get (D := (dC, dI)) (ci := 11) (v := .ref (c 14)) (C := RX9) (T := TX9) (N := 38) hx hb hts hin9 hown hK hP 0 rfl rfl 14 (by decide) (hts (.fieldLink RX9 24 "BlockLogModel" "fresh" "[I") (by decide +kernel)) (fun _ h9 => h9) rfl dX9_layLeaf_19 ?_
          refine lv_iconst (v := 1) hx hb dX9_layLeaf_22 (by decide) ?_
          refine lv_iload_n hx hb dX9_layLeaf_23 rfl (lv_at hl 0 rfl) ?_
          refine lv_iadd hx hb dX9_layLeaf_24 ?_
          refine lv_topi (fun v_6 ev_6 => ?_)
          have rg1 := iv_rng l1_12
          have hv_6 : v_6.toInt = 1 + l1_12.toInt := by rw [ev_6]; exact (iv_add (by omega) (by omega)).trans (by omega)
          clear ev_6
          refine lv_iload_n hx hb dX9_layLeaf_25 rfl (lv_at hl 0 rfl) ?_
          refine lv_aload_n hx hb dX9_layLeaf_26 rfl (lv_at hl 1 rfl) ?_
          refine va_get (D := (dC, dI)) (ci := 11) (v := .int (st 9)) (C := RX9) (T := TX9) (N := 38) hx hb hts hin9 hown hK hP 0 rfl rfl 9 (by decide) (hts (.fieldLink RX9 271 "BlockLogModel" "tapeSize" "I") (by decide +kernel)) (fun _ h9 => h9) rfl dX9_layLeaf_27 ?_
          refine lv_icmp_ge (tgt := 42) hx hb dX9_layLeaf_30 (by decide) (fun c_7 => ?_) (fun c_7 => ?_)
          · skip
            have ic_7 := iv_le c_7
            refine lv_iconst (v := 0) hx hb dX9_layLeaf_42 (by decide) ?_
            refine va_iast (f := a14_12) hx hb hK hP (rw_D hD) hS 5 4 rfl rfl (iv_in (i := v_6) (by omega) (by omega)) dX9_layLeaf_43 (fun H locs hP _ hS => ?_)
            have hP : va_P (dC, dI) vwCl (rw_W o c kc st lg (rU ai 14 (upd a14_12 v_6.toNatClampNeg (0 : Int32))) al) H := hP
            generalize hU_fresh : upd a14_12 v_6.toNatClampNeg (0 : Int32) = g_8 at hP
            clear hU_fresh
            obtain ⟨x_9, ex_9⟩ : ∃ z : Int32, z = l1_12 + (1) := ⟨_, rfl⟩
            refine lv_iinc (v := x_9) (lv' := [(1, .int x_9), (0, .ref o)]) hx hb dX9_layLeaf_44 hl (k := 0) rfl (by rw [ex_9]; rfl) (by decide) rfl (fun ls hl => ?_)
            have hx_9 : x_9.toInt = l1_12.toInt + (1) := by rw [ex_9]; exact (iv_add (by omega) (by omega)).trans (by omega)
            clear ex_9
            refine lv_goto (tgt := 12) hx hb dX9_layLeaf_47 (by decide) ?_
            exact ih12 x_9 g_8 _ _ _ (by omega) (by omega) (by omega) hP hS (lv_sub hl [0, 1] rfl)
          · skip
            have ic_7 := iv_nle c_7
            refine lv_aload_n hx hb dX9_layLeaf_33 rfl (lv_at hl 1 rfl) ?_
            refine va_get (D := (dC, dI)) (ci := 11) (v := .ref (c 8)) (C := RX9) (T := TX9) (N := 38) hx hb hts hin9 hown hK hP 0 rfl rfl 8 (by decide) (hts (.fieldLink RX9 14 "BlockLogModel" "tape" "[I") (by decide +kernel)) (fun _ h9 => h9) rfl dX9_layLeaf_34 ?_
            refine lv_iload_n hx hb dX9_layLeaf_37 rfl (lv_at hl 0 rfl) ?_
            refine va_iald (f := ai 8) hx hb hK hP 2 1 rfl rfl (iv_in (i := l1_12) (by omega) (by omega)) dX9_layLeaf_38 ?_
            refine lv_topi (fun v_10 ev_10 => ?_)
            have k_11 : 0 ≤ v_10.toInt ∧ v_10.toInt ≤ 255 := aR_get hR8 (by omega) (by omega) ev_10
            clear ev_10
            refine lv_goto (tgt := 43) hx hb dX9_layLeaf_39 (by decide) ?_
            refine va_iast (f := a14_12) hx hb hK hP (rw_D hD) hS 5 4 rfl rfl (iv_in (i := v_6) (by omega) (by omega)) dX9_layLeaf_43 (fun H locs hP _ hS => ?_)
            have hP : va_P (dC, dI) vwCl (rw_W o c kc st lg (rU ai 14 (upd a14_12 v_6.toNatClampNeg v_10)) al) H := hP
            generalize hU_fresh : upd a14_12 v_6.toNatClampNeg v_10 = g_12 at hP
            clear hU_fresh
            obtain ⟨x_13, ex_13⟩ : ∃ z : Int32, z = l1_12 + (1) := ⟨_, rfl⟩
            refine lv_iinc (v := x_13) (lv' := [(1, .int x_13), (0, .ref o)]) hx hb dX9_layLeaf_44 hl (k := 0) rfl (by rw [ex_13]; rfl) (by decide) rfl (fun ls hl => ?_)
            have hx_13 : x_13.toInt = l1_12.toInt + (1) := by rw [ex_13]; exact (iv_add (by omega) (by omega)).trans (by omega)
            clear ex_13
            refine lv_goto (tgt := 12) hx hb dX9_layLeaf_47 (by decide) ?_
            exact ih12 x_13 g_12 _ _ _ (by omega) (by omega) (by omega) hP hS (lv_sub hl [0, 1] rfl)
    exact loop12 ((16 - 0 : Int).toNat + 1) (0 : Int32) g_1 _ _ _ (by omega) (by omega) (by omega) hP hS (lv_sub hl [0, 1] rfl)
  exact main s.heap [] hP hS

set_option maxHeartbeats 4000000 in
set_option maxRecDepth 100000 in
theorem v_X9_feed (l : Launch) (dC : Nat → ClassId) (dI : Nat → Nat → Nat) (o : Nat) (c : Nat → Nat) (kc : Nat → ClassId) (st : Nat → Int32) (lg : Nat → Int64) (ai : Nat → Nat → Int32) (al : Nat → Nat → Int64) (p0 : Int64) (p1 : Int32) (sz : Nat) (hf9a : 0 ≤ (st 9).toInt) (hf9b : (st 9).toInt ≤ 400) (hR8 : aR (ai 8) 400 (0) 255) : Met l yX9_feed wsX9_feed ({ frames := 1, cells := 0, slots := 0, locals := 22 }) (va_Pc [.ref o, .long p0, .int p1] (fun U => U.heap.size = sz ∧ va_P (dC, dI) vwCl (rw_W o c kc st lg ai al) U.heap ∧ va_K (dC, dI) vwCl (rw_T kc) U ∧ va_D (fun _ => True) (rw_W o c kc st lg ai al))) (va_Qi (fun r (u : Int32) => r = u) (fun u t => ∃ (x9 : Int32) (x13 : Int32) (f8 : Nat → Int32), (0 ≤ x9.toInt) ∧ (x9.toInt ≤ 400) ∧ (aR f8 400 (0) 255) ∧ va_P (dC, dI) vwCl (rw_W o c kc (rU (rU st 9 x9) 13 x13) lg (rU ai 8 f8) al) t.heap) (va_A (rw_W o c kc st lg ai al) sz)) 0 0 (va_A (rw_W o c kc st lg ai al) sz) := by
  refine Met.ofW (cc := cX9_feed) (maxL := 5) (ret := (some .int)) (by decide) rfl ?_
  intro p e s m args below meth cM s₁ B hml hv
  obtain ⟨rfl, hsz, hP, hK, hD0⟩ := hv
  have hx := B.exec
  have hb := B.bytes
  have hr := B.returns
  have hts := atoms_spec (ws := wsX9_feed) B.pre
  have hown : s.vm.findClass RX9 = some m.cls := findClass_of_methodNamed B.named
  subst hsz
  have hD := hD0.self (sz := s.heap.size)
  generalize hAe : va_A (rw_W o c kc st lg ai al) s.heap.size = A at hD ⊢
  have hA : ∀ q : Nat, s.heap.size ≤ q → A q := fun q h => by rw [← hAe]; exact Or.inr h
  have hS : va_S A s.heap s.heap [] := va_S.rf
  clear hAe hD0
  have hl := lv_entry ([.ref o, .long p0, .int p1]) (n := 5) (Nat.le_of_ble_eq_true rfl)
  rw [lg_entry_eq]
  generalize (lg_sl ([.ref o, .long p0, .int p1]) ++ List.replicate (5 - (lg_sl ([.ref o, .long p0, .int p1])).length) Slot.unset).toArray = ls at hl ⊢
  have hl : lv_has ls 5 [(0, .ref o), (1, .long p0), (3, .int p1)] := hl
  have z_m1 : (-1 : Int32).toInt = -1 := by decide
  have z_0 : (0 : Int32).toInt = 0 := by decide
  have z_1 : (1 : Int32).toInt = 1 := by decide
  have z_8 : (8 : Int32).toInt = 8 := by decide
  have z_400 : (400 : Int32).toInt = 400 := by decide
  have hin9 : ∀ w ∈ u_ws RX9 TX9 38, w ∈ wsX9_feed := by decide +kernel
  have main : ∀ (H : Heap) (locs : List Loc), va_P (dC, dI) vwCl (rw_W o c kc st lg ai al) H → va_S A s.heap H locs → W p l e (headSpec wsX9_feed ({ frames := 1, cells := 0, slots := 0, locals := 22 })).room s m ([.ref o, .long p0, .int p1] : List Value).toArray below meth cM H locs 0 0 (MQ below (va_Qi (fun r (u : Int32) => r = u) (fun u t => ∃ (x9 : Int32) (x13 : Int32) (f8 : Nat → Int32), (0 ≤ x9.toInt) ∧ (x9.toInt ≤ 400) ∧ (aR f8 400 (0) 255) ∧ va_P (dC, dI) vwCl (rw_W o c kc (rU (rU st 9 x9) 13 x13) lg (rU ai 8 f8) al) t.heap) A) ([.ref o, .long p0, .int p1] : List Value).toArray s 0 0 A) (F0 m 0 ls []) := by
    intro H locs hP hS
    refine lv_aload_n hx hb dX9_feed_0 rfl (lv_at hl 0 rfl) ?_
    refine lv_iload_n hx hb dX9_feed_1 rfl (lv_at hl 2 rfl) ?_
    refine lv_iconst (v := 1) hx hb dX9_feed_2 (by decide) ?_
    refine lv_bipush (v := 8) hx hb dX9_feed_3 (by decide) ?_
    refine vp_callSi (va_Run.run (va_runS (As := [.int p1, .int (1 : Int32), .int (8 : Int32)]) (rest := [.ref o]) ⟨hx, hb, hml, hown, hts⟩ (v_X9_within l dC dI p1 (1 : Int32) (8 : Int32) ) (va_cwS 3 hts gX9_feed_X9_within rfl rfl rfl (by decide +kernel) ⟨Nat.le_of_ble_eq_true rfl, Nat.le_of_ble_eq_true rfl⟩) ⟨fun a U g mk q => q, fun U hU hW => ⟨rfl, trivial⟩⟩ rfl rfl hl.1 rfl (lv_room (Nat.le_of_ble_eq_true rfl)) dX9_feed_5 ⟨Nat.le_of_ble_eq_true rfl, Nat.le_of_ble_eq_true rfl⟩)) (fun r_1 er_1 => ?_)
    obtain ⟨k_2, k_3, k_4, k_5, k_6⟩ := er_1
    rcases iv_01 (a := r_1) (by omega) (by omega) with b_7 | b_7
    · skip
      have ib_7 := iv_eq b_7
      rw [b_7]
      refine lv_if_eq (tgt := 23) hx hb dX9_feed_8 (by decide) (fun c_8 => ?_) (fun c_8 => ?_)
      · skip
        have ic_8 := iv_eq c_8
        refine lv_iconst (v := 1) hx hb dX9_feed_23 (by decide) ?_
        refine lv_goto (tgt := 28) hx hb dX9_feed_24 (by decide) ?_
        refine va_put (D := (dC, dI)) (ci := 11) (v := .int (1 : Int32)) (ty := .int) (C := RX9) (T := TX9) (N := 38) hx hb hts hin9 tyX9 tyX9_ok nmX9 hown hK hP (rw_D hD) hS 0 rfl rfl 13 (by decide) (hts (.fieldLink RX9 91 "BlockLogModel" "thrown" "I") (by decide +kernel)) (fun _ h9 => h9) rfl (by decide +kernel) rfl rfl (Nat.le_of_ble_eq_true rfl) dX9_feed_28 (fun H locs hP _ hS => ?_)
        have hP : va_P (dC, dI) vwCl (rw_W o c kc (rU st 13 (1 : Int32)) lg ai al) H := hP
        refine lv_aload_n hx hb dX9_feed_31 rfl (lv_at hl 0 rfl) ?_
        refine va_get (D := (dC, dI)) (ci := 11) (v := .int (1 : Int32)) (C := RX9) (T := TX9) (N := 38) hx hb hts hin9 hown hK hP 0 rfl rfl 13 (by decide) (hts (.fieldLink RX9 91 "BlockLogModel" "thrown" "I") (by decide +kernel)) (fun _ h9 => h9) rfl dX9_feed_32 ?_
        refine lv_if_le (tgt := 40) hx hb dX9_feed_35 (by decide) (fun c_9 => ?_) (fun c_9 => ?_)
        · skip
          have ic_9 := iv_le c_9
          exfalso
          omega
        · skip
          have ic_9 := iv_nle c_9
          refine lv_iconst (v := 0) hx hb dX9_feed_38 (by decide) ?_
          exact W.iret hx hb hr (fun t ht hW => ⟨⟨_, _, rfl, rfl, st 9, (1 : Int32), ai 8, (by omega), (by omega), hR8, by rw [ht]; exact hP⟩, hS.F ht⟩) hS.2.2 dX9_feed_39
      · skip
        have ic_8 := iv_ne c_8
        exfalso
        omega
    · skip
      have ib_7 := iv_eq b_7
      rw [b_7]
      refine lv_if_eq (tgt := 23) hx hb dX9_feed_8 (by decide) (fun c_10 => ?_) (fun c_10 => ?_)
      · skip
        have ic_10 := iv_eq c_10
        exfalso
        omega
      · skip
        have ic_10 := iv_ne c_10
        refine lv_aload_n hx hb dX9_feed_11 rfl (lv_at hl 0 rfl) ?_
        refine va_get (D := (dC, dI)) (ci := 11) (v := .int (st 9)) (C := RX9) (T := TX9) (N := 38) hx hb hts hin9 hown hK hP 0 rfl rfl 9 (by decide) (hts (.fieldLink RX9 271 "BlockLogModel" "tapeSize" "I") (by decide +kernel)) (fun _ h9 => h9) rfl dX9_feed_12 ?_
        refine lv_iload_n hx hb dX9_feed_15 rfl (lv_at hl 2 rfl) ?_
        refine lv_iadd hx hb dX9_feed_16 ?_
        refine lv_topi (fun v_11 ev_11 => ?_)
        have rg1 := iv_rng (st 9)
        have rg2 := iv_rng p1
        have hv_11 : v_11.toInt = (st 9).toInt + p1.toInt := by rw [ev_11]; exact (iv_add (by omega) (by omega)).trans (by omega)
        clear ev_11
        refine lv_sipush (v := 400) hx hb dX9_feed_17 (by decide) ?_
        refine lv_icmp_le (tgt := 27) hx hb dX9_feed_20 (by decide) (fun c_12 => ?_) (fun c_12 => ?_)
        · skip
          have ic_12 := iv_le c_12
          refine lv_iconst (v := 0) hx hb dX9_feed_27 (by decide) ?_
          refine va_put (D := (dC, dI)) (ci := 11) (v := .int (0 : Int32)) (ty := .int) (C := RX9) (T := TX9) (N := 38) hx hb hts hin9 tyX9 tyX9_ok nmX9 hown hK hP (rw_D hD) hS 0 rfl rfl 13 (by decide) (hts (.fieldLink RX9 91 "BlockLogModel" "thrown" "I") (by decide +kernel)) (fun _ h9 => h9) rfl (by decide +kernel) rfl rfl (Nat.le_of_ble_eq_true rfl) dX9_feed_28 (fun H locs hP _ hS => ?_)
          have hP : va_P (dC, dI) vwCl (rw_W o c kc (rU st 13 (0 : Int32)) lg ai al) H := hP
          refine lv_aload_n hx hb dX9_feed_31 rfl (lv_at hl 0 rfl) ?_
          refine va_get (D := (dC, dI)) (ci := 11) (v := .int (0 : Int32)) (C := RX9) (T := TX9) (N := 38) hx hb hts hin9 hown hK hP 0 rfl rfl 13 (by decide) (hts (.fieldLink RX9 91 "BlockLogModel" "thrown" "I") (by decide +kernel)) (fun _ h9 => h9) rfl dX9_feed_32 ?_
          refine lv_if_le (tgt := 40) hx hb dX9_feed_35 (by decide) (fun c_13 => ?_) (fun c_13 => ?_)
          · skip
            have ic_13 := iv_le c_13
            refine lv_iload_n hx hb dX9_feed_40 rfl (lv_at hl 2 rfl) ?_
            refine lv_iconst (v := 1) hx hb dX9_feed_41 (by decide) ?_
            refine lv_isub hx hb dX9_feed_42 ?_
            refine lv_topi (fun v_14 ev_14 => ?_)
            have hv_14 : v_14.toInt = p1.toInt - 1 := by rw [ev_14]; exact (iv_sub (by omega) (by omega)).trans (by omega)
            clear ev_14
            refine lv_istore (lv' := [(4, .int v_14), (0, .ref o), (1, .long p0), (3, .int p1)]) hx hb dX9_feed_43 hl (by decide) rfl (fun ls hl => ?_)
            have loop45 : ∀ (n : Nat) (l4_45 : Int32) (s9_45 : Int32) (a8_45 : Nat → Int32) (H : Heap) (locs : List Loc) (ls : Array Slot), (-1 ≤ l4_45.toInt) → (l4_45.toInt ≤ 7) → (s9_45.toInt + l4_45.toInt + 1 ≤ 400) → (0 ≤ s9_45.toInt) → (s9_45.toInt ≤ 400) → (aR a8_45 400 (0) 255) → (l4_45.toInt + 1 : Int).toNat < n → va_P (dC, dI) vwCl (rw_W o c kc (rU (rU st 9 s9_45) 13 (0 : Int32)) lg (rU ai 8 a8_45) al) H → va_S A s.heap H locs → lv_has ls 5 [(4, .int l4_45), (0, .ref o), (1, .long p0), (3, .int p1)] → W p l e (headSpec wsX9_feed ({ frames := 1, cells := 0, slots := 0, locals := 22 })).room s m ([.ref o, .long p0, .int p1] : List Value).toArray below meth cM H locs 0 0 (MQ below (va_Qi (fun r (u : Int32) => r = u) (fun u t => ∃ (x9 : Int32) (x13 : Int32) (f8 : Nat → Int32), (0 ≤ x9.toInt) ∧ (x9.toInt ≤ 400) ∧ (aR f8 400 (0) 255) ∧ va_P (dC, dI) vwCl (rw_W o c kc (rU (rU st 9 x9) 13 x13) lg (rU ai 8 f8) al) t.heap) A) ([.ref o, .long p0, .int p1] : List Value).toArray s 0 0 A) (F0 m 45 ls []) := by
              intro n
              induction n with
              | zero => intro l4_45 s9_45 a8_45 H locs ls if0_45 if1_45 if2_45 if3_45 if4_45 hR8 hm; exact absurd hm (Nat.not_lt_zero _)
              | succ n ih45 =>
                intro l4_45 s9_45 a8_45 H locs ls if0_45 if1_45 if2_45 if3_45 if4_45 hR8 hm45 hP hS hl
                refine lv_iload hx hb dX9_feed_45 (lv_at hl 0 rfl) ?_
                refine lv_if_lt (tgt := 84) hx hb dX9_feed_47 (by decide) (fun c_15 => ?_) (fun c_15 => ?_)
                · skip
                  have ic_15 := iv_lt c_15
                  refine lv_aload_n hx hb dX9_feed_84 rfl (lv_at hl 1 rfl) ?_
                  refine va_get (D := (dC, dI)) (ci := 11) (v := .int s9_45) (C := RX9) (T := TX9) (N := 38) hx hb hts hin9 hown hK hP 0 rfl rfl 9 (by decide) (hts (.fieldLink RX9 271 "BlockLogModel" "tapeSize" "I") (by decide +kernel)) (fun _ h9 => h9) rfl dX9_feed_85 ?_
                  exact W.iret hx hb hr (fun t ht hW => ⟨⟨_, _, rfl, rfl, s9_45, (0 : Int32), a8_45, (by omega), (by omega), hR8, by rw [ht]; exact hP⟩, hS.F ht⟩) hS.2.2 dX9_feed_88
                · skip
                  have ic_15 := iv_nlt c_15
                  refine lv_aload_n hx hb dX9_feed_50 rfl (lv_at hl 1 rfl) ?_
                  refine va_get (D := (dC, dI)) (ci := 11) (v := .ref (c 8)) (C := RX9) (T := TX9) (N := 38) hx hb hts hin9 hown hK hP 0 rfl rfl 8 (by decide) (hts (.fieldLink RX9 14 "BlockLogModel" "tape" "[I") (by decide +kernel)) (fun _ h9 => h9) rfl dX9_feed_51 ?_
                  refine lv_aload_n hx hb dX9_feed_54 rfl (lv_at hl 1 rfl) ?_
                  refine lv_dup hx hb dX9_feed_55 rfl ?_
                  refine va_get (D := (dC, dI)) (ci := 11) (v := .int s9_45) (C := RX9) (T := TX9) (N := 38) hx hb hts hin9 hown hK hP 0 rfl rfl 9 (by decide) (hts (.fieldLink RX9 271 "BlockLogModel" "tapeSize" "I") (by decide +kernel)) (fun _ h9 => h9) rfl dX9_feed_56 ?_
                  refine lv_dup_x1 hx hb dX9_feed_59 rfl rfl ?_
                  refine lv_iconst (v := 1) hx hb dX9_feed_60 (by decide) ?_
                  refine lv_iadd hx hb dX9_feed_61 ?_
                  refine lv_topi (fun v_16 ev_16 => ?_)
                  have rg3 := iv_rng s9_45
                  have hv_16 : v_16.toInt = s9_45.toInt + 1 := by rw [ev_16]; exact (iv_add (by omega) (by omega)).trans (by omega)
                  clear ev_16
                  refine va_put (D := (dC, dI)) (ci := 11) (v := .int v_16) (ty := .int) (C := RX9) (T := TX9) (N := 38) hx hb hts hin9 tyX9 tyX9_ok nmX9 hown hK hP (rw_D hD) hS 0 rfl rfl 9 (by decide) (hts (.fieldLink RX9 271 "BlockLogModel" "tapeSize" "I") (by decide +kernel)) (fun _ h9 => h9) rfl (by decide +kernel) rfl rfl (Nat.le_of_ble_eq_true rfl) dX9_feed_62 (fun H locs hP _ hS => ?_)
                  have hP : va_P (dC, dI) vwCl (rw_W o c kc (rU (rU st 9 v_16) 13 (0 : Int32)) lg (rU ai 8 a8_45) al) H := hP
                  refine lv_lload_n hx hb dX9_feed_65 rfl (lv_at hl 2 rfl) ?_
                  refine lv_bipush (v := 8) hx hb dX9_feed_66 (by decide) ?_
                  refine lv_iload hx hb dX9_feed_68 (lv_at hl 0 rfl) ?_
                  refine lv_imul hx hb dX9_feed_70 ?_
                  refine lv_topi (fun v_17 ev_17 => ?_)
                  have rg4 := iv_rng l4_45
                  have hv_17 : v_17.toInt = 8 * l4_45.toInt := by rw [ev_17]; exact (iv_mulc z_8 (by omega) (by omega)).trans (by omega)
                  clear ev_17
                  refine lv_lushr hx hb dX9_feed_71 rfl ?_
                  refine lv_topl (fun w_18 ew_18 => ?_)
                  clear ew_18
                  refine lv_ldc2 hx hb hown (hts (.constantLong RX9 94 (255)) (by decide +kernel)) dX9_feed_72 ?_
                  refine lv_land hx hb dX9_feed_75 ?_
                  refine lv_topl (fun w_19 ew_19 => ?_)
                  have hw_19 : 0 ≤ w_19.toInt32.toInt ∧ w_19.toInt32.toInt ≤ 255 := by rw [ew_19]; exact l255 _
                  clear ew_19
                  refine lv_l2i hx hb dX9_feed_76 rfl ?_
                  refine lv_topi (fun v_20 ev_20 => ?_)
                  have hv_20 : 0 ≤ v_20.toInt ∧ v_20.toInt ≤ 255 := by rw [ev_20]; exact hw_19
                  clear ev_20
                  refine va_iast (f := a8_45) hx hb hK hP (rw_D hD) hS 2 1 rfl rfl (iv_in (i := s9_45) (by omega) (by omega)) dX9_feed_77 (fun H locs hP _ hS => ?_)
                  have hP : va_P (dC, dI) vwCl (rw_W o c kc (rU (rU st 9 v_16) 13 (0 : Int32)) lg (rU ai 8 (upd a8_45 s9_45.toNatClampNeg v_20)) al) H := hP
                  generalize hU_tape : upd a8_45 s9_45.toNatClampNeg v_20 = g_21 at hP
                  have hR8 : aR g_21 400 (0) 255 := aR_upd hR8 hU_tape (by omega) (by omega)
                  clear hU_tape
                  obtain ⟨x_22, ex_22⟩ : ∃ z : Int32, z = l4_45 + (-1) := ⟨_, rfl⟩
                  refine lv_iinc (v := x_22) (lv' := [(4, .int x_22), (0, .ref o), (1, .long p0), (3, .int p1)]) hx hb dX9_feed_78 hl (k := 0) rfl (by rw [ex_22]; rfl) (by decide) rfl (fun ls hl => ?_)
                  have hx_22 : x_22.toInt = l4_45.toInt + (-1) := by rw [ex_22]; exact (iv_add (by omega) (by omega)).trans (by omega)
                  clear ex_22
                  refine lv_goto (tgt := 45) hx hb dX9_feed_81 (by decide) ?_
                  exact ih45 x_22 v_16 g_21 _ _ _ (by omega) (by omega) (by omega) (by omega) (by omega) (by assumption) (by omega) hP hS (lv_sub hl [0, 1, 2, 3] rfl)
            exact loop45 ((v_14.toInt + 1 : Int).toNat + 1) v_14 (st 9) (ai 8) _ _ _ (by omega) (by omega) (by omega) (by omega) (by omega) (by assumption) (by omega) hP hS (lv_sub hl [0, 1, 2, 3] rfl)
          · skip
            have ic_13 := iv_nle c_13
            exfalso
            omega
        · skip
          have ic_12 := iv_nle c_12
          refine lv_iconst (v := 1) hx hb dX9_feed_23 (by decide) ?_
          refine lv_goto (tgt := 28) hx hb dX9_feed_24 (by decide) ?_
          refine va_put (D := (dC, dI)) (ci := 11) (v := .int (1 : Int32)) (ty := .int) (C := RX9) (T := TX9) (N := 38) hx hb hts hin9 tyX9 tyX9_ok nmX9 hown hK hP (rw_D hD) hS 0 rfl rfl 13 (by decide) (hts (.fieldLink RX9 91 "BlockLogModel" "thrown" "I") (by decide +kernel)) (fun _ h9 => h9) rfl (by decide +kernel) rfl rfl (Nat.le_of_ble_eq_true rfl) dX9_feed_28 (fun H locs hP _ hS => ?_)
          have hP : va_P (dC, dI) vwCl (rw_W o c kc (rU st 13 (1 : Int32)) lg ai al) H := hP
          refine lv_aload_n hx hb dX9_feed_31 rfl (lv_at hl 0 rfl) ?_
          refine va_get (D := (dC, dI)) (ci := 11) (v := .int (1 : Int32)) (C := RX9) (T := TX9) (N := 38) hx hb hts hin9 hown hK hP 0 rfl rfl 13 (by decide) (hts (.fieldLink RX9 91 "BlockLogModel" "thrown" "I") (by decide +kernel)) (fun _ h9 => h9) rfl dX9_feed_32 ?_
          refine lv_if_le (tgt := 40) hx hb dX9_feed_35 (by decide) (fun c_23 => ?_) (fun c_23 => ?_)
          · skip
            have ic_23 := iv_le c_23
            exfalso
            omega
          · skip
            have ic_23 := iv_nle c_23
            refine lv_iconst (v := 0) hx hb dX9_feed_38 (by decide) ?_
            exact W.iret hx hb hr (fun t ht hW => ⟨⟨_, _, rfl, rfl, st 9, (1 : Int32), ai 8, (by omega), (by omega), hR8, by rw [ht]; exact hP⟩, hS.F ht⟩) hS.2.2 dX9_feed_39
  exact main s.heap [] hP hS

set_option maxHeartbeats 4000000 in
set_option maxRecDepth 100000 in
theorem v_X9_wipe (l : Launch) (dC : Nat → ClassId) (dI : Nat → Nat → Nat) (o : Nat) (c : Nat → Nat) (kc : Nat → ClassId) (st : Nat → Int32) (lg : Nat → Int64) (ai : Nat → Nat → Int32) (al : Nat → Nat → Int64)  (sz : Nat) (hf9a : 0 ≤ (st 9).toInt) (hf9b : (st 9).toInt ≤ 400) : Met l yX9_wipe wsX9_wipe ({ frames := 0, cells := 0, slots := 0, locals := 0 }) (va_Pc [.ref o] (fun U => U.heap.size = sz ∧ va_P (dC, dI) vwCl (rw_W o c kc st lg ai al) U.heap ∧ va_K (dC, dI) vwCl (rw_T kc) U ∧ va_D (fun _ => True) (rw_W o c kc st lg ai al))) (va_Qi (fun r (u : Int32) => r = u) (fun u t => ∃ (x9 : Int32) (x13 : Int32), (0 ≤ x9.toInt) ∧ (x9.toInt ≤ 400) ∧ va_P (dC, dI) vwCl (rw_W o c kc (rU (rU st 9 x9) 13 x13) lg ai al) t.heap) (va_A (rw_W o c kc st lg ai al) sz)) 0 0 (va_A (rw_W o c kc st lg ai al) sz) := by
  refine Met.ofW (cc := cX9_wipe) (maxL := 2) (ret := (some .int)) (by decide) rfl ?_
  intro p e s m args below meth cM s₁ B hml hv
  obtain ⟨rfl, hsz, hP, hK, hD0⟩ := hv
  have hx := B.exec
  have hb := B.bytes
  have hr := B.returns
  have hts := atoms_spec (ws := wsX9_wipe) B.pre
  have hown : s.vm.findClass RX9 = some m.cls := findClass_of_methodNamed B.named
  subst hsz
  have hD := hD0.self (sz := s.heap.size)
  generalize hAe : va_A (rw_W o c kc st lg ai al) s.heap.size = A at hD ⊢
  have hA : ∀ q : Nat, s.heap.size ≤ q → A q := fun q h => by rw [← hAe]; exact Or.inr h
  have hS : va_S A s.heap s.heap [] := va_S.rf
  clear hAe hD0
  have hl := lv_entry ([.ref o]) (n := 2) (Nat.le_of_ble_eq_true rfl)
  rw [lg_entry_eq]
  generalize (lg_sl ([.ref o]) ++ List.replicate (2 - (lg_sl ([.ref o])).length) Slot.unset).toArray = ls at hl ⊢
  have hl : lv_has ls 2 [(0, .ref o)] := hl
  have z_0 : (0 : Int32).toInt = 0 := by decide
  have hin9 : ∀ w ∈ u_ws RX9 TX9 38, w ∈ wsX9_wipe := by decide +kernel
  have main : ∀ (H : Heap) (locs : List Loc), va_P (dC, dI) vwCl (rw_W o c kc st lg ai al) H → va_S A s.heap H locs → W p l e (headSpec wsX9_wipe ({ frames := 0, cells := 0, slots := 0, locals := 0 })).room s m ([.ref o] : List Value).toArray below meth cM H locs 0 0 (MQ below (va_Qi (fun r (u : Int32) => r = u) (fun u t => ∃ (x9 : Int32) (x13 : Int32), (0 ≤ x9.toInt) ∧ (x9.toInt ≤ 400) ∧ va_P (dC, dI) vwCl (rw_W o c kc (rU (rU st 9 x9) 13 x13) lg ai al) t.heap) A) ([.ref o] : List Value).toArray s 0 0 A) (F0 m 0 ls []) := by
    intro H locs hP hS
    refine lv_aload_n hx hb dX9_wipe_0 rfl (lv_at hl 0 rfl) ?_
    refine lv_iconst (v := 0) hx hb dX9_wipe_1 (by decide) ?_
    refine va_put (D := (dC, dI)) (ci := 11) (v := .int (0 : Int32)) (ty := .int) (C := RX9) (T := TX9) (N := 38) hx hb hts hin9 tyX9 tyX9_ok nmX9 hown hK hP (rw_D hD) hS 0 rfl rfl 13 (by decide) (hts (.fieldLink RX9 91 "BlockLogModel" "thrown" "I") (by decide +kernel)) (fun _ h9 => h9) rfl (by decide +kernel) rfl rfl (Nat.le_of_ble_eq_true rfl) dX9_wipe_2 (fun H locs hP _ hS => ?_)
    have hP : va_P (dC, dI) vwCl (rw_W o c kc (rU st 13 (0 : Int32)) lg ai al) H := hP
    refine lv_aload_n hx hb dX9_wipe_5 rfl (lv_at hl 0 rfl) ?_
    refine va_get (D := (dC, dI)) (ci := 11) (v := .int (st 9)) (C := RX9) (T := TX9) (N := 38) hx hb hts hin9 hown hK hP 0 rfl rfl 9 (by decide) (hts (.fieldLink RX9 271 "BlockLogModel" "tapeSize" "I") (by decide +kernel)) (fun _ h9 => h9) rfl dX9_wipe_6 ?_
    refine lv_istore_n (lv' := [(1, .int (st 9)), (0, .ref o)]) hx hb dX9_wipe_9 rfl hl (by decide) rfl (fun ls hl => ?_)
    refine lv_aload_n hx hb dX9_wipe_10 rfl (lv_at hl 1 rfl) ?_
    refine lv_iconst (v := 0) hx hb dX9_wipe_11 (by decide) ?_
    refine va_put (D := (dC, dI)) (ci := 11) (v := .int (0 : Int32)) (ty := .int) (C := RX9) (T := TX9) (N := 38) hx hb hts hin9 tyX9 tyX9_ok nmX9 hown hK hP (rw_D hD) hS 0 rfl rfl 9 (by decide) (hts (.fieldLink RX9 271 "BlockLogModel" "tapeSize" "I") (by decide +kernel)) (fun _ h9 => h9) rfl (by decide +kernel) rfl rfl (Nat.le_of_ble_eq_true rfl) dX9_wipe_12 (fun H locs hP _ hS => ?_)
    have hP : va_P (dC, dI) vwCl (rw_W o c kc (rU (rU st 9 (0 : Int32)) 13 (0 : Int32)) lg ai al) H := hP
    refine lv_iload_n hx hb dX9_wipe_15 rfl (lv_at hl 0 rfl) ?_
    exact W.iret hx hb hr (fun t ht hW => ⟨⟨_, _, rfl, rfl, (0 : Int32), (0 : Int32), (by omega), (by omega), by rw [ht]; exact hP⟩, hS.F ht⟩) hS.2.2 dX9_wipe_16
  exact main s.heap [] hP hS

set_option maxHeartbeats 4000000 in
set_option maxRecDepth 100000 in
theorem v_X9_at (l : Launch) (dC : Nat → ClassId) (dI : Nat → Nat → Nat) (o : Nat) (c : Nat → Nat) (kc : Nat → ClassId) (st : Nat → Int32) (lg : Nat → Int64) (ai : Nat → Nat → Int32) (al : Nat → Nat → Int64) (p0 : Int32) (sz : Nat) (hf9a : 0 ≤ (st 9).toInt) (hf9b : (st 9).toInt ≤ 400) (hR8 : aR (ai 8) 400 (0) 255) : Met l yX9_at wsX9_at ({ frames := 1, cells := 0, slots := 0, locals := 22 }) (va_Pc [.ref o, .int p0] (fun U => U.heap.size = sz ∧ va_P (dC, dI) vwCl (rw_W o c kc st lg ai al) U.heap ∧ va_K (dC, dI) vwCl (rw_T kc) U ∧ va_D (fun _ => True) (rw_W o c kc st lg ai al))) (va_Qi (fun r (u : Int32) => r = u) (fun u t => ∃ (x13 : Int32), va_P (dC, dI) vwCl (rw_W o c kc (rU st 13 x13) lg ai al) t.heap) (va_A (rw_W o c kc st lg ai al) sz)) 0 0 (va_A (rw_W o c kc st lg ai al) sz) := by
  refine Met.ofW (cc := cX9_at) (maxL := 2) (ret := (some .int)) (by decide) rfl ?_
  intro p e s m args below meth cM s₁ B hml hv
  obtain ⟨rfl, hsz, hP, hK, hD0⟩ := hv
  have hx := B.exec
  have hb := B.bytes
  have hr := B.returns
  have hts := atoms_spec (ws := wsX9_at) B.pre
  have hown : s.vm.findClass RX9 = some m.cls := findClass_of_methodNamed B.named
  subst hsz
  have hD := hD0.self (sz := s.heap.size)
  generalize hAe : va_A (rw_W o c kc st lg ai al) s.heap.size = A at hD ⊢
  have hA : ∀ q : Nat, s.heap.size ≤ q → A q := fun q h => by rw [← hAe]; exact Or.inr h
  have hS : va_S A s.heap s.heap [] := va_S.rf
  clear hAe hD0
  have hl := lv_entry ([.ref o, .int p0]) (n := 2) (Nat.le_of_ble_eq_true rfl)
  rw [lg_entry_eq]
  generalize (lg_sl ([.ref o, .int p0]) ++ List.replicate (2 - (lg_sl ([.ref o, .int p0])).length) Slot.unset).toArray = ls at hl ⊢
  have hl : lv_has ls 2 [(0, .ref o), (1, .int p0)] := hl
  have z_0 : (0 : Int32).toInt = 0 := by decide
  have z_1 : (1 : Int32).toInt = 1 := by decide
  have hin9 : ∀ w ∈ u_ws RX9 TX9 38, w ∈ wsX9_at := by decide +kernel
  have main : ∀ (H : Heap) (locs : List Loc), va_P (dC, dI) vwCl (rw_W o c kc st lg ai al) H → va_S A s.heap H locs → W p l e (headSpec wsX9_at ({ frames := 1, cells := 0, slots := 0, locals := 22 })).room s m ([.ref o, .int p0] : List Value).toArray below meth cM H locs 0 0 (MQ below (va_Qi (fun r (u : Int32) => r = u) (fun u t => ∃ (x13 : Int32), va_P (dC, dI) vwCl (rw_W o c kc (rU st 13 x13) lg ai al) t.heap) A) ([.ref o, .int p0] : List Value).toArray s 0 0 A) (F0 m 0 ls []) := by
    intro H locs hP hS
    refine lv_aload_n hx hb dX9_at_0 rfl (lv_at hl 0 rfl) ?_
    refine lv_iload_n hx hb dX9_at_1 rfl (lv_at hl 1 rfl) ?_
    refine lv_iconst (v := 0) hx hb dX9_at_2 (by decide) ?_
    refine lv_aload_n hx hb dX9_at_3 rfl (lv_at hl 0 rfl) ?_
    refine va_get (D := (dC, dI)) (ci := 11) (v := .int (st 9)) (C := RX9) (T := TX9) (N := 38) hx hb hts hin9 hown hK hP 0 rfl rfl 9 (by decide) (hts (.fieldLink RX9 271 "BlockLogModel" "tapeSize" "I") (by decide +kernel)) (fun _ h9 => h9) rfl dX9_at_4 ?_
    refine lv_iconst (v := 1) hx hb dX9_at_7 (by decide) ?_
    refine lv_isub hx hb dX9_at_8 ?_
    refine lv_topi (fun v_1 ev_1 => ?_)
    have rg1 := iv_rng (st 9)
    have hv_1 : v_1.toInt = (st 9).toInt - 1 := by rw [ev_1]; exact (iv_sub (by omega) (by omega)).trans (by omega)
    clear ev_1
    refine vp_callSi (va_Run.run (va_runS (As := [.int p0, .int (0 : Int32), .int v_1]) (rest := [.ref o]) ⟨hx, hb, hml, hown, hts⟩ (v_X9_within l dC dI p0 (0 : Int32) v_1 ) (va_cwS 3 hts gX9_at_X9_within rfl rfl rfl (by decide +kernel) ⟨Nat.le_of_ble_eq_true rfl, Nat.le_of_ble_eq_true rfl⟩) ⟨fun a U g mk q => q, fun U hU hW => ⟨rfl, trivial⟩⟩ rfl rfl hl.1 rfl (lv_room (Nat.le_of_ble_eq_true rfl)) dX9_at_9 ⟨Nat.le_of_ble_eq_true rfl, Nat.le_of_ble_eq_true rfl⟩)) (fun r_2 er_2 => ?_)
    obtain ⟨k_3, k_4, k_5, k_6, k_7⟩ := er_2
    rcases iv_01 (a := r_2) (by omega) (by omega) with b_8 | b_8
    · skip
      have ib_8 := iv_eq b_8
      rw [b_8]
      refine lv_if_eq (tgt := 19) hx hb dX9_at_12 (by decide) (fun c_9 => ?_) (fun c_9 => ?_)
      · skip
        have ic_9 := iv_eq c_9
        refine lv_iconst (v := 1) hx hb dX9_at_19 (by decide) ?_
        refine va_put (D := (dC, dI)) (ci := 11) (v := .int (1 : Int32)) (ty := .int) (C := RX9) (T := TX9) (N := 38) hx hb hts hin9 tyX9 tyX9_ok nmX9 hown hK hP (rw_D hD) hS 0 rfl rfl 13 (by decide) (hts (.fieldLink RX9 91 "BlockLogModel" "thrown" "I") (by decide +kernel)) (fun _ h9 => h9) rfl (by decide +kernel) rfl rfl (Nat.le_of_ble_eq_true rfl) dX9_at_20 (fun H locs hP _ hS => ?_)
        have hP : va_P (dC, dI) vwCl (rw_W o c kc (rU st 13 (1 : Int32)) lg ai al) H := hP
        refine lv_aload_n hx hb dX9_at_23 rfl (lv_at hl 0 rfl) ?_
        refine va_get (D := (dC, dI)) (ci := 11) (v := .int (1 : Int32)) (C := RX9) (T := TX9) (N := 38) hx hb hts hin9 hown hK hP 0 rfl rfl 13 (by decide) (hts (.fieldLink RX9 91 "BlockLogModel" "thrown" "I") (by decide +kernel)) (fun _ h9 => h9) rfl dX9_at_24 ?_
        refine lv_if_le (tgt := 34) hx hb dX9_at_27 (by decide) (fun c_10 => ?_) (fun c_10 => ?_)
        · skip
          have ic_10 := iv_le c_10
          exfalso
          omega
        · skip
          have ic_10 := iv_nle c_10
          refine lv_iconst (v := 0) hx hb dX9_at_30 (by decide) ?_
          refine lv_goto (tgt := 40) hx hb dX9_at_31 (by decide) ?_
          exact W.iret hx hb hr (fun t ht hW => ⟨⟨_, _, rfl, rfl, (1 : Int32), by rw [ht]; exact hP⟩, hS.F ht⟩) hS.2.2 dX9_at_40
      · skip
        have ic_9 := iv_ne c_9
        exfalso
        omega
    · skip
      have ib_8 := iv_eq b_8
      rw [b_8]
      refine lv_if_eq (tgt := 19) hx hb dX9_at_12 (by decide) (fun c_11 => ?_) (fun c_11 => ?_)
      · skip
        have ic_11 := iv_eq c_11
        exfalso
        omega
      · skip
        have ic_11 := iv_ne c_11
        refine lv_iconst (v := 0) hx hb dX9_at_15 (by decide) ?_
        refine lv_goto (tgt := 20) hx hb dX9_at_16 (by decide) ?_
        refine va_put (D := (dC, dI)) (ci := 11) (v := .int (0 : Int32)) (ty := .int) (C := RX9) (T := TX9) (N := 38) hx hb hts hin9 tyX9 tyX9_ok nmX9 hown hK hP (rw_D hD) hS 0 rfl rfl 13 (by decide) (hts (.fieldLink RX9 91 "BlockLogModel" "thrown" "I") (by decide +kernel)) (fun _ h9 => h9) rfl (by decide +kernel) rfl rfl (Nat.le_of_ble_eq_true rfl) dX9_at_20 (fun H locs hP _ hS => ?_)
        have hP : va_P (dC, dI) vwCl (rw_W o c kc (rU st 13 (0 : Int32)) lg ai al) H := hP
        refine lv_aload_n hx hb dX9_at_23 rfl (lv_at hl 0 rfl) ?_
        refine va_get (D := (dC, dI)) (ci := 11) (v := .int (0 : Int32)) (C := RX9) (T := TX9) (N := 38) hx hb hts hin9 hown hK hP 0 rfl rfl 13 (by decide) (hts (.fieldLink RX9 91 "BlockLogModel" "thrown" "I") (by decide +kernel)) (fun _ h9 => h9) rfl dX9_at_24 ?_
        refine lv_if_le (tgt := 34) hx hb dX9_at_27 (by decide) (fun c_12 => ?_) (fun c_12 => ?_)
        · skip
          have ic_12 := iv_le c_12
          refine lv_aload_n hx hb dX9_at_34 rfl (lv_at hl 0 rfl) ?_
          refine va_get (D := (dC, dI)) (ci := 11) (v := .ref (c 8)) (C := RX9) (T := TX9) (N := 38) hx hb hts hin9 hown hK hP 0 rfl rfl 8 (by decide) (hts (.fieldLink RX9 14 "BlockLogModel" "tape" "[I") (by decide +kernel)) (fun _ h9 => h9) rfl dX9_at_35 ?_
          refine lv_iload_n hx hb dX9_at_38 rfl (lv_at hl 1 rfl) ?_
          refine va_iald (f := ai 8) hx hb hK hP 2 1 rfl rfl (iv_in (i := p0) (by omega) (by omega)) dX9_at_39 ?_
          refine lv_topi (fun v_13 ev_13 => ?_)
          have k_14 : 0 ≤ v_13.toInt ∧ v_13.toInt ≤ 255 := aR_get hR8 (by omega) (by omega) ev_13
          clear ev_13
          exact W.iret hx hb hr (fun t ht hW => ⟨⟨_, _, rfl, rfl, (0 : Int32), by rw [ht]; exact hP⟩, hS.F ht⟩) hS.2.2 dX9_at_40
        · skip
          have ic_12 := iv_nle c_12
          exfalso
          omega
  exact main s.heap [] hP hS

set_option maxHeartbeats 4000000 in
set_option maxRecDepth 100000 in
theorem v_X9_sameLeaf (l : Launch) (dC : Nat → ClassId) (dI : Nat → Nat → Nat) (o : Nat) (c : Nat → Nat) (kc : Nat → ClassId) (st : Nat → Int32) (lg : Nat → Int64) (ai : Nat → Nat → Int32) (al : Nat → Nat → Int64)  (hf1a : 1 ≤ (st 1).toInt) (hf1b : (st 1).toInt ≤ 65536) : Met l yX9_sameLeaf wsX9_sameLeaf ({ frames := 5, cells := 0, slots := 0, locals := 114 }) (va_Pc [.ref o] (fun U => va_P (dC, dI) vwCl (rw_W o c kc st lg ai al) U.heap ∧ va_K (dC, dI) vwCl (rw_T kc) U)) (vp_Si (fun r => (-1 ≤ r.toInt) ∧ (r.toInt < (st 1).toInt))) 0 0 (fun _ => False) := by
  refine Met.ofW (cc := cX9_sameLeaf) (maxL := 6) (ret := (some .int)) (by decide) rfl ?_
  intro p e s m args below meth cM s₁ B hml hv
  obtain ⟨rfl, hP, hK⟩ := hv
  have hx := B.exec
  have hb := B.bytes
  have hr := B.returns
  have hts := atoms_spec (ws := wsX9_sameLeaf) B.pre
  have hown : s.vm.findClass RX9 = some m.cls := findClass_of_methodNamed B.named
  have hl := lv_entry ([.ref o]) (n := 6) (Nat.le_of_ble_eq_true rfl)
  rw [lg_entry_eq]
  generalize (lg_sl ([.ref o]) ++ List.replicate (6 - (lg_sl ([.ref o])).length) Slot.unset).toArray = ls at hl ⊢
  have hl : lv_has ls 6 [(0, .ref o)] := hl
  have z_m1 : (-1 : Int32).toInt = -1 := by decide
  have z_0 : (0 : Int32).toInt = 0 := by decide
  have z_1 : (1 : Int32).toInt = 1 := by decide
  have z_3 : (3 : Int32).toInt = 3 := by decide
  have z_17 : (17 : Int32).toInt = 17 := by decide
  have hin9 : ∀ w ∈ u_ws RX9 TX9 38, w ∈ wsX9_sameLeaf := by decide +kernel
  refine lv_aload_n hx hb dX9_sameLeaf_0 rfl (lv_at hl 0 rfl) ?_
  refine lv_iconst (v := 3) hx hb dX9_sameLeaf_1 (by decide) ?_
  refine lv_bipush (v := 17) hx hb dX9_sameLeaf_2 (by decide) ?_
  refine vp_callSl (va_Run.run (va_runV (As := [.int (3 : Int32), .int (17 : Int32)]) (rest := []) ⟨hx, hb, hml, hown, hts⟩ (v_X9_freshSum l dC dI o c kc st lg ai al (3 : Int32) (17 : Int32) (by omega) (by omega)) (cwV 2 hts gX9_sameLeaf_X9_freshSum rfl rfl rfl (by decide +kernel) ⟨Nat.le_of_ble_eq_true rfl, Nat.le_of_ble_eq_true rfl⟩) ⟨fun a U g mk q => by obtain ⟨q0, qP, qK⟩ := q; exact ⟨q0, qP, va_K.moved (u := U) (U := U.calling g mk a) (Vm.Alike.refl U.vm) qK⟩, va_recv hK hP (ci := 11) (q := (RX9, TX9, 38)) rfl (q0 := 0) rfl, fun U hU hW => ⟨rfl, by rw [hU]; exact hP, va_K.moved hW.alike hK⟩⟩ rfl rfl hl.1 rfl (lv_room (Nat.le_of_ble_eq_true rfl)) dX9_sameLeaf_4 ⟨Nat.le_of_ble_eq_true rfl, Nat.le_of_ble_eq_true rfl⟩)) (fun r_1 er_1 => ?_)
  refine lv_lstore_n (lv' := [(1, .long r_1), (0, .ref o)]) hx hb dX9_sameLeaf_7 rfl hl (by decide) rfl (fun ls hl => ?_)
  refine lv_iconst (v := 0) hx hb dX9_sameLeaf_8 (by decide) ?_
  refine lv_istore_n (lv' := [(3, .int (0 : Int32)), (1, .long r_1), (0, .ref o)]) hx hb dX9_sameLeaf_9 rfl hl (by decide) rfl (fun ls hl => ?_)
  have loop10 : ∀ (n : Nat) (l3_10 : Int32) (ls : Array Slot), (0 ≤ l3_10.toInt) → (l3_10.toInt ≤ (st 1).toInt) → ((st 1).toInt - l3_10.toInt : Int).toNat < n → lv_has ls 6 [(3, .int l3_10), (1, .long r_1), (0, .ref o)] → W p l e (headSpec wsX9_sameLeaf ({ frames := 5, cells := 0, slots := 0, locals := 114 })).room s m ([.ref o] : List Value).toArray below meth cM s.heap [] 0 0 (MQ below (vp_Si (fun r => (-1 ≤ r.toInt) ∧ (r.toInt < (st 1).toInt))) ([.ref o] : List Value).toArray s 0 0 (fun _ => False)) (F0 m 10 ls []) := by
    intro n
    induction n with
    | zero => intro l3_10 ls if0_10 if1_10 hm; exact absurd hm (Nat.not_lt_zero _)
    | succ n ih10 =>
      intro l3_10 ls if0_10 if1_10 hm10 hl
      refine lv_iload_n hx hb dX9_sameLeaf_10 rfl (lv_at hl 0 rfl) ?_
      refine lv_aload_n hx hb dX9_sameLeaf_11 rfl (lv_at hl 2 rfl) ?_
      refine va_get (D := (dC, dI)) (ci := 11) (v := .int (st 1)) (C := RX9) (T := TX9) (N := 38) hx hb hts hin9 hown hK hP 0 rfl rfl 1 (by decide) (hts (.fieldLink RX9 62 "BlockLogModel" "pages" "I") (by decide +kernel)) (fun _ h9 => h9) rfl dX9_sameLeaf_12 ?_
      refine lv_icmp_ge (tgt := 101) hx hb dX9_sameLeaf_15 (by decide) (fun c_2 => ?_) (fun c_2 => ?_)
      · skip
        have ic_2 := iv_le c_2
        refine lv_iconst (v := (-1)) hx hb dX9_sameLeaf_101 (by decide) ?_
        exact W.iret hx hb hr (fun t ht hW => ⟨_, rfl, ⟨(by omega), (by omega)⟩, ht⟩) (fun q h => by cases h) dX9_sameLeaf_102
      · skip
        have ic_2 := iv_nle c_2
        refine lv_aload_n hx hb dX9_sameLeaf_18 rfl (lv_at hl 2 rfl) ?_
        refine lv_iload_n hx hb dX9_sameLeaf_19 rfl (lv_at hl 0 rfl) ?_
        refine vp_callSl (va_Run.run (va_runV (As := [.int l3_10]) (rest := []) ⟨hx, hb, hml, hown, hts⟩ (v_X9_leafDigest l dC dI o c kc st lg ai al l3_10 (by omega) (by omega)) (cwV 1 hts gX9_sameLeaf_X9_leafDigest rfl rfl rfl (by decide +kernel) ⟨Nat.le_of_ble_eq_true rfl, Nat.le_of_ble_eq_true rfl⟩) ⟨fun a U g mk q => by obtain ⟨q0, qP, qK⟩ := q; exact ⟨q0, qP, va_K.moved (u := U) (U := U.calling g mk a) (Vm.Alike.refl U.vm) qK⟩, va_recv hK hP (ci := 11) (q := (RX9, TX9, 38)) rfl (q0 := 0) rfl, fun U hU hW => ⟨rfl, by rw [hU]; exact hP, va_K.moved hW.alike hK⟩⟩ rfl rfl hl.1 rfl (lv_room (Nat.le_of_ble_eq_true rfl)) dX9_sameLeaf_20 ⟨Nat.le_of_ble_eq_true rfl, Nat.le_of_ble_eq_true rfl⟩)) (fun r_3 er_3 => ?_)
        refine lv_lload_n hx hb dX9_sameLeaf_23 rfl (lv_at hl 1 rfl) ?_
        refine W.lcmp hx hb dX9_sameLeaf_24 ?_
        refine lv_topi (fun v_4 ev_4 => ?_)
        clear ev_4
        refine lv_if_ne (tgt := 95) hx hb dX9_sameLeaf_25 (by decide) (fun c_5 => ?_) (fun c_5 => ?_)
        · skip
          have ic_5 := iv_ne c_5
          obtain ⟨x_6, ex_6⟩ : ∃ z : Int32, z = l3_10 + (1) := ⟨_, rfl⟩
          refine lv_iinc (v := x_6) (lv' := [(3, .int x_6), (1, .long r_1), (0, .ref o)]) hx hb dX9_sameLeaf_95 hl (k := 0) rfl (by rw [ex_6]; rfl) (by decide) rfl (fun ls hl => ?_)
          have rg1 := iv_rng l3_10
          have hx_6 : x_6.toInt = l3_10.toInt + (1) := by rw [ex_6]; exact (iv_add (by omega) (by omega)).trans (by omega)
          clear ex_6
          refine lv_goto (tgt := 10) hx hb dX9_sameLeaf_98 (by decide) ?_
          exact ih10 x_6 _ (by omega) (by omega) (by omega) (lv_sub hl [0, 1, 2] rfl)
        · skip
          have ic_5 := iv_eq c_5
          refine lv_aload_n hx hb dX9_sameLeaf_28 rfl (lv_at hl 2 rfl) ?_
          refine lv_iload_n hx hb dX9_sameLeaf_29 rfl (lv_at hl 0 rfl) ?_
          refine vp_callSi (va_Run.run (va_runV (As := [.int l3_10]) (rest := []) ⟨hx, hb, hml, hown, hts⟩ (v_X9_pageState l dC dI o c kc st lg ai al l3_10 (by omega) (by omega)) (cwV 1 hts gX9_sameLeaf_X9_pageState rfl rfl rfl (by decide +kernel) ⟨Nat.le_of_ble_eq_true rfl, Nat.le_of_ble_eq_true rfl⟩) ⟨fun a U g mk q => by obtain ⟨q0, qP, qK⟩ := q; exact ⟨q0, qP, va_K.moved (u := U) (U := U.calling g mk a) (Vm.Alike.refl U.vm) qK⟩, va_recv hK hP (ci := 11) (q := (RX9, TX9, 38)) rfl (q0 := 0) rfl, fun U hU hW => ⟨rfl, by rw [hU]; exact hP, va_K.moved hW.alike hK⟩⟩ rfl rfl hl.1 rfl (lv_room (Nat.le_of_ble_eq_true rfl)) dX9_sameLeaf_30 ⟨Nat.le_of_ble_eq_true rfl, Nat.le_of_ble_eq_true rfl⟩)) (fun r_7 er_7 => ?_)
          obtain ⟨k_8, k_9, hrt⟩ := er_7
          have hrt : (r_7.toInt = 1 → rtQ (ai 0) l3_10) ∧ (r_7.toInt ≠ 1 → ¬ rtQ (ai 0) l3_10) := hrt
          refine lv_iconst (v := 1) hx hb dX9_sameLeaf_33 (by decide) ?_
          refine lv_icmp_ne (tgt := 95) hx hb dX9_sameLeaf_34 (by decide) (fun c_10 => ?_) (fun c_10 => ?_)
          · skip
            have ic_10 := iv_ne c_10
            obtain ⟨x_11, ex_11⟩ : ∃ z : Int32, z = l3_10 + (1) := ⟨_, rfl⟩
            refine lv_iinc (v := x_11) (lv' := [(3, .int x_11), (1, .long r_1), (0, .ref o)]) hx hb dX9_sameLeaf_95 hl (k := 0) rfl (by rw [ex_11]; rfl) (by decide) rfl (fun ls hl => ?_)
            have rg2 := iv_rng l3_10
            have hx_11 : x_11.toInt = l3_10.toInt + (1) := by rw [ex_11]; exact (iv_add (by omega) (by omega)).trans (by omega)
            clear ex_11
            refine lv_goto (tgt := 10) hx hb dX9_sameLeaf_98 (by decide) ?_
            exact ih10 x_11 _ (by omega) (by omega) (by omega) (lv_sub hl [0, 1, 2] rfl)
          · skip
            have ic_10 := iv_eq c_10
            refine lv_iconst (v := 1) hx hb dX9_sameLeaf_37 (by decide) ?_
            refine lv_istore (lv' := [(4, .int (1 : Int32)), (3, .int l3_10), (1, .long r_1), (0, .ref o)]) hx hb dX9_sameLeaf_38 hl (by decide) rfl (fun ls hl => ?_)
            refine lv_iconst (v := 0) hx hb dX9_sameLeaf_40 (by decide) ?_
            refine lv_istore (lv' := [(5, .int (0 : Int32)), (4, .int (1 : Int32)), (3, .int l3_10), (1, .long r_1), (0, .ref o)]) hx hb dX9_sameLeaf_41 hl (by decide) rfl (fun ls hl => ?_)
            have loop43 : ∀ (n : Nat) (l5_43 : Int32) (l4_43 : Int32) (ls : Array Slot), (0 ≤ l5_43.toInt) → (l5_43.toInt ≤ 17) → (0 ≤ l4_43.toInt) → (l4_43.toInt ≤ 1) → (0 ≤ l3_10.toInt) → (l3_10.toInt < (st 1).toInt) → (17 - l5_43.toInt : Int).toNat < n → lv_has ls 6 [(5, .int l5_43), (4, .int l4_43), (3, .int l3_10), (1, .long r_1), (0, .ref o)] → W p l e (headSpec wsX9_sameLeaf ({ frames := 5, cells := 0, slots := 0, locals := 114 })).room s m ([.ref o] : List Value).toArray below meth cM s.heap [] 0 0 (MQ below (vp_Si (fun r => (-1 ≤ r.toInt) ∧ (r.toInt < (st 1).toInt))) ([.ref o] : List Value).toArray s 0 0 (fun _ => False)) (F0 m 43 ls []) := by
              intro n
              induction n with
              | zero => intro l5_43 l4_43 ls if0_43 if1_43 if2_43 if3_43 if4_43 if5_43 hm; exact absurd hm (Nat.not_lt_zero _)
              | succ n ih43 =>
                intro l5_43 l4_43 ls if0_43 if1_43 if2_43 if3_43 if4_43 if5_43 hm43 hl
                refine lv_iload hx hb dX9_sameLeaf_43 (lv_at hl 0 rfl) ?_
                refine lv_bipush (v := 17) hx hb dX9_sameLeaf_45 (by decide) ?_
                refine lv_icmp_ge (tgt := 88) hx hb dX9_sameLeaf_47 (by decide) (fun c_12 => ?_) (fun c_12 => ?_)
                · skip
                  have ic_12 := iv_le c_12
                  refine lv_iload hx hb dX9_sameLeaf_88 (lv_at hl 1 rfl) ?_
                  refine lv_if_eq (tgt := 95) hx hb dX9_sameLeaf_90 (by decide) (fun c_13 => ?_) (fun c_13 => ?_)
                  · skip
                    have ic_13 := iv_eq c_13
                    obtain ⟨x_14, ex_14⟩ : ∃ z : Int32, z = l3_10 + (1) := ⟨_, rfl⟩
                    refine lv_iinc (v := x_14) (lv' := [(3, .int x_14), (5, .int l5_43), (4, .int l4_43), (1, .long r_1), (0, .ref o)]) hx hb dX9_sameLeaf_95 hl (k := 2) rfl (by rw [ex_14]; rfl) (by decide) rfl (fun ls hl => ?_)
                    have rg3 := iv_rng l3_10
                    have hx_14 : x_14.toInt = l3_10.toInt + (1) := by rw [ex_14]; exact (iv_add (by omega) (by omega)).trans (by omega)
                    clear ex_14
                    refine lv_goto (tgt := 10) hx hb dX9_sameLeaf_98 (by decide) ?_
                    exact ih10 x_14 _ (by omega) (by omega) (by omega) (lv_sub hl [0, 3, 4] rfl)
                  · skip
                    have ic_13 := iv_ne c_13
                    refine lv_iload_n hx hb dX9_sameLeaf_93 rfl (lv_at hl 2 rfl) ?_
                    exact W.iret hx hb hr (fun t ht hW => ⟨_, rfl, ⟨(by omega), (by omega)⟩, ht⟩) (fun q h => by cases h) dX9_sameLeaf_94
                · skip
                  have ic_12 := iv_nle c_12
                  refine lv_iload hx hb dX9_sameLeaf_50 (lv_at hl 1 rfl) ?_
                  refine lv_aload_n hx hb dX9_sameLeaf_52 rfl (lv_at hl 4 rfl) ?_
                  refine lv_aload_n hx hb dX9_sameLeaf_53 rfl (lv_at hl 4 rfl) ?_
                  refine lv_iload_n hx hb dX9_sameLeaf_54 rfl (lv_at hl 2 rfl) ?_
                  refine vp_callSi (va_Run.run (va_runV (As := [.int l3_10]) (rest := [.ref o, .int l4_43]) ⟨hx, hb, hml, hown, hts⟩ (v_X9_pagePlace l dC dI o c kc st lg ai al l3_10 (by omega) (by omega)) (cwV 1 hts gX9_sameLeaf_X9_pagePlace rfl rfl rfl (by decide +kernel) ⟨Nat.le_of_ble_eq_true rfl, Nat.le_of_ble_eq_true rfl⟩) ⟨fun a U g mk q => by obtain ⟨q0, qP, qK⟩ := q; exact ⟨q0, qP, va_K.moved (u := U) (U := U.calling g mk a) (Vm.Alike.refl U.vm) qK⟩, va_recv hK hP (ci := 11) (q := (RX9, TX9, 38)) rfl (q0 := 0) rfl, fun U hU hW => ⟨rfl, by rw [hU]; exact hP, va_K.moved hW.alike hK⟩⟩ rfl rfl hl.1 rfl (lv_room (Nat.le_of_ble_eq_true rfl)) dX9_sameLeaf_55 ⟨Nat.le_of_ble_eq_true rfl, Nat.le_of_ble_eq_true rfl⟩)) (fun r_15 er_15 => ?_)
                  have k_16 := er_15
                  refine lv_iload hx hb dX9_sameLeaf_58 (lv_at hl 0 rfl) ?_
                  refine lv_iadd hx hb dX9_sameLeaf_60 ?_
                  refine lv_topi (fun v_17 ev_17 => ?_)
                  have rg4 := iv_rng r_15
                  have rg5 := iv_rng l5_43
                  have hv_17 : v_17.toInt = r_15.toInt + l5_43.toInt := by rw [ev_17]; exact (iv_add (by omega) (by omega)).trans (by omega)
                  clear ev_17
                  refine vp_callSi (va_Run.run (va_runV (As := [.int v_17]) (rest := [.int l4_43]) ⟨hx, hb, hml, hown, hts⟩ (v_X9_byteIn l dC dI o c kc st lg ai al v_17 (by omega) (by omega)) (cwV 1 hts gX9_sameLeaf_X9_byteIn rfl rfl rfl (by decide +kernel) ⟨Nat.le_of_ble_eq_true rfl, Nat.le_of_ble_eq_true rfl⟩) ⟨fun a U g mk q => by obtain ⟨q0, qP, qK⟩ := q; exact ⟨q0, qP, va_K.moved (u := U) (U := U.calling g mk a) (Vm.Alike.refl U.vm) qK⟩, va_recv hK hP (ci := 11) (q := (RX9, TX9, 38)) rfl (q0 := 0) rfl, fun U hU hW => ⟨rfl, by rw [hU]; exact hP, va_K.moved hW.alike hK⟩⟩ rfl rfl hl.1 rfl (lv_room (Nat.le_of_ble_eq_true rfl)) dX9_sameLeaf_61 ⟨Nat.le_of_ble_eq_true rfl, Nat.le_of_ble_eq_true rfl⟩)) (fun r_18 er_18 => ?_)
                  obtain ⟨k_19, k_20, k_21⟩ := er_18
                  have k_19 : r_18.toInt = (md_get (ai 0) v_17).toInt := k_19
                  refine lv_aload_n hx hb dX9_sameLeaf_64 rfl (lv_at hl 4 rfl) ?_
                  refine va_get (D := (dC, dI)) (ci := 11) (v := .ref (c 14)) (C := RX9) (T := TX9) (N := 38) hx hb hts hin9 hown hK hP 0 rfl rfl 14 (by decide) (hts (.fieldLink RX9 24 "BlockLogModel" "fresh" "[I") (by decide +kernel)) (fun _ h9 => h9) rfl dX9_sameLeaf_65 ?_
                  refine lv_iload hx hb dX9_sameLeaf_68 (lv_at hl 0 rfl) ?_
                  refine va_iald (f := ai 14) hx hb hK hP 5 4 rfl rfl (iv_in (i := l5_43) (by omega) (by omega)) dX9_sameLeaf_70 ?_
                  refine lv_topi (fun v_22 ev_22 => ?_)
                  clear ev_22
                  refine lv_icmp_ne (tgt := 78) hx hb dX9_sameLeaf_71 (by decide) (fun c_23 => ?_) (fun c_23 => ?_)
                  · skip
                    have ic_23 := iv_ne c_23
                    refine lv_iconst (v := 0) hx hb dX9_sameLeaf_78 (by decide) ?_
                    refine lv_iand hx hb dX9_sameLeaf_79 ?_
                    refine lv_topi (fun v_24 ev_24 => ?_)
                    have hv_24 : v_24.toInt = 0 := by rw [ev_24, iv_and0]; omega
                    clear ev_24
                    refine lv_istore (lv' := [(4, .int v_24), (5, .int l5_43), (3, .int l3_10), (1, .long r_1), (0, .ref o)]) hx hb dX9_sameLeaf_80 hl (by decide) rfl (fun ls hl => ?_)
                    obtain ⟨x_25, ex_25⟩ : ∃ z : Int32, z = l5_43 + (1) := ⟨_, rfl⟩
                    refine lv_iinc (v := x_25) (lv' := [(5, .int x_25), (4, .int v_24), (3, .int l3_10), (1, .long r_1), (0, .ref o)]) hx hb dX9_sameLeaf_82 hl (k := 1) rfl (by rw [ex_25]; rfl) (by decide) rfl (fun ls hl => ?_)
                    have hx_25 : x_25.toInt = l5_43.toInt + (1) := by rw [ex_25]; exact (iv_add (by omega) (by omega)).trans (by omega)
                    clear ex_25
                    refine lv_goto (tgt := 43) hx hb dX9_sameLeaf_85 (by decide) ?_
                    exact ih43 x_25 v_24 _ (by omega) (by omega) (by omega) (by omega) (by omega) (by omega) (by omega) (lv_sub hl [0, 1, 2, 3, 4] rfl)
                  · skip
                    have ic_23 := iv_eq c_23
                    refine lv_iconst (v := 1) hx hb dX9_sameLeaf_74 (by decide) ?_
                    refine lv_goto (tgt := 79) hx hb dX9_sameLeaf_75 (by decide) ?_
                    refine lv_iand hx hb dX9_sameLeaf_79 ?_
                    refine lv_topi (fun v_26 ev_26 => ?_)
                    have hv_26 : v_26.toInt = l4_43.toInt := by rw [ev_26, iv_and1 (by omega) (by omega)]
                    clear ev_26
                    refine lv_istore (lv' := [(4, .int v_26), (5, .int l5_43), (3, .int l3_10), (1, .long r_1), (0, .ref o)]) hx hb dX9_sameLeaf_80 hl (by decide) rfl (fun ls hl => ?_)
                    obtain ⟨x_27, ex_27⟩ : ∃ z : Int32, z = l5_43 + (1) := ⟨_, rfl⟩
                    refine lv_iinc (v := x_27) (lv' := [(5, .int x_27), (4, .int v_26), (3, .int l3_10), (1, .long r_1), (0, .ref o)]) hx hb dX9_sameLeaf_82 hl (k := 1) rfl (by rw [ex_27]; rfl) (by decide) rfl (fun ls hl => ?_)
                    have hx_27 : x_27.toInt = l5_43.toInt + (1) := by rw [ex_27]; exact (iv_add (by omega) (by omega)).trans (by omega)
                    clear ex_27
                    refine lv_goto (tgt := 43) hx hb dX9_sameLeaf_85 (by decide) ?_
                    exact ih43 x_27 v_26 _ (by omega) (by omega) (by omega) (by omega) (by omega) (by omega) (by omega) (lv_sub hl [0, 1, 2, 3, 4] rfl)
            exact loop43 ((17 - 0 : Int).toNat + 1) (0 : Int32) (1 : Int32) _ (by omega) (by omega) (by omega) (by omega) (by omega) (by omega) (by omega) (lv_sub hl [0, 1, 2, 3, 4] rfl)
  exact loop10 (((st 1).toInt - 0 : Int).toNat + 1) (0 : Int32) _ (by omega) (by omega) (by omega) (lv_sub hl [0, 1, 2] rfl)

set_option maxHeartbeats 4000000 in
set_option maxRecDepth 100000 in
theorem v_X9_leaf (l : Launch) (dC : Nat → ClassId) (dI : Nat → Nat → Nat) (o : Nat) (c : Nat → Nat) (kc : Nat → ClassId) (st : Nat → Int32) (lg : Nat → Int64) (ai : Nat → Nat → Int32) (al : Nat → Nat → Int64)  (sz : Nat) (hf1a : 1 ≤ (st 1).toInt) (hf1b : (st 1).toInt ≤ 65536) (hf3a : 0 ≤ (st 3).toInt) (hf3b : (st 3).toInt ≤ 1) (hf6a : 0 ≤ (st 6).toInt) (hf6b : (st 6).toInt ≤ 1) (hf7a : 0 ≤ (st 7).toInt) (hf7b : (st 7).toInt ≤ 1) (hf9a : 0 ≤ (st 9).toInt) (hf9b : (st 9).toInt ≤ 400) (hf12a : 0 ≤ (st 12).toInt) (hf12b : (st 12).toInt ≤ 8) (hf15a : 0 ≤ (st 15).toInt) (hf15b : (st 15).toInt ≤ 128) (hR8 : aR (ai 8) 400 (0) 255) : Met l yX9_leaf wsX9_leaf ({ frames := 6, cells := 0, slots := 0, locals := 139 }) (va_Pc [.ref o] (fun U => U.heap.size = sz ∧ va_P (dC, dI) vwCl (rw_W o c kc st lg ai al) U.heap ∧ va_K (dC, dI) vwCl (rw_T kc) U ∧ va_D (fun _ => True) (rw_W o c kc st lg ai al))) (va_Qi (fun r (u : Int32) => r = u) (fun u t => ∃ (x3 : Int32) (x4 : Int32) (x5 : Int32) (x6 : Int32) (x9 : Int32) (x12 : Int32) (x13 : Int32) (f0 : Nat → Int32) (f14 : Nat → Int32), (0 ≤ x3.toInt) ∧ (x3.toInt ≤ 1) ∧ (0 ≤ x6.toInt) ∧ (x6.toInt ≤ 1) ∧ (0 ≤ x9.toInt) ∧ (x9.toInt ≤ 400) ∧ (0 ≤ x12.toInt) ∧ (x12.toInt ≤ 8) ∧ va_P (dC, dI) vwCl (rw_W o c kc (rU (rU (rU (rU (rU (rU (rU st 3 x3) 4 x4) 5 x5) 6 x6) 9 x9) 12 x12) 13 x13) lg (rU (rU ai 0 f0) 14 f14) al) t.heap) (va_A (rw_W o c kc st lg ai al) sz)) 0 0 (va_A (rw_W o c kc st lg ai al) sz) := by
  refine Met.ofW (cc := cX9_leaf) (maxL := 2) (ret := (some .int)) (by decide) rfl ?_
  intro p e s m args below meth cM s₁ B hml hv
  obtain ⟨rfl, hsz, hP, hK, hD0⟩ := hv
  have hx := B.exec
  have hb := B.bytes
  have hr := B.returns
  have hts := atoms_spec (ws := wsX9_leaf) B.pre
  have hown : s.vm.findClass RX9 = some m.cls := findClass_of_methodNamed B.named
  subst hsz
  have hD := hD0.self (sz := s.heap.size)
  generalize hAe : va_A (rw_W o c kc st lg ai al) s.heap.size = A at hD ⊢
  have hA : ∀ q : Nat, s.heap.size ≤ q → A q := fun q h => by rw [← hAe]; exact Or.inr h
  have hS : va_S A s.heap s.heap [] := va_S.rf
  clear hAe hD0
  have hl := lv_entry ([.ref o]) (n := 2) (Nat.le_of_ble_eq_true rfl)
  rw [lg_entry_eq]
  generalize (lg_sl ([.ref o]) ++ List.replicate (2 - (lg_sl ([.ref o])).length) Slot.unset).toArray = ls at hl ⊢
  have hl : lv_has ls 2 [(0, .ref o)] := hl
  have z_m4 : (-4 : Int32).toInt = -4 := by decide
  have z_m3 : (-3 : Int32).toInt = -3 := by decide
  have z_m2 : (-2 : Int32).toInt = -2 := by decide
  have z_m1 : (-1 : Int32).toInt = -1 := by decide
  have z_0 : (0 : Int32).toInt = 0 := by decide
  have z_1 : (1 : Int32).toInt = 1 := by decide
  have z_2 : (2 : Int32).toInt = 2 := by decide
  have z_16 : (16 : Int32).toInt = 16 := by decide
  have z_26 : (26 : Int32).toInt = 26 := by decide
  have hin9 : ∀ w ∈ u_ws RX9 TX9 38, w ∈ wsX9_leaf := by decide +kernel
  have main : ∀ (H : Heap) (locs : List Loc), va_P (dC, dI) vwCl (rw_W o c kc st lg ai al) H → va_S A s.heap H locs → W p l e (headSpec wsX9_leaf ({ frames := 6, cells := 0, slots := 0, locals := 139 })).room s m ([.ref o] : List Value).toArray below meth cM H locs 0 0 (MQ below (va_Qi (fun r (u : Int32) => r = u) (fun u t => ∃ (x3 : Int32) (x4 : Int32) (x5 : Int32) (x6 : Int32) (x9 : Int32) (x12 : Int32) (x13 : Int32) (f0 : Nat → Int32) (f14 : Nat → Int32), (0 ≤ x3.toInt) ∧ (x3.toInt ≤ 1) ∧ (0 ≤ x6.toInt) ∧ (x6.toInt ≤ 1) ∧ (0 ≤ x9.toInt) ∧ (x9.toInt ≤ 400) ∧ (0 ≤ x12.toInt) ∧ (x12.toInt ≤ 8) ∧ va_P (dC, dI) vwCl (rw_W o c kc (rU (rU (rU (rU (rU (rU (rU st 3 x3) 4 x4) 5 x5) 6 x6) 9 x9) 12 x12) 13 x13) lg (rU (rU ai 0 f0) 14 f14) al) t.heap) A) ([.ref o] : List Value).toArray s 0 0 A) (F0 m 0 ls []) := by
    intro H locs hP hS
    refine lv_aload_n hx hb dX9_leaf_0 rfl (lv_at hl 0 rfl) ?_
    refine lv_aload_n hx hb dX9_leaf_1 rfl (lv_at hl 0 rfl) ?_
    refine va_get (D := (dC, dI)) (ci := 11) (v := .int (st 3)) (C := RX9) (T := TX9) (N := 38) hx hb hts hin9 hown hK hP 0 rfl rfl 3 (by decide) (hts (.fieldLink RX9 72 "BlockLogModel" "on" "Z") (by decide +kernel)) (fun _ h9 => h9) rfl dX9_leaf_2 ?_
    refine lv_if_ne (tgt := 12) hx hb dX9_leaf_5 (by decide) (fun c_1 => ?_) (fun c_1 => ?_)
    · skip
      have ic_1 := iv_ne c_1
      refine lv_aload_n hx hb dX9_leaf_12 rfl (lv_at hl 0 rfl) ?_
      refine va_get (D := (dC, dI)) (ci := 11) (v := .int (st 9)) (C := RX9) (T := TX9) (N := 38) hx hb hts hin9 hown hK hP 0 rfl rfl 9 (by decide) (hts (.fieldLink RX9 271 "BlockLogModel" "tapeSize" "I") (by decide +kernel)) (fun _ h9 => h9) rfl dX9_leaf_13 ?_
      refine lv_iconst (v := 1) hx hb dX9_leaf_16 (by decide) ?_
      refine lv_bipush (v := 16) hx hb dX9_leaf_17 (by decide) ?_
      refine vp_callSi (va_Run.run (va_runS (As := [.int (st 9), .int (1 : Int32), .int (16 : Int32)]) (rest := [.ref o]) ⟨hx, hb, hml, hown, hts⟩ (v_X9_within l dC dI (st 9) (1 : Int32) (16 : Int32) ) (va_cwS 3 hts gX9_leaf_X9_within rfl rfl rfl (by decide +kernel) ⟨Nat.le_of_ble_eq_true rfl, Nat.le_of_ble_eq_true rfl⟩) ⟨fun a U g mk q => q, fun U hU hW => ⟨rfl, trivial⟩⟩ rfl rfl hl.1 rfl (lv_room (Nat.le_of_ble_eq_true rfl)) dX9_leaf_19 ⟨Nat.le_of_ble_eq_true rfl, Nat.le_of_ble_eq_true rfl⟩)) (fun r_2 er_2 => ?_)
      obtain ⟨k_3, k_4, k_5, k_6, k_7⟩ := er_2
      rcases iv_01 (a := r_2) (by omega) (by omega) with b_8 | b_8
      · skip
        have ib_8 := iv_eq b_8
        rw [b_8]
        refine lv_if_ne (tgt := 29) hx hb dX9_leaf_22 (by decide) (fun c_9 => ?_) (fun c_9 => ?_)
        · skip
          have ic_9 := iv_ne c_9
          exfalso
          omega
        · skip
          have ic_9 := iv_eq c_9
          refine lv_iconst (v := 2) hx hb dX9_leaf_25 (by decide) ?_
          refine lv_goto (tgt := 30) hx hb dX9_leaf_26 (by decide) ?_
          refine va_put (D := (dC, dI)) (ci := 11) (v := .int (2 : Int32)) (ty := .int) (C := RX9) (T := TX9) (N := 38) hx hb hts hin9 tyX9 tyX9_ok nmX9 hown hK hP (rw_D hD) hS 0 rfl rfl 13 (by decide) (hts (.fieldLink RX9 91 "BlockLogModel" "thrown" "I") (by decide +kernel)) (fun _ h9 => h9) rfl (by decide +kernel) rfl rfl (Nat.le_of_ble_eq_true rfl) dX9_leaf_30 (fun H locs hP _ hS => ?_)
          have hP : va_P (dC, dI) vwCl (rw_W o c kc (rU st 13 (2 : Int32)) lg ai al) H := hP
          refine lv_aload_n hx hb dX9_leaf_33 rfl (lv_at hl 0 rfl) ?_
          refine va_get (D := (dC, dI)) (ci := 11) (v := .int (2 : Int32)) (C := RX9) (T := TX9) (N := 38) hx hb hts hin9 hown hK hP 0 rfl rfl 13 (by decide) (hts (.fieldLink RX9 91 "BlockLogModel" "thrown" "I") (by decide +kernel)) (fun _ h9 => h9) rfl dX9_leaf_34 ?_
          refine lv_if_le (tgt := 42) hx hb dX9_leaf_37 (by decide) (fun c_10 => ?_) (fun c_10 => ?_)
          · skip
            have ic_10 := iv_le c_10
            exfalso
            omega
          · skip
            have ic_10 := iv_nle c_10
            refine lv_iconst (v := 0) hx hb dX9_leaf_40 (by decide) ?_
            exact W.iret hx hb hr (fun t ht hW => ⟨⟨_, _, rfl, rfl, st 3, st 4, st 5, st 6, st 9, st 12, (2 : Int32), ai 0, ai 14, (by omega), (by omega), (by omega), (by omega), (by omega), (by omega), (by omega), (by omega), by rw [ht]; exact hP⟩, hS.F ht⟩) hS.2.2 dX9_leaf_41
      · skip
        have ib_8 := iv_eq b_8
        rw [b_8]
        refine lv_if_ne (tgt := 29) hx hb dX9_leaf_22 (by decide) (fun c_11 => ?_) (fun c_11 => ?_)
        · skip
          have ic_11 := iv_ne c_11
          refine lv_iconst (v := 0) hx hb dX9_leaf_29 (by decide) ?_
          refine va_put (D := (dC, dI)) (ci := 11) (v := .int (0 : Int32)) (ty := .int) (C := RX9) (T := TX9) (N := 38) hx hb hts hin9 tyX9 tyX9_ok nmX9 hown hK hP (rw_D hD) hS 0 rfl rfl 13 (by decide) (hts (.fieldLink RX9 91 "BlockLogModel" "thrown" "I") (by decide +kernel)) (fun _ h9 => h9) rfl (by decide +kernel) rfl rfl (Nat.le_of_ble_eq_true rfl) dX9_leaf_30 (fun H locs hP _ hS => ?_)
          have hP : va_P (dC, dI) vwCl (rw_W o c kc (rU st 13 (0 : Int32)) lg ai al) H := hP
          refine lv_aload_n hx hb dX9_leaf_33 rfl (lv_at hl 0 rfl) ?_
          refine va_get (D := (dC, dI)) (ci := 11) (v := .int (0 : Int32)) (C := RX9) (T := TX9) (N := 38) hx hb hts hin9 hown hK hP 0 rfl rfl 13 (by decide) (hts (.fieldLink RX9 91 "BlockLogModel" "thrown" "I") (by decide +kernel)) (fun _ h9 => h9) rfl dX9_leaf_34 ?_
          refine lv_if_le (tgt := 42) hx hb dX9_leaf_37 (by decide) (fun c_12 => ?_) (fun c_12 => ?_)
          · skip
            have ic_12 := iv_le c_12
            refine lv_aload_n hx hb dX9_leaf_42 rfl (lv_at hl 0 rfl) ?_
            refine vp_callSi (va_Run.run (va_runV (As := []) (rest := []) ⟨hx, hb, hml, hown, hts⟩ (v_X9_badRows l dC dI o c kc (rU st 13 (0 : Int32)) lg ai al  (show 0 ≤ (st 7).toInt by omega) (show (st 7).toInt ≤ 1 by omega) (show 0 ≤ (st 15).toInt by omega) (show (st 15).toInt ≤ 128 by omega)) (cwV 0 hts gX9_leaf_X9_badRows rfl rfl rfl (by decide +kernel) ⟨Nat.le_of_ble_eq_true rfl, Nat.le_of_ble_eq_true rfl⟩) ⟨fun a U g mk q => by obtain ⟨q0, qP, qK⟩ := q; exact ⟨q0, qP, va_K.moved (u := U) (U := U.calling g mk a) (Vm.Alike.refl U.vm) qK⟩, va_recv hK hP (ci := 11) (q := (RX9, TX9, 38)) rfl (q0 := 0) rfl, fun U hU hW => ⟨rfl, by rw [hU]; exact hP, va_K.moved hW.alike hK⟩⟩ rfl rfl hl.1 rfl (lv_room (Nat.le_of_ble_eq_true rfl)) dX9_leaf_43 ⟨Nat.le_of_ble_eq_true rfl, Nat.le_of_ble_eq_true rfl⟩)) (fun r_13 er_13 => ?_)
            obtain ⟨k_14, k_15⟩ := er_13
            refine lv_if_le (tgt := 52) hx hb dX9_leaf_46 (by decide) (fun c_16 => ?_) (fun c_16 => ?_)
            · skip
              have ic_16 := iv_le c_16
              refine lv_aload_n hx hb dX9_leaf_52 rfl (lv_at hl 0 rfl) ?_
              have hFc := vfree (rw_D hD : va_D A (rw_W o c kc (rU st 13 (0 : Int32)) lg ai al)) hS hA
              refine va_callv (va_runV (As := []) (rest := []) ⟨hx, hb, hml, hown, hts⟩ (v_X9_layLeaf l dC dI o c kc (rU st 13 (0 : Int32)) lg ai al  _ (show 0 ≤ (st 9).toInt by omega) (show (st 9).toInt ≤ 400 by omega) (show aR (ai 8) 400 (0) 255 from hR8)) (cwV 0 hts gX9_leaf_X9_layLeaf rfl rfl rfl (by decide +kernel) ⟨Nat.le_of_ble_eq_true rfl, Nat.le_of_ble_eq_true rfl⟩) ⟨fun a U g mk q => by obtain ⟨q0, q1, qP, qK, qD⟩ := q; exact ⟨q0, q1, qP, va_K.moved (u := U) (U := U.calling g mk a) (Vm.Alike.refl U.vm) qK, qD⟩, va_recv hK hP (ci := 11) (q := (RX9, TX9, 38)) rfl (q0 := 0) rfl, fun U hU hW => ⟨rfl, by rw [hU], by rw [hU]; exact hP, va_K.moved hW.alike hK, rw_D (hD.weaken (fun _ _ _ _ => trivial))⟩⟩ rfl rfl hl.1 rfl (lv_room (Nat.le_of_ble_eq_true rfl)) dX9_leaf_53 ⟨Nat.le_of_ble_eq_true rfl, Nat.le_of_ble_eq_true rfl⟩) hS (fun q _ h => hFc q h) hFc (fun ur_17 t H1 locs ht hvm er_17 hB hz1 hk1 hS => ?_)
              obtain ⟨f14_17, hP1⟩ := hB
              rw [ht] at hP1
              clear hFc hz1 hk1 hvm hP
              subst ht
              have hP := hP1
              clear hP1
              generalize t.heap = H at hP hS ⊢
              have hP : va_P (dC, dI) vwCl (rw_W o c kc (rU st 13 (0 : Int32)) lg (rU ai 14 f14_17) al) H := hP
              refine lv_aload_n hx hb dX9_leaf_56 rfl (lv_at hl 0 rfl) ?_
              refine vp_callSi (va_Run.run (va_runV (As := []) (rest := []) ⟨hx, hb, hml, hown, hts⟩ (v_X9_sameLeaf l dC dI o c kc (rU st 13 (0 : Int32)) lg (rU ai 14 f14_17) al  (show 1 ≤ (st 1).toInt by omega) (show (st 1).toInt ≤ 65536 by omega)) (cwV 0 hts gX9_leaf_X9_sameLeaf rfl rfl rfl (by decide +kernel) ⟨Nat.le_of_ble_eq_true rfl, Nat.le_of_ble_eq_true rfl⟩) ⟨fun a U g mk q => by obtain ⟨q0, qP, qK⟩ := q; exact ⟨q0, qP, va_K.moved (u := U) (U := U.calling g mk a) (Vm.Alike.refl U.vm) qK⟩, va_recv hK hP (ci := 11) (q := (RX9, TX9, 38)) rfl (q0 := 0) rfl, fun U hU hW => ⟨rfl, by rw [hU]; exact hP, va_K.moved hW.alike hK⟩⟩ rfl rfl hl.1 rfl (lv_room (Nat.le_of_ble_eq_true rfl)) dX9_leaf_57 ⟨Nat.le_of_ble_eq_true rfl, Nat.le_of_ble_eq_true rfl⟩)) (fun r_18 er_18 => ?_)
              obtain ⟨k_19, k_20⟩ := er_18
              have k_20 : r_18.toInt < (st 1).toInt := k_20
              refine lv_istore_n (lv' := [(1, .int r_18), (0, .ref o)]) hx hb dX9_leaf_60 rfl hl (by decide) rfl (fun ls hl => ?_)
              refine lv_iload_n hx hb dX9_leaf_61 rfl (lv_at hl 0 rfl) ?_
              refine lv_iconst (v := (-1)) hx hb dX9_leaf_62 (by decide) ?_
              refine lv_icmp_ne (tgt := 90) hx hb dX9_leaf_63 (by decide) (fun c_21 => ?_) (fun c_21 => ?_)
              · skip
                have ic_21 := iv_ne c_21
                refine lv_aload_n hx hb dX9_leaf_90 rfl (lv_at hl 1 rfl) ?_
                refine lv_iconst (v := 0) hx hb dX9_leaf_91 (by decide) ?_
                refine va_put (D := (dC, dI)) (ci := 11) (v := .int (0 : Int32)) (ty := .int) (C := RX9) (T := TX9) (N := 38) hx hb hts hin9 tyX9 tyX9_ok nmX9 hown hK hP (rw_D hD) hS 0 rfl rfl 9 (by decide) (hts (.fieldLink RX9 271 "BlockLogModel" "tapeSize" "I") (by decide +kernel)) (fun _ h9 => h9) rfl (by decide +kernel) rfl rfl (Nat.le_of_ble_eq_true rfl) dX9_leaf_92 (fun H locs hP _ hS => ?_)
                have hP : va_P (dC, dI) vwCl (rw_W o c kc (rU (rU st 9 (0 : Int32)) 13 (0 : Int32)) lg (rU ai 14 f14_17) al) H := hP
                refine lv_aload_n hx hb dX9_leaf_95 rfl (lv_at hl 1 rfl) ?_
                refine va_get (D := (dC, dI)) (ci := 11) (v := .int (st 6)) (C := RX9) (T := TX9) (N := 38) hx hb hts hin9 hown hK hP 0 rfl rfl 6 (by decide) (hts (.fieldLink RX9 108 "BlockLogModel" "dark" "Z") (by decide +kernel)) (fun _ h9 => h9) rfl dX9_leaf_96 ?_
                refine lv_if_eq (tgt := 107) hx hb dX9_leaf_99 (by decide) (fun c_22 => ?_) (fun c_22 => ?_)
                · skip
                  have ic_22 := iv_eq c_22
                  refine lv_iload_n hx hb dX9_leaf_107 rfl (lv_at hl 0 rfl) ?_
                  exact W.iret hx hb hr (fun t ht hW => ⟨⟨_, _, rfl, rfl, st 3, st 4, st 5, st 6, (0 : Int32), st 12, (0 : Int32), ai 0, f14_17, (by omega), (by omega), (by omega), (by omega), (by omega), (by omega), (by omega), (by omega), by rw [ht]; exact hP⟩, hS.F ht⟩) hS.2.2 dX9_leaf_108
                · skip
                  have ic_22 := iv_ne c_22
                  refine lv_bipush (v := (-4)) hx hb dX9_leaf_102 (by decide) ?_
                  refine lv_goto (tgt := 108) hx hb dX9_leaf_104 (by decide) ?_
                  exact W.iret hx hb hr (fun t ht hW => ⟨⟨_, _, rfl, rfl, st 3, st 4, st 5, st 6, (0 : Int32), st 12, (0 : Int32), ai 0, f14_17, (by omega), (by omega), (by omega), (by omega), (by omega), (by omega), (by omega), (by omega), by rw [ht]; exact hP⟩, hS.F ht⟩) hS.2.2 dX9_leaf_108
              · skip
                have ic_21 := iv_eq c_21
                refine lv_aload_n hx hb dX9_leaf_66 rfl (lv_at hl 1 rfl) ?_
                refine vp_callSi (va_Run.run (va_runV (As := []) (rest := []) ⟨hx, hb, hml, hown, hts⟩ (v_X9_freePage l dC dI o c kc (rU st 13 (0 : Int32)) lg (rU ai 14 f14_17) al  (show 1 ≤ (st 1).toInt by omega) (show (st 1).toInt ≤ 65536 by omega)) (cwV 0 hts gX9_leaf_X9_freePage rfl rfl rfl (by decide +kernel) ⟨Nat.le_of_ble_eq_true rfl, Nat.le_of_ble_eq_true rfl⟩) ⟨fun a U g mk q => by obtain ⟨q0, qP, qK⟩ := q; exact ⟨q0, qP, va_K.moved (u := U) (U := U.calling g mk a) (Vm.Alike.refl U.vm) qK⟩, va_recv hK hP (ci := 11) (q := (RX9, TX9, 38)) rfl (q0 := 0) rfl, fun U hU hW => ⟨rfl, by rw [hU]; exact hP, va_K.moved hW.alike hK⟩⟩ rfl rfl hl.1 rfl (lv_room (Nat.le_of_ble_eq_true rfl)) dX9_leaf_67 ⟨Nat.le_of_ble_eq_true rfl, Nat.le_of_ble_eq_true rfl⟩)) (fun r_23 er_23 => ?_)
                obtain ⟨k_24, k_25⟩ := er_23
                have k_25 : r_23.toInt < (st 1).toInt := k_25
                refine lv_istore_n (lv' := [(1, .int r_23), (0, .ref o)]) hx hb dX9_leaf_70 rfl hl (by decide) rfl (fun ls hl => ?_)
                refine lv_iload_n hx hb dX9_leaf_71 rfl (lv_at hl 0 rfl) ?_
                refine lv_iconst (v := (-1)) hx hb dX9_leaf_72 (by decide) ?_
                refine lv_icmp_ne (tgt := 79) hx hb dX9_leaf_73 (by decide) (fun c_26 => ?_) (fun c_26 => ?_)
                · skip
                  have ic_26 := iv_ne c_26
                  refine lv_aload_n hx hb dX9_leaf_79 rfl (lv_at hl 1 rfl) ?_
                  refine lv_aload_n hx hb dX9_leaf_80 rfl (lv_at hl 1 rfl) ?_
                  refine lv_iload_n hx hb dX9_leaf_81 rfl (lv_at hl 0 rfl) ?_
                  refine vp_callSi (va_Run.run (va_runV (As := [.int r_23]) (rest := [.ref o]) ⟨hx, hb, hml, hown, hts⟩ (v_X9_pagePlace l dC dI o c kc (rU st 13 (0 : Int32)) lg (rU ai 14 f14_17) al r_23 (by omega) (by omega)) (cwV 1 hts gX9_leaf_X9_pagePlace rfl rfl rfl (by decide +kernel) ⟨Nat.le_of_ble_eq_true rfl, Nat.le_of_ble_eq_true rfl⟩) ⟨fun a U g mk q => by obtain ⟨q0, qP, qK⟩ := q; exact ⟨q0, qP, va_K.moved (u := U) (U := U.calling g mk a) (Vm.Alike.refl U.vm) qK⟩, va_recv hK hP (ci := 11) (q := (RX9, TX9, 38)) rfl (q0 := 0) rfl, fun U hU hW => ⟨rfl, by rw [hU]; exact hP, va_K.moved hW.alike hK⟩⟩ rfl rfl hl.1 rfl (lv_room (Nat.le_of_ble_eq_true rfl)) dX9_leaf_82 ⟨Nat.le_of_ble_eq_true rfl, Nat.le_of_ble_eq_true rfl⟩)) (fun r_27 er_27 => ?_)
                  have k_28 := er_27
                  refine lv_bipush (v := 26) hx hb dX9_leaf_85 (by decide) ?_
                  have hFc := vfree (rw_D hD : va_D A (rw_W o c kc (rU st 13 (0 : Int32)) lg (rU ai 14 f14_17) al)) hS hA
                  refine va_callv (va_runV (As := [.int r_27, .int (26 : Int32)]) (rest := []) ⟨hx, hb, hml, hown, hts⟩ (v_X9_writeFresh l dC dI o c kc (rU st 13 (0 : Int32)) lg (rU ai 14 f14_17) al r_27 (26 : Int32) _ (show 0 ≤ (st 3).toInt by omega) (show (st 3).toInt ≤ 1 by omega) (show 0 ≤ (st 6).toInt by omega) (show (st 6).toInt ≤ 1 by omega) (show 0 ≤ (st 12).toInt by omega) (show (st 12).toInt ≤ 8 by omega) (by omega) (by omega) (by omega) (by omega)) (cwV 2 hts gX9_leaf_X9_writeFresh rfl rfl rfl (by decide +kernel) ⟨Nat.le_of_ble_eq_true rfl, Nat.le_of_ble_eq_true rfl⟩) ⟨fun a U g mk q => by obtain ⟨q0, q1, qP, qK, qD⟩ := q; exact ⟨q0, q1, qP, va_K.moved (u := U) (U := U.calling g mk a) (Vm.Alike.refl U.vm) qK, qD⟩, va_recv hK hP (ci := 11) (q := (RX9, TX9, 38)) rfl (q0 := 0) rfl, fun U hU hW => ⟨rfl, by rw [hU], by rw [hU]; exact hP, va_K.moved hW.alike hK, rw_D (hD.weaken (fun _ _ _ _ => trivial))⟩⟩ rfl rfl hl.1 rfl (lv_room (Nat.le_of_ble_eq_true rfl)) dX9_leaf_87 ⟨Nat.le_of_ble_eq_true rfl, Nat.le_of_ble_eq_true rfl⟩) hS (fun q _ h => hFc q h) hFc (fun ur_29 t H1 locs ht hvm er_29 hB hz1 hk1 hS => ?_)
                  obtain ⟨x3_29, x4_29, x5_29, x6_29, x12_29, f0_29, k_30, k_31, k_32, k_33, k_34, k_35, hP1⟩ := hB
                  rw [ht] at hP1
                  clear hFc hz1 hk1 hvm hP
                  subst ht
                  have hP := hP1
                  clear hP1
                  generalize t.heap = H at hP hS ⊢
                  have hP : va_P (dC, dI) vwCl (rw_W o c kc (rU (rU (rU (rU (rU (rU st 3 x3_29) 4 x4_29) 5 x5_29) 6 x6_29) 12 x12_29) 13 (0 : Int32)) lg (rU (rU ai 0 f0_29) 14 f14_17) al) H := hP
                  have k_30 : 0 ≤ x3_29.toInt := k_30
                  have k_31 : x3_29.toInt ≤ 1 := k_31
                  have k_32 : 0 ≤ x6_29.toInt := k_32
                  have k_33 : x6_29.toInt ≤ 1 := k_33
                  have k_34 : 0 ≤ x12_29.toInt := k_34
                  have k_35 : x12_29.toInt ≤ 8 := k_35
                  refine lv_aload_n hx hb dX9_leaf_90 rfl (lv_at hl 1 rfl) ?_
                  refine lv_iconst (v := 0) hx hb dX9_leaf_91 (by decide) ?_
                  refine va_put (D := (dC, dI)) (ci := 11) (v := .int (0 : Int32)) (ty := .int) (C := RX9) (T := TX9) (N := 38) hx hb hts hin9 tyX9 tyX9_ok nmX9 hown hK hP (rw_D hD) hS 0 rfl rfl 9 (by decide) (hts (.fieldLink RX9 271 "BlockLogModel" "tapeSize" "I") (by decide +kernel)) (fun _ h9 => h9) rfl (by decide +kernel) rfl rfl (Nat.le_of_ble_eq_true rfl) dX9_leaf_92 (fun H locs hP _ hS => ?_)
                  have hP : va_P (dC, dI) vwCl (rw_W o c kc (rU (rU (rU (rU (rU (rU (rU st 3 x3_29) 4 x4_29) 5 x5_29) 6 x6_29) 9 (0 : Int32)) 12 x12_29) 13 (0 : Int32)) lg (rU (rU ai 0 f0_29) 14 f14_17) al) H := hP
                  refine lv_aload_n hx hb dX9_leaf_95 rfl (lv_at hl 1 rfl) ?_
                  refine va_get (D := (dC, dI)) (ci := 11) (v := .int x6_29) (C := RX9) (T := TX9) (N := 38) hx hb hts hin9 hown hK hP 0 rfl rfl 6 (by decide) (hts (.fieldLink RX9 108 "BlockLogModel" "dark" "Z") (by decide +kernel)) (fun _ h9 => h9) rfl dX9_leaf_96 ?_
                  refine lv_if_eq (tgt := 107) hx hb dX9_leaf_99 (by decide) (fun c_36 => ?_) (fun c_36 => ?_)
                  · skip
                    have ic_36 := iv_eq c_36
                    refine lv_iload_n hx hb dX9_leaf_107 rfl (lv_at hl 0 rfl) ?_
                    exact W.iret hx hb hr (fun t ht hW => ⟨⟨_, _, rfl, rfl, x3_29, x4_29, x5_29, x6_29, (0 : Int32), x12_29, (0 : Int32), f0_29, f14_17, (by omega), (by omega), (by omega), (by omega), (by omega), (by omega), (by omega), (by omega), by rw [ht]; exact hP⟩, hS.F ht⟩) hS.2.2 dX9_leaf_108
                  · skip
                    have ic_36 := iv_ne c_36
                    refine lv_bipush (v := (-4)) hx hb dX9_leaf_102 (by decide) ?_
                    refine lv_goto (tgt := 108) hx hb dX9_leaf_104 (by decide) ?_
                    exact W.iret hx hb hr (fun t ht hW => ⟨⟨_, _, rfl, rfl, x3_29, x4_29, x5_29, x6_29, (0 : Int32), x12_29, (0 : Int32), f0_29, f14_17, (by omega), (by omega), (by omega), (by omega), (by omega), (by omega), (by omega), (by omega), by rw [ht]; exact hP⟩, hS.F ht⟩) hS.2.2 dX9_leaf_108
                · skip
                  have ic_26 := iv_eq c_26
                  refine lv_bipush (v := (-2)) hx hb dX9_leaf_76 (by decide) ?_
                  exact W.iret hx hb hr (fun t ht hW => ⟨⟨_, _, rfl, rfl, st 3, st 4, st 5, st 6, st 9, st 12, (0 : Int32), ai 0, f14_17, (by omega), (by omega), (by omega), (by omega), (by omega), (by omega), (by omega), (by omega), by rw [ht]; exact hP⟩, hS.F ht⟩) hS.2.2 dX9_leaf_78
            · skip
              have ic_16 := iv_nle c_16
              refine lv_bipush (v := (-3)) hx hb dX9_leaf_49 (by decide) ?_
              exact W.iret hx hb hr (fun t ht hW => ⟨⟨_, _, rfl, rfl, st 3, st 4, st 5, st 6, st 9, st 12, (0 : Int32), ai 0, ai 14, (by omega), (by omega), (by omega), (by omega), (by omega), (by omega), (by omega), (by omega), by rw [ht]; exact hP⟩, hS.F ht⟩) hS.2.2 dX9_leaf_51
          · skip
            have ic_12 := iv_nle c_12
            exfalso
            omega
        · skip
          have ic_11 := iv_eq c_11
          exfalso
          omega
    · skip
      have ic_1 := iv_eq c_1
      refine lv_iconst (v := 1) hx hb dX9_leaf_8 (by decide) ?_
      refine lv_goto (tgt := 30) hx hb dX9_leaf_9 (by decide) ?_
      refine va_put (D := (dC, dI)) (ci := 11) (v := .int (1 : Int32)) (ty := .int) (C := RX9) (T := TX9) (N := 38) hx hb hts hin9 tyX9 tyX9_ok nmX9 hown hK hP (rw_D hD) hS 0 rfl rfl 13 (by decide) (hts (.fieldLink RX9 91 "BlockLogModel" "thrown" "I") (by decide +kernel)) (fun _ h9 => h9) rfl (by decide +kernel) rfl rfl (Nat.le_of_ble_eq_true rfl) dX9_leaf_30 (fun H locs hP _ hS => ?_)
      have hP : va_P (dC, dI) vwCl (rw_W o c kc (rU st 13 (1 : Int32)) lg ai al) H := hP
      refine lv_aload_n hx hb dX9_leaf_33 rfl (lv_at hl 0 rfl) ?_
      refine va_get (D := (dC, dI)) (ci := 11) (v := .int (1 : Int32)) (C := RX9) (T := TX9) (N := 38) hx hb hts hin9 hown hK hP 0 rfl rfl 13 (by decide) (hts (.fieldLink RX9 91 "BlockLogModel" "thrown" "I") (by decide +kernel)) (fun _ h9 => h9) rfl dX9_leaf_34 ?_
      refine lv_if_le (tgt := 42) hx hb dX9_leaf_37 (by decide) (fun c_37 => ?_) (fun c_37 => ?_)
      · skip
        have ic_37 := iv_le c_37
        exfalso
        omega
      · skip
        have ic_37 := iv_nle c_37
        refine lv_iconst (v := 0) hx hb dX9_leaf_40 (by decide) ?_
        exact W.iret hx hb hr (fun t ht hW => ⟨⟨_, _, rfl, rfl, st 3, st 4, st 5, st 6, st 9, st 12, (1 : Int32), ai 0, ai 14, (by omega), (by omega), (by omega), (by omega), (by omega), (by omega), (by omega), (by omega), by rw [ht]; exact hP⟩, hS.F ht⟩) hS.2.2 dX9_leaf_41
  exact main s.heap [] hP hS
