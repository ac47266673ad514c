set_option maxHeartbeats 4000000 in
set_option maxRecDepth 100000 in
theorem v_X9_nameAll (l : Launch) (dC : Nat → ClassId) (dI : Nat → Nat → Nat) (o : Nat) (c : Nat → Nat) (kc : Nat → ClassId) (st : Nat → Int32) (lg : Nat → Int64) (ai : Nat → Nat → Int32) (al : Nat → Nat → Int64)  (sz : Nat) (hf7a : 0 ≤ (st 7).toInt) (hf7b : (st 7).toInt ≤ 1) (hf16a : 0 ≤ (st 16).toInt) (hf16b : (st 16).toInt ≤ 128) (hf22a : 0 ≤ (st 22).toInt) (hf22b : (st 22).toInt ≤ 1000000) (hf24a : 0 ≤ (st 24).toInt) (hf24b : (st 24).toInt ≤ 1) (hf26a : 0 ≤ (st 26).toInt) (hf26b : (st 26).toInt ≤ 2000000) (hf30a : 0 ≤ (st 30).toInt) (hf30b : (st 30).toInt ≤ 128) (hq0 : 0 ≤ (st 26).toInt - (st 22).toInt) (hq1 : (st 26).toInt - (st 22).toInt ≤ 128) (hR25 : aR (ai 25) 130 (0) 127) (hG : gOK (ai 0) (st 7) (st 16) (ai 19)) (hV : vOK (ai 0) (st 7) (st 16) (ai 25) ((st 26).toInt - (st 22).toInt)) (hBs : bOK (ai 0) (st 7) (st 16) (st 24)) : Met l yX9_nameAll wsX9_nameAll ({ frames := 5, cells := 0, slots := 0, locals := 116 }) (va_Pc [.ref o] (fun U => U.heap.size = sz ∧ va_P (dC, dI) vwCl (rw_W o c kc st lg ai al) U.heap ∧ va_K (dC, dI) vwCl (rw_T kc) U ∧ va_D (fun _ => True) (rw_W o c kc st lg ai al))) (va_Qv (fun (_ : Unit) => True) (fun _ t => ∃ (x30 : Int32) (g28 : Nat → Int64) (g29 : Nat → Int64), (0 ≤ x30.toInt) ∧ (x30.toInt ≤ 128) ∧ (nOK (ai 0) (st 7) g29 x30) ∧ va_P (dC, dI) vwCl (rw_W o c kc (rU st 30 x30) lg ai (rU (rU al 28 g28) 29 g29)) t.heap) (va_A (rw_W o c kc st lg ai al) sz)) 0 0 (va_A (rw_W o c kc st lg ai al) sz) := by
  refine Met.ofW (cc := cX9_nameAll) (maxL := 3) (ret := none) (by decide) rfl ?_
  intro p e s m args below meth cM s₁ B hml hv
  obtain ⟨rfl, hsz, hP, hK, hD0⟩ := hv
  have hx := B.exec
  have hb := B.bytes
  have hr := B.returns
  have hts := atoms_spec (ws := wsX9_nameAll) B.pre
  have hown : s.vm.findClass RX9 = some m.cls := findClass_of_methodNamed B.named
  subst hsz
  have hD := hD0.self (sz := s.heap.size)
  generalize hAe : va_A (rw_W o c kc st lg ai al) s.heap.size = A at hD ⊢
  have hA : ∀ q : Nat, s.heap.size ≤ q → A q := fun q h => by rw [← hAe]; exact Or.inr h
  have hS : va_S A s.heap s.heap [] := va_S.rf
  clear hAe hD0
  have hl := lv_entry ([.ref o]) (n := 3) (Nat.le_of_ble_eq_true rfl)
  rw [lg_entry_eq]
  generalize (lg_sl ([.ref o]) ++ List.replicate (3 - (lg_sl ([.ref o])).length) Slot.unset).toArray = ls at hl ⊢
  have hl : lv_has ls 3 [(0, .ref o)] := hl
  have z_0 : (0 : Int32).toInt = 0 := by decide
  have z_1 : (1 : Int32).toInt = 1 := by decide
  have z_2 : (2 : Int32).toInt = 2 := by decide
  have z_16 : (16 : Int32).toInt = 16 := by decide
  have hin9 : ∀ w ∈ u_ws RX9 TX9 38, w ∈ wsX9_nameAll := by decide +kernel
  have main : ∀ (H : Heap) (locs : List Loc), va_P (dC, dI) vwCl (rw_W o c kc st lg ai al) H → va_S A s.heap H locs → W p l e (headSpec wsX9_nameAll ({ frames := 5, cells := 0, slots := 0, locals := 116 })).room s m ([.ref o] : List Value).toArray below meth cM H locs 0 0 (MQ below (va_Qv (fun (_ : Unit) => True) (fun _ t => ∃ (x30 : Int32) (g28 : Nat → Int64) (g29 : Nat → Int64), (0 ≤ x30.toInt) ∧ (x30.toInt ≤ 128) ∧ (nOK (ai 0) (st 7) g29 x30) ∧ va_P (dC, dI) vwCl (rw_W o c kc (rU st 30 x30) lg ai (rU (rU al 28 g28) 29 g29)) t.heap) A) ([.ref o] : List Value).toArray s 0 0 A) (F0 m 0 ls []) := by
    intro H locs hP hS
    refine lv_aload_n hx hb dX9_nameAll_0 rfl (lv_at hl 0 rfl) ?_
    refine lv_iconst (v := 0) hx hb dX9_nameAll_1 (by decide) ?_
    refine va_put (D := (dC, dI)) (ci := 11) (v := .int (0 : Int32)) (ty := .int) (C := RX9) (T := TX9) (N := 38) hx hb hts hin9 tyX9 tyX9_ok nmX9 hown hK hP (rw_D hD) hS 0 rfl rfl 30 (by decide) (hts (.fieldLink RX9 241 "BlockLogModel" "named" "I") (by decide +kernel)) (fun _ h9 => h9) rfl (by decide +kernel) rfl rfl (Nat.le_of_ble_eq_true rfl) dX9_nameAll_2 (fun H locs hP _ hS => ?_)
    have hP : va_P (dC, dI) vwCl (rw_W o c kc (rU st 30 (0 : Int32)) lg ai al) H := hP
    refine lv_aload_n hx hb dX9_nameAll_5 rfl (lv_at hl 0 rfl) ?_
    refine va_get (D := (dC, dI)) (ci := 11) (v := .int (st 22)) (C := RX9) (T := TX9) (N := 38) hx hb hts hin9 hown hK hP 0 rfl rfl 22 (by decide) (hts (.fieldLink RX9 182 "BlockLogModel" "baseHeight" "I") (by decide +kernel)) (fun _ h9 => h9) rfl dX9_nameAll_6 ?_
    refine lv_istore_n (lv' := [(1, .int (st 22)), (0, .ref o)]) hx hb dX9_nameAll_9 rfl hl (by decide) rfl (fun ls hl => ?_)
    have loop10 : ∀ (n : Nat) (l1_10 : Int32) (s30_10 : Int32) (b28_10 : Nat → Int64) (b29_10 : Nat → Int64) (H : Heap) (locs : List Loc) (ls : Array Slot), ((st 22).toInt ≤ l1_10.toInt) → (l1_10.toInt ≤ (st 26).toInt + 1) → (0 ≤ s30_10.toInt) → (s30_10.toInt ≤ 128) → (nOK (ai 0) (st 7) b29_10 s30_10) → ((st 26).toInt + 1 - l1_10.toInt : Int).toNat < n → va_P (dC, dI) vwCl (rw_W o c kc (rU st 30 s30_10) lg ai (rU (rU al 28 b28_10) 29 b29_10)) H → va_S A s.heap H locs → lv_has ls 3 [(1, .int l1_10), (0, .ref o)] → W p l e (headSpec wsX9_nameAll ({ frames := 5, cells := 0, slots := 0, locals := 116 })).room s m ([.ref o] : List Value).toArray below meth cM H locs 0 0 (MQ below (va_Qv (fun (_ : Unit) => True) (fun _ t => ∃ (x30 : Int32) (g28 : Nat → Int64) (g29 : Nat → Int64), (0 ≤ x30.toInt) ∧ (x30.toInt ≤ 128) ∧ (nOK (ai 0) (st 7) g29 x30) ∧ va_P (dC, dI) vwCl (rw_W o c kc (rU st 30 x30) lg ai (rU (rU al 28 g28) 29 g29)) t.heap) A) ([.ref o] : List Value).toArray s 0 0 A) (F0 m 10 ls []) := by
      intro n
      induction n with
      | zero => intro l1_10 s30_10 b28_10 b29_10 H locs ls if0_10 if1_10 if2_10 if3_10 hN hm; exact absurd hm (Nat.not_lt_zero _)
      | succ n ih10 =>
        intro l1_10 s30_10 b28_10 b29_10 H locs ls if0_10 if1_10 if2_10 if3_10 hN hm10 hP hS hl
        refine lv_iload_n hx hb dX9_nameAll_10 rfl (lv_at hl 0 rfl) ?_
        refine lv_aload_n hx hb dX9_nameAll_11 rfl (lv_at hl 1 rfl) ?_
        refine va_get (D := (dC, dI)) (ci := 11) (v := .int (st 26)) (C := RX9) (T := TX9) (N := 38) hx hb hts hin9 hown hK hP 0 rfl rfl 26 (by decide) (hts (.fieldLink RX9 192 "BlockLogModel" "lastVersion" "I") (by decide +kernel)) (fun _ h9 => h9) rfl dX9_nameAll_12 ?_
        refine lv_icmp_gt (tgt := 53) hx hb dX9_nameAll_15 (by decide) (fun c_1 => ?_) (fun c_1 => ?_)
        · skip
          have ic_1 := iv_lt c_1
          refine lv_iconst (v := 0) hx hb dX9_nameAll_53 (by decide) ?_
          refine lv_istore_n (lv' := [(1, .int (0 : Int32)), (0, .ref o)]) hx hb dX9_nameAll_54 rfl hl (by decide) rfl (fun ls hl => ?_)
          have loop55 : ∀ (n : Nat) (l1_55 : Int32) (s30_55 : Int32) (b29_55 : Nat → Int64) (H : Heap) (locs : List Loc) (ls : Array Slot), (0 ≤ l1_55.toInt) → (l1_55.toInt ≤ (st 16).toInt) → (0 ≤ s30_55.toInt) → (s30_55.toInt ≤ 128) → (nOK (ai 0) (st 7) b29_55 s30_55) → ((st 16).toInt - l1_55.toInt : Int).toNat < n → va_P (dC, dI) vwCl (rw_W o c kc (rU st 30 s30_55) lg ai (rU (rU al 28 b28_10) 29 b29_55)) H → va_S A s.heap H locs → lv_has ls 3 [(1, .int l1_55), (0, .ref o)] → W p l e (headSpec wsX9_nameAll ({ frames := 5, cells := 0, slots := 0, locals := 116 })).room s m ([.ref o] : List Value).toArray below meth cM H locs 0 0 (MQ below (va_Qv (fun (_ : Unit) => True) (fun _ t => ∃ (x30 : Int32) (g28 : Nat → Int64) (g29 : Nat → Int64), (0 ≤ x30.toInt) ∧ (x30.toInt ≤ 128) ∧ (nOK (ai 0) (st 7) g29 x30) ∧ va_P (dC, dI) vwCl (rw_W o c kc (rU st 30 x30) lg ai (rU (rU al 28 g28) 29 g29)) t.heap) A) ([.ref o] : List Value).toArray s 0 0 A) (F0 m 55 ls []) := by
            intro n
            induction n with
            | zero => intro l1_55 s30_55 b29_55 H locs ls if0_55 if1_55 if2_55 if3_55 hN hm; exact absurd hm (Nat.not_lt_zero _)
            | succ n ih55 =>
              intro l1_55 s30_55 b29_55 H locs ls if0_55 if1_55 if2_55 if3_55 hN hm55 hP hS hl
              refine lv_iload_n hx hb dX9_nameAll_55 rfl (lv_at hl 0 rfl) ?_
              refine lv_aload_n hx hb dX9_nameAll_56 rfl (lv_at hl 1 rfl) ?_
              refine va_get (D := (dC, dI)) (ci := 11) (v := .int (st 16)) (C := RX9) (T := TX9) (N := 38) hx hb hts hin9 hown hK hP 0 rfl rfl 16 (by decide) (hts (.fieldLink RX9 167 "BlockLogModel" "many" "I") (by decide +kernel)) (fun _ h9 => h9) rfl dX9_nameAll_57 ?_
              refine lv_icmp_ge (tgt := 115) hx hb dX9_nameAll_60 (by decide) (fun c_2 => ?_) (fun c_2 => ?_)
              · skip
                have ic_2 := iv_le c_2
                exact W.vret hx hb hr (fun t ht hW => ⟨⟨(), rfl, trivial, s30_55, b28_10, b29_55, (by omega), (by omega), (by assumption), by rw [ht]; exact hP⟩, hS.F ht⟩) hS.2.2 dX9_nameAll_115
              · skip
                have ic_2 := iv_nle c_2
                refine lv_aload_n hx hb dX9_nameAll_63 rfl (lv_at hl 1 rfl) ?_
                refine va_get (D := (dC, dI)) (ci := 11) (v := .ref (c 19)) (C := RX9) (T := TX9) (N := 38) hx hb hts hin9 hown hK hP 0 rfl rfl 19 (by decide) (hts (.fieldLink RX9 30 "BlockLogModel" "isGroup" "[Z") (by decide +kernel)) (fun _ h9 => h9) rfl dX9_nameAll_64 ?_
                refine lv_iload_n hx hb dX9_nameAll_67 rfl (lv_at hl 0 rfl) ?_
                refine va_zald (f := ai 19) hx hb hK hP 7 6 rfl rfl (iv_in (i := l1_55) (by omega) (by omega)) dX9_nameAll_68 ?_
                refine lv_topi (fun v_3 ev_3 => ?_)
                have hX_isGroup := ev_3
                clear ev_3
                refine lv_if_eq (tgt := 109) hx hb dX9_nameAll_69 (by decide) (fun c_4 => ?_) (fun c_4 => ?_)
                · skip
                  have ic_4 := iv_eq c_4
                  obtain ⟨x_5, ex_5⟩ : ∃ z : Int32, z = l1_55 + (1) := ⟨_, rfl⟩
                  refine lv_iinc (v := x_5) (lv' := [(1, .int x_5), (0, .ref o)]) hx hb dX9_nameAll_109 hl (k := 0) rfl (by rw [ex_5]; rfl) (by decide) rfl (fun ls hl => ?_)
                  have rg1 := iv_rng l1_55
                  have hx_5 : x_5.toInt = l1_55.toInt + (1) := by rw [ex_5]; exact (iv_add (by omega) (by omega)).trans (by omega)
                  clear ex_5
                  refine lv_goto (tgt := 55) hx hb dX9_nameAll_112 (by decide) ?_
                  exact ih55 x_5 s30_55 b29_55 _ _ _ (by omega) (by omega) (by omega) (by omega) (by assumption) (by omega) hP hS (lv_sub hl [0, 1] rfl)
                · skip
                  have ic_4 := iv_ne c_4
                  have hok : okB (ai 0) (st 7) (st 16) l1_55 := gOK_use hG hX_isGroup (by omega) (by omega) (by omega)
                  have k_6 : 0 ≤ l1_55.toInt := hok.1
                  have k_7 : 0 ≤ (rB (ai 0) (st 7) l1_55).toInt := hok.2.1
                  have k_8 : (rB (ai 0) (st 7) l1_55).toInt ≤ 16 := hok.2.2.1
                  have k_9 : l1_55.toInt + (rB (ai 0) (st 7) l1_55).toInt < (st 16).toInt := hok.2.2.2.1
                  refine lv_aload_n hx hb dX9_nameAll_72 rfl (lv_at hl 1 rfl) ?_
                  refine lv_iload_n hx hb dX9_nameAll_73 rfl (lv_at hl 0 rfl) ?_
                  refine vp_callSi (va_Run.run (va_runV (As := [.int l1_55]) (rest := []) ⟨hx, hb, hml, hown, hts⟩ (v_X9_kindOf l dC dI o c kc (rU st 30 s30_55) lg ai (rU (rU al 28 b28_10) 29 b29_55) l1_55 (show 0 ≤ (st 7).toInt by omega) (show (st 7).toInt ≤ 1 by omega) (by omega) (by omega)) (cwV 1 hts gX9_nameAll_X9_kindOf rfl rfl rfl (by decide +kernel) ⟨Nat.le_of_ble_eq_true rfl, Nat.le_of_ble_eq_true rfl⟩) ⟨fun a U g mk q => by obtain ⟨q0, qP, qK⟩ := q; exact ⟨q0, qP, va_K.moved (u := U) (U := U.calling g mk a) (Vm.Alike.refl U.vm) qK⟩, va_recv hK hP (ci := 11) (q := (RX9, TX9, 38)) rfl (q0 := 0) rfl, fun U hU hW => ⟨rfl, by rw [hU]; exact hP, va_K.moved hW.alike hK⟩⟩ rfl rfl hl.1 rfl (lv_room (Nat.le_of_ble_eq_true rfl)) dX9_nameAll_74 ⟨Nat.le_of_ble_eq_true rfl, Nat.le_of_ble_eq_true rfl⟩)) (fun r_10 er_10 => ?_)
                  obtain ⟨k_11, k_12, k_13⟩ := er_10
                  have k_11 : r_10.toInt = (rK (ai 0) (st 7) l1_55).toInt := k_11
                  refine lv_iconst (v := 2) hx hb dX9_nameAll_77 (by decide) ?_
                  refine lv_icmp_ne (tgt := 109) hx hb dX9_nameAll_78 (by decide) (fun c_14 => ?_) (fun c_14 => ?_)
                  · skip
                    have ic_14 := iv_ne c_14
                    obtain ⟨x_15, ex_15⟩ : ∃ z : Int32, z = l1_55 + (1) := ⟨_, rfl⟩
                    refine lv_iinc (v := x_15) (lv' := [(1, .int x_15), (0, .ref o)]) hx hb dX9_nameAll_109 hl (k := 0) rfl (by rw [ex_15]; rfl) (by decide) rfl (fun ls hl => ?_)
                    have rg2 := iv_rng l1_55
                    have hx_15 : x_15.toInt = l1_55.toInt + (1) := by rw [ex_15]; exact (iv_add (by omega) (by omega)).trans (by omega)
                    clear ex_15
                    refine lv_goto (tgt := 55) hx hb dX9_nameAll_112 (by decide) ?_
                    exact ih55 x_15 s30_55 b29_55 _ _ _ (by omega) (by omega) (by omega) (by omega) (by assumption) (by omega) hP hS (lv_sub hl [0, 1] rfl)
                  · skip
                    have ic_14 := iv_eq c_14
                    refine lv_iconst (v := 1) hx hb dX9_nameAll_81 (by decide) ?_
                    refine lv_istore_n (lv' := [(2, .int (1 : Int32)), (1, .int l1_55), (0, .ref o)]) hx hb dX9_nameAll_82 rfl hl (by decide) rfl (fun ls hl => ?_)
                    have loop83 : ∀ (n : Nat) (l2_83 : Int32) (s30_83 : Int32) (b29_83 : Nat → Int64) (H : Heap) (locs : List Loc) (ls : Array Slot), (1 ≤ l2_83.toInt) → (l2_83.toInt ≤ (rB (ai 0) (st 7) l1_55).toInt + 1) → (0 ≤ s30_83.toInt) → (s30_83.toInt ≤ 128) → (nOK (ai 0) (st 7) b29_83 s30_83) → ((rB (ai 0) (st 7) l1_55).toInt + 1 - l2_83.toInt : Int).toNat < n → va_P (dC, dI) vwCl (rw_W o c kc (rU st 30 s30_83) lg ai (rU (rU al 28 b28_10) 29 b29_83)) H → va_S A s.heap H locs → lv_has ls 3 [(2, .int l2_83), (1, .int l1_55), (0, .ref o)] → W p l e (headSpec wsX9_nameAll ({ frames := 5, cells := 0, slots := 0, locals := 116 })).room s m ([.ref o] : List Value).toArray below meth cM H locs 0 0 (MQ below (va_Qv (fun (_ : Unit) => True) (fun _ t => ∃ (x30 : Int32) (g28 : Nat → Int64) (g29 : Nat → Int64), (0 ≤ x30.toInt) ∧ (x30.toInt ≤ 128) ∧ (nOK (ai 0) (st 7) g29 x30) ∧ va_P (dC, dI) vwCl (rw_W o c kc (rU st 30 x30) lg ai (rU (rU al 28 g28) 29 g29)) t.heap) A) ([.ref o] : List Value).toArray s 0 0 A) (F0 m 83 ls []) := by
                      intro n
                      induction n with
                      | zero => intro l2_83 s30_83 b29_83 H locs ls if0_83 if1_83 if2_83 if3_83 hN hm; exact absurd hm (Nat.not_lt_zero _)
                      | succ n ih83 =>
                        intro l2_83 s30_83 b29_83 H locs ls if0_83 if1_83 if2_83 if3_83 hN hm83 hP hS hl
                        refine lv_iload_n hx hb dX9_nameAll_83 rfl (lv_at hl 0 rfl) ?_
                        refine lv_aload_n hx hb dX9_nameAll_84 rfl (lv_at hl 2 rfl) ?_
                        refine lv_iload_n hx hb dX9_nameAll_85 rfl (lv_at hl 1 rfl) ?_
                        refine vp_callSi (va_Run.run (va_runV (As := [.int l1_55]) (rest := [.int l2_83]) ⟨hx, hb, hml, hown, hts⟩ (v_X9_bOf l dC dI o c kc (rU st 30 s30_83) lg ai (rU (rU al 28 b28_10) 29 b29_83) l1_55 (show 0 ≤ (st 7).toInt by omega) (show (st 7).toInt ≤ 1 by omega) (by omega) (by omega)) (cwV 1 hts gX9_nameAll_X9_bOf rfl rfl rfl (by decide +kernel) ⟨Nat.le_of_ble_eq_true rfl, Nat.le_of_ble_eq_true rfl⟩) ⟨fun a U g mk q => by obtain ⟨q0, qP, qK⟩ := q; exact ⟨q0, qP, va_K.moved (u := U) (U := U.calling g mk a) (Vm.Alike.refl U.vm) qK⟩, va_recv hK hP (ci := 11) (q := (RX9, TX9, 38)) rfl (q0 := 0) rfl, fun U hU hW => ⟨rfl, by rw [hU]; exact hP, va_K.moved hW.alike hK⟩⟩ rfl rfl hl.1 rfl (lv_room (Nat.le_of_ble_eq_true rfl)) dX9_nameAll_86 ⟨Nat.le_of_ble_eq_true rfl, Nat.le_of_ble_eq_true rfl⟩)) (fun r_16 er_16 => ?_)
                        have k_17 := er_16
                        have k_17 : r_16.toInt = (rB (ai 0) (st 7) l1_55).toInt := k_17
                        refine lv_icmp_gt (tgt := 109) hx hb dX9_nameAll_89 (by decide) (fun c_18 => ?_) (fun c_18 => ?_)
                        · skip
                          have ic_18 := iv_lt c_18
                          obtain ⟨x_19, ex_19⟩ : ∃ z : Int32, z = l1_55 + (1) := ⟨_, rfl⟩
                          refine lv_iinc (v := x_19) (lv' := [(1, .int x_19), (2, .int l2_83), (0, .ref o)]) hx hb dX9_nameAll_109 hl (k := 1) rfl (by rw [ex_19]; rfl) (by decide) rfl (fun ls hl => ?_)
                          have rg3 := iv_rng l1_55
                          have hx_19 : x_19.toInt = l1_55.toInt + (1) := by rw [ex_19]; exact (iv_add (by omega) (by omega)).trans (by omega)
                          clear ex_19
                          refine lv_goto (tgt := 55) hx hb dX9_nameAll_112 (by decide) ?_
                          exact ih55 x_19 s30_83 b29_83 _ _ _ (by omega) (by omega) (by omega) (by omega) (by assumption) (by omega) hP hS (lv_sub hl [0, 2] rfl)
                        · skip
                          have ic_18 := iv_nlt c_18
                          refine lv_aload_n hx hb dX9_nameAll_92 rfl (lv_at hl 2 rfl) ?_
                          refine lv_aload_n hx hb dX9_nameAll_93 rfl (lv_at hl 2 rfl) ?_
                          refine lv_iload_n hx hb dX9_nameAll_94 rfl (lv_at hl 1 rfl) ?_
                          refine lv_iload_n hx hb dX9_nameAll_95 rfl (lv_at hl 0 rfl) ?_
                          refine lv_iadd hx hb dX9_nameAll_96 ?_
                          refine lv_topi (fun v_20 ev_20 => ?_)
                          have rg4 := iv_rng l1_55
                          have rg5 := iv_rng l2_83
                          have hv_20 : v_20.toInt = l1_55.toInt + l2_83.toInt := by rw [ev_20]; exact (iv_add (by omega) (by omega)).trans (by omega)
                          clear ev_20
                          refine vp_callSl (va_Run.run (va_runV (As := [.int v_20]) (rest := [.ref o]) ⟨hx, hb, hml, hown, hts⟩ (v_X9_cOf l dC dI o c kc (rU st 30 s30_83) lg ai (rU (rU al 28 b28_10) 29 b29_83) v_20 (show 0 ≤ (st 7).toInt by omega) (show (st 7).toInt ≤ 1 by omega) (by omega) (by omega)) (cwV 1 hts gX9_nameAll_X9_cOf rfl rfl rfl (by decide +kernel) ⟨Nat.le_of_ble_eq_true rfl, Nat.le_of_ble_eq_true rfl⟩) ⟨fun a U g mk q => by obtain ⟨q0, qP, qK⟩ := q; exact ⟨q0, qP, va_K.moved (u := U) (U := U.calling g mk a) (Vm.Alike.refl U.vm) qK⟩, va_recv hK hP (ci := 11) (q := (RX9, TX9, 38)) rfl (q0 := 0) rfl, fun U hU hW => ⟨rfl, by rw [hU]; exact hP, va_K.moved hW.alike hK⟩⟩ rfl rfl hl.1 rfl (lv_room (Nat.le_of_ble_eq_true rfl)) dX9_nameAll_97 ⟨Nat.le_of_ble_eq_true rfl, Nat.le_of_ble_eq_true rfl⟩)) (fun r_21 er_21 => ?_)
                          have hc := er_21
                          have hc : r_21 = rC (ai 0) (st 7) v_20 := hc
                          have hFc := vfree (rw_D hD : va_D A (rw_W o c kc (rU st 30 s30_83) lg ai (rU (rU al 28 b28_10) 29 b29_83))) hS hA
                          refine va_callv (va_runV (As := [.long r_21]) (rest := []) ⟨hx, hb, hml, hown, hts⟩ (v_X9_name l dC dI o c kc (rU st 30 s30_83) lg ai (rU (rU al 28 b28_10) 29 b29_83) r_21 _ (show 0 ≤ s30_83.toInt by omega) (show s30_83.toInt ≤ 128 by omega) (show nOK (ai 0) (st 7) b29_83 s30_83 from (by assumption)) (show inC (ai 0) (st 7) r_21 from (inC_of hc (by omega) (by omega)))) (cwV 1 hts gX9_nameAll_X9_name rfl rfl rfl (by decide +kernel) ⟨Nat.le_of_ble_eq_true rfl, Nat.le_of_ble_eq_true rfl⟩) ⟨fun a U g mk q => by obtain ⟨q0, q1, qP, qK, qD⟩ := q; exact ⟨q0, q1, qP, va_K.moved (u := U) (U := U.calling g mk a) (Vm.Alike.refl U.vm) qK, qD⟩, va_recv hK hP (ci := 11) (q := (RX9, TX9, 38)) rfl (q0 := 0) rfl, fun U hU hW => ⟨rfl, by rw [hU], by rw [hU]; exact hP, va_K.moved hW.alike hK, rw_D (hD.weaken (fun _ _ _ _ => trivial))⟩⟩ rfl rfl hl.1 rfl (lv_room (Nat.le_of_ble_eq_true rfl)) dX9_nameAll_100 ⟨Nat.le_of_ble_eq_true rfl, Nat.le_of_ble_eq_true rfl⟩) hS (fun q _ h => hFc q h) hFc (fun ur_22 t H1 locs ht hvm er_22 hB hz1 hk1 hS => ?_)
                          obtain ⟨x30_22, g29_22, k_23, k_24, hN, hP1⟩ := hB
                          rw [ht] at hP1
                          clear hFc hz1 hk1 hvm hP
                          subst ht
                          have hP := hP1
                          clear hP1
                          generalize t.heap = H at hP hS ⊢
                          have hP : va_P (dC, dI) vwCl (rw_W o c kc (rU st 30 x30_22) lg ai (rU (rU al 28 b28_10) 29 g29_22)) H := hP
                          have k_23 : 0 ≤ x30_22.toInt := k_23
                          have k_24 : x30_22.toInt ≤ 128 := k_24
                          have hN : nOK (ai 0) (st 7) g29_22 x30_22 := hN
                          obtain ⟨x_25, ex_25⟩ : ∃ z : Int32, z = l2_83 + (1) := ⟨_, rfl⟩
                          refine lv_iinc (v := x_25) (lv' := [(2, .int x_25), (1, .int l1_55), (0, .ref o)]) hx hb dX9_nameAll_103 hl (k := 0) rfl (by rw [ex_25]; rfl) (by decide) rfl (fun ls hl => ?_)
                          have hx_25 : x_25.toInt = l2_83.toInt + (1) := by rw [ex_25]; exact (iv_add (by omega) (by omega)).trans (by omega)
                          clear ex_25
                          refine lv_goto (tgt := 83) hx hb dX9_nameAll_106 (by decide) ?_
                          exact ih83 x_25 x30_22 g29_22 _ _ _ (by omega) (by omega) (by omega) (by omega) (by assumption) (by omega) hP hS (lv_sub hl [0, 1, 2] rfl)
                    exact loop83 (((rB (ai 0) (st 7) l1_55).toInt + 1 - 1 : Int).toNat + 1) (1 : Int32) s30_55 b29_55 _ _ _ (by omega) (by omega) (by omega) (by omega) (by assumption) (by omega) hP hS (lv_sub hl [0, 1, 2] rfl)
          exact loop55 (((st 16).toInt - 0 : Int).toNat + 1) (0 : Int32) s30_10 b29_10 _ _ _ (by omega) (by omega) (by omega) (by omega) (by assumption) (by omega) hP hS (lv_sub hl [0, 1] rfl)
        · skip
          have ic_1 := iv_nlt c_1
          refine lv_aload_n hx hb dX9_nameAll_18 rfl (lv_at hl 1 rfl) ?_
          refine lv_iload_n hx hb dX9_nameAll_19 rfl (lv_at hl 0 rfl) ?_
          have hFc := vfree (rw_D hD : va_D A (rw_W o c kc (rU st 30 s30_10) lg ai (rU (rU al 28 b28_10) 29 b29_10))) hS hA
          refine va_callv (va_runV (As := [.int l1_10]) (rest := []) ⟨hx, hb, hml, hown, hts⟩ (v_X9_versionState l dC dI o c kc (rU st 30 s30_10) lg ai (rU (rU al 28 b28_10) 29 b29_10) l1_10 _ (show 0 ≤ (st 7).toInt by omega) (show (st 7).toInt ≤ 1 by omega) (show 0 ≤ (st 16).toInt by omega) (show (st 16).toInt ≤ 128 by omega) (show 0 ≤ (st 22).toInt by omega) (show (st 22).toInt ≤ 1000000 by omega) (show 0 ≤ (st 24).toInt by omega) (show (st 24).toInt ≤ 1 by omega) (show 0 ≤ (st 26).toInt by omega) (show (st 26).toInt ≤ 2000000 by omega) (show (st 22).toInt ≤ l1_10.toInt by omega) (show l1_10.toInt - (st 22).toInt ≤ 128 by omega) (show l1_10.toInt ≤ (st 26).toInt by omega) (show aR (ai 25) 130 (0) 127 from hR25) (show vOK (ai 0) (st 7) (st 16) (ai 25) ((st 26).toInt - (st 22).toInt) from (by assumption)) (show bOK (ai 0) (st 7) (st 16) (st 24) from (by assumption))) (cwV 1 hts gX9_nameAll_X9_versionState rfl rfl rfl (by decide +kernel) ⟨Nat.le_of_ble_eq_true rfl, Nat.le_of_ble_eq_true rfl⟩) ⟨fun a U g mk q => by obtain ⟨q0, q1, qP, qK, qD⟩ := q; exact ⟨q0, q1, qP, va_K.moved (u := U) (U := U.calling g mk a) (Vm.Alike.refl U.vm) qK, qD⟩, va_recv hK hP (ci := 11) (q := (RX9, TX9, 38)) rfl (q0 := 0) rfl, fun U hU hW => ⟨rfl, by rw [hU], by rw [hU]; exact hP, va_K.moved hW.alike hK, rw_D (hD.weaken (fun _ _ _ _ => trivial))⟩⟩ rfl rfl hl.1 rfl (lv_room (Nat.le_of_ble_eq_true rfl)) dX9_nameAll_20 ⟨Nat.le_of_ble_eq_true rfl, Nat.le_of_ble_eq_true rfl⟩) hS (fun q _ h => hFc q h) hFc (fun ur_26 t H1 locs ht hvm er_26 hB hz1 hk1 hS => ?_)
          obtain ⟨g28_26, hSt, hP1⟩ := hB
          rw [ht] at hP1
          clear hFc hz1 hk1 hvm hP
          subst ht
          have hP := hP1
          clear hP1
          generalize t.heap = H at hP hS ⊢
          have hP : va_P (dC, dI) vwCl (rw_W o c kc (rU st 30 s30_10) lg ai (rU (rU al 28 g28_26) 29 b29_10)) H := hP
          have hSt : sOK (ai 0) (st 7) g28_26 := hSt
          refine lv_iconst (v := 0) hx hb dX9_nameAll_23 (by decide) ?_
          refine lv_istore_n (lv' := [(2, .int (0 : Int32)), (1, .int l1_10), (0, .ref o)]) hx hb dX9_nameAll_24 rfl hl (by decide) rfl (fun ls hl => ?_)
          have loop25 : ∀ (n : Nat) (l2_25 : Int32) (s30_25 : Int32) (b29_25 : Nat → Int64) (H : Heap) (locs : List Loc) (ls : Array Slot), (0 ≤ l2_25.toInt) → (l2_25.toInt ≤ 16) → (0 ≤ s30_25.toInt) → (s30_25.toInt ≤ 128) → (nOK (ai 0) (st 7) b29_25 s30_25) → (16 - l2_25.toInt : Int).toNat < n → va_P (dC, dI) vwCl (rw_W o c kc (rU st 30 s30_25) lg ai (rU (rU al 28 g28_26) 29 b29_25)) H → va_S A s.heap H locs → lv_has ls 3 [(2, .int l2_25), (1, .int l1_10), (0, .ref o)] → W p l e (headSpec wsX9_nameAll ({ frames := 5, cells := 0, slots := 0, locals := 116 })).room s m ([.ref o] : List Value).toArray below meth cM H locs 0 0 (MQ below (va_Qv (fun (_ : Unit) => True) (fun _ t => ∃ (x30 : Int32) (g28 : Nat → Int64) (g29 : Nat → Int64), (0 ≤ x30.toInt) ∧ (x30.toInt ≤ 128) ∧ (nOK (ai 0) (st 7) g29 x30) ∧ va_P (dC, dI) vwCl (rw_W o c kc (rU st 30 x30) lg ai (rU (rU al 28 g28) 29 g29)) t.heap) A) ([.ref o] : List Value).toArray s 0 0 A) (F0 m 25 ls []) := by
            intro n
            induction n with
            | zero => intro l2_25 s30_25 b29_25 H locs ls if0_25 if1_25 if2_25 if3_25 hN hm; exact absurd hm (Nat.not_lt_zero _)
            | succ n ih25 =>
              intro l2_25 s30_25 b29_25 H locs ls if0_25 if1_25 if2_25 if3_25 hN hm25 hP hS hl
              refine lv_iload_n hx hb dX9_nameAll_25 rfl (lv_at hl 0 rfl) ?_
              refine lv_bipush (v := 16) hx hb dX9_nameAll_26 (by decide) ?_
              refine lv_icmp_ge (tgt := 47) hx hb dX9_nameAll_28 (by decide) (fun c_27 => ?_) (fun c_27 => ?_)
              · skip
                have ic_27 := iv_le c_27
                obtain ⟨x_28, ex_28⟩ : ∃ z : Int32, z = l1_10 + (1) := ⟨_, rfl⟩
                refine lv_iinc (v := x_28) (lv' := [(1, .int x_28), (2, .int l2_25), (0, .ref o)]) hx hb dX9_nameAll_47 hl (k := 1) rfl (by rw [ex_28]; rfl) (by decide) rfl (fun ls hl => ?_)
                have rg6 := iv_rng l1_10
                have hx_28 : x_28.toInt = l1_10.toInt + (1) := by rw [ex_28]; exact (iv_add (by omega) (by omega)).trans (by omega)
                clear ex_28
                refine lv_goto (tgt := 10) hx hb dX9_nameAll_50 (by decide) ?_
                exact ih10 x_28 s30_25 g28_26 b29_25 _ _ _ (by omega) (by omega) (by omega) (by omega) (by assumption) (by omega) hP hS (lv_sub hl [0, 2] rfl)
              · skip
                have ic_27 := iv_nle c_27
                refine lv_aload_n hx hb dX9_nameAll_31 rfl (lv_at hl 2 rfl) ?_
                refine lv_aload_n hx hb dX9_nameAll_32 rfl (lv_at hl 2 rfl) ?_
                refine va_get (D := (dC, dI)) (ci := 11) (v := .ref (c 28)) (C := RX9) (T := TX9) (N := 38) hx hb hts hin9 hown hK hP 0 rfl rfl 28 (by decide) (hts (.fieldLink RX9 40 "BlockLogModel" "state" "[J") (by decide +kernel)) (fun _ h9 => h9) rfl dX9_nameAll_33 ?_
                refine lv_iload_n hx hb dX9_nameAll_36 rfl (lv_at hl 0 rfl) ?_
                refine va_lald (f := g28_26) hx hb hK hP 10 9 rfl rfl (iv_in (i := l2_25) (by omega) (by omega)) dX9_nameAll_37 ?_
                refine lv_topl (fun w_29 ew_29 => ?_)
                have hX_state := ew_29
                clear ew_29
                have hFc := vfree (rw_D hD : va_D A (rw_W o c kc (rU st 30 s30_25) lg ai (rU (rU al 28 g28_26) 29 b29_25))) hS hA
                refine va_callv (va_runV (As := [.long w_29]) (rest := []) ⟨hx, hb, hml, hown, hts⟩ (v_X9_name l dC dI o c kc (rU st 30 s30_25) lg ai (rU (rU al 28 g28_26) 29 b29_25) w_29 _ (show 0 ≤ s30_25.toInt by omega) (show s30_25.toInt ≤ 128 by omega) (show nOK (ai 0) (st 7) b29_25 s30_25 from (by assumption)) (show inC (ai 0) (st 7) w_29 from (sOK_get hSt hX_state (by omega) (by omega)))) (cwV 1 hts gX9_nameAll_X9_name rfl rfl rfl (by decide +kernel) ⟨Nat.le_of_ble_eq_true rfl, Nat.le_of_ble_eq_true rfl⟩) ⟨fun a U g mk q => by obtain ⟨q0, q1, qP, qK, qD⟩ := q; exact ⟨q0, q1, qP, va_K.moved (u := U) (U := U.calling g mk a) (Vm.Alike.refl U.vm) qK, qD⟩, va_recv hK hP (ci := 11) (q := (RX9, TX9, 38)) rfl (q0 := 0) rfl, fun U hU hW => ⟨rfl, by rw [hU], by rw [hU]; exact hP, va_K.moved hW.alike hK, rw_D (hD.weaken (fun _ _ _ _ => trivial))⟩⟩ rfl rfl hl.1 rfl (lv_room (Nat.le_of_ble_eq_true rfl)) dX9_nameAll_38 ⟨Nat.le_of_ble_eq_true rfl, Nat.le_of_ble_eq_true rfl⟩) hS (fun q _ h => hFc q h) hFc (fun ur_30 t H1 locs ht hvm er_30 hB hz1 hk1 hS => ?_)
                obtain ⟨x30_30, g29_30, k_31, k_32, hN, hP1⟩ := hB
                rw [ht] at hP1
                clear hFc hz1 hk1 hvm hP
                subst ht
                have hP := hP1
                clear hP1
                generalize t.heap = H at hP hS ⊢
                have hP : va_P (dC, dI) vwCl (rw_W o c kc (rU st 30 x30_30) lg ai (rU (rU al 28 g28_26) 29 g29_30)) H := hP
                have k_31 : 0 ≤ x30_30.toInt := k_31
                have k_32 : x30_30.toInt ≤ 128 := k_32
                have hN : nOK (ai 0) (st 7) g29_30 x30_30 := hN
                obtain ⟨x_33, ex_33⟩ : ∃ z : Int32, z = l2_25 + (1) := ⟨_, rfl⟩
                refine lv_iinc (v := x_33) (lv' := [(2, .int x_33), (1, .int l1_10), (0, .ref o)]) hx hb dX9_nameAll_41 hl (k := 0) rfl (by rw [ex_33]; rfl) (by decide) rfl (fun ls hl => ?_)
                have rg7 := iv_rng l2_25
                have hx_33 : x_33.toInt = l2_25.toInt + (1) := by rw [ex_33]; exact (iv_add (by omega) (by omega)).trans (by omega)
                clear ex_33
                refine lv_goto (tgt := 25) hx hb dX9_nameAll_44 (by decide) ?_
                exact ih25 x_33 x30_30 g29_30 _ _ _ (by omega) (by omega) (by omega) (by omega) (by assumption) (by omega) hP hS (lv_sub hl [0, 1, 2] rfl)
          exact loop25 ((16 - 0 : Int).toNat + 1) (0 : Int32) s30_10 b29_10 _ _ _ (by omega) (by omega) (by omega) (by omega) (by assumption) (by omega) hP hS (lv_sub hl [0, 1, 2] rfl)
    exact loop10 (((st 26).toInt + 1 - (st 22).toInt : Int).toNat + 1) (st 22) (0 : Int32) (al 28) (al 29) _ _ _ (by omega) (by omega) (by omega) (by omega) (nOK_0 (by omega)) (by omega) hP hS (lv_sub hl [0, 1] rfl)
  exact main s.heap [] hP hS

set_option maxHeartbeats 4000000 in
set_option maxRecDepth 100000 in
theorem v_X9_isKeptBlock (l : Launch) (dC : Nat → ClassId) (dI : Nat → Nat → Nat) (o : Nat) (c : Nat → Nat) (kc : Nat → ClassId) (st : Nat → Int32) (lg : Nat → Int64) (ai : Nat → Nat → Int32) (al : Nat → Nat → Int64) (p0 : Int64) (hf7a : 0 ≤ (st 7).toInt) (hf7b : (st 7).toInt ≤ 1) (hf32a : 0 ≤ (st 32).toInt) (hf32b : (st 32).toInt ≤ 128) (hR31 : aR (ai 31) 128 (0) 127) : Met l yX9_isKeptBlock wsX9_isKeptBlock ({ frames := 2, cells := 0, slots := 0, locals := 43 }) (va_Pc [.ref o, .long p0] (fun U => va_P (dC, dI) vwCl (rw_W o c kc st lg ai al) U.heap ∧ va_K (dC, dI) vwCl (rw_T kc) U)) (vp_Si (fun r => (0 ≤ r.toInt) ∧ (r.toInt ≤ 1))) 0 0 (fun _ => False) := by
  refine Met.ofW (cc := cX9_isKeptBlock) (maxL := 4) (ret := (some .boolean)) (by decide) rfl ?_
  intro p e s m args below meth cM s₁ B hml hv
  obtain ⟨rfl, hP, hK⟩ := hv
  have hx := B.exec
  have hb := B.bytes
  have hr := B.returns
  have hts := atoms_spec (ws := wsX9_isKeptBlock) B.pre
  have hown : s.vm.findClass RX9 = some m.cls := findClass_of_methodNamed B.named
  have hl := lv_entry ([.ref o, .long p0]) (n := 4) (Nat.le_of_ble_eq_true rfl)
  rw [lg_entry_eq]
  generalize (lg_sl ([.ref o, .long p0]) ++ List.replicate (4 - (lg_sl ([.ref o, .long p0])).length) Slot.unset).toArray = ls at hl ⊢
  have hl : lv_has ls 4 [(0, .ref o), (1, .long p0)] := hl
  have z_0 : (0 : Int32).toInt = 0 := by decide
  have z_1 : (1 : Int32).toInt = 1 := by decide
  have z_2 : (2 : Int32).toInt = 2 := by decide
  have hin9 : ∀ w ∈ u_ws RX9 TX9 38, w ∈ wsX9_isKeptBlock := by decide +kernel
  refine lv_iconst (v := 0) hx hb dX9_isKeptBlock_0 (by decide) ?_
  refine lv_istore_n (lv' := [(3, .int (0 : Int32)), (0, .ref o), (1, .long p0)]) hx hb dX9_isKeptBlock_1 rfl hl (by decide) rfl (fun ls hl => ?_)
  have loop2 : ∀ (n : Nat) (l3_2 : Int32) (ls : Array Slot), (0 ≤ l3_2.toInt) → (l3_2.toInt ≤ (st 32).toInt) → ((st 32).toInt - l3_2.toInt : Int).toNat < n → lv_has ls 4 [(3, .int l3_2), (0, .ref o), (1, .long p0)] → W p l e (headSpec wsX9_isKeptBlock ({ frames := 2, cells := 0, slots := 0, locals := 43 })).room s m ([.ref o, .long p0] : List Value).toArray below meth cM s.heap [] 0 0 (MQ below (vp_Si (fun r => (0 ≤ r.toInt) ∧ (r.toInt ≤ 1))) ([.ref o, .long p0] : List Value).toArray s 0 0 (fun _ => False)) (F0 m 2 ls []) := by
    intro n
    induction n with
    | zero => intro l3_2 ls if0_2 if1_2 hm; exact absurd hm (Nat.not_lt_zero _)
    | succ n ih2 =>
      intro l3_2 ls if0_2 if1_2 hm2 hl
      refine lv_iload_n hx hb dX9_isKeptBlock_2 rfl (lv_at hl 0 rfl) ?_
      refine lv_aload_n hx hb dX9_isKeptBlock_3 rfl (lv_at hl 1 rfl) ?_
      refine va_get (D := (dC, dI)) (ci := 11) (v := .int (st 32)) (C := RX9) (T := TX9) (N := 38) hx hb hts hin9 hown hK hP 0 rfl rfl 32 (by decide) (hts (.fieldLink RX9 328 "BlockLogModel" "kept" "I") (by decide +kernel)) (fun _ h9 => h9) rfl dX9_isKeptBlock_4 ?_
      refine lv_icmp_ge (tgt := 48) hx hb dX9_isKeptBlock_7 (by decide) (fun c_1 => ?_) (fun c_1 => ?_)
      · skip
        have ic_1 := iv_le c_1
        refine lv_iconst (v := 0) hx hb dX9_isKeptBlock_48 (by decide) ?_
        exact W.zret hx hb hr rfl (fun t ht hW => ⟨_, rfl, ⟨(by omega), (by omega)⟩, ht⟩) (fun q h => by cases h) dX9_isKeptBlock_49
      · skip
        have ic_1 := iv_nle c_1
        refine lv_aload_n hx hb dX9_isKeptBlock_10 rfl (lv_at hl 1 rfl) ?_
        refine lv_aload_n hx hb dX9_isKeptBlock_11 rfl (lv_at hl 1 rfl) ?_
        refine va_get (D := (dC, dI)) (ci := 11) (v := .ref (c 31)) (C := RX9) (T := TX9) (N := 38) hx hb hts hin9 hown hK hP 0 rfl rfl 31 (by decide) (hts (.fieldLink RX9 46 "BlockLogModel" "keptRow" "[I") (by decide +kernel)) (fun _ h9 => h9) rfl dX9_isKeptBlock_12 ?_
        refine lv_iload_n hx hb dX9_isKeptBlock_15 rfl (lv_at hl 0 rfl) ?_
        refine va_iald (f := ai 31) hx hb hK hP 12 11 rfl rfl (iv_in (i := l3_2) (by omega) (by omega)) dX9_isKeptBlock_16 ?_
        refine lv_topi (fun v_2 ev_2 => ?_)
        have k_3 : 0 ≤ v_2.toInt ∧ v_2.toInt ≤ 127 := aR_get hR31 (by omega) (by omega) ev_2
        clear ev_2
        refine vp_callSi (va_Run.run (va_runV (As := [.int v_2]) (rest := []) ⟨hx, hb, hml, hown, hts⟩ (v_X9_kindOf l dC dI o c kc st lg ai al v_2 (show 0 ≤ (st 7).toInt by omega) (show (st 7).toInt ≤ 1 by omega) (by omega) (by omega)) (cwV 1 hts gX9_isKeptBlock_X9_kindOf rfl rfl rfl (by decide +kernel) ⟨Nat.le_of_ble_eq_true rfl, Nat.le_of_ble_eq_true rfl⟩) ⟨fun a U g mk q => by obtain ⟨q0, qP, qK⟩ := q; exact ⟨q0, qP, va_K.moved (u := U) (U := U.calling g mk a) (Vm.Alike.refl U.vm) qK⟩, va_recv hK hP (ci := 11) (q := (RX9, TX9, 38)) rfl (q0 := 0) rfl, fun U hU hW => ⟨rfl, by rw [hU]; exact hP, va_K.moved hW.alike hK⟩⟩ rfl rfl hl.1 rfl (lv_room (Nat.le_of_ble_eq_true rfl)) dX9_isKeptBlock_17 ⟨Nat.le_of_ble_eq_true rfl, Nat.le_of_ble_eq_true rfl⟩)) (fun r_4 er_4 => ?_)
        obtain ⟨k_5, k_6, k_7⟩ := er_4
        have k_5 : r_4.toInt = (rK (ai 0) (st 7) v_2).toInt := k_5
        refine lv_iconst (v := 2) hx hb dX9_isKeptBlock_20 (by decide) ?_
        refine lv_icmp_ne (tgt := 42) hx hb dX9_isKeptBlock_21 (by decide) (fun c_8 => ?_) (fun c_8 => ?_)
        · skip
          have ic_8 := iv_ne c_8
          obtain ⟨x_9, ex_9⟩ : ∃ z : Int32, z = l3_2 + (1) := ⟨_, rfl⟩
          refine lv_iinc (v := x_9) (lv' := [(3, .int x_9), (0, .ref o), (1, .long p0)]) hx hb dX9_isKeptBlock_42 hl (k := 0) rfl (by rw [ex_9]; rfl) (by decide) rfl (fun ls hl => ?_)
          have rg1 := iv_rng l3_2
          have hx_9 : x_9.toInt = l3_2.toInt + (1) := by rw [ex_9]; exact (iv_add (by omega) (by omega)).trans (by omega)
          clear ex_9
          refine lv_goto (tgt := 2) hx hb dX9_isKeptBlock_45 (by decide) ?_
          exact ih2 x_9 _ (by omega) (by omega) (by omega) (lv_sub hl [0, 1, 2] rfl)
        · skip
          have ic_8 := iv_eq c_8
          refine lv_aload_n hx hb dX9_isKeptBlock_24 rfl (lv_at hl 1 rfl) ?_
          refine va_get (D := (dC, dI)) (ci := 11) (v := .ref (c 18)) (C := RX9) (T := TX9) (N := 38) hx hb hts hin9 hown hK hP 0 rfl rfl 18 (by decide) (hts (.fieldLink RX9 27 "BlockLogModel" "digestAt" "[J") (by decide +kernel)) (fun _ h9 => h9) rfl dX9_isKeptBlock_25 ?_
          refine lv_aload_n hx hb dX9_isKeptBlock_28 rfl (lv_at hl 1 rfl) ?_
          refine va_get (D := (dC, dI)) (ci := 11) (v := .ref (c 31)) (C := RX9) (T := TX9) (N := 38) hx hb hts hin9 hown hK hP 0 rfl rfl 31 (by decide) (hts (.fieldLink RX9 46 "BlockLogModel" "keptRow" "[I") (by decide +kernel)) (fun _ h9 => h9) rfl dX9_isKeptBlock_29 ?_
          refine lv_iload_n hx hb dX9_isKeptBlock_32 rfl (lv_at hl 0 rfl) ?_
          refine va_iald (f := ai 31) hx hb hK hP 12 11 rfl rfl (iv_in (i := l3_2) (by omega) (by omega)) dX9_isKeptBlock_33 ?_
          refine lv_topi (fun v_10 ev_10 => ?_)
          have k_11 : 0 ≤ v_10.toInt ∧ v_10.toInt ≤ 127 := aR_get hR31 (by omega) (by omega) ev_10
          clear ev_10
          refine va_lald (f := al 18) hx hb hK hP 6 5 rfl rfl (iv_in (i := v_10) (by omega) (by omega)) dX9_isKeptBlock_34 ?_
          refine lv_topl (fun w_12 ew_12 => ?_)
          clear ew_12
          refine lv_lload_n hx hb dX9_isKeptBlock_35 rfl (lv_at hl 2 rfl) ?_
          refine W.lcmp hx hb dX9_isKeptBlock_36 ?_
          refine lv_topi (fun v_13 ev_13 => ?_)
          clear ev_13
          refine lv_if_ne (tgt := 42) hx hb dX9_isKeptBlock_37 (by decide) (fun c_14 => ?_) (fun c_14 => ?_)
          · skip
            have ic_14 := iv_ne c_14
            obtain ⟨x_15, ex_15⟩ : ∃ z : Int32, z = l3_2 + (1) := ⟨_, rfl⟩
            refine lv_iinc (v := x_15) (lv' := [(3, .int x_15), (0, .ref o), (1, .long p0)]) hx hb dX9_isKeptBlock_42 hl (k := 0) rfl (by rw [ex_15]; rfl) (by decide) rfl (fun ls hl => ?_)
            have rg2 := iv_rng l3_2
            have hx_15 : x_15.toInt = l3_2.toInt + (1) := by rw [ex_15]; exact (iv_add (by omega) (by omega)).trans (by omega)
            clear ex_15
            refine lv_goto (tgt := 2) hx hb dX9_isKeptBlock_45 (by decide) ?_
            exact ih2 x_15 _ (by omega) (by omega) (by omega) (lv_sub hl [0, 1, 2] rfl)
          · skip
            have ic_14 := iv_eq c_14
            refine lv_iconst (v := 1) hx hb dX9_isKeptBlock_40 (by decide) ?_
            exact W.zret hx hb hr rfl (fun t ht hW => ⟨_, rfl, ⟨(by omega), (by omega)⟩, ht⟩) (fun q h => by cases h) dX9_isKeptBlock_41
  exact loop2 (((st 32).toInt - 0 : Int).toNat + 1) (0 : Int32) _ (by omega) (by omega) (by omega) (lv_sub hl [0, 1, 2] rfl)

set_option maxHeartbeats 4000000 in
set_option maxRecDepth 100000 in
theorem v_X9_keepRows (l : Launch) (dC : Nat → ClassId) (dI : Nat → Nat → Nat) (o : Nat) (c : Nat → Nat) (kc : Nat → ClassId) (st : Nat → Int32) (lg : Nat → Int64) (ai : Nat → Nat → Int32) (al : Nat → Nat → Int64) (p0 : Int32) (p1 : Int64) (sz : Nat) (hf7a : 0 ≤ (st 7).toInt) (hf7b : (st 7).toInt ≤ 1) (hf16a : 0 ≤ (st 16).toInt) (hf16b : (st 16).toInt ≤ 128) (hf21a : -1 ≤ (st 21).toInt) (hf21b : (st 21).toInt ≤ 127) (hf32a : 0 ≤ (st 32).toInt) (hf32b : (st 32).toInt ≤ 128) (hq0 : ((st 21).toInt = -1 ∨ (rK (ai 0) (st 7) (st 21)).toInt = 1)) (hR31 : aR (ai 31) 128 (0) 127) (hC : cOK (ai 0) (st 7) (st 16) (ai 20)) : Met l yX9_keepRows wsX9_keepRows ({ frames := 3, cells := 0, slots := 0, locals := 70 }) (va_Pc [.ref o, .int p0, .long p1] (fun U => U.heap.size = sz ∧ va_P (dC, dI) vwCl (rw_W o c kc st lg ai al) U.heap ∧ va_K (dC, dI) vwCl (rw_T kc) U ∧ va_D (fun _ => True) (rw_W o c kc st lg ai al))) (va_Qv (fun (_ : Unit) => True) (fun _ t => ∃ (x32 : Int32) (f31 : Nat → Int32), (0 ≤ x32.toInt) ∧ (x32.toInt ≤ 128) ∧ (aR f31 128 (0) 127) ∧ va_P (dC, dI) vwCl (rw_W o c kc (rU st 32 x32) lg (rU ai 31 f31) al) t.heap) (va_A (rw_W o c kc st lg ai al) sz)) 0 0 (va_A (rw_W o c kc st lg ai al) sz) := by
  refine Met.ofW (cc := cX9_keepRows) (maxL := 8) (ret := none) (by decide) rfl ?_
  intro p e s m args below meth cM s₁ B hml hv
  obtain ⟨rfl, hsz, hP, hK, hD0⟩ := hv
  have hx := B.exec
  have hb := B.bytes
  have hr := B.returns
  have hts := atoms_spec (ws := wsX9_keepRows) B.pre
  have hown : s.vm.findClass RX9 = some m.cls := findClass_of_methodNamed B.named
  subst hsz
  have hD := hD0.self (sz := s.heap.size)
  generalize hAe : va_A (rw_W o c kc st lg ai al) s.heap.size = A at hD ⊢
  have hA : ∀ q : Nat, s.heap.size ≤ q → A q := fun q h => by rw [← hAe]; exact Or.inr h
  have hS : va_S A s.heap s.heap [] := va_S.rf
  clear hAe hD0
  have hl := lv_entry ([.ref o, .int p0, .long p1]) (n := 8) (Nat.le_of_ble_eq_true rfl)
  rw [lg_entry_eq]
  generalize (lg_sl ([.ref o, .int p0, .long p1]) ++ List.replicate (8 - (lg_sl ([.ref o, .int p0, .long p1])).length) Slot.unset).toArray = ls at hl ⊢
  have hl : lv_has ls 8 [(0, .ref o), (1, .int p0), (2, .long p1)] := hl
  have z_0 : (0 : Int32).toInt = 0 := by decide
  have z_1 : (1 : Int32).toInt = 1 := by decide
  have z_2 : (2 : Int32).toInt = 2 := by decide
  have z_4 : (4 : Int32).toInt = 4 := by decide
  have hin9 : ∀ w ∈ u_ws RX9 TX9 38, w ∈ wsX9_keepRows := by decide +kernel
  have main : ∀ (H : Heap) (locs : List Loc), va_P (dC, dI) vwCl (rw_W o c kc st lg ai al) H → va_S A s.heap H locs → W p l e (headSpec wsX9_keepRows ({ frames := 3, cells := 0, slots := 0, locals := 70 })).room s m ([.ref o, .int p0, .long p1] : List Value).toArray below meth cM H locs 0 0 (MQ below (va_Qv (fun (_ : Unit) => True) (fun _ t => ∃ (x32 : Int32) (f31 : Nat → Int32), (0 ≤ x32.toInt) ∧ (x32.toInt ≤ 128) ∧ (aR f31 128 (0) 127) ∧ va_P (dC, dI) vwCl (rw_W o c kc (rU st 32 x32) lg (rU ai 31 f31) al) t.heap) A) ([.ref o, .int p0, .long p1] : List Value).toArray s 0 0 A) (F0 m 0 ls []) := by
    intro H locs hP hS
    refine lv_aload_n hx hb dX9_keepRows_0 rfl (lv_at hl 0 rfl) ?_
    refine lv_iconst (v := 0) hx hb dX9_keepRows_1 (by decide) ?_
    refine va_put (D := (dC, dI)) (ci := 11) (v := .int (0 : Int32)) (ty := .int) (C := RX9) (T := TX9) (N := 38) hx hb hts hin9 tyX9 tyX9_ok nmX9 hown hK hP (rw_D hD) hS 0 rfl rfl 32 (by decide) (hts (.fieldLink RX9 328 "BlockLogModel" "kept" "I") (by decide +kernel)) (fun _ h9 => h9) rfl (by decide +kernel) rfl rfl (Nat.le_of_ble_eq_true rfl) dX9_keepRows_2 (fun H locs hP _ hS => ?_)
    have hP : va_P (dC, dI) vwCl (rw_W o c kc (rU st 32 (0 : Int32)) lg ai al) H := hP
    refine lv_iconst (v := 0) hx hb dX9_keepRows_5 (by decide) ?_
    refine lv_istore (lv' := [(4, .int (0 : Int32)), (0, .ref o), (1, .int p0), (2, .long p1)]) hx hb dX9_keepRows_6 hl (by decide) rfl (fun ls hl => ?_)
    have loop8 : ∀ (n : Nat) (l4_8 : Int32) (s32_8 : Int32) (a31_8 : Nat → Int32) (H : Heap) (locs : List Loc) (ls : Array Slot), (0 ≤ l4_8.toInt) → (l4_8.toInt ≤ (st 16).toInt) → (0 ≤ s32_8.toInt) → (s32_8.toInt ≤ 128) → (aR a31_8 128 (0) 127) → (kI (ai 0) (st 7) (st 16) s32_8 l4_8) → ((st 16).toInt - l4_8.toInt : Int).toNat < n → va_P (dC, dI) vwCl (rw_W o c kc (rU st 32 s32_8) lg (rU ai 31 a31_8) al) H → va_S A s.heap H locs → lv_has ls 8 [(4, .int l4_8), (0, .ref o), (1, .int p0), (2, .long p1)] → W p l e (headSpec wsX9_keepRows ({ frames := 3, cells := 0, slots := 0, locals := 70 })).room s m ([.ref o, .int p0, .long p1] : List Value).toArray below meth cM H locs 0 0 (MQ below (va_Qv (fun (_ : Unit) => True) (fun _ t => ∃ (x32 : Int32) (f31 : Nat → Int32), (0 ≤ x32.toInt) ∧ (x32.toInt ≤ 128) ∧ (aR f31 128 (0) 127) ∧ va_P (dC, dI) vwCl (rw_W o c kc (rU st 32 x32) lg (rU ai 31 f31) al) t.heap) A) ([.ref o, .int p0, .long p1] : List Value).toArray s 0 0 A) (F0 m 8 ls []) := by
      intro n
      induction n with
      | zero => intro l4_8 s32_8 a31_8 H locs ls if0_8 if1_8 if2_8 if3_8 hR31 hKI hm; exact absurd hm (Nat.not_lt_zero _)
      | succ n ih8 =>
        intro l4_8 s32_8 a31_8 H locs ls if0_8 if1_8 if2_8 if3_8 hR31 hKI hm8 hP hS hl
        refine lv_iload hx hb dX9_keepRows_8 (lv_at hl 0 rfl) ?_
        refine lv_aload_n hx hb dX9_keepRows_10 rfl (lv_at hl 1 rfl) ?_
        refine va_get (D := (dC, dI)) (ci := 11) (v := .int (st 16)) (C := RX9) (T := TX9) (N := 38) hx hb hts hin9 hown hK hP 0 rfl rfl 16 (by decide) (hts (.fieldLink RX9 167 "BlockLogModel" "many" "I") (by decide +kernel)) (fun _ h9 => h9) rfl dX9_keepRows_11 ?_
        refine lv_icmp_ge (tgt := 194) hx hb dX9_keepRows_14 (by decide) (fun c_1 => ?_) (fun c_1 => ?_)
        · skip
          have ic_1 := iv_le c_1
          exact W.vret hx hb hr (fun t ht hW => ⟨⟨(), rfl, trivial, s32_8, a31_8, (by omega), (by omega), hR31, by rw [ht]; exact hP⟩, hS.F ht⟩) hS.2.2 dX9_keepRows_194
        · skip
          have ic_1 := iv_nle c_1
          refine lv_aload_n hx hb dX9_keepRows_17 rfl (lv_at hl 1 rfl) ?_
          refine lv_iload hx hb dX9_keepRows_18 (lv_at hl 0 rfl) ?_
          refine vp_callSi (va_Run.run (va_runV (As := [.int l4_8]) (rest := []) ⟨hx, hb, hml, hown, hts⟩ (v_X9_kindOf l dC dI o c kc (rU st 32 s32_8) lg (rU ai 31 a31_8) al l4_8 (show 0 ≤ (st 7).toInt by omega) (show (st 7).toInt ≤ 1 by omega) (by omega) (by omega)) (cwV 1 hts gX9_keepRows_X9_kindOf rfl rfl rfl (by decide +kernel) ⟨Nat.le_of_ble_eq_true rfl, Nat.le_of_ble_eq_true rfl⟩) ⟨fun a U g mk q => by obtain ⟨q0, qP, qK⟩ := q; exact ⟨q0, qP, va_K.moved (u := U) (U := U.calling g mk a) (Vm.Alike.refl U.vm) qK⟩, va_recv hK hP (ci := 11) (q := (RX9, TX9, 38)) rfl (q0 := 0) rfl, fun U hU hW => ⟨rfl, by rw [hU]; exact hP, va_K.moved hW.alike hK⟩⟩ rfl rfl hl.1 rfl (lv_room (Nat.le_of_ble_eq_true rfl)) dX9_keepRows_20 ⟨Nat.le_of_ble_eq_true rfl, Nat.le_of_ble_eq_true rfl⟩)) (fun r_2 er_2 => ?_)
          obtain ⟨k_3, k_4, k_5⟩ := er_2
          have k_3 : r_2.toInt = (rK (ai 0) (st 7) l4_8).toInt := k_3
          refine lv_istore (lv' := [(5, .int r_2), (4, .int l4_8), (0, .ref o), (1, .int p0), (2, .long p1)]) hx hb dX9_keepRows_23 hl (by decide) rfl (fun ls hl => ?_)
          refine lv_iload hx hb dX9_keepRows_25 (lv_at hl 0 rfl) ?_
          refine lv_iconst (v := 2) hx hb dX9_keepRows_27 (by decide) ?_
          refine lv_icmp_ne (tgt := 123) hx hb dX9_keepRows_28 (by decide) (fun c_6 => ?_) (fun c_6 => ?_)
          · skip
            have ic_6 := iv_ne c_6
            refine lv_iload hx hb dX9_keepRows_123 (lv_at hl 0 rfl) ?_
            refine lv_iconst (v := 4) hx hb dX9_keepRows_125 (by decide) ?_
            refine lv_icmp_ne (tgt := 161) hx hb dX9_keepRows_126 (by decide) (fun c_7 => ?_) (fun c_7 => ?_)
            · skip
              have ic_7 := iv_ne c_7
              refine lv_iload hx hb dX9_keepRows_161 (lv_at hl 1 rfl) ?_
              refine lv_aload_n hx hb dX9_keepRows_163 rfl (lv_at hl 2 rfl) ?_
              refine va_get (D := (dC, dI)) (ci := 11) (v := .int (st 21)) (C := RX9) (T := TX9) (N := 38) hx hb hts hin9 hown hK hP 0 rfl rfl 21 (by decide) (hts (.fieldLink RX9 179 "BlockLogModel" "lastVote" "I") (by decide +kernel)) (fun _ h9 => h9) rfl dX9_keepRows_164 ?_
              refine lv_icmp_ne (tgt := 188) hx hb dX9_keepRows_167 (by decide) (fun c_8 => ?_) (fun c_8 => ?_)
              · skip
                have ic_8 := iv_ne c_8
                have hK2 : ∀ r' : Int32, r'.toInt = l4_8.toInt + 1 → kI (ai 0) (st 7) (st 16) s32_8 r' := fun r' e => kI_skip hKI (by omega) e
                obtain ⟨x_9, ex_9⟩ : ∃ z : Int32, z = l4_8 + (1) := ⟨_, rfl⟩
                refine lv_iinc (v := x_9) (lv' := [(4, .int x_9), (5, .int r_2), (0, .ref o), (1, .int p0), (2, .long p1)]) hx hb dX9_keepRows_188 hl (k := 1) rfl (by rw [ex_9]; rfl) (by decide) rfl (fun ls hl => ?_)
                have rg1 := iv_rng l4_8
                have hx_9 : x_9.toInt = l4_8.toInt + (1) := by rw [ex_9]; exact (iv_add (by omega) (by omega)).trans (by omega)
                clear ex_9
                refine lv_goto (tgt := 8) hx hb dX9_keepRows_191 (by decide) ?_
                exact ih8 x_9 s32_8 a31_8 _ _ _ (by omega) (by omega) (by omega) (by omega) (by assumption) (hK2 _ (by omega)) (by omega) hP hS (lv_sub hl [0, 2, 3, 4] rfl)
              · skip
                have ic_8 := iv_eq c_8
                have k_10 : (rK (ai 0) (st 7) l4_8).toInt ≠ 3 := (by first | omega | (rw [show l4_8 = (st 21) from Int32.toInt_inj.mp (by omega)]; omega))
                have k_11 : s32_8.toInt ≤ l4_8.toInt := kI_at hKI (by omega)
                refine lv_aload_n hx hb dX9_keepRows_170 rfl (lv_at hl 2 rfl) ?_
                refine va_get (D := (dC, dI)) (ci := 11) (v := .ref (c 31)) (C := RX9) (T := TX9) (N := 38) hx hb hts hin9 hown hK hP 0 rfl rfl 31 (by decide) (hts (.fieldLink RX9 46 "BlockLogModel" "keptRow" "[I") (by decide +kernel)) (fun _ h9 => h9) rfl dX9_keepRows_171 ?_
                refine lv_aload_n hx hb dX9_keepRows_174 rfl (lv_at hl 2 rfl) ?_
                refine lv_dup hx hb dX9_keepRows_175 rfl ?_
                refine va_get (D := (dC, dI)) (ci := 11) (v := .int s32_8) (C := RX9) (T := TX9) (N := 38) hx hb hts hin9 hown hK hP 0 rfl rfl 32 (by decide) (hts (.fieldLink RX9 328 "BlockLogModel" "kept" "I") (by decide +kernel)) (fun _ h9 => h9) rfl dX9_keepRows_176 ?_
                refine lv_dup_x1 hx hb dX9_keepRows_179 rfl rfl ?_
                refine lv_iconst (v := 1) hx hb dX9_keepRows_180 (by decide) ?_
                refine lv_iadd hx hb dX9_keepRows_181 ?_
                refine lv_topi (fun v_12 ev_12 => ?_)
                have rg2 := iv_rng s32_8
                have hv_12 : v_12.toInt = s32_8.toInt + 1 := by rw [ev_12]; exact (iv_add (by omega) (by omega)).trans (by omega)
                clear ev_12
                refine va_put (D := (dC, dI)) (ci := 11) (v := .int v_12) (ty := .int) (C := RX9) (T := TX9) (N := 38) hx hb hts hin9 tyX9 tyX9_ok nmX9 hown hK hP (rw_D hD) hS 0 rfl rfl 32 (by decide) (hts (.fieldLink RX9 328 "BlockLogModel" "kept" "I") (by decide +kernel)) (fun _ h9 => h9) rfl (by decide +kernel) rfl rfl (Nat.le_of_ble_eq_true rfl) dX9_keepRows_182 (fun H locs hP _ hS => ?_)
                have hP : va_P (dC, dI) vwCl (rw_W o c kc (rU st 32 v_12) lg (rU ai 31 a31_8) al) H := hP
                refine lv_iload hx hb dX9_keepRows_185 (lv_at hl 1 rfl) ?_
                refine va_iast (f := a31_8) hx hb hK hP (rw_D hD) hS 12 11 rfl rfl (iv_in (i := s32_8) (by omega) (by omega)) dX9_keepRows_187 (fun H locs hP _ hS => ?_)
                have hP : va_P (dC, dI) vwCl (rw_W o c kc (rU st 32 v_12) lg (rU ai 31 (upd a31_8 s32_8.toNatClampNeg l4_8)) al) H := hP
                generalize hU_keptRow : upd a31_8 s32_8.toNatClampNeg l4_8 = g_13 at hP
                have hR31 : aR g_13 128 (0) 127 := aR_upd hR31 hU_keptRow (by omega) (by omega)
                clear hU_keptRow
                have hK2 : ∀ r' : Int32, r'.toInt = l4_8.toInt + 1 → kI (ai 0) (st 7) (st 16) v_12 r' := fun r' e => kI_one (by omega) (by omega) e
                obtain ⟨x_14, ex_14⟩ : ∃ z : Int32, z = l4_8 + (1) := ⟨_, rfl⟩
                refine lv_iinc (v := x_14) (lv' := [(4, .int x_14), (5, .int r_2), (0, .ref o), (1, .int p0), (2, .long p1)]) hx hb dX9_keepRows_188 hl (k := 1) rfl (by rw [ex_14]; rfl) (by decide) rfl (fun ls hl => ?_)
                have rg3 := iv_rng l4_8
                have hx_14 : x_14.toInt = l4_8.toInt + (1) := by rw [ex_14]; exact (iv_add (by omega) (by omega)).trans (by omega)
                clear ex_14
                refine lv_goto (tgt := 8) hx hb dX9_keepRows_191 (by decide) ?_
                exact ih8 x_14 v_12 g_13 _ _ _ (by omega) (by omega) (by omega) (by omega) (by assumption) (hK2 _ (by omega)) (by omega) hP hS (lv_sub hl [0, 2, 3, 4] rfl)
            · skip
              have ic_7 := iv_eq c_7
              refine lv_aload_n hx hb dX9_keepRows_129 rfl (lv_at hl 2 rfl) ?_
              refine va_get (D := (dC, dI)) (ci := 11) (v := .ref (c 20)) (C := RX9) (T := TX9) (N := 38) hx hb hts hin9 hown hK hP 0 rfl rfl 20 (by decide) (hts (.fieldLink RX9 34 "BlockLogModel" "counts" "[Z") (by decide +kernel)) (fun _ h9 => h9) rfl dX9_keepRows_130 ?_
              refine lv_iload hx hb dX9_keepRows_133 (lv_at hl 1 rfl) ?_
              refine va_zald (f := ai 20) hx hb hK hP 8 7 rfl rfl (iv_in (i := l4_8) (by omega) (by omega)) dX9_keepRows_135 ?_
              refine lv_topi (fun v_15 ev_15 => ?_)
              have hX_counts := ev_15
              clear ev_15
              refine lv_if_eq (tgt := 161) hx hb dX9_keepRows_136 (by decide) (fun c_16 => ?_) (fun c_16 => ?_)
              · skip
                have ic_16 := iv_eq c_16
                refine lv_iload hx hb dX9_keepRows_161 (lv_at hl 1 rfl) ?_
                refine lv_aload_n hx hb dX9_keepRows_163 rfl (lv_at hl 2 rfl) ?_
                refine va_get (D := (dC, dI)) (ci := 11) (v := .int (st 21)) (C := RX9) (T := TX9) (N := 38) hx hb hts hin9 hown hK hP 0 rfl rfl 21 (by decide) (hts (.fieldLink RX9 179 "BlockLogModel" "lastVote" "I") (by decide +kernel)) (fun _ h9 => h9) rfl dX9_keepRows_164 ?_
                refine lv_icmp_ne (tgt := 188) hx hb dX9_keepRows_167 (by decide) (fun c_17 => ?_) (fun c_17 => ?_)
                · skip
                  have ic_17 := iv_ne c_17
                  have hK2 : ∀ r' : Int32, r'.toInt = l4_8.toInt + 1 → kI (ai 0) (st 7) (st 16) s32_8 r' := fun r' e => kI_skip hKI (by omega) e
                  obtain ⟨x_18, ex_18⟩ : ∃ z : Int32, z = l4_8 + (1) := ⟨_, rfl⟩
                  refine lv_iinc (v := x_18) (lv' := [(4, .int x_18), (5, .int r_2), (0, .ref o), (1, .int p0), (2, .long p1)]) hx hb dX9_keepRows_188 hl (k := 1) rfl (by rw [ex_18]; rfl) (by decide) rfl (fun ls hl => ?_)
                  have rg4 := iv_rng l4_8
                  have hx_18 : x_18.toInt = l4_8.toInt + (1) := by rw [ex_18]; exact (iv_add (by omega) (by omega)).trans (by omega)
                  clear ex_18
                  refine lv_goto (tgt := 8) hx hb dX9_keepRows_191 (by decide) ?_
                  exact ih8 x_18 s32_8 a31_8 _ _ _ (by omega) (by omega) (by omega) (by omega) (by assumption) (hK2 _ (by omega)) (by omega) hP hS (lv_sub hl [0, 2, 3, 4] rfl)
                · skip
                  have ic_17 := iv_eq c_17
                  have k_19 : (rK (ai 0) (st 7) l4_8).toInt ≠ 3 := (by first | omega | (rw [show l4_8 = (st 21) from Int32.toInt_inj.mp (by omega)]; omega))
                  have k_20 : s32_8.toInt ≤ l4_8.toInt := kI_at hKI (by omega)
                  refine lv_aload_n hx hb dX9_keepRows_170 rfl (lv_at hl 2 rfl) ?_
                  refine va_get (D := (dC, dI)) (ci := 11) (v := .ref (c 31)) (C := RX9) (T := TX9) (N := 38) hx hb hts hin9 hown hK hP 0 rfl rfl 31 (by decide) (hts (.fieldLink RX9 46 "BlockLogModel" "keptRow" "[I") (by decide +kernel)) (fun _ h9 => h9) rfl dX9_keepRows_171 ?_
                  refine lv_aload_n hx hb dX9_keepRows_174 rfl (lv_at hl 2 rfl) ?_
                  refine lv_dup hx hb dX9_keepRows_175 rfl ?_
                  refine va_get (D := (dC, dI)) (ci := 11) (v := .int s32_8) (C := RX9) (T := TX9) (N := 38) hx hb hts hin9 hown hK hP 0 rfl rfl 32 (by decide) (hts (.fieldLink RX9 328 "BlockLogModel" "kept" "I") (by decide +kernel)) (fun _ h9 => h9) rfl dX9_keepRows_176 ?_
                  refine lv_dup_x1 hx hb dX9_keepRows_179 rfl rfl ?_
                  refine lv_iconst (v := 1) hx hb dX9_keepRows_180 (by decide) ?_
                  refine lv_iadd hx hb dX9_keepRows_181 ?_
                  refine lv_topi (fun v_21 ev_21 => ?_)
                  have rg5 := iv_rng s32_8
                  have hv_21 : v_21.toInt = s32_8.toInt + 1 := by rw [ev_21]; exact (iv_add (by omega) (by omega)).trans (by omega)
                  clear ev_21
                  refine va_put (D := (dC, dI)) (ci := 11) (v := .int v_21) (ty := .int) (C := RX9) (T := TX9) (N := 38) hx hb hts hin9 tyX9 tyX9_ok nmX9 hown hK hP (rw_D hD) hS 0 rfl rfl 32 (by decide) (hts (.fieldLink RX9 328 "BlockLogModel" "kept" "I") (by decide +kernel)) (fun _ h9 => h9) rfl (by decide +kernel) rfl rfl (Nat.le_of_ble_eq_true rfl) dX9_keepRows_182 (fun H locs hP _ hS => ?_)
                  have hP : va_P (dC, dI) vwCl (rw_W o c kc (rU st 32 v_21) lg (rU ai 31 a31_8) al) H := hP
                  refine lv_iload hx hb dX9_keepRows_185 (lv_at hl 1 rfl) ?_
                  refine va_iast (f := a31_8) hx hb hK hP (rw_D hD) hS 12 11 rfl rfl (iv_in (i := s32_8) (by omega) (by omega)) dX9_keepRows_187 (fun H locs hP _ hS => ?_)
                  have hP : va_P (dC, dI) vwCl (rw_W o c kc (rU st 32 v_21) lg (rU ai 31 (upd a31_8 s32_8.toNatClampNeg l4_8)) al) H := hP
                  generalize hU_keptRow : upd a31_8 s32_8.toNatClampNeg l4_8 = g_22 at hP
                  have hR31 : aR g_22 128 (0) 127 := aR_upd hR31 hU_keptRow (by omega) (by omega)
                  clear hU_keptRow
                  have hK2 : ∀ r' : Int32, r'.toInt = l4_8.toInt + 1 → kI (ai 0) (st 7) (st 16) v_21 r' := fun r' e => kI_one (by omega) (by omega) e
                  obtain ⟨x_23, ex_23⟩ : ∃ z : Int32, z = l4_8 + (1) := ⟨_, rfl⟩
                  refine lv_iinc (v := x_23) (lv' := [(4, .int x_23), (5, .int r_2), (0, .ref o), (1, .int p0), (2, .long p1)]) hx hb dX9_keepRows_188 hl (k := 1) rfl (by rw [ex_23]; rfl) (by decide) rfl (fun ls hl => ?_)
                  have rg6 := iv_rng l4_8
                  have hx_23 : x_23.toInt = l4_8.toInt + (1) := by rw [ex_23]; exact (iv_add (by omega) (by omega)).trans (by omega)
                  clear ex_23
                  refine lv_goto (tgt := 8) hx hb dX9_keepRows_191 (by decide) ?_
                  exact ih8 x_23 v_21 g_22 _ _ _ (by omega) (by omega) (by omega) (by omega) (by assumption) (hK2 _ (by omega)) (by omega) hP hS (lv_sub hl [0, 2, 3, 4] rfl)
              · skip
                have ic_16 := iv_ne c_16
                refine lv_aload_n hx hb dX9_keepRows_139 rfl (lv_at hl 2 rfl) ?_
                refine lv_aload_n hx hb dX9_keepRows_140 rfl (lv_at hl 2 rfl) ?_
                refine lv_aload_n hx hb dX9_keepRows_141 rfl (lv_at hl 2 rfl) ?_
                refine lv_iload hx hb dX9_keepRows_142 (lv_at hl 1 rfl) ?_
                refine vp_callSl (va_Run.run (va_runV (As := [.int l4_8]) (rest := [.ref o, .ref o]) ⟨hx, hb, hml, hown, hts⟩ (v_X9_cOf l dC dI o c kc (rU st 32 s32_8) lg (rU ai 31 a31_8) al l4_8 (show 0 ≤ (st 7).toInt by omega) (show (st 7).toInt ≤ 1 by omega) (by omega) (by omega)) (cwV 1 hts gX9_keepRows_X9_cOf rfl rfl rfl (by decide +kernel) ⟨Nat.le_of_ble_eq_true rfl, Nat.le_of_ble_eq_true rfl⟩) ⟨fun a U g mk q => by obtain ⟨q0, qP, qK⟩ := q; exact ⟨q0, qP, va_K.moved (u := U) (U := U.calling g mk a) (Vm.Alike.refl U.vm) qK⟩, va_recv hK hP (ci := 11) (q := (RX9, TX9, 38)) rfl (q0 := 0) rfl, fun U hU hW => ⟨rfl, by rw [hU]; exact hP, va_K.moved hW.alike hK⟩⟩ rfl rfl hl.1 rfl (lv_room (Nat.le_of_ble_eq_true rfl)) dX9_keepRows_144 ⟨Nat.le_of_ble_eq_true rfl, Nat.le_of_ble_eq_true rfl⟩)) (fun r_24 er_24 => ?_)
                have hc := er_24
                have hc : r_24 = rC (ai 0) (st 7) l4_8 := hc
                refine lv_aload_n hx hb dX9_keepRows_147 rfl (lv_at hl 2 rfl) ?_
                refine va_get (D := (dC, dI)) (ci := 11) (v := .int (st 16)) (C := RX9) (T := TX9) (N := 38) hx hb hts hin9 hown hK hP 0 rfl rfl 16 (by decide) (hts (.fieldLink RX9 167 "BlockLogModel" "many" "I") (by decide +kernel)) (fun _ h9 => h9) rfl dX9_keepRows_148 ?_
                refine vp_callSi (va_Run.run (va_runV (As := [.long r_24, .int (st 16)]) (rest := [.ref o]) ⟨hx, hb, hml, hown, hts⟩ (v_X9_blockRow l dC dI o c kc (rU st 32 s32_8) lg (rU ai 31 a31_8) al r_24 (st 16) (show 0 ≤ (st 7).toInt by omega) (show (st 7).toInt ≤ 1 by omega) (by omega) (by omega) (show cOK (ai 0) (st 7) (st 16) (ai 20) from (by assumption))) (cwV 2 hts gX9_keepRows_X9_blockRow rfl rfl rfl (by decide +kernel) ⟨Nat.le_of_ble_eq_true rfl, Nat.le_of_ble_eq_true rfl⟩) ⟨fun a U g mk q => by obtain ⟨q0, qP, qK⟩ := q; exact ⟨q0, qP, va_K.moved (u := U) (U := U.calling g mk a) (Vm.Alike.refl U.vm) qK⟩, va_recv hK hP (ci := 11) (q := (RX9, TX9, 38)) rfl (q0 := 0) rfl, fun U hU hW => ⟨rfl, by rw [hU]; exact hP, va_K.moved hW.alike hK⟩⟩ rfl rfl hl.1 rfl (lv_room (Nat.le_of_ble_eq_true rfl)) dX9_keepRows_151 ⟨Nat.le_of_ble_eq_true rfl, Nat.le_of_ble_eq_true rfl⟩)) (fun r_25 er_25 => ?_)
                obtain ⟨k_26, k_27, hbk⟩ := er_25
                have hbk : r_25.toInt ≠ -1 → okB (ai 0) (st 7) (st 16) r_25 := hbk
                refine vp_callSi (va_Run.run (va_runV (As := [.int r_25]) (rest := []) ⟨hx, hb, hml, hown, hts⟩ (v_X9_aOf l dC dI o c kc (rU st 32 s32_8) lg (rU ai 31 a31_8) al r_25 (show 0 ≤ (st 7).toInt by omega) (show (st 7).toInt ≤ 1 by omega) (by omega) (by omega)) (cwV 1 hts gX9_keepRows_X9_aOf rfl rfl rfl (by decide +kernel) ⟨Nat.le_of_ble_eq_true rfl, Nat.le_of_ble_eq_true rfl⟩) ⟨fun a U g mk q => by obtain ⟨q0, qP, qK⟩ := q; exact ⟨q0, qP, va_K.moved (u := U) (U := U.calling g mk a) (Vm.Alike.refl U.vm) qK⟩, va_recv hK hP (ci := 11) (q := (RX9, TX9, 38)) rfl (q0 := 0) rfl, fun U hU hW => ⟨rfl, by rw [hU]; exact hP, va_K.moved hW.alike hK⟩⟩ rfl rfl hl.1 rfl (lv_room (Nat.le_of_ble_eq_true rfl)) dX9_keepRows_154 ⟨Nat.le_of_ble_eq_true rfl, Nat.le_of_ble_eq_true rfl⟩)) (fun r_28 er_28 => ?_)
                have k_29 := er_28
                have k_29 : r_28.toInt = (rA (ai 0) (st 7) r_25).toInt := k_29
                refine lv_iload_n hx hb dX9_keepRows_157 rfl (lv_at hl 3 rfl) ?_
                refine lv_icmp_gt (tgt := 170) hx hb dX9_keepRows_158 (by decide) (fun c_30 => ?_) (fun c_30 => ?_)
                · skip
                  have ic_30 := iv_lt c_30
                  have k_31 : (rK (ai 0) (st 7) l4_8).toInt ≠ 3 := (by first | omega | (rw [show l4_8 = (st 21) from Int32.toInt_inj.mp (by omega)]; omega))
                  have k_32 : s32_8.toInt ≤ l4_8.toInt := kI_at hKI (by omega)
                  refine lv_aload_n hx hb dX9_keepRows_170 rfl (lv_at hl 2 rfl) ?_
                  refine va_get (D := (dC, dI)) (ci := 11) (v := .ref (c 31)) (C := RX9) (T := TX9) (N := 38) hx hb hts hin9 hown hK hP 0 rfl rfl 31 (by decide) (hts (.fieldLink RX9 46 "BlockLogModel" "keptRow" "[I") (by decide +kernel)) (fun _ h9 => h9) rfl dX9_keepRows_171 ?_
                  refine lv_aload_n hx hb dX9_keepRows_174 rfl (lv_at hl 2 rfl) ?_
                  refine lv_dup hx hb dX9_keepRows_175 rfl ?_
                  refine va_get (D := (dC, dI)) (ci := 11) (v := .int s32_8) (C := RX9) (T := TX9) (N := 38) hx hb hts hin9 hown hK hP 0 rfl rfl 32 (by decide) (hts (.fieldLink RX9 328 "BlockLogModel" "kept" "I") (by decide +kernel)) (fun _ h9 => h9) rfl dX9_keepRows_176 ?_
                  refine lv_dup_x1 hx hb dX9_keepRows_179 rfl rfl ?_
                  refine lv_iconst (v := 1) hx hb dX9_keepRows_180 (by decide) ?_
                  refine lv_iadd hx hb dX9_keepRows_181 ?_
                  refine lv_topi (fun v_33 ev_33 => ?_)
                  have rg7 := iv_rng s32_8
                  have hv_33 : v_33.toInt = s32_8.toInt + 1 := by rw [ev_33]; exact (iv_add (by omega) (by omega)).trans (by omega)
                  clear ev_33
                  refine va_put (D := (dC, dI)) (ci := 11) (v := .int v_33) (ty := .int) (C := RX9) (T := TX9) (N := 38) hx hb hts hin9 tyX9 tyX9_ok nmX9 hown hK hP (rw_D hD) hS 0 rfl rfl 32 (by decide) (hts (.fieldLink RX9 328 "BlockLogModel" "kept" "I") (by decide +kernel)) (fun _ h9 => h9) rfl (by decide +kernel) rfl rfl (Nat.le_of_ble_eq_true rfl) dX9_keepRows_182 (fun H locs hP _ hS => ?_)
                  have hP : va_P (dC, dI) vwCl (rw_W o c kc (rU st 32 v_33) lg (rU ai 31 a31_8) al) H := hP
                  refine lv_iload hx hb dX9_keepRows_185 (lv_at hl 1 rfl) ?_
                  refine va_iast (f := a31_8) hx hb hK hP (rw_D hD) hS 12 11 rfl rfl (iv_in (i := s32_8) (by omega) (by omega)) dX9_keepRows_187 (fun H locs hP _ hS => ?_)
                  have hP : va_P (dC, dI) vwCl (rw_W o c kc (rU st 32 v_33) lg (rU ai 31 (upd a31_8 s32_8.toNatClampNeg l4_8)) al) H := hP
                  generalize hU_keptRow : upd a31_8 s32_8.toNatClampNeg l4_8 = g_34 at hP
                  have hR31 : aR g_34 128 (0) 127 := aR_upd hR31 hU_keptRow (by omega) (by omega)
                  clear hU_keptRow
                  have hK2 : ∀ r' : Int32, r'.toInt = l4_8.toInt + 1 → kI (ai 0) (st 7) (st 16) v_33 r' := fun r' e => kI_one (by omega) (by omega) e
                  obtain ⟨x_35, ex_35⟩ : ∃ z : Int32, z = l4_8 + (1) := ⟨_, rfl⟩
                  refine lv_iinc (v := x_35) (lv' := [(4, .int x_35), (5, .int r_2), (0, .ref o), (1, .int p0), (2, .long p1)]) hx hb dX9_keepRows_188 hl (k := 1) rfl (by rw [ex_35]; rfl) (by decide) rfl (fun ls hl => ?_)
                  have rg8 := iv_rng l4_8
                  have hx_35 : x_35.toInt = l4_8.toInt + (1) := by rw [ex_35]; exact (iv_add (by omega) (by omega)).trans (by omega)
                  clear ex_35
                  refine lv_goto (tgt := 8) hx hb dX9_keepRows_191 (by decide) ?_
                  exact ih8 x_35 v_33 g_34 _ _ _ (by omega) (by omega) (by omega) (by omega) (by assumption) (hK2 _ (by omega)) (by omega) hP hS (lv_sub hl [0, 2, 3, 4] rfl)
                · skip
                  have ic_30 := iv_nlt c_30
                  refine lv_iload hx hb dX9_keepRows_161 (lv_at hl 1 rfl) ?_
                  refine lv_aload_n hx hb dX9_keepRows_163 rfl (lv_at hl 2 rfl) ?_
                  refine va_get (D := (dC, dI)) (ci := 11) (v := .int (st 21)) (C := RX9) (T := TX9) (N := 38) hx hb hts hin9 hown hK hP 0 rfl rfl 21 (by decide) (hts (.fieldLink RX9 179 "BlockLogModel" "lastVote" "I") (by decide +kernel)) (fun _ h9 => h9) rfl dX9_keepRows_164 ?_
                  refine lv_icmp_ne (tgt := 188) hx hb dX9_keepRows_167 (by decide) (fun c_36 => ?_) (fun c_36 => ?_)
                  · skip
                    have ic_36 := iv_ne c_36
                    have hK2 : ∀ r' : Int32, r'.toInt = l4_8.toInt + 1 → kI (ai 0) (st 7) (st 16) s32_8 r' := fun r' e => kI_skip hKI (by omega) e
                    obtain ⟨x_37, ex_37⟩ : ∃ z : Int32, z = l4_8 + (1) := ⟨_, rfl⟩
                    refine lv_iinc (v := x_37) (lv' := [(4, .int x_37), (5, .int r_2), (0, .ref o), (1, .int p0), (2, .long p1)]) hx hb dX9_keepRows_188 hl (k := 1) rfl (by rw [ex_37]; rfl) (by decide) rfl (fun ls hl => ?_)
                    have rg9 := iv_rng l4_8
                    have hx_37 : x_37.toInt = l4_8.toInt + (1) := by rw [ex_37]; exact (iv_add (by omega) (by omega)).trans (by omega)
                    clear ex_37
                    refine lv_goto (tgt := 8) hx hb dX9_keepRows_191 (by decide) ?_
                    exact ih8 x_37 s32_8 a31_8 _ _ _ (by omega) (by omega) (by omega) (by omega) (by assumption) (hK2 _ (by omega)) (by omega) hP hS (lv_sub hl [0, 2, 3, 4] rfl)
                  · skip
                    have ic_36 := iv_eq c_36
                    have k_38 : (rK (ai 0) (st 7) l4_8).toInt ≠ 3 := (by first | omega | (rw [show l4_8 = (st 21) from Int32.toInt_inj.mp (by omega)]; omega))
                    have k_39 : s32_8.toInt ≤ l4_8.toInt := kI_at hKI (by omega)
                    refine lv_aload_n hx hb dX9_keepRows_170 rfl (lv_at hl 2 rfl) ?_
                    refine va_get (D := (dC, dI)) (ci := 11) (v := .ref (c 31)) (C := RX9) (T := TX9) (N := 38) hx hb hts hin9 hown hK hP 0 rfl rfl 31 (by decide) (hts (.fieldLink RX9 46 "BlockLogModel" "keptRow" "[I") (by decide +kernel)) (fun _ h9 => h9) rfl dX9_keepRows_171 ?_
                    refine lv_aload_n hx hb dX9_keepRows_174 rfl (lv_at hl 2 rfl) ?_
                    refine lv_dup hx hb dX9_keepRows_175 rfl ?_
                    refine va_get (D := (dC, dI)) (ci := 11) (v := .int s32_8) (C := RX9) (T := TX9) (N := 38) hx hb hts hin9 hown hK hP 0 rfl rfl 32 (by decide) (hts (.fieldLink RX9 328 "BlockLogModel" "kept" "I") (by decide +kernel)) (fun _ h9 => h9) rfl dX9_keepRows_176 ?_
                    refine lv_dup_x1 hx hb dX9_keepRows_179 rfl rfl ?_
                    refine lv_iconst (v := 1) hx hb dX9_keepRows_180 (by decide) ?_
                    refine lv_iadd hx hb dX9_keepRows_181 ?_
                    refine lv_topi (fun v_40 ev_40 => ?_)
                    have rg10 := iv_rng s32_8
                    have hv_40 : v_40.toInt = s32_8.toInt + 1 := by rw [ev_40]; exact (iv_add (by omega) (by omega)).trans (by omega)
                    clear ev_40
                    refine va_put (D := (dC, dI)) (ci := 11) (v := .int v_40) (ty := .int) (C := RX9) (T := TX9) (N := 38) hx hb hts hin9 tyX9 tyX9_ok nmX9 hown hK hP (rw_D hD) hS 0 rfl rfl 32 (by decide) (hts (.fieldLink RX9 328 "BlockLogModel" "kept" "I") (by decide +kernel)) (fun _ h9 => h9) rfl (by decide +kernel) rfl rfl (Nat.le_of_ble_eq_true rfl) dX9_keepRows_182 (fun H locs hP _ hS => ?_)
                    have hP : va_P (dC, dI) vwCl (rw_W o c kc (rU st 32 v_40) lg (rU ai 31 a31_8) al) H := hP
                    refine lv_iload hx hb dX9_keepRows_185 (lv_at hl 1 rfl) ?_
                    refine va_iast (f := a31_8) hx hb hK hP (rw_D hD) hS 12 11 rfl rfl (iv_in (i := s32_8) (by omega) (by omega)) dX9_keepRows_187 (fun H locs hP _ hS => ?_)
                    have hP : va_P (dC, dI) vwCl (rw_W o c kc (rU st 32 v_40) lg (rU ai 31 (upd a31_8 s32_8.toNatClampNeg l4_8)) al) H := hP
                    generalize hU_keptRow : upd a31_8 s32_8.toNatClampNeg l4_8 = g_41 at hP
                    have hR31 : aR g_41 128 (0) 127 := aR_upd hR31 hU_keptRow (by omega) (by omega)
                    clear hU_keptRow
                    have hK2 : ∀ r' : Int32, r'.toInt = l4_8.toInt + 1 → kI (ai 0) (st 7) (st 16) v_40 r' := fun r' e => kI_one (by omega) (by omega) e
                    obtain ⟨x_42, ex_42⟩ : ∃ z : Int32, z = l4_8 + (1) := ⟨_, rfl⟩
                    refine lv_iinc (v := x_42) (lv' := [(4, .int x_42), (5, .int r_2), (0, .ref o), (1, .int p0), (2, .long p1)]) hx hb dX9_keepRows_188 hl (k := 1) rfl (by rw [ex_42]; rfl) (by decide) rfl (fun ls hl => ?_)
                    have rg11 := iv_rng l4_8
                    have hx_42 : x_42.toInt = l4_8.toInt + (1) := by rw [ex_42]; exact (iv_add (by omega) (by omega)).trans (by omega)
                    clear ex_42
                    refine lv_goto (tgt := 8) hx hb dX9_keepRows_191 (by decide) ?_
                    exact ih8 x_42 v_40 g_41 _ _ _ (by omega) (by omega) (by omega) (by omega) (by assumption) (hK2 _ (by omega)) (by omega) hP hS (lv_sub hl [0, 2, 3, 4] rfl)
          · skip
            have ic_6 := iv_eq c_6
            refine lv_aload_n hx hb dX9_keepRows_31 rfl (lv_at hl 2 rfl) ?_
            refine va_get (D := (dC, dI)) (ci := 11) (v := .ref (c 20)) (C := RX9) (T := TX9) (N := 38) hx hb hts hin9 hown hK hP 0 rfl rfl 20 (by decide) (hts (.fieldLink RX9 34 "BlockLogModel" "counts" "[Z") (by decide +kernel)) (fun _ h9 => h9) rfl dX9_keepRows_32 ?_
            refine lv_iload hx hb dX9_keepRows_35 (lv_at hl 1 rfl) ?_
            refine va_zald (f := ai 20) hx hb hK hP 8 7 rfl rfl (iv_in (i := l4_8) (by omega) (by omega)) dX9_keepRows_37 ?_
            refine lv_topi (fun v_43 ev_43 => ?_)
            have hX_counts := ev_43
            clear ev_43
            refine lv_if_eq (tgt := 123) hx hb dX9_keepRows_38 (by decide) (fun c_44 => ?_) (fun c_44 => ?_)
            · skip
              have ic_44 := iv_eq c_44
              refine lv_iload hx hb dX9_keepRows_123 (lv_at hl 0 rfl) ?_
              refine lv_iconst (v := 4) hx hb dX9_keepRows_125 (by decide) ?_
              refine lv_icmp_ne (tgt := 161) hx hb dX9_keepRows_126 (by decide) (fun c_45 => ?_) (fun c_45 => ?_)
              · skip
                have ic_45 := iv_ne c_45
                refine lv_iload hx hb dX9_keepRows_161 (lv_at hl 1 rfl) ?_
                refine lv_aload_n hx hb dX9_keepRows_163 rfl (lv_at hl 2 rfl) ?_
                refine va_get (D := (dC, dI)) (ci := 11) (v := .int (st 21)) (C := RX9) (T := TX9) (N := 38) hx hb hts hin9 hown hK hP 0 rfl rfl 21 (by decide) (hts (.fieldLink RX9 179 "BlockLogModel" "lastVote" "I") (by decide +kernel)) (fun _ h9 => h9) rfl dX9_keepRows_164 ?_
                refine lv_icmp_ne (tgt := 188) hx hb dX9_keepRows_167 (by decide) (fun c_46 => ?_) (fun c_46 => ?_)
                · skip
                  have ic_46 := iv_ne c_46
                  have hK2 : ∀ r' : Int32, r'.toInt = l4_8.toInt + 1 → kI (ai 0) (st 7) (st 16) s32_8 r' := fun r' e => kI_skip hKI (by omega) e
                  obtain ⟨x_47, ex_47⟩ : ∃ z : Int32, z = l4_8 + (1) := ⟨_, rfl⟩
                  refine lv_iinc (v := x_47) (lv' := [(4, .int x_47), (5, .int r_2), (0, .ref o), (1, .int p0), (2, .long p1)]) hx hb dX9_keepRows_188 hl (k := 1) rfl (by rw [ex_47]; rfl) (by decide) rfl (fun ls hl => ?_)
                  have rg12 := iv_rng l4_8
                  have hx_47 : x_47.toInt = l4_8.toInt + (1) := by rw [ex_47]; exact (iv_add (by omega) (by omega)).trans (by omega)
                  clear ex_47
                  refine lv_goto (tgt := 8) hx hb dX9_keepRows_191 (by decide) ?_
                  exact ih8 x_47 s32_8 a31_8 _ _ _ (by omega) (by omega) (by omega) (by omega) (by assumption) (hK2 _ (by omega)) (by omega) hP hS (lv_sub hl [0, 2, 3, 4] rfl)
                · skip
                  have ic_46 := iv_eq c_46
                  have k_48 : (rK (ai 0) (st 7) l4_8).toInt ≠ 3 := (by first | omega | (rw [show l4_8 = (st 21) from Int32.toInt_inj.mp (by omega)]; omega))
                  have k_49 : s32_8.toInt ≤ l4_8.toInt := kI_at hKI (by omega)
                  refine lv_aload_n hx hb dX9_keepRows_170 rfl (lv_at hl 2 rfl) ?_
                  refine va_get (D := (dC, dI)) (ci := 11) (v := .ref (c 31)) (C := RX9) (T := TX9) (N := 38) hx hb hts hin9 hown hK hP 0 rfl rfl 31 (by decide) (hts (.fieldLink RX9 46 "BlockLogModel" "keptRow" "[I") (by decide +kernel)) (fun _ h9 => h9) rfl dX9_keepRows_171 ?_
                  refine lv_aload_n hx hb dX9_keepRows_174 rfl (lv_at hl 2 rfl) ?_
                  refine lv_dup hx hb dX9_keepRows_175 rfl ?_
                  refine va_get (D := (dC, dI)) (ci := 11) (v := .int s32_8) (C := RX9) (T := TX9) (N := 38) hx hb hts hin9 hown hK hP 0 rfl rfl 32 (by decide) (hts (.fieldLink RX9 328 "BlockLogModel" "kept" "I") (by decide +kernel)) (fun _ h9 => h9) rfl dX9_keepRows_176 ?_
                  refine lv_dup_x1 hx hb dX9_keepRows_179 rfl rfl ?_
                  refine lv_iconst (v := 1) hx hb dX9_keepRows_180 (by decide) ?_
                  refine lv_iadd hx hb dX9_keepRows_181 ?_
                  refine lv_topi (fun v_50 ev_50 => ?_)
                  have rg13 := iv_rng s32_8
                  have hv_50 : v_50.toInt = s32_8.toInt + 1 := by rw [ev_50]; exact (iv_add (by omega) (by omega)).trans (by omega)
                  clear ev_50
                  refine va_put (D := (dC, dI)) (ci := 11) (v := .int v_50) (ty := .int) (C := RX9) (T := TX9) (N := 38) hx hb hts hin9 tyX9 tyX9_ok nmX9 hown hK hP (rw_D hD) hS 0 rfl rfl 32 (by decide) (hts (.fieldLink RX9 328 "BlockLogModel" "kept" "I") (by decide +kernel)) (fun _ h9 => h9) rfl (by decide +kernel) rfl rfl (Nat.le_of_ble_eq_true rfl) dX9_keepRows_182 (fun H locs hP _ hS => ?_)
                  have hP : va_P (dC, dI) vwCl (rw_W o c kc (rU st 32 v_50) lg (rU ai 31 a31_8) al) H := hP
                  refine lv_iload hx hb dX9_keepRows_185 (lv_at hl 1 rfl) ?_
                  refine va_iast (f := a31_8) hx hb hK hP (rw_D hD) hS 12 11 rfl rfl (iv_in (i := s32_8) (by omega) (by omega)) dX9_keepRows_187 (fun H locs hP _ hS => ?_)
                  have hP : va_P (dC, dI) vwCl (rw_W o c kc (rU st 32 v_50) lg (rU ai 31 (upd a31_8 s32_8.toNatClampNeg l4_8)) al) H := hP
                  generalize hU_keptRow : upd a31_8 s32_8.toNatClampNeg l4_8 = g_51 at hP
                  have hR31 : aR g_51 128 (0) 127 := aR_upd hR31 hU_keptRow (by omega) (by omega)
                  clear hU_keptRow
                  have hK2 : ∀ r' : Int32, r'.toInt = l4_8.toInt + 1 → kI (ai 0) (st 7) (st 16) v_50 r' := fun r' e => kI_one (by omega) (by omega) e
                  obtain ⟨x_52, ex_52⟩ : ∃ z : Int32, z = l4_8 + (1) := ⟨_, rfl⟩
                  refine lv_iinc (v := x_52) (lv' := [(4, .int x_52), (5, .int r_2), (0, .ref o), (1, .int p0), (2, .long p1)]) hx hb dX9_keepRows_188 hl (k := 1) rfl (by rw [ex_52]; rfl) (by decide) rfl (fun ls hl => ?_)
                  have rg14 := iv_rng l4_8
                  have hx_52 : x_52.toInt = l4_8.toInt + (1) := by rw [ex_52]; exact (iv_add (by omega) (by omega)).trans (by omega)
                  clear ex_52
                  refine lv_goto (tgt := 8) hx hb dX9_keepRows_191 (by decide) ?_
                  exact ih8 x_52 v_50 g_51 _ _ _ (by omega) (by omega) (by omega) (by omega) (by assumption) (hK2 _ (by omega)) (by omega) hP hS (lv_sub hl [0, 2, 3, 4] rfl)
              · skip
                have ic_45 := iv_eq c_45
                exfalso
                omega
            · skip
              have ic_44 := iv_ne c_44
              have hok : okB (ai 0) (st 7) (st 16) l4_8 := cOK_use hC hX_counts (by omega) (by omega) (by omega) (by omega)
              have k_53 : 0 ≤ l4_8.toInt := hok.1
              have k_54 : 0 ≤ (rB (ai 0) (st 7) l4_8).toInt := hok.2.1
              have k_55 : (rB (ai 0) (st 7) l4_8).toInt ≤ 16 := hok.2.2.1
              have k_56 : l4_8.toInt + (rB (ai 0) (st 7) l4_8).toInt < (st 16).toInt := hok.2.2.2.1
              refine lv_aload_n hx hb dX9_keepRows_41 rfl (lv_at hl 2 rfl) ?_
              refine lv_iload hx hb dX9_keepRows_42 (lv_at hl 1 rfl) ?_
              refine vp_callSi (va_Run.run (va_runV (As := [.int l4_8]) (rest := []) ⟨hx, hb, hml, hown, hts⟩ (v_X9_aOf l dC dI o c kc (rU st 32 s32_8) lg (rU ai 31 a31_8) al l4_8 (show 0 ≤ (st 7).toInt by omega) (show (st 7).toInt ≤ 1 by omega) (by omega) (by omega)) (cwV 1 hts gX9_keepRows_X9_aOf rfl rfl rfl (by decide +kernel) ⟨Nat.le_of_ble_eq_true rfl, Nat.le_of_ble_eq_true rfl⟩) ⟨fun a U g mk q => by obtain ⟨q0, qP, qK⟩ := q; exact ⟨q0, qP, va_K.moved (u := U) (U := U.calling g mk a) (Vm.Alike.refl U.vm) qK⟩, va_recv hK hP (ci := 11) (q := (RX9, TX9, 38)) rfl (q0 := 0) rfl, fun U hU hW => ⟨rfl, by rw [hU]; exact hP, va_K.moved hW.alike hK⟩⟩ rfl rfl hl.1 rfl (lv_room (Nat.le_of_ble_eq_true rfl)) dX9_keepRows_44 ⟨Nat.le_of_ble_eq_true rfl, Nat.le_of_ble_eq_true rfl⟩)) (fun r_57 er_57 => ?_)
              have k_58 := er_57
              have k_58 : r_57.toInt = (rA (ai 0) (st 7) l4_8).toInt := k_58
              refine lv_iload_n hx hb dX9_keepRows_47 rfl (lv_at hl 3 rfl) ?_
              refine lv_icmp_le (tgt := 123) hx hb dX9_keepRows_48 (by decide) (fun c_59 => ?_) (fun c_59 => ?_)
              · skip
                have ic_59 := iv_le c_59
                refine lv_iload hx hb dX9_keepRows_123 (lv_at hl 0 rfl) ?_
                refine lv_iconst (v := 4) hx hb dX9_keepRows_125 (by decide) ?_
                refine lv_icmp_ne (tgt := 161) hx hb dX9_keepRows_126 (by decide) (fun c_60 => ?_) (fun c_60 => ?_)
                · skip
                  have ic_60 := iv_ne c_60
                  refine lv_iload hx hb dX9_keepRows_161 (lv_at hl 1 rfl) ?_
                  refine lv_aload_n hx hb dX9_keepRows_163 rfl (lv_at hl 2 rfl) ?_
                  refine va_get (D := (dC, dI)) (ci := 11) (v := .int (st 21)) (C := RX9) (T := TX9) (N := 38) hx hb hts hin9 hown hK hP 0 rfl rfl 21 (by decide) (hts (.fieldLink RX9 179 "BlockLogModel" "lastVote" "I") (by decide +kernel)) (fun _ h9 => h9) rfl dX9_keepRows_164 ?_
                  refine lv_icmp_ne (tgt := 188) hx hb dX9_keepRows_167 (by decide) (fun c_61 => ?_) (fun c_61 => ?_)
                  · skip
                    have ic_61 := iv_ne c_61
                    have hK2 : ∀ r' : Int32, r'.toInt = l4_8.toInt + 1 → kI (ai 0) (st 7) (st 16) s32_8 r' := fun r' e => kI_skip hKI (by omega) e
                    obtain ⟨x_62, ex_62⟩ : ∃ z : Int32, z = l4_8 + (1) := ⟨_, rfl⟩
                    refine lv_iinc (v := x_62) (lv' := [(4, .int x_62), (5, .int r_2), (0, .ref o), (1, .int p0), (2, .long p1)]) hx hb dX9_keepRows_188 hl (k := 1) rfl (by rw [ex_62]; rfl) (by decide) rfl (fun ls hl => ?_)
                    have rg15 := iv_rng l4_8
                    have hx_62 : x_62.toInt = l4_8.toInt + (1) := by rw [ex_62]; exact (iv_add (by omega) (by omega)).trans (by omega)
                    clear ex_62
                    refine lv_goto (tgt := 8) hx hb dX9_keepRows_191 (by decide) ?_
                    exact ih8 x_62 s32_8 a31_8 _ _ _ (by omega) (by omega) (by omega) (by omega) (by assumption) (hK2 _ (by omega)) (by omega) hP hS (lv_sub hl [0, 2, 3, 4] rfl)
                  · skip
                    have ic_61 := iv_eq c_61
                    have k_63 : (rK (ai 0) (st 7) l4_8).toInt ≠ 3 := (by first | omega | (rw [show l4_8 = (st 21) from Int32.toInt_inj.mp (by omega)]; omega))
                    have k_64 : s32_8.toInt ≤ l4_8.toInt := kI_at hKI (by omega)
                    refine lv_aload_n hx hb dX9_keepRows_170 rfl (lv_at hl 2 rfl) ?_
                    refine va_get (D := (dC, dI)) (ci := 11) (v := .ref (c 31)) (C := RX9) (T := TX9) (N := 38) hx hb hts hin9 hown hK hP 0 rfl rfl 31 (by decide) (hts (.fieldLink RX9 46 "BlockLogModel" "keptRow" "[I") (by decide +kernel)) (fun _ h9 => h9) rfl dX9_keepRows_171 ?_
                    refine lv_aload_n hx hb dX9_keepRows_174 rfl (lv_at hl 2 rfl) ?_
                    refine lv_dup hx hb dX9_keepRows_175 rfl ?_
                    refine va_get (D := (dC, dI)) (ci := 11) (v := .int s32_8) (C := RX9) (T := TX9) (N := 38) hx hb hts hin9 hown hK hP 0 rfl rfl 32 (by decide) (hts (.fieldLink RX9 328 "BlockLogModel" "kept" "I") (by decide +kernel)) (fun _ h9 => h9) rfl dX9_keepRows_176 ?_
                    refine lv_dup_x1 hx hb dX9_keepRows_179 rfl rfl ?_
                    refine lv_iconst (v := 1) hx hb dX9_keepRows_180 (by decide) ?_
                    refine lv_iadd hx hb dX9_keepRows_181 ?_
                    refine lv_topi (fun v_65 ev_65 => ?_)
                    have rg16 := iv_rng s32_8
                    have hv_65 : v_65.toInt = s32_8.toInt + 1 := by rw [ev_65]; exact (iv_add (by omega) (by omega)).trans (by omega)
                    clear ev_65
                    refine va_put (D := (dC, dI)) (ci := 11) (v := .int v_65) (ty := .int) (C := RX9) (T := TX9) (N := 38) hx hb hts hin9 tyX9 tyX9_ok nmX9 hown hK hP (rw_D hD) hS 0 rfl rfl 32 (by decide) (hts (.fieldLink RX9 328 "BlockLogModel" "kept" "I") (by decide +kernel)) (fun _ h9 => h9) rfl (by decide +kernel) rfl rfl (Nat.le_of_ble_eq_true rfl) dX9_keepRows_182 (fun H locs hP _ hS => ?_)
                    have hP : va_P (dC, dI) vwCl (rw_W o c kc (rU st 32 v_65) lg (rU ai 31 a31_8) al) H := hP
                    refine lv_iload hx hb dX9_keepRows_185 (lv_at hl 1 rfl) ?_
                    refine va_iast (f := a31_8) hx hb hK hP (rw_D hD) hS 12 11 rfl rfl (iv_in (i := s32_8) (by omega) (by omega)) dX9_keepRows_187 (fun H locs hP _ hS => ?_)
                    have hP : va_P (dC, dI) vwCl (rw_W o c kc (rU st 32 v_65) lg (rU ai 31 (upd a31_8 s32_8.toNatClampNeg l4_8)) al) H := hP
                    generalize hU_keptRow : upd a31_8 s32_8.toNatClampNeg l4_8 = g_66 at hP
                    have hR31 : aR g_66 128 (0) 127 := aR_upd hR31 hU_keptRow (by omega) (by omega)
                    clear hU_keptRow
                    have hK2 : ∀ r' : Int32, r'.toInt = l4_8.toInt + 1 → kI (ai 0) (st 7) (st 16) v_65 r' := fun r' e => kI_one (by omega) (by omega) e
                    obtain ⟨x_67, ex_67⟩ : ∃ z : Int32, z = l4_8 + (1) := ⟨_, rfl⟩
                    refine lv_iinc (v := x_67) (lv' := [(4, .int x_67), (5, .int r_2), (0, .ref o), (1, .int p0), (2, .long p1)]) hx hb dX9_keepRows_188 hl (k := 1) rfl (by rw [ex_67]; rfl) (by decide) rfl (fun ls hl => ?_)
                    have rg17 := iv_rng l4_8
                    have hx_67 : x_67.toInt = l4_8.toInt + (1) := by rw [ex_67]; exact (iv_add (by omega) (by omega)).trans (by omega)
                    clear ex_67
                    refine lv_goto (tgt := 8) hx hb dX9_keepRows_191 (by decide) ?_
                    exact ih8 x_67 v_65 g_66 _ _ _ (by omega) (by omega) (by omega) (by omega) (by assumption) (hK2 _ (by omega)) (by omega) hP hS (lv_sub hl [0, 2, 3, 4] rfl)
                · skip
                  have ic_60 := iv_eq c_60
                  exfalso
                  omega
              · skip
                have ic_59 := iv_nle c_59
                refine lv_aload_n hx hb dX9_keepRows_51 rfl (lv_at hl 2 rfl) ?_
                refine lv_iload hx hb dX9_keepRows_52 (lv_at hl 1 rfl) ?_
                refine vp_callSl (va_Run.run (va_runV (As := [.int l4_8]) (rest := []) ⟨hx, hb, hml, hown, hts⟩ (v_X9_cOf l dC dI o c kc (rU st 32 s32_8) lg (rU ai 31 a31_8) al l4_8 (show 0 ≤ (st 7).toInt by omega) (show (st 7).toInt ≤ 1 by omega) (by omega) (by omega)) (cwV 1 hts gX9_keepRows_X9_cOf rfl rfl rfl (by decide +kernel) ⟨Nat.le_of_ble_eq_true rfl, Nat.le_of_ble_eq_true rfl⟩) ⟨fun a U g mk q => by obtain ⟨q0, qP, qK⟩ := q; exact ⟨q0, qP, va_K.moved (u := U) (U := U.calling g mk a) (Vm.Alike.refl U.vm) qK⟩, va_recv hK hP (ci := 11) (q := (RX9, TX9, 38)) rfl (q0 := 0) rfl, fun U hU hW => ⟨rfl, by rw [hU]; exact hP, va_K.moved hW.alike hK⟩⟩ rfl rfl hl.1 rfl (lv_room (Nat.le_of_ble_eq_true rfl)) dX9_keepRows_54 ⟨Nat.le_of_ble_eq_true rfl, Nat.le_of_ble_eq_true rfl⟩)) (fun r_68 er_68 => ?_)
                have hc := er_68
                have hc : r_68 = rC (ai 0) (st 7) l4_8 := hc
                refine lv_lload_n hx hb dX9_keepRows_57 rfl (lv_at hl 4 rfl) ?_
                refine W.lcmp hx hb dX9_keepRows_58 ?_
                refine lv_topi (fun v_69 ev_69 => ?_)
                clear ev_69
                refine lv_if_eq (tgt := 75) hx hb dX9_keepRows_59 (by decide) (fun c_70 => ?_) (fun c_70 => ?_)
                · skip
                  have ic_70 := iv_eq c_70
                  have k_71 : s32_8.toInt ≤ l4_8.toInt := kI_at hKI (by omega)
                  refine lv_aload_n hx hb dX9_keepRows_75 rfl (lv_at hl 2 rfl) ?_
                  refine lv_iload hx hb dX9_keepRows_76 (lv_at hl 1 rfl) ?_
                  refine vp_callSi (va_Run.run (va_runV (As := [.int l4_8]) (rest := []) ⟨hx, hb, hml, hown, hts⟩ (v_X9_bOf l dC dI o c kc (rU st 32 s32_8) lg (rU ai 31 a31_8) al l4_8 (show 0 ≤ (st 7).toInt by omega) (show (st 7).toInt ≤ 1 by omega) (by omega) (by omega)) (cwV 1 hts gX9_keepRows_X9_bOf rfl rfl rfl (by decide +kernel) ⟨Nat.le_of_ble_eq_true rfl, Nat.le_of_ble_eq_true rfl⟩) ⟨fun a U g mk q => by obtain ⟨q0, qP, qK⟩ := q; exact ⟨q0, qP, va_K.moved (u := U) (U := U.calling g mk a) (Vm.Alike.refl U.vm) qK⟩, va_recv hK hP (ci := 11) (q := (RX9, TX9, 38)) rfl (q0 := 0) rfl, fun U hU hW => ⟨rfl, by rw [hU]; exact hP, va_K.moved hW.alike hK⟩⟩ rfl rfl hl.1 rfl (lv_room (Nat.le_of_ble_eq_true rfl)) dX9_keepRows_78 ⟨Nat.le_of_ble_eq_true rfl, Nat.le_of_ble_eq_true rfl⟩)) (fun r_72 er_72 => ?_)
                  have k_73 := er_72
                  have k_73 : r_72.toInt = (rB (ai 0) (st 7) l4_8).toInt := k_73
                  refine lv_istore (lv' := [(6, .int r_72), (5, .int r_2), (4, .int l4_8), (0, .ref o), (1, .int p0), (2, .long p1)]) hx hb dX9_keepRows_81 hl (by decide) rfl (fun ls hl => ?_)
                  refine lv_iconst (v := 0) hx hb dX9_keepRows_83 (by decide) ?_
                  refine lv_istore (lv' := [(7, .int (0 : Int32)), (6, .int r_72), (5, .int r_2), (4, .int l4_8), (0, .ref o), (1, .int p0), (2, .long p1)]) hx hb dX9_keepRows_84 hl (by decide) rfl (fun ls hl => ?_)
                  have loop86 : ∀ (n : Nat) (l7_86 : Int32) (s32_86 : Int32) (a31_86 : Nat → Int32) (H : Heap) (locs : List Loc) (ls : Array Slot), (0 ≤ l7_86.toInt) → (l7_86.toInt ≤ r_72.toInt + 1) → (s32_86.toInt ≤ l4_8.toInt + l7_86.toInt) → (0 ≤ s32_86.toInt) → (s32_86.toInt ≤ 128) → (aR a31_86 128 (0) 127) → (r_72.toInt + 1 - l7_86.toInt : Int).toNat < n → va_P (dC, dI) vwCl (rw_W o c kc (rU st 32 s32_86) lg (rU ai 31 a31_86) al) H → va_S A s.heap H locs → lv_has ls 8 [(7, .int l7_86), (6, .int r_72), (5, .int r_2), (4, .int l4_8), (0, .ref o), (1, .int p0), (2, .long p1)] → W p l e (headSpec wsX9_keepRows ({ frames := 3, cells := 0, slots := 0, locals := 70 })).room s m ([.ref o, .int p0, .long p1] : List Value).toArray below meth cM H locs 0 0 (MQ below (va_Qv (fun (_ : Unit) => True) (fun _ t => ∃ (x32 : Int32) (f31 : Nat → Int32), (0 ≤ x32.toInt) ∧ (x32.toInt ≤ 128) ∧ (aR f31 128 (0) 127) ∧ va_P (dC, dI) vwCl (rw_W o c kc (rU st 32 x32) lg (rU ai 31 f31) al) t.heap) A) ([.ref o, .int p0, .long p1] : List Value).toArray s 0 0 A) (F0 m 86 ls []) := by
                    intro n
                    induction n with
                    | zero => intro l7_86 s32_86 a31_86 H locs ls if0_86 if1_86 if2_86 if3_86 if4_86 hR31 hm; exact absurd hm (Nat.not_lt_zero _)
                    | succ n ih86 =>
                      intro l7_86 s32_86 a31_86 H locs ls if0_86 if1_86 if2_86 if3_86 if4_86 hR31 hm86 hP hS hl
                      refine lv_iload hx hb dX9_keepRows_86 (lv_at hl 0 rfl) ?_
                      refine lv_iload hx hb dX9_keepRows_88 (lv_at hl 1 rfl) ?_
                      refine lv_icmp_gt (tgt := 120) hx hb dX9_keepRows_90 (by decide) (fun c_74 => ?_) (fun c_74 => ?_)
                      · skip
                        have ic_74 := iv_lt c_74
                        have hK2 : ∀ r' : Int32, r'.toInt = l4_8.toInt + 1 → kI (ai 0) (st 7) (st 16) s32_86 r' := fun r' e => kI_grp hok (by omega) e
                        refine lv_goto (tgt := 188) hx hb dX9_keepRows_120 (by decide) ?_
                        obtain ⟨x_75, ex_75⟩ : ∃ z : Int32, z = l4_8 + (1) := ⟨_, rfl⟩
                        refine lv_iinc (v := x_75) (lv' := [(4, .int x_75), (7, .int l7_86), (6, .int r_72), (5, .int r_2), (0, .ref o), (1, .int p0), (2, .long p1)]) hx hb dX9_keepRows_188 hl (k := 3) rfl (by rw [ex_75]; rfl) (by decide) rfl (fun ls hl => ?_)
                        have rg18 := iv_rng l4_8
                        have hx_75 : x_75.toInt = l4_8.toInt + (1) := by rw [ex_75]; exact (iv_add (by omega) (by omega)).trans (by omega)
                        clear ex_75
                        refine lv_goto (tgt := 8) hx hb dX9_keepRows_191 (by decide) ?_
                        exact ih8 x_75 s32_86 a31_86 _ _ _ (by omega) (by omega) (by omega) (by omega) (by assumption) (hK2 _ (by omega)) (by omega) hP hS (lv_sub hl [0, 4, 5, 6] rfl)
                      · skip
                        have ic_74 := iv_nlt c_74
                        refine lv_aload_n hx hb dX9_keepRows_93 rfl (lv_at hl 4 rfl) ?_
                        refine va_get (D := (dC, dI)) (ci := 11) (v := .ref (c 31)) (C := RX9) (T := TX9) (N := 38) hx hb hts hin9 hown hK hP 0 rfl rfl 31 (by decide) (hts (.fieldLink RX9 46 "BlockLogModel" "keptRow" "[I") (by decide +kernel)) (fun _ h9 => h9) rfl dX9_keepRows_94 ?_
                        refine lv_aload_n hx hb dX9_keepRows_97 rfl (lv_at hl 4 rfl) ?_
                        refine lv_dup hx hb dX9_keepRows_98 rfl ?_
                        refine va_get (D := (dC, dI)) (ci := 11) (v := .int s32_86) (C := RX9) (T := TX9) (N := 38) hx hb hts hin9 hown hK hP 0 rfl rfl 32 (by decide) (hts (.fieldLink RX9 328 "BlockLogModel" "kept" "I") (by decide +kernel)) (fun _ h9 => h9) rfl dX9_keepRows_99 ?_
                        refine lv_dup_x1 hx hb dX9_keepRows_102 rfl rfl ?_
                        refine lv_iconst (v := 1) hx hb dX9_keepRows_103 (by decide) ?_
                        refine lv_iadd hx hb dX9_keepRows_104 ?_
                        refine lv_topi (fun v_76 ev_76 => ?_)
                        have rg19 := iv_rng s32_86
                        have hv_76 : v_76.toInt = s32_86.toInt + 1 := by rw [ev_76]; exact (iv_add (by omega) (by omega)).trans (by omega)
                        clear ev_76
                        refine va_put (D := (dC, dI)) (ci := 11) (v := .int v_76) (ty := .int) (C := RX9) (T := TX9) (N := 38) hx hb hts hin9 tyX9 tyX9_ok nmX9 hown hK hP (rw_D hD) hS 0 rfl rfl 32 (by decide) (hts (.fieldLink RX9 328 "BlockLogModel" "kept" "I") (by decide +kernel)) (fun _ h9 => h9) rfl (by decide +kernel) rfl rfl (Nat.le_of_ble_eq_true rfl) dX9_keepRows_105 (fun H locs hP _ hS => ?_)
                        have hP : va_P (dC, dI) vwCl (rw_W o c kc (rU st 32 v_76) lg (rU ai 31 a31_86) al) H := hP
                        refine lv_iload hx hb dX9_keepRows_108 (lv_at hl 3 rfl) ?_
                        refine lv_iload hx hb dX9_keepRows_110 (lv_at hl 0 rfl) ?_
                        refine lv_iadd hx hb dX9_keepRows_112 ?_
                        refine lv_topi (fun v_77 ev_77 => ?_)
                        have rg20 := iv_rng l4_8
                        have rg21 := iv_rng l7_86
                        have hv_77 : v_77.toInt = l4_8.toInt + l7_86.toInt := by rw [ev_77]; exact (iv_add (by omega) (by omega)).trans (by omega)
                        clear ev_77
                        refine va_iast (f := a31_86) hx hb hK hP (rw_D hD) hS 12 11 rfl rfl (iv_in (i := s32_86) (by omega) (by omega)) dX9_keepRows_113 (fun H locs hP _ hS => ?_)
                        have hP : va_P (dC, dI) vwCl (rw_W o c kc (rU st 32 v_76) lg (rU ai 31 (upd a31_86 s32_86.toNatClampNeg v_77)) al) H := hP
                        generalize hU_keptRow : upd a31_86 s32_86.toNatClampNeg v_77 = g_78 at hP
                        have hR31 : aR g_78 128 (0) 127 := aR_upd hR31 hU_keptRow (by omega) (by omega)
                        clear hU_keptRow
                        obtain ⟨x_79, ex_79⟩ : ∃ z : Int32, z = l7_86 + (1) := ⟨_, rfl⟩
                        refine lv_iinc (v := x_79) (lv' := [(7, .int x_79), (6, .int r_72), (5, .int r_2), (4, .int l4_8), (0, .ref o), (1, .int p0), (2, .long p1)]) hx hb dX9_keepRows_114 hl (k := 0) rfl (by rw [ex_79]; rfl) (by decide) rfl (fun ls hl => ?_)
                        have hx_79 : x_79.toInt = l7_86.toInt + (1) := by rw [ex_79]; exact (iv_add (by omega) (by omega)).trans (by omega)
                        clear ex_79
                        refine lv_goto (tgt := 86) hx hb dX9_keepRows_117 (by decide) ?_
                        exact ih86 x_79 v_76 g_78 _ _ _ (by omega) (by omega) (by omega) (by omega) (by omega) (by assumption) (by omega) hP hS (lv_sub hl [0, 1, 2, 3, 4, 5, 6] rfl)
                  exact loop86 ((r_72.toInt + 1 - 0 : Int).toNat + 1) (0 : Int32) s32_8 a31_8 _ _ _ (by omega) (by omega) (by omega) (by omega) (by omega) (by assumption) (by omega) hP hS (lv_sub hl [0, 1, 2, 3, 4, 5, 6] rfl)
                · skip
                  have ic_70 := iv_ne c_70
                  refine lv_aload_n hx hb dX9_keepRows_62 rfl (lv_at hl 2 rfl) ?_
                  refine lv_aload_n hx hb dX9_keepRows_63 rfl (lv_at hl 2 rfl) ?_
                  refine lv_iload hx hb dX9_keepRows_64 (lv_at hl 1 rfl) ?_
                  refine vp_callSl (va_Run.run (va_runV (As := [.int l4_8]) (rest := [.ref o]) ⟨hx, hb, hml, hown, hts⟩ (v_X9_cOf l dC dI o c kc (rU st 32 s32_8) lg (rU ai 31 a31_8) al l4_8 (show 0 ≤ (st 7).toInt by omega) (show (st 7).toInt ≤ 1 by omega) (by omega) (by omega)) (cwV 1 hts gX9_keepRows_X9_cOf rfl rfl rfl (by decide +kernel) ⟨Nat.le_of_ble_eq_true rfl, Nat.le_of_ble_eq_true rfl⟩) ⟨fun a U g mk q => by obtain ⟨q0, qP, qK⟩ := q; exact ⟨q0, qP, va_K.moved (u := U) (U := U.calling g mk a) (Vm.Alike.refl U.vm) qK⟩, va_recv hK hP (ci := 11) (q := (RX9, TX9, 38)) rfl (q0 := 0) rfl, fun U hU hW => ⟨rfl, by rw [hU]; exact hP, va_K.moved hW.alike hK⟩⟩ rfl rfl hl.1 rfl (lv_room (Nat.le_of_ble_eq_true rfl)) dX9_keepRows_66 ⟨Nat.le_of_ble_eq_true rfl, Nat.le_of_ble_eq_true rfl⟩)) (fun r_80 er_80 => ?_)
                  have hc := er_80
                  have hc : r_80 = rC (ai 0) (st 7) l4_8 := hc
                  refine vp_callSi (va_Run.run (va_runV (As := [.long r_80]) (rest := []) ⟨hx, hb, hml, hown, hts⟩ (v_X9_isKeptBlock l dC dI o c kc (rU st 32 s32_8) lg (rU ai 31 a31_8) al r_80 (show 0 ≤ (st 7).toInt by omega) (show (st 7).toInt ≤ 1 by omega) (show 0 ≤ s32_8.toInt by omega) (show s32_8.toInt ≤ 128 by omega) (show aR a31_8 128 (0) 127 from hR31)) (cwV 1 hts gX9_keepRows_X9_isKeptBlock rfl rfl rfl (by decide +kernel) ⟨Nat.le_of_ble_eq_true rfl, Nat.le_of_ble_eq_true rfl⟩) ⟨fun a U g mk q => by obtain ⟨q0, qP, qK⟩ := q; exact ⟨q0, qP, va_K.moved (u := U) (U := U.calling g mk a) (Vm.Alike.refl U.vm) qK⟩, va_recv hK hP (ci := 11) (q := (RX9, TX9, 38)) rfl (q0 := 0) rfl, fun U hU hW => ⟨rfl, by rw [hU]; exact hP, va_K.moved hW.alike hK⟩⟩ rfl rfl hl.1 rfl (lv_room (Nat.le_of_ble_eq_true rfl)) dX9_keepRows_69 ⟨Nat.le_of_ble_eq_true rfl, Nat.le_of_ble_eq_true rfl⟩)) (fun r_81 er_81 => ?_)
                  obtain ⟨k_82, k_83⟩ := er_81
                  rcases iv_01 (a := r_81) (by omega) (by omega) with b_84 | b_84
                  · skip
                    have ib_84 := iv_eq b_84
                    rw [b_84]
                    refine lv_if_eq (tgt := 123) hx hb dX9_keepRows_72 (by decide) (fun c_85 => ?_) (fun c_85 => ?_)
                    · skip
                      have ic_85 := iv_eq c_85
                      refine lv_iload hx hb dX9_keepRows_123 (lv_at hl 0 rfl) ?_
                      refine lv_iconst (v := 4) hx hb dX9_keepRows_125 (by decide) ?_
                      refine lv_icmp_ne (tgt := 161) hx hb dX9_keepRows_126 (by decide) (fun c_86 => ?_) (fun c_86 => ?_)
                      · skip
                        have ic_86 := iv_ne c_86
                        refine lv_iload hx hb dX9_keepRows_161 (lv_at hl 1 rfl) ?_
                        refine lv_aload_n hx hb dX9_keepRows_163 rfl (lv_at hl 2 rfl) ?_
                        refine va_get (D := (dC, dI)) (ci := 11) (v := .int (st 21)) (C := RX9) (T := TX9) (N := 38) hx hb hts hin9 hown hK hP 0 rfl rfl 21 (by decide) (hts (.fieldLink RX9 179 "BlockLogModel" "lastVote" "I") (by decide +kernel)) (fun _ h9 => h9) rfl dX9_keepRows_164 ?_
                        refine lv_icmp_ne (tgt := 188) hx hb dX9_keepRows_167 (by decide) (fun c_87 => ?_) (fun c_87 => ?_)
                        · skip
                          have ic_87 := iv_ne c_87
                          have hK2 : ∀ r' : Int32, r'.toInt = l4_8.toInt + 1 → kI (ai 0) (st 7) (st 16) s32_8 r' := fun r' e => kI_skip hKI (by omega) e
                          obtain ⟨x_88, ex_88⟩ : ∃ z : Int32, z = l4_8 + (1) := ⟨_, rfl⟩
                          refine lv_iinc (v := x_88) (lv' := [(4, .int x_88), (5, .int r_2), (0, .ref o), (1, .int p0), (2, .long p1)]) hx hb dX9_keepRows_188 hl (k := 1) rfl (by rw [ex_88]; rfl) (by decide) rfl (fun ls hl => ?_)
                          have rg22 := iv_rng l4_8
                          have hx_88 : x_88.toInt = l4_8.toInt + (1) := by rw [ex_88]; exact (iv_add (by omega) (by omega)).trans (by omega)
                          clear ex_88
                          refine lv_goto (tgt := 8) hx hb dX9_keepRows_191 (by decide) ?_
                          exact ih8 x_88 s32_8 a31_8 _ _ _ (by omega) (by omega) (by omega) (by omega) (by assumption) (hK2 _ (by omega)) (by omega) hP hS (lv_sub hl [0, 2, 3, 4] rfl)
                        · skip
                          have ic_87 := iv_eq c_87
                          have k_89 : (rK (ai 0) (st 7) l4_8).toInt ≠ 3 := (by first | omega | (rw [show l4_8 = (st 21) from Int32.toInt_inj.mp (by omega)]; omega))
                          have k_90 : s32_8.toInt ≤ l4_8.toInt := kI_at hKI (by omega)
                          refine lv_aload_n hx hb dX9_keepRows_170 rfl (lv_at hl 2 rfl) ?_
                          refine va_get (D := (dC, dI)) (ci := 11) (v := .ref (c 31)) (C := RX9) (T := TX9) (N := 38) hx hb hts hin9 hown hK hP 0 rfl rfl 31 (by decide) (hts (.fieldLink RX9 46 "BlockLogModel" "keptRow" "[I") (by decide +kernel)) (fun _ h9 => h9) rfl dX9_keepRows_171 ?_
                          refine lv_aload_n hx hb dX9_keepRows_174 rfl (lv_at hl 2 rfl) ?_
                          refine lv_dup hx hb dX9_keepRows_175 rfl ?_
                          refine va_get (D := (dC, dI)) (ci := 11) (v := .int s32_8) (C := RX9) (T := TX9) (N := 38) hx hb hts hin9 hown hK hP 0 rfl rfl 32 (by decide) (hts (.fieldLink RX9 328 "BlockLogModel" "kept" "I") (by decide +kernel)) (fun _ h9 => h9) rfl dX9_keepRows_176 ?_
                          refine lv_dup_x1 hx hb dX9_keepRows_179 rfl rfl ?_
                          refine lv_iconst (v := 1) hx hb dX9_keepRows_180 (by decide) ?_
                          refine lv_iadd hx hb dX9_keepRows_181 ?_
                          refine lv_topi (fun v_91 ev_91 => ?_)
                          have rg23 := iv_rng s32_8
                          have hv_91 : v_91.toInt = s32_8.toInt + 1 := by rw [ev_91]; exact (iv_add (by omega) (by omega)).trans (by omega)
                          clear ev_91
                          refine va_put (D := (dC, dI)) (ci := 11) (v := .int v_91) (ty := .int) (C := RX9) (T := TX9) (N := 38) hx hb hts hin9 tyX9 tyX9_ok nmX9 hown hK hP (rw_D hD) hS 0 rfl rfl 32 (by decide) (hts (.fieldLink RX9 328 "BlockLogModel" "kept" "I") (by decide +kernel)) (fun _ h9 => h9) rfl (by decide +kernel) rfl rfl (Nat.le_of_ble_eq_true rfl) dX9_keepRows_182 (fun H locs hP _ hS => ?_)
                          have hP : va_P (dC, dI) vwCl (rw_W o c kc (rU st 32 v_91) lg (rU ai 31 a31_8) al) H := hP
                          refine lv_iload hx hb dX9_keepRows_185 (lv_at hl 1 rfl) ?_
                          refine va_iast (f := a31_8) hx hb hK hP (rw_D hD) hS 12 11 rfl rfl (iv_in (i := s32_8) (by omega) (by omega)) dX9_keepRows_187 (fun H locs hP _ hS => ?_)
                          have hP : va_P (dC, dI) vwCl (rw_W o c kc (rU st 32 v_91) lg (rU ai 31 (upd a31_8 s32_8.toNatClampNeg l4_8)) al) H := hP
                          generalize hU_keptRow : upd a31_8 s32_8.toNatClampNeg l4_8 = g_92 at hP
                          have hR31 : aR g_92 128 (0) 127 := aR_upd hR31 hU_keptRow (by omega) (by omega)
                          clear hU_keptRow
                          have hK2 : ∀ r' : Int32, r'.toInt = l4_8.toInt + 1 → kI (ai 0) (st 7) (st 16) v_91 r' := fun r' e => kI_one (by omega) (by omega) e
                          obtain ⟨x_93, ex_93⟩ : ∃ z : Int32, z = l4_8 + (1) := ⟨_, rfl⟩
                          refine lv_iinc (v := x_93) (lv' := [(4, .int x_93), (5, .int r_2), (0, .ref o), (1, .int p0), (2, .long p1)]) hx hb dX9_keepRows_188 hl (k := 1) rfl (by rw [ex_93]; rfl) (by decide) rfl (fun ls hl => ?_)
                          have rg24 := iv_rng l4_8
                          have hx_93 : x_93.toInt = l4_8.toInt + (1) := by rw [ex_93]; exact (iv_add (by omega) (by omega)).trans (by omega)
                          clear ex_93
                          refine lv_goto (tgt := 8) hx hb dX9_keepRows_191 (by decide) ?_
                          exact ih8 x_93 v_91 g_92 _ _ _ (by omega) (by omega) (by omega) (by omega) (by assumption) (hK2 _ (by omega)) (by omega) hP hS (lv_sub hl [0, 2, 3, 4] rfl)
                      · skip
                        have ic_86 := iv_eq c_86
                        exfalso
                        omega
                    · skip
                      have ic_85 := iv_ne c_85
                      exfalso
                      omega
                  · skip
                    have ib_84 := iv_eq b_84
                    rw [b_84]
                    refine lv_if_eq (tgt := 123) hx hb dX9_keepRows_72 (by decide) (fun c_94 => ?_) (fun c_94 => ?_)
                    · skip
                      have ic_94 := iv_eq c_94
                      exfalso
                      omega
                    · skip
                      have ic_94 := iv_ne c_94
                      have k_95 : s32_8.toInt ≤ l4_8.toInt := kI_at hKI (by omega)
                      refine lv_aload_n hx hb dX9_keepRows_75 rfl (lv_at hl 2 rfl) ?_
                      refine lv_iload hx hb dX9_keepRows_76 (lv_at hl 1 rfl) ?_
                      refine vp_callSi (va_Run.run (va_runV (As := [.int l4_8]) (rest := []) ⟨hx, hb, hml, hown, hts⟩ (v_X9_bOf l dC dI o c kc (rU st 32 s32_8) lg (rU ai 31 a31_8) al l4_8 (show 0 ≤ (st 7).toInt by omega) (show (st 7).toInt ≤ 1 by omega) (by omega) (by omega)) (cwV 1 hts gX9_keepRows_X9_bOf rfl rfl rfl (by decide +kernel) ⟨Nat.le_of_ble_eq_true rfl, Nat.le_of_ble_eq_true rfl⟩) ⟨fun a U g mk q => by obtain ⟨q0, qP, qK⟩ := q; exact ⟨q0, qP, va_K.moved (u := U) (U := U.calling g mk a) (Vm.Alike.refl U.vm) qK⟩, va_recv hK hP (ci := 11) (q := (RX9, TX9, 38)) rfl (q0 := 0) rfl, fun U hU hW => ⟨rfl, by rw [hU]; exact hP, va_K.moved hW.alike hK⟩⟩ rfl rfl hl.1 rfl (lv_room (Nat.le_of_ble_eq_true rfl)) dX9_keepRows_78 ⟨Nat.le_of_ble_eq_true rfl, Nat.le_of_ble_eq_true rfl⟩)) (fun r_96 er_96 => ?_)
                      have k_97 := er_96
                      have k_97 : r_96.toInt = (rB (ai 0) (st 7) l4_8).toInt := k_97
                      refine lv_istore (lv' := [(6, .int r_96), (5, .int r_2), (4, .int l4_8), (0, .ref o), (1, .int p0), (2, .long p1)]) hx hb dX9_keepRows_81 hl (by decide) rfl (fun ls hl => ?_)
                      refine lv_iconst (v := 0) hx hb dX9_keepRows_83 (by decide) ?_
                      refine lv_istore (lv' := [(7, .int (0 : Int32)), (6, .int r_96), (5, .int r_2), (4, .int l4_8), (0, .ref o), (1, .int p0), (2, .long p1)]) hx hb dX9_keepRows_84 hl (by decide) rfl (fun ls hl => ?_)
                      have loop86 : ∀ (n : Nat) (l7_86 : Int32) (s32_86 : Int32) (a31_86 : Nat → Int32) (H : Heap) (locs : List Loc) (ls : Array Slot), (0 ≤ l7_86.toInt) → (l7_86.toInt ≤ r_96.toInt + 1) → (s32_86.toInt ≤ l4_8.toInt + l7_86.toInt) → (0 ≤ s32_86.toInt) → (s32_86.toInt ≤ 128) → (aR a31_86 128 (0) 127) → (r_96.toInt + 1 - l7_86.toInt : Int).toNat < n → va_P (dC, dI) vwCl (rw_W o c kc (rU st 32 s32_86) lg (rU ai 31 a31_86) al) H → va_S A s.heap H locs → lv_has ls 8 [(7, .int l7_86), (6, .int r_96), (5, .int r_2), (4, .int l4_8), (0, .ref o), (1, .int p0), (2, .long p1)] → W p l e (headSpec wsX9_keepRows ({ frames := 3, cells := 0, slots := 0, locals := 70 })).room s m ([.ref o, .int p0, .long p1] : List Value).toArray below meth cM H locs 0 0 (MQ below (va_Qv (fun (_ : Unit) => True) (fun _ t => ∃ (x32 : Int32) (f31 : Nat → Int32), (0 ≤ x32.toInt) ∧ (x32.toInt ≤ 128) ∧ (aR f31 128 (0) 127) ∧ va_P (dC, dI) vwCl (rw_W o c kc (rU st 32 x32) lg (rU ai 31 f31) al) t.heap) A) ([.ref o, .int p0, .long p1] : List Value).toArray s 0 0 A) (F0 m 86 ls []) := by
                        intro n
                        induction n with
                        | zero => intro l7_86 s32_86 a31_86 H locs ls if0_86 if1_86 if2_86 if3_86 if4_86 hR31 hm; exact absurd hm (Nat.not_lt_zero _)
                        | succ n ih86 =>
                          intro l7_86 s32_86 a31_86 H locs ls if0_86 if1_86 if2_86 if3_86 if4_86 hR31 hm86 hP hS hl
                          refine lv_iload hx hb dX9_keepRows_86 (lv_at hl 0 rfl) ?_
                          refine lv_iload hx hb dX9_keepRows_88 (lv_at hl 1 rfl) ?_
                          refine lv_icmp_gt (tgt := 120) hx hb dX9_keepRows_90 (by decide) (fun c_98 => ?_) (fun c_98 => ?_)
                          · skip
                            have ic_98 := iv_lt c_98
                            have hK2 : ∀ r' : Int32, r'.toInt = l4_8.toInt + 1 → kI (ai 0) (st 7) (st 16) s32_86 r' := fun r' e => kI_grp hok (by omega) e
                            refine lv_goto (tgt := 188) hx hb dX9_keepRows_120 (by decide) ?_
                            obtain ⟨x_99, ex_99⟩ : ∃ z : Int32, z = l4_8 + (1) := ⟨_, rfl⟩
                            refine lv_iinc (v := x_99) (lv' := [(4, .int x_99), (7, .int l7_86), (6, .int r_96), (5, .int r_2), (0, .ref o), (1, .int p0), (2, .long p1)]) hx hb dX9_keepRows_188 hl (k := 3) rfl (by rw [ex_99]; rfl) (by decide) rfl (fun ls hl => ?_)
                            have rg25 := iv_rng l4_8
                            have hx_99 : x_99.toInt = l4_8.toInt + (1) := by rw [ex_99]; exact (iv_add (by omega) (by omega)).trans (by omega)
                            clear ex_99
                            refine lv_goto (tgt := 8) hx hb dX9_keepRows_191 (by decide) ?_
                            exact ih8 x_99 s32_86 a31_86 _ _ _ (by omega) (by omega) (by omega) (by omega) (by assumption) (hK2 _ (by omega)) (by omega) hP hS (lv_sub hl [0, 4, 5, 6] rfl)
                          · skip
                            have ic_98 := iv_nlt c_98
                            refine lv_aload_n hx hb dX9_keepRows_93 rfl (lv_at hl 4 rfl) ?_
                            refine va_get (D := (dC, dI)) (ci := 11) (v := .ref (c 31)) (C := RX9) (T := TX9) (N := 38) hx hb hts hin9 hown hK hP 0 rfl rfl 31 (by decide) (hts (.fieldLink RX9 46 "BlockLogModel" "keptRow" "[I") (by decide +kernel)) (fun _ h9 => h9) rfl dX9_keepRows_94 ?_
                            refine lv_aload_n hx hb dX9_keepRows_97 rfl (lv_at hl 4 rfl) ?_
                            refine lv_dup hx hb dX9_keepRows_98 rfl ?_
                            refine va_get (D := (dC, dI)) (ci := 11) (v := .int s32_86) (C := RX9) (T := TX9) (N := 38) hx hb hts hin9 hown hK hP 0 rfl rfl 32 (by decide) (hts (.fieldLink RX9 328 "BlockLogModel" "kept" "I") (by decide +kernel)) (fun _ h9 => h9) rfl dX9_keepRows_99 ?_
                            refine lv_dup_x1 hx hb dX9_keepRows_102 rfl rfl ?_
                            refine lv_iconst (v := 1) hx hb dX9_keepRows_103 (by decide) ?_
                            refine lv_iadd hx hb dX9_keepRows_104 ?_
                            refine lv_topi (fun v_100 ev_100 => ?_)
                            have rg26 := iv_rng s32_86
                            have hv_100 : v_100.toInt = s32_86.toInt + 1 := by rw [ev_100]; exact (iv_add (by omega) (by omega)).trans (by omega)
                            clear ev_100
                            refine va_put (D := (dC, dI)) (ci := 11) (v := .int v_100) (ty := .int) (C := RX9) (T := TX9) (N := 38) hx hb hts hin9 tyX9 tyX9_ok nmX9 hown hK hP (rw_D hD) hS 0 rfl rfl 32 (by decide) (hts (.fieldLink RX9 328 "BlockLogModel" "kept" "I") (by decide +kernel)) (fun _ h9 => h9) rfl (by decide +kernel) rfl rfl (Nat.le_of_ble_eq_true rfl) dX9_keepRows_105 (fun H locs hP _ hS => ?_)
                            have hP : va_P (dC, dI) vwCl (rw_W o c kc (rU st 32 v_100) lg (rU ai 31 a31_86) al) H := hP
                            refine lv_iload hx hb dX9_keepRows_108 (lv_at hl 3 rfl) ?_
                            refine lv_iload hx hb dX9_keepRows_110 (lv_at hl 0 rfl) ?_
                            refine lv_iadd hx hb dX9_keepRows_112 ?_
                            refine lv_topi (fun v_101 ev_101 => ?_)
                            have rg27 := iv_rng l4_8
                            have rg28 := iv_rng l7_86
                            have hv_101 : v_101.toInt = l4_8.toInt + l7_86.toInt := by rw [ev_101]; exact (iv_add (by omega) (by omega)).trans (by omega)
                            clear ev_101
                            refine va_iast (f := a31_86) hx hb hK hP (rw_D hD) hS 12 11 rfl rfl (iv_in (i := s32_86) (by omega) (by omega)) dX9_keepRows_113 (fun H locs hP _ hS => ?_)
                            have hP : va_P (dC, dI) vwCl (rw_W o c kc (rU st 32 v_100) lg (rU ai 31 (upd a31_86 s32_86.toNatClampNeg v_101)) al) H := hP
                            generalize hU_keptRow : upd a31_86 s32_86.toNatClampNeg v_101 = g_102 at hP
                            have hR31 : aR g_102 128 (0) 127 := aR_upd hR31 hU_keptRow (by omega) (by omega)
                            clear hU_keptRow
                            obtain ⟨x_103, ex_103⟩ : ∃ z : Int32, z = l7_86 + (1) := ⟨_, rfl⟩
                            refine lv_iinc (v := x_103) (lv' := [(7, .int x_103), (6, .int r_96), (5, .int r_2), (4, .int l4_8), (0, .ref o), (1, .int p0), (2, .long p1)]) hx hb dX9_keepRows_114 hl (k := 0) rfl (by rw [ex_103]; rfl) (by decide) rfl (fun ls hl => ?_)
                            have hx_103 : x_103.toInt = l7_86.toInt + (1) := by rw [ex_103]; exact (iv_add (by omega) (by omega)).trans (by omega)
                            clear ex_103
                            refine lv_goto (tgt := 86) hx hb dX9_keepRows_117 (by decide) ?_
                            exact ih86 x_103 v_100 g_102 _ _ _ (by omega) (by omega) (by omega) (by omega) (by omega) (by assumption) (by omega) hP hS (lv_sub hl [0, 1, 2, 3, 4, 5, 6] rfl)
                      exact loop86 ((r_96.toInt + 1 - 0 : Int).toNat + 1) (0 : Int32) s32_8 a31_8 _ _ _ (by omega) (by omega) (by omega) (by omega) (by omega) (by assumption) (by omega) hP hS (lv_sub hl [0, 1, 2, 3, 4, 5, 6] rfl)
    exact loop8 (((st 16).toInt - 0 : Int).toNat + 1) (0 : Int32) (0 : Int32) (ai 31) _ _ _ (by omega) (by omega) (by omega) (by omega) (by assumption) (kI_0 (by omega) (by omega) (by omega)) (by omega) hP hS (lv_sub hl [0, 1, 2, 3] rfl)
  exact main s.heap [] hP hS
