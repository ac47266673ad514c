set_option maxHeartbeats 4000000 in
set_option maxRecDepth 100000 in
theorem k_X0_sum (l : Launch) (dC : Nat → ClassId) (dI : Nat → Nat → Nat) (cA : ClassId) (a N fr cn : Nat) (num : Int32) (f : Nat → Int32) (hN : N < 2 ^ 31) (hfc : fr + cn ≤ N) : Met l yX0_sum wsX0_sum ({ frames := 1, cells := 0, slots := 0, locals := 24 }) (va_Pc [.ref a, .int (nI fr), .int (nI cn), .int num] (fun U => va_P (dC, dI) vwCl [(a, .inl (cA, N, .inl f))] U.heap ∧ va_K (dC, dI) vwCl [(cA, .byte)] U)) (vp_Sl (fun r => r = pu_sumN f fr (pu_start num) cn)) 0 0 (fun _ => False) := by
  refine Met.ofW (cc := cX0_sum) (maxL := 7) (ret := (some .long)) (by decide) rfl ?_
  intro p e s m args below meth c s₁ B hml hv
  obtain ⟨rfl, hP, hK⟩ := hv
  have hx := B.exec
  have hb := B.bytes
  have hr := B.returns
  have hts := atoms_spec (ws := wsX0_sum) B.pre
  have hown : s.vm.findClass RX0 = some m.cls := findClass_of_methodNamed B.named
  have hlocks := B.notSynchronized
  have loop : ∀ (n k : Nat) (acc : Int64) (i : Int32) (ls : Array Slot), k ≤ cn → cn - k < n → acc = pu_sumN f fr (pu_start num) k → i = nI (fr + k) → lv_has ls 7 [(6, .int i), (4, .long acc), (0, .ref a), (1, .int (nI fr)), (2, .int (nI cn)), (3, .int num)] → W p l e (headSpec wsX0_sum ({ frames := 1, cells := 0, slots := 0, locals := 24 })).room s m ([.ref a, .int (nI fr), .int (nI cn), .int num] : List Value).toArray below meth c s.heap [] 0 0 (MQ below (vp_Sl (fun r => r = pu_sumN f fr (pu_start num) cn)) ([.ref a, .int (nI fr), .int (nI cn), .int num] : List Value).toArray s 0 0 (fun _ => False)) (F0 m 9 ls []) := by
    intro n
    induction n with
    | zero => intro k acc i ls h1 h2; omega
    | succ n ih =>
      intro k acc i ls h1 h2 eacc ei hl
      refine lv_iload hx hb dX0_sum_9 (lv_at hl 0 rfl) ?_
      refine lv_iload_n hx hb dX0_sum_11 rfl (lv_at hl 3 rfl) ?_
      refine lv_iload_n hx hb dX0_sum_12 rfl (lv_at hl 4 rfl) ?_
      refine lv_iadd hx hb dX0_sum_13 ?_
      refine lv_icmp_ge (tgt := 34) hx hb dX0_sum_14 (by decide) (fun c_1 => ?_) (fun c_1 => ?_)
      · skip
        have hk : k = cn := by
          rcases Nat.lt_or_ge k cn with q | q
          · exact absurd c_1 (by rw [ei, nI_add]; exact nI_ge (by omega) (by omega))
          · omega
        subst hk
        refine lv_lload hx hb dX0_sum_34 (lv_at hl 1 rfl) ?_
        exact W.lret hx hb hr (fun t ht hW => ⟨_, rfl, eacc, ht⟩) (fun q h => by cases h) dX0_sum_36
      · skip
        have hk : k + 1 ≤ cn := by
          rcases Nat.lt_or_ge k cn with q | q
          · exact q
          · exact absurd (by rw [ei, nI_add]; exact nI_le (by omega) (by omega)) c_1
        have hin : vp_in i N := by rw [ei]; exact vp_in_nI (by omega) (by omega)
        refine lv_lload hx hb dX0_sum_17 (lv_at hl 1 rfl) ?_
        refine lv_aload_n hx hb dX0_sum_19 rfl (lv_at hl 2 rfl) ?_
        refine lv_iload hx hb dX0_sum_20 (lv_at hl 0 rfl) ?_
        refine va_bald hx hb hK hP 0 0 rfl rfl hin dX0_sum_22 ?_
        refine vp_callSl (va_Run.run (va_runS (As := [.long acc, .int (f i.toNatClampNeg)]) (rest := []) ⟨hx, hb, hml, hown, hts⟩ (k_X0_add l _ _) (va_cwS 2 hts gX0_sum_X0_add rfl rfl rfl (by decide +kernel) ⟨Nat.le_of_ble_eq_true rfl, Nat.le_of_ble_eq_true rfl⟩) ⟨fun a U g mk q => q, fun U hU hW => ⟨rfl, trivial⟩⟩ rfl rfl hl.1 rfl (lv_room (Nat.le_of_ble_eq_true rfl)) dX0_sum_23 ⟨Nat.le_refl _, Nat.le_refl _⟩)) (fun r_2 er_2 => ?_)
        refine lv_lstore (lv' := [(4, .long r_2), (6, .int i), (0, .ref a), (1, .int (nI fr)), (2, .int (nI cn)), (3, .int num)]) hx hb dX0_sum_26 hl (by decide) rfl (fun ls hl => ?_)
        obtain ⟨x_3, ex_3⟩ : ∃ z : Int32, z = i + (1) := ⟨_, rfl⟩
        refine lv_iinc (v := x_3) (lv' := [(6, .int x_3), (4, .long r_2), (0, .ref a), (1, .int (nI fr)), (2, .int (nI cn)), (3, .int num)]) hx hb dX0_sum_28 hl (k := 1) rfl (by rw [ex_3]; rfl) (by decide) rfl (fun ls hl => ?_)
        refine lv_goto (tgt := 9) hx hb dX0_sum_31 (by decide) ?_
        exact ih (k + 1) _ _ _ hk (by omega) (by rw [er_2, eacc, ei, nI_clamp (by omega)]; rfl) (by rw [ex_3, ei]; exact nI_1 _) (lv_sub hl [0, 1, 2, 3, 4, 5] rfl)
  have hl := lv_entry ([.ref a, .int (nI fr), .int (nI cn), .int num]) (n := 7) (Nat.le_of_ble_eq_true rfl)
  rw [lg_entry_eq]
  generalize (lg_sl ([.ref a, .int (nI fr), .int (nI cn), .int num]) ++ List.replicate (7 - (lg_sl ([.ref a, .int (nI fr), .int (nI cn), .int num])).length) Slot.unset).toArray = ls at hl ⊢
  have hl : lv_has ls 7 [(0, .ref a), (1, .int (nI fr)), (2, .int (nI cn)), (3, .int num)] := hl
  refine lv_iload_n hx hb dX0_sum_0 rfl (lv_at hl 3 rfl) ?_
  refine vp_callSl (va_Run.run (va_runS (As := [.int num]) (rest := []) ⟨hx, hb, hml, hown, hts⟩ (k_X0_start l _) (va_cwS 1 hts gX0_sum_X0_start rfl rfl rfl (by decide +kernel) ⟨Nat.le_of_ble_eq_true rfl, Nat.le_of_ble_eq_true rfl⟩) ⟨fun a U g mk q => q, fun U hU hW => ⟨rfl, trivial⟩⟩ rfl rfl hl.1 rfl (lv_room (Nat.le_of_ble_eq_true rfl)) dX0_sum_1 ⟨Nat.le_refl _, Nat.le_refl _⟩)) (fun r_1 er_1 => ?_)
  refine lv_lstore (lv' := [(4, .long r_1), (0, .ref a), (1, .int (nI fr)), (2, .int (nI cn)), (3, .int num)]) hx hb dX0_sum_4 hl (by decide) rfl (fun ls hl => ?_)
  refine lv_iload_n hx hb dX0_sum_6 rfl (lv_at hl 2 rfl) ?_
  refine lv_istore (lv' := [(6, .int (nI fr)), (4, .long r_1), (0, .ref a), (1, .int (nI fr)), (2, .int (nI cn)), (3, .int num)]) hx hb dX0_sum_7 hl (by decide) rfl (fun ls hl => ?_)
  exact loop (cn + 1) 0 _ _ _ (Nat.zero_le _) (by omega) er_1 rfl (lv_sub hl [0, 1, 2, 3, 4, 5] rfl)
