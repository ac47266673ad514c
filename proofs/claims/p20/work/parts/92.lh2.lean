set_option maxHeartbeats 4000000 in
set_option maxRecDepth 100000 in
theorem h_L_asked (l : Launch) (hl0 : l.stackTraces = false) (dC : Nat → ClassId) (dI : Nat → Nat → Nat) (c : Nat → Nat) (kc : Nat → ClassId) (st : Nat → Int32) (lg : Nat → Int64) (ai : Nat → Nat → Int32) (al : Nat → Nat → Int64) (R : va_W) (cap : Nat) (num : Nat → Int32) (oa : Nat) (ko : ClassId) (fo : Nat → Int64) (p1 : Int32) (sz tz : Nat) (hI : cI c kc st ai R cap num)  : Met l yL_asked wsL_asked ({ frames := 8, cells := 1, slots := 6, locals := 165 }) (va_Pc [.ref (c 100), .int p1, .ref oa] (fun U => U.heap.size = sz ∧ tot U.heap = tz ∧ va_P (dC, dI) vwCl (cw_W c kc st lg ai al R ++ [outC oa ko fo]) U.heap ∧ va_K (dC, dI) vwCl (cw_T kc) U ∧ va_K (dC, dI) vwCl [(ko, .long)] U ∧ va_D (fun _ => True) (cw_W c kc st lg ai al R ++ [outC oa ko fo]) ∧ gy_E cap (c 99) (va_A (cw_W c kc st lg ai al R ++ [outC oa ko fo]) sz) U)) (va_Qi (fun r (u : Int32) => r = u) (fun u t => hQ (dC, dI) c kc (st 13) cap sz tz oa ko (va_A (cw_W c kc st lg ai al R ++ [outC oa ko fo]) sz) t) (va_A (cw_W c kc st lg ai al R ++ [outC oa ko fo]) sz)) 1 6 (va_A (cw_W c kc st lg ai al R ++ [outC oa ko fo]) sz) := by
  refine va_MetW (cc := cL_asked) (maxL := 4) (ret := (some .int)) (hh := [(0, 9, 12, 25)]) (by decide) rfl ?_
  intro p e s m args below meth cM s₁ B hml hv
  obtain ⟨rfl, hsz, htz, hPZ, hK, hKo, hD0, hY⟩ := hv
  have hx := B.exec
  have hb := B.bytes
  have hr := B.returns
  have hts := atoms_spec (ws := wsL_asked) B.pre
  have hown : s.vm.findClass RL = some m.cls := findClass_of_methodNamed B.named
  have hlocks := B.notSynchronized
  have htab := vx_table (x := yL_asked) B (hts (.codeWith yL_asked cL_asked 4 (some .int) [(0, 9, 12, 25)]) List.mem_cons_self)
  obtain ⟨⟨hf3a, hf3b⟩, ⟨hf5a, hf5b⟩, ⟨hf6a, hf6b⟩, ⟨hf9a, hf9b⟩, ⟨hf13a, hf13b⟩, ⟨hf15a, hf15b⟩, ⟨hf17a, hf17b⟩, ⟨hf25a, hf25b⟩, ⟨hf26a, hf26b⟩, ⟨hf27a, hf27b⟩, ⟨hf28a, hf28b⟩, ⟨hf37a, hf37b⟩, hR4, hR7, hR23, hR32, hR33, hPI, hN⟩ := hI
  subst hsz
  subst htz
  have hDZ := hD0.self (sz := s.heap.size)
  generalize hAe : va_A (cw_W c kc st lg ai al R ++ [outC oa ko fo]) s.heap.size = A at hDZ hY ⊢
  have hA : ∀ q : Nat, s.heap.size ≤ q → A q := fun q h => by rw [← hAe]; exact Or.inr h
  have hS : va_S A s.heap s.heap [] := va_S.rf
  clear hAe hD0
  have hD := vD_l hDZ
  have hDO := vD_r hDZ
  have hdis := vD_dj hDZ
  have hP := vP_l hPZ
  have hO := vP_r hPZ
  clear hDZ hPZ
  have hG := hY.1
  have hGW := hG.1
  have hl := lv_entry ([.ref (c 100), .int p1, .ref oa]) (n := 4) (Nat.le_of_ble_eq_true rfl)
  rw [lg_entry_eq]
  generalize (lg_sl ([.ref (c 100), .int p1, .ref oa]) ++ List.replicate (4 - (lg_sl ([.ref (c 100), .int p1, .ref oa])).length) Slot.unset).toArray = ls at hl ⊢
  have hl : lv_has ls 4 [(0, .ref (c 100)), (1, .int p1), (2, .ref oa)] := hl
  have z_0 : (0 : Int32).toInt = 0 := by decide
  have z_1 : (1 : Int32).toInt = 1 := by decide
  have hP : va_P (dC, dI) vwCl (cw_W (rU c 99 (c 99)) kc st lg ai al R) s.heap := by rw [rU_self]; exact hP
  have hD : va_D A (cw_W (rU c 99 (c 99)) kc st lg ai al R) := by rw [rU_self]; exact hD
  have hdis : dj (cw_W (rU c 99 (c 99)) kc st lg ai al R) [outC oa ko fo] := by rw [rU_self]; exact hdis
  have hc0 : cap = 0 → cap = 0 ∧ c 99 = c 99 := fun h => ⟨h, rfl⟩
  have hcp : cap ≤ cap := Nat.le_refl _
  have hN1 : ((cap : Nat) : Int) ≤ 10 + 2 * (st 13).toInt := hN.1
  have hmono : ∀ y m, pgM (kc 0) R y m → pgM (kc 0) R y m := fun y m h => h
  refine lv_aload_n hx hb dL_asked_0 rfl (lv_at hl 2 rfl) ?_
  refine lv_iconst (v := 0) hx hb dL_asked_1 (by decide) ?_
  refine lv_aload_n hx hb dL_asked_2 rfl (lv_at hl 0 rfl) ?_
  refine lv_iload_n hx hb dL_asked_3 rfl (lv_at hl 1 rfl) ?_
  have hFc := vfree ((cw_D hD : va_D A (cw_W (rU c 99 (c 99)) kc st lg ai al R)) : va_D A (cw_W (rU c 99 (c 99)) kc st lg ai al R)) hS hA
  refine vx_calli (vx_runV (As := [.int p1]) (rest := [.int (0 : Int32), .ref oa]) ⟨hx, hb, hml, hown, hts⟩ (v_X8_asked l hl0 dC dI (rU c 99 (c 99)) kc st lg ai al R cap num p1 _ hPI (show 0 ≤ (st 9).toInt by omega) (show (st 9).toInt ≤ 1 by omega) (show 0 ≤ (st 13).toInt by omega) (show (st 13).toInt ≤ 65536 by omega) (show 0 ≤ (st 15).toInt by omega) (show (st 15).toInt ≤ 1 by omega) (show 0 ≤ (st 17).toInt by omega) (show (st 17).toInt ≤ 128 by omega)) (cwV 1 hts gL_asked_X8_asked rfl rfl rfl (by decide +kernel) ⟨Nat.le_of_ble_eq_true rfl, Nat.le_of_ble_eq_true rfl⟩) ⟨fun a U g mk q => by obtain ⟨q0, q1, qP, qK, qD, qG⟩ := q; exact ⟨q0, q1, qP, va_K.moved (u := U) (U := U.calling g mk a) (Vm.Alike.refl U.vm) qK, qD, qG.same rfl rfl⟩, va_recv hK hP (ci := 10) (q := (RX8, TX8, 10)) rfl (q0 := 0) rfl, fun U hU hW => ⟨rfl, by rw [hU], by rw [hU]; exact hP, va_K.moved hW.alike hK, ((cw_D hD : va_D A (cw_W (rU c 99 (c 99)) kc st lg ai al R))).weaken (fun _ _ _ _ => trivial), hG.go hW hU hS hFc⟩⟩ rfl rfl hl.1 rfl (lv_room (Nat.le_of_ble_eq_true rfl)) dL_asked_4 ⟨by show 0 + 1 ≤ 1; omega, by show 0 + 6 ≤ 6; omega⟩) hS (fun q _ h => hFc q h) hFc (fun q _ h => hFc q h) (fun E9 ce q9 u t H1 locs ht hvm hp hE hz hk hS hcell hv hcl => ?_) (fun r_1 ur_1 t H1 locs ht hvm er_1 hB hz1 hk1 hS => ?_)
  · skip
    obtain ⟨hE, f8_1, R_1, hPI, hmo, hD1, hP1⟩ := hE
    rw [ht] at hP1
    have hO1 := dj_keep hO hdis hk
    have hdis1 := dj_new hO hdis hD1
    clear hO hdis
    have hP : va_P (dC, dI) vwCl (cw_W (rU c 99 (c 99)) kc st lg (rU ai 8 f8_1) al R_1) H1 := hP1
    have hD : va_D A (cw_W (rU c 99 (c 99)) kc st lg ai al R_1) := cw_D (hD1.weaken (fun _ _ _ h => hFc _ h))
    have hPI : PI (kc 98) (kc 0) (c 99) (st 13) cap num none R_1 := hPI
    clear hFc hD1
    have hmono : ∀ y m, pgM (kc 0) R y m → pgM (kc 0) R_1 y m := fun y m h => hmo y m (hmono y m h)
    have hO := hO1
    have hdis := hdis1
    clear hO1 hdis1
    refine vxW_read (fun hu1 hu2 => ?_)
    simp only [List.mem_cons, List.not_mem_nil, or_false] at hE
    subst hE
    refine vx_catch (name := "java/lang/IllegalStateException") hown [] ⟨0, 9, 12, 25⟩ [] htab (fun z h => by cases h) (by decide) (by decide) (va_Nw.use rfl (hG.1.2.2.2.2.2.2 (25, "java/lang/IllegalStateException") (by decide +kernel))) (va_Nw.use rfl (hG.1.2.2.1 _ (by decide))) hcell hv hcl ?_
    refine W.eq (g2 := F0 m 12 ls [.ref q9]) rfl ?_
    clear hcell hv hcl
    clear ht hp hz hk hvm
    generalize H1 = H at hP hS hO ⊢
    refine lv_astore_n (lv' := [(3, .ref q9), (0, .ref (c 100)), (1, .int p1), (2, .ref oa)]) hx hb dL_asked_12 rfl hl (by decide) rfl (fun ls hl => ?_)
    refine lv_iconst (v := 1) hx hb dL_asked_13 (by decide) ?_
    refine W_read (fun hu1 hu2 => ?_)
    refine W.widen (k := 1) (n := 6) (by omega) (by omega) ?_
    exact W.iret hx hb hr (fun t ht hW => ⟨⟨_, _, rfl, rfl, c 99, st, lg, (rU ai 8 f8_1), al, R_1, cap, num, fo, ⟨(show 0 ≤ (st 3).toInt ∧ (st 3).toInt ≤ 8 from ⟨by omega, by omega⟩), (show 0 ≤ (st 5).toInt ∧ (st 5).toInt ≤ 400 from ⟨by omega, by omega⟩), (show 1 ≤ (st 6).toInt ∧ (st 6).toInt ≤ 65536 from ⟨by omega, by omega⟩), (show 0 ≤ (st 9).toInt ∧ (st 9).toInt ≤ 1 from ⟨by omega, by omega⟩), (show 0 ≤ (st 13).toInt ∧ (st 13).toInt ≤ 65536 from ⟨by omega, by omega⟩), (show 0 ≤ (st 15).toInt ∧ (st 15).toInt ≤ 1 from ⟨by omega, by omega⟩), (show 0 ≤ (st 17).toInt ∧ (st 17).toInt ≤ 128 from ⟨by omega, by omega⟩), (show 0 ≤ (st 25).toInt ∧ (st 25).toInt ≤ 128 from ⟨by omega, by omega⟩), (show 0 ≤ (st 26).toInt ∧ (st 26).toInt ≤ 128 from ⟨by omega, by omega⟩), (show -1 ≤ (st 27).toInt ∧ (st 27).toInt ≤ 127 from ⟨by omega, by omega⟩), (show 0 ≤ (st 28).toInt ∧ (st 28).toInt ≤ 1 from ⟨by omega, by omega⟩), (show 0 ≤ (st 37).toInt ∧ (st 37).toInt ≤ 255 from ⟨by omega, by omega⟩), (show aR (ai 4) 400 (-128) 127 from hR4), (show aR (ai 7) 8224 (-128) 127 from hR7), (show aR (ai 23) 128 (0) 127 from hR23), (show aR (ai 32) 16 (0) 400 from hR32), (show aR (ai 33) 16 (0) 255 from hR33), hPI, hN⟩, hc0, hcp, (show (st 13).toInt ≤ (st 13).toInt by omega), (show (st 13).toInt ≤ (st 13).toInt + 16 by omega), (show ((t.heap.size : Nat) : Int) ≤ ((s.heap.size : Nat) : Int) + 3 + 3 * ((st 13).toInt - (st 13).toInt) by rw [ht]; omega), (show ((tot t.heap : Nat) : Int) ≤ ((tot s.heap : Nat) : Int) + 18 + 29 * ((st 13).toInt - (st 13).toInt) + 4 * (((cap : Nat) : Int) - ((cap : Nat) : Int)) by rw [ht]; omega), by rw [ht]; exact hP.app hO, va_D.app (cw_D hD) hDO (cw_dj hdis)⟩, hS.F ht⟩) hS.2.2 dL_asked_14
  · skip
    subst er_1
    obtain ⟨f8_1, R_1, hPI, hmo, hD1, hP1⟩ := hB
    rw [ht] at hP1
    have hO1 := dj_keep hO hdis hk1
    have hdis1 := dj_new hO hdis hD1
    clear hO hdis
    clear hz1 hk1 hvm hP
    subst ht
    have hP := hP1
    clear hP1
    generalize t.heap = H at hP hS hO1 ⊢
    have hP : va_P (dC, dI) vwCl (cw_W (rU c 99 (c 99)) kc st lg (rU ai 8 f8_1) al R_1) H := hP
    have hD : va_D A (cw_W (rU c 99 (c 99)) kc st lg ai al R_1) := cw_D (hD1.weaken (fun _ _ _ h => hFc _ h))
    have hPI : PI (kc 98) (kc 0) (c 99) (st 13) cap num none R_1 := hPI
    clear hFc hD1
    have hmono : ∀ y m, pgM (kc 0) R y m → pgM (kc 0) R_1 y m := fun y m h => hmo y m (hmono y m h)
    have hO := hO1
    have hdis := hdis1
    clear hO1 hdis1
    refine lv_i2l hx hb dL_asked_7 rfl ?_
    refine lv_topl (fun w_2 ew_2 => ?_)
    clear ew_2
    refine lw_last (v := w_2) hx hb hKo hP hO (cw_D hD) hDO (cw_dj hdis) hS dL_asked_8 (fun H locs fo hP hO hS => ?_)
    have hDO : va_D A [outC oa ko fo] := out_D hDO
    have hdis : dj (cw_W (rU c 99 (c 99)) kc st lg (rU ai 8 f8_1) al R_1) [outC oa ko fo] := out_dj (cw_dj hdis)
    refine lv_goto (tgt := 15) hx hb dL_asked_9 (by decide) ?_
    refine lv_iconst (v := 0) hx hb dL_asked_15 (by decide) ?_
    refine W_read (fun hu1 hu2 => ?_)
    refine W.widen (k := 1) (n := 6) (by omega) (by omega) ?_
    exact W.iret hx hb hr (fun t ht hW => ⟨⟨_, _, rfl, rfl, c 99, st, lg, (rU ai 8 f8_1), al, R_1, cap, num, fo, ⟨(show 0 ≤ (st 3).toInt ∧ (st 3).toInt ≤ 8 from ⟨by omega, by omega⟩), (show 0 ≤ (st 5).toInt ∧ (st 5).toInt ≤ 400 from ⟨by omega, by omega⟩), (show 1 ≤ (st 6).toInt ∧ (st 6).toInt ≤ 65536 from ⟨by omega, by omega⟩), (show 0 ≤ (st 9).toInt ∧ (st 9).toInt ≤ 1 from ⟨by omega, by omega⟩), (show 0 ≤ (st 13).toInt ∧ (st 13).toInt ≤ 65536 from ⟨by omega, by omega⟩), (show 0 ≤ (st 15).toInt ∧ (st 15).toInt ≤ 1 from ⟨by omega, by omega⟩), (show 0 ≤ (st 17).toInt ∧ (st 17).toInt ≤ 128 from ⟨by omega, by omega⟩), (show 0 ≤ (st 25).toInt ∧ (st 25).toInt ≤ 128 from ⟨by omega, by omega⟩), (show 0 ≤ (st 26).toInt ∧ (st 26).toInt ≤ 128 from ⟨by omega, by omega⟩), (show -1 ≤ (st 27).toInt ∧ (st 27).toInt ≤ 127 from ⟨by omega, by omega⟩), (show 0 ≤ (st 28).toInt ∧ (st 28).toInt ≤ 1 from ⟨by omega, by omega⟩), (show 0 ≤ (st 37).toInt ∧ (st 37).toInt ≤ 255 from ⟨by omega, by omega⟩), (show aR (ai 4) 400 (-128) 127 from hR4), (show aR (ai 7) 8224 (-128) 127 from hR7), (show aR (ai 23) 128 (0) 127 from hR23), (show aR (ai 32) 16 (0) 400 from hR32), (show aR (ai 33) 16 (0) 255 from hR33), hPI, hN⟩, hc0, hcp, (show (st 13).toInt ≤ (st 13).toInt by omega), (show (st 13).toInt ≤ (st 13).toInt + 16 by omega), (show ((t.heap.size : Nat) : Int) ≤ ((s.heap.size : Nat) : Int) + 3 + 3 * ((st 13).toInt - (st 13).toInt) by rw [ht]; omega), (show ((tot t.heap : Nat) : Int) ≤ ((tot s.heap : Nat) : Int) + 18 + 29 * ((st 13).toInt - (st 13).toInt) + 4 * (((cap : Nat) : Int) - ((cap : Nat) : Int)) by rw [ht]; omega), by rw [ht]; exact hP.app hO, va_D.app (cw_D hD) hDO (cw_dj hdis)⟩, hS.F ht⟩) hS.2.2 dL_asked_16

set_option maxHeartbeats 4000000 in
set_option maxRecDepth 100000 in
theorem h_L_mend (l : Launch) (hl0 : l.stackTraces = false) (dC : Nat → ClassId) (dI : Nat → Nat → Nat) (c : Nat → Nat) (kc : Nat → ClassId) (st : Nat → Int32) (lg : Nat → Int64) (ai : Nat → Nat → Int32) (al : Nat → Nat → Int64) (R : va_W) (cap : Nat) (num : Nat → Int32) (oa : Nat) (ko : ClassId) (fo : Nat → Int64) (p1 : Int32) (sz tz : Nat) (hI : cI c kc st ai R cap num)  : Met l yL_mend wsL_mend ({ frames := 10, cells := 8, slots := 640100, locals := 471 }) (va_Pc [.ref (c 100), .int p1, .ref oa] (fun U => U.heap.size = sz ∧ tot U.heap = tz ∧ va_P (dC, dI) vwCl (cw_W c kc st lg ai al R ++ [outC oa ko fo]) U.heap ∧ va_K (dC, dI) vwCl (cw_T kc) U ∧ va_K (dC, dI) vwCl [(ko, .long)] U ∧ va_D (fun _ => True) (cw_W c kc st lg ai al R ++ [outC oa ko fo]) ∧ gy_E cap (c 99) (va_A (cw_W c kc st lg ai al R ++ [outC oa ko fo]) sz) U)) (va_Qi (fun r (u : Int32) => r = u) (fun u t => hQ (dC, dI) c kc (st 13) cap sz tz oa ko (va_A (cw_W c kc st lg ai al R ++ [outC oa ko fo]) sz) t) (va_A (cw_W c kc st lg ai al R ++ [outC oa ko fo]) sz)) 8 640100 (va_A (cw_W c kc st lg ai al R ++ [outC oa ko fo]) sz) := by
  refine va_MetW (cc := cL_mend) (maxL := 4) (ret := (some .int)) (hh := [(0, 9, 12, 25), (0, 9, 15, 13)]) (by decide) rfl ?_
  intro p e s m args below meth cM s₁ B hml hv
  obtain ⟨rfl, hsz, htz, hPZ, hK, hKo, hD0, hY⟩ := hv
  have hx := B.exec
  have hb := B.bytes
  have hr := B.returns
  have hts := atoms_spec (ws := wsL_mend) B.pre
  have hown : s.vm.findClass RL = some m.cls := findClass_of_methodNamed B.named
  have hlocks := B.notSynchronized
  have htab := vx_table (x := yL_mend) B (hts (.codeWith yL_mend cL_mend 4 (some .int) [(0, 9, 12, 25), (0, 9, 15, 13)]) List.mem_cons_self)
  obtain ⟨⟨hf3a, hf3b⟩, ⟨hf5a, hf5b⟩, ⟨hf6a, hf6b⟩, ⟨hf9a, hf9b⟩, ⟨hf13a, hf13b⟩, ⟨hf15a, hf15b⟩, ⟨hf17a, hf17b⟩, ⟨hf25a, hf25b⟩, ⟨hf26a, hf26b⟩, ⟨hf27a, hf27b⟩, ⟨hf28a, hf28b⟩, ⟨hf37a, hf37b⟩, hR4, hR7, hR23, hR32, hR33, hPI, hN⟩ := hI
  subst hsz
  subst htz
  have hDZ := hD0.self (sz := s.heap.size)
  generalize hAe : va_A (cw_W c kc st lg ai al R ++ [outC oa ko fo]) s.heap.size = A at hDZ hY ⊢
  have hA : ∀ q : Nat, s.heap.size ≤ q → A q := fun q h => by rw [← hAe]; exact Or.inr h
  have hS : va_S A s.heap s.heap [] := va_S.rf
  clear hAe hD0
  have hD := vD_l hDZ
  have hDO := vD_r hDZ
  have hdis := vD_dj hDZ
  have hP := vP_l hPZ
  have hO := vP_r hPZ
  clear hDZ hPZ
  have hG := hY.1
  have hGW := hG.1
  have hl := lv_entry ([.ref (c 100), .int p1, .ref oa]) (n := 4) (Nat.le_of_ble_eq_true rfl)
  rw [lg_entry_eq]
  generalize (lg_sl ([.ref (c 100), .int p1, .ref oa]) ++ List.replicate (4 - (lg_sl ([.ref (c 100), .int p1, .ref oa])).length) Slot.unset).toArray = ls at hl ⊢
  have hl : lv_has ls 4 [(0, .ref (c 100)), (1, .int p1), (2, .ref oa)] := hl
  have z_0 : (0 : Int32).toInt = 0 := by decide
  have z_1 : (1 : Int32).toInt = 1 := by decide
  have z_2 : (2 : Int32).toInt = 2 := by decide
  have hP : va_P (dC, dI) vwCl (cw_W (rU c 99 (c 99)) kc st lg ai al R) s.heap := by rw [rU_self]; exact hP
  have hD : va_D A (cw_W (rU c 99 (c 99)) kc st lg ai al R) := by rw [rU_self]; exact hD
  have hdis : dj (cw_W (rU c 99 (c 99)) kc st lg ai al R) [outC oa ko fo] := by rw [rU_self]; exact hdis
  have hc0 : cap = 0 → cap = 0 ∧ c 99 = c 99 := fun h => ⟨h, rfl⟩
  have hcp : cap ≤ cap := Nat.le_refl _
  have hN1 : ((cap : Nat) : Int) ≤ 10 + 2 * (st 13).toInt := hN.1
  have hmono : ∀ y m, pgM (kc 0) R y m → pgM (kc 0) R y m := fun y m h => h
  refine lv_aload_n hx hb dL_mend_0 rfl (lv_at hl 2 rfl) ?_
  refine lv_iconst (v := 0) hx hb dL_mend_1 (by decide) ?_
  refine lv_aload_n hx hb dL_mend_2 rfl (lv_at hl 0 rfl) ?_
  refine lv_iload_n hx hb dL_mend_3 rfl (lv_at hl 1 rfl) ?_
  refine W_read (fun hu1 hu2 => ?_)
  have hFc := vfree ((cw_D hD : va_D A (cw_W (rU c 99 (c 99)) kc st lg ai al R)) : va_D A (cw_W (rU c 99 (c 99)) kc st lg ai al R)) hS hA
  refine vx_calli (vx_runV (As := [.int p1]) (rest := [.int (0 : Int32), .ref oa]) ⟨hx, hb, hml, hown, hts⟩ (v_X8_mend l hl0 dC dI (rU c 99 (c 99)) kc st lg ai al R cap num p1 _ _ hPI hN (show 0 ≤ (st 5).toInt by omega) (show (st 5).toInt ≤ 400 by omega) (show 0 ≤ (st 9).toInt by omega) (show (st 9).toInt ≤ 1 by omega) (show 0 ≤ (st 13).toInt by omega) (show (st 13).toInt ≤ 65536 by omega) (show 0 ≤ (st 15).toInt by omega) (show (st 15).toInt ≤ 1 by omega) (show 0 ≤ (st 17).toInt by omega) (show (st 17).toInt ≤ 128 by omega) (show 0 ≤ (st 25).toInt by omega) (show (st 25).toInt ≤ 128 by omega) (show 0 ≤ (st 26).toInt by omega) (show (st 26).toInt ≤ 128 by omega) (show -1 ≤ (st 27).toInt by omega) (show (st 27).toInt ≤ 127 by omega) (show 0 ≤ (st 28).toInt by omega) (show (st 28).toInt ≤ 1 by omega) (show aR (ai 4) 400 (-128) 127 from hR4) (show aR (ai 7) 8224 (-128) 127 from hR7) (show aR (ai 23) 128 (0) 127 from hR23)) (cwV 1 hts gL_mend_X8_mend rfl rfl rfl (by decide +kernel) ⟨Nat.le_of_ble_eq_true rfl, Nat.le_of_ble_eq_true rfl⟩) ⟨fun a U g mk q => by obtain ⟨q0, q1, q2, qP, qK, qD, qG⟩ := q; exact ⟨q0, q1, q2, qP, va_K.moved (u := U) (U := U.calling g mk a) (Vm.Alike.refl U.vm) qK, qD, qG.same rfl rfl⟩, va_recv hK hP (ci := 10) (q := (RX8, TX8, 10)) rfl (q0 := 0) rfl, fun U hU hW => ⟨rfl, by rw [hU], by rw [hU], by rw [hU]; exact hP, va_K.moved hW.alike hK, ((cw_D hD : va_D A (cw_W (rU c 99 (c 99)) kc st lg ai al R))).weaken (fun _ _ _ _ => trivial), hY.go hW hU hS hFc hc0⟩⟩ rfl rfl hl.1 rfl (lv_room (Nat.le_of_ble_eq_true rfl)) dL_mend_4 ⟨by show 0 + 8 ≤ 8; omega, by show 0 + 640100 ≤ 640100; omega⟩) hS (fun q _ h => hFc q h) hFc (fun q _ h => hFc q h) (fun E9 ce q9 u t H1 locs ht hvm hp hE hz hk hS hcell hv hcl => ?_) (fun r_1 ur_1 t H1 locs ht hvm er_1 hB hz1 hk1 hS => ?_)
  · skip
    obtain ⟨hE, x5_1, x9_1, x10_1, x11_1, x12_1, x13_1, x17_1, x18_1, x25_1, x26_1, x27_1, x28_1, x29_1, f0_1, f7_1, f8_1, f14_1, f20_1, f21_1, f22_1, f23_1, g19_1, e_1, cap_1, num_1, R_1, k_2, k_3, k_4, k_5, k_6, k_7, k_8, k_9, k_10, k_11, k_12, k_13, k_14, k_15, k_16, k_17, hR7, hR23, hPI, hmo, hD1, hN, hc1, hcp1, hnn1, hnn2, hus1, hus2, hP1⟩ := hE
    rw [ht] at hP1
    have hO1 := dj_keep hO hdis hk
    have hdis1 := dj_new hO hdis hD1
    rw [rU_rU (f := c) (k := 99) (a := (c 99)) (b := e_1)] at hdis1
    clear hO hdis
    rw [rU_rU (f := c) (k := 99) (a := (c 99)) (b := e_1)] at hP1
    rw [ht] at hus1 hus2
    have hP : va_P (dC, dI) vwCl (cw_W (rU c 99 e_1) kc (rU (rU (rU (rU (rU (rU (rU (rU (rU (rU (rU (rU (rU st 5 x5_1) 9 x9_1) 10 x10_1) 11 x11_1) 12 x12_1) 13 x13_1) 17 x17_1) 18 x18_1) 25 x25_1) 26 x26_1) 27 x27_1) 28 x28_1) 29 x29_1) lg (rU (rU (rU (rU (rU (rU (rU (rU ai 0 f0_1) 7 f7_1) 8 f8_1) 14 f14_1) 20 f20_1) 21 f21_1) 22 f22_1) 23 f23_1) (rU al 19 g19_1) R_1) H1 := hP1
    have hR7 : aR f7_1 8224 (-128) 127 := hR7
    have hR23 : aR f23_1 128 (0) 127 := hR23
    rw [rU_rU (f := c) (k := 99) (a := (c 99)) (b := e_1)] at hD1
    have hD : va_D A (cw_W (rU c 99 e_1) kc st lg ai al R_1) := cw_D (hD1.weaken (fun _ _ _ h => hFc _ h))
    have hc0 : cap_1 = 0 → cap = 0 ∧ e_1 = c 99 := fun h => ⟨(hc0 (hc1 h).1).1, (show e_1 = c 99 from (hc1 h).2).trans (hc0 (hc1 h).1).2⟩
    have hcp : cap ≤ cap_1 := Nat.le_trans hcp hcp1
    have hN1 : ((cap_1 : Nat) : Int) ≤ 10 + 2 * x13_1.toInt := hN.1
    have hnn1 : (st 13).toInt ≤ x13_1.toInt := hnn1
    have hnn2 : x13_1.toInt ≤ (st 13).toInt + 1 := hnn2
    have hus1 : ((H1.size : Nat) : Int) ≤ _ + 2 + 3 * (x13_1.toInt - (st 13).toInt) := hus1
    have hus2 : ((tot H1 : Nat) : Int) ≤ _ + 12 + 29 * (x13_1.toInt - (st 13).toInt) + 4 * (((cap_1 : Nat) : Int) - ((cap : Nat) : Int)) := hus2
    obtain ⟨k_18, hk_18⟩ : ∃ k9 : Nat, (k9 : Int) = ((0 : Nat) : Int) + 2 + 3 * (x13_1.toInt - (st 13).toInt) := ⟨(((0 : Nat) : Int) + 2 + 3 * (x13_1.toInt - (st 13).toInt)).toNat, by omega⟩
    obtain ⟨m_18, hm_18⟩ : ∃ m9 : Nat, (m9 : Int) = ((0 : Nat) : Int) + 12 + 29 * (x13_1.toInt - (st 13).toInt) + 4 * (((cap_1 : Nat) : Int) - ((cap : Nat) : Int)) := ⟨(((0 : Nat) : Int) + 12 + 29 * (x13_1.toInt - (st 13).toInt) + 4 * (((cap_1 : Nat) : Int) - ((cap : Nat) : Int))).toNat, by omega⟩
    refine vxW_tight (k' := k_18) (m' := m_18) (by omega) (by omega) ?_
    clear hus1 hus2 hu1 hu2
    have hPI : PI (kc 98) (kc 0) e_1 x13_1 cap_1 num_1 none R_1 := hPI
    clear hFc hD1
    have hmono : ∀ y m, pgM (kc 0) R y m → pgM (kc 0) R_1 y m := fun y m h => hmo y m (hmono y m h)
    have hO := hO1
    have hdis := hdis1
    clear hO1 hdis1
    refine vxW_read (fun hu1 hu2 => ?_)
    simp only [List.mem_cons, List.not_mem_nil, or_false] at hE
    rcases hE with rfl | rfl
    · skip
      refine vx_catch (name := "java/lang/IllegalArgumentException") hown [⟨0, 9, 12, 25⟩] ⟨0, 9, 15, 13⟩ [] htab (fun z h => by simp only [List.mem_cons, List.not_mem_nil, or_false] at h; rcases h with rfl <;> first | exact Or.inr ⟨by decide, "java/lang/IllegalStateException", va_Nw.use rfl (hG.1.2.2.2.2.2.2 (25, "java/lang/IllegalStateException") (by decide +kernel)), hG.1.2.2.2.1 _ (by decide) _ (by decide) (by decide)⟩) (by decide) (by decide) (va_Nw.use rfl (hG.1.2.2.2.2.2.2 (13, "java/lang/IllegalArgumentException") (by decide +kernel))) (va_Nw.use rfl (hG.1.2.2.1 _ (by decide))) hcell hv hcl ?_
      refine W.eq (g2 := F0 m 15 ls [.ref q9]) rfl ?_
      clear hcell hv hcl
      clear ht hp hz hk hvm
      generalize H1 = H at hP hS hO ⊢
      refine lv_astore_n (lv' := [(3, .ref q9), (0, .ref (c 100)), (1, .int p1), (2, .ref oa)]) hx hb dL_mend_15 rfl hl (by decide) rfl (fun ls hl => ?_)
      refine lv_iconst (v := 2) hx hb dL_mend_16 (by decide) ?_
      refine W_read (fun hu1 hu2 => ?_)
      refine W.widen (k := 8) (n := 640100) (by omega) (by omega) ?_
      exact W.iret hx hb hr (fun t ht hW => ⟨⟨_, _, rfl, rfl, e_1, (rU (rU (rU (rU (rU (rU (rU (rU (rU (rU (rU (rU (rU st 5 x5_1) 9 x9_1) 10 x10_1) 11 x11_1) 12 x12_1) 13 x13_1) 17 x17_1) 18 x18_1) 25 x25_1) 26 x26_1) 27 x27_1) 28 x28_1) 29 x29_1), lg, (rU (rU (rU (rU (rU (rU (rU (rU ai 0 f0_1) 7 f7_1) 8 f8_1) 14 f14_1) 20 f20_1) 21 f21_1) 22 f22_1) 23 f23_1), (rU al 19 g19_1), R_1, cap_1, num_1, fo, ⟨(show 0 ≤ (st 3).toInt ∧ (st 3).toInt ≤ 8 from ⟨by omega, by omega⟩), (show 0 ≤ x5_1.toInt ∧ x5_1.toInt ≤ 400 from ⟨by omega, by omega⟩), (show 1 ≤ (st 6).toInt ∧ (st 6).toInt ≤ 65536 from ⟨by omega, by omega⟩), (show 0 ≤ x9_1.toInt ∧ x9_1.toInt ≤ 1 from ⟨by omega, by omega⟩), (show 0 ≤ x13_1.toInt ∧ x13_1.toInt ≤ 65536 from ⟨by omega, by omega⟩), (show 0 ≤ (st 15).toInt ∧ (st 15).toInt ≤ 1 from ⟨by omega, by omega⟩), (show 0 ≤ x17_1.toInt ∧ x17_1.toInt ≤ 128 from ⟨by omega, by omega⟩), (show 0 ≤ x25_1.toInt ∧ x25_1.toInt ≤ 128 from ⟨by omega, by omega⟩), (show 0 ≤ x26_1.toInt ∧ x26_1.toInt ≤ 128 from ⟨by omega, by omega⟩), (show -1 ≤ x27_1.toInt ∧ x27_1.toInt ≤ 127 from ⟨by omega, by omega⟩), (show 0 ≤ x28_1.toInt ∧ x28_1.toInt ≤ 1 from ⟨by omega, by omega⟩), (show 0 ≤ (st 37).toInt ∧ (st 37).toInt ≤ 255 from ⟨by omega, by omega⟩), (show aR (ai 4) 400 (-128) 127 from hR4), (show aR f7_1 8224 (-128) 127 from hR7), (show aR f23_1 128 (0) 127 from hR23), (show aR (ai 32) 16 (0) 400 from hR32), (show aR (ai 33) 16 (0) 255 from hR33), hPI, hN⟩, hc0, hcp, (show (st 13).toInt ≤ x13_1.toInt by omega), (show x13_1.toInt ≤ (st 13).toInt + 16 by omega), (show ((t.heap.size : Nat) : Int) ≤ ((s.heap.size : Nat) : Int) + 3 + 3 * (x13_1.toInt - (st 13).toInt) by rw [ht]; omega), (show ((tot t.heap : Nat) : Int) ≤ ((tot s.heap : Nat) : Int) + 18 + 29 * (x13_1.toInt - (st 13).toInt) + 4 * (((cap_1 : Nat) : Int) - ((cap : Nat) : Int)) by rw [ht]; omega), by rw [ht]; exact hP.app hO, va_D.app (cw_D hD) hDO (cw_dj hdis)⟩, hS.F ht⟩) hS.2.2 dL_mend_17
    · skip
      refine vx_catch (name := "java/lang/IllegalStateException") hown [] ⟨0, 9, 12, 25⟩ [⟨0, 9, 15, 13⟩] htab (fun z h => by cases h) (by decide) (by decide) (va_Nw.use rfl (hG.1.2.2.2.2.2.2 (25, "java/lang/IllegalStateException") (by decide +kernel))) (va_Nw.use rfl (hG.1.2.2.1 _ (by decide))) hcell hv hcl ?_
      refine W.eq (g2 := F0 m 12 ls [.ref q9]) rfl ?_
      clear hcell hv hcl
      clear ht hp hz hk hvm
      generalize H1 = H at hP hS hO ⊢
      refine lv_astore_n (lv' := [(3, .ref q9), (0, .ref (c 100)), (1, .int p1), (2, .ref oa)]) hx hb dL_mend_12 rfl hl (by decide) rfl (fun ls hl => ?_)
      refine lv_iconst (v := 1) hx hb dL_mend_13 (by decide) ?_
      refine W_read (fun hu1 hu2 => ?_)
      refine W.widen (k := 8) (n := 640100) (by omega) (by omega) ?_
      exact W.iret hx hb hr (fun t ht hW => ⟨⟨_, _, rfl, rfl, e_1, (rU (rU (rU (rU (rU (rU (rU (rU (rU (rU (rU (rU (rU st 5 x5_1) 9 x9_1) 10 x10_1) 11 x11_1) 12 x12_1) 13 x13_1) 17 x17_1) 18 x18_1) 25 x25_1) 26 x26_1) 27 x27_1) 28 x28_1) 29 x29_1), lg, (rU (rU (rU (rU (rU (rU (rU (rU ai 0 f0_1) 7 f7_1) 8 f8_1) 14 f14_1) 20 f20_1) 21 f21_1) 22 f22_1) 23 f23_1), (rU al 19 g19_1), R_1, cap_1, num_1, fo, ⟨(show 0 ≤ (st 3).toInt ∧ (st 3).toInt ≤ 8 from ⟨by omega, by omega⟩), (show 0 ≤ x5_1.toInt ∧ x5_1.toInt ≤ 400 from ⟨by omega, by omega⟩), (show 1 ≤ (st 6).toInt ∧ (st 6).toInt ≤ 65536 from ⟨by omega, by omega⟩), (show 0 ≤ x9_1.toInt ∧ x9_1.toInt ≤ 1 from ⟨by omega, by omega⟩), (show 0 ≤ x13_1.toInt ∧ x13_1.toInt ≤ 65536 from ⟨by omega, by omega⟩), (show 0 ≤ (st 15).toInt ∧ (st 15).toInt ≤ 1 from ⟨by omega, by omega⟩), (show 0 ≤ x17_1.toInt ∧ x17_1.toInt ≤ 128 from ⟨by omega, by omega⟩), (show 0 ≤ x25_1.toInt ∧ x25_1.toInt ≤ 128 from ⟨by omega, by omega⟩), (show 0 ≤ x26_1.toInt ∧ x26_1.toInt ≤ 128 from ⟨by omega, by omega⟩), (show -1 ≤ x27_1.toInt ∧ x27_1.toInt ≤ 127 from ⟨by omega, by omega⟩), (show 0 ≤ x28_1.toInt ∧ x28_1.toInt ≤ 1 from ⟨by omega, by omega⟩), (show 0 ≤ (st 37).toInt ∧ (st 37).toInt ≤ 255 from ⟨by omega, by omega⟩), (show aR (ai 4) 400 (-128) 127 from hR4), (show aR f7_1 8224 (-128) 127 from hR7), (show aR f23_1 128 (0) 127 from hR23), (show aR (ai 32) 16 (0) 400 from hR32), (show aR (ai 33) 16 (0) 255 from hR33), hPI, hN⟩, hc0, hcp, (show (st 13).toInt ≤ x13_1.toInt by omega), (show x13_1.toInt ≤ (st 13).toInt + 16 by omega), (show ((t.heap.size : Nat) : Int) ≤ ((s.heap.size : Nat) : Int) + 3 + 3 * (x13_1.toInt - (st 13).toInt) by rw [ht]; omega), (show ((tot t.heap : Nat) : Int) ≤ ((tot s.heap : Nat) : Int) + 18 + 29 * (x13_1.toInt - (st 13).toInt) + 4 * (((cap_1 : Nat) : Int) - ((cap : Nat) : Int)) by rw [ht]; omega), by rw [ht]; exact hP.app hO, va_D.app (cw_D hD) hDO (cw_dj hdis)⟩, hS.F ht⟩) hS.2.2 dL_mend_14
  · skip
    subst er_1
    obtain ⟨x5_1, x9_1, x10_1, x11_1, x12_1, x13_1, x17_1, x18_1, x25_1, x26_1, x27_1, x28_1, x29_1, f0_1, f7_1, f8_1, f14_1, f20_1, f21_1, f22_1, f23_1, g19_1, e_1, cap_1, num_1, R_1, k_19, k_20, k_21, k_22, k_23, k_24, k_25, k_26, k_27, k_28, k_29, k_30, k_31, k_32, k_33, k_34, hR7, hR23, hPI, hmo, hD1, hN, hc1, hcp1, hnn1, hnn2, hus1, hus2, hP1⟩ := hB
    rw [ht] at hP1
    have hO1 := dj_keep hO hdis hk1
    have hdis1 := dj_new hO hdis hD1
    rw [rU_rU (f := c) (k := 99) (a := (c 99)) (b := e_1)] at hdis1
    clear hO hdis
    clear hz1 hk1 hvm hP
    subst ht
    have hP := hP1
    clear hP1
    generalize t.heap = H at hP hS hus1 hus2 hO1 ⊢
    rw [rU_rU (f := c) (k := 99) (a := (c 99)) (b := e_1)] at hP
    have hP : va_P (dC, dI) vwCl (cw_W (rU c 99 e_1) kc (rU (rU (rU (rU (rU (rU (rU (rU (rU (rU (rU (rU (rU st 5 x5_1) 9 x9_1) 10 x10_1) 11 x11_1) 12 x12_1) 13 x13_1) 17 x17_1) 18 x18_1) 25 x25_1) 26 x26_1) 27 x27_1) 28 x28_1) 29 x29_1) lg (rU (rU (rU (rU (rU (rU (rU (rU ai 0 f0_1) 7 f7_1) 8 f8_1) 14 f14_1) 20 f20_1) 21 f21_1) 22 f22_1) 23 f23_1) (rU al 19 g19_1) R_1) H := hP
    rw [rU_rU (f := c) (k := 99) (a := (c 99)) (b := e_1)] at hD1
    have hD : va_D A (cw_W (rU c 99 e_1) kc st lg ai al R_1) := cw_D (hD1.weaken (fun _ _ _ h => hFc _ h))
    have hc0 : cap_1 = 0 → cap = 0 ∧ e_1 = c 99 := fun h => ⟨(hc0 (hc1 h).1).1, (show e_1 = c 99 from (hc1 h).2).trans (hc0 (hc1 h).1).2⟩
    have hcp : cap ≤ cap_1 := Nat.le_trans hcp hcp1
    have hN1 : ((cap_1 : Nat) : Int) ≤ 10 + 2 * x13_1.toInt := hN.1
    have hnn1 : (st 13).toInt ≤ x13_1.toInt := hnn1
    have hnn2 : x13_1.toInt ≤ (st 13).toInt + 1 := hnn2
    have hus1 : ((H.size : Nat) : Int) ≤ _ + 2 + 3 * (x13_1.toInt - (st 13).toInt) := hus1
    have hus2 : ((tot H : Nat) : Int) ≤ _ + 12 + 29 * (x13_1.toInt - (st 13).toInt) + 4 * (((cap_1 : Nat) : Int) - ((cap : Nat) : Int)) := hus2
    obtain ⟨k_35, hk_35⟩ : ∃ k9 : Nat, (k9 : Int) = ((0 : Nat) : Int) + 2 + 3 * (x13_1.toInt - (st 13).toInt) := ⟨(((0 : Nat) : Int) + 2 + 3 * (x13_1.toInt - (st 13).toInt)).toNat, by omega⟩
    obtain ⟨m_35, hm_35⟩ : ∃ m9 : Nat, (m9 : Int) = ((0 : Nat) : Int) + 12 + 29 * (x13_1.toInt - (st 13).toInt) + 4 * (((cap_1 : Nat) : Int) - ((cap : Nat) : Int)) := ⟨(((0 : Nat) : Int) + 12 + 29 * (x13_1.toInt - (st 13).toInt) + 4 * (((cap_1 : Nat) : Int) - ((cap : Nat) : Int))).toNat, by omega⟩
    refine W_tight (k' := k_35) (m' := m_35) (by omega) (by omega) ?_
    clear hus1 hus2 hu1 hu2
    have hPI : PI (kc 98) (kc 0) e_1 x13_1 cap_1 num_1 none R_1 := hPI
    clear hFc hD1
    have hmono : ∀ y m, pgM (kc 0) R y m → pgM (kc 0) R_1 y m := fun y m h => hmo y m (hmono y m h)
    have hO := hO1
    have hdis := hdis1
    clear hO1 hdis1
    have k_19 : 0 ≤ x5_1.toInt := k_19
    have k_20 : x5_1.toInt ≤ 400 := k_20
    have k_21 : 0 ≤ x9_1.toInt := k_21
    have k_22 : x9_1.toInt ≤ 1 := k_22
    have k_23 : 0 ≤ x13_1.toInt := k_23
    have k_24 : x13_1.toInt ≤ 65536 := k_24
    have k_25 : 0 ≤ x17_1.toInt := k_25
    have k_26 : x17_1.toInt ≤ 128 := k_26
    have k_27 : 0 ≤ x25_1.toInt := k_27
    have k_28 : x25_1.toInt ≤ 128 := k_28
    have k_29 : 0 ≤ x26_1.toInt := k_29
    have k_30 : x26_1.toInt ≤ 128 := k_30
    have k_31 : -1 ≤ x27_1.toInt := k_31
    have k_32 : x27_1.toInt ≤ 127 := k_32
    have k_33 : 0 ≤ x28_1.toInt := k_33
    have k_34 : x28_1.toInt ≤ 1 := k_34
    have hR7 : aR f7_1 8224 (-128) 127 := hR7
    have hR23 : aR f23_1 128 (0) 127 := hR23
    refine lv_i2l hx hb dL_mend_7 rfl ?_
    refine lv_topl (fun w_36 ew_36 => ?_)
    clear ew_36
    refine lw_last (v := w_36) hx hb hKo hP hO (cw_D hD) hDO (cw_dj hdis) hS dL_mend_8 (fun H locs fo hP hO hS => ?_)
    have hDO : va_D A [outC oa ko fo] := out_D hDO
    have hdis : dj (cw_W (rU c 99 e_1) kc (rU (rU (rU (rU (rU (rU (rU (rU (rU (rU (rU (rU (rU st 5 x5_1) 9 x9_1) 10 x10_1) 11 x11_1) 12 x12_1) 13 x13_1) 17 x17_1) 18 x18_1) 25 x25_1) 26 x26_1) 27 x27_1) 28 x28_1) 29 x29_1) lg (rU (rU (rU (rU (rU (rU (rU (rU ai 0 f0_1) 7 f7_1) 8 f8_1) 14 f14_1) 20 f20_1) 21 f21_1) 22 f22_1) 23 f23_1) (rU al 19 g19_1) R_1) [outC oa ko fo] := out_dj (cw_dj hdis)
    refine lv_goto (tgt := 18) hx hb dL_mend_9 (by decide) ?_
    refine lv_iconst (v := 0) hx hb dL_mend_18 (by decide) ?_
    refine W_read (fun hu1 hu2 => ?_)
    refine W.widen (k := 8) (n := 640100) (by omega) (by omega) ?_
    exact W.iret hx hb hr (fun t ht hW => ⟨⟨_, _, rfl, rfl, e_1, (rU (rU (rU (rU (rU (rU (rU (rU (rU (rU (rU (rU (rU st 5 x5_1) 9 x9_1) 10 x10_1) 11 x11_1) 12 x12_1) 13 x13_1) 17 x17_1) 18 x18_1) 25 x25_1) 26 x26_1) 27 x27_1) 28 x28_1) 29 x29_1), lg, (rU (rU (rU (rU (rU (rU (rU (rU ai 0 f0_1) 7 f7_1) 8 f8_1) 14 f14_1) 20 f20_1) 21 f21_1) 22 f22_1) 23 f23_1), (rU al 19 g19_1), R_1, cap_1, num_1, fo, ⟨(show 0 ≤ (st 3).toInt ∧ (st 3).toInt ≤ 8 from ⟨by omega, by omega⟩), (show 0 ≤ x5_1.toInt ∧ x5_1.toInt ≤ 400 from ⟨by omega, by omega⟩), (show 1 ≤ (st 6).toInt ∧ (st 6).toInt ≤ 65536 from ⟨by omega, by omega⟩), (show 0 ≤ x9_1.toInt ∧ x9_1.toInt ≤ 1 from ⟨by omega, by omega⟩), (show 0 ≤ x13_1.toInt ∧ x13_1.toInt ≤ 65536 from ⟨by omega, by omega⟩), (show 0 ≤ (st 15).toInt ∧ (st 15).toInt ≤ 1 from ⟨by omega, by omega⟩), (show 0 ≤ x17_1.toInt ∧ x17_1.toInt ≤ 128 from ⟨by omega, by omega⟩), (show 0 ≤ x25_1.toInt ∧ x25_1.toInt ≤ 128 from ⟨by omega, by omega⟩), (show 0 ≤ x26_1.toInt ∧ x26_1.toInt ≤ 128 from ⟨by omega, by omega⟩), (show -1 ≤ x27_1.toInt ∧ x27_1.toInt ≤ 127 from ⟨by omega, by omega⟩), (show 0 ≤ x28_1.toInt ∧ x28_1.toInt ≤ 1 from ⟨by omega, by omega⟩), (show 0 ≤ (st 37).toInt ∧ (st 37).toInt ≤ 255 from ⟨by omega, by omega⟩), (show aR (ai 4) 400 (-128) 127 from hR4), (show aR f7_1 8224 (-128) 127 from hR7), (show aR f23_1 128 (0) 127 from hR23), (show aR (ai 32) 16 (0) 400 from hR32), (show aR (ai 33) 16 (0) 255 from hR33), hPI, hN⟩, hc0, hcp, (show (st 13).toInt ≤ x13_1.toInt by omega), (show x13_1.toInt ≤ (st 13).toInt + 16 by omega), (show ((t.heap.size : Nat) : Int) ≤ ((s.heap.size : Nat) : Int) + 3 + 3 * (x13_1.toInt - (st 13).toInt) by rw [ht]; omega), (show ((tot t.heap : Nat) : Int) ≤ ((tot s.heap : Nat) : Int) + 18 + 29 * (x13_1.toInt - (st 13).toInt) + 4 * (((cap_1 : Nat) : Int) - ((cap : Nat) : Int)) by rw [ht]; omega), by rw [ht]; exact hP.app hO, va_D.app (cw_D hD) hDO (cw_dj hdis)⟩, hS.F ht⟩) hS.2.2 dL_mend_19

set_option maxHeartbeats 4000000 in
set_option maxRecDepth 100000 in
theorem h_L_told (l : Launch) (hl0 : l.stackTraces = false) (dC : Nat → ClassId) (dI : Nat → Nat → Nat) (c : Nat → Nat) (kc : Nat → ClassId) (st : Nat → Int32) (lg : Nat → Int64) (ai : Nat → Nat → Int32) (al : Nat → Nat → Int64) (R : va_W) (cap : Nat) (num : Nat → Int32) (oa : Nat) (ko : ClassId) (fo : Nat → Int64) (p1 : Int32) (sz tz : Nat) (hI : cI c kc st ai R cap num)  : Met l yL_told wsL_told ({ frames := 7, cells := 1, slots := 6, locals := 160 }) (va_Pc [.ref (c 100), .int p1, .ref oa] (fun U => U.heap.size = sz ∧ tot U.heap = tz ∧ va_P (dC, dI) vwCl (cw_W c kc st lg ai al R ++ [outC oa ko fo]) U.heap ∧ va_K (dC, dI) vwCl (cw_T kc) U ∧ va_K (dC, dI) vwCl [(ko, .long)] U ∧ va_D (fun _ => True) (cw_W c kc st lg ai al R ++ [outC oa ko fo]) ∧ gy_E cap (c 99) (va_A (cw_W c kc st lg ai al R ++ [outC oa ko fo]) sz) U)) (va_Qi (fun r (u : Int32) => r = u) (fun u t => hQ (dC, dI) c kc (st 13) cap sz tz oa ko (va_A (cw_W c kc st lg ai al R ++ [outC oa ko fo]) sz) t) (va_A (cw_W c kc st lg ai al R ++ [outC oa ko fo]) sz)) 1 6 (va_A (cw_W c kc st lg ai al R ++ [outC oa ko fo]) sz) := by
  refine va_MetW (cc := cL_told) (maxL := 4) (ret := (some .int)) (hh := [(0, 9, 12, 13)]) (by decide) rfl ?_
  intro p e s m args below meth cM s₁ B hml hv
  obtain ⟨rfl, hsz, htz, hPZ, hK, hKo, hD0, hY⟩ := hv
  have hx := B.exec
  have hb := B.bytes
  have hr := B.returns
  have hts := atoms_spec (ws := wsL_told) B.pre
  have hown : s.vm.findClass RL = some m.cls := findClass_of_methodNamed B.named
  have hlocks := B.notSynchronized
  have htab := vx_table (x := yL_told) B (hts (.codeWith yL_told cL_told 4 (some .int) [(0, 9, 12, 13)]) List.mem_cons_self)
  obtain ⟨⟨hf3a, hf3b⟩, ⟨hf5a, hf5b⟩, ⟨hf6a, hf6b⟩, ⟨hf9a, hf9b⟩, ⟨hf13a, hf13b⟩, ⟨hf15a, hf15b⟩, ⟨hf17a, hf17b⟩, ⟨hf25a, hf25b⟩, ⟨hf26a, hf26b⟩, ⟨hf27a, hf27b⟩, ⟨hf28a, hf28b⟩, ⟨hf37a, hf37b⟩, hR4, hR7, hR23, hR32, hR33, hPI, hN⟩ := hI
  subst hsz
  subst htz
  have hDZ := hD0.self (sz := s.heap.size)
  generalize hAe : va_A (cw_W c kc st lg ai al R ++ [outC oa ko fo]) s.heap.size = A at hDZ hY ⊢
  have hA : ∀ q : Nat, s.heap.size ≤ q → A q := fun q h => by rw [← hAe]; exact Or.inr h
  have hS : va_S A s.heap s.heap [] := va_S.rf
  clear hAe hD0
  have hD := vD_l hDZ
  have hDO := vD_r hDZ
  have hdis := vD_dj hDZ
  have hP := vP_l hPZ
  have hO := vP_r hPZ
  clear hDZ hPZ
  have hG := hY.1
  have hGW := hG.1
  have hl := lv_entry ([.ref (c 100), .int p1, .ref oa]) (n := 4) (Nat.le_of_ble_eq_true rfl)
  rw [lg_entry_eq]
  generalize (lg_sl ([.ref (c 100), .int p1, .ref oa]) ++ List.replicate (4 - (lg_sl ([.ref (c 100), .int p1, .ref oa])).length) Slot.unset).toArray = ls at hl ⊢
  have hl : lv_has ls 4 [(0, .ref (c 100)), (1, .int p1), (2, .ref oa)] := hl
  have z_0 : (0 : Int32).toInt = 0 := by decide
  have z_1 : (1 : Int32).toInt = 1 := by decide
  have hP : va_P (dC, dI) vwCl (cw_W (rU c 99 (c 99)) kc st lg ai al R) s.heap := by rw [rU_self]; exact hP
  have hD : va_D A (cw_W (rU c 99 (c 99)) kc st lg ai al R) := by rw [rU_self]; exact hD
  have hdis : dj (cw_W (rU c 99 (c 99)) kc st lg ai al R) [outC oa ko fo] := by rw [rU_self]; exact hdis
  have hc0 : cap = 0 → cap = 0 ∧ c 99 = c 99 := fun h => ⟨h, rfl⟩
  have hcp : cap ≤ cap := Nat.le_refl _
  have hN1 : ((cap : Nat) : Int) ≤ 10 + 2 * (st 13).toInt := hN.1
  have hmono : ∀ y m, pgM (kc 0) R y m → pgM (kc 0) R y m := fun y m h => h
  refine lv_aload_n hx hb dL_told_0 rfl (lv_at hl 2 rfl) ?_
  refine lv_iconst (v := 0) hx hb dL_told_1 (by decide) ?_
  refine lv_aload_n hx hb dL_told_2 rfl (lv_at hl 0 rfl) ?_
  refine lv_iload_n hx hb dL_told_3 rfl (lv_at hl 1 rfl) ?_
  have hFc := vfree ((cw_D hD : va_D A (cw_W (rU c 99 (c 99)) kc st lg ai al R)) : va_D A (cw_W (rU c 99 (c 99)) kc st lg ai al R)) hS hA
  refine vx_calli (vx_runV (As := [.int p1]) (rest := [.int (0 : Int32), .ref oa]) ⟨hx, hb, hml, hown, hts⟩ (v_X8_told l hl0 dC dI (rU c 99 (c 99)) kc st lg ai al R cap num p1 _ hPI (show 0 ≤ (st 3).toInt by omega) (show (st 3).toInt ≤ 8 by omega) (show 1 ≤ (st 6).toInt by omega) (show (st 6).toInt ≤ 65536 by omega) (show 0 ≤ (st 9).toInt by omega) (show (st 9).toInt ≤ 1 by omega) (show 0 ≤ (st 13).toInt by omega) (show (st 13).toInt ≤ 65536 by omega) (show 0 ≤ (st 15).toInt by omega) (show (st 15).toInt ≤ 1 by omega) (show 0 ≤ (st 17).toInt by omega) (show (st 17).toInt ≤ 128 by omega)) (cwV 1 hts gL_told_X8_told rfl rfl rfl (by decide +kernel) ⟨Nat.le_of_ble_eq_true rfl, Nat.le_of_ble_eq_true rfl⟩) ⟨fun a U g mk q => by obtain ⟨q0, q1, qP, qK, qD, qG⟩ := q; exact ⟨q0, q1, qP, va_K.moved (u := U) (U := U.calling g mk a) (Vm.Alike.refl U.vm) qK, qD, qG.same rfl rfl⟩, va_recv hK hP (ci := 10) (q := (RX8, TX8, 10)) rfl (q0 := 0) rfl, fun U hU hW => ⟨rfl, by rw [hU], by rw [hU]; exact hP, va_K.moved hW.alike hK, ((cw_D hD : va_D A (cw_W (rU c 99 (c 99)) kc st lg ai al R))).weaken (fun _ _ _ _ => trivial), hG.go hW hU hS hFc⟩⟩ rfl rfl hl.1 rfl (lv_room (Nat.le_of_ble_eq_true rfl)) dL_told_4 ⟨by show 0 + 1 ≤ 1; omega, by show 0 + 6 ≤ 6; omega⟩) hS (fun q _ h => hFc q h) hFc (fun q _ h => hFc q h) (fun E9 ce q9 u t H1 locs ht hvm hp hE hz hk hS hcell hv hcl => ?_) (fun r_1 ur_1 t H1 locs ht hvm er_1 hB hz1 hk1 hS => ?_)
  · skip
    obtain ⟨hE, R_1, hPI, hmo, hD1, hP1⟩ := hE
    rw [ht] at hP1
    have hO1 := dj_keep hO hdis hk
    have hdis1 := dj_new hO hdis hD1
    clear hO hdis
    have hP : va_P (dC, dI) vwCl (cw_W (rU c 99 (c 99)) kc st lg ai al R_1) H1 := hP1
    have hD : va_D A (cw_W (rU c 99 (c 99)) kc st lg ai al R_1) := cw_D (hD1.weaken (fun _ _ _ h => hFc _ h))
    have hPI : PI (kc 98) (kc 0) (c 99) (st 13) cap num none R_1 := hPI
    clear hFc hD1
    have hmono : ∀ y m, pgM (kc 0) R y m → pgM (kc 0) R_1 y m := fun y m h => hmo y m (hmono y m h)
    have hO := hO1
    have hdis := hdis1
    clear hO1 hdis1
    refine vxW_read (fun hu1 hu2 => ?_)
    simp only [List.mem_cons, List.not_mem_nil, or_false] at hE
    subst hE
    refine vx_catch (name := "java/lang/IllegalArgumentException") hown [] ⟨0, 9, 12, 13⟩ [] htab (fun z h => by cases h) (by decide) (by decide) (va_Nw.use rfl (hG.1.2.2.2.2.2.2 (13, "java/lang/IllegalArgumentException") (by decide +kernel))) (va_Nw.use rfl (hG.1.2.2.1 _ (by decide))) hcell hv hcl ?_
    refine W.eq (g2 := F0 m 12 ls [.ref q9]) rfl ?_
    clear hcell hv hcl
    clear ht hp hz hk hvm
    generalize H1 = H at hP hS hO ⊢
    refine lv_astore_n (lv' := [(3, .ref q9), (0, .ref (c 100)), (1, .int p1), (2, .ref oa)]) hx hb dL_told_12 rfl hl (by decide) rfl (fun ls hl => ?_)
    refine lv_iconst (v := 1) hx hb dL_told_13 (by decide) ?_
    refine W_read (fun hu1 hu2 => ?_)
    refine W.widen (k := 1) (n := 6) (by omega) (by omega) ?_
    exact W.iret hx hb hr (fun t ht hW => ⟨⟨_, _, rfl, rfl, c 99, st, lg, ai, al, R_1, cap, num, fo, ⟨(show 0 ≤ (st 3).toInt ∧ (st 3).toInt ≤ 8 from ⟨by omega, by omega⟩), (show 0 ≤ (st 5).toInt ∧ (st 5).toInt ≤ 400 from ⟨by omega, by omega⟩), (show 1 ≤ (st 6).toInt ∧ (st 6).toInt ≤ 65536 from ⟨by omega, by omega⟩), (show 0 ≤ (st 9).toInt ∧ (st 9).toInt ≤ 1 from ⟨by omega, by omega⟩), (show 0 ≤ (st 13).toInt ∧ (st 13).toInt ≤ 65536 from ⟨by omega, by omega⟩), (show 0 ≤ (st 15).toInt ∧ (st 15).toInt ≤ 1 from ⟨by omega, by omega⟩), (show 0 ≤ (st 17).toInt ∧ (st 17).toInt ≤ 128 from ⟨by omega, by omega⟩), (show 0 ≤ (st 25).toInt ∧ (st 25).toInt ≤ 128 from ⟨by omega, by omega⟩), (show 0 ≤ (st 26).toInt ∧ (st 26).toInt ≤ 128 from ⟨by omega, by omega⟩), (show -1 ≤ (st 27).toInt ∧ (st 27).toInt ≤ 127 from ⟨by omega, by omega⟩), (show 0 ≤ (st 28).toInt ∧ (st 28).toInt ≤ 1 from ⟨by omega, by omega⟩), (show 0 ≤ (st 37).toInt ∧ (st 37).toInt ≤ 255 from ⟨by omega, by omega⟩), (show aR (ai 4) 400 (-128) 127 from hR4), (show aR (ai 7) 8224 (-128) 127 from hR7), (show aR (ai 23) 128 (0) 127 from hR23), (show aR (ai 32) 16 (0) 400 from hR32), (show aR (ai 33) 16 (0) 255 from hR33), hPI, hN⟩, hc0, hcp, (show (st 13).toInt ≤ (st 13).toInt by omega), (show (st 13).toInt ≤ (st 13).toInt + 16 by omega), (show ((t.heap.size : Nat) : Int) ≤ ((s.heap.size : Nat) : Int) + 3 + 3 * ((st 13).toInt - (st 13).toInt) by rw [ht]; omega), (show ((tot t.heap : Nat) : Int) ≤ ((tot s.heap : Nat) : Int) + 18 + 29 * ((st 13).toInt - (st 13).toInt) + 4 * (((cap : Nat) : Int) - ((cap : Nat) : Int)) by rw [ht]; omega), by rw [ht]; exact hP.app hO, va_D.app (cw_D hD) hDO (cw_dj hdis)⟩, hS.F ht⟩) hS.2.2 dL_told_14
  · skip
    subst er_1
    obtain ⟨R_1, hPI, hmo, hD1, hP1⟩ := hB
    rw [ht] at hP1
    have hO1 := dj_keep hO hdis hk1
    have hdis1 := dj_new hO hdis hD1
    clear hO hdis
    clear hz1 hk1 hvm hP
    subst ht
    have hP := hP1
    clear hP1
    generalize t.heap = H at hP hS hO1 ⊢
    have hP : va_P (dC, dI) vwCl (cw_W (rU c 99 (c 99)) kc st lg ai al R_1) H := hP
    have hD : va_D A (cw_W (rU c 99 (c 99)) kc st lg ai al R_1) := cw_D (hD1.weaken (fun _ _ _ h => hFc _ h))
    have hPI : PI (kc 98) (kc 0) (c 99) (st 13) cap num none R_1 := hPI
    clear hFc hD1
    have hmono : ∀ y m, pgM (kc 0) R y m → pgM (kc 0) R_1 y m := fun y m h => hmo y m (hmono y m h)
    have hO := hO1
    have hdis := hdis1
    clear hO1 hdis1
    refine lv_i2l hx hb dL_told_7 rfl ?_
    refine lv_topl (fun w_2 ew_2 => ?_)
    clear ew_2
    refine lw_last (v := w_2) hx hb hKo hP hO (cw_D hD) hDO (cw_dj hdis) hS dL_told_8 (fun H locs fo hP hO hS => ?_)
    have hDO : va_D A [outC oa ko fo] := out_D hDO
    have hdis : dj (cw_W (rU c 99 (c 99)) kc st lg ai al R_1) [outC oa ko fo] := out_dj (cw_dj hdis)
    refine lv_goto (tgt := 15) hx hb dL_told_9 (by decide) ?_
    refine lv_iconst (v := 0) hx hb dL_told_15 (by decide) ?_
    refine W_read (fun hu1 hu2 => ?_)
    refine W.widen (k := 1) (n := 6) (by omega) (by omega) ?_
    exact W.iret hx hb hr (fun t ht hW => ⟨⟨_, _, rfl, rfl, c 99, st, lg, ai, al, R_1, cap, num, fo, ⟨(show 0 ≤ (st 3).toInt ∧ (st 3).toInt ≤ 8 from ⟨by omega, by omega⟩), (show 0 ≤ (st 5).toInt ∧ (st 5).toInt ≤ 400 from ⟨by omega, by omega⟩), (show 1 ≤ (st 6).toInt ∧ (st 6).toInt ≤ 65536 from ⟨by omega, by omega⟩), (show 0 ≤ (st 9).toInt ∧ (st 9).toInt ≤ 1 from ⟨by omega, by omega⟩), (show 0 ≤ (st 13).toInt ∧ (st 13).toInt ≤ 65536 from ⟨by omega, by omega⟩), (show 0 ≤ (st 15).toInt ∧ (st 15).toInt ≤ 1 from ⟨by omega, by omega⟩), (show 0 ≤ (st 17).toInt ∧ (st 17).toInt ≤ 128 from ⟨by omega, by omega⟩), (show 0 ≤ (st 25).toInt ∧ (st 25).toInt ≤ 128 from ⟨by omega, by omega⟩), (show 0 ≤ (st 26).toInt ∧ (st 26).toInt ≤ 128 from ⟨by omega, by omega⟩), (show -1 ≤ (st 27).toInt ∧ (st 27).toInt ≤ 127 from ⟨by omega, by omega⟩), (show 0 ≤ (st 28).toInt ∧ (st 28).toInt ≤ 1 from ⟨by omega, by omega⟩), (show 0 ≤ (st 37).toInt ∧ (st 37).toInt ≤ 255 from ⟨by omega, by omega⟩), (show aR (ai 4) 400 (-128) 127 from hR4), (show aR (ai 7) 8224 (-128) 127 from hR7), (show aR (ai 23) 128 (0) 127 from hR23), (show aR (ai 32) 16 (0) 400 from hR32), (show aR (ai 33) 16 (0) 255 from hR33), hPI, hN⟩, hc0, hcp, (show (st 13).toInt ≤ (st 13).toInt by omega), (show (st 13).toInt ≤ (st 13).toInt + 16 by omega), (show ((t.heap.size : Nat) : Int) ≤ ((s.heap.size : Nat) : Int) + 3 + 3 * ((st 13).toInt - (st 13).toInt) by rw [ht]; omega), (show ((tot t.heap : Nat) : Int) ≤ ((tot s.heap : Nat) : Int) + 18 + 29 * ((st 13).toInt - (st 13).toInt) + 4 * (((cap : Nat) : Int) - ((cap : Nat) : Int)) by rw [ht]; omega), by rw [ht]; exact hP.app hO, va_D.app (cw_D hD) hDO (cw_dj hdis)⟩, hS.F ht⟩) hS.2.2 dL_told_16

set_option maxHeartbeats 4000000 in
set_option maxRecDepth 100000 in
theorem v_X8_cutA (l : Launch) (dC : Nat → ClassId) (dI : Nat → Nat → Nat) (c : Nat → Nat) (kc : Nat → ClassId) (st : Nat → Int32) (lg : Nat → Int64) (ai : Nat → Nat → Int32) (al : Nat → Nat → Int64) (R : va_W) (p0 : Int32) (sz : Nat) (hq0 : -1 ≤ p0.toInt) (hq1 : p0.toInt ≤ 5000) : Met l yX8_cut wsX8_cut ({ frames := 0, cells := 0, slots := 0, locals := 0 }) (va_Pc [.ref (c 100), .int p0] (fun U => U.heap.size = sz ∧ va_P (dC, dI) vwCl (cw_W c kc st lg ai al R) U.heap ∧ va_K (dC, dI) vwCl (cw_T kc) U ∧ va_D (fun _ => True) (cw_W c kc st lg ai al R) ∧ gx_E (va_A (cw_W c kc st lg ai al R) sz) U)) (va_Qv (fun (_ : Unit) => True) (fun _ t => ∃ (x10 : Int32), va_P (dC, dI) vwCl (cw_W c kc (rU st 10 x10) lg ai al R) t.heap) (va_A (cw_W c kc st lg ai al R) sz)) 0 0 (va_A (cw_W c kc st lg ai al R) sz) := by
  refine Met.ofW (cc := cX8_cut) (maxL := 2) (ret := none) (by decide) rfl ?_
  intro p e s m args below meth cM s₁ B hml hv
  obtain ⟨rfl, hsz, hP, hK, hD0, hG⟩ := hv
  have hx := B.exec
  have hb := B.bytes
  have hr := B.returns
  have hts := atoms_spec (ws := wsX8_cut) B.pre
  have hown : s.vm.findClass RX8 = some m.cls := findClass_of_methodNamed B.named
  have hGW := hG.1
  subst hsz
  have hD := hD0.self (sz := s.heap.size)
  generalize hAe : va_A (cw_W c kc st lg ai al R) s.heap.size = A at hD hG ⊢
  have hA : ∀ q : Nat, s.heap.size ≤ q → A q := fun q h => by rw [← hAe]; exact Or.inr h
  have hS : va_S A s.heap s.heap [] := va_S.rf
  clear hAe hD0
  have hl := lv_entry ([.ref (c 100), .int p0]) (n := 2) (Nat.le_of_ble_eq_true rfl)
  rw [lg_entry_eq]
  generalize (lg_sl ([.ref (c 100), .int p0]) ++ List.replicate (2 - (lg_sl ([.ref (c 100), .int p0])).length) Slot.unset).toArray = ls at hl ⊢
  have hl : lv_has ls 2 [(0, .ref (c 100)), (1, .int p0)] := hl
  have z_m1 : (-1 : Int32).toInt = -1 := by decide
  have z_5000 : (5000 : Int32).toInt = 5000 := by decide
  have hin_X1 : ∀ w ∈ u_ws RX1 TX1 7, w ∈ wsX8_cut := by decide +kernel
  have hin_X8 : ∀ w ∈ u_ws RX8 TX8 10, w ∈ wsX8_cut := by decide +kernel
  have main : ∀ (H : Heap) (locs : List Loc), va_P (dC, dI) vwCl (cw_W c kc st lg ai al R) H → va_S A s.heap H locs → W p l e (headSpec wsX8_cut ({ frames := 0, cells := 0, slots := 0, locals := 0 })).room s m ([.ref (c 100), .int p0] : List Value).toArray below meth cM H locs 0 0 (MQ below (va_Qv (fun (_ : Unit) => True) (fun _ t => ∃ (x10 : Int32), va_P (dC, dI) vwCl (cw_W c kc (rU st 10 x10) lg ai al R) t.heap) A) ([.ref (c 100), .int p0] : List Value).toArray s 0 0 A) (F0 m 0 ls []) := by
    intro H locs hP hS
    refine lv_iload_n hx hb dX8_cut_0 rfl (lv_at hl 1 rfl) ?_
    refine lv_iconst (v := (-1)) hx hb dX8_cut_1 (by decide) ?_
    refine lv_icmp_lt (tgt := 12) hx hb dX8_cut_2 (by decide) (fun c_1 => ?_) (fun c_1 => ?_)
    · skip
      have ic_1 := iv_lt c_1
      exfalso
      omega
    · skip
      have ic_1 := iv_nlt c_1
      refine lv_iload_n hx hb dX8_cut_5 rfl (lv_at hl 1 rfl) ?_
      refine lv_sipush (v := 5000) hx hb dX8_cut_6 (by decide) ?_
      refine lv_icmp_le (tgt := 23) hx hb dX8_cut_9 (by decide) (fun c_2 => ?_) (fun c_2 => ?_)
      · skip
        have ic_2 := iv_le c_2
        refine lv_aload_n hx hb dX8_cut_23 rfl (lv_at hl 0 rfl) ?_
        refine va_get (D := (dC, dI)) (ci := 10) (v := .ref (c 102)) (C := RX8) (T := TX8) (N := 10) hx hb hts hin_X8 hown hK hP 0 rfl rfl 1 (by decide) (hts (.fieldLink RX8 22 "BlockLog" "disk" "LBlockLog$Disk;") (by decide +kernel)) (fun _ h9 => h9) rfl dX8_cut_24 ?_
        refine lv_iload_n hx hb dX8_cut_27 rfl (lv_at hl 1 rfl) ?_
        refine va_putN (D := (dC, dI)) (ci := 3) (v := .int p0) (ty := .int) (C := RX1) (T := TX1) (N := 7) hx hb hts hin_X1 tyX1 tyX1_ok nmX1 hown hK hP (cw_D hD) hS 2 rfl rfl 5 (by decide) (va_Nw.use rfl (hGW.1 ("BlockLog", 284, "BlockLog$Disk", "actsLeft", "I", "BlockLog") (by decide +kernel))) (fun _ h9 => h9) rfl (by decide +kernel) rfl rfl (Nat.le_of_ble_eq_true rfl) dX8_cut_28 (fun H locs hP _ hS => ?_)
        have hP : va_P (dC, dI) vwCl (cw_W c kc (rU st 10 p0) lg ai al R) H := hP
        exact W.vret hx hb hr (fun t ht hW => ⟨⟨(), rfl, trivial, p0, by rw [ht]; exact hP⟩, hS.F ht⟩) hS.2.2 dX8_cut_31
      · skip
        have ic_2 := iv_nle c_2
        exfalso
        omega
  exact main s.heap [] hP hS

set_option maxHeartbeats 4000000 in
set_option maxRecDepth 100000 in
theorem h_L_cutA (l : Launch) (hl0 : l.stackTraces = false) (dC : Nat → ClassId) (dI : Nat → Nat → Nat) (c : Nat → Nat) (kc : Nat → ClassId) (st : Nat → Int32) (lg : Nat → Int64) (ai : Nat → Nat → Int32) (al : Nat → Nat → Int64) (R : va_W) (cap : Nat) (num : Nat → Int32) (oa : Nat) (ko : ClassId) (fo : Nat → Int64) (p1 : Int32) (sz tz : Nat) (hI : cI c kc st ai R cap num) (hq0 : -1 ≤ p1.toInt) (hq1 : p1.toInt ≤ 5000) : Met l yL_cut wsL_cut ({ frames := 1, cells := 0, slots := 0, locals := 21 }) (va_Pc [.ref (c 100), .int p1] (fun U => U.heap.size = sz ∧ tot U.heap = tz ∧ va_P (dC, dI) vwCl (cw_W c kc st lg ai al R ++ [outC oa ko fo]) U.heap ∧ va_K (dC, dI) vwCl (cw_T kc) U ∧ va_K (dC, dI) vwCl [(ko, .long)] U ∧ va_D (fun _ => True) (cw_W c kc st lg ai al R ++ [outC oa ko fo]) ∧ gy_E cap (c 99) (va_A (cw_W c kc st lg ai al R ++ [outC oa ko fo]) sz) U)) (va_Qi (fun r (u : Int32) => r = u) (fun u t => u = (0 : Int32) ∧ hQ (dC, dI) c kc (st 13) cap sz tz oa ko (va_A (cw_W c kc st lg ai al R ++ [outC oa ko fo]) sz) t) (va_A (cw_W c kc st lg ai al R ++ [outC oa ko fo]) sz)) 0 0 (va_A (cw_W c kc st lg ai al R ++ [outC oa ko fo]) sz) := by
  refine va_MetW (cc := cL_cut) (maxL := 3) (ret := (some .int)) (hh := [(0, 5, 8, 13)]) (by decide) rfl ?_
  intro p e s m args below meth cM s₁ B hml hv
  obtain ⟨rfl, hsz, htz, hPZ, hK, hKo, hD0, hY⟩ := hv
  have hx := B.exec
  have hb := B.bytes
  have hr := B.returns
  have hts := atoms_spec (ws := wsL_cut) B.pre
  have hown : s.vm.findClass RL = some m.cls := findClass_of_methodNamed B.named
  have hlocks := B.notSynchronized
  have htab := vx_table (x := yL_cut) B (hts (.codeWith yL_cut cL_cut 3 (some .int) [(0, 5, 8, 13)]) List.mem_cons_self)
  obtain ⟨⟨hf3a, hf3b⟩, ⟨hf5a, hf5b⟩, ⟨hf6a, hf6b⟩, ⟨hf9a, hf9b⟩, ⟨hf13a, hf13b⟩, ⟨hf15a, hf15b⟩, ⟨hf17a, hf17b⟩, ⟨hf25a, hf25b⟩, ⟨hf26a, hf26b⟩, ⟨hf27a, hf27b⟩, ⟨hf28a, hf28b⟩, ⟨hf37a, hf37b⟩, hR4, hR7, hR23, hR32, hR33, hPI, hN⟩ := hI
  subst hsz
  subst htz
  have hDZ := hD0.self (sz := s.heap.size)
  generalize hAe : va_A (cw_W c kc st lg ai al R ++ [outC oa ko fo]) s.heap.size = A at hDZ hY ⊢
  have hA : ∀ q : Nat, s.heap.size ≤ q → A q := fun q h => by rw [← hAe]; exact Or.inr h
  have hS : va_S A s.heap s.heap [] := va_S.rf
  clear hAe hD0
  have hD := vD_l hDZ
  have hDO := vD_r hDZ
  have hdis := vD_dj hDZ
  have hP := vP_l hPZ
  have hO := vP_r hPZ
  clear hDZ hPZ
  have hG := hY.1
  have hGW := hG.1
  have hl := lv_entry ([.ref (c 100), .int p1]) (n := 3) (Nat.le_of_ble_eq_true rfl)
  rw [lg_entry_eq]
  generalize (lg_sl ([.ref (c 100), .int p1]) ++ List.replicate (3 - (lg_sl ([.ref (c 100), .int p1])).length) Slot.unset).toArray = ls at hl ⊢
  have hl : lv_has ls 3 [(0, .ref (c 100)), (1, .int p1)] := hl
  have z_0 : (0 : Int32).toInt = 0 := by decide
  have hP : va_P (dC, dI) vwCl (cw_W (rU c 99 (c 99)) kc st lg ai al R) s.heap := by rw [rU_self]; exact hP
  have hD : va_D A (cw_W (rU c 99 (c 99)) kc st lg ai al R) := by rw [rU_self]; exact hD
  have hdis : dj (cw_W (rU c 99 (c 99)) kc st lg ai al R) [outC oa ko fo] := by rw [rU_self]; exact hdis
  have hc0 : cap = 0 → cap = 0 ∧ c 99 = c 99 := fun h => ⟨h, rfl⟩
  have hcp : cap ≤ cap := Nat.le_refl _
  have hN1 : ((cap : Nat) : Int) ≤ 10 + 2 * (st 13).toInt := hN.1
  have hmono : ∀ y m, pgM (kc 0) R y m → pgM (kc 0) R y m := fun y m h => h
  refine lv_aload_n hx hb dL_cut_0 rfl (lv_at hl 0 rfl) ?_
  refine lv_iload_n hx hb dL_cut_1 rfl (lv_at hl 1 rfl) ?_
  have hFc := vfree ((cw_D hD : va_D A (cw_W (rU c 99 (c 99)) kc st lg ai al R)) : va_D A (cw_W (rU c 99 (c 99)) kc st lg ai al R)) hS hA
  refine va_callv (va_runV (As := [.int p1]) (rest := []) ⟨hx, hb, hml, hown, hts⟩ (v_X8_cutA l dC dI (rU c 99 (c 99)) kc st lg ai al R p1 _ (by omega) (by omega)) (cwV 1 hts gL_cut_X8_cut rfl rfl rfl (by decide +kernel) ⟨Nat.le_of_ble_eq_true rfl, Nat.le_of_ble_eq_true rfl⟩) ⟨fun a U g mk q => by obtain ⟨q0, q1, qP, qK, qD, qG⟩ := q; exact ⟨q0, q1, qP, va_K.moved (u := U) (U := U.calling g mk a) (Vm.Alike.refl U.vm) qK, qD, qG.same rfl rfl⟩, va_recv hK hP (ci := 10) (q := (RX8, TX8, 10)) rfl (q0 := 0) rfl, fun U hU hW => ⟨rfl, by rw [hU], by rw [hU]; exact hP, va_K.moved hW.alike hK, ((cw_D hD : va_D A (cw_W (rU c 99 (c 99)) kc st lg ai al R))).weaken (fun _ _ _ _ => trivial), hG.go hW hU hS hFc⟩⟩ rfl rfl hl.1 rfl (lv_room (Nat.le_of_ble_eq_true rfl)) dL_cut_2 ⟨by show 0 + 0 ≤ 0; omega, by show 0 + 0 ≤ 0; omega⟩) hS (fun q _ h => hFc q h) hFc (fun ur_1 t H1 locs ht hvm er_1 hB hz1 hk1 hS => ?_)
  obtain ⟨x10_1, hP1⟩ := hB
  rw [ht] at hP1
  have hO1 := dj_keep hO hdis hk1
  have hdis1 := hdis
  clear hO hdis
  clear hFc hz1 hk1 hvm hP
  subst ht
  have hP := hP1
  clear hP1
  generalize t.heap = H at hP hS hO1 ⊢
  have hP : va_P (dC, dI) vwCl (cw_W (rU c 99 (c 99)) kc (rU st 10 x10_1) lg ai al R) H := hP
  have hO := hO1
  have hdis := hdis1
  clear hO1 hdis1
  refine lv_goto (tgt := 11) hx hb dL_cut_5 (by decide) ?_
  refine lv_iconst (v := 0) hx hb dL_cut_11 (by decide) ?_
  refine W_read (fun hu1 hu2 => ?_)
  refine W.widen (k := 0) (n := 0) (by omega) (by omega) ?_
  exact W.iret hx hb hr (fun t ht hW => ⟨⟨_, _, rfl, rfl, rfl, c 99, (rU st 10 x10_1), lg, ai, al, R, cap, num, fo, ⟨(show 0 ≤ (st 3).toInt ∧ (st 3).toInt ≤ 8 from ⟨by omega, by omega⟩), (show 0 ≤ (st 5).toInt ∧ (st 5).toInt ≤ 400 from ⟨by omega, by omega⟩), (show 1 ≤ (st 6).toInt ∧ (st 6).toInt ≤ 65536 from ⟨by omega, by omega⟩), (show 0 ≤ (st 9).toInt ∧ (st 9).toInt ≤ 1 from ⟨by omega, by omega⟩), (show 0 ≤ (st 13).toInt ∧ (st 13).toInt ≤ 65536 from ⟨by omega, by omega⟩), (show 0 ≤ (st 15).toInt ∧ (st 15).toInt ≤ 1 from ⟨by omega, by omega⟩), (show 0 ≤ (st 17).toInt ∧ (st 17).toInt ≤ 128 from ⟨by omega, by omega⟩), (show 0 ≤ (st 25).toInt ∧ (st 25).toInt ≤ 128 from ⟨by omega, by omega⟩), (show 0 ≤ (st 26).toInt ∧ (st 26).toInt ≤ 128 from ⟨by omega, by omega⟩), (show -1 ≤ (st 27).toInt ∧ (st 27).toInt ≤ 127 from ⟨by omega, by omega⟩), (show 0 ≤ (st 28).toInt ∧ (st 28).toInt ≤ 1 from ⟨by omega, by omega⟩), (show 0 ≤ (st 37).toInt ∧ (st 37).toInt ≤ 255 from ⟨by omega, by omega⟩), (show aR (ai 4) 400 (-128) 127 from hR4), (show aR (ai 7) 8224 (-128) 127 from hR7), (show aR (ai 23) 128 (0) 127 from hR23), (show aR (ai 32) 16 (0) 400 from hR32), (show aR (ai 33) 16 (0) 255 from hR33), hPI, hN⟩, hc0, hcp, (show (st 13).toInt ≤ (st 13).toInt by omega), (show (st 13).toInt ≤ (st 13).toInt + 16 by omega), (show ((t.heap.size : Nat) : Int) ≤ ((s.heap.size : Nat) : Int) + 3 + 3 * ((st 13).toInt - (st 13).toInt) by rw [ht]; omega), (show ((tot t.heap : Nat) : Int) ≤ ((tot s.heap : Nat) : Int) + 18 + 29 * ((st 13).toInt - (st 13).toInt) + 4 * (((cap : Nat) : Int) - ((cap : Nat) : Int)) by rw [ht]; omega), by rw [ht]; exact hP.app hO, va_D.app (cw_D hD) hDO (cw_dj hdis)⟩, hS.F ht⟩) hS.2.2 dL_cut_12

set_option maxHeartbeats 4000000 in
set_option maxRecDepth 100000 in
theorem v_X8_cutB (l : Launch) (hl0 : l.stackTraces = false) (dC : Nat → ClassId) (dI : Nat → Nat → Nat) (c : Nat → Nat) (kc : Nat → ClassId) (st : Nat → Int32) (lg : Nat → Int64) (ai : Nat → Nat → Int32) (al : Nat → Nat → Int64) (R : va_W) (p0 : Int32) (sz : Nat) (hq0 : (p0.toInt < -1 ∨ 5000 < p0.toInt)) : vx_Met l yX8_cut wsX8_cut ({ frames := 6, cells := 1, slots := 6, locals := 90 }) (va_Pc [.ref (c 100), .int p0] (fun U => U.heap.size = sz ∧ va_P (dC, dI) vwCl (cw_W c kc st lg ai al R) U.heap ∧ va_K (dC, dI) vwCl (cw_T kc) U ∧ va_D (fun _ => True) (cw_W c kc st lg ai al R) ∧ gx_E (va_A (cw_W c kc st lg ai al R) sz) U)) (va_Qv (fun (_ : Unit) => True) (fun _ t => (0 = 1) ∧ va_P (dC, dI) vwCl (cw_W c kc st lg ai al R) t.heap) (va_A (cw_W c kc st lg ai al R) sz)) (vx_X (fun _ : Unit => True) (fun E _ t => E ∈ (["java/lang/IllegalArgumentException"] : List String) ∧ va_P (dC, dI) vwCl (cw_W c kc st lg ai al R) t.heap) (va_A (cw_W c kc st lg ai al R) sz)) 1 6 (va_A (cw_W c kc st lg ai al R) sz) := by
  refine vx_ofW (cc := cX8_cut) (maxL := 2) (ret := none) (by decide) rfl ?_
  intro p e s m args below meth cM s₁ B hml hno hv
  obtain ⟨rfl, hsz, hP, hK, hD0, hG⟩ := hv
  have hx := B.exec
  have hb := B.bytes
  have hr := B.returns
  have hts := atoms_spec (ws := wsX8_cut) B.pre
  have hown : s.vm.findClass RX8 = some m.cls := findClass_of_methodNamed B.named
  have hGW := hG.1
  have hlocks := B.notSynchronized
  subst hsz
  have hD := hD0.self (sz := s.heap.size)
  generalize hAe : va_A (cw_W c kc st lg ai al R) s.heap.size = A at hD hG ⊢
  have hA : ∀ q : Nat, s.heap.size ≤ q → A q := fun q h => by rw [← hAe]; exact Or.inr h
  have hS : va_S A s.heap s.heap [] := va_S.rf
  clear hAe hD0
  have hl := lv_entry ([.ref (c 100), .int p0]) (n := 2) (Nat.le_of_ble_eq_true rfl)
  rw [lg_entry_eq]
  generalize (lg_sl ([.ref (c 100), .int p0]) ++ List.replicate (2 - (lg_sl ([.ref (c 100), .int p0])).length) Slot.unset).toArray = ls at hl ⊢
  have hl : lv_has ls 2 [(0, .ref (c 100)), (1, .int p0)] := hl
  have z_m1 : (-1 : Int32).toInt = -1 := by decide
  have z_5000 : (5000 : Int32).toInt = 5000 := by decide
  have main : ∀ (H : Heap) (locs : List Loc), va_P (dC, dI) vwCl (cw_W c kc st lg ai al R) H → va_S A s.heap H locs → W p l e (headSpec wsX8_cut ({ frames := 6, cells := 1, slots := 6, locals := 90 })).room s m ([.ref (c 100), .int p0] : List Value).toArray below meth cM H locs 0 0 (vx_MQ below (va_Qv (fun (_ : Unit) => True) (fun _ t => (0 = 1) ∧ va_P (dC, dI) vwCl (cw_W c kc st lg ai al R) t.heap) A) (vx_X (fun _ : Unit => True) (fun E _ t => E ∈ (["java/lang/IllegalArgumentException"] : List String) ∧ va_P (dC, dI) vwCl (cw_W c kc st lg ai al R) t.heap) A) ([.ref (c 100), .int p0] : List Value).toArray s 1 6 A) (F0 m 0 ls []) := by
    intro H locs hP hS
    refine lv_iload_n hx hb dX8_cut_0 rfl (lv_at hl 1 rfl) ?_
    refine lv_iconst (v := (-1)) hx hb dX8_cut_1 (by decide) ?_
    refine lv_icmp_lt (tgt := 12) hx hb dX8_cut_2 (by decide) (fun c_1 => ?_) (fun c_1 => ?_)
    · skip
      have ic_1 := iv_lt c_1
      obtain ⟨sa, hstr⟩ := hGW.2.1 ("BlockLog", 282, "acts is neither NONE nor 0 .. 5000") (by decide +kernel)
      exact vx_throwSW (names := ["java/lang/RuntimeException", "java/lang/Exception"]) hx hb hl0 hown (by decide +kernel) (by decide +kernel) (hts (.classLink RX8 76 "java/lang/IllegalArgumentException") (by decide +kernel)) (hts (.initialized "java/lang/IllegalArgumentException") (by decide +kernel)) hstr (vx_hat (B := gx_bad "java/lang/IllegalArgumentException") (fun w h => hts w (List.mem_cons_of_mem _ (List.mem_append_right _ h))) (by decide +kernel) (hGW.bad (by decide))) (by decide +kernel) hG.2.1 hG.2.2.1 hS (hl.1.trans hml.symm) dX8_cut_12 dX8_cut_15 dX8_cut_16 dX8_cut_19 dX8_cut_22 (fun x h => (hno x h).elim) (Nat.le_of_ble_eq_true rfl) (Nat.le_of_ble_eq_true rfl) (Nat.le_of_ble_eq_true rfl) (Nat.le_of_ble_eq_true rfl) hlocks (fun t _ h1 h2 => ⟨(), trivial, ⟨(by decide +kernel), hP.kept (fun k q hk => h2 _ (hP k q hk).lt)⟩, Nat.le_trans hS.1 h1, fun q hq hn => (h2 q (Nat.lt_of_lt_of_le hq hS.1)).trans (hS.2.1 q hq hn)⟩) hS.2.2 (Nat.le_of_ble_eq_true rfl) (Nat.le_of_ble_eq_true rfl)
    · skip
      have ic_1 := iv_nlt c_1
      refine lv_iload_n hx hb dX8_cut_5 rfl (lv_at hl 1 rfl) ?_
      refine lv_sipush (v := 5000) hx hb dX8_cut_6 (by decide) ?_
      refine lv_icmp_le (tgt := 23) hx hb dX8_cut_9 (by decide) (fun c_2 => ?_) (fun c_2 => ?_)
      · skip
        have ic_2 := iv_le c_2
        exfalso
        omega
      · skip
        have ic_2 := iv_nle c_2
        obtain ⟨sa, hstr⟩ := hGW.2.1 ("BlockLog", 282, "acts is neither NONE nor 0 .. 5000") (by decide +kernel)
        exact vx_throwSW (names := ["java/lang/RuntimeException", "java/lang/Exception"]) hx hb hl0 hown (by decide +kernel) (by decide +kernel) (hts (.classLink RX8 76 "java/lang/IllegalArgumentException") (by decide +kernel)) (hts (.initialized "java/lang/IllegalArgumentException") (by decide +kernel)) hstr (vx_hat (B := gx_bad "java/lang/IllegalArgumentException") (fun w h => hts w (List.mem_cons_of_mem _ (List.mem_append_right _ h))) (by decide +kernel) (hGW.bad (by decide))) (by decide +kernel) hG.2.1 hG.2.2.1 hS (hl.1.trans hml.symm) dX8_cut_12 dX8_cut_15 dX8_cut_16 dX8_cut_19 dX8_cut_22 (fun x h => (hno x h).elim) (Nat.le_of_ble_eq_true rfl) (Nat.le_of_ble_eq_true rfl) (Nat.le_of_ble_eq_true rfl) (Nat.le_of_ble_eq_true rfl) hlocks (fun t _ h1 h2 => ⟨(), trivial, ⟨(by decide +kernel), hP.kept (fun k q hk => h2 _ (hP k q hk).lt)⟩, Nat.le_trans hS.1 h1, fun q hq hn => (h2 q (Nat.lt_of_lt_of_le hq hS.1)).trans (hS.2.1 q hq hn)⟩) hS.2.2 (Nat.le_of_ble_eq_true rfl) (Nat.le_of_ble_eq_true rfl)
  exact main s.heap [] hP hS

set_option maxHeartbeats 4000000 in
set_option maxRecDepth 100000 in
theorem h_L_cutB (l : Launch) (hl0 : l.stackTraces = false) (dC : Nat → ClassId) (dI : Nat → Nat → Nat) (c : Nat → Nat) (kc : Nat → ClassId) (st : Nat → Int32) (lg : Nat → Int64) (ai : Nat → Nat → Int32) (al : Nat → Nat → Int64) (R : va_W) (cap : Nat) (num : Nat → Int32) (oa : Nat) (ko : ClassId) (fo : Nat → Int64) (p1 : Int32) (sz tz : Nat) (hI : cI c kc st ai R cap num) (hq0 : (p1.toInt < -1 ∨ 5000 < p1.toInt)) : Met l yL_cut wsL_cut ({ frames := 7, cells := 1, slots := 6, locals := 111 }) (va_Pc [.ref (c 100), .int p1] (fun U => U.heap.size = sz ∧ tot U.heap = tz ∧ va_P (dC, dI) vwCl (cw_W c kc st lg ai al R ++ [outC oa ko fo]) U.heap ∧ va_K (dC, dI) vwCl (cw_T kc) U ∧ va_K (dC, dI) vwCl [(ko, .long)] U ∧ va_D (fun _ => True) (cw_W c kc st lg ai al R ++ [outC oa ko fo]) ∧ gy_E cap (c 99) (va_A (cw_W c kc st lg ai al R ++ [outC oa ko fo]) sz) U)) (va_Qi (fun r (u : Int32) => r = u) (fun u t => u = (1 : Int32) ∧ hQ (dC, dI) c kc (st 13) cap sz tz oa ko (va_A (cw_W c kc st lg ai al R ++ [outC oa ko fo]) sz) t) (va_A (cw_W c kc st lg ai al R ++ [outC oa ko fo]) sz)) 1 6 (va_A (cw_W c kc st lg ai al R ++ [outC oa ko fo]) sz) := by
  refine va_MetW (cc := cL_cut) (maxL := 3) (ret := (some .int)) (hh := [(0, 5, 8, 13)]) (by decide) rfl ?_
  intro p e s m args below meth cM s₁ B hml hv
  obtain ⟨rfl, hsz, htz, hPZ, hK, hKo, hD0, hY⟩ := hv
  have hx := B.exec
  have hb := B.bytes
  have hr := B.returns
  have hts := atoms_spec (ws := wsL_cut) B.pre
  have hown : s.vm.findClass RL = some m.cls := findClass_of_methodNamed B.named
  have hlocks := B.notSynchronized
  have htab := vx_table (x := yL_cut) B (hts (.codeWith yL_cut cL_cut 3 (some .int) [(0, 5, 8, 13)]) List.mem_cons_self)
  obtain ⟨⟨hf3a, hf3b⟩, ⟨hf5a, hf5b⟩, ⟨hf6a, hf6b⟩, ⟨hf9a, hf9b⟩, ⟨hf13a, hf13b⟩, ⟨hf15a, hf15b⟩, ⟨hf17a, hf17b⟩, ⟨hf25a, hf25b⟩, ⟨hf26a, hf26b⟩, ⟨hf27a, hf27b⟩, ⟨hf28a, hf28b⟩, ⟨hf37a, hf37b⟩, hR4, hR7, hR23, hR32, hR33, hPI, hN⟩ := hI
  subst hsz
  subst htz
  have hDZ := hD0.self (sz := s.heap.size)
  generalize hAe : va_A (cw_W c kc st lg ai al R ++ [outC oa ko fo]) s.heap.size = A at hDZ hY ⊢
  have hA : ∀ q : Nat, s.heap.size ≤ q → A q := fun q h => by rw [← hAe]; exact Or.inr h
  have hS : va_S A s.heap s.heap [] := va_S.rf
  clear hAe hD0
  have hD := vD_l hDZ
  have hDO := vD_r hDZ
  have hdis := vD_dj hDZ
  have hP := vP_l hPZ
  have hO := vP_r hPZ
  clear hDZ hPZ
  have hG := hY.1
  have hGW := hG.1
  have hl := lv_entry ([.ref (c 100), .int p1]) (n := 3) (Nat.le_of_ble_eq_true rfl)
  rw [lg_entry_eq]
  generalize (lg_sl ([.ref (c 100), .int p1]) ++ List.replicate (3 - (lg_sl ([.ref (c 100), .int p1])).length) Slot.unset).toArray = ls at hl ⊢
  have hl : lv_has ls 3 [(0, .ref (c 100)), (1, .int p1)] := hl
  have z_0 : (0 : Int32).toInt = 0 := by decide
  have z_1 : (1 : Int32).toInt = 1 := by decide
  have hP : va_P (dC, dI) vwCl (cw_W (rU c 99 (c 99)) kc st lg ai al R) s.heap := by rw [rU_self]; exact hP
  have hD : va_D A (cw_W (rU c 99 (c 99)) kc st lg ai al R) := by rw [rU_self]; exact hD
  have hdis : dj (cw_W (rU c 99 (c 99)) kc st lg ai al R) [outC oa ko fo] := by rw [rU_self]; exact hdis
  have hc0 : cap = 0 → cap = 0 ∧ c 99 = c 99 := fun h => ⟨h, rfl⟩
  have hcp : cap ≤ cap := Nat.le_refl _
  have hN1 : ((cap : Nat) : Int) ≤ 10 + 2 * (st 13).toInt := hN.1
  have hmono : ∀ y m, pgM (kc 0) R y m → pgM (kc 0) R y m := fun y m h => h
  refine lv_aload_n hx hb dL_cut_0 rfl (lv_at hl 0 rfl) ?_
  refine lv_iload_n hx hb dL_cut_1 rfl (lv_at hl 1 rfl) ?_
  have hFc := vfree ((cw_D hD : va_D A (cw_W (rU c 99 (c 99)) kc st lg ai al R)) : va_D A (cw_W (rU c 99 (c 99)) kc st lg ai al R)) hS hA
  refine vx_callv (vx_runV (As := [.int p1]) (rest := []) ⟨hx, hb, hml, hown, hts⟩ (v_X8_cutB l hl0 dC dI (rU c 99 (c 99)) kc st lg ai al R p1 _ (by omega)) (cwV 1 hts gL_cut_X8_cut rfl rfl rfl (by decide +kernel) ⟨Nat.le_of_ble_eq_true rfl, Nat.le_of_ble_eq_true rfl⟩) ⟨fun a U g mk q => by obtain ⟨q0, q1, qP, qK, qD, qG⟩ := q; exact ⟨q0, q1, qP, va_K.moved (u := U) (U := U.calling g mk a) (Vm.Alike.refl U.vm) qK, qD, qG.same rfl rfl⟩, va_recv hK hP (ci := 10) (q := (RX8, TX8, 10)) rfl (q0 := 0) rfl, fun U hU hW => ⟨rfl, by rw [hU], by rw [hU]; exact hP, va_K.moved hW.alike hK, ((cw_D hD : va_D A (cw_W (rU c 99 (c 99)) kc st lg ai al R))).weaken (fun _ _ _ _ => trivial), hG.go hW hU hS hFc⟩⟩ rfl rfl hl.1 rfl (lv_room (Nat.le_of_ble_eq_true rfl)) dL_cut_2 ⟨by show 0 + 1 ≤ 1; omega, by show 0 + 6 ≤ 6; omega⟩) hS (fun q _ h => hFc q h) hFc (fun q _ h => hFc q h) (fun E9 ce q9 u t H1 locs ht hvm hp hE hz hk hS hcell hv hcl => ?_) (fun ur_1 t H1 locs ht hvm er_1 hB hz1 hk1 hS => ?_)
  · skip
    obtain ⟨hE, hP1⟩ := hE
    rw [ht] at hP1
    have hO1 := dj_keep hO hdis hk
    have hdis1 := hdis
    clear hO hdis
    have hP : va_P (dC, dI) vwCl (cw_W (rU c 99 (c 99)) kc st lg ai al R) H1 := hP1
    have hO := hO1
    have hdis := hdis1
    clear hO1 hdis1
    refine vxW_read (fun hu1 hu2 => ?_)
    simp only [List.mem_cons, List.not_mem_nil, or_false] at hE
    subst hE
    refine vx_catch (name := "java/lang/IllegalArgumentException") hown [] ⟨0, 5, 8, 13⟩ [] htab (fun z h => by cases h) (by decide) (by decide) (va_Nw.use rfl (hG.1.2.2.2.2.2.2 (13, "java/lang/IllegalArgumentException") (by decide +kernel))) (va_Nw.use rfl (hG.1.2.2.1 _ (by decide))) hcell hv hcl ?_
    refine W.eq (g2 := F0 m 8 ls [.ref q9]) rfl ?_
    clear hcell hv hcl
    clear ht hp hz hk hvm
    generalize H1 = H at hP hS hO ⊢
    refine lv_astore_n (lv' := [(2, .ref q9), (0, .ref (c 100)), (1, .int p1)]) hx hb dL_cut_8 rfl hl (by decide) rfl (fun ls hl => ?_)
    refine lv_iconst (v := 1) hx hb dL_cut_9 (by decide) ?_
    refine W_read (fun hu1 hu2 => ?_)
    refine W.widen (k := 1) (n := 6) (by omega) (by omega) ?_
    exact W.iret hx hb hr (fun t ht hW => ⟨⟨_, _, rfl, rfl, rfl, c 99, st, lg, ai, al, R, cap, num, fo, ⟨(show 0 ≤ (st 3).toInt ∧ (st 3).toInt ≤ 8 from ⟨by omega, by omega⟩), (show 0 ≤ (st 5).toInt ∧ (st 5).toInt ≤ 400 from ⟨by omega, by omega⟩), (show 1 ≤ (st 6).toInt ∧ (st 6).toInt ≤ 65536 from ⟨by omega, by omega⟩), (show 0 ≤ (st 9).toInt ∧ (st 9).toInt ≤ 1 from ⟨by omega, by omega⟩), (show 0 ≤ (st 13).toInt ∧ (st 13).toInt ≤ 65536 from ⟨by omega, by omega⟩), (show 0 ≤ (st 15).toInt ∧ (st 15).toInt ≤ 1 from ⟨by omega, by omega⟩), (show 0 ≤ (st 17).toInt ∧ (st 17).toInt ≤ 128 from ⟨by omega, by omega⟩), (show 0 ≤ (st 25).toInt ∧ (st 25).toInt ≤ 128 from ⟨by omega, by omega⟩), (show 0 ≤ (st 26).toInt ∧ (st 26).toInt ≤ 128 from ⟨by omega, by omega⟩), (show -1 ≤ (st 27).toInt ∧ (st 27).toInt ≤ 127 from ⟨by omega, by omega⟩), (show 0 ≤ (st 28).toInt ∧ (st 28).toInt ≤ 1 from ⟨by omega, by omega⟩), (show 0 ≤ (st 37).toInt ∧ (st 37).toInt ≤ 255 from ⟨by omega, by omega⟩), (show aR (ai 4) 400 (-128) 127 from hR4), (show aR (ai 7) 8224 (-128) 127 from hR7), (show aR (ai 23) 128 (0) 127 from hR23), (show aR (ai 32) 16 (0) 400 from hR32), (show aR (ai 33) 16 (0) 255 from hR33), hPI, hN⟩, hc0, hcp, (show (st 13).toInt ≤ (st 13).toInt by omega), (show (st 13).toInt ≤ (st 13).toInt + 16 by omega), (show ((t.heap.size : Nat) : Int) ≤ ((s.heap.size : Nat) : Int) + 3 + 3 * ((st 13).toInt - (st 13).toInt) by rw [ht]; omega), (show ((tot t.heap : Nat) : Int) ≤ ((tot s.heap : Nat) : Int) + 18 + 29 * ((st 13).toInt - (st 13).toInt) + 4 * (((cap : Nat) : Int) - ((cap : Nat) : Int)) by rw [ht]; omega), by rw [ht]; exact hP.app hO, va_D.app (cw_D hD) hDO (cw_dj hdis)⟩, hS.F ht⟩) hS.2.2 dL_cut_10
  · skip
    obtain ⟨k_2, hP1⟩ := hB
    rw [ht] at hP1
    have hO1 := dj_keep hO hdis hk1
    have hdis1 := hdis
    clear hO hdis
    clear hFc hz1 hk1 hvm hP
    subst ht
    have hP := hP1
    clear hP1
    generalize t.heap = H at hP hS hO1 ⊢
    have hP : va_P (dC, dI) vwCl (cw_W (rU c 99 (c 99)) kc st lg ai al R) H := hP
    have hO := hO1
    have hdis := hdis1
    clear hO1 hdis1
    refine lv_goto (tgt := 11) hx hb dL_cut_5 (by decide) ?_
    refine lv_iconst (v := 0) hx hb dL_cut_11 (by decide) ?_
    exfalso
    omega
