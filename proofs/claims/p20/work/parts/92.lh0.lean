set_option maxHeartbeats 4000000 in
set_option maxRecDepth 100000 in
theorem h_L_feed (l : Launch) (hl0 : l.stackTraces = false) (dC : Nat → ClassId) (dI : Nat → Nat → Nat) (c : Nat → Nat) (kc : Nat → ClassId) (st : Nat → Int32) (lg : Nat → Int64) (ai : Nat → Nat → Int32) (al : Nat → Nat → Int64) (R : va_W) (cap : Nat) (num : Nat → Int32) (oa : Nat) (ko : ClassId) (fo : Nat → Int64) (p1 : Int64) (p2 : Int32) (sz tz : Nat) (hI : cI c kc st ai R cap num)  : Met l yL_feed wsL_feed ({ frames := 7, cells := 1, slots := 6, locals := 114 }) (va_Pc [.ref (c 100), .long p1, .int p2, .ref oa] (fun U => U.heap.size = sz ∧ tot U.heap = tz ∧ va_P (dC, dI) vwCl (cw_W c kc st lg ai al R ++ [outC oa ko fo]) U.heap ∧ va_K (dC, dI) vwCl (cw_T kc) U ∧ va_K (dC, dI) vwCl [(ko, .long)] U ∧ va_D (fun _ => True) (cw_W c kc st lg ai al R ++ [outC oa ko fo]) ∧ gy_E cap (c 99) (va_A (cw_W c kc st lg ai al R ++ [outC oa ko fo]) sz) U)) (va_Qi (fun r (u : Int32) => r = u) (fun u t => hQ (dC, dI) c kc (st 13) cap sz tz oa ko (va_A (cw_W c kc st lg ai al R ++ [outC oa ko fo]) sz) t) (va_A (cw_W c kc st lg ai al R ++ [outC oa ko fo]) sz)) 1 6 (va_A (cw_W c kc st lg ai al R ++ [outC oa ko fo]) sz) := by
  refine va_MetW (cc := cL_feed) (maxL := 6) (ret := (some .int)) (hh := [(0, 11, 14, 13)]) (by decide) rfl ?_
  intro p e s m args below meth cM s₁ B hml hv
  obtain ⟨rfl, hsz, htz, hPZ, hK, hKo, hD0, hY⟩ := hv
  have hx := B.exec
  have hb := B.bytes
  have hr := B.returns
  have hts := atoms_spec (ws := wsL_feed) B.pre
  have hown : s.vm.findClass RL = some m.cls := findClass_of_methodNamed B.named
  have hlocks := B.notSynchronized
  have htab := vx_table (x := yL_feed) B (hts (.codeWith yL_feed cL_feed 6 (some .int) [(0, 11, 14, 13)]) List.mem_cons_self)
  obtain ⟨⟨hf3a, hf3b⟩, ⟨hf5a, hf5b⟩, ⟨hf6a, hf6b⟩, ⟨hf9a, hf9b⟩, ⟨hf13a, hf13b⟩, ⟨hf15a, hf15b⟩, ⟨hf17a, hf17b⟩, ⟨hf25a, hf25b⟩, ⟨hf26a, hf26b⟩, ⟨hf27a, hf27b⟩, ⟨hf28a, hf28b⟩, ⟨hf37a, hf37b⟩, hR4, hR7, hR23, hR32, hR33, hPI, hN⟩ := hI
  subst hsz
  subst htz
  have hDZ := hD0.self (sz := s.heap.size)
  generalize hAe : va_A (cw_W c kc st lg ai al R ++ [outC oa ko fo]) s.heap.size = A at hDZ hY ⊢
  have hA : ∀ q : Nat, s.heap.size ≤ q → A q := fun q h => by rw [← hAe]; exact Or.inr h
  have hS : va_S A s.heap s.heap [] := va_S.rf
  clear hAe hD0
  have hD := vD_l hDZ
  have hDO := vD_r hDZ
  have hdis := vD_dj hDZ
  have hP := vP_l hPZ
  have hO := vP_r hPZ
  clear hDZ hPZ
  have hG := hY.1
  have hGW := hG.1
  have hl := lv_entry ([.ref (c 100), .long p1, .int p2, .ref oa]) (n := 6) (Nat.le_of_ble_eq_true rfl)
  rw [lg_entry_eq]
  generalize (lg_sl ([.ref (c 100), .long p1, .int p2, .ref oa]) ++ List.replicate (6 - (lg_sl ([.ref (c 100), .long p1, .int p2, .ref oa])).length) Slot.unset).toArray = ls at hl ⊢
  have hl : lv_has ls 6 [(0, .ref (c 100)), (1, .long p1), (3, .int p2), (4, .ref oa)] := hl
  have z_0 : (0 : Int32).toInt = 0 := by decide
  have z_1 : (1 : Int32).toInt = 1 := by decide
  have hP : va_P (dC, dI) vwCl (cw_W (rU c 99 (c 99)) kc st lg ai al R) s.heap := by rw [rU_self]; exact hP
  have hD : va_D A (cw_W (rU c 99 (c 99)) kc st lg ai al R) := by rw [rU_self]; exact hD
  have hdis : dj (cw_W (rU c 99 (c 99)) kc st lg ai al R) [outC oa ko fo] := by rw [rU_self]; exact hdis
  have hc0 : cap = 0 → cap = 0 ∧ c 99 = c 99 := fun h => ⟨h, rfl⟩
  have hcp : cap ≤ cap := Nat.le_refl _
  have hN1 : ((cap : Nat) : Int) ≤ 10 + 2 * (st 13).toInt := hN.1
  have hmono : ∀ y m, pgM (kc 0) R y m → pgM (kc 0) R y m := fun y m h => h
  refine lv_aload hx hb dL_feed_0 (lv_at hl 3 rfl) ?_
  refine lv_iconst (v := 0) hx hb dL_feed_2 (by decide) ?_
  refine lv_aload_n hx hb dL_feed_3 rfl (lv_at hl 0 rfl) ?_
  refine lv_lload_n hx hb dL_feed_4 rfl (lv_at hl 1 rfl) ?_
  refine lv_iload_n hx hb dL_feed_5 rfl (lv_at hl 2 rfl) ?_
  have hFc := vfree ((cw_D hD : va_D A (cw_W (rU c 99 (c 99)) kc st lg ai al R)) : va_D A (cw_W (rU c 99 (c 99)) kc st lg ai al R)) hS hA
  refine vx_calli (vx_runV (As := [.long p1, .int p2]) (rest := [.int (0 : Int32), .ref oa]) ⟨hx, hb, hml, hown, hts⟩ (v_X8_feed l hl0 dC dI (rU c 99 (c 99)) kc st lg ai al R p1 p2 _ (show 0 ≤ (st 5).toInt by omega) (show (st 5).toInt ≤ 400 by omega) (show aR (ai 4) 400 (-128) 127 from hR4)) (cwV 2 hts gL_feed_X8_feed rfl rfl rfl (by decide +kernel) ⟨Nat.le_of_ble_eq_true rfl, Nat.le_of_ble_eq_true rfl⟩) ⟨fun a U g mk q => by obtain ⟨q0, q1, qP, qK, qD, qG⟩ := q; exact ⟨q0, q1, qP, va_K.moved (u := U) (U := U.calling g mk a) (Vm.Alike.refl U.vm) qK, qD, qG.same rfl rfl⟩, va_recv hK hP (ci := 10) (q := (RX8, TX8, 10)) rfl (q0 := 0) rfl, fun U hU hW => ⟨rfl, by rw [hU], by rw [hU]; exact hP, va_K.moved hW.alike hK, ((cw_D hD : va_D A (cw_W (rU c 99 (c 99)) kc st lg ai al R))).weaken (fun _ _ _ _ => trivial), hG.go hW hU hS hFc⟩⟩ rfl rfl hl.1 rfl (lv_room (Nat.le_of_ble_eq_true rfl)) dL_feed_6 ⟨by show 0 + 1 ≤ 1; omega, by show 0 + 6 ≤ 6; omega⟩) hS (fun q _ h => hFc q h) hFc (fun q _ h => hFc q h) (fun E9 ce q9 u t H1 locs ht hvm hp hE hz hk hS hcell hv hcl => ?_) (fun r_1 ur_1 t H1 locs ht hvm er_1 hB hz1 hk1 hS => ?_)
  · skip
    obtain ⟨hE, x5_1, f4_1, k_2, k_3, hR4, hP1⟩ := hE
    rw [ht] at hP1
    have hO1 := dj_keep hO hdis hk
    have hdis1 := hdis
    clear hO hdis
    have hP : va_P (dC, dI) vwCl (cw_W (rU c 99 (c 99)) kc (rU st 5 x5_1) lg (rU ai 4 f4_1) al R) H1 := hP1
    have hR4 : aR f4_1 400 (-128) 127 := hR4
    have hO := hO1
    have hdis := hdis1
    clear hO1 hdis1
    refine vxW_read (fun hu1 hu2 => ?_)
    simp only [List.mem_cons, List.not_mem_nil, or_false] at hE
    subst hE
    refine vx_catch (name := "java/lang/IllegalArgumentException") hown [] ⟨0, 11, 14, 13⟩ [] htab (fun z h => by cases h) (by decide) (by decide) (va_Nw.use rfl (hG.1.2.2.2.2.2.2 (13, "java/lang/IllegalArgumentException") (by decide +kernel))) (va_Nw.use rfl (hG.1.2.2.1 _ (by decide))) hcell hv hcl ?_
    refine W.eq (g2 := F0 m 14 ls [.ref q9]) rfl ?_
    clear hcell hv hcl
    clear ht hp hz hk hvm
    generalize H1 = H at hP hS hO ⊢
    refine lv_astore (lv' := [(5, .ref q9), (0, .ref (c 100)), (1, .long p1), (3, .int p2), (4, .ref oa)]) hx hb dL_feed_14 hl (by decide) rfl (fun ls hl => ?_)
    refine lv_iconst (v := 1) hx hb dL_feed_16 (by decide) ?_
    refine W_read (fun hu1 hu2 => ?_)
    refine W.widen (k := 1) (n := 6) (by omega) (by omega) ?_
    exact W.iret hx hb hr (fun t ht hW => ⟨⟨_, _, rfl, rfl, c 99, (rU st 5 x5_1), lg, (rU ai 4 f4_1), al, R, cap, num, fo, ⟨(show 0 ≤ (st 3).toInt ∧ (st 3).toInt ≤ 8 from ⟨by omega, by omega⟩), (show 0 ≤ x5_1.toInt ∧ x5_1.toInt ≤ 400 from ⟨by omega, by omega⟩), (show 1 ≤ (st 6).toInt ∧ (st 6).toInt ≤ 65536 from ⟨by omega, by omega⟩), (show 0 ≤ (st 9).toInt ∧ (st 9).toInt ≤ 1 from ⟨by omega, by omega⟩), (show 0 ≤ (st 13).toInt ∧ (st 13).toInt ≤ 65536 from ⟨by omega, by omega⟩), (show 0 ≤ (st 15).toInt ∧ (st 15).toInt ≤ 1 from ⟨by omega, by omega⟩), (show 0 ≤ (st 17).toInt ∧ (st 17).toInt ≤ 128 from ⟨by omega, by omega⟩), (show 0 ≤ (st 25).toInt ∧ (st 25).toInt ≤ 128 from ⟨by omega, by omega⟩), (show 0 ≤ (st 26).toInt ∧ (st 26).toInt ≤ 128 from ⟨by omega, by omega⟩), (show -1 ≤ (st 27).toInt ∧ (st 27).toInt ≤ 127 from ⟨by omega, by omega⟩), (show 0 ≤ (st 28).toInt ∧ (st 28).toInt ≤ 1 from ⟨by omega, by omega⟩), (show 0 ≤ (st 37).toInt ∧ (st 37).toInt ≤ 255 from ⟨by omega, by omega⟩), (show aR f4_1 400 (-128) 127 from hR4), (show aR (ai 7) 8224 (-128) 127 from hR7), (show aR (ai 23) 128 (0) 127 from hR23), (show aR (ai 32) 16 (0) 400 from hR32), (show aR (ai 33) 16 (0) 255 from hR33), hPI, hN⟩, hc0, hcp, (show (st 13).toInt ≤ (st 13).toInt by omega), (show (st 13).toInt ≤ (st 13).toInt + 16 by omega), (show ((t.heap.size : Nat) : Int) ≤ ((s.heap.size : Nat) : Int) + 3 + 3 * ((st 13).toInt - (st 13).toInt) by rw [ht]; omega), (show ((tot t.heap : Nat) : Int) ≤ ((tot s.heap : Nat) : Int) + 18 + 29 * ((st 13).toInt - (st 13).toInt) + 4 * (((cap : Nat) : Int) - ((cap : Nat) : Int)) by rw [ht]; omega), by rw [ht]; exact hP.app hO, va_D.app (cw_D hD) hDO (cw_dj hdis)⟩, hS.F ht⟩) hS.2.2 dL_feed_17
  · skip
    subst er_1
    obtain ⟨x5_1, f4_1, k_4, k_5, hR4, hP1⟩ := hB
    rw [ht] at hP1
    have hO1 := dj_keep hO hdis hk1
    have hdis1 := hdis
    clear hO hdis
    clear hFc hz1 hk1 hvm hP
    subst ht
    have hP := hP1
    clear hP1
    generalize t.heap = H at hP hS hO1 ⊢
    have hP : va_P (dC, dI) vwCl (cw_W (rU c 99 (c 99)) kc (rU st 5 x5_1) lg (rU ai 4 f4_1) al R) H := hP
    have hO := hO1
    have hdis := hdis1
    clear hO1 hdis1
    have k_4 : 0 ≤ x5_1.toInt := k_4
    have k_5 : x5_1.toInt ≤ 400 := k_5
    have hR4 : aR f4_1 400 (-128) 127 := hR4
    refine lv_i2l hx hb dL_feed_9 rfl ?_
    refine lv_topl (fun w_6 ew_6 => ?_)
    clear ew_6
    refine lw_last (v := w_6) hx hb hKo hP hO (cw_D hD) hDO (cw_dj hdis) hS dL_feed_10 (fun H locs fo hP hO hS => ?_)
    have hDO : va_D A [outC oa ko fo] := out_D hDO
    have hdis : dj (cw_W (rU c 99 (c 99)) kc (rU st 5 x5_1) lg (rU ai 4 f4_1) al R) [outC oa ko fo] := out_dj (cw_dj hdis)
    refine lv_goto (tgt := 18) hx hb dL_feed_11 (by decide) ?_
    refine lv_iconst (v := 0) hx hb dL_feed_18 (by decide) ?_
    refine W_read (fun hu1 hu2 => ?_)
    refine W.widen (k := 1) (n := 6) (by omega) (by omega) ?_
    exact W.iret hx hb hr (fun t ht hW => ⟨⟨_, _, rfl, rfl, c 99, (rU st 5 x5_1), lg, (rU ai 4 f4_1), al, R, cap, num, fo, ⟨(show 0 ≤ (st 3).toInt ∧ (st 3).toInt ≤ 8 from ⟨by omega, by omega⟩), (show 0 ≤ x5_1.toInt ∧ x5_1.toInt ≤ 400 from ⟨by omega, by omega⟩), (show 1 ≤ (st 6).toInt ∧ (st 6).toInt ≤ 65536 from ⟨by omega, by omega⟩), (show 0 ≤ (st 9).toInt ∧ (st 9).toInt ≤ 1 from ⟨by omega, by omega⟩), (show 0 ≤ (st 13).toInt ∧ (st 13).toInt ≤ 65536 from ⟨by omega, by omega⟩), (show 0 ≤ (st 15).toInt ∧ (st 15).toInt ≤ 1 from ⟨by omega, by omega⟩), (show 0 ≤ (st 17).toInt ∧ (st 17).toInt ≤ 128 from ⟨by omega, by omega⟩), (show 0 ≤ (st 25).toInt ∧ (st 25).toInt ≤ 128 from ⟨by omega, by omega⟩), (show 0 ≤ (st 26).toInt ∧ (st 26).toInt ≤ 128 from ⟨by omega, by omega⟩), (show -1 ≤ (st 27).toInt ∧ (st 27).toInt ≤ 127 from ⟨by omega, by omega⟩), (show 0 ≤ (st 28).toInt ∧ (st 28).toInt ≤ 1 from ⟨by omega, by omega⟩), (show 0 ≤ (st 37).toInt ∧ (st 37).toInt ≤ 255 from ⟨by omega, by omega⟩), (show aR f4_1 400 (-128) 127 from hR4), (show aR (ai 7) 8224 (-128) 127 from hR7), (show aR (ai 23) 128 (0) 127 from hR23), (show aR (ai 32) 16 (0) 400 from hR32), (show aR (ai 33) 16 (0) 255 from hR33), hPI, hN⟩, hc0, hcp, (show (st 13).toInt ≤ (st 13).toInt by omega), (show (st 13).toInt ≤ (st 13).toInt + 16 by omega), (show ((t.heap.size : Nat) : Int) ≤ ((s.heap.size : Nat) : Int) + 3 + 3 * ((st 13).toInt - (st 13).toInt) by rw [ht]; omega), (show ((tot t.heap : Nat) : Int) ≤ ((tot s.heap : Nat) : Int) + 18 + 29 * ((st 13).toInt - (st 13).toInt) + 4 * (((cap : Nat) : Int) - ((cap : Nat) : Int)) by rw [ht]; omega), by rw [ht]; exact hP.app hO, va_D.app (cw_D hD) hDO (cw_dj hdis)⟩, hS.F ht⟩) hS.2.2 dL_feed_19

set_option maxHeartbeats 4000000 in
set_option maxRecDepth 100000 in
theorem h_L_at (l : Launch) (hl0 : l.stackTraces = false) (dC : Nat → ClassId) (dI : Nat → Nat → Nat) (c : Nat → Nat) (kc : Nat → ClassId) (st : Nat → Int32) (lg : Nat → Int64) (ai : Nat → Nat → Int32) (al : Nat → Nat → Int64) (R : va_W) (cap : Nat) (num : Nat → Int32) (oa : Nat) (ko : ClassId) (fo : Nat → Int64) (p1 : Int32) (sz tz : Nat) (hI : cI c kc st ai R cap num)  : Met l yL_at wsL_at ({ frames := 7, cells := 1, slots := 6, locals := 111 }) (va_Pc [.ref (c 100), .int p1, .ref oa] (fun U => U.heap.size = sz ∧ tot U.heap = tz ∧ va_P (dC, dI) vwCl (cw_W c kc st lg ai al R ++ [outC oa ko fo]) U.heap ∧ va_K (dC, dI) vwCl (cw_T kc) U ∧ va_K (dC, dI) vwCl [(ko, .long)] U ∧ va_D (fun _ => True) (cw_W c kc st lg ai al R ++ [outC oa ko fo]) ∧ gy_E cap (c 99) (va_A (cw_W c kc st lg ai al R ++ [outC oa ko fo]) sz) U)) (va_Qi (fun r (u : Int32) => r = u) (fun u t => hQ (dC, dI) c kc (st 13) cap sz tz oa ko (va_A (cw_W c kc st lg ai al R ++ [outC oa ko fo]) sz) t) (va_A (cw_W c kc st lg ai al R ++ [outC oa ko fo]) sz)) 1 6 (va_A (cw_W c kc st lg ai al R ++ [outC oa ko fo]) sz) := by
  refine va_MetW (cc := cL_at) (maxL := 4) (ret := (some .int)) (hh := [(0, 9, 12, 19)]) (by decide) rfl ?_
  intro p e s m args below meth cM s₁ B hml hv
  obtain ⟨rfl, hsz, htz, hPZ, hK, hKo, hD0, hY⟩ := hv
  have hx := B.exec
  have hb := B.bytes
  have hr := B.returns
  have hts := atoms_spec (ws := wsL_at) B.pre
  have hown : s.vm.findClass RL = some m.cls := findClass_of_methodNamed B.named
  have hlocks := B.notSynchronized
  have htab := vx_table (x := yL_at) B (hts (.codeWith yL_at cL_at 4 (some .int) [(0, 9, 12, 19)]) List.mem_cons_self)
  obtain ⟨⟨hf3a, hf3b⟩, ⟨hf5a, hf5b⟩, ⟨hf6a, hf6b⟩, ⟨hf9a, hf9b⟩, ⟨hf13a, hf13b⟩, ⟨hf15a, hf15b⟩, ⟨hf17a, hf17b⟩, ⟨hf25a, hf25b⟩, ⟨hf26a, hf26b⟩, ⟨hf27a, hf27b⟩, ⟨hf28a, hf28b⟩, ⟨hf37a, hf37b⟩, hR4, hR7, hR23, hR32, hR33, hPI, hN⟩ := hI
  subst hsz
  subst htz
  have hDZ := hD0.self (sz := s.heap.size)
  generalize hAe : va_A (cw_W c kc st lg ai al R ++ [outC oa ko fo]) s.heap.size = A at hDZ hY ⊢
  have hA : ∀ q : Nat, s.heap.size ≤ q → A q := fun q h => by rw [← hAe]; exact Or.inr h
  have hS : va_S A s.heap s.heap [] := va_S.rf
  clear hAe hD0
  have hD := vD_l hDZ
  have hDO := vD_r hDZ
  have hdis := vD_dj hDZ
  have hP := vP_l hPZ
  have hO := vP_r hPZ
  clear hDZ hPZ
  have hG := hY.1
  have hGW := hG.1
  have hl := lv_entry ([.ref (c 100), .int p1, .ref oa]) (n := 4) (Nat.le_of_ble_eq_true rfl)
  rw [lg_entry_eq]
  generalize (lg_sl ([.ref (c 100), .int p1, .ref oa]) ++ List.replicate (4 - (lg_sl ([.ref (c 100), .int p1, .ref oa])).length) Slot.unset).toArray = ls at hl ⊢
  have hl : lv_has ls 4 [(0, .ref (c 100)), (1, .int p1), (2, .ref oa)] := hl
  have z_0 : (0 : Int32).toInt = 0 := by decide
  have z_1 : (1 : Int32).toInt = 1 := by decide
  have hP : va_P (dC, dI) vwCl (cw_W (rU c 99 (c 99)) kc st lg ai al R) s.heap := by rw [rU_self]; exact hP
  have hD : va_D A (cw_W (rU c 99 (c 99)) kc st lg ai al R) := by rw [rU_self]; exact hD
  have hdis : dj (cw_W (rU c 99 (c 99)) kc st lg ai al R) [outC oa ko fo] := by rw [rU_self]; exact hdis
  have hc0 : cap = 0 → cap = 0 ∧ c 99 = c 99 := fun h => ⟨h, rfl⟩
  have hcp : cap ≤ cap := Nat.le_refl _
  have hN1 : ((cap : Nat) : Int) ≤ 10 + 2 * (st 13).toInt := hN.1
  have hmono : ∀ y m, pgM (kc 0) R y m → pgM (kc 0) R y m := fun y m h => h
  refine lv_aload_n hx hb dL_at_0 rfl (lv_at hl 2 rfl) ?_
  refine lv_iconst (v := 0) hx hb dL_at_1 (by decide) ?_
  refine lv_aload_n hx hb dL_at_2 rfl (lv_at hl 0 rfl) ?_
  refine lv_iload_n hx hb dL_at_3 rfl (lv_at hl 1 rfl) ?_
  have hFc := vfree ((cw_D hD : va_D A (cw_W (rU c 99 (c 99)) kc st lg ai al R)) : va_D A (cw_W (rU c 99 (c 99)) kc st lg ai al R)) hS hA
  refine vx_calli (vx_runV (As := [.int p1]) (rest := [.int (0 : Int32), .ref oa]) ⟨hx, hb, hml, hown, hts⟩ (v_X8_at l hl0 dC dI (rU c 99 (c 99)) kc st lg ai al R p1 _ (show 0 ≤ (st 5).toInt by omega) (show (st 5).toInt ≤ 400 by omega) (show aR (ai 4) 400 (-128) 127 from hR4)) (cwV 1 hts gL_at_X8_at rfl rfl rfl (by decide +kernel) ⟨Nat.le_of_ble_eq_true rfl, Nat.le_of_ble_eq_true rfl⟩) ⟨fun a U g mk q => by obtain ⟨q0, q1, qP, qK, qD, qG⟩ := q; exact ⟨q0, q1, qP, va_K.moved (u := U) (U := U.calling g mk a) (Vm.Alike.refl U.vm) qK, qD, qG.same rfl rfl⟩, va_recv hK hP (ci := 10) (q := (RX8, TX8, 10)) rfl (q0 := 0) rfl, fun U hU hW => ⟨rfl, by rw [hU], by rw [hU]; exact hP, va_K.moved hW.alike hK, ((cw_D hD : va_D A (cw_W (rU c 99 (c 99)) kc st lg ai al R))).weaken (fun _ _ _ _ => trivial), hG.go hW hU hS hFc⟩⟩ rfl rfl hl.1 rfl (lv_room (Nat.le_of_ble_eq_true rfl)) dL_at_4 ⟨by show 0 + 1 ≤ 1; omega, by show 0 + 6 ≤ 6; omega⟩) hS (fun q _ h => hFc q h) hFc (fun q _ h => hFc q h) (fun E9 ce q9 u t H1 locs ht hvm hp hE hz hk hS hcell hv hcl => ?_) (fun r_1 ur_1 t H1 locs ht hvm er_1 hB hz1 hk1 hS => ?_)
  · skip
    obtain ⟨hE, hP1⟩ := hE
    rw [ht] at hP1
    have hO1 := dj_keep hO hdis hk
    have hdis1 := hdis
    clear hO hdis
    have hP : va_P (dC, dI) vwCl (cw_W (rU c 99 (c 99)) kc st lg ai al R) H1 := hP1
    have hO := hO1
    have hdis := hdis1
    clear hO1 hdis1
    refine vxW_read (fun hu1 hu2 => ?_)
    simp only [List.mem_cons, List.not_mem_nil, or_false] at hE
    subst hE
    refine vx_catch (name := "java/lang/IndexOutOfBoundsException") hown [] ⟨0, 9, 12, 19⟩ [] htab (fun z h => by cases h) (by decide) (by decide) (va_Nw.use rfl (hG.1.2.2.2.2.2.2 (19, "java/lang/IndexOutOfBoundsException") (by decide +kernel))) (va_Nw.use rfl (hG.1.2.2.1 _ (by decide))) hcell hv hcl ?_
    refine W.eq (g2 := F0 m 12 ls [.ref q9]) rfl ?_
    clear hcell hv hcl
    clear ht hp hz hk hvm
    generalize H1 = H at hP hS hO ⊢
    refine lv_astore_n (lv' := [(3, .ref q9), (0, .ref (c 100)), (1, .int p1), (2, .ref oa)]) hx hb dL_at_12 rfl hl (by decide) rfl (fun ls hl => ?_)
    refine lv_iconst (v := 1) hx hb dL_at_13 (by decide) ?_
    refine W_read (fun hu1 hu2 => ?_)
    refine W.widen (k := 1) (n := 6) (by omega) (by omega) ?_
    exact W.iret hx hb hr (fun t ht hW => ⟨⟨_, _, rfl, rfl, c 99, st, lg, ai, al, R, cap, num, fo, ⟨(show 0 ≤ (st 3).toInt ∧ (st 3).toInt ≤ 8 from ⟨by omega, by omega⟩), (show 0 ≤ (st 5).toInt ∧ (st 5).toInt ≤ 400 from ⟨by omega, by omega⟩), (show 1 ≤ (st 6).toInt ∧ (st 6).toInt ≤ 65536 from ⟨by omega, by omega⟩), (show 0 ≤ (st 9).toInt ∧ (st 9).toInt ≤ 1 from ⟨by omega, by omega⟩), (show 0 ≤ (st 13).toInt ∧ (st 13).toInt ≤ 65536 from ⟨by omega, by omega⟩), (show 0 ≤ (st 15).toInt ∧ (st 15).toInt ≤ 1 from ⟨by omega, by omega⟩), (show 0 ≤ (st 17).toInt ∧ (st 17).toInt ≤ 128 from ⟨by omega, by omega⟩), (show 0 ≤ (st 25).toInt ∧ (st 25).toInt ≤ 128 from ⟨by omega, by omega⟩), (show 0 ≤ (st 26).toInt ∧ (st 26).toInt ≤ 128 from ⟨by omega, by omega⟩), (show -1 ≤ (st 27).toInt ∧ (st 27).toInt ≤ 127 from ⟨by omega, by omega⟩), (show 0 ≤ (st 28).toInt ∧ (st 28).toInt ≤ 1 from ⟨by omega, by omega⟩), (show 0 ≤ (st 37).toInt ∧ (st 37).toInt ≤ 255 from ⟨by omega, by omega⟩), (show aR (ai 4) 400 (-128) 127 from hR4), (show aR (ai 7) 8224 (-128) 127 from hR7), (show aR (ai 23) 128 (0) 127 from hR23), (show aR (ai 32) 16 (0) 400 from hR32), (show aR (ai 33) 16 (0) 255 from hR33), hPI, hN⟩, hc0, hcp, (show (st 13).toInt ≤ (st 13).toInt by omega), (show (st 13).toInt ≤ (st 13).toInt + 16 by omega), (show ((t.heap.size : Nat) : Int) ≤ ((s.heap.size : Nat) : Int) + 3 + 3 * ((st 13).toInt - (st 13).toInt) by rw [ht]; omega), (show ((tot t.heap : Nat) : Int) ≤ ((tot s.heap : Nat) : Int) + 18 + 29 * ((st 13).toInt - (st 13).toInt) + 4 * (((cap : Nat) : Int) - ((cap : Nat) : Int)) by rw [ht]; omega), by rw [ht]; exact hP.app hO, va_D.app (cw_D hD) hDO (cw_dj hdis)⟩, hS.F ht⟩) hS.2.2 dL_at_14
  · skip
    subst er_1
    have hP1 : va_P (dC, dI) vwCl (cw_W (rU c 99 (c 99)) kc st lg ai al R) t.heap := hB
    rw [ht] at hP1
    have hO1 := dj_keep hO hdis hk1
    have hdis1 := hdis
    clear hO hdis
    clear hFc hz1 hk1 hvm hP
    subst ht
    have hP := hP1
    clear hP1
    generalize t.heap = H at hP hS hO1 ⊢
    have hP : va_P (dC, dI) vwCl (cw_W (rU c 99 (c 99)) kc st lg ai al R) H := hP
    have hO := hO1
    have hdis := hdis1
    clear hO1 hdis1
    refine lv_i2l hx hb dL_at_7 rfl ?_
    refine lv_topl (fun w_2 ew_2 => ?_)
    clear ew_2
    refine lw_last (v := w_2) hx hb hKo hP hO (cw_D hD) hDO (cw_dj hdis) hS dL_at_8 (fun H locs fo hP hO hS => ?_)
    have hDO : va_D A [outC oa ko fo] := out_D hDO
    have hdis : dj (cw_W (rU c 99 (c 99)) kc st lg ai al R) [outC oa ko fo] := out_dj (cw_dj hdis)
    refine lv_goto (tgt := 15) hx hb dL_at_9 (by decide) ?_
    refine lv_iconst (v := 0) hx hb dL_at_15 (by decide) ?_
    refine W_read (fun hu1 hu2 => ?_)
    refine W.widen (k := 1) (n := 6) (by omega) (by omega) ?_
    exact W.iret hx hb hr (fun t ht hW => ⟨⟨_, _, rfl, rfl, c 99, st, lg, ai, al, R, cap, num, fo, ⟨(show 0 ≤ (st 3).toInt ∧ (st 3).toInt ≤ 8 from ⟨by omega, by omega⟩), (show 0 ≤ (st 5).toInt ∧ (st 5).toInt ≤ 400 from ⟨by omega, by omega⟩), (show 1 ≤ (st 6).toInt ∧ (st 6).toInt ≤ 65536 from ⟨by omega, by omega⟩), (show 0 ≤ (st 9).toInt ∧ (st 9).toInt ≤ 1 from ⟨by omega, by omega⟩), (show 0 ≤ (st 13).toInt ∧ (st 13).toInt ≤ 65536 from ⟨by omega, by omega⟩), (show 0 ≤ (st 15).toInt ∧ (st 15).toInt ≤ 1 from ⟨by omega, by omega⟩), (show 0 ≤ (st 17).toInt ∧ (st 17).toInt ≤ 128 from ⟨by omega, by omega⟩), (show 0 ≤ (st 25).toInt ∧ (st 25).toInt ≤ 128 from ⟨by omega, by omega⟩), (show 0 ≤ (st 26).toInt ∧ (st 26).toInt ≤ 128 from ⟨by omega, by omega⟩), (show -1 ≤ (st 27).toInt ∧ (st 27).toInt ≤ 127 from ⟨by omega, by omega⟩), (show 0 ≤ (st 28).toInt ∧ (st 28).toInt ≤ 1 from ⟨by omega, by omega⟩), (show 0 ≤ (st 37).toInt ∧ (st 37).toInt ≤ 255 from ⟨by omega, by omega⟩), (show aR (ai 4) 400 (-128) 127 from hR4), (show aR (ai 7) 8224 (-128) 127 from hR7), (show aR (ai 23) 128 (0) 127 from hR23), (show aR (ai 32) 16 (0) 400 from hR32), (show aR (ai 33) 16 (0) 255 from hR33), hPI, hN⟩, hc0, hcp, (show (st 13).toInt ≤ (st 13).toInt by omega), (show (st 13).toInt ≤ (st 13).toInt + 16 by omega), (show ((t.heap.size : Nat) : Int) ≤ ((s.heap.size : Nat) : Int) + 3 + 3 * ((st 13).toInt - (st 13).toInt) by rw [ht]; omega), (show ((tot t.heap : Nat) : Int) ≤ ((tot s.heap : Nat) : Int) + 18 + 29 * ((st 13).toInt - (st 13).toInt) + 4 * (((cap : Nat) : Int) - ((cap : Nat) : Int)) by rw [ht]; omega), by rw [ht]; exact hP.app hO, va_D.app (cw_D hD) hDO (cw_dj hdis)⟩, hS.F ht⟩) hS.2.2 dL_at_16

set_option maxHeartbeats 4000000 in
set_option maxRecDepth 100000 in
theorem h_L_leaf (l : Launch) (hl0 : l.stackTraces = false) (dC : Nat → ClassId) (dI : Nat → Nat → Nat) (c : Nat → Nat) (kc : Nat → ClassId) (st : Nat → Int32) (lg : Nat → Int64) (ai : Nat → Nat → Int32) (al : Nat → Nat → Int64) (R : va_W) (cap : Nat) (num : Nat → Int32) (oa : Nat) (ko : ClassId) (fo : Nat → Int64)  (sz tz : Nat) (hI : cI c kc st ai R cap num)  : Met l yL_leaf wsL_leaf ({ frames := 11, cells := 8, slots := 640100, locals := 491 }) (va_Pc [.ref (c 100), .ref oa] (fun U => U.heap.size = sz ∧ tot U.heap = tz ∧ va_P (dC, dI) vwCl (cw_W c kc st lg ai al R ++ [outC oa ko fo]) U.heap ∧ va_K (dC, dI) vwCl (cw_T kc) U ∧ va_K (dC, dI) vwCl [(ko, .long)] U ∧ va_D (fun _ => True) (cw_W c kc st lg ai al R ++ [outC oa ko fo]) ∧ gy_E cap (c 99) (va_A (cw_W c kc st lg ai al R ++ [outC oa ko fo]) sz) U)) (va_Qi (fun r (u : Int32) => r = u) (fun u t => hQ (dC, dI) c kc (st 13) cap sz tz oa ko (va_A (cw_W c kc st lg ai al R ++ [outC oa ko fo]) sz) t) (va_A (cw_W c kc st lg ai al R ++ [outC oa ko fo]) sz)) 8 640100 (va_A (cw_W c kc st lg ai al R ++ [outC oa ko fo]) sz) := by
  refine va_MetW (cc := cL_leaf) (maxL := 3) (ret := (some .int)) (hh := [(0, 8, 11, 25), (0, 8, 14, 13)]) (by decide) rfl ?_
  intro p e s m args below meth cM s₁ B hml hv
  obtain ⟨rfl, hsz, htz, hPZ, hK, hKo, hD0, hY⟩ := hv
  have hx := B.exec
  have hb := B.bytes
  have hr := B.returns
  have hts := atoms_spec (ws := wsL_leaf) B.pre
  have hown : s.vm.findClass RL = some m.cls := findClass_of_methodNamed B.named
  have hlocks := B.notSynchronized
  have htab := vx_table (x := yL_leaf) B (hts (.codeWith yL_leaf cL_leaf 3 (some .int) [(0, 8, 11, 25), (0, 8, 14, 13)]) List.mem_cons_self)
  obtain ⟨⟨hf3a, hf3b⟩, ⟨hf5a, hf5b⟩, ⟨hf6a, hf6b⟩, ⟨hf9a, hf9b⟩, ⟨hf13a, hf13b⟩, ⟨hf15a, hf15b⟩, ⟨hf17a, hf17b⟩, ⟨hf25a, hf25b⟩, ⟨hf26a, hf26b⟩, ⟨hf27a, hf27b⟩, ⟨hf28a, hf28b⟩, ⟨hf37a, hf37b⟩, hR4, hR7, hR23, hR32, hR33, hPI, hN⟩ := hI
  subst hsz
  subst htz
  have hDZ := hD0.self (sz := s.heap.size)
  generalize hAe : va_A (cw_W c kc st lg ai al R ++ [outC oa ko fo]) s.heap.size = A at hDZ hY ⊢
  have hA : ∀ q : Nat, s.heap.size ≤ q → A q := fun q h => by rw [← hAe]; exact Or.inr h
  have hS : va_S A s.heap s.heap [] := va_S.rf
  clear hAe hD0
  have hD := vD_l hDZ
  have hDO := vD_r hDZ
  have hdis := vD_dj hDZ
  have hP := vP_l hPZ
  have hO := vP_r hPZ
  clear hDZ hPZ
  have hG := hY.1
  have hGW := hG.1
  have hl := lv_entry ([.ref (c 100), .ref oa]) (n := 3) (Nat.le_of_ble_eq_true rfl)
  rw [lg_entry_eq]
  generalize (lg_sl ([.ref (c 100), .ref oa]) ++ List.replicate (3 - (lg_sl ([.ref (c 100), .ref oa])).length) Slot.unset).toArray = ls at hl ⊢
  have hl : lv_has ls 3 [(0, .ref (c 100)), (1, .ref oa)] := hl
  have z_0 : (0 : Int32).toInt = 0 := by decide
  have z_1 : (1 : Int32).toInt = 1 := by decide
  have z_2 : (2 : Int32).toInt = 2 := by decide
  have hP : va_P (dC, dI) vwCl (cw_W (rU c 99 (c 99)) kc st lg ai al R) s.heap := by rw [rU_self]; exact hP
  have hD : va_D A (cw_W (rU c 99 (c 99)) kc st lg ai al R) := by rw [rU_self]; exact hD
  have hdis : dj (cw_W (rU c 99 (c 99)) kc st lg ai al R) [outC oa ko fo] := by rw [rU_self]; exact hdis
  have hc0 : cap = 0 → cap = 0 ∧ c 99 = c 99 := fun h => ⟨h, rfl⟩
  have hcp : cap ≤ cap := Nat.le_refl _
  have hN1 : ((cap : Nat) : Int) ≤ 10 + 2 * (st 13).toInt := hN.1
  have hmono : ∀ y m, pgM (kc 0) R y m → pgM (kc 0) R y m := fun y m h => h
  refine lv_aload_n hx hb dL_leaf_0 rfl (lv_at hl 1 rfl) ?_
  refine lv_iconst (v := 0) hx hb dL_leaf_1 (by decide) ?_
  refine lv_aload_n hx hb dL_leaf_2 rfl (lv_at hl 0 rfl) ?_
  refine W_read (fun hu1 hu2 => ?_)
  have hFc := vfree ((cw_D hD : va_D A (cw_W (rU c 99 (c 99)) kc st lg ai al R)) : va_D A (cw_W (rU c 99 (c 99)) kc st lg ai al R)) hS hA
  refine vx_calli (vx_runV (As := []) (rest := [.int (0 : Int32), .ref oa]) ⟨hx, hb, hml, hown, hts⟩ (v_X8_leaf l hl0 dC dI (rU c 99 (c 99)) kc st lg ai al R cap num  _ _ hPI hN (show 0 ≤ (st 5).toInt by omega) (show (st 5).toInt ≤ 400 by omega) (show 1 ≤ (st 6).toInt by omega) (show (st 6).toInt ≤ 65536 by omega) (show 0 ≤ (st 9).toInt by omega) (show (st 9).toInt ≤ 1 by omega) (show 0 ≤ (st 13).toInt by omega) (show (st 13).toInt ≤ 65536 by omega) (show aR (ai 4) 400 (-128) 127 from hR4)) (cwV 0 hts gL_leaf_X8_leaf rfl rfl rfl (by decide +kernel) ⟨Nat.le_of_ble_eq_true rfl, Nat.le_of_ble_eq_true rfl⟩) ⟨fun a U g mk q => by obtain ⟨q0, q1, q2, qP, qK, qD, qG⟩ := q; exact ⟨q0, q1, q2, qP, va_K.moved (u := U) (U := U.calling g mk a) (Vm.Alike.refl U.vm) qK, qD, qG.same rfl rfl⟩, va_recv hK hP (ci := 10) (q := (RX8, TX8, 10)) rfl (q0 := 0) rfl, fun U hU hW => ⟨rfl, by rw [hU], by rw [hU], by rw [hU]; exact hP, va_K.moved hW.alike hK, ((cw_D hD : va_D A (cw_W (rU c 99 (c 99)) kc st lg ai al R))).weaken (fun _ _ _ _ => trivial), hY.go hW hU hS hFc hc0⟩⟩ rfl rfl hl.1 rfl (lv_room (Nat.le_of_ble_eq_true rfl)) dL_leaf_3 ⟨by show 0 + 8 ≤ 8; omega, by show 0 + 640100 ≤ 640100; omega⟩) hS (fun q _ h => hFc q h) hFc (fun q _ h => hFc q h) (fun E9 ce q9 u t H1 locs ht hvm hp hE hz hk hS hcell hv hcl => ?_) (fun r_1 ur_1 t H1 locs ht hvm er_1 hB hz1 hk1 hS => ?_)
  · skip
    obtain ⟨hE, x5_1, x9_1, x10_1, x11_1, x12_1, x13_1, f0_1, e_1, cap_1, num_1, R_1, k_2, k_3, k_4, k_5, k_6, k_7, hPI, hmo, hD1, hN, hc1, hcp1, hnn1, hnn2, hus1, hus2, hP1⟩ := hE
    rw [ht] at hP1
    have hO1 := dj_keep hO hdis hk
    have hdis1 := dj_new hO hdis hD1
    rw [rU_rU (f := c) (k := 99) (a := (c 99)) (b := e_1)] at hdis1
    clear hO hdis
    rw [rU_rU (f := c) (k := 99) (a := (c 99)) (b := e_1)] at hP1
    rw [ht] at hus1 hus2
    have hP : va_P (dC, dI) vwCl (cw_W (rU c 99 e_1) kc (rU (rU (rU (rU (rU (rU st 5 x5_1) 9 x9_1) 10 x10_1) 11 x11_1) 12 x12_1) 13 x13_1) lg (rU ai 0 f0_1) al R_1) H1 := hP1
    rw [rU_rU (f := c) (k := 99) (a := (c 99)) (b := e_1)] at hD1
    have hD : va_D A (cw_W (rU c 99 e_1) kc st lg ai al R_1) := cw_D (hD1.weaken (fun _ _ _ h => hFc _ h))
    have hc0 : cap_1 = 0 → cap = 0 ∧ e_1 = c 99 := fun h => ⟨(hc0 (hc1 h).1).1, (show e_1 = c 99 from (hc1 h).2).trans (hc0 (hc1 h).1).2⟩
    have hcp : cap ≤ cap_1 := Nat.le_trans hcp hcp1
    have hN1 : ((cap_1 : Nat) : Int) ≤ 10 + 2 * x13_1.toInt := hN.1
    have hnn1 : (st 13).toInt ≤ x13_1.toInt := hnn1
    have hnn2 : x13_1.toInt ≤ (st 13).toInt + 1 := hnn2
    have hus1 : ((H1.size : Nat) : Int) ≤ _ + 2 + 3 * (x13_1.toInt - (st 13).toInt) := hus1
    have hus2 : ((tot H1 : Nat) : Int) ≤ _ + 12 + 29 * (x13_1.toInt - (st 13).toInt) + 4 * (((cap_1 : Nat) : Int) - ((cap : Nat) : Int)) := hus2
    obtain ⟨k_8, hk_8⟩ : ∃ k9 : Nat, (k9 : Int) = ((0 : Nat) : Int) + 2 + 3 * (x13_1.toInt - (st 13).toInt) := ⟨(((0 : Nat) : Int) + 2 + 3 * (x13_1.toInt - (st 13).toInt)).toNat, by omega⟩
    obtain ⟨m_8, hm_8⟩ : ∃ m9 : Nat, (m9 : Int) = ((0 : Nat) : Int) + 12 + 29 * (x13_1.toInt - (st 13).toInt) + 4 * (((cap_1 : Nat) : Int) - ((cap : Nat) : Int)) := ⟨(((0 : Nat) : Int) + 12 + 29 * (x13_1.toInt - (st 13).toInt) + 4 * (((cap_1 : Nat) : Int) - ((cap : Nat) : Int))).toNat, by omega⟩
    refine vxW_tight (k' := k_8) (m' := m_8) (by omega) (by omega) ?_
    clear hus1 hus2 hu1 hu2
    have hPI : PI (kc 98) (kc 0) e_1 x13_1 cap_1 num_1 none R_1 := hPI
    clear hFc hD1
    have hmono : ∀ y m, pgM (kc 0) R y m → pgM (kc 0) R_1 y m := fun y m h => hmo y m (hmono y m h)
    have hO := hO1
    have hdis := hdis1
    clear hO1 hdis1
    refine vxW_read (fun hu1 hu2 => ?_)
    simp only [List.mem_cons, List.not_mem_nil, or_false] at hE
    rcases hE with rfl | rfl
    · skip
      refine vx_catch (name := "java/lang/IllegalArgumentException") hown [⟨0, 8, 11, 25⟩] ⟨0, 8, 14, 13⟩ [] htab (fun z h => by simp only [List.mem_cons, List.not_mem_nil, or_false] at h; rcases h with rfl <;> first | exact Or.inr ⟨by decide, "java/lang/IllegalStateException", va_Nw.use rfl (hG.1.2.2.2.2.2.2 (25, "java/lang/IllegalStateException") (by decide +kernel)), hG.1.2.2.2.1 _ (by decide) _ (by decide) (by decide)⟩) (by decide) (by decide) (va_Nw.use rfl (hG.1.2.2.2.2.2.2 (13, "java/lang/IllegalArgumentException") (by decide +kernel))) (va_Nw.use rfl (hG.1.2.2.1 _ (by decide))) hcell hv hcl ?_
      refine W.eq (g2 := F0 m 14 ls [.ref q9]) rfl ?_
      clear hcell hv hcl
      clear ht hp hz hk hvm
      generalize H1 = H at hP hS hO ⊢
      refine lv_astore_n (lv' := [(2, .ref q9), (0, .ref (c 100)), (1, .ref oa)]) hx hb dL_leaf_14 rfl hl (by decide) rfl (fun ls hl => ?_)
      refine lv_iconst (v := 2) hx hb dL_leaf_15 (by decide) ?_
      refine W_read (fun hu1 hu2 => ?_)
      refine W.widen (k := 8) (n := 640100) (by omega) (by omega) ?_
      exact W.iret hx hb hr (fun t ht hW => ⟨⟨_, _, rfl, rfl, e_1, (rU (rU (rU (rU (rU (rU st 5 x5_1) 9 x9_1) 10 x10_1) 11 x11_1) 12 x12_1) 13 x13_1), lg, (rU ai 0 f0_1), al, R_1, cap_1, num_1, fo, ⟨(show 0 ≤ (st 3).toInt ∧ (st 3).toInt ≤ 8 from ⟨by omega, by omega⟩), (show 0 ≤ x5_1.toInt ∧ x5_1.toInt ≤ 400 from ⟨by omega, by omega⟩), (show 1 ≤ (st 6).toInt ∧ (st 6).toInt ≤ 65536 from ⟨by omega, by omega⟩), (show 0 ≤ x9_1.toInt ∧ x9_1.toInt ≤ 1 from ⟨by omega, by omega⟩), (show 0 ≤ x13_1.toInt ∧ x13_1.toInt ≤ 65536 from ⟨by omega, by omega⟩), (show 0 ≤ (st 15).toInt ∧ (st 15).toInt ≤ 1 from ⟨by omega, by omega⟩), (show 0 ≤ (st 17).toInt ∧ (st 17).toInt ≤ 128 from ⟨by omega, by omega⟩), (show 0 ≤ (st 25).toInt ∧ (st 25).toInt ≤ 128 from ⟨by omega, by omega⟩), (show 0 ≤ (st 26).toInt ∧ (st 26).toInt ≤ 128 from ⟨by omega, by omega⟩), (show -1 ≤ (st 27).toInt ∧ (st 27).toInt ≤ 127 from ⟨by omega, by omega⟩), (show 0 ≤ (st 28).toInt ∧ (st 28).toInt ≤ 1 from ⟨by omega, by omega⟩), (show 0 ≤ (st 37).toInt ∧ (st 37).toInt ≤ 255 from ⟨by omega, by omega⟩), (show aR (ai 4) 400 (-128) 127 from hR4), (show aR (ai 7) 8224 (-128) 127 from hR7), (show aR (ai 23) 128 (0) 127 from hR23), (show aR (ai 32) 16 (0) 400 from hR32), (show aR (ai 33) 16 (0) 255 from hR33), hPI, hN⟩, hc0, hcp, (show (st 13).toInt ≤ x13_1.toInt by omega), (show x13_1.toInt ≤ (st 13).toInt + 16 by omega), (show ((t.heap.size : Nat) : Int) ≤ ((s.heap.size : Nat) : Int) + 3 + 3 * (x13_1.toInt - (st 13).toInt) by rw [ht]; omega), (show ((tot t.heap : Nat) : Int) ≤ ((tot s.heap : Nat) : Int) + 18 + 29 * (x13_1.toInt - (st 13).toInt) + 4 * (((cap_1 : Nat) : Int) - ((cap : Nat) : Int)) by rw [ht]; omega), by rw [ht]; exact hP.app hO, va_D.app (cw_D hD) hDO (cw_dj hdis)⟩, hS.F ht⟩) hS.2.2 dL_leaf_16
    · skip
      refine vx_catch (name := "java/lang/IllegalStateException") hown [] ⟨0, 8, 11, 25⟩ [⟨0, 8, 14, 13⟩] htab (fun z h => by cases h) (by decide) (by decide) (va_Nw.use rfl (hG.1.2.2.2.2.2.2 (25, "java/lang/IllegalStateException") (by decide +kernel))) (va_Nw.use rfl (hG.1.2.2.1 _ (by decide))) hcell hv hcl ?_
      refine W.eq (g2 := F0 m 11 ls [.ref q9]) rfl ?_
      clear hcell hv hcl
      clear ht hp hz hk hvm
      generalize H1 = H at hP hS hO ⊢
      refine lv_astore_n (lv' := [(2, .ref q9), (0, .ref (c 100)), (1, .ref oa)]) hx hb dL_leaf_11 rfl hl (by decide) rfl (fun ls hl => ?_)
      refine lv_iconst (v := 1) hx hb dL_leaf_12 (by decide) ?_
      refine W_read (fun hu1 hu2 => ?_)
      refine W.widen (k := 8) (n := 640100) (by omega) (by omega) ?_
      exact W.iret hx hb hr (fun t ht hW => ⟨⟨_, _, rfl, rfl, e_1, (rU (rU (rU (rU (rU (rU st 5 x5_1) 9 x9_1) 10 x10_1) 11 x11_1) 12 x12_1) 13 x13_1), lg, (rU ai 0 f0_1), al, R_1, cap_1, num_1, fo, ⟨(show 0 ≤ (st 3).toInt ∧ (st 3).toInt ≤ 8 from ⟨by omega, by omega⟩), (show 0 ≤ x5_1.toInt ∧ x5_1.toInt ≤ 400 from ⟨by omega, by omega⟩), (show 1 ≤ (st 6).toInt ∧ (st 6).toInt ≤ 65536 from ⟨by omega, by omega⟩), (show 0 ≤ x9_1.toInt ∧ x9_1.toInt ≤ 1 from ⟨by omega, by omega⟩), (show 0 ≤ x13_1.toInt ∧ x13_1.toInt ≤ 65536 from ⟨by omega, by omega⟩), (show 0 ≤ (st 15).toInt ∧ (st 15).toInt ≤ 1 from ⟨by omega, by omega⟩), (show 0 ≤ (st 17).toInt ∧ (st 17).toInt ≤ 128 from ⟨by omega, by omega⟩), (show 0 ≤ (st 25).toInt ∧ (st 25).toInt ≤ 128 from ⟨by omega, by omega⟩), (show 0 ≤ (st 26).toInt ∧ (st 26).toInt ≤ 128 from ⟨by omega, by omega⟩), (show -1 ≤ (st 27).toInt ∧ (st 27).toInt ≤ 127 from ⟨by omega, by omega⟩), (show 0 ≤ (st 28).toInt ∧ (st 28).toInt ≤ 1 from ⟨by omega, by omega⟩), (show 0 ≤ (st 37).toInt ∧ (st 37).toInt ≤ 255 from ⟨by omega, by omega⟩), (show aR (ai 4) 400 (-128) 127 from hR4), (show aR (ai 7) 8224 (-128) 127 from hR7), (show aR (ai 23) 128 (0) 127 from hR23), (show aR (ai 32) 16 (0) 400 from hR32), (show aR (ai 33) 16 (0) 255 from hR33), hPI, hN⟩, hc0, hcp, (show (st 13).toInt ≤ x13_1.toInt by omega), (show x13_1.toInt ≤ (st 13).toInt + 16 by omega), (show ((t.heap.size : Nat) : Int) ≤ ((s.heap.size : Nat) : Int) + 3 + 3 * (x13_1.toInt - (st 13).toInt) by rw [ht]; omega), (show ((tot t.heap : Nat) : Int) ≤ ((tot s.heap : Nat) : Int) + 18 + 29 * (x13_1.toInt - (st 13).toInt) + 4 * (((cap_1 : Nat) : Int) - ((cap : Nat) : Int)) by rw [ht]; omega), by rw [ht]; exact hP.app hO, va_D.app (cw_D hD) hDO (cw_dj hdis)⟩, hS.F ht⟩) hS.2.2 dL_leaf_13
  · skip
    subst er_1
    obtain ⟨x5_1, x9_1, x10_1, x11_1, x12_1, x13_1, f0_1, e_1, cap_1, num_1, R_1, k_9, k_10, k_11, k_12, k_13, k_14, hPI, hmo, hD1, hN, hc1, hcp1, hnn1, hnn2, hus1, hus2, hP1⟩ := hB
    rw [ht] at hP1
    have hO1 := dj_keep hO hdis hk1
    have hdis1 := dj_new hO hdis hD1
    rw [rU_rU (f := c) (k := 99) (a := (c 99)) (b := e_1)] at hdis1
    clear hO hdis
    clear hz1 hk1 hvm hP
    subst ht
    have hP := hP1
    clear hP1
    generalize t.heap = H at hP hS hus1 hus2 hO1 ⊢
    rw [rU_rU (f := c) (k := 99) (a := (c 99)) (b := e_1)] at hP
    have hP : va_P (dC, dI) vwCl (cw_W (rU c 99 e_1) kc (rU (rU (rU (rU (rU (rU st 5 x5_1) 9 x9_1) 10 x10_1) 11 x11_1) 12 x12_1) 13 x13_1) lg (rU ai 0 f0_1) al R_1) H := hP
    rw [rU_rU (f := c) (k := 99) (a := (c 99)) (b := e_1)] at hD1
    have hD : va_D A (cw_W (rU c 99 e_1) kc st lg ai al R_1) := cw_D (hD1.weaken (fun _ _ _ h => hFc _ h))
    have hc0 : cap_1 = 0 → cap = 0 ∧ e_1 = c 99 := fun h => ⟨(hc0 (hc1 h).1).1, (show e_1 = c 99 from (hc1 h).2).trans (hc0 (hc1 h).1).2⟩
    have hcp : cap ≤ cap_1 := Nat.le_trans hcp hcp1
    have hN1 : ((cap_1 : Nat) : Int) ≤ 10 + 2 * x13_1.toInt := hN.1
    have hnn1 : (st 13).toInt ≤ x13_1.toInt := hnn1
    have hnn2 : x13_1.toInt ≤ (st 13).toInt + 1 := hnn2
    have hus1 : ((H.size : Nat) : Int) ≤ _ + 2 + 3 * (x13_1.toInt - (st 13).toInt) := hus1
    have hus2 : ((tot H : Nat) : Int) ≤ _ + 12 + 29 * (x13_1.toInt - (st 13).toInt) + 4 * (((cap_1 : Nat) : Int) - ((cap : Nat) : Int)) := hus2
    obtain ⟨k_15, hk_15⟩ : ∃ k9 : Nat, (k9 : Int) = ((0 : Nat) : Int) + 2 + 3 * (x13_1.toInt - (st 13).toInt) := ⟨(((0 : Nat) : Int) + 2 + 3 * (x13_1.toInt - (st 13).toInt)).toNat, by omega⟩
    obtain ⟨m_15, hm_15⟩ : ∃ m9 : Nat, (m9 : Int) = ((0 : Nat) : Int) + 12 + 29 * (x13_1.toInt - (st 13).toInt) + 4 * (((cap_1 : Nat) : Int) - ((cap : Nat) : Int)) := ⟨(((0 : Nat) : Int) + 12 + 29 * (x13_1.toInt - (st 13).toInt) + 4 * (((cap_1 : Nat) : Int) - ((cap : Nat) : Int))).toNat, by omega⟩
    refine W_tight (k' := k_15) (m' := m_15) (by omega) (by omega) ?_
    clear hus1 hus2 hu1 hu2
    have hPI : PI (kc 98) (kc 0) e_1 x13_1 cap_1 num_1 none R_1 := hPI
    clear hFc hD1
    have hmono : ∀ y m, pgM (kc 0) R y m → pgM (kc 0) R_1 y m := fun y m h => hmo y m (hmono y m h)
    have hO := hO1
    have hdis := hdis1
    clear hO1 hdis1
    have k_9 : 0 ≤ x5_1.toInt := k_9
    have k_10 : x5_1.toInt ≤ 400 := k_10
    have k_11 : 0 ≤ x9_1.toInt := k_11
    have k_12 : x9_1.toInt ≤ 1 := k_12
    have k_13 : 0 ≤ x13_1.toInt := k_13
    have k_14 : x13_1.toInt ≤ 65536 := k_14
    refine lv_i2l hx hb dL_leaf_6 rfl ?_
    refine lv_topl (fun w_16 ew_16 => ?_)
    clear ew_16
    refine lw_last (v := w_16) hx hb hKo hP hO (cw_D hD) hDO (cw_dj hdis) hS dL_leaf_7 (fun H locs fo hP hO hS => ?_)
    have hDO : va_D A [outC oa ko fo] := out_D hDO
    have hdis : dj (cw_W (rU c 99 e_1) kc (rU (rU (rU (rU (rU (rU st 5 x5_1) 9 x9_1) 10 x10_1) 11 x11_1) 12 x12_1) 13 x13_1) lg (rU ai 0 f0_1) al R_1) [outC oa ko fo] := out_dj (cw_dj hdis)
    refine lv_goto (tgt := 17) hx hb dL_leaf_8 (by decide) ?_
    refine lv_iconst (v := 0) hx hb dL_leaf_17 (by decide) ?_
    refine W_read (fun hu1 hu2 => ?_)
    refine W.widen (k := 8) (n := 640100) (by omega) (by omega) ?_
    exact W.iret hx hb hr (fun t ht hW => ⟨⟨_, _, rfl, rfl, e_1, (rU (rU (rU (rU (rU (rU st 5 x5_1) 9 x9_1) 10 x10_1) 11 x11_1) 12 x12_1) 13 x13_1), lg, (rU ai 0 f0_1), al, R_1, cap_1, num_1, fo, ⟨(show 0 ≤ (st 3).toInt ∧ (st 3).toInt ≤ 8 from ⟨by omega, by omega⟩), (show 0 ≤ x5_1.toInt ∧ x5_1.toInt ≤ 400 from ⟨by omega, by omega⟩), (show 1 ≤ (st 6).toInt ∧ (st 6).toInt ≤ 65536 from ⟨by omega, by omega⟩), (show 0 ≤ x9_1.toInt ∧ x9_1.toInt ≤ 1 from ⟨by omega, by omega⟩), (show 0 ≤ x13_1.toInt ∧ x13_1.toInt ≤ 65536 from ⟨by omega, by omega⟩), (show 0 ≤ (st 15).toInt ∧ (st 15).toInt ≤ 1 from ⟨by omega, by omega⟩), (show 0 ≤ (st 17).toInt ∧ (st 17).toInt ≤ 128 from ⟨by omega, by omega⟩), (show 0 ≤ (st 25).toInt ∧ (st 25).toInt ≤ 128 from ⟨by omega, by omega⟩), (show 0 ≤ (st 26).toInt ∧ (st 26).toInt ≤ 128 from ⟨by omega, by omega⟩), (show -1 ≤ (st 27).toInt ∧ (st 27).toInt ≤ 127 from ⟨by omega, by omega⟩), (show 0 ≤ (st 28).toInt ∧ (st 28).toInt ≤ 1 from ⟨by omega, by omega⟩), (show 0 ≤ (st 37).toInt ∧ (st 37).toInt ≤ 255 from ⟨by omega, by omega⟩), (show aR (ai 4) 400 (-128) 127 from hR4), (show aR (ai 7) 8224 (-128) 127 from hR7), (show aR (ai 23) 128 (0) 127 from hR23), (show aR (ai 32) 16 (0) 400 from hR32), (show aR (ai 33) 16 (0) 255 from hR33), hPI, hN⟩, hc0, hcp, (show (st 13).toInt ≤ x13_1.toInt by omega), (show x13_1.toInt ≤ (st 13).toInt + 16 by omega), (show ((t.heap.size : Nat) : Int) ≤ ((s.heap.size : Nat) : Int) + 3 + 3 * (x13_1.toInt - (st 13).toInt) by rw [ht]; omega), (show ((tot t.heap : Nat) : Int) ≤ ((tot s.heap : Nat) : Int) + 18 + 29 * (x13_1.toInt - (st 13).toInt) + 4 * (((cap_1 : Nat) : Int) - ((cap : Nat) : Int)) by rw [ht]; omega), by rw [ht]; exact hP.app hO, va_D.app (cw_D hD) hDO (cw_dj hdis)⟩, hS.F ht⟩) hS.2.2 dL_leaf_18

set_option maxHeartbeats 4000000 in
set_option maxRecDepth 100000 in
theorem h_L_change (l : Launch) (hl0 : l.stackTraces = false) (dC : Nat → ClassId) (dI : Nat → Nat → Nat) (c : Nat → Nat) (kc : Nat → ClassId) (st : Nat → Int32) (lg : Nat → Int64) (ai : Nat → Nat → Int32) (al : Nat → Nat → Int64) (R : va_W) (cap : Nat) (num : Nat → Int32) (oa : Nat) (ko : ClassId) (fo : Nat → Int64) (p1 : Int32) (p2 : Int32) (sz tz : Nat) (hI : cI c kc st ai R cap num)  : Met l yL_change wsL_change ({ frames := 8, cells := 2, slots := 12, locals := 158 }) (va_Pc [.ref (c 100), .int p1, .int p2, .ref oa] (fun U => U.heap.size = sz ∧ tot U.heap = tz ∧ va_P (dC, dI) vwCl (cw_W c kc st lg ai al R ++ [outC oa ko fo]) U.heap ∧ va_K (dC, dI) vwCl (cw_T kc) U ∧ va_K (dC, dI) vwCl [(ko, .long)] U ∧ va_D (fun _ => True) (cw_W c kc st lg ai al R ++ [outC oa ko fo]) ∧ gy_E cap (c 99) (va_A (cw_W c kc st lg ai al R ++ [outC oa ko fo]) sz) U)) (va_Qi (fun r (u : Int32) => r = u) (fun u t => hQ (dC, dI) c kc (st 13) cap sz tz oa ko (va_A (cw_W c kc st lg ai al R ++ [outC oa ko fo]) sz) t) (va_A (cw_W c kc st lg ai al R ++ [outC oa ko fo]) sz)) 2 12 (va_A (cw_W c kc st lg ai al R ++ [outC oa ko fo]) sz) := by
  refine va_MetW (cc := cL_change) (maxL := 5) (ret := (some .int)) (hh := [(0, 10, 13, 25), (0, 10, 17, 13)]) (by decide) rfl ?_
  intro p e s m args below meth cM s₁ B hml hv
  obtain ⟨rfl, hsz, htz, hPZ, hK, hKo, hD0, hY⟩ := hv
  have hx := B.exec
  have hb := B.bytes
  have hr := B.returns
  have hts := atoms_spec (ws := wsL_change) B.pre
  have hown : s.vm.findClass RL = some m.cls := findClass_of_methodNamed B.named
  have hlocks := B.notSynchronized
  have htab := vx_table (x := yL_change) B (hts (.codeWith yL_change cL_change 5 (some .int) [(0, 10, 13, 25), (0, 10, 17, 13)]) List.mem_cons_self)
  obtain ⟨⟨hf3a, hf3b⟩, ⟨hf5a, hf5b⟩, ⟨hf6a, hf6b⟩, ⟨hf9a, hf9b⟩, ⟨hf13a, hf13b⟩, ⟨hf15a, hf15b⟩, ⟨hf17a, hf17b⟩, ⟨hf25a, hf25b⟩, ⟨hf26a, hf26b⟩, ⟨hf27a, hf27b⟩, ⟨hf28a, hf28b⟩, ⟨hf37a, hf37b⟩, hR4, hR7, hR23, hR32, hR33, hPI, hN⟩ := hI
  subst hsz
  subst htz
  have hDZ := hD0.self (sz := s.heap.size)
  generalize hAe : va_A (cw_W c kc st lg ai al R ++ [outC oa ko fo]) s.heap.size = A at hDZ hY ⊢
  have hA : ∀ q : Nat, s.heap.size ≤ q → A q := fun q h => by rw [← hAe]; exact Or.inr h
  have hS : va_S A s.heap s.heap [] := va_S.rf
  clear hAe hD0
  have hD := vD_l hDZ
  have hDO := vD_r hDZ
  have hdis := vD_dj hDZ
  have hP := vP_l hPZ
  have hO := vP_r hPZ
  clear hDZ hPZ
  have hG := hY.1
  have hGW := hG.1
  have hl := lv_entry ([.ref (c 100), .int p1, .int p2, .ref oa]) (n := 5) (Nat.le_of_ble_eq_true rfl)
  rw [lg_entry_eq]
  generalize (lg_sl ([.ref (c 100), .int p1, .int p2, .ref oa]) ++ List.replicate (5 - (lg_sl ([.ref (c 100), .int p1, .int p2, .ref oa])).length) Slot.unset).toArray = ls at hl ⊢
  have hl : lv_has ls 5 [(0, .ref (c 100)), (1, .int p1), (2, .int p2), (3, .ref oa)] := hl
  have z_0 : (0 : Int32).toInt = 0 := by decide
  have z_1 : (1 : Int32).toInt = 1 := by decide
  have z_2 : (2 : Int32).toInt = 2 := by decide
  have hP : va_P (dC, dI) vwCl (cw_W (rU c 99 (c 99)) kc st lg ai al R) s.heap := by rw [rU_self]; exact hP
  have hD : va_D A (cw_W (rU c 99 (c 99)) kc st lg ai al R) := by rw [rU_self]; exact hD
  have hdis : dj (cw_W (rU c 99 (c 99)) kc st lg ai al R) [outC oa ko fo] := by rw [rU_self]; exact hdis
  have hc0 : cap = 0 → cap = 0 ∧ c 99 = c 99 := fun h => ⟨h, rfl⟩
  have hcp : cap ≤ cap := Nat.le_refl _
  have hN1 : ((cap : Nat) : Int) ≤ 10 + 2 * (st 13).toInt := hN.1
  have hmono : ∀ y m, pgM (kc 0) R y m → pgM (kc 0) R y m := fun y m h => h
  refine lv_aload_n hx hb dL_change_0 rfl (lv_at hl 3 rfl) ?_
  refine lv_iconst (v := 0) hx hb dL_change_1 (by decide) ?_
  refine lv_aload_n hx hb dL_change_2 rfl (lv_at hl 0 rfl) ?_
  refine lv_iload_n hx hb dL_change_3 rfl (lv_at hl 1 rfl) ?_
  refine lv_iload_n hx hb dL_change_4 rfl (lv_at hl 2 rfl) ?_
  have hFc := vfree ((cw_D hD : va_D A (cw_W (rU c 99 (c 99)) kc st lg ai al R)) : va_D A (cw_W (rU c 99 (c 99)) kc st lg ai al R)) hS hA
  refine vx_calli (vx_runV (As := [.int p1, .int p2]) (rest := [.int (0 : Int32), .ref oa]) ⟨hx, hb, hml, hown, hts⟩ (v_X8_change l hl0 dC dI (rU c 99 (c 99)) kc st lg ai al R cap num p1 p2 _ hPI (show 0 ≤ (st 3).toInt by omega) (show (st 3).toInt ≤ 8 by omega) (show 1 ≤ (st 6).toInt by omega) (show (st 6).toInt ≤ 65536 by omega) (show 0 ≤ (st 9).toInt by omega) (show (st 9).toInt ≤ 1 by omega) (show 0 ≤ (st 13).toInt by omega) (show (st 13).toInt ≤ 65536 by omega)) (cwV 2 hts gL_change_X8_change rfl rfl rfl (by decide +kernel) ⟨Nat.le_of_ble_eq_true rfl, Nat.le_of_ble_eq_true rfl⟩) ⟨fun a U g mk q => by obtain ⟨q0, q1, qP, qK, qD, qG⟩ := q; exact ⟨q0, q1, qP, va_K.moved (u := U) (U := U.calling g mk a) (Vm.Alike.refl U.vm) qK, qD, qG.same rfl rfl⟩, va_recv hK hP (ci := 10) (q := (RX8, TX8, 10)) rfl (q0 := 0) rfl, fun U hU hW => ⟨rfl, by rw [hU], by rw [hU]; exact hP, va_K.moved hW.alike hK, ((cw_D hD : va_D A (cw_W (rU c 99 (c 99)) kc st lg ai al R))).weaken (fun _ _ _ _ => trivial), hG.go hW hU hS hFc⟩⟩ rfl rfl hl.1 rfl (lv_room (Nat.le_of_ble_eq_true rfl)) dL_change_5 ⟨by show 0 + 2 ≤ 2; omega, by show 0 + 12 ≤ 12; omega⟩) hS (fun q _ h => hFc q h) hFc (fun q _ h => hFc q h) (fun E9 ce q9 u t H1 locs ht hvm hp hE hz hk hS hcell hv hcl => ?_) (fun r_1 ur_1 t H1 locs ht hvm er_1 hB hz1 hk1 hS => ?_)
  · skip
    obtain ⟨hE, x3_1, f1_1, g2_1, R_1, k_2, k_3, hPI, hmo, hD1, hP1⟩ := hE
    rw [ht] at hP1
    have hO1 := dj_keep hO hdis hk
    have hdis1 := dj_new hO hdis hD1
    clear hO hdis
    have hP : va_P (dC, dI) vwCl (cw_W (rU c 99 (c 99)) kc (rU st 3 x3_1) lg (rU ai 1 f1_1) (rU al 2 g2_1) R_1) H1 := hP1
    have hD : va_D A (cw_W (rU c 99 (c 99)) kc st lg ai al R_1) := cw_D (hD1.weaken (fun _ _ _ h => hFc _ h))
    have hPI : PI (kc 98) (kc 0) (c 99) (st 13) cap num none R_1 := hPI
    clear hFc hD1
    have hmono : ∀ y m, pgM (kc 0) R y m → pgM (kc 0) R_1 y m := fun y m h => hmo y m (hmono y m h)
    have hO := hO1
    have hdis := hdis1
    clear hO1 hdis1
    refine vxW_read (fun hu1 hu2 => ?_)
    simp only [List.mem_cons, List.not_mem_nil, or_false] at hE
    rcases hE with rfl | rfl
    · skip
      refine vx_catch (name := "java/lang/IllegalArgumentException") hown [⟨0, 10, 13, 25⟩] ⟨0, 10, 17, 13⟩ [] htab (fun z h => by simp only [List.mem_cons, List.not_mem_nil, or_false] at h; rcases h with rfl <;> first | exact Or.inr ⟨by decide, "java/lang/IllegalStateException", va_Nw.use rfl (hG.1.2.2.2.2.2.2 (25, "java/lang/IllegalStateException") (by decide +kernel)), hG.1.2.2.2.1 _ (by decide) _ (by decide) (by decide)⟩) (by decide) (by decide) (va_Nw.use rfl (hG.1.2.2.2.2.2.2 (13, "java/lang/IllegalArgumentException") (by decide +kernel))) (va_Nw.use rfl (hG.1.2.2.1 _ (by decide))) hcell hv hcl ?_
      refine W.eq (g2 := F0 m 17 ls [.ref q9]) rfl ?_
      clear hcell hv hcl
      clear ht hp hz hk hvm
      generalize H1 = H at hP hS hO ⊢
      refine lv_astore (lv' := [(4, .ref q9), (0, .ref (c 100)), (1, .int p1), (2, .int p2), (3, .ref oa)]) hx hb dL_change_17 hl (by decide) rfl (fun ls hl => ?_)
      refine lv_iconst (v := 2) hx hb dL_change_19 (by decide) ?_
      refine W_read (fun hu1 hu2 => ?_)
      refine W.widen (k := 2) (n := 12) (by omega) (by omega) ?_
      exact W.iret hx hb hr (fun t ht hW => ⟨⟨_, _, rfl, rfl, c 99, (rU st 3 x3_1), lg, (rU ai 1 f1_1), (rU al 2 g2_1), R_1, cap, num, fo, ⟨(show 0 ≤ x3_1.toInt ∧ x3_1.toInt ≤ 8 from ⟨by omega, by omega⟩), (show 0 ≤ (st 5).toInt ∧ (st 5).toInt ≤ 400 from ⟨by omega, by omega⟩), (show 1 ≤ (st 6).toInt ∧ (st 6).toInt ≤ 65536 from ⟨by omega, by omega⟩), (show 0 ≤ (st 9).toInt ∧ (st 9).toInt ≤ 1 from ⟨by omega, by omega⟩), (show 0 ≤ (st 13).toInt ∧ (st 13).toInt ≤ 65536 from ⟨by omega, by omega⟩), (show 0 ≤ (st 15).toInt ∧ (st 15).toInt ≤ 1 from ⟨by omega, by omega⟩), (show 0 ≤ (st 17).toInt ∧ (st 17).toInt ≤ 128 from ⟨by omega, by omega⟩), (show 0 ≤ (st 25).toInt ∧ (st 25).toInt ≤ 128 from ⟨by omega, by omega⟩), (show 0 ≤ (st 26).toInt ∧ (st 26).toInt ≤ 128 from ⟨by omega, by omega⟩), (show -1 ≤ (st 27).toInt ∧ (st 27).toInt ≤ 127 from ⟨by omega, by omega⟩), (show 0 ≤ (st 28).toInt ∧ (st 28).toInt ≤ 1 from ⟨by omega, by omega⟩), (show 0 ≤ (st 37).toInt ∧ (st 37).toInt ≤ 255 from ⟨by omega, by omega⟩), (show aR (ai 4) 400 (-128) 127 from hR4), (show aR (ai 7) 8224 (-128) 127 from hR7), (show aR (ai 23) 128 (0) 127 from hR23), (show aR (ai 32) 16 (0) 400 from hR32), (show aR (ai 33) 16 (0) 255 from hR33), hPI, hN⟩, hc0, hcp, (show (st 13).toInt ≤ (st 13).toInt by omega), (show (st 13).toInt ≤ (st 13).toInt + 16 by omega), (show ((t.heap.size : Nat) : Int) ≤ ((s.heap.size : Nat) : Int) + 3 + 3 * ((st 13).toInt - (st 13).toInt) by rw [ht]; omega), (show ((tot t.heap : Nat) : Int) ≤ ((tot s.heap : Nat) : Int) + 18 + 29 * ((st 13).toInt - (st 13).toInt) + 4 * (((cap : Nat) : Int) - ((cap : Nat) : Int)) by rw [ht]; omega), by rw [ht]; exact hP.app hO, va_D.app (cw_D hD) hDO (cw_dj hdis)⟩, hS.F ht⟩) hS.2.2 dL_change_20
    · skip
      refine vx_catch (name := "java/lang/IllegalStateException") hown [] ⟨0, 10, 13, 25⟩ [⟨0, 10, 17, 13⟩] htab (fun z h => by cases h) (by decide) (by decide) (va_Nw.use rfl (hG.1.2.2.2.2.2.2 (25, "java/lang/IllegalStateException") (by decide +kernel))) (va_Nw.use rfl (hG.1.2.2.1 _ (by decide))) hcell hv hcl ?_
      refine W.eq (g2 := F0 m 13 ls [.ref q9]) rfl ?_
      clear hcell hv hcl
      clear ht hp hz hk hvm
      generalize H1 = H at hP hS hO ⊢
      refine lv_astore (lv' := [(4, .ref q9), (0, .ref (c 100)), (1, .int p1), (2, .int p2), (3, .ref oa)]) hx hb dL_change_13 hl (by decide) rfl (fun ls hl => ?_)
      refine lv_iconst (v := 1) hx hb dL_change_15 (by decide) ?_
      refine W_read (fun hu1 hu2 => ?_)
      refine W.widen (k := 2) (n := 12) (by omega) (by omega) ?_
      exact W.iret hx hb hr (fun t ht hW => ⟨⟨_, _, rfl, rfl, c 99, (rU st 3 x3_1), lg, (rU ai 1 f1_1), (rU al 2 g2_1), R_1, cap, num, fo, ⟨(show 0 ≤ x3_1.toInt ∧ x3_1.toInt ≤ 8 from ⟨by omega, by omega⟩), (show 0 ≤ (st 5).toInt ∧ (st 5).toInt ≤ 400 from ⟨by omega, by omega⟩), (show 1 ≤ (st 6).toInt ∧ (st 6).toInt ≤ 65536 from ⟨by omega, by omega⟩), (show 0 ≤ (st 9).toInt ∧ (st 9).toInt ≤ 1 from ⟨by omega, by omega⟩), (show 0 ≤ (st 13).toInt ∧ (st 13).toInt ≤ 65536 from ⟨by omega, by omega⟩), (show 0 ≤ (st 15).toInt ∧ (st 15).toInt ≤ 1 from ⟨by omega, by omega⟩), (show 0 ≤ (st 17).toInt ∧ (st 17).toInt ≤ 128 from ⟨by omega, by omega⟩), (show 0 ≤ (st 25).toInt ∧ (st 25).toInt ≤ 128 from ⟨by omega, by omega⟩), (show 0 ≤ (st 26).toInt ∧ (st 26).toInt ≤ 128 from ⟨by omega, by omega⟩), (show -1 ≤ (st 27).toInt ∧ (st 27).toInt ≤ 127 from ⟨by omega, by omega⟩), (show 0 ≤ (st 28).toInt ∧ (st 28).toInt ≤ 1 from ⟨by omega, by omega⟩), (show 0 ≤ (st 37).toInt ∧ (st 37).toInt ≤ 255 from ⟨by omega, by omega⟩), (show aR (ai 4) 400 (-128) 127 from hR4), (show aR (ai 7) 8224 (-128) 127 from hR7), (show aR (ai 23) 128 (0) 127 from hR23), (show aR (ai 32) 16 (0) 400 from hR32), (show aR (ai 33) 16 (0) 255 from hR33), hPI, hN⟩, hc0, hcp, (show (st 13).toInt ≤ (st 13).toInt by omega), (show (st 13).toInt ≤ (st 13).toInt + 16 by omega), (show ((t.heap.size : Nat) : Int) ≤ ((s.heap.size : Nat) : Int) + 3 + 3 * ((st 13).toInt - (st 13).toInt) by rw [ht]; omega), (show ((tot t.heap : Nat) : Int) ≤ ((tot s.heap : Nat) : Int) + 18 + 29 * ((st 13).toInt - (st 13).toInt) + 4 * (((cap : Nat) : Int) - ((cap : Nat) : Int)) by rw [ht]; omega), by rw [ht]; exact hP.app hO, va_D.app (cw_D hD) hDO (cw_dj hdis)⟩, hS.F ht⟩) hS.2.2 dL_change_16
  · skip
    subst er_1
    obtain ⟨x3_1, f1_1, g2_1, R_1, k_4, k_5, hPI, hmo, hD1, hP1⟩ := hB
    rw [ht] at hP1
    have hO1 := dj_keep hO hdis hk1
    have hdis1 := dj_new hO hdis hD1
    clear hO hdis
    clear hz1 hk1 hvm hP
    subst ht
    have hP := hP1
    clear hP1
    generalize t.heap = H at hP hS hO1 ⊢
    have hP : va_P (dC, dI) vwCl (cw_W (rU c 99 (c 99)) kc (rU st 3 x3_1) lg (rU ai 1 f1_1) (rU al 2 g2_1) R_1) H := hP
    have hD : va_D A (cw_W (rU c 99 (c 99)) kc st lg ai al R_1) := cw_D (hD1.weaken (fun _ _ _ h => hFc _ h))
    have hPI : PI (kc 98) (kc 0) (c 99) (st 13) cap num none R_1 := hPI
    clear hFc hD1
    have hmono : ∀ y m, pgM (kc 0) R y m → pgM (kc 0) R_1 y m := fun y m h => hmo y m (hmono y m h)
    have hO := hO1
    have hdis := hdis1
    clear hO1 hdis1
    have k_4 : 0 ≤ x3_1.toInt := k_4
    have k_5 : x3_1.toInt ≤ 8 := k_5
    refine lv_i2l hx hb dL_change_8 rfl ?_
    refine lv_topl (fun w_6 ew_6 => ?_)
    clear ew_6
    refine lw_last (v := w_6) hx hb hKo hP hO (cw_D hD) hDO (cw_dj hdis) hS dL_change_9 (fun H locs fo hP hO hS => ?_)
    have hDO : va_D A [outC oa ko fo] := out_D hDO
    have hdis : dj (cw_W (rU c 99 (c 99)) kc (rU st 3 x3_1) lg (rU ai 1 f1_1) (rU al 2 g2_1) R_1) [outC oa ko fo] := out_dj (cw_dj hdis)
    refine lv_goto (tgt := 21) hx hb dL_change_10 (by decide) ?_
    refine lv_iconst (v := 0) hx hb dL_change_21 (by decide) ?_
    refine W_read (fun hu1 hu2 => ?_)
    refine W.widen (k := 2) (n := 12) (by omega) (by omega) ?_
    exact W.iret hx hb hr (fun t ht hW => ⟨⟨_, _, rfl, rfl, c 99, (rU st 3 x3_1), lg, (rU ai 1 f1_1), (rU al 2 g2_1), R_1, cap, num, fo, ⟨(show 0 ≤ x3_1.toInt ∧ x3_1.toInt ≤ 8 from ⟨by omega, by omega⟩), (show 0 ≤ (st 5).toInt ∧ (st 5).toInt ≤ 400 from ⟨by omega, by omega⟩), (show 1 ≤ (st 6).toInt ∧ (st 6).toInt ≤ 65536 from ⟨by omega, by omega⟩), (show 0 ≤ (st 9).toInt ∧ (st 9).toInt ≤ 1 from ⟨by omega, by omega⟩), (show 0 ≤ (st 13).toInt ∧ (st 13).toInt ≤ 65536 from ⟨by omega, by omega⟩), (show 0 ≤ (st 15).toInt ∧ (st 15).toInt ≤ 1 from ⟨by omega, by omega⟩), (show 0 ≤ (st 17).toInt ∧ (st 17).toInt ≤ 128 from ⟨by omega, by omega⟩), (show 0 ≤ (st 25).toInt ∧ (st 25).toInt ≤ 128 from ⟨by omega, by omega⟩), (show 0 ≤ (st 26).toInt ∧ (st 26).toInt ≤ 128 from ⟨by omega, by omega⟩), (show -1 ≤ (st 27).toInt ∧ (st 27).toInt ≤ 127 from ⟨by omega, by omega⟩), (show 0 ≤ (st 28).toInt ∧ (st 28).toInt ≤ 1 from ⟨by omega, by omega⟩), (show 0 ≤ (st 37).toInt ∧ (st 37).toInt ≤ 255 from ⟨by omega, by omega⟩), (show aR (ai 4) 400 (-128) 127 from hR4), (show aR (ai 7) 8224 (-128) 127 from hR7), (show aR (ai 23) 128 (0) 127 from hR23), (show aR (ai 32) 16 (0) 400 from hR32), (show aR (ai 33) 16 (0) 255 from hR33), hPI, hN⟩, hc0, hcp, (show (st 13).toInt ≤ (st 13).toInt by omega), (show (st 13).toInt ≤ (st 13).toInt + 16 by omega), (show ((t.heap.size : Nat) : Int) ≤ ((s.heap.size : Nat) : Int) + 3 + 3 * ((st 13).toInt - (st 13).toInt) by rw [ht]; omega), (show ((tot t.heap : Nat) : Int) ≤ ((tot s.heap : Nat) : Int) + 18 + 29 * ((st 13).toInt - (st 13).toInt) + 4 * (((cap : Nat) : Int) - ((cap : Nat) : Int)) by rw [ht]; omega), by rw [ht]; exact hP.app hO, va_D.app (cw_D hD) hDO (cw_dj hdis)⟩, hS.F ht⟩) hS.2.2 dL_change_22

set_option maxHeartbeats 4000000 in
set_option maxRecDepth 100000 in
theorem h_L_block (l : Launch) (hl0 : l.stackTraces = false) (dC : Nat → ClassId) (dI : Nat → Nat → Nat) (c : Nat → Nat) (kc : Nat → ClassId) (st : Nat → Int32) (lg : Nat → Int64) (ai : Nat → Nat → Int32) (al : Nat → Nat → Int64) (R : va_W) (cap : Nat) (num : Nat → Int32) (oa : Nat) (ko : ClassId) (fo : Nat → Int64) (p1 : Int32) (p2 : Int64) (sz tz : Nat) (hI : cI c kc st ai R cap num)  : Met l yL_block wsL_block ({ frames := 8, cells := 2, slots := 12, locals := 177 }) (va_Pc [.ref (c 100), .int p1, .long p2, .ref oa] (fun U => U.heap.size = sz ∧ tot U.heap = tz ∧ va_P (dC, dI) vwCl (cw_W c kc st lg ai al R ++ [outC oa ko fo]) U.heap ∧ va_K (dC, dI) vwCl (cw_T kc) U ∧ va_K (dC, dI) vwCl [(ko, .long)] U ∧ va_D (fun _ => True) (cw_W c kc st lg ai al R ++ [outC oa ko fo]) ∧ gy_E cap (c 99) (va_A (cw_W c kc st lg ai al R ++ [outC oa ko fo]) sz) U)) (va_Qi (fun r (u : Int32) => r = u) (fun u t => hQ (dC, dI) c kc (st 13) cap sz tz oa ko (va_A (cw_W c kc st lg ai al R ++ [outC oa ko fo]) sz) t) (va_A (cw_W c kc st lg ai al R ++ [outC oa ko fo]) sz)) 2 12 (va_A (cw_W c kc st lg ai al R ++ [outC oa ko fo]) sz) := by
  refine va_MetW (cc := cL_block) (maxL := 6) (ret := (some .int)) (hh := [(0, 11, 14, 25), (0, 11, 18, 13)]) (by decide) rfl ?_
  intro p e s m args below meth cM s₁ B hml hv
  obtain ⟨rfl, hsz, htz, hPZ, hK, hKo, hD0, hY⟩ := hv
  have hx := B.exec
  have hb := B.bytes
  have hr := B.returns
  have hts := atoms_spec (ws := wsL_block) B.pre
  have hown : s.vm.findClass RL = some m.cls := findClass_of_methodNamed B.named
  have hlocks := B.notSynchronized
  have htab := vx_table (x := yL_block) B (hts (.codeWith yL_block cL_block 6 (some .int) [(0, 11, 14, 25), (0, 11, 18, 13)]) List.mem_cons_self)
  obtain ⟨⟨hf3a, hf3b⟩, ⟨hf5a, hf5b⟩, ⟨hf6a, hf6b⟩, ⟨hf9a, hf9b⟩, ⟨hf13a, hf13b⟩, ⟨hf15a, hf15b⟩, ⟨hf17a, hf17b⟩, ⟨hf25a, hf25b⟩, ⟨hf26a, hf26b⟩, ⟨hf27a, hf27b⟩, ⟨hf28a, hf28b⟩, ⟨hf37a, hf37b⟩, hR4, hR7, hR23, hR32, hR33, hPI, hN⟩ := hI
  subst hsz
  subst htz
  have hDZ := hD0.self (sz := s.heap.size)
  generalize hAe : va_A (cw_W c kc st lg ai al R ++ [outC oa ko fo]) s.heap.size = A at hDZ hY ⊢
  have hA : ∀ q : Nat, s.heap.size ≤ q → A q := fun q h => by rw [← hAe]; exact Or.inr h
  have hS : va_S A s.heap s.heap [] := va_S.rf
  clear hAe hD0
  have hD := vD_l hDZ
  have hDO := vD_r hDZ
  have hdis := vD_dj hDZ
  have hP := vP_l hPZ
  have hO := vP_r hPZ
  clear hDZ hPZ
  have hG := hY.1
  have hGW := hG.1
  have hl := lv_entry ([.ref (c 100), .int p1, .long p2, .ref oa]) (n := 6) (Nat.le_of_ble_eq_true rfl)
  rw [lg_entry_eq]
  generalize (lg_sl ([.ref (c 100), .int p1, .long p2, .ref oa]) ++ List.replicate (6 - (lg_sl ([.ref (c 100), .int p1, .long p2, .ref oa])).length) Slot.unset).toArray = ls at hl ⊢
  have hl : lv_has ls 6 [(0, .ref (c 100)), (1, .int p1), (2, .long p2), (4, .ref oa)] := hl
  have z_0 : (0 : Int32).toInt = 0 := by decide
  have z_1 : (1 : Int32).toInt = 1 := by decide
  have z_2 : (2 : Int32).toInt = 2 := by decide
  have hP : va_P (dC, dI) vwCl (cw_W (rU c 99 (c 99)) kc st lg ai al R) s.heap := by rw [rU_self]; exact hP
  have hD : va_D A (cw_W (rU c 99 (c 99)) kc st lg ai al R) := by rw [rU_self]; exact hD
  have hdis : dj (cw_W (rU c 99 (c 99)) kc st lg ai al R) [outC oa ko fo] := by rw [rU_self]; exact hdis
  have hc0 : cap = 0 → cap = 0 ∧ c 99 = c 99 := fun h => ⟨h, rfl⟩
  have hcp : cap ≤ cap := Nat.le_refl _
  have hN1 : ((cap : Nat) : Int) ≤ 10 + 2 * (st 13).toInt := hN.1
  have hmono : ∀ y m, pgM (kc 0) R y m → pgM (kc 0) R y m := fun y m h => h
  refine lv_aload hx hb dL_block_0 (lv_at hl 3 rfl) ?_
  refine lv_iconst (v := 0) hx hb dL_block_2 (by decide) ?_
  refine lv_aload_n hx hb dL_block_3 rfl (lv_at hl 0 rfl) ?_
  refine lv_iload_n hx hb dL_block_4 rfl (lv_at hl 1 rfl) ?_
  refine lv_lload_n hx hb dL_block_5 rfl (lv_at hl 2 rfl) ?_
  have hFc := vfree ((cw_D hD : va_D A (cw_W (rU c 99 (c 99)) kc st lg ai al R)) : va_D A (cw_W (rU c 99 (c 99)) kc st lg ai al R)) hS hA
  refine vx_calli (vx_runV (As := [.int p1, .long p2]) (rest := [.int (0 : Int32), .ref oa]) ⟨hx, hb, hml, hown, hts⟩ (v_X8_block l hl0 dC dI (rU c 99 (c 99)) kc st lg ai al R p1 p2 _ (show 0 ≤ (st 3).toInt by omega) (show (st 3).toInt ≤ 8 by omega) (show 0 ≤ (st 9).toInt by omega) (show (st 9).toInt ≤ 1 by omega) (show 0 ≤ (st 15).toInt by omega) (show (st 15).toInt ≤ 1 by omega) (show 0 ≤ (st 17).toInt by omega) (show (st 17).toInt ≤ 128 by omega) (show 0 ≤ (st 25).toInt by omega) (show (st 25).toInt ≤ 128 by omega) (show 0 ≤ (st 26).toInt by omega) (show (st 26).toInt ≤ 128 by omega) (show -1 ≤ (st 27).toInt by omega) (show (st 27).toInt ≤ 127 by omega) (show 0 ≤ (st 28).toInt by omega) (show (st 28).toInt ≤ 1 by omega) (show aR (ai 7) 8224 (-128) 127 from hR7) (show aR (ai 23) 128 (0) 127 from hR23)) (cwV 2 hts gL_block_X8_block rfl rfl rfl (by decide +kernel) ⟨Nat.le_of_ble_eq_true rfl, Nat.le_of_ble_eq_true rfl⟩) ⟨fun a U g mk q => by obtain ⟨q0, q1, qP, qK, qD, qG⟩ := q; exact ⟨q0, q1, qP, va_K.moved (u := U) (U := U.calling g mk a) (Vm.Alike.refl U.vm) qK, qD, qG.same rfl rfl⟩, va_recv hK hP (ci := 10) (q := (RX8, TX8, 10)) rfl (q0 := 0) rfl, fun U hU hW => ⟨rfl, by rw [hU], by rw [hU]; exact hP, va_K.moved hW.alike hK, ((cw_D hD : va_D A (cw_W (rU c 99 (c 99)) kc st lg ai al R))).weaken (fun _ _ _ _ => trivial), hG.go hW hU hS hFc⟩⟩ rfl rfl hl.1 rfl (lv_room (Nat.le_of_ble_eq_true rfl)) dL_block_6 ⟨by show 0 + 2 ≤ 2; omega, by show 0 + 12 ≤ 12; omega⟩) hS (fun q _ h => hFc q h) hFc (fun q _ h => hFc q h) (fun E9 ce q9 u t H1 locs ht hvm hp hE hz hk hS hcell hv hcl => ?_) (fun r_1 ur_1 t H1 locs ht hvm er_1 hB hz1 hk1 hS => ?_)
  · skip
    obtain ⟨hE, x3_1, x9_1, x10_1, x11_1, x17_1, x25_1, x26_1, x27_1, x28_1, x29_1, f7_1, f8_1, f14_1, f20_1, f21_1, f22_1, f23_1, g19_1, k_2, k_3, k_4, k_5, k_6, k_7, k_8, k_9, k_10, k_11, k_12, k_13, k_14, k_15, hR7, hR23, hP1⟩ := hE
    rw [ht] at hP1
    have hO1 := dj_keep hO hdis hk
    have hdis1 := hdis
    clear hO hdis
    have hP : va_P (dC, dI) vwCl (cw_W (rU c 99 (c 99)) kc (rU (rU (rU (rU (rU (rU (rU (rU (rU (rU st 3 x3_1) 9 x9_1) 10 x10_1) 11 x11_1) 17 x17_1) 25 x25_1) 26 x26_1) 27 x27_1) 28 x28_1) 29 x29_1) lg (rU (rU (rU (rU (rU (rU (rU ai 7 f7_1) 8 f8_1) 14 f14_1) 20 f20_1) 21 f21_1) 22 f22_1) 23 f23_1) (rU al 19 g19_1) R) H1 := hP1
    have hR7 : aR f7_1 8224 (-128) 127 := hR7
    have hR23 : aR f23_1 128 (0) 127 := hR23
    have hO := hO1
    have hdis := hdis1
    clear hO1 hdis1
    refine vxW_read (fun hu1 hu2 => ?_)
    simp only [List.mem_cons, List.not_mem_nil, or_false] at hE
    rcases hE with rfl | rfl
    · skip
      refine vx_catch (name := "java/lang/IllegalArgumentException") hown [⟨0, 11, 14, 25⟩] ⟨0, 11, 18, 13⟩ [] htab (fun z h => by simp only [List.mem_cons, List.not_mem_nil, or_false] at h; rcases h with rfl <;> first | exact Or.inr ⟨by decide, "java/lang/IllegalStateException", va_Nw.use rfl (hG.1.2.2.2.2.2.2 (25, "java/lang/IllegalStateException") (by decide +kernel)), hG.1.2.2.2.1 _ (by decide) _ (by decide) (by decide)⟩) (by decide) (by decide) (va_Nw.use rfl (hG.1.2.2.2.2.2.2 (13, "java/lang/IllegalArgumentException") (by decide +kernel))) (va_Nw.use rfl (hG.1.2.2.1 _ (by decide))) hcell hv hcl ?_
      refine W.eq (g2 := F0 m 18 ls [.ref q9]) rfl ?_
      clear hcell hv hcl
      clear ht hp hz hk hvm
      generalize H1 = H at hP hS hO ⊢
      refine lv_astore (lv' := [(5, .ref q9), (0, .ref (c 100)), (1, .int p1), (2, .long p2), (4, .ref oa)]) hx hb dL_block_18 hl (by decide) rfl (fun ls hl => ?_)
      refine lv_iconst (v := 2) hx hb dL_block_20 (by decide) ?_
      refine W_read (fun hu1 hu2 => ?_)
      refine W.widen (k := 2) (n := 12) (by omega) (by omega) ?_
      exact W.iret hx hb hr (fun t ht hW => ⟨⟨_, _, rfl, rfl, c 99, (rU (rU (rU (rU (rU (rU (rU (rU (rU (rU st 3 x3_1) 9 x9_1) 10 x10_1) 11 x11_1) 17 x17_1) 25 x25_1) 26 x26_1) 27 x27_1) 28 x28_1) 29 x29_1), lg, (rU (rU (rU (rU (rU (rU (rU ai 7 f7_1) 8 f8_1) 14 f14_1) 20 f20_1) 21 f21_1) 22 f22_1) 23 f23_1), (rU al 19 g19_1), R, cap, num, fo, ⟨(show 0 ≤ x3_1.toInt ∧ x3_1.toInt ≤ 8 from ⟨by omega, by omega⟩), (show 0 ≤ (st 5).toInt ∧ (st 5).toInt ≤ 400 from ⟨by omega, by omega⟩), (show 1 ≤ (st 6).toInt ∧ (st 6).toInt ≤ 65536 from ⟨by omega, by omega⟩), (show 0 ≤ x9_1.toInt ∧ x9_1.toInt ≤ 1 from ⟨by omega, by omega⟩), (show 0 ≤ (st 13).toInt ∧ (st 13).toInt ≤ 65536 from ⟨by omega, by omega⟩), (show 0 ≤ (st 15).toInt ∧ (st 15).toInt ≤ 1 from ⟨by omega, by omega⟩), (show 0 ≤ x17_1.toInt ∧ x17_1.toInt ≤ 128 from ⟨by omega, by omega⟩), (show 0 ≤ x25_1.toInt ∧ x25_1.toInt ≤ 128 from ⟨by omega, by omega⟩), (show 0 ≤ x26_1.toInt ∧ x26_1.toInt ≤ 128 from ⟨by omega, by omega⟩), (show -1 ≤ x27_1.toInt ∧ x27_1.toInt ≤ 127 from ⟨by omega, by omega⟩), (show 0 ≤ x28_1.toInt ∧ x28_1.toInt ≤ 1 from ⟨by omega, by omega⟩), (show 0 ≤ (st 37).toInt ∧ (st 37).toInt ≤ 255 from ⟨by omega, by omega⟩), (show aR (ai 4) 400 (-128) 127 from hR4), (show aR f7_1 8224 (-128) 127 from hR7), (show aR f23_1 128 (0) 127 from hR23), (show aR (ai 32) 16 (0) 400 from hR32), (show aR (ai 33) 16 (0) 255 from hR33), hPI, hN⟩, hc0, hcp, (show (st 13).toInt ≤ (st 13).toInt by omega), (show (st 13).toInt ≤ (st 13).toInt + 16 by omega), (show ((t.heap.size : Nat) : Int) ≤ ((s.heap.size : Nat) : Int) + 3 + 3 * ((st 13).toInt - (st 13).toInt) by rw [ht]; omega), (show ((tot t.heap : Nat) : Int) ≤ ((tot s.heap : Nat) : Int) + 18 + 29 * ((st 13).toInt - (st 13).toInt) + 4 * (((cap : Nat) : Int) - ((cap : Nat) : Int)) by rw [ht]; omega), by rw [ht]; exact hP.app hO, va_D.app (cw_D hD) hDO (cw_dj hdis)⟩, hS.F ht⟩) hS.2.2 dL_block_21
    · skip
      refine vx_catch (name := "java/lang/IllegalStateException") hown [] ⟨0, 11, 14, 25⟩ [⟨0, 11, 18, 13⟩] htab (fun z h => by cases h) (by decide) (by decide) (va_Nw.use rfl (hG.1.2.2.2.2.2.2 (25, "java/lang/IllegalStateException") (by decide +kernel))) (va_Nw.use rfl (hG.1.2.2.1 _ (by decide))) hcell hv hcl ?_
      refine W.eq (g2 := F0 m 14 ls [.ref q9]) rfl ?_
      clear hcell hv hcl
      clear ht hp hz hk hvm
      generalize H1 = H at hP hS hO ⊢
      refine lv_astore (lv' := [(5, .ref q9), (0, .ref (c 100)), (1, .int p1), (2, .long p2), (4, .ref oa)]) hx hb dL_block_14 hl (by decide) rfl (fun ls hl => ?_)
      refine lv_iconst (v := 1) hx hb dL_block_16 (by decide) ?_
      refine W_read (fun hu1 hu2 => ?_)
      refine W.widen (k := 2) (n := 12) (by omega) (by omega) ?_
      exact W.iret hx hb hr (fun t ht hW => ⟨⟨_, _, rfl, rfl, c 99, (rU (rU (rU (rU (rU (rU (rU (rU (rU (rU st 3 x3_1) 9 x9_1) 10 x10_1) 11 x11_1) 17 x17_1) 25 x25_1) 26 x26_1) 27 x27_1) 28 x28_1) 29 x29_1), lg, (rU (rU (rU (rU (rU (rU (rU ai 7 f7_1) 8 f8_1) 14 f14_1) 20 f20_1) 21 f21_1) 22 f22_1) 23 f23_1), (rU al 19 g19_1), R, cap, num, fo, ⟨(show 0 ≤ x3_1.toInt ∧ x3_1.toInt ≤ 8 from ⟨by omega, by omega⟩), (show 0 ≤ (st 5).toInt ∧ (st 5).toInt ≤ 400 from ⟨by omega, by omega⟩), (show 1 ≤ (st 6).toInt ∧ (st 6).toInt ≤ 65536 from ⟨by omega, by omega⟩), (show 0 ≤ x9_1.toInt ∧ x9_1.toInt ≤ 1 from ⟨by omega, by omega⟩), (show 0 ≤ (st 13).toInt ∧ (st 13).toInt ≤ 65536 from ⟨by omega, by omega⟩), (show 0 ≤ (st 15).toInt ∧ (st 15).toInt ≤ 1 from ⟨by omega, by omega⟩), (show 0 ≤ x17_1.toInt ∧ x17_1.toInt ≤ 128 from ⟨by omega, by omega⟩), (show 0 ≤ x25_1.toInt ∧ x25_1.toInt ≤ 128 from ⟨by omega, by omega⟩), (show 0 ≤ x26_1.toInt ∧ x26_1.toInt ≤ 128 from ⟨by omega, by omega⟩), (show -1 ≤ x27_1.toInt ∧ x27_1.toInt ≤ 127 from ⟨by omega, by omega⟩), (show 0 ≤ x28_1.toInt ∧ x28_1.toInt ≤ 1 from ⟨by omega, by omega⟩), (show 0 ≤ (st 37).toInt ∧ (st 37).toInt ≤ 255 from ⟨by omega, by omega⟩), (show aR (ai 4) 400 (-128) 127 from hR4), (show aR f7_1 8224 (-128) 127 from hR7), (show aR f23_1 128 (0) 127 from hR23), (show aR (ai 32) 16 (0) 400 from hR32), (show aR (ai 33) 16 (0) 255 from hR33), hPI, hN⟩, hc0, hcp, (show (st 13).toInt ≤ (st 13).toInt by omega), (show (st 13).toInt ≤ (st 13).toInt + 16 by omega), (show ((t.heap.size : Nat) : Int) ≤ ((s.heap.size : Nat) : Int) + 3 + 3 * ((st 13).toInt - (st 13).toInt) by rw [ht]; omega), (show ((tot t.heap : Nat) : Int) ≤ ((tot s.heap : Nat) : Int) + 18 + 29 * ((st 13).toInt - (st 13).toInt) + 4 * (((cap : Nat) : Int) - ((cap : Nat) : Int)) by rw [ht]; omega), by rw [ht]; exact hP.app hO, va_D.app (cw_D hD) hDO (cw_dj hdis)⟩, hS.F ht⟩) hS.2.2 dL_block_17
  · skip
    subst er_1
    obtain ⟨x3_1, x9_1, x10_1, x11_1, x17_1, x25_1, x26_1, x27_1, x28_1, x29_1, f7_1, f8_1, f14_1, f20_1, f21_1, f22_1, f23_1, g19_1, k_16, k_17, k_18, k_19, k_20, k_21, k_22, k_23, k_24, k_25, k_26, k_27, k_28, k_29, hR7, hR23, hP1⟩ := hB
    rw [ht] at hP1
    have hO1 := dj_keep hO hdis hk1
    have hdis1 := hdis
    clear hO hdis
    clear hFc hz1 hk1 hvm hP
    subst ht
    have hP := hP1
    clear hP1
    generalize t.heap = H at hP hS hO1 ⊢
    have hP : va_P (dC, dI) vwCl (cw_W (rU c 99 (c 99)) kc (rU (rU (rU (rU (rU (rU (rU (rU (rU (rU st 3 x3_1) 9 x9_1) 10 x10_1) 11 x11_1) 17 x17_1) 25 x25_1) 26 x26_1) 27 x27_1) 28 x28_1) 29 x29_1) lg (rU (rU (rU (rU (rU (rU (rU ai 7 f7_1) 8 f8_1) 14 f14_1) 20 f20_1) 21 f21_1) 22 f22_1) 23 f23_1) (rU al 19 g19_1) R) H := hP
    have hO := hO1
    have hdis := hdis1
    clear hO1 hdis1
    have k_16 : 0 ≤ x3_1.toInt := k_16
    have k_17 : x3_1.toInt ≤ 8 := k_17
    have k_18 : 0 ≤ x9_1.toInt := k_18
    have k_19 : x9_1.toInt ≤ 1 := k_19
    have k_20 : 0 ≤ x17_1.toInt := k_20
    have k_21 : x17_1.toInt ≤ 128 := k_21
    have k_22 : 0 ≤ x25_1.toInt := k_22
    have k_23 : x25_1.toInt ≤ 128 := k_23
    have k_24 : 0 ≤ x26_1.toInt := k_24
    have k_25 : x26_1.toInt ≤ 128 := k_25
    have k_26 : -1 ≤ x27_1.toInt := k_26
    have k_27 : x27_1.toInt ≤ 127 := k_27
    have k_28 : 0 ≤ x28_1.toInt := k_28
    have k_29 : x28_1.toInt ≤ 1 := k_29
    have hR7 : aR f7_1 8224 (-128) 127 := hR7
    have hR23 : aR f23_1 128 (0) 127 := hR23
    refine lv_i2l hx hb dL_block_9 rfl ?_
    refine lv_topl (fun w_30 ew_30 => ?_)
    clear ew_30
    refine lw_last (v := w_30) hx hb hKo hP hO (cw_D hD) hDO (cw_dj hdis) hS dL_block_10 (fun H locs fo hP hO hS => ?_)
    have hDO : va_D A [outC oa ko fo] := out_D hDO
    have hdis : dj (cw_W (rU c 99 (c 99)) kc (rU (rU (rU (rU (rU (rU (rU (rU (rU (rU st 3 x3_1) 9 x9_1) 10 x10_1) 11 x11_1) 17 x17_1) 25 x25_1) 26 x26_1) 27 x27_1) 28 x28_1) 29 x29_1) lg (rU (rU (rU (rU (rU (rU (rU ai 7 f7_1) 8 f8_1) 14 f14_1) 20 f20_1) 21 f21_1) 22 f22_1) 23 f23_1) (rU al 19 g19_1) R) [outC oa ko fo] := out_dj (cw_dj hdis)
    refine lv_goto (tgt := 22) hx hb dL_block_11 (by decide) ?_
    refine lv_iconst (v := 0) hx hb dL_block_22 (by decide) ?_
    refine W_read (fun hu1 hu2 => ?_)
    refine W.widen (k := 2) (n := 12) (by omega) (by omega) ?_
    exact W.iret hx hb hr (fun t ht hW => ⟨⟨_, _, rfl, rfl, c 99, (rU (rU (rU (rU (rU (rU (rU (rU (rU (rU st 3 x3_1) 9 x9_1) 10 x10_1) 11 x11_1) 17 x17_1) 25 x25_1) 26 x26_1) 27 x27_1) 28 x28_1) 29 x29_1), lg, (rU (rU (rU (rU (rU (rU (rU ai 7 f7_1) 8 f8_1) 14 f14_1) 20 f20_1) 21 f21_1) 22 f22_1) 23 f23_1), (rU al 19 g19_1), R, cap, num, fo, ⟨(show 0 ≤ x3_1.toInt ∧ x3_1.toInt ≤ 8 from ⟨by omega, by omega⟩), (show 0 ≤ (st 5).toInt ∧ (st 5).toInt ≤ 400 from ⟨by omega, by omega⟩), (show 1 ≤ (st 6).toInt ∧ (st 6).toInt ≤ 65536 from ⟨by omega, by omega⟩), (show 0 ≤ x9_1.toInt ∧ x9_1.toInt ≤ 1 from ⟨by omega, by omega⟩), (show 0 ≤ (st 13).toInt ∧ (st 13).toInt ≤ 65536 from ⟨by omega, by omega⟩), (show 0 ≤ (st 15).toInt ∧ (st 15).toInt ≤ 1 from ⟨by omega, by omega⟩), (show 0 ≤ x17_1.toInt ∧ x17_1.toInt ≤ 128 from ⟨by omega, by omega⟩), (show 0 ≤ x25_1.toInt ∧ x25_1.toInt ≤ 128 from ⟨by omega, by omega⟩), (show 0 ≤ x26_1.toInt ∧ x26_1.toInt ≤ 128 from ⟨by omega, by omega⟩), (show -1 ≤ x27_1.toInt ∧ x27_1.toInt ≤ 127 from ⟨by omega, by omega⟩), (show 0 ≤ x28_1.toInt ∧ x28_1.toInt ≤ 1 from ⟨by omega, by omega⟩), (show 0 ≤ (st 37).toInt ∧ (st 37).toInt ≤ 255 from ⟨by omega, by omega⟩), (show aR (ai 4) 400 (-128) 127 from hR4), (show aR f7_1 8224 (-128) 127 from hR7), (show aR f23_1 128 (0) 127 from hR23), (show aR (ai 32) 16 (0) 400 from hR32), (show aR (ai 33) 16 (0) 255 from hR33), hPI, hN⟩, hc0, hcp, (show (st 13).toInt ≤ (st 13).toInt by omega), (show (st 13).toInt ≤ (st 13).toInt + 16 by omega), (show ((t.heap.size : Nat) : Int) ≤ ((s.heap.size : Nat) : Int) + 3 + 3 * ((st 13).toInt - (st 13).toInt) by rw [ht]; omega), (show ((tot t.heap : Nat) : Int) ≤ ((tot s.heap : Nat) : Int) + 18 + 29 * ((st 13).toInt - (st 13).toInt) + 4 * (((cap : Nat) : Int) - ((cap : Nat) : Int)) by rw [ht]; omega), by rw [ht]; exact hP.app hO, va_D.app (cw_D hD) hDO (cw_dj hdis)⟩, hS.F ht⟩) hS.2.2 dL_block_23

set_option maxHeartbeats 4000000 in
set_option maxRecDepth 100000 in
theorem h_L_digest (l : Launch) (hl0 : l.stackTraces = false) (dC : Nat → ClassId) (dI : Nat → Nat → Nat) (c : Nat → Nat) (kc : Nat → ClassId) (st : Nat → Int32) (lg : Nat → Int64) (ai : Nat → Nat → Int32) (al : Nat → Nat → Int64) (R : va_W) (cap : Nat) (num : Nat → Int32) (oa : Nat) (ko : ClassId) (fo : Nat → Int64) (p1 : Int32) (sz tz : Nat) (hI : cI c kc st ai R cap num)  : Met l yL_digest wsL_digest ({ frames := 8, cells := 2, slots := 12, locals := 133 }) (va_Pc [.ref (c 100), .int p1, .ref oa] (fun U => U.heap.size = sz ∧ tot U.heap = tz ∧ va_P (dC, dI) vwCl (cw_W c kc st lg ai al R ++ [outC oa ko fo]) U.heap ∧ va_K (dC, dI) vwCl (cw_T kc) U ∧ va_K (dC, dI) vwCl [(ko, .long)] U ∧ va_D (fun _ => True) (cw_W c kc st lg ai al R ++ [outC oa ko fo]) ∧ gy_E cap (c 99) (va_A (cw_W c kc st lg ai al R ++ [outC oa ko fo]) sz) U)) (va_Qi (fun r (u : Int32) => r = u) (fun u t => hQ (dC, dI) c kc (st 13) cap sz tz oa ko (va_A (cw_W c kc st lg ai al R ++ [outC oa ko fo]) sz) t) (va_A (cw_W c kc st lg ai al R ++ [outC oa ko fo]) sz)) 2 12 (va_A (cw_W c kc st lg ai al R ++ [outC oa ko fo]) sz) := by
  refine va_MetW (cc := cL_digest) (maxL := 4) (ret := (some .int)) (hh := [(0, 8, 11, 19), (0, 8, 14, 25)]) (by decide) rfl ?_
  intro p e s m args below meth cM s₁ B hml hv
  obtain ⟨rfl, hsz, htz, hPZ, hK, hKo, hD0, hY⟩ := hv
  have hx := B.exec
  have hb := B.bytes
  have hr := B.returns
  have hts := atoms_spec (ws := wsL_digest) B.pre
  have hown : s.vm.findClass RL = some m.cls := findClass_of_methodNamed B.named
  have hlocks := B.notSynchronized
  have htab := vx_table (x := yL_digest) B (hts (.codeWith yL_digest cL_digest 4 (some .int) [(0, 8, 11, 19), (0, 8, 14, 25)]) List.mem_cons_self)
  obtain ⟨⟨hf3a, hf3b⟩, ⟨hf5a, hf5b⟩, ⟨hf6a, hf6b⟩, ⟨hf9a, hf9b⟩, ⟨hf13a, hf13b⟩, ⟨hf15a, hf15b⟩, ⟨hf17a, hf17b⟩, ⟨hf25a, hf25b⟩, ⟨hf26a, hf26b⟩, ⟨hf27a, hf27b⟩, ⟨hf28a, hf28b⟩, ⟨hf37a, hf37b⟩, hR4, hR7, hR23, hR32, hR33, hPI, hN⟩ := hI
  subst hsz
  subst htz
  have hDZ := hD0.self (sz := s.heap.size)
  generalize hAe : va_A (cw_W c kc st lg ai al R ++ [outC oa ko fo]) s.heap.size = A at hDZ hY ⊢
  have hA : ∀ q : Nat, s.heap.size ≤ q → A q := fun q h => by rw [← hAe]; exact Or.inr h
  have hS : va_S A s.heap s.heap [] := va_S.rf
  clear hAe hD0
  have hD := vD_l hDZ
  have hDO := vD_r hDZ
  have hdis := vD_dj hDZ
  have hP := vP_l hPZ
  have hO := vP_r hPZ
  clear hDZ hPZ
  have hG := hY.1
  have hGW := hG.1
  have hl := lv_entry ([.ref (c 100), .int p1, .ref oa]) (n := 4) (Nat.le_of_ble_eq_true rfl)
  rw [lg_entry_eq]
  generalize (lg_sl ([.ref (c 100), .int p1, .ref oa]) ++ List.replicate (4 - (lg_sl ([.ref (c 100), .int p1, .ref oa])).length) Slot.unset).toArray = ls at hl ⊢
  have hl : lv_has ls 4 [(0, .ref (c 100)), (1, .int p1), (2, .ref oa)] := hl
  have z_0 : (0 : Int32).toInt = 0 := by decide
  have z_1 : (1 : Int32).toInt = 1 := by decide
  have z_2 : (2 : Int32).toInt = 2 := by decide
  have hP : va_P (dC, dI) vwCl (cw_W (rU c 99 (c 99)) kc st lg ai al R) s.heap := by rw [rU_self]; exact hP
  have hD : va_D A (cw_W (rU c 99 (c 99)) kc st lg ai al R) := by rw [rU_self]; exact hD
  have hdis : dj (cw_W (rU c 99 (c 99)) kc st lg ai al R) [outC oa ko fo] := by rw [rU_self]; exact hdis
  have hc0 : cap = 0 → cap = 0 ∧ c 99 = c 99 := fun h => ⟨h, rfl⟩
  have hcp : cap ≤ cap := Nat.le_refl _
  have hN1 : ((cap : Nat) : Int) ≤ 10 + 2 * (st 13).toInt := hN.1
  have hmono : ∀ y m, pgM (kc 0) R y m → pgM (kc 0) R y m := fun y m h => h
  refine lv_aload_n hx hb dL_digest_0 rfl (lv_at hl 2 rfl) ?_
  refine lv_iconst (v := 0) hx hb dL_digest_1 (by decide) ?_
  refine lv_aload_n hx hb dL_digest_2 rfl (lv_at hl 0 rfl) ?_
  refine lv_iload_n hx hb dL_digest_3 rfl (lv_at hl 1 rfl) ?_
  have hFc := vfree ((cw_D hD : va_D A (cw_W (rU c 99 (c 99)) kc st lg ai al R)) : va_D A (cw_W (rU c 99 (c 99)) kc st lg ai al R)) hS hA
  refine vx_calll (vx_runV (As := [.int p1]) (rest := [.int (0 : Int32), .ref oa]) ⟨hx, hb, hml, hown, hts⟩ (v_X8_digest l hl0 dC dI (rU c 99 (c 99)) kc st lg ai al R p1 _ (show 0 ≤ (st 9).toInt by omega) (show (st 9).toInt ≤ 1 by omega) (show 0 ≤ (st 17).toInt by omega) (show (st 17).toInt ≤ 128 by omega) (show 0 ≤ (st 25).toInt by omega) (show (st 25).toInt ≤ 128 by omega)) (cwV 1 hts gL_digest_X8_digest rfl rfl rfl (by decide +kernel) ⟨Nat.le_of_ble_eq_true rfl, Nat.le_of_ble_eq_true rfl⟩) ⟨fun a U g mk q => by obtain ⟨q0, q1, qP, qK, qD, qG⟩ := q; exact ⟨q0, q1, qP, va_K.moved (u := U) (U := U.calling g mk a) (Vm.Alike.refl U.vm) qK, qD, qG.same rfl rfl⟩, va_recv hK hP (ci := 10) (q := (RX8, TX8, 10)) rfl (q0 := 0) rfl, fun U hU hW => ⟨rfl, by rw [hU], by rw [hU]; exact hP, va_K.moved hW.alike hK, ((cw_D hD : va_D A (cw_W (rU c 99 (c 99)) kc st lg ai al R))).weaken (fun _ _ _ _ => trivial), hG.go hW hU hS hFc⟩⟩ rfl rfl hl.1 rfl (lv_room (Nat.le_of_ble_eq_true rfl)) dL_digest_4 ⟨by show 0 + 2 ≤ 2; omega, by show 0 + 12 ≤ 12; omega⟩) hS (fun q _ h => hFc q h) hFc (fun q _ h => hFc q h) (fun E9 ce q9 u t H1 locs ht hvm hp hE hz hk hS hcell hv hcl => ?_) (fun r_1 ur_1 t H1 locs ht hvm er_1 hB hz1 hk1 hS => ?_)
  · skip
    obtain ⟨hE, hP1⟩ := hE
    rw [ht] at hP1
    have hO1 := dj_keep hO hdis hk
    have hdis1 := hdis
    clear hO hdis
    have hP : va_P (dC, dI) vwCl (cw_W (rU c 99 (c 99)) kc st lg ai al R) H1 := hP1
    have hO := hO1
    have hdis := hdis1
    clear hO1 hdis1
    refine vxW_read (fun hu1 hu2 => ?_)
    simp only [List.mem_cons, List.not_mem_nil, or_false] at hE
    rcases hE with rfl | rfl
    · skip
      refine vx_catch (name := "java/lang/IllegalStateException") hown [⟨0, 8, 11, 19⟩] ⟨0, 8, 14, 25⟩ [] htab (fun z h => by simp only [List.mem_cons, List.not_mem_nil, or_false] at h; rcases h with rfl <;> first | exact Or.inr ⟨by decide, "java/lang/IndexOutOfBoundsException", va_Nw.use rfl (hG.1.2.2.2.2.2.2 (19, "java/lang/IndexOutOfBoundsException") (by decide +kernel)), hG.1.2.2.2.1 _ (by decide) _ (by decide) (by decide)⟩) (by decide) (by decide) (va_Nw.use rfl (hG.1.2.2.2.2.2.2 (25, "java/lang/IllegalStateException") (by decide +kernel))) (va_Nw.use rfl (hG.1.2.2.1 _ (by decide))) hcell hv hcl ?_
      refine W.eq (g2 := F0 m 14 ls [.ref q9]) rfl ?_
      clear hcell hv hcl
      clear ht hp hz hk hvm
      generalize H1 = H at hP hS hO ⊢
      refine lv_astore_n (lv' := [(3, .ref q9), (0, .ref (c 100)), (1, .int p1), (2, .ref oa)]) hx hb dL_digest_14 rfl hl (by decide) rfl (fun ls hl => ?_)
      refine lv_iconst (v := 2) hx hb dL_digest_15 (by decide) ?_
      refine W_read (fun hu1 hu2 => ?_)
      refine W.widen (k := 2) (n := 12) (by omega) (by omega) ?_
      exact W.iret hx hb hr (fun t ht hW => ⟨⟨_, _, rfl, rfl, c 99, st, lg, ai, al, R, cap, num, fo, ⟨(show 0 ≤ (st 3).toInt ∧ (st 3).toInt ≤ 8 from ⟨by omega, by omega⟩), (show 0 ≤ (st 5).toInt ∧ (st 5).toInt ≤ 400 from ⟨by omega, by omega⟩), (show 1 ≤ (st 6).toInt ∧ (st 6).toInt ≤ 65536 from ⟨by omega, by omega⟩), (show 0 ≤ (st 9).toInt ∧ (st 9).toInt ≤ 1 from ⟨by omega, by omega⟩), (show 0 ≤ (st 13).toInt ∧ (st 13).toInt ≤ 65536 from ⟨by omega, by omega⟩), (show 0 ≤ (st 15).toInt ∧ (st 15).toInt ≤ 1 from ⟨by omega, by omega⟩), (show 0 ≤ (st 17).toInt ∧ (st 17).toInt ≤ 128 from ⟨by omega, by omega⟩), (show 0 ≤ (st 25).toInt ∧ (st 25).toInt ≤ 128 from ⟨by omega, by omega⟩), (show 0 ≤ (st 26).toInt ∧ (st 26).toInt ≤ 128 from ⟨by omega, by omega⟩), (show -1 ≤ (st 27).toInt ∧ (st 27).toInt ≤ 127 from ⟨by omega, by omega⟩), (show 0 ≤ (st 28).toInt ∧ (st 28).toInt ≤ 1 from ⟨by omega, by omega⟩), (show 0 ≤ (st 37).toInt ∧ (st 37).toInt ≤ 255 from ⟨by omega, by omega⟩), (show aR (ai 4) 400 (-128) 127 from hR4), (show aR (ai 7) 8224 (-128) 127 from hR7), (show aR (ai 23) 128 (0) 127 from hR23), (show aR (ai 32) 16 (0) 400 from hR32), (show aR (ai 33) 16 (0) 255 from hR33), hPI, hN⟩, hc0, hcp, (show (st 13).toInt ≤ (st 13).toInt by omega), (show (st 13).toInt ≤ (st 13).toInt + 16 by omega), (show ((t.heap.size : Nat) : Int) ≤ ((s.heap.size : Nat) : Int) + 3 + 3 * ((st 13).toInt - (st 13).toInt) by rw [ht]; omega), (show ((tot t.heap : Nat) : Int) ≤ ((tot s.heap : Nat) : Int) + 18 + 29 * ((st 13).toInt - (st 13).toInt) + 4 * (((cap : Nat) : Int) - ((cap : Nat) : Int)) by rw [ht]; omega), by rw [ht]; exact hP.app hO, va_D.app (cw_D hD) hDO (cw_dj hdis)⟩, hS.F ht⟩) hS.2.2 dL_digest_16
    · skip
      refine vx_catch (name := "java/lang/IndexOutOfBoundsException") hown [] ⟨0, 8, 11, 19⟩ [⟨0, 8, 14, 25⟩] htab (fun z h => by cases h) (by decide) (by decide) (va_Nw.use rfl (hG.1.2.2.2.2.2.2 (19, "java/lang/IndexOutOfBoundsException") (by decide +kernel))) (va_Nw.use rfl (hG.1.2.2.1 _ (by decide))) hcell hv hcl ?_
      refine W.eq (g2 := F0 m 11 ls [.ref q9]) rfl ?_
      clear hcell hv hcl
      clear ht hp hz hk hvm
      generalize H1 = H at hP hS hO ⊢
      refine lv_astore_n (lv' := [(3, .ref q9), (0, .ref (c 100)), (1, .int p1), (2, .ref oa)]) hx hb dL_digest_11 rfl hl (by decide) rfl (fun ls hl => ?_)
      refine lv_iconst (v := 1) hx hb dL_digest_12 (by decide) ?_
      refine W_read (fun hu1 hu2 => ?_)
      refine W.widen (k := 2) (n := 12) (by omega) (by omega) ?_
      exact W.iret hx hb hr (fun t ht hW => ⟨⟨_, _, rfl, rfl, c 99, st, lg, ai, al, R, cap, num, fo, ⟨(show 0 ≤ (st 3).toInt ∧ (st 3).toInt ≤ 8 from ⟨by omega, by omega⟩), (show 0 ≤ (st 5).toInt ∧ (st 5).toInt ≤ 400 from ⟨by omega, by omega⟩), (show 1 ≤ (st 6).toInt ∧ (st 6).toInt ≤ 65536 from ⟨by omega, by omega⟩), (show 0 ≤ (st 9).toInt ∧ (st 9).toInt ≤ 1 from ⟨by omega, by omega⟩), (show 0 ≤ (st 13).toInt ∧ (st 13).toInt ≤ 65536 from ⟨by omega, by omega⟩), (show 0 ≤ (st 15).toInt ∧ (st 15).toInt ≤ 1 from ⟨by omega, by omega⟩), (show 0 ≤ (st 17).toInt ∧ (st 17).toInt ≤ 128 from ⟨by omega, by omega⟩), (show 0 ≤ (st 25).toInt ∧ (st 25).toInt ≤ 128 from ⟨by omega, by omega⟩), (show 0 ≤ (st 26).toInt ∧ (st 26).toInt ≤ 128 from ⟨by omega, by omega⟩), (show -1 ≤ (st 27).toInt ∧ (st 27).toInt ≤ 127 from ⟨by omega, by omega⟩), (show 0 ≤ (st 28).toInt ∧ (st 28).toInt ≤ 1 from ⟨by omega, by omega⟩), (show 0 ≤ (st 37).toInt ∧ (st 37).toInt ≤ 255 from ⟨by omega, by omega⟩), (show aR (ai 4) 400 (-128) 127 from hR4), (show aR (ai 7) 8224 (-128) 127 from hR7), (show aR (ai 23) 128 (0) 127 from hR23), (show aR (ai 32) 16 (0) 400 from hR32), (show aR (ai 33) 16 (0) 255 from hR33), hPI, hN⟩, hc0, hcp, (show (st 13).toInt ≤ (st 13).toInt by omega), (show (st 13).toInt ≤ (st 13).toInt + 16 by omega), (show ((t.heap.size : Nat) : Int) ≤ ((s.heap.size : Nat) : Int) + 3 + 3 * ((st 13).toInt - (st 13).toInt) by rw [ht]; omega), (show ((tot t.heap : Nat) : Int) ≤ ((tot s.heap : Nat) : Int) + 18 + 29 * ((st 13).toInt - (st 13).toInt) + 4 * (((cap : Nat) : Int) - ((cap : Nat) : Int)) by rw [ht]; omega), by rw [ht]; exact hP.app hO, va_D.app (cw_D hD) hDO (cw_dj hdis)⟩, hS.F ht⟩) hS.2.2 dL_digest_13
  · skip
    subst er_1
    have hP1 : va_P (dC, dI) vwCl (cw_W (rU c 99 (c 99)) kc st lg ai al R) t.heap := hB
    rw [ht] at hP1
    have hO1 := dj_keep hO hdis hk1
    have hdis1 := hdis
    clear hO hdis
    clear hFc hz1 hk1 hvm hP
    subst ht
    have hP := hP1
    clear hP1
    generalize t.heap = H at hP hS hO1 ⊢
    have hP : va_P (dC, dI) vwCl (cw_W (rU c 99 (c 99)) kc st lg ai al R) H := hP
    have hO := hO1
    have hdis := hdis1
    clear hO1 hdis1
    refine lw_last (v := r_1) hx hb hKo hP hO (cw_D hD) hDO (cw_dj hdis) hS dL_digest_7 (fun H locs fo hP hO hS => ?_)
    have hDO : va_D A [outC oa ko fo] := out_D hDO
    have hdis : dj (cw_W (rU c 99 (c 99)) kc st lg ai al R) [outC oa ko fo] := out_dj (cw_dj hdis)
    refine lv_goto (tgt := 17) hx hb dL_digest_8 (by decide) ?_
    refine lv_iconst (v := 0) hx hb dL_digest_17 (by decide) ?_
    refine W_read (fun hu1 hu2 => ?_)
    refine W.widen (k := 2) (n := 12) (by omega) (by omega) ?_
    exact W.iret hx hb hr (fun t ht hW => ⟨⟨_, _, rfl, rfl, c 99, st, lg, ai, al, R, cap, num, fo, ⟨(show 0 ≤ (st 3).toInt ∧ (st 3).toInt ≤ 8 from ⟨by omega, by omega⟩), (show 0 ≤ (st 5).toInt ∧ (st 5).toInt ≤ 400 from ⟨by omega, by omega⟩), (show 1 ≤ (st 6).toInt ∧ (st 6).toInt ≤ 65536 from ⟨by omega, by omega⟩), (show 0 ≤ (st 9).toInt ∧ (st 9).toInt ≤ 1 from ⟨by omega, by omega⟩), (show 0 ≤ (st 13).toInt ∧ (st 13).toInt ≤ 65536 from ⟨by omega, by omega⟩), (show 0 ≤ (st 15).toInt ∧ (st 15).toInt ≤ 1 from ⟨by omega, by omega⟩), (show 0 ≤ (st 17).toInt ∧ (st 17).toInt ≤ 128 from ⟨by omega, by omega⟩), (show 0 ≤ (st 25).toInt ∧ (st 25).toInt ≤ 128 from ⟨by omega, by omega⟩), (show 0 ≤ (st 26).toInt ∧ (st 26).toInt ≤ 128 from ⟨by omega, by omega⟩), (show -1 ≤ (st 27).toInt ∧ (st 27).toInt ≤ 127 from ⟨by omega, by omega⟩), (show 0 ≤ (st 28).toInt ∧ (st 28).toInt ≤ 1 from ⟨by omega, by omega⟩), (show 0 ≤ (st 37).toInt ∧ (st 37).toInt ≤ 255 from ⟨by omega, by omega⟩), (show aR (ai 4) 400 (-128) 127 from hR4), (show aR (ai 7) 8224 (-128) 127 from hR7), (show aR (ai 23) 128 (0) 127 from hR23), (show aR (ai 32) 16 (0) 400 from hR32), (show aR (ai 33) 16 (0) 255 from hR33), hPI, hN⟩, hc0, hcp, (show (st 13).toInt ≤ (st 13).toInt by omega), (show (st 13).toInt ≤ (st 13).toInt + 16 by omega), (show ((t.heap.size : Nat) : Int) ≤ ((s.heap.size : Nat) : Int) + 3 + 3 * ((st 13).toInt - (st 13).toInt) by rw [ht]; omega), (show ((tot t.heap : Nat) : Int) ≤ ((tot s.heap : Nat) : Int) + 18 + 29 * ((st 13).toInt - (st 13).toInt) + 4 * (((cap : Nat) : Int) - ((cap : Nat) : Int)) by rw [ht]; omega), by rw [ht]; exact hP.app hO, va_D.app (cw_D hD) hDO (cw_dj hdis)⟩, hS.F ht⟩) hS.2.2 dL_digest_18

set_option maxHeartbeats 4000000 in
set_option maxRecDepth 100000 in
theorem h_L_vote (l : Launch) (hl0 : l.stackTraces = false) (dC : Nat → ClassId) (dI : Nat → Nat → Nat) (c : Nat → Nat) (kc : Nat → ClassId) (st : Nat → Int32) (lg : Nat → Int64) (ai : Nat → Nat → Int32) (al : Nat → Nat → Int64) (R : va_W) (cap : Nat) (num : Nat → Int32) (oa : Nat) (ko : ClassId) (fo : Nat → Int64) (p1 : Int32) (p2 : Int32) (p3 : Int64) (sz tz : Nat) (hI : cI c kc st ai R cap num)  : Met l yL_vote wsL_vote ({ frames := 8, cells := 3, slots := 18, locals := 178 }) (va_Pc [.ref (c 100), .int p1, .int p2, .long p3, .ref oa] (fun U => U.heap.size = sz ∧ tot U.heap = tz ∧ va_P (dC, dI) vwCl (cw_W c kc st lg ai al R ++ [outC oa ko fo]) U.heap ∧ va_K (dC, dI) vwCl (cw_T kc) U ∧ va_K (dC, dI) vwCl [(ko, .long)] U ∧ va_D (fun _ => True) (cw_W c kc st lg ai al R ++ [outC oa ko fo]) ∧ gy_E cap (c 99) (va_A (cw_W c kc st lg ai al R ++ [outC oa ko fo]) sz) U)) (va_Qi (fun r (u : Int32) => r = u) (fun u t => hQ (dC, dI) c kc (st 13) cap sz tz oa ko (va_A (cw_W c kc st lg ai al R ++ [outC oa ko fo]) sz) t) (va_A (cw_W c kc st lg ai al R ++ [outC oa ko fo]) sz)) 3 18 (va_A (cw_W c kc st lg ai al R ++ [outC oa ko fo]) sz) := by
  refine va_MetW (cc := cL_vote) (maxL := 7) (ret := (some .int)) (hh := [(0, 12, 15, 25), (0, 12, 19, 13)]) (by decide) rfl ?_
  intro p e s m args below meth cM s₁ B hml hv
  obtain ⟨rfl, hsz, htz, hPZ, hK, hKo, hD0, hY⟩ := hv
  have hx := B.exec
  have hb := B.bytes
  have hr := B.returns
  have hts := atoms_spec (ws := wsL_vote) B.pre
  have hown : s.vm.findClass RL = some m.cls := findClass_of_methodNamed B.named
  have hlocks := B.notSynchronized
  have htab := vx_table (x := yL_vote) B (hts (.codeWith yL_vote cL_vote 7 (some .int) [(0, 12, 15, 25), (0, 12, 19, 13)]) List.mem_cons_self)
  obtain ⟨⟨hf3a, hf3b⟩, ⟨hf5a, hf5b⟩, ⟨hf6a, hf6b⟩, ⟨hf9a, hf9b⟩, ⟨hf13a, hf13b⟩, ⟨hf15a, hf15b⟩, ⟨hf17a, hf17b⟩, ⟨hf25a, hf25b⟩, ⟨hf26a, hf26b⟩, ⟨hf27a, hf27b⟩, ⟨hf28a, hf28b⟩, ⟨hf37a, hf37b⟩, hR4, hR7, hR23, hR32, hR33, hPI, hN⟩ := hI
  subst hsz
  subst htz
  have hDZ := hD0.self (sz := s.heap.size)
  generalize hAe : va_A (cw_W c kc st lg ai al R ++ [outC oa ko fo]) s.heap.size = A at hDZ hY ⊢
  have hA : ∀ q : Nat, s.heap.size ≤ q → A q := fun q h => by rw [← hAe]; exact Or.inr h
  have hS : va_S A s.heap s.heap [] := va_S.rf
  clear hAe hD0
  have hD := vD_l hDZ
  have hDO := vD_r hDZ
  have hdis := vD_dj hDZ
  have hP := vP_l hPZ
  have hO := vP_r hPZ
  clear hDZ hPZ
  have hG := hY.1
  have hGW := hG.1
  have hl := lv_entry ([.ref (c 100), .int p1, .int p2, .long p3, .ref oa]) (n := 7) (Nat.le_of_ble_eq_true rfl)
  rw [lg_entry_eq]
  generalize (lg_sl ([.ref (c 100), .int p1, .int p2, .long p3, .ref oa]) ++ List.replicate (7 - (lg_sl ([.ref (c 100), .int p1, .int p2, .long p3, .ref oa])).length) Slot.unset).toArray = ls at hl ⊢
  have hl : lv_has ls 7 [(0, .ref (c 100)), (1, .int p1), (2, .int p2), (3, .long p3), (5, .ref oa)] := hl
  have z_0 : (0 : Int32).toInt = 0 := by decide
  have z_1 : (1 : Int32).toInt = 1 := by decide
  have z_2 : (2 : Int32).toInt = 2 := by decide
  have hP : va_P (dC, dI) vwCl (cw_W (rU c 99 (c 99)) kc st lg ai al R) s.heap := by rw [rU_self]; exact hP
  have hD : va_D A (cw_W (rU c 99 (c 99)) kc st lg ai al R) := by rw [rU_self]; exact hD
  have hdis : dj (cw_W (rU c 99 (c 99)) kc st lg ai al R) [outC oa ko fo] := by rw [rU_self]; exact hdis
  have hc0 : cap = 0 → cap = 0 ∧ c 99 = c 99 := fun h => ⟨h, rfl⟩
  have hcp : cap ≤ cap := Nat.le_refl _
  have hN1 : ((cap : Nat) : Int) ≤ 10 + 2 * (st 13).toInt := hN.1
  have hmono : ∀ y m, pgM (kc 0) R y m → pgM (kc 0) R y m := fun y m h => h
  refine lv_aload hx hb dL_vote_0 (lv_at hl 4 rfl) ?_
  refine lv_iconst (v := 0) hx hb dL_vote_2 (by decide) ?_
  refine lv_aload_n hx hb dL_vote_3 rfl (lv_at hl 0 rfl) ?_
  refine lv_iload_n hx hb dL_vote_4 rfl (lv_at hl 1 rfl) ?_
  refine lv_iload_n hx hb dL_vote_5 rfl (lv_at hl 2 rfl) ?_
  refine lv_lload_n hx hb dL_vote_6 rfl (lv_at hl 3 rfl) ?_
  have hFc := vfree ((cw_D hD : va_D A (cw_W (rU c 99 (c 99)) kc st lg ai al R)) : va_D A (cw_W (rU c 99 (c 99)) kc st lg ai al R)) hS hA
  refine vx_calli (vx_runV (As := [.int p1, .int p2, .long p3]) (rest := [.int (0 : Int32), .ref oa]) ⟨hx, hb, hml, hown, hts⟩ (v_X8_vote l hl0 dC dI (rU c 99 (c 99)) kc st lg ai al R p1 p2 p3 _ (show 0 ≤ (st 9).toInt by omega) (show (st 9).toInt ≤ 1 by omega) (show 0 ≤ (st 15).toInt by omega) (show (st 15).toInt ≤ 1 by omega) (show 0 ≤ (st 17).toInt by omega) (show (st 17).toInt ≤ 128 by omega) (show 0 ≤ (st 25).toInt by omega) (show (st 25).toInt ≤ 128 by omega) (show 0 ≤ (st 26).toInt by omega) (show (st 26).toInt ≤ 128 by omega) (show -1 ≤ (st 27).toInt by omega) (show (st 27).toInt ≤ 127 by omega) (show 0 ≤ (st 28).toInt by omega) (show (st 28).toInt ≤ 1 by omega) (show aR (ai 7) 8224 (-128) 127 from hR7) (show aR (ai 23) 128 (0) 127 from hR23)) (cwV 3 hts gL_vote_X8_vote rfl rfl rfl (by decide +kernel) ⟨Nat.le_of_ble_eq_true rfl, Nat.le_of_ble_eq_true rfl⟩) ⟨fun a U g mk q => by obtain ⟨q0, q1, qP, qK, qD, qG⟩ := q; exact ⟨q0, q1, qP, va_K.moved (u := U) (U := U.calling g mk a) (Vm.Alike.refl U.vm) qK, qD, qG.same rfl rfl⟩, va_recv hK hP (ci := 10) (q := (RX8, TX8, 10)) rfl (q0 := 0) rfl, fun U hU hW => ⟨rfl, by rw [hU], by rw [hU]; exact hP, va_K.moved hW.alike hK, ((cw_D hD : va_D A (cw_W (rU c 99 (c 99)) kc st lg ai al R))).weaken (fun _ _ _ _ => trivial), hG.go hW hU hS hFc⟩⟩ rfl rfl hl.1 rfl (lv_room (Nat.le_of_ble_eq_true rfl)) dL_vote_7 ⟨by show 0 + 3 ≤ 3; omega, by show 0 + 18 ≤ 18; omega⟩) hS (fun q _ h => hFc q h) hFc (fun q _ h => hFc q h) (fun E9 ce q9 u t H1 locs ht hvm hp hE hz hk hS hcell hv hcl => ?_) (fun r_1 ur_1 t H1 locs ht hvm er_1 hB hz1 hk1 hS => ?_)
  · skip
    obtain ⟨hE, x9_1, x10_1, x11_1, x17_1, x25_1, x26_1, x27_1, x28_1, x29_1, f7_1, f8_1, f14_1, f20_1, f21_1, f22_1, f23_1, g19_1, k_2, k_3, k_4, k_5, k_6, k_7, k_8, k_9, k_10, k_11, k_12, k_13, hR7, hR23, hP1⟩ := hE
    rw [ht] at hP1
    have hO1 := dj_keep hO hdis hk
    have hdis1 := hdis
    clear hO hdis
    have hP : va_P (dC, dI) vwCl (cw_W (rU c 99 (c 99)) kc (rU (rU (rU (rU (rU (rU (rU (rU (rU st 9 x9_1) 10 x10_1) 11 x11_1) 17 x17_1) 25 x25_1) 26 x26_1) 27 x27_1) 28 x28_1) 29 x29_1) lg (rU (rU (rU (rU (rU (rU (rU ai 7 f7_1) 8 f8_1) 14 f14_1) 20 f20_1) 21 f21_1) 22 f22_1) 23 f23_1) (rU al 19 g19_1) R) H1 := hP1
    have hR7 : aR f7_1 8224 (-128) 127 := hR7
    have hR23 : aR f23_1 128 (0) 127 := hR23
    have hO := hO1
    have hdis := hdis1
    clear hO1 hdis1
    refine vxW_read (fun hu1 hu2 => ?_)
    simp only [List.mem_cons, List.not_mem_nil, or_false] at hE
    rcases hE with rfl | rfl
    · skip
      refine vx_catch (name := "java/lang/IllegalArgumentException") hown [⟨0, 12, 15, 25⟩] ⟨0, 12, 19, 13⟩ [] htab (fun z h => by simp only [List.mem_cons, List.not_mem_nil, or_false] at h; rcases h with rfl <;> first | exact Or.inr ⟨by decide, "java/lang/IllegalStateException", va_Nw.use rfl (hG.1.2.2.2.2.2.2 (25, "java/lang/IllegalStateException") (by decide +kernel)), hG.1.2.2.2.1 _ (by decide) _ (by decide) (by decide)⟩) (by decide) (by decide) (va_Nw.use rfl (hG.1.2.2.2.2.2.2 (13, "java/lang/IllegalArgumentException") (by decide +kernel))) (va_Nw.use rfl (hG.1.2.2.1 _ (by decide))) hcell hv hcl ?_
      refine W.eq (g2 := F0 m 19 ls [.ref q9]) rfl ?_
      clear hcell hv hcl
      clear ht hp hz hk hvm
      generalize H1 = H at hP hS hO ⊢
      refine lv_astore (lv' := [(6, .ref q9), (0, .ref (c 100)), (1, .int p1), (2, .int p2), (3, .long p3), (5, .ref oa)]) hx hb dL_vote_19 hl (by decide) rfl (fun ls hl => ?_)
      refine lv_iconst (v := 2) hx hb dL_vote_21 (by decide) ?_
      refine W_read (fun hu1 hu2 => ?_)
      refine W.widen (k := 3) (n := 18) (by omega) (by omega) ?_
      exact W.iret hx hb hr (fun t ht hW => ⟨⟨_, _, rfl, rfl, c 99, (rU (rU (rU (rU (rU (rU (rU (rU (rU st 9 x9_1) 10 x10_1) 11 x11_1) 17 x17_1) 25 x25_1) 26 x26_1) 27 x27_1) 28 x28_1) 29 x29_1), lg, (rU (rU (rU (rU (rU (rU (rU ai 7 f7_1) 8 f8_1) 14 f14_1) 20 f20_1) 21 f21_1) 22 f22_1) 23 f23_1), (rU al 19 g19_1), R, cap, num, fo, ⟨(show 0 ≤ (st 3).toInt ∧ (st 3).toInt ≤ 8 from ⟨by omega, by omega⟩), (show 0 ≤ (st 5).toInt ∧ (st 5).toInt ≤ 400 from ⟨by omega, by omega⟩), (show 1 ≤ (st 6).toInt ∧ (st 6).toInt ≤ 65536 from ⟨by omega, by omega⟩), (show 0 ≤ x9_1.toInt ∧ x9_1.toInt ≤ 1 from ⟨by omega, by omega⟩), (show 0 ≤ (st 13).toInt ∧ (st 13).toInt ≤ 65536 from ⟨by omega, by omega⟩), (show 0 ≤ (st 15).toInt ∧ (st 15).toInt ≤ 1 from ⟨by omega, by omega⟩), (show 0 ≤ x17_1.toInt ∧ x17_1.toInt ≤ 128 from ⟨by omega, by omega⟩), (show 0 ≤ x25_1.toInt ∧ x25_1.toInt ≤ 128 from ⟨by omega, by omega⟩), (show 0 ≤ x26_1.toInt ∧ x26_1.toInt ≤ 128 from ⟨by omega, by omega⟩), (show -1 ≤ x27_1.toInt ∧ x27_1.toInt ≤ 127 from ⟨by omega, by omega⟩), (show 0 ≤ x28_1.toInt ∧ x28_1.toInt ≤ 1 from ⟨by omega, by omega⟩), (show 0 ≤ (st 37).toInt ∧ (st 37).toInt ≤ 255 from ⟨by omega, by omega⟩), (show aR (ai 4) 400 (-128) 127 from hR4), (show aR f7_1 8224 (-128) 127 from hR7), (show aR f23_1 128 (0) 127 from hR23), (show aR (ai 32) 16 (0) 400 from hR32), (show aR (ai 33) 16 (0) 255 from hR33), hPI, hN⟩, hc0, hcp, (show (st 13).toInt ≤ (st 13).toInt by omega), (show (st 13).toInt ≤ (st 13).toInt + 16 by omega), (show ((t.heap.size : Nat) : Int) ≤ ((s.heap.size : Nat) : Int) + 3 + 3 * ((st 13).toInt - (st 13).toInt) by rw [ht]; omega), (show ((tot t.heap : Nat) : Int) ≤ ((tot s.heap : Nat) : Int) + 18 + 29 * ((st 13).toInt - (st 13).toInt) + 4 * (((cap : Nat) : Int) - ((cap : Nat) : Int)) by rw [ht]; omega), by rw [ht]; exact hP.app hO, va_D.app (cw_D hD) hDO (cw_dj hdis)⟩, hS.F ht⟩) hS.2.2 dL_vote_22
    · skip
      refine vx_catch (name := "java/lang/IllegalStateException") hown [] ⟨0, 12, 15, 25⟩ [⟨0, 12, 19, 13⟩] htab (fun z h => by cases h) (by decide) (by decide) (va_Nw.use rfl (hG.1.2.2.2.2.2.2 (25, "java/lang/IllegalStateException") (by decide +kernel))) (va_Nw.use rfl (hG.1.2.2.1 _ (by decide))) hcell hv hcl ?_
      refine W.eq (g2 := F0 m 15 ls [.ref q9]) rfl ?_
      clear hcell hv hcl
      clear ht hp hz hk hvm
      generalize H1 = H at hP hS hO ⊢
      refine lv_astore (lv' := [(6, .ref q9), (0, .ref (c 100)), (1, .int p1), (2, .int p2), (3, .long p3), (5, .ref oa)]) hx hb dL_vote_15 hl (by decide) rfl (fun ls hl => ?_)
      refine lv_iconst (v := 1) hx hb dL_vote_17 (by decide) ?_
      refine W_read (fun hu1 hu2 => ?_)
      refine W.widen (k := 3) (n := 18) (by omega) (by omega) ?_
      exact W.iret hx hb hr (fun t ht hW => ⟨⟨_, _, rfl, rfl, c 99, (rU (rU (rU (rU (rU (rU (rU (rU (rU st 9 x9_1) 10 x10_1) 11 x11_1) 17 x17_1) 25 x25_1) 26 x26_1) 27 x27_1) 28 x28_1) 29 x29_1), lg, (rU (rU (rU (rU (rU (rU (rU ai 7 f7_1) 8 f8_1) 14 f14_1) 20 f20_1) 21 f21_1) 22 f22_1) 23 f23_1), (rU al 19 g19_1), R, cap, num, fo, ⟨(show 0 ≤ (st 3).toInt ∧ (st 3).toInt ≤ 8 from ⟨by omega, by omega⟩), (show 0 ≤ (st 5).toInt ∧ (st 5).toInt ≤ 400 from ⟨by omega, by omega⟩), (show 1 ≤ (st 6).toInt ∧ (st 6).toInt ≤ 65536 from ⟨by omega, by omega⟩), (show 0 ≤ x9_1.toInt ∧ x9_1.toInt ≤ 1 from ⟨by omega, by omega⟩), (show 0 ≤ (st 13).toInt ∧ (st 13).toInt ≤ 65536 from ⟨by omega, by omega⟩), (show 0 ≤ (st 15).toInt ∧ (st 15).toInt ≤ 1 from ⟨by omega, by omega⟩), (show 0 ≤ x17_1.toInt ∧ x17_1.toInt ≤ 128 from ⟨by omega, by omega⟩), (show 0 ≤ x25_1.toInt ∧ x25_1.toInt ≤ 128 from ⟨by omega, by omega⟩), (show 0 ≤ x26_1.toInt ∧ x26_1.toInt ≤ 128 from ⟨by omega, by omega⟩), (show -1 ≤ x27_1.toInt ∧ x27_1.toInt ≤ 127 from ⟨by omega, by omega⟩), (show 0 ≤ x28_1.toInt ∧ x28_1.toInt ≤ 1 from ⟨by omega, by omega⟩), (show 0 ≤ (st 37).toInt ∧ (st 37).toInt ≤ 255 from ⟨by omega, by omega⟩), (show aR (ai 4) 400 (-128) 127 from hR4), (show aR f7_1 8224 (-128) 127 from hR7), (show aR f23_1 128 (0) 127 from hR23), (show aR (ai 32) 16 (0) 400 from hR32), (show aR (ai 33) 16 (0) 255 from hR33), hPI, hN⟩, hc0, hcp, (show (st 13).toInt ≤ (st 13).toInt by omega), (show (st 13).toInt ≤ (st 13).toInt + 16 by omega), (show ((t.heap.size : Nat) : Int) ≤ ((s.heap.size : Nat) : Int) + 3 + 3 * ((st 13).toInt - (st 13).toInt) by rw [ht]; omega), (show ((tot t.heap : Nat) : Int) ≤ ((tot s.heap : Nat) : Int) + 18 + 29 * ((st 13).toInt - (st 13).toInt) + 4 * (((cap : Nat) : Int) - ((cap : Nat) : Int)) by rw [ht]; omega), by rw [ht]; exact hP.app hO, va_D.app (cw_D hD) hDO (cw_dj hdis)⟩, hS.F ht⟩) hS.2.2 dL_vote_18
  · skip
    subst er_1
    obtain ⟨x9_1, x10_1, x11_1, x17_1, x25_1, x26_1, x27_1, x28_1, x29_1, f7_1, f8_1, f14_1, f20_1, f21_1, f22_1, f23_1, g19_1, k_14, k_15, k_16, k_17, k_18, k_19, k_20, k_21, k_22, k_23, k_24, k_25, hR7, hR23, hP1⟩ := hB
    rw [ht] at hP1
    have hO1 := dj_keep hO hdis hk1
    have hdis1 := hdis
    clear hO hdis
    clear hFc hz1 hk1 hvm hP
    subst ht
    have hP := hP1
    clear hP1
    generalize t.heap = H at hP hS hO1 ⊢
    have hP : va_P (dC, dI) vwCl (cw_W (rU c 99 (c 99)) kc (rU (rU (rU (rU (rU (rU (rU (rU (rU st 9 x9_1) 10 x10_1) 11 x11_1) 17 x17_1) 25 x25_1) 26 x26_1) 27 x27_1) 28 x28_1) 29 x29_1) lg (rU (rU (rU (rU (rU (rU (rU ai 7 f7_1) 8 f8_1) 14 f14_1) 20 f20_1) 21 f21_1) 22 f22_1) 23 f23_1) (rU al 19 g19_1) R) H := hP
    have hO := hO1
    have hdis := hdis1
    clear hO1 hdis1
    have k_14 : 0 ≤ x9_1.toInt := k_14
    have k_15 : x9_1.toInt ≤ 1 := k_15
    have k_16 : 0 ≤ x17_1.toInt := k_16
    have k_17 : x17_1.toInt ≤ 128 := k_17
    have k_18 : 0 ≤ x25_1.toInt := k_18
    have k_19 : x25_1.toInt ≤ 128 := k_19
    have k_20 : 0 ≤ x26_1.toInt := k_20
    have k_21 : x26_1.toInt ≤ 128 := k_21
    have k_22 : -1 ≤ x27_1.toInt := k_22
    have k_23 : x27_1.toInt ≤ 127 := k_23
    have k_24 : 0 ≤ x28_1.toInt := k_24
    have k_25 : x28_1.toInt ≤ 1 := k_25
    have hR7 : aR f7_1 8224 (-128) 127 := hR7
    have hR23 : aR f23_1 128 (0) 127 := hR23
    refine lv_i2l hx hb dL_vote_10 rfl ?_
    refine lv_topl (fun w_26 ew_26 => ?_)
    clear ew_26
    refine lw_last (v := w_26) hx hb hKo hP hO (cw_D hD) hDO (cw_dj hdis) hS dL_vote_11 (fun H locs fo hP hO hS => ?_)
    have hDO : va_D A [outC oa ko fo] := out_D hDO
    have hdis : dj (cw_W (rU c 99 (c 99)) kc (rU (rU (rU (rU (rU (rU (rU (rU (rU st 9 x9_1) 10 x10_1) 11 x11_1) 17 x17_1) 25 x25_1) 26 x26_1) 27 x27_1) 28 x28_1) 29 x29_1) lg (rU (rU (rU (rU (rU (rU (rU ai 7 f7_1) 8 f8_1) 14 f14_1) 20 f20_1) 21 f21_1) 22 f22_1) 23 f23_1) (rU al 19 g19_1) R) [outC oa ko fo] := out_dj (cw_dj hdis)
    refine lv_goto (tgt := 23) hx hb dL_vote_12 (by decide) ?_
    refine lv_iconst (v := 0) hx hb dL_vote_23 (by decide) ?_
    refine W_read (fun hu1 hu2 => ?_)
    refine W.widen (k := 3) (n := 18) (by omega) (by omega) ?_
    exact W.iret hx hb hr (fun t ht hW => ⟨⟨_, _, rfl, rfl, c 99, (rU (rU (rU (rU (rU (rU (rU (rU (rU st 9 x9_1) 10 x10_1) 11 x11_1) 17 x17_1) 25 x25_1) 26 x26_1) 27 x27_1) 28 x28_1) 29 x29_1), lg, (rU (rU (rU (rU (rU (rU (rU ai 7 f7_1) 8 f8_1) 14 f14_1) 20 f20_1) 21 f21_1) 22 f22_1) 23 f23_1), (rU al 19 g19_1), R, cap, num, fo, ⟨(show 0 ≤ (st 3).toInt ∧ (st 3).toInt ≤ 8 from ⟨by omega, by omega⟩), (show 0 ≤ (st 5).toInt ∧ (st 5).toInt ≤ 400 from ⟨by omega, by omega⟩), (show 1 ≤ (st 6).toInt ∧ (st 6).toInt ≤ 65536 from ⟨by omega, by omega⟩), (show 0 ≤ x9_1.toInt ∧ x9_1.toInt ≤ 1 from ⟨by omega, by omega⟩), (show 0 ≤ (st 13).toInt ∧ (st 13).toInt ≤ 65536 from ⟨by omega, by omega⟩), (show 0 ≤ (st 15).toInt ∧ (st 15).toInt ≤ 1 from ⟨by omega, by omega⟩), (show 0 ≤ x17_1.toInt ∧ x17_1.toInt ≤ 128 from ⟨by omega, by omega⟩), (show 0 ≤ x25_1.toInt ∧ x25_1.toInt ≤ 128 from ⟨by omega, by omega⟩), (show 0 ≤ x26_1.toInt ∧ x26_1.toInt ≤ 128 from ⟨by omega, by omega⟩), (show -1 ≤ x27_1.toInt ∧ x27_1.toInt ≤ 127 from ⟨by omega, by omega⟩), (show 0 ≤ x28_1.toInt ∧ x28_1.toInt ≤ 1 from ⟨by omega, by omega⟩), (show 0 ≤ (st 37).toInt ∧ (st 37).toInt ≤ 255 from ⟨by omega, by omega⟩), (show aR (ai 4) 400 (-128) 127 from hR4), (show aR f7_1 8224 (-128) 127 from hR7), (show aR f23_1 128 (0) 127 from hR23), (show aR (ai 32) 16 (0) 400 from hR32), (show aR (ai 33) 16 (0) 255 from hR33), hPI, hN⟩, hc0, hcp, (show (st 13).toInt ≤ (st 13).toInt by omega), (show (st 13).toInt ≤ (st 13).toInt + 16 by omega), (show ((t.heap.size : Nat) : Int) ≤ ((s.heap.size : Nat) : Int) + 3 + 3 * ((st 13).toInt - (st 13).toInt) by rw [ht]; omega), (show ((tot t.heap : Nat) : Int) ≤ ((tot s.heap : Nat) : Int) + 18 + 29 * ((st 13).toInt - (st 13).toInt) + 4 * (((cap : Nat) : Int) - ((cap : Nat) : Int)) by rw [ht]; omega), by rw [ht]; exact hP.app hO, va_D.app (cw_D hD) hDO (cw_dj hdis)⟩, hS.F ht⟩) hS.2.2 dL_vote_24

set_option maxHeartbeats 4000000 in
set_option maxRecDepth 100000 in
theorem h_L_sent (l : Launch) (hl0 : l.stackTraces = false) (dC : Nat → ClassId) (dI : Nat → Nat → Nat) (c : Nat → Nat) (kc : Nat → ClassId) (st : Nat → Int32) (lg : Nat → Int64) (ai : Nat → Nat → Int32) (al : Nat → Nat → Int64) (R : va_W) (cap : Nat) (num : Nat → Int32) (oa : Nat) (ko : ClassId) (fo : Nat → Int64) (p1 : Int32) (sz tz : Nat) (hI : cI c kc st ai R cap num)  : Met l yL_sent wsL_sent ({ frames := 8, cells := 2, slots := 12, locals := 141 }) (va_Pc [.ref (c 100), .int p1, .ref oa] (fun U => U.heap.size = sz ∧ tot U.heap = tz ∧ va_P (dC, dI) vwCl (cw_W c kc st lg ai al R ++ [outC oa ko fo]) U.heap ∧ va_K (dC, dI) vwCl (cw_T kc) U ∧ va_K (dC, dI) vwCl [(ko, .long)] U ∧ va_D (fun _ => True) (cw_W c kc st lg ai al R ++ [outC oa ko fo]) ∧ gy_E cap (c 99) (va_A (cw_W c kc st lg ai al R ++ [outC oa ko fo]) sz) U)) (va_Qi (fun r (u : Int32) => r = u) (fun u t => hQ (dC, dI) c kc (st 13) cap sz tz oa ko (va_A (cw_W c kc st lg ai al R ++ [outC oa ko fo]) sz) t) (va_A (cw_W c kc st lg ai al R ++ [outC oa ko fo]) sz)) 2 12 (va_A (cw_W c kc st lg ai al R ++ [outC oa ko fo]) sz) := by
  refine va_MetW (cc := cL_sent) (maxL := 4) (ret := (some .int)) (hh := [(0, 16, 19, 19), (0, 16, 22, 25)]) (by decide) rfl ?_
  intro p e s m args below meth cM s₁ B hml hv
  obtain ⟨rfl, hsz, htz, hPZ, hK, hKo, hD0, hY⟩ := hv
  have hx := B.exec
  have hb := B.bytes
  have hr := B.returns
  have hts := atoms_spec (ws := wsL_sent) B.pre
  have hown : s.vm.findClass RL = some m.cls := findClass_of_methodNamed B.named
  have hlocks := B.notSynchronized
  have htab := vx_table (x := yL_sent) B (hts (.codeWith yL_sent cL_sent 4 (some .int) [(0, 16, 19, 19), (0, 16, 22, 25)]) List.mem_cons_self)
  obtain ⟨⟨hf3a, hf3b⟩, ⟨hf5a, hf5b⟩, ⟨hf6a, hf6b⟩, ⟨hf9a, hf9b⟩, ⟨hf13a, hf13b⟩, ⟨hf15a, hf15b⟩, ⟨hf17a, hf17b⟩, ⟨hf25a, hf25b⟩, ⟨hf26a, hf26b⟩, ⟨hf27a, hf27b⟩, ⟨hf28a, hf28b⟩, ⟨hf37a, hf37b⟩, hR4, hR7, hR23, hR32, hR33, hPI, hN⟩ := hI
  subst hsz
  subst htz
  have hDZ := hD0.self (sz := s.heap.size)
  generalize hAe : va_A (cw_W c kc st lg ai al R ++ [outC oa ko fo]) s.heap.size = A at hDZ hY ⊢
  have hA : ∀ q : Nat, s.heap.size ≤ q → A q := fun q h => by rw [← hAe]; exact Or.inr h
  have hS : va_S A s.heap s.heap [] := va_S.rf
  clear hAe hD0
  have hD := vD_l hDZ
  have hDO := vD_r hDZ
  have hdis := vD_dj hDZ
  have hP := vP_l hPZ
  have hO := vP_r hPZ
  clear hDZ hPZ
  have hG := hY.1
  have hGW := hG.1
  have hl := lv_entry ([.ref (c 100), .int p1, .ref oa]) (n := 4) (Nat.le_of_ble_eq_true rfl)
  rw [lg_entry_eq]
  generalize (lg_sl ([.ref (c 100), .int p1, .ref oa]) ++ List.replicate (4 - (lg_sl ([.ref (c 100), .int p1, .ref oa])).length) Slot.unset).toArray = ls at hl ⊢
  have hl : lv_has ls 4 [(0, .ref (c 100)), (1, .int p1), (2, .ref oa)] := hl
  have z_0 : (0 : Int32).toInt = 0 := by decide
  have z_1 : (1 : Int32).toInt = 1 := by decide
  have z_2 : (2 : Int32).toInt = 2 := by decide
  have hP : va_P (dC, dI) vwCl (cw_W (rU c 99 (c 99)) kc st lg ai al R) s.heap := by rw [rU_self]; exact hP
  have hD : va_D A (cw_W (rU c 99 (c 99)) kc st lg ai al R) := by rw [rU_self]; exact hD
  have hdis : dj (cw_W (rU c 99 (c 99)) kc st lg ai al R) [outC oa ko fo] := by rw [rU_self]; exact hdis
  have hc0 : cap = 0 → cap = 0 ∧ c 99 = c 99 := fun h => ⟨h, rfl⟩
  have hcp : cap ≤ cap := Nat.le_refl _
  have hN1 : ((cap : Nat) : Int) ≤ 10 + 2 * (st 13).toInt := hN.1
  have hmono : ∀ y m, pgM (kc 0) R y m → pgM (kc 0) R y m := fun y m h => h
  refine lv_aload_n hx hb dL_sent_0 rfl (lv_at hl 2 rfl) ?_
  refine lv_iconst (v := 0) hx hb dL_sent_1 (by decide) ?_
  refine lv_aload_n hx hb dL_sent_2 rfl (lv_at hl 0 rfl) ?_
  refine lv_iload_n hx hb dL_sent_3 rfl (lv_at hl 1 rfl) ?_
  have hFc := vfree ((cw_D hD : va_D A (cw_W (rU c 99 (c 99)) kc st lg ai al R)) : va_D A (cw_W (rU c 99 (c 99)) kc st lg ai al R)) hS hA
  refine vx_calli (vx_runV (As := [.int p1]) (rest := [.int (0 : Int32), .ref oa]) ⟨hx, hb, hml, hown, hts⟩ (v_X8_sent l hl0 dC dI (rU c 99 (c 99)) kc st lg ai al R p1 _ (show 0 ≤ (st 9).toInt by omega) (show (st 9).toInt ≤ 1 by omega) (show 0 ≤ (st 15).toInt by omega) (show (st 15).toInt ≤ 1 by omega) (show 0 ≤ (st 17).toInt by omega) (show (st 17).toInt ≤ 128 by omega) (show aR (ai 7) 8224 (-128) 127 from hR7)) (cwV 1 hts gL_sent_X8_sent rfl rfl rfl (by decide +kernel) ⟨Nat.le_of_ble_eq_true rfl, Nat.le_of_ble_eq_true rfl⟩) ⟨fun a U g mk q => by obtain ⟨q0, q1, qP, qK, qD, qG⟩ := q; exact ⟨q0, q1, qP, va_K.moved (u := U) (U := U.calling g mk a) (Vm.Alike.refl U.vm) qK, qD, qG.same rfl rfl⟩, va_recv hK hP (ci := 10) (q := (RX8, TX8, 10)) rfl (q0 := 0) rfl, fun U hU hW => ⟨rfl, by rw [hU], by rw [hU]; exact hP, va_K.moved hW.alike hK, ((cw_D hD : va_D A (cw_W (rU c 99 (c 99)) kc st lg ai al R))).weaken (fun _ _ _ _ => trivial), hG.go hW hU hS hFc⟩⟩ rfl rfl hl.1 rfl (lv_room (Nat.le_of_ble_eq_true rfl)) dL_sent_4 ⟨by show 0 + 2 ≤ 2; omega, by show 0 + 12 ≤ 12; omega⟩) hS (fun q _ h => hFc q h) hFc (fun q _ h => hFc q h) (fun E9 ce q9 u t H1 locs ht hvm hp hE hz hk hS hcell hv hcl => ?_) (fun r_1 ur_1 t H1 locs ht hvm er_1 hB hz1 hk1 hS => ?_)
  · skip
    obtain ⟨hE, f8_1, hP1⟩ := hE
    rw [ht] at hP1
    have hO1 := dj_keep hO hdis hk
    have hdis1 := hdis
    clear hO hdis
    have hP : va_P (dC, dI) vwCl (cw_W (rU c 99 (c 99)) kc st lg (rU ai 8 f8_1) al R) H1 := hP1
    have hO := hO1
    have hdis := hdis1
    clear hO1 hdis1
    refine vxW_read (fun hu1 hu2 => ?_)
    simp only [List.mem_cons, List.not_mem_nil, or_false] at hE
    rcases hE with rfl | rfl
    · skip
      refine vx_catch (name := "java/lang/IllegalStateException") hown [⟨0, 16, 19, 19⟩] ⟨0, 16, 22, 25⟩ [] htab (fun z h => by simp only [List.mem_cons, List.not_mem_nil, or_false] at h; rcases h with rfl <;> first | exact Or.inr ⟨by decide, "java/lang/IndexOutOfBoundsException", va_Nw.use rfl (hG.1.2.2.2.2.2.2 (19, "java/lang/IndexOutOfBoundsException") (by decide +kernel)), hG.1.2.2.2.1 _ (by decide) _ (by decide) (by decide)⟩) (by decide) (by decide) (va_Nw.use rfl (hG.1.2.2.2.2.2.2 (25, "java/lang/IllegalStateException") (by decide +kernel))) (va_Nw.use rfl (hG.1.2.2.1 _ (by decide))) hcell hv hcl ?_
      refine W.eq (g2 := F0 m 22 ls [.ref q9]) rfl ?_
      clear hcell hv hcl
      clear ht hp hz hk hvm
      generalize H1 = H at hP hS hO ⊢
      refine lv_astore_n (lv' := [(3, .ref q9), (0, .ref (c 100)), (1, .int p1), (2, .ref oa)]) hx hb dL_sent_22 rfl hl (by decide) rfl (fun ls hl => ?_)
      refine lv_iconst (v := 2) hx hb dL_sent_23 (by decide) ?_
      refine W_read (fun hu1 hu2 => ?_)
      refine W.widen (k := 2) (n := 12) (by omega) (by omega) ?_
      exact W.iret hx hb hr (fun t ht hW => ⟨⟨_, _, rfl, rfl, c 99, st, lg, (rU ai 8 f8_1), al, R, cap, num, fo, ⟨(show 0 ≤ (st 3).toInt ∧ (st 3).toInt ≤ 8 from ⟨by omega, by omega⟩), (show 0 ≤ (st 5).toInt ∧ (st 5).toInt ≤ 400 from ⟨by omega, by omega⟩), (show 1 ≤ (st 6).toInt ∧ (st 6).toInt ≤ 65536 from ⟨by omega, by omega⟩), (show 0 ≤ (st 9).toInt ∧ (st 9).toInt ≤ 1 from ⟨by omega, by omega⟩), (show 0 ≤ (st 13).toInt ∧ (st 13).toInt ≤ 65536 from ⟨by omega, by omega⟩), (show 0 ≤ (st 15).toInt ∧ (st 15).toInt ≤ 1 from ⟨by omega, by omega⟩), (show 0 ≤ (st 17).toInt ∧ (st 17).toInt ≤ 128 from ⟨by omega, by omega⟩), (show 0 ≤ (st 25).toInt ∧ (st 25).toInt ≤ 128 from ⟨by omega, by omega⟩), (show 0 ≤ (st 26).toInt ∧ (st 26).toInt ≤ 128 from ⟨by omega, by omega⟩), (show -1 ≤ (st 27).toInt ∧ (st 27).toInt ≤ 127 from ⟨by omega, by omega⟩), (show 0 ≤ (st 28).toInt ∧ (st 28).toInt ≤ 1 from ⟨by omega, by omega⟩), (show 0 ≤ (st 37).toInt ∧ (st 37).toInt ≤ 255 from ⟨by omega, by omega⟩), (show aR (ai 4) 400 (-128) 127 from hR4), (show aR (ai 7) 8224 (-128) 127 from hR7), (show aR (ai 23) 128 (0) 127 from hR23), (show aR (ai 32) 16 (0) 400 from hR32), (show aR (ai 33) 16 (0) 255 from hR33), hPI, hN⟩, hc0, hcp, (show (st 13).toInt ≤ (st 13).toInt by omega), (show (st 13).toInt ≤ (st 13).toInt + 16 by omega), (show ((t.heap.size : Nat) : Int) ≤ ((s.heap.size : Nat) : Int) + 3 + 3 * ((st 13).toInt - (st 13).toInt) by rw [ht]; omega), (show ((tot t.heap : Nat) : Int) ≤ ((tot s.heap : Nat) : Int) + 18 + 29 * ((st 13).toInt - (st 13).toInt) + 4 * (((cap : Nat) : Int) - ((cap : Nat) : Int)) by rw [ht]; omega), by rw [ht]; exact hP.app hO, va_D.app (cw_D hD) hDO (cw_dj hdis)⟩, hS.F ht⟩) hS.2.2 dL_sent_24
    · skip
      refine vx_catch (name := "java/lang/IndexOutOfBoundsException") hown [] ⟨0, 16, 19, 19⟩ [⟨0, 16, 22, 25⟩] htab (fun z h => by cases h) (by decide) (by decide) (va_Nw.use rfl (hG.1.2.2.2.2.2.2 (19, "java/lang/IndexOutOfBoundsException") (by decide +kernel))) (va_Nw.use rfl (hG.1.2.2.1 _ (by decide))) hcell hv hcl ?_
      refine W.eq (g2 := F0 m 19 ls [.ref q9]) rfl ?_
      clear hcell hv hcl
      clear ht hp hz hk hvm
      generalize H1 = H at hP hS hO ⊢
      refine lv_astore_n (lv' := [(3, .ref q9), (0, .ref (c 100)), (1, .int p1), (2, .ref oa)]) hx hb dL_sent_19 rfl hl (by decide) rfl (fun ls hl => ?_)
      refine lv_iconst (v := 1) hx hb dL_sent_20 (by decide) ?_
      refine W_read (fun hu1 hu2 => ?_)
      refine W.widen (k := 2) (n := 12) (by omega) (by omega) ?_
      exact W.iret hx hb hr (fun t ht hW => ⟨⟨_, _, rfl, rfl, c 99, st, lg, (rU ai 8 f8_1), al, R, cap, num, fo, ⟨(show 0 ≤ (st 3).toInt ∧ (st 3).toInt ≤ 8 from ⟨by omega, by omega⟩), (show 0 ≤ (st 5).toInt ∧ (st 5).toInt ≤ 400 from ⟨by omega, by omega⟩), (show 1 ≤ (st 6).toInt ∧ (st 6).toInt ≤ 65536 from ⟨by omega, by omega⟩), (show 0 ≤ (st 9).toInt ∧ (st 9).toInt ≤ 1 from ⟨by omega, by omega⟩), (show 0 ≤ (st 13).toInt ∧ (st 13).toInt ≤ 65536 from ⟨by omega, by omega⟩), (show 0 ≤ (st 15).toInt ∧ (st 15).toInt ≤ 1 from ⟨by omega, by omega⟩), (show 0 ≤ (st 17).toInt ∧ (st 17).toInt ≤ 128 from ⟨by omega, by omega⟩), (show 0 ≤ (st 25).toInt ∧ (st 25).toInt ≤ 128 from ⟨by omega, by omega⟩), (show 0 ≤ (st 26).toInt ∧ (st 26).toInt ≤ 128 from ⟨by omega, by omega⟩), (show -1 ≤ (st 27).toInt ∧ (st 27).toInt ≤ 127 from ⟨by omega, by omega⟩), (show 0 ≤ (st 28).toInt ∧ (st 28).toInt ≤ 1 from ⟨by omega, by omega⟩), (show 0 ≤ (st 37).toInt ∧ (st 37).toInt ≤ 255 from ⟨by omega, by omega⟩), (show aR (ai 4) 400 (-128) 127 from hR4), (show aR (ai 7) 8224 (-128) 127 from hR7), (show aR (ai 23) 128 (0) 127 from hR23), (show aR (ai 32) 16 (0) 400 from hR32), (show aR (ai 33) 16 (0) 255 from hR33), hPI, hN⟩, hc0, hcp, (show (st 13).toInt ≤ (st 13).toInt by omega), (show (st 13).toInt ≤ (st 13).toInt + 16 by omega), (show ((t.heap.size : Nat) : Int) ≤ ((s.heap.size : Nat) : Int) + 3 + 3 * ((st 13).toInt - (st 13).toInt) by rw [ht]; omega), (show ((tot t.heap : Nat) : Int) ≤ ((tot s.heap : Nat) : Int) + 18 + 29 * ((st 13).toInt - (st 13).toInt) + 4 * (((cap : Nat) : Int) - ((cap : Nat) : Int)) by rw [ht]; omega), by rw [ht]; exact hP.app hO, va_D.app (cw_D hD) hDO (cw_dj hdis)⟩, hS.F ht⟩) hS.2.2 dL_sent_21
  · skip
    subst er_1
    obtain ⟨f8_1, k_2, k_3, hP1⟩ := hB
    rw [ht] at hP1
    have hO1 := dj_keep hO hdis hk1
    have hdis1 := hdis
    clear hO hdis
    clear hFc hz1 hk1 hvm hP
    subst ht
    have hP := hP1
    clear hP1
    generalize t.heap = H at hP hS hO1 ⊢
    have hP : va_P (dC, dI) vwCl (cw_W (rU c 99 (c 99)) kc st lg (rU ai 8 f8_1) al R) H := hP
    have hO := hO1
    have hdis := hdis1
    clear hO1 hdis1
    rcases iv_01 (a := r_1) (by omega) (by omega) with b_4 | b_4
    · skip
      have ib_4 := iv_eq b_4
      rw [b_4]
      refine lv_if_eq (tgt := 14) hx hb dL_sent_7 (by decide) (fun c_5 => ?_) (fun c_5 => ?_)
      · skip
        have ic_5 := iv_eq c_5
        refine lv_lconst (v := 0) hx hb dL_sent_14 (by decide) ?_
        refine lw_last (v := (0 : Int64)) hx hb hKo hP hO (cw_D hD) hDO (cw_dj hdis) hS dL_sent_15 (fun H locs fo hP hO hS => ?_)
        have hDO : va_D A [outC oa ko fo] := out_D hDO
        have hdis : dj (cw_W (rU c 99 (c 99)) kc st lg (rU ai 8 f8_1) al R) [outC oa ko fo] := out_dj (cw_dj hdis)
        refine lv_goto (tgt := 25) hx hb dL_sent_16 (by decide) ?_
        refine lv_iconst (v := 0) hx hb dL_sent_25 (by decide) ?_
        refine W_read (fun hu1 hu2 => ?_)
        refine W.widen (k := 2) (n := 12) (by omega) (by omega) ?_
        exact W.iret hx hb hr (fun t ht hW => ⟨⟨_, _, rfl, rfl, c 99, st, lg, (rU ai 8 f8_1), al, R, cap, num, fo, ⟨(show 0 ≤ (st 3).toInt ∧ (st 3).toInt ≤ 8 from ⟨by omega, by omega⟩), (show 0 ≤ (st 5).toInt ∧ (st 5).toInt ≤ 400 from ⟨by omega, by omega⟩), (show 1 ≤ (st 6).toInt ∧ (st 6).toInt ≤ 65536 from ⟨by omega, by omega⟩), (show 0 ≤ (st 9).toInt ∧ (st 9).toInt ≤ 1 from ⟨by omega, by omega⟩), (show 0 ≤ (st 13).toInt ∧ (st 13).toInt ≤ 65536 from ⟨by omega, by omega⟩), (show 0 ≤ (st 15).toInt ∧ (st 15).toInt ≤ 1 from ⟨by omega, by omega⟩), (show 0 ≤ (st 17).toInt ∧ (st 17).toInt ≤ 128 from ⟨by omega, by omega⟩), (show 0 ≤ (st 25).toInt ∧ (st 25).toInt ≤ 128 from ⟨by omega, by omega⟩), (show 0 ≤ (st 26).toInt ∧ (st 26).toInt ≤ 128 from ⟨by omega, by omega⟩), (show -1 ≤ (st 27).toInt ∧ (st 27).toInt ≤ 127 from ⟨by omega, by omega⟩), (show 0 ≤ (st 28).toInt ∧ (st 28).toInt ≤ 1 from ⟨by omega, by omega⟩), (show 0 ≤ (st 37).toInt ∧ (st 37).toInt ≤ 255 from ⟨by omega, by omega⟩), (show aR (ai 4) 400 (-128) 127 from hR4), (show aR (ai 7) 8224 (-128) 127 from hR7), (show aR (ai 23) 128 (0) 127 from hR23), (show aR (ai 32) 16 (0) 400 from hR32), (show aR (ai 33) 16 (0) 255 from hR33), hPI, hN⟩, hc0, hcp, (show (st 13).toInt ≤ (st 13).toInt by omega), (show (st 13).toInt ≤ (st 13).toInt + 16 by omega), (show ((t.heap.size : Nat) : Int) ≤ ((s.heap.size : Nat) : Int) + 3 + 3 * ((st 13).toInt - (st 13).toInt) by rw [ht]; omega), (show ((tot t.heap : Nat) : Int) ≤ ((tot s.heap : Nat) : Int) + 18 + 29 * ((st 13).toInt - (st 13).toInt) + 4 * (((cap : Nat) : Int) - ((cap : Nat) : Int)) by rw [ht]; omega), by rw [ht]; exact hP.app hO, va_D.app (cw_D hD) hDO (cw_dj hdis)⟩, hS.F ht⟩) hS.2.2 dL_sent_26
      · skip
        have ic_5 := iv_ne c_5
        exfalso
        omega
    · skip
      have ib_4 := iv_eq b_4
      rw [b_4]
      refine lv_if_eq (tgt := 14) hx hb dL_sent_7 (by decide) (fun c_6 => ?_) (fun c_6 => ?_)
      · skip
        have ic_6 := iv_eq c_6
        exfalso
        omega
      · skip
        have ic_6 := iv_ne c_6
        refine lv_lconst (v := 1) hx hb dL_sent_10 (by decide) ?_
        refine lv_goto (tgt := 15) hx hb dL_sent_11 (by decide) ?_
        refine lw_last (v := (1 : Int64)) hx hb hKo hP hO (cw_D hD) hDO (cw_dj hdis) hS dL_sent_15 (fun H locs fo hP hO hS => ?_)
        have hDO : va_D A [outC oa ko fo] := out_D hDO
        have hdis : dj (cw_W (rU c 99 (c 99)) kc st lg (rU ai 8 f8_1) al R) [outC oa ko fo] := out_dj (cw_dj hdis)
        refine lv_goto (tgt := 25) hx hb dL_sent_16 (by decide) ?_
        refine lv_iconst (v := 0) hx hb dL_sent_25 (by decide) ?_
        refine W_read (fun hu1 hu2 => ?_)
        refine W.widen (k := 2) (n := 12) (by omega) (by omega) ?_
        exact W.iret hx hb hr (fun t ht hW => ⟨⟨_, _, rfl, rfl, c 99, st, lg, (rU ai 8 f8_1), al, R, cap, num, fo, ⟨(show 0 ≤ (st 3).toInt ∧ (st 3).toInt ≤ 8 from ⟨by omega, by omega⟩), (show 0 ≤ (st 5).toInt ∧ (st 5).toInt ≤ 400 from ⟨by omega, by omega⟩), (show 1 ≤ (st 6).toInt ∧ (st 6).toInt ≤ 65536 from ⟨by omega, by omega⟩), (show 0 ≤ (st 9).toInt ∧ (st 9).toInt ≤ 1 from ⟨by omega, by omega⟩), (show 0 ≤ (st 13).toInt ∧ (st 13).toInt ≤ 65536 from ⟨by omega, by omega⟩), (show 0 ≤ (st 15).toInt ∧ (st 15).toInt ≤ 1 from ⟨by omega, by omega⟩), (show 0 ≤ (st 17).toInt ∧ (st 17).toInt ≤ 128 from ⟨by omega, by omega⟩), (show 0 ≤ (st 25).toInt ∧ (st 25).toInt ≤ 128 from ⟨by omega, by omega⟩), (show 0 ≤ (st 26).toInt ∧ (st 26).toInt ≤ 128 from ⟨by omega, by omega⟩), (show -1 ≤ (st 27).toInt ∧ (st 27).toInt ≤ 127 from ⟨by omega, by omega⟩), (show 0 ≤ (st 28).toInt ∧ (st 28).toInt ≤ 1 from ⟨by omega, by omega⟩), (show 0 ≤ (st 37).toInt ∧ (st 37).toInt ≤ 255 from ⟨by omega, by omega⟩), (show aR (ai 4) 400 (-128) 127 from hR4), (show aR (ai 7) 8224 (-128) 127 from hR7), (show aR (ai 23) 128 (0) 127 from hR23), (show aR (ai 32) 16 (0) 400 from hR32), (show aR (ai 33) 16 (0) 255 from hR33), hPI, hN⟩, hc0, hcp, (show (st 13).toInt ≤ (st 13).toInt by omega), (show (st 13).toInt ≤ (st 13).toInt + 16 by omega), (show ((t.heap.size : Nat) : Int) ≤ ((s.heap.size : Nat) : Int) + 3 + 3 * ((st 13).toInt - (st 13).toInt) by rw [ht]; omega), (show ((tot t.heap : Nat) : Int) ≤ ((tot s.heap : Nat) : Int) + 18 + 29 * ((st 13).toInt - (st 13).toInt) + 4 * (((cap : Nat) : Int) - ((cap : Nat) : Int)) by rw [ht]; omega), by rw [ht]; exact hP.app hO, va_D.app (cw_D hD) hDO (cw_dj hdis)⟩, hS.F ht⟩) hS.2.2 dL_sent_26

set_option maxHeartbeats 4000000 in
set_option maxRecDepth 100000 in
theorem h_L_certify (l : Launch) (hl0 : l.stackTraces = false) (dC : Nat → ClassId) (dI : Nat → Nat → Nat) (c : Nat → Nat) (kc : Nat → ClassId) (st : Nat → Int32) (lg : Nat → Int64) (ai : Nat → Nat → Int32) (al : Nat → Nat → Int64) (R : va_W) (cap : Nat) (num : Nat → Int32) (oa : Nat) (ko : ClassId) (fo : Nat → Int64) (p1 : Int64) (p2 : Int32) (sz tz : Nat) (hI : cI c kc st ai R cap num)  : Met l yL_certify wsL_certify ({ frames := 8, cells := 2, slots := 12, locals := 175 }) (va_Pc [.ref (c 100), .long p1, .int p2, .ref oa] (fun U => U.heap.size = sz ∧ tot U.heap = tz ∧ va_P (dC, dI) vwCl (cw_W c kc st lg ai al R ++ [outC oa ko fo]) U.heap ∧ va_K (dC, dI) vwCl (cw_T kc) U ∧ va_K (dC, dI) vwCl [(ko, .long)] U ∧ va_D (fun _ => True) (cw_W c kc st lg ai al R ++ [outC oa ko fo]) ∧ gy_E cap (c 99) (va_A (cw_W c kc st lg ai al R ++ [outC oa ko fo]) sz) U)) (va_Qi (fun r (u : Int32) => r = u) (fun u t => hQ (dC, dI) c kc (st 13) cap sz tz oa ko (va_A (cw_W c kc st lg ai al R ++ [outC oa ko fo]) sz) t) (va_A (cw_W c kc st lg ai al R ++ [outC oa ko fo]) sz)) 2 12 (va_A (cw_W c kc st lg ai al R ++ [outC oa ko fo]) sz) := by
  refine va_MetW (cc := cL_certify) (maxL := 6) (ret := (some .int)) (hh := [(0, 11, 14, 25), (0, 11, 18, 13)]) (by decide) rfl ?_
  intro p e s m args below meth cM s₁ B hml hv
  obtain ⟨rfl, hsz, htz, hPZ, hK, hKo, hD0, hY⟩ := hv
  have hx := B.exec
  have hb := B.bytes
  have hr := B.returns
  have hts := atoms_spec (ws := wsL_certify) B.pre
  have hown : s.vm.findClass RL = some m.cls := findClass_of_methodNamed B.named
  have hlocks := B.notSynchronized
  have htab := vx_table (x := yL_certify) B (hts (.codeWith yL_certify cL_certify 6 (some .int) [(0, 11, 14, 25), (0, 11, 18, 13)]) List.mem_cons_self)
  obtain ⟨⟨hf3a, hf3b⟩, ⟨hf5a, hf5b⟩, ⟨hf6a, hf6b⟩, ⟨hf9a, hf9b⟩, ⟨hf13a, hf13b⟩, ⟨hf15a, hf15b⟩, ⟨hf17a, hf17b⟩, ⟨hf25a, hf25b⟩, ⟨hf26a, hf26b⟩, ⟨hf27a, hf27b⟩, ⟨hf28a, hf28b⟩, ⟨hf37a, hf37b⟩, hR4, hR7, hR23, hR32, hR33, hPI, hN⟩ := hI
  subst hsz
  subst htz
  have hDZ := hD0.self (sz := s.heap.size)
  generalize hAe : va_A (cw_W c kc st lg ai al R ++ [outC oa ko fo]) s.heap.size = A at hDZ hY ⊢
  have hA : ∀ q : Nat, s.heap.size ≤ q → A q := fun q h => by rw [← hAe]; exact Or.inr h
  have hS : va_S A s.heap s.heap [] := va_S.rf
  clear hAe hD0
  have hD := vD_l hDZ
  have hDO := vD_r hDZ
  have hdis := vD_dj hDZ
  have hP := vP_l hPZ
  have hO := vP_r hPZ
  clear hDZ hPZ
  have hG := hY.1
  have hGW := hG.1
  have hl := lv_entry ([.ref (c 100), .long p1, .int p2, .ref oa]) (n := 6) (Nat.le_of_ble_eq_true rfl)
  rw [lg_entry_eq]
  generalize (lg_sl ([.ref (c 100), .long p1, .int p2, .ref oa]) ++ List.replicate (6 - (lg_sl ([.ref (c 100), .long p1, .int p2, .ref oa])).length) Slot.unset).toArray = ls at hl ⊢
  have hl : lv_has ls 6 [(0, .ref (c 100)), (1, .long p1), (3, .int p2), (4, .ref oa)] := hl
  have z_0 : (0 : Int32).toInt = 0 := by decide
  have z_1 : (1 : Int32).toInt = 1 := by decide
  have z_2 : (2 : Int32).toInt = 2 := by decide
  have hP : va_P (dC, dI) vwCl (cw_W (rU c 99 (c 99)) kc st lg ai al R) s.heap := by rw [rU_self]; exact hP
  have hD : va_D A (cw_W (rU c 99 (c 99)) kc st lg ai al R) := by rw [rU_self]; exact hD
  have hdis : dj (cw_W (rU c 99 (c 99)) kc st lg ai al R) [outC oa ko fo] := by rw [rU_self]; exact hdis
  have hc0 : cap = 0 → cap = 0 ∧ c 99 = c 99 := fun h => ⟨h, rfl⟩
  have hcp : cap ≤ cap := Nat.le_refl _
  have hN1 : ((cap : Nat) : Int) ≤ 10 + 2 * (st 13).toInt := hN.1
  have hmono : ∀ y m, pgM (kc 0) R y m → pgM (kc 0) R y m := fun y m h => h
  refine lv_aload hx hb dL_certify_0 (lv_at hl 3 rfl) ?_
  refine lv_iconst (v := 0) hx hb dL_certify_2 (by decide) ?_
  refine lv_aload_n hx hb dL_certify_3 rfl (lv_at hl 0 rfl) ?_
  refine lv_lload_n hx hb dL_certify_4 rfl (lv_at hl 1 rfl) ?_
  refine lv_iload_n hx hb dL_certify_5 rfl (lv_at hl 2 rfl) ?_
  have hFc := vfree ((cw_D hD : va_D A (cw_W (rU c 99 (c 99)) kc st lg ai al R)) : va_D A (cw_W (rU c 99 (c 99)) kc st lg ai al R)) hS hA
  refine vx_calli (vx_runV (As := [.long p1, .int p2]) (rest := [.int (0 : Int32), .ref oa]) ⟨hx, hb, hml, hown, hts⟩ (v_X8_certify l hl0 dC dI (rU c 99 (c 99)) kc st lg ai al R p1 p2 _ (show 0 ≤ (st 9).toInt by omega) (show (st 9).toInt ≤ 1 by omega) (show 0 ≤ (st 15).toInt by omega) (show (st 15).toInt ≤ 1 by omega) (show 0 ≤ (st 17).toInt by omega) (show (st 17).toInt ≤ 128 by omega) (show 0 ≤ (st 25).toInt by omega) (show (st 25).toInt ≤ 128 by omega) (show 0 ≤ (st 26).toInt by omega) (show (st 26).toInt ≤ 128 by omega) (show -1 ≤ (st 27).toInt by omega) (show (st 27).toInt ≤ 127 by omega) (show 0 ≤ (st 28).toInt by omega) (show (st 28).toInt ≤ 1 by omega) (show aR (ai 7) 8224 (-128) 127 from hR7) (show aR (ai 23) 128 (0) 127 from hR23)) (cwV 2 hts gL_certify_X8_certify rfl rfl rfl (by decide +kernel) ⟨Nat.le_of_ble_eq_true rfl, Nat.le_of_ble_eq_true rfl⟩) ⟨fun a U g mk q => by obtain ⟨q0, q1, qP, qK, qD, qG⟩ := q; exact ⟨q0, q1, qP, va_K.moved (u := U) (U := U.calling g mk a) (Vm.Alike.refl U.vm) qK, qD, qG.same rfl rfl⟩, va_recv hK hP (ci := 10) (q := (RX8, TX8, 10)) rfl (q0 := 0) rfl, fun U hU hW => ⟨rfl, by rw [hU], by rw [hU]; exact hP, va_K.moved hW.alike hK, ((cw_D hD : va_D A (cw_W (rU c 99 (c 99)) kc st lg ai al R))).weaken (fun _ _ _ _ => trivial), hG.go hW hU hS hFc⟩⟩ rfl rfl hl.1 rfl (lv_room (Nat.le_of_ble_eq_true rfl)) dL_certify_6 ⟨by show 0 + 2 ≤ 2; omega, by show 0 + 12 ≤ 12; omega⟩) hS (fun q _ h => hFc q h) hFc (fun q _ h => hFc q h) (fun E9 ce q9 u t H1 locs ht hvm hp hE hz hk hS hcell hv hcl => ?_) (fun r_1 ur_1 t H1 locs ht hvm er_1 hB hz1 hk1 hS => ?_)
  · skip
    obtain ⟨hE, x9_1, x10_1, x11_1, x17_1, x25_1, x26_1, x27_1, x28_1, x29_1, f7_1, f8_1, f14_1, f20_1, f21_1, f22_1, f23_1, g19_1, k_2, k_3, k_4, k_5, k_6, k_7, k_8, k_9, k_10, k_11, k_12, k_13, hR7, hR23, hP1⟩ := hE
    rw [ht] at hP1
    have hO1 := dj_keep hO hdis hk
    have hdis1 := hdis
    clear hO hdis
    have hP : va_P (dC, dI) vwCl (cw_W (rU c 99 (c 99)) kc (rU (rU (rU (rU (rU (rU (rU (rU (rU st 9 x9_1) 10 x10_1) 11 x11_1) 17 x17_1) 25 x25_1) 26 x26_1) 27 x27_1) 28 x28_1) 29 x29_1) lg (rU (rU (rU (rU (rU (rU (rU ai 7 f7_1) 8 f8_1) 14 f14_1) 20 f20_1) 21 f21_1) 22 f22_1) 23 f23_1) (rU al 19 g19_1) R) H1 := hP1
    have hR7 : aR f7_1 8224 (-128) 127 := hR7
    have hR23 : aR f23_1 128 (0) 127 := hR23
    have hO := hO1
    have hdis := hdis1
    clear hO1 hdis1
    refine vxW_read (fun hu1 hu2 => ?_)
    simp only [List.mem_cons, List.not_mem_nil, or_false] at hE
    rcases hE with rfl | rfl
    · skip
      refine vx_catch (name := "java/lang/IllegalArgumentException") hown [⟨0, 11, 14, 25⟩] ⟨0, 11, 18, 13⟩ [] htab (fun z h => by simp only [List.mem_cons, List.not_mem_nil, or_false] at h; rcases h with rfl <;> first | exact Or.inr ⟨by decide, "java/lang/IllegalStateException", va_Nw.use rfl (hG.1.2.2.2.2.2.2 (25, "java/lang/IllegalStateException") (by decide +kernel)), hG.1.2.2.2.1 _ (by decide) _ (by decide) (by decide)⟩) (by decide) (by decide) (va_Nw.use rfl (hG.1.2.2.2.2.2.2 (13, "java/lang/IllegalArgumentException") (by decide +kernel))) (va_Nw.use rfl (hG.1.2.2.1 _ (by decide))) hcell hv hcl ?_
      refine W.eq (g2 := F0 m 18 ls [.ref q9]) rfl ?_
      clear hcell hv hcl
      clear ht hp hz hk hvm
      generalize H1 = H at hP hS hO ⊢
      refine lv_astore (lv' := [(5, .ref q9), (0, .ref (c 100)), (1, .long p1), (3, .int p2), (4, .ref oa)]) hx hb dL_certify_18 hl (by decide) rfl (fun ls hl => ?_)
      refine lv_iconst (v := 2) hx hb dL_certify_20 (by decide) ?_
      refine W_read (fun hu1 hu2 => ?_)
      refine W.widen (k := 2) (n := 12) (by omega) (by omega) ?_
      exact W.iret hx hb hr (fun t ht hW => ⟨⟨_, _, rfl, rfl, c 99, (rU (rU (rU (rU (rU (rU (rU (rU (rU st 9 x9_1) 10 x10_1) 11 x11_1) 17 x17_1) 25 x25_1) 26 x26_1) 27 x27_1) 28 x28_1) 29 x29_1), lg, (rU (rU (rU (rU (rU (rU (rU ai 7 f7_1) 8 f8_1) 14 f14_1) 20 f20_1) 21 f21_1) 22 f22_1) 23 f23_1), (rU al 19 g19_1), R, cap, num, fo, ⟨(show 0 ≤ (st 3).toInt ∧ (st 3).toInt ≤ 8 from ⟨by omega, by omega⟩), (show 0 ≤ (st 5).toInt ∧ (st 5).toInt ≤ 400 from ⟨by omega, by omega⟩), (show 1 ≤ (st 6).toInt ∧ (st 6).toInt ≤ 65536 from ⟨by omega, by omega⟩), (show 0 ≤ x9_1.toInt ∧ x9_1.toInt ≤ 1 from ⟨by omega, by omega⟩), (show 0 ≤ (st 13).toInt ∧ (st 13).toInt ≤ 65536 from ⟨by omega, by omega⟩), (show 0 ≤ (st 15).toInt ∧ (st 15).toInt ≤ 1 from ⟨by omega, by omega⟩), (show 0 ≤ x17_1.toInt ∧ x17_1.toInt ≤ 128 from ⟨by omega, by omega⟩), (show 0 ≤ x25_1.toInt ∧ x25_1.toInt ≤ 128 from ⟨by omega, by omega⟩), (show 0 ≤ x26_1.toInt ∧ x26_1.toInt ≤ 128 from ⟨by omega, by omega⟩), (show -1 ≤ x27_1.toInt ∧ x27_1.toInt ≤ 127 from ⟨by omega, by omega⟩), (show 0 ≤ x28_1.toInt ∧ x28_1.toInt ≤ 1 from ⟨by omega, by omega⟩), (show 0 ≤ (st 37).toInt ∧ (st 37).toInt ≤ 255 from ⟨by omega, by omega⟩), (show aR (ai 4) 400 (-128) 127 from hR4), (show aR f7_1 8224 (-128) 127 from hR7), (show aR f23_1 128 (0) 127 from hR23), (show aR (ai 32) 16 (0) 400 from hR32), (show aR (ai 33) 16 (0) 255 from hR33), hPI, hN⟩, hc0, hcp, (show (st 13).toInt ≤ (st 13).toInt by omega), (show (st 13).toInt ≤ (st 13).toInt + 16 by omega), (show ((t.heap.size : Nat) : Int) ≤ ((s.heap.size : Nat) : Int) + 3 + 3 * ((st 13).toInt - (st 13).toInt) by rw [ht]; omega), (show ((tot t.heap : Nat) : Int) ≤ ((tot s.heap : Nat) : Int) + 18 + 29 * ((st 13).toInt - (st 13).toInt) + 4 * (((cap : Nat) : Int) - ((cap : Nat) : Int)) by rw [ht]; omega), by rw [ht]; exact hP.app hO, va_D.app (cw_D hD) hDO (cw_dj hdis)⟩, hS.F ht⟩) hS.2.2 dL_certify_21
    · skip
      refine vx_catch (name := "java/lang/IllegalStateException") hown [] ⟨0, 11, 14, 25⟩ [⟨0, 11, 18, 13⟩] htab (fun z h => by cases h) (by decide) (by decide) (va_Nw.use rfl (hG.1.2.2.2.2.2.2 (25, "java/lang/IllegalStateException") (by decide +kernel))) (va_Nw.use rfl (hG.1.2.2.1 _ (by decide))) hcell hv hcl ?_
      refine W.eq (g2 := F0 m 14 ls [.ref q9]) rfl ?_
      clear hcell hv hcl
      clear ht hp hz hk hvm
      generalize H1 = H at hP hS hO ⊢
      refine lv_astore (lv' := [(5, .ref q9), (0, .ref (c 100)), (1, .long p1), (3, .int p2), (4, .ref oa)]) hx hb dL_certify_14 hl (by decide) rfl (fun ls hl => ?_)
      refine lv_iconst (v := 1) hx hb dL_certify_16 (by decide) ?_
      refine W_read (fun hu1 hu2 => ?_)
      refine W.widen (k := 2) (n := 12) (by omega) (by omega) ?_
      exact W.iret hx hb hr (fun t ht hW => ⟨⟨_, _, rfl, rfl, c 99, (rU (rU (rU (rU (rU (rU (rU (rU (rU st 9 x9_1) 10 x10_1) 11 x11_1) 17 x17_1) 25 x25_1) 26 x26_1) 27 x27_1) 28 x28_1) 29 x29_1), lg, (rU (rU (rU (rU (rU (rU (rU ai 7 f7_1) 8 f8_1) 14 f14_1) 20 f20_1) 21 f21_1) 22 f22_1) 23 f23_1), (rU al 19 g19_1), R, cap, num, fo, ⟨(show 0 ≤ (st 3).toInt ∧ (st 3).toInt ≤ 8 from ⟨by omega, by omega⟩), (show 0 ≤ (st 5).toInt ∧ (st 5).toInt ≤ 400 from ⟨by omega, by omega⟩), (show 1 ≤ (st 6).toInt ∧ (st 6).toInt ≤ 65536 from ⟨by omega, by omega⟩), (show 0 ≤ x9_1.toInt ∧ x9_1.toInt ≤ 1 from ⟨by omega, by omega⟩), (show 0 ≤ (st 13).toInt ∧ (st 13).toInt ≤ 65536 from ⟨by omega, by omega⟩), (show 0 ≤ (st 15).toInt ∧ (st 15).toInt ≤ 1 from ⟨by omega, by omega⟩), (show 0 ≤ x17_1.toInt ∧ x17_1.toInt ≤ 128 from ⟨by omega, by omega⟩), (show 0 ≤ x25_1.toInt ∧ x25_1.toInt ≤ 128 from ⟨by omega, by omega⟩), (show 0 ≤ x26_1.toInt ∧ x26_1.toInt ≤ 128 from ⟨by omega, by omega⟩), (show -1 ≤ x27_1.toInt ∧ x27_1.toInt ≤ 127 from ⟨by omega, by omega⟩), (show 0 ≤ x28_1.toInt ∧ x28_1.toInt ≤ 1 from ⟨by omega, by omega⟩), (show 0 ≤ (st 37).toInt ∧ (st 37).toInt ≤ 255 from ⟨by omega, by omega⟩), (show aR (ai 4) 400 (-128) 127 from hR4), (show aR f7_1 8224 (-128) 127 from hR7), (show aR f23_1 128 (0) 127 from hR23), (show aR (ai 32) 16 (0) 400 from hR32), (show aR (ai 33) 16 (0) 255 from hR33), hPI, hN⟩, hc0, hcp, (show (st 13).toInt ≤ (st 13).toInt by omega), (show (st 13).toInt ≤ (st 13).toInt + 16 by omega), (show ((t.heap.size : Nat) : Int) ≤ ((s.heap.size : Nat) : Int) + 3 + 3 * ((st 13).toInt - (st 13).toInt) by rw [ht]; omega), (show ((tot t.heap : Nat) : Int) ≤ ((tot s.heap : Nat) : Int) + 18 + 29 * ((st 13).toInt - (st 13).toInt) + 4 * (((cap : Nat) : Int) - ((cap : Nat) : Int)) by rw [ht]; omega), by rw [ht]; exact hP.app hO, va_D.app (cw_D hD) hDO (cw_dj hdis)⟩, hS.F ht⟩) hS.2.2 dL_certify_17
  · skip
    subst er_1
    obtain ⟨x9_1, x10_1, x11_1, x17_1, x25_1, x26_1, x27_1, x28_1, x29_1, f7_1, f8_1, f14_1, f20_1, f21_1, f22_1, f23_1, g19_1, k_14, k_15, k_16, k_17, k_18, k_19, k_20, k_21, k_22, k_23, k_24, k_25, hR7, hR23, hP1⟩ := hB
    rw [ht] at hP1
    have hO1 := dj_keep hO hdis hk1
    have hdis1 := hdis
    clear hO hdis
    clear hFc hz1 hk1 hvm hP
    subst ht
    have hP := hP1
    clear hP1
    generalize t.heap = H at hP hS hO1 ⊢
    have hP : va_P (dC, dI) vwCl (cw_W (rU c 99 (c 99)) kc (rU (rU (rU (rU (rU (rU (rU (rU (rU st 9 x9_1) 10 x10_1) 11 x11_1) 17 x17_1) 25 x25_1) 26 x26_1) 27 x27_1) 28 x28_1) 29 x29_1) lg (rU (rU (rU (rU (rU (rU (rU ai 7 f7_1) 8 f8_1) 14 f14_1) 20 f20_1) 21 f21_1) 22 f22_1) 23 f23_1) (rU al 19 g19_1) R) H := hP
    have hO := hO1
    have hdis := hdis1
    clear hO1 hdis1
    have k_14 : 0 ≤ x9_1.toInt := k_14
    have k_15 : x9_1.toInt ≤ 1 := k_15
    have k_16 : 0 ≤ x17_1.toInt := k_16
    have k_17 : x17_1.toInt ≤ 128 := k_17
    have k_18 : 0 ≤ x25_1.toInt := k_18
    have k_19 : x25_1.toInt ≤ 128 := k_19
    have k_20 : 0 ≤ x26_1.toInt := k_20
    have k_21 : x26_1.toInt ≤ 128 := k_21
    have k_22 : -1 ≤ x27_1.toInt := k_22
    have k_23 : x27_1.toInt ≤ 127 := k_23
    have k_24 : 0 ≤ x28_1.toInt := k_24
    have k_25 : x28_1.toInt ≤ 1 := k_25
    have hR7 : aR f7_1 8224 (-128) 127 := hR7
    have hR23 : aR f23_1 128 (0) 127 := hR23
    refine lv_i2l hx hb dL_certify_9 rfl ?_
    refine lv_topl (fun w_26 ew_26 => ?_)
    clear ew_26
    refine lw_last (v := w_26) hx hb hKo hP hO (cw_D hD) hDO (cw_dj hdis) hS dL_certify_10 (fun H locs fo hP hO hS => ?_)
    have hDO : va_D A [outC oa ko fo] := out_D hDO
    have hdis : dj (cw_W (rU c 99 (c 99)) kc (rU (rU (rU (rU (rU (rU (rU (rU (rU st 9 x9_1) 10 x10_1) 11 x11_1) 17 x17_1) 25 x25_1) 26 x26_1) 27 x27_1) 28 x28_1) 29 x29_1) lg (rU (rU (rU (rU (rU (rU (rU ai 7 f7_1) 8 f8_1) 14 f14_1) 20 f20_1) 21 f21_1) 22 f22_1) 23 f23_1) (rU al 19 g19_1) R) [outC oa ko fo] := out_dj (cw_dj hdis)
    refine lv_goto (tgt := 22) hx hb dL_certify_11 (by decide) ?_
    refine lv_iconst (v := 0) hx hb dL_certify_22 (by decide) ?_
    refine W_read (fun hu1 hu2 => ?_)
    refine W.widen (k := 2) (n := 12) (by omega) (by omega) ?_
    exact W.iret hx hb hr (fun t ht hW => ⟨⟨_, _, rfl, rfl, c 99, (rU (rU (rU (rU (rU (rU (rU (rU (rU st 9 x9_1) 10 x10_1) 11 x11_1) 17 x17_1) 25 x25_1) 26 x26_1) 27 x27_1) 28 x28_1) 29 x29_1), lg, (rU (rU (rU (rU (rU (rU (rU ai 7 f7_1) 8 f8_1) 14 f14_1) 20 f20_1) 21 f21_1) 22 f22_1) 23 f23_1), (rU al 19 g19_1), R, cap, num, fo, ⟨(show 0 ≤ (st 3).toInt ∧ (st 3).toInt ≤ 8 from ⟨by omega, by omega⟩), (show 0 ≤ (st 5).toInt ∧ (st 5).toInt ≤ 400 from ⟨by omega, by omega⟩), (show 1 ≤ (st 6).toInt ∧ (st 6).toInt ≤ 65536 from ⟨by omega, by omega⟩), (show 0 ≤ x9_1.toInt ∧ x9_1.toInt ≤ 1 from ⟨by omega, by omega⟩), (show 0 ≤ (st 13).toInt ∧ (st 13).toInt ≤ 65536 from ⟨by omega, by omega⟩), (show 0 ≤ (st 15).toInt ∧ (st 15).toInt ≤ 1 from ⟨by omega, by omega⟩), (show 0 ≤ x17_1.toInt ∧ x17_1.toInt ≤ 128 from ⟨by omega, by omega⟩), (show 0 ≤ x25_1.toInt ∧ x25_1.toInt ≤ 128 from ⟨by omega, by omega⟩), (show 0 ≤ x26_1.toInt ∧ x26_1.toInt ≤ 128 from ⟨by omega, by omega⟩), (show -1 ≤ x27_1.toInt ∧ x27_1.toInt ≤ 127 from ⟨by omega, by omega⟩), (show 0 ≤ x28_1.toInt ∧ x28_1.toInt ≤ 1 from ⟨by omega, by omega⟩), (show 0 ≤ (st 37).toInt ∧ (st 37).toInt ≤ 255 from ⟨by omega, by omega⟩), (show aR (ai 4) 400 (-128) 127 from hR4), (show aR f7_1 8224 (-128) 127 from hR7), (show aR f23_1 128 (0) 127 from hR23), (show aR (ai 32) 16 (0) 400 from hR32), (show aR (ai 33) 16 (0) 255 from hR33), hPI, hN⟩, hc0, hcp, (show (st 13).toInt ≤ (st 13).toInt by omega), (show (st 13).toInt ≤ (st 13).toInt + 16 by omega), (show ((t.heap.size : Nat) : Int) ≤ ((s.heap.size : Nat) : Int) + 3 + 3 * ((st 13).toInt - (st 13).toInt) by rw [ht]; omega), (show ((tot t.heap : Nat) : Int) ≤ ((tot s.heap : Nat) : Int) + 18 + 29 * ((st 13).toInt - (st 13).toInt) + 4 * (((cap : Nat) : Int) - ((cap : Nat) : Int)) by rw [ht]; omega), by rw [ht]; exact hP.app hO, va_D.app (cw_D hD) hDO (cw_dj hdis)⟩, hS.F ht⟩) hS.2.2 dL_certify_23

set_option maxHeartbeats 4000000 in
set_option maxRecDepth 100000 in
theorem h_L_version (l : Launch) (hl0 : l.stackTraces = false) (dC : Nat → ClassId) (dI : Nat → Nat → Nat) (c : Nat → Nat) (kc : Nat → ClassId) (st : Nat → Int32) (lg : Nat → Int64) (ai : Nat → Nat → Int32) (al : Nat → Nat → Int64) (R : va_W) (cap : Nat) (num : Nat → Int32) (oa : Nat) (ko : ClassId) (fo : Nat → Int64) (p1 : Int32) (sz tz : Nat) (hI : cI c kc st ai R cap num)  : Met l yL_version wsL_version ({ frames := 8, cells := 2, slots := 12, locals := 131 }) (va_Pc [.ref (c 100), .int p1, .ref oa] (fun U => U.heap.size = sz ∧ tot U.heap = tz ∧ va_P (dC, dI) vwCl (cw_W c kc st lg ai al R ++ [outC oa ko fo]) U.heap ∧ va_K (dC, dI) vwCl (cw_T kc) U ∧ va_K (dC, dI) vwCl [(ko, .long)] U ∧ va_D (fun _ => True) (cw_W c kc st lg ai al R ++ [outC oa ko fo]) ∧ gy_E cap (c 99) (va_A (cw_W c kc st lg ai al R ++ [outC oa ko fo]) sz) U)) (va_Qi (fun r (u : Int32) => r = u) (fun u t => hQ (dC, dI) c kc (st 13) cap sz tz oa ko (va_A (cw_W c kc st lg ai al R ++ [outC oa ko fo]) sz) t) (va_A (cw_W c kc st lg ai al R ++ [outC oa ko fo]) sz)) 2 12 (va_A (cw_W c kc st lg ai al R ++ [outC oa ko fo]) sz) := by
  refine va_MetW (cc := cL_version) (maxL := 4) (ret := (some .int)) (hh := [(0, 9, 12, 25), (0, 9, 15, 13)]) (by decide) rfl ?_
  intro p e s m args below meth cM s₁ B hml hv
  obtain ⟨rfl, hsz, htz, hPZ, hK, hKo, hD0, hY⟩ := hv
  have hx := B.exec
  have hb := B.bytes
  have hr := B.returns
  have hts := atoms_spec (ws := wsL_version) B.pre
  have hown : s.vm.findClass RL = some m.cls := findClass_of_methodNamed B.named
  have hlocks := B.notSynchronized
  have htab := vx_table (x := yL_version) B (hts (.codeWith yL_version cL_version 4 (some .int) [(0, 9, 12, 25), (0, 9, 15, 13)]) List.mem_cons_self)
  obtain ⟨⟨hf3a, hf3b⟩, ⟨hf5a, hf5b⟩, ⟨hf6a, hf6b⟩, ⟨hf9a, hf9b⟩, ⟨hf13a, hf13b⟩, ⟨hf15a, hf15b⟩, ⟨hf17a, hf17b⟩, ⟨hf25a, hf25b⟩, ⟨hf26a, hf26b⟩, ⟨hf27a, hf27b⟩, ⟨hf28a, hf28b⟩, ⟨hf37a, hf37b⟩, hR4, hR7, hR23, hR32, hR33, hPI, hN⟩ := hI
  subst hsz
  subst htz
  have hDZ := hD0.self (sz := s.heap.size)
  generalize hAe : va_A (cw_W c kc st lg ai al R ++ [outC oa ko fo]) s.heap.size = A at hDZ hY ⊢
  have hA : ∀ q : Nat, s.heap.size ≤ q → A q := fun q h => by rw [← hAe]; exact Or.inr h
  have hS : va_S A s.heap s.heap [] := va_S.rf
  clear hAe hD0
  have hD := vD_l hDZ
  have hDO := vD_r hDZ
  have hdis := vD_dj hDZ
  have hP := vP_l hPZ
  have hO := vP_r hPZ
  clear hDZ hPZ
  have hG := hY.1
  have hGW := hG.1
  have hl := lv_entry ([.ref (c 100), .int p1, .ref oa]) (n := 4) (Nat.le_of_ble_eq_true rfl)
  rw [lg_entry_eq]
  generalize (lg_sl ([.ref (c 100), .int p1, .ref oa]) ++ List.replicate (4 - (lg_sl ([.ref (c 100), .int p1, .ref oa])).length) Slot.unset).toArray = ls at hl ⊢
  have hl : lv_has ls 4 [(0, .ref (c 100)), (1, .int p1), (2, .ref oa)] := hl
  have z_0 : (0 : Int32).toInt = 0 := by decide
  have z_1 : (1 : Int32).toInt = 1 := by decide
  have z_2 : (2 : Int32).toInt = 2 := by decide
  have hP : va_P (dC, dI) vwCl (cw_W (rU c 99 (c 99)) kc st lg ai al R) s.heap := by rw [rU_self]; exact hP
  have hD : va_D A (cw_W (rU c 99 (c 99)) kc st lg ai al R) := by rw [rU_self]; exact hD
  have hdis : dj (cw_W (rU c 99 (c 99)) kc st lg ai al R) [outC oa ko fo] := by rw [rU_self]; exact hdis
  have hc0 : cap = 0 → cap = 0 ∧ c 99 = c 99 := fun h => ⟨h, rfl⟩
  have hcp : cap ≤ cap := Nat.le_refl _
  have hN1 : ((cap : Nat) : Int) ≤ 10 + 2 * (st 13).toInt := hN.1
  have hmono : ∀ y m, pgM (kc 0) R y m → pgM (kc 0) R y m := fun y m h => h
  refine lv_aload_n hx hb dL_version_0 rfl (lv_at hl 2 rfl) ?_
  refine lv_iconst (v := 0) hx hb dL_version_1 (by decide) ?_
  refine lv_aload_n hx hb dL_version_2 rfl (lv_at hl 0 rfl) ?_
  refine lv_iload_n hx hb dL_version_3 rfl (lv_at hl 1 rfl) ?_
  have hFc := vfree ((cw_D hD : va_D A (cw_W (rU c 99 (c 99)) kc st lg ai al R)) : va_D A (cw_W (rU c 99 (c 99)) kc st lg ai al R)) hS hA
  refine vx_calli (vx_runV (As := [.int p1]) (rest := [.int (0 : Int32), .ref oa]) ⟨hx, hb, hml, hown, hts⟩ (v_X8_version l hl0 dC dI (rU c 99 (c 99)) kc st lg ai al R p1 _ (show 0 ≤ (st 9).toInt by omega) (show (st 9).toInt ≤ 1 by omega) (show 0 ≤ (st 26).toInt by omega) (show (st 26).toInt ≤ 128 by omega)) (cwV 1 hts gL_version_X8_version rfl rfl rfl (by decide +kernel) ⟨Nat.le_of_ble_eq_true rfl, Nat.le_of_ble_eq_true rfl⟩) ⟨fun a U g mk q => by obtain ⟨q0, q1, qP, qK, qD, qG⟩ := q; exact ⟨q0, q1, qP, va_K.moved (u := U) (U := U.calling g mk a) (Vm.Alike.refl U.vm) qK, qD, qG.same rfl rfl⟩, va_recv hK hP (ci := 10) (q := (RX8, TX8, 10)) rfl (q0 := 0) rfl, fun U hU hW => ⟨rfl, by rw [hU], by rw [hU]; exact hP, va_K.moved hW.alike hK, ((cw_D hD : va_D A (cw_W (rU c 99 (c 99)) kc st lg ai al R))).weaken (fun _ _ _ _ => trivial), hG.go hW hU hS hFc⟩⟩ rfl rfl hl.1 rfl (lv_room (Nat.le_of_ble_eq_true rfl)) dL_version_4 ⟨by show 0 + 2 ≤ 2; omega, by show 0 + 12 ≤ 12; omega⟩) hS (fun q _ h => hFc q h) hFc (fun q _ h => hFc q h) (fun E9 ce q9 u t H1 locs ht hvm hp hE hz hk hS hcell hv hcl => ?_) (fun r_1 ur_1 t H1 locs ht hvm er_1 hB hz1 hk1 hS => ?_)
  · skip
    obtain ⟨hE, hP1⟩ := hE
    rw [ht] at hP1
    have hO1 := dj_keep hO hdis hk
    have hdis1 := hdis
    clear hO hdis
    have hP : va_P (dC, dI) vwCl (cw_W (rU c 99 (c 99)) kc st lg ai al R) H1 := hP1
    have hO := hO1
    have hdis := hdis1
    clear hO1 hdis1
    refine vxW_read (fun hu1 hu2 => ?_)
    simp only [List.mem_cons, List.not_mem_nil, or_false] at hE
    rcases hE with rfl | rfl
    · skip
      refine vx_catch (name := "java/lang/IllegalArgumentException") hown [⟨0, 9, 12, 25⟩] ⟨0, 9, 15, 13⟩ [] htab (fun z h => by simp only [List.mem_cons, List.not_mem_nil, or_false] at h; rcases h with rfl <;> first | exact Or.inr ⟨by decide, "java/lang/IllegalStateException", va_Nw.use rfl (hG.1.2.2.2.2.2.2 (25, "java/lang/IllegalStateException") (by decide +kernel)), hG.1.2.2.2.1 _ (by decide) _ (by decide) (by decide)⟩) (by decide) (by decide) (va_Nw.use rfl (hG.1.2.2.2.2.2.2 (13, "java/lang/IllegalArgumentException") (by decide +kernel))) (va_Nw.use rfl (hG.1.2.2.1 _ (by decide))) hcell hv hcl ?_
      refine W.eq (g2 := F0 m 15 ls [.ref q9]) rfl ?_
      clear hcell hv hcl
      clear ht hp hz hk hvm
      generalize H1 = H at hP hS hO ⊢
      refine lv_astore_n (lv' := [(3, .ref q9), (0, .ref (c 100)), (1, .int p1), (2, .ref oa)]) hx hb dL_version_15 rfl hl (by decide) rfl (fun ls hl => ?_)
      refine lv_iconst (v := 2) hx hb dL_version_16 (by decide) ?_
      refine W_read (fun hu1 hu2 => ?_)
      refine W.widen (k := 2) (n := 12) (by omega) (by omega) ?_
      exact W.iret hx hb hr (fun t ht hW => ⟨⟨_, _, rfl, rfl, c 99, st, lg, ai, al, R, cap, num, fo, ⟨(show 0 ≤ (st 3).toInt ∧ (st 3).toInt ≤ 8 from ⟨by omega, by omega⟩), (show 0 ≤ (st 5).toInt ∧ (st 5).toInt ≤ 400 from ⟨by omega, by omega⟩), (show 1 ≤ (st 6).toInt ∧ (st 6).toInt ≤ 65536 from ⟨by omega, by omega⟩), (show 0 ≤ (st 9).toInt ∧ (st 9).toInt ≤ 1 from ⟨by omega, by omega⟩), (show 0 ≤ (st 13).toInt ∧ (st 13).toInt ≤ 65536 from ⟨by omega, by omega⟩), (show 0 ≤ (st 15).toInt ∧ (st 15).toInt ≤ 1 from ⟨by omega, by omega⟩), (show 0 ≤ (st 17).toInt ∧ (st 17).toInt ≤ 128 from ⟨by omega, by omega⟩), (show 0 ≤ (st 25).toInt ∧ (st 25).toInt ≤ 128 from ⟨by omega, by omega⟩), (show 0 ≤ (st 26).toInt ∧ (st 26).toInt ≤ 128 from ⟨by omega, by omega⟩), (show -1 ≤ (st 27).toInt ∧ (st 27).toInt ≤ 127 from ⟨by omega, by omega⟩), (show 0 ≤ (st 28).toInt ∧ (st 28).toInt ≤ 1 from ⟨by omega, by omega⟩), (show 0 ≤ (st 37).toInt ∧ (st 37).toInt ≤ 255 from ⟨by omega, by omega⟩), (show aR (ai 4) 400 (-128) 127 from hR4), (show aR (ai 7) 8224 (-128) 127 from hR7), (show aR (ai 23) 128 (0) 127 from hR23), (show aR (ai 32) 16 (0) 400 from hR32), (show aR (ai 33) 16 (0) 255 from hR33), hPI, hN⟩, hc0, hcp, (show (st 13).toInt ≤ (st 13).toInt by omega), (show (st 13).toInt ≤ (st 13).toInt + 16 by omega), (show ((t.heap.size : Nat) : Int) ≤ ((s.heap.size : Nat) : Int) + 3 + 3 * ((st 13).toInt - (st 13).toInt) by rw [ht]; omega), (show ((tot t.heap : Nat) : Int) ≤ ((tot s.heap : Nat) : Int) + 18 + 29 * ((st 13).toInt - (st 13).toInt) + 4 * (((cap : Nat) : Int) - ((cap : Nat) : Int)) by rw [ht]; omega), by rw [ht]; exact hP.app hO, va_D.app (cw_D hD) hDO (cw_dj hdis)⟩, hS.F ht⟩) hS.2.2 dL_version_17
    · skip
      refine vx_catch (name := "java/lang/IllegalStateException") hown [] ⟨0, 9, 12, 25⟩ [⟨0, 9, 15, 13⟩] htab (fun z h => by cases h) (by decide) (by decide) (va_Nw.use rfl (hG.1.2.2.2.2.2.2 (25, "java/lang/IllegalStateException") (by decide +kernel))) (va_Nw.use rfl (hG.1.2.2.1 _ (by decide))) hcell hv hcl ?_
      refine W.eq (g2 := F0 m 12 ls [.ref q9]) rfl ?_
      clear hcell hv hcl
      clear ht hp hz hk hvm
      generalize H1 = H at hP hS hO ⊢
      refine lv_astore_n (lv' := [(3, .ref q9), (0, .ref (c 100)), (1, .int p1), (2, .ref oa)]) hx hb dL_version_12 rfl hl (by decide) rfl (fun ls hl => ?_)
      refine lv_iconst (v := 1) hx hb dL_version_13 (by decide) ?_
      refine W_read (fun hu1 hu2 => ?_)
      refine W.widen (k := 2) (n := 12) (by omega) (by omega) ?_
      exact W.iret hx hb hr (fun t ht hW => ⟨⟨_, _, rfl, rfl, c 99, st, lg, ai, al, R, cap, num, fo, ⟨(show 0 ≤ (st 3).toInt ∧ (st 3).toInt ≤ 8 from ⟨by omega, by omega⟩), (show 0 ≤ (st 5).toInt ∧ (st 5).toInt ≤ 400 from ⟨by omega, by omega⟩), (show 1 ≤ (st 6).toInt ∧ (st 6).toInt ≤ 65536 from ⟨by omega, by omega⟩), (show 0 ≤ (st 9).toInt ∧ (st 9).toInt ≤ 1 from ⟨by omega, by omega⟩), (show 0 ≤ (st 13).toInt ∧ (st 13).toInt ≤ 65536 from ⟨by omega, by omega⟩), (show 0 ≤ (st 15).toInt ∧ (st 15).toInt ≤ 1 from ⟨by omega, by omega⟩), (show 0 ≤ (st 17).toInt ∧ (st 17).toInt ≤ 128 from ⟨by omega, by omega⟩), (show 0 ≤ (st 25).toInt ∧ (st 25).toInt ≤ 128 from ⟨by omega, by omega⟩), (show 0 ≤ (st 26).toInt ∧ (st 26).toInt ≤ 128 from ⟨by omega, by omega⟩), (show -1 ≤ (st 27).toInt ∧ (st 27).toInt ≤ 127 from ⟨by omega, by omega⟩), (show 0 ≤ (st 28).toInt ∧ (st 28).toInt ≤ 1 from ⟨by omega, by omega⟩), (show 0 ≤ (st 37).toInt ∧ (st 37).toInt ≤ 255 from ⟨by omega, by omega⟩), (show aR (ai 4) 400 (-128) 127 from hR4), (show aR (ai 7) 8224 (-128) 127 from hR7), (show aR (ai 23) 128 (0) 127 from hR23), (show aR (ai 32) 16 (0) 400 from hR32), (show aR (ai 33) 16 (0) 255 from hR33), hPI, hN⟩, hc0, hcp, (show (st 13).toInt ≤ (st 13).toInt by omega), (show (st 13).toInt ≤ (st 13).toInt + 16 by omega), (show ((t.heap.size : Nat) : Int) ≤ ((s.heap.size : Nat) : Int) + 3 + 3 * ((st 13).toInt - (st 13).toInt) by rw [ht]; omega), (show ((tot t.heap : Nat) : Int) ≤ ((tot s.heap : Nat) : Int) + 18 + 29 * ((st 13).toInt - (st 13).toInt) + 4 * (((cap : Nat) : Int) - ((cap : Nat) : Int)) by rw [ht]; omega), by rw [ht]; exact hP.app hO, va_D.app (cw_D hD) hDO (cw_dj hdis)⟩, hS.F ht⟩) hS.2.2 dL_version_14
  · skip
    subst er_1
    have hP1 : va_P (dC, dI) vwCl (cw_W (rU c 99 (c 99)) kc st lg ai al R) t.heap := hB
    rw [ht] at hP1
    have hO1 := dj_keep hO hdis hk1
    have hdis1 := hdis
    clear hO hdis
    clear hFc hz1 hk1 hvm hP
    subst ht
    have hP := hP1
    clear hP1
    generalize t.heap = H at hP hS hO1 ⊢
    have hP : va_P (dC, dI) vwCl (cw_W (rU c 99 (c 99)) kc st lg ai al R) H := hP
    have hO := hO1
    have hdis := hdis1
    clear hO1 hdis1
    refine lv_i2l hx hb dL_version_7 rfl ?_
    refine lv_topl (fun w_2 ew_2 => ?_)
    clear ew_2
    refine lw_last (v := w_2) hx hb hKo hP hO (cw_D hD) hDO (cw_dj hdis) hS dL_version_8 (fun H locs fo hP hO hS => ?_)
    have hDO : va_D A [outC oa ko fo] := out_D hDO
    have hdis : dj (cw_W (rU c 99 (c 99)) kc st lg ai al R) [outC oa ko fo] := out_dj (cw_dj hdis)
    refine lv_goto (tgt := 18) hx hb dL_version_9 (by decide) ?_
    refine lv_iconst (v := 0) hx hb dL_version_18 (by decide) ?_
    refine W_read (fun hu1 hu2 => ?_)
    refine W.widen (k := 2) (n := 12) (by omega) (by omega) ?_
    exact W.iret hx hb hr (fun t ht hW => ⟨⟨_, _, rfl, rfl, c 99, st, lg, ai, al, R, cap, num, fo, ⟨(show 0 ≤ (st 3).toInt ∧ (st 3).toInt ≤ 8 from ⟨by omega, by omega⟩), (show 0 ≤ (st 5).toInt ∧ (st 5).toInt ≤ 400 from ⟨by omega, by omega⟩), (show 1 ≤ (st 6).toInt ∧ (st 6).toInt ≤ 65536 from ⟨by omega, by omega⟩), (show 0 ≤ (st 9).toInt ∧ (st 9).toInt ≤ 1 from ⟨by omega, by omega⟩), (show 0 ≤ (st 13).toInt ∧ (st 13).toInt ≤ 65536 from ⟨by omega, by omega⟩), (show 0 ≤ (st 15).toInt ∧ (st 15).toInt ≤ 1 from ⟨by omega, by omega⟩), (show 0 ≤ (st 17).toInt ∧ (st 17).toInt ≤ 128 from ⟨by omega, by omega⟩), (show 0 ≤ (st 25).toInt ∧ (st 25).toInt ≤ 128 from ⟨by omega, by omega⟩), (show 0 ≤ (st 26).toInt ∧ (st 26).toInt ≤ 128 from ⟨by omega, by omega⟩), (show -1 ≤ (st 27).toInt ∧ (st 27).toInt ≤ 127 from ⟨by omega, by omega⟩), (show 0 ≤ (st 28).toInt ∧ (st 28).toInt ≤ 1 from ⟨by omega, by omega⟩), (show 0 ≤ (st 37).toInt ∧ (st 37).toInt ≤ 255 from ⟨by omega, by omega⟩), (show aR (ai 4) 400 (-128) 127 from hR4), (show aR (ai 7) 8224 (-128) 127 from hR7), (show aR (ai 23) 128 (0) 127 from hR23), (show aR (ai 32) 16 (0) 400 from hR32), (show aR (ai 33) 16 (0) 255 from hR33), hPI, hN⟩, hc0, hcp, (show (st 13).toInt ≤ (st 13).toInt by omega), (show (st 13).toInt ≤ (st 13).toInt + 16 by omega), (show ((t.heap.size : Nat) : Int) ≤ ((s.heap.size : Nat) : Int) + 3 + 3 * ((st 13).toInt - (st 13).toInt) by rw [ht]; omega), (show ((tot t.heap : Nat) : Int) ≤ ((tot s.heap : Nat) : Int) + 18 + 29 * ((st 13).toInt - (st 13).toInt) + 4 * (((cap : Nat) : Int) - ((cap : Nat) : Int)) by rw [ht]; omega), by rw [ht]; exact hP.app hO, va_D.app (cw_D hD) hDO (cw_dj hdis)⟩, hS.F ht⟩) hS.2.2 dL_version_19
