set_option maxHeartbeats 4000000 in
set_option maxRecDepth 100000 in
theorem v_X8_in (l : Launch) (hl0 : l.stackTraces = false) (dC : Nat → ClassId) (dI : Nat → Nat → Nat) (c : Nat → Nat) (kc : Nat → ClassId) (st : Nat → Int32) (lg : Nat → Int64) (ai : Nat → Nat → Int32) (al : Nat → Nat → Int64) (R : va_W) (cap : Nat) (num : Nat → Int32)  (sz tz : Nat) (hPI : PI (kc 98) (kc 0) (c 99) (st 13) cap num none R) (hN : NI cap (st 13)) (hf5a : 0 ≤ (st 5).toInt) (hf5b : (st 5).toInt ≤ 400) (hf6a : 1 ≤ (st 6).toInt) (hf6b : (st 6).toInt ≤ 65536) (hf9a : 0 ≤ (st 9).toInt) (hf9b : (st 9).toInt ≤ 1) (hf13a : 0 ≤ (st 13).toInt) (hf13b : (st 13).toInt ≤ 65536) (hf15a : 0 ≤ (st 15).toInt) (hf15b : (st 15).toInt ≤ 1) (hf17a : 0 ≤ (st 17).toInt) (hf17b : (st 17).toInt ≤ 128) (hf25a : 0 ≤ (st 25).toInt) (hf25b : (st 25).toInt ≤ 128) (hf26a : 0 ≤ (st 26).toInt) (hf26b : (st 26).toInt ≤ 128) (hf27a : -1 ≤ (st 27).toInt) (hf27b : (st 27).toInt ≤ 127) (hf28a : 0 ≤ (st 28).toInt) (hf28b : (st 28).toInt ≤ 1) (hf37a : 0 ≤ (st 37).toInt) (hf37b : (st 37).toInt ≤ 255) (hR4 : aR (ai 4) 400 (-128) 127) (hR7 : aR (ai 7) 8224 (-128) 127) (hR23 : aR (ai 23) 128 (0) 127) (hR32 : aR (ai 32) 16 (0) 400) (hR33 : aR (ai 33) 16 (0) 255) : vx_Met l yX8_in wsX8_in ({ frames := 11, cells := 62, slots := 1170100, locals := 490 }) (va_Pc [.ref (c 100)] (fun U => U.heap.size = sz ∧ tot U.heap = tz ∧ va_P (dC, dI) vwCl (cw_W c kc st lg ai al R) U.heap ∧ va_K (dC, dI) vwCl (cw_T kc) U ∧ va_D (fun _ => True) (cw_W c kc st lg ai al R) ∧ gy_E cap (c 99) (va_A (cw_W c kc st lg ai al R) sz) U)) (va_Qi (fun r (u : Int32) => r = u) (fun u t => ∃ (x5 : Int32) (x9 : Int32) (x10 : Int32) (x11 : Int32) (x12 : Int32) (x13 : Int32) (x17 : Int32) (x25 : Int32) (x26 : Int32) (x27 : Int32) (x28 : Int32) (x29 : Int32) (x35 : Int32) (x37 : Int32) (y36 : Int64) (f0 : Nat → Int32) (f7 : Nat → Int32) (f8 : Nat → Int32) (f14 : Nat → Int32) (f20 : Nat → Int32) (f21 : Nat → Int32) (f22 : Nat → Int32) (f23 : Nat → Int32) (f31 : Nat → Int32) (f32 : Nat → Int32) (f33 : Nat → Int32) (g19 : Nat → Int64) (g34 : Nat → Int64) (e9 cap9 : Nat) (num9 : Nat → Int32) (R9 : va_W), (0 ≤ x5.toInt) ∧ (x5.toInt ≤ 400) ∧ (0 ≤ x9.toInt) ∧ (x9.toInt ≤ 1) ∧ (0 ≤ x13.toInt) ∧ (x13.toInt ≤ 65536) ∧ (0 ≤ x17.toInt) ∧ (x17.toInt ≤ 128) ∧ (0 ≤ x25.toInt) ∧ (x25.toInt ≤ 128) ∧ (0 ≤ x26.toInt) ∧ (x26.toInt ≤ 128) ∧ (-1 ≤ x27.toInt) ∧ (x27.toInt ≤ 127) ∧ (0 ≤ x28.toInt) ∧ (x28.toInt ≤ 1) ∧ (0 ≤ x37.toInt) ∧ (x37.toInt ≤ 255) ∧ (aR f7 8224 (-128) 127) ∧ (aR f23 128 (0) 127) ∧ (aR f32 16 (0) 400) ∧ (aR f33 16 (0) 255) ∧ (PI (kc 98) (kc 0) e9 x13 cap9 num9 none R9) ∧ (∀ y m, pgM (kc 0) R y m → pgM (kc 0) R9 y m) ∧ (va_D (va_A (cw_W c kc st lg ai al R) sz) (cw_W (rU c 99 e9) kc (rU (rU (rU (rU (rU (rU (rU (rU (rU (rU (rU (rU (rU (rU st 5 x5) 9 x9) 10 x10) 11 x11) 12 x12) 13 x13) 17 x17) 25 x25) 26 x26) 27 x27) 28 x28) 29 x29) 35 x35) 37 x37) (rU lg 36 y36) (rU (rU (rU (rU (rU (rU (rU (rU (rU (rU (rU ai 0 f0) 7 f7) 8 f8) 14 f14) 20 f20) 21 f21) 22 f22) 23 f23) 31 f31) 32 f32) 33 f33) (rU (rU al 19 g19) 34 g34) R9)) ∧ (NI cap9 x13) ∧ (cap9 = 0 → cap = 0 ∧ e9 = c 99) ∧ (cap ≤ cap9) ∧ ((st 13).toInt ≤ x13.toInt) ∧ (x13.toInt ≤ (st 13).toInt + 16) ∧ (((t.heap.size : Nat) : Int) ≤ ((sz : Nat) : Int) + 1 + 3 * (x13.toInt - (st 13).toInt)) ∧ (((tot t.heap : Nat) : Int) ≤ ((tz : Nat) : Int) + 6 + 29 * (x13.toInt - (st 13).toInt) + 4 * (((cap9 : Nat) : Int) - ((cap : Nat) : Int))) ∧ va_P (dC, dI) vwCl (cw_W (rU c 99 e9) kc (rU (rU (rU (rU (rU (rU (rU (rU (rU (rU (rU (rU (rU (rU st 5 x5) 9 x9) 10 x10) 11 x11) 12 x12) 13 x13) 17 x17) 25 x25) 26 x26) 27 x27) 28 x28) 29 x29) 35 x35) 37 x37) (rU lg 36 y36) (rU (rU (rU (rU (rU (rU (rU (rU (rU (rU (rU ai 0 f0) 7 f7) 8 f8) 14 f14) 20 f20) 21 f21) 22 f22) 23 f23) 31 f31) 32 f32) 33 f33) (rU (rU al 19 g19) 34 g34) R9) t.heap) (va_A (cw_W c kc st lg ai al R) sz)) (vx_X (fun _ : Unit => True) (fun E _ t => E ∈ (["java/lang/IllegalStateException"] : List String) ∧ ∃ (x5 : Int32) (x9 : Int32) (x10 : Int32) (x11 : Int32) (x12 : Int32) (x13 : Int32) (x17 : Int32) (x25 : Int32) (x26 : Int32) (x27 : Int32) (x28 : Int32) (x29 : Int32) (x35 : Int32) (x37 : Int32) (y36 : Int64) (f0 : Nat → Int32) (f7 : Nat → Int32) (f8 : Nat → Int32) (f14 : Nat → Int32) (f20 : Nat → Int32) (f21 : Nat → Int32) (f22 : Nat → Int32) (f23 : Nat → Int32) (f31 : Nat → Int32) (f32 : Nat → Int32) (f33 : Nat → Int32) (g19 : Nat → Int64) (g34 : Nat → Int64) (e9 cap9 : Nat) (num9 : Nat → Int32) (R9 : va_W), (0 ≤ x5.toInt) ∧ (x5.toInt ≤ 400) ∧ (0 ≤ x9.toInt) ∧ (x9.toInt ≤ 1) ∧ (0 ≤ x13.toInt) ∧ (x13.toInt ≤ 65536) ∧ (0 ≤ x17.toInt) ∧ (x17.toInt ≤ 128) ∧ (0 ≤ x25.toInt) ∧ (x25.toInt ≤ 128) ∧ (0 ≤ x26.toInt) ∧ (x26.toInt ≤ 128) ∧ (-1 ≤ x27.toInt) ∧ (x27.toInt ≤ 127) ∧ (0 ≤ x28.toInt) ∧ (x28.toInt ≤ 1) ∧ (0 ≤ x37.toInt) ∧ (x37.toInt ≤ 255) ∧ (aR f7 8224 (-128) 127) ∧ (aR f23 128 (0) 127) ∧ (aR f32 16 (0) 400) ∧ (aR f33 16 (0) 255) ∧ (PI (kc 98) (kc 0) e9 x13 cap9 num9 none R9) ∧ (∀ y m, pgM (kc 0) R y m → pgM (kc 0) R9 y m) ∧ (va_D (va_A (cw_W c kc st lg ai al R) sz) (cw_W (rU c 99 e9) kc (rU (rU (rU (rU (rU (rU (rU (rU (rU (rU (rU (rU (rU (rU st 5 x5) 9 x9) 10 x10) 11 x11) 12 x12) 13 x13) 17 x17) 25 x25) 26 x26) 27 x27) 28 x28) 29 x29) 35 x35) 37 x37) (rU lg 36 y36) (rU (rU (rU (rU (rU (rU (rU (rU (rU (rU (rU ai 0 f0) 7 f7) 8 f8) 14 f14) 20 f20) 21 f21) 22 f22) 23 f23) 31 f31) 32 f32) 33 f33) (rU (rU al 19 g19) 34 g34) R9)) ∧ (NI cap9 x13) ∧ (cap9 = 0 → cap = 0 ∧ e9 = c 99) ∧ (cap ≤ cap9) ∧ ((st 13).toInt ≤ x13.toInt) ∧ (x13.toInt ≤ (st 13).toInt + 16) ∧ (((t.heap.size : Nat) : Int) ≤ ((sz : Nat) : Int) + 1 + 3 * (x13.toInt - (st 13).toInt)) ∧ (((tot t.heap : Nat) : Int) ≤ ((tz : Nat) : Int) + 6 + 29 * (x13.toInt - (st 13).toInt) + 4 * (((cap9 : Nat) : Int) - ((cap : Nat) : Int))) ∧ va_P (dC, dI) vwCl (cw_W (rU c 99 e9) kc (rU (rU (rU (rU (rU (rU (rU (rU (rU (rU (rU (rU (rU (rU st 5 x5) 9 x9) 10 x10) 11 x11) 12 x12) 13 x13) 17 x17) 25 x25) 26 x26) 27 x27) 28 x28) 29 x29) 35 x35) 37 x37) (rU lg 36 y36) (rU (rU (rU (rU (rU (rU (rU (rU (rU (rU (rU ai 0 f0) 7 f7) 8 f8) 14 f14) 20 f20) 21 f21) 22 f22) 23 f23) 31 f31) 32 f32) 33 f33) (rU (rU al 19 g19) 34 g34) R9) t.heap) (va_A (cw_W c kc st lg ai al R) sz)) 62 1170100 (va_A (cw_W c kc st lg ai al R) sz) := by
  refine vx_ofW (cc := cX8_in) (maxL := 1) (ret := (some .int)) (by decide) rfl ?_
  intro p e s m args below meth cM s₁ B hml hno hv
  obtain ⟨rfl, hsz, htz, hP, hK, hD0, hY⟩ := hv
  have hx := B.exec
  have hb := B.bytes
  have hr := B.returns
  have hts := atoms_spec (ws := wsX8_in) B.pre
  have hown : s.vm.findClass RX8 = some m.cls := findClass_of_methodNamed B.named
  have hG0 := hY.1
  have hGW := hG0.1
  have hlocks := B.notSynchronized
  subst hsz
  subst htz
  clear hG0
  have hD := hD0.self (sz := s.heap.size)
  generalize hAe : va_A (cw_W c kc st lg ai al R) s.heap.size = A at hD hY ⊢
  have hA : ∀ q : Nat, s.heap.size ≤ q → A q := fun q h => by rw [← hAe]; exact Or.inr h
  have hS : va_S A s.heap s.heap [] := va_S.rf
  clear hAe hD0
  have hl := lv_entry ([.ref (c 100)]) (n := 1) (Nat.le_of_ble_eq_true rfl)
  rw [lg_entry_eq]
  generalize (lg_sl ([.ref (c 100)]) ++ List.replicate (1 - (lg_sl ([.ref (c 100)])).length) Slot.unset).toArray = ls at hl ⊢
  have hl : lv_has ls 1 [(0, .ref (c 100))] := hl
  have z_m10 : (-10 : Int32).toInt = -10 := by decide
  have z_m9 : (-9 : Int32).toInt = -9 := by decide
  have z_m4 : (-4 : Int32).toInt = -4 := by decide
  have z_m3 : (-3 : Int32).toInt = -3 := by decide
  have z_m2 : (-2 : Int32).toInt = -2 := by decide
  have z_0 : (0 : Int32).toInt = 0 := by decide
  have z_1 : (1 : Int32).toInt = 1 := by decide
  have hin_X4 : ∀ w ∈ u_ws RX4 TX4 6, w ∈ wsX8_in := by decide +kernel
  have hin_X5 : ∀ w ∈ u_ws RX5 TX5 7, w ∈ wsX8_in := by decide +kernel
  have hin_X7 : ∀ w ∈ u_ws RX7 TX7 2, w ∈ wsX8_in := by decide +kernel
  have hin_X8 : ∀ w ∈ u_ws RX8 TX8 10, w ∈ wsX8_in := by decide +kernel
  have hmono : ∀ y m, pgM (kc 0) R y m → pgM (kc 0) R y m := fun y m h => h
  have hG := hY.1
  have hP : va_P (dC, dI) vwCl (cw_W (rU c 99 (c 99)) kc st lg ai al R) s.heap := by rw [rU_self]; exact hP
  have hD : va_D A (cw_W (rU c 99 (c 99)) kc st lg ai al R) := by rw [rU_self]; exact hD
  have hc0 : cap = 0 → cap = 0 ∧ c 99 = c 99 := fun h => ⟨h, rfl⟩
  have hcp : cap ≤ cap := Nat.le_refl _
  have hN1 : ((cap : Nat) : Int) ≤ 10 + 2 * (st 13).toInt := hN.1
  have main : ∀ (H : Heap) (locs : List Loc), va_P (dC, dI) vwCl (cw_W (rU c 99 (c 99)) kc st lg ai al R) H → va_S A s.heap H locs → W p l e (headSpec wsX8_in ({ frames := 11, cells := 62, slots := 1170100, locals := 490 })).room s m ([.ref (c 100)] : List Value).toArray below meth cM H locs 0 0 (vx_MQ below (va_Qi (fun r (u : Int32) => r = u) (fun u t => ∃ (x5 : Int32) (x9 : Int32) (x10 : Int32) (x11 : Int32) (x12 : Int32) (x13 : Int32) (x17 : Int32) (x25 : Int32) (x26 : Int32) (x27 : Int32) (x28 : Int32) (x29 : Int32) (x35 : Int32) (x37 : Int32) (y36 : Int64) (f0 : Nat → Int32) (f7 : Nat → Int32) (f8 : Nat → Int32) (f14 : Nat → Int32) (f20 : Nat → Int32) (f21 : Nat → Int32) (f22 : Nat → Int32) (f23 : Nat → Int32) (f31 : Nat → Int32) (f32 : Nat → Int32) (f33 : Nat → Int32) (g19 : Nat → Int64) (g34 : Nat → Int64) (e9 cap9 : Nat) (num9 : Nat → Int32) (R9 : va_W), (0 ≤ x5.toInt) ∧ (x5.toInt ≤ 400) ∧ (0 ≤ x9.toInt) ∧ (x9.toInt ≤ 1) ∧ (0 ≤ x13.toInt) ∧ (x13.toInt ≤ 65536) ∧ (0 ≤ x17.toInt) ∧ (x17.toInt ≤ 128) ∧ (0 ≤ x25.toInt) ∧ (x25.toInt ≤ 128) ∧ (0 ≤ x26.toInt) ∧ (x26.toInt ≤ 128) ∧ (-1 ≤ x27.toInt) ∧ (x27.toInt ≤ 127) ∧ (0 ≤ x28.toInt) ∧ (x28.toInt ≤ 1) ∧ (0 ≤ x37.toInt) ∧ (x37.toInt ≤ 255) ∧ (aR f7 8224 (-128) 127) ∧ (aR f23 128 (0) 127) ∧ (aR f32 16 (0) 400) ∧ (aR f33 16 (0) 255) ∧ (PI (kc 98) (kc 0) e9 x13 cap9 num9 none R9) ∧ (∀ y m, pgM (kc 0) R y m → pgM (kc 0) R9 y m) ∧ (va_D A (cw_W (rU c 99 e9) kc (rU (rU (rU (rU (rU (rU (rU (rU (rU (rU (rU (rU (rU (rU st 5 x5) 9 x9) 10 x10) 11 x11) 12 x12) 13 x13) 17 x17) 25 x25) 26 x26) 27 x27) 28 x28) 29 x29) 35 x35) 37 x37) (rU lg 36 y36) (rU (rU (rU (rU (rU (rU (rU (rU (rU (rU (rU ai 0 f0) 7 f7) 8 f8) 14 f14) 20 f20) 21 f21) 22 f22) 23 f23) 31 f31) 32 f32) 33 f33) (rU (rU al 19 g19) 34 g34) R9)) ∧ (NI cap9 x13) ∧ (cap9 = 0 → cap = 0 ∧ e9 = c 99) ∧ (cap ≤ cap9) ∧ ((st 13).toInt ≤ x13.toInt) ∧ (x13.toInt ≤ (st 13).toInt + 16) ∧ (((t.heap.size : Nat) : Int) ≤ ((s.heap.size : Nat) : Int) + 1 + 3 * (x13.toInt - (st 13).toInt)) ∧ (((tot t.heap : Nat) : Int) ≤ ((tot s.heap : Nat) : Int) + 6 + 29 * (x13.toInt - (st 13).toInt) + 4 * (((cap9 : Nat) : Int) - ((cap : Nat) : Int))) ∧ va_P (dC, dI) vwCl (cw_W (rU c 99 e9) kc (rU (rU (rU (rU (rU (rU (rU (rU (rU (rU (rU (rU (rU (rU st 5 x5) 9 x9) 10 x10) 11 x11) 12 x12) 13 x13) 17 x17) 25 x25) 26 x26) 27 x27) 28 x28) 29 x29) 35 x35) 37 x37) (rU lg 36 y36) (rU (rU (rU (rU (rU (rU (rU (rU (rU (rU (rU ai 0 f0) 7 f7) 8 f8) 14 f14) 20 f20) 21 f21) 22 f22) 23 f23) 31 f31) 32 f32) 33 f33) (rU (rU al 19 g19) 34 g34) R9) t.heap) A) (vx_X (fun _ : Unit => True) (fun E _ t => E ∈ (["java/lang/IllegalStateException"] : List String) ∧ ∃ (x5 : Int32) (x9 : Int32) (x10 : Int32) (x11 : Int32) (x12 : Int32) (x13 : Int32) (x17 : Int32) (x25 : Int32) (x26 : Int32) (x27 : Int32) (x28 : Int32) (x29 : Int32) (x35 : Int32) (x37 : Int32) (y36 : Int64) (f0 : Nat → Int32) (f7 : Nat → Int32) (f8 : Nat → Int32) (f14 : Nat → Int32) (f20 : Nat → Int32) (f21 : Nat → Int32) (f22 : Nat → Int32) (f23 : Nat → Int32) (f31 : Nat → Int32) (f32 : Nat → Int32) (f33 : Nat → Int32) (g19 : Nat → Int64) (g34 : Nat → Int64) (e9 cap9 : Nat) (num9 : Nat → Int32) (R9 : va_W), (0 ≤ x5.toInt) ∧ (x5.toInt ≤ 400) ∧ (0 ≤ x9.toInt) ∧ (x9.toInt ≤ 1) ∧ (0 ≤ x13.toInt) ∧ (x13.toInt ≤ 65536) ∧ (0 ≤ x17.toInt) ∧ (x17.toInt ≤ 128) ∧ (0 ≤ x25.toInt) ∧ (x25.toInt ≤ 128) ∧ (0 ≤ x26.toInt) ∧ (x26.toInt ≤ 128) ∧ (-1 ≤ x27.toInt) ∧ (x27.toInt ≤ 127) ∧ (0 ≤ x28.toInt) ∧ (x28.toInt ≤ 1) ∧ (0 ≤ x37.toInt) ∧ (x37.toInt ≤ 255) ∧ (aR f7 8224 (-128) 127) ∧ (aR f23 128 (0) 127) ∧ (aR f32 16 (0) 400) ∧ (aR f33 16 (0) 255) ∧ (PI (kc 98) (kc 0) e9 x13 cap9 num9 none R9) ∧ (∀ y m, pgM (kc 0) R y m → pgM (kc 0) R9 y m) ∧ (va_D A (cw_W (rU c 99 e9) kc (rU (rU (rU (rU (rU (rU (rU (rU (rU (rU (rU (rU (rU (rU st 5 x5) 9 x9) 10 x10) 11 x11) 12 x12) 13 x13) 17 x17) 25 x25) 26 x26) 27 x27) 28 x28) 29 x29) 35 x35) 37 x37) (rU lg 36 y36) (rU (rU (rU (rU (rU (rU (rU (rU (rU (rU (rU ai 0 f0) 7 f7) 8 f8) 14 f14) 20 f20) 21 f21) 22 f22) 23 f23) 31 f31) 32 f32) 33 f33) (rU (rU al 19 g19) 34 g34) R9)) ∧ (NI cap9 x13) ∧ (cap9 = 0 → cap = 0 ∧ e9 = c 99) ∧ (cap ≤ cap9) ∧ ((st 13).toInt ≤ x13.toInt) ∧ (x13.toInt ≤ (st 13).toInt + 16) ∧ (((t.heap.size : Nat) : Int) ≤ ((s.heap.size : Nat) : Int) + 1 + 3 * (x13.toInt - (st 13).toInt)) ∧ (((tot t.heap : Nat) : Int) ≤ ((tot s.heap : Nat) : Int) + 6 + 29 * (x13.toInt - (st 13).toInt) + 4 * (((cap9 : Nat) : Int) - ((cap : Nat) : Int))) ∧ va_P (dC, dI) vwCl (cw_W (rU c 99 e9) kc (rU (rU (rU (rU (rU (rU (rU (rU (rU (rU (rU (rU (rU (rU st 5 x5) 9 x9) 10 x10) 11 x11) 12 x12) 13 x13) 17 x17) 25 x25) 26 x26) 27 x27) 28 x28) 29 x29) 35 x35) 37 x37) (rU lg 36 y36) (rU (rU (rU (rU (rU (rU (rU (rU (rU (rU (rU ai 0 f0) 7 f7) 8 f8) 14 f14) 20 f20) 21 f21) 22 f22) 23 f23) 31 f31) 32 f32) 33 f33) (rU (rU al 19 g19) 34 g34) R9) t.heap) A) ([.ref (c 100)] : List Value).toArray s 62 1170100 A) (F0 m 0 ls []) := by
    intro H locs hP hS
    refine lv_aload_n hx hb dX8_in_0 rfl (lv_at hl 0 rfl) ?_
    have hFc := vfree ((cw_D hD : va_D A (cw_W (rU c 99 (c 99)) kc st lg ai al R)) : va_D A (cw_W (rU c 99 (c 99)) kc st lg ai al R)) hS hA
    refine vx_callv (vx_runV (As := []) (rest := []) ⟨hx, hb, hml, hown, hts⟩ (v_X8_demandPower l hl0 dC dI (rU c 99 (c 99)) kc st lg ai al R  _ (show 0 ≤ (st 9).toInt by omega) (show (st 9).toInt ≤ 1 by omega)) (cwV 0 hts gX8_in_X8_demandPower rfl rfl rfl (by decide +kernel) ⟨Nat.le_of_ble_eq_true rfl, Nat.le_of_ble_eq_true rfl⟩) ⟨fun a U g mk q => by obtain ⟨q0, q1, qP, qK, qD, qG⟩ := q; exact ⟨q0, q1, qP, va_K.moved (u := U) (U := U.calling g mk a) (Vm.Alike.refl U.vm) qK, qD, qG.same rfl rfl⟩, va_recv hK hP (ci := 10) (q := (RX8, TX8, 10)) rfl (q0 := 0) rfl, fun U hU hW => ⟨rfl, by rw [hU], by rw [hU]; exact hP, va_K.moved hW.alike hK, ((cw_D hD : va_D A (cw_W (rU c 99 (c 99)) kc st lg ai al R))).weaken (fun _ _ _ _ => trivial), hG.go hW hU hS hFc⟩⟩ rfl rfl hl.1 rfl (lv_room (Nat.le_of_ble_eq_true rfl)) dX8_in_1 ⟨by show 0 + 1 ≤ 62; omega, by show 0 + 6 ≤ 1170100; omega⟩) hS (fun q _ h => hFc q h) hFc (fun q _ h => hFc q h) (fun E9 ce q9 u t H1 locs ht hvm hp hE hz hk hS hcell hv hcl => ?_) (fun ur_1 t H1 locs ht hvm er_1 hB hz1 hk1 hS => ?_)
    · skip
      obtain ⟨hE, hP1⟩ := hE
      rw [ht] at hP1
      have hP : va_P (dC, dI) vwCl (cw_W (rU c 99 (c 99)) kc st lg ai al R) H1 := hP1
      refine vxW_read (fun hu1 hu2 => ?_)
      exact vx_out (fun x h => (hno x h).elim) hlocks hcell hv hcl (fun t ht hW => ⟨(), trivial, ⟨(show ∀ x ∈ (["java/lang/IllegalStateException"] : List String), x ∈ (["java/lang/IllegalStateException"] : List String) by decide +kernel) _ hE, st 5, st 9, st 10, st 11, st 12, st 13, st 17, st 25, st 26, st 27, st 28, st 29, st 35, st 37, lg 36, ai 0, ai 7, ai 8, ai 14, ai 20, ai 21, ai 22, ai 23, ai 31, ai 32, ai 33, al 19, al 34, c 99, cap, num, R, (by omega), (by omega), (by omega), (by omega), (by omega), (by omega), (by omega), (by omega), (by omega), (by omega), (by omega), (by omega), (by omega), (by omega), (by omega), (by omega), (by omega), (by omega), hR7, hR23, hR32, hR33, hPI, hmono, (cw_D hD), hN, hc0, hcp, (by omega), (by omega), (by rw [ht]; omega), (by rw [ht]; omega), by rw [ht]; exact hP⟩, hS.F ht⟩) hS.2.2 (Nat.le_of_ble_eq_true rfl) (Nat.le_of_ble_eq_true rfl)
    · skip
      have hP1 : va_P (dC, dI) vwCl (cw_W (rU c 99 (c 99)) kc st lg ai al R) t.heap := hB
      rw [ht] at hP1
      clear hFc hz1 hk1 hvm hP
      subst ht
      have hP := hP1
      clear hP1
      generalize t.heap = H at hP hS ⊢
      have hP : va_P (dC, dI) vwCl (cw_W (rU c 99 (c 99)) kc st lg ai al R) H := hP
      refine lv_aload_n hx hb dX8_in_4 rfl (lv_at hl 0 rfl) ?_
      refine va_get (D := (dC, dI)) (ci := 10) (v := .ref (c 104)) (C := RX8) (T := TX8) (N := 10) hx hb hts hin_X8 hown hK hP 0 rfl rfl 2 (by decide) (hts (.fieldLink RX8 31 "BlockLog" "rows" "LBlockLog$Rows;") (by decide +kernel)) (fun _ h9 => h9) rfl dX8_in_5 ?_
      refine vp_callSi (va_Run.run (va_runV (As := []) (rest := []) ⟨hx, hb, hml, hown, hts⟩ (v_X4_inNeed l dC dI (rU c 99 (c 99)) kc st lg ai al R  ) (cwV 0 hts gX8_in_X4_inNeed rfl rfl rfl (by decide +kernel) ⟨Nat.le_of_ble_eq_true rfl, Nat.le_of_ble_eq_true rfl⟩) ⟨fun a U g mk q => by obtain ⟨q0, qP, qK⟩ := q; exact ⟨q0, qP, va_K.moved (u := U) (U := U.calling g mk a) (Vm.Alike.refl U.vm) qK⟩, va_recv hK hP (ci := 6) (q := (RX4, TX4, 6)) rfl (q0 := 4) rfl, fun U hU hW => ⟨rfl, by rw [hU]; exact hP, va_K.moved hW.alike hK⟩⟩ rfl rfl hl.1 rfl (lv_room (Nat.le_of_ble_eq_true rfl)) dX8_in_8 ⟨by show 1 + 0 ≤ 62; omega, by show 6 + 0 ≤ 1170100; omega⟩)) (fun r_2 er_2 => ?_)
      obtain ⟨k_3, k_4⟩ := er_2
      rcases iv_01 (a := r_2) (by omega) (by omega) with b_5 | b_5
      · skip
        have ib_5 := iv_eq b_5
        rw [b_5]
        refine lv_if_eq (tgt := 17) hx hb dX8_in_11 (by decide) (fun c_6 => ?_) (fun c_6 => ?_)
        · skip
          have ic_6 := iv_eq c_6
          refine lv_aload_n hx hb dX8_in_17 rfl (lv_at hl 0 rfl) ?_
          refine va_get (D := (dC, dI)) (ci := 10) (v := .ref (c 104)) (C := RX8) (T := TX8) (N := 10) hx hb hts hin_X8 hown hK hP 0 rfl rfl 2 (by decide) (hts (.fieldLink RX8 31 "BlockLog" "rows" "LBlockLog$Rows;") (by decide +kernel)) (fun _ h9 => h9) rfl dX8_in_18 ?_
          refine va_getN (D := (dC, dI)) (ci := 6) (v := .int (st 17)) (C := RX4) (T := TX4) (N := 6) hx hb hts hin_X4 hown hK hP 4 rfl rfl 4 (by decide) (va_Nw.use rfl (hGW.1 ("BlockLog", 151, "BlockLog$Rows", "count", "I", "BlockLog") (by decide +kernel))) (fun _ h9 => h9) rfl dX8_in_21 ?_
          refine lv_if_le (tgt := 30) hx hb dX8_in_24 (by decide) (fun c_7 => ?_) (fun c_7 => ?_)
          · skip
            have ic_7 := iv_le c_7
            refine lv_aload_n hx hb dX8_in_30 rfl (lv_at hl 0 rfl) ?_
            refine va_get (D := (dC, dI)) (ci := 10) (v := .ref (c 107)) (C := RX8) (T := TX8) (N := 10) hx hb hts hin_X8 hown hK hP 0 rfl rfl 5 (by decide) (hts (.fieldLink RX8 56 "BlockLog" "snapshot" "LBlockLog$Snapshot;") (by decide +kernel)) (fun _ h9 => h9) rfl dX8_in_31 ?_
            refine lv_aload_n hx hb dX8_in_34 rfl (lv_at hl 0 rfl) ?_
            refine va_get (D := (dC, dI)) (ci := 10) (v := .ref (c 101)) (C := RX8) (T := TX8) (N := 10) hx hb hts hin_X8 hown hK hP 0 rfl rfl 0 (by decide) (hts (.fieldLink RX8 13 "BlockLog" "tape" "LBlockLog$Tape;") (by decide +kernel)) (fun _ h9 => h9) rfl dX8_in_35 ?_
            have hFc := vfree ((cw_D hD : va_D A (cw_W (rU c 99 (c 99)) kc st lg ai al R)) : va_D A (cw_W (rU c 99 (c 99)) kc st lg ai al R)) hS hA
            refine va_calli (va_runV (As := [.ref (c 101)]) (rest := []) ⟨hx, hb, hml, hown, hts⟩ (v_X5_read l dC dI (rU c 99 (c 99)) kc st lg ai al R  _ (show 0 ≤ (st 5).toInt by omega) (show (st 5).toInt ≤ 400 by omega) (show 0 ≤ (st 37).toInt by omega) (show (st 37).toInt ≤ 255 by omega) (show aR (ai 4) 400 (-128) 127 from hR4) (show aR (ai 32) 16 (0) 400 from hR32) (show aR (ai 33) 16 (0) 255 from hR33)) (cwV 1 hts gX8_in_X5_read rfl rfl rfl (by decide +kernel) ⟨Nat.le_of_ble_eq_true rfl, Nat.le_of_ble_eq_true rfl⟩) ⟨fun a U g mk q => by obtain ⟨q0, q1, qP, qK, qD, qG⟩ := q; exact ⟨q0, q1, qP, va_K.moved (u := U) (U := U.calling g mk a) (Vm.Alike.refl U.vm) qK, qD, qG.same rfl rfl⟩, va_recv hK hP (ci := 7) (q := (RX5, TX5, 7)) rfl (q0 := 7) rfl, fun U hU hW => ⟨rfl, by rw [hU], by rw [hU]; exact hP, va_K.moved hW.alike hK, ((cw_D hD : va_D A (cw_W (rU c 99 (c 99)) kc st lg ai al R))).weaken (fun _ _ _ _ => trivial), hG.go hW hU hS hFc⟩⟩ rfl rfl hl.1 rfl (lv_room (Nat.le_of_ble_eq_true rfl)) dX8_in_38 ⟨by show 1 + 0 ≤ 62; omega, by show 6 + 0 ≤ 1170100; omega⟩) hS (fun q _ h => hFc q h) hFc (fun r_8 ur_8 t H1 locs ht hvm er_8 hB hz1 hk1 hS => ?_)
            subst er_8
            obtain ⟨x35_8, x37_8, y36_8, f31_8, f32_8, f33_8, k_9, k_10, k_11, k_12, k_13, hR32, hR33, hin, hP1⟩ := hB
            rw [ht] at hP1
            clear hFc hz1 hk1 hvm hP
            subst ht
            have hP := hP1
            clear hP1
            generalize t.heap = H at hP hS ⊢
            have hP : va_P (dC, dI) vwCl (cw_W (rU c 99 (c 99)) kc (rU (rU st 35 x35_8) 37 x37_8) (rU lg 36 y36_8) (rU (rU (rU ai 31 f31_8) 32 f32_8) 33 f33_8) al R) H := hP
            have k_9 : (r_8.toInt = 1 → x37_8.toInt ≤ 16) := k_9
            have k_12 : 0 ≤ x37_8.toInt := k_12
            have k_13 : x37_8.toInt ≤ 255 := k_13
            have hR32 : aR f32_8 16 (0) 400 := hR32
            have hR33 : aR f33_8 16 (0) 255 := hR33
            have hin : r_8.toInt = 1 → inI f32_8 f33_8 x37_8 := hin
            rcases iv_01 (a := r_8) (by omega) (by omega) with b_14 | b_14
            · skip
              have ib_14 := iv_eq b_14
              rw [b_14]
              refine lv_if_ne (tgt := 47) hx hb dX8_in_41 (by decide) (fun c_15 => ?_) (fun c_15 => ?_)
              · skip
                have ic_15 := iv_ne c_15
                exfalso
                omega
              · skip
                have ic_15 := iv_eq c_15
                refine lv_bipush (v := (-10)) hx hb dX8_in_44 (by decide) ?_
                refine W_read (fun hu1 hu2 => ?_)
                refine W.widen (k := 62) (n := 1170100) (by omega) (by omega) ?_
                refine vx_ret ?_
                exact W.iret hx hb hr (fun t ht hW => ⟨⟨_, _, rfl, rfl, st 5, st 9, st 10, st 11, st 12, st 13, st 17, st 25, st 26, st 27, st 28, st 29, x35_8, x37_8, y36_8, ai 0, ai 7, ai 8, ai 14, ai 20, ai 21, ai 22, ai 23, f31_8, f32_8, f33_8, al 19, al 34, c 99, cap, num, R, (by omega), (by omega), (by omega), (by omega), (by omega), (by omega), (by omega), (by omega), (by omega), (by omega), (by omega), (by omega), (by omega), (by omega), (by omega), (by omega), (by omega), (by omega), hR7, hR23, hR32, hR33, hPI, hmono, (cw_D hD), hN, hc0, hcp, (by omega), (by omega), (by rw [ht]; omega), (by rw [ht]; omega), by rw [ht]; exact hP⟩, hS.F ht⟩) hS.2.2 dX8_in_46
            · skip
              have ib_14 := iv_eq b_14
              rw [b_14]
              refine lv_if_ne (tgt := 47) hx hb dX8_in_41 (by decide) (fun c_16 => ?_) (fun c_16 => ?_)
              · skip
                have ic_16 := iv_ne c_16
                refine lv_aload_n hx hb dX8_in_47 rfl (lv_at hl 0 rfl) ?_
                have hFc := vfree ((cw_D hD : va_D A (cw_W (rU c 99 (c 99)) kc (rU (rU st 35 x35_8) 37 x37_8) (rU lg 36 y36_8) (rU (rU (rU ai 31 f31_8) 32 f32_8) 33 f33_8) al R)) : va_D A (cw_W (rU c 99 (c 99)) kc (rU (rU st 35 x35_8) 37 x37_8) (rU lg 36 y36_8) (rU (rU (rU ai 31 f31_8) 32 f32_8) 33 f33_8) al R)) hS hA
                refine va_calli (va_runV (As := []) (rest := []) ⟨hx, hb, hml, hown, hts⟩ (v_X8_newLeaves l dC dI (rU c 99 (c 99)) kc (rU (rU st 35 x35_8) 37 x37_8) (rU lg 36 y36_8) (rU (rU (rU ai 31 f31_8) 32 f32_8) 33 f33_8) al R cap num  _ hPI (show 0 ≤ (st 13).toInt by omega) (show (st 13).toInt ≤ 65536 by omega) (show 0 ≤ x37_8.toInt by omega) (show x37_8.toInt ≤ 255 by omega) (show x37_8.toInt ≤ 16 by omega) (show aR (ai 4) 400 (-128) 127 from hR4) (show aR f32_8 16 (0) 400 from hR32) (show aR f33_8 16 (0) 255 from hR33) (show inI f32_8 f33_8 x37_8 from (hin (by omega)))) (cwV 0 hts gX8_in_X8_newLeaves rfl rfl rfl (by decide +kernel) ⟨Nat.le_of_ble_eq_true rfl, Nat.le_of_ble_eq_true rfl⟩) ⟨fun a U g mk q => by obtain ⟨q0, q1, qP, qK, qD, qG⟩ := q; exact ⟨q0, q1, qP, va_K.moved (u := U) (U := U.calling g mk a) (Vm.Alike.refl U.vm) qK, qD, qG.same rfl rfl⟩, va_recv hK hP (ci := 10) (q := (RX8, TX8, 10)) rfl (q0 := 0) rfl, fun U hU hW => ⟨rfl, by rw [hU], by rw [hU]; exact hP, va_K.moved hW.alike hK, ((cw_D hD : va_D A (cw_W (rU c 99 (c 99)) kc (rU (rU st 35 x35_8) 37 x37_8) (rU lg 36 y36_8) (rU (rU (rU ai 31 f31_8) 32 f32_8) 33 f33_8) al R))).weaken (fun _ _ _ _ => trivial), hG.go hW hU hS hFc⟩⟩ rfl rfl hl.1 rfl (lv_room (Nat.le_of_ble_eq_true rfl)) dX8_in_48 ⟨by show 1 + 0 ≤ 62; omega, by show 6 + 0 ≤ 1170100; omega⟩) hS (fun q _ h => hFc q h) hFc (fun r_17 ur_17 t H1 locs ht hvm er_17 hB hz1 hk1 hS => ?_)
                subst er_17
                obtain ⟨f0_17, R_17, hPI, hmo, hD1, hP1⟩ := hB
                rw [ht] at hP1
                clear hz1 hk1 hvm hP
                subst ht
                have hP := hP1
                clear hP1
                generalize t.heap = H at hP hS ⊢
                have hP : va_P (dC, dI) vwCl (cw_W (rU c 99 (c 99)) kc (rU (rU st 35 x35_8) 37 x37_8) (rU lg 36 y36_8) (rU (rU (rU (rU ai 0 f0_17) 31 f31_8) 32 f32_8) 33 f33_8) al R_17) H := hP
                have hD : va_D A (cw_W (rU c 99 (c 99)) kc st lg ai al R_17) := cw_D (hD1.weaken (fun _ _ _ h => hFc _ h))
                have hPI : PI (kc 98) (kc 0) (c 99) (st 13) cap num none R_17 := hPI
                clear hFc hD1
                have hmono : ∀ y m, pgM (kc 0) R y m → pgM (kc 0) R_17 y m := fun y m h => hmo y m (hmono y m h)
                refine lv_aload_n hx hb dX8_in_51 rfl (lv_at hl 0 rfl) ?_
                refine va_get (D := (dC, dI)) (ci := 10) (v := .ref (c 102)) (C := RX8) (T := TX8) (N := 10) hx hb hts hin_X8 hown hK hP 0 rfl rfl 1 (by decide) (hts (.fieldLink RX8 22 "BlockLog" "disk" "LBlockLog$Disk;") (by decide +kernel)) (fun _ h9 => h9) rfl dX8_in_52 ?_
                have hFc := vfree ((cw_D hD : va_D A (cw_W (rU c 99 (c 99)) kc (rU (rU st 35 x35_8) 37 x37_8) (rU lg 36 y36_8) (rU (rU (rU (rU ai 0 f0_17) 31 f31_8) 32 f32_8) 33 f33_8) al R_17)) : va_D A (cw_W (rU c 99 (c 99)) kc (rU (rU st 35 x35_8) 37 x37_8) (rU lg 36 y36_8) (rU (rU (rU (rU ai 0 f0_17) 31 f31_8) 32 f32_8) 33 f33_8) al R_17)) hS hA
                refine va_calli (va_runV (As := []) (rest := [.int r_17]) ⟨hx, hb, hml, hown, hts⟩ (v_X1_freePages l dC dI (rU c 99 (c 99)) kc (rU (rU st 35 x35_8) 37 x37_8) (rU lg 36 y36_8) (rU (rU (rU (rU ai 0 f0_17) 31 f31_8) 32 f32_8) 33 f33_8) al R_17 cap num  _ hPI (show 1 ≤ (st 6).toInt by omega) (show (st 6).toInt ≤ 65536 by omega) (show 0 ≤ (st 13).toInt by omega) (show (st 13).toInt ≤ 65536 by omega)) (cwV 0 hts gX8_in_X1_freePages rfl rfl rfl (by decide +kernel) ⟨Nat.le_of_ble_eq_true rfl, Nat.le_of_ble_eq_true rfl⟩) ⟨fun a U g mk q => by obtain ⟨q0, q1, qP, qK, qD, qG⟩ := q; exact ⟨q0, q1, qP, va_K.moved (u := U) (U := U.calling g mk a) (Vm.Alike.refl U.vm) qK, qD, qG.same rfl rfl⟩, va_recv hK hP (ci := 3) (q := (RX1, TX1, 7)) rfl (q0 := 2) rfl, fun U hU hW => ⟨rfl, by rw [hU], by rw [hU]; exact hP, va_K.moved hW.alike hK, ((cw_D hD : va_D A (cw_W (rU c 99 (c 99)) kc (rU (rU st 35 x35_8) 37 x37_8) (rU lg 36 y36_8) (rU (rU (rU (rU ai 0 f0_17) 31 f31_8) 32 f32_8) 33 f33_8) al R_17))).weaken (fun _ _ _ _ => trivial), hG.go hW hU hS hFc⟩⟩ rfl rfl hl.1 rfl (lv_room (Nat.le_of_ble_eq_true rfl)) dX8_in_55 ⟨by show 1 + 0 ≤ 62; omega, by show 6 + 0 ≤ 1170100; omega⟩) hS (fun q _ h => hFc q h) hFc (fun r_18 ur_18 t H1 locs ht hvm er_18 hB hz1 hk1 hS => ?_)
                subst er_18
                obtain ⟨R_18, hPI, hmo, hD1, hP1⟩ := hB
                rw [ht] at hP1
                clear hz1 hk1 hvm hP
                subst ht
                have hP := hP1
                clear hP1
                generalize t.heap = H at hP hS ⊢
                have hP : va_P (dC, dI) vwCl (cw_W (rU c 99 (c 99)) kc (rU (rU st 35 x35_8) 37 x37_8) (rU lg 36 y36_8) (rU (rU (rU (rU ai 0 f0_17) 31 f31_8) 32 f32_8) 33 f33_8) al R_18) H := hP
                have hD : va_D A (cw_W (rU c 99 (c 99)) kc st lg ai al R_18) := cw_D (hD1.weaken (fun _ _ _ h => hFc _ h))
                have hPI : PI (kc 98) (kc 0) (c 99) (st 13) cap num none R_18 := hPI
                clear hFc hD1
                have hmono : ∀ y m, pgM (kc 0) R y m → pgM (kc 0) R_18 y m := fun y m h => hmo y m (hmono y m h)
                refine lv_icmp_le (tgt := 64) hx hb dX8_in_58 (by decide) (fun c_19 => ?_) (fun c_19 => ?_)
                · skip
                  have ic_19 := iv_le c_19
                  refine lv_aload_n hx hb dX8_in_64 rfl (lv_at hl 0 rfl) ?_
                  refine va_get (D := (dC, dI)) (ci := 10) (v := .ref (c 101)) (C := RX8) (T := TX8) (N := 10) hx hb hts hin_X8 hown hK hP 0 rfl rfl 0 (by decide) (hts (.fieldLink RX8 13 "BlockLog" "tape" "LBlockLog$Tape;") (by decide +kernel)) (fun _ h9 => h9) rfl dX8_in_65 ?_
                  refine lv_iconst (v := 0) hx hb dX8_in_68 (by decide) ?_
                  refine va_putN (D := (dC, dI)) (ci := 9) (v := .int (0 : Int32)) (ty := .int) (C := RX7) (T := TX7) (N := 2) hx hb hts hin_X7 tyX7 tyX7_ok nmX7 hown hK hP (cw_D hD) hS 1 rfl rfl 1 (by decide) (va_Nw.use rfl (hGW.1 ("BlockLog", 83, "BlockLog$Tape", "count", "I", "BlockLog") (by decide +kernel))) (fun _ h9 => h9) rfl (by decide +kernel) rfl rfl (Nat.le_of_ble_eq_true rfl) dX8_in_69 (fun H locs hP _ hS => ?_)
                  have hP : va_P (dC, dI) vwCl (cw_W (rU c 99 (c 99)) kc (rU (rU (rU st 5 (0 : Int32)) 35 x35_8) 37 x37_8) (rU lg 36 y36_8) (rU (rU (rU (rU ai 0 f0_17) 31 f31_8) 32 f32_8) 33 f33_8) al R_18) H := hP
                  refine lv_aload_n hx hb dX8_in_72 rfl (lv_at hl 0 rfl) ?_
                  refine W_read (fun hu1 hu2 => ?_)
                  have hFc := vfree ((cw_D hD : va_D A (cw_W (rU c 99 (c 99)) kc (rU (rU (rU st 5 (0 : Int32)) 35 x35_8) 37 x37_8) (rU lg 36 y36_8) (rU (rU (rU (rU ai 0 f0_17) 31 f31_8) 32 f32_8) 33 f33_8) al R_18)) : va_D A (cw_W (rU c 99 (c 99)) kc (rU (rU (rU st 5 (0 : Int32)) 35 x35_8) 37 x37_8) (rU lg 36 y36_8) (rU (rU (rU (rU ai 0 f0_17) 31 f31_8) 32 f32_8) 33 f33_8) al R_18)) hS hA
                  refine va_calli (va_runV (As := []) (rest := []) ⟨hx, hb, hml, hown, hts⟩ (v_X8_putSnapshot l dC dI (rU c 99 (c 99)) kc (rU (rU (rU st 5 (0 : Int32)) 35 x35_8) 37 x37_8) (rU lg 36 y36_8) (rU (rU (rU (rU ai 0 f0_17) 31 f31_8) 32 f32_8) 33 f33_8) al R_18 cap num  _ _ hPI hN (show 1 ≤ (st 6).toInt by omega) (show (st 6).toInt ≤ 65536 by omega) (show 0 ≤ (st 9).toInt by omega) (show (st 9).toInt ≤ 1 by omega) (show 0 ≤ (st 13).toInt by omega) (show (st 13).toInt ≤ 65536 by omega) (show 0 ≤ (st 15).toInt by omega) (show (st 15).toInt ≤ 1 by omega) (show 0 ≤ (st 17).toInt by omega) (show (st 17).toInt ≤ 128 by omega) (show 0 ≤ (st 25).toInt by omega) (show (st 25).toInt ≤ 128 by omega) (show 0 ≤ (st 26).toInt by omega) (show (st 26).toInt ≤ 128 by omega) (show -1 ≤ (st 27).toInt by omega) (show (st 27).toInt ≤ 127 by omega) (show 0 ≤ (st 28).toInt by omega) (show (st 28).toInt ≤ 1 by omega) (show 0 ≤ x37_8.toInt by omega) (show x37_8.toInt ≤ 255 by omega) (show x37_8.toInt ≤ 16 by omega) (show aR (ai 4) 400 (-128) 127 from hR4) (show aR (ai 7) 8224 (-128) 127 from hR7) (show aR (ai 23) 128 (0) 127 from hR23) (show aR f32_8 16 (0) 400 from hR32) (show aR f33_8 16 (0) 255 from hR33)) (cwV 0 hts gX8_in_X8_putSnapshot rfl rfl rfl (by decide +kernel) ⟨Nat.le_of_ble_eq_true rfl, Nat.le_of_ble_eq_true rfl⟩) ⟨fun a U g mk q => by obtain ⟨q0, q1, q2, qP, qK, qD, qG⟩ := q; exact ⟨q0, q1, q2, qP, va_K.moved (u := U) (U := U.calling g mk a) (Vm.Alike.refl U.vm) qK, qD, qG.same rfl rfl⟩, va_recv hK hP (ci := 10) (q := (RX8, TX8, 10)) rfl (q0 := 0) rfl, fun U hU hW => ⟨rfl, by rw [hU], by rw [hU], by rw [hU]; exact hP, va_K.moved hW.alike hK, ((cw_D hD : va_D A (cw_W (rU c 99 (c 99)) kc (rU (rU (rU st 5 (0 : Int32)) 35 x35_8) 37 x37_8) (rU lg 36 y36_8) (rU (rU (rU (rU ai 0 f0_17) 31 f31_8) 32 f32_8) 33 f33_8) al R_18))).weaken (fun _ _ _ _ => trivial), hY.go hW hU hS hFc hc0⟩⟩ rfl rfl hl.1 rfl (lv_room (Nat.le_of_ble_eq_true rfl)) dX8_in_73 ⟨by show 1 + 60 ≤ 62; omega, by show 6 + 1170000 ≤ 1170100; omega⟩) hS (fun q _ h => hFc q h) hFc (fun r_20 ur_20 t H1 locs ht hvm er_20 hB hz1 hk1 hS => ?_)
                  subst er_20
                  obtain ⟨x9_20, x10_20, x11_20, x12_20, x13_20, x17_20, x25_20, x26_20, x27_20, x28_20, x29_20, f0_20, f7_20, f8_20, f14_20, f20_20, f21_20, f22_20, f23_20, g19_20, g34_20, e_20, cap_20, num_20, R_20, k_21, k_22, k_23, k_24, k_25, k_26, k_27, k_28, k_29, k_30, k_31, k_32, k_33, k_34, k_35, k_36, hR7, hR23, hPI, hmo, hD1, hN, hc1, hcp1, hnn1, hnn2, hus1, hus2, hP1⟩ := hB
                  rw [ht] at hP1
                  clear hz1 hk1 hvm hP
                  subst ht
                  have hP := hP1
                  clear hP1
                  generalize t.heap = H at hP hS hus1 hus2 ⊢
                  rw [rU_rU (f := c) (k := 99) (a := (c 99)) (b := e_20)] at hP
                  have hP : va_P (dC, dI) vwCl (cw_W (rU c 99 e_20) kc (rU (rU (rU (rU (rU (rU (rU (rU (rU (rU (rU (rU (rU (rU st 5 (0 : Int32)) 9 x9_20) 10 x10_20) 11 x11_20) 12 x12_20) 13 x13_20) 17 x17_20) 25 x25_20) 26 x26_20) 27 x27_20) 28 x28_20) 29 x29_20) 35 x35_8) 37 x37_8) (rU lg 36 y36_8) (rU (rU (rU (rU (rU (rU (rU (rU (rU (rU (rU ai 0 f0_20) 7 f7_20) 8 f8_20) 14 f14_20) 20 f20_20) 21 f21_20) 22 f22_20) 23 f23_20) 31 f31_8) 32 f32_8) 33 f33_8) (rU (rU al 19 g19_20) 34 g34_20) R_20) H := hP
                  rw [rU_rU (f := c) (k := 99) (a := (c 99)) (b := e_20)] at hD1
                  have hD : va_D A (cw_W (rU c 99 e_20) kc st lg ai al R_20) := cw_D (hD1.weaken (fun _ _ _ h => hFc _ h))
                  have hc0 : cap_20 = 0 → cap = 0 ∧ e_20 = c 99 := fun h => ⟨(hc0 (hc1 h).1).1, (show e_20 = c 99 from (hc1 h).2).trans (hc0 (hc1 h).1).2⟩
                  have hcp : cap ≤ cap_20 := Nat.le_trans hcp hcp1
                  have hN1 : ((cap_20 : Nat) : Int) ≤ 10 + 2 * x13_20.toInt := hN.1
                  have hnn1 : (st 13).toInt ≤ x13_20.toInt := hnn1
                  have hnn2 : x13_20.toInt ≤ (st 13).toInt + 16 := hnn2
                  have hus1 : ((H.size : Nat) : Int) ≤ _ + 0 + 3 * (x13_20.toInt - (st 13).toInt) := hus1
                  have hus2 : ((tot H : Nat) : Int) ≤ _ + 0 + 29 * (x13_20.toInt - (st 13).toInt) + 4 * (((cap_20 : Nat) : Int) - ((cap : Nat) : Int)) := hus2
                  obtain ⟨k_37, hk_37⟩ : ∃ k9 : Nat, (k9 : Int) = ((1 : Nat) : Int) + 0 + 3 * (x13_20.toInt - (st 13).toInt) := ⟨(((1 : Nat) : Int) + 0 + 3 * (x13_20.toInt - (st 13).toInt)).toNat, by omega⟩
                  obtain ⟨m_37, hm_37⟩ : ∃ m9 : Nat, (m9 : Int) = ((6 : Nat) : Int) + 0 + 29 * (x13_20.toInt - (st 13).toInt) + 4 * (((cap_20 : Nat) : Int) - ((cap : Nat) : Int)) := ⟨(((6 : Nat) : Int) + 0 + 29 * (x13_20.toInt - (st 13).toInt) + 4 * (((cap_20 : Nat) : Int) - ((cap : Nat) : Int))).toNat, by omega⟩
                  refine W_tight (k' := k_37) (m' := m_37) (by omega) (by omega) ?_
                  clear hus1 hus2 hu1 hu2
                  have hPI : PI (kc 98) (kc 0) e_20 x13_20 cap_20 num_20 none R_20 := hPI
                  clear hFc hD1
                  have hmono : ∀ y m, pgM (kc 0) R y m → pgM (kc 0) R_20 y m := fun y m h => hmo y m (hmono y m h)
                  have k_23 : 0 ≤ x9_20.toInt := k_23
                  have k_24 : x9_20.toInt ≤ 1 := k_24
                  have k_25 : 0 ≤ x13_20.toInt := k_25
                  have k_26 : x13_20.toInt ≤ 65536 := k_26
                  have k_27 : 0 ≤ x17_20.toInt := k_27
                  have k_28 : x17_20.toInt ≤ 128 := k_28
                  have k_29 : 0 ≤ x25_20.toInt := k_29
                  have k_30 : x25_20.toInt ≤ 128 := k_30
                  have k_31 : 0 ≤ x26_20.toInt := k_31
                  have k_32 : x26_20.toInt ≤ 128 := k_32
                  have k_33 : -1 ≤ x27_20.toInt := k_33
                  have k_34 : x27_20.toInt ≤ 127 := k_34
                  have k_35 : 0 ≤ x28_20.toInt := k_35
                  have k_36 : x28_20.toInt ≤ 1 := k_36
                  have hR7 : aR f7_20 8224 (-128) 127 := hR7
                  have hR23 : aR f23_20 128 (0) 127 := hR23
                  rcases iv_01 (a := r_20) (by omega) (by omega) with b_38 | b_38
                  · skip
                    have ib_38 := iv_eq b_38
                    rw [b_38]
                    refine lv_if_eq (tgt := 89) hx hb dX8_in_76 (by decide) (fun c_39 => ?_) (fun c_39 => ?_)
                    · skip
                      have ic_39 := iv_eq c_39
                      refine lv_bipush (v := (-4)) hx hb dX8_in_89 (by decide) ?_
                      refine W_read (fun hu1 hu2 => ?_)
                      refine W.widen (k := 62) (n := 1170100) (by omega) (by omega) ?_
                      refine vx_ret ?_
                      exact W.iret hx hb hr (fun t ht hW => ⟨⟨_, _, rfl, rfl, (0 : Int32), x9_20, x10_20, x11_20, x12_20, x13_20, x17_20, x25_20, x26_20, x27_20, x28_20, x29_20, x35_8, x37_8, y36_8, f0_20, f7_20, f8_20, f14_20, f20_20, f21_20, f22_20, f23_20, f31_8, f32_8, f33_8, g19_20, g34_20, e_20, cap_20, num_20, R_20, (by omega), (by omega), (by omega), (by omega), (by omega), (by omega), (by omega), (by omega), (by omega), (by omega), (by omega), (by omega), (by omega), (by omega), (by omega), (by omega), (by omega), (by omega), hR7, hR23, hR32, hR33, hPI, hmono, (cw_D hD), hN, hc0, hcp, (by omega), (by omega), (by rw [ht]; omega), (by rw [ht]; omega), by rw [ht]; exact hP⟩, hS.F ht⟩) hS.2.2 dX8_in_91
                    · skip
                      have ic_39 := iv_ne c_39
                      exfalso
                      omega
                  · skip
                    have ib_38 := iv_eq b_38
                    rw [b_38]
                    refine lv_if_eq (tgt := 89) hx hb dX8_in_76 (by decide) (fun c_40 => ?_) (fun c_40 => ?_)
                    · skip
                      have ic_40 := iv_eq c_40
                      exfalso
                      omega
                    · skip
                      have ic_40 := iv_ne c_40
                      refine lv_aload_n hx hb dX8_in_79 rfl (lv_at hl 0 rfl) ?_
                      refine va_get (D := (dC, dI)) (ci := 10) (v := .ref (c 107)) (C := RX8) (T := TX8) (N := 10) hx hb hts hin_X8 hown hK hP 0 rfl rfl 5 (by decide) (hts (.fieldLink RX8 56 "BlockLog" "snapshot" "LBlockLog$Snapshot;") (by decide +kernel)) (fun _ h9 => h9) rfl dX8_in_80 ?_
                      refine va_getN (D := (dC, dI)) (ci := 7) (v := .int x35_8) (C := RX5) (T := TX5) (N := 7) hx hb hts hin_X5 hown hK hP 7 rfl rfl 4 (by decide) (va_Nw.use rfl (hGW.1 ("BlockLog", 279, "BlockLog$Snapshot", "height", "I", "BlockLog") (by decide +kernel))) (fun _ h9 => h9) rfl dX8_in_83 ?_
                      refine lv_goto (tgt := 91) hx hb dX8_in_86 (by decide) ?_
                      refine W_read (fun hu1 hu2 => ?_)
                      refine W.widen (k := 62) (n := 1170100) (by omega) (by omega) ?_
                      refine vx_ret ?_
                      exact W.iret hx hb hr (fun t ht hW => ⟨⟨_, _, rfl, rfl, (0 : Int32), x9_20, x10_20, x11_20, x12_20, x13_20, x17_20, x25_20, x26_20, x27_20, x28_20, x29_20, x35_8, x37_8, y36_8, f0_20, f7_20, f8_20, f14_20, f20_20, f21_20, f22_20, f23_20, f31_8, f32_8, f33_8, g19_20, g34_20, e_20, cap_20, num_20, R_20, (by omega), (by omega), (by omega), (by omega), (by omega), (by omega), (by omega), (by omega), (by omega), (by omega), (by omega), (by omega), (by omega), (by omega), (by omega), (by omega), (by omega), (by omega), hR7, hR23, hR32, hR33, hPI, hmono, (cw_D hD), hN, hc0, hcp, (by omega), (by omega), (by rw [ht]; omega), (by rw [ht]; omega), by rw [ht]; exact hP⟩, hS.F ht⟩) hS.2.2 dX8_in_91
                · skip
                  have ic_19 := iv_nle c_19
                  refine lv_bipush (v := (-2)) hx hb dX8_in_61 (by decide) ?_
                  refine W_read (fun hu1 hu2 => ?_)
                  refine W.widen (k := 62) (n := 1170100) (by omega) (by omega) ?_
                  refine vx_ret ?_
                  exact W.iret hx hb hr (fun t ht hW => ⟨⟨_, _, rfl, rfl, st 5, st 9, st 10, st 11, st 12, st 13, st 17, st 25, st 26, st 27, st 28, st 29, x35_8, x37_8, y36_8, f0_17, ai 7, ai 8, ai 14, ai 20, ai 21, ai 22, ai 23, f31_8, f32_8, f33_8, al 19, al 34, c 99, cap, num, R_18, (by omega), (by omega), (by omega), (by omega), (by omega), (by omega), (by omega), (by omega), (by omega), (by omega), (by omega), (by omega), (by omega), (by omega), (by omega), (by omega), (by omega), (by omega), hR7, hR23, hR32, hR33, hPI, hmono, (cw_D hD), hN, hc0, hcp, (by omega), (by omega), (by rw [ht]; omega), (by rw [ht]; omega), by rw [ht]; exact hP⟩, hS.F ht⟩) hS.2.2 dX8_in_63
              · skip
                have ic_16 := iv_eq c_16
                exfalso
                omega
          · skip
            have ic_7 := iv_nle c_7
            refine lv_bipush (v := (-9)) hx hb dX8_in_27 (by decide) ?_
            refine W_read (fun hu1 hu2 => ?_)
            refine W.widen (k := 62) (n := 1170100) (by omega) (by omega) ?_
            refine vx_ret ?_
            exact W.iret hx hb hr (fun t ht hW => ⟨⟨_, _, rfl, rfl, st 5, st 9, st 10, st 11, st 12, st 13, st 17, st 25, st 26, st 27, st 28, st 29, st 35, st 37, lg 36, ai 0, ai 7, ai 8, ai 14, ai 20, ai 21, ai 22, ai 23, ai 31, ai 32, ai 33, al 19, al 34, c 99, cap, num, R, (by omega), (by omega), (by omega), (by omega), (by omega), (by omega), (by omega), (by omega), (by omega), (by omega), (by omega), (by omega), (by omega), (by omega), (by omega), (by omega), (by omega), (by omega), hR7, hR23, hR32, hR33, hPI, hmono, (cw_D hD), hN, hc0, hcp, (by omega), (by omega), (by rw [ht]; omega), (by rw [ht]; omega), by rw [ht]; exact hP⟩, hS.F ht⟩) hS.2.2 dX8_in_29
        · skip
          have ic_6 := iv_ne c_6
          exfalso
          omega
      · skip
        have ib_5 := iv_eq b_5
        rw [b_5]
        refine lv_if_eq (tgt := 17) hx hb dX8_in_11 (by decide) (fun c_41 => ?_) (fun c_41 => ?_)
        · skip
          have ic_41 := iv_eq c_41
          exfalso
          omega
        · skip
          have ic_41 := iv_ne c_41
          refine lv_bipush (v := (-3)) hx hb dX8_in_14 (by decide) ?_
          refine W_read (fun hu1 hu2 => ?_)
          refine W.widen (k := 62) (n := 1170100) (by omega) (by omega) ?_
          refine vx_ret ?_
          exact W.iret hx hb hr (fun t ht hW => ⟨⟨_, _, rfl, rfl, st 5, st 9, st 10, st 11, st 12, st 13, st 17, st 25, st 26, st 27, st 28, st 29, st 35, st 37, lg 36, ai 0, ai 7, ai 8, ai 14, ai 20, ai 21, ai 22, ai 23, ai 31, ai 32, ai 33, al 19, al 34, c 99, cap, num, R, (by omega), (by omega), (by omega), (by omega), (by omega), (by omega), (by omega), (by omega), (by omega), (by omega), (by omega), (by omega), (by omega), (by omega), (by omega), (by omega), (by omega), (by omega), hR7, hR23, hR32, hR33, hPI, hmono, (cw_D hD), hN, hc0, hcp, (by omega), (by omega), (by rw [ht]; omega), (by rw [ht]; omega), by rw [ht]; exact hP⟩, hS.F ht⟩) hS.2.2 dX8_in_16
  exact main s.heap [] hP hS
