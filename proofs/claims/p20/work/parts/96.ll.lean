set_option maxHeartbeats 4000000 in
set_option maxRecDepth 100000 in
theorem lw_loop {p : Program} {e : Env} {s : State} {m : MethodId} {below : List Frame} {meth : Method} {cM : Code} (l : Launch) (hl0 : l.stackTraces = false) {A : Nat → Prop} {dC : Nat → ClassId} {dI : Nat → Nat → Nat} {b L e0 : Nat} {xs : Nat → Int32} (kc kR : Nat → ClassId) (ko : ClassId) (oa o : Nat) (cR : Nat → Nat) (C0 : lwB p s m meth cM b L xs A e0) (hK : va_K (dC, dI) vwCl (cw_T kc) s) (hKo : va_K (dC, dI) vwCl [(ko, .long)] s) (hKR : va_K (dC, dI) vwCl (rw_T kR) s) (hL : L ≤ 2561) (KB MB : Int) (hKB : KB ≤ 1000) (hMB : MB ≤ 1000000) (n : Nat) : ∀ (c : Nat → Nat) (st : Nat → Int32) (lg : Nat → Int64) (ai : Nat → Nat → Int32) (al : Nat → Nat → Int64) (R : va_W) (cap : Nat) (num : Nat → Int32) (fo : Nat → Int64) (stR : Nat → Int32) (lgR : Nat → Int64) (aiR : Nat → Nat → Int32) (alR : Nat → Nat → Int64) (H : Heap) (locs : List Loc) (ls : Array Slot) (i : Int32) (k K0 M0 : Nat) (hi : i.toInt = 1 + 5 * (k : Int)) (hn : (st 13).toInt ≤ 16 * (k : Int)) (hKk : (K0 : Int) ≤ KB + 3 * (k : Int) + 3 * (st 13).toInt) (hMk : (M0 : Int) ≤ MB + 18 * (k : Int) + 29 * (st 13).toInt + 4 * (cap : Int)) (hkL : 5 * (k : Int) ≤ (L : Int) + 5), (L : Int) - i.toInt < n → lwS (dC, dI) A s e0 kc kR ko oa o cR c st lg ai al R cap num fo stR lgR aiR alR H locs → lv_has ls 8 [(4, .int i), (3, .ref oa), (2, .ref o), (1, .ref (c 100)), (0, .ref b)] → W p l e room_1 s m #[Value.ref b] below meth cM H locs K0 M0 (lw_Z below #[Value.ref b] s) (F0 m 33 ls []) := by
  induction n with
  | zero =>
    intro c st lg ai al R cap num fo stR lgR aiR alR H locs ls i k K0 M0 hi hn hKk hMk hkL hm hS0 hl
    obtain ⟨hx, hb, hr, hml, hown, hts, hX, hbl, hlocks, hA, hA9, hbA, hY⟩ := id C0
    have hS := hS0.2.2.2.2.2.2.2.2
    have hN1 : (cap : Int) ≤ 10 + 2 * (st 13).toInt := by have hI := hS0.1; obtain ⟨⟨hf3a, hf3b⟩, ⟨hf5a, hf5b⟩, ⟨hf6a, hf6b⟩, ⟨hf9a, hf9b⟩, ⟨hf13a, hf13b⟩, ⟨hf15a, hf15b⟩, ⟨hf17a, hf17b⟩, ⟨hf25a, hf25b⟩, ⟨hf26a, hf26b⟩, ⟨hf27a, hf27b⟩, ⟨hf28a, hf28b⟩, ⟨hf37a, hf37b⟩, hR4, hR7, hR23, hR32, hR33, hPI, hN⟩ := hI; exact hN.1
    have hn0 : 0 ≤ (st 13).toInt := by have hI := hS0.1; obtain ⟨⟨hf3a, hf3b⟩, ⟨hf5a, hf5b⟩, ⟨hf6a, hf6b⟩, ⟨hf9a, hf9b⟩, ⟨hf13a, hf13b⟩, ⟨hf15a, hf15b⟩, ⟨hf17a, hf17b⟩, ⟨hf25a, hf25b⟩, ⟨hf26a, hf26b⟩, ⟨hf27a, hf27b⟩, ⟨hf28a, hf28b⟩, ⟨hf37a, hf37b⟩, hR4, hR7, hR23, hR32, hR33, hPI, hN⟩ := hI; exact hf13a
    have rgi := iv_rng i
    refine lv_iload hx hb dL_law_33 (lv_at hl 0 rfl) ?_
    refine lv_aload_n hx hb dL_law_35 rfl (lv_at hl 4 rfl) ?_
    refine va_slen hx hb hX hbl hbA hS dL_law_36 ?_
    refine lv_topi (fun v0 ev0 => ?_)
    have hv0 := ofn_i ev0 (by omega)
    refine lv_iconst (v := 5) hx hb dL_law_37 (by decide) ?_
    refine lv_isub hx hb dL_law_38 ?_
    have z5 : (5 : Int32).toInt = 5 := by decide
    refine lv_topi (fun v1 ev1 => ?_)
    have hv1 : v1.toInt = v0.toInt - 5 := by rw [ev1]; exact (iv_sub (by omega) (by omega)).trans (by omega)
    refine lv_icmp_gt (tgt := 1109) hx hb dL_law_39 (by decide) (fun c_1 => ?_) (fun c_1 => ?_)
    · refine lv_iconst (v := 1) hx hb dL_law_1109 (by decide) ?_
      refine va_forget (fun q hq => hA9 _ (hS.2.2 q hq)) ?_
      refine W.widen (k := 601024) (n := 7293000) (by omega) (by omega) ?_
      exact lw_ret hx hb hr hlocks dL_law_1110
    · exfalso
      have := iv_nlt c_1
      omega
  | succ n ih =>
    intro c st lg ai al R cap num fo stR lgR aiR alR H locs ls i k K0 M0 hi hn hKk hMk hkL hm hS0 hl
    obtain ⟨hx, hb, hr, hml, hown, hts, hX, hbl, hlocks, hA, hA9, hbA, hY⟩ := id C0
    have hS := hS0.2.2.2.2.2.2.2.2
    have hN1 : (cap : Int) ≤ 10 + 2 * (st 13).toInt := by have hI := hS0.1; obtain ⟨⟨hf3a, hf3b⟩, ⟨hf5a, hf5b⟩, ⟨hf6a, hf6b⟩, ⟨hf9a, hf9b⟩, ⟨hf13a, hf13b⟩, ⟨hf15a, hf15b⟩, ⟨hf17a, hf17b⟩, ⟨hf25a, hf25b⟩, ⟨hf26a, hf26b⟩, ⟨hf27a, hf27b⟩, ⟨hf28a, hf28b⟩, ⟨hf37a, hf37b⟩, hR4, hR7, hR23, hR32, hR33, hPI, hN⟩ := hI; exact hN.1
    have hn0 : 0 ≤ (st 13).toInt := by have hI := hS0.1; obtain ⟨⟨hf3a, hf3b⟩, ⟨hf5a, hf5b⟩, ⟨hf6a, hf6b⟩, ⟨hf9a, hf9b⟩, ⟨hf13a, hf13b⟩, ⟨hf15a, hf15b⟩, ⟨hf17a, hf17b⟩, ⟨hf25a, hf25b⟩, ⟨hf26a, hf26b⟩, ⟨hf27a, hf27b⟩, ⟨hf28a, hf28b⟩, ⟨hf37a, hf37b⟩, hR4, hR7, hR23, hR32, hR33, hPI, hN⟩ := hI; exact hf13a
    have rgi := iv_rng i
    refine lv_iload hx hb dL_law_33 (lv_at hl 0 rfl) ?_
    refine lv_aload_n hx hb dL_law_35 rfl (lv_at hl 4 rfl) ?_
    refine va_slen hx hb hX hbl hbA hS dL_law_36 ?_
    refine lv_topi (fun v0 ev0 => ?_)
    have hv0 := ofn_i ev0 (by omega)
    refine lv_iconst (v := 5) hx hb dL_law_37 (by decide) ?_
    refine lv_isub hx hb dL_law_38 ?_
    have z5 : (5 : Int32).toInt = 5 := by decide
    refine lv_topi (fun v1 ev1 => ?_)
    have hv1 : v1.toInt = v0.toInt - 5 := by rw [ev1]; exact (iv_sub (by omega) (by omega)).trans (by omega)
    refine lv_icmp_gt (tgt := 1109) hx hb dL_law_39 (by decide) (fun c_1 => ?_) (fun c_1 => ?_)
    · refine lv_iconst (v := 1) hx hb dL_law_1109 (by decide) ?_
      refine va_forget (fun q hq => hA9 _ (hS.2.2 q hq)) ?_
      refine W.widen (k := 601024) (n := 7293000) (by omega) (by omega) ?_
      exact lw_ret hx hb hr hlocks dL_law_1110
    · have ic := iv_nlt c_1
      have next : ∀ (e9 : Nat) (st9 : Nat → Int32) (lg9 : Nat → Int64) (ai9 : Nat → Nat → Int32) (al9 : Nat → Nat → Int64) (R9 : va_W) (cap9 : Nat) (num9 : Nat → Int32) (f9 : Nat → Int64) (sR9 : Nat → Int32) (lR9 : Nat → Int64) (aR9 : Nat → Nat → Int32) (bR9 : Nat → Nat → Int64) (H : Heap) (locs : List Loc) (ls : Array Slot) (K9 M9 : Nat), lwS (dC, dI) A s e0 kc kR ko oa o cR (rU c 99 e9) st9 lg9 ai9 al9 R9 cap9 num9 f9 sR9 lR9 aR9 bR9 H locs → lv_has ls 8 [(4, .int i), (3, .ref oa), (2, .ref o), (1, .ref (c 100)), (0, .ref b)] → cap ≤ cap9 → (st 13).toInt ≤ (st9 13).toInt → (st9 13).toInt ≤ (st 13).toInt + 16 → (K9 : Int) ≤ (K0 : Int) + 3 + 3 * ((st9 13).toInt - (st 13).toInt) → (M9 : Int) ≤ (M0 : Int) + 18 + 29 * ((st9 13).toInt - (st 13).toInt) + 4 * ((cap9 : Int) - (cap : Int)) → W p l e room_1 s m #[Value.ref b] below meth cM H locs K9 M9 (lw_Z below #[Value.ref b] s) (F0 m 1103 ls []) := by
        intro e9 st9 lg9 ai9 al9 R9 cap9 num9 f9 sR9 lR9 aR9 bR9 H locs ls K9 M9 hS9 hl hcp hn1 hn2 hK9 hM9
        have hN9 : (cap9 : Int) ≤ 10 + 2 * (st9 13).toInt := by have hI := hS9.1; obtain ⟨⟨hf3a, hf3b⟩, ⟨hf5a, hf5b⟩, ⟨hf6a, hf6b⟩, ⟨hf9a, hf9b⟩, ⟨hf13a, hf13b⟩, ⟨hf15a, hf15b⟩, ⟨hf17a, hf17b⟩, ⟨hf25a, hf25b⟩, ⟨hf26a, hf26b⟩, ⟨hf27a, hf27b⟩, ⟨hf28a, hf28b⟩, ⟨hf37a, hf37b⟩, hR4, hR7, hR23, hR32, hR33, hPI, hN⟩ := hI; exact hN.1
        obtain ⟨i9, ei9⟩ : ∃ z : Int32, z = i + (5) := ⟨_, rfl⟩
        refine lv_iinc (v := i9) (lv' := [(4, .int i9), (3, .ref oa), (2, .ref o), (1, .ref (c 100)), (0, .ref b)]) hx hb dL_law_1103 hl (k := 0) rfl (by rw [ei9]; rfl) (by decide) rfl (fun ls hl => ?_)
        have hi9 : i9.toInt = i.toInt + 5 := by rw [ei9]; exact (iv_add (by omega) (by omega)).trans (by omega)
        refine lv_goto (tgt := 33) hx hb dL_law_1106 (by decide) ?_
        exact ih (rU c 99 e9) st9 lg9 ai9 al9 R9 cap9 num9 f9 sR9 lR9 aR9 bR9 H locs ls i9 (k + 1) K9 M9 (by push_cast; omega) (by push_cast; omega) (by push_cast; omega) (by push_cast; omega) (by push_cast; omega) (by push_cast at hm; omega) hS9 hl
      refine lv_aload_n hx hb dL_law_42 rfl (lv_at hl 4 rfl) ?_
      refine lv_iload hx hb dL_law_43 (lv_at hl 0 rfl) ?_
      refine va_sld hx hb hX hbl hbA hS (iv_in (i := i) (by omega) (by omega)) dL_law_45 ?_
      refine lv_bipush (v := 31) hx hb dL_law_46 (by decide) ?_
      refine lv_iand hx hb dL_law_48 ?_
      rcases lq_31 (xs i.toNatClampNeg) with q9 | q9 | q9 | q9 | q9 | q9 | q9 | q9 | q9 | q9 | q9 | q9 | q9 | q9 | q9 | q9 | q9 | q9 | q9 | q9 | q9 | q9 | q9 | q9 | q9 | q9 | q9 | q9 | q9 | q9 | q9 | q9
      · rw [q9]
        refine lv_tableIn (off := 119) (tgt := 168) hx hb dL_law_49 (by decide +kernel) (by decide +kernel) (by decide +kernel) (by decide) ?_
        exact lwq_0 l hl0 kc kR ko oa o cR c st lg ai al R cap num fo stR lgR aiR alR H locs ls i K0 M0 C0 hK hKo hKR hS0 hl (by omega) (by omega) hL (by omega) (by omega) next
      · rw [q9]
        refine lv_tableIn (off := 191) (tgt := 240) hx hb dL_law_49 (by decide +kernel) (by decide +kernel) (by decide +kernel) (by decide) ?_
        exact lwq_1 l hl0 kc kR ko oa o cR c st lg ai al R cap num fo stR lgR aiR alR H locs ls i K0 M0 C0 hK hKo hKR hS0 hl (by omega) (by omega) hL (by omega) (by omega) next
      · rw [q9]
        refine lv_tableIn (off := 204) (tgt := 253) hx hb dL_law_49 (by decide +kernel) (by decide +kernel) (by decide +kernel) (by decide) ?_
        exact lwq_2 l hl0 kc kR ko oa o cR c st lg ai al R cap num fo stR lgR aiR alR H locs ls i K0 M0 C0 hK hKo hKR hS0 hl (by omega) (by omega) hL (by omega) (by omega) next
      · rw [q9]
        refine lv_tableIn (off := 232) (tgt := 281) hx hb dL_law_49 (by decide +kernel) (by decide +kernel) (by decide +kernel) (by decide) ?_
        exact lwq_3 l hl0 kc kR ko oa o cR c st lg ai al R cap num fo stR lgR aiR alR H locs ls i K0 M0 C0 hK hKo hKR hS0 hl (by omega) (by omega) hL (by omega) (by omega) next
      · rw [q9]
        refine lv_tableIn (off := 248) (tgt := 297) hx hb dL_law_49 (by decide +kernel) (by decide +kernel) (by decide +kernel) (by decide) ?_
        exact lwq_4 l hl0 kc kR ko oa o cR c st lg ai al R cap num fo stR lgR aiR alR H locs ls i K0 M0 C0 hK hKo hKR hS0 hl (by omega) (by omega) hL (by omega) (by omega) next
      · rw [q9]
        refine lv_tableIn (off := 288) (tgt := 337) hx hb dL_law_49 (by decide +kernel) (by decide +kernel) (by decide +kernel) (by decide) ?_
        exact lwq_5 l hl0 kc kR ko oa o cR c st lg ai al R cap num fo stR lgR aiR alR H locs ls i K0 M0 C0 hK hKo hKR hS0 hl (by omega) (by omega) hL (by omega) (by omega) next
      · rw [q9]
        refine lv_tableIn (off := 360) (tgt := 409) hx hb dL_law_49 (by decide +kernel) (by decide +kernel) (by decide +kernel) (by decide) ?_
        exact lwq_6 l hl0 kc kR ko oa o cR c st lg ai al R cap num fo stR lgR aiR alR H locs ls i K0 M0 C0 hK hKo hKR hS0 hl (by omega) (by omega) hL (by omega) (by omega) next
      · rw [q9]
        refine lv_tableIn (off := 388) (tgt := 437) hx hb dL_law_49 (by decide +kernel) (by decide +kernel) (by decide +kernel) (by decide) ?_
        exact lwq_7 l hl0 kc kR ko oa o cR c st lg ai al R cap num fo stR lgR aiR alR H locs ls i K0 M0 C0 hK hKo hKR hS0 hl (by omega) (by omega) hL (by omega) (by omega) next
      · rw [q9]
        refine lv_tableIn (off := 472) (tgt := 521) hx hb dL_law_49 (by decide +kernel) (by decide +kernel) (by decide +kernel) (by decide) ?_
        exact lwq_8 l hl0 kc kR ko oa o cR c st lg ai al R cap num fo stR lgR aiR alR H locs ls i K0 M0 C0 hK hKo hKR hS0 hl (by omega) (by omega) hL (by omega) (by omega) next
      · rw [q9]
        refine lv_tableIn (off := 500) (tgt := 549) hx hb dL_law_49 (by decide +kernel) (by decide +kernel) (by decide +kernel) (by decide) ?_
        exact lwq_9 l hl0 kc kR ko oa o cR c st lg ai al R cap num fo stR lgR aiR alR H locs ls i K0 M0 C0 hK hKo hKR hS0 hl (by omega) (by omega) hL (by omega) (by omega) next
      · rw [q9]
        refine lv_tableIn (off := 572) (tgt := 621) hx hb dL_law_49 (by decide +kernel) (by decide +kernel) (by decide +kernel) (by decide) ?_
        exact lwq_10 l hl0 kc kR ko oa o cR c st lg ai al R cap num fo stR lgR aiR alR H locs ls i K0 M0 C0 hK hKo hKR hS0 hl (by omega) (by omega) hL (by omega) (by omega) next
      · rw [q9]
        refine lv_tableIn (off := 600) (tgt := 649) hx hb dL_law_49 (by decide +kernel) (by decide +kernel) (by decide +kernel) (by decide) ?_
        exact lwq_11 l hl0 kc kR ko oa o cR c st lg ai al R cap num fo stR lgR aiR alR H locs ls i K0 M0 C0 hK hKo hKR hS0 hl (by omega) (by omega) hL (by omega) (by omega) next
      · rw [q9]
        refine lv_tableIn (off := 640) (tgt := 689) hx hb dL_law_49 (by decide +kernel) (by decide +kernel) (by decide +kernel) (by decide) ?_
        exact lwq_12 l hl0 kc kR ko oa o cR c st lg ai al R cap num fo stR lgR aiR alR H locs ls i K0 M0 C0 hK hKo hKR hS0 hl (by omega) (by omega) hL (by omega) (by omega) next
      · rw [q9]
        refine lv_tableIn (off := 700) (tgt := 749) hx hb dL_law_49 (by decide +kernel) (by decide +kernel) (by decide +kernel) (by decide) ?_
        exact lwq_13 l hl0 kc kR ko oa o cR c st lg ai al R cap num fo stR lgR aiR alR H locs ls i K0 M0 C0 hK hKo hKR hS0 hl (by omega) (by omega) hL (by omega) (by omega) next
      · rw [q9]
        refine lv_tableIn (off := 740) (tgt := 789) hx hb dL_law_49 (by decide +kernel) (by decide +kernel) (by decide +kernel) (by decide) ?_
        exact lwq_14 l hl0 kc kR ko oa o cR c st lg ai al R cap num fo stR lgR aiR alR H locs ls i K0 M0 C0 hK hKo hKR hS0 hl (by omega) (by omega) hL (by omega) (by omega) next
      · rw [q9]
        refine lv_tableIn (off := 768) (tgt := 817) hx hb dL_law_49 (by decide +kernel) (by decide +kernel) (by decide +kernel) (by decide) ?_
        exact lwq_15 l hl0 kc kR ko oa o cR c st lg ai al R cap num fo stR lgR aiR alR H locs ls i K0 M0 C0 hK hKo hKR hS0 hl (by omega) (by omega) hL (by omega) (by omega) next
      · rw [q9]
        refine lv_tableIn (off := 796) (tgt := 845) hx hb dL_law_49 (by decide +kernel) (by decide +kernel) (by decide +kernel) (by decide) ?_
        exact lwq_16 l hl0 kc kR ko oa o cR c st lg ai al R cap num fo stR lgR aiR alR H locs ls i K0 M0 C0 hK hKo hKR hS0 hl (by omega) (by omega) hL (by omega) (by omega) next
      · rw [q9]
        refine lv_tableIn (off := 824) (tgt := 873) hx hb dL_law_49 (by decide +kernel) (by decide +kernel) (by decide +kernel) (by decide) ?_
        exact lwq_17 l hl0 kc kR ko oa o cR c st lg ai al R cap num fo stR lgR aiR alR H locs ls i K0 M0 C0 hK hKo hKR hS0 hl (by omega) (by omega) hL (by omega) (by omega) next
      · rw [q9]
        refine lv_tableIn (off := 840) (tgt := 889) hx hb dL_law_49 (by decide +kernel) (by decide +kernel) (by decide +kernel) (by decide) ?_
        exact lwq_18 l hl0 kc kR ko oa o cR c st lg ai al R cap num fo stR lgR aiR alR H locs ls i K0 M0 C0 hK hKo hKR hS0 hl (by omega) (by omega) hL (by omega) (by omega) next
      · rw [q9]
        refine lv_tableIn (off := 876) (tgt := 925) hx hb dL_law_49 (by decide +kernel) (by decide +kernel) (by decide +kernel) (by decide) ?_
        exact lwq_19 l hl0 kc kR ko oa o cR c st lg ai al R cap num fo stR lgR aiR alR H locs ls i K0 M0 C0 hK hKo hKR hS0 hl (by omega) (by omega) hL (by omega) (by omega) next
      · rw [q9]
        refine lv_tableIn (off := 889) (tgt := 938) hx hb dL_law_49 (by decide +kernel) (by decide +kernel) (by decide +kernel) (by decide) ?_
        exact lwq_20 l hl0 kc kR ko oa o cR c st lg ai al R cap num fo stR lgR aiR alR H locs ls i K0 M0 C0 hK hKo hKR hS0 hl (by omega) (by omega) hL (by omega) (by omega) next
      · rw [q9]
        refine lv_tableIn (off := 902) (tgt := 951) hx hb dL_law_49 (by decide +kernel) (by decide +kernel) (by decide +kernel) (by decide) ?_
        exact lwq_21 l hl0 kc kR ko oa o cR c st lg ai al R cap num fo stR lgR aiR alR H locs ls i K0 M0 C0 hK hKo hKR hS0 hl (by omega) (by omega) hL (by omega) (by omega) next
      · rw [q9]
        refine lv_tableIn (off := 942) (tgt := 991) hx hb dL_law_49 (by decide +kernel) (by decide +kernel) (by decide +kernel) (by decide) ?_
        exact lwq_22 l hl0 kc kR ko oa o cR c st lg ai al R cap num fo stR lgR aiR alR H locs ls i K0 M0 C0 hK hKo hKR hS0 hl (by omega) (by omega) hL (by omega) (by omega) next
      · rw [q9]
        refine lv_tableIn (off := 970) (tgt := 1019) hx hb dL_law_49 (by decide +kernel) (by decide +kernel) (by decide +kernel) (by decide) ?_
        exact lwq_23 l hl0 kc kR ko oa o cR c st lg ai al R cap num fo stR lgR aiR alR H locs ls i K0 M0 C0 hK hKo hKR hS0 hl (by omega) (by omega) hL (by omega) (by omega) next
      · rw [q9]
        refine lv_tableIn (off := 998) (tgt := 1047) hx hb dL_law_49 (by decide +kernel) (by decide +kernel) (by decide +kernel) (by decide) ?_
        exact lwq_24 l hl0 kc kR ko oa o cR c st lg ai al R cap num fo stR lgR aiR alR H locs ls i K0 M0 C0 hK hKo hKR hS0 hl (by omega) (by omega) hL (by omega) (by omega) next
      · rw [q9]
        refine lv_tableIn (off := 1026) (tgt := 1075) hx hb dL_law_49 (by decide +kernel) (by decide +kernel) (by decide +kernel) (by decide) ?_
        exact lwq_25 l hl0 kc kR ko oa o cR c st lg ai al R cap num fo stR lgR aiR alR H locs ls i K0 M0 C0 hK hKo hKR hS0 hl (by omega) (by omega) hL (by omega) (by omega) next
      · rw [q9]
        refine lv_tableOut (tgt := 1103) hx hb dL_law_49 (by decide +kernel) (by decide) ?_
        exact next (c 99) st lg ai al R cap num fo stR lgR aiR alR H locs ls K0 M0 (by rw [rU_self]; exact hS0) hl (Nat.le_refl _) (by omega) (by omega) (by omega) (by omega)
      · rw [q9]
        refine lv_tableOut (tgt := 1103) hx hb dL_law_49 (by decide +kernel) (by decide) ?_
        exact next (c 99) st lg ai al R cap num fo stR lgR aiR alR H locs ls K0 M0 (by rw [rU_self]; exact hS0) hl (Nat.le_refl _) (by omega) (by omega) (by omega) (by omega)
      · rw [q9]
        refine lv_tableOut (tgt := 1103) hx hb dL_law_49 (by decide +kernel) (by decide) ?_
        exact next (c 99) st lg ai al R cap num fo stR lgR aiR alR H locs ls K0 M0 (by rw [rU_self]; exact hS0) hl (Nat.le_refl _) (by omega) (by omega) (by omega) (by omega)
      · rw [q9]
        refine lv_tableOut (tgt := 1103) hx hb dL_law_49 (by decide +kernel) (by decide) ?_
        exact next (c 99) st lg ai al R cap num fo stR lgR aiR alR H locs ls K0 M0 (by rw [rU_self]; exact hS0) hl (Nat.le_refl _) (by omega) (by omega) (by omega) (by omega)
      · rw [q9]
        refine lv_tableOut (tgt := 1103) hx hb dL_law_49 (by decide +kernel) (by decide) ?_
        exact next (c 99) st lg ai al R cap num fo stR lgR aiR alR H locs ls K0 M0 (by rw [rU_self]; exact hS0) hl (Nat.le_refl _) (by omega) (by omega) (by omega) (by omega)
      · rw [q9]
        refine lv_tableOut (tgt := 1103) hx hb dL_law_49 (by decide +kernel) (by decide) ?_
        exact next (c 99) st lg ai al R cap num fo stR lgR aiR alR H locs ls K0 M0 (by rw [rU_self]; exact hS0) hl (Nat.le_refl _) (by omega) (by omega) (by omega) (by omega)
