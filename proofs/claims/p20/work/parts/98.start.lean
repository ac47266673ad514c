set_option maxHeartbeats 4000000 in
set_option maxRecDepth 100000 in
theorem whole_start {p : Program} {e : Env} {s : State} {m : MethodId} {below : List Frame} {meth : Method} {c : Code} (l : Launch) (hl0 : l.stackTraces = false) {b L : Nat} {xs : Nat → Int32} (hL : L ≤ 2561) (C0 : lw_At p s m meth c b L xs) : W p l e room_1 s m #[Value.ref b] below meth c s.heap [] 0 0 (lw_Z below #[Value.ref b] s) (entryFrame m ([Value.ref b] : List Value).toArray 8) := by
  obtain ⟨hx, hb, hr, hml, hown, hts, hX, hbl, hlocks, hgv⟩ := C0
  obtain ⟨dC, dI, hK⟩ := gx_known hts
  obtain ⟨te, hYs, hGt⟩ := gy_start hts hgv
  obtain ⟨cO, hKO⟩ := AO_K (va_AO.of (hts (.arrayOver (.object "java/lang/Object")) (by decide +kernel))) hK
  have C1 : lwB p s m meth c b L xs (fun q : Nat => s.heap.size ≤ q) te := ⟨hx, hb, hr, hml, hown, fun w hw => hts w (wsL_law_in w hw), hX, hbl, hlocks, fun _ h => h, fun _ h => h, Nat.not_le.mpr hbl, hYs⟩
  have hl := lv_entry ([.ref b]) (n := 8) (Nat.le_of_ble_eq_true rfl)
  rw [lg_entry_eq]
  generalize (lg_sl ([.ref b]) ++ List.replicate (8 - (lg_sl ([.ref b])).length) Slot.unset).toArray = ls at hl ⊢
  have hl : lv_has ls 8 [(0, .ref b)] := hl
  exact lw_first l hl0 te cO (if 0 < L then xs 0 else 0) hL rfl C1 hK hKO hGt hl
