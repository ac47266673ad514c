theorem gx_nin : ∀ q ∈ gx_nest, (Cond.fieldLinkNest q.1 q.2.1 q.2.2.1 q.2.2.2.1 q.2.2.2.2.1 q.2.2.2.2.2) ∈ lw_tbl := by decide +kernel
theorem gx_sin : ∀ q ∈ gx_strs, (Cond.stringRef q.1 q.2.1 q.2.2) ∈ lw_tbl := by decide +kernel
theorem gx_sinB : ∀ q ∈ gx_strs, q.1 = "BlockLog" := by decide +kernel
theorem gx_cin : ∀ x ∈ gx_cst, (Cond.castable x x) ∈ lw_tbl := by decide +kernel
theorem gx_xin : ∀ x ∈ gx_exs, ∀ y ∈ gx_exs, x ≠ y → (Cond.not (.castable x y)) ∈ flatC (Jvm.Cond.and given_1 narrow_1) := by decide +kernel
theorem gx_din : ∀ x ∈ gx_dcs, (Cond.declares (Bundle.initS x)) ∈ lw_tbl := by decide +kernel
theorem gx_min : ∀ q ∈ gx_mns, (Cond.methodLinkNest q.1 q.2.1 q.2.2.1 q.2.2.2) ∈ lw_tbl := by decide +kernel
theorem gx_lin : ∀ q ∈ gx_lks, (Cond.classLink "BlockLogLaw" q.1 q.2) ∈ lw_tbl := by decide +kernel
theorem gx_start {s : State} {v : Array Value} (hts : ∀ w ∈ lw_tbl, w.before v s = true) (hgv : (Jvm.Cond.and given_1 narrow_1).before v s = true) : gx_E (fun q : Nat => s.heap.size ≤ q) s := by
  have hf := flat_of_before _ hgv
  have hA : ∀ a : Nat, a < s.heap.size → ¬ (fun q : Nat => s.heap.size ≤ q) a := fun a h => Nat.not_le.mpr h
  refine ⟨⟨fun q hq => va_Nw.of rfl (hts _ (gx_nin q hq)), fun q hq => ?_, fun x hx => va_Nw.of rfl (hts _ (gx_cin x hx)), fun x hx y hy hn => va_Nc.of (hf _ (gx_xin x hx y hy hn)), fun x hx => va_Nw.of rfl (hts _ (gx_din x hx)), fun q hq => va_Nw.of rfl (hts _ (gx_min q hq)), fun q hq => va_Nw.of rfl (hts _ (gx_lin q hq))⟩, ?_, ?_, ?_⟩
  · obtain ⟨cb, kb, hcb, -⟩ := Cond.instantiable_spec (hts (.instantiable "BlockLog" 10) (by decide +kernel))
    have hcb : s.vm.findClass q.1 = some cb := by rw [gx_sinB q hq]; exact hcb
    have h1 := hts _ (gx_sin q hq)
    obtain ⟨k, cf, i, a, -, -, -, -, -, he⟩ := Cond.stringRef_spec hcb h1
    exact ⟨a, vk_R.of h1 he⟩
  · exact vx_Zqof (hts _ (by decide +kernel)) (hts _ (by decide +kernel)) (hf _ (by decide +kernel)) hA
  · exact vx_Zqof (hts _ (by decide +kernel)) (hts _ (by decide +kernel)) (hf _ (by decide +kernel)) hA
  · obtain ⟨a, c, cell, k, he, -⟩ := Cond.exactly_spec (hf (.exactly (.static "java/util/ArrayList" "DEFAULTCAPACITY_EMPTY_ELEMENTDATA" "[Ljava/lang/Object;") "[Ljava/lang/Object;") (by decide +kernel))
    exact ⟨a, va_Zref (hts _ (by decide +kernel)) (hts _ (by decide +kernel)) he hA⟩
theorem lw_un_RJ0 : ∀ w ∈ u_ws RJ0 TJ0 4, w ∈ lw_tbl := by decide +kernel
theorem lw_un_RJ4 : ∀ w ∈ u_ws RJ4 TJ4 4, w ∈ lw_tbl := by decide +kernel
theorem gx_known {s : State} {v : Array Value} (hts : ∀ w ∈ lw_tbl, w.before v s = true) : ∃ (dC : Nat → ClassId) (dI : Nat → Nat → Nat), va_K (dC, dI) vwCl [] s := by
  obtain ⟨c0, i0, h0⟩ := u_known (C := RJ0) (T := TJ0) (N := 4) (n := 4) hts lw_un_RJ0 (hts (.instantiable RJ0 4) (by decide +kernel))
  obtain ⟨c1, i1, h1⟩ := u_known (C := RJ4) (T := TJ4) (N := 4) (n := 4) hts lw_un_RJ4 (hts (.instantiable RJ4 4) (by decide +kernel))
  obtain ⟨c2, i2, h2⟩ := u_known (C := RJx4a65c) (T := TJx4a65c) (N := 3) (n := 3) hts lw_in_wsJx4a65c0 (hts (.instantiable RJx4a65c 3) (by decide +kernel))
  obtain ⟨c3, i3, h3⟩ := u_known (C := RX1) (T := TX1) (N := 7) (n := 7) hts lw_in_wsX10 (hts (.instantiable RX1 7) (by decide +kernel))
  obtain ⟨c4, i4, h4⟩ := u_known (C := RX2) (T := TX2) (N := 3) (n := 3) hts lw_in_wsX20 (hts (.instantiable RX2 3) (by decide +kernel))
  obtain ⟨c5, i5, h5⟩ := u_known (C := RX3) (T := TX3) (N := 4) (n := 4) hts lw_in_wsX30 (hts (.instantiable RX3 4) (by decide +kernel))
  obtain ⟨c6, i6, h6⟩ := u_known (C := RX4) (T := TX4) (N := 6) (n := 6) hts lw_in_wsX40 (hts (.instantiable RX4 6) (by decide +kernel))
  obtain ⟨c7, i7, h7⟩ := u_known (C := RX5) (T := TX5) (N := 7) (n := 7) hts lw_in_wsX50 (hts (.instantiable RX5 7) (by decide +kernel))
  obtain ⟨c8, i8, h8⟩ := u_known (C := RX6) (T := TX6) (N := 12) (n := 12) hts lw_in_wsX60 (hts (.instantiable RX6 12) (by decide +kernel))
  obtain ⟨c9, i9, h9⟩ := u_known (C := RX7) (T := TX7) (N := 2) (n := 2) hts lw_in_wsX70 (hts (.instantiable RX7 2) (by decide +kernel))
  obtain ⟨c10, i10, h10⟩ := u_known (C := RX8) (T := TX8) (N := 10) (n := 10) hts lw_in_wsX80 (hts (.instantiable RX8 10) (by decide +kernel))
  obtain ⟨c11, i11, h11⟩ := u_known (C := RX9) (T := TX9) (N := 38) (n := 38) hts lw_in_wsX90 (hts (.instantiable RX9 38) (by decide +kernel))
  refine ⟨fun k => [c0, c1, c2, c3, c4, c5, c6, c7, c8, c9, c10, c11].getD k c0, fun k => [i0, i1, i2, i3, i4, i5, i6, i7, i8, i9, i10, i11].getD k i0, ?_, fun k q h => by simp at h⟩
  intro k q hq
  match k, hq with
  | 0, hq => cases hq; exact h0
  | 1, hq => cases hq; exact h1
  | 2, hq => cases hq; exact h2
  | 3, hq => cases hq; exact h3
  | 4, hq => cases hq; exact h4
  | 5, hq => cases hq; exact h5
  | 6, hq => cases hq; exact h6
  | 7, hq => cases hq; exact h7
  | 8, hq => cases hq; exact h8
  | 9, hq => cases hq; exact h9
  | 10, hq => cases hq; exact h10
  | 11, hq => cases hq; exact h11
  | k + 12, hq => simp [vwCl] at hq
theorem gy_start {s : State} {v : Array Value} (hts : ∀ w ∈ lw_tbl, w.before v s = true) (hgv : (Jvm.Cond.and given_1 narrow_1).before v s = true) : ∃ te : Nat, gy_E 0 te (fun q : Nat => s.heap.size ≤ q) s ∧ gt_E te (fun q : Nat => s.heap.size ≤ q) s := by
  have hG := gx_start hts hgv
  have hf := flat_of_before _ hgv
  have hA : ∀ a : Nat, a < s.heap.size → ¬ (fun q : Nat => s.heap.size ≤ q) a := fun a h => Nat.not_le.mpr h
  obtain ⟨a, c, cell, k, he, -⟩ := Cond.exactly_spec (hf (.exactly (.static "java/util/ArrayList" "DEFAULTCAPACITY_EMPTY_ELEMENTDATA" "[Ljava/lang/Object;") "[Ljava/lang/Object;") (by decide +kernel))
  have hZ := va_Zref (hts _ (by decide +kernel)) (hts _ (by decide +kernel)) he hA
  obtain ⟨t, ht, hT⟩ := va_Tof (N := 0) (f := fun _ => .null) (A := fun q : Nat => s.heap.size ≤ q) (by decide) (hf (.arrayOf (.static "java/util/ArrayList" "DEFAULTCAPACITY_EMPTY_ELEMENTDATA" "[Ljava/lang/Object;") (.object "java/lang/Object")) (by decide +kernel)) (va_eqt (hf (.eq (.length (.static "java/util/ArrayList" "DEFAULTCAPACITY_EMPTY_ELEMENTDATA" "[Ljava/lang/Object;")) (.int 0)) (by decide +kernel))) (fun j h => absurd h (Nat.not_lt_zero _)) hA
  have hta : t = a := by
    have h9 := ht.symm.trans he
    simpa using h9
  subst hta
  have hT : ∃ f : Nat → Value, va_T (.object "java/lang/Object") t 0 f (fun q : Nat => s.heap.size ≤ q) s s.heap := ⟨_, hT⟩
  obtain ⟨mi, hMi⟩ := va_Mi.of (C := "[Ljava/lang/Object;") (hf (.isRef (.mirror "[Ljava/lang/Object;")) (by decide +kernel))
  exact ⟨t, ⟨hG, ⟨mi, va_Nw.of rfl (hts (.castable "BlockLog$Page" "java/lang/Object") (by decide +kernel)), va_AO.of (hts (.arrayOver (.object "java/lang/Object")) (by decide +kernel)), hMi⟩, va_Dc.of (hts (.declares ⟨"java/lang/Object", "getClass", "()Ljava/lang/Class;"⟩) (by decide +kernel)), fun _ => ⟨hZ, hT⟩⟩, hG, hZ⟩
