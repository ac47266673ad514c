/-- the reference's disk: a byte is set, a byte is read, as its methods do -/
def md_set (f : Nat → Int32) (at_ b : Int32) : Nat → Int32 := upd f (at_ >>> ((2 : Int32) &&& 31)).toNatClampNeg ((f (at_ >>> ((2 : Int32) &&& 31)).toNatClampNeg &&& ((255 : Int32) <<< ((8 : Int32) * (at_ &&& 3) &&& 31) ^^^ (-1))) ||| b <<< ((8 : Int32) * (at_ &&& 3) &&& 31))
def md_get (f : Nat → Int32) (at_ : Int32) : Int32 := ((f (at_ >>> ((2 : Int32) &&& 31)).toNatClampNeg).toUInt32 >>> (((8 : Int32) * (at_ &&& 3)).toUInt32 &&& Int32.toUInt32 31)).toInt32 &&& 255
set_option maxHeartbeats 4000000 in
set_option maxRecDepth 100000 in
theorem k_X9_set (l : Launch) (dC : Nat → ClassId) (dI : Nat → Nat → Nat) (h0 hd N : Nat) (cI : ClassId) (fs : List Value) (f : Nat → Int32) (at_ b : Int32) (sz : Nat) (hi : vp_in (at_ >>> ((2 : Int32) &&& 31)) N) : Met l yX9_set wsX9_set ({ frames := 0, cells := 0, slots := 0, locals := 0 }) (va_Pc [.ref h0, .int at_, .int b] (fun U => U.heap.size = sz ∧ va_P (dC, dI) vwCl [(h0, .inr (11, .ref hd :: fs)), (hd, .inl (cI, N, .inl f))] U.heap ∧ va_K (dC, dI) vwCl [(cI, .int)] U ∧ va_D (fun _ => True) [(h0, .inr (11, .ref hd :: fs)), (hd, .inl (cI, N, .inl f))])) (va_Qv (fun (_ : Unit) => True) (fun (_ : Unit) t => va_P (dC, dI) vwCl [(h0, .inr (11, .ref hd :: fs)), (hd, .inl (cI, N, .inl (md_set f at_ b)))] t.heap ∧ va_K (dC, dI) vwCl [(cI, .int)] t ∧ va_D (va_A [(h0, .inr (11, .ref hd :: fs)), (hd, .inl (cI, N, .inl f))] sz) [(h0, .inr (11, .ref hd :: fs)), (hd, .inl (cI, N, .inl (md_set f at_ b)))]) (va_A [(h0, .inr (11, .ref hd :: fs)), (hd, .inl (cI, N, .inl f))] sz)) 0 0 (va_A [(h0, .inr (11, .ref hd :: fs)), (hd, .inl (cI, N, .inl f))] sz) := by
  refine Met.ofW (cc := cX9_set) (maxL := 4) (ret := none) (by decide) rfl ?_
  intro p e s m args below meth c s₁ B hml hv
  obtain ⟨rfl, hsz, hP, hK, hD0⟩ := hv
  have hx := B.exec
  have hb := B.bytes
  have hr := B.returns
  have hts := atoms_spec (ws := wsX9_set) B.pre
  have hown : s.vm.findClass RX9 = some m.cls := findClass_of_methodNamed B.named
  have hlocks := B.notSynchronized
  subst hsz
  have hD := hD0.self (sz := s.heap.size)
  generalize hAe : va_A [(h0, .inr (11, .ref hd :: fs)), (hd, .inl (cI, N, .inl f))] s.heap.size = A at hD ⊢
  have hA : ∀ q : Nat, s.heap.size ≤ q → A q := fun q h => by rw [← hAe]; exact Or.inr h
  have hS : va_S A s.heap s.heap [] := va_S.rf
  have hl := lv_entry ([.ref h0, .int at_, .int b]) (n := 4) (Nat.le_of_ble_eq_true rfl)
  rw [lg_entry_eq]
  generalize (lg_sl ([.ref h0, .int at_, .int b]) ++ List.replicate (4 - (lg_sl ([.ref h0, .int at_, .int b])).length) Slot.unset).toArray = ls at hl ⊢
  have hl : lv_has ls 4 [(0, .ref h0), (1, .int at_), (2, .int b)] := hl
  refine lv_bipush (v := 8) hx hb dX9_set_0 (by decide) ?_
  refine lv_iload_n hx hb dX9_set_2 rfl (lv_at hl 1 rfl) ?_
  refine lv_iconst (v := 3) hx hb dX9_set_3 (by decide) ?_
  refine lv_iand hx hb dX9_set_4 ?_
  refine lv_imul hx hb dX9_set_5 ?_
  refine lv_istore_n (lv' := [(3, .int ((8 : Int32) * (at_ &&& (3 : Int32)))), (0, .ref h0), (1, .int at_), (2, .int b)]) hx hb dX9_set_6 rfl hl (by decide) rfl (fun ls hl => ?_)
  refine lv_aload_n hx hb dX9_set_7 rfl (lv_at hl 1 rfl) ?_
  refine va_get (D := (dC, dI)) (ci := 11) (v := .ref hd) (C := RX9) (T := TX9) (N := 38) hx hb hts (by decide +kernel) hown hK hP 0 rfl rfl 0 (by decide) (hts (.fieldLink RX9 8 "BlockLogModel" "disk" "[I") (by decide +kernel)) (fun _ h9 => h9) rfl dX9_set_8 ?_
  refine lv_iload_n hx hb dX9_set_11 rfl (lv_at hl 2 rfl) ?_
  refine lv_iconst (v := 2) hx hb dX9_set_12 (by decide) ?_
  refine lv_ishr hx hb dX9_set_13 ?_
  refine lv_aload_n hx hb dX9_set_14 rfl (lv_at hl 1 rfl) ?_
  refine va_get (D := (dC, dI)) (ci := 11) (v := .ref hd) (C := RX9) (T := TX9) (N := 38) hx hb hts (by decide +kernel) hown hK hP 0 rfl rfl 0 (by decide) (hts (.fieldLink RX9 8 "BlockLogModel" "disk" "[I") (by decide +kernel)) (fun _ h9 => h9) rfl dX9_set_15 ?_
  refine lv_iload_n hx hb dX9_set_18 rfl (lv_at hl 2 rfl) ?_
  refine lv_iconst (v := 2) hx hb dX9_set_19 (by decide) ?_
  refine lv_ishr hx hb dX9_set_20 ?_
  refine va_iald hx hb hK hP 1 0 rfl rfl hi dX9_set_21 ?_
  refine lv_sipush (v := 255) hx hb dX9_set_22 (by decide) ?_
  refine lv_iload_n hx hb dX9_set_25 rfl (lv_at hl 0 rfl) ?_
  refine lv_ishl hx hb dX9_set_26 ?_
  refine lv_iconst (v := (-1)) hx hb dX9_set_27 (by decide) ?_
  refine lv_ixor hx hb dX9_set_28 ?_
  refine lv_iand hx hb dX9_set_29 ?_
  refine lv_iload_n hx hb dX9_set_30 rfl (lv_at hl 3 rfl) ?_
  refine lv_iload_n hx hb dX9_set_31 rfl (lv_at hl 0 rfl) ?_
  refine lv_ishl hx hb dX9_set_32 ?_
  refine lv_ior hx hb dX9_set_33 ?_
  refine va_iast hx hb hK hP hD hS 1 0 rfl rfl hi dX9_set_34 (fun H locs hP hD hS => ?_)
  have hP : va_P (dC, dI) vwCl [(h0, .inr (11, .ref hd :: fs)), (hd, .inl (cI, N, .inl (upd f (at_ >>> ((2 : Int32) &&& 31)).toNatClampNeg (((f (at_ >>> ((2 : Int32) &&& 31)).toNatClampNeg) &&& (((255 : Int32) <<< (((8 : Int32) * (at_ &&& (3 : Int32))) &&& 31)) ^^^ (-1 : Int32))) ||| (b <<< (((8 : Int32) * (at_ &&& (3 : Int32))) &&& 31))))))] H := hP
  have hD : va_D A [(h0, .inr (11, .ref hd :: fs)), (hd, .inl (cI, N, .inl (upd f (at_ >>> ((2 : Int32) &&& 31)).toNatClampNeg (((f (at_ >>> ((2 : Int32) &&& 31)).toNatClampNeg) &&& (((255 : Int32) <<< (((8 : Int32) * (at_ &&& (3 : Int32))) &&& 31)) ^^^ (-1 : Int32))) ||| (b <<< (((8 : Int32) * (at_ &&& (3 : Int32))) &&& 31))))))] := hD
  exact W.vret hx hb hr (fun t ht hW => ⟨⟨(), rfl, trivial, by rw [ht]; exact hP, va_K.moved hW.alike hK, hD⟩, hS.F ht⟩) hS.2.2 dX9_set_35
set_option maxHeartbeats 4000000 in
set_option maxRecDepth 100000 in
theorem k_X9_byteIn (l : Launch) (dC : Nat → ClassId) (dI : Nat → Nat → Nat) (h0 hd N : Nat) (cI : ClassId) (fs : List Value) (f : Nat → Int32) (at_ : Int32) (hi : vp_in (at_ >>> ((2 : Int32) &&& 31)) N) : Met l yX9_byteIn wsX9_byteIn ({ frames := 0, cells := 0, slots := 0, locals := 0 }) (va_Pc [.ref h0, .int at_] (fun U => va_P (dC, dI) vwCl [(h0, .inr (11, .ref hd :: fs)), (hd, .inl (cI, N, .inl f))] U.heap ∧ va_K (dC, dI) vwCl [(cI, .int)] U)) (vp_Si (fun r => r = md_get f at_)) 0 0 (fun _ => False) := by
  refine Met.ofW (cc := cX9_byteIn) (maxL := 2) (ret := (some .int)) (by decide) rfl ?_
  intro p e s m args below meth c s₁ B hml hv
  obtain ⟨rfl, hP, hK⟩ := hv
  have hx := B.exec
  have hb := B.bytes
  have hr := B.returns
  have hts := atoms_spec (ws := wsX9_byteIn) B.pre
  have hown : s.vm.findClass RX9 = some m.cls := findClass_of_methodNamed B.named
  have hlocks := B.notSynchronized
  have hl := lv_entry ([.ref h0, .int at_]) (n := 2) (Nat.le_of_ble_eq_true rfl)
  rw [lg_entry_eq]
  generalize (lg_sl ([.ref h0, .int at_]) ++ List.replicate (2 - (lg_sl ([.ref h0, .int at_])).length) Slot.unset).toArray = ls at hl ⊢
  have hl : lv_has ls 2 [(0, .ref h0), (1, .int at_)] := hl
  refine lv_aload_n hx hb dX9_byteIn_0 rfl (lv_at hl 0 rfl) ?_
  refine va_get (D := (dC, dI)) (ci := 11) (v := .ref hd) (C := RX9) (T := TX9) (N := 38) hx hb hts (by decide +kernel) hown hK hP 0 rfl rfl 0 (by decide) (hts (.fieldLink RX9 8 "BlockLogModel" "disk" "[I") (by decide +kernel)) (fun _ h9 => h9) rfl dX9_byteIn_1 ?_
  refine lv_iload_n hx hb dX9_byteIn_4 rfl (lv_at hl 1 rfl) ?_
  refine lv_iconst (v := 2) hx hb dX9_byteIn_5 (by decide) ?_
  refine lv_ishr hx hb dX9_byteIn_6 ?_
  refine va_iald hx hb hK hP 1 0 rfl rfl hi dX9_byteIn_7 ?_
  refine lv_bipush (v := 8) hx hb dX9_byteIn_8 (by decide) ?_
  refine lv_iload_n hx hb dX9_byteIn_10 rfl (lv_at hl 1 rfl) ?_
  refine lv_iconst (v := 3) hx hb dX9_byteIn_11 (by decide) ?_
  refine lv_iand hx hb dX9_byteIn_12 ?_
  refine lv_imul hx hb dX9_byteIn_13 ?_
  refine lv_iushr hx hb dX9_byteIn_14 rfl ?_
  refine lv_sipush (v := 255) hx hb dX9_byteIn_15 (by decide) ?_
  refine lv_iand hx hb dX9_byteIn_18 ?_
  exact W.iret hx hb hr (fun t ht hW => ⟨_, rfl, rfl, ht⟩) (fun q h => by cases h) dX9_byteIn_19
