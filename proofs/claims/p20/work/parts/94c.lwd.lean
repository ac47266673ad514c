/-- what holds of the reference between calls -/
def rI (st : Nat → Int32) (ai : Nat → Nat → Int32) : Prop := (1 ≤ (st 1).toInt ∧ (st 1).toInt ≤ 65536) ∧ (8224 ≤ (st 2).toInt ∧ (st 2).toInt ≤ 1712160) ∧ (0 ≤ (st 3).toInt ∧ (st 3).toInt ≤ 1) ∧ (0 ≤ (st 6).toInt ∧ (st 6).toInt ≤ 1) ∧ (0 ≤ (st 7).toInt ∧ (st 7).toInt ≤ 1) ∧ (0 ≤ (st 9).toInt ∧ (st 9).toInt ≤ 400) ∧ (0 ≤ (st 12).toInt ∧ (st 12).toInt ≤ 8) ∧ (0 ≤ (st 15).toInt ∧ (st 15).toInt ≤ 128) ∧ (0 ≤ (st 16).toInt ∧ (st 16).toInt ≤ 128) ∧ (0 ≤ (st 17).toInt ∧ (st 17).toInt ≤ 1) ∧ (-1 ≤ (st 21).toInt ∧ (st 21).toInt ≤ 127) ∧ (0 ≤ (st 22).toInt ∧ (st 22).toInt ≤ 1000000) ∧ (0 ≤ (st 24).toInt ∧ (st 24).toInt ≤ 1) ∧ (0 ≤ (st 26).toInt ∧ (st 26).toInt ≤ 2000000) ∧ (0 ≤ (st 30).toInt ∧ (st 30).toInt ≤ 128) ∧ (0 ≤ (st 32).toInt ∧ (st 32).toInt ≤ 128) ∧ (0 ≤ (st 37).toInt ∧ (st 37).toInt ≤ 255) ∧ aR (ai 8) 400 (0) 255 ∧ aR (ai 25) 130 (0) 127 ∧ aR (ai 31) 128 (0) 127 ∧ aR (ai 35) 16 (0) 255
/-- what holds of the machine and the script at the law's entry -/
def lwB (p : Program) (s : State) (m : MethodId) (meth : Method) (c : Code) (b L : Nat) (xs : Nat → Int32) (A : Nat → Prop) (e0 : Nat) : Prop :=
  p.tables.exec = Jvm.exec ∧ c.code = cL_law ∧ meth.sig.returnType = ret ∧ c.maxLocals = 8 ∧ s.vm.findClass RL = some m.cls ∧ (∀ w ∈ wsL_law, w.before #[Value.ref b] s = true) ∧ va_X b L xs s s.heap ∧ b < s.heap.size ∧ meth.locks = false ∧ (∀ q : Nat, s.heap.size ≤ q → A q) ∧ (∀ q : Nat, A q → s.heap.size ≤ q) ∧ ¬ A b ∧ gy_E 0 e0 A s
/-- what holds of the two between calls -/
def lwS (D : va_G) (A : Nat → Prop) (s : State) (e0 : Nat) (kc kR : Nat → ClassId) (ko : ClassId) (oa o : Nat) (cR c : Nat → Nat) (st : Nat → Int32) (lg : Nat → Int64) (ai : Nat → Nat → Int32) (al : Nat → Nat → Int64) (R : va_W) (cap : Nat) (num : Nat → Int32) (fo : Nat → Int64) (stR : Nat → Int32) (lgR : Nat → Int64) (aiR : Nat → Nat → Int32) (alR : Nat → Nat → Int64) (H : Heap) (locs : List Loc) : Prop :=
  cI c kc st ai R cap num ∧ rI stR aiR ∧ (cap = 0 → c 99 = e0) ∧ va_P D vwCl (cw_W c kc st lg ai al R ++ [outC oa ko fo]) H ∧ va_D A (cw_W c kc st lg ai al R ++ [outC oa ko fo]) ∧ va_P D vwCl (rw_W o cR kR stR lgR aiR alR) H ∧ va_D A (rw_W o cR kR stR lgR aiR alR) ∧ dj (cw_W c kc st lg ai al R ++ [outC oa ko fo]) (rw_W o cR kR stR lgR aiR alR) ∧ va_S A s.heap H locs
theorem rw_dj {X : va_W} {o : Nat} {c : Nat → Nat} {kc : Nat → ClassId} {st st' : Nat → Int32} {lg lg' : Nat → Int64} {ai ai' : Nat → Nat → Int32} {al al' : Nat → Nat → Int64} (h : dj X (rw_W o c kc st lg ai al)) : dj X (rw_W o c kc st' lg' ai' al') := dj_sym (dj_map (X := rw_W o c kc st lg ai al) rfl (dj_sym h))
set_option maxHeartbeats 4000000 in
set_option maxRecDepth 100000 in
theorem v_X9_thrownE (l : Launch) (dC : Nat → ClassId) (dI : Nat → Nat → Nat) (o : Nat) (c : Nat → Nat) (kc : Nat → ClassId) (st : Nat → Int32) (lg : Nat → Int64) (ai : Nat → Nat → Int32) (al : Nat → Nat → Int64)   : Met l yX9_thrown wsX9_thrown ({ frames := 0, cells := 0, slots := 0, locals := 0 }) (va_Pc [.ref o] (fun U => va_P (dC, dI) vwCl (rw_W o c kc st lg ai al) U.heap ∧ va_K (dC, dI) vwCl (rw_T kc) U)) (vp_Si (fun r => r = st 13)) 0 0 (fun _ => False) := by
  refine Met.ofW (cc := cX9_thrown) (maxL := 1) (ret := (some .int)) (by decide) rfl ?_
  intro p e s m args below meth cM s₁ B hml hv
  obtain ⟨rfl, hP, hK⟩ := hv
  have hx := B.exec
  have hb := B.bytes
  have hr := B.returns
  have hts := atoms_spec (ws := wsX9_thrown) B.pre
  have hown : s.vm.findClass RX9 = some m.cls := findClass_of_methodNamed B.named
  have hl := lv_entry ([.ref o]) (n := 1) (Nat.le_of_ble_eq_true rfl)
  rw [lg_entry_eq]
  generalize (lg_sl ([.ref o]) ++ List.replicate (1 - (lg_sl ([.ref o])).length) Slot.unset).toArray = ls at hl ⊢
  have hl : lv_has ls 1 [(0, .ref o)] := hl
  have hin9 : ∀ w ∈ u_ws RX9 TX9 38, w ∈ wsX9_thrown := by decide +kernel
  refine lv_aload_n hx hb dX9_thrown_0 rfl (lv_at hl 0 rfl) ?_
  refine va_get (D := (dC, dI)) (ci := 11) (v := .int (st 13)) (C := RX9) (T := TX9) (N := 38) hx hb hts hin9 hown hK hP 0 rfl rfl 13 (by decide) (hts (.fieldLink RX9 91 "BlockLogModel" "thrown" "I") (by decide +kernel)) (fun _ h9 => h9) rfl dX9_thrown_1 ?_
  exact W.iret hx hb hr (fun t ht hW => ⟨_, rfl, rfl, ht⟩) (fun q h => by cases h) dX9_thrown_4

