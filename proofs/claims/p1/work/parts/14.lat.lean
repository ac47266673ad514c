set_option maxHeartbeats 4000000 in
set_option maxRecDepth 100000 in
theorem k_L_at (l : Launch) (hl0 : l.stackTraces = false) (dC : Nat → ClassId) (dI : Nat → Nat → Nat) (h0 h1 ho sz : Nat) (cJ : ClassId) (i : Int32) (fs : List Value) (tb : Value) (g : Nat → Int64) : Met l yL_at wsL_at ({ frames := 7, cells := 1, slots := 6, locals := 103 }) (va_Pc [.ref h0, .int i, .ref ho] (fun U => U.heap.size = sz ∧ va_P (dC, dI) vwCl [(h0, .inr (10, .ref h1 :: fs)), (h1, .inr (9, [tb, .int 0])), (ho, .inl (cJ, 1, .inr (.inl g)))] U.heap ∧ va_K (dC, dI) vwCl [(cJ, .long)] U ∧ va_D (fun _ => True) [(h0, .inr (10, .ref h1 :: fs)), (h1, .inr (9, [tb, .int 0])), (ho, .inl (cJ, 1, .inr (.inl g)))] ∧ gx_E (va_A [(h0, .inr (10, .ref h1 :: fs)), (h1, .inr (9, [tb, .int 0])), (ho, .inl (cJ, 1, .inr (.inl g)))] sz) U))
    (va_Qi (fun (r : Int32) (_ : Unit) => r = 1) (fun _ _ => True) (va_A [(h0, .inr (10, .ref h1 :: fs)), (h1, .inr (9, [tb, .int 0])), (ho, .inl (cJ, 1, .inr (.inl g)))] sz)) 1 6 (va_A [(h0, .inr (10, .ref h1 :: fs)), (h1, .inr (9, [tb, .int 0])), (ho, .inl (cJ, 1, .inr (.inl g)))] sz) := by
  refine va_MetW (cc := cL_at) (maxL := 4) (ret := (some .int)) (hh := [(0, 9, 12, 19)]) (by decide) rfl ?_
  intro p e s m args below meth c s₁ B hml hv
  obtain ⟨rfl, hsz, hP, hK, hD0, hG⟩ := hv
  have hx := B.exec
  have hb := B.bytes
  have hr := B.returns
  have hts := atoms_spec (ws := wsL_at) B.pre
  have hown : s.vm.findClass RL = some m.cls := findClass_of_methodNamed B.named
  have hlocks := B.notSynchronized
  have htab := vx_table (x := yL_at) B (hts (.codeWith yL_at cL_at 4 (some .int) [(0, 9, 12, 19)]) List.mem_cons_self)
  subst hsz
  have hD := hD0.self (sz := s.heap.size)
  generalize hAe : va_A [(h0, .inr (10, .ref h1 :: fs)), (h1, .inr (9, [tb, .int 0])), (ho, .inl (cJ, 1, .inr (.inl g)))] s.heap.size = A at hD hG ⊢
  have hA : ∀ q : Nat, s.heap.size ≤ q → A q := fun q h => by rw [← hAe]; exact Or.inr h
  have hS : va_S A s.heap s.heap [] := va_S.rf
  have hl := lv_entry ([.ref h0, .int i, .ref ho]) (n := 4) (Nat.le_of_ble_eq_true rfl)
  rw [lg_entry_eq]
  generalize (lg_sl ([.ref h0, .int i, .ref ho]) ++ List.replicate (4 - (lg_sl ([.ref h0, .int i, .ref ho])).length) Slot.unset).toArray = ls at hl ⊢
  have hl : lv_has ls 4 [(0, .ref h0), (1, .int i), (2, .ref ho)] := hl
  refine lv_aload_n hx hb dL_at_0 rfl (lv_at hl 2 rfl) ?_
  refine lv_iconst (v := 0) hx hb dL_at_1 (by decide) ?_
  refine lv_aload_n hx hb dL_at_2 rfl (lv_at hl 0 rfl) ?_
  refine lv_iload_n hx hb dL_at_3 rfl (lv_at hl 1 rfl) ?_
  have hPc := hP.sub (ws' := [(h0, .inr (10, .ref h1 :: fs)), (h1, .inr (9, [tb, .int 0]))]) [0, 1] rfl
  have hDc := hD.sub (ws' := [(h0, .inr (10, .ref h1 :: fs)), (h1, .inr (9, [tb, .int 0]))]) [0, 1] (by decide) rfl
  have hKc := hK.sub (tys' := []) [] rfl
  have hFc := va_free (wc := [(h0, .inr (10, .ref h1 :: fs)), (h1, .inr (9, [tb, .int 0]))]) hD hS hA [0, 1] rfl
  refine vx_calli (vx_runV (As := [.int i]) (rest := [.int 0, .ref ho]) ⟨hx, hb, hml, hown, hts⟩ (k_X8_at l hl0 dC dI h0 h1 s.heap.size i fs tb) (cwV 1 hts gL_at_X8_at rfl rfl rfl (by decide +kernel) ⟨Nat.le_of_ble_eq_true rfl, Nat.le_of_ble_eq_true rfl⟩) ⟨fun a U g mk q => by obtain ⟨q0, q1, qP, qK, qD, qG⟩ := q; exact ⟨q0, q1, qP, va_K.moved (u := U) (U := U.calling g mk a) (Vm.Alike.refl U.vm) qK, qD, qG.same rfl rfl⟩, va_recv hK hP (ci := 10) (q := (RX8, TX8, 10)) rfl (q0 := 0) rfl, fun U hU hW => ⟨rfl, by rw [hU], by rw [hU]; exact hPc, va_K.moved hW.alike hKc, hDc.weaken (fun _ _ _ _ => trivial), hG.go hW hU hS hFc⟩⟩ rfl rfl hl.1 rfl (lv_room (Nat.le_of_ble_eq_true rfl)) dL_at_4 ⟨Nat.le_of_ble_eq_true rfl, Nat.le_of_ble_eq_true rfl⟩) hS (fun q _ h => hFc q h) hFc (fun q _ h => hFc q h) (fun E ce q9 u t H1 locs1 ht hvm hp hE hz hk hS hcell hv hcl => ?_) (fun r u t H1 locs1 ht hvm hp hB hz hk hS => hp.elim)
  subst hE
  refine vx_catch (name := "java/lang/IndexOutOfBoundsException") hown [] ⟨0, 9, 12, 19⟩ [] htab (fun z h => by cases h) (by decide) (by decide) (hts (.classLink RL 19 "java/lang/IndexOutOfBoundsException") (by decide +kernel)) (va_Nw.use rfl (hG.1.2.2.1 _ (by decide))) hcell hv hcl ?_
  refine W.eq (g2 := F0 m 12 ls [.ref q9]) rfl ?_
  refine lv_astore_n (lv' := [(3, .ref q9), (0, .ref h0), (1, .int i), (2, .ref ho)]) hx hb dL_at_12 rfl hl (by decide) rfl (fun ls hl => ?_)
  refine lv_iconst (v := 1) hx hb dL_at_13 (by decide) ?_
  exact W.iret hx hb hr (fun t ht hW => ⟨⟨1, (), rfl, rfl, trivial⟩, hS.F ht⟩) hS.2.2 dL_at_14
