theorem lq_ba2 {p : Int32} (h0 : 8224 ≤ p) (h1 : p < 1712160) : (0 : Int32).toInt64 = (md_get md_fresh p).toInt64 := by
  obtain ⟨j, hj, rfl⟩ := vp_in_of (lq_in (Int32.le_trans (by decide) h0) h1 (N := 1712160) (by decide)) (by decide)
  rw [lq_plz (by rw [Int32.le_iff_toInt_le, nI_toInt (by omega)] at h0; have : (8224 : Int32).toInt = 8224 := by decide
                 omega) hj]
theorem lq_ba1 {p : Int32} (h0 : 0 ≤ p) (h1 : p < 8224) : ((va_cpy (pu_head (fun _ => 0) 1) (fun _ => 0) 0 0 16 p.toNatClampNeg) &&& (255 : Int32)).toInt64 = (md_get md_fresh p).toInt64 := by
  obtain ⟨j, hj, rfl⟩ := vp_in_of (lq_in h0 h1 (N := 8224) (by decide)) (by decide)
  rw [nI_clamp (by omega)]
  rcases Nat.lt_or_ge j 16 with q | q
  · have : ∀ j, j < 16 → ((va_cpy (pu_head (fun _ => 0) 1) (fun _ => 0) 0 0 16 j) &&& (255 : Int32)).toInt64 = (md_get md_fresh (nI j)).toInt64 := by decide +kernel
    exact this j q
  · rw [lq_plz q (by omega)]
    unfold va_cpy
    rw [if_neg (by omega)]
    exact (by decide : ((0 : Int32) &&& (255 : Int32)).toInt64 = (0 : Int32).toInt64)
/-- what holds of the machine and the script at the law's entry, for the walks of its cases -/
def lw_B (p : Program) (s : State) (m : MethodId) (meth : Method) (c : Code) (b L : Nat) (xs : Nat → Int32) (A : Nat → Prop) : Prop :=
  p.tables.exec = Jvm.exec ∧ c.code = cL_law ∧ meth.sig.returnType = ret ∧ c.maxLocals = 8 ∧ s.vm.findClass RL = some m.cls ∧ (∀ w ∈ wsL_law, w.before #[Value.ref b] s = true) ∧ va_X b L xs s s.heap ∧ b < s.heap.size ∧ meth.locks = false ∧ (∀ q : Nat, s.heap.size ≤ q → A q) ∧ (∀ q : Nat, A q → s.heap.size ≤ q) ∧ ¬ A b ∧ gx_E A s
