theorem lq_pgs (n : Int32) : ∃ P : Nat, 1 ≤ P ∧ P ≤ 65536 ∧ cl_pages n = nI P := by
  unfold cl_pages
  split
  · exact ⟨1, by decide, by decide, by decide⟩
  · split
    · exact ⟨65536, by decide, by decide, by decide⟩
    · rename_i h1 h2
      obtain ⟨j, hj, rfl⟩ := nI_of (x := n) (fun h => h1 (Int32.lt_trans h (by decide)))
      refine ⟨j, ?_, ?_, rfl⟩
      · rcases Nat.lt_or_ge j 1 with q | q
        · exact absurd (show nI j < nI 1 from nI_lt q (by decide)) h1
        · exact q
      · rcases Nat.lt_or_ge 65536 j with q | q
        · exact absurd (show nI 65536 < nI j from nI_lt q hj) h2
        · exact q
theorem lq_pm1 {P : Nat} (h1 : 1 ≤ P) (h2 : P < 2 ^ 31) : (-1 : Int32) ≤ nI P - 1 := by
  obtain ⟨Q, rfl⟩ : ∃ Q, P = Q + 1 := ⟨P - 1, by omega⟩
  rw [nI_pred]
  exact Int32.le_trans (by decide : (-1 : Int32) ≤ 0) (nI_pos' (by omega))
theorem lq_pm2 {P : Nat} {x : Int32} (h1 : 1 ≤ P) (h2 : P < 2 ^ 31) (h : nI P ≤ x) : nI P - 1 < x := by
  obtain ⟨Q, rfl⟩ : ∃ Q, P = Q + 1 := ⟨P - 1, by omega⟩
  rw [nI_pred]
  exact Int32.lt_of_lt_of_le (nI_lt (Nat.lt_succ_self Q) (by omega)) h
theorem lq_pm3 {P : Nat} {x : Int32} (h1 : 1 ≤ P) (h2 : P < 2 ^ 31) (h0 : 0 ≤ x) (h : x < nI P) : x ≤ nI P - 1 := by
  obtain ⟨Q, rfl⟩ : ∃ Q, P = Q + 1 := ⟨P - 1, by omega⟩
  rw [nI_pred]
  obtain ⟨j, hj, rfl⟩ := nI_of (x := x) (Int32.not_lt.mpr h0)
  have h3 : j < Q + 1 := (nI_ltI hj h2).mp h
  exact nI_le (by omega) (by omega)
theorem lq_pm4 {P : Nat} {x : Int32} (h2 : P ≤ 65536) (h : x < nI P) : x < 65536 := Int32.lt_of_lt_of_le h (show nI P ≤ nI 65536 from nI_le h2 (by decide))
theorem lq_sz (P : Nat) : (8224 : Int32) + ((26 : Int32) * (nI P)) = nI (8224 + 26 * P) := by
  have h1 : (8224 : Int32) = nI 8224 := by decide
  have h2 : (26 : Int32) = nI 26 := by decide
  have h3 : nI 26 * nI P = nI (26 * P) := (Int32.ofNat_mul 26 P).symm
  rw [h1, h2, h3, nI_add]
theorem lq_s2 {P : Nat} {x : Int32} (h2 : P ≤ 65536) (h : (8224 : Int32) + ((26 : Int32) * (nI P)) ≤ x) : ((8224 : Int32) + ((26 : Int32) * (nI P))) - 1 < x := by
  rw [lq_sz] at h
  rw [lq_sz]
  exact lq_pm2 (by omega) (by omega) h
theorem lq_s3 {P : Nat} {x : Int32} (h2 : P ≤ 65536) (h0 : 0 ≤ x) (h : x < (8224 : Int32) + ((26 : Int32) * (nI P))) : x ≤ ((8224 : Int32) + ((26 : Int32) * (nI P))) - 1 := by
  rw [lq_sz] at h
  rw [lq_sz]
  exact lq_pm3 (by omega) (by omega) h0 h
theorem lq_s4 {P : Nat} {x : Int32} (h2 : P ≤ 65536) (h : x < (8224 : Int32) + ((26 : Int32) * (nI P))) : x < 1712160 := by
  rw [lq_sz] at h
  exact Int32.lt_of_lt_of_le h (show nI (8224 + 26 * P) ≤ nI 1712160 from nI_le (by omega) (by decide))
theorem lq_m1 {P : Nat} {x : Int32} (h2 : P ≤ 65536) (h : x < 128) : x < (128 : Int32) + nI P := by
  have e : (128 : Int32) + nI P = nI (128 + P) := nI_add 128 P
  rw [e]
  exact Int32.lt_of_lt_of_le h (show nI 128 ≤ nI (128 + P) from nI_le (by omega) (by omega))
theorem lq_m0 {x : Int32} (h : 128 ≤ x) : ∃ Q : Nat, Q + 128 < 2 ^ 31 ∧ x = nI (Q + 128) ∧ x - 128 = nI Q := by
  obtain ⟨j, hj, rfl⟩ := nI_of (x := x) (Int32.not_lt.mpr (Int32.le_trans (by decide) h))
  have hj2 : 128 ≤ j := (nI_leI (a := 128) (b := j) (by decide) hj).mp h
  obtain ⟨Q, rfl⟩ : ∃ Q, j = Q + 128 := ⟨j - 128, by omega⟩
  refine ⟨Q, hj, rfl, ?_⟩
  rw [← nI_add]
  exact Int32.add_sub_cancel (nI Q) 128
theorem lq_m2 {x : Int32} (h : 128 ≤ x) : 0 ≤ x - 128 := by
  obtain ⟨Q, hQ, -, e⟩ := lq_m0 h
  rw [e]
  exact nI_pos' (by omega)
theorem lq_m3 {P : Nat} {x : Int32} (h2 : P ≤ 65536) (h : 128 ≤ x) (h3 : x < (128 : Int32) + nI P) : x - 128 < 65536 := by
  obtain ⟨Q, hQ, e1, e⟩ := lq_m0 h
  have e2 : (128 : Int32) + nI P = nI (128 + P) := nI_add 128 P
  rw [e2, e1] at h3
  have h4 : Q + 128 < 128 + P := (nI_ltI hQ (by omega)).mp h3
  rw [e]
  exact (show nI Q < nI 65536 from nI_lt (by omega) (by decide))
theorem lq_w1 {w : Int64} (h : w < 0) : w ≤ -1 := by
  rw [Int64.lt_iff_toInt_lt] at h
  rw [Int64.le_iff_toInt_le]
  have a : (-1 : Int64).toInt = -1 := by decide
  have b : (0 : Int64).toInt = 0 := by decide
  omega
theorem lq_w4 {w : Int64} (h1 : -128 ≤ w) (h2 : w < 0) : 0 ≤ (-1 - w).toInt32 := by
  rw [Int64.le_iff_toInt_le] at h1
  rw [Int64.lt_iff_toInt_lt] at h2
  have a : (-128 : Int64).toInt = -128 := by decide
  have b : (0 : Int64).toInt = 0 := by decide
  have c : (-1 : Int64).toInt = -1 := by decide
  have d : (0 : Int32).toInt = 0 := by decide
  rw [Int32.le_iff_toInt_le, Int64.toInt_toInt32, Int64.toInt_sub, c, d]
  rw [Int.bmod_eq_of_le (n := -1 - w.toInt) (m := 2 ^ 64) (by omega) (by omega)]
  rw [Int.bmod_eq_of_le (n := -1 - w.toInt) (m := 2 ^ 32) (by omega) (by omega)]
  omega
theorem lq_and31 (x : Int32) : ∃ k, k < 32 ∧ x &&& 31 = nI k := by
  have e : x = nI x.toBitVec.toNat := by
    apply Int32.toBitVec_inj.1
    show x.toBitVec = BitVec.ofNat 32 x.toBitVec.toNat
    simp
  have h : ∀ a b : Nat, nI a &&& nI b = nI (a &&& b) := fun a b => by
    apply Int32.toBitVec_inj.1
    show BitVec.ofNat 32 a &&& BitVec.ofNat 32 b = BitVec.ofNat 32 (a &&& b)
    apply BitVec.eq_of_getLsbD_eq
    intro i hi
    simp [hi]
  refine ⟨x.toBitVec.toNat % 32, Nat.mod_lt _ (by omega), ?_⟩
  have h2 : nI x.toBitVec.toNat &&& nI 31 = nI (x.toBitVec.toNat % 32) := by rw [h, show (31 : Nat) = 2 ^ 5 - 1 from rfl, Nat.and_two_pow_sub_one_eq_mod]
  rw [← h2, ← e]
  rfl
theorem lq_e18 {x : Int32} (h1 : 1 ≤ x) (h2 : x ≤ 8) : x = 1 ∨ x = 2 ∨ x = 3 ∨ x = 4 ∨ x = 5 ∨ x = 6 ∨ x = 7 ∨ x = 8 := by
  obtain ⟨j, hj, rfl⟩ := nI_of (x := x) (Int32.not_lt.mpr (Int32.le_trans (by decide) h1))
  have a := (nI_leI (a := 1) (b := j) (by decide) hj).mp h1
  have b := (nI_leI (a := j) (b := 8) hj (by decide)).mp h2
  have t : ∀ j, j < 9 → 1 ≤ j → (nI j = 1 ∨ nI j = 2 ∨ nI j = 3 ∨ nI j = 4 ∨ nI j = 5 ∨ nI j = 6 ∨ nI j = 7 ∨ nI j = 8) := by decide +kernel
  exact t j (by omega) a
theorem lq_e08 {x : Int32} (h1 : 0 ≤ x) (h2 : x ≤ 8) : x = 0 ∨ x = 1 ∨ x = 2 ∨ x = 3 ∨ x = 4 ∨ x = 5 ∨ x = 6 ∨ x = 7 ∨ x = 8 := by
  obtain ⟨j, hj, rfl⟩ := nI_of (x := x) (Int32.not_lt.mpr (Int32.le_trans (by decide) h1))
  have a := (nI_leI (a := 0) (b := j) (by decide) hj).mp h1
  have b := (nI_leI (a := j) (b := 8) hj (by decide)).mp h2
  have t : ∀ j, j < 9 → 0 ≤ j → (nI j = 0 ∨ nI j = 1 ∨ nI j = 2 ∨ nI j = 3 ∨ nI j = 4 ∨ nI j = 5 ∨ nI j = 6 ∨ nI j = 7 ∨ nI j = 8) := by decide +kernel
  exact t j (by omega) a
theorem lq_31 (x : Int32) : x &&& 31 = 0 ∨ x &&& 31 = 1 ∨ x &&& 31 = 2 ∨ x &&& 31 = 3 ∨ x &&& 31 = 4 ∨ x &&& 31 = 5 ∨ x &&& 31 = 6 ∨ x &&& 31 = 7 ∨ x &&& 31 = 8 ∨ x &&& 31 = 9 ∨ x &&& 31 = 10 ∨ x &&& 31 = 11 ∨ x &&& 31 = 12 ∨ x &&& 31 = 13 ∨ x &&& 31 = 14 ∨ x &&& 31 = 15 ∨ x &&& 31 = 16 ∨ x &&& 31 = 17 ∨ x &&& 31 = 18 ∨ x &&& 31 = 19 ∨ x &&& 31 = 20 ∨ x &&& 31 = 21 ∨ x &&& 31 = 22 ∨ x &&& 31 = 23 ∨ x &&& 31 = 24 ∨ x &&& 31 = 25 ∨ x &&& 31 = 26 ∨ x &&& 31 = 27 ∨ x &&& 31 = 28 ∨ x &&& 31 = 29 ∨ x &&& 31 = 30 ∨ x &&& 31 = 31 := by
  obtain ⟨k, hk, e⟩ := lq_and31 x
  rw [e]
  have t : ∀ j, j < 32 → (nI j = 0 ∨ nI j = 1 ∨ nI j = 2 ∨ nI j = 3 ∨ nI j = 4 ∨ nI j = 5 ∨ nI j = 6 ∨ nI j = 7 ∨ nI j = 8 ∨ nI j = 9 ∨ nI j = 10 ∨ nI j = 11 ∨ nI j = 12 ∨ nI j = 13 ∨ nI j = 14 ∨ nI j = 15 ∨ nI j = 16 ∨ nI j = 17 ∨ nI j = 18 ∨ nI j = 19 ∨ nI j = 20 ∨ nI j = 21 ∨ nI j = 22 ∨ nI j = 23 ∨ nI j = 24 ∨ nI j = 25 ∨ nI j = 26 ∨ nI j = 27 ∨ nI j = 28 ∨ nI j = 29 ∨ nI j = 30 ∨ nI j = 31) := by decide +kernel
  exact t k hk
theorem lq_n1 {x : Int32} (h : ¬ x = -1) (h1 : -1 ≤ x) : 0 ≤ x := by
  rcases Decidable.em (0 ≤ x) with q | q
  · exact q
  · have q := Int32.not_le.mp q
    refine absurd (Int32.le_antisymm ?_ h1) h
    rw [Int32.lt_iff_toInt_lt] at q
    rw [Int32.le_iff_toInt_le]
    have a : (-1 : Int32).toInt = -1 := by decide
    have b : (0 : Int32).toInt = 0 := by decide
    omega
theorem lq_01 {x : Int32} (h1 : 0 ≤ x) (h2 : x ≤ 1) (h : ¬ x = 0) : x = 1 := by
  refine Int32.le_antisymm h2 ?_
  rcases Decidable.em (1 ≤ x) with q | q
  · exact q
  · have q := Int32.not_le.mp q
    refine absurd (Int32.le_antisymm ?_ h1) h
    rw [Int32.lt_iff_toInt_lt] at q
    rw [Int32.le_iff_toInt_le]
    have a : (1 : Int32).toInt = 1 := by decide
    have b : (0 : Int32).toInt = 0 := by decide
    omega
