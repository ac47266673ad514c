def rU {α : Type} (f : Nat → α) (k : Nat) (v : α) : Nat → α := fun j => if j = k then v else f j
def rw_W (o : Nat) (c : Nat → Nat) (kc : Nat → ClassId) (st : Nat → Int32) (lg : Nat → Int64) (ai : Nat → Nat → Int32) (al : Nat → Nat → Int64) : va_W := [(o, .inr (11, [.ref (c 0), .int (st 1), .int (st 2), .int (st 3), .int (st 4), .int (st 5), .int (st 6), .int (st 7), .ref (c 8), .int (st 9), .ref (c 10), .ref (c 11), .int (st 12), .int (st 13), .ref (c 14), .int (st 15), .int (st 16), .int (st 17), .ref (c 18), .ref (c 19), .ref (c 20), .int (st 21), .int (st 22), .long (lg 23), .int (st 24), .ref (c 25), .int (st 26), .long (lg 27), .ref (c 28), .ref (c 29), .int (st 30), .ref (c 31), .int (st 32), .ref (c 33), .ref (c 34), .ref (c 35), .ref (c 36), .int (st 37)])), (c 0, .inl (kc 0, 428040, .inl (ai 0))), (c 8, .inl (kc 8, 400, .inl (ai 8))), (c 10, .inl (kc 10, 8, .inl (ai 10))), (c 11, .inl (kc 11, 8, .inr (.inl (al 11)))), (c 14, .inl (kc 14, 32, .inl (ai 14))), (c 18, .inl (kc 18, 128, .inr (.inl (al 18)))), (c 19, .inl (kc 19, 128, .inl (ai 19))), (c 20, .inl (kc 20, 128, .inl (ai 20))), (c 25, .inl (kc 25, 130, .inl (ai 25))), (c 28, .inl (kc 28, 16, .inr (.inl (al 28)))), (c 29, .inl (kc 29, 400, .inr (.inl (al 29)))), (c 31, .inl (kc 31, 128, .inl (ai 31))), (c 33, .inl (kc 33, 16, .inl (ai 33))), (c 34, .inl (kc 34, 16, .inl (ai 34))), (c 35, .inl (kc 35, 16, .inl (ai 35))), (c 36, .inl (kc 36, 16, .inr (.inl (al 36))))]
abbrev rw_T (kc : Nat → ClassId) : List (ClassId × FieldType) := [(kc 0, .int), (kc 8, .int), (kc 10, .int), (kc 11, .long), (kc 14, .int), (kc 18, .long), (kc 19, .boolean), (kc 20, .boolean), (kc 25, .int), (kc 28, .long), (kc 29, .long), (kc 31, .int), (kc 33, .int), (kc 34, .int), (kc 35, .int), (kc 36, .long)]
theorem vD_map {A : Nat → Prop} {ws ws' : va_W} (h : ws'.map Prod.fst = ws.map Prod.fst) (hD : va_D A ws) : va_D A ws' := by
  have g : ∀ (i : Nat) (p : Nat × va_E), ws'[i]? = some p → ∃ q, ws[i]? = some q ∧ q.1 = p.1 := fun i p hp => by
    have h1 : (ws'.map Prod.fst)[i]? = some p.1 := by rw [List.getElem?_map, hp]; rfl
    rw [h, List.getElem?_map] at h1
    obtain ⟨q, h2, h3⟩ := Option.map_eq_some_iff.mp h1
    exact ⟨q, h2, h3⟩
  refine ⟨fun i j p q hp hq e => ?_, fun k q hq => ?_⟩
  · obtain ⟨p', hp', ep⟩ := g i p hp
    obtain ⟨q', hq', eq⟩ := g j q hq
    exact hD.1 i j p' q' hp' hq' (ep.trans (e.trans eq.symm))
  · obtain ⟨q', hq', eq⟩ := g k q hq
    rw [← eq]
    exact hD.2 k q' hq'
theorem rw_D {A : Nat → Prop} {o : Nat} {c : Nat → Nat} {kc : Nat → ClassId} {st st' : Nat → Int32} {lg lg' : Nat → Int64} {ai ai' : Nat → Nat → Int32} {al al' : Nat → Nat → Int64} (h : va_D A (rw_W o c kc st lg ai al)) : va_D A (rw_W o c kc st' lg' ai' al') := vD_map rfl h
theorem vfree {A : Nat → Prop} {ws : va_W} {H0 H : Heap} {locs : List Loc} (hD : va_D A ws) (hS : va_S A H0 H locs) (hA : ∀ q : Nat, H0.size ≤ q → A q) : ∀ q : Nat, va_A ws H.size q → A q := fun q h => h.elim (fun ⟨k, e, hk⟩ => hD.2 k _ hk) (fun h => hA q (Nat.le_trans hS.1 h))
theorem iv_add {a b : Int32} (h1 : -2147483648 ≤ a.toInt + b.toInt) (h2 : a.toInt + b.toInt ≤ 2147483647) : (a + b).toInt = a.toInt + b.toInt := by
  rw [Int32.toInt_add]; exact Int.bmod_eq_of_le (by omega) (by omega)
theorem iv_sub {a b : Int32} (h1 : -2147483648 ≤ a.toInt - b.toInt) (h2 : a.toInt - b.toInt ≤ 2147483647) : (a - b).toInt = a.toInt - b.toInt := by
  rw [Int32.toInt_sub]; exact Int.bmod_eq_of_le (by omega) (by omega)
theorem iv_mulc {a b : Int32} {n : Int} (e : a.toInt = n) (h1 : -2147483648 ≤ n * b.toInt) (h2 : n * b.toInt ≤ 2147483647) : (a * b).toInt = n * b.toInt := by
  rw [Int32.toInt_mul, e]; exact Int.bmod_eq_of_le (by omega) (by omega)
theorem iv_lt {a b : Int32} (h : a < b) : a.toInt < b.toInt := Int32.lt_iff_toInt_lt.mp h
theorem iv_nlt {a b : Int32} (h : ¬ a < b) : b.toInt ≤ a.toInt := Int32.le_iff_toInt_le.mp (Int32.not_lt.mp h)
theorem iv_le {a b : Int32} (h : a ≤ b) : a.toInt ≤ b.toInt := Int32.le_iff_toInt_le.mp h
theorem iv_nle {a b : Int32} (h : ¬ a ≤ b) : b.toInt < a.toInt := Int32.lt_iff_toInt_lt.mp (Int32.not_le.mp h)
theorem iv_eq {a b : Int32} (h : a = b) : a.toInt = b.toInt := congrArg Int32.toInt h
theorem iv_ne {a b : Int32} (h : ¬ a = b) : a.toInt ≠ b.toInt := fun q => h (Int32.toInt_inj.mp q)
theorem iv_in {i : Int32} {N : Nat} (h0 : 0 ≤ i.toInt) (h1 : i.toInt < (N : Int)) : vp_in i N := vp_in_iff.mpr ⟨h0, h1⟩
theorem iv_01 {a : Int32} (h0 : 0 ≤ a.toInt) (h1 : a.toInt ≤ 1) : a = 0 ∨ a = 1 := by
  rcases (show a.toInt = 0 ∨ a.toInt = 1 by omega) with h | h
  · exact Or.inl (Int32.toInt_inj.mp (h.trans (by decide)))
  · exact Or.inr (Int32.toInt_inj.mp (h.trans (by decide)))
theorem iv_and01 {a b : Int32} (a0 : 0 ≤ a.toInt) (a1 : a.toInt ≤ 1) (b0 : 0 ≤ b.toInt) (b1 : b.toInt ≤ 1) : 0 ≤ (a &&& b).toInt ∧ (a &&& b).toInt ≤ 1 := by
  rcases iv_01 a0 a1 with rfl | rfl <;> rcases iv_01 b0 b1 with rfl | rfl <;> decide
theorem iv_or01 {a b : Int32} (a0 : 0 ≤ a.toInt) (a1 : a.toInt ≤ 1) (b0 : 0 ≤ b.toInt) (b1 : b.toInt ≤ 1) : 0 ≤ (a ||| b).toInt ∧ (a ||| b).toInt ≤ 1 := by
  rcases iv_01 a0 a1 with rfl | rfl <;> rcases iv_01 b0 b1 with rfl | rfl <;> decide
theorem iv_shr2 (a : Int32) : (a >>> ((2 : Int32) &&& 31)).toInt = a.toInt / 4 := by
  show (BitVec.sshiftRight' a.toBitVec (((2 : Int32) &&& 31).toBitVec.smod 32)).toInt = _
  rw [BitVec.toInt_sshiftRight']
  have h3 : ((((2 : Int32) &&& 31).toBitVec.smod 32).toNat) = 2 := by decide
  rw [h3, Int.shiftRight_eq_div_pow]
  rfl
theorem iv_and255 (a : Int32) : 0 ≤ (a &&& (255 : Int32)).toInt ∧ (a &&& (255 : Int32)).toInt ≤ 255 := by
  have e : a = nI a.toBitVec.toNat := by
    apply Int32.toBitVec_inj.1
    show a.toBitVec = BitVec.ofNat 32 a.toBitVec.toNat
    simp
  have h : ∀ x y : Nat, nI x &&& nI y = nI (x &&& y) := fun x y => by
    apply Int32.toBitVec_inj.1
    show BitVec.ofNat 32 x &&& BitVec.ofNat 32 y = BitVec.ofNat 32 (x &&& y)
    apply BitVec.eq_of_getLsbD_eq
    intro i hi
    simp [hi]
  have h2 : nI a.toBitVec.toNat &&& nI 255 = nI (a.toBitVec.toNat % 256) := by rw [h, show (255 : Nat) = 2 ^ 8 - 1 from rfl, Nat.and_two_pow_sub_one_eq_mod]
  have h3 : a &&& (255 : Int32) = nI (a.toBitVec.toNat % 256) := by rw [← h2, ← e]; rfl
  have h4 := Nat.mod_lt a.toBitVec.toNat (show 256 > 0 by decide)
  rw [h3, nI_toInt (by omega)]
  omega
