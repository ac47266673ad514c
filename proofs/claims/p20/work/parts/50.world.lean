def rU {α : Type} (f : Nat → α) (k : Nat) (v : α) : Nat → α := fun j => if j = k then v else f j
def rw_W (o : Nat) (c : Nat → Nat) (kc : Nat → ClassId) (st : Nat → Int32) (lg : Nat → Int64) (ai : Nat → Nat → Int32) (al : Nat → Nat → Int64) : va_W := [(o, .inr (11, [.ref (c 0), .int (st 1), .int (st 2), .int (st 3), .int (st 4), .int (st 5), .int (st 6), .int (st 7), .ref (c 8), .int (st 9), .ref (c 10), .ref (c 11), .int (st 12), .int (st 13), .ref (c 14), .int (st 15), .int (st 16), .int (st 17), .ref (c 18), .ref (c 19), .ref (c 20), .int (st 21), .int (st 22), .long (lg 23), .int (st 24), .ref (c 25), .int (st 26), .long (lg 27), .ref (c 28), .ref (c 29), .int (st 30), .ref (c 31), .int (st 32), .ref (c 33), .ref (c 34), .ref (c 35), .ref (c 36), .int (st 37)])), (c 0, .inl (kc 0, 428040, .inl (ai 0))), (c 8, .inl (kc 8, 400, .inl (ai 8))), (c 10, .inl (kc 10, 8, .inl (ai 10))), (c 11, .inl (kc 11, 8, .inr (.inl (al 11)))), (c 14, .inl (kc 14, 32, .inl (ai 14))), (c 18, .inl (kc 18, 128, .inr (.inl (al 18)))), (c 19, .inl (kc 19, 128, .inl (ai 19))), (c 20, .inl (kc 20, 128, .inl (ai 20))), (c 25, .inl (kc 25, 130, .inl (ai 25))), (c 28, .inl (kc 28, 16, .inr (.inl (al 28)))), (c 29, .inl (kc 29, 400, .inr (.inl (al 29)))), (c 31, .inl (kc 31, 128, .inl (ai 31))), (c 33, .inl (kc 33, 16, .inl (ai 33))), (c 34, .inl (kc 34, 16, .inl (ai 34))), (c 35, .inl (kc 35, 16, .inl (ai 35))), (c 36, .inl (kc 36, 16, .inr (.inl (al 36))))]
abbrev rw_T (kc : Nat → ClassId) : List (ClassId × FieldType) := [(kc 0, .int), (kc 8, .int), (kc 10, .int), (kc 11, .long), (kc 14, .int), (kc 18, .long), (kc 19, .boolean), (kc 20, .boolean), (kc 25, .int), (kc 28, .long), (kc 29, .long), (kc 31, .int), (kc 33, .int), (kc 34, .int), (kc 35, .int), (kc 36, .long)]
theorem vD_map {A : Nat → Prop} {ws ws' : va_W} (h : ws'.map Prod.fst = ws.map Prod.fst) (hD : va_D A ws) : va_D A ws' := by
  have g : ∀ (i : Nat) (p : Nat × va_E), ws'[i]? = some p → ∃ q, ws[i]? = some q ∧ q.1 = p.1 := fun i p hp => by
    have h1 : (ws'.map Prod.fst)[i]? = some p.1 := by rw [List.getElem?_map, hp]; rfl
    rw [h, List.getElem?_map] at h1
    obtain ⟨q, h2, h3⟩ := Option.map_eq_some_iff.mp h1
    exact ⟨q, h2, h3⟩
  refine ⟨fun i j p q hp hq e => ?_, fun k q hq => ?_⟩
  · obtain ⟨p', hp', ep⟩ := g i p hp
    obtain ⟨q', hq', eq⟩ := g j q hq
    exact hD.1 i j p' q' hp' hq' (ep.trans (e.trans eq.symm))
  · obtain ⟨q', hq', eq⟩ := g k q hq
    rw [← eq]
    exact hD.2 k q' hq'
theorem rw_D {A : Nat → Prop} {o : Nat} {c : Nat → Nat} {kc : Nat → ClassId} {st st' : Nat → Int32} {lg lg' : Nat → Int64} {ai ai' : Nat → Nat → Int32} {al al' : Nat → Nat → Int64} (h : va_D A (rw_W o c kc st lg ai al)) : va_D A (rw_W o c kc st' lg' ai' al') := vD_map (ws := rw_W o c kc st lg ai al) rfl h
theorem vfree {A : Nat → Prop} {ws : va_W} {H0 H : Heap} {locs : List Loc} (hD : va_D A ws) (hS : va_S A H0 H locs) (hA : ∀ q : Nat, H0.size ≤ q → A q) : ∀ q : Nat, va_A ws H.size q → A q := fun q h => h.elim (fun ⟨k, e, hk⟩ => hD.2 k _ hk) (fun h => hA q (Nat.le_trans hS.1 h))
theorem iv_add {a b : Int32} (h1 : -2147483648 ≤ a.toInt + b.toInt) (h2 : a.toInt + b.toInt ≤ 2147483647) : (a + b).toInt = a.toInt + b.toInt := by
  rw [Int32.toInt_add]; exact Int.bmod_eq_of_le (by omega) (by omega)
theorem iv_sub {a b : Int32} (h1 : -2147483648 ≤ a.toInt - b.toInt) (h2 : a.toInt - b.toInt ≤ 2147483647) : (a - b).toInt = a.toInt - b.toInt := by
  rw [Int32.toInt_sub]; exact Int.bmod_eq_of_le (by omega) (by omega)
theorem iv_mulc {a b : Int32} {n : Int} (e : a.toInt = n) (h1 : -2147483648 ≤ n * b.toInt) (h2 : n * b.toInt ≤ 2147483647) : (a * b).toInt = n * b.toInt := by
  rw [Int32.toInt_mul, e]; exact Int.bmod_eq_of_le (by omega) (by omega)
theorem iv_lt {a b : Int32} (h : a < b) : a.toInt < b.toInt := Int32.lt_iff_toInt_lt.mp h
theorem iv_nlt {a b : Int32} (h : ¬ a < b) : b.toInt ≤ a.toInt := Int32.le_iff_toInt_le.mp (Int32.not_lt.mp h)
theorem iv_le {a b : Int32} (h : a ≤ b) : a.toInt ≤ b.toInt := Int32.le_iff_toInt_le.mp h
theorem iv_nle {a b : Int32} (h : ¬ a ≤ b) : b.toInt < a.toInt := Int32.lt_iff_toInt_lt.mp (Int32.not_le.mp h)
theorem iv_eq {a b : Int32} (h : a = b) : a.toInt = b.toInt := congrArg Int32.toInt h
theorem iv_ne {a b : Int32} (h : ¬ a = b) : a.toInt ≠ b.toInt := fun q => h (Int32.toInt_inj.mp q)
theorem iv_in {i : Int32} {N : Nat} (h0 : 0 ≤ i.toInt) (h1 : i.toInt < (N : Int)) : vp_in i N := vp_in_iff.mpr ⟨h0, h1⟩
theorem iv_rng (a : Int32) : -2147483648 ≤ a.toInt ∧ a.toInt ≤ 2147483647 := ⟨by have := a.le_toInt; omega, by have := a.toInt_lt; omega⟩
theorem iv_01 {a : Int32} (h0 : 0 ≤ a.toInt) (h1 : a.toInt ≤ 1) : a = 0 ∨ a = 1 := by
  rcases (show a.toInt = 0 ∨ a.toInt = 1 by omega) with h | h
  · exact Or.inl (Int32.toInt_inj.mp (h.trans (by decide)))
  · exact Or.inr (Int32.toInt_inj.mp (h.trans (by decide)))
theorem iv_and01 {a b : Int32} (a0 : 0 ≤ a.toInt) (a1 : a.toInt ≤ 1) (b0 : 0 ≤ b.toInt) (b1 : b.toInt ≤ 1) : 0 ≤ (a &&& b).toInt ∧ (a &&& b).toInt ≤ 1 := by
  rcases iv_01 a0 a1 with rfl | rfl <;> rcases iv_01 b0 b1 with rfl | rfl <;> decide
theorem iv_or01 {a b : Int32} (a0 : 0 ≤ a.toInt) (a1 : a.toInt ≤ 1) (b0 : 0 ≤ b.toInt) (b1 : b.toInt ≤ 1) : 0 ≤ (a ||| b).toInt ∧ (a ||| b).toInt ≤ 1 := by
  rcases iv_01 a0 a1 with rfl | rfl <;> rcases iv_01 b0 b1 with rfl | rfl <;> decide
theorem iv_shr2 (a : Int32) : (a >>> ((2 : Int32) &&& 31)).toInt = a.toInt / 4 := by
  show (BitVec.sshiftRight' a.toBitVec (((2 : Int32) &&& 31).toBitVec.smod 32)).toInt = _
  rw [BitVec.toInt_sshiftRight']
  have h3 : ((((2 : Int32) &&& 31).toBitVec.smod 32).toNat) = 2 := by decide
  rw [h3, Int.shiftRight_eq_div_pow]
  rfl
theorem iv_and255 (a : Int32) : 0 ≤ (a &&& (255 : Int32)).toInt ∧ (a &&& (255 : Int32)).toInt ≤ 255 := by
  have e : a = nI a.toBitVec.toNat := by
    apply Int32.toBitVec_inj.1
    show a.toBitVec = BitVec.ofNat 32 a.toBitVec.toNat
    simp
  have h : ∀ x y : Nat, nI x &&& nI y = nI (x &&& y) := fun x y => by
    apply Int32.toBitVec_inj.1
    show BitVec.ofNat 32 x &&& BitVec.ofNat 32 y = BitVec.ofNat 32 (x &&& y)
    apply BitVec.eq_of_getLsbD_eq
    intro i hi
    simp [hi]
  have h2 : nI a.toBitVec.toNat &&& nI 255 = nI (a.toBitVec.toNat % 256) := by rw [h, show (255 : Nat) = 2 ^ 8 - 1 from rfl, Nat.and_two_pow_sub_one_eq_mod]
  have h3 : a &&& (255 : Int32) = nI (a.toBitVec.toNat % 256) := by rw [← h2, ← e]; rfl
  have h4 := Nat.mod_lt a.toBitVec.toNat (show 256 > 0 by decide)
  rw [h3, nI_toInt (by omega)]
  omega
theorem lu_dec {v : Int64} {x : Int32} (hx : x = lg_cmp v 0) (hc : ¬ x = 0) : ((v.toUInt64 >>> ((8 : Int32).toInt64.toUInt64 &&& Int64.toUInt64 63)).toInt64).toUInt64.toNat < v.toUInt64.toNat := by
  have h0 : v ≠ 0 := fun h => hc (hx.trans ((lg_cmp_eq v 0).mpr h))
  have h1 : v.toUInt64.toNat ≠ 0 := fun h => h0 (by
    have e : v.toUInt64 = (0 : Int64).toUInt64 := UInt64.toNat_inj.mp (h.trans (by decide))
    exact (Int64.toInt64_toUInt64 v).symm.trans ((congrArg UInt64.toInt64 e).trans (Int64.toInt64_toUInt64 0)))
  rw [UInt64.toUInt64_toInt64, UInt64.toNat_shiftRight]
  have h2 : ((8 : Int32).toInt64.toUInt64 &&& Int64.toUInt64 63).toNat % 64 = 8 := by decide
  rw [h2, Nat.shiftRight_eq_div_pow]
  omega
theorem met_mono {l : Launch} {y : MethodName} {ws : List Cond} {rm : Room} {Pc Pc' : Array Value → State → Prop} {Qc Qc' : Array Value → State → Outcome → State → Prop} {mc ms : Nat} {free : Addr → Prop} (h : Met l y ws rm Pc Qc mc ms free) (hp : ∀ a s, Pc' a s → Pc a s) (hq : ∀ a s o t, Pc' a s → Qc a s o t → Qc' a s o t) : Met l y ws rm Pc' Qc' mc ms free := by
  intro p e ha hc hk s m args below hf happ hP hK
  obtain ⟨n, o, h1, h2, h3, h4, h5⟩ := h p e ha hc hk s m args below hf happ (hp _ _ hP) hK
  exact ⟨n, o, h1, h2, h3, hq _ _ _ _ hP h4, h5⟩
def rp (a r : Int32) : Int32 := (32 : Int32) + (4096 : Int32) * a + (32 : Int32) * r
def rK (f : Nat → Int32) (a r : Int32) : Int32 := md_get f (rp a r)
def rB (f : Nat → Int32) (a r : Int32) : Int32 := (md_num f (rp a r + (5 : Int32)) 4).toInt32
def rS (f : Nat → Int32) (q : Int32) : Int32 := md_get f ((8224 : Int32) + (26 : Int32) * q)
theorem rp_i {a r : Int32} (h0 : 0 ≤ a.toInt) (h1 : a.toInt ≤ 1) (h2 : -1 ≤ r.toInt) (h3 : r.toInt ≤ 300) : (rp a r).toInt = 32 + 4096 * a.toInt + 32 * r.toInt := by
  have e1 : ((4096 : Int32) * a).toInt = 4096 * a.toInt := iv_mulc (by decide) (by omega) (by omega)
  have e2 : ((32 : Int32) * r).toInt = 32 * r.toInt := iv_mulc (by decide) (by omega) (by omega)
  have z : (32 : Int32).toInt = 32 := by decide
  have e3 : ((32 : Int32) + (4096 : Int32) * a).toInt = 32 + 4096 * a.toInt := (iv_add (by omega) (by omega)).trans (by omega)
  show ((32 : Int32) + (4096 : Int32) * a + (32 : Int32) * r).toInt = _
  exact (iv_add (by omega) (by omega)).trans (by omega)
theorem rp_of {a r x : Int32} (h0 : 0 ≤ a.toInt) (h1 : a.toInt ≤ 1) (h2 : -1 ≤ r.toInt) (h3 : r.toInt ≤ 300) (hx : x.toInt = 32 + 4096 * a.toInt + 32 * r.toInt) : x = rp a r := Int32.toInt_inj.mp (hx.trans (rp_i h0 h1 h2 h3).symm)
theorem rp5_of {a r x : Int32} (h0 : 0 ≤ a.toInt) (h1 : a.toInt ≤ 1) (h2 : -1 ≤ r.toInt) (h3 : r.toInt ≤ 300) (hx : x.toInt = 32 + 4096 * a.toInt + 32 * r.toInt + 5) : x = rp a r + (5 : Int32) := by
  have z : (5 : Int32).toInt = 5 := by decide
  have e := rp_i h0 h1 h2 h3
  exact Int32.toInt_inj.mp (hx.trans (by rw [iv_add (by omega) (by omega)]; omega))
theorem rS_of {q x : Int32} {f : Nat → Int32} (h2 : -1 ≤ q.toInt) (h3 : q.toInt ≤ 65536) (hx : x.toInt = 8224 + 26 * q.toInt) : (md_get f x).toInt = (rS f q).toInt := by
  have e1 : ((26 : Int32) * q).toInt = 26 * q.toInt := iv_mulc (by decide) (by omega) (by omega)
  have z : (8224 : Int32).toInt = 8224 := by decide
  have e : x = (8224 : Int32) + (26 : Int32) * q := Int32.toInt_inj.mp (hx.trans (by rw [iv_add (by omega) (by omega)]; omega))
  rw [e]; rfl
theorem iv_sh4 {p : Int32} (h0 : 0 ≤ p.toInt) (h1 : p.toInt < 1712160) : vp_in (p >>> ((2 : Int32) &&& 31)) 428040 := iv_in (by rw [iv_shr2]; omega) (by rw [iv_shr2]; omega)
theorem v_X9_byteIn (l : Launch) (dC : Nat → ClassId) (dI : Nat → Nat → Nat) (o : Nat) (c : Nat → Nat) (kc : Nat → ClassId) (st : Nat → Int32) (lg : Nat → Int64) (ai : Nat → Nat → Int32) (al : Nat → Nat → Int64) (p0 : Int32) (hq0 : 0 ≤ p0.toInt) (hq1 : p0.toInt < 1712160) : Met l yX9_byteIn wsX9_byteIn ({ frames := 0, cells := 0, slots := 0, locals := 0 }) (va_Pc [.ref o, .int p0] (fun U => va_P (dC, dI) vwCl (rw_W o c kc st lg ai al) U.heap ∧ va_K (dC, dI) vwCl (rw_T kc) U)) (vp_Si (fun r => (r.toInt = (md_get (ai 0) p0).toInt) ∧ (0 ≤ r.toInt) ∧ (r.toInt ≤ 255))) 0 0 (fun _ => False) :=
  met_mono (k_X9_byteIn l dC dI o (c 0) 428040 (kc 0) [.int (st 1), .int (st 2), .int (st 3), .int (st 4), .int (st 5), .int (st 6), .int (st 7), .ref (c 8), .int (st 9), .ref (c 10), .ref (c 11), .int (st 12), .int (st 13), .ref (c 14), .int (st 15), .int (st 16), .int (st 17), .ref (c 18), .ref (c 19), .ref (c 20), .int (st 21), .int (st 22), .long (lg 23), .int (st 24), .ref (c 25), .int (st 26), .long (lg 27), .ref (c 28), .ref (c 29), .int (st 30), .ref (c 31), .int (st 32), .ref (c 33), .ref (c 34), .ref (c 35), .ref (c 36), .int (st 37)] (ai 0) p0 (iv_sh4 hq0 hq1)) (fun a s h => ⟨h.1, h.2.1.sub (ws' := [(o, .inr (11, .ref (c 0) :: [.int (st 1), .int (st 2), .int (st 3), .int (st 4), .int (st 5), .int (st 6), .int (st 7), .ref (c 8), .int (st 9), .ref (c 10), .ref (c 11), .int (st 12), .int (st 13), .ref (c 14), .int (st 15), .int (st 16), .int (st 17), .ref (c 18), .ref (c 19), .ref (c 20), .int (st 21), .int (st 22), .long (lg 23), .int (st 24), .ref (c 25), .int (st 26), .long (lg 27), .ref (c 28), .ref (c 29), .int (st 30), .ref (c 31), .int (st 32), .ref (c 33), .ref (c 34), .ref (c 35), .ref (c 36), .int (st 37)])), (c 0, .inl (kc 0, 428040, .inl (ai 0)))]) [0, 1] rfl, h.2.2.sub (tys' := [(kc 0, .int)]) [0] rfl⟩) (fun a s o t _ h => by obtain ⟨r, e, rfl, ht⟩ := h; exact ⟨_, e, ⟨rfl, iv_and255 _⟩, ht⟩)
theorem v_X9_number (l : Launch) (dC : Nat → ClassId) (dI : Nat → Nat → Nat) (o : Nat) (c : Nat → Nat) (kc : Nat → ClassId) (st : Nat → Int32) (lg : Nat → Int64) (ai : Nat → Nat → Int32) (al : Nat → Nat → Int64) (p0 p1 : Int32) (hq0 : 0 ≤ p0.toInt) (hq1 : 0 ≤ p1.toInt) (hq2 : p1.toInt ≤ 16) (hq3 : p0.toInt + p1.toInt ≤ 1712160) : Met l yX9_number wsX9_number ({ frames := 1, cells := 0, slots := 0, locals := 24 }) (va_Pc [.ref o, .int p0, .int p1] (fun U => va_P (dC, dI) vwCl (rw_W o c kc st lg ai al) U.heap ∧ va_K (dC, dI) vwCl (rw_T kc) U)) (vp_Sl (fun r => r = md_num (ai 0) p0 p1.toNatClampNeg)) 0 0 (fun _ => False) := by
  obtain ⟨n, hn, rfl⟩ := nI_of (x := p1) (fun h => by have := iv_lt h; have z : (0 : Int32).toInt = 0 := by decide
                                                      omega)
  rw [nI_toInt hn] at hq1 hq2 hq3
  rw [nI_clamp hn]
  refine met_mono (k_X9_number l dC dI o (c 0) 428040 (kc 0) [.int (st 1), .int (st 2), .int (st 3), .int (st 4), .int (st 5), .int (st 6), .int (st 7), .ref (c 8), .int (st 9), .ref (c 10), .ref (c 11), .int (st 12), .int (st 13), .ref (c 14), .int (st 15), .int (st 16), .int (st 17), .ref (c 18), .ref (c 19), .ref (c 20), .int (st 21), .int (st 22), .long (lg 23), .int (st 24), .ref (c 25), .int (st 26), .long (lg 27), .ref (c 28), .ref (c 29), .int (st 30), .ref (c 31), .int (st 32), .ref (c 33), .ref (c 34), .ref (c 35), .ref (c 36), .int (st 37)] (ai 0) p0 n hn (fun k hk => ?_)) (fun a s h => ⟨h.1, h.2.1.sub (ws' := [(o, .inr (11, .ref (c 0) :: [.int (st 1), .int (st 2), .int (st 3), .int (st 4), .int (st 5), .int (st 6), .int (st 7), .ref (c 8), .int (st 9), .ref (c 10), .ref (c 11), .int (st 12), .int (st 13), .ref (c 14), .int (st 15), .int (st 16), .int (st 17), .ref (c 18), .ref (c 19), .ref (c 20), .int (st 21), .int (st 22), .long (lg 23), .int (st 24), .ref (c 25), .int (st 26), .long (lg 27), .ref (c 28), .ref (c 29), .int (st 30), .ref (c 31), .int (st 32), .ref (c 33), .ref (c 34), .ref (c 35), .ref (c 36), .int (st 37)])), (c 0, .inl (kc 0, 428040, .inl (ai 0)))]) [0, 1] rfl, h.2.2.sub (tys' := [(kc 0, .int)]) [0] rfl⟩) (fun a s o t _ h => h)
  have e := nI_toInt (n := k) (by omega)
  have e2 : (p0 + nI k).toInt = p0.toInt + k := (iv_add (by omega) (by omega)).trans (by omega)
  exact iv_sh4 (by omega) (by omega)
