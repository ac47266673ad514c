theorem cp_n {x : Int32} (h : 0 ≤ x.toInt) : ¬ x < 0 := fun q => by
  have h1 := iv_lt q
  have z : (0 : Int32).toInt = 0 := by decide
  omega
theorem nar_b (v : Int32) : -128 ≤ (vp_nar .byte v).toInt ∧ (vp_nar .byte v).toInt ≤ 127 := by
  have e : (vp_nar .byte v).toInt = v.toInt8.toInt := by
    show (v.toInt8.toInt32).toInt = _
    exact Int8.toInt_toInt32 _
  rw [e]
  have h1 := Int8.le_toInt v.toInt8
  have h2 := Int8.toInt_lt v.toInt8
  omega
theorem iv_div {a b : Int32} {n : Int} (h0 : 0 ≤ a.toInt) (hb : b.toInt = n) (hn : 0 < n) : (a / b).toInt = a.toInt / n := by
  rw [Int32.toInt_div, hb, Int.tdiv_eq_ediv_of_nonneg h0]
  have h1 : a.toInt / n ≤ a.toInt := Int.ediv_le_self n h0
  have h2 : 0 ≤ a.toInt / n := Int.ediv_nonneg h0 (by omega)
  have h3 := iv_rng a
  generalize a.toInt / n = q at h1 h2 ⊢
  exact Int.bmod_eq_of_le (by omega) (by omega)
theorem iv_rem {a b : Int32} {n : Int} (h0 : 0 ≤ a.toInt) (hb : b.toInt = n) (hn : 0 < n) : 0 ≤ (a - a / b * b).toInt ∧ (a - a / b * b).toInt < n := by
  have e1 := iv_div h0 hb hn
  have h3 := iv_rng a
  have d1 := Int.emod_nonneg a.toInt (show n ≠ 0 by omega)
  have d2 := Int.emod_lt_of_pos a.toInt hn
  have d3 := Int.emod_def a.toInt n
  have d4 : n * (a.toInt / n) = a.toInt / n * n := Int.mul_comm _ _
  have h2 : 0 ≤ a.toInt / n * n := Int.mul_nonneg (Int.ediv_nonneg h0 (by omega)) (by omega)
  have e2 : (a / b * b).toInt = a.toInt / n * n := by
    rw [Int32.toInt_mul, e1, hb]
    generalize a.toInt / n * n = q at d4 h2 ⊢
    exact Int.bmod_eq_of_le (by omega) (by omega)
  have e3 : (a - a / b * b).toInt = a.toInt - a.toInt / n * n := by
    rw [Int32.toInt_sub, e2]
    generalize a.toInt / n * n = q at d4 h2 ⊢
    exact Int.bmod_eq_of_le (by omega) (by omega)
  rw [e3]
  omega
theorem iv_ushr1 {a : Int32} (h0 : 0 ≤ a.toInt) : (a.toUInt32 >>> ((1 : Int32).toUInt32 &&& Int32.toUInt32 31)).toInt32.toInt = a.toInt / 2 := by
  obtain ⟨n, hn, rfl⟩ := nI_of (x := a) (cp_n h0)
  rw [nI_toInt hn]
  have e0 : (nI n).toUInt32.toNat = n := by
    show (BitVec.ofNat 32 n).toNat = n
    rw [BitVec.toNat_ofNat, Nat.mod_eq_of_lt (by omega)]
  have hu : ((nI n).toUInt32 >>> ((1 : Int32).toUInt32 &&& Int32.toUInt32 31)).toNat = n / 2 := by
    rw [UInt32.toNat_shiftRight, e0, show ((1 : Int32).toUInt32 &&& Int32.toUInt32 31).toNat % 32 = 1 by decide, Nat.shiftRight_eq_div_pow]
  generalize (nI n).toUInt32 >>> ((1 : Int32).toUInt32 &&& Int32.toUInt32 31) = u at hu ⊢
  have h1 : u.toInt32.toInt = (u.toNat : Int) := BitVec.toInt_eq_toNat_of_lt (x := u.toBitVec) (show 2 * u.toNat < 2 ^ 32 by omega)
  rw [h1, hu]
  omega
def iR (f : Nat → Int32) (a : Int32) (k : Nat) : Int32 := Nat.rec 0 (fun k r => (r <<< ((8 : Int32) &&& 31)) ||| (f (a + nI k).toNatClampNeg &&& (255 : Int32))) k
theorem iR_0 {f : Nat → Int32} {a : Int32} {x : Int} (h : x ≤ 0) : (0 : Int32) = iR f a x.toNat := by
  rw [show x.toNat = 0 by omega]; rfl
theorem iR_s {f : Nat → Int32} {a acc acc' x i i' : Int32} (h : acc = iR f a (i.toInt - a.toInt).toNat) (e : acc' = (acc <<< ((8 : Int32) &&& 31)) ||| (x &&& (255 : Int32))) (hx : x = f i.toNatClampNeg) (h0 : a.toInt ≤ i.toInt) (ha : 0 ≤ a.toInt) (ei : i'.toInt = i.toInt + 1) : acc' = iR f a (i'.toInt - a.toInt).toNat := by
  have r1 := iv_rng i
  have e1 : (i'.toInt - a.toInt).toNat = (i.toInt - a.toInt).toNat + 1 := by omega
  have e3 : (nI (i.toInt - a.toInt).toNat).toInt = i.toInt - a.toInt := by rw [nI_toInt (by omega)]; omega
  have e2 : a + nI (i.toInt - a.toInt).toNat = i := Int32.toInt_inj.mp (by rw [iv_add (by omega) (by omega)]; omega)
  rw [e1, e, hx, h]
  show _ = (iR f a (i.toInt - a.toInt).toNat <<< ((8 : Int32) &&& 31)) ||| (f (a + nI (i.toInt - a.toInt).toNat).toNatClampNeg &&& (255 : Int32))
  rw [e2]
def cB (f : Nat → Int32) (a r : Int32) : Int32 := iR f (rp a r + (5 : Int32)) 4
theorem cp_l {x n : Int32} {N : Nat} (h0 : 0 ≤ x.toInt) (h1 : 0 ≤ n.toInt) (h : x.toInt + n.toInt ≤ (N : Int)) : x.toNatClampNeg + n.toNatClampNeg ≤ N := by
  show x.toInt.toNat + n.toInt.toNat ≤ N
  omega
theorem cp_fit {f : Nat → Int32} {N : Nat} {sp n : Int32} (h : aR f N (-128) 127) (h0 : 0 ≤ sp.toInt) (h1 : 0 ≤ n.toInt) (h2 : sp.toInt + n.toInt ≤ (N : Int)) : ∀ i, i < n.toNatClampNeg → fits .byte (.int (f (sp.toNatClampNeg + i))) = true := fun i hi => by
  have hi' : i < n.toInt.toNat := hi
  have q := h (sp.toNatClampNeg + i) (by show sp.toInt.toNat + i < N; omega)
  show (decide (-128 ≤ f (sp.toNatClampNeg + i)) && decide (f (sp.toNatClampNeg + i) ≤ 127)) = true
  rw [Bool.and_eq_true, decide_eq_true_iff, decide_eq_true_iff]
  exact ⟨Int32.le_iff_toInt_le.mpr (by rw [show (-128 : Int32).toInt = -128 by decide]; exact q.1), Int32.le_iff_toInt_le.mpr (by rw [show (127 : Int32).toInt = 127 by decide]; exact q.2)⟩
theorem cn_e1 {h : Nat → Int64} {x k : Int32} (H : x.toInt - 1 = (cntL h k.toInt.toNat : Int)) (hk : k.toInt = 16) : x.toInt = 1 + (cntL h 16 : Int) := by
  rw [hk] at H
  have H : x.toInt - 1 = (cntL h 16 : Int) := H
  omega
def cntZ (h : Nat → Int32) (n : Nat) : Nat := Nat.rec 0 (fun k r => r + if h k = 0 then 0 else 1) n
theorem cntZ_s (h : Nat → Int32) (n : Nat) : cntZ h (n + 1) = cntZ h n + if h n = 0 then 0 else 1 := rfl
theorem cntZ_m (h : Nat → Int32) (n k : Nat) : cntZ h n ≤ cntZ h (n + k) := by
  induction k with
  | zero => exact Nat.le_refl _
  | succ k ih => rw [← Nat.add_assoc, cntZ_s]; omega
theorem cz_0 {h : Nat → Int32} {x k : Int32} {d : Int} (e : x.toInt = d) (hk : k.toInt = 0) : x.toInt = d + (cntZ h k.toInt.toNat : Int) := by
  rw [hk, e]; show d = d + 0; omega
theorem cz_1 {h : Nat → Int32} {x x' k k' w : Int32} {d : Int} (H : x.toInt = d + (cntZ h k.toInt.toNat : Int)) (hX : w = h k.toNatClampNeg) (hw : w.toInt ≠ 0) (h0 : 0 ≤ k.toInt) (ex : x'.toInt = x.toInt + 1) (ek : k'.toInt = k.toInt + 1) : x'.toInt = d + (cntZ h k'.toInt.toNat : Int) := by
  have e1 : k'.toInt.toNat = k.toInt.toNat + 1 := by omega
  have e2 : ¬ h k.toInt.toNat = 0 := fun q => hw (by rw [hX]; show (h k.toInt.toNat).toInt = 0; rw [q]; decide)
  rw [e1, cntZ_s, if_neg e2]
  omega
theorem cz_z {h : Nat → Int32} {x x' k k' w : Int32} {d : Int} (H : x.toInt = d + (cntZ h k.toInt.toNat : Int)) (hX : w = h k.toNatClampNeg) (hw : w.toInt = 0) (h0 : 0 ≤ k.toInt) (ex : x'.toInt = x.toInt) (ek : k'.toInt = k.toInt + 1) : x'.toInt = d + (cntZ h k'.toInt.toNat : Int) := by
  have e1 : k'.toInt.toNat = k.toInt.toNat + 1 := by omega
  have e2 : h k.toInt.toNat = 0 := hX.symm.trans (Int32.toInt_inj.mp (hw.trans (by decide)))
  rw [e1, cntZ_s, if_pos e2]
  omega
theorem cz_lt {h : Nat → Int32} {x k n w : Int32} {d : Int} (H : x.toInt = d + (cntZ h k.toInt.toNat : Int)) (hc : d + (cntZ h n.toInt.toNat : Int) ≤ 128) (hX : w = h k.toNatClampNeg) (hw : w.toInt ≠ 0) (h0 : 0 ≤ k.toInt) (h1 : k.toInt < n.toInt) : x.toInt ≤ 127 := by
  have e2 : ¬ h k.toInt.toNat = 0 := fun q => hw (by rw [hX]; show (h k.toInt.toNat).toInt = 0; rw [q]; decide)
  have q := cntZ_m h (k.toInt.toNat + 1) (n.toInt.toNat - (k.toInt.toNat + 1))
  rw [show k.toInt.toNat + 1 + (n.toInt.toNat - (k.toInt.toNat + 1)) = n.toInt.toNat by omega, cntZ_s, if_neg e2] at q
  omega
theorem cz_le {h : Nat → Int32} {x k n : Int32} {d : Int} (H : x.toInt = d + (cntZ h k.toInt.toNat : Int)) (hc : d + (cntZ h n.toInt.toNat : Int) ≤ 128) (e : k.toInt = n.toInt) : x.toInt ≤ 128 := by
  rw [e] at H
  omega
