def zr_L (k : Nat) : Nat → Int64 := Nat.rec (fun _ => 0) (fun k g => vp_updL g (nI k).toNatClampNeg 0) k
def zr_Z (k : Nat) : Nat → Int32 := Nat.rec (fun _ => 0) (fun k g => upd g (nI k).toNatClampNeg (vp_nar .boolean 0)) k
theorem zr_L0 (k j : Nat) : zr_L k j = 0 := by
  induction k with
  | zero => rfl
  | succ k ih => show (if j = (nI k).toNatClampNeg then (0 : Int64) else zr_L k j) = 0; rw [ih]; exact ite_self _
theorem zr_Z0 (k j : Nat) : zr_Z k j = 0 := by
  induction k with
  | zero => rfl
  | succ k ih => show (if j = (nI k).toNatClampNeg then vp_nar .boolean 0 else zr_Z k j) = 0; rw [ih]; exact ite_self _
theorem md_fz (j : Nat) (h : 4 ≤ j) : md_fresh j = 0 := by
  have e : ∀ (f : Nat → Int32) (at_ b : Int32), (at_ >>> ((2 : Int32) &&& 31)).toNatClampNeg < 4 → md_set f at_ b j = f j := fun f at_ b q => by
    unfold md_set upd; rw [if_neg (by omega)]
  have eb : ∀ (f : Nat → Int32) (at_ : Int32) (v : Int64) (n : Int32) (c : Nat), (∀ k, k < c → ((at_ + nI k) >>> ((2 : Int32) &&& 31)).toNatClampNeg < 4) → md_bytes f at_ v n c j = f j := fun f at_ v n c => by
    induction c with
    | zero => intro _; rfl
    | succ c ih => intro q; exact (e _ _ _ (q c (Nat.lt_succ_self c))).trans (ih (fun k hk => q k (Nat.lt_succ_of_lt hk)))
  unfold md_fresh
  rw [eb _ _ _ _ _ (by decide +kernel)]
  unfold md_head0
  rw [e _ _ _ (by decide +kernel), eb _ _ _ _ _ (by decide +kernel)]
theorem lq_sh {z : Nat} (hz : z < 2 ^ 31) : (nI z >>> ((2 : Int32) &&& 31)) = nI (z / 4) := by
  refine Int32.toInt_inj.mp ?_
  rw [nI_toInt (by omega)]
  show (BitVec.sshiftRight' (nI z).toBitVec (((2 : Int32) &&& 31).toBitVec.smod 32)).toInt = _
  rw [BitVec.toInt_sshiftRight']
  have h3 : ((((2 : Int32) &&& 31).toBitVec.smod 32).toNat) = 2 := by decide
  have h4 : (nI z).toBitVec.toInt = (z : Int) := nI_toInt hz
  rw [h3, h4, Int.shiftRight_eq_div_pow]
  omega
theorem lq_plin {z : Nat} (h : z < 1712160) : vp_in (nI z >>> ((2 : Int32) &&& 31)) 428040 := by
  rw [lq_sh (by omega)]; exact vp_in_nI (by omega) (by decide)
theorem lq_plz {z : Nat} (h0 : 16 ≤ z) (h : z < 1712160) : md_get md_fresh (nI z) = 0 := by
  unfold md_get
  rw [lq_sh (by omega), nI_clamp (by omega), md_fz _ (by omega)]
  generalize (((8 : Int32) * (nI z &&& 3)).toUInt32 &&& Int32.toUInt32 31) = t
  have : (0 : Int32).toUInt32 >>> t = 0 := by
    show (0 : UInt32) >>> t = 0
    exact UInt32.zero_shiftRight
  rw [this]; decide
theorem lq_pgE (j k : Nat) : (8224 : Int32) + (26 : Int32) * nI j + nI k = nI (8224 + 26 * j + k) := by
  have h1 : (8224 : Int32) = nI 8224 := by decide
  have h2 : (26 : Int32) = nI 26 := by decide
  have h3 : nI 26 * nI j = nI (26 * j) := (Int32.ofNat_mul 26 j).symm
  rw [h1, h2, h3, nI_add, nI_add]
theorem lq_pg {j : Nat} (hj : j < 65536) : ∀ i, i < 26 → vp_in (((8224 : Int32) + ((26 : Int32) * (nI j)) + nI i) >>> ((2 : Int32) &&& 31)) 428040 := fun i hi => by
  rw [lq_pgE]; exact lq_plin (by omega)
theorem lq_pgz {j : Nat} (hj : j < 65536) : ∀ i, i < 26 → md_get md_fresh ((8224 : Int32) + ((26 : Int32) * (nI j)) + nI i) = 0 := fun i hi => by
  rw [lq_pgE]; exact lq_plz (by omega) (by omega)
theorem lq_pg17 {j : Nat} (hj : j < 65536) : ∀ i, i < 8 → vp_in (((8224 : Int32) + ((26 : Int32) * (nI j)) + (17 : Int32) + nI i) >>> ((2 : Int32) &&& 31)) 428040 := fun i hi => by
  have h : (8224 : Int32) + (26 : Int32) * nI j + (17 : Int32) + nI i = nI (8224 + 26 * j + 17 + i) := by
    have e : (17 : Int32) = nI 17 := by decide
    rw [e, lq_pgE, nI_add]
  rw [h]; exact lq_plin (by omega)
theorem lq_ex {p : Int32} (h0 : 0 ≤ p) (h1 : p < 65536) : ∃ j : Nat, j < 65536 ∧ p = nI j := by
  have hp : vp_in p 65536 := lq_in h0 h1 (by decide)
  exact vp_in_of hp (by decide)
theorem lq_qg {p : Int32} (h0 : 0 ≤ p) (h1 : p < 65536) : ∀ i, i < 26 → vp_in (((8224 : Int32) + ((26 : Int32) * p) + nI i) >>> ((2 : Int32) &&& 31)) 428040 := by
  obtain ⟨j, hj, rfl⟩ := lq_ex h0 h1
  exact lq_pg hj
theorem lq_qgz {p : Int32} (h0 : 0 ≤ p) (h1 : p < 65536) : ∀ i, i < 26 → md_get md_fresh ((8224 : Int32) + ((26 : Int32) * p) + nI i) = 0 := by
  obtain ⟨j, hj, rfl⟩ := lq_ex h0 h1
  exact lq_pgz hj
theorem lq_at {p : Int32} (h0 : 0 ≤ p) (h1 : p < 1712160) : vp_in (p >>> ((2 : Int32) &&& 31)) 428040 := by
  obtain ⟨j, hj, rfl⟩ := vp_in_of (lq_in h0 h1 (N := 1712160) (by decide)) (by decide)
  exact lq_plin hj
def bk_z (k : Nat) : Nat → Int32 := Nat.rec (pu_head (fun _ => 0) 1) (fun k g => upd g (nI k).toNatClampNeg (vp_nar .byte 0)) k
def bk_n (k : Nat) : Int32 := Nat.rec 0 (fun _ r => r + 1) k
def bk_img : Nat → Int32 := upd (pu_putL (pu_putL (pu_putI (pu_putI (upd (bk_z 23) (0 : Int32).toNatClampNeg (vp_nar .byte ((2 : Int32).toInt8.toInt32))) (1 : Int32) (1 : Int32) 4) (5 : Int32) (0 : Int32) 4) (9 : Int32) (0 : Int64) 8) (23 : Int32) (pu_sumN (pu_putL (pu_putI (pu_putI (upd (bk_z 23) (0 : Int32).toNatClampNeg (vp_nar .byte ((2 : Int32).toInt8.toInt32))) (1 : Int32) (1 : Int32) 4) (5 : Int32) (0 : Int32) 4) (9 : Int32) (0 : Int64) 8) 0 (pu_start (2 : Int32)) 23) 8) ((23 : Int32) + (8 : Int32)).toNatClampNeg (vp_nar .byte (-91 : Int32))
def bk_wl (k : Nat) : Nat → Int32 := Nat.rec (va_cpy (pu_head (fun _ => 0) 1) (fun _ => 0) 0 0 16) (fun k g => upd g ((32 : Int32) + (nI k)).toNatClampNeg (vp_nar .byte ((bk_img (nI k).toNatClampNeg).toInt8.toInt32))) k
def bk_rs (k : Nat) : Nat → Int32 := Nat.rec (fun _ => 0) (fun k g => upd g ((((32 : Int32) + (nI k)) - (32 : Int32)) / (32 : Int32)).toNatClampNeg (vp_nar .byte (0 : Int32))) k
theorem bk_1 : ∀ k, k < 32 → (32 : Int32) ≤ (32 : Int32) + nI k := by decide +kernel
theorem bk_2 : ∀ k, k < 32 → vp_in ((32 : Int32) + nI k) 8224 := by unfold vp_in; decide +kernel
theorem bk_3 : ∀ k, k < 32 → vp_in ((((32 : Int32) + nI k) - (32 : Int32)) / (32 : Int32)) 256 := by unfold vp_in; decide +kernel
def mp_put (f : Nat → Int32) (at_ : Int32) (v : Int64) (n : Int32) (k : Nat) : Nat → Int32 := Nat.rec f (fun k g => upd g (at_ + (nI k)).toNatClampNeg (((v.toUInt64 >>> (((8 : Int32) * ((n - (1 : Int32)) - (nI k))).toInt64.toUInt64 &&& Int64.toUInt64 63)).toInt64 &&& (255 : Int64)).toInt32)) k
def mp_sum (f : Nat → Int32) (s : Int64) (k : Nat) : Int64 := Nat.rec s (fun k r => pu_more r (f (nI k).toNatClampNeg)) k
def mp_w (f g : Nat → Int32) (at_ : Int32) (k : Nat) : Nat → Int32 := Nat.rec f (fun k h => md_set h (at_ + (nI k)) (g (nI k).toNatClampNeg)) k
