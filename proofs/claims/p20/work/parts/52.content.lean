theorem cl_inj {x i : Int32} (h0 : 0 ≤ x.toInt) (h1 : 0 ≤ i.toInt) (q : x.toNatClampNeg = i.toNatClampNeg) : x = i := by
  have e : x.toInt.toNat = i.toInt.toNat := q
  exact Int32.toInt_inj.mp (by omega)
theorem cl_lt {i : Int32} {n : Nat} (h0 : 0 ≤ i.toInt) (h1 : i.toInt < (n : Int)) : i.toNatClampNeg < n := by
  show i.toInt.toNat < n
  omega
theorem iv_or0 {a : Int32} : (a ||| (0 : Int32)) = a := by simp
theorem iv_or1 {a : Int32} (h0 : 0 ≤ a.toInt) (h1 : a.toInt ≤ 1) : (a ||| (1 : Int32)) = 1 := by
  rcases iv_01 h0 h1 with rfl | rfl <;> decide
theorem iv_and0 {a : Int32} : (a &&& (0 : Int32)) = 0 := by simp
theorem iv_and1 {a : Int32} (h0 : 0 ≤ a.toInt) (h1 : a.toInt ≤ 1) : (a &&& (1 : Int32)) = a := by
  rcases iv_01 h0 h1 with rfl | rfl <;> decide
def aR (f : Nat → Int32) (n : Nat) (lo hi : Int) : Prop := ∀ i, i < n → lo ≤ (f i).toInt ∧ (f i).toInt ≤ hi
theorem aR_get {f : Nat → Int32} {n : Nat} {lo hi : Int} {i x : Int32} (h : aR f n lo hi) (h0 : 0 ≤ i.toInt) (h1 : i.toInt < (n : Int)) (e : x = f i.toNatClampNeg) : lo ≤ x.toInt ∧ x.toInt ≤ hi := by
  rw [e]; exact h _ (cl_lt h0 h1)
theorem aR_upd {f g : Nat → Int32} {n : Nat} {lo hi : Int} {i v : Int32} (h : aR f n lo hi) (e : upd f i.toNatClampNeg v = g) (h0 : lo ≤ v.toInt) (h1 : v.toInt ≤ hi) : aR g n lo hi := fun j hj => by
  rw [← e]
  by_cases q : j = i.toNatClampNeg
  · rw [upd, if_pos q]; exact ⟨h0, h1⟩
  · rw [upd, if_neg q]; exact h j hj
def rA (f : Nat → Int32) (a r : Int32) : Int32 := (md_num f (rp a r + (1 : Int32)) 4).toInt32
def rC (f : Nat → Int32) (a r : Int32) : Int64 := md_num f (rp a r + (9 : Int32)) 8
theorem rpk_of {a r x : Int32} (k : Int32) (h0 : 0 ≤ a.toInt) (h1 : a.toInt ≤ 1) (h2 : -1 ≤ r.toInt) (h3 : r.toInt ≤ 300) (hk : 0 ≤ k.toInt) (hk2 : k.toInt ≤ 16) (hx : x.toInt = 32 + 4096 * a.toInt + 32 * r.toInt + k.toInt) : x = rp a r + k := by
  have e := rp_i h0 h1 h2 h3
  exact Int32.toInt_inj.mp (hx.trans (by rw [iv_add (by omega) (by omega)]; omega))
def okN (f : Nat → Int32) (a m r n : Int32) : Prop := 0 ≤ r.toInt ∧ 0 ≤ n.toInt ∧ n.toInt ≤ 16 ∧ r.toInt + n.toInt < m.toInt ∧ ∀ x : Int32, r.toInt < x.toInt → x.toInt ≤ r.toInt + n.toInt → (rK f a x).toInt = 3
def okB (f : Nat → Int32) (a m r : Int32) : Prop := okN f a m r (rB f a r)
theorem okN_B {f : Nat → Int32} {a m r n : Int32} (h : okN f a m r n) (e : n.toInt = (rB f a r).toInt) : okB f a m r := by
  have q := Int32.toInt_inj.mp e
  rw [q] at h
  exact h
def gOK (f : Nat → Int32) (a m : Int32) (h : Nat → Int32) : Prop := ∀ x : Int32, 0 ≤ x.toInt → x.toInt ≤ 127 → h x.toNatClampNeg ≠ 0 → okB f a m x
def cOK (f : Nat → Int32) (a m : Int32) (h : Nat → Int32) : Prop := ∀ x : Int32, 0 ≤ x.toInt → x.toInt ≤ 127 → h x.toNatClampNeg ≠ 0 → (rK f a x).toInt = 2 → okB f a m x
def vOK (f : Nat → Int32) (a m : Int32) (h : Nat → Int32) (n : Int) : Prop := ∀ x : Int32, 1 ≤ x.toInt → x.toInt ≤ n → okB f a m (h x.toNatClampNeg)
def bOK (f : Nat → Int32) (a m b : Int32) : Prop := b.toInt = 1 → okB f a m 0
theorem ne0_of {v : Int32} (h : v.toInt ≠ 0) : v ≠ 0 := fun e => h (by rw [e]; decide)
theorem gOK_use {f : Nat → Int32} {a m x v : Int32} {h : Nat → Int32} (H : gOK f a m h) (e : v = h x.toNatClampNeg) (h0 : 0 ≤ x.toInt) (h1 : x.toInt ≤ 127) (hv : v.toInt ≠ 0) : okB f a m x := H x h0 h1 (e ▸ ne0_of hv)
theorem cOK_use {f : Nat → Int32} {a m x v : Int32} {h : Nat → Int32} (H : cOK f a m h) (e : v = h x.toNatClampNeg) (h0 : 0 ≤ x.toInt) (h1 : x.toInt ≤ 127) (hv : v.toInt ≠ 0) (hk : (rK f a x).toInt = 2) : okB f a m x := H x h0 h1 (e ▸ ne0_of hv) hk
theorem vOK_use {f : Nat → Int32} {a m x v : Int32} {h : Nat → Int32} {n : Int} (H : vOK f a m h n) (e : v = h x.toNatClampNeg) (h0 : 1 ≤ x.toInt) (h1 : x.toInt ≤ n) : okB f a m v := e ▸ H x h0 h1
theorem gOK_upd {f : Nat → Int32} {a m i v : Int32} {h g : Nat → Int32} (H : gOK f a m h) (e : upd h i.toNatClampNeg v = g) (hk : okB f a m i) : gOK f a m g := fun x h0 h1 hx => by
  rw [← e] at hx
  by_cases q : x.toNatClampNeg = i.toNatClampNeg
  · rw [cl_inj h0 hk.1 q]; exact hk
  · rw [upd, if_neg q] at hx; exact H x h0 h1 hx
theorem cOK_upd {f : Nat → Int32} {a m i v : Int32} {h g : Nat → Int32} (H : cOK f a m h) (e : upd h i.toNatClampNeg v = g) (hi : 0 ≤ i.toInt) (hk : (rK f a i).toInt = 2 → okB f a m i) : cOK f a m g := fun x h0 h1 hx h2 => by
  rw [← e] at hx
  by_cases q : x.toNatClampNeg = i.toNatClampNeg
  · have w := cl_inj h0 hi q
    rw [w]; rw [w] at h2; exact hk h2
  · rw [upd, if_neg q] at hx; exact H x h0 h1 hx h2
theorem vOK_upd {f : Nat → Int32} {a m i v : Int32} {h g : Nat → Int32} {n n' : Int} (H : vOK f a m h n) (e : upd h i.toNatClampNeg v = g) (hi : i.toInt = n') (hn : n' ≤ n + 1) (h0 : 0 ≤ i.toInt) (hk : okB f a m v) : vOK f a m g n' := fun x h1 h2 => by
  rw [← e]
  by_cases q : x.toNatClampNeg = i.toNatClampNeg
  · rw [upd, if_pos q]; exact hk
  · rw [upd, if_neg q]
    refine H x h1 ?_
    have : x.toInt ≠ i.toInt := fun w => q (by rw [Int32.toInt_inj.mp w])
    omega
theorem vOK_0 {f : Nat → Int32} {a m : Int32} {h : Nat → Int32} {n : Int} (e : n ≤ 0) : vOK f a m h n := fun x h1 h2 => by omega
theorem bOK_of {f : Nat → Int32} {a m r b : Int32} (h : okB f a m r) (e : r.toInt = 0) : bOK f a m b := fun _ => by
  rw [show r = 0 from Int32.toInt_inj.mp (e.trans (by decide))] at h; exact h
theorem bOK_0 {f : Nat → Int32} {a m b : Int32} (e : b.toInt = 0) : bOK f a m b := fun h => by omega
def cbI (f : Nat → Int32) (a r is k : Int32) : Prop := is.toInt = 1 → ∀ x : Int32, r.toInt < x.toInt → x.toInt < r.toInt + k.toInt → (rK f a x).toInt = 3
theorem cbI_0 {f : Nat → Int32} {a r is k : Int32} (h : k.toInt ≤ 1) : cbI f a r is k := fun _ x h1 h2 => by omega
theorem cbI_f {f : Nat → Int32} {a r is k : Int32} (h : is.toInt ≠ 1) : cbI f a r is k := fun q => absurd q h
theorem cbI_s {f : Nat → Int32} {a r is is' k k' v : Int32} (h : cbI f a r is k) (hv : v.toInt = r.toInt + k.toInt) (hi : is.toInt = 1) (hk : (rK f a v).toInt = 3) (e : k'.toInt = k.toInt + 1) : cbI f a r is' k' := fun _ x h1 h2 => by
  rcases (show x.toInt < r.toInt + k.toInt ∨ x.toInt = v.toInt by omega) with q | q
  · exact h hi x h1 q
  · rw [Int32.toInt_inj.mp q]; exact hk
theorem okN_of {f : Nat → Int32} {a m r n is k : Int32} (h : cbI f a r is k) (hi : is.toInt = 1) (hk : n.toInt < k.toInt) (h0 : 0 ≤ r.toInt) (h1 : 0 ≤ n.toInt) (h2 : n.toInt ≤ 16) (h3 : r.toInt + n.toInt < m.toInt) : okN f a m r n := ⟨h0, h1, h2, h3, fun x q1 q2 => h hi x q1 (by omega)⟩
def zI (h : Nat → Int32) (k : Int32) : Prop := ∀ i : Nat, (i : Int) < k.toInt → h i = 0
theorem zI_0 {h : Nat → Int32} {k : Int32} (e : k.toInt ≤ 0) : zI h k := fun i q => by omega
theorem zI_s {h g : Nat → Int32} {k k' v : Int32} (H : zI h k) (e : upd h k.toNatClampNeg v = g) (hv : v = 0) (h0 : 0 ≤ k.toInt) (e' : k'.toInt = k.toInt + 1) : zI g k' := fun i q => by
  rw [← e]
  by_cases w : i = k.toNatClampNeg
  · rw [upd, if_pos w]; exact hv
  · rw [upd, if_neg w]
    refine H i ?_
    have : i ≠ k.toInt.toNat := w
    omega
theorem gOK_z {f : Nat → Int32} {a m k : Int32} {h : Nat → Int32} (H : zI h k) (e : 128 ≤ k.toInt) : gOK f a m h := fun x h0 h1 hx => absurd (H _ (by have : (x.toNatClampNeg : Int) = x.toInt := Int.toNat_of_nonneg h0
                                                                                                                                                      omega)) hx
theorem cOK_z {f : Nat → Int32} {a m k : Int32} {h : Nat → Int32} (H : zI h k) (e : 128 ≤ k.toInt) : cOK f a m h := fun x h0 h1 hx _ => gOK_z H e x h0 h1 hx
def zL (h : Nat → Int64) (k : Int32) : Prop := ∀ i : Nat, (i : Int) < k.toInt → h i = 0
theorem zL_0 {h : Nat → Int64} {k : Int32} (e : k.toInt ≤ 0) : zL h k := fun i q => by omega
theorem zL_s {h g : Nat → Int64} {k k' : Int32} {v : Int64} (H : zL h k) (e : vp_updL h k.toNatClampNeg v = g) (hv : v = 0) (h0 : 0 ≤ k.toInt) (e' : k'.toInt = k.toInt + 1) : zL g k' := fun i q => by
  rw [← e]
  by_cases w : i = k.toNatClampNeg
  · rw [vp_updL, if_pos w]; exact hv
  · rw [vp_updL, if_neg w]
    refine H i ?_
    have : i ≠ k.toInt.toNat := w
    omega
def inC (f : Nat → Int32) (a : Int32) (d : Int64) : Prop := d = 0 ∨ ∃ j : Nat, j < 128 ∧ d = rC f a (nI j)
theorem inC_of {f : Nat → Int32} {a v : Int32} {d : Int64} (e : d = rC f a v) (h0 : 0 ≤ v.toInt) (h1 : v.toInt ≤ 127) : inC f a d := by
  obtain ⟨j, hj, rfl⟩ := nI_of (x := v) (fun h => by have := iv_lt h; have z : (0 : Int32).toInt = 0 := by decide
                                                     omega)
  rw [nI_toInt hj] at h1
  exact Or.inr ⟨j, by omega, e⟩
def sOK (f : Nat → Int32) (a : Int32) (h : Nat → Int64) : Prop := ∀ i : Nat, i < 16 → inC f a (h i)
theorem sOK_z {f : Nat → Int32} {a k : Int32} {h : Nat → Int64} (H : zL h k) (e : 16 ≤ k.toInt) : sOK f a h := fun i hi => Or.inl (H i (by omega))
theorem sOK_upd {f : Nat → Int32} {a : Int32} {h g : Nat → Int64} {k : Nat} {v : Int64} (H : sOK f a h) (e : vp_updL h k v = g) (hv : inC f a v) : sOK f a g := fun i hi => by
  rw [← e]
  by_cases w : i = k
  · rw [vp_updL, if_pos w]; exact hv
  · rw [vp_updL, if_neg w]; exact H i hi
theorem sOK_get {f : Nat → Int32} {a i : Int32} {h : Nat → Int64} {d : Int64} (H : sOK f a h) (e : d = h i.toNatClampNeg) (h0 : 0 ≤ i.toInt) (h1 : i.toInt < 16) : inC f a d := e ▸ H _ (cl_lt h0 h1)
theorem pigeon : ∀ (m n : Nat) (c : Nat → Nat), (∀ i, i < n → c i < m) → (∀ i j, i < j → j < n → c i ≠ c j) → n ≤ m := by
  intro m
  induction m with
  | zero =>
    intro n c h _
    rcases Nat.eq_zero_or_pos n with q | q
    · omega
    · exact absurd (h 0 q) (Nat.not_lt_zero _)
  | succ m ih =>
    intro n c h hd
    rcases n with _ | k
    · omega
    · have hk : k ≤ m := by
        refine ih k (fun i => if c i = m then c k else c i) (fun i hi => ?_) (fun i j hij hj => ?_)
        · have h1 := h i (by omega)
          have h2 := h k (by omega)
          have h3 := hd i k hi (by omega)
          by_cases q : c i = m
          · simp only [q, if_true]; omega
          · simp only [q, if_false]; omega
        · have h3 := hd i k (by omega) (by omega)
          have h4 := hd j k hj (by omega)
          have h5 := hd i j hij (by omega)
          by_cases q : c i = m
          · by_cases w : c j = m
            · omega
            · simp only [q, w, if_true, if_false]; omega
          · by_cases w : c j = m
            · simp only [q, w, if_true, if_false]; omega
            · simp only [q, w, if_false]; omega
      omega
def nOK (f : Nat → Int32) (a : Int32) (h : Nat → Int64) (n : Int32) : Prop := 0 ≤ n.toInt ∧ (∀ i j : Nat, i < j → j < n.toInt.toNat → h i ≠ h j) ∧ ∀ i : Nat, i < n.toInt.toNat → ∃ j : Nat, j < 128 ∧ h i = rC f a (nI j)
theorem nOK_le {f : Nat → Int32} {a n : Int32} {h : Nat → Int64} (H : nOK f a h n) : n.toInt ≤ 128 := by
  obtain ⟨h0, h1, h2⟩ := H
  have q : n.toInt.toNat ≤ 128 := by
    refine pigeon 128 n.toInt.toNat (fun i => if w : ∃ j : Nat, j < 128 ∧ h i = rC f a (nI j) then Classical.choose w else 0) (fun i hi => ?_) (fun i j hij hj => ?_)
    · have w := h2 i hi
      simp only [w, dif_pos]
      exact (Classical.choose_spec w).1
    · have w := h2 i (by omega)
      have v := h2 j hj
      simp only [w, v, dif_pos]
      intro e
      exact h1 i j hij hj ((Classical.choose_spec w).2.trans ((congrArg (fun x => rC f a (nI x)) e).trans (Classical.choose_spec v).2.symm))
  omega
theorem nOK_0 {f : Nat → Int32} {a n : Int32} {h : Nat → Int64} (e : n.toInt = 0) : nOK f a h n := ⟨by omega, fun i j _ hj => by omega, fun i hi => by omega⟩
def tI (h : Nat → Int64) (d : Int64) (t k : Int32) : Prop := t.toInt = 0 → d ≠ 0 ∧ ∀ i : Nat, (i : Int) < k.toInt → h i ≠ d
theorem tI_f {h : Nat → Int64} {d : Int64} {t k : Int32} (e : t.toInt ≠ 0) : tI h d t k := fun q => absurd q e
theorem tI_0 {h : Nat → Int64} {d : Int64} {t k v : Int32} (e : v = lg_cmp d 0) (c : ¬ v = 0) (hk : k.toInt ≤ 0) : tI h d t k := fun _ => ⟨fun q => c (e.trans ((lg_cmp_eq d 0).mpr q)), fun i hi => by omega⟩
theorem tI_s {h : Nat → Int64} {d w : Int64} {t t' k k' v : Int32} (H : tI h d t k) (ew : w = h k.toNatClampNeg) (e : v = lg_cmp w d) (c : ¬ v = 0) (ht : t'.toInt = t.toInt) (h0 : 0 ≤ k.toInt) (hk : k'.toInt = k.toInt + 1) : tI h d t' k' := fun q => by
  obtain ⟨g1, g2⟩ := H (by omega)
  refine ⟨g1, fun i hi => ?_⟩
  by_cases z : i = k.toNatClampNeg
  · rw [z, ← ew]; exact fun q => c (e.trans ((lg_cmp_eq w d).mpr q))
  · refine g2 i ?_
    have : i ≠ k.toInt.toNat := z
    omega
theorem nOK_add {f : Nat → Int32} {a n n' t k : Int32} {h g : Nat → Int64} {d : Int64} (H : nOK f a h n) (hd : inC f a d) (T : tI h d t k) (e : vp_updL h n.toNatClampNeg d = g) (ht : t.toInt = 0) (hk : n.toInt ≤ k.toInt) (hn : n'.toInt = n.toInt + 1) : nOK f a g n' := by
  obtain ⟨h0, h1, h2⟩ := H
  obtain ⟨t1, t2⟩ := T ht
  have hz : ∀ j : Nat, vp_updL h n.toNatClampNeg d j = if j = n.toInt.toNat then d else h j := fun j => rfl
  refine ⟨by omega, fun i j hij hj => ?_, fun i hi => ?_⟩
  · rw [← e, hz, hz, if_neg (by omega)]
    by_cases q : j = n.toInt.toNat
    · rw [if_pos q]; exact t2 i (by omega)
    · rw [if_neg q]; exact h1 i j hij (by omega)
  · rw [← e, hz]
    by_cases q : i = n.toInt.toNat
    · rw [if_pos q]
      rcases hd with w | w
      · exact absurd w t1
      · exact w
    · rw [if_neg q]; exact h2 i (by omega)
def kI (f : Nat → Int32) (a m kept r : Int32) : Prop := ∃ e : Int, r.toInt ≤ e ∧ kept.toInt ≤ e ∧ e ≤ m.toInt ∧ ∀ x : Int32, r.toInt ≤ x.toInt → x.toInt < e → (rK f a x).toInt = 3
theorem kI_0 {f : Nat → Int32} {a m kept r : Int32} (h0 : kept.toInt ≤ 0) (h1 : r.toInt = 0) (h2 : 0 ≤ m.toInt) : kI f a m kept r := ⟨0, by omega, by omega, by omega, fun x h1 h2 => by omega⟩
theorem kI_at {f : Nat → Int32} {a m kept r : Int32} (H : kI f a m kept r) (hk : (rK f a r).toInt ≠ 3) : kept.toInt ≤ r.toInt := by
  obtain ⟨e, h1, h2, h3, h4⟩ := H
  rcases (show e = r.toInt ∨ r.toInt < e by omega) with q | q
  · omega
  · exact absurd (h4 r (by omega) q) hk
theorem kI_skip {f : Nat → Int32} {a m kept r r' : Int32} (H : kI f a m kept r) (hr : r.toInt < m.toInt) (hn : r'.toInt = r.toInt + 1) : kI f a m kept r' := by
  obtain ⟨e, h1, h2, h3, h4⟩ := H
  rcases (show e = r.toInt ∨ r'.toInt ≤ e by omega) with q | q
  · exact ⟨r'.toInt, by omega, by omega, by omega, fun x q1 q2 => by omega⟩
  · exact ⟨e, q, h2, h3, fun x q1 q2 => h4 x (by omega) q2⟩
theorem kI_one {f : Nat → Int32} {a m kept' r r' : Int32} (hk : kept'.toInt ≤ r.toInt + 1) (hr : r.toInt < m.toInt) (hn : r'.toInt = r.toInt + 1) : kI f a m kept' r' := ⟨r'.toInt, by omega, by omega, by omega, fun x q1 q2 => by omega⟩
theorem kI_grp {f : Nat → Int32} {a m kept' r r' : Int32} (H : okB f a m r) (hk : kept'.toInt ≤ r.toInt + (rB f a r).toInt + 1) (hn : r'.toInt = r.toInt + 1) : kI f a m kept' r' := by
  obtain ⟨h0, h1, h2, h3, h4⟩ := H
  exact ⟨r.toInt + (rB f a r).toInt + 1, by omega, by omega, by omega, fun x q1 q2 => h4 x (by omega) (by omega)⟩
theorem mt_ix {d : Int64} {x y v : Int32} (ex : x = lg_cmp d (-128)) (ey : y = lg_cmp d (-1)) (hx : ¬ x < 0) (hy : ¬ 0 < y) (ev : v = (-1 - d).toInt32) : 0 ≤ v.toInt ∧ v.toInt ≤ 127 := by
  have h1 : (-128 : Int64) ≤ d := by
    rw [ex] at hx
    exact Int64.not_lt.mp (fun q => hx ((lg_cmp_lt _ _).mpr q))
  have h2 : d ≤ (-1 : Int64) := by
    rw [ey] at hy
    exact Int64.not_lt.mp (fun q => hy ((lg_cmp_gt _ _).mpr q))
  have g1 : -128 ≤ d.toInt := Int64.le_iff_toInt_le.mp h1
  have g2 : d.toInt ≤ -1 := Int64.le_iff_toInt_le.mp h2
  have e1 : ((-1 : Int64) - d).toInt = -1 - d.toInt := by
    rw [Int64.toInt_sub]
    have : (-1 : Int64).toInt = -1 := by decide
    rw [this]
    exact Int.bmod_eq_of_le (by omega) (by omega)
  have e2 : ((-1 : Int64) - d).toInt32.toInt = -1 - d.toInt := by
    rw [Int64.toInt_toInt32, e1]
    exact Int.bmod_eq_of_le (by omega) (by omega)
  rw [ev]
  omega
theorem l255 (x : Int64) : 0 ≤ (x &&& (255 : Int64)).toInt32.toInt ∧ (x &&& (255 : Int64)).toInt32.toInt ≤ 255 := by
  have hn : (x.toBitVec &&& (255 : Int64).toBitVec).toNat ≤ 255 := by
    rw [BitVec.toNat_and]
    exact Nat.le_trans Nat.and_le_right (by decide)
  have e : (x &&& (255 : Int64)).toInt = ((x.toBitVec &&& (255 : Int64).toBitVec).toNat : Int) := BitVec.toInt_eq_toNat_of_lt (show 2 * (x.toBitVec &&& (255 : Int64).toBitVec).toNat < 2 ^ 64 by omega)
  have e2 : (x &&& (255 : Int64)).toInt32.toInt = ((x.toBitVec &&& (255 : Int64).toBitVec).toNat : Int) := by
    rw [Int64.toInt_toInt32, e]
    exact Int.bmod_eq_of_le (by omega) (by omega)
  omega
def pm (s : Int64) (b : Int32) : Int64 := ((s ^^^ b.toInt64) <<< ((21 : Int32).toInt64 &&& 63) ||| ((s ^^^ b.toInt64).toUInt64 >>> ((43 : Int32).toInt64.toUInt64 &&& Int64.toUInt64 63)).toInt64) * (-4417276706812531889 : Int64)
def sF (f : Nat → Int32) (b a0 : Int32) (k : Nat) : Int64 := Nat.rec ((1000003 : Int64) * b.toInt64) (fun k r => pm r (md_get f (a0 + nI k))) k
theorem sF_0 {f : Nat → Int32} {b a0 k : Int32} (h : k.toInt = 0) : sF f b a0 k.toInt.toNat = (1000003 : Int64) * b.toInt64 := by
  rw [h]; rfl
theorem sF_s {f : Nat → Int32} {b a0 k k' c v : Int32} {acc acc' : Int64} (hs : acc = sF f b a0 k.toInt.toNat) (hm : acc' = pm acc c) (hv : v.toInt = a0.toInt + k.toInt) (hb : c.toInt = (md_get f v).toInt) (h0 : 0 ≤ k.toInt) (e : k'.toInt = k.toInt + 1) : acc' = sF f b a0 k'.toInt.toNat := by
  have e1 : k'.toInt.toNat = k.toInt.toNat + 1 := by omega
  have r1 := iv_rng v
  have r2 := iv_rng k
  have e3 : (nI k.toInt.toNat).toInt = k.toInt := by rw [nI_toInt (by omega)]; omega
  have e2 : a0 + nI k.toInt.toNat = v := Int32.toInt_inj.mp (by rw [iv_add (by omega) (by omega)]; omega)
  rw [e1, hm, hs, Int32.toInt_inj.mp hb, ← e2]
  rfl
def zB (f : Nat → Int32) (lo hi : Int) : Prop := ∀ x : Int32, lo ≤ x.toInt → x.toInt < hi → (md_get f x).toInt = 0
theorem zB_0 {f : Nat → Int32} {lo hi : Int} (e : hi ≤ lo) : zB f lo hi := fun x h1 h2 => by omega
theorem zB_e {f : Nat → Int32} {lo hi hi' : Int} (h : zB f lo hi) (e : hi' ≤ hi) : zB f lo hi' := fun x h1 h2 => h x h1 (by omega)
theorem zB_s {f : Nat → Int32} {a0 k k' v : Int32} (h : zB f a0.toInt (a0.toInt + k.toInt)) (hv : v.toInt = a0.toInt + k.toInt) (hb : (md_get f v).toInt = 0) (e : k'.toInt = k.toInt + 1) : zB f a0.toInt (a0.toInt + k'.toInt) := fun x h1 h2 => by
  rcases (show x.toInt < a0.toInt + k.toInt ∨ x.toInt = v.toInt by omega) with q | q
  · exact h x h1 q
  · rw [Int32.toInt_inj.mp q]; exact hb
theorem zB_n {f : Nat → Int32} {a0 k n v : Int32} (hv : v.toInt = a0.toInt + k.toInt) (hb : (md_get f v).toInt ≠ 0) (h0 : 0 ≤ k.toInt) (h1 : k.toInt < n.toInt) : ¬ zB f a0.toInt (a0.toInt + n.toInt) := fun h => hb (h v (by omega) (by omega))
def alI (f : Nat → Int32) (a0 n t k : Int32) : Prop := (t.toInt = 1 → zB f a0.toInt (a0.toInt + k.toInt)) ∧ (t.toInt ≠ 1 → ¬ zB f a0.toInt (a0.toInt + n.toInt))
theorem alI_1 {f : Nat → Int32} {a0 n t t' k k' v : Int32} (H : alI f a0 n t k) (hv : v.toInt = a0.toInt + k.toInt) (hb : (md_get f v).toInt = 0) (et : t'.toInt = t.toInt) (ek : k'.toInt = k.toInt + 1) : alI f a0 n t' k' := ⟨fun h => zB_s (H.1 (by omega)) hv hb ek, fun h => H.2 (by omega)⟩
theorem alI_0 {f : Nat → Int32} {a0 n t' k k' v : Int32} (hv : v.toInt = a0.toInt + k.toInt) (hb : (md_get f v).toInt ≠ 0) (h0 : 0 ≤ k.toInt) (h1 : k.toInt < n.toInt) (et : t'.toInt ≠ 1) : alI f a0 n t' k' := ⟨fun h => absurd h et, fun _ => zB_n hv hb h0 h1⟩
def lfP (f : Nat → Int32) (a0 : Int32) : Prop := 1 ≤ (md_get f a0).toInt ∧ (md_get f a0).toInt ≤ 16 ∧ zB f (a0.toInt + 1 + (md_get f a0).toInt) (a0.toInt + 17)
theorem lf_y {f : Nat → Int32} {a0 : Int32} {lo hi : Int} (h1 : 1 ≤ (md_get f a0).toInt) (h2 : (md_get f a0).toInt ≤ 16) (hz : zB f lo hi) (e1 : lo = a0.toInt + 1 + (md_get f a0).toInt) (e2 : hi = a0.toInt + 17) : lfP f a0 := ⟨h1, h2, by rw [← e1, ← e2]; exact hz⟩
theorem lf_n1 {f : Nat → Int32} {a0 : Int32} (h : ¬ (1 ≤ (md_get f a0).toInt ∧ (md_get f a0).toInt ≤ 16)) : ¬ lfP f a0 := fun q => h ⟨q.1, q.2.1⟩
theorem lf_n2 {f : Nat → Int32} {a0 : Int32} {lo hi : Int} (hz : ¬ zB f lo hi) (e1 : lo = a0.toInt + 1 + (md_get f a0).toInt) (e2 : hi = a0.toInt + 17) : ¬ lfP f a0 := fun q => hz (by rw [e1, e2]; exact q.2.2)
def nmZ (f : Nat → Int32) (z : Int) : Int64 := md_num f (Int32.ofInt z) 8
def gtZ (f : Nat → Int32) (z : Int) : Int := (md_get f (Int32.ofInt z)).toInt
theorem of_z {x : Int32} {z : Int} (h : x.toInt = z) : x = Int32.ofInt z := by rw [← h, Int32.ofInt_toInt]
theorem nm_of {f : Nat → Int32} {v : Int32} {z : Int} {r : Int64} (h : r = md_num f v (8 : Int32).toNatClampNeg) (hv : v.toInt = z) : r = nmZ f z := by
  rw [h, of_z hv, show (8 : Int32).toNatClampNeg = 8 by decide]; rfl
theorem sm_of {f : Nat → Int32} {b a0 v : Int32} {z : Int} {r : Int64} (h : r = sF f b a0 v.toInt.toNat) (hv : v.toInt = z) : r = sF f b a0 z.toNat := by rw [h, hv]
theorem se_y {s r : Int64} {v : Int32} (e : v = lg_cmp s r) (c : v = 0) : s = r := (lg_cmp_eq s r).mp (e.symm.trans c)
theorem nz_y {f : Nat → Int32} {z : Int} {s : Int64} {v : Int32} (h : s = nmZ f z) (e : v = lg_cmp s 0) (c : ¬ v = 0) : nmZ f z ≠ 0 := fun q => c (e.trans ((lg_cmp_eq s 0).mpr (h.trans q)))
theorem gt_of {f : Nat → Int32} {v : Int32} {z : Int} (hv : v.toInt = z) (h : (md_get f v).toInt = 165) : gtZ f z = 165 := by
  rw [of_z hv] at h; exact h
def rtP (f : Nat → Int32) (a0 n b : Int32) : Prop := ¬ zB f a0.toInt (a0.toInt + n.toInt) ∧ (b.toInt = 2 ∨ lfP f a0) ∧ nmZ f (a0.toInt + n.toInt - 9) = sF f b a0 (n.toInt - 9).toNat ∧ (nmZ f (a0.toInt + n.toInt - 9) ≠ 0 ∨ gtZ f (a0.toInt + n.toInt - 1) = 165)
theorem rt_no0 {f : Nat → Int32} {a0 n b : Int32} (h : zB f a0.toInt (a0.toInt + n.toInt)) : ¬ rtP f a0 n b := fun q => q.1 h
theorem rt_no1 {f : Nat → Int32} {a0 n b : Int32} (h1 : b.toInt ≠ 2) (h2 : ¬ lfP f a0) : ¬ rtP f a0 n b := fun q => q.2.1.elim h1 h2
theorem rt_no2 {f : Nat → Int32} {a0 n b v : Int32} {s r : Int64} (hn : s = nmZ f (a0.toInt + n.toInt - 9)) (hs : r = sF f b a0 (n.toInt - 9).toNat) (e : v = lg_cmp s r) (c : ¬ v = 0) : ¬ rtP f a0 n b := fun q => c (e.trans ((lg_cmp_eq s r).mpr (hn.trans (q.2.2.1.trans hs.symm))))
theorem rt_no3 {f : Nat → Int32} {a0 n b v w : Int32} {s : Int64} (hn : s = nmZ f (a0.toInt + n.toInt - 9)) (hv : w.toInt = a0.toInt + n.toInt - 1) (hb : (md_get f w).toInt ≠ 165) (e : v = lg_cmp s 0) (c : v = 0) : ¬ rtP f a0 n b := fun q => q.2.2.2.elim (fun h => h (hn.symm.trans (se_y e c))) (fun h => hb (by rw [of_z hv]; exact h))
def rtQ (f : Nat → Int32) (p : Int32) : Prop := rtP f (Int32.ofInt (8224 + 26 * p.toInt)) (26 : Int32) (3 : Int32)
theorem rtQ_S {f : Nat → Int32} {p : Int32} (h : rtQ f p) (h0 : 0 ≤ p.toInt) (h1 : p.toInt < 65536) : 1 ≤ (rS f p).toInt ∧ (rS f p).toInt ≤ 16 := by
  have e1 : ((26 : Int32) * p).toInt = 26 * p.toInt := iv_mulc (by decide) (by omega) (by omega)
  have z : (8224 : Int32).toInt = 8224 := by decide
  have e2 : ((8224 : Int32) + (26 : Int32) * p).toInt = 8224 + 26 * p.toInt := by rw [iv_add (by omega) (by omega)]; omega
  have q := h.2.1
  rw [← of_z e2] at q
  rcases q with q | q
  · exact absurd q (by decide)
  · exact ⟨q.1, q.2.1⟩
def lgQ (f : Nat → Int32) (q : Int32) : Int64 := nmZ f (8224 + 26 * q.toInt + 17)
def noP (f : Nat → Int32) (m : Int32) (d : Int64) : Prop := ∀ q : Int32, 0 ≤ q.toInt → q.toInt < m.toInt → ¬ (lgQ f q = d ∧ rtQ f q)
theorem no_0 {f : Nat → Int32} {m : Int32} {d : Int64} (e : m.toInt ≤ 0) : noP f m d := fun q h1 h2 => by omega
theorem no_s {f : Nat → Int32} {k k' : Int32} {d : Int64} (H : noP f k d) (hq : ¬ (lgQ f k = d ∧ rtQ f k)) (e : k'.toInt = k.toInt + 1) : noP f k' d := fun q h1 h2 => by
  rcases (show q.toInt < k.toInt ∨ q.toInt = k.toInt by omega) with w | w
  · exact H q h1 w
  · rw [Int32.toInt_inj.mp w]; exact hq
theorem no_e {f : Nat → Int32} {k m : Int32} {d : Int64} (H : noP f k d) (e : m.toInt ≤ k.toInt) : noP f m d := fun q h1 h2 => H q h1 (by omega)
theorem nq_1 {f : Nat → Int32} {k v : Int32} {s d : Int64} (hn : s = lgQ f k) (e : v = lg_cmp s d) (c : ¬ v = 0) : ¬ (lgQ f k = d ∧ rtQ f k) := fun q => c (e.trans ((lg_cmp_eq s d).mpr (hn.trans q.1)))
def cntL (h : Nat → Int64) (n : Nat) : Nat := Nat.rec 0 (fun k r => r + if h k = 0 then 0 else 1) n
theorem cntL_s (h : Nat → Int64) (n : Nat) : cntL h (n + 1) = cntL h n + if h n = 0 then 0 else 1 := rfl
theorem cn_0 {h : Nat → Int64} {x k : Int32} {d : Int} (e : x.toInt = d) (hk : k.toInt = 0) : x.toInt - d = (cntL h k.toInt.toNat : Int) := by
  rw [hk, e]; show d - d = 0; omega
theorem cn_1 {h : Nat → Int64} {x x' k k' v : Int32} {w : Int64} {d : Int} (H : x.toInt - d = (cntL h k.toInt.toNat : Int)) (hX : w = h k.toNatClampNeg) (e : v = lg_cmp w 0) (c : ¬ v = 0) (h0 : 0 ≤ k.toInt) (ex : x'.toInt = x.toInt + 1) (ek : k'.toInt = k.toInt + 1) : x'.toInt - d = (cntL h k'.toInt.toNat : Int) := by
  have e1 : k'.toInt.toNat = k.toInt.toNat + 1 := by omega
  have e2 : ¬ h k.toInt.toNat = 0 := fun q => c (e.trans ((lg_cmp_eq w 0).mpr (hX.trans q)))
  rw [e1, cntL_s, if_neg e2]
  omega
theorem cn_z {h : Nat → Int64} {x x' k k' v : Int32} {w : Int64} {d : Int} (H : x.toInt - d = (cntL h k.toInt.toNat : Int)) (hX : w = h k.toNatClampNeg) (e : v = lg_cmp w 0) (c : v = 0) (h0 : 0 ≤ k.toInt) (ex : x'.toInt = x.toInt) (ek : k'.toInt = k.toInt + 1) : x'.toInt - d = (cntL h k'.toInt.toNat : Int) := by
  have e1 : k'.toInt.toNat = k.toInt.toNat + 1 := by omega
  have e2 : h k.toInt.toNat = 0 := hX.symm.trans (se_y e c)
  rw [e1, cntL_s, if_pos e2]
  omega
theorem cn_e {h : Nat → Int64} {x k : Int32} (H : x.toInt - 0 = (cntL h k.toInt.toNat : Int)) (hk : k.toInt = 16) : x.toInt = (cntL h 16 : Int) := by
  rw [hk] at H
  have H : x.toInt - 0 = (cntL h 16 : Int) := H
  omega
theorem cn_eq {h : Nat → Int64} {x n k : Int32} (H : x.toInt - 1 = (cntL h k.toInt.toNat : Int)) (H2 : n.toInt = (cntL h 16 : Int)) (hk : k.toInt = 16) : x.toInt = 1 + n.toInt := by
  rw [hk] at H
  have H : x.toInt - 1 = (cntL h 16 : Int) := H
  omega
def ppI (f : Nat → Int32) (m : Int32) (h : Nat → Int64) (k : Int32) : Prop := ∀ i : Nat, (i : Int) < k.toInt → h i ≠ 0 → ¬ noP f m (h i)
theorem pp_0 {f : Nat → Int32} {m k : Int32} {h : Nat → Int64} (e : k.toInt ≤ 0) : ppI f m h k := fun i q => by omega
theorem pp_s {f : Nat → Int32} {m k k' : Int32} {h : Nat → Int64} (H : ppI f m h k) (hq : h k.toNatClampNeg ≠ 0 → ¬ noP f m (h k.toNatClampNeg)) (h0 : 0 ≤ k.toInt) (e : k'.toInt = k.toInt + 1) : ppI f m h k' := fun i hi => by
  by_cases w : i = k.toNatClampNeg
  · rw [w]; exact hq
  · refine H i ?_
    have : i ≠ k.toInt.toNat := w
    omega
theorem pz_w {w x : Int64} {v : Int32} (hX : w = x) (e : v = lg_cmp w 0) (c : v = 0) : x = 0 := hX.symm.trans (se_y e c)
theorem pnz_w {w x : Int64} {v : Int32} (hX : w = x) (e : v = lg_cmp w 0) (c : ¬ v = 0) : x ≠ 0 := fun q => c (e.trans ((lg_cmp_eq w 0).mpr (hX.trans q)))
theorem pn_w {f : Nat → Int32} {m : Int32} {w x : Int64} (hX : w = x) (h : ¬ noP f m w) : ¬ noP f m x := hX ▸ h
theorem pp_u {f : Nat → Int32} {m k i : Int32} {h : Nat → Int64} {w : Int64} (H : ppI f m h k) (hk : 16 ≤ k.toInt) (h0 : 0 ≤ i.toInt) (h1 : i.toInt < 16) (hnz : h i.toNatClampNeg ≠ 0) (hX : w = h i.toNatClampNeg) (hn : noP f m w) : False := by
  have q : (i.toNatClampNeg : Int) = i.toInt := Int.toNat_of_nonneg h0
  exact H i.toNatClampNeg (by omega) hnz (hX ▸ hn)
theorem sD {f : Nat → Int32} {q x : Int32} (h : 1 ≤ (rS f q).toInt ∧ (rS f q).toInt ≤ 16) (h2 : -1 ≤ q.toInt) (h3 : q.toInt ≤ 65536) (hx : x.toInt = 8224 + 26 * q.toInt) : 1 ≤ (md_get f x).toInt ∧ (md_get f x).toInt ≤ 16 := by
  rw [rS_of h2 h3 hx]; exact h
def inI (a z : Nat → Int32) (k : Int32) : Prop := ∀ i : Nat, (i : Int) < k.toInt → 0 ≤ (a i).toInt ∧ 1 ≤ (z i).toInt ∧ (z i).toInt ≤ 16 ∧ (a i).toInt + (z i).toInt ≤ 392
theorem inI_u {a z : Nat → Int32} {k i : Int32} (H : inI a z k) (h0 : 0 ≤ i.toInt) (h1 : i.toInt < k.toInt) : 0 ≤ (a i.toNatClampNeg).toInt ∧ 1 ≤ (z i.toNatClampNeg).toInt ∧ (z i.toNatClampNeg).toInt ≤ 16 ∧ (a i.toNatClampNeg).toInt + (z i.toNatClampNeg).toInt ≤ 392 := by
  have q : (i.toNatClampNeg : Int) = i.toInt := Int.toNat_of_nonneg h0
  exact H _ (by omega)
theorem inI_0 {a z : Nat → Int32} {k : Int32} (e : k.toInt ≤ 0) : inI a z k := fun i q => by omega
theorem inI_e {a z : Nat → Int32} {k m : Int32} (H : inI a z k) (e : m.toInt ≤ k.toInt) : inI a z m := fun i q => H i (by omega)
theorem inI_s {a z a' z' : Nat → Int32} {k k' v w x y : Int32} (H : inI a z k) (hz : upd z k.toNatClampNeg v = z') (ha : upd a k.toNatClampNeg w = a') (hx : x = z' k.toNatClampNeg) (hy : y = z' k.toNatClampNeg) (h0 : 0 ≤ k.toInt) (w0 : 0 ≤ w.toInt) (y1 : 1 ≤ y.toInt) (y2 : y.toInt ≤ 16) (c : w.toInt + x.toInt ≤ 392) (e : k'.toInt = k.toInt + 1) : inI a' z' k' := fun i hi => by
  by_cases q : i = k.toNatClampNeg
  · have e1 : a' i = w := by rw [← ha, upd, if_pos q]
    rw [q] at e1
    rw [q, e1, ← hy]
    refine ⟨w0, y1, y2, ?_⟩
    rw [hx, ← hy] at c
    exact c
  · have e1 : a' i = a i := by rw [← ha, upd, if_neg q]
    have e2 : z' i = z i := by rw [← hz, upd, if_neg q]
    rw [e1, e2]
    refine H i ?_
    have : i ≠ k.toInt.toNat := q
    omega
