/-- the rest R of the class's world: the row of the list's pages (at e), pages and their bytes -/
abbrev pgO (x : Nat) (n : Int32) (b : Nat) (k : Int32) : Nat × va_E := (x, .inr (4, [.int n, .ref b, .int k]))
abbrev pgB (kB : ClassId) (b : Nat) (f : Nat → Int32) : Nat × va_E := (b, .inl (kB, 26, .inl f))
abbrev pgR (kE : ClassId) (e cap : Nat) (a : Nat → Option Nat) : Nat × va_E := (e, .inl (kE, cap, .inr (.inr (.inr (.inr a)))))
def nd (R : va_W) : Prop := ∀ (i j : Nat) (p q : Nat × va_E), R[i]? = some p → R[j]? = some q → p.1 = q.1 → i = j
def pgc (kB : ClassId) (R : va_W) (x : Nat) (n : Int32) (b : Nat) (k : Int32) (f : Nat → Int32) : Prop := (∃ j : Nat, R[j]? = some (pgO x n b k)) ∧ ∃ j : Nat, R[j]? = some (pgB kB b f)
def pgM (kB : ClassId) (R : va_W) (x : Nat) (m : Int32) : Prop := ∃ b k f, pgc kB R x m b k f
def pgRt (kB : ClassId) (R : va_W) (x : Nat) : Prop := ∃ m b k f, pgc kB R x m b k f ∧ 1 ≤ (f 0).toInt ∧ (f 0).toInt ≤ 16
def pgK (kB : ClassId) (ex : Option Nat) (R : va_W) : Prop := ∀ (x b : Nat) (m k : Int32) (f : Nat → Int32), pgc kB R x m b k f → ex ≠ some x → k.toInt = 2 → 1 ≤ (f 0).toInt ∧ (f 0).toInt ≤ 16
def pgi (R : va_W) : Prop := (∀ (x y b : Nat) (n n' k k' : Int32), (∃ j : Nat, R[j]? = some (pgO x n b k)) → (∃ j : Nat, R[j]? = some (pgO y n' b k')) → x = y) ∧ ∀ (x b : Nat) (n k : Int32), (∃ j : Nat, R[j]? = some (pgO x n b k)) → ∃ (kb : ClassId) (f : Nat → Int32) (j : Nat), R[j]? = some (pgB kb b f)
/-- what stands of n pages: their numbers num rise; the row e has room for cap, each of its first n is the page of its number; a page that is marked as right has its size in range, but for the page ex, which may be half written -/
def PI (kE kB : ClassId) (e : Nat) (n : Int32) (cap : Nat) (num : Nat → Int32) (ex : Option Nat) (R : va_W) : Prop := nd R ∧ pgi R ∧ 0 ≤ n.toInt ∧ n.toInt ≤ (cap : Int) ∧ (∀ i j : Nat, i < j → (j : Int) < n.toInt → (num i).toInt < (num j).toInt) ∧ pgK kB ex R ∧ (0 < n.toInt → ∃ a : Nat → Option Nat, (∃ j : Nat, R[j]? = some (pgR kE e cap a)) ∧ ∀ i : Nat, (i : Int) < n.toInt → ∃ x, a i = some x ∧ pgM kB R x (num i)) ∧ ∀ i : Nat, (i : Int) < n.toInt → 0 ≤ (num i).toInt ∧ (num i).toInt < 65536
theorem set_ne {R : va_W} {j i a : Nat} {e e' : va_E} {q : Nat × va_E} (h : R[j]? = some (a, e)) (hi : R[i]? = some q) (hn : q.1 ≠ a) : (R.set j (a, e'))[i]? = some q := by
  have : j ≠ i := fun w => hn (by rw [w] at h; rw [h] at hi; rw [← Option.some.inj hi])
  rw [List.getElem?_set_ne this]; exact hi
theorem set_eq {R : va_W} {j a : Nat} {e e' : va_E} (h : R[j]? = some (a, e)) : (R.set j (a, e'))[j]? = some (a, e') := List.getElem?_set_self (List.getElem?_eq_some_iff.mp h).1
theorem set_of {R : va_W} {j i a : Nat} {e e' : va_E} {q : Nat × va_E} (h : R[j]? = some (a, e)) (hi : (R.set j (a, e'))[i]? = some q) : (i = j ∧ q = (a, e')) ∨ (i ≠ j ∧ R[i]? = some q) := by
  by_cases w : i = j
  · subst w
    rw [set_eq h] at hi
    exact Or.inl ⟨rfl, (Option.some.inj hi).symm⟩
  · rw [List.getElem?_set_ne (Ne.symm w)] at hi
    exact Or.inr ⟨w, hi⟩
theorem nd_set {R : va_W} {j a : Nat} {e e' : va_E} (h : R[j]? = some (a, e)) (H : nd R) : nd (R.set j (a, e')) := fun i i' p q hp hq hpq => by
  rcases set_of h hp with ⟨w1, w2⟩ | ⟨w1, w2⟩ <;> rcases set_of h hq with ⟨v1, v2⟩ | ⟨v1, v2⟩
  · rw [w1, v1]
  · subst w2
    exact w1.trans (H j i' _ _ h v2 hpq)
  · subst v2
    exact (H i j _ _ w2 h hpq).trans v1.symm
  · exact H i i' _ _ w2 v2 hpq
/-- a page's bytes change -/
theorem PI_b {kE kB : ClassId} {e x b j cap : Nat} {n n0 k : Int32} {num : Nat → Int32} {ex : Option Nat} {f f' : Nat → Int32} {R : va_W} (H : PI kE kB e n cap num ex R) (hx : ∃ j : Nat, R[j]? = some (pgO x n0 b k)) (hb : R[j]? = some (pgB kB b f)) (he : ex = none ∨ ex = some x) : PI kE kB e n cap num (some x) (R.set j (pgB kB b f')) ∧ (f' 0 = f 0 → ex = none → PI kE kB e n cap num none (R.set j (pgB kB b f'))) ∧ ∀ y m, pgM kB R y m → pgM kB (R.set j (pgB kB b f')) y m := by
  obtain ⟨h1, h2, h3, h4, h6, h7, h5, h8⟩ := H
  have hO : ∀ (y : Nat) (n' k' : Int32) (b' i : Nat), R[i]? = some (pgO y n' b' k') → (R.set j (pgB kB b f'))[i]? = some (pgO y n' b' k') := fun y n' k' b' i hi => by
    have w : i ≠ j := fun w => by rw [w, hb] at hi; cases hi
    rw [List.getElem?_set_ne (Ne.symm w)]; exact hi
  have gO : ∀ (y : Nat) (n' k' : Int32) (b' i : Nat), (R.set j (pgB kB b f'))[i]? = some (pgO y n' b' k') → R[i]? = some (pgO y n' b' k') := fun y n' k' b' i hi => by
    rcases set_of hb hi with ⟨_, w⟩ | ⟨_, w⟩
    · cases w
    · exact w
  have hm : ∀ y m, pgM kB R y m → pgM kB (R.set j (pgB kB b f')) y m := fun y m hy => by
    obtain ⟨b', l, g, ⟨i1, q1⟩, i2, q2⟩ := hy
    by_cases w : b' = b
    · subst w
      exact ⟨b', l, f', ⟨i1, hO _ _ _ _ _ q1⟩, j, set_eq hb⟩
    · exact ⟨b', l, g, ⟨i1, hO _ _ _ _ _ q1⟩, i2, set_ne hb q2 w⟩
  have hI : pgi (R.set j (pgB kB b f')) := ⟨fun y z b' m m' l l' ⟨i, hi⟩ ⟨i', hi'⟩ => h2.1 y z b' m m' l l' ⟨i, gO _ _ _ _ _ hi⟩ ⟨i', gO _ _ _ _ _ hi'⟩, fun y b' m l ⟨i, hi⟩ => by
    obtain ⟨kb, g, i2, q2⟩ := h2.2 y b' m l ⟨i, gO _ _ _ _ _ hi⟩
    by_cases w : b' = b
    · subst w
      exact ⟨kB, f', j, set_eq hb⟩
    · exact ⟨kb, g, i2, set_ne hb q2 w⟩⟩
  have hA : ∀ ex' : Option Nat, (ex' = some x ∨ (f' 0 = f 0 ∧ ex = none ∧ ex' = none)) → PI kE kB e n cap num ex' (R.set j (pgB kB b f')) := fun ex' hex => by
    refine ⟨nd_set hb h1, hI, h3, h4, h6, fun y b' m l g hc hne hl => ?_, fun hc => ?_, h8⟩
    · obtain ⟨⟨i1, q1⟩, i2, q2⟩ := hc
      have q1' := gO _ _ _ _ _ q1
      rcases set_of hb q2 with ⟨_, w⟩ | ⟨w0, w⟩
      · simp only [Prod.mk.injEq, Sum.inl.injEq, true_and] at w
        obtain ⟨w1, w2⟩ := w
        subst w1 w2
        have hxy := h2.1 x y b' n0 m k l hx ⟨i1, q1'⟩
        rcases hex with hex | ⟨c1, c2, c3⟩
        · exact absurd (hex.trans (congrArg some hxy)) hne
        · rw [c1]
          exact h7 y b' m l f ⟨⟨i1, q1'⟩, j, hb⟩ (fun z => by rw [c2] at z; cases z) hl
      · refine h7 y b' m l g ⟨⟨i1, q1'⟩, i2, w⟩ (fun z => ?_) hl
        rcases hex with hex | ⟨c1, c2, c3⟩
        · rcases he with he | he
          · rw [he] at z; cases z
          · exact hne (hex.trans (he.symm.trans z))
        · rw [c2] at z; cases z
    · obtain ⟨a, ⟨i, hi⟩, ha⟩ := h5 hc
      have w : i ≠ j := fun w => by rw [w, hb] at hi; cases hi
      refine ⟨a, ⟨i, by rw [List.getElem?_set_ne (Ne.symm w)]; exact hi⟩, fun i hi => ?_⟩
      obtain ⟨y, hy, q⟩ := ha i hi
      exact ⟨y, hy, hm y _ q⟩
  exact ⟨hA _ (Or.inl rfl), fun c1 c2 => hA _ (Or.inr ⟨c1, c2, rfl⟩), hm⟩
/-- what is known of a page changes -/
theorem PI_k {kE kB : ClassId} {e x b j cap : Nat} {n n0 k k' : Int32} {num : Nat → Int32} {ex : Option Nat} {R : va_W} (H : PI kE kB e n cap num ex R) (hx : R[j]? = some (pgO x n0 b k)) (he : ex = none ∨ ex = some x) : PI kE kB e n cap num (some x) (R.set j (pgO x n0 b k')) ∧ (k'.toInt ≠ 2 → PI kE kB e n cap num none (R.set j (pgO x n0 b k'))) ∧ ∀ y m, pgM kB R y m → pgM kB (R.set j (pgO x n0 b k')) y m := by
  obtain ⟨h1, h2, h3, h4, h6, h7, h5, h8⟩ := H
  have hB : ∀ (b' i : Nat) (g : Nat → Int32), R[i]? = some (pgB kB b' g) → (R.set j (pgO x n0 b k'))[i]? = some (pgB kB b' g) := fun b' i g hi => by
    have w : i ≠ j := fun w => by rw [w, hx] at hi; cases hi
    rw [List.getElem?_set_ne (Ne.symm w)]; exact hi
  have hB' : ∀ (kb : ClassId) (b' i : Nat) (g : Nat → Int32), R[i]? = some (pgB kb b' g) → (R.set j (pgO x n0 b k'))[i]? = some (pgB kb b' g) := fun kb b' i g hi => by
    have w : i ≠ j := fun w => by rw [w, hx] at hi; cases hi
    rw [List.getElem?_set_ne (Ne.symm w)]; exact hi
  have gB : ∀ (b' i : Nat) (g : Nat → Int32), (R.set j (pgO x n0 b k'))[i]? = some (pgB kB b' g) → R[i]? = some (pgB kB b' g) := fun b' i g hi => by
    rcases set_of hx hi with ⟨_, w⟩ | ⟨_, w⟩
    · cases w
    · exact w
  have gO : ∀ (y : Nat) (m l : Int32) (b' : Nat), (∃ i : Nat, (R.set j (pgO x n0 b k'))[i]? = some (pgO y m b' l)) → (y = x ∧ m = n0 ∧ b' = b ∧ l = k') ∨ (y ≠ x ∧ ∃ i : Nat, R[i]? = some (pgO y m b' l)) := fun y m l b' ⟨i, hi⟩ => by
    rcases set_of hx hi with ⟨_, w⟩ | ⟨w0, w⟩
    · simp only [Prod.mk.injEq, Sum.inr.injEq, List.cons.injEq, Value.ref.injEq, Value.int.injEq, true_and, and_true] at w
      exact Or.inl ⟨w.1, w.2.1, w.2.2.1, w.2.2.2⟩
    · exact Or.inr ⟨fun z => w0 (h1 i j _ _ w hx z), i, w⟩
  have hm : ∀ y m, pgM kB R y m → pgM kB (R.set j (pgO x n0 b k')) y m := fun y m hy => by
    obtain ⟨b', l, g, ⟨i1, q1⟩, i2, q2⟩ := hy
    by_cases w : y = x
    · subst w
      have q := h1 i1 j _ _ q1 hx rfl
      rw [q, hx] at q1
      have q3 := Option.some.inj q1
      simp only [Prod.mk.injEq, Sum.inr.injEq, List.cons.injEq, Value.ref.injEq, Value.int.injEq, true_and, and_true] at q3
      have q4 : R[i2]? = some (pgB kB b g) := by rw [q3.2.1]; exact q2
      rw [← q3.1]
      exact ⟨b, k', g, ⟨j, set_eq hx⟩, i2, hB _ _ _ q4⟩
    · exact ⟨b', l, g, ⟨i1, set_ne hx q1 w⟩, i2, hB _ _ _ q2⟩
  have hI : pgi (R.set j (pgO x n0 b k')) := by
    refine ⟨fun y z b' m m' l l' hy hz => ?_, fun y b' m l hy => ?_⟩
    · rcases gO y m l b' hy with ⟨a1, _, a3, _⟩ | ⟨_, a2⟩ <;> rcases gO z m' l' b' hz with ⟨c1, _, c3, _⟩ | ⟨_, c2⟩
      · rw [a1, c1]
      · rw [a1]; rw [a3] at c2; exact h2.1 x z b _ _ _ _ ⟨j, hx⟩ c2
      · rw [c1]; rw [c3] at a2; exact h2.1 y x b _ _ _ _ a2 ⟨j, hx⟩
      · exact h2.1 y z b' _ _ _ _ a2 c2
    · have q : ∃ (kb : ClassId) (f : Nat → Int32) (i2 : Nat), R[i2]? = some (pgB kb b' f) := by
        rcases gO y m l b' hy with ⟨_, _, a3, _⟩ | ⟨_, a2⟩
        · rw [a3]; exact h2.2 x b n0 k ⟨j, hx⟩
        · exact h2.2 y b' m l a2
      obtain ⟨kb, g, i2, q2⟩ := q
      exact ⟨kb, g, i2, hB' _ _ _ _ q2⟩
  have hA : ∀ ex' : Option Nat, (ex' = none → k'.toInt ≠ 2) → (ex' = none ∨ ex' = some x) → PI kE kB e n cap num ex' (R.set j (pgO x n0 b k')) := fun ex' hk he' => by
    refine ⟨nd_set hx h1, hI, h3, h4, h6, fun y b' m l g hc hne hl => ?_, fun hc => ?_, h8⟩
    · obtain ⟨o1, i2, q2⟩ := hc
      rcases gO y m l b' o1 with ⟨a1, _, _, a4⟩ | ⟨a1, a2⟩
      · rcases he' with he' | he'
        · exact absurd (a4 ▸ hl) (hk he')
        · exact absurd (he'.trans (congrArg some a1.symm)) hne
      · refine h7 y b' m l g ⟨a2, i2, gB _ _ _ q2⟩ (fun z => ?_) hl
        rcases he with he | he
        · rw [he] at z; cases z
        · rw [he] at z; exact a1 (Option.some.inj z).symm
    · obtain ⟨a, ⟨i, hi⟩, ha⟩ := h5 hc
      have w : i ≠ j := fun w => by rw [w, hx] at hi; cases hi
      refine ⟨a, ⟨i, by rw [List.getElem?_set_ne (Ne.symm w)]; exact hi⟩, fun i hi => ?_⟩
      obtain ⟨y, hy, q⟩ := ha i hi
      exact ⟨y, hy, hm y _ q⟩
  exact ⟨hA (some x) (fun q => by cases q) (Or.inr rfl), fun hk => hA none (fun _ => hk) (Or.inl rfl), hm⟩
/-- a page that was let out is taken back -/
theorem PI_in {kE kB : ClassId} {e x b j j2 cap : Nat} {n n0 k : Int32} {num : Nat → Int32} {f : Nat → Int32} {R : va_W} (H : PI kE kB e n cap num (some x) R) (hx : R[j]? = some (pgO x n0 b k)) (hb : R[j2]? = some (pgB kB b f)) (hf : k.toInt = 2 → 1 ≤ (f 0).toInt ∧ (f 0).toInt ≤ 16) : PI kE kB e n cap num none R := by
  obtain ⟨h1, h2, h3, h4, h6, h7, h5, h8⟩ := H
  refine ⟨h1, h2, h3, h4, h6, fun y b' m l g hc hne hl => ?_, h5, h8⟩
  by_cases w : y = x
  · subst w
    obtain ⟨⟨i1, q1⟩, i2, q2⟩ := hc
    have q := h1 i1 j _ _ q1 hx rfl
    rw [q, hx] at q1
    have q3 := Option.some.inj q1
    simp only [Prod.mk.injEq, Sum.inr.injEq, List.cons.injEq, Value.ref.injEq, Value.int.injEq, true_and, and_true] at q3
    rw [← q3.2.1] at q2
    have q4 := h1 i2 j2 _ _ q2 hb rfl
    rw [q4, hb] at q2
    have q5 := Option.some.inj q2
    simp only [Prod.mk.injEq, Sum.inl.injEq, true_and] at q5
    rw [← q5]
    exact hf (by rw [q3.2.2]; exact hl)
  · exact h7 y b' m l g hc (fun z => w (Option.some.inj z).symm) hl
theorem PI_rt {kE kB : ClassId} {e x b j j2 cap : Nat} {n m k : Int32} {num f : Nat → Int32} {R : va_W} (H : PI kE kB e n cap num none R) (hx : R[j]? = some (pgO x m b k)) (hb : R[j2]? = some (pgB kB b f)) (hk : k.toInt = 2) : pgRt kB R x := ⟨m, b, k, f, ⟨⟨j, hx⟩, j2, hb⟩, H.2.2.2.2.2.1 x b m k f ⟨⟨j, hx⟩, j2, hb⟩ (fun q => by cases q) hk⟩
theorem PI_get {kE kB : ClassId} {e cap : Nat} {n i : Int32} {num : Nat → Int32} {ex : Option Nat} {R : va_W} (H : PI kE kB e n cap num ex R) (h0 : 0 ≤ i.toInt) (h1 : i.toInt < n.toInt) : ∃ (j : Nat) (a : Nat → Option Nat) (x : Nat), R[j]? = some (pgR kE e cap a) ∧ a i.toNatClampNeg = some x ∧ pgM kB R x (num i.toNatClampNeg) := by
  obtain ⟨_, _, _, _, _, _, h5, _⟩ := H
  obtain ⟨a, ⟨j, hj⟩, ha⟩ := h5 (by omega)
  have q : (i.toNatClampNeg : Int) = i.toInt := Int.toNat_of_nonneg h0
  obtain ⟨x, hx, hg⟩ := ha i.toNatClampNeg (by omega)
  exact ⟨j, a, x, hj, hx, hg⟩
/-- looking for a number among rising ones -/
def loI (num : Nat → Int32) (k v : Int32) : Prop := ∀ i : Nat, (i : Int) < k.toInt → (num i).toInt < v.toInt
def hiI (num : Nat → Int32) (k n v : Int32) : Prop := ∀ i : Nat, k.toInt ≤ (i : Int) → (i : Int) < n.toInt → v.toInt ≤ (num i).toInt
theorem lo_0 {num : Nat → Int32} {k v : Int32} (e : k.toInt ≤ 0) : loI num k v := fun i h => by omega
theorem hi_0 {num : Nat → Int32} {k n v : Int32} (e : n.toInt ≤ k.toInt) : hiI num k n v := fun i h1 h2 => by omega
theorem lo_s {num : Nat → Int32} {k' n v m x : Int32} (hs : ∀ i j : Nat, i < j → (j : Int) < n.toInt → (num i).toInt < (num j).toInt) (hx : x = num m.toNatClampNeg) (h0 : 0 ≤ m.toInt) (h1 : m.toInt < n.toInt) (hv : x.toInt < v.toInt) (e : k'.toInt = m.toInt + 1) : loI num k' v := fun i h => by
  have q : (m.toNatClampNeg : Int) = m.toInt := Int.toNat_of_nonneg h0
  rw [hx] at hv
  rcases (show i < m.toNatClampNeg ∨ i = m.toNatClampNeg by omega) with w | w
  · have := hs i m.toNatClampNeg w (by omega)
    omega
  · rw [w]; exact hv
theorem hi_s {num : Nat → Int32} {n v m x : Int32} (hs : ∀ i j : Nat, i < j → (j : Int) < n.toInt → (num i).toInt < (num j).toInt) (hx : x = num m.toNatClampNeg) (h0 : 0 ≤ m.toInt) (hv : v.toInt ≤ x.toInt) : hiI num m n v := fun i h1 h2 => by
  have q : (m.toNatClampNeg : Int) = m.toInt := Int.toNat_of_nonneg h0
  rw [hx] at hv
  rcases (show m.toNatClampNeg < i ∨ i = m.toNatClampNeg by omega) with w | w
  · have := hs m.toNatClampNeg i w h2
    omega
  · rw [w]; exact hv
theorem cw_at {c : Nat → Nat} {kc : Nat → ClassId} {st : Nat → Int32} {lg : Nat → Int64} {ai : Nat → Nat → Int32} {al : Nat → Nat → Int64} {R : va_W} {j : Nat} {q : Nat × va_E} (h : R[j]? = some q) : (cw_W c kc st lg ai al R)[26 + j]? = some q := by
  rw [cw_app, List.getElem?_append_right (by rw [cw_len]; omega), cw_len, Nat.add_sub_cancel_left]
  exact h
theorem cw_set {c : Nat → Nat} {kc : Nat → ClassId} {st : Nat → Int32} {lg : Nat → Int64} {ai : Nat → Nat → Int32} {al : Nat → Nat → Int64} {R : va_W} {j : Nat} {q : Nat × va_E} : (cw_W c kc st lg ai al R).set (26 + j) q = cw_W c kc st lg ai al (R.set j q) := by
  rw [cw_app, cw_app, List.set_append_right _ _ (by rw [cw_len]; omega), cw_len, Nat.add_sub_cancel_left]
/-- a page's mark is put -/
theorem pg_setk {D : va_G} {A : Nat → Prop} {H : Heap} {c : Nat → Nat} {kc : Nat → ClassId} {st : Nat → Int32} {lg : Nat → Int64} {ai : Nat → Nat → Int32} {al : Nat → Nat → Int64} {R : va_W} {kE kB : ClassId} {e x b j j2 cap : Nat} {n m k k' : Int32} {num f : Nat → Int32} {ex : Option Nat}
    (hP : va_P D vwCl ((cw_W c kc st lg ai al R).set (26 + j) (pgO x m b k')) H) (hD : va_D A ((cw_W c kc st lg ai al R).set (26 + j) (pgO x m b k'))) (hPI : PI kE kB e n cap num ex R) (hj : R[j]? = some (pgO x m b k)) (hj2 : R[j2]? = some (pgB kB b f)) (he : ex = none ∨ ex = some x) :
    ∃ R1 : va_W, va_P D vwCl (cw_W c kc st lg ai al R1) H ∧ va_D A (cw_W c kc st lg ai al R1) ∧ PI kE kB e n cap num (some x) R1 ∧ (k'.toInt ≠ 2 → PI kE kB e n cap num none R1) ∧ (∀ y m, pgM kB R y m → pgM kB R1 y m) ∧ R1[j]? = some (pgO x m b k') ∧ R1[j2]? = some (pgB kB b f) := by
  rw [cw_set] at hP hD
  obtain ⟨q1, q2, q3⟩ := PI_k (k' := k') hPI hj he
  have hne : j2 ≠ j := fun w => by rw [w, hj] at hj2; cases hj2
  exact ⟨_, hP, hD, q1, q2, q3, set_eq hj, by rw [List.getElem?_set_ne (Ne.symm hne)]; exact hj2⟩
/-- a byte of a page is put -/
theorem pg_setb {D : va_G} {A : Nat → Prop} {H : Heap} {c : Nat → Nat} {kc : Nat → ClassId} {st : Nat → Int32} {lg : Nat → Int64} {ai : Nat → Nat → Int32} {al : Nat → Nat → Int64} {R : va_W} {kE kB : ClassId} {e x b j j2 cap : Nat} {n m k : Int32} {num f f' : Nat → Int32} {ex : Option Nat}
    (hP : va_P D vwCl ((cw_W c kc st lg ai al R).set (26 + j2) (pgB kB b f')) H) (hD : va_D A ((cw_W c kc st lg ai al R).set (26 + j2) (pgB kB b f'))) (hPI : PI kE kB e n cap num ex R) (hj : R[j]? = some (pgO x m b k)) (hj2 : R[j2]? = some (pgB kB b f)) (he : ex = none ∨ ex = some x) :
    ∃ R1 : va_W, va_P D vwCl (cw_W c kc st lg ai al R1) H ∧ va_D A (cw_W c kc st lg ai al R1) ∧ PI kE kB e n cap num (some x) R1 ∧ (f' 0 = f 0 → ex = none → PI kE kB e n cap num none R1) ∧ (∀ y m, pgM kB R y m → pgM kB R1 y m) ∧ R1[j]? = some (pgO x m b k) ∧ R1[j2]? = some (pgB kB b f') := by
  rw [cw_set] at hP hD
  obtain ⟨q1, q2, q3⟩ := PI_b (f' := f') hPI ⟨j, hj⟩ hj2 he
  have hne : j ≠ j2 := fun w => by rw [w, hj2] at hj; cases hj
  exact ⟨_, hP, hD, q1, q2, q3, by rw [List.getElem?_set_ne (Ne.symm hne)]; exact hj, set_eq hj2⟩
theorem upd_0 {f : Nat → Int32} {i v : Int32} (h : 0 < i.toInt) : upd f i.toNatClampNeg v 0 = f 0 := by
  rw [upd, if_neg]
  show ¬ 0 = i.toInt.toNat
  omega
theorem hi_e {num : Nat → Int32} {k k' n v : Int32} (h : hiI num k n v) (e : k.toInt ≤ k'.toInt) : hiI num k' n v := fun i h1 h2 => h i (by omega) h2
theorem st_0 {a b k : Int32} (h : b.toInt - a.toInt ≤ 65536) (hk : k.toInt = 0) : (b.toInt - a.toInt).toNat ≤ 65536 / 2 ^ k.toInt.toNat := by
  rw [hk]
  show _ ≤ 65536 / 1
  omega
theorem st_s {a b a' b' k k' : Int32} (h : (b.toInt - a.toInt).toNat ≤ 65536 / 2 ^ k.toInt.toNat) (h0 : 0 ≤ k.toInt) (hd : 2 * (b'.toInt - a'.toInt) ≤ b.toInt - a.toInt) (e : k'.toInt = k.toInt + 1) : (b'.toInt - a'.toInt).toNat ≤ 65536 / 2 ^ k'.toInt.toNat := by
  have e1 : k'.toInt.toNat = k.toInt.toNat + 1 := by omega
  rw [e1, Nat.pow_succ, ← Nat.div_div_eq_div_mul]
  generalize 65536 / 2 ^ k.toInt.toNat = z at h ⊢
  omega
theorem st_e {a b k : Int32} (h : (b.toInt - a.toInt).toNat ≤ 65536 / 2 ^ k.toInt.toNat) (hle : a.toInt ≤ b.toInt) (hx : b.toInt ≤ a.toInt ∨ 32 ≤ k.toInt) : b.toInt = a.toInt := by
  rcases hx with hx | hx
  · omega
  · have h1 : 2 ^ 32 ≤ 2 ^ k.toInt.toNat := Nat.pow_le_pow_right (by decide) (by omega)
    have h2 : 65536 / 2 ^ k.toInt.toNat = 0 := Nat.div_eq_of_lt (by omega)
    rw [h2] at h
    omega
theorem PI_out {kE kB : ClassId} {e x cap : Nat} {n : Int32} {num : Nat → Int32} {R : va_W} (H : PI kE kB e n cap num none R) : PI kE kB e n cap num (some x) R := ⟨H.1, H.2.1, H.2.2.1, H.2.2.2.1, H.2.2.2.2.1, fun y b m k f hc _ hl => H.2.2.2.2.2.1 y b m k f hc (fun q => by cases q) hl, H.2.2.2.2.2.2⟩
theorem pgRt_f {kB : ClassId} {R : va_W} {x b j i : Nat} {m k : Int32} {f : Nat → Int32} (hn : nd R) (hr : pgRt kB R x) (hj : R[j]? = some (pgO x m b k)) (hi : R[i]? = some (pgB kB b f)) : 1 ≤ (f 0).toInt ∧ (f 0).toInt ≤ 16 := by
  obtain ⟨m', b', k', f', ⟨⟨i1, q1⟩, i2, q2⟩, r⟩ := hr
  have w := hn i1 j _ _ q1 hj rfl
  rw [w, hj] at q1
  have w2 := Option.some.inj q1
  simp only [Prod.mk.injEq, Sum.inr.injEq, List.cons.injEq, Value.ref.injEq, Value.int.injEq, true_and, and_true] at w2
  rw [← w2.2.1] at q2
  have w3 := hn i2 i _ _ q2 hi rfl
  rw [w3, hi] at q2
  have w4 := Option.some.inj q2
  simp only [Prod.mk.injEq, Sum.inl.injEq, true_and] at w4
  rw [w4]
  exact r
theorem PI_rg {kE kB : ClassId} {e cap : Nat} {n i x : Int32} {num : Nat → Int32} {ex : Option Nat} {R : va_W} (H : PI kE kB e n cap num ex R) (h0 : 0 ≤ i.toInt) (h1 : i.toInt < n.toInt) (hx : x = num i.toNatClampNeg) : 0 ≤ x.toInt ∧ x.toInt < 65536 := by
  have q : (i.toNatClampNeg : Int) = i.toInt := Int.toNat_of_nonneg h0
  rw [hx]
  exact H.2.2.2.2.2.2.2 _ (by omega)
